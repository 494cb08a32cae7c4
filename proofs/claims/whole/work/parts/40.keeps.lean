
def mH (M T : Mm_) : Prop := ∀ i, 48 ≤ i → T.1 i = M.1 i
theorem grM_H {M T : Mm_} (h : mH M T) : grM T = grM M := by unfold grM; rw [h 50 (by decide)]
theorem kdM_H {M T : Mm_} (h : mH M T) : kdM T = kdM M := by unfold kdM; rw [h 50 (by decide)]
theorem wonM_H {M T : Mm_} (h : mH M T) : wonM T = wonM M := by
  unfold wonM fM pdM ppM
  rw [h 53 (by decide), h 48 (by decide), h 52 (by decide), h 51 (by decide), h 56 (by decide)]
theorem curM_H {M T : Mm_} (h : mH M T) (n : Nat) : curM T n = curM M n := by
  unfold curM
  rw [wonM_H h, h 54 (by decide)]
theorem setM_H {M T : Mm_} (h : mH M T) (n : Nat) : setM T n = setM M n := by
  unfold setM
  rw [wonM_H h, h 54 (by decide)]
theorem oM_H {M T : Mm_} (h : mH M T) (hM : oM M) : oM T := oM_W ⟨fun i hi => h i (by omega), fun j _ => by rw [h 48 (by decide)]⟩ hM
theorem bt_fN : ∀ s : Nat, s < 64 → ∀ k : Nat, k < 6 → (0 ≤ an s (2 ^ k) ∧ an s (2 ^ k) ≤ s) ∧ ∀ j : Nat, j < 6 → bt (an s (2 ^ k)) j = if j = k then 0 else bt s j := by decide +kernel
theorem bt_f {s : Int} (h0 : 0 ≤ s) (h1 : s < 64) {k : Nat} (hk : k < 6) : (0 ≤ an s (2 ^ k) ∧ an s (2 ^ k) ≤ s) ∧ ∀ j : Nat, j < 6 → bt (an s (2 ^ k)) j = if j = k then 0 else bt s j := by
  obtain ⟨n, rfl⟩ := Int.eq_ofNat_of_zero_le h0
  exact bt_fN n (by omega) k hk
theorem an_sbN : ∀ a : Nat, a < 64 → ∀ b : Nat, b < 64 → an a b = sb (fun k => decide (bt a k = 1 ∧ bt b k = 0)) 6 := by decide +kernel
theorem an_cN : ∀ a : Nat, a < 64 → ∀ b : Nat, b < 64 → (b : Int) + an a b = sb (fun k => decide (bt a k = 1 ∨ bt b k = 1)) 6 := by decide +kernel
theorem sb_t (c : Nat → Bool) {m n : Nat} (h : m ≤ n) (hz : ∀ i, m ≤ i → i < n → c i = false) : sb c n = sb c m := sm_tail n h (fun i a b => by rw [hz i a b]; rfl)
theorem an_sb {a b : Int} (h0 : 0 ≤ a) (h1 : a < 64) (h2 : 0 ≤ b) (h3 : b < 64) : an a b = sb (fun k => decide (bt a k = 1 ∧ bt b k = 0)) 6 ∧ b + an a b = sb (fun k => decide (bt a k = 1 ∨ bt b k = 1)) 6 := by
  obtain ⟨n, rfl⟩ := Int.eq_ofNat_of_zero_le h0
  obtain ⟨m, rfl⟩ := Int.eq_ofNat_of_zero_le h2
  exact ⟨an_sbN n (by omega) m (by omega), an_cN n (by omega) m (by omega)⟩
theorem pw64 {m : Nat} (h : m ≤ 6) : (2 : Int) ^ m ≤ 64 := (pw_b h).2
theorem b_cur {c : Nat} {M : Mm_} (h : INV c M) : curM M (M.1 48 4).toNat = ob (an (WDc (M.1 7) (FA (M.1 9) (M.1 10) (M.1 8 7) (M.1 13) (M.1 14)) (M.1 3 5).toNat) (M.1 8 8)) := by
  have hn := I_n h
  obtain ⟨W, eW⟩ : ∃ W, WDc (M.1 7) (FA (M.1 9) (M.1 10) (M.1 8 7) (M.1 13) (M.1 14)) (M.1 3 5).toNat = W := ⟨_, rfl⟩
  have hWb := WDc_b (M.1 7) (FA (M.1 9) (M.1 10) (M.1 8 7) (M.1 13) (M.1 14)) (M.1 3 5).toNat (by omega)
  have hW2 := sbb (fun j => decide (M.1 7 j ≤ FA (M.1 9) (M.1 10) (M.1 8 7) (M.1 13) (M.1 14) (j : Int))) (M.1 3 5).toNat
  have hW3 : 0 ≤ W ∧ W < 2 ^ (M.1 3 5).toNat := by rw [← eW]; exact hW2
  rw [eW] at hWb
  have hs := h.1.2.2.2.2.1
  have hp := pw64 (m := (M.1 3 5).toNat) (by omega)
  rw [eW, (an_sb hWb.1 hWb.2 hs.1 (by have := hs.2; omega)).1, ob_sb _ (by decide)]
  unfold curM
  rw [b_won h, eW, I_4 h, sm_tail (n := (M.1 3 5).toNat) 6 (by omega) (fun i a b => by rw [bt_out hW3.1 hW3.2 a]; simp)]
  refine sm_congr (fun i hi => ?_)
  rw [I_s4 h i (by omega)]
  simp
theorem b_set {c : Nat} {M : Mm_} (h : INV c M) : (0 ≤ M.1 8 8 + an (WDc (M.1 7) (FA (M.1 9) (M.1 10) (M.1 8 7) (M.1 13) (M.1 14)) (M.1 3 5).toNat) (M.1 8 8) ∧ M.1 8 8 + an (WDc (M.1 7) (FA (M.1 9) (M.1 10) (M.1 8 7) (M.1 13) (M.1 14)) (M.1 3 5).toNat) (M.1 8 8) < 2 ^ (M.1 3 5).toNat) ∧ ∀ j : Nat, (j : Int) < M.1 3 5 → setM M (M.1 48 4).toNat j = bt (M.1 8 8 + an (WDc (M.1 7) (FA (M.1 9) (M.1 10) (M.1 8 7) (M.1 13) (M.1 14)) (M.1 3 5).toNat) (M.1 8 8)) j := by
  have hn := I_n h
  obtain ⟨W, eW⟩ : ∃ W, WDc (M.1 7) (FA (M.1 9) (M.1 10) (M.1 8 7) (M.1 13) (M.1 14)) (M.1 3 5).toNat = W := ⟨_, rfl⟩
  have hWb := WDc_b (M.1 7) (FA (M.1 9) (M.1 10) (M.1 8 7) (M.1 13) (M.1 14)) (M.1 3 5).toNat (by omega)
  have hW2 := sbb (fun j => decide (M.1 7 j ≤ FA (M.1 9) (M.1 10) (M.1 8 7) (M.1 13) (M.1 14) (j : Int))) (M.1 3 5).toNat
  have hW3 : 0 ≤ W ∧ W < 2 ^ (M.1 3 5).toNat := by rw [← eW]; exact hW2
  rw [eW] at hWb ⊢
  have hs := h.1.2.2.2.2.1
  have hp := pw64 (m := (M.1 3 5).toNat) (by omega)
  rw [(an_sb hWb.1 hWb.2 hs.1 (by have := hs.2; omega)).2, sb_t _ (m := (M.1 3 5).toNat) (n := 6) (by omega) (fun i a b => by rw [bt_out hW3.1 hW3.2 a, bt_out hs.1 hs.2 a]; rfl)]
  refine ⟨sbb _ _, fun j hj => ?_⟩
  rw [sb_bt _ (by omega)]
  unfold setM
  have hb := bt_b (M.1 8 8) j
  rw [b_won h, eW, I_4 h, I_s4 h j hj]
  by_cases q : bt W j = 1
  · rw [if_pos ⟨by omega, q⟩, if_pos (decide_eq_true (Or.inl q))]
  · rw [if_neg (fun x => q x.2)]
    by_cases q2 : bt (M.1 8 8) j = 1
    · rw [if_pos (decide_eq_true (Or.inr q2)), q2]
    · rw [if_neg (by simp [q, q2])]
      omega
theorem sm_upd {f : Nat → Int} {k : Nat} {v : Int} : ∀ n, k < n → sm (fun j => if j = k then v else f j) n = sm f n - f k + v
  | 0, h => absurd h (by omega)
  | n + 1, h => by
    show sm (fun j => if j = k then v else f j) n + (if n = k then v else f n) = sm f n + f n - f k + v
    by_cases q : n = k
    · subst q
      rw [if_pos rfl, sm_congr (f := fun j => if j = n then v else f j) (g := f) (fun i hi => by rw [if_neg (by omega)])]
      omega
    · rw [if_neg q, sm_upd n (by omega)]
      omega

set_option maxRecDepth 10000 in
set_option maxHeartbeats 1000000 in
theorem K_letter {c : Nat} {M : Mm_} (hI : INV c M) {a : Int} (ha : 1 ≤ a ∧ a ≤ 126) (hs : M.1 1 1 < 24) : INV (c) (mLetM (mLet M a) a) := by
  obtain ⟨⟨hA1, hA2, hA3, hA4, hA5, hA6, hA7, hA8⟩, ⟨hB1, hB2, hB3, hB4, hB5, hB6, hB7, hB8, hB9⟩, hC1, hC2, ⟨hS1n, hS2n, hS3n, hS4n, hS5n, hS6n, hS7n⟩, hC4, hC5, hC6⟩ := id hI
  have hn := I_n hI
  obtain ⟨K, hK⟩ : ∃ K : Mm_, (mLetM (mLet M a) a) = K := ⟨_, rfl⟩
  rw [hK]
  have k2 : K.1 2 = (fun j => if j = (M.1 1 1).toNat then a else M.1 2 j) := by rw [← hK]; funext y; simp [mLetM, mLet, mU, mR]
  have k4 : K.1 4 = M.1 4 := by rw [← hK]; funext y; simp [mLetM, mLet, mU, mR]
  have k5 : K.1 5 = M.1 5 := by rw [← hK]; funext y; simp [mLetM, mLet, mU, mR]
  have k6 : K.1 6 = M.1 6 := by rw [← hK]; funext y; simp [mLetM, mLet, mU, mR]
  have k7 : K.1 7 = M.1 7 := by rw [← hK]; funext y; simp [mLetM, mLet, mU, mR]
  have k9 : K.1 9 = M.1 9 := by rw [← hK]; funext y; simp [mLetM, mLet, mU, mR]
  have k10 : K.1 10 = M.1 10 := by rw [← hK]; funext y; simp [mLetM, mLet, mU, mR]
  have k11 : K.1 11 = M.1 11 := by rw [← hK]; funext y; simp [mLetM, mLet, mU, mR]
  have k12 : K.1 12 = M.1 12 := by rw [← hK]; funext y; simp [mLetM, mLet, mU, mR]
  have k13 : K.1 13 = M.1 13 := by rw [← hK]; funext y; simp [mLetM, mLet, mU, mR]
  have k14 : K.1 14 = M.1 14 := by rw [← hK]; funext y; simp [mLetM, mLet, mU, mR]
  have k16 : K.1 16 = M.1 16 := by rw [← hK]; funext y; simp [mLetM, mLet, mU, mR]
  have k17 : K.1 17 = M.1 17 := by rw [← hK]; funext y; simp [mLetM, mLet, mU, mR]
  have k18 : K.1 18 = M.1 18 := by rw [← hK]; funext y; simp [mLetM, mLet, mU, mR]
  have k20 : K.1 20 = M.1 20 := by rw [← hK]; funext y; simp [mLetM, mLet, mU, mR]
  have k21 : K.1 21 = M.1 21 := by rw [← hK]; funext y; simp [mLetM, mLet, mU, mR]
  have k22 : K.1 22 = M.1 22 := by rw [← hK]; funext y; simp [mLetM, mLet, mU, mR]
  have k23 : K.1 23 = M.1 23 := by rw [← hK]; funext y; simp [mLetM, mLet, mU, mR]
  have k24 : K.1 24 = M.1 24 := by rw [← hK]; funext y; simp [mLetM, mLet, mU, mR]
  have k25 : K.1 25 = M.1 25 := by rw [← hK]; funext y; simp [mLetM, mLet, mU, mR]
  have k27 : K.1 27 = M.1 27 := by rw [← hK]; funext y; simp [mLetM, mLet, mU, mR]
  have k28 : K.1 28 = M.1 28 := by rw [← hK]; funext y; simp [mLetM, mLet, mU, mR]
  have k29 : K.1 29 = M.1 29 := by rw [← hK]; funext y; simp [mLetM, mLet, mU, mR]
  have k49 : K.1 49 = (fun j => if j = (M.1 48 1).toNat then a else M.1 49 j) := by rw [← hK]; funext y; simp [mLetM, mLet, mU, mR]
  have k50 : K.1 50 = M.1 50 := by rw [← hK]; funext y; simp [mLetM, mLet, mU, mR]
  have k51 : K.1 51 = M.1 51 := by rw [← hK]; funext y; simp [mLetM, mLet, mU, mR]
  have k52 : K.1 52 = M.1 52 := by rw [← hK]; funext y; simp [mLetM, mLet, mU, mR]
  have k53 : K.1 53 = M.1 53 := by rw [← hK]; funext y; simp [mLetM, mLet, mU, mR]
  have k54 : K.1 54 = M.1 54 := by rw [← hK]; funext y; simp [mLetM, mLet, mU, mR]
  have k55 : K.1 55 = M.1 55 := by rw [← hK]; funext y; simp [mLetM, mLet, mU, mR]
  have k56 : K.1 56 = M.1 56 := by rw [← hK]; funext y; simp [mLetM, mLet, mU, mR]
  have k60 : K.1 60 = M.1 60 := by rw [← hK]; funext y; simp [mLetM, mLet, mU, mR]
  have k62 : K.1 62 = M.1 62 := by rw [← hK]; funext y; simp [mLetM, mLet, mU, mR]
  have k63 : K.1 63 = M.1 63 := by rw [← hK]; funext y; simp [mLetM, mLet, mU, mR]
  have k64 : K.1 64 = M.1 64 := by rw [← hK]; funext y; simp [mLetM, mLet, mU, mR]
  have k65 : K.1 65 = M.1 65 := by rw [← hK]; funext y; simp [mLetM, mLet, mU, mR]
  have k66 : K.1 66 = M.1 66 := by rw [← hK]; funext y; simp [mLetM, mLet, mU, mR]
  have k67 : K.1 67 = M.1 67 := by rw [← hK]; funext y; simp [mLetM, mLet, mU, mR]
  have k68 : K.1 68 = M.1 68 := by rw [← hK]; funext y; simp [mLetM, mLet, mU, mR]
  have k0_5 : K.1 0 5 = M.1 0 5 := by rw [← hK]; simp [mLetM, mLet, mU, mR]
  have k0_6 : K.1 0 6 = M.1 0 6 := by rw [← hK]; simp [mLetM, mLet, mU, mR]
  have k0_7 : K.1 0 7 = M.1 0 7 := by rw [← hK]; simp [mLetM, mLet, mU, mR]
  have k0_8 : K.1 0 8 = M.1 0 8 := by rw [← hK]; simp [mLetM, mLet, mU, mR]
  have k1_1 : K.1 1 1 = M.1 1 1 + 1 := by rw [← hK]; simp [mLetM, mLet, mU, mR]
  have k3_4 : K.1 3 4 = M.1 3 4 := by rw [← hK]; simp [mLetM, mLet, mU, mR]
  have k3_5 : K.1 3 5 = M.1 3 5 := by rw [← hK]; simp [mLetM, mLet, mU, mR]
  have k8_7 : K.1 8 7 = M.1 8 7 := by rw [← hK]; simp [mLetM, mLet, mU, mR]
  have k8_8 : K.1 8 8 = M.1 8 8 := by rw [← hK]; simp [mLetM, mLet, mU, mR]
  have k8_9 : K.1 8 9 = M.1 8 9 := by rw [← hK]; simp [mLetM, mLet, mU, mR]
  have k8_10 : K.1 8 10 = M.1 8 10 := by rw [← hK]; simp [mLetM, mLet, mU, mR]
  have k15_3 : K.1 15 3 = M.1 15 3 := by rw [← hK]; simp [mLetM, mLet, mU, mR]
  have k19_7 : K.1 19 7 = M.1 19 7 := by rw [← hK]; simp [mLetM, mLet, mU, mR]
  have k19_8 : K.1 19 8 = M.1 19 8 := by rw [← hK]; simp [mLetM, mLet, mU, mR]
  have k19_9 : K.1 19 9 = M.1 19 9 := by rw [← hK]; simp [mLetM, mLet, mU, mR]
  have k19_10 : K.1 19 10 = M.1 19 10 := by rw [← hK]; simp [mLetM, mLet, mU, mR]
  have k26_3 : K.1 26 3 = M.1 26 3 := by rw [← hK]; simp [mLetM, mLet, mU, mR]
  have k48_1 : K.1 48 1 = M.1 48 1 + 1 := by rw [← hK]; simp [mLetM, mLet, mU, mR]
  have k48_3 : K.1 48 3 = M.1 48 3 := by rw [← hK]; simp [mLetM, mLet, mU, mR]
  have k48_4 : K.1 48 4 = M.1 48 4 := by rw [← hK]; simp [mLetM, mLet, mU, mR]
  have k48_5 : K.1 48 5 = M.1 48 5 := by rw [← hK]; simp [mLetM, mLet, mU, mR]
  have k48_6 : K.1 48 6 = M.1 48 6 := by rw [← hK]; simp [mLetM, mLet, mU, mR]
  have k48_7 : K.1 48 7 = M.1 48 7 := by rw [← hK]; simp [mLetM, mLet, mU, mR]
  have k48_8 : K.1 48 8 = M.1 48 8 := by rw [← hK]; simp [mLetM, mLet, mU, mR]
  have k48_9 : K.1 48 9 = M.1 48 9 := by rw [← hK]; simp [mLetM, mLet, mU, mR]
  have k48_18 : K.1 48 18 = M.1 48 18 := by rw [← hK]; simp [mLetM, mLet, mU, mR]
  have k48_21 : K.1 48 21 = M.1 48 21 := by rw [← hK]; simp [mLetM, mLet, mU, mR]
  have k48_22 : K.1 48 22 = M.1 48 22 := by rw [← hK]; simp [mLetM, mLet, mU, mR]
  have k48_26 : K.1 48 26 = M.1 48 26 := by rw [← hK]; simp [mLetM, mLet, mU, mR]
  have k48_27 : K.1 48 27 = M.1 48 27 := by rw [← hK]; simp [mLetM, mLet, mU, mR]
  have k48_28 : K.1 48 28 = M.1 48 28 := by rw [← hK]; simp [mLetM, mLet, mU, mR]
  have k48_29 : K.1 48 29 = M.1 48 29 := by rw [← hK]; simp [mLetM, mLet, mU, mR]
  have k48_30 : K.1 48 30 = M.1 48 30 := by rw [← hK]; simp [mLetM, mLet, mU, mR]
  have k48_31 : K.1 48 31 = M.1 48 31 := by rw [← hK]; simp [mLetM, mLet, mU, mR]
  have jA1 : A1 K := by
    unfold A1 oP
    simp only [k1_1, k2]
    exact ⟨by have := hA1.1; omega, fun i hi => by have := hA1.2 i hi; split <;> omega⟩
  have jA2 : A2 K := by
    unfold A2 oV
    simp only [k3_4, k3_5, k4, k5, k6, k7]
    exact hA2
  have jA3 : A3 K := by
    unfold A3 oF
    simp only [k9, k10, k8_7, k13, k14]
    exact hA3
  have jA4 : A4 K := by
    unfold A4
    simp only [k12]
    exact hA4
  have jA5 : A5 K := by
    unfold A5
    simp only [k8_8, k3_5]
    exact hA5
  have jA6 : A6 K := by
    unfold A6
    simp only [k8_9]
    exact hA6
  have jA7 : A7 K := by
    unfold A7
    simp only [k15_3, k16, k17, k18]
    exact hA7
  have jA8 : A8 K := by
    unfold A8
    simp only [k0_7, k0_8, k0_5]
    exact hA8
  have jB1 : B1 K := by
    unfold B1 oMp
    simp only [k48_1, k49]
    have e := hC1.1
    exact ⟨by have := hB1.1; omega, fun i hi => by have := hB1.2 i hi; split <;> omega⟩
  have jB2 : B2 K := by
    unfold B2 oMv
    simp only [k48_3, k48_4]
    exact hB2
  have jB3 : B3 K := by
    unfold B3 oMr
    simp only [k50]
    exact hB3
  have jB4 : B4 K := by
    unfold B4 oMf
    simp only [k51, k48_8, k56, k53]
    exact hB4
  have jB5 : B5 K := by
    unfold B5 oMg
    simp only [k52]
    exact hB5
  have jB6 : B6 K := by
    unfold B6 oMs
    simp only [k48_22, k60]
    exact hB6
  have jB7 : B7 K := by
    unfold B7
    simp only [k55]
    exact hB7
  have jB8 : B8 K := by
    unfold B8
    simp only [k54]
    exact hB8
  have jB9 : B9 K := by
    unfold B9
    simp only [k48_5]
    exact hB9
  have jC1 : C1 K := by
    unfold C1
    simp only [k48_1, k1_1, k49, k2]
    exact ⟨by rw [hC1.1], by rw [hC1.1, hC1.2]⟩
  have jC2 : C2 K := by
    unfold C2
    simp only [k48_3, k3_4, k48_4, k3_5, k50, k4, k5, k6, k53, k7]
    exact hC2
  have jS1n : S1n K := by
    unfold S1n
    simp only [k3_4, k50, k11, k51, k10, k52, k9]
    exact hS1n
  have jS2n : S2n K := by
    unfold S2n
    simp only [k3_4, k9, k11]
    exact hS2n
  have jS3n : S3n K := by
    unfold S3n
    simp only [k55, k12]
    exact hS3n
  have jS4n : S4n K := by
    unfold S4n
    simp only [k3_5, k54, k8_8]
    exact hS4n
  have jS5n : S5n K := by
    unfold S5n
    simp only [k56, k13, k14, k48_8, k8_7]
    exact hS5n
  have jS6n : S6n K := by
    unfold S6n
    simp only [k60, k16, k17, k18, k48_22, k15_3]
    exact hS6n
  have jS7n : S7n K := by
    unfold S7n
    simp only [k48_5, k8_9, k48_6, k11, k48_7, k8_10]
    exact hS7n
  have jC4 : C4 K := by
    unfold C4
    simp only [k48_9, k0_6, k48_18, k0_7, k48_21, k0_8]
    exact hC4
  have jC5 : C5 (c) K := by
    unfold C5
    simp only [k48_26, k48_9, k0_5]
    exact hC5
  have jC6 : C6 K := by
    unfold C6 KP S1k S2k S3k S4k S5k S6k S7k oF
    simp only [k0_5, k50, k3_4, k3_5, k20, k21, k22, k23, k24, k25, k27, k28, k29, k19_7, k19_8, k19_9, k19_10, k26_3, k62, k63, k64, k65, k66, k67, k68, k48_27, k48_28, k48_29, k48_30, k48_31]
    exact hC6
  exact ⟨⟨jA1, jA2, jA3, jA4, jA5, jA6, jA7, jA8⟩, ⟨jB1, jB2, jB3, jB4, jB5, jB6, jB7, jB8, jB9⟩, jC1, jC2, ⟨jS1n, jS2n, jS3n, jS4n, jS5n, jS6n, jS7n⟩, jC4, jC5, jC6⟩
set_option maxRecDepth 10000 in
set_option maxHeartbeats 1000000 in
theorem K_blank {c : Nat} {M : Mm_} (hI : INV c M)  : INV (c) (mU (mU M 1 1 0) 48 1 0) := by
  obtain ⟨⟨hA1, hA2, hA3, hA4, hA5, hA6, hA7, hA8⟩, ⟨hB1, hB2, hB3, hB4, hB5, hB6, hB7, hB8, hB9⟩, hC1, hC2, ⟨hS1n, hS2n, hS3n, hS4n, hS5n, hS6n, hS7n⟩, hC4, hC5, hC6⟩ := id hI
  have hn := I_n hI
  obtain ⟨K, hK⟩ : ∃ K : Mm_, (mU (mU M 1 1 0) 48 1 0) = K := ⟨_, rfl⟩
  rw [hK]
  have k2 : K.1 2 = M.1 2 := by rw [← hK]; funext y; simp [mU, mR]
  have k4 : K.1 4 = M.1 4 := by rw [← hK]; funext y; simp [mU, mR]
  have k5 : K.1 5 = M.1 5 := by rw [← hK]; funext y; simp [mU, mR]
  have k6 : K.1 6 = M.1 6 := by rw [← hK]; funext y; simp [mU, mR]
  have k7 : K.1 7 = M.1 7 := by rw [← hK]; funext y; simp [mU, mR]
  have k9 : K.1 9 = M.1 9 := by rw [← hK]; funext y; simp [mU, mR]
  have k10 : K.1 10 = M.1 10 := by rw [← hK]; funext y; simp [mU, mR]
  have k11 : K.1 11 = M.1 11 := by rw [← hK]; funext y; simp [mU, mR]
  have k12 : K.1 12 = M.1 12 := by rw [← hK]; funext y; simp [mU, mR]
  have k13 : K.1 13 = M.1 13 := by rw [← hK]; funext y; simp [mU, mR]
  have k14 : K.1 14 = M.1 14 := by rw [← hK]; funext y; simp [mU, mR]
  have k16 : K.1 16 = M.1 16 := by rw [← hK]; funext y; simp [mU, mR]
  have k17 : K.1 17 = M.1 17 := by rw [← hK]; funext y; simp [mU, mR]
  have k18 : K.1 18 = M.1 18 := by rw [← hK]; funext y; simp [mU, mR]
  have k20 : K.1 20 = M.1 20 := by rw [← hK]; funext y; simp [mU, mR]
  have k21 : K.1 21 = M.1 21 := by rw [← hK]; funext y; simp [mU, mR]
  have k22 : K.1 22 = M.1 22 := by rw [← hK]; funext y; simp [mU, mR]
  have k23 : K.1 23 = M.1 23 := by rw [← hK]; funext y; simp [mU, mR]
  have k24 : K.1 24 = M.1 24 := by rw [← hK]; funext y; simp [mU, mR]
  have k25 : K.1 25 = M.1 25 := by rw [← hK]; funext y; simp [mU, mR]
  have k27 : K.1 27 = M.1 27 := by rw [← hK]; funext y; simp [mU, mR]
  have k28 : K.1 28 = M.1 28 := by rw [← hK]; funext y; simp [mU, mR]
  have k29 : K.1 29 = M.1 29 := by rw [← hK]; funext y; simp [mU, mR]
  have k49 : K.1 49 = M.1 49 := by rw [← hK]; funext y; simp [mU, mR]
  have k50 : K.1 50 = M.1 50 := by rw [← hK]; funext y; simp [mU, mR]
  have k51 : K.1 51 = M.1 51 := by rw [← hK]; funext y; simp [mU, mR]
  have k52 : K.1 52 = M.1 52 := by rw [← hK]; funext y; simp [mU, mR]
  have k53 : K.1 53 = M.1 53 := by rw [← hK]; funext y; simp [mU, mR]
  have k54 : K.1 54 = M.1 54 := by rw [← hK]; funext y; simp [mU, mR]
  have k55 : K.1 55 = M.1 55 := by rw [← hK]; funext y; simp [mU, mR]
  have k56 : K.1 56 = M.1 56 := by rw [← hK]; funext y; simp [mU, mR]
  have k60 : K.1 60 = M.1 60 := by rw [← hK]; funext y; simp [mU, mR]
  have k62 : K.1 62 = M.1 62 := by rw [← hK]; funext y; simp [mU, mR]
  have k63 : K.1 63 = M.1 63 := by rw [← hK]; funext y; simp [mU, mR]
  have k64 : K.1 64 = M.1 64 := by rw [← hK]; funext y; simp [mU, mR]
  have k65 : K.1 65 = M.1 65 := by rw [← hK]; funext y; simp [mU, mR]
  have k66 : K.1 66 = M.1 66 := by rw [← hK]; funext y; simp [mU, mR]
  have k67 : K.1 67 = M.1 67 := by rw [← hK]; funext y; simp [mU, mR]
  have k68 : K.1 68 = M.1 68 := by rw [← hK]; funext y; simp [mU, mR]
  have k0_5 : K.1 0 5 = M.1 0 5 := by rw [← hK]; simp [mU, mR]
  have k0_6 : K.1 0 6 = M.1 0 6 := by rw [← hK]; simp [mU, mR]
  have k0_7 : K.1 0 7 = M.1 0 7 := by rw [← hK]; simp [mU, mR]
  have k0_8 : K.1 0 8 = M.1 0 8 := by rw [← hK]; simp [mU, mR]
  have k1_1 : K.1 1 1 = 0 := by rw [← hK]; simp [mU, mR]
  have k3_4 : K.1 3 4 = M.1 3 4 := by rw [← hK]; simp [mU, mR]
  have k3_5 : K.1 3 5 = M.1 3 5 := by rw [← hK]; simp [mU, mR]
  have k8_7 : K.1 8 7 = M.1 8 7 := by rw [← hK]; simp [mU, mR]
  have k8_8 : K.1 8 8 = M.1 8 8 := by rw [← hK]; simp [mU, mR]
  have k8_9 : K.1 8 9 = M.1 8 9 := by rw [← hK]; simp [mU, mR]
  have k8_10 : K.1 8 10 = M.1 8 10 := by rw [← hK]; simp [mU, mR]
  have k15_3 : K.1 15 3 = M.1 15 3 := by rw [← hK]; simp [mU, mR]
  have k19_7 : K.1 19 7 = M.1 19 7 := by rw [← hK]; simp [mU, mR]
  have k19_8 : K.1 19 8 = M.1 19 8 := by rw [← hK]; simp [mU, mR]
  have k19_9 : K.1 19 9 = M.1 19 9 := by rw [← hK]; simp [mU, mR]
  have k19_10 : K.1 19 10 = M.1 19 10 := by rw [← hK]; simp [mU, mR]
  have k26_3 : K.1 26 3 = M.1 26 3 := by rw [← hK]; simp [mU, mR]
  have k48_1 : K.1 48 1 = 0 := by rw [← hK]; simp [mU, mR]
  have k48_3 : K.1 48 3 = M.1 48 3 := by rw [← hK]; simp [mU, mR]
  have k48_4 : K.1 48 4 = M.1 48 4 := by rw [← hK]; simp [mU, mR]
  have k48_5 : K.1 48 5 = M.1 48 5 := by rw [← hK]; simp [mU, mR]
  have k48_6 : K.1 48 6 = M.1 48 6 := by rw [← hK]; simp [mU, mR]
  have k48_7 : K.1 48 7 = M.1 48 7 := by rw [← hK]; simp [mU, mR]
  have k48_8 : K.1 48 8 = M.1 48 8 := by rw [← hK]; simp [mU, mR]
  have k48_9 : K.1 48 9 = M.1 48 9 := by rw [← hK]; simp [mU, mR]
  have k48_18 : K.1 48 18 = M.1 48 18 := by rw [← hK]; simp [mU, mR]
  have k48_21 : K.1 48 21 = M.1 48 21 := by rw [← hK]; simp [mU, mR]
  have k48_22 : K.1 48 22 = M.1 48 22 := by rw [← hK]; simp [mU, mR]
  have k48_26 : K.1 48 26 = M.1 48 26 := by rw [← hK]; simp [mU, mR]
  have k48_27 : K.1 48 27 = M.1 48 27 := by rw [← hK]; simp [mU, mR]
  have k48_28 : K.1 48 28 = M.1 48 28 := by rw [← hK]; simp [mU, mR]
  have k48_29 : K.1 48 29 = M.1 48 29 := by rw [← hK]; simp [mU, mR]
  have k48_30 : K.1 48 30 = M.1 48 30 := by rw [← hK]; simp [mU, mR]
  have k48_31 : K.1 48 31 = M.1 48 31 := by rw [← hK]; simp [mU, mR]
  have jA1 : A1 K := by
    unfold A1 oP
    simp only [k1_1, k2]
    exact ⟨by omega, hA1.2⟩
  have jA2 : A2 K := by
    unfold A2 oV
    simp only [k3_4, k3_5, k4, k5, k6, k7]
    exact hA2
  have jA3 : A3 K := by
    unfold A3 oF
    simp only [k9, k10, k8_7, k13, k14]
    exact hA3
  have jA4 : A4 K := by
    unfold A4
    simp only [k12]
    exact hA4
  have jA5 : A5 K := by
    unfold A5
    simp only [k8_8, k3_5]
    exact hA5
  have jA6 : A6 K := by
    unfold A6
    simp only [k8_9]
    exact hA6
  have jA7 : A7 K := by
    unfold A7
    simp only [k15_3, k16, k17, k18]
    exact hA7
  have jA8 : A8 K := by
    unfold A8
    simp only [k0_7, k0_8, k0_5]
    exact hA8
  have jB1 : B1 K := by
    unfold B1 oMp
    simp only [k48_1, k49]
    exact ⟨by omega, hB1.2⟩
  have jB2 : B2 K := by
    unfold B2 oMv
    simp only [k48_3, k48_4]
    exact hB2
  have jB3 : B3 K := by
    unfold B3 oMr
    simp only [k50]
    exact hB3
  have jB4 : B4 K := by
    unfold B4 oMf
    simp only [k51, k48_8, k56, k53]
    exact hB4
  have jB5 : B5 K := by
    unfold B5 oMg
    simp only [k52]
    exact hB5
  have jB6 : B6 K := by
    unfold B6 oMs
    simp only [k48_22, k60]
    exact hB6
  have jB7 : B7 K := by
    unfold B7
    simp only [k55]
    exact hB7
  have jB8 : B8 K := by
    unfold B8
    simp only [k54]
    exact hB8
  have jB9 : B9 K := by
    unfold B9
    simp only [k48_5]
    exact hB9
  have jC1 : C1 K := by
    unfold C1
    simp only [k48_1, k1_1, k49, k2]
    exact ⟨trivial, hC1.2⟩
  have jC2 : C2 K := by
    unfold C2
    simp only [k48_3, k3_4, k48_4, k3_5, k50, k4, k5, k6, k53, k7]
    exact hC2
  have jS1n : S1n K := by
    unfold S1n
    simp only [k3_4, k50, k11, k51, k10, k52, k9]
    exact hS1n
  have jS2n : S2n K := by
    unfold S2n
    simp only [k3_4, k9, k11]
    exact hS2n
  have jS3n : S3n K := by
    unfold S3n
    simp only [k55, k12]
    exact hS3n
  have jS4n : S4n K := by
    unfold S4n
    simp only [k3_5, k54, k8_8]
    exact hS4n
  have jS5n : S5n K := by
    unfold S5n
    simp only [k56, k13, k14, k48_8, k8_7]
    exact hS5n
  have jS6n : S6n K := by
    unfold S6n
    simp only [k60, k16, k17, k18, k48_22, k15_3]
    exact hS6n
  have jS7n : S7n K := by
    unfold S7n
    simp only [k48_5, k8_9, k48_6, k11, k48_7, k8_10]
    exact hS7n
  have jC4 : C4 K := by
    unfold C4
    simp only [k48_9, k0_6, k48_18, k0_7, k48_21, k0_8]
    exact hC4
  have jC5 : C5 (c) K := by
    unfold C5
    simp only [k48_26, k48_9, k0_5]
    exact hC5
  have jC6 : C6 K := by
    unfold C6 KP S1k S2k S3k S4k S5k S6k S7k oF
    simp only [k0_5, k50, k3_4, k3_5, k20, k21, k22, k23, k24, k25, k27, k28, k29, k19_7, k19_8, k19_9, k19_10, k26_3, k62, k63, k64, k65, k66, k67, k68, k48_27, k48_28, k48_29, k48_30, k48_31]
    exact hC6
  exact ⟨⟨jA1, jA2, jA3, jA4, jA5, jA6, jA7, jA8⟩, ⟨jB1, jB2, jB3, jB4, jB5, jB6, jB7, jB8, jB9⟩, jC1, jC2, ⟨jS1n, jS2n, jS3n, jS4n, jS5n, jS6n, jS7n⟩, jC4, jC5, jC6⟩
set_option maxRecDepth 10000 in
set_option maxHeartbeats 1000000 in
theorem K_slight {c : Nat} {M : Mm_} (hI : INV c M) {k : Nat} {q : Int} (hk : (k : Int) < M.1 3 4) (hq : 0 ≤ q ∧ q ≤ 2) : INV (c) (mSliM (mSli M k q) k q) := by
  obtain ⟨⟨hA1, hA2, hA3, hA4, hA5, hA6, hA7, hA8⟩, ⟨hB1, hB2, hB3, hB4, hB5, hB6, hB7, hB8, hB9⟩, hC1, hC2, ⟨hS1n, hS2n, hS3n, hS4n, hS5n, hS6n, hS7n⟩, hC4, hC5, hC6⟩ := id hI
  have hn := I_n hI
  have hH : mH M (mSli M k q) := fun i hi => by unfold mSli; rw [mU_ne (by omega), mR_ne (by omega)]
  obtain ⟨K, hK⟩ : ∃ K : Mm_, (mSliM (mSli M k q) k q) = K := ⟨_, rfl⟩
  rw [hK]
  have k2 : K.1 2 = M.1 2 := by rw [← hK]; funext y; simp [mSliM, mSli, grM, mU, mR]
  have k4 : K.1 4 = M.1 4 := by rw [← hK]; funext y; simp [mSliM, mSli, grM, mU, mR]
  have k5 : K.1 5 = M.1 5 := by rw [← hK]; funext y; simp [mSliM, mSli, grM, mU, mR]
  have k6 : K.1 6 = M.1 6 := by rw [← hK]; funext y; simp [mSliM, mSli, grM, mU, mR]
  have k7 : K.1 7 = M.1 7 := by rw [← hK]; funext y; simp [mSliM, mSli, grM, mU, mR]
  have k9 : K.1 9 = sl1 (M.1 6) ((k : Int) * 3 + q) (M.1 9) := by rw [← hK]; funext y; simp [mSliM, mSli, grM, mU, mR]
  have k10 : K.1 10 = M.1 10 := by rw [← hK]; funext y; simp [mSliM, mSli, grM, mU, mR]
  have k11 : K.1 11 = (fun j => if j = k then M.1 11 k + 1 else M.1 11 j) := by rw [← hK]; funext y; simp [mSliM, mSli, grM, mU, mR]
  have k12 : K.1 12 = M.1 12 := by rw [← hK]; funext y; simp [mSliM, mSli, grM, mU, mR]
  have k13 : K.1 13 = M.1 13 := by rw [← hK]; funext y; simp [mSliM, mSli, grM, mU, mR]
  have k14 : K.1 14 = M.1 14 := by rw [← hK]; funext y; simp [mSliM, mSli, grM, mU, mR]
  have k16 : K.1 16 = M.1 16 := by rw [← hK]; funext y; simp [mSliM, mSli, grM, mU, mR]
  have k17 : K.1 17 = M.1 17 := by rw [← hK]; funext y; simp [mSliM, mSli, grM, mU, mR]
  have k18 : K.1 18 = M.1 18 := by rw [← hK]; funext y; simp [mSliM, mSli, grM, mU, mR]
  have k20 : K.1 20 = M.1 20 := by rw [← hK]; funext y; simp [mSliM, mSli, grM, mU, mR]
  have k21 : K.1 21 = M.1 21 := by rw [← hK]; funext y; simp [mSliM, mSli, grM, mU, mR]
  have k22 : K.1 22 = M.1 22 := by rw [← hK]; funext y; simp [mSliM, mSli, grM, mU, mR]
  have k23 : K.1 23 = M.1 23 := by rw [← hK]; funext y; simp [mSliM, mSli, grM, mU, mR]
  have k24 : K.1 24 = M.1 24 := by rw [← hK]; funext y; simp [mSliM, mSli, grM, mU, mR]
  have k25 : K.1 25 = M.1 25 := by rw [← hK]; funext y; simp [mSliM, mSli, grM, mU, mR]
  have k27 : K.1 27 = M.1 27 := by rw [← hK]; funext y; simp [mSliM, mSli, grM, mU, mR]
  have k28 : K.1 28 = M.1 28 := by rw [← hK]; funext y; simp [mSliM, mSli, grM, mU, mR]
  have k29 : K.1 29 = M.1 29 := by rw [← hK]; funext y; simp [mSliM, mSli, grM, mU, mR]
  have k49 : K.1 49 = M.1 49 := by rw [← hK]; funext y; simp [mSliM, mSli, grM, mU, mR]
  have k50 : K.1 50 = (fun j => if j = 3 * k + 2 then M.1 50 (3 * k + 2) + 1 else M.1 50 j) := by rw [← hK]; funext y; simp [mSliM, mSli, grM, mU, mR]
  have k51 : K.1 51 = M.1 51 := by rw [← hK]; funext y; simp [mSliM, mSli, grM, mU, mR]
  have k52 : K.1 52 = sl1 (M.1 6) ((k : Int) * 3 + q) (M.1 52) := by rw [← hK]; unfold mSliM; rw [mU_ne (by decide), mU_ne (by decide), mR_eq, grM_H hH, hH 52 (by decide), I_gr hI, Int.mul_comm 3]
  have k53 : K.1 53 = M.1 53 := by rw [← hK]; funext y; simp [mSliM, mSli, grM, mU, mR]
  have k54 : K.1 54 = M.1 54 := by rw [← hK]; funext y; simp [mSliM, mSli, grM, mU, mR]
  have k55 : K.1 55 = M.1 55 := by rw [← hK]; funext y; simp [mSliM, mSli, grM, mU, mR]
  have k56 : K.1 56 = M.1 56 := by rw [← hK]; funext y; simp [mSliM, mSli, grM, mU, mR]
  have k60 : K.1 60 = M.1 60 := by rw [← hK]; funext y; simp [mSliM, mSli, grM, mU, mR]
  have k62 : K.1 62 = M.1 62 := by rw [← hK]; funext y; simp [mSliM, mSli, grM, mU, mR]
  have k63 : K.1 63 = M.1 63 := by rw [← hK]; funext y; simp [mSliM, mSli, grM, mU, mR]
  have k64 : K.1 64 = M.1 64 := by rw [← hK]; funext y; simp [mSliM, mSli, grM, mU, mR]
  have k65 : K.1 65 = M.1 65 := by rw [← hK]; funext y; simp [mSliM, mSli, grM, mU, mR]
  have k66 : K.1 66 = M.1 66 := by rw [← hK]; funext y; simp [mSliM, mSli, grM, mU, mR]
  have k67 : K.1 67 = M.1 67 := by rw [← hK]; funext y; simp [mSliM, mSli, grM, mU, mR]
  have k68 : K.1 68 = M.1 68 := by rw [← hK]; funext y; simp [mSliM, mSli, grM, mU, mR]
  have k0_5 : K.1 0 5 = M.1 0 5 := by rw [← hK]; simp [mSliM, mSli, grM, mU, mR]
  have k0_6 : K.1 0 6 = M.1 0 6 := by rw [← hK]; simp [mSliM, mSli, grM, mU, mR]
  have k0_7 : K.1 0 7 = M.1 0 7 := by rw [← hK]; simp [mSliM, mSli, grM, mU, mR]
  have k0_8 : K.1 0 8 = M.1 0 8 := by rw [← hK]; simp [mSliM, mSli, grM, mU, mR]
  have k1_1 : K.1 1 1 = M.1 1 1 := by rw [← hK]; simp [mSliM, mSli, grM, mU, mR]
  have k3_4 : K.1 3 4 = M.1 3 4 := by rw [← hK]; simp [mSliM, mSli, grM, mU, mR]
  have k3_5 : K.1 3 5 = M.1 3 5 := by rw [← hK]; simp [mSliM, mSli, grM, mU, mR]
  have k8_7 : K.1 8 7 = M.1 8 7 := by rw [← hK]; simp [mSliM, mSli, grM, mU, mR]
  have k8_8 : K.1 8 8 = M.1 8 8 := by rw [← hK]; simp [mSliM, mSli, grM, mU, mR]
  have k8_9 : K.1 8 9 = M.1 8 9 := by rw [← hK]; simp [mSliM, mSli, grM, mU, mR]
  have k8_10 : K.1 8 10 = M.1 8 10 := by rw [← hK]; simp [mSliM, mSli, grM, mU, mR]
  have k15_3 : K.1 15 3 = M.1 15 3 := by rw [← hK]; simp [mSliM, mSli, grM, mU, mR]
  have k19_7 : K.1 19 7 = M.1 19 7 := by rw [← hK]; simp [mSliM, mSli, grM, mU, mR]
  have k19_8 : K.1 19 8 = M.1 19 8 := by rw [← hK]; simp [mSliM, mSli, grM, mU, mR]
  have k19_9 : K.1 19 9 = M.1 19 9 := by rw [← hK]; simp [mSliM, mSli, grM, mU, mR]
  have k19_10 : K.1 19 10 = M.1 19 10 := by rw [← hK]; simp [mSliM, mSli, grM, mU, mR]
  have k26_3 : K.1 26 3 = M.1 26 3 := by rw [← hK]; simp [mSliM, mSli, grM, mU, mR]
  have k48_1 : K.1 48 1 = M.1 48 1 := by rw [← hK]; simp [mSliM, mSli, grM, mU, mR]
  have k48_3 : K.1 48 3 = M.1 48 3 := by rw [← hK]; simp [mSliM, mSli, grM, mU, mR]
  have k48_4 : K.1 48 4 = M.1 48 4 := by rw [← hK]; simp [mSliM, mSli, grM, mU, mR]
  have k48_5 : K.1 48 5 = M.1 48 5 := by rw [← hK]; simp [mSliM, mSli, grM, mU, mR]
  have k48_6 : K.1 48 6 = M.1 48 6 + 1 := by rw [← hK]; simp [mSliM, mSli, grM, mU, mR]
  have k48_7 : K.1 48 7 = M.1 48 7 := by rw [← hK]; simp [mSliM, mSli, grM, mU, mR]
  have k48_8 : K.1 48 8 = M.1 48 8 := by rw [← hK]; simp [mSliM, mSli, grM, mU, mR]
  have k48_9 : K.1 48 9 = M.1 48 9 := by rw [← hK]; simp [mSliM, mSli, grM, mU, mR]
  have k48_18 : K.1 48 18 = M.1 48 18 := by rw [← hK]; simp [mSliM, mSli, grM, mU, mR]
  have k48_21 : K.1 48 21 = M.1 48 21 := by rw [← hK]; simp [mSliM, mSli, grM, mU, mR]
  have k48_22 : K.1 48 22 = M.1 48 22 := by rw [← hK]; simp [mSliM, mSli, grM, mU, mR]
  have k48_26 : K.1 48 26 = M.1 48 26 := by rw [← hK]; simp [mSliM, mSli, grM, mU, mR]
  have k48_27 : K.1 48 27 = M.1 48 27 := by rw [← hK]; simp [mSliM, mSli, grM, mU, mR]
  have k48_28 : K.1 48 28 = M.1 48 28 := by rw [← hK]; simp [mSliM, mSli, grM, mU, mR]
  have k48_29 : K.1 48 29 = M.1 48 29 := by rw [← hK]; simp [mSliM, mSli, grM, mU, mR]
  have k48_30 : K.1 48 30 = M.1 48 30 := by rw [← hK]; simp [mSliM, mSli, grM, mU, mR]
  have k48_31 : K.1 48 31 = M.1 48 31 := by rw [← hK]; simp [mSliM, mSli, grM, mU, mR]
  have jA1 : A1 K := by
    unfold A1 oP
    simp only [k1_1, k2]
    exact hA1
  have jA2 : A2 K := by
    unfold A2 oV
    simp only [k3_4, k3_5, k4, k5, k6, k7]
    exact hA2
  have jA3 : A3 K := by
    unfold A3 oF
    simp only [k9, k10, k8_7, k13, k14]
    exact ⟨sl1_b hA3.1 (fun _ => (hA2.2.2.2.1 _ (by omega)).1), hA3.2⟩
  have jA4 : A4 K := by
    unfold A4
    simp only [k12]
    exact hA4
  have jA5 : A5 K := by
    unfold A5
    simp only [k8_8, k3_5]
    exact hA5
  have jA6 : A6 K := by
    unfold A6
    simp only [k8_9]
    exact hA6
  have jA7 : A7 K := by
    unfold A7
    simp only [k15_3, k16, k17, k18]
    exact hA7
  have jA8 : A8 K := by
    unfold A8
    simp only [k0_7, k0_8, k0_5]
    exact hA8
  have jB1 : B1 K := by
    unfold B1 oMp
    simp only [k48_1, k49]
    exact hB1
  have jB2 : B2 K := by
    unfold B2 oMv
    simp only [k48_3, k48_4]
    exact hB2
  have jB3 : B3 K := by
    unfold B3 oMr
    simp only [k50]
    exact fun i hi => by rw [if_neg (by omega), if_neg (by omega)]; exact hB3 i hi
  have jB4 : B4 K := by
    unfold B4 oMf
    simp only [k51, k48_8, k56, k53]
    exact hB4
  have jB5 : B5 K := by
    unfold B5 oMg
    simp only [k52]
    exact sl1_b hB5 (fun _ => (hA2.2.2.2.1 _ (by omega)).1)
  have jB6 : B6 K := by
    unfold B6 oMs
    simp only [k48_22, k60]
    exact hB6
  have jB7 : B7 K := by
    unfold B7
    simp only [k55]
    exact hB7
  have jB8 : B8 K := by
    unfold B8
    simp only [k54]
    exact hB8
  have jB9 : B9 K := by
    unfold B9
    simp only [k48_5]
    exact hB9
  have jC1 : C1 K := by
    unfold C1
    simp only [k48_1, k1_1, k49, k2]
    exact hC1
  have jC2 : C2 K := by
    unfold C2
    simp only [k48_3, k3_4, k48_4, k3_5, k50, k4, k5, k6, k53, k7]
    exact ⟨hC2.1, hC2.2.1, fun i => by rw [if_neg (by omega)]; exact hC2.2.2.1 i, fun i => by rw [if_neg (by omega)]; exact hC2.2.2.2.1 i, fun i => by rw [if_neg (by omega), if_neg (by omega)]; exact hC2.2.2.2.2.1 i, hC2.2.2.2.2.2⟩
  have jS1n : S1n K := by
    unfold S1n
    simp only [k3_4, k50, k11, k51, k10, k52, k9]
    have hg := GE_sl (gr := M.1 6) (q := (k : Int) * 3 + q) (GE_0 hI) (by omega)
    intro i hi
    refine ⟨?_, (hS1n i hi).2.1, hg.1 i hi⟩
    by_cases e : i = k
    · rw [if_pos (by omega), if_pos e, (hS1n k hk).1]
    · rw [if_neg (by omega), if_neg e]; exact (hS1n i hi).1
  have jS2n : S2n K := by
    unfold S2n
    simp only [k3_4, k9, k11]
    have hg := GE_sl (gr := M.1 6) (q := (k : Int) * 3 + q) (GE_0 hI) (by omega)
    intro i h1 h2
    refine ⟨hg.2 i h1 h2, ?_⟩
    rw [if_neg (by omega)]
    exact (hS2n i h1 h2).2
  have jS3n : S3n K := by
    unfold S3n
    simp only [k55, k12]
    exact hS3n
  have jS4n : S4n K := by
    unfold S4n
    simp only [k3_5, k54, k8_8]
    exact hS4n
  have jS5n : S5n K := by
    unfold S5n
    simp only [k56, k13, k14, k48_8, k8_7]
    exact hS5n
  have jS6n : S6n K := by
    unfold S6n
    simp only [k60, k16, k17, k18, k48_22, k15_3]
    exact hS6n
  have jS7n : S7n K := by
    unfold S7n
    simp only [k48_5, k8_9, k48_6, k11, k48_7, k8_10]
    exact ⟨hS7n.1, by rw [sm_upd 4 (by omega), hS7n.2.1]; omega, hS7n.2.2⟩
  have jC4 : C4 K := by
    unfold C4
    simp only [k48_9, k0_6, k48_18, k0_7, k48_21, k0_8]
    exact hC4
  have jC5 : C5 (c) K := by
    unfold C5
    simp only [k48_26, k48_9, k0_5]
    exact hC5
  have jC6 : C6 K := by
    unfold C6 KP S1k S2k S3k S4k S5k S6k S7k oF
    simp only [k0_5, k50, k3_4, k3_5, k20, k21, k22, k23, k24, k25, k27, k28, k29, k19_7, k19_8, k19_9, k19_10, k26_3, k62, k63, k64, k65, k66, k67, k68, k48_27, k48_28, k48_29, k48_30, k48_31]
    intro h5
    have hk6 := hC6 h5
    refine ⟨⟨fun i => ?_, hk6.1.2⟩, hk6.2⟩
    rw [if_neg (by omega), if_neg (by omega)]
    exact hk6.1.1 i
  exact ⟨⟨jA1, jA2, jA3, jA4, jA5, jA6, jA7, jA8⟩, ⟨jB1, jB2, jB3, jB4, jB5, jB6, jB7, jB8, jB9⟩, jC1, jC2, ⟨jS1n, jS2n, jS3n, jS4n, jS5n, jS6n, jS7n⟩, jC4, jC5, jC6⟩
set_option maxRecDepth 10000 in
set_option maxHeartbeats 1000000 in
theorem K_soothe {c : Nat} {M : Mm_} (hI : INV c M) {k : Nat} (hk : (k : Int) < M.1 3 4) : INV (c) (mU (mU M 9 k 0) 52 k 0) := by
  obtain ⟨⟨hA1, hA2, hA3, hA4, hA5, hA6, hA7, hA8⟩, ⟨hB1, hB2, hB3, hB4, hB5, hB6, hB7, hB8, hB9⟩, hC1, hC2, ⟨hS1n, hS2n, hS3n, hS4n, hS5n, hS6n, hS7n⟩, hC4, hC5, hC6⟩ := id hI
  have hn := I_n hI
  obtain ⟨K, hK⟩ : ∃ K : Mm_, (mU (mU M 9 k 0) 52 k 0) = K := ⟨_, rfl⟩
  rw [hK]
  have k2 : K.1 2 = M.1 2 := by rw [← hK]; funext y; simp [mU, mR]
  have k4 : K.1 4 = M.1 4 := by rw [← hK]; funext y; simp [mU, mR]
  have k5 : K.1 5 = M.1 5 := by rw [← hK]; funext y; simp [mU, mR]
  have k6 : K.1 6 = M.1 6 := by rw [← hK]; funext y; simp [mU, mR]
  have k7 : K.1 7 = M.1 7 := by rw [← hK]; funext y; simp [mU, mR]
  have k9 : K.1 9 = (fun j => if j = k then 0 else M.1 9 j) := by rw [← hK]; funext y; simp [mU, mR]
  have k10 : K.1 10 = M.1 10 := by rw [← hK]; funext y; simp [mU, mR]
  have k11 : K.1 11 = M.1 11 := by rw [← hK]; funext y; simp [mU, mR]
  have k12 : K.1 12 = M.1 12 := by rw [← hK]; funext y; simp [mU, mR]
  have k13 : K.1 13 = M.1 13 := by rw [← hK]; funext y; simp [mU, mR]
  have k14 : K.1 14 = M.1 14 := by rw [← hK]; funext y; simp [mU, mR]
  have k16 : K.1 16 = M.1 16 := by rw [← hK]; funext y; simp [mU, mR]
  have k17 : K.1 17 = M.1 17 := by rw [← hK]; funext y; simp [mU, mR]
  have k18 : K.1 18 = M.1 18 := by rw [← hK]; funext y; simp [mU, mR]
  have k20 : K.1 20 = M.1 20 := by rw [← hK]; funext y; simp [mU, mR]
  have k21 : K.1 21 = M.1 21 := by rw [← hK]; funext y; simp [mU, mR]
  have k22 : K.1 22 = M.1 22 := by rw [← hK]; funext y; simp [mU, mR]
  have k23 : K.1 23 = M.1 23 := by rw [← hK]; funext y; simp [mU, mR]
  have k24 : K.1 24 = M.1 24 := by rw [← hK]; funext y; simp [mU, mR]
  have k25 : K.1 25 = M.1 25 := by rw [← hK]; funext y; simp [mU, mR]
  have k27 : K.1 27 = M.1 27 := by rw [← hK]; funext y; simp [mU, mR]
  have k28 : K.1 28 = M.1 28 := by rw [← hK]; funext y; simp [mU, mR]
  have k29 : K.1 29 = M.1 29 := by rw [← hK]; funext y; simp [mU, mR]
  have k49 : K.1 49 = M.1 49 := by rw [← hK]; funext y; simp [mU, mR]
  have k50 : K.1 50 = M.1 50 := by rw [← hK]; funext y; simp [mU, mR]
  have k51 : K.1 51 = M.1 51 := by rw [← hK]; funext y; simp [mU, mR]
  have k52 : K.1 52 = (fun j => if j = k then 0 else M.1 52 j) := by rw [← hK]; funext y; simp [mU, mR]
  have k53 : K.1 53 = M.1 53 := by rw [← hK]; funext y; simp [mU, mR]
  have k54 : K.1 54 = M.1 54 := by rw [← hK]; funext y; simp [mU, mR]
  have k55 : K.1 55 = M.1 55 := by rw [← hK]; funext y; simp [mU, mR]
  have k56 : K.1 56 = M.1 56 := by rw [← hK]; funext y; simp [mU, mR]
  have k60 : K.1 60 = M.1 60 := by rw [← hK]; funext y; simp [mU, mR]
  have k62 : K.1 62 = M.1 62 := by rw [← hK]; funext y; simp [mU, mR]
  have k63 : K.1 63 = M.1 63 := by rw [← hK]; funext y; simp [mU, mR]
  have k64 : K.1 64 = M.1 64 := by rw [← hK]; funext y; simp [mU, mR]
  have k65 : K.1 65 = M.1 65 := by rw [← hK]; funext y; simp [mU, mR]
  have k66 : K.1 66 = M.1 66 := by rw [← hK]; funext y; simp [mU, mR]
  have k67 : K.1 67 = M.1 67 := by rw [← hK]; funext y; simp [mU, mR]
  have k68 : K.1 68 = M.1 68 := by rw [← hK]; funext y; simp [mU, mR]
  have k0_5 : K.1 0 5 = M.1 0 5 := by rw [← hK]; simp [mU, mR]
  have k0_6 : K.1 0 6 = M.1 0 6 := by rw [← hK]; simp [mU, mR]
  have k0_7 : K.1 0 7 = M.1 0 7 := by rw [← hK]; simp [mU, mR]
  have k0_8 : K.1 0 8 = M.1 0 8 := by rw [← hK]; simp [mU, mR]
  have k1_1 : K.1 1 1 = M.1 1 1 := by rw [← hK]; simp [mU, mR]
  have k3_4 : K.1 3 4 = M.1 3 4 := by rw [← hK]; simp [mU, mR]
  have k3_5 : K.1 3 5 = M.1 3 5 := by rw [← hK]; simp [mU, mR]
  have k8_7 : K.1 8 7 = M.1 8 7 := by rw [← hK]; simp [mU, mR]
  have k8_8 : K.1 8 8 = M.1 8 8 := by rw [← hK]; simp [mU, mR]
  have k8_9 : K.1 8 9 = M.1 8 9 := by rw [← hK]; simp [mU, mR]
  have k8_10 : K.1 8 10 = M.1 8 10 := by rw [← hK]; simp [mU, mR]
  have k15_3 : K.1 15 3 = M.1 15 3 := by rw [← hK]; simp [mU, mR]
  have k19_7 : K.1 19 7 = M.1 19 7 := by rw [← hK]; simp [mU, mR]
  have k19_8 : K.1 19 8 = M.1 19 8 := by rw [← hK]; simp [mU, mR]
  have k19_9 : K.1 19 9 = M.1 19 9 := by rw [← hK]; simp [mU, mR]
  have k19_10 : K.1 19 10 = M.1 19 10 := by rw [← hK]; simp [mU, mR]
  have k26_3 : K.1 26 3 = M.1 26 3 := by rw [← hK]; simp [mU, mR]
  have k48_1 : K.1 48 1 = M.1 48 1 := by rw [← hK]; simp [mU, mR]
  have k48_3 : K.1 48 3 = M.1 48 3 := by rw [← hK]; simp [mU, mR]
  have k48_4 : K.1 48 4 = M.1 48 4 := by rw [← hK]; simp [mU, mR]
  have k48_5 : K.1 48 5 = M.1 48 5 := by rw [← hK]; simp [mU, mR]
  have k48_6 : K.1 48 6 = M.1 48 6 := by rw [← hK]; simp [mU, mR]
  have k48_7 : K.1 48 7 = M.1 48 7 := by rw [← hK]; simp [mU, mR]
  have k48_8 : K.1 48 8 = M.1 48 8 := by rw [← hK]; simp [mU, mR]
  have k48_9 : K.1 48 9 = M.1 48 9 := by rw [← hK]; simp [mU, mR]
  have k48_18 : K.1 48 18 = M.1 48 18 := by rw [← hK]; simp [mU, mR]
  have k48_21 : K.1 48 21 = M.1 48 21 := by rw [← hK]; simp [mU, mR]
  have k48_22 : K.1 48 22 = M.1 48 22 := by rw [← hK]; simp [mU, mR]
  have k48_26 : K.1 48 26 = M.1 48 26 := by rw [← hK]; simp [mU, mR]
  have k48_27 : K.1 48 27 = M.1 48 27 := by rw [← hK]; simp [mU, mR]
  have k48_28 : K.1 48 28 = M.1 48 28 := by rw [← hK]; simp [mU, mR]
  have k48_29 : K.1 48 29 = M.1 48 29 := by rw [← hK]; simp [mU, mR]
  have k48_30 : K.1 48 30 = M.1 48 30 := by rw [← hK]; simp [mU, mR]
  have k48_31 : K.1 48 31 = M.1 48 31 := by rw [← hK]; simp [mU, mR]
  have jA1 : A1 K := by
    unfold A1 oP
    simp only [k1_1, k2]
    exact hA1
  have jA2 : A2 K := by
    unfold A2 oV
    simp only [k3_4, k3_5, k4, k5, k6, k7]
    exact hA2
  have jA3 : A3 K := by
    unfold A3 oF
    simp only [k9, k10, k8_7, k13, k14]
    exact ⟨fun i hi => by have := hA3.1 i hi; split <;> omega, hA3.2⟩
  have jA4 : A4 K := by
    unfold A4
    simp only [k12]
    exact hA4
  have jA5 : A5 K := by
    unfold A5
    simp only [k8_8, k3_5]
    exact hA5
  have jA6 : A6 K := by
    unfold A6
    simp only [k8_9]
    exact hA6
  have jA7 : A7 K := by
    unfold A7
    simp only [k15_3, k16, k17, k18]
    exact hA7
  have jA8 : A8 K := by
    unfold A8
    simp only [k0_7, k0_8, k0_5]
    exact hA8
  have jB1 : B1 K := by
    unfold B1 oMp
    simp only [k48_1, k49]
    exact hB1
  have jB2 : B2 K := by
    unfold B2 oMv
    simp only [k48_3, k48_4]
    exact hB2
  have jB3 : B3 K := by
    unfold B3 oMr
    simp only [k50]
    exact hB3
  have jB4 : B4 K := by
    unfold B4 oMf
    simp only [k51, k48_8, k56, k53]
    exact hB4
  have jB5 : B5 K := by
    unfold B5 oMg
    simp only [k52]
    exact fun i hi => by have := hB5 i hi; split <;> omega
  have jB6 : B6 K := by
    unfold B6 oMs
    simp only [k48_22, k60]
    exact hB6
  have jB7 : B7 K := by
    unfold B7
    simp only [k55]
    exact hB7
  have jB8 : B8 K := by
    unfold B8
    simp only [k54]
    exact hB8
  have jB9 : B9 K := by
    unfold B9
    simp only [k48_5]
    exact hB9
  have jC1 : C1 K := by
    unfold C1
    simp only [k48_1, k1_1, k49, k2]
    exact hC1
  have jC2 : C2 K := by
    unfold C2
    simp only [k48_3, k3_4, k48_4, k3_5, k50, k4, k5, k6, k53, k7]
    exact hC2
  have jS1n : S1n K := by
    unfold S1n
    simp only [k3_4, k50, k11, k51, k10, k52, k9]
    exact fun i hi => ⟨(hS1n i hi).1, (hS1n i hi).2.1, by rw [(hS1n i hi).2.2]⟩
  have jS2n : S2n K := by
    unfold S2n
    simp only [k3_4, k9, k11]
    exact fun i h1 h2 => ⟨by rw [if_neg (by omega)]; exact (hS2n i h1 h2).1, (hS2n i h1 h2).2⟩
  have jS3n : S3n K := by
    unfold S3n
    simp only [k55, k12]
    exact hS3n
  have jS4n : S4n K := by
    unfold S4n
    simp only [k3_5, k54, k8_8]
    exact hS4n
  have jS5n : S5n K := by
    unfold S5n
    simp only [k56, k13, k14, k48_8, k8_7]
    exact hS5n
  have jS6n : S6n K := by
    unfold S6n
    simp only [k60, k16, k17, k18, k48_22, k15_3]
    exact hS6n
  have jS7n : S7n K := by
    unfold S7n
    simp only [k48_5, k8_9, k48_6, k11, k48_7, k8_10]
    exact hS7n
  have jC4 : C4 K := by
    unfold C4
    simp only [k48_9, k0_6, k48_18, k0_7, k48_21, k0_8]
    exact hC4
  have jC5 : C5 (c) K := by
    unfold C5
    simp only [k48_26, k48_9, k0_5]
    exact hC5
  have jC6 : C6 K := by
    unfold C6 KP S1k S2k S3k S4k S5k S6k S7k oF
    simp only [k0_5, k50, k3_4, k3_5, k20, k21, k22, k23, k24, k25, k27, k28, k29, k19_7, k19_8, k19_9, k19_10, k26_3, k62, k63, k64, k65, k66, k67, k68, k48_27, k48_28, k48_29, k48_30, k48_31]
    exact hC6
  exact ⟨⟨jA1, jA2, jA3, jA4, jA5, jA6, jA7, jA8⟩, ⟨jB1, jB2, jB3, jB4, jB5, jB6, jB7, jB8, jB9⟩, jC1, jC2, ⟨jS1n, jS2n, jS3n, jS4n, jS5n, jS6n, jS7n⟩, jC4, jC5, jC6⟩
set_option maxRecDepth 10000 in
set_option maxHeartbeats 1000000 in
theorem K_sit {c : Nat} {M : Mm_} (hI : INV c M) {k : Nat} {q : Int} (hk : (k : Int) < M.1 3 4) (hq : 0 ≤ q ∧ q < 6) : INV (c) (mU (mU M 10 k q) 51 k q) := by
  obtain ⟨⟨hA1, hA2, hA3, hA4, hA5, hA6, hA7, hA8⟩, ⟨hB1, hB2, hB3, hB4, hB5, hB6, hB7, hB8, hB9⟩, hC1, hC2, ⟨hS1n, hS2n, hS3n, hS4n, hS5n, hS6n, hS7n⟩, hC4, hC5, hC6⟩ := id hI
  have hn := I_n hI
  obtain ⟨K, hK⟩ : ∃ K : Mm_, (mU (mU M 10 k q) 51 k q) = K := ⟨_, rfl⟩
  rw [hK]
  have k2 : K.1 2 = M.1 2 := by rw [← hK]; funext y; simp [mU, mR]
  have k4 : K.1 4 = M.1 4 := by rw [← hK]; funext y; simp [mU, mR]
  have k5 : K.1 5 = M.1 5 := by rw [← hK]; funext y; simp [mU, mR]
  have k6 : K.1 6 = M.1 6 := by rw [← hK]; funext y; simp [mU, mR]
  have k7 : K.1 7 = M.1 7 := by rw [← hK]; funext y; simp [mU, mR]
  have k9 : K.1 9 = M.1 9 := by rw [← hK]; funext y; simp [mU, mR]
  have k10 : K.1 10 = (fun j => if j = k then q else M.1 10 j) := by rw [← hK]; funext y; simp [mU, mR]
  have k11 : K.1 11 = M.1 11 := by rw [← hK]; funext y; simp [mU, mR]
  have k12 : K.1 12 = M.1 12 := by rw [← hK]; funext y; simp [mU, mR]
  have k13 : K.1 13 = M.1 13 := by rw [← hK]; funext y; simp [mU, mR]
  have k14 : K.1 14 = M.1 14 := by rw [← hK]; funext y; simp [mU, mR]
  have k16 : K.1 16 = M.1 16 := by rw [← hK]; funext y; simp [mU, mR]
  have k17 : K.1 17 = M.1 17 := by rw [← hK]; funext y; simp [mU, mR]
  have k18 : K.1 18 = M.1 18 := by rw [← hK]; funext y; simp [mU, mR]
  have k20 : K.1 20 = M.1 20 := by rw [← hK]; funext y; simp [mU, mR]
  have k21 : K.1 21 = M.1 21 := by rw [← hK]; funext y; simp [mU, mR]
  have k22 : K.1 22 = M.1 22 := by rw [← hK]; funext y; simp [mU, mR]
  have k23 : K.1 23 = M.1 23 := by rw [← hK]; funext y; simp [mU, mR]
  have k24 : K.1 24 = M.1 24 := by rw [← hK]; funext y; simp [mU, mR]
  have k25 : K.1 25 = M.1 25 := by rw [← hK]; funext y; simp [mU, mR]
  have k27 : K.1 27 = M.1 27 := by rw [← hK]; funext y; simp [mU, mR]
  have k28 : K.1 28 = M.1 28 := by rw [← hK]; funext y; simp [mU, mR]
  have k29 : K.1 29 = M.1 29 := by rw [← hK]; funext y; simp [mU, mR]
  have k49 : K.1 49 = M.1 49 := by rw [← hK]; funext y; simp [mU, mR]
  have k50 : K.1 50 = M.1 50 := by rw [← hK]; funext y; simp [mU, mR]
  have k51 : K.1 51 = (fun j => if j = k then q else M.1 51 j) := by rw [← hK]; funext y; simp [mU, mR]
  have k52 : K.1 52 = M.1 52 := by rw [← hK]; funext y; simp [mU, mR]
  have k53 : K.1 53 = M.1 53 := by rw [← hK]; funext y; simp [mU, mR]
  have k54 : K.1 54 = M.1 54 := by rw [← hK]; funext y; simp [mU, mR]
  have k55 : K.1 55 = M.1 55 := by rw [← hK]; funext y; simp [mU, mR]
  have k56 : K.1 56 = M.1 56 := by rw [← hK]; funext y; simp [mU, mR]
  have k60 : K.1 60 = M.1 60 := by rw [← hK]; funext y; simp [mU, mR]
  have k62 : K.1 62 = M.1 62 := by rw [← hK]; funext y; simp [mU, mR]
  have k63 : K.1 63 = M.1 63 := by rw [← hK]; funext y; simp [mU, mR]
  have k64 : K.1 64 = M.1 64 := by rw [← hK]; funext y; simp [mU, mR]
  have k65 : K.1 65 = M.1 65 := by rw [← hK]; funext y; simp [mU, mR]
  have k66 : K.1 66 = M.1 66 := by rw [← hK]; funext y; simp [mU, mR]
  have k67 : K.1 67 = M.1 67 := by rw [← hK]; funext y; simp [mU, mR]
  have k68 : K.1 68 = M.1 68 := by rw [← hK]; funext y; simp [mU, mR]
  have k0_5 : K.1 0 5 = M.1 0 5 := by rw [← hK]; simp [mU, mR]
  have k0_6 : K.1 0 6 = M.1 0 6 := by rw [← hK]; simp [mU, mR]
  have k0_7 : K.1 0 7 = M.1 0 7 := by rw [← hK]; simp [mU, mR]
  have k0_8 : K.1 0 8 = M.1 0 8 := by rw [← hK]; simp [mU, mR]
  have k1_1 : K.1 1 1 = M.1 1 1 := by rw [← hK]; simp [mU, mR]
  have k3_4 : K.1 3 4 = M.1 3 4 := by rw [← hK]; simp [mU, mR]
  have k3_5 : K.1 3 5 = M.1 3 5 := by rw [← hK]; simp [mU, mR]
  have k8_7 : K.1 8 7 = M.1 8 7 := by rw [← hK]; simp [mU, mR]
  have k8_8 : K.1 8 8 = M.1 8 8 := by rw [← hK]; simp [mU, mR]
  have k8_9 : K.1 8 9 = M.1 8 9 := by rw [← hK]; simp [mU, mR]
  have k8_10 : K.1 8 10 = M.1 8 10 := by rw [← hK]; simp [mU, mR]
  have k15_3 : K.1 15 3 = M.1 15 3 := by rw [← hK]; simp [mU, mR]
  have k19_7 : K.1 19 7 = M.1 19 7 := by rw [← hK]; simp [mU, mR]
  have k19_8 : K.1 19 8 = M.1 19 8 := by rw [← hK]; simp [mU, mR]
  have k19_9 : K.1 19 9 = M.1 19 9 := by rw [← hK]; simp [mU, mR]
  have k19_10 : K.1 19 10 = M.1 19 10 := by rw [← hK]; simp [mU, mR]
  have k26_3 : K.1 26 3 = M.1 26 3 := by rw [← hK]; simp [mU, mR]
  have k48_1 : K.1 48 1 = M.1 48 1 := by rw [← hK]; simp [mU, mR]
  have k48_3 : K.1 48 3 = M.1 48 3 := by rw [← hK]; simp [mU, mR]
  have k48_4 : K.1 48 4 = M.1 48 4 := by rw [← hK]; simp [mU, mR]
  have k48_5 : K.1 48 5 = M.1 48 5 := by rw [← hK]; simp [mU, mR]
  have k48_6 : K.1 48 6 = M.1 48 6 := by rw [← hK]; simp [mU, mR]
  have k48_7 : K.1 48 7 = M.1 48 7 := by rw [← hK]; simp [mU, mR]
  have k48_8 : K.1 48 8 = M.1 48 8 := by rw [← hK]; simp [mU, mR]
  have k48_9 : K.1 48 9 = M.1 48 9 := by rw [← hK]; simp [mU, mR]
  have k48_18 : K.1 48 18 = M.1 48 18 := by rw [← hK]; simp [mU, mR]
  have k48_21 : K.1 48 21 = M.1 48 21 := by rw [← hK]; simp [mU, mR]
  have k48_22 : K.1 48 22 = M.1 48 22 := by rw [← hK]; simp [mU, mR]
  have k48_26 : K.1 48 26 = M.1 48 26 := by rw [← hK]; simp [mU, mR]
  have k48_27 : K.1 48 27 = M.1 48 27 := by rw [← hK]; simp [mU, mR]
  have k48_28 : K.1 48 28 = M.1 48 28 := by rw [← hK]; simp [mU, mR]
  have k48_29 : K.1 48 29 = M.1 48 29 := by rw [← hK]; simp [mU, mR]
  have k48_30 : K.1 48 30 = M.1 48 30 := by rw [← hK]; simp [mU, mR]
  have k48_31 : K.1 48 31 = M.1 48 31 := by rw [← hK]; simp [mU, mR]
  have jA1 : A1 K := by
    unfold A1 oP
    simp only [k1_1, k2]
    exact hA1
  have jA2 : A2 K := by
    unfold A2 oV
    simp only [k3_4, k3_5, k4, k5, k6, k7]
    exact hA2
  have jA3 : A3 K := by
    unfold A3 oF
    simp only [k9, k10, k8_7, k13, k14]
    exact ⟨hA3.1, fun i hi => by have := hA3.2.1 i hi; split <;> omega, hA3.2.2⟩
  have jA4 : A4 K := by
    unfold A4
    simp only [k12]
    exact hA4
  have jA5 : A5 K := by
    unfold A5
    simp only [k8_8, k3_5]
    exact hA5
  have jA6 : A6 K := by
    unfold A6
    simp only [k8_9]
    exact hA6
  have jA7 : A7 K := by
    unfold A7
    simp only [k15_3, k16, k17, k18]
    exact hA7
  have jA8 : A8 K := by
    unfold A8
    simp only [k0_7, k0_8, k0_5]
    exact hA8
  have jB1 : B1 K := by
    unfold B1 oMp
    simp only [k48_1, k49]
    exact hB1
  have jB2 : B2 K := by
    unfold B2 oMv
    simp only [k48_3, k48_4]
    exact hB2
  have jB3 : B3 K := by
    unfold B3 oMr
    simp only [k50]
    exact hB3
  have jB4 : B4 K := by
    unfold B4 oMf
    simp only [k51, k48_8, k56, k53]
    exact ⟨fun i hi => by have := hB4.1 i hi; split <;> omega, hB4.2⟩
  have jB5 : B5 K := by
    unfold B5 oMg
    simp only [k52]
    exact hB5
  have jB6 : B6 K := by
    unfold B6 oMs
    simp only [k48_22, k60]
    exact hB6
  have jB7 : B7 K := by
    unfold B7
    simp only [k55]
    exact hB7
  have jB8 : B8 K := by
    unfold B8
    simp only [k54]
    exact hB8
  have jB9 : B9 K := by
    unfold B9
    simp only [k48_5]
    exact hB9
  have jC1 : C1 K := by
    unfold C1
    simp only [k48_1, k1_1, k49, k2]
    exact hC1
  have jC2 : C2 K := by
    unfold C2
    simp only [k48_3, k3_4, k48_4, k3_5, k50, k4, k5, k6, k53, k7]
    exact hC2
  have jS1n : S1n K := by
    unfold S1n
    simp only [k3_4, k50, k11, k51, k10, k52, k9]
    exact fun i hi => ⟨(hS1n i hi).1, by rw [(hS1n i hi).2.1], (hS1n i hi).2.2⟩
  have jS2n : S2n K := by
    unfold S2n
    simp only [k3_4, k9, k11]
    exact hS2n
  have jS3n : S3n K := by
    unfold S3n
    simp only [k55, k12]
    exact hS3n
  have jS4n : S4n K := by
    unfold S4n
    simp only [k3_5, k54, k8_8]
    exact hS4n
  have jS5n : S5n K := by
    unfold S5n
    simp only [k56, k13, k14, k48_8, k8_7]
    exact hS5n
  have jS6n : S6n K := by
    unfold S6n
    simp only [k60, k16, k17, k18, k48_22, k15_3]
    exact hS6n
  have jS7n : S7n K := by
    unfold S7n
    simp only [k48_5, k8_9, k48_6, k11, k48_7, k8_10]
    exact hS7n
  have jC4 : C4 K := by
    unfold C4
    simp only [k48_9, k0_6, k48_18, k0_7, k48_21, k0_8]
    exact hC4
  have jC5 : C5 (c) K := by
    unfold C5
    simp only [k48_26, k48_9, k0_5]
    exact hC5
  have jC6 : C6 K := by
    unfold C6 KP S1k S2k S3k S4k S5k S6k S7k oF
    simp only [k0_5, k50, k3_4, k3_5, k20, k21, k22, k23, k24, k25, k27, k28, k29, k19_7, k19_8, k19_9, k19_10, k26_3, k62, k63, k64, k65, k66, k67, k68, k48_27, k48_28, k48_29, k48_30, k48_31]
    exact hC6
  exact ⟨⟨jA1, jA2, jA3, jA4, jA5, jA6, jA7, jA8⟩, ⟨jB1, jB2, jB3, jB4, jB5, jB6, jB7, jB8, jB9⟩, jC1, jC2, ⟨jS1n, jS2n, jS3n, jS4n, jS5n, jS6n, jS7n⟩, jC4, jC5, jC6⟩
set_option maxRecDepth 10000 in
set_option maxHeartbeats 1000000 in
theorem K_night {c : Nat} {M : Mm_} (hI : INV c M) (h9 : M.1 8 9 < 99) : INV (c) (mNigM (mNig M)) := by
  obtain ⟨⟨hA1, hA2, hA3, hA4, hA5, hA6, hA7, hA8⟩, ⟨hB1, hB2, hB3, hB4, hB5, hB6, hB7, hB8, hB9⟩, hC1, hC2, ⟨hS1n, hS2n, hS3n, hS4n, hS5n, hS6n, hS7n⟩, hC4, hC5, hC6⟩ := id hI
  have hn := I_n hI
  have hH : mH M (mNig M) := fun i hi => by unfold mNig; rw [mU_ne (by omega), mR_ne (by omega)]
  obtain ⟨K, hK⟩ : ∃ K : Mm_, (mNigM (mNig M)) = K := ⟨_, rfl⟩
  rw [hK]
  have k2 : K.1 2 = M.1 2 := by rw [← hK]; funext y; simp [mNigM, mNig, mU, mR]
  have k4 : K.1 4 = M.1 4 := by rw [← hK]; funext y; simp [mNigM, mNig, mU, mR]
  have k5 : K.1 5 = M.1 5 := by rw [← hK]; funext y; simp [mNigM, mNig, mU, mR]
  have k6 : K.1 6 = M.1 6 := by rw [← hK]; funext y; simp [mNigM, mNig, mU, mR]
  have k7 : K.1 7 = M.1 7 := by rw [← hK]; funext y; simp [mNigM, mNig, mU, mR]
  have k9 : K.1 9 = nt (M.1 4) (M.1 3 4).toNat (M.1 9) := by rw [← hK]; funext y; simp [mNigM, mNig, mU, mR]
  have k10 : K.1 10 = M.1 10 := by rw [← hK]; funext y; simp [mNigM, mNig, mU, mR]
  have k11 : K.1 11 = M.1 11 := by rw [← hK]; funext y; simp [mNigM, mNig, mU, mR]
  have k12 : K.1 12 = M.1 12 := by rw [← hK]; funext y; simp [mNigM, mNig, mU, mR]
  have k13 : K.1 13 = M.1 13 := by rw [← hK]; funext y; simp [mNigM, mNig, mU, mR]
  have k14 : K.1 14 = M.1 14 := by rw [← hK]; funext y; simp [mNigM, mNig, mU, mR]
  have k16 : K.1 16 = M.1 16 := by rw [← hK]; funext y; simp [mNigM, mNig, mU, mR]
  have k17 : K.1 17 = M.1 17 := by rw [← hK]; funext y; simp [mNigM, mNig, mU, mR]
  have k18 : K.1 18 = M.1 18 := by rw [← hK]; funext y; simp [mNigM, mNig, mU, mR]
  have k20 : K.1 20 = M.1 20 := by rw [← hK]; funext y; simp [mNigM, mNig, mU, mR]
  have k21 : K.1 21 = M.1 21 := by rw [← hK]; funext y; simp [mNigM, mNig, mU, mR]
  have k22 : K.1 22 = M.1 22 := by rw [← hK]; funext y; simp [mNigM, mNig, mU, mR]
  have k23 : K.1 23 = M.1 23 := by rw [← hK]; funext y; simp [mNigM, mNig, mU, mR]
  have k24 : K.1 24 = M.1 24 := by rw [← hK]; funext y; simp [mNigM, mNig, mU, mR]
  have k25 : K.1 25 = M.1 25 := by rw [← hK]; funext y; simp [mNigM, mNig, mU, mR]
  have k27 : K.1 27 = M.1 27 := by rw [← hK]; funext y; simp [mNigM, mNig, mU, mR]
  have k28 : K.1 28 = M.1 28 := by rw [← hK]; funext y; simp [mNigM, mNig, mU, mR]
  have k29 : K.1 29 = M.1 29 := by rw [← hK]; funext y; simp [mNigM, mNig, mU, mR]
  have k49 : K.1 49 = M.1 49 := by rw [← hK]; funext y; simp [mNigM, mNig, mU, mR]
  have k50 : K.1 50 = M.1 50 := by rw [← hK]; funext y; simp [mNigM, mNig, mU, mR]
  have k51 : K.1 51 = M.1 51 := by rw [← hK]; funext y; simp [mNigM, mNig, mU, mR]
  have k52 : K.1 52 = nt (M.1 4) (M.1 3 4).toNat (M.1 52) := by rw [← hK]; unfold mNigM; rw [mU_ne (by decide), mR_eq, kdM_H hH, hH 48 (by decide), hH 52 (by decide), I_kd hI, I_3 hI]
  have k53 : K.1 53 = M.1 53 := by rw [← hK]; funext y; simp [mNigM, mNig, mU, mR]
  have k54 : K.1 54 = M.1 54 := by rw [← hK]; funext y; simp [mNigM, mNig, mU, mR]
  have k55 : K.1 55 = M.1 55 := by rw [← hK]; funext y; simp [mNigM, mNig, mU, mR]
  have k56 : K.1 56 = M.1 56 := by rw [← hK]; funext y; simp [mNigM, mNig, mU, mR]
  have k60 : K.1 60 = M.1 60 := by rw [← hK]; funext y; simp [mNigM, mNig, mU, mR]
  have k62 : K.1 62 = M.1 62 := by rw [← hK]; funext y; simp [mNigM, mNig, mU, mR]
  have k63 : K.1 63 = M.1 63 := by rw [← hK]; funext y; simp [mNigM, mNig, mU, mR]
  have k64 : K.1 64 = M.1 64 := by rw [← hK]; funext y; simp [mNigM, mNig, mU, mR]
  have k65 : K.1 65 = M.1 65 := by rw [← hK]; funext y; simp [mNigM, mNig, mU, mR]
  have k66 : K.1 66 = M.1 66 := by rw [← hK]; funext y; simp [mNigM, mNig, mU, mR]
  have k67 : K.1 67 = M.1 67 := by rw [← hK]; funext y; simp [mNigM, mNig, mU, mR]
  have k68 : K.1 68 = M.1 68 := by rw [← hK]; funext y; simp [mNigM, mNig, mU, mR]
  have k0_5 : K.1 0 5 = M.1 0 5 := by rw [← hK]; simp [mNigM, mNig, mU, mR]
  have k0_6 : K.1 0 6 = M.1 0 6 := by rw [← hK]; simp [mNigM, mNig, mU, mR]
  have k0_7 : K.1 0 7 = M.1 0 7 := by rw [← hK]; simp [mNigM, mNig, mU, mR]
  have k0_8 : K.1 0 8 = M.1 0 8 := by rw [← hK]; simp [mNigM, mNig, mU, mR]
  have k1_1 : K.1 1 1 = M.1 1 1 := by rw [← hK]; simp [mNigM, mNig, mU, mR]
  have k3_4 : K.1 3 4 = M.1 3 4 := by rw [← hK]; simp [mNigM, mNig, mU, mR]
  have k3_5 : K.1 3 5 = M.1 3 5 := by rw [← hK]; simp [mNigM, mNig, mU, mR]
  have k8_7 : K.1 8 7 = M.1 8 7 := by rw [← hK]; simp [mNigM, mNig, mU, mR]
  have k8_8 : K.1 8 8 = M.1 8 8 := by rw [← hK]; simp [mNigM, mNig, mU, mR]
  have k8_9 : K.1 8 9 = M.1 8 9 + 1 := by rw [← hK]; simp [mNigM, mNig, mU, mR]
  have k8_10 : K.1 8 10 = M.1 8 10 := by rw [← hK]; simp [mNigM, mNig, mU, mR]
  have k15_3 : K.1 15 3 = M.1 15 3 := by rw [← hK]; simp [mNigM, mNig, mU, mR]
  have k19_7 : K.1 19 7 = M.1 19 7 := by rw [← hK]; simp [mNigM, mNig, mU, mR]
  have k19_8 : K.1 19 8 = M.1 19 8 := by rw [← hK]; simp [mNigM, mNig, mU, mR]
  have k19_9 : K.1 19 9 = M.1 19 9 := by rw [← hK]; simp [mNigM, mNig, mU, mR]
  have k19_10 : K.1 19 10 = M.1 19 10 := by rw [← hK]; simp [mNigM, mNig, mU, mR]
  have k26_3 : K.1 26 3 = M.1 26 3 := by rw [← hK]; simp [mNigM, mNig, mU, mR]
  have k48_1 : K.1 48 1 = M.1 48 1 := by rw [← hK]; simp [mNigM, mNig, mU, mR]
  have k48_3 : K.1 48 3 = M.1 48 3 := by rw [← hK]; simp [mNigM, mNig, mU, mR]
  have k48_4 : K.1 48 4 = M.1 48 4 := by rw [← hK]; simp [mNigM, mNig, mU, mR]
  have k48_5 : K.1 48 5 = M.1 48 5 + 1 := by rw [← hK]; simp [mNigM, mNig, mU, mR]
  have k48_6 : K.1 48 6 = M.1 48 6 := by rw [← hK]; simp [mNigM, mNig, mU, mR]
  have k48_7 : K.1 48 7 = M.1 48 7 := by rw [← hK]; simp [mNigM, mNig, mU, mR]
  have k48_8 : K.1 48 8 = M.1 48 8 := by rw [← hK]; simp [mNigM, mNig, mU, mR]
  have k48_9 : K.1 48 9 = M.1 48 9 := by rw [← hK]; simp [mNigM, mNig, mU, mR]
  have k48_18 : K.1 48 18 = M.1 48 18 := by rw [← hK]; simp [mNigM, mNig, mU, mR]
  have k48_21 : K.1 48 21 = M.1 48 21 := by rw [← hK]; simp [mNigM, mNig, mU, mR]
  have k48_22 : K.1 48 22 = M.1 48 22 := by rw [← hK]; simp [mNigM, mNig, mU, mR]
  have k48_26 : K.1 48 26 = M.1 48 26 := by rw [← hK]; simp [mNigM, mNig, mU, mR]
  have k48_27 : K.1 48 27 = M.1 48 27 := by rw [← hK]; simp [mNigM, mNig, mU, mR]
  have k48_28 : K.1 48 28 = M.1 48 28 := by rw [← hK]; simp [mNigM, mNig, mU, mR]
  have k48_29 : K.1 48 29 = M.1 48 29 := by rw [← hK]; simp [mNigM, mNig, mU, mR]
  have k48_30 : K.1 48 30 = M.1 48 30 := by rw [← hK]; simp [mNigM, mNig, mU, mR]
  have k48_31 : K.1 48 31 = M.1 48 31 := by rw [← hK]; simp [mNigM, mNig, mU, mR]
  have jA1 : A1 K := by
    unfold A1 oP
    simp only [k1_1, k2]
    exact hA1
  have jA2 : A2 K := by
    unfold A2 oV
    simp only [k3_4, k3_5, k4, k5, k6, k7]
    exact hA2
  have jA3 : A3 K := by
    unfold A3 oF
    simp only [k9, k10, k8_7, k13, k14]
    exact ⟨nt_b hA3.1, hA3.2⟩
  have jA4 : A4 K := by
    unfold A4
    simp only [k12]
    exact hA4
  have jA5 : A5 K := by
    unfold A5
    simp only [k8_8, k3_5]
    exact hA5
  have jA6 : A6 K := by
    unfold A6
    simp only [k8_9]
    have := hA6.1
    omega
  have jA7 : A7 K := by
    unfold A7
    simp only [k15_3, k16, k17, k18]
    exact hA7
  have jA8 : A8 K := by
    unfold A8
    simp only [k0_7, k0_8, k0_5]
    exact hA8
  have jB1 : B1 K := by
    unfold B1 oMp
    simp only [k48_1, k49]
    exact hB1
  have jB2 : B2 K := by
    unfold B2 oMv
    simp only [k48_3, k48_4]
    exact hB2
  have jB3 : B3 K := by
    unfold B3 oMr
    simp only [k50]
    exact hB3
  have jB4 : B4 K := by
    unfold B4 oMf
    simp only [k51, k48_8, k56, k53]
    exact hB4
  have jB5 : B5 K := by
    unfold B5 oMg
    simp only [k52]
    exact nt_b hB5
  have jB6 : B6 K := by
    unfold B6 oMs
    simp only [k48_22, k60]
    exact hB6
  have jB7 : B7 K := by
    unfold B7
    simp only [k55]
    exact hB7
  have jB8 : B8 K := by
    unfold B8
    simp only [k54]
    exact hB8
  have jB9 : B9 K := by
    unfold B9
    simp only [k48_5]
    have e := hS7n.1
    have := hB9.1
    omega
  have jC1 : C1 K := by
    unfold C1
    simp only [k48_1, k1_1, k49, k2]
    exact hC1
  have jC2 : C2 K := by
    unfold C2
    simp only [k48_3, k3_4, k48_4, k3_5, k50, k4, k5, k6, k53, k7]
    exact hC2
  have jS1n : S1n K := by
    unfold S1n
    simp only [k3_4, k50, k11, k51, k10, k52, k9]
    exact fun i hi => ⟨(hS1n i hi).1, (hS1n i hi).2.1, (GE_nt (GE_0 hI) hn.1).1 i hi⟩
  have jS2n : S2n K := by
    unfold S2n
    simp only [k3_4, k9, k11]
    exact fun i h1 h2 => ⟨(GE_nt (GE_0 hI) hn.1).2 i h1 h2, (hS2n i h1 h2).2⟩
  have jS3n : S3n K := by
    unfold S3n
    simp only [k55, k12]
    exact hS3n
  have jS4n : S4n K := by
    unfold S4n
    simp only [k3_5, k54, k8_8]
    exact hS4n
  have jS5n : S5n K := by
    unfold S5n
    simp only [k56, k13, k14, k48_8, k8_7]
    exact hS5n
  have jS6n : S6n K := by
    unfold S6n
    simp only [k60, k16, k17, k18, k48_22, k15_3]
    exact hS6n
  have jS7n : S7n K := by
    unfold S7n
    simp only [k48_5, k8_9, k48_6, k11, k48_7, k8_10]
    exact ⟨by rw [hS7n.1], hS7n.2⟩
  have jC4 : C4 K := by
    unfold C4
    simp only [k48_9, k0_6, k48_18, k0_7, k48_21, k0_8]
    exact hC4
  have jC5 : C5 (c) K := by
    unfold C5
    simp only [k48_26, k48_9, k0_5]
    exact hC5
  have jC6 : C6 K := by
    unfold C6 KP S1k S2k S3k S4k S5k S6k S7k oF
    simp only [k0_5, k50, k3_4, k3_5, k20, k21, k22, k23, k24, k25, k27, k28, k29, k19_7, k19_8, k19_9, k19_10, k26_3, k62, k63, k64, k65, k66, k67, k68, k48_27, k48_28, k48_29, k48_30, k48_31]
    exact hC6
  exact ⟨⟨jA1, jA2, jA3, jA4, jA5, jA6, jA7, jA8⟩, ⟨jB1, jB2, jB3, jB4, jB5, jB6, jB7, jB8, jB9⟩, jC1, jC2, ⟨jS1n, jS2n, jS3n, jS4n, jS5n, jS6n, jS7n⟩, jC4, jC5, jC6⟩
set_option maxRecDepth 10000 in
set_option maxHeartbeats 1000000 in
theorem K_curdle {c : Nat} {M : Mm_} (hI : INV c M)  : INV (c) (mCurM (mCur M)) := by
  obtain ⟨⟨hA1, hA2, hA3, hA4, hA5, hA6, hA7, hA8⟩, ⟨hB1, hB2, hB3, hB4, hB5, hB6, hB7, hB8, hB9⟩, hC1, hC2, ⟨hS1n, hS2n, hS3n, hS4n, hS5n, hS6n, hS7n⟩, hC4, hC5, hC6⟩ := id hI
  have hn := I_n hI
  have hH : mH M (mCur M) := fun i hi => by unfold mCur; rw [mU_ne (by omega), mU_ne (by omega), mU_ne (by omega)]
  obtain ⟨K, hK⟩ : ∃ K : Mm_, (mCurM (mCur M)) = K := ⟨_, rfl⟩
  rw [hK]
  have k2 : K.1 2 = M.1 2 := by rw [← hK]; funext y; simp [mCurM, mCur, mU, mR]
  have k4 : K.1 4 = M.1 4 := by rw [← hK]; funext y; simp [mCurM, mCur, mU, mR]
  have k5 : K.1 5 = M.1 5 := by rw [← hK]; funext y; simp [mCurM, mCur, mU, mR]
  have k6 : K.1 6 = M.1 6 := by rw [← hK]; funext y; simp [mCurM, mCur, mU, mR]
  have k7 : K.1 7 = M.1 7 := by rw [← hK]; funext y; simp [mCurM, mCur, mU, mR]
  have k9 : K.1 9 = M.1 9 := by rw [← hK]; funext y; simp [mCurM, mCur, mU, mR]
  have k10 : K.1 10 = M.1 10 := by rw [← hK]; funext y; simp [mCurM, mCur, mU, mR]
  have k11 : K.1 11 = M.1 11 := by rw [← hK]; funext y; simp [mCurM, mCur, mU, mR]
  have k12 : K.1 12 = M.1 12 := by rw [← hK]; funext y; simp [mCurM, mCur, mU, mR]
  have k13 : K.1 13 = M.1 13 := by rw [← hK]; funext y; simp [mCurM, mCur, mU, mR]
  have k14 : K.1 14 = M.1 14 := by rw [← hK]; funext y; simp [mCurM, mCur, mU, mR]
  have k16 : K.1 16 = M.1 16 := by rw [← hK]; funext y; simp [mCurM, mCur, mU, mR]
  have k17 : K.1 17 = M.1 17 := by rw [← hK]; funext y; simp [mCurM, mCur, mU, mR]
  have k18 : K.1 18 = M.1 18 := by rw [← hK]; funext y; simp [mCurM, mCur, mU, mR]
  have k20 : K.1 20 = M.1 20 := by rw [← hK]; funext y; simp [mCurM, mCur, mU, mR]
  have k21 : K.1 21 = M.1 21 := by rw [← hK]; funext y; simp [mCurM, mCur, mU, mR]
  have k22 : K.1 22 = M.1 22 := by rw [← hK]; funext y; simp [mCurM, mCur, mU, mR]
  have k23 : K.1 23 = M.1 23 := by rw [← hK]; funext y; simp [mCurM, mCur, mU, mR]
  have k24 : K.1 24 = M.1 24 := by rw [← hK]; funext y; simp [mCurM, mCur, mU, mR]
  have k25 : K.1 25 = M.1 25 := by rw [← hK]; funext y; simp [mCurM, mCur, mU, mR]
  have k27 : K.1 27 = M.1 27 := by rw [← hK]; funext y; simp [mCurM, mCur, mU, mR]
  have k28 : K.1 28 = M.1 28 := by rw [← hK]; funext y; simp [mCurM, mCur, mU, mR]
  have k29 : K.1 29 = M.1 29 := by rw [← hK]; funext y; simp [mCurM, mCur, mU, mR]
  have k49 : K.1 49 = M.1 49 := by rw [← hK]; funext y; simp [mCurM, mCur, mU, mR]
  have k50 : K.1 50 = M.1 50 := by rw [← hK]; funext y; simp [mCurM, mCur, mU, mR]
  have k51 : K.1 51 = M.1 51 := by rw [← hK]; funext y; simp [mCurM, mCur, mU, mR]
  have k52 : K.1 52 = M.1 52 := by rw [← hK]; funext y; simp [mCurM, mCur, mU, mR]
  have k53 : K.1 53 = M.1 53 := by rw [← hK]; funext y; simp [mCurM, mCur, mU, mR]
  have k54 : K.1 54 = setM M (M.1 48 4).toNat := by rw [← setM_H hH, ← hK]; funext y; simp [mCurM, mU, mR]; simp [mCur, mU]
  have k55 : K.1 55 = M.1 55 := by rw [← hK]; funext y; simp [mCurM, mCur, mU, mR]
  have k56 : K.1 56 = M.1 56 := by rw [← hK]; funext y; simp [mCurM, mCur, mU, mR]
  have k60 : K.1 60 = M.1 60 := by rw [← hK]; funext y; simp [mCurM, mCur, mU, mR]
  have k62 : K.1 62 = M.1 62 := by rw [← hK]; funext y; simp [mCurM, mCur, mU, mR]
  have k63 : K.1 63 = M.1 63 := by rw [← hK]; funext y; simp [mCurM, mCur, mU, mR]
  have k64 : K.1 64 = M.1 64 := by rw [← hK]; funext y; simp [mCurM, mCur, mU, mR]
  have k65 : K.1 65 = M.1 65 := by rw [← hK]; funext y; simp [mCurM, mCur, mU, mR]
  have k66 : K.1 66 = M.1 66 := by rw [← hK]; funext y; simp [mCurM, mCur, mU, mR]
  have k67 : K.1 67 = M.1 67 := by rw [← hK]; funext y; simp [mCurM, mCur, mU, mR]
  have k68 : K.1 68 = M.1 68 := by rw [← hK]; funext y; simp [mCurM, mCur, mU, mR]
  have k0_5 : K.1 0 5 = M.1 0 5 := by rw [← hK]; simp [mCurM, mCur, mU, mR]
  have k0_6 : K.1 0 6 = M.1 0 6 := by rw [← hK]; simp [mCurM, mCur, mU, mR]
  have k0_7 : K.1 0 7 = M.1 0 7 := by rw [← hK]; simp [mCurM, mCur, mU, mR]
  have k0_8 : K.1 0 8 = M.1 0 8 := by rw [← hK]; simp [mCurM, mCur, mU, mR]
  have k1_1 : K.1 1 1 = M.1 1 1 := by rw [← hK]; simp [mCurM, mCur, mU, mR]
  have k3_4 : K.1 3 4 = M.1 3 4 := by rw [← hK]; simp [mCurM, mCur, mU, mR]
  have k3_5 : K.1 3 5 = M.1 3 5 := by rw [← hK]; simp [mCurM, mCur, mU, mR]
  have k8_7 : K.1 8 7 = 0 := by rw [← hK]; simp [mCurM, mCur, mU, mR]
  have k8_8 : K.1 8 8 = M.1 8 8 + an (WDc (M.1 7) (FA (M.1 9) (M.1 10) (M.1 8 7) (M.1 13) (M.1 14)) (M.1 3 5).toNat) (M.1 8 8) := by rw [← hK]; simp [mCurM, mCur, mU, mR]
  have k8_9 : K.1 8 9 = M.1 8 9 := by rw [← hK]; simp [mCurM, mCur, mU, mR]
  have k8_10 : K.1 8 10 = M.1 8 10 + ob (an (WDc (M.1 7) (FA (M.1 9) (M.1 10) (M.1 8 7) (M.1 13) (M.1 14)) (M.1 3 5).toNat) (M.1 8 8)) := by rw [← hK]; simp [mCurM, mCur, mU, mR]
  have k15_3 : K.1 15 3 = M.1 15 3 := by rw [← hK]; simp [mCurM, mCur, mU, mR]
  have k19_7 : K.1 19 7 = M.1 19 7 := by rw [← hK]; simp [mCurM, mCur, mU, mR]
  have k19_8 : K.1 19 8 = M.1 19 8 := by rw [← hK]; simp [mCurM, mCur, mU, mR]
  have k19_9 : K.1 19 9 = M.1 19 9 := by rw [← hK]; simp [mCurM, mCur, mU, mR]
  have k19_10 : K.1 19 10 = M.1 19 10 := by rw [← hK]; simp [mCurM, mCur, mU, mR]
  have k26_3 : K.1 26 3 = M.1 26 3 := by rw [← hK]; simp [mCurM, mCur, mU, mR]
  have k48_1 : K.1 48 1 = M.1 48 1 := by rw [← hK]; simp [mCurM, mCur, mU, mR]
  have k48_3 : K.1 48 3 = M.1 48 3 := by rw [← hK]; simp [mCurM, mCur, mU, mR]
  have k48_4 : K.1 48 4 = M.1 48 4 := by rw [← hK]; simp [mCurM, mCur, mU, mR]
  have k48_5 : K.1 48 5 = M.1 48 5 := by rw [← hK]; simp [mCurM, mCur, mU, mR]
  have k48_6 : K.1 48 6 = M.1 48 6 := by rw [← hK]; simp [mCurM, mCur, mU, mR]
  have k48_7 : K.1 48 7 = M.1 48 7 + curM M (M.1 48 4).toNat := by rw [← curM_H hH, ← hK]; simp [mCurM, mU, mR]; simp [mCur, mU]
  have k48_8 : K.1 48 8 = 0 := by rw [← hK]; simp [mCurM, mCur, mU, mR]
  have k48_9 : K.1 48 9 = M.1 48 9 := by rw [← hK]; simp [mCurM, mCur, mU, mR]
  have k48_18 : K.1 48 18 = M.1 48 18 := by rw [← hK]; simp [mCurM, mCur, mU, mR]
  have k48_21 : K.1 48 21 = M.1 48 21 := by rw [← hK]; simp [mCurM, mCur, mU, mR]
  have k48_22 : K.1 48 22 = M.1 48 22 := by rw [← hK]; simp [mCurM, mCur, mU, mR]
  have k48_26 : K.1 48 26 = M.1 48 26 := by rw [← hK]; simp [mCurM, mCur, mU, mR]
  have k48_27 : K.1 48 27 = M.1 48 27 := by rw [← hK]; simp [mCurM, mCur, mU, mR]
  have k48_28 : K.1 48 28 = M.1 48 28 := by rw [← hK]; simp [mCurM, mCur, mU, mR]
  have k48_29 : K.1 48 29 = M.1 48 29 := by rw [← hK]; simp [mCurM, mCur, mU, mR]
  have k48_30 : K.1 48 30 = M.1 48 30 := by rw [← hK]; simp [mCurM, mCur, mU, mR]
  have k48_31 : K.1 48 31 = M.1 48 31 := by rw [← hK]; simp [mCurM, mCur, mU, mR]
  have jA1 : A1 K := by
    unfold A1 oP
    simp only [k1_1, k2]
    exact hA1
  have jA2 : A2 K := by
    unfold A2 oV
    simp only [k3_4, k3_5, k4, k5, k6, k7]
    exact hA2
  have jA3 : A3 K := by
    unfold A3 oF
    simp only [k9, k10, k8_7, k13, k14]
    exact ⟨hA3.1, hA3.2.1, by omega, hA3.2.2.2⟩
  have jA4 : A4 K := by
    unfold A4
    simp only [k12]
    exact hA4
  have jA5 : A5 K := by
    unfold A5
    simp only [k8_8, k3_5]
    exact (b_set hI).1
  have jA6 : A6 K := by
    unfold A6
    simp only [k8_9]
    exact hA6
  have jA7 : A7 K := by
    unfold A7
    simp only [k15_3, k16, k17, k18]
    exact hA7
  have jA8 : A8 K := by
    unfold A8
    simp only [k0_7, k0_8, k0_5]
    exact hA8
  have jB1 : B1 K := by
    unfold B1 oMp
    simp only [k48_1, k49]
    exact hB1
  have jB2 : B2 K := by
    unfold B2 oMv
    simp only [k48_3, k48_4]
    exact hB2
  have jB3 : B3 K := by
    unfold B3 oMr
    simp only [k50]
    exact hB3
  have jB4 : B4 K := by
    unfold B4 oMf
    simp only [k51, k48_8, k56, k53]
    exact ⟨hB4.1, by omega, hB4.2.2⟩
  have jB5 : B5 K := by
    unfold B5 oMg
    simp only [k52]
    exact hB5
  have jB6 : B6 K := by
    unfold B6 oMs
    simp only [k48_22, k60]
    exact hB6
  have jB7 : B7 K := by
    unfold B7
    simp only [k55]
    exact hB7
  have jB8 : B8 K := by
    unfold B8
    simp only [k54]
    exact fun j hj => by have := hB8 j hj; unfold setM; split <;> omega
  have jB9 : B9 K := by
    unfold B9
    simp only [k48_5]
    exact hB9
  have jC1 : C1 K := by
    unfold C1
    simp only [k48_1, k1_1, k49, k2]
    exact hC1
  have jC2 : C2 K := by
    unfold C2
    simp only [k48_3, k3_4, k48_4, k3_5, k50, k4, k5, k6, k53, k7]
    exact hC2
  have jS1n : S1n K := by
    unfold S1n
    simp only [k3_4, k50, k11, k51, k10, k52, k9]
    exact hS1n
  have jS2n : S2n K := by
    unfold S2n
    simp only [k3_4, k9, k11]
    exact hS2n
  have jS3n : S3n K := by
    unfold S3n
    simp only [k55, k12]
    exact hS3n
  have jS4n : S4n K := by
    unfold S4n
    simp only [k3_5, k54, k8_8]
    exact (b_set hI).2
  have jS5n : S5n K := by
    unfold S5n
    simp only [k56, k13, k14, k48_8, k8_7]
    exact ⟨hS5n.1, trivial⟩
  have jS6n : S6n K := by
    unfold S6n
    simp only [k60, k16, k17, k18, k48_22, k15_3]
    exact hS6n
  have jS7n : S7n K := by
    unfold S7n
    simp only [k48_5, k8_9, k48_6, k11, k48_7, k8_10]
    exact ⟨hS7n.1, hS7n.2.1, by rw [b_cur hI, hS7n.2.2]⟩
  have jC4 : C4 K := by
    unfold C4
    simp only [k48_9, k0_6, k48_18, k0_7, k48_21, k0_8]
    exact hC4
  have jC5 : C5 (c) K := by
    unfold C5
    simp only [k48_26, k48_9, k0_5]
    exact hC5
  have jC6 : C6 K := by
    unfold C6 KP S1k S2k S3k S4k S5k S6k S7k oF
    simp only [k0_5, k50, k3_4, k3_5, k20, k21, k22, k23, k24, k25, k27, k28, k29, k19_7, k19_8, k19_9, k19_10, k26_3, k62, k63, k64, k65, k66, k67, k68, k48_27, k48_28, k48_29, k48_30, k48_31]
    exact hC6
  exact ⟨⟨jA1, jA2, jA3, jA4, jA5, jA6, jA7, jA8⟩, ⟨jB1, jB2, jB3, jB4, jB5, jB6, jB7, jB8, jB9⟩, jC1, jC2, ⟨jS1n, jS2n, jS3n, jS4n, jS5n, jS6n, jS7n⟩, jC4, jC5, jC6⟩
set_option maxRecDepth 10000 in
set_option maxHeartbeats 1000000 in
theorem K_fresh {c : Nat} {M : Mm_} (hI : INV c M) {k : Nat} (hk : (k : Int) < M.1 3 5) : INV (c) (mU (mU M 8 8 (an (M.1 8 8) (2 ^ k))) 54 k 0) := by
  obtain ⟨⟨hA1, hA2, hA3, hA4, hA5, hA6, hA7, hA8⟩, ⟨hB1, hB2, hB3, hB4, hB5, hB6, hB7, hB8, hB9⟩, hC1, hC2, ⟨hS1n, hS2n, hS3n, hS4n, hS5n, hS6n, hS7n⟩, hC4, hC5, hC6⟩ := id hI
  have hn := I_n hI
  have hp := pw64 (m := (M.1 3 5).toNat) (by omega)
  have hf9 := bt_f (s := M.1 8 8) hA5.1 (by have := hA5.2; omega) (k := k) (by omega)
  obtain ⟨K, hK⟩ : ∃ K : Mm_, (mU (mU M 8 8 (an (M.1 8 8) (2 ^ k))) 54 k 0) = K := ⟨_, rfl⟩
  rw [hK]
  have k2 : K.1 2 = M.1 2 := by rw [← hK]; funext y; simp [mU, mR]
  have k4 : K.1 4 = M.1 4 := by rw [← hK]; funext y; simp [mU, mR]
  have k5 : K.1 5 = M.1 5 := by rw [← hK]; funext y; simp [mU, mR]
  have k6 : K.1 6 = M.1 6 := by rw [← hK]; funext y; simp [mU, mR]
  have k7 : K.1 7 = M.1 7 := by rw [← hK]; funext y; simp [mU, mR]
  have k9 : K.1 9 = M.1 9 := by rw [← hK]; funext y; simp [mU, mR]
  have k10 : K.1 10 = M.1 10 := by rw [← hK]; funext y; simp [mU, mR]
  have k11 : K.1 11 = M.1 11 := by rw [← hK]; funext y; simp [mU, mR]
  have k12 : K.1 12 = M.1 12 := by rw [← hK]; funext y; simp [mU, mR]
  have k13 : K.1 13 = M.1 13 := by rw [← hK]; funext y; simp [mU, mR]
  have k14 : K.1 14 = M.1 14 := by rw [← hK]; funext y; simp [mU, mR]
  have k16 : K.1 16 = M.1 16 := by rw [← hK]; funext y; simp [mU, mR]
  have k17 : K.1 17 = M.1 17 := by rw [← hK]; funext y; simp [mU, mR]
  have k18 : K.1 18 = M.1 18 := by rw [← hK]; funext y; simp [mU, mR]
  have k20 : K.1 20 = M.1 20 := by rw [← hK]; funext y; simp [mU, mR]
  have k21 : K.1 21 = M.1 21 := by rw [← hK]; funext y; simp [mU, mR]
  have k22 : K.1 22 = M.1 22 := by rw [← hK]; funext y; simp [mU, mR]
  have k23 : K.1 23 = M.1 23 := by rw [← hK]; funext y; simp [mU, mR]
  have k24 : K.1 24 = M.1 24 := by rw [← hK]; funext y; simp [mU, mR]
  have k25 : K.1 25 = M.1 25 := by rw [← hK]; funext y; simp [mU, mR]
  have k27 : K.1 27 = M.1 27 := by rw [← hK]; funext y; simp [mU, mR]
  have k28 : K.1 28 = M.1 28 := by rw [← hK]; funext y; simp [mU, mR]
  have k29 : K.1 29 = M.1 29 := by rw [← hK]; funext y; simp [mU, mR]
  have k49 : K.1 49 = M.1 49 := by rw [← hK]; funext y; simp [mU, mR]
  have k50 : K.1 50 = M.1 50 := by rw [← hK]; funext y; simp [mU, mR]
  have k51 : K.1 51 = M.1 51 := by rw [← hK]; funext y; simp [mU, mR]
  have k52 : K.1 52 = M.1 52 := by rw [← hK]; funext y; simp [mU, mR]
  have k53 : K.1 53 = M.1 53 := by rw [← hK]; funext y; simp [mU, mR]
  have k54 : K.1 54 = (fun j => if j = k then 0 else M.1 54 j) := by rw [← hK]; funext y; simp [mU, mR]
  have k55 : K.1 55 = M.1 55 := by rw [← hK]; funext y; simp [mU, mR]
  have k56 : K.1 56 = M.1 56 := by rw [← hK]; funext y; simp [mU, mR]
  have k60 : K.1 60 = M.1 60 := by rw [← hK]; funext y; simp [mU, mR]
  have k62 : K.1 62 = M.1 62 := by rw [← hK]; funext y; simp [mU, mR]
  have k63 : K.1 63 = M.1 63 := by rw [← hK]; funext y; simp [mU, mR]
  have k64 : K.1 64 = M.1 64 := by rw [← hK]; funext y; simp [mU, mR]
  have k65 : K.1 65 = M.1 65 := by rw [← hK]; funext y; simp [mU, mR]
  have k66 : K.1 66 = M.1 66 := by rw [← hK]; funext y; simp [mU, mR]
  have k67 : K.1 67 = M.1 67 := by rw [← hK]; funext y; simp [mU, mR]
  have k68 : K.1 68 = M.1 68 := by rw [← hK]; funext y; simp [mU, mR]
  have k0_5 : K.1 0 5 = M.1 0 5 := by rw [← hK]; simp [mU, mR]
  have k0_6 : K.1 0 6 = M.1 0 6 := by rw [← hK]; simp [mU, mR]
  have k0_7 : K.1 0 7 = M.1 0 7 := by rw [← hK]; simp [mU, mR]
  have k0_8 : K.1 0 8 = M.1 0 8 := by rw [← hK]; simp [mU, mR]
  have k1_1 : K.1 1 1 = M.1 1 1 := by rw [← hK]; simp [mU, mR]
  have k3_4 : K.1 3 4 = M.1 3 4 := by rw [← hK]; simp [mU, mR]
  have k3_5 : K.1 3 5 = M.1 3 5 := by rw [← hK]; simp [mU, mR]
  have k8_7 : K.1 8 7 = M.1 8 7 := by rw [← hK]; simp [mU, mR]
  have k8_8 : K.1 8 8 = an (M.1 8 8) (2 ^ k) := by rw [← hK]; simp [mU, mR]
  have k8_9 : K.1 8 9 = M.1 8 9 := by rw [← hK]; simp [mU, mR]
  have k8_10 : K.1 8 10 = M.1 8 10 := by rw [← hK]; simp [mU, mR]
  have k15_3 : K.1 15 3 = M.1 15 3 := by rw [← hK]; simp [mU, mR]
  have k19_7 : K.1 19 7 = M.1 19 7 := by rw [← hK]; simp [mU, mR]
  have k19_8 : K.1 19 8 = M.1 19 8 := by rw [← hK]; simp [mU, mR]
  have k19_9 : K.1 19 9 = M.1 19 9 := by rw [← hK]; simp [mU, mR]
  have k19_10 : K.1 19 10 = M.1 19 10 := by rw [← hK]; simp [mU, mR]
  have k26_3 : K.1 26 3 = M.1 26 3 := by rw [← hK]; simp [mU, mR]
  have k48_1 : K.1 48 1 = M.1 48 1 := by rw [← hK]; simp [mU, mR]
  have k48_3 : K.1 48 3 = M.1 48 3 := by rw [← hK]; simp [mU, mR]
  have k48_4 : K.1 48 4 = M.1 48 4 := by rw [← hK]; simp [mU, mR]
  have k48_5 : K.1 48 5 = M.1 48 5 := by rw [← hK]; simp [mU, mR]
  have k48_6 : K.1 48 6 = M.1 48 6 := by rw [← hK]; simp [mU, mR]
  have k48_7 : K.1 48 7 = M.1 48 7 := by rw [← hK]; simp [mU, mR]
  have k48_8 : K.1 48 8 = M.1 48 8 := by rw [← hK]; simp [mU, mR]
  have k48_9 : K.1 48 9 = M.1 48 9 := by rw [← hK]; simp [mU, mR]
  have k48_18 : K.1 48 18 = M.1 48 18 := by rw [← hK]; simp [mU, mR]
  have k48_21 : K.1 48 21 = M.1 48 21 := by rw [← hK]; simp [mU, mR]
  have k48_22 : K.1 48 22 = M.1 48 22 := by rw [← hK]; simp [mU, mR]
  have k48_26 : K.1 48 26 = M.1 48 26 := by rw [← hK]; simp [mU, mR]
  have k48_27 : K.1 48 27 = M.1 48 27 := by rw [← hK]; simp [mU, mR]
  have k48_28 : K.1 48 28 = M.1 48 28 := by rw [← hK]; simp [mU, mR]
  have k48_29 : K.1 48 29 = M.1 48 29 := by rw [← hK]; simp [mU, mR]
  have k48_30 : K.1 48 30 = M.1 48 30 := by rw [← hK]; simp [mU, mR]
  have k48_31 : K.1 48 31 = M.1 48 31 := by rw [← hK]; simp [mU, mR]
  have jA1 : A1 K := by
    unfold A1 oP
    simp only [k1_1, k2]
    exact hA1
  have jA2 : A2 K := by
    unfold A2 oV
    simp only [k3_4, k3_5, k4, k5, k6, k7]
    exact hA2
  have jA3 : A3 K := by
    unfold A3 oF
    simp only [k9, k10, k8_7, k13, k14]
    exact hA3
  have jA4 : A4 K := by
    unfold A4
    simp only [k12]
    exact hA4
  have jA5 : A5 K := by
    unfold A5
    simp only [k8_8, k3_5]
    have h1 := hf9.1
    have h2 := hA5.2
    omega
  have jA6 : A6 K := by
    unfold A6
    simp only [k8_9]
    exact hA6
  have jA7 : A7 K := by
    unfold A7
    simp only [k15_3, k16, k17, k18]
    exact hA7
  have jA8 : A8 K := by
    unfold A8
    simp only [k0_7, k0_8, k0_5]
    exact hA8
  have jB1 : B1 K := by
    unfold B1 oMp
    simp only [k48_1, k49]
    exact hB1
  have jB2 : B2 K := by
    unfold B2 oMv
    simp only [k48_3, k48_4]
    exact hB2
  have jB3 : B3 K := by
    unfold B3 oMr
    simp only [k50]
    exact hB3
  have jB4 : B4 K := by
    unfold B4 oMf
    simp only [k51, k48_8, k56, k53]
    exact hB4
  have jB5 : B5 K := by
    unfold B5 oMg
    simp only [k52]
    exact hB5
  have jB6 : B6 K := by
    unfold B6 oMs
    simp only [k48_22, k60]
    exact hB6
  have jB7 : B7 K := by
    unfold B7
    simp only [k55]
    exact hB7
  have jB8 : B8 K := by
    unfold B8
    simp only [k54]
    exact fun j hj => by have := hB8 j hj; split <;> omega
  have jB9 : B9 K := by
    unfold B9
    simp only [k48_5]
    exact hB9
  have jC1 : C1 K := by
    unfold C1
    simp only [k48_1, k1_1, k49, k2]
    exact hC1
  have jC2 : C2 K := by
    unfold C2
    simp only [k48_3, k3_4, k48_4, k3_5, k50, k4, k5, k6, k53, k7]
    exact hC2
  have jS1n : S1n K := by
    unfold S1n
    simp only [k3_4, k50, k11, k51, k10, k52, k9]
    exact hS1n
  have jS2n : S2n K := by
    unfold S2n
    simp only [k3_4, k9, k11]
    exact hS2n
  have jS3n : S3n K := by
    unfold S3n
    simp only [k55, k12]
    exact hS3n
  have jS4n : S4n K := by
    unfold S4n
    simp only [k3_5, k54, k8_8]
    exact fun j hj => by rw [hf9.2 j (by omega), hS4n j hj]
  have jS5n : S5n K := by
    unfold S5n
    simp only [k56, k13, k14, k48_8, k8_7]
    exact hS5n
  have jS6n : S6n K := by
    unfold S6n
    simp only [k60, k16, k17, k18, k48_22, k15_3]
    exact hS6n
  have jS7n : S7n K := by
    unfold S7n
    simp only [k48_5, k8_9, k48_6, k11, k48_7, k8_10]
    exact hS7n
  have jC4 : C4 K := by
    unfold C4
    simp only [k48_9, k0_6, k48_18, k0_7, k48_21, k0_8]
    exact hC4
  have jC5 : C5 (c) K := by
    unfold C5
    simp only [k48_26, k48_9, k0_5]
    exact hC5
  have jC6 : C6 K := by
    unfold C6 KP S1k S2k S3k S4k S5k S6k S7k oF
    simp only [k0_5, k50, k3_4, k3_5, k20, k21, k22, k23, k24, k25, k27, k28, k29, k19_7, k19_8, k19_9, k19_10, k26_3, k62, k63, k64, k65, k66, k67, k68, k48_27, k48_28, k48_29, k48_30, k48_31]
    exact hC6
  exact ⟨⟨jA1, jA2, jA3, jA4, jA5, jA6, jA7, jA8⟩, ⟨jB1, jB2, jB3, jB4, jB5, jB6, jB7, jB8, jB9⟩, jC1, jC2, ⟨jS1n, jS2n, jS3n, jS4n, jS5n, jS6n, jS7n⟩, jC4, jC5, jC6⟩
set_option maxRecDepth 10000 in
set_option maxHeartbeats 1000000 in
theorem K_keep {c : Nat} {M : Mm_} (hI : INV c M) {b k : Nat} (hb : b < 4) (hk : (k : Int) < M.1 3 4) : INV (c) (mKeepM (mKeep M b k) b k) := by
  obtain ⟨⟨hA1, hA2, hA3, hA4, hA5, hA6, hA7, hA8⟩, ⟨hB1, hB2, hB3, hB4, hB5, hB6, hB7, hB8, hB9⟩, hC1, hC2, ⟨hS1n, hS2n, hS3n, hS4n, hS5n, hS6n, hS7n⟩, hC4, hC5, hC6⟩ := id hI
  have hn := I_n hI
  obtain ⟨K, hK⟩ : ∃ K : Mm_, (mKeepM (mKeep M b k) b k) = K := ⟨_, rfl⟩
  rw [hK]
  have k2 : K.1 2 = M.1 2 := by rw [← hK]; funext y; simp [mKeepM, mKeep, mU, mR]
  have k4 : K.1 4 = M.1 4 := by rw [← hK]; funext y; simp [mKeepM, mKeep, mU, mR]
  have k5 : K.1 5 = M.1 5 := by rw [← hK]; funext y; simp [mKeepM, mKeep, mU, mR]
  have k6 : K.1 6 = M.1 6 := by rw [← hK]; funext y; simp [mKeepM, mKeep, mU, mR]
  have k7 : K.1 7 = M.1 7 := by rw [← hK]; funext y; simp [mKeepM, mKeep, mU, mR]
  have k9 : K.1 9 = (fun j => if j = k then 0 else M.1 9 j) := by rw [← hK]; funext y; simp [mKeepM, mKeep, mU, mR]
  have k10 : K.1 10 = M.1 10 := by rw [← hK]; funext y; simp [mKeepM, mKeep, mU, mR]
  have k11 : K.1 11 = M.1 11 := by rw [← hK]; funext y; simp [mKeepM, mKeep, mU, mR]
  have k12 : K.1 12 = (fun j => if j = b then M.1 9 k else M.1 12 j) := by rw [← hK]; funext y; simp [mKeepM, mKeep, mU, mR]
  have k13 : K.1 13 = M.1 13 := by rw [← hK]; funext y; simp [mKeepM, mKeep, mU, mR]
  have k14 : K.1 14 = M.1 14 := by rw [← hK]; funext y; simp [mKeepM, mKeep, mU, mR]
  have k16 : K.1 16 = M.1 16 := by rw [← hK]; funext y; simp [mKeepM, mKeep, mU, mR]
  have k17 : K.1 17 = M.1 17 := by rw [← hK]; funext y; simp [mKeepM, mKeep, mU, mR]
  have k18 : K.1 18 = M.1 18 := by rw [← hK]; funext y; simp [mKeepM, mKeep, mU, mR]
  have k20 : K.1 20 = M.1 20 := by rw [← hK]; funext y; simp [mKeepM, mKeep, mU, mR]
  have k21 : K.1 21 = M.1 21 := by rw [← hK]; funext y; simp [mKeepM, mKeep, mU, mR]
  have k22 : K.1 22 = M.1 22 := by rw [← hK]; funext y; simp [mKeepM, mKeep, mU, mR]
  have k23 : K.1 23 = M.1 23 := by rw [← hK]; funext y; simp [mKeepM, mKeep, mU, mR]
  have k24 : K.1 24 = M.1 24 := by rw [← hK]; funext y; simp [mKeepM, mKeep, mU, mR]
  have k25 : K.1 25 = M.1 25 := by rw [← hK]; funext y; simp [mKeepM, mKeep, mU, mR]
  have k27 : K.1 27 = M.1 27 := by rw [← hK]; funext y; simp [mKeepM, mKeep, mU, mR]
  have k28 : K.1 28 = M.1 28 := by rw [← hK]; funext y; simp [mKeepM, mKeep, mU, mR]
  have k29 : K.1 29 = M.1 29 := by rw [← hK]; funext y; simp [mKeepM, mKeep, mU, mR]
  have k49 : K.1 49 = M.1 49 := by rw [← hK]; funext y; simp [mKeepM, mKeep, mU, mR]
  have k50 : K.1 50 = M.1 50 := by rw [← hK]; funext y; simp [mKeepM, mKeep, mU, mR]
  have k51 : K.1 51 = M.1 51 := by rw [← hK]; funext y; simp [mKeepM, mKeep, mU, mR]
  have k52 : K.1 52 = (fun j => if j = k then 0 else M.1 52 j) := by rw [← hK]; funext y; simp [mKeepM, mKeep, mU, mR]
  have k53 : K.1 53 = M.1 53 := by rw [← hK]; funext y; simp [mKeepM, mKeep, mU, mR]
  have k54 : K.1 54 = M.1 54 := by rw [← hK]; funext y; simp [mKeepM, mKeep, mU, mR]
  have k55 : K.1 55 = (fun j => if j = b then M.1 52 k else M.1 55 j) := by rw [← hK]; funext y; simp [mKeepM, mKeep, mU, mR]
  have k56 : K.1 56 = M.1 56 := by rw [← hK]; funext y; simp [mKeepM, mKeep, mU, mR]
  have k60 : K.1 60 = M.1 60 := by rw [← hK]; funext y; simp [mKeepM, mKeep, mU, mR]
  have k62 : K.1 62 = M.1 62 := by rw [← hK]; funext y; simp [mKeepM, mKeep, mU, mR]
  have k63 : K.1 63 = M.1 63 := by rw [← hK]; funext y; simp [mKeepM, mKeep, mU, mR]
  have k64 : K.1 64 = M.1 64 := by rw [← hK]; funext y; simp [mKeepM, mKeep, mU, mR]
  have k65 : K.1 65 = M.1 65 := by rw [← hK]; funext y; simp [mKeepM, mKeep, mU, mR]
  have k66 : K.1 66 = M.1 66 := by rw [← hK]; funext y; simp [mKeepM, mKeep, mU, mR]
  have k67 : K.1 67 = M.1 67 := by rw [← hK]; funext y; simp [mKeepM, mKeep, mU, mR]
  have k68 : K.1 68 = M.1 68 := by rw [← hK]; funext y; simp [mKeepM, mKeep, mU, mR]
  have k0_5 : K.1 0 5 = M.1 0 5 := by rw [← hK]; simp [mKeepM, mKeep, mU, mR]
  have k0_6 : K.1 0 6 = M.1 0 6 := by rw [← hK]; simp [mKeepM, mKeep, mU, mR]
  have k0_7 : K.1 0 7 = M.1 0 7 := by rw [← hK]; simp [mKeepM, mKeep, mU, mR]
  have k0_8 : K.1 0 8 = M.1 0 8 := by rw [← hK]; simp [mKeepM, mKeep, mU, mR]
  have k1_1 : K.1 1 1 = M.1 1 1 := by rw [← hK]; simp [mKeepM, mKeep, mU, mR]
  have k3_4 : K.1 3 4 = M.1 3 4 := by rw [← hK]; simp [mKeepM, mKeep, mU, mR]
  have k3_5 : K.1 3 5 = M.1 3 5 := by rw [← hK]; simp [mKeepM, mKeep, mU, mR]
  have k8_7 : K.1 8 7 = M.1 8 7 := by rw [← hK]; simp [mKeepM, mKeep, mU, mR]
  have k8_8 : K.1 8 8 = M.1 8 8 := by rw [← hK]; simp [mKeepM, mKeep, mU, mR]
  have k8_9 : K.1 8 9 = M.1 8 9 := by rw [← hK]; simp [mKeepM, mKeep, mU, mR]
  have k8_10 : K.1 8 10 = M.1 8 10 := by rw [← hK]; simp [mKeepM, mKeep, mU, mR]
  have k15_3 : K.1 15 3 = M.1 15 3 := by rw [← hK]; simp [mKeepM, mKeep, mU, mR]
  have k19_7 : K.1 19 7 = M.1 19 7 := by rw [← hK]; simp [mKeepM, mKeep, mU, mR]
  have k19_8 : K.1 19 8 = M.1 19 8 := by rw [← hK]; simp [mKeepM, mKeep, mU, mR]
  have k19_9 : K.1 19 9 = M.1 19 9 := by rw [← hK]; simp [mKeepM, mKeep, mU, mR]
  have k19_10 : K.1 19 10 = M.1 19 10 := by rw [← hK]; simp [mKeepM, mKeep, mU, mR]
  have k26_3 : K.1 26 3 = M.1 26 3 := by rw [← hK]; simp [mKeepM, mKeep, mU, mR]
  have k48_1 : K.1 48 1 = M.1 48 1 := by rw [← hK]; simp [mKeepM, mKeep, mU, mR]
  have k48_3 : K.1 48 3 = M.1 48 3 := by rw [← hK]; simp [mKeepM, mKeep, mU, mR]
  have k48_4 : K.1 48 4 = M.1 48 4 := by rw [← hK]; simp [mKeepM, mKeep, mU, mR]
  have k48_5 : K.1 48 5 = M.1 48 5 := by rw [← hK]; simp [mKeepM, mKeep, mU, mR]
  have k48_6 : K.1 48 6 = M.1 48 6 := by rw [← hK]; simp [mKeepM, mKeep, mU, mR]
  have k48_7 : K.1 48 7 = M.1 48 7 := by rw [← hK]; simp [mKeepM, mKeep, mU, mR]
  have k48_8 : K.1 48 8 = M.1 48 8 := by rw [← hK]; simp [mKeepM, mKeep, mU, mR]
  have k48_9 : K.1 48 9 = M.1 48 9 := by rw [← hK]; simp [mKeepM, mKeep, mU, mR]
  have k48_18 : K.1 48 18 = M.1 48 18 := by rw [← hK]; simp [mKeepM, mKeep, mU, mR]
  have k48_21 : K.1 48 21 = M.1 48 21 := by rw [← hK]; simp [mKeepM, mKeep, mU, mR]
  have k48_22 : K.1 48 22 = M.1 48 22 := by rw [← hK]; simp [mKeepM, mKeep, mU, mR]
  have k48_26 : K.1 48 26 = M.1 48 26 := by rw [← hK]; simp [mKeepM, mKeep, mU, mR]
  have k48_27 : K.1 48 27 = M.1 48 27 := by rw [← hK]; simp [mKeepM, mKeep, mU, mR]
  have k48_28 : K.1 48 28 = M.1 48 28 := by rw [← hK]; simp [mKeepM, mKeep, mU, mR]
  have k48_29 : K.1 48 29 = M.1 48 29 := by rw [← hK]; simp [mKeepM, mKeep, mU, mR]
  have k48_30 : K.1 48 30 = M.1 48 30 := by rw [← hK]; simp [mKeepM, mKeep, mU, mR]
  have k48_31 : K.1 48 31 = M.1 48 31 := by rw [← hK]; simp [mKeepM, mKeep, mU, mR]
  have jA1 : A1 K := by
    unfold A1 oP
    simp only [k1_1, k2]
    exact hA1
  have jA2 : A2 K := by
    unfold A2 oV
    simp only [k3_4, k3_5, k4, k5, k6, k7]
    exact hA2
  have jA3 : A3 K := by
    unfold A3 oF
    simp only [k9, k10, k8_7, k13, k14]
    exact ⟨fun i hi => by have := hA3.1 i hi; split <;> omega, hA3.2⟩
  have jA4 : A4 K := by
    unfold A4
    simp only [k12]
    exact fun i hi => by have h1 := hA4 i hi; have h2 := hA3.1 k (by omega); split <;> omega
  have jA5 : A5 K := by
    unfold A5
    simp only [k8_8, k3_5]
    exact hA5
  have jA6 : A6 K := by
    unfold A6
    simp only [k8_9]
    exact hA6
  have jA7 : A7 K := by
    unfold A7
    simp only [k15_3, k16, k17, k18]
    exact hA7
  have jA8 : A8 K := by
    unfold A8
    simp only [k0_7, k0_8, k0_5]
    exact hA8
  have jB1 : B1 K := by
    unfold B1 oMp
    simp only [k48_1, k49]
    exact hB1
  have jB2 : B2 K := by
    unfold B2 oMv
    simp only [k48_3, k48_4]
    exact hB2
  have jB3 : B3 K := by
    unfold B3 oMr
    simp only [k50]
    exact hB3
  have jB4 : B4 K := by
    unfold B4 oMf
    simp only [k51, k48_8, k56, k53]
    exact hB4
  have jB5 : B5 K := by
    unfold B5 oMg
    simp only [k52]
    exact fun i hi => by have := hB5 i hi; split <;> omega
  have jB6 : B6 K := by
    unfold B6 oMs
    simp only [k48_22, k60]
    exact hB6
  have jB7 : B7 K := by
    unfold B7
    simp only [k55]
    exact fun i hi => by have h1 := hB7 i hi; have h2 := hB5 k (by omega); split <;> omega
  have jB8 : B8 K := by
    unfold B8
    simp only [k54]
    exact hB8
  have jB9 : B9 K := by
    unfold B9
    simp only [k48_5]
    exact hB9
  have jC1 : C1 K := by
    unfold C1
    simp only [k48_1, k1_1, k49, k2]
    exact hC1
  have jC2 : C2 K := by
    unfold C2
    simp only [k48_3, k3_4, k48_4, k3_5, k50, k4, k5, k6, k53, k7]
    exact hC2
  have jS1n : S1n K := by
    unfold S1n
    simp only [k3_4, k50, k11, k51, k10, k52, k9]
    exact fun i hi => ⟨(hS1n i hi).1, (hS1n i hi).2.1, by rw [(hS1n i hi).2.2]⟩
  have jS2n : S2n K := by
    unfold S2n
    simp only [k3_4, k9, k11]
    exact fun i h1 h2 => ⟨by rw [if_neg (by omega)]; exact (hS2n i h1 h2).1, (hS2n i h1 h2).2⟩
  have jS3n : S3n K := by
    unfold S3n
    simp only [k55, k12]
    exact fun i hi => by rw [(hS1n k hk).2.2, hS3n i hi]
  have jS4n : S4n K := by
    unfold S4n
    simp only [k3_5, k54, k8_8]
    exact hS4n
  have jS5n : S5n K := by
    unfold S5n
    simp only [k56, k13, k14, k48_8, k8_7]
    exact hS5n
  have jS6n : S6n K := by
    unfold S6n
    simp only [k60, k16, k17, k18, k48_22, k15_3]
    exact hS6n
  have jS7n : S7n K := by
    unfold S7n
    simp only [k48_5, k8_9, k48_6, k11, k48_7, k8_10]
    exact hS7n
  have jC4 : C4 K := by
    unfold C4
    simp only [k48_9, k0_6, k48_18, k0_7, k48_21, k0_8]
    exact hC4
  have jC5 : C5 (c) K := by
    unfold C5
    simp only [k48_26, k48_9, k0_5]
    exact hC5
  have jC6 : C6 K := by
    unfold C6 KP S1k S2k S3k S4k S5k S6k S7k oF
    simp only [k0_5, k50, k3_4, k3_5, k20, k21, k22, k23, k24, k25, k27, k28, k29, k19_7, k19_8, k19_9, k19_10, k26_3, k62, k63, k64, k65, k66, k67, k68, k48_27, k48_28, k48_29, k48_30, k48_31]
    exact hC6
  exact ⟨⟨jA1, jA2, jA3, jA4, jA5, jA6, jA7, jA8⟩, ⟨jB1, jB2, jB3, jB4, jB5, jB6, jB7, jB8, jB9⟩, jC1, jC2, ⟨jS1n, jS2n, jS3n, jS4n, jS5n, jS6n, jS7n⟩, jC4, jC5, jC6⟩
set_option maxRecDepth 10000 in
set_option maxHeartbeats 1000000 in
theorem K_pour {c : Nat} {M : Mm_} (hI : INV c M) {b : Nat} {q : Int} (hb : b < 4) (hq : 0 ≤ q ∧ q < 6) (h4 : M.1 8 7 < 4) : INV (c) (mPourM (mPour M b q) b q) := by
  obtain ⟨⟨hA1, hA2, hA3, hA4, hA5, hA6, hA7, hA8⟩, ⟨hB1, hB2, hB3, hB4, hB5, hB6, hB7, hB8, hB9⟩, hC1, hC2, ⟨hS1n, hS2n, hS3n, hS4n, hS5n, hS6n, hS7n⟩, hC4, hC5, hC6⟩ := id hI
  have hn := I_n hI
  obtain ⟨K, hK⟩ : ∃ K : Mm_, (mPourM (mPour M b q) b q) = K := ⟨_, rfl⟩
  rw [hK]
  have k2 : K.1 2 = M.1 2 := by rw [← hK]; funext y; simp [mPourM, mPour, mU, mR]
  have k4 : K.1 4 = M.1 4 := by rw [← hK]; funext y; simp [mPourM, mPour, mU, mR]
  have k5 : K.1 5 = M.1 5 := by rw [← hK]; funext y; simp [mPourM, mPour, mU, mR]
  have k6 : K.1 6 = M.1 6 := by rw [← hK]; funext y; simp [mPourM, mPour, mU, mR]
  have k7 : K.1 7 = M.1 7 := by rw [← hK]; funext y; simp [mPourM, mPour, mU, mR]
  have k9 : K.1 9 = M.1 9 := by rw [← hK]; funext y; simp [mPourM, mPour, mU, mR]
  have k10 : K.1 10 = M.1 10 := by rw [← hK]; funext y; simp [mPourM, mPour, mU, mR]
  have k11 : K.1 11 = M.1 11 := by rw [← hK]; funext y; simp [mPourM, mPour, mU, mR]
  have k12 : K.1 12 = (fun j => if j = b then 0 else M.1 12 j) := by rw [← hK]; funext y; simp [mPourM, mPour, mU, mR]
  have k13 : K.1 13 = (fun j => if j = (M.1 8 7).toNat then M.1 12 b else M.1 13 j) := by rw [← hK]; funext y; simp [mPourM, mPour, mU, mR]
  have k14 : K.1 14 = (fun j => if j = (M.1 8 7).toNat then q else M.1 14 j) := by rw [← hK]; funext y; simp [mPourM, mPour, mU, mR]
  have k16 : K.1 16 = M.1 16 := by rw [← hK]; funext y; simp [mPourM, mPour, mU, mR]
  have k17 : K.1 17 = M.1 17 := by rw [← hK]; funext y; simp [mPourM, mPour, mU, mR]
  have k18 : K.1 18 = M.1 18 := by rw [← hK]; funext y; simp [mPourM, mPour, mU, mR]
  have k20 : K.1 20 = M.1 20 := by rw [← hK]; funext y; simp [mPourM, mPour, mU, mR]
  have k21 : K.1 21 = M.1 21 := by rw [← hK]; funext y; simp [mPourM, mPour, mU, mR]
  have k22 : K.1 22 = M.1 22 := by rw [← hK]; funext y; simp [mPourM, mPour, mU, mR]
  have k23 : K.1 23 = M.1 23 := by rw [← hK]; funext y; simp [mPourM, mPour, mU, mR]
  have k24 : K.1 24 = M.1 24 := by rw [← hK]; funext y; simp [mPourM, mPour, mU, mR]
  have k25 : K.1 25 = M.1 25 := by rw [← hK]; funext y; simp [mPourM, mPour, mU, mR]
  have k27 : K.1 27 = M.1 27 := by rw [← hK]; funext y; simp [mPourM, mPour, mU, mR]
  have k28 : K.1 28 = M.1 28 := by rw [← hK]; funext y; simp [mPourM, mPour, mU, mR]
  have k29 : K.1 29 = M.1 29 := by rw [← hK]; funext y; simp [mPourM, mPour, mU, mR]
  have k49 : K.1 49 = M.1 49 := by rw [← hK]; funext y; simp [mPourM, mPour, mU, mR]
  have k50 : K.1 50 = M.1 50 := by rw [← hK]; funext y; simp [mPourM, mPour, mU, mR]
  have k51 : K.1 51 = M.1 51 := by rw [← hK]; funext y; simp [mPourM, mPour, mU, mR]
  have k52 : K.1 52 = M.1 52 := by rw [← hK]; funext y; simp [mPourM, mPour, mU, mR]
  have k53 : K.1 53 = M.1 53 := by rw [← hK]; funext y; simp [mPourM, mPour, mU, mR]
  have k54 : K.1 54 = M.1 54 := by rw [← hK]; funext y; simp [mPourM, mPour, mU, mR]
  have k55 : K.1 55 = (fun j => if j = b then 0 else M.1 55 j) := by rw [← hK]; funext y; simp [mPourM, mPour, mU, mR]
  have k56 : K.1 56 = (fun j => if j = 2 * (M.1 48 8).toNat + 1 then q else if j = 2 * (M.1 48 8).toNat then M.1 55 b else M.1 56 j) := by rw [← hK]; funext y; simp [mPourM, mPour, mU, mR]
  have k60 : K.1 60 = M.1 60 := by rw [← hK]; funext y; simp [mPourM, mPour, mU, mR]
  have k62 : K.1 62 = M.1 62 := by rw [← hK]; funext y; simp [mPourM, mPour, mU, mR]
  have k63 : K.1 63 = M.1 63 := by rw [← hK]; funext y; simp [mPourM, mPour, mU, mR]
  have k64 : K.1 64 = M.1 64 := by rw [← hK]; funext y; simp [mPourM, mPour, mU, mR]
  have k65 : K.1 65 = M.1 65 := by rw [← hK]; funext y; simp [mPourM, mPour, mU, mR]
  have k66 : K.1 66 = M.1 66 := by rw [← hK]; funext y; simp [mPourM, mPour, mU, mR]
  have k67 : K.1 67 = M.1 67 := by rw [← hK]; funext y; simp [mPourM, mPour, mU, mR]
  have k68 : K.1 68 = M.1 68 := by rw [← hK]; funext y; simp [mPourM, mPour, mU, mR]
  have k0_5 : K.1 0 5 = M.1 0 5 := by rw [← hK]; simp [mPourM, mPour, mU, mR]
  have k0_6 : K.1 0 6 = M.1 0 6 := by rw [← hK]; simp [mPourM, mPour, mU, mR]
  have k0_7 : K.1 0 7 = M.1 0 7 := by rw [← hK]; simp [mPourM, mPour, mU, mR]
  have k0_8 : K.1 0 8 = M.1 0 8 := by rw [← hK]; simp [mPourM, mPour, mU, mR]
  have k1_1 : K.1 1 1 = M.1 1 1 := by rw [← hK]; simp [mPourM, mPour, mU, mR]
  have k3_4 : K.1 3 4 = M.1 3 4 := by rw [← hK]; simp [mPourM, mPour, mU, mR]
  have k3_5 : K.1 3 5 = M.1 3 5 := by rw [← hK]; simp [mPourM, mPour, mU, mR]
  have k8_7 : K.1 8 7 = M.1 8 7 + 1 := by rw [← hK]; simp [mPourM, mPour, mU, mR]
  have k8_8 : K.1 8 8 = M.1 8 8 := by rw [← hK]; simp [mPourM, mPour, mU, mR]
  have k8_9 : K.1 8 9 = M.1 8 9 := by rw [← hK]; simp [mPourM, mPour, mU, mR]
  have k8_10 : K.1 8 10 = M.1 8 10 := by rw [← hK]; simp [mPourM, mPour, mU, mR]
  have k15_3 : K.1 15 3 = M.1 15 3 := by rw [← hK]; simp [mPourM, mPour, mU, mR]
  have k19_7 : K.1 19 7 = M.1 19 7 := by rw [← hK]; simp [mPourM, mPour, mU, mR]
  have k19_8 : K.1 19 8 = M.1 19 8 := by rw [← hK]; simp [mPourM, mPour, mU, mR]
  have k19_9 : K.1 19 9 = M.1 19 9 := by rw [← hK]; simp [mPourM, mPour, mU, mR]
  have k19_10 : K.1 19 10 = M.1 19 10 := by rw [← hK]; simp [mPourM, mPour, mU, mR]
  have k26_3 : K.1 26 3 = M.1 26 3 := by rw [← hK]; simp [mPourM, mPour, mU, mR]
  have k48_1 : K.1 48 1 = M.1 48 1 := by rw [← hK]; simp [mPourM, mPour, mU, mR]
  have k48_3 : K.1 48 3 = M.1 48 3 := by rw [← hK]; simp [mPourM, mPour, mU, mR]
  have k48_4 : K.1 48 4 = M.1 48 4 := by rw [← hK]; simp [mPourM, mPour, mU, mR]
  have k48_5 : K.1 48 5 = M.1 48 5 := by rw [← hK]; simp [mPourM, mPour, mU, mR]
  have k48_6 : K.1 48 6 = M.1 48 6 := by rw [← hK]; simp [mPourM, mPour, mU, mR]
  have k48_7 : K.1 48 7 = M.1 48 7 := by rw [← hK]; simp [mPourM, mPour, mU, mR]
  have k48_8 : K.1 48 8 = M.1 48 8 + 1 := by rw [← hK]; simp [mPourM, mPour, mU, mR]
  have k48_9 : K.1 48 9 = M.1 48 9 := by rw [← hK]; simp [mPourM, mPour, mU, mR]
  have k48_18 : K.1 48 18 = M.1 48 18 := by rw [← hK]; simp [mPourM, mPour, mU, mR]
  have k48_21 : K.1 48 21 = M.1 48 21 := by rw [← hK]; simp [mPourM, mPour, mU, mR]
  have k48_22 : K.1 48 22 = M.1 48 22 := by rw [← hK]; simp [mPourM, mPour, mU, mR]
  have k48_26 : K.1 48 26 = M.1 48 26 := by rw [← hK]; simp [mPourM, mPour, mU, mR]
  have k48_27 : K.1 48 27 = M.1 48 27 := by rw [← hK]; simp [mPourM, mPour, mU, mR]
  have k48_28 : K.1 48 28 = M.1 48 28 := by rw [← hK]; simp [mPourM, mPour, mU, mR]
  have k48_29 : K.1 48 29 = M.1 48 29 := by rw [← hK]; simp [mPourM, mPour, mU, mR]
  have k48_30 : K.1 48 30 = M.1 48 30 := by rw [← hK]; simp [mPourM, mPour, mU, mR]
  have k48_31 : K.1 48 31 = M.1 48 31 := by rw [← hK]; simp [mPourM, mPour, mU, mR]
  have jA1 : A1 K := by
    unfold A1 oP
    simp only [k1_1, k2]
    exact hA1
  have jA2 : A2 K := by
    unfold A2 oV
    simp only [k3_4, k3_5, k4, k5, k6, k7]
    exact hA2
  have jA3 : A3 K := by
    unfold A3 oF
    simp only [k9, k10, k8_7, k13, k14]
    exact ⟨hA3.1, hA3.2.1, by have := hA3.2.2.1; omega, fun i hi => by have h1 := hA3.2.2.2.1 i hi; have h2 := hA4 b hb; split <;> omega, fun i hi => by have h1 := hA3.2.2.2.2 i hi; split <;> omega⟩
  have jA4 : A4 K := by
    unfold A4
    simp only [k12]
    exact fun i hi => by have := hA4 i hi; split <;> omega
  have jA5 : A5 K := by
    unfold A5
    simp only [k8_8, k3_5]
    exact hA5
  have jA6 : A6 K := by
    unfold A6
    simp only [k8_9]
    exact hA6
  have jA7 : A7 K := by
    unfold A7
    simp only [k15_3, k16, k17, k18]
    exact hA7
  have jA8 : A8 K := by
    unfold A8
    simp only [k0_7, k0_8, k0_5]
    exact hA8
  have jB1 : B1 K := by
    unfold B1 oMp
    simp only [k48_1, k49]
    exact hB1
  have jB2 : B2 K := by
    unfold B2 oMv
    simp only [k48_3, k48_4]
    exact hB2
  have jB3 : B3 K := by
    unfold B3 oMr
    simp only [k50]
    exact hB3
  have jB4 : B4 K := by
    unfold B4 oMf
    simp only [k51, k48_8, k56, k53]
    have e8 := hS5n.2
    have h1 := hB4.2.1
    refine ⟨hB4.1, by omega, fun d hd => ?_, hB4.2.2.2⟩
    have h2 := hB4.2.2.1 d hd
    have h3 := hB7 b hb
    refine ⟨?_, ?_⟩
    · rw [if_neg (by omega)]
      split
      · exact h3
      · exact h2.1
    · split
      · omega
      · rw [if_neg (by omega)]; exact h2.2
  have jB5 : B5 K := by
    unfold B5 oMg
    simp only [k52]
    exact hB5
  have jB6 : B6 K := by
    unfold B6 oMs
    simp only [k48_22, k60]
    exact hB6
  have jB7 : B7 K := by
    unfold B7
    simp only [k55]
    exact fun i hi => by have := hB7 i hi; split <;> omega
  have jB8 : B8 K := by
    unfold B8
    simp only [k54]
    exact hB8
  have jB9 : B9 K := by
    unfold B9
    simp only [k48_5]
    exact hB9
  have jC1 : C1 K := by
    unfold C1
    simp only [k48_1, k1_1, k49, k2]
    exact hC1
  have jC2 : C2 K := by
    unfold C2
    simp only [k48_3, k3_4, k48_4, k3_5, k50, k4, k5, k6, k53, k7]
    exact hC2
  have jS1n : S1n K := by
    unfold S1n
    simp only [k3_4, k50, k11, k51, k10, k52, k9]
    exact hS1n
  have jS2n : S2n K := by
    unfold S2n
    simp only [k3_4, k9, k11]
    exact hS2n
  have jS3n : S3n K := by
    unfold S3n
    simp only [k55, k12]
    exact fun i hi => by rw [hS3n i hi]
  have jS4n : S4n K := by
    unfold S4n
    simp only [k3_5, k54, k8_8]
    exact hS4n
  have jS5n : S5n K := by
    unfold S5n
    simp only [k56, k13, k14, k48_8, k8_7]
    have e8 := hS5n.2
    have h1 := hB4.2.1
    refine ⟨fun i => ?_, by rw [e8]⟩
    rw [if_neg (show ¬ 2 * i = 2 * (M.1 48 8).toNat + 1 by omega)]
    by_cases q1 : i = (M.1 8 7).toNat
    · rw [if_pos (show 2 * i = 2 * (M.1 48 8).toNat by omega), if_pos q1, if_pos (show 2 * i + 1 = 2 * (M.1 48 8).toNat + 1 by omega), if_pos q1]
      exact ⟨hS3n b hb, rfl⟩
    · rw [if_neg (show ¬ 2 * i = 2 * (M.1 48 8).toNat by omega), if_neg q1, if_neg (show ¬ 2 * i + 1 = 2 * (M.1 48 8).toNat + 1 by omega), if_neg q1, if_neg (show ¬ 2 * i + 1 = 2 * (M.1 48 8).toNat by omega)]
      exact hS5n.1 i
  have jS6n : S6n K := by
    unfold S6n
    simp only [k60, k16, k17, k18, k48_22, k15_3]
    exact hS6n
  have jS7n : S7n K := by
    unfold S7n
    simp only [k48_5, k8_9, k48_6, k11, k48_7, k8_10]
    exact hS7n
  have jC4 : C4 K := by
    unfold C4
    simp only [k48_9, k0_6, k48_18, k0_7, k48_21, k0_8]
    exact hC4
  have jC5 : C5 (c) K := by
    unfold C5
    simp only [k48_26, k48_9, k0_5]
    exact hC5
  have jC6 : C6 K := by
    unfold C6 KP S1k S2k S3k S4k S5k S6k S7k oF
    simp only [k0_5, k50, k3_4, k3_5, k20, k21, k22, k23, k24, k25, k27, k28, k29, k19_7, k19_8, k19_9, k19_10, k26_3, k62, k63, k64, k65, k66, k67, k68, k48_27, k48_28, k48_29, k48_30, k48_31]
    exact hC6
  exact ⟨⟨jA1, jA2, jA3, jA4, jA5, jA6, jA7, jA8⟩, ⟨jB1, jB2, jB3, jB4, jB5, jB6, jB7, jB8, jB9⟩, jC1, jC2, ⟨jS1n, jS2n, jS3n, jS4n, jS5n, jS6n, jS7n⟩, jC4, jC5, jC6⟩
set_option maxRecDepth 10000 in
set_option maxHeartbeats 1000000 in
theorem K_few {c : Nat} {M : Mm_} (hI : INV c M) (h30 : M.1 0 7 < 30) : INV (c) (mU (mU M 0 7 (M.1 0 7 + 1)) 48 18 (M.1 48 18 + 1)) := by
  obtain ⟨⟨hA1, hA2, hA3, hA4, hA5, hA6, hA7, hA8⟩, ⟨hB1, hB2, hB3, hB4, hB5, hB6, hB7, hB8, hB9⟩, hC1, hC2, ⟨hS1n, hS2n, hS3n, hS4n, hS5n, hS6n, hS7n⟩, hC4, hC5, hC6⟩ := id hI
  have hn := I_n hI
  obtain ⟨K, hK⟩ : ∃ K : Mm_, (mU (mU M 0 7 (M.1 0 7 + 1)) 48 18 (M.1 48 18 + 1)) = K := ⟨_, rfl⟩
  rw [hK]
  have k2 : K.1 2 = M.1 2 := by rw [← hK]; funext y; simp [mU, mR]
  have k4 : K.1 4 = M.1 4 := by rw [← hK]; funext y; simp [mU, mR]
  have k5 : K.1 5 = M.1 5 := by rw [← hK]; funext y; simp [mU, mR]
  have k6 : K.1 6 = M.1 6 := by rw [← hK]; funext y; simp [mU, mR]
  have k7 : K.1 7 = M.1 7 := by rw [← hK]; funext y; simp [mU, mR]
  have k9 : K.1 9 = M.1 9 := by rw [← hK]; funext y; simp [mU, mR]
  have k10 : K.1 10 = M.1 10 := by rw [← hK]; funext y; simp [mU, mR]
  have k11 : K.1 11 = M.1 11 := by rw [← hK]; funext y; simp [mU, mR]
  have k12 : K.1 12 = M.1 12 := by rw [← hK]; funext y; simp [mU, mR]
  have k13 : K.1 13 = M.1 13 := by rw [← hK]; funext y; simp [mU, mR]
  have k14 : K.1 14 = M.1 14 := by rw [← hK]; funext y; simp [mU, mR]
  have k16 : K.1 16 = M.1 16 := by rw [← hK]; funext y; simp [mU, mR]
  have k17 : K.1 17 = M.1 17 := by rw [← hK]; funext y; simp [mU, mR]
  have k18 : K.1 18 = M.1 18 := by rw [← hK]; funext y; simp [mU, mR]
  have k20 : K.1 20 = M.1 20 := by rw [← hK]; funext y; simp [mU, mR]
  have k21 : K.1 21 = M.1 21 := by rw [← hK]; funext y; simp [mU, mR]
  have k22 : K.1 22 = M.1 22 := by rw [← hK]; funext y; simp [mU, mR]
  have k23 : K.1 23 = M.1 23 := by rw [← hK]; funext y; simp [mU, mR]
  have k24 : K.1 24 = M.1 24 := by rw [← hK]; funext y; simp [mU, mR]
  have k25 : K.1 25 = M.1 25 := by rw [← hK]; funext y; simp [mU, mR]
  have k27 : K.1 27 = M.1 27 := by rw [← hK]; funext y; simp [mU, mR]
  have k28 : K.1 28 = M.1 28 := by rw [← hK]; funext y; simp [mU, mR]
  have k29 : K.1 29 = M.1 29 := by rw [← hK]; funext y; simp [mU, mR]
  have k49 : K.1 49 = M.1 49 := by rw [← hK]; funext y; simp [mU, mR]
  have k50 : K.1 50 = M.1 50 := by rw [← hK]; funext y; simp [mU, mR]
  have k51 : K.1 51 = M.1 51 := by rw [← hK]; funext y; simp [mU, mR]
  have k52 : K.1 52 = M.1 52 := by rw [← hK]; funext y; simp [mU, mR]
  have k53 : K.1 53 = M.1 53 := by rw [← hK]; funext y; simp [mU, mR]
  have k54 : K.1 54 = M.1 54 := by rw [← hK]; funext y; simp [mU, mR]
  have k55 : K.1 55 = M.1 55 := by rw [← hK]; funext y; simp [mU, mR]
  have k56 : K.1 56 = M.1 56 := by rw [← hK]; funext y; simp [mU, mR]
  have k60 : K.1 60 = M.1 60 := by rw [← hK]; funext y; simp [mU, mR]
  have k62 : K.1 62 = M.1 62 := by rw [← hK]; funext y; simp [mU, mR]
  have k63 : K.1 63 = M.1 63 := by rw [← hK]; funext y; simp [mU, mR]
  have k64 : K.1 64 = M.1 64 := by rw [← hK]; funext y; simp [mU, mR]
  have k65 : K.1 65 = M.1 65 := by rw [← hK]; funext y; simp [mU, mR]
  have k66 : K.1 66 = M.1 66 := by rw [← hK]; funext y; simp [mU, mR]
  have k67 : K.1 67 = M.1 67 := by rw [← hK]; funext y; simp [mU, mR]
  have k68 : K.1 68 = M.1 68 := by rw [← hK]; funext y; simp [mU, mR]
  have k0_5 : K.1 0 5 = M.1 0 5 := by rw [← hK]; simp [mU, mR]
  have k0_6 : K.1 0 6 = M.1 0 6 := by rw [← hK]; simp [mU, mR]
  have k0_7 : K.1 0 7 = M.1 0 7 + 1 := by rw [← hK]; simp [mU, mR]
  have k0_8 : K.1 0 8 = M.1 0 8 := by rw [← hK]; simp [mU, mR]
  have k1_1 : K.1 1 1 = M.1 1 1 := by rw [← hK]; simp [mU, mR]
  have k3_4 : K.1 3 4 = M.1 3 4 := by rw [← hK]; simp [mU, mR]
  have k3_5 : K.1 3 5 = M.1 3 5 := by rw [← hK]; simp [mU, mR]
  have k8_7 : K.1 8 7 = M.1 8 7 := by rw [← hK]; simp [mU, mR]
  have k8_8 : K.1 8 8 = M.1 8 8 := by rw [← hK]; simp [mU, mR]
  have k8_9 : K.1 8 9 = M.1 8 9 := by rw [← hK]; simp [mU, mR]
  have k8_10 : K.1 8 10 = M.1 8 10 := by rw [← hK]; simp [mU, mR]
  have k15_3 : K.1 15 3 = M.1 15 3 := by rw [← hK]; simp [mU, mR]
  have k19_7 : K.1 19 7 = M.1 19 7 := by rw [← hK]; simp [mU, mR]
  have k19_8 : K.1 19 8 = M.1 19 8 := by rw [← hK]; simp [mU, mR]
  have k19_9 : K.1 19 9 = M.1 19 9 := by rw [← hK]; simp [mU, mR]
  have k19_10 : K.1 19 10 = M.1 19 10 := by rw [← hK]; simp [mU, mR]
  have k26_3 : K.1 26 3 = M.1 26 3 := by rw [← hK]; simp [mU, mR]
  have k48_1 : K.1 48 1 = M.1 48 1 := by rw [← hK]; simp [mU, mR]
  have k48_3 : K.1 48 3 = M.1 48 3 := by rw [← hK]; simp [mU, mR]
  have k48_4 : K.1 48 4 = M.1 48 4 := by rw [← hK]; simp [mU, mR]
  have k48_5 : K.1 48 5 = M.1 48 5 := by rw [← hK]; simp [mU, mR]
  have k48_6 : K.1 48 6 = M.1 48 6 := by rw [← hK]; simp [mU, mR]
  have k48_7 : K.1 48 7 = M.1 48 7 := by rw [← hK]; simp [mU, mR]
  have k48_8 : K.1 48 8 = M.1 48 8 := by rw [← hK]; simp [mU, mR]
  have k48_9 : K.1 48 9 = M.1 48 9 := by rw [← hK]; simp [mU, mR]
  have k48_18 : K.1 48 18 = M.1 48 18 + 1 := by rw [← hK]; simp [mU, mR]
  have k48_21 : K.1 48 21 = M.1 48 21 := by rw [← hK]; simp [mU, mR]
  have k48_22 : K.1 48 22 = M.1 48 22 := by rw [← hK]; simp [mU, mR]
  have k48_26 : K.1 48 26 = M.1 48 26 := by rw [← hK]; simp [mU, mR]
  have k48_27 : K.1 48 27 = M.1 48 27 := by rw [← hK]; simp [mU, mR]
  have k48_28 : K.1 48 28 = M.1 48 28 := by rw [← hK]; simp [mU, mR]
  have k48_29 : K.1 48 29 = M.1 48 29 := by rw [← hK]; simp [mU, mR]
  have k48_30 : K.1 48 30 = M.1 48 30 := by rw [← hK]; simp [mU, mR]
  have k48_31 : K.1 48 31 = M.1 48 31 := by rw [← hK]; simp [mU, mR]
  have jA1 : A1 K := by
    unfold A1 oP
    simp only [k1_1, k2]
    exact hA1
  have jA2 : A2 K := by
    unfold A2 oV
    simp only [k3_4, k3_5, k4, k5, k6, k7]
    exact hA2
  have jA3 : A3 K := by
    unfold A3 oF
    simp only [k9, k10, k8_7, k13, k14]
    exact hA3
  have jA4 : A4 K := by
    unfold A4
    simp only [k12]
    exact hA4
  have jA5 : A5 K := by
    unfold A5
    simp only [k8_8, k3_5]
    exact hA5
  have jA6 : A6 K := by
    unfold A6
    simp only [k8_9]
    exact hA6
  have jA7 : A7 K := by
    unfold A7
    simp only [k15_3, k16, k17, k18]
    exact hA7
  have jA8 : A8 K := by
    unfold A8
    simp only [k0_7, k0_8, k0_5]
    exact ⟨by have := hA8.1; omega, hA8.2⟩
  have jB1 : B1 K := by
    unfold B1 oMp
    simp only [k48_1, k49]
    exact hB1
  have jB2 : B2 K := by
    unfold B2 oMv
    simp only [k48_3, k48_4]
    exact hB2
  have jB3 : B3 K := by
    unfold B3 oMr
    simp only [k50]
    exact hB3
  have jB4 : B4 K := by
    unfold B4 oMf
    simp only [k51, k48_8, k56, k53]
    exact hB4
  have jB5 : B5 K := by
    unfold B5 oMg
    simp only [k52]
    exact hB5
  have jB6 : B6 K := by
    unfold B6 oMs
    simp only [k48_22, k60]
    exact hB6
  have jB7 : B7 K := by
    unfold B7
    simp only [k55]
    exact hB7
  have jB8 : B8 K := by
    unfold B8
    simp only [k54]
    exact hB8
  have jB9 : B9 K := by
    unfold B9
    simp only [k48_5]
    exact hB9
  have jC1 : C1 K := by
    unfold C1
    simp only [k48_1, k1_1, k49, k2]
    exact hC1
  have jC2 : C2 K := by
    unfold C2
    simp only [k48_3, k3_4, k48_4, k3_5, k50, k4, k5, k6, k53, k7]
    exact hC2
  have jS1n : S1n K := by
    unfold S1n
    simp only [k3_4, k50, k11, k51, k10, k52, k9]
    exact hS1n
  have jS2n : S2n K := by
    unfold S2n
    simp only [k3_4, k9, k11]
    exact hS2n
  have jS3n : S3n K := by
    unfold S3n
    simp only [k55, k12]
    exact hS3n
  have jS4n : S4n K := by
    unfold S4n
    simp only [k3_5, k54, k8_8]
    exact hS4n
  have jS5n : S5n K := by
    unfold S5n
    simp only [k56, k13, k14, k48_8, k8_7]
    exact hS5n
  have jS6n : S6n K := by
    unfold S6n
    simp only [k60, k16, k17, k18, k48_22, k15_3]
    exact hS6n
  have jS7n : S7n K := by
    unfold S7n
    simp only [k48_5, k8_9, k48_6, k11, k48_7, k8_10]
    exact hS7n
  have jC4 : C4 K := by
    unfold C4
    simp only [k48_9, k0_6, k48_18, k0_7, k48_21, k0_8]
    exact ⟨hC4.1, by rw [hC4.2.1], hC4.2.2⟩
  have jC5 : C5 (c) K := by
    unfold C5
    simp only [k48_26, k48_9, k0_5]
    exact hC5
  have jC6 : C6 K := by
    unfold C6 KP S1k S2k S3k S4k S5k S6k S7k oF
    simp only [k0_5, k50, k3_4, k3_5, k20, k21, k22, k23, k24, k25, k27, k28, k29, k19_7, k19_8, k19_9, k19_10, k26_3, k62, k63, k64, k65, k66, k67, k68, k48_27, k48_28, k48_29, k48_30, k48_31]
    exact hC6
  exact ⟨⟨jA1, jA2, jA3, jA4, jA5, jA6, jA7, jA8⟩, ⟨jB1, jB2, jB3, jB4, jB5, jB6, jB7, jB8, jB9⟩, jC1, jC2, ⟨jS1n, jS2n, jS3n, jS4n, jS5n, jS6n, jS7n⟩, jC4, jC5, jC6⟩
set_option maxRecDepth 10000 in
set_option maxHeartbeats 1000000 in
theorem K_week {c : Nat} {M : Mm_} (hI : INV c M) (h20 : M.1 0 8 < 20) : INV (c) (mU (mU M 0 8 (M.1 0 8 + 1)) 48 21 (M.1 48 21 + 1)) := by
  obtain ⟨⟨hA1, hA2, hA3, hA4, hA5, hA6, hA7, hA8⟩, ⟨hB1, hB2, hB3, hB4, hB5, hB6, hB7, hB8, hB9⟩, hC1, hC2, ⟨hS1n, hS2n, hS3n, hS4n, hS5n, hS6n, hS7n⟩, hC4, hC5, hC6⟩ := id hI
  have hn := I_n hI
  obtain ⟨K, hK⟩ : ∃ K : Mm_, (mU (mU M 0 8 (M.1 0 8 + 1)) 48 21 (M.1 48 21 + 1)) = K := ⟨_, rfl⟩
  rw [hK]
  have k2 : K.1 2 = M.1 2 := by rw [← hK]; funext y; simp [mU, mR]
  have k4 : K.1 4 = M.1 4 := by rw [← hK]; funext y; simp [mU, mR]
  have k5 : K.1 5 = M.1 5 := by rw [← hK]; funext y; simp [mU, mR]
  have k6 : K.1 6 = M.1 6 := by rw [← hK]; funext y; simp [mU, mR]
  have k7 : K.1 7 = M.1 7 := by rw [← hK]; funext y; simp [mU, mR]
  have k9 : K.1 9 = M.1 9 := by rw [← hK]; funext y; simp [mU, mR]
  have k10 : K.1 10 = M.1 10 := by rw [← hK]; funext y; simp [mU, mR]
  have k11 : K.1 11 = M.1 11 := by rw [← hK]; funext y; simp [mU, mR]
  have k12 : K.1 12 = M.1 12 := by rw [← hK]; funext y; simp [mU, mR]
  have k13 : K.1 13 = M.1 13 := by rw [← hK]; funext y; simp [mU, mR]
  have k14 : K.1 14 = M.1 14 := by rw [← hK]; funext y; simp [mU, mR]
  have k16 : K.1 16 = M.1 16 := by rw [← hK]; funext y; simp [mU, mR]
  have k17 : K.1 17 = M.1 17 := by rw [← hK]; funext y; simp [mU, mR]
  have k18 : K.1 18 = M.1 18 := by rw [← hK]; funext y; simp [mU, mR]
  have k20 : K.1 20 = M.1 20 := by rw [← hK]; funext y; simp [mU, mR]
  have k21 : K.1 21 = M.1 21 := by rw [← hK]; funext y; simp [mU, mR]
  have k22 : K.1 22 = M.1 22 := by rw [← hK]; funext y; simp [mU, mR]
  have k23 : K.1 23 = M.1 23 := by rw [← hK]; funext y; simp [mU, mR]
  have k24 : K.1 24 = M.1 24 := by rw [← hK]; funext y; simp [mU, mR]
  have k25 : K.1 25 = M.1 25 := by rw [← hK]; funext y; simp [mU, mR]
  have k27 : K.1 27 = M.1 27 := by rw [← hK]; funext y; simp [mU, mR]
  have k28 : K.1 28 = M.1 28 := by rw [← hK]; funext y; simp [mU, mR]
  have k29 : K.1 29 = M.1 29 := by rw [← hK]; funext y; simp [mU, mR]
  have k49 : K.1 49 = M.1 49 := by rw [← hK]; funext y; simp [mU, mR]
  have k50 : K.1 50 = M.1 50 := by rw [← hK]; funext y; simp [mU, mR]
  have k51 : K.1 51 = M.1 51 := by rw [← hK]; funext y; simp [mU, mR]
  have k52 : K.1 52 = M.1 52 := by rw [← hK]; funext y; simp [mU, mR]
  have k53 : K.1 53 = M.1 53 := by rw [← hK]; funext y; simp [mU, mR]
  have k54 : K.1 54 = M.1 54 := by rw [← hK]; funext y; simp [mU, mR]
  have k55 : K.1 55 = M.1 55 := by rw [← hK]; funext y; simp [mU, mR]
  have k56 : K.1 56 = M.1 56 := by rw [← hK]; funext y; simp [mU, mR]
  have k60 : K.1 60 = M.1 60 := by rw [← hK]; funext y; simp [mU, mR]
  have k62 : K.1 62 = M.1 62 := by rw [← hK]; funext y; simp [mU, mR]
  have k63 : K.1 63 = M.1 63 := by rw [← hK]; funext y; simp [mU, mR]
  have k64 : K.1 64 = M.1 64 := by rw [← hK]; funext y; simp [mU, mR]
  have k65 : K.1 65 = M.1 65 := by rw [← hK]; funext y; simp [mU, mR]
  have k66 : K.1 66 = M.1 66 := by rw [← hK]; funext y; simp [mU, mR]
  have k67 : K.1 67 = M.1 67 := by rw [← hK]; funext y; simp [mU, mR]
  have k68 : K.1 68 = M.1 68 := by rw [← hK]; funext y; simp [mU, mR]
  have k0_5 : K.1 0 5 = M.1 0 5 := by rw [← hK]; simp [mU, mR]
  have k0_6 : K.1 0 6 = M.1 0 6 := by rw [← hK]; simp [mU, mR]
  have k0_7 : K.1 0 7 = M.1 0 7 := by rw [← hK]; simp [mU, mR]
  have k0_8 : K.1 0 8 = M.1 0 8 + 1 := by rw [← hK]; simp [mU, mR]
  have k1_1 : K.1 1 1 = M.1 1 1 := by rw [← hK]; simp [mU, mR]
  have k3_4 : K.1 3 4 = M.1 3 4 := by rw [← hK]; simp [mU, mR]
  have k3_5 : K.1 3 5 = M.1 3 5 := by rw [← hK]; simp [mU, mR]
  have k8_7 : K.1 8 7 = M.1 8 7 := by rw [← hK]; simp [mU, mR]
  have k8_8 : K.1 8 8 = M.1 8 8 := by rw [← hK]; simp [mU, mR]
  have k8_9 : K.1 8 9 = M.1 8 9 := by rw [← hK]; simp [mU, mR]
  have k8_10 : K.1 8 10 = M.1 8 10 := by rw [← hK]; simp [mU, mR]
  have k15_3 : K.1 15 3 = M.1 15 3 := by rw [← hK]; simp [mU, mR]
  have k19_7 : K.1 19 7 = M.1 19 7 := by rw [← hK]; simp [mU, mR]
  have k19_8 : K.1 19 8 = M.1 19 8 := by rw [← hK]; simp [mU, mR]
  have k19_9 : K.1 19 9 = M.1 19 9 := by rw [← hK]; simp [mU, mR]
  have k19_10 : K.1 19 10 = M.1 19 10 := by rw [← hK]; simp [mU, mR]
  have k26_3 : K.1 26 3 = M.1 26 3 := by rw [← hK]; simp [mU, mR]
  have k48_1 : K.1 48 1 = M.1 48 1 := by rw [← hK]; simp [mU, mR]
  have k48_3 : K.1 48 3 = M.1 48 3 := by rw [← hK]; simp [mU, mR]
  have k48_4 : K.1 48 4 = M.1 48 4 := by rw [← hK]; simp [mU, mR]
  have k48_5 : K.1 48 5 = M.1 48 5 := by rw [← hK]; simp [mU, mR]
  have k48_6 : K.1 48 6 = M.1 48 6 := by rw [← hK]; simp [mU, mR]
  have k48_7 : K.1 48 7 = M.1 48 7 := by rw [← hK]; simp [mU, mR]
  have k48_8 : K.1 48 8 = M.1 48 8 := by rw [← hK]; simp [mU, mR]
  have k48_9 : K.1 48 9 = M.1 48 9 := by rw [← hK]; simp [mU, mR]
  have k48_18 : K.1 48 18 = M.1 48 18 := by rw [← hK]; simp [mU, mR]
  have k48_21 : K.1 48 21 = M.1 48 21 + 1 := by rw [← hK]; simp [mU, mR]
  have k48_22 : K.1 48 22 = M.1 48 22 := by rw [← hK]; simp [mU, mR]
  have k48_26 : K.1 48 26 = M.1 48 26 := by rw [← hK]; simp [mU, mR]
  have k48_27 : K.1 48 27 = M.1 48 27 := by rw [← hK]; simp [mU, mR]
  have k48_28 : K.1 48 28 = M.1 48 28 := by rw [← hK]; simp [mU, mR]
  have k48_29 : K.1 48 29 = M.1 48 29 := by rw [← hK]; simp [mU, mR]
  have k48_30 : K.1 48 30 = M.1 48 30 := by rw [← hK]; simp [mU, mR]
  have k48_31 : K.1 48 31 = M.1 48 31 := by rw [← hK]; simp [mU, mR]
  have jA1 : A1 K := by
    unfold A1 oP
    simp only [k1_1, k2]
    exact hA1
  have jA2 : A2 K := by
    unfold A2 oV
    simp only [k3_4, k3_5, k4, k5, k6, k7]
    exact hA2
  have jA3 : A3 K := by
    unfold A3 oF
    simp only [k9, k10, k8_7, k13, k14]
    exact hA3
  have jA4 : A4 K := by
    unfold A4
    simp only [k12]
    exact hA4
  have jA5 : A5 K := by
    unfold A5
    simp only [k8_8, k3_5]
    exact hA5
  have jA6 : A6 K := by
    unfold A6
    simp only [k8_9]
    exact hA6
  have jA7 : A7 K := by
    unfold A7
    simp only [k15_3, k16, k17, k18]
    exact hA7
  have jA8 : A8 K := by
    unfold A8
    simp only [k0_7, k0_8, k0_5]
    exact ⟨hA8.1, by have := hA8.2.1; omega, hA8.2.2⟩
  have jB1 : B1 K := by
    unfold B1 oMp
    simp only [k48_1, k49]
    exact hB1
  have jB2 : B2 K := by
    unfold B2 oMv
    simp only [k48_3, k48_4]
    exact hB2
  have jB3 : B3 K := by
    unfold B3 oMr
    simp only [k50]
    exact hB3
  have jB4 : B4 K := by
    unfold B4 oMf
    simp only [k51, k48_8, k56, k53]
    exact hB4
  have jB5 : B5 K := by
    unfold B5 oMg
    simp only [k52]
    exact hB5
  have jB6 : B6 K := by
    unfold B6 oMs
    simp only [k48_22, k60]
    exact hB6
  have jB7 : B7 K := by
    unfold B7
    simp only [k55]
    exact hB7
  have jB8 : B8 K := by
    unfold B8
    simp only [k54]
    exact hB8
  have jB9 : B9 K := by
    unfold B9
    simp only [k48_5]
    exact hB9
  have jC1 : C1 K := by
    unfold C1
    simp only [k48_1, k1_1, k49, k2]
    exact hC1
  have jC2 : C2 K := by
    unfold C2
    simp only [k48_3, k3_4, k48_4, k3_5, k50, k4, k5, k6, k53, k7]
    exact hC2
  have jS1n : S1n K := by
    unfold S1n
    simp only [k3_4, k50, k11, k51, k10, k52, k9]
    exact hS1n
  have jS2n : S2n K := by
    unfold S2n
    simp only [k3_4, k9, k11]
    exact hS2n
  have jS3n : S3n K := by
    unfold S3n
    simp only [k55, k12]
    exact hS3n
  have jS4n : S4n K := by
    unfold S4n
    simp only [k3_5, k54, k8_8]
    exact hS4n
  have jS5n : S5n K := by
    unfold S5n
    simp only [k56, k13, k14, k48_8, k8_7]
    exact hS5n
  have jS6n : S6n K := by
    unfold S6n
    simp only [k60, k16, k17, k18, k48_22, k15_3]
    exact hS6n
  have jS7n : S7n K := by
    unfold S7n
    simp only [k48_5, k8_9, k48_6, k11, k48_7, k8_10]
    exact hS7n
  have jC4 : C4 K := by
    unfold C4
    simp only [k48_9, k0_6, k48_18, k0_7, k48_21, k0_8]
    exact ⟨hC4.1, hC4.2.1, by rw [hC4.2.2]⟩
  have jC5 : C5 (c) K := by
    unfold C5
    simp only [k48_26, k48_9, k0_5]
    exact hC5
  have jC6 : C6 K := by
    unfold C6 KP S1k S2k S3k S4k S5k S6k S7k oF
    simp only [k0_5, k50, k3_4, k3_5, k20, k21, k22, k23, k24, k25, k27, k28, k29, k19_7, k19_8, k19_9, k19_10, k26_3, k62, k63, k64, k65, k66, k67, k68, k48_27, k48_28, k48_29, k48_30, k48_31]
    exact hC6
  exact ⟨⟨jA1, jA2, jA3, jA4, jA5, jA6, jA7, jA8⟩, ⟨jB1, jB2, jB3, jB4, jB5, jB6, jB7, jB8, jB9⟩, jC1, jC2, ⟨jS1n, jS2n, jS3n, jS4n, jS5n, jS6n, jS7n⟩, jC4, jC5, jC6⟩
set_option maxRecDepth 10000 in
set_option maxHeartbeats 1000000 in
theorem K_see {c : Nat} {M : Mm_} (hI : INV c M) {k : Nat} {q y : Int} (hk : (k : Int) < M.1 3 4) (hq : 0 ≤ q ∧ q < 3) (hy : 0 ≤ y ∧ y ≤ 99) (h6 : M.1 15 3 < 6) : INV (c) (mSeeM (mSee M k q y) k q y) := by
  obtain ⟨⟨hA1, hA2, hA3, hA4, hA5, hA6, hA7, hA8⟩, ⟨hB1, hB2, hB3, hB4, hB5, hB6, hB7, hB8, hB9⟩, hC1, hC2, ⟨hS1n, hS2n, hS3n, hS4n, hS5n, hS6n, hS7n⟩, hC4, hC5, hC6⟩ := id hI
  have hn := I_n hI
  obtain ⟨K, hK⟩ : ∃ K : Mm_, (mSeeM (mSee M k q y) k q y) = K := ⟨_, rfl⟩
  rw [hK]
  have k2 : K.1 2 = M.1 2 := by rw [← hK]; funext y; simp [mSeeM, mSee, mU, mR]
  have k4 : K.1 4 = M.1 4 := by rw [← hK]; funext y; simp [mSeeM, mSee, mU, mR]
  have k5 : K.1 5 = M.1 5 := by rw [← hK]; funext y; simp [mSeeM, mSee, mU, mR]
  have k6 : K.1 6 = M.1 6 := by rw [← hK]; funext y; simp [mSeeM, mSee, mU, mR]
  have k7 : K.1 7 = M.1 7 := by rw [← hK]; funext y; simp [mSeeM, mSee, mU, mR]
  have k9 : K.1 9 = M.1 9 := by rw [← hK]; funext y; simp [mSeeM, mSee, mU, mR]
  have k10 : K.1 10 = M.1 10 := by rw [← hK]; funext y; simp [mSeeM, mSee, mU, mR]
  have k11 : K.1 11 = M.1 11 := by rw [← hK]; funext y; simp [mSeeM, mSee, mU, mR]
  have k12 : K.1 12 = M.1 12 := by rw [← hK]; funext y; simp [mSeeM, mSee, mU, mR]
  have k13 : K.1 13 = M.1 13 := by rw [← hK]; funext y; simp [mSeeM, mSee, mU, mR]
  have k14 : K.1 14 = M.1 14 := by rw [← hK]; funext y; simp [mSeeM, mSee, mU, mR]
  have k16 : K.1 16 = (fun j => if j = (M.1 15 3).toNat then (k : Int) else M.1 16 j) := by rw [← hK]; funext y; simp [mSeeM, mSee, mU, mR]
  have k17 : K.1 17 = (fun j => if j = (M.1 15 3).toNat then q else M.1 17 j) := by rw [← hK]; funext y; simp [mSeeM, mSee, mU, mR]
  have k18 : K.1 18 = (fun j => if j = (M.1 15 3).toNat then y else M.1 18 j) := by rw [← hK]; funext y2; simp [mSeeM, mSee, mU, mR]
  have k20 : K.1 20 = M.1 20 := by rw [← hK]; funext y; simp [mSeeM, mSee, mU, mR]
  have k21 : K.1 21 = M.1 21 := by rw [← hK]; funext y; simp [mSeeM, mSee, mU, mR]
  have k22 : K.1 22 = M.1 22 := by rw [← hK]; funext y; simp [mSeeM, mSee, mU, mR]
  have k23 : K.1 23 = M.1 23 := by rw [← hK]; funext y; simp [mSeeM, mSee, mU, mR]
  have k24 : K.1 24 = M.1 24 := by rw [← hK]; funext y; simp [mSeeM, mSee, mU, mR]
  have k25 : K.1 25 = M.1 25 := by rw [← hK]; funext y; simp [mSeeM, mSee, mU, mR]
  have k27 : K.1 27 = M.1 27 := by rw [← hK]; funext y; simp [mSeeM, mSee, mU, mR]
  have k28 : K.1 28 = M.1 28 := by rw [← hK]; funext y; simp [mSeeM, mSee, mU, mR]
  have k29 : K.1 29 = M.1 29 := by rw [← hK]; funext y; simp [mSeeM, mSee, mU, mR]
  have k49 : K.1 49 = M.1 49 := by rw [← hK]; funext y; simp [mSeeM, mSee, mU, mR]
  have k50 : K.1 50 = M.1 50 := by rw [← hK]; funext y; simp [mSeeM, mSee, mU, mR]
  have k51 : K.1 51 = M.1 51 := by rw [← hK]; funext y; simp [mSeeM, mSee, mU, mR]
  have k52 : K.1 52 = M.1 52 := by rw [← hK]; funext y; simp [mSeeM, mSee, mU, mR]
  have k53 : K.1 53 = M.1 53 := by rw [← hK]; funext y; simp [mSeeM, mSee, mU, mR]
  have k54 : K.1 54 = M.1 54 := by rw [← hK]; funext y; simp [mSeeM, mSee, mU, mR]
  have k55 : K.1 55 = M.1 55 := by rw [← hK]; funext y; simp [mSeeM, mSee, mU, mR]
  have k56 : K.1 56 = M.1 56 := by rw [← hK]; funext y; simp [mSeeM, mSee, mU, mR]
  have k60 : K.1 60 = (fun j => if j = 3 * (M.1 48 22).toNat + 2 then y else if j = 3 * (M.1 48 22).toNat + 1 then q else if j = 3 * (M.1 48 22).toNat then (k : Int) else M.1 60 j) := by rw [← hK]; funext y2; simp [mSeeM, mSee, mU, mR]
  have k62 : K.1 62 = M.1 62 := by rw [← hK]; funext y; simp [mSeeM, mSee, mU, mR]
  have k63 : K.1 63 = M.1 63 := by rw [← hK]; funext y; simp [mSeeM, mSee, mU, mR]
  have k64 : K.1 64 = M.1 64 := by rw [← hK]; funext y; simp [mSeeM, mSee, mU, mR]
  have k65 : K.1 65 = M.1 65 := by rw [← hK]; funext y; simp [mSeeM, mSee, mU, mR]
  have k66 : K.1 66 = M.1 66 := by rw [← hK]; funext y; simp [mSeeM, mSee, mU, mR]
  have k67 : K.1 67 = M.1 67 := by rw [← hK]; funext y; simp [mSeeM, mSee, mU, mR]
  have k68 : K.1 68 = M.1 68 := by rw [← hK]; funext y; simp [mSeeM, mSee, mU, mR]
  have k0_5 : K.1 0 5 = M.1 0 5 := by rw [← hK]; simp [mSeeM, mSee, mU, mR]
  have k0_6 : K.1 0 6 = M.1 0 6 := by rw [← hK]; simp [mSeeM, mSee, mU, mR]
  have k0_7 : K.1 0 7 = M.1 0 7 := by rw [← hK]; simp [mSeeM, mSee, mU, mR]
  have k0_8 : K.1 0 8 = M.1 0 8 := by rw [← hK]; simp [mSeeM, mSee, mU, mR]
  have k1_1 : K.1 1 1 = M.1 1 1 := by rw [← hK]; simp [mSeeM, mSee, mU, mR]
  have k3_4 : K.1 3 4 = M.1 3 4 := by rw [← hK]; simp [mSeeM, mSee, mU, mR]
  have k3_5 : K.1 3 5 = M.1 3 5 := by rw [← hK]; simp [mSeeM, mSee, mU, mR]
  have k8_7 : K.1 8 7 = M.1 8 7 := by rw [← hK]; simp [mSeeM, mSee, mU, mR]
  have k8_8 : K.1 8 8 = M.1 8 8 := by rw [← hK]; simp [mSeeM, mSee, mU, mR]
  have k8_9 : K.1 8 9 = M.1 8 9 := by rw [← hK]; simp [mSeeM, mSee, mU, mR]
  have k8_10 : K.1 8 10 = M.1 8 10 := by rw [← hK]; simp [mSeeM, mSee, mU, mR]
  have k15_3 : K.1 15 3 = M.1 15 3 + 1 := by rw [← hK]; simp [mSeeM, mSee, mU, mR]
  have k19_7 : K.1 19 7 = M.1 19 7 := by rw [← hK]; simp [mSeeM, mSee, mU, mR]
  have k19_8 : K.1 19 8 = M.1 19 8 := by rw [← hK]; simp [mSeeM, mSee, mU, mR]
  have k19_9 : K.1 19 9 = M.1 19 9 := by rw [← hK]; simp [mSeeM, mSee, mU, mR]
  have k19_10 : K.1 19 10 = M.1 19 10 := by rw [← hK]; simp [mSeeM, mSee, mU, mR]
  have k26_3 : K.1 26 3 = M.1 26 3 := by rw [← hK]; simp [mSeeM, mSee, mU, mR]
  have k48_1 : K.1 48 1 = M.1 48 1 := by rw [← hK]; simp [mSeeM, mSee, mU, mR]
  have k48_3 : K.1 48 3 = M.1 48 3 := by rw [← hK]; simp [mSeeM, mSee, mU, mR]
  have k48_4 : K.1 48 4 = M.1 48 4 := by rw [← hK]; simp [mSeeM, mSee, mU, mR]
  have k48_5 : K.1 48 5 = M.1 48 5 := by rw [← hK]; simp [mSeeM, mSee, mU, mR]
  have k48_6 : K.1 48 6 = M.1 48 6 := by rw [← hK]; simp [mSeeM, mSee, mU, mR]
  have k48_7 : K.1 48 7 = M.1 48 7 := by rw [← hK]; simp [mSeeM, mSee, mU, mR]
  have k48_8 : K.1 48 8 = M.1 48 8 := by rw [← hK]; simp [mSeeM, mSee, mU, mR]
  have k48_9 : K.1 48 9 = M.1 48 9 := by rw [← hK]; simp [mSeeM, mSee, mU, mR]
  have k48_18 : K.1 48 18 = M.1 48 18 := by rw [← hK]; simp [mSeeM, mSee, mU, mR]
  have k48_21 : K.1 48 21 = M.1 48 21 := by rw [← hK]; simp [mSeeM, mSee, mU, mR]
  have k48_22 : K.1 48 22 = M.1 48 22 + 1 := by rw [← hK]; simp [mSeeM, mSee, mU, mR]
  have k48_26 : K.1 48 26 = M.1 48 26 := by rw [← hK]; simp [mSeeM, mSee, mU, mR]
  have k48_27 : K.1 48 27 = M.1 48 27 := by rw [← hK]; simp [mSeeM, mSee, mU, mR]
  have k48_28 : K.1 48 28 = M.1 48 28 := by rw [← hK]; simp [mSeeM, mSee, mU, mR]
  have k48_29 : K.1 48 29 = M.1 48 29 := by rw [← hK]; simp [mSeeM, mSee, mU, mR]
  have k48_30 : K.1 48 30 = M.1 48 30 := by rw [← hK]; simp [mSeeM, mSee, mU, mR]
  have k48_31 : K.1 48 31 = M.1 48 31 := by rw [← hK]; simp [mSeeM, mSee, mU, mR]
  have jA1 : A1 K := by
    unfold A1 oP
    simp only [k1_1, k2]
    exact hA1
  have jA2 : A2 K := by
    unfold A2 oV
    simp only [k3_4, k3_5, k4, k5, k6, k7]
    exact hA2
  have jA3 : A3 K := by
    unfold A3 oF
    simp only [k9, k10, k8_7, k13, k14]
    exact hA3
  have jA4 : A4 K := by
    unfold A4
    simp only [k12]
    exact hA4
  have jA5 : A5 K := by
    unfold A5
    simp only [k8_8, k3_5]
    exact hA5
  have jA6 : A6 K := by
    unfold A6
    simp only [k8_9]
    exact hA6
  have jA7 : A7 K := by
    unfold A7
    simp only [k15_3, k16, k17, k18]
    exact ⟨by have := hA7.1; omega, fun i hi => by have := hA7.2.1 i hi; split <;> omega, fun i hi => by have := hA7.2.2.1 i hi; split <;> omega, fun i hi => by have := hA7.2.2.2 i hi; split <;> omega⟩
  have jA8 : A8 K := by
    unfold A8
    simp only [k0_7, k0_8, k0_5]
    exact hA8
  have jB1 : B1 K := by
    unfold B1 oMp
    simp only [k48_1, k49]
    exact hB1
  have jB2 : B2 K := by
    unfold B2 oMv
    simp only [k48_3, k48_4]
    exact hB2
  have jB3 : B3 K := by
    unfold B3 oMr
    simp only [k50]
    exact hB3
  have jB4 : B4 K := by
    unfold B4 oMf
    simp only [k51, k48_8, k56, k53]
    exact hB4
  have jB5 : B5 K := by
    unfold B5 oMg
    simp only [k52]
    exact hB5
  have jB6 : B6 K := by
    unfold B6 oMs
    simp only [k48_22, k60]
    have e := hS6n.2
    have h1 := hB6.1
    refine ⟨by omega, fun i hi => ?_⟩
    have h2 := hB6.2 i hi
    by_cases q1 : i = (M.1 48 22).toNat
    · rw [if_neg (by omega), if_neg (by omega), if_pos (by omega), if_neg (by omega), if_pos (by omega), if_pos (by omega)]
      omega
    · rw [if_neg (by omega), if_neg (by omega), if_neg (by omega), if_neg (by omega), if_neg (by omega), if_neg (by omega), if_neg (by omega), if_neg (by omega), if_neg (by omega)]
      exact h2
  have jB7 : B7 K := by
    unfold B7
    simp only [k55]
    exact hB7
  have jB8 : B8 K := by
    unfold B8
    simp only [k54]
    exact hB8
  have jB9 : B9 K := by
    unfold B9
    simp only [k48_5]
    exact hB9
  have jC1 : C1 K := by
    unfold C1
    simp only [k48_1, k1_1, k49, k2]
    exact hC1
  have jC2 : C2 K := by
    unfold C2
    simp only [k48_3, k3_4, k48_4, k3_5, k50, k4, k5, k6, k53, k7]
    exact hC2
  have jS1n : S1n K := by
    unfold S1n
    simp only [k3_4, k50, k11, k51, k10, k52, k9]
    exact hS1n
  have jS2n : S2n K := by
    unfold S2n
    simp only [k3_4, k9, k11]
    exact hS2n
  have jS3n : S3n K := by
    unfold S3n
    simp only [k55, k12]
    exact hS3n
  have jS4n : S4n K := by
    unfold S4n
    simp only [k3_5, k54, k8_8]
    exact hS4n
  have jS5n : S5n K := by
    unfold S5n
    simp only [k56, k13, k14, k48_8, k8_7]
    exact hS5n
  have jS6n : S6n K := by
    unfold S6n
    simp only [k60, k16, k17, k18, k48_22, k15_3]
    have e := hS6n.2
    have h1 := hB6.1
    refine ⟨fun i => ?_, by rw [e]⟩
    by_cases q1 : i = (M.1 15 3).toNat
    · rw [if_pos q1, if_pos q1, if_pos q1, if_neg (by omega), if_neg (by omega), if_pos (by omega), if_neg (by omega), if_pos (by omega), if_pos (by omega)]
      exact ⟨rfl, rfl, rfl⟩
    · rw [if_neg q1, if_neg q1, if_neg q1, if_neg (by omega), if_neg (by omega), if_neg (by omega), if_neg (by omega), if_neg (by omega), if_neg (by omega), if_neg (by omega), if_neg (by omega), if_neg (by omega)]
      exact hS6n.1 i
  have jS7n : S7n K := by
    unfold S7n
    simp only [k48_5, k8_9, k48_6, k11, k48_7, k8_10]
    exact hS7n
  have jC4 : C4 K := by
    unfold C4
    simp only [k48_9, k0_6, k48_18, k0_7, k48_21, k0_8]
    exact hC4
  have jC5 : C5 (c) K := by
    unfold C5
    simp only [k48_26, k48_9, k0_5]
    exact hC5
  have jC6 : C6 K := by
    unfold C6 KP S1k S2k S3k S4k S5k S6k S7k oF
    simp only [k0_5, k50, k3_4, k3_5, k20, k21, k22, k23, k24, k25, k27, k28, k29, k19_7, k19_8, k19_9, k19_10, k26_3, k62, k63, k64, k65, k66, k67, k68, k48_27, k48_28, k48_29, k48_30, k48_31]
    exact hC6
  exact ⟨⟨jA1, jA2, jA3, jA4, jA5, jA6, jA7, jA8⟩, ⟨jB1, jB2, jB3, jB4, jB5, jB6, jB7, jB8, jB9⟩, jC1, jC2, ⟨jS1n, jS2n, jS3n, jS4n, jS5n, jS6n, jS7n⟩, jC4, jC5, jC6⟩
set_option maxRecDepth 10000 in
set_option maxHeartbeats 1000000 in
theorem K_forget {c : Nat} {M : Mm_} (hI : INV c M)  : INV (c) (mU (mU M 15 3 0) 48 22 0) := by
  obtain ⟨⟨hA1, hA2, hA3, hA4, hA5, hA6, hA7, hA8⟩, ⟨hB1, hB2, hB3, hB4, hB5, hB6, hB7, hB8, hB9⟩, hC1, hC2, ⟨hS1n, hS2n, hS3n, hS4n, hS5n, hS6n, hS7n⟩, hC4, hC5, hC6⟩ := id hI
  have hn := I_n hI
  obtain ⟨K, hK⟩ : ∃ K : Mm_, (mU (mU M 15 3 0) 48 22 0) = K := ⟨_, rfl⟩
  rw [hK]
  have k2 : K.1 2 = M.1 2 := by rw [← hK]; funext y; simp [mU, mR]
  have k4 : K.1 4 = M.1 4 := by rw [← hK]; funext y; simp [mU, mR]
  have k5 : K.1 5 = M.1 5 := by rw [← hK]; funext y; simp [mU, mR]
  have k6 : K.1 6 = M.1 6 := by rw [← hK]; funext y; simp [mU, mR]
  have k7 : K.1 7 = M.1 7 := by rw [← hK]; funext y; simp [mU, mR]
  have k9 : K.1 9 = M.1 9 := by rw [← hK]; funext y; simp [mU, mR]
  have k10 : K.1 10 = M.1 10 := by rw [← hK]; funext y; simp [mU, mR]
  have k11 : K.1 11 = M.1 11 := by rw [← hK]; funext y; simp [mU, mR]
  have k12 : K.1 12 = M.1 12 := by rw [← hK]; funext y; simp [mU, mR]
  have k13 : K.1 13 = M.1 13 := by rw [← hK]; funext y; simp [mU, mR]
  have k14 : K.1 14 = M.1 14 := by rw [← hK]; funext y; simp [mU, mR]
  have k16 : K.1 16 = M.1 16 := by rw [← hK]; funext y; simp [mU, mR]
  have k17 : K.1 17 = M.1 17 := by rw [← hK]; funext y; simp [mU, mR]
  have k18 : K.1 18 = M.1 18 := by rw [← hK]; funext y; simp [mU, mR]
  have k20 : K.1 20 = M.1 20 := by rw [← hK]; funext y; simp [mU, mR]
  have k21 : K.1 21 = M.1 21 := by rw [← hK]; funext y; simp [mU, mR]
  have k22 : K.1 22 = M.1 22 := by rw [← hK]; funext y; simp [mU, mR]
  have k23 : K.1 23 = M.1 23 := by rw [← hK]; funext y; simp [mU, mR]
  have k24 : K.1 24 = M.1 24 := by rw [← hK]; funext y; simp [mU, mR]
  have k25 : K.1 25 = M.1 25 := by rw [← hK]; funext y; simp [mU, mR]
  have k27 : K.1 27 = M.1 27 := by rw [← hK]; funext y; simp [mU, mR]
  have k28 : K.1 28 = M.1 28 := by rw [← hK]; funext y; simp [mU, mR]
  have k29 : K.1 29 = M.1 29 := by rw [← hK]; funext y; simp [mU, mR]
  have k49 : K.1 49 = M.1 49 := by rw [← hK]; funext y; simp [mU, mR]
  have k50 : K.1 50 = M.1 50 := by rw [← hK]; funext y; simp [mU, mR]
  have k51 : K.1 51 = M.1 51 := by rw [← hK]; funext y; simp [mU, mR]
  have k52 : K.1 52 = M.1 52 := by rw [← hK]; funext y; simp [mU, mR]
  have k53 : K.1 53 = M.1 53 := by rw [← hK]; funext y; simp [mU, mR]
  have k54 : K.1 54 = M.1 54 := by rw [← hK]; funext y; simp [mU, mR]
  have k55 : K.1 55 = M.1 55 := by rw [← hK]; funext y; simp [mU, mR]
  have k56 : K.1 56 = M.1 56 := by rw [← hK]; funext y; simp [mU, mR]
  have k60 : K.1 60 = M.1 60 := by rw [← hK]; funext y; simp [mU, mR]
  have k62 : K.1 62 = M.1 62 := by rw [← hK]; funext y; simp [mU, mR]
  have k63 : K.1 63 = M.1 63 := by rw [← hK]; funext y; simp [mU, mR]
  have k64 : K.1 64 = M.1 64 := by rw [← hK]; funext y; simp [mU, mR]
  have k65 : K.1 65 = M.1 65 := by rw [← hK]; funext y; simp [mU, mR]
  have k66 : K.1 66 = M.1 66 := by rw [← hK]; funext y; simp [mU, mR]
  have k67 : K.1 67 = M.1 67 := by rw [← hK]; funext y; simp [mU, mR]
  have k68 : K.1 68 = M.1 68 := by rw [← hK]; funext y; simp [mU, mR]
  have k0_5 : K.1 0 5 = M.1 0 5 := by rw [← hK]; simp [mU, mR]
  have k0_6 : K.1 0 6 = M.1 0 6 := by rw [← hK]; simp [mU, mR]
  have k0_7 : K.1 0 7 = M.1 0 7 := by rw [← hK]; simp [mU, mR]
  have k0_8 : K.1 0 8 = M.1 0 8 := by rw [← hK]; simp [mU, mR]
  have k1_1 : K.1 1 1 = M.1 1 1 := by rw [← hK]; simp [mU, mR]
  have k3_4 : K.1 3 4 = M.1 3 4 := by rw [← hK]; simp [mU, mR]
  have k3_5 : K.1 3 5 = M.1 3 5 := by rw [← hK]; simp [mU, mR]
  have k8_7 : K.1 8 7 = M.1 8 7 := by rw [← hK]; simp [mU, mR]
  have k8_8 : K.1 8 8 = M.1 8 8 := by rw [← hK]; simp [mU, mR]
  have k8_9 : K.1 8 9 = M.1 8 9 := by rw [← hK]; simp [mU, mR]
  have k8_10 : K.1 8 10 = M.1 8 10 := by rw [← hK]; simp [mU, mR]
  have k15_3 : K.1 15 3 = 0 := by rw [← hK]; simp [mU, mR]
  have k19_7 : K.1 19 7 = M.1 19 7 := by rw [← hK]; simp [mU, mR]
  have k19_8 : K.1 19 8 = M.1 19 8 := by rw [← hK]; simp [mU, mR]
  have k19_9 : K.1 19 9 = M.1 19 9 := by rw [← hK]; simp [mU, mR]
  have k19_10 : K.1 19 10 = M.1 19 10 := by rw [← hK]; simp [mU, mR]
  have k26_3 : K.1 26 3 = M.1 26 3 := by rw [← hK]; simp [mU, mR]
  have k48_1 : K.1 48 1 = M.1 48 1 := by rw [← hK]; simp [mU, mR]
  have k48_3 : K.1 48 3 = M.1 48 3 := by rw [← hK]; simp [mU, mR]
  have k48_4 : K.1 48 4 = M.1 48 4 := by rw [← hK]; simp [mU, mR]
  have k48_5 : K.1 48 5 = M.1 48 5 := by rw [← hK]; simp [mU, mR]
  have k48_6 : K.1 48 6 = M.1 48 6 := by rw [← hK]; simp [mU, mR]
  have k48_7 : K.1 48 7 = M.1 48 7 := by rw [← hK]; simp [mU, mR]
  have k48_8 : K.1 48 8 = M.1 48 8 := by rw [← hK]; simp [mU, mR]
  have k48_9 : K.1 48 9 = M.1 48 9 := by rw [← hK]; simp [mU, mR]
  have k48_18 : K.1 48 18 = M.1 48 18 := by rw [← hK]; simp [mU, mR]
  have k48_21 : K.1 48 21 = M.1 48 21 := by rw [← hK]; simp [mU, mR]
  have k48_22 : K.1 48 22 = 0 := by rw [← hK]; simp [mU, mR]
  have k48_26 : K.1 48 26 = M.1 48 26 := by rw [← hK]; simp [mU, mR]
  have k48_27 : K.1 48 27 = M.1 48 27 := by rw [← hK]; simp [mU, mR]
  have k48_28 : K.1 48 28 = M.1 48 28 := by rw [← hK]; simp [mU, mR]
  have k48_29 : K.1 48 29 = M.1 48 29 := by rw [← hK]; simp [mU, mR]
  have k48_30 : K.1 48 30 = M.1 48 30 := by rw [← hK]; simp [mU, mR]
  have k48_31 : K.1 48 31 = M.1 48 31 := by rw [← hK]; simp [mU, mR]
  have jA1 : A1 K := by
    unfold A1 oP
    simp only [k1_1, k2]
    exact hA1
  have jA2 : A2 K := by
    unfold A2 oV
    simp only [k3_4, k3_5, k4, k5, k6, k7]
    exact hA2
  have jA3 : A3 K := by
    unfold A3 oF
    simp only [k9, k10, k8_7, k13, k14]
    exact hA3
  have jA4 : A4 K := by
    unfold A4
    simp only [k12]
    exact hA4
  have jA5 : A5 K := by
    unfold A5
    simp only [k8_8, k3_5]
    exact hA5
  have jA6 : A6 K := by
    unfold A6
    simp only [k8_9]
    exact hA6
  have jA7 : A7 K := by
    unfold A7
    simp only [k15_3, k16, k17, k18]
    exact ⟨by omega, hA7.2⟩
  have jA8 : A8 K := by
    unfold A8
    simp only [k0_7, k0_8, k0_5]
    exact hA8
  have jB1 : B1 K := by
    unfold B1 oMp
    simp only [k48_1, k49]
    exact hB1
  have jB2 : B2 K := by
    unfold B2 oMv
    simp only [k48_3, k48_4]
    exact hB2
  have jB3 : B3 K := by
    unfold B3 oMr
    simp only [k50]
    exact hB3
  have jB4 : B4 K := by
    unfold B4 oMf
    simp only [k51, k48_8, k56, k53]
    exact hB4
  have jB5 : B5 K := by
    unfold B5 oMg
    simp only [k52]
    exact hB5
  have jB6 : B6 K := by
    unfold B6 oMs
    simp only [k48_22, k60]
    exact ⟨by omega, hB6.2⟩
  have jB7 : B7 K := by
    unfold B7
    simp only [k55]
    exact hB7
  have jB8 : B8 K := by
    unfold B8
    simp only [k54]
    exact hB8
  have jB9 : B9 K := by
    unfold B9
    simp only [k48_5]
    exact hB9
  have jC1 : C1 K := by
    unfold C1
    simp only [k48_1, k1_1, k49, k2]
    exact hC1
  have jC2 : C2 K := by
    unfold C2
    simp only [k48_3, k3_4, k48_4, k3_5, k50, k4, k5, k6, k53, k7]
    exact hC2
  have jS1n : S1n K := by
    unfold S1n
    simp only [k3_4, k50, k11, k51, k10, k52, k9]
    exact hS1n
  have jS2n : S2n K := by
    unfold S2n
    simp only [k3_4, k9, k11]
    exact hS2n
  have jS3n : S3n K := by
    unfold S3n
    simp only [k55, k12]
    exact hS3n
  have jS4n : S4n K := by
    unfold S4n
    simp only [k3_5, k54, k8_8]
    exact hS4n
  have jS5n : S5n K := by
    unfold S5n
    simp only [k56, k13, k14, k48_8, k8_7]
    exact hS5n
  have jS6n : S6n K := by
    unfold S6n
    simp only [k60, k16, k17, k18, k48_22, k15_3]
    exact ⟨hS6n.1, trivial⟩
  have jS7n : S7n K := by
    unfold S7n
    simp only [k48_5, k8_9, k48_6, k11, k48_7, k8_10]
    exact hS7n
  have jC4 : C4 K := by
    unfold C4
    simp only [k48_9, k0_6, k48_18, k0_7, k48_21, k0_8]
    exact hC4
  have jC5 : C5 (c) K := by
    unfold C5
    simp only [k48_26, k48_9, k0_5]
    exact hC5
  have jC6 : C6 K := by
    unfold C6 KP S1k S2k S3k S4k S5k S6k S7k oF
    simp only [k0_5, k50, k3_4, k3_5, k20, k21, k22, k23, k24, k25, k27, k28, k29, k19_7, k19_8, k19_9, k19_10, k26_3, k62, k63, k64, k65, k66, k67, k68, k48_27, k48_28, k48_29, k48_30, k48_31]
    exact hC6
  exact ⟨⟨jA1, jA2, jA3, jA4, jA5, jA6, jA7, jA8⟩, ⟨jB1, jB2, jB3, jB4, jB5, jB6, jB7, jB8, jB9⟩, jC1, jC2, ⟨jS1n, jS2n, jS3n, jS4n, jS5n, jS6n, jS7n⟩, jC4, jC5, jC6⟩
