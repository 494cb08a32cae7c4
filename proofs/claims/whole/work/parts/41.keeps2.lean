set_option maxRecDepth 10000 in
set_option maxHeartbeats 1000000 in
theorem K_valley {c : Nat} {M : Mm_} (hI : INV c M) (hvl : isVl (M.1 2) (M.1 1 1).toNat) {e k m : Nat} (hk2 : 2 ≤ k) (hk4 : k ≤ 4) (hm2 : 2 ≤ m) (hm6 : m ≤ 6) (hpp : ∀ i, i < k → 0 ≤ ixF (M.1 2 (4 * i)) ∧ (49 ≤ M.1 2 (4 * i + 1) ∧ M.1 2 (4 * i + 1) ≤ 57) ∧ (48 ≤ M.1 2 (4 * i + 2) ∧ M.1 2 (4 * i + 2) ≤ 53)) (hww : ∀ j, j < m → 49 ≤ M.1 2 (e + 1 + j) ∧ M.1 2 (e + 1 + j) ≤ 57) : INV (c + 1) (mVaM (mVal M e k m) e k m) := by
  obtain ⟨⟨hA1, hA2, hA3, hA4, hA5, hA6, hA7, hA8⟩, ⟨hB1, hB2, hB3, hB4, hB5, hB6, hB7, hB8, hB9⟩, hC1, hC2, ⟨hS1n, hS2n, hS3n, hS4n, hS5n, hS6n, hS7n⟩, hC4, hC5, hC6⟩ := id hI
  have hn := I_n hI
  have e49 : M.1 49 = M.1 2 := hC1.2
  have hix : ∀ i, i < k → 0 ≤ ixF (M.1 2 (4 * i)) ∧ ixF (M.1 2 (4 * i)) ≤ 4 := fun i hi => ⟨(hpp i hi).1, (ixF_b _).2⟩
  have hw7 := hA2.2.2.2.2
  obtain ⟨K, hK⟩ : ∃ K : Mm_, (mVaM (mVal M e k m) e k m) = K := ⟨_, rfl⟩
  rw [hK]
  have k2 : K.1 2 = M.1 2 := by rw [← hK]; funext y; simp [mVaM, mVal, rvM, rdM, mClear, mU, mR]
  have k4 : K.1 4 = (fun y => if y < k then ixF (M.1 2 (4 * y)) else M.1 4 y) := by rw [← hK]; funext y; simp [mVaM, mVal, rvM, rdM, mClear, mU, mR]
  have k5 : K.1 5 = (fun y => if y < k then M.1 2 (4 * y + 1) - 48 else M.1 5 y) := by rw [← hK]; funext y; simp [mVaM, mVal, rvM, rdM, mClear, mU, mR]
  have k6 : K.1 6 = (fun y => if y < 3 * k then gw (ixF (M.1 2 (4 * (y / 3)))) (M.1 2 (4 * (y / 3) + 1) - 48) ((y % 3 : Nat) : Int) else M.1 6 y) := by rw [← hK]; funext y; simp [mVaM, mVal, rvM, rdM, mClear, mU, mR]
  have k7 : K.1 7 = (fun y => if y < m then M.1 2 (e + 1 + y) - 48 else M.1 7 y) := by rw [← hK]; funext y; simp [mVaM, mVal, rvM, rdM, mClear, mU, mR]
  have k9 : K.1 9 = (fun _ => 0) := by rw [← hK]; funext y; simp [mVaM, mVal, rvM, rdM, mClear, mU, mR]
  have k10 : K.1 10 = (fun y => if y < k then M.1 2 (4 * y + 2) - 48 else 0) := by rw [← hK]; funext y; simp [mVaM, mVal, rvM, rdM, mClear, mU, mR]
  have k11 : K.1 11 = (fun _ => 0) := by rw [← hK]; funext y; simp [mVaM, mVal, rvM, rdM, mClear, mU, mR]
  have k12 : K.1 12 = (fun _ => 0) := by rw [← hK]; funext y; simp [mVaM, mVal, rvM, rdM, mClear, mU, mR]
  have k13 : K.1 13 = M.1 13 := by rw [← hK]; funext y; simp [mVaM, mVal, rvM, rdM, mClear, mU, mR]
  have k14 : K.1 14 = M.1 14 := by rw [← hK]; funext y; simp [mVaM, mVal, rvM, rdM, mClear, mU, mR]
  have k16 : K.1 16 = M.1 16 := by rw [← hK]; funext y; simp [mVaM, mVal, rvM, rdM, mClear, mU, mR]
  have k17 : K.1 17 = M.1 17 := by rw [← hK]; funext y; simp [mVaM, mVal, rvM, rdM, mClear, mU, mR]
  have k18 : K.1 18 = M.1 18 := by rw [← hK]; funext y; simp [mVaM, mVal, rvM, rdM, mClear, mU, mR]
  have k20 : K.1 20 = M.1 20 := by rw [← hK]; funext y; simp [mVaM, mVal, rvM, rdM, mClear, mU, mR]
  have k21 : K.1 21 = M.1 21 := by rw [← hK]; funext y; simp [mVaM, mVal, rvM, rdM, mClear, mU, mR]
  have k22 : K.1 22 = M.1 22 := by rw [← hK]; funext y; simp [mVaM, mVal, rvM, rdM, mClear, mU, mR]
  have k23 : K.1 23 = M.1 23 := by rw [← hK]; funext y; simp [mVaM, mVal, rvM, rdM, mClear, mU, mR]
  have k24 : K.1 24 = M.1 24 := by rw [← hK]; funext y; simp [mVaM, mVal, rvM, rdM, mClear, mU, mR]
  have k25 : K.1 25 = M.1 25 := by rw [← hK]; funext y; simp [mVaM, mVal, rvM, rdM, mClear, mU, mR]
  have k27 : K.1 27 = M.1 27 := by rw [← hK]; funext y; simp [mVaM, mVal, rvM, rdM, mClear, mU, mR]
  have k28 : K.1 28 = M.1 28 := by rw [← hK]; funext y; simp [mVaM, mVal, rvM, rdM, mClear, mU, mR]
  have k29 : K.1 29 = M.1 29 := by rw [← hK]; funext y; simp [mVaM, mVal, rvM, rdM, mClear, mU, mR]
  have k49 : K.1 49 = M.1 49 := by rw [← hK]; funext y; simp [mVaM, mVal, rvM, rdM, mClear, mU, mR]
  have k50 : K.1 50 = (fun y => if y % 3 = 0 ∧ y / 3 < k then ixF (M.1 49 (4 * (y / 3))) else if y % 3 = 1 ∧ y / 3 < k then M.1 49 (4 * (y / 3) + 1) - 48 else if y % 3 = 2 ∧ y / 3 < k then 0 else M.1 50 y) := by rw [← hK]; funext y; simp [mVaM, mVal, rvM, rdM, mClear, mU, mR]
  have k51 : K.1 51 = (fun y => if y < k then M.1 49 (4 * y + 2) - 48 else M.1 51 y) := by rw [← hK]; funext y; simp [mVaM, mVal, rvM, rdM, mClear, mU, mR]
  have k52 : K.1 52 = (fun y => if y < k then 0 else M.1 52 y) := by rw [← hK]; funext y; simp [mVaM, mVal, rvM, rdM, mClear, mU, mR]
  have k53 : K.1 53 = (fun y => if y < m then M.1 49 (e + 1 + y) - 48 else M.1 53 y) := by rw [← hK]; funext y; simp [mVaM, mVal, rvM, rdM, mClear, mU, mR]
  have k54 : K.1 54 = (fun y => if y < m then 0 else M.1 54 y) := by rw [← hK]; funext y; simp [mVaM, mVal, rvM, rdM, mClear, mU, mR]
  have k55 : K.1 55 = (fun y => if y < 4 then 0 else M.1 55 y) := by rw [← hK]; funext y; simp [mVaM, mVal, rvM, rdM, mClear, mU, mR]
  have k56 : K.1 56 = M.1 56 := by rw [← hK]; funext y; simp [mVaM, mVal, rvM, rdM, mClear, mU, mR]
  have k60 : K.1 60 = M.1 60 := by rw [← hK]; funext y; simp [mVaM, mVal, rvM, rdM, mClear, mU, mR]
  have k62 : K.1 62 = M.1 62 := by rw [← hK]; funext y; simp [mVaM, mVal, rvM, rdM, mClear, mU, mR]
  have k63 : K.1 63 = M.1 63 := by rw [← hK]; funext y; simp [mVaM, mVal, rvM, rdM, mClear, mU, mR]
  have k64 : K.1 64 = M.1 64 := by rw [← hK]; funext y; simp [mVaM, mVal, rvM, rdM, mClear, mU, mR]
  have k65 : K.1 65 = M.1 65 := by rw [← hK]; funext y; simp [mVaM, mVal, rvM, rdM, mClear, mU, mR]
  have k66 : K.1 66 = M.1 66 := by rw [← hK]; funext y; simp [mVaM, mVal, rvM, rdM, mClear, mU, mR]
  have k67 : K.1 67 = M.1 67 := by rw [← hK]; funext y; simp [mVaM, mVal, rvM, rdM, mClear, mU, mR]
  have k68 : K.1 68 = M.1 68 := by rw [← hK]; funext y; simp [mVaM, mVal, rvM, rdM, mClear, mU, mR]
  have k0_5 : K.1 0 5 = 0 := by rw [← hK]; simp [mVaM, mVal, rvM, rdM, mClear, mU, mR]
  have k0_6 : K.1 0 6 = M.1 0 6 + 1 := by rw [← hK]; simp [mVaM, mVal, rvM, rdM, mClear, mU, mR]
  have k0_7 : K.1 0 7 = M.1 0 7 := by rw [← hK]; simp [mVaM, mVal, rvM, rdM, mClear, mU, mR]
  have k0_8 : K.1 0 8 = M.1 0 8 := by rw [← hK]; simp [mVaM, mVal, rvM, rdM, mClear, mU, mR]
  have k1_1 : K.1 1 1 = 0 := by rw [← hK]; simp [mVaM, mVal, rvM, rdM, mClear, mU, mR]
  have k3_4 : K.1 3 4 = (k : Int) := by rw [← hK]; simp [mVaM, mVal, rvM, rdM, mClear, mU, mR]
  have k3_5 : K.1 3 5 = (m : Int) := by rw [← hK]; simp [mVaM, mVal, rvM, rdM, mClear, mU, mR]
  have k8_7 : K.1 8 7 = 0 := by rw [← hK]; simp [mVaM, mVal, rvM, rdM, mClear, mU, mR]
  have k8_8 : K.1 8 8 = 0 := by rw [← hK]; simp [mVaM, mVal, rvM, rdM, mClear, mU, mR]
  have k8_9 : K.1 8 9 = 0 := by rw [← hK]; simp [mVaM, mVal, rvM, rdM, mClear, mU, mR]
  have k8_10 : K.1 8 10 = 0 := by rw [← hK]; simp [mVaM, mVal, rvM, rdM, mClear, mU, mR]
  have k15_3 : K.1 15 3 = 0 := by rw [← hK]; simp [mVaM, mVal, rvM, rdM, mClear, mU, mR]
  have k19_7 : K.1 19 7 = M.1 19 7 := by rw [← hK]; simp [mVaM, mVal, rvM, rdM, mClear, mU, mR]
  have k19_8 : K.1 19 8 = M.1 19 8 := by rw [← hK]; simp [mVaM, mVal, rvM, rdM, mClear, mU, mR]
  have k19_9 : K.1 19 9 = M.1 19 9 := by rw [← hK]; simp [mVaM, mVal, rvM, rdM, mClear, mU, mR]
  have k19_10 : K.1 19 10 = M.1 19 10 := by rw [← hK]; simp [mVaM, mVal, rvM, rdM, mClear, mU, mR]
  have k26_3 : K.1 26 3 = M.1 26 3 := by rw [← hK]; simp [mVaM, mVal, rvM, rdM, mClear, mU, mR]
  have k48_1 : K.1 48 1 = 0 := by rw [← hK]; simp [mVaM, mVal, rvM, rdM, mClear, mU, mR]
  have k48_3 : K.1 48 3 = (k : Int) := by rw [← hK]; simp [mVaM, mVal, rvM, rdM, mClear, mU, mR]
  have k48_4 : K.1 48 4 = (m : Int) := by rw [← hK]; simp [mVaM, mVal, rvM, rdM, mClear, mU, mR]
  have k48_5 : K.1 48 5 = 0 := by rw [← hK]; simp [mVaM, mVal, rvM, rdM, mClear, mU, mR]
  have k48_6 : K.1 48 6 = 0 := by rw [← hK]; simp [mVaM, mVal, rvM, rdM, mClear, mU, mR]
  have k48_7 : K.1 48 7 = 0 := by rw [← hK]; simp [mVaM, mVal, rvM, rdM, mClear, mU, mR]
  have k48_8 : K.1 48 8 = 0 := by rw [← hK]; simp [mVaM, mVal, rvM, rdM, mClear, mU, mR]
  have k48_9 : K.1 48 9 = M.1 48 9 + 1 := by rw [← hK]; simp [mVaM, mVal, rvM, rdM, mClear, mU, mR]
  have k48_18 : K.1 48 18 = M.1 48 18 := by rw [← hK]; simp [mVaM, mVal, rvM, rdM, mClear, mU, mR]
  have k48_21 : K.1 48 21 = M.1 48 21 := by rw [← hK]; simp [mVaM, mVal, rvM, rdM, mClear, mU, mR]
  have k48_22 : K.1 48 22 = 0 := by rw [← hK]; simp [mVaM, mVal, rvM, rdM, mClear, mU, mR]
  have k48_26 : K.1 48 26 = M.1 48 26 := by rw [← hK]; simp [mVaM, mVal, rvM, rdM, mClear, mU, mR]
  have k48_27 : K.1 48 27 = M.1 48 27 := by rw [← hK]; simp [mVaM, mVal, rvM, rdM, mClear, mU, mR]
  have k48_28 : K.1 48 28 = M.1 48 28 := by rw [← hK]; simp [mVaM, mVal, rvM, rdM, mClear, mU, mR]
  have k48_29 : K.1 48 29 = M.1 48 29 := by rw [← hK]; simp [mVaM, mVal, rvM, rdM, mClear, mU, mR]
  have k48_30 : K.1 48 30 = M.1 48 30 := by rw [← hK]; simp [mVaM, mVal, rvM, rdM, mClear, mU, mR]
  have k48_31 : K.1 48 31 = M.1 48 31 := by rw [← hK]; simp [mVaM, mVal, rvM, rdM, mClear, mU, mR]
  have jA1 : A1 K := by
    unfold A1 oP
    simp only [k1_1, k2]
    exact ⟨by omega, hA1.2⟩
  have jA2 : A2 K := by
    unfold A2 oV
    simp only [k3_4, k3_5, k4, k5, k6, k7]
    refine ⟨Or.inr ⟨by omega, by omega, by omega, by omega⟩, fun i hi => ?_, fun i hi => ?_, fun i hi => ?_, fun j hj => ?_⟩
    · by_cases q : i < k
      · rw [if_pos q]; exact hix i q
      · rw [if_neg q]; exact hA2.2.1 i hi
    · by_cases q : i < k
      · have := hpp i q
        rw [if_pos q]; omega
      · rw [if_neg q]; exact hA2.2.2.1 i hi
    · by_cases q : i < 3 * k
      · have := hpp (i / 3) (by omega)
        rw [if_pos q]; exact gw_b (by omega) (by omega)
      · rw [if_neg q]; exact hA2.2.2.2.1 i hi
    · by_cases q : j < m
      · have := hww j q
        rw [if_pos q]; omega
      · rw [if_neg q]; exact hA2.2.2.2.2 j hj
  have jA3 : A3 K := by
    unfold A3 oF
    simp only [k9, k10, k8_7, k13, k14]
    refine ⟨fun i hi => by omega, fun i hi => ?_, by omega, hA3.2.2.2⟩
    by_cases q : i < k
    · have := hpp i q
      rw [if_pos q]; omega
    · rw [if_neg q]; omega
  have jA4 : A4 K := by
    unfold A4
    simp only [k12]
    intro i hi
    omega
  have jA5 : A5 K := by
    unfold A5
    simp only [k8_8, k3_5]
    have := (pw_b (k := m) hm6).1
    rw [show ((m : Int)).toNat = m by omega]
    omega
  have jA6 : A6 K := by
    unfold A6
    simp only [k8_9]
    omega
  have jA7 : A7 K := by
    unfold A7
    simp only [k15_3, k16, k17, k18]
    exact ⟨by omega, hA7.2⟩
  have jA8 : A8 K := by
    unfold A8
    simp only [k0_7, k0_8, k0_5]
    exact ⟨hA8.1, hA8.2.1, Or.inl trivial⟩
  have jB1 : B1 K := by
    unfold B1 oMp
    simp only [k48_1, k49]
    exact ⟨by omega, hB1.2⟩
  have jB2 : B2 K := by
    unfold B2 oMv
    simp only [k48_3, k48_4]
    exact Or.inr ⟨by omega, by omega, by omega, by omega⟩
  have jB3 : B3 K := by
    unfold B3 oMr
    simp only [k50]
    intro i hi
    have h1 := hB3 i hi
    have a1 : (3 * i) % 3 = 0 := by omega
    have a2 : (3 * i) / 3 = i := by omega
    have a3 : (3 * i + 1) % 3 = 1 := by omega
    have a4 : (3 * i + 1) / 3 = i := by omega
    rw [a1, a2, a3, a4]
    by_cases q : i < k
    · have := hpp i q
      have := hix i q
      rw [if_pos (by omega), if_neg (by omega), if_pos (by omega), e49]
      omega
    · rw [if_neg (by omega), if_neg (by omega), if_neg (by omega), if_neg (by omega), if_neg (by omega), if_neg (by omega)]
      exact h1
  have jB4 : B4 K := by
    unfold B4 oMf
    simp only [k51, k48_8, k56, k53]
    refine ⟨fun i hi => ?_, by omega, hB4.2.2.1, fun j hj => ?_⟩
    · by_cases q : i < k
      · have := hpp i q
        rw [if_pos q, e49]; omega
      · rw [if_neg q]; exact hB4.1 i hi
    · by_cases q : j < m
      · have := hww j q
        rw [if_pos q, e49]; omega
      · rw [if_neg q]; exact hB4.2.2.2 j hj
  have jB5 : B5 K := by
    unfold B5 oMg
    simp only [k52]
    exact fun i hi => by have := hB5 i hi; split <;> omega
  have jB6 : B6 K := by
    unfold B6 oMs
    simp only [k48_22, k60]
    exact ⟨by omega, hB6.2⟩
  have jB7 : B7 K := by
    unfold B7
    simp only [k55]
    exact fun i hi => by have := hB7 i hi; split <;> omega
  have jB8 : B8 K := by
    unfold B8
    simp only [k54]
    exact fun j hj => by have := hB8 j hj; split <;> omega
  have jB9 : B9 K := by
    unfold B9
    simp only [k48_5]
    omega
  have jC1 : C1 K := by
    unfold C1
    simp only [k48_1, k1_1, k49, k2]
    exact ⟨trivial, hC1.2⟩
  have jC2 : C2 K := by
    unfold C2
    simp only [k48_3, k3_4, k48_4, k3_5, k50, k4, k5, k6, k53, k7]
    have key : ∀ i : Nat, (if (3 * i) % 3 = 0 ∧ (3 * i) / 3 < k then ixF (M.1 49 (4 * ((3 * i) / 3))) else if (3 * i) % 3 = 1 ∧ (3 * i) / 3 < k then M.1 49 (4 * ((3 * i) / 3) + 1) - 48 else if (3 * i) % 3 = 2 ∧ (3 * i) / 3 < k then 0 else M.1 50 (3 * i)) = if i < k then ixF (M.1 2 (4 * i)) else M.1 4 i := by
      intro i
      rw [show (3 * i) % 3 = 0 by omega, show (3 * i) / 3 = i by omega]
      by_cases q : i < k
      · rw [if_pos (by omega), if_pos q, e49]
      · rw [if_neg (by omega), if_neg (by omega), if_neg (by omega), if_neg q]; exact hC2.2.2.1 i
    have key2 : ∀ i : Nat, (if (3 * i + 1) % 3 = 0 ∧ (3 * i + 1) / 3 < k then ixF (M.1 49 (4 * ((3 * i + 1) / 3))) else if (3 * i + 1) % 3 = 1 ∧ (3 * i + 1) / 3 < k then M.1 49 (4 * ((3 * i + 1) / 3) + 1) - 48 else if (3 * i + 1) % 3 = 2 ∧ (3 * i + 1) / 3 < k then 0 else M.1 50 (3 * i + 1)) = if i < k then M.1 2 (4 * i + 1) - 48 else M.1 5 i := by
      intro i
      rw [show (3 * i + 1) % 3 = 1 by omega, show (3 * i + 1) / 3 = i by omega]
      by_cases q : i < k
      · rw [if_neg (by omega), if_pos (by omega), if_pos q, e49]
      · rw [if_neg (by omega), if_neg (by omega), if_neg (by omega), if_neg q]; exact hC2.2.2.2.1 i
    refine ⟨trivial, trivial, key, key2, fun i => ?_, ?_⟩
    · rw [key (i / 3), key2 (i / 3)]
      by_cases q : i < 3 * k
      · rw [if_pos q, if_pos (show i / 3 < k by omega), if_pos (show i / 3 < k by omega)]
      · rw [if_neg q, if_neg (show ¬ i / 3 < k by omega), if_neg (show ¬ i / 3 < k by omega), ← hC2.2.2.1, ← hC2.2.2.2.1]
        exact hC2.2.2.2.2.1 i
    · rw [e49, hC2.2.2.2.2.2]
  have jS1n : S1n K := by
    unfold S1n
    simp only [k3_4, k50, k11, k51, k10, k52, k9]
    intro i hi
    have hi2 : i < k := by omega
    rw [show (3 * i + 2) % 3 = 2 by omega, show (3 * i + 2) / 3 = i by omega]
    rw [if_neg (by omega), if_neg (by omega), if_pos (by omega), if_pos hi2, if_pos hi2, if_pos hi2, e49]
    exact ⟨rfl, rfl, rfl⟩
  have jS2n : S2n K := by
    unfold S2n
    simp only [k3_4, k9, k11]
    exact fun i h1 h2 => ⟨trivial, trivial⟩
  have jS3n : S3n K := by
    unfold S3n
    simp only [k55, k12]
    intro i hi
    rw [if_pos hi]
  have jS4n : S4n K := by
    unfold S4n
    simp only [k3_5, k54, k8_8]
    intro j hj
    rw [if_pos (by omega)]
    simp [bt]
  have jS5n : S5n K := by
    unfold S5n
    simp only [k56, k13, k14, k48_8, k8_7]
    exact ⟨hS5n.1, trivial⟩
  have jS6n : S6n K := by
    unfold S6n
    simp only [k60, k16, k17, k18, k48_22, k15_3]
    exact ⟨hS6n.1, trivial⟩
  have jS7n : S7n K := by
    unfold S7n
    simp only [k48_5, k8_9, k48_6, k11, k48_7, k8_10]
    exact ⟨trivial, by simp [sm], trivial⟩
  have jC4 : C4 K := by
    unfold C4
    simp only [k48_9, k0_6, k48_18, k0_7, k48_21, k0_8]
    exact ⟨by rw [hC4.1], hC4.2⟩
  have jC5 : C5 (c + 1) K := by
    unfold C5
    simp only [k48_26, k48_9, k0_5]
    have h5 := hC5
    unfold C5 at h5
    refine ⟨h5.1, by omega, by omega, by omega, ?_⟩
    constructor
    · intro q; exact absurd q (by decide)
    · intro q; omega
  have jC6 : C6 K := by
    unfold C6 KP S1k S2k S3k S4k S5k S6k S7k oF
    simp only [k0_5, k50, k3_4, k3_5, k20, k21, k22, k23, k24, k25, k27, k28, k29, k19_7, k19_8, k19_9, k19_10, k26_3, k62, k63, k64, k65, k66, k67, k68, k48_27, k48_28, k48_29, k48_30, k48_31]
    intro q
    exact absurd q (by decide)
  exact ⟨⟨jA1, jA2, jA3, jA4, jA5, jA6, jA7, jA8⟩, ⟨jB1, jB2, jB3, jB4, jB5, jB6, jB7, jB8, jB9⟩, jC1, jC2, ⟨jS1n, jS2n, jS3n, jS4n, jS5n, jS6n, jS7n⟩, jC4, jC5, jC6⟩
set_option maxRecDepth 10000 in
set_option maxHeartbeats 1000000 in
theorem K_image {c : Nat} {M : Mm_} (hI : INV c M) {U K : Mm_} (hx : ∀ i, i < 30 ∨ 48 ≤ i → U.1 i = (mU (mAll M 8 19) 0 5 1).1 i) (hi : imgP U K) : INV (c) K := by
  obtain ⟨⟨hA1, hA2, hA3, hA4, hA5, hA6, hA7, hA8⟩, ⟨hB1, hB2, hB3, hB4, hB5, hB6, hB7, hB8, hB9⟩, hC1, hC2, ⟨hS1n, hS2n, hS3n, hS4n, hS5n, hS6n, hS7n⟩, hC4, hC5, hC6⟩ := id hI
  have hn := I_n hI
  skip
  have k2 : K.1 2 = M.1 2 := (hi.2.2.2.2.2.2.2.1 2 (by decide) (by decide)).trans ((hx 2 (by decide)).trans (by funext y; simp [mAll, mForces, mSeen, mU, mR]))
  have k4 : K.1 4 = M.1 4 := (hi.2.2.2.2.2.2.2.1 4 (by decide) (by decide)).trans ((hx 4 (by decide)).trans (by funext y; simp [mAll, mForces, mSeen, mU, mR]))
  have k5 : K.1 5 = M.1 5 := (hi.2.2.2.2.2.2.2.1 5 (by decide) (by decide)).trans ((hx 5 (by decide)).trans (by funext y; simp [mAll, mForces, mSeen, mU, mR]))
  have k6 : K.1 6 = M.1 6 := (hi.2.2.2.2.2.2.2.1 6 (by decide) (by decide)).trans ((hx 6 (by decide)).trans (by funext y; simp [mAll, mForces, mSeen, mU, mR]))
  have k7 : K.1 7 = M.1 7 := (hi.2.2.2.2.2.2.2.1 7 (by decide) (by decide)).trans ((hx 7 (by decide)).trans (by funext y; simp [mAll, mForces, mSeen, mU, mR]))
  have k9 : K.1 9 = M.1 9 := (hi.2.2.2.2.2.2.2.1 9 (by decide) (by decide)).trans ((hx 9 (by decide)).trans (by funext y; simp [mAll, mForces, mSeen, mU, mR]))
  have k10 : K.1 10 = M.1 10 := (hi.2.2.2.2.2.2.2.1 10 (by decide) (by decide)).trans ((hx 10 (by decide)).trans (by funext y; simp [mAll, mForces, mSeen, mU, mR]))
  have k11 : K.1 11 = M.1 11 := (hi.2.2.2.2.2.2.2.1 11 (by decide) (by decide)).trans ((hx 11 (by decide)).trans (by funext y; simp [mAll, mForces, mSeen, mU, mR]))
  have k12 : K.1 12 = M.1 12 := (hi.2.2.2.2.2.2.2.1 12 (by decide) (by decide)).trans ((hx 12 (by decide)).trans (by funext y; simp [mAll, mForces, mSeen, mU, mR]))
  have k13 : K.1 13 = M.1 13 := (hi.2.2.2.2.2.2.2.1 13 (by decide) (by decide)).trans ((hx 13 (by decide)).trans (by funext y; simp [mAll, mForces, mSeen, mU, mR]))
  have k14 : K.1 14 = M.1 14 := (hi.2.2.2.2.2.2.2.1 14 (by decide) (by decide)).trans ((hx 14 (by decide)).trans (by funext y; simp [mAll, mForces, mSeen, mU, mR]))
  have k16 : K.1 16 = M.1 16 := (hi.2.2.2.2.2.2.2.1 16 (by decide) (by decide)).trans ((hx 16 (by decide)).trans (by funext y; simp [mAll, mForces, mSeen, mU, mR]))
  have k17 : K.1 17 = M.1 17 := (hi.2.2.2.2.2.2.2.1 17 (by decide) (by decide)).trans ((hx 17 (by decide)).trans (by funext y; simp [mAll, mForces, mSeen, mU, mR]))
  have k18 : K.1 18 = M.1 18 := (hi.2.2.2.2.2.2.2.1 18 (by decide) (by decide)).trans ((hx 18 (by decide)).trans (by funext y; simp [mAll, mForces, mSeen, mU, mR]))
  have k20 : K.1 20 = M.1 9 := (hi.2.2.2.2.2.2.2.1 20 (by decide) (by decide)).trans ((hx 20 (by decide)).trans (by funext y; simp [mAll, mForces, mSeen, mU, mR]))
  have k21 : K.1 21 = M.1 10 := (hi.2.2.2.2.2.2.2.1 21 (by decide) (by decide)).trans ((hx 21 (by decide)).trans (by funext y; simp [mAll, mForces, mSeen, mU, mR]))
  have k22 : K.1 22 = M.1 11 := (hi.2.2.2.2.2.2.2.1 22 (by decide) (by decide)).trans ((hx 22 (by decide)).trans (by funext y; simp [mAll, mForces, mSeen, mU, mR]))
  have k23 : K.1 23 = M.1 12 := (hi.2.2.2.2.2.2.2.1 23 (by decide) (by decide)).trans ((hx 23 (by decide)).trans (by funext y; simp [mAll, mForces, mSeen, mU, mR]))
  have k24 : K.1 24 = M.1 13 := (hi.2.2.2.2.2.2.2.1 24 (by decide) (by decide)).trans ((hx 24 (by decide)).trans (by funext y; simp [mAll, mForces, mSeen, mU, mR]))
  have k25 : K.1 25 = M.1 14 := (hi.2.2.2.2.2.2.2.1 25 (by decide) (by decide)).trans ((hx 25 (by decide)).trans (by funext y; simp [mAll, mForces, mSeen, mU, mR]))
  have k27 : K.1 27 = M.1 16 := (hi.2.2.2.2.2.2.2.1 27 (by decide) (by decide)).trans ((hx 27 (by decide)).trans (by funext y; simp [mAll, mForces, mSeen, mU, mR]))
  have k28 : K.1 28 = M.1 17 := (hi.2.2.2.2.2.2.2.1 28 (by decide) (by decide)).trans ((hx 28 (by decide)).trans (by funext y; simp [mAll, mForces, mSeen, mU, mR]))
  have k29 : K.1 29 = M.1 18 := (hi.2.2.2.2.2.2.2.1 29 (by decide) (by decide)).trans ((hx 29 (by decide)).trans (by funext y; simp [mAll, mForces, mSeen, mU, mR]))
  have k49 : K.1 49 = M.1 49 := (hi.2.2.2.2.2.2.2.1 49 (by decide) (by decide)).trans ((hx 49 (by decide)).trans (by funext y; simp [mAll, mForces, mSeen, mU, mR]))
  have k50 : K.1 50 = M.1 50 := (hi.2.2.2.2.2.2.2.1 50 (by decide) (by decide)).trans ((hx 50 (by decide)).trans (by funext y; simp [mAll, mForces, mSeen, mU, mR]))
  have k51 : K.1 51 = M.1 51 := (hi.2.2.2.2.2.2.2.1 51 (by decide) (by decide)).trans ((hx 51 (by decide)).trans (by funext y; simp [mAll, mForces, mSeen, mU, mR]))
  have k52 : K.1 52 = M.1 52 := (hi.2.2.2.2.2.2.2.1 52 (by decide) (by decide)).trans ((hx 52 (by decide)).trans (by funext y; simp [mAll, mForces, mSeen, mU, mR]))
  have k53 : K.1 53 = M.1 53 := (hi.2.2.2.2.2.2.2.1 53 (by decide) (by decide)).trans ((hx 53 (by decide)).trans (by funext y; simp [mAll, mForces, mSeen, mU, mR]))
  have k54 : K.1 54 = M.1 54 := (hi.2.2.2.2.2.2.2.1 54 (by decide) (by decide)).trans ((hx 54 (by decide)).trans (by funext y; simp [mAll, mForces, mSeen, mU, mR]))
  have k55 : K.1 55 = M.1 55 := (hi.2.2.2.2.2.2.2.1 55 (by decide) (by decide)).trans ((hx 55 (by decide)).trans (by funext y; simp [mAll, mForces, mSeen, mU, mR]))
  have k56 : K.1 56 = M.1 56 := (hi.2.2.2.2.2.2.2.1 56 (by decide) (by decide)).trans ((hx 56 (by decide)).trans (by funext y; simp [mAll, mForces, mSeen, mU, mR]))
  have k60 : K.1 60 = M.1 60 := (hi.2.2.2.2.2.2.2.1 60 (by decide) (by decide)).trans ((hx 60 (by decide)).trans (by funext y; simp [mAll, mForces, mSeen, mU, mR]))
  have k62 : K.1 62 = M.1 50 := (hi.1).trans ((hx 50 (by decide)).trans (by funext y; simp [mAll, mForces, mSeen, mU, mR]))
  have k63 : K.1 63 = M.1 51 := (hi.2.1).trans ((hx 51 (by decide)).trans (by funext y; simp [mAll, mForces, mSeen, mU, mR]))
  have k64 : K.1 64 = M.1 52 := (hi.2.2.1).trans ((hx 52 (by decide)).trans (by funext y; simp [mAll, mForces, mSeen, mU, mR]))
  have k65 : K.1 65 = M.1 54 := (hi.2.2.2.1).trans ((hx 54 (by decide)).trans (by funext y; simp [mAll, mForces, mSeen, mU, mR]))
  have k66 : K.1 66 = M.1 55 := (hi.2.2.2.2.1).trans ((hx 55 (by decide)).trans (by funext y; simp [mAll, mForces, mSeen, mU, mR]))
  have k67 : K.1 67 = M.1 56 := (hi.2.2.2.2.2.1).trans ((hx 56 (by decide)).trans (by funext y; simp [mAll, mForces, mSeen, mU, mR]))
  have k68 : K.1 68 = M.1 60 := (hi.2.2.2.2.2.2.1).trans ((hx 60 (by decide)).trans (by funext y; simp [mAll, mForces, mSeen, mU, mR]))
  have k0_5 : K.1 0 5 = 1 := (congrFun ((hi.2.2.2.2.2.2.2.1 0 (by decide) (by decide)).trans (hx 0 (by decide))) 5).trans (by simp [mAll, mForces, mSeen, mU, mR])
  have k0_6 : K.1 0 6 = M.1 0 6 := (congrFun ((hi.2.2.2.2.2.2.2.1 0 (by decide) (by decide)).trans (hx 0 (by decide))) 6).trans (by simp [mAll, mForces, mSeen, mU, mR])
  have k0_7 : K.1 0 7 = M.1 0 7 := (congrFun ((hi.2.2.2.2.2.2.2.1 0 (by decide) (by decide)).trans (hx 0 (by decide))) 7).trans (by simp [mAll, mForces, mSeen, mU, mR])
  have k0_8 : K.1 0 8 = M.1 0 8 := (congrFun ((hi.2.2.2.2.2.2.2.1 0 (by decide) (by decide)).trans (hx 0 (by decide))) 8).trans (by simp [mAll, mForces, mSeen, mU, mR])
  have k1_1 : K.1 1 1 = M.1 1 1 := (congrFun ((hi.2.2.2.2.2.2.2.1 1 (by decide) (by decide)).trans (hx 1 (by decide))) 1).trans (by simp [mAll, mForces, mSeen, mU, mR])
  have k3_4 : K.1 3 4 = M.1 3 4 := (congrFun ((hi.2.2.2.2.2.2.2.1 3 (by decide) (by decide)).trans (hx 3 (by decide))) 4).trans (by simp [mAll, mForces, mSeen, mU, mR])
  have k3_5 : K.1 3 5 = M.1 3 5 := (congrFun ((hi.2.2.2.2.2.2.2.1 3 (by decide) (by decide)).trans (hx 3 (by decide))) 5).trans (by simp [mAll, mForces, mSeen, mU, mR])
  have k8_7 : K.1 8 7 = M.1 8 7 := (congrFun ((hi.2.2.2.2.2.2.2.1 8 (by decide) (by decide)).trans (hx 8 (by decide))) 7).trans (by simp [mAll, mForces, mSeen, mU, mR])
  have k8_8 : K.1 8 8 = M.1 8 8 := (congrFun ((hi.2.2.2.2.2.2.2.1 8 (by decide) (by decide)).trans (hx 8 (by decide))) 8).trans (by simp [mAll, mForces, mSeen, mU, mR])
  have k8_9 : K.1 8 9 = M.1 8 9 := (congrFun ((hi.2.2.2.2.2.2.2.1 8 (by decide) (by decide)).trans (hx 8 (by decide))) 9).trans (by simp [mAll, mForces, mSeen, mU, mR])
  have k8_10 : K.1 8 10 = M.1 8 10 := (congrFun ((hi.2.2.2.2.2.2.2.1 8 (by decide) (by decide)).trans (hx 8 (by decide))) 10).trans (by simp [mAll, mForces, mSeen, mU, mR])
  have k15_3 : K.1 15 3 = M.1 15 3 := (congrFun ((hi.2.2.2.2.2.2.2.1 15 (by decide) (by decide)).trans (hx 15 (by decide))) 3).trans (by simp [mAll, mForces, mSeen, mU, mR])
  have k19_7 : K.1 19 7 = M.1 8 7 := (congrFun ((hi.2.2.2.2.2.2.2.1 19 (by decide) (by decide)).trans (hx 19 (by decide))) 7).trans (by simp [mAll, mForces, mSeen, mU, mR])
  have k19_8 : K.1 19 8 = M.1 8 8 := (congrFun ((hi.2.2.2.2.2.2.2.1 19 (by decide) (by decide)).trans (hx 19 (by decide))) 8).trans (by simp [mAll, mForces, mSeen, mU, mR])
  have k19_9 : K.1 19 9 = M.1 8 9 := (congrFun ((hi.2.2.2.2.2.2.2.1 19 (by decide) (by decide)).trans (hx 19 (by decide))) 9).trans (by simp [mAll, mForces, mSeen, mU, mR])
  have k19_10 : K.1 19 10 = M.1 8 10 := (congrFun ((hi.2.2.2.2.2.2.2.1 19 (by decide) (by decide)).trans (hx 19 (by decide))) 10).trans (by simp [mAll, mForces, mSeen, mU, mR])
  have k26_3 : K.1 26 3 = M.1 15 3 := (congrFun ((hi.2.2.2.2.2.2.2.1 26 (by decide) (by decide)).trans (hx 26 (by decide))) 3).trans (by simp [mAll, mForces, mSeen, mU, mR])
  have k48_1 : K.1 48 1 = M.1 48 1 := by rw [hi.2.2.2.2.2.2.2.2 1, hx 48 (by decide)]; simp [mAll, mForces, mSeen, mU, mR]
  have k48_3 : K.1 48 3 = M.1 48 3 := by rw [hi.2.2.2.2.2.2.2.2 3, hx 48 (by decide)]; simp [mAll, mForces, mSeen, mU, mR]
  have k48_4 : K.1 48 4 = M.1 48 4 := by rw [hi.2.2.2.2.2.2.2.2 4, hx 48 (by decide)]; simp [mAll, mForces, mSeen, mU, mR]
  have k48_5 : K.1 48 5 = M.1 48 5 := by rw [hi.2.2.2.2.2.2.2.2 5, hx 48 (by decide)]; simp [mAll, mForces, mSeen, mU, mR]
  have k48_6 : K.1 48 6 = M.1 48 6 := by rw [hi.2.2.2.2.2.2.2.2 6, hx 48 (by decide)]; simp [mAll, mForces, mSeen, mU, mR]
  have k48_7 : K.1 48 7 = M.1 48 7 := by rw [hi.2.2.2.2.2.2.2.2 7, hx 48 (by decide)]; simp [mAll, mForces, mSeen, mU, mR]
  have k48_8 : K.1 48 8 = M.1 48 8 := by rw [hi.2.2.2.2.2.2.2.2 8, hx 48 (by decide)]; simp [mAll, mForces, mSeen, mU, mR]
  have k48_9 : K.1 48 9 = M.1 48 9 := by rw [hi.2.2.2.2.2.2.2.2 9, hx 48 (by decide)]; simp [mAll, mForces, mSeen, mU, mR]
  have k48_18 : K.1 48 18 = M.1 48 18 := by rw [hi.2.2.2.2.2.2.2.2 18, hx 48 (by decide)]; simp [mAll, mForces, mSeen, mU, mR]
  have k48_21 : K.1 48 21 = M.1 48 21 := by rw [hi.2.2.2.2.2.2.2.2 21, hx 48 (by decide)]; simp [mAll, mForces, mSeen, mU, mR]
  have k48_22 : K.1 48 22 = M.1 48 22 := by rw [hi.2.2.2.2.2.2.2.2 22, hx 48 (by decide)]; simp [mAll, mForces, mSeen, mU, mR]
  have k48_26 : K.1 48 26 = M.1 48 9 := by rw [hi.2.2.2.2.2.2.2.2 26, hx 48 (by decide)]; simp [mAll, mForces, mSeen, mU, mR]
  have k48_27 : K.1 48 27 = M.1 48 5 := by rw [hi.2.2.2.2.2.2.2.2 27, hx 48 (by decide)]; simp [mAll, mForces, mSeen, mU, mR]
  have k48_28 : K.1 48 28 = M.1 48 6 := by rw [hi.2.2.2.2.2.2.2.2 28, hx 48 (by decide)]; simp [mAll, mForces, mSeen, mU, mR]
  have k48_29 : K.1 48 29 = M.1 48 7 := by rw [hi.2.2.2.2.2.2.2.2 29, hx 48 (by decide)]; simp [mAll, mForces, mSeen, mU, mR]
  have k48_30 : K.1 48 30 = M.1 48 8 := by rw [hi.2.2.2.2.2.2.2.2 30, hx 48 (by decide)]; simp [mAll, mForces, mSeen, mU, mR]
  have k48_31 : K.1 48 31 = M.1 48 22 := by rw [hi.2.2.2.2.2.2.2.2 31, hx 48 (by decide)]; simp [mAll, mForces, mSeen, mU, mR]
  have jA1 : A1 K := by
    unfold A1 oP
    simp only [k1_1, k2]
    exact hA1
  have jA2 : A2 K := by
    unfold A2 oV
    simp only [k3_4, k3_5, k4, k5, k6, k7]
    exact hA2
  have jA3 : A3 K := by
    unfold A3 oF
    simp only [k9, k10, k8_7, k13, k14]
    exact hA3
  have jA4 : A4 K := by
    unfold A4
    simp only [k12]
    exact hA4
  have jA5 : A5 K := by
    unfold A5
    simp only [k8_8, k3_5]
    exact hA5
  have jA6 : A6 K := by
    unfold A6
    simp only [k8_9]
    exact hA6
  have jA7 : A7 K := by
    unfold A7
    simp only [k15_3, k16, k17, k18]
    exact hA7
  have jA8 : A8 K := by
    unfold A8
    simp only [k0_7, k0_8, k0_5]
    exact ⟨hA8.1, hA8.2.1, Or.inr trivial⟩
  have jB1 : B1 K := by
    unfold B1 oMp
    simp only [k48_1, k49]
    exact hB1
  have jB2 : B2 K := by
    unfold B2 oMv
    simp only [k48_3, k48_4]
    exact hB2
  have jB3 : B3 K := by
    unfold B3 oMr
    simp only [k50]
    exact hB3
  have jB4 : B4 K := by
    unfold B4 oMf
    simp only [k51, k48_8, k56, k53]
    exact hB4
  have jB5 : B5 K := by
    unfold B5 oMg
    simp only [k52]
    exact hB5
  have jB6 : B6 K := by
    unfold B6 oMs
    simp only [k48_22, k60]
    exact hB6
  have jB7 : B7 K := by
    unfold B7
    simp only [k55]
    exact hB7
  have jB8 : B8 K := by
    unfold B8
    simp only [k54]
    exact hB8
  have jB9 : B9 K := by
    unfold B9
    simp only [k48_5]
    exact hB9
  have jC1 : C1 K := by
    unfold C1
    simp only [k48_1, k1_1, k49, k2]
    exact hC1
  have jC2 : C2 K := by
    unfold C2
    simp only [k48_3, k3_4, k48_4, k3_5, k50, k4, k5, k6, k53, k7]
    exact hC2
  have jS1n : S1n K := by
    unfold S1n
    simp only [k3_4, k50, k11, k51, k10, k52, k9]
    exact hS1n
  have jS2n : S2n K := by
    unfold S2n
    simp only [k3_4, k9, k11]
    exact hS2n
  have jS3n : S3n K := by
    unfold S3n
    simp only [k55, k12]
    exact hS3n
  have jS4n : S4n K := by
    unfold S4n
    simp only [k3_5, k54, k8_8]
    exact hS4n
  have jS5n : S5n K := by
    unfold S5n
    simp only [k56, k13, k14, k48_8, k8_7]
    exact hS5n
  have jS6n : S6n K := by
    unfold S6n
    simp only [k60, k16, k17, k18, k48_22, k15_3]
    exact hS6n
  have jS7n : S7n K := by
    unfold S7n
    simp only [k48_5, k8_9, k48_6, k11, k48_7, k8_10]
    exact hS7n
  have jC4 : C4 K := by
    unfold C4
    simp only [k48_9, k0_6, k48_18, k0_7, k48_21, k0_8]
    exact hC4
  have jC5 : C5 (c) K := by
    unfold C5
    simp only [k48_26, k48_9, k0_5]
    have h5 := hC5
    unfold C5 at h5
    exact ⟨by omega, by omega, by omega, by omega, by simp⟩
  have jC6 : C6 K := by
    unfold C6 KP S1k S2k S3k S4k S5k S6k S7k oF
    simp only [k0_5, k50, k3_4, k3_5, k20, k21, k22, k23, k24, k25, k27, k28, k29, k19_7, k19_8, k19_9, k19_10, k26_3, k62, k63, k64, k65, k66, k67, k68, k48_27, k48_28, k48_29, k48_30, k48_31]
    intro _
    exact ⟨⟨fun i => ⟨trivial, trivial⟩, hS1n, hS2n, hS3n, hS4n, hS5n, hS6n, hS7n⟩, ⟨hA3, hA4, hA5, hA6, hA7⟩, hB4.1, hB5, hB8⟩
  exact ⟨⟨jA1, jA2, jA3, jA4, jA5, jA6, jA7, jA8⟩, ⟨jB1, jB2, jB3, jB4, jB5, jB6, jB7, jB8, jB9⟩, jC1, jC2, ⟨jS1n, jS2n, jS3n, jS4n, jS5n, jS6n, jS7n⟩, jC4, jC5, jC6⟩
set_option maxRecDepth 10000 in
set_option maxHeartbeats 1000000 in
theorem K_restore {c : Nat} {M : Mm_} (hI : INV c M) (h5 : M.1 0 5 = 1) {U K : Mm_} (hx : ∀ i, i < 30 ∨ 48 ≤ i → U.1 i = (mAll M 19 8).1 i) (hi : resP U K) : INV (c) K := by
  obtain ⟨⟨hA1, hA2, hA3, hA4, hA5, hA6, hA7, hA8⟩, ⟨hB1, hB2, hB3, hB4, hB5, hB6, hB7, hB8, hB9⟩, hC1, hC2, ⟨hS1n, hS2n, hS3n, hS4n, hS5n, hS6n, hS7n⟩, hC4, hC5, hC6⟩ := id hI
  have hn := I_n hI
  obtain ⟨⟨hr, kS1, kS2, kS3, kS4, kS5, kS6, kS7⟩, ⟨kF, kB, kSB, kN, kSn⟩, k63_, k64_, k65_⟩ := hC6 h5
  skip
  have k2 : K.1 2 = M.1 2 := (hi.2.2.2.2.2.2.2.1 2 (by decide) (by decide)).trans ((hx 2 (by decide)).trans (by funext y; simp [mAll, mForces, mSeen, mU, mR]))
  have k4 : K.1 4 = M.1 4 := (hi.2.2.2.2.2.2.2.1 4 (by decide) (by decide)).trans ((hx 4 (by decide)).trans (by funext y; simp [mAll, mForces, mSeen, mU, mR]))
  have k5 : K.1 5 = M.1 5 := (hi.2.2.2.2.2.2.2.1 5 (by decide) (by decide)).trans ((hx 5 (by decide)).trans (by funext y; simp [mAll, mForces, mSeen, mU, mR]))
  have k6 : K.1 6 = M.1 6 := (hi.2.2.2.2.2.2.2.1 6 (by decide) (by decide)).trans ((hx 6 (by decide)).trans (by funext y; simp [mAll, mForces, mSeen, mU, mR]))
  have k7 : K.1 7 = M.1 7 := (hi.2.2.2.2.2.2.2.1 7 (by decide) (by decide)).trans ((hx 7 (by decide)).trans (by funext y; simp [mAll, mForces, mSeen, mU, mR]))
  have k9 : K.1 9 = M.1 20 := (hi.2.2.2.2.2.2.2.1 9 (by decide) (by decide)).trans ((hx 9 (by decide)).trans (by funext y; simp [mAll, mForces, mSeen, mU, mR]))
  have k10 : K.1 10 = M.1 21 := (hi.2.2.2.2.2.2.2.1 10 (by decide) (by decide)).trans ((hx 10 (by decide)).trans (by funext y; simp [mAll, mForces, mSeen, mU, mR]))
  have k11 : K.1 11 = M.1 22 := (hi.2.2.2.2.2.2.2.1 11 (by decide) (by decide)).trans ((hx 11 (by decide)).trans (by funext y; simp [mAll, mForces, mSeen, mU, mR]))
  have k12 : K.1 12 = M.1 23 := (hi.2.2.2.2.2.2.2.1 12 (by decide) (by decide)).trans ((hx 12 (by decide)).trans (by funext y; simp [mAll, mForces, mSeen, mU, mR]))
  have k13 : K.1 13 = M.1 24 := (hi.2.2.2.2.2.2.2.1 13 (by decide) (by decide)).trans ((hx 13 (by decide)).trans (by funext y; simp [mAll, mForces, mSeen, mU, mR]))
  have k14 : K.1 14 = M.1 25 := (hi.2.2.2.2.2.2.2.1 14 (by decide) (by decide)).trans ((hx 14 (by decide)).trans (by funext y; simp [mAll, mForces, mSeen, mU, mR]))
  have k16 : K.1 16 = M.1 27 := (hi.2.2.2.2.2.2.2.1 16 (by decide) (by decide)).trans ((hx 16 (by decide)).trans (by funext y; simp [mAll, mForces, mSeen, mU, mR]))
  have k17 : K.1 17 = M.1 28 := (hi.2.2.2.2.2.2.2.1 17 (by decide) (by decide)).trans ((hx 17 (by decide)).trans (by funext y; simp [mAll, mForces, mSeen, mU, mR]))
  have k18 : K.1 18 = M.1 29 := (hi.2.2.2.2.2.2.2.1 18 (by decide) (by decide)).trans ((hx 18 (by decide)).trans (by funext y; simp [mAll, mForces, mSeen, mU, mR]))
  have k20 : K.1 20 = M.1 20 := (hi.2.2.2.2.2.2.2.1 20 (by decide) (by decide)).trans ((hx 20 (by decide)).trans (by funext y; simp [mAll, mForces, mSeen, mU, mR]))
  have k21 : K.1 21 = M.1 21 := (hi.2.2.2.2.2.2.2.1 21 (by decide) (by decide)).trans ((hx 21 (by decide)).trans (by funext y; simp [mAll, mForces, mSeen, mU, mR]))
  have k22 : K.1 22 = M.1 22 := (hi.2.2.2.2.2.2.2.1 22 (by decide) (by decide)).trans ((hx 22 (by decide)).trans (by funext y; simp [mAll, mForces, mSeen, mU, mR]))
  have k23 : K.1 23 = M.1 23 := (hi.2.2.2.2.2.2.2.1 23 (by decide) (by decide)).trans ((hx 23 (by decide)).trans (by funext y; simp [mAll, mForces, mSeen, mU, mR]))
  have k24 : K.1 24 = M.1 24 := (hi.2.2.2.2.2.2.2.1 24 (by decide) (by decide)).trans ((hx 24 (by decide)).trans (by funext y; simp [mAll, mForces, mSeen, mU, mR]))
  have k25 : K.1 25 = M.1 25 := (hi.2.2.2.2.2.2.2.1 25 (by decide) (by decide)).trans ((hx 25 (by decide)).trans (by funext y; simp [mAll, mForces, mSeen, mU, mR]))
  have k27 : K.1 27 = M.1 27 := (hi.2.2.2.2.2.2.2.1 27 (by decide) (by decide)).trans ((hx 27 (by decide)).trans (by funext y; simp [mAll, mForces, mSeen, mU, mR]))
  have k28 : K.1 28 = M.1 28 := (hi.2.2.2.2.2.2.2.1 28 (by decide) (by decide)).trans ((hx 28 (by decide)).trans (by funext y; simp [mAll, mForces, mSeen, mU, mR]))
  have k29 : K.1 29 = M.1 29 := (hi.2.2.2.2.2.2.2.1 29 (by decide) (by decide)).trans ((hx 29 (by decide)).trans (by funext y; simp [mAll, mForces, mSeen, mU, mR]))
  have k49 : K.1 49 = M.1 49 := (hi.2.2.2.2.2.2.2.1 49 (by decide) (by decide)).trans ((hx 49 (by decide)).trans (by funext y; simp [mAll, mForces, mSeen, mU, mR]))
  have k50 : K.1 50 = M.1 62 := (hi.1).trans ((hx 62 (by decide)).trans (by funext y; simp [mAll, mForces, mSeen, mU, mR]))
  have k51 : K.1 51 = M.1 63 := (hi.2.1).trans ((hx 63 (by decide)).trans (by funext y; simp [mAll, mForces, mSeen, mU, mR]))
  have k52 : K.1 52 = M.1 64 := (hi.2.2.1).trans ((hx 64 (by decide)).trans (by funext y; simp [mAll, mForces, mSeen, mU, mR]))
  have k53 : K.1 53 = M.1 53 := (hi.2.2.2.2.2.2.2.1 53 (by decide) (by decide)).trans ((hx 53 (by decide)).trans (by funext y; simp [mAll, mForces, mSeen, mU, mR]))
  have k54 : K.1 54 = M.1 65 := (hi.2.2.2.1).trans ((hx 65 (by decide)).trans (by funext y; simp [mAll, mForces, mSeen, mU, mR]))
  have k55 : K.1 55 = M.1 66 := (hi.2.2.2.2.1).trans ((hx 66 (by decide)).trans (by funext y; simp [mAll, mForces, mSeen, mU, mR]))
  have k56 : K.1 56 = M.1 67 := (hi.2.2.2.2.2.1).trans ((hx 67 (by decide)).trans (by funext y; simp [mAll, mForces, mSeen, mU, mR]))
  have k60 : K.1 60 = M.1 68 := (hi.2.2.2.2.2.2.1).trans ((hx 68 (by decide)).trans (by funext y; simp [mAll, mForces, mSeen, mU, mR]))
  have k62 : K.1 62 = M.1 62 := (hi.2.2.2.2.2.2.2.1 62 (by decide) (by decide)).trans ((hx 62 (by decide)).trans (by funext y; simp [mAll, mForces, mSeen, mU, mR]))
  have k63 : K.1 63 = M.1 63 := (hi.2.2.2.2.2.2.2.1 63 (by decide) (by decide)).trans ((hx 63 (by decide)).trans (by funext y; simp [mAll, mForces, mSeen, mU, mR]))
  have k64 : K.1 64 = M.1 64 := (hi.2.2.2.2.2.2.2.1 64 (by decide) (by decide)).trans ((hx 64 (by decide)).trans (by funext y; simp [mAll, mForces, mSeen, mU, mR]))
  have k65 : K.1 65 = M.1 65 := (hi.2.2.2.2.2.2.2.1 65 (by decide) (by decide)).trans ((hx 65 (by decide)).trans (by funext y; simp [mAll, mForces, mSeen, mU, mR]))
  have k66 : K.1 66 = M.1 66 := (hi.2.2.2.2.2.2.2.1 66 (by decide) (by decide)).trans ((hx 66 (by decide)).trans (by funext y; simp [mAll, mForces, mSeen, mU, mR]))
  have k67 : K.1 67 = M.1 67 := (hi.2.2.2.2.2.2.2.1 67 (by decide) (by decide)).trans ((hx 67 (by decide)).trans (by funext y; simp [mAll, mForces, mSeen, mU, mR]))
  have k68 : K.1 68 = M.1 68 := (hi.2.2.2.2.2.2.2.1 68 (by decide) (by decide)).trans ((hx 68 (by decide)).trans (by funext y; simp [mAll, mForces, mSeen, mU, mR]))
  have k0_5 : K.1 0 5 = M.1 0 5 := (congrFun ((hi.2.2.2.2.2.2.2.1 0 (by decide) (by decide)).trans (hx 0 (by decide))) 5).trans (by simp [mAll, mForces, mSeen, mU, mR])
  have k0_6 : K.1 0 6 = M.1 0 6 := (congrFun ((hi.2.2.2.2.2.2.2.1 0 (by decide) (by decide)).trans (hx 0 (by decide))) 6).trans (by simp [mAll, mForces, mSeen, mU, mR])
  have k0_7 : K.1 0 7 = M.1 0 7 := (congrFun ((hi.2.2.2.2.2.2.2.1 0 (by decide) (by decide)).trans (hx 0 (by decide))) 7).trans (by simp [mAll, mForces, mSeen, mU, mR])
  have k0_8 : K.1 0 8 = M.1 0 8 := (congrFun ((hi.2.2.2.2.2.2.2.1 0 (by decide) (by decide)).trans (hx 0 (by decide))) 8).trans (by simp [mAll, mForces, mSeen, mU, mR])
  have k1_1 : K.1 1 1 = M.1 1 1 := (congrFun ((hi.2.2.2.2.2.2.2.1 1 (by decide) (by decide)).trans (hx 1 (by decide))) 1).trans (by simp [mAll, mForces, mSeen, mU, mR])
  have k3_4 : K.1 3 4 = M.1 3 4 := (congrFun ((hi.2.2.2.2.2.2.2.1 3 (by decide) (by decide)).trans (hx 3 (by decide))) 4).trans (by simp [mAll, mForces, mSeen, mU, mR])
  have k3_5 : K.1 3 5 = M.1 3 5 := (congrFun ((hi.2.2.2.2.2.2.2.1 3 (by decide) (by decide)).trans (hx 3 (by decide))) 5).trans (by simp [mAll, mForces, mSeen, mU, mR])
  have k8_7 : K.1 8 7 = M.1 19 7 := (congrFun ((hi.2.2.2.2.2.2.2.1 8 (by decide) (by decide)).trans (hx 8 (by decide))) 7).trans (by simp [mAll, mForces, mSeen, mU, mR])
  have k8_8 : K.1 8 8 = M.1 19 8 := (congrFun ((hi.2.2.2.2.2.2.2.1 8 (by decide) (by decide)).trans (hx 8 (by decide))) 8).trans (by simp [mAll, mForces, mSeen, mU, mR])
  have k8_9 : K.1 8 9 = M.1 19 9 := (congrFun ((hi.2.2.2.2.2.2.2.1 8 (by decide) (by decide)).trans (hx 8 (by decide))) 9).trans (by simp [mAll, mForces, mSeen, mU, mR])
  have k8_10 : K.1 8 10 = M.1 19 10 := (congrFun ((hi.2.2.2.2.2.2.2.1 8 (by decide) (by decide)).trans (hx 8 (by decide))) 10).trans (by simp [mAll, mForces, mSeen, mU, mR])
  have k15_3 : K.1 15 3 = M.1 26 3 := (congrFun ((hi.2.2.2.2.2.2.2.1 15 (by decide) (by decide)).trans (hx 15 (by decide))) 3).trans (by simp [mAll, mForces, mSeen, mU, mR])
  have k19_7 : K.1 19 7 = M.1 19 7 := (congrFun ((hi.2.2.2.2.2.2.2.1 19 (by decide) (by decide)).trans (hx 19 (by decide))) 7).trans (by simp [mAll, mForces, mSeen, mU, mR])
  have k19_8 : K.1 19 8 = M.1 19 8 := (congrFun ((hi.2.2.2.2.2.2.2.1 19 (by decide) (by decide)).trans (hx 19 (by decide))) 8).trans (by simp [mAll, mForces, mSeen, mU, mR])
  have k19_9 : K.1 19 9 = M.1 19 9 := (congrFun ((hi.2.2.2.2.2.2.2.1 19 (by decide) (by decide)).trans (hx 19 (by decide))) 9).trans (by simp [mAll, mForces, mSeen, mU, mR])
  have k19_10 : K.1 19 10 = M.1 19 10 := (congrFun ((hi.2.2.2.2.2.2.2.1 19 (by decide) (by decide)).trans (hx 19 (by decide))) 10).trans (by simp [mAll, mForces, mSeen, mU, mR])
  have k26_3 : K.1 26 3 = M.1 26 3 := (congrFun ((hi.2.2.2.2.2.2.2.1 26 (by decide) (by decide)).trans (hx 26 (by decide))) 3).trans (by simp [mAll, mForces, mSeen, mU, mR])
  have k48_1 : K.1 48 1 = M.1 48 1 := by rw [hi.2.2.2.2.2.2.2.2 1, hx 48 (by decide)]; simp [mAll, mForces, mSeen, mU, mR]
  have k48_3 : K.1 48 3 = M.1 48 3 := by rw [hi.2.2.2.2.2.2.2.2 3, hx 48 (by decide)]; simp [mAll, mForces, mSeen, mU, mR]
  have k48_4 : K.1 48 4 = M.1 48 4 := by rw [hi.2.2.2.2.2.2.2.2 4, hx 48 (by decide)]; simp [mAll, mForces, mSeen, mU, mR]
  have k48_5 : K.1 48 5 = M.1 48 27 := by rw [hi.2.2.2.2.2.2.2.2 5, hx 48 (by decide)]; simp [mAll, mForces, mSeen, mU, mR]
  have k48_6 : K.1 48 6 = M.1 48 28 := by rw [hi.2.2.2.2.2.2.2.2 6, hx 48 (by decide)]; simp [mAll, mForces, mSeen, mU, mR]
  have k48_7 : K.1 48 7 = M.1 48 29 := by rw [hi.2.2.2.2.2.2.2.2 7, hx 48 (by decide)]; simp [mAll, mForces, mSeen, mU, mR]
  have k48_8 : K.1 48 8 = M.1 48 30 := by rw [hi.2.2.2.2.2.2.2.2 8, hx 48 (by decide)]; simp [mAll, mForces, mSeen, mU, mR]
  have k48_9 : K.1 48 9 = M.1 48 9 := by rw [hi.2.2.2.2.2.2.2.2 9, hx 48 (by decide)]; simp [mAll, mForces, mSeen, mU, mR]
  have k48_18 : K.1 48 18 = M.1 48 18 := by rw [hi.2.2.2.2.2.2.2.2 18, hx 48 (by decide)]; simp [mAll, mForces, mSeen, mU, mR]
  have k48_21 : K.1 48 21 = M.1 48 21 := by rw [hi.2.2.2.2.2.2.2.2 21, hx 48 (by decide)]; simp [mAll, mForces, mSeen, mU, mR]
  have k48_22 : K.1 48 22 = M.1 48 31 := by rw [hi.2.2.2.2.2.2.2.2 22, hx 48 (by decide)]; simp [mAll, mForces, mSeen, mU, mR]
  have k48_26 : K.1 48 26 = M.1 48 26 := by rw [hi.2.2.2.2.2.2.2.2 26, hx 48 (by decide)]; simp [mAll, mForces, mSeen, mU, mR]
  have k48_27 : K.1 48 27 = M.1 48 27 := by rw [hi.2.2.2.2.2.2.2.2 27, hx 48 (by decide)]; simp [mAll, mForces, mSeen, mU, mR]
  have k48_28 : K.1 48 28 = M.1 48 28 := by rw [hi.2.2.2.2.2.2.2.2 28, hx 48 (by decide)]; simp [mAll, mForces, mSeen, mU, mR]
  have k48_29 : K.1 48 29 = M.1 48 29 := by rw [hi.2.2.2.2.2.2.2.2 29, hx 48 (by decide)]; simp [mAll, mForces, mSeen, mU, mR]
  have k48_30 : K.1 48 30 = M.1 48 30 := by rw [hi.2.2.2.2.2.2.2.2 30, hx 48 (by decide)]; simp [mAll, mForces, mSeen, mU, mR]
  have k48_31 : K.1 48 31 = M.1 48 31 := by rw [hi.2.2.2.2.2.2.2.2 31, hx 48 (by decide)]; simp [mAll, mForces, mSeen, mU, mR]
  have jA1 : A1 K := by
    unfold A1 oP
    simp only [k1_1, k2]
    exact hA1
  have jA2 : A2 K := by
    unfold A2 oV
    simp only [k3_4, k3_5, k4, k5, k6, k7]
    exact hA2
  have jA3 : A3 K := by
    unfold A3 oF
    simp only [k9, k10, k8_7, k13, k14]
    exact kF
  have jA4 : A4 K := by
    unfold A4
    simp only [k12]
    exact kB
  have jA5 : A5 K := by
    unfold A5
    simp only [k8_8, k3_5]
    exact kSB
  have jA6 : A6 K := by
    unfold A6
    simp only [k8_9]
    exact kN
  have jA7 : A7 K := by
    unfold A7
    simp only [k15_3, k16, k17, k18]
    exact kSn
  have jA8 : A8 K := by
    unfold A8
    simp only [k0_7, k0_8, k0_5]
    exact hA8
  have jB1 : B1 K := by
    unfold B1 oMp
    simp only [k48_1, k49]
    exact hB1
  have jB2 : B2 K := by
    unfold B2 oMv
    simp only [k48_3, k48_4]
    exact hB2
  have jB3 : B3 K := by
    unfold B3 oMr
    simp only [k50]
    intro i hi
    rw [(hr i).1, (hr i).2]
    exact hB3 i hi
  have jB4 : B4 K := by
    unfold B4 oMf
    simp only [k51, k48_8, k56, k53]
    exact ⟨k63_, by rw [kS5.2]; exact kF.2.2.1, fun d hd => by rw [(kS5.1 d).1, (kS5.1 d).2]; exact ⟨kF.2.2.2.1 d hd, kF.2.2.2.2 d hd⟩, hB4.2.2.2⟩
  have jB5 : B5 K := by
    unfold B5 oMg
    simp only [k52]
    exact k64_
  have jB6 : B6 K := by
    unfold B6 oMs
    simp only [k48_22, k60]
    exact ⟨by rw [kS6.2]; exact kSn.1, fun i hi => by rw [(kS6.1 i).1, (kS6.1 i).2.1, (kS6.1 i).2.2]; exact ⟨kSn.2.1 i hi, kSn.2.2.1 i hi, kSn.2.2.2 i hi⟩⟩
  have jB7 : B7 K := by
    unfold B7
    simp only [k55]
    exact fun i hi => by rw [kS3 i hi]; exact kB i hi
  have jB8 : B8 K := by
    unfold B8
    simp only [k54]
    exact k65_
  have jB9 : B9 K := by
    unfold B9
    simp only [k48_5]
    rw [kS7.1]
    exact kN
  have jC1 : C1 K := by
    unfold C1
    simp only [k48_1, k1_1, k49, k2]
    exact hC1
  have jC2 : C2 K := by
    unfold C2
    simp only [k48_3, k3_4, k48_4, k3_5, k50, k4, k5, k6, k53, k7]
    exact ⟨hC2.1, hC2.2.1, fun i => by rw [(hr i).1]; exact hC2.2.2.1 i, fun i => by rw [(hr i).2]; exact hC2.2.2.2.1 i, fun i => by rw [(hr (i / 3)).1, (hr (i / 3)).2]; exact hC2.2.2.2.2.1 i, hC2.2.2.2.2.2⟩
  have jS1n : S1n K := by
    unfold S1n
    simp only [k3_4, k50, k11, k51, k10, k52, k9]
    exact kS1
  have jS2n : S2n K := by
    unfold S2n
    simp only [k3_4, k9, k11]
    exact kS2
  have jS3n : S3n K := by
    unfold S3n
    simp only [k55, k12]
    exact kS3
  have jS4n : S4n K := by
    unfold S4n
    simp only [k3_5, k54, k8_8]
    exact kS4
  have jS5n : S5n K := by
    unfold S5n
    simp only [k56, k13, k14, k48_8, k8_7]
    exact kS5
  have jS6n : S6n K := by
    unfold S6n
    simp only [k60, k16, k17, k18, k48_22, k15_3]
    exact kS6
  have jS7n : S7n K := by
    unfold S7n
    simp only [k48_5, k8_9, k48_6, k11, k48_7, k8_10]
    exact kS7
  have jC4 : C4 K := by
    unfold C4
    simp only [k48_9, k0_6, k48_18, k0_7, k48_21, k0_8]
    exact hC4
  have jC5 : C5 (c) K := by
    unfold C5
    simp only [k48_26, k48_9, k0_5]
    exact hC5
  have jC6 : C6 K := by
    unfold C6 KP S1k S2k S3k S4k S5k S6k S7k oF
    simp only [k0_5, k50, k3_4, k3_5, k20, k21, k22, k23, k24, k25, k27, k28, k29, k19_7, k19_8, k19_9, k19_10, k26_3, k62, k63, k64, k65, k66, k67, k68, k48_27, k48_28, k48_29, k48_30, k48_31]
    intro _
    exact ⟨⟨fun i => ⟨trivial, trivial⟩, kS1, kS2, kS3, kS4, kS5, kS6, kS7⟩, ⟨kF, kB, kSB, kN, kSn⟩, k63_, k64_, k65_⟩
  exact ⟨⟨jA1, jA2, jA3, jA4, jA5, jA6, jA7, jA8⟩, ⟨jB1, jB2, jB3, jB4, jB5, jB6, jB7, jB8, jB9⟩, jC1, jC2, ⟨jS1n, jS2n, jS3n, jS4n, jS5n, jS6n, jS7n⟩, jC4, jC5, jC6⟩
