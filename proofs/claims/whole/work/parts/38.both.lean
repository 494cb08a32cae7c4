def S1n (M : Mm_) : Prop := ∀ i : Nat, (i : Int) < M.1 3 4 → M.1 50 (3 * i + 2) = M.1 11 i ∧ M.1 51 i = M.1 10 i ∧ M.1 52 i = M.1 9 i
def S2n (M : Mm_) : Prop := ∀ i : Nat, M.1 3 4 ≤ (i : Int) → i < 4 → M.1 9 i = 0 ∧ M.1 11 i = 0
def S3n (M : Mm_) : Prop := ∀ i : Nat, i < 4 → M.1 55 i = M.1 12 i
def S4n (M : Mm_) : Prop := ∀ j : Nat, (j : Int) < M.1 3 5 → M.1 54 j = bt (M.1 8 8) j
def S5n (M : Mm_) : Prop := (∀ i : Nat, M.1 56 (2 * i) = M.1 13 i ∧ M.1 56 (2 * i + 1) = M.1 14 i) ∧ M.1 48 8 = M.1 8 7
def S6n (M : Mm_) : Prop := (∀ i : Nat, M.1 60 (3 * i) = M.1 16 i ∧ M.1 60 (3 * i + 1) = M.1 17 i ∧ M.1 60 (3 * i + 2) = M.1 18 i) ∧ M.1 48 22 = M.1 15 3
def S7n (M : Mm_) : Prop := M.1 48 5 = M.1 8 9 ∧ M.1 48 6 = sm (M.1 11) 4 ∧ M.1 48 7 = M.1 8 10
def S1k (M : Mm_) : Prop := ∀ i : Nat, (i : Int) < M.1 3 4 → M.1 62 (3 * i + 2) = M.1 22 i ∧ M.1 63 i = M.1 21 i ∧ M.1 64 i = M.1 20 i
def S2k (M : Mm_) : Prop := ∀ i : Nat, M.1 3 4 ≤ (i : Int) → i < 4 → M.1 20 i = 0 ∧ M.1 22 i = 0
def S3k (M : Mm_) : Prop := ∀ i : Nat, i < 4 → M.1 66 i = M.1 23 i
def S4k (M : Mm_) : Prop := ∀ j : Nat, (j : Int) < M.1 3 5 → M.1 65 j = bt (M.1 19 8) j
def S5k (M : Mm_) : Prop := (∀ i : Nat, M.1 67 (2 * i) = M.1 24 i ∧ M.1 67 (2 * i + 1) = M.1 25 i) ∧ M.1 48 30 = M.1 19 7
def S6k (M : Mm_) : Prop := (∀ i : Nat, M.1 68 (3 * i) = M.1 27 i ∧ M.1 68 (3 * i + 1) = M.1 28 i ∧ M.1 68 (3 * i + 2) = M.1 29 i) ∧ M.1 48 31 = M.1 26 3
def S7k (M : Mm_) : Prop := M.1 48 27 = M.1 19 9 ∧ M.1 48 28 = sm (M.1 22) 4 ∧ M.1 48 29 = M.1 19 10

def A1 (M : Mm_) : Prop := oP M
def A2 (M : Mm_) : Prop := oV M
def A3 (M : Mm_) : Prop := oF (M.1 9) (M.1 10) (M.1 8 7) (M.1 13) (M.1 14)
def A4 (M : Mm_) : Prop := ∀ i, i < 4 → 0 ≤ M.1 12 i ∧ M.1 12 i ≤ 99
def A5 (M : Mm_) : Prop := 0 ≤ M.1 8 8 ∧ M.1 8 8 < 2 ^ (M.1 3 5).toNat
def A6 (M : Mm_) : Prop := 0 ≤ M.1 8 9 ∧ M.1 8 9 ≤ 99
def A7 (M : Mm_) : Prop := (0 ≤ M.1 15 3 ∧ M.1 15 3 ≤ 6) ∧ (∀ i, i < 6 → 0 ≤ M.1 16 i ∧ M.1 16 i ≤ 3) ∧ (∀ i, i < 6 → 0 ≤ M.1 17 i ∧ M.1 17 i ≤ 2) ∧ (∀ i, i < 6 → 0 ≤ M.1 18 i ∧ M.1 18 i ≤ 99)
def A8 (M : Mm_) : Prop := (0 ≤ M.1 0 7 ∧ M.1 0 7 ≤ 30) ∧ (0 ≤ M.1 0 8 ∧ M.1 0 8 ≤ 20) ∧ (M.1 0 5 = 0 ∨ M.1 0 5 = 1)
def B1 (M : Mm_) : Prop := oMp M
def B2 (M : Mm_) : Prop := oMv M
def B3 (M : Mm_) : Prop := oMr M
def B4 (M : Mm_) : Prop := oMf M
def B5 (M : Mm_) : Prop := oMg M 52
def B6 (M : Mm_) : Prop := oMs M
def B7 (M : Mm_) : Prop := ∀ i, i < 4 → 0 ≤ M.1 55 i ∧ M.1 55 i ≤ 99
def B8 (M : Mm_) : Prop := ∀ j, j < 6 → 0 ≤ M.1 54 j ∧ M.1 54 j ≤ 1
def B9 (M : Mm_) : Prop := 0 ≤ M.1 48 5 ∧ M.1 48 5 ≤ 99
def C1 (M : Mm_) : Prop := M.1 48 1 = M.1 1 1 ∧ M.1 49 = M.1 2
def C2 (M : Mm_) : Prop := M.1 48 3 = M.1 3 4 ∧ M.1 48 4 = M.1 3 5 ∧ (∀ i : Nat, M.1 50 (3 * i) = M.1 4 i) ∧ (∀ i : Nat, M.1 50 (3 * i + 1) = M.1 5 i) ∧ (∀ i : Nat, M.1 6 i = gw (M.1 50 (3 * (i / 3))) (M.1 50 (3 * (i / 3) + 1)) ((i % 3 : Nat) : Int)) ∧ M.1 53 = M.1 7
def C4 (M : Mm_) : Prop := M.1 48 9 = M.1 0 6 ∧ M.1 48 18 = M.1 0 7 ∧ M.1 48 21 = M.1 0 8
def C5 (c : Nat) (M : Mm_) : Prop := -1 ≤ M.1 48 26 ∧ M.1 48 26 ≤ M.1 48 9 ∧ 0 ≤ M.1 48 9 ∧ M.1 48 9 ≤ c ∧ (M.1 0 5 = 1 ↔ M.1 48 26 = M.1 48 9)
def KP (M : Mm_) : Prop := ((∀ i : Nat, M.1 62 (3 * i) = M.1 50 (3 * i) ∧ M.1 62 (3 * i + 1) = M.1 50 (3 * i + 1)) ∧ S1k M ∧ S2k M ∧ S3k M ∧ S4k M ∧ S5k M ∧ S6k M ∧ S7k M) ∧ (oF (M.1 20) (M.1 21) (M.1 19 7) (M.1 24) (M.1 25) ∧ (∀ i, i < 4 → 0 ≤ M.1 23 i ∧ M.1 23 i ≤ 99) ∧ (0 ≤ M.1 19 8 ∧ M.1 19 8 < 2 ^ (M.1 3 5).toNat) ∧ (0 ≤ M.1 19 9 ∧ M.1 19 9 ≤ 99) ∧ ((0 ≤ M.1 26 3 ∧ M.1 26 3 ≤ 6) ∧ (∀ i, i < 6 → 0 ≤ M.1 27 i ∧ M.1 27 i ≤ 3) ∧ (∀ i, i < 6 → 0 ≤ M.1 28 i ∧ M.1 28 i ≤ 2) ∧ (∀ i, i < 6 → 0 ≤ M.1 29 i ∧ M.1 29 i ≤ 99))) ∧ ((∀ i, i < 4 → 0 ≤ M.1 63 i ∧ M.1 63 i ≤ 5) ∧ (∀ i, i < 4 → 0 ≤ M.1 64 i ∧ M.1 64 i ≤ 99) ∧ (∀ j, j < 6 → 0 ≤ M.1 65 j ∧ M.1 65 j ≤ 1))
def C6 (M : Mm_) : Prop := M.1 0 5 = 1 → KP M
def INV (c : Nat) (M : Mm_) : Prop := (A1 M ∧ A2 M ∧ A3 M ∧ A4 M ∧ A5 M ∧ A6 M ∧ A7 M ∧ A8 M) ∧ (B1 M ∧ B2 M ∧ B3 M ∧ B4 M ∧ B5 M ∧ B6 M ∧ B7 M ∧ B8 M ∧ B9 M) ∧ (C1 M ∧ C2 M ∧ (S1n M ∧ S2n M ∧ S3n M ∧ S4n M ∧ S5n M ∧ S6n M ∧ S7n M) ∧ C4 M ∧ C5 c M ∧ C6 M)
theorem INV_X {c : Nat} {M : Mm_} (h : INV c M) : oX M := h.1
theorem INV_M {c : Nat} {M : Mm_} (h : INV c M) : oM M := h.2.1
/-- the cells that count are the same -/
def zS (K N : Mm_) : Prop := (∀ i, i < 30 ∨ (48 < i ∧ i ≠ 57 ∧ i ≠ 58 ∧ i ≠ 59 ∧ i ≠ 61) → N.1 i = K.1 i) ∧ (∀ j, j ≠ 2 → j ≠ 25 → N.1 48 j = K.1 48 j)
theorem zS_tr {K N L : Mm_} (h1 : zS K N) (h2 : zS N L) : zS K L := ⟨fun i hi => (h2.1 i hi).trans (h1.1 i hi), fun j a b => (h2.2 j a b).trans (h1.2 j a b)⟩
theorem zS_x {K N : Mm_} (h : xS K N) : zS K N := ⟨fun i hi => h.1 i (by omega), fun j _ _ => by rw [h.1 48 (by omega)]⟩
theorem zS_m {K N : Mm_} (h : mS K N) : zS K N := ⟨fun i hi => h.1 i (by omega) (by omega) (by omega) (by omega) (by omega), fun j a b => h.2.1 j a b⟩
theorem zS_h {K N : Mm_} {x : Int64} (h : mS (K.1, x) N) : zS K N := ⟨fun i hi => h.1 i (by omega) (by omega) (by omega) (by omega) (by omega), fun j a b => h.2.1 j a b⟩
theorem zS_U {K N : Mm_} {i j : Nat} {z : Int} (h : zS K N) : zS (mU K i j z) (mU N i j z) := by
  refine ⟨fun a ha => ?_, fun b h1 h2 => ?_⟩
  · funext y
    have h3 := congrFun (h.1 a ha) y
    by_cases c : a = i ∧ y = j
    · simp [mU, c]
    · simp [mU, c, h3]
  · have h3 := h.2 b h1 h2
    by_cases c : 48 = i ∧ b = j
    · simp [mU, c]
    · simp [mU, c, h3]
theorem zS_R {K N : Mm_} {i : Nat} {f : Nat → Int} (h : zS K N) : zS (mR K i f) (mR N i f) := by
  refine ⟨fun a ha => ?_, fun b h1 h2 => ?_⟩
  · by_cases c : a = i
    · simp [mR, c]
    · simp [mR, c, h.1 a ha]
  · by_cases c : 48 = i
    · simp [mR, c]
    · simp [mR, c, h.2 b h1 h2]


set_option maxHeartbeats 1000000 in
theorem INV_z {c : Nat} {K N : Mm_} (h : zS K N) (hI : INV c K) : INV c N := by
  have k2 : N.1 2 = K.1 2 := h.1 2 (by omega)
  have k4 : N.1 4 = K.1 4 := h.1 4 (by omega)
  have k5 : N.1 5 = K.1 5 := h.1 5 (by omega)
  have k6 : N.1 6 = K.1 6 := h.1 6 (by omega)
  have k7 : N.1 7 = K.1 7 := h.1 7 (by omega)
  have k9 : N.1 9 = K.1 9 := h.1 9 (by omega)
  have k10 : N.1 10 = K.1 10 := h.1 10 (by omega)
  have k11 : N.1 11 = K.1 11 := h.1 11 (by omega)
  have k12 : N.1 12 = K.1 12 := h.1 12 (by omega)
  have k13 : N.1 13 = K.1 13 := h.1 13 (by omega)
  have k14 : N.1 14 = K.1 14 := h.1 14 (by omega)
  have k16 : N.1 16 = K.1 16 := h.1 16 (by omega)
  have k17 : N.1 17 = K.1 17 := h.1 17 (by omega)
  have k18 : N.1 18 = K.1 18 := h.1 18 (by omega)
  have k20 : N.1 20 = K.1 20 := h.1 20 (by omega)
  have k21 : N.1 21 = K.1 21 := h.1 21 (by omega)
  have k22 : N.1 22 = K.1 22 := h.1 22 (by omega)
  have k23 : N.1 23 = K.1 23 := h.1 23 (by omega)
  have k24 : N.1 24 = K.1 24 := h.1 24 (by omega)
  have k25 : N.1 25 = K.1 25 := h.1 25 (by omega)
  have k27 : N.1 27 = K.1 27 := h.1 27 (by omega)
  have k28 : N.1 28 = K.1 28 := h.1 28 (by omega)
  have k29 : N.1 29 = K.1 29 := h.1 29 (by omega)
  have k49 : N.1 49 = K.1 49 := h.1 49 (by omega)
  have k50 : N.1 50 = K.1 50 := h.1 50 (by omega)
  have k51 : N.1 51 = K.1 51 := h.1 51 (by omega)
  have k52 : N.1 52 = K.1 52 := h.1 52 (by omega)
  have k53 : N.1 53 = K.1 53 := h.1 53 (by omega)
  have k54 : N.1 54 = K.1 54 := h.1 54 (by omega)
  have k55 : N.1 55 = K.1 55 := h.1 55 (by omega)
  have k56 : N.1 56 = K.1 56 := h.1 56 (by omega)
  have k60 : N.1 60 = K.1 60 := h.1 60 (by omega)
  have k62 : N.1 62 = K.1 62 := h.1 62 (by omega)
  have k63 : N.1 63 = K.1 63 := h.1 63 (by omega)
  have k64 : N.1 64 = K.1 64 := h.1 64 (by omega)
  have k65 : N.1 65 = K.1 65 := h.1 65 (by omega)
  have k66 : N.1 66 = K.1 66 := h.1 66 (by omega)
  have k67 : N.1 67 = K.1 67 := h.1 67 (by omega)
  have k68 : N.1 68 = K.1 68 := h.1 68 (by omega)
  have k0_5 : N.1 0 5 = K.1 0 5 := by rw [h.1 0 (by omega)]
  have k0_6 : N.1 0 6 = K.1 0 6 := by rw [h.1 0 (by omega)]
  have k0_7 : N.1 0 7 = K.1 0 7 := by rw [h.1 0 (by omega)]
  have k0_8 : N.1 0 8 = K.1 0 8 := by rw [h.1 0 (by omega)]
  have k1_1 : N.1 1 1 = K.1 1 1 := by rw [h.1 1 (by omega)]
  have k3_4 : N.1 3 4 = K.1 3 4 := by rw [h.1 3 (by omega)]
  have k3_5 : N.1 3 5 = K.1 3 5 := by rw [h.1 3 (by omega)]
  have k8_7 : N.1 8 7 = K.1 8 7 := by rw [h.1 8 (by omega)]
  have k8_8 : N.1 8 8 = K.1 8 8 := by rw [h.1 8 (by omega)]
  have k8_9 : N.1 8 9 = K.1 8 9 := by rw [h.1 8 (by omega)]
  have k8_10 : N.1 8 10 = K.1 8 10 := by rw [h.1 8 (by omega)]
  have k15_3 : N.1 15 3 = K.1 15 3 := by rw [h.1 15 (by omega)]
  have k19_7 : N.1 19 7 = K.1 19 7 := by rw [h.1 19 (by omega)]
  have k19_8 : N.1 19 8 = K.1 19 8 := by rw [h.1 19 (by omega)]
  have k19_9 : N.1 19 9 = K.1 19 9 := by rw [h.1 19 (by omega)]
  have k19_10 : N.1 19 10 = K.1 19 10 := by rw [h.1 19 (by omega)]
  have k26_3 : N.1 26 3 = K.1 26 3 := by rw [h.1 26 (by omega)]
  have k48_1 : N.1 48 1 = K.1 48 1 := h.2 1 (by omega) (by omega)
  have k48_3 : N.1 48 3 = K.1 48 3 := h.2 3 (by omega) (by omega)
  have k48_4 : N.1 48 4 = K.1 48 4 := h.2 4 (by omega) (by omega)
  have k48_5 : N.1 48 5 = K.1 48 5 := h.2 5 (by omega) (by omega)
  have k48_6 : N.1 48 6 = K.1 48 6 := h.2 6 (by omega) (by omega)
  have k48_7 : N.1 48 7 = K.1 48 7 := h.2 7 (by omega) (by omega)
  have k48_8 : N.1 48 8 = K.1 48 8 := h.2 8 (by omega) (by omega)
  have k48_9 : N.1 48 9 = K.1 48 9 := h.2 9 (by omega) (by omega)
  have k48_18 : N.1 48 18 = K.1 48 18 := h.2 18 (by omega) (by omega)
  have k48_21 : N.1 48 21 = K.1 48 21 := h.2 21 (by omega) (by omega)
  have k48_22 : N.1 48 22 = K.1 48 22 := h.2 22 (by omega) (by omega)
  have k48_26 : N.1 48 26 = K.1 48 26 := h.2 26 (by omega) (by omega)
  have k48_27 : N.1 48 27 = K.1 48 27 := h.2 27 (by omega) (by omega)
  have k48_28 : N.1 48 28 = K.1 48 28 := h.2 28 (by omega) (by omega)
  have k48_29 : N.1 48 29 = K.1 48 29 := h.2 29 (by omega) (by omega)
  have k48_30 : N.1 48 30 = K.1 48 30 := h.2 30 (by omega) (by omega)
  have k48_31 : N.1 48 31 = K.1 48 31 := h.2 31 (by omega) (by omega)
  unfold INV A1 A2 A3 A4 A5 A6 A7 A8 B1 B2 B3 B4 B5 B6 B7 B8 B9 C1 C2 C4 C5 C6 KP S1n S2n S3n S4n S5n S6n S7n S1k S2k S3k S4k S5k S6k S7k oP oV oF oMp oMv oMr oMf oMg oMs at hI ⊢
  simp only [k2, k4, k5, k6, k7, k9, k10, k11, k12, k13, k14, k16, k17, k18, k20, k21, k22, k23, k24, k25, k27, k28, k29, k49, k50, k51, k52, k53, k54, k55, k56, k60, k62, k63, k64, k65, k66, k67, k68, k0_5, k0_6, k0_7, k0_8, k1_1, k3_4, k3_5, k8_7, k8_8, k8_9, k8_10, k15_3, k19_7, k19_8, k19_9, k19_10, k26_3, k48_1, k48_3, k48_4, k48_5, k48_6, k48_7, k48_8, k48_9, k48_18, k48_21, k48_22, k48_26, k48_27, k48_28, k48_29, k48_30, k48_31]
  exact hI
theorem INV_up {c : Nat} {M : Mm_} (h : INV c M) : INV (c + 1) M := by
  obtain ⟨hA, hB, h1, h2, h3, h4, h5, h6⟩ := h
  refine ⟨hA, hB, h1, h2, h3, h4, ?_, h6⟩
  unfold C5 at h5 ⊢
  exact ⟨h5.1, h5.2.1, h5.2.2.1, by omega, h5.2.2.2.2⟩

