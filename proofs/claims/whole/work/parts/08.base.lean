/-! the layout, row by row; answers; calls that answer so -/
theorem ly_0 : lyT[0]? = some (1, 5, [3, 5, 10, 21, 43, 0, 0, 0, 0]) := rfl
theorem ly_1 : lyT[1]? = some (1, 1, [4, 0]) := rfl
theorem ly_2 : lyT[2]? = some (0, 24, []) := rfl
theorem ly_3 : lyT[3]? = some (1, 4, [6, 7, 8, 9, 0, 0]) := rfl
theorem ly_4 : lyT[4]? = some (0, 4, []) := rfl
theorem ly_5 : lyT[5]? = some (0, 4, []) := rfl
theorem ly_6 : lyT[6]? = some (0, 12, []) := rfl
theorem ly_7 : lyT[7]? = some (0, 6, []) := rfl
theorem ly_8 : lyT[8]? = some (1, 3, [11, 12, 13, 14, 15, 16, 17, 0, 0, 0, 0]) := rfl
theorem ly_9 : lyT[9]? = some (0, 4, []) := rfl
theorem ly_10 : lyT[10]? = some (0, 4, []) := rfl
theorem ly_11 : lyT[11]? = some (0, 4, []) := rfl
theorem ly_12 : lyT[12]? = some (0, 4, []) := rfl
theorem ly_13 : lyT[13]? = some (0, 4, []) := rfl
theorem ly_14 : lyT[14]? = some (0, 4, []) := rfl
theorem ly_15 : lyT[15]? = some (1, 2, [18, 19, 20, 0]) := rfl
theorem ly_16 : lyT[16]? = some (0, 6, []) := rfl
theorem ly_17 : lyT[17]? = some (0, 6, []) := rfl
theorem ly_18 : lyT[18]? = some (0, 6, []) := rfl
theorem ly_19 : lyT[19]? = some (1, 3, [22, 23, 24, 25, 26, 27, 28, 0, 0, 0, 0]) := rfl
theorem ly_20 : lyT[20]? = some (0, 4, []) := rfl
theorem ly_21 : lyT[21]? = some (0, 4, []) := rfl
theorem ly_22 : lyT[22]? = some (0, 4, []) := rfl
theorem ly_23 : lyT[23]? = some (0, 4, []) := rfl
theorem ly_24 : lyT[24]? = some (0, 4, []) := rfl
theorem ly_25 : lyT[25]? = some (0, 4, []) := rfl
theorem ly_26 : lyT[26]? = some (1, 2, [29, 30, 31, 0]) := rfl
theorem ly_27 : lyT[27]? = some (0, 6, []) := rfl
theorem ly_28 : lyT[28]? = some (0, 6, []) := rfl
theorem ly_29 : lyT[29]? = some (0, 6, []) := rfl
theorem ly_30 : lyT[30]? = some (1, 3, [33, 34, 35, 36, 37, 38, 39, 0, 0, 0, 0]) := rfl
theorem ly_31 : lyT[31]? = some (0, 4, []) := rfl
theorem ly_32 : lyT[32]? = some (0, 4, []) := rfl
theorem ly_33 : lyT[33]? = some (0, 4, []) := rfl
theorem ly_34 : lyT[34]? = some (0, 4, []) := rfl
theorem ly_35 : lyT[35]? = some (0, 4, []) := rfl
theorem ly_36 : lyT[36]? = some (0, 4, []) := rfl
theorem ly_37 : lyT[37]? = some (1, 2, [40, 41, 42, 0]) := rfl
theorem ly_38 : lyT[38]? = some (0, 6, []) := rfl
theorem ly_39 : lyT[39]? = some (0, 6, []) := rfl
theorem ly_40 : lyT[40]? = some (0, 6, []) := rfl
theorem ly_41 : lyT[41]? = some (1, 0, [32, 44, 45, 46, 0, 0]) := rfl
theorem ly_42 : lyT[42]? = some (0, 3, []) := rfl
theorem ly_43 : lyT[43]? = some (0, 3, []) := rfl
theorem ly_44 : lyT[44]? = some (2, 3, [45, 46, 47]) := rfl
theorem ly_45 : lyT[45]? = some (0, 4, []) := rfl
theorem ly_46 : lyT[46]? = some (0, 4, []) := rfl
theorem ly_47 : lyT[47]? = some (0, 4, []) := rfl
theorem ly_48 : lyT[48]? = some (1, 6, [51, 0, 0, 0, 0, 0, 0, 0, 0, 0, 52, 53, 54, 55, 56, 57, 58, 59, 0, 60, 61, 0, 0, 62, 63, 0, 0, 0, 0, 0, 0, 0, 64, 65, 66, 67, 68, 69, 70, 1]) := rfl
theorem ly_49 : lyT[49]? = some (0, 24, []) := rfl
theorem ly_50 : lyT[50]? = some (0, 12, []) := rfl
theorem ly_51 : lyT[51]? = some (0, 4, []) := rfl
theorem ly_52 : lyT[52]? = some (0, 4, []) := rfl
theorem ly_53 : lyT[53]? = some (0, 6, []) := rfl
theorem ly_54 : lyT[54]? = some (0, 6, []) := rfl
theorem ly_55 : lyT[55]? = some (0, 4, []) := rfl
theorem ly_56 : lyT[56]? = some (0, 8, []) := rfl
theorem ly_57 : lyT[57]? = some (0, 4, []) := rfl
theorem ly_58 : lyT[58]? = some (0, 3, []) := rfl
theorem ly_59 : lyT[59]? = some (0, 3, []) := rfl
theorem ly_60 : lyT[60]? = some (0, 18, []) := rfl
theorem ly_61 : lyT[61]? = some (0, 22, []) := rfl
theorem ly_62 : lyT[62]? = some (0, 12, []) := rfl
theorem ly_63 : lyT[63]? = some (0, 4, []) := rfl
theorem ly_64 : lyT[64]? = some (0, 4, []) := rfl
theorem ly_65 : lyT[65]? = some (0, 6, []) := rfl
theorem ly_66 : lyT[66]? = some (0, 4, []) := rfl
theorem ly_67 : lyT[67]? = some (0, 8, []) := rfl
theorem ly_68 : lyT[68]? = some (0, 18, []) := rfl

theorem rgm {z : Int} (h1 : -2147483648 ≤ z) (h2 : z < 2147483648) : rg z := ⟨h1, h2⟩
def pZ (v : Int) (M : Mm_) : Option Value → Mm_ → Prop := fun r M' => r = some (.int (zI v)) ∧ M' = M
def pV (M2 : Mm_) : Option Value → Mm_ → Prop := fun r M' => r = none ∧ M' = M2
def pB (c : Prop) (M : Mm_) : Option Value → Mm_ → Prop := fun r M' => ((r = some (.int (zI 1)) ∧ c) ∨ (r = some (.int (zI 0)) ∧ ¬ c)) ∧ M' = M
theorem pZ_of {z v : Int} {M : Mm_} (h : z = v) : pZ v M (some (.int (zI z))) M := h ▸ ⟨rfl, rfl⟩
theorem pZ_ofM {z v : Int} {M M' : Mm_} (h : z = v) (hM : M' = M) : pZ v M (some (.int (zI z))) M' := h ▸ ⟨rfl, hM⟩
theorem pB_t {c : Prop} {M : Mm_} (h : c) : pB c M (some (.int (zI 1))) M := ⟨Or.inl ⟨rfl, h⟩, rfl⟩
theorem pB_f {c : Prop} {M : Mm_} (h : ¬ c) : pB c M (some (.int (zI 0))) M := ⟨Or.inr ⟨rfl, h⟩, rfl⟩
theorem pV_of {M : Mm_} : pV M none M := ⟨rfl, rfl⟩
theorem lpN {P : Nat → Prop} (N : Nat) (hN : P N) (hs : ∀ i, i < N → P (i + 1) → P i) : ∀ i, i ≤ N → P i := by
  have h : ∀ k i, i + k = N → P i := by
    intro k
    induction k with
    | zero => intro i hi; rw [show i = N by omega]; exact hN
    | succ k ih => intro i hi; exact hs i (by omega) (ih (i + 1) (by omega))
  intro i hi
  exact h (N - i) i (by omega)

theorem r_cVz {G : GT} {own : String} {cc : ByteArray} {n d : Nat} (C : Ru G own cc n d) {pc : Nat} {lv stk : List Value} {M : Mm_} {idx d' np b ci : Nat} {k : Ky_} {as rest : List Value} {cs : List Nat} {v : Int} (hd : decode cc pc = .ok (.invokevirtual idx, 3)) (hw : VW own idx k np) (hC : Cn d' k (.ref b :: as) M (pZ v M)) (hd' : d' < d) (hn : as.length = np) (hi : lyT[b]? = some (1, ci, cs)) (hcl : (cT ci).1 = k.1.cls) (hst : stk = as.reverse ++ .ref b :: rest) (hrs : (rest.map fun v => v.category).sum ≤ 8) (kk : G (pc + 3) lv (.int (zI v) :: rest) M) : G pc lv stk M := r_callV C hd hw hC hd' hn hi hcl hst hrs (fun r M' h => by obtain ⟨rfl, rfl⟩ := h; exact kk)
theorem r_cVv {G : GT} {own : String} {cc : ByteArray} {n d : Nat} (C : Ru G own cc n d) {pc : Nat} {lv stk : List Value} {M : Mm_} {idx d' np b ci : Nat} {k : Ky_} {as rest : List Value} {cs : List Nat} {M2 : Mm_} (hd : decode cc pc = .ok (.invokevirtual idx, 3)) (hw : VW own idx k np) (hC : Cn d' k (.ref b :: as) M (pV M2)) (hd' : d' < d) (hn : as.length = np) (hi : lyT[b]? = some (1, ci, cs)) (hcl : (cT ci).1 = k.1.cls) (hst : stk = as.reverse ++ .ref b :: rest) (hrs : (rest.map fun v => v.category).sum ≤ 8) (kk : G (pc + 3) lv rest M2) : G pc lv stk M := r_callV C hd hw hC hd' hn hi hcl hst hrs (fun r M' h => by obtain ⟨rfl, rfl⟩ := h; exact kk)
theorem r_cVw {G : GT} {own : String} {cc : ByteArray} {n d : Nat} (C : Ru G own cc n d) {pc : Nat} {lv stk : List Value} {M : Mm_} {idx d' np b ci : Nat} {k : Ky_} {as rest : List Value} {cs : List Nat} {v : Int} {M2 : Mm_} (hd : decode cc pc = .ok (.invokevirtual idx, 3)) (hw : VW own idx k np) (hC : Cn d' k (.ref b :: as) M (pZ v M2)) (hd' : d' < d) (hn : as.length = np) (hi : lyT[b]? = some (1, ci, cs)) (hcl : (cT ci).1 = k.1.cls) (hst : stk = as.reverse ++ .ref b :: rest) (hrs : (rest.map fun v => v.category).sum ≤ 8) (kk : G (pc + 3) lv (.int (zI v) :: rest) M2) : G pc lv stk M := r_callV C hd hw hC hd' hn hi hcl hst hrs (fun r M' h => by obtain ⟨rfl, rfl⟩ := h; exact kk)
theorem r_cVb {G : GT} {own : String} {cc : ByteArray} {n d : Nat} (C : Ru G own cc n d) {pc : Nat} {lv stk : List Value} {M : Mm_} {idx d' np b ci : Nat} {k : Ky_} {as rest : List Value} {cs : List Nat} {q : Prop} (hd : decode cc pc = .ok (.invokevirtual idx, 3)) (hw : VW own idx k np) (hC : Cn d' k (.ref b :: as) M (pB q M)) (hd' : d' < d) (hn : as.length = np) (hi : lyT[b]? = some (1, ci, cs)) (hcl : (cT ci).1 = k.1.cls) (hst : stk = as.reverse ++ .ref b :: rest) (hrs : (rest.map fun v => v.category).sum ≤ 8) (kt : q → G (pc + 3) lv (.int (zI 1) :: rest) M) (kf : ¬ q → G (pc + 3) lv (.int (zI 0) :: rest) M) : G pc lv stk M := r_callV C hd hw hC hd' hn hi hcl hst hrs (fun r M' h => by obtain ⟨⟨rfl, h1⟩ | ⟨rfl, h1⟩, rfl⟩ := h; exact kt h1; exact kf h1)
theorem r_cSz {G : GT} {own : String} {cc : ByteArray} {n d : Nat} (C : Ru G own cc n d) {pc : Nat} {lv stk : List Value} {M : Mm_} {idx d' np : Nat} {k : Ky_} {as rest : List Value} {v : Int} (hd : decode cc pc = .ok (.invokestatic idx, 3)) (hw : SW own idx k np) (hC : Cn d' k as M (pZ v M)) (hd' : d' < d) (hn : as.length = np) (hst : stk = as.reverse ++ rest) (hrs : (rest.map fun v => v.category).sum ≤ 8) (kk : G (pc + 3) lv (.int (zI v) :: rest) M) : G pc lv stk M := r_callS C hd hw hC hd' hn hst hrs (fun r M' h => by obtain ⟨rfl, rfl⟩ := h; exact kk)
theorem r_cSv {G : GT} {own : String} {cc : ByteArray} {n d : Nat} (C : Ru G own cc n d) {pc : Nat} {lv stk : List Value} {M : Mm_} {idx d' np : Nat} {k : Ky_} {as rest : List Value} {M2 : Mm_} (hd : decode cc pc = .ok (.invokestatic idx, 3)) (hw : SW own idx k np) (hC : Cn d' k as M (pV M2)) (hd' : d' < d) (hn : as.length = np) (hst : stk = as.reverse ++ rest) (hrs : (rest.map fun v => v.category).sum ≤ 8) (kk : G (pc + 3) lv rest M2) : G pc lv stk M := r_callS C hd hw hC hd' hn hst hrs (fun r M' h => by obtain ⟨rfl, rfl⟩ := h; exact kk)
theorem r_cSw {G : GT} {own : String} {cc : ByteArray} {n d : Nat} (C : Ru G own cc n d) {pc : Nat} {lv stk : List Value} {M : Mm_} {idx d' np : Nat} {k : Ky_} {as rest : List Value} {v : Int} {M2 : Mm_} (hd : decode cc pc = .ok (.invokestatic idx, 3)) (hw : SW own idx k np) (hC : Cn d' k as M (pZ v M2)) (hd' : d' < d) (hn : as.length = np) (hst : stk = as.reverse ++ rest) (hrs : (rest.map fun v => v.category).sum ≤ 8) (kk : G (pc + 3) lv (.int (zI v) :: rest) M2) : G pc lv stk M := r_callS C hd hw hC hd' hn hst hrs (fun r M' h => by obtain ⟨rfl, rfl⟩ := h; exact kk)
theorem r_cSb {G : GT} {own : String} {cc : ByteArray} {n d : Nat} (C : Ru G own cc n d) {pc : Nat} {lv stk : List Value} {M : Mm_} {idx d' np : Nat} {k : Ky_} {as rest : List Value} {q : Prop} (hd : decode cc pc = .ok (.invokestatic idx, 3)) (hw : SW own idx k np) (hC : Cn d' k as M (pB q M)) (hd' : d' < d) (hn : as.length = np) (hst : stk = as.reverse ++ rest) (hrs : (rest.map fun v => v.category).sum ≤ 8) (kt : q → G (pc + 3) lv (.int (zI 1) :: rest) M) (kf : ¬ q → G (pc + 3) lv (.int (zI 0) :: rest) M) : G pc lv stk M := r_callS C hd hw hC hd' hn hst hrs (fun r M' h => by obtain ⟨⟨rfl, h1⟩ | ⟨rfl, h1⟩, rfl⟩ := h; exact kt h1; exact kf h1)
