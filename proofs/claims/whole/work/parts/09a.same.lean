
/-! MEMORIES THAT ARE THE SAME where the cells have places; a cell's row laid anew -/
def lnT (i : Nat) : Nat := if (lyT.getD i (0, 0, [])).1 = 0 then (lyT.getD i (0, 0, [])).2.1 else (lyT.getD i (0, 0, [])).2.2.length
def eqM (M M' : Mm_) : Prop := (∀ i j : Nat, j < lnT i → M'.1 i j = M.1 i j) ∧ M'.2 = M.2
def mR (M : Mm_) (i : Nat) (f : Nat → Int) : Mm_ := (fun x => if x = i then f else M.1 x, M.2)
theorem mR_ne {M : Mm_} {i a : Nat} {f : Nat → Int} (h : a ≠ i) : (mR M i f).1 a = M.1 a := by simp [mR, h]
theorem mR_eq {M : Mm_} {i : Nat} {f : Nat → Int} : (mR M i f).1 i = f := by simp [mR]
theorem arrV_ext {c : ClassId} {N : Nat} {f g : Nat → Value} (h : ∀ j, j < N → f j = g j) : arrV c N f = arrV c N g := by
  unfold arrV
  congr 1
  apply congrArg
  funext j
  exact h j.val j.isLt
theorem fL_ext {M M' : Mm_} {id : Nat} (h2 : M'.2 = M.2) : ∀ (cs : List Nat) (j : Nat), (∀ k, k < cs.length → M'.1 id (j + k) = M.1 id (j + k)) → fL M' id j cs = fL M id j cs
  | [], _, _ => rfl
  | c :: cs, j, h => by
    have h0 := h 0 (by simp)
    rw [Nat.add_zero] at h0
    have e : fV M' id j c = fV M id j c := by
      match c with
      | 0 => simp [fV, h0]
      | 1 => simp [fV, h2]
      | k + 2 => rfl
    have e2 := fL_ext h2 cs (j + 1) (fun k hk => by have := h (k + 1) (by simp; omega); rw [show j + 1 + k = j + (k + 1) by omega]; exact this)
    simp [fL, e, e2]
theorem va_ext {X : Lt_} {M M' : Mm_} {H : Heap} (he : eqM M M') (h : va_P X.1 vwCl (wO X M) H) : va_P X.1 vwCl (wO X M') H := by
  intro k q hk
  obtain ⟨hk9, -⟩ := wO_of hk
  obtain ⟨t, ht⟩ : ∃ t, lyT[k]? = some t := ⟨lyT[k]'(by simpa [lyT] using hk9), List.getElem?_eq_getElem _⟩
  rw [wO_get ht] at hk
  cases hk
  have h1 := h k _ (wO_get ht)
  have hl := he.1 k
  obtain ⟨a, b, cs⟩ := t
  have hg : lyT.getD k (0, 0, []) = (a, b, cs) := by simp [List.getD, ht]
  match a, ht, hg with
  | 0, ht, hg =>
    have hl : ∀ j, j < b → M'.1 k j = M.1 k j := fun j hj => hl j (by unfold lnT; rw [hg]; exact hj)
    show H[X.2.1 k]? = some (vp_cell X.2.2.1 (b, .inl (fun j => zI (M'.1 k j))))
    rw [vp_cell_i, arrV_ext (g := fun j => .int (zI (M.1 k j))) (fun j hj => by rw [hl j hj]), ← vp_cell_i]
    exact h1
  | 1, ht, hg =>
    have hl : ∀ j, j < cs.length → M'.1 k j = M.1 k j := fun j hj => hl j (by unfold lnT; rw [hg]; exact hj)
    have e := fL_ext (M := M) (M' := M') (id := k) he.2 cs 0 (fun j hj => by rw [Nat.zero_add]; exact hl j hj)
    have e2 : cE X M' k (1, b, cs) = cE X M k (1, b, cs) := by simp only [cE, e]
    rw [e2]
    exact h1
  | a + 2, ht, hg => exact h1
theorem r_ext {G : GT} {own : String} {cc : ByteArray} {n d : Nat} (C : Ru G own cc n d) {pc : Nat} {lv stk : List Value} {M M' : Mm_} (he : eqM M M') (kk : G pc lv stk M') : G pc lv stk M := by
  obtain ⟨p, l, e, R, s, m, args, below, meth, c, cells, slots, Q, X, A, -, rfl⟩ := C
  intro H locs ls hP hS hl
  exact kk H locs ls (va_ext he hP) hS hl
theorem eqM_rf {M : Mm_} : eqM M M := ⟨fun _ _ _ => rfl, rfl⟩
theorem eqM_tr {M M' M'' : Mm_} (h1 : eqM M M') (h2 : eqM M' M'') : eqM M M'' := ⟨fun i j h => (h2.1 i j h).trans (h1.1 i j h), h2.2.trans h1.2⟩
theorem eqM_copy {M : Mm_} {a i n : Nat} (h : lnT i = n) : eqM (mC M a i 0 0 n) (mR M i (M.1 a)) := by
  refine ⟨fun x j hj => ?_, rfl⟩
  by_cases hx : x = i
  · subst hx
    rw [h] at hj
    simp [mR, mC, hj]
  · simp [mR, mC, hx]
theorem mC_eq (M : Mm_) (a i n : Nat) (h : lnT i = n) : eqM (mC M a i 0 0 n) (mR M i (M.1 a)) := eqM_copy h
/-! bits -/
def bt (z : Int) (k : Nat) : Int := z / 2 ^ k % 2
def ob (z : Int) : Int := sm (bt z) 12
theorem bt_b (z : Int) (k : Nat) : 0 ≤ bt z k ∧ bt z k ≤ 1 := by
  unfold bt
  omega
theorem zb_shl {i : Nat} (h : i ≤ 12) : zI 1 <<< (zI i &&& 31) = zI (2 ^ i) := by
  have h1 : ∀ i : Nat, i ≤ 12 → zI 1 <<< (zI i &&& 31) = zI (2 ^ i) := by decide +kernel
  exact h1 i h
theorem zb_orN (i : Nat) (_ : i ≤ 12) (n : Nat) (h : n < 2 ^ i) : zI n ||| zI (2 ^ i) = zI (n + 2 ^ i) := by
  have e : ((2 : Int) ^ i) = ((2 ^ i : Nat) : Int) := by norm_cast
  have e2 : ((n : Int) + 2 ^ i) = ((2 ^ i + n : Nat) : Int) := by rw [e]; omega
  have h3 := Nat.two_pow_add_eq_or_of_lt h 1
  rw [Nat.mul_one] at h3
  rw [e2, e, zI_nat, zI_nat, zI_nat, h3]
  apply Int32.toBitVec.inj
  rw [Nat.or_comm]
  simp [BitVec.ofNat_or]
theorem zb_or {b : Int} {i : Nat} (hi : i ≤ 12) (h0 : 0 ≤ b) (h1 : b < 2 ^ i) : zI b ||| zI (2 ^ i) = zI (b + 2 ^ i) := by
  obtain ⟨n, rfl⟩ := Int.eq_ofNat_of_zero_le h0
  exact zb_orN i hi n (by exact_mod_cast h1)
theorem zb_shr {b : Int} {k : Nat} (h0 : 0 ≤ b) (h1 : b < 2147483648) (hk : k ≤ 12) : zI b >>> (zI k &&& 31) = zI (b / 2 ^ k) := by
  obtain ⟨n, rfl⟩ := Int.eq_ofNat_of_zero_le h0
  have hs : ∀ k : Nat, k ≤ 12 → ((zI k &&& 31).toBitVec.smod 32).toNat = k := by decide +kernel
  have h2 := pk_shrN (n := n) (by omega) (zI k &&& 31) k (hs k hk)
  rw [show zI ((n : Nat) : Int) = nI n from zI_nat n, h2]
  show Int32.ofNat _ = _
  rw [← zI_nat]
  congr 1
theorem zb_and1 {b : Int} (h0 : 0 ≤ b) (h1 : b < 2147483648) : zI b &&& zI 1 = zI (b % 2) := by
  obtain ⟨n, rfl⟩ := Int.eq_ofNat_of_zero_le h0
  have h2 := pk_andN (n := n) (by omega) (m := zI 1) 1 (by decide)
  rw [show zI ((n : Nat) : Int) = nI n from zI_nat n, h2]
  show Int32.ofNat _ = _
  rw [← zI_nat]
  congr 1
theorem bt_of (b : Int) (k : Nat) : b / 2 ^ k % 2 = bt b k := rfl
/-- b without the bits of c, of six -/
def an (a b : Int) : Int := sm (fun k => 2 ^ k * (bt a k * (1 - bt b k))) 6
theorem zb_anN : ∀ a : Nat, a < 64 → ∀ b : Nat, b < 64 → zI a &&& (zI b ^^^ zI (-1)) = zI (an a b) := by decide +kernel
theorem zb_an {a b : Int} (h0 : 0 ≤ a) (h1 : a < 64) (h2 : 0 ≤ b) (h3 : b < 64) : zI a &&& (zI b ^^^ zI (-1)) = zI (an a b) := by
  obtain ⟨n, rfl⟩ := Int.eq_ofNat_of_zero_le h0
  obtain ⟨m, rfl⟩ := Int.eq_ofNat_of_zero_le h2
  exact zb_anN n (by omega) m (by omega)
theorem zb_notN : ∀ b : Nat, b < 64 → zI b ^^^ zI (-1) = zI (-1 - b) := by decide +kernel
theorem zb_not {b : Int} (h2 : 0 ≤ b) (h3 : b < 64) : zI b ^^^ zI (-1) = zI (-1 - b) := by
  obtain ⟨m, rfl⟩ := Int.eq_ofNat_of_zero_le h2
  exact zb_notN m (by omega)
theorem zb_an2 {a b : Int} (h0 : 0 ≤ a) (h1 : a < 64) (h2 : 0 ≤ b) (h3 : b < 64) : zI a &&& zI (-1 - b) = zI (an a b) := by
  rw [← zb_not h2 h3]
  exact zb_an h0 h1 h2 h3
/-- both, of six -/
def ad (a b : Int) : Int := sm (fun k => 2 ^ k * (bt a k * bt b k)) 6
theorem zb_adN : ∀ a : Nat, a < 64 → ∀ b : Nat, b < 64 → zI a &&& zI b = zI (ad a b) := by decide +kernel
theorem zb_ad {a b : Int} (h0 : 0 ≤ a) (h1 : a < 64) (h2 : 0 ≤ b) (h3 : b < 64) : zI a &&& zI b = zI (ad a b) := by
  obtain ⟨n, rfl⟩ := Int.eq_ofNat_of_zero_le h0
  obtain ⟨m, rfl⟩ := Int.eq_ofNat_of_zero_le h2
  exact zb_adN n (by omega) m (by omega)
theorem an_bN : ∀ a : Nat, a < 64 → ∀ b : Nat, b < 64 → 0 ≤ an a b ∧ an a b < 64 ∧ an a b + b < 64 ∧ zI b ||| zI (an a b) = zI (b + an a b) := by decide +kernel
theorem an_b {a b : Int} (h0 : 0 ≤ a) (h1 : a < 64) (h2 : 0 ≤ b) (h3 : b < 64) : 0 ≤ an a b ∧ an a b < 64 ∧ an a b + b < 64 ∧ zI b ||| zI (an a b) = zI (b + an a b) := by
  obtain ⟨n, rfl⟩ := Int.eq_ofNat_of_zero_le h0
  obtain ⟨m, rfl⟩ := Int.eq_ofNat_of_zero_le h2
  exact an_bN n (by omega) m (by omega)
theorem ad_bN : ∀ a : Nat, a < 64 → ∀ b : Nat, b < 64 → 0 ≤ ad a b ∧ ad a b < 64 := by decide +kernel
theorem ad_b {a b : Int} (h0 : 0 ≤ a) (h1 : a < 64) (h2 : 0 ≤ b) (h3 : b < 64) : 0 ≤ ad a b ∧ ad a b < 64 := by
  obtain ⟨n, rfl⟩ := Int.eq_ofNat_of_zero_le h0
  obtain ⟨m, rfl⟩ := Int.eq_ofNat_of_zero_le h2
  exact ad_bN n (by omega) m (by omega)
/-- Integer.bitCount's own formula -/
def bcF (x : Int32) : Int32 :=
  let sh := fun (x : Int32) (k : Int32) => (x.toUInt32 >>> (k.toUInt32 &&& Int32.toUInt32 31)).toInt32
  let x1 := x - (sh x (zI 1) &&& zI 1431655765)
  let x2 := (x1 &&& zI 858993459) + (sh x1 (zI 2) &&& zI 858993459)
  let x3 := (x2 + sh x2 (zI 4)) &&& zI 252645135
  let x4 := x3 + sh x3 (zI 8)
  let x5 := x4 + sh x4 (zI 16)
  x5 &&& zI 63
theorem bcF_N : ∀ n : Nat, n < 64 → bcF (zI n) = zI (ob n) ∧ 0 ≤ ob n ∧ ob n ≤ 6 := by decide +kernel
theorem bcF_ok {z : Int} (h0 : 0 ≤ z) (h1 : z < 64) : bcF (zI z) = zI (ob z) ∧ 0 ≤ ob z ∧ ob z ≤ 6 := by
  obtain ⟨n, rfl⟩ := Int.eq_ofNat_of_zero_le h0
  exact bcF_N n (by omega)
