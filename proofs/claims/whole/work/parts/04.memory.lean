
/-! THE MEMORY: whole numbers by cell and place, and one long; the cells' addresses by X -/
def zI (z : Int) : Int32 := Int32.ofInt z
abbrev Mm_ : Type := (Nat → Nat → Int) × Int64
def mU (M : Mm_) (i j : Nat) (z : Int) : Mm_ := (fun a b => if a = i ∧ b = j then z else M.1 a b, M.2)
abbrev Lt_ : Type := va_G × (Nat → Nat) × ClassId × ClassId
def rN (r : Nat → Nat) : Value → Value
  | .ref i => .ref (r i)
  | v => v
def lyT : List (Nat × Nat × List Nat) := [(1, 5, [3, 5, 10, 21, 43, 0, 0, 0, 0]), (1, 1, [4, 0]), (0, 24, []), (1, 4, [6, 7, 8, 9, 0, 0]), (0, 4, []), (0, 4, []), (0, 12, []), (0, 6, []), (1, 3, [11, 12, 13, 14, 15, 16, 17, 0, 0, 0, 0]), (0, 4, []), (0, 4, []), (0, 4, []), (0, 4, []), (0, 4, []), (0, 4, []), (1, 2, [18, 19, 20, 0]), (0, 6, []), (0, 6, []), (0, 6, []), (1, 3, [22, 23, 24, 25, 26, 27, 28, 0, 0, 0, 0]), (0, 4, []), (0, 4, []), (0, 4, []), (0, 4, []), (0, 4, []), (0, 4, []), (1, 2, [29, 30, 31, 0]), (0, 6, []), (0, 6, []), (0, 6, []), (1, 3, [33, 34, 35, 36, 37, 38, 39, 0, 0, 0, 0]), (0, 4, []), (0, 4, []), (0, 4, []), (0, 4, []), (0, 4, []), (0, 4, []), (1, 2, [40, 41, 42, 0]), (0, 6, []), (0, 6, []), (0, 6, []), (1, 0, [32, 44, 45, 46, 0, 0]), (0, 3, []), (0, 3, []), (2, 3, [45, 46, 47]), (0, 4, []), (0, 4, []), (0, 4, []), (1, 6, [51, 0, 0, 0, 0, 0, 0, 0, 0, 0, 52, 53, 54, 55, 56, 57, 58, 59, 0, 60, 61, 0, 0, 62, 63, 0, 0, 0, 0, 0, 0, 0, 64, 65, 66, 67, 68, 69, 70, 1]), (0, 24, []), (0, 12, []), (0, 4, []), (0, 4, []), (0, 6, []), (0, 6, []), (0, 4, []), (0, 8, []), (0, 4, []), (0, 3, []), (0, 3, []), (0, 18, []), (0, 22, []), (0, 12, []), (0, 4, []), (0, 4, []), (0, 6, []), (0, 4, []), (0, 8, []), (0, 18, [])]
def fV (M : Mm_) (id j : Nat) : Nat → Value
  | 0 => .int (zI (M.1 id j))
  | 1 => .long M.2
  | k + 2 => .ref k
def fL (M : Mm_) (id : Nat) : Nat → List Nat → List Value
  | _, [] => []
  | j, c :: cs => fV M id j c :: fL M id (j + 1) cs
def cE (X : Lt_) (M : Mm_) (id : Nat) (t : Nat × Nat × List Nat) : va_E :=
  match t with
  | (0, n, _) => .inl (X.2.2.1, n, .inl (fun j => zI (M.1 id j)))
  | (1, ci, cs) => .inr (ci, (fL M id 0 cs).map (rN X.2.1))
  | (_, n, cs) => .inl (X.2.2.2, n, .inr (.inr (.inr (.inr (fun k => (cs[k]?).map X.2.1)))))
def wO (X : Lt_) (M : Mm_) : va_W := (List.range 69).map (fun i => (X.2.1 i, cE X M i (lyT.getD i (0, 0, []))))
theorem lyT_lt {i : Nat} {t : Nat × Nat × List Nat} (h : lyT[i]? = some t) : i < 69 := (List.getElem?_eq_some_iff.mp h).1
theorem wO_get {X : Lt_} {M : Mm_} {i : Nat} {t : Nat × Nat × List Nat} (h : lyT[i]? = some t) : (wO X M)[i]? = some (X.2.1 i, cE X M i t) := by
  have hi := lyT_lt h
  simp [wO, hi, List.getD, h]
theorem wO_of {X : Lt_} {M : Mm_} {i : Nat} {q : Nat × va_E} (h : (wO X M)[i]? = some q) : i < 69 ∧ q.1 = X.2.1 i := by
  have hi : i < 69 := by
    have := (List.getElem?_eq_some_iff.mp h).1
    simpa [wO] using this
  refine ⟨hi, ?_⟩
  simp [wO, hi] at h
  rw [← h]
theorem wO_set {X : Lt_} {M M' : Mm_} {i : Nat} {t : Nat × Nat × List Nat} (h : lyT[i]? = some t) (he : ∀ (j : Nat) (t' : Nat × Nat × List Nat), lyT[j]? = some t' → j ≠ i → cE X M' j t' = cE X M j t') : (wO X M).set i (X.2.1 i, cE X M' i t) = wO X M' := by
  have hi := lyT_lt h
  apply List.ext_getElem?
  intro j
  by_cases hj : j < 69
  · obtain ⟨t', ht'⟩ : ∃ t', lyT[j]? = some t' := ⟨lyT[j]'(by simpa [lyT] using hj), List.getElem?_eq_getElem _⟩
    rw [wO_get ht']
    by_cases hji : j = i
    · subst hji
      cases h.symm.trans ht'
      rw [List.getElem?_set_self (by simpa [wO] using hi)]
    · rw [List.getElem?_set_ne (Ne.symm hji), wO_get ht', he j t' ht' hji]
  · have h1 : (wO X M').length ≤ j := by simp [wO]; omega
    have h2 : ((wO X M).set i (X.2.1 i, cE X M' i t)).length ≤ j := by simp [wO]; omega
    rw [List.getElem?_eq_none h1, List.getElem?_eq_none h2]
theorem fL_congr {M M' : Mm_} {id : Nat} (h : M'.1 id = M.1 id) (h2 : M'.2 = M.2) : ∀ (j : Nat) (cs : List Nat), fL M' id j cs = fL M id j cs
  | _, [] => rfl
  | j, c :: cs => by
    have e : fV M' id j c = fV M id j c := by
      match c with
      | 0 => simp [fV, h]
      | 1 => simp [fV, h2]
      | k + 2 => rfl
    simp [fL, e, fL_congr h h2 (j + 1) cs]
theorem fL_get {M : Mm_} {id : Nat} : ∀ (cs : List Nat) (j k : Nat), (fL M id j cs)[k]? = (cs[k]?).map (fV M id (j + k))
  | [], _, _ => by simp [fL]
  | c :: cs, j, 0 => by simp [fL]
  | c :: cs, j, k + 1 => by
    simp only [fL, List.getElem?_cons_succ]
    rw [fL_get cs (j + 1) k, show j + 1 + k = j + (k + 1) by omega]
theorem fL_len {M : Mm_} {id : Nat} : ∀ (cs : List Nat) (j : Nat), (fL M id j cs).length = cs.length
  | [], _ => rfl
  | c :: cs, j => by simp [fL, fL_len cs (j + 1)]
theorem fL_set {M : Mm_} {id k : Nat} {z : Int} : ∀ (cs : List Nat) (j : Nat), cs[k]? = some 0 → (fL M id j cs).set k (.int (zI z)) = fL (mU M id (j + k) z) id j cs := by
  intro cs j hk
  apply List.ext_getElem?
  intro i
  by_cases hi : i = k
  · subst hi
    have hl : i < (fL M id j cs).length := by rw [fL_len]; exact (List.getElem?_eq_some_iff.mp hk).1
    rw [List.getElem?_set_self hl, fL_get, hk]
    simp [fV, mU]
  · rw [List.getElem?_set_ne (Ne.symm hi), fL_get, fL_get]
    congr 1
    funext c
    match c with
    | 0 => simp [fV, mU, hi]
    | 1 => simp [fV, mU]
    | k + 2 => rfl
theorem cE_congr {X : Lt_} {M M' : Mm_} {id : Nat} (h : M'.1 id = M.1 id) (h2 : M'.2 = M.2) (t : Nat × Nat × List Nat) : cE X M' id t = cE X M id t := by
  obtain ⟨a, b, cs⟩ := t
  match a with
  | 0 => simp [cE, h]
  | 1 => simp only [cE, fL_congr h h2]
  | a + 2 => rfl
theorem mU_ne {M : Mm_} {i j i' : Nat} {z : Int} (h : i' ≠ i) : (mU M i j z).1 i' = M.1 i' := by
  funext b
  simp [mU, h]
theorem wO_setf {X : Lt_} {M : Mm_} {i k ci : Nat} {cs : List Nat} {z : Int} (h : lyT[i]? = some (1, ci, cs)) (hk : cs[k]? = some 0) : (wO X M).set i (X.2.1 i, .inr (ci, ((fL M i 0 cs).map (rN X.2.1)).set k (.int (zI z)))) = wO X (mU M i k z) := by
  have e : (.inr (ci, ((fL M i 0 cs).map (rN X.2.1)).set k (.int (zI z))) : va_E) = cE X (mU M i k z) i (1, ci, cs) := by
    have e2 : ((fL M i 0 cs).map (rN X.2.1)).set k (.int (zI z)) = ((fL M i 0 cs).set k (.int (zI z))).map (rN X.2.1) := by
      rw [List.map_set]; rfl
    have e3 := fL_set (M := M) (id := i) (k := k) (z := z) cs 0 hk
    rw [Nat.zero_add] at e3
    rw [e2, e3]
    rfl
  rw [e]
  exact wO_set h (fun j t' _ hj => cE_congr (mU_ne hj) rfl t')
theorem lyT_l : ∀ (j : Nat) (t : Nat × Nat × List Nat), lyT[j]? = some t → j ≠ 48 → ¬ (1 ∈ t.2.2) := by
  have h : ∀ j, j < 69 → j ≠ 48 → ¬ (1 ∈ (lyT.getD j (0, 0, [])).2.2) := by decide +kernel
  intro j t ht hj
  have h1 := h j (lyT_lt ht) hj
  simpa [List.getD, ht] using h1
theorem fL_congrL {M : Mm_} {x : Int64} {id : Nat} : ∀ (j : Nat) (cs : List Nat), ¬ (1 ∈ cs) → fL (M.1, x) id j cs = fL M id j cs
  | _, [], _ => rfl
  | j, c :: cs, h => by
    have e : fV (M.1, x) id j c = fV M id j c := by
      match c with
      | 0 => rfl
      | 1 => simp at h
      | k + 2 => rfl
    simp only [List.mem_cons, not_or] at h
    simp [fL, e, fL_congrL (j + 1) cs h.2]
theorem wO_setl {X : Lt_} {M : Mm_} {x : Int64} {cs : List Nat} (h : lyT[48]? = some (1, 6, cs)) : (wO X M).set 48 (X.2.1 48, .inr (6, ((fL M 48 0 cs).map (rN X.2.1)).set 39 (.long x))) = wO X (M.1, x) := by
  have e : (.inr (6, ((fL M 48 0 cs).map (rN X.2.1)).set 39 (.long x)) : va_E) = cE X (M.1, x) 48 (1, 6, cs) := by
    have h2 : lyT[48]? = some (1, 6, (lyT.getD 48 (0, 0, [])).2.2) := by decide +kernel
    cases h.symm.trans h2
    rfl
  rw [e]
  refine wO_set h (fun j t' ht' hj => ?_)
  have h1 := lyT_l j t' ht' hj
  obtain ⟨a, b, cs'⟩ := t'
  match a with
  | 0 => rfl
  | 1 => simp only [cE]; rw [fL_congrL 0 cs' h1]
  | a + 2 => rfl
theorem wO_seta {X : Lt_} {M : Mm_} {i k n : Nat} {cs : List Nat} {z : Int} (h : lyT[i]? = some (0, n, cs)) : (wO X M).set i (X.2.1 i, .inl (X.2.2.1, n, .inl (upd (fun j => zI (M.1 i j)) k (zI z)))) = wO X (mU M i k z) := by
  have e : (.inl (X.2.2.1, n, .inl (upd (fun j => zI (M.1 i j)) k (zI z))) : va_E) = cE X (mU M i k z) i (0, n, cs) := by
    simp only [cE]
    congr 4
    funext j
    by_cases hj : j = k
    · subst hj; simp [upd, mU]
    · simp [upd, mU, hj]
  rw [e]
  exact wO_set h (fun j t' _ hj => cE_congr (mU_ne hj) rfl t')
/-- a copy of places -/
def mC (M : Mm_) (a i sp dp n : Nat) : Mm_ := (fun x y => if x = i ∧ dp ≤ y ∧ y < dp + n then M.1 a (sp + (y - dp)) else M.1 x y, M.2)
theorem wO_setc {X : Lt_} {M : Mm_} {a i n sp dp k : Nat} {cs : List Nat} (h : lyT[i]? = some (0, n, cs)) : (wO X M).set i (X.2.1 i, .inl (X.2.2.1, n, .inl (va_cpy (fun j => zI (M.1 a j)) (fun j => zI (M.1 i j)) sp dp k))) = wO X (mC M a i sp dp k) := by
  have e : (.inl (X.2.2.1, n, .inl (va_cpy (fun j => zI (M.1 a j)) (fun j => zI (M.1 i j)) sp dp k)) : va_E) = cE X (mC M a i sp dp k) i (0, n, cs) := by
    simp only [cE]
    congr 4
    funext j
    by_cases hj : dp ≤ j ∧ j < dp + k
    · simp [va_cpy, mC, hj]
    · simp [va_cpy, mC, hj]
  rw [e]
  refine wO_set h (fun j t' _ hj => cE_congr (M := M) (M' := mC M a i sp dp k) ?_ rfl t')
  funext b
  simp [mC, hj]
def AX (X : Lt_) : Nat → Prop := fun q => ∃ i : Nat, i < 69 ∧ q = X.2.1 i
theorem wO_D {X : Lt_} {M : Mm_} {A : Nat → Prop} (hinj : ∀ i j : Nat, i < 69 → j < 69 → X.2.1 i = X.2.1 j → i = j) (hA : ∀ q, AX X q → A q) : va_D A (wO X M) := by
  refine ⟨fun i j p q hi hj hpq => ?_, fun k q hk => ?_⟩
  · obtain ⟨h1, h2⟩ := wO_of hi
    obtain ⟨h3, h4⟩ := wO_of hj
    exact hinj i j h1 h3 (by rw [← h2, ← h4]; exact hpq)
  · obtain ⟨h1, h2⟩ := wO_of hk
    exact hA _ ⟨k, h1, h2⟩
/-! the words -/
def isN : Cond → Bool
  | .fieldLinkNest .. => true
  | .methodLinkNest .. => true
  | _ => false
def nsT : List Cond := lw_tbl.filter isN
def TB : List Cond := lw_tbl.filter goodWord
theorem TB_good : GoodIn TB TB := fun w hw => ⟨hw, good_of_word (List.mem_filter.mp hw).2⟩
theorem TB_mem {w : Cond} (h : w ∈ lw_tbl) (hg : goodWord w = true) : w ∈ TB := List.mem_filter.mpr ⟨h, hg⟩
theorem isN_warm {w : Cond} (hn : isN w = true) {s U : State} (hW : s.WarmedH U.vm) (h : va_Nw w s) : va_Nw w U := by
  cases w <;> first | exact va_Nw.warmF hW h | exact va_Nw.warmM hW h | (simp [isN] at hn)
theorem isN_tab {w : Cond} (hn : isN w = true) : w.onTables = true := by
  cases w <;> first | rfl | (simp [isN] at hn)
def wrT (j : Nat) : Int := if j = 0 then 4 else if j = 1 then 6 else 2
/-- what the statics and constants are -/
def St_ (X : Lt_) (A : Nat → Prop) (U : State) (H : Heap) : Prop :=
  va_Z "GrudgeRennet" "WORTHS" "[I" (.ref (X.2.1 100)) A U H ∧ va_T .int (X.2.1 100) 3 (fun j => .int (zI (wrT j))) A U H ∧ vk_R "GrudgeRennet$Page" 38 "psbtm" (X.2.1 101) U ∧ vk_R "GrudgeRennet$Valley" 40 "psbtm" (X.2.1 101) U ∧
  vk_S 1 [5] [[112, 115, 98, 116, 109]] (fun _ => X.2.1 101) (fun _ => X.2.1 102) A U H ∧ va_Z "java/lang/String" "COMPACT_STRINGS" "Z" (.int 1) A U H
def Kn (X : Lt_) (A : Nat → Prop) (U : State) (H : Heap) : Prop :=
  (∀ i j : Nat, i < 69 → j < 69 → X.2.1 i = X.2.1 j → i = j) ∧ va_K X.1 vwCl [(X.2.2.1, .int), (X.2.2.2, .array .int)] U ∧ (∀ w ∈ nsT, va_Nw w U) ∧ St_ X A U H
theorem Kn.warm {X : Lt_} {A : Nat → Prop} {s U : State} {H : Heap} (hW : s.WarmedH U.vm) (h : Kn X A s H) : Kn X A U H := by
  obtain ⟨h1, h2, h3, h4, h5, h6, h7, h8, h9⟩ := h
  exact ⟨h1, va_K.moved hW.alike h2, fun w hw => isN_warm (List.mem_filter.mp hw).2 hW (h3 w hw), va_Z.moved hW.alike h4, va_T.moved hW.alike h5, vk_R.warm hW h6, vk_R.warm hW h7, vk_S.moved hW.alike h8, va_Z.moved hW.alike h9⟩
theorem Kn.kept {X : Lt_} {A : Nat → Prop} {U : State} {H H1 : Heap} (h : Kn X A U H) (hq : ∀ a : Nat, a < H.size → ¬ A a → H1[a]? = H[a]?) : Kn X A U H1 := by
  obtain ⟨h1, h2, h3, h4, h5, h6, h7, h8, h9⟩ := h
  exact ⟨h1, h2, h3, h4.kept hq, h5.kept hq, h6, h7, h8.kept hq, h9.kept hq⟩
theorem Kn.narrow {X : Lt_} {A B : Nat → Prop} {U : State} {H : Heap} (h : Kn X A U H) (hAB : ∀ q, B q → A q) : Kn X B U H := by
  obtain ⟨h1, h2, h3, h4, h5, h6, h7, h8, h9⟩ := h
  exact ⟨h1, h2, h3, h4.narrow hAB, h5.narrow hAB, h6, h7, h8.narrow hAB, h9.narrow hAB⟩
theorem Kn.calling {X : Lt_} {A : Nat → Prop} {U : State} {H : Heap} (g : JFrame) (mk : MethodId) (a : Array Value) (h : Kn X A U H) : Kn X A (U.calling g mk a) H := by
  obtain ⟨h1, h2, h3, h4, h5, h6, h7, h8, h9⟩ := h
  have hvm : U.vm.Alike (U.calling g mk a).vm := Vm.Alike.refl U.vm
  exact ⟨h1, va_K.moved hvm h2, fun w hw => va_Nw.same (u := U) (U := U.calling g mk a) (isN_tab (List.mem_filter.mp hw).2) rfl (h3 w hw), va_Z.moved hvm h4, va_T.moved hvm h5, vk_R.same (u := U) (U := U.calling g mk a) rfl h6, vk_R.same (u := U) (U := U.calling g mk a) rfl h7, vk_S.moved hvm h8, va_Z.moved hvm h9⟩
