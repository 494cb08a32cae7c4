
/-! THE RULES: a method's walk in the memory's words -/
theorem rN_cat (r : Nat → Nat) (v : Value) : (rN r v).category = v.category := by cases v <;> rfl
def lH (r : Nat → Nat) (ls : Array Slot) (n : Nat) (lv : List Value) : Prop := ls.size = n ∧ lv_wf ls ∧ ∀ (i : Nat) (v : Value), lv[i]? = some v → v ≠ .null → ls[i]? = some (.val (rN r v))
def asc (r : Nat → Nat) (lv : List Value) : List (Nat × Value) := (List.range lv.length).filterMap (fun i => if lv[i]? = some .null then none else (lv[i]?).map (fun v => (i, rN r v)))
theorem asc_mem {r : Nat → Nat} {lv : List Value} {i : Nat} {v : Value} (h : lv[i]? = some v) (hn : v ≠ .null) : (i, rN r v) ∈ asc r lv := by
  refine List.mem_filterMap.mpr ⟨i, List.mem_range.mpr (List.getElem?_eq_some_iff.mp h).1, ?_⟩
  rw [if_neg (by rw [h]; exact fun q => hn (Option.some.inj q)), h]
  rfl
theorem asc_of {r : Nat → Nat} {lv : List Value} {q : Nat × Value} (h : q ∈ asc r lv) : ∃ v, lv[q.1]? = some v ∧ v ≠ .null ∧ q.2 = rN r v := by
  obtain ⟨i, -, hi⟩ := List.mem_filterMap.mp h
  split at hi
  · cases hi
  · rename_i hn
    cases hv : lv[i]? with
    | none => rw [hv] at hi; cases hi
    | some v =>
      rw [hv] at hi
      cases hi
      exact ⟨v, hv, fun q => hn (by rw [hv, q]), rfl⟩
theorem lH.has {r : Nat → Nat} {ls : Array Slot} {n : Nat} {lv : List Value} (h : lH r ls n lv) : lv_has ls n (asc r lv) := by
  refine ⟨h.1, h.2.1, fun q hq => ?_⟩
  obtain ⟨v, h1, h2, h3⟩ := asc_of hq
  rw [h3]
  exact h.2.2 _ v h1 h2
def nC (lv : List Value) : Nat → Bool
  | 0 => true
  | k + 1 => (lv.getD k .null).category != 2
theorem lH_st1 {r : Nat → Nat} {ls' : Array Slot} {n i : Nat} {lv : List Value} {v : Value} (hnc : nC lv i = true) (h : lv_has ls' n ((i, rN r v) :: (asc r lv).filter (fun q => !(q.1 == i) && !(q.1 + 1 == i && q.2.category == 2)))) : lH r ls' n (lv.set i v) := by
  refine ⟨h.1, h.2.1, fun j u hj hu => ?_⟩
  by_cases hji : j = i
  · subst hji
    have hl : j < lv.length := by
      have := (List.getElem?_eq_some_iff.mp hj).1
      simpa using this
    rw [List.getElem?_set_self hl] at hj
    cases hj
    exact h.2.2 (j, rN r v) List.mem_cons_self
  · rw [List.getElem?_set_ne (Ne.symm hji)] at hj
    refine h.2.2 (j, rN r u) (List.mem_cons_of_mem _ (List.mem_filter.mpr ⟨asc_mem hj hu, ?_⟩))
    have h1 : ¬ (j + 1 = i ∧ u.category = 2) := by
      rintro ⟨e1, e2⟩
      subst e1
      simp [nC, List.getD, hj, e2] at hnc
    simp only [rN_cat, Bool.and_eq_true, Bool.not_eq_true', beq_eq_false_iff_ne, ne_eq, Bool.and_eq_false_imp, beq_iff_eq]
    exact ⟨hji, fun e1 => by simpa using fun e2 => h1 ⟨e1, e2⟩⟩
theorem lH_st2 {r : Nat → Nat} {ls' : Array Slot} {n i : Nat} {lv : List Value} {v : Value} (hnc : nC lv i = true) (h : lv_has ls' n ((i, rN r v) :: (asc r lv).filter (fun q => !(q.1 == i) && (!(q.1 == i + 1) && !(q.1 + 1 == i && q.2.category == 2))))) : lH r ls' n ((lv.set i v).set (i + 1) .null) := by
  refine ⟨h.1, h.2.1, fun j u hj hu => ?_⟩
  by_cases hj1 : j = i + 1
  · subst hj1
    have hl : i + 1 < (lv.set i v).length := by
      have := (List.getElem?_eq_some_iff.mp hj).1
      simpa using this
    rw [List.getElem?_set_self hl] at hj
    cases hj
    exact absurd rfl hu
  rw [List.getElem?_set_ne (Ne.symm hj1)] at hj
  by_cases hji : j = i
  · subst hji
    have hl : j < lv.length := by
      have := (List.getElem?_eq_some_iff.mp hj).1
      simpa using this
    rw [List.getElem?_set_self hl] at hj
    cases hj
    exact h.2.2 (j, rN r v) List.mem_cons_self
  · rw [List.getElem?_set_ne (Ne.symm hji)] at hj
    refine h.2.2 (j, rN r u) (List.mem_cons_of_mem _ (List.mem_filter.mpr ⟨asc_mem hj hu, ?_⟩))
    have h1 : ¬ (j + 1 = i ∧ u.category = 2) := by
      rintro ⟨e1, e2⟩
      subst e1
      simp [nC, List.getD, hj, e2] at hnc
    simp only [rN_cat, Bool.and_eq_true, Bool.not_eq_true', beq_eq_false_iff_ne, ne_eq, Bool.and_eq_false_imp, beq_iff_eq]
    exact ⟨hji, hj1, fun e1 => by simpa using fun e2 => h1 ⟨e1, e2⟩⟩
abbrev GT : Type := Nat → List Value → List Value → Mm_ → Prop
def Gd (p : Program) (l : Launch) (e : Env) (R : Room) (s : State) (m : MethodId) (args : Array Value) (below : List Frame) (meth : Method) (c : Code) (cells slots : Nat) (Q : State → Prop) (X : Lt_) (A : Nat → Prop) (n : Nat) (pc : Nat) (lv stk : List Value) (M : Mm_) : Prop :=
  ∀ (H : Heap) (locs : List Loc) (ls : Array Slot), va_P X.1 vwCl (wO X M) H → va_S A s.heap H locs → lH X.2.1 ls n lv → W p l e R s m args below meth c H locs cells slots Q (F0 m pc ls (stk.map (rN X.2.1)))
def Cx (p : Program) (R : Room) (s : State) (m : MethodId) (args : Array Value) (c : Code) (cells slots : Nat) (X : Lt_) (A : Nat → Prop) (own : String) (cc : ByteArray) (n d : Nat) : Prop :=
  p.tables.exec = Jvm.exec ∧ c.code = cc ∧ c.maxLocals = n ∧ s.vm.findClass own = some m.cls ∧ (∀ w ∈ TB, w.before args s = true) ∧ Kn X A s s.heap ∧ (∀ q, AX X q → A q) ∧ d ≤ R.frames ∧ 60 * d ≤ R.locals ∧ cells ≤ R.cells ∧ slots ≤ R.slots
def Ru (G : GT) (own : String) (cc : ByteArray) (n d : Nat) : Prop := ∃ (p : Program) (l : Launch) (e : Env) (R : Room) (s : State) (m : MethodId) (args : Array Value) (below : List Frame) (meth : Method) (c : Code) (cells slots : Nat) (Q : State → Prop) (X : Lt_) (A : Nat → Prop),
  Cx p R s m args c cells slots X A own cc n d ∧ G = Gd p l e R s m args below meth c cells slots Q X A n
def rg (z : Int) : Prop := -2147483648 ≤ z ∧ z < 2147483648
theorem zI_add (a b : Int) : zI (a + b) = zI a + zI b := Int32.ofInt_add a b
theorem zI_sub (a b : Int) : zI (a - b) = zI a - zI b := Int32.ofInt_sub a b
theorem zI_mul (a b : Int) : zI (a * b) = zI a * zI b := Int32.ofInt_mul a b
theorem zI_toInt {a : Int} (h : rg a) : (zI a).toInt = a := Int32.toInt_ofInt_of_le h.1 h.2
theorem zI_of (x : Int32) : x = zI x.toInt := (Int32.ofInt_toInt x).symm
theorem rg_of (x : Int32) : rg x.toInt := ⟨Int32.le_toInt x, Int32.toInt_lt x⟩
theorem zI_lt {a b : Int} (ha : rg a) (hb : rg b) : zI a < zI b ↔ a < b := by rw [Int32.lt_iff_toInt_lt, zI_toInt ha, zI_toInt hb]
theorem zI_le {a b : Int} (ha : rg a) (hb : rg b) : zI a ≤ zI b ↔ a ≤ b := by rw [Int32.le_iff_toInt_le, zI_toInt ha, zI_toInt hb]
theorem zI_eq {a b : Int} (ha : rg a) (hb : rg b) : zI a = zI b ↔ a = b := by rw [← Int32.toInt_inj, zI_toInt ha, zI_toInt hb]
theorem zI_0 : zI 0 = 0 := rfl
theorem rg0 : rg 0 := ⟨by decide, by decide⟩
theorem zI_inj_in {z : Int} {k N : Nat} (hz : z = k) (hk : k < N) (hN : N < 2147483648) : vp_in (zI z) N := by
  subst hz
  rw [vp_in_iff, zI_toInt ⟨by omega, by omega⟩]
  omega
theorem zI_clamp {z : Int} {k N : Nat} (hz : z = k) (hk : k < N) (hN : N < 2147483648) : (zI z).toNatClampNeg = k := by
  show (zI z).toInt.toNat = k
  rw [zI_toInt ⟨by omega, by omega⟩, hz]
  rfl
theorem zI_nat (k : Nat) : zI (k : Int) = Int32.ofNat k := Int32.ofInt_eq_ofNat
theorem zI_div {a b : Int} (ha : 0 ≤ a) (hb : 0 < b) (ra : rg a) (rb : rg b) : zI a / zI b = zI (a / b) := by
  have h1 : a / b ≤ a := Int.ediv_le_self b ha
  have h0 : 0 ≤ a / b := Int.ediv_nonneg ha (by omega)
  have rd : rg (a / b) := ⟨by omega, by have := ra.2; omega⟩
  rw [← Int32.toInt_inj, Int32.toInt_div_of_ne_right, zI_toInt ra, zI_toInt rb, zI_toInt rd, Int.tdiv_eq_ediv_of_nonneg ha]
  intro h
  have := congrArg Int32.toInt h
  rw [zI_toInt rb] at this
  have e : (-1 : Int32).toInt = -1 := by decide
  omega
theorem zI_rem {a b : Int} (ha : 0 ≤ a) (hb : 0 < b) (ra : rg a) (rb : rg b) : zI a - zI a / zI b * zI b = zI (a % b) := by
  rw [zI_div ha hb ra rb, ← zI_mul, ← zI_sub]
  congr 1
  have h := Int.emod_def a b
  rw [Int.mul_comm] at h
  omega
theorem zI_ne0 {b : Int} (hb : b ≠ 0) (rb : rg b) : ¬ zI b = 0 := by
  rw [← zI_0, zI_eq rb rg0]
  exact hb

theorem r_iconst {G : GT} {own : String} {cc : ByteArray} {n d : Nat} (C : Ru G own cc n d) {pc : Nat} {lv stk : List Value} {M : Mm_} {k : Int} (hd : decode cc pc = .ok (.iconst k, 1)) (kk : G (pc + 1) lv (.int (zI k) :: stk) M) : G pc lv (stk) M := by
  obtain ⟨p, l, e, R, s, m, args, below, meth, c, cells, slots, Q, X, A, ⟨hx, hb, hml, hown, hts, hK, hA, hR1, hR2, hc, hs⟩, rfl⟩ := C
  intro H locs ls hP hS hl
  exact lv_iconst hx hb hd rfl (kk H locs ls hP hS hl)
theorem r_bipush {G : GT} {own : String} {cc : ByteArray} {n d : Nat} (C : Ru G own cc n d) {pc : Nat} {lv stk : List Value} {M : Mm_} {k : Int} (hv : (Int8.ofInt k).toInt32 = zI k) (hd : decode cc pc = .ok (.bipush k, 2)) (kk : G (pc + 2) lv (.int (zI k) :: stk) M) : G pc lv (stk) M := by
  obtain ⟨p, l, e, R, s, m, args, below, meth, c, cells, slots, Q, X, A, ⟨hx, hb, hml, hown, hts, hK, hA, hR1, hR2, hc, hs⟩, rfl⟩ := C
  intro H locs ls hP hS hl
  exact lv_bipush hx hb hd hv (kk H locs ls hP hS hl)
theorem r_sipush {G : GT} {own : String} {cc : ByteArray} {n d : Nat} (C : Ru G own cc n d) {pc : Nat} {lv stk : List Value} {M : Mm_} {k : Int} (hv : (Int16.ofInt k).toInt32 = zI k) (hd : decode cc pc = .ok (.sipush k, 3)) (kk : G (pc + 3) lv (.int (zI k) :: stk) M) : G pc lv (stk) M := by
  obtain ⟨p, l, e, R, s, m, args, below, meth, c, cells, slots, Q, X, A, ⟨hx, hb, hml, hown, hts, hK, hA, hR1, hR2, hc, hs⟩, rfl⟩ := C
  intro H locs ls hP hS hl
  exact lv_sipush hx hb hd hv (kk H locs ls hP hS hl)
theorem r_lconst {G : GT} {own : String} {cc : ByteArray} {n d : Nat} (C : Ru G own cc n d) {pc : Nat} {lv stk : List Value} {M : Mm_} {k : Fin 2} (hd : decode cc pc = .ok (.lconst k, 1)) (kk : G (pc + 1) lv (.long (Int64.ofNat (k : Nat)) :: stk) M) : G pc lv (stk) M := by
  obtain ⟨p, l, e, R, s, m, args, below, meth, c, cells, slots, Q, X, A, ⟨hx, hb, hml, hown, hts, hK, hA, hR1, hR2, hc, hs⟩, rfl⟩ := C
  intro H locs ls hP hS hl
  exact lv_lconst hx hb hd rfl (kk H locs ls hP hS hl)
theorem r_iload_n {G : GT} {own : String} {cc : ByteArray} {n d : Nat} (C : Ru G own cc n d) {pc : Nat} {lv stk : List Value} {M : Mm_} {k : Fin 4} {x : Int32} (hv : lv[(k : Nat)]? = some (.int x)) (hd : decode cc pc = .ok (.iload_n k, 1)) (kk : G (pc + 1) lv (.int x :: stk) M) : G pc lv (stk) M := by
  obtain ⟨p, l, e, R, s, m, args, below, meth, c, cells, slots, Q, X, A, ⟨hx, hb, hml, hown, hts, hK, hA, hR1, hR2, hc, hs⟩, rfl⟩ := C
  intro H locs ls hP hS hl
  exact lv_iload_n hx hb hd rfl (hl.2.2 _ _ hv (by intro q; cases q)) (kk H locs ls hP hS hl)
theorem r_iload {G : GT} {own : String} {cc : ByteArray} {n d : Nat} (C : Ru G own cc n d) {pc : Nat} {lv stk : List Value} {M : Mm_} {k : Nat} {x : Int32} (hv : lv[k]? = some (.int x)) (hd : decode cc pc = .ok (.iload k, 2)) (kk : G (pc + 2) lv (.int x :: stk) M) : G pc lv (stk) M := by
  obtain ⟨p, l, e, R, s, m, args, below, meth, c, cells, slots, Q, X, A, ⟨hx, hb, hml, hown, hts, hK, hA, hR1, hR2, hc, hs⟩, rfl⟩ := C
  intro H locs ls hP hS hl
  exact lv_iload hx hb hd (hl.2.2 _ _ hv (by intro q; cases q)) (kk H locs ls hP hS hl)
theorem r_lload_n {G : GT} {own : String} {cc : ByteArray} {n d : Nat} (C : Ru G own cc n d) {pc : Nat} {lv stk : List Value} {M : Mm_} {k : Fin 4} {x : Int64} (hv : lv[(k : Nat)]? = some (.long x)) (hd : decode cc pc = .ok (.lload_n k, 1)) (kk : G (pc + 1) lv (.long x :: stk) M) : G pc lv (stk) M := by
  obtain ⟨p, l, e, R, s, m, args, below, meth, c, cells, slots, Q, X, A, ⟨hx, hb, hml, hown, hts, hK, hA, hR1, hR2, hc, hs⟩, rfl⟩ := C
  intro H locs ls hP hS hl
  exact lv_lload_n hx hb hd rfl (hl.2.2 _ _ hv (by intro q; cases q)) (kk H locs ls hP hS hl)
theorem r_lload {G : GT} {own : String} {cc : ByteArray} {n d : Nat} (C : Ru G own cc n d) {pc : Nat} {lv stk : List Value} {M : Mm_} {k : Nat} {x : Int64} (hv : lv[k]? = some (.long x)) (hd : decode cc pc = .ok (.lload k, 2)) (kk : G (pc + 2) lv (.long x :: stk) M) : G pc lv (stk) M := by
  obtain ⟨p, l, e, R, s, m, args, below, meth, c, cells, slots, Q, X, A, ⟨hx, hb, hml, hown, hts, hK, hA, hR1, hR2, hc, hs⟩, rfl⟩ := C
  intro H locs ls hP hS hl
  exact lv_lload hx hb hd (hl.2.2 _ _ hv (by intro q; cases q)) (kk H locs ls hP hS hl)
theorem r_aload_n {G : GT} {own : String} {cc : ByteArray} {n d : Nat} (C : Ru G own cc n d) {pc : Nat} {lv stk : List Value} {M : Mm_} {k : Fin 4} {x : Nat} (hv : lv[(k : Nat)]? = some (.ref x)) (hd : decode cc pc = .ok (.aload_n k, 1)) (kk : G (pc + 1) lv (.ref x :: stk) M) : G pc lv (stk) M := by
  obtain ⟨p, l, e, R, s, m, args, below, meth, c, cells, slots, Q, X, A, ⟨hx, hb, hml, hown, hts, hK, hA, hR1, hR2, hc, hs⟩, rfl⟩ := C
  intro H locs ls hP hS hl
  exact lv_aload_n hx hb hd rfl (hl.2.2 _ _ hv (by intro q; cases q)) (kk H locs ls hP hS hl)
theorem r_aload {G : GT} {own : String} {cc : ByteArray} {n d : Nat} (C : Ru G own cc n d) {pc : Nat} {lv stk : List Value} {M : Mm_} {k : Nat} {x : Nat} (hv : lv[k]? = some (.ref x)) (hd : decode cc pc = .ok (.aload k, 2)) (kk : G (pc + 2) lv (.ref x :: stk) M) : G pc lv (stk) M := by
  obtain ⟨p, l, e, R, s, m, args, below, meth, c, cells, slots, Q, X, A, ⟨hx, hb, hml, hown, hts, hK, hA, hR1, hR2, hc, hs⟩, rfl⟩ := C
  intro H locs ls hP hS hl
  exact lv_aload hx hb hd (hl.2.2 _ _ hv (by intro q; cases q)) (kk H locs ls hP hS hl)
theorem r_istore_n {G : GT} {own : String} {cc : ByteArray} {n d : Nat} (C : Ru G own cc n d) {pc : Nat} {lv stk : List Value} {M : Mm_} {k : Fin 4} {x : Int32} (hd : decode cc pc = .ok (.istore_n k, 1)) (i : Nat) (hi : (k : Nat) = i) (hk : i < n) (hnc : nC lv i = true) (kk : G (pc + 1) (lv.set i (.int x)) stk M) : G pc lv (.int x :: stk) M := by
  obtain ⟨p, l, e, R, s, m, args, below, meth, c, cells, slots, Q, X, A, ⟨hx, hb, hml, hown, hts, hK, hA, hR1, hR2, hc, hs⟩, rfl⟩ := C
  subst hi
  intro H locs ls hP hS hl
  exact lv_istore_n hx hb hd rfl hl.has hk rfl (fun ls' h' => kk H locs ls' hP hS (lH_st1 (v := .int x) hnc h'))
theorem r_istore {G : GT} {own : String} {cc : ByteArray} {n d : Nat} (C : Ru G own cc n d) {pc : Nat} {lv stk : List Value} {M : Mm_} {k : Nat} {x : Int32} (hd : decode cc pc = .ok (.istore k, 2)) (i : Nat) (hi : (k : Nat) = i) (hk : i < n) (hnc : nC lv i = true) (kk : G (pc + 2) (lv.set i (.int x)) stk M) : G pc lv (.int x :: stk) M := by
  obtain ⟨p, l, e, R, s, m, args, below, meth, c, cells, slots, Q, X, A, ⟨hx, hb, hml, hown, hts, hK, hA, hR1, hR2, hc, hs⟩, rfl⟩ := C
  subst hi
  intro H locs ls hP hS hl
  exact lv_istore hx hb hd hl.has hk rfl (fun ls' h' => kk H locs ls' hP hS (lH_st1 (v := .int x) hnc h'))
theorem r_astore_n {G : GT} {own : String} {cc : ByteArray} {n d : Nat} (C : Ru G own cc n d) {pc : Nat} {lv stk : List Value} {M : Mm_} {k : Fin 4} {x : Nat} (hd : decode cc pc = .ok (.astore_n k, 1)) (i : Nat) (hi : (k : Nat) = i) (hk : i < n) (hnc : nC lv i = true) (kk : G (pc + 1) (lv.set i (.ref x)) stk M) : G pc lv (.ref x :: stk) M := by
  obtain ⟨p, l, e, R, s, m, args, below, meth, c, cells, slots, Q, X, A, ⟨hx, hb, hml, hown, hts, hK, hA, hR1, hR2, hc, hs⟩, rfl⟩ := C
  subst hi
  intro H locs ls hP hS hl
  exact lv_astore_n hx hb hd rfl hl.has hk rfl (fun ls' h' => kk H locs ls' hP hS (lH_st1 (v := .ref x) hnc h'))
theorem r_astore {G : GT} {own : String} {cc : ByteArray} {n d : Nat} (C : Ru G own cc n d) {pc : Nat} {lv stk : List Value} {M : Mm_} {k : Nat} {x : Nat} (hd : decode cc pc = .ok (.astore k, 2)) (i : Nat) (hi : (k : Nat) = i) (hk : i < n) (hnc : nC lv i = true) (kk : G (pc + 2) (lv.set i (.ref x)) stk M) : G pc lv (.ref x :: stk) M := by
  obtain ⟨p, l, e, R, s, m, args, below, meth, c, cells, slots, Q, X, A, ⟨hx, hb, hml, hown, hts, hK, hA, hR1, hR2, hc, hs⟩, rfl⟩ := C
  subst hi
  intro H locs ls hP hS hl
  exact lv_astore hx hb hd hl.has hk rfl (fun ls' h' => kk H locs ls' hP hS (lH_st1 (v := .ref x) hnc h'))
theorem r_lstore_n {G : GT} {own : String} {cc : ByteArray} {n d : Nat} (C : Ru G own cc n d) {pc : Nat} {lv stk : List Value} {M : Mm_} {k : Fin 4} {x : Int64} (hd : decode cc pc = .ok (.lstore_n k, 1)) (i : Nat) (hi : (k : Nat) = i) (hk : i + 1 < n) (hnc : nC lv i = true) (kk : G (pc + 1) ((lv.set i (.long x)).set (i + 1) .null) stk M) : G pc lv (.long x :: stk) M := by
  obtain ⟨p, l, e, R, s, m, args, below, meth, c, cells, slots, Q, X, A, ⟨hx, hb, hml, hown, hts, hK, hA, hR1, hR2, hc, hs⟩, rfl⟩ := C
  subst hi
  intro H locs ls hP hS hl
  exact lv_lstore_n hx hb hd rfl hl.has hk rfl (fun ls' h' => kk H locs ls' hP hS (lH_st2 (v := .long x) hnc h'))
theorem r_lstore {G : GT} {own : String} {cc : ByteArray} {n d : Nat} (C : Ru G own cc n d) {pc : Nat} {lv stk : List Value} {M : Mm_} {k : Nat} {x : Int64} (hd : decode cc pc = .ok (.lstore k, 2)) (i : Nat) (hi : (k : Nat) = i) (hk : i + 1 < n) (hnc : nC lv i = true) (kk : G (pc + 2) ((lv.set i (.long x)).set (i + 1) .null) stk M) : G pc lv (.long x :: stk) M := by
  obtain ⟨p, l, e, R, s, m, args, below, meth, c, cells, slots, Q, X, A, ⟨hx, hb, hml, hown, hts, hK, hA, hR1, hR2, hc, hs⟩, rfl⟩ := C
  subst hi
  intro H locs ls hP hS hl
  exact lv_lstore hx hb hd hl.has hk rfl (fun ls' h' => kk H locs ls' hP hS (lH_st2 (v := .long x) hnc h'))
theorem r_iinc {G : GT} {own : String} {cc : ByteArray} {n d : Nat} (C : Ru G own cc n d) {pc : Nat} {lv stk : List Value} {M : Mm_} {k : Nat} {i z : Int} (hd : decode cc pc = .ok (.iinc k i, 3)) (hv : lv[k]? = some (.int (zI z))) (hk : k < n) (hnc : nC lv k = true) (kk : G (pc + 3) (lv.set k (.int (zI (z + i)))) stk M) : G pc lv stk M := by
  obtain ⟨p, l, e, R, s, m, args, below, meth, c, cells, slots, Q, X, A, ⟨hx, hb, hml, hown, hts, hK, hA, hR1, hR2, hc, hs⟩, rfl⟩ := C
  intro H locs ls hP hS hl
  obtain ⟨j, hj⟩ := List.getElem?_of_mem (asc_mem (r := X.2.1) hv (by intro q; cases q))
  exact lv_iinc hx hb hd hl.has hj (show zI z + Int32.ofInt i = zI (z + i) from (zI_add z i).symm) hk rfl (fun ls' h' => kk H locs ls' hP hS (lH_st1 (v := .int (zI (z + i))) hnc h'))
theorem r_iadd {G : GT} {own : String} {cc : ByteArray} {n d : Nat} (C : Ru G own cc n d) {pc : Nat} {lv stk : List Value} {M : Mm_} {a b : Int} (hd : decode cc pc = .ok (.iadd, 1)) (kk : G (pc + 1) lv (.int (zI (a + b)) :: stk) M) : G pc lv (.int (zI b) :: .int (zI a) :: stk) M := by
  obtain ⟨p, l, e, R, s, m, args, below, meth, c, cells, slots, Q, X, A, ⟨hx, hb, hml, hown, hts, hK, hA, hR1, hR2, hc, hs⟩, rfl⟩ := C
  intro H locs ls hP hS hl
  refine lv_iadd hx hb hd ?_
  rw [← zI_add]
  exact kk H locs ls hP hS hl
theorem r_isub {G : GT} {own : String} {cc : ByteArray} {n d : Nat} (C : Ru G own cc n d) {pc : Nat} {lv stk : List Value} {M : Mm_} {a b : Int} (hd : decode cc pc = .ok (.isub, 1)) (kk : G (pc + 1) lv (.int (zI (a - b)) :: stk) M) : G pc lv (.int (zI b) :: .int (zI a) :: stk) M := by
  obtain ⟨p, l, e, R, s, m, args, below, meth, c, cells, slots, Q, X, A, ⟨hx, hb, hml, hown, hts, hK, hA, hR1, hR2, hc, hs⟩, rfl⟩ := C
  intro H locs ls hP hS hl
  refine lv_isub hx hb hd ?_
  rw [← zI_sub]
  exact kk H locs ls hP hS hl
theorem r_imul {G : GT} {own : String} {cc : ByteArray} {n d : Nat} (C : Ru G own cc n d) {pc : Nat} {lv stk : List Value} {M : Mm_} {a b : Int} (hd : decode cc pc = .ok (.imul, 1)) (kk : G (pc + 1) lv (.int (zI (a * b)) :: stk) M) : G pc lv (.int (zI b) :: .int (zI a) :: stk) M := by
  obtain ⟨p, l, e, R, s, m, args, below, meth, c, cells, slots, Q, X, A, ⟨hx, hb, hml, hown, hts, hK, hA, hR1, hR2, hc, hs⟩, rfl⟩ := C
  intro H locs ls hP hS hl
  refine lv_imul hx hb hd ?_
  rw [← zI_mul]
  exact kk H locs ls hP hS hl
theorem r_idiv {G : GT} {own : String} {cc : ByteArray} {n d : Nat} (C : Ru G own cc n d) {pc : Nat} {lv stk : List Value} {M : Mm_} {a b : Int} (ha : 0 ≤ a) (hb0 : 0 < b) (ra : rg a) (rb : rg b) (hd : decode cc pc = .ok (.idiv, 1)) (kk : G (pc + 1) lv (.int (zI (a / b)) :: stk) M) : G pc lv (.int (zI b) :: .int (zI a) :: stk) M := by
  obtain ⟨p, l, e, R, s, m, args, below, meth, c, cells, slots, Q, X, A, ⟨hx, hb, hml, hown, hts, hK, hA, hR1, hR2, hc, hs⟩, rfl⟩ := C
  intro H locs ls hP hS hl
  refine lv_idiv hx hb hd (zI_ne0 (by omega) rb) ?_
  rw [zI_div ha hb0 ra rb]
  exact kk H locs ls hP hS hl
theorem r_irem {G : GT} {own : String} {cc : ByteArray} {n d : Nat} (C : Ru G own cc n d) {pc : Nat} {lv stk : List Value} {M : Mm_} {a b : Int} (ha : 0 ≤ a) (hb0 : 0 < b) (ra : rg a) (rb : rg b) (hd : decode cc pc = .ok (.irem, 1)) (kk : G (pc + 1) lv (.int (zI (a % b)) :: stk) M) : G pc lv (.int (zI b) :: .int (zI a) :: stk) M := by
  obtain ⟨p, l, e, R, s, m, args, below, meth, c, cells, slots, Q, X, A, ⟨hx, hb, hml, hown, hts, hK, hA, hR1, hR2, hc, hs⟩, rfl⟩ := C
  intro H locs ls hP hS hl
  refine lv_irem hx hb hd (zI_ne0 (by omega) rb) ?_
  rw [zI_rem ha hb0 ra rb]
  exact kk H locs ls hP hS hl
theorem r_iand {G : GT} {own : String} {cc : ByteArray} {n d : Nat} (C : Ru G own cc n d) {pc : Nat} {lv stk : List Value} {M : Mm_} {x y : Int32} {v : Int} (hv : x &&& y = zI v) (hd : decode cc pc = .ok (.iand, 1)) (kk : G (pc + 1) lv (.int (zI v) :: stk) M) : G pc lv (.int y :: .int x :: stk) M := by
  obtain ⟨p, l, e, R, s, m, args, below, meth, c, cells, slots, Q, X, A, ⟨hx, hb, hml, hown, hts, hK, hA, hR1, hR2, hc, hs⟩, rfl⟩ := C
  intro H locs ls hP hS hl
  refine lv_iand hx hb hd ?_
  rw [hv]
  exact kk H locs ls hP hS hl
theorem r_ior {G : GT} {own : String} {cc : ByteArray} {n d : Nat} (C : Ru G own cc n d) {pc : Nat} {lv stk : List Value} {M : Mm_} {x y : Int32} {v : Int} (hv : x ||| y = zI v) (hd : decode cc pc = .ok (.ior, 1)) (kk : G (pc + 1) lv (.int (zI v) :: stk) M) : G pc lv (.int y :: .int x :: stk) M := by
  obtain ⟨p, l, e, R, s, m, args, below, meth, c, cells, slots, Q, X, A, ⟨hx, hb, hml, hown, hts, hK, hA, hR1, hR2, hc, hs⟩, rfl⟩ := C
  intro H locs ls hP hS hl
  refine lv_ior hx hb hd ?_
  rw [hv]
  exact kk H locs ls hP hS hl
theorem r_ixor {G : GT} {own : String} {cc : ByteArray} {n d : Nat} (C : Ru G own cc n d) {pc : Nat} {lv stk : List Value} {M : Mm_} {x y : Int32} {v : Int} (hv : x ^^^ y = zI v) (hd : decode cc pc = .ok (.ixor, 1)) (kk : G (pc + 1) lv (.int (zI v) :: stk) M) : G pc lv (.int y :: .int x :: stk) M := by
  obtain ⟨p, l, e, R, s, m, args, below, meth, c, cells, slots, Q, X, A, ⟨hx, hb, hml, hown, hts, hK, hA, hR1, hR2, hc, hs⟩, rfl⟩ := C
  intro H locs ls hP hS hl
  refine lv_ixor hx hb hd ?_
  rw [hv]
  exact kk H locs ls hP hS hl
theorem r_ishl {G : GT} {own : String} {cc : ByteArray} {n d : Nat} (C : Ru G own cc n d) {pc : Nat} {lv stk : List Value} {M : Mm_} {x y : Int32} {v : Int} (hv : x <<< (y &&& 31) = zI v) (hd : decode cc pc = .ok (.ishl, 1)) (kk : G (pc + 1) lv (.int (zI v) :: stk) M) : G pc lv (.int y :: .int x :: stk) M := by
  obtain ⟨p, l, e, R, s, m, args, below, meth, c, cells, slots, Q, X, A, ⟨hx, hb, hml, hown, hts, hK, hA, hR1, hR2, hc, hs⟩, rfl⟩ := C
  intro H locs ls hP hS hl
  refine lv_ishl hx hb hd ?_
  rw [hv]
  exact kk H locs ls hP hS hl
theorem r_ishr {G : GT} {own : String} {cc : ByteArray} {n d : Nat} (C : Ru G own cc n d) {pc : Nat} {lv stk : List Value} {M : Mm_} {x y : Int32} {v : Int} (hv : x >>> (y &&& 31) = zI v) (hd : decode cc pc = .ok (.ishr, 1)) (kk : G (pc + 1) lv (.int (zI v) :: stk) M) : G pc lv (.int y :: .int x :: stk) M := by
  obtain ⟨p, l, e, R, s, m, args, below, meth, c, cells, slots, Q, X, A, ⟨hx, hb, hml, hown, hts, hK, hA, hR1, hR2, hc, hs⟩, rfl⟩ := C
  intro H locs ls hP hS hl
  refine lv_ishr hx hb hd ?_
  rw [hv]
  exact kk H locs ls hP hS hl
theorem r_iushr {G : GT} {own : String} {cc : ByteArray} {n d : Nat} (C : Ru G own cc n d) {pc : Nat} {lv stk : List Value} {M : Mm_} {x y : Int32} {v : Int32} (hv : (x.toUInt32 >>> (y.toUInt32 &&& Int32.toUInt32 31)).toInt32 = v) (hd : decode cc pc = .ok (.iushr, 1)) (kk : G (pc + 1) lv (.int v :: stk) M) : G pc lv (.int y :: .int x :: stk) M := by
  obtain ⟨p, l, e, R, s, m, args, below, meth, c, cells, slots, Q, X, A, ⟨hx, hb, hml, hown, hts, hK, hA, hR1, hR2, hc, hs⟩, rfl⟩ := C
  intro H locs ls hP hS hl
  exact lv_iushr hx hb hd hv (kk H locs ls hP hS hl)
theorem r_iaddR {G : GT} {own : String} {cc : ByteArray} {n d : Nat} (C : Ru G own cc n d) {pc : Nat} {lv stk : List Value} {M : Mm_} {x y : Int32} (hd : decode cc pc = .ok (.iadd, 1)) (kk : G (pc + 1) lv (.int (x + y) :: stk) M) : G pc lv (.int y :: .int x :: stk) M := by
  obtain ⟨p, l, e, R, s, m, args, below, meth, c, cells, slots, Q, X, A, ⟨hx, hb, hml, hown, hts, hK, hA, hR1, hR2, hc, hs⟩, rfl⟩ := C
  intro H locs ls hP hS hl
  exact lv_iadd hx hb hd (kk H locs ls hP hS hl)
theorem r_isubR {G : GT} {own : String} {cc : ByteArray} {n d : Nat} (C : Ru G own cc n d) {pc : Nat} {lv stk : List Value} {M : Mm_} {x y : Int32} (hd : decode cc pc = .ok (.isub, 1)) (kk : G (pc + 1) lv (.int (x - y) :: stk) M) : G pc lv (.int y :: .int x :: stk) M := by
  obtain ⟨p, l, e, R, s, m, args, below, meth, c, cells, slots, Q, X, A, ⟨hx, hb, hml, hown, hts, hK, hA, hR1, hR2, hc, hs⟩, rfl⟩ := C
  intro H locs ls hP hS hl
  exact lv_isub hx hb hd (kk H locs ls hP hS hl)
theorem r_iandR {G : GT} {own : String} {cc : ByteArray} {n d : Nat} (C : Ru G own cc n d) {pc : Nat} {lv stk : List Value} {M : Mm_} {x y : Int32} (hd : decode cc pc = .ok (.iand, 1)) (kk : G (pc + 1) lv (.int (x &&& y) :: stk) M) : G pc lv (.int y :: .int x :: stk) M := by
  obtain ⟨p, l, e, R, s, m, args, below, meth, c, cells, slots, Q, X, A, ⟨hx, hb, hml, hown, hts, hK, hA, hR1, hR2, hc, hs⟩, rfl⟩ := C
  intro H locs ls hP hS hl
  exact lv_iand hx hb hd (kk H locs ls hP hS hl)
theorem r_ladd {G : GT} {own : String} {cc : ByteArray} {n d : Nat} (C : Ru G own cc n d) {pc : Nat} {lv stk : List Value} {M : Mm_} {x y : Int64} (hd : decode cc pc = .ok (.ladd, 1)) (kk : G (pc + 1) lv (.long (x + y) :: stk) M) : G pc lv (.long y :: .long x :: stk) M := by
  obtain ⟨p, l, e, R, s, m, args, below, meth, c, cells, slots, Q, X, A, ⟨hx, hb, hml, hown, hts, hK, hA, hR1, hR2, hc, hs⟩, rfl⟩ := C
  intro H locs ls hP hS hl
  exact lv_ladd hx hb hd (kk H locs ls hP hS hl)
theorem r_lsub {G : GT} {own : String} {cc : ByteArray} {n d : Nat} (C : Ru G own cc n d) {pc : Nat} {lv stk : List Value} {M : Mm_} {x y : Int64} (hd : decode cc pc = .ok (.lsub, 1)) (kk : G (pc + 1) lv (.long (x - y) :: stk) M) : G pc lv (.long y :: .long x :: stk) M := by
  obtain ⟨p, l, e, R, s, m, args, below, meth, c, cells, slots, Q, X, A, ⟨hx, hb, hml, hown, hts, hK, hA, hR1, hR2, hc, hs⟩, rfl⟩ := C
  intro H locs ls hP hS hl
  exact lv_lsub hx hb hd (kk H locs ls hP hS hl)
theorem r_lmul {G : GT} {own : String} {cc : ByteArray} {n d : Nat} (C : Ru G own cc n d) {pc : Nat} {lv stk : List Value} {M : Mm_} {x y : Int64} (hd : decode cc pc = .ok (.lmul, 1)) (kk : G (pc + 1) lv (.long (x * y) :: stk) M) : G pc lv (.long y :: .long x :: stk) M := by
  obtain ⟨p, l, e, R, s, m, args, below, meth, c, cells, slots, Q, X, A, ⟨hx, hb, hml, hown, hts, hK, hA, hR1, hR2, hc, hs⟩, rfl⟩ := C
  intro H locs ls hP hS hl
  exact lv_lmul hx hb hd (kk H locs ls hP hS hl)
theorem r_land {G : GT} {own : String} {cc : ByteArray} {n d : Nat} (C : Ru G own cc n d) {pc : Nat} {lv stk : List Value} {M : Mm_} {x y : Int64} (hd : decode cc pc = .ok (.land, 1)) (kk : G (pc + 1) lv (.long (x &&& y) :: stk) M) : G pc lv (.long y :: .long x :: stk) M := by
  obtain ⟨p, l, e, R, s, m, args, below, meth, c, cells, slots, Q, X, A, ⟨hx, hb, hml, hown, hts, hK, hA, hR1, hR2, hc, hs⟩, rfl⟩ := C
  intro H locs ls hP hS hl
  exact lv_land hx hb hd (kk H locs ls hP hS hl)
theorem r_lrem {G : GT} {own : String} {cc : ByteArray} {n d : Nat} (C : Ru G own cc n d) {pc : Nat} {lv stk : List Value} {M : Mm_} {x y : Int64} (hy : ¬ y = 0) (hd : decode cc pc = .ok (.lrem, 1)) (kk : G (pc + 1) lv (.long (x - x / y * y) :: stk) M) : G pc lv (.long y :: .long x :: stk) M := by
  obtain ⟨p, l, e, R, s, m, args, below, meth, c, cells, slots, Q, X, A, ⟨hx, hb, hml, hown, hts, hK, hA, hR1, hR2, hc, hs⟩, rfl⟩ := C
  intro H locs ls hP hS hl
  exact lv_lrem hx hb hd hy (kk H locs ls hP hS hl)
theorem r_i2l {G : GT} {own : String} {cc : ByteArray} {n d : Nat} (C : Ru G own cc n d) {pc : Nat} {lv stk : List Value} {M : Mm_} {x : Int32} (hd : decode cc pc = .ok (.i2l, 1)) (kk : G (pc + 1) lv (.long x.toInt64 :: stk) M) : G pc lv (.int x :: stk) M := by
  obtain ⟨p, l, e, R, s, m, args, below, meth, c, cells, slots, Q, X, A, ⟨hx, hb, hml, hown, hts, hK, hA, hR1, hR2, hc, hs⟩, rfl⟩ := C
  intro H locs ls hP hS hl
  exact lv_i2l hx hb hd rfl (kk H locs ls hP hS hl)
theorem r_l2i {G : GT} {own : String} {cc : ByteArray} {n d : Nat} (C : Ru G own cc n d) {pc : Nat} {lv stk : List Value} {M : Mm_} {x : Int64} (hd : decode cc pc = .ok (.l2i, 1)) (kk : G (pc + 1) lv (.int x.toInt32 :: stk) M) : G pc lv (.long x :: stk) M := by
  obtain ⟨p, l, e, R, s, m, args, below, meth, c, cells, slots, Q, X, A, ⟨hx, hb, hml, hown, hts, hK, hA, hR1, hR2, hc, hs⟩, rfl⟩ := C
  intro H locs ls hP hS hl
  exact lv_l2i hx hb hd rfl (kk H locs ls hP hS hl)
theorem r_i2c {G : GT} {own : String} {cc : ByteArray} {n d : Nat} (C : Ru G own cc n d) {pc : Nat} {lv stk : List Value} {M : Mm_} {x v : Int32} (hv : (x.toUInt32 % 65536).toInt32 = v) (hd : decode cc pc = .ok (.i2c, 1)) (kk : G (pc + 1) lv (.int v :: stk) M) : G pc lv (.int x :: stk) M := by
  obtain ⟨p, l, e, R, s, m, args, below, meth, c, cells, slots, Q, X, A, ⟨hx, hb, hml, hown, hts, hK, hA, hR1, hR2, hc, hs⟩, rfl⟩ := C
  intro H locs ls hP hS hl
  exact lv_i2c hx hb hd hv (kk H locs ls hP hS hl)
theorem r_lcmp {G : GT} {own : String} {cc : ByteArray} {n d : Nat} (C : Ru G own cc n d) {pc : Nat} {lv stk : List Value} {M : Mm_} {x y : Int64} (hd : decode cc pc = .ok (.lcmp, 1)) (kk : G (pc + 1) lv (.int (lg_cmp x y) :: stk) M) : G pc lv (.long y :: .long x :: stk) M := by
  obtain ⟨p, l, e, R, s, m, args, below, meth, c, cells, slots, Q, X, A, ⟨hx, hb, hml, hown, hts, hK, hA, hR1, hR2, hc, hs⟩, rfl⟩ := C
  intro H locs ls hP hS hl
  exact W.lcmp hx hb hd (kk H locs ls hP hS hl)
theorem r_dup {G : GT} {own : String} {cc : ByteArray} {n d : Nat} (C : Ru G own cc n d) {pc : Nat} {lv stk : List Value} {M : Mm_} {v : Value} (hv : v.category = 1) (hd : decode cc pc = .ok (.dup, 1)) (kk : G (pc + 1) lv (v :: v :: stk) M) : G pc lv (v :: stk) M := by
  obtain ⟨p, l, e, R, s, m, args, below, meth, c, cells, slots, Q, X, A, ⟨hx, hb, hml, hown, hts, hK, hA, hR1, hR2, hc, hs⟩, rfl⟩ := C
  intro H locs ls hP hS hl
  exact lv_dup hx hb hd (by rw [rN_cat]; exact hv) (kk H locs ls hP hS hl)
theorem r_pop {G : GT} {own : String} {cc : ByteArray} {n d : Nat} (C : Ru G own cc n d) {pc : Nat} {lv stk : List Value} {M : Mm_} {v : Value} (hv : v.category = 1) (hd : decode cc pc = .ok (.pop, 1)) (kk : G (pc + 1) lv (stk) M) : G pc lv (v :: stk) M := by
  obtain ⟨p, l, e, R, s, m, args, below, meth, c, cells, slots, Q, X, A, ⟨hx, hb, hml, hown, hts, hK, hA, hR1, hR2, hc, hs⟩, rfl⟩ := C
  intro H locs ls hP hS hl
  exact lv_pop hx hb hd (by rw [rN_cat]; exact hv) (kk H locs ls hP hS hl)
theorem r_dup2 {G : GT} {own : String} {cc : ByteArray} {n d : Nat} (C : Ru G own cc n d) {pc : Nat} {lv stk : List Value} {M : Mm_} {v u : Value} (hv : v.category = 1) (hu : u.category = 1) (hd : decode cc pc = .ok (.dup2, 1)) (kk : G (pc + 1) lv (v :: u :: v :: u :: stk) M) : G pc lv (v :: u :: stk) M := by
  obtain ⟨p, l, e, R, s, m, args, below, meth, c, cells, slots, Q, X, A, ⟨hx, hb, hml, hown, hts, hK, hA, hR1, hR2, hc, hs⟩, rfl⟩ := C
  intro H locs ls hP hS hl
  exact lv_dup2_11 hx hb hd (by rw [rN_cat]; exact hv) (by rw [rN_cat]; exact hu) (kk H locs ls hP hS hl)
theorem r_icmp_eq {G : GT} {own : String} {cc : ByteArray} {n d : Nat} (C : Ru G own cc n d) {pc : Nat} {lv stk : List Value} {M : Mm_} {a b : Int} {off : Int} {tgt : Nat} (hd : decode cc pc = .ok (.if_icmp .eq off, 3)) (ht : (pc : Int) + off = (tgt : Int)) (ha : rg a) (hb2 : rg b) (kt : a = b → G tgt lv stk M) (kf : ¬ (a = b) → G (pc + 3) lv stk M) : G pc lv (.int (zI b) :: .int (zI a) :: stk) M := by
  obtain ⟨p, l, e, R, s, m, args, below, meth, c, cells, slots, Q, X, A, ⟨hx, hb, hml, hown, hts, hK, hA, hR1, hR2, hc, hs⟩, rfl⟩ := C
  intro H locs ls hP hS hl
  have hi := zI_eq ha hb2
  exact lv_icmp_eq hx hb hd ht (fun q => kt (hi.mp q) H locs ls hP hS hl) (fun q => kf (fun z => q (hi.mpr z)) H locs ls hP hS hl)
theorem r_if_eq {G : GT} {own : String} {cc : ByteArray} {n d : Nat} (C : Ru G own cc n d) {pc : Nat} {lv stk : List Value} {M : Mm_} {a : Int} {off : Int} {tgt : Nat} (hd : decode cc pc = .ok (.ifCond .eq off, 3)) (ht : (pc : Int) + off = (tgt : Int)) (ha : rg a) (kt : a = 0 → G tgt lv stk M) (kf : ¬ (a = 0) → G (pc + 3) lv stk M) : G pc lv (.int (zI a) :: stk) M := by
  obtain ⟨p, l, e, R, s, m, args, below, meth, c, cells, slots, Q, X, A, ⟨hx, hb, hml, hown, hts, hK, hA, hR1, hR2, hc, hs⟩, rfl⟩ := C
  intro H locs ls hP hS hl
  have hi := zI_eq ha rg0
  exact lv_if_eq hx hb hd ht (fun q => kt (hi.mp q) H locs ls hP hS hl) (fun q => kf (fun z => q (hi.mpr z)) H locs ls hP hS hl)
theorem r_icmp_ne {G : GT} {own : String} {cc : ByteArray} {n d : Nat} (C : Ru G own cc n d) {pc : Nat} {lv stk : List Value} {M : Mm_} {a b : Int} {off : Int} {tgt : Nat} (hd : decode cc pc = .ok (.if_icmp .ne off, 3)) (ht : (pc : Int) + off = (tgt : Int)) (ha : rg a) (hb2 : rg b) (kt : ¬ a = b → G tgt lv stk M) (kf : a = b → G (pc + 3) lv stk M) : G pc lv (.int (zI b) :: .int (zI a) :: stk) M := by
  obtain ⟨p, l, e, R, s, m, args, below, meth, c, cells, slots, Q, X, A, ⟨hx, hb, hml, hown, hts, hK, hA, hR1, hR2, hc, hs⟩, rfl⟩ := C
  intro H locs ls hP hS hl
  have hi := zI_eq ha hb2
  exact lv_icmp_ne hx hb hd ht (fun q => kt (fun z => q (hi.mpr z)) H locs ls hP hS hl) (fun q => kf (hi.mp q) H locs ls hP hS hl)
theorem r_if_ne {G : GT} {own : String} {cc : ByteArray} {n d : Nat} (C : Ru G own cc n d) {pc : Nat} {lv stk : List Value} {M : Mm_} {a : Int} {off : Int} {tgt : Nat} (hd : decode cc pc = .ok (.ifCond .ne off, 3)) (ht : (pc : Int) + off = (tgt : Int)) (ha : rg a) (kt : ¬ a = 0 → G tgt lv stk M) (kf : a = 0 → G (pc + 3) lv stk M) : G pc lv (.int (zI a) :: stk) M := by
  obtain ⟨p, l, e, R, s, m, args, below, meth, c, cells, slots, Q, X, A, ⟨hx, hb, hml, hown, hts, hK, hA, hR1, hR2, hc, hs⟩, rfl⟩ := C
  intro H locs ls hP hS hl
  have hi := zI_eq ha rg0
  exact lv_if_ne hx hb hd ht (fun q => kt (fun z => q (hi.mpr z)) H locs ls hP hS hl) (fun q => kf (hi.mp q) H locs ls hP hS hl)
theorem r_icmp_lt {G : GT} {own : String} {cc : ByteArray} {n d : Nat} (C : Ru G own cc n d) {pc : Nat} {lv stk : List Value} {M : Mm_} {a b : Int} {off : Int} {tgt : Nat} (hd : decode cc pc = .ok (.if_icmp .lt off, 3)) (ht : (pc : Int) + off = (tgt : Int)) (ha : rg a) (hb2 : rg b) (kt : a < b → G tgt lv stk M) (kf : ¬ (a < b) → G (pc + 3) lv stk M) : G pc lv (.int (zI b) :: .int (zI a) :: stk) M := by
  obtain ⟨p, l, e, R, s, m, args, below, meth, c, cells, slots, Q, X, A, ⟨hx, hb, hml, hown, hts, hK, hA, hR1, hR2, hc, hs⟩, rfl⟩ := C
  intro H locs ls hP hS hl
  have hi := zI_lt ha hb2
  exact lv_icmp_lt hx hb hd ht (fun q => kt (hi.mp q) H locs ls hP hS hl) (fun q => kf (fun z => q (hi.mpr z)) H locs ls hP hS hl)
theorem r_if_lt {G : GT} {own : String} {cc : ByteArray} {n d : Nat} (C : Ru G own cc n d) {pc : Nat} {lv stk : List Value} {M : Mm_} {a : Int} {off : Int} {tgt : Nat} (hd : decode cc pc = .ok (.ifCond .lt off, 3)) (ht : (pc : Int) + off = (tgt : Int)) (ha : rg a) (kt : a < 0 → G tgt lv stk M) (kf : ¬ (a < 0) → G (pc + 3) lv stk M) : G pc lv (.int (zI a) :: stk) M := by
  obtain ⟨p, l, e, R, s, m, args, below, meth, c, cells, slots, Q, X, A, ⟨hx, hb, hml, hown, hts, hK, hA, hR1, hR2, hc, hs⟩, rfl⟩ := C
  intro H locs ls hP hS hl
  have hi := zI_lt ha rg0
  exact lv_if_lt hx hb hd ht (fun q => kt (hi.mp q) H locs ls hP hS hl) (fun q => kf (fun z => q (hi.mpr z)) H locs ls hP hS hl)
theorem r_icmp_ge {G : GT} {own : String} {cc : ByteArray} {n d : Nat} (C : Ru G own cc n d) {pc : Nat} {lv stk : List Value} {M : Mm_} {a b : Int} {off : Int} {tgt : Nat} (hd : decode cc pc = .ok (.if_icmp .ge off, 3)) (ht : (pc : Int) + off = (tgt : Int)) (ha : rg a) (hb2 : rg b) (kt : b ≤ a → G tgt lv stk M) (kf : ¬ (b ≤ a) → G (pc + 3) lv stk M) : G pc lv (.int (zI b) :: .int (zI a) :: stk) M := by
  obtain ⟨p, l, e, R, s, m, args, below, meth, c, cells, slots, Q, X, A, ⟨hx, hb, hml, hown, hts, hK, hA, hR1, hR2, hc, hs⟩, rfl⟩ := C
  intro H locs ls hP hS hl
  have hi := zI_le hb2 ha
  exact lv_icmp_ge hx hb hd ht (fun q => kt (hi.mp q) H locs ls hP hS hl) (fun q => kf (fun z => q (hi.mpr z)) H locs ls hP hS hl)
theorem r_if_ge {G : GT} {own : String} {cc : ByteArray} {n d : Nat} (C : Ru G own cc n d) {pc : Nat} {lv stk : List Value} {M : Mm_} {a : Int} {off : Int} {tgt : Nat} (hd : decode cc pc = .ok (.ifCond .ge off, 3)) (ht : (pc : Int) + off = (tgt : Int)) (ha : rg a) (kt : 0 ≤ a → G tgt lv stk M) (kf : ¬ (0 ≤ a) → G (pc + 3) lv stk M) : G pc lv (.int (zI a) :: stk) M := by
  obtain ⟨p, l, e, R, s, m, args, below, meth, c, cells, slots, Q, X, A, ⟨hx, hb, hml, hown, hts, hK, hA, hR1, hR2, hc, hs⟩, rfl⟩ := C
  intro H locs ls hP hS hl
  have hi := zI_le rg0 ha
  exact lv_if_ge hx hb hd ht (fun q => kt (hi.mp q) H locs ls hP hS hl) (fun q => kf (fun z => q (hi.mpr z)) H locs ls hP hS hl)
theorem r_icmp_gt {G : GT} {own : String} {cc : ByteArray} {n d : Nat} (C : Ru G own cc n d) {pc : Nat} {lv stk : List Value} {M : Mm_} {a b : Int} {off : Int} {tgt : Nat} (hd : decode cc pc = .ok (.if_icmp .gt off, 3)) (ht : (pc : Int) + off = (tgt : Int)) (ha : rg a) (hb2 : rg b) (kt : b < a → G tgt lv stk M) (kf : ¬ (b < a) → G (pc + 3) lv stk M) : G pc lv (.int (zI b) :: .int (zI a) :: stk) M := by
  obtain ⟨p, l, e, R, s, m, args, below, meth, c, cells, slots, Q, X, A, ⟨hx, hb, hml, hown, hts, hK, hA, hR1, hR2, hc, hs⟩, rfl⟩ := C
  intro H locs ls hP hS hl
  have hi := zI_lt hb2 ha
  exact lv_icmp_gt hx hb hd ht (fun q => kt (hi.mp q) H locs ls hP hS hl) (fun q => kf (fun z => q (hi.mpr z)) H locs ls hP hS hl)
theorem r_if_gt {G : GT} {own : String} {cc : ByteArray} {n d : Nat} (C : Ru G own cc n d) {pc : Nat} {lv stk : List Value} {M : Mm_} {a : Int} {off : Int} {tgt : Nat} (hd : decode cc pc = .ok (.ifCond .gt off, 3)) (ht : (pc : Int) + off = (tgt : Int)) (ha : rg a) (kt : 0 < a → G tgt lv stk M) (kf : ¬ (0 < a) → G (pc + 3) lv stk M) : G pc lv (.int (zI a) :: stk) M := by
  obtain ⟨p, l, e, R, s, m, args, below, meth, c, cells, slots, Q, X, A, ⟨hx, hb, hml, hown, hts, hK, hA, hR1, hR2, hc, hs⟩, rfl⟩ := C
  intro H locs ls hP hS hl
  have hi := zI_lt rg0 ha
  exact lv_if_gt hx hb hd ht (fun q => kt (hi.mp q) H locs ls hP hS hl) (fun q => kf (fun z => q (hi.mpr z)) H locs ls hP hS hl)
theorem r_icmp_le {G : GT} {own : String} {cc : ByteArray} {n d : Nat} (C : Ru G own cc n d) {pc : Nat} {lv stk : List Value} {M : Mm_} {a b : Int} {off : Int} {tgt : Nat} (hd : decode cc pc = .ok (.if_icmp .le off, 3)) (ht : (pc : Int) + off = (tgt : Int)) (ha : rg a) (hb2 : rg b) (kt : a ≤ b → G tgt lv stk M) (kf : ¬ (a ≤ b) → G (pc + 3) lv stk M) : G pc lv (.int (zI b) :: .int (zI a) :: stk) M := by
  obtain ⟨p, l, e, R, s, m, args, below, meth, c, cells, slots, Q, X, A, ⟨hx, hb, hml, hown, hts, hK, hA, hR1, hR2, hc, hs⟩, rfl⟩ := C
  intro H locs ls hP hS hl
  have hi := zI_le ha hb2
  exact lv_icmp_le hx hb hd ht (fun q => kt (hi.mp q) H locs ls hP hS hl) (fun q => kf (fun z => q (hi.mpr z)) H locs ls hP hS hl)
theorem r_if_le {G : GT} {own : String} {cc : ByteArray} {n d : Nat} (C : Ru G own cc n d) {pc : Nat} {lv stk : List Value} {M : Mm_} {a : Int} {off : Int} {tgt : Nat} (hd : decode cc pc = .ok (.ifCond .le off, 3)) (ht : (pc : Int) + off = (tgt : Int)) (ha : rg a) (kt : a ≤ 0 → G tgt lv stk M) (kf : ¬ (a ≤ 0) → G (pc + 3) lv stk M) : G pc lv (.int (zI a) :: stk) M := by
  obtain ⟨p, l, e, R, s, m, args, below, meth, c, cells, slots, Q, X, A, ⟨hx, hb, hml, hown, hts, hK, hA, hR1, hR2, hc, hs⟩, rfl⟩ := C
  intro H locs ls hP hS hl
  have hi := zI_le ha rg0
  exact lv_if_le hx hb hd ht (fun q => kt (hi.mp q) H locs ls hP hS hl) (fun q => kf (fun z => q (hi.mpr z)) H locs ls hP hS hl)
theorem r_goto {G : GT} {own : String} {cc : ByteArray} {n d : Nat} (C : Ru G own cc n d) {pc : Nat} {lv stk : List Value} {M : Mm_} {off : Int} {tgt : Nat} (hd : decode cc pc = .ok (.goto off, 3)) (ht : (pc : Int) + off = (tgt : Int)) (kk : G tgt lv stk M) : G pc lv stk M := by
  obtain ⟨p, l, e, R, s, m, args, below, meth, c, cells, slots, Q, X, A, ⟨hx, hb, hml, hown, hts, hK, hA, hR1, hR2, hc, hs⟩, rfl⟩ := C
  intro H locs ls hP hS hl
  exact lv_goto hx hb hd ht (kk H locs ls hP hS hl)
theorem r_tout {G : GT} {own : String} {cc : ByteArray} {n d : Nat} (C : Ru G own cc n d) {pc : Nat} {lv stk : List Value} {M : Mm_} {a : Int} {df lo hi : Int} {offs : Array Int} {len tgt : Nat} (hd : decode cc pc = .ok (.tableswitch df lo hi offs, len)) (ra : rg a) (h : a < lo ∨ hi < a) (ht : (pc : Int) + df = (tgt : Int)) (kk : G tgt lv stk M) : G pc lv (.int (zI a) :: stk) M := by
  obtain ⟨p, l, e, R, s, m, args, below, meth, c, cells, slots, Q, X, A, ⟨hx, hb, hml, hown, hts, hK, hA, hR1, hR2, hc, hs⟩, rfl⟩ := C
  intro H locs ls hP hS hl
  exact lv_tableOut hx hb hd (by rw [zI_toInt ra]; exact h) ht (kk H locs ls hP hS hl)
theorem r_tin {G : GT} {own : String} {cc : ByteArray} {n d : Nat} (C : Ru G own cc n d) {pc : Nat} {lv stk : List Value} {M : Mm_} {a : Int} {df lo hi : Int} {offs : Array Int} {off : Int} {len tgt : Nat} (hd : decode cc pc = .ok (.tableswitch df lo hi offs, len)) (ra : rg a) (h1 : ¬ a < lo) (h2 : ¬ hi < a) (ho : offs[(a - lo).toNat]? = some off) (ht : (pc : Int) + off = (tgt : Int)) (kk : G tgt lv stk M) : G pc lv (.int (zI a) :: stk) M := by
  obtain ⟨p, l, e, R, s, m, args, below, meth, c, cells, slots, Q, X, A, ⟨hx, hb, hml, hown, hts, hK, hA, hR1, hR2, hc, hs⟩, rfl⟩ := C
  intro H locs ls hP hS hl
  exact lv_tableIn hx hb hd (by rw [zI_toInt ra]; exact h1) (by rw [zI_toInt ra]; exact h2) (by rw [zI_toInt ra]; exact ho) ht (kk H locs ls hP hS hl)
theorem r_look {G : GT} {own : String} {cc : ByteArray} {n d : Nat} (C : Ru G own cc n d) {pc : Nat} {lv stk : List Value} {M : Mm_} {a : Int} {df : Int} {ps : Array (Int × Int)} {off : Int} {len tgt : Nat} (hd : decode cc pc = .ok (.lookupswitch df ps, len)) (ra : rg a) (hp : (ps.toList.zip (ps.toList.drop 1)).all (fun (a, next) => a.1 < next.1) = true) (ho : Op.lookupswitch.offset ps.toList df a = off) (ht : (pc : Int) + off = (tgt : Int)) (kk : G tgt lv stk M) : G pc lv (.int (zI a) :: stk) M := by
  obtain ⟨p, l, e, R, s, m, args, below, meth, c, cells, slots, Q, X, A, ⟨hx, hb, hml, hown, hts, hK, hA, hR1, hR2, hc, hs⟩, rfl⟩ := C
  intro H locs ls hP hS hl
  exact lv_lookup hx hb hd hp (by rw [zI_toInt ra]; exact ho) ht (kk H locs ls hP hS hl)

/-- a class by its number: its name, table, slots, types -/
def cT : Nat → String × u_T × Nat × (Nat → FieldType)
  | 0 => (RX0, TX0, 6, tyX0)
  | 1 => (RX1, TX1, 2, tyX1)
  | 2 => (RX2, TX2, 4, tyX2)
  | 3 => (RX3, TX3, 11, tyX3)
  | 4 => (RX5, TX5, 6, tyX5)
  | 5 => (RX6, TX6, 9, tyX6)
  | _ => (RX7, TX7, 40, tyX7)
theorem cT_ok {ci : Nat} (h : ci < 7) : vwCl[ci]? = some ((cT ci).1, (cT ci).2.1, (cT ci).2.2.1) ∧ (∀ w ∈ u_ws (cT ci).1 (cT ci).2.1 (cT ci).2.2.1, w ∈ TB) ∧ (∀ k, k < (cT ci).2.2.1 → parseFieldDescriptor ((cT ci).2.1 k).2.2.1 = some ((cT ci).2.2.2 k)) ∧ (∀ a, a < (cT ci).2.2.1 → ∀ b, b < (cT ci).2.2.1 → a ≠ b → ((cT ci).2.1 a).2.1 ≠ ((cT ci).2.1 b).2.1) := by
  rcases (show ci = 0 ∨ ci = 1 ∨ ci = 2 ∨ ci = 3 ∨ ci = 4 ∨ ci = 5 ∨ ci = 6 by omega) with rfl | rfl | rfl | rfl | rfl | rfl | rfl
  · exact ⟨rfl, by decide +kernel, tyX0_ok, nmX0⟩
  · exact ⟨rfl, by decide +kernel, tyX1_ok, nmX1⟩
  · exact ⟨rfl, by decide +kernel, tyX2_ok, nmX2⟩
  · exact ⟨rfl, by decide +kernel, tyX3_ok, nmX3⟩
  · exact ⟨rfl, by decide +kernel, tyX5_ok, nmX5⟩
  · exact ⟨rfl, by decide +kernel, tyX6_ok, nmX6⟩
  · exact ⟨rfl, by decide +kernel, tyX7_ok, nmX7⟩
theorem lyT_ci {i ci : Nat} {cs : List Nat} (h : lyT[i]? = some (1, ci, cs)) : ci < 7 ∧ cs.length = (cT ci).2.2.1 := by
  have hq : ∀ j, j < 69 → (lyT.getD j (0, 0, [])).1 = 1 → (lyT.getD j (0, 0, [])).2.1 < 7 ∧ (lyT.getD j (0, 0, [])).2.2.length = (cT (lyT.getD j (0, 0, [])).2.1).2.2.1 := by decide +kernel
  have h1 := hq i (lyT_lt h)
  rw [show lyT.getD i (0, 0, []) = (1, ci, cs) by simp [List.getD, h]] at h1
  exact h1 rfl
/-- the link of a field: own's entry idx is field k of class ci -/
def FL (own : String) (idx ci k : Nat) : Prop := k < (cT ci).2.2.1 ∧ (Cond.fieldLink own idx ((cT ci).2.1 k).1 ((cT ci).2.1 k).2.1 ((cT ci).2.1 k).2.2.1 ∈ TB ∨ Cond.fieldLinkNest own idx ((cT ci).2.1 k).1 ((cT ci).2.1 k).2.1 ((cT ci).2.1 k).2.2.1 "GrudgeRennet" ∈ nsT)
theorem fL_at {X : Lt_} {M : Mm_} {i k c : Nat} {cs : List Nat} (hk : cs[k]? = some c) : ((fL M i 0 cs).map (rN X.2.1))[k]? = some (rN X.2.1 (fV M i k c)) := by
  rw [List.getElem?_map, fL_get, hk]
  simp

theorem r_get {G : GT} {own : String} {cc : ByteArray} {n d : Nat} (C : Ru G own cc n d) {pc : Nat} {lv stk : List Value} {M : Mm_} {idx i ci k cd : Nat} {cs : List Nat} (hd : decode cc pc = .ok (.getfield idx, 3)) (hf : FL own idx ci k) (hi : lyT[i]? = some (1, ci, cs)) (hk : cs[k]? = some cd) (kk : G (pc + 3) lv (fV M i k cd :: stk) M) : G pc lv (.ref i :: stk) M := by
  obtain ⟨p, l, e, R, s, m, args, below, meth, c, cells, slots, Q, X, A, ⟨hx, hb, hml, hown, hts, hK, hA, hR1, hR2, hc, hs⟩, rfl⟩ := C
  intro H locs ls hP hS hl
  obtain ⟨h1, h2, h3, h4⟩ := cT_ok (lyT_ci hi).1
  obtain ⟨hkN, hw | hw⟩ := hf
  · exact va_get (Ts := TB) hx hb hts h2 hown hK.2.1 hP i (wO_get hi) h1 k hkN (hts _ hw) (fun _ h9 => h9) (fL_at hk) hd (kk H locs ls hP hS hl)
  · exact va_getN (Ts := TB) hx hb hts h2 hown hK.2.1 hP i (wO_get hi) h1 k hkN (va_Nw.use rfl (hK.2.2.1 _ hw)) (fun _ h9 => h9) (fL_at hk) hd (kk H locs ls hP hS hl)
theorem r_geti {G : GT} {own : String} {cc : ByteArray} {n d : Nat} (C : Ru G own cc n d) {pc : Nat} {lv stk : List Value} {M : Mm_} {idx i ci k : Nat} {cs : List Nat} (hd : decode cc pc = .ok (.getfield idx, 3)) (hf : FL own idx ci k) (hi : lyT[i]? = some (1, ci, cs)) (hk : cs[k]? = some 0) (kk : G (pc + 3) lv (.int (zI (M.1 i k)) :: stk) M) : G pc lv (.ref i :: stk) M := r_get C hd hf hi hk kk
theorem r_getr {G : GT} {own : String} {cc : ByteArray} {n d : Nat} (C : Ru G own cc n d) {pc : Nat} {lv stk : List Value} {M : Mm_} {idx i ci k j : Nat} {cs : List Nat} (hd : decode cc pc = .ok (.getfield idx, 3)) (hf : FL own idx ci k) (hi : lyT[i]? = some (1, ci, cs)) (hk : cs[k]? = some (j + 2)) (kk : G (pc + 3) lv (.ref j :: stk) M) : G pc lv (.ref i :: stk) M := r_get C hd hf hi hk kk
theorem r_getl {G : GT} {own : String} {cc : ByteArray} {n d : Nat} (C : Ru G own cc n d) {pc : Nat} {lv stk : List Value} {M : Mm_} {idx i ci k : Nat} {cs : List Nat} (hd : decode cc pc = .ok (.getfield idx, 3)) (hf : FL own idx ci k) (hi : lyT[i]? = some (1, ci, cs)) (hk : cs[k]? = some 1) (kk : G (pc + 3) lv (.long M.2 :: stk) M) : G pc lv (.ref i :: stk) M := r_get C hd hf hi hk kk
theorem r_put {G : GT} {own : String} {cc : ByteArray} {n d : Nat} (C : Ru G own cc n d) {pc : Nat} {lv stk : List Value} {M : Mm_} {idx i ci k : Nat} {z : Int} {cs : List Nat} (hd : decode cc pc = .ok (.putfield idx, 3)) (hf : FL own idx ci k) (hfin : ((cT ci).2.1 k).2.2.2 = false) (hty : (cT ci).2.2.2 k = .int ∨ ((cT ci).2.2.2 k = .boolean ∧ (z = 0 ∨ z = 1))) (hi : lyT[i]? = some (1, ci, cs)) (hk : cs[k]? = some 0) (kk : G (pc + 3) lv stk (mU M i k z)) : G pc lv (.int (zI z) :: .ref i :: stk) M := by
  obtain ⟨p, l, e, R, s, m, args, below, meth, c, cells, slots, Q, X, A, ⟨hx, hb, hml, hown, hts, hK, hA, hR1, hR2, hc, hs⟩, rfl⟩ := C
  intro H locs ls hP hS hl
  obtain ⟨h1, h2, h3, h4⟩ := cT_ok (lyT_ci hi).1
  have hD : va_D A (wO X M) := wO_D hK.1 hA
  have hlen : k < ((fL M i 0 cs).map (rN X.2.1)).length := by rw [List.length_map, fL_len]; exact (List.getElem?_eq_some_iff.mp hk).1
  have hnf : narrow ((cT ci).2.2.2 k) (.int (zI z)) = .int (zI z) ∧ fits ((cT ci).2.2.2 k) (.int (zI z)) = true := by
    rcases hty with e | ⟨e, rfl | rfl⟩ <;> rw [e] <;> exact ⟨rfl, rfl⟩
  have fin : ∀ (H1 : Heap) (locs1 : List Loc), va_P X.1 vwCl ((wO X M).set i (X.2.1 i, .inr (ci, ((fL M i 0 cs).map (rN X.2.1)).set k (.int (zI z))))) H1 → va_D A ((wO X M).set i (X.2.1 i, .inr (ci, ((fL M i 0 cs).map (rN X.2.1)).set k (.int (zI z))))) → va_S A s.heap H1 locs1 → W p l e R s m args below meth c H1 locs1 cells slots Q (F0 m (pc + 3) ls (stk.map (rN X.2.1))) := by
    intro H1 locs1 q1 _ q3
    rw [wO_setf hi hk] at q1
    exact kk H1 locs1 ls q1 q3 hl
  obtain ⟨hkN, hw | hw⟩ := hf
  · exact va_put (Ts := TB) hx hb hts h2 _ h3 h4 hown hK.2.1 hP hD hS i (wO_get hi) h1 k hkN (hts _ hw) (fun _ h9 => h9) hfin (h3 k hkN) hnf.1 hnf.2 hlen hd fin
  · exact va_putN (Ts := TB) hx hb hts h2 _ h3 h4 hown hK.2.1 hP hD hS i (wO_get hi) h1 k hkN (va_Nw.use rfl (hK.2.2.1 _ hw)) (fun _ h9 => h9) hfin (h3 k hkN) hnf.1 hnf.2 hlen hd fin
theorem r_putL {G : GT} {own : String} {cc : ByteArray} {n d : Nat} (C : Ru G own cc n d) {pc : Nat} {lv stk : List Value} {M : Mm_} {idx : Nat} {x : Int64} (hd : decode cc pc = .ok (.putfield idx, 3)) (hf : FL own idx 6 39) (kk : G (pc + 3) lv stk (M.1, x)) : G pc lv (.long x :: .ref 48 :: stk) M := by
  obtain ⟨p, l, e, R, s, m, args, below, meth, c, cells, slots, Q, X, A, ⟨hx, hb, hml, hown, hts, hK, hA, hR1, hR2, hc, hs⟩, rfl⟩ := C
  intro H locs ls hP hS hl
  have hi : lyT[48]? = some (1, 6, (lyT.getD 48 (0, 0, [])).2.2) := by decide +kernel
  obtain ⟨h1, h2, h3, h4⟩ := cT_ok (show 6 < 7 by decide)
  have hD : va_D A (wO X M) := wO_D hK.1 hA
  have hlen : 39 < ((fL M 48 0 (lyT.getD 48 (0, 0, [])).2.2).map (rN X.2.1)).length := by rw [List.length_map, fL_len]; decide
  have fin : ∀ (H1 : Heap) (locs1 : List Loc), va_P X.1 vwCl ((wO X M).set 48 (X.2.1 48, .inr (6, ((fL M 48 0 (lyT.getD 48 (0, 0, [])).2.2).map (rN X.2.1)).set 39 (.long x)))) H1 → va_D A ((wO X M).set 48 (X.2.1 48, .inr (6, ((fL M 48 0 (lyT.getD 48 (0, 0, [])).2.2).map (rN X.2.1)).set 39 (.long x)))) → va_S A s.heap H1 locs1 → W p l e R s m args below meth c H1 locs1 cells slots Q (F0 m (pc + 3) ls (stk.map (rN X.2.1))) := by
    intro H1 locs1 q1 _ q3
    rw [wO_setl hi] at q1
    exact kk H1 locs1 ls q1 q3 hl
  obtain ⟨hkN, hw | hw⟩ := hf
  · exact va_put (Ts := TB) hx hb hts h2 _ h3 h4 hown hK.2.1 hP hD hS 48 (wO_get hi) h1 39 hkN (hts _ hw) (fun _ h9 => h9) rfl (h3 39 hkN) rfl rfl hlen hd fin
  · exact va_putN (Ts := TB) hx hb hts h2 _ h3 h4 hown hK.2.1 hP hD hS 48 (wO_get hi) h1 39 hkN (va_Nw.use rfl (hK.2.2.1 _ hw)) (fun _ h9 => h9) rfl (h3 39 hkN) rfl rfl hlen hd fin
theorem lyT_n {i n : Nat} {cs : List Nat} (h : lyT[i]? = some (0, n, cs)) : n < 2147483648 := by
  have hq : ∀ j, j < 69 → (lyT.getD j (0, 0, [])).2.1 < 100 := by decide +kernel
  have h1 := hq i (lyT_lt h)
  rw [show lyT.getD i (0, 0, []) = (0, n, cs) by simp [List.getD, h]] at h1
  exact Nat.lt_trans h1 (by decide)
theorem lyT_m {i n : Nat} {cs : List Nat} (h : lyT[i]? = some (0, n, cs)) : n < 100 := by
  have hq : ∀ j, j < 69 → (lyT.getD j (0, 0, [])).2.1 < 100 := by decide +kernel
  have h1 := hq i (lyT_lt h)
  rw [show lyT.getD i (0, 0, []) = (0, n, cs) by simp [List.getD, h]] at h1
  exact h1
theorem r_iald {G : GT} {own : String} {cc : ByteArray} {n d : Nat} (C : Ru G own cc n d) {pc : Nat} {lv stk : List Value} {M : Mm_} {i k N : Nat} {z : Int} {cs : List Nat} (hd : decode cc pc = .ok (.iaload, 1)) (hi : lyT[i]? = some (0, N, cs)) (hz : z = k) (hk : k < N) (kk : G (pc + 1) lv (.int (zI (M.1 i k)) :: stk) M) : G pc lv (.int (zI z) :: .ref i :: stk) M := by
  obtain ⟨p, l, e, R, s, m, args, below, meth, c, cells, slots, Q, X, A, ⟨hx, hb, hml, hown, hts, hK, hA, hR1, hR2, hc, hs⟩, rfl⟩ := C
  intro H locs ls hP hS hl
  refine va_iald hx hb hK.2.1 hP i 0 (wO_get hi) rfl (zI_inj_in hz hk (lyT_n hi)) hd ?_
  rw [zI_clamp hz hk (lyT_n hi)]
  exact kk H locs ls hP hS hl
theorem r_iast {G : GT} {own : String} {cc : ByteArray} {n d : Nat} (C : Ru G own cc n d) {pc : Nat} {lv stk : List Value} {M : Mm_} {i k N : Nat} {z x : Int} {cs : List Nat} (hd : decode cc pc = .ok (.iastore, 1)) (hi : lyT[i]? = some (0, N, cs)) (hz : z = k) (hk : k < N) (kk : G (pc + 1) lv stk (mU M i k x)) : G pc lv (.int (zI x) :: .int (zI z) :: .ref i :: stk) M := by
  obtain ⟨p, l, e, R, s, m, args, below, meth, c, cells, slots, Q, X, A, ⟨hx, hb, hml, hown, hts, hK, hA, hR1, hR2, hc, hs⟩, rfl⟩ := C
  intro H locs ls hP hS hl
  have hD : va_D A (wO X M) := wO_D hK.1 hA
  refine va_iast hx hb hK.2.1 hP hD hS i 0 (wO_get hi) rfl (zI_inj_in hz hk (lyT_n hi)) hd (fun H1 locs1 q1 _ q3 => ?_)
  rw [zI_clamp hz hk (lyT_n hi), wO_seta hi] at q1
  exact kk H1 locs1 ls q1 q3 hl
theorem r_alen {G : GT} {own : String} {cc : ByteArray} {n d : Nat} (C : Ru G own cc n d) {pc : Nat} {lv stk : List Value} {M : Mm_} {i N : Nat} {cs : List Nat} (hd : decode cc pc = .ok (.arraylength, 1)) (hi : lyT[i]? = some (0, N, cs)) (kk : G (pc + 1) lv (.int (zI (N : Int)) :: stk) M) : G pc lv (.ref i :: stk) M := by
  obtain ⟨p, l, e, R, s, m, args, below, meth, c, cells, slots, Q, X, A, ⟨hx, hb, hml, hown, hts, hK, hA, hR1, hR2, hc, hs⟩, rfl⟩ := C
  intro H locs ls hP hS hl
  exact va_alen hx hb hK.2.1 hP i 0 (wO_get hi) rfl (zI_nat N).symm hd (kk H locs ls hP hS hl)
theorem r_aald {G : GT} {own : String} {cc : ByteArray} {n d : Nat} (C : Ru G own cc n d) {pc : Nat} {lv stk : List Value} {M : Mm_} {i k N a : Nat} {z : Int} {cs : List Nat} (hd : decode cc pc = .ok (.aaload, 1)) (hi : lyT[i]? = some (2, N, cs)) (hN : N < 100) (hz : z = k) (hk : k < N) (hc2 : cs[k]? = some a) (kk : G (pc + 1) lv (.ref a :: stk) M) : G pc lv (.int (zI z) :: .ref i :: stk) M := by
  obtain ⟨p, l, e, R, s, m, args, below, meth, c, cells, slots, Q, X, A, ⟨hx, hb, hml, hown, hts, hK, hA, hR1, hR2, hc, hs⟩, rfl⟩ := C
  intro H locs ls hP hS hl
  have hin := zI_inj_in hz hk (by omega)
  have hcl := zI_clamp hz hk (show N < 2147483648 by omega)
  have ha := wO_get (X := X) (M := M) hi
  refine W.aald (v := .ref (X.2.1 a)) (ty := .array .int) hx hb (hP i _ ha) ((hK.2.1.2 1 _ rfl).1 N (fun j => va_rf ((cs[j]?).map X.2.1))) rfl (fun q => by cases q) (by show ¬ (zI z < 0 ∨ (arrV _ _ _).slots.size ≤ _); rw [arrV_size]; exact hin) (by show (arrV _ _ _).slots[_]? = _; rw [arrV_read _ _ (by rw [hcl]; exact hk), hcl]; show some (va_rf ((cs[k]?).map X.2.1)) = _; rw [hc2]; rfl) rfl rfl hd (kk H locs ls hP hS hl)
theorem r_worths {G : GT} {own : String} {cc : ByteArray} {n d : Nat} (C : Ru G own cc n d) {pc : Nat} {lv stk : List Value} {M : Mm_} {idx : Nat} (hd : decode cc pc = .ok (.getstatic idx, 3)) (hw : Cond.fieldLinkNest own idx "GrudgeRennet" "WORTHS" "[I" "GrudgeRennet" ∈ nsT) (kk : G (pc + 3) lv (.ref 100 :: stk) M) : G pc lv stk M := by
  obtain ⟨p, l, e, R, s, m, args, below, meth, c, cells, slots, Q, X, A, ⟨hx, hb, hml, hown, hts, hK, hA, hR1, hR2, hc, hs⟩, rfl⟩ := C
  intro H locs ls hP hS hl
  exact va_getsN hx hb hK.2.2.2.1 hS hown (va_Nw.use rfl (hK.2.2.1 _ hw)) (fun _ h9 => h9) hd (kk H locs ls hP hS hl)
theorem r_wald {G : GT} {own : String} {cc : ByteArray} {n d : Nat} (C : Ru G own cc n d) {pc : Nat} {lv stk : List Value} {M : Mm_} {k : Nat} {z : Int} (hd : decode cc pc = .ok (.iaload, 1)) (hz : z = k) (hk : k < 3) (kk : G (pc + 1) lv (.int (zI (wrT k)) :: stk) M) : G pc lv (.int (zI z) :: .ref 100 :: stk) M := by
  obtain ⟨p, l, e, R, s, m, args, below, meth, c, cells, slots, Q, X, A, ⟨hx, hb, hml, hown, hts, hK, hA, hR1, hR2, hc, hs⟩, rfl⟩ := C
  intro H locs ls hP hS hl
  refine va_ti hx hb hK.2.2.2.2.1 hS (zI_inj_in hz hk (by decide)) (v := .int (zI (wrT k))) ?_ hd (kk H locs ls hP hS hl)
  rw [zI_clamp hz hk (by decide)]
theorem r_ldc {G : GT} {own : String} {cc : ByteArray} {n d : Nat} (C : Ru G own cc n d) {pc : Nat} {lv stk : List Value} {M : Mm_} {idx : Nat} {v : Int32} {z : Int} (hd : decode cc pc = .ok (.ldc idx, 2)) (hw : Cond.constant own idx v ∈ TB) (hv : v = zI z) (kk : G (pc + 2) lv (.int (zI z) :: stk) M) : G pc lv stk M := by
  obtain ⟨p, l, e, R, s, m, args, below, meth, c, cells, slots, Q, X, A, ⟨hx, hb, hml, hown, hts, hK, hA, hR1, hR2, hc, hs⟩, rfl⟩ := C
  intro H locs ls hP hS hl
  subst hv
  exact lv_ldc hx hb hown (hts _ hw) hd (kk H locs ls hP hS hl)
theorem r_ldcw {G : GT} {own : String} {cc : ByteArray} {n d : Nat} (C : Ru G own cc n d) {pc : Nat} {lv stk : List Value} {M : Mm_} {idx : Nat} {v : Int32} {z : Int} (hd : decode cc pc = .ok (.ldc_w idx, 3)) (hw : Cond.constant own idx v ∈ TB) (hv : v = zI z) (kk : G (pc + 3) lv (.int (zI z) :: stk) M) : G pc lv stk M := by
  obtain ⟨p, l, e, R, s, m, args, below, meth, c, cells, slots, Q, X, A, ⟨hx, hb, hml, hown, hts, hK, hA, hR1, hR2, hc, hs⟩, rfl⟩ := C
  intro H locs ls hP hS hl
  subst hv
  exact lv_ldcw hx hb hown (hts _ hw) hd (kk H locs ls hP hS hl)
theorem r_ldc2 {G : GT} {own : String} {cc : ByteArray} {n d : Nat} (C : Ru G own cc n d) {pc : Nat} {lv stk : List Value} {M : Mm_} {idx : Nat} {v : Int64} (hd : decode cc pc = .ok (.ldc2_w idx, 3)) (hw : Cond.constantLong own idx v ∈ TB) (kk : G (pc + 3) lv (.long v :: stk) M) : G pc lv stk M := by
  obtain ⟨p, l, e, R, s, m, args, below, meth, c, cells, slots, Q, X, A, ⟨hx, hb, hml, hown, hts, hK, hA, hR1, hR2, hc, hs⟩, rfl⟩ := C
  intro H locs ls hP hS hl
  exact lv_ldc2 hx hb hown (hts _ hw) hd (kk H locs ls hP hS hl)
theorem r_min {G : GT} {own : String} {cc : ByteArray} {n d : Nat} (C : Ru G own cc n d) {pc : Nat} {lv stk : List Value} {M : Mm_} {idx : Nat} {a b : Int} (hd : decode cc pc = .ok (.invokestatic idx, 3)) (hl9 : Cond.methodLink own idx Lib.Math.min.name ∈ TB) (hw2 : Cond.static Lib.Math.min.name ∈ TB) (hw3 : Cond.initialized "java/lang/Math" ∈ TB) (hw4 : Cond.code Lib.Math.min.name Lib.Math.min.code 2 (some .int) ∈ TB) (hd1 : 1 ≤ d) (hst : (stk.map fun v => v.category).sum ≤ 8) (ra : rg a) (rb : rg b) (kk : G (pc + 3) lv (.int (zI (if b < a then b else a)) :: stk) M) : G pc lv (.int (zI b) :: .int (zI a) :: stk) M := by
  obtain ⟨p, l, e, R, s, m, args, below, meth, c, cells, slots, Q, X, A, ⟨hx, hb, hml, hown, hts, hK, hA, hR1, hR2, hc, hs⟩, rfl⟩ := C
  intro H locs ls hP hS hl
  have hcat : ((stk.map (rN X.2.1)).map fun v => v.category).sum = (stk.map fun v => v.category).sum := by
    rw [List.map_map]; congr 1; apply List.map_congr_left; intro v _; exact rN_cat _ v
  refine va_mmin hx hb (hml.trans hl.1.symm) hown (hts _ hl9) (hts _ hw2) (hts _ hw3) (hts _ hw4) (by omega) (by rw [hcat]; omega) hc hs hd ?_
  have e9 := kk H locs ls hP hS hl
  have hi := zI_lt rb ra
  by_cases q : b < a
  · rw [if_pos q] at e9
    first | rw [if_pos (hi.mpr q)] | rw [if_neg (fun h => absurd (hi.mp h) (by omega))]
    exact e9
  · rw [if_neg q] at e9
    first | rw [if_neg (fun h => q (hi.mp h))] | rw [if_pos (hi.mpr (by omega))]
    exact e9
theorem r_max {G : GT} {own : String} {cc : ByteArray} {n d : Nat} (C : Ru G own cc n d) {pc : Nat} {lv stk : List Value} {M : Mm_} {idx : Nat} {a b : Int} (hd : decode cc pc = .ok (.invokestatic idx, 3)) (hl9 : Cond.methodLink own idx Lib.Math.max.name ∈ TB) (hw2 : Cond.static Lib.Math.max.name ∈ TB) (hw3 : Cond.initialized "java/lang/Math" ∈ TB) (hw4 : Cond.code Lib.Math.max.name Lib.Math.max.code 2 (some .int) ∈ TB) (hd1 : 1 ≤ d) (hst : (stk.map fun v => v.category).sum ≤ 8) (ra : rg a) (rb : rg b) (kk : G (pc + 3) lv (.int (zI (if a < b then b else a)) :: stk) M) : G pc lv (.int (zI b) :: .int (zI a) :: stk) M := by
  obtain ⟨p, l, e, R, s, m, args, below, meth, c, cells, slots, Q, X, A, ⟨hx, hb, hml, hown, hts, hK, hA, hR1, hR2, hc, hs⟩, rfl⟩ := C
  intro H locs ls hP hS hl
  have hcat : ((stk.map (rN X.2.1)).map fun v => v.category).sum = (stk.map fun v => v.category).sum := by
    rw [List.map_map]; congr 1; apply List.map_congr_left; intro v _; exact rN_cat _ v
  refine va_mmax hx hb (hml.trans hl.1.symm) hown (hts _ hl9) (hts _ hw2) (hts _ hw3) (hts _ hw4) (by omega) (by rw [hcat]; omega) hc hs hd ?_
  have e9 := kk H locs ls hP hS hl
  have hi := zI_lt ra rb
  by_cases q : a < b
  · rw [if_pos q] at e9
    first | rw [if_pos (hi.mpr q)] | rw [if_neg (fun h => absurd (hi.mp h) (by omega))]
    exact e9
  · rw [if_neg q] at e9
    first | rw [if_neg (fun h => q (hi.mp h))] | rw [if_pos (hi.mpr (by omega))]
    exact e9
theorem r_copy {G : GT} {own : String} {cc : ByteArray} {n d : Nat} (C : Ru G own cc n d) {pc : Nat} {lv stk : List Value} {M : Mm_} {idx i0 i1 n0 n1 sp dp k : Nat} {z1 z2 z3 : Int} {c0 c1 : List Nat} (hd : decode cc pc = .ok (.invokestatic idx, 3)) (hl9 : Cond.methodLink own idx arraycopyName ∈ TB) (hw1 : Cond.native arraycopyName ∈ TB) (hw2 : Cond.static arraycopyName ∈ TB) (hw3 : Cond.initialized "java/lang/System" ∈ TB) (hd1 : 1 ≤ d) (hst : (stk.map fun v => v.category).sum ≤ 8) (hi0 : lyT[i0]? = some (0, n0, c0)) (hi1 : lyT[i1]? = some (0, n1, c1)) (h1 : z1 = sp) (h2 : z2 = dp) (h3 : z3 = k) (h4 : sp + k ≤ n0) (h5 : dp + k ≤ n1) (kk : G (pc + 3) lv stk (mC M i0 i1 sp dp k)) : G pc lv (.int (zI z3) :: .int (zI z2) :: .ref i1 :: .int (zI z1) :: .ref i0 :: stk) M := by
  obtain ⟨p, l, e, R, s, m, args, below, meth, c, cells, slots, Q, X, A, ⟨hx, hb, hml, hown, hts, hK, hA, hR1, hR2, hc, hs⟩, rfl⟩ := C
  intro H locs ls hP hS hl
  have hcat : ((stk.map (rN X.2.1)).map fun v => v.category).sum = (stk.map fun v => v.category).sum := by
    rw [List.map_map]; congr 1; apply List.map_congr_left; intro v _; exact rN_cat _ v
  have hD : va_D A (wO X M) := wO_D hK.1 hA
  have hn0 := lyT_m hi0
  have hn1 := lyT_m hi1
  have nn : ∀ {z : Int} {q : Nat}, z = q → q < 2147483647 → ¬ zI z < 0 ∧ (zI z).toNatClampNeg = q := by
    intro z q e hq
    exact ⟨by rw [← zI_0, zI_lt ⟨by omega, by omega⟩ rg0]; omega, zI_clamp (N := q + 1) e (by omega) (by omega)⟩
  have hnw : nativeFrameWords "java/lang/System" "arraycopy" 5 ≤ 30 := by decide +kernel
  obtain ⟨a1, b1⟩ := nn h1 (by omega)
  obtain ⟨a2, b2⟩ := nn h2 (by omega)
  obtain ⟨a3, b3⟩ := nn h3 (by omega)
  refine va_copyi hx hb (hml.trans hl.1.symm) hown (hts _ hl9) (hts _ hw1) (hts _ hw2) (hts _ hw3) hK.2.1 hP hD hS i0 i1 0 0 (wO_get hi0) (wO_get hi1) rfl rfl rfl a1 a2 a3 (by rw [b1, b3]; exact h4) (by rw [b2, b3]; exact h5) (fun i _ => rfl) (by omega) (by rw [hcat]; omega) hd (fun H1 locs1 q1 _ q3 => ?_)
  rw [b1, b2, b3, wO_setc hi1] at q1
  exact kk H1 locs1 ls q1 q3 hl
