
/-! A TABLE OF THREE ROWS OF FOUR INTS, by one instruction -/
def rowC (comp : ClassId) : Cell := { cls := comp, slots := Array.replicate 4 (.int 0), vm := .none }
def topC (cA : ClassId) : Cell := { cls := cA, slots := Array.replicate 3 .null, vm := .none }
/-- one more row: a new cell, its address into place i of the cell h, which was x -/
def rowS (u : State) (h i : Nat) (x : Cell) (comp : ClassId) : State := (u.pushCell (rowC comp)).setCell h (x.setSlot i (.ref u.heap.size))
def ms0 (u : State) (cA : ClassId) : State := u.pushCell (topC cA)
def ms1 (u : State) (cA comp : ClassId) : State := rowS (ms0 u cA) u.heap.size 0 (topC cA) comp
def mx1 (u : State) (cA : ClassId) : Cell := (topC cA).setSlot 0 (.ref (ms0 u cA).heap.size)
def ms2 (u : State) (cA comp : ClassId) : State := rowS (ms1 u cA comp) u.heap.size 1 (mx1 u cA) comp
def mx2 (u : State) (cA comp : ClassId) : Cell := (mx1 u cA).setSlot 1 (.ref (ms1 u cA comp).heap.size)
def ms3 (u : State) (cA comp : ClassId) : State := rowS (ms2 u cA comp) u.heap.size 2 (mx2 u cA comp) comp
def mx3 (u : State) (cA comp : ClassId) : Cell := (mx2 u cA comp).setSlot 2 (.ref (ms2 u cA comp).heap.size)
theorem rowS_f {u : State} {h i : Nat} {x : Cell} {comp : ClassId} (hh : h < u.heap.size) : (rowS u h i x comp).heap.size = u.heap.size + 1 ∧ (rowS u h i x comp).heap[h]? = some (x.setSlot i (.ref u.heap.size)) ∧ (rowS u h i x comp).heap[u.heap.size]? = some (rowC comp) ∧ (∀ q, q ≠ h → q < u.heap.size → (rowS u h i x comp).heap[q]? = u.heap[q]?) ∧ (rowS u h i x comp).vm = u.vm ∧ (rowS u h i x comp).slotsUsed = u.slotsUsed + 4 := by
  refine ⟨?_, ?_, ?_, fun q h1 h2 => ?_, rfl, rfl⟩
  · show ((u.heap.push (rowC comp)).setIfInBounds h _).size = _
    rw [Array.size_setIfInBounds, Array.size_push]
  · show ((u.heap.push (rowC comp)).setIfInBounds h _)[h]? = _
    rw [Array.getElem?_setIfInBounds, if_pos rfl, if_pos (by rw [Array.size_push]; omega)]
  · show ((u.heap.push (rowC comp)).setIfInBounds h _)[u.heap.size]? = _
    rw [Array.getElem?_setIfInBounds, if_neg (by omega), Array.getElem?_push, if_pos rfl]
  · show ((u.heap.push (rowC comp)).setIfInBounds h _)[q]? = _
    rw [Array.getElem?_setIfInBounds, if_neg (Ne.symm h1), Array.getElem?_push, if_neg (by omega)]
theorem ms0_f {u : State} {cA : ClassId} : (ms0 u cA).heap.size = u.heap.size + 1 ∧ (ms0 u cA).heap[u.heap.size]? = some (topC cA) ∧ (∀ q, q < u.heap.size → (ms0 u cA).heap[q]? = u.heap[q]?) ∧ (ms0 u cA).vm = u.vm ∧ (ms0 u cA).slotsUsed = u.slotsUsed + 3 := by
  refine ⟨?_, ?_, fun q h1 => ?_, rfl, rfl⟩
  · show (u.heap.push (topC cA)).size = _
    rw [Array.size_push]
  · show (u.heap.push (topC cA))[u.heap.size]? = _
    rw [Array.getElem?_push, if_pos rfl]
  · show (u.heap.push (topC cA))[q]? = _
    rw [Array.getElem?_push, if_neg (by omega)]
section TAB
variable {E : CtlPost} {e : Env} {d : Bool} {acts : List Action}
theorem wq_new {u : State} {c comp : ClassId} {k : Class} {ty : FieldType} {n : Nat} {v : Value} (hk : u.vm.classes[c]? = some k) (hkind : k.kind = .array comp ty) (hl : ¬ n > e.platform.arrayLengthLimit) (hh : ¬ n * componentBytes ty > e.platform.maxHeapBytes) (hf : fits ty v = true) (hv : v.isDefault = true) (h1 : u.heap.size < e.platform.maxCells) (h2 : u.slotsUsed + n ≤ e.platform.maxSlots) {Q : Addr → Pre} (hq : Q u.heap.size d acts (u.pushCell { cls := c, slots := Array.replicate n v, vm := .none })) : wp (Jvm.newArray c n v) Q E e d acts u := by
  have ha : allocActs (Array.replicate n v) u.heap.size acts = acts := by
    unfold allocActs
    rw [if_pos]
    rw [Array.all_replicate]
    by_cases z : n = 0
    · simp [z]
    · simp [z, hv]
  have hs : ∀ i w, (Array.replicate n v)[i]? = some w → u.fitsSlot c .none i w = true := by
    intro i w hw
    rw [Array.getElem?_replicate] at hw
    by_cases z : i < n
    · rw [if_pos z] at hw
      cases hw
      simp [State.fitsSlot, State.slotType?, hk, hkind, hf]
    · rw [if_neg z] at hw
      cases hw
  simp only [Jvm.newArray, Jvm.arrayFits, wp_bind', W.ask, W.ite, hl, if_false, wp_pure', W.theClass, hk, hkind, hh, W.alloc, W.stop, Option.some.injEq, exists_eq_left', Array.size_replicate, ha]
  rw [if_neg (by omega)]
  exact ⟨h1, h2, hs, hq⟩
theorem n4_ : (4 : Int32).toNatClampNeg = 4 := by decide
theorem n3_ : (3 : Int32).toNatClampNeg = 3 := by decide
theorem wq_in {u : State} {comp cc : ClassId} {kc : Class} (hk : u.vm.classes[comp]? = some kc) (hkind : kc.kind = .array cc .int) (hl : ¬ 4 > e.platform.arrayLengthLimit) (hh : ¬ 4 * componentBytes .int > e.platform.maxHeapBytes) (h1 : u.heap.size < e.platform.maxCells) (h2 : u.slotsUsed + 4 ≤ e.platform.maxSlots) {Q : Addr → Pre} (hq : Q u.heap.size d acts (u.pushCell (rowC comp))) : wp (multianewarray.make comp [4]) Q E e d acts u := by
  have h4 : ¬ (4 : Int32) < 0 := by decide
  rw [multianewarray.make]
  simp only [wp_bind', W.ite, h4, if_false, wp_pure', W.theClass, hk, hkind, Option.some.injEq, exists_eq_left', n4_]
  exact wq_new hk hkind hl hh rfl rfl h1 h2 hq
theorem wq_tab {u : State} {cA comp cc : ClassId} {kA kc : Class} (hA : u.vm.classes[cA]? = some kA) (hkA : kA.kind = .array comp (.array .int)) (hk : u.vm.classes[comp]? = some kc) (hkind : kc.kind = .array cc .int) (hl3 : ¬ 3 > e.platform.arrayLengthLimit) (hh3 : ¬ 3 * componentBytes (.array .int) > e.platform.maxHeapBytes) (hl : ¬ 4 > e.platform.arrayLengthLimit) (hh : ¬ 4 * componentBytes .int > e.platform.maxHeapBytes) (h1 : u.heap.size + 4 ≤ e.platform.maxCells) (h2 : u.slotsUsed + 15 ≤ e.platform.maxSlots) {Q : Addr → Pre} (hq : ∀ d' acts', Q u.heap.size d' acts' (ms3 u cA comp)) : wp (multianewarray.make cA [3, 4]) Q E e d acts u := by
  have h3 : ¬ (3 : Int32) < 0 := by decide
  have h30 : ((3 : Int32) == 0) = false := by decide
  obtain ⟨f1, f2, f3, f4, f5⟩ := ms0_f (u := u) (cA := cA)
  obtain ⟨g1, g2, g3, g4, g5, g6⟩ := rowS_f (u := ms0 u cA) (h := u.heap.size) (i := 0) (x := topC cA) (comp := comp) (by omega)
  have g1 : (ms1 u cA comp).heap.size = u.heap.size + 2 := by show (rowS _ _ _ _ _).heap.size = _; omega
  obtain ⟨i1, i2, i3, i4, i5, i6⟩ := rowS_f (u := ms1 u cA comp) (h := u.heap.size) (i := 1) (x := mx1 u cA) (comp := comp) (by omega)
  have i1 : (ms2 u cA comp).heap.size = u.heap.size + 3 := by show (rowS _ _ _ _ _).heap.size = _; omega
  have v1 : (ms1 u cA comp).vm = u.vm := rfl
  have v2 : (ms2 u cA comp).vm = u.vm := rfl
  have v0 : (ms0 u cA).vm = u.vm := rfl
  have s1 : (ms1 u cA comp).slotsUsed = u.slotsUsed + 7 := rfl
  have s2 : (ms2 u cA comp).slotsUsed = u.slotsUsed + 11 := rfl
  rw [multianewarray.make]
  simp only [wp_bind', W.ite, h3, if_false, wp_pure', W.theClass, hA, hkA, Option.some.injEq, exists_eq_left', n3_, h30]
  refine wq_new hA hkA hl3 hh3 rfl rfl (by omega) (by omega) ?_
  show wp _ _ E e d acts (ms0 u cA)
  simp only [Std.Legacy.Range.forIn_eq_forIn_range', Std.Legacy.Range.size, wp_bind', wp_pure', if_false, Bool.false_eq_true]
  show wp (forIn (List.range' 0 3 1) PUnit.unit _) _ E e d acts _
  rw [show List.range' 0 3 1 = [0, 1, 2] from rfl]
  simp only [List.forIn_cons, List.forIn_nil, wp_bind']
  refine wq_in (by rw [v0]; exact hk) hkind hl hh (by omega) (by omega) ?_
  simp only [wp_bind', W.writeLoc, wp_pure']
  refine ⟨topC cA, by rw [State.heap_pushCell_of_lt (h := (show u.heap.size < (ms0 u cA).heap.size by omega))]; exact f2, by show VmData.none ≠ _; simp, by show 0 < 3; decide, by show State.fitsSlot _ cA .none 0 _ = true; simp [State.fitsSlot, State.slotType?, v0, hA, hkA, fits], ?_⟩
  show wp _ _ E e _ _ (ms1 u cA comp)
  refine wq_in (by rw [v1]; exact hk) hkind hl hh (by omega) (by omega) ?_
  simp only [wp_bind', W.writeLoc, wp_pure']
  refine ⟨mx1 u cA, by rw [State.heap_pushCell_of_lt (h := (show u.heap.size < (ms1 u cA comp).heap.size by omega))]; exact g2, by show VmData.none ≠ _; simp, by show 1 < 3; decide, by show State.fitsSlot _ cA .none 1 _ = true; simp [State.fitsSlot, State.slotType?, v1, hA, hkA, fits], ?_⟩
  show wp _ _ E e _ _ (ms2 u cA comp)
  refine wq_in (by rw [v2]; exact hk) hkind hl hh (by omega) (by omega) ?_
  simp only [wp_bind', W.writeLoc, wp_pure']
  refine ⟨mx2 u cA comp, by rw [State.heap_pushCell_of_lt (h := (show u.heap.size < (ms2 u cA comp).heap.size by omega))]; exact i2, by show VmData.none ≠ _; simp, by show 2 < 3; decide, by show State.fitsSlot _ cA .none 2 _ = true; simp [State.fitsSlot, State.slotType?, v2, hA, hkA, fits], ?_⟩
  exact hq _ _
end TAB
theorem mx3_is {u : State} {cA comp : ClassId} : mx3 u cA comp = arrV cA 3 (fun j => .ref (u.heap.size + 1 + j)) := by
  obtain ⟨f1, -⟩ := ms0_f (u := u) (cA := cA)
  obtain ⟨g1, -⟩ := rowS_f (u := ms0 u cA) (h := u.heap.size) (i := 0) (x := topC cA) (comp := comp) (by omega)
  have g1 : (ms1 u cA comp).heap.size = u.heap.size + 2 := by show (rowS _ _ _ _ _).heap.size = _; omega
  obtain ⟨i1, -⟩ := rowS_f (u := ms1 u cA comp) (h := u.heap.size) (i := 1) (x := mx1 u cA) (comp := comp) (by omega)
  have i1 : (ms2 u cA comp).heap.size = u.heap.size + 3 := by show (rowS _ _ _ _ _).heap.size = _; omega
  have e : mx3 u cA comp = { cls := cA, slots := #[.ref (u.heap.size + 1), .ref (u.heap.size + 2), .ref (u.heap.size + 3)], vm := .none } := by
    show ({ cls := cA, slots := #[.ref (ms0 u cA).heap.size, .ref (ms1 u cA comp).heap.size, .ref (ms2 u cA comp).heap.size], vm := .none } : Cell) = _
    rw [f1, g1, i1]
  rw [e]
  show ({ cls := cA, slots := #[.ref (u.heap.size + 1), .ref (u.heap.size + 2), .ref (u.heap.size + 3)], vm := .none } : Cell) = { cls := cA, slots := Array.ofFn (n := 3) fun j => Value.ref (u.heap.size + 1 + j.val), vm := .none }
  congr 1
section TAB2
variable {p : Program} {l : Launch} {e : Env} {R : Room} {s : State} {m : MethodId} {args : Array Value} {below : List Frame} {meth : Method} {c : Code} {H : Heap} {locs : List Loc} {cells slots : Nat} {Q : State → Prop}
theorem W_mna {cc : ByteArray} (hexec : p.tables.exec = Jvm.exec) (hb : c.code = cc) {own : String} {index : Nat} (hown : s.vm.findClass own = some m.cls) (hclink : (Cond.classLink own index ("[" ++ (FieldType.array .int).toString)).before args s = true) (hover : (Cond.arrayOver (.array .int)).before args s = true) (harr : (Cond.arrayClass .int).before args s = true) {pc : Nat} {ls : Array Slot} {rest : List Value} (hdg : decode cc pc = .ok (.multianewarray index 2, 4)) (hcells : cells + 4 ≤ R.cells) (hslots : slots + 15 ≤ R.slots)
    (kk : ∀ (cA comp : ClassId) (H1 : Heap), s.vm.findClass ("[" ++ (FieldType.array .int).toString) = some cA → s.vm.findClass (FieldType.array .int).toString = some comp → H1.size = H.size + 4 → (∀ q, q < H.size → H1[q]? = H[q]?) → H1[H.size]? = some (arrV cA 3 (fun j => .ref (H.size + 1 + j))) → (∀ j, j < 3 → H1[H.size + 1 + j]? = some (arrV comp 4 (fun _ => .int 0))) →
      W p l e R s m args below meth c H1 (((locs ++ [⟨H.size, 0⟩]) ++ [⟨H.size, 1⟩]) ++ [⟨H.size, 2⟩]) (cells + 4) (slots + 15) Q (F0 m (pc + 4) ls (.ref H.size :: rest))) : W p l e R s m args below meth c H locs cells slots Q (F0 m pc ls (.int 4 :: .int 3 :: rest)) := by
  intro T hT X
  subst hT; subst hb
  have hpl : e.platform.magicAccessors = ({} : Platform).magicAccessors := by rw [X.admits.platform]
  obtain ⟨comp, cA, kA, hcomp, -, hkA, hkindA, hnameA⟩ := arrayOverA_spec hover
  obtain ⟨comp', kC, cc', hcomp', hkC, hkindC⟩ := Cond.arrayClass_spec harr
  have ec : comp' = comp := Option.some.inj (hcomp'.symm.trans hcomp)
  subst ec
  obtain ⟨c0, hfc0, hcl⟩ := Cond.classLink_spec hown hclink e.platform hpl
  cases hnameA.symm.trans hfc0
  obtain ⟨hg₁, hwarm₁, hready₁⟩ := State.classEntry (e := e) X.warmed hcl
  generalize T.vm.noted m.cls index (.cls cA) = vm₁ at hg₁ hwarm₁ hready₁
  obtain ⟨kA₁, hkA₁, heA⟩ := hwarm₁.alike.2.2 _ _ hkA
  obtain ⟨kC₁, hkC₁, heC⟩ := hwarm₁.alike.2.2 _ _ hkC
  have hkindA₁ : kA₁.kind = .array comp' (.array .int) := by rw [heA]; exact hkindA
  have hkindC₁ : kC₁.kind = .array cc' .int := by rw [heC]; exact hkindC
  obtain ⟨hr1, hr2⟩ := X.roomAbove hcells hslots
  have hlim := Launch.admits_arrayLengthLimit X.admits
  have hmhb := Launch.admits_maxHeapBytes X.admits
  obtain ⟨u, eu⟩ : ∃ u, u = T.setVm vm₁ := ⟨_, rfl⟩
  have hu : u.heap = T.heap := by rw [eu]; rfl
  have X₁ := X.noted hwarm₁
  rw [← eu] at X₁
  obtain ⟨f1, f2, f3, -⟩ := ms0_f (u := u) (cA := cA)
  obtain ⟨g1, g2, g3, g4, -⟩ := rowS_f (u := ms0 u cA) (h := u.heap.size) (i := 0) (x := topC cA) (comp := comp') (by omega)
  have g1 : (ms1 u cA comp').heap.size = u.heap.size + 2 := by show (rowS _ _ _ _ _).heap.size = _; omega
  obtain ⟨i1, i2, i3, i4, -⟩ := rowS_f (u := ms1 u cA comp') (h := u.heap.size) (i := 1) (x := mx1 u cA) (comp := comp') (by omega)
  have i1 : (ms2 u cA comp').heap.size = u.heap.size + 3 := by show (rowS _ _ _ _ _).heap.size = _; omega
  obtain ⟨j1, j2, j3, j4, -⟩ := rowS_f (u := ms2 u cA comp') (h := u.heap.size) (i := 2) (x := mx2 u cA comp') (comp := comp') (by omega)
  have j1 : (ms3 u cA comp').heap.size = u.heap.size + 4 := by show (rowS _ _ _ _ _).heap.size = _; omega
  have c0' : ((ms0 u cA).pushCell (rowC comp')).heap[u.heap.size]? = some (topC cA) := by rw [State.heap_pushCell_of_lt (h := (show u.heap.size < (ms0 u cA).heap.size by omega))]; exact f2
  have c1' : ((ms1 u cA comp').pushCell (rowC comp')).heap[u.heap.size]? = some (mx1 u cA) := by rw [State.heap_pushCell_of_lt (h := (show u.heap.size < (ms1 u cA comp').heap.size by omega))]; exact g2
  have c2' : ((ms2 u cA comp').pushCell (rowC comp')).heap[u.heap.size]? = some (mx2 u cA comp') := by rw [State.heap_pushCell_of_lt (h := (show u.heap.size < (ms2 u cA comp').heap.size by omega))]; exact i2
  have XA := ((X₁.pushed (topC cA)).pushed (rowC comp')).stored c0' 0 (.ref (ms0 u cA).heap.size)
  have XB := (XA.pushed (rowC comp')).stored c1' 1 (.ref (ms1 u cA comp').heap.size)
  have XC : Stand p l e R s m args below meth c (ms3 u cA comp') (((locs ++ [⟨u.heap.size, 0⟩]) ++ [⟨u.heap.size, 1⟩]) ++ [⟨u.heap.size, 2⟩]) (cells + 4) (slots + 15) := (XB.pushed (rowC comp')).stored c2' 2 (.ref (ms2 u cA comp').heap.size)
  have hin : ∀ j, j < 3 → (ms3 u cA comp').heap[u.heap.size + 1 + j]? = some (arrV comp' 4 (fun _ => .int 0)) := by
    intro j hj
    rw [← arrV_new]
    rcases (show j = 0 ∨ j = 1 ∨ j = 2 by omega) with rfl | rfl | rfl
    · refine (j4 _ (by omega) (by omega)).trans ((i4 _ (by omega) (by omega)).trans ?_)
      rw [show u.heap.size + 1 + 0 = (ms0 u cA).heap.size by omega]
      exact g3
    · refine (j4 _ (by omega) (by omega)).trans ?_
      rw [show u.heap.size + 1 + 1 = (ms1 u cA comp').heap.size by omega]
      exact i3
    · rw [show u.heap.size + 1 + 2 = (ms2 u cA comp').heap.size by omega]
      exact j3
  have hold : ∀ q, q < u.heap.size → (ms3 u cA comp').heap[q]? = u.heap[q]? := fun q hq => (j4 q (by omega) (by omega)).trans ((i4 q (by omega) (by omega)).trans ((g4 q (by omega) (by omega)).trans (f3 q hq)))
  have htop : (ms3 u cA comp').heap[u.heap.size]? = some (arrV cA 3 (fun j => .ref (u.heap.size + 1 + j))) := by
    rw [← mx3_is (comp := comp')]
    exact j2
  rw [hu] at j1 hold htop hin XC
  obtain ⟨t, a1, b1⟩ := kk cA comp' (ms3 u cA comp').heap hnameA hcomp j1 hold htop hin _ rfl XC
  refine ⟨t, ?_, b1⟩
  jvm_step X.here [hexec, hdg]
  simp only [multianewarray.sem, wp_bind', W.resolveClassAt_links (State.method?_setTop (F0 m pc ls (.int 4 :: .int 3 :: rest)) X.here.top) hg₁]
  rw [W.popN, if_neg (by decide)]
  refine ⟨F0 m pc ls (.int 4 :: .int 3 :: rest), State.topJava?_setTop' (s := T.setVm vm₁) _ X.here.top, [.int 3, .int 4], rest, rfl, rfl, ?_⟩
  simp only [List.mapM_cons, List.mapM_nil, wp_bind', wp_pure']
  have eS : ((T.setTop (F0 m pc ls (.int 4 :: .int 3 :: rest))).setVm vm₁).setTop (F0 m pc ls rest) = u.setTop (F0 m pc ls rest) := by
    rw [eu]
    show ((T.setVm vm₁).setTop _).setTop _ = _
    rw [State.setTop_setTop]
  show wp _ _ _ e _ _ (((T.setTop (F0 m pc ls (.int 4 :: .int 3 :: rest))).setVm vm₁).setTop (F0 m pc ls rest))
  rw [eS]
  refine wq_tab (kA := kA₁) (kc := kC₁) (comp := comp') (cc := cc') (by rw [eu]; exact hkA₁) hkindA₁ (by rw [eu]; exact hkC₁) hkindC₁ (by rw [hlim]; omega) (by rw [hmhb]; show ¬ 3 * 4 > _; omega) (by rw [hlim]; omega) (by rw [hmhb]; show ¬ 4 * 4 > _; omega) (by rw [eu]; exact hr1) (by rw [eu]; exact hr2) (fun d' acts' => ?_)
  have e3 : ms3 (u.setTop (F0 m pc ls rest)) cA comp' = (ms3 u cA comp').setTop (F0 m pc ls rest) := rfl
  rw [e3]
  simp only [wp_bind', W.mark, W.pushRef, State.topJava?_setTop' _ XC.here.top, Option.some.injEq, exists_eq_left', State.setTop_setTop, State.heap_setTop]
  intro acts2
  simp [jvm, XC.here.top]
  rw [hu]
  exact a1
end TAB2

