
/-! CONSTRUCTORS: worlds as lists of cells -/
theorem ob_im : Cond.instanceMethod objectInit ∈ TB := TB_mem (List.mem_of_getElem? (i := 78) (by decide +kernel)) rfl
theorem ob_cw : Cond.code objectInit ⟨#[0xb1]⟩ 1 none ∈ TB := TB_mem (List.mem_of_getElem? (i := 79) (by decide +kernel)) rfl
theorem ar_int : Cond.arrayClass .int ∈ TB := TB_mem (List.mem_of_getElem? (i := 95) (by decide +kernel)) rfl
theorem ar_ovr : Cond.arrayOver (.array .int) ∈ lw_tbl := (List.mem_of_getElem? (i := 212) (by decide +kernel))
def KK (D : va_G) (cI cA : ClassId) (U : State) : Prop := va_K D vwCl [(cI, .int), (cA, .array .int)] U ∧ (∀ w ∈ nsT, va_Nw w U) ∧ (Cond.arrayOver (.array .int)).before #[] U = true
theorem KK.warm {D : va_G} {cI cA : ClassId} {s U : State} (hW : s.WarmedH U.vm) (h : KK D cI cA s) : KK D cI cA U := ⟨va_K.moved hW.alike h.1, fun w hw => isN_warm (List.mem_filter.mp hw).2 hW (h.2.1 w hw), over_moved hW.alike h.2.2⟩
theorem KK.calling {D : va_G} {cI cA : ClassId} {U : State} (g : JFrame) (mk : MethodId) (a : Array Value) (h : KK D cI cA U) : KK D cI cA (U.calling g mk a) := ⟨va_K.moved (u := U) (U := U.calling g mk a) (Vm.Alike.refl U.vm) h.1, fun w hw => va_Nw.same (u := U) (U := U.calling g mk a) (isN_tab (List.mem_filter.mp hw).2) rfl (h.2.1 w hw), over_moved (u := U) (E := U.calling g mk a) (Vm.Alike.refl U.vm) h.2.2⟩
abbrev NT : Type := Nat → List (Nat × Value) → List Value → va_W → Nat → Nat → Prop
def Ni (p : Program) (l : Launch) (e : Env) (R : Room) (s : State) (m : MethodId) (args : Array Value) (below : List Frame) (meth : Method) (c : Code) (Q : State → Prop) (D : va_G) (A : Nat → Prop) (n : Nat) : NT := fun pc lv stk ws k sl =>
  ∀ (H : Heap) (locs : List Loc) (ls : Array Slot), va_P D vwCl ws H → va_D A ws → va_S A s.heap H locs → lv_has ls n lv → W p l e R s m args below meth c H locs k sl Q (F0 m pc ls stk)
def Nu (G : NT) (own : String) (cc : ByteArray) (n d mc ms : Nat) (D : va_G) (cI cA : ClassId) : Prop := ∃ (p : Program) (l : Launch) (e : Env) (R : Room) (s : State) (m : MethodId) (args : Array Value) (below : List Frame) (meth : Method) (c : Code) (Q : State → Prop) (A : Nat → Prop),
  (p.tables.exec = Jvm.exec ∧ c.code = cc ∧ c.maxLocals = n ∧ s.vm.findClass own = some m.cls ∧ (∀ w ∈ TB, w.before args s = true) ∧ KK D cI cA s ∧ (∀ q, s.heap.size ≤ q → A q) ∧ (own ≠ RL → meth.name = "<init>") ∧ d ≤ R.frames ∧ 60 * d ≤ R.locals ∧ mc ≤ R.cells ∧ ms ≤ R.slots) ∧ G = Ni p l e R s m args below meth c Q D A n
/-- the contract of a constructor -/
def Ci (d : Nat) (key : Ky_) (ci : Nat) (fs : List Value) (mc ms : Nat) (Sh : Nat → ClassId → ClassId → va_W → Prop) : Prop := ∀ (l : Launch) (D : va_G) (cI cA : ClassId) (h0 sz : Nat),
  Met l key.1 (wY key) { frames := d, cells := mc, slots := ms, locals := 60 * d } (va_Pc [.ref h0] (fun U => U.heap.size = sz ∧ va_P D vwCl [(h0, .inr (ci, fs))] U.heap ∧ KK D cI cA U)) (va_Qv (Sh h0 cI cA) (fun w1 t => va_P D vwCl w1 t.heap ∧ va_D (va_A [(h0, .inr (ci, fs))] sz) w1) (va_A [(h0, .inr (ci, fs))] sz)) mc ms (va_A [(h0, .inr (ci, fs))] sz)

theorem n_aload {G : NT} {own : String} {cc : ByteArray} {n d mc ms : Nat} {D : va_G} {cI cA : ClassId} (C : Nu G own cc n d mc ms D cI cA) {pc : Nat} {lv : List (Nat × Value)} {stk : List Value} {ws : va_W} {k sl : Nat} {j i a : Nat} {q : Fin 4} (hd : decode cc pc = .ok (.aload_n q, 1)) (hi : (q : Nat) = i) (hv : lv[j]? = some (i, .ref a)) (kk : G (pc + 1) lv (.ref a :: stk) ws k sl) : G pc lv stk ws k sl := by
  obtain ⟨p, l, e, R, s, m, args, below, meth, c, Q, A, ⟨hx, hb, hml, hown, hts, hK, hA, hnm, hR1, hR2, hc, hs⟩, rfl⟩ := C
  intro H locs ls hP hD hS hl
  exact lv_aload_n hx hb hd hi (lv_at hl j hv) (kk H locs ls hP hD hS hl)
theorem n_dup {G : NT} {own : String} {cc : ByteArray} {n d mc ms : Nat} {D : va_G} {cI cA : ClassId} (C : Nu G own cc n d mc ms D cI cA) {pc : Nat} {lv : List (Nat × Value)} {stk : List Value} {ws : va_W} {k sl : Nat} {v : Value} (hv : v.category = 1) (hd : decode cc pc = .ok (.dup, 1)) (kk : G (pc + 1) lv (v :: v :: stk) ws k sl) : G pc lv (v :: stk) ws k sl := by
  obtain ⟨p, l, e, R, s, m, args, below, meth, c, Q, A, ⟨hx, hb, hml, hown, hts, hK, hA, hnm, hR1, hR2, hc, hs⟩, rfl⟩ := C
  intro H locs ls hP hD hS hl
  exact lv_dup hx hb hd hv (kk H locs ls hP hD hS hl)
theorem n_iconst {G : NT} {own : String} {cc : ByteArray} {n d mc ms : Nat} {D : va_G} {cI cA : ClassId} (C : Nu G own cc n d mc ms D cI cA) {pc : Nat} {lv : List (Nat × Value)} {stk : List Value} {ws : va_W} {k sl : Nat} {z : Int} (hd : decode cc pc = .ok (.iconst z, 1)) (kk : G (pc + 1) lv (.int (zI z) :: stk) ws k sl) : G pc lv stk ws k sl := by
  obtain ⟨p, l, e, R, s, m, args, below, meth, c, Q, A, ⟨hx, hb, hml, hown, hts, hK, hA, hnm, hR1, hR2, hc, hs⟩, rfl⟩ := C
  intro H locs ls hP hD hS hl
  exact lv_iconst hx hb hd rfl (kk H locs ls hP hD hS hl)
theorem n_bipush {G : NT} {own : String} {cc : ByteArray} {n d mc ms : Nat} {D : va_G} {cI cA : ClassId} (C : Nu G own cc n d mc ms D cI cA) {pc : Nat} {lv : List (Nat × Value)} {stk : List Value} {ws : va_W} {k sl : Nat} {z : Int} (hv : (Int8.ofInt z).toInt32 = zI z) (hd : decode cc pc = .ok (.bipush z, 2)) (kk : G (pc + 2) lv (.int (zI z) :: stk) ws k sl) : G pc lv stk ws k sl := by
  obtain ⟨p, l, e, R, s, m, args, below, meth, c, Q, A, ⟨hx, hb, hml, hown, hts, hK, hA, hnm, hR1, hR2, hc, hs⟩, rfl⟩ := C
  intro H locs ls hP hD hS hl
  exact lv_bipush hx hb hd hv (kk H locs ls hP hD hS hl)
theorem n_obj {G : NT} {own : String} {cc : ByteArray} {n d mc ms : Nat} {D : va_G} {cI cA : ClassId} (C : Nu G own cc n d mc ms D cI cA) {pc : Nat} {lv : List (Nat × Value)} {stk : List Value} {ws : va_W} {k sl : Nat} {idx a : Nat} (hd : decode cc pc = .ok (.invokespecial idx, 3)) (hlk : Cond.methodLink own idx objectInit ∈ TB) (hd1 : 1 ≤ d) (hst : (stk.map fun v => v.category).sum ≤ 8) (kk : G (pc + 3) lv stk ws k sl) : G pc lv (.ref a :: stk) ws k sl := by
  obtain ⟨p, l, e, R, s, m, args, below, meth, c, Q, A, ⟨hx, hb, hml, hown, hts, hK, hA, hnm, hR1, hR2, hc, hs⟩, rfl⟩ := C
  intro H locs ls hP hD hS hl
  refine W.objInit hx hb hown (hts _ hlk) (hts _ ob_im) (hts _ ob_cw) rfl (by rw [hml]; exact hl.1) rfl hd (by omega) (by show 2 * 0 + _ + 12 ≤ _; omega) ?_
  exact W.eq (g2 := F0 m (pc + 3) ls stk) rfl (kk H locs ls hP hD hS hl)
theorem n_newI {G : NT} {own : String} {cc : ByteArray} {n d mc ms : Nat} {D : va_G} {cI cA : ClassId} (C : Nu G own cc n d mc ms D cI cA) {pc : Nat} {lv : List (Nat × Value)} {stk : List Value} {ws : va_W} {k sl : Nat} {z : Int} {N : Nat} (hd : decode cc pc = .ok (.newarray .int, 2)) (h0 : ¬ zI z < 0) (hN : (zI z).toNatClampNeg = N) (hby : N ≤ 100) (hk : k + 1 ≤ mc) (hsl : sl + N ≤ ms) (kk : ∀ q, G (pc + 2) lv (.ref q :: stk) (ws ++ [(q, .inl (cI, N, .inl (fun _ => zI 0)))]) (k + 1) (sl + N)) : G pc lv (.int (zI z) :: stk) ws k sl := by
  obtain ⟨p, l, e, R, s, m, args, below, meth, c, Q, A, ⟨hx, hb, hml, hown, hts, hK, hA, hnm, hR1, hR2, hc, hs⟩, rfl⟩ := C
  intro H locs ls hP hD hS hl
  refine va_newa (atype := .int) (ty := .int) hx hb (hts _ ar_int) rfl hK.1 hP hD hS hA (a0 := (N, .inl (fun _ => zI 0))) (fun _ => rfl) h0 hN (by show N * 4 ≤ _; omega) (by omega) (by omega) hd (fun q cX H1 hK1 hP1 hD1 hS1 => ?_)
  have e : cX = cI := by
    have h1 := (hK1.2 2 (cX, .int) rfl).2
    have h2 := (hK.1.2 0 (cI, .int) rfl).2
    exact Option.some.inj (h1.symm.trans h2)
  rw [e] at hP1 hD1
  exact kk q H1 locs ls hP1 hD1 hS1 hl
theorem n_new {G : NT} {own : String} {cc : ByteArray} {n d mc ms : Nat} {D : va_G} {cI cA : ClassId} (C : Nu G own cc n d mc ms D cI cA) {pc : Nat} {lv : List (Nat × Value)} {stk : List Value} {ws : va_W} {k sl : Nat} {idx ci : Nat} {fs : List Value} (hd : decode cc pc = .ok (.new idx, 3)) (hci : ci < 7) (hcl : Cond.classLink own idx (cT ci).1 ∈ TB) (hin : Cond.instantiable (cT ci).1 (cT ci).2.2.1 ∈ TB) (hini : Cond.initialized (cT ci).1 ∈ TB) (hfs : ∀ j, j < (cT ci).2.2.1 → defaultValue ((cT ci).2.2.2 j) = vp_V fs j) (hk : k + 1 ≤ mc) (hsl : sl + (cT ci).2.2.1 ≤ ms) (kk : ∀ q, G (pc + 3) lv (.ref q :: stk) (ws ++ [(q, .inr (ci, fs))]) (k + 1) (sl + (cT ci).2.2.1)) : G pc lv stk ws k sl := by
  obtain ⟨p, l, e, R, s, m, args, below, meth, c, Q, A, ⟨hx, hb, hml, hown, hts, hK, hA, hnm, hR1, hR2, hc, hs⟩, rfl⟩ := C
  intro H locs ls hP hD hS hl
  obtain ⟨h1, h2, h3, h4⟩ := cT_ok hci
  exact va_new (Ts := TB) hx hb hts h2 _ h3 hown (hts _ hcl) (hts _ hin) (hts _ hini) hK.1 hP hD hS hA h1 hfs (by omega) (by omega) hd (fun q H1 hP1 hD1 hS1 => kk q H1 locs ls hP1 hD1 hS1 hl)
theorem n_putF {G : NT} {own : String} {cc : ByteArray} {n d mc ms : Nat} {D : va_G} {cI cA : ClassId} (C : Nu G own cc n d mc ms D cI cA) {pc : Nat} {lv : List (Nat × Value)} {stk : List Value} {ws : va_W} {k sl : Nat} {idx ci fk i a : Nat} {fs : List Value} {v : Value} (hd : decode cc pc = .ok (.putfield idx, 3)) (hci : ci < 7) (hkN : fk < (cT ci).2.2.1) (hlk : Cond.fieldLink own idx ((cT ci).2.1 fk).1 ((cT ci).2.1 fk).2.1 ((cT ci).2.1 fk).2.2.1 ∈ TB) (hfin : ((cT ci).2.1 fk).2.2.2 = true) (hdecl : ((cT ci).2.1 fk).1 = own) (hne : own ≠ RL) (he : ws[i]? = some (a, .inr (ci, fs))) (hna : narrow ((cT ci).2.2.2 fk) v = v) (hfi : fits ((cT ci).2.2.2 fk) v = true) (hln : fk < fs.length) (kk : G (pc + 3) lv stk (ws.set i (a, .inr (ci, fs.set fk v))) k sl) : G pc lv (v :: .ref a :: stk) ws k sl := by
  obtain ⟨p, l, e, R, s, m, args, below, meth, c, Q, A, ⟨hx, hb, hml, hown, hts, hK, hA, hnm, hR1, hR2, hc, hs⟩, rfl⟩ := C
  intro H locs ls hP hD hS hl
  obtain ⟨h1, h2, h3, h4⟩ := cT_ok hci
  exact va_putF (Ts := TB) hx hb hts h2 _ h3 h4 hown hK.1 hP hD hS i he h1 fk hkN (hts _ hlk) (fun _ h9 => h9) hfin (hnm hne) hdecl (h3 fk hkN) hna hfi hln hd (fun H1 locs1 hP1 hD1 hS1 => kk H1 locs1 ls hP1 hD1 hS1 hl)
theorem n_put {G : NT} {own : String} {cc : ByteArray} {n d mc ms : Nat} {D : va_G} {cI cA : ClassId} (C : Nu G own cc n d mc ms D cI cA) {pc : Nat} {lv : List (Nat × Value)} {stk : List Value} {ws : va_W} {k sl : Nat} {idx ci fk i a : Nat} {fs : List Value} {v : Value} (hd : decode cc pc = .ok (.putfield idx, 3)) (hci : ci < 7) (hkN : fk < (cT ci).2.2.1) (hlk : Cond.fieldLink own idx ((cT ci).2.1 fk).1 ((cT ci).2.1 fk).2.1 ((cT ci).2.1 fk).2.2.1 ∈ TB) (hfin : ((cT ci).2.1 fk).2.2.2 = false) (he : ws[i]? = some (a, .inr (ci, fs))) (hna : narrow ((cT ci).2.2.2 fk) v = v) (hfi : fits ((cT ci).2.2.2 fk) v = true) (hln : fk < fs.length) (kk : G (pc + 3) lv stk (ws.set i (a, .inr (ci, fs.set fk v))) k sl) : G pc lv (v :: .ref a :: stk) ws k sl := by
  obtain ⟨p, l, e, R, s, m, args, below, meth, c, Q, A, ⟨hx, hb, hml, hown, hts, hK, hA, hnm, hR1, hR2, hc, hs⟩, rfl⟩ := C
  intro H locs ls hP hD hS hl
  obtain ⟨h1, h2, h3, h4⟩ := cT_ok hci
  exact va_put (Ts := TB) hx hb hts h2 _ h3 h4 hown hK.1 hP hD hS i he h1 fk hkN (hts _ hlk) (fun _ h9 => h9) hfin (h3 fk hkN) hna hfi hln hd (fun H1 locs1 hP1 hD1 hS1 => kk H1 locs1 ls hP1 hD1 hS1 hl)
theorem n_callN {G : NT} {own : String} {cc : ByteArray} {n d mc ms : Nat} {D : va_G} {cI cA : ClassId} (C : Nu G own cc n d mc ms D cI cA) {pc : Nat} {lv : List (Nat × Value)} {stk : List Value} {ws : va_W} {k sl : Nat} {idx ci i a d' mc' ms' : Nat} {fs : List Value} {key : Ky_} {Sh : Nat → ClassId → ClassId → va_W → Prop} (hd : decode cc pc = .ok (.invokespecial idx, 3)) (hM : Ci d' key ci fs mc' ms' Sh) (hcode : Cond.code key.1 key.2.1 key.2.2.1 key.2.2.2 ∈ TB) (hlk : Cond.methodLinkNest own idx key.1 "GrudgeRennet" ∈ nsT) (him : Cond.instanceMethod key.1 ∈ TB) (hini : Cond.initialized key.1.cls ∈ TB) (hnam : key.1.name = "<init>") (hdsc : key.1.cls ≠ "java/lang/invoke/MethodHandle" ∧ key.1.cls ≠ "java/lang/invoke/VarHandle" ∧ (parseMethodDescriptor key.1.desc).map (fun x => x.parameters.length) = some 0) (hret : key.2.2.2 = none) (hmx : key.2.2.1 ≤ 41) (hd' : d' < d) (hk : k + mc' ≤ mc) (hsl : sl + ms' ≤ ms) (he : ws[i]? = some (a, .inr (ci, fs))) (hrs : (stk.map fun v => v.category).sum ≤ 8) (isR : List Nat) (wr : va_W) (hR : isR.map (fun i => ws[i]?) = wr.map some) (hnd : va_nd isR = true) (hdis : ∀ j ∈ isR, j ∉ [i]) (kk : ∀ w1, Sh a cI cA w1 → G (pc + 3) lv stk (wr ++ w1) (k + mc') (sl + ms')) : G pc lv (.ref a :: stk) ws k sl := by
  obtain ⟨p, l, e, R, s, m, args, below, meth, c, Q, A, ⟨hx, hb, hml, hown, hts, hK, hA, hnm, hR1, hR2, hc, hs⟩, rfl⟩ := C
  intro H locs ls hP hD hS hl
  have hPc : va_P D vwCl [(a, .inr (ci, fs))] H := hP.sub [i] (by simp [he])
  have hFc := va_free (wc := [(a, .inr (ci, fs))]) hD hS hA [i] (by simp [he])
  have hw : wY key = Cond.code key.1 key.2.1 key.2.2.1 none :: TB := by unfold wY; rw [hret]
  refine va_callv (va_runIN (As := []) (rest := stk) ⟨hx, hb, hml, hown, hts⟩ (hM l D cI cA a H.size) ⟨va_cnB 0 hts (wY_good hcode) hw rfl rfl (hK.2.1 _ hlk) (hts _ hini) hdsc ⟨by show d' + 1 ≤ _; omega, by show 8 + (key.2.2.1 + 11) + 60 * d' ≤ _; omega⟩, hnam, hts _ him⟩ ⟨fun x U g mk q => ⟨q.1, q.2.1, q.2.2.1, KK.calling g mk x q.2.2.2⟩, fun U hU hW => ⟨rfl, by rw [hU], by rw [hU]; exact hPc, hK.warm hW⟩⟩ rfl rfl hl.1 rfl (lv_room hrs) hd ⟨by omega, by omega⟩) hS (fun q _ h => hFc q h) hFc (fun w1 t H1 locs1 ht hvm hw hB hz1 hk1 hS1 => ?_)
  obtain ⟨hP1, hD1⟩ := hB
  rw [ht] at hP1
  obtain ⟨hP2, hD2⟩ := va_join (wr := wr) (w1 := w1) hP hD [i] isR (by simp [he]) hR hnd hdis hk1 hFc hP1 hD1
  exact kk w1 hw H1 locs1 ls hP2 hD2 hS1 hl
theorem n_callI {G : NT} {own : String} {cc : ByteArray} {n d mc ms : Nat} {D : va_G} {cI cA : ClassId} (C : Nu G own cc n d mc ms D cI cA) {pc : Nat} {lv : List (Nat × Value)} {stk : List Value} {ws : va_W} {k sl : Nat} {idx ci i a d' mc' ms' : Nat} {fs : List Value} {key : Ky_} {Sh : Nat → ClassId → ClassId → va_W → Prop} (hd : decode cc pc = .ok (.invokespecial idx, 3)) (hM : Ci d' key ci fs mc' ms' Sh) (hcode : Cond.code key.1 key.2.1 key.2.2.1 key.2.2.2 ∈ TB) (hlk : Cond.methodLink own idx key.1 ∈ TB) (him : Cond.instanceMethod key.1 ∈ TB) (hini : Cond.initialized key.1.cls ∈ TB) (hnam : key.1.name = "<init>") (hdsc : key.1.cls ≠ "java/lang/invoke/MethodHandle" ∧ key.1.cls ≠ "java/lang/invoke/VarHandle" ∧ (parseMethodDescriptor key.1.desc).map (fun x => x.parameters.length) = some 0) (hret : key.2.2.2 = none) (hmx : key.2.2.1 ≤ 41) (hd' : d' < d) (hk : k + mc' ≤ mc) (hsl : sl + ms' ≤ ms) (he : ws[i]? = some (a, .inr (ci, fs))) (hrs : (stk.map fun v => v.category).sum ≤ 8) (isR : List Nat) (wr : va_W) (hR : isR.map (fun i => ws[i]?) = wr.map some) (hnd : va_nd isR = true) (hdis : ∀ j ∈ isR, j ∉ [i]) (kk : ∀ w1, Sh a cI cA w1 → G (pc + 3) lv stk (wr ++ w1) (k + mc') (sl + ms')) : G pc lv (.ref a :: stk) ws k sl := by
  obtain ⟨p, l, e, R, s, m, args, below, meth, c, Q, A, ⟨hx, hb, hml, hown, hts, hK, hA, hnm, hR1, hR2, hc, hs⟩, rfl⟩ := C
  intro H locs ls hP hD hS hl
  have hPc : va_P D vwCl [(a, .inr (ci, fs))] H := hP.sub [i] (by simp [he])
  have hFc := va_free (wc := [(a, .inr (ci, fs))]) hD hS hA [i] (by simp [he])
  have hw : wY key = Cond.code key.1 key.2.1 key.2.2.1 none :: TB := by unfold wY; rw [hret]
  refine va_callv (va_runI (As := []) (rest := stk) ⟨hx, hb, hml, hown, hts⟩ (hM l D cI cA a H.size) (cwI 0 hts (wY_good hcode) hw rfl rfl (hts _ hini) (hts _ hlk) (hts _ him) hnam hdsc ⟨by show d' + 1 ≤ _; omega, by show 8 + (key.2.2.1 + 11) + 60 * d' ≤ _; omega⟩) ⟨fun x U g mk q => ⟨q.1, q.2.1, q.2.2.1, KK.calling g mk x q.2.2.2⟩, fun U hU hW => ⟨rfl, by rw [hU], by rw [hU]; exact hPc, hK.warm hW⟩⟩ rfl rfl hl.1 rfl (lv_room hrs) hd ⟨by omega, by omega⟩) hS (fun q _ h => hFc q h) hFc (fun w1 t H1 locs1 ht hvm hw hB hz1 hk1 hS1 => ?_)
  obtain ⟨hP1, hD1⟩ := hB
  rw [ht] at hP1
  obtain ⟨hP2, hD2⟩ := va_join (wr := wr) (w1 := w1) hP hD [i] isR (by simp [he]) hR hnd hdis hk1 hFc hP1 hD1
  exact kk w1 hw H1 locs1 ls hP2 hD2 hS1 hl

theorem Ci.of {d : Nat} {key : Ky_} {ci : Nat} {fs : List Value} {mc ms : Nat} {Sh : Nat → ClassId → ClassId → va_W → Prop} (hpl : plainName key.1.cls = true) (hnam : key.1.name = "<init>") (hret : key.2.2.2 = none) (hn : key.2.2.1 = 1)
    (h : ∀ (G : NT) (D : va_G) (cI cA : ClassId) (h0 : Nat), Nu G key.1.cls key.2.1 1 d mc ms D cI cA → (∀ pc lv w1, decode key.2.1 pc = .ok (.return_, 1) → Sh h0 cI cA w1 → G pc lv [] w1 mc ms) → G 0 [(0, .ref h0)] [] [(h0, .inr (ci, fs))] 0 0) : Ci d key ci fs mc ms Sh := by
  intro l D cI cA h0 sz
  refine Met.ofW (cc := key.2.1) (maxL := key.2.2.1) (ret := key.2.2.2) hpl rfl ?_
  intro p e s m args below meth c s₁ B hml hv
  obtain ⟨rfl, hsz, hP, hK⟩ := hv
  have hts := atoms_spec (ws := wY key) B.pre
  have hown : s.vm.findClass key.1.cls = some m.cls := findClass_of_methodNamed B.named
  have hlk := B.notSynchronized
  have hin : meth.name = "<init>" := ((name_of_methodNamed B.named B.method).1).trans hnam
  subst hsz
  have hD : va_D (va_A [(h0, .inr (ci, fs))] s.heap.size) [(h0, .inr (ci, fs))] := by
    refine ⟨fun i j x y hi hj _ => ?_, fun i x hi => Or.inl ⟨i, x.2, hi⟩⟩
    have h1 := (List.getElem?_eq_some_iff.mp hi).1
    have h2 := (List.getElem?_eq_some_iff.mp hj).1
    simp at h1 h2
    omega
  have hA : ∀ q, s.heap.size ≤ q → va_A [(h0, .inr (ci, fs))] s.heap.size q := fun q hq => Or.inr hq
  have hl := lv_entry ([.ref h0]) (n := 1) (Nat.le_of_ble_eq_true rfl)
  rw [lg_entry_eq, hn]
  have hr2 : meth.sig.returnType = none := B.returns.trans hret
  refine h (Ni p l e (headSpec (wY key) { frames := d, cells := mc, slots := ms, locals := 60 * d }).room s m ([.ref h0] : List Value).toArray below meth c (MQ below (va_Qv (Sh h0 cI cA) (fun w1 t => va_P D vwCl w1 t.heap ∧ va_D (va_A [(h0, .inr (ci, fs))] s.heap.size) w1) (va_A [(h0, .inr (ci, fs))] s.heap.size)) ([.ref h0] : List Value).toArray s mc ms (va_A [(h0, .inr (ci, fs))] s.heap.size)) D (va_A [(h0, .inr (ci, fs))] s.heap.size) 1) D cI cA h0
    ⟨p, l, e, _, s, m, _, below, meth, c, _, _, ⟨B.exec, B.bytes, hml.trans hn, hown, fun w hw => hts w (List.mem_cons_of_mem _ hw), hK, hA, fun _ => hin, Nat.le_refl _, Nat.le_refl _, Nat.le_refl _, Nat.le_refl _⟩, rfl⟩
    (fun pc lv w1 hd hw H locs ls hP1 hD1 hS1 hl1 => ?_) s.heap [] _ hP hD va_S.rf hl
  exact W.vret B.exec B.bytes hr2 (fun t ht hW => ⟨⟨w1, rfl, hw, by rw [ht]; exact hP1, hD1⟩, hS1.F ht⟩) hS1.2.2 hd hlk

