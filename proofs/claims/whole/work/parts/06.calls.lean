/-! CALLS AND CONTRACTS -/
abbrev Ky_ : Type := MethodName × ByteArray × Nat × Option FieldType
def QC (X : Lt_) (Post : Option Value → Mm_ → Prop) : Array Value → State → Outcome → State → Prop := fun _ st oc t => (∃ (r : Option Value) (M' : Mm_), oc = .returned (r.map (rN X.2.1)) ∧ Post r M' ∧ va_P X.1 vwCl (wO X M') t.heap) ∧ va_F (AX X) st t
def wY (k : Ky_) : List Cond := .code k.1 k.2.1 k.2.2.1 k.2.2.2 :: TB
abbrev rmD (d : Nat) : Room := { frames := d, cells := 0, slots := 0, locals := 60 * d }
def PcX (X : Lt_) (as : List Value) (M : Mm_) : Array Value → State → Prop := va_Pc (as.map (rN X.2.1)) (fun U => Kn X (AX X) U U.heap ∧ va_P X.1 vwCl (wO X M) U.heap)
/-- THE CONTRACT of a method: with these arguments in this memory it answers, and Post holds of answer and memory -/
def Cn (d : Nat) (k : Ky_) (as : List Value) (M : Mm_) (Post : Option Value → Mm_ → Prop) : Prop :=
  ∀ (l : Launch) (X : Lt_), Met l k.1 (wY k) (rmD d) (PcX X as M) (QC X Post) 0 0 (AX X)
theorem PcX_blind {X : Lt_} {as : List Value} {M : Mm_} : FrameBlind (PcX X as M) := by
  intro a U g mk h
  exact ⟨h.1, Kn.calling g mk a h.2.1, h.2.2⟩
section GC
variable {p : Program} {l : Launch} {e : Env} {R : Room} {s : State} {m : MethodId} {args : Array Value} {below : List Frame} {meth : Method} {c : Code} {H : Heap} {locs : List Loc} {cells slots : Nat} {Q : State → Prop}
theorem gv_call {pc : Nat} {ls : Array Slot} {st0 rest : List Value} {X : Lt_} {A : Nat → Prop} {a : Array Value} {Post : Option Value → Mm_ → Prop} (hr : va_Run p l e R s m args below meth c H locs cells slots 0 0 (F0 m pc ls st0) rest (QC X Post a) (AX X)) (hS : va_S A s.heap H locs) (hA : ∀ q, AX X q → A q)
    (kk : ∀ (r : Option Value) (M' : Mm_) (H1 : Heap) (locs1 : List Loc), Post r M' → va_P X.1 vwCl (wO X M') H1 → va_S A s.heap H1 locs1 → W p l e R s m args below meth c H1 locs1 cells slots Q (F0 m (pc + 3) ls ((r.map (rN X.2.1)).toList ++ rest))) : W p l e R s m args below meth c H locs cells slots Q (F0 m pc ls st0) := by
  intro T hT X0
  obtain ⟨v, st₀, t, T', L, h0, X', hL, e1, e2, ⟨⟨r, M', hv, hp, hb⟩, hz, hk⟩, st⟩ := hr T hT X0
  have hv : v = r.map (rN X.2.1) := by injection hv
  subst hv
  rw [h0] at hz hk
  obtain ⟨t2, a1, b1⟩ := kk r M' T'.heap (locs ++ L) hp (by rw [e1]; exact hb)
    ⟨Nat.le_trans hS.1 (by rw [e1]; exact hz), fun q h1 h2 => by rw [e1, hk q (Nat.lt_of_lt_of_le h1 hS.1) (fun z => h2 (hA q z))]; exact hS.2.1 q h1 h2, fun q hq => by
      rcases List.mem_append.mp hq with h | h
      · exact hS.2.2 q h
      · exact hA _ (hL q h)⟩ T' rfl X'
  exact ⟨t2, st t2 a1, b1⟩
end GC
theorem map_cat (r : Nat → Nat) (st : List Value) : ((st.map (rN r)).map fun v => v.category).sum = (st.map fun v => v.category).sum := by
  rw [List.map_map]
  congr 1
  apply List.map_congr_left
  intro v _
  exact rN_cat _ v
/-- what a call by name needs of the tables: a method of an object; of a class -/
def VW (own : String) (idx : Nat) (k : Ky_) (n : Nat) : Prop := Cond.code k.1 k.2.1 k.2.2.1 k.2.2.2 ∈ TB ∧ Cond.methodLink own idx k.1 ∈ TB ∧ Cond.instanceMethod k.1 ∈ TB ∧ Cond.selects k.1.cls k.1 k.1 ∈ TB ∧ Cond.initialized k.1.cls ∈ TB ∧ k.2.2.1 ≤ 41 ∧ k.1.cls ≠ "java/lang/invoke/MethodHandle" ∧ k.1.cls ≠ "java/lang/invoke/VarHandle" ∧ (parseMethodDescriptor k.1.desc).map (fun d => d.parameters.length) = some n
def SW (own : String) (idx : Nat) (k : Ky_) (n : Nat) : Prop := Cond.code k.1 k.2.1 k.2.2.1 k.2.2.2 ∈ TB ∧ (Cond.methodLink own idx k.1 ∈ TB ∨ Cond.methodLinkNest own idx k.1 "GrudgeRennet" ∈ nsT) ∧ Cond.static k.1 ∈ TB ∧ Cond.initialized k.1.cls ∈ TB ∧ k.2.2.1 ≤ 41 ∧ k.1.cls ≠ "java/lang/invoke/MethodHandle" ∧ k.1.cls ≠ "java/lang/invoke/VarHandle" ∧ (parseMethodDescriptor k.1.desc).map (fun d => d.parameters.length) = some n
theorem wY_good {k : Ky_} (h : Cond.code k.1 k.2.1 k.2.2.1 k.2.2.2 ∈ TB) : GoodIn TB (wY k) := by
  intro w hw
  rcases List.mem_cons.mp hw with rfl | hw
  · exact TB_good _ h
  · exact TB_good _ hw
theorem r_callV {G : GT} {own : String} {cc : ByteArray} {n d : Nat} (C : Ru G own cc n d) {pc : Nat} {lv stk : List Value} {M : Mm_} {idx d' np b ci : Nat} {k : Ky_} {as rest : List Value} {cs : List Nat} {Post : Option Value → Mm_ → Prop} (hd : decode cc pc = .ok (.invokevirtual idx, 3)) (hw : VW own idx k np) (hC : Cn d' k (.ref b :: as) M Post) (hd' : d' < d) (hn : as.length = np) (hi : lyT[b]? = some (1, ci, cs)) (hcl : (cT ci).1 = k.1.cls) (hst : stk = as.reverse ++ .ref b :: rest) (hrs : (rest.map fun v => v.category).sum ≤ 8) (kk : ∀ (r : Option Value) (M' : Mm_), Post r M' → G (pc + 3) lv (r.toList ++ rest) M') : G pc lv stk M := by
  obtain ⟨p, l, e, R, s, m, args, below, meth, c, cells, slots, Q, X, A, ⟨hx, hb, hml, hown, hts, hK, hA, hR1, hR2, hc, hs⟩, rfl⟩ := C
  intro H locs ls hP hS hl
  obtain ⟨w1, w2, w3, w4, w5, w6, w7, w8, w9⟩ := hw
  obtain ⟨c1, c2, c3, c4⟩ := cT_ok (lyT_ci hi).1
  have hG := wY_good w1
  subst hst
  refine gv_call (rest := rest.map (rN X.2.1)) (va_runV (As := as.map (rN X.2.1)) (rest := rest.map (rN X.2.1)) (b := X.2.1 b) (n := np) (C := k.1.cls) ⟨hx, hb, hml, hown, hts⟩ (hC l X) ⟨⟨rfl, rfl, Nat.le_trans hd' hR1, ?_, pay_in hts hG, List.mem_cons_self, hts _ w1, hts _ w5, ⟨w7, w8⟩, ?_, hts _ w2⟩, hts _ w3, hts _ w4⟩ ⟨PcX_blind, ?_, ?_⟩ rfl (by rw [List.length_map]; exact hn) hl.1 ?_ (lv_room (by rw [map_cat]; exact hrs)) hd ⟨by omega, by omega⟩) hS hA (fun r M' H1 locs1 q1 q2 q3 => ?_)
  · show 8 + (k.2.2.1 + 11) + 60 * d' ≤ R.locals
    omega
  · intro sig h
    rw [h] at w9
    exact (Option.some.inj w9).symm
  · rw [← hcl]
    exact va_recv hK.2.1 hP c1 (wO_get hi)
  · intro U hU hW
    refine ⟨rfl, ?_, by rw [hU]; exact hP⟩
    rw [hU]
    exact Kn.warm hW (Kn.narrow (hK.kept hS.2.1) hA)
  · show List.map (rN X.2.1) (as.reverse ++ .ref b :: rest) = _
    rw [List.map_append, List.map_reverse]
    rfl
  · have h9 := kk r M' q1 H1 locs1 ls q2 q3 hl
    rw [List.map_append] at h9
    cases r <;> exact h9
theorem r_callS {G : GT} {own : String} {cc : ByteArray} {n d : Nat} (C : Ru G own cc n d) {pc : Nat} {lv stk : List Value} {M : Mm_} {idx d' np : Nat} {k : Ky_} {as rest : List Value} {Post : Option Value → Mm_ → Prop} (hd : decode cc pc = .ok (.invokestatic idx, 3)) (hw : SW own idx k np) (hC : Cn d' k as M Post) (hd' : d' < d) (hn : as.length = np) (hst : stk = as.reverse ++ rest) (hrs : (rest.map fun v => v.category).sum ≤ 8) (kk : ∀ (r : Option Value) (M' : Mm_), Post r M' → G (pc + 3) lv (r.toList ++ rest) M') : G pc lv stk M := by
  obtain ⟨p, l, e, R, s, m, args, below, meth, c, cells, slots, Q, X, A, ⟨hx, hb, hml, hown, hts, hK, hA, hR1, hR2, hc, hs⟩, rfl⟩ := C
  intro H locs ls hP hS hl
  obtain ⟨w1, w2, w3, w5, w6, w7, w8, w9⟩ := hw
  have hG := wY_good w1
  subst hst
  have hlo : 8 + (k.2.2.1 + 11) + 60 * d' ≤ R.locals := by omega
  have hsg : ∀ sig, parseMethodDescriptor k.1.desc = some sig → np = sig.parameters.length := by
    intro sig h
    rw [h] at w9
    exact (Option.some.inj w9).symm
  have hpre : PreS s H (PcX X as M) (as.map (rN X.2.1)) := by
    refine ⟨PcX_blind, fun U hU hW => ⟨rfl, ?_, by rw [hU]; exact hP⟩⟩
    rw [hU]
    exact Kn.warm hW (Kn.narrow (hK.kept hS.2.1) hA)
  have hstk : List.map (rN X.2.1) (as.reverse ++ rest) = (as.map (rN X.2.1)).reverse ++ rest.map (rN X.2.1) := by
    rw [List.map_append, List.map_reverse]
  have fin : ∀ (r : Option Value) (M' : Mm_) (H1 : Heap) (locs1 : List Loc), Post r M' → va_P X.1 vwCl (wO X M') H1 → va_S A s.heap H1 locs1 → W p l e R s m args below meth c H1 locs1 cells slots Q (F0 m (pc + 3) ls ((r.map (rN X.2.1)).toList ++ rest.map (rN X.2.1))) := by
    intro r M' H1 locs1 q1 q2 q3
    have h9 := kk r M' q1 H1 locs1 ls q2 q3 hl
    rw [List.map_append] at h9
    cases r <;> exact h9
  rcases w2 with w2 | w2
  · exact gv_call (rest := rest.map (rN X.2.1)) (va_runS (As := as.map (rN X.2.1)) (rest := rest.map (rN X.2.1)) ⟨hx, hb, hml, hown, hts⟩ (hC l X) ⟨⟨rfl, rfl, Nat.le_trans hd' hR1, hlo, pay_in hts hG, List.mem_cons_self, hts _ w1, hts _ w5, ⟨w7, w8⟩, hsg, hts _ w2⟩, hts _ w3⟩ hpre rfl (by rw [List.length_map]; exact hn) hl.1 hstk (lv_room (by rw [map_cat]; exact hrs)) hd ⟨by omega, by omega⟩) hS hA fin
  · exact gv_call (rest := rest.map (rN X.2.1)) (va_runSN (As := as.map (rN X.2.1)) (rest := rest.map (rN X.2.1)) ⟨hx, hb, hml, hown, hts⟩ (hC l X) ⟨⟨⟨rfl, rfl, Nat.le_trans hd' hR1, hlo, pay_in hts hG, List.mem_cons_self⟩, hts _ w1, hts _ w5, ⟨w7, w8⟩, hsg, va_Nw.use rfl (hK.2.2.1 _ w2)⟩, hts _ w3, trivial⟩ hpre rfl (by rw [List.length_map]; exact hn) hl.1 hstk (lv_room (by rw [map_cat]; exact hrs)) hd ⟨by omega, by omega⟩) hS hA fin
/-- the end of a method -/
def Re (G : GT) (cc : ByteArray) (ret : Option FieldType) (Post : Option Value → Mm_ → Prop) : Prop := ∃ (p : Program) (l : Launch) (e : Env) (R : Room) (s : State) (m : MethodId) (args : Array Value) (below : List Frame) (meth : Method) (c : Code) (X : Lt_) (n : Nat),
  (p.tables.exec = Jvm.exec ∧ c.code = cc ∧ meth.sig.returnType = ret ∧ meth.locks = false) ∧ G = Gd p l e R s m args below meth c 0 0 (MQ below (QC X Post) args s 0 0 (AX X)) X (AX X) n
theorem r_iret {G : GT} {cc : ByteArray} {Post : Option Value → Mm_ → Prop} (E : Re G cc (some .int) Post) {pc : Nat} {lv : List Value} {M : Mm_} {x : Int32} (hd : decode cc pc = .ok (.ireturn, 1)) (hp : Post (some (.int x)) M) : G pc lv [.int x] M := by
  obtain ⟨p, l, e, R, s, m, args, below, meth, c, X, n, ⟨hx, hb, hr, hlk⟩, rfl⟩ := E
  intro H locs ls hP hS hl
  exact W.iret hx hb hr (fun t ht _ => ⟨⟨some (.int x), M, rfl, hp, by rw [ht]; exact hP⟩, hS.F ht⟩) hS.2.2 hd hlk
theorem r_zret {G : GT} {cc : ByteArray} {Post : Option Value → Mm_ → Prop} (E : Re G cc (some .boolean) Post) {pc : Nat} {lv : List Value} {M : Mm_} {z : Int} (hd : decode cc pc = .ok (.ireturn, 1)) (hz : z = 0 ∨ z = 1) (hp : Post (some (.int (zI z))) M) : G pc lv [.int (zI z)] M := by
  obtain ⟨p, l, e, R, s, m, args, below, meth, c, X, n, ⟨hx, hb, hr, hlk⟩, rfl⟩ := E
  intro H locs ls hP hS hl
  exact W.zret hx hb hr (by rcases hz with rfl | rfl <;> rfl) (fun t ht _ => ⟨⟨some (.int (zI z)), M, rfl, hp, by rw [ht]; exact hP⟩, hS.F ht⟩) hS.2.2 hd hlk
theorem r_lret {G : GT} {cc : ByteArray} {Post : Option Value → Mm_ → Prop} (E : Re G cc (some .long) Post) {pc : Nat} {lv : List Value} {M : Mm_} {x : Int64} (hd : decode cc pc = .ok (.lreturn, 1)) (hp : Post (some (.long x)) M) : G pc lv [.long x] M := by
  obtain ⟨p, l, e, R, s, m, args, below, meth, c, X, n, ⟨hx, hb, hr, hlk⟩, rfl⟩ := E
  intro H locs ls hP hS hl
  exact W.lret hx hb hr (fun t ht _ => ⟨⟨some (.long x), M, rfl, hp, by rw [ht]; exact hP⟩, hS.F ht⟩) hS.2.2 hd hlk
theorem r_vret {G : GT} {cc : ByteArray} {Post : Option Value → Mm_ → Prop} (E : Re G cc none Post) {pc : Nat} {lv : List Value} {M : Mm_} (hd : decode cc pc = .ok (.return_, 1)) (hp : Post none M) : G pc lv [] M := by
  obtain ⟨p, l, e, R, s, m, args, below, meth, c, X, n, ⟨hx, hb, hr, hlk⟩, rfl⟩ := E
  intro H locs ls hP hS hl
  exact W.vret hx hb hr (fun t ht _ => ⟨⟨none, M, rfl, hp, by rw [ht]; exact hP⟩, hS.F ht⟩) hS.2.2 hd hlk
/-- the locals at a method's entry -/
def lvE : List Value → List Value
  | [] => []
  | v :: vs => if v.category = 2 then v :: .null :: lvE vs else v :: lvE vs
theorem lvE_has (r : Nat → Nat) : ∀ (vs : List Value) (i j : Nat) (v : Value), (lvE vs)[j]? = some v → v ≠ .null → (i + j, rN r v) ∈ lv_args i (vs.map (rN r))
  | [], _, _, _, h, _ => by simp [lvE] at h
  | u :: vs, i, j, v, h, hn => by
    by_cases hc : u.category = 2
    · rw [lvE, if_pos hc] at h
      have hc2 : (rN r u).category = 2 := by rw [rN_cat]; exact hc
      match j, h with
      | 0, h => cases h; exact List.mem_cons_self
      | 1, h => cases h; exact absurd rfl hn
      | j + 2, h =>
        refine List.mem_cons_of_mem _ ?_
        rw [if_pos hc2]
        have := lvE_has r vs (i + 2) j v h hn
        rw [show i + 2 + j = i + (j + 2) by omega] at this
        exact this
    · rw [lvE, if_neg hc] at h
      have hc2 : ¬ (rN r u).category = 2 := by rw [rN_cat]; exact hc
      match j, h with
      | 0, h => cases h; exact List.mem_cons_self
      | j + 1, h =>
        refine List.mem_cons_of_mem _ ?_
        rw [if_neg hc2]
        have := lvE_has r vs (i + 1) j v h hn
        rw [show i + 1 + j = i + (j + 1) by omega] at this
        exact this
theorem lvE_pad {l : List Value} {m j : Nat} {v : Value} (h : (l ++ List.replicate m .null)[j]? = some v) (hn : v ≠ .null) : l[j]? = some v := by
  by_cases hj : j < l.length
  · rw [List.getElem?_append_left hj] at h; exact h
  · rw [List.getElem?_append_right (by omega)] at h
    have := List.mem_of_getElem? h
    rw [List.mem_replicate] at this
    exact absurd this.2 hn
theorem lg_sl_len (vs : List Value) : (lg_sl vs).length = (lvE vs).length := by
  induction vs with
  | nil => rfl
  | cons v vs ih =>
    have e : lg_sl (v :: vs) = (if v.category = 2 then [Slot.val v, Slot.second] else [Slot.val v]) ++ lg_sl vs := by simp [lg_sl]
    rw [e, List.length_append, ih]
    by_cases hc : v.category = 2
    · simp [lvE, hc]; omega
    · simp [lvE, hc]; omega
theorem lvE_len (r : Nat → Nat) (vs : List Value) : (lvE (vs.map (rN r))).length = (lvE vs).length := by
  induction vs with
  | nil => rfl
  | cons v vs ih =>
    by_cases hc : v.category = 2
    · simp [lvE, hc, rN_cat, ih]
    · simp [lvE, hc, rN_cat, ih]
theorem Cn.of {d : Nat} {k : Ky_} {as : List Value} {M : Mm_} {Post : Option Value → Mm_ → Prop} (hpl : plainName k.1.cls = true) (hle : (lvE as).length ≤ k.2.2.1) (h : ∀ G : GT, Ru G k.1.cls k.2.1 k.2.2.1 d → Re G k.2.1 k.2.2.2 Post → G 0 (lvE as ++ List.replicate (k.2.2.1 - (lvE as).length) .null) [] M) : Cn d k as M Post := by
  intro l X
  refine Met.ofW (cc := k.2.1) (maxL := k.2.2.1) (ret := k.2.2.2) hpl rfl ?_
  intro p e s m args below meth c s₁ B hml hv
  obtain ⟨rfl, hK, hP⟩ := hv
  have hts := atoms_spec (ws := wY k) B.pre
  have hown : s.vm.findClass k.1.cls = some m.cls := findClass_of_methodNamed B.named
  have hlk := B.notSynchronized
  have h9 := h (Gd p l e (headSpec (wY k) (rmD d)).room s m (as.map (rN X.2.1)).toArray below meth c 0 0 (MQ below (QC X Post) (as.map (rN X.2.1)).toArray s 0 0 (AX X)) X (AX X) k.2.2.1)
    ⟨p, l, e, _, s, m, _, below, meth, c, 0, 0, _, X, AX X, ⟨B.exec, B.bytes, hml, hown, fun w hw => hts w (List.mem_cons_of_mem _ hw), hK, fun _ q => q, Nat.le_refl _, Nat.le_refl _, Nat.zero_le _, Nat.zero_le _⟩, rfl⟩
    ⟨p, l, e, _, s, m, _, below, meth, c, X, k.2.2.1, ⟨B.exec, B.bytes, B.returns, hlk⟩, rfl⟩
  have hln : (lg_sl (as.map (rN X.2.1))).length ≤ k.2.2.1 := by rw [lg_sl_len, lvE_len]; exact hle
  have hl := lv_entry (as.map (rN X.2.1)) (n := k.2.2.1) hln
  rw [lg_entry_eq]
  refine h9 s.heap [] _ hP va_S.rf ⟨hl.1, hl.2.1, fun i v hi hn => ?_⟩
  have := lvE_has X.2.1 as 0 i v (lvE_pad hi hn) hn
  rw [Nat.zero_add] at this
  exact hl.2.2 _ this
theorem Cn.mono {d : Nat} {k : Ky_} {as : List Value} {M : Mm_} {Post Post' : Option Value → Mm_ → Prop} (h : Cn d k as M Post) (hp : ∀ r M', Post r M' → Post' r M') : Cn d k as M Post' := by
  intro l X
  have h1 := h l X
  intro p e ha hc hk s m args below hf happ hpre hK
  obtain ⟨k2, o, a1, a2, a3, ⟨⟨⟨r, M', q1, q2, q3⟩, q4⟩, q5⟩⟩ := h1 p e ha hc hk s m args below hf happ hpre hK
  exact ⟨k2, o, a1, a2, a3, ⟨⟨r, M', q1, hp r M' q2, q3⟩, q4⟩, q5⟩
