theorem fl_comp : Cond.fieldLink "java/lang/String" 38 "java/lang/String" "COMPACT_STRINGS" "Z" ∈ TB := TB_mem (List.mem_of_getElem? (i := 324) (by decide +kernel)) rfl
theorem fl_coder : Cond.fieldLink "java/lang/String" 15 "java/lang/String" "coder" "B" ∈ TB := TB_mem (List.mem_of_getElem? (i := 1216) (by decide +kernel)) rfl
theorem fl_value : Cond.fieldLink "java/lang/String" 9 "java/lang/String" "value" "[B" ∈ TB := TB_mem (List.mem_of_getElem? (i := 1217) (by decide +kernel)) rfl
def psb (k : Nat) : Int := [112, 115, 98, 116, 109].getD k 0
theorem psb_v : ∀ k : Nat, k < 5 → ((([[112, 115, 98, 116, 109]] : List (List Int32)).getD 0 []).getD k 0) = zI (psb k) := by decide +kernel
theorem r_ldcP {G : GT} {own : String} {cc : ByteArray} {n d : Nat} (C : Ru G own cc n d) {pc : Nat} {lv stk : List Value} {M : Mm_} (hd : decode cc pc = .ok (.ldc 38, 2)) (ho : own = "GrudgeRennet$Page") (kk : G (pc + 2) lv (.ref 101 :: stk) M) : G pc lv stk M := by
  obtain ⟨p, l, e, R, s, m, args, below, meth, c, cells, slots, Q, X, A, ⟨hx, hb, hml, hown, hts, hK, hA, hR1, hR2, hc, hs⟩, rfl⟩ := C
  intro H locs ls hP hS hl
  subst ho
  exact va_ldcS hx hb hown hK.2.2.2.2.2.1 hd (kk H locs ls hP hS hl)
theorem r_ldcV {G : GT} {own : String} {cc : ByteArray} {n d : Nat} (C : Ru G own cc n d) {pc : Nat} {lv stk : List Value} {M : Mm_} (hd : decode cc pc = .ok (.ldc 40, 2)) (ho : own = "GrudgeRennet$Valley") (kk : G (pc + 2) lv (.ref 101 :: stk) M) : G pc lv stk M := by
  obtain ⟨p, l, e, R, s, m, args, below, meth, c, cells, slots, Q, X, A, ⟨hx, hb, hml, hown, hts, hK, hA, hR1, hR2, hc, hs⟩, rfl⟩ := C
  intro H locs ls hP hS hl
  subst ho
  exact va_ldcS hx hb hown hK.2.2.2.2.2.2.1 hd (kk H locs ls hP hS hl)
theorem r_strv {G : GT} {own : String} {cc : ByteArray} {n d : Nat} (C : Ru G own cc n d) {pc : Nat} {lv stk : List Value} {M : Mm_} (hd : decode cc pc = .ok (.getfield 9, 3)) (ho : own = "java/lang/String") (kk : G (pc + 3) lv (.ref 102 :: stk) M) : G pc lv (.ref 101 :: stk) M := by
  obtain ⟨p, l, e, R, s, m, args, below, meth, c, cells, slots, Q, X, A, ⟨hx, hb, hml, hown, hts, hK, hA, hR1, hR2, hc, hs⟩, rfl⟩ := C
  intro H locs ls hP hS hl
  subst ho
  exact vk_getf (v := .ref (X.2.1 102)) hx hb (hK.2.2.2.2.2.2.2.1.1 0 (by decide)).2.2.1 hS hown (hts _ fl_value) (fun _ h9 => h9) hd (kk H locs ls hP hS hl)
theorem r_strc {G : GT} {own : String} {cc : ByteArray} {n d : Nat} (C : Ru G own cc n d) {pc : Nat} {lv stk : List Value} {M : Mm_} (hd : decode cc pc = .ok (.getfield 15, 3)) (ho : own = "java/lang/String") (kk : G (pc + 3) lv (.int (zI 0) :: stk) M) : G pc lv (.ref 101 :: stk) M := by
  obtain ⟨p, l, e, R, s, m, args, below, meth, c, cells, slots, Q, X, A, ⟨hx, hb, hml, hown, hts, hK, hA, hR1, hR2, hc, hs⟩, rfl⟩ := C
  intro H locs ls hP hS hl
  subst ho
  exact vk_getf (v := .int 0) hx hb (hK.2.2.2.2.2.2.2.1.1 0 (by decide)).2.1 hS hown (hts _ fl_coder) (fun _ h9 => h9) hd (kk H locs ls hP hS hl)
theorem r_comp {G : GT} {own : String} {cc : ByteArray} {n d : Nat} (C : Ru G own cc n d) {pc : Nat} {lv stk : List Value} {M : Mm_} (hd : decode cc pc = .ok (.getstatic 38, 3)) (ho : own = "java/lang/String") (kk : G (pc + 3) lv (.int (zI 1) :: stk) M) : G pc lv stk M := by
  obtain ⟨p, l, e, R, s, m, args, below, meth, c, cells, slots, Q, X, A, ⟨hx, hb, hml, hown, hts, hK, hA, hR1, hR2, hc, hs⟩, rfl⟩ := C
  intro H locs ls hP hS hl
  subst ho
  exact va_gets (v := .int 1) hx hb hK.2.2.2.2.2.2.2.2 hS hown (hts _ fl_comp) (fun _ h9 => h9) hd (kk H locs ls hP hS hl)
theorem r_blen {G : GT} {own : String} {cc : ByteArray} {n d : Nat} (C : Ru G own cc n d) {pc : Nat} {lv stk : List Value} {M : Mm_} (hd : decode cc pc = .ok (.arraylength, 1)) (kk : G (pc + 1) lv (.int (zI 5) :: stk) M) : G pc lv (.ref 102 :: stk) M := by
  obtain ⟨p, l, e, R, s, m, args, below, meth, c, cells, slots, Q, X, A, ⟨hx, hb, hml, hown, hts, hK, hA, hR1, hR2, hc, hs⟩, rfl⟩ := C
  intro H locs ls hP hS hl
  exact va_tlen (N := 5) hx hb (hK.2.2.2.2.2.2.2.1.1 0 (by decide)).2.2.2 hS (v := zI 5) rfl hd (kk H locs ls hP hS hl)
theorem r_bald {G : GT} {own : String} {cc : ByteArray} {n d : Nat} (C : Ru G own cc n d) {pc : Nat} {lv stk : List Value} {M : Mm_} {k : Nat} {z : Int} (hd : decode cc pc = .ok (.baload, 1)) (hz : z = k) (hk : k < 5) (kk : G (pc + 1) lv (.int (zI (psb k)) :: stk) M) : G pc lv (.int (zI z) :: .ref 102 :: stk) M := by
  obtain ⟨p, l, e, R, s, m, args, below, meth, c, cells, slots, Q, X, A, ⟨hx, hb, hml, hown, hts, hK, hA, hR1, hR2, hc, hs⟩, rfl⟩ := C
  intro H locs ls hP hS hl
  refine va_tb (N := 5) hx hb (hK.2.2.2.2.2.2.2.1.1 0 (by decide)).2.2.2 hS (zI_inj_in hz hk (by decide)) (v := .int (zI (psb k))) ?_ hd (kk H locs ls hP hS hl)
  rw [zI_clamp hz hk (by decide)]
  show Value.int _ = Value.int _
  rw [psb_v k hk]
theorem r_i2b {G : GT} {own : String} {cc : ByteArray} {n d : Nat} (C : Ru G own cc n d) {pc : Nat} {lv stk : List Value} {M : Mm_} {x v : Int32} (hv : x.toInt8.toInt32 = v) (hd : decode cc pc = .ok (.i2b, 1)) (kk : G (pc + 1) lv (.int v :: stk) M) : G pc lv (.int x :: stk) M := by
  obtain ⟨p, l, e, R, s, m, args, below, meth, c, cells, slots, Q, X, A, ⟨hx, hb, hml, hown, hts, hK, hA, hR1, hR2, hc, hs⟩, rfl⟩ := C
  intro H locs ls hP hS hl
  exact lv_i2b hx hb hd hv (kk H locs ls hP hS hl)
theorem r_ishrR {G : GT} {own : String} {cc : ByteArray} {n d : Nat} (C : Ru G own cc n d) {pc : Nat} {lv stk : List Value} {M : Mm_} {x y : Int32} (hd : decode cc pc = .ok (.ishr, 1)) (kk : G (pc + 1) lv (.int (x >>> (y &&& 31)) :: stk) M) : G pc lv (.int y :: .int x :: stk) M := by
  obtain ⟨p, l, e, R, s, m, args, below, meth, c, cells, slots, Q, X, A, ⟨hx, hb, hml, hown, hts, hK, hA, hR1, hR2, hc, hs⟩, rfl⟩ := C
  intro H locs ls hP hS hl
  exact lv_ishr hx hb hd (kk H locs ls hP hS hl)

theorem r_bret {G : GT} {cc : ByteArray} {Post : Option Value → Mm_ → Prop} (E : Re G cc (some .byte) Post) {pc : Nat} {lv : List Value} {M : Mm_} (hd : decode cc pc = .ok (.ireturn, 1)) (hp : Post (some (.int (zI 0))) M) : G pc lv [.int (zI 0)] M := by
  obtain ⟨p, l, e, R, s, m, args, below, meth, c, X, n, ⟨hx, hb, hr, hlk⟩, rfl⟩ := E
  intro H locs ls hP hS hl
  exact W.zret hx hb hr (by rfl) (fun t ht _ => ⟨⟨some (.int (zI 0)), M, rfl, hp, by rw [ht]; exact hP⟩, hS.F ht⟩) hS.2.2 hd hlk
theorem r_callX {G : GT} {own : String} {cc : ByteArray} {n d : Nat} (C : Ru G own cc n d) {pc : Nat} {lv stk : List Value} {M : Mm_} {idx d' np : Nat} {k : Ky_} {as rest : List Value} {v : Int} (hd : decode cc pc = .ok (.invokevirtual idx, 3)) (hw : VW own idx k np) (hC : Cn d' k (.ref 101 :: as) M (pZ v M)) (hd' : d' < d) (hn : as.length = np) (hcl : "java/lang/String" = k.1.cls) (hst : stk = as.reverse ++ .ref 101 :: rest) (hrs : (rest.map fun v => v.category).sum ≤ 8) (kk : G (pc + 3) lv (.int (zI v) :: rest) M) : G pc lv stk M := by
  obtain ⟨p, l, e, R, s, m, args, below, meth, c, cells, slots, Q, X, A, ⟨hx, hb, hml, hown, hts, hK, hA, hR1, hR2, hc, hs⟩, rfl⟩ := C
  intro H locs ls hP hS hl
  obtain ⟨w1, w2, w3, w4, w5, w6, w7, w8, w9⟩ := hw
  have hG := wY_good w1
  subst hst
  refine gv_call (rest := rest.map (rN X.2.1)) (va_runV (As := as.map (rN X.2.1)) (rest := rest.map (rN X.2.1)) (b := X.2.1 101) (n := np) (C := k.1.cls) ⟨hx, hb, hml, hown, hts⟩ (hC l X) ⟨⟨rfl, rfl, Nat.le_trans hd' hR1, ?_, pay_in hts hG, List.mem_cons_self, hts _ w1, hts _ w5, ⟨w7, w8⟩, ?_, hts _ w2⟩, hts _ w3, hts _ w4⟩ ⟨PcX_blind, ?_, ?_⟩ rfl (by rw [List.length_map]; exact hn) hl.1 ?_ (lv_room (by rw [map_cat]; exact hrs)) hd ⟨by omega, by omega⟩) hS hA (fun r M' H1 locs1 q1 q2 q3 => ?_)
  · show 8 + (k.2.2.1 + 11) + 60 * d' ≤ R.locals
    omega
  · intro sig h
    rw [h] at w9
    exact (Option.some.inj w9).symm
  · rw [← hcl]
    exact vk_recv (i := 0) hK.2.2.2.2.2.2.2.1 (by decide) hS
  · intro U hU hW
    refine ⟨rfl, ?_, by rw [hU]; exact hP⟩
    rw [hU]
    exact Kn.warm hW (Kn.narrow (hK.kept hS.2.1) hA)
  · show List.map (rN X.2.1) (as.reverse ++ .ref 101 :: rest) = _
    rw [List.map_append, List.map_reverse]
    rfl
  · obtain ⟨rfl, rfl⟩ := q1
    exact kk H1 locs1 ls q2 q3 hl
def ixF (z : Int) : Int := if z = 112 then 0 else if z = 115 then 1 else if z = 98 then 2 else if z = 116 then 3 else if z = 109 then 4 else -1
theorem ixF_b (z : Int) : -1 ≤ ixF z ∧ ixF z ≤ 4 := by
  unfold ixF
  repeat' split
  all_goals omega
theorem ixF_m {k : Nat} (hk : k < 5) : ixF (psb k) = k := by
  rcases (show k = 0 ∨ k = 1 ∨ k = 2 ∨ k = 3 ∨ k = 4 by omega) with rfl | rfl | rfl | rfl | rfl <;> rfl
theorem ixF_n {z : Int} (h : ∀ k : Nat, k < 5 → psb k ≠ z) : ixF z = -1 := by
  have h0 := h 0 (by decide)
  have h1 := h 1 (by decide)
  have h2 := h 2 (by decide)
  have h3 := h 3 (by decide)
  have h4 := h 4 (by decide)
  simp only [psb, List.getD_cons_zero, List.getD_cons_succ] at h0 h1 h2 h3 h4
  unfold ixF
  rw [if_neg (by omega), if_neg (by omega), if_neg (by omega), if_neg (by omega), if_neg (by omega)]

set_option maxRecDepth 10000 in
set_option maxHeartbeats 1000000 in
theorem c_canEncode (M : Mm_) {a : Int} (ra : rg a) : Cn 0 kJ1_canEncode_9a6ad [.int (zI a)] M (pB (0 ≤ a ∧ a ≤ 255) M) := by
  refine Cn.of rfl (Nat.le_of_ble_eq_true rfl) (fun G C E => ?_)
  show G 0 [.int (zI a)] [] M
  refine r_iload_n C rfl dJ1_canEncode_9a6ad_0 ?_
  refine r_if_lt C (tgt := 15) dJ1_canEncode_9a6ad_1 rfl (by first | assumption | exact rgm (by omega) (by omega)) (fun h1 => ?_) (fun h1 => ?_)
  · refine r_iconst C dJ1_canEncode_9a6ad_15 ?_
    exact r_zret E dJ1_canEncode_9a6ad_16 (by decide) (pB_f (by omega))
  · refine r_iload_n C rfl dJ1_canEncode_9a6ad_4 ?_
    refine r_sipush C rfl dJ1_canEncode_9a6ad_5 ?_
    refine r_icmp_gt C (tgt := 15) dJ1_canEncode_9a6ad_8 rfl (by first | assumption | exact rgm (by omega) (by omega)) (by first | assumption | exact rgm (by omega) (by omega)) (fun h8 => ?_) (fun h8 => ?_)
    · refine r_iconst C dJ1_canEncode_9a6ad_15 ?_
      exact r_zret E dJ1_canEncode_9a6ad_16 (by decide) (pB_f (by omega))
    · refine r_iconst C dJ1_canEncode_9a6ad_11 ?_
      refine r_goto C (tgt := 16) dJ1_canEncode_9a6ad_12 rfl ?_
      exact r_zret E dJ1_canEncode_9a6ad_16 (by decide) (pB_t (by omega))
set_option maxRecDepth 10000 in
set_option maxHeartbeats 1000000 in
theorem c_isLatin1 (M : Mm_) : Cn 0 kJ0_isLatin1_aae02 [.ref 101] M (pZ 1 M) := by
  refine Cn.of rfl (Nat.le_of_ble_eq_true rfl) (fun G C E => ?_)
  show G 0 [.ref 101] [] M
  refine r_comp C dJ0_isLatin1_aae02_0 rfl ?_
  refine r_if_eq C (tgt := 17) dJ0_isLatin1_aae02_3 rfl (rgm (by decide) (by decide)) (fun h => absurd h (by decide)) (fun _ => ?_)
  refine r_aload_n C rfl dJ0_isLatin1_aae02_6 ?_
  refine r_strc C dJ0_isLatin1_aae02_7 rfl ?_
  refine r_if_ne C (tgt := 17) dJ0_isLatin1_aae02_10 rfl (rgm (by decide) (by decide)) (fun h => absurd rfl h) (fun _ => ?_)
  refine r_iconst C dJ0_isLatin1_aae02_13 ?_
  refine r_goto C (tgt := 18) dJ0_isLatin1_aae02_14 rfl ?_
  exact r_zret E dJ0_isLatin1_aae02_18 (by decide) (pZ_of rfl)

set_option maxRecDepth 10000 in
set_option maxHeartbeats 1000000 in
theorem c_coder (M : Mm_) : Cn 0 kJ0_coder_7d493 [.ref 101] M (pZ 0 M) := by
  refine Cn.of rfl (Nat.le_of_ble_eq_true rfl) (fun G C E => ?_)
  show G 0 [.ref 101] [] M
  refine r_comp C dJ0_coder_7d493_0 rfl ?_
  refine r_if_eq C (tgt := 13) dJ0_coder_7d493_3 rfl (rgm (by decide) (by decide)) (fun h => absurd h (by decide)) (fun _ => ?_)
  refine r_aload_n C rfl dJ0_coder_7d493_6 ?_
  refine r_strc C dJ0_coder_7d493_7 rfl ?_
  refine r_goto C (tgt := 14) dJ0_coder_7d493_10 rfl ?_
  exact r_bret E dJ0_coder_7d493_14 (pZ_of rfl)

set_option maxRecDepth 10000 in
set_option maxHeartbeats 1000000 in
theorem c_length (M : Mm_) : Cn 1 kJ0_length_8abf5 [.ref 101] M (pZ 5 M) := by
  refine Cn.of rfl (Nat.le_of_ble_eq_true rfl) (fun G C E => ?_)
  show G 0 [.ref 101] [] M
  refine r_aload_n C rfl dJ0_length_8abf5_0 ?_
  refine r_strv C dJ0_length_8abf5_1 rfl ?_
  refine r_blen C dJ0_length_8abf5_4 ?_
  refine r_aload_n C rfl dJ0_length_8abf5_5 ?_
  refine r_callX C dJ0_length_8abf5_6 vw_J0_335 (c_coder M) (by decide) rfl rfl rfl (Nat.le_of_ble_eq_true rfl) ?_
  refine r_ishr C (v := 5) (by decide) dJ0_length_8abf5_9 ?_
  exact r_iret E dJ0_length_8abf5_10 (pZ_of rfl)

set_option maxRecDepth 10000 in
set_option maxHeartbeats 1000000 in
theorem c_indexOfChar (M : Mm_) {z : Int} (h0 : 0 ≤ z) (h1 : z ≤ 255) : Cn 0 kJ1_indexOfChar_4cfef [.ref 102, .int (zI z), .int (zI 0), .int (zI 5)] M (pZ (ixF z) M) := by
  refine Cn.of rfl (Nat.le_of_ble_eq_true rfl) (fun G C E => ?_)
  show G 0 [.ref 102, .int (zI z), .int (zI 0), .int (zI 5), .null, .null] [] M
  have hb : ∀ n : Nat, n < 256 → (zI n).toInt8.toInt32 = zI (if n < 128 then n else n - 256) := by decide +kernel
  obtain ⟨q, hq, hqr, hqe⟩ : ∃ q : Int, (zI z).toInt8.toInt32 = zI q ∧ (-128 ≤ q ∧ q ≤ 127) ∧ (∀ k : Nat, k < 5 → (psb k = q ↔ psb k = z)) := by
    obtain ⟨n, rfl⟩ := Int.eq_ofNat_of_zero_le h0
    refine ⟨_, hb n (by omega), by split <;> omega, fun k hk => ?_⟩
    have : 98 ≤ psb k ∧ psb k ≤ 116 := by
      rcases (show k = 0 ∨ k = 1 ∨ k = 2 ∨ k = 3 ∨ k = 4 by omega) with rfl | rfl | rfl | rfl | rfl <;> decide
    split <;> omega
  have lp : ∀ i : Nat, i ≤ 5 → ∀ w : Int, w = i → (∀ k : Nat, k < i → psb k ≠ z) → G 7 [.ref 102, .int (zI z), .int (zI 0), .int (zI 5), .int (zI q), .int (zI w)] [] M := by
    refine lpN 5 ?_ ?_
    · intro w hw hall
      refine r_iload C rfl dJ1_indexOfChar_4cfef_7 ?_
      refine r_iload_n C rfl dJ1_indexOfChar_4cfef_9 ?_
      refine r_icmp_ge C (tgt := 31) dJ1_indexOfChar_4cfef_10 rfl (rgm (by omega) (by omega)) (rgm (by decide) (by decide)) (fun _ => ?_) (fun h => absurd h (by omega))
      refine r_iconst C dJ1_indexOfChar_4cfef_31 ?_
      exact r_iret E dJ1_indexOfChar_4cfef_32 (pZ_of (ixF_n hall).symm)
    · intro i hi ih w hw hall
      have hpb : 98 ≤ psb i ∧ psb i ≤ 116 := by
        rcases (show i = 0 ∨ i = 1 ∨ i = 2 ∨ i = 3 ∨ i = 4 by omega) with rfl | rfl | rfl | rfl | rfl <;> decide
      refine r_iload C rfl dJ1_indexOfChar_4cfef_7 ?_
      refine r_iload_n C rfl dJ1_indexOfChar_4cfef_9 ?_
      refine r_icmp_ge C (tgt := 31) dJ1_indexOfChar_4cfef_10 rfl (rgm (by omega) (by omega)) (rgm (by decide) (by decide)) (fun h => absurd h (by omega)) (fun _ => ?_)
      refine r_aload_n C rfl dJ1_indexOfChar_4cfef_13 ?_
      refine r_iload C rfl dJ1_indexOfChar_4cfef_14 ?_
      refine r_bald C dJ1_indexOfChar_4cfef_16 hw hi ?_
      refine r_iload C rfl dJ1_indexOfChar_4cfef_17 ?_
      refine r_icmp_ne C (tgt := 25) dJ1_indexOfChar_4cfef_19 rfl (rgm (by omega) (by omega)) (rgm (by omega) (by omega)) (fun h19 => ?_) (fun h19 => ?_)
      · refine r_iinc C dJ1_indexOfChar_4cfef_25 rfl (by decide) rfl ?_
        dsimp only [List.set, Nat.reduceAdd]
        refine r_goto C (tgt := 7) dJ1_indexOfChar_4cfef_28 rfl ?_
        exact ih _ (by omega) (fun k hk => by
          rcases (show k < i ∨ k = i by omega) with h | h
          · exact hall k h
          · subst h
            exact fun h2 => h19 ((hqe k hi).mpr h2))
      · refine r_iload C rfl dJ1_indexOfChar_4cfef_22 ?_
        exact r_iret E dJ1_indexOfChar_4cfef_24 (pZ_of (by rw [hw, ← (hqe i hi).mp h19, ixF_m hi]))
  refine r_iload_n C rfl dJ1_indexOfChar_4cfef_0 ?_
  refine r_i2b C hq dJ1_indexOfChar_4cfef_1 ?_
  refine r_istore C dJ1_indexOfChar_4cfef_2 4 rfl (by decide) rfl ?_
  dsimp only [List.set, Nat.reduceAdd]
  refine r_iload_n C rfl dJ1_indexOfChar_4cfef_4 ?_
  refine r_istore C dJ1_indexOfChar_4cfef_5 5 rfl (by decide) rfl ?_
  dsimp only [List.set, Nat.reduceAdd]
  exact lp 0 (by omega) _ rfl (fun k hk => absurd hk (Nat.not_lt_zero k))

set_option maxRecDepth 10000 in
set_option maxHeartbeats 1000000 in
theorem c_latinIndexOf (M : Mm_) {z : Int} (ra : rg z) : Cn 1 kJ1_indexOf_4cfef [.ref 102, .int (zI z), .int (zI 0), .int (zI 5)] M (pZ (ixF z) M) := by
  refine Cn.of rfl (Nat.le_of_ble_eq_true rfl) (fun G C E => ?_)
  show G 0 [.ref 102, .int (zI z), .int (zI 0), .int (zI 5)] [] M
  refine r_iload_n C rfl dJ1_indexOf_4cfef_0 ?_
  refine r_cSb C dJ1_indexOf_4cfef_1 sw_J1_88 (c_canEncode M ra) (by decide) rfl rfl (Nat.le_of_ble_eq_true rfl) (fun h1 => ?_) (fun h1 => ?_)
  · refine r_if_ne C (tgt := 9) dJ1_indexOf_4cfef_4 rfl (rgm (by decide) (by decide)) (fun _ => ?_) (fun h => absurd h (by decide))
    refine r_iload_n C rfl dJ1_indexOf_4cfef_9 ?_
    refine r_iconst C dJ1_indexOf_4cfef_10 ?_
    refine r_max C dJ1_indexOf_4cfef_11 ml_J1_92 mm_st_max mm_in mm_cw_max (by decide) (Nat.le_of_ble_eq_true rfl) (rgm (by decide) (by decide)) (rgm (by decide) (by decide)) ?_
    refine r_istore_n C dJ1_indexOf_4cfef_14 2 rfl (by decide) rfl ?_
    dsimp only [List.set, Nat.reduceAdd]
    refine r_iload_n C rfl dJ1_indexOf_4cfef_15 ?_
    refine r_aload_n C rfl dJ1_indexOf_4cfef_16 ?_
    refine r_blen C dJ1_indexOf_4cfef_17 ?_
    refine r_min C dJ1_indexOf_4cfef_18 ml_J1_38 mm_st_min mm_in mm_cw_min (by decide) (Nat.le_of_ble_eq_true rfl) (rgm (by decide) (by decide)) (rgm (by decide) (by decide)) ?_
    refine r_istore_n C dJ1_indexOf_4cfef_21 3 rfl (by decide) rfl ?_
    dsimp only [List.set, Nat.reduceAdd]
    rw [show (if (0 : Int) < 0 then (0 : Int) else 0) = 0 from rfl, show (if (5 : Int) < 5 then (5 : Int) else 5) = 5 from rfl]
    refine r_iload_n C rfl dJ1_indexOf_4cfef_22 ?_
    refine r_iload_n C rfl dJ1_indexOf_4cfef_23 ?_
    refine r_icmp_lt C (tgt := 29) dJ1_indexOf_4cfef_24 rfl (rgm (by decide) (by decide)) (rgm (by decide) (by decide)) (fun _ => ?_) (fun h => absurd h (by decide))
    refine r_aload_n C rfl dJ1_indexOf_4cfef_29 ?_
    refine r_iload_n C rfl dJ1_indexOf_4cfef_30 ?_
    refine r_iload_n C rfl dJ1_indexOf_4cfef_31 ?_
    refine r_iload_n C rfl dJ1_indexOf_4cfef_32 ?_
    refine r_cSz C dJ1_indexOf_4cfef_33 sw_J1_95 (c_indexOfChar M h1.1 h1.2) (by decide) rfl rfl (Nat.le_of_ble_eq_true rfl) ?_
    exact r_iret E dJ1_indexOf_4cfef_36 (pZ_of rfl)
  · refine r_if_ne C (tgt := 9) dJ1_indexOf_4cfef_4 rfl (rgm (by decide) (by decide)) (fun h => absurd rfl h) (fun _ => ?_)
    refine r_iconst C dJ1_indexOf_4cfef_7 ?_
    exact r_iret E dJ1_indexOf_4cfef_8 (pZ_of (by unfold ixF; rw [if_neg (by omega), if_neg (by omega), if_neg (by omega), if_neg (by omega), if_neg (by omega)]))

set_option maxRecDepth 10000 in
set_option maxHeartbeats 1000000 in
theorem c_indexOf2 (M : Mm_) {z : Int} (ra : rg z) : Cn 2 kJ0_indexOf_7cf53 [.ref 101, .int (zI z), .int (zI 0)] M (pZ (ixF z) M) := by
  refine Cn.of rfl (Nat.le_of_ble_eq_true rfl) (fun G C E => ?_)
  show G 0 [.ref 101, .int (zI z), .int (zI 0)] [] M
  refine r_aload_n C rfl dJ0_indexOf_7cf53_0 ?_
  refine r_callX C dJ0_indexOf_7cf53_1 vw_J0_492 (c_isLatin1 M) (by decide) rfl rfl rfl (Nat.le_of_ble_eq_true rfl) ?_
  refine r_if_eq C (tgt := 23) dJ0_indexOf_7cf53_4 rfl (rgm (by decide) (by decide)) (fun h => absurd h (by decide)) (fun _ => ?_)
  refine r_aload_n C rfl dJ0_indexOf_7cf53_7 ?_
  refine r_strv C dJ0_indexOf_7cf53_8 rfl ?_
  refine r_iload_n C rfl dJ0_indexOf_7cf53_11 ?_
  refine r_iload_n C rfl dJ0_indexOf_7cf53_12 ?_
  refine r_aload_n C rfl dJ0_indexOf_7cf53_13 ?_
  refine r_callX C dJ0_indexOf_7cf53_14 vw_J0_505 (c_length M) (by decide) rfl rfl rfl (Nat.le_of_ble_eq_true rfl) ?_
  refine r_cSz C dJ0_indexOf_7cf53_17 sw_J0_637 (c_latinIndexOf M ra) (by decide) rfl rfl (Nat.le_of_ble_eq_true rfl) ?_
  refine r_goto C (tgt := 36) dJ0_indexOf_7cf53_20 rfl ?_
  exact r_iret E dJ0_indexOf_7cf53_36 (pZ_of rfl)

set_option maxRecDepth 10000 in
set_option maxHeartbeats 1000000 in
theorem c_indexOf (M : Mm_) {z : Int} (ra : rg z) : Cn 3 kJ0_indexOf_0f7a4 [.ref 101, .int (zI z)] M (pZ (ixF z) M) := by
  refine Cn.of rfl (Nat.le_of_ble_eq_true rfl) (fun G C E => ?_)
  show G 0 [.ref 101, .int (zI z)] [] M
  refine r_aload_n C rfl dJ0_indexOf_0f7a4_0 ?_
  refine r_iload_n C rfl dJ0_indexOf_0f7a4_1 ?_
  refine r_iconst C dJ0_indexOf_0f7a4_2 ?_
  refine r_callX C dJ0_indexOf_0f7a4_3 vw_J0_633 (c_indexOf2 M ra) (by decide) rfl rfl rfl (Nat.le_of_ble_eq_true rfl) ?_
  exact r_iret E dJ0_indexOf_0f7a4_6 (pZ_of rfl)

