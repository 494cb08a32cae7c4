
def ff (P : Nat → Option (List Int)) : Nat → Nat → Option (List Int)
  | 0, _ => none
  | r + 1, i => match P i with
    | some l => some l
    | none => ff P r (i + 1)
def fz (E : (Nat → Int) → Bool) (gr : Nat → Int) (N : Nat) : Nat → Nat → (Nat → Int) → Option (List Int)
  | 0, _, g => if E g = true then some [] else none
  | k + 1, lo, g => ff (fun i => (fz E gr N k i (sl1 gr (i : Int) g)).map (fun l => (i : Int) :: l)) (N - lo) lo
/-- enough: all these would set -/
def Enf (w p : Nat → Int) (dc : Int) (dr dp : Nat → Int) (m : Nat) (set : Int) (g : Nat → Int) : Bool := decide (ad (WDc w (FA g p dc dr dp) m) set = set)
def fzE (w p : Nat → Int) (dc : Int) (dr dp : Nat → Int) (m : Nat) (set : Int) (gr : Nat → Int) (N k lo : Nat) (g : Nat → Int) : Option (List Int) := fz (Enf w p dc dr dp m set) gr N k lo g
theorem ff_step {P : Nat → Option (List Int)} {N i : Nat} (h : i < N) : ff P (N - i) i = match P i with | some l => some l | none => ff P (N - (i + 1)) (i + 1) := by
  rw [show N - i = (N - (i + 1)) + 1 by omega]
  rfl
theorem sl1_undo (gr : Nat → Int) {i : Nat} (g : Nat → Int) : (fun j => if j = i / 3 then g (i / 3) else sl1 gr (i : Int) g j) = g := by
  funext j
  by_cases h : j = i / 3
  · rw [if_pos h, h]
  · rw [if_neg h]
    unfold sl1
    rw [if_neg (by omega)]

set_option maxRecDepth 10000 in
set_option maxHeartbeats 1000000 in
theorem c_rowSets  : ∀ (k : Nat) (T M : Mm_) (q : Int) (g pl : Nat → Int) (dc : Int) (dr dp : Nat → Int) (dep lo size : Nat) (z3 z4 z5 : Int), xS M T → tr T g pl dc dr dp → oF g pl dc dr dp → oV M → (0 ≤ q ∧ q < 64) → z3 = size → z4 = dep → z5 = lo → dep + k = size → size ≤ 3 → (lo : Int) ≤ M.1 3 4 * 3 → Cn (3 + k) kX0_rowSets [.ref 41, .ref 3, .int (zI q), .int (zI z3), .int (zI z4), .int (zI z5)] T (fun r U => xS M U ∧ tr U g pl dc dr dp ∧ U.1 41 = T.1 41 ∧ U.1 43 = T.1 43 ∧ (∀ j, j < dep → U.1 42 j = T.1 42 j) ∧ ((∃ l, fzE (M.1 7) pl dc dr dp (M.1 3 5).toNat q (M.1 6) (M.1 3 4 * 3).toNat k lo g = some l ∧ r = some (.int (zI 1)) ∧ ∀ t, t < k → U.1 42 (dep + t) = l.getD t 0) ∨ (fzE (M.1 7) pl dc dr dp (M.1 3 5).toNat q (M.1 6) (M.1 3 4 * 3).toNat k lo g = none ∧ r = some (.int (zI 0))))) := by
  intro k
  induction k with
  | zero =>
    intro T M q g pl dc dr dp dep lo size z3 z4 z5 hS ht hf hv hq h3 h4 h5 hd3 hks hlo
    have hn := oV_n hv
    have hWb := WDc_b (M.1 7) (FA g pl dc dr dp) (M.1 3 5).toNat (by omega)
    have hab := ad_b hWb.1 hWb.2 hq.1 hq.2
    refine Cn.of rfl (Nat.le_of_ble_eq_true rfl) (fun G C E => ?_)
    show G 0 [.ref 41, .ref 3, .int (zI q), .int (zI z3), .int (zI z4), .int (zI z5), .null, .null, .null, .null] [] T
    refine r_iload C rfl dX0_rowSets_0 ?_
    refine r_iload_n C rfl dX0_rowSets_2 ?_
    refine r_icmp_ge C (tgt := 12) dX0_rowSets_3 rfl (by first | assumption | exact rgm (by omega) (by omega)) (by first | assumption | exact rgm (by omega) (by omega)) (fun h3 => ?_) (fun h3 => absurd h3 (by omega))
    refine r_aload_n C rfl dX0_rowSets_12 ?_
    refine r_aload_n C rfl dX0_rowSets_13 ?_
    refine r_getr C dX0_rowSets_14 fl_X0_12 ly_41 rfl ?_
    refine r_cVz C dX0_rowSets_17 vw_X0_47 (c_wouldT hS ht hv hf) (by omega) rfl ly_3 rfl rfl (Nat.le_of_ble_eq_true rfl) ?_
    refine r_iload_n C rfl dX0_rowSets_20 ?_
    refine r_iand C (v := ad (WDc (M.1 7) (FA g pl dc dr dp) (M.1 3 5).toNat) q) (zb_ad hWb.1 hWb.2 hq.1 hq.2) dX0_rowSets_21 ?_
    refine r_iload_n C rfl dX0_rowSets_22 ?_
    refine r_icmp_ne C (tgt := 30) dX0_rowSets_23 rfl (by first | assumption | exact rgm (by omega) (by omega)) (by first | assumption | exact rgm (by omega) (by omega)) (fun h23 => ?_) (fun h23 => ?_)
    · refine r_iconst C dX0_rowSets_30 ?_
      exact r_zret E dX0_rowSets_31 (by decide) ⟨hS, ht, rfl, rfl, fun _ _ => rfl, Or.inr ⟨by unfold fzE fz Enf; rw [if_neg (by simpa using h23)], rfl⟩⟩
    · refine r_iconst C dX0_rowSets_26 ?_
      refine r_goto C (tgt := 31) dX0_rowSets_27 rfl ?_
      exact r_zret E dX0_rowSets_31 (by decide) ⟨hS, ht, rfl, rfl, fun _ _ => rfl, Or.inl ⟨[], by unfold fzE fz Enf; rw [if_pos (decide_eq_true h23)], rfl, fun t ht0 => absurd ht0 (Nat.not_lt_zero t)⟩⟩
  | succ k ihk0 =>
    intro T M q g pl dc dr dp dep lo size z3 z4 z5 hS ht hf hv hq h3 h4 h5 hd3 hks hlo
    subst h3
    subst h4
    subst h5
    have hn := oV_n hv
    obtain ⟨N, eN⟩ : ∃ N : Nat, M.1 3 4 * 3 = N := ⟨(M.1 3 4 * 3).toNat, by omega⟩
    have eN2 : (M.1 3 4 * 3).toNat = N := by omega
    rw [eN2]
    refine Cn.of rfl (Nat.le_of_ble_eq_true rfl) (fun G C E => ?_)
    show G 0 [.ref 41, .ref 3, .int (zI q), .int (zI (size : Int)), .int (zI (dep : Int)), .int (zI (lo : Int)), .null, .null, .null, .null] [] T
    have fin : ∀ (T' : Mm_) (z7 : Int) (v8 v9 : Value), xS M T' → tr T' g pl dc dr dp → T'.1 41 = T.1 41 → T'.1 43 = T.1 43 → (∀ j, j < dep → T'.1 42 j = T.1 42 j) → (0 ≤ z7 ∧ z7 ≤ 13) → (∃ l, fzE (M.1 7) pl dc dr dp (M.1 3 5).toNat q (M.1 6) N (k + 1) lo g = some l ∧ ∀ t, t < k + 1 → T'.1 42 (dep + t) = l.getD t 0) → G 39 [.ref 41, .ref 3, .int (zI q), .int (zI (size : Int)), .int (zI (dep : Int)), .int (zI (lo : Int)), .int (zI 1), .int (zI z7), v8, v9] [] T' := by
      intro T' z7 v8 v9 hS ht h41T h43T hrowT hz7 hres
      obtain ⟨l, hl, hlt⟩ := hres
      refine r_iload C rfl dX0_rowSets_39 ?_
      refine r_aload_n C rfl dX0_rowSets_41 ?_
      refine r_cVz C dX0_rowSets_42 vw_X0_61 (c_slightNumbers T') (by omega) rfl ly_3 rfl rfl (Nat.le_of_ble_eq_true rfl) ?_
      rw [hS.1 3 (by omega)]
      refine r_icmp_ge C (tgt := 123) dX0_rowSets_45 rfl (by first | assumption | exact rgm (by omega) (by omega)) (by first | assumption | exact rgm (by omega) (by omega)) (fun h45 => ?_) (fun h45 => ?_)
      · refine r_iload C rfl dX0_rowSets_123 ?_
        exact r_zret E dX0_rowSets_125 (by decide) ⟨hS, ht, h41T, h43T, hrowT, Or.inl ⟨l, hl, rfl, hlt⟩⟩
      · refine r_iload C rfl dX0_rowSets_48 ?_
        refine r_if_ne C (tgt := 123) dX0_rowSets_50 rfl (by first | assumption | exact rgm (by omega) (by omega)) (fun h50 => ?_) (fun h50 => absurd h50 (by decide))
        refine r_iload C rfl dX0_rowSets_123 ?_
        exact r_zret E dX0_rowSets_125 (by decide) ⟨hS, ht, h41T, h43T, hrowT, Or.inl ⟨l, hl, rfl, hlt⟩⟩
    have lp : ∀ i : Nat, i ≤ N → ∀ (T' : Mm_) (z7 : Int) (v8 v9 : Value), xS M T' → tr T' g pl dc dr dp → T'.1 41 = T.1 41 → T'.1 43 = T.1 43 → (∀ j, j < dep → T'.1 42 j = T.1 42 j) → z7 = i → ff (fun i => (fzE (M.1 7) pl dc dr dp (M.1 3 5).toNat q (M.1 6) N k i (sl1 (M.1 6) (i : Int) g)).map (fun l => (i : Int) :: l)) (N - i) i = fzE (M.1 7) pl dc dr dp (M.1 3 5).toNat q (M.1 6) N (k + 1) lo g → G 39 [.ref 41, .ref 3, .int (zI q), .int (zI (size : Int)), .int (zI (dep : Int)), .int (zI (lo : Int)), .int (zI 0), .int (zI z7), v8, v9] [] T' := by
      refine lpN N ?_ ?_
      · intro T' z7 v8 v9 hS ht h41T h43T hrowT hz7 hres
        refine r_iload C rfl dX0_rowSets_39 ?_
        refine r_aload_n C rfl dX0_rowSets_41 ?_
        refine r_cVz C dX0_rowSets_42 vw_X0_61 (c_slightNumbers T') (by omega) rfl ly_3 rfl rfl (Nat.le_of_ble_eq_true rfl) ?_
        rw [hS.1 3 (by omega)]
        refine r_icmp_ge C (tgt := 123) dX0_rowSets_45 rfl (by first | assumption | exact rgm (by omega) (by omega)) (by first | assumption | exact rgm (by omega) (by omega)) (fun h45 => ?_) (fun h45 => absurd h45 (by omega))
        refine r_iload C rfl dX0_rowSets_123 ?_
        exact r_zret E dX0_rowSets_125 (by decide) ⟨hS, ht, h41T, h43T, hrowT, Or.inr ⟨by rw [← hres, Nat.sub_self]; rfl, rfl⟩⟩
      · intro i hi ih T' z7 v8 v9 hS ht h41T h43T hrowT hz7 hres
        refine r_iload C rfl dX0_rowSets_39 ?_
        refine r_aload_n C rfl dX0_rowSets_41 ?_
        refine r_cVz C dX0_rowSets_42 vw_X0_61 (c_slightNumbers T') (by omega) rfl ly_3 rfl rfl (Nat.le_of_ble_eq_true rfl) ?_
        rw [hS.1 3 (by omega)]
        refine r_icmp_ge C (tgt := 123) dX0_rowSets_45 rfl (by first | assumption | exact rgm (by omega) (by omega)) (by first | assumption | exact rgm (by omega) (by omega)) (fun h45 => absurd h45 (by omega)) (fun h45 => ?_)
        refine r_iload C rfl dX0_rowSets_48 ?_
        refine r_if_ne C (tgt := 123) dX0_rowSets_50 rfl (by first | assumption | exact rgm (by omega) (by omega)) (fun h50 => absurd h50 (by decide)) (fun h50 => ?_)
        have e31 : T'.1 31 (i / 3) = g (i / 3) := by rw [ht.1]
        refine r_iload C rfl dX0_rowSets_53 ?_
        refine r_iconst C dX0_rowSets_55 ?_
        refine r_idiv C (by omega) (by omega) (rgm (by omega) (by omega)) (rgm (by omega) (by omega)) dX0_rowSets_56 ?_
        refine r_istore C dX0_rowSets_57 8 rfl (by decide) rfl ?_
        dsimp only [List.set, Nat.reduceAdd]
        refine r_aload_n C rfl dX0_rowSets_59 ?_
        refine r_getr C dX0_rowSets_60 fl_X0_12 ly_41 rfl ?_
        refine r_getr C dX0_rowSets_63 fl_X0_83 ly_30 rfl ?_
        refine r_iload C rfl dX0_rowSets_66 ?_
        refine r_iald C dX0_rowSets_68 ly_31 (k := i / 3) (by omega) (by omega) ?_
        refine r_istore C dX0_rowSets_69 9 rfl (by decide) rfl ?_
        dsimp only [List.set, Nat.reduceAdd]
        refine r_aload_n C rfl dX0_rowSets_71 ?_
        refine r_aload_n C rfl dX0_rowSets_72 ?_
        refine r_getr C dX0_rowSets_73 fl_X0_12 ly_41 rfl ?_
        refine r_iload C rfl dX0_rowSets_76 ?_
        refine r_cVv C dX0_rowSets_78 vw_X0_57 (c_offendT hS ht.1 (by omega) (by omega) hv hf.1) (by omega) rfl ly_3 rfl rfl (Nat.le_of_ble_eq_true rfl) ?_
        refine r_aload_n C rfl dX0_rowSets_81 ?_
        refine r_getr C dX0_rowSets_82 fl_X0_18 ly_41 rfl ?_
        refine r_iload C rfl dX0_rowSets_85 ?_
        refine r_iload C rfl dX0_rowSets_87 ?_
        refine r_iast C dX0_rowSets_89 ly_42 rfl (by omega) ?_
        rw [hz7]
        have hg3 := sl1_b (gr := M.1 6) (num := (i : Int)) (g := g) (n := 4) hf.1 (oV_gr hv (by omega))
        have hS3 : xS M (mU (mR T' 31 (sl1 (M.1 6) (i : Int) g)) 42 dep (i : Int)) := xS_tr (xS_tr hS (xS_R (by omega))) (xS_U (by omega))
        have ht3 : tr (mU (mR T' 31 (sl1 (M.1 6) (i : Int) g)) 42 dep (i : Int)) (sl1 (M.1 6) (i : Int) g) pl dc dr dp := by
          refine ⟨?_, ?_, ?_, ?_, ?_⟩
          · rw [mU_ne (by decide), mR_eq]
          · rw [mU_ne (by decide), mR_ne (by decide)]; exact ht.2.1
          · rw [mU_ne (by decide), mR_ne (by decide)]; exact ht.2.2.1
          · rw [mU_ne (by decide), mR_ne (by decide)]; exact ht.2.2.2.1
          · rw [mU_ne (by decide), mR_ne (by decide)]; exact ht.2.2.2.2
        have e41 : (mU (mR T' 31 (sl1 (M.1 6) (i : Int) g)) 42 dep (i : Int)).1 41 = T'.1 41 := by rw [mU_ne (by decide), mR_ne (by decide)]
        have e43 : (mU (mR T' 31 (sl1 (M.1 6) (i : Int) g)) 42 dep (i : Int)).1 43 = T'.1 43 := by rw [mU_ne (by decide), mR_ne (by decide)]
        have e42 : ∀ j, (mU (mR T' 31 (sl1 (M.1 6) (i : Int) g)) 42 dep (i : Int)).1 42 j = if j = dep then (i : Int) else T'.1 42 j := by
          intro j
          rw [mU_R, mR_eq, mR_ne (by decide)]
        refine r_aload_n C rfl dX0_rowSets_90 ?_
        refine r_aload_n C rfl dX0_rowSets_91 ?_
        refine r_iload_n C rfl dX0_rowSets_92 ?_
        refine r_iload_n C rfl dX0_rowSets_93 ?_
        refine r_iload C rfl dX0_rowSets_94 ?_
        refine r_iconst C dX0_rowSets_96 ?_
        refine r_iadd C dX0_rowSets_97 ?_
        refine r_iload C rfl dX0_rowSets_98 ?_
        refine r_callV C dX0_rowSets_100 vw_X0_73 (ihk0 (mU (mR T' 31 (sl1 (M.1 6) (i : Int) g)) 42 dep (i : Int)) M q (sl1 (M.1 6) (i : Int) g) pl dc dr dp (dep + 1) i size _ _ _ hS3 ht3 (oF_g hf hg3) hv hq rfl (by omega) rfl (by omega) hks (by omega)) (by omega) rfl ly_41 rfl rfl (Nat.le_of_ble_eq_true rfl) ?_
        intro r T2 hpost
        obtain ⟨hS4, ht4, h41, h43, hrow, hres2⟩ := hpost
        have hund := sl1_undo (M.1 6) (i := i) g
        rw [eN2] at hres2
        rcases hres2 with ⟨l, hl2, rfl, hlt⟩ | ⟨hn2, rfl⟩
        · try dsimp only [Option.toList, List.cons_append, List.nil_append]
          refine r_istore C dX0_rowSets_103 6 rfl (by decide) rfl ?_
          dsimp only [List.set, Nat.reduceAdd]
          refine r_aload_n C rfl dX0_rowSets_105 ?_
          refine r_getr C dX0_rowSets_106 fl_X0_12 ly_41 rfl ?_
          refine r_getr C dX0_rowSets_109 fl_X0_83 ly_30 rfl ?_
          refine r_iload C rfl dX0_rowSets_112 ?_
          refine r_iload C rfl dX0_rowSets_114 ?_
          refine r_iast C dX0_rowSets_116 ly_31 (k := i / 3) (by omega) (by omega) ?_
          rw [e31]
          refine r_iinc C dX0_rowSets_117 rfl (by decide) rfl ?_
          dsimp only [List.set, Nat.reduceAdd]
          refine r_goto C (tgt := 39) dX0_rowSets_120 rfl ?_
          have hS5 : xS M (mU T2 31 (i / 3) (g (i / 3))) := xS_tr hS4 (xS_U (by omega))
          have ht5 : tr (mU T2 31 (i / 3) (g (i / 3))) g pl dc dr dp := by
            refine ⟨?_, ?_, ?_, ?_, ?_⟩
            · rw [mU_R, mR_eq, ht4.1]; exact hund
            · rw [mU_ne (by decide)]; exact ht4.2.1
            · rw [mU_ne (by decide)]; exact ht4.2.2.1
            · rw [mU_ne (by decide)]; exact ht4.2.2.2.1
            · rw [mU_ne (by decide)]; exact ht4.2.2.2.2
          have hP : fzE (M.1 7) pl dc dr dp (M.1 3 5).toNat q (M.1 6) N k i (sl1 (M.1 6) (i : Int) g) = some l := hl2
          have f41 : (mU T2 31 (i / 3) (g (i / 3))).1 41 = T.1 41 := by rw [mU_ne (by decide), h41, e41]; exact h41T
          have f43 : (mU T2 31 (i / 3) (g (i / 3))).1 43 = T.1 43 := by rw [mU_ne (by decide), h43, e43]; exact h43T
          have f42 : ∀ j, j < dep → (mU T2 31 (i / 3) (g (i / 3))).1 42 j = T.1 42 j := by
            intro j hj
            rw [mU_ne (by decide), hrow j (by omega), e42, if_neg (by omega)]
            exact hrowT j hj
          refine fin _ _ _ _ hS5 ht5 f41 f43 f42 (by omega) ⟨(i : Int) :: l, ?_, ?_⟩
          · rw [← hres, ff_step hi]
            simp only [hP, Option.map_some]
          · intro t ht0
            rw [mU_ne (by decide)]
            cases t with
            | zero => rw [Nat.add_zero, hrow dep (by omega), e42, if_pos rfl]; rfl
            | succ t => rw [show dep + (t + 1) = dep + 1 + t by omega, hlt t (by omega)]; rfl
        · try dsimp only [Option.toList, List.cons_append, List.nil_append]
          refine r_istore C dX0_rowSets_103 6 rfl (by decide) rfl ?_
          dsimp only [List.set, Nat.reduceAdd]
          refine r_aload_n C rfl dX0_rowSets_105 ?_
          refine r_getr C dX0_rowSets_106 fl_X0_12 ly_41 rfl ?_
          refine r_getr C dX0_rowSets_109 fl_X0_83 ly_30 rfl ?_
          refine r_iload C rfl dX0_rowSets_112 ?_
          refine r_iload C rfl dX0_rowSets_114 ?_
          refine r_iast C dX0_rowSets_116 ly_31 (k := i / 3) (by omega) (by omega) ?_
          rw [e31]
          refine r_iinc C dX0_rowSets_117 rfl (by decide) rfl ?_
          dsimp only [List.set, Nat.reduceAdd]
          refine r_goto C (tgt := 39) dX0_rowSets_120 rfl ?_
          have hS5 : xS M (mU T2 31 (i / 3) (g (i / 3))) := xS_tr hS4 (xS_U (by omega))
          have ht5 : tr (mU T2 31 (i / 3) (g (i / 3))) g pl dc dr dp := by
            refine ⟨?_, ?_, ?_, ?_, ?_⟩
            · rw [mU_R, mR_eq, ht4.1]; exact hund
            · rw [mU_ne (by decide)]; exact ht4.2.1
            · rw [mU_ne (by decide)]; exact ht4.2.2.1
            · rw [mU_ne (by decide)]; exact ht4.2.2.2.1
            · rw [mU_ne (by decide)]; exact ht4.2.2.2.2
          have hP : fzE (M.1 7) pl dc dr dp (M.1 3 5).toNat q (M.1 6) N k i (sl1 (M.1 6) (i : Int) g) = none := hn2
          have f41 : (mU T2 31 (i / 3) (g (i / 3))).1 41 = T.1 41 := by rw [mU_ne (by decide), h41, e41]; exact h41T
          have f43 : (mU T2 31 (i / 3) (g (i / 3))).1 43 = T.1 43 := by rw [mU_ne (by decide), h43, e43]; exact h43T
          have f42 : ∀ j, j < dep → (mU T2 31 (i / 3) (g (i / 3))).1 42 j = T.1 42 j := by
            intro j hj
            rw [mU_ne (by decide), hrow j (by omega), e42, if_neg (by omega)]
            exact hrowT j hj
          refine ih _ _ _ _ hS5 ht5 f41 f43 f42 (by omega) ?_
          rw [← hres, ff_step hi]
          simp only [hP, Option.map_none]
    refine r_iload C rfl dX0_rowSets_0 ?_
    refine r_iload_n C rfl dX0_rowSets_2 ?_
    refine r_icmp_ge C (tgt := 12) dX0_rowSets_3 rfl (by first | assumption | exact rgm (by omega) (by omega)) (by first | assumption | exact rgm (by omega) (by omega)) (fun h3 => absurd h3 (by omega)) (fun h3 => ?_)
    refine r_iload C rfl dX0_rowSets_6 ?_
    refine r_iconst C dX0_rowSets_8 ?_
    refine r_icmp_lt C (tgt := 32) dX0_rowSets_9 rfl (by first | assumption | exact rgm (by omega) (by omega)) (by first | assumption | exact rgm (by omega) (by omega)) (fun h9 => ?_) (fun h9 => absurd h9 (by omega))
    refine r_iconst C dX0_rowSets_32 ?_
    refine r_istore C dX0_rowSets_33 6 rfl (by decide) rfl ?_
    dsimp only [List.set, Nat.reduceAdd]
    refine r_iload C rfl dX0_rowSets_35 ?_
    refine r_istore C dX0_rowSets_37 7 rfl (by decide) rfl ?_
    dsimp only [List.set, Nat.reduceAdd]
    exact lp lo (by omega) T _ _ _ hS ht rfl rfl (fun _ _ => rfl) rfl rfl


def tellF (hm : Int) (row : Nat → Int) (what size : Int) : Int := if what = 0 then hm else if 0 ≤ what - 10 ∧ what - 10 < size ∧ what - 10 < 3 then row (what - 10).toNat else -1

set_option maxRecDepth 10000 in
set_option maxHeartbeats 1000000 in
theorem c_tell (T : Mm_) {a b : Int} (ha : -1000 ≤ a ∧ a ≤ 1000) (hb : rg b) : Cn 0 kX0_tell [.ref 41, .int (zI a), .int (zI b)] T (pZ (tellF (T.1 41 4) (T.1 43) a b) T) := by
  refine Cn.of rfl (Nat.le_of_ble_eq_true rfl) (fun G C E => ?_)
  show G 0 [.ref 41, .int (zI a), .int (zI b), .null] [] T
  refine r_iload_n C rfl dX0_tell_0 ?_
  refine r_if_ne C (tgt := 9) dX0_tell_1 rfl (by first | assumption | exact rgm (by omega) (by omega)) (fun h1 => ?_) (fun h1 => ?_)
  · refine r_iload_n C rfl dX0_tell_9 ?_
    refine r_bipush C rfl dX0_tell_10 ?_
    refine r_isub C dX0_tell_12 ?_
    refine r_istore_n C dX0_tell_13 3 rfl (by decide) rfl ?_
    dsimp only [List.set, Nat.reduceAdd]
    refine r_iload_n C rfl dX0_tell_14 ?_
    refine r_if_lt C (tgt := 37) dX0_tell_15 rfl (by first | assumption | exact rgm (by omega) (by omega)) (fun h15 => ?_) (fun h15 => ?_)
    · refine r_iconst C dX0_tell_37 ?_
      exact r_iret E dX0_tell_38 (pZ_of (by unfold tellF; rw [if_neg h1, if_neg (by omega)]))
    · refine r_iload_n C rfl dX0_tell_18 ?_
      refine r_iload_n C rfl dX0_tell_19 ?_
      refine r_icmp_ge C (tgt := 37) dX0_tell_20 rfl (by first | assumption | exact rgm (by omega) (by omega)) (by first | assumption | exact rgm (by omega) (by omega)) (fun h20 => ?_) (fun h20 => ?_)
      · refine r_iconst C dX0_tell_37 ?_
        exact r_iret E dX0_tell_38 (pZ_of (by unfold tellF; rw [if_neg h1, if_neg (by omega)]))
      · refine r_iload_n C rfl dX0_tell_23 ?_
        refine r_iconst C dX0_tell_24 ?_
        refine r_icmp_ge C (tgt := 37) dX0_tell_25 rfl (by first | assumption | exact rgm (by omega) (by omega)) (by first | assumption | exact rgm (by omega) (by omega)) (fun h25 => ?_) (fun h25 => ?_)
        · refine r_iconst C dX0_tell_37 ?_
          exact r_iret E dX0_tell_38 (pZ_of (by unfold tellF; rw [if_neg h1, if_neg (by omega)]))
        · refine r_aload_n C rfl dX0_tell_28 ?_
          refine r_getr C dX0_tell_29 fl_X0_22 ly_41 rfl ?_
          refine r_iload_n C rfl dX0_tell_32 ?_
          refine r_iald C dX0_tell_33 ly_43 (k := (a - 10).toNat) (by omega) (by omega) ?_
          refine r_goto C (tgt := 38) dX0_tell_34 rfl ?_
          exact r_iret E dX0_tell_38 (pZ_of (by unfold tellF; rw [if_neg h1, if_pos (by omega)]))
  · refine r_aload_n C rfl dX0_tell_4 ?_
    refine r_geti C dX0_tell_5 fl_X0_30 ly_41 rfl ?_
    exact r_iret E dX0_tell_8 (pZ_of (by unfold tellF; rw [if_pos h1]))

/-- how few, and which: the size ahead of its row -/
def fewR (w p : Nat → Int) (dc : Int) (dr dp : Nat → Int) (m : Nat) (set : Int) (gr : Nat → Int) (N : Nat) (g : Nat → Int) : Nat → Nat → Option (List Int) := ff (fun s => (fzE w p dc dr dp m set gr N s 0 g).map (fun l => (s : Int) :: l))

set_option maxRecDepth 10000 in
set_option maxHeartbeats 1000000 in
theorem c_findFew (M : Mm_) {q : Int} (hq : 0 ≤ q ∧ q < 64) (hv : oV M) (hf : oF (M.1 9) (M.1 10) (M.1 8 7) (M.1 13) (M.1 14)) : Cn 7 kX0_findFew [.ref 41, .ref 3, .ref 8, .int (zI q)] M (fun r T' => r = none ∧ xS M T' ∧ ((∃ (s : Nat) (l : List Int), fewR (M.1 7) (M.1 10) (M.1 8 7) (M.1 13) (M.1 14) (M.1 3 5).toNat q (M.1 6) (M.1 3 4 * 3).toNat (M.1 9) 4 0 = some ((s : Int) :: l) ∧ s ≤ 3 ∧ T'.1 41 4 = s ∧ ∀ t, t < s → T'.1 43 t = l.getD t 0) ∨ (fewR (M.1 7) (M.1 10) (M.1 8 7) (M.1 13) (M.1 14) (M.1 3 5).toNat q (M.1 6) (M.1 3 4 * 3).toNat (M.1 9) 4 0 = none ∧ T'.1 41 4 = -1))) := by
  refine Cn.of rfl (Nat.le_of_ble_eq_true rfl) (fun G C E => ?_)
  show G 0 [.ref 41, .ref 3, .ref 8, .int (zI q), .null] [] M
  have hn := oV_n hv
  have fin : ∀ (T' : Mm_) (z : Int), xS M T' → (∃ (s : Nat) (l : List Int), fewR (M.1 7) (M.1 10) (M.1 8 7) (M.1 13) (M.1 14) (M.1 3 5).toNat q (M.1 6) (M.1 3 4 * 3).toNat (M.1 9) 4 0 = some ((s : Int) :: l) ∧ s ≤ 3 ∧ T'.1 41 4 = s ∧ ∀ t, t < s → T'.1 43 t = l.getD t 0) → (0 ≤ z ∧ z ≤ 4) → G 16 [.ref 41, .ref 3, .ref 8, .int (zI q), .int (zI z)] [] T' := by
    intro T' z hS hex hz
    obtain ⟨s, l, hfr, hs3, hh, hlt⟩ := hex
    refine r_iload C rfl dX0_findFew_16 ?_
    refine r_iconst C dX0_findFew_18 ?_
    refine r_icmp_gt C (tgt := 69) dX0_findFew_19 rfl (by first | assumption | exact rgm (by omega) (by omega)) (by first | assumption | exact rgm (by omega) (by omega)) (fun h19 => ?_) (fun h19 => ?_)
    · exact r_vret E dX0_findFew_69 ⟨rfl, hS, Or.inl ⟨s, l, hfr, hs3, hh, hlt⟩⟩
    · refine r_aload_n C rfl dX0_findFew_22 ?_
      refine r_geti C dX0_findFew_23 fl_X0_30 ly_41 rfl ?_
      refine r_iconst C dX0_findFew_26 ?_
      refine r_icmp_ne C (tgt := 69) dX0_findFew_27 rfl (by first | assumption | exact rgm (by omega) (by omega)) (by first | assumption | exact rgm (by omega) (by omega)) (fun h27 => ?_) (fun h27 => absurd h27 (by omega))
      exact r_vret E dX0_findFew_69 ⟨rfl, hS, Or.inl ⟨s, l, hfr, hs3, hh, hlt⟩⟩
  have lp : ∀ i : Nat, i ≤ 4 → ∀ (T : Mm_) (z : Int), xS M T → tr T (M.1 9) (M.1 10) (M.1 8 7) (M.1 13) (M.1 14) → T.1 41 4 = -1 → fewR (M.1 7) (M.1 10) (M.1 8 7) (M.1 13) (M.1 14) (M.1 3 5).toNat q (M.1 6) (M.1 3 4 * 3).toNat (M.1 9) (4 - i) i = fewR (M.1 7) (M.1 10) (M.1 8 7) (M.1 13) (M.1 14) (M.1 3 5).toNat q (M.1 6) (M.1 3 4 * 3).toNat (M.1 9) 4 0 → z = i → G 16 [.ref 41, .ref 3, .ref 8, .int (zI q), .int (zI z)] [] T := by
    refine lpN 4 ?_ ?_
    · intro T z hS ht h41 hres hz
      refine r_iload C rfl dX0_findFew_16 ?_
      refine r_iconst C dX0_findFew_18 ?_
      refine r_icmp_gt C (tgt := 69) dX0_findFew_19 rfl (by first | assumption | exact rgm (by omega) (by omega)) (by first | assumption | exact rgm (by omega) (by omega)) (fun h19 => ?_) (fun h19 => absurd h19 (by omega))
      exact r_vret E dX0_findFew_69 ⟨rfl, hS, Or.inr ⟨by rw [← hres]; rfl, h41⟩⟩
    · intro i hi ih T z hS ht h41T hres hz
      refine r_iload C rfl dX0_findFew_16 ?_
      refine r_iconst C dX0_findFew_18 ?_
      refine r_icmp_gt C (tgt := 69) dX0_findFew_19 rfl (by first | assumption | exact rgm (by omega) (by omega)) (by first | assumption | exact rgm (by omega) (by omega)) (fun h19 => absurd h19 (by omega)) (fun h19 => ?_)
      refine r_aload_n C rfl dX0_findFew_22 ?_
      refine r_geti C dX0_findFew_23 fl_X0_30 ly_41 rfl ?_
      refine r_iconst C dX0_findFew_26 ?_
      refine r_icmp_ne C (tgt := 69) dX0_findFew_27 rfl (by first | assumption | exact rgm (by omega) (by omega)) (by first | assumption | exact rgm (by omega) (by omega)) (fun h27 => absurd h27 (by omega)) (fun h27 => ?_)
      refine r_aload_n C rfl dX0_findFew_30 ?_
      refine r_aload_n C rfl dX0_findFew_31 ?_
      refine r_iload_n C rfl dX0_findFew_32 ?_
      refine r_iload C rfl dX0_findFew_33 ?_
      refine r_iconst C dX0_findFew_35 ?_
      refine r_iconst C dX0_findFew_36 ?_
      refine r_callV C dX0_findFew_37 vw_X0_73 (c_rowSets i T M q (M.1 9) (M.1 10) (M.1 8 7) (M.1 13) (M.1 14) 0 0 i z 0 0 hS ht hf hv hq hz rfl rfl (by omega) (by omega) (by omega)) (by omega) rfl ly_41 rfl rfl (Nat.le_of_ble_eq_true rfl) ?_
      intro r T2 hpost
      obtain ⟨hS4, ht4, h41, h43, hrow, hres2⟩ := hpost
      rcases hres2 with ⟨l, hl2, rfl, hlt⟩ | ⟨hn2, rfl⟩
      · try dsimp only [Option.toList, List.cons_append, List.nil_append]
        refine r_if_eq C (tgt := 63) dX0_findFew_40 rfl (by first | assumption | exact rgm (by omega) (by omega)) (fun h40 => absurd h40 (by decide)) (fun h40 => ?_)
        refine r_aload_n C rfl dX0_findFew_43 ?_
        refine r_iload C rfl dX0_findFew_44 ?_
        refine r_put C dX0_findFew_46 fl_X0_30 rfl (Or.inl rfl) ly_41 rfl ?_
        refine r_aload_n C rfl dX0_findFew_49 ?_
        refine r_getr C dX0_findFew_50 fl_X0_18 ly_41 rfl ?_
        refine r_iconst C dX0_findFew_53 ?_
        refine r_aload_n C rfl dX0_findFew_54 ?_
        refine r_getr C dX0_findFew_55 fl_X0_22 ly_41 rfl ?_
        refine r_iconst C dX0_findFew_58 ?_
        refine r_iconst C dX0_findFew_59 ?_
        refine r_copy C dX0_findFew_60 ml_X0_77 sc_na sc_st sc_in (by decide) (Nat.le_of_ble_eq_true rfl) ly_42 ly_43 rfl rfl rfl (by decide) (by decide) ?_
        refine r_ext C (eqM_copy (n := 3) rfl) ?_
        refine r_iinc C dX0_findFew_63 rfl (by decide) rfl ?_
        dsimp only [List.set, Nat.reduceAdd]
        refine r_goto C (tgt := 16) dX0_findFew_66 rfl ?_
        have hS6 : xS M (mR (mU T2 41 4 z) 43 ((mU T2 41 4 z).1 42)) := xS_tr (xS_tr hS4 (xS_U (by omega))) (xS_R (by omega))
        refine fin _ _ hS6 ⟨i, l, ?_, by omega, ?_, ?_⟩ (by omega)
        · rw [← hres]
          unfold fewR
          rw [ff_step hi]
          simp only [hl2, Option.map_some]
        · rw [mR_ne (by decide)]
          simp [mU, hz]
        · intro t ht0
          rw [mR_eq, mU_ne (by decide)]
          have := hlt t ht0
          rw [Nat.zero_add] at this
          exact this
      · try dsimp only [Option.toList, List.cons_append, List.nil_append]
        refine r_if_eq C (tgt := 63) dX0_findFew_40 rfl (by first | assumption | exact rgm (by omega) (by omega)) (fun h40 => ?_) (fun h40 => absurd h40 (by decide))
        skip
        refine r_iinc C dX0_findFew_63 rfl (by decide) rfl ?_
        dsimp only [List.set, Nat.reduceAdd]
        refine r_goto C (tgt := 16) dX0_findFew_66 rfl ?_
        refine ih T2 _ hS4 ht4 (by rw [h41]; exact h41T) ?_ (by omega)
        rw [← hres]
        unfold fewR
        rw [ff_step hi]
        simp only [hn2, Option.map_none]
  refine r_aload_n C rfl dX0_findFew_0 ?_
  refine r_getr C dX0_findFew_1 fl_X0_12 ly_41 rfl ?_
  refine r_aload_n C rfl dX0_findFew_4 ?_
  refine r_callV C dX0_findFew_5 vw_X0_40 (c_copyT2 (T := M) xS_rf) (by omega) rfl ly_30 rfl rfl (Nat.le_of_ble_eq_true rfl) ?_
  intro r T1 h1
  obtain ⟨rfl, hS1, ht1, h41a⟩ := h1
  refine r_aload_n C rfl dX0_findFew_8 ?_
  refine r_iconst C dX0_findFew_9 ?_
  refine r_put C dX0_findFew_10 fl_X0_30 rfl (Or.inl rfl) ly_41 rfl ?_
  refine r_iconst C dX0_findFew_13 ?_
  refine r_istore C dX0_findFew_14 4 rfl (by decide) rfl ?_
  dsimp only [List.set, Nat.reduceAdd]
  exact lp 0 (by omega) _ _ (xS_tr hS1 (xS_U (by omega))) ⟨by rw [mU_ne (by decide)]; exact ht1.1, by rw [mU_ne (by decide)]; exact ht1.2.1, by rw [mU_ne (by decide)]; exact ht1.2.2.1, by rw [mU_ne (by decide)]; exact ht1.2.2.2.1, by rw [mU_ne (by decide)]; exact ht1.2.2.2.2⟩ (by simp [mU]) rfl rfl
