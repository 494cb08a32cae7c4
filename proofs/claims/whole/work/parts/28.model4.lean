
/-- only the reference's scratch cells may differ -/
def mS (M T : Mm_) : Prop := (∀ i, i ≠ 48 → i ≠ 57 → i ≠ 58 → i ≠ 59 → i ≠ 61 → T.1 i = M.1 i) ∧ (∀ j, j ≠ 2 → j ≠ 25 → T.1 48 j = M.1 48 j) ∧ T.2 = M.2
theorem mS_rf {M : Mm_} : mS M M := ⟨fun _ _ _ _ _ _ => rfl, fun _ _ _ => rfl, rfl⟩
theorem mS_tr {M T U : Mm_} (h1 : mS M T) (h2 : mS T U) : mS M U := ⟨fun i a b c d e => (h2.1 i a b c d e).trans (h1.1 i a b c d e), fun j a b => (h2.2.1 j a b).trans (h1.2.1 j a b), h2.2.2.trans h1.2.2⟩
theorem mS_R {M : Mm_} {i : Nat} {f : Nat → Int} (hi : i = 57 ∨ i = 58 ∨ i = 59 ∨ i = 61) : mS M (mR M i f) := ⟨fun a _ _ _ _ _ => mR_ne (by omega), fun j _ _ => by rw [mR_ne (by omega)], rfl⟩
theorem mS_U {M : Mm_} {i j : Nat} {z : Int} (hi : i = 57 ∨ i = 58 ∨ i = 59 ∨ i = 61) : mS M (mU M i j z) := ⟨fun a _ _ _ _ _ => mU_ne (by omega), fun j _ _ => by rw [mU_ne (by omega)], rfl⟩
theorem mS_48 {M : Mm_} {j : Nat} {z : Int} (hj : j = 2 ∨ j = 25) : mS M (mU M 48 j z) := ⟨fun a h _ _ _ _ => mU_ne h, fun x h1 h2 => by unfold mU; show (if _ then _ else _) = _; rw [if_neg (by omega)], rfl⟩
def pS (v : Int) (M : Mm_) : Option Value → Mm_ → Prop := fun r U => r = some (.int (zI v)) ∧ mS M U
def swM (M : Mm_) : Nat → Int := fun i => M.1 60 (3 * i)
def shM (M : Mm_) : Nat → Int := fun i => M.1 60 (3 * i + 1)
def sbM (M : Mm_) : Nat → Int := fun i => M.1 60 (3 * i + 2)
def oMs (M : Mm_) : Prop := (0 ≤ M.1 48 22 ∧ M.1 48 22 ≤ 6) ∧ ∀ i, i < 6 → (0 ≤ M.1 60 (3 * i) ∧ M.1 60 (3 * i) ≤ 3) ∧ (0 ≤ M.1 60 (3 * i + 1) ∧ M.1 60 (3 * i + 1) ≤ 2) ∧ (0 ≤ M.1 60 (3 * i + 2) ∧ M.1 60 (3 * i + 2) ≤ 99)
theorem alw_s {who how by_ : Nat → Int} {n : Nat} {p kind pride : Int} : alw who how by_ (n + 1) p kind pride = true ↔ alw who how by_ n p kind pride = true ∧ (who n = p → gw kind pride (how n) = by_ n) := by
  unfold alw
  rw [decide_eq_true_eq, decide_eq_true_eq]
  constructor
  · intro h
    exact ⟨fun i hi => h i (by omega), h n (by omega)⟩
  · intro h i hi
    rcases (show i < n ∨ i = n by omega) with q | q
    · exact h.1 i q
    · subst q; exact h.2
def prM4 (M : Mm_) (k : Nat) : Int := prd (swM M) (shM M) (sbM M) (M.1 48 22).toNat (k : Int) (M.1 50 (3 * k))

set_option maxRecDepth 10000 in
set_option maxHeartbeats 1000000 in
theorem c_pridesOf (M : Mm_) {k : Nat} (hk : (k : Int) < M.1 48 3) (hv : oMv M) (hrw : oMr M) (hse : oMs M) : Cn 1 kX7_pridesOf [.ref 48, .int (zI (k : Int))] M (pZ (prM4 M k) M) := by
  have hv0 : (M.1 48 3 = 0 ∧ M.1 48 4 = 0) ∨ (2 ≤ M.1 48 3 ∧ M.1 48 3 ≤ 4 ∧ 2 ≤ M.1 48 4 ∧ M.1 48 4 ≤ 6) := hv
  have hr := hrw k (by omega)
  obtain ⟨n, hn⟩ := Int.eq_ofNat_of_zero_le hse.1.1
  have hn6 := hse.1.2
  have en : (M.1 48 22).toNat = n := by omega
  unfold prM4
  rw [en]
  refine Cn.of rfl (Nat.le_of_ble_eq_true rfl) (fun G C E => ?_)
  show G 0 [.ref 48, .int (zI (k : Int)), .null, .null, .null, .null] [] M
  have lp : ∀ i : Nat, i ≤ 9 → ∀ (s z : Int) (v4 v5 : Value), s = sb (fun q => alw (swM M) (shM M) (sbM M) n (k : Int) (M.1 50 (3 * k)) ((q : Int) + 1)) i → z = (i : Int) + 1 → G 4 [.ref 48, .int (zI (k : Int)), .int (zI s), .int (zI z), v4, v5] [] M := by
    refine lpN 9 ?_ ?_
    · intro s z v4 v5 hs hz
      refine r_iload_n C rfl dX7_pridesOf_4 ?_
      refine r_bipush C rfl dX7_pridesOf_5 ?_
      refine r_icmp_ge C (tgt := 112) dX7_pridesOf_7 rfl (by first | assumption | exact rgm (by omega) (by omega)) (by first | assumption | exact rgm (by omega) (by omega)) (fun h7 => ?_) (fun h7 => absurd h7 (by omega))
      refine r_iload_n C rfl dX7_pridesOf_112 ?_
      exact r_iret E dX7_pridesOf_113 (pZ_of hs)
    · intro i hi ih s z v4 v5 hs hz
      have hsb9 := sbb (fun q => alw (swM M) (shM M) (sbM M) n (k : Int) (M.1 50 (3 * k)) ((q : Int) + 1)) i
      have lp2 : ∀ j : Nat, j ≤ n → ∀ (e y : Int), y = 3 * (j : Int) → ((e = 1 ∧ alw (swM M) (shM M) (sbM M) j (k : Int) (M.1 50 (3 * k)) z = true) ∨ (e = 0 ∧ ¬ alw (swM M) (shM M) (sbM M) j (k : Int) (M.1 50 (3 * k)) z = true)) → G 16 [.ref 48, .int (zI (k : Int)), .int (zI s), .int (zI z), .int (zI e), .int (zI y)] [] M := by
        refine lpN n ?_ ?_
        · intro e y hy he
          rcases he with ⟨rfl, ha⟩ | ⟨rfl, ha⟩
          ·
            refine r_iload C rfl dX7_pridesOf_16 ?_
            refine r_iconst C dX7_pridesOf_18 ?_
            refine r_aload_n C rfl dX7_pridesOf_19 ?_
            refine r_geti C dX7_pridesOf_20 fl_X7_127 ly_48 rfl ?_
            refine r_imul C dX7_pridesOf_23 ?_
            refine r_icmp_ge C (tgt := 89) dX7_pridesOf_24 rfl (by first | assumption | exact rgm (by omega) (by omega)) (by first | assumption | exact rgm (by omega) (by omega)) (fun h24 => ?_) (fun h24 => absurd h24 (by omega))
            refine r_iload_n C rfl dX7_pridesOf_89 ?_
            refine r_iload C rfl dX7_pridesOf_90 ?_
            refine r_if_eq C (tgt := 103) dX7_pridesOf_92 rfl (by first | assumption | exact rgm (by omega) (by omega)) (fun h92 => absurd h92 (by decide)) (fun h92 => ?_)
            refine r_iconst C dX7_pridesOf_95 ?_
            refine r_iload_n C rfl dX7_pridesOf_96 ?_
            refine r_iconst C dX7_pridesOf_97 ?_
            refine r_isub C dX7_pridesOf_98 ?_
            refine r_ishl C (v := 2 ^ i) (by rw [show z - 1 = (i : Int) by omega]; exact zb_shl (by omega)) dX7_pridesOf_99 ?_
            refine r_goto C (tgt := 104) dX7_pridesOf_100 rfl ?_
            refine r_ior C (v := s + 2 ^ i) (zb_or (by omega) (by omega) (by omega)) dX7_pridesOf_104 ?_
            refine r_istore_n C dX7_pridesOf_105 2 rfl (by decide) rfl ?_
            dsimp only [List.set, Nat.reduceAdd]
            refine r_iinc C dX7_pridesOf_106 rfl (by decide) rfl ?_
            dsimp only [List.set, Nat.reduceAdd]
            refine r_goto C (tgt := 4) dX7_pridesOf_109 rfl ?_
            exact ih _ _ _ _ (by rw [sb_s, if_pos (by rw [← hz]; exact ha)]; omega) (by omega)
          ·
            refine r_iload C rfl dX7_pridesOf_16 ?_
            refine r_iconst C dX7_pridesOf_18 ?_
            refine r_aload_n C rfl dX7_pridesOf_19 ?_
            refine r_geti C dX7_pridesOf_20 fl_X7_127 ly_48 rfl ?_
            refine r_imul C dX7_pridesOf_23 ?_
            refine r_icmp_ge C (tgt := 89) dX7_pridesOf_24 rfl (by first | assumption | exact rgm (by omega) (by omega)) (by first | assumption | exact rgm (by omega) (by omega)) (fun h24 => ?_) (fun h24 => absurd h24 (by omega))
            refine r_iload_n C rfl dX7_pridesOf_89 ?_
            refine r_iload C rfl dX7_pridesOf_90 ?_
            refine r_if_eq C (tgt := 103) dX7_pridesOf_92 rfl (by first | assumption | exact rgm (by omega) (by omega)) (fun h92 => ?_) (fun h92 => absurd h92 (by decide))
            refine r_iconst C dX7_pridesOf_103 ?_
            refine r_ior C (v := s) (by rw [show zI s ||| zI 0 = zI s from Int32.or_zero]) dX7_pridesOf_104 ?_
            refine r_istore_n C dX7_pridesOf_105 2 rfl (by decide) rfl ?_
            dsimp only [List.set, Nat.reduceAdd]
            refine r_iinc C dX7_pridesOf_106 rfl (by decide) rfl ?_
            dsimp only [List.set, Nat.reduceAdd]
            refine r_goto C (tgt := 4) dX7_pridesOf_109 rfl ?_
            exact ih _ _ _ _ (by rw [sb_s, if_neg (by rw [← hz]; exact ha)]; omega) (by omega)
        · intro j hj ih2 e y hy he
          have hs4 := hse.2 j (by omega)
          have hgb := gw_b (kind := M.1 50 (3 * k)) (pride := z) (how := M.1 60 (3 * j + 1)) (by omega) (by omega)
          rcases he with ⟨rfl, ha⟩ | ⟨rfl, ha⟩
          ·
            refine r_iload C rfl dX7_pridesOf_16 ?_
            refine r_iconst C dX7_pridesOf_18 ?_
            refine r_aload_n C rfl dX7_pridesOf_19 ?_
            refine r_geti C dX7_pridesOf_20 fl_X7_127 ly_48 rfl ?_
            refine r_imul C dX7_pridesOf_23 ?_
            refine r_icmp_ge C (tgt := 89) dX7_pridesOf_24 rfl (by first | assumption | exact rgm (by omega) (by omega)) (by first | assumption | exact rgm (by omega) (by omega)) (fun h24 => absurd h24 (by omega)) (fun h24 => ?_)
            refine r_iload C rfl dX7_pridesOf_27 ?_
            refine r_if_eq C (tgt := 80) dX7_pridesOf_29 rfl (by first | assumption | exact rgm (by omega) (by omega)) (fun h29 => absurd h29 (by decide)) (fun h29 => ?_)
            refine r_aload_n C rfl dX7_pridesOf_32 ?_
            refine r_getr C dX7_pridesOf_33 fl_X7_43 ly_48 rfl ?_
            refine r_iload C rfl dX7_pridesOf_36 ?_
            refine r_iald C dX7_pridesOf_38 ly_60 (k := 3 * j) (by omega) (by omega) ?_
            refine r_iload_n C rfl dX7_pridesOf_39 ?_
            refine r_icmp_ne C (tgt := 76) dX7_pridesOf_40 rfl (by first | assumption | exact rgm (by omega) (by omega)) (by first | assumption | exact rgm (by omega) (by omega)) (fun h40 => ?_) (fun h40 => ?_)
            · refine r_iconst C dX7_pridesOf_76 ?_
              refine r_goto C (tgt := 81) dX7_pridesOf_77 rfl ?_
              refine r_istore C dX7_pridesOf_81 4 rfl (by decide) rfl ?_
              dsimp only [List.set, Nat.reduceAdd]
              refine r_iinc C dX7_pridesOf_83 rfl (by decide) rfl ?_
              dsimp only [List.set, Nat.reduceAdd]
              refine r_goto C (tgt := 16) dX7_pridesOf_86 rfl ?_
              exact ih2 _ _ (by omega) (Or.inl ⟨rfl, alw_s.mpr ⟨ha, fun h => absurd h h40⟩⟩)
            · refine r_aload_n C rfl dX7_pridesOf_43 ?_
              refine r_getr C dX7_pridesOf_44 fl_X7_13 ly_48 rfl ?_
              refine r_iconst C dX7_pridesOf_47 ?_
              refine r_iload_n C rfl dX7_pridesOf_48 ?_
              refine r_imul C dX7_pridesOf_49 ?_
              refine r_iald C dX7_pridesOf_50 ly_50 (k := 3 * k) (by omega) (by omega) ?_
              refine r_iload_n C rfl dX7_pridesOf_51 ?_
              refine r_aload_n C rfl dX7_pridesOf_52 ?_
              refine r_getr C dX7_pridesOf_53 fl_X7_43 ly_48 rfl ?_
              refine r_iload C rfl dX7_pridesOf_56 ?_
              refine r_iconst C dX7_pridesOf_58 ?_
              refine r_iadd C dX7_pridesOf_59 ?_
              refine r_iald C dX7_pridesOf_60 ly_60 (k := 3 * j + 1) (by omega) (by omega) ?_
              refine r_cSz C dX7_pridesOf_61 sw_X7_141 (c_grieved M hr.1 (by omega) hs4.2.1) (by decide) rfl rfl (Nat.le_of_ble_eq_true rfl) ?_
              refine r_aload_n C rfl dX7_pridesOf_64 ?_
              refine r_getr C dX7_pridesOf_65 fl_X7_43 ly_48 rfl ?_
              refine r_iload C rfl dX7_pridesOf_68 ?_
              refine r_iconst C dX7_pridesOf_70 ?_
              refine r_iadd C dX7_pridesOf_71 ?_
              refine r_iald C dX7_pridesOf_72 ly_60 (k := 3 * j + 2) (by omega) (by omega) ?_
              refine r_icmp_ne C (tgt := 80) dX7_pridesOf_73 rfl (by first | assumption | exact rgm (by omega) (by omega)) (by first | assumption | exact rgm (by omega) (by omega)) (fun h73 => ?_) (fun h73 => ?_)
              · refine r_iconst C dX7_pridesOf_80 ?_
                refine r_istore C dX7_pridesOf_81 4 rfl (by decide) rfl ?_
                dsimp only [List.set, Nat.reduceAdd]
                refine r_iinc C dX7_pridesOf_83 rfl (by decide) rfl ?_
                dsimp only [List.set, Nat.reduceAdd]
                refine r_goto C (tgt := 16) dX7_pridesOf_86 rfl ?_
                exact ih2 _ _ (by omega) (Or.inr ⟨rfl, fun q => h73 (by exact (alw_s.mp q).2 h40)⟩)
              · refine r_iconst C dX7_pridesOf_76 ?_
                refine r_goto C (tgt := 81) dX7_pridesOf_77 rfl ?_
                refine r_istore C dX7_pridesOf_81 4 rfl (by decide) rfl ?_
                dsimp only [List.set, Nat.reduceAdd]
                refine r_iinc C dX7_pridesOf_83 rfl (by decide) rfl ?_
                dsimp only [List.set, Nat.reduceAdd]
                refine r_goto C (tgt := 16) dX7_pridesOf_86 rfl ?_
                exact ih2 _ _ (by omega) (Or.inl ⟨rfl, alw_s.mpr ⟨ha, fun _ => by exact h73⟩⟩)
          ·
            refine r_iload C rfl dX7_pridesOf_16 ?_
            refine r_iconst C dX7_pridesOf_18 ?_
            refine r_aload_n C rfl dX7_pridesOf_19 ?_
            refine r_geti C dX7_pridesOf_20 fl_X7_127 ly_48 rfl ?_
            refine r_imul C dX7_pridesOf_23 ?_
            refine r_icmp_ge C (tgt := 89) dX7_pridesOf_24 rfl (by first | assumption | exact rgm (by omega) (by omega)) (by first | assumption | exact rgm (by omega) (by omega)) (fun h24 => absurd h24 (by omega)) (fun h24 => ?_)
            refine r_iload C rfl dX7_pridesOf_27 ?_
            refine r_if_eq C (tgt := 80) dX7_pridesOf_29 rfl (by first | assumption | exact rgm (by omega) (by omega)) (fun h29 => ?_) (fun h29 => absurd h29 (by decide))
            refine r_iconst C dX7_pridesOf_80 ?_
            refine r_istore C dX7_pridesOf_81 4 rfl (by decide) rfl ?_
            dsimp only [List.set, Nat.reduceAdd]
            refine r_iinc C dX7_pridesOf_83 rfl (by decide) rfl ?_
            dsimp only [List.set, Nat.reduceAdd]
            refine r_goto C (tgt := 16) dX7_pridesOf_86 rfl ?_
            exact ih2 _ _ (by omega) (Or.inr ⟨rfl, fun q => ha (alw_s.mp q).1⟩)
      refine r_iload_n C rfl dX7_pridesOf_4 ?_
      refine r_bipush C rfl dX7_pridesOf_5 ?_
      refine r_icmp_ge C (tgt := 112) dX7_pridesOf_7 rfl (by first | assumption | exact rgm (by omega) (by omega)) (by first | assumption | exact rgm (by omega) (by omega)) (fun h7 => absurd h7 (by omega)) (fun h7 => ?_)
      refine r_iconst C dX7_pridesOf_10 ?_
      refine r_istore C dX7_pridesOf_11 4 rfl (by decide) rfl ?_
      dsimp only [List.set, Nat.reduceAdd]
      refine r_iconst C dX7_pridesOf_13 ?_
      refine r_istore C dX7_pridesOf_14 5 rfl (by decide) rfl ?_
      dsimp only [List.set, Nat.reduceAdd]
      exact lp2 0 (Nat.zero_le _) _ _ rfl (Or.inl ⟨rfl, by unfold alw; exact decide_eq_true (fun q hq => absurd hq (Nat.not_lt_zero q))⟩)
  refine r_iconst C dX7_pridesOf_0 ?_
  refine r_istore_n C dX7_pridesOf_1 2 rfl (by decide) rfl ?_
  dsimp only [List.set, Nat.reduceAdd]
  refine r_iconst C dX7_pridesOf_2 ?_
  refine r_istore_n C dX7_pridesOf_3 3 rfl (by decide) rfl ?_
  dsimp only [List.set, Nat.reduceAdd]
  exact lp 0 (by omega) _ _ _ _ rfl rfl

def mw_ (kind prides how : Int) : Nat → Int
  | 0 => 0
  | k + 1 => if mw_ kind prides how k < lo_ kind prides how (gw kind ((k : Int) + 1) how) (k + 1) then lo_ kind prides how (gw kind ((k : Int) + 1) how) (k + 1) else mw_ kind prides how k
theorem lo_s (kind prides how g : Int) (n : Nat) : lo_ kind prides how g (n + 1) = lo_ kind prides how g n + (if bt prides n = 1 ∧ gw kind ((n : Int) + 1) how = g then 1 else 0) := rfl
theorem lo_m (kind prides how g : Int) {n : Nat} : ∀ m, n ≤ m → lo_ kind prides how g n ≤ lo_ kind prides how g m := by
  intro m
  induction m with
  | zero => intro h; rw [show n = 0 by omega]; exact Int.le_refl _
  | succ m ih =>
    intro h
    rcases (show n ≤ m ∨ n = m + 1 by omega) with q | q
    · have := ih q
      rw [lo_s]
      split <;> omega
    · rw [q]; exact Int.le_refl _
theorem lo_B (kind prides how g : Int) : ∀ n, 0 < lo_ kind prides how g n → ∃ k, k < n ∧ bt prides k = 1 ∧ gw kind ((k : Int) + 1) how = g ∧ lo_ kind prides how g n = lo_ kind prides how g (k + 1)
  | 0, h => absurd h (by show ¬ (0 : Int) < 0; omega)
  | n + 1, h => by
    by_cases c : bt prides n = 1 ∧ gw kind ((n : Int) + 1) how = g
    · exact ⟨n, by omega, c.1, c.2, rfl⟩
    · have e : lo_ kind prides how g (n + 1) = lo_ kind prides how g n := by rw [lo_s, if_neg c]; omega
      obtain ⟨k, h1, h2, h3, h4⟩ := lo_B kind prides how g n (by omega)
      exact ⟨k, by omega, h2, h3, by rw [e]; exact h4⟩
theorem mw_ge (kind prides how : Int) : ∀ n k : Nat, k < n → lo_ kind prides how (gw kind ((k : Int) + 1) how) (k + 1) ≤ mw_ kind prides how n
  | 0, k, h => absurd h (Nat.not_lt_zero k)
  | n + 1, k, h => by
    unfold mw_
    rcases (show k < n ∨ k = n by omega) with q | q
    · have := mw_ge kind prides how n k q
      split <;> omega
    · subst q; split <;> omega
theorem ml_ge (kind prides how : Int) : ∀ n k : Nat, k < n → bt prides k = 1 → lo_ kind prides how (gw kind ((k : Int) + 1) how) 9 ≤ ml_ kind prides how n
  | 0, k, h, _ => absurd h (Nat.not_lt_zero k)
  | n + 1, k, h, hb => by
    unfold ml_
    rcases (show k < n ∨ k = n by omega) with q | q
    · have := ml_ge kind prides how n k q hb
      split
      · split <;> omega
      · omega
    · subst q; rw [if_pos hb]; split <;> omega
theorem mw_le (kind prides how c : Int) (h0 : 0 ≤ c) : ∀ n : Nat, (∀ k : Nat, k < n → lo_ kind prides how (gw kind ((k : Int) + 1) how) (k + 1) ≤ c) → mw_ kind prides how n ≤ c
  | 0, _ => h0
  | n + 1, h => by
    have h1 := mw_le kind prides how c h0 n (fun k hk => h k (by omega))
    have h2 := h n (by omega)
    unfold mw_
    split <;> omega
theorem ml_le (kind prides how c : Int) (h0 : 0 ≤ c) : ∀ n : Nat, (∀ k : Nat, k < n → bt prides k = 1 → lo_ kind prides how (gw kind ((k : Int) + 1) how) 9 ≤ c) → ml_ kind prides how n ≤ c
  | 0, _ => h0
  | n + 1, h => by
    have h1 := ml_le kind prides how c h0 n (fun k hk => h k (by omega))
    unfold ml_
    split
    · have h2 := h n (by omega) (by assumption)
      split <;> omega
    · omega
theorem mw_0 (kind prides how : Int) : ∀ n, 0 ≤ mw_ kind prides how n
  | 0 => Int.le_refl _
  | n + 1 => by
    have := mw_0 kind prides how n
    unfold mw_
    split <;> omega
theorem mw_ml (kind prides how : Int) : mw_ kind prides how 9 = ml_ kind prides how 9 := by
  apply Int.le_antisymm
  · refine mw_le _ _ _ _ (ml_b kind prides how 9).1 9 (fun k hk => ?_)
    by_cases h : 0 < lo_ kind prides how (gw kind ((k : Int) + 1) how) (k + 1)
    · obtain ⟨k', h1, h2, h3, -⟩ := lo_B _ _ _ _ _ h
      have h4 := ml_ge kind prides how 9 k' (by omega) h2
      rw [h3] at h4
      have h5 := lo_m kind prides how (gw kind ((k : Int) + 1) how) (n := k + 1) 9 (by omega)
      omega
    · have := (ml_b kind prides how 9).1
      omega
  · refine ml_le _ _ _ _ (mw_0 kind prides how 9) 9 (fun k hk hb => ?_)
    by_cases h : 0 < lo_ kind prides how (gw kind ((k : Int) + 1) how) 9
    · obtain ⟨k', h1, h2, h3, h4⟩ := lo_B _ _ _ _ _ h
      have h5 := mw_ge kind prides how 9 k' h1
      rw [h3] at h5
      omega
    · have := mw_0 kind prides how 9
      omega
theorem mw_9 (kind prides how : Int) : ∀ n, n ≤ 9 → mw_ kind prides how n ≤ 9 := fun n hn => mw_le _ _ _ _ (by omega) n (fun k hk => by have := lo_b kind prides how (gw kind ((k : Int) + 1) how) (k + 1); omega)
def pf_ (kind prides how : Int) (i : Nat) : Nat → Int := fun g => lo_ kind prides how (g : Int) i
theorem mF_61 (M : Mm_) (f : Nat → Int) (kind prides how : Int) : eqM (mF (mR M 61 f) 61 22 0) (mR M 61 (pf_ kind prides how 0)) := by
  refine ⟨fun x j hj => ?_, rfl⟩
  by_cases hx : x = 61
  · subst hx
    have hj2 : j < 22 := hj
    simp [mR, mF, hj2, pf_, lo_, sm]
  · simp [mR, mF, hx]
theorem pf_s {M : Mm_} {kind prides how : Int} {i k : Nat} (hk : (k : Int) = gw kind ((i : Int) + 1) how) {v : Int} (hv : v = lo_ kind prides how (k : Int) (i + 1)) : mU (mR M 61 (pf_ kind prides how i)) 61 k v = mR M 61 (pf_ kind prides how (i + 1)) := by
  rw [mU_mR]
  congr 1
  funext j
  by_cases h : j = k
  · rw [if_pos h, hv, h]; rfl
  · rw [if_neg h]
    unfold pf_
    rw [lo_s, if_neg (by omega)]
    omega

set_option maxRecDepth 10000 in
set_option maxHeartbeats 1000000 in
theorem c_tryOf (M : Mm_) {k : Nat} (hk : (k : Int) < M.1 48 3) (hv : oMv M) (hrw : oMr M) (hse : oMs M) : Cn 2 kX7_tryOf [.ref 48, .int (zI (k : Int))] M (pS (bTry (M.1 50 (3 * k)) (prM4 M k)) M) := by
  have hv0 : (M.1 48 3 = 0 ∧ M.1 48 4 = 0) ∨ (2 ≤ M.1 48 3 ∧ M.1 48 3 ≤ 4 ∧ 2 ≤ M.1 48 4 ∧ M.1 48 4 ≤ 6) := hv
  have hr := hrw k (by omega)
  obtain ⟨s, es⟩ : ∃ s, prM4 M k = s := ⟨_, rfl⟩
  have hsb := prd_b (swM M) (shM M) (sbM M) (M.1 48 22).toNat (k : Int) (M.1 50 (3 * k))
  have hsb : 0 ≤ s ∧ s < 512 := by rw [← es]; exact hsb
  rw [es]
  refine Cn.of rfl (Nat.le_of_ble_eq_true rfl) (fun G C E => ?_)
  show G 0 [.ref 48, .int (zI (k : Int)), .null, .null, .null, .null, .null, .null, .null] [] M
  by_cases hs0 : s = 0
  · have e : bTry (M.1 50 (3 * k)) s = -1 := by unfold bTry; rw [if_pos hs0]
    refine r_aload_n C rfl dX7_tryOf_0 ?_
    refine r_iload_n C rfl dX7_tryOf_1 ?_
    refine r_cVz C dX7_tryOf_2 vw_X7_182 (c_pridesOf M hk hv hrw hse) (by decide) rfl ly_48 rfl rfl (Nat.le_of_ble_eq_true rfl) ?_
    rw [es]
    refine r_istore_n C dX7_tryOf_5 2 rfl (by decide) rfl ?_
    dsimp only [List.set, Nat.reduceAdd]
    refine r_iconst C dX7_tryOf_6 ?_
    refine r_istore_n C dX7_tryOf_7 3 rfl (by decide) rfl ?_
    dsimp only [List.set, Nat.reduceAdd]
    refine r_bipush C rfl dX7_tryOf_8 ?_
    refine r_istore C dX7_tryOf_10 4 rfl (by decide) rfl ?_
    dsimp only [List.set, Nat.reduceAdd]
    refine r_iconst C dX7_tryOf_12 ?_
    refine r_istore C dX7_tryOf_13 5 rfl (by decide) rfl ?_
    dsimp only [List.set, Nat.reduceAdd]
    refine r_iload C rfl dX7_tryOf_15 ?_
    refine r_iconst C dX7_tryOf_17 ?_
    refine r_icmp_ge C (tgt := 165) dX7_tryOf_18 rfl (by first | assumption | exact rgm (by omega) (by omega)) (by first | assumption | exact rgm (by omega) (by omega)) (fun h18 => absurd h18 (by decide)) (fun h18 => ?_)
    refine r_iload_n C rfl dX7_tryOf_21 ?_
    refine r_if_eq C (tgt := 165) dX7_tryOf_22 rfl (by first | assumption | exact rgm (by omega) (by omega)) (fun h22 => ?_) (fun h22 => absurd h22 (by omega))
    refine r_iload_n C rfl dX7_tryOf_165 ?_
    exact r_iret E dX7_tryOf_166 ⟨by rw [e], mS_rf⟩
  have e : bTry (M.1 50 (3 * k)) s = (bty (M.1 50 (3 * k)) s 3).1 := by unfold bTry; rw [if_neg hs0]
  have lp : ∀ i, i ≤ 3 → ∀ (f : Nat → Int) (b2 l2 z : Int) (v6 v7 v8 : Value), b2 = (bty (M.1 50 (3 * k)) s i).1 → l2 = (bty (M.1 50 (3 * k)) s i).2 → z = (i : Int) → G 15 [.ref 48, .int (zI (k : Int)), .int (zI s), .int (zI b2), .int (zI l2), .int (zI z), v6, v7, v8] [] (mR M 61 f) := by
    refine lpN 3 ?_ ?_
    · intro f b2 l2 z v6 v7 v8 hb hl hz
      refine r_iload C rfl dX7_tryOf_15 ?_
      refine r_iconst C dX7_tryOf_17 ?_
      refine r_icmp_ge C (tgt := 165) dX7_tryOf_18 rfl (by first | assumption | exact rgm (by omega) (by omega)) (by first | assumption | exact rgm (by omega) (by omega)) (fun h18 => ?_) (fun h18 => absurd h18 (by omega))
      refine r_iload_n C rfl dX7_tryOf_165 ?_
      exact r_iret E dX7_tryOf_166 ⟨by rw [e, ← hb], mS_R (by decide)⟩
    · intro i hi ih f b2 l2 z v6 v7 v8 hb hl hz
      have h9 := bty_b (M.1 50 (3 * k)) s i (by omega)
      have lq : ∀ j : Nat, j ≤ 9 → ∀ (w y : Int) (v8 : Value), w = mw_ (M.1 50 (3 * k)) s (i : Int) j → y = (j : Int) + 1 → G 55 [.ref 48, .int (zI (k : Int)), .int (zI s), .int (zI b2), .int (zI l2), .int (zI z), .int (zI w), .int (zI y), v8] [] (mR M 61 (pf_ (M.1 50 (3 * k)) s (i : Int) j)) := by
        refine lpN 9 ?_ ?_
        · intro w y v8 hw hy
          have hml := mw_ml (M.1 50 (3 * k)) s (i : Int)
          have hmb := ml_b (M.1 50 (3 * k)) s (i : Int) 9
          refine r_iload C rfl dX7_tryOf_55 ?_
          refine r_bipush C rfl dX7_tryOf_57 ?_
          refine r_icmp_ge C (tgt := 129) dX7_tryOf_59 rfl (by first | assumption | exact rgm (by omega) (by omega)) (by first | assumption | exact rgm (by omega) (by omega)) (fun h59 => ?_) (fun h59 => absurd h59 (by omega))
          refine r_iload C rfl dX7_tryOf_129 ?_
          refine r_iload C rfl dX7_tryOf_131 ?_
          refine r_icmp_ge C (tgt := 141) dX7_tryOf_133 rfl (by first | assumption | exact rgm (by omega) (by omega)) (by first | assumption | exact rgm (by omega) (by omega)) (fun h133 => ?_) (fun h133 => ?_)
          · refine r_iload_n C rfl dX7_tryOf_141 ?_
            refine r_istore_n C dX7_tryOf_142 3 rfl (by decide) rfl ?_
            dsimp only [List.set, Nat.reduceAdd]
            refine r_iload C rfl dX7_tryOf_143 ?_
            refine r_iload C rfl dX7_tryOf_145 ?_
            refine r_icmp_ge C (tgt := 155) dX7_tryOf_147 rfl (by first | assumption | exact rgm (by omega) (by omega)) (by first | assumption | exact rgm (by omega) (by omega)) (fun h147 => ?_) (fun h147 => absurd h147 (by omega))
            refine r_iload C rfl dX7_tryOf_155 ?_
            refine r_istore C dX7_tryOf_157 4 rfl (by decide) rfl ?_
            dsimp only [List.set, Nat.reduceAdd]
            refine r_iinc C dX7_tryOf_159 rfl (by decide) rfl ?_
            dsimp only [List.set, Nat.reduceAdd]
            refine r_goto C (tgt := 15) dX7_tryOf_162 rfl ?_
            exact ih _ _ _ _ _ _ _ (by unfold bty; rw [if_neg (by omega)]; exact hb) (by unfold bty; rw [if_neg (by omega)]; exact hl) (by omega)
          · refine r_iload C rfl dX7_tryOf_136 ?_
            refine r_goto C (tgt := 142) dX7_tryOf_138 rfl ?_
            refine r_istore_n C dX7_tryOf_142 3 rfl (by decide) rfl ?_
            dsimp only [List.set, Nat.reduceAdd]
            refine r_iload C rfl dX7_tryOf_143 ?_
            refine r_iload C rfl dX7_tryOf_145 ?_
            refine r_icmp_ge C (tgt := 155) dX7_tryOf_147 rfl (by first | assumption | exact rgm (by omega) (by omega)) (by first | assumption | exact rgm (by omega) (by omega)) (fun h147 => absurd h147 (by omega)) (fun h147 => ?_)
            refine r_iload C rfl dX7_tryOf_150 ?_
            refine r_goto C (tgt := 157) dX7_tryOf_152 rfl ?_
            refine r_istore C dX7_tryOf_157 4 rfl (by decide) rfl ?_
            dsimp only [List.set, Nat.reduceAdd]
            refine r_iinc C dX7_tryOf_159 rfl (by decide) rfl ?_
            dsimp only [List.set, Nat.reduceAdd]
            refine r_goto C (tgt := 15) dX7_tryOf_162 rfl ?_
            exact ih _ _ _ _ _ _ _ (by unfold bty; rw [if_pos (by omega)]; exact hz) (by unfold bty; rw [if_pos (by omega)]; simp only; omega) (by omega)
        · intro j hj ih2 w y v8 hw hy
          have hmw := mw_0 (M.1 50 (3 * k)) s (i : Int) j
          have hmw9 := mw_9 (M.1 50 (3 * k)) s (i : Int) j (by omega)
          have hgb := gw_b (kind := (M.1 50 (3 * k))) (pride := (j : Int) + 1) (how := (i : Int)) (by omega) (by omega)
          obtain ⟨g, hg⟩ : ∃ g : Nat, gw (M.1 50 (3 * k)) ((j : Int) + 1) (i : Int) = g := ⟨(gw (M.1 50 (3 * k)) ((j : Int) + 1) (i : Int)).toNat, by omega⟩
          have hl1 := lo_b (M.1 50 (3 * k)) s (i : Int) (g : Int) j
          have hl2 := lo_b (M.1 50 (3 * k)) s (i : Int) (g : Int) (j + 1)
          have hbt := bt_b s j
          have hdv := dv_b j hsb.1
          have e50 : (mR M 61 (pf_ (M.1 50 (3 * k)) s (i : Int) j)).1 50 (3 * k) = (M.1 50 (3 * k)) := by rw [mR_ne (by decide)]
          refine r_iload C rfl dX7_tryOf_55 ?_
          refine r_bipush C rfl dX7_tryOf_57 ?_
          refine r_icmp_ge C (tgt := 129) dX7_tryOf_59 rfl (by first | assumption | exact rgm (by omega) (by omega)) (by first | assumption | exact rgm (by omega) (by omega)) (fun h59 => absurd h59 (by omega)) (fun h59 => ?_)
          refine r_aload_n C rfl dX7_tryOf_62 ?_
          refine r_getr C dX7_tryOf_63 fl_X7_13 ly_48 rfl ?_
          refine r_iconst C dX7_tryOf_66 ?_
          refine r_iload_n C rfl dX7_tryOf_67 ?_
          refine r_imul C dX7_tryOf_68 ?_
          refine r_iald C dX7_tryOf_69 ly_50 (k := 3 * k) (by omega) (by omega) ?_
          refine r_iload C rfl dX7_tryOf_70 ?_
          refine r_iload C rfl dX7_tryOf_72 ?_
          refine r_cSz C dX7_tryOf_74 sw_X7_141 (c_grieved _ (by rw [e50]; exact hr.1) (by omega) (by omega)) (by decide) rfl rfl (Nat.le_of_ble_eq_true rfl) ?_
          rw [e50, show gw (M.1 50 (3 * k)) y z = (g : Int) by rw [hy, hz, hg]]
          refine r_istore C dX7_tryOf_77 8 rfl (by decide) rfl ?_
          dsimp only [List.set, Nat.reduceAdd]
          refine r_aload_n C rfl dX7_tryOf_79 ?_
          refine r_getr C dX7_tryOf_80 fl_X7_46 ly_48 rfl ?_
          refine r_iload C rfl dX7_tryOf_83 ?_
          refine r_dup2 C rfl rfl dX7_tryOf_85 ?_
          refine r_iald C dX7_tryOf_86 ly_61 (k := g) rfl (by omega) ?_
          rw [show (mR M 61 (pf_ (M.1 50 (3 * k)) s (i : Int) j)).1 61 g = lo_ (M.1 50 (3 * k)) s (i : Int) (g : Int) j by rw [mR_eq]; rfl]
          refine r_iload_n C rfl dX7_tryOf_87 ?_
          refine r_iload C rfl dX7_tryOf_88 ?_
          refine r_iconst C dX7_tryOf_90 ?_
          refine r_isub C dX7_tryOf_91 ?_
          refine r_ishr C (v := s / 2 ^ j) (by rw [show y - 1 = (j : Int) by omega]; exact zb_shr hsb.1 (by omega) (by omega)) dX7_tryOf_92 ?_
          refine r_iconst C dX7_tryOf_93 ?_
          refine r_iand C (v := bt s j) (zb_and1 (by omega) (by omega)) dX7_tryOf_94 ?_
          refine r_iadd C dX7_tryOf_95 ?_
          refine r_iast C dX7_tryOf_96 ly_61 (k := g) rfl (by omega) ?_
          have hlos := lo_s (M.1 50 (3 * k)) s (i : Int) (g : Int) j
          rw [hg] at hlos
          rw [pf_s (M := M) (kind := (M.1 50 (3 * k))) (prides := s) (how := (i : Int)) (i := j) (k := g) hg.symm (by rw [hlos]; split <;> omega)]
          have e61 : (mR M 61 (pf_ (M.1 50 (3 * k)) s (i : Int) (j + 1))).1 61 g = lo_ (M.1 50 (3 * k)) s (i : Int) (g : Int) (j + 1) := by rw [mR_eq]; rfl
          refine r_aload_n C rfl dX7_tryOf_97 ?_
          refine r_getr C dX7_tryOf_98 fl_X7_46 ly_48 rfl ?_
          refine r_iload C rfl dX7_tryOf_101 ?_
          refine r_iald C dX7_tryOf_103 ly_61 (k := g) rfl (by omega) ?_
          rw [e61]
          refine r_iload C rfl dX7_tryOf_104 ?_
          refine r_icmp_le C (tgt := 119) dX7_tryOf_106 rfl (by first | assumption | exact rgm (by omega) (by omega)) (by first | assumption | exact rgm (by omega) (by omega)) (fun h106 => ?_) (fun h106 => ?_)
          · refine r_iload C rfl dX7_tryOf_119 ?_
            refine r_istore C dX7_tryOf_121 6 rfl (by decide) rfl ?_
            dsimp only [List.set, Nat.reduceAdd]
            refine r_iinc C dX7_tryOf_123 rfl (by decide) rfl ?_
            dsimp only [List.set, Nat.reduceAdd]
            refine r_goto C (tgt := 55) dX7_tryOf_126 rfl ?_
            exact ih2 _ _ _ (by unfold mw_; rw [hg, if_neg (by omega)]; exact hw) (by omega)
          · refine r_aload_n C rfl dX7_tryOf_109 ?_
            refine r_getr C dX7_tryOf_110 fl_X7_46 ly_48 rfl ?_
            refine r_iload C rfl dX7_tryOf_113 ?_
            refine r_iald C dX7_tryOf_115 ly_61 (k := g) rfl (by omega) ?_
            rw [e61]
            refine r_goto C (tgt := 121) dX7_tryOf_116 rfl ?_
            refine r_istore C dX7_tryOf_121 6 rfl (by decide) rfl ?_
            dsimp only [List.set, Nat.reduceAdd]
            refine r_iinc C dX7_tryOf_123 rfl (by decide) rfl ?_
            dsimp only [List.set, Nat.reduceAdd]
            refine r_goto C (tgt := 55) dX7_tryOf_126 rfl ?_
            exact ih2 _ _ _ (by unfold mw_; rw [hg, if_pos (by omega)]) (by omega)
      have lr : ∀ j : Nat, j ≤ 22 → ∀ (y : Int) (v7 v8 : Value), y = j → G 28 [.ref 48, .int (zI (k : Int)), .int (zI s), .int (zI b2), .int (zI l2), .int (zI z), .int (zI y), v7, v8] [] (mF (mR M 61 f) 61 j 0) := by
        refine lpN 22 ?_ ?_
        · intro y v7 v8 hy
          refine r_iload C rfl dX7_tryOf_28 ?_
          refine r_bipush C rfl dX7_tryOf_30 ?_
          refine r_icmp_ge C (tgt := 49) dX7_tryOf_32 rfl (by first | assumption | exact rgm (by omega) (by omega)) (by first | assumption | exact rgm (by omega) (by omega)) (fun h32 => ?_) (fun h32 => absurd h32 (by omega))
          refine r_ext C (mF_61 M f (M.1 50 (3 * k)) s (i : Int)) ?_
          refine r_iconst C dX7_tryOf_49 ?_
          refine r_istore C dX7_tryOf_50 6 rfl (by decide) rfl ?_
          dsimp only [List.set, Nat.reduceAdd]
          refine r_iconst C dX7_tryOf_52 ?_
          refine r_istore C dX7_tryOf_53 7 rfl (by decide) rfl ?_
          dsimp only [List.set, Nat.reduceAdd]
          exact lq 0 (Nat.zero_le _) _ _ _ rfl rfl
        · intro j hj ih2 y v7 v8 hy
          refine r_iload C rfl dX7_tryOf_28 ?_
          refine r_bipush C rfl dX7_tryOf_30 ?_
          refine r_icmp_ge C (tgt := 49) dX7_tryOf_32 rfl (by first | assumption | exact rgm (by omega) (by omega)) (by first | assumption | exact rgm (by omega) (by omega)) (fun h32 => absurd h32 (by omega)) (fun h32 => ?_)
          refine r_aload_n C rfl dX7_tryOf_35 ?_
          refine r_getr C dX7_tryOf_36 fl_X7_46 ly_48 rfl ?_
          refine r_iload C rfl dX7_tryOf_39 ?_
          refine r_iconst C dX7_tryOf_41 ?_
          refine r_iast C dX7_tryOf_42 ly_61 hy (by omega) ?_
          rw [mF_s]
          refine r_iinc C dX7_tryOf_43 rfl (by decide) rfl ?_
          dsimp only [List.set, Nat.reduceAdd]
          refine r_goto C (tgt := 28) dX7_tryOf_46 rfl ?_
          exact ih2 _ _ _ (by omega)
      refine r_iload C rfl dX7_tryOf_15 ?_
      refine r_iconst C dX7_tryOf_17 ?_
      refine r_icmp_ge C (tgt := 165) dX7_tryOf_18 rfl (by first | assumption | exact rgm (by omega) (by omega)) (by first | assumption | exact rgm (by omega) (by omega)) (fun h18 => absurd h18 (by omega)) (fun h18 => ?_)
      refine r_iload_n C rfl dX7_tryOf_21 ?_
      refine r_if_eq C (tgt := 165) dX7_tryOf_22 rfl (by first | assumption | exact rgm (by omega) (by omega)) (fun h22 => absurd h22 (by omega)) (fun h22 => ?_)
      refine r_iconst C dX7_tryOf_25 ?_
      refine r_istore C dX7_tryOf_26 6 rfl (by decide) rfl ?_
      dsimp only [List.set, Nat.reduceAdd]
      have h0 := lr 0 (Nat.zero_le _) 0 v7 v8 rfl
      rw [mF_0] at h0
      exact h0
  refine r_aload_n C rfl dX7_tryOf_0 ?_
  refine r_iload_n C rfl dX7_tryOf_1 ?_
  refine r_cVz C dX7_tryOf_2 vw_X7_182 (c_pridesOf M hk hv hrw hse) (by decide) rfl ly_48 rfl rfl (Nat.le_of_ble_eq_true rfl) ?_
  rw [es]
  refine r_istore_n C dX7_tryOf_5 2 rfl (by decide) rfl ?_
  dsimp only [List.set, Nat.reduceAdd]
  refine r_iconst C dX7_tryOf_6 ?_
  refine r_istore_n C dX7_tryOf_7 3 rfl (by decide) rfl ?_
  dsimp only [List.set, Nat.reduceAdd]
  refine r_bipush C rfl dX7_tryOf_8 ?_
  refine r_istore C dX7_tryOf_10 4 rfl (by decide) rfl ?_
  dsimp only [List.set, Nat.reduceAdd]
  refine r_iconst C dX7_tryOf_12 ?_
  refine r_istore C dX7_tryOf_13 5 rfl (by decide) rfl ?_
  dsimp only [List.set, Nat.reduceAdd]
  have h0 := lp 0 (Nat.zero_le _) (M.1 61) (-1) 10 0 .null .null .null rfl rfl rfl
  rw [mR_self] at h0
  exact h0
