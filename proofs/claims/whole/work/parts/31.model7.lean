
def mW (M T : Mm_) : Prop := (∀ i, (49 ≤ i ∧ i ≤ 56) ∨ i = 60 → T.1 i = M.1 i) ∧ (∀ j, j = 1 ∨ j = 3 ∨ j = 4 ∨ j = 5 ∨ j = 8 ∨ j = 22 → T.1 48 j = M.1 48 j)
theorem mW_S {M T : Mm_} (h : mS M T) : mW M T := ⟨fun i hi => h.1 i (by omega) (by omega) (by omega) (by omega) (by omega), fun j hj => h.2.1 j (by omega) (by omega)⟩
theorem mW_48 {M : Mm_} {j : Nat} {z : Int} (hj : ¬ (j = 1 ∨ j = 3 ∨ j = 4 ∨ j = 5 ∨ j = 8 ∨ j = 22)) : mW M (mU M 48 j z) := ⟨fun i hi => mU_ne (by omega), fun x hx => by unfold mU; show (if _ then _ else _) = _; rw [if_neg (by omega)]⟩
theorem FM_W {M T : Mm_} (h : mW M T) (g : Nat → Int) (dr : Bool) : FM T g dr = FM M g dr := by
  unfold FM pdM ppM
  rw [h.1 51 (by omega), h.1 56 (by omega), h.2 3 (by omega), h.2 8 (by omega)]
theorem grM_W {M T : Mm_} (h : mW M T) : grM T = grM M := by
  unfold grM
  rw [h.1 50 (by omega)]
theorem kdM_W {M T : Mm_} (h : mW M T) : kdM T = kdM M := by
  unfold kdM
  rw [h.1 50 (by omega)]
theorem oM_W {M T : Mm_} (h : mW M T) (hM : oM M) : oM T := by
  unfold oM oMp oMv oMr oMf oMg oMs at hM ⊢
  rw [h.1 49 (by omega), h.1 50 (by omega), h.1 51 (by omega), h.1 52 (by omega), h.1 53 (by omega), h.1 54 (by omega), h.1 55 (by omega), h.1 56 (by omega), h.1 60 (by omega), h.2 1 (by omega), h.2 3 (by omega), h.2 4 (by omega), h.2 5 (by omega), h.2 8 (by omega), h.2 22 (by omega)]
  exact hM
-- the search by rows
def rsF (E : (Nat → Int) → Bool) (gr : Nat → Int) (N : Nat) : List Nat → (Nat → Int) → Option (List Int)
  | [], g => if E g = true then some [] else none
  | a :: l, g => match (rsF E gr N l (sl1 gr (a : Int) g)).map (fun x => (a : Int) :: x) with
    | some x => some x
    | none => ff (fun i => (fz E gr N l.length i (sl1 gr (i : Int) g)).map (fun x => (i : Int) :: x)) (N - (a + 1)) (a + 1)
def nxF (N : Nat) : List Nat → Option (List Nat)
  | [] => none
  | a :: l => match nxF N l with
    | some l' => some (a :: l')
    | none => if a + 1 < N then some (List.replicate (l.length + 1) (a + 1)) else none
def apF (gr : Nat → Int) : List Nat → (Nat → Int) → (Nat → Int)
  | [], g => g
  | a :: l, g => apF gr l (sl1 gr (a : Int) g)
theorem rs_c (E : (Nat → Int) → Bool) (gr : Nat → Int) (N a : Nat) (l : List Nat) (g : Nat → Int) : rsF E gr N (a :: l) g = (match (rsF E gr N l (sl1 gr (a : Int) g)).map (fun x => (a : Int) :: x) with | some x => some x | none => ff (fun i => (fz E gr N l.length i (sl1 gr (i : Int) g)).map (fun x => (i : Int) :: x)) (N - (a + 1)) (a + 1)) := rfl
theorem fz_c (E : (Nat → Int) → Bool) (gr : Nat → Int) (N k lo : Nat) (g : Nat → Int) : fz E gr N (k + 1) lo g = ff (fun i => (fz E gr N k i (sl1 gr (i : Int) g)).map (fun l => (i : Int) :: l)) (N - lo) lo := rfl
theorem nx_c (N a : Nat) (l : List Nat) : nxF N (a :: l) = (match nxF N l with | some l' => some (a :: l') | none => if a + 1 < N then some (List.replicate (l.length + 1) (a + 1)) else none) := rfl
theorem rs_start {E : (Nat → Int) → Bool} {gr : Nat → Int} {N : Nat} : ∀ (k lo : Nat) (g : Nat → Int), lo < N → rsF E gr N (List.replicate k lo) g = fz E gr N k lo g
  | 0, lo, g, h => rfl
  | k + 1, lo, g, h => by
    rw [List.replicate_succ, rs_c, fz_c, rs_start k lo _ h, ff_step h, List.length_replicate]
    cases Option.map (fun x => (lo : Int) :: x) (fz E gr N k lo (sl1 gr (lo : Int) g)) <;> rfl
theorem nx_len {N : Nat} : ∀ {l l' : List Nat}, nxF N l = some l' → l'.length = l.length
  | [], l', h => by simp [nxF] at h
  | a :: l, l', h => by
    unfold nxF at h
    split at h
    · rename_i x hx
      have := nx_len hx
      simp at h
      rw [← h]
      simp [this]
    · split at h
      · simp at h
        rw [← h]
        simp
      · simp at h
theorem nx_lt {N : Nat} : ∀ {l l' : List Nat}, (∀ x ∈ l, x < N) → nxF N l = some l' → ∀ x ∈ l', x < N
  | [], l', hl, h => by simp [nxF] at h
  | a :: l, l', hl, h => by
    unfold nxF at h
    split at h
    · rename_i x hx
      have := nx_lt (fun y hy => hl y (List.mem_cons_of_mem _ hy)) hx
      simp at h
      rw [← h]
      intro y hy
      rcases List.mem_cons.mp hy with q | q
      · rw [q]; exact hl a (List.mem_cons_self ..)
      · exact this y q
    · split at h
      · simp only [Option.some.injEq] at h
        rw [← h]
        intro y hy
        rw [List.eq_of_mem_replicate hy]
        assumption
      · simp at h
theorem rs_step {E : (Nat → Int) → Bool} {gr : Nat → Int} {N : Nat} : ∀ (l : List Nat) (g : Nat → Int), E (apF gr l g) ≠ true → rsF E gr N l g = (match nxF N l with | some l' => rsF E gr N l' g | none => none)
  | [], g, h => by
    unfold rsF nxF
    exact if_neg h
  | a :: l, g, h => by
    have ih := rs_step (N := N) l (sl1 gr (a : Int) g) h
    rw [rs_c, nx_c, ih]
    cases hn : nxF N l with
    | some l'' =>
      have := nx_len hn
      simp only
      rw [rs_c, this]
    | none =>
      simp only [Option.map_none]
      by_cases c : a + 1 < N
      · rw [if_pos c]
        simp only
        rw [rs_start _ _ _ c]
        rfl
      · rw [if_neg c, show N - (a + 1) = 0 by omega]
        rfl
theorem rs_found {E : (Nat → Int) → Bool} {gr : Nat → Int} {N : Nat} : ∀ (l : List Nat) (g : Nat → Int), E (apF gr l g) = true → rsF E gr N l g = some (l.map (fun x : Nat => (x : Int)))
  | [], g, h => by
    unfold rsF
    exact if_pos h
  | a :: l, g, h => by
    have ih := rs_found (N := N) l (sl1 gr (a : Int) g) h
    unfold rsF
    rw [ih]
    rfl
def rkF (N : Nat) : List Nat → Nat
  | [] => 0
  | a :: l => a * N ^ l.length + rkF N l
theorem rk_lt {N : Nat} : ∀ (l : List Nat), (∀ x ∈ l, x < N) → rkF N l < N ^ l.length
  | [], _ => by simp [rkF]
  | a :: l, h => by
    have h1 := rk_lt l (fun y hy => h y (List.mem_cons_of_mem _ hy))
    have h2 := h a (List.mem_cons_self ..)
    unfold rkF
    rw [List.length_cons, Nat.pow_succ, Nat.mul_comm]
    have h3 : (a + 1) * N ^ l.length ≤ N * N ^ l.length := Nat.mul_le_mul_right _ (by omega)
    rw [Nat.add_mul] at h3
    rw [Nat.mul_comm (N ^ l.length) N, Nat.mul_comm (N ^ l.length) a]
    omega
theorem nx_rk {N : Nat} : ∀ {l l' : List Nat}, (∀ x ∈ l, x < N) → nxF N l = some l' → rkF N l < rkF N l'
  | [], l', hl, h => by simp [nxF] at h
  | a :: l, l', hl, h => by
    have hl2 : ∀ x ∈ l, x < N := fun y hy => hl y (List.mem_cons_of_mem _ hy)
    unfold nxF at h
    split at h
    · rename_i x hx
      have h1 := nx_rk hl2 hx
      have h2 := nx_len hx
      simp only [Option.some.injEq] at h
      rw [← h]
      unfold rkF
      rw [h2]
      omega
    · split at h
      · simp only [Option.some.injEq] at h
        rw [← h, List.replicate_succ]
        unfold rkF
        have h1 := rk_lt l hl2
        rw [List.length_replicate, Nat.add_mul]
        omega
      · simp at h
def rowIs (T : Mm_) (l : List Nat) : Prop := ∀ i, i < l.length → T.1 58 i = ((l.getD i 0 : Nat) : Int)
def EnM (M : Mm_) (set : Int) (g : Nat → Int) : Bool := decide (an set (WDc (M.1 53) (FM M g true) (M.1 48 4).toNat) = 0)
def fewM (M : Mm_) (set : Int) : Nat → Nat → Option (List Int) := ff (fun s => (fz (EnM M set) (grM M) (3 * M.1 48 3).toNat s 0 (M.1 52)).map (fun l => (s : Int) :: l))
theorem fewM_W {M T : Mm_} (h : mW M T) (set : Int) : fewM T set = fewM M set := by
  unfold fewM
  have e : EnM T set = EnM M set := by
    funext g
    unfold EnM
    rw [FM_W h, h.1 53 (by omega), h.2 4 (by omega)]
  rw [e, grM_W h, h.1 52 (by omega), h.2 3 (by omega)]
theorem ap_99 {M : Mm_} (h : oMr M) {N : Nat} (hN : N ≤ 12) : ∀ (l : List Nat) {g : Nat → Int}, (∀ x ∈ l, x < N) → g99 g → g99 (apF (grM M) l g)
  | [], g, _, hg => hg
  | a :: l, g, hl, hg => ap_99 h hN l (fun y hy => hl y (List.mem_cons_of_mem _ hy)) (sl1_99 h (by have := hl a (List.mem_cons_self ..); omega) hg)

set_option maxRecDepth 10000 in
set_option maxHeartbeats 1000000 in
theorem c_isEnough0 {T M : Mm_} (hS : mS M T) {q : Int} (hq : 0 ≤ q ∧ q < 64)   (hM : oM M) : Cn 3 kX7_isEnough [.ref 48, .int (zI q), .int (zI 0)] T (fun r U => mS M U ∧ U.1 58 = T.1 58 ∧ ((r = some (.int (zI 1)) ∧ EnM M q (apF (grM M) [] (M.1 52)) = true) ∨ (r = some (.int (zI 0)) ∧ ¬ EnM M q (apF (grM M) [] (M.1 52)) = true))) := by
  obtain ⟨hpg, hv, hrw, hf, hg, hse, hbo, hst, hni⟩ := hM
  have hv0 : (M.1 48 3 = 0 ∧ M.1 48 4 = 0) ∨ (2 ≤ M.1 48 3 ∧ M.1 48 3 ≤ 4 ∧ 2 ≤ M.1 48 4 ∧ M.1 48 4 ≤ 6) := hv
  have hWb := WDc_b (M.1 53) (FM M (M.1 52) true) (M.1 48 4).toNat (by omega)
  have hab := an_b hq.1 hq.2 hWb.1 hWb.2
  refine Cn.of rfl (Nat.le_of_ble_eq_true rfl) (fun G C E => ?_)
  show G 0 [.ref 48, .int (zI q), .int (zI 0), .null] [] T
  refine r_aload_n C rfl dX7_isEnough_0 ?_
  refine r_getr C dX7_isEnough_1 fl_X7_19 ly_48 rfl ?_
  refine r_aload_n C rfl dX7_isEnough_4 ?_
  refine r_getr C dX7_isEnough_5 fl_X7_34 ly_48 rfl ?_
  refine r_cSv C dX7_isEnough_8 sw_X7_205 (c_copyW hS) (by decide) rfl rfl (Nat.le_of_ble_eq_true rfl) ?_
  have hS0 : mS M (mR T 57 (M.1 52)) := mS_R2 hS (by decide)
  have hg0 : g99 (M.1 52) := hg
  refine r_iconst C dX7_isEnough_11 ?_
  refine r_istore_n C dX7_isEnough_12 3 rfl (by decide) rfl ?_
  dsimp only [List.set, Nat.reduceAdd]
  refine r_iload_n C rfl dX7_isEnough_13 ?_
  refine r_iload_n C rfl dX7_isEnough_14 ?_
  refine r_icmp_ge C (tgt := 38) dX7_isEnough_15 rfl (by first | assumption | exact rgm (by omega) (by omega)) (by first | assumption | exact rgm (by omega) (by omega)) (fun h15 => ?_) (fun h15 => absurd h15 (by decide))
  refine r_iload_n C rfl dX7_isEnough_38 ?_
  refine r_aload_n C rfl dX7_isEnough_39 ?_
  refine r_aload_n C rfl dX7_isEnough_40 ?_
  refine r_getr C dX7_isEnough_41 fl_X7_34 ly_48 rfl ?_
  refine r_iconst C dX7_isEnough_44 ?_
  refine r_cVz C dX7_isEnough_45 vw_X7_162 (c_wouldW1 (M := M) (g := (M.1 52)) hS0 (by rw [mR_eq]) hv hf hg0) (by decide) rfl ly_48 rfl rfl (Nat.le_of_ble_eq_true rfl) ?_
  refine r_iconst C dX7_isEnough_48 ?_
  refine r_ixor C (v := -1 - (WDc (M.1 53) (FM M (M.1 52) true) (M.1 48 4).toNat)) (zb_not hWb.1 hWb.2) dX7_isEnough_49 ?_
  refine r_iand C (v := an q (WDc (M.1 53) (FM M (M.1 52) true) (M.1 48 4).toNat)) (zb_an2 hq.1 hq.2 hWb.1 hWb.2) dX7_isEnough_50 ?_
  refine r_if_ne C (tgt := 58) dX7_isEnough_51 rfl (by first | assumption | exact rgm (by omega) (by omega)) (fun h51 => ?_) (fun h51 => ?_)
  · refine r_iconst C dX7_isEnough_58 ?_
    exact r_zret E dX7_isEnough_59 (by decide) ⟨hS0, by rw [mR_ne (by decide)], Or.inr ⟨rfl, fun h => absurd (show an q (WDc (M.1 53) (FM M (M.1 52) true) (M.1 48 4).toNat) = 0 from of_decide_eq_true h) (by omega)⟩⟩
  · refine r_iconst C dX7_isEnough_54 ?_
    refine r_goto C (tgt := 59) dX7_isEnough_55 rfl ?_
    exact r_zret E dX7_isEnough_59 (by decide) ⟨hS0, by rw [mR_ne (by decide)], Or.inl ⟨rfl, decide_eq_true (show an q (WDc (M.1 53) (FM M (M.1 52) true) (M.1 48 4).toNat) = 0 by omega)⟩⟩
set_option maxRecDepth 10000 in
set_option maxHeartbeats 1000000 in
theorem c_isEnough1 {T M : Mm_} (hS : mS M T) {q : Int} (hq : 0 ≤ q ∧ q < 64) {a : Nat} (ea : T.1 58 0 = ((a : Nat) : Int)) (la : (a : Int) < 3 * M.1 48 3) (hM : oM M) : Cn 3 kX7_isEnough [.ref 48, .int (zI q), .int (zI 1)] T (fun r U => mS M U ∧ U.1 58 = T.1 58 ∧ ((r = some (.int (zI 1)) ∧ EnM M q (apF (grM M) [a] (M.1 52)) = true) ∨ (r = some (.int (zI 0)) ∧ ¬ EnM M q (apF (grM M) [a] (M.1 52)) = true))) := by
  obtain ⟨hpg, hv, hrw, hf, hg, hse, hbo, hst, hni⟩ := hM
  have hv0 : (M.1 48 3 = 0 ∧ M.1 48 4 = 0) ∨ (2 ≤ M.1 48 3 ∧ M.1 48 3 ≤ 4 ∧ 2 ≤ M.1 48 4 ∧ M.1 48 4 ≤ 6) := hv
  have hWb := WDc_b (M.1 53) (FM M (sl1 (grM M) ((a : Nat) : Int) (M.1 52)) true) (M.1 48 4).toNat (by omega)
  have hab := an_b hq.1 hq.2 hWb.1 hWb.2
  refine Cn.of rfl (Nat.le_of_ble_eq_true rfl) (fun G C E => ?_)
  show G 0 [.ref 48, .int (zI q), .int (zI 1), .null] [] T
  refine r_aload_n C rfl dX7_isEnough_0 ?_
  refine r_getr C dX7_isEnough_1 fl_X7_19 ly_48 rfl ?_
  refine r_aload_n C rfl dX7_isEnough_4 ?_
  refine r_getr C dX7_isEnough_5 fl_X7_34 ly_48 rfl ?_
  refine r_cSv C dX7_isEnough_8 sw_X7_205 (c_copyW hS) (by decide) rfl rfl (Nat.le_of_ble_eq_true rfl) ?_
  have hS0 : mS M (mR T 57 (M.1 52)) := mS_R2 hS (by decide)
  have hg0 : g99 (M.1 52) := hg
  refine r_iconst C dX7_isEnough_11 ?_
  refine r_istore_n C dX7_isEnough_12 3 rfl (by decide) rfl ?_
  dsimp only [List.set, Nat.reduceAdd]
  refine r_iload_n C rfl dX7_isEnough_13 ?_
  refine r_iload_n C rfl dX7_isEnough_14 ?_
  refine r_icmp_ge C (tgt := 38) dX7_isEnough_15 rfl (by first | assumption | exact rgm (by omega) (by omega)) (by first | assumption | exact rgm (by omega) (by omega)) (fun h15 => absurd h15 (by decide)) (fun h15 => ?_)
  refine r_aload_n C rfl dX7_isEnough_18 ?_
  refine r_aload_n C rfl dX7_isEnough_19 ?_
  refine r_getr C dX7_isEnough_20 fl_X7_34 ly_48 rfl ?_
  refine r_aload_n C rfl dX7_isEnough_23 ?_
  refine r_getr C dX7_isEnough_24 fl_X7_37 ly_48 rfl ?_
  refine r_iload_n C rfl dX7_isEnough_27 ?_
  refine r_iald C dX7_isEnough_28 ly_58 (k := 0) rfl (by decide) ?_
  rw [mR_ne (show (58 : Nat) ≠ 57 by decide), ea]
  refine r_cVv C dX7_isEnough_29 vw_X7_209 (c_slightW (M := M) (g := (M.1 52)) (q := ((a : Nat) : Int)) hS0 (by rw [mR_eq]) (by omega) (by omega) hrw hg0) (by decide) rfl ly_48 rfl rfl (Nat.le_of_ble_eq_true rfl) ?_
  rw [mR_mR]
  have hg1 := sl1_99 hrw (q := ((a : Nat) : Int)) (by omega) hg0
  have hS1 : mS M (mR T 57 (sl1 (grM M) ((a : Nat) : Int) (M.1 52))) := mS_R2 hS (by decide)
  refine r_iinc C dX7_isEnough_32 rfl (by decide) rfl ?_
  dsimp only [List.set, Nat.reduceAdd]
  refine r_goto C (tgt := 13) dX7_isEnough_35 rfl ?_
  refine r_iload_n C rfl dX7_isEnough_13 ?_
  refine r_iload_n C rfl dX7_isEnough_14 ?_
  refine r_icmp_ge C (tgt := 38) dX7_isEnough_15 rfl (by first | assumption | exact rgm (by omega) (by omega)) (by first | assumption | exact rgm (by omega) (by omega)) (fun h15 => ?_) (fun h15 => absurd h15 (by decide))
  refine r_iload_n C rfl dX7_isEnough_38 ?_
  refine r_aload_n C rfl dX7_isEnough_39 ?_
  refine r_aload_n C rfl dX7_isEnough_40 ?_
  refine r_getr C dX7_isEnough_41 fl_X7_34 ly_48 rfl ?_
  refine r_iconst C dX7_isEnough_44 ?_
  refine r_cVz C dX7_isEnough_45 vw_X7_162 (c_wouldW1 (M := M) (g := (sl1 (grM M) ((a : Nat) : Int) (M.1 52))) hS1 (by rw [mR_eq]) hv hf hg1) (by decide) rfl ly_48 rfl rfl (Nat.le_of_ble_eq_true rfl) ?_
  refine r_iconst C dX7_isEnough_48 ?_
  refine r_ixor C (v := -1 - (WDc (M.1 53) (FM M (sl1 (grM M) ((a : Nat) : Int) (M.1 52)) true) (M.1 48 4).toNat)) (zb_not hWb.1 hWb.2) dX7_isEnough_49 ?_
  refine r_iand C (v := an q (WDc (M.1 53) (FM M (sl1 (grM M) ((a : Nat) : Int) (M.1 52)) true) (M.1 48 4).toNat)) (zb_an2 hq.1 hq.2 hWb.1 hWb.2) dX7_isEnough_50 ?_
  refine r_if_ne C (tgt := 58) dX7_isEnough_51 rfl (by first | assumption | exact rgm (by omega) (by omega)) (fun h51 => ?_) (fun h51 => ?_)
  · refine r_iconst C dX7_isEnough_58 ?_
    exact r_zret E dX7_isEnough_59 (by decide) ⟨hS1, by rw [mR_ne (by decide)], Or.inr ⟨rfl, fun h => absurd (show an q (WDc (M.1 53) (FM M (sl1 (grM M) ((a : Nat) : Int) (M.1 52)) true) (M.1 48 4).toNat) = 0 from of_decide_eq_true h) (by omega)⟩⟩
  · refine r_iconst C dX7_isEnough_54 ?_
    refine r_goto C (tgt := 59) dX7_isEnough_55 rfl ?_
    exact r_zret E dX7_isEnough_59 (by decide) ⟨hS1, by rw [mR_ne (by decide)], Or.inl ⟨rfl, decide_eq_true (show an q (WDc (M.1 53) (FM M (sl1 (grM M) ((a : Nat) : Int) (M.1 52)) true) (M.1 48 4).toNat) = 0 by omega)⟩⟩
set_option maxRecDepth 10000 in
set_option maxHeartbeats 1000000 in
theorem c_isEnough2 {T M : Mm_} (hS : mS M T) {q : Int} (hq : 0 ≤ q ∧ q < 64) {a : Nat} {b : Nat} (ea : T.1 58 0 = ((a : Nat) : Int)) (la : (a : Int) < 3 * M.1 48 3) (eb : T.1 58 1 = ((b : Nat) : Int)) (lb : (b : Int) < 3 * M.1 48 3) (hM : oM M) : Cn 3 kX7_isEnough [.ref 48, .int (zI q), .int (zI 2)] T (fun r U => mS M U ∧ U.1 58 = T.1 58 ∧ ((r = some (.int (zI 1)) ∧ EnM M q (apF (grM M) [a, b] (M.1 52)) = true) ∨ (r = some (.int (zI 0)) ∧ ¬ EnM M q (apF (grM M) [a, b] (M.1 52)) = true))) := by
  obtain ⟨hpg, hv, hrw, hf, hg, hse, hbo, hst, hni⟩ := hM
  have hv0 : (M.1 48 3 = 0 ∧ M.1 48 4 = 0) ∨ (2 ≤ M.1 48 3 ∧ M.1 48 3 ≤ 4 ∧ 2 ≤ M.1 48 4 ∧ M.1 48 4 ≤ 6) := hv
  have hWb := WDc_b (M.1 53) (FM M (sl1 (grM M) ((b : Nat) : Int) (sl1 (grM M) ((a : Nat) : Int) (M.1 52))) true) (M.1 48 4).toNat (by omega)
  have hab := an_b hq.1 hq.2 hWb.1 hWb.2
  refine Cn.of rfl (Nat.le_of_ble_eq_true rfl) (fun G C E => ?_)
  show G 0 [.ref 48, .int (zI q), .int (zI 2), .null] [] T
  refine r_aload_n C rfl dX7_isEnough_0 ?_
  refine r_getr C dX7_isEnough_1 fl_X7_19 ly_48 rfl ?_
  refine r_aload_n C rfl dX7_isEnough_4 ?_
  refine r_getr C dX7_isEnough_5 fl_X7_34 ly_48 rfl ?_
  refine r_cSv C dX7_isEnough_8 sw_X7_205 (c_copyW hS) (by decide) rfl rfl (Nat.le_of_ble_eq_true rfl) ?_
  have hS0 : mS M (mR T 57 (M.1 52)) := mS_R2 hS (by decide)
  have hg0 : g99 (M.1 52) := hg
  refine r_iconst C dX7_isEnough_11 ?_
  refine r_istore_n C dX7_isEnough_12 3 rfl (by decide) rfl ?_
  dsimp only [List.set, Nat.reduceAdd]
  refine r_iload_n C rfl dX7_isEnough_13 ?_
  refine r_iload_n C rfl dX7_isEnough_14 ?_
  refine r_icmp_ge C (tgt := 38) dX7_isEnough_15 rfl (by first | assumption | exact rgm (by omega) (by omega)) (by first | assumption | exact rgm (by omega) (by omega)) (fun h15 => absurd h15 (by decide)) (fun h15 => ?_)
  refine r_aload_n C rfl dX7_isEnough_18 ?_
  refine r_aload_n C rfl dX7_isEnough_19 ?_
  refine r_getr C dX7_isEnough_20 fl_X7_34 ly_48 rfl ?_
  refine r_aload_n C rfl dX7_isEnough_23 ?_
  refine r_getr C dX7_isEnough_24 fl_X7_37 ly_48 rfl ?_
  refine r_iload_n C rfl dX7_isEnough_27 ?_
  refine r_iald C dX7_isEnough_28 ly_58 (k := 0) rfl (by decide) ?_
  rw [mR_ne (show (58 : Nat) ≠ 57 by decide), ea]
  refine r_cVv C dX7_isEnough_29 vw_X7_209 (c_slightW (M := M) (g := (M.1 52)) (q := ((a : Nat) : Int)) hS0 (by rw [mR_eq]) (by omega) (by omega) hrw hg0) (by decide) rfl ly_48 rfl rfl (Nat.le_of_ble_eq_true rfl) ?_
  rw [mR_mR]
  have hg1 := sl1_99 hrw (q := ((a : Nat) : Int)) (by omega) hg0
  have hS1 : mS M (mR T 57 (sl1 (grM M) ((a : Nat) : Int) (M.1 52))) := mS_R2 hS (by decide)
  refine r_iinc C dX7_isEnough_32 rfl (by decide) rfl ?_
  dsimp only [List.set, Nat.reduceAdd]
  refine r_goto C (tgt := 13) dX7_isEnough_35 rfl ?_
  refine r_iload_n C rfl dX7_isEnough_13 ?_
  refine r_iload_n C rfl dX7_isEnough_14 ?_
  refine r_icmp_ge C (tgt := 38) dX7_isEnough_15 rfl (by first | assumption | exact rgm (by omega) (by omega)) (by first | assumption | exact rgm (by omega) (by omega)) (fun h15 => absurd h15 (by decide)) (fun h15 => ?_)
  refine r_aload_n C rfl dX7_isEnough_18 ?_
  refine r_aload_n C rfl dX7_isEnough_19 ?_
  refine r_getr C dX7_isEnough_20 fl_X7_34 ly_48 rfl ?_
  refine r_aload_n C rfl dX7_isEnough_23 ?_
  refine r_getr C dX7_isEnough_24 fl_X7_37 ly_48 rfl ?_
  refine r_iload_n C rfl dX7_isEnough_27 ?_
  refine r_iald C dX7_isEnough_28 ly_58 (k := 1) rfl (by decide) ?_
  rw [mR_ne (show (58 : Nat) ≠ 57 by decide), eb]
  refine r_cVv C dX7_isEnough_29 vw_X7_209 (c_slightW (M := M) (g := (sl1 (grM M) ((a : Nat) : Int) (M.1 52))) (q := ((b : Nat) : Int)) hS1 (by rw [mR_eq]) (by omega) (by omega) hrw hg1) (by decide) rfl ly_48 rfl rfl (Nat.le_of_ble_eq_true rfl) ?_
  rw [mR_mR]
  have hg2 := sl1_99 hrw (q := ((b : Nat) : Int)) (by omega) hg1
  have hS2 : mS M (mR T 57 (sl1 (grM M) ((b : Nat) : Int) (sl1 (grM M) ((a : Nat) : Int) (M.1 52)))) := mS_R2 hS (by decide)
  refine r_iinc C dX7_isEnough_32 rfl (by decide) rfl ?_
  dsimp only [List.set, Nat.reduceAdd]
  refine r_goto C (tgt := 13) dX7_isEnough_35 rfl ?_
  refine r_iload_n C rfl dX7_isEnough_13 ?_
  refine r_iload_n C rfl dX7_isEnough_14 ?_
  refine r_icmp_ge C (tgt := 38) dX7_isEnough_15 rfl (by first | assumption | exact rgm (by omega) (by omega)) (by first | assumption | exact rgm (by omega) (by omega)) (fun h15 => ?_) (fun h15 => absurd h15 (by decide))
  refine r_iload_n C rfl dX7_isEnough_38 ?_
  refine r_aload_n C rfl dX7_isEnough_39 ?_
  refine r_aload_n C rfl dX7_isEnough_40 ?_
  refine r_getr C dX7_isEnough_41 fl_X7_34 ly_48 rfl ?_
  refine r_iconst C dX7_isEnough_44 ?_
  refine r_cVz C dX7_isEnough_45 vw_X7_162 (c_wouldW1 (M := M) (g := (sl1 (grM M) ((b : Nat) : Int) (sl1 (grM M) ((a : Nat) : Int) (M.1 52)))) hS2 (by rw [mR_eq]) hv hf hg2) (by decide) rfl ly_48 rfl rfl (Nat.le_of_ble_eq_true rfl) ?_
  refine r_iconst C dX7_isEnough_48 ?_
  refine r_ixor C (v := -1 - (WDc (M.1 53) (FM M (sl1 (grM M) ((b : Nat) : Int) (sl1 (grM M) ((a : Nat) : Int) (M.1 52))) true) (M.1 48 4).toNat)) (zb_not hWb.1 hWb.2) dX7_isEnough_49 ?_
  refine r_iand C (v := an q (WDc (M.1 53) (FM M (sl1 (grM M) ((b : Nat) : Int) (sl1 (grM M) ((a : Nat) : Int) (M.1 52))) true) (M.1 48 4).toNat)) (zb_an2 hq.1 hq.2 hWb.1 hWb.2) dX7_isEnough_50 ?_
  refine r_if_ne C (tgt := 58) dX7_isEnough_51 rfl (by first | assumption | exact rgm (by omega) (by omega)) (fun h51 => ?_) (fun h51 => ?_)
  · refine r_iconst C dX7_isEnough_58 ?_
    exact r_zret E dX7_isEnough_59 (by decide) ⟨hS2, by rw [mR_ne (by decide)], Or.inr ⟨rfl, fun h => absurd (show an q (WDc (M.1 53) (FM M (sl1 (grM M) ((b : Nat) : Int) (sl1 (grM M) ((a : Nat) : Int) (M.1 52))) true) (M.1 48 4).toNat) = 0 from of_decide_eq_true h) (by omega)⟩⟩
  · refine r_iconst C dX7_isEnough_54 ?_
    refine r_goto C (tgt := 59) dX7_isEnough_55 rfl ?_
    exact r_zret E dX7_isEnough_59 (by decide) ⟨hS2, by rw [mR_ne (by decide)], Or.inl ⟨rfl, decide_eq_true (show an q (WDc (M.1 53) (FM M (sl1 (grM M) ((b : Nat) : Int) (sl1 (grM M) ((a : Nat) : Int) (M.1 52))) true) (M.1 48 4).toNat) = 0 by omega)⟩⟩
set_option maxRecDepth 10000 in
set_option maxHeartbeats 1000000 in
theorem c_isEnough3 {T M : Mm_} (hS : mS M T) {q : Int} (hq : 0 ≤ q ∧ q < 64) {a : Nat} {b : Nat} {c : Nat} (ea : T.1 58 0 = ((a : Nat) : Int)) (la : (a : Int) < 3 * M.1 48 3) (eb : T.1 58 1 = ((b : Nat) : Int)) (lb : (b : Int) < 3 * M.1 48 3) (ec : T.1 58 2 = ((c : Nat) : Int)) (lc : (c : Int) < 3 * M.1 48 3) (hM : oM M) : Cn 3 kX7_isEnough [.ref 48, .int (zI q), .int (zI 3)] T (fun r U => mS M U ∧ U.1 58 = T.1 58 ∧ ((r = some (.int (zI 1)) ∧ EnM M q (apF (grM M) [a, b, c] (M.1 52)) = true) ∨ (r = some (.int (zI 0)) ∧ ¬ EnM M q (apF (grM M) [a, b, c] (M.1 52)) = true))) := by
  obtain ⟨hpg, hv, hrw, hf, hg, hse, hbo, hst, hni⟩ := hM
  have hv0 : (M.1 48 3 = 0 ∧ M.1 48 4 = 0) ∨ (2 ≤ M.1 48 3 ∧ M.1 48 3 ≤ 4 ∧ 2 ≤ M.1 48 4 ∧ M.1 48 4 ≤ 6) := hv
  have hWb := WDc_b (M.1 53) (FM M (sl1 (grM M) ((c : Nat) : Int) (sl1 (grM M) ((b : Nat) : Int) (sl1 (grM M) ((a : Nat) : Int) (M.1 52)))) true) (M.1 48 4).toNat (by omega)
  have hab := an_b hq.1 hq.2 hWb.1 hWb.2
  refine Cn.of rfl (Nat.le_of_ble_eq_true rfl) (fun G C E => ?_)
  show G 0 [.ref 48, .int (zI q), .int (zI 3), .null] [] T
  refine r_aload_n C rfl dX7_isEnough_0 ?_
  refine r_getr C dX7_isEnough_1 fl_X7_19 ly_48 rfl ?_
  refine r_aload_n C rfl dX7_isEnough_4 ?_
  refine r_getr C dX7_isEnough_5 fl_X7_34 ly_48 rfl ?_
  refine r_cSv C dX7_isEnough_8 sw_X7_205 (c_copyW hS) (by decide) rfl rfl (Nat.le_of_ble_eq_true rfl) ?_
  have hS0 : mS M (mR T 57 (M.1 52)) := mS_R2 hS (by decide)
  have hg0 : g99 (M.1 52) := hg
  refine r_iconst C dX7_isEnough_11 ?_
  refine r_istore_n C dX7_isEnough_12 3 rfl (by decide) rfl ?_
  dsimp only [List.set, Nat.reduceAdd]
  refine r_iload_n C rfl dX7_isEnough_13 ?_
  refine r_iload_n C rfl dX7_isEnough_14 ?_
  refine r_icmp_ge C (tgt := 38) dX7_isEnough_15 rfl (by first | assumption | exact rgm (by omega) (by omega)) (by first | assumption | exact rgm (by omega) (by omega)) (fun h15 => absurd h15 (by decide)) (fun h15 => ?_)
  refine r_aload_n C rfl dX7_isEnough_18 ?_
  refine r_aload_n C rfl dX7_isEnough_19 ?_
  refine r_getr C dX7_isEnough_20 fl_X7_34 ly_48 rfl ?_
  refine r_aload_n C rfl dX7_isEnough_23 ?_
  refine r_getr C dX7_isEnough_24 fl_X7_37 ly_48 rfl ?_
  refine r_iload_n C rfl dX7_isEnough_27 ?_
  refine r_iald C dX7_isEnough_28 ly_58 (k := 0) rfl (by decide) ?_
  rw [mR_ne (show (58 : Nat) ≠ 57 by decide), ea]
  refine r_cVv C dX7_isEnough_29 vw_X7_209 (c_slightW (M := M) (g := (M.1 52)) (q := ((a : Nat) : Int)) hS0 (by rw [mR_eq]) (by omega) (by omega) hrw hg0) (by decide) rfl ly_48 rfl rfl (Nat.le_of_ble_eq_true rfl) ?_
  rw [mR_mR]
  have hg1 := sl1_99 hrw (q := ((a : Nat) : Int)) (by omega) hg0
  have hS1 : mS M (mR T 57 (sl1 (grM M) ((a : Nat) : Int) (M.1 52))) := mS_R2 hS (by decide)
  refine r_iinc C dX7_isEnough_32 rfl (by decide) rfl ?_
  dsimp only [List.set, Nat.reduceAdd]
  refine r_goto C (tgt := 13) dX7_isEnough_35 rfl ?_
  refine r_iload_n C rfl dX7_isEnough_13 ?_
  refine r_iload_n C rfl dX7_isEnough_14 ?_
  refine r_icmp_ge C (tgt := 38) dX7_isEnough_15 rfl (by first | assumption | exact rgm (by omega) (by omega)) (by first | assumption | exact rgm (by omega) (by omega)) (fun h15 => absurd h15 (by decide)) (fun h15 => ?_)
  refine r_aload_n C rfl dX7_isEnough_18 ?_
  refine r_aload_n C rfl dX7_isEnough_19 ?_
  refine r_getr C dX7_isEnough_20 fl_X7_34 ly_48 rfl ?_
  refine r_aload_n C rfl dX7_isEnough_23 ?_
  refine r_getr C dX7_isEnough_24 fl_X7_37 ly_48 rfl ?_
  refine r_iload_n C rfl dX7_isEnough_27 ?_
  refine r_iald C dX7_isEnough_28 ly_58 (k := 1) rfl (by decide) ?_
  rw [mR_ne (show (58 : Nat) ≠ 57 by decide), eb]
  refine r_cVv C dX7_isEnough_29 vw_X7_209 (c_slightW (M := M) (g := (sl1 (grM M) ((a : Nat) : Int) (M.1 52))) (q := ((b : Nat) : Int)) hS1 (by rw [mR_eq]) (by omega) (by omega) hrw hg1) (by decide) rfl ly_48 rfl rfl (Nat.le_of_ble_eq_true rfl) ?_
  rw [mR_mR]
  have hg2 := sl1_99 hrw (q := ((b : Nat) : Int)) (by omega) hg1
  have hS2 : mS M (mR T 57 (sl1 (grM M) ((b : Nat) : Int) (sl1 (grM M) ((a : Nat) : Int) (M.1 52)))) := mS_R2 hS (by decide)
  refine r_iinc C dX7_isEnough_32 rfl (by decide) rfl ?_
  dsimp only [List.set, Nat.reduceAdd]
  refine r_goto C (tgt := 13) dX7_isEnough_35 rfl ?_
  refine r_iload_n C rfl dX7_isEnough_13 ?_
  refine r_iload_n C rfl dX7_isEnough_14 ?_
  refine r_icmp_ge C (tgt := 38) dX7_isEnough_15 rfl (by first | assumption | exact rgm (by omega) (by omega)) (by first | assumption | exact rgm (by omega) (by omega)) (fun h15 => absurd h15 (by decide)) (fun h15 => ?_)
  refine r_aload_n C rfl dX7_isEnough_18 ?_
  refine r_aload_n C rfl dX7_isEnough_19 ?_
  refine r_getr C dX7_isEnough_20 fl_X7_34 ly_48 rfl ?_
  refine r_aload_n C rfl dX7_isEnough_23 ?_
  refine r_getr C dX7_isEnough_24 fl_X7_37 ly_48 rfl ?_
  refine r_iload_n C rfl dX7_isEnough_27 ?_
  refine r_iald C dX7_isEnough_28 ly_58 (k := 2) rfl (by decide) ?_
  rw [mR_ne (show (58 : Nat) ≠ 57 by decide), ec]
  refine r_cVv C dX7_isEnough_29 vw_X7_209 (c_slightW (M := M) (g := (sl1 (grM M) ((b : Nat) : Int) (sl1 (grM M) ((a : Nat) : Int) (M.1 52)))) (q := ((c : Nat) : Int)) hS2 (by rw [mR_eq]) (by omega) (by omega) hrw hg2) (by decide) rfl ly_48 rfl rfl (Nat.le_of_ble_eq_true rfl) ?_
  rw [mR_mR]
  have hg3 := sl1_99 hrw (q := ((c : Nat) : Int)) (by omega) hg2
  have hS3 : mS M (mR T 57 (sl1 (grM M) ((c : Nat) : Int) (sl1 (grM M) ((b : Nat) : Int) (sl1 (grM M) ((a : Nat) : Int) (M.1 52))))) := mS_R2 hS (by decide)
  refine r_iinc C dX7_isEnough_32 rfl (by decide) rfl ?_
  dsimp only [List.set, Nat.reduceAdd]
  refine r_goto C (tgt := 13) dX7_isEnough_35 rfl ?_
  refine r_iload_n C rfl dX7_isEnough_13 ?_
  refine r_iload_n C rfl dX7_isEnough_14 ?_
  refine r_icmp_ge C (tgt := 38) dX7_isEnough_15 rfl (by first | assumption | exact rgm (by omega) (by omega)) (by first | assumption | exact rgm (by omega) (by omega)) (fun h15 => ?_) (fun h15 => absurd h15 (by decide))
  refine r_iload_n C rfl dX7_isEnough_38 ?_
  refine r_aload_n C rfl dX7_isEnough_39 ?_
  refine r_aload_n C rfl dX7_isEnough_40 ?_
  refine r_getr C dX7_isEnough_41 fl_X7_34 ly_48 rfl ?_
  refine r_iconst C dX7_isEnough_44 ?_
  refine r_cVz C dX7_isEnough_45 vw_X7_162 (c_wouldW1 (M := M) (g := (sl1 (grM M) ((c : Nat) : Int) (sl1 (grM M) ((b : Nat) : Int) (sl1 (grM M) ((a : Nat) : Int) (M.1 52))))) hS3 (by rw [mR_eq]) hv hf hg3) (by decide) rfl ly_48 rfl rfl (Nat.le_of_ble_eq_true rfl) ?_
  refine r_iconst C dX7_isEnough_48 ?_
  refine r_ixor C (v := -1 - (WDc (M.1 53) (FM M (sl1 (grM M) ((c : Nat) : Int) (sl1 (grM M) ((b : Nat) : Int) (sl1 (grM M) ((a : Nat) : Int) (M.1 52)))) true) (M.1 48 4).toNat)) (zb_not hWb.1 hWb.2) dX7_isEnough_49 ?_
  refine r_iand C (v := an q (WDc (M.1 53) (FM M (sl1 (grM M) ((c : Nat) : Int) (sl1 (grM M) ((b : Nat) : Int) (sl1 (grM M) ((a : Nat) : Int) (M.1 52)))) true) (M.1 48 4).toNat)) (zb_an2 hq.1 hq.2 hWb.1 hWb.2) dX7_isEnough_50 ?_
  refine r_if_ne C (tgt := 58) dX7_isEnough_51 rfl (by first | assumption | exact rgm (by omega) (by omega)) (fun h51 => ?_) (fun h51 => ?_)
  · refine r_iconst C dX7_isEnough_58 ?_
    exact r_zret E dX7_isEnough_59 (by decide) ⟨hS3, by rw [mR_ne (by decide)], Or.inr ⟨rfl, fun h => absurd (show an q (WDc (M.1 53) (FM M (sl1 (grM M) ((c : Nat) : Int) (sl1 (grM M) ((b : Nat) : Int) (sl1 (grM M) ((a : Nat) : Int) (M.1 52)))) true) (M.1 48 4).toNat) = 0 from of_decide_eq_true h) (by omega)⟩⟩
  · refine r_iconst C dX7_isEnough_54 ?_
    refine r_goto C (tgt := 59) dX7_isEnough_55 rfl ?_
    exact r_zret E dX7_isEnough_59 (by decide) ⟨hS3, by rw [mR_ne (by decide)], Or.inl ⟨rfl, decide_eq_true (show an q (WDc (M.1 53) (FM M (sl1 (grM M) ((c : Nat) : Int) (sl1 (grM M) ((b : Nat) : Int) (sl1 (grM M) ((a : Nat) : Int) (M.1 52)))) true) (M.1 48 4).toNat) = 0 by omega)⟩⟩
set_option maxRecDepth 10000 in
set_option maxHeartbeats 1000000 in
theorem c_nextRow0 {T M : Mm_} (hS : mS M T) {N : Nat} (hN : 3 * M.1 48 3 = N) (hN0 : 0 < M.1 48 3)   (hM : oM M) : Cn 0 kX7_nextRow [.ref 48, .int (zI 0)] T (fun r U => mS M U ∧ ((r = some (.int (zI 1)) ∧ ∃ l, nxF N [] = some l ∧ rowIs U l) ∨ (r = some (.int (zI 0)) ∧ nxF N [] = none))) := by
  obtain ⟨hpg, hv, hrw, hf, hg, hse, hbo, hst, hni⟩ := hM
  have hv0 : (M.1 48 3 = 0 ∧ M.1 48 4 = 0) ∨ (2 ≤ M.1 48 3 ∧ M.1 48 3 ≤ 4 ∧ 2 ≤ M.1 48 4 ∧ M.1 48 4 ≤ 6) := hv
  have e3 : T.1 48 3 = M.1 48 3 := hS.2.1 3 (by omega) (by omega)
  refine Cn.of rfl (Nat.le_of_ble_eq_true rfl) (fun G C E => ?_)
  show G 0 [.ref 48, .int (zI 0), .null, .null] [] T
  refine r_iload_n C rfl dX7_nextRow_0 ?_
  refine r_iconst C dX7_nextRow_1 ?_
  refine r_isub C dX7_nextRow_2 ?_
  refine r_istore_n C dX7_nextRow_3 2 rfl (by decide) rfl ?_
  dsimp only [List.set, Nat.reduceAdd]
  refine r_iload_n C rfl dX7_nextRow_4 ?_
  refine r_if_lt C (tgt := 31) dX7_nextRow_5 rfl (by first | assumption | exact rgm (by omega) (by omega)) (fun h5 => ?_) (fun h5 => absurd h5 (by decide))
  refine r_iload_n C rfl dX7_nextRow_31 ?_
  refine r_if_ge C (tgt := 37) dX7_nextRow_32 rfl (by first | assumption | exact rgm (by omega) (by omega)) (fun h32 => absurd h32 (by decide)) (fun h32 => ?_)
  refine r_iconst C dX7_nextRow_35 ?_
  exact r_zret E dX7_nextRow_36 (by decide) ⟨hS, Or.inr ⟨rfl, rfl⟩⟩
set_option maxRecDepth 10000 in
set_option maxHeartbeats 1000000 in
theorem c_nextRow1 {T M : Mm_} (hS : mS M T) {N : Nat} (hN : 3 * M.1 48 3 = N) (hN0 : 0 < M.1 48 3) {a : Nat} (ea : T.1 58 0 = ((a : Nat) : Int)) (la : (a : Int) < 3 * M.1 48 3) (hM : oM M) : Cn 0 kX7_nextRow [.ref 48, .int (zI 1)] T (fun r U => mS M U ∧ ((r = some (.int (zI 1)) ∧ ∃ l, nxF N [a] = some l ∧ rowIs U l) ∨ (r = some (.int (zI 0)) ∧ nxF N [a] = none))) := by
  obtain ⟨hpg, hv, hrw, hf, hg, hse, hbo, hst, hni⟩ := hM
  have hv0 : (M.1 48 3 = 0 ∧ M.1 48 4 = 0) ∨ (2 ≤ M.1 48 3 ∧ M.1 48 3 ≤ 4 ∧ 2 ≤ M.1 48 4 ∧ M.1 48 4 ≤ 6) := hv
  have e3 : T.1 48 3 = M.1 48 3 := hS.2.1 3 (by omega) (by omega)
  refine Cn.of rfl (Nat.le_of_ble_eq_true rfl) (fun G C E => ?_)
  show G 0 [.ref 48, .int (zI 1), .null, .null] [] T
  refine r_iload_n C rfl dX7_nextRow_0 ?_
  refine r_iconst C dX7_nextRow_1 ?_
  refine r_isub C dX7_nextRow_2 ?_
  refine r_istore_n C dX7_nextRow_3 2 rfl (by decide) rfl ?_
  dsimp only [List.set, Nat.reduceAdd]
  refine r_iload_n C rfl dX7_nextRow_4 ?_
  refine r_if_lt C (tgt := 31) dX7_nextRow_5 rfl (by first | assumption | exact rgm (by omega) (by omega)) (fun h5 => absurd h5 (by decide)) (fun h5 => ?_)
  refine r_aload_n C rfl dX7_nextRow_8 ?_
  refine r_getr C dX7_nextRow_9 fl_X7_37 ly_48 rfl ?_
  refine r_iload_n C rfl dX7_nextRow_12 ?_
  refine r_iald C dX7_nextRow_13 ly_58 (k := 0) rfl (by decide) ?_
  refine r_iconst C dX7_nextRow_14 ?_
  refine r_aload_n C rfl dX7_nextRow_15 ?_
  refine r_geti C dX7_nextRow_16 fl_X7_109 ly_48 rfl ?_
  refine r_imul C dX7_nextRow_19 ?_
  refine r_iconst C dX7_nextRow_20 ?_
  refine r_isub C dX7_nextRow_21 ?_
  refine r_icmp_ne C (tgt := 31) dX7_nextRow_22 rfl (by first | assumption | exact rgm (by omega) (by omega)) (by first | assumption | exact rgm (by omega) (by omega)) (fun h22 => ?_) (fun h22 => ?_)
  · refine r_iload_n C rfl dX7_nextRow_31 ?_
    refine r_if_ge C (tgt := 37) dX7_nextRow_32 rfl (by first | assumption | exact rgm (by omega) (by omega)) (fun h32 => ?_) (fun h32 => absurd h32 (by decide))
    refine r_aload_n C rfl dX7_nextRow_37 ?_
    refine r_getr C dX7_nextRow_38 fl_X7_37 ly_48 rfl ?_
    refine r_iload_n C rfl dX7_nextRow_41 ?_
    refine r_dup2 C rfl rfl dX7_nextRow_42 ?_
    refine r_iald C dX7_nextRow_43 ly_58 (k := 0) rfl (by decide) ?_
    refine r_iconst C dX7_nextRow_44 ?_
    refine r_iadd C dX7_nextRow_45 ?_
    refine r_iast C dX7_nextRow_46 ly_58 (k := 0) rfl (by decide) ?_
    refine r_iload_n C rfl dX7_nextRow_47 ?_
    refine r_iconst C dX7_nextRow_48 ?_
    refine r_iadd C dX7_nextRow_49 ?_
    refine r_istore_n C dX7_nextRow_50 3 rfl (by decide) rfl ?_
    dsimp only [List.set, Nat.reduceAdd]
    refine r_iload_n C rfl dX7_nextRow_51 ?_
    refine r_iload_n C rfl dX7_nextRow_52 ?_
    refine r_icmp_ge C (tgt := 74) dX7_nextRow_53 rfl (by first | assumption | exact rgm (by omega) (by omega)) (by first | assumption | exact rgm (by omega) (by omega)) (fun h53 => ?_) (fun h53 => absurd h53 (by decide))
    refine r_iconst C dX7_nextRow_74 ?_
    exact r_zret E dX7_nextRow_75 (by decide) ⟨(mS_tr hS (mS_U (by decide))), Or.inl ⟨rfl, [a + 1], by simp only [nxF]; simp only [if_pos (show a + 1 < N by omega)]; rfl, fun i hi => by
      have hi2 : i < 1 := hi
      rcases (show i = 0 by omega) with rfl <;> simp [mU, ea]⟩⟩
  · refine r_iinc C dX7_nextRow_25 rfl (by decide) rfl ?_
    dsimp only [List.set, Nat.reduceAdd]
    refine r_goto C (tgt := 4) dX7_nextRow_28 rfl ?_
    refine r_iload_n C rfl dX7_nextRow_4 ?_
    refine r_if_lt C (tgt := 31) dX7_nextRow_5 rfl (by first | assumption | exact rgm (by omega) (by omega)) (fun h5 => ?_) (fun h5 => absurd h5 (by decide))
    refine r_iload_n C rfl dX7_nextRow_31 ?_
    refine r_if_ge C (tgt := 37) dX7_nextRow_32 rfl (by first | assumption | exact rgm (by omega) (by omega)) (fun h32 => absurd h32 (by decide)) (fun h32 => ?_)
    refine r_iconst C dX7_nextRow_35 ?_
    exact r_zret E dX7_nextRow_36 (by decide) ⟨hS, Or.inr ⟨rfl, by simp only [nxF]; simp only [if_neg (show ¬ a + 1 < N by omega)]⟩⟩
set_option maxRecDepth 10000 in
set_option maxHeartbeats 1000000 in
theorem c_nextRow2 {T M : Mm_} (hS : mS M T) {N : Nat} (hN : 3 * M.1 48 3 = N) (hN0 : 0 < M.1 48 3) {a : Nat} {b : Nat} (ea : T.1 58 0 = ((a : Nat) : Int)) (la : (a : Int) < 3 * M.1 48 3) (eb : T.1 58 1 = ((b : Nat) : Int)) (lb : (b : Int) < 3 * M.1 48 3) (hM : oM M) : Cn 0 kX7_nextRow [.ref 48, .int (zI 2)] T (fun r U => mS M U ∧ ((r = some (.int (zI 1)) ∧ ∃ l, nxF N [a, b] = some l ∧ rowIs U l) ∨ (r = some (.int (zI 0)) ∧ nxF N [a, b] = none))) := by
  obtain ⟨hpg, hv, hrw, hf, hg, hse, hbo, hst, hni⟩ := hM
  have hv0 : (M.1 48 3 = 0 ∧ M.1 48 4 = 0) ∨ (2 ≤ M.1 48 3 ∧ M.1 48 3 ≤ 4 ∧ 2 ≤ M.1 48 4 ∧ M.1 48 4 ≤ 6) := hv
  have e3 : T.1 48 3 = M.1 48 3 := hS.2.1 3 (by omega) (by omega)
  refine Cn.of rfl (Nat.le_of_ble_eq_true rfl) (fun G C E => ?_)
  show G 0 [.ref 48, .int (zI 2), .null, .null] [] T
  refine r_iload_n C rfl dX7_nextRow_0 ?_
  refine r_iconst C dX7_nextRow_1 ?_
  refine r_isub C dX7_nextRow_2 ?_
  refine r_istore_n C dX7_nextRow_3 2 rfl (by decide) rfl ?_
  dsimp only [List.set, Nat.reduceAdd]
  refine r_iload_n C rfl dX7_nextRow_4 ?_
  refine r_if_lt C (tgt := 31) dX7_nextRow_5 rfl (by first | assumption | exact rgm (by omega) (by omega)) (fun h5 => absurd h5 (by decide)) (fun h5 => ?_)
  refine r_aload_n C rfl dX7_nextRow_8 ?_
  refine r_getr C dX7_nextRow_9 fl_X7_37 ly_48 rfl ?_
  refine r_iload_n C rfl dX7_nextRow_12 ?_
  refine r_iald C dX7_nextRow_13 ly_58 (k := 1) rfl (by decide) ?_
  refine r_iconst C dX7_nextRow_14 ?_
  refine r_aload_n C rfl dX7_nextRow_15 ?_
  refine r_geti C dX7_nextRow_16 fl_X7_109 ly_48 rfl ?_
  refine r_imul C dX7_nextRow_19 ?_
  refine r_iconst C dX7_nextRow_20 ?_
  refine r_isub C dX7_nextRow_21 ?_
  refine r_icmp_ne C (tgt := 31) dX7_nextRow_22 rfl (by first | assumption | exact rgm (by omega) (by omega)) (by first | assumption | exact rgm (by omega) (by omega)) (fun h22 => ?_) (fun h22 => ?_)
  · refine r_iload_n C rfl dX7_nextRow_31 ?_
    refine r_if_ge C (tgt := 37) dX7_nextRow_32 rfl (by first | assumption | exact rgm (by omega) (by omega)) (fun h32 => ?_) (fun h32 => absurd h32 (by decide))
    refine r_aload_n C rfl dX7_nextRow_37 ?_
    refine r_getr C dX7_nextRow_38 fl_X7_37 ly_48 rfl ?_
    refine r_iload_n C rfl dX7_nextRow_41 ?_
    refine r_dup2 C rfl rfl dX7_nextRow_42 ?_
    refine r_iald C dX7_nextRow_43 ly_58 (k := 1) rfl (by decide) ?_
    refine r_iconst C dX7_nextRow_44 ?_
    refine r_iadd C dX7_nextRow_45 ?_
    refine r_iast C dX7_nextRow_46 ly_58 (k := 1) rfl (by decide) ?_
    refine r_iload_n C rfl dX7_nextRow_47 ?_
    refine r_iconst C dX7_nextRow_48 ?_
    refine r_iadd C dX7_nextRow_49 ?_
    refine r_istore_n C dX7_nextRow_50 3 rfl (by decide) rfl ?_
    dsimp only [List.set, Nat.reduceAdd]
    refine r_iload_n C rfl dX7_nextRow_51 ?_
    refine r_iload_n C rfl dX7_nextRow_52 ?_
    refine r_icmp_ge C (tgt := 74) dX7_nextRow_53 rfl (by first | assumption | exact rgm (by omega) (by omega)) (by first | assumption | exact rgm (by omega) (by omega)) (fun h53 => ?_) (fun h53 => absurd h53 (by decide))
    refine r_iconst C dX7_nextRow_74 ?_
    exact r_zret E dX7_nextRow_75 (by decide) ⟨(mS_tr hS (mS_U (by decide))), Or.inl ⟨rfl, [a, b + 1], by simp only [nxF]; simp only [if_pos (show b + 1 < N by omega)]; rfl, fun i hi => by
      have hi2 : i < 2 := hi
      rcases (show i = 0 ∨ i = 1 by omega) with rfl | rfl <;> simp [mU, ea, eb]⟩⟩
  · refine r_iinc C dX7_nextRow_25 rfl (by decide) rfl ?_
    dsimp only [List.set, Nat.reduceAdd]
    refine r_goto C (tgt := 4) dX7_nextRow_28 rfl ?_
    refine r_iload_n C rfl dX7_nextRow_4 ?_
    refine r_if_lt C (tgt := 31) dX7_nextRow_5 rfl (by first | assumption | exact rgm (by omega) (by omega)) (fun h5 => absurd h5 (by decide)) (fun h5 => ?_)
    refine r_aload_n C rfl dX7_nextRow_8 ?_
    refine r_getr C dX7_nextRow_9 fl_X7_37 ly_48 rfl ?_
    refine r_iload_n C rfl dX7_nextRow_12 ?_
    refine r_iald C dX7_nextRow_13 ly_58 (k := 0) rfl (by decide) ?_
    refine r_iconst C dX7_nextRow_14 ?_
    refine r_aload_n C rfl dX7_nextRow_15 ?_
    refine r_geti C dX7_nextRow_16 fl_X7_109 ly_48 rfl ?_
    refine r_imul C dX7_nextRow_19 ?_
    refine r_iconst C dX7_nextRow_20 ?_
    refine r_isub C dX7_nextRow_21 ?_
    refine r_icmp_ne C (tgt := 31) dX7_nextRow_22 rfl (by first | assumption | exact rgm (by omega) (by omega)) (by first | assumption | exact rgm (by omega) (by omega)) (fun h22 => ?_) (fun h22 => ?_)
    · refine r_iload_n C rfl dX7_nextRow_31 ?_
      refine r_if_ge C (tgt := 37) dX7_nextRow_32 rfl (by first | assumption | exact rgm (by omega) (by omega)) (fun h32 => ?_) (fun h32 => absurd h32 (by decide))
      refine r_aload_n C rfl dX7_nextRow_37 ?_
      refine r_getr C dX7_nextRow_38 fl_X7_37 ly_48 rfl ?_
      refine r_iload_n C rfl dX7_nextRow_41 ?_
      refine r_dup2 C rfl rfl dX7_nextRow_42 ?_
      refine r_iald C dX7_nextRow_43 ly_58 (k := 0) rfl (by decide) ?_
      refine r_iconst C dX7_nextRow_44 ?_
      refine r_iadd C dX7_nextRow_45 ?_
      refine r_iast C dX7_nextRow_46 ly_58 (k := 0) rfl (by decide) ?_
      refine r_iload_n C rfl dX7_nextRow_47 ?_
      refine r_iconst C dX7_nextRow_48 ?_
      refine r_iadd C dX7_nextRow_49 ?_
      refine r_istore_n C dX7_nextRow_50 3 rfl (by decide) rfl ?_
      dsimp only [List.set, Nat.reduceAdd]
      refine r_iload_n C rfl dX7_nextRow_51 ?_
      refine r_iload_n C rfl dX7_nextRow_52 ?_
      refine r_icmp_ge C (tgt := 74) dX7_nextRow_53 rfl (by first | assumption | exact rgm (by omega) (by omega)) (by first | assumption | exact rgm (by omega) (by omega)) (fun h53 => absurd h53 (by decide)) (fun h53 => ?_)
      refine r_aload_n C rfl dX7_nextRow_56 ?_
      refine r_getr C dX7_nextRow_57 fl_X7_37 ly_48 rfl ?_
      refine r_iload_n C rfl dX7_nextRow_60 ?_
      refine r_aload_n C rfl dX7_nextRow_61 ?_
      refine r_getr C dX7_nextRow_62 fl_X7_37 ly_48 rfl ?_
      refine r_iload_n C rfl dX7_nextRow_65 ?_
      refine r_iald C dX7_nextRow_66 ly_58 (k := 0) rfl (by decide) ?_
      refine r_iast C dX7_nextRow_67 ly_58 (k := 1) rfl (by decide) ?_
      refine r_iinc C dX7_nextRow_68 rfl (by decide) rfl ?_
      dsimp only [List.set, Nat.reduceAdd]
      refine r_goto C (tgt := 51) dX7_nextRow_71 rfl ?_
      refine r_iload_n C rfl dX7_nextRow_51 ?_
      refine r_iload_n C rfl dX7_nextRow_52 ?_
      refine r_icmp_ge C (tgt := 74) dX7_nextRow_53 rfl (by first | assumption | exact rgm (by omega) (by omega)) (by first | assumption | exact rgm (by omega) (by omega)) (fun h53 => ?_) (fun h53 => absurd h53 (by decide))
      refine r_iconst C dX7_nextRow_74 ?_
      exact r_zret E dX7_nextRow_75 (by decide) ⟨(mS_tr (mS_tr hS (mS_U (by decide))) (mS_U (by decide))), Or.inl ⟨rfl, [a + 1, a + 1], by simp only [nxF]; simp only [if_neg (show ¬ b + 1 < N by omega), if_pos (show a + 1 < N by omega)]; rfl, fun i hi => by
      have hi2 : i < 2 := hi
      rcases (show i = 0 ∨ i = 1 by omega) with rfl | rfl <;> simp [mU, ea, eb]⟩⟩
    · refine r_iinc C dX7_nextRow_25 rfl (by decide) rfl ?_
      dsimp only [List.set, Nat.reduceAdd]
      refine r_goto C (tgt := 4) dX7_nextRow_28 rfl ?_
      refine r_iload_n C rfl dX7_nextRow_4 ?_
      refine r_if_lt C (tgt := 31) dX7_nextRow_5 rfl (by first | assumption | exact rgm (by omega) (by omega)) (fun h5 => ?_) (fun h5 => absurd h5 (by decide))
      refine r_iload_n C rfl dX7_nextRow_31 ?_
      refine r_if_ge C (tgt := 37) dX7_nextRow_32 rfl (by first | assumption | exact rgm (by omega) (by omega)) (fun h32 => absurd h32 (by decide)) (fun h32 => ?_)
      refine r_iconst C dX7_nextRow_35 ?_
      exact r_zret E dX7_nextRow_36 (by decide) ⟨hS, Or.inr ⟨rfl, by simp only [nxF]; simp only [if_neg (show ¬ a + 1 < N by omega), if_neg (show ¬ b + 1 < N by omega)]⟩⟩
set_option maxRecDepth 10000 in
set_option maxHeartbeats 1000000 in
theorem c_nextRow3 {T M : Mm_} (hS : mS M T) {N : Nat} (hN : 3 * M.1 48 3 = N) (hN0 : 0 < M.1 48 3) {a : Nat} {b : Nat} {c : Nat} (ea : T.1 58 0 = ((a : Nat) : Int)) (la : (a : Int) < 3 * M.1 48 3) (eb : T.1 58 1 = ((b : Nat) : Int)) (lb : (b : Int) < 3 * M.1 48 3) (ec : T.1 58 2 = ((c : Nat) : Int)) (lc : (c : Int) < 3 * M.1 48 3) (hM : oM M) : Cn 0 kX7_nextRow [.ref 48, .int (zI 3)] T (fun r U => mS M U ∧ ((r = some (.int (zI 1)) ∧ ∃ l, nxF N [a, b, c] = some l ∧ rowIs U l) ∨ (r = some (.int (zI 0)) ∧ nxF N [a, b, c] = none))) := by
  obtain ⟨hpg, hv, hrw, hf, hg, hse, hbo, hst, hni⟩ := hM
  have hv0 : (M.1 48 3 = 0 ∧ M.1 48 4 = 0) ∨ (2 ≤ M.1 48 3 ∧ M.1 48 3 ≤ 4 ∧ 2 ≤ M.1 48 4 ∧ M.1 48 4 ≤ 6) := hv
  have e3 : T.1 48 3 = M.1 48 3 := hS.2.1 3 (by omega) (by omega)
  refine Cn.of rfl (Nat.le_of_ble_eq_true rfl) (fun G C E => ?_)
  show G 0 [.ref 48, .int (zI 3), .null, .null] [] T
  refine r_iload_n C rfl dX7_nextRow_0 ?_
  refine r_iconst C dX7_nextRow_1 ?_
  refine r_isub C dX7_nextRow_2 ?_
  refine r_istore_n C dX7_nextRow_3 2 rfl (by decide) rfl ?_
  dsimp only [List.set, Nat.reduceAdd]
  refine r_iload_n C rfl dX7_nextRow_4 ?_
  refine r_if_lt C (tgt := 31) dX7_nextRow_5 rfl (by first | assumption | exact rgm (by omega) (by omega)) (fun h5 => absurd h5 (by decide)) (fun h5 => ?_)
  refine r_aload_n C rfl dX7_nextRow_8 ?_
  refine r_getr C dX7_nextRow_9 fl_X7_37 ly_48 rfl ?_
  refine r_iload_n C rfl dX7_nextRow_12 ?_
  refine r_iald C dX7_nextRow_13 ly_58 (k := 2) rfl (by decide) ?_
  refine r_iconst C dX7_nextRow_14 ?_
  refine r_aload_n C rfl dX7_nextRow_15 ?_
  refine r_geti C dX7_nextRow_16 fl_X7_109 ly_48 rfl ?_
  refine r_imul C dX7_nextRow_19 ?_
  refine r_iconst C dX7_nextRow_20 ?_
  refine r_isub C dX7_nextRow_21 ?_
  refine r_icmp_ne C (tgt := 31) dX7_nextRow_22 rfl (by first | assumption | exact rgm (by omega) (by omega)) (by first | assumption | exact rgm (by omega) (by omega)) (fun h22 => ?_) (fun h22 => ?_)
  · refine r_iload_n C rfl dX7_nextRow_31 ?_
    refine r_if_ge C (tgt := 37) dX7_nextRow_32 rfl (by first | assumption | exact rgm (by omega) (by omega)) (fun h32 => ?_) (fun h32 => absurd h32 (by decide))
    refine r_aload_n C rfl dX7_nextRow_37 ?_
    refine r_getr C dX7_nextRow_38 fl_X7_37 ly_48 rfl ?_
    refine r_iload_n C rfl dX7_nextRow_41 ?_
    refine r_dup2 C rfl rfl dX7_nextRow_42 ?_
    refine r_iald C dX7_nextRow_43 ly_58 (k := 2) rfl (by decide) ?_
    refine r_iconst C dX7_nextRow_44 ?_
    refine r_iadd C dX7_nextRow_45 ?_
    refine r_iast C dX7_nextRow_46 ly_58 (k := 2) rfl (by decide) ?_
    refine r_iload_n C rfl dX7_nextRow_47 ?_
    refine r_iconst C dX7_nextRow_48 ?_
    refine r_iadd C dX7_nextRow_49 ?_
    refine r_istore_n C dX7_nextRow_50 3 rfl (by decide) rfl ?_
    dsimp only [List.set, Nat.reduceAdd]
    refine r_iload_n C rfl dX7_nextRow_51 ?_
    refine r_iload_n C rfl dX7_nextRow_52 ?_
    refine r_icmp_ge C (tgt := 74) dX7_nextRow_53 rfl (by first | assumption | exact rgm (by omega) (by omega)) (by first | assumption | exact rgm (by omega) (by omega)) (fun h53 => ?_) (fun h53 => absurd h53 (by decide))
    refine r_iconst C dX7_nextRow_74 ?_
    exact r_zret E dX7_nextRow_75 (by decide) ⟨(mS_tr hS (mS_U (by decide))), Or.inl ⟨rfl, [a, b, c + 1], by simp only [nxF]; simp only [if_pos (show c + 1 < N by omega)]; rfl, fun i hi => by
      have hi2 : i < 3 := hi
      rcases (show i = 0 ∨ i = 1 ∨ i = 2 by omega) with rfl | rfl | rfl <;> simp [mU, ea, eb, ec]⟩⟩
  · refine r_iinc C dX7_nextRow_25 rfl (by decide) rfl ?_
    dsimp only [List.set, Nat.reduceAdd]
    refine r_goto C (tgt := 4) dX7_nextRow_28 rfl ?_
    refine r_iload_n C rfl dX7_nextRow_4 ?_
    refine r_if_lt C (tgt := 31) dX7_nextRow_5 rfl (by first | assumption | exact rgm (by omega) (by omega)) (fun h5 => absurd h5 (by decide)) (fun h5 => ?_)
    refine r_aload_n C rfl dX7_nextRow_8 ?_
    refine r_getr C dX7_nextRow_9 fl_X7_37 ly_48 rfl ?_
    refine r_iload_n C rfl dX7_nextRow_12 ?_
    refine r_iald C dX7_nextRow_13 ly_58 (k := 1) rfl (by decide) ?_
    refine r_iconst C dX7_nextRow_14 ?_
    refine r_aload_n C rfl dX7_nextRow_15 ?_
    refine r_geti C dX7_nextRow_16 fl_X7_109 ly_48 rfl ?_
    refine r_imul C dX7_nextRow_19 ?_
    refine r_iconst C dX7_nextRow_20 ?_
    refine r_isub C dX7_nextRow_21 ?_
    refine r_icmp_ne C (tgt := 31) dX7_nextRow_22 rfl (by first | assumption | exact rgm (by omega) (by omega)) (by first | assumption | exact rgm (by omega) (by omega)) (fun h22 => ?_) (fun h22 => ?_)
    · refine r_iload_n C rfl dX7_nextRow_31 ?_
      refine r_if_ge C (tgt := 37) dX7_nextRow_32 rfl (by first | assumption | exact rgm (by omega) (by omega)) (fun h32 => ?_) (fun h32 => absurd h32 (by decide))
      refine r_aload_n C rfl dX7_nextRow_37 ?_
      refine r_getr C dX7_nextRow_38 fl_X7_37 ly_48 rfl ?_
      refine r_iload_n C rfl dX7_nextRow_41 ?_
      refine r_dup2 C rfl rfl dX7_nextRow_42 ?_
      refine r_iald C dX7_nextRow_43 ly_58 (k := 1) rfl (by decide) ?_
      refine r_iconst C dX7_nextRow_44 ?_
      refine r_iadd C dX7_nextRow_45 ?_
      refine r_iast C dX7_nextRow_46 ly_58 (k := 1) rfl (by decide) ?_
      refine r_iload_n C rfl dX7_nextRow_47 ?_
      refine r_iconst C dX7_nextRow_48 ?_
      refine r_iadd C dX7_nextRow_49 ?_
      refine r_istore_n C dX7_nextRow_50 3 rfl (by decide) rfl ?_
      dsimp only [List.set, Nat.reduceAdd]
      refine r_iload_n C rfl dX7_nextRow_51 ?_
      refine r_iload_n C rfl dX7_nextRow_52 ?_
      refine r_icmp_ge C (tgt := 74) dX7_nextRow_53 rfl (by first | assumption | exact rgm (by omega) (by omega)) (by first | assumption | exact rgm (by omega) (by omega)) (fun h53 => absurd h53 (by decide)) (fun h53 => ?_)
      refine r_aload_n C rfl dX7_nextRow_56 ?_
      refine r_getr C dX7_nextRow_57 fl_X7_37 ly_48 rfl ?_
      refine r_iload_n C rfl dX7_nextRow_60 ?_
      refine r_aload_n C rfl dX7_nextRow_61 ?_
      refine r_getr C dX7_nextRow_62 fl_X7_37 ly_48 rfl ?_
      refine r_iload_n C rfl dX7_nextRow_65 ?_
      refine r_iald C dX7_nextRow_66 ly_58 (k := 1) rfl (by decide) ?_
      refine r_iast C dX7_nextRow_67 ly_58 (k := 2) rfl (by decide) ?_
      refine r_iinc C dX7_nextRow_68 rfl (by decide) rfl ?_
      dsimp only [List.set, Nat.reduceAdd]
      refine r_goto C (tgt := 51) dX7_nextRow_71 rfl ?_
      refine r_iload_n C rfl dX7_nextRow_51 ?_
      refine r_iload_n C rfl dX7_nextRow_52 ?_
      refine r_icmp_ge C (tgt := 74) dX7_nextRow_53 rfl (by first | assumption | exact rgm (by omega) (by omega)) (by first | assumption | exact rgm (by omega) (by omega)) (fun h53 => ?_) (fun h53 => absurd h53 (by decide))
      refine r_iconst C dX7_nextRow_74 ?_
      exact r_zret E dX7_nextRow_75 (by decide) ⟨(mS_tr (mS_tr hS (mS_U (by decide))) (mS_U (by decide))), Or.inl ⟨rfl, [a, b + 1, b + 1], by simp only [nxF]; simp only [if_neg (show ¬ c + 1 < N by omega), if_pos (show b + 1 < N by omega)]; rfl, fun i hi => by
      have hi2 : i < 3 := hi
      rcases (show i = 0 ∨ i = 1 ∨ i = 2 by omega) with rfl | rfl | rfl <;> simp [mU, ea, eb, ec]⟩⟩
    · refine r_iinc C dX7_nextRow_25 rfl (by decide) rfl ?_
      dsimp only [List.set, Nat.reduceAdd]
      refine r_goto C (tgt := 4) dX7_nextRow_28 rfl ?_
      refine r_iload_n C rfl dX7_nextRow_4 ?_
      refine r_if_lt C (tgt := 31) dX7_nextRow_5 rfl (by first | assumption | exact rgm (by omega) (by omega)) (fun h5 => absurd h5 (by decide)) (fun h5 => ?_)
      refine r_aload_n C rfl dX7_nextRow_8 ?_
      refine r_getr C dX7_nextRow_9 fl_X7_37 ly_48 rfl ?_
      refine r_iload_n C rfl dX7_nextRow_12 ?_
      refine r_iald C dX7_nextRow_13 ly_58 (k := 0) rfl (by decide) ?_
      refine r_iconst C dX7_nextRow_14 ?_
      refine r_aload_n C rfl dX7_nextRow_15 ?_
      refine r_geti C dX7_nextRow_16 fl_X7_109 ly_48 rfl ?_
      refine r_imul C dX7_nextRow_19 ?_
      refine r_iconst C dX7_nextRow_20 ?_
      refine r_isub C dX7_nextRow_21 ?_
      refine r_icmp_ne C (tgt := 31) dX7_nextRow_22 rfl (by first | assumption | exact rgm (by omega) (by omega)) (by first | assumption | exact rgm (by omega) (by omega)) (fun h22 => ?_) (fun h22 => ?_)
      · refine r_iload_n C rfl dX7_nextRow_31 ?_
        refine r_if_ge C (tgt := 37) dX7_nextRow_32 rfl (by first | assumption | exact rgm (by omega) (by omega)) (fun h32 => ?_) (fun h32 => absurd h32 (by decide))
        refine r_aload_n C rfl dX7_nextRow_37 ?_
        refine r_getr C dX7_nextRow_38 fl_X7_37 ly_48 rfl ?_
        refine r_iload_n C rfl dX7_nextRow_41 ?_
        refine r_dup2 C rfl rfl dX7_nextRow_42 ?_
        refine r_iald C dX7_nextRow_43 ly_58 (k := 0) rfl (by decide) ?_
        refine r_iconst C dX7_nextRow_44 ?_
        refine r_iadd C dX7_nextRow_45 ?_
        refine r_iast C dX7_nextRow_46 ly_58 (k := 0) rfl (by decide) ?_
        refine r_iload_n C rfl dX7_nextRow_47 ?_
        refine r_iconst C dX7_nextRow_48 ?_
        refine r_iadd C dX7_nextRow_49 ?_
        refine r_istore_n C dX7_nextRow_50 3 rfl (by decide) rfl ?_
        dsimp only [List.set, Nat.reduceAdd]
        refine r_iload_n C rfl dX7_nextRow_51 ?_
        refine r_iload_n C rfl dX7_nextRow_52 ?_
        refine r_icmp_ge C (tgt := 74) dX7_nextRow_53 rfl (by first | assumption | exact rgm (by omega) (by omega)) (by first | assumption | exact rgm (by omega) (by omega)) (fun h53 => absurd h53 (by decide)) (fun h53 => ?_)
        refine r_aload_n C rfl dX7_nextRow_56 ?_
        refine r_getr C dX7_nextRow_57 fl_X7_37 ly_48 rfl ?_
        refine r_iload_n C rfl dX7_nextRow_60 ?_
        refine r_aload_n C rfl dX7_nextRow_61 ?_
        refine r_getr C dX7_nextRow_62 fl_X7_37 ly_48 rfl ?_
        refine r_iload_n C rfl dX7_nextRow_65 ?_
        refine r_iald C dX7_nextRow_66 ly_58 (k := 0) rfl (by decide) ?_
        refine r_iast C dX7_nextRow_67 ly_58 (k := 1) rfl (by decide) ?_
        refine r_iinc C dX7_nextRow_68 rfl (by decide) rfl ?_
        dsimp only [List.set, Nat.reduceAdd]
        refine r_goto C (tgt := 51) dX7_nextRow_71 rfl ?_
        refine r_iload_n C rfl dX7_nextRow_51 ?_
        refine r_iload_n C rfl dX7_nextRow_52 ?_
        refine r_icmp_ge C (tgt := 74) dX7_nextRow_53 rfl (by first | assumption | exact rgm (by omega) (by omega)) (by first | assumption | exact rgm (by omega) (by omega)) (fun h53 => absurd h53 (by decide)) (fun h53 => ?_)
        refine r_aload_n C rfl dX7_nextRow_56 ?_
        refine r_getr C dX7_nextRow_57 fl_X7_37 ly_48 rfl ?_
        refine r_iload_n C rfl dX7_nextRow_60 ?_
        refine r_aload_n C rfl dX7_nextRow_61 ?_
        refine r_getr C dX7_nextRow_62 fl_X7_37 ly_48 rfl ?_
        refine r_iload_n C rfl dX7_nextRow_65 ?_
        refine r_iald C dX7_nextRow_66 ly_58 (k := 0) rfl (by decide) ?_
        refine r_iast C dX7_nextRow_67 ly_58 (k := 2) rfl (by decide) ?_
        refine r_iinc C dX7_nextRow_68 rfl (by decide) rfl ?_
        dsimp only [List.set, Nat.reduceAdd]
        refine r_goto C (tgt := 51) dX7_nextRow_71 rfl ?_
        refine r_iload_n C rfl dX7_nextRow_51 ?_
        refine r_iload_n C rfl dX7_nextRow_52 ?_
        refine r_icmp_ge C (tgt := 74) dX7_nextRow_53 rfl (by first | assumption | exact rgm (by omega) (by omega)) (by first | assumption | exact rgm (by omega) (by omega)) (fun h53 => ?_) (fun h53 => absurd h53 (by decide))
        refine r_iconst C dX7_nextRow_74 ?_
        exact r_zret E dX7_nextRow_75 (by decide) ⟨(mS_tr (mS_tr (mS_tr hS (mS_U (by decide))) (mS_U (by decide))) (mS_U (by decide))), Or.inl ⟨rfl, [a + 1, a + 1, a + 1], by simp only [nxF]; simp only [if_neg (show ¬ b + 1 < N by omega), if_neg (show ¬ c + 1 < N by omega), if_pos (show a + 1 < N by omega)]; rfl, fun i hi => by
      have hi2 : i < 3 := hi
      rcases (show i = 0 ∨ i = 1 ∨ i = 2 by omega) with rfl | rfl | rfl <;> simp [mU, ea, eb, ec]⟩⟩
      · refine r_iinc C dX7_nextRow_25 rfl (by decide) rfl ?_
        dsimp only [List.set, Nat.reduceAdd]
        refine r_goto C (tgt := 4) dX7_nextRow_28 rfl ?_
        refine r_iload_n C rfl dX7_nextRow_4 ?_
        refine r_if_lt C (tgt := 31) dX7_nextRow_5 rfl (by first | assumption | exact rgm (by omega) (by omega)) (fun h5 => ?_) (fun h5 => absurd h5 (by decide))
        refine r_iload_n C rfl dX7_nextRow_31 ?_
        refine r_if_ge C (tgt := 37) dX7_nextRow_32 rfl (by first | assumption | exact rgm (by omega) (by omega)) (fun h32 => absurd h32 (by decide)) (fun h32 => ?_)
        refine r_iconst C dX7_nextRow_35 ?_
        exact r_zret E dX7_nextRow_36 (by decide) ⟨hS, Or.inr ⟨rfl, by simp only [nxF]; simp only [if_neg (show ¬ a + 1 < N by omega), if_neg (show ¬ b + 1 < N by omega), if_neg (show ¬ c + 1 < N by omega)]⟩⟩
