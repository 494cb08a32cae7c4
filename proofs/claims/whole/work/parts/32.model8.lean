
theorem c_isEnough {T M : Mm_} (hS : mS M T) {q z : Int} (hq : 0 ≤ q ∧ q < 64) {l : List Nat} (hl3 : l.length ≤ 3) (hz : z = l.length) (hrow : rowIs T l) {N : Nat} (hN : 3 * M.1 48 3 = N) (hlN : ∀ x ∈ l, x < N) (hM : oM M) : Cn 3 kX7_isEnough [.ref 48, .int (zI q), .int (zI z)] T (fun r U => mS M U ∧ U.1 58 = T.1 58 ∧ ((r = some (.int (zI 1)) ∧ EnM M q (apF (grM M) l (M.1 52)) = true) ∨ (r = some (.int (zI 0)) ∧ ¬ EnM M q (apF (grM M) l (M.1 52)) = true))) := by
  rw [hz]
  match l, hl3, hrow, hlN with
  | [], _, _, _ => exact c_isEnough0 hS hq hM
  | [a], _, hr, hn =>
    have h1 := hn a (by simp)
    exact c_isEnough1 hS hq (hr 0 (by simp)) (by omega) hM
  | [a, b], _, hr, hn =>
    have h1 := hn a (by simp)
    have h2 := hn b (by simp)
    exact c_isEnough2 hS hq (hr 0 (by simp)) (by omega) (hr 1 (by simp)) (by omega) hM
  | [a, b, c], _, hr, hn =>
    have h1 := hn a (by simp)
    have h2 := hn b (by simp)
    have h3 := hn c (by simp)
    exact c_isEnough3 hS hq (hr 0 (by simp)) (by omega) (hr 1 (by simp)) (by omega) (hr 2 (by simp)) (by omega) hM
  | _ :: _ :: _ :: _ :: _, h, _, _ => exact absurd h (by simp)
theorem c_nextRow {T M : Mm_} (hS : mS M T) {z : Int} {l : List Nat} (hl3 : l.length ≤ 3) (hz : z = l.length) (hrow : rowIs T l) {N : Nat} (hN : 3 * M.1 48 3 = N) (hN0 : 0 < M.1 48 3) (hlN : ∀ x ∈ l, x < N) (hM : oM M) : Cn 0 kX7_nextRow [.ref 48, .int (zI z)] T (fun r U => mS M U ∧ ((r = some (.int (zI 1)) ∧ ∃ l', nxF N l = some l' ∧ rowIs U l') ∨ (r = some (.int (zI 0)) ∧ nxF N l = none))) := by
  rw [hz]
  match l, hl3, hrow, hlN with
  | [], _, _, _ => exact c_nextRow0 hS hN hN0 hM
  | [a], _, hr, hn =>
    have h1 := hn a (by simp)
    exact c_nextRow1 hS hN hN0 (hr 0 (by simp)) (by omega) hM
  | [a, b], _, hr, hn =>
    have h1 := hn a (by simp)
    have h2 := hn b (by simp)
    exact c_nextRow2 hS hN hN0 (hr 0 (by simp)) (by omega) (hr 1 (by simp)) (by omega) hM
  | [a, b, c], _, hr, hn =>
    have h1 := hn a (by simp)
    have h2 := hn b (by simp)
    have h3 := hn c (by simp)
    exact c_nextRow3 hS hN hN0 (hr 0 (by simp)) (by omega) (hr 1 (by simp)) (by omega) (hr 2 (by simp)) (by omega) hM
  | _ :: _ :: _ :: _ :: _, h, _, _ => exact absurd h (by simp)
theorem map_getD (l : List Nat) (t : Nat) : (l.map (fun x : Nat => (x : Int))).getD t 0 = ((l.getD t 0 : Nat) : Int) := by
  simp [List.getD_eq_getElem?_getD, List.getElem?_map]
  cases l[t]? <;> simp
theorem rep0 (i t : Nat) : (List.replicate i (0 : Nat)).getD t 0 = 0 := by
  rw [List.getD_eq_getElem?_getD, List.getElem?_replicate]
  split <;> rfl
theorem fewM_s (M : Mm_) (q : Int) {i : Nat} (h : i < 4) : fewM M q (4 - i) i = match (fz (EnM M q) (grM M) (3 * M.1 48 3).toNat i 0 (M.1 52)).map (fun l => (i : Int) :: l) with | some l => some l | none => fewM M q (4 - (i + 1)) (i + 1) := ff_step h

set_option maxRecDepth 10000 in
set_option maxHeartbeats 1000000 in
theorem c_layFew (M : Mm_) {q : Int} (hq : 0 ≤ q ∧ q < 64) (hN0 : 0 < M.1 48 3) (hM : oM M) : Cn 4 kX7_layFew [.ref 48, .int (zI q)] M (fun r U => mS M U ∧ ((∃ (s : Nat) (l : List Int), fewM M q 4 0 = some ((s : Int) :: l) ∧ s ≤ 3 ∧ r = some (.int (zI (s : Int))) ∧ ∀ t, t < s → U.1 59 t = l.getD t 0) ∨ (fewM M q 4 0 = none ∧ r = some (.int (zI (-1)))))) := by
  have hM0 := hM
  obtain ⟨hpg, hv, hrw, hf, hg, hse, hbo, hst, hni⟩ := hM
  have hv0 : (M.1 48 3 = 0 ∧ M.1 48 4 = 0) ∨ (2 ≤ M.1 48 3 ∧ M.1 48 3 ≤ 4 ∧ 2 ≤ M.1 48 4 ∧ M.1 48 4 ≤ 6) := hv
  obtain ⟨N, hN⟩ : ∃ N : Nat, 3 * M.1 48 3 = N := ⟨(3 * M.1 48 3).toNat, by omega⟩
  refine Cn.of rfl (Nat.le_of_ble_eq_true rfl) (fun G C E => ?_)
  show G 0 [.ref 48, .int (zI q), .null, .null] [] M
  have lp : ∀ i : Nat, i ≤ 4 → ∀ (T : Mm_) (z : Int) (v3 : Value), mS M T → fewM M q (4 - i) i = fewM M q 4 0 → z = i → G 2 [.ref 48, .int (zI q), .int (zI z), v3] [] T := by
    refine lpN 4 ?_ ?_
    · intro T z v3 hS hres hz
      refine r_iload_n C rfl dX7_layFew_2 ?_
      refine r_iconst C dX7_layFew_3 ?_
      refine r_icmp_ge C (tgt := 71) dX7_layFew_4 rfl (by first | assumption | exact rgm (by omega) (by omega)) (by first | assumption | exact rgm (by omega) (by omega)) (fun h4 => ?_) (fun h4 => absurd h4 (by omega))
      refine r_iconst C dX7_layFew_71 ?_
      exact r_iret E dX7_layFew_72 ⟨hS, Or.inr ⟨by rw [← hres]; rfl, rfl⟩⟩
    · intro i hi ih T z v3 hS hres hz
      have out : ∀ (V : Mm_), mS M V → fz (EnM M q) (grM M) N i 0 (M.1 52) = none → ∀ v3 : Int, v3 = 0 → G 30 [.ref 48, .int (zI q), .int (zI z), .int (zI v3)] [] V := by
        intro V hSV hnone v3 hv3
        refine r_iload_n C rfl dX7_layFew_30 ?_
        refine r_if_eq C (tgt := 65) dX7_layFew_31 rfl (by first | assumption | exact rgm (by omega) (by omega)) (fun h31 => ?_) (fun h31 => absurd h31 (by omega))
        refine r_iinc C dX7_layFew_65 rfl (by decide) rfl ?_
        dsimp only [List.set, Nat.reduceAdd]
        refine r_goto C (tgt := 2) dX7_layFew_68 rfl ?_
        refine ih V _ _ hSV ?_ (by omega)
        rw [← hres, fewM_s M q hi, show (3 * M.1 48 3).toNat = N by omega, hnone]
        rfl
      have lq : ∀ (f : Nat) (T : Mm_) (l : List Nat), mS M T → l.length = i → rowIs T l → (∀ x ∈ l, x < N) → N ^ i ≤ rkF N l + f → rsF (EnM M q) (grM M) N l (M.1 52) = fz (EnM M q) (grM M) N i 0 (M.1 52) → G 30 [.ref 48, .int (zI q), .int (zI z), .int (zI 1)] [] T := by
        intro f
        induction f with
        | zero =>
          intro T l hS hll hrow hlN hfu hrs
          have := rk_lt l hlN
          rw [hll] at this
          omega
        | succ f ihf =>
          intro T l hS hll hrow hlN hfu hrs
          refine r_iload_n C rfl dX7_layFew_30 ?_
          refine r_if_eq C (tgt := 65) dX7_layFew_31 rfl (by first | assumption | exact rgm (by omega) (by omega)) (fun h31 => absurd h31 (by decide)) (fun h31 => ?_)
          refine r_aload_n C rfl dX7_layFew_34 ?_
          refine r_iload_n C rfl dX7_layFew_35 ?_
          refine r_iload_n C rfl dX7_layFew_36 ?_
          refine r_callV C dX7_layFew_37 vw_X7_243 (c_isEnough hS hq (by omega) (by omega) hrow hN hlN hM0) (by decide) rfl ly_48 rfl rfl (Nat.le_of_ble_eq_true rfl) ?_
          intro r U hpost
          obtain ⟨hSU, h58, hpost⟩ := hpost
          rcases hpost with ⟨rfl, hen⟩ | ⟨rfl, hen⟩
          · try dsimp only [Option.toList, List.cons_append, List.nil_append]
            refine r_if_eq C (tgt := 56) dX7_layFew_40 rfl (by first | assumption | exact rgm (by omega) (by omega)) (fun h40 => absurd h40 (by decide)) (fun h40 => ?_)
            refine r_aload_n C rfl dX7_layFew_43 ?_
            refine r_getr C dX7_layFew_44 fl_X7_37 ly_48 rfl ?_
            refine r_aload_n C rfl dX7_layFew_47 ?_
            refine r_getr C dX7_layFew_48 fl_X7_40 ly_48 rfl ?_
            refine r_cSv C dX7_layFew_51 sw_X7_205 (c_copyM U (a := 58) (b := 59) (by decide) ly_58 ly_59) (by decide) rfl rfl (Nat.le_of_ble_eq_true rfl) ?_
            refine r_iload_n C rfl dX7_layFew_54 ?_
            exact r_iret E dX7_layFew_55 (by
            have hfd := rs_found (N := N) l (M.1 52) hen
            rw [hrs] at hfd
            refine ⟨mS_R2 hSU (by decide), Or.inl ⟨i, l.map (fun x : Nat => (x : Int)), ?_, by omega, by rw [hz], fun t ht => ?_⟩⟩
            · rw [← hres, fewM_s M q hi, show (3 * M.1 48 3).toNat = N by omega, hfd]
              rfl
            · rw [mR_eq, h58, hrow t (by omega), map_getD])
          · try dsimp only [Option.toList, List.cons_append, List.nil_append]
            refine r_if_eq C (tgt := 56) dX7_layFew_40 rfl (by first | assumption | exact rgm (by omega) (by omega)) (fun h40 => ?_) (fun h40 => absurd h40 (by decide))
            refine r_aload_n C rfl dX7_layFew_56 ?_
            refine r_iload_n C rfl dX7_layFew_57 ?_
            have hrowU : rowIs U l := by unfold rowIs; rw [h58]; exact hrow
            refine r_callV C dX7_layFew_58 vw_X7_247 (c_nextRow hSU (by omega) (by omega) hrowU hN hN0 hlN hM0) (by decide) rfl ly_48 rfl rfl (Nat.le_of_ble_eq_true rfl) ?_
            intro r V hpost
            obtain ⟨hSV, hpost⟩ := hpost
            rcases hpost with ⟨rfl, l2, hnx, hrow2⟩ | ⟨rfl, hnx⟩
            · try dsimp only [Option.toList, List.cons_append, List.nil_append]
              refine r_istore_n C dX7_layFew_61 3 rfl (by decide) rfl ?_
              dsimp only [List.set, Nat.reduceAdd]
              refine r_goto C (tgt := 30) dX7_layFew_62 rfl ?_
              have h1 := nx_rk hlN hnx
              have h2 := nx_len hnx
              have h3 := nx_lt hlN hnx
              refine ihf V l2 hSV (by omega) hrow2 h3 (by omega) ?_
              rw [← hrs, rs_step l (M.1 52) hen, hnx]
            · try dsimp only [Option.toList, List.cons_append, List.nil_append]
              refine r_istore_n C dX7_layFew_61 3 rfl (by decide) rfl ?_
              dsimp only [List.set, Nat.reduceAdd]
              refine r_goto C (tgt := 30) dX7_layFew_62 rfl ?_
              refine out V hSV ?_ 0 rfl
              rw [← hrs, rs_step l (M.1 52) hen, hnx]
      refine r_iload_n C rfl dX7_layFew_2 ?_
      refine r_iconst C dX7_layFew_3 ?_
      refine r_icmp_ge C (tgt := 71) dX7_layFew_4 rfl (by first | assumption | exact rgm (by omega) (by omega)) (by first | assumption | exact rgm (by omega) (by omega)) (fun h4 => absurd h4 (by omega)) (fun h4 => ?_)
      refine r_aload_n C rfl dX7_layFew_7 ?_
      refine r_getr C dX7_layFew_8 fl_X7_37 ly_48 rfl ?_
      refine r_iconst C dX7_layFew_11 ?_
      refine r_iconst C dX7_layFew_12 ?_
      refine r_iast C dX7_layFew_13 ly_58 rfl (by decide) ?_
      refine r_aload_n C rfl dX7_layFew_14 ?_
      refine r_getr C dX7_layFew_15 fl_X7_37 ly_48 rfl ?_
      refine r_iconst C dX7_layFew_18 ?_
      refine r_iconst C dX7_layFew_19 ?_
      refine r_iast C dX7_layFew_20 ly_58 rfl (by decide) ?_
      refine r_aload_n C rfl dX7_layFew_21 ?_
      refine r_getr C dX7_layFew_22 fl_X7_37 ly_48 rfl ?_
      refine r_iconst C dX7_layFew_25 ?_
      refine r_iconst C dX7_layFew_26 ?_
      refine r_iast C dX7_layFew_27 ly_58 rfl (by decide) ?_
      refine r_iconst C dX7_layFew_28 ?_
      refine r_istore_n C dX7_layFew_29 3 rfl (by decide) rfl ?_
      dsimp only [List.set, Nat.reduceAdd]
      have hrow0 : rowIs (mU (mU (mU T 58 0 0) 58 1 0) 58 2 0) (List.replicate i 0) := by
        intro t ht
        rw [List.length_replicate] at ht
        rw [rep0]
        rcases (show t = 0 ∨ t = 1 ∨ t = 2 by omega) with rfl | rfl | rfl <;> simp [mU]
      refine lq (N ^ i) _ (List.replicate i 0) (mS_tr (mS_tr (mS_tr hS (mS_U (by decide))) (mS_U (by decide))) (mS_U (by decide))) (List.length_replicate ..) hrow0 (fun x hx => by rw [List.eq_of_mem_replicate hx]; omega) (by omega) ?_
      exact rs_start i 0 (M.1 52) (by omega)
  refine r_iconst C dX7_layFew_0 ?_
  refine r_istore_n C dX7_layFew_1 2 rfl (by decide) rfl ?_
  dsimp only [List.set, Nat.reduceAdd]
  exact lp 0 (Nat.zero_le _) M _ _ mS_rf rfl rfl
set_option maxRecDepth 10000 in
set_option maxHeartbeats 1000000 in
theorem c_fewOf (M : Mm_) {q w : Int} (hq : 0 ≤ q ∧ q < 64) (hw : w = 0 ∨ (10 ≤ w ∧ w < 13)) (hN0 : 0 < M.1 48 3) (hM : oM M) : Cn 5 kX7_fewOf [.ref 48, .int (zI q), .int (zI w)] M (pS (fewT (fewM M q 4 0) w) M) := by
  refine Cn.of rfl (Nat.le_of_ble_eq_true rfl) (fun G C E => ?_)
  show G 0 [.ref 48, .int (zI q), .int (zI w), .null] [] M
  refine r_aload_n C rfl dX7_fewOf_0 ?_
  refine r_iload_n C rfl dX7_fewOf_1 ?_
  refine r_callV C dX7_fewOf_2 vw_X7_250 (c_layFew M hq hN0 hM) (by decide) rfl ly_48 rfl rfl (Nat.le_of_ble_eq_true rfl) ?_
  intro r U hpost
  obtain ⟨hSU, hpost⟩ := hpost
  rcases hpost with ⟨s, l, hfr, hs3, rfl, hlt⟩ | ⟨hfr, rfl⟩
  · dsimp only [Option.toList, List.cons_append, List.nil_append]
    refine r_istore_n C dX7_fewOf_5 3 rfl (by decide) rfl ?_
    dsimp only [List.set, Nat.reduceAdd]
    refine r_iload_n C rfl dX7_fewOf_6 ?_
    refine r_if_ne C (tgt := 14) dX7_fewOf_7 rfl (by first | assumption | exact rgm (by omega) (by omega)) (fun h7 => ?_) (fun h7 => ?_)
    · refine r_iload_n C rfl dX7_fewOf_14 ?_
      refine r_bipush C rfl dX7_fewOf_15 ?_
      refine r_isub C dX7_fewOf_17 ?_
      refine r_iload_n C rfl dX7_fewOf_18 ?_
      refine r_icmp_ge C (tgt := 34) dX7_fewOf_19 rfl (by first | assumption | exact rgm (by omega) (by omega)) (by first | assumption | exact rgm (by omega) (by omega)) (fun h19 => ?_) (fun h19 => ?_)
      · refine r_iconst C dX7_fewOf_34 ?_
        exact r_iret E dX7_fewOf_35 ⟨by rw [hfr]; show _ = some (Value.int (zI (if w = 0 then (s : Int) else if w - 10 < (s : Int) then l.getD (w - 10).toNat 0 else -1))); rw [if_neg h7, if_neg (by omega)], hSU⟩
      · refine r_aload_n C rfl dX7_fewOf_22 ?_
        refine r_getr C dX7_fewOf_23 fl_X7_40 ly_48 rfl ?_
        refine r_iload_n C rfl dX7_fewOf_26 ?_
        refine r_bipush C rfl dX7_fewOf_27 ?_
        refine r_isub C dX7_fewOf_29 ?_
        refine r_iald C dX7_fewOf_30 ly_59 (k := (w - 10).toNat) (by omega) (by omega) ?_
        refine r_goto C (tgt := 35) dX7_fewOf_31 rfl ?_
        exact r_iret E dX7_fewOf_35 ⟨by rw [hfr, hlt _ (by omega)]; show _ = some (Value.int (zI (if w = 0 then (s : Int) else if w - 10 < (s : Int) then l.getD (w - 10).toNat 0 else -1))); rw [if_neg h7, if_pos (by omega)], hSU⟩
    · refine r_iload_n C rfl dX7_fewOf_10 ?_
      refine r_goto C (tgt := 35) dX7_fewOf_11 rfl ?_
      exact r_iret E dX7_fewOf_35 ⟨by rw [hfr]; show _ = some (Value.int (zI (if w = 0 then (s : Int) else _))); rw [if_pos h7], hSU⟩
  · dsimp only [Option.toList, List.cons_append, List.nil_append]
    refine r_istore_n C dX7_fewOf_5 3 rfl (by decide) rfl ?_
    dsimp only [List.set, Nat.reduceAdd]
    refine r_iload_n C rfl dX7_fewOf_6 ?_
    refine r_if_ne C (tgt := 14) dX7_fewOf_7 rfl (by first | assumption | exact rgm (by omega) (by omega)) (fun h7 => ?_) (fun h7 => ?_)
    · refine r_iload_n C rfl dX7_fewOf_14 ?_
      refine r_bipush C rfl dX7_fewOf_15 ?_
      refine r_isub C dX7_fewOf_17 ?_
      refine r_iload_n C rfl dX7_fewOf_18 ?_
      refine r_icmp_ge C (tgt := 34) dX7_fewOf_19 rfl (by first | assumption | exact rgm (by omega) (by omega)) (by first | assumption | exact rgm (by omega) (by omega)) (fun h19 => ?_) (fun h19 => absurd h19 (by omega))
      refine r_iconst C dX7_fewOf_34 ?_
      exact r_iret E dX7_fewOf_35 ⟨by rw [hfr]; rfl, hSU⟩
    · refine r_iload_n C rfl dX7_fewOf_10 ?_
      refine r_goto C (tgt := 35) dX7_fewOf_11 rfl ?_
      exact r_iret E dX7_fewOf_35 ⟨by rw [hfr]; rfl, hSU⟩
set_option maxRecDepth 10000 in
set_option maxHeartbeats 1000000 in
theorem c_m_few (M : Mm_) {q w : Int} (rq : rg q) (rw_ : rg w) (hM : oM M) (hfd : 0 ≤ M.1 48 18 ∧ M.1 48 18 ≤ 30) : Cn 6 kX7_few [.ref 48, .int (zI q), .int (zI w)] M (fun r U => r = some (.int (zI (if ((1 ≤ q ∧ q < 2 ^ (M.1 48 4).toNat) ∧ (w = 0 ∨ (10 ≤ w ∧ w < 13))) then (if M.1 48 18 = 30 then -103 else fewT (fewM M q 4 0) w) else -102))) ∧ mS (if ((1 ≤ q ∧ q < 2 ^ (M.1 48 4).toNat) ∧ (w = 0 ∨ (10 ≤ w ∧ w < 13))) ∧ M.1 48 18 < 30 then mU M 48 18 (M.1 48 18 + 1) else M) U) := by
  have hM0 := hM
  obtain ⟨hpg, hv, hrw, hf, hg, hse, hbo, hst, hni⟩ := hM
  have hv0 : (M.1 48 3 = 0 ∧ M.1 48 4 = 0) ∨ (2 ≤ M.1 48 3 ∧ M.1 48 3 ≤ 4 ∧ 2 ≤ M.1 48 4 ∧ M.1 48 4 ≤ 6) := hv
  obtain ⟨m, hm⟩ : ∃ m : Nat, M.1 48 4 = m := ⟨(M.1 48 4).toNat, by omega⟩
  have em : (M.1 48 4).toNat = m := by omega
  have hpw := pw_b (k := m) (by omega)
  have hpm : m = 0 → (2 : Int) ^ m = 1 := fun h => by rw [h]; rfl
  rw [em]
  refine Cn.of rfl (Nat.le_of_ble_eq_true rfl) (fun G C E => ?_)
  show G 0 [.ref 48, .int (zI q), .int (zI w)] [] M
  refine r_iload_n C rfl dX7_few_0 ?_
  refine r_i2l C dX7_few_1 ?_
  refine r_lconst C dX7_few_2 ?_
  refine r_iconst C dX7_few_3 ?_
  refine r_aload_n C rfl dX7_few_4 ?_
  refine r_geti C dX7_few_5 fl_X7_112 ly_48 rfl ?_
  refine r_ishl C (v := 2 ^ m) (by rw [hm]; exact zb_shl (by omega)) dX7_few_8 ?_
  refine r_iconst C dX7_few_9 ?_
  refine r_isub C dX7_few_10 ?_
  refine r_i2l C dX7_few_11 ?_
  refine r_cSb C dX7_few_12 sw_X7_76 (c_inZ M (b := 1) (c := 2 ^ m - 1) rq rfl (zl_toInt (rgm (by omega) (by omega)))) (by decide) rfl rfl (Nat.le_of_ble_eq_true rfl) (fun h12 => ?_) (fun h12 => ?_)
  · refine r_if_eq C (tgt := 36) dX7_few_15 rfl (by first | assumption | exact rgm (by omega) (by omega)) (fun h15 => absurd h15 (by decide)) (fun h15 => ?_)
    refine r_iload_n C rfl dX7_few_18 ?_
    refine r_if_eq C (tgt := 39) dX7_few_19 rfl (by first | assumption | exact rgm (by omega) (by omega)) (fun h19 => ?_) (fun h19 => ?_)
    · refine r_aload_n C rfl dX7_few_39 ?_
      refine r_geti C dX7_few_40 fl_X7_253 ly_48 rfl ?_
      refine r_bipush C rfl dX7_few_43 ?_
      refine r_icmp_ne C (tgt := 51) dX7_few_45 rfl (by first | assumption | exact rgm (by omega) (by omega)) (by first | assumption | exact rgm (by omega) (by omega)) (fun h45 => ?_) (fun h45 => ?_)
      · refine r_aload_n C rfl dX7_few_51 ?_
        refine r_dup C rfl dX7_few_52 ?_
        refine r_geti C dX7_few_53 fl_X7_253 ly_48 rfl ?_
        refine r_iconst C dX7_few_56 ?_
        refine r_iadd C dX7_few_57 ?_
        refine r_put C dX7_few_58 fl_X7_253 rfl (Or.inl rfl) ly_48 rfl ?_
        refine r_aload_n C rfl dX7_few_61 ?_
        refine r_iload_n C rfl dX7_few_62 ?_
        refine r_iload_n C rfl dX7_few_63 ?_
        refine r_callV C dX7_few_64 vw_X7_256 (c_fewOf (mU M 48 18 (M.1 48 18 + 1)) (by omega) (by omega) (by rw [(mW_48 (by decide) : mW M (mU M 48 18 (M.1 48 18 + 1))).2 3 (by decide)]; omega) (oM_W (mW_48 (by decide)) hM0)) (by decide) rfl ly_48 rfl rfl (Nat.le_of_ble_eq_true rfl) ?_
        intro r T h
        obtain ⟨rfl, hS⟩ := h
        try dsimp only [Option.toList, List.cons_append, List.nil_append]
        exact r_iret E dX7_few_67 ⟨by rw [if_pos (by omega), if_neg (by omega), fewM_W (mW_48 (by decide))], by rw [if_pos (by omega)]; exact hS⟩
      · refine r_bipush C rfl dX7_few_48 ?_
        exact r_iret E dX7_few_50 ⟨by rw [if_pos (by omega), if_pos (by omega)], by rw [if_neg (by omega)]; exact mS_rf⟩
    · refine r_iload_n C rfl dX7_few_22 ?_
      refine r_i2l C dX7_few_23 ?_
      refine r_ldc2 C dX7_few_24 kc_X7_172 ?_
      refine r_ldc2 C dX7_few_27 kc_X7_174 ?_
      refine r_cSb C dX7_few_30 sw_X7_76 (c_inZ M (b := 10) (c := 12) rw_ rfl rfl) (by decide) rfl rfl (Nat.le_of_ble_eq_true rfl) (fun h30 => ?_) (fun h30 => ?_)
      · refine r_if_ne C (tgt := 39) dX7_few_33 rfl (by first | assumption | exact rgm (by omega) (by omega)) (fun h33 => ?_) (fun h33 => absurd h33 (by decide))
        refine r_aload_n C rfl dX7_few_39 ?_
        refine r_geti C dX7_few_40 fl_X7_253 ly_48 rfl ?_
        refine r_bipush C rfl dX7_few_43 ?_
        refine r_icmp_ne C (tgt := 51) dX7_few_45 rfl (by first | assumption | exact rgm (by omega) (by omega)) (by first | assumption | exact rgm (by omega) (by omega)) (fun h45 => ?_) (fun h45 => ?_)
        · refine r_aload_n C rfl dX7_few_51 ?_
          refine r_dup C rfl dX7_few_52 ?_
          refine r_geti C dX7_few_53 fl_X7_253 ly_48 rfl ?_
          refine r_iconst C dX7_few_56 ?_
          refine r_iadd C dX7_few_57 ?_
          refine r_put C dX7_few_58 fl_X7_253 rfl (Or.inl rfl) ly_48 rfl ?_
          refine r_aload_n C rfl dX7_few_61 ?_
          refine r_iload_n C rfl dX7_few_62 ?_
          refine r_iload_n C rfl dX7_few_63 ?_
          refine r_callV C dX7_few_64 vw_X7_256 (c_fewOf (mU M 48 18 (M.1 48 18 + 1)) (by omega) (by omega) (by rw [(mW_48 (by decide) : mW M (mU M 48 18 (M.1 48 18 + 1))).2 3 (by decide)]; omega) (oM_W (mW_48 (by decide)) hM0)) (by decide) rfl ly_48 rfl rfl (Nat.le_of_ble_eq_true rfl) ?_
          intro r T h
          obtain ⟨rfl, hS⟩ := h
          try dsimp only [Option.toList, List.cons_append, List.nil_append]
          exact r_iret E dX7_few_67 ⟨by rw [if_pos (by omega), if_neg (by omega), fewM_W (mW_48 (by decide))], by rw [if_pos (by omega)]; exact hS⟩
        · refine r_bipush C rfl dX7_few_48 ?_
          exact r_iret E dX7_few_50 ⟨by rw [if_pos (by omega), if_pos (by omega)], by rw [if_neg (by omega)]; exact mS_rf⟩
      · refine r_if_ne C (tgt := 39) dX7_few_33 rfl (by first | assumption | exact rgm (by omega) (by omega)) (fun h33 => absurd h33 (by decide)) (fun h33 => ?_)
        refine r_bipush C rfl dX7_few_36 ?_
        exact r_iret E dX7_few_38 ⟨by rw [if_neg (by omega)], by rw [if_neg (by omega)]; exact mS_rf⟩
  · refine r_if_eq C (tgt := 36) dX7_few_15 rfl (by first | assumption | exact rgm (by omega) (by omega)) (fun h15 => ?_) (fun h15 => absurd h15 (by decide))
    refine r_bipush C rfl dX7_few_36 ?_
    exact r_iret E dX7_few_38 ⟨by rw [if_neg (by omega)], by rw [if_neg (by omega)]; exact mS_rf⟩
