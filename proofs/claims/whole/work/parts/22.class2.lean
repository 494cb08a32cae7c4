
theorem emodN (x y : Nat) : (x : Int) % (y : Int) = ((x % y : Nat) : Int) := rfl

set_option maxRecDepth 10000 in
set_option maxHeartbeats 1000000 in
theorem c_commonDiv (M : Mm_) {a b : Nat} (ha : a ≤ 12) (hb : b ≤ 12) : Cn 0 kX6_commonDivisor [.int (zI (a : Int)), .int (zI (b : Int))] M (pZ ((Nat.gcd a b : Nat) : Int) M) := by
  refine Cn.of rfl (Nat.le_of_ble_eq_true rfl) (fun G C E => ?_)
  show G 0 [.int (zI (a : Int)), .int (zI (b : Int)), .null, .null, .null, .null] [] M
  have lp : ∀ (y x st : Nat) (v5 : Value), y + st ≤ 12 → x ≤ 12 → Nat.gcd x y = Nat.gcd a b → G 7 [.int (zI (a : Int)), .int (zI (b : Int)), .int (zI (x : Int)), .int (zI (y : Int)), .int (zI (st : Int)), v5] [] M := by
    intro y
    induction y using Nat.strongRecOn with
    | _ y ih =>
      intro x st v5 hst hx hg
      by_cases hy : y = 0
      · subst hy
        refine r_iload C rfl dX6_commonDivisor_7 ?_
        refine r_bipush C rfl dX6_commonDivisor_9 ?_
        refine r_icmp_ge C (tgt := 34) dX6_commonDivisor_11 rfl (by first | assumption | exact rgm (by omega) (by omega)) (by first | assumption | exact rgm (by omega) (by omega)) (fun h11 => absurd h11 (by omega)) (fun h11 => ?_)
        refine r_iload_n C rfl dX6_commonDivisor_14 ?_
        refine r_if_eq C (tgt := 34) dX6_commonDivisor_15 rfl (by first | assumption | exact rgm (by omega) (by omega)) (fun h15 => ?_) (fun h15 => absurd h15 (by omega))
        refine r_iload_n C rfl dX6_commonDivisor_34 ?_
        exact r_iret E dX6_commonDivisor_35 (pZ_of (by rw [← hg, Nat.gcd_zero_right]))
      · have hm : x % y < y := Nat.mod_lt _ (by omega)
        refine r_iload C rfl dX6_commonDivisor_7 ?_
        refine r_bipush C rfl dX6_commonDivisor_9 ?_
        refine r_icmp_ge C (tgt := 34) dX6_commonDivisor_11 rfl (by first | assumption | exact rgm (by omega) (by omega)) (by first | assumption | exact rgm (by omega) (by omega)) (fun h11 => absurd h11 (by omega)) (fun h11 => ?_)
        refine r_iload_n C rfl dX6_commonDivisor_14 ?_
        refine r_if_eq C (tgt := 34) dX6_commonDivisor_15 rfl (by first | assumption | exact rgm (by omega) (by omega)) (fun h15 => absurd h15 (by omega)) (fun h15 => ?_)
        refine r_iload_n C rfl dX6_commonDivisor_18 ?_
        refine r_iload_n C rfl dX6_commonDivisor_19 ?_
        refine r_irem C (by omega) (by omega) (by first | assumption | exact rgm (by omega) (by omega)) (by first | assumption | exact rgm (by omega) (by omega)) dX6_commonDivisor_20 ?_
        rw [emodN]
        refine r_istore C dX6_commonDivisor_21 5 rfl (by decide) rfl ?_
        dsimp only [List.set, Nat.reduceAdd]
        refine r_iload_n C rfl dX6_commonDivisor_23 ?_
        refine r_istore_n C dX6_commonDivisor_24 2 rfl (by decide) rfl ?_
        dsimp only [List.set, Nat.reduceAdd]
        refine r_iload C rfl dX6_commonDivisor_25 ?_
        refine r_istore_n C dX6_commonDivisor_27 3 rfl (by decide) rfl ?_
        dsimp only [List.set, Nat.reduceAdd]
        refine r_iinc C dX6_commonDivisor_28 rfl (by decide) rfl ?_
        dsimp only [List.set, Nat.reduceAdd]
        refine r_goto C (tgt := 7) dX6_commonDivisor_31 rfl ?_
        refine ih (x % y) hm y (st + 1) _ (by omega) (by omega) ?_
        rw [← hg, Nat.gcd_comm x y, Nat.gcd_rec y x, Nat.gcd_comm]
  refine r_iload_n C rfl dX6_commonDivisor_0 ?_
  refine r_istore_n C dX6_commonDivisor_1 2 rfl (by decide) rfl ?_
  dsimp only [List.set, Nat.reduceAdd]
  refine r_iload_n C rfl dX6_commonDivisor_2 ?_
  refine r_istore_n C dX6_commonDivisor_3 3 rfl (by decide) rfl ?_
  dsimp only [List.set, Nat.reduceAdd]
  refine r_iconst C dX6_commonDivisor_4 ?_
  refine r_istore C dX6_commonDivisor_5 4 rfl (by decide) rfl ?_
  dsimp only [List.set, Nat.reduceAdd]
  exact lp b a 0 _ (by omega) (by omega) rfl

def oddF (h n : Nat) (c : Bool) : Int := if c then ((h / Nat.gcd h n : Nat) : Int) else ((n / Nat.gcd h n : Nat) : Int)
theorem hitF_b (w g p : Nat → Int) (dc : Int) (dr dp gr : Nat → Int) (k n : Nat) : 0 ≤ hitF w g p dc dr dp gr k n ∧ hitF w g p dc dr dp gr k n ≤ n := by
  have := sm_le (f := fun num : Nat => if w k ≤ FA (sl1 gr (num : Int) g) p dc dr dp k then (1 : Int) else 0) (c := 1) (n := n) (fun i _ => by split <;> omega)
  unfold hitF
  omega

set_option maxRecDepth 10000 in
set_option maxHeartbeats 1000000 in
theorem c_odds1 (M : Mm_) {k : Nat} (hk : (k : Int) < M.1 3 5) (hX : oX M) : Cn 4 kX6_odds [.ref 0, .int (zI (k : Int)), .int (zI 1)] M (fun r U => r = some (.int (zI (oddF (hitF (M.1 7) (M.1 9) (M.1 10) (M.1 8 7) (M.1 13) (M.1 14) (M.1 6) k (M.1 3 4 * 3).toNat).toNat (M.1 3 4 * 3).toNat true))) ∧ xS (M) U) := by
  obtain ⟨hp, hv, hf, hbo, hsb, hng, ⟨hs, hsp, hsw, hsy⟩, hfd, hwd, hhk⟩ := id hX
  have hv0 := hv.1
  have hpw := pw_b (k := (M.1 3 5).toNat) (by omega)
  have hp1 := hp.1
  have rk : rg (k : Int) := rgm (by omega) (by omega)
  obtain ⟨n, en⟩ : ∃ n : Nat, M.1 3 4 * 3 = n := ⟨(M.1 3 4 * 3).toNat, by omega⟩
  have en2 : (M.1 3 4 * 3).toNat = n := by omega
  have hhb := hitF_b (M.1 7) (M.1 9) (M.1 10) (M.1 8 7) (M.1 13) (M.1 14) (M.1 6) k (M.1 3 4 * 3).toNat
  obtain ⟨h, eh⟩ : ∃ h : Nat, (hitF (M.1 7) (M.1 9) (M.1 10) (M.1 8 7) (M.1 13) (M.1 14) (M.1 6) k (M.1 3 4 * 3).toNat) = h := ⟨(hitF (M.1 7) (M.1 9) (M.1 10) (M.1 8 7) (M.1 13) (M.1 14) (M.1 6) k (M.1 3 4 * 3).toNat).toNat, by omega⟩
  have eh2 : (hitF (M.1 7) (M.1 9) (M.1 10) (M.1 8 7) (M.1 13) (M.1 14) (M.1 6) k (M.1 3 4 * 3).toNat).toNat = h := by omega
  have hg0 : 0 < Nat.gcd h n := Nat.gcd_pos_of_pos_right _ (by omega)
  have hg1 : Nat.gcd h n ≤ n := Nat.gcd_le_right _ (by omega)
  rw [en2]
  rw [en2] at hhb eh eh2
  refine Cn.of rfl (Nat.le_of_ble_eq_true rfl) (fun G C E => ?_)
  show G 0 [.ref 0, .int (zI (k : Int)), .int (zI 1), .null, .null, .null] [] M
  refine r_aload_n C rfl dX6_odds_0 ?_
  refine r_getr C dX6_odds_1 fl_X6_36 ly_0 rfl ?_
  refine r_aload_n C rfl dX6_odds_4 ?_
  refine r_getr C dX6_odds_5 fl_X6_19 ly_0 rfl ?_
  refine r_aload_n C rfl dX6_odds_8 ?_
  refine r_getr C dX6_odds_9 fl_X6_26 ly_0 rfl ?_
  refine r_iload_n C rfl dX6_odds_12 ?_
  refine r_callV C dX6_odds_13 vw_X6_284 (c_slightsThatSet M (by omega) hv hf) (by decide) rfl ly_41 rfl rfl (Nat.le_of_ble_eq_true rfl) ?_
  intro r T h
  obtain ⟨rfl, hS⟩ := h
  try dsimp only [Option.toList, List.cons_append, List.nil_append]
  rw [en2, eh]
  refine r_istore_n C dX6_odds_16 3 rfl (by decide) rfl ?_
  dsimp only [List.set, Nat.reduceAdd]
  refine r_aload_n C rfl dX6_odds_17 ?_
  refine r_getr C dX6_odds_18 fl_X6_19 ly_0 rfl ?_
  refine r_cVz C dX6_odds_21 vw_X6_287 (c_slightNumbers T) (by decide) rfl ly_3 rfl rfl (Nat.le_of_ble_eq_true rfl) ?_
  rw [hS.1 3 (by omega), en]
  refine r_istore C dX6_odds_24 4 rfl (by decide) rfl ?_
  dsimp only [List.set, Nat.reduceAdd]
  refine r_iload_n C rfl dX6_odds_26 ?_
  refine r_iload C rfl dX6_odds_27 ?_
  refine r_cSz C dX6_odds_29 sw_X6_290 (c_commonDiv T (by omega) (by omega)) (by decide) rfl rfl (Nat.le_of_ble_eq_true rfl) ?_
  refine r_istore C dX6_odds_32 5 rfl (by decide) rfl ?_
  dsimp only [List.set, Nat.reduceAdd]
  refine r_iload C rfl dX6_odds_34 ?_
  refine r_if_ne C (tgt := 41) dX6_odds_36 rfl (by first | assumption | exact rgm (by omega) (by omega)) (fun h36 => ?_) (fun h36 => absurd h36 (by omega))
  refine r_iload_n C rfl dX6_odds_41 ?_
  refine r_if_eq C (tgt := 52) dX6_odds_42 rfl (by first | assumption | exact rgm (by omega) (by omega)) (fun h42 => absurd h42 (by decide)) (fun h42 => ?_)
  refine r_iload_n C rfl dX6_odds_45 ?_
  refine r_iload C rfl dX6_odds_46 ?_
  refine r_idiv C (by omega) (by omega) (by first | assumption | exact rgm (by omega) (by omega)) (by first | assumption | exact rgm (by omega) (by omega)) dX6_odds_48 ?_
  refine r_goto C (tgt := 57) dX6_odds_49 rfl ?_
  exact r_iret E dX6_odds_57 ⟨by unfold oddF; simp only [if_true]; rw [eh2]; rfl, hS⟩
set_option maxRecDepth 10000 in
set_option maxHeartbeats 1000000 in
theorem c_odds0 (M : Mm_) {k : Nat} (hk : (k : Int) < M.1 3 5) (hX : oX M) : Cn 4 kX6_odds [.ref 0, .int (zI (k : Int)), .int (zI 0)] M (fun r U => r = some (.int (zI (oddF (hitF (M.1 7) (M.1 9) (M.1 10) (M.1 8 7) (M.1 13) (M.1 14) (M.1 6) k (M.1 3 4 * 3).toNat).toNat (M.1 3 4 * 3).toNat false))) ∧ xS (M) U) := by
  obtain ⟨hp, hv, hf, hbo, hsb, hng, ⟨hs, hsp, hsw, hsy⟩, hfd, hwd, hhk⟩ := id hX
  have hv0 := hv.1
  have hpw := pw_b (k := (M.1 3 5).toNat) (by omega)
  have hp1 := hp.1
  have rk : rg (k : Int) := rgm (by omega) (by omega)
  obtain ⟨n, en⟩ : ∃ n : Nat, M.1 3 4 * 3 = n := ⟨(M.1 3 4 * 3).toNat, by omega⟩
  have en2 : (M.1 3 4 * 3).toNat = n := by omega
  have hhb := hitF_b (M.1 7) (M.1 9) (M.1 10) (M.1 8 7) (M.1 13) (M.1 14) (M.1 6) k (M.1 3 4 * 3).toNat
  obtain ⟨h, eh⟩ : ∃ h : Nat, (hitF (M.1 7) (M.1 9) (M.1 10) (M.1 8 7) (M.1 13) (M.1 14) (M.1 6) k (M.1 3 4 * 3).toNat) = h := ⟨(hitF (M.1 7) (M.1 9) (M.1 10) (M.1 8 7) (M.1 13) (M.1 14) (M.1 6) k (M.1 3 4 * 3).toNat).toNat, by omega⟩
  have eh2 : (hitF (M.1 7) (M.1 9) (M.1 10) (M.1 8 7) (M.1 13) (M.1 14) (M.1 6) k (M.1 3 4 * 3).toNat).toNat = h := by omega
  have hg0 : 0 < Nat.gcd h n := Nat.gcd_pos_of_pos_right _ (by omega)
  have hg1 : Nat.gcd h n ≤ n := Nat.gcd_le_right _ (by omega)
  rw [en2]
  rw [en2] at hhb eh eh2
  refine Cn.of rfl (Nat.le_of_ble_eq_true rfl) (fun G C E => ?_)
  show G 0 [.ref 0, .int (zI (k : Int)), .int (zI 0), .null, .null, .null] [] M
  refine r_aload_n C rfl dX6_odds_0 ?_
  refine r_getr C dX6_odds_1 fl_X6_36 ly_0 rfl ?_
  refine r_aload_n C rfl dX6_odds_4 ?_
  refine r_getr C dX6_odds_5 fl_X6_19 ly_0 rfl ?_
  refine r_aload_n C rfl dX6_odds_8 ?_
  refine r_getr C dX6_odds_9 fl_X6_26 ly_0 rfl ?_
  refine r_iload_n C rfl dX6_odds_12 ?_
  refine r_callV C dX6_odds_13 vw_X6_284 (c_slightsThatSet M (by omega) hv hf) (by decide) rfl ly_41 rfl rfl (Nat.le_of_ble_eq_true rfl) ?_
  intro r T h
  obtain ⟨rfl, hS⟩ := h
  try dsimp only [Option.toList, List.cons_append, List.nil_append]
  rw [en2, eh]
  refine r_istore_n C dX6_odds_16 3 rfl (by decide) rfl ?_
  dsimp only [List.set, Nat.reduceAdd]
  refine r_aload_n C rfl dX6_odds_17 ?_
  refine r_getr C dX6_odds_18 fl_X6_19 ly_0 rfl ?_
  refine r_cVz C dX6_odds_21 vw_X6_287 (c_slightNumbers T) (by decide) rfl ly_3 rfl rfl (Nat.le_of_ble_eq_true rfl) ?_
  rw [hS.1 3 (by omega), en]
  refine r_istore C dX6_odds_24 4 rfl (by decide) rfl ?_
  dsimp only [List.set, Nat.reduceAdd]
  refine r_iload_n C rfl dX6_odds_26 ?_
  refine r_iload C rfl dX6_odds_27 ?_
  refine r_cSz C dX6_odds_29 sw_X6_290 (c_commonDiv T (by omega) (by omega)) (by decide) rfl rfl (Nat.le_of_ble_eq_true rfl) ?_
  refine r_istore C dX6_odds_32 5 rfl (by decide) rfl ?_
  dsimp only [List.set, Nat.reduceAdd]
  refine r_iload C rfl dX6_odds_34 ?_
  refine r_if_ne C (tgt := 41) dX6_odds_36 rfl (by first | assumption | exact rgm (by omega) (by omega)) (fun h36 => ?_) (fun h36 => absurd h36 (by omega))
  refine r_iload_n C rfl dX6_odds_41 ?_
  refine r_if_eq C (tgt := 52) dX6_odds_42 rfl (by first | assumption | exact rgm (by omega) (by omega)) (fun h42 => ?_) (fun h42 => absurd h42 (by decide))
  refine r_iload C rfl dX6_odds_52 ?_
  refine r_iload C rfl dX6_odds_54 ?_
  refine r_idiv C (by omega) (by omega) (by first | assumption | exact rgm (by omega) (by omega)) (by first | assumption | exact rgm (by omega) (by omega)) dX6_odds_56 ?_
  exact r_iret E dX6_odds_57 ⟨by unfold oddF; simp only [Bool.false_eq_true, if_false]; rw [eh2]; rfl, hS⟩
def vPour (w : Int) (bo : Nat → Int) (f : Int) : Int := if w - f ≤ 0 then 0 else bw bo (w - f) ((fb4 bo).toNat + 1)
set_option maxRecDepth 10000 in
set_option maxHeartbeats 1000000 in
theorem c_bottlesFor (M : Mm_) {k : Nat} (hk : (k : Int) < M.1 3 5) (hX : oX M) : Cn 2 kX6_bottlesFor [.ref 0, .int (zI (k : Int))] M (fun r U => r = some (.int (zI (vPour (M.1 7 k) (M.1 12) (FA (M.1 9) (M.1 10) (M.1 8 7) (M.1 13) (M.1 14) k)))) ∧ xS (M) U) := by
  obtain ⟨hp, hv, hf, hbo, hsb, hng, ⟨hs, hsp, hsw, hsy⟩, hfd, hwd, hhk⟩ := id hX
  have hv0 := hv.1
  have hpw := pw_b (k := (M.1 3 5).toNat) (by omega)
  have hp1 := hp.1
  have rk : rg (k : Int) := rgm (by omega) (by omega)
  have hF := FA_b (q := (k : Int)) hf
  unfold FA at hF
  have hwk := hv.2.2.2.2 k (by omega)
  refine Cn.of rfl (Nat.le_of_ble_eq_true rfl) (fun G C E => ?_)
  show G 0 [.ref 0, .int (zI (k : Int)), .null] [] M
  refine r_aload_n C rfl dX6_bottlesFor_0 ?_
  refine r_getr C dX6_bottlesFor_1 fl_X6_19 ly_0 rfl ?_
  refine r_getr C dX6_bottlesFor_4 fl_X6_130 ly_3 rfl ?_
  refine r_iload_n C rfl dX6_bottlesFor_7 ?_
  refine r_iald C dX6_bottlesFor_8 ly_7 rfl (by omega) ?_
  refine r_aload_n C rfl dX6_bottlesFor_9 ?_
  refine r_getr C dX6_bottlesFor_10 fl_X6_26 ly_0 rfl ?_
  refine r_iload_n C rfl dX6_bottlesFor_13 ?_
  refine r_cVz C dX6_bottlesFor_14 vw_X6_133 (c_forceAt8 M (by omega) hf.1 hf.2.1 hf.2.2.1 hf.2.2.2.1 hf.2.2.2.2) (by decide) rfl ly_8 rfl rfl (Nat.le_of_ble_eq_true rfl) ?_
  refine r_isub C dX6_bottlesFor_17 ?_
  refine r_istore_n C dX6_bottlesFor_18 2 rfl (by decide) rfl ?_
  dsimp only [List.set, Nat.reduceAdd]
  refine r_iload_n C rfl dX6_bottlesFor_19 ?_
  refine r_if_gt C (tgt := 27) dX6_bottlesFor_20 rfl (by first | assumption | exact rgm (by omega) (by omega)) (fun h20 => ?_) (fun h20 => ?_)
  · refine r_aload_n C rfl dX6_bottlesFor_27 ?_
    refine r_getr C dX6_bottlesFor_28 fl_X6_26 ly_0 rfl ?_
    refine r_iload_n C rfl dX6_bottlesFor_31 ?_
    refine r_cVz C dX6_bottlesFor_32 vw_X6_281 (c_bottlesWorth M (by omega) (rgm (by omega) (by omega)) hbo) (by decide) rfl ly_8 rfl rfl (Nat.le_of_ble_eq_true rfl) ?_
    exact r_iret E dX6_bottlesFor_35 ⟨by unfold vPour FA; rw [if_neg (by omega)], xS_rf⟩
  · refine r_iconst C dX6_bottlesFor_23 ?_
    refine r_goto C (tgt := 35) dX6_bottlesFor_24 rfl ?_
    exact r_iret E dX6_bottlesFor_35 ⟨by unfold vPour FA; rw [if_pos (by omega)], xS_rf⟩

def vPail (M : Mm_) (k : Nat) (w : Int) : Int := if w = 0 then M.1 7 k else if w = 1 then FA (M.1 9) (M.1 10) (M.1 8 7) (M.1 13) (M.1 14) k else if w = 2 then bt (M.1 8 8) k else if w = 3 then (if M.1 7 k ≤ FA (M.1 9) (M.1 10) (M.1 8 7) (M.1 13) (M.1 14) k then 1 else 0) else if w = 4 then vPour (M.1 7 k) (M.1 12) (FA (M.1 9) (M.1 10) (M.1 8 7) (M.1 13) (M.1 14) k) else if w = 5 then oddF (hitF (M.1 7) (M.1 9) (M.1 10) (M.1 8 7) (M.1 13) (M.1 14) (M.1 6) k (M.1 3 4 * 3).toNat).toNat (M.1 3 4 * 3).toNat true else if w = 6 then oddF (hitF (M.1 7) (M.1 9) (M.1 10) (M.1 8 7) (M.1 13) (M.1 14) (M.1 6) k (M.1 3 4 * 3).toNat).toNat (M.1 3 4 * 3).toNat false else -102

set_option maxRecDepth 10000 in
set_option maxHeartbeats 1000000 in
theorem c_x_pail (M : Mm_) {k : Nat} {w : Int} (hk : (k : Int) < M.1 3 5) (rw_ : rg w) (hX : oX M) : Cn 5 kX6_pail [.ref 0, .int (zI (k : Int)), .int (zI w)] M (fun r U => r = some (.int (zI (vPail M k w))) ∧ xS (M) U) := by
  obtain ⟨hp, hv, hf, hbo, hsb, hng, ⟨hs, hsp, hsw, hsy⟩, hfd, hwd, hhk⟩ := id hX
  have hv0 := hv.1
  have hpw := pw_b (k := (M.1 3 5).toNat) (by omega)
  have hp1 := hp.1
  have rk : rg (k : Int) := rgm (by omega) (by omega)
  refine Cn.of rfl (Nat.le_of_ble_eq_true rfl) (fun G C E => ?_)
  show G 0 [.ref 0, .int (zI (k : Int)), .int (zI w)] [] M
  refine r_aload_n C rfl dX6_pail_0 ?_
  refine r_getr C dX6_pail_1 fl_X6_19 ly_0 rfl ?_
  refine r_iload_n C rfl dX6_pail_4 ?_
  refine r_cVb C dX6_pail_5 vw_X6_127 (c_hasPail M (by assumption) hv) (by decide) rfl ly_3 rfl rfl (Nat.le_of_ble_eq_true rfl) (fun h5 => ?_) (fun h5 => absurd (by omega) h5)
  refine r_if_ne C (tgt := 14) dX6_pail_8 rfl (by first | assumption | exact rgm (by omega) (by omega)) (fun h8 => ?_) (fun h8 => absurd h8 (by decide))
  refine r_iload_n C rfl dX6_pail_14 ?_
  by_cases hout : w < 0 ∨ 6 < w
  · refine r_tout C (tgt := 133) dX6_pail_15 (by first | assumption | exact rgm (by omega) (by omega)) hout rfl ?_
    refine r_bipush C rfl dX6_pail_133 ?_
    exact r_iret E dX6_pail_135 ⟨by unfold vPail; rw [if_neg (by omega), if_neg (by omega), if_neg (by omega), if_neg (by omega), if_neg (by omega), if_neg (by omega), if_neg (by omega)], xS_rf⟩
  · rcases (show w = 0 ∨ w = 1 ∨ w = 2 ∨ w = 3 ∨ w = 4 ∨ w = 5 ∨ w = 6 by omega) with hsw | hsw | hsw | hsw | hsw | hsw | hsw
    · have hsw2 := hsw
      subst hsw
      refine r_tin C (tgt := 56) dX6_pail_15 (by first | assumption | exact rgm (by omega) (by omega)) (by omega) (by omega) (off := 41) rfl rfl ?_
      refine r_aload_n C rfl dX6_pail_56 ?_
      refine r_getr C dX6_pail_57 fl_X6_19 ly_0 rfl ?_
      refine r_getr C dX6_pail_60 fl_X6_130 ly_3 rfl ?_
      refine r_iload_n C rfl dX6_pail_63 ?_
      refine r_iald C dX6_pail_64 ly_7 rfl (by omega) ?_
      exact r_iret E dX6_pail_65 ⟨by unfold vPail; rw [if_pos rfl], xS_rf⟩
    · have hsw2 := hsw
      subst hsw
      refine r_tin C (tgt := 66) dX6_pail_15 (by first | assumption | exact rgm (by omega) (by omega)) (by omega) (by omega) (off := 51) rfl rfl ?_
      refine r_aload_n C rfl dX6_pail_66 ?_
      refine r_getr C dX6_pail_67 fl_X6_26 ly_0 rfl ?_
      refine r_iload_n C rfl dX6_pail_70 ?_
      refine r_cVz C dX6_pail_71 vw_X6_133 (c_forceAt8 M (by omega) hf.1 hf.2.1 hf.2.2.1 hf.2.2.2.1 hf.2.2.2.2) (by decide) rfl ly_8 rfl rfl (Nat.le_of_ble_eq_true rfl) ?_
      exact r_iret E dX6_pail_74 ⟨by unfold vPail; rw [if_neg (by decide), if_pos rfl]; rfl, xS_rf⟩
    · have hsw2 := hsw
      subst hsw
      refine r_tin C (tgt := 75) dX6_pail_15 (by first | assumption | exact rgm (by omega) (by omega)) (by omega) (by omega) (off := 60) rfl rfl ?_
      refine r_aload_n C rfl dX6_pail_75 ?_
      refine r_getr C dX6_pail_76 fl_X6_26 ly_0 rfl ?_
      refine r_iload_n C rfl dX6_pail_79 ?_
      refine r_cVb C dX6_pail_80 vw_X6_137 (c_isSet M (by omega) (by omega) (by omega)) (by decide) rfl ly_8 rfl rfl (Nat.le_of_ble_eq_true rfl) (fun h80 => ?_) (fun h80 => ?_)
      · refine r_if_eq C (tgt := 90) dX6_pail_83 rfl (by first | assumption | exact rgm (by omega) (by omega)) (fun h83 => absurd h83 (by decide)) (fun h83 => ?_)
        refine r_iconst C dX6_pail_86 ?_
        refine r_goto C (tgt := 91) dX6_pail_87 rfl ?_
        exact r_iret E dX6_pail_91 ⟨by unfold vPail; rw [if_neg (by decide), if_neg (by decide), if_pos rfl]; have := bt_b (M.1 8 8) k; rw [show bt (M.1 8 8) k = 1 by omega], xS_rf⟩
      · refine r_if_eq C (tgt := 90) dX6_pail_83 rfl (by first | assumption | exact rgm (by omega) (by omega)) (fun h83 => ?_) (fun h83 => absurd h83 (by decide))
        refine r_iconst C dX6_pail_90 ?_
        exact r_iret E dX6_pail_91 ⟨by unfold vPail; rw [if_neg (by decide), if_neg (by decide), if_pos rfl]; have := bt_b (M.1 8 8) k; rw [show bt (M.1 8 8) k = 0 by omega], xS_rf⟩
    · have hsw2 := hsw
      subst hsw
      refine r_tin C (tgt := 92) dX6_pail_15 (by first | assumption | exact rgm (by omega) (by omega)) (by omega) (by omega) (off := 77) rfl rfl ?_
      refine r_aload_n C rfl dX6_pail_92 ?_
      refine r_getr C dX6_pail_93 fl_X6_19 ly_0 rfl ?_
      refine r_aload_n C rfl dX6_pail_96 ?_
      refine r_getr C dX6_pail_97 fl_X6_26 ly_0 rfl ?_
      refine r_iload_n C rfl dX6_pail_100 ?_
      refine r_cVb C dX6_pail_101 vw_X6_140 (c_wouldSet8 M (by omega) hv hf) (by decide) rfl ly_3 rfl rfl (Nat.le_of_ble_eq_true rfl) (fun h101 => ?_) (fun h101 => ?_)
      · refine r_if_eq C (tgt := 111) dX6_pail_104 rfl (by first | assumption | exact rgm (by omega) (by omega)) (fun h104 => absurd h104 (by decide)) (fun h104 => ?_)
        refine r_iconst C dX6_pail_107 ?_
        refine r_goto C (tgt := 112) dX6_pail_108 rfl ?_
        exact r_iret E dX6_pail_112 ⟨by unfold vPail; rw [if_neg (by decide), if_neg (by decide), if_neg (by decide), if_pos rfl]; rw [if_pos (by assumption)], xS_rf⟩
      · refine r_if_eq C (tgt := 111) dX6_pail_104 rfl (by first | assumption | exact rgm (by omega) (by omega)) (fun h104 => ?_) (fun h104 => absurd h104 (by decide))
        refine r_iconst C dX6_pail_111 ?_
        exact r_iret E dX6_pail_112 ⟨by unfold vPail; rw [if_neg (by decide), if_neg (by decide), if_neg (by decide), if_pos rfl]; rw [if_neg (by assumption)], xS_rf⟩
    · have hsw2 := hsw
      subst hsw
      refine r_tin C (tgt := 113) dX6_pail_15 (by first | assumption | exact rgm (by omega) (by omega)) (by omega) (by omega) (off := 98) rfl rfl ?_
      refine r_aload_n C rfl dX6_pail_113 ?_
      refine r_iload_n C rfl dX6_pail_114 ?_
      refine r_callV C dX6_pail_115 vw_X6_144 (c_bottlesFor M hk hX) (by decide) rfl ly_0 rfl rfl (Nat.le_of_ble_eq_true rfl) ?_
      intro r T h
      obtain ⟨rfl, hS⟩ := h
      try dsimp only [Option.toList, List.cons_append, List.nil_append]
      exact r_iret E dX6_pail_118 ⟨by unfold vPail; rw [if_neg (by decide), if_neg (by decide), if_neg (by decide), if_neg (by decide), if_pos rfl], hS⟩
    · have hsw2 := hsw
      subst hsw
      refine r_tin C (tgt := 119) dX6_pail_15 (by first | assumption | exact rgm (by omega) (by omega)) (by omega) (by omega) (off := 104) rfl rfl ?_
      refine r_aload_n C rfl dX6_pail_119 ?_
      refine r_iload_n C rfl dX6_pail_120 ?_
      refine r_iconst C dX6_pail_121 ?_
      refine r_callV C dX6_pail_122 vw_X6_147 (c_odds1 M hk hX) (by decide) rfl ly_0 rfl rfl (Nat.le_of_ble_eq_true rfl) ?_
      intro r T h
      obtain ⟨rfl, hS⟩ := h
      try dsimp only [Option.toList, List.cons_append, List.nil_append]
      exact r_iret E dX6_pail_125 ⟨by unfold vPail; rw [if_neg (by decide), if_neg (by decide), if_neg (by decide), if_neg (by decide), if_neg (by decide), if_pos rfl], hS⟩
    · have hsw2 := hsw
      subst hsw
      refine r_tin C (tgt := 126) dX6_pail_15 (by first | assumption | exact rgm (by omega) (by omega)) (by omega) (by omega) (off := 111) rfl rfl ?_
      refine r_aload_n C rfl dX6_pail_126 ?_
      refine r_iload_n C rfl dX6_pail_127 ?_
      refine r_iconst C dX6_pail_128 ?_
      refine r_callV C dX6_pail_129 vw_X6_147 (c_odds0 M hk hX) (by decide) rfl ly_0 rfl rfl (Nat.le_of_ble_eq_true rfl) ?_
      intro r T h
      obtain ⟨rfl, hS⟩ := h
      try dsimp only [Option.toList, List.cons_append, List.nil_append]
      exact r_iret E dX6_pail_132 ⟨by unfold vPail; rw [if_neg (by decide), if_neg (by decide), if_neg (by decide), if_neg (by decide), if_neg (by decide), if_neg (by decide), if_pos rfl], hS⟩
set_option maxRecDepth 10000 in
set_option maxHeartbeats 1000000 in
theorem c_x_pail_no (M : Mm_) {a w : Int} (ra : rg a) (ha : ¬ (0 ≤ a ∧ a < M.1 3 5)) (hX : oX M) : Cn 5 kX6_pail [.ref 0, .int (zI a), .int (zI w)] M (fun r U => r = some (.int (zI (-101))) ∧ xS (M) U) := by
  obtain ⟨hp, hv, hf, hbo, hsb, hng, ⟨hs, hsp, hsw, hsy⟩, hfd, hwd, hhk⟩ := id hX
  have hv0 := hv.1
  have hpw := pw_b (k := (M.1 3 5).toNat) (by omega)
  have hp1 := hp.1
  refine Cn.of rfl (Nat.le_of_ble_eq_true rfl) (fun G C E => ?_)
  show G 0 [.ref 0, .int (zI a), .int (zI w)] [] M
  refine r_aload_n C rfl dX6_pail_0 ?_
  refine r_getr C dX6_pail_1 fl_X6_19 ly_0 rfl ?_
  refine r_iload_n C rfl dX6_pail_4 ?_
  refine r_cVb C dX6_pail_5 vw_X6_127 (c_hasPail M (by assumption) hv) (by decide) rfl ly_3 rfl rfl (Nat.le_of_ble_eq_true rfl) (fun h5 => absurd h5 (by omega)) (fun h5 => ?_)
  refine r_if_ne C (tgt := 14) dX6_pail_8 rfl (by first | assumption | exact rgm (by omega) (by omega)) (fun h8 => absurd h8 (by decide)) (fun h8 => ?_)
  refine r_bipush C rfl dX6_pail_11 ?_
  exact r_iret E dX6_pail_13 ⟨rfl, xS_rf⟩
def mSli (M : Mm_) (k : Nat) (q : Int) : Mm_ := mU (mR M 9 (sl1 (M.1 6) ((k : Int) * 3 + q) (M.1 9))) 11 k (M.1 11 k + 1)
set_option maxRecDepth 10000 in
set_option maxHeartbeats 1000000 in
theorem c_x_slight (M : Mm_) {k : Nat} {q : Int} (hk : (k : Int) < M.1 3 4) (rq : rg q) (hX : oX M) : Cn 3 kX6_slight [.ref 0, .int (zI (k : Int)), .int (zI q)] M (fun r U => r = some (.int (zI (if 0 ≤ q ∧ q < 3 then sl1 (M.1 6) ((k : Int) * 3 + q) (M.1 9) k else -102))) ∧ xS (if 0 ≤ q ∧ q < 3 then mSli M k q else M) U) := by
  obtain ⟨hp, hv, hf, hbo, hsb, hng, ⟨hs, hsp, hsw, hsy⟩, hfd, hwd, hhk⟩ := id hX
  have hv0 := hv.1
  have hpw := pw_b (k := (M.1 3 5).toNat) (by omega)
  have hp1 := hp.1
  have rk : rg (k : Int) := rgm (by omega) (by omega)
  refine Cn.of rfl (Nat.le_of_ble_eq_true rfl) (fun G C E => ?_)
  show G 0 [.ref 0, .int (zI (k : Int)), .int (zI q)] [] M
  refine r_aload_n C rfl dX6_slight_0 ?_
  refine r_getr C dX6_slight_1 fl_X6_19 ly_0 rfl ?_
  refine r_iload_n C rfl dX6_slight_4 ?_
  refine r_cVb C dX6_slight_5 vw_X6_75 (c_hasPerson M (by assumption) hv) (by decide) rfl ly_3 rfl rfl (Nat.le_of_ble_eq_true rfl) (fun h5 => ?_) (fun h5 => absurd (by omega) h5)
  refine r_if_ne C (tgt := 14) dX6_slight_8 rfl (by first | assumption | exact rgm (by omega) (by omega)) (fun h8 => ?_) (fun h8 => absurd h8 (by decide))
  refine r_iload_n C rfl dX6_slight_14 ?_
  refine r_cSb C dX6_slight_15 sw_X6_151 (c_isSlight M (by assumption)) (by decide) rfl rfl (Nat.le_of_ble_eq_true rfl) (fun h15 => ?_) (fun h15 => ?_)
  · refine r_if_ne C (tgt := 24) dX6_slight_18 rfl (by first | assumption | exact rgm (by omega) (by omega)) (fun h18 => ?_) (fun h18 => absurd h18 (by decide))
    refine r_aload_n C rfl dX6_slight_24 ?_
    refine r_getr C dX6_slight_25 fl_X6_19 ly_0 rfl ?_
    refine r_aload_n C rfl dX6_slight_28 ?_
    refine r_getr C dX6_slight_29 fl_X6_26 ly_0 rfl ?_
    refine r_iload_n C rfl dX6_slight_32 ?_
    refine r_iconst C dX6_slight_33 ?_
    refine r_imul C dX6_slight_34 ?_
    refine r_iload_n C rfl dX6_slight_35 ?_
    refine r_iadd C dX6_slight_36 ?_
    refine r_cVv C dX6_slight_37 vw_X6_154 (c_offend8 M (by omega) (by omega) hv hf.1) (by decide) rfl ly_3 rfl rfl (Nat.le_of_ble_eq_true rfl) ?_
    refine r_aload_n C rfl dX6_slight_40 ?_
    refine r_getr C dX6_slight_41 fl_X6_26 ly_0 rfl ?_
    refine r_getr C dX6_slight_44 fl_X6_99 ly_8 rfl ?_
    refine r_iload_n C rfl dX6_slight_47 ?_
    refine r_dup2 C rfl rfl dX6_slight_48 ?_
    refine r_iald C dX6_slight_49 ly_11 rfl (by omega) ?_
    refine r_iconst C dX6_slight_50 ?_
    refine r_iadd C dX6_slight_51 ?_
    refine r_iast C dX6_slight_52 ly_11 rfl (by omega) ?_
    refine r_aload_n C rfl dX6_slight_53 ?_
    refine r_getr C dX6_slight_54 fl_X6_26 ly_0 rfl ?_
    refine r_getr C dX6_slight_57 fl_X6_96 ly_8 rfl ?_
    refine r_iload_n C rfl dX6_slight_60 ?_
    refine r_iald C dX6_slight_61 ly_9 rfl (by omega) ?_
    exact r_iret E dX6_slight_62 ⟨by rw [if_pos (by assumption), mU_ne (by decide), mR_eq], by rw [if_pos (by assumption)]; unfold mSli; rw [show (mR M 9 (sl1 (M.1 6) ((k : Int) * 3 + q) (M.1 9))).1 11 k = M.1 11 k by rw [mR_ne (by decide)]]; exact xS_rf⟩
  · refine r_if_ne C (tgt := 24) dX6_slight_18 rfl (by first | assumption | exact rgm (by omega) (by omega)) (fun h18 => absurd h18 (by decide)) (fun h18 => ?_)
    refine r_bipush C rfl dX6_slight_21 ?_
    exact r_iret E dX6_slight_23 ⟨by rw [if_neg (by assumption)], by rw [if_neg (by assumption)]; exact xS_rf⟩
set_option maxRecDepth 10000 in
set_option maxHeartbeats 1000000 in
theorem c_x_slight_no (M : Mm_) {a w : Int} (ra : rg a) (ha : ¬ (0 ≤ a ∧ a < M.1 3 4)) (hX : oX M) : Cn 3 kX6_slight [.ref 0, .int (zI a), .int (zI w)] M (fun r U => r = some (.int (zI (-101))) ∧ xS (M) U) := by
  obtain ⟨hp, hv, hf, hbo, hsb, hng, ⟨hs, hsp, hsw, hsy⟩, hfd, hwd, hhk⟩ := id hX
  have hv0 := hv.1
  have hpw := pw_b (k := (M.1 3 5).toNat) (by omega)
  have hp1 := hp.1
  refine Cn.of rfl (Nat.le_of_ble_eq_true rfl) (fun G C E => ?_)
  show G 0 [.ref 0, .int (zI a), .int (zI w)] [] M
  refine r_aload_n C rfl dX6_slight_0 ?_
  refine r_getr C dX6_slight_1 fl_X6_19 ly_0 rfl ?_
  refine r_iload_n C rfl dX6_slight_4 ?_
  refine r_cVb C dX6_slight_5 vw_X6_75 (c_hasPerson M (by assumption) hv) (by decide) rfl ly_3 rfl rfl (Nat.le_of_ble_eq_true rfl) (fun h5 => absurd h5 (by omega)) (fun h5 => ?_)
  refine r_if_ne C (tgt := 14) dX6_slight_8 rfl (by first | assumption | exact rgm (by omega) (by omega)) (fun h8 => absurd h8 (by decide)) (fun h8 => ?_)
  refine r_bipush C rfl dX6_slight_11 ?_
  exact r_iret E dX6_slight_13 ⟨rfl, xS_rf⟩
set_option maxRecDepth 10000 in
set_option maxHeartbeats 1000000 in
theorem c_x_soothe (M : Mm_) {k : Nat} (hk : (k : Int) < M.1 3 4) (hX : oX M) : Cn 2 kX6_soothe [.ref 0, .int (zI (k : Int))] M (fun r U => r = some (.int (zI (M.1 9 k))) ∧ xS (mU M 9 k 0) U) := by
  obtain ⟨hp, hv, hf, hbo, hsb, hng, ⟨hs, hsp, hsw, hsy⟩, hfd, hwd, hhk⟩ := id hX
  have hv0 := hv.1
  have hpw := pw_b (k := (M.1 3 5).toNat) (by omega)
  have hp1 := hp.1
  have rk : rg (k : Int) := rgm (by omega) (by omega)
  refine Cn.of rfl (Nat.le_of_ble_eq_true rfl) (fun G C E => ?_)
  show G 0 [.ref 0, .int (zI (k : Int)), .null] [] M
  refine r_aload_n C rfl dX6_soothe_0 ?_
  refine r_getr C dX6_soothe_1 fl_X6_19 ly_0 rfl ?_
  refine r_iload_n C rfl dX6_soothe_4 ?_
  refine r_cVb C dX6_soothe_5 vw_X6_75 (c_hasPerson M (by assumption) hv) (by decide) rfl ly_3 rfl rfl (Nat.le_of_ble_eq_true rfl) (fun h5 => ?_) (fun h5 => absurd (by omega) h5)
  refine r_if_ne C (tgt := 14) dX6_soothe_8 rfl (by first | assumption | exact rgm (by omega) (by omega)) (fun h8 => ?_) (fun h8 => absurd h8 (by decide))
  refine r_aload_n C rfl dX6_soothe_14 ?_
  refine r_getr C dX6_soothe_15 fl_X6_26 ly_0 rfl ?_
  refine r_getr C dX6_soothe_18 fl_X6_96 ly_8 rfl ?_
  refine r_iload_n C rfl dX6_soothe_21 ?_
  refine r_iald C dX6_soothe_22 ly_9 rfl (by omega) ?_
  refine r_istore_n C dX6_soothe_23 2 rfl (by decide) rfl ?_
  dsimp only [List.set, Nat.reduceAdd]
  refine r_aload_n C rfl dX6_soothe_24 ?_
  refine r_getr C dX6_soothe_25 fl_X6_26 ly_0 rfl ?_
  refine r_getr C dX6_soothe_28 fl_X6_96 ly_8 rfl ?_
  refine r_iload_n C rfl dX6_soothe_31 ?_
  refine r_iconst C dX6_soothe_32 ?_
  refine r_iast C dX6_soothe_33 ly_9 rfl (by omega) ?_
  refine r_iload_n C rfl dX6_soothe_34 ?_
  exact r_iret E dX6_soothe_35 ⟨rfl, xS_rf⟩
set_option maxRecDepth 10000 in
set_option maxHeartbeats 1000000 in
theorem c_x_soothe_no (M : Mm_) {a : Int} (ra : rg a) (ha : ¬ (0 ≤ a ∧ a < M.1 3 4)) (hX : oX M) : Cn 2 kX6_soothe [.ref 0, .int (zI a)] M (fun r U => r = some (.int (zI (-101))) ∧ xS (M) U) := by
  obtain ⟨hp, hv, hf, hbo, hsb, hng, ⟨hs, hsp, hsw, hsy⟩, hfd, hwd, hhk⟩ := id hX
  have hv0 := hv.1
  have hpw := pw_b (k := (M.1 3 5).toNat) (by omega)
  have hp1 := hp.1
  refine Cn.of rfl (Nat.le_of_ble_eq_true rfl) (fun G C E => ?_)
  show G 0 [.ref 0, .int (zI a), .null] [] M
  refine r_aload_n C rfl dX6_soothe_0 ?_
  refine r_getr C dX6_soothe_1 fl_X6_19 ly_0 rfl ?_
  refine r_iload_n C rfl dX6_soothe_4 ?_
  refine r_cVb C dX6_soothe_5 vw_X6_75 (c_hasPerson M (by assumption) hv) (by decide) rfl ly_3 rfl rfl (Nat.le_of_ble_eq_true rfl) (fun h5 => absurd h5 (by omega)) (fun h5 => ?_)
  refine r_if_ne C (tgt := 14) dX6_soothe_8 rfl (by first | assumption | exact rgm (by omega) (by omega)) (fun h8 => absurd h8 (by decide)) (fun h8 => ?_)
  refine r_bipush C rfl dX6_soothe_11 ?_
  exact r_iret E dX6_soothe_13 ⟨rfl, xS_rf⟩
set_option maxRecDepth 10000 in
set_option maxHeartbeats 1000000 in
theorem c_x_sit (M : Mm_) {k : Nat} {q : Int} (hk : (k : Int) < M.1 3 4) (rq : rg q) (hq : 0 ≤ q ∧ q < 6) (hX : oX M) : Cn 2 kX6_sit [.ref 0, .int (zI (k : Int)), .int (zI q)] M (fun r U => r = some (.int (zI (M.1 10 k))) ∧ xS (mU M 10 k q) U) := by
  obtain ⟨hp, hv, hf, hbo, hsb, hng, ⟨hs, hsp, hsw, hsy⟩, hfd, hwd, hhk⟩ := id hX
  have hv0 := hv.1
  have hpw := pw_b (k := (M.1 3 5).toNat) (by omega)
  have hp1 := hp.1
  have rk : rg (k : Int) := rgm (by omega) (by omega)
  refine Cn.of rfl (Nat.le_of_ble_eq_true rfl) (fun G C E => ?_)
  show G 0 [.ref 0, .int (zI (k : Int)), .int (zI q), .null] [] M
  refine r_aload_n C rfl dX6_sit_0 ?_
  refine r_getr C dX6_sit_1 fl_X6_19 ly_0 rfl ?_
  refine r_iload_n C rfl dX6_sit_4 ?_
  refine r_cVb C dX6_sit_5 vw_X6_75 (c_hasPerson M (by assumption) hv) (by decide) rfl ly_3 rfl rfl (Nat.le_of_ble_eq_true rfl) (fun h5 => ?_) (fun h5 => absurd (by omega) h5)
  refine r_if_eq C (tgt := 18) dX6_sit_8 rfl (by first | assumption | exact rgm (by omega) (by omega)) (fun h8 => absurd h8 (by decide)) (fun h8 => ?_)
  refine r_iload_n C rfl dX6_sit_11 ?_
  refine r_cSb C dX6_sit_12 sw_X6_158 (c_isPlace M (by assumption)) (by decide) rfl rfl (Nat.le_of_ble_eq_true rfl) (fun h12 => ?_) (fun h12 => absurd (by omega) h12)
  refine r_if_ne C (tgt := 21) dX6_sit_15 rfl (by first | assumption | exact rgm (by omega) (by omega)) (fun h15 => ?_) (fun h15 => absurd h15 (by decide))
  refine r_aload_n C rfl dX6_sit_21 ?_
  refine r_getr C dX6_sit_22 fl_X6_26 ly_0 rfl ?_
  refine r_getr C dX6_sit_25 fl_X6_93 ly_8 rfl ?_
  refine r_iload_n C rfl dX6_sit_28 ?_
  refine r_iald C dX6_sit_29 ly_10 rfl (by omega) ?_
  refine r_istore_n C dX6_sit_30 3 rfl (by decide) rfl ?_
  dsimp only [List.set, Nat.reduceAdd]
  refine r_aload_n C rfl dX6_sit_31 ?_
  refine r_getr C dX6_sit_32 fl_X6_26 ly_0 rfl ?_
  refine r_getr C dX6_sit_35 fl_X6_93 ly_8 rfl ?_
  refine r_iload_n C rfl dX6_sit_38 ?_
  refine r_iload_n C rfl dX6_sit_39 ?_
  refine r_iast C dX6_sit_40 ly_10 rfl (by omega) ?_
  refine r_iload_n C rfl dX6_sit_41 ?_
  exact r_iret E dX6_sit_42 ⟨rfl, xS_rf⟩
set_option maxRecDepth 10000 in
set_option maxHeartbeats 1000000 in
theorem c_x_sit_no (M : Mm_) {a w : Int} (ra : rg a) (rw_ : rg w) (ha : ¬ ((0 ≤ a ∧ a < M.1 3 4) ∧ (0 ≤ w ∧ w < 6))) (hX : oX M) : Cn 2 kX6_sit [.ref 0, .int (zI a), .int (zI w)] M (fun r U => r = some (.int (zI (-101))) ∧ xS (M) U) := by
  obtain ⟨hp, hv, hf, hbo, hsb, hng, ⟨hs, hsp, hsw, hsy⟩, hfd, hwd, hhk⟩ := id hX
  have hv0 := hv.1
  have hpw := pw_b (k := (M.1 3 5).toNat) (by omega)
  have hp1 := hp.1
  refine Cn.of rfl (Nat.le_of_ble_eq_true rfl) (fun G C E => ?_)
  show G 0 [.ref 0, .int (zI a), .int (zI w), .null] [] M
  refine r_aload_n C rfl dX6_sit_0 ?_
  refine r_getr C dX6_sit_1 fl_X6_19 ly_0 rfl ?_
  refine r_iload_n C rfl dX6_sit_4 ?_
  refine r_cVb C dX6_sit_5 vw_X6_75 (c_hasPerson M (by assumption) hv) (by decide) rfl ly_3 rfl rfl (Nat.le_of_ble_eq_true rfl) (fun h5 => ?_) (fun h5 => ?_)
  · refine r_if_eq C (tgt := 18) dX6_sit_8 rfl (by first | assumption | exact rgm (by omega) (by omega)) (fun h8 => absurd h8 (by decide)) (fun h8 => ?_)
    refine r_iload_n C rfl dX6_sit_11 ?_
    refine r_cSb C dX6_sit_12 sw_X6_158 (c_isPlace M (by assumption)) (by decide) rfl rfl (Nat.le_of_ble_eq_true rfl) (fun h12 => absurd h12 (by omega)) (fun h12 => ?_)
    refine r_if_ne C (tgt := 21) dX6_sit_15 rfl (by first | assumption | exact rgm (by omega) (by omega)) (fun h15 => absurd h15 (by decide)) (fun h15 => ?_)
    refine r_bipush C rfl dX6_sit_18 ?_
    exact r_iret E dX6_sit_20 ⟨rfl, xS_rf⟩
  · refine r_if_eq C (tgt := 18) dX6_sit_8 rfl (by first | assumption | exact rgm (by omega) (by omega)) (fun h8 => ?_) (fun h8 => absurd h8 (by decide))
    refine r_bipush C rfl dX6_sit_18 ?_
    exact r_iret E dX6_sit_20 ⟨rfl, xS_rf⟩
def mNig (M : Mm_) : Mm_ := mU (mR M 9 (nt (M.1 4) (M.1 3 4).toNat (M.1 9))) 8 9 (M.1 8 9 + 1)
set_option maxRecDepth 10000 in
set_option maxHeartbeats 1000000 in
theorem c_x_night (M : Mm_) (hX : oX M) : Cn 2 kX6_night [.ref 0] M (fun r U => r = some (.int (zI (if 0 < M.1 3 4 then (if 99 ≤ M.1 8 9 then -104 else M.1 8 9 + 1) else -103))) ∧ xS (if 0 < M.1 3 4 ∧ M.1 8 9 < 99 then mNig M else M) U) := by
  obtain ⟨hp, hv, hf, hbo, hsb, hng, ⟨hs, hsp, hsw, hsy⟩, hfd, hwd, hhk⟩ := id hX
  have hv0 := hv.1
  have hpw := pw_b (k := (M.1 3 5).toNat) (by omega)
  have hp1 := hp.1
  refine Cn.of rfl (Nat.le_of_ble_eq_true rfl) (fun G C E => ?_)
  show G 0 [.ref 0] [] M
  refine r_aload_n C rfl dX6_night_0 ?_
  refine r_getr C dX6_night_1 fl_X6_19 ly_0 rfl ?_
  refine r_cVb C dX6_night_4 vw_X6_161 (c_isThere M hv) (by decide) rfl ly_3 rfl rfl (Nat.le_of_ble_eq_true rfl) (fun h4 => ?_) (fun h4 => ?_)
  · refine r_if_ne C (tgt := 13) dX6_night_7 rfl (by first | assumption | exact rgm (by omega) (by omega)) (fun h7 => ?_) (fun h7 => absurd h7 (by decide))
    refine r_aload_n C rfl dX6_night_13 ?_
    refine r_getr C dX6_night_14 fl_X6_26 ly_0 rfl ?_
    refine r_geti C dX6_night_17 fl_X6_164 ly_8 rfl ?_
    refine r_bipush C rfl dX6_night_20 ?_
    refine r_icmp_lt C (tgt := 28) dX6_night_22 rfl (by first | assumption | exact rgm (by omega) (by omega)) (by first | assumption | exact rgm (by omega) (by omega)) (fun h22 => ?_) (fun h22 => ?_)
    · refine r_aload_n C rfl dX6_night_28 ?_
      refine r_getr C dX6_night_29 fl_X6_19 ly_0 rfl ?_
      refine r_aload_n C rfl dX6_night_32 ?_
      refine r_getr C dX6_night_33 fl_X6_26 ly_0 rfl ?_
      refine r_cVv C dX6_night_36 vw_X6_167 (c_passNight8 M hv hf.1) (by decide) rfl ly_3 rfl rfl (Nat.le_of_ble_eq_true rfl) ?_
      refine r_aload_n C rfl dX6_night_39 ?_
      refine r_getr C dX6_night_40 fl_X6_26 ly_0 rfl ?_
      refine r_dup C rfl dX6_night_43 ?_
      refine r_geti C dX6_night_44 fl_X6_164 ly_8 rfl ?_
      refine r_iconst C dX6_night_47 ?_
      refine r_iadd C dX6_night_48 ?_
      refine r_put C dX6_night_49 fl_X6_164 rfl (Or.inl rfl) ly_8 rfl ?_
      refine r_aload_n C rfl dX6_night_52 ?_
      refine r_getr C dX6_night_53 fl_X6_26 ly_0 rfl ?_
      refine r_geti C dX6_night_56 fl_X6_164 ly_8 rfl ?_
      exact r_iret E dX6_night_59 ⟨by rw [if_pos (by assumption), if_neg (by omega)]; simp [mU, mR], by rw [if_pos (by omega)]; unfold mNig; rw [show (mR M 9 (nt (M.1 4) (M.1 3 4).toNat (M.1 9))).1 8 9 = M.1 8 9 by rw [mR_ne (by decide)]]; exact xS_rf⟩
    · refine r_bipush C rfl dX6_night_25 ?_
      exact r_iret E dX6_night_27 ⟨by rw [if_pos (by assumption), if_pos (by omega)], by rw [if_neg (by omega)]; exact xS_rf⟩
  · refine r_if_ne C (tgt := 13) dX6_night_7 rfl (by first | assumption | exact rgm (by omega) (by omega)) (fun h7 => absurd h7 (by decide)) (fun h7 => ?_)
    refine r_bipush C rfl dX6_night_10 ?_
    exact r_iret E dX6_night_12 ⟨by rw [if_neg (by assumption)], by rw [if_neg (by omega)]; exact xS_rf⟩
def mCur (M : Mm_) : Mm_ := mU (mU (mU M 8 8 (M.1 8 8 + (an (WDc (M.1 7) (FA (M.1 9) (M.1 10) (M.1 8 7) (M.1 13) (M.1 14)) (M.1 3 5).toNat) (M.1 8 8)))) 8 10 (M.1 8 10 + ob (an (WDc (M.1 7) (FA (M.1 9) (M.1 10) (M.1 8 7) (M.1 13) (M.1 14)) (M.1 3 5).toNat) (M.1 8 8)))) 8 7 0
set_option maxRecDepth 10000 in
set_option maxHeartbeats 1000000 in
theorem c_x_curdle (M : Mm_) (hX : oX M) : Cn 3 kX6_curdle [.ref 0] M (fun r U => r = some (.int (zI (if 0 < M.1 3 4 then ob (an (WDc (M.1 7) (FA (M.1 9) (M.1 10) (M.1 8 7) (M.1 13) (M.1 14)) (M.1 3 5).toNat) (M.1 8 8)) else -103))) ∧ xS (if 0 < M.1 3 4 then mCur M else M) U) := by
  obtain ⟨hp, hv, hf, hbo, hsb, hng, ⟨hs, hsp, hsw, hsy⟩, hfd, hwd, hhk⟩ := id hX
  have hv0 := hv.1
  have hpw := pw_b (k := (M.1 3 5).toNat) (by omega)
  have hp1 := hp.1
  have hWb := WDc_b (M.1 7) (FA (M.1 9) (M.1 10) (M.1 8 7) (M.1 13) (M.1 14)) (M.1 3 5).toNat (by omega)
  have han := an_b (a := (WDc (M.1 7) (FA (M.1 9) (M.1 10) (M.1 8 7) (M.1 13) (M.1 14)) (M.1 3 5).toNat)) (b := M.1 8 8) hWb.1 hWb.2 (by omega) (by omega)
  refine Cn.of rfl (Nat.le_of_ble_eq_true rfl) (fun G C E => ?_)
  show G 0 [.ref 0, .null, .null] [] M
  refine r_aload_n C rfl dX6_curdle_0 ?_
  refine r_getr C dX6_curdle_1 fl_X6_19 ly_0 rfl ?_
  refine r_cVb C dX6_curdle_4 vw_X6_161 (c_isThere M hv) (by decide) rfl ly_3 rfl rfl (Nat.le_of_ble_eq_true rfl) (fun h4 => ?_) (fun h4 => ?_)
  · refine r_if_ne C (tgt := 13) dX6_curdle_7 rfl (by first | assumption | exact rgm (by omega) (by omega)) (fun h7 => ?_) (fun h7 => absurd h7 (by decide))
    refine r_aload_n C rfl dX6_curdle_13 ?_
    refine r_getr C dX6_curdle_14 fl_X6_19 ly_0 rfl ?_
    refine r_aload_n C rfl dX6_curdle_17 ?_
    refine r_getr C dX6_curdle_18 fl_X6_26 ly_0 rfl ?_
    refine r_cVz C dX6_curdle_21 vw_X6_171 (c_would8 M hv hf) (by decide) rfl ly_3 rfl rfl (Nat.le_of_ble_eq_true rfl) ?_
    refine r_aload_n C rfl dX6_curdle_24 ?_
    refine r_getr C dX6_curdle_25 fl_X6_26 ly_0 rfl ?_
    refine r_geti C dX6_curdle_28 fl_X6_175 ly_8 rfl ?_
    refine r_iconst C dX6_curdle_31 ?_
    refine r_ixor C (v := -1 - M.1 8 8) (zb_not (by omega) (by omega)) dX6_curdle_32 ?_
    refine r_iand C (v := (an (WDc (M.1 7) (FA (M.1 9) (M.1 10) (M.1 8 7) (M.1 13) (M.1 14)) (M.1 3 5).toNat) (M.1 8 8))) (zb_an2 (by omega) (by omega) (by omega) (by omega)) dX6_curdle_33 ?_
    refine r_istore_n C dX6_curdle_34 1 rfl (by decide) rfl ?_
    dsimp only [List.set, Nat.reduceAdd]
    refine r_iload_n C rfl dX6_curdle_35 ?_
    refine r_cSz C dX6_curdle_36 sw_X6_178 (c_bitCount M (by omega) (by omega)) (by decide) rfl rfl (Nat.le_of_ble_eq_true rfl) ?_
    refine r_istore_n C dX6_curdle_39 2 rfl (by decide) rfl ?_
    dsimp only [List.set, Nat.reduceAdd]
    refine r_aload_n C rfl dX6_curdle_40 ?_
    refine r_getr C dX6_curdle_41 fl_X6_26 ly_0 rfl ?_
    refine r_dup C rfl dX6_curdle_44 ?_
    refine r_geti C dX6_curdle_45 fl_X6_175 ly_8 rfl ?_
    refine r_iload_n C rfl dX6_curdle_48 ?_
    refine r_ior C (v := M.1 8 8 + (an (WDc (M.1 7) (FA (M.1 9) (M.1 10) (M.1 8 7) (M.1 13) (M.1 14)) (M.1 3 5).toNat) (M.1 8 8))) han.2.2.2 dX6_curdle_49 ?_
    refine r_put C dX6_curdle_50 fl_X6_175 rfl (Or.inl rfl) ly_8 rfl ?_
    refine r_aload_n C rfl dX6_curdle_53 ?_
    refine r_getr C dX6_curdle_54 fl_X6_26 ly_0 rfl ?_
    refine r_dup C rfl dX6_curdle_57 ?_
    refine r_geti C dX6_curdle_58 fl_X6_183 ly_8 rfl ?_
    refine r_iload_n C rfl dX6_curdle_61 ?_
    refine r_iadd C dX6_curdle_62 ?_
    refine r_put C dX6_curdle_63 fl_X6_183 rfl (Or.inl rfl) ly_8 rfl ?_
    refine r_aload_n C rfl dX6_curdle_66 ?_
    refine r_getr C dX6_curdle_67 fl_X6_26 ly_0 rfl ?_
    refine r_iconst C dX6_curdle_70 ?_
    refine r_put C dX6_curdle_71 fl_X6_186 rfl (Or.inl rfl) ly_8 rfl ?_
    refine r_iload_n C rfl dX6_curdle_74 ?_
    exact r_iret E dX6_curdle_75 ⟨by rw [if_pos (by assumption)], by rw [if_pos (by assumption)]; unfold mCur; rw [show (mU M 8 8 (M.1 8 8 + (an (WDc (M.1 7) (FA (M.1 9) (M.1 10) (M.1 8 7) (M.1 13) (M.1 14)) (M.1 3 5).toNat) (M.1 8 8)))).1 8 10 = M.1 8 10 by simp [mU]]; exact xS_rf⟩
  · refine r_if_ne C (tgt := 13) dX6_curdle_7 rfl (by first | assumption | exact rgm (by omega) (by omega)) (fun h7 => absurd h7 (by decide)) (fun h7 => ?_)
    refine r_bipush C rfl dX6_curdle_10 ?_
    exact r_iret E dX6_curdle_12 ⟨by rw [if_neg (by assumption)], by rw [if_neg (by assumption)]; exact xS_rf⟩
set_option maxRecDepth 10000 in
set_option maxHeartbeats 1000000 in
theorem c_x_fresh (M : Mm_) {k : Nat} (hk : (k : Int) < M.1 3 5) (hX : oX M) : Cn 2 kX6_fresh [.ref 0, .int (zI (k : Int))] M (fun r U => r = some (.int (zI (bt (M.1 8 8) k))) ∧ xS (mU M 8 8 (an (M.1 8 8) (2 ^ k))) U) := by
  obtain ⟨hp, hv, hf, hbo, hsb, hng, ⟨hs, hsp, hsw, hsy⟩, hfd, hwd, hhk⟩ := id hX
  have hv0 := hv.1
  have hpw := pw_b (k := (M.1 3 5).toNat) (by omega)
  have hp1 := hp.1
  have rk : rg (k : Int) := rgm (by omega) (by omega)
  have hbt := bt_b (M.1 8 8) k
  have hpk : (1 : Int) ≤ 2 ^ k ∧ (2 : Int) ^ k < 64 := by
    rcases (show k = 0 ∨ k = 1 ∨ k = 2 ∨ k = 3 ∨ k = 4 ∨ k = 5 by omega) with rfl | rfl | rfl | rfl | rfl | rfl <;> decide
  refine Cn.of rfl (Nat.le_of_ble_eq_true rfl) (fun G C E => ?_)
  show G 0 [.ref 0, .int (zI (k : Int)), .null] [] M
  refine r_aload_n C rfl dX6_fresh_0 ?_
  refine r_getr C dX6_fresh_1 fl_X6_19 ly_0 rfl ?_
  refine r_iload_n C rfl dX6_fresh_4 ?_
  refine r_cVb C dX6_fresh_5 vw_X6_127 (c_hasPail M (by assumption) hv) (by decide) rfl ly_3 rfl rfl (Nat.le_of_ble_eq_true rfl) (fun h5 => ?_) (fun h5 => absurd (by omega) h5)
  refine r_if_ne C (tgt := 14) dX6_fresh_8 rfl (by first | assumption | exact rgm (by omega) (by omega)) (fun h8 => ?_) (fun h8 => absurd h8 (by decide))
  refine r_aload_n C rfl dX6_fresh_14 ?_
  refine r_getr C dX6_fresh_15 fl_X6_26 ly_0 rfl ?_
  refine r_iload_n C rfl dX6_fresh_18 ?_
  refine r_cVb C dX6_fresh_19 vw_X6_137 (c_isSet M (by omega) (by omega) (by omega)) (by decide) rfl ly_8 rfl rfl (Nat.le_of_ble_eq_true rfl) (fun h19 => ?_) (fun h19 => ?_)
  · refine r_if_eq C (tgt := 29) dX6_fresh_22 rfl (by first | assumption | exact rgm (by omega) (by omega)) (fun h22 => absurd h22 (by decide)) (fun h22 => ?_)
    refine r_iconst C dX6_fresh_25 ?_
    refine r_goto C (tgt := 30) dX6_fresh_26 rfl ?_
    refine r_istore_n C dX6_fresh_30 2 rfl (by decide) rfl ?_
    dsimp only [List.set, Nat.reduceAdd]
    refine r_aload_n C rfl dX6_fresh_31 ?_
    refine r_getr C dX6_fresh_32 fl_X6_26 ly_0 rfl ?_
    refine r_dup C rfl dX6_fresh_35 ?_
    refine r_geti C dX6_fresh_36 fl_X6_175 ly_8 rfl ?_
    refine r_iconst C dX6_fresh_39 ?_
    refine r_iload_n C rfl dX6_fresh_40 ?_
    refine r_ishl C (v := 2 ^ k) (zb_shl (by omega)) dX6_fresh_41 ?_
    refine r_iconst C dX6_fresh_42 ?_
    refine r_ixor C (v := -1 - 2 ^ k) (zb_not (by omega) (by omega)) dX6_fresh_43 ?_
    refine r_iand C (v := an (M.1 8 8) (2 ^ k)) (zb_an2 (by omega) (by omega) (by omega) (by omega)) dX6_fresh_44 ?_
    refine r_put C dX6_fresh_45 fl_X6_175 rfl (Or.inl rfl) ly_8 rfl ?_
    refine r_iload_n C rfl dX6_fresh_48 ?_
    exact r_iret E dX6_fresh_49 ⟨by rw [show bt (M.1 8 8) k = 1 by omega], xS_rf⟩
  · refine r_if_eq C (tgt := 29) dX6_fresh_22 rfl (by first | assumption | exact rgm (by omega) (by omega)) (fun h22 => ?_) (fun h22 => absurd h22 (by decide))
    refine r_iconst C dX6_fresh_29 ?_
    refine r_istore_n C dX6_fresh_30 2 rfl (by decide) rfl ?_
    dsimp only [List.set, Nat.reduceAdd]
    refine r_aload_n C rfl dX6_fresh_31 ?_
    refine r_getr C dX6_fresh_32 fl_X6_26 ly_0 rfl ?_
    refine r_dup C rfl dX6_fresh_35 ?_
    refine r_geti C dX6_fresh_36 fl_X6_175 ly_8 rfl ?_
    refine r_iconst C dX6_fresh_39 ?_
    refine r_iload_n C rfl dX6_fresh_40 ?_
    refine r_ishl C (v := 2 ^ k) (zb_shl (by omega)) dX6_fresh_41 ?_
    refine r_iconst C dX6_fresh_42 ?_
    refine r_ixor C (v := -1 - 2 ^ k) (zb_not (by omega) (by omega)) dX6_fresh_43 ?_
    refine r_iand C (v := an (M.1 8 8) (2 ^ k)) (zb_an2 (by omega) (by omega) (by omega) (by omega)) dX6_fresh_44 ?_
    refine r_put C dX6_fresh_45 fl_X6_175 rfl (Or.inl rfl) ly_8 rfl ?_
    refine r_iload_n C rfl dX6_fresh_48 ?_
    exact r_iret E dX6_fresh_49 ⟨by rw [show bt (M.1 8 8) k = 0 by omega], xS_rf⟩
set_option maxRecDepth 10000 in
set_option maxHeartbeats 1000000 in
theorem c_x_fresh_no (M : Mm_) {a : Int} (ra : rg a) (ha : ¬ (0 ≤ a ∧ a < M.1 3 5)) (hX : oX M) : Cn 2 kX6_fresh [.ref 0, .int (zI a)] M (fun r U => r = some (.int (zI (-101))) ∧ xS (M) U) := by
  obtain ⟨hp, hv, hf, hbo, hsb, hng, ⟨hs, hsp, hsw, hsy⟩, hfd, hwd, hhk⟩ := id hX
  have hv0 := hv.1
  have hpw := pw_b (k := (M.1 3 5).toNat) (by omega)
  have hp1 := hp.1
  refine Cn.of rfl (Nat.le_of_ble_eq_true rfl) (fun G C E => ?_)
  show G 0 [.ref 0, .int (zI a), .null] [] M
  refine r_aload_n C rfl dX6_fresh_0 ?_
  refine r_getr C dX6_fresh_1 fl_X6_19 ly_0 rfl ?_
  refine r_iload_n C rfl dX6_fresh_4 ?_
  refine r_cVb C dX6_fresh_5 vw_X6_127 (c_hasPail M (by assumption) hv) (by decide) rfl ly_3 rfl rfl (Nat.le_of_ble_eq_true rfl) (fun h5 => absurd h5 (by omega)) (fun h5 => ?_)
  refine r_if_ne C (tgt := 14) dX6_fresh_8 rfl (by first | assumption | exact rgm (by omega) (by omega)) (fun h8 => absurd h8 (by decide)) (fun h8 => ?_)
  refine r_bipush C rfl dX6_fresh_11 ?_
  exact r_iret E dX6_fresh_13 ⟨rfl, xS_rf⟩
set_option maxRecDepth 10000 in
set_option maxHeartbeats 1000000 in
theorem c_x_force (M : Mm_) {a : Int} (ra : rg a) (hX : oX M) : Cn 2 kX6_force [.ref 0, .int (zI a)] M (fun r U => r = some (.int (zI (if 0 < M.1 3 4 ∧ 0 ≤ a ∧ a < 6 then FA (M.1 9) (M.1 10) (M.1 8 7) (M.1 13) (M.1 14) a else -101))) ∧ xS (M) U) := by
  obtain ⟨hp, hv, hf, hbo, hsb, hng, ⟨hs, hsp, hsw, hsy⟩, hfd, hwd, hhk⟩ := id hX
  have hv0 := hv.1
  have hpw := pw_b (k := (M.1 3 5).toNat) (by omega)
  have hp1 := hp.1
  refine Cn.of rfl (Nat.le_of_ble_eq_true rfl) (fun G C E => ?_)
  show G 0 [.ref 0, .int (zI a)] [] M
  refine r_aload_n C rfl dX6_force_0 ?_
  refine r_getr C dX6_force_1 fl_X6_19 ly_0 rfl ?_
  refine r_cVb C dX6_force_4 vw_X6_161 (c_isThere M hv) (by decide) rfl ly_3 rfl rfl (Nat.le_of_ble_eq_true rfl) (fun h4 => ?_) (fun h4 => ?_)
  · refine r_if_eq C (tgt := 17) dX6_force_7 rfl (by first | assumption | exact rgm (by omega) (by omega)) (fun h7 => absurd h7 (by decide)) (fun h7 => ?_)
    refine r_iload_n C rfl dX6_force_10 ?_
    refine r_cSb C dX6_force_11 sw_X6_158 (c_isPlace M (by assumption)) (by decide) rfl rfl (Nat.le_of_ble_eq_true rfl) (fun h11 => ?_) (fun h11 => ?_)
    · refine r_if_ne C (tgt := 20) dX6_force_14 rfl (by first | assumption | exact rgm (by omega) (by omega)) (fun h14 => ?_) (fun h14 => absurd h14 (by decide))
      refine r_aload_n C rfl dX6_force_20 ?_
      refine r_getr C dX6_force_21 fl_X6_26 ly_0 rfl ?_
      refine r_iload_n C rfl dX6_force_24 ?_
      refine r_cVz C dX6_force_25 vw_X6_133 (c_forceAt8 M (by omega) hf.1 hf.2.1 hf.2.2.1 hf.2.2.2.1 hf.2.2.2.2) (by decide) rfl ly_8 rfl rfl (Nat.le_of_ble_eq_true rfl) ?_
      exact r_iret E dX6_force_28 ⟨by rw [if_pos (by omega)]; rfl, xS_rf⟩
    · refine r_if_ne C (tgt := 20) dX6_force_14 rfl (by first | assumption | exact rgm (by omega) (by omega)) (fun h14 => absurd h14 (by decide)) (fun h14 => ?_)
      refine r_bipush C rfl dX6_force_17 ?_
      exact r_iret E dX6_force_19 ⟨by rw [if_neg (by omega)], xS_rf⟩
  · refine r_if_eq C (tgt := 17) dX6_force_7 rfl (by first | assumption | exact rgm (by omega) (by omega)) (fun h7 => ?_) (fun h7 => absurd h7 (by decide))
    refine r_bipush C rfl dX6_force_17 ?_
    exact r_iret E dX6_force_19 ⟨by rw [if_neg (by omega)], xS_rf⟩
set_option maxRecDepth 10000 in
set_option maxHeartbeats 1000000 in
theorem c_x_bottle (M : Mm_) {a : Int} (ra : rg a) (hX : oX M) : Cn 2 kX6_bottle [.ref 0, .int (zI a)] M (fun r U => r = some (.int (zI (if 0 < M.1 3 4 ∧ 0 ≤ a ∧ a < 4 then M.1 12 a.toNat else -101))) ∧ xS (M) U) := by
  obtain ⟨hp, hv, hf, hbo, hsb, hng, ⟨hs, hsp, hsw, hsy⟩, hfd, hwd, hhk⟩ := id hX
  have hv0 := hv.1
  have hpw := pw_b (k := (M.1 3 5).toNat) (by omega)
  have hp1 := hp.1
  refine Cn.of rfl (Nat.le_of_ble_eq_true rfl) (fun G C E => ?_)
  show G 0 [.ref 0, .int (zI a)] [] M
  refine r_aload_n C rfl dX6_bottle_0 ?_
  refine r_iload_n C rfl dX6_bottle_1 ?_
  refine r_cVb C dX6_bottle_2 vw_X6_189 (c_hasBottle M (by assumption) hv) (by decide) rfl ly_0 rfl rfl (Nat.le_of_ble_eq_true rfl) (fun h2 => ?_) (fun h2 => ?_)
  · refine r_if_eq C (tgt := 20) dX6_bottle_5 rfl (by first | assumption | exact rgm (by omega) (by omega)) (fun h5 => absurd h5 (by decide)) (fun h5 => ?_)
    refine r_aload_n C rfl dX6_bottle_8 ?_
    refine r_getr C dX6_bottle_9 fl_X6_26 ly_0 rfl ?_
    refine r_getr C dX6_bottle_12 fl_X6_192 ly_8 rfl ?_
    refine r_iload_n C rfl dX6_bottle_15 ?_
    refine r_iald C dX6_bottle_16 ly_12 (k := a.toNat) (by omega) (by omega) ?_
    refine r_goto C (tgt := 22) dX6_bottle_17 rfl ?_
    exact r_iret E dX6_bottle_22 ⟨by rw [if_pos (by omega)], xS_rf⟩
  · refine r_if_eq C (tgt := 20) dX6_bottle_5 rfl (by first | assumption | exact rgm (by omega) (by omega)) (fun h5 => ?_) (fun h5 => absurd h5 (by decide))
    refine r_bipush C rfl dX6_bottle_20 ?_
    exact r_iret E dX6_bottle_22 ⟨by rw [if_neg (by omega)], xS_rf⟩
set_option maxRecDepth 10000 in
set_option maxHeartbeats 1000000 in
theorem c_x_would (M : Mm_) (hX : oX M) : Cn 3 kX6_would [.ref 0] M (fun r U => r = some (.int (zI (if 0 < M.1 3 4 then (WDc (M.1 7) (FA (M.1 9) (M.1 10) (M.1 8 7) (M.1 13) (M.1 14)) (M.1 3 5).toNat) else -103))) ∧ xS (M) U) := by
  obtain ⟨hp, hv, hf, hbo, hsb, hng, ⟨hs, hsp, hsw, hsy⟩, hfd, hwd, hhk⟩ := id hX
  have hv0 := hv.1
  have hpw := pw_b (k := (M.1 3 5).toNat) (by omega)
  have hp1 := hp.1
  refine Cn.of rfl (Nat.le_of_ble_eq_true rfl) (fun G C E => ?_)
  show G 0 [.ref 0] [] M
  refine r_aload_n C rfl dX6_would_0 ?_
  refine r_getr C dX6_would_1 fl_X6_19 ly_0 rfl ?_
  refine r_cVb C dX6_would_4 vw_X6_161 (c_isThere M hv) (by decide) rfl ly_3 rfl rfl (Nat.le_of_ble_eq_true rfl) (fun h4 => ?_) (fun h4 => ?_)
  · refine r_if_eq C (tgt := 24) dX6_would_7 rfl (by first | assumption | exact rgm (by omega) (by omega)) (fun h7 => absurd h7 (by decide)) (fun h7 => ?_)
    refine r_aload_n C rfl dX6_would_10 ?_
    refine r_getr C dX6_would_11 fl_X6_19 ly_0 rfl ?_
    refine r_aload_n C rfl dX6_would_14 ?_
    refine r_getr C dX6_would_15 fl_X6_26 ly_0 rfl ?_
    refine r_cVz C dX6_would_18 vw_X6_171 (c_would8 M hv hf) (by decide) rfl ly_3 rfl rfl (Nat.le_of_ble_eq_true rfl) ?_
    refine r_goto C (tgt := 26) dX6_would_21 rfl ?_
    exact r_iret E dX6_would_26 ⟨by rw [if_pos (by omega)], xS_rf⟩
  · refine r_if_eq C (tgt := 24) dX6_would_7 rfl (by first | assumption | exact rgm (by omega) (by omega)) (fun h7 => ?_) (fun h7 => absurd h7 (by decide))
    refine r_bipush C rfl dX6_would_24 ?_
    exact r_iret E dX6_would_26 ⟨by rw [if_neg (by omega)], xS_rf⟩
