
def lo_ (kind prides how growth : Int) (n : Nat) : Int := sm (fun k => if bt prides k = 1 ∧ gw kind ((k : Int) + 1) how = growth then 1 else 0) n
def ml_ (kind prides how : Int) : Nat → Int
  | 0 => 0
  | k + 1 => if bt prides k = 1 then (if ml_ kind prides how k < lo_ kind prides how (gw kind ((k : Int) + 1) how) 9 then lo_ kind prides how (gw kind ((k : Int) + 1) how) 9 else ml_ kind prides how k) else ml_ kind prides how k
def bty (kind prides : Int) : Nat → Int × Int
  | 0 => (-1, 10)
  | h + 1 => if ml_ kind prides h 9 < (bty kind prides h).2 then ((h : Int), ml_ kind prides h 9) else bty kind prides h
def bTry (kind prides : Int) : Int := if prides = 0 then -1 else (bty kind prides 3).1
def alw (who how by_ : Nat → Int) (n : Nat) (p kind pride : Int) : Bool := decide (∀ i, i < n → who i = p → gw kind pride (how i) = by_ i)
def prd (who how by_ : Nat → Int) (n : Nat) (p kind : Int) : Int := sb (fun k => alw who how by_ n p kind ((k : Int) + 1)) 9
theorem lo_b (kind prides how growth : Int) (n : Nat) : 0 ≤ lo_ kind prides how growth n ∧ lo_ kind prides how growth n ≤ n := by
  have := sm_le (f := fun k : Nat => if bt prides k = 1 ∧ gw kind ((k : Int) + 1) how = growth then (1 : Int) else 0) (c := 1) (n := n) (fun i _ => by split <;> omega)
  unfold lo_
  omega
theorem ml_b (kind prides how : Int) : ∀ n, 0 ≤ ml_ kind prides how n ∧ ml_ kind prides how n ≤ 9
  | 0 => by show (0 : Int) ≤ 0 ∧ (0 : Int) ≤ 9; omega
  | k + 1 => by
    have h := ml_b kind prides how k
    have h2 := lo_b kind prides how (gw kind ((k : Int) + 1) how) 9
    unfold ml_
    split
    · split <;> omega
    · omega
theorem bty_b (kind prides : Int) : ∀ n, n ≤ 3 → -1 ≤ (bty kind prides n).1 ∧ (bty kind prides n).1 < 3 ∧ 0 ≤ (bty kind prides n).2 ∧ (bty kind prides n).2 ≤ 10
  | 0, _ => by show -1 ≤ (-1 : Int) ∧ (-1 : Int) < 3 ∧ (0 : Int) ≤ 10 ∧ (10 : Int) ≤ 10; omega
  | h + 1, hn => by
    have h1 := bty_b kind prides h (by omega)
    have h2 := ml_b kind prides h 9
    unfold bty
    split
    · refine ⟨?_, ?_, ?_, ?_⟩ <;> simp only <;> omega
    · exact h1
theorem prd_b (who how by_ : Nat → Int) (n : Nat) (p kind : Int) : 0 ≤ prd who how by_ n p kind ∧ prd who how by_ n p kind < 512 := sbb _ 9

set_option maxRecDepth 10000 in
set_option maxHeartbeats 1000000 in
theorem c_growth0 (M : Mm_) {kind pride how : Int} (hk : 0 ≤ kind ∧ kind ≤ 4) (hp : 0 ≤ pride ∧ pride ≤ 9) (hh : 0 ≤ how ∧ how ≤ 2) : Cn 1 kX4_growthFromNone [.int (zI kind), .int (zI pride), .int (zI how)] M (pZ (gw kind pride how) M) := by
  refine Cn.of rfl (Nat.le_of_ble_eq_true rfl) (fun G C E => ?_)
  show G 0 [.int (zI kind), .int (zI pride), .int (zI how), .null, .null] [] M
  have hwb : ∀ j, 2 ≤ wrT j ∧ wrT j ≤ 6 := by
    intro j
    unfold wrT
    split
    · omega
    · split <;> omega
  have h12 : 0 ≤ 12 * pride ∧ 12 * pride ≤ 108 := by omega
  have hwp : 0 ≤ wrT how.toNat * pride ∧ wrT how.toNat * pride ≤ 54 := by
    have := hwb how.toNat
    exact ⟨Int.mul_nonneg (by omega) (by omega), by have := Int.mul_le_mul (c := 6) (d := 9) this.2 (show pride ≤ 9 by omega) (by omega) (by omega); omega⟩
  refine r_iload_n C rfl dX4_growthFromNone_0 ?_
  refine r_cSb C dX4_growthFromNone_1 sw_X4_9 (c_isSlight M (by exact rgm (by omega) (by omega))) (by decide) rfl rfl (Nat.le_of_ble_eq_true rfl) (fun h1 => ?_) (fun h1 => absurd (by omega) h1)
  refine r_if_ne C (tgt := 9) dX4_growthFromNone_4 rfl (by first | assumption | exact rgm (by omega) (by omega)) (fun h4 => ?_) (fun h4 => absurd h4 (by decide))
  refine r_iload_n C rfl dX4_growthFromNone_9 ?_
  refine r_iconst C dX4_growthFromNone_10 ?_
  refine r_icmp_ne C (tgt := 24) dX4_growthFromNone_11 rfl (by first | assumption | exact rgm (by omega) (by omega)) (by first | assumption | exact rgm (by omega) (by omega)) (fun h11 => ?_) (fun h11 => ?_)
  · refine r_worths C dX4_growthFromNone_24 fl_worths ?_
    refine r_iload_n C rfl dX4_growthFromNone_27 ?_
    refine r_wald C dX4_growthFromNone_28 (k := how.toNat) (by omega) (by omega) ?_
    refine r_istore_n C dX4_growthFromNone_29 3 rfl (by decide) rfl ?_
    dsimp only [List.set, Nat.reduceAdd]
    refine r_iload_n C rfl dX4_growthFromNone_30 ?_
    refine r_iload_n C rfl dX4_growthFromNone_31 ?_
    refine r_imul C dX4_growthFromNone_32 ?_
    refine r_iconst C dX4_growthFromNone_33 ?_
    refine r_idiv C (by omega) (by omega) (by first | assumption | exact rgm (by omega) (by omega)) (by first | assumption | exact rgm (by omega) (by omega)) dX4_growthFromNone_34 ?_
    refine r_istore C dX4_growthFromNone_35 4 rfl (by decide) rfl ?_
    dsimp only [List.set, Nat.reduceAdd]
    refine r_iload_n C rfl dX4_growthFromNone_37 ?_
    refine r_iconst C dX4_growthFromNone_38 ?_
    refine r_cSb C dX4_growthFromNone_39 sw_X4_17 (c_isOf M (by exact rgm (by omega) (by omega)) (by exact rgm (by decide) (by decide))) (by decide) rfl rfl (Nat.le_of_ble_eq_true rfl) (fun h39 => ?_) (fun h39 => ?_)
    · refine r_if_eq C (tgt := 52) dX4_growthFromNone_42 rfl (by first | assumption | exact rgm (by omega) (by omega)) (fun h42 => absurd h42 (by decide)) (fun h42 => ?_)
      refine r_iload C rfl dX4_growthFromNone_45 ?_
      refine r_iconst C dX4_growthFromNone_47 ?_
      refine r_idiv C (by omega) (by omega) (by first | assumption | exact rgm (by omega) (by omega)) (by first | assumption | exact rgm (by omega) (by omega)) dX4_growthFromNone_48 ?_
      refine r_goto C (tgt := 54) dX4_growthFromNone_49 rfl ?_
      exact r_iret E dX4_growthFromNone_54 (pZ_of (by unfold gw; rw [if_pos (show kind = 1 ∨ kind = 4 by omega), show wth kind how = wrT how.toNat from by unfold wth wrT; rcases (show how = 0 ∨ how = 1 ∨ how = 2 by omega) with rfl | rfl | rfl <;> simp <;> omega]))
    · refine r_if_eq C (tgt := 52) dX4_growthFromNone_42 rfl (by first | assumption | exact rgm (by omega) (by omega)) (fun h42 => ?_) (fun h42 => absurd h42 (by decide))
      refine r_iload C rfl dX4_growthFromNone_52 ?_
      exact r_iret E dX4_growthFromNone_54 (pZ_of (by unfold gw; rw [if_neg (show ¬ (kind = 1 ∨ kind = 4) by omega), show wth kind how = wrT how.toNat from by unfold wth wrT; rcases (show how = 0 ∨ how = 1 ∨ how = 2 by omega) with rfl | rfl | rfl <;> simp <;> omega]))
  · refine r_iload_n C rfl dX4_growthFromNone_14 ?_
    refine r_iconst C dX4_growthFromNone_15 ?_
    refine r_icmp_ne C (tgt := 24) dX4_growthFromNone_16 rfl (by first | assumption | exact rgm (by omega) (by omega)) (by first | assumption | exact rgm (by omega) (by omega)) (fun h16 => ?_) (fun h16 => ?_)
    · refine r_worths C dX4_growthFromNone_24 fl_worths ?_
      refine r_iload_n C rfl dX4_growthFromNone_27 ?_
      refine r_wald C dX4_growthFromNone_28 (k := how.toNat) (by omega) (by omega) ?_
      refine r_istore_n C dX4_growthFromNone_29 3 rfl (by decide) rfl ?_
      dsimp only [List.set, Nat.reduceAdd]
      refine r_iload_n C rfl dX4_growthFromNone_30 ?_
      refine r_iload_n C rfl dX4_growthFromNone_31 ?_
      refine r_imul C dX4_growthFromNone_32 ?_
      refine r_iconst C dX4_growthFromNone_33 ?_
      refine r_idiv C (by omega) (by omega) (by first | assumption | exact rgm (by omega) (by omega)) (by first | assumption | exact rgm (by omega) (by omega)) dX4_growthFromNone_34 ?_
      refine r_istore C dX4_growthFromNone_35 4 rfl (by decide) rfl ?_
      dsimp only [List.set, Nat.reduceAdd]
      refine r_iload_n C rfl dX4_growthFromNone_37 ?_
      refine r_iconst C dX4_growthFromNone_38 ?_
      refine r_cSb C dX4_growthFromNone_39 sw_X4_17 (c_isOf M (by exact rgm (by omega) (by omega)) (by exact rgm (by decide) (by decide))) (by decide) rfl rfl (Nat.le_of_ble_eq_true rfl) (fun h39 => ?_) (fun h39 => ?_)
      · refine r_if_eq C (tgt := 52) dX4_growthFromNone_42 rfl (by first | assumption | exact rgm (by omega) (by omega)) (fun h42 => absurd h42 (by decide)) (fun h42 => ?_)
        refine r_iload C rfl dX4_growthFromNone_45 ?_
        refine r_iconst C dX4_growthFromNone_47 ?_
        refine r_idiv C (by omega) (by omega) (by first | assumption | exact rgm (by omega) (by omega)) (by first | assumption | exact rgm (by omega) (by omega)) dX4_growthFromNone_48 ?_
        refine r_goto C (tgt := 54) dX4_growthFromNone_49 rfl ?_
        exact r_iret E dX4_growthFromNone_54 (pZ_of (by unfold gw; rw [if_pos (show kind = 1 ∨ kind = 4 by omega), show wth kind how = wrT how.toNat from by unfold wth wrT; rcases (show how = 0 ∨ how = 1 ∨ how = 2 by omega) with rfl | rfl | rfl <;> simp <;> omega]))
      · refine r_if_eq C (tgt := 52) dX4_growthFromNone_42 rfl (by first | assumption | exact rgm (by omega) (by omega)) (fun h42 => ?_) (fun h42 => absurd h42 (by decide))
        refine r_iload C rfl dX4_growthFromNone_52 ?_
        exact r_iret E dX4_growthFromNone_54 (pZ_of (by unfold gw; rw [if_neg (show ¬ (kind = 1 ∨ kind = 4) by omega), show wth kind how = wrT how.toNat from by unfold wth wrT; rcases (show how = 0 ∨ how = 1 ∨ how = 2 by omega) with rfl | rfl | rfl <;> simp <;> omega]))
    · refine r_bipush C rfl dX4_growthFromNone_19 ?_
      refine r_goto C (tgt := 29) dX4_growthFromNone_21 rfl ?_
      refine r_istore_n C dX4_growthFromNone_29 3 rfl (by decide) rfl ?_
      dsimp only [List.set, Nat.reduceAdd]
      refine r_iload_n C rfl dX4_growthFromNone_30 ?_
      refine r_iload_n C rfl dX4_growthFromNone_31 ?_
      refine r_imul C dX4_growthFromNone_32 ?_
      refine r_iconst C dX4_growthFromNone_33 ?_
      refine r_idiv C (by omega) (by omega) (by first | assumption | exact rgm (by omega) (by omega)) (by first | assumption | exact rgm (by omega) (by omega)) dX4_growthFromNone_34 ?_
      refine r_istore C dX4_growthFromNone_35 4 rfl (by decide) rfl ?_
      dsimp only [List.set, Nat.reduceAdd]
      refine r_iload_n C rfl dX4_growthFromNone_37 ?_
      refine r_iconst C dX4_growthFromNone_38 ?_
      refine r_cSb C dX4_growthFromNone_39 sw_X4_17 (c_isOf M (by exact rgm (by omega) (by omega)) (by exact rgm (by decide) (by decide))) (by decide) rfl rfl (Nat.le_of_ble_eq_true rfl) (fun h39 => ?_) (fun h39 => ?_)
      · refine r_if_eq C (tgt := 52) dX4_growthFromNone_42 rfl (by first | assumption | exact rgm (by omega) (by omega)) (fun h42 => absurd h42 (by decide)) (fun h42 => ?_)
        refine r_iload C rfl dX4_growthFromNone_45 ?_
        refine r_iconst C dX4_growthFromNone_47 ?_
        refine r_idiv C (by omega) (by omega) (by first | assumption | exact rgm (by omega) (by omega)) (by first | assumption | exact rgm (by omega) (by omega)) dX4_growthFromNone_48 ?_
        refine r_goto C (tgt := 54) dX4_growthFromNone_49 rfl ?_
        exact r_iret E dX4_growthFromNone_54 (pZ_of (by unfold gw; rw [if_pos (show kind = 1 ∨ kind = 4 by omega), show wth kind how = 12 from by unfold wth; rw [if_neg (by omega), if_neg (by omega), if_pos (by omega)]]))
      · refine r_if_eq C (tgt := 52) dX4_growthFromNone_42 rfl (by first | assumption | exact rgm (by omega) (by omega)) (fun h42 => ?_) (fun h42 => absurd h42 (by decide))
        refine r_iload C rfl dX4_growthFromNone_52 ?_
        exact r_iret E dX4_growthFromNone_54 (pZ_of (by unfold gw; rw [if_neg (show ¬ (kind = 1 ∨ kind = 4) by omega), show wth kind how = 12 from by unfold wth; rw [if_neg (by omega), if_neg (by omega), if_pos (by omega)]]))
set_option maxRecDepth 10000 in
set_option maxHeartbeats 1000000 in
theorem c_overnight (M : Mm_) {kind g : Int} (hk : 0 ≤ kind ∧ kind ≤ 4) (hg : 0 ≤ g ∧ g ≤ 99) : Cn 0 kX4_overnight [.int (zI kind), .int (zI g)] M (pZ (ng kind g) M) := by
  refine Cn.of rfl (Nat.le_of_ble_eq_true rfl) (fun G C E => ?_)
  show G 0 [.int (zI kind), .int (zI g)] [] M
  refine r_iload_n C rfl dX4_overnight_0 ?_
  refine r_iconst C dX4_overnight_1 ?_
  refine r_icmp_ne C (tgt := 7) dX4_overnight_2 rfl (by first | assumption | exact rgm (by omega) (by omega)) (by first | assumption | exact rgm (by omega) (by omega)) (fun h2 => ?_) (fun h2 => ?_)
  · refine r_iload_n C rfl dX4_overnight_7 ?_
    refine r_iconst C dX4_overnight_8 ?_
    refine r_icmp_ne C (tgt := 24) dX4_overnight_9 rfl (by first | assumption | exact rgm (by omega) (by omega)) (by first | assumption | exact rgm (by omega) (by omega)) (fun h9 => ?_) (fun h9 => ?_)
    · refine r_iload_n C rfl dX4_overnight_24 ?_
      refine r_iconst C dX4_overnight_25 ?_
      refine r_idiv C (by omega) (by omega) (by first | assumption | exact rgm (by omega) (by omega)) (by first | assumption | exact rgm (by omega) (by omega)) dX4_overnight_26 ?_
      exact r_iret E dX4_overnight_27 (pZ_of (by simp only [ng]; split <;> (try split) <;> omega))
    · refine r_iload_n C rfl dX4_overnight_12 ?_
      refine r_if_le C (tgt := 24) dX4_overnight_13 rfl (by first | assumption | exact rgm (by omega) (by omega)) (fun h13 => ?_) (fun h13 => ?_)
      · refine r_iload_n C rfl dX4_overnight_24 ?_
        refine r_iconst C dX4_overnight_25 ?_
        refine r_idiv C (by omega) (by omega) (by first | assumption | exact rgm (by omega) (by omega)) (by first | assumption | exact rgm (by omega) (by omega)) dX4_overnight_26 ?_
        exact r_iret E dX4_overnight_27 (pZ_of (by simp only [ng]; split <;> (try split) <;> omega))
      · refine r_iload_n C rfl dX4_overnight_16 ?_
        refine r_iconst C dX4_overnight_17 ?_
        refine r_idiv C (by omega) (by omega) (by first | assumption | exact rgm (by omega) (by omega)) (by first | assumption | exact rgm (by omega) (by omega)) dX4_overnight_18 ?_
        refine r_iconst C dX4_overnight_19 ?_
        refine r_iadd C dX4_overnight_20 ?_
        refine r_goto C (tgt := 27) dX4_overnight_21 rfl ?_
        exact r_iret E dX4_overnight_27 (pZ_of (by simp only [ng]; split <;> (try split) <;> omega))
  · refine r_iload_n C rfl dX4_overnight_5 ?_
    exact r_iret E dX4_overnight_6 (pZ_of (by simp only [ng]; split <;> (try split) <;> omega))
set_option maxRecDepth 10000 in
set_option maxHeartbeats 1000000 in
theorem c_hasPride (M : Mm_) {s q : Int} {k : Nat} (hk : k < 9) (hq : q = k + 1) (h0 : 0 ≤ s) (h1 : s < 512) : Cn 0 kX4_hasPride [.int (zI s), .int (zI q)] M (pB (bt s k = 1) M) := by
  refine Cn.of rfl (Nat.le_of_ble_eq_true rfl) (fun G C E => ?_)
  show G 0 [.int (zI s), .int (zI q)] [] M
  have hdv := dv_b k h0
  have hbt : s / 2 ^ k % 2 = bt s k := rfl
  have hb2 := bt_b s k
  refine r_iload_n C rfl dX4_hasPride_0 ?_
  refine r_iload_n C rfl dX4_hasPride_1 ?_
  refine r_iconst C dX4_hasPride_2 ?_
  refine r_isub C dX4_hasPride_3 ?_
  refine r_ishr C (v := s / 2 ^ k) (by rw [show q - 1 = (k : Int) by omega]; exact zb_shr h0 (by omega) (by omega)) dX4_hasPride_4 ?_
  refine r_iconst C dX4_hasPride_5 ?_
  refine r_iand C (v := s / 2 ^ k % 2) (zb_and1 (by omega) (by omega)) dX4_hasPride_6 ?_
  refine r_if_eq C (tgt := 14) dX4_hasPride_7 rfl (by first | assumption | exact rgm (by omega) (by omega)) (fun h7 => ?_) (fun h7 => ?_)
  · refine r_iconst C dX4_hasPride_14 ?_
    exact r_zret E dX4_hasPride_15 (by decide) (pB_f (by omega))
  · refine r_iconst C dX4_hasPride_10 ?_
    refine r_goto C (tgt := 15) dX4_hasPride_11 rfl ?_
    exact r_zret E dX4_hasPride_15 (by decide) (pB_t (by omega))
set_option maxRecDepth 10000 in
set_option maxHeartbeats 1000000 in
theorem c_likeOnes (M : Mm_) {kind s how gg : Int} (hk : 0 ≤ kind ∧ kind ≤ 4) (hh : 0 ≤ how ∧ how ≤ 2) (h0 : 0 ≤ s) (h1 : s < 512) (hgg : 0 ≤ gg ∧ gg ≤ 21) : Cn 2 kX4_likeOnes [.int (zI kind), .int (zI s), .int (zI how), .int (zI gg)] M (pZ (lo_ kind s how gg 9) M) := by
  refine Cn.of rfl (Nat.le_of_ble_eq_true rfl) (fun G C E => ?_)
  show G 0 [.int (zI kind), .int (zI s), .int (zI how), .int (zI gg), .null, .null] [] M
  have lp : ∀ i, i ≤ 9 → ∀ s2 z : Int, s2 = lo_ kind s how gg i → z = (i : Int) + 1 → G 6 [.int (zI kind), .int (zI s), .int (zI how), .int (zI gg), .int (zI s2), .int (zI z)] [] M := by
    refine lpN _ ?_ ?_
    · intro s2 z hs2 hz 
      refine r_iload C rfl dX4_likeOnes_6 ?_
      refine r_bipush C rfl dX4_likeOnes_8 ?_
      refine r_icmp_gt C (tgt := 42) dX4_likeOnes_10 rfl (by first | assumption | exact rgm (by omega) (by omega)) (by first | assumption | exact rgm (by omega) (by omega)) (fun h10 => ?_) (fun h10 => absurd h10 (by omega))
      refine r_iload C rfl dX4_likeOnes_42 ?_
      exact r_iret E dX4_likeOnes_44 (pZ_of hs2)
    · intro i hi ih s2 z hs2 hz 
      have hgb := gw_b (kind := kind) (pride := (i : Int) + 1) (how := how) (by omega) (by omega)
      have hlb := lo_b kind s how gg i
      refine r_iload C rfl dX4_likeOnes_6 ?_
      refine r_bipush C rfl dX4_likeOnes_8 ?_
      refine r_icmp_gt C (tgt := 42) dX4_likeOnes_10 rfl (by first | assumption | exact rgm (by omega) (by omega)) (by first | assumption | exact rgm (by omega) (by omega)) (fun h10 => absurd h10 (by omega)) (fun h10 => ?_)
      refine r_iload_n C rfl dX4_likeOnes_13 ?_
      refine r_iload C rfl dX4_likeOnes_14 ?_
      refine r_cSb C dX4_likeOnes_16 sw_X4_27 (c_hasPride M (k := i) (by omega) (by omega) h0 h1) (by decide) rfl rfl (Nat.le_of_ble_eq_true rfl) (fun h16 => ?_) (fun h16 => ?_)
      · refine r_if_eq C (tgt := 36) dX4_likeOnes_19 rfl (by first | assumption | exact rgm (by omega) (by omega)) (fun h19 => absurd h19 (by decide)) (fun h19 => ?_)
        refine r_iload_n C rfl dX4_likeOnes_22 ?_
        refine r_iload C rfl dX4_likeOnes_23 ?_
        refine r_iload_n C rfl dX4_likeOnes_25 ?_
        refine r_cSz C dX4_likeOnes_26 sw_X4_30 (c_growth0 M hk (by omega) hh) (by decide) rfl rfl (Nat.le_of_ble_eq_true rfl) ?_
        rw [hz]
        refine r_iload_n C rfl dX4_likeOnes_29 ?_
        refine r_icmp_ne C (tgt := 36) dX4_likeOnes_30 rfl (by first | assumption | exact rgm (by omega) (by omega)) (by first | assumption | exact rgm (by omega) (by omega)) (fun h30 => ?_) (fun h30 => ?_)
        · refine r_iinc C dX4_likeOnes_36 rfl (by decide) rfl ?_
          dsimp only [List.set, Nat.reduceAdd]
          refine r_goto C (tgt := 6) dX4_likeOnes_39 rfl ?_
          exact ih _ _ (by simp only [lo_, sm]; rw [if_neg (by intro h; exact h30 h.2)]; simp only [lo_] at hs2; omega) (by omega)
        · refine r_iinc C dX4_likeOnes_33 rfl (by decide) rfl ?_
          dsimp only [List.set, Nat.reduceAdd]
          refine r_iinc C dX4_likeOnes_36 rfl (by decide) rfl ?_
          dsimp only [List.set, Nat.reduceAdd]
          refine r_goto C (tgt := 6) dX4_likeOnes_39 rfl ?_
          exact ih _ _ (by simp only [lo_, sm]; rw [if_pos ⟨h16, h30⟩]; simp only [lo_] at hs2; omega) (by omega)
      · refine r_if_eq C (tgt := 36) dX4_likeOnes_19 rfl (by first | assumption | exact rgm (by omega) (by omega)) (fun h19 => ?_) (fun h19 => absurd h19 (by decide))
        refine r_iinc C dX4_likeOnes_36 rfl (by decide) rfl ?_
        dsimp only [List.set, Nat.reduceAdd]
        refine r_goto C (tgt := 6) dX4_likeOnes_39 rfl ?_
        exact ih _ _ (by simp only [lo_, sm]; rw [if_neg (by intro h; exact h16 h.1)]; simp only [lo_] at hs2; omega) (by omega)
  refine r_iconst C dX4_likeOnes_0 ?_
  refine r_istore C dX4_likeOnes_1 4 rfl (by decide) rfl ?_
  dsimp only [List.set, Nat.reduceAdd]
  refine r_iconst C dX4_likeOnes_3 ?_
  refine r_istore C dX4_likeOnes_4 5 rfl (by decide) rfl ?_
  dsimp only [List.set, Nat.reduceAdd]
  exact lp 0 (by omega) _ _ rfl rfl
set_option maxRecDepth 10000 in
set_option maxHeartbeats 1000000 in
theorem c_mostLeft (M : Mm_) {kind s how : Int} (hk : 0 ≤ kind ∧ kind ≤ 4) (hh : 0 ≤ how ∧ how ≤ 2) (h0 : 0 ≤ s) (h1 : s < 512) : Cn 3 kX4_mostLeft [.int (zI kind), .int (zI s), .int (zI how)] M (pZ (ml_ kind s how 9) M) := by
  refine Cn.of rfl (Nat.le_of_ble_eq_true rfl) (fun G C E => ?_)
  show G 0 [.int (zI kind), .int (zI s), .int (zI how), .null, .null, .null] [] M
  have lp : ∀ i, i ≤ 9 → ∀ s2 z : Int, s2 = ml_ kind s how i → z = (i : Int) + 1 → ∀ v5 : Value, G 5 [.int (zI kind), .int (zI s), .int (zI how), .int (zI s2), .int (zI z), v5] [] M := by
    refine lpN _ ?_ ?_
    · intro s2 z hs2 hz v5
      refine r_iload C rfl dX4_mostLeft_5 ?_
      refine r_bipush C rfl dX4_mostLeft_7 ?_
      refine r_icmp_gt C (tgt := 49) dX4_mostLeft_9 rfl (by first | assumption | exact rgm (by omega) (by omega)) (by first | assumption | exact rgm (by omega) (by omega)) (fun h9 => ?_) (fun h9 => absurd h9 (by omega))
      refine r_iload_n C rfl dX4_mostLeft_49 ?_
      exact r_iret E dX4_mostLeft_50 (pZ_of hs2)
    · intro i hi ih s2 z hs2 hz v5
      have hgb := gw_b (kind := kind) (pride := (i : Int) + 1) (how := how) (by omega) (by omega)
      have hlb := lo_b kind s how (gw kind ((i : Int) + 1) how) 9
      have hmb := ml_b kind s how i
      refine r_iload C rfl dX4_mostLeft_5 ?_
      refine r_bipush C rfl dX4_mostLeft_7 ?_
      refine r_icmp_gt C (tgt := 49) dX4_mostLeft_9 rfl (by first | assumption | exact rgm (by omega) (by omega)) (by first | assumption | exact rgm (by omega) (by omega)) (fun h9 => absurd h9 (by omega)) (fun h9 => ?_)
      refine r_iload_n C rfl dX4_mostLeft_12 ?_
      refine r_iload C rfl dX4_mostLeft_13 ?_
      refine r_cSb C dX4_mostLeft_15 sw_X4_27 (c_hasPride M (k := i) (by omega) (by omega) h0 h1) (by decide) rfl rfl (Nat.le_of_ble_eq_true rfl) (fun h15 => ?_) (fun h15 => ?_)
      · refine r_if_eq C (tgt := 43) dX4_mostLeft_18 rfl (by first | assumption | exact rgm (by omega) (by omega)) (fun h18 => absurd h18 (by decide)) (fun h18 => ?_)
        refine r_iload_n C rfl dX4_mostLeft_21 ?_
        refine r_iload C rfl dX4_mostLeft_22 ?_
        refine r_iload_n C rfl dX4_mostLeft_24 ?_
        refine r_cSz C dX4_mostLeft_25 sw_X4_30 (c_growth0 M hk (by omega) hh) (by decide) rfl rfl (Nat.le_of_ble_eq_true rfl) ?_
        rw [hz]
        refine r_istore C dX4_mostLeft_28 5 rfl (by decide) rfl ?_
        dsimp only [List.set, Nat.reduceAdd]
        refine r_iload_n C rfl dX4_mostLeft_30 ?_
        refine r_iload_n C rfl dX4_mostLeft_31 ?_
        refine r_iload_n C rfl dX4_mostLeft_32 ?_
        refine r_iload_n C rfl dX4_mostLeft_33 ?_
        refine r_iload C rfl dX4_mostLeft_34 ?_
        refine r_cSz C dX4_mostLeft_36 sw_X4_33 (c_likeOnes M hk hh h0 h1 hgb) (by decide) rfl rfl (Nat.le_of_ble_eq_true rfl) ?_
        refine r_max C dX4_mostLeft_39 ml_X4_37 mm_st_max mm_in mm_cw_max (by decide) (Nat.le_of_ble_eq_true rfl) (by first | assumption | exact rgm (by omega) (by omega)) (by first | assumption | exact rgm (by omega) (by omega)) ?_
        refine r_istore_n C dX4_mostLeft_42 3 rfl (by decide) rfl ?_
        dsimp only [List.set, Nat.reduceAdd]
        refine r_iinc C dX4_mostLeft_43 rfl (by decide) rfl ?_
        dsimp only [List.set, Nat.reduceAdd]
        refine r_goto C (tgt := 5) dX4_mostLeft_46 rfl ?_
        exact ih _ _ (by unfold ml_; rw [if_pos h15, hs2]) (by omega) _
      · refine r_if_eq C (tgt := 43) dX4_mostLeft_18 rfl (by first | assumption | exact rgm (by omega) (by omega)) (fun h18 => ?_) (fun h18 => absurd h18 (by decide))
        refine r_iinc C dX4_mostLeft_43 rfl (by decide) rfl ?_
        dsimp only [List.set, Nat.reduceAdd]
        refine r_goto C (tgt := 5) dX4_mostLeft_46 rfl ?_
        exact ih _ _ (by unfold ml_; rw [if_neg h15]; omega) (by omega) _
  refine r_iconst C dX4_mostLeft_0 ?_
  refine r_istore_n C dX4_mostLeft_1 3 rfl (by decide) rfl ?_
  dsimp only [List.set, Nat.reduceAdd]
  refine r_iconst C dX4_mostLeft_2 ?_
  refine r_istore C dX4_mostLeft_3 4 rfl (by decide) rfl ?_
  dsimp only [List.set, Nat.reduceAdd]
  exact lp 0 (by omega) _ _ rfl rfl _
set_option maxRecDepth 10000 in
set_option maxHeartbeats 1000000 in
theorem c_bestTry (M : Mm_) {kind s : Int} (hk : 0 ≤ kind ∧ kind ≤ 4) (h0 : 0 ≤ s) (h1 : s < 512) : Cn 4 kX4_bestTry [.int (zI kind), .int (zI s)] M (pZ (bTry kind s) M) := by
  refine Cn.of rfl (Nat.le_of_ble_eq_true rfl) (fun G C E => ?_)
  show G 0 [.int (zI kind), .int (zI s), .null, .null, .null, .null] [] M
  by_cases hs0 : s = 0
  · have e : bTry kind s = -1 := by unfold bTry; rw [if_pos hs0]
    refine r_iconst C dX4_bestTry_0 ?_
    refine r_istore_n C dX4_bestTry_1 2 rfl (by decide) rfl ?_
    dsimp only [List.set, Nat.reduceAdd]
    refine r_bipush C rfl dX4_bestTry_2 ?_
    refine r_istore_n C dX4_bestTry_4 3 rfl (by decide) rfl ?_
    dsimp only [List.set, Nat.reduceAdd]
    refine r_iconst C dX4_bestTry_5 ?_
    refine r_istore C dX4_bestTry_6 4 rfl (by decide) rfl ?_
    dsimp only [List.set, Nat.reduceAdd]
    refine r_iload C rfl dX4_bestTry_8 ?_
    refine r_iconst C dX4_bestTry_10 ?_
    refine r_icmp_ge C (tgt := 45) dX4_bestTry_11 rfl (by first | assumption | exact rgm (by omega) (by omega)) (by first | assumption | exact rgm (by omega) (by omega)) (fun h11 => absurd h11 (by decide)) (fun h11 => ?_)
    refine r_iload_n C rfl dX4_bestTry_14 ?_
    refine r_if_eq C (tgt := 45) dX4_bestTry_15 rfl (by first | assumption | exact rgm (by omega) (by omega)) (fun h15 => ?_) (fun h15 => absurd h15 (by omega))
    refine r_iload_n C rfl dX4_bestTry_45 ?_
    exact r_iret E dX4_bestTry_46 (pZ_of (by omega))
  have e : bTry kind s = (bty kind s 3).1 := by unfold bTry; rw [if_neg hs0]
  have lp : ∀ i, i ≤ 3 → ∀ b2 l2 z : Int, b2 = (bty kind s i).1 → l2 = (bty kind s i).2 → z = (i : Int) → ∀ v5 : Value, G 8 [.int (zI kind), .int (zI s), .int (zI b2), .int (zI l2), .int (zI z), v5] [] M := by
    refine lpN _ ?_ ?_
    · intro b2 l2 z hb hl hz v5
      refine r_iload C rfl dX4_bestTry_8 ?_
      refine r_iconst C dX4_bestTry_10 ?_
      refine r_icmp_ge C (tgt := 45) dX4_bestTry_11 rfl (by first | assumption | exact rgm (by omega) (by omega)) (by first | assumption | exact rgm (by omega) (by omega)) (fun h11 => ?_) (fun h11 => absurd h11 (by omega))
      refine r_iload_n C rfl dX4_bestTry_45 ?_
      exact r_iret E dX4_bestTry_46 (pZ_of (by omega))
    · intro i hi ih b2 l2 z hb hl hz v5
      have h9 := bty_b kind s i (by omega)
      have hmb := ml_b kind s i 9
      refine r_iload C rfl dX4_bestTry_8 ?_
      refine r_iconst C dX4_bestTry_10 ?_
      refine r_icmp_ge C (tgt := 45) dX4_bestTry_11 rfl (by first | assumption | exact rgm (by omega) (by omega)) (by first | assumption | exact rgm (by omega) (by omega)) (fun h11 => absurd h11 (by omega)) (fun h11 => ?_)
      refine r_iload_n C rfl dX4_bestTry_14 ?_
      refine r_if_eq C (tgt := 45) dX4_bestTry_15 rfl (by first | assumption | exact rgm (by omega) (by omega)) (fun h15 => absurd h15 (by omega)) (fun h15 => ?_)
      refine r_iload_n C rfl dX4_bestTry_18 ?_
      refine r_iload_n C rfl dX4_bestTry_19 ?_
      refine r_iload C rfl dX4_bestTry_20 ?_
      refine r_cSz C dX4_bestTry_22 sw_X4_23 (c_mostLeft M hk (by omega) h0 h1) (by decide) rfl rfl (Nat.le_of_ble_eq_true rfl) ?_
      rw [hz]
      refine r_istore C dX4_bestTry_25 5 rfl (by decide) rfl ?_
      dsimp only [List.set, Nat.reduceAdd]
      refine r_iload C rfl dX4_bestTry_27 ?_
      refine r_iload_n C rfl dX4_bestTry_29 ?_
      refine r_icmp_ge C (tgt := 39) dX4_bestTry_30 rfl (by first | assumption | exact rgm (by omega) (by omega)) (by first | assumption | exact rgm (by omega) (by omega)) (fun h30 => ?_) (fun h30 => ?_)
      · refine r_iinc C dX4_bestTry_39 rfl (by decide) rfl ?_
        dsimp only [List.set, Nat.reduceAdd]
        refine r_goto C (tgt := 8) dX4_bestTry_42 rfl ?_
        exact ih _ _ _ (by unfold bty; rw [if_neg (by omega)]; exact hb) (by unfold bty; rw [if_neg (by omega)]; exact hl) (by omega) _
      · refine r_iload C rfl dX4_bestTry_33 ?_
        refine r_istore_n C dX4_bestTry_35 3 rfl (by decide) rfl ?_
        dsimp only [List.set, Nat.reduceAdd]
        refine r_iload C rfl dX4_bestTry_36 ?_
        refine r_istore_n C dX4_bestTry_38 2 rfl (by decide) rfl ?_
        dsimp only [List.set, Nat.reduceAdd]
        refine r_iinc C dX4_bestTry_39 rfl (by decide) rfl ?_
        dsimp only [List.set, Nat.reduceAdd]
        refine r_goto C (tgt := 8) dX4_bestTry_42 rfl ?_
        exact ih _ _ _ (by unfold bty; rw [if_pos (by omega)]) (by unfold bty; rw [if_pos (by omega)]) (by omega) _
  refine r_iconst C dX4_bestTry_0 ?_
  refine r_istore_n C dX4_bestTry_1 2 rfl (by decide) rfl ?_
  dsimp only [List.set, Nat.reduceAdd]
  refine r_bipush C rfl dX4_bestTry_2 ?_
  refine r_istore_n C dX4_bestTry_4 3 rfl (by decide) rfl ?_
  dsimp only [List.set, Nat.reduceAdd]
  refine r_iconst C dX4_bestTry_5 ?_
  refine r_istore C dX4_bestTry_6 4 rfl (by decide) rfl ?_
  dsimp only [List.set, Nat.reduceAdd]
  exact lp 0 (by omega) _ _ _ rfl rfl rfl _
set_option maxRecDepth 10000 in
set_option maxHeartbeats 1000000 in
theorem c_seenAdd (M : Mm_) {a b c : Int} (h0 : 0 ≤ M.1 15 3) (h1 : M.1 15 3 < 6) : Cn 0 kX2_add [.ref 15, .int (zI a), .int (zI b), .int (zI c)] M (pV (mU (mU (mU (mU M 16 (M.1 15 3).toNat a) 17 (M.1 15 3).toNat b) 18 (M.1 15 3).toNat c) 15 3 (M.1 15 3 + 1))) := by
  refine Cn.of rfl (Nat.le_of_ble_eq_true rfl) (fun G C E => ?_)
  show G 0 [.ref 15, .int (zI a), .int (zI b), .int (zI c)] [] M
  obtain ⟨k, hc⟩ := Int.eq_ofNat_of_zero_le h0
  refine r_aload_n C rfl dX2_add_0 ?_
  refine r_geti C dX2_add_1 fl_X2_21 ly_15 rfl ?_
  refine r_bipush C rfl dX2_add_4 ?_
  refine r_icmp_ge C (tgt := 49) dX2_add_6 rfl (by first | assumption | exact rgm (by omega) (by omega)) (by first | assumption | exact rgm (by omega) (by omega)) (fun h6 => absurd h6 (by omega)) (fun h6 => ?_)
  refine r_aload_n C rfl dX2_add_9 ?_
  refine r_getr C dX2_add_10 fl_X2_9 ly_15 rfl ?_
  refine r_aload_n C rfl dX2_add_13 ?_
  refine r_geti C dX2_add_14 fl_X2_21 ly_15 rfl ?_
  refine r_iload_n C rfl dX2_add_17 ?_
  refine r_iast C dX2_add_18 ly_16 hc (by omega) ?_
  refine r_aload_n C rfl dX2_add_19 ?_
  refine r_getr C dX2_add_20 fl_X2_15 ly_15 rfl ?_
  refine r_aload_n C rfl dX2_add_23 ?_
  refine r_geti C dX2_add_24 fl_X2_21 ly_15 rfl ?_
  refine r_iload_n C rfl dX2_add_27 ?_
  refine r_iast C dX2_add_28 ly_17 (by simpa [mU] using hc) (by omega) ?_
  refine r_aload_n C rfl dX2_add_29 ?_
  refine r_getr C dX2_add_30 fl_X2_18 ly_15 rfl ?_
  refine r_aload_n C rfl dX2_add_33 ?_
  refine r_geti C dX2_add_34 fl_X2_21 ly_15 rfl ?_
  refine r_iload_n C rfl dX2_add_37 ?_
  refine r_iast C dX2_add_38 ly_18 (by simpa [mU] using hc) (by omega) ?_
  refine r_aload_n C rfl dX2_add_39 ?_
  refine r_dup C rfl dX2_add_40 ?_
  refine r_geti C dX2_add_41 fl_X2_21 ly_15 rfl ?_
  refine r_iconst C dX2_add_44 ?_
  refine r_iadd C dX2_add_45 ?_
  refine r_put C dX2_add_46 fl_X2_21 rfl (Or.inl rfl) ly_15 rfl ?_
  exact r_vret E dX2_add_49 (by refine ⟨rfl, ?_⟩; simp [mU, hc])
set_option maxRecDepth 10000 in
set_option maxHeartbeats 1000000 in
theorem c_allows (M : Mm_) {p kind q : Int} (hp : rg p) (hk : 0 ≤ kind ∧ kind ≤ 4) (hq : 0 ≤ q ∧ q ≤ 9) (hs : 0 ≤ M.1 15 3 ∧ M.1 15 3 ≤ 6) (hsp : ∀ i, i < 6 → 0 ≤ M.1 16 i ∧ M.1 16 i ≤ 3) (hsw : ∀ i, i < 6 → 0 ≤ M.1 17 i ∧ M.1 17 i ≤ 2) (hsb : ∀ i, i < 6 → 0 ≤ M.1 18 i ∧ M.1 18 i ≤ 99) : Cn 2 kX2_allowsPride [.ref 15, .int (zI p), .int (zI kind), .int (zI q)] M (pB (alw (M.1 16) (M.1 17) (M.1 18) (M.1 15 3).toNat p kind q = true) M) := by
  obtain ⟨n, hn⟩ := Int.eq_ofNat_of_zero_le hs.1
  have en : (M.1 15 3).toNat = n := by omega
  rw [en]
  refine Cn.of rfl (Nat.le_of_ble_eq_true rfl) (fun G C E => ?_)
  show G 0 [.ref 15, .int (zI p), .int (zI kind), .int (zI q), .null] [] M
  have lp : ∀ i, i ≤ n → ∀ z : Int, z = i → (∀ j, j < i → M.1 16 j = p → gw kind q (M.1 17 j) = M.1 18 j) → G 3 [.ref 15, .int (zI p), .int (zI kind), .int (zI q), .int (zI z)] [] M := by
    refine lpN n ?_ ?_
    · intro z hz hall
      refine r_iload C rfl dX2_allowsPride_3 ?_
      refine r_aload_n C rfl dX2_allowsPride_5 ?_
      refine r_geti C dX2_allowsPride_6 fl_X2_21 ly_15 rfl ?_
      refine r_icmp_ge C (tgt := 53) dX2_allowsPride_9 rfl (by first | assumption | exact rgm (by omega) (by omega)) (by first | assumption | exact rgm (by omega) (by omega)) (fun h9 => ?_) (fun h9 => absurd h9 (by omega))
      refine r_iconst C dX2_allowsPride_53 ?_
      exact r_zret E dX2_allowsPride_54 (by decide) (pB_t (by unfold alw; exact decide_eq_true hall))
    · intro i hi ih z hz hall
      have hw1 := hsp i (by omega)
      have hw2 := hsb i (by omega)
      have hgb := gw_b (kind := kind) (pride := q) (how := M.1 17 i) (by omega) (by omega)
      refine r_iload C rfl dX2_allowsPride_3 ?_
      refine r_aload_n C rfl dX2_allowsPride_5 ?_
      refine r_geti C dX2_allowsPride_6 fl_X2_21 ly_15 rfl ?_
      refine r_icmp_ge C (tgt := 53) dX2_allowsPride_9 rfl (by first | assumption | exact rgm (by omega) (by omega)) (by first | assumption | exact rgm (by omega) (by omega)) (fun h9 => absurd h9 (by omega)) (fun h9 => ?_)
      refine r_aload_n C rfl dX2_allowsPride_12 ?_
      refine r_getr C dX2_allowsPride_13 fl_X2_9 ly_15 rfl ?_
      refine r_iload C rfl dX2_allowsPride_16 ?_
      refine r_iald C dX2_allowsPride_18 ly_16 hz (by omega) ?_
      refine r_iload_n C rfl dX2_allowsPride_19 ?_
      refine r_icmp_ne C (tgt := 47) dX2_allowsPride_20 rfl (by first | assumption | exact rgm (by omega) (by omega)) (by first | assumption | exact rgm (by omega) (by omega)) (fun h20 => ?_) (fun h20 => ?_)
      · refine r_iinc C dX2_allowsPride_47 rfl (by decide) rfl ?_
        dsimp only [List.set, Nat.reduceAdd]
        refine r_goto C (tgt := 3) dX2_allowsPride_50 rfl ?_
        exact ih _ (by omega) (fun j hj h => by rcases (show j < i ∨ j = i by omega) with q2 | q2; exact hall j q2 h; subst q2; exact absurd h h20)
      · refine r_iload_n C rfl dX2_allowsPride_23 ?_
        refine r_iload_n C rfl dX2_allowsPride_24 ?_
        refine r_aload_n C rfl dX2_allowsPride_25 ?_
        refine r_getr C dX2_allowsPride_26 fl_X2_15 ly_15 rfl ?_
        refine r_iload C rfl dX2_allowsPride_29 ?_
        refine r_iald C dX2_allowsPride_31 ly_17 hz (by omega) ?_
        refine r_cSz C dX2_allowsPride_32 sw_X2_35 (c_growth0 M hk hq (hsw i (by omega))) (by decide) rfl rfl (Nat.le_of_ble_eq_true rfl) ?_
        refine r_aload_n C rfl dX2_allowsPride_35 ?_
        refine r_getr C dX2_allowsPride_36 fl_X2_18 ly_15 rfl ?_
        refine r_iload C rfl dX2_allowsPride_39 ?_
        refine r_iald C dX2_allowsPride_41 ly_18 hz (by omega) ?_
        refine r_icmp_eq C (tgt := 47) dX2_allowsPride_42 rfl (by first | assumption | exact rgm (by omega) (by omega)) (by first | assumption | exact rgm (by omega) (by omega)) (fun h42 => ?_) (fun h42 => ?_)
        · refine r_iinc C dX2_allowsPride_47 rfl (by decide) rfl ?_
          dsimp only [List.set, Nat.reduceAdd]
          refine r_goto C (tgt := 3) dX2_allowsPride_50 rfl ?_
          exact ih _ (by omega) (fun j hj h => by rcases (show j < i ∨ j = i by omega) with q2 | q2; exact hall j q2 h; subst q2; exact h42)
        · refine r_iconst C dX2_allowsPride_45 ?_
          exact r_zret E dX2_allowsPride_46 (by decide) (pB_f (by unfold alw; intro h; exact h42 (of_decide_eq_true h i hi h20)))
  refine r_iconst C dX2_allowsPride_0 ?_
  refine r_istore C dX2_allowsPride_1 4 rfl (by decide) rfl ?_
  dsimp only [List.set, Nat.reduceAdd]
  exact lp 0 (by omega) _ rfl (fun j hj => absurd hj (Nat.not_lt_zero j))
set_option maxRecDepth 10000 in
set_option maxHeartbeats 1000000 in
theorem c_prides (M : Mm_) {p kind : Int} (hp : rg p) (hk : 0 ≤ kind ∧ kind ≤ 4) (hs : 0 ≤ M.1 15 3 ∧ M.1 15 3 ≤ 6) (hsp : ∀ i, i < 6 → 0 ≤ M.1 16 i ∧ M.1 16 i ≤ 3) (hsw : ∀ i, i < 6 → 0 ≤ M.1 17 i ∧ M.1 17 i ≤ 2) (hsb : ∀ i, i < 6 → 0 ≤ M.1 18 i ∧ M.1 18 i ≤ 99) : Cn 3 kX2_prides [.ref 15, .int (zI p), .int (zI kind)] M (pZ (prd (M.1 16) (M.1 17) (M.1 18) (M.1 15 3).toNat p kind) M) := by
  refine Cn.of rfl (Nat.le_of_ble_eq_true rfl) (fun G C E => ?_)
  show G 0 [.ref 15, .int (zI p), .int (zI kind), .null, .null] [] M
  have lp : ∀ i, i ≤ 9 → ∀ s2 z : Int, s2 = sb (fun k => alw (M.1 16) (M.1 17) (M.1 18) (M.1 15 3).toNat p kind ((k : Int) + 1)) i → z = (i : Int) + 1 → G 5 [.ref 15, .int (zI p), .int (zI kind), .int (zI s2), .int (zI z)] [] M := by
    refine lpN _ ?_ ?_
    · intro s2 z hs2 hz 
      refine r_iload C rfl dX2_prides_5 ?_
      refine r_bipush C rfl dX2_prides_7 ?_
      refine r_icmp_gt C (tgt := 38) dX2_prides_9 rfl (by first | assumption | exact rgm (by omega) (by omega)) (by first | assumption | exact rgm (by omega) (by omega)) (fun h9 => ?_) (fun h9 => absurd h9 (by omega))
      refine r_iload_n C rfl dX2_prides_38 ?_
      exact r_iret E dX2_prides_39 (pZ_of hs2)
    · intro i hi ih s2 z hs2 hz 
      have hsb9 := sbb (fun k => alw (M.1 16) (M.1 17) (M.1 18) (M.1 15 3).toNat p kind ((k : Int) + 1)) i
      refine r_iload C rfl dX2_prides_5 ?_
      refine r_bipush C rfl dX2_prides_7 ?_
      refine r_icmp_gt C (tgt := 38) dX2_prides_9 rfl (by first | assumption | exact rgm (by omega) (by omega)) (by first | assumption | exact rgm (by omega) (by omega)) (fun h9 => absurd h9 (by omega)) (fun h9 => ?_)
      refine r_aload_n C rfl dX2_prides_12 ?_
      refine r_iload_n C rfl dX2_prides_13 ?_
      refine r_iload_n C rfl dX2_prides_14 ?_
      refine r_iload C rfl dX2_prides_15 ?_
      refine r_cVb C dX2_prides_17 vw_X2_31 (c_allows M hp hk (by omega) hs hsp hsw hsb) (by decide) rfl ly_15 rfl rfl (Nat.le_of_ble_eq_true rfl) (fun h17 => ?_) (fun h17 => ?_)
      · refine r_if_eq C (tgt := 32) dX2_prides_20 rfl (by first | assumption | exact rgm (by omega) (by omega)) (fun h20 => absurd h20 (by decide)) (fun h20 => ?_)
        refine r_iload_n C rfl dX2_prides_23 ?_
        refine r_iconst C dX2_prides_24 ?_
        refine r_iload C rfl dX2_prides_25 ?_
        refine r_iconst C dX2_prides_27 ?_
        refine r_isub C dX2_prides_28 ?_
        refine r_ishl C (v := 2 ^ i) (by rw [show z - 1 = (i : Int) by omega]; exact zb_shl (by omega)) dX2_prides_29 ?_
        refine r_ior C (v := s2 + 2 ^ i) (zb_or (by omega) (by omega) (by omega)) dX2_prides_30 ?_
        refine r_istore_n C dX2_prides_31 3 rfl (by decide) rfl ?_
        dsimp only [List.set, Nat.reduceAdd]
        refine r_iinc C dX2_prides_32 rfl (by decide) rfl ?_
        dsimp only [List.set, Nat.reduceAdd]
        refine r_goto C (tgt := 5) dX2_prides_35 rfl ?_
        exact ih _ _ (by rw [sb_s, if_pos (by rw [← hz]; exact h17)]; omega) (by omega)
      · refine r_if_eq C (tgt := 32) dX2_prides_20 rfl (by first | assumption | exact rgm (by omega) (by omega)) (fun h20 => ?_) (fun h20 => absurd h20 (by decide))
        refine r_iinc C dX2_prides_32 rfl (by decide) rfl ?_
        dsimp only [List.set, Nat.reduceAdd]
        refine r_goto C (tgt := 5) dX2_prides_35 rfl ?_
        exact ih _ _ (by rw [sb_s, if_neg (by rw [← hz]; exact h17)]; omega) (by omega)
  refine r_iconst C dX2_prides_0 ?_
  refine r_istore_n C dX2_prides_1 3 rfl (by decide) rfl ?_
  dsimp only [List.set, Nat.reduceAdd]
  refine r_iconst C dX2_prides_2 ?_
  refine r_istore C dX2_prides_3 4 rfl (by decide) rfl ?_
  dsimp only [List.set, Nat.reduceAdd]
  exact lp 0 (by omega) _ _ rfl rfl
