
theorem lg_z (x y : Int64) : lg_cmp x y = zI (if y.toInt < x.toInt then 1 else if x.toInt = y.toInt then 0 else -1) := by
  unfold lg_cmp
  by_cases h1 : y < x
  · rw [if_pos h1, if_pos (Int64.lt_iff_toInt_lt.mp h1)]; rfl
  · rw [if_neg h1, if_neg (fun h => h1 (Int64.lt_iff_toInt_lt.mpr h))]
    by_cases h2 : x = y
    · rw [if_pos h2, if_pos (by rw [h2])]; rfl
    · rw [if_neg h2, if_neg (fun h => h2 (Int64.toInt_inj.mp h))]; rfl
theorem lg_r (x y : Int64) : rg (if y.toInt < x.toInt then 1 else if x.toInt = y.toInt then 0 else -1) := by
  split
  · exact rgm (by decide) (by decide)
  · split
    · exact rgm (by decide) (by decide)
    · exact rgm (by decide) (by decide)
theorem lg_n (x y : Int64) : (if y.toInt < x.toInt then (1 : Int) else if x.toInt = y.toInt then 0 else -1) < 0 ↔ x.toInt < y.toInt := by
  split
  · omega
  · split <;> omega
theorem lg_p (x y : Int64) : 0 < (if y.toInt < x.toInt then (1 : Int) else if x.toInt = y.toInt then 0 else -1) ↔ y.toInt < x.toInt := by
  split
  · omega
  · split <;> omega
theorem zl_toInt {a : Int} (h : rg a) : (zI a).toInt64.toInt = a := by
  rw [Int32.toInt_toInt64, zI_toInt h]

set_option maxRecDepth 10000 in
set_option maxHeartbeats 1000000 in
theorem c_in (M : Mm_) (x y z : Int64) : Cn 0 kX7_in [.long x, .long y, .long z] M (pB (y.toInt ≤ x.toInt ∧ x.toInt ≤ z.toInt) M) := by
  refine Cn.of rfl (Nat.le_of_ble_eq_true rfl) (fun G C E => ?_)
  show G 0 [.long x, .null, .long y, .null, .long z, .null] [] M
  refine r_lload_n C rfl dX7_in_0 ?_
  refine r_lload_n C rfl dX7_in_1 ?_
  refine r_lcmp C dX7_in_2 ?_
  rw [lg_z]
  refine r_if_lt C (tgt := 17) dX7_in_3 rfl (lg_r x y) (fun h3 => ?_) (fun h3 => ?_)
  · refine r_iconst C dX7_in_17 ?_
    exact r_zret E dX7_in_18 (by decide) (pB_f (fun q => by have := (lg_n x y).mp h3; omega))
  · have h3 : y.toInt ≤ x.toInt := by
      by_cases q : x.toInt < y.toInt
      · exact absurd ((lg_n x y).mpr q) h3
      · omega
    refine r_lload_n C rfl dX7_in_6 ?_
    refine r_lload C rfl dX7_in_7 ?_
    refine r_lcmp C dX7_in_9 ?_
    rw [lg_z]
    refine r_if_gt C (tgt := 17) dX7_in_10 rfl (lg_r x z) (fun h9 => ?_) (fun h9 => ?_)
    · refine r_iconst C dX7_in_17 ?_
      exact r_zret E dX7_in_18 (by decide) (pB_f (fun q => by have := (lg_p x z).mp h9; omega))
    · have h9 : x.toInt ≤ z.toInt := by
        by_cases q : z.toInt < x.toInt
        · exact absurd ((lg_p x z).mpr q) h9
        · omega
      refine r_iconst C dX7_in_13 ?_
      refine r_goto C (tgt := 18) dX7_in_14 rfl ?_
      exact r_zret E dX7_in_18 (by decide) (pB_t ⟨h3, h9⟩)


theorem c_inZ (M : Mm_) {a b c : Int} {y z : Int64} (ra : rg a) (hy : y.toInt = b) (hz : z.toInt = c) : Cn 0 kX7_in [.long (zI a).toInt64, .long y, .long z] M (pB (b ≤ a ∧ a ≤ c) M) := by
  have h := c_in M (zI a).toInt64 y z
  rw [zl_toInt ra, hy, hz] at h
  exact h


def mCp (M : Mm_) (a b i : Nat) : Mm_ := (fun x y => if x = b ∧ y < i then M.1 a y else M.1 x y, M.2)
theorem mCp_s {M : Mm_} {a b i : Nat} (h : a ≠ b) : mU (mCp M a b i) b i ((mCp M a b i).1 a i) = mCp M a b (i + 1) := by
  refine mU_ext ?_ (fun x y hx => ?_) rfl
  · simp [mCp, h]
  · have q : (x = b ∧ y < i + 1) ↔ (x = b ∧ y < i) := by omega
    simp only [mCp, q]
theorem mCp_0 (M : Mm_) (a b : Nat) : mCp M a b 0 = M := by simp [mCp]
theorem mCp_all {M : Mm_} {a b n : Nat} (h : lnT b = n) : eqM (mCp M a b n) (mR M b (M.1 a)) := by
  refine ⟨fun x j hj => ?_, rfl⟩
  by_cases hx : x = b
  · subst hx
    rw [h] at hj
    simp [mR, mCp, hj]
  · simp [mR, mCp, hx]

set_option maxRecDepth 10000 in
set_option maxHeartbeats 1000000 in
theorem c_copyM (M : Mm_) {a b n : Nat} {c1 c2 : List Nat} (hab : a ≠ b) (ha : lyT[a]? = some (0, n, c1)) (hb : lyT[b]? = some (0, n, c2)) : Cn 0 kX7_copy [.ref a, .ref b] M (pV (mR M b (M.1 a))) := by
  have hn := lyT_m ha
  refine Cn.of rfl (Nat.le_of_ble_eq_true rfl) (fun G C E => ?_)
  show G 0 [.ref a, .ref b, .null] [] M
  have lp : ∀ i : Nat, i ≤ n → ∀ z : Int, z = i → G 2 [.ref a, .ref b, .int (zI z)] [] (mCp M a b i) := by
    refine lpN n ?_ ?_
    · intro z hz
      refine r_iload_n C rfl dX7_copy_2 ?_
      refine r_aload_n C rfl dX7_copy_3 ?_
      refine r_alen C dX7_copy_4 ha ?_
      refine r_icmp_ge C (tgt := 20) dX7_copy_5 rfl (by first | assumption | exact rgm (by omega) (by omega)) (by first | assumption | exact rgm (by omega) (by omega)) (fun h5 => ?_) (fun h5 => absurd h5 (by omega))
      refine r_ext C (mCp_all (lnT_a hb)) ?_
      exact r_vret E dX7_copy_20 pV_of
    · intro i hi ih z hz
      refine r_iload_n C rfl dX7_copy_2 ?_
      refine r_aload_n C rfl dX7_copy_3 ?_
      refine r_alen C dX7_copy_4 ha ?_
      refine r_icmp_ge C (tgt := 20) dX7_copy_5 rfl (by first | assumption | exact rgm (by omega) (by omega)) (by first | assumption | exact rgm (by omega) (by omega)) (fun h5 => absurd h5 (by omega)) (fun h5 => ?_)
      refine r_aload_n C rfl dX7_copy_8 ?_
      refine r_iload_n C rfl dX7_copy_9 ?_
      refine r_aload_n C rfl dX7_copy_10 ?_
      refine r_iload_n C rfl dX7_copy_11 ?_
      refine r_iald C dX7_copy_12 ha hz (by omega) ?_
      refine r_iast C dX7_copy_13 hb hz (by omega) ?_
      rw [mCp_s hab]
      refine r_iinc C dX7_copy_14 rfl (by decide) rfl ?_
      dsimp only [List.set, Nat.reduceAdd]
      refine r_goto C (tgt := 2) dX7_copy_17 rfl ?_
      exact ih _ (by omega)
  refine r_iconst C dX7_copy_0 ?_
  refine r_istore_n C dX7_copy_1 2 rfl (by decide) rfl ?_
  dsimp only [List.set, Nat.reduceAdd]
  have h0 := lp 0 (Nat.zero_le _) 0 rfl
  rw [mCp_0] at h0
  exact h0
set_option maxRecDepth 10000 in
set_option maxHeartbeats 1000000 in
theorem c_ones (M : Mm_) {q : Int} (h0 : 0 ≤ q) (h1 : q < 2147483648) : Cn 0 kX7_ones [.int (zI q)] M (pZ (ob q) M) := by
  refine Cn.of rfl (Nat.le_of_ble_eq_true rfl) (fun G C E => ?_)
  show G 0 [.int (zI q), .null, .null] [] M
  have lp : ∀ i : Nat, i ≤ 12 → ∀ s z : Int, s = sm (bt q) i → z = i → G 4 [.int (zI q), .int (zI s), .int (zI z)] [] M := by
    refine lpN _ ?_ ?_
    · intro s z hs hz 
      refine r_iload_n C rfl dX7_ones_4 ?_
      refine r_bipush C rfl dX7_ones_5 ?_
      refine r_icmp_ge C (tgt := 24) dX7_ones_7 rfl (by first | assumption | exact rgm (by omega) (by omega)) (by first | assumption | exact rgm (by omega) (by omega)) (fun h7 => ?_) (fun h7 => absurd h7 (by omega))
      refine r_iload_n C rfl dX7_ones_24 ?_
      exact r_iret E dX7_ones_25 (pZ_of hs)
    · intro i hi ih s z hs hz 
      have hdv := dv_b i h0
      refine r_iload_n C rfl dX7_ones_4 ?_
      refine r_bipush C rfl dX7_ones_5 ?_
      refine r_icmp_ge C (tgt := 24) dX7_ones_7 rfl (by first | assumption | exact rgm (by omega) (by omega)) (by first | assumption | exact rgm (by omega) (by omega)) (fun h7 => absurd h7 (by omega)) (fun h7 => ?_)
      refine r_iload_n C rfl dX7_ones_10 ?_
      refine r_iload_n C rfl dX7_ones_11 ?_
      refine r_iload_n C rfl dX7_ones_12 ?_
      refine r_ishr C (v := q / 2 ^ i) (by rw [hz]; exact zb_shr h0 (by omega) (by omega)) dX7_ones_13 ?_
      refine r_iconst C dX7_ones_14 ?_
      refine r_iand C (v := q / 2 ^ i % 2) (zb_and1 (by omega) (by omega)) dX7_ones_15 ?_
      refine r_iadd C dX7_ones_16 ?_
      refine r_istore_n C dX7_ones_17 1 rfl (by decide) rfl ?_
      dsimp only [List.set, Nat.reduceAdd]
      refine r_iinc C dX7_ones_18 rfl (by decide) rfl ?_
      dsimp only [List.set, Nat.reduceAdd]
      refine r_goto C (tgt := 4) dX7_ones_21 rfl ?_
      exact ih _ _ (by simp only [sm]; rw [hs]; rfl) (by omega)
  refine r_iconst C dX7_ones_0 ?_
  refine r_istore_n C dX7_ones_1 1 rfl (by decide) rfl ?_
  dsimp only [List.set, Nat.reduceAdd]
  refine r_iconst C dX7_ones_2 ?_
  refine r_istore_n C dX7_ones_3 2 rfl (by decide) rfl ?_
  dsimp only [List.set, Nat.reduceAdd]
  exact lp 0 (by omega) _ _ rfl rfl
set_option maxRecDepth 10000 in
set_option maxHeartbeats 1000000 in
theorem c_common (M : Mm_) {a b : Nat} (ha : a ≤ 12) (hb : b ≤ 12) : Cn 0 kX7_common [.int (zI (a : Int)), .int (zI (b : Int))] M (pZ ((Nat.gcd a b : Nat) : Int) M) := by
  refine Cn.of rfl (Nat.le_of_ble_eq_true rfl) (fun G C E => ?_)
  show G 0 [.int (zI (a : Int)), .int (zI (b : Int)), .null, .null, .null] [] M
  have lp : ∀ (y x : Nat) (v4 : Value), y ≤ 12 → x ≤ 12 → Nat.gcd x y = Nat.gcd a b → G 4 [.int (zI (a : Int)), .int (zI (b : Int)), .int (zI (x : Int)), .int (zI (y : Int)), v4] [] M := by
    intro y
    induction y using Nat.strongRecOn with
    | _ y ih =>
      intro x v4 hy12 hx hg
      by_cases hy : y = 0
      · subst hy
        refine r_iload_n C rfl dX7_common_4 ?_
        refine r_if_le C (tgt := 21) dX7_common_5 rfl (by first | assumption | exact rgm (by omega) (by omega)) (fun h5 => ?_) (fun h5 => absurd h5 (by omega))
        refine r_iload_n C rfl dX7_common_21 ?_
        exact r_iret E dX7_common_22 (pZ_of (by rw [← hg, Nat.gcd_zero_right]))
      · have hm : x % y < y := Nat.mod_lt _ (by omega)
        refine r_iload_n C rfl dX7_common_4 ?_
        refine r_if_le C (tgt := 21) dX7_common_5 rfl (by first | assumption | exact rgm (by omega) (by omega)) (fun h5 => absurd h5 (by omega)) (fun h5 => ?_)
        refine r_iload_n C rfl dX7_common_8 ?_
        refine r_iload_n C rfl dX7_common_9 ?_
        refine r_irem C (by omega) (by omega) (by first | assumption | exact rgm (by omega) (by omega)) (by first | assumption | exact rgm (by omega) (by omega)) dX7_common_10 ?_
        rw [emodN]
        refine r_istore C dX7_common_11 4 rfl (by decide) rfl ?_
        dsimp only [List.set, Nat.reduceAdd]
        refine r_iload_n C rfl dX7_common_13 ?_
        refine r_istore_n C dX7_common_14 2 rfl (by decide) rfl ?_
        dsimp only [List.set, Nat.reduceAdd]
        refine r_iload C rfl dX7_common_15 ?_
        refine r_istore_n C dX7_common_17 3 rfl (by decide) rfl ?_
        dsimp only [List.set, Nat.reduceAdd]
        refine r_goto C (tgt := 4) dX7_common_18 rfl ?_
        refine ih (x % y) hm y _ (by omega) (by omega) ?_
        rw [← hg, Nat.gcd_comm x y, Nat.gcd_rec y x, Nat.gcd_comm]
  refine r_iload_n C rfl dX7_common_0 ?_
  refine r_istore_n C dX7_common_1 2 rfl (by decide) rfl ?_
  dsimp only [List.set, Nat.reduceAdd]
  refine r_iload_n C rfl dX7_common_2 ?_
  refine r_istore_n C dX7_common_3 3 rfl (by decide) rfl ?_
  dsimp only [List.set, Nat.reduceAdd]
  exact lp b a _ (by omega) (by omega) rfl
set_option maxRecDepth 10000 in
set_option maxHeartbeats 1000000 in
theorem c_apart (M : Mm_) {a b : Int} (ha : 0 ≤ a ∧ a ≤ 5) (hb : 0 ≤ b ∧ b ≤ 5) : Cn 0 kX7_apart [.int (zI a), .int (zI b)] M (pZ (dst a b) M) := by
  refine Cn.of rfl (Nat.le_of_ble_eq_true rfl) (fun G C E => ?_)
  show G 0 [.int (zI a), .int (zI b)] [] M
  refine r_iload_n C rfl dX7_apart_0 ?_
  refine r_iload_n C rfl dX7_apart_1 ?_
  refine r_icmp_ge C (tgt := 11) dX7_apart_2 rfl (by first | assumption | exact rgm (by omega) (by omega)) (by first | assumption | exact rgm (by omega) (by omega)) (fun h2 => ?_) (fun h2 => ?_)
  · refine r_iload_n C rfl dX7_apart_11 ?_
    refine r_iload_n C rfl dX7_apart_12 ?_
    refine r_isub C dX7_apart_13 ?_
    exact r_iret E dX7_apart_14 (pZ_of (by unfold dst; split <;> omega))
  · refine r_iload_n C rfl dX7_apart_5 ?_
    refine r_iload_n C rfl dX7_apart_6 ?_
    refine r_isub C dX7_apart_7 ?_
    refine r_goto C (tgt := 14) dX7_apart_8 rfl ?_
    exact r_iret E dX7_apart_14 (pZ_of (by unfold dst; split <;> omega))
set_option maxRecDepth 10000 in
set_option maxHeartbeats 1000000 in
theorem c_forceBy (M : Mm_) {g a b : Int} (hg : 0 ≤ g ∧ g ≤ 99) (ha : 0 ≤ a ∧ a ≤ 5) (hb : 0 ≤ b ∧ b ≤ 5) : Cn 0 kX7_forceBy [.int (zI g), .int (zI (dst a b))] M (pZ (rch g a b) M) := by
  have hdb : 0 ≤ dst a b ∧ dst a b ≤ 5 := by unfold dst; split <;> omega
  refine Cn.of rfl (Nat.le_of_ble_eq_true rfl) (fun G C E => ?_)
  show G 0 [.int (zI g), .int (zI (dst a b))] [] M
  refine r_iload_n C rfl dX7_forceBy_0 ?_
  refine r_iconst C dX7_forceBy_1 ?_
  refine r_iload_n C rfl dX7_forceBy_2 ?_
  refine r_imul C dX7_forceBy_3 ?_
  refine r_icmp_le C (tgt := 15) dX7_forceBy_4 rfl (by first | assumption | exact rgm (by omega) (by omega)) (by first | assumption | exact rgm (by omega) (by omega)) (fun h4 => ?_) (fun h4 => ?_)
  · refine r_iconst C dX7_forceBy_15 ?_
    exact r_iret E dX7_forceBy_16 (pZ_of (by unfold rch; split <;> omega))
  · refine r_iload_n C rfl dX7_forceBy_7 ?_
    refine r_iconst C dX7_forceBy_8 ?_
    refine r_iload_n C rfl dX7_forceBy_9 ?_
    refine r_imul C dX7_forceBy_10 ?_
    refine r_isub C dX7_forceBy_11 ?_
    refine r_goto C (tgt := 16) dX7_forceBy_12 rfl ?_
    exact r_iret E dX7_forceBy_16 (pZ_of (by unfold rch; split <;> omega))
set_option maxRecDepth 10000 in
set_option maxHeartbeats 1000000 in
theorem c_grieved (M : Mm_) {kind pride how : Int} (hk : 0 ≤ kind ∧ kind ≤ 4) (hp : 0 ≤ pride ∧ pride ≤ 9) (hh : 0 ≤ how ∧ how ≤ 2) : Cn 0 kX7_grievedBy [.int (zI kind), .int (zI pride), .int (zI how)] M (pZ (gw kind pride how) M) := by
  refine Cn.of rfl (Nat.le_of_ble_eq_true rfl) (fun G C E => ?_)
  show G 0 [.int (zI kind), .int (zI pride), .int (zI how), .null, .null] [] M
  refine r_iload_n C rfl dX7_grievedBy_0 ?_
  refine r_if_ne C (tgt := 8) dX7_grievedBy_1 rfl (by first | assumption | exact rgm (by omega) (by omega)) (fun h1 => ?_) (fun h1 => ?_)
  · refine r_iload_n C rfl dX7_grievedBy_8 ?_
    refine r_iconst C dX7_grievedBy_9 ?_
    refine r_icmp_ne C (tgt := 17) dX7_grievedBy_10 rfl (by first | assumption | exact rgm (by omega) (by omega)) (by first | assumption | exact rgm (by omega) (by omega)) (fun h10 => ?_) (fun h10 => ?_)
    · refine r_iload_n C rfl dX7_grievedBy_17 ?_
      refine r_iconst C dX7_grievedBy_18 ?_
      refine r_icmp_ne C (tgt := 27) dX7_grievedBy_19 rfl (by first | assumption | exact rgm (by omega) (by omega)) (by first | assumption | exact rgm (by omega) (by omega)) (fun h19 => ?_) (fun h19 => ?_)
      · refine r_bipush C rfl dX7_grievedBy_27 ?_
        refine r_istore_n C dX7_grievedBy_29 3 rfl (by decide) rfl ?_
        dsimp only [List.set, Nat.reduceAdd]
        refine r_iload_n C rfl dX7_grievedBy_30 ?_
        refine r_iload_n C rfl dX7_grievedBy_31 ?_
        refine r_imul C dX7_grievedBy_32 ?_
        refine r_iconst C dX7_grievedBy_33 ?_
        refine r_idiv C (by omega) (by omega) (by first | assumption | exact rgm (by omega) (by omega)) (by first | assumption | exact rgm (by omega) (by omega)) dX7_grievedBy_34 ?_
        refine r_istore C dX7_grievedBy_35 4 rfl (by decide) rfl ?_
        dsimp only [List.set, Nat.reduceAdd]
        refine r_iload_n C rfl dX7_grievedBy_37 ?_
        refine r_iconst C dX7_grievedBy_38 ?_
        refine r_icmp_eq C (tgt := 47) dX7_grievedBy_39 rfl (by first | assumption | exact rgm (by omega) (by omega)) (by first | assumption | exact rgm (by omega) (by omega)) (fun h39 => ?_) (fun h39 => ?_)
        · refine r_iload C rfl dX7_grievedBy_47 ?_
          refine r_iconst C dX7_grievedBy_49 ?_
          refine r_idiv C (by omega) (by omega) (by first | assumption | exact rgm (by omega) (by omega)) (by first | assumption | exact rgm (by omega) (by omega)) dX7_grievedBy_50 ?_
          refine r_goto C (tgt := 56) dX7_grievedBy_51 rfl ?_
          exact r_iret E dX7_grievedBy_56 (pZ_of (by unfold gw; rw [if_pos (show kind = 1 ∨ kind = 4 by omega), show wth kind how = 6 by unfold wth; rw [if_neg (by omega), if_neg (by omega), if_neg (by omega)]]))
        · refine r_iload_n C rfl dX7_grievedBy_42 ?_
          refine r_iconst C dX7_grievedBy_43 ?_
          refine r_icmp_ne C (tgt := 54) dX7_grievedBy_44 rfl (by first | assumption | exact rgm (by omega) (by omega)) (by first | assumption | exact rgm (by omega) (by omega)) (fun h44 => ?_) (fun h44 => ?_)
          · refine r_iload C rfl dX7_grievedBy_54 ?_
            exact r_iret E dX7_grievedBy_56 (pZ_of (by unfold gw; rw [if_neg (show ¬ (kind = 1 ∨ kind = 4) by omega), show wth kind how = 6 by unfold wth; rw [if_neg (by omega), if_neg (by omega), if_neg (by omega)]]))
          · refine r_iload C rfl dX7_grievedBy_47 ?_
            refine r_iconst C dX7_grievedBy_49 ?_
            refine r_idiv C (by omega) (by omega) (by first | assumption | exact rgm (by omega) (by omega)) (by first | assumption | exact rgm (by omega) (by omega)) dX7_grievedBy_50 ?_
            refine r_goto C (tgt := 56) dX7_grievedBy_51 rfl ?_
            exact r_iret E dX7_grievedBy_56 (pZ_of (by unfold gw; rw [if_pos (show kind = 1 ∨ kind = 4 by omega), show wth kind how = 6 by unfold wth; rw [if_neg (by omega), if_neg (by omega), if_neg (by omega)]]))
      · refine r_bipush C rfl dX7_grievedBy_22 ?_
        refine r_goto C (tgt := 29) dX7_grievedBy_24 rfl ?_
        refine r_istore_n C dX7_grievedBy_29 3 rfl (by decide) rfl ?_
        dsimp only [List.set, Nat.reduceAdd]
        refine r_iload_n C rfl dX7_grievedBy_30 ?_
        refine r_iload_n C rfl dX7_grievedBy_31 ?_
        refine r_imul C dX7_grievedBy_32 ?_
        refine r_iconst C dX7_grievedBy_33 ?_
        refine r_idiv C (by omega) (by omega) (by first | assumption | exact rgm (by omega) (by omega)) (by first | assumption | exact rgm (by omega) (by omega)) dX7_grievedBy_34 ?_
        refine r_istore C dX7_grievedBy_35 4 rfl (by decide) rfl ?_
        dsimp only [List.set, Nat.reduceAdd]
        refine r_iload_n C rfl dX7_grievedBy_37 ?_
        refine r_iconst C dX7_grievedBy_38 ?_
        refine r_icmp_eq C (tgt := 47) dX7_grievedBy_39 rfl (by first | assumption | exact rgm (by omega) (by omega)) (by first | assumption | exact rgm (by omega) (by omega)) (fun h39 => ?_) (fun h39 => ?_)
        · refine r_iload C rfl dX7_grievedBy_47 ?_
          refine r_iconst C dX7_grievedBy_49 ?_
          refine r_idiv C (by omega) (by omega) (by first | assumption | exact rgm (by omega) (by omega)) (by first | assumption | exact rgm (by omega) (by omega)) dX7_grievedBy_50 ?_
          refine r_goto C (tgt := 56) dX7_grievedBy_51 rfl ?_
          exact r_iret E dX7_grievedBy_56 (pZ_of (by unfold gw; rw [if_pos (show kind = 1 ∨ kind = 4 by omega), show wth kind how = 12 by unfold wth; rw [if_neg (by omega), if_neg (by omega), if_pos (by omega)]]))
        · refine r_iload_n C rfl dX7_grievedBy_42 ?_
          refine r_iconst C dX7_grievedBy_43 ?_
          refine r_icmp_ne C (tgt := 54) dX7_grievedBy_44 rfl (by first | assumption | exact rgm (by omega) (by omega)) (by first | assumption | exact rgm (by omega) (by omega)) (fun h44 => ?_) (fun h44 => ?_)
          · refine r_iload C rfl dX7_grievedBy_54 ?_
            exact r_iret E dX7_grievedBy_56 (pZ_of (by unfold gw; rw [if_neg (show ¬ (kind = 1 ∨ kind = 4) by omega), show wth kind how = 12 by unfold wth; rw [if_neg (by omega), if_neg (by omega), if_pos (by omega)]]))
          · refine r_iload C rfl dX7_grievedBy_47 ?_
            refine r_iconst C dX7_grievedBy_49 ?_
            refine r_idiv C (by omega) (by omega) (by first | assumption | exact rgm (by omega) (by omega)) (by first | assumption | exact rgm (by omega) (by omega)) dX7_grievedBy_50 ?_
            refine r_goto C (tgt := 56) dX7_grievedBy_51 rfl ?_
            exact r_iret E dX7_grievedBy_56 (pZ_of (by unfold gw; rw [if_pos (show kind = 1 ∨ kind = 4 by omega), show wth kind how = 12 by unfold wth; rw [if_neg (by omega), if_neg (by omega), if_pos (by omega)]]))
    · refine r_iconst C dX7_grievedBy_13 ?_
      refine r_goto C (tgt := 29) dX7_grievedBy_14 rfl ?_
      refine r_istore_n C dX7_grievedBy_29 3 rfl (by decide) rfl ?_
      dsimp only [List.set, Nat.reduceAdd]
      refine r_iload_n C rfl dX7_grievedBy_30 ?_
      refine r_iload_n C rfl dX7_grievedBy_31 ?_
      refine r_imul C dX7_grievedBy_32 ?_
      refine r_iconst C dX7_grievedBy_33 ?_
      refine r_idiv C (by omega) (by omega) (by first | assumption | exact rgm (by omega) (by omega)) (by first | assumption | exact rgm (by omega) (by omega)) dX7_grievedBy_34 ?_
      refine r_istore C dX7_grievedBy_35 4 rfl (by decide) rfl ?_
      dsimp only [List.set, Nat.reduceAdd]
      refine r_iload_n C rfl dX7_grievedBy_37 ?_
      refine r_iconst C dX7_grievedBy_38 ?_
      refine r_icmp_eq C (tgt := 47) dX7_grievedBy_39 rfl (by first | assumption | exact rgm (by omega) (by omega)) (by first | assumption | exact rgm (by omega) (by omega)) (fun h39 => ?_) (fun h39 => ?_)
      · refine r_iload C rfl dX7_grievedBy_47 ?_
        refine r_iconst C dX7_grievedBy_49 ?_
        refine r_idiv C (by omega) (by omega) (by first | assumption | exact rgm (by omega) (by omega)) (by first | assumption | exact rgm (by omega) (by omega)) dX7_grievedBy_50 ?_
        refine r_goto C (tgt := 56) dX7_grievedBy_51 rfl ?_
        exact r_iret E dX7_grievedBy_56 (pZ_of (by unfold gw; rw [if_pos (show kind = 1 ∨ kind = 4 by omega), show wth kind how = 2 by unfold wth; rw [if_neg (by omega), if_pos (by omega)]]))
      · refine r_iload_n C rfl dX7_grievedBy_42 ?_
        refine r_iconst C dX7_grievedBy_43 ?_
        refine r_icmp_ne C (tgt := 54) dX7_grievedBy_44 rfl (by first | assumption | exact rgm (by omega) (by omega)) (by first | assumption | exact rgm (by omega) (by omega)) (fun h44 => ?_) (fun h44 => ?_)
        · refine r_iload C rfl dX7_grievedBy_54 ?_
          exact r_iret E dX7_grievedBy_56 (pZ_of (by unfold gw; rw [if_neg (show ¬ (kind = 1 ∨ kind = 4) by omega), show wth kind how = 2 by unfold wth; rw [if_neg (by omega), if_pos (by omega)]]))
        · refine r_iload C rfl dX7_grievedBy_47 ?_
          refine r_iconst C dX7_grievedBy_49 ?_
          refine r_idiv C (by omega) (by omega) (by first | assumption | exact rgm (by omega) (by omega)) (by first | assumption | exact rgm (by omega) (by omega)) dX7_grievedBy_50 ?_
          refine r_goto C (tgt := 56) dX7_grievedBy_51 rfl ?_
          exact r_iret E dX7_grievedBy_56 (pZ_of (by unfold gw; rw [if_pos (show kind = 1 ∨ kind = 4 by omega), show wth kind how = 2 by unfold wth; rw [if_neg (by omega), if_pos (by omega)]]))
  · refine r_iconst C dX7_grievedBy_4 ?_
    refine r_goto C (tgt := 29) dX7_grievedBy_5 rfl ?_
    refine r_istore_n C dX7_grievedBy_29 3 rfl (by decide) rfl ?_
    dsimp only [List.set, Nat.reduceAdd]
    refine r_iload_n C rfl dX7_grievedBy_30 ?_
    refine r_iload_n C rfl dX7_grievedBy_31 ?_
    refine r_imul C dX7_grievedBy_32 ?_
    refine r_iconst C dX7_grievedBy_33 ?_
    refine r_idiv C (by omega) (by omega) (by first | assumption | exact rgm (by omega) (by omega)) (by first | assumption | exact rgm (by omega) (by omega)) dX7_grievedBy_34 ?_
    refine r_istore C dX7_grievedBy_35 4 rfl (by decide) rfl ?_
    dsimp only [List.set, Nat.reduceAdd]
    refine r_iload_n C rfl dX7_grievedBy_37 ?_
    refine r_iconst C dX7_grievedBy_38 ?_
    refine r_icmp_eq C (tgt := 47) dX7_grievedBy_39 rfl (by first | assumption | exact rgm (by omega) (by omega)) (by first | assumption | exact rgm (by omega) (by omega)) (fun h39 => ?_) (fun h39 => ?_)
    · refine r_iload C rfl dX7_grievedBy_47 ?_
      refine r_iconst C dX7_grievedBy_49 ?_
      refine r_idiv C (by omega) (by omega) (by first | assumption | exact rgm (by omega) (by omega)) (by first | assumption | exact rgm (by omega) (by omega)) dX7_grievedBy_50 ?_
      refine r_goto C (tgt := 56) dX7_grievedBy_51 rfl ?_
      exact r_iret E dX7_grievedBy_56 (pZ_of (by unfold gw; rw [if_pos (show kind = 1 ∨ kind = 4 by omega), show wth kind how = 4 by unfold wth; rw [if_pos (by omega)]]))
    · refine r_iload_n C rfl dX7_grievedBy_42 ?_
      refine r_iconst C dX7_grievedBy_43 ?_
      refine r_icmp_ne C (tgt := 54) dX7_grievedBy_44 rfl (by first | assumption | exact rgm (by omega) (by omega)) (by first | assumption | exact rgm (by omega) (by omega)) (fun h44 => ?_) (fun h44 => ?_)
      · refine r_iload C rfl dX7_grievedBy_54 ?_
        exact r_iret E dX7_grievedBy_56 (pZ_of (by unfold gw; rw [if_neg (show ¬ (kind = 1 ∨ kind = 4) by omega), show wth kind how = 4 by unfold wth; rw [if_pos (by omega)]]))
      · refine r_iload C rfl dX7_grievedBy_47 ?_
        refine r_iconst C dX7_grievedBy_49 ?_
        refine r_idiv C (by omega) (by omega) (by first | assumption | exact rgm (by omega) (by omega)) (by first | assumption | exact rgm (by omega) (by omega)) dX7_grievedBy_50 ?_
        refine r_goto C (tgt := 56) dX7_grievedBy_51 rfl ?_
        exact r_iret E dX7_grievedBy_56 (pZ_of (by unfold gw; rw [if_pos (show kind = 1 ∨ kind = 4 by omega), show wth kind how = 4 by unfold wth; rw [if_pos (by omega)]]))
set_option maxRecDepth 10000 in
set_option maxHeartbeats 1000000 in
theorem c_topped (M : Mm_) {a : Int} (ra : rg a) : Cn 0 kX7_topped [.int (zI a)] M (pZ (tp a) M) := by
  refine Cn.of rfl (Nat.le_of_ble_eq_true rfl) (fun G C E => ?_)
  show G 0 [.int (zI a)] [] M
  refine r_iload_n C rfl dX7_topped_0 ?_
  refine r_bipush C rfl dX7_topped_1 ?_
  refine r_icmp_le C (tgt := 11) dX7_topped_3 rfl (by first | assumption | exact rgm (by omega) (by omega)) (by first | assumption | exact rgm (by omega) (by omega)) (fun h3 => ?_) (fun h3 => ?_)
  · refine r_iload_n C rfl dX7_topped_11 ?_
    exact r_iret E dX7_topped_12 (pZ_of (by unfold tp; split <;> omega))
  · refine r_bipush C rfl dX7_topped_6 ?_
    refine r_goto C (tgt := 12) dX7_topped_8 rfl ?_
    exact r_iret E dX7_topped_12 (pZ_of (by unfold tp; split <;> omega))
set_option maxRecDepth 10000 in
set_option maxHeartbeats 1000000 in
theorem c_kindBy (M : Mm_) {a : Int} (ra : rg a) : Cn 0 kX7_kindBy [.int (zI a)] M (pZ (ixF a) M) := by
  refine Cn.of rfl (Nat.le_of_ble_eq_true rfl) (fun G C E => ?_)
  show G 0 [.int (zI a)] [] M
  refine r_iload_n C rfl dX7_kindBy_0 ?_
  by_cases h98 : a = 98
  · subst h98
    refine r_look C (tgt := 56) dX7_kindBy_1 (rgm (by decide) (by decide)) (by decide) (off := 55) rfl rfl ?_
    refine r_iconst C dX7_kindBy_56 ?_
    exact r_iret E dX7_kindBy_57 (pZ_of rfl)
  by_cases h109 : a = 109
  · subst h109
    refine r_look C (tgt := 60) dX7_kindBy_1 (rgm (by decide) (by decide)) (by decide) (off := 59) rfl rfl ?_
    refine r_iconst C dX7_kindBy_60 ?_
    exact r_iret E dX7_kindBy_61 (pZ_of rfl)
  by_cases h112 : a = 112
  · subst h112
    refine r_look C (tgt := 52) dX7_kindBy_1 (rgm (by decide) (by decide)) (by decide) (off := 51) rfl rfl ?_
    refine r_iconst C dX7_kindBy_52 ?_
    exact r_iret E dX7_kindBy_53 (pZ_of rfl)
  by_cases h115 : a = 115
  · subst h115
    refine r_look C (tgt := 54) dX7_kindBy_1 (rgm (by decide) (by decide)) (by decide) (off := 53) rfl rfl ?_
    refine r_iconst C dX7_kindBy_54 ?_
    exact r_iret E dX7_kindBy_55 (pZ_of rfl)
  by_cases h116 : a = 116
  · subst h116
    refine r_look C (tgt := 58) dX7_kindBy_1 (rgm (by decide) (by decide)) (by decide) (off := 57) rfl rfl ?_
    refine r_iconst C dX7_kindBy_58 ?_
    exact r_iret E dX7_kindBy_59 (pZ_of rfl)
  refine r_look C (tgt := 62) dX7_kindBy_1 ra (by decide) (off := 61) ?_ rfl ?_
  · simp [Op.lookupswitch.offset, Ne.symm h98, Ne.symm h109, Ne.symm h112, Ne.symm h115, Ne.symm h116]
  refine r_iconst C dX7_kindBy_62 ?_
  exact r_iret E dX7_kindBy_63 (pZ_of (by unfold ixF; rw [if_neg h112, if_neg h115, if_neg h98, if_neg h116, if_neg h109]))


def oMv (M : Mm_) : Prop := (M.1 48 3 = 0 ∧ M.1 48 4 = 0) ∨ (2 ≤ M.1 48 3 ∧ M.1 48 3 ≤ 4 ∧ 2 ≤ M.1 48 4 ∧ M.1 48 4 ≤ 6)

set_option maxRecDepth 10000 in
set_option maxHeartbeats 1000000 in
theorem c_lacks (M : Mm_) (hv : oMv M) : Cn 0 kX7_lacks [.ref 48] M (pB (M.1 48 3 = 0) M) := by
  have hv0 : (M.1 48 3 = 0 ∧ M.1 48 4 = 0) ∨ (2 ≤ M.1 48 3 ∧ M.1 48 3 ≤ 4 ∧ 2 ≤ M.1 48 4 ∧ M.1 48 4 ≤ 6) := hv
  refine Cn.of rfl (Nat.le_of_ble_eq_true rfl) (fun G C E => ?_)
  show G 0 [.ref 48] [] M
  refine r_aload_n C rfl dX7_lacks_0 ?_
  refine r_geti C dX7_lacks_1 fl_X7_109 ly_48 rfl ?_
  refine r_if_ne C (tgt := 11) dX7_lacks_4 rfl (by first | assumption | exact rgm (by omega) (by omega)) (fun h4 => ?_) (fun h4 => ?_)
  · refine r_iconst C dX7_lacks_11 ?_
    exact r_zret E dX7_lacks_12 (by decide) (pB_f (by omega))
  · refine r_iconst C dX7_lacks_7 ?_
    refine r_goto C (tgt := 12) dX7_lacks_8 rfl ?_
    exact r_zret E dX7_lacks_12 (by decide) (pB_t (by omega))
set_option maxRecDepth 10000 in
set_option maxHeartbeats 1000000 in
theorem c_isPerson (M : Mm_) {a : Int} (ra : rg a) (hv : oMv M) : Cn 1 kX7_isPerson [.ref 48, .int (zI a)] M (pB (0 ≤ a ∧ a < M.1 48 3) M) := by
  have hv0 : (M.1 48 3 = 0 ∧ M.1 48 4 = 0) ∨ (2 ≤ M.1 48 3 ∧ M.1 48 3 ≤ 4 ∧ 2 ≤ M.1 48 4 ∧ M.1 48 4 ≤ 6) := hv
  refine Cn.of rfl (Nat.le_of_ble_eq_true rfl) (fun G C E => ?_)
  show G 0 [.ref 48, .int (zI a)] [] M
  refine r_iload_n C rfl dX7_isPerson_0 ?_
  refine r_i2l C dX7_isPerson_1 ?_
  refine r_lconst C dX7_isPerson_2 ?_
  refine r_aload_n C rfl dX7_isPerson_3 ?_
  refine r_geti C dX7_isPerson_4 fl_X7_109 ly_48 rfl ?_
  refine r_iconst C dX7_isPerson_7 ?_
  refine r_isub C dX7_isPerson_8 ?_
  refine r_i2l C dX7_isPerson_9 ?_
  refine r_cSb C dX7_isPerson_10 sw_X7_76 (c_inZ M (b := 0) (c := M.1 48 3 - 1) ra rfl (zl_toInt (rgm (by omega) (by omega)))) (by decide) rfl rfl (Nat.le_of_ble_eq_true rfl) (fun h10 => ?_) (fun h10 => ?_)
  · exact r_zret E dX7_isPerson_13 (by decide) (pB_t (by omega))
  · exact r_zret E dX7_isPerson_13 (by decide) (pB_f (by omega))
set_option maxRecDepth 10000 in
set_option maxHeartbeats 1000000 in
theorem c_isPail (M : Mm_) {a : Int} (ra : rg a) (hv : oMv M) : Cn 1 kX7_isPail [.ref 48, .int (zI a)] M (pB (0 ≤ a ∧ a < M.1 48 4) M) := by
  have hv0 : (M.1 48 3 = 0 ∧ M.1 48 4 = 0) ∨ (2 ≤ M.1 48 3 ∧ M.1 48 3 ≤ 4 ∧ 2 ≤ M.1 48 4 ∧ M.1 48 4 ≤ 6) := hv
  refine Cn.of rfl (Nat.le_of_ble_eq_true rfl) (fun G C E => ?_)
  show G 0 [.ref 48, .int (zI a)] [] M
  refine r_iload_n C rfl dX7_isPail_0 ?_
  refine r_i2l C dX7_isPail_1 ?_
  refine r_lconst C dX7_isPail_2 ?_
  refine r_aload_n C rfl dX7_isPail_3 ?_
  refine r_geti C dX7_isPail_4 fl_X7_112 ly_48 rfl ?_
  refine r_iconst C dX7_isPail_7 ?_
  refine r_isub C dX7_isPail_8 ?_
  refine r_i2l C dX7_isPail_9 ?_
  refine r_cSb C dX7_isPail_10 sw_X7_76 (c_inZ M (b := 0) (c := M.1 48 4 - 1) ra rfl (zl_toInt (rgm (by omega) (by omega)))) (by decide) rfl rfl (Nat.le_of_ble_eq_true rfl) (fun h10 => ?_) (fun h10 => ?_)
  · exact r_zret E dX7_isPail_13 (by decide) (pB_t (by omega))
  · exact r_zret E dX7_isPail_13 (by decide) (pB_f (by omega))
set_option maxRecDepth 10000 in
set_option maxHeartbeats 1000000 in
theorem c_isPlaceM (M : Mm_) {a : Int} (ra : rg a) (hv : oMv M) : Cn 1 kX7_isPlace [.ref 48, .int (zI a)] M (pB (M.1 48 3 ≠ 0 ∧ 0 ≤ a ∧ a ≤ 5) M) := by
  have hv0 : (M.1 48 3 = 0 ∧ M.1 48 4 = 0) ∨ (2 ≤ M.1 48 3 ∧ M.1 48 3 ≤ 4 ∧ 2 ≤ M.1 48 4 ∧ M.1 48 4 ≤ 6) := hv
  refine Cn.of rfl (Nat.le_of_ble_eq_true rfl) (fun G C E => ?_)
  show G 0 [.ref 48, .int (zI a)] [] M
  refine r_aload_n C rfl dX7_isPlace_0 ?_
  refine r_cVb C dX7_isPlace_1 vw_X7_133 (c_lacks M hv) (by decide) rfl ly_48 rfl rfl (Nat.le_of_ble_eq_true rfl) (fun h1 => ?_) (fun h1 => ?_)
  · refine r_if_ne C (tgt := 23) dX7_isPlace_4 rfl (by first | assumption | exact rgm (by omega) (by omega)) (fun h4 => ?_) (fun h4 => absurd h4 (by decide))
    refine r_iconst C dX7_isPlace_23 ?_
    exact r_zret E dX7_isPlace_24 (by decide) (pB_f (by omega))
  · refine r_if_ne C (tgt := 23) dX7_isPlace_4 rfl (by first | assumption | exact rgm (by omega) (by omega)) (fun h4 => absurd h4 (by decide)) (fun h4 => ?_)
    refine r_iload_n C rfl dX7_isPlace_7 ?_
    refine r_i2l C dX7_isPlace_8 ?_
    refine r_lconst C dX7_isPlace_9 ?_
    refine r_ldc2 C dX7_isPlace_10 kc_X7_137 ?_
    refine r_cSb C dX7_isPlace_13 sw_X7_76 (c_inZ M (b := 0) (c := 5) ra rfl rfl) (by decide) rfl rfl (Nat.le_of_ble_eq_true rfl) (fun h13 => ?_) (fun h13 => ?_)
    · refine r_if_eq C (tgt := 23) dX7_isPlace_16 rfl (by first | assumption | exact rgm (by omega) (by omega)) (fun h16 => absurd h16 (by decide)) (fun h16 => ?_)
      refine r_iconst C dX7_isPlace_19 ?_
      refine r_goto C (tgt := 24) dX7_isPlace_20 rfl ?_
      exact r_zret E dX7_isPlace_24 (by decide) (pB_t (by omega))
    · refine r_if_eq C (tgt := 23) dX7_isPlace_16 rfl (by first | assumption | exact rgm (by omega) (by omega)) (fun h16 => ?_) (fun h16 => absurd h16 (by decide))
      refine r_iconst C dX7_isPlace_23 ?_
      exact r_zret E dX7_isPlace_24 (by decide) (pB_f (by omega))
set_option maxRecDepth 10000 in
set_option maxHeartbeats 1000000 in
theorem c_isBottle (M : Mm_) {a : Int} (ra : rg a) (hv : oMv M) : Cn 1 kX7_isBottle [.ref 48, .int (zI a)] M (pB (M.1 48 3 ≠ 0 ∧ 0 ≤ a ∧ a ≤ 3) M) := by
  have hv0 : (M.1 48 3 = 0 ∧ M.1 48 4 = 0) ∨ (2 ≤ M.1 48 3 ∧ M.1 48 3 ≤ 4 ∧ 2 ≤ M.1 48 4 ∧ M.1 48 4 ≤ 6) := hv
  refine Cn.of rfl (Nat.le_of_ble_eq_true rfl) (fun G C E => ?_)
  show G 0 [.ref 48, .int (zI a)] [] M
  refine r_aload_n C rfl dX7_isBottle_0 ?_
  refine r_cVb C dX7_isBottle_1 vw_X7_133 (c_lacks M hv) (by decide) rfl ly_48 rfl rfl (Nat.le_of_ble_eq_true rfl) (fun h1 => ?_) (fun h1 => ?_)
  · refine r_if_ne C (tgt := 23) dX7_isBottle_4 rfl (by first | assumption | exact rgm (by omega) (by omega)) (fun h4 => ?_) (fun h4 => absurd h4 (by decide))
    refine r_iconst C dX7_isBottle_23 ?_
    exact r_zret E dX7_isBottle_24 (by decide) (pB_f (by omega))
  · refine r_if_ne C (tgt := 23) dX7_isBottle_4 rfl (by first | assumption | exact rgm (by omega) (by omega)) (fun h4 => absurd h4 (by decide)) (fun h4 => ?_)
    refine r_iload_n C rfl dX7_isBottle_7 ?_
    refine r_i2l C dX7_isBottle_8 ?_
    refine r_lconst C dX7_isBottle_9 ?_
    refine r_ldc2 C dX7_isBottle_10 kc_X7_139 ?_
    refine r_cSb C dX7_isBottle_13 sw_X7_76 (c_inZ M (b := 0) (c := 3) ra rfl rfl) (by decide) rfl rfl (Nat.le_of_ble_eq_true rfl) (fun h13 => ?_) (fun h13 => ?_)
    · refine r_if_eq C (tgt := 23) dX7_isBottle_16 rfl (by first | assumption | exact rgm (by omega) (by omega)) (fun h16 => absurd h16 (by decide)) (fun h16 => ?_)
      refine r_iconst C dX7_isBottle_19 ?_
      refine r_goto C (tgt := 24) dX7_isBottle_20 rfl ?_
      exact r_zret E dX7_isBottle_24 (by decide) (pB_t (by omega))
    · refine r_if_eq C (tgt := 23) dX7_isBottle_16 rfl (by first | assumption | exact rgm (by omega) (by omega)) (fun h16 => ?_) (fun h16 => absurd h16 (by decide))
      refine r_iconst C dX7_isBottle_23 ?_
      exact r_zret E dX7_isBottle_24 (by decide) (pB_f (by omega))

def kdM (M : Mm_) : Nat → Int := fun i => M.1 50 (3 * i)
def prM (M : Mm_) : Nat → Int := fun i => M.1 50 (3 * i + 1)
def grM (M : Mm_) : Nat → Int := fun k => gw (M.1 50 (3 * (k / 3))) (M.1 50 (3 * (k / 3) + 1)) ((k % 3 : Nat) : Int)
def oMr (M : Mm_) : Prop := ∀ i, i < 4 → (0 ≤ M.1 50 (3 * i) ∧ M.1 50 (3 * i) ≤ 4) ∧ (0 ≤ M.1 50 (3 * i + 1) ∧ M.1 50 (3 * i + 1) ≤ 9)

set_option maxRecDepth 10000 in
set_option maxHeartbeats 1000000 in
theorem c_slightOn (M : Mm_) {a : Nat} {q : Int} (ha : lyT[a]? = some (0, 4, [])) (h0 : -1 ≤ q) (h1 : q < 12) (hrw : oMr M) (hg : ∀ i, i < 4 → 0 ≤ M.1 a i ∧ M.1 a i ≤ 99) : Cn 1 kX7_slightOn [.ref 48, .ref a, .int (zI q)] M (pV (mR M a (sl1 (grM M) q (M.1 a)))) := by
  refine Cn.of rfl (Nat.le_of_ble_eq_true rfl) (fun G C E => ?_)
  show G 0 [.ref 48, .ref a, .int (zI q), .null] [] M
  by_cases hq0 : q = -1
  · subst hq0
    refine r_iload_n C rfl dX7_slightOn_0 ?_
    refine r_iconst C dX7_slightOn_1 ?_
    refine r_icmp_eq C (tgt := 43) dX7_slightOn_2 rfl (by first | assumption | exact rgm (by omega) (by omega)) (by first | assumption | exact rgm (by omega) (by omega)) (fun h2 => ?_) (fun h2 => absurd h2 (by omega))
    exact r_vret E dX7_slightOn_43 (by refine ⟨rfl, ?_⟩; rw [sl1_m, mR_self])
  · have hr := hrw (q / 3).toNat (by omega)
    have hgi := hg (q / 3).toNat (by omega)
    have hgb := gw_b (kind := M.1 50 (3 * (q / 3).toNat)) (pride := M.1 50 (3 * (q / 3).toNat + 1)) (how := q % 3) hr.2.1 hr.2.2
    refine r_iload_n C rfl dX7_slightOn_0 ?_
    refine r_iconst C dX7_slightOn_1 ?_
    refine r_icmp_eq C (tgt := 43) dX7_slightOn_2 rfl (by first | assumption | exact rgm (by omega) (by omega)) (by first | assumption | exact rgm (by omega) (by omega)) (fun h2 => absurd h2 (by omega)) (fun h2 => ?_)
    refine r_iload_n C rfl dX7_slightOn_5 ?_
    refine r_iconst C dX7_slightOn_6 ?_
    refine r_idiv C (by omega) (by omega) (by first | assumption | exact rgm (by omega) (by omega)) (by first | assumption | exact rgm (by omega) (by omega)) dX7_slightOn_7 ?_
    refine r_istore_n C dX7_slightOn_8 3 rfl (by decide) rfl ?_
    dsimp only [List.set, Nat.reduceAdd]
    refine r_aload_n C rfl dX7_slightOn_9 ?_
    refine r_iload_n C rfl dX7_slightOn_10 ?_
    refine r_aload_n C rfl dX7_slightOn_11 ?_
    refine r_iload_n C rfl dX7_slightOn_12 ?_
    refine r_iald C dX7_slightOn_13 ha (k := (q / 3).toNat) (by omega) (by omega) ?_
    refine r_aload_n C rfl dX7_slightOn_14 ?_
    refine r_getr C dX7_slightOn_15 fl_X7_13 ly_48 rfl ?_
    refine r_iconst C dX7_slightOn_18 ?_
    refine r_iload_n C rfl dX7_slightOn_19 ?_
    refine r_imul C dX7_slightOn_20 ?_
    refine r_iald C dX7_slightOn_21 ly_50 (k := 3 * (q / 3).toNat) (by omega) (by omega) ?_
    refine r_aload_n C rfl dX7_slightOn_22 ?_
    refine r_getr C dX7_slightOn_23 fl_X7_13 ly_48 rfl ?_
    refine r_iconst C dX7_slightOn_26 ?_
    refine r_iload_n C rfl dX7_slightOn_27 ?_
    refine r_imul C dX7_slightOn_28 ?_
    refine r_iconst C dX7_slightOn_29 ?_
    refine r_iadd C dX7_slightOn_30 ?_
    refine r_iald C dX7_slightOn_31 ly_50 (k := 3 * (q / 3).toNat + 1) (by omega) (by omega) ?_
    refine r_iload_n C rfl dX7_slightOn_32 ?_
    refine r_iconst C dX7_slightOn_33 ?_
    refine r_irem C (by omega) (by omega) (by first | assumption | exact rgm (by omega) (by omega)) (by first | assumption | exact rgm (by omega) (by omega)) dX7_slightOn_34 ?_
    refine r_cSz C dX7_slightOn_35 sw_X7_141 (c_grieved M hr.1 hr.2 (by omega)) (by decide) rfl rfl (Nat.le_of_ble_eq_true rfl) ?_
    refine r_iadd C dX7_slightOn_38 ?_
    refine r_cSz C dX7_slightOn_39 sw_X7_145 (c_topped M (rgm (by omega) (by omega))) (by decide) rfl rfl (Nat.le_of_ble_eq_true rfl) ?_
    refine r_iast C dX7_slightOn_42 ha (k := (q / 3).toNat) (by omega) (by omega) ?_
    exact r_vret E dX7_slightOn_43 (by
      refine ⟨rfl, ?_⟩
      rw [mU_R]
      congr 1
      funext j
      unfold sl1 grM
      rw [show q.toNat / 3 = (q / 3).toNat by omega, show ((q.toNat % 3 : Nat) : Int) = q % 3 by omega]
      by_cases hj : j = (q / 3).toNat
      · rw [if_pos hj, if_pos (show ((j : Int) = q / 3 ∧ 0 ≤ q) from ⟨by omega, by omega⟩), hj]
      · rw [if_neg hj, if_neg (by omega)])

