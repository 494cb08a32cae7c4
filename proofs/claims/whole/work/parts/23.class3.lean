def mKeep (M : Mm_) (b k : Nat) : Mm_ := mU (mU M 12 b (M.1 9 k)) 9 k 0
set_option maxRecDepth 10000 in
set_option maxHeartbeats 1000000 in
theorem c_x_keep (M : Mm_) {b k : Nat} (hb4 : b < 4) (hk : (k : Int) < M.1 3 4) (hX : oX M) : Cn 3 kX6_keep [.ref 0, .int (zI (b : Int)), .int (zI (k : Int))] M (fun r U => r = some (.int (zI (if M.1 12 b ≤ 0 ∧ M.1 9 k ≠ 0 then M.1 9 k else -103))) ∧ xS (if M.1 12 b ≤ 0 ∧ M.1 9 k ≠ 0 then mKeep M b k else M) U) := by
  obtain ⟨hp, hv, hf, hbo, hsb, hng, ⟨hs, hsp, hsw, hsy⟩, hfd, hwd, hhk⟩ := id hX
  have hv0 := hv.1
  have hpw := pw_b (k := (M.1 3 5).toNat) (by omega)
  have hp1 := hp.1
  have rk : rg (k : Int) := rgm (by omega) (by omega)
  have rb : rg (b : Int) := rgm (by omega) (by omega)
  have hbb := hbo b hb4
  have hgk := hf.1 k (by omega)
  refine Cn.of rfl (Nat.le_of_ble_eq_true rfl) (fun G C E => ?_)
  show G 0 [.ref 0, .int (zI (b : Int)), .int (zI (k : Int))] [] M
  refine r_aload_n C rfl dX6_keep_0 ?_
  refine r_iload_n C rfl dX6_keep_1 ?_
  refine r_cVb C dX6_keep_2 vw_X6_189 (c_hasBottle M (by assumption) hv) (by decide) rfl ly_0 rfl rfl (Nat.le_of_ble_eq_true rfl) (fun h2 => ?_) (fun h2 => absurd (by omega) h2)
  refine r_if_eq C (tgt := 19) dX6_keep_5 rfl (by first | assumption | exact rgm (by omega) (by omega)) (fun h5 => absurd h5 (by decide)) (fun h5 => ?_)
  refine r_aload_n C rfl dX6_keep_8 ?_
  refine r_getr C dX6_keep_9 fl_X6_19 ly_0 rfl ?_
  refine r_iload_n C rfl dX6_keep_12 ?_
  refine r_cVb C dX6_keep_13 vw_X6_75 (c_hasPerson M (by assumption) hv) (by decide) rfl ly_3 rfl rfl (Nat.le_of_ble_eq_true rfl) (fun h13 => ?_) (fun h13 => absurd (by omega) h13)
  refine r_if_ne C (tgt := 22) dX6_keep_16 rfl (by first | assumption | exact rgm (by omega) (by omega)) (fun h16 => ?_) (fun h16 => absurd h16 (by decide))
  refine r_aload_n C rfl dX6_keep_22 ?_
  refine r_getr C dX6_keep_23 fl_X6_26 ly_0 rfl ?_
  refine r_getr C dX6_keep_26 fl_X6_192 ly_8 rfl ?_
  refine r_iload_n C rfl dX6_keep_29 ?_
  refine r_iald C dX6_keep_30 ly_12 rfl (by omega) ?_
  refine r_if_gt C (tgt := 46) dX6_keep_31 rfl (by first | assumption | exact rgm (by omega) (by omega)) (fun h31 => ?_) (fun h31 => ?_)
  · refine r_bipush C rfl dX6_keep_46 ?_
    exact r_iret E dX6_keep_48 ⟨by rw [if_neg (by omega)], by rw [if_neg (by omega)]; exact xS_rf⟩
  · refine r_aload_n C rfl dX6_keep_34 ?_
    refine r_getr C dX6_keep_35 fl_X6_26 ly_0 rfl ?_
    refine r_getr C dX6_keep_38 fl_X6_96 ly_8 rfl ?_
    refine r_iload_n C rfl dX6_keep_41 ?_
    refine r_iald C dX6_keep_42 ly_9 rfl (by omega) ?_
    refine r_if_ne C (tgt := 49) dX6_keep_43 rfl (by first | assumption | exact rgm (by omega) (by omega)) (fun h43 => ?_) (fun h43 => ?_)
    · refine r_aload_n C rfl dX6_keep_49 ?_
      refine r_getr C dX6_keep_50 fl_X6_26 ly_0 rfl ?_
      refine r_getr C dX6_keep_53 fl_X6_192 ly_8 rfl ?_
      refine r_iload_n C rfl dX6_keep_56 ?_
      refine r_aload_n C rfl dX6_keep_57 ?_
      refine r_getr C dX6_keep_58 fl_X6_26 ly_0 rfl ?_
      refine r_getr C dX6_keep_61 fl_X6_96 ly_8 rfl ?_
      refine r_iload_n C rfl dX6_keep_64 ?_
      refine r_iald C dX6_keep_65 ly_9 rfl (by omega) ?_
      refine r_iast C dX6_keep_66 ly_12 rfl (by omega) ?_
      refine r_aload_n C rfl dX6_keep_67 ?_
      refine r_getr C dX6_keep_68 fl_X6_26 ly_0 rfl ?_
      refine r_getr C dX6_keep_71 fl_X6_96 ly_8 rfl ?_
      refine r_iload_n C rfl dX6_keep_74 ?_
      refine r_iconst C dX6_keep_75 ?_
      refine r_iast C dX6_keep_76 ly_9 rfl (by omega) ?_
      refine r_aload_n C rfl dX6_keep_77 ?_
      refine r_getr C dX6_keep_78 fl_X6_26 ly_0 rfl ?_
      refine r_getr C dX6_keep_81 fl_X6_192 ly_8 rfl ?_
      refine r_iload_n C rfl dX6_keep_84 ?_
      refine r_iald C dX6_keep_85 ly_12 rfl (by omega) ?_
      exact r_iret E dX6_keep_86 ⟨by rw [if_pos (by omega)]; simp [mU], by rw [if_pos (by omega)]; exact xS_rf⟩
    · refine r_bipush C rfl dX6_keep_46 ?_
      exact r_iret E dX6_keep_48 ⟨by rw [if_neg (by omega)], by rw [if_neg (by omega)]; exact xS_rf⟩
set_option maxRecDepth 10000 in
set_option maxHeartbeats 1000000 in
theorem c_x_keep_no (M : Mm_) {a w : Int} (ra : rg a) (rw_ : rg w) (ha : ¬ ((0 < M.1 3 4 ∧ 0 ≤ a ∧ a < 4) ∧ (0 ≤ w ∧ w < M.1 3 4))) (hX : oX M) : Cn 3 kX6_keep [.ref 0, .int (zI a), .int (zI w)] M (fun r U => r = some (.int (zI (-101))) ∧ xS (M) U) := by
  obtain ⟨hp, hv, hf, hbo, hsb, hng, ⟨hs, hsp, hsw, hsy⟩, hfd, hwd, hhk⟩ := id hX
  have hv0 := hv.1
  have hpw := pw_b (k := (M.1 3 5).toNat) (by omega)
  have hp1 := hp.1
  refine Cn.of rfl (Nat.le_of_ble_eq_true rfl) (fun G C E => ?_)
  show G 0 [.ref 0, .int (zI a), .int (zI w)] [] M
  refine r_aload_n C rfl dX6_keep_0 ?_
  refine r_iload_n C rfl dX6_keep_1 ?_
  refine r_cVb C dX6_keep_2 vw_X6_189 (c_hasBottle M (by assumption) hv) (by decide) rfl ly_0 rfl rfl (Nat.le_of_ble_eq_true rfl) (fun h2 => ?_) (fun h2 => ?_)
  · refine r_if_eq C (tgt := 19) dX6_keep_5 rfl (by first | assumption | exact rgm (by omega) (by omega)) (fun h5 => absurd h5 (by decide)) (fun h5 => ?_)
    refine r_aload_n C rfl dX6_keep_8 ?_
    refine r_getr C dX6_keep_9 fl_X6_19 ly_0 rfl ?_
    refine r_iload_n C rfl dX6_keep_12 ?_
    refine r_cVb C dX6_keep_13 vw_X6_75 (c_hasPerson M (by assumption) hv) (by decide) rfl ly_3 rfl rfl (Nat.le_of_ble_eq_true rfl) (fun h13 => absurd h13 (by omega)) (fun h13 => ?_)
    refine r_if_ne C (tgt := 22) dX6_keep_16 rfl (by first | assumption | exact rgm (by omega) (by omega)) (fun h16 => absurd h16 (by decide)) (fun h16 => ?_)
    refine r_bipush C rfl dX6_keep_19 ?_
    exact r_iret E dX6_keep_21 ⟨rfl, xS_rf⟩
  · refine r_if_eq C (tgt := 19) dX6_keep_5 rfl (by first | assumption | exact rgm (by omega) (by omega)) (fun h5 => ?_) (fun h5 => absurd h5 (by decide))
    refine r_bipush C rfl dX6_keep_19 ?_
    exact r_iret E dX6_keep_21 ⟨rfl, xS_rf⟩
def mPour (M : Mm_) (b : Nat) (q : Int) : Mm_ := mU (mU (mU (mU M 13 (M.1 8 7).toNat (M.1 12 b)) 14 (M.1 8 7).toNat q) 8 7 (M.1 8 7 + 1)) 12 b 0
set_option maxRecDepth 10000 in
set_option maxHeartbeats 1000000 in
theorem c_x_pour (M : Mm_) {b : Nat} {q : Int} (hb4 : b < 4) (hn0 : 0 < M.1 3 4) (rq : rg q) (hq : 0 ≤ q ∧ q < 6) (hX : oX M) : Cn 3 kX6_pour [.ref 0, .int (zI (b : Int)), .int (zI q)] M (fun r U => r = some (.int (zI (if M.1 12 b = 0 then -103 else if 4 ≤ M.1 8 7 then -104 else M.1 12 b))) ∧ xS (if M.1 12 b ≠ 0 ∧ M.1 8 7 < 4 then mPour M b q else M) U) := by
  obtain ⟨hp, hv, hf, hbo, hsb, hng, ⟨hs, hsp, hsw, hsy⟩, hfd, hwd, hhk⟩ := id hX
  have hv0 := hv.1
  have hpw := pw_b (k := (M.1 3 5).toNat) (by omega)
  have hp1 := hp.1
  have rb : rg (b : Int) := rgm (by omega) (by omega)
  have hbb := hbo b hb4
  have hdc := hf.2.2.1
  refine Cn.of rfl (Nat.le_of_ble_eq_true rfl) (fun G C E => ?_)
  show G 0 [.ref 0, .int (zI (b : Int)), .int (zI q), .null] [] M
  refine r_aload_n C rfl dX6_pour_0 ?_
  refine r_iload_n C rfl dX6_pour_1 ?_
  refine r_cVb C dX6_pour_2 vw_X6_189 (c_hasBottle M (by assumption) hv) (by decide) rfl ly_0 rfl rfl (Nat.le_of_ble_eq_true rfl) (fun h2 => ?_) (fun h2 => absurd (by omega) h2)
  refine r_if_eq C (tgt := 15) dX6_pour_5 rfl (by first | assumption | exact rgm (by omega) (by omega)) (fun h5 => absurd h5 (by decide)) (fun h5 => ?_)
  refine r_iload_n C rfl dX6_pour_8 ?_
  refine r_cSb C dX6_pour_9 sw_X6_158 (c_isPlace M (by assumption)) (by decide) rfl rfl (Nat.le_of_ble_eq_true rfl) (fun h9 => ?_) (fun h9 => absurd (by omega) h9)
  refine r_if_ne C (tgt := 18) dX6_pour_12 rfl (by first | assumption | exact rgm (by omega) (by omega)) (fun h12 => ?_) (fun h12 => absurd h12 (by decide))
  refine r_aload_n C rfl dX6_pour_18 ?_
  refine r_getr C dX6_pour_19 fl_X6_26 ly_0 rfl ?_
  refine r_getr C dX6_pour_22 fl_X6_192 ly_8 rfl ?_
  refine r_iload_n C rfl dX6_pour_25 ?_
  refine r_iald C dX6_pour_26 ly_12 rfl (by omega) ?_
  refine r_if_ne C (tgt := 33) dX6_pour_27 rfl (by first | assumption | exact rgm (by omega) (by omega)) (fun h27 => ?_) (fun h27 => ?_)
  · refine r_aload_n C rfl dX6_pour_33 ?_
    refine r_getr C dX6_pour_34 fl_X6_26 ly_0 rfl ?_
    refine r_geti C dX6_pour_37 fl_X6_186 ly_8 rfl ?_
    refine r_iconst C dX6_pour_40 ?_
    refine r_icmp_lt C (tgt := 47) dX6_pour_41 rfl (by first | assumption | exact rgm (by omega) (by omega)) (by first | assumption | exact rgm (by omega) (by omega)) (fun h41 => ?_) (fun h41 => ?_)
    · refine r_aload_n C rfl dX6_pour_47 ?_
      refine r_getr C dX6_pour_48 fl_X6_26 ly_0 rfl ?_
      refine r_getr C dX6_pour_51 fl_X6_192 ly_8 rfl ?_
      refine r_iload_n C rfl dX6_pour_54 ?_
      refine r_iald C dX6_pour_55 ly_12 rfl (by omega) ?_
      refine r_istore_n C dX6_pour_56 3 rfl (by decide) rfl ?_
      dsimp only [List.set, Nat.reduceAdd]
      refine r_aload_n C rfl dX6_pour_57 ?_
      refine r_getr C dX6_pour_58 fl_X6_26 ly_0 rfl ?_
      refine r_iload_n C rfl dX6_pour_61 ?_
      refine r_iload_n C rfl dX6_pour_62 ?_
      refine r_cVv C dX6_pour_63 vw_X6_195 (c_addDrop M (by omega) (by omega)) (by decide) rfl ly_8 rfl rfl (Nat.le_of_ble_eq_true rfl) ?_
      refine r_aload_n C rfl dX6_pour_66 ?_
      refine r_getr C dX6_pour_67 fl_X6_26 ly_0 rfl ?_
      refine r_getr C dX6_pour_70 fl_X6_192 ly_8 rfl ?_
      refine r_iload_n C rfl dX6_pour_73 ?_
      refine r_iconst C dX6_pour_74 ?_
      refine r_iast C dX6_pour_75 ly_12 rfl (by omega) ?_
      refine r_iload_n C rfl dX6_pour_76 ?_
      exact r_iret E dX6_pour_77 ⟨by rw [if_neg (by omega), if_neg (by omega)], by rw [if_pos (by omega)]; exact xS_rf⟩
    · refine r_bipush C rfl dX6_pour_44 ?_
      exact r_iret E dX6_pour_46 ⟨by rw [if_neg (by omega), if_pos (by omega)], by rw [if_neg (by omega)]; exact xS_rf⟩
  · refine r_bipush C rfl dX6_pour_30 ?_
    exact r_iret E dX6_pour_32 ⟨by rw [if_pos (by omega)], by rw [if_neg (by omega)]; exact xS_rf⟩
set_option maxRecDepth 10000 in
set_option maxHeartbeats 1000000 in
theorem c_x_pour_no (M : Mm_) {a w : Int} (ra : rg a) (rw_ : rg w) (ha : ¬ ((0 < M.1 3 4 ∧ 0 ≤ a ∧ a < 4) ∧ (0 ≤ w ∧ w < 6))) (hX : oX M) : Cn 3 kX6_pour [.ref 0, .int (zI a), .int (zI w)] M (fun r U => r = some (.int (zI (-101))) ∧ xS (M) U) := by
  obtain ⟨hp, hv, hf, hbo, hsb, hng, ⟨hs, hsp, hsw, hsy⟩, hfd, hwd, hhk⟩ := id hX
  have hv0 := hv.1
  have hpw := pw_b (k := (M.1 3 5).toNat) (by omega)
  have hp1 := hp.1
  refine Cn.of rfl (Nat.le_of_ble_eq_true rfl) (fun G C E => ?_)
  show G 0 [.ref 0, .int (zI a), .int (zI w), .null] [] M
  refine r_aload_n C rfl dX6_pour_0 ?_
  refine r_iload_n C rfl dX6_pour_1 ?_
  refine r_cVb C dX6_pour_2 vw_X6_189 (c_hasBottle M (by assumption) hv) (by decide) rfl ly_0 rfl rfl (Nat.le_of_ble_eq_true rfl) (fun h2 => ?_) (fun h2 => ?_)
  · refine r_if_eq C (tgt := 15) dX6_pour_5 rfl (by first | assumption | exact rgm (by omega) (by omega)) (fun h5 => absurd h5 (by decide)) (fun h5 => ?_)
    refine r_iload_n C rfl dX6_pour_8 ?_
    refine r_cSb C dX6_pour_9 sw_X6_158 (c_isPlace M (by assumption)) (by decide) rfl rfl (Nat.le_of_ble_eq_true rfl) (fun h9 => absurd h9 (by omega)) (fun h9 => ?_)
    refine r_if_ne C (tgt := 18) dX6_pour_12 rfl (by first | assumption | exact rgm (by omega) (by omega)) (fun h12 => absurd h12 (by decide)) (fun h12 => ?_)
    refine r_bipush C rfl dX6_pour_15 ?_
    exact r_iret E dX6_pour_17 ⟨rfl, xS_rf⟩
  · refine r_if_eq C (tgt := 15) dX6_pour_5 rfl (by first | assumption | exact rgm (by omega) (by omega)) (fun h5 => ?_) (fun h5 => absurd h5 (by decide))
    refine r_bipush C rfl dX6_pour_15 ?_
    exact r_iret E dX6_pour_17 ⟨rfl, xS_rf⟩

/-- what few tells, by its row (the size ahead) -/
def fewT (o : Option (List Int)) (w : Int) : Int := match o with
  | none => -1
  | some l => if w = 0 then l.getD 0 0 else if w - 10 < l.getD 0 0 then l.getD ((w - 10).toNat + 1) 0 else -1
theorem xS_0 {M T : Mm_} {j : Nat} {z : Int} (h : xS (mU M 0 j z) T) : ∀ i, (1 ≤ i ∧ i < 30) ∨ 48 ≤ i → T.1 i = M.1 i := fun i hi => by rw [h.1 i (by omega), mU_ne (by omega)]
theorem oV_0 {M : Mm_} {j : Nat} {z : Int} (h : oV M) : oV (mU M 0 j z) := by
  unfold oV at h ⊢
  rw [mU_ne (by decide), mU_ne (by decide), mU_ne (by decide), mU_ne (by decide), mU_ne (by decide)]
  exact h

set_option maxRecDepth 10000 in
set_option maxHeartbeats 1000000 in
theorem c_x_few (M : Mm_) {q w : Int} (rq : rg q) (rw_ : rg w) (hX : oX M) : Cn 8 kX6_few [.ref 0, .int (zI q), .int (zI w)] M (fun r U => r = some (.int (zI (if (q ≠ 0 ∧ (0 ≤ q ∧ q < 2 ^ (M.1 3 5).toNat) ∧ (w = 0 ∨ (10 ≤ w ∧ w < 13))) then (if 30 ≤ M.1 0 7 then -103 else fewT (fewR (M.1 7) (M.1 10) (M.1 8 7) (M.1 13) (M.1 14) (M.1 3 5).toNat q (M.1 6) (M.1 3 4 * 3).toNat (M.1 9) 4 0) w) else -102))) ∧ xS (if (q ≠ 0 ∧ (0 ≤ q ∧ q < 2 ^ (M.1 3 5).toNat) ∧ (w = 0 ∨ (10 ≤ w ∧ w < 13))) ∧ M.1 0 7 < 30 then (mU M 0 7 (M.1 0 7 + 1)) else M) U) := by
  obtain ⟨hp, hv, hf, hbo, hsb, hng, ⟨hs, hsp, hsw, hsy⟩, hfd, hwd, hhk⟩ := id hX
  have hv0 := hv.1
  have hpw := pw_b (k := (M.1 3 5).toNat) (by omega)
  have hp1 := hp.1
  refine Cn.of rfl (Nat.le_of_ble_eq_true rfl) (fun G C E => ?_)
  show G 0 [.ref 0, .int (zI q), .int (zI w)] [] M
  refine r_iload_n C rfl dX6_few_0 ?_
  refine r_if_eq C (tgt := 22) dX6_few_1 rfl (by first | assumption | exact rgm (by omega) (by omega)) (fun h1 => ?_) (fun h1 => ?_)
  · refine r_bipush C rfl dX6_few_22 ?_
    exact r_iret E dX6_few_24 ⟨by rw [if_neg (by omega)], by rw [if_neg (by omega)]; exact xS_rf⟩
  · refine r_aload_n C rfl dX6_few_4 ?_
    refine r_getr C dX6_few_5 fl_X6_19 ly_0 rfl ?_
    refine r_iload_n C rfl dX6_few_8 ?_
    refine r_cVb C dX6_few_9 vw_X6_199 (c_arePails M (by assumption) hv) (by decide) rfl ly_3 rfl rfl (Nat.le_of_ble_eq_true rfl) (fun h9 => ?_) (fun h9 => ?_)
    · refine r_if_eq C (tgt := 22) dX6_few_12 rfl (by first | assumption | exact rgm (by omega) (by omega)) (fun h12 => absurd h12 (by decide)) (fun h12 => ?_)
      refine r_iload_n C rfl dX6_few_15 ?_
      refine r_cSb C dX6_few_16 sw_X6_202 (c_isRowTell M (by assumption)) (by decide) rfl rfl (Nat.le_of_ble_eq_true rfl) (fun h16 => ?_) (fun h16 => ?_)
      · refine r_if_ne C (tgt := 25) dX6_few_19 rfl (by first | assumption | exact rgm (by omega) (by omega)) (fun h19 => ?_) (fun h19 => absurd h19 (by decide))
        refine r_aload_n C rfl dX6_few_25 ?_
        refine r_geti C dX6_few_26 fl_X6_205 ly_0 rfl ?_
        refine r_bipush C rfl dX6_few_29 ?_
        refine r_icmp_lt C (tgt := 37) dX6_few_31 rfl (by first | assumption | exact rgm (by omega) (by omega)) (by first | assumption | exact rgm (by omega) (by omega)) (fun h31 => ?_) (fun h31 => ?_)
        · refine r_aload_n C rfl dX6_few_37 ?_
          refine r_dup C rfl dX6_few_38 ?_
          refine r_geti C dX6_few_39 fl_X6_205 ly_0 rfl ?_
          refine r_iconst C dX6_few_42 ?_
          refine r_iadd C dX6_few_43 ?_
          refine r_put C dX6_few_44 fl_X6_205 rfl (Or.inl rfl) ly_0 rfl ?_
          refine r_aload_n C rfl dX6_few_47 ?_
          refine r_getr C dX6_few_48 fl_X6_36 ly_0 rfl ?_
          refine r_aload_n C rfl dX6_few_51 ?_
          refine r_getr C dX6_few_52 fl_X6_19 ly_0 rfl ?_
          refine r_aload_n C rfl dX6_few_55 ?_
          refine r_getr C dX6_few_56 fl_X6_26 ly_0 rfl ?_
          refine r_iload_n C rfl dX6_few_59 ?_
          refine r_callV C dX6_few_60 vw_X6_208 (c_findFew (mU M 0 7 (M.1 0 7 + 1)) (q := q) (by omega) (oV_0 hv) (by rw [mU_ne (by decide), mU_ne (by decide), mU_ne (by decide), mU_ne (by decide), mU_ne (by decide)]; exact hf)) (by decide) rfl ly_41 rfl rfl (Nat.le_of_ble_eq_true rfl) ?_
          intro r T h
          obtain ⟨rfl, hS, hres⟩ := h
          try dsimp only [Option.toList, List.cons_append, List.nil_append]
          simp only [mU_ne (M := M) (i := 0) (j := 7) (z := M.1 0 7 + 1) (show (3 : Nat) ≠ 0 by decide), mU_ne (M := M) (i := 0) (j := 7) (z := M.1 0 7 + 1) (show (6 : Nat) ≠ 0 by decide), mU_ne (M := M) (i := 0) (j := 7) (z := M.1 0 7 + 1) (show (7 : Nat) ≠ 0 by decide), mU_ne (M := M) (i := 0) (j := 7) (z := M.1 0 7 + 1) (show (8 : Nat) ≠ 0 by decide), mU_ne (M := M) (i := 0) (j := 7) (z := M.1 0 7 + 1) (show (9 : Nat) ≠ 0 by decide), mU_ne (M := M) (i := 0) (j := 7) (z := M.1 0 7 + 1) (show (10 : Nat) ≠ 0 by decide), mU_ne (M := M) (i := 0) (j := 7) (z := M.1 0 7 + 1) (show (13 : Nat) ≠ 0 by decide), mU_ne (M := M) (i := 0) (j := 7) (z := M.1 0 7 + 1) (show (14 : Nat) ≠ 0 by decide)] at hres
          have h41b : -1 ≤ T.1 41 4 ∧ T.1 41 4 ≤ 3 := by rcases hres with ⟨s, l, -, h3, h4, -⟩ | ⟨-, h4⟩ <;> omega
          refine r_aload_n C rfl dX6_few_63 ?_
          refine r_getr C dX6_few_64 fl_X6_36 ly_0 rfl ?_
          refine r_iload_n C rfl dX6_few_67 ?_
          refine r_aload_n C rfl dX6_few_68 ?_
          refine r_getr C dX6_few_69 fl_X6_36 ly_0 rfl ?_
          refine r_geti C dX6_few_72 fl_X6_106 ly_41 rfl ?_
          refine r_cVz C dX6_few_75 vw_X6_212 (c_tell T (by clear hres; omega) (rgm (by clear hres; omega) (by clear hres; omega))) (by decide) rfl ly_41 rfl rfl (Nat.le_of_ble_eq_true rfl) ?_
          exact r_iret E dX6_few_78 ⟨by
      rw [if_pos (by clear hres; omega), if_neg (by clear hres; omega)]
      congr 3
      rcases hres with ⟨s, l, h2, h3, h4, h5⟩ | ⟨h2, h4⟩
      · rw [h2, h4]
        show tellF (s : Int) (T.1 43) w (s : Int) = if w = 0 then (s : Int) else if w - 10 < (s : Int) then l.getD (w - 10).toNat 0 else -1
        unfold tellF
        by_cases h0 : w = 0
        · rw [if_pos h0, if_pos h0]
        · rw [if_neg h0, if_neg h0]
          by_cases hl : w - 10 < (s : Int)
          · rw [if_pos (by omega), if_pos hl, h5 _ (by omega)]
          · rw [if_neg (by omega), if_neg hl]
      · rw [h2, h4]
        show tellF (-1) (T.1 43) w (-1) = -1
        unfold tellF
        by_cases h0 : w = 0
        · rw [if_pos h0]
        · rw [if_neg h0, if_neg (by omega)], by rw [if_pos (by clear hres; omega)]; exact hS⟩
        · refine r_bipush C rfl dX6_few_34 ?_
          exact r_iret E dX6_few_36 ⟨by rw [if_pos (by omega), if_pos (by omega)], by rw [if_neg (by omega)]; exact xS_rf⟩
      · refine r_if_ne C (tgt := 25) dX6_few_19 rfl (by first | assumption | exact rgm (by omega) (by omega)) (fun h19 => absurd h19 (by decide)) (fun h19 => ?_)
        refine r_bipush C rfl dX6_few_22 ?_
        exact r_iret E dX6_few_24 ⟨by rw [if_neg (by omega)], by rw [if_neg (by omega)]; exact xS_rf⟩
    · refine r_if_eq C (tgt := 22) dX6_few_12 rfl (by first | assumption | exact rgm (by omega) (by omega)) (fun h12 => ?_) (fun h12 => absurd h12 (by decide))
      refine r_bipush C rfl dX6_few_22 ?_
      exact r_iret E dX6_few_24 ⟨by rw [if_neg (by omega)], by rw [if_neg (by omega)]; exact xS_rf⟩

def weekT (b : Int × List Int) (days w : Int) : Int := if w = 0 then b.1 else if w - 10 < days then b.2.getD (w - 10).toNat 0 else -1
theorem fd_pos {V : Nat → (Nat → Int) → Int} {S : Int → (Nat → Int) → (Nat → Int)} {Nx : (Nat → Int) → (Nat → Int)} {N : Nat} (hV : ∀ day g, 0 ≤ V day g) : ∀ (r day : Nat) (g : Nat → Int) (sets : Int) (pre : List Int) (b : Int × List Int), 0 ≤ sets → -1 ≤ b.1 → 0 ≤ (fd V S Nx N r day g sets pre b).1 ∧ b.1 ≤ (fd V S Nx N r day g sets pre b).1
  | 0, day, g, sets, pre, b, h0, h1 => by
    unfold fd
    split
    · simp only; omega
    · omega
  | r + 1, day, g, sets, pre, b, h0, h1 => by
    have key : ∀ k, (0 < k → 0 ≤ (fo (fun k b => fd V S Nx N r (day + 1) (Nx (S ((k : Int) - 1) g)) (sets + V day (S ((k : Int) - 1) g)) (pre ++ [(k : Int) - 1]) b) k b).1) ∧ b.1 ≤ (fo (fun k b => fd V S Nx N r (day + 1) (Nx (S ((k : Int) - 1) g)) (sets + V day (S ((k : Int) - 1) g)) (pre ++ [(k : Int) - 1]) b) k b).1 := by
      intro k
      induction k with
      | zero => exact ⟨fun h => absurd h (by omega), Int.le_refl _⟩
      | succ k ih =>
        have h2 := hV day (S ((k : Int) - 1) g)
        have h3 := fd_pos (S := S) (Nx := Nx) (N := N) hV r (day + 1) (Nx (S ((k : Int) - 1) g)) (sets + V day (S ((k : Int) - 1) g)) (pre ++ [(k : Int) - 1]) (fo (fun k b => fd V S Nx N r (day + 1) (Nx (S ((k : Int) - 1) g)) (sets + V day (S ((k : Int) - 1) g)) (pre ++ [(k : Int) - 1]) b) k b) (by omega) (by omega)
        exact ⟨fun _ => h3.1, Int.le_trans ih.2 h3.2⟩
    exact ⟨(key (N + 1)).1 (by omega), (key (N + 1)).2⟩

set_option maxRecDepth 10000 in
set_option maxHeartbeats 1000000 in
theorem c_x_week (M : Mm_) {z w : Int} (rz : rg z) (rw_ : rg w) (hX : oX M) : Cn 8 kX6_week [.ref 0, .int (zI z), .int (zI w)] M (fun r U => r = some (.int (zI (if ((1 ≤ z ∧ z ≤ 3) ∧ (w = 0 ∨ (10 ≤ w ∧ w < 13))) then (if M.1 3 4 ≤ 0 ∨ 20 ≤ M.1 0 8 then -103 else weekT (weekD (M.1 7) (M.1 10) (M.1 8 7) (M.1 13) (M.1 14) (M.1 3 5).toNat (M.1 6) (M.1 4) (M.1 3 4).toNat z.toNat 0 (M.1 9) 0 [] (-1, [])) z w) else -102))) ∧ xS (if ((1 ≤ z ∧ z ≤ 3) ∧ (w = 0 ∨ (10 ≤ w ∧ w < 13))) ∧ (0 < M.1 3 4 ∧ M.1 0 8 < 20) then (mU M 0 8 (M.1 0 8 + 1)) else M) U) := by
  obtain ⟨hp, hv, hf, hbo, hsb, hng, ⟨hs, hsp, hsw, hsy⟩, hfd, hwd, hhk⟩ := id hX
  have hv0 := hv.1
  have hpw := pw_b (k := (M.1 3 5).toNat) (by omega)
  have hp1 := hp.1
  refine Cn.of rfl (Nat.le_of_ble_eq_true rfl) (fun G C E => ?_)
  show G 0 [.ref 0, .int (zI z), .int (zI w)] [] M
  refine r_iload_n C rfl dX6_week_0 ?_
  refine r_iconst C dX6_week_1 ?_
  refine r_icmp_lt C (tgt := 17) dX6_week_2 rfl (by first | assumption | exact rgm (by omega) (by omega)) (by first | assumption | exact rgm (by omega) (by omega)) (fun h2 => ?_) (fun h2 => ?_)
  · refine r_bipush C rfl dX6_week_17 ?_
    exact r_iret E dX6_week_19 ⟨by rw [if_neg (by omega)], by rw [if_neg (by omega)]; exact xS_rf⟩
  · refine r_iload_n C rfl dX6_week_5 ?_
    refine r_iconst C dX6_week_6 ?_
    refine r_icmp_gt C (tgt := 17) dX6_week_7 rfl (by first | assumption | exact rgm (by omega) (by omega)) (by first | assumption | exact rgm (by omega) (by omega)) (fun h7 => ?_) (fun h7 => ?_)
    · refine r_bipush C rfl dX6_week_17 ?_
      exact r_iret E dX6_week_19 ⟨by rw [if_neg (by omega)], by rw [if_neg (by omega)]; exact xS_rf⟩
    · refine r_iload_n C rfl dX6_week_10 ?_
      refine r_cSb C dX6_week_11 sw_X6_202 (c_isRowTell M (by assumption)) (by decide) rfl rfl (Nat.le_of_ble_eq_true rfl) (fun h11 => ?_) (fun h11 => ?_)
      · refine r_if_ne C (tgt := 20) dX6_week_14 rfl (by first | assumption | exact rgm (by omega) (by omega)) (fun h14 => ?_) (fun h14 => absurd h14 (by decide))
        refine r_aload_n C rfl dX6_week_20 ?_
        refine r_getr C dX6_week_21 fl_X6_19 ly_0 rfl ?_
        refine r_cVb C dX6_week_24 vw_X6_161 (c_isThere M hv) (by decide) rfl ly_3 rfl rfl (Nat.le_of_ble_eq_true rfl) (fun h24 => ?_) (fun h24 => ?_)
        · refine r_if_eq C (tgt := 39) dX6_week_27 rfl (by first | assumption | exact rgm (by omega) (by omega)) (fun h27 => absurd h27 (by decide)) (fun h27 => ?_)
          refine r_aload_n C rfl dX6_week_30 ?_
          refine r_geti C dX6_week_31 fl_X6_215 ly_0 rfl ?_
          refine r_bipush C rfl dX6_week_34 ?_
          refine r_icmp_lt C (tgt := 42) dX6_week_36 rfl (by first | assumption | exact rgm (by omega) (by omega)) (by first | assumption | exact rgm (by omega) (by omega)) (fun h36 => ?_) (fun h36 => ?_)
          · refine r_aload_n C rfl dX6_week_42 ?_
            refine r_dup C rfl dX6_week_43 ?_
            refine r_geti C dX6_week_44 fl_X6_215 ly_0 rfl ?_
            refine r_iconst C dX6_week_47 ?_
            refine r_iadd C dX6_week_48 ?_
            refine r_put C dX6_week_49 fl_X6_215 rfl (Or.inl rfl) ly_0 rfl ?_
            refine r_aload_n C rfl dX6_week_52 ?_
            refine r_getr C dX6_week_53 fl_X6_36 ly_0 rfl ?_
            refine r_aload_n C rfl dX6_week_56 ?_
            refine r_getr C dX6_week_57 fl_X6_19 ly_0 rfl ?_
            refine r_aload_n C rfl dX6_week_60 ?_
            refine r_getr C dX6_week_61 fl_X6_26 ly_0 rfl ?_
            refine r_iload_n C rfl dX6_week_64 ?_
            refine r_callV C dX6_week_65 vw_X6_218 (c_findWeek (mU M 0 8 (M.1 0 8 + 1)) (days := z.toNat) (by omega) (by omega) (oV_0 hv) (by rw [mU_ne (by decide)]; omega) (by rw [mU_ne (by decide), mU_ne (by decide), mU_ne (by decide), mU_ne (by decide), mU_ne (by decide)]; exact hf)) (by decide) rfl ly_41 rfl rfl (Nat.le_of_ble_eq_true rfl) ?_
            intro r T h
            obtain ⟨rfl, hS, hres⟩ := h
            try dsimp only [Option.toList, List.cons_append, List.nil_append]
            simp only [mU_ne (M := M) (i := 0) (j := 8) (z := M.1 0 8 + 1) (show (3 : Nat) ≠ 0 by decide), mU_ne (M := M) (i := 0) (j := 8) (z := M.1 0 8 + 1) (show (4 : Nat) ≠ 0 by decide), mU_ne (M := M) (i := 0) (j := 8) (z := M.1 0 8 + 1) (show (6 : Nat) ≠ 0 by decide), mU_ne (M := M) (i := 0) (j := 8) (z := M.1 0 8 + 1) (show (7 : Nat) ≠ 0 by decide), mU_ne (M := M) (i := 0) (j := 8) (z := M.1 0 8 + 1) (show (8 : Nat) ≠ 0 by decide), mU_ne (M := M) (i := 0) (j := 8) (z := M.1 0 8 + 1) (show (9 : Nat) ≠ 0 by decide), mU_ne (M := M) (i := 0) (j := 8) (z := M.1 0 8 + 1) (show (10 : Nat) ≠ 0 by decide), mU_ne (M := M) (i := 0) (j := 8) (z := M.1 0 8 + 1) (show (13 : Nat) ≠ 0 by decide), mU_ne (M := M) (i := 0) (j := 8) (z := M.1 0 8 + 1) (show (14 : Nat) ≠ 0 by decide)] at hres
            have hpos := fd_pos (V := dayV (M.1 7) (M.1 10) (M.1 8 7) (M.1 13) (M.1 14) (M.1 3 5).toNat) (S := sl1 (M.1 6)) (Nx := nt (M.1 4) (M.1 3 4).toNat) (N := 3 * (M.1 3 4).toNat) (fun day g => (dayV_b _ _ _ _ _ (by omega) day g).1) z.toNat 0 (M.1 9) 0 [] (-1, []) (by decide) (by decide)
            refine r_aload_n C rfl dX6_week_68 ?_
            refine r_getr C dX6_week_69 fl_X6_36 ly_0 rfl ?_
            refine r_iload_n C rfl dX6_week_72 ?_
            refine r_iload_n C rfl dX6_week_73 ?_
            refine r_cVz C dX6_week_74 vw_X6_212 (c_tell T (by omega) (by assumption)) (by decide) rfl ly_41 rfl rfl (Nat.le_of_ble_eq_true rfl) ?_
            exact r_iret E dX6_week_77 ⟨by
      rw [if_pos (by omega), if_neg (by omega)]
      congr 3
      have h5 := hres.2 (by unfold weekD; omega)
      rw [hres.1]
      unfold tellF weekT
      by_cases h0 : w = 0
      · rw [if_pos h0, if_pos h0]
      · rw [if_neg h0, if_neg h0]
        by_cases hl : w - 10 < z
        · rw [if_pos (by omega), if_pos hl, h5 _ (by omega)]
        · rw [if_neg (by omega), if_neg hl], by rw [if_pos (by omega)]; exact hS⟩
          · refine r_bipush C rfl dX6_week_39 ?_
            exact r_iret E dX6_week_41 ⟨by rw [if_pos (by omega), if_pos (by omega)], by rw [if_neg (by omega)]; exact xS_rf⟩
        · refine r_if_eq C (tgt := 39) dX6_week_27 rfl (by first | assumption | exact rgm (by omega) (by omega)) (fun h27 => ?_) (fun h27 => absurd h27 (by decide))
          refine r_bipush C rfl dX6_week_39 ?_
          exact r_iret E dX6_week_41 ⟨by rw [if_pos (by omega), if_pos (by omega)], by rw [if_neg (by omega)]; exact xS_rf⟩
      · refine r_if_ne C (tgt := 20) dX6_week_14 rfl (by first | assumption | exact rgm (by omega) (by omega)) (fun h14 => absurd h14 (by decide)) (fun h14 => ?_)
        refine r_bipush C rfl dX6_week_17 ?_
        exact r_iret E dX6_week_19 ⟨by rw [if_neg (by omega)], by rw [if_neg (by omega)]; exact xS_rf⟩
set_option maxRecDepth 10000 in
set_option maxHeartbeats 1000000 in
theorem c_x_who (M : Mm_) {q : Int} (rq : rg q) (hX : oX M) : Cn 4 kX6_who [.ref 0, .int (zI q)] M (fun r U => r = some (.int (zI (if 0 ≤ q ∧ q < 2 ^ (M.1 3 5).toNat then (if 0 < M.1 3 4 then justF (M.1 7) (M.1 9) (M.1 10) (M.1 8 7) (M.1 13) (M.1 14) (M.1 6) (M.1 3 5).toNat q (M.1 3 4 * 3).toNat else -103) else -102))) ∧ xS (M) U) := by
  obtain ⟨hp, hv, hf, hbo, hsb, hng, ⟨hs, hsp, hsw, hsy⟩, hfd, hwd, hhk⟩ := id hX
  have hv0 := hv.1
  have hpw := pw_b (k := (M.1 3 5).toNat) (by omega)
  have hp1 := hp.1
  refine Cn.of rfl (Nat.le_of_ble_eq_true rfl) (fun G C E => ?_)
  show G 0 [.ref 0, .int (zI q)] [] M
  refine r_aload_n C rfl dX6_who_0 ?_
  refine r_getr C dX6_who_1 fl_X6_19 ly_0 rfl ?_
  refine r_iload_n C rfl dX6_who_4 ?_
  refine r_cVb C dX6_who_5 vw_X6_199 (c_arePails M (by assumption) hv) (by decide) rfl ly_3 rfl rfl (Nat.le_of_ble_eq_true rfl) (fun h5 => ?_) (fun h5 => ?_)
  · refine r_if_ne C (tgt := 14) dX6_who_8 rfl (by first | assumption | exact rgm (by omega) (by omega)) (fun h8 => ?_) (fun h8 => absurd h8 (by decide))
    refine r_aload_n C rfl dX6_who_14 ?_
    refine r_getr C dX6_who_15 fl_X6_19 ly_0 rfl ?_
    refine r_cVb C dX6_who_18 vw_X6_161 (c_isThere M hv) (by decide) rfl ly_3 rfl rfl (Nat.le_of_ble_eq_true rfl) (fun h18 => ?_) (fun h18 => ?_)
    · refine r_if_eq C (tgt := 43) dX6_who_21 rfl (by first | assumption | exact rgm (by omega) (by omega)) (fun h21 => absurd h21 (by decide)) (fun h21 => ?_)
      refine r_aload_n C rfl dX6_who_24 ?_
      refine r_getr C dX6_who_25 fl_X6_36 ly_0 rfl ?_
      refine r_aload_n C rfl dX6_who_28 ?_
      refine r_getr C dX6_who_29 fl_X6_19 ly_0 rfl ?_
      refine r_aload_n C rfl dX6_who_32 ?_
      refine r_getr C dX6_who_33 fl_X6_26 ly_0 rfl ?_
      refine r_iload_n C rfl dX6_who_36 ?_
      refine r_callV C dX6_who_37 vw_X6_221 (c_slightsJust M (by assumption) hv hf) (by decide) rfl ly_41 rfl rfl (Nat.le_of_ble_eq_true rfl) ?_
      intro r T h
      obtain ⟨rfl, hS⟩ := h
      try dsimp only [Option.toList, List.cons_append, List.nil_append]
      refine r_goto C (tgt := 45) dX6_who_40 rfl ?_
      exact r_iret E dX6_who_45 ⟨by rw [if_pos (by omega), if_pos (by omega)], hS⟩
    · refine r_if_eq C (tgt := 43) dX6_who_21 rfl (by first | assumption | exact rgm (by omega) (by omega)) (fun h21 => ?_) (fun h21 => absurd h21 (by decide))
      refine r_bipush C rfl dX6_who_43 ?_
      exact r_iret E dX6_who_45 ⟨by rw [if_pos (by omega), if_neg (by omega)], xS_rf⟩
  · refine r_if_ne C (tgt := 14) dX6_who_8 rfl (by first | assumption | exact rgm (by omega) (by omega)) (fun h8 => absurd h8 (by decide)) (fun h8 => ?_)
    refine r_bipush C rfl dX6_who_11 ?_
    exact r_iret E dX6_who_13 ⟨by rw [if_neg (by omega)], xS_rf⟩
def mSee (M : Mm_) (k : Nat) (q y : Int) : Mm_ := mU (mU (mU (mU M 16 (M.1 15 3).toNat k) 17 (M.1 15 3).toNat q) 18 (M.1 15 3).toNat y) 15 3 (M.1 15 3 + 1)
set_option maxRecDepth 10000 in
set_option maxHeartbeats 1000000 in
theorem c_x_see (M : Mm_) {k : Nat} {q y : Int} (hk : (k : Int) < M.1 3 4) (rq : rg q) (ry : rg y) (hX : oX M) : Cn 2 kX6_see [.ref 0, .int (zI (k : Int)), .int (zI q), .int (zI y)] M (fun r U => r = some (.int (zI (if ((0 ≤ q ∧ q < 3) ∧ (0 ≤ y ∧ y ≤ 99)) then (if 6 ≤ M.1 15 3 then -104 else M.1 15 3 + 1) else -102))) ∧ xS (if ((0 ≤ q ∧ q < 3) ∧ (0 ≤ y ∧ y ≤ 99)) ∧ M.1 15 3 < 6 then mSee M k q y else M) U) := by
  obtain ⟨hp, hv, hf, hbo, hsb, hng, ⟨hs, hsp, hsw, hsy⟩, hfd, hwd, hhk⟩ := id hX
  have hv0 := hv.1
  have hpw := pw_b (k := (M.1 3 5).toNat) (by omega)
  have hp1 := hp.1
  have rk : rg (k : Int) := rgm (by omega) (by omega)
  refine Cn.of rfl (Nat.le_of_ble_eq_true rfl) (fun G C E => ?_)
  show G 0 [.ref 0, .int (zI (k : Int)), .int (zI q), .int (zI y)] [] M
  refine r_aload_n C rfl dX6_see_0 ?_
  refine r_getr C dX6_see_1 fl_X6_19 ly_0 rfl ?_
  refine r_iload_n C rfl dX6_see_4 ?_
  refine r_cVb C dX6_see_5 vw_X6_75 (c_hasPerson M (by assumption) hv) (by decide) rfl ly_3 rfl rfl (Nat.le_of_ble_eq_true rfl) (fun h5 => ?_) (fun h5 => absurd (by omega) h5)
  refine r_if_ne C (tgt := 14) dX6_see_8 rfl (by first | assumption | exact rgm (by omega) (by omega)) (fun h8 => ?_) (fun h8 => absurd h8 (by decide))
  refine r_iload_n C rfl dX6_see_14 ?_
  refine r_cSb C dX6_see_15 sw_X6_151 (c_isSlight M (by assumption)) (by decide) rfl rfl (Nat.le_of_ble_eq_true rfl) (fun h15 => ?_) (fun h15 => ?_)
  · refine r_if_eq C (tgt := 31) dX6_see_18 rfl (by first | assumption | exact rgm (by omega) (by omega)) (fun h18 => absurd h18 (by decide)) (fun h18 => ?_)
    refine r_iload_n C rfl dX6_see_21 ?_
    refine r_if_lt C (tgt := 31) dX6_see_22 rfl (by first | assumption | exact rgm (by omega) (by omega)) (fun h22 => ?_) (fun h22 => ?_)
    · refine r_bipush C rfl dX6_see_31 ?_
      exact r_iret E dX6_see_33 ⟨by rw [if_neg (by omega)], by rw [if_neg (by omega)]; exact xS_rf⟩
    · refine r_iload_n C rfl dX6_see_25 ?_
      refine r_bipush C rfl dX6_see_26 ?_
      refine r_icmp_le C (tgt := 34) dX6_see_28 rfl (by first | assumption | exact rgm (by omega) (by omega)) (by first | assumption | exact rgm (by omega) (by omega)) (fun h28 => ?_) (fun h28 => ?_)
      · refine r_aload_n C rfl dX6_see_34 ?_
        refine r_getr C dX6_see_35 fl_X6_26 ly_0 rfl ?_
        refine r_getr C dX6_see_38 fl_X6_109 ly_8 rfl ?_
        refine r_geti C dX6_see_41 fl_X6_224 ly_15 rfl ?_
        refine r_bipush C rfl dX6_see_44 ?_
        refine r_icmp_lt C (tgt := 52) dX6_see_46 rfl (by first | assumption | exact rgm (by omega) (by omega)) (by first | assumption | exact rgm (by omega) (by omega)) (fun h46 => ?_) (fun h46 => ?_)
        · refine r_aload_n C rfl dX6_see_52 ?_
          refine r_getr C dX6_see_53 fl_X6_26 ly_0 rfl ?_
          refine r_getr C dX6_see_56 fl_X6_109 ly_8 rfl ?_
          refine r_iload_n C rfl dX6_see_59 ?_
          refine r_iload_n C rfl dX6_see_60 ?_
          refine r_iload_n C rfl dX6_see_61 ?_
          refine r_cVv C dX6_see_62 vw_X6_225 (c_seenAdd M (by omega) (by omega)) (by decide) rfl ly_15 rfl rfl (Nat.le_of_ble_eq_true rfl) ?_
          refine r_aload_n C rfl dX6_see_65 ?_
          refine r_getr C dX6_see_66 fl_X6_26 ly_0 rfl ?_
          refine r_getr C dX6_see_69 fl_X6_109 ly_8 rfl ?_
          refine r_geti C dX6_see_72 fl_X6_224 ly_15 rfl ?_
          exact r_iret E dX6_see_75 ⟨by rw [if_pos (by omega), if_neg (by omega)]; simp [mU], by rw [if_pos (by omega)]; exact xS_rf⟩
        · refine r_bipush C rfl dX6_see_49 ?_
          exact r_iret E dX6_see_51 ⟨by rw [if_pos (by omega), if_pos (by omega)], by rw [if_neg (by omega)]; exact xS_rf⟩
      · refine r_bipush C rfl dX6_see_31 ?_
        exact r_iret E dX6_see_33 ⟨by rw [if_neg (by omega)], by rw [if_neg (by omega)]; exact xS_rf⟩
  · refine r_if_eq C (tgt := 31) dX6_see_18 rfl (by first | assumption | exact rgm (by omega) (by omega)) (fun h18 => ?_) (fun h18 => absurd h18 (by decide))
    refine r_bipush C rfl dX6_see_31 ?_
    exact r_iret E dX6_see_33 ⟨by rw [if_neg (by omega)], by rw [if_neg (by omega)]; exact xS_rf⟩
set_option maxRecDepth 10000 in
set_option maxHeartbeats 1000000 in
theorem c_x_see_no (M : Mm_) {a w y : Int} (ra : rg a) (ha : ¬ (0 ≤ a ∧ a < M.1 3 4)) (hX : oX M) : Cn 2 kX6_see [.ref 0, .int (zI a), .int (zI w), .int (zI y)] M (fun r U => r = some (.int (zI (-101))) ∧ xS (M) U) := by
  obtain ⟨hp, hv, hf, hbo, hsb, hng, ⟨hs, hsp, hsw, hsy⟩, hfd, hwd, hhk⟩ := id hX
  have hv0 := hv.1
  have hpw := pw_b (k := (M.1 3 5).toNat) (by omega)
  have hp1 := hp.1
  refine Cn.of rfl (Nat.le_of_ble_eq_true rfl) (fun G C E => ?_)
  show G 0 [.ref 0, .int (zI a), .int (zI w), .int (zI y)] [] M
  refine r_aload_n C rfl dX6_see_0 ?_
  refine r_getr C dX6_see_1 fl_X6_19 ly_0 rfl ?_
  refine r_iload_n C rfl dX6_see_4 ?_
  refine r_cVb C dX6_see_5 vw_X6_75 (c_hasPerson M (by assumption) hv) (by decide) rfl ly_3 rfl rfl (Nat.le_of_ble_eq_true rfl) (fun h5 => absurd h5 (by omega)) (fun h5 => ?_)
  refine r_if_ne C (tgt := 14) dX6_see_8 rfl (by first | assumption | exact rgm (by omega) (by omega)) (fun h8 => absurd h8 (by decide)) (fun h8 => ?_)
  refine r_bipush C rfl dX6_see_11 ?_
  exact r_iret E dX6_see_13 ⟨rfl, xS_rf⟩
set_option maxRecDepth 10000 in
set_option maxHeartbeats 1000000 in
theorem c_x_forget (M : Mm_) (hX : oX M) : Cn 0 kX6_forget [.ref 0] M (fun r U => r = some (.int (zI (M.1 15 3))) ∧ xS (mU M 15 3 0) U) := by
  obtain ⟨hp, hv, hf, hbo, hsb, hng, ⟨hs, hsp, hsw, hsy⟩, hfd, hwd, hhk⟩ := id hX
  have hv0 := hv.1
  have hpw := pw_b (k := (M.1 3 5).toNat) (by omega)
  have hp1 := hp.1
  refine Cn.of rfl (Nat.le_of_ble_eq_true rfl) (fun G C E => ?_)
  show G 0 [.ref 0, .null] [] M
  refine r_aload_n C rfl dX6_forget_0 ?_
  refine r_getr C dX6_forget_1 fl_X6_26 ly_0 rfl ?_
  refine r_getr C dX6_forget_4 fl_X6_109 ly_8 rfl ?_
  refine r_geti C dX6_forget_7 fl_X6_224 ly_15 rfl ?_
  refine r_istore_n C dX6_forget_10 1 rfl (by decide) rfl ?_
  dsimp only [List.set, Nat.reduceAdd]
  refine r_aload_n C rfl dX6_forget_11 ?_
  refine r_getr C dX6_forget_12 fl_X6_26 ly_0 rfl ?_
  refine r_getr C dX6_forget_15 fl_X6_109 ly_8 rfl ?_
  refine r_iconst C dX6_forget_18 ?_
  refine r_put C dX6_forget_19 fl_X6_224 rfl (Or.inl rfl) ly_15 rfl ?_
  refine r_iload_n C rfl dX6_forget_22 ?_
  exact r_iret E dX6_forget_23 ⟨rfl, xS_rf⟩
set_option maxRecDepth 10000 in
set_option maxHeartbeats 1000000 in
theorem c_x_weeks (M : Mm_) {z s w : Int} (rz : rg z) (rs : rg s) (rw_ : rg w) (hX : oX M) : Cn 4 kX6_weeks [.ref 0, .int (zI z), .int (zI s), .int (zI w)] M (fun r U => r = some (.int (zI (if ((1 ≤ z ∧ z ≤ 60) ∧ 0 ≤ s ∧ (0 ≤ w ∧ w ≤ 2)) then (if 0 < M.1 3 4 then (if w = 0 then (wkN (M.1 7) (M.1 10) (M.1 6) (M.1 4) (M.1 3 4).toNat (M.1 3 5).toNat z.toNat (M.1 9, 0, s)).2.1 else if w = 1 then sm (wkN (M.1 7) (M.1 10) (M.1 6) (M.1 4) (M.1 3 4).toNat (M.1 3 5).toNat z.toNat (M.1 9, 0, s)).1 4 else (wkN (M.1 7) (M.1 10) (M.1 6) (M.1 4) (M.1 3 4).toNat (M.1 3 5).toNat z.toNat (M.1 9, 0, s)).2.2) else -103) else -102))) ∧ xS (M) U) := by
  obtain ⟨hp, hv, hf, hbo, hsb, hng, ⟨hs, hsp, hsw, hsy⟩, hfd, hwd, hhk⟩ := id hX
  have hv0 := hv.1
  have hpw := pw_b (k := (M.1 3 5).toNat) (by omega)
  have hp1 := hp.1
  refine Cn.of rfl (Nat.le_of_ble_eq_true rfl) (fun G C E => ?_)
  show G 0 [.ref 0, .int (zI z), .int (zI s), .int (zI w)] [] M
  refine r_iload_n C rfl dX6_weeks_0 ?_
  refine r_iconst C dX6_weeks_1 ?_
  refine r_icmp_lt C (tgt := 24) dX6_weeks_2 rfl (by first | assumption | exact rgm (by omega) (by omega)) (by first | assumption | exact rgm (by omega) (by omega)) (fun h2 => ?_) (fun h2 => ?_)
  · refine r_bipush C rfl dX6_weeks_24 ?_
    exact r_iret E dX6_weeks_26 ⟨by rw [if_neg (by omega)], xS_rf⟩
  · refine r_iload_n C rfl dX6_weeks_5 ?_
    refine r_bipush C rfl dX6_weeks_6 ?_
    refine r_icmp_gt C (tgt := 24) dX6_weeks_8 rfl (by first | assumption | exact rgm (by omega) (by omega)) (by first | assumption | exact rgm (by omega) (by omega)) (fun h8 => ?_) (fun h8 => ?_)
    · refine r_bipush C rfl dX6_weeks_24 ?_
      exact r_iret E dX6_weeks_26 ⟨by rw [if_neg (by omega)], xS_rf⟩
    · refine r_iload_n C rfl dX6_weeks_11 ?_
      refine r_if_lt C (tgt := 24) dX6_weeks_12 rfl (by first | assumption | exact rgm (by omega) (by omega)) (fun h12 => ?_) (fun h12 => ?_)
      · refine r_bipush C rfl dX6_weeks_24 ?_
        exact r_iret E dX6_weeks_26 ⟨by rw [if_neg (by omega)], xS_rf⟩
      · refine r_iload_n C rfl dX6_weeks_15 ?_
        refine r_if_lt C (tgt := 24) dX6_weeks_16 rfl (by first | assumption | exact rgm (by omega) (by omega)) (fun h16 => ?_) (fun h16 => ?_)
        · refine r_bipush C rfl dX6_weeks_24 ?_
          exact r_iret E dX6_weeks_26 ⟨by rw [if_neg (by omega)], xS_rf⟩
        · refine r_iload_n C rfl dX6_weeks_19 ?_
          refine r_iconst C dX6_weeks_20 ?_
          refine r_icmp_le C (tgt := 27) dX6_weeks_21 rfl (by first | assumption | exact rgm (by omega) (by omega)) (by first | assumption | exact rgm (by omega) (by omega)) (fun h21 => ?_) (fun h21 => ?_)
          · refine r_aload_n C rfl dX6_weeks_27 ?_
            refine r_getr C dX6_weeks_28 fl_X6_19 ly_0 rfl ?_
            refine r_cVb C dX6_weeks_31 vw_X6_161 (c_isThere M hv) (by decide) rfl ly_3 rfl rfl (Nat.le_of_ble_eq_true rfl) (fun h31 => ?_) (fun h31 => ?_)
            · refine r_if_ne C (tgt := 40) dX6_weeks_34 rfl (by first | assumption | exact rgm (by omega) (by omega)) (fun h34 => ?_) (fun h34 => absurd h34 (by decide))
              refine r_aload_n C rfl dX6_weeks_40 ?_
              refine r_getr C dX6_weeks_41 fl_X6_36 ly_0 rfl ?_
              refine r_aload_n C rfl dX6_weeks_44 ?_
              refine r_getr C dX6_weeks_45 fl_X6_19 ly_0 rfl ?_
              refine r_aload_n C rfl dX6_weeks_48 ?_
              refine r_getr C dX6_weeks_49 fl_X6_26 ly_0 rfl ?_
              refine r_iload_n C rfl dX6_weeks_52 ?_
              refine r_iload_n C rfl dX6_weeks_53 ?_
              refine r_callV C dX6_weeks_54 vw_X6_228 (c_runWeeks M (days := z.toNat) (by omega) (by omega) ⟨by omega, rs.2⟩ hv (by omega) hf) (by decide) rfl ly_41 rfl rfl (Nat.le_of_ble_eq_true rfl) ?_
              intro r T h
              obtain ⟨rfl, hS, h31, h414, h415⟩ := h
              try dsimp only [Option.toList, List.cons_append, List.nil_append]
              refine r_iload_n C rfl dX6_weeks_57 ?_
              refine r_if_ne C (tgt := 69) dX6_weeks_58 rfl (by first | assumption | exact rgm (by omega) (by omega)) (fun h58 => ?_) (fun h58 => ?_)
              · refine r_iload_n C rfl dX6_weeks_69 ?_
                refine r_iconst C dX6_weeks_70 ?_
                refine r_icmp_ne C (tgt := 87) dX6_weeks_71 rfl (by first | assumption | exact rgm (by omega) (by omega)) (by first | assumption | exact rgm (by omega) (by omega)) (fun h71 => ?_) (fun h71 => ?_)
                · refine r_aload_n C rfl dX6_weeks_87 ?_
                  refine r_getr C dX6_weeks_88 fl_X6_36 ly_0 rfl ?_
                  refine r_geti C dX6_weeks_91 fl_X6_238 ly_41 rfl ?_
                  exact r_iret E dX6_weeks_94 ⟨by rw [if_pos (by omega), if_pos (by omega), if_neg (by omega), if_neg (by omega), h415], hS⟩
                · refine r_aload_n C rfl dX6_weeks_74 ?_
                  refine r_getr C dX6_weeks_75 fl_X6_36 ly_0 rfl ?_
                  refine r_getr C dX6_weeks_78 fl_X6_232 ly_41 rfl ?_
                  refine r_cVz C dX6_weeks_81 vw_X6_235 (c_allGrudges30 T) (by decide) rfl ly_30 rfl rfl (Nat.le_of_ble_eq_true rfl) ?_
                  refine r_goto C (tgt := 94) dX6_weeks_84 rfl ?_
                  exact r_iret E dX6_weeks_94 ⟨by rw [if_pos (by omega), if_pos (by omega), if_neg (by omega), if_pos (by omega), h31], hS⟩
              · refine r_aload_n C rfl dX6_weeks_61 ?_
                refine r_getr C dX6_weeks_62 fl_X6_36 ly_0 rfl ?_
                refine r_geti C dX6_weeks_65 fl_X6_106 ly_41 rfl ?_
                exact r_iret E dX6_weeks_68 ⟨by rw [if_pos (by omega), if_pos (by omega), if_pos (by omega), h414], hS⟩
            · refine r_if_ne C (tgt := 40) dX6_weeks_34 rfl (by first | assumption | exact rgm (by omega) (by omega)) (fun h34 => absurd h34 (by decide)) (fun h34 => ?_)
              refine r_bipush C rfl dX6_weeks_37 ?_
              exact r_iret E dX6_weeks_39 ⟨by rw [if_pos (by omega), if_neg (by omega)], xS_rf⟩
          · refine r_bipush C rfl dX6_weeks_24 ?_
            exact r_iret E dX6_weeks_26 ⟨by rw [if_neg (by omega)], xS_rf⟩

theorem mAll_8 (M : Mm_) : (mAll M 8 19).1 8 = M.1 8 := by
  unfold mAll mForces mSeen
  simp only [mU_ne (show (8 : Nat) ≠ 19 by decide), mR_ne (show (8 : Nat) ≠ 19 + 6 by decide), mR_ne (show (8 : Nat) ≠ 19 + 5 by decide), mR_ne (show (8 : Nat) ≠ 19 + 2 by decide), mR_ne (show (8 : Nat) ≠ 19 + 1 by decide), mU_ne (show (8 : Nat) ≠ 19 + 7 by decide), mR_ne (show (8 : Nat) ≠ 19 + 7 + 3 by decide), mR_ne (show (8 : Nat) ≠ 19 + 7 + 2 by decide), mR_ne (show (8 : Nat) ≠ 19 + 7 + 1 by decide), mR_ne (show (8 : Nat) ≠ 19 + 4 by decide), mR_ne (show (8 : Nat) ≠ 19 + 3 by decide)]

set_option maxRecDepth 10000 in
set_option maxHeartbeats 1000000 in
theorem c_x_image (M : Mm_) (hX : oX M) : Cn 4 kX6_image [.ref 0] M (fun r U => r = some (.int (zI (if 0 < M.1 3 4 then M.1 8 9 else -103))) ∧ xS (if 0 < M.1 3 4 then mU (mAll M 8 19) 0 5 1 else M) U) := by
  obtain ⟨hp, hv, hf, hbo, hsb, hng, ⟨hs, hsp, hsw, hsy⟩, hfd, hwd, hhk⟩ := id hX
  have hv0 := hv.1
  have hpw := pw_b (k := (M.1 3 5).toNat) (by omega)
  have hp1 := hp.1
  refine Cn.of rfl (Nat.le_of_ble_eq_true rfl) (fun G C E => ?_)
  show G 0 [.ref 0] [] M
  refine r_aload_n C rfl dX6_image_0 ?_
  refine r_getr C dX6_image_1 fl_X6_19 ly_0 rfl ?_
  refine r_cVb C dX6_image_4 vw_X6_161 (c_isThere M hv) (by decide) rfl ly_3 rfl rfl (Nat.le_of_ble_eq_true rfl) (fun h4 => ?_) (fun h4 => ?_)
  · refine r_if_ne C (tgt := 13) dX6_image_7 rfl (by first | assumption | exact rgm (by omega) (by omega)) (fun h7 => ?_) (fun h7 => absurd h7 (by decide))
    refine r_aload_n C rfl dX6_image_13 ?_
    refine r_getr C dX6_image_14 fl_X6_30 ly_0 rfl ?_
    refine r_aload_n C rfl dX6_image_17 ?_
    refine r_getr C dX6_image_18 fl_X6_26 ly_0 rfl ?_
    refine r_cVv C dX6_image_21 vw_X6_241 (c_copyFrom_8_19 M) (by decide) rfl ly_19 rfl rfl (Nat.le_of_ble_eq_true rfl) ?_
    refine r_aload_n C rfl dX6_image_24 ?_
    refine r_iconst C dX6_image_25 ?_
    refine r_put C dX6_image_26 fl_X6_65 rfl (Or.inr ⟨rfl, by decide⟩) ly_0 rfl ?_
    refine r_aload_n C rfl dX6_image_29 ?_
    refine r_getr C dX6_image_30 fl_X6_26 ly_0 rfl ?_
    refine r_geti C dX6_image_33 fl_X6_164 ly_8 rfl ?_
    exact r_iret E dX6_image_36 ⟨by rw [if_pos (by omega), mU_ne (by decide), mAll_8], by rw [if_pos (by omega)]; exact xS_rf⟩
  · refine r_if_ne C (tgt := 13) dX6_image_7 rfl (by first | assumption | exact rgm (by omega) (by omega)) (fun h7 => absurd h7 (by decide)) (fun h7 => ?_)
    refine r_bipush C rfl dX6_image_10 ?_
    exact r_iret E dX6_image_12 ⟨by rw [if_neg (by omega)], by rw [if_neg (by omega)]; exact xS_rf⟩

theorem mAll_9 (M : Mm_) : (mAll M 19 8).1 8 9 = M.1 19 9 := by
  unfold mAll mForces
  simp [mU, mR, mSeen]

set_option maxRecDepth 10000 in
set_option maxHeartbeats 1000000 in
theorem c_x_restore (M : Mm_) (hX : oX M) : Cn 4 kX6_restore [.ref 0] M (fun r U => r = some (.int (zI (if M.1 0 5 = 1 then M.1 19 9 else -103))) ∧ xS (if M.1 0 5 = 1 then mAll M 19 8 else M) U) := by
  obtain ⟨hp, hv, hf, hbo, hsb, hng, ⟨hs, hsp, hsw, hsy⟩, hfd, hwd, hhk⟩ := id hX
  have hv0 := hv.1
  have hpw := pw_b (k := (M.1 3 5).toNat) (by omega)
  have hp1 := hp.1
  refine Cn.of rfl (Nat.le_of_ble_eq_true rfl) (fun G C E => ?_)
  show G 0 [.ref 0] [] M
  refine r_aload_n C rfl dX6_restore_0 ?_
  refine r_geti C dX6_restore_1 fl_X6_65 ly_0 rfl ?_
  refine r_if_ne C (tgt := 10) dX6_restore_4 rfl (by first | assumption | exact rgm (by omega) (by omega)) (fun h4 => ?_) (fun h4 => ?_)
  · refine r_aload_n C rfl dX6_restore_10 ?_
    refine r_getr C dX6_restore_11 fl_X6_26 ly_0 rfl ?_
    refine r_aload_n C rfl dX6_restore_14 ?_
    refine r_getr C dX6_restore_15 fl_X6_30 ly_0 rfl ?_
    refine r_cVv C dX6_restore_18 vw_X6_241 (c_copyFrom_19_8 M) (by decide) rfl ly_8 rfl rfl (Nat.le_of_ble_eq_true rfl) ?_
    refine r_aload_n C rfl dX6_restore_21 ?_
    refine r_getr C dX6_restore_22 fl_X6_26 ly_0 rfl ?_
    refine r_geti C dX6_restore_25 fl_X6_164 ly_8 rfl ?_
    exact r_iret E dX6_restore_28 ⟨by rw [if_pos (by omega), mAll_9], by rw [if_pos (by omega)]; exact xS_rf⟩
  · refine r_bipush C rfl dX6_restore_7 ?_
    exact r_iret E dX6_restore_9 ⟨by rw [if_neg (by omega)], by rw [if_neg (by omega)]; exact xS_rf⟩
def vCount (M : Mm_) (w : Int) : Int := if w = 0 then M.1 3 4 else if w = 1 then M.1 3 5 else if w = 2 then sm (M.1 9) 4 else if w = 3 then ob (M.1 8 8) else if w = 4 then ob (WDc (M.1 7) (FA (M.1 9) (M.1 10) (M.1 8 7) (M.1 13) (M.1 14)) (M.1 3 5).toNat) else if w = 5 then ob (fb4 (M.1 12)) else if w = 6 then M.1 8 7 else if w = 7 then M.1 8 9 else if w = 8 then sm (M.1 11) 4 else if w = 9 then M.1 8 10 else if w = 10 then M.1 15 3 else if w = 11 then M.1 1 1 else if w = 12 then M.1 0 6 else if w = 13 then M.1 0 7 else if w = 14 then M.1 0 8 else -102
set_option maxRecDepth 10000 in
set_option maxHeartbeats 1000000 in
theorem c_x_count (M : Mm_) {w : Int} (rw_ : rg w) (hX : oX M) : Cn 3 kX6_count [.ref 0, .int (zI w)] M (fun r U => r = some (.int (zI (vCount M w))) ∧ xS (M) U) := by
  obtain ⟨hp, hv, hf, hbo, hsb, hng, ⟨hs, hsp, hsw, hsy⟩, hfd, hwd, hhk⟩ := id hX
  have hv0 := hv.1
  have hpw := pw_b (k := (M.1 3 5).toNat) (by omega)
  have hp1 := hp.1
  have hWb := WDc_b (M.1 7) (FA (M.1 9) (M.1 10) (M.1 8 7) (M.1 13) (M.1 14)) (M.1 3 5).toNat (by omega)
  have hfb9 := fb4_b (M.1 12)
  refine Cn.of rfl (Nat.le_of_ble_eq_true rfl) (fun G C E => ?_)
  show G 0 [.ref 0, .int (zI w)] [] M
  refine r_iload_n C rfl dX6_count_0 ?_
  by_cases hout : w < 0 ∨ 14 < w
  · refine r_tout C (tgt := 203) dX6_count_1 (by first | assumption | exact rgm (by omega) (by omega)) hout rfl ?_
    refine r_bipush C rfl dX6_count_203 ?_
    exact r_iret E dX6_count_205 ⟨by unfold vCount; rw [if_neg (by omega), if_neg (by omega), if_neg (by omega), if_neg (by omega), if_neg (by omega), if_neg (by omega), if_neg (by omega), if_neg (by omega), if_neg (by omega), if_neg (by omega), if_neg (by omega), if_neg (by omega), if_neg (by omega), if_neg (by omega), if_neg (by omega)], xS_rf⟩
  · rcases (show w = 0 ∨ w = 1 ∨ w = 2 ∨ w = 3 ∨ w = 4 ∨ w = 5 ∨ w = 6 ∨ w = 7 ∨ w = 8 ∨ w = 9 ∨ w = 10 ∨ w = 11 ∨ w = 12 ∨ w = 13 ∨ w = 14 by omega) with hsw | hsw | hsw | hsw | hsw | hsw | hsw | hsw | hsw | hsw | hsw | hsw | hsw | hsw | hsw
    · have hsw2 := hsw
      subst hsw
      refine r_tin C (tgt := 76) dX6_count_1 (by first | assumption | exact rgm (by omega) (by omega)) (by omega) (by omega) (off := 75) rfl rfl ?_
      refine r_aload_n C rfl dX6_count_76 ?_
      refine r_getr C dX6_count_77 fl_X6_19 ly_0 rfl ?_
      refine r_geti C dX6_count_80 fl_X6_244 ly_3 rfl ?_
      exact r_iret E dX6_count_83 ⟨by unfold vCount; rw [if_pos rfl], xS_rf⟩
    · have hsw2 := hsw
      subst hsw
      refine r_tin C (tgt := 84) dX6_count_1 (by first | assumption | exact rgm (by omega) (by omega)) (by omega) (by omega) (off := 83) rfl rfl ?_
      refine r_aload_n C rfl dX6_count_84 ?_
      refine r_getr C dX6_count_85 fl_X6_19 ly_0 rfl ?_
      refine r_geti C dX6_count_88 fl_X6_72 ly_3 rfl ?_
      exact r_iret E dX6_count_91 ⟨by unfold vCount; rw [if_neg (by decide), if_pos rfl], xS_rf⟩
    · have hsw2 := hsw
      subst hsw
      refine r_tin C (tgt := 92) dX6_count_1 (by first | assumption | exact rgm (by omega) (by omega)) (by omega) (by omega) (off := 91) rfl rfl ?_
      refine r_aload_n C rfl dX6_count_92 ?_
      refine r_getr C dX6_count_93 fl_X6_26 ly_0 rfl ?_
      refine r_cVz C dX6_count_96 vw_X6_235 (c_allGrudges8 M) (by decide) rfl ly_8 rfl rfl (Nat.le_of_ble_eq_true rfl) ?_
      exact r_iret E dX6_count_99 ⟨by unfold vCount; rw [if_neg (by decide), if_neg (by decide), if_pos rfl], xS_rf⟩
    · have hsw2 := hsw
      subst hsw
      refine r_tin C (tgt := 100) dX6_count_1 (by first | assumption | exact rgm (by omega) (by omega)) (by omega) (by omega) (off := 99) rfl rfl ?_
      refine r_aload_n C rfl dX6_count_100 ?_
      refine r_getr C dX6_count_101 fl_X6_26 ly_0 rfl ?_
      refine r_geti C dX6_count_104 fl_X6_175 ly_8 rfl ?_
      refine r_cSz C dX6_count_107 sw_X6_178 (c_bitCount M (by omega) (by omega)) (by decide) rfl rfl (Nat.le_of_ble_eq_true rfl) ?_
      exact r_iret E dX6_count_110 ⟨by unfold vCount; rw [if_neg (by decide), if_neg (by decide), if_neg (by decide), if_pos rfl], xS_rf⟩
    · have hsw2 := hsw
      subst hsw
      refine r_tin C (tgt := 111) dX6_count_1 (by first | assumption | exact rgm (by omega) (by omega)) (by omega) (by omega) (off := 110) rfl rfl ?_
      refine r_aload_n C rfl dX6_count_111 ?_
      refine r_getr C dX6_count_112 fl_X6_19 ly_0 rfl ?_
      refine r_aload_n C rfl dX6_count_115 ?_
      refine r_getr C dX6_count_116 fl_X6_26 ly_0 rfl ?_
      refine r_cVz C dX6_count_119 vw_X6_171 (c_would8 M hv hf) (by decide) rfl ly_3 rfl rfl (Nat.le_of_ble_eq_true rfl) ?_
      refine r_cSz C dX6_count_122 sw_X6_178 (c_bitCount M (by omega) (by omega)) (by decide) rfl rfl (Nat.le_of_ble_eq_true rfl) ?_
      exact r_iret E dX6_count_125 ⟨by unfold vCount; rw [if_neg (by decide), if_neg (by decide), if_neg (by decide), if_neg (by decide), if_pos rfl], xS_rf⟩
    · have hsw2 := hsw
      subst hsw
      refine r_tin C (tgt := 126) dX6_count_1 (by first | assumption | exact rgm (by omega) (by omega)) (by omega) (by omega) (off := 125) rfl rfl ?_
      refine r_aload_n C rfl dX6_count_126 ?_
      refine r_getr C dX6_count_127 fl_X6_26 ly_0 rfl ?_
      refine r_cVz C dX6_count_130 vw_X6_247 (c_fullBottles M hbo) (by decide) rfl ly_8 rfl rfl (Nat.le_of_ble_eq_true rfl) ?_
      refine r_cSz C dX6_count_133 sw_X6_178 (c_bitCount M (by omega) (by omega)) (by decide) rfl rfl (Nat.le_of_ble_eq_true rfl) ?_
      exact r_iret E dX6_count_136 ⟨by unfold vCount; rw [if_neg (by decide), if_neg (by decide), if_neg (by decide), if_neg (by decide), if_neg (by decide), if_pos rfl], xS_rf⟩
    · have hsw2 := hsw
      subst hsw
      refine r_tin C (tgt := 137) dX6_count_1 (by first | assumption | exact rgm (by omega) (by omega)) (by omega) (by omega) (off := 136) rfl rfl ?_
      refine r_aload_n C rfl dX6_count_137 ?_
      refine r_getr C dX6_count_138 fl_X6_26 ly_0 rfl ?_
      refine r_geti C dX6_count_141 fl_X6_186 ly_8 rfl ?_
      exact r_iret E dX6_count_144 ⟨by unfold vCount; rw [if_neg (by decide), if_neg (by decide), if_neg (by decide), if_neg (by decide), if_neg (by decide), if_neg (by decide), if_pos rfl], xS_rf⟩
    · have hsw2 := hsw
      subst hsw
      refine r_tin C (tgt := 145) dX6_count_1 (by first | assumption | exact rgm (by omega) (by omega)) (by omega) (by omega) (off := 144) rfl rfl ?_
      refine r_aload_n C rfl dX6_count_145 ?_
      refine r_getr C dX6_count_146 fl_X6_26 ly_0 rfl ?_
      refine r_geti C dX6_count_149 fl_X6_164 ly_8 rfl ?_
      exact r_iret E dX6_count_152 ⟨by unfold vCount; rw [if_neg (by decide), if_neg (by decide), if_neg (by decide), if_neg (by decide), if_neg (by decide), if_neg (by decide), if_neg (by decide), if_pos rfl], xS_rf⟩
    · have hsw2 := hsw
      subst hsw
      refine r_tin C (tgt := 153) dX6_count_1 (by first | assumption | exact rgm (by omega) (by omega)) (by omega) (by omega) (off := 152) rfl rfl ?_
      refine r_aload_n C rfl dX6_count_153 ?_
      refine r_getr C dX6_count_154 fl_X6_26 ly_0 rfl ?_
      refine r_cVz C dX6_count_157 vw_X6_250 (c_allSlights8 M) (by decide) rfl ly_8 rfl rfl (Nat.le_of_ble_eq_true rfl) ?_
      exact r_iret E dX6_count_160 ⟨by unfold vCount; rw [if_neg (by decide), if_neg (by decide), if_neg (by decide), if_neg (by decide), if_neg (by decide), if_neg (by decide), if_neg (by decide), if_neg (by decide), if_pos rfl], xS_rf⟩
    · have hsw2 := hsw
      subst hsw
      refine r_tin C (tgt := 161) dX6_count_1 (by first | assumption | exact rgm (by omega) (by omega)) (by omega) (by omega) (off := 160) rfl rfl ?_
      refine r_aload_n C rfl dX6_count_161 ?_
      refine r_getr C dX6_count_162 fl_X6_26 ly_0 rfl ?_
      refine r_geti C dX6_count_165 fl_X6_183 ly_8 rfl ?_
      exact r_iret E dX6_count_168 ⟨by unfold vCount; rw [if_neg (by decide), if_neg (by decide), if_neg (by decide), if_neg (by decide), if_neg (by decide), if_neg (by decide), if_neg (by decide), if_neg (by decide), if_neg (by decide), if_pos rfl], xS_rf⟩
    · have hsw2 := hsw
      subst hsw
      refine r_tin C (tgt := 169) dX6_count_1 (by first | assumption | exact rgm (by omega) (by omega)) (by omega) (by omega) (off := 168) rfl rfl ?_
      refine r_aload_n C rfl dX6_count_169 ?_
      refine r_getr C dX6_count_170 fl_X6_26 ly_0 rfl ?_
      refine r_getr C dX6_count_173 fl_X6_109 ly_8 rfl ?_
      refine r_geti C dX6_count_176 fl_X6_224 ly_15 rfl ?_
      exact r_iret E dX6_count_179 ⟨by unfold vCount; rw [if_neg (by decide), if_neg (by decide), if_neg (by decide), if_neg (by decide), if_neg (by decide), if_neg (by decide), if_neg (by decide), if_neg (by decide), if_neg (by decide), if_neg (by decide), if_pos rfl], xS_rf⟩
    · have hsw2 := hsw
      subst hsw
      refine r_tin C (tgt := 180) dX6_count_1 (by first | assumption | exact rgm (by omega) (by omega)) (by omega) (by omega) (off := 179) rfl rfl ?_
      refine r_aload_n C rfl dX6_count_180 ?_
      refine r_getr C dX6_count_181 fl_X6_10 ly_0 rfl ?_
      refine r_geti C dX6_count_184 fl_X6_40 ly_1 rfl ?_
      exact r_iret E dX6_count_187 ⟨by unfold vCount; rw [if_neg (by decide), if_neg (by decide), if_neg (by decide), if_neg (by decide), if_neg (by decide), if_neg (by decide), if_neg (by decide), if_neg (by decide), if_neg (by decide), if_neg (by decide), if_neg (by decide), if_pos rfl], xS_rf⟩
    · have hsw2 := hsw
      subst hsw
      refine r_tin C (tgt := 188) dX6_count_1 (by first | assumption | exact rgm (by omega) (by omega)) (by omega) (by omega) (off := 187) rfl rfl ?_
      refine r_aload_n C rfl dX6_count_188 ?_
      refine r_geti C dX6_count_189 fl_X6_69 ly_0 rfl ?_
      exact r_iret E dX6_count_192 ⟨by unfold vCount; rw [if_neg (by decide), if_neg (by decide), if_neg (by decide), if_neg (by decide), if_neg (by decide), if_neg (by decide), if_neg (by decide), if_neg (by decide), if_neg (by decide), if_neg (by decide), if_neg (by decide), if_neg (by decide), if_pos rfl], xS_rf⟩
    · have hsw2 := hsw
      subst hsw
      refine r_tin C (tgt := 193) dX6_count_1 (by first | assumption | exact rgm (by omega) (by omega)) (by omega) (by omega) (off := 192) rfl rfl ?_
      refine r_aload_n C rfl dX6_count_193 ?_
      refine r_geti C dX6_count_194 fl_X6_205 ly_0 rfl ?_
      exact r_iret E dX6_count_197 ⟨by unfold vCount; rw [if_neg (by decide), if_neg (by decide), if_neg (by decide), if_neg (by decide), if_neg (by decide), if_neg (by decide), if_neg (by decide), if_neg (by decide), if_neg (by decide), if_neg (by decide), if_neg (by decide), if_neg (by decide), if_neg (by decide), if_pos rfl], xS_rf⟩
    · have hsw2 := hsw
      subst hsw
      refine r_tin C (tgt := 198) dX6_count_1 (by first | assumption | exact rgm (by omega) (by omega)) (by omega) (by omega) (off := 197) rfl rfl ?_
      refine r_aload_n C rfl dX6_count_198 ?_
      refine r_geti C dX6_count_199 fl_X6_215 ly_0 rfl ?_
      exact r_iret E dX6_count_202 ⟨by unfold vCount; rw [if_neg (by decide), if_neg (by decide), if_neg (by decide), if_neg (by decide), if_neg (by decide), if_neg (by decide), if_neg (by decide), if_neg (by decide), if_neg (by decide), if_neg (by decide), if_neg (by decide), if_neg (by decide), if_neg (by decide), if_neg (by decide), if_pos rfl], xS_rf⟩
