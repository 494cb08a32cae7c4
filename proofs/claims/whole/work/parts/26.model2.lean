
def pdM (M : Mm_) : Nat → Int := fun d => M.1 56 (2 * d)
def ppM (M : Mm_) : Nat → Int := fun d => M.1 56 (2 * d + 1)
def fM (M : Mm_) (a : Nat) (dr : Bool) : Int → Int := fun q => fr (M.1 48 3).toNat (M.1 a) (M.1 51) q + (if dr then fr (M.1 48 8).toNat (pdM M) (ppM M) q else 0)
def oMf (M : Mm_) : Prop := (∀ i, i < 4 → 0 ≤ M.1 51 i ∧ M.1 51 i ≤ 5) ∧ (0 ≤ M.1 48 8 ∧ M.1 48 8 ≤ 4) ∧ (∀ d, d < 4 → (0 ≤ M.1 56 (2 * d) ∧ M.1 56 (2 * d) ≤ 99) ∧ (0 ≤ M.1 56 (2 * d + 1) ∧ M.1 56 (2 * d + 1) ≤ 5)) ∧ (∀ j, j < 6 → 0 ≤ M.1 53 j ∧ M.1 53 j ≤ 9)
def oMg (M : Mm_) (a : Nat) : Prop := ∀ i, i < 4 → 0 ≤ M.1 a i ∧ M.1 a i ≤ 99

set_option maxRecDepth 10000 in
set_option maxHeartbeats 1000000 in
theorem c_nightOn (M : Mm_) {a : Nat} (ha : lyT[a]? = some (0, 4, [])) (ha2 : a ≠ 48 ∧ a ≠ 50) (hv : oMv M) (hrw : oMr M) (hg : oMg M a) : Cn 0 kX7_nightOn [.ref 48, .ref a] M (pV (mR M a (nt (kdM M) (M.1 48 3).toNat (M.1 a)))) := by
  have hv0 : (M.1 48 3 = 0 ∧ M.1 48 4 = 0) ∨ (2 ≤ M.1 48 3 ∧ M.1 48 3 ≤ 4 ∧ 2 ≤ M.1 48 4 ∧ M.1 48 4 ≤ 6) := hv
  have ha4 := ha
  obtain ⟨n, hn⟩ : ∃ n : Nat, M.1 48 3 = n := ⟨(M.1 48 3).toNat, by omega⟩
  have en : (M.1 48 3).toNat = n := by omega
  rw [en]
  refine Cn.of rfl (Nat.le_of_ble_eq_true rfl) (fun G C E => ?_)
  show G 0 [.ref 48, .ref a, .null, .null, .null] [] M
  have lp : ∀ i : Nat, i ≤ n → ∀ (z : Int) (v3 v4 : Value), z = i → G 2 [.ref 48, .ref a, .int (zI z), v3, v4] [] (mR M a (nt (kdM M) i (M.1 a))) := by
    refine lpN n ?_ ?_
    · intro z v3 v4 hz
      have e1 : (mR M a (nt (kdM M) n (M.1 a))).1 48 3 = n := by rw [mR_ne (by omega)]; exact hn
      refine r_iload_n C rfl dX7_nightOn_2 ?_
      refine r_aload_n C rfl dX7_nightOn_3 ?_
      refine r_geti C dX7_nightOn_4 fl_X7_109 ly_48 rfl ?_
      refine r_icmp_ge C (tgt := 70) dX7_nightOn_7 rfl (by first | assumption | exact rgm (by omega) (by omega)) (by first | assumption | exact rgm (by omega) (by omega)) (fun h7 => ?_) (fun h7 => absurd h7 (by omega))
      exact r_vret E dX7_nightOn_70 ⟨rfl, rfl⟩
    · intro i hi ih z v3 v4 hz
      have e1 : (mR M a (nt (kdM M) i (M.1 a))).1 48 3 = n := by rw [mR_ne (by omega)]; exact hn
      have e2 : (mR M a (nt (kdM M) i (M.1 a))).1 50 (3 * i) = M.1 50 (3 * i) := by rw [mR_ne (by omega)]
      have e3 : (mR M a (nt (kdM M) i (M.1 a))).1 a i = M.1 a i := by rw [mR_eq]; unfold nt; rw [if_neg (by omega)]
      have hr := hrw i (by omega)
      have hgi := hg i (by omega)
      refine r_iload_n C rfl dX7_nightOn_2 ?_
      refine r_aload_n C rfl dX7_nightOn_3 ?_
      refine r_geti C dX7_nightOn_4 fl_X7_109 ly_48 rfl ?_
      refine r_icmp_ge C (tgt := 70) dX7_nightOn_7 rfl (by first | assumption | exact rgm (by omega) (by omega)) (by first | assumption | exact rgm (by omega) (by omega)) (fun h7 => absurd h7 (by omega)) (fun h7 => ?_)
      refine r_aload_n C rfl dX7_nightOn_10 ?_
      refine r_getr C dX7_nightOn_11 fl_X7_13 ly_48 rfl ?_
      refine r_iconst C dX7_nightOn_14 ?_
      refine r_iload_n C rfl dX7_nightOn_15 ?_
      refine r_imul C dX7_nightOn_16 ?_
      refine r_iald C dX7_nightOn_17 ly_50 (k := 3 * i) (by omega) (by omega) ?_
      rw [e2]
      refine r_istore_n C dX7_nightOn_18 3 rfl (by decide) rfl ?_
      dsimp only [List.set, Nat.reduceAdd]
      refine r_aload_n C rfl dX7_nightOn_19 ?_
      refine r_iload_n C rfl dX7_nightOn_20 ?_
      refine r_iald C dX7_nightOn_21 ha hz (by omega) ?_
      rw [e3]
      refine r_iconst C dX7_nightOn_22 ?_
      refine r_idiv C (by omega) (by omega) (by first | assumption | exact rgm (by omega) (by omega)) (by first | assumption | exact rgm (by omega) (by omega)) dX7_nightOn_23 ?_
      refine r_istore C dX7_nightOn_24 4 rfl (by decide) rfl ?_
      dsimp only [List.set, Nat.reduceAdd]
      refine r_iload_n C rfl dX7_nightOn_26 ?_
      refine r_iconst C dX7_nightOn_27 ?_
      refine r_icmp_ne C (tgt := 44) dX7_nightOn_28 rfl (by first | assumption | exact rgm (by omega) (by omega)) (by first | assumption | exact rgm (by omega) (by omega)) (fun h28 => ?_) (fun h28 => ?_)
      · refine r_iload C rfl dX7_nightOn_44 ?_
        refine r_istore C dX7_nightOn_46 4 rfl (by decide) rfl ?_
        dsimp only [List.set, Nat.reduceAdd]
        refine r_aload_n C rfl dX7_nightOn_48 ?_
        refine r_iload_n C rfl dX7_nightOn_49 ?_
        refine r_iload_n C rfl dX7_nightOn_50 ?_
        refine r_iconst C dX7_nightOn_51 ?_
        refine r_icmp_ne C (tgt := 61) dX7_nightOn_52 rfl (by first | assumption | exact rgm (by omega) (by omega)) (by first | assumption | exact rgm (by omega) (by omega)) (fun h52 => ?_) (fun h52 => ?_)
        · refine r_iload C rfl dX7_nightOn_61 ?_
          refine r_iast C dX7_nightOn_63 ha hz (by omega) ?_
          have e4 : mU (mR M a (nt (kdM M) i (M.1 a))) a i (M.1 a i / 2) = mR M a (nt (kdM M) (i + 1) (M.1 a)) := by
            rw [mU_mR]
            congr 1
            funext j
            unfold nt
            by_cases h1 : j = i
            · rw [if_pos h1, if_pos (by omega), h1]
              have hkd : kdM M i = M.1 50 (3 * i) := rfl
              rw [hkd]
              unfold ng
              rw [if_neg (by omega), if_neg (by omega)]
            · rw [if_neg h1]
              by_cases h2 : j < i
              · rw [if_pos h2, if_pos (by omega)]
              · rw [if_neg h2, if_neg (by omega)]
          rw [e4]
          refine r_iinc C dX7_nightOn_64 rfl (by decide) rfl ?_
          dsimp only [List.set, Nat.reduceAdd]
          refine r_goto C (tgt := 2) dX7_nightOn_67 rfl ?_
          exact ih _ _ _ (by omega)
        · refine r_aload_n C rfl dX7_nightOn_55 ?_
          refine r_iload_n C rfl dX7_nightOn_56 ?_
          refine r_iald C dX7_nightOn_57 ha hz (by omega) ?_
          rw [e3]
          refine r_goto C (tgt := 63) dX7_nightOn_58 rfl ?_
          refine r_iast C dX7_nightOn_63 ha hz (by omega) ?_
          have e4 : mU (mR M a (nt (kdM M) i (M.1 a))) a i ((M.1 a i)) = mR M a (nt (kdM M) (i + 1) (M.1 a)) := by
            rw [mU_mR]
            congr 1
            funext j
            unfold nt
            by_cases h1 : j = i
            · rw [if_pos h1, if_pos (by omega), h1]
              have hkd : kdM M i = M.1 50 (3 * i) := rfl
              rw [hkd]
              unfold ng
              rw [if_pos (by omega)]
            · rw [if_neg h1]
              by_cases h2 : j < i
              · rw [if_pos h2, if_pos (by omega)]
              · rw [if_neg h2, if_neg (by omega)]
          rw [e4]
          refine r_iinc C dX7_nightOn_64 rfl (by decide) rfl ?_
          dsimp only [List.set, Nat.reduceAdd]
          refine r_goto C (tgt := 2) dX7_nightOn_67 rfl ?_
          exact ih _ _ _ (by omega)
      · refine r_aload_n C rfl dX7_nightOn_31 ?_
        refine r_iload_n C rfl dX7_nightOn_32 ?_
        refine r_iald C dX7_nightOn_33 ha hz (by omega) ?_
        rw [e3]
        refine r_if_le C (tgt := 44) dX7_nightOn_34 rfl (by first | assumption | exact rgm (by omega) (by omega)) (fun h34 => ?_) (fun h34 => ?_)
        · refine r_iload C rfl dX7_nightOn_44 ?_
          refine r_istore C dX7_nightOn_46 4 rfl (by decide) rfl ?_
          dsimp only [List.set, Nat.reduceAdd]
          refine r_aload_n C rfl dX7_nightOn_48 ?_
          refine r_iload_n C rfl dX7_nightOn_49 ?_
          refine r_iload_n C rfl dX7_nightOn_50 ?_
          refine r_iconst C dX7_nightOn_51 ?_
          refine r_icmp_ne C (tgt := 61) dX7_nightOn_52 rfl (by first | assumption | exact rgm (by omega) (by omega)) (by first | assumption | exact rgm (by omega) (by omega)) (fun h52 => ?_) (fun h52 => ?_)
          · refine r_iload C rfl dX7_nightOn_61 ?_
            refine r_iast C dX7_nightOn_63 ha hz (by omega) ?_
            have e4 : mU (mR M a (nt (kdM M) i (M.1 a))) a i (M.1 a i / 2) = mR M a (nt (kdM M) (i + 1) (M.1 a)) := by
              rw [mU_mR]
              congr 1
              funext j
              unfold nt
              by_cases h1 : j = i
              · rw [if_pos h1, if_pos (by omega), h1]
                have hkd : kdM M i = M.1 50 (3 * i) := rfl
                rw [hkd]
                unfold ng
                rw [if_neg (by omega), if_neg (by omega)]
              · rw [if_neg h1]
                by_cases h2 : j < i
                · rw [if_pos h2, if_pos (by omega)]
                · rw [if_neg h2, if_neg (by omega)]
            rw [e4]
            refine r_iinc C dX7_nightOn_64 rfl (by decide) rfl ?_
            dsimp only [List.set, Nat.reduceAdd]
            refine r_goto C (tgt := 2) dX7_nightOn_67 rfl ?_
            exact ih _ _ _ (by omega)
          · refine r_aload_n C rfl dX7_nightOn_55 ?_
            refine r_iload_n C rfl dX7_nightOn_56 ?_
            refine r_iald C dX7_nightOn_57 ha hz (by omega) ?_
            rw [e3]
            refine r_goto C (tgt := 63) dX7_nightOn_58 rfl ?_
            refine r_iast C dX7_nightOn_63 ha hz (by omega) ?_
            have e4 : mU (mR M a (nt (kdM M) i (M.1 a))) a i ((M.1 a i)) = mR M a (nt (kdM M) (i + 1) (M.1 a)) := by
              rw [mU_mR]
              congr 1
              funext j
              unfold nt
              by_cases h1 : j = i
              · rw [if_pos h1, if_pos (by omega), h1]
                have hkd : kdM M i = M.1 50 (3 * i) := rfl
                rw [hkd]
                unfold ng
                rw [if_pos (by omega)]
              · rw [if_neg h1]
                by_cases h2 : j < i
                · rw [if_pos h2, if_pos (by omega)]
                · rw [if_neg h2, if_neg (by omega)]
            rw [e4]
            refine r_iinc C dX7_nightOn_64 rfl (by decide) rfl ?_
            dsimp only [List.set, Nat.reduceAdd]
            refine r_goto C (tgt := 2) dX7_nightOn_67 rfl ?_
            exact ih _ _ _ (by omega)
        · refine r_iload C rfl dX7_nightOn_37 ?_
          refine r_iconst C dX7_nightOn_39 ?_
          refine r_iadd C dX7_nightOn_40 ?_
          refine r_goto C (tgt := 46) dX7_nightOn_41 rfl ?_
          refine r_istore C dX7_nightOn_46 4 rfl (by decide) rfl ?_
          dsimp only [List.set, Nat.reduceAdd]
          refine r_aload_n C rfl dX7_nightOn_48 ?_
          refine r_iload_n C rfl dX7_nightOn_49 ?_
          refine r_iload_n C rfl dX7_nightOn_50 ?_
          refine r_iconst C dX7_nightOn_51 ?_
          refine r_icmp_ne C (tgt := 61) dX7_nightOn_52 rfl (by first | assumption | exact rgm (by omega) (by omega)) (by first | assumption | exact rgm (by omega) (by omega)) (fun h52 => ?_) (fun h52 => ?_)
          · refine r_iload C rfl dX7_nightOn_61 ?_
            refine r_iast C dX7_nightOn_63 ha hz (by omega) ?_
            have e4 : mU (mR M a (nt (kdM M) i (M.1 a))) a i ((M.1 a i / 2 + 1)) = mR M a (nt (kdM M) (i + 1) (M.1 a)) := by
              rw [mU_mR]
              congr 1
              funext j
              unfold nt
              by_cases h1 : j = i
              · rw [if_pos h1, if_pos (by omega), h1]
                have hkd : kdM M i = M.1 50 (3 * i) := rfl
                rw [hkd]
                unfold ng
                rw [if_neg (by omega), if_pos (by omega)]
              · rw [if_neg h1]
                by_cases h2 : j < i
                · rw [if_pos h2, if_pos (by omega)]
                · rw [if_neg h2, if_neg (by omega)]
            rw [e4]
            refine r_iinc C dX7_nightOn_64 rfl (by decide) rfl ?_
            dsimp only [List.set, Nat.reduceAdd]
            refine r_goto C (tgt := 2) dX7_nightOn_67 rfl ?_
            exact ih _ _ _ (by omega)
          · refine r_aload_n C rfl dX7_nightOn_55 ?_
            refine r_iload_n C rfl dX7_nightOn_56 ?_
            refine r_iald C dX7_nightOn_57 ha hz (by omega) ?_
            rw [e3]
            refine r_goto C (tgt := 63) dX7_nightOn_58 rfl ?_
            refine r_iast C dX7_nightOn_63 ha hz (by omega) ?_
            have e4 : mU (mR M a (nt (kdM M) i (M.1 a))) a i ((M.1 a i)) = mR M a (nt (kdM M) (i + 1) (M.1 a)) := by
              rw [mU_mR]
              congr 1
              funext j
              unfold nt
              by_cases h1 : j = i
              · rw [if_pos h1, if_pos (by omega), h1]
                have hkd : kdM M i = M.1 50 (3 * i) := rfl
                rw [hkd]
                unfold ng
                rw [if_pos (by omega)]
              · rw [if_neg h1]
                by_cases h2 : j < i
                · rw [if_pos h2, if_pos (by omega)]
                · rw [if_neg h2, if_neg (by omega)]
            rw [e4]
            refine r_iinc C dX7_nightOn_64 rfl (by decide) rfl ?_
            dsimp only [List.set, Nat.reduceAdd]
            refine r_goto C (tgt := 2) dX7_nightOn_67 rfl ?_
            exact ih _ _ _ (by omega)
  refine r_iconst C dX7_nightOn_0 ?_
  refine r_istore_n C dX7_nightOn_1 2 rfl (by decide) rfl ?_
  dsimp only [List.set, Nat.reduceAdd]
  have h0 := lp 0 (Nat.zero_le _) 0 .null .null rfl
  rw [show nt (kdM M) 0 (M.1 a) = M.1 a from rfl, mR_self] at h0
  exact h0
set_option maxRecDepth 10000 in
set_option maxHeartbeats 1000000 in
theorem c_dropsAt (M : Mm_) {q : Int} (hq : 0 ≤ q ∧ q ≤ 5) (hdc : 0 ≤ M.1 48 8 ∧ M.1 48 8 ≤ 4) (hd : ∀ d, d < 4 → (0 ≤ M.1 56 (2 * d) ∧ M.1 56 (2 * d) ≤ 99) ∧ (0 ≤ M.1 56 (2 * d + 1) ∧ M.1 56 (2 * d + 1) ≤ 5)) : Cn 1 kX7_dropsAt [.ref 48, .int (zI q)] M (pZ (fr (M.1 48 8).toNat (pdM M) (ppM M) q) M) := by
  obtain ⟨n, hn⟩ := Int.eq_ofNat_of_zero_le hdc.1
  have en : (M.1 48 8).toNat = n := by omega
  rw [en]
  refine Cn.of rfl (Nat.le_of_ble_eq_true rfl) (fun G C E => ?_)
  show G 0 [.ref 48, .int (zI q), .null, .null] [] M
  have lp : ∀ i : Nat, i ≤ n → ∀ s z : Int, s = fr i (pdM M) (ppM M) q → z = i → G 4 [.ref 48, .int (zI q), .int (zI s), .int (zI z)] [] M := by
    refine lpN n ?_ ?_
    · intro s z hs hz 
      refine r_iload_n C rfl dX7_dropsAt_4 ?_
      refine r_aload_n C rfl dX7_dropsAt_5 ?_
      refine r_geti C dX7_dropsAt_6 fl_X7_124 ly_48 rfl ?_
      refine r_icmp_ge C (tgt := 46) dX7_dropsAt_9 rfl (by first | assumption | exact rgm (by omega) (by omega)) (by first | assumption | exact rgm (by omega) (by omega)) (fun h9 => ?_) (fun h9 => absurd h9 (by omega))
      refine r_iload_n C rfl dX7_dropsAt_46 ?_
      exact r_iret E dX7_dropsAt_47 (pZ_of hs)
    · intro i hi ih s z hs hz 
      refine r_iload_n C rfl dX7_dropsAt_4 ?_
      refine r_aload_n C rfl dX7_dropsAt_5 ?_
      refine r_geti C dX7_dropsAt_6 fl_X7_124 ly_48 rfl ?_
      refine r_icmp_ge C (tgt := 46) dX7_dropsAt_9 rfl (by first | assumption | exact rgm (by omega) (by omega)) (by first | assumption | exact rgm (by omega) (by omega)) (fun h9 => absurd h9 (by omega)) (fun h9 => ?_)
      refine r_iload_n C rfl dX7_dropsAt_12 ?_
      refine r_aload_n C rfl dX7_dropsAt_13 ?_
      refine r_getr C dX7_dropsAt_14 fl_X7_31 ly_48 rfl ?_
      refine r_iconst C dX7_dropsAt_17 ?_
      refine r_iload_n C rfl dX7_dropsAt_18 ?_
      refine r_imul C dX7_dropsAt_19 ?_
      refine r_iald C dX7_dropsAt_20 ly_56 (k := 2 * i) (by omega) (by omega) ?_
      refine r_aload_n C rfl dX7_dropsAt_21 ?_
      refine r_getr C dX7_dropsAt_22 fl_X7_31 ly_48 rfl ?_
      refine r_iconst C dX7_dropsAt_25 ?_
      refine r_iload_n C rfl dX7_dropsAt_26 ?_
      refine r_imul C dX7_dropsAt_27 ?_
      refine r_iconst C dX7_dropsAt_28 ?_
      refine r_iadd C dX7_dropsAt_29 ?_
      refine r_iald C dX7_dropsAt_30 ly_56 (k := 2 * i + 1) (by omega) (by omega) ?_
      refine r_iload_n C rfl dX7_dropsAt_31 ?_
      refine r_cSz C dX7_dropsAt_32 sw_X7_148 (c_apart M (hd i (by omega)).2 hq) (by decide) rfl rfl (Nat.le_of_ble_eq_true rfl) ?_
      refine r_cSz C dX7_dropsAt_35 sw_X7_152 (c_forceBy M (hd i (by omega)).1 (hd i (by omega)).2 hq) (by decide) rfl rfl (Nat.le_of_ble_eq_true rfl) ?_
      refine r_iadd C dX7_dropsAt_38 ?_
      refine r_istore_n C dX7_dropsAt_39 2 rfl (by decide) rfl ?_
      dsimp only [List.set, Nat.reduceAdd]
      refine r_iinc C dX7_dropsAt_40 rfl (by decide) rfl ?_
      dsimp only [List.set, Nat.reduceAdd]
      refine r_goto C (tgt := 4) dX7_dropsAt_43 rfl ?_
      exact ih _ _ (by rw [hs]; rfl) (by omega)
  refine r_iconst C dX7_dropsAt_0 ?_
  refine r_istore_n C dX7_dropsAt_1 2 rfl (by decide) rfl ?_
  dsimp only [List.set, Nat.reduceAdd]
  refine r_iconst C dX7_dropsAt_2 ?_
  refine r_istore_n C dX7_dropsAt_3 3 rfl (by decide) rfl ?_
  dsimp only [List.set, Nat.reduceAdd]
  exact lp 0 (Nat.zero_le _) _ _ rfl rfl
set_option maxRecDepth 10000 in
set_option maxHeartbeats 1000000 in
theorem c_forceOn (M : Mm_) {a : Nat} {q : Int} (ha : lyT[a]? = some (0, 4, [])) (hq : 0 ≤ q ∧ q ≤ 5) (hv : oMv M) (hpl : ∀ i, i < 4 → 0 ≤ M.1 51 i ∧ M.1 51 i ≤ 5) (hg : oMg M a) : Cn 1 kX7_forceOn [.ref 48, .ref a, .int (zI q)] M (pZ (fr (M.1 48 3).toNat (M.1 a) (M.1 51) q) M) := by
  have hv0 : (M.1 48 3 = 0 ∧ M.1 48 4 = 0) ∨ (2 ≤ M.1 48 3 ∧ M.1 48 3 ≤ 4 ∧ 2 ≤ M.1 48 4 ∧ M.1 48 4 ≤ 6) := hv
  obtain ⟨n, hn⟩ : ∃ n : Nat, M.1 48 3 = n := ⟨(M.1 48 3).toNat, by omega⟩
  have en : (M.1 48 3).toNat = n := by omega
  rw [en]
  refine Cn.of rfl (Nat.le_of_ble_eq_true rfl) (fun G C E => ?_)
  show G 0 [.ref 48, .ref a, .int (zI q), .null, .null] [] M
  have lp : ∀ i : Nat, i ≤ n → ∀ s z : Int, s = fr i (M.1 a) (M.1 51) q → z = i → G 5 [.ref 48, .ref a, .int (zI q), .int (zI s), .int (zI z)] [] M := by
    refine lpN n ?_ ?_
    · intro s z hs hz 
      refine r_iload C rfl dX7_forceOn_5 ?_
      refine r_aload_n C rfl dX7_forceOn_7 ?_
      refine r_geti C dX7_forceOn_8 fl_X7_109 ly_48 rfl ?_
      refine r_icmp_ge C (tgt := 41) dX7_forceOn_11 rfl (by first | assumption | exact rgm (by omega) (by omega)) (by first | assumption | exact rgm (by omega) (by omega)) (fun h11 => ?_) (fun h11 => absurd h11 (by omega))
      refine r_iload_n C rfl dX7_forceOn_41 ?_
      exact r_iret E dX7_forceOn_42 (pZ_of hs)
    · intro i hi ih s z hs hz 
      refine r_iload C rfl dX7_forceOn_5 ?_
      refine r_aload_n C rfl dX7_forceOn_7 ?_
      refine r_geti C dX7_forceOn_8 fl_X7_109 ly_48 rfl ?_
      refine r_icmp_ge C (tgt := 41) dX7_forceOn_11 rfl (by first | assumption | exact rgm (by omega) (by omega)) (by first | assumption | exact rgm (by omega) (by omega)) (fun h11 => absurd h11 (by omega)) (fun h11 => ?_)
      refine r_iload_n C rfl dX7_forceOn_14 ?_
      refine r_aload_n C rfl dX7_forceOn_15 ?_
      refine r_iload C rfl dX7_forceOn_16 ?_
      refine r_iald C dX7_forceOn_18 ha hz (by omega) ?_
      refine r_aload_n C rfl dX7_forceOn_19 ?_
      refine r_getr C dX7_forceOn_20 fl_X7_16 ly_48 rfl ?_
      refine r_iload C rfl dX7_forceOn_23 ?_
      refine r_iald C dX7_forceOn_25 ly_51 hz (by omega) ?_
      refine r_iload_n C rfl dX7_forceOn_26 ?_
      refine r_cSz C dX7_forceOn_27 sw_X7_148 (c_apart M (hpl i (by omega)) hq) (by decide) rfl rfl (Nat.le_of_ble_eq_true rfl) ?_
      refine r_cSz C dX7_forceOn_30 sw_X7_152 (c_forceBy M (hg i (by omega)) (hpl i (by omega)) hq) (by decide) rfl rfl (Nat.le_of_ble_eq_true rfl) ?_
      refine r_iadd C dX7_forceOn_33 ?_
      refine r_istore_n C dX7_forceOn_34 3 rfl (by decide) rfl ?_
      dsimp only [List.set, Nat.reduceAdd]
      refine r_iinc C dX7_forceOn_35 rfl (by decide) rfl ?_
      dsimp only [List.set, Nat.reduceAdd]
      refine r_goto C (tgt := 5) dX7_forceOn_38 rfl ?_
      exact ih _ _ (by rw [hs]; rfl) (by omega)
  refine r_iconst C dX7_forceOn_0 ?_
  refine r_istore_n C dX7_forceOn_1 3 rfl (by decide) rfl ?_
  dsimp only [List.set, Nat.reduceAdd]
  refine r_iconst C dX7_forceOn_2 ?_
  refine r_istore C dX7_forceOn_3 4 rfl (by decide) rfl ?_
  dsimp only [List.set, Nat.reduceAdd]
  exact lp 0 (Nat.zero_le _) _ _ rfl rfl
set_option maxRecDepth 10000 in
set_option maxHeartbeats 1000000 in
theorem c_forceAtM (M : Mm_) {q : Int} (hq : 0 ≤ q ∧ q ≤ 5) (hv : oMv M) (hf : oMf M) (hg : oMg M 52) : Cn 2 kX7_forceAt [.ref 48, .int (zI q)] M (pZ (fM M 52 true q) M) := by
  refine Cn.of rfl (Nat.le_of_ble_eq_true rfl) (fun G C E => ?_)
  show G 0 [.ref 48, .int (zI q)] [] M
  refine r_aload_n C rfl dX7_forceAt_0 ?_
  refine r_aload_n C rfl dX7_forceAt_1 ?_
  refine r_getr C dX7_forceAt_2 fl_X7_19 ly_48 rfl ?_
  refine r_iload_n C rfl dX7_forceAt_5 ?_
  refine r_cVz C dX7_forceAt_6 vw_X7_155 (c_forceOn M ly_52 (by omega) hv hf.1 hg) (by decide) rfl ly_48 rfl rfl (Nat.le_of_ble_eq_true rfl) ?_
  refine r_aload_n C rfl dX7_forceAt_9 ?_
  refine r_iload_n C rfl dX7_forceAt_10 ?_
  refine r_cVz C dX7_forceAt_11 vw_X7_159 (c_dropsAt M (by omega) hf.2.1 hf.2.2.1) (by decide) rfl ly_48 rfl rfl (Nat.le_of_ble_eq_true rfl) ?_
  refine r_iadd C dX7_forceAt_14 ?_
  exact r_iret E dX7_forceAt_15 (pZ_of rfl)

theorem fM_b {M : Mm_} {a : Nat} (hv : oMv M) (hf : oMf M) (hg : oMg M a) (dr : Bool) (q : Int) : 0 ≤ fM M a dr q ∧ fM M a dr q ≤ 792 := by
  have hv0 : (M.1 48 3 = 0 ∧ M.1 48 4 = 0) ∨ (2 ≤ M.1 48 3 ∧ M.1 48 3 ≤ 4 ∧ 2 ≤ M.1 48 4 ∧ M.1 48 4 ≤ 6) := hv
  have h1 := fr_b (n := (M.1 48 3).toNat) (g := M.1 a) (p := M.1 51) (q := q) (fun i hi => hg i (by omega))
  have hd := hf.2.1
  have h2 := fr_b (n := (M.1 48 8).toNat) (g := pdM M) (p := ppM M) (q := q) (fun i hi => (hf.2.2.1 i (by omega)).1)
  unfold fM
  cases dr <;> simp <;> omega

set_option maxRecDepth 10000 in
set_option maxHeartbeats 1000000 in
theorem c_wouldOn1 (M : Mm_) {a : Nat} (ha : lyT[a]? = some (0, 4, [])) (hv : oMv M) (hf : oMf M) (hg : oMg M a) : Cn 2 kX7_wouldOn [.ref 48, .ref a, .int (zI 1)] M (pZ (WDc (M.1 53) (fM M a true) (M.1 48 4).toNat) M) := by
  have hv0 : (M.1 48 3 = 0 ∧ M.1 48 4 = 0) ∨ (2 ≤ M.1 48 3 ∧ M.1 48 3 ≤ 4 ∧ 2 ≤ M.1 48 4 ∧ M.1 48 4 ≤ 6) := hv
  obtain ⟨n, hn⟩ : ∃ n : Nat, M.1 48 4 = n := ⟨(M.1 48 4).toNat, by omega⟩
  have en : (M.1 48 4).toNat = n := by omega
  rw [en]
  refine Cn.of rfl (Nat.le_of_ble_eq_true rfl) (fun G C E => ?_)
  show G 0 [.ref 48, .ref a, .int (zI 1), .null, .null, .null] [] M
  have lp : ∀ i : Nat, i ≤ n → ∀ (s z : Int) (v5 : Value), s = sb (fun j => decide (M.1 53 j ≤ fM M a true (j : Int))) i → z = i → G 5 [.ref 48, .ref a, .int (zI 1), .int (zI s), .int (zI z), v5] [] M := by
    refine lpN n ?_ ?_
    · intro s z v5 hs hz
      refine r_iload C rfl dX7_wouldOn_5 ?_
      refine r_aload_n C rfl dX7_wouldOn_7 ?_
      refine r_geti C dX7_wouldOn_8 fl_X7_112 ly_48 rfl ?_
      refine r_icmp_ge C (tgt := 67) dX7_wouldOn_11 rfl (by first | assumption | exact rgm (by omega) (by omega)) (by first | assumption | exact rgm (by omega) (by omega)) (fun h11 => ?_) (fun h11 => absurd h11 (by omega))
      refine r_iload_n C rfl dX7_wouldOn_67 ?_
      exact r_iret E dX7_wouldOn_68 (pZ_of hs)
    · intro i hi ih s z v5 hs hz
      have hsb9 := sbb (fun j => decide (M.1 53 j ≤ fM M a true (j : Int))) i
      have hw := hf.2.2.2 i (by omega)
      have hF := fM_b hv hf hg true (i : Int)
      subst hz
      have hpw : (2 : Int) ^ i ≤ 64 := (pw_b (by omega)).2
      refine r_iload C rfl dX7_wouldOn_5 ?_
      refine r_aload_n C rfl dX7_wouldOn_7 ?_
      refine r_geti C dX7_wouldOn_8 fl_X7_112 ly_48 rfl ?_
      refine r_icmp_ge C (tgt := 67) dX7_wouldOn_11 rfl (by first | assumption | exact rgm (by omega) (by omega)) (by first | assumption | exact rgm (by omega) (by omega)) (fun h11 => absurd h11 (by omega)) (fun h11 => ?_)
      refine r_aload_n C rfl dX7_wouldOn_14 ?_
      refine r_aload_n C rfl dX7_wouldOn_15 ?_
      refine r_iload C rfl dX7_wouldOn_16 ?_
      refine r_cVz C dX7_wouldOn_18 vw_X7_155 (c_forceOn M ha (by omega) hv hf.1 hg) (by decide) rfl ly_48 rfl rfl (Nat.le_of_ble_eq_true rfl) ?_
      refine r_iload_n C rfl dX7_wouldOn_21 ?_
      refine r_if_eq C (tgt := 34) dX7_wouldOn_22 rfl (by first | assumption | exact rgm (by omega) (by omega)) (fun h22 => absurd h22 (by decide)) (fun h22 => ?_)
      refine r_aload_n C rfl dX7_wouldOn_25 ?_
      refine r_iload C rfl dX7_wouldOn_26 ?_
      refine r_cVz C dX7_wouldOn_28 vw_X7_159 (c_dropsAt M (by omega) hf.2.1 hf.2.2.1) (by decide) rfl ly_48 rfl rfl (Nat.le_of_ble_eq_true rfl) ?_
      refine r_goto C (tgt := 35) dX7_wouldOn_31 rfl ?_
      refine r_iadd C dX7_wouldOn_35 ?_
      have hfe : fr (M.1 48 3).toNat (M.1 a) (M.1 51) (i : Int) + fr (M.1 48 8).toNat (pdM M) (ppM M) (i : Int) = fM M a true i := by simp [fM]
      rw [hfe]
      refine r_istore C dX7_wouldOn_36 5 rfl (by decide) rfl ?_
      dsimp only [List.set, Nat.reduceAdd]
      refine r_iload_n C rfl dX7_wouldOn_38 ?_
      refine r_iload C rfl dX7_wouldOn_39 ?_
      refine r_aload_n C rfl dX7_wouldOn_41 ?_
      refine r_getr C dX7_wouldOn_42 fl_X7_22 ly_48 rfl ?_
      refine r_iload C rfl dX7_wouldOn_45 ?_
      refine r_iald C dX7_wouldOn_47 ly_53 rfl (by omega) ?_
      refine r_icmp_lt C (tgt := 58) dX7_wouldOn_48 rfl (by first | assumption | exact rgm (by omega) (by omega)) (by first | assumption | exact rgm (by omega) (by omega)) (fun h48 => ?_) (fun h48 => ?_)
      · refine r_iconst C dX7_wouldOn_58 ?_
        refine r_ior C (v := s) (by rw [show zI s ||| zI 0 = zI s from Int32.or_zero]) dX7_wouldOn_59 ?_
        refine r_istore_n C dX7_wouldOn_60 3 rfl (by decide) rfl ?_
        dsimp only [List.set, Nat.reduceAdd]
        refine r_iinc C dX7_wouldOn_61 rfl (by decide) rfl ?_
        dsimp only [List.set, Nat.reduceAdd]
        refine r_goto C (tgt := 5) dX7_wouldOn_64 rfl ?_
        exact ih _ _ _ (by rw [sb_s, if_neg (by simp only [decide_eq_true_eq]; omega)]; omega) (by omega)
      · refine r_iconst C dX7_wouldOn_51 ?_
        refine r_iload C rfl dX7_wouldOn_52 ?_
        refine r_ishl C (v := 2 ^ i) (zb_shl (by omega)) dX7_wouldOn_54 ?_
        refine r_goto C (tgt := 59) dX7_wouldOn_55 rfl ?_
        refine r_ior C (v := s + 2 ^ i) (zb_or (by omega) (by omega) (by omega)) dX7_wouldOn_59 ?_
        refine r_istore_n C dX7_wouldOn_60 3 rfl (by decide) rfl ?_
        dsimp only [List.set, Nat.reduceAdd]
        refine r_iinc C dX7_wouldOn_61 rfl (by decide) rfl ?_
        dsimp only [List.set, Nat.reduceAdd]
        refine r_goto C (tgt := 5) dX7_wouldOn_64 rfl ?_
        exact ih _ _ _ (by rw [sb_s, if_pos (by simp only [decide_eq_true_eq]; omega)]; omega) (by omega)
  refine r_iconst C dX7_wouldOn_0 ?_
  refine r_istore_n C dX7_wouldOn_1 3 rfl (by decide) rfl ?_
  dsimp only [List.set, Nat.reduceAdd]
  refine r_iconst C dX7_wouldOn_2 ?_
  refine r_istore C dX7_wouldOn_3 4 rfl (by decide) rfl ?_
  dsimp only [List.set, Nat.reduceAdd]
  exact lp 0 (Nat.zero_le _) _ _ _ rfl rfl
set_option maxRecDepth 10000 in
set_option maxHeartbeats 1000000 in
theorem c_wouldOn0 (M : Mm_) {a : Nat} (ha : lyT[a]? = some (0, 4, [])) (hv : oMv M) (hf : oMf M) (hg : oMg M a) : Cn 2 kX7_wouldOn [.ref 48, .ref a, .int (zI 0)] M (pZ (WDc (M.1 53) (fM M a false) (M.1 48 4).toNat) M) := by
  have hv0 : (M.1 48 3 = 0 ∧ M.1 48 4 = 0) ∨ (2 ≤ M.1 48 3 ∧ M.1 48 3 ≤ 4 ∧ 2 ≤ M.1 48 4 ∧ M.1 48 4 ≤ 6) := hv
  obtain ⟨n, hn⟩ : ∃ n : Nat, M.1 48 4 = n := ⟨(M.1 48 4).toNat, by omega⟩
  have en : (M.1 48 4).toNat = n := by omega
  rw [en]
  refine Cn.of rfl (Nat.le_of_ble_eq_true rfl) (fun G C E => ?_)
  show G 0 [.ref 48, .ref a, .int (zI 0), .null, .null, .null] [] M
  have lp : ∀ i : Nat, i ≤ n → ∀ (s z : Int) (v5 : Value), s = sb (fun j => decide (M.1 53 j ≤ fM M a false (j : Int))) i → z = i → G 5 [.ref 48, .ref a, .int (zI 0), .int (zI s), .int (zI z), v5] [] M := by
    refine lpN n ?_ ?_
    · intro s z v5 hs hz
      refine r_iload C rfl dX7_wouldOn_5 ?_
      refine r_aload_n C rfl dX7_wouldOn_7 ?_
      refine r_geti C dX7_wouldOn_8 fl_X7_112 ly_48 rfl ?_
      refine r_icmp_ge C (tgt := 67) dX7_wouldOn_11 rfl (by first | assumption | exact rgm (by omega) (by omega)) (by first | assumption | exact rgm (by omega) (by omega)) (fun h11 => ?_) (fun h11 => absurd h11 (by omega))
      refine r_iload_n C rfl dX7_wouldOn_67 ?_
      exact r_iret E dX7_wouldOn_68 (pZ_of hs)
    · intro i hi ih s z v5 hs hz
      have hsb9 := sbb (fun j => decide (M.1 53 j ≤ fM M a false (j : Int))) i
      have hw := hf.2.2.2 i (by omega)
      have hF := fM_b hv hf hg false (i : Int)
      subst hz
      have hpw : (2 : Int) ^ i ≤ 64 := (pw_b (by omega)).2
      refine r_iload C rfl dX7_wouldOn_5 ?_
      refine r_aload_n C rfl dX7_wouldOn_7 ?_
      refine r_geti C dX7_wouldOn_8 fl_X7_112 ly_48 rfl ?_
      refine r_icmp_ge C (tgt := 67) dX7_wouldOn_11 rfl (by first | assumption | exact rgm (by omega) (by omega)) (by first | assumption | exact rgm (by omega) (by omega)) (fun h11 => absurd h11 (by omega)) (fun h11 => ?_)
      refine r_aload_n C rfl dX7_wouldOn_14 ?_
      refine r_aload_n C rfl dX7_wouldOn_15 ?_
      refine r_iload C rfl dX7_wouldOn_16 ?_
      refine r_cVz C dX7_wouldOn_18 vw_X7_155 (c_forceOn M ha (by omega) hv hf.1 hg) (by decide) rfl ly_48 rfl rfl (Nat.le_of_ble_eq_true rfl) ?_
      refine r_iload_n C rfl dX7_wouldOn_21 ?_
      refine r_if_eq C (tgt := 34) dX7_wouldOn_22 rfl (by first | assumption | exact rgm (by omega) (by omega)) (fun h22 => ?_) (fun h22 => absurd h22 (by decide))
      refine r_iconst C dX7_wouldOn_34 ?_
      refine r_iadd C dX7_wouldOn_35 ?_
      have hfe : fr (M.1 48 3).toNat (M.1 a) (M.1 51) (i : Int) + 0 = fM M a false i := by simp [fM]
      rw [hfe]
      refine r_istore C dX7_wouldOn_36 5 rfl (by decide) rfl ?_
      dsimp only [List.set, Nat.reduceAdd]
      refine r_iload_n C rfl dX7_wouldOn_38 ?_
      refine r_iload C rfl dX7_wouldOn_39 ?_
      refine r_aload_n C rfl dX7_wouldOn_41 ?_
      refine r_getr C dX7_wouldOn_42 fl_X7_22 ly_48 rfl ?_
      refine r_iload C rfl dX7_wouldOn_45 ?_
      refine r_iald C dX7_wouldOn_47 ly_53 rfl (by omega) ?_
      refine r_icmp_lt C (tgt := 58) dX7_wouldOn_48 rfl (by first | assumption | exact rgm (by omega) (by omega)) (by first | assumption | exact rgm (by omega) (by omega)) (fun h48 => ?_) (fun h48 => ?_)
      · refine r_iconst C dX7_wouldOn_58 ?_
        refine r_ior C (v := s) (by rw [show zI s ||| zI 0 = zI s from Int32.or_zero]) dX7_wouldOn_59 ?_
        refine r_istore_n C dX7_wouldOn_60 3 rfl (by decide) rfl ?_
        dsimp only [List.set, Nat.reduceAdd]
        refine r_iinc C dX7_wouldOn_61 rfl (by decide) rfl ?_
        dsimp only [List.set, Nat.reduceAdd]
        refine r_goto C (tgt := 5) dX7_wouldOn_64 rfl ?_
        exact ih _ _ _ (by rw [sb_s, if_neg (by simp only [decide_eq_true_eq]; omega)]; omega) (by omega)
      · refine r_iconst C dX7_wouldOn_51 ?_
        refine r_iload C rfl dX7_wouldOn_52 ?_
        refine r_ishl C (v := 2 ^ i) (zb_shl (by omega)) dX7_wouldOn_54 ?_
        refine r_goto C (tgt := 59) dX7_wouldOn_55 rfl ?_
        refine r_ior C (v := s + 2 ^ i) (zb_or (by omega) (by omega) (by omega)) dX7_wouldOn_59 ?_
        refine r_istore_n C dX7_wouldOn_60 3 rfl (by decide) rfl ?_
        dsimp only [List.set, Nat.reduceAdd]
        refine r_iinc C dX7_wouldOn_61 rfl (by decide) rfl ?_
        dsimp only [List.set, Nat.reduceAdd]
        refine r_goto C (tgt := 5) dX7_wouldOn_64 rfl ?_
        exact ih _ _ _ (by rw [sb_s, if_pos (by simp only [decide_eq_true_eq]; omega)]; omega) (by omega)
  refine r_iconst C dX7_wouldOn_0 ?_
  refine r_istore_n C dX7_wouldOn_1 3 rfl (by decide) rfl ?_
  dsimp only [List.set, Nat.reduceAdd]
  refine r_iconst C dX7_wouldOn_2 ?_
  refine r_istore C dX7_wouldOn_3 4 rfl (by decide) rfl ?_
  dsimp only [List.set, Nat.reduceAdd]
  exact lp 0 (Nat.zero_le _) _ _ _ rfl rfl
set_option maxRecDepth 10000 in
set_option maxHeartbeats 1000000 in
theorem c_wouldNow (M : Mm_) (hv : oMv M) (hf : oMf M) (hg : oMg M 52) : Cn 3 kX7_wouldNow [.ref 48] M (pZ (WDc (M.1 53) (fM M 52 true) (M.1 48 4).toNat) M) := by
  refine Cn.of rfl (Nat.le_of_ble_eq_true rfl) (fun G C E => ?_)
  show G 0 [.ref 48] [] M
  refine r_aload_n C rfl dX7_wouldNow_0 ?_
  refine r_aload_n C rfl dX7_wouldNow_1 ?_
  refine r_getr C dX7_wouldNow_2 fl_X7_19 ly_48 rfl ?_
  refine r_iconst C dX7_wouldNow_5 ?_
  refine r_cVz C dX7_wouldNow_6 vw_X7_162 (c_wouldOn1 M ly_52 hv hf hg) (by decide) rfl ly_48 rfl rfl (Nat.le_of_ble_eq_true rfl) ?_
  exact r_iret E dX7_wouldNow_9 (pZ_of rfl)

def seatM (M : Mm_) (k : Nat) (q : Nat) : Int := ob (WDc (M.1 53) (fM (mR M 51 (fun j => if j = k then (q : Int) else M.1 51 j)) 52 true) (M.1 48 4).toNat)

set_option maxRecDepth 10000 in
set_option maxHeartbeats 1000000 in
theorem c_seatOf (M : Mm_) {k : Nat} {w : Int} (hk : (k : Int) < M.1 48 3) (rw_ : rg w) (hv : oMv M) (hf : oMf M) (hg : oMg M 52) : Cn 4 kX7_seatOf [.ref 48, .int (zI (k : Int)), .int (zI w)] M (pZ (if w = 5 then (stN (seatM M k) 6).1 else (stN (seatM M k) 6).2) M) := by
  have hv0 : (M.1 48 3 = 0 ∧ M.1 48 4 = 0) ∨ (2 ≤ M.1 48 3 ∧ M.1 48 3 ≤ 4 ∧ 2 ≤ M.1 48 4 ∧ M.1 48 4 ≤ 6) := hv
  refine Cn.of rfl (Nat.le_of_ble_eq_true rfl) (fun G C E => ?_)
  show G 0 [.ref 48, .int (zI (k : Int)), .int (zI w), .null, .null, .null, .null, .null] [] M
  have hk4 : k < 4 := by omega
  have hplk := hf.1 k hk4
  have lp : ∀ i : Nat, i ≤ 6 → ∀ (f : Nat → Int) (T : Mm_) (b z mo : Int) (v7 : Value), T = mR M 51 f → (∀ j, j ≠ k → f j = M.1 51 j) → b = (if i = 0 then -1 else (stN (seatM M k) i).1) → mo = (stN (seatM M k) i).2 → z = i → G 16 [.ref 48, .int (zI (k : Int)), .int (zI w), .int (zI (M.1 51 k)), .int (zI b), .int (zI mo), .int (zI z), v7] [] T := by
    refine lpN 6 ?_ ?_
    · intro f T b z mo v7 hT hfj hb hm hz
      subst hT
      rw [if_neg (by decide)] at hb
      refine r_iload C rfl dX7_seatOf_16 ?_
      refine r_bipush C rfl dX7_seatOf_18 ?_
      refine r_icmp_ge C (tgt := 78) dX7_seatOf_20 rfl (by first | assumption | exact rgm (by omega) (by omega)) (by first | assumption | exact rgm (by omega) (by omega)) (fun h20 => ?_) (fun h20 => absurd h20 (by omega))
      refine r_aload_n C rfl dX7_seatOf_78 ?_
      refine r_getr C dX7_seatOf_79 fl_X7_16 ly_48 rfl ?_
      refine r_iload_n C rfl dX7_seatOf_82 ?_
      refine r_iload_n C rfl dX7_seatOf_83 ?_
      refine r_iast C dX7_seatOf_84 ly_51 rfl (by omega) ?_
      refine r_iload_n C rfl dX7_seatOf_85 ?_
      refine r_iconst C dX7_seatOf_86 ?_
      refine r_icmp_ne C (tgt := 95) dX7_seatOf_87 rfl (by first | assumption | exact rgm (by omega) (by omega)) (by first | assumption | exact rgm (by omega) (by omega)) (fun h87 => ?_) (fun h87 => ?_)
      · refine r_iload C rfl dX7_seatOf_95 ?_
        exact r_iret E dX7_seatOf_97 (by
          have e : mU (mR M 51 f) 51 k (M.1 51 k) = M := by
            rw [mU_mR]
            conv => rhs; rw [← mR_self M 51]
            congr 1
            funext j
            by_cases hj : j = k
            · rw [if_pos hj, hj]
            · rw [if_neg hj]; exact hfj j hj
          rw [e]
          exact pZ_of (by rw [if_neg h87]; exact hm))
      · refine r_iload C rfl dX7_seatOf_90 ?_
        refine r_goto C (tgt := 97) dX7_seatOf_92 rfl ?_
        exact r_iret E dX7_seatOf_97 (by
          have e : mU (mR M 51 f) 51 k (M.1 51 k) = M := by
            rw [mU_mR]
            conv => rhs; rw [← mR_self M 51]
            congr 1
            funext j
            by_cases hj : j = k
            · rw [if_pos hj, hj]
            · rw [if_neg hj]; exact hfj j hj
          rw [e]
          exact pZ_of (by rw [if_pos h87]; exact hb))
    · intro i hi ih f T b z mo v7 hT hfj hb hm hz
      subst hT
      have hb9 := stN_b (f := seatM M k) (fun q => ob_b (WDc_b _ _ _ (by omega)).1 (WDc_b _ _ _ (by omega)).2) i
      refine r_iload C rfl dX7_seatOf_16 ?_
      refine r_bipush C rfl dX7_seatOf_18 ?_
      refine r_icmp_ge C (tgt := 78) dX7_seatOf_20 rfl (by first | assumption | exact rgm (by omega) (by omega)) (by first | assumption | exact rgm (by omega) (by omega)) (fun h20 => absurd h20 (by omega)) (fun h20 => ?_)
      refine r_aload_n C rfl dX7_seatOf_23 ?_
      refine r_getr C dX7_seatOf_24 fl_X7_16 ly_48 rfl ?_
      refine r_iload_n C rfl dX7_seatOf_27 ?_
      refine r_iload C rfl dX7_seatOf_28 ?_
      refine r_iast C dX7_seatOf_30 ly_51 rfl (by omega) ?_
      have e9 : mU (mR M 51 f) 51 k z = (mR M 51 (fun j => if j = k then (i : Int) else M.1 51 j)) := by
        rw [mU_mR]
        congr 1
        funext j
        by_cases hj : j = k
        · rw [if_pos hj, if_pos hj, hz]
        · rw [if_neg hj, if_neg hj]; exact hfj j hj
      rw [e9]
      have hvT : oMv (mR M 51 (fun j => if j = k then (i : Int) else M.1 51 j)) := by unfold oMv; rw [mR_ne (by decide)]; exact hv
      have hfT : oMf (mR M 51 (fun j => if j = k then (i : Int) else M.1 51 j)) := by
        unfold oMf
        rw [mR_eq, mR_ne (show (48 : Nat) ≠ 51 by decide), mR_ne (show (56 : Nat) ≠ 51 by decide), mR_ne (show (53 : Nat) ≠ 51 by decide)]
        exact ⟨fun j hj => by show 0 ≤ (if j = k then (i : Int) else M.1 51 j) ∧ (if j = k then (i : Int) else M.1 51 j) ≤ 5; have := hf.1 j hj; split <;> omega, hf.2⟩
      have hgT : oMg (mR M 51 (fun j => if j = k then (i : Int) else M.1 51 j)) 52 := by unfold oMg; rw [mR_ne (by decide)]; exact hg
      have hWb := WDc_b ((mR M 51 (fun j => if j = k then (i : Int) else M.1 51 j)).1 53) (fM (mR M 51 (fun j => if j = k then (i : Int) else M.1 51 j)) 52 true) ((mR M 51 (fun j => if j = k then (i : Int) else M.1 51 j)).1 48 4).toNat (by rw [mR_ne (by decide)]; omega)
      have hsm : ob (WDc ((mR M 51 (fun j => if j = k then (i : Int) else M.1 51 j)).1 53) (fM (mR M 51 (fun j => if j = k then (i : Int) else M.1 51 j)) 52 true) ((mR M 51 (fun j => if j = k then (i : Int) else M.1 51 j)).1 48 4).toNat) = seatM M k i := by unfold seatM; rw [mR_ne (by decide), mR_ne (by decide)]
      have hsb := ob_b hWb.1 hWb.2
      rw [hsm] at hsb
      refine r_aload_n C rfl dX7_seatOf_31 ?_
      refine r_cVz C dX7_seatOf_32 vw_X7_166 (c_wouldNow (mR M 51 (fun j => if j = k then (i : Int) else M.1 51 j)) hvT hfT hgT) (by decide) rfl ly_48 rfl rfl (Nat.le_of_ble_eq_true rfl) ?_
      refine r_cSz C dX7_seatOf_35 sw_X7_169 (c_ones _ hWb.1 (by omega)) (by decide) rfl rfl (Nat.le_of_ble_eq_true rfl) ?_
      rw [hsm]
      refine r_istore C dX7_seatOf_38 7 rfl (by decide) rfl ?_
      dsimp only [List.set, Nat.reduceAdd]
      refine r_iload C rfl dX7_seatOf_40 ?_
      refine r_iload C rfl dX7_seatOf_42 ?_
      refine r_icmp_le C (tgt := 52) dX7_seatOf_44 rfl (by first | assumption | exact rgm (by omega) (by omega)) (by first | assumption | exact rgm (by omega) (by omega)) (fun h44 => ?_) (fun h44 => ?_)
      · refine r_iload C rfl dX7_seatOf_52 ?_
        refine r_istore C dX7_seatOf_54 4 rfl (by decide) rfl ?_
        dsimp only [List.set, Nat.reduceAdd]
        refine r_iload C rfl dX7_seatOf_56 ?_
        refine r_iload C rfl dX7_seatOf_58 ?_
        refine r_icmp_le C (tgt := 68) dX7_seatOf_60 rfl (by first | assumption | exact rgm (by omega) (by omega)) (by first | assumption | exact rgm (by omega) (by omega)) (fun h60 => ?_) (fun h60 => absurd h60 (by omega))
        refine r_iload C rfl dX7_seatOf_68 ?_
        refine r_istore C dX7_seatOf_70 5 rfl (by decide) rfl ?_
        dsimp only [List.set, Nat.reduceAdd]
        refine r_iinc C dX7_seatOf_72 rfl (by decide) rfl ?_
        dsimp only [List.set, Nat.reduceAdd]
        refine r_goto C (tgt := 16) dX7_seatOf_75 rfl ?_
        have hi0 : i ≠ 0 := by intro h0; subst h0; have h9 : mo = -1 := hm; omega
        exact ih _ _ _ _ _ _ rfl (fun j hj => by rw [if_neg hj]) (by rw [if_neg (Nat.succ_ne_zero i)]; unfold stN; rw [if_neg (by omega)]; rw [if_neg hi0] at hb; exact hb) (by unfold stN; rw [if_neg (by omega)]; exact hm) (by omega)
      · refine r_iload C rfl dX7_seatOf_47 ?_
        refine r_goto C (tgt := 54) dX7_seatOf_49 rfl ?_
        refine r_istore C dX7_seatOf_54 4 rfl (by decide) rfl ?_
        dsimp only [List.set, Nat.reduceAdd]
        refine r_iload C rfl dX7_seatOf_56 ?_
        refine r_iload C rfl dX7_seatOf_58 ?_
        refine r_icmp_le C (tgt := 68) dX7_seatOf_60 rfl (by first | assumption | exact rgm (by omega) (by omega)) (by first | assumption | exact rgm (by omega) (by omega)) (fun h60 => absurd h60 (by omega)) (fun h60 => ?_)
        refine r_iload C rfl dX7_seatOf_63 ?_
        refine r_goto C (tgt := 70) dX7_seatOf_65 rfl ?_
        refine r_istore C dX7_seatOf_70 5 rfl (by decide) rfl ?_
        dsimp only [List.set, Nat.reduceAdd]
        refine r_iinc C dX7_seatOf_72 rfl (by decide) rfl ?_
        dsimp only [List.set, Nat.reduceAdd]
        refine r_goto C (tgt := 16) dX7_seatOf_75 rfl ?_
        exact ih _ _ _ _ _ _ rfl (fun j hj => by rw [if_neg hj]) (by rw [if_neg (Nat.succ_ne_zero i)]; unfold stN; rw [if_pos (by omega)]; exact hz) (by unfold stN; rw [if_pos (by omega)]) (by omega)
  refine r_aload_n C rfl dX7_seatOf_0 ?_
  refine r_getr C dX7_seatOf_1 fl_X7_16 ly_48 rfl ?_
  refine r_iload_n C rfl dX7_seatOf_4 ?_
  refine r_iald C dX7_seatOf_5 ly_51 rfl (by omega) ?_
  refine r_istore_n C dX7_seatOf_6 3 rfl (by decide) rfl ?_
  dsimp only [List.set, Nat.reduceAdd]
  refine r_iconst C dX7_seatOf_7 ?_
  refine r_istore C dX7_seatOf_8 4 rfl (by decide) rfl ?_
  dsimp only [List.set, Nat.reduceAdd]
  refine r_iconst C dX7_seatOf_10 ?_
  refine r_istore C dX7_seatOf_11 5 rfl (by decide) rfl ?_
  dsimp only [List.set, Nat.reduceAdd]
  refine r_iconst C dX7_seatOf_13 ?_
  refine r_istore C dX7_seatOf_14 6 rfl (by decide) rfl ?_
  dsimp only [List.set, Nat.reduceAdd]
  exact lp 0 (by omega) (M.1 51) _ _ _ _ _ (mR_self M 51).symm (fun _ _ => rfl) rfl rfl rfl
set_option maxRecDepth 10000 in
set_option maxHeartbeats 1000000 in
theorem c_growsOf (M : Mm_) {k : Nat} {q : Int} (hk : (k : Int) < M.1 48 3) (hq : 0 ≤ q ∧ q ≤ 2) (hv : oMv M) (hrw : oMr M) (hg : oMg M 52) : Cn 1 kX7_growsOf [.ref 48, .int (zI (k : Int)), .int (zI q)] M (pZ (tp (M.1 52 k + gw (kdM M k) (prM M k) q) - M.1 52 k) M) := by
  have hv0 : (M.1 48 3 = 0 ∧ M.1 48 4 = 0) ∨ (2 ≤ M.1 48 3 ∧ M.1 48 3 ≤ 4 ∧ 2 ≤ M.1 48 4 ∧ M.1 48 4 ≤ 6) := hv
  have hr := hrw k (by omega)
  have hgk := hg k (by omega)
  have hgb := gw_b (kind := M.1 50 (3 * k)) (pride := M.1 50 (3 * k + 1)) (how := q) hr.2.1 hr.2.2
  refine Cn.of rfl (Nat.le_of_ble_eq_true rfl) (fun G C E => ?_)
  show G 0 [.ref 48, .int (zI (k : Int)), .int (zI q), .null] [] M
  refine r_aload_n C rfl dX7_growsOf_0 ?_
  refine r_getr C dX7_growsOf_1 fl_X7_13 ly_48 rfl ?_
  refine r_iconst C dX7_growsOf_4 ?_
  refine r_iload_n C rfl dX7_growsOf_5 ?_
  refine r_imul C dX7_growsOf_6 ?_
  refine r_iald C dX7_growsOf_7 ly_50 (k := 3 * k) (by omega) (by omega) ?_
  refine r_aload_n C rfl dX7_growsOf_8 ?_
  refine r_getr C dX7_growsOf_9 fl_X7_13 ly_48 rfl ?_
  refine r_iconst C dX7_growsOf_12 ?_
  refine r_iload_n C rfl dX7_growsOf_13 ?_
  refine r_imul C dX7_growsOf_14 ?_
  refine r_iconst C dX7_growsOf_15 ?_
  refine r_iadd C dX7_growsOf_16 ?_
  refine r_iald C dX7_growsOf_17 ly_50 (k := 3 * k + 1) (by omega) (by omega) ?_
  refine r_iload_n C rfl dX7_growsOf_18 ?_
  refine r_cSz C dX7_growsOf_19 sw_X7_141 (c_grieved M hr.1 hr.2 (by omega)) (by decide) rfl rfl (Nat.le_of_ble_eq_true rfl) ?_
  refine r_istore_n C dX7_growsOf_22 3 rfl (by decide) rfl ?_
  dsimp only [List.set, Nat.reduceAdd]
  refine r_aload_n C rfl dX7_growsOf_23 ?_
  refine r_getr C dX7_growsOf_24 fl_X7_19 ly_48 rfl ?_
  refine r_iload_n C rfl dX7_growsOf_27 ?_
  refine r_iald C dX7_growsOf_28 ly_52 rfl (by omega) ?_
  refine r_iload_n C rfl dX7_growsOf_29 ?_
  refine r_iadd C dX7_growsOf_30 ?_
  refine r_cSz C dX7_growsOf_31 sw_X7_145 (c_topped M (rgm (by omega) (by omega))) (by decide) rfl rfl (Nat.le_of_ble_eq_true rfl) ?_
  refine r_aload_n C rfl dX7_growsOf_34 ?_
  refine r_getr C dX7_growsOf_35 fl_X7_19 ly_48 rfl ?_
  refine r_iload_n C rfl dX7_growsOf_38 ?_
  refine r_iald C dX7_growsOf_39 ly_52 rfl (by omega) ?_
  refine r_isub C dX7_growsOf_40 ?_
  exact r_iret E dX7_growsOf_41 (pZ_of rfl)
