
def nsd (s : Int) : Int := (1103515245 * s + 12345) % 2147483648
theorem nsd_b (s : Int) : 0 ≤ nsd s ∧ nsd s < 2147483648 := by
  unfold nsd
  omega
theorem lcg_base {s : Int} (h0 : 0 ≤ s) (h1 : s < 2147483648) : ∃ a : Nat, a < 2 ^ 63 ∧ (1103515245 : Int64) * (zI s).toInt64 + 12345 = lN a ∧ nsd s = ((a % 2147483648 : Nat) : Int) := by
  obtain ⟨n, rfl⟩ := Int.eq_ofNat_of_zero_le h0
  refine ⟨1103515245 * n + 12345, by omega, ?_, by unfold nsd; omega⟩
  rw [show zI ((n : Nat) : Int) = nI n from zI_nat n, nI_l (by omega), show (1103515245 : Int64) = lN 1103515245 from rfl, lN_mul, show (12345 : Int64) = lN 12345 from rfl, lN_add]
theorem lcg_fin (a : Nat) : (lN (a % 2147483648)).toInt32 = zI ((a % 2147483648 : Nat) : Int) := by
  rw [lN_i, zI_nat]
  rfl
theorem lcg1 {s : Int} (h0 : 0 ≤ s) (h1 : s < 2147483648) : ((1103515245 : Int64) * (zI s).toInt64 + 12345 - ((1103515245 : Int64) * (zI s).toInt64 + 12345) / 2147483648 * 2147483648).toInt32 = zI (nsd s) := by
  obtain ⟨a, ha, e, e2⟩ := lcg_base h0 h1
  rw [e, e2, show (2147483648 : Int64) = lN 2147483648 from rfl, pk_lRem ha (by decide) (by decide), lcg_fin]
theorem lcg2 {s : Int} (h0 : 0 ≤ s) (h1 : s < 2147483648) : (((1103515245 : Int64) * (zI s).toInt64 + 12345) &&& 2147483647).toInt32 = zI (nsd s) := by
  obtain ⟨a, ha, e, e2⟩ := lcg_base h0 h1
  have h3 : lN a &&& (2147483647 : Int64) = lN (a % 2147483648) := by
    have h4 := Nat.and_two_pow_sub_one_eq_mod a 31
    rw [show (2147483647 : Int64) = Int64.ofNat (2 ^ 31 - 1) from rfl, show (2147483648 : Nat) = 2 ^ 31 from rfl, ← h4]
    apply Int64.toBitVec.inj
    simp [lN, BitVec.ofNat_and]
  rw [e, e2, h3, lcg_fin]
/-- one day of the weeks: grudges, how many, seed -/
def wkS (w pl gr kd : Nat → Int) (n m : Nat) (st : (Nat → Int) × Int × Int) : (Nat → Int) × Int × Int :=
  let p := nsd st.2.2 / 65536 % (n : Int)
  let h := nsd (nsd st.2.2) / 65536 % 4
  let g1 := sl1 gr (if h = 3 then -1 else 3 * p + h) st.1
  (nt kd n g1, st.2.1 + ob (WDc w (fr 4 g1 pl) m), nsd (nsd st.2.2))
def wkN (w pl gr kd : Nat → Int) (n m : Nat) : Nat → (Nat → Int) × Int × Int → (Nat → Int) × Int × Int
  | 0, st => st
  | k + 1, st => wkS w pl gr kd n m (wkN w pl gr kd n m k st)
theorem FA_0 (g p dr dp : Nat → Int) : FA g p 0 dr dp = fr 4 g p := by
  funext q
  simp [FA, fr, sm]

set_option maxRecDepth 10000 in
set_option maxHeartbeats 1000000 in
theorem c_drawX (T : Mm_) {a s : Int} (hs : T.1 41 5 = s) (h0 : 0 ≤ s) (h1 : s < 2147483648) (ha : 0 < a) (ha2 : a ≤ 4) : Cn 0 kX0_draw [.ref 41, .int (zI a)] T (pZ (nsd s / 65536 % a) (mU T 41 5 (nsd s))) := by
  refine Cn.of rfl (Nat.le_of_ble_eq_true rfl) (fun G C E => ?_)
  show G 0 [.ref 41, .int (zI a)] [] T
  have hns := nsd_b s
  have hrd := Int.ediv_nonneg hns.1 (show (0 : Int) ≤ 65536 by decide)
  refine r_aload_n C rfl dX0_draw_0 ?_
  refine r_ldc2 C dX0_draw_1 kc_X0_108 ?_
  refine r_aload_n C rfl dX0_draw_4 ?_
  have e5 : T.1 41 5 = s := hs
  refine r_geti C dX0_draw_5 fl_X0_99 ly_41 rfl ?_
  rw [e5]
  refine r_i2l C dX0_draw_8 ?_
  refine r_lmul C dX0_draw_9 ?_
  refine r_ldc2 C dX0_draw_10 kc_X0_110 ?_
  refine r_ladd C dX0_draw_13 ?_
  refine r_ldc2 C dX0_draw_14 kc_X0_112 ?_
  refine r_lrem C (by decide) dX0_draw_17 ?_
  refine r_l2i C dX0_draw_18 ?_
  rw [lcg1 h0 h1]
  refine r_put C dX0_draw_19 fl_X0_99 rfl (Or.inl rfl) ly_41 rfl ?_
  refine r_iload_n C rfl dX0_draw_22 ?_
  refine r_if_le C (tgt := 38) dX0_draw_23 rfl (by first | assumption | exact rgm (by omega) (by omega)) (fun h23 => absurd h23 (by omega)) (fun h23 => ?_)
  refine r_aload_n C rfl dX0_draw_26 ?_
  refine r_geti C dX0_draw_27 fl_X0_99 ly_41 rfl ?_
  rw [show (mU T 41 5 (nsd s)).1 41 5 = nsd s by simp [mU]]
  refine r_ldc C (z := 65536) dX0_draw_30 kc_X0_114 rfl ?_
  refine r_idiv C (by omega) (by decide) (rgm (by omega) (by omega)) (rgm (by decide) (by decide)) dX0_draw_32 ?_
  refine r_iload_n C rfl dX0_draw_33 ?_
  refine r_irem C (by omega) (by omega) (rgm (by omega) (by omega)) (rgm (by omega) (by omega)) dX0_draw_34 ?_
  refine r_goto C (tgt := 39) dX0_draw_35 rfl ?_
  exact r_iret E dX0_draw_39 ⟨rfl, rfl⟩
set_option maxRecDepth 10000 in
set_option maxHeartbeats 1000000 in
theorem c_runWeeks (M : Mm_) {z seed : Int} {days : Nat} (hz : z = days) (hd : days ≤ 60) (hseed : 0 ≤ seed ∧ seed < 2147483648) (hv : oV M) (hpos : 0 < M.1 3 4) (hf : oF (M.1 9) (M.1 10) (M.1 8 7) (M.1 13) (M.1 14)) : Cn 3 kX0_runWeeks [.ref 41, .ref 3, .ref 8, .int (zI z), .int (zI seed)] M (fun r U => r = none ∧ xS M U ∧ U.1 31 = (wkN (M.1 7) (M.1 10) (M.1 6) (M.1 4) (M.1 3 4).toNat (M.1 3 5).toNat days (M.1 9, 0, seed)).1 ∧ U.1 41 4 = (wkN (M.1 7) (M.1 10) (M.1 6) (M.1 4) (M.1 3 4).toNat (M.1 3 5).toNat days (M.1 9, 0, seed)).2.1 ∧ U.1 41 5 = (wkN (M.1 7) (M.1 10) (M.1 6) (M.1 4) (M.1 3 4).toNat (M.1 3 5).toNat days (M.1 9, 0, seed)).2.2) := by
  refine Cn.of rfl (Nat.le_of_ble_eq_true rfl) (fun G C E => ?_)
  show G 0 [.ref 41, .ref 3, .ref 8, .int (zI z), .int (zI seed), .null, .null, .null] [] M
  have hn := oV_n hv
  have lp : ∀ i : Nat, i ≤ days → ∀ (T : Mm_) (z5 : Int) (v6 v7 : Value) (st : (Nat → Int) × Int × Int), xS M T → tr T st.1 (M.1 10) 0 (M.1 13) (M.1 14) → T.1 41 4 = st.2.1 → T.1 41 5 = st.2.2 → (∀ i, i < 4 → 0 ≤ st.1 i ∧ st.1 i ≤ 99) → (0 ≤ st.2.2 ∧ st.2.2 < 2147483648) → (0 ≤ st.2.1 ∧ st.2.1 ≤ 6 * (i : Int)) → st = wkN (M.1 7) (M.1 10) (M.1 6) (M.1 4) (M.1 3 4).toNat (M.1 3 5).toNat i (M.1 9, 0, seed) → z5 = i → G 30 [.ref 41, .ref 3, .ref 8, .int (zI z), .int (zI seed), .int (zI z5), v6, v7] [] T := by
    refine lpN days ?_ ?_
    · intro T z5 v6 v7 st hS ht hhm hsd hgb hsb hmb hst hz5
      refine r_iload C rfl dX0_runWeeks_30 ?_
      refine r_iload_n C rfl dX0_runWeeks_32 ?_
      refine r_icmp_ge C (tgt := 108) dX0_runWeeks_33 rfl (by first | assumption | exact rgm (by omega) (by omega)) (by first | assumption | exact rgm (by omega) (by omega)) (fun h33 => ?_) (fun h33 => absurd h33 (by omega))
      exact r_vret E dX0_runWeeks_108 ⟨rfl, hS, by rw [← hst]; exact ht.1, by rw [← hst]; exact hhm, by rw [← hst]; exact hsd⟩
    · intro i hi ih T z5 v6 v7 st hS ht hhm hsd hgb hsb hmb hst hz5
      have hn1 := nsd_b st.2.2
      have hn2 := nsd_b (nsd st.2.2)
      obtain ⟨P, hP⟩ : ∃ P, P = nsd st.2.2 / 65536 % M.1 3 4 := ⟨_, rfl⟩
      obtain ⟨Hh, hH⟩ : ∃ Hh, Hh = nsd (nsd st.2.2) / 65536 % 4 := ⟨_, rfl⟩
      have hPb : 0 ≤ P ∧ P < M.1 3 4 := by rw [hP]; exact ⟨Int.emod_nonneg _ (by omega), Int.emod_lt_of_pos _ hpos⟩
      have hHb : 0 ≤ Hh ∧ Hh < 4 := by rw [hH]; exact ⟨Int.emod_nonneg _ (by omega), Int.emod_lt_of_pos _ (by omega)⟩
      obtain ⟨G1, hG1⟩ : ∃ G1, G1 = sl1 (M.1 6) (if Hh = 3 then -1 else 3 * P + Hh) st.1 := ⟨_, rfl⟩
      have hg1b : ∀ i, i < 4 → 0 ≤ G1 i ∧ G1 i ≤ 99 := by
        rw [hG1]
        exact sl1_b hgb (by split; · intro h; omega
                            · exact oV_gr hv (by omega))
      have hf0 : oF st.1 (M.1 10) 0 (M.1 13) (M.1 14) := ⟨hgb, hf.2.1, by omega, hf.2.2.2⟩
      have hWb := WDc_b (M.1 7) (FA G1 (M.1 10) 0 (M.1 13) (M.1 14)) (M.1 3 5).toNat (by omega)
      refine r_iload C rfl dX0_runWeeks_30 ?_
      refine r_iload_n C rfl dX0_runWeeks_32 ?_
      refine r_icmp_ge C (tgt := 108) dX0_runWeeks_33 rfl (by first | assumption | exact rgm (by omega) (by omega)) (by first | assumption | exact rgm (by omega) (by omega)) (fun h33 => absurd h33 (by omega)) (fun h33 => ?_)
      have e34 : T.1 3 4 = M.1 3 4 := by rw [hS.1 3 (by omega)]
      refine r_aload_n C rfl dX0_runWeeks_36 ?_
      refine r_aload_n C rfl dX0_runWeeks_37 ?_
      refine r_geti C dX0_runWeeks_38 fl_X0_102 ly_3 rfl ?_
      rw [e34]
      refine r_cVw C dX0_runWeeks_41 vw_X0_105 (c_drawX T hsd hsb.1 hsb.2 (by omega) (by omega)) (by decide) rfl ly_41 rfl rfl (Nat.le_of_ble_eq_true rfl) ?_
      refine r_istore C dX0_runWeeks_44 6 rfl (by decide) rfl ?_
      dsimp only [List.set, Nat.reduceAdd]
      refine r_aload_n C rfl dX0_runWeeks_46 ?_
      refine r_iconst C dX0_runWeeks_47 ?_
      refine r_cVw C dX0_runWeeks_48 vw_X0_105 (c_drawX (mU T 41 5 (nsd st.2.2)) (s := nsd st.2.2) (by simp [mU]) hn1.1 hn1.2 (by decide) (by decide)) (by decide) rfl ly_41 rfl rfl (Nat.le_of_ble_eq_true rfl) ?_
      refine r_istore C dX0_runWeeks_51 7 rfl (by decide) rfl ?_
      dsimp only [List.set, Nat.reduceAdd]
      rw [← hP, ← hH]
      have hS2 : xS M (mU (mU T 41 5 (nsd st.2.2)) 41 5 (nsd (nsd st.2.2))) := xS_tr (xS_tr hS (xS_U (by omega))) (xS_U (by omega))
      have hg2 : (mU (mU T 41 5 (nsd st.2.2)) 41 5 (nsd (nsd st.2.2))).1 31 = st.1 := by rw [mU_ne (by decide), mU_ne (by decide)]; exact ht.1
      refine r_iload C rfl dX0_runWeeks_53 ?_
      refine r_iconst C dX0_runWeeks_55 ?_
      refine r_icmp_ge C (tgt := 74) dX0_runWeeks_56 rfl (by first | assumption | exact rgm (by omega) (by omega)) (by first | assumption | exact rgm (by omega) (by omega)) (fun h56 => ?_) (fun h56 => ?_)
      · obtain ⟨T3, hT3⟩ : ∃ T3, T3 = (mU (mU T 41 5 (nsd st.2.2)) 41 5 (nsd (nsd st.2.2))) := ⟨_, rfl⟩
        have hS3 : xS M T3 := by rw [hT3]; exact hS2
        have hg3 : T3.1 31 = G1 := by rw [hT3, hG1]; rw [if_pos (by omega), sl1_m]; exact hg2
        have ht3 : tr T3 G1 (M.1 10) 0 (M.1 13) (M.1 14) := by
          refine ⟨hg3, ?_, ?_, ?_, ?_⟩ <;> rw [hT3]
          · rw [mU_ne (by decide), mU_ne (by decide)]; exact ht.2.1
          · rw [mU_ne (by decide), mU_ne (by decide)]; exact ht.2.2.1
          · rw [mU_ne (by decide), mU_ne (by decide)]; exact ht.2.2.2.1
          · rw [mU_ne (by decide), mU_ne (by decide)]; exact ht.2.2.2.2
        have hh3 : T3.1 41 4 = st.2.1 := by rw [hT3]; simp [mU]; exact hhm
        have hsd3 : T3.1 41 5 = nsd (nsd st.2.2) := by rw [hT3]; simp [mU]
        rw [← hT3]
        refine r_aload_n C rfl dX0_runWeeks_74 ?_
        refine r_dup C rfl dX0_runWeeks_75 ?_
        refine r_geti C dX0_runWeeks_76 fl_X0_30 ly_41 rfl ?_
        rw [hh3]
        refine r_aload_n C rfl dX0_runWeeks_79 ?_
        refine r_aload_n C rfl dX0_runWeeks_80 ?_
        refine r_getr C dX0_runWeeks_81 fl_X0_12 ly_41 rfl ?_
        refine r_cVz C dX0_runWeeks_84 vw_X0_47 (c_wouldT (M := M) hS3 ht3 hv (oF_g hf0 hg1b)) (by decide) rfl ly_3 rfl rfl (Nat.le_of_ble_eq_true rfl) ?_
        refine r_cSz C dX0_runWeeks_87 sw_X0_51 (c_bitCount _ hWb.1 hWb.2) (by decide) rfl rfl (Nat.le_of_ble_eq_true rfl) ?_
        refine r_iadd C dX0_runWeeks_90 ?_
        refine r_put C dX0_runWeeks_91 fl_X0_30 rfl (Or.inl rfl) ly_41 rfl ?_
        have hS4 : xS M (mU T3 41 4 (st.2.1 + ob (WDc (M.1 7) (FA G1 (M.1 10) 0 (M.1 13) (M.1 14)) (M.1 3 5).toNat))) := xS_tr hS3 (xS_U (by omega))
        have hg4 : (mU T3 41 4 (st.2.1 + ob (WDc (M.1 7) (FA G1 (M.1 10) 0 (M.1 13) (M.1 14)) (M.1 3 5).toNat))).1 31 = G1 := by rw [mU_ne (by decide)]; exact hg3
        refine r_aload_n C rfl dX0_runWeeks_94 ?_
        refine r_aload_n C rfl dX0_runWeeks_95 ?_
        refine r_getr C dX0_runWeeks_96 fl_X0_12 ly_41 rfl ?_
        refine r_cVv C dX0_runWeeks_99 vw_X0_96 (c_nightT (M := M) (g := G1) hS4 hg4 hv hg1b) (by decide) rfl ly_3 rfl rfl (Nat.le_of_ble_eq_true rfl) ?_
        refine r_iinc C dX0_runWeeks_102 rfl (by decide) rfl ?_
        dsimp only [List.set, Nat.reduceAdd]
        refine r_goto C (tgt := 30) dX0_runWeeks_105 rfl ?_
        have hst2 : wkS (M.1 7) (M.1 10) (M.1 6) (M.1 4) (M.1 3 4).toNat (M.1 3 5).toNat st = (nt (M.1 4) (M.1 3 4).toNat G1, st.2.1 + ob (WDc (M.1 7) (fr 4 G1 (M.1 10)) (M.1 3 5).toNat), nsd (nsd st.2.2)) := by
          unfold wkS
          simp only
          rw [hG1, hP, hH, show ((M.1 3 4).toNat : Int) = M.1 3 4 by omega]
        refine ih _ _ _ _ (wkS (M.1 7) (M.1 10) (M.1 6) (M.1 4) (M.1 3 4).toNat (M.1 3 5).toNat st) (xS_tr hS4 (xS_R (by omega))) ?_ ?_ ?_ (by rw [hst2]; exact nt_b hg1b) (by rw [hst2]; exact nsd_b _) (by rw [hst2]; simp only; have := ob_WD (M.1 7) (fr 4 G1 (M.1 10)) (m := (M.1 3 5).toNat) (by omega); omega) (by rw [hst]; rfl) (by omega)
        · rw [hst2]
          refine ⟨mR_eq, ?_, ?_, ?_, ?_⟩ <;> rw [mR_ne (by decide), mU_ne (by decide)]
          · exact ht3.2.1
          · exact ht3.2.2.1
          · exact ht3.2.2.2.1
          · exact ht3.2.2.2.2
        · rw [hst2, mR_ne (by decide), FA_0]
          simp [mU]
        · rw [hst2, mR_ne (by decide)]
          simp [mU]
          exact hsd3
      · refine r_aload_n C rfl dX0_runWeeks_59 ?_
        refine r_aload_n C rfl dX0_runWeeks_60 ?_
        refine r_getr C dX0_runWeeks_61 fl_X0_12 ly_41 rfl ?_
        refine r_iload C rfl dX0_runWeeks_64 ?_
        refine r_iconst C dX0_runWeeks_66 ?_
        refine r_imul C dX0_runWeeks_67 ?_
        refine r_iload C rfl dX0_runWeeks_68 ?_
        refine r_iadd C dX0_runWeeks_70 ?_
        refine r_cVv C dX0_runWeeks_71 vw_X0_57 (c_offendT (M := M) (g := st.1) hS2 hg2 (by omega) (by omega) hv hgb) (by decide) rfl ly_3 rfl rfl (Nat.le_of_ble_eq_true rfl) ?_
        obtain ⟨T3, hT3⟩ : ∃ T3, T3 = (mR (mU (mU T 41 5 (nsd st.2.2)) 41 5 (nsd (nsd st.2.2))) 31 (sl1 (M.1 6) (P * 3 + Hh) st.1)) := ⟨_, rfl⟩
        have hS3 : xS M T3 := by rw [hT3]; exact xS_tr hS2 (xS_R (by omega))
        have hg3 : T3.1 31 = G1 := by rw [hT3, hG1]; rw [mR_eq, if_neg (by omega)]; congr 1; omega
        have ht3 : tr T3 G1 (M.1 10) 0 (M.1 13) (M.1 14) := by
          refine ⟨hg3, ?_, ?_, ?_, ?_⟩ <;> rw [hT3]
          · rw [mR_ne (by decide), mU_ne (by decide), mU_ne (by decide)]; exact ht.2.1
          · rw [mR_ne (by decide), mU_ne (by decide), mU_ne (by decide)]; exact ht.2.2.1
          · rw [mR_ne (by decide), mU_ne (by decide), mU_ne (by decide)]; exact ht.2.2.2.1
          · rw [mR_ne (by decide), mU_ne (by decide), mU_ne (by decide)]; exact ht.2.2.2.2
        have hh3 : T3.1 41 4 = st.2.1 := by rw [hT3]; rw [mR_ne (by decide)]; simp [mU]; exact hhm
        have hsd3 : T3.1 41 5 = nsd (nsd st.2.2) := by rw [hT3]; rw [mR_ne (by decide)]; simp [mU]
        rw [← hT3]
        refine r_aload_n C rfl dX0_runWeeks_74 ?_
        refine r_dup C rfl dX0_runWeeks_75 ?_
        refine r_geti C dX0_runWeeks_76 fl_X0_30 ly_41 rfl ?_
        rw [hh3]
        refine r_aload_n C rfl dX0_runWeeks_79 ?_
        refine r_aload_n C rfl dX0_runWeeks_80 ?_
        refine r_getr C dX0_runWeeks_81 fl_X0_12 ly_41 rfl ?_
        refine r_cVz C dX0_runWeeks_84 vw_X0_47 (c_wouldT (M := M) hS3 ht3 hv (oF_g hf0 hg1b)) (by decide) rfl ly_3 rfl rfl (Nat.le_of_ble_eq_true rfl) ?_
        refine r_cSz C dX0_runWeeks_87 sw_X0_51 (c_bitCount _ hWb.1 hWb.2) (by decide) rfl rfl (Nat.le_of_ble_eq_true rfl) ?_
        refine r_iadd C dX0_runWeeks_90 ?_
        refine r_put C dX0_runWeeks_91 fl_X0_30 rfl (Or.inl rfl) ly_41 rfl ?_
        have hS4 : xS M (mU T3 41 4 (st.2.1 + ob (WDc (M.1 7) (FA G1 (M.1 10) 0 (M.1 13) (M.1 14)) (M.1 3 5).toNat))) := xS_tr hS3 (xS_U (by omega))
        have hg4 : (mU T3 41 4 (st.2.1 + ob (WDc (M.1 7) (FA G1 (M.1 10) 0 (M.1 13) (M.1 14)) (M.1 3 5).toNat))).1 31 = G1 := by rw [mU_ne (by decide)]; exact hg3
        refine r_aload_n C rfl dX0_runWeeks_94 ?_
        refine r_aload_n C rfl dX0_runWeeks_95 ?_
        refine r_getr C dX0_runWeeks_96 fl_X0_12 ly_41 rfl ?_
        refine r_cVv C dX0_runWeeks_99 vw_X0_96 (c_nightT (M := M) (g := G1) hS4 hg4 hv hg1b) (by decide) rfl ly_3 rfl rfl (Nat.le_of_ble_eq_true rfl) ?_
        refine r_iinc C dX0_runWeeks_102 rfl (by decide) rfl ?_
        dsimp only [List.set, Nat.reduceAdd]
        refine r_goto C (tgt := 30) dX0_runWeeks_105 rfl ?_
        have hst2 : wkS (M.1 7) (M.1 10) (M.1 6) (M.1 4) (M.1 3 4).toNat (M.1 3 5).toNat st = (nt (M.1 4) (M.1 3 4).toNat G1, st.2.1 + ob (WDc (M.1 7) (fr 4 G1 (M.1 10)) (M.1 3 5).toNat), nsd (nsd st.2.2)) := by
          unfold wkS
          simp only
          rw [hG1, hP, hH, show ((M.1 3 4).toNat : Int) = M.1 3 4 by omega]
        refine ih _ _ _ _ (wkS (M.1 7) (M.1 10) (M.1 6) (M.1 4) (M.1 3 4).toNat (M.1 3 5).toNat st) (xS_tr hS4 (xS_R (by omega))) ?_ ?_ ?_ (by rw [hst2]; exact nt_b hg1b) (by rw [hst2]; exact nsd_b _) (by rw [hst2]; simp only; have := ob_WD (M.1 7) (fr 4 G1 (M.1 10)) (m := (M.1 3 5).toNat) (by omega); omega) (by rw [hst]; rfl) (by omega)
        · rw [hst2]
          refine ⟨mR_eq, ?_, ?_, ?_, ?_⟩ <;> rw [mR_ne (by decide), mU_ne (by decide)]
          · exact ht3.2.1
          · exact ht3.2.2.1
          · exact ht3.2.2.2.1
          · exact ht3.2.2.2.2
        · rw [hst2, mR_ne (by decide), FA_0]
          simp [mU]
        · rw [hst2, mR_ne (by decide)]
          simp [mU]
          exact hsd3
  refine r_aload_n C rfl dX0_runWeeks_0 ?_
  refine r_getr C dX0_runWeeks_1 fl_X0_12 ly_41 rfl ?_
  refine r_aload_n C rfl dX0_runWeeks_4 ?_
  refine r_callV C dX0_runWeeks_5 vw_X0_40 (c_copyT2 (T := M) xS_rf) (by decide) rfl ly_30 rfl rfl (Nat.le_of_ble_eq_true rfl) ?_
  intro r T1 h1
  obtain ⟨rfl, hS1, ht1, h41a⟩ := h1
  refine r_aload_n C rfl dX0_runWeeks_8 ?_
  refine r_getr C dX0_runWeeks_9 fl_X0_12 ly_41 rfl ?_
  refine r_iconst C dX0_runWeeks_12 ?_
  refine r_put C dX0_runWeeks_13 fl_X0_86 rfl (Or.inl rfl) ly_30 rfl ?_
  refine r_aload_n C rfl dX0_runWeeks_16 ?_
  refine r_iconst C dX0_runWeeks_17 ?_
  refine r_put C dX0_runWeeks_18 fl_X0_30 rfl (Or.inl rfl) ly_41 rfl ?_
  refine r_aload_n C rfl dX0_runWeeks_21 ?_
  refine r_iload C rfl dX0_runWeeks_22 ?_
  refine r_put C dX0_runWeeks_24 fl_X0_99 rfl (Or.inl rfl) ly_41 rfl ?_
  refine r_iconst C dX0_runWeeks_27 ?_
  refine r_istore C dX0_runWeeks_28 5 rfl (by decide) rfl ?_
  dsimp only [List.set, Nat.reduceAdd]
  refine lp 0 (Nat.zero_le _) _ _ _ _ (M.1 9, 0, seed) (xS_tr (xS_tr (xS_tr hS1 (xS_U (by omega))) (xS_U (by omega))) (xS_U (by omega))) ?_ (by simp [mU]) (by simp [mU]) hf.1 hseed (by simp) rfl rfl
  refine ⟨?_, ?_, ?_, ?_, ?_⟩
  · rw [mU_ne (by decide), mU_ne (by decide), mU_ne (by decide)]; exact ht1.1
  · rw [mU_ne (by decide), mU_ne (by decide), mU_ne (by decide)]; exact ht1.2.1
  · rw [mU_ne (by decide), mU_ne (by decide)]; simp [mU]
  · rw [mU_ne (by decide), mU_ne (by decide), mU_ne (by decide)]; exact ht1.2.2.2.1
  · rw [mU_ne (by decide), mU_ne (by decide), mU_ne (by decide)]; exact ht1.2.2.2.2
