
theorem hd4_0 (bo : Nat → Int) : hd4 bo 0 = 0 := by
  unfold hd4
  simp [sm, bt]
theorem bw_neg (bo : Nat → Int) (hb : ∀ i, i < 4 → 0 ≤ bo i ∧ bo i ≤ 99) {lack : Int} (hl : lack ≤ 0) : ∀ n, n < 16 → bw bo lack (n + 1) = 0
  | 0, _ => by
    unfold bw
    have h0 := hd4_0 bo
    rw [if_pos]
    · rfl
    · refine ⟨⟨?_, by rw [show ((0 : Nat) : Int) = 0 from rfl, h0]; exact hl⟩, Or.inl rfl⟩
      exact decide_eq_true (fun i _ h => absurd h (by simp [bt]))
  | n + 1, hn => by
    have ih := bw_neg bo hb hl n (by omega)
    rw [show bw bo lack (n + 1 + 1) = if (subB bo ((n + 1 : Nat) : Int) = true ∧ lack ≤ hd4 bo ((n + 1 : Nat) : Int)) ∧ (bw bo lack (n + 1) = -1 ∨ cst bo ((n + 1 : Nat) : Int) < cst bo (bw bo lack (n + 1))) then ((n + 1 : Nat) : Int) else bw bo lack (n + 1) from rfl, ih]
    rw [if_neg]
    intro h
    rcases h.2 with q | q
    · exact absurd q (by decide)
    · have h1 := hd4_b (z := ((n + 1 : Nat) : Int)) hb
      have h2 := ob_b (z := ((n + 1 : Nat) : Int)) (by omega) (by omega)
      have h3 := hd4_0 bo
      have h4 : ob 0 = 0 := rfl
      unfold cst at q
      omega
theorem bw_top (bo : Nat → Int) (lack : Int) : ∀ n : Nat, (fb4 bo).toNat + 1 ≤ n → n ≤ 16 → bw bo lack n = bw bo lack ((fb4 bo).toNat + 1)
  | 0, h, _ => absurd h (by omega)
  | n + 1, h, hn => by
    rcases (show (fb4 bo).toNat = n ∨ (fb4 bo).toNat + 1 ≤ n by omega) with q | q
    · rw [q]
    · rw [← bw_top bo lack n q (by omega)]
      have h1 := an_sub bo (n := n) (by omega)
      have h2 := fb4_b bo
      rw [show bw bo lack (n + 1) = if (subB bo n = true ∧ lack ≤ hd4 bo n) ∧ (bw bo lack n = -1 ∨ cst bo n < cst bo (bw bo lack n)) then (n : Int) else bw bo lack n from rfl, if_neg]
      intro h3
      have := h1.2 (h1.1.mpr h3.1.1)
      omega
theorem bw_vPour (bo : Nat → Int) (hb : ∀ i, i < 4 → 0 ≤ bo i ∧ bo i ≤ 99) (w f : Int) : bw bo (w - f) 16 = vPour w bo f := by
  unfold vPour
  split
  · exact bw_neg bo hb (by assumption) 15 (by omega)
  · have := fb4_b bo
    exact bw_top bo _ 16 (by omega) (by omega)

set_option maxRecDepth 10000 in
set_option maxHeartbeats 1000000 in
theorem c_pourOf (M : Mm_) {k : Nat} (hk : (k : Int) < M.1 48 4) (hM : oM M) : Cn 3 kX7_pourOf [.ref 48, .int (zI (k : Int))] M (pZ (bw (M.1 55) (M.1 53 k - fM M 52 true (k : Int)) 16) M) := by
  obtain ⟨hpg, hv, hrw, hf, hg, hse, hbo, hst, hni⟩ := hM
  have hv0 : (M.1 48 3 = 0 ∧ M.1 48 4 = 0) ∨ (2 ≤ M.1 48 3 ∧ M.1 48 3 ≤ 4 ∧ 2 ≤ M.1 48 4 ∧ M.1 48 4 ≤ 6) := hv
  have hwk := hf.2.2.2 k (by omega)
  have hF := fM_b hv hf hg true (k : Int)
  obtain ⟨lk, elk⟩ : ∃ lk, (M.1 53 k - fM M 52 true (k : Int)) = lk := ⟨_, rfl⟩
  have hlk : -1000 ≤ lk ∧ lk ≤ 1000 := by omega
  rw [elk]
  refine Cn.of rfl (Nat.le_of_ble_eq_true rfl) (fun G C E => ?_)
  show G 0 [.ref 48, .int (zI (k : Int)), .null, .null, .null, .null, .null, .null] [] M
  have lp : ∀ i : Nat, i ≤ 16 → ∀ (b z : Int) (v5 v6 v7 : Value), b = bw (M.1 55) lk i → z = i → G 18 [.ref 48, .int (zI (k : Int)), .int (zI b), .int (zI lk), .int (zI z), v5, v6, v7] [] M := by
    refine lpN 16 ?_ ?_
    · intro b z v5 v6 v7 hb hz
      refine r_iload C rfl dX7_pourOf_18 ?_
      refine r_bipush C rfl dX7_pourOf_20 ?_
      refine r_icmp_ge C (tgt := 146) dX7_pourOf_22 rfl (by first | assumption | exact rgm (by omega) (by omega)) (by first | assumption | exact rgm (by omega) (by omega)) (fun h22 => ?_) (fun h22 => absurd h22 (by omega))
      refine r_iload_n C rfl dX7_pourOf_146 ?_
      exact r_iret E dX7_pourOf_147 (pZ_of hb)
    · intro i hi ih b z v5 v6 v7 hb hz
      have hbb := bw_b (M.1 55) lk i
      subst hz
      have hc1 : cst (M.1 55) (i : Int) = 1000 * ob (i : Int) + hd4 (M.1 55) (i : Int) := rfl
      have hc2 : cst (M.1 55) (bw (M.1 55) lk i) = 1000 * ob (bw (M.1 55) lk i) + hd4 (M.1 55) (bw (M.1 55) lk i) := rfl
      have hd1 := hd4_b (z := (i : Int)) hbo
      have hd2 := hd4_b (z := bw (M.1 55) lk i) hbo
      have ho1 := ob_b (z := (i : Int)) (by omega) (by omega)
      rw [← hb] at hbb hc2 hd2
      have ho2 : b ≠ -1 → 0 ≤ ob b ∧ ob b ≤ 6 := fun h => ob_b (by omega) (by omega)
      refine r_iload C rfl dX7_pourOf_18 ?_
      refine r_bipush C rfl dX7_pourOf_20 ?_
      refine r_icmp_ge C (tgt := 146) dX7_pourOf_22 rfl (by first | assumption | exact rgm (by omega) (by omega)) (by first | assumption | exact rgm (by omega) (by omega)) (fun h22 => absurd h22 (by omega)) (fun h22 => ?_)
      refine r_aload_n C rfl dX7_pourOf_25 ?_
      refine r_iload C rfl dX7_pourOf_26 ?_
      refine r_cVb C dX7_pourOf_28 vw_X7_199 (c_isOfFull M (by omega) (by omega) hbo) (by decide) rfl ly_48 rfl rfl (Nat.le_of_ble_eq_true rfl) (fun h28 => ?_) (fun h28 => ?_)
      · refine r_if_eq C (tgt := 48) dX7_pourOf_31 rfl (by first | assumption | exact rgm (by omega) (by omega)) (fun h31 => absurd h31 (by decide)) (fun h31 => ?_)
        refine r_aload_n C rfl dX7_pourOf_34 ?_
        refine r_iload C rfl dX7_pourOf_35 ?_
        refine r_cVz C dX7_pourOf_37 vw_X7_202 (c_inBottles M (by omega) (by omega)) (by decide) rfl ly_48 rfl rfl (Nat.le_of_ble_eq_true rfl) ?_
        refine r_iload_n C rfl dX7_pourOf_40 ?_
        refine r_icmp_lt C (tgt := 48) dX7_pourOf_41 rfl (by first | assumption | exact rgm (by omega) (by omega)) (by first | assumption | exact rgm (by omega) (by omega)) (fun h41 => ?_) (fun h41 => ?_)
        · refine r_iconst C dX7_pourOf_48 ?_
          refine r_istore C dX7_pourOf_49 5 rfl (by decide) rfl ?_
          dsimp only [List.set, Nat.reduceAdd]
          refine r_iload_n C rfl dX7_pourOf_51 ?_
          refine r_iconst C dX7_pourOf_52 ?_
          refine r_icmp_eq C (tgt := 72) dX7_pourOf_53 rfl (by first | assumption | exact rgm (by omega) (by omega)) (by first | assumption | exact rgm (by omega) (by omega)) (fun h53 => ?_) (fun h53 => ?_)
          · refine r_iconst C dX7_pourOf_72 ?_
            refine r_istore C dX7_pourOf_73 6 rfl (by decide) rfl ?_
            dsimp only [List.set, Nat.reduceAdd]
            refine r_iload_n C rfl dX7_pourOf_75 ?_
            refine r_iconst C dX7_pourOf_76 ?_
            refine r_icmp_eq C (tgt := 110) dX7_pourOf_77 rfl (by first | assumption | exact rgm (by omega) (by omega)) (by first | assumption | exact rgm (by omega) (by omega)) (fun h77 => ?_) (fun h77 => absurd h77 (by omega))
            refine r_iconst C dX7_pourOf_110 ?_
            refine r_istore C dX7_pourOf_111 7 rfl (by decide) rfl ?_
            dsimp only [List.set, Nat.reduceAdd]
            refine r_iload C rfl dX7_pourOf_113 ?_
            refine r_if_eq C (tgt := 138) dX7_pourOf_115 rfl (by first | assumption | exact rgm (by omega) (by omega)) (fun h115 => ?_) (fun h115 => absurd h115 (by decide))
            refine r_iload_n C rfl dX7_pourOf_138 ?_
            refine r_istore_n C dX7_pourOf_139 2 rfl (by decide) rfl ?_
            dsimp only [List.set, Nat.reduceAdd]
            refine r_iinc C dX7_pourOf_140 rfl (by decide) rfl ?_
            dsimp only [List.set, Nat.reduceAdd]
            refine r_goto C (tgt := 18) dX7_pourOf_143 rfl ?_
            exact ih _ _ _ _ _ (by unfold bw; rw [← hb, if_neg (fun q => absurd q.1.2 (by omega))]) (by omega)
          · refine r_iload C rfl dX7_pourOf_56 ?_
            refine r_cSz C dX7_pourOf_58 sw_X7_169 (c_ones M (by omega) (by omega)) (by decide) rfl rfl (Nat.le_of_ble_eq_true rfl) ?_
            have ho3 := ho2 (by omega)
            refine r_iload_n C rfl dX7_pourOf_61 ?_
            refine r_cSz C dX7_pourOf_62 sw_X7_169 (c_ones M (by omega) (by omega)) (by decide) rfl rfl (Nat.le_of_ble_eq_true rfl) ?_
            refine r_icmp_ge C (tgt := 72) dX7_pourOf_65 rfl (by first | assumption | exact rgm (by omega) (by omega)) (by first | assumption | exact rgm (by omega) (by omega)) (fun h65 => ?_) (fun h65 => ?_)
            · refine r_iconst C dX7_pourOf_72 ?_
              refine r_istore C dX7_pourOf_73 6 rfl (by decide) rfl ?_
              dsimp only [List.set, Nat.reduceAdd]
              refine r_iload_n C rfl dX7_pourOf_75 ?_
              refine r_iconst C dX7_pourOf_76 ?_
              refine r_icmp_eq C (tgt := 110) dX7_pourOf_77 rfl (by first | assumption | exact rgm (by omega) (by omega)) (by first | assumption | exact rgm (by omega) (by omega)) (fun h77 => absurd h77 (by omega)) (fun h77 => ?_)
              refine r_iload C rfl dX7_pourOf_80 ?_
              refine r_cSz C dX7_pourOf_82 sw_X7_169 (c_ones M (by omega) (by omega)) (by decide) rfl rfl (Nat.le_of_ble_eq_true rfl) ?_
              refine r_iload_n C rfl dX7_pourOf_85 ?_
              refine r_cSz C dX7_pourOf_86 sw_X7_169 (c_ones M (by omega) (by omega)) (by decide) rfl rfl (Nat.le_of_ble_eq_true rfl) ?_
              refine r_icmp_ne C (tgt := 110) dX7_pourOf_89 rfl (by first | assumption | exact rgm (by omega) (by omega)) (by first | assumption | exact rgm (by omega) (by omega)) (fun h89 => ?_) (fun h89 => ?_)
              · refine r_iconst C dX7_pourOf_110 ?_
                refine r_istore C dX7_pourOf_111 7 rfl (by decide) rfl ?_
                dsimp only [List.set, Nat.reduceAdd]
                refine r_iload C rfl dX7_pourOf_113 ?_
                refine r_if_eq C (tgt := 138) dX7_pourOf_115 rfl (by first | assumption | exact rgm (by omega) (by omega)) (fun h115 => ?_) (fun h115 => absurd h115 (by decide))
                refine r_iload_n C rfl dX7_pourOf_138 ?_
                refine r_istore_n C dX7_pourOf_139 2 rfl (by decide) rfl ?_
                dsimp only [List.set, Nat.reduceAdd]
                refine r_iinc C dX7_pourOf_140 rfl (by decide) rfl ?_
                dsimp only [List.set, Nat.reduceAdd]
                refine r_goto C (tgt := 18) dX7_pourOf_143 rfl ?_
                exact ih _ _ _ _ _ (by unfold bw; rw [← hb, if_neg (fun q => absurd q.1.2 (by omega))]) (by omega)
              · refine r_aload_n C rfl dX7_pourOf_92 ?_
                refine r_iload C rfl dX7_pourOf_93 ?_
                refine r_cVz C dX7_pourOf_95 vw_X7_202 (c_inBottles M (by omega) (by omega)) (by decide) rfl ly_48 rfl rfl (Nat.le_of_ble_eq_true rfl) ?_
                refine r_aload_n C rfl dX7_pourOf_98 ?_
                refine r_iload_n C rfl dX7_pourOf_99 ?_
                refine r_cVz C dX7_pourOf_100 vw_X7_202 (c_inBottles M (by omega) (by omega)) (by decide) rfl ly_48 rfl rfl (Nat.le_of_ble_eq_true rfl) ?_
                refine r_icmp_ge C (tgt := 110) dX7_pourOf_103 rfl (by first | assumption | exact rgm (by omega) (by omega)) (by first | assumption | exact rgm (by omega) (by omega)) (fun h103 => ?_) (fun h103 => ?_)
                · refine r_iconst C dX7_pourOf_110 ?_
                  refine r_istore C dX7_pourOf_111 7 rfl (by decide) rfl ?_
                  dsimp only [List.set, Nat.reduceAdd]
                  refine r_iload C rfl dX7_pourOf_113 ?_
                  refine r_if_eq C (tgt := 138) dX7_pourOf_115 rfl (by first | assumption | exact rgm (by omega) (by omega)) (fun h115 => ?_) (fun h115 => absurd h115 (by decide))
                  refine r_iload_n C rfl dX7_pourOf_138 ?_
                  refine r_istore_n C dX7_pourOf_139 2 rfl (by decide) rfl ?_
                  dsimp only [List.set, Nat.reduceAdd]
                  refine r_iinc C dX7_pourOf_140 rfl (by decide) rfl ?_
                  dsimp only [List.set, Nat.reduceAdd]
                  refine r_goto C (tgt := 18) dX7_pourOf_143 rfl ?_
                  exact ih _ _ _ _ _ (by unfold bw; rw [← hb, if_neg (fun q => absurd q.1.2 (by omega))]) (by omega)
                · refine r_iconst C dX7_pourOf_106 ?_
                  refine r_goto C (tgt := 111) dX7_pourOf_107 rfl ?_
                  refine r_istore C dX7_pourOf_111 7 rfl (by decide) rfl ?_
                  dsimp only [List.set, Nat.reduceAdd]
                  refine r_iload C rfl dX7_pourOf_113 ?_
                  refine r_if_eq C (tgt := 138) dX7_pourOf_115 rfl (by first | assumption | exact rgm (by omega) (by omega)) (fun h115 => ?_) (fun h115 => absurd h115 (by decide))
                  refine r_iload_n C rfl dX7_pourOf_138 ?_
                  refine r_istore_n C dX7_pourOf_139 2 rfl (by decide) rfl ?_
                  dsimp only [List.set, Nat.reduceAdd]
                  refine r_iinc C dX7_pourOf_140 rfl (by decide) rfl ?_
                  dsimp only [List.set, Nat.reduceAdd]
                  refine r_goto C (tgt := 18) dX7_pourOf_143 rfl ?_
                  exact ih _ _ _ _ _ (by unfold bw; rw [← hb, if_neg (fun q => absurd q.1.2 (by omega))]) (by omega)
            · refine r_iconst C dX7_pourOf_68 ?_
              refine r_goto C (tgt := 73) dX7_pourOf_69 rfl ?_
              refine r_istore C dX7_pourOf_73 6 rfl (by decide) rfl ?_
              dsimp only [List.set, Nat.reduceAdd]
              refine r_iload_n C rfl dX7_pourOf_75 ?_
              refine r_iconst C dX7_pourOf_76 ?_
              refine r_icmp_eq C (tgt := 110) dX7_pourOf_77 rfl (by first | assumption | exact rgm (by omega) (by omega)) (by first | assumption | exact rgm (by omega) (by omega)) (fun h77 => absurd h77 (by omega)) (fun h77 => ?_)
              refine r_iload C rfl dX7_pourOf_80 ?_
              refine r_cSz C dX7_pourOf_82 sw_X7_169 (c_ones M (by omega) (by omega)) (by decide) rfl rfl (Nat.le_of_ble_eq_true rfl) ?_
              refine r_iload_n C rfl dX7_pourOf_85 ?_
              refine r_cSz C dX7_pourOf_86 sw_X7_169 (c_ones M (by omega) (by omega)) (by decide) rfl rfl (Nat.le_of_ble_eq_true rfl) ?_
              refine r_icmp_ne C (tgt := 110) dX7_pourOf_89 rfl (by first | assumption | exact rgm (by omega) (by omega)) (by first | assumption | exact rgm (by omega) (by omega)) (fun h89 => ?_) (fun h89 => ?_)
              · refine r_iconst C dX7_pourOf_110 ?_
                refine r_istore C dX7_pourOf_111 7 rfl (by decide) rfl ?_
                dsimp only [List.set, Nat.reduceAdd]
                refine r_iload C rfl dX7_pourOf_113 ?_
                refine r_if_eq C (tgt := 138) dX7_pourOf_115 rfl (by first | assumption | exact rgm (by omega) (by omega)) (fun h115 => ?_) (fun h115 => absurd h115 (by decide))
                refine r_iload_n C rfl dX7_pourOf_138 ?_
                refine r_istore_n C dX7_pourOf_139 2 rfl (by decide) rfl ?_
                dsimp only [List.set, Nat.reduceAdd]
                refine r_iinc C dX7_pourOf_140 rfl (by decide) rfl ?_
                dsimp only [List.set, Nat.reduceAdd]
                refine r_goto C (tgt := 18) dX7_pourOf_143 rfl ?_
                exact ih _ _ _ _ _ (by unfold bw; rw [← hb, if_neg (fun q => absurd q.1.2 (by omega))]) (by omega)
              · refine r_aload_n C rfl dX7_pourOf_92 ?_
                refine r_iload C rfl dX7_pourOf_93 ?_
                refine r_cVz C dX7_pourOf_95 vw_X7_202 (c_inBottles M (by omega) (by omega)) (by decide) rfl ly_48 rfl rfl (Nat.le_of_ble_eq_true rfl) ?_
                refine r_aload_n C rfl dX7_pourOf_98 ?_
                refine r_iload_n C rfl dX7_pourOf_99 ?_
                refine r_cVz C dX7_pourOf_100 vw_X7_202 (c_inBottles M (by omega) (by omega)) (by decide) rfl ly_48 rfl rfl (Nat.le_of_ble_eq_true rfl) ?_
                refine r_icmp_ge C (tgt := 110) dX7_pourOf_103 rfl (by first | assumption | exact rgm (by omega) (by omega)) (by first | assumption | exact rgm (by omega) (by omega)) (fun h103 => ?_) (fun h103 => ?_)
                · refine r_iconst C dX7_pourOf_110 ?_
                  refine r_istore C dX7_pourOf_111 7 rfl (by decide) rfl ?_
                  dsimp only [List.set, Nat.reduceAdd]
                  refine r_iload C rfl dX7_pourOf_113 ?_
                  refine r_if_eq C (tgt := 138) dX7_pourOf_115 rfl (by first | assumption | exact rgm (by omega) (by omega)) (fun h115 => ?_) (fun h115 => absurd h115 (by decide))
                  refine r_iload_n C rfl dX7_pourOf_138 ?_
                  refine r_istore_n C dX7_pourOf_139 2 rfl (by decide) rfl ?_
                  dsimp only [List.set, Nat.reduceAdd]
                  refine r_iinc C dX7_pourOf_140 rfl (by decide) rfl ?_
                  dsimp only [List.set, Nat.reduceAdd]
                  refine r_goto C (tgt := 18) dX7_pourOf_143 rfl ?_
                  exact ih _ _ _ _ _ (by unfold bw; rw [← hb, if_neg (fun q => absurd q.1.2 (by omega))]) (by omega)
                · refine r_iconst C dX7_pourOf_106 ?_
                  refine r_goto C (tgt := 111) dX7_pourOf_107 rfl ?_
                  refine r_istore C dX7_pourOf_111 7 rfl (by decide) rfl ?_
                  dsimp only [List.set, Nat.reduceAdd]
                  refine r_iload C rfl dX7_pourOf_113 ?_
                  refine r_if_eq C (tgt := 138) dX7_pourOf_115 rfl (by first | assumption | exact rgm (by omega) (by omega)) (fun h115 => ?_) (fun h115 => absurd h115 (by decide))
                  refine r_iload_n C rfl dX7_pourOf_138 ?_
                  refine r_istore_n C dX7_pourOf_139 2 rfl (by decide) rfl ?_
                  dsimp only [List.set, Nat.reduceAdd]
                  refine r_iinc C dX7_pourOf_140 rfl (by decide) rfl ?_
                  dsimp only [List.set, Nat.reduceAdd]
                  refine r_goto C (tgt := 18) dX7_pourOf_143 rfl ?_
                  exact ih _ _ _ _ _ (by unfold bw; rw [← hb, if_neg (fun q => absurd q.1.2 (by omega))]) (by omega)
        · refine r_iconst C dX7_pourOf_44 ?_
          refine r_goto C (tgt := 49) dX7_pourOf_45 rfl ?_
          refine r_istore C dX7_pourOf_49 5 rfl (by decide) rfl ?_
          dsimp only [List.set, Nat.reduceAdd]
          refine r_iload_n C rfl dX7_pourOf_51 ?_
          refine r_iconst C dX7_pourOf_52 ?_
          refine r_icmp_eq C (tgt := 72) dX7_pourOf_53 rfl (by first | assumption | exact rgm (by omega) (by omega)) (by first | assumption | exact rgm (by omega) (by omega)) (fun h53 => ?_) (fun h53 => ?_)
          · refine r_iconst C dX7_pourOf_72 ?_
            refine r_istore C dX7_pourOf_73 6 rfl (by decide) rfl ?_
            dsimp only [List.set, Nat.reduceAdd]
            refine r_iload_n C rfl dX7_pourOf_75 ?_
            refine r_iconst C dX7_pourOf_76 ?_
            refine r_icmp_eq C (tgt := 110) dX7_pourOf_77 rfl (by first | assumption | exact rgm (by omega) (by omega)) (by first | assumption | exact rgm (by omega) (by omega)) (fun h77 => ?_) (fun h77 => absurd h77 (by omega))
            refine r_iconst C dX7_pourOf_110 ?_
            refine r_istore C dX7_pourOf_111 7 rfl (by decide) rfl ?_
            dsimp only [List.set, Nat.reduceAdd]
            refine r_iload C rfl dX7_pourOf_113 ?_
            refine r_if_eq C (tgt := 138) dX7_pourOf_115 rfl (by first | assumption | exact rgm (by omega) (by omega)) (fun h115 => absurd h115 (by decide)) (fun h115 => ?_)
            refine r_iload_n C rfl dX7_pourOf_118 ?_
            refine r_iconst C dX7_pourOf_119 ?_
            refine r_icmp_eq C (tgt := 133) dX7_pourOf_120 rfl (by first | assumption | exact rgm (by omega) (by omega)) (by first | assumption | exact rgm (by omega) (by omega)) (fun h120 => ?_) (fun h120 => absurd h120 (by omega))
            refine r_iload C rfl dX7_pourOf_133 ?_
            refine r_goto C (tgt := 139) dX7_pourOf_135 rfl ?_
            refine r_istore_n C dX7_pourOf_139 2 rfl (by decide) rfl ?_
            dsimp only [List.set, Nat.reduceAdd]
            refine r_iinc C dX7_pourOf_140 rfl (by decide) rfl ?_
            dsimp only [List.set, Nat.reduceAdd]
            refine r_goto C (tgt := 18) dX7_pourOf_143 rfl ?_
            exact ih _ _ _ _ _ (by unfold bw; rw [← hb, if_pos (show _ from ⟨⟨h28, by omega⟩, Or.inl (by omega)⟩)]) (by omega)
          · refine r_iload C rfl dX7_pourOf_56 ?_
            refine r_cSz C dX7_pourOf_58 sw_X7_169 (c_ones M (by omega) (by omega)) (by decide) rfl rfl (Nat.le_of_ble_eq_true rfl) ?_
            have ho3 := ho2 (by omega)
            refine r_iload_n C rfl dX7_pourOf_61 ?_
            refine r_cSz C dX7_pourOf_62 sw_X7_169 (c_ones M (by omega) (by omega)) (by decide) rfl rfl (Nat.le_of_ble_eq_true rfl) ?_
            refine r_icmp_ge C (tgt := 72) dX7_pourOf_65 rfl (by first | assumption | exact rgm (by omega) (by omega)) (by first | assumption | exact rgm (by omega) (by omega)) (fun h65 => ?_) (fun h65 => ?_)
            · refine r_iconst C dX7_pourOf_72 ?_
              refine r_istore C dX7_pourOf_73 6 rfl (by decide) rfl ?_
              dsimp only [List.set, Nat.reduceAdd]
              refine r_iload_n C rfl dX7_pourOf_75 ?_
              refine r_iconst C dX7_pourOf_76 ?_
              refine r_icmp_eq C (tgt := 110) dX7_pourOf_77 rfl (by first | assumption | exact rgm (by omega) (by omega)) (by first | assumption | exact rgm (by omega) (by omega)) (fun h77 => absurd h77 (by omega)) (fun h77 => ?_)
              refine r_iload C rfl dX7_pourOf_80 ?_
              refine r_cSz C dX7_pourOf_82 sw_X7_169 (c_ones M (by omega) (by omega)) (by decide) rfl rfl (Nat.le_of_ble_eq_true rfl) ?_
              refine r_iload_n C rfl dX7_pourOf_85 ?_
              refine r_cSz C dX7_pourOf_86 sw_X7_169 (c_ones M (by omega) (by omega)) (by decide) rfl rfl (Nat.le_of_ble_eq_true rfl) ?_
              refine r_icmp_ne C (tgt := 110) dX7_pourOf_89 rfl (by first | assumption | exact rgm (by omega) (by omega)) (by first | assumption | exact rgm (by omega) (by omega)) (fun h89 => ?_) (fun h89 => ?_)
              · refine r_iconst C dX7_pourOf_110 ?_
                refine r_istore C dX7_pourOf_111 7 rfl (by decide) rfl ?_
                dsimp only [List.set, Nat.reduceAdd]
                refine r_iload C rfl dX7_pourOf_113 ?_
                refine r_if_eq C (tgt := 138) dX7_pourOf_115 rfl (by first | assumption | exact rgm (by omega) (by omega)) (fun h115 => absurd h115 (by decide)) (fun h115 => ?_)
                refine r_iload_n C rfl dX7_pourOf_118 ?_
                refine r_iconst C dX7_pourOf_119 ?_
                refine r_icmp_eq C (tgt := 133) dX7_pourOf_120 rfl (by first | assumption | exact rgm (by omega) (by omega)) (by first | assumption | exact rgm (by omega) (by omega)) (fun h120 => absurd h120 (by omega)) (fun h120 => ?_)
                refine r_iload C rfl dX7_pourOf_123 ?_
                refine r_if_ne C (tgt := 133) dX7_pourOf_125 rfl (by first | assumption | exact rgm (by omega) (by omega)) (fun h125 => absurd h125 (by decide)) (fun h125 => ?_)
                refine r_iload C rfl dX7_pourOf_128 ?_
                refine r_if_eq C (tgt := 138) dX7_pourOf_130 rfl (by first | assumption | exact rgm (by omega) (by omega)) (fun h130 => ?_) (fun h130 => absurd h130 (by decide))
                refine r_iload_n C rfl dX7_pourOf_138 ?_
                refine r_istore_n C dX7_pourOf_139 2 rfl (by decide) rfl ?_
                dsimp only [List.set, Nat.reduceAdd]
                refine r_iinc C dX7_pourOf_140 rfl (by decide) rfl ?_
                dsimp only [List.set, Nat.reduceAdd]
                refine r_goto C (tgt := 18) dX7_pourOf_143 rfl ?_
                exact ih _ _ _ _ _ (by unfold bw; rw [← hb, if_neg (fun q => by rcases q.2 with q | q <;> omega)]) (by omega)
              · refine r_aload_n C rfl dX7_pourOf_92 ?_
                refine r_iload C rfl dX7_pourOf_93 ?_
                refine r_cVz C dX7_pourOf_95 vw_X7_202 (c_inBottles M (by omega) (by omega)) (by decide) rfl ly_48 rfl rfl (Nat.le_of_ble_eq_true rfl) ?_
                refine r_aload_n C rfl dX7_pourOf_98 ?_
                refine r_iload_n C rfl dX7_pourOf_99 ?_
                refine r_cVz C dX7_pourOf_100 vw_X7_202 (c_inBottles M (by omega) (by omega)) (by decide) rfl ly_48 rfl rfl (Nat.le_of_ble_eq_true rfl) ?_
                refine r_icmp_ge C (tgt := 110) dX7_pourOf_103 rfl (by first | assumption | exact rgm (by omega) (by omega)) (by first | assumption | exact rgm (by omega) (by omega)) (fun h103 => ?_) (fun h103 => ?_)
                · refine r_iconst C dX7_pourOf_110 ?_
                  refine r_istore C dX7_pourOf_111 7 rfl (by decide) rfl ?_
                  dsimp only [List.set, Nat.reduceAdd]
                  refine r_iload C rfl dX7_pourOf_113 ?_
                  refine r_if_eq C (tgt := 138) dX7_pourOf_115 rfl (by first | assumption | exact rgm (by omega) (by omega)) (fun h115 => absurd h115 (by decide)) (fun h115 => ?_)
                  refine r_iload_n C rfl dX7_pourOf_118 ?_
                  refine r_iconst C dX7_pourOf_119 ?_
                  refine r_icmp_eq C (tgt := 133) dX7_pourOf_120 rfl (by first | assumption | exact rgm (by omega) (by omega)) (by first | assumption | exact rgm (by omega) (by omega)) (fun h120 => absurd h120 (by omega)) (fun h120 => ?_)
                  refine r_iload C rfl dX7_pourOf_123 ?_
                  refine r_if_ne C (tgt := 133) dX7_pourOf_125 rfl (by first | assumption | exact rgm (by omega) (by omega)) (fun h125 => absurd h125 (by decide)) (fun h125 => ?_)
                  refine r_iload C rfl dX7_pourOf_128 ?_
                  refine r_if_eq C (tgt := 138) dX7_pourOf_130 rfl (by first | assumption | exact rgm (by omega) (by omega)) (fun h130 => ?_) (fun h130 => absurd h130 (by decide))
                  refine r_iload_n C rfl dX7_pourOf_138 ?_
                  refine r_istore_n C dX7_pourOf_139 2 rfl (by decide) rfl ?_
                  dsimp only [List.set, Nat.reduceAdd]
                  refine r_iinc C dX7_pourOf_140 rfl (by decide) rfl ?_
                  dsimp only [List.set, Nat.reduceAdd]
                  refine r_goto C (tgt := 18) dX7_pourOf_143 rfl ?_
                  exact ih _ _ _ _ _ (by unfold bw; rw [← hb, if_neg (fun q => by rcases q.2 with q | q <;> omega)]) (by omega)
                · refine r_iconst C dX7_pourOf_106 ?_
                  refine r_goto C (tgt := 111) dX7_pourOf_107 rfl ?_
                  refine r_istore C dX7_pourOf_111 7 rfl (by decide) rfl ?_
                  dsimp only [List.set, Nat.reduceAdd]
                  refine r_iload C rfl dX7_pourOf_113 ?_
                  refine r_if_eq C (tgt := 138) dX7_pourOf_115 rfl (by first | assumption | exact rgm (by omega) (by omega)) (fun h115 => absurd h115 (by decide)) (fun h115 => ?_)
                  refine r_iload_n C rfl dX7_pourOf_118 ?_
                  refine r_iconst C dX7_pourOf_119 ?_
                  refine r_icmp_eq C (tgt := 133) dX7_pourOf_120 rfl (by first | assumption | exact rgm (by omega) (by omega)) (by first | assumption | exact rgm (by omega) (by omega)) (fun h120 => absurd h120 (by omega)) (fun h120 => ?_)
                  refine r_iload C rfl dX7_pourOf_123 ?_
                  refine r_if_ne C (tgt := 133) dX7_pourOf_125 rfl (by first | assumption | exact rgm (by omega) (by omega)) (fun h125 => absurd h125 (by decide)) (fun h125 => ?_)
                  refine r_iload C rfl dX7_pourOf_128 ?_
                  refine r_if_eq C (tgt := 138) dX7_pourOf_130 rfl (by first | assumption | exact rgm (by omega) (by omega)) (fun h130 => absurd h130 (by decide)) (fun h130 => ?_)
                  refine r_iload C rfl dX7_pourOf_133 ?_
                  refine r_goto C (tgt := 139) dX7_pourOf_135 rfl ?_
                  refine r_istore_n C dX7_pourOf_139 2 rfl (by decide) rfl ?_
                  dsimp only [List.set, Nat.reduceAdd]
                  refine r_iinc C dX7_pourOf_140 rfl (by decide) rfl ?_
                  dsimp only [List.set, Nat.reduceAdd]
                  refine r_goto C (tgt := 18) dX7_pourOf_143 rfl ?_
                  exact ih _ _ _ _ _ (by unfold bw; rw [← hb, if_pos (show _ from ⟨⟨h28, by omega⟩, Or.inr (by omega)⟩)]) (by omega)
            · refine r_iconst C dX7_pourOf_68 ?_
              refine r_goto C (tgt := 73) dX7_pourOf_69 rfl ?_
              refine r_istore C dX7_pourOf_73 6 rfl (by decide) rfl ?_
              dsimp only [List.set, Nat.reduceAdd]
              refine r_iload_n C rfl dX7_pourOf_75 ?_
              refine r_iconst C dX7_pourOf_76 ?_
              refine r_icmp_eq C (tgt := 110) dX7_pourOf_77 rfl (by first | assumption | exact rgm (by omega) (by omega)) (by first | assumption | exact rgm (by omega) (by omega)) (fun h77 => absurd h77 (by omega)) (fun h77 => ?_)
              refine r_iload C rfl dX7_pourOf_80 ?_
              refine r_cSz C dX7_pourOf_82 sw_X7_169 (c_ones M (by omega) (by omega)) (by decide) rfl rfl (Nat.le_of_ble_eq_true rfl) ?_
              refine r_iload_n C rfl dX7_pourOf_85 ?_
              refine r_cSz C dX7_pourOf_86 sw_X7_169 (c_ones M (by omega) (by omega)) (by decide) rfl rfl (Nat.le_of_ble_eq_true rfl) ?_
              refine r_icmp_ne C (tgt := 110) dX7_pourOf_89 rfl (by first | assumption | exact rgm (by omega) (by omega)) (by first | assumption | exact rgm (by omega) (by omega)) (fun h89 => ?_) (fun h89 => ?_)
              · refine r_iconst C dX7_pourOf_110 ?_
                refine r_istore C dX7_pourOf_111 7 rfl (by decide) rfl ?_
                dsimp only [List.set, Nat.reduceAdd]
                refine r_iload C rfl dX7_pourOf_113 ?_
                refine r_if_eq C (tgt := 138) dX7_pourOf_115 rfl (by first | assumption | exact rgm (by omega) (by omega)) (fun h115 => absurd h115 (by decide)) (fun h115 => ?_)
                refine r_iload_n C rfl dX7_pourOf_118 ?_
                refine r_iconst C dX7_pourOf_119 ?_
                refine r_icmp_eq C (tgt := 133) dX7_pourOf_120 rfl (by first | assumption | exact rgm (by omega) (by omega)) (by first | assumption | exact rgm (by omega) (by omega)) (fun h120 => absurd h120 (by omega)) (fun h120 => ?_)
                refine r_iload C rfl dX7_pourOf_123 ?_
                refine r_if_ne C (tgt := 133) dX7_pourOf_125 rfl (by first | assumption | exact rgm (by omega) (by omega)) (fun h125 => ?_) (fun h125 => absurd h125 (by decide))
                refine r_iload C rfl dX7_pourOf_133 ?_
                refine r_goto C (tgt := 139) dX7_pourOf_135 rfl ?_
                refine r_istore_n C dX7_pourOf_139 2 rfl (by decide) rfl ?_
                dsimp only [List.set, Nat.reduceAdd]
                refine r_iinc C dX7_pourOf_140 rfl (by decide) rfl ?_
                dsimp only [List.set, Nat.reduceAdd]
                refine r_goto C (tgt := 18) dX7_pourOf_143 rfl ?_
                exact ih _ _ _ _ _ (by unfold bw; rw [← hb, if_pos (show _ from ⟨⟨h28, by omega⟩, Or.inr (by omega)⟩)]) (by omega)
              · refine r_aload_n C rfl dX7_pourOf_92 ?_
                refine r_iload C rfl dX7_pourOf_93 ?_
                refine r_cVz C dX7_pourOf_95 vw_X7_202 (c_inBottles M (by omega) (by omega)) (by decide) rfl ly_48 rfl rfl (Nat.le_of_ble_eq_true rfl) ?_
                refine r_aload_n C rfl dX7_pourOf_98 ?_
                refine r_iload_n C rfl dX7_pourOf_99 ?_
                refine r_cVz C dX7_pourOf_100 vw_X7_202 (c_inBottles M (by omega) (by omega)) (by decide) rfl ly_48 rfl rfl (Nat.le_of_ble_eq_true rfl) ?_
                refine r_icmp_ge C (tgt := 110) dX7_pourOf_103 rfl (by first | assumption | exact rgm (by omega) (by omega)) (by first | assumption | exact rgm (by omega) (by omega)) (fun h103 => ?_) (fun h103 => ?_)
                · refine r_iconst C dX7_pourOf_110 ?_
                  refine r_istore C dX7_pourOf_111 7 rfl (by decide) rfl ?_
                  dsimp only [List.set, Nat.reduceAdd]
                  refine r_iload C rfl dX7_pourOf_113 ?_
                  refine r_if_eq C (tgt := 138) dX7_pourOf_115 rfl (by first | assumption | exact rgm (by omega) (by omega)) (fun h115 => absurd h115 (by decide)) (fun h115 => ?_)
                  refine r_iload_n C rfl dX7_pourOf_118 ?_
                  refine r_iconst C dX7_pourOf_119 ?_
                  refine r_icmp_eq C (tgt := 133) dX7_pourOf_120 rfl (by first | assumption | exact rgm (by omega) (by omega)) (by first | assumption | exact rgm (by omega) (by omega)) (fun h120 => absurd h120 (by omega)) (fun h120 => ?_)
                  refine r_iload C rfl dX7_pourOf_123 ?_
                  refine r_if_ne C (tgt := 133) dX7_pourOf_125 rfl (by first | assumption | exact rgm (by omega) (by omega)) (fun h125 => ?_) (fun h125 => absurd h125 (by decide))
                  refine r_iload C rfl dX7_pourOf_133 ?_
                  refine r_goto C (tgt := 139) dX7_pourOf_135 rfl ?_
                  refine r_istore_n C dX7_pourOf_139 2 rfl (by decide) rfl ?_
                  dsimp only [List.set, Nat.reduceAdd]
                  refine r_iinc C dX7_pourOf_140 rfl (by decide) rfl ?_
                  dsimp only [List.set, Nat.reduceAdd]
                  refine r_goto C (tgt := 18) dX7_pourOf_143 rfl ?_
                  exact ih _ _ _ _ _ (by unfold bw; rw [← hb, if_pos (show _ from ⟨⟨h28, by omega⟩, Or.inr (by omega)⟩)]) (by omega)
                · refine r_iconst C dX7_pourOf_106 ?_
                  refine r_goto C (tgt := 111) dX7_pourOf_107 rfl ?_
                  refine r_istore C dX7_pourOf_111 7 rfl (by decide) rfl ?_
                  dsimp only [List.set, Nat.reduceAdd]
                  refine r_iload C rfl dX7_pourOf_113 ?_
                  refine r_if_eq C (tgt := 138) dX7_pourOf_115 rfl (by first | assumption | exact rgm (by omega) (by omega)) (fun h115 => absurd h115 (by decide)) (fun h115 => ?_)
                  refine r_iload_n C rfl dX7_pourOf_118 ?_
                  refine r_iconst C dX7_pourOf_119 ?_
                  refine r_icmp_eq C (tgt := 133) dX7_pourOf_120 rfl (by first | assumption | exact rgm (by omega) (by omega)) (by first | assumption | exact rgm (by omega) (by omega)) (fun h120 => absurd h120 (by omega)) (fun h120 => ?_)
                  refine r_iload C rfl dX7_pourOf_123 ?_
                  refine r_if_ne C (tgt := 133) dX7_pourOf_125 rfl (by first | assumption | exact rgm (by omega) (by omega)) (fun h125 => ?_) (fun h125 => absurd h125 (by decide))
                  refine r_iload C rfl dX7_pourOf_133 ?_
                  refine r_goto C (tgt := 139) dX7_pourOf_135 rfl ?_
                  refine r_istore_n C dX7_pourOf_139 2 rfl (by decide) rfl ?_
                  dsimp only [List.set, Nat.reduceAdd]
                  refine r_iinc C dX7_pourOf_140 rfl (by decide) rfl ?_
                  dsimp only [List.set, Nat.reduceAdd]
                  refine r_goto C (tgt := 18) dX7_pourOf_143 rfl ?_
                  exact ih _ _ _ _ _ (by unfold bw; rw [← hb, if_pos (show _ from ⟨⟨h28, by omega⟩, Or.inr (by omega)⟩)]) (by omega)
      · refine r_if_eq C (tgt := 48) dX7_pourOf_31 rfl (by first | assumption | exact rgm (by omega) (by omega)) (fun h31 => ?_) (fun h31 => absurd h31 (by decide))
        refine r_iconst C dX7_pourOf_48 ?_
        refine r_istore C dX7_pourOf_49 5 rfl (by decide) rfl ?_
        dsimp only [List.set, Nat.reduceAdd]
        refine r_iload_n C rfl dX7_pourOf_51 ?_
        refine r_iconst C dX7_pourOf_52 ?_
        refine r_icmp_eq C (tgt := 72) dX7_pourOf_53 rfl (by first | assumption | exact rgm (by omega) (by omega)) (by first | assumption | exact rgm (by omega) (by omega)) (fun h53 => ?_) (fun h53 => ?_)
        · refine r_iconst C dX7_pourOf_72 ?_
          refine r_istore C dX7_pourOf_73 6 rfl (by decide) rfl ?_
          dsimp only [List.set, Nat.reduceAdd]
          refine r_iload_n C rfl dX7_pourOf_75 ?_
          refine r_iconst C dX7_pourOf_76 ?_
          refine r_icmp_eq C (tgt := 110) dX7_pourOf_77 rfl (by first | assumption | exact rgm (by omega) (by omega)) (by first | assumption | exact rgm (by omega) (by omega)) (fun h77 => ?_) (fun h77 => absurd h77 (by omega))
          refine r_iconst C dX7_pourOf_110 ?_
          refine r_istore C dX7_pourOf_111 7 rfl (by decide) rfl ?_
          dsimp only [List.set, Nat.reduceAdd]
          refine r_iload C rfl dX7_pourOf_113 ?_
          refine r_if_eq C (tgt := 138) dX7_pourOf_115 rfl (by first | assumption | exact rgm (by omega) (by omega)) (fun h115 => ?_) (fun h115 => absurd h115 (by decide))
          refine r_iload_n C rfl dX7_pourOf_138 ?_
          refine r_istore_n C dX7_pourOf_139 2 rfl (by decide) rfl ?_
          dsimp only [List.set, Nat.reduceAdd]
          refine r_iinc C dX7_pourOf_140 rfl (by decide) rfl ?_
          dsimp only [List.set, Nat.reduceAdd]
          refine r_goto C (tgt := 18) dX7_pourOf_143 rfl ?_
          exact ih _ _ _ _ _ (by unfold bw; rw [← hb, if_neg (fun q => h28 q.1.1)]) (by omega)
        · refine r_iload C rfl dX7_pourOf_56 ?_
          refine r_cSz C dX7_pourOf_58 sw_X7_169 (c_ones M (by omega) (by omega)) (by decide) rfl rfl (Nat.le_of_ble_eq_true rfl) ?_
          have ho3 := ho2 (by omega)
          refine r_iload_n C rfl dX7_pourOf_61 ?_
          refine r_cSz C dX7_pourOf_62 sw_X7_169 (c_ones M (by omega) (by omega)) (by decide) rfl rfl (Nat.le_of_ble_eq_true rfl) ?_
          refine r_icmp_ge C (tgt := 72) dX7_pourOf_65 rfl (by first | assumption | exact rgm (by omega) (by omega)) (by first | assumption | exact rgm (by omega) (by omega)) (fun h65 => ?_) (fun h65 => ?_)
          · refine r_iconst C dX7_pourOf_72 ?_
            refine r_istore C dX7_pourOf_73 6 rfl (by decide) rfl ?_
            dsimp only [List.set, Nat.reduceAdd]
            refine r_iload_n C rfl dX7_pourOf_75 ?_
            refine r_iconst C dX7_pourOf_76 ?_
            refine r_icmp_eq C (tgt := 110) dX7_pourOf_77 rfl (by first | assumption | exact rgm (by omega) (by omega)) (by first | assumption | exact rgm (by omega) (by omega)) (fun h77 => absurd h77 (by omega)) (fun h77 => ?_)
            refine r_iload C rfl dX7_pourOf_80 ?_
            refine r_cSz C dX7_pourOf_82 sw_X7_169 (c_ones M (by omega) (by omega)) (by decide) rfl rfl (Nat.le_of_ble_eq_true rfl) ?_
            refine r_iload_n C rfl dX7_pourOf_85 ?_
            refine r_cSz C dX7_pourOf_86 sw_X7_169 (c_ones M (by omega) (by omega)) (by decide) rfl rfl (Nat.le_of_ble_eq_true rfl) ?_
            refine r_icmp_ne C (tgt := 110) dX7_pourOf_89 rfl (by first | assumption | exact rgm (by omega) (by omega)) (by first | assumption | exact rgm (by omega) (by omega)) (fun h89 => ?_) (fun h89 => ?_)
            · refine r_iconst C dX7_pourOf_110 ?_
              refine r_istore C dX7_pourOf_111 7 rfl (by decide) rfl ?_
              dsimp only [List.set, Nat.reduceAdd]
              refine r_iload C rfl dX7_pourOf_113 ?_
              refine r_if_eq C (tgt := 138) dX7_pourOf_115 rfl (by first | assumption | exact rgm (by omega) (by omega)) (fun h115 => ?_) (fun h115 => absurd h115 (by decide))
              refine r_iload_n C rfl dX7_pourOf_138 ?_
              refine r_istore_n C dX7_pourOf_139 2 rfl (by decide) rfl ?_
              dsimp only [List.set, Nat.reduceAdd]
              refine r_iinc C dX7_pourOf_140 rfl (by decide) rfl ?_
              dsimp only [List.set, Nat.reduceAdd]
              refine r_goto C (tgt := 18) dX7_pourOf_143 rfl ?_
              exact ih _ _ _ _ _ (by unfold bw; rw [← hb, if_neg (fun q => h28 q.1.1)]) (by omega)
            · refine r_aload_n C rfl dX7_pourOf_92 ?_
              refine r_iload C rfl dX7_pourOf_93 ?_
              refine r_cVz C dX7_pourOf_95 vw_X7_202 (c_inBottles M (by omega) (by omega)) (by decide) rfl ly_48 rfl rfl (Nat.le_of_ble_eq_true rfl) ?_
              refine r_aload_n C rfl dX7_pourOf_98 ?_
              refine r_iload_n C rfl dX7_pourOf_99 ?_
              refine r_cVz C dX7_pourOf_100 vw_X7_202 (c_inBottles M (by omega) (by omega)) (by decide) rfl ly_48 rfl rfl (Nat.le_of_ble_eq_true rfl) ?_
              refine r_icmp_ge C (tgt := 110) dX7_pourOf_103 rfl (by first | assumption | exact rgm (by omega) (by omega)) (by first | assumption | exact rgm (by omega) (by omega)) (fun h103 => ?_) (fun h103 => ?_)
              · refine r_iconst C dX7_pourOf_110 ?_
                refine r_istore C dX7_pourOf_111 7 rfl (by decide) rfl ?_
                dsimp only [List.set, Nat.reduceAdd]
                refine r_iload C rfl dX7_pourOf_113 ?_
                refine r_if_eq C (tgt := 138) dX7_pourOf_115 rfl (by first | assumption | exact rgm (by omega) (by omega)) (fun h115 => ?_) (fun h115 => absurd h115 (by decide))
                refine r_iload_n C rfl dX7_pourOf_138 ?_
                refine r_istore_n C dX7_pourOf_139 2 rfl (by decide) rfl ?_
                dsimp only [List.set, Nat.reduceAdd]
                refine r_iinc C dX7_pourOf_140 rfl (by decide) rfl ?_
                dsimp only [List.set, Nat.reduceAdd]
                refine r_goto C (tgt := 18) dX7_pourOf_143 rfl ?_
                exact ih _ _ _ _ _ (by unfold bw; rw [← hb, if_neg (fun q => h28 q.1.1)]) (by omega)
              · refine r_iconst C dX7_pourOf_106 ?_
                refine r_goto C (tgt := 111) dX7_pourOf_107 rfl ?_
                refine r_istore C dX7_pourOf_111 7 rfl (by decide) rfl ?_
                dsimp only [List.set, Nat.reduceAdd]
                refine r_iload C rfl dX7_pourOf_113 ?_
                refine r_if_eq C (tgt := 138) dX7_pourOf_115 rfl (by first | assumption | exact rgm (by omega) (by omega)) (fun h115 => ?_) (fun h115 => absurd h115 (by decide))
                refine r_iload_n C rfl dX7_pourOf_138 ?_
                refine r_istore_n C dX7_pourOf_139 2 rfl (by decide) rfl ?_
                dsimp only [List.set, Nat.reduceAdd]
                refine r_iinc C dX7_pourOf_140 rfl (by decide) rfl ?_
                dsimp only [List.set, Nat.reduceAdd]
                refine r_goto C (tgt := 18) dX7_pourOf_143 rfl ?_
                exact ih _ _ _ _ _ (by unfold bw; rw [← hb, if_neg (fun q => h28 q.1.1)]) (by omega)
          · refine r_iconst C dX7_pourOf_68 ?_
            refine r_goto C (tgt := 73) dX7_pourOf_69 rfl ?_
            refine r_istore C dX7_pourOf_73 6 rfl (by decide) rfl ?_
            dsimp only [List.set, Nat.reduceAdd]
            refine r_iload_n C rfl dX7_pourOf_75 ?_
            refine r_iconst C dX7_pourOf_76 ?_
            refine r_icmp_eq C (tgt := 110) dX7_pourOf_77 rfl (by first | assumption | exact rgm (by omega) (by omega)) (by first | assumption | exact rgm (by omega) (by omega)) (fun h77 => absurd h77 (by omega)) (fun h77 => ?_)
            refine r_iload C rfl dX7_pourOf_80 ?_
            refine r_cSz C dX7_pourOf_82 sw_X7_169 (c_ones M (by omega) (by omega)) (by decide) rfl rfl (Nat.le_of_ble_eq_true rfl) ?_
            refine r_iload_n C rfl dX7_pourOf_85 ?_
            refine r_cSz C dX7_pourOf_86 sw_X7_169 (c_ones M (by omega) (by omega)) (by decide) rfl rfl (Nat.le_of_ble_eq_true rfl) ?_
            refine r_icmp_ne C (tgt := 110) dX7_pourOf_89 rfl (by first | assumption | exact rgm (by omega) (by omega)) (by first | assumption | exact rgm (by omega) (by omega)) (fun h89 => ?_) (fun h89 => ?_)
            · refine r_iconst C dX7_pourOf_110 ?_
              refine r_istore C dX7_pourOf_111 7 rfl (by decide) rfl ?_
              dsimp only [List.set, Nat.reduceAdd]
              refine r_iload C rfl dX7_pourOf_113 ?_
              refine r_if_eq C (tgt := 138) dX7_pourOf_115 rfl (by first | assumption | exact rgm (by omega) (by omega)) (fun h115 => ?_) (fun h115 => absurd h115 (by decide))
              refine r_iload_n C rfl dX7_pourOf_138 ?_
              refine r_istore_n C dX7_pourOf_139 2 rfl (by decide) rfl ?_
              dsimp only [List.set, Nat.reduceAdd]
              refine r_iinc C dX7_pourOf_140 rfl (by decide) rfl ?_
              dsimp only [List.set, Nat.reduceAdd]
              refine r_goto C (tgt := 18) dX7_pourOf_143 rfl ?_
              exact ih _ _ _ _ _ (by unfold bw; rw [← hb, if_neg (fun q => h28 q.1.1)]) (by omega)
            · refine r_aload_n C rfl dX7_pourOf_92 ?_
              refine r_iload C rfl dX7_pourOf_93 ?_
              refine r_cVz C dX7_pourOf_95 vw_X7_202 (c_inBottles M (by omega) (by omega)) (by decide) rfl ly_48 rfl rfl (Nat.le_of_ble_eq_true rfl) ?_
              refine r_aload_n C rfl dX7_pourOf_98 ?_
              refine r_iload_n C rfl dX7_pourOf_99 ?_
              refine r_cVz C dX7_pourOf_100 vw_X7_202 (c_inBottles M (by omega) (by omega)) (by decide) rfl ly_48 rfl rfl (Nat.le_of_ble_eq_true rfl) ?_
              refine r_icmp_ge C (tgt := 110) dX7_pourOf_103 rfl (by first | assumption | exact rgm (by omega) (by omega)) (by first | assumption | exact rgm (by omega) (by omega)) (fun h103 => ?_) (fun h103 => ?_)
              · refine r_iconst C dX7_pourOf_110 ?_
                refine r_istore C dX7_pourOf_111 7 rfl (by decide) rfl ?_
                dsimp only [List.set, Nat.reduceAdd]
                refine r_iload C rfl dX7_pourOf_113 ?_
                refine r_if_eq C (tgt := 138) dX7_pourOf_115 rfl (by first | assumption | exact rgm (by omega) (by omega)) (fun h115 => ?_) (fun h115 => absurd h115 (by decide))
                refine r_iload_n C rfl dX7_pourOf_138 ?_
                refine r_istore_n C dX7_pourOf_139 2 rfl (by decide) rfl ?_
                dsimp only [List.set, Nat.reduceAdd]
                refine r_iinc C dX7_pourOf_140 rfl (by decide) rfl ?_
                dsimp only [List.set, Nat.reduceAdd]
                refine r_goto C (tgt := 18) dX7_pourOf_143 rfl ?_
                exact ih _ _ _ _ _ (by unfold bw; rw [← hb, if_neg (fun q => h28 q.1.1)]) (by omega)
              · refine r_iconst C dX7_pourOf_106 ?_
                refine r_goto C (tgt := 111) dX7_pourOf_107 rfl ?_
                refine r_istore C dX7_pourOf_111 7 rfl (by decide) rfl ?_
                dsimp only [List.set, Nat.reduceAdd]
                refine r_iload C rfl dX7_pourOf_113 ?_
                refine r_if_eq C (tgt := 138) dX7_pourOf_115 rfl (by first | assumption | exact rgm (by omega) (by omega)) (fun h115 => ?_) (fun h115 => absurd h115 (by decide))
                refine r_iload_n C rfl dX7_pourOf_138 ?_
                refine r_istore_n C dX7_pourOf_139 2 rfl (by decide) rfl ?_
                dsimp only [List.set, Nat.reduceAdd]
                refine r_iinc C dX7_pourOf_140 rfl (by decide) rfl ?_
                dsimp only [List.set, Nat.reduceAdd]
                refine r_goto C (tgt := 18) dX7_pourOf_143 rfl ?_
                exact ih _ _ _ _ _ (by unfold bw; rw [← hb, if_neg (fun q => h28 q.1.1)]) (by omega)
  refine r_iconst C dX7_pourOf_0 ?_
  refine r_istore_n C dX7_pourOf_1 2 rfl (by decide) rfl ?_
  dsimp only [List.set, Nat.reduceAdd]
  refine r_aload_n C rfl dX7_pourOf_2 ?_
  refine r_getr C dX7_pourOf_3 fl_X7_22 ly_48 rfl ?_
  refine r_iload_n C rfl dX7_pourOf_6 ?_
  refine r_iald C dX7_pourOf_7 ly_53 rfl (by omega) ?_
  refine r_aload_n C rfl dX7_pourOf_8 ?_
  refine r_iload_n C rfl dX7_pourOf_9 ?_
  refine r_cVz C dX7_pourOf_10 vw_X7_196 (c_forceAtM M (by omega) hv hf hg) (by decide) rfl ly_48 rfl rfl (Nat.le_of_ble_eq_true rfl) ?_
  refine r_isub C dX7_pourOf_13 ?_
  rw [elk]
  refine r_istore_n C dX7_pourOf_14 3 rfl (by decide) rfl ?_
  dsimp only [List.set, Nat.reduceAdd]
  refine r_iconst C dX7_pourOf_15 ?_
  refine r_istore C dX7_pourOf_16 4 rfl (by decide) rfl ?_
  dsimp only [List.set, Nat.reduceAdd]
  exact lp 0 (by omega) _ _ _ _ _ rfl rfl

def hitM (M : Mm_) (k n : Nat) : Int := sm (fun num => if M.1 53 k ≤ FM M (sl1 (grM M) (num : Int) (M.1 52)) true k then 1 else 0) n
theorem hitM_b (M : Mm_) (k n : Nat) : 0 ≤ hitM M k n ∧ hitM M k n ≤ n := by
  have := sm_le (f := fun num : Nat => if M.1 53 k ≤ FM M (sl1 (grM M) (num : Int) (M.1 52)) true k then (1 : Int) else 0) (c := 1) (n := n) (fun i _ => by split <;> omega)
  unfold hitM
  omega
theorem mS_R2 {M T : Mm_} {i : Nat} {f : Nat → Int} (h : mS M T) (hi : i = 57 ∨ i = 58 ∨ i = 59 ∨ i = 61) : mS M (mR T i f) := mS_tr h (mS_R hi)
theorem bt_WDc (w : Nat → Int) (f : Int → Int) {m k : Nat} (hk : k < m) : bt (WDc w f m) k = if w k ≤ f k then 1 else 0 := by
  unfold WDc
  rw [sb_bt _ hk]
  simp only [decide_eq_true_eq]

set_option maxRecDepth 10000 in
set_option maxHeartbeats 1000000 in
theorem c_oddsUp (M : Mm_) {k : Nat} (hk : (k : Int) < M.1 48 4) (hM : oM M) : Cn 3 kX7_oddsUp [.ref 48, .int (zI (k : Int))] M (pS (hitM M k (3 * M.1 48 3).toNat) M) := by
  obtain ⟨hpg, hv, hrw, hf, hg, hse, hbo, hst, hni⟩ := hM
  have hv0 : (M.1 48 3 = 0 ∧ M.1 48 4 = 0) ∨ (2 ≤ M.1 48 3 ∧ M.1 48 3 ≤ 4 ∧ 2 ≤ M.1 48 4 ∧ M.1 48 4 ≤ 6) := hv
  obtain ⟨n, hn⟩ : ∃ n : Nat, M.1 48 3 = n := ⟨(M.1 48 3).toNat, by omega⟩
  rw [show (3 * M.1 48 3).toNat = 3 * n by omega]
  refine Cn.of rfl (Nat.le_of_ble_eq_true rfl) (fun G C E => ?_)
  show G 0 [.ref 48, .int (zI (k : Int)), .null, .null] [] M
  have lp : ∀ i : Nat, i ≤ 3 * n → ∀ (T : Mm_) (s z : Int), mS M T → s = hitM M k i → z = i → G 4 [.ref 48, .int (zI (k : Int)), .int (zI s), .int (zI z)] [] T := by
    refine lpN (3 * n) ?_ ?_
    · intro T s z hS hs hz
      have e3 : T.1 48 3 = n := by rw [hS.2.1 3 (by omega) (by omega)]; exact hn
      refine r_iload_n C rfl dX7_oddsUp_4 ?_
      refine r_iconst C dX7_oddsUp_5 ?_
      refine r_aload_n C rfl dX7_oddsUp_6 ?_
      refine r_geti C dX7_oddsUp_7 fl_X7_109 ly_48 rfl ?_
      refine r_imul C dX7_oddsUp_10 ?_
      refine r_icmp_ge C (tgt := 56) dX7_oddsUp_11 rfl (by first | assumption | exact rgm (by omega) (by omega)) (by first | assumption | exact rgm (by omega) (by omega)) (fun h11 => ?_) (fun h11 => absurd h11 (by omega))
      refine r_iload_n C rfl dX7_oddsUp_56 ?_
      exact r_iret E dX7_oddsUp_57 ⟨by rw [hs], hS⟩
    · intro i hi ih T s z hS hs hz
      have e3 : T.1 48 3 = n := by rw [hS.2.1 3 (by omega) (by omega)]; exact hn
      have hWb := WDc_b (M.1 53) (FM M (sl1 (grM M) z (M.1 52)) true) (M.1 48 4).toNat (by omega)
      have hdv := dv_b k hWb.1
      have hbt := bt_WDc (M.1 53) (FM M (sl1 (grM M) z (M.1 52)) true) (m := (M.1 48 4).toNat) (k := k) (by omega)
      refine r_iload_n C rfl dX7_oddsUp_4 ?_
      refine r_iconst C dX7_oddsUp_5 ?_
      refine r_aload_n C rfl dX7_oddsUp_6 ?_
      refine r_geti C dX7_oddsUp_7 fl_X7_109 ly_48 rfl ?_
      refine r_imul C dX7_oddsUp_10 ?_
      refine r_icmp_ge C (tgt := 56) dX7_oddsUp_11 rfl (by first | assumption | exact rgm (by omega) (by omega)) (by first | assumption | exact rgm (by omega) (by omega)) (fun h11 => absurd h11 (by omega)) (fun h11 => ?_)
      refine r_aload_n C rfl dX7_oddsUp_14 ?_
      refine r_getr C dX7_oddsUp_15 fl_X7_19 ly_48 rfl ?_
      refine r_aload_n C rfl dX7_oddsUp_18 ?_
      refine r_getr C dX7_oddsUp_19 fl_X7_34 ly_48 rfl ?_
      refine r_cSv C dX7_oddsUp_22 sw_X7_205 (c_copyW hS) (by decide) rfl rfl (Nat.le_of_ble_eq_true rfl) ?_
      refine r_aload_n C rfl dX7_oddsUp_25 ?_
      refine r_aload_n C rfl dX7_oddsUp_26 ?_
      refine r_getr C dX7_oddsUp_27 fl_X7_34 ly_48 rfl ?_
      refine r_iload_n C rfl dX7_oddsUp_30 ?_
      refine r_cVv C dX7_oddsUp_31 vw_X7_209 (c_slightW (M := M) (mS_R2 hS (by decide)) mR_eq (by omega) (by omega) hrw hg) (by decide) rfl ly_48 rfl rfl (Nat.le_of_ble_eq_true rfl) ?_
      rw [mR_mR]
      refine r_iload_n C rfl dX7_oddsUp_34 ?_
      refine r_aload_n C rfl dX7_oddsUp_35 ?_
      refine r_aload_n C rfl dX7_oddsUp_36 ?_
      refine r_getr C dX7_oddsUp_37 fl_X7_34 ly_48 rfl ?_
      refine r_iconst C dX7_oddsUp_40 ?_
      refine r_cVz C dX7_oddsUp_41 vw_X7_162 (c_wouldW1 (M := M) (mS_R2 hS (by decide)) mR_eq hv hf (sl1_99 hrw (by omega) hg)) (by decide) rfl ly_48 rfl rfl (Nat.le_of_ble_eq_true rfl) ?_
      refine r_iload_n C rfl dX7_oddsUp_44 ?_
      refine r_ishr C (v := WDc (M.1 53) (FM M (sl1 (grM M) z (M.1 52)) true) (M.1 48 4).toNat / 2 ^ k) (zb_shr hWb.1 (by omega) (by omega)) dX7_oddsUp_45 ?_
      refine r_iconst C dX7_oddsUp_46 ?_
      refine r_iand C (v := bt (WDc (M.1 53) (FM M (sl1 (grM M) z (M.1 52)) true) (M.1 48 4).toNat) k) (zb_and1 (by omega) (by omega)) dX7_oddsUp_47 ?_
      refine r_iadd C dX7_oddsUp_48 ?_
      refine r_istore_n C dX7_oddsUp_49 2 rfl (by decide) rfl ?_
      dsimp only [List.set, Nat.reduceAdd]
      refine r_iinc C dX7_oddsUp_50 rfl (by decide) rfl ?_
      dsimp only [List.set, Nat.reduceAdd]
      refine r_goto C (tgt := 4) dX7_oddsUp_53 rfl ?_
      exact ih _ _ _ (mS_R2 hS (by decide)) (by rw [hbt, hs, hz]; rfl) (by omega)
  refine r_iconst C dX7_oddsUp_0 ?_
  refine r_istore_n C dX7_oddsUp_1 2 rfl (by decide) rfl ?_
  dsimp only [List.set, Nat.reduceAdd]
  refine r_iconst C dX7_oddsUp_2 ?_
  refine r_istore_n C dX7_oddsUp_3 3 rfl (by decide) rfl ?_
  dsimp only [List.set, Nat.reduceAdd]
  exact lp 0 (Nat.zero_le _) M _ _ mS_rf rfl rfl
set_option maxRecDepth 10000 in
set_option maxHeartbeats 1000000 in
theorem c_oddsOf5 (M : Mm_) {k : Nat} (hk : (k : Int) < M.1 48 4) (hM : oM M) : Cn 4 kX7_oddsOf [.ref 48, .int (zI (k : Int)), .int (zI 5)] M (pS (oddF (hitM M k (3 * M.1 48 3).toNat).toNat (3 * M.1 48 3).toNat true) M) := by
  have hM0 := hM
  obtain ⟨hpg, hv, hrw, hf, hg, hse, hbo, hst, hni⟩ := hM
  have hv0 : (M.1 48 3 = 0 ∧ M.1 48 4 = 0) ∨ (2 ≤ M.1 48 3 ∧ M.1 48 3 ≤ 4 ∧ 2 ≤ M.1 48 4 ∧ M.1 48 4 ≤ 6) := hv
  obtain ⟨n, en⟩ : ∃ n : Nat, 3 * M.1 48 3 = n := ⟨(3 * M.1 48 3).toNat, by omega⟩
  have en2 : (3 * M.1 48 3).toNat = n := by omega
  have hhb := hitM_b M k (3 * M.1 48 3).toNat
  obtain ⟨h, eh⟩ : ∃ h : Nat, hitM M k (3 * M.1 48 3).toNat = h := ⟨(hitM M k (3 * M.1 48 3).toNat).toNat, by omega⟩
  rw [eh, en2]
  rw [en2] at hhb eh
  have hg0 : 0 < Nat.gcd n h := Nat.gcd_pos_of_pos_left _ (by omega)
  have hg1 : Nat.gcd n h ≤ n := Nat.gcd_le_left _ (by omega)
  refine Cn.of rfl (Nat.le_of_ble_eq_true rfl) (fun G C E => ?_)
  show G 0 [.ref 48, .int (zI (k : Int)), .int (zI 5), .null, .null] [] M
  refine r_aload_n C rfl dX7_oddsOf_0 ?_
  refine r_iload_n C rfl dX7_oddsOf_1 ?_
  refine r_callV C dX7_oddsOf_2 vw_X7_213 (c_oddsUp M hk hM0) (by decide) rfl ly_48 rfl rfl (Nat.le_of_ble_eq_true rfl) ?_
  intro r T h
  obtain ⟨rfl, hS⟩ := h
  try dsimp only [Option.toList, List.cons_append, List.nil_append]
  rw [en2, eh]
  refine r_istore_n C dX7_oddsOf_5 3 rfl (by decide) rfl ?_
  dsimp only [List.set, Nat.reduceAdd]
  refine r_iconst C dX7_oddsOf_6 ?_
  refine r_aload_n C rfl dX7_oddsOf_7 ?_
  refine r_geti C dX7_oddsOf_8 fl_X7_109 ly_48 rfl ?_
  refine r_imul C dX7_oddsOf_11 ?_
  rw [hS.2.1 3 (by omega) (by omega), en]
  refine r_iload_n C rfl dX7_oddsOf_12 ?_
  refine r_cSz C dX7_oddsOf_13 sw_X7_216 (c_common T (by omega) (by omega)) (by decide) rfl rfl (Nat.le_of_ble_eq_true rfl) ?_
  refine r_istore C dX7_oddsOf_16 4 rfl (by decide) rfl ?_
  dsimp only [List.set, Nat.reduceAdd]
  refine r_iload_n C rfl dX7_oddsOf_18 ?_
  refine r_iconst C dX7_oddsOf_19 ?_
  refine r_icmp_ne C (tgt := 30) dX7_oddsOf_20 rfl (by first | assumption | exact rgm (by omega) (by omega)) (by first | assumption | exact rgm (by omega) (by omega)) (fun h20 => absurd h20 (by decide)) (fun h20 => ?_)
  refine r_iload_n C rfl dX7_oddsOf_23 ?_
  refine r_iload C rfl dX7_oddsOf_24 ?_
  refine r_idiv C (by omega) (by omega) (by first | assumption | exact rgm (by omega) (by omega)) (by first | assumption | exact rgm (by omega) (by omega)) dX7_oddsOf_26 ?_
  refine r_goto C (tgt := 39) dX7_oddsOf_27 rfl ?_
  exact r_iret E dX7_oddsOf_39 ⟨by unfold oddF; simp only [if_true]; rw [Nat.gcd_comm]; rfl, hS⟩
set_option maxRecDepth 10000 in
set_option maxHeartbeats 1000000 in
theorem c_oddsOf6 (M : Mm_) {k : Nat} (hk : (k : Int) < M.1 48 4) (hM : oM M) : Cn 4 kX7_oddsOf [.ref 48, .int (zI (k : Int)), .int (zI 6)] M (pS (oddF (hitM M k (3 * M.1 48 3).toNat).toNat (3 * M.1 48 3).toNat false) M) := by
  have hM0 := hM
  obtain ⟨hpg, hv, hrw, hf, hg, hse, hbo, hst, hni⟩ := hM
  have hv0 : (M.1 48 3 = 0 ∧ M.1 48 4 = 0) ∨ (2 ≤ M.1 48 3 ∧ M.1 48 3 ≤ 4 ∧ 2 ≤ M.1 48 4 ∧ M.1 48 4 ≤ 6) := hv
  obtain ⟨n, en⟩ : ∃ n : Nat, 3 * M.1 48 3 = n := ⟨(3 * M.1 48 3).toNat, by omega⟩
  have en2 : (3 * M.1 48 3).toNat = n := by omega
  have hhb := hitM_b M k (3 * M.1 48 3).toNat
  obtain ⟨h, eh⟩ : ∃ h : Nat, hitM M k (3 * M.1 48 3).toNat = h := ⟨(hitM M k (3 * M.1 48 3).toNat).toNat, by omega⟩
  rw [eh, en2]
  rw [en2] at hhb eh
  have hg0 : 0 < Nat.gcd n h := Nat.gcd_pos_of_pos_left _ (by omega)
  have hg1 : Nat.gcd n h ≤ n := Nat.gcd_le_left _ (by omega)
  refine Cn.of rfl (Nat.le_of_ble_eq_true rfl) (fun G C E => ?_)
  show G 0 [.ref 48, .int (zI (k : Int)), .int (zI 6), .null, .null] [] M
  refine r_aload_n C rfl dX7_oddsOf_0 ?_
  refine r_iload_n C rfl dX7_oddsOf_1 ?_
  refine r_callV C dX7_oddsOf_2 vw_X7_213 (c_oddsUp M hk hM0) (by decide) rfl ly_48 rfl rfl (Nat.le_of_ble_eq_true rfl) ?_
  intro r T h
  obtain ⟨rfl, hS⟩ := h
  try dsimp only [Option.toList, List.cons_append, List.nil_append]
  rw [en2, eh]
  refine r_istore_n C dX7_oddsOf_5 3 rfl (by decide) rfl ?_
  dsimp only [List.set, Nat.reduceAdd]
  refine r_iconst C dX7_oddsOf_6 ?_
  refine r_aload_n C rfl dX7_oddsOf_7 ?_
  refine r_geti C dX7_oddsOf_8 fl_X7_109 ly_48 rfl ?_
  refine r_imul C dX7_oddsOf_11 ?_
  rw [hS.2.1 3 (by omega) (by omega), en]
  refine r_iload_n C rfl dX7_oddsOf_12 ?_
  refine r_cSz C dX7_oddsOf_13 sw_X7_216 (c_common T (by omega) (by omega)) (by decide) rfl rfl (Nat.le_of_ble_eq_true rfl) ?_
  refine r_istore C dX7_oddsOf_16 4 rfl (by decide) rfl ?_
  dsimp only [List.set, Nat.reduceAdd]
  refine r_iload_n C rfl dX7_oddsOf_18 ?_
  refine r_iconst C dX7_oddsOf_19 ?_
  refine r_icmp_ne C (tgt := 30) dX7_oddsOf_20 rfl (by first | assumption | exact rgm (by omega) (by omega)) (by first | assumption | exact rgm (by omega) (by omega)) (fun h20 => ?_) (fun h20 => absurd h20 (by decide))
  refine r_iconst C dX7_oddsOf_30 ?_
  refine r_aload_n C rfl dX7_oddsOf_31 ?_
  refine r_geti C dX7_oddsOf_32 fl_X7_109 ly_48 rfl ?_
  refine r_imul C dX7_oddsOf_35 ?_
  rw [hS.2.1 3 (by omega) (by omega), en]
  refine r_iload C rfl dX7_oddsOf_36 ?_
  refine r_idiv C (by omega) (by omega) (by first | assumption | exact rgm (by omega) (by omega)) (by first | assumption | exact rgm (by omega) (by omega)) dX7_oddsOf_38 ?_
  exact r_iret E dX7_oddsOf_39 ⟨by unfold oddF; simp only [Bool.false_eq_true, if_false]; rw [Nat.gcd_comm]; rfl, hS⟩

def vPailM (M : Mm_) (k : Nat) (w : Int) : Int := if w = 0 then M.1 53 k else if w = 1 then fM M 52 true k else if w = 2 then M.1 54 k else if w = 3 then (if M.1 53 k ≤ fM M 52 true k then 1 else 0) else if w = 4 then bw (M.1 55) (M.1 53 k - fM M 52 true k) 16 else if w = 5 then oddF (hitM M k (3 * M.1 48 3).toNat).toNat (3 * M.1 48 3).toNat true else if w = 6 then oddF (hitM M k (3 * M.1 48 3).toNat).toNat (3 * M.1 48 3).toNat false else -102

set_option maxRecDepth 10000 in
set_option maxHeartbeats 1000000 in
theorem c_tellPail (M : Mm_) {k : Nat} {w : Int} (hk : (k : Int) < M.1 48 4) (rw_ : rg w) (hM : oM M) : Cn 5 kX7_tellPail [.ref 48, .int (zI (k : Int)), .int (zI w)] M (pS (vPailM M k w) M) := by
  have hM0 := hM
  obtain ⟨hpg, hv, hrw, hf, hg, hse, hbo, hst, hni⟩ := hM
  have hv0 : (M.1 48 3 = 0 ∧ M.1 48 4 = 0) ∨ (2 ≤ M.1 48 3 ∧ M.1 48 3 ≤ 4 ∧ 2 ≤ M.1 48 4 ∧ M.1 48 4 ≤ 6) := hv
  have hWb := WDc_b (M.1 53) (fM M 52 true) (M.1 48 4).toNat (by omega)
  have hdv := dv_b k hWb.1
  have hbt := bt_WDc (M.1 53) (fM M 52 true) (m := (M.1 48 4).toNat) (k := k) (by omega)
  refine Cn.of rfl (Nat.le_of_ble_eq_true rfl) (fun G C E => ?_)
  show G 0 [.ref 48, .int (zI (k : Int)), .int (zI w)] [] M
  refine r_iload_n C rfl dX7_tellPail_0 ?_
  by_cases hout : w < 0 ∨ 6 < w
  · refine r_tout C (tgt := 86) dX7_tellPail_1 (by first | assumption | exact rgm (by omega) (by omega)) hout rfl ?_
    refine r_bipush C rfl dX7_tellPail_86 ?_
    exact r_iret E dX7_tellPail_88 ⟨by unfold vPailM; rw [if_neg (by omega), if_neg (by omega), if_neg (by omega), if_neg (by omega), if_neg (by omega), if_neg (by omega), if_neg (by omega)], mS_rf⟩
  · rcases (show w = 0 ∨ w = 1 ∨ w = 2 ∨ w = 3 ∨ w = 4 ∨ w = 5 ∨ w = 6 by omega) with hsw | hsw | hsw | hsw | hsw | hsw | hsw
    · have hsw2 := hsw
      subst hsw
      refine r_tin C (tgt := 44) dX7_tellPail_1 (by first | assumption | exact rgm (by omega) (by omega)) (by omega) (by omega) (off := 43) rfl rfl ?_
      refine r_aload_n C rfl dX7_tellPail_44 ?_
      refine r_getr C dX7_tellPail_45 fl_X7_22 ly_48 rfl ?_
      refine r_iload_n C rfl dX7_tellPail_48 ?_
      refine r_iald C dX7_tellPail_49 ly_53 rfl (by omega) ?_
      exact r_iret E dX7_tellPail_50 ⟨by unfold vPailM; rw [if_pos rfl], mS_rf⟩
    · have hsw2 := hsw
      subst hsw
      refine r_tin C (tgt := 51) dX7_tellPail_1 (by first | assumption | exact rgm (by omega) (by omega)) (by omega) (by omega) (off := 50) rfl rfl ?_
      refine r_aload_n C rfl dX7_tellPail_51 ?_
      refine r_iload_n C rfl dX7_tellPail_52 ?_
      refine r_cVz C dX7_tellPail_53 vw_X7_196 (c_forceAtM M (by omega) hv hf hg) (by decide) rfl ly_48 rfl rfl (Nat.le_of_ble_eq_true rfl) ?_
      exact r_iret E dX7_tellPail_56 ⟨by unfold vPailM; rw [if_neg (by decide), if_pos rfl], mS_rf⟩
    · have hsw2 := hsw
      subst hsw
      refine r_tin C (tgt := 57) dX7_tellPail_1 (by first | assumption | exact rgm (by omega) (by omega)) (by omega) (by omega) (off := 56) rfl rfl ?_
      refine r_aload_n C rfl dX7_tellPail_57 ?_
      refine r_getr C dX7_tellPail_58 fl_X7_25 ly_48 rfl ?_
      refine r_iload_n C rfl dX7_tellPail_61 ?_
      refine r_iald C dX7_tellPail_62 ly_54 rfl (by omega) ?_
      exact r_iret E dX7_tellPail_63 ⟨by unfold vPailM; rw [if_neg (by decide), if_neg (by decide), if_pos rfl], mS_rf⟩
    · have hsw2 := hsw
      subst hsw
      refine r_tin C (tgt := 64) dX7_tellPail_1 (by first | assumption | exact rgm (by omega) (by omega)) (by omega) (by omega) (off := 63) rfl rfl ?_
      refine r_aload_n C rfl dX7_tellPail_64 ?_
      refine r_cVz C dX7_tellPail_65 vw_X7_166 (c_wouldNow M hv hf hg) (by decide) rfl ly_48 rfl rfl (Nat.le_of_ble_eq_true rfl) ?_
      refine r_iload_n C rfl dX7_tellPail_68 ?_
      refine r_ishr C (v := WDc (M.1 53) (fM M 52 true) (M.1 48 4).toNat / 2 ^ k) (zb_shr hWb.1 (by omega) (by omega)) dX7_tellPail_69 ?_
      refine r_iconst C dX7_tellPail_70 ?_
      refine r_iand C (v := bt (WDc (M.1 53) (fM M 52 true) (M.1 48 4).toNat) k) (zb_and1 (by omega) (by omega)) dX7_tellPail_71 ?_
      exact r_iret E dX7_tellPail_72 ⟨by unfold vPailM; rw [if_neg (by decide), if_neg (by decide), if_neg (by decide), if_pos rfl]; rw [hbt], mS_rf⟩
    · have hsw2 := hsw
      subst hsw
      refine r_tin C (tgt := 73) dX7_tellPail_1 (by first | assumption | exact rgm (by omega) (by omega)) (by omega) (by omega) (off := 72) rfl rfl ?_
      refine r_aload_n C rfl dX7_tellPail_73 ?_
      refine r_iload_n C rfl dX7_tellPail_74 ?_
      refine r_cVz C dX7_tellPail_75 vw_X7_219 (c_pourOf M hk hM0) (by decide) rfl ly_48 rfl rfl (Nat.le_of_ble_eq_true rfl) ?_
      exact r_iret E dX7_tellPail_78 ⟨by unfold vPailM; rw [if_neg (by decide), if_neg (by decide), if_neg (by decide), if_neg (by decide), if_pos rfl], mS_rf⟩
    · have hsw2 := hsw
      subst hsw
      refine r_tin C (tgt := 79) dX7_tellPail_1 (by first | assumption | exact rgm (by omega) (by omega)) (by omega) (by omega) (off := 78) rfl rfl ?_
      refine r_aload_n C rfl dX7_tellPail_79 ?_
      refine r_iload_n C rfl dX7_tellPail_80 ?_
      refine r_iload_n C rfl dX7_tellPail_81 ?_
      refine r_callV C dX7_tellPail_82 vw_X7_222 (c_oddsOf5 M hk hM0) (by decide) rfl ly_48 rfl rfl (Nat.le_of_ble_eq_true rfl) ?_
      intro r T h
      obtain ⟨rfl, hS⟩ := h
      try dsimp only [Option.toList, List.cons_append, List.nil_append]
      exact r_iret E dX7_tellPail_85 ⟨by unfold vPailM; rw [if_neg (by decide), if_neg (by decide), if_neg (by decide), if_neg (by decide), if_neg (by decide), if_pos rfl], hS⟩
    · have hsw2 := hsw
      subst hsw
      refine r_tin C (tgt := 79) dX7_tellPail_1 (by first | assumption | exact rgm (by omega) (by omega)) (by omega) (by omega) (off := 78) rfl rfl ?_
      refine r_aload_n C rfl dX7_tellPail_79 ?_
      refine r_iload_n C rfl dX7_tellPail_80 ?_
      refine r_iload_n C rfl dX7_tellPail_81 ?_
      refine r_callV C dX7_tellPail_82 vw_X7_222 (c_oddsOf6 M hk hM0) (by decide) rfl ly_48 rfl rfl (Nat.le_of_ble_eq_true rfl) ?_
      intro r T h
      obtain ⟨rfl, hS⟩ := h
      try dsimp only [Option.toList, List.cons_append, List.nil_append]
      exact r_iret E dX7_tellPail_85 ⟨by unfold vPailM; rw [if_neg (by decide), if_neg (by decide), if_neg (by decide), if_neg (by decide), if_neg (by decide), if_neg (by decide), if_pos rfl], hS⟩
set_option maxRecDepth 10000 in
set_option maxHeartbeats 1000000 in
theorem c_m_pail (M : Mm_) {k : Nat} {w : Int} (hk : (k : Int) < M.1 48 4) (rw_ : rg w) (hM : oM M) : Cn 6 kX7_pail [.ref 48, .int (zI (k : Int)), .int (zI w)] M (pS (vPailM M k w) M) := by
  have hM0 := hM
  obtain ⟨hpg, hv, hrw, hf, hg, hse, hbo, hst, hni⟩ := hM
  have hv0 : (M.1 48 3 = 0 ∧ M.1 48 4 = 0) ∨ (2 ≤ M.1 48 3 ∧ M.1 48 3 ≤ 4 ∧ 2 ≤ M.1 48 4 ∧ M.1 48 4 ≤ 6) := hv
  have ra : rg (k : Int) := rgm (by omega) (by omega)
  refine Cn.of rfl (Nat.le_of_ble_eq_true rfl) (fun G C E => ?_)
  show G 0 [.ref 48, .int (zI (k : Int)), .int (zI w)] [] M
  refine r_aload_n C rfl dX7_pail_0 ?_
  refine r_iload_n C rfl dX7_pail_1 ?_
  refine r_cVb C dX7_pail_2 vw_X7_225 (c_isPail M ra hv) (by decide) rfl ly_48 rfl rfl (Nat.le_of_ble_eq_true rfl) (fun h2 => ?_) (fun h2 => absurd (by omega) h2)
  refine r_if_eq C (tgt := 17) dX7_pail_5 rfl (by first | assumption | exact rgm (by omega) (by omega)) (fun h5 => absurd h5 (by decide)) (fun h5 => ?_)
  refine r_aload_n C rfl dX7_pail_8 ?_
  refine r_iload_n C rfl dX7_pail_9 ?_
  refine r_iload_n C rfl dX7_pail_10 ?_
  refine r_callV C dX7_pail_11 vw_X7_228 (c_tellPail M hk rw_ hM0) (by decide) rfl ly_48 rfl rfl (Nat.le_of_ble_eq_true rfl) ?_
  intro r T h
  obtain ⟨rfl, hS⟩ := h
  try dsimp only [Option.toList, List.cons_append, List.nil_append]
  refine r_goto C (tgt := 19) dX7_pail_14 rfl ?_
  exact r_iret E dX7_pail_19 ⟨rfl, hS⟩
set_option maxRecDepth 10000 in
set_option maxHeartbeats 1000000 in
theorem c_m_pail_no (M : Mm_) {a w : Int} (ra : rg a) (ha : ¬ (0 ≤ a ∧ a < M.1 48 4)) (hM : oM M) : Cn 2 kX7_pail [.ref 48, .int (zI a), .int (zI w)] M (pS (-101) M) := by
  obtain ⟨hpg, hv, hrw, hf, hg, hse, hbo, hst, hni⟩ := hM
  have hv0 : (M.1 48 3 = 0 ∧ M.1 48 4 = 0) ∨ (2 ≤ M.1 48 3 ∧ M.1 48 3 ≤ 4 ∧ 2 ≤ M.1 48 4 ∧ M.1 48 4 ≤ 6) := hv
  refine Cn.of rfl (Nat.le_of_ble_eq_true rfl) (fun G C E => ?_)
  show G 0 [.ref 48, .int (zI a), .int (zI w)] [] M
  refine r_aload_n C rfl dX7_pail_0 ?_
  refine r_iload_n C rfl dX7_pail_1 ?_
  refine r_cVb C dX7_pail_2 vw_X7_225 (c_isPail M ra hv) (by decide) rfl ly_48 rfl rfl (Nat.le_of_ble_eq_true rfl) (fun h2 => absurd h2 (by omega)) (fun h2 => ?_)
  refine r_if_eq C (tgt := 17) dX7_pail_5 rfl (by first | assumption | exact rgm (by omega) (by omega)) (fun h5 => ?_) (fun h5 => absurd h5 (by decide))
  refine r_bipush C rfl dX7_pail_17 ?_
  exact r_iret E dX7_pail_19 ⟨rfl, mS_rf⟩
