
theorem mU_ext {M M' : Mm_} {i j : Nat} {z : Int} (h1 : M'.1 i j = z) (h2 : ∀ x y, ¬ (x = i ∧ y = j) → M'.1 x y = M.1 x y) (h3 : M'.2 = M.2) : mU M i j z = M' := by
  obtain ⟨f, b⟩ := M'
  have h3 : b = M.2 := h3
  subst h3
  unfold mU
  congr 1
  funext x y
  by_cases h : x = i ∧ y = j
  · rw [if_pos h, h.1, h.2]
    exact h1.symm
  · rw [if_neg h]
    exact (h2 x y h).symm
def rdM (M : Mm_) (c : Nat → Int) (e : Nat) (n p : Int) (a b l g w : Nat) : Mm_ := (fun x y => if x = 3 ∧ y = 4 then n else if x = 3 ∧ y = 5 then p else if x = 4 ∧ y < a then ixF (c (4 * y)) else if x = 5 ∧ y < b then c (4 * y + 1) - 48 else if x = 10 ∧ y < l then c (4 * y + 2) - 48 else if x = 6 ∧ y < g then gw (ixF (c (4 * (y / 3)))) (c (4 * (y / 3) + 1) - 48) ((y % 3 : Nat) : Int) else if x = 7 ∧ y < w then c (e + 1 + y) - 48 else M.1 x y, M.2)
theorem rd_ne {M : Mm_} {c : Nat → Int} {e : Nat} {n p : Int} {a b l g w x : Nat} (h : x ≠ 3 ∧ x ≠ 4 ∧ x ≠ 5 ∧ x ≠ 6 ∧ x ≠ 7 ∧ x ≠ 10) : (rdM M c e n p a b l g w).1 x = M.1 x := by
  funext y
  simp [rdM, h]
theorem rd_oP {M : Mm_} {c : Nat → Int} {e : Nat} {n p : Int} {a b l g w : Nat} (h : oP M) : oP (rdM M c e n p a b l g w) := by
  unfold oP
  rw [rd_ne (by decide), rd_ne (by decide)]
  exact h
theorem rd_4 {M : Mm_} {c : Nat → Int} {e : Nat} {n p v : Int} {a b l g w : Nat} (hv : v = ixF (c (4 * a))) : mU (rdM M c e n p a b l g w) 4 a v = rdM M c e n p (a + 1) b l g w := by
  refine mU_ext (by simp [rdM, hv]) (fun x y h => ?_) rfl
  have q : (x = 4 ∧ y < a + 1) ↔ (x = 4 ∧ y < a) := by omega
  simp only [rdM, q]
theorem rd_5 {M : Mm_} {c : Nat → Int} {e : Nat} {n p v : Int} {a b l g w : Nat} (hv : v = c (4 * b + 1) - 48) : mU (rdM M c e n p a b l g w) 5 b v = rdM M c e n p a (b + 1) l g w := by
  refine mU_ext (by simp [rdM, hv]) (fun x y h => ?_) rfl
  have q : (x = 5 ∧ y < b + 1) ↔ (x = 5 ∧ y < b) := by omega
  simp only [rdM, q]
theorem rd_10 {M : Mm_} {c : Nat → Int} {e : Nat} {n p v : Int} {a b l g w : Nat} (hv : v = c (4 * l + 2) - 48) : mU (rdM M c e n p a b l g w) 10 l v = rdM M c e n p a b (l + 1) g w := by
  refine mU_ext (by simp [rdM, hv]) (fun x y h => ?_) rfl
  have q : (x = 10 ∧ y < l + 1) ↔ (x = 10 ∧ y < l) := by omega
  simp only [rdM, q]
theorem rd_6 {M : Mm_} {c : Nat → Int} {e : Nat} {n p v : Int} {a b l g w : Nat} (hv : v = gw (ixF (c (4 * (g / 3)))) (c (4 * (g / 3) + 1) - 48) ((g % 3 : Nat) : Int)) : mU (rdM M c e n p a b l g w) 6 g v = rdM M c e n p a b l (g + 1) w := by
  refine mU_ext (by simp [rdM, hv]) (fun x y h => ?_) rfl
  have q : (x = 6 ∧ y < g + 1) ↔ (x = 6 ∧ y < g) := by omega
  simp only [rdM, q]
theorem rd_7 {M : Mm_} {c : Nat → Int} {e : Nat} {n p v : Int} {a b l g w : Nat} (hv : v = c (e + 1 + w) - 48) : mU (rdM M c e n p a b l g w) 7 w v = rdM M c e n p a b l g (w + 1) := by
  refine mU_ext (by simp [rdM, hv]) (fun x y h => ?_) rfl
  have q : (x = 7 ∧ y < w + 1) ↔ (x = 7 ∧ y < w) := by omega
  simp only [rdM, q]
theorem rd_35 {M : Mm_} {c : Nat → Int} {e : Nat} {n p v : Int} {a b l g w : Nat} : mU (rdM M c e n p a b l g w) 3 5 v = rdM M c e n v a b l g w := by
  refine mU_ext (by simp [rdM]) (fun x y h => ?_) rfl
  simp only [rdM, h, if_false]
theorem rd_34 {M : Mm_} {c : Nat → Int} {e : Nat} {v : Int} : mU M 3 4 v = rdM M c e v (M.1 3 5) 0 0 0 0 0 := by
  refine mU_ext (by simp [rdM]) (fun x y h => ?_) rfl
  by_cases h5 : x = 3 ∧ y = 5
  · obtain ⟨rfl, rfl⟩ := h5
    simp [rdM]
  · simp [rdM, h, h5]
/-- what a page that is a valley's text says -/
theorem vl_facts {c : Nat → Int} {n : Nat} (hn : n ≤ 24) (h : isVl c n) : ∃ e k m : Nat, enP c n = e ∧ e + 1 = 4 * k ∧ 2 ≤ k ∧ k ≤ 4 ∧ n = e + 1 + m ∧ 2 ≤ m ∧ m ≤ 6 ∧ (∀ i, i < k → 0 ≤ ixF (c (4 * i)) ∧ (49 ≤ c (4 * i + 1) ∧ c (4 * i + 1) ≤ 57) ∧ (48 ≤ c (4 * i + 2) ∧ c (4 * i + 2) ≤ 53)) ∧ (∀ j, j < m → 49 ≤ c (e + 1 + j) ∧ c (e + 1 + j) ≤ 57) := by
  obtain ⟨hg, he, h3⟩ := h
  obtain ⟨a1, a2, a3⟩ := enP_b c n
  obtain ⟨b1, b2, b3⟩ := a3 he
  obtain ⟨e, ee⟩ : ∃ e : Nat, enP c n = e := ⟨(enP c n).toNat, by omega⟩
  rw [ee] at b1 b2 b3 a2 h3
  rw [Int.toNat_natCast] at b1 b2 b3
  have hpre : ∀ j, j < e → okP c j = true ∧ c j ≠ 59 := by
    intro j hj
    have q := enP_none (i := e) (fun k hk => hg k (by omega)) b3 j hj
    have h1 := hg j (by omega)
    unfold gd at h1
    rw [if_pos q.2] at h1
    exact ⟨h1, q.1⟩
  have hm3 : e % 4 = 3 ∧ 3 < e := by
    unfold okP at b2
    by_cases h0 : e % 4 = 0
    · rw [if_pos h0, decide_eq_true_eq, b1] at b2
      exact absurd b2 (by decide)
    · rw [if_neg h0] at b2
      by_cases h1 : e % 4 = 1
      · rw [if_pos h1, decide_eq_true_eq, b1] at b2
        exact absurd b2 (by decide)
      · rw [if_neg h1] at b2
        by_cases h2 : e % 4 = 2
        · rw [if_pos h2, decide_eq_true_eq, b1] at b2
          exact absurd b2 (by decide)
        · rw [if_neg h2, decide_eq_true_eq, b1] at b2
          omega
  have h15 : e ≤ 15 := by
    by_cases h : e ≤ 15
    · exact h
    · have q := hpre 15 (by omega)
      have q1 := q.1
      unfold okP at q1
      rw [if_neg (by decide), if_neg (by decide), if_neg (by decide), decide_eq_true_eq] at q1
      have := q.2
      omega
  have hst : ∀ j, e < j → j ≤ n → enP c j = e := by
    intro j h1 h2
    obtain ⟨d, rfl⟩ : ∃ d, j = e + 1 + d := ⟨j - (e + 1), by omega⟩
    clear h1
    induction d with
    | zero =>
      show (if _ then _ else _) = _
      rw [if_pos ⟨b3, b2, b1⟩]
    | succ d ih =>
      have q := ih (by omega)
      rw [show e + 1 + (d + 1) = (e + 1 + d) + 1 by omega, enP_s (by rw [q]; omega), q]
  have hpl : ∀ j, e < j → j < n → (j : Int) - e < 7 ∧ 49 ≤ c j ∧ c j ≤ 57 := by
    intro j h1 h2
    have q := hg j h2
    unfold gd at q
    rw [if_neg (by rw [hst j h1 (by omega)]; omega), hst j h1 (by omega), decide_eq_true_eq] at q
    exact q
  have hlast := hpl (n - 1) (by omega) (by omega)
  refine ⟨e, (e + 1) / 4, n - (e + 1), ee, by omega, by omega, by omega, by omega, by omega, by omega, fun i hi => ?_, fun j hj => (hpl _ (by omega) (by omega)).2⟩
  have q0 := (hpre (4 * i) (by omega)).1
  have q1 := (hpre (4 * i + 1) (by omega)).1
  have q2 := (hpre (4 * i + 2) (by omega)).1
  unfold okP at q0 q1 q2
  rw [if_pos (by omega), decide_eq_true_eq] at q0
  rw [if_neg (by omega), if_pos (by omega), decide_eq_true_eq] at q1
  rw [if_neg (by omega), if_neg (by omega), if_pos (by omega), decide_eq_true_eq] at q2
  exact ⟨q0, q1, q2⟩

set_option maxRecDepth 10000 in
set_option maxHeartbeats 1000000 in
theorem c_read (M : Mm_) {e k m : Nat} (hp : oP M) (hvl : isVl (M.1 2) (M.1 1 1).toNat) (hmk : mkp (M.1 2) (M.1 1 1).toNat = e) (hek : e + 1 = 4 * k) (hk : 2 ≤ k ∧ k ≤ 4) (hm : (M.1 1 1) = e + 1 + m) (hm2 : 2 ≤ m ∧ m ≤ 6) (hpp : ∀ i, i < k → 0 ≤ ixF (M.1 2 (4 * i)) ∧ (49 ≤ M.1 2 (4 * i + 1) ∧ M.1 2 (4 * i + 1) ≤ 57) ∧ (48 ≤ M.1 2 (4 * i + 2) ∧ M.1 2 (4 * i + 2) ≤ 53)) : Cn 4 kX5_read [.ref 3, .ref 1, .ref 8] M (pV (rdM M (M.1 2) e k m k k k (3 * k) m)) := by
  have hp1 := hp.1
  obtain ⟨n, en⟩ := Int.eq_ofNat_of_zero_le hp1.1
  have en2 : (M.1 1 1).toNat = n := by omega
  rw [en2] at hvl hmk
  refine Cn.of rfl (Nat.le_of_ble_eq_true rfl) (fun G C E => ?_)
  show G 0 [.ref 3, .ref 1, .ref 8, .null, .null, .null, .null] [] M
  have lp3 : ∀ i : Nat, i ≤ m → ∀ z : Int, z = i → ∀ v5 v6 : Value, G 157 [.ref 3, .ref 1, .ref 8, .int (zI e), .int (zI z), v5, v6] [] (rdM M (M.1 2) e k m k k k (3 * k) i) := by
    refine lpN m ?_ ?_
    · intro z hz v5 v6
      have e35 : (rdM M (M.1 2) e k m k k k (3 * k) m).1 3 5 = m := by simp [rdM]
      refine r_iload C rfl dX5_read_157 ?_
      refine r_aload_n C rfl dX5_read_159 ?_
      refine r_geti C dX5_read_160 fl_X5_68 ly_3 rfl ?_
      refine r_icmp_ge C (tgt := 189) dX5_read_163 rfl (by first | assumption | exact rgm (by omega) (by omega)) (by first | assumption | exact rgm (by omega) (by omega)) (fun h163 => ?_) (fun h163 => absurd h163 (by omega))
      exact r_vret E dX5_read_189 ⟨rfl, rfl⟩
    · intro i hi ih z hz v5 v6
      have e35 : (rdM M (M.1 2) e k m k k k (3 * k) i).1 3 5 = m := by simp [rdM]
      refine r_iload C rfl dX5_read_157 ?_
      refine r_aload_n C rfl dX5_read_159 ?_
      refine r_geti C dX5_read_160 fl_X5_68 ly_3 rfl ?_
      refine r_icmp_ge C (tgt := 189) dX5_read_163 rfl (by first | assumption | exact rgm (by omega) (by omega)) (by first | assumption | exact rgm (by omega) (by omega)) (fun h163 => absurd h163 (by omega)) (fun h163 => ?_)
      refine r_aload_n C rfl dX5_read_166 ?_
      refine r_getr C dX5_read_167 fl_X5_21 ly_3 rfl ?_
      refine r_iload C rfl dX5_read_170 ?_
      refine r_aload_n C rfl dX5_read_172 ?_
      refine r_iload_n C rfl dX5_read_173 ?_
      refine r_iconst C dX5_read_174 ?_
      refine r_iadd C dX5_read_175 ?_
      refine r_iload C rfl dX5_read_176 ?_
      refine r_iadd C dX5_read_178 ?_
      refine r_cVz C dX5_read_179 vw_X5_51 (c_digitAt _ (i := e + 1 + i) (by omega) (by rw [rd_ne (by decide)]; omega) (rd_oP hp)) (by decide) rfl ly_1 rfl rfl (Nat.le_of_ble_eq_true rfl) ?_
      rw [show (rdM M (M.1 2) e k m k k k (3 * k) i).1 2 (e + 1 + i) = M.1 2 (e + 1 + i) by rw [rd_ne (by decide)]]
      refine r_iast C dX5_read_182 ly_7 hz (by omega) ?_
      rw [rd_7 rfl]
      refine r_iinc C dX5_read_183 rfl (by decide) rfl ?_
      dsimp only [List.set, Nat.reduceAdd]
      refine r_goto C (tgt := 157) dX5_read_186 rfl ?_
      exact ih _ (by omega) _ _
  have lp1 : ∀ i : Nat, i ≤ k → ∀ z : Int, z = i → ∀ v5 v6 : Value, G 21 [.ref 3, .ref 1, .ref 8, .int (zI e), .int (zI z), v5, v6] [] (rdM M (M.1 2) e k (M.1 3 5) i i i (3 * i) 0) := by
    refine lpN k ?_ ?_
    · intro z hz v5 v6
      have e34 : (rdM M (M.1 2) e k (M.1 3 5) k k k (3 * k) 0).1 3 4 = k := by simp [rdM]
      have e11 : (rdM M (M.1 2) e k (M.1 3 5) k k k (3 * k) 0).1 1 1 = n := by rw [rd_ne (by decide)]; exact en
      refine r_iload C rfl dX5_read_21 ?_
      refine r_aload_n C rfl dX5_read_23 ?_
      refine r_geti C dX5_read_24 fl_X5_36 ly_3 rfl ?_
      refine r_icmp_ge C (tgt := 137) dX5_read_27 rfl (by first | assumption | exact rgm (by omega) (by omega)) (by first | assumption | exact rgm (by omega) (by omega)) (fun h27 => ?_) (fun h27 => absurd h27 (by omega))
      refine r_aload_n C rfl dX5_read_137 ?_
      refine r_bipush C rfl dX5_read_138 ?_
      refine r_aload_n C rfl dX5_read_140 ?_
      refine r_geti C dX5_read_141 fl_X5_65 ly_1 rfl ?_
      refine r_iload_n C rfl dX5_read_144 ?_
      refine r_isub C dX5_read_145 ?_
      refine r_iconst C dX5_read_146 ?_
      refine r_isub C dX5_read_147 ?_
      refine r_min C dX5_read_148 ml_X5_30 mm_st_min mm_in mm_cw_min (by decide) (Nat.le_of_ble_eq_true rfl) (by first | assumption | exact rgm (by omega) (by omega)) (by first | assumption | exact rgm (by omega) (by omega)) ?_
      rw [show (if (rdM M (M.1 2) e k (M.1 3 5) k k k (3 * k) 0).1 1 1 - e - 1 < 6 then (rdM M (M.1 2) e k (M.1 3 5) k k k (3 * k) 0).1 1 1 - e - 1 else 6) = (m : Int) by split <;> omega]
      refine r_put C dX5_read_151 fl_X5_68 rfl (Or.inl rfl) ly_3 rfl ?_
      rw [rd_35]
      refine r_iconst C dX5_read_154 ?_
      refine r_istore C dX5_read_155 4 rfl (by decide) rfl ?_
      dsimp only [List.set, Nat.reduceAdd]
      exact lp3 0 (Nat.zero_le _) _ rfl _ _
    · intro i hi ih z hz v5 v6
      have e34 : (rdM M (M.1 2) e k (M.1 3 5) i i i (3 * i) 0).1 3 4 = k := by simp [rdM]
      obtain ⟨q0, q1, q2⟩ := hpp i hi
      have hix := ixF_b (M.1 2 (4 * i))
      have hq1 : 0 ≤ ixF (M.1 2 (4 * i)) ∧ ixF (M.1 2 (4 * i)) ≤ 4 := by omega
      have hq2 : 0 ≤ M.1 2 (4 * i + 1) - 48 ∧ M.1 2 (4 * i + 1) - 48 ≤ 9 := by omega
      have hcc := oP_c hp (i := 4 * i) (by omega)
      have lpg : ∀ h : Nat, h ≤ 3 → ∀ y : Int, y = h → G 88 [.ref 3, .ref 1, .ref 8, .int (zI e), .int (zI z), .int (zI (z * 4)), .int (zI y)] [] (rdM M (M.1 2) e k (M.1 3 5) (i + 1) (i + 1) (i + 1) (3 * i + h) 0) := by
        refine lpN 3 ?_ ?_
        · intro y hy
          refine r_iload C rfl dX5_read_88 ?_
          refine r_iconst C dX5_read_90 ?_
          refine r_icmp_ge C (tgt := 131) dX5_read_91 rfl (by first | assumption | exact rgm (by omega) (by omega)) (by first | assumption | exact rgm (by omega) (by omega)) (fun h91 => ?_) (fun h91 => absurd h91 (by omega))
          refine r_iinc C dX5_read_131 rfl (by decide) rfl ?_
          dsimp only [List.set, Nat.reduceAdd]
          refine r_goto C (tgt := 21) dX5_read_134 rfl ?_
          exact ih _ (by omega) _ _
        · intro h hh ihh y hy
          have f4 : (rdM M (M.1 2) e k (M.1 3 5) (i + 1) (i + 1) (i + 1) (3 * i + h) 0).1 4 i = ixF (M.1 2 (4 * i)) := by simp [rdM]
          have f5 : (rdM M (M.1 2) e k (M.1 3 5) (i + 1) (i + 1) (i + 1) (3 * i + h) 0).1 5 i = M.1 2 (4 * i + 1) - 48 := by simp [rdM]
          refine r_iload C rfl dX5_read_88 ?_
          refine r_iconst C dX5_read_90 ?_
          refine r_icmp_ge C (tgt := 131) dX5_read_91 rfl (by first | assumption | exact rgm (by omega) (by omega)) (by first | assumption | exact rgm (by omega) (by omega)) (fun h91 => absurd h91 (by omega)) (fun h91 => ?_)
          refine r_aload_n C rfl dX5_read_94 ?_
          refine r_getr C dX5_read_95 fl_X5_18 ly_3 rfl ?_
          refine r_iload C rfl dX5_read_98 ?_
          refine r_iconst C dX5_read_100 ?_
          refine r_imul C dX5_read_101 ?_
          refine r_iload C rfl dX5_read_102 ?_
          refine r_iadd C dX5_read_104 ?_
          refine r_aload_n C rfl dX5_read_105 ?_
          refine r_getr C dX5_read_106 fl_X5_9 ly_3 rfl ?_
          refine r_iload C rfl dX5_read_109 ?_
          refine r_iald C dX5_read_111 ly_4 hz (by omega) ?_
          rw [f4]
          refine r_aload_n C rfl dX5_read_112 ?_
          refine r_getr C dX5_read_113 fl_X5_15 ly_3 rfl ?_
          refine r_iload C rfl dX5_read_116 ?_
          refine r_iald C dX5_read_118 ly_5 hz (by omega) ?_
          rw [f5]
          refine r_iload C rfl dX5_read_119 ?_
          refine r_cSz C dX5_read_121 sw_X5_59 (c_growth0 _ hq1 hq2 (by omega)) (by decide) rfl rfl (Nat.le_of_ble_eq_true rfl) ?_
          refine r_iast C dX5_read_124 ly_6 (k := 3 * i + h) (by omega) (by omega) ?_
          rw [rd_6 (by rw [show (3 * i + h) / 3 = i by omega, show (3 * i + h) % 3 = h by omega, hy])]
          refine r_iinc C dX5_read_125 rfl (by decide) rfl ?_
          dsimp only [List.set, Nat.reduceAdd]
          refine r_goto C (tgt := 88) dX5_read_128 rfl ?_
          exact ihh _ (by omega)
      refine r_iload C rfl dX5_read_21 ?_
      refine r_aload_n C rfl dX5_read_23 ?_
      refine r_geti C dX5_read_24 fl_X5_36 ly_3 rfl ?_
      refine r_icmp_ge C (tgt := 137) dX5_read_27 rfl (by first | assumption | exact rgm (by omega) (by omega)) (by first | assumption | exact rgm (by omega) (by omega)) (fun h27 => absurd h27 (by omega)) (fun h27 => ?_)
      refine r_iload C rfl dX5_read_30 ?_
      refine r_iconst C dX5_read_32 ?_
      refine r_imul C dX5_read_33 ?_
      refine r_istore C dX5_read_34 5 rfl (by decide) rfl ?_
      dsimp only [List.set, Nat.reduceAdd]
      refine r_aload_n C rfl dX5_read_36 ?_
      refine r_getr C dX5_read_37 fl_X5_9 ly_3 rfl ?_
      refine r_iload C rfl dX5_read_40 ?_
      refine r_ldcV C dX5_read_42 rfl ?_
      refine r_aload_n C rfl dX5_read_44 ?_
      refine r_iload C rfl dX5_read_45 ?_
      refine r_cVz C dX5_read_47 vw_X5_42 (c_codeAt _ (i := 4 * i) (by omega) (by rw [rd_ne (by decide)]; omega) (rd_oP hp)) (by decide) rfl ly_1 rfl rfl (Nat.le_of_ble_eq_true rfl) ?_
      rw [show (rdM M (M.1 2) e k (M.1 3 5) i i i (3 * i) 0).1 2 (4 * i) = M.1 2 (4 * i) by rw [rd_ne (by decide)]]
      refine r_i2c C (i2cZ hcc.1 hcc.2) dX5_read_50 ?_
      refine r_callX C dX5_read_51 vw_X5_46 (c_indexOf _ (rgm (by omega) (by omega))) (by decide) rfl rfl rfl (Nat.le_of_ble_eq_true rfl) ?_
      refine r_iast C dX5_read_54 ly_4 hz (by omega) ?_
      rw [rd_4 rfl]
      refine r_aload_n C rfl dX5_read_55 ?_
      refine r_getr C dX5_read_56 fl_X5_15 ly_3 rfl ?_
      refine r_iload C rfl dX5_read_59 ?_
      refine r_aload_n C rfl dX5_read_61 ?_
      refine r_iload C rfl dX5_read_62 ?_
      refine r_iconst C dX5_read_64 ?_
      refine r_iadd C dX5_read_65 ?_
      refine r_cVz C dX5_read_66 vw_X5_51 (c_digitAt _ (i := 4 * i + 1) (by omega) (by rw [rd_ne (by decide)]; omega) (rd_oP hp)) (by decide) rfl ly_1 rfl rfl (Nat.le_of_ble_eq_true rfl) ?_
      rw [show (rdM M (M.1 2) e k (M.1 3 5) (i + 1) i i (3 * i) 0).1 2 (4 * i + 1) = M.1 2 (4 * i + 1) by rw [rd_ne (by decide)]]
      refine r_iast C dX5_read_69 ly_5 hz (by omega) ?_
      rw [rd_5 rfl]
      refine r_aload_n C rfl dX5_read_70 ?_
      refine r_getr C dX5_read_71 fl_X5_54 ly_8 rfl ?_
      refine r_iload C rfl dX5_read_74 ?_
      refine r_aload_n C rfl dX5_read_76 ?_
      refine r_iload C rfl dX5_read_77 ?_
      refine r_iconst C dX5_read_79 ?_
      refine r_iadd C dX5_read_80 ?_
      refine r_cVz C dX5_read_81 vw_X5_51 (c_digitAt _ (i := 4 * i + 2) (by omega) (by rw [rd_ne (by decide)]; omega) (rd_oP hp)) (by decide) rfl ly_1 rfl rfl (Nat.le_of_ble_eq_true rfl) ?_
      rw [show (rdM M (M.1 2) e k (M.1 3 5) (i + 1) (i + 1) i (3 * i) 0).1 2 (4 * i + 2) = M.1 2 (4 * i + 2) by rw [rd_ne (by decide)]]
      refine r_iast C dX5_read_84 ly_10 hz (by omega) ?_
      rw [rd_10 rfl]
      refine r_iconst C dX5_read_85 ?_
      refine r_istore C dX5_read_86 6 rfl (by decide) rfl ?_
      dsimp only [List.set, Nat.reduceAdd]
      exact lpg 0 (by omega) _ rfl
  refine r_aload_n C rfl dX5_read_0 ?_
  refine r_cVz C dX5_read_1 vw_X5_24 (c_markPlace M hp) (by decide) rfl ly_1 rfl rfl (Nat.le_of_ble_eq_true rfl) ?_
  rw [en2, hmk]
  refine r_istore_n C dX5_read_4 3 rfl (by decide) rfl ?_
  dsimp only [List.set, Nat.reduceAdd]
  refine r_aload_n C rfl dX5_read_5 ?_
  refine r_iconst C dX5_read_6 ?_
  refine r_iload_n C rfl dX5_read_7 ?_
  refine r_iconst C dX5_read_8 ?_
  refine r_iadd C dX5_read_9 ?_
  refine r_iconst C dX5_read_10 ?_
  refine r_idiv C (by omega) (by omega) (by first | assumption | exact rgm (by omega) (by omega)) (by first | assumption | exact rgm (by omega) (by omega)) dX5_read_11 ?_
  refine r_min C dX5_read_12 ml_X5_30 mm_st_min mm_in mm_cw_min (by decide) (Nat.le_of_ble_eq_true rfl) (by first | assumption | exact rgm (by omega) (by omega)) (by first | assumption | exact rgm (by omega) (by omega)) ?_
  rw [show (if (((e : Nat) : Int) + 1) / 4 < 4 then (((e : Nat) : Int) + 1) / 4 else 4) = (k : Int) by split <;> omega]
  refine r_put C dX5_read_15 fl_X5_36 rfl (Or.inl rfl) ly_3 rfl ?_
  rw [rd_34 (c := M.1 2) (e := e)]
  refine r_iconst C dX5_read_18 ?_
  refine r_istore C dX5_read_19 4 rfl (by decide) rfl ?_
  dsimp only [List.set, Nat.reduceAdd]
  exact lp1 0 (Nat.zero_le _) _ rfl _ _
