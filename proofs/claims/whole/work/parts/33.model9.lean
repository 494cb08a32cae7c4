
theorem edivN (x y : Nat) : (x : Int) / (y : Int) = ((x / y : Nat) : Int) := rfl
theorem fo_congr {f f' : Nat → Int × List Int → Int × List Int} {b : Int × List Int} : ∀ {n : Nat}, (∀ i, i < n → ∀ b, f i b = f' i b) → fo f n b = fo f' n b
  | 0, _ => rfl
  | n + 1, h => by
    show f n (fo f n b) = f' n (fo f' n b)
    rw [fo_congr (fun i hi => h i (by omega)), h n (by omega)]
theorem fo_add (f : Nat → Int × List Int → Int × List Int) (a : Nat) (b : Int × List Int) : ∀ j, fo f (a + j) b = fo (fun c => f (a + c)) j (fo f a b)
  | 0 => rfl
  | j + 1 => by
    show f (a + j) (fo f (a + j) b) = f (a + j) (fo (fun c => f (a + c)) j (fo f a b))
    rw [fo_add f a b j]
theorem fo_mul (f : Nat → Int × List Int → Int × List Int) (w : Nat) (b : Int × List Int) : ∀ k, fo (fun k b => fo (fun c => f (k * w + c)) w b) k b = fo f (k * w) b
  | 0 => by rw [Nat.zero_mul]; rfl
  | k + 1 => by
    show fo (fun c => f (k * w + c)) w (fo (fun k b => fo (fun c => f (k * w + c)) w b) k b) = _
    rw [fo_mul f w b k, Nat.succ_mul, fo_add]
def scF (V : Nat → (Nat → Int) → Int) (S : Int → (Nat → Int) → (Nat → Int)) (Nx : (Nat → Int) → (Nat → Int)) (B : Nat) : Nat → Nat → (Nat → Int) → Nat → Int
  | 0, _, _, _ => 0
  | r + 1, day, g, c => V day (S (((c / B ^ r : Nat) : Int) - 1) g) + scF V S Nx B r (day + 1) (Nx (S (((c / B ^ r : Nat) : Int) - 1) g)) (c % B ^ r)
def dgB (B : Nat) : Nat → Nat → List Int
  | 0, _ => []
  | r + 1, c => (((c / B ^ r : Nat) : Int) - 1) :: dgB B r (c % B ^ r)
theorem sc_b {V : Nat → (Nat → Int) → Int} {S : Int → (Nat → Int) → (Nat → Int)} {Nx : (Nat → Int) → (Nat → Int)} {B : Nat} (hV : ∀ day g, 0 ≤ V day g ∧ V day g ≤ 6) : ∀ (r day : Nat) (g : Nat → Int) (c : Nat), 0 ≤ scF V S Nx B r day g c ∧ scF V S Nx B r day g c ≤ 6 * r
  | 0, _, _, _ => by show (0 : Int) ≤ 0 ∧ (0 : Int) ≤ 6 * ((0 : Nat) : Int); omega
  | r + 1, day, g, c => by
    unfold scF
    have h1 := hV day (S (((c / B ^ r : Nat) : Int) - 1) g)
    have h2 := sc_b (S := S) (Nx := Nx) (B := B) hV r (day + 1) (Nx (S (((c / B ^ r : Nat) : Int) - 1) g)) (c % B ^ r)
    omega
theorem fd_codes {V : Nat → (Nat → Int) → Int} {S : Int → (Nat → Int) → (Nat → Int)} {Nx : (Nat → Int) → (Nat → Int)} {N : Nat} : ∀ (r day : Nat) (g : Nat → Int) (sets : Int) (pre : List Int) (b : Int × List Int), fd V S Nx N r day g sets pre b = fo (fun c b => if b.1 < sets + scF V S Nx (N + 1) r day g c then (sets + scF V S Nx (N + 1) r day g c, pre ++ dgB (N + 1) r c) else b) ((N + 1) ^ r) b
  | 0, day, g, sets, pre, b => by
    show (if b.1 < sets then (sets, pre) else b) = (if b.1 < sets + 0 then (sets + 0, pre ++ []) else b)
    rw [Int.add_zero, List.append_nil]
  | r + 1, day, g, sets, pre, b => by
    have hp : 0 < (N + 1) ^ r := Nat.pow_pos (by omega)
    rw [show (N + 1) ^ (r + 1) = (N + 1) * (N + 1) ^ r by rw [Nat.pow_succ, Nat.mul_comm], ← fo_mul]
    show fo _ (N + 1) b = _
    refine fo_congr (fun k hk b => ?_)
    show fd V S Nx N r (day + 1) _ _ _ b = _
    rw [fd_codes r]
    refine fo_congr (fun c hc b => ?_)
    have e1 : (k * (N + 1) ^ r + c) / (N + 1) ^ r = k := by
      rw [Nat.mul_comm, Nat.mul_add_div hp, Nat.div_eq_of_lt hc, Nat.add_zero]
    have e2 : (k * (N + 1) ^ r + c) % (N + 1) ^ r = c := by
      rw [Nat.mul_comm, Nat.mul_add_mod, Nat.mod_eq_of_lt hc]
    simp only [scF, dgB, e1, e2]
    rw [Int.add_assoc, List.append_assoc]
    rfl
def cwF (f : Nat → Int) : Nat → Int × Nat
  | 0 => (-1, 0)
  | i + 1 => if (cwF f i).1 < f i then (f i, i) else cwF f i
theorem cw_fo (f : Nat → Int) (d : Nat → List Int) (h0 : ∀ i, 0 ≤ f i) : ∀ i, (fo (fun c b => if b.1 < f c then (f c, d c) else b) i (-1, [])).1 = (cwF f i).1 ∧ ((cwF f i).1 ≠ -1 → (fo (fun c b => if b.1 < f c then (f c, d c) else b) i (-1, [])).2 = d (cwF f i).2) ∧ (0 < i → 0 ≤ (cwF f i).1 ∧ (cwF f i).2 < i) ∧ -1 ≤ (cwF f i).1
  | 0 => ⟨rfl, fun h => absurd rfl h, fun h => absurd h (by omega), by show (-1 : Int) ≤ -1; omega⟩
  | i + 1 => by
    obtain ⟨h1, h2, h3, h4⟩ := cw_fo f d h0 i
    have h5 := h0 i
    rw [show fo (fun c b => if b.1 < f c then (f c, d c) else b) (i + 1) (-1, []) = (if (fo (fun c b => if b.1 < f c then (f c, d c) else b) i (-1, [])).1 < f i then (f i, d i) else fo (fun c b => if b.1 < f c then (f c, d c) else b) i (-1, [])) from rfl]
    rw [show cwF f (i + 1) = if (cwF f i).1 < f i then (f i, i) else cwF f i from rfl]
    rw [h1]
    by_cases c : (cwF f i).1 < f i
    · rw [if_pos c, if_pos c]
      exact ⟨rfl, fun _ => rfl, fun _ => ⟨h5, by show i < i + 1; omega⟩, by show -1 ≤ f i; omega⟩
    · rw [if_neg c, if_neg c]
      refine ⟨h1, h2, fun _ => ?_, h4⟩
      have : 0 < i := by
        rcases (show i = 0 ∨ 0 < i by omega) with q | q
        · subst q
          exact absurd (show (-1 : Int) < f 0 by omega) c
        · exact q
      have := h3 this
      omega
theorem dg_get {B : Nat} (hB : 0 < B) : ∀ (r c t : Nat), c < B ^ r → t < r → (dgB B r c).getD t 0 = ((c / B ^ (r - 1 - t) % B : Nat) : Int) - 1
  | 0, _, t, _, h => absurd h (by omega)
  | r + 1, c, 0, hc, _ => by
    show (((c / B ^ r : Nat) : Int) - 1) = _
    rw [show r + 1 - 1 - 0 = r by omega, Nat.mod_eq_of_lt]
    exact Nat.div_lt_of_lt_mul (by rw [Nat.pow_succ] at hc; exact hc)
  | r + 1, c, t + 1, hc, ht => by
    show (dgB B r (c % B ^ r)).getD t 0 = _
    rw [dg_get hB r (c % B ^ r) t (Nat.mod_lt _ (Nat.pow_pos hB)) (by omega), show r + 1 - 1 - (t + 1) = r - 1 - t by omega]
    have e : B ^ r = B ^ (r - 1 - t) * B ^ (r - (r - 1 - t)) := by rw [← Nat.pow_add]; congr 1; omega
    have e2 : c % B ^ r / B ^ (r - 1 - t) = c / B ^ (r - 1 - t) % B ^ (r - (r - 1 - t)) := by
      conv => lhs; rw [e]
      rw [Nat.mod_mul_right_div_self]
    rw [e2, Nat.mod_mod_of_dvd]
    rw [show r - (r - 1 - t) = (r - (r - 1 - t) - 1) + 1 by omega, Nat.pow_succ]
    exact Nat.dvd_mul_left ..
def dayVM (M : Mm_) (day : Nat) (g : Nat → Int) : Int := ob (WDc (M.1 53) (FM M g (decide (day = 0))) (M.1 48 4).toNat)
def weekM (M : Mm_) (days : Nat) : Int × List Int := fd (dayVM M) (sl1 (grM M)) (nt (kdM M) (M.1 48 3).toNat) (3 * M.1 48 3).toNat days 0 (M.1 52) 0 [] (-1, [])
def scM (M : Mm_) (r day : Nat) (g : Nat → Int) (c : Nat) : Int := scF (dayVM M) (sl1 (grM M)) (nt (kdM M) (M.1 48 3).toNat) ((3 * M.1 48 3).toNat + 1) r day g c
theorem weekM_W {M T : Mm_} (h : mW M T) (days : Nat) : weekM T days = weekM M days := by
  unfold weekM
  have e : dayVM T = dayVM M := by
    funext day g
    unfold dayVM
    rw [FM_W h, h.1 53 (by omega), h.2 4 (by omega)]
  rw [e, grM_W h, kdM_W h, h.1 52 (by omega), h.2 3 (by omega)]
theorem dayVM_b {M : Mm_} (hv : oMv M) (day : Nat) (g : Nat → Int) : 0 ≤ dayVM M day g ∧ dayVM M day g ≤ 6 := by
  have hv0 : (M.1 48 3 = 0 ∧ M.1 48 4 = 0) ∨ (2 ≤ M.1 48 3 ∧ M.1 48 3 ≤ 4 ∧ 2 ≤ M.1 48 4 ∧ M.1 48 4 ≤ 6) := hv
  have h := WDc_b (M.1 53) (FM M g (decide (day = 0))) (M.1 48 4).toNat (by omega)
  exact ob_b h.1 h.2
theorem pwB {B : Nat} (h0 : 0 < B) (h1 : B ≤ 13) {k : Nat} (hk : k ≤ 3) : 1 ≤ B ^ k ∧ B ^ k ≤ 2197 := by
  have h2 : B ^ k ≤ 13 ^ k := Nat.pow_le_pow_left h1 k
  have h3 : (13 : Nat) ^ k ≤ 13 ^ 3 := Nat.pow_le_pow_right (by decide) hk
  have h4 : 0 < B ^ k := Nat.pow_pos h0
  omega

set_option maxRecDepth 10000 in
set_option maxHeartbeats 1000000 in
theorem c_settingBy {T M : Mm_} (hS : mS M T) {code days : Nat} {zd : Int} (hzd : zd = days) (hd1 : 1 ≤ days) (hd3 : days ≤ 3) (hcode : code < ((3 * M.1 48 3).toNat + 1) ^ days) (hpos : 0 < M.1 48 3) (hM : oM M) : Cn 3 kX7_settingBy [.ref 48, .int (zI (code : Int)), .int (zI zd)] T (pS (scM M days 0 (M.1 52) code) M) := by
  obtain ⟨hpg, hv, hrw, hf, hg, hse, hbo, hst, hni⟩ := hM
  have hv0 : (M.1 48 3 = 0 ∧ M.1 48 4 = 0) ∨ (2 ≤ M.1 48 3 ∧ M.1 48 3 ≤ 4 ∧ 2 ≤ M.1 48 4 ∧ M.1 48 4 ≤ 6) := hv
  have hN0 : 0 < M.1 48 3 := hpos
  obtain ⟨N, hN⟩ : ∃ N : Nat, 3 * M.1 48 3 = N := ⟨(3 * M.1 48 3).toNat, by omega⟩
  have eN : (3 * M.1 48 3).toNat = N := by omega
  have e3T : T.1 48 3 = M.1 48 3 := hS.2.1 3 (by omega) (by omega)
  rw [eN] at hcode
  obtain ⟨B, eB⟩ : ∃ B : Nat, N + 1 = B := ⟨_, rfl⟩
  have hBB : 3 * M.1 48 3 + 1 = (B : Int) := by omega
  unfold scM
  rw [eN, eB]
  rw [eB] at hcode
  refine Cn.of rfl (Nat.le_of_ble_eq_true rfl) (fun G C E => ?_)
  show G 0 [.ref 48, .int (zI (code : Int)), .int (zI zd), .null, .null, .null, .null, .null] [] T
  have lp : ∀ j : Nat, j ≤ days → ∀ (U : Mm_) (g : Nat → Int) (by_ : Nat) (s : Int) (c : Nat) (z : Int), mS M U → U.1 57 = g → g99 g → (j < days → by_ = B ^ (days - 1 - j)) → z = j → c < B ^ (days - j) → s + scF (dayVM M) (sl1 (grM M)) (nt (kdM M) (M.1 48 3).toNat) B (days - j) j g c = scF (dayVM M) (sl1 (grM M)) (nt (kdM M) (M.1 48 3).toNat) B days 0 (M.1 52) code → G 53 [.ref 48, .int (zI (code : Int)), .int (zI zd), .int (zI (B : Int)), .int (zI (by_ : Int)), .int (zI s), .int (zI (c : Int)), .int (zI z)] [] U := by
    refine lpN days ?_ ?_
    · intro U g by_ s c z hST hgT hgb hby hz hc hsum
      rw [Nat.sub_self] at hsum
      have hsum2 : s + 0 = scF (dayVM M) (sl1 (grM M)) (nt (kdM M) (M.1 48 3).toNat) B days 0 (M.1 52) code := hsum
      refine r_iload C rfl dX7_settingBy_53 ?_
      refine r_iload_n C rfl dX7_settingBy_55 ?_
      refine r_icmp_ge C (tgt := 127) dX7_settingBy_56 rfl (by first | assumption | exact rgm (by omega) (by omega)) (by first | assumption | exact rgm (by omega) (by omega)) (fun h56 => ?_) (fun h56 => absurd h56 (by omega))
      refine r_iload C rfl dX7_settingBy_127 ?_
      exact r_iret E dX7_settingBy_129 ⟨by rw [← hsum2, Int.add_zero], hST⟩
    · intro j hj ih U g by_ s c z hST hgT hgb hby hz hc hsum
      obtain ⟨r, er⟩ : ∃ r : Nat, r = days - 1 - j := ⟨_, rfl⟩
      have hby2 := hby hj
      rw [← er] at hby2
      have hpr := pwB (B := B) (by omega) (by omega) (k := r) (by omega)
      have hcr : c < B ^ r * B := by
        have h9 : B ^ (r + 1) = B ^ r * B := Nat.pow_succ ..
        rw [← h9, show r + 1 = days - j by omega]; exact hc
      have hk0 : c / B ^ r < B := Nat.div_lt_of_lt_mul hcr
      obtain ⟨kk, ekk⟩ : ∃ kk : Nat, c / B ^ r = kk := ⟨_, rfl⟩
      have hk : kk < B := by rw [← ekk]; exact hk0
      clear hk0
      have hp3 := pwB (B := B) (by omega) (by omega) (k := days - j) (by omega)
      subst hby2
      have hsl := sl1_99 hrw (q := (kk : Int) - 1) (by omega) hgb
      have hWb0 := WDc_b (M.1 53) (FM M (sl1 (grM M) ((kk : Int) - 1) g) (decide (j = 0))) (M.1 48 4).toNat (by omega)
      obtain ⟨WW, eWW⟩ : ∃ W : Int, W = WDc (M.1 53) (FM M (sl1 (grM M) ((kk : Int) - 1) g) (decide (j = 0))) (M.1 48 4).toNat := ⟨_, rfl⟩
      have hWb : 0 ≤ WW ∧ WW < 64 := by rw [eWW]; exact hWb0
      refine r_iload C rfl dX7_settingBy_53 ?_
      refine r_iload_n C rfl dX7_settingBy_55 ?_
      refine r_icmp_ge C (tgt := 127) dX7_settingBy_56 rfl (by first | assumption | exact rgm (by omega) (by omega)) (by first | assumption | exact rgm (by omega) (by omega)) (fun h56 => absurd h56 (by omega)) (fun h56 => ?_)
      refine r_aload_n C rfl dX7_settingBy_59 ?_
      refine r_aload_n C rfl dX7_settingBy_60 ?_
      refine r_getr C dX7_settingBy_61 fl_X7_34 ly_48 rfl ?_
      refine r_iload C rfl dX7_settingBy_64 ?_
      refine r_iload C rfl dX7_settingBy_66 ?_
      refine r_idiv C (by omega) (by omega) (by first | assumption | exact rgm (by omega) (by omega)) (by first | assumption | exact rgm (by omega) (by omega)) dX7_settingBy_68 ?_
      rw [edivN, ekk]
      refine r_iconst C dX7_settingBy_69 ?_
      refine r_isub C dX7_settingBy_70 ?_
      refine r_cVv C dX7_settingBy_71 vw_X7_209 (c_slightW (M := M) (g := g) hST hgT (by omega) (by omega) hrw hgb) (by decide) rfl ly_48 rfl rfl (Nat.le_of_ble_eq_true rfl) ?_
      refine r_iload C rfl dX7_settingBy_74 ?_
      refine r_iload C rfl dX7_settingBy_76 ?_
      refine r_irem C (by omega) (by omega) (by first | assumption | exact rgm (by omega) (by omega)) (by first | assumption | exact rgm (by omega) (by omega)) dX7_settingBy_78 ?_
      rw [emodN]
      refine r_istore C dX7_settingBy_79 6 rfl (by decide) rfl ?_
      dsimp only [List.set, Nat.reduceAdd]
      refine r_iload C rfl dX7_settingBy_81 ?_
      refine r_iload_n C rfl dX7_settingBy_83 ?_
      refine r_idiv C (by omega) (by omega) (by first | assumption | exact rgm (by omega) (by omega)) (by first | assumption | exact rgm (by omega) (by omega)) dX7_settingBy_84 ?_
      rw [edivN]
      refine r_istore C dX7_settingBy_85 4 rfl (by decide) rfl ?_
      dsimp only [List.set, Nat.reduceAdd]
      refine r_iload C rfl dX7_settingBy_87 ?_
      refine r_aload_n C rfl dX7_settingBy_89 ?_
      refine r_aload_n C rfl dX7_settingBy_90 ?_
      refine r_getr C dX7_settingBy_91 fl_X7_34 ly_48 rfl ?_
      refine r_iload C rfl dX7_settingBy_94 ?_
      refine r_if_ne C (tgt := 103) dX7_settingBy_96 rfl (by first | assumption | exact rgm (by omega) (by omega)) (fun h96 => ?_) (fun h96 => ?_)
      · refine r_iconst C dX7_settingBy_103 ?_
        refine r_cVz C dX7_settingBy_104 vw_X7_162 (c_wouldW0 (M := M) (g := (sl1 (grM M) ((kk : Int) - 1) g)) (mS_R2 hST (by decide)) (by rw [mR_eq]) hv hf hsl) (by decide) rfl ly_48 rfl rfl (Nat.le_of_ble_eq_true rfl) ?_
        rw [show WDc (M.1 53) (FM M (sl1 (grM M) ((kk : Int) - 1) g) false) (M.1 48 4).toNat = WW from by rw [eWW, show decide (j = 0) = false from decide_eq_false (by omega)]]
        refine r_cSz C dX7_settingBy_107 sw_X7_169 (c_ones _ hWb.1 (by omega)) (by decide) rfl rfl (Nat.le_of_ble_eq_true rfl) ?_
        refine r_iadd C dX7_settingBy_110 ?_
        refine r_istore C dX7_settingBy_111 5 rfl (by decide) rfl ?_
        dsimp only [List.set, Nat.reduceAdd]
        refine r_aload_n C rfl dX7_settingBy_113 ?_
        refine r_aload_n C rfl dX7_settingBy_114 ?_
        refine r_getr C dX7_settingBy_115 fl_X7_34 ly_48 rfl ?_
        refine r_cVv C dX7_settingBy_118 vw_X7_236 (c_nightW (M := M) (g := (sl1 (grM M) ((kk : Int) - 1) g)) (mS_R2 hST (by decide)) (by rw [mR_eq]) hv hrw hsl) (by decide) rfl ly_48 rfl rfl (Nat.le_of_ble_eq_true rfl) ?_
        rw [mR_mR]
        refine r_iinc C dX7_settingBy_121 rfl (by decide) rfl ?_
        dsimp only [List.set, Nat.reduceAdd]
        refine r_goto C (tgt := 53) dX7_settingBy_124 rfl ?_
        skip
        refine ih _ _ _ _ (c % B ^ r) _ (mS_R2 hST (by decide)) (by rw [mR_eq]) (nt_99 hsl) ?_ (by omega) ?_ ?_
        · intro hj2
          rw [show r = (days - 1 - (j + 1)) + 1 by omega, Nat.pow_succ, Nat.mul_div_cancel _ (by omega)]
        · rw [show days - (j + 1) = r by omega]; exact Nat.mod_lt _ (by omega)
        · rw [← hsum, show days - j = r + 1 by omega, show days - (j + 1) = r by omega, show scF (dayVM M) (sl1 (grM M)) (nt (kdM M) (M.1 48 3).toNat) B (r + 1) j g c = dayVM M j (sl1 (grM M) ((kk : Int) - 1) g) + scF (dayVM M) (sl1 (grM M)) (nt (kdM M) (M.1 48 3).toNat) B r (j + 1) (nt (kdM M) (M.1 48 3).toNat (sl1 (grM M) ((kk : Int) - 1) g)) (c % B ^ r) from by rw [← ekk]; rfl, show dayVM M j (sl1 (grM M) ((kk : Int) - 1) g) = ob WW by rw [eWW]; rfl]
          omega
      · refine r_iconst C dX7_settingBy_99 ?_
        refine r_goto C (tgt := 104) dX7_settingBy_100 rfl ?_
        refine r_cVz C dX7_settingBy_104 vw_X7_162 (c_wouldW1 (M := M) (g := (sl1 (grM M) ((kk : Int) - 1) g)) (mS_R2 hST (by decide)) (by rw [mR_eq]) hv hf hsl) (by decide) rfl ly_48 rfl rfl (Nat.le_of_ble_eq_true rfl) ?_
        rw [show WDc (M.1 53) (FM M (sl1 (grM M) ((kk : Int) - 1) g) true) (M.1 48 4).toNat = WW from by rw [eWW, show decide (j = 0) = true from decide_eq_true (by omega)]]
        refine r_cSz C dX7_settingBy_107 sw_X7_169 (c_ones _ hWb.1 (by omega)) (by decide) rfl rfl (Nat.le_of_ble_eq_true rfl) ?_
        refine r_iadd C dX7_settingBy_110 ?_
        refine r_istore C dX7_settingBy_111 5 rfl (by decide) rfl ?_
        dsimp only [List.set, Nat.reduceAdd]
        refine r_aload_n C rfl dX7_settingBy_113 ?_
        refine r_aload_n C rfl dX7_settingBy_114 ?_
        refine r_getr C dX7_settingBy_115 fl_X7_34 ly_48 rfl ?_
        refine r_cVv C dX7_settingBy_118 vw_X7_236 (c_nightW (M := M) (g := (sl1 (grM M) ((kk : Int) - 1) g)) (mS_R2 hST (by decide)) (by rw [mR_eq]) hv hrw hsl) (by decide) rfl ly_48 rfl rfl (Nat.le_of_ble_eq_true rfl) ?_
        rw [mR_mR]
        refine r_iinc C dX7_settingBy_121 rfl (by decide) rfl ?_
        dsimp only [List.set, Nat.reduceAdd]
        refine r_goto C (tgt := 53) dX7_settingBy_124 rfl ?_
        skip
        refine ih _ _ _ _ (c % B ^ r) _ (mS_R2 hST (by decide)) (by rw [mR_eq]) (nt_99 hsl) ?_ (by omega) ?_ ?_
        · intro hj2
          rw [show r = (days - 1 - (j + 1)) + 1 by omega, Nat.pow_succ, Nat.mul_div_cancel _ (by omega)]
        · rw [show days - (j + 1) = r by omega]; exact Nat.mod_lt _ (by omega)
        · rw [← hsum, show days - j = r + 1 by omega, show days - (j + 1) = r by omega, show scF (dayVM M) (sl1 (grM M)) (nt (kdM M) (M.1 48 3).toNat) B (r + 1) j g c = dayVM M j (sl1 (grM M) ((kk : Int) - 1) g) + scF (dayVM M) (sl1 (grM M)) (nt (kdM M) (M.1 48 3).toNat) B r (j + 1) (nt (kdM M) (M.1 48 3).toNat (sl1 (grM M) ((kk : Int) - 1) g)) (c % B ^ r) from by rw [← ekk]; rfl, show dayVM M j (sl1 (grM M) ((kk : Int) - 1) g) = ob WW by rw [eWW]; rfl]
          omega
  have lq : ∀ j : Nat, j ≤ days - 1 → ∀ (by_ : Nat) (z : Int) (v6 v7 : Value), by_ = B ^ j → z = (j : Int) + 1 → G 15 [.ref 48, .int (zI (code : Int)), .int (zI zd), .int (zI (B : Int)), .int (zI (by_ : Int)), .int (zI z), v6, v7] [] T := by
    refine lpN (days - 1) ?_ ?_
    · intro by_ z v6 v7 hby hz
      refine r_iload C rfl dX7_settingBy_15 ?_
      refine r_iload_n C rfl dX7_settingBy_17 ?_
      refine r_icmp_ge C (tgt := 33) dX7_settingBy_18 rfl (by first | assumption | exact rgm (by omega) (by omega)) (by first | assumption | exact rgm (by omega) (by omega)) (fun h18 => ?_) (fun h18 => absurd h18 (by omega))
      refine r_aload_n C rfl dX7_settingBy_33 ?_
      refine r_getr C dX7_settingBy_34 fl_X7_19 ly_48 rfl ?_
      refine r_aload_n C rfl dX7_settingBy_37 ?_
      refine r_getr C dX7_settingBy_38 fl_X7_34 ly_48 rfl ?_
      refine r_cSv C dX7_settingBy_41 sw_X7_205 (c_copyW hS) (by decide) rfl rfl (Nat.le_of_ble_eq_true rfl) ?_
      refine r_iconst C dX7_settingBy_44 ?_
      refine r_istore C dX7_settingBy_45 5 rfl (by decide) rfl ?_
      dsimp only [List.set, Nat.reduceAdd]
      refine r_iload_n C rfl dX7_settingBy_47 ?_
      refine r_istore C dX7_settingBy_48 6 rfl (by decide) rfl ?_
      dsimp only [List.set, Nat.reduceAdd]
      refine r_iconst C dX7_settingBy_50 ?_
      refine r_istore C dX7_settingBy_51 7 rfl (by decide) rfl ?_
      dsimp only [List.set, Nat.reduceAdd]
      refine lp 0 (Nat.zero_le _) _ (M.1 52) by_ _ code _ (mS_R2 hS (by decide)) (by rw [mR_eq]) hg (fun _ => hby) rfl hcode ?_
      rw [Nat.sub_zero, Int.zero_add]
    · intro j hj ih by_ z v6 v7 hby hz
      refine r_iload C rfl dX7_settingBy_15 ?_
      refine r_iload_n C rfl dX7_settingBy_17 ?_
      refine r_icmp_ge C (tgt := 33) dX7_settingBy_18 rfl (by first | assumption | exact rgm (by omega) (by omega)) (by first | assumption | exact rgm (by omega) (by omega)) (fun h18 => absurd h18 (by omega)) (fun h18 => ?_)
      refine r_iload C rfl dX7_settingBy_21 ?_
      refine r_iload_n C rfl dX7_settingBy_23 ?_
      refine r_imul C dX7_settingBy_24 ?_
      rw [show (by_ : Int) * (B : Int) = ((by_ * B : Nat) : Int) by rw [Int.natCast_mul]]
      refine r_istore C dX7_settingBy_25 4 rfl (by decide) rfl ?_
      dsimp only [List.set, Nat.reduceAdd]
      refine r_iinc C dX7_settingBy_27 rfl (by decide) rfl ?_
      dsimp only [List.set, Nat.reduceAdd]
      refine r_goto C (tgt := 15) dX7_settingBy_30 rfl ?_
      exact ih _ _ _ _ (by rw [hby, Nat.pow_succ]) (by omega)
  refine r_iconst C dX7_settingBy_0 ?_
  refine r_aload_n C rfl dX7_settingBy_1 ?_
  refine r_geti C dX7_settingBy_2 fl_X7_109 ly_48 rfl ?_
  refine r_imul C dX7_settingBy_5 ?_
  refine r_iconst C dX7_settingBy_6 ?_
  refine r_iadd C dX7_settingBy_7 ?_
  rw [e3T, hBB]
  refine r_istore_n C dX7_settingBy_8 3 rfl (by decide) rfl ?_
  dsimp only [List.set, Nat.reduceAdd]
  refine r_iconst C dX7_settingBy_9 ?_
  refine r_istore C dX7_settingBy_10 4 rfl (by decide) rfl ?_
  dsimp only [List.set, Nat.reduceAdd]
  refine r_iconst C dX7_settingBy_12 ?_
  refine r_istore C dX7_settingBy_13 5 rfl (by decide) rfl ?_
  dsimp only [List.set, Nat.reduceAdd]
  exact lq 0 (Nat.zero_le _) 1 _ _ _ rfl rfl
set_option maxRecDepth 10000 in
set_option maxHeartbeats 1000000 in
theorem c_weekOf (M : Mm_) {days : Nat} {zd w : Int} (hzd : zd = days) (hd1 : 1 ≤ days) (hd3 : days ≤ 3) (hw : w = 0 ∨ (10 ≤ w ∧ w < 13)) (hpos : 0 < M.1 48 3) (hM : oM M) : Cn 4 kX7_weekOf [.ref 48, .int (zI zd), .int (zI w)] M (pS (weekT (weekM M days) zd w) M) := by
  have hM0 := hM
  obtain ⟨hpg, hv, hrw, hf, hg, hse, hbo, hst, hni⟩ := hM
  have hv0 : (M.1 48 3 = 0 ∧ M.1 48 4 = 0) ∨ (2 ≤ M.1 48 3 ∧ M.1 48 3 ≤ 4 ∧ 2 ≤ M.1 48 4 ∧ M.1 48 4 ≤ 6) := hv
  obtain ⟨N, hN⟩ : ∃ N : Nat, 3 * M.1 48 3 = N := ⟨(3 * M.1 48 3).toNat, by omega⟩
  have eN : (3 * M.1 48 3).toNat = N := by omega
  obtain ⟨B, eB⟩ : ∃ B : Nat, N + 1 = B := ⟨_, rfl⟩
  have hBB : 3 * M.1 48 3 + 1 = (B : Int) := by omega
  have hpd := pwB (B := B) (by omega) (by omega) (k := days) hd3
  have hsc : ∀ c, 0 ≤ scM M days 0 (M.1 52) c ∧ scM M days 0 (M.1 52) c ≤ 18 := fun c => by
    have := sc_b (S := sl1 (grM M)) (Nx := nt (kdM M) (M.1 48 3).toNat) (B := (3 * M.1 48 3).toNat + 1) (dayVM_b hv) days 0 (M.1 52) c
    unfold scM
    omega
  have hcf := cw_fo (fun c => scM M days 0 (M.1 52) c) (dgB B days) (fun c => (hsc c).1)
  have hcb : ∀ i, (cwF (fun c => scM M days 0 (M.1 52) c) i).1 ≤ 18 := by
    intro i
    induction i with
    | zero => show (-1 : Int) ≤ 18; omega
    | succ i ih =>
      have h9 := hsc i
      rw [show cwF (fun c => scM M days 0 (M.1 52) c) (i + 1) = if (cwF (fun c => scM M days 0 (M.1 52) c) i).1 < scM M days 0 (M.1 52) i then (scM M days 0 (M.1 52) i, i) else cwF (fun c => scM M days 0 (M.1 52) c) i from rfl]
      split
      · exact h9.2
      · exact ih
  have hwk : weekM M days = fo (fun c b => if b.1 < scM M days 0 (M.1 52) c then (scM M days 0 (M.1 52) c, dgB B days c) else b) (B ^ days) (-1, []) := by
    unfold weekM
    rw [fd_codes, eN, eB]
    refine fo_congr (fun c hc b => ?_)
    unfold scM
    rw [eN, eB, Int.zero_add, List.nil_append]
  obtain ⟨hf1, hf2, hf3, hf4⟩ := hcf (B ^ days)
  have hf5 := hf3 (by omega)
  have hr1 : (weekM M days).1 = (cwF (fun c => scM M days 0 (M.1 52) c) (B ^ days)).1 := by rw [hwk]; exact hf1
  have hr2 : (weekM M days).2 = dgB B days (cwF (fun c => scM M days 0 (M.1 52) c) (B ^ days)).2 := by rw [hwk]; exact hf2 (by omega)
  refine Cn.of rfl (Nat.le_of_ble_eq_true rfl) (fun G C E => ?_)
  show G 0 [.ref 48, .int (zI zd), .int (zI w), .null, .null, .null, .null, .null, .null] [] M
  have fin : ∀ (U : Mm_) (x : Nat) (mo : Int) (z : Int) (v8 : Value), mS M U → 10 ≤ w ∧ w < 13 → x = (cwF (fun c => scM M days 0 (M.1 52) c) (B ^ days)).2 / B ^ (days - 1 - (w - 10).toNat) → z ≤ w - 10 ∧ -10 ≤ z → G 108 [.ref 48, .int (zI zd), .int (zI w), .int (zI (B : Int)), .int (zI ((B ^ days : Nat) : Int)), .int (zI mo), .int (zI (x : Int)), .int (zI z), v8] [] U := by
    intro U x mo z v8 hSU hw2 hx hz
    have hxm : x % B < B := Nat.mod_lt _ (by omega)
    have hx2 : x ≤ (cwF (fun c => scM M days 0 (M.1 52) c) (B ^ days)).2 := by rw [hx]; exact Nat.div_le_self ..
    refine r_iload C rfl dX7_weekOf_108 ?_
    refine r_iload_n C rfl dX7_weekOf_110 ?_
    refine r_bipush C rfl dX7_weekOf_111 ?_
    refine r_isub C dX7_weekOf_113 ?_
    refine r_icmp_le C (tgt := 129) dX7_weekOf_114 rfl (by first | assumption | exact rgm (by omega) (by omega)) (by first | assumption | exact rgm (by omega) (by omega)) (fun h114 => ?_) (fun h114 => absurd h114 (by omega))
    refine r_iload_n C rfl dX7_weekOf_129 ?_
    refine r_bipush C rfl dX7_weekOf_130 ?_
    refine r_isub C dX7_weekOf_132 ?_
    refine r_iload_n C rfl dX7_weekOf_133 ?_
    refine r_icmp_ge C (tgt := 146) dX7_weekOf_134 rfl (by first | assumption | exact rgm (by omega) (by omega)) (by first | assumption | exact rgm (by omega) (by omega)) (fun h134 => ?_) (fun h134 => ?_)
    · refine r_iconst C dX7_weekOf_146 ?_
      exact r_iret E dX7_weekOf_147 ⟨by unfold weekT; rw [if_neg (by omega), if_neg (by omega)], hSU⟩
    · refine r_iload C rfl dX7_weekOf_137 ?_
      refine r_iload_n C rfl dX7_weekOf_139 ?_
      refine r_irem C (by omega) (by omega) (by first | assumption | exact rgm (by omega) (by omega)) (by first | assumption | exact rgm (by omega) (by omega)) dX7_weekOf_140 ?_
      rw [emodN]
      refine r_iconst C dX7_weekOf_141 ?_
      refine r_isub C dX7_weekOf_142 ?_
      refine r_goto C (tgt := 147) dX7_weekOf_143 rfl ?_
      exact r_iret E dX7_weekOf_147 ⟨by unfold weekT; rw [if_neg (by omega), if_pos (by omega), hr2, dg_get (by omega) _ _ _ hf5.2 (by omega), hx], hSU⟩
  have dn : ∀ (j : Nat), ∀ (U : Mm_) (x : Nat) (mo : Int) (z : Int) (v8 : Value), mS M U → 10 ≤ w ∧ w < 13 → (w - 10).toNat + j ≤ days - 1 → x = (cwF (fun c => scM M days 0 (M.1 52) c) (B ^ days)).2 / B ^ (days - 1 - (w - 10).toNat - j) → z = (w - 10) + j → G 108 [.ref 48, .int (zI zd), .int (zI w), .int (zI (B : Int)), .int (zI ((B ^ days : Nat) : Int)), .int (zI mo), .int (zI (x : Int)), .int (zI z), v8] [] U := by
    intro j
    induction j with
    | zero =>
      intro U x mo z v8 hSU hw2 hj hx hz
      exact fin U x mo z v8 hSU hw2 hx (by omega)
    | succ j ih =>
      intro U x mo z v8 hSU hw2 hj hx hz
      have hx2 : x ≤ (cwF (fun c => scM M days 0 (M.1 52) c) (B ^ days)).2 := by rw [hx]; exact Nat.div_le_self ..
      refine r_iload C rfl dX7_weekOf_108 ?_
      refine r_iload_n C rfl dX7_weekOf_110 ?_
      refine r_bipush C rfl dX7_weekOf_111 ?_
      refine r_isub C dX7_weekOf_113 ?_
      refine r_icmp_le C (tgt := 129) dX7_weekOf_114 rfl (by first | assumption | exact rgm (by omega) (by omega)) (by first | assumption | exact rgm (by omega) (by omega)) (fun h114 => absurd h114 (by omega)) (fun h114 => ?_)
      refine r_iload C rfl dX7_weekOf_117 ?_
      refine r_iload_n C rfl dX7_weekOf_119 ?_
      refine r_idiv C (by omega) (by omega) (by first | assumption | exact rgm (by omega) (by omega)) (by first | assumption | exact rgm (by omega) (by omega)) dX7_weekOf_120 ?_
      rw [edivN]
      refine r_istore C dX7_weekOf_121 6 rfl (by decide) rfl ?_
      dsimp only [List.set, Nat.reduceAdd]
      refine r_iinc C dX7_weekOf_123 rfl (by decide) rfl ?_
      dsimp only [List.set, Nat.reduceAdd]
      refine r_goto C (tgt := 108) dX7_weekOf_126 rfl ?_
      refine ih _ _ _ _ _ hSU hw2 (by omega) ?_ (by omega)
      rw [hx, Nat.div_div_eq_div_mul, ← Nat.pow_succ, show (days - 1 - (w - 10).toNat - (j + 1)).succ = days - 1 - (w - 10).toNat - j by omega]
  have lp : ∀ i : Nat, i ≤ B ^ days → ∀ (U : Mm_) (mo : Int) (x : Nat) (z : Int) (v8 : Value), mS M U → mo = (cwF (fun c => scM M days 0 (M.1 52) c) i).1 → x = (cwF (fun c => scM M days 0 (M.1 52) c) i).2 → z = i → G 42 [.ref 48, .int (zI zd), .int (zI w), .int (zI (B : Int)), .int (zI ((B ^ days : Nat) : Int)), .int (zI mo), .int (zI (x : Int)), .int (zI z), v8] [] U := by
    refine lpN (B ^ days) ?_ ?_
    · intro U mo x z v8 hSU hmo hx hz
      refine r_iload C rfl dX7_weekOf_42 ?_
      refine r_iload C rfl dX7_weekOf_44 ?_
      refine r_icmp_ge C (tgt := 96) dX7_weekOf_46 rfl (by first | assumption | exact rgm (by omega) (by omega)) (by first | assumption | exact rgm (by omega) (by omega)) (fun h46 => ?_) (fun h46 => absurd h46 (by omega))
      refine r_iload_n C rfl dX7_weekOf_96 ?_
      refine r_if_ne C (tgt := 103) dX7_weekOf_97 rfl (by first | assumption | exact rgm (by omega) (by omega)) (fun h97 => ?_) (fun h97 => ?_)
      · refine r_iload_n C rfl dX7_weekOf_103 ?_
        refine r_iconst C dX7_weekOf_104 ?_
        refine r_isub C dX7_weekOf_105 ?_
        refine r_istore C dX7_weekOf_106 7 rfl (by decide) rfl ?_
        dsimp only [List.set, Nat.reduceAdd]
        by_cases hlt : w - 10 < days
        · refine dn (days - 1 - (w - 10).toNat) _ _ _ _ _ hSU (by omega) (by omega) ?_ (by omega)
          rw [Nat.sub_self, Nat.pow_zero, Nat.div_one, hx]
        · refine fin _ _ _ _ _ hSU (by omega) ?_ (by omega)
          rw [show days - 1 - (w - 10).toNat = 0 by omega, Nat.pow_zero, Nat.div_one, hx]
      · refine r_iload C rfl dX7_weekOf_100 ?_
        exact r_iret E dX7_weekOf_102 ⟨by unfold weekT; rw [if_pos (by omega), hr1, hmo], hSU⟩
    · intro i hi ih U mo x z v8 hSU hmo hx hz
      subst hz
      have h18 := hcb i
      have h19 := (hcf i).2.2.2
      have hsi := hsc i
      refine r_iload C rfl dX7_weekOf_42 ?_
      refine r_iload C rfl dX7_weekOf_44 ?_
      refine r_icmp_ge C (tgt := 96) dX7_weekOf_46 rfl (by first | assumption | exact rgm (by omega) (by omega)) (by first | assumption | exact rgm (by omega) (by omega)) (fun h46 => absurd h46 (by omega)) (fun h46 => ?_)
      refine r_aload_n C rfl dX7_weekOf_49 ?_
      refine r_iload C rfl dX7_weekOf_50 ?_
      refine r_iload_n C rfl dX7_weekOf_52 ?_
      refine r_callV C dX7_weekOf_53 vw_X7_259 (c_settingBy hSU hzd hd1 hd3 (by rw [eN, eB]; exact hi) hpos hM0) (by decide) rfl ly_48 rfl rfl (Nat.le_of_ble_eq_true rfl) ?_
      intro r V h
      obtain ⟨rfl, hSV⟩ := h
      dsimp only [Option.toList, List.cons_append, List.nil_append]
      refine r_istore C dX7_weekOf_56 8 rfl (by decide) rfl ?_
      dsimp only [List.set, Nat.reduceAdd]
      refine r_iload C rfl dX7_weekOf_58 ?_
      refine r_iload C rfl dX7_weekOf_60 ?_
      refine r_icmp_le C (tgt := 70) dX7_weekOf_62 rfl (by first | assumption | exact rgm (by omega) (by omega)) (by first | assumption | exact rgm (by omega) (by omega)) (fun h62 => ?_) (fun h62 => ?_)
      · refine r_iload C rfl dX7_weekOf_70 ?_
        refine r_istore C dX7_weekOf_72 6 rfl (by decide) rfl ?_
        dsimp only [List.set, Nat.reduceAdd]
        refine r_iload C rfl dX7_weekOf_74 ?_
        refine r_iload C rfl dX7_weekOf_76 ?_
        refine r_icmp_le C (tgt := 86) dX7_weekOf_78 rfl (by first | assumption | exact rgm (by omega) (by omega)) (by first | assumption | exact rgm (by omega) (by omega)) (fun h78 => ?_) (fun h78 => absurd h78 (by omega))
        refine r_iload C rfl dX7_weekOf_86 ?_
        refine r_istore C dX7_weekOf_88 5 rfl (by decide) rfl ?_
        dsimp only [List.set, Nat.reduceAdd]
        refine r_iinc C dX7_weekOf_90 rfl (by decide) rfl ?_
        dsimp only [List.set, Nat.reduceAdd]
        refine r_goto C (tgt := 42) dX7_weekOf_93 rfl ?_
        exact ih _ _ _ _ _ hSV (by unfold cwF; rw [if_neg (by omega)]; exact hmo) (by unfold cwF; rw [if_neg (by omega)]; exact hx) (by omega)
      · refine r_iload C rfl dX7_weekOf_65 ?_
        refine r_goto C (tgt := 72) dX7_weekOf_67 rfl ?_
        refine r_istore C dX7_weekOf_72 6 rfl (by decide) rfl ?_
        dsimp only [List.set, Nat.reduceAdd]
        refine r_iload C rfl dX7_weekOf_74 ?_
        refine r_iload C rfl dX7_weekOf_76 ?_
        refine r_icmp_le C (tgt := 86) dX7_weekOf_78 rfl (by first | assumption | exact rgm (by omega) (by omega)) (by first | assumption | exact rgm (by omega) (by omega)) (fun h78 => absurd h78 (by omega)) (fun h78 => ?_)
        refine r_iload C rfl dX7_weekOf_81 ?_
        refine r_goto C (tgt := 88) dX7_weekOf_83 rfl ?_
        refine r_istore C dX7_weekOf_88 5 rfl (by decide) rfl ?_
        dsimp only [List.set, Nat.reduceAdd]
        refine r_iinc C dX7_weekOf_90 rfl (by decide) rfl ?_
        dsimp only [List.set, Nat.reduceAdd]
        refine r_goto C (tgt := 42) dX7_weekOf_93 rfl ?_
        exact ih _ _ _ _ _ hSV (by unfold cwF; rw [if_pos (by omega)]) (by unfold cwF; rw [if_pos (by omega)]) (by omega)
  have lq : ∀ j : Nat, j ≤ days → ∀ (by_ : Nat) (z : Int) (v6 v7 v8 : Value), by_ = B ^ j → z = (j : Int) → G 15 [.ref 48, .int (zI zd), .int (zI w), .int (zI (B : Int)), .int (zI (by_ : Int)), .int (zI z), v6, v7, v8] [] M := by
    refine lpN days ?_ ?_
    · intro by_ z v6 v7 v8 hby hz
      subst hby
      refine r_iload C rfl dX7_weekOf_15 ?_
      refine r_iload_n C rfl dX7_weekOf_17 ?_
      refine r_icmp_ge C (tgt := 33) dX7_weekOf_18 rfl (by first | assumption | exact rgm (by omega) (by omega)) (by first | assumption | exact rgm (by omega) (by omega)) (fun h18 => ?_) (fun h18 => absurd h18 (by omega))
      refine r_iconst C dX7_weekOf_33 ?_
      refine r_istore C dX7_weekOf_34 5 rfl (by decide) rfl ?_
      dsimp only [List.set, Nat.reduceAdd]
      refine r_iconst C dX7_weekOf_36 ?_
      refine r_istore C dX7_weekOf_37 6 rfl (by decide) rfl ?_
      dsimp only [List.set, Nat.reduceAdd]
      refine r_iconst C dX7_weekOf_39 ?_
      refine r_istore C dX7_weekOf_40 7 rfl (by decide) rfl ?_
      dsimp only [List.set, Nat.reduceAdd]
      exact lp 0 (Nat.zero_le _) M _ 0 _ _ mS_rf rfl rfl rfl
    · intro j hj ih by_ z v6 v7 v8 hby hz
      refine r_iload C rfl dX7_weekOf_15 ?_
      refine r_iload_n C rfl dX7_weekOf_17 ?_
      refine r_icmp_ge C (tgt := 33) dX7_weekOf_18 rfl (by first | assumption | exact rgm (by omega) (by omega)) (by first | assumption | exact rgm (by omega) (by omega)) (fun h18 => absurd h18 (by omega)) (fun h18 => ?_)
      refine r_iload C rfl dX7_weekOf_21 ?_
      refine r_iload_n C rfl dX7_weekOf_23 ?_
      refine r_imul C dX7_weekOf_24 ?_
      rw [show (by_ : Int) * (B : Int) = ((by_ * B : Nat) : Int) by rw [Int.natCast_mul]]
      refine r_istore C dX7_weekOf_25 4 rfl (by decide) rfl ?_
      dsimp only [List.set, Nat.reduceAdd]
      refine r_iinc C dX7_weekOf_27 rfl (by decide) rfl ?_
      dsimp only [List.set, Nat.reduceAdd]
      refine r_goto C (tgt := 15) dX7_weekOf_30 rfl ?_
      exact ih _ _ _ _ _ (by rw [hby, Nat.pow_succ]) (by omega)
  refine r_iconst C dX7_weekOf_0 ?_
  refine r_aload_n C rfl dX7_weekOf_1 ?_
  refine r_geti C dX7_weekOf_2 fl_X7_109 ly_48 rfl ?_
  refine r_imul C dX7_weekOf_5 ?_
  refine r_iconst C dX7_weekOf_6 ?_
  refine r_iadd C dX7_weekOf_7 ?_
  rw [hBB]
  refine r_istore_n C dX7_weekOf_8 3 rfl (by decide) rfl ?_
  dsimp only [List.set, Nat.reduceAdd]
  refine r_iconst C dX7_weekOf_9 ?_
  refine r_istore C dX7_weekOf_10 4 rfl (by decide) rfl ?_
  dsimp only [List.set, Nat.reduceAdd]
  refine r_iconst C dX7_weekOf_12 ?_
  refine r_istore C dX7_weekOf_13 5 rfl (by decide) rfl ?_
  dsimp only [List.set, Nat.reduceAdd]
  exact lq 0 (Nat.zero_le _) 1 _ _ _ _ rfl rfl
set_option maxRecDepth 10000 in
set_option maxHeartbeats 1000000 in
theorem c_m_week (M : Mm_) {z w : Int} (rz : rg z) (rw_ : rg w) (hM : oM M) (hwd : 0 ≤ M.1 48 21 ∧ M.1 48 21 ≤ 20) : Cn 5 kX7_week [.ref 48, .int (zI z), .int (zI w)] M (fun r U => r = some (.int (zI (if ((1 ≤ z ∧ z ≤ 3) ∧ (w = 0 ∨ (10 ≤ w ∧ w < 13))) then (if M.1 48 3 = 0 ∨ M.1 48 21 = 20 then -103 else weekT (weekM M z.toNat) z w) else -102))) ∧ mS (if ((1 ≤ z ∧ z ≤ 3) ∧ (w = 0 ∨ (10 ≤ w ∧ w < 13))) ∧ (M.1 48 3 ≠ 0 ∧ M.1 48 21 < 20) then (mU M 48 21 (M.1 48 21 + 1)) else M) U) := by
  have hM0 := hM
  obtain ⟨hpg, hv, hrw, hf, hg, hse, hbo, hst, hni⟩ := hM
  have hv0 : (M.1 48 3 = 0 ∧ M.1 48 4 = 0) ∨ (2 ≤ M.1 48 3 ∧ M.1 48 3 ≤ 4 ∧ 2 ≤ M.1 48 4 ∧ M.1 48 4 ≤ 6) := hv
  refine Cn.of rfl (Nat.le_of_ble_eq_true rfl) (fun G C E => ?_)
  show G 0 [.ref 48, .int (zI z), .int (zI w)] [] M
  refine r_iload_n C rfl dX7_week_0 ?_
  refine r_i2l C dX7_week_1 ?_
  refine r_lconst C dX7_week_2 ?_
  refine r_ldc2 C dX7_week_3 kc_X7_139 ?_
  refine r_cSb C dX7_week_6 sw_X7_76 (c_inZ M (b := 1) (c := 3) rz rfl rfl) (by decide) rfl rfl (Nat.le_of_ble_eq_true rfl) (fun h6 => ?_) (fun h6 => ?_)
  · refine r_if_eq C (tgt := 30) dX7_week_9 rfl (by first | assumption | exact rgm (by omega) (by omega)) (fun h9 => absurd h9 (by decide)) (fun h9 => ?_)
    refine r_iload_n C rfl dX7_week_12 ?_
    refine r_if_eq C (tgt := 33) dX7_week_13 rfl (by first | assumption | exact rgm (by omega) (by omega)) (fun h13 => ?_) (fun h13 => ?_)
    · refine r_aload_n C rfl dX7_week_33 ?_
      refine r_cVb C dX7_week_34 vw_X7_133 (c_lacks M hv) (by decide) rfl ly_48 rfl rfl (Nat.le_of_ble_eq_true rfl) (fun h34 => ?_) (fun h34 => ?_)
      · refine r_if_ne C (tgt := 49) dX7_week_37 rfl (by first | assumption | exact rgm (by omega) (by omega)) (fun h37 => ?_) (fun h37 => absurd h37 (by decide))
        refine r_bipush C rfl dX7_week_49 ?_
        exact r_iret E dX7_week_51 ⟨by rw [if_pos (by omega), if_pos (by omega)], by rw [if_neg (by omega)]; exact mS_rf⟩
      · refine r_if_ne C (tgt := 49) dX7_week_37 rfl (by first | assumption | exact rgm (by omega) (by omega)) (fun h37 => absurd h37 (by decide)) (fun h37 => ?_)
        refine r_aload_n C rfl dX7_week_40 ?_
        refine r_geti C dX7_week_41 fl_X7_262 ly_48 rfl ?_
        refine r_bipush C rfl dX7_week_44 ?_
        refine r_icmp_ne C (tgt := 52) dX7_week_46 rfl (by first | assumption | exact rgm (by omega) (by omega)) (by first | assumption | exact rgm (by omega) (by omega)) (fun h46 => ?_) (fun h46 => ?_)
        · refine r_aload_n C rfl dX7_week_52 ?_
          refine r_dup C rfl dX7_week_53 ?_
          refine r_geti C dX7_week_54 fl_X7_262 ly_48 rfl ?_
          refine r_iconst C dX7_week_57 ?_
          refine r_iadd C dX7_week_58 ?_
          refine r_put C dX7_week_59 fl_X7_262 rfl (Or.inl rfl) ly_48 rfl ?_
          refine r_aload_n C rfl dX7_week_62 ?_
          refine r_iload_n C rfl dX7_week_63 ?_
          refine r_iload_n C rfl dX7_week_64 ?_
          refine r_callV C dX7_week_65 vw_X7_265 (c_weekOf (mU M 48 21 (M.1 48 21 + 1)) (days := z.toNat) (by omega) (by omega) (by omega) (by omega) (by rw [(mW_48 (by decide) : mW M (mU M 48 21 (M.1 48 21 + 1))).2 3 (by decide)]; omega) (oM_W (mW_48 (by decide)) hM0)) (by decide) rfl ly_48 rfl rfl (Nat.le_of_ble_eq_true rfl) ?_
          intro r T h
          obtain ⟨rfl, hS⟩ := h
          try dsimp only [Option.toList, List.cons_append, List.nil_append]
          exact r_iret E dX7_week_68 ⟨by rw [if_pos (by omega), if_neg (by omega), weekM_W (mW_48 (by decide))], by rw [if_pos (by omega)]; exact hS⟩
        · refine r_bipush C rfl dX7_week_49 ?_
          exact r_iret E dX7_week_51 ⟨by rw [if_pos (by omega), if_pos (by omega)], by rw [if_neg (by omega)]; exact mS_rf⟩
    · refine r_iload_n C rfl dX7_week_16 ?_
      refine r_i2l C dX7_week_17 ?_
      refine r_ldc2 C dX7_week_18 kc_X7_172 ?_
      refine r_ldc2 C dX7_week_21 kc_X7_174 ?_
      refine r_cSb C dX7_week_24 sw_X7_76 (c_inZ M (b := 10) (c := 12) rw_ rfl rfl) (by decide) rfl rfl (Nat.le_of_ble_eq_true rfl) (fun h24 => ?_) (fun h24 => ?_)
      · refine r_if_ne C (tgt := 33) dX7_week_27 rfl (by first | assumption | exact rgm (by omega) (by omega)) (fun h27 => ?_) (fun h27 => absurd h27 (by decide))
        refine r_aload_n C rfl dX7_week_33 ?_
        refine r_cVb C dX7_week_34 vw_X7_133 (c_lacks M hv) (by decide) rfl ly_48 rfl rfl (Nat.le_of_ble_eq_true rfl) (fun h34 => ?_) (fun h34 => ?_)
        · refine r_if_ne C (tgt := 49) dX7_week_37 rfl (by first | assumption | exact rgm (by omega) (by omega)) (fun h37 => ?_) (fun h37 => absurd h37 (by decide))
          refine r_bipush C rfl dX7_week_49 ?_
          exact r_iret E dX7_week_51 ⟨by rw [if_pos (by omega), if_pos (by omega)], by rw [if_neg (by omega)]; exact mS_rf⟩
        · refine r_if_ne C (tgt := 49) dX7_week_37 rfl (by first | assumption | exact rgm (by omega) (by omega)) (fun h37 => absurd h37 (by decide)) (fun h37 => ?_)
          refine r_aload_n C rfl dX7_week_40 ?_
          refine r_geti C dX7_week_41 fl_X7_262 ly_48 rfl ?_
          refine r_bipush C rfl dX7_week_44 ?_
          refine r_icmp_ne C (tgt := 52) dX7_week_46 rfl (by first | assumption | exact rgm (by omega) (by omega)) (by first | assumption | exact rgm (by omega) (by omega)) (fun h46 => ?_) (fun h46 => ?_)
          · refine r_aload_n C rfl dX7_week_52 ?_
            refine r_dup C rfl dX7_week_53 ?_
            refine r_geti C dX7_week_54 fl_X7_262 ly_48 rfl ?_
            refine r_iconst C dX7_week_57 ?_
            refine r_iadd C dX7_week_58 ?_
            refine r_put C dX7_week_59 fl_X7_262 rfl (Or.inl rfl) ly_48 rfl ?_
            refine r_aload_n C rfl dX7_week_62 ?_
            refine r_iload_n C rfl dX7_week_63 ?_
            refine r_iload_n C rfl dX7_week_64 ?_
            refine r_callV C dX7_week_65 vw_X7_265 (c_weekOf (mU M 48 21 (M.1 48 21 + 1)) (days := z.toNat) (by omega) (by omega) (by omega) (by omega) (by rw [(mW_48 (by decide) : mW M (mU M 48 21 (M.1 48 21 + 1))).2 3 (by decide)]; omega) (oM_W (mW_48 (by decide)) hM0)) (by decide) rfl ly_48 rfl rfl (Nat.le_of_ble_eq_true rfl) ?_
            intro r T h
            obtain ⟨rfl, hS⟩ := h
            try dsimp only [Option.toList, List.cons_append, List.nil_append]
            exact r_iret E dX7_week_68 ⟨by rw [if_pos (by omega), if_neg (by omega), weekM_W (mW_48 (by decide))], by rw [if_pos (by omega)]; exact hS⟩
          · refine r_bipush C rfl dX7_week_49 ?_
            exact r_iret E dX7_week_51 ⟨by rw [if_pos (by omega), if_pos (by omega)], by rw [if_neg (by omega)]; exact mS_rf⟩
      · refine r_if_ne C (tgt := 33) dX7_week_27 rfl (by first | assumption | exact rgm (by omega) (by omega)) (fun h27 => absurd h27 (by decide)) (fun h27 => ?_)
        refine r_bipush C rfl dX7_week_30 ?_
        exact r_iret E dX7_week_32 ⟨by rw [if_neg (by omega)], by rw [if_neg (by omega)]; exact mS_rf⟩
  · refine r_if_eq C (tgt := 30) dX7_week_9 rfl (by first | assumption | exact rgm (by omega) (by omega)) (fun h9 => ?_) (fun h9 => absurd h9 (by decide))
    refine r_bipush C rfl dX7_week_30 ?_
    exact r_iret E dX7_week_32 ⟨by rw [if_neg (by omega)], by rw [if_neg (by omega)]; exact mS_rf⟩
