
theorem sm_tail {f : Nat → Int} {n : Nat} : ∀ k, n ≤ k → (∀ i, n ≤ i → i < k → f i = 0) → sm f k = sm f n := by
  intro k
  induction k with
  | zero => intro h _; rw [show n = 0 by omega]
  | succ k ih =>
    intro h hz
    rcases (show n = k + 1 ∨ n ≤ k by omega) with q | q
    · rw [q]
    · show sm f k + f k = _
      rw [ih q (fun i h1 h2 => hz i h1 (by omega)), hz k q (by omega), Int.add_zero]
theorem fr_q {n : Nat} (hn : n ≤ 4) {g g' p p' : Nat → Int} (h1 : ∀ i, i < n → g' i = g i) (h2 : ∀ i, i < n → p' i = p i) (h3 : ∀ i, n ≤ i → i < 4 → g i = 0) (q : Int) : fr n g' p' q = fr 4 g p q := by
  unfold fr
  rw [sm_tail (f := fun i => rch (g i) (p i) q) 4 hn (fun i a b => by show rch (g i) (p i) q = 0; rw [h3 i a b, rch_0])]
  exact sm_congr (fun i hi => by rw [h1 i hi, h2 i hi])
theorem I_n {c : Nat} {M : Mm_} (h : INV c M) : 0 ≤ M.1 3 4 ∧ M.1 3 4 ≤ 4 ∧ 0 ≤ M.1 3 5 ∧ M.1 3 5 ≤ 6 := oV_n h.1.2.1
theorem I_3 {c : Nat} {M : Mm_} (h : INV c M) : M.1 48 3 = M.1 3 4 := h.2.2.2.1.1
theorem I_4 {c : Nat} {M : Mm_} (h : INV c M) : M.1 48 4 = M.1 3 5 := h.2.2.2.1.2.1
theorem I_kd {c : Nat} {M : Mm_} (h : INV c M) : kdM M = M.1 4 := funext h.2.2.2.1.2.2.1
theorem I_pr {c : Nat} {M : Mm_} (h : INV c M) : prM M = M.1 5 := funext h.2.2.2.1.2.2.2.1
theorem I_gr {c : Nat} {M : Mm_} (h : INV c M) : grM M = M.1 6 := funext (fun i => (h.2.2.2.1.2.2.2.2.1 i).symm)
theorem I_w {c : Nat} {M : Mm_} (h : INV c M) : M.1 53 = M.1 7 := h.2.2.2.1.2.2.2.2.2
theorem I_s1 {c : Nat} {M : Mm_} (h : INV c M) : S1n M := h.2.2.2.2.1.1
theorem I_s2 {c : Nat} {M : Mm_} (h : INV c M) : S2n M := h.2.2.2.2.1.2.1
theorem I_s3 {c : Nat} {M : Mm_} (h : INV c M) : S3n M := h.2.2.2.2.1.2.2.1
theorem I_s4 {c : Nat} {M : Mm_} (h : INV c M) : S4n M := h.2.2.2.2.1.2.2.2.1
theorem I_s5 {c : Nat} {M : Mm_} (h : INV c M) : S5n M := h.2.2.2.2.1.2.2.2.2.1
theorem I_s6 {c : Nat} {M : Mm_} (h : INV c M) : S6n M := h.2.2.2.2.1.2.2.2.2.2.1
theorem I_s7 {c : Nat} {M : Mm_} (h : INV c M) : S7n M := h.2.2.2.2.1.2.2.2.2.2.2
theorem I_pd {c : Nat} {M : Mm_} (h : INV c M) : pdM M = M.1 13 := funext (fun i => ((I_s5 h).1 i).1)
theorem I_pp {c : Nat} {M : Mm_} (h : INV c M) : ppM M = M.1 14 := funext (fun i => ((I_s5 h).1 i).2)
theorem I_8 {c : Nat} {M : Mm_} (h : INV c M) : M.1 48 8 = M.1 8 7 := (I_s5 h).2
def GE (M : Mm_) (g g' : Nat → Int) : Prop := (∀ i : Nat, (i : Int) < M.1 3 4 → g' i = g i) ∧ (∀ i : Nat, M.1 3 4 ≤ (i : Int) → i < 4 → g i = 0)
theorem GE_0 {c : Nat} {M : Mm_} (h : INV c M) : GE M (M.1 9) (M.1 52) := ⟨fun i hi => (I_s1 h i hi).2.2, fun i h1 h2 => (I_s2 h i h1 h2).1⟩
theorem GE_sl {M : Mm_} {g g' gr : Nat → Int} {q : Int} (h : GE M g g') (hq : q < 3 * M.1 3 4) : GE M (sl1 gr q g) (sl1 gr q g') := by
  refine ⟨fun i hi => ?_, fun i h1 h2 => ?_⟩
  · unfold sl1
    rw [h.1 i hi]
  · unfold sl1
    rw [if_neg (by omega)]
    exact h.2 i h1 h2
theorem GE_nt {M : Mm_} {g g' kd : Nat → Int} (h : GE M g g') (hn : 0 ≤ M.1 3 4) : GE M (nt kd (M.1 3 4).toNat g) (nt kd (M.1 3 4).toNat g') := by
  refine ⟨fun i hi => ?_, fun i h1 h2 => ?_⟩
  · unfold nt
    rw [h.1 i hi]
  · unfold nt
    rw [if_neg (by omega)]
    exact h.2 i h1 h2
theorem FM_t {c : Nat} {M : Mm_} (h : INV c M) {g g' : Nat → Int} (hg : GE M g g') : FM M g' true = FA g (M.1 10) (M.1 8 7) (M.1 13) (M.1 14) := by
  have hn := I_n h
  funext q
  unfold FM FA
  rw [I_pd h, I_pp h, I_8 h, I_3 h, fr_q (by omega) (g := g) (p := M.1 10) (fun i hi => hg.1 i (by omega)) (fun i hi => (I_s1 h i (by omega)).2.1) (fun i h1 h2 => hg.2 i (by omega) h2) q]
  simp
theorem FM_f {c : Nat} {M : Mm_} (h : INV c M) {g g' : Nat → Int} (hg : GE M g g') : FM M g' false = fr 4 g (M.1 10) := by
  have hn := I_n h
  funext q
  unfold FM
  rw [I_3 h, fr_q (by omega) (g := g) (p := M.1 10) (fun i hi => hg.1 i (by omega)) (fun i hi => (I_s1 h i (by omega)).2.1) (fun i h1 h2 => hg.2 i (by omega) h2) q]
  simp
theorem b_f {c : Nat} {M : Mm_} (h : INV c M) : fM M 52 true = FA (M.1 9) (M.1 10) (M.1 8 7) (M.1 13) (M.1 14) := FM_t h (GE_0 h)
theorem b_won {c : Nat} {M : Mm_} (h : INV c M) : wonM M = WDc (M.1 7) (FA (M.1 9) (M.1 10) (M.1 8 7) (M.1 13) (M.1 14)) (M.1 3 5).toNat := by
  unfold wonM
  rw [b_f h, I_w h, I_4 h]
theorem b_seat {c : Nat} {M : Mm_} (h : INV c M) (k : Nat) : seatM M k = seatF (M.1 7) (M.1 9) (M.1 10) (M.1 8 7) (M.1 13) (M.1 14) (M.1 3 5).toNat k := by
  have hn := I_n h
  funext q
  unfold seatM seatF
  rw [I_w h, I_4 h]
  congr 2
  funext x
  unfold fM FA
  rw [show pdM (mR M 51 (fun j => if j = k then (q : Int) else M.1 51 j)) = pdM M by unfold pdM; rw [mR_ne (by decide)], show ppM (mR M 51 (fun j => if j = k then (q : Int) else M.1 51 j)) = ppM M by unfold ppM; rw [mR_ne (by decide)], mR_eq, mR_ne (by decide), mR_ne (by decide), I_pd h, I_pp h, I_8 h, I_3 h, fr_q (by omega) (g := M.1 9) (p := fun j => if j = k then (q : Int) else M.1 10 j) (fun i hi => (GE_0 h).1 i (by omega)) (fun i hi => by rw [(I_s1 h i (by omega)).2.1]) (fun i h1 h2 => (GE_0 h).2 i (by omega) h2) x]
  simp
theorem b_prd {c : Nat} {M : Mm_} (h : INV c M) (k : Nat) : prM4 M k = prd (M.1 16) (M.1 17) (M.1 18) (M.1 15 3).toNat (k : Int) (M.1 4 k) := by
  unfold prM4
  rw [show swM M = M.1 16 from funext (fun i => ((I_s6 h).1 i).1), show shM M = M.1 17 from funext (fun i => ((I_s6 h).1 i).2.1), show sbM M = M.1 18 from funext (fun i => ((I_s6 h).1 i).2.2), (I_s6 h).2, show M.1 50 (3 * k) = M.1 4 k from h.2.2.2.1.2.2.1 k]
theorem b_grow {c : Nat} {M : Mm_} (h : INV c M) {k : Nat} (hk : (k : Int) < M.1 3 4) {w : Int} (hw : 10 ≤ w ∧ w < 13) : tp (M.1 52 k + gw (kdM M k) (prM M k) (w - 10)) - M.1 52 k = gwO (M.1 6) (M.1 9) ((k : Int) * 3 + w - 10) := by
  unfold gwO
  rw [show (((k : Int) * 3 + w - 10) / 3).toNat = k by omega, h.2.2.2.1.2.2.2.2.1 ((k : Int) * 3 + w - 10).toNat, show ((k : Int) * 3 + w - 10).toNat / 3 = k by omega, show ((((k : Int) * 3 + w - 10).toNat % 3 : Nat) : Int) = w - 10 by omega, (GE_0 h).1 k hk]
  rfl
theorem b_per {c : Nat} {M : Mm_} (h : INV c M) {k : Nat} (hk : (k : Int) < M.1 3 4) (w : Int) : vPerM M k w = vPer M k w := by
  unfold vPerM vPer
  rw [b_seat h, b_prd h]
  by_cases c : 10 ≤ w ∧ w < 13
  · rw [if_pos c, if_pos c, b_grow h hk c]
  · rw [if_neg c, if_neg c, show M.1 50 (3 * k) = M.1 4 k from h.2.2.2.1.2.2.1 k, show M.1 50 (3 * k + 1) = M.1 5 k from h.2.2.2.1.2.2.2.1 k, (I_s1 h k hk).1, (I_s1 h k hk).2.1, (I_s1 h k hk).2.2]
theorem hd4_c {bo bo' : Nat → Int} (h : ∀ i, i < 4 → bo i = bo' i) (z : Int) : hd4 bo z = hd4 bo' z := sm_congr (fun i hi => by rw [h i hi])
theorem fb4_c {bo bo' : Nat → Int} (h : ∀ i, i < 4 → bo i = bo' i) : fb4 bo = fb4 bo' := sb_congr (fun i hi => by rw [h i hi])
theorem subB_c {bo bo' : Nat → Int} (h : ∀ i, i < 4 → bo i = bo' i) (z : Int) : subB bo z = subB bo' z := by
  unfold subB
  have e : (∀ i : Nat, i < 4 → bt z i = 1 → 0 < bo i) = (∀ i : Nat, i < 4 → bt z i = 1 → 0 < bo' i) := by
    apply propext
    exact ⟨fun q i hi hb => by rw [← h i hi]; exact q i hi hb, fun q i hi hb => by rw [h i hi]; exact q i hi hb⟩
  simp only [e]
theorem bw_c {bo bo' : Nat → Int} (h : ∀ i, i < 4 → bo i = bo' i) (lack : Int) : ∀ n, bw bo lack n = bw bo' lack n
  | 0 => rfl
  | n + 1 => by
    unfold bw cst
    rw [bw_c h lack n, subB_c h, hd4_c h, hd4_c h]
theorem vPour_c {bo bo' : Nat → Int} (h : ∀ i, i < 4 → bo i = bo' i) (w f : Int) : vPour w bo f = vPour w bo' f := by
  unfold vPour
  rw [bw_c h, fb4_c h]
theorem b_hit {c : Nat} {M : Mm_} (h : INV c M) (k : Nat) : hitM M k (3 * M.1 48 3).toNat = hitF (M.1 7) (M.1 9) (M.1 10) (M.1 8 7) (M.1 13) (M.1 14) (M.1 6) k (M.1 3 4 * 3).toNat := by
  have hn := I_n h
  unfold hitM hitF
  rw [I_3 h, Int.mul_comm 3]
  refine sm_congr (fun i hi => ?_)
  rw [I_gr h, FM_t h (GE_sl (GE_0 h) (by omega)), I_w h]
theorem b_pail {c : Nat} {M : Mm_} (h : INV c M) {k : Nat} (hk : (k : Int) < M.1 3 5) (w : Int) : vPailM M k w = vPail M k w := by
  unfold vPailM vPail
  rw [b_hit h, bw_vPour _ h.2.1.2.2.2.2.2.2.1, vPour_c (I_s3 h), b_f h, I_w h, I_s4 h k hk, I_3 h, Int.mul_comm 3]
theorem b_count {c : Nat} {M : Mm_} (h : INV c M) (w : Int) : vCountM M w = vCount M w := by
  have hn := I_n h
  have h1 : sm (M.1 52) (M.1 48 3).toNat = sm (M.1 9) 4 := by
    rw [I_3 h, sm_tail (f := M.1 9) (n := (M.1 3 4).toNat) 4 (by omega) (fun i a b => (GE_0 h).2 i (by omega) b)]
    exact sm_congr (fun i hi => (GE_0 h).1 i (by omega))
  have h2 : sm (M.1 54) (M.1 48 4).toNat = ob (M.1 8 8) := by
    have hs := h.1.2.2.2.2.1
    unfold ob
    rw [I_4 h, sm_tail (f := bt (M.1 8 8)) (n := (M.1 3 5).toNat) 12 (by omega) (fun i a b => bt_out hs.1 hs.2 a)]
    exact sm_congr (fun i hi => I_s4 h i (by omega))
  have h3 : sm (fun i => if 0 < M.1 55 i then (1 : Int) else 0) 4 = ob (fb4 (M.1 12)) := by
    unfold fb4
    rw [ob_sb _ (by decide)]
    exact sm_congr (fun i hi => by rw [I_s3 h i hi]; simp)
  unfold vCountM vCount
  rw [h1, h2, h3, b_won h, I_3 h, I_4 h, I_8 h, (I_s7 h).1, (I_s7 h).2.1, (I_s7 h).2.2, (I_s6 h).2, h.2.2.1.1, h.2.2.2.2.2.1.1, h.2.2.2.2.2.1.2.1, h.2.2.2.2.2.1.2.2]
theorem b_who {c : Nat} {M : Mm_} (h : INV c M) (q : Int) : whoM M q (3 * M.1 48 3).toNat = justF (M.1 7) (M.1 9) (M.1 10) (M.1 8 7) (M.1 13) (M.1 14) (M.1 6) (M.1 3 5).toNat q (M.1 3 4 * 3).toNat := by
  have hn := I_n h
  unfold whoM justF
  rw [I_3 h, Int.mul_comm 3]
  refine sb_congr (fun i hi => ?_)
  rw [I_gr h, FM_t h (GE_sl (GE_0 h) (by omega)), I_w h, I_4 h]
theorem hfo_c {f f' : Nat → Int} : ∀ {n : Nat} (x : Int64), (∀ i, i < n → f i = f' i) → hfo f n x = hfo f' n x
  | 0, _, _ => rfl
  | n + 1, x, h => by
    show hst (hfo f n x) (f n) = hst (hfo f' n x) (f' n)
    rw [hfo_c x (fun i hi => h i (by omega)), h n (by omega)]
theorem hou_c {V V' : Nat → Nat → Int} : ∀ {n : Nat} (x : Int64), (∀ i, i < n → V i = V' i) → hou V n x = hou V' n x
  | 0, _, _ => rfl
  | n + 1, x, h => by
    show hin (V n) 13 (hou V n x) = hin (V' n) 13 (hou V' n x)
    rw [hou_c x (fun i hi => h i (by omega)), h n (by omega)]
theorem hoq_c {V V' : Nat → Nat → Int} : ∀ {n : Nat} (x : Int64), (∀ i, i < n → V i = V' i) → hoq V n x = hoq V' n x
  | 0, _, _ => rfl
  | n + 1, x, h => by
    show hfo (V n) 7 (hoq V n x) = hfo (V' n) 7 (hoq V' n x)
    rw [hoq_c x (fun i hi => h i (by omega)), h n (by omega)]
theorem b_dig {c : Nat} {M : Mm_} (h : INV c M) : dgM M = dgX M := by
  have hn := I_n h
  unfold dgM dgX dgF whoX
  rw [b_who h, b_won h, b_f h, h.2.2.1.1, h.2.2.1.2, show (fun w : Nat => vCountM M (w : Int)) = (fun w : Nat => vCount M (w : Int)) from funext (fun w => b_count h (w : Int)), I_3 h, I_4 h]
  rw [hou_c (V' := fun i w => vPer M i (w : Int)) _ (fun i hi => funext (fun w => b_per h (by omega) (w : Int))), hoq_c (V' := fun i w => vPail M i (w : Int)) _ (fun i hi => funext (fun w => b_pail h (by omega) (w : Int))), hfo_c (f := M.1 55) (f' := M.1 12) _ (I_s3 h)]
theorem an_adN : ∀ a : Nat, a < 64 → ∀ b : Nat, b < 64 → (an a b = 0 ↔ ad b a = a) := by decide +kernel
theorem an_ad {a b : Int} (h0 : 0 ≤ a) (h1 : a < 64) (h2 : 0 ≤ b) (h3 : b < 64) : an a b = 0 ↔ ad b a = a := by
  obtain ⟨n, rfl⟩ := Int.eq_ofNat_of_zero_le h0
  obtain ⟨m, rfl⟩ := Int.eq_ofNat_of_zero_le h2
  exact an_adN n (by omega) m (by omega)
theorem ff_c {Q Q' : Nat → Option (List Int)} : ∀ (r lo : Nat), (∀ i, lo ≤ i → i < lo + r → Q i = Q' i) → ff Q r lo = ff Q' r lo
  | 0, _, _ => rfl
  | r + 1, lo, h => by
    unfold ff
    rw [h lo (by omega) (by omega), ff_c r (lo + 1) (fun i h1 h2 => h i (by omega) (by omega))]
theorem b_fz {c : Nat} {M : Mm_} (h : INV c M) {q : Int} (hq : 0 ≤ q ∧ q < 64) : ∀ (k lo : Nat) (g g' : Nat → Int), GE M g g' → fz (EnM M q) (M.1 6) (3 * M.1 3 4).toNat k lo g' = fz (Enf (M.1 7) (M.1 10) (M.1 8 7) (M.1 13) (M.1 14) (M.1 3 5).toNat q) (M.1 6) (3 * M.1 3 4).toNat k lo g
  | 0, lo, g, g', hg => by
    have hn := I_n h
    have hW := WDc_b (M.1 7) (FA g (M.1 10) (M.1 8 7) (M.1 13) (M.1 14)) (M.1 3 5).toNat (by omega)
    have e : EnM M q g' = Enf (M.1 7) (M.1 10) (M.1 8 7) (M.1 13) (M.1 14) (M.1 3 5).toNat q g := by
      unfold EnM Enf
      rw [FM_t h hg, I_w h, I_4 h]
      exact decide_eq_decide.mpr (an_ad hq.1 hq.2 hW.1 hW.2)
    show (if EnM M q g' = true then some [] else none) = (if Enf _ _ _ _ _ _ q g = true then some [] else none)
    rw [e]
  | k + 1, lo, g, g', hg => by
    rw [fz_c, fz_c]
    refine ff_c _ _ (fun i h1 h2 => ?_)
    rw [b_fz h hq k i _ _ (GE_sl hg (by omega))]
theorem b_few {c : Nat} {M : Mm_} (h : INV c M) {q : Int} (hq : 0 ≤ q ∧ q < 64) : fewM M q 4 0 = fewR (M.1 7) (M.1 10) (M.1 8 7) (M.1 13) (M.1 14) (M.1 3 5).toNat q (M.1 6) (M.1 3 4 * 3).toNat (M.1 9) 4 0 := by
  unfold fewM fewR fzE
  refine ff_c _ _ (fun i h1 h2 => ?_)
  rw [I_gr h, I_3 h, b_fz h hq i 0 _ _ (GE_0 h), Int.mul_comm 3]
theorem b_day {c : Nat} {M : Mm_} (h : INV c M) (day : Nat) {g g' : Nat → Int} (hg : GE M g g') : dayVM M day g' = dayV (M.1 7) (M.1 10) (M.1 8 7) (M.1 13) (M.1 14) (M.1 3 5).toNat day g := by
  unfold dayVM dayV
  rw [I_w h, I_4 h]
  by_cases hd : day = 0
  · rw [show decide (day = 0) = true from decide_eq_true hd, FM_t h hg, if_pos hd]
  · rw [show decide (day = 0) = false from decide_eq_false hd, FM_f h hg, if_neg hd, FA_0]
theorem b_fd {c : Nat} {M : Mm_} (h : INV c M) : ∀ (r day : Nat) (g g' : Nat → Int) (sets : Int) (pre : List Int) (b : Int × List Int), GE M g g' → fd (dayVM M) (sl1 (M.1 6)) (nt (M.1 4) (M.1 3 4).toNat) (3 * (M.1 3 4).toNat) r day g' sets pre b = fd (dayV (M.1 7) (M.1 10) (M.1 8 7) (M.1 13) (M.1 14) (M.1 3 5).toNat) (sl1 (M.1 6)) (nt (M.1 4) (M.1 3 4).toNat) (3 * (M.1 3 4).toNat) r day g sets pre b
  | 0, day, g, g', sets, pre, b, hg => rfl
  | r + 1, day, g, g', sets, pre, b, hg => by
    have hn := I_n h
    show fo _ _ b = fo _ _ b
    refine fo_congr (fun k hk b => ?_)
    have h1 : GE M (sl1 (M.1 6) ((k : Int) - 1) g) (sl1 (M.1 6) ((k : Int) - 1) g') := GE_sl hg (by omega)
    rw [b_day h day h1, b_fd h r (day + 1) _ _ _ _ b (GE_nt h1 hn.1)]
theorem b_week {c : Nat} {M : Mm_} (h : INV c M) (days : Nat) : weekM M days = weekD (M.1 7) (M.1 10) (M.1 8 7) (M.1 13) (M.1 14) (M.1 3 5).toNat (M.1 6) (M.1 4) (M.1 3 4).toNat days 0 (M.1 9) 0 [] (-1, []) := by
  have hn := I_n h
  unfold weekM weekD
  rw [I_gr h, I_kd h, I_3 h, show (3 * M.1 3 4).toNat = 3 * (M.1 3 4).toNat by omega, b_fd h days 0 _ _ 0 [] (-1, []) (GE_0 h)]
theorem b_wks {c : Nat} {M : Mm_} (h : INV c M) (hp : 0 < M.1 3 4) (s : Int) : ∀ i, GE M (wkN (M.1 7) (M.1 10) (M.1 6) (M.1 4) (M.1 3 4).toNat (M.1 3 5).toNat i (M.1 9, 0, s)).1 (wkNM M i (M.1 52, 0, s)).1 ∧ (wkNM M i (M.1 52, 0, s)).2 = (wkN (M.1 7) (M.1 10) (M.1 6) (M.1 4) (M.1 3 4).toNat (M.1 3 5).toNat i (M.1 9, 0, s)).2
  | 0 => ⟨GE_0 h, rfl⟩
  | i + 1 => by
    have hn := I_n h
    obtain ⟨h1, h2⟩ := b_wks h hp s i
    show GE M (wkS _ _ _ _ _ _ (wkN (M.1 7) (M.1 10) (M.1 6) (M.1 4) (M.1 3 4).toNat (M.1 3 5).toNat i (M.1 9, 0, s))).1 (wkSM M (wkNM M i (M.1 52, 0, s))).1 ∧ (wkSM M (wkNM M i (M.1 52, 0, s))).2 = (wkS _ _ _ _ _ _ (wkN (M.1 7) (M.1 10) (M.1 6) (M.1 4) (M.1 3 4).toNat (M.1 3 5).toNat i (M.1 9, 0, s))).2
    unfold wkS wkSM
    simp only
    rw [h2, I_gr h, I_kd h, I_3 h, I_w h, I_4 h, show (((M.1 3 4).toNat : Nat) : Int) = M.1 3 4 by omega]
    obtain ⟨sd, esd⟩ : ∃ sd, (wkN (M.1 7) (M.1 10) (M.1 6) (M.1 4) (M.1 3 4).toNat (M.1 3 5).toNat i (M.1 9, 0, s)).2.2 = sd := ⟨_, rfl⟩
    rw [esd]
    have hb1 := Int.emod_nonneg (nsd sd / 65536) (show M.1 3 4 ≠ 0 by omega)
    have hb2 := Int.emod_lt_of_pos (nsd sd / 65536) hp
    have hb3 := Int.emod_lt_of_pos (nsd (nsd sd) / 65536) (show (0 : Int) < 4 by decide)
    have h5 := GE_sl (gr := M.1 6) (q := if nsd (nsd sd) / 65536 % 4 = 3 then -1 else 3 * (nsd sd / 65536 % M.1 3 4) + nsd (nsd sd) / 65536 % 4) h1 (by split <;> omega)
    refine ⟨GE_nt h5 hn.1, ?_⟩
    rw [FM_f h h5]

