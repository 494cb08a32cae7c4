
theorem dv_b {b : Int} (k : Nat) (h0 : 0 ≤ b) : 0 ≤ b / 2 ^ k ∧ b / 2 ^ k ≤ b := by
  have h2 : (0 : Int) < 2 ^ k := Int.pow_pos (by decide)
  exact ⟨Int.ediv_nonneg h0 (by omega), Int.ediv_le_self _ h0⟩
/-- the bits of a row of yes and no -/
def sb (c : Nat → Bool) (n : Nat) : Int := sm (fun i => if c i then 2 ^ i else 0) n
theorem sbb (c : Nat → Bool) : ∀ n, 0 ≤ sb c n ∧ sb c n < 2 ^ n
  | 0 => ⟨Int.le_refl 0, by show (0 : Int) < 2 ^ 0; decide⟩
  | n + 1 => by
    have h := sbb c n
    have h2 : (0 : Int) < 2 ^ n := Int.pow_pos (by decide)
    have e : (2 : Int) ^ (n + 1) = 2 ^ n + 2 ^ n := by rw [Int.pow_succ]; omega
    show 0 ≤ sb c n + (if c n then 2 ^ n else 0) ∧ sb c n + (if c n then 2 ^ n else 0) < 2 ^ (n + 1)
    rw [e]
    split <;> omega
theorem sb_s (c : Nat → Bool) (n : Nat) : sb c (n + 1) = sb c n + (if c n then 2 ^ n else 0) := rfl
theorem sb_congr {c c' : Nat → Bool} {n : Nat} (h : ∀ i, i < n → c i = c' i) : sb c n = sb c' n := sm_congr (fun i hi => by rw [h i hi])
theorem bt_lo {x : Int} {n k : Nat} (hk : k < n) (e : Int) : bt (x + e * 2 ^ n) k = bt x k := by
  obtain ⟨m, rfl⟩ : ∃ m, n = k + 1 + m := ⟨n - (k + 1), by omega⟩
  have h2 : (2 : Int) ^ k ≠ 0 := by have : (0 : Int) < 2 ^ k := Int.pow_pos (by decide); omega
  unfold bt
  rw [show e * (2 : Int) ^ (k + 1 + m) = (e * 2 ^ m * 2) * 2 ^ k by rw [Int.pow_add, Int.pow_succ]; simp only [Int.mul_assoc, Int.mul_comm, Int.mul_left_comm], Int.add_mul_ediv_right _ _ h2]
  omega
theorem bt_hi {x e : Int} {n : Nat} (h0 : 0 ≤ x) (h1 : x < 2 ^ n) (he : e = 0 ∨ e = 1) : bt (x + e * 2 ^ n) n = e := by
  have h2 : (2 : Int) ^ n ≠ 0 := by omega
  unfold bt
  rw [Int.add_mul_ediv_right _ _ h2, Int.ediv_eq_zero_of_lt h0 h1]
  omega
theorem sb_bt (c : Nat → Bool) : ∀ {n k : Nat}, k < n → bt (sb c n) k = if c k then 1 else 0
  | 0, _, h => absurd h (Nat.not_lt_zero _)
  | n + 1, k, h => by
    have e : sb c (n + 1) = sb c n + (if c n then 1 else 0) * 2 ^ n := by
      rw [sb_s]
      split <;> simp
    rw [e]
    by_cases hk : k < n
    · rw [bt_lo hk, sb_bt c hk]
    · have : k = n := by omega
      subst this
      exact bt_hi (sbb c k).1 (sbb c k).2 (by split <;> simp)
theorem bt_out {x : Int} {n k : Nat} (h0 : 0 ≤ x) (h1 : x < 2 ^ n) (hk : n ≤ k) : bt x k = 0 := by
  have h3 : (2 : Nat) ^ n ≤ 2 ^ k := Nat.pow_le_pow_right (by decide) hk
  have h2 : (2 : Int) ^ n ≤ 2 ^ k := by exact_mod_cast h3
  unfold bt
  rw [Int.ediv_eq_zero_of_lt h0 (by omega)]
  decide
