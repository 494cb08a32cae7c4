
/-! THE WORDS FOR NUMBERS: sums, force, growth, nights -/
def sm (f : Nat → Int) : Nat → Int
  | 0 => 0
  | n + 1 => sm f n + f n
def dst (p q : Int) : Int := if p < q then q - p else p - q
def rch (g p q : Int) : Int := if 2 * dst p q < g then g - 2 * dst p q else 0
def fr (n : Nat) (g p : Nat → Int) (q : Int) : Int := sm (fun i => rch (g i) (p i) q) n
def wth (kind how : Int) : Int := if how = 0 then 4 else if how = 2 then 2 else if kind = 3 then 12 else 6
def gw (kind pride how : Int) : Int := if kind = 1 ∨ kind = 4 then wth kind how * pride / 5 / 2 else wth kind how * pride / 5
def ng (kind g : Int) : Int := if kind = 2 then g else if kind = 4 ∧ 0 < g then g / 2 + 1 else g / 2
def tp (z : Int) : Int := if 99 < z then 99 else z
theorem sm_congr {f g : Nat → Int} : ∀ {n : Nat}, (∀ i, i < n → f i = g i) → sm f n = sm g n
  | 0, _ => rfl
  | n + 1, h => by
    show sm f n + f n = sm g n + g n
    rw [sm_congr (fun i hi => h i (by omega)), h n (by omega)]
theorem sm_le {f : Nat → Int} {c : Int} : ∀ {n : Nat}, (∀ i, i < n → 0 ≤ f i ∧ f i ≤ c) → 0 ≤ sm f n ∧ sm f n ≤ c * n
  | 0, _ => ⟨Int.le_refl 0, by show (0 : Int) ≤ c * (0 : Nat); simp⟩
  | n + 1, h => by
    have h1 := sm_le (n := n) (fun i hi => h i (by omega))
    have h2 := h n (by omega)
    have e : c * ((n + 1 : Nat) : Int) = c * n + c := by rw [show ((n + 1 : Nat) : Int) = (n : Int) + 1 by omega, Int.mul_add, Int.mul_one]
    show 0 ≤ sm f n + f n ∧ sm f n + f n ≤ c * ((n + 1 : Nat) : Int)
    rw [e]
    omega
theorem rch_b {g p q : Int} (h0 : 0 ≤ g) (h1 : g ≤ 99) : 0 ≤ rch g p q ∧ rch g p q ≤ 99 := by
  have hd : 0 ≤ dst p q := by unfold dst; split <;> omega
  unfold rch
  split <;> omega
theorem rch_0 (p q : Int) : rch 0 p q = 0 := by
  have hd : 0 ≤ dst p q := by unfold dst; split <;> omega
  unfold rch
  rw [if_neg (by omega)]
theorem wth_b {kind how : Int} : 2 ≤ wth kind how ∧ wth kind how ≤ 12 := by
  unfold wth
  repeat' split
  all_goals omega
theorem gw_b {kind pride how : Int} (h1 : 0 ≤ pride) (h9 : pride ≤ 9) : 0 ≤ gw kind pride how ∧ gw kind pride how ≤ 21 := by
  have hw := wth_b (kind := kind) (how := how)
  have h0 : 0 ≤ wth kind how * pride := Int.mul_nonneg (by omega) h1
  have h2 : wth kind how * pride ≤ 12 * 9 := Int.mul_le_mul (by omega) h9 h1 (by omega)
  unfold gw
  split <;> omega
theorem ng_b {kind g : Int} (h0 : 0 ≤ g) (h1 : g ≤ 99) : 0 ≤ ng kind g ∧ ng kind g ≤ 99 := by
  unfold ng
  repeat' split
  all_goals omega
theorem tp_b {z : Int} (h0 : 0 ≤ z) : 0 ≤ tp z ∧ tp z ≤ 99 := by
  unfold tp
  split <;> omega
