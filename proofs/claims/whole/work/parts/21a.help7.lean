/-! the tape: runs of signs, tokens, laws -/
def isB (x : Int) : Bool := decide (x = 32)
def isL (x : Int) : Bool := decide (97 ≤ x ∧ x ≤ 122)
def isD (x : Int) : Bool := decide (48 ≤ x ∧ x ≤ 57)
def runN (c : Int → Bool) (f : Nat → Int) : Nat → Nat → Nat
  | 0, p => p
  | k + 1, p => if c (f p) = true then runN c f k (p + 1) else p
def run (c : Int → Bool) (f : Nat → Int) (n p : Nat) : Nat := runN c f (n - p) p
theorem run_y {c : Int → Bool} {f : Nat → Int} {n p : Nat} (h : p < n) (hc : c (f p) = true) : run c f n p = run c f n (p + 1) := by
  unfold run
  rw [show n - p = (n - (p + 1)) + 1 by omega]
  show (if c (f p) = true then _ else _) = _
  rw [if_pos hc]
theorem run_n {c : Int → Bool} {f : Nat → Int} {n p : Nat} (hc : ¬ c (f p) = true) : run c f n p = p := by
  unfold run
  cases n - p with
  | zero => rfl
  | succ k =>
    show (if c (f p) = true then _ else _) = _
    rw [if_neg hc]
theorem run_e {c : Int → Bool} {f : Nat → Int} {n p : Nat} (h : n ≤ p) : run c f n p = p := by
  unfold run
  rw [show n - p = 0 by omega]
  rfl
theorem runN_in (c : Int → Bool) (f : Nat → Int) : ∀ k p, p ≤ runN c f k p ∧ runN c f k p ≤ p + k
  | 0, p => ⟨Nat.le_refl _, Nat.le_refl _⟩
  | k + 1, p => by
    have ih := runN_in c f k (p + 1)
    show p ≤ (if c (f p) = true then _ else _) ∧ (if c (f p) = true then _ else _) ≤ _
    split <;> omega
theorem run_in (c : Int → Bool) (f : Nat → Int) {n p : Nat} (h : p ≤ n) : p ≤ run c f n p ∧ run c f n p ≤ n := by
  have := runN_in c f (n - p) p
  unfold run
  omega
theorem run_all {c : Int → Bool} {f : Nat → Int} {n : Nat} : ∀ k p, n - p = k → ∀ j, p ≤ j → j < run c f n p → c (f j) = true
  | 0, p, hk, j, h1, h2 => by rw [run_e (by omega)] at h2; omega
  | k + 1, p, hk, j, h1, h2 => by
    by_cases hc : c (f p) = true
    · rw [run_y (by omega) hc] at h2
      by_cases e : j = p
      · rw [e]; exact hc
      · exact run_all k (p + 1) (by omega) j (by omega) h2
    · rw [run_n hc] at h2
      omega
theorem run_stop {c : Int → Bool} {f : Nat → Int} {n : Nat} : ∀ k p, n - p = k → run c f n p < n → ¬ c (f (run c f n p)) = true
  | 0, p, hk, h => by rw [run_e (by omega)] at h; omega
  | k + 1, p, hk, h => by
    by_cases hc : c (f p) = true
    · rw [run_y (by omega) hc] at h ⊢
      exact run_stop k (p + 1) (by omega) h
    · rw [run_n hc]
      exact hc
theorem run_congr {c : Int → Bool} {f g : Nat → Int} (h : ∀ j, c (f j) = c (g j)) : ∀ k p, runN c f k p = runN c g k p
  | 0, _ => rfl
  | k + 1, p => by
    show (if c (f p) = true then _ else _) = (if c (g p) = true then _ else _)
    rw [h p, run_congr h k (p + 1)]
theorem isB_i {x : Int} : isB x = true ↔ x = 32 := by unfold isB; exact decide_eq_true_iff
theorem isL_i {x : Int} : isL x = true ↔ 97 ≤ x ∧ x ≤ 122 := by unfold isL; exact decide_eq_true_iff
theorem isD_i {x : Int} : isD x = true ↔ 48 ≤ x ∧ x ≤ 57 := by unfold isD; exact decide_eq_true_iff
/-- the end of a token that begins at b -/
def tkE (f : Nat → Int) (n b : Nat) : Nat := if b < run isL f n b then run isL f n b else if run isD f n b = b ∧ b < n then b + 1 else run isD f n b
/-- a number's value -/
def numV (f : Nat → Int) (b : Nat) : Nat → Int
  | 0 => 0
  | k + 1 => 10 * numV f b k + f (b + k) - 48
theorem numV_in {f : Nat → Int} {b : Nat} : ∀ k, (∀ j, j < k → 48 ≤ f (b + j) ∧ f (b + j) ≤ 57) → k ≤ 3 → 0 ≤ numV f b k ∧ numV f b k ≤ 999 ∧ (k ≤ 2 → numV f b k ≤ 99) ∧ (k ≤ 1 → numV f b k ≤ 9) ∧ (k ≤ 0 → numV f b k ≤ 0)
  | 0, _, _ => by simp [numV]
  | k + 1, h, hk => by
    have ih := numV_in (f := f) (b := b) k (fun j hj => h j (by omega)) (by omega)
    have g := h k (Nat.lt_succ_self _)
    unfold numV
    refine ⟨by omega, ?_, fun _ => ?_, fun _ => ?_, fun z => absurd z (by omega)⟩
    · by_cases c : k ≤ 1
      · by_cases c2 : k ≤ 0
        · have := ih.2.2.2.2 c2; omega
        · have := ih.2.2.2.1 c; omega
      · have := ih.2.2.1 (by omega); omega
    · have := ih.2.2.2.1 (by omega); omega
    · have := ih.2.2.2.2 (by omega); omega
/-- the words -/
def wdL : List (List Int) := [[107, 110, 111, 119, 110], [115, 116, 114, 97, 110, 103, 101], [114, 111, 117, 110, 100], [108, 101, 97, 115, 116], [109, 111, 115, 116]]
def wdIs (f : Nat → Int) (b e : Nat) (w : List Int) : Prop := e - b = w.length ∧ b ≤ e ∧ ∀ j, j < w.length → f (b + j) = w.getD j 0
