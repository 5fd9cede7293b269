/-! things of a row, the reference's -/
def thsR (M : Mem) (f : Nat → Int) (k : Int) : Nat → Mem
  | 0 => M
  | n + 1 => addM (thsR M f k n) k (f n) 0
theorem thsR_c (M : Mem) (f : Nat → Int) (k : Int) : ∀ n, thsR M f k n 200 3 = M 200 3 + n
  | 0 => by simp [thsR]
  | n + 1 => by
    show addM (thsR M f k n) k (f n) 0 200 3 = _
    unfold addM
    rw [up_o (by decide), up_o (by decide), up_o (by decide), up_o (by decide), up_o (by decide), up_o (by decide), up_k, us_k, thsR_c M f k n]
    omega
theorem thsR_o (M : Mem) (f : Nat → Int) (k : Int) {a : Nat} (h : a ≠ 200 ∧ a ≠ 205 ∧ a ≠ 206 ∧ a ≠ 207 ∧ a ≠ 208 ∧ a ≠ 209 ∧ a ≠ 210) : ∀ n, thsR M f k n a = M a
  | 0 => rfl
  | n + 1 => by
    show addM (thsR M f k n) k (f n) 0 a = _
    unfold addM
    rw [up_o h.2.2.2.2.2.2, up_o h.2.2.2.2.2.1, up_o h.2.2.2.2.1, up_o h.2.2.2.1, up_o h.2.2.1, up_o h.2.1, up_o h.1]
    exact thsR_o M f k h n
theorem rgOK_ths {M : Mem} {f : Nat → Int} {k : Int} {n : Nat} (h : rgOK M) : rgOK (thsR M f k n) := by
  intro j hj
  rw [thsR_o M f k (by decide)]
  exact h j hj
