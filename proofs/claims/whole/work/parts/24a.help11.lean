/-! the longest row of sightings -/
abbrev mbx (y c g b : Nat → Int) (i j : Nat) : Prop := y i < y j ∧ jand (c i) (jxor (c j) (-1)) = 0 ∧ (b i = -1 ∨ g j = -1 ∨ b i = g j)
def lgB (y c g b len : Nat → Int) (j : Nat) : Nat → Int
  | 0 => 0
  | n + 1 => if mbx y c g b n j then (if lgB y c g b len j n < len n then len n else lgB y c g b len j n) else lgB y c g b len j n
theorem lgB_y {y c g b len : Nat → Int} {j n : Nat} (h : mbe y c g b n j) : lgB y c g b len j (n + 1) = if lgB y c g b len j n < len n then len n else lgB y c g b len j n := by
  have h2 : mbx y c g b n j := h
  rw [lgB, if_pos h2]
theorem lgB_n {y c g b len : Nat → Int} {j n : Nat} (h : ¬ mbe y c g b n j) : lgB y c g b len j (n + 1) = lgB y c g b len j n := by
  have h2 : ¬ mbx y c g b n j := h
  rw [lgB, if_neg h2]
theorem lgB_in {y c g b len : Nat → Int} {j : Nat} {B : Int} (hB : 0 ≤ B) : ∀ n, (∀ a, a < n → mbe y c g b a j → 0 ≤ len a ∧ len a ≤ B) → 0 ≤ lgB y c g b len j n ∧ lgB y c g b len j n ≤ B
  | 0, _ => ⟨Int.le_refl _, hB⟩
  | n + 1, h => by
    have ih := lgB_in (j := j) hB n (fun a ha => h a (by omega))
    by_cases c1 : mbe y c g b n j
    · have := h n (Nat.lt_succ_self _) c1
      rw [lgB_y c1]
      split <;> omega
    · rw [lgB_n c1]
      exact ih
def lgI (y c g b : Nat → Int) (n : Nat) (yr : Int) (s : (Nat → Int) × Int) : Nat → (Nat → Int) × Int
  | 0 => s
  | i + 1 => if y i = yr then (us (lgI y c g b n yr s i).1 i (1 + lgB y c g b (lgI y c g b n yr s i).1 i n), if (lgI y c g b n yr s i).2 < 1 + lgB y c g b (lgI y c g b n yr s i).1 i n then 1 + lgB y c g b (lgI y c g b n yr s i).1 i n else (lgI y c g b n yr s i).2) else lgI y c g b n yr s i
def lgO (y c g b : Nat → Int) (n : Nat) (s : (Nat → Int) × Int) : Nat → (Nat → Int) × Int
  | 0 => s
  | k + 1 => lgI y c g b n k (lgO y c g b n s k) n
def lgOK (y : Nat → Int) (n : Nat) (k : Int) (i : Nat) (s : (Nat → Int) × Int) : Prop := (∀ a, a < n → y a < k ∨ (y a = k ∧ a < i) → 1 ≤ s.1 a ∧ s.1 a ≤ y a + 1) ∧ 0 ≤ s.2 ∧ s.2 ≤ 101
theorem lgI_ok {y c g b : Nat → Int} {n : Nat} {k : Int} {s : (Nat → Int) × Int} (hy : ∀ a, a < n → 0 ≤ y a ∧ y a ≤ 99) (h : lgOK y n k 0 s) : ∀ i, i ≤ n → lgOK y n k i (lgI y c g b n k s i)
  | 0, _ => h
  | i + 1, hi => by
    have ih := lgI_ok (c := c) (g := g) (b := b) hy h i (by omega)
    unfold lgI
    by_cases c1 : y i = k
    · rw [if_pos c1]
      have hyi := hy i (by omega)
      have hl := lgB_in (y := y) (c := c) (g := g) (b := b) (len := (lgI y c g b n k s i).1) (j := i) (B := k) (by omega) n (fun a ha hm => by
        have hm1 : y a < y i := hm.1
        have := ih.1 a ha (Or.inl (by omega))
        omega)
      refine ⟨fun a ha hq => ?_, ?_⟩
      · show 1 ≤ us _ _ _ _ ∧ us _ _ _ _ ≤ _
        unfold us
        by_cases e : a = i
        · rw [if_pos e, e]; omega
        · rw [if_neg e]
          exact ih.1 a ha (by omega)
      · simp only
        have := ih.2
        split <;> omega
    · rw [if_neg c1]
      exact ⟨fun a ha hq => ih.1 a ha (by
        rcases hq with hq | hq
        · exact Or.inl hq
        · by_cases e : a = i
          · subst e; omega
          · exact Or.inr ⟨hq.1, by omega⟩), ih.2⟩
theorem lgO_ok {y c g b : Nat → Int} {n : Nat} {f : Nat → Int} (hy : ∀ a, a < n → 0 ≤ y a ∧ y a ≤ 99) : ∀ k : Nat, lgOK y n k 0 (lgO y c g b n (f, 0) k)
  | 0 => ⟨fun a ha hq => by have := hy a ha; omega, by show (0 : Int) ≤ 0 ∧ (0 : Int) ≤ 101; omega⟩
  | k + 1 => by
    have ih := lgI_ok (c := c) (g := g) (b := b) hy (lgO_ok (c := c) (g := g) (b := b) (f := f) hy k) n (Nat.le_refl _)
    exact ⟨fun a ha hq => ih.1 a ha (by omega), ih.2⟩
/-- the sightings -/
def siOK (M : Mem) : Prop := ∀ j : Nat, j < 20 → (0 ≤ M 28 j ∧ M 28 j ≤ 99) ∧ (0 ≤ M 29 j ∧ M 29 j ≤ 255) ∧ (-1 ≤ M 30 j ∧ M 30 j ≤ 15) ∧ -1 ≤ M 31 j ∧ M 31 j ≤ 15
def siOKm (M : Mem) : Prop := ∀ j : Nat, j < 20 → (0 ≤ M 228 j ∧ M 228 j ≤ 99) ∧ (0 ≤ M 229 j ∧ M 229 j ≤ 255) ∧ (-1 ≤ M 230 j ∧ M 230 j ≤ 15) ∧ -1 ≤ M 231 j ∧ M 231 j ≤ 15
