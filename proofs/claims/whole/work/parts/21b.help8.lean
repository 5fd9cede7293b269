/-! sums, counts, halls -/
def sumR (k w c b : Nat → Int) (kd : Int) : Nat → Int
  | 0 => 0
  | n + 1 => sumR k w c b kd n + (if b n < 0 ∧ (kd < 0 ∨ k n = kd) then TW (k n) (w n) (c n) else 0)
theorem sumR_in {k w c b : Nat → Int} {kd : Int} (hw : ∀ j, j < 30 → 0 ≤ w j ∧ w j ≤ 999) : ∀ n, n ≤ 30 → 0 ≤ sumR k w c b kd n ∧ sumR k w c b kd n ≤ 1049 * n
  | 0, _ => by simp [sumR]
  | n + 1, h => by
    have ih := sumR_in (k := k) (c := c) (b := b) (kd := kd) hw n (by omega)
    have t := TW_in (k n) (c n) (hw n (by omega)).1 (hw n (by omega)).2
    unfold sumR
    split <;> omega
def solN (b : Nat → Int) : Nat → Int
  | 0 => 0
  | n + 1 => solN b n + (if 0 ≤ b n then 1 else 0)
theorem solN_in (b : Nat → Int) : ∀ n, 0 ≤ solN b n ∧ solN b n ≤ n
  | 0 => by simp [solN]
  | n + 1 => by
    have ih := solN_in b n
    unfold solN
    split <;> omega
def useX (M : Mem) : Nat → Int
  | 0 => 0
  | n + 1 => useX M n + (if M (1 + 96 + 2 * n) 1 = -1 then 0 else 1)
def useM (f : Nat → Int) : Nat → Int
  | 0 => 0
  | n + 1 => useM f n + (if f n < 0 then 0 else 1)
theorem useX_in (M : Mem) : ∀ n, 0 ≤ useX M n ∧ useX M n ≤ n
  | 0 => by simp [useX]
  | n + 1 => by
    have ih := useX_in M n
    unfold useX
    split <;> omega
theorem useM_in (f : Nat → Int) : ∀ n, 0 ≤ useM f n ∧ useM f n ≤ n
  | 0 => by simp [useM]
  | n + 1 => by
    have ih := useM_in f n
    unfold useM
    split <;> omega
/-- the finest that is not gone: the last of several -/
def fnR (g T K : Nat → Int) (ks : Int) : Nat → Int
  | 0 => -1
  | n + 1 => if g n = 0 ∧ hb ks (K n) ∧ (fnR g T K ks n < 0 ∨ T (fnR g T K ks n).toNat ≤ T n) then n else fnR g T K ks n
theorem fnR_in (g T K : Nat → Int) (ks : Int) : ∀ n : Nat, -1 ≤ fnR g T K ks n ∧ fnR g T K ks n < n
  | 0 => by simp [fnR]
  | n + 1 => by
    have ih := fnR_in g T K ks n
    unfold fnR
    split <;> omega
/-- which thing a hall takes, which hall is next, what is gone -/
def hpk (g T K : Nat → Int) (n : Nat) (h : Int) : Int := if 0 ≤ (if h = 1 then fnR g T K 48 n else if h = 2 then fnR g T K 14 n else -1) then (if h = 1 then fnR g T K 48 n else if h = 2 then fnR g T K 14 n else -1) else fnR g T K 63 n
def hgo (T K : Nat → Int) (n : Nat) (f : Int) (g0 : Nat → Int) : Nat → Nat → Int
  | 0 => g0
  | m + 1 => us (hgo T K n f g0 m) (hpk (hgo T K n f g0 m) T K n ((f + (m : Int)).tmod 3)).toNat 1
def hpm (T K : Nat → Int) (n : Nat) (f : Int) (g0 : Nat → Int) (m : Nat) : Int := hpk (hgo T K n f g0 m) T K n ((f + (m : Int)).tmod 3)
theorem fnR_ok {g T K : Nat → Int} {ks : Int} : ∀ n : Nat, fnR g T K ks n = -1 ∨ ∃ j : Nat, j < n ∧ fnR g T K ks n = j ∧ g j = 0 ∧ hb ks (K j)
  | 0 => Or.inl rfl
  | n + 1 => by
    unfold fnR
    split
    · rename_i h
      exact Or.inr ⟨n, Nat.lt_succ_self _, rfl, h.1, h.2.1⟩
    · rcases fnR_ok (g := g) (T := T) (K := K) (ks := ks) n with h | ⟨j, h1, h2⟩
      · exact Or.inl h
      · exact Or.inr ⟨j, by omega, h2⟩
theorem fnR_some {g T K : Nat → Int} {ks : Int} {j : Nat} (hg : g j = 0) (hk : hb ks (K j)) : ∀ n : Nat, j < n → fnR g T K ks n ≠ -1
  | 0, h => absurd h (Nat.not_lt_zero _)
  | n + 1, h => by
    have r := fnR_in g T K ks n
    unfold fnR
    by_cases c : g n = 0 ∧ hb ks (K n) ∧ (fnR g T K ks n < 0 ∨ T (fnR g T K ks n).toNat ≤ T n)
    · rw [if_pos c]; omega
    · rw [if_neg c]
      by_cases e : j = n
      · subst e
        intro z
        exact c ⟨hg, hk, Or.inl (by omega)⟩
      · exact fnR_some hg hk n (by omega)
theorem hb63 {k : Int} (h0 : 0 ≤ k) (h1 : k ≤ 5) : hb 63 k := by
  rcases (show k = 0 ∨ k = 1 ∨ k = 2 ∨ k = 3 ∨ k = 4 ∨ k = 5 by omega) with rfl | rfl | rfl | rfl | rfl | rfl <;> decide
theorem hpk_ok {g T K : Nat → Int} {n j : Nat} {h : Int} (hj : j < n) (hg : g j = 0) (hk : 0 ≤ K j ∧ K j ≤ 5) : ∃ t : Nat, t < n ∧ hpk g T K n h = t ∧ g t = 0 := by
  unfold hpk
  by_cases c : 0 ≤ (if h = 1 then fnR g T K 48 n else if h = 2 then fnR g T K 14 n else -1)
  · rw [if_pos c]
    by_cases c1 : h = 1
    · rw [if_pos c1] at c ⊢
      rcases fnR_ok (g := g) (T := T) (K := K) (ks := 48) n with e | ⟨t, a, b, d, -⟩
      · omega
      · exact ⟨t, a, b, d⟩
    · rw [if_neg c1] at c ⊢
      by_cases c2 : h = 2
      · rw [if_pos c2] at c ⊢
        rcases fnR_ok (g := g) (T := T) (K := K) (ks := 14) n with e | ⟨t, a, b, d, -⟩
        · omega
        · exact ⟨t, a, b, d⟩
      · rw [if_neg c2] at c; exact absurd c (by decide)
  · rw [if_neg c]
    rcases fnR_ok (g := g) (T := T) (K := K) (ks := 63) n with e | ⟨t, a, b, d, -⟩
    · exact absurd e (fnR_some hg (hb63 hk.1 hk.2) n hj)
    · exact ⟨t, a, b, d⟩
/-- how many are not gone -/
def ngN (g : Nat → Int) : Nat → Nat
  | 0 => 0
  | n + 1 => ngN g n + (if g n = 0 then 1 else 0)
theorem ngN_o {g : Nat → Int} {t : Nat} : ∀ n, n ≤ t → ngN (us g t 1) n = ngN g n
  | 0, _ => rfl
  | n + 1, h => by
    unfold ngN
    rw [ngN_o n (by omega), us_o (by omega : n ≠ t)]
theorem ngN_u {g : Nat → Int} {t : Nat} (hg : g t = 0) : ∀ n, t < n → ngN (us g t 1) n + 1 = ngN g n
  | 0, h => absurd h (Nat.not_lt_zero _)
  | n + 1, h => by
    unfold ngN
    by_cases e : t = n
    · subst e
      rw [ngN_o t (Nat.le_refl _), us_k, if_neg (by decide), hg, if_pos rfl]
    · have ih := ngN_u hg n (by omega)
      rw [us_o (fun z => e z.symm)]
      omega
