/-! the tables' plan -/
theorem jsh6 : ∀ n : Fin 6, 1 ≤ jshl 1 (n.val : Int) ∧ jshl 1 (n.val : Int) ≤ 32 := by decide +kernel
theorem jsh1 {n : Int} (h0 : 0 ≤ n) (h1 : n ≤ 5) : 1 ≤ jshl 1 n ∧ jshl 1 n ≤ 32 := by
  have h := jsh6 ⟨n.toNat, by omega⟩
  have e : ((n.toNat : Nat) : Int) = n := by omega
  simp only [e] at h
  exact h
theorem jorWa : ∀ (n : Fin 6) (b : Fin 32) (a : Fin 5), ¬ ((b.val : Int) ≤ jshl 1 (n.val : Int) - 1) ∨ ¬ a.val < n.val ∨ hb (b.val : Int) (a.val : Int) ∨ ((b.val : Int) < jor (b.val : Int) (jshl 1 (a.val : Int)) ∧ jor (b.val : Int) (jshl 1 (a.val : Int)) ≤ jshl 1 (n.val : Int) - 1 ∧ bc8 (jor (b.val : Int) (jshl 1 (a.val : Int))) = bc8 (b.val : Int) + 1) := by decide +kernel
theorem jorW {n b a : Int} (h0 : 0 ≤ n ∧ n ≤ 5) (h1 : 0 ≤ b ∧ b ≤ jshl 1 n - 1) (h2 : 0 ≤ a ∧ a < n) (h3 : ¬ hb b a) : b < jor b (jshl 1 a) ∧ jor b (jshl 1 a) ≤ jshl 1 n - 1 ∧ bc8 (jor b (jshl 1 a)) = bc8 b + 1 := by
  have hn := jsh1 h0.1 h0.2
  have h := jorWa ⟨n.toNat, by omega⟩ ⟨b.toNat, by omega⟩ ⟨a.toNat, by omega⟩
  have e1 : ((b.toNat : Nat) : Int) = b := by omega
  have e2 : ((a.toNat : Nat) : Int) = a := by omega
  have e3 : ((n.toNat : Nat) : Int) = n := by omega
  simp only [e1, e2, e3] at h
  rcases h with h | h | h | h
  · exact absurd h1.2 h
  · exact absurd (show a.toNat < n.toNat by omega) h
  · exact absurd h h3
  · exact h
theorem bc8_5a : ∀ b : Fin 32, bc8 (b.val : Int) ≤ 5 := by decide +kernel
theorem bc8_5 {b : Int} (h0 : 0 ≤ b) (h1 : b < 32) : 0 ≤ bc8 b ∧ bc8 b ≤ 5 := by
  have h := bc8_5a ⟨b.toNat, by omega⟩
  have e : ((b.toNat : Nat) : Int) = b := by omega
  simp only [e] at h
  exact ⟨(bc8_in b).1, h⟩
theorem blS_nb {w : Int → Int} {bz : Int} : ∀ n : Nat, (blS w bz n).1 = -1 ∨ ((0 ≤ (blS w bz n).1 ∧ (blS w bz n).1 < n) ∧ ¬ hb bz (blS w bz n).1)
  | 0 => Or.inl rfl
  | n + 1 => by
    have ih := blS_nb (w := w) (bz := bz) n
    unfold blS
    split
    · next c => exact Or.inr ⟨⟨by show (0 : Int) ≤ n; omega, by show (n : Int) < _; omega⟩, c.1⟩
    · rcases ih with h | h
      · exact Or.inl h
      · exact Or.inr ⟨⟨h.1.1, by omega⟩, h.2⟩
/-- what is lost at the least with those who have a table -/
def plV (LA LL : Nat → Int) (b : Int) (n : Nat) (tc : Int) : Int := if tc ≤ bc8 b then 0 else if (blS (lwV LA LL b (bc8 b)) b n).1 = -1 then 0 else lwV LA LL b (bc8 b) (blS (lwV LA LL b (bc8 b)) b n).1
def plS (LA L0 : Nat → Int) (n : Nat) (tc tp : Int) : Nat → Nat → Int
  | 0 => L0
  | k + 1 => us (plS LA L0 n tc tp k) (tp - k).toNat (plV LA (plS LA L0 n tc tp k) (tp - k) n tc)
theorem plS_in {LA L0 : Nat → Int} {n : Int} {tc : Int} (hn : 0 ≤ n ∧ n ≤ 5) (ht : tc ≤ 5) (hA : ∀ a t : Nat, (a : Int) < n → (t : Int) < tc → 0 ≤ LA (a * 5 + t) ∧ LA (a * 5 + t) ≤ 40000) : ∀ k : Nat, (k : Int) ≤ jshl 1 n → ∀ j : Nat, jshl 1 n - 1 - k < j → (j : Int) ≤ jshl 1 n - 1 → 0 ≤ plS LA L0 n.toNat tc (jshl 1 n - 1) k j ∧ plS LA L0 n.toNat tc (jshl 1 n - 1) k j ≤ 40000 * (5 - bc8 j)
  | 0, _, j, h1, h2 => by omega
  | k + 1, hk, j, h1, h2 => by
    have ih := plS_in (LA := LA) (L0 := L0) (tc := tc) hn ht hA k (by omega)
    have hp := jsh1 hn.1 hn.2
    show 0 ≤ us _ _ _ j ∧ us _ _ _ j ≤ _
    by_cases e : j = (jshl 1 n - 1 - k).toNat
    · rw [e, us_k]
      have e2 : (((jshl 1 n - 1 - k).toNat : Nat) : Int) = jshl 1 n - 1 - k := by omega
      rw [e2]
      have hb5 := bc8_5 (b := jshl 1 n - 1 - k) (by omega) (by omega)
      unfold plV
      split
      · omega
      · next c =>
        split
        · omega
        · next d =>
          rcases blS_nb (w := lwV LA (plS LA L0 n.toNat tc (jshl 1 n - 1) k) (jshl 1 n - 1 - k) (bc8 (jshl 1 n - 1 - k))) (bz := jshl 1 n - 1 - k) n.toNat with g | g
          · exact absurd g d
          · generalize (blS (lwV LA (plS LA L0 n.toNat tc (jshl 1 n - 1) k) (jshl 1 n - 1 - k) (bc8 (jshl 1 n - 1 - k))) (jshl 1 n - 1 - k) n.toNat).1 = a at g ⊢
            have w := jorW hn (b := jshl 1 n - 1 - k) (a := a) (by omega) (by omega) g.2
            have i1 := ih (jor (jshl 1 n - 1 - k) (jshl 1 a)).toNat (by omega) (by omega)
            have e3 : (((jor (jshl 1 n - 1 - k) (jshl 1 a)).toNat : Nat) : Int) = jor (jshl 1 n - 1 - k) (jshl 1 a) := by omega
            rw [e3, w.2.2] at i1
            have i2 := hA a.toNat (bc8 (jshl 1 n - 1 - k)).toNat (by omega) (by omega)
            unfold lwV
            rw [show (a * 5 + bc8 (jshl 1 n - 1 - k)).toNat = a.toNat * 5 + (bc8 (jshl 1 n - 1 - k)).toNat by omega]
            omega
    · rw [us_o e]
      exact ih j (by omega) h2
/-- the ladies of the tables, one after another -/
def lyS (LA LL : Nat → Int) (n : Nat) (tc : Int) : Nat → Int × Int
  | 0 => (0, -1)
  | t + 1 =>
    let l := if tc ≤ (t : Int) then -1 else (blS (lwV LA LL (lyS LA LL n tc t).1 t) (lyS LA LL n tc t).1 n).1
    (if l = -1 then (lyS LA LL n tc t).1 else jor (lyS LA LL n tc t).1 (jshl 1 l), l)
theorem lyS_in {LA LL : Nat → Int} {n tc : Int} (hn : 0 ≤ n ∧ n ≤ 5) : ∀ t : Nat, (0 ≤ (lyS LA LL n.toNat tc t).1 ∧ (lyS LA LL n.toNat tc t).1 ≤ jshl 1 n - 1) ∧ -1 ≤ (lyS LA LL n.toNat tc t).2 ∧ (lyS LA LL n.toNat tc t).2 < n
  | 0 => by
    have := jsh1 hn.1 hn.2
    exact ⟨⟨by show (0 : Int) ≤ 0; omega, by show (0 : Int) ≤ _; omega⟩, by show (-1 : Int) ≤ -1; omega, by show (-1 : Int) < _; omega⟩
  | t + 1 => by
    have ih := lyS_in (LA := LA) (LL := LL) (tc := tc) hn t
    have hp := jsh1 hn.1 hn.2
    unfold lyS
    simp only
    by_cases c : tc ≤ (t : Int)
    · rw [if_pos c, if_pos rfl]
      exact ⟨ih.1, by omega, by omega⟩
    · rw [if_neg c]
      rcases blS_nb (w := lwV LA LL (lyS LA LL n.toNat tc t).1 t) (bz := (lyS LA LL n.toNat tc t).1) n.toNat with g | g
      · rw [g, if_pos rfl]
        exact ⟨ih.1, by omega, by omega⟩
      · generalize (blS (lwV LA LL (lyS LA LL n.toNat tc t).1 t) (lyS LA LL n.toNat tc t).1 n.toNat).1 = a at g ⊢
        rw [if_neg (by omega)]
        have w := jorW hn (b := (lyS LA LL n.toNat tc t).1) (a := a) ih.1 (by omega) g.2
        exact ⟨⟨by omega, w.2.1⟩, by omega, by omega⟩
theorem lyS_n {LA LL : Nat → Int} {n : Nat} {tc : Int} {t : Nat} (h : tc ≤ (t : Int)) : lyS LA LL n tc (t + 1) = ((lyS LA LL n tc t).1, -1) := by
  show (ite _ _ _, ite _ _ _) = _
  rw [if_pos h, if_pos rfl]
theorem lyS_y {LA LL : Nat → Int} {n : Nat} {tc : Int} {t : Nat} {l : Int} (h : ¬ tc ≤ (t : Int)) (hl : l = (blS (lwV LA LL (lyS LA LL n tc t).1 t) (lyS LA LL n tc t).1 n).1) : lyS LA LL n tc (t + 1) = (if l = -1 then (lyS LA LL n tc t).1 else jor (lyS LA LL n tc t).1 (jshl 1 l), l) := by
  show (ite _ _ _, ite _ _ _) = _
  rw [if_neg h, ← hl]
