/-! which lady for which table -/
def lwV (LA LL : Nat → Int) (bz tb la : Int) : Int := LA (la * 5 + tb).toNat + LL (jor bz (jshl 1 la)).toNat
theorem jor32a : ∀ (b : Fin 32) (l : Fin 5), 0 ≤ jor (b.val : Int) (jshl 1 (l.val : Int)) ∧ jor (b.val : Int) (jshl 1 (l.val : Int)) < 32 := by decide +kernel
theorem jor32 {b l : Int} (h0 : 0 ≤ b ∧ b < 32) (h1 : 0 ≤ l ∧ l < 5) : 0 ≤ jor b (jshl 1 l) ∧ jor b (jshl 1 l) < 32 := by
  have h := jor32a ⟨b.toNat, by omega⟩ ⟨l.toNat, by omega⟩
  have e1 : ((b.toNat : Nat) : Int) = b := by omega
  have e2 : ((l.toNat : Nat) : Int) = l := by omega
  simp only [e1, e2] at h
  exact h
def blS (w : Int → Int) (bz : Int) : Nat → Int × Int
  | 0 => (-1, 0)
  | n + 1 => if ¬ hb bz n ∧ ((blS w bz n).1 = -1 ∨ w n < (blS w bz n).2) then ((n : Int), w n) else blS w bz n
theorem blS_in {w : Int → Int} {bz A : Int} (hA : 0 ≤ A) : ∀ n : Nat, (∀ a : Int, 0 ≤ a → a < n → ¬ hb bz a → 0 ≤ w a ∧ w a ≤ A) → (-1 ≤ (blS w bz n).1 ∧ (blS w bz n).1 < n) ∧ 0 ≤ (blS w bz n).2 ∧ (blS w bz n).2 ≤ A
  | 0, _ => ⟨⟨by show -1 ≤ (-1 : Int); omega, by show (-1 : Int) < _; omega⟩, by show (0 : Int) ≤ 0; omega, hA⟩
  | n + 1, h => by
    have ih := blS_in (w := w) (bz := bz) hA n (fun a h0 h1 => h a h0 (by omega))
    unfold blS
    split
    · next c =>
      have g := h n (by omega) (by omega) c.1
      exact ⟨⟨by simp only; omega, by simp only; omega⟩, g⟩
    · exact ⟨⟨ih.1.1, by omega⟩, ih.2⟩
/-- what is lost by each lady at each table -/
def ltF (X : Nat → Int) (L : Nat → Nat → Int) (la tb tc : Nat) : Nat → Int := fun j => if j % 5 < tc ∧ (j / 5 < la ∨ (j / 5 = la ∧ j % 5 < tb)) then L (j / 5) (j % 5) else X j
theorem ltF_0 {X : Nat → Int} {L : Nat → Nat → Int} {tc : Nat} : ltF X L 0 0 tc = X := by
  funext j
  unfold ltF
  rw [if_neg (by omega)]
theorem ltF_r {X : Nat → Int} {L : Nat → Nat → Int} {la tc : Nat} : ltF X L la tc tc = ltF X L (la + 1) 0 tc := by
  funext j
  unfold ltF
  by_cases c : j % 5 < tc ∧ (j / 5 < la ∨ (j / 5 = la ∧ j % 5 < tc))
  · rw [if_pos c, if_pos (by omega)]
  · rw [if_neg c, if_neg (by omega)]
theorem ltF_s {X : Nat → Int} {L : Nat → Nat → Int} {la tb tc : Nat} (h : tb < tc) (h5 : tc ≤ 5) : us (ltF X L la tb tc) (la * 5 + tb) (L la tb) = ltF X L la (tb + 1) tc := by
  funext j
  unfold us ltF
  by_cases e : j = la * 5 + tb
  · subst e
    rw [if_pos rfl, show (la * 5 + tb) / 5 = la by omega, show (la * 5 + tb) % 5 = tb by omega, if_pos (by omega)]
  · rw [if_neg e]
    by_cases c : j % 5 < tc ∧ (j / 5 < la ∨ (j / 5 = la ∧ j % 5 < tb))
    · rw [if_pos c, if_pos (by omega)]
    · rw [if_neg c, if_neg (by omega)]
theorem ltF_in {X : Nat → Int} {L : Nat → Nat → Int} {la tc a t : Nat} (ha : a < la) (ht : t < tc) (h5 : tc ≤ 5) : ltF X L la 0 tc (a * 5 + t) = L a t := by
  unfold ltF
  rw [show (a * 5 + t) / 5 = a by omega, show (a * 5 + t) % 5 = t by omega, if_pos (by omega)]
