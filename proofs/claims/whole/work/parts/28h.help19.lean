/-! what was paid: the fewest things for a sum -/
def pdV (t w o : Int) : Int := if w ≠ -1 ∧ (o = -1 ∨ sz w + 1 < sz o) then jor w (jshl 1 t) else o
def pdS (S : Nat → Int) (t pd rc s : Int) : Nat → Int := fun j => if pd ≤ (j : Int) ∧ s < (j : Int) ∧ (j : Int) ≤ rc then pdV t (S (j - pd.toNat)) (S j) else S j
theorem pdS_0 {S : Nat → Int} {t pd rc : Int} : pdS S t pd rc rc = S := by
  funext j
  unfold pdS
  rw [if_neg (by omega)]
theorem pdS_lo {S : Nat → Int} {t pd rc s : Int} {j : Nat} (h : (j : Int) ≤ s) : pdS S t pd rc s j = S j := by
  unfold pdS
  rw [if_neg (by omega)]
theorem pdS_y {S : Nat → Int} {t pd rc s : Int} (h0 : 0 ≤ pd) (h1 : pd ≤ s) (h2 : s ≤ rc) : us (pdS S t pd rc s) s.toNat (pdV t (S (s - pd).toNat) (S s.toNat)) = pdS S t pd rc (s - 1) := by
  funext j
  unfold us pdS
  by_cases e : j = s.toNat
  · subst e
    rw [if_pos rfl, if_pos ⟨by omega, by omega, by omega⟩, show s.toNat - pd.toNat = (s - pd).toNat by omega]
  · rw [if_neg e]
    by_cases c : pd ≤ (j : Int) ∧ s < (j : Int) ∧ (j : Int) ≤ rc
    · rw [if_pos c, if_pos ⟨by omega, by omega, by omega⟩]
    · rw [if_neg c, if_neg (by omega)]
theorem pdS_x {S : Nat → Int} {t pd rc s : Int} (h0 : 0 ≤ pd) (h1 : pd ≤ s) (h2 : s ≤ rc) (h : pdV t (S (s - pd).toNat) (S s.toNat) = S s.toNat) : pdS S t pd rc s = pdS S t pd rc (s - 1) := by
  rw [← pdS_y h0 h1 h2, h]
  funext j
  unfold us
  split
  · next e => rw [e, pdS_lo (by omega)]
  · rfl
theorem pdS_e {S : Nat → Int} {t pd rc s : Int} (h : s < pd) : pdS S t pd rc s = pdS S t pd rc (-1) := by
  funext j
  unfold pdS
  by_cases c : pd ≤ (j : Int) ∧ s < (j : Int) ∧ (j : Int) ≤ rc
  · rw [if_pos c, if_pos ⟨by omega, by omega, by omega⟩]
  · rw [if_neg c, if_neg (by omega)]
def iniS (F : Nat → Int) (s : Int) : Nat → Int := fun j => if j = 0 then 0 else if (j : Int) < s then -1 else F j
theorem iniS_1 {F : Nat → Int} : us F 0 0 = iniS F 1 := by
  funext j
  unfold us iniS
  by_cases e : j = 0
  · rw [if_pos e, if_pos e]
  · rw [if_neg e, if_neg e, if_neg (by omega)]
theorem iniS_s {F : Nat → Int} {s : Int} (h : 1 ≤ s) : us (iniS F s) s.toNat (-1) = iniS F (s + 1) := by
  funext j
  unfold us iniS
  by_cases e : j = s.toNat
  · subst e
    rw [if_pos rfl, if_neg (by omega), if_pos (by omega)]
  · rw [if_neg e]
    by_cases z : j = 0
    · rw [if_pos z, if_pos z]
    · rw [if_neg z, if_neg z]
      by_cases c : (j : Int) < s
      · rw [if_pos c, if_pos (by omega)]
      · rw [if_neg c, if_neg (by omega)]
def rcN (sm rc pd : Int) : Int := if rc + pd < sm then rc + pd else sm
def fpS (B PD : Nat → Int) (sm : Int) (S0 : Nat → Int) : Nat → (Nat → Int) × Int
  | 0 => (S0, 0)
  | t + 1 => if B t = -1 then fpS B PD sm S0 t else (pdS (fpS B PD sm S0 t).1 t (PD t) (rcN sm (fpS B PD sm S0 t).2 (PD t)) (-1), rcN sm (fpS B PD sm S0 t).2 (PD t))
theorem pw_s (t : Nat) : ((2 ^ (t + 1) : Nat) : Int) = 2 * ((2 ^ t : Nat) : Int) := by rw [Nat.pow_succ]; omega
theorem pw_p (t : Nat) : 1 ≤ ((2 ^ t : Nat) : Int) := by have := Nat.two_pow_pos t; omega
theorem pw_30 {t : Nat} (h : t ≤ 30) : ((2 ^ t : Nat) : Int) ≤ 1073741824 := by
  have := Nat.pow_le_pow_right (n := 2) (by omega) h
  omega
theorem pdV_in {t : Nat} {w o : Int} (ht : t < 30) (hw : -1 ≤ w ∧ w < ((2 ^ t : Nat) : Int)) (ho : -1 ≤ o ∧ o < ((2 ^ t : Nat) : Int)) : -1 ≤ pdV t w o ∧ pdV t w o < ((2 ^ (t + 1) : Nat) : Int) := by
  have p := pw_s t
  have q := pw_p t
  unfold pdV
  split
  · next c =>
    have e := jor_sh (w := w) (t := (t : Int)) (by omega) (by omega) (by omega) (by rw [Int.toNat_natCast]; exact hw.2)
    rw [Int.toNat_natCast] at e
    rw [e]
    omega
  · omega
theorem fpS_in {B PD : Nat → Int} {sm : Int} {S0 : Nat → Int} (hs : 0 ≤ sm) (hp : ∀ t, t < 30 → ¬ B t = -1 → 0 ≤ PD t) (h0 : ∀ j : Nat, (j : Int) ≤ sm → -1 ≤ S0 j ∧ S0 j < 1) : ∀ t, t ≤ 30 → (0 ≤ (fpS B PD sm S0 t).2 ∧ (fpS B PD sm S0 t).2 ≤ sm) ∧ ∀ j : Nat, (j : Int) ≤ sm → -1 ≤ (fpS B PD sm S0 t).1 j ∧ (fpS B PD sm S0 t).1 j < ((2 ^ t : Nat) : Int)
  | 0, _ => ⟨⟨Int.le_refl 0, hs⟩, fun j hj => h0 j hj⟩
  | t + 1, ht => by
    have ih := fpS_in (B := B) (PD := PD) hs hp h0 t (by omega)
    have p := pw_s t
    have q := pw_p t
    unfold fpS
    split
    · exact ⟨ih.1, fun j hj => by have := ih.2 j hj; omega⟩
    · next c =>
      have g := hp t (by omega) c
      have r0 : 0 ≤ rcN sm (fpS B PD sm S0 t).2 (PD t) ∧ rcN sm (fpS B PD sm S0 t).2 (PD t) ≤ sm := by
        unfold rcN
        split <;> omega
      refine ⟨r0, fun j hj => ?_⟩
      show -1 ≤ pdS _ _ _ _ _ j ∧ pdS _ _ _ _ _ j < _
      unfold pdS
      split
      · next d => exact pdV_in (by omega) (ih.2 _ (by omega)) (ih.2 j hj)
      · have := ih.2 j hj; omega
theorem iniS_in {F : Nat → Int} {sm : Int} (j : Nat) (hj : (j : Int) ≤ sm) : -1 ≤ iniS F (sm + 1) j ∧ iniS F (sm + 1) j < 1 := by
  unfold iniS
  split
  · omega
  · rw [if_pos (by omega)]
    omega
