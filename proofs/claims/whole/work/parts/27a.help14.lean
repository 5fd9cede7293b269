/-! what to show -/
def adG (G : Nat → Int) (gn : Int) (tk mi : Int) (m : Int) : Nat → Int := fun j => if m < j ∧ (j : Int) ≤ mi ∧ tk ≤ j ∧ G j < G ((j : Int) - tk).toNat + gn then G ((j : Int) - tk).toNat + gn else G j
def adS (S G : Nat → Int) (gn : Int) (tk mi bt : Int) (m : Int) : Nat → Int := fun j => if m < j ∧ (j : Int) ≤ mi ∧ tk ≤ j ∧ G j < G ((j : Int) - tk).toNat + gn then jor (S ((j : Int) - tk).toNat) bt else S j
theorem adG_0 {G : Nat → Int} {gn tk mi : Int} : adG G gn tk mi mi = G := by funext j; unfold adG; rw [if_neg (by omega)]
theorem adS_0 {S G : Nat → Int} {gn tk mi bt : Int} : adS S G gn tk mi bt mi = S := by funext j; unfold adS; rw [if_neg (by omega)]
theorem adG_lo {G : Nat → Int} {gn tk mi m : Int} {j : Nat} (h : (j : Int) ≤ m) : adG G gn tk mi m j = G j := by unfold adG; rw [if_neg (by omega)]
theorem adS_lo {S G : Nat → Int} {gn tk mi bt m : Int} {j : Nat} (h : (j : Int) ≤ m) : adS S G gn tk mi bt m j = S j := by unfold adS; rw [if_neg (by omega)]
theorem adG_y {G : Nat → Int} {gn tk mi m : Int} (h0 : 0 ≤ m) (h1 : m ≤ mi) (h2 : tk ≤ m) (h : G m.toNat < G (m - tk).toNat + gn) : us (adG G gn tk mi m) m.toNat (G (m - tk).toNat + gn) = adG G gn tk mi (m - 1) := by
  funext j
  unfold us adG
  by_cases e : j = m.toNat
  · subst e
    rw [if_pos rfl, show ((m.toNat : Nat) : Int) = m by omega, if_pos ⟨by omega, h1, h2, h⟩]
  · rw [if_neg e]
    by_cases c : m < j ∧ (j : Int) ≤ mi ∧ tk ≤ j ∧ G j < G ((j : Int) - tk).toNat + gn
    · rw [if_pos c, if_pos ⟨by omega, c.2⟩]
    · rw [if_neg c, if_neg (fun z => c ⟨by omega, z.2⟩)]
theorem adG_x {G : Nat → Int} {gn tk mi m : Int} (h0 : 0 ≤ m) (h : ¬ G m.toNat < G (m - tk).toNat + gn) : adG G gn tk mi m = adG G gn tk mi (m - 1) := by
  funext j
  unfold adG
  by_cases c : m < j ∧ (j : Int) ≤ mi ∧ tk ≤ j ∧ G j < G ((j : Int) - tk).toNat + gn
  · rw [if_pos c, if_pos ⟨by omega, c.2⟩]
  · rw [if_neg c, if_neg (fun z => ?_)]
    by_cases e : (j : Int) = m
    · rw [show j = m.toNat by omega, show ((m.toNat : Nat) : Int) = m by omega] at z
      exact h z.2.2.2
    · exact c ⟨by omega, z.2⟩
theorem adS_y {S G : Nat → Int} {gn tk mi bt m : Int} (h0 : 0 ≤ m) (h1 : m ≤ mi) (h2 : tk ≤ m) (h : G m.toNat < G (m - tk).toNat + gn) : us (adS S G gn tk mi bt m) m.toNat (jor (S (m - tk).toNat) bt) = adS S G gn tk mi bt (m - 1) := by
  funext j
  unfold us adS
  by_cases e : j = m.toNat
  · subst e
    rw [if_pos rfl, show ((m.toNat : Nat) : Int) = m by omega, if_pos ⟨by omega, h1, h2, h⟩]
  · rw [if_neg e]
    by_cases c : m < j ∧ (j : Int) ≤ mi ∧ tk ≤ j ∧ G j < G ((j : Int) - tk).toNat + gn
    · rw [if_pos c, if_pos ⟨by omega, c.2⟩]
    · rw [if_neg c, if_neg (fun z => c ⟨by omega, z.2⟩)]
theorem adS_x {S G : Nat → Int} {gn tk mi bt m : Int} (h0 : 0 ≤ m) (h : ¬ G m.toNat < G (m - tk).toNat + gn) : adS S G gn tk mi bt m = adS S G gn tk mi bt (m - 1) := by
  funext j
  unfold adS
  by_cases c : m < j ∧ (j : Int) ≤ mi ∧ tk ≤ j ∧ G j < G ((j : Int) - tk).toNat + gn
  · rw [if_pos c, if_pos ⟨by omega, c.2⟩]
  · rw [if_neg c, if_neg (fun z => ?_)]
    by_cases e : (j : Int) = m
    · rw [show j = m.toNat by omega, show ((m.toNat : Nat) : Int) = m by omega] at z
      exact h z.2.2.2
    · exact c ⟨by omega, z.2⟩
/-- all minutes done: the lower end does not matter -/
theorem adG_e {G : Nat → Int} {gn tk mi m : Int} (h : m < tk) : adG G gn tk mi m = adG G gn tk mi (-1) := by
  funext j
  unfold adG
  by_cases c : m < j ∧ (j : Int) ≤ mi ∧ tk ≤ j ∧ G j < G ((j : Int) - tk).toNat + gn
  · rw [if_pos c, if_pos ⟨by omega, c.2⟩]
  · rw [if_neg c, if_neg (fun z => c ⟨by omega, z.2⟩)]
theorem adS_e {S G : Nat → Int} {gn tk mi bt m : Int} (h : m < tk) : adS S G gn tk mi bt m = adS S G gn tk mi bt (-1) := by
  funext j
  unfold adS
  by_cases c : m < j ∧ (j : Int) ≤ mi ∧ tk ≤ j ∧ G j < G ((j : Int) - tk).toNat + gn
  · rw [if_pos c, if_pos ⟨by omega, c.2⟩]
  · rw [if_neg c, if_neg (fun z => c ⟨by omega, z.2⟩)]
theorem adG_in {G : Nat → Int} {gn tk mi m A : Int} (hg : gn ≤ 1049) (h : ∀ j : Nat, (j : Int) ≤ mi → 0 ≤ G j ∧ G j ≤ A) (ht : 0 ≤ tk) : ∀ j : Nat, (j : Int) ≤ mi → 0 ≤ adG G gn tk mi m j ∧ adG G gn tk mi m j ≤ A + 1049 := by
  intro j hj
  unfold adG
  have a := h j hj
  split
  · rename_i c
    have b := h ((j : Int) - tk).toNat (by omega)
    omega
  · omega
def bgS (P B K T : Nat → Int) (mi : Int) (S0 G0 : Nat → Int) : Nat → (Nat → Int) × (Nat → Int)
  | 0 => (S0, G0)
  | t + 1 => if ¬ P t = -1 ∧ B t = -1 then (adS (bgS P B K T mi S0 G0 t).1 (bgS P B K T mi S0 G0 t).2 (T t - P t) (2 + K t) mi (jshl 1 t) (-1), adG (bgS P B K T mi S0 G0 t).2 (T t - P t) (2 + K t) mi (-1)) else bgS P B K T mi S0 G0 t
theorem bgS_in {P B K T : Nat → Int} {mi : Int} {S0 G0 : Nat → Int} (hP : ∀ j, j < 30 → -1 ≤ P j ∧ P j ≤ 999) (hK : ∀ j, j < 30 → 0 ≤ K j ∧ K j ≤ 5) (hT : ∀ j, j < 30 → 0 ≤ T j ∧ T j ≤ 1049) (hG : ∀ j : Nat, (j : Int) ≤ mi → G0 j = 0) : ∀ t : Nat, t ≤ 30 → ∀ j : Nat, (j : Int) ≤ mi → 0 ≤ (bgS P B K T mi S0 G0 t).2 j ∧ (bgS P B K T mi S0 G0 t).2 j ≤ 1049 * t
  | 0, _, j, hj => by
    show 0 ≤ G0 j ∧ G0 j ≤ _
    rw [hG j hj]
    omega
  | t + 1, ht, j, hj => by
    have ih := bgS_in (S0 := S0) (B := B) hP hK hT hG t (by omega)
    unfold bgS
    have a := hP t (by omega)
    have b := hK t (by omega)
    have c := hT t (by omega)
    split
    · rename_i q
      have r := adG_in (m := -1) (gn := T t - P t) (tk := 2 + K t) (A := 1049 * t) (by omega) ih (by omega) j hj
      show 0 ≤ adG _ _ _ _ _ j ∧ adG _ _ _ _ _ j ≤ _
      omega
    · have := ih j hj
      omega
