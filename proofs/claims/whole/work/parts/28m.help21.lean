/-! the reference reads a law -/
noncomputable def psX (f : Nat → Int) (n k : Nat) (w wh : Int) (p : Nat) (D : Nat → Int) : PR := if w = 0 then psR f n k p D else if w = 1 then psB (psR f n k) f n wh p D else psC (psR f n k) f n p D
theorem psX_0 {f : Nat → Int} {n k p : Nat} {wh : Int} {D : Nat → Int} : psX f n k 0 wh p D = psR f n k p D := rfl
theorem psX_1 {f : Nat → Int} {n k p : Nat} {wh : Int} {D : Nat → Int} : psX f n k 1 wh p D = psB (psR f n k) f n wh p D := rfl
theorem psX_2 {f : Nat → Int} {n k p : Nat} {w wh : Int} {D : Nat → Int} (h : 1 < w) : psX f n k w wh p D = psC (psR f n k) f n p D := by
  unfold psX
  rw [if_neg (by omega), if_neg (by omega)]
theorem rx_bl {f : Nat → Int} {n k p : Nat} {w wh : Int} {D : Nat → Int} (hp : p < n) (hb : isB (f p) = true) : psX f n k w wh p D = psX f n k w wh (p + 1) D := by
  have e := run_y hp hb
  unfold psX
  split
  · cases k with
    | zero => rfl
    | succ k =>
      show (ite _ _ _ : PR) = (ite _ _ _ : PR)
      rw [e]
  · split
    · unfold psB
      rw [e]
    · unfold psC
      rw [e]
theorem rx_e2 {f : Nat → Int} {n k p : Nat} {w wh : Int} {D : Nat → Int} (hp : n ≤ p) (hw : 1 < w) : psX f n k w wh p D = (D, -1) := by
  rw [psX_2 hw]
  exact ps_3e rfl (by rw [run_e hp]; exact hp)
theorem rx_e0 {f : Nat → Int} {n k p : Nat} {w wh : Int} {D : Nat → Int} (hp : p = n) (hk : 0 < k) (h0 : 0 ≤ w) (hw : w ≤ 1) : psX f n k w wh p D = (D, (n : Int)) := by
  subst hp
  have e : ∀ c, run c f p p = p := fun c => run_e (Nat.le_refl _)
  rcases (show w = 0 ∨ w = 1 by omega) with c | c
  · subst c
    rw [psX_0]
    obtain ⟨k, rfl⟩ : ∃ j, k = j + 1 := ⟨k - 1, by omega⟩
    show (ite _ _ _ : PR) = _
    rw [e, e, wdN_e, if_pos rfl]
  · subst c
    rw [psX_1]
    unfold psB
    rw [e, e]
    exact if_pos (Or.inl rfl)
theorem rx_0n {f : Nat → Int} {n k p q : Nat} {wh w : Int} {D : Nat → Int} (hb : ¬ isB (f p) = true) (hk : 0 < k) (hq : run isL f n p = q) (hw : w = wdN f p q) (h : w < 0) : psX f n k 0 wh p D = (D, (p : Int)) := by
  have h1 := wdN_in f p q
  rw [psX_0]
  obtain ⟨k, rfl⟩ : ∃ j, k = j + 1 := ⟨k - 1, by omega⟩
  show (ite _ _ _ : PR) = _
  rw [run_n hb, hq, ← hw, if_pos (by omega)]
theorem rx_0y {f : Nat → Int} {n k p q : Nat} {wh w : Int} {D : Nat → Int} (hb : ¬ isB (f p) = true) (hk : 0 < k) (hq : run isL f n p = q) (hw : w = wdN f p q) (h : 0 ≤ w) : psX f n k 0 wh p D = psX f n (k - 1) 1 w q D ∧ p < q ∧ w ≤ 4 := by
  have h1 := wdN_in f p q
  refine ⟨?_, ?_, by omega⟩
  · rw [psX_0, psX_1]
    obtain ⟨k, rfl⟩ : ∃ j, k = j + 1 := ⟨k - 1, by omega⟩
    show (ite _ _ _ : PR) = _
    rw [run_n hb, hq, ← hw, if_neg (by omega), show k + 1 - 1 = k by omega]
  · by_cases c : p < q
    · exact c
    · exfalso
      have h2 := runN_in isL f (n - p) p
      have h3 : runN isL f (n - p) p = q := hq
      rw [show q = p by omega, wdN_e] at hw
      omega
theorem rx_1n {f : Nat → Int} {n k p q : Nat} {wh : Int} {D : Nat → Int} (hb : ¬ isB (f p) = true) (hq : run isD f n p = q) (h : q = p ∨ 3 < q - p ∨ ¬ mayT wh (numV f p (q - p))) : psX f n k 1 wh p D = (D, (p : Int)) := by
  rw [psX_1]
  unfold psB
  rw [run_n hb, hq]
  exact if_pos h
theorem rx_1y {f : Nat → Int} {n k p q : Nat} {wh : Int} {D : Nat → Int} (hb : ¬ isB (f p) = true) (hq : run isD f n p = q) (h : ¬ (q = p ∨ 3 < q - p ∨ ¬ mayT wh (numV f p (q - p)))) : psX f n k 1 wh p D = psX f n k 2 wh q (us D wh.toNat (numV f p (q - p))) := by
  rw [psX_1, psX_2 (by decide)]
  unfold psB
  rw [run_n hb, hq]
  exact if_neg h
theorem rx_2n {f : Nat → Int} {n k p : Nat} {w wh : Int} {D : Nat → Int} (hw : 1 < w) (hp : p < n) (hb : ¬ isB (f p) = true) (h : f p ≠ 59) : psX f n k w wh p D = (D, (p : Int)) := by
  rw [psX_2 hw]
  unfold psC
  rw [run_n hb, if_neg (by omega), if_pos h]
theorem rx_2y {f : Nat → Int} {n k p : Nat} {w wh wh2 : Int} {D : Nat → Int} (hw : 1 < w) (hp : p < n) (hb : ¬ isB (f p) = true) (h : f p = 59) : psX f n k w wh p D = psX f n k 0 wh2 (p + 1) D := by
  rw [psX_2 hw, psX_0]
  unfold psC
  rw [run_n hb, if_neg (by omega), if_neg (fun z => z h)]
theorem may_eq {w v : Int} (h0 : 0 ≤ w) (h1 : w ≤ 4) (g0 : 0 ≤ v) (g1 : v ≤ 999) : mayT w v ↔ (w < 2 ∧ v ≤ 200) ∨ (w = 2 ∧ 1 ≤ v ∧ v ≤ 50) ∨ 2 < w := by
  unfold mayT
  rcases (show w = 0 ∨ w = 1 ∨ w = 2 ∨ w = 3 ∨ w = 4 by omega) with rfl | rfl | rfl | rfl | rfl
  · show (0 ≤ v ∧ v ≤ 200) ↔ _; omega
  · show (0 ≤ v ∧ v ≤ 200) ↔ _; omega
  · show (1 ≤ v ∧ v ≤ 50) ↔ _; omega
  · show (0 ≤ v ∧ v ≤ 999) ↔ _; omega
  · show (0 ≤ v ∧ v ≤ 999) ↔ _; omega
theorem cp_us {M : Mem} {k b w i : Nat} {D : Nat → Int} {x : Int} (hw : w < 5) (hi : i = b + w) : up (cp M k D 0 b 5) k i x = cp M k (us D w x) 0 b 5 := by
  subst hi
  funext a
  by_cases h : a = k
  · subst h
    rw [up_k, cp_k, cp_k]
    funext j
    unfold us cpf
    by_cases c : j = b + w
    · rw [if_pos c, if_pos (by omega)]
      show x = ite _ _ _
      rw [if_pos (by omega)]
    · rw [if_neg c]
      by_cases c2 : b ≤ j ∧ j < b + 5
      · rw [if_pos c2, if_pos c2]
        show _ = ite _ _ _
        rw [if_neg (by omega)]
      · rw [if_neg c2, if_neg c2]
  · rw [up_o h, cp_o h, cp_o h]
theorem cp5 {M : Mem} {k b i1 i2 i3 i4 : Nat} (h1 : i1 = b + 1) (h2 : i2 = b + 2) (h3 : i3 = b + 3) (h4 : i4 = b + 4) : up (up (up (up (up M k b 100) k i1 50) k i2 1) k i3 0) k i4 999 = cp M k (STF 0) 0 b 5 := by
  subst h1 h2 h3 h4
  funext a
  by_cases h : a = k
  · subst h
    rw [up_k, up_k, up_k, up_k, up_k, cp_k]
    funext j
    unfold us cpf
    by_cases c : b ≤ j ∧ j < b + 5
    · rw [if_pos c]
      rcases (show j = b ∨ j = b + 1 ∨ j = b + 2 ∨ j = b + 3 ∨ j = b + 4 by omega) with e | e | e | e | e
      · rw [if_neg (by omega), if_neg (by omega), if_neg (by omega), if_neg (by omega), if_pos e, show 0 + (j - b) = 0 by omega]; rfl
      · rw [if_neg (by omega), if_neg (by omega), if_neg (by omega), if_pos e, show 0 + (j - b) = 1 by omega]; rfl
      · rw [if_neg (by omega), if_neg (by omega), if_pos e, show 0 + (j - b) = 2 by omega]; rfl
      · rw [if_neg (by omega), if_pos e, show 0 + (j - b) = 3 by omega]; rfl
      · rw [if_pos e, show 0 + (j - b) = 4 by omega]; rfl
    · rw [if_neg c, if_neg (by omega), if_neg (by omega), if_neg (by omega), if_neg (by omega), if_neg (by omega)]
  · rw [up_o h, up_o h, up_o h, up_o h, up_o h, cp_o h]
/-- signs put at the end of the reference's tape -/
def apR (F : Nat → Int) (s : Nat) (v n : Int) (k : Nat) : Nat → Int := fun j => if s ≤ j ∧ j < s + k then jand (jshr v (8 * (n - 1 - ((j - s : Nat) : Int)))) 255 else F j
theorem apR_0 {F : Nat → Int} {s : Nat} {v n : Int} : apR F s v n 0 = F := by
  funext j
  unfold apR
  rw [if_neg (by omega)]
theorem apR_s {F : Nat → Int} {s k : Nat} {v n i : Int} (h : i = n - 1 - k) : us (apR F s v n k) (s + k) (jand (jshr v (8 * i)) 255) = apR F s v n (k + 1) := by
  subst h
  funext j
  unfold us apR
  by_cases e : j = s + k
  · subst e
    rw [if_pos rfl, if_pos ⟨by omega, by omega⟩, show s + k - s = k by omega]
  · rw [if_neg e]
    by_cases c : s ≤ j ∧ j < s + k
    · rw [if_pos c, if_pos ⟨by omega, by omega⟩]
    · rw [if_neg c, if_neg (by omega)]
theorem no3 {A B C : Prop} (a : ¬ A) (b : ¬ B) (c : ¬ C) : ¬ (A ∨ B ∨ C) := fun z => z.elim a (fun z => z.elim b c)
theorem dg_s {f : Nat → Int} {p q : Nat} (h : ∀ j, p ≤ j → j < q → isD (f j) = true) (hx : isD (f q) = true) (hpq : p ≤ q) : ∀ j, j < (q - p) + 1 → 48 ≤ f (p + j) ∧ f (p + j) ≤ 57 := fun j hj => by
  by_cases e : j < q - p
  · exact isD_i.mp (h (p + j) (by omega) (by omega))
  · rw [show p + j = q by omega]
    exact isD_i.mp hx
