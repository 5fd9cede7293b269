/-! laying -/
def laS (sf sp0 l0 : Nat → Int) (hc : Nat) : Nat → (Nat → Int) × (Nat → Int)
  | 0 => (sp0, l0)
  | h + 1 => ((ftF (laS sf sp0 l0 hc h).1 sf h hc 5 0).2, us (laS sf sp0 l0 hc h).2 h (ftF (laS sf sp0 l0 hc h).1 sf h hc 5 0).1)
theorem ftF_rng {sp sf : Nat → Int} {h hc : Nat} (hs : ∀ j : Nat, j < 5 → 0 ≤ sp j ∧ sp j ≤ 10) : ∀ k t, k + t = 5 → (∀ j : Nat, j < 5 → 0 ≤ (ftF sp sf h hc k t).2 j ∧ (ftF sp sf h hc k t).2 j ≤ 10) ∧ -1 ≤ (ftF sp sf h hc k t).1 ∧ (ftF sp sf h hc k t).1 ≤ 4
  | 0, t, _ => ⟨hs, by show -1 ≤ (-1 : Int) ∧ (-1 : Int) ≤ 4; omega⟩
  | k + 1, t, e => by
    by_cases c : hb (sf h) t ∧ 0 < sp t ∧ cLie (us sp t (sp t - 1)) sf (h + 1) hc
    · rw [ftF_y c]
      have := hs t (by omega)
      exact ⟨us_rng hs (by omega), by show -1 ≤ (t : Int) ∧ (t : Int) ≤ 4; omega⟩
    · rw [ftF_n c]
      exact ftF_rng hs k (t + 1) (by omega)
theorem laS_in {sf sp0 l0 : Nat → Int} {hc : Nat} (hs : ∀ j : Nat, j < 5 → 0 ≤ sp0 j ∧ sp0 j ≤ 10) : ∀ h, ∀ j : Nat, j < 5 → 0 ≤ (laS sf sp0 l0 hc h).1 j ∧ (laS sf sp0 l0 hc h).1 j ≤ 10
  | 0 => hs
  | h + 1 => (ftF_rng (laS_in hs h) 5 0 rfl).1
def tboF (hd ls : Nat → Int) (t : Int) : Nat → Nat → Int
  | 0, _ => -1
  | k + 1, h => if hd h = t then ls h else tboF hd ls t k (h + 1)
theorem cpf_c {g : Nat → Int} {v : Int} {n j : Nat} (h : j < n) : cpf (fun _ => v) g 0 0 n j = v := by
  unfold cpf
  rw [if_pos (by omega)]
