/-! presents that are hidden -/
def watN (th pe se : Nat → Int) (t : Int) : Nat → Int
  | 0 => 0
  | i + 1 => if th i = t then jor (watN th pe se t i) (se (pe i).toNat) else watN th pe se t i
def fdN (th : Nat → Int) (t : Int) : Nat → Int
  | 0 => 0
  | i + 1 => if th i = t then fdN th t i + 1 else fdN th t i
theorem fdN_in (th : Nat → Int) (t : Int) : ∀ n : Nat, 0 ≤ fdN th t n ∧ fdN th t n ≤ n
  | 0 => by simp [fdN]
  | n + 1 => by
    have ih := fdN_in th t n
    unfold fdN
    split <;> omega
theorem watN_in (th pe se : Nat → Int) (t : Int) : ∀ n : Nat, inI (watN th pe se t n)
  | 0 => by
    show inI 0
    exact ⟨by decide, by decide⟩
  | n + 1 => by
    have ih := watN_in th pe se t n
    unfold watN
    split
    · exact jor_in _ _
    · exact ih
/-- the things that have secrets, the least first, with the tables where each may lie -/
def hdS (th pe se : Nat → Int) (n : Nat) (h0 s0 : Nat → Int) : Nat → (Nat → Int) × (Nat → Int) × Int
  | 0 => (h0, s0, 0)
  | t + 1 => if 0 < fdN th t n ∧ (hdS th pe se n h0 s0 t).2.2 < 10 then (us (hdS th pe se n h0 s0 t).1 (hdS th pe se n h0 s0 t).2.2.toNat t, us (hdS th pe se n h0 s0 t).2.1 (hdS th pe se n h0 s0 t).2.2.toNat (jand 31 (jxor (watN th pe se t n) (-1))), (hdS th pe se n h0 s0 t).2.2 + 1) else hdS th pe se n h0 s0 t
theorem hdS_in {th pe se : Nat → Int} {n : Nat} {h0 s0 : Nat → Int} : ∀ t, 0 ≤ (hdS th pe se n h0 s0 t).2.2 ∧ (hdS th pe se n h0 s0 t).2.2 ≤ 10
  | 0 => by show (0 : Int) ≤ 0 ∧ (0 : Int) ≤ 10; omega
  | t + 1 => by
    have ih := hdS_in (th := th) (pe := pe) (se := se) (n := n) (h0 := h0) (s0 := s0) t
    unfold hdS
    split
    · rename_i h; simp only; omega
    · exact ih
/-- places at the tables of a set; things that must lie there -/
def spN (sp : Nat → Int) (z : Int) : Nat → Int
  | 0 => 0
  | k + 1 => spN sp z k + (if hb z k then sp k else 0)
def coN (sf : Nat → Int) (z : Int) (f : Nat) : Nat → Int
  | 0 => 0
  | k + 1 => coN sf z f k + (if jand (sf (f + k)) (jxor z (-1)) = 0 then 1 else 0)
theorem coN_in (sf : Nat → Int) (z : Int) (f : Nat) : ∀ n : Nat, 0 ≤ coN sf z f n ∧ coN sf z f n ≤ n
  | 0 => by simp [coN]
  | n + 1 => by
    have ih := coN_in sf z f n
    unfold coN
    split <;> omega
theorem spN_in {sp : Nat → Int} {z : Int} (h : ∀ j, j < 5 → 0 ≤ sp j ∧ sp j ≤ 10) : ∀ n : Nat, n ≤ 5 → 0 ≤ spN sp z n ∧ spN sp z n ≤ 10 * n
  | 0, _ => by simp [spN]
  | n + 1, hn => by
    have ih := spN_in (z := z) h n (by omega)
    have := h n (by omega)
    unfold spN
    split <;> omega
abbrev cLie (sp sf : Nat → Int) (f : Nat) (hc : Nat) : Prop := ∀ z : Nat, z < 32 → coN sf z f (hc - f) ≤ spN sp z 5
def ftF (sp sf : Nat → Int) (h hc : Nat) : Nat → Nat → Int × (Nat → Int)
  | 0, _ => (-1, sp)
  | k + 1, t => if hb (sf h) t ∧ 0 < sp t ∧ cLie (us sp t (sp t - 1)) sf (h + 1) hc then ((t : Int), us sp t (sp t - 1)) else ftF sp sf h hc k (t + 1)
theorem ftF_y {sp sf : Nat → Int} {h hc k t : Nat} (c : hb (sf h) t ∧ 0 < sp t ∧ cLie (us sp t (sp t - 1)) sf (h + 1) hc) : ftF sp sf h hc (k + 1) t = ((t : Int), us sp t (sp t - 1)) := by rw [ftF, if_pos c]
theorem ftF_n {sp sf : Nat → Int} {h hc k t : Nat} (c : ¬ (hb (sf h) t ∧ 0 < sp t ∧ cLie (us sp t (sp t - 1)) sf (h + 1) hc)) : ftF sp sf h hc (k + 1) t = ftF sp sf h hc k (t + 1) := by rw [ftF, if_neg c]
theorem up_bk {M : Mem} {k j : Nat} {x y : Int} (h : y = M k j) : up (up M k j x) k j y = M := by
  subst h
  rw [up_sr, up_sr, sr_sr, sr_k, us_us, us_self, sr_self]
theorem us_rng {f : Nat → Int} {t n : Nat} {x A B : Int} (h : ∀ j, j < n → A ≤ f j ∧ f j ≤ B) (hx : A ≤ x ∧ x ≤ B) : ∀ j, j < n → A ≤ us f t x j ∧ us f t x j ≤ B := by
  intro j hj
  unfold us
  split
  · exact hx
  · exact h j hj
