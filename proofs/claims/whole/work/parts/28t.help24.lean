/-! the reference tries all ways -/
def lsT (k w c K G W f : Nat → Int) (wn : Int) (TK : Nat → Int) (n t a : Nat) : Int := losK k w c (K a) (G a) (W a) f wn (TK t) n
def pwI (n : Int) : Nat → Int
  | 0 => 1
  | t + 1 => pwI n t * n
theorem pwI_in {n : Int} (h0 : 0 ≤ n) (h1 : n ≤ 5) : ∀ t, t ≤ 5 → 0 ≤ pwI n t ∧ pwI n t ≤ 3125
  | 0, _ => by show (0 : Int) ≤ 1 ∧ (1 : Int) ≤ 3125; omega
  | 1, _ => by show 0 ≤ 1 * n ∧ 1 * n ≤ 3125; omega
  | 2, _ => by
    have a := mul0 5 5 (a := n) (b := n) h0 h1 h0 h1
    show 0 ≤ 1 * n * n ∧ 1 * n * n ≤ 3125
    rw [Int.one_mul]
    omega
  | 3, _ => by
    have a := mul0 5 5 (a := n) (b := n) h0 h1 h0 h1
    have b := mul0 25 5 (a := n * n) (b := n) (by omega) (by omega) h0 h1
    show 0 ≤ 1 * n * n * n ∧ 1 * n * n * n ≤ 3125
    rw [Int.one_mul]
    omega
  | 4, _ => by
    have a := mul0 5 5 (a := n) (b := n) h0 h1 h0 h1
    have b := mul0 25 5 (a := n * n) (b := n) (by omega) (by omega) h0 h1
    have c := mul0 125 5 (a := n * n * n) (b := n) (by omega) (by omega) h0 h1
    show 0 ≤ 1 * n * n * n * n ∧ 1 * n * n * n * n ≤ 3125
    rw [Int.one_mul]
    omega
  | 5, _ => by
    have a := mul0 5 5 (a := n) (b := n) h0 h1 h0 h1
    have b := mul0 25 5 (a := n * n) (b := n) (by omega) (by omega) h0 h1
    have c := mul0 125 5 (a := n * n * n) (b := n) (by omega) (by omega) h0 h1
    have d := mul0 625 5 (a := n * n * n * n) (b := n) (by omega) (by omega) h0 h1
    show 0 ≤ 1 * n * n * n * n * n ∧ 1 * n * n * n * n * n ≤ 3125
    rw [Int.one_mul]
    omega
  | t + 6, h => absurd h (by omega)
abbrev W5 : Type := Int × Int × Int × Int × Int
/-- a way, from the last table on: what is left of it, who is busy, the sum, who is at the table that is asked for, whether it can be -/
def wyS (L : Nat → Nat → Int) (n wh : Int) (tc : Nat) (way : Int) : Nat → W5
  | 0 => (way, 0, 0, -1, 1)
  | k + 1 => ((wyS L n wh tc way k).1.tdiv n, jor (wyS L n wh tc way k).2.1 (jshl 1 ((wyS L n wh tc way k).1.tmod n)), (wyS L n wh tc way k).2.2.1 + L (tc - 1 - k) ((wyS L n wh tc way k).1.tmod n).toNat, (if ((tc - 1 - k : Nat) : Int) = wh then (wyS L n wh tc way k).1.tmod n else (wyS L n wh tc way k).2.2.2.1), (if hb (wyS L n wh tc way k).2.1 ((wyS L n wh tc way k).1.tmod n) then 0 else (wyS L n wh tc way k).2.2.2.2))
theorem tmr {x n : Int} (h0 : 0 ≤ x) (h1 : 0 < n) : 0 ≤ x.tmod n ∧ x.tmod n < n := by
  rw [Int.tmod_eq_emod_of_nonneg h0]
  exact ⟨Int.emod_nonneg _ (by omega), Int.emod_lt_of_pos _ h1⟩
theorem wy_s {L : Nat → Nat → Int} {n wh : Int} {tc : Nat} {way : Int} {k t : Nat} {re bz sm hx ca a r1 b1 s1 h1 c1 : Int} (h : wyS L n wh tc way k = (re, bz, sm, hx, ca)) (ht : t = tc - 1 - k) (ea : a = re.tmod n) (e1 : r1 = re.tdiv n) (e2 : b1 = jor bz (jshl 1 a)) (e3 : s1 = sm + L t a.toNat) (e4 : h1 = if (t : Int) = wh then a else hx) (e5 : c1 = if hb bz a then 0 else ca) : wyS L n wh tc way (k + 1) = (r1, b1, s1, h1, c1) := by
  subst ht ea e1 e2 e3 e4 e5
  rw [wyS, h]
theorem wy_in {L : Nat → Nat → Int} {n wh : Int} {tc : Nat} {way : Int} (hw : 0 ≤ way) (hn : 0 < n) (hL : ∀ t a : Nat, t < tc → (a : Int) < n → 0 ≤ L t a ∧ L t a ≤ 31470) : ∀ k : Nat, k ≤ tc → (0 ≤ (wyS L n wh tc way k).1 ∧ (wyS L n wh tc way k).1 ≤ way) ∧ (0 ≤ (wyS L n wh tc way k).2.2.1 ∧ (wyS L n wh tc way k).2.2.1 ≤ 31470 * k) ∧ ((wyS L n wh tc way k).2.2.2.2 = 0 ∨ (wyS L n wh tc way k).2.2.2.2 = 1)
  | 0, _ => ⟨⟨hw, Int.le_refl _⟩, ⟨Int.le_refl _, by show (0 : Int) ≤ _; omega⟩, Or.inr rfl⟩
  | k + 1, hk => by
    have ih := wy_in (wh := wh) hw hn hL k (by omega)
    have d := td_in ih.1.1 n hn
    have r := tmr ih.1.1 hn
    have l := hL (tc - 1 - k) ((wyS L n wh tc way k).1.tmod n).toNat (by omega) (by omega)
    refine ⟨⟨d.1, ?_⟩, ⟨?_, ?_⟩, ?_⟩
    · exact Int.le_trans d.2 ih.1.2
    · show 0 ≤ (wyS L n wh tc way k).2.2.1 + L (tc - 1 - k) ((wyS L n wh tc way k).1.tmod n).toNat
      omega
    · show (wyS L n wh tc way k).2.2.1 + L (tc - 1 - k) ((wyS L n wh tc way k).1.tmod n).toNat ≤ _
      omega
    · show (ite _ _ _ : Int) = 0 ∨ (ite _ _ _ : Int) = 1
      split
      · exact Or.inl rfl
      · exact ih.2.2
/-- of several ways -/
def wbS (f : Int → Int × Int × Int) : Nat → Int × Int
  | 0 => (-1, -1)
  | k + 1 => if ¬ (f k).2.2 = 0 ∧ ((wbS f k).1 < 0 ∨ (f k).1 < (wbS f k).1) then ((f k).1, (f k).2.1) else wbS f k
abbrev wyf (L : Nat → Nat → Int) (n wh : Int) (tc : Nat) : Int → Int × Int × Int := fun w => (wyS L n wh tc w tc).2.2
theorem ws_y {L : Nat → Nat → Int} {n wh : Int} {tc : Nat} {w re bz sm hx ca : Int} (h : wyS L n wh tc w tc = (re, bz, sm, hx, ca)) (h0 : 0 ≤ w) (c : ¬ ca = 0 ∧ ((wbS (wyf L n wh tc) w.toNat).1 < 0 ∨ sm < (wbS (wyf L n wh tc) w.toNat).1)) : wbS (wyf L n wh tc) (w + 1).toNat = (sm, hx) := by
  rw [tn1 h0, wbS]
  have e : ((w.toNat : Nat) : Int) = w := by omega
  have hf : wyf L n wh tc w = (sm, hx, ca) := by
    show (wyS L n wh tc w tc).2.2 = _
    rw [h]
  rw [e, hf]
  exact if_pos c
theorem ws_n {L : Nat → Nat → Int} {n wh : Int} {tc : Nat} {w re bz sm hx ca : Int} (h : wyS L n wh tc w tc = (re, bz, sm, hx, ca)) (h0 : 0 ≤ w) (c : ¬ (¬ ca = 0 ∧ ((wbS (wyf L n wh tc) w.toNat).1 < 0 ∨ sm < (wbS (wyf L n wh tc) w.toNat).1))) : wbS (wyf L n wh tc) (w + 1).toNat = wbS (wyf L n wh tc) w.toNat := by
  rw [tn1 h0, wbS]
  have e : ((w.toNat : Nat) : Int) = w := by omega
  have hf : wyf L n wh tc w = (sm, hx, ca) := by
    show (wyS L n wh tc w tc).2.2 = _
    rw [h]
  rw [e, hf]
  exact if_neg c
