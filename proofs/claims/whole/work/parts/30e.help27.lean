/-! the best turns: both searches find the same -/
def Bst (f : Int → Int → Int) (S : Int → Int → Prop) (s : Int × Int) : Prop := (∀ h b, S h b → f h b < s.2 ∨ (f h b = s.2 ∧ 100 * h + b ≤ s.1)) ∧ ((s.2 = -1 ∧ ∀ h b, ¬ S h b) ∨ ∃ h b, S h b ∧ s.1 = 100 * h + b ∧ s.2 = f h b)
theorem bst_iff {f : Int → Int → Int} {S S' : Int → Int → Prop} {s : Int × Int} (h : Bst f S s) (e : ∀ a b, S a b ↔ S' a b) : Bst f S' s := by
  refine ⟨fun a b z => h.1 a b ((e a b).mpr z), ?_⟩
  rcases h.2 with ⟨h1, h2⟩ | ⟨a, b, h1, h2⟩
  · exact Or.inl ⟨h1, fun a b z => h2 a b ((e a b).mpr z)⟩
  · exact Or.inr ⟨a, b, (e a b).mp h1, h2⟩
theorem bst_uniq {f : Int → Int → Int} {S : Int → Int → Prop} {s t : Int × Int} (h1 : Bst f S s) (h2 : Bst f S t) (x : ∃ a b, S a b) : s.1 = t.1 := by
  obtain ⟨a0, b0, x⟩ := x
  rcases h1.2 with ⟨-, z⟩ | ⟨a, b, p1, p2, p3⟩
  · exact absurd x (z a0 b0)
  · rcases h2.2 with ⟨-, z⟩ | ⟨c, d, q1, q2, q3⟩
    · exact absurd x (z a0 b0)
    · have u := h1.1 c d q1
      have v := h2.1 a b p1
      omega
theorem bst_up {f : Int → Int → Int} {S S' : Int → Int → Prop} {s : Int × Int} {h b : Int} (hf : ∀ a c, 0 ≤ f a c) (hs : Bst f S s) (hl : ∀ a c, S a c → 100 * a + c < 100 * h + b) (e : ∀ a c, S' a c ↔ S a c ∨ (a = h ∧ c = b)) : Bst f S' (if s.2 ≤ f h b then (100 * h + b, f h b) else s) := by
  by_cases z : s.2 ≤ f h b
  · rw [if_pos z]
    refine ⟨fun a c w => ?_, Or.inr ⟨h, b, (e h b).mpr (Or.inr ⟨rfl, rfl⟩), rfl, rfl⟩⟩
    rcases (e a c).mp w with w | ⟨rfl, rfl⟩
    · have u := hs.1 a c w
      have v := hl a c w
      show f a c < f h b ∨ (f a c = f h b ∧ _ ≤ 100 * h + b)
      omega
    · exact Or.inr ⟨rfl, Int.le_refl _⟩
  · rw [if_neg z]
    refine ⟨fun a c w => ?_, ?_⟩
    · rcases (e a c).mp w with w | ⟨rfl, rfl⟩
      · exact hs.1 a c w
      · exact Or.inl (by omega)
    · rcases hs.2 with ⟨u, -⟩ | ⟨a, c, u1, u2⟩
      · have := hf h b
        omega
      · exact Or.inr ⟨a, c, (e a c).mpr (Or.inl u1), u2⟩
theorem bst_dn {f : Int → Int → Int} {S S' : Int → Int → Prop} {s : Int × Int} {h b : Int} (hf : ∀ a c, 0 ≤ f a c) (hs : Bst f S s) (hl : ∀ a c, S a c → 100 * h + b < 100 * a + c) (e : ∀ a c, S' a c ↔ S a c ∨ (a = h ∧ c = b)) : Bst f S' (if s.2 < f h b then (100 * h + b, f h b) else s) := by
  by_cases z : s.2 < f h b
  · rw [if_pos z]
    refine ⟨fun a c w => ?_, Or.inr ⟨h, b, (e h b).mpr (Or.inr ⟨rfl, rfl⟩), rfl, rfl⟩⟩
    rcases (e a c).mp w with w | ⟨rfl, rfl⟩
    · have u := hs.1 a c w
      exact Or.inl (by show f a c < f h b; omega)
    · exact Or.inr ⟨rfl, Int.le_refl _⟩
  · rw [if_neg z]
    rcases hs.2 with ⟨u, -⟩ | ⟨a, c, u1, u2, u3⟩
    · have := hf h b
      omega
    · refine ⟨fun a' c' w => ?_, Or.inr ⟨a, c, (e a c).mpr (Or.inl u1), u2, u3⟩⟩
      rcases (e a' c').mp w with w | ⟨rfl, rfl⟩
      · exact hs.1 a' c' w
      · have v := hl a c u1
        omega
def SU (h : Int) (k : Int) (a c : Int) : Prop := 0 ≤ a ∧ a ≤ c ∧ c ≤ 12 ∧ (a < h ∨ (a = h ∧ c < h + k))
def SD (m k : Int) (a c : Int) : Prop := 0 ≤ a ∧ a ≤ c ∧ c ≤ 12 ∧ (12 - m < a ∨ (a = 12 - m ∧ 12 - k < c))
theorem bsI_b {f : Int → Int → Int} (hf : ∀ a c, 0 ≤ f a c) {h : Int} {s : Int × Int} (h0 : 0 ≤ h) (hs : Bst f (SU h 0) s) : ∀ k : Nat, (k : Int) ≤ 13 - h → Bst f (SU h k) (bsI f h s k)
  | 0, _ => hs
  | k + 1, hk => by
    have ih := bsI_b hf h0 hs k (by omega)
    exact bst_up (S' := SU h ((k + 1 : Nat) : Int)) hf ih (fun a c z => by unfold SU at z; omega) (fun a c => by unfold SU; omega)
theorem bsO_b {f : Int → Int → Int} (hf : ∀ a c, 0 ≤ f a c) : ∀ h : Nat, h ≤ 13 → Bst f (SU h 0) (bsO f h)
  | 0, _ => ⟨fun a c z => by unfold SU at z; omega, Or.inl ⟨rfl, fun a c z => by unfold SU at z; omega⟩⟩
  | h + 1, hh => by
    have ih := bsO_b hf h (by omega)
    have g := bsI_b hf (by omega) ih (13 - h) (by omega)
    exact bst_iff g (fun a c => by unfold SU; omega)
theorem bxI_b {f : Int → Int → Int} (hf : ∀ a c, 0 ≤ f a c) {m : Int} {s : Int × Int} (hm : 0 ≤ m ∧ m ≤ 12) (hs : Bst f (SD m 0) s) : ∀ k : Nat, (k : Int) ≤ m + 1 → Bst f (SD m k) (bxI f (12 - m) s k)
  | 0, _ => hs
  | k + 1, hk => by
    have ih := bxI_b hf hm hs k (by omega)
    exact bst_dn (S' := SD m ((k + 1 : Nat) : Int)) hf ih (fun a c z => by unfold SD at z; omega) (fun a c => by unfold SD; omega)
theorem bxO_b {f : Int → Int → Int} (hf : ∀ a c, 0 ≤ f a c) : ∀ m : Nat, m ≤ 13 → Bst f (SD m 0) (bxO f m)
  | 0, _ => ⟨fun a c z => by unfold SD at z; omega, Or.inl ⟨rfl, fun a c z => by unfold SD at z; omega⟩⟩
  | m + 1, hm => by
    have ih := bxO_b hf m (by omega)
    have g := bxI_b (m := m) hf (by omega) ih (m + 1) (by omega)
    exact bst_iff g (fun a c => by unfold SD; omega)
theorem best_eq {f : Int → Int → Int} (hf : ∀ a c, 0 ≤ f a c) : (bsO f 13).1 = (bxO f 13).1 := by
  refine bst_uniq (bst_iff (bsO_b hf 13 (Nat.le_refl _)) (fun a c => ?_)) (bxO_b hf 13 (Nat.le_refl _)) ⟨0, 0, ?_⟩
  · unfold SU SD; omega
  · unfold SD; omega
/-! the halls: both share alike -/
theorem dear_ok {k w c b s : Nat → Int} {ks : Int} : ∀ n : Nat, ((dear k w c b s ks n).1 = -1 ∧ (dear k w c b s ks n).2 = 0) ∨ ∃ j : Nat, j < n ∧ (dear k w c b s ks n).1 = j ∧ b j = -1 ∧ s j = -1 ∧ (dear k w c b s ks n).2 = TW (k j) (w j) (c j)
  | 0 => Or.inl ⟨rfl, rfl⟩
  | n + 1 => by
    have ih := dear_ok (k := k) (w := w) (c := c) (b := b) (s := s) (ks := ks) n
    unfold dear
    split
    · next h => exact Or.inr ⟨n, Nat.lt_succ_self _, rfl, h.1, h.2.1, rfl⟩
    · rcases ih with h | ⟨j, h1, h2⟩
      · exact Or.inl h
      · exact Or.inr ⟨j, by omega, h2⟩
theorem fn_dear {k w c b s g : Nat → Int} {ks : Int} (hT : ∀ j, j < 30 → 0 ≤ TWf k w c j) : ∀ n, n ≤ 30 → (∀ j, j < n → (g j = 0 ↔ b j = -1 ∧ s j = -1)) → fnR g (TWf k w c) k ks n = (dear k w c b s ks n).1
  | 0, _, _ => rfl
  | n + 1, hn, h => by
    have ih := fn_dear (ks := ks) hT n (by omega) (fun j hj => h j (by omega))
    have a := h n (Nat.lt_succ_self _)
    have t := hT n (by omega)
    have o := dear_ok (k := k) (w := w) (c := c) (b := b) (s := s) (ks := ks) n
    unfold fnR dear
    rw [ih]
    have key : ((dear k w c b s ks n).1 < 0 ∨ TWf k w c (dear k w c b s ks n).1.toNat ≤ TWf k w c n) ↔ (dear k w c b s ks n).2 ≤ TW (k n) (w n) (c n) := by
      rcases o with ⟨o1, o2⟩ | ⟨j, o1, o2, -, -, o5⟩
      · rw [o1, o2]
        exact ⟨fun _ => t, fun _ => Or.inl (by omega)⟩
      · rw [o2, o5, Int.toNat_natCast]
        exact ⟨fun z => z.resolve_left (by omega), fun z => Or.inr z⟩
    by_cases z : b n = -1 ∧ s n = -1 ∧ hb ks (k n) ∧ (dear k w c b s ks n).2 ≤ TW (k n) (w n) (c n)
    · rw [if_pos z, if_pos ⟨a.mpr ⟨z.1, z.2.1⟩, z.2.2.1, key.mpr z.2.2.2⟩]
    · rw [if_neg z, if_neg (fun q => z ⟨(a.mp q.1).1, (a.mp q.1).2, q.2.1, key.mp q.2.2⟩)]
theorem hp_sh {k w c b s g : Nat → Int} {n : Nat} (hT : ∀ j, j < 30 → 0 ≤ TWf k w c j) (hn : n ≤ 30) (h : ∀ j, j < n → (g j = 0 ↔ b j = -1 ∧ s j = -1)) {tk : Int} (h0 : 0 ≤ tk ∧ tk ≤ 2) : hpk g (TWf k w c) k n tk = shP k w c b s n tk := by
  unfold hpk shP lik
  rw [fn_dear (ks := 48) hT n hn h, fn_dear (ks := 14) hT n hn h, fn_dear (ks := 63) hT n hn h]
  have o1 := dear_ok (k := k) (w := w) (c := c) (b := b) (s := s) (ks := 48) n
  have o2 := dear_ok (k := k) (w := w) (c := c) (b := b) (s := s) (ks := 14) n
  rcases (show tk = 0 ∨ tk = 1 ∨ tk = 2 by omega) with rfl | rfl | rfl
  · simp only [if_neg (show ¬ (0 : Int) = 1 by decide), if_neg (show ¬ (0 : Int) = 2 by decide)]
    rw [if_neg (show ¬ (0 : Int) ≤ -1 by decide)]
    split <;> rfl
  · simp only [if_true]
    by_cases z : (dear k w c b s 48 n).1 = -1
    · rw [if_neg (by omega), if_pos z]
    · rw [if_pos (by rcases o1 with o1 | ⟨j, -, o1, -⟩ <;> omega), if_neg z]
  · simp only [if_neg (show ¬ (2 : Int) = 1 by decide), if_true]
    by_cases z : (dear k w c b s 14 n).1 = -1
    · rw [if_neg (by omega), if_pos z]
    · rw [if_pos (by rcases o2 with o2 | ⟨j, -, o2, -⟩ <;> omega), if_neg z]
theorem shP_ok {k w c b s : Nat → Int} {n : Nat} {tk : Int} : shP k w c b s n tk = -1 ∨ ∃ j : Nat, j < n ∧ shP k w c b s n tk = j ∧ b j = -1 ∧ s j = -1 := by
  unfold shP
  split
  · rcases dear_ok (k := k) (w := w) (c := c) (b := b) (s := s) (ks := 63) n with o | ⟨j, h1, h2, h3, h4, -⟩
    · exact Or.inl o.1
    · exact Or.inr ⟨j, h1, h2, h3, h4⟩
  · rcases dear_ok (k := k) (w := w) (c := c) (b := b) (s := s) (ks := lik tk) n with o | ⟨j, h1, h2, h3, h4, -⟩
    · exact Or.inl o.1
    · exact Or.inr ⟨j, h1, h2, h3, h4⟩
/-- who has a hall keeps it; who is sold gets none -/
theorem shA_keep {k w c b s0 : Nat → Int} {n : Nat} {f : Int} {t m : Nat} (h : b t ≠ -1 ∨ shA k w c b n f s0 m t ≠ -1) : ∀ d, shA k w c b n f s0 (m + d) t = shA k w c b n f s0 m t
  | 0 => rfl
  | d + 1 => by
    have ih := shA_keep h d
    show shS k w c b n ((f + ((m + d : Nat) : Int)).tmod 3) (shA k w c b n f s0 (m + d)) t = _
    unfold shS
    split
    · exact ih
    · next z =>
      rcases shP_ok (k := k) (w := w) (c := c) (b := b) (s := shA k w c b n f s0 (m + d)) (n := n) (tk := (f + ((m + d : Nat) : Int)).tmod 3) with o | ⟨j, h1, h2, h3, h4⟩
      · exact absurd o z
      · rw [h2, Int.toNat_natCast, us_o]
        · exact ih
        · intro e
          subst e
          rcases h with h | h
          · exact h h3
          · rw [ih] at h4; exact h h4
theorem cnt_ng {b g : Nat → Int} : ∀ n, (∀ j, j < n → (g j = 0 ↔ b j = -1)) → ((ngN g n : Nat) : Int) = cntL b n
  | 0, _ => rfl
  | n + 1, h => by
    have ih := cnt_ng n (fun j hj => h j (by omega))
    have a := h n (Nat.lt_succ_self _)
    unfold ngN cntL
    by_cases z : g n = 0
    · rw [if_pos z, if_pos (a.mp z)]; omega
    · rw [if_neg z, if_neg (fun q => z (a.mpr q))]; omega
theorem hall_go {k w c b g0 s0 : Nat → Int} {n : Nat} {f : Int} {t m1 : Nat} (hT : ∀ j, j < 30 → 0 ≤ TWf k w c j) (hK : ∀ j, j < 30 → 0 ≤ k j ∧ k j ≤ 5) (hn : n ≤ 30) (h0 : ∀ j, j < n → (g0 j = 0 ↔ b j = -1)) (hs : ∀ j, j < n → s0 j = -1) (hf : 0 ≤ f) (ht : t < n) (hb : b t = -1) (hm : ∀ i, i < m1 → ¬ hpm (TWf k w c) k n f g0 i = t) : ∀ m, m ≤ m1 → (∀ j, j < n → (hgo (TWf k w c) k n f g0 m j = 0 ↔ b j = -1 ∧ shA k w c b n f s0 m j = -1)) ∧ hgo (TWf k w c) k n f g0 m t = 0 ∧ ngN (hgo (TWf k w c) k n f g0 m) n + m = ngN g0 n
  | 0, _ => ⟨fun j hj => by
      show g0 j = 0 ↔ b j = -1 ∧ s0 j = -1
      rw [h0 j hj]
      exact ⟨fun z => ⟨z, hs j hj⟩, fun z => z.1⟩, (h0 t ht).mpr hb, rfl⟩
  | m + 1, h => by
    obtain ⟨i1, i2, i3⟩ := hall_go (s0 := s0) hT hK hn h0 hs hf ht hb hm m (by omega)
    have tk := tm3 (x := f + (m : Int)) (by omega)
    have e := hp_sh hT hn i1 tk
    obtain ⟨p, p1, p2, p3⟩ := hpk_ok (T := TWf k w c) (h := (f + (m : Int)).tmod 3) ht i2 (hK t (by omega))
    have nt : p ≠ t := fun z => by
      subst z
      exact hm m (by omega) p2
    have eg : hgo (TWf k w c) k n f g0 (m + 1) = us (hgo (TWf k w c) k n f g0 m) p 1 := by
      show us _ (hpk _ _ _ _ _).toNat 1 = _
      rw [p2, Int.toNat_natCast]
    have es : shA k w c b n f s0 (m + 1) = us (shA k w c b n f s0 m) p ((f + (m : Int)).tmod 3) := by
      show shS k w c b n _ _ = _
      unfold shS
      rw [← e, p2, if_neg (by omega), Int.toNat_natCast]
    rw [eg, es]
    refine ⟨fun j hj => ?_, ?_, ?_⟩
    · by_cases z : j = p
      · subst z
        rw [us_k, us_k]
        exact ⟨fun q => absurd q (by decide), fun q => by omega⟩
      · rw [us_o z, us_o z]
        exact i1 j hj
    · rw [us_o (Ne.symm nt)]
      exact i2
    · have := ngN_u p3 n p1
      omega
theorem hall_eq {k w c b g0 s0 : Nat → Int} {n : Nat} {f : Int} {t m1 : Nat} (hT : ∀ j, j < 30 → 0 ≤ TWf k w c j) (hK : ∀ j, j < 30 → 0 ≤ k j ∧ k j ≤ 5) (hn : n ≤ 30) (h0 : ∀ j, j < n → (g0 j = 0 ↔ b j = -1)) (hs : ∀ j, j < n → s0 j = -1) (hf : 0 ≤ f) (ht : t < n) (hb : b t = -1) (hm : ∀ i, i < m1 → ¬ hpm (TWf k w c) k n f g0 i = t) (hm1 : hpm (TWf k w c) k n f g0 m1 = t) : shA k w c b n f s0 (cntL b n).toNat t = (f + (m1 : Int)).tmod 3 := by
  obtain ⟨i1, i2, i3⟩ := hall_go (s0 := s0) hT hK hn h0 hs hf ht hb hm m1 (Nat.le_refl _)
  have tk := tm3 (x := f + (m1 : Int)) (by omega)
  have e := hp_sh hT hn i1 tk
  have e1 : hpk (hgo (TWf k w c) k n f g0 m1) (TWf k w c) k n ((f + (m1 : Int)).tmod 3) = t := hm1
  have es : shA k w c b n f s0 (m1 + 1) t = (f + (m1 : Int)).tmod 3 := by
    show shS k w c b n _ _ t = _
    unfold shS
    rw [← e, e1, if_neg (by omega), Int.toNat_natCast, us_k]
  have cn := cnt_ng n h0
  have u := ngN_u i2 n ht
  have hle : m1 + 1 ≤ (cntL b n).toNat := by omega
  have kp := shA_keep (k := k) (w := w) (c := c) (b := b) (s0 := s0) (n := n) (f := f) (t := t) (m := m1 + 1) (Or.inr (by rw [es]; omega)) ((cntL b n).toNat - (m1 + 1))
  rw [show m1 + 1 + ((cntL b n).toNat - (m1 + 1)) = (cntL b n).toNat by omega] at kp
  rw [kp, es]
/-- the hours of a judge -/
theorem jrw_eq {f g : Nat → Int} {s len : Int} (h0 : 0 ≤ s) (hl : len ≤ 40) (h : ∀ i : Nat, i < 40 → g (40 * s.toNat + i) = f i) (k : Nat) : jrw g (40 * s) len k = jrw f 0 len k := by
  by_cases c : (k : Int) < len
  · rw [jrw_1 c, jrw_1 c, show (40 * s + (k : Int)).toNat = 40 * s.toNat + k by omega, h k (by omega), show (0 + (k : Int)).toNat = k by omega]
  · rw [jrw_0 c, jrw_0 c]
