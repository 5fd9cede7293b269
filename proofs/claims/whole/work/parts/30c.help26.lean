/-! both sides' sums, counts, prices -/
theorem useX_eq {A B : Mem} (h : SH A B) : ∀ n, n ≤ 8 → useM (B 201) n = useX A n
  | 0, _ => rfl
  | n + 1, hn => by
    have ih := useX_eq h n (by omega)
    have q := (h n (by omega)).1
    unfold useM useX
    rw [ih]
    by_cases c : A (1 + 96 + 2 * n) 1 = -1
    · rw [if_pos c, if_pos (by omega)]
    · rw [if_neg c, if_neg (by omega)]
theorem cnt_sol {b : Nat → Int} : ∀ n, (∀ j, j < n → -1 ≤ b j) → cntL b n = n - solN b n
  | 0, _ => by simp [cntL, solN]
  | n + 1, h => by
    have ih := cnt_sol n (fun j hj => h j (by omega))
    have q := h n (Nat.lt_succ_self _)
    unfold cntL solN
    by_cases c : b n = -1
    · rw [if_pos c, if_neg (by omega)]; omega
    · rw [if_neg c, if_pos (by omega)]; omega
theorem lpt_eq {f g : Nat → Int} {n : Int} (h : ∀ j : Nat, (j : Int) < 5 * n → g j = f j) (lw x : Int) (h0 : 0 ≤ x) (h1 : x < 5) : lpt g n lw x = lpt f n lw x := by
  by_cases c : 0 ≤ lw ∧ lw < n
  · rw [lpt_1 c, lpt_1 c]
    exact h _ (by omega)
  · rw [lpt_0 c, lpt_0 c]
theorem prc_eq {f g : Nat → Int} {n kn gs lw k tr : Int} (h : ∀ j : Nat, (j : Int) < 5 * n → g j = f j) : prc kn gs lw g n k tr = prc kn gs lw f n k tr := by
  unfold prc
  rw [lpt_eq h lw 0 (by omega) (by omega), lpt_eq h lw 1 (by omega) (by omega), lpt_eq h lw 2 (by omega) (by omega), lpt_eq h lw 3 (by omega) (by omega), lpt_eq h lw 4 (by omega) (by omega)]
theorem losK_eq {k w c f g : Nat → Int} {n kn gs lw ks : Int} (h : ∀ j : Nat, (j : Int) < 5 * n → g j = f j) : ∀ m, losK k w c kn gs lw g n ks m = losK k w c kn gs lw f n ks m
  | 0 => rfl
  | m + 1 => by
    unfold losK
    rw [losK_eq h m, prc_eq h]
theorem prR_eq {k w c P f g : Nat → Int} {n kn gs lw ks : Int} (h : ∀ j : Nat, (j : Int) < 5 * n → g j = f j) (m : Nat) : prR k w c P kn gs lw g n ks m = prR k w c P kn gs lw f n ks m := by
  funext j
  unfold prR
  rw [prc_eq h]
theorem hbkA : ∀ (a b : Fin 6), hb (jshl 1 (a.val : Int)) (b.val : Int) ↔ (b.val : Int) = (a.val : Int) := by decide +kernel
theorem hbk {a b : Int} (h0 : 0 ≤ a ∧ a ≤ 5) (h1 : 0 ≤ b ∧ b ≤ 5) : hb (jshl 1 a) b ↔ b = a := by
  have h := hbkA ⟨a.toNat, by omega⟩ ⟨b.toNat, by omega⟩
  have e1 : ((a.toNat : Nat) : Int) = a := by omega
  have e2 : ((b.toNat : Nat) : Int) = b := by omega
  simp only [e1, e2] at h
  exact h
theorem sum_k {k w c b : Nat → Int} {kd : Int} (hk : 0 ≤ kd ∧ kd ≤ 5) : ∀ n, (∀ j, j < n → (0 ≤ k j ∧ k j ≤ 5) ∧ -1 ≤ b j) → sumR k w c b kd n = sumL k w c b (jshl 1 kd) n
  | 0, _ => rfl
  | n + 1, h => by
    have q := h n (Nat.lt_succ_self _)
    have e := hbk hk q.1
    unfold sumR sumL
    rw [sum_k hk n (fun j hj => h j (by omega))]
    by_cases c1 : b n = -1 ∧ hb (jshl 1 kd) (k n)
    · rw [if_pos c1, if_pos ⟨by omega, Or.inr (e.mp c1.2)⟩]
    · rw [if_neg c1, if_neg (fun z => c1 ⟨by omega, e.mpr (z.2.resolve_left (by omega))⟩)]
theorem sum_a {k w c b : Nat → Int} : ∀ n, (∀ j, j < n → (0 ≤ k j ∧ k j ≤ 5) ∧ -1 ≤ b j) → sumR k w c b (-1) n = sumL k w c b 63 n
  | 0, _ => rfl
  | n + 1, h => by
    have q := h n (Nat.lt_succ_self _)
    have e := hb63 q.1.1 q.1.2
    unfold sumR sumL
    rw [sum_a n (fun j hj => h j (by omega))]
    by_cases c1 : b n = -1 ∧ hb 63 (k n)
    · rw [if_pos c1, if_pos ⟨by omega, Or.inl (by omega)⟩]
    · rw [if_neg c1, if_neg (fun z => c1 ⟨by omega, e⟩)]
