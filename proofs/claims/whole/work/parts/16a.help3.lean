/-! prices -/
def lwOK (f : Nat → Int) (n : Int) : Prop := ∀ w : Int, 0 ≤ w → w < n → (0 ≤ f (w * 5 + 0).toNat ∧ f (w * 5 + 0).toNat ≤ 200) ∧ (0 ≤ f (w * 5 + 1).toNat ∧ f (w * 5 + 1).toNat ≤ 200) ∧ (1 ≤ f (w * 5 + 2).toNat ∧ f (w * 5 + 2).toNat ≤ 50) ∧ (0 ≤ f (w * 5 + 3).toNat ∧ f (w * 5 + 3).toNat ≤ 999) ∧ (0 ≤ f (w * 5 + 4).toNat ∧ f (w * 5 + 4).toNat ≤ 999)
theorem lpt_rng {f : Nat → Int} {n : Int} (h : lwOK f n) (w : Int) : (0 ≤ lpt f n w 0 ∧ lpt f n w 0 ≤ 200) ∧ (0 ≤ lpt f n w 1 ∧ lpt f n w 1 ≤ 200) ∧ (1 ≤ lpt f n w 2 ∧ lpt f n w 2 ≤ 50) ∧ (0 ≤ lpt f n w 3 ∧ lpt f n w 3 ≤ 999) ∧ (0 ≤ lpt f n w 4 ∧ lpt f n w 4 ≤ 999) := by
  by_cases c : 0 ≤ w ∧ w < n
  · rw [lpt_1 c, lpt_1 c, lpt_1 c, lpt_1 c, lpt_1 c]
    exact h w c.1 c.2
  · rw [lpt_0 c, lpt_0 c, lpt_0 c, lpt_0 c, lpt_0 c]
    exact ⟨by decide, by decide, by decide, by decide, by decide⟩
/-- the steps of a price -/
def pr0 (kn gs : Int) (p0 p1 k tr : Int) : Int := if hb kn k then (p0 * tr).tdiv 100 else (p1 * gs).tdiv 100
def pr1 (v r : Int) : Int := if 1 < r then v - v.tmod r else v
def pr2 (v lo : Int) : Int := if v < lo then lo else v
def pr3 (v hi : Int) : Int := if hi < v then hi else v
def prc (kn gs lw : Int) (f : Nat → Int) (n k tr : Int) : Int := pr3 (pr2 (pr1 (pr0 kn gs (lpt f n lw 0) (lpt f n lw 1) k tr) (lpt f n lw 2)) (lpt f n lw 3)) (lpt f n lw 4)
theorem mul0 {a b : Int} (B C : Int) (h0 : 0 ≤ a) (h1 : a ≤ B) (g0 : 0 ≤ b) (g1 : b ≤ C) : 0 ≤ a * b ∧ a * b ≤ B * C := by
  refine ⟨Int.mul_nonneg h0 g0, ?_⟩
  exact Int.mul_le_mul h1 g1 g0 (by omega)
theorem tm_in {x r : Int} (h0 : 0 ≤ x) (h1 : 0 < r) : 0 ≤ x.tmod r ∧ x.tmod r ≤ x := by
  rw [Int.tmod_eq_emod_of_nonneg h0]
  refine ⟨Int.emod_nonneg _ (by omega), ?_⟩
  have := Int.emod_add_mul_ediv x r
  have h2 := Int.mul_nonneg (by omega : 0 ≤ r) (Int.ediv_nonneg h0 (by omega : 0 ≤ r))
  omega
theorem pr0_in {kn gs p0 p1 k tr : Int} (a : 0 ≤ p0 ∧ p0 ≤ 200) (b : 0 ≤ p1 ∧ p1 ≤ 200) (c : 0 ≤ gs ∧ gs ≤ 999) (d : 0 ≤ tr ∧ tr ≤ 1049) : 0 ≤ pr0 kn gs p0 p1 k tr ∧ pr0 kn gs p0 p1 k tr ≤ 209800 := by
  unfold pr0
  have h1 := mul0 200 1049 a.1 a.2 d.1 d.2
  have h2 := mul0 200 999 b.1 b.2 c.1 c.2
  have e1 := td_in h1.1 100 (by decide)
  have e2 := td_in h2.1 100 (by decide)
  split <;> omega
theorem pr1_in {v r : Int} (a : 0 ≤ v ∧ v ≤ 209800) (b : 1 ≤ r) : 0 ≤ pr1 v r ∧ pr1 v r ≤ 209800 := by
  unfold pr1
  have h := tm_in (x := v) (r := r) a.1 (by omega)
  split <;> omega
theorem pr1_1 {v r : Int} (b : 1 ≤ r) : v - v.tmod r = pr1 v r := by
  unfold pr1
  by_cases c : 1 < r
  · rw [if_pos c]
  · rw [if_neg c, show r = 1 by omega, Int.tmod_one]
    omega
theorem prc_in {kn gs lw n k tr : Int} {f : Nat → Int} (h : lwOK f n) (c : 0 ≤ gs ∧ gs ≤ 999) (d : 0 ≤ tr ∧ tr ≤ 1049) : 0 ≤ prc kn gs lw f n k tr ∧ prc kn gs lw f n k tr ≤ 999 := by
  have hl := lpt_rng h lw
  have a := pr0_in (kn := kn) (gs := gs) (k := k) (tr := tr) hl.1 hl.2.1 c d
  have b := pr1_in a hl.2.2.1.1
  unfold prc pr3 pr2
  split <;> split <;> omega
def los (tr p : Int) : Int := if 0 < tr - p then tr - p else 0
theorem los_in {tr p : Int} (a : 0 ≤ tr ∧ tr ≤ 1049) (b : 0 ≤ p) : 0 ≤ los tr p ∧ los tr p ≤ 1049 := by
  unfold los
  split <;> omega
/-- what is lost over all things of kinds -/
def losK (k w c : Nat → Int) (kn gs lw : Int) (f : Nat → Int) (wn ks : Int) : Nat → Int
  | 0 => 0
  | n + 1 => losK k w c kn gs lw f wn ks n + (if hb ks (k n) then los (TW (k n) (w n) (c n)) (prc kn gs lw f wn (k n) (TW (k n) (w n) (c n))) else 0)
theorem losK_in {k w c : Nat → Int} {kn gs lw : Int} {f : Nat → Int} {wn ks : Int} (hf : lwOK f wn) (hg : 0 ≤ gs ∧ gs ≤ 999) (hw : ∀ j, j < 30 → 0 ≤ w j ∧ w j ≤ 999) : ∀ n, n ≤ 30 → 0 ≤ losK k w c kn gs lw f wn ks n ∧ losK k w c kn gs lw f wn ks n ≤ 1049 * n
  | 0, _ => by simp [losK]
  | n + 1, h => by
    have ih := losK_in (k := k) (c := c) (kn := kn) (lw := lw) (ks := ks) hf hg hw n (by omega)
    have t := TW_in (k n) (c n) (hw n (by omega)).1 (hw n (by omega)).2
    have p := prc_in (kn := kn) (lw := lw) (k := k n) hf hg t
    have l := los_in t p.1
    unfold losK
    split <;> omega
/-- all prices of kinds -/
def prR (k w c P : Nat → Int) (kn gs lw : Int) (f : Nat → Int) (wn ks : Int) (n : Nat) : Nat → Int := fun j => if j < n ∧ P j = -1 ∧ hb ks (k j) then prc kn gs lw f wn (k j) (TW (k j) (w j) (c j)) else P j
def prN (k P : Nat → Int) (ks : Int) : Nat → Int
  | 0 => 0
  | n + 1 => prN k P ks n + (if P n = -1 ∧ hb ks (k n) then 1 else 0)
theorem prN_in (k P : Nat → Int) (ks : Int) : ∀ n, 0 ≤ prN k P ks n ∧ prN k P ks n ≤ n
  | 0 => by simp [prN]
  | n + 1 => by
    have ih := prN_in k P ks n
    unfold prN
    split <;> omega
theorem prR_0 {k w c P : Nat → Int} {kn gs lw : Int} {f : Nat → Int} {wn ks : Int} : prR k w c P kn gs lw f wn ks 0 = P := by
  funext j
  unfold prR
  rw [if_neg (fun z => Nat.not_lt_zero _ z.1)]
theorem prR_n {k w c P : Nat → Int} {kn gs lw : Int} {f : Nat → Int} {wn ks : Int} {n : Nat} : prR k w c P kn gs lw f wn ks n n = P n := by
  unfold prR
  rw [if_neg (fun z => Nat.lt_irrefl _ z.1)]
theorem prR_y {k w c P : Nat → Int} {kn gs lw : Int} {f : Nat → Int} {wn ks : Int} {n : Nat} (h : P n = -1 ∧ hb ks (k n)) : us (prR k w c P kn gs lw f wn ks n) n (prc kn gs lw f wn (k n) (TW (k n) (w n) (c n))) = prR k w c P kn gs lw f wn ks (n + 1) := by
  funext j
  unfold us prR
  by_cases c1 : j = n
  · subst c1
    rw [if_pos rfl, if_pos ⟨Nat.lt_succ_self _, h⟩]
  · rw [if_neg c1]
    by_cases c2 : j < n ∧ P j = -1 ∧ hb ks (k j)
    · rw [if_pos c2, if_pos ⟨by omega, c2.2⟩]
    · rw [if_neg c2, if_neg (fun z => c2 ⟨by omega, z.2⟩)]
theorem prR_x {k w c P : Nat → Int} {kn gs lw : Int} {f : Nat → Int} {wn ks : Int} {n : Nat} (h : ¬ (P n = -1 ∧ hb ks (k n))) : prR k w c P kn gs lw f wn ks n = prR k w c P kn gs lw f wn ks (n + 1) := by
  funext j
  unfold prR
  by_cases c2 : j < n ∧ P j = -1 ∧ hb ks (k j)
  · rw [if_pos c2, if_pos ⟨by omega, c2.2⟩]
  · rw [if_neg c2]
    by_cases c3 : j = n
    · subst c3; rw [if_neg (fun z => h z.2)]
    · rw [if_neg (fun z => c2 ⟨by omega, z.2⟩)]
theorem prR_in {k w c P : Nat → Int} {kn gs lw : Int} {f : Nat → Int} {wn ks : Int} {n : Nat} (hf : lwOK f wn) (hg : 0 ≤ gs ∧ gs ≤ 999) (hw : ∀ j, j < 30 → 0 ≤ w j ∧ w j ≤ 999) (hP : ∀ j, j < 30 → -1 ≤ P j ∧ P j ≤ 999) : ∀ j, j < 30 → -1 ≤ prR k w c P kn gs lw f wn ks n j ∧ prR k w c P kn gs lw f wn ks n j ≤ 999 := by
  intro j hj
  unfold prR
  split
  · have p := prc_in (kn := kn) (lw := lw) (k := k j) hf hg (TW_in (k j) (c j) (hw j hj).1 (hw j hj).2)
    omega
  · exact hP j hj
theorem thOK_P {M : Mem} {F : Nat → Int} (h : thOK M) (hF : ∀ j, j < 30 → -1 ≤ F j ∧ F j ≤ 999) : thOK (sr M 10 F) := by
  intro j hj
  obtain ⟨a, b, c, d, e, g⟩ := h j hj
  exact ⟨a, b, c, hF j hj, e, g⟩
theorem thOKm_P {M : Mem} {F : Nat → Int} (h : thOKm M) (hF : ∀ j, j < 30 → -1 ≤ F j ∧ F j ≤ 999) : thOKm (sr M 208 F) := by
  intro j hj
  obtain ⟨a, b, c, d, e, g⟩ := h j hj
  exact ⟨a, b, c, hF j hj, e, g⟩
/-- the ladies -/
def laOK (M : Mem) : Prop := ∀ j : Nat, j < 5 → (0 ≤ M 15 j ∧ M 15 j ≤ 63) ∧ 0 ≤ M 16 j ∧ M 16 j ≤ 999
def laOKm (M : Mem) : Prop := ∀ j : Nat, j < 5 → (0 ≤ M 212 j ∧ M 212 j ≤ 63) ∧ (0 ≤ M 213 j ∧ M 213 j ≤ 999) ∧ ((j : Int) < M 200 10 → -1 ≤ M 214 j ∧ M 214 j < M 200 14)
