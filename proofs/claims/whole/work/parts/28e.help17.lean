/-! counting, pairs of the sightings -/
noncomputable def ind (p : Prop) : Nat := @ite Nat p (Classical.propDecidable p) 1 0
theorem ind_y {p : Prop} (h : p) : ind p = 1 := if_pos h
theorem ind_n {p : Prop} (h : ¬ p) : ind p = 0 := if_neg h
theorem ind_c (p : Prop) : (p ∧ ind p = 1) ∨ (¬ p ∧ ind p = 0) := by
  by_cases c : p
  · exact Or.inl ⟨c, ind_y c⟩
  · exact Or.inr ⟨c, ind_n c⟩
theorem ind_i (x y : Int) : ind (x = y) = if x = y then 1 else 0 := by
  by_cases c : x = y
  · rw [ind_y c, if_pos c]
  · rw [ind_n c, if_neg c]
noncomputable def ct (P : Nat → Prop) : Nat → Nat
  | 0 => 0
  | n + 1 => ct P n + ind (P n)
theorem ct_le (P : Nat → Prop) : ∀ n, ct P n ≤ n
  | 0 => Nat.le_refl _
  | n + 1 => by
    have := ct_le P n
    unfold ct
    rcases ind_c (P n) with c | c <;> omega
theorem ct_mono {P Q : Nat → Prop} : ∀ n, (∀ j, j < n → P j → Q j) → ct P n ≤ ct Q n
  | 0, _ => Nat.le_refl _
  | n + 1, h => by
    have ih := ct_mono n (fun j hj => h j (by omega))
    unfold ct
    by_cases c : P n
    · rw [ind_y c, ind_y (h n (Nat.lt_succ_self _) c)]; omega
    · rw [ind_n c]; omega
theorem ct_congr {P Q : Nat → Prop} (n : Nat) (h : ∀ j, j < n → (P j ↔ Q j)) : ct P n = ct Q n := Nat.le_antisymm (ct_mono n fun j hj => (h j hj).mp) (ct_mono n fun j hj => (h j hj).mpr)
theorem ct_zero {P : Nat → Prop} : ∀ n, (∀ j, j < n → ¬ P j) → ct P n = 0
  | 0, _ => rfl
  | n + 1, h => by
    unfold ct
    rw [ct_zero n (fun j hj => h j (by omega)), ind_n (h n (Nat.lt_succ_self _))]
theorem ct_all {P : Nat → Prop} : ∀ n, (∀ j, j < n → P j) → ct P n = n
  | 0, _ => rfl
  | n + 1, h => by
    unfold ct
    rw [ct_all n (fun j hj => h j (by omega)), ind_y (h n (Nat.lt_succ_self _))]
/-- one more -/
theorem ct_one {P Q : Nat → Prop} {k : Nat} : ∀ n, k < n → (∀ j, j < n → j ≠ k → (P j ↔ Q j)) → ct P n + ind (Q k) = ct Q n + ind (P k)
  | 0, h, _ => absurd h (Nat.not_lt_zero _)
  | n + 1, h, hj => by
    unfold ct
    by_cases e : k = n
    · subst e
      rw [ct_congr k (fun j hjk => hj j (by omega) (by omega))]
      omega
    · have ih := ct_one (P := P) (Q := Q) n (by omega) (fun j a b => hj j (by omega) b)
      have g := hj n (Nat.lt_succ_self _) (Ne.symm e)
      by_cases c : P n
      · rw [ind_y c, ind_y (g.mp c)]; omega
      · rw [ind_n c, ind_n (fun z => c (g.mpr z))]; omega
theorem ct_lt {P Q : Nat → Prop} {k n : Nat} (hk : k < n) (hp : ¬ P k) (hq : Q k) (h : ∀ j, j < n → P j → Q j) : ct P n + 1 ≤ ct Q n := by
  have a := ct_one (P := P) (Q := fun j => P j ∨ j = k) n hk (fun j _ e => ⟨Or.inl, fun z => z.resolve_right e⟩)
  rw [ind_n hp, ind_y (Or.inr rfl)] at a
  have b := ct_mono (P := fun j => P j ∨ j = k) (Q := Q) n (fun j hj z => z.elim (h j hj) (fun e => e ▸ hq))
  omega
theorem ct_not (P : Nat → Prop) : ∀ n, ct P n + ct (fun j => ¬ P j) n = n
  | 0 => rfl
  | n + 1 => by
    have ih := ct_not P n
    unfold ct
    by_cases c : P n
    · rw [ind_y c, ind_n (fun z => z c)]; omega
    · rw [ind_n c, ind_y c]; omega
theorem ct_and (P Q : Nat → Prop) : ∀ n, ct P n = ct (fun j => P j ∧ Q j) n + ct (fun j => P j ∧ ¬ Q j) n
  | 0 => rfl
  | n + 1 => by
    have ih := ct_and P Q n
    unfold ct
    by_cases c : P n
    · by_cases d : Q n
      · rw [ind_y c, ind_y ⟨c, d⟩, ind_n (fun z => z.2 d)]; omega
      · rw [ind_y c, ind_n (fun z => d z.2), ind_y ⟨c, d⟩]; omega
    · rw [ind_n c, ind_n (fun z => c z.1), ind_n (fun z => c z.1)]; omega
/-- an injection -/
theorem ct_inj {f : Nat → Nat} {m : Nat} : ∀ (n : Nat) (P : Nat → Prop) (Q : Nat → Prop), (∀ a, a < n → P a → f a < m ∧ Q (f a)) → (∀ a b, a < n → b < n → P a → P b → f a = f b → a = b) → ct P n ≤ ct Q m
  | 0, _, _, _, _ => Nat.zero_le _
  | n + 1, P, Q, h, hi => by
    have e : ct P (n + 1) = ct P n + ind (P n) := rfl
    rw [e]
    by_cases c : P n
    · have ih := ct_inj (f := f) (m := m) n P (fun j => Q j ∧ j ≠ f n) (fun a ha hp => ⟨(h a (by omega) hp).1, (h a (by omega) hp).2, fun e => by
        have := hi a n (by omega) (Nat.lt_succ_self _) hp c e
        omega⟩) (fun a b ha hb => hi a b (by omega) (by omega))
      have g := h n (Nat.lt_succ_self _) c
      have l := ct_lt (P := fun j => Q j ∧ j ≠ f n) (Q := Q) g.1 (fun z => z.2 rfl) g.2 (fun j _ z => z.1)
      rw [ind_y c]
      omega
    · have ih := ct_inj (f := f) (m := m) n P Q (fun a ha => h a (by omega)) (fun a b ha hb => hi a b (by omega) (by omega))
      rw [ind_n c]
      omega
/-- how often one stands in a row -/
noncomputable def occ (n : Nat) (B : Nat → Int) (a : Int) : Nat := ct (fun b => B b = a) n
theorem occ_us {n k : Nat} {B : Nat → Int} {x : Int} (hk : k < n) (a : Int) : occ n (us B k x) a + (if B k = a then 1 else 0) = occ n B a + (if x = a then 1 else 0) := by
  have h := ct_one (P := fun b => us B k x b = a) (Q := fun b => B b = a) n hk (fun j _ e => by show us B k x j = a ↔ _; rw [us_o e])
  have e : us B k x k = x := us_k
  unfold occ
  simp only [e, ind_i] at h
  omega
theorem occ_pos {n b : Nat} {B : Nat → Int} {a : Int} (hb : b < n) (h : B b = a) : 1 ≤ occ n B a := by
  have := ct_lt (P := fun _ => False) (Q := fun b => B b = a) hb (fun z => z) h (fun _ _ z => z.elim)
  unfold occ
  omega
theorem occ_ex {n : Nat} {B : Nat → Int} {a : Int} (h : occ n B a ≠ 0) : ∃ b, b < n ∧ B b = a := by
  by_cases c : ∃ b, b < n ∧ B b = a
  · exact c
  · exact absurd (ct_zero n (fun j hj e => c ⟨j, hj, e⟩)) h
theorem occ_two {n b c : Nat} {B : Nat → Int} {a : Int} (hb : b < n) (hc : c < n) (h1 : B b = a) (h2 : B c = a) (h : occ n B a ≤ 1) : b = c := by
  by_cases e : b = c
  · exact e
  · have l := ct_lt (P := fun j => j = b) (Q := fun b => B b = a) hc (fun z => e z.symm) h2 (fun j _ z => by subst z; exact h1)
    have l2 := ct_lt (P := fun _ => False) (Q := fun j => j = b) hb (fun z => z) rfl (fun _ _ z => z.elim)
    unfold occ at h
    omega
/-- a set whose later ones all stand behind one of the set -/
def Cl (n : Nat) (E : Nat → Nat → Prop) (R : Int → Prop) (B : Nat → Int) : Prop := (∀ a, R a → 0 ≤ a) ∧ ∀ (a : Int) (b : Nat), R a → b < n → E a.toNat b → B b ≠ -1 ∧ R (B b)
def Vl (n : Nat) (E : Nat → Nat → Prop) (B : Nat → Int) : Prop := ∀ b, b < n → -1 ≤ B b ∧ B b < n ∧ (B b ≠ -1 → E (B b).toNat b)
/-- the fewest -/
def Opt (n : Nat) (E : Nat → Nat → Prop) (u : Nat) : Prop := ∃ (B : Nat → Int) (R : Int → Prop), Vl n E B ∧ (∀ a : Int, 0 ≤ a → occ n B a ≤ 1) ∧ u = ct (fun a => occ n B (a : Int) = 0) n ∧ (∀ a : Nat, a < n → occ n B (a : Int) = 0 → R a) ∧ (∀ a, R a → 0 ≤ a ∧ a < n) ∧ Cl n E R B
theorem pick_ex {n : Nat} {P : Nat → Nat → Prop} (h : ∀ a, a < n → ∃ b, P a b) : ∃ f : Nat → Nat, ∀ a, a < n → P a (f a) := by
  refine ⟨fun a => @dite Nat (∃ b, P a b) (Classical.propDecidable _) (fun h2 => Classical.choose h2) (fun _ => 0), fun a ha => ?_⟩
  have h2 := h a ha
  show P a (@dite Nat (∃ b, P a b) (Classical.propDecidable _) (fun h2 => Classical.choose h2) (fun _ => 0))
  rw [dif_pos h2]
  exact Classical.choose_spec h2
theorem opt_le {n : Nat} {E : Nat → Nat → Prop} {u v : Nat} (h1 : Opt n E u) (h2 : Opt n E v) : u ≤ v := by
  obtain ⟨B, R, hv, ho, hu, hR, hr, hC⟩ := h1
  obtain ⟨B2, R2, hv2, ho2, hu2, hR2, hr2, hC2⟩ := h2
  -- in R: matched by B2 go into the neighbours
  let N : Nat → Prop := fun b => ∃ a : Int, R a ∧ E a.toNat b
  have k1 : ct (fun a => R a ∧ occ n B2 (a : Int) ≠ 0) n ≤ ct N n := by
    obtain ⟨f, hf⟩ := pick_ex (n := n) (P := fun a b => occ n B2 (a : Int) ≠ 0 → b < n ∧ B2 b = a) (fun a ha => by
      by_cases c : occ n B2 (a : Int) = 0
      · exact ⟨0, fun z => absurd c z⟩
      · obtain ⟨b, h⟩ := occ_ex c
        exact ⟨b, fun _ => h⟩)
    refine ct_inj (f := f) n _ N (fun a ha hp => ?_) (fun a b ha hb hp hq e => ?_)
    · have g := hf a ha hp.2
      refine ⟨g.1, (a : Int), hp.1, ?_⟩
      have w := (hv2 _ g.1).2.2 (by omega)
      rw [g.2] at w
      exact w
    · have g := hf a ha hp.2
      have g2 := hf b hb hq.2
      rw [e] at g
      omega
  have k2 : ct N n ≤ ct (fun a => R a ∧ occ n B (a : Int) ≠ 0) n := by
    refine ct_inj (f := fun b => (B b).toNat) n N _ (fun b hb hp => ?_) (fun a b ha hb hp hq e => ?_)
    · obtain ⟨a, h1, h2⟩ := hp
      have g := hC.2 a b h1 hb h2
      have g3 := hr _ g.2
      have e : (((B b).toNat : Nat) : Int) = B b := by omega
      refine ⟨by omega, ?_, ?_⟩
      · rw [e]; exact g.2
      · rw [e]
        have := occ_pos (B := B) hb rfl
        omega
    · obtain ⟨x, h1, h2⟩ := hp
      obtain ⟨y, h3, h4⟩ := hq
      have g := hr _ (hC.2 x a h1 ha h2).2
      have g2 := hr _ (hC.2 y b h3 hb h4).2
      have e2 : B b = B a := by
        have : (B a).toNat = (B b).toNat := e
        omega
      exact occ_two ha hb rfl e2 (ho _ g.1)
  have k3 := ct_and (fun a => R a) (fun a => occ n B (a : Int) = 0) n
  have k4 := ct_and (fun a => R a) (fun a => occ n B2 (a : Int) = 0) n
  have k5 : ct (fun a => R a ∧ occ n B2 (a : Int) = 0) n ≤ v := by rw [hu2]; exact ct_mono n (fun j _ z => z.2)
  have k6 : u ≤ ct (fun a => R a ∧ occ n B (a : Int) = 0) n := by rw [hu]; exact ct_mono n (fun j hj z => ⟨hR j hj z, z⟩)
  have k7 : ct (fun a => R a ∧ ¬ occ n B (a : Int) = 0) n = ct (fun a => R a ∧ occ n B (a : Int) ≠ 0) n := rfl
  have k8 : ct (fun a => R a ∧ ¬ occ n B2 (a : Int) = 0) n = ct (fun a => R a ∧ occ n B2 (a : Int) ≠ 0) n := rfl
  omega
theorem opt_eq {n : Nat} {E : Nat → Nat → Prop} {u v : Nat} (h1 : Opt n E u) (h2 : Opt n E v) : u = v := Nat.le_antisymm (opt_le h1 h2) (opt_le h2 h1)
/-- one more pair -/
def Aug (n : Nat) (E : Nat → Nat → Prop) (i : Int) (B T B' : Nat → Int) : Prop := (∀ a : Int, 0 ≤ a → occ n B' a = occ n B a + (if a = i then 1 else 0)) ∧ Vl n E B' ∧ (∀ b, b < n → T b ≠ -1 → B' b = B b) ∧ ∀ R, Cl n E R B → ¬ R i ∧ ∀ b, b < n → R (B b) → B' b = B b
/-- none -/
def Nno (n : Nat) (E : Nat → Nat → Prop) (i : Int) (B T T' : Nat → Int) : Prop := (∀ b, b < n → T b ≠ -1 → T' b ≠ -1) ∧ (∀ b, b < n → E i.toNat b → T' b ≠ -1) ∧ ∀ b, b < n → T b = -1 → T' b ≠ -1 → B b ≠ -1 ∧ ∀ c, c < n → E (B b).toNat c → T' c ≠ -1
/-- on the way -/
def Sr (n : Nat) (E : Nat → Nat → Prop) (i : Int) (B T : Nat → Int) (l : Nat) (T' : Nat → Int) : Prop := (∀ b, b < n → T b ≠ -1 → T' b ≠ -1) ∧ (∀ b, b < l → E i.toNat b → T' b ≠ -1) ∧ ∀ b, b < n → T b = -1 → T' b ≠ -1 → B b ≠ -1 ∧ ∀ c, c < n → E (B b).toNat c → T' c ≠ -1
theorem sr0 {n : Nat} {E : Nat → Nat → Prop} {i : Int} {B T : Nat → Int} : Sr n E i B T 0 T := ⟨fun _ _ h => h, fun b h => absurd h (Nat.not_lt_zero _), fun b _ h1 h2 => absurd h1 h2⟩
theorem sr_end {n l : Nat} {E : Nat → Nat → Prop} {i : Int} {B T T' : Nat → Int} (h : Sr n E i B T l T') (e : n ≤ l) : Nno n E i B T T' := ⟨h.1, fun b hb => h.2.1 b (by omega), h.2.2⟩
theorem sr_next {n : Nat} {E : Nat → Nat → Prop} {i : Int} {B T T' : Nat → Int} {l : Nat} (h : Sr n E i B T l T') (c : T' l ≠ -1 ∨ ¬ E i.toNat l) : Sr n E i B T (l + 1) T' := ⟨h.1, fun b hb he => by
  by_cases e : b = l
  · subst e; exact c.resolve_right (fun z => z he)
  · exact h.2.1 b (by omega) he, h.2.2⟩
theorem sr_rec {n : Nat} {E : Nat → Nat → Prop} {i : Int} {B T T1 T3 : Nat → Int} {l : Nat} (hl : l < n) (hi : 0 ≤ i) (h : Sr n E i B T l T1) (hb : B l ≠ -1) (g : Nno n E (B l) B (us T1 l i) T3) : Sr n E i B T (l + 1) T3 := by
  have m : ∀ b, b < n → T1 b ≠ -1 → T3 b ≠ -1 := fun b hb hn => g.1 b hb (by
    by_cases e : b = l
    · rw [e, us_k]; omega
    · rw [us_o e]; exact hn)
  have ml : T3 l ≠ -1 := g.1 l hl (by rw [us_k]; omega)
  refine ⟨fun b hb hn => m b hb (h.1 b hb hn), fun b hb he => ?_, fun b hbn ht h3 => ?_⟩
  · by_cases e : b = l
    · rw [e]; exact ml
    · exact m b (by omega) (h.2.1 b (by omega) he)
  · by_cases c : us T1 l i b = -1
    · exact g.2.2 b hbn c h3
    · by_cases e : b = l
      · rw [e]
        exact ⟨hb, g.2.1⟩
      · rw [us_o e] at c
        have w := h.2.2 b hbn ht c
        exact ⟨w.1, fun x hx he => m x hx (w.2 x hx he)⟩
theorem vl_us {n : Nat} {E : Nat → Nat → Prop} {i : Int} {B : Nat → Int} {l : Nat} (hv : Vl n E B) (hi : 0 ≤ i ∧ i < n) (he : E i.toNat l) : Vl n E (us B l i) := fun b hb => by
  by_cases e : b = l
  · subst e; rw [us_k]; exact ⟨by omega, hi.2, fun _ => he⟩
  · rw [us_o e]; exact hv b hb
theorem aug_base {n : Nat} {E : Nat → Nat → Prop} {i : Int} {B T T1 : Nat → Int} {l : Nat} (hl : l < n) (hi : 0 ≤ i ∧ i < n) (hv : Vl n E B) (h : Sr n E i B T l T1) (ht : T1 l = -1) (he : E i.toNat l) (hb : B l = -1) : Aug n E i B T (us B l i) := by
  refine ⟨fun a ha => ?_, vl_us hv hi he, fun b hbn hn => ?_, fun R hR => ⟨fun z => ?_, fun b hbn hr => ?_⟩⟩
  · have o := occ_us (B := B) (x := i) hl a
    rw [hb, if_neg (by omega)] at o
    by_cases e : a = i
    · rw [if_pos e.symm] at o
      rw [if_pos e]
      omega
    · rw [if_neg (Ne.symm e)] at o
      rw [if_neg e]
      omega
  · rw [us_o (fun e => h.1 b hbn hn (by rw [e]; exact ht))]
  · exact (hR.2 i l z hl he).1 hb
  · rw [us_o]
    intro e
    subst e
    have := hR.1 _ hr
    omega
theorem aug_rec {n : Nat} {E : Nat → Nat → Prop} {i : Int} {B T T1 B2 : Nat → Int} {l : Nat} (hl : l < n) (hi : 0 ≤ i ∧ i < n) (hv : Vl n E B) (h : Sr n E i B T l T1) (ht : T1 l = -1) (he : E i.toNat l) (hb : B l ≠ -1) (g : Aug n E (B l) B (us T1 l i) B2) : Aug n E i B T (us B2 l i) := by
  have el : B2 l = B l := g.2.2.1 l hl (by rw [us_k]; omega)
  refine ⟨fun a ha => ?_, vl_us g.2.1 hi he, fun b hbn hn => ?_, fun R hR => ⟨fun z => ?_, fun b hbn hr => ?_⟩⟩
  · have o := occ_us (B := B2) (x := i) hl a
    have w := g.1 a ha
    rw [el, w] at o
    by_cases e : a = i
    · rw [if_pos e.symm] at o
      rw [if_pos e]
      by_cases f : a = B l
      · rw [if_pos f, if_pos f.symm] at o; omega
      · rw [if_neg f, if_neg (Ne.symm f)] at o; omega
    · rw [if_neg (Ne.symm e)] at o
      rw [if_neg e]
      by_cases f : a = B l
      · rw [if_pos f, if_pos f.symm] at o; omega
      · rw [if_neg f, if_neg (Ne.symm f)] at o; omega
  · have e : b ≠ l := fun e => h.1 b hbn hn (by rw [e]; exact ht)
    rw [us_o e]
    refine g.2.2.1 b hbn ?_
    rw [us_o e]
    exact h.1 b hbn hn
  · exact (g.2.2.2 R hR).1 (hR.2 i l z hl he).2
  · have w := g.2.2.2 R hR
    have e : b ≠ l := fun e => w.1 (by rw [← e]; exact hr)
    rw [us_o e]
    exact w.2 b hbn hr
/-- after some of them -/
def MI (n : Nat) (E : Nat → Nat → Prop) (i : Nat) (B : Nat → Int) (k : Nat) : Prop := Vl n E B ∧ (∀ a : Int, 0 ≤ a → occ n B a ≤ 1) ∧ (∀ a : Int, (i : Int) ≤ a → occ n B a = 0) ∧ k = ct (fun a => occ n B (a : Int) ≠ 0) i ∧ ∃ R : Int → Prop, (∀ a, R a → 0 ≤ a ∧ a < i) ∧ (∀ a : Nat, a < i → occ n B (a : Int) = 0 → R a) ∧ Cl n E R B
theorem mi0 {n : Nat} {E : Nat → Nat → Prop} {B : Nat → Int} (h : ∀ b, b < n → B b = -1) : MI n E 0 B 0 := by
  have o : ∀ a : Int, 0 ≤ a → occ n B a = 0 := fun a ha => ct_zero n (fun j hj => by show ¬ B j = a; rw [h j hj]; omega)
  refine ⟨fun b hb => ?_, fun a ha => by rw [o a ha]; exact Nat.zero_le _, fun a ha => o a ha, rfl, fun _ => False, fun _ z => z.elim, fun a ha => absurd ha (Nat.not_lt_zero _), fun _ z => z.elim, fun _ _ z => z.elim⟩
  rw [h b hb]
  exact ⟨by omega, by omega, fun z => absurd rfl z⟩
theorem mi_yes {n : Nat} {E : Nat → Nat → Prop} {i k : Nat} {B B' T : Nat → Int} (h : MI n E i B k) (g : Aug n E i B T B') : MI n E (i + 1) B' (k + 1) := by
  obtain ⟨h1, h2, h3, h4, R, r1, r2, r3⟩ := h
  have w := g.2.2.2 R r3
  refine ⟨g.2.1, fun a ha => ?_, fun a ha => ?_, ?_, R, fun a z => ?_, fun a ha z => ?_, r3.1, fun a b z hb he => ?_⟩
  · rw [g.1 a ha]
    split
    · next e => rw [h3 a (by omega)]; omega
    · have := h2 a ha; omega
  · rw [g.1 a (by omega), if_neg (by omega), h3 a (by omega)]
  · unfold ct
    rw [ind_y (by rw [g.1 _ (by omega), if_pos rfl]; omega), h4]
    congr 1
    refine ct_congr i (fun j hj => ?_)
    rw [g.1 _ (by omega), if_neg (by omega)]
    exact Iff.rfl
  · have := r1 a z; omega
  · rw [g.1 _ (by omega)] at z
    by_cases e : (a : Int) = i
    · rw [if_pos e] at z; omega
    · exact r2 a (by omega) (by omega)
  · have q := r3.2 a b z hb he
    rw [w.2 b hb q.2]
    exact q
theorem mi_no {n : Nat} {E : Nat → Nat → Prop} {i k : Nat} {B T T' : Nat → Int} (h : MI n E i B k) (ht : ∀ b, b < n → T b = -1) (g : Nno n E i B T T') : MI n E (i + 1) B k := by
  obtain ⟨h1, h2, h3, h4, R, r1, r2, r3⟩ := h
  have hm : ∀ b, b < n → B b ≠ -1 → B b < (i : Int) := fun b hb z => by
    by_cases c : (i : Int) ≤ B b
    · have o1 := h3 _ c
      have o2 := occ_pos (B := B) hb rfl
      omega
    · omega
  refine ⟨h1, h2, fun a ha => h3 a (by omega), ?_, fun a => R a ∨ a = i ∨ ∃ b, b < n ∧ T' b ≠ -1 ∧ B b = a, fun a z => ?_, fun a ha z => ?_, fun a z => ?_, fun a b z hb he => ?_⟩
  · unfold ct
    rw [ind_n (fun z => z (h3 _ (by omega)))]
    exact h4
  · rcases z with z | z | ⟨b, hb, z1, z2⟩
    · have := r1 a z; omega
    · omega
    · have q := (g.2.2 b hb (ht b hb) z1).1
      have q2 := hm b hb q
      have q3 := (h1 b hb).1
      omega
  · by_cases e : a = i
    · exact Or.inr (Or.inl (by omega))
    · exact Or.inl (r2 a (by omega) z)
  · rcases z with z | z | ⟨b, hb, z1, z2⟩
    · exact r3.1 a z
    · omega
    · have q := (g.2.2 b hb (ht b hb) z1).1
      have q3 := (h1 b hb).1
      omega
  · have key : T' b ≠ -1 → B b ≠ -1 ∧ (R (B b) ∨ B b = i ∨ ∃ c, c < n ∧ T' c ≠ -1 ∧ B c = B b) := fun z1 => ⟨(g.2.2 b hb (ht b hb) z1).1, Or.inr (Or.inr ⟨b, hb, z1, rfl⟩)⟩
    rcases z with z | z | ⟨c, hc, z1, z2⟩
    · have q := r3.2 a b z hb he
      exact ⟨q.1, Or.inl q.2⟩
    · subst z
      exact key (g.2.1 b hb he)
    · subst z2
      exact key ((g.2.2 c hc (ht c hc) z1).2 b hb he)
theorem mi_opt {n : Nat} {E : Nat → Nat → Prop} {B : Nat → Int} {k : Nat} (h : MI n E n B k) : Opt n E (n - k) ∧ k ≤ n := by
  obtain ⟨h1, h2, h3, h4, R, r1, r2, r3⟩ := h
  have c := ct_not (fun a => occ n B (a : Int) = 0) n
  have e : ct (fun j => ¬ occ n B (j : Int) = 0) n = k := h4.symm
  exact ⟨⟨B, R, h1, h2, by omega, r2, r1, r3⟩, by omega⟩
/-- how many have been tried -/
noncomputable def trd (T : Nat → Int) (n : Nat) : Nat := ct (fun b => T b ≠ -1) n
theorem trd_us {T : Nat → Int} {n l : Nat} {x : Int} (hl : l < n) (h : T l = -1) (hx : x ≠ -1) : trd (us T l x) n = trd T n + 1 := by
  have a := ct_one (P := fun b => us T l x b ≠ -1) (Q := fun b => T b ≠ -1) n hl (fun j _ e => by show us T l x j ≠ -1 ↔ _; rw [us_o e])
  rw [ind_n (fun z => z h), ind_y (by show us T l x l ≠ -1; rw [us_k]; exact hx)] at a
  exact a
theorem trd_mono {T T' : Nat → Int} {n : Nat} (h : ∀ b, b < n → T b ≠ -1 → T' b ≠ -1) : trd T n ≤ trd T' n := ct_mono n h
theorem trd_lt {T : Nat → Int} {n l : Nat} (hl : l < n) (h : T l = -1) : trd T n + 1 ≤ n := by
  have a := ct_lt (P := fun b => T b ≠ -1) (Q := fun _ => True) hl (fun z => z h) trivial (fun _ _ _ => trivial)
  have b := ct_le (fun _ => True) n
  unfold trd
  omega
