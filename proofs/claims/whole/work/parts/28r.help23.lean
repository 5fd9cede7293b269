/-! the reference's pairs: a search in breadth -/
/-- who has one, and which -/
def MC (n : Nat) (B m : Nat → Int) : Prop := (∀ a, a < n → -1 ≤ m a ∧ m a < n ∧ (m a ≠ -1 → B (m a).toNat = a)) ∧ ∀ b, b < n → B b ≠ -1 → m (B b).toNat = b
/-- the search: F from where, L the line, c its length, k the place in it, b the next one -/
def SB (n : Nat) (E : Nat → Nat → Prop) (i : Int) (B F L : Nat → Int) (c k b : Nat) : Prop :=
  L 0 = i ∧ (1 ≤ c ∧ c = 1 + trd F n) ∧ (∀ j, j < c → 0 ≤ L j ∧ L j < n) ∧
  (∀ j, 1 ≤ j → j < c → ∃ b' : Nat, b' < n ∧ F b' ≠ -1 ∧ L j = B b' ∧ ∃ j', j' < j ∧ F b' = L j') ∧
  (∀ b', b' < n → F b' ≠ -1 → B b' ≠ -1 ∧ (∃ j, 1 ≤ j ∧ j < c ∧ L j = B b') ∧ (0 ≤ F b' ∧ F b' < n) ∧ E (F b').toNat b') ∧
  (∀ j, j < k → ∀ x, x < n → E (L j).toNat x → F x ≠ -1) ∧
  (∀ x, x < b → E (L k).toNat x → F x ≠ -1) ∧
  (∀ j1 j2, j1 < j2 → j2 < c → L j1 ≠ L j2)
theorem sb_0 {n : Nat} {E : Nat → Nat → Prop} {i : Int} {B F L : Nat → Int} (hF : ∀ b, b < n → F b = -1) (hi : 0 ≤ i ∧ i < n) : SB n E i B F (us L 0 i) 1 0 0 := by
  have e : us L 0 i 0 = i := us_k
  have z : trd F n = 0 := ct_zero n (fun j hj h => h (hF j hj))
  refine ⟨e, ⟨Nat.le_refl _, by omega⟩, fun j hj => ?_, fun j h1 h2 => by omega, fun b hb h => absurd (hF b hb) h, fun j hj => absurd hj (Nat.not_lt_zero _), fun x hx => absurd hx (Nat.not_lt_zero _), fun j1 j2 h1 h2 => by omega⟩
  rw [show j = 0 by omega, e]
  exact hi
/-- how long the line can be -/
theorem sb_len {n : Nat} {E : Nat → Nat → Prop} {i : Int} {B F L : Nat → Int} {c k b x : Nat} (h : SB n E i B F L c k b) (hv : Vl n E B) (ho : ∀ a : Int, 0 ≤ a → occ n B a ≤ 1) (hi : 0 ≤ i ∧ i < n) (h0 : occ n B i = 0) (hx : x < n) (hFx : F x = -1) (hB : B x ≠ -1) : c + 1 ≤ n := by
  have k1 : trd F n + 1 ≤ ct (fun b => B b ≠ -1) n := ct_lt hx (fun z => z hFx) hB (fun j hj hz => (h.2.2.2.2.1 j hj hz).1)
  have k2 : ct (fun b => B b ≠ -1) n ≤ ct (fun a => (a : Int) ≠ i) n := by
    refine ct_inj (f := fun b => (B b).toNat) n _ _ (fun a ha hp => ?_) (fun a a2 ha hb hp hq e => ?_)
    · have q := hv a ha
      refine ⟨by omega, ?_⟩
      have e2 : (((B a).toNat : Nat) : Int) = B a := by omega
      rw [e2]
      intro e3
      have q2 := occ_pos (B := B) ha e3
      omega
    · have q := hv a ha
      have q2 := hv a2 hb
      have e3 : B a = B a2 := by
        have : (B a).toNat = (B a2).toNat := e
        omega
      exact occ_two ha hb e3 rfl (ho _ (by omega))
  have k3 : ct (fun a => (a : Int) ≠ i) n + 1 ≤ ct (fun _ => True) n := ct_lt (k := i.toNat) (by omega) (fun z => z (by omega)) trivial (fun _ _ _ => trivial)
  have k4 := ct_le (fun _ => True) n
  have := h.2.1.2
  omega
/-- the next one of the line looks at the next -/
theorem sb_skip {n : Nat} {E : Nat → Nat → Prop} {i : Int} {B F L : Nat → Int} {c k b : Nat} (h : SB n E i B F L c k b) (e : F b ≠ -1 ∨ ¬ E (L k).toNat b) : SB n E i B F L c k (b + 1) := by
  refine ⟨h.1, h.2.1, h.2.2.1, h.2.2.2.1, h.2.2.2.2.1, h.2.2.2.2.2.1, fun x hx he => ?_, h.2.2.2.2.2.2.2⟩
  by_cases d : x = b
  · subst d
    rcases e with e | e
    · exact e
    · exact absurd he e
  · exact h.2.2.2.2.2.2.1 x (by omega) he
theorem sb_row {n : Nat} {E : Nat → Nat → Prop} {i : Int} {B F L : Nat → Int} {c k : Nat} (h : SB n E i B F L c k n) : SB n E i B F L c (k + 1) 0 := by
  refine ⟨h.1, h.2.1, h.2.2.1, h.2.2.2.1, h.2.2.2.2.1, fun j hj x hx he => ?_, fun x hx => absurd hx (Nat.not_lt_zero _), h.2.2.2.2.2.2.2⟩
  by_cases d : j = k
  · subst d
    exact h.2.2.2.2.2.2.1 x hx he
  · exact h.2.2.2.2.2.1 j (by omega) x hx he
/-- another one comes into the line -/
theorem sb_push {n : Nat} {E : Nat → Nat → Prop} {i : Int} {B F L : Nat → Int} {c k b : Nat} (h : SB n E i B F L c k b) (hv : Vl n E B) (ho : ∀ a : Int, 0 ≤ a → occ n B a ≤ 1) (hi : 0 ≤ i) (h0 : occ n B i = 0) (hk : k < c) (hb : b < n) (hF : F b = -1) (hB : B b ≠ -1) (he : E (L k).toNat b) : SB n E i B (us F b (L k)) (us L c (B b)) (c + 1) k (b + 1) := by
  obtain ⟨g1, g2, g3, g4, g5, g6, g7, g8⟩ := h
  have hLk := g3 k hk
  have hBb := hv b hb
  have old : ∀ j, j < c → us L c (B b) j = L j := fun j hj => us_o (by omega)
  have oF : ∀ x, F x ≠ -1 → us F b (L k) x = F x := fun x hx => us_o (fun e => hx (by rw [e]; exact hF))
  have nF : ∀ x, F x ≠ -1 → us F b (L k) x ≠ -1 := fun x hx => by rw [oF x hx]; exact hx
  have kF : us F b (L k) b = L k := us_k
  refine ⟨by rw [old 0 (by omega)]; exact g1, ⟨by omega, by rw [trd_us hb hF (by omega)]; omega⟩, fun j hj => ?_, fun j h1 h2 => ?_, fun x hx hz => ?_, fun j hj x hx hz => ?_, fun x hx hz => ?_, fun j1 j2 h1 h2 => ?_⟩
  · by_cases e : j = c
    · subst e; rw [us_k]; omega
    · rw [old j (by omega)]; exact g3 j (by omega)
  · by_cases e : j = c
    · subst e
      refine ⟨b, hb, by rw [kF]; omega, us_k, k, hk, by rw [kF, old k hk]⟩
    · obtain ⟨b', w1, w2, w3, j', w4, w5⟩ := g4 j h1 (by omega)
      exact ⟨b', w1, nF b' w2, by rw [old j (by omega)]; exact w3, j', w4, by rw [oF b' w2, old j' (by omega)]; exact w5⟩
  · by_cases e : x = b
    · subst e
      refine ⟨hB, ⟨c, by omega, by omega, us_k⟩, by rw [kF]; exact hLk, by rw [kF]; exact he⟩
    · rw [us_o e] at hz ⊢
      obtain ⟨w1, ⟨j, w2, w3, w4⟩, w5⟩ := g5 x hx hz
      exact ⟨w1, ⟨j, w2, by omega, by rw [old j w3]; exact w4⟩, w5⟩
  · rw [old j (by omega)] at hz
    exact nF x (g6 j hj x hx hz)
  · rw [old k hk] at hz
    by_cases e : x = b
    · rw [e, kF]; omega
    · exact nF x (g7 x (by omega) hz)
  · by_cases e : j2 = c
    · subst e
      rw [us_k, old j1 h1]
      intro hz
      by_cases e0 : j1 = 0
      · subst e0
        rw [g1] at hz
        have q := occ_pos (B := B) hb hz.symm
        omega
      · obtain ⟨b', w1, w2, w3, -⟩ := g4 j1 (by omega) h1
        rw [w3] at hz
        have q := occ_two w1 hb hz rfl (ho _ (by omega))
        rw [q] at w2
        exact w2 hF
    · rw [old j1 (by omega), old j2 (by omega)]
      exact g8 j1 j2 h1 (by omega)
/-- none is found -/
theorem sb_none {n : Nat} {E : Nat → Nat → Prop} {i : Int} {B F L : Nat → Int} {c : Nat} (h : SB n E i B F L c c 0) : Nno n E i B (fun _ => -1) F := by
  obtain ⟨g1, g2, g3, g4, g5, g6, g7, g8⟩ := h
  refine ⟨fun b _ z => absurd rfl z, fun b hb he => g6 0 (by omega) b hb (by rw [g1]; exact he), fun b hb _ hz => ?_⟩
  obtain ⟨w1, ⟨j, w2, w3, w4⟩, -⟩ := g5 b hb hz
  exact ⟨w1, fun x hx he => g6 j w3 x hx (by rw [w4]; exact he)⟩
/-- on the way back: B1, m1 are the new pairs, x wants another, g counts -/
def AH (n : Nat) (E : Nat → Nat → Prop) (i : Int) (B m F L : Nat → Int) (c : Nat) (x : Int) (g : Nat) (B1 m1 : Nat → Int) : Prop :=
  Vl n E B1 ∧ (∀ a, a < n → -1 ≤ m1 a ∧ m1 a < n ∧ (m1 a ≠ -1 → B1 (m1 a).toNat = a ∧ m1 a ≠ x)) ∧ (∀ b : Nat, b < n → (b : Int) ≠ x → B1 b ≠ -1 → m1 (B1 b).toNat = b) ∧
  ((x = -1 ∧ (∀ a : Int, 0 ≤ a → occ n B1 a = occ n B a + (if a = i then 1 else 0)) ∧ ∀ R, Cl n E R B → ¬ R i ∧ ∀ b, b < n → R (B b) → B1 b = B b) ∨
  (∃ j : Nat, g = j + 1 ∧ j < c ∧ (0 ≤ x ∧ x < n) ∧ F x.toNat = L j ∧ E (L j).toNat x.toNat ∧ B1 x.toNat = B x.toNat ∧ (∀ a : Int, 0 ≤ a → occ n B1 a = occ n B a + (if a = B x.toNat then 1 else 0)) ∧ (∀ R, Cl n E R B → ¬ R (B x.toNat) ∧ ∀ b, b < n → R (B b) → B1 b = B b) ∧ (∀ j', j' ≤ j → m1 (L j').toNat = m (L j').toNat) ∧ ∀ b', b' < n → (∃ j', j' ≤ j ∧ F b' = L j') → B1 b' = B b'))
theorem ah_0 {n : Nat} {E : Nat → Nat → Prop} {i : Int} {B m F L : Nat → Int} {c k b : Nat} (h : SB n E i B F L c k b) (hv : Vl n E B) (hm : MC n B m) (hk : k < c) (hb : b < n) (hB : B b = -1) (he : E (L k).toNat b) : AH n E i B m (us F b (L k)) L c (b : Int) (k + 1) B m := by
  refine ⟨hv, fun a ha => ⟨(hm.1 a ha).1, (hm.1 a ha).2.1, fun z => ⟨(hm.1 a ha).2.2 z, fun e => ?_⟩⟩, fun b' hb' _ hz => hm.2 b' hb' hz, Or.inr ⟨k, rfl, hk, ⟨by omega, by omega⟩, ?_⟩⟩
  · have q := (hm.1 a ha).2.2 z
    rw [e, Int.toNat_natCast, hB] at q
    omega
  · rw [Int.toNat_natCast]
    refine ⟨us_k, he, rfl, fun a ha => ?_, fun R hR => ⟨fun z => ?_, fun _ _ _ => rfl⟩, fun _ _ => rfl, fun _ _ _ => rfl⟩
    · rw [if_neg (by omega)]
      omega
    · rw [hB] at z
      have := hR.1 _ z
      omega
theorem ah_s {n : Nat} {E : Nat → Nat → Prop} {i : Int} {B m F0 F L : Nat → Int} {c k b : Nat} {x : Int} {g : Nat} {B1 m1 : Nat → Int} (hs : SB n E i B F0 L c k b) (hF : F = us F0 b (L k)) (hb : b < n) (hF0 : F0 b = -1) (hBb : B b = -1) (hv : Vl n E B) (ho : ∀ a : Int, 0 ≤ a → occ n B a ≤ 1) (hm : MC n B m) (hi : 0 ≤ i ∧ i < n) (h0 : occ n B i = 0) (h : AH n E i B m F L c x g B1 m1) (hx : 0 ≤ x) :
    (x < n ∧ 0 ≤ F x.toNat ∧ F x.toNat < n) ∧ ∃ g', g' < g ∧ AH n E i B m F L c (m1 (F x.toNat).toNat) g' (us B1 x.toNat (F x.toNat)) (us m1 (F x.toNat).toNat x) := by
  obtain ⟨k1, k2, k3, h | ⟨j, hg, hj, hxx, hFx, hE, hBx, hocc, hR, hmo, hBo⟩⟩ := h
  · omega
  obtain ⟨g1, g2, g3, g4, g5, g6, g7, g8⟩ := hs
  have hL := g3 j hj
  rw [hFx]
  refine ⟨⟨hxx.2, hL⟩, ?_⟩
  have eL : (((L j).toNat : Nat) : Int) = L j := by omega
  have ex : ((x.toNat : Nat) : Int) = x := by omega
  have hm1 := k2 (L j).toNat (by omega)
  have hvl : Vl n E (us B1 x.toNat (L j)) := vl_us k1 hL hE
  have hoc : ∀ a : Int, 0 ≤ a → occ n (us B1 x.toNat (L j)) a = occ n B a + (if a = L j then 1 else 0) := fun a ha => by
    have o := occ_us (B := B1) (x := L j) (k := x.toNat) (n := n) (by omega) a
    rw [hBx, hocc a ha] at o
    by_cases e1 : a = B x.toNat
    · rw [if_pos e1, if_pos e1.symm] at o
      by_cases e2 : a = L j
      · rw [if_pos e2.symm] at o; rw [if_pos e2]; omega
      · rw [if_neg (Ne.symm e2)] at o; rw [if_neg e2]; omega
    · rw [if_neg e1, if_neg (Ne.symm e1)] at o
      by_cases e2 : a = L j
      · rw [if_pos e2.symm] at o; rw [if_pos e2]; omega
      · rw [if_neg (Ne.symm e2)] at o; rw [if_neg e2]; omega
  have hRR : ∀ R, Cl n E R B → ¬ R (L j) ∧ ∀ b, b < n → R (B b) → us B1 x.toNat (L j) b = B b := fun R hC => by
    have w := hR R hC
    refine ⟨fun z => w.1 (hC.2 (L j) x.toNat z (by omega) hE).2, fun b hb hr => ?_⟩
    rw [us_o (fun e => w.1 (by rw [← e]; exact hr))]
    exact w.2 b hb hr
  -- the pairs in both directions
  have p1 : ∀ a, a < n → -1 ≤ us m1 (L j).toNat x a ∧ us m1 (L j).toNat x a < n ∧ (us m1 (L j).toNat x a ≠ -1 → us B1 x.toNat (L j) (us m1 (L j).toNat x a).toNat = a ∧ us m1 (L j).toNat x a ≠ m1 (L j).toNat) := fun a ha => by
    by_cases e : a = (L j).toNat
    · subst e
      rw [us_k]
      refine ⟨by omega, hxx.2, fun _ => ⟨by rw [us_k]; omega, fun z => ?_⟩⟩
      exact (hm1.2.2 (by omega)).2 z.symm
    · rw [us_o e]
      have w := k2 a ha
      refine ⟨w.1, w.2.1, fun z => ?_⟩
      have w2 := w.2.2 z
      refine ⟨?_, fun z2 => ?_⟩
      · rw [us_o (by omega)]; exact w2.1
      · have w3 := (hm1.2.2 (by omega)).1
        rw [← z2, w2.1] at w3
        omega
  have p2 : ∀ b' : Nat, b' < n → (b' : Int) ≠ m1 (L j).toNat → us B1 x.toNat (L j) b' ≠ -1 → us m1 (L j).toNat x (us B1 x.toNat (L j) b').toNat = b' := fun b' hb' hn hz => by
    by_cases e : b' = x.toNat
    · subst e
      rw [us_k, us_k]
      omega
    · rw [us_o e] at hz ⊢
      have w := k3 b' hb' (by omega) hz
      by_cases e2 : (B1 b').toNat = (L j).toNat
      · rw [e2] at w
        exact absurd w.symm hn
      · rw [us_o e2]; exact w
  have hmj := hmo j (Nat.le_refl _)
  by_cases j0 : j = 0
  · have e0 : L j = i := by rw [j0]; exact g1
    have e1 : m1 (L j).toNat = -1 := by
      rw [hmj]
      by_cases z : m (L j).toNat = -1
      · exact z
      · exfalso
        have w := hm.1 (L j).toNat (by omega)
        have w2 := w.2.2 z
        have q := occ_pos (n := n) (B := B) (b := (m (L j).toNat).toNat) (by omega) w2
        rw [eL, e0] at q
        omega
    exact ⟨0, by omega, hvl, p1, p2, Or.inl ⟨e1, fun a ha => by rw [← e0]; exact hoc a ha, fun R hC => ⟨by rw [← e0]; exact (hRR R hC).1, (hRR R hC).2⟩⟩⟩
  · obtain ⟨b', w1, w2, w3, j', w4, w5⟩ := g4 j (by omega) hj
    have nb : b' ≠ b := fun e => by rw [e] at w2; exact w2 hF0
    have eF : F b' = L j' := by rw [hF, us_o nb]; exact w5
    have hb1 := g5 b' w1 w2
    have e1 : m1 (L j).toNat = (b' : Int) := by
      rw [hmj, w3]
      exact hm.2 b' w1 hb1.1
    have nx : b' ≠ x.toNat := fun e => by
      rw [e, hFx] at eF
      exact g8 j' j w4 hj eF.symm
    rw [e1] at p1 p2 ⊢
    refine ⟨j' + 1, by omega, hvl, p1, p2, Or.inr ⟨j', rfl, by omega, ⟨by omega, by omega⟩, ?_⟩⟩
    rw [Int.toNat_natCast, ← w3]
    refine ⟨eF, ?_, ?_, hoc, hRR, fun j2 hj2 => ?_, fun b2 hb2 hz => ?_⟩
    · rw [← w5]; exact hb1.2.2.2
    · rw [us_o nx, w3]
      exact hBo b' w1 ⟨j', by omega, eF⟩
    · have q := g8 j2 j (by omega) hj
      have q2 := g3 j2 (by omega)
      rw [us_o (by omega)]
      exact hmo j2 (by omega)
    · obtain ⟨j2, hj2, hz⟩ := hz
      have q := g8 j2 j (by omega) hj
      rw [us_o (fun e => by rw [e, hFx] at hz; exact q hz.symm)]
      exact hBo b2 hb2 ⟨j2, by omega, hz⟩
theorem ah_e {n : Nat} {E : Nat → Nat → Prop} {i : Int} {B m F L : Nat → Int} {c : Nat} {x : Int} {g : Nat} {B1 m1 : Nat → Int} (h : AH n E i B m F L c x g B1 m1) (hx : x < 0) : Aug n E i B (fun _ => -1) B1 ∧ MC n B1 m1 := by
  obtain ⟨k1, k2, k3, h | ⟨j, -, -, hxx, -⟩⟩ := h
  · exact ⟨⟨h.2.1, k1, fun b _ z => absurd rfl z, h.2.2⟩, fun a ha => ⟨(k2 a ha).1, (k2 a ha).2.1, fun z => ((k2 a ha).2.2 z).1⟩, fun b hb z => k3 b hb (by omega) z⟩
  · omega
theorem ah_x {n : Nat} {E : Nat → Nat → Prop} {i : Int} {B m F L : Nat → Int} {c : Nat} {x : Int} {g : Nat} {B1 m1 : Nat → Int} (h : AH n E i B m F L c x g B1 m1) : -1 ≤ x ∧ x < n ∧ (x < 0 → x = -1) := by
  obtain ⟨k1, k2, k3, h | ⟨j, -, -, hxx, -⟩⟩ := h
  · omega
  · omega
theorem mc_0 {n : Nat} {B m : Nat → Int} (h : ∀ b, b < n → B b = -1) (h2 : ∀ b, b < n → m b = -1) : MC n B m := ⟨fun a ha => ⟨by rw [h2 a ha]; omega, by rw [h2 a ha]; omega, fun z => absurd (h2 a ha) z⟩, fun b hb z => absurd (h b hb) z⟩
