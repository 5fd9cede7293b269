/-! the sale -/
theorem up_sr {M : Mem} {k j : Nat} {x : Int} : up M k j x = sr M k (us (M k) j x) := by
  funext a
  by_cases h : a = k
  · subst h; rw [up_k, sr_k]
  · rw [up_o h, sr_o h]
theorem sr_sr {M : Mem} {k : Nat} {f g : Nat → Int} : sr (sr M k f) k g = sr M k g := by
  funext a
  by_cases h : a = k
  · subst h; rw [sr_k, sr_k]
  · rw [sr_o h, sr_o h, sr_o h]
theorem sr_lt {M : Mem} {a b : Nat} {f g : Nat → Int} (h : b < a) : sr (sr M a f) b g = sr (sr M b g) a f := by
  funext x
  by_cases h1 : x = a
  · subst h1; rw [sr_k, sr_o (by omega), sr_k]
  · by_cases h2 : x = b
    · subst h2; rw [sr_k, sr_o h1, sr_k]
    · rw [sr_o h2, sr_o h1, sr_o h1, sr_o h2]
theorem us_us {f : Nat → Int} {j : Nat} {x y : Int} : us (us f j x) j y = us f j y := by
  funext i
  unfold us
  split <;> rfl
theorem us_self {f : Nat → Int} {j : Nat} : us f j (f j) = f := by
  funext i
  unfold us
  split
  · rename_i h; rw [h]
  · rfl
def stg (h half bag : Int) : Int := if bag ≤ h then 2 else if half ≤ h then 1 else 0
theorem stg_in (h half bag : Int) : 0 ≤ stg h half bag ∧ stg h half bag ≤ 2 := by unfold stg; (repeat' split) <;> omega
def cst (p st : Int) : Int := if st = 2 then 10 else if st = 1 then p.tdiv 2 else p
theorem cst_2 {p st : Int} (h : st = 2) : cst p st = 10 := by unfold cst; rw [if_pos h]
theorem cst_1 {p st : Int} (h : st = 1) : cst p st = p.tdiv 2 := by unfold cst; rw [if_neg (by omega), if_pos h]
theorem cst_0 {p st : Int} (h : ¬ st = 2 ∧ ¬ st = 1) : cst p st = p := by unfold cst; rw [if_neg h.1, if_neg h.2]
theorem cst_in {p st : Int} (h0 : 0 ≤ p) (h1 : p ≤ 999) : 0 ≤ cst p st ∧ cst p st ≤ 999 := by
  unfold cst
  have := td_in h0 2 (by decide)
  (repeat' split) <;> omega
def gan (ey tr co : Int) : Int := (ey * tr).tdiv 100 - co
theorem gan_in {ey tr co : Int} (a : 0 ≤ ey ∧ ey ≤ 300) (b : 0 ≤ tr ∧ tr ≤ 1049) (c : 0 ≤ co ∧ co ≤ 999) : -999 ≤ gan ey tr co ∧ gan ey tr co ≤ 314700 := by
  unfold gan
  have h := mul0 300 1049 a.1 a.2 b.1 b.2
  have e := td_in h.1 100 (by decide)
  omega
abbrev TWf (k w c : Nat → Int) : Nat → Int := fun j => TW (k j) (w j) (c j)
/-- what one takes: the thing and the gain -/
def ch (av P K T : Nat → Int) (ks ey pu st : Int) : Nat → Int × Int
  | 0 => (-1, -1)
  | n + 1 => if av n = 0 ∧ 0 ≤ P n ∧ hb ks (K n) ∧ cst (P n) st ≤ pu ∧ (ch av P K T ks ey pu st n).2 < gan ey (T n) (cst (P n) st) then ((n : Int), gan ey (T n) (cst (P n) st)) else ch av P K T ks ey pu st n
theorem ch_y {av P K T : Nat → Int} {ks ey pu st : Int} {n : Nat} (h : av n = 0 ∧ 0 ≤ P n ∧ hb ks (K n) ∧ cst (P n) st ≤ pu ∧ (ch av P K T ks ey pu st n).2 < gan ey (T n) (cst (P n) st)) : ch av P K T ks ey pu st (n + 1) = ((n : Int), gan ey (T n) (cst (P n) st)) := by
  rw [ch, if_pos h]
theorem ch_n {av P K T : Nat → Int} {ks ey pu st : Int} {n : Nat} (h : ¬ (av n = 0 ∧ 0 ≤ P n ∧ hb ks (K n) ∧ cst (P n) st ≤ pu ∧ (ch av P K T ks ey pu st n).2 < gan ey (T n) (cst (P n) st))) : ch av P K T ks ey pu st (n + 1) = ch av P K T ks ey pu st n := by
  rw [ch, if_neg h]
theorem ch_rng {av P K T : Nat → Int} {ks ey pu st : Int} (hP : ∀ j, j < 30 → P j ≤ 999) (hT : ∀ j, j < 30 → 0 ≤ T j ∧ T j ≤ 1049) (he : 0 ≤ ey ∧ ey ≤ 300) : ∀ n, n ≤ 30 → (-1 ≤ (ch av P K T ks ey pu st n).1 ∧ (ch av P K T ks ey pu st n).1 < n) ∧ -1 ≤ (ch av P K T ks ey pu st n).2 ∧ (ch av P K T ks ey pu st n).2 ≤ 314700
  | 0, _ => by simp [ch]
  | n + 1, h => by
    have ih := ch_rng (av := av) (K := K) (ks := ks) (pu := pu) (st := st) hP hT he n (by omega)
    by_cases c : av n = 0 ∧ 0 ≤ P n ∧ hb ks (K n) ∧ cst (P n) st ≤ pu ∧ (ch av P K T ks ey pu st n).2 < gan ey (T n) (cst (P n) st)
    · rw [ch_y c]
      have g := gan_in he (hT n (by omega)) (cst_in (st := st) c.2.1 (hP n (by omega)))
      refine ⟨⟨?_, ?_⟩, ?_, ?_⟩ <;> simp only <;> omega
    · rw [ch_n c]
      exact ⟨⟨ih.1.1, by omega⟩, ih.2⟩
/-- what is chosen may be sold -/
theorem ch_ok {av P K T : Nat → Int} {ks ey pu st : Int} : ∀ n, (ch av P K T ks ey pu st n).1 = -1 ∨ ∃ j : Nat, j < n ∧ (ch av P K T ks ey pu st n).1 = j ∧ av j = 0 ∧ 0 ≤ P j ∧ hb ks (K j) ∧ cst (P j) st ≤ pu ∧ (ch av P K T ks ey pu st n).2 = gan ey (T j) (cst (P j) st)
  | 0 => Or.inl rfl
  | n + 1 => by
    by_cases c : av n = 0 ∧ 0 ≤ P n ∧ hb ks (K n) ∧ cst (P n) st ≤ pu ∧ (ch av P K T ks ey pu st n).2 < gan ey (T n) (cst (P n) st)
    · rw [ch_y c]
      exact Or.inr ⟨n, Nat.lt_succ_self _, rfl, c.1, c.2.1, c.2.2.1, c.2.2.2.1, rfl⟩
    · rw [ch_n c]
      rcases ch_ok (av := av) (P := P) (K := K) (T := T) (ks := ks) (ey := ey) (pu := pu) (st := st) n with h | ⟨j, h1, h2⟩
      · exact Or.inl h
      · exact Or.inr ⟨j, by omega, h2⟩
/-- none is chosen just where none may gain -/
theorem ch_none {av P K T : Nat → Int} {ks ey pu st : Int} : ∀ n, ((ch av P K T ks ey pu st n).1 = -1 → (ch av P K T ks ey pu st n).2 = -1 ∧ ∀ j, j < n → ¬ (av j = 0 ∧ 0 ≤ P j ∧ hb ks (K j) ∧ cst (P j) st ≤ pu ∧ -1 < gan ey (T j) (cst (P j) st))) ∧ ((∀ j, j < n → ¬ (av j = 0 ∧ 0 ≤ P j ∧ hb ks (K j) ∧ cst (P j) st ≤ pu ∧ -1 < gan ey (T j) (cst (P j) st))) → ch av P K T ks ey pu st n = (-1, -1))
  | 0 => ⟨fun _ => ⟨rfl, fun j h => absurd h (Nat.not_lt_zero _)⟩, fun _ => rfl⟩
  | n + 1 => by
    have ih := ch_none (av := av) (P := P) (K := K) (T := T) (ks := ks) (ey := ey) (pu := pu) (st := st) n
    constructor
    · intro h
      by_cases c : av n = 0 ∧ 0 ≤ P n ∧ hb ks (K n) ∧ cst (P n) st ≤ pu ∧ (ch av P K T ks ey pu st n).2 < gan ey (T n) (cst (P n) st)
      · rw [ch_y c] at h
        exact absurd h (by show ¬ ((n : Int) = -1); omega)
      · rw [ch_n c] at h ⊢
        obtain ⟨h1, h2⟩ := ih.1 h
        refine ⟨h1, fun j hj => ?_⟩
        by_cases e : j = n
        · subst e
          rw [h1] at c
          exact c
        · exact h2 j (by omega)
    · intro h
      have h1 := ih.2 (fun j hj => h j (by omega))
      rw [ch_n ?_, h1]
      rw [h1]
      exact h n (Nat.lt_succ_self _)
theorem ch_congr {av av' P K T : Nat → Int} {ks ey pu st : Int} : ∀ n, (∀ j, j < n → (av j = 0 ↔ av' j = 0)) → ch av P K T ks ey pu st n = ch av' P K T ks ey pu st n
  | 0, _ => rfl
  | n + 1, h => by
    have ih := ch_congr (P := P) (K := K) (T := T) (ks := ks) (ey := ey) (pu := pu) (st := st) n (fun j hj => h j (by omega))
    have hn := h n (Nat.lt_succ_self _)
    unfold ch
    rw [ih]
    by_cases c : av' n = 0 ∧ 0 ≤ P n ∧ hb ks (K n) ∧ cst (P n) st ≤ pu ∧ (ch av' P K T ks ey pu st n).2 < gan ey (T n) (cst (P n) st)
    · rw [if_pos c, if_pos ⟨hn.mpr c.1, c.2⟩]
    · rw [if_neg c, if_neg (fun z => c ⟨hn.mp z.1, z.2⟩)]
/-- the reference's days: what is gone, the purses, the sum -/
abbrev R3 : Type := (Nat → Int) × (Nat → Int) × Int
def choR (P K T hr ks ey : Nat → Int) (n : Nat) (half bag hour : Int) (b : Nat) (av pu : Nat → Int) : Int := if hour < hr b then -1 else (ch av P K T (ks b) (ey b) (pu b) (stg hour half bag) n).1
def buyR (P K T hr ks ey : Nat → Int) (n : Nat) (half bag hour : Int) (b : Nat) (s : R3) : R3 :=
  if choR P K T hr ks ey n half bag hour b s.1 s.2.1 < 0 then s else
  (us s.1 (choR P K T hr ks ey n half bag hour b s.1 s.2.1).toNat 1, us s.2.1 b (s.2.1 b - cst (P (choR P K T hr ks ey n half bag hour b s.1 s.2.1).toNat) (stg hour half bag)), s.2.2 + cst (P (choR P K T hr ks ey n half bag hour b s.1 s.2.1).toNat) (stg hour half bag))
def hrR (P K T hr ks ey : Nat → Int) (n : Nat) (half bag hour : Int) (s : R3) : Nat → R3
  | 0 => s
  | b + 1 => buyR P K T hr ks ey n half bag hour b (hrR P K T hr ks ey n half bag hour s b)
def dyR (P K T hr ks ey : Nat → Int) (n bn : Nat) (half bag : Int) (s : R3) : Nat → R3
  | 0 => s
  | h + 1 => hrR P K T hr ks ey n half bag h (dyR P K T hr ks ey n bn half bag s h) bn
def gnA (B g : Nat → Int) (n : Nat) : Nat → Int := fun j => if j < n then (if B j < 0 then 0 else 1) else g j
def puA (p q : Nat → Int) (n : Nat) : Nat → Int := fun j => if j < n then p j else q j
theorem gnA_0 {B g : Nat → Int} : gnA B g 0 = g := by funext j; unfold gnA; rw [if_neg (Nat.not_lt_zero _)]
theorem gnA_s {B g : Nat → Int} {n : Nat} {x : Int} (h : x = if B n < 0 then 0 else 1) : us (gnA B g n) n x = gnA B g (n + 1) := by
  funext j
  unfold us gnA
  by_cases c : j = n
  · subst c; rw [if_pos rfl, if_pos (Nat.lt_succ_self _), h]
  · rw [if_neg c]
    by_cases c2 : j < n
    · rw [if_pos c2, if_pos (show j < n + 1 by omega)]
    · rw [if_neg c2, if_neg (show ¬ j < n + 1 by omega)]
theorem puA_0 {p q : Nat → Int} : puA p q 0 = q := by funext j; unfold puA; rw [if_neg (Nat.not_lt_zero _)]
theorem puA_s {p q : Nat → Int} {n : Nat} {x : Int} (h : x = p n) : us (puA p q n) n x = puA p q (n + 1) := by
  funext j
  unfold us puA
  by_cases c : j = n
  · subst c; rw [if_pos rfl, if_pos (Nat.lt_succ_self _), h]
  · rw [if_neg c]
    by_cases c2 : j < n
    · rw [if_pos c2, if_pos (by omega)]
    · rw [if_neg c2, if_neg (by omega)]
/-- the purses never grow, nor fall below nothing; what is taken -/
def R3ok (bn : Nat) (s : R3) : Prop := ∀ b, b < bn → 0 ≤ s.2.1 b ∧ s.2.1 b ≤ 9999
theorem buyR_ok {P K T hr ks ey : Nat → Int} {n bn : Nat} {half bag hour : Int} {b : Nat} {s : R3} (hP : ∀ j, j < n → P j ≤ 999) (h : R3ok bn s) : R3ok bn (buyR P K T hr ks ey n half bag hour b s) ∧ (buyR P K T hr ks ey n half bag hour b s).2.2 ≤ s.2.2 + 999 ∧ s.2.2 ≤ (buyR P K T hr ks ey n half bag hour b s).2.2 := by
  unfold buyR
  by_cases c : choR P K T hr ks ey n half bag hour b s.1 s.2.1 < 0
  · rw [if_pos c]
    exact ⟨h, by omega, by omega⟩
  · rw [if_neg c]
    unfold choR at c ⊢
    by_cases c1 : hour < hr b
    · rw [if_pos c1] at c; exact absurd (by decide : (-1 : Int) < 0) c
    · rw [if_neg c1] at c ⊢
      rcases ch_ok (av := s.1) (P := P) (K := K) (T := T) (ks := ks b) (ey := ey b) (pu := s.2.1 b) (st := stg hour half bag) n with h1 | ⟨j, h1, h2, h3, h4, h5, h6, h7⟩
      · rw [h1] at c; exact absurd (by decide : (-1 : Int) < 0) c
      · rw [h2]
        have hc := cst_in (st := stg hour half bag) h4 (hP j h1)
        refine ⟨?_, ?_, ?_⟩
        · intro b' hb'
          show 0 ≤ us _ _ _ _ ∧ us _ _ _ _ ≤ 9999
          unfold us
          by_cases e : b' = b
          · subst e
            rw [if_pos rfl]
            have := h b' hb'
            simp only [Int.toNat_natCast]
            omega
          · rw [if_neg e]; exact h b' hb'
        · simp only [Int.toNat_natCast]; omega
        · simp only [Int.toNat_natCast]; omega
theorem hrR_ok {P K T hr ks ey : Nat → Int} {n bn : Nat} {half bag hour : Int} {s : R3} (hP : ∀ j, j < n → P j ≤ 999) (h : R3ok bn s) : ∀ b : Nat, R3ok bn (hrR P K T hr ks ey n half bag hour s b) ∧ (hrR P K T hr ks ey n half bag hour s b).2.2 ≤ s.2.2 + 999 * b ∧ s.2.2 ≤ (hrR P K T hr ks ey n half bag hour s b).2.2
  | 0 => ⟨h, by show s.2.2 ≤ _; omega, by show s.2.2 ≤ s.2.2; omega⟩
  | b + 1 => by
    have ih := hrR_ok (K := K) (T := T) (hr := hr) (ks := ks) (ey := ey) (half := half) (bag := bag) (hour := hour) hP h b
    have t := buyR_ok (K := K) (T := T) (hr := hr) (ks := ks) (ey := ey) (half := half) (bag := bag) (hour := hour) (b := b) hP ih.1
    refine ⟨t.1, ?_, ?_⟩
    · show (buyR _ _ _ _ _ _ _ _ _ _ _ _).2.2 ≤ _; omega
    · show _ ≤ (buyR _ _ _ _ _ _ _ _ _ _ _ _).2.2; omega
theorem dyR_ok {P K T hr ks ey : Nat → Int} {n bn : Nat} {half bag : Int} {s : R3} (hP : ∀ j, j < n → P j ≤ 999) (h : R3ok bn s) (hb : bn ≤ 12) : ∀ d : Nat, R3ok bn (dyR P K T hr ks ey n bn half bag s d) ∧ (dyR P K T hr ks ey n bn half bag s d).2.2 ≤ s.2.2 + 12000 * d ∧ s.2.2 ≤ (dyR P K T hr ks ey n bn half bag s d).2.2
  | 0 => ⟨h, by show s.2.2 ≤ _; omega, by show s.2.2 ≤ s.2.2; omega⟩
  | d + 1 => by
    have ih := dyR_ok (K := K) (T := T) (hr := hr) (ks := ks) (ey := ey) (half := half) (bag := bag) hP h hb d
    have t := hrR_ok (K := K) (T := T) (hr := hr) (ks := ks) (ey := ey) (half := half) (bag := bag) (hour := (d : Int)) hP ih.1 bn
    refine ⟨t.1, ?_, ?_⟩
    · show (hrR _ _ _ _ _ _ _ _ _ _ _ _).2.2 ≤ _; omega
    · show _ ≤ (hrR _ _ _ _ _ _ _ _ _ _ _ _).2.2; omega
/-- the buyers -/
def buOK (M : Mem) : Prop := ∀ j : Nat, j < 12 → (0 ≤ M 22 j ∧ M 22 j ≤ 11) ∧ (0 ≤ M 23 j ∧ M 23 j ≤ 9999) ∧ (0 ≤ M 24 j ∧ M 24 j ≤ 63) ∧ 0 ≤ M 25 j ∧ M 25 j ≤ 300
def mnOK (M : Mem) : Prop := ∀ j : Nat, j < 12 → 0 ≤ M 26 j ∧ M 26 j ≤ 1000000
def mnOKm (M : Mem) : Prop := ∀ j : Nat, j < 12 → 0 ≤ M 224 j ∧ M 224 j ≤ 1000000
def buOKm (M : Mem) : Prop := ∀ j : Nat, j < 12 → (0 ≤ M 220 j ∧ M 220 j ≤ 11) ∧ (0 ≤ M 221 j ∧ M 221 j ≤ 9999) ∧ (0 ≤ M 222 j ∧ M 222 j ≤ 63) ∧ 0 ≤ M 223 j ∧ M 223 j ≤ 300
theorem cstg_2 {p hour half bag : Int} (h : bag ≤ hour) : cst p (stg hour half bag) = 10 := by unfold stg; rw [if_pos h]; rfl
theorem cstg_1 {p hour half bag : Int} (h : ¬ bag ≤ hour) (h2 : half ≤ hour) : cst p (stg hour half bag) = p.tdiv 2 := by unfold stg; rw [if_neg h, if_pos h2]; rfl
theorem cstg_0 {p hour half bag : Int} (h : ¬ bag ≤ hour) (h2 : ¬ half ≤ hour) : cst p (stg hour half bag) = p := by unfold stg; rw [if_neg h, if_neg h2]; rfl
theorem buyR_n {P K T hr ks ey : Nat → Int} {n : Nat} {half bag hour : Int} {b : Nat} {s : R3} (h : choR P K T hr ks ey n half bag hour b s.1 s.2.1 < 0) : buyR P K T hr ks ey n half bag hour b s = s := by
  unfold buyR; rw [if_pos h]
theorem buyR_y {P K T hr ks ey : Nat → Int} {n : Nat} {half bag hour : Int} {b : Nat} {s : R3} {y : Int} (e : y = choR P K T hr ks ey n half bag hour b s.1 s.2.1) (h : ¬ y < 0) : buyR P K T hr ks ey n half bag hour b s = (us s.1 y.toNat 1, us s.2.1 b (s.2.1 b - cst (P y.toNat) (stg hour half bag)), s.2.2 + cst (P y.toNat) (stg hour half bag)) := by
  unfold buyR; rw [← e, if_neg h]
theorem choR_rng {P K T hr ks ey : Nat → Int} {n : Nat} {half bag hour : Int} {b : Nat} {av pu : Nat → Int} (hP : ∀ j, j < 30 → P j ≤ 999) (hT : ∀ j, j < 30 → 0 ≤ T j ∧ T j ≤ 1049) (he : 0 ≤ ey b ∧ ey b ≤ 300) (hn : n ≤ 30) : -1 ≤ choR P K T hr ks ey n half bag hour b av pu ∧ choR P K T hr ks ey n half bag hour b av pu < n := by
  unfold choR
  split
  · omega
  · exact (ch_rng hP hT he n hn).1
theorem choR_ok {P K T hr ks ey : Nat → Int} {n : Nat} {half bag hour : Int} {b : Nat} {av pu : Nat → Int} {y : Int} (e : y = choR P K T hr ks ey n half bag hour b av pu) (h : ¬ y < 0) : 0 ≤ P y.toNat ∧ cst (P y.toNat) (stg hour half bag) ≤ pu b ∧ y < n := by
  unfold choR at e
  split at e
  · exact absurd (by omega) h
  · rcases ch_ok (av := av) (P := P) (K := K) (T := T) (ks := ks b) (ey := ey b) (pu := pu b) (st := stg hour half bag) n with h1 | ⟨j, h1, h2, h3, h4, h5, h6, h7⟩
    · rw [h1] at e; exact absurd (by omega) h
    · rw [h2] at e
      subst e
      exact ⟨by simpa using h4, by simpa using h6, by omega⟩
theorem r3_0 {M : Mem} {a b : Nat → Int} {bn : Nat} (h : buOKm M) (hb : bn ≤ 12) {x : Int} : R3ok bn (a, puA (M 221) b bn, x) := by
  intro j hj
  show 0 ≤ puA (M 221) b bn j ∧ puA (M 221) b bn j ≤ 9999
  unfold puA
  rw [if_pos hj]
  exact (h j (by omega)).2.1
theorem TWm_in {M : Mem} (h : thOKm M) : ∀ j, j < 30 → 0 ≤ TWf (M 205) (M 206) (M 207) j ∧ TWf (M 205) (M 206) (M 207) j ≤ 1049 := fun j hj => TW_in (M 205 j) (M 207 j) (h j hj).2.1.1 (h j hj).2.1.2
theorem Pm_in {M : Mem} (h : thOKm M) : ∀ j, j < 30 → M 208 j ≤ 999 := fun j hj => (h j hj).2.2.2.1.2
/-- rows beyond the things, the buyers do not matter -/
def R3eq (n bn : Nat) (s t : R3) : Prop := (∀ j, j < n → (s.1 j = 0 ↔ t.1 j = 0)) ∧ (∀ b, b < bn → s.2.1 b = t.2.1 b)
theorem choR_eq {P K T hr ks ey : Nat → Int} {n bn : Nat} {half bag hour : Int} {b : Nat} {s t : R3} (h : R3eq n bn s t) (hb : b < bn) : choR P K T hr ks ey n half bag hour b s.1 s.2.1 = choR P K T hr ks ey n half bag hour b t.1 t.2.1 := by
  unfold choR
  rw [h.2 b hb, ch_congr n h.1]
theorem buyR_eq {P K T hr ks ey : Nat → Int} {n bn : Nat} {half bag hour : Int} {b : Nat} {s t : R3} (h : R3eq n bn s t) (hb : b < bn) : R3eq n bn (buyR P K T hr ks ey n half bag hour b s) (buyR P K T hr ks ey n half bag hour b t) ∧ (buyR P K T hr ks ey n half bag hour b s).2.2 - s.2.2 = (buyR P K T hr ks ey n half bag hour b t).2.2 - t.2.2 := by
  have e := choR_eq (P := P) (K := K) (T := T) (hr := hr) (ks := ks) (ey := ey) (half := half) (bag := bag) (hour := hour) h hb
  by_cases c : choR P K T hr ks ey n half bag hour b s.1 s.2.1 < 0
  · rw [buyR_n c, buyR_n (e ▸ c)]
    exact ⟨h, by omega⟩
  · rw [buyR_y rfl c, buyR_y e c]
    refine ⟨⟨fun j hj => ?_, fun b' hb' => ?_⟩, by simp only; omega⟩
    · show us _ _ _ _ = 0 ↔ us _ _ _ _ = 0
      unfold us
      split
      · exact Iff.rfl
      · exact h.1 j hj
    · show us _ _ _ _ = us _ _ _ _
      unfold us
      split
      · rw [h.2 b hb]
      · exact h.2 b' hb'
theorem hrR_eq {P K T hr ks ey : Nat → Int} {n bn : Nat} {half bag hour : Int} {s t : R3} (h : R3eq n bn s t) : ∀ b : Nat, b ≤ bn → R3eq n bn (hrR P K T hr ks ey n half bag hour s b) (hrR P K T hr ks ey n half bag hour t b) ∧ (hrR P K T hr ks ey n half bag hour s b).2.2 - s.2.2 = (hrR P K T hr ks ey n half bag hour t b).2.2 - t.2.2
  | 0, _ => ⟨h, by show s.2.2 - s.2.2 = t.2.2 - t.2.2; omega⟩
  | b + 1, hb => by
    have ih := hrR_eq (P := P) (K := K) (T := T) (hr := hr) (ks := ks) (ey := ey) (half := half) (bag := bag) (hour := hour) h b (by omega)
    have u := buyR_eq (P := P) (K := K) (T := T) (hr := hr) (ks := ks) (ey := ey) (half := half) (bag := bag) (hour := hour) ih.1 (show b < bn by omega)
    refine ⟨u.1, ?_⟩
    show (buyR _ _ _ _ _ _ _ _ _ _ _ _).2.2 - _ = (buyR _ _ _ _ _ _ _ _ _ _ _ _).2.2 - _
    omega
theorem dyR_eq {P K T hr ks ey : Nat → Int} {n bn : Nat} {half bag : Int} {s t : R3} (h : R3eq n bn s t) : ∀ d : Nat, R3eq n bn (dyR P K T hr ks ey n bn half bag s d) (dyR P K T hr ks ey n bn half bag t d) ∧ (dyR P K T hr ks ey n bn half bag s d).2.2 - s.2.2 = (dyR P K T hr ks ey n bn half bag t d).2.2 - t.2.2
  | 0 => ⟨h, by show s.2.2 - s.2.2 = t.2.2 - t.2.2; omega⟩
  | d + 1 => by
    have ih := dyR_eq (P := P) (K := K) (T := T) (hr := hr) (ks := ks) (ey := ey) (half := half) (bag := bag) h d
    have u := hrR_eq (P := P) (K := K) (T := T) (hr := hr) (ks := ks) (ey := ey) (half := half) (bag := bag) (hour := (d : Int)) ih.1 bn (Nat.le_refl _)
    refine ⟨u.1, ?_⟩
    show (hrR _ _ _ _ _ _ _ _ _ _ _ _).2.2 - _ = (hrR _ _ _ _ _ _ _ _ _ _ _ _).2.2 - _
    omega
/-- a whole day's takings -/
def tkg (P K T hr ks ey B BP : Nat → Int) (n bn : Nat) (half bag : Int) : Int := (dyR P K T hr ks ey n bn half bag (gnA B (fun _ => 0) n, puA BP (fun _ => 0) bn, 0) 12).2.2
theorem r3_eq0 {B BP g p g' p' : Nat → Int} {n bn : Nat} {x y : Int} : R3eq n bn (gnA B g n, puA BP p bn, x) (gnA B g' n, puA BP p' bn, y) := by
  refine ⟨fun j hj => ?_, fun b hb => ?_⟩
  · show gnA B g n j = 0 ↔ gnA B g' n j = 0
    unfold gnA
    rw [if_pos hj, if_pos hj]
  · show puA BP p bn b = puA BP p' bn b
    unfold puA
    rw [if_pos hb, if_pos hb]
theorem tkg_of {P K T hr ks ey B BP g p : Nat → Int} {n bn : Nat} {half bag : Int} : (dyR P K T hr ks ey n bn half bag (gnA B g n, puA BP p bn, 0) 12).2.2 = tkg P K T hr ks ey B BP n bn half bag := by
  have h := (dyR_eq (P := P) (K := K) (T := T) (hr := hr) (ks := ks) (ey := ey) (half := half) (bag := bag) (r3_eq0 (B := B) (BP := BP) (g := g) (p := p) (g' := fun _ => 0) (p' := fun _ => 0) (n := n) (bn := bn) (x := 0) (y := 0)) 12).2
  unfold tkg
  simp only at h ⊢
  omega
/-- what an hour takes on a day -/
def hsm (P K T hr ks ey B BP : Nat → Int) (n bn : Nat) (half bag : Int) (h : Nat) : Int := (dyR P K T hr ks ey n bn half bag (gnA B (fun _ => 0) n, puA BP (fun _ => 0) bn, 0) (h + 1)).2.2 - (dyR P K T hr ks ey n bn half bag (gnA B (fun _ => 0) n, puA BP (fun _ => 0) bn, 0) h).2.2
theorem R3eq_of {n bn : Nat} {a p : Nat → Int} {x y : Int} : R3eq n bn (a, p, x) (a, p, y) := ⟨fun _ _ => Iff.rfl, fun _ _ => rfl⟩
theorem buyR_rows {P K T hr ks ey : Nat → Int} {n : Nat} {half bag hour : Int} {b : Nat} {s t : R3} (h : s.1 = t.1 ∧ s.2.1 = t.2.1) : (buyR P K T hr ks ey n half bag hour b s).1 = (buyR P K T hr ks ey n half bag hour b t).1 ∧ (buyR P K T hr ks ey n half bag hour b s).2.1 = (buyR P K T hr ks ey n half bag hour b t).2.1 := by
  have e : choR P K T hr ks ey n half bag hour b s.1 s.2.1 = choR P K T hr ks ey n half bag hour b t.1 t.2.1 := by rw [h.1, h.2]
  by_cases c : choR P K T hr ks ey n half bag hour b s.1 s.2.1 < 0
  · rw [buyR_n c, buyR_n (e ▸ c)]; exact h
  · rw [buyR_y rfl c, buyR_y e c]
    simp only
    rw [h.1, h.2]
    exact ⟨rfl, rfl⟩
theorem hrR_rows {P K T hr ks ey : Nat → Int} {n : Nat} {half bag hour : Int} {s t : R3} (h : s.1 = t.1 ∧ s.2.1 = t.2.1) : ∀ b, (hrR P K T hr ks ey n half bag hour s b).1 = (hrR P K T hr ks ey n half bag hour t b).1 ∧ (hrR P K T hr ks ey n half bag hour s b).2.1 = (hrR P K T hr ks ey n half bag hour t b).2.1
  | 0 => h
  | b + 1 => buyR_rows (hrR_rows h b)
theorem hsm_of {P K T hr ks ey B BP g p : Nat → Int} {n bn : Nat} {half bag : Int} {h : Nat} : (hrR P K T hr ks ey n half bag h ((dyR P K T hr ks ey n bn half bag (gnA B g n, puA BP p bn, 0) h).1, (dyR P K T hr ks ey n bn half bag (gnA B g n, puA BP p bn, 0) h).2.1, 0) bn).2.2 = hsm P K T hr ks ey B BP n bn half bag h := by
  have e := dyR_eq (P := P) (K := K) (T := T) (hr := hr) (ks := ks) (ey := ey) (half := half) (bag := bag) (r3_eq0 (B := B) (BP := BP) (g := g) (p := p) (g' := fun _ => 0) (p' := fun _ => 0) (n := n) (bn := bn) (x := 0) (y := 0)) h
  have u := (hrR_eq (P := P) (K := K) (T := T) (hr := hr) (ks := ks) (ey := ey) (half := half) (bag := bag) (hour := (h : Int)) (s := ((dyR P K T hr ks ey n bn half bag (gnA B g n, puA BP p bn, 0) h).1, (dyR P K T hr ks ey n bn half bag (gnA B g n, puA BP p bn, 0) h).2.1, 0)) (t := dyR P K T hr ks ey n bn half bag (gnA B (fun _ => 0) n, puA BP (fun _ => 0) bn, 0) h) ⟨e.1.1, e.1.2⟩ bn (Nat.le_refl _)).2
  unfold hsm
  show _ = (hrR _ _ _ _ _ _ _ _ _ _ _ _).2.2 - _
  simp only at u
  omega
theorem dyR_rows1 {P K T hr ks ey : Nat → Int} {n bn : Nat} {half bag : Int} {s : R3} {h : Nat} : (hrR P K T hr ks ey n half bag h ((dyR P K T hr ks ey n bn half bag s h).1, (dyR P K T hr ks ey n bn half bag s h).2.1, 0) bn).1 = (dyR P K T hr ks ey n bn half bag s (h + 1)).1 ∧ (hrR P K T hr ks ey n half bag h ((dyR P K T hr ks ey n bn half bag s h).1, (dyR P K T hr ks ey n bn half bag s h).2.1, 0) bn).2.1 = (dyR P K T hr ks ey n bn half bag s (h + 1)).2.1 :=
  hrR_rows (P := P) (K := K) (T := T) (hr := hr) (ks := ks) (ey := ey) (n := n) (half := half) (bag := bag) (hour := h) (s := ((dyR P K T hr ks ey n bn half bag s h).1, (dyR P K T hr ks ey n bn half bag s h).2.1, 0)) (t := dyR P K T hr ks ey n bn half bag s h) ⟨rfl, rfl⟩ bn
/-- the best turns, as the reference looks for them -/
def bsI (f : Int → Int → Int) (h : Int) (s : Int × Int) : Nat → Int × Int
  | 0 => s
  | k + 1 => if (bsI f h s k).2 ≤ f h (h + k) then (100 * h + (h + k), f h (h + k)) else bsI f h s k
def bsO (f : Int → Int → Int) : Nat → Int × Int
  | 0 => (0, -1)
  | h + 1 => bsI f h (bsO f h) (13 - h)
theorem tkg_in {P K T hr ks ey B BP : Nat → Int} {n bn : Nat} {half bag : Int} (hP : ∀ j, j < n → P j ≤ 999) (hB : ∀ b, b < bn → 0 ≤ BP b ∧ BP b ≤ 9999) (hb : bn ≤ 12) : 0 ≤ tkg P K T hr ks ey B BP n bn half bag ∧ tkg P K T hr ks ey B BP n bn half bag ≤ 144000 := by
  have h := dyR_ok (P := P) (K := K) (T := T) (hr := hr) (ks := ks) (ey := ey) (n := n) (bn := bn) (half := half) (bag := bag) (s := (gnA B (fun _ => 0) n, puA BP (fun _ => 0) bn, 0)) hP (fun b h => by
    simp only [puA]
    rw [if_pos h]
    exact hB b h) hb 12
  unfold tkg
  simp only at h
  omega
theorem bsI_in {f : Int → Int → Int} (hf : ∀ a b, 0 ≤ f a b ∧ f a b ≤ 144000) {h : Int} {s : Int × Int} (hs : -1 ≤ s.2 ∧ s.2 ≤ 144000) : ∀ k, -1 ≤ (bsI f h s k).2 ∧ (bsI f h s k).2 ≤ 144000
  | 0 => hs
  | k + 1 => by
    have ih := bsI_in hf (h := h) hs k
    have g := hf h (h + k)
    unfold bsI
    split
    · simp only; omega
    · exact ih
theorem bsO_in {f : Int → Int → Int} (hf : ∀ a b, 0 ≤ f a b ∧ f a b ≤ 144000) : ∀ h, -1 ≤ (bsO f h).2 ∧ (bsO f h).2 ≤ 144000
  | 0 => by show -1 ≤ (-1 : Int) ∧ (-1 : Int) ≤ 144000; omega
  | h + 1 => bsI_in hf (bsO_in hf h) (13 - h)
/-- the row of a shelf as the judge's sums -/
def jrw (f : Nat → Int) (b len : Int) (h : Nat) : Int := if (h : Int) < len then f (b + h).toNat else 0
theorem jrw_1 {f : Nat → Int} {b len : Int} {h : Nat} (c : (h : Int) < len) : jrw f b len h = f (b + h).toNat := by unfold jrw; rw [if_pos c]
theorem jrw_i {f : Nat → Int} {b len h : Int} (h0 : 0 ≤ h) (c : h < len) : jrw f b len h.toNat = f (b + h).toNat := by rw [jrw_1 (by omega), show ((h.toNat : Nat) : Int) = h by omega]
theorem jrw_0 {f : Nat → Int} {b len : Int} {h : Nat} (c : ¬ (h : Int) < len) : jrw f b len h = 0 := by unfold jrw; rw [if_neg c]
/-- a day under way: what is gone, the purses, the buyers' purses, how many, by whom, for what, the sum -/
abbrev R7 : Type := (Nat → Int) × (Nat → Int) × (Nat → Int) × (Nat → Int) × (Nat → Int) × (Nat → Int) × Int
def buyG (P K T hr ks ey : Nat → Int) (n : Nat) (half bag hour : Int) (b : Nat) (s : R7) : R7 :=
  if choR P K T hr ks ey n half bag hour b s.1 s.2.1 < 0 then s else
  (us s.1 (choR P K T hr ks ey n half bag hour b s.1 s.2.1).toNat 1, us s.2.1 b (s.2.1 b - cst (P (choR P K T hr ks ey n half bag hour b s.1 s.2.1).toNat) (stg hour half bag)), us s.2.2.1 b (s.2.2.1 b - cst (P (choR P K T hr ks ey n half bag hour b s.1 s.2.1).toNat) (stg hour half bag)), us s.2.2.2.1 b (s.2.2.2.1 b + 1), us s.2.2.2.2.1 (choR P K T hr ks ey n half bag hour b s.1 s.2.1).toNat b, us s.2.2.2.2.2.1 (choR P K T hr ks ey n half bag hour b s.1 s.2.1).toNat (cst (P (choR P K T hr ks ey n half bag hour b s.1 s.2.1).toNat) (stg hour half bag)), s.2.2.2.2.2.2 + cst (P (choR P K T hr ks ey n half bag hour b s.1 s.2.1).toNat) (stg hour half bag))
theorem buyG_n {P K T hr ks ey : Nat → Int} {n : Nat} {half bag hour : Int} {b : Nat} {s : R7} (h : choR P K T hr ks ey n half bag hour b s.1 s.2.1 < 0) : buyG P K T hr ks ey n half bag hour b s = s := by
  unfold buyG; rw [if_pos h]
theorem buyG_y {P K T hr ks ey : Nat → Int} {n : Nat} {half bag hour : Int} {b : Nat} {s : R7} {y : Int} (e : y = choR P K T hr ks ey n half bag hour b s.1 s.2.1) (h : ¬ y < 0) : buyG P K T hr ks ey n half bag hour b s = (us s.1 y.toNat 1, us s.2.1 b (s.2.1 b - cst (P y.toNat) (stg hour half bag)), us s.2.2.1 b (s.2.2.1 b - cst (P y.toNat) (stg hour half bag)), us s.2.2.2.1 b (s.2.2.2.1 b + 1), us s.2.2.2.2.1 y.toNat b, us s.2.2.2.2.2.1 y.toNat (cst (P y.toNat) (stg hour half bag)), s.2.2.2.2.2.2 + cst (P y.toNat) (stg hour half bag)) := by
  unfold buyG; rw [← e, if_neg h]
def hrG (P K T hr ks ey : Nat → Int) (n : Nat) (half bag hour : Int) (s : R7) : Nat → R7
  | 0 => s
  | b + 1 => buyG P K T hr ks ey n half bag hour b (hrG P K T hr ks ey n half bag hour s b)
def dyG (P K T hr ks ey : Nat → Int) (n bn : Nat) (half bag h0 : Int) (s : R7) : Nat → R7
  | 0 => s
  | k + 1 => hrG P K T hr ks ey n half bag (h0 + k) (dyG P K T hr ks ey n bn half bag h0 s k) bn
/-- bounds of such a day -/
def R7ok (bn : Nat) (m : Int) (s : R7) : Prop := (∀ b, b < bn → 0 ≤ s.2.1 b ∧ s.2.1 b ≤ 9999 ∧ s.2.2.1 b = s.2.1 b) ∧ (∀ b, b < 12 → 0 ≤ s.2.2.1 b ∧ s.2.2.1 b ≤ 9999) ∧ (∀ b, b < 12 → 0 ≤ s.2.2.2.1 b ∧ s.2.2.2.1 b ≤ m) ∧ (∀ j, j < 30 → -1 ≤ s.2.2.2.2.1 j ∧ s.2.2.2.2.1 j ≤ 11) ∧ ∀ j, j < 30 → -1 ≤ s.2.2.2.2.2.1 j ∧ s.2.2.2.2.2.1 j ≤ 999
theorem R7ok_m {bn : Nat} {m m' : Int} {s : R7} (h : R7ok bn m s) (hm : m ≤ m') : R7ok bn m' s := ⟨h.1, h.2.1, fun b hb => ⟨(h.2.2.1 b hb).1, by have := (h.2.2.1 b hb).2; omega⟩, h.2.2.2⟩
/-- one buyer's many grows by one at most: a bound for the others too -/
def R7b (bn : Nat) (m : Int) (i : Nat) (s : R7) : Prop := R7ok bn (m + 1) s ∧ ∀ b, i ≤ b → b < 12 → s.2.2.2.1 b ≤ m
theorem buyG_ok {P K T hr ks ey : Nat → Int} {n bn : Nat} {half bag hour m : Int} {b : Nat} {s : R7} (hP : ∀ j, j < n → P j ≤ 999) (h : R7b bn m b s) (hb : b < bn) (hbn : bn ≤ 12) : R7b bn m (b + 1) (buyG P K T hr ks ey n half bag hour b s) ∧ (buyG P K T hr ks ey n half bag hour b s).2.2.2.2.2.2 ≤ s.2.2.2.2.2.2 + 999 ∧ s.2.2.2.2.2.2 ≤ (buyG P K T hr ks ey n half bag hour b s).2.2.2.2.2.2 := by
  by_cases c : choR P K T hr ks ey n half bag hour b s.1 s.2.1 < 0
  · rw [buyG_n c]
    exact ⟨⟨h.1, fun i h1 h2 => h.2 i (by omega) h2⟩, by omega, by omega⟩
  · have k := choR_ok (P := P) rfl c
    rw [buyG_y rfl c]
    generalize choR P K T hr ks ey n half bag hour b s.1 s.2.1 = y at *
    have hc := cst_in (st := stg hour half bag) k.1 (hP y.toNat (by omega))
    obtain ⟨⟨h1, h2, h3, h4, h5⟩, h6⟩ := h
    refine ⟨⟨⟨?_, ?_, ?_, ?_, ?_⟩, ?_⟩, ?_, ?_⟩
    · intro i hi
      have g := h1 i hi
      show 0 ≤ us _ _ _ _ ∧ us _ _ _ _ ≤ 9999 ∧ us _ _ _ _ = us _ _ _ _
      unfold us
      by_cases e : i = b
      · subst e; rw [if_pos rfl, if_pos rfl, g.2.2]; omega
      · rw [if_neg e, if_neg e]; exact g
    · intro i hi
      have g := h2 i hi
      show 0 ≤ us _ _ _ _ ∧ us _ _ _ _ ≤ 9999
      unfold us
      by_cases e : i = b
      · subst e; rw [if_pos rfl]
        have g2 := h1 i hb
        omega
      · rw [if_neg e]; exact g
    · intro i hi
      have g := h3 i hi
      show 0 ≤ us _ _ _ _ ∧ us _ _ _ _ ≤ m + 1
      unfold us
      by_cases e : i = b
      · subst e; rw [if_pos rfl]
        have g2 := h6 i (Nat.le_refl _) hi
        omega
      · rw [if_neg e]; exact g
    · intro j hj
      have g := h4 j hj
      show -1 ≤ us _ _ _ _ ∧ us _ _ _ _ ≤ 11
      unfold us
      split
      · omega
      · exact g
    · intro j hj
      have g := h5 j hj
      show -1 ≤ us _ _ _ _ ∧ us _ _ _ _ ≤ 999
      unfold us
      split
      · omega
      · exact g
    · intro i h7 h8
      show us _ _ _ _ ≤ m
      unfold us
      rw [if_neg (by omega)]
      exact h6 i (by omega) h8
    · simp only; omega
    · simp only; omega
theorem hrG_ok {P K T hr ks ey : Nat → Int} {n bn : Nat} {half bag hour m : Int} {s : R7} (hP : ∀ j, j < n → P j ≤ 999) (h : R7ok bn m s) (hbn : bn ≤ 12) : ∀ b : Nat, b ≤ bn → R7b bn m b (hrG P K T hr ks ey n half bag hour s b) ∧ (hrG P K T hr ks ey n half bag hour s b).2.2.2.2.2.2 ≤ s.2.2.2.2.2.2 + 999 * b ∧ s.2.2.2.2.2.2 ≤ (hrG P K T hr ks ey n half bag hour s b).2.2.2.2.2.2
  | 0, _ => ⟨⟨R7ok_m h (by omega), fun b _ h2 => (h.2.2.1 b h2).2⟩, by show s.2.2.2.2.2.2 ≤ _; omega, by show s.2.2.2.2.2.2 ≤ s.2.2.2.2.2.2; omega⟩
  | b + 1, hb => by
    have ih := hrG_ok (K := K) (T := T) (hr := hr) (ks := ks) (ey := ey) (half := half) (bag := bag) (hour := hour) hP h hbn b (by omega)
    have t := buyG_ok (K := K) (T := T) (hr := hr) (ks := ks) (ey := ey) (half := half) (bag := bag) (hour := hour) (b := b) hP ih.1 (by omega) hbn
    refine ⟨t.1, ?_, ?_⟩
    · show (buyG _ _ _ _ _ _ _ _ _ _ _ _).2.2.2.2.2.2 ≤ _; omega
    · show _ ≤ (buyG _ _ _ _ _ _ _ _ _ _ _ _).2.2.2.2.2.2; omega
theorem dyG_ok {P K T hr ks ey : Nat → Int} {n bn : Nat} {half bag h0 m : Int} {s : R7} (hP : ∀ j, j < n → P j ≤ 999) (h : R7ok bn m s) (hbn : bn ≤ 12) : ∀ d : Nat, R7ok bn (m + d) (dyG P K T hr ks ey n bn half bag h0 s d) ∧ (dyG P K T hr ks ey n bn half bag h0 s d).2.2.2.2.2.2 ≤ s.2.2.2.2.2.2 + 12000 * d ∧ s.2.2.2.2.2.2 ≤ (dyG P K T hr ks ey n bn half bag h0 s d).2.2.2.2.2.2
  | 0 => ⟨R7ok_m h (by omega), by show s.2.2.2.2.2.2 ≤ _; omega, by show s.2.2.2.2.2.2 ≤ s.2.2.2.2.2.2; omega⟩
  | d + 1 => by
    have ih := dyG_ok (K := K) (T := T) (hr := hr) (ks := ks) (ey := ey) (half := half) (bag := bag) (h0 := h0) hP h hbn d
    have t := hrG_ok (K := K) (T := T) (hr := hr) (ks := ks) (ey := ey) (half := half) (bag := bag) (hour := h0 + d) hP ih.1 hbn bn (Nat.le_refl _)
    refine ⟨R7ok_m t.1.1 (by omega), ?_, ?_⟩
    · show (hrG _ _ _ _ _ _ _ _ _ _ _ _).2.2.2.2.2.2 ≤ _; omega
    · show _ ≤ (hrG _ _ _ _ _ _ _ _ _ _ _ _).2.2.2.2.2.2; omega
theorem r7_0 {M : Mem} {a b : Nat → Int} {bn : Nat} {x : Int} (h : buOKm M) (hm : mnOKm M) (ht : thOKm M) (hb : bn ≤ 12) : R7ok bn 1000000 (a, puA (M 221) b bn, M 221, M 224, M 209, M 210, x) := by
  refine ⟨fun j hj => ?_, fun j hj => (h j hj).2.1, fun j hj => hm j hj, fun j hj => (ht j hj).2.2.2.2.1, fun j hj => (ht j hj).2.2.2.2.2⟩
  show 0 ≤ puA (M 221) b bn j ∧ puA (M 221) b bn j ≤ 9999 ∧ M 221 j = puA (M 221) b bn j
  unfold puA
  rw [if_pos hj]
  exact ⟨(h j (by omega)).2.1.1, (h j (by omega)).2.1.2, rfl⟩
theorem thOKm_S {M : Mem} {x y : Nat → Int} (h : thOKm M) (hx : ∀ j, j < 30 → -1 ≤ x j ∧ x j ≤ 11) (hy : ∀ j, j < 30 → -1 ≤ y j ∧ y j ≤ 999) {a b c d f : Nat → Int} : thOKm (sr (sr (sr (sr (sr (sr (sr M 209 x) 210 y) 221 a) 224 b) 236 c) 241 d) 242 f) := by
  intro j hj
  obtain ⟨p1, p2, p3, p4, p5, p6⟩ := h j hj
  exact ⟨p1, p2, p3, p4, hx j hj, hy j hj⟩
theorem buOKm_S {M : Mem} {a : Nat → Int} (h : buOKm M) (ha : ∀ j, j < 12 → 0 ≤ a j ∧ a j ≤ 9999) {x y b c d f : Nat → Int} : buOKm (sr (sr (sr (sr (sr (sr (sr M 209 x) 210 y) 221 a) 224 b) 236 c) 241 d) 242 f) := by
  intro j hj
  obtain ⟨p1, p2, p3, p4⟩ := h j hj
  exact ⟨p1, ha j hj, p3, p4⟩
