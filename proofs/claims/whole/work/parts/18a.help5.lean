/-! the class's sale: a list of what can be taken -/
def Lst (f : Nat → Int) (lc n : Nat) (Q : Nat → Prop) : Prop := (∀ i, i < lc → ∃ t : Nat, t < n ∧ f i = t ∧ Q t) ∧ (∀ i j, i < j → j < lc → f i < f j) ∧ ∀ t : Nat, t < n → Q t → ∃ i, i < lc ∧ f i = t
def pl (lf P K tr : Nat → Int) (ks ey pu st : Int) : Nat → Int × Int
  | 0 => (-1, -1)
  | n + 1 => if hb ks (K (lf n).toNat) ∧ cst (P (lf n).toNat) st ≤ pu ∧ (pl lf P K tr ks ey pu st n).2 < gan ey (tr (lf n).toNat) (cst (P (lf n).toNat) st) then ((n : Int), gan ey (tr (lf n).toNat) (cst (P (lf n).toNat) st)) else pl lf P K tr ks ey pu st n
theorem pl_y {lf P K tr : Nat → Int} {ks ey pu st : Int} {n : Nat} (h : hb ks (K (lf n).toNat) ∧ cst (P (lf n).toNat) st ≤ pu ∧ (pl lf P K tr ks ey pu st n).2 < gan ey (tr (lf n).toNat) (cst (P (lf n).toNat) st)) : pl lf P K tr ks ey pu st (n + 1) = ((n : Int), gan ey (tr (lf n).toNat) (cst (P (lf n).toNat) st)) := by
  rw [pl, if_pos h]
theorem pl_n {lf P K tr : Nat → Int} {ks ey pu st : Int} {n : Nat} (h : ¬ (hb ks (K (lf n).toNat) ∧ cst (P (lf n).toNat) st ≤ pu ∧ (pl lf P K tr ks ey pu st n).2 < gan ey (tr (lf n).toNat) (cst (P (lf n).toNat) st))) : pl lf P K tr ks ey pu st (n + 1) = pl lf P K tr ks ey pu st n := by
  rw [pl, if_neg h]
theorem pl_rng {lf P K tr : Nat → Int} {ks ey pu st : Int} {lc : Nat} (hl : ∀ i, i < lc → 0 ≤ P (lf i).toNat ∧ P (lf i).toNat ≤ 999 ∧ 0 ≤ tr (lf i).toNat ∧ tr (lf i).toNat ≤ 1049) (he : 0 ≤ ey ∧ ey ≤ 300) : ∀ n, n ≤ lc → (-1 ≤ (pl lf P K tr ks ey pu st n).1 ∧ (pl lf P K tr ks ey pu st n).1 < n) ∧ -1 ≤ (pl lf P K tr ks ey pu st n).2 ∧ (pl lf P K tr ks ey pu st n).2 ≤ 314700
  | 0, _ => by simp [pl]
  | n + 1, h => by
    have ih := pl_rng (K := K) (ks := ks) (pu := pu) (st := st) hl he n (by omega)
    have hn := hl n (by omega)
    by_cases c : hb ks (K (lf n).toNat) ∧ cst (P (lf n).toNat) st ≤ pu ∧ (pl lf P K tr ks ey pu st n).2 < gan ey (tr (lf n).toNat) (cst (P (lf n).toNat) st)
    · rw [pl_y c]
      have g := gan_in he ⟨hn.2.2.1, hn.2.2.2⟩ (cst_in (st := st) hn.1 hn.2.1)
      refine ⟨⟨?_, ?_⟩, ?_, ?_⟩ <;> simp only <;> omega
    · rw [pl_n c]
      exact ⟨⟨ih.1.1, by omega⟩, ih.2⟩
/-- the place chosen is the place of the thing chosen -/
theorem pl_ch {lf av P K tr T : Nat → Int} {ks ey pu st : Int} {lc n : Nat} (hl : Lst lf lc n (fun t => av t = 0 ∧ 0 ≤ P t)) (ht : ∀ t, t < n → av t = 0 ∧ 0 ≤ P t → tr t = T t) : ∀ m i, m ≤ n → i ≤ lc → (∀ k, k < i → lf k < m) → (∀ k, i ≤ k → k < lc → (m : Int) ≤ lf k) → (pl lf P K tr ks ey pu st i).2 = (ch av P K T ks ey pu st m).2 ∧ (((pl lf P K tr ks ey pu st i).1 = -1 ∧ (ch av P K T ks ey pu st m).1 = -1) ∨ ∃ k : Nat, k < i ∧ (pl lf P K tr ks ey pu st i).1 = k ∧ (ch av P K T ks ey pu st m).1 = lf k)
  | 0, i, _, hi, h1, _ => by
    have e : i = 0 := by
      by_cases c : i = 0
      · exact c
      · obtain ⟨t, a, b, -⟩ := hl.1 0 (by omega)
        have := h1 0 (by omega)
        omega
    subst e
    exact ⟨rfl, Or.inl ⟨rfl, rfl⟩⟩
  | m + 1, i, hm, hi, h1, h2 => by
    by_cases c : ∃ k, k < i ∧ lf k = m
    · obtain ⟨k, hk, ek⟩ := c
      have ei : i = k + 1 := by
        by_cases c2 : k + 1 < i
        · have a := hl.2.1 k (k + 1) (by omega) (by omega)
          have b := h1 (k + 1) c2
          omega
        · omega
      subst ei
      have ih := pl_ch (K := K) (ks := ks) (ey := ey) (pu := pu) (st := st) hl ht m k (by omega) (by omega) (fun x hx => by have := hl.2.1 x k hx (by omega); omega) (fun x hx hx2 => by
        by_cases e : x = k
        · subst e; omega
        · have := hl.2.1 k x (by omega) hx2; omega)
      obtain ⟨t, t1, t2, t3⟩ := hl.1 k (by omega)
      have et : t = m := by omega
      subst et
      have etn : (lf k).toNat = t := by omega
      have e1 := ht t t1 t3
      by_cases c2 : av t = 0 ∧ 0 ≤ P t ∧ hb ks (K t) ∧ cst (P t) st ≤ pu ∧ (ch av P K T ks ey pu st t).2 < gan ey (T t) (cst (P t) st)
      · rw [ch_y c2, pl_y (by rw [etn, ih.1, e1]; exact c2.2.2), etn, e1]
        exact ⟨rfl, Or.inr ⟨k, Nat.lt_succ_self _, rfl, by rw [t2]⟩⟩
      · rw [ch_n c2, pl_n (by rw [etn, ih.1, e1]; exact fun z => c2 ⟨t3.1, t3.2, z⟩)]
        refine ⟨ih.1, ?_⟩
        rcases ih.2 with h | ⟨x, x1, x2⟩
        · exact Or.inl h
        · exact Or.inr ⟨x, by omega, x2⟩
    · have ih := pl_ch (K := K) (ks := ks) (ey := ey) (pu := pu) (st := st) hl ht m i (by omega) hi (fun x hx => by
        have a := h1 x hx
        have b : lf x ≠ m := fun z => c ⟨x, hx, z⟩
        omega) (fun x hx hx2 => by have := h2 x hx hx2; omega)
      rw [ch_n ?_]
      · exact ih
      · intro z
        obtain ⟨k, hk, ek⟩ := hl.2.2 m (by omega) ⟨z.1, z.2.1⟩
        by_cases c3 : k < i
        · exact c ⟨k, c3, ek⟩
        · have := h2 k (by omega) hk
          omega
theorem pl_chW {lf av P K tr T : Nat → Int} {ks ey pu st : Int} {lc n : Nat} (hl : Lst lf lc n (fun t => av t = 0 ∧ 0 ≤ P t)) (ht : ∀ t, t < n → av t = 0 ∧ 0 ≤ P t → tr t = T t) : ((pl lf P K tr ks ey pu st lc).1 = -1 ∧ (ch av P K T ks ey pu st n).1 = -1) ∨ ∃ k : Nat, k < lc ∧ (pl lf P K tr ks ey pu st lc).1 = k ∧ (ch av P K T ks ey pu st n).1 = lf k :=
  (pl_ch (K := K) (ks := ks) (ey := ey) (pu := pu) (st := st) hl ht n lc (Nat.le_refl _) (Nat.le_refl _) (fun k hk => by
    obtain ⟨t, a, b, -⟩ := hl.1 k hk
    omega) (fun k h1 h2 => absurd h2 (by omega))).2
theorem pl_chX {lf av P K tr T : Nat → Int} {ks ey pu st y : Int} {lc n : Nat} (hl : Lst lf lc n (fun t => av t = 0 ∧ 0 ≤ P t)) (ht : ∀ t, t < n → av t = 0 ∧ 0 ≤ P t → tr t = T t) (e : y = (pl lf P K tr ks ey pu st lc).1) : (y = -1 → (ch av P K T ks ey pu st n).1 = -1) ∧ (¬ y = -1 → 0 ≤ y ∧ y.toNat < lc ∧ (ch av P K T ks ey pu st n).1 = lf y.toNat) := by
  rcases pl_chW (K := K) (ks := ks) (ey := ey) (pu := pu) (st := st) hl ht with g | ⟨k, g1, g2, g3⟩
  · exact ⟨fun _ => g.2, fun z => absurd (e.trans g.1) z⟩
  · have ek : y = k := e.trans g2
    refine ⟨fun z => absurd (ek.symm.trans z) (by omega), fun _ => ⟨by omega, by omega, ?_⟩⟩
    rw [g3, show y.toNat = k by omega]
/-- one less in the list -/
theorem Lst_cut {f : Nat → Int} {lc n p : Nat} {Q Q' : Nat → Prop} (hl : Lst f lc n Q) (hp : p < lc) (hQ : ∀ t : Nat, t < n → (Q' t ↔ Q t ∧ (t : Int) ≠ f p)) : Lst (cpf f f (p + 1) p (lc - 1 - p)) (lc - 1) n Q' := by
  have e : ∀ i, i < lc - 1 → cpf f f (p + 1) p (lc - 1 - p) i = if i < p then f i else f (i + 1) := by
    intro i hi
    unfold cpf
    by_cases c : i < p
    · rw [if_neg (by omega), if_pos c]
    · rw [if_pos (by omega), if_neg c]
      congr 1
      omega
  refine ⟨fun i hi => ?_, fun i j hij hj => ?_, fun t ht hq => ?_⟩
  · rw [e i hi]
    by_cases c : i < p
    · rw [if_pos c]
      obtain ⟨t, a, b, d⟩ := hl.1 i (by omega)
      have := hl.2.1 i p c hp
      exact ⟨t, a, b, (hQ t a).mpr ⟨d, by omega⟩⟩
    · rw [if_neg c]
      obtain ⟨t, a, b, d⟩ := hl.1 (i + 1) (by omega)
      have := hl.2.1 p (i + 1) (by omega) (by omega)
      exact ⟨t, a, b, (hQ t a).mpr ⟨d, by omega⟩⟩
  · rw [e i (by omega), e j hj]
    by_cases c : i < p
    · rw [if_pos c]
      by_cases c2 : j < p
      · rw [if_pos c2]; exact hl.2.1 i j hij (by omega)
      · rw [if_neg c2]; exact hl.2.1 i (j + 1) (by omega) (by omega)
    · rw [if_neg c, if_neg (by omega)]
      exact hl.2.1 (i + 1) (j + 1) (by omega) (by omega)
  · obtain ⟨hq1, hq2⟩ := (hQ t ht).mp hq
    obtain ⟨i, a, b⟩ := hl.2.2 t ht hq1
    by_cases c : i < p
    · refine ⟨i, by omega, ?_⟩
      rw [e i (by omega), if_pos c]
      exact b
    · have hne : i ≠ p := fun z => hq2 (by rw [← z]; exact b.symm)
      refine ⟨i - 1, by omega, ?_⟩
      rw [e (i - 1) (by omega), if_neg (by omega), show i - 1 + 1 = i by omega]
      exact b
/-- the list grows at its end -/
theorem Lst_add {f : Nat → Int} {lc n : Nat} {Q : Nat → Prop} (hl : Lst f lc n Q) (hq : Q n) : Lst (us f lc n) (lc + 1) (n + 1) Q := by
  refine ⟨fun i hi => ?_, fun i j hij hj => ?_, fun t ht hqt => ?_⟩
  · unfold us
    by_cases c : i = lc
    · rw [if_pos c]; exact ⟨n, by omega, rfl, hq⟩
    · rw [if_neg c]
      obtain ⟨t, a, b⟩ := hl.1 i (by omega)
      exact ⟨t, by omega, b⟩
  · unfold us
    rw [if_neg (by omega : ¬ i = lc)]
    by_cases c : j = lc
    · rw [if_pos c]
      obtain ⟨t, a, b, -⟩ := hl.1 i (by omega)
      omega
    · rw [if_neg c]; exact hl.2.1 i j hij (by omega)
  · by_cases c : t = n
    · subst c; exact ⟨lc, by omega, by unfold us; rw [if_pos rfl]⟩
    · obtain ⟨i, a, b⟩ := hl.2.2 t (by omega) hqt
      exact ⟨i, by omega, by unfold us; rw [if_neg (by omega)]; exact b⟩
theorem Lst_skip {f : Nat → Int} {lc n : Nat} {Q : Nat → Prop} (hl : Lst f lc n Q) (hq : ¬ Q n) : Lst f lc (n + 1) Q := by
  refine ⟨fun i hi => ?_, hl.2.1, fun t ht hqt => ?_⟩
  · obtain ⟨t, a, b⟩ := hl.1 i hi
    exact ⟨t, by omega, b⟩
  · by_cases c : t = n
    · subst c; exact absurd hqt hq
    · exact hl.2.2 t (by omega) hqt
theorem Lst_iff {f : Nat → Int} {lc n : Nat} {Q Q' : Nat → Prop} (hl : Lst f lc n Q) (h : ∀ t, t < n → (Q t ↔ Q' t)) : Lst f lc n Q' := by
  refine ⟨fun i hi => ?_, hl.2.1, fun t ht hq => hl.2.2 t ht ((h t ht).mpr hq)⟩
  obtain ⟨t, a, b, c⟩ := hl.1 i hi
  exact ⟨t, a, b, (h t a).mp c⟩
theorem Lst_0 {f : Nat → Int} {Q : Nat → Prop} : Lst f 0 0 Q := ⟨fun i hi => absurd hi (Nat.not_lt_zero _), fun i j _ hj => absurd hj (Nat.not_lt_zero _), fun t ht _ => absurd ht (Nat.not_lt_zero _)⟩
theorem Lst_len {f : Nat → Int} {lc n : Nat} {Q : Nat → Prop} (hl : Lst f lc n Q) : lc ≤ n := by
  have h : ∀ i, i < lc → (i : Int) ≤ f i := by
    intro i
    induction i with
    | zero => intro hi; obtain ⟨t, a, b, -⟩ := hl.1 0 hi; omega
    | succ i ih =>
      intro hi
      have := ih (by omega)
      have := hl.2.1 i (i + 1) (by omega) hi
      omega
  by_cases c : lc = 0
  · omega
  · have := h (lc - 1) (by omega)
    obtain ⟨t, a, b, -⟩ := hl.1 (lc - 1) (by omega)
    omega
/-- what one buyer paid -/
def smB (sb sp : Nat → Int) (b : Int) : Nat → Int
  | 0 => 0
  | n + 1 => smB sb sp b n + (if sb n = b then sp n else 0)
theorem smB_o {sb sp : Nat → Int} {b x c : Int} {t : Nat} : ∀ n, n ≤ t → smB (us sb t x) (us sp t c) b n = smB sb sp b n
  | 0, _ => rfl
  | n + 1, h => by
    unfold smB
    rw [smB_o n (by omega), us_o (by omega : n ≠ t), us_o (by omega : n ≠ t)]
theorem smB_u {sb sp : Nat → Int} {b x c : Int} {t : Nat} (hs : sb t = -1) (hb : b ≠ -1) : ∀ n, t < n → smB (us sb t x) (us sp t c) b n = smB sb sp b n + (if x = b then c else 0)
  | 0, h => absurd h (Nat.not_lt_zero _)
  | n + 1, h => by
    unfold smB
    by_cases e : t = n
    · subst e
      rw [smB_o t (Nat.le_refl _), us_k, us_k, if_neg (by omega : ¬ sb t = b)]
      omega
    · rw [smB_u hs hb n (by omega), us_o (fun z => e z.symm), us_o (fun z => e z.symm)]
      omega
theorem smB_in {sb sp : Nat → Int} {b : Int} : ∀ n, (∀ t, t < n → sb t = b → -1 ≤ sp t ∧ sp t ≤ 999) → -(n : Int) ≤ smB sb sp b n ∧ smB sb sp b n ≤ 999 * n
  | 0, _ => by simp [smB]
  | n + 1, h => by
    have ih := smB_in (b := b) n (fun t ht => h t (by omega))
    have g := h n (Nat.lt_succ_self _)
    unfold smB
    split
    · have := g (by assumption); omega
    · omega
theorem us_c1 {t : Nat} {x : Int} : us (fun _ => x) t x = fun _ => x := by
  funext i
  unfold us
  split <;> rfl
/-- the class's day under way, beside what has come to pass: s -/
def SIv (B P K T BP MN hr ks ey : Nat → Int) (n bn : Nat) (D0 : Nat → Int) (lc : Int) (lf tr sb sp pu id : Nat → Int) (s : R7) : Prop :=
  (0 ≤ lc ∧ Lst lf lc.toNat n (fun t => s.1 t = 0 ∧ 0 ≤ P t)) ∧
  (∀ t, t < n → (s.1 t = 0 ↔ s.2.2.2.2.1 t = -1)) ∧
  (∀ t, s.2.2.2.2.1 t = if t < n ∧ ¬ sb t = -1 then sb t else B t) ∧
  (∀ t, t < n → sb t = -1 ∨ (B t = -1 ∧ 0 ≤ sb t ∧ sb t < bn)) ∧
  (∀ t, s.2.2.2.2.2.1 t = if t < n ∧ ¬ sb t = -1 then sp t else D0 t) ∧
  (∀ t, t < n → s.1 t = 0 ∧ 0 ≤ P t → tr t = T t) ∧
  (∀ b, b < bn → pu b = s.2.1 b) ∧
  (∀ b, b < bn → id b = -1 ∨ (0 ≤ id b ∧ id b ≤ 2 ∧ (ch s.1 P K T (ks b) (ey b) (s.2.1 b) (id b) n).1 = -1)) ∧
  (∀ b : Nat, s.2.2.1 b = BP b - smB sb sp b n ∧ s.2.2.2.1 b = MN b + smB sb (fun _ => 1) b n)
/-- nothing found stays nothing found -/
theorem none_mono {av av' P K T : Nat → Int} {ks ey pu pu' st : Int} {n : Nat} (h : (ch av P K T ks ey pu st n).1 = -1) (ha : ∀ j, j < n → av' j = 0 → av j = 0) (hp : pu' ≤ pu) : (ch av' P K T ks ey pu' st n).1 = -1 := by
  rw [(ch_none n).2 (fun j hj z => ((ch_none n).1 h).2 j hj ⟨ha j hj z.1, z.2.1, z.2.2.1, by omega, z.2.2.2.2⟩)]
theorem us_i {f : Nat → Int} {j i : Nat} {x : Int} : us f j x i = if i = j then x else f i := rfl
theorem SIv_n {B P K T BP MN hr ks ey D0 : Nat → Int} {n bn : Nat} {lc : Int} {lf tr sb sp pu id : Nat → Int} {s : R7} (h : SIv B P K T BP MN hr ks ey n bn D0 lc lf tr sb sp pu id s) {half bag hour : Int} {b : Nat} (c : choR P K T hr ks ey n half bag hour b s.1 s.2.1 < 0) : SIv B P K T BP MN hr ks ey n bn D0 lc lf tr sb sp pu id (buyG P K T hr ks ey n half bag hour b s) := by
  rw [buyG_n c]; exact h
theorem SIv_c {B P K T BP MN hr ks ey D0 : Nat → Int} {n bn : Nat} {lc : Int} {lf tr sb sp pu id : Nat → Int} {s : R7} (h : SIv B P K T BP MN hr ks ey n bn D0 lc lf tr sb sp pu id s) {half bag hour : Int} {b : Nat} (hb : b < bn) (hh : ¬ hour < hr b) (e : id b = stg hour half bag) : choR P K T hr ks ey n half bag hour b s.1 s.2.1 < 0 := by
  obtain ⟨h1, h2, h3, h4, h5, h6, h7, h8, h9⟩ := h
  have := stg_in hour half bag
  rcases h8 b hb with g | ⟨g1, g2, g3⟩
  · omega
  · rw [e] at g3
    unfold choR
    rw [if_neg hh, g3]
    decide
theorem SIv_id {B P K T BP MN hr ks ey D0 : Nat → Int} {n bn : Nat} {lc : Int} {lf tr sb sp pu id : Nat → Int} {s : R7} (h : SIv B P K T BP MN hr ks ey n bn D0 lc lf tr sb sp pu id s) {half bag hour : Int} {b : Nat} (hb : b < bn) (hh : ¬ hour < hr b) (c : (ch s.1 P K T (ks b) (ey b) (s.2.1 b) (stg hour half bag) n).1 = -1) : SIv B P K T BP MN hr ks ey n bn D0 lc lf tr sb sp pu (us id b (stg hour half bag)) (buyG P K T hr ks ey n half bag hour b s) := by
  have c1 : choR P K T hr ks ey n half bag hour b s.1 s.2.1 < 0 := by unfold choR; rw [if_neg hh, c]; decide
  rw [buyG_n c1]
  obtain ⟨h1, h2, h3, h4, h5, h6, h7, h8, h9⟩ := h
  refine ⟨h1, h2, h3, h4, h5, h6, h7, fun i hi => ?_, h9⟩
  rw [us_i]
  by_cases e : i = b
  · subst e
    rw [if_pos rfl]
    have := stg_in hour half bag
    exact Or.inr ⟨by omega, by omega, c⟩
  · rw [if_neg e]; exact h8 i hi
theorem SIv_y {B P K T BP MN hr ks ey D0 : Nat → Int} {n bn : Nat} {lc : Int} {lf tr sb sp pu id : Nat → Int} {s : R7} (h : SIv B P K T BP MN hr ks ey n bn D0 lc lf tr sb sp pu id s) {half bag hour : Int} {b p : Nat} (hb : b < bn) (hh : ¬ hour < hr b) (hp : p < lc.toNat) (c : (ch s.1 P K T (ks b) (ey b) (s.2.1 b) (stg hour half bag) n).1 = lf p) (hP : ∀ t, t < n → P t ≤ 999) : SIv B P K T BP MN hr ks ey n bn D0 (lc - 1) (cpf lf lf (p + 1) p (lc.toNat - 1 - p)) tr (us sb (lf p).toNat b) (us sp (lf p).toNat (cst (P (lf p).toNat) (stg hour half bag))) (us pu b (pu b - cst (P (lf p).toNat) (stg hour half bag))) id (buyG P K T hr ks ey n half bag hour b s) ∧ (buyG P K T hr ks ey n half bag hour b s).2.2.2.2.2.2 = s.2.2.2.2.2.2 + cst (P (lf p).toNat) (stg hour half bag) := by
  obtain ⟨h1, h2, h3, h4, h5, h6, h7, h8, h9⟩ := h
  obtain ⟨t, t1, t2, t3, t4⟩ := h1.2.1 p hp
  have e : lf p = choR P K T hr ks ey n half bag hour b s.1 s.2.1 := by unfold choR; rw [if_neg hh, c]
  rw [buyG_y e (by omega)]
  have et : (lf p).toNat = t := by omega
  rw [et]
  have hc := cst_in (st := stg hour half bag) t4 (hP t t1)
  have hby := (h2 t t1).mp t3
  have hsb : sb t = -1 := by
    have g3 := h3 t
    rcases h4 t t1 with g | g
    · exact g
    · rw [if_pos ⟨t1, by omega⟩] at g3
      omega
  have hBt : B t = -1 := by
    have g3 := h3 t
    rw [if_neg (fun z => z.2 hsb)] at g3
    omega
  refine ⟨⟨⟨by omega, ?_⟩, fun i hi => ?_, fun i => ?_, fun i hi => ?_, fun i => ?_, fun i hi z => ?_, fun i hi => ?_, fun i hi => ?_, fun i => ?_⟩, rfl⟩
  · rw [show (lc - 1).toNat = lc.toNat - 1 by omega]
    refine Lst_cut h1.2 hp (fun i hi => ?_)
    show (us s.1 t 1 i = 0 ∧ 0 ≤ P i) ↔ (s.1 i = 0 ∧ 0 ≤ P i) ∧ (i : Int) ≠ lf p
    rw [us_i]
    by_cases c1 : i = t
    · subst c1
      rw [if_pos rfl]
      exact ⟨fun z => absurd z.1 (by decide), fun z => absurd t2.symm z.2⟩
    · rw [if_neg c1]
      exact ⟨fun z => ⟨z, by omega⟩, fun z => z.1⟩
  · show us s.1 t 1 i = 0 ↔ us s.2.2.2.2.1 t b i = -1
    rw [us_i, us_i]
    by_cases c1 : i = t
    · rw [if_pos c1, if_pos c1]
      exact ⟨fun z => absurd z (by decide), fun z => absurd z (by omega)⟩
    · rw [if_neg c1, if_neg c1]; exact h2 i hi
  · show us s.2.2.2.2.1 t b i = if i < n ∧ ¬ us sb t b i = -1 then us sb t b i else B i
    rw [us_i, us_i]
    by_cases c1 : i = t
    · rw [if_pos c1, if_pos c1, if_pos ⟨by omega, by omega⟩]
    · rw [if_neg c1, if_neg c1]; exact h3 i
  · rw [us_i]
    by_cases c1 : i = t
    · subst c1
      rw [if_pos rfl]
      exact Or.inr ⟨hBt, by omega, by omega⟩
    · rw [if_neg c1]; exact h4 i hi
  · show us s.2.2.2.2.2.1 t _ i = if i < n ∧ ¬ us sb t b i = -1 then us sp t _ i else D0 i
    rw [us_i, us_i, us_i]
    by_cases c1 : i = t
    · rw [if_pos c1, if_pos c1, if_pos ⟨by omega, by omega⟩, if_pos c1]
    · rw [if_neg c1, if_neg c1, if_neg c1]; exact h5 i
  · have z2 : us s.1 t 1 i = 0 ∧ 0 ≤ P i := z
    rw [us_i] at z2
    by_cases c1 : i = t
    · rw [if_pos c1] at z2; exact absurd z2.1 (by decide)
    · rw [if_neg c1] at z2; exact h6 i hi z2
  · show us pu b _ i = us s.2.1 b _ i
    rw [us_i, us_i]
    by_cases c1 : i = b
    · rw [if_pos c1, if_pos c1, h7 b hb]
    · rw [if_neg c1, if_neg c1]; exact h7 i hi
  · rcases h8 i hi with g | ⟨g1, g2, g3⟩
    · exact Or.inl g
    · refine Or.inr ⟨g1, g2, none_mono g3 (fun j hj z => ?_) ?_⟩
      · have z2 : us s.1 t 1 j = 0 := z
        rw [us_i] at z2
        by_cases c1 : j = t
        · rw [if_pos c1] at z2; exact absurd z2 (by decide)
        · rw [if_neg c1] at z2; exact z2
      · show us s.2.1 b _ i ≤ s.2.1 i
        rw [us_i]
        by_cases c1 : i = b
        · subst c1; rw [if_pos rfl]; omega
        · rw [if_neg c1]; omega
  · show us s.2.2.1 b _ i = BP i - smB (us sb t b) (us sp t _) i n ∧ us s.2.2.2.1 b _ i = MN i + smB (us sb t b) (fun _ => 1) i n
    have g := h9 i
    have g2 := h9 b
    have k2 := smB_u (sb := sb) (sp := fun _ => 1) (b := (i : Int)) (x := (b : Int)) (c := 1) (t := t) hsb (by omega) n t1
    rw [us_c1] at k2
    rw [smB_u hsb (by omega) n t1, k2, us_i, us_i]
    by_cases c1 : i = b
    · subst c1
      rw [if_pos rfl, if_pos rfl, if_pos rfl, if_pos rfl]
      constructor <;> omega
    · rw [if_neg c1, if_neg c1, if_neg (by omega), if_neg (by omega)]
      constructor <;> omega
/-- what settling makes of the rows -/
def stB (sb B : Nat → Int) (n : Nat) : Nat → Int := fun t => if t < n ∧ ¬ sb t = -1 then sb t else B t
def stD (sb sp D : Nat → Int) (n : Nat) : Nat → Int := fun t => if t < n ∧ ¬ sb t = -1 then sp t else D t
def stP (sb sp BP : Nat → Int) (n : Nat) : Nat → Int := fun b => BP b - smB sb sp b n
def stM (sb MN : Nat → Int) (n : Nat) : Nat → Int := fun b => MN b + smB sb (fun _ => 1) b n
theorem stB_0 {sb B : Nat → Int} : stB sb B 0 = B := by funext t; unfold stB; rw [if_neg (fun z => Nat.not_lt_zero _ z.1)]
theorem stD_0 {sb sp D : Nat → Int} : stD sb sp D 0 = D := by funext t; unfold stD; rw [if_neg (fun z => Nat.not_lt_zero _ z.1)]
theorem stP_0 {sb sp BP : Nat → Int} : stP sb sp BP 0 = BP := by funext t; unfold stP smB; omega
theorem stM_0 {sb MN : Nat → Int} : stM sb MN 0 = MN := by funext t; unfold stM smB; omega
theorem stB_y {sb B : Nat → Int} {n : Nat} (h : ¬ sb n = -1) : stB sb B (n + 1) = us (stB sb B n) n (sb n) := by
  funext t
  rw [us_i]
  unfold stB
  by_cases c : t = n
  · subst c; rw [if_pos ⟨Nat.lt_succ_self _, h⟩, if_pos rfl]
  · rw [if_neg c]
    by_cases c2 : t < n ∧ ¬ sb t = -1
    · rw [if_pos ⟨by omega, c2.2⟩, if_pos c2]
    · rw [if_neg (fun z => c2 ⟨by omega, z.2⟩), if_neg c2]
theorem stB_n {sb B : Nat → Int} {n : Nat} (h : sb n = -1) : stB sb B (n + 1) = stB sb B n := by
  funext t
  unfold stB
  by_cases c2 : t < n ∧ ¬ sb t = -1
  · rw [if_pos ⟨by omega, c2.2⟩, if_pos c2]
  · rw [if_neg c2, if_neg (fun z => by
      by_cases c : t = n
      · subst c; exact z.2 h
      · exact c2 ⟨by omega, z.2⟩)]
theorem stD_y {sb sp D : Nat → Int} {n : Nat} (h : ¬ sb n = -1) : stD sb sp D (n + 1) = us (stD sb sp D n) n (sp n) := by
  funext t
  rw [us_i]
  unfold stD
  by_cases c : t = n
  · subst c; rw [if_pos ⟨Nat.lt_succ_self _, h⟩, if_pos rfl]
  · rw [if_neg c]
    by_cases c2 : t < n ∧ ¬ sb t = -1
    · rw [if_pos ⟨by omega, c2.2⟩, if_pos c2]
    · rw [if_neg (fun z => c2 ⟨by omega, z.2⟩), if_neg c2]
theorem stD_n {sb sp D : Nat → Int} {n : Nat} (h : sb n = -1) : stD sb sp D (n + 1) = stD sb sp D n := by
  funext t
  unfold stD
  by_cases c2 : t < n ∧ ¬ sb t = -1
  · rw [if_pos ⟨by omega, c2.2⟩, if_pos c2]
  · rw [if_neg c2, if_neg (fun z => by
      by_cases c : t = n
      · subst c; exact z.2 h
      · exact c2 ⟨by omega, z.2⟩)]
theorem stP_y {sb sp BP : Nat → Int} {n : Nat} (h : 0 ≤ sb n) : stP sb sp BP (n + 1) = us (stP sb sp BP n) (sb n).toNat (stP sb sp BP n (sb n).toNat - sp n) := by
  funext b
  simp only [stP, us_i, smB]
  by_cases c : b = (sb n).toNat
  · have e : sb n = (b : Int) := by omega
    rw [if_pos e, if_pos c, e]
    simp only [Int.toNat_natCast]
    omega
  · have e : ¬ sb n = (b : Int) := by omega
    rw [if_neg e, if_neg c]
    omega
theorem stP_n {sb sp BP : Nat → Int} {n : Nat} (h : sb n = -1) : stP sb sp BP (n + 1) = stP sb sp BP n := by
  funext b
  unfold stP
  show BP b - (smB sb sp b n + _) = _
  rw [if_neg (by omega)]; omega
theorem stM_y {sb MN : Nat → Int} {n : Nat} (h : 0 ≤ sb n) : stM sb MN (n + 1) = us (stM sb MN n) (sb n).toNat (stM sb MN n (sb n).toNat + 1) := by
  funext b
  simp only [stM, us_i, smB]
  by_cases c : b = (sb n).toNat
  · have e : sb n = (b : Int) := by omega
    rw [if_pos e, if_pos c, e]
    simp only [Int.toNat_natCast]
    omega
  · have e : ¬ sb n = (b : Int) := by omega
    rw [if_neg e, if_neg c]
    omega
theorem stM_n {sb MN : Nat → Int} {n : Nat} (h : sb n = -1) : stM sb MN (n + 1) = stM sb MN n := by
  funext b
  unfold stM
  show MN b + (smB sb (fun _ => 1) b n + _) = _
  rw [if_neg (by omega)]; omega
theorem SIv_st {B P K T BP MN hr ks ey D0 : Nat → Int} {n bn : Nat} {lc : Int} {lf tr sb sp pu id : Nat → Int} {s : R7} (h : SIv B P K T BP MN hr ks ey n bn D0 lc lf tr sb sp pu id s) : stB sb B n = s.2.2.2.2.1 ∧ stD sb sp D0 n = s.2.2.2.2.2.1 ∧ stP sb sp BP n = s.2.2.1 ∧ stM sb MN n = s.2.2.2.1 := by
  obtain ⟨h1, h2, h3, h4, h5, h6, h7, h8, h9⟩ := h
  refine ⟨?_, ?_, ?_, ?_⟩ <;> funext i
  · exact (h3 i).symm
  · exact (h5 i).symm
  · exact (h9 i).1.symm
  · exact (h9 i).2.symm
theorem sr_id {X : Mem} {k : Nat} {f : Nat → Int} (h : X k = f) : sr X k f = X := by subst h; exact sr_self
theorem SIv_0 {B P K T BP MN hr ks ey D0 : Nat → Int} {n bn : Nat} {lc : Int} {lf tr sb sp pu id g p : Nat → Int} (h0 : 0 ≤ lc) (hl : Lst lf lc.toNat n (fun z => ¬ P z = -1 ∧ B z = -1)) (ht : ∀ z, z < n → ¬ P z = -1 ∧ B z = -1 → tr z = T z) (hs : ∀ z, z < n → sb z = -1) (hp : ∀ b, b < bn → pu b = BP b) (hi : ∀ b, b < bn → id b = -1) (hP : ∀ j, j < n → -1 ≤ P j) (hB : ∀ j, j < n → -1 ≤ B j) : SIv B P K T BP MN hr ks ey n bn D0 lc lf tr sb sp pu id (gnA B g n, puA BP p bn, BP, MN, B, D0, 0) := by
  have hq : ∀ t, t < n → ((¬ P t = -1 ∧ B t = -1) ↔ (gnA B g n t = 0 ∧ 0 ≤ P t)) := fun t ht => by
    have a := hP t ht
    have b := hB t ht
    unfold gnA
    rw [if_pos ht]
    by_cases c : B t < 0
    · rw [if_pos c]; omega
    · rw [if_neg c]; omega
  have hz : ∀ (sp : Nat → Int) (b : Nat) (m : Nat), m ≤ n → smB sb sp b m = 0 := by
    intro sp b m
    induction m with
    | zero => intro _; rfl
    | succ m ih =>
      intro hm
      unfold smB
      rw [ih (by omega), hs m (by omega), if_neg (by omega)]
      rfl
  refine ⟨⟨h0, Lst_iff hl hq⟩, fun t ht => ?_, fun t => ?_, fun t ht => Or.inl (hs t ht), fun t => ?_, fun t h1 h2 => ht t h1 ((hq t h1).mpr h2), fun b hb => ?_, fun b hb => Or.inl (hi b hb), fun b => ?_⟩
  · show gnA B g n t = 0 ↔ B t = -1
    have b := hB t ht
    unfold gnA
    rw [if_pos ht]
    by_cases c : B t < 0
    · rw [if_pos c]; omega
    · rw [if_neg c]; omega
  · show B t = _
    by_cases c : t < n
    · rw [if_neg (fun z => z.2 (hs t c))]
    · rw [if_neg (fun z => c z.1)]
  · show D0 t = _
    by_cases c : t < n
    · rw [if_neg (fun z => z.2 (hs t c))]
    · rw [if_neg (fun z => c z.1)]
  · show pu b = puA BP p bn b
    unfold puA
    rw [if_pos hb, hp b hb]
  · show BP b = _ ∧ MN b = _
    rw [hz sp b n (Nat.le_refl _), hz _ b n (Nat.le_refl _)]
    omega
theorem SIv_le {B P K T BP MN hr ks ey D0 : Nat → Int} {n bn : Nat} {lc : Int} {lf tr sb sp pu id : Nat → Int} {s : R7} (h : SIv B P K T BP MN hr ks ey n bn D0 lc lf tr sb sp pu id s) (hP : ∀ j, j < n → P j ≤ 999) (hT : ∀ j, j < n → 0 ≤ T j ∧ T j ≤ 1049) : lc ≤ n ∧ ∀ i, i < lc.toNat → (0 ≤ lf i ∧ lf i < n) ∧ 0 ≤ P (lf i).toNat ∧ P (lf i).toNat ≤ 999 ∧ 0 ≤ tr (lf i).toNat ∧ tr (lf i).toNat ≤ 1049 := by
  obtain ⟨h1, h2, h3, h4, h5, h6, h7, h8, h9⟩ := h
  have hl := Lst_len h1.2
  refine ⟨by omega, fun i hi => ?_⟩
  obtain ⟨t, a, b, c⟩ := h1.2.1 i hi
  have e : (lf i).toNat = t := by omega
  rw [e, h6 t a c]
  have := hT t a
  exact ⟨by omega, c.2, hP t a, this.1, this.2⟩
theorem TWx_in {M : Mem} (h : thOK M) : ∀ j, j < 30 → 0 ≤ TWf (M 7) (M 8) (M 9) j ∧ TWf (M 7) (M 8) (M 9) j ≤ 1049 := fun j hj => TW_in (M 7 j) (M 9 j) (h j hj).2.1.1 (h j hj).2.1.2
theorem Px_in {M : Mem} (h : thOK M) : ∀ j, j < 30 → M 10 j ≤ 999 := fun j hj => (h j hj).2.2.2.1.2
/-- the two ways to reckon a day -/
theorem G_R {P K T hr ks ey : Nat → Int} {n : Nat} {half bag hour : Int} {b : Nat} {s : R7} {t : R3} (h : s.1 = t.1 ∧ s.2.1 = t.2.1 ∧ s.2.2.2.2.2.2 = t.2.2) : (buyG P K T hr ks ey n half bag hour b s).1 = (buyR P K T hr ks ey n half bag hour b t).1 ∧ (buyG P K T hr ks ey n half bag hour b s).2.1 = (buyR P K T hr ks ey n half bag hour b t).2.1 ∧ (buyG P K T hr ks ey n half bag hour b s).2.2.2.2.2.2 = (buyR P K T hr ks ey n half bag hour b t).2.2 := by
  have e : choR P K T hr ks ey n half bag hour b s.1 s.2.1 = choR P K T hr ks ey n half bag hour b t.1 t.2.1 := by rw [h.1, h.2.1]
  by_cases c : choR P K T hr ks ey n half bag hour b s.1 s.2.1 < 0
  · rw [buyG_n c, buyR_n (e ▸ c)]; exact h
  · rw [buyG_y rfl c, buyR_y e c]
    simp only
    rw [h.1, h.2.1, h.2.2]
    exact ⟨rfl, rfl, rfl⟩
theorem hrG_R {P K T hr ks ey : Nat → Int} {n : Nat} {half bag hour : Int} {s : R7} {t : R3} (h : s.1 = t.1 ∧ s.2.1 = t.2.1 ∧ s.2.2.2.2.2.2 = t.2.2) : ∀ b, (hrG P K T hr ks ey n half bag hour s b).1 = (hrR P K T hr ks ey n half bag hour t b).1 ∧ (hrG P K T hr ks ey n half bag hour s b).2.1 = (hrR P K T hr ks ey n half bag hour t b).2.1 ∧ (hrG P K T hr ks ey n half bag hour s b).2.2.2.2.2.2 = (hrR P K T hr ks ey n half bag hour t b).2.2
  | 0 => h
  | b + 1 => G_R (hrG_R h b)
theorem dyG_R {P K T hr ks ey : Nat → Int} {n bn : Nat} {half bag : Int} {s : R7} {t : R3} (h : s.1 = t.1 ∧ s.2.1 = t.2.1 ∧ s.2.2.2.2.2.2 = t.2.2) : ∀ d, (dyG P K T hr ks ey n bn half bag 0 s d).1 = (dyR P K T hr ks ey n bn half bag t d).1 ∧ (dyG P K T hr ks ey n bn half bag 0 s d).2.1 = (dyR P K T hr ks ey n bn half bag t d).2.1 ∧ (dyG P K T hr ks ey n bn half bag 0 s d).2.2.2.2.2.2 = (dyR P K T hr ks ey n bn half bag t d).2.2
  | 0 => h
  | d + 1 => by
    have ih := dyG_R (P := P) (K := K) (T := T) (hr := hr) (ks := ks) (ey := ey) (n := n) (bn := bn) (half := half) (bag := bag) h d
    show (hrG P K T hr ks ey n half bag (0 + (d : Int)) _ bn).1 = (hrR P K T hr ks ey n half bag d _ bn).1 ∧ (hrG P K T hr ks ey n half bag (0 + (d : Int)) _ bn).2.1 = (hrR P K T hr ks ey n half bag d _ bn).2.1 ∧ (hrG P K T hr ks ey n half bag (0 + (d : Int)) _ bn).2.2.2.2.2.2 = (hrR P K T hr ks ey n half bag d _ bn).2.2
    rw [Int.zero_add]
    exact hrG_R ih bn
