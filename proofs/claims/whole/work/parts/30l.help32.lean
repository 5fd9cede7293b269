/-! what to show, the longest row, the fewest: both sides -/
theorem jor_up {acc : Nat} {t u : Nat} (ht : t < 30) (h : acc = 2 ^ (t + 1) * u) (hl : acc < 2147483648) : jor (acc : Int) (jshl 1 (t : Int)) = ((acc + 2 ^ t : Nat) : Int) := by
  have p : 2 ^ t ≤ 2 ^ 29 := Nat.pow_le_pow_right (by omega) (by omega)
  have pp := pw_p t
  rw [jshl1 (by omega) (by omega), Int.toNat_natCast, jor_nat ⟨by omega, by omega⟩ ⟨by omega, by omega⟩, Int.toNat_natCast, Int.toNat_natCast]
  have l : 2 ^ t < 2 ^ (t + 1) := Nat.pow_lt_pow_right (by omega) (by omega)
  have e := Nat.two_pow_add_eq_or_of_lt (b := 2 ^ t) (i := t + 1) l u
  rw [h, ← e]
theorem bk_sum {V : Nat → Nat → Int} {K : Nat → Int} {S : Nat → Nat → Int} {ok : Nat → Nat → Prop} (h0 : ∀ j, ok 0 j → S 0 j = 0)
    (hs : ∀ t j, t < 30 → ok (t + 1) j → (V (t + 1) j = V t j ∧ ok t j ∧ S (t + 1) j = S t j) ∨ (¬ V (t + 1) j = V t j ∧ 0 ≤ K t ∧ K t ≤ (j : Int) ∧ ok t ((j : Int) - K t).toNat ∧ S (t + 1) j = S t ((j : Int) - K t).toNat + ((2 ^ t : Nat) : Int))) :
    ∀ (t : Nat), t ≤ 30 → ∀ (acc u : Nat) (j : Int), 0 ≤ j → acc = 2 ^ t * u → acc + 2 ^ t ≤ 1073741824 → ok t j.toNat → (bkW V K t ((acc : Int), j)).1 = acc + S t j.toNat
  | 0, _, acc, u, j, hj, ha, hl, ho => by
    show (acc : Int) = acc + S 0 j.toNat
    rw [h0 _ ho]
    omega
  | t + 1, ht, acc, u, j, hj, ha, hl, ho => by
    have p2 : 2 ^ (t + 1) = 2 * 2 ^ t := by rw [Nat.pow_succ]; omega
    have ej : ((j.toNat : Nat) : Int) = j := by omega
    rcases hs t j.toNat (by omega) ho with ⟨e, o, s⟩ | ⟨e, k0, k1, o, s⟩
    · rw [bk_y (s := ((acc : Int), j)) e, s]
      exact bk_sum h0 hs t (by omega) acc (2 * u) j hj (by rw [ha, Nat.pow_succ, Nat.mul_assoc]) (by omega) o
    · rw [bk_n (s := ((acc : Int), j)) e]
      show (bkW V K t (jor (acc : Int) (jshl 1 (t : Int)), j - K t)).1 = _
      rw [jor_up (u := u) (by omega) ha (by omega)]
      rw [ej] at k1 o s
      have r := bk_sum h0 hs t (by omega) (acc + 2 ^ t) (2 * u + 1) (j - K t) (by omega) (by rw [ha, Nat.pow_succ, Nat.mul_assoc, Nat.mul_add, Nat.mul_one]) (by omega) o
      rw [r, s]
      omega
theorem gB_mono {P B K T : Nat → Int} (hP : ∀ j, j < 30 → -1 ≤ P j ∧ P j ≤ 999) (hT : ∀ j, j < 30 → 0 ≤ T j ∧ T j ≤ 1049) : ∀ t (m m' : Nat), t ≤ 30 → m ≤ m' → gB P B K T t m ≤ gB P B K T t m'
  | 0, _, _, _, _ => Int.le_refl 0
  | t + 1, m, m', ht, h => by
    have i1 := gB_mono (B := B) (K := K) hP hT t m m' (by omega) h
    have i2 := gB_mono (B := B) (K := K) hP hT t ((m : Int) - (2 + K t)).toNat ((m' : Int) - (2 + K t)).toNat (by omega) (by omega)
    have n1 := gB_in (B := B) (K := K) hP hT t m (by omega)
    have n2 := gB_in (B := B) (K := K) hP hT t m' (by omega)
    have hw : gBw P B K T (gB P B K T t) t m ≤ gBw P B K T (gB P B K T t) t m' ∨ gBw P B K T (gB P B K T t) t m = 0 := by
      unfold gBw
      by_cases c : 0 < gnT P B T t ∧ 2 + K t ≤ (m : Int)
      · left
        rw [if_pos c, if_pos ⟨c.1, by omega⟩]
        omega
      · right
        rw [if_neg c]
    unfold gB
    (repeat' split) <;> omega
theorem bg_c {P B K T G : Nat → Int} {mi : Int} {t j : Nat} (hP : ∀ j, j < 30 → -1 ≤ P j ∧ P j ≤ 999) (hK : ∀ j, j < 30 → 0 ≤ K j ∧ K j ≤ 5) (hT : ∀ j, j < 30 → 0 ≤ T j ∧ T j ≤ 1049) (ht : t < 30) (hG : ∀ j : Nat, (j : Int) ≤ mi → G j = gB P B K T t j) (hj : (j : Int) ≤ mi) (c : ¬ P t = -1 ∧ B t = -1) : ((-1 : Int) < j ∧ (j : Int) ≤ mi ∧ 2 + K t ≤ j ∧ G j < G ((j : Int) - (2 + K t)).toNat + (T t - P t)) ↔ gB P B K T t j < gBw P B K T (gB P B K T t) t j := by
  have p := hP t ht
  have k := hK t ht
  have g : gnT P B T t = T t - P t := by unfold gnT; rw [if_neg (by omega)]
  have n1 := gB_in (B := B) (K := K) hP hT t j (by omega)
  have mo := gB_mono (B := B) (K := K) hP hT t ((j : Int) - (2 + K t)).toNat j (by omega) (by omega)
  rw [hG j hj]
  unfold gBw
  rw [g]
  constructor
  · rintro ⟨_, _, h3, h4⟩
    rw [hG _ (by omega)] at h4
    rw [if_pos ⟨by omega, h3⟩]
    exact h4
  · intro h
    by_cases d : 0 < T t - P t ∧ 2 + K t ≤ (j : Int)
    · rw [if_pos d] at h
      refine ⟨by omega, hj, d.2, ?_⟩
      rw [hG _ (by omega)]
      exact h
    · rw [if_neg d] at h
      omega
theorem bg_n {P B K T g : Nat → Int} {t m : Nat} (hP : ∀ j, j < 30 → -1 ≤ P j ∧ P j ≤ 999) (hB : ∀ j, j < 30 → -1 ≤ B j) (ht : t < 30) (c : ¬ (¬ P t = -1 ∧ B t = -1)) : gBw P B K T g t m = 0 := by
  have p := hP t ht
  have b := hB t ht
  have g0 : gnT P B T t = 0 := by unfold gnT; rw [if_pos (by omega)]
  unfold gBw
  rw [g0, if_neg (by omega)]
theorem bg_G {P B K T S0 G0 : Nat → Int} {mi : Int} (hP : ∀ j, j < 30 → -1 ≤ P j ∧ P j ≤ 999) (hB : ∀ j, j < 30 → -1 ≤ B j) (hK : ∀ j, j < 30 → 0 ≤ K j ∧ K j ≤ 5) (hT : ∀ j, j < 30 → 0 ≤ T j ∧ T j ≤ 1049) (h0 : ∀ j : Nat, (j : Int) ≤ mi → G0 j = 0) : ∀ t : Nat, t ≤ 30 → ∀ j : Nat, (j : Int) ≤ mi → (bgS P B K T mi S0 G0 t).2 j = gB P B K T t j
  | 0, _, j, hj => h0 j hj
  | t + 1, ht, j, hj => by
    have ih := bg_G (S0 := S0) hP hB hK hT h0 t (by omega)
    have n1 := gB_in (B := B) (K := K) hP hT t j (by omega)
    by_cases c : ¬ P t = -1 ∧ B t = -1
    · have cc := bg_c (j := j) hP hK hT (by omega) ih hj c
      rw [bgS, if_pos c]
      show adG (bgS P B K T mi S0 G0 t).2 (T t - P t) (2 + K t) mi (-1) j = _
      unfold adG
      rw [gB]
      have p := hP t (by omega)
      have k := hK t (by omega)
      by_cases d : gB P B K T t j < gBw P B K T (gB P B K T t) t j
      · have d2 := cc.mpr d
        rw [if_pos d2, if_pos d, ih _ (by omega)]
        unfold gBw at d ⊢
        have g : gnT P B T t = T t - P t := by unfold gnT; rw [if_neg (by omega)]
        rw [g] at d ⊢
        by_cases z : 0 < T t - P t ∧ 2 + K t ≤ (j : Int)
        · rw [if_pos z]
        · rw [if_neg z] at d
          omega
      · rw [if_neg (fun z => d (cc.mp z)), if_neg d, ih j hj]
    · rw [bgS, if_neg c, ih j hj, gB, bg_n hP hB (by omega) c, if_neg (by omega)]
theorem bg_S {P B K T S0 G0 : Nat → Int} {mi : Int} (hP : ∀ j, j < 30 → -1 ≤ P j ∧ P j ≤ 999) (hK : ∀ j, j < 30 → 0 ≤ K j ∧ K j ≤ 5) (h0 : ∀ j : Nat, (j : Int) ≤ mi → S0 j = 0) : ∀ t : Nat, t ≤ 30 → ∀ j : Nat, (j : Int) ≤ mi → 0 ≤ (bgS P B K T mi S0 G0 t).1 j ∧ (bgS P B K T mi S0 G0 t).1 j < ((2 ^ t : Nat) : Int)
  | 0, _, j, hj => by
    show 0 ≤ S0 j ∧ S0 j < _
    rw [h0 j hj]
    decide
  | t + 1, ht, j, hj => by
    have ih := bg_S (B := B) (T := T) (G0 := G0) hP hK h0 t (by omega)
    have k := hK t (by omega)
    have p2 := pw_s t
    have p1 := pw_p t
    unfold bgS
    split
    · show 0 ≤ adS (bgS P B K T mi S0 G0 t).1 (bgS P B K T mi S0 G0 t).2 (T t - P t) (2 + K t) mi (jshl 1 t) (-1) j ∧ adS (bgS P B K T mi S0 G0 t).1 (bgS P B K T mi S0 G0 t).2 (T t - P t) (2 + K t) mi (jshl 1 t) (-1) j < _
      unfold adS
      split
      · have q := ih ((j : Int) - (2 + K t)).toNat (by omega)
        have e := jor_sh (w := (bgS P B K T mi S0 G0 t).1 ((j : Int) - (2 + K t)).toNat) (t := (t : Int)) (by omega) (by omega) q.1 (by rw [Int.toNat_natCast]; exact q.2)
        rw [Int.toNat_natCast] at e
        rw [e]
        omega
      · have q := ih j hj
        omega
    · have q := ih j hj
      omega
theorem bg_st {P B K T S0 G0 : Nat → Int} {mi : Int} (hP : ∀ j, j < 30 → -1 ≤ P j ∧ P j ≤ 999) (hB : ∀ j, j < 30 → -1 ≤ B j) (hK : ∀ j, j < 30 → 0 ≤ K j ∧ K j ≤ 5) (hT : ∀ j, j < 30 → 0 ≤ T j ∧ T j ≤ 1049) (h0 : ∀ j : Nat, (j : Int) ≤ mi → G0 j = 0) (h1 : ∀ j : Nat, (j : Int) ≤ mi → S0 j = 0) (t j : Nat) (ht : t < 30) (hj : (j : Int) ≤ mi) : (gB P B K T (t + 1) j = gB P B K T t j ∧ (j : Int) ≤ mi ∧ (bgS P B K T mi S0 G0 (t + 1)).1 j = (bgS P B K T mi S0 G0 t).1 j) ∨ (¬ gB P B K T (t + 1) j = gB P B K T t j ∧ 0 ≤ 2 + K t ∧ 2 + K t ≤ (j : Int) ∧ ((((j : Int) - (2 + K t)).toNat : Nat) : Int) ≤ mi ∧ (bgS P B K T mi S0 G0 (t + 1)).1 j = (bgS P B K T mi S0 G0 t).1 ((j : Int) - (2 + K t)).toNat + ((2 ^ t : Nat) : Int)) := by
  have k := hK t ht
  have ih := bg_G (S0 := S0) hP hB hK hT h0 t (by omega)
  have n1 := gB_in (B := B) (K := K) hP hT t j (by omega)
  by_cases c : ¬ P t = -1 ∧ B t = -1
  · have cc := bg_c (j := j) hP hK hT (by omega) ih hj c
    have e1 : (bgS P B K T mi S0 G0 (t + 1)).1 j = adS (bgS P B K T mi S0 G0 t).1 (bgS P B K T mi S0 G0 t).2 (T t - P t) (2 + K t) mi (jshl 1 t) (-1) j := by rw [bgS, if_pos c]
    rw [e1]
    unfold adS
    by_cases d : gB P B K T t j < gBw P B K T (gB P B K T t) t j
    · have d2 := cc.mpr d
      right
      have q := bg_S (B := B) (T := T) (G0 := G0) hP hK h1 t (by omega) ((j : Int) - (2 + K t)).toNat (by omega)
      have e := jor_sh (w := (bgS P B K T mi S0 G0 t).1 ((j : Int) - (2 + K t)).toNat) (t := (t : Int)) (by omega) (by omega) q.1 (by rw [Int.toNat_natCast]; exact q.2)
      rw [Int.toNat_natCast] at e
      rw [if_pos d2, e, gB, if_pos d]
      exact ⟨by omega, by omega, d2.2.2.1, by omega, rfl⟩
    · left
      rw [if_neg (fun z => d (cc.mp z)), gB, if_neg d]
      exact ⟨rfl, hj, rfl⟩
  · left
    rw [gB, bg_n hP hB (by omega) c, if_neg (by omega), bgS, if_neg c]
    exact ⟨rfl, hj, rfl⟩
theorem shown_eq {P B K T S0 G0 : Nat → Int} {mi : Int} {t : Nat} (hP : ∀ j, j < 30 → -1 ≤ P j ∧ P j ≤ 999) (hB : ∀ j, j < 30 → -1 ≤ B j) (hK : ∀ j, j < 30 → 0 ≤ K j ∧ K j ≤ 5) (hT : ∀ j, j < 30 → 0 ≤ T j ∧ T j ≤ 1049) (h0 : ∀ j : Nat, (j : Int) ≤ mi → G0 j = 0) (h1 : ∀ j : Nat, (j : Int) ≤ mi → S0 j = 0) (ht : t ≤ 30) (hm : 0 ≤ mi) : (bkW (gB P B K T) (fun j => 2 + K j) t (0, mi)).1 = (bgS P B K T mi S0 G0 t).1 mi.toNat := by
  have p := Nat.pow_le_pow_right (n := 2) (by omega) ht
  have r := bk_sum (V := gB P B K T) (K := fun j => 2 + K j) (S := fun t j => (bgS P B K T mi S0 G0 t).1 j) (ok := fun _ j => (j : Int) ≤ mi) (fun j hj => h1 j hj) (fun t j ht hj => bg_st hP hB hK hT h0 h1 t j ht hj) t ht 0 0 mi hm (by omega) (by omega) (by omega)
  have r2 : (bkW (gB P B K T) (fun j => 2 + K j) t (0, mi)).1 = ((0 : Nat) : Int) + (bgS P B K T mi S0 G0 t).1 mi.toNat := r
  rw [r2]
  omega
/-- the longest -/
theorem lg_lh {y c g b len ln : Nat → Int} {n j : Nat} (h : ∀ a, a < n → mbx y c g b a j → len a = ln a) (h1 : ln j = 1) : ∀ m, m ≤ n → lhA y c g b ln j m = 1 + lgB y c g b len j m
  | 0, _ => by
    show ln j = 1 + 0
    omega
  | m + 1, hm => by
    have ih := lg_lh h h1 m (by omega)
    by_cases d : mbx y c g b m j
    · have e := h m (by omega) d
      rw [lgB, if_pos d, lhA, ih]
      by_cases z : lgB y c g b len j m < len m
      · rw [if_pos z, if_pos ⟨d, by omega⟩]
        omega
      · rw [if_neg z, if_neg (fun w => by have := w.2; omega)]
    · rw [lgB, if_neg d, lhA, if_neg (fun w => d w.1), ih]
def LQ (y : Nat → Int) (n : Nat) (k : Int) (i : Nat) (s t : (Nat → Int) × Int) : Prop := (∀ a, a < n → (y a < k ∨ (y a = k ∧ a < i)) → s.1 a = t.1 a) ∧ (∀ a, a < n → ¬ (y a < k ∨ (y a = k ∧ a < i)) → t.1 a = 1) ∧ s.2 = t.2
theorem lgI_q {y c g b : Nat → Int} {n : Nat} {k : Int} {s t : (Nat → Int) × Int} (h : LQ y n k 0 s t) : ∀ i, i ≤ n → LQ y n k i (lgI y c g b n k s i) (lhI y c g b n k t i)
  | 0, _ => h
  | i + 1, hi => by
    have ih := lgI_q (c := c) (g := g) (b := b) h i (by omega)
    obtain ⟨i1, i2, i3⟩ := ih
    by_cases d : y i = k
    · have e := lg_lh (c := c) (g := g) (b := b) (len := (lgI y c g b n k s i).1) (ln := (lhI y c g b n k t i).1) (j := i) (n := n) (fun a ha m => i1 a ha (Or.inl (by have q : y a < y i := m.1; omega))) (i2 i (by omega) (by omega)) n (Nat.le_refl _)
      rw [lgI, if_pos d, lhI, if_pos d, e, i3]
      refine ⟨fun a ha hq => ?_, fun a ha hq => ?_, rfl⟩
      · show us _ i _ a = us _ i _ a
        unfold us
        by_cases z : a = i
        · rw [if_pos z, if_pos z]
        · rw [if_neg z, if_neg z]
          exact i1 a ha (by omega)
      · show us _ i _ a = 1
        have z : a ≠ i := by
          intro z
          subst z
          omega
        rw [us_o z]
        exact i2 a ha (by omega)
    · rw [lgI, if_neg d, lhI, if_neg d]
      exact ⟨fun a ha hq => i1 a ha (by
        rcases hq with q | q
        · exact Or.inl q
        · by_cases z : a = i
          · subst z; omega
          · exact Or.inr ⟨q.1, by omega⟩), fun a ha hq => i2 a ha (by omega), i3⟩
theorem lgO_q {y c g b : Nat → Int} {n : Nat} {s t : (Nat → Int) × Int} (h : LQ y n 0 0 s t) : ∀ k : Nat, LQ y n k 0 (lgO y c g b n s k) (lhO y c g b n t k)
  | 0 => h
  | k + 1 => by
    have ih := lgI_q (c := c) (g := g) (b := b) (lgO_q (c := c) (g := g) (b := b) h k) n (Nat.le_refl _)
    obtain ⟨i1, i2, i3⟩ := ih
    exact ⟨fun a ha hq => i1 a ha (by omega), fun a ha hq => i2 a ha (by omega), i3⟩
theorem long_eq {y c g b f F : Nat → Int} {n : Nat} (hy : ∀ a, a < n → 0 ≤ y a) : (lhO y c g b n (puA (fun _ => 1) F n, 0) 100).2 = (lgO y c g b n (f, 0) 100).2 :=
  ((lgO_q (c := c) (g := g) (b := b) (s := (f, 0)) (t := (puA (fun _ => 1) F n, 0)) ⟨fun a ha hq => by have := hy a ha; omega, fun a ha _ => by show puA (fun _ => 1) F n a = 1; unfold puA; rw [if_pos ha], rfl⟩ 100).2.2).symm
/-- the fewest -/
def FQ (sm : Int) (rc : Int) (t : Nat) (S : Nat → Int) (V : Nat → Int) : Prop := (0 ≤ rc ∧ rc ≤ sm) ∧ ∀ j : Nat, (j : Int) ≤ sm → ((S j = -1 ∧ V j = 99) ∨ (((0 ≤ S j ∧ S j < ((2 ^ t : Nat) : Int)) ∧ V j = sz (S j)) ∧ (j : Int) ≤ rc))
theorem fq_0 {F B PD : Nat → Int} {sm : Int} (h : 0 ≤ sm) : FQ sm 0 0 (iniS F (sm + 1)) (fwV B PD 0) := by
  refine ⟨⟨Int.le_refl 0, h⟩, fun j hj => ?_⟩
  by_cases e : j = 0
  · right
    have e1 : iniS F (sm + 1) j = 0 := if_pos e
    have e2 : fwV B PD 0 j = 0 := if_pos e
    rw [e1, e2, e]
    exact ⟨by decide +kernel, by omega⟩
  · left
    have e1 : iniS F (sm + 1) j = -1 := by unfold iniS; rw [if_neg e, if_pos (by omega)]
    have e2 : fwV B PD 0 j = 99 := if_neg e
    exact ⟨e1, e2⟩
theorem fq_st {B PD S : Nat → Int} {sm rc : Int} {t : Nat} (ht : t < 30) (hB : -1 ≤ B t) (hp : ¬ B t = -1 → 0 ≤ PD t) (h : FQ sm rc t S (fwV B PD t)) :
    FQ sm (if B t = -1 then rc else rcN sm rc (PD t)) (t + 1) (if B t = -1 then S else pdS S t (PD t) (rcN sm rc (PD t)) (-1)) (fwV B PD (t + 1)) ∧ ∀ j : Nat, (j : Int) ≤ sm → ¬ fwV B PD (t + 1) j = 99 → ((fwV B PD (t + 1) j = fwV B PD t j ∧ ((j : Int) ≤ sm ∧ ¬ fwV B PD t j = 99) ∧ (if B t = -1 then S else pdS S t (PD t) (rcN sm rc (PD t)) (-1)) j = S j) ∨ (¬ fwV B PD (t + 1) j = fwV B PD t j ∧ 0 ≤ PD t ∧ PD t ≤ (j : Int) ∧ (((((j : Int) - PD t).toNat : Nat) : Int) ≤ sm ∧ ¬ fwV B PD t ((j : Int) - PD t).toNat = 99) ∧ (if B t = -1 then S else pdS S t (PD t) (rcN sm rc (PD t)) (-1)) j = S ((j : Int) - PD t).toNat + ((2 ^ t : Nat) : Int))) := by
  obtain ⟨r, h⟩ := h
  have p2 := pw_s t
  have p1 := pw_p t
  by_cases c : B t = -1
  · rw [if_pos c, if_pos c]
    have e : ∀ j, fwV B PD (t + 1) j = fwV B PD t j := fun j => by
      rw [fwV]
      exact if_neg (by unfold pdT; rw [if_pos (by omega)]; omega)
    refine ⟨⟨r, fun j hj => ?_⟩, fun j hj hn => ?_⟩
    · rw [e j]
      have q := h j hj
      omega
    · rw [e j] at hn ⊢
      exact Or.inl ⟨rfl, ⟨hj, hn⟩, rfl⟩
  · rw [if_neg c, if_neg c]
    have p := hp c
    have pe : pdT B PD t = PD t := by unfold pdT; rw [if_neg (by omega)]
    have rn : (0 ≤ rcN sm rc (PD t) ∧ rcN sm rc (PD t) ≤ sm) ∧ (rcN sm rc (PD t) = rc + PD t ∨ rcN sm rc (PD t) = sm) ∧ rc ≤ rcN sm rc (PD t) := by
      unfold rcN
      split <;> omega
    generalize rcN sm rc (PD t) = rc2 at rn ⊢
    -- each place
    have key : ∀ j : Nat, (j : Int) ≤ sm → ((fwV B PD (t + 1) j = fwV B PD t j ∧ pdS S t (PD t) rc2 (-1) j = S j) ∨ ((0 < PD t ∧ PD t ≤ (j : Int) ∧ (j : Int) ≤ rc2) ∧ ¬ fwV B PD (t + 1) j = fwV B PD t j ∧ ¬ fwV B PD t ((j : Int) - PD t).toNat = 99 ∧ (0 ≤ S ((j : Int) - PD t).toNat ∧ S ((j : Int) - PD t).toNat < ((2 ^ t : Nat) : Int)) ∧ pdS S t (PD t) rc2 (-1) j = S ((j : Int) - PD t).toNat + ((2 ^ t : Nat) : Int) ∧ fwV B PD (t + 1) j = sz (S ((j : Int) - PD t).toNat + ((2 ^ t : Nat) : Int)))) := by
      intro j hj
      have o := h j hj
      by_cases d : PD t ≤ (j : Int)
      · have w := h ((j : Int) - PD t).toNat (by omega)
        have ew : fwV B PD (t + 1) j = if 0 < PD t ∧ PD t ≤ (j : Int) ∧ fwV B PD t ((j : Int) - PD t).toNat + 1 < fwV B PD t j then fwV B PD t ((j : Int) - PD t).toNat + 1 else fwV B PD t j := by
          rw [fwV, pe]
        have so := sz_in (S j)
        have sw := sz_in (S ((j : Int) - PD t).toNat)
        have ei : j - (PD t).toNat = ((j : Int) - PD t).toNat := by omega
        by_cases q : 0 < PD t ∧ fwV B PD t ((j : Int) - PD t).toNat + 1 < fwV B PD t j
        · right
          have wn : ¬ fwV B PD t ((j : Int) - PD t).toNat = 99 := by
            have := (fwV_in (B := B) (PD := PD) t j).2
            omega
          have w2 : ((0 ≤ S ((j : Int) - PD t).toNat ∧ S ((j : Int) - PD t).toNat < ((2 ^ t : Nat) : Int)) ∧ fwV B PD t ((j : Int) - PD t).toNat = sz (S ((j : Int) - PD t).toNat)) ∧ ((((j : Int) - PD t).toNat : Nat) : Int) ≤ rc := by omega
          have e := jor_sh (w := S ((j : Int) - PD t).toNat) (t := (t : Int)) (by omega) (by omega) w2.1.1.1 (by rw [Int.toNat_natCast]; exact w2.1.1.2)
          rw [Int.toNat_natCast] at e
          have es := sz_add ht w2.1.1.1 w2.1.1.2
          rw [ew, if_pos ⟨q.1, d, q.2⟩]
          refine ⟨⟨q.1, d, by omega⟩, by omega, wn, w2.1.1, ?_, by omega⟩
          unfold pdS
          rw [if_pos ⟨d, by omega, by omega⟩, ei]
          unfold pdV
          rw [if_pos ⟨by omega, by omega⟩, e]
        · left
          rw [ew, if_neg (fun z => q ⟨z.1, z.2.2⟩)]
          refine ⟨rfl, ?_⟩
          unfold pdS
          split
          · rw [ei]
            unfold pdV
            rw [if_neg]
            intro z
            by_cases p0 : PD t = 0
            · rw [show ((j : Int) - PD t).toNat = j by omega] at z
              omega
            · omega
          · rfl
      · left
        refine ⟨?_, ?_⟩
        · rw [fwV, pe]
          exact if_neg (fun z => d z.2.1)
        · unfold pdS
          exact if_neg (fun z => d z.1)
    refine ⟨⟨rn.1, fun j hj => ?_⟩, fun j hj hn => ?_⟩
    · rcases key j hj with ⟨k1, k2⟩ | ⟨k0, k1, k2, k3, k4, k5⟩
      · rw [k1, k2]
        have q := h j hj
        omega
      · right
        rw [k4, k5]
        exact ⟨⟨by omega, rfl⟩, k0.2.2⟩
    · rcases key j hj with ⟨k1, k2⟩ | ⟨k0, k1, k2, k3, k4, k5⟩
      · left
        rw [k1] at hn ⊢
        exact ⟨rfl, ⟨hj, hn⟩, k2⟩
      · right
        exact ⟨k1, p, k0.2.1, ⟨by omega, k2⟩, k4⟩
theorem fpS_q {B PD F : Nat → Int} {sm : Int} (hs : 0 ≤ sm) (hB : ∀ t, t < 30 → -1 ≤ B t) (hp : ∀ t, t < 30 → ¬ B t = -1 → 0 ≤ PD t) : ∀ t, t ≤ 30 → FQ sm (fpS B PD sm (iniS F (sm + 1)) t).2 t (fpS B PD sm (iniS F (sm + 1)) t).1 (fwV B PD t)
  | 0, _ => fq_0 hs
  | t + 1, ht => by
    have q := (fq_st (by omega) (hB t (by omega)) (hp t (by omega)) (fpS_q (F := F) hs hB hp t (by omega))).1
    unfold fpS
    by_cases c : B t = -1
    · rw [if_pos c]
      rw [if_pos c, if_pos c] at q
      exact q
    · rw [if_neg c]
      rw [if_neg c, if_neg c] at q
      exact q
theorem fpS_1 {B PD S0 : Nat → Int} {sm : Int} {t : Nat} : (fpS B PD sm S0 (t + 1)).1 = if B t = -1 then (fpS B PD sm S0 t).1 else pdS (fpS B PD sm S0 t).1 t (PD t) (rcN sm (fpS B PD sm S0 t).2 (PD t)) (-1) := by
  by_cases c : B t = -1
  · rw [fpS, if_pos c, if_pos c]
  · rw [fpS, if_neg c, if_neg c]
theorem short_no {B PD F : Nat → Int} {sm : Int} {t : Nat} (hs : 0 ≤ sm) (hB : ∀ t, t < 30 → -1 ≤ B t) (hp : ∀ t, t < 30 → ¬ B t = -1 → 0 ≤ PD t) (ht : t ≤ 30) (h : fwV B PD t sm.toNat = 99) : -1 = (fpS B PD sm (iniS F (sm + 1)) t).1 sm.toNat := by
  have q := (fpS_q (F := F) hs hB hp t ht).2 sm.toNat (by omega)
  have s := sz_in ((fpS B PD sm (iniS F (sm + 1)) t).1 sm.toNat)
  omega
theorem short_eq {B PD F : Nat → Int} {sm : Int} {t : Nat} (hs : 0 ≤ sm) (hB : ∀ t, t < 30 → -1 ≤ B t) (hp : ∀ t, t < 30 → ¬ B t = -1 → 0 ≤ PD t) (ht : t ≤ 30) (h : ¬ fwV B PD t sm.toNat = 99) : (bkW (fwV B PD) PD t (0, sm)).1 = (fpS B PD sm (iniS F (sm + 1)) t).1 sm.toNat := by
  have p := Nat.pow_le_pow_right (n := 2) (by omega) ht
  have r := bk_sum (V := fwV B PD) (K := PD) (S := fun t j => (fpS B PD sm (iniS F (sm + 1)) t).1 j) (ok := fun t j => (j : Int) ≤ sm ∧ ¬ fwV B PD t j = 99) (fun j hj => by
    by_cases e : j = 0
    · exact if_pos e
    · exact absurd (if_neg e) hj.2) (fun t j ht hj => by
    have q := (fq_st (by omega) (hB t (by omega)) (hp t (by omega)) (fpS_q (F := F) hs hB hp t (by omega))).2 j hj.1 hj.2
    simp only [fpS_1]
    exact q) t ht 0 0 sm hs (by omega) (by omega) ⟨by omega, h⟩
  have r2 : (bkW (fwV B PD) PD t (0, sm)).1 = ((0 : Nat) : Int) + (fpS B PD sm (iniS F (sm + 1)) t).1 sm.toNat := r
  rw [r2]
  omega
