/-! the reference's longest row, laying, showing -/
def lhA (y c g b ln : Nat → Int) (j : Nat) : Nat → Int
  | 0 => ln j
  | n + 1 => if mbx y c g b n j ∧ lhA y c g b ln j n < ln n + 1 then ln n + 1 else lhA y c g b ln j n
theorem lhA_y {y c g b ln : Nat → Int} {j n : Nat} (h : mbe y c g b n j) (h2 : lhA y c g b ln j n < ln n + 1) : lhA y c g b ln j (n + 1) = ln n + 1 := by
  have h3 : mbx y c g b n j := h
  rw [lhA, if_pos ⟨h3, h2⟩]
theorem lhA_n {y c g b ln : Nat → Int} {j n : Nat} (h : ¬ (mbe y c g b n j ∧ lhA y c g b ln j n < ln n + 1)) : lhA y c g b ln j (n + 1) = lhA y c g b ln j n := by
  have h3 : ¬ (mbx y c g b n j ∧ lhA y c g b ln j n < ln n + 1) := h
  rw [lhA, if_neg h3]
theorem lhA_in {y c g b ln : Nat → Int} {j n : Nat} (hj : j < n) (h : ∀ a, a < n → 1 ≤ ln a ∧ ln a ≤ y a + 1) : ∀ m, m ≤ n → 1 ≤ lhA y c g b ln j m ∧ lhA y c g b ln j m ≤ y j + 1
  | 0, _ => h j hj
  | m + 1, hm => by
    have ih := lhA_in (c := c) (g := g) (b := b) hj h m (by omega)
    by_cases c1 : mbe y c g b m j ∧ lhA y c g b ln j m < ln m + 1
    · rw [lhA_y c1.1 c1.2]
      have q := h m (by omega)
      have q2 : y m < y j := c1.1.1
      omega
    · rw [lhA_n c1]
      exact ih
def lhI (y c g b : Nat → Int) (n : Nat) (yr : Int) (s : (Nat → Int) × Int) : Nat → (Nat → Int) × Int
  | 0 => s
  | i + 1 => if y i = yr then (us (lhI y c g b n yr s i).1 i (lhA y c g b (lhI y c g b n yr s i).1 i n), if (lhI y c g b n yr s i).2 < lhA y c g b (lhI y c g b n yr s i).1 i n then lhA y c g b (lhI y c g b n yr s i).1 i n else (lhI y c g b n yr s i).2) else lhI y c g b n yr s i
def lhO (y c g b : Nat → Int) (n : Nat) (s : (Nat → Int) × Int) : Nat → (Nat → Int) × Int
  | 0 => s
  | k + 1 => lhI y c g b n k (lhO y c g b n s k) n
def lhOK (y : Nat → Int) (n : Nat) (s : (Nat → Int) × Int) : Prop := (∀ a, a < n → 1 ≤ s.1 a ∧ s.1 a ≤ y a + 1) ∧ 0 ≤ s.2 ∧ s.2 ≤ 100
theorem lhI_ok {y c g b : Nat → Int} {n : Nat} {k : Int} {s : (Nat → Int) × Int} (hy : ∀ a, a < n → 0 ≤ y a ∧ y a ≤ 99) (h : lhOK y n s) : ∀ i, i ≤ n → lhOK y n (lhI y c g b n k s i)
  | 0, _ => h
  | i + 1, hi => by
    have ih := lhI_ok (c := c) (g := g) (b := b) (k := k) hy h i (by omega)
    unfold lhI
    by_cases c1 : y i = k
    · rw [if_pos c1]
      have w := lhA_in (c := c) (g := g) (b := b) (j := i) (n := n) (by omega) ih.1 n (Nat.le_refl _)
      have q := hy i (by omega)
      refine ⟨fun a ha => ?_, ?_⟩
      · show 1 ≤ us _ _ _ _ ∧ us _ _ _ _ ≤ _
        unfold us
        by_cases e : a = i
        · rw [if_pos e, e]; exact w
        · rw [if_neg e]; exact ih.1 a ha
      · simp only
        have := ih.2
        split <;> omega
    · rw [if_neg c1]
      exact ih
theorem lhO_ok {y c g b : Nat → Int} {n : Nat} {s : (Nat → Int) × Int} (hy : ∀ a, a < n → 0 ≤ y a ∧ y a ≤ 99) (h : lhOK y n s) : ∀ k : Nat, lhOK y n (lhO y c g b n s k)
  | 0 => h
  | k + 1 => lhI_ok hy (lhO_ok hy h k) n (Nat.le_refl _)
theorem lh_0 {y F : Nat → Int} {n : Nat} (hy : ∀ a, a < n → 0 ≤ y a ∧ y a ≤ 99) : lhOK y n (puA (fun _ => 1) F n, 0) := ⟨fun a ha => by
  have := hy a ha
  have e : puA (fun _ => 1) F n a = 1 := if_pos ha
  simp only [e]
  omega, Int.le_refl 0, by show (0 : Int) ≤ 100; decide⟩
/-- laying -/
def cmN (may : Nat → Int) (z : Int) (f : Nat) : Nat → Int
  | 0 => 0
  | k + 1 => cmN may z f k + (if 0 ≤ may (f + k) ∧ jand (may (f + k)) (jxor z (-1)) = 0 then 1 else 0)
theorem cmN_in (may : Nat → Int) (z : Int) (f : Nat) : ∀ n : Nat, 0 ≤ cmN may z f n ∧ cmN may z f n ≤ n
  | 0 => by simp [cmN]
  | n + 1 => by
    have ih := cmN_in may z f n
    unfold cmN
    split <;> omega
abbrev cLm (sp may : Nat → Int) (f n : Nat) : Prop := ∀ z : Nat, z < 32 → cmN may z f (n - f) ≤ spN sp z 5
def maS (th pe se m0 : Nat → Int) : Nat → Nat → Int
  | 0 => m0
  | k + 1 => us (maS th pe se m0 k) (th k).toNat (jand (if maS th pe se m0 k (th k).toNat < 0 then 31 else maS th pe se m0 k (th k).toNat) (jxor (se (pe k).toNat) (-1)))
def frR (sp may : Nat → Int) (t n : Nat) : Nat → Nat → Int × (Nat → Int)
  | 0, _ => (-1, sp)
  | k + 1, tb => if hb (may t) tb ∧ ¬ sp tb = 0 ∧ cLm (us sp tb (sp tb - 1)) may (t + 1) n then ((tb : Int), us sp tb (sp tb - 1)) else frR sp may t n k (tb + 1)
theorem frR_y {sp may : Nat → Int} {t n k tb : Nat} (c : hb (may t) tb ∧ ¬ sp tb = 0 ∧ cLm (us sp tb (sp tb - 1)) may (t + 1) n) : frR sp may t n (k + 1) tb = ((tb : Int), us sp tb (sp tb - 1)) := by rw [frR, if_pos c]
theorem frR_n {sp may : Nat → Int} {t n k tb : Nat} (c : ¬ (hb (may t) tb ∧ ¬ sp tb = 0 ∧ cLm (us sp tb (sp tb - 1)) may (t + 1) n)) : frR sp may t n (k + 1) tb = frR sp may t n k (tb + 1) := by rw [frR, if_neg c]
theorem frR_rng {sp may : Nat → Int} {t n : Nat} (hs : ∀ j : Nat, j < 5 → 0 ≤ sp j ∧ sp j ≤ 10) : ∀ k tb, k + tb = 5 → (∀ j : Nat, j < 5 → 0 ≤ (frR sp may t n k tb).2 j ∧ (frR sp may t n k tb).2 j ≤ 10) ∧ -1 ≤ (frR sp may t n k tb).1 ∧ (frR sp may t n k tb).1 ≤ 4
  | 0, tb, _ => ⟨hs, by show -1 ≤ (-1 : Int) ∧ (-1 : Int) ≤ 4; omega⟩
  | k + 1, tb, e => by
    by_cases c : hb (may t) tb ∧ ¬ sp tb = 0 ∧ cLm (us sp tb (sp tb - 1)) may (t + 1) n
    · rw [frR_y c]
      have := hs tb (by omega)
      exact ⟨us_rng hs (by omega), by show -1 ≤ (tb : Int) ∧ (tb : Int) ≤ 4; omega⟩
    · rw [frR_n c]
      exact frR_rng hs k (tb + 1) (by omega)
def laR (may : Nat → Int) (n : Nat) (sp0 : Nat → Int) : Nat → Nat → Int
  | 0 => sp0
  | t + 1 => if may t < 0 then laR may n sp0 t else (frR (laR may n sp0 t) may t n 5 0).2
theorem laR_in {may sp0 : Nat → Int} {n : Nat} (hs : ∀ j : Nat, j < 5 → 0 ≤ sp0 j ∧ sp0 j ≤ 10) : ∀ t, ∀ j : Nat, j < 5 → 0 ≤ laR may n sp0 t j ∧ laR may n sp0 t j ≤ 10
  | 0 => hs
  | t + 1 => by
    unfold laR
    split
    · exact laR_in hs t
    · exact (frR_rng (laR_in hs t) 5 0 rfl).1
/-- on the way through the tables -/
def LZ (sp may : Nat → Int) (t n : Nat) (k fo : Int) (G : Nat → Int) : Prop := (fo = -1 ∧ G = sp ∧ frR sp may t n 5 0 = frR sp may t n (5 - k.toNat) k.toNat) ∨ (0 ≤ fo ∧ frR sp may t n 5 0 = (fo, G))
theorem lz_0 {sp may : Nat → Int} {t n : Nat} : LZ sp may t n 0 (-1) sp := Or.inl ⟨rfl, rfl, rfl⟩
theorem lz_G {sp may : Nat → Int} {t n : Nat} {k fo : Int} {G : Nat → Int} (h : LZ sp may t n k fo G) (hf : fo < 0) : G = sp ∧ fo = -1 := by
  rcases h with h | h
  · exact ⟨h.2.1, h.1⟩
  · omega
theorem lz_n {sp may : Nat → Int} {t n : Nat} {k fo : Int} {G : Nat → Int} (h : LZ sp may t n k fo G) (hf : fo < 0) (h0 : 0 ≤ k) (hk : k < 5) (c : ¬ (hb (may t) k ∧ ¬ G k.toNat = 0 ∧ cLm (us G k.toNat (G k.toNat - 1)) may (t + 1) n)) : LZ sp may t n (k + 1) fo G := by
  rcases h with ⟨h1, h2, h3⟩ | h
  · refine Or.inl ⟨h1, h2, ?_⟩
    subst h2
    rw [h3, tn1 h0, show 5 - k.toNat = (5 - (k.toNat + 1)) + 1 by omega]
    refine frR_n (fun z => c ?_)
    rw [show ((k.toNat : Nat) : Int) = k by omega] at z
    exact z
  · omega
theorem lz_y {sp may : Nat → Int} {t n : Nat} {k fo : Int} {G : Nat → Int} (h : LZ sp may t n k fo G) (hf : fo < 0) (h0 : 0 ≤ k) (hk : k < 5) (c : hb (may t) k ∧ ¬ G k.toNat = 0 ∧ cLm (us G k.toNat (G k.toNat - 1)) may (t + 1) n) : LZ sp may t n (k + 1) k (us G k.toNat (G k.toNat - 1)) := by
  rcases h with ⟨h1, h2, h3⟩ | h
  · refine Or.inr ⟨h0, ?_⟩
    subst h2
    rw [h3, show 5 - k.toNat = (5 - (k.toNat + 1)) + 1 by omega]
    rw [frR_y (by rw [show ((k.toNat : Nat) : Int) = k by omega]; exact c), show ((k.toNat : Nat) : Int) = k by omega]
  · omega
theorem lz_e {sp may : Nat → Int} {t n : Nat} {k fo : Int} {G : Nat → Int} (h : LZ sp may t n k fo G) (hk : 5 ≤ k ∨ 0 ≤ fo) : frR sp may t n 5 0 = (fo, G) := by
  rcases h with ⟨h1, h2, h3⟩ | h
  · rw [h3, show 5 - k.toNat = 0 by omega, h1, h2]
    rfl
  · exact h.2
/-- rows of rows: places by 201 -/
def bwF (F : Nat → Int) (V : Nat → Nat → Int) (mi T K : Nat) : Nat → Int := fun j => if j % 201 ≤ mi ∧ (j / 201 < T ∨ (j / 201 = T ∧ j % 201 < K)) then V (j / 201) (j % 201) else F j
theorem bwF_0 {F : Nat → Int} {V : Nat → Nat → Int} {mi : Nat} : bwF F V mi 0 0 = F := by
  funext j
  unfold bwF
  rw [if_neg (by omega)]
theorem bwF_s {F : Nat → Int} {V : Nat → Nat → Int} {mi T K : Nat} (h : K ≤ mi) (h2 : mi ≤ 200) : us (bwF F V mi T K) (201 * T + K) (V T K) = bwF F V mi T (K + 1) := by
  funext j
  unfold us bwF
  by_cases e : j = 201 * T + K
  · subst e
    rw [if_pos rfl, show (201 * T + K) / 201 = T by omega, show (201 * T + K) % 201 = K by omega, if_pos (by omega)]
  · rw [if_neg e]
    by_cases c : j % 201 ≤ mi ∧ (j / 201 < T ∨ (j / 201 = T ∧ j % 201 < K))
    · rw [if_pos c, if_pos (by omega)]
    · rw [if_neg c, if_neg (by omega)]
theorem bwF_r {F : Nat → Int} {V : Nat → Nat → Int} {mi T : Nat} : bwF F V mi T (mi + 1) = bwF F V mi (T + 1) 0 := by
  funext j
  unfold bwF
  by_cases c : j % 201 ≤ mi ∧ (j / 201 < T ∨ (j / 201 = T ∧ j % 201 < mi + 1))
  · rw [if_pos c, if_pos (by omega)]
  · rw [if_neg c, if_neg (by omega)]
theorem bwF_at {F : Nat → Int} {V : Nat → Nat → Int} {mi T K t m : Nat} (h : m ≤ mi) (h2 : mi ≤ 200) (h3 : t < T ∨ (t = T ∧ m < K)) : bwF F V mi T K (201 * t + m) = V t m := by
  unfold bwF
  rw [show (201 * t + m) / 201 = t by omega, show (201 * t + m) % 201 = m by omega, if_pos ⟨h, h3⟩]
/-- what is gained at best -/
def gnT (P B T : Nat → Int) (t : Nat) : Int := if P t < 0 ∨ 0 ≤ B t then 0 else T t - P t
def gBw (P B K T : Nat → Int) (g : Nat → Int) (t m : Nat) : Int := if 0 < gnT P B T t ∧ 2 + K t ≤ (m : Int) then g ((m : Int) - (2 + K t)).toNat + gnT P B T t else 0
def gB (P B K T : Nat → Int) : Nat → Nat → Int
  | 0, _ => 0
  | t + 1, m => if gB P B K T t m < gBw P B K T (gB P B K T t) t m then gBw P B K T (gB P B K T t) t m else gB P B K T t m
theorem gB_in {P B K T : Nat → Int} (hP : ∀ j, j < 30 → -1 ≤ P j ∧ P j ≤ 999) (hT : ∀ j, j < 30 → 0 ≤ T j ∧ T j ≤ 1049) : ∀ t m : Nat, t ≤ 30 → 0 ≤ gB P B K T t m ∧ gB P B K T t m ≤ 1049 * t
  | 0, m, _ => by show (0 : Int) ≤ 0 ∧ (0 : Int) ≤ _; omega
  | t + 1, m, ht => by
    have ih := gB_in (B := B) (K := K) hP hT t m (by omega)
    have ih2 := gB_in (B := B) (K := K) hP hT t ((m : Int) - (2 + K t)).toNat (by omega)
    have a := hP t (by omega)
    have c := hT t (by omega)
    unfold gB gBw gnT
    (repeat' split) <;> omega
/-- the way back: which things -/
def bkW (V : Nat → Nat → Int) (K : Nat → Int) : Nat → Int × Int → Int × Int
  | 0, s => s
  | t + 1, s => if V (t + 1) s.2.toNat = V t s.2.toNat then bkW V K t s else bkW V K t (jor s.1 (jshl 1 t), s.2 - K t)
theorem bk_y {V : Nat → Nat → Int} {K : Nat → Int} {t : Nat} {s : Int × Int} (h : V (t + 1) s.2.toNat = V t s.2.toNat) : bkW V K (t + 1) s = bkW V K t s := by rw [bkW, if_pos h]
theorem bk_n {V : Nat → Nat → Int} {K : Nat → Int} {t : Nat} {s : Int × Int} (h : ¬ V (t + 1) s.2.toNat = V t s.2.toNat) : bkW V K (t + 1) s = bkW V K t (jor s.1 (jshl 1 t), s.2 - K t) := by rw [bkW, if_neg h]
theorem gB_eq {P B K T : Nat → Int} {t m : Nat} (h : ¬ gB P B K T (t + 1) m = gB P B K T t m) (h0 : 0 ≤ gB P B K T t m) : 2 + K t ≤ (m : Int) := by
  by_cases c : 2 + K t ≤ (m : Int)
  · exact c
  · exfalso
    apply h
    have e : gBw P B K T (gB P B K T t) t m = 0 := if_neg (fun z => c z.2)
    rw [gB, e, if_neg (by omega)]
theorem ut_s {u t : Int} {Q : Prop} (h : u ≤ t ∨ Q) (hq : u = t → Q) : u + 1 ≤ t ∨ Q := by
  rcases h with h | h
  · by_cases e : u = t
    · exact Or.inr (hq e)
    · exact Or.inl (by omega)
  · exact Or.inr h
theorem bwF_s0 {F : Nat → Int} {V : Nat → Nat → Int} {mi K : Nat} (h : K ≤ mi) (h2 : mi ≤ 200) : us (bwF F V mi 0 K) K (V 0 K) = bwF F V mi 0 (K + 1) := by
  have e := bwF_s (F := F) (V := V) (T := 0) h h2
  rw [show 201 * 0 + K = K by omega] at e
  exact e
theorem gBw_y {P B K T g : Nat → Int} {t : Nat} {gn tk m : Int} (h1 : gn = gnT P B T t) (h2 : tk = 2 + K t) (hm : 0 ≤ m) (c : 0 < gn ∧ tk ≤ m) : g (m - tk).toNat + gn = gBw P B K T g t m.toNat := by
  subst h1 h2
  unfold gBw
  rw [show ((m.toNat : Nat) : Int) = m by omega, if_pos c]
theorem gBw_n {P B K T g : Nat → Int} {t : Nat} {gn tk m : Int} (h1 : gn = gnT P B T t) (h2 : tk = 2 + K t) (hm : 0 ≤ m) (c : ¬ (0 < gn ∧ tk ≤ m)) : (0 : Int) = gBw P B K T g t m.toNat := by
  subst h1 h2
  unfold gBw
  rw [show ((m.toNat : Nat) : Int) = m by omega, if_neg c]
theorem gB_y {P B K T : Nat → Int} {t m : Nat} {w o : Int} (hw : w = gBw P B K T (gB P B K T t) t m) (ho : o = gB P B K T t m) (c : o < w) : gB P B K T (t + 1) m = w := by
  subst hw ho
  rw [gB, if_pos c]
theorem gB_n {P B K T : Nat → Int} {t m : Nat} {w o : Int} (hw : w = gBw P B K T (gB P B K T t) t m) (ho : o = gB P B K T t m) (c : ¬ o < w) : gB P B K T (t + 1) m = o := by
  subst hw ho
  rw [gB, if_neg c]
