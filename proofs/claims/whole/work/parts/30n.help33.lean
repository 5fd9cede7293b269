/-! laying: both sides -/
theorem mask_b : ∀ b x y : Bool, ((b && (x ^^ true)) && (y ^^ true)) = (b && ((x || y) ^^ true)) := by decide
theorem mask_or (w s : Int) : jand (jand 31 (jxor w (-1))) (jxor s (-1)) = jand 31 (jxor (jor w s) (-1)) := by
  unfold jand jxor jor
  rw [Int32.ofInt_toInt, Int32.ofInt_toInt, Int32.ofInt_toInt, Int32.ofInt_toInt, Int32.ofInt_toInt]
  have e : (Int32.ofInt 31 &&& (Int32.ofInt w ^^^ Int32.ofInt (-1))) &&& (Int32.ofInt s ^^^ Int32.ofInt (-1)) = Int32.ofInt 31 &&& ((Int32.ofInt w ||| Int32.ofInt s) ^^^ Int32.ofInt (-1)) := by
    apply Int32.toBitVec_inj.mp
    rw [Int32.toBitVec_and, Int32.toBitVec_and, Int32.toBitVec_and, Int32.toBitVec_xor, Int32.toBitVec_xor, Int32.toBitVec_xor, Int32.toBitVec_or]
    have e1 : (Int32.ofInt (-1)).toBitVec = BitVec.allOnes 32 := by decide
    rw [e1]
    generalize (Int32.ofInt 31).toBitVec = b
    generalize (Int32.ofInt w).toBitVec = x
    generalize (Int32.ofInt s).toBitVec = y
    apply BitVec.eq_of_getLsbD_eq
    intro i hi
    rw [BitVec.getLsbD_and, BitVec.getLsbD_and, BitVec.getLsbD_and, BitVec.getLsbD_xor, BitVec.getLsbD_xor, BitVec.getLsbD_xor, BitVec.getLsbD_or, BitVec.getLsbD_allOnes, decide_eq_true hi]
    exact mask_b _ _ _
  rw [e]
theorem jand31 (x : Int) : 0 ≤ jand 31 x ∧ jand 31 x ≤ 31 := by
  unfold jand
  have e : (Int32.ofInt 31 &&& Int32.ofInt x).toBitVec.toNat ≤ 31 := by
    rw [Int32.toBitVec_and, BitVec.toNat_and]
    exact Nat.and_le_left
  rw [i32_nat (by omega)]
  omega
theorem mask_0 (s : Int) : jand 31 (jxor s (-1)) = jand 31 (jxor (jor 0 s) (-1)) := by
  rw [← mask_or]
  have e : jand 31 (jxor 0 (-1)) = 31 := by decide
  rw [e]
theorem ma_at {th pe se m0 : Nat → Int} {t N : Nat} (h0 : m0 t = -1) (hth : ∀ i, i < N → 0 ≤ th i) : ∀ n, n ≤ N → (fdN th t n = 0 ∧ watN th pe se t n = 0 ∧ maS th pe se m0 n t = -1) ∨ (0 < fdN th t n ∧ maS th pe se m0 n t = jand 31 (jxor (watN th pe se t n) (-1)))
  | 0, _ => Or.inl ⟨rfl, rfl, h0⟩
  | k + 1, hk => by
    have ih := ma_at (pe := pe) (se := se) h0 hth k (by omega)
    have hq := hth k (by omega)
    have em : maS th pe se m0 (k + 1) t = us (maS th pe se m0 k) (th k).toNat (jand (if maS th pe se m0 k (th k).toNat < 0 then 31 else maS th pe se m0 k (th k).toNat) (jxor (se (pe k).toNat) (-1))) t := rfl
    by_cases c : th k = t
    · right
      have e1 : fdN th t (k + 1) = fdN th t k + 1 := by rw [fdN, if_pos c]
      have e2 : watN th pe se t (k + 1) = jor (watN th pe se t k) (se (pe k).toNat) := by rw [watN, if_pos c]
      have e3 : (th k).toNat = t := by omega
      rw [e1, e2, em, e3, us_k]
      rcases ih with ⟨i1, i2, i3⟩ | ⟨i1, i3⟩
      · rw [i3, i2, if_pos (by decide)]
        exact ⟨by omega, mask_0 _⟩
      · have j := jand31 (jxor (watN th pe se t k) (-1))
        rw [i3, if_neg (by omega)]
        exact ⟨by omega, mask_or _ _⟩
    · have e1 : fdN th t (k + 1) = fdN th t k := by rw [fdN, if_neg c]
      have e2 : watN th pe se t (k + 1) = watN th pe se t k := by rw [watN, if_neg c]
      rw [e1, e2, em, us_o (by omega)]
      exact ih
/-- how many things below t have secrets -/
def hpC (th : Nat → Int) (n : Nat) : Nat → Nat
  | 0 => 0
  | t + 1 => if 0 < fdN th t n then hpC th n t + 1 else hpC th n t
theorem hpC_y {th : Nat → Int} {n t : Nat} (h : 0 < fdN th t n) : hpC th n (t + 1) = hpC th n t + 1 := by rw [hpC, if_pos h]
theorem hpC_n {th : Nat → Int} {n t : Nat} (h : ¬ 0 < fdN th t n) : hpC th n (t + 1) = hpC th n t := by rw [hpC, if_neg h]
theorem hpC_st {th : Nat → Int} {n : Nat} : ∀ t : Nat, hpC th (n + 1) t ≤ hpC th n t + (if 0 ≤ th n ∧ th n < t then 1 else 0)
  | 0 => by show 0 ≤ _; omega
  | t + 1 => by
    have ih := hpC_st (th := th) (n := n) t
    have e : fdN th t (n + 1) = if th n = t then fdN th t n + 1 else fdN th t n := rfl
    have g := (fdN_in th t n).1
    unfold hpC
    rw [e]
    by_cases c : th n = t
    · rw [if_pos c, if_pos (by omega), if_pos (by omega : 0 ≤ th n ∧ th n < ((t + 1 : Nat) : Int))]
      rw [if_neg (by omega)] at ih
      split <;> omega
    · rw [if_neg c]
      by_cases d : 0 ≤ th n ∧ th n < (t : Int)
      · rw [if_pos (by omega : 0 ≤ th n ∧ th n < ((t + 1 : Nat) : Int))]
        rw [if_pos d] at ih
        split <;> omega
      · rw [if_neg (by omega : ¬ (0 ≤ th n ∧ th n < ((t + 1 : Nat) : Int)))]
        rw [if_neg d] at ih
        split <;> omega
theorem hpC_le {th : Nat → Int} {t : Nat} : ∀ n, hpC th n t ≤ n
  | 0 => by
    have : ∀ t, hpC th 0 t = 0 := fun t => by
      induction t with
      | zero => rfl
      | succ t ih => rw [hpC_n (by show ¬ (0 : Int) < 0; omega), ih]
    rw [this]
    omega
  | n + 1 => by
    have a := hpC_st (th := th) (n := n) t
    have b := hpC_le (th := th) (t := t) n
    have : (if 0 ≤ th n ∧ th n < (t : Int) then 1 else 0) ≤ 1 := by split <;> omega
    omega
theorem hpC_mono {th : Nat → Int} {n t : Nat} : ∀ k, hpC th n t ≤ hpC th n (t + k)
  | 0 => Nat.le_refl _
  | k + 1 => by
    have ih := hpC_mono (th := th) (n := n) (t := t) k
    have : hpC th n (t + k) ≤ hpC th n (t + k + 1) := by
      by_cases c : 0 < fdN th ((t + k : Nat) : Int) n
      · rw [hpC_y c]; omega
      · rw [hpC_n c]; omega
    show _ ≤ hpC th n (t + k + 1)
    omega
theorem hpC_lt {th : Nat → Int} {n t t' : Nat} (h : t < t') (c : 0 < fdN th t n) : hpC th n t < hpC th n t' := by
  have a := hpC_mono (th := th) (n := n) (t := t + 1) (t' - (t + 1))
  rw [hpC_y c, show t + 1 + (t' - (t + 1)) = t' by omega] at a
  omega
theorem hd_c {th pe se h0 s0 : Nat → Int} {n : Nat} (hn : n ≤ 10) : ∀ t, (hdS th pe se n h0 s0 t).2.2 = hpC th n t
  | 0 => rfl
  | t + 1 => by
    have ih := hd_c (pe := pe) (se := se) (h0 := h0) (s0 := s0) (th := th) hn t
    by_cases c : 0 < fdN th t n
    · have l := hpC_le (th := th) (t := t + 1) n
      rw [hpC_y c] at l
      rw [hdS, if_pos ⟨c, by omega⟩, hpC_y c]
      show (hdS th pe se n h0 s0 t).2.2 + 1 = _
      omega
    · rw [hdS, if_neg (fun z => c z.1), hpC_n c, ih]
theorem hd_at {th pe se h0 s0 : Nat → Int} {n : Nat} (hn : n ≤ 10) : ∀ t, (∀ t', t' < t → 0 < fdN th (t' : Nat) n → (hdS th pe se n h0 s0 t).1 (hpC th n t') = t' ∧ (hdS th pe se n h0 s0 t).2.1 (hpC th n t') = jand 31 (jxor (watN th pe se t' n) (-1))) ∧ ∀ h, h < hpC th n t → ∃ t', t' < t ∧ 0 < fdN th (t' : Nat) n ∧ hpC th n t' = h ∧ (hdS th pe se n h0 s0 t).1 h = t'
  | 0 => ⟨fun t' h => absurd h (by omega), fun h hh => absurd hh (by show ¬ h < 0; omega)⟩
  | t + 1 => by
    have ih := hd_at (pe := pe) (se := se) (h0 := h0) (s0 := s0) (th := th) hn t
    have hc := hd_c (pe := pe) (se := se) (h0 := h0) (s0 := s0) (th := th) hn t
    by_cases c : 0 < fdN th t n
    · have l := hpC_le (th := th) (t := t + 1) n
      rw [hpC_y c] at l
      rw [hdS, if_pos ⟨c, by omega⟩, hpC_y c]
      have ec : (hdS th pe se n h0 s0 t).2.2.toNat = hpC th n t := by omega
      rw [ec]
      refine ⟨fun t' h f => ?_, fun h hh => ?_⟩
      · show us _ (hpC th n t) (t : Int) (hpC th n t') = t' ∧ us _ (hpC th n t) _ (hpC th n t') = _
        by_cases z : t' = t
        · subst z
          rw [us_k, us_k]
          exact ⟨rfl, rfl⟩
        · have lt := hpC_lt (show t' < t by omega) f
          rw [us_o (by omega), us_o (by omega)]
          exact ih.1 t' (by omega) f
      · by_cases z : h = hpC th n t
        · refine ⟨t, by omega, c, z.symm, ?_⟩
          show us _ (hpC th n t) (t : Int) h = t
          rw [z, us_k]
        · obtain ⟨t', a1, a2, a3, a4⟩ := ih.2 h (by omega)
          refine ⟨t', by omega, a2, a3, ?_⟩
          show us _ (hpC th n t) (t : Int) h = t'
          rw [us_o z]
          exact a4
    · rw [hdS, if_neg (fun z => c z.1), hpC_n c]
      refine ⟨fun t' h f => ?_, fun h hh => ?_⟩
      · exact ih.1 t' (by
          by_cases z : t' = t
          · subst z; exact absurd f c
          · omega) f
      · obtain ⟨t', a1, a2, a3, a4⟩ := ih.2 h hh
        exact ⟨t', by omega, a2, a3, a4⟩
/-- what holds of both sides' lists -/
def LD (th may S H : Nat → Int) (n tc hc : Nat) : Prop := hpC th n tc = hc ∧ (∀ t, t < tc → ¬ 0 < fdN th (t : Nat) n → may t = -1) ∧ (∀ t, t < tc → 0 < fdN th (t : Nat) n → 0 ≤ may t ∧ S (hpC th n t) = may t ∧ H (hpC th n t) = t) ∧ ∀ h, h < hc → ∃ t, t < tc ∧ 0 < fdN th (t : Nat) n ∧ hpC th n t = h
theorem fd_hi {th : Nat → Int} {t tc : Nat} (ht : tc ≤ t) : ∀ n, (∀ i, i < n → th i < tc) → fdN th t n = 0
  | 0, _ => rfl
  | n + 1, h => by
    rw [fdN, if_neg (by have := h n (by omega); omega)]
    exact fd_hi ht n (fun i hi => h i (by omega))
theorem ld_mk {th pe se h0 s0 m0 : Nat → Int} {n tc : Nat} (hn : n ≤ 10) (htc : tc ≤ 30) (hth : ∀ i, i < n → 0 ≤ th i ∧ th i < tc) (hm : ∀ j, j < tc → m0 j = -1) : LD th (maS th pe se m0 n) (hdS th pe se n h0 s0 30).2.1 (hdS th pe se n h0 s0 30).1 n tc (hdS th pe se n h0 s0 30).2.2.toNat := by
  have a := hd_at (pe := pe) (se := se) (h0 := h0) (s0 := s0) (th := th) hn 30
  have c := hd_c (pe := pe) (se := se) (h0 := h0) (s0 := s0) (th := th) hn 30
  have up : ∀ k, hpC th n (tc + k) = hpC th n tc := fun k => by
    induction k with
    | zero => rfl
    | succ k ih =>
      show hpC th n (tc + k + 1) = _
      rw [hpC_n (by rw [fd_hi (by omega) n (fun i hi => (hth i hi).2)]; omega), ih]
  have u := up (30 - tc)
  rw [show tc + (30 - tc) = 30 by omega] at u
  have ma : ∀ t, t < tc → _ := fun t ht => ma_at (pe := pe) (se := se) (hm t ht) (fun i hi => (hth i hi).1) n (Nat.le_refl n)
  refine ⟨by omega, fun t ht f => ?_, fun t ht f => ?_, fun h hh => ?_⟩
  · rcases ma t ht with q | q
    · exact q.2.2
    · exact absurd q.1 f
  · rcases ma t ht with q | q
    · omega
    · have r := a.1 t (by omega) f
      rw [q.2]
      exact ⟨(jand31 _).1, r.2, r.1⟩
  · obtain ⟨t, b1, b2, b3, _⟩ := a.2 h (by omega)
    refine ⟨t, ?_, b2, b3⟩
    by_cases z : t < tc
    · exact z
    · rw [fd_hi (by omega) n (fun i hi => (hth i hi).2)] at b2
      omega
theorem co_cm {th may S H : Nat → Int} {n tc hc f : Nat} {z : Int} (h : LD th may S H n tc hc) : ∀ k, f + k ≤ tc → cmN may z f k = coN S z (hpC th n f) (hpC th n (f + k) - hpC th n f)
  | 0, _ => by
    show (0 : Int) = coN S z (hpC th n f) (hpC th n f - hpC th n f)
    rw [Nat.sub_self]
    rfl
  | k + 1, hk => by
    have ih := co_cm (z := z) (f := f) h k (by omega)
    have m := hpC_mono (th := th) (n := n) (t := f) k
    show cmN may z f k + _ = coN S z (hpC th n f) (hpC th n (f + k + 1) - hpC th n f)
    by_cases c : 0 < fdN th ((f + k : Nat) : Int) n
    · have q := h.2.2.1 (f + k) (by omega) c
      rw [hpC_y c, show hpC th n (f + k) + 1 - hpC th n f = (hpC th n (f + k) - hpC th n f) + 1 by omega, coN, ← ih, show hpC th n f + (hpC th n (f + k) - hpC th n f) = hpC th n (f + k) by omega, q.2.1]
      by_cases d : jand (may (f + k)) (jxor z (-1)) = 0
      · rw [if_pos ⟨q.1, d⟩, if_pos d]
      · rw [if_neg (fun w => d w.2), if_neg d]
    · have q := h.2.1 (f + k) (by omega) c
      rw [hpC_n c, ← ih, if_neg (by omega)]
      omega
theorem sp_cg {sp sp' : Nat → Int} {z : Int} (h : ∀ j, j < 5 → sp' j = sp j) : ∀ k, k ≤ 5 → spN sp' z k = spN sp z k
  | 0, _ => rfl
  | k + 1, hk => by rw [spN, spN, sp_cg h k (by omega), h k (by omega)]
theorem cl_eq {th may S H : Nat → Int} {n tc hc f : Nat} {sp sp' : Nat → Int} (h : LD th may S H n tc hc) (hf : f ≤ tc) (hs : ∀ j, j < 5 → sp' j = sp j) : cLm sp' may f tc ↔ cLie sp S (hpC th n f) hc := by
  have e : ∀ z : Int, cmN may z f (tc - f) = coN S z (hpC th n f) (hc - hpC th n f) := fun z => by
    have q := co_cm (z := z) (f := f) h (tc - f) (by omega)
    rw [show f + (tc - f) = tc by omega, h.1] at q
    exact q
  constructor
  · intro c z hz
    have q := c z hz
    rw [e, sp_cg hs 5 (Nat.le_refl _)] at q
    exact q
  · intro c z hz
    rw [e, sp_cg hs 5 (Nat.le_refl _)]
    exact c z hz
theorem us_cg {sp sp' : Nat → Int} (hs : ∀ j, j < 5 → sp' j = sp j) {t : Nat} (ht : t < 5) : ∀ j, j < 5 → us sp' t (sp' t - 1) j = us sp t (sp t - 1) j := fun j hj => by
  unfold us
  split
  · rw [hs t ht]
  · exact hs j hj
theorem fr_ft {th may S H : Nat → Int} {n tc hc t : Nat} {sp sp' : Nat → Int} (h : LD th may S H n tc hc) (ht : t < tc) (c : 0 < fdN th (t : Nat) n) (hs : ∀ j, j < 5 → sp' j = sp j) (h0 : ∀ j, j < 5 → 0 ≤ sp j) : ∀ k tb, k + tb = 5 → (frR sp' may t tc k tb).1 = (ftF sp S (hpC th n t) hc k tb).1 ∧ ∀ j, j < 5 → (frR sp' may t tc k tb).2 j = (ftF sp S (hpC th n t) hc k tb).2 j
  | 0, tb, _ => ⟨rfl, hs⟩
  | k + 1, tb, e => by
    have q := h.2.2.1 t ht c
    have r := cl_eq (f := t + 1) h (by omega) (us_cg hs (t := tb) (by omega))
    rw [hpC_y c] at r
    have s := hs tb (by omega)
    have s0 := h0 tb (by omega)
    by_cases d : hb (S (hpC th n t)) tb ∧ 0 < sp tb ∧ cLie (us sp tb (sp tb - 1)) S (hpC th n t + 1) hc
    · rw [ftF_y d, frR_y ⟨by rw [← q.2.1]; exact d.1, by omega, r.mpr d.2.2⟩]
      exact ⟨rfl, us_cg hs (by omega)⟩
    · rw [ftF_n d, frR_n (fun w => d ⟨by rw [q.2.1]; exact w.1, by omega, r.mp w.2.2⟩)]
      exact fr_ft h ht c hs h0 k (tb + 1) (by omega)
theorem la_eq {th may S H : Nat → Int} {n tc hc : Nat} {sp sp' T0 : Nat → Int} (h : LD th may S H n tc hc) (hs : ∀ j, j < 5 → sp' j = sp j) (h0 : ∀ j, j < 5 → 0 ≤ sp j ∧ sp j ≤ 10) : ∀ t, t ≤ tc → ∀ j, j < 5 → laR may tc sp' t j = (laS S sp T0 hc (hpC th n t)).1 j
  | 0, _ => hs
  | t + 1, ht => by
    have ih := la_eq (T0 := T0) h hs h0 t (by omega)
    by_cases c : 0 < fdN th (t : Nat) n
    · have q := h.2.2.1 t (by omega) c
      rw [hpC_y c, laR, if_neg (by omega), laS]
      exact (fr_ft h (by omega) c ih (fun j hj => (laS_in h0 _ j hj).1) 5 0 rfl).2
    · have q := h.2.1 t (by omega) c
      rw [hpC_n c, laR, if_pos (by omega)]
      exact ih
theorem la_2 {S sp T0 : Nat → Int} {hc h : Nat} : ∀ k, (laS S sp T0 hc (h + 1 + k)).2 h = (ftF (laS S sp T0 hc h).1 S h hc 5 0).1
  | 0 => by
    show us _ h _ h = _
    rw [us_k]
  | k + 1 => by
    have ih := la_2 (S := S) (sp := sp) (T0 := T0) (hc := hc) (h := h) k
    show us (laS S sp T0 hc (h + 1 + k)).2 (h + 1 + k) _ h = _
    rw [us_o (by omega)]
    exact ih
theorem tbo_y {H T : Nat → Int} {t : Int} {g hc : Nat} (hg : g < hc) (h1 : H g = t) (h2 : ∀ h, h < hc → H h = t → h = g) : ∀ k h, h + k = hc → h ≤ g → tboF H T t k h = T g
  | 0, h, e, l => by omega
  | k + 1, h, e, l => by
    unfold tboF
    by_cases c : H h = t
    · rw [if_pos c, h2 h (by omega) c]
    · rw [if_neg c]
      exact tbo_y hg h1 h2 k (h + 1) (by omega) (by
        by_cases z : h = g
        · subst z; exact absurd h1 c
        · omega)
theorem tbo_n {H T : Nat → Int} {t : Int} {hc : Nat} (h2 : ∀ h, h < hc → ¬ H h = t) : ∀ k h, h + k = hc → tboF H T t k h = -1
  | 0, h, e => rfl
  | k + 1, h, e => by
    unfold tboF
    rw [if_neg (h2 h (by omega))]
    exact tbo_n h2 k (h + 1) (by omega)
theorem laid_0 {th may S H : Nat → Int} {n tc hc : Nat} {sp sp' : Nat → Int} (h : LD th may S H n tc hc) (hs : ∀ j, j < 5 → sp' j = sp j) : cLm sp' may 0 tc ↔ cLie sp S 0 hc := cl_eq (f := 0) h (Nat.zero_le _) hs
theorem laid_n {th may S H T : Nat → Int} {n tc hc : Nat} {t : Int} (h : LD th may S H n tc hc) (ht : 0 ≤ t ∧ t < tc) (c : may t.toNat < 0) : -1 = tboF H T t hc 0 := by
  refine (tbo_n (hc := hc) (fun h' hh he => ?_) hc 0 (by omega)).symm
  obtain ⟨t', a1, a2, a3⟩ := h.2.2.2 h' hh
  have q := h.2.2.1 t' a1 a2
  rw [a3] at q
  have e : t.toNat = t' := by omega
  rw [e] at c
  omega
theorem laid_y {th may S H T0 : Nat → Int} {n tc hc : Nat} {sp sp' : Nat → Int} {t : Int} (h : LD th may S H n tc hc) (hs : ∀ j, j < 5 → sp' j = sp j) (h0 : ∀ j, j < 5 → 0 ≤ sp j ∧ sp j ≤ 10) (ht : 0 ≤ t ∧ t < tc) (c : ¬ may t.toNat < 0) : (frR (laR may tc sp' t.toNat) may t.toNat tc 5 0).1 = tboF H (laS S sp T0 hc hc).2 t hc 0 := by
  have f : 0 < fdN th ((t.toNat : Nat) : Int) n := by
    by_cases f : 0 < fdN th ((t.toNat : Nat) : Int) n
    · exact f
    · have q := h.2.1 t.toNat (by omega) f
      omega
  have q := h.2.2.1 t.toNat (by omega) f
  have lt := hpC_lt (show t.toNat < tc by omega) f
  rw [h.1] at lt
  have e1 : tboF H (laS S sp T0 hc hc).2 t hc 0 = (laS S sp T0 hc hc).2 (hpC th n t.toNat) := tbo_y lt (by rw [q.2.2]; omega) (fun h' hh he => by
    obtain ⟨t', a1, a2, a3⟩ := h.2.2.2 h' hh
    have w := h.2.2.1 t' a1 a2
    rw [a3] at w
    have z : t' = t.toNat := by omega
    rw [← a3, z]) hc 0 (by omega) (Nat.zero_le _)
  have e2 := la_2 (S := S) (sp := sp) (T0 := T0) (hc := hc) (h := hpC th n t.toNat) (hc - (hpC th n t.toNat + 1))
  rw [show hpC th n t.toNat + 1 + (hc - (hpC th n t.toNat + 1)) = hc by omega] at e2
  rw [e1, e2]
  exact (fr_ft h (by omega) f (la_eq (T0 := T0) h hs h0 t.toNat (by omega)) (fun j hj => (laS_in h0 _ j hj).1) 5 0 rfl).1
