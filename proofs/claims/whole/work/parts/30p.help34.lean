/-! who sits where: the plan and all ways -/
theorem hbj_a : ∀ (b : Fin 32) (a x : Fin 5), hb (jor (b.val : Int) (jshl 1 (a.val : Int))) (x.val : Int) ↔ (hb (b.val : Int) (x.val : Int) ∨ x = a) := by decide +kernel
theorem hbj {b a x : Int} (h0 : 0 ≤ b ∧ b < 32) (h1 : 0 ≤ a ∧ a < 5) (h2 : 0 ≤ x ∧ x < 5) : hb (jor b (jshl 1 a)) x ↔ (hb b x ∨ x = a) := by
  have h := hbj_a ⟨b.toNat, by omega⟩ ⟨a.toNat, by omega⟩ ⟨x.toNat, by omega⟩
  have e1 : ((b.toNat : Nat) : Int) = b := by omega
  have e2 : ((a.toNat : Nat) : Int) = a := by omega
  have e3 : ((x.toNat : Nat) : Int) = x := by omega
  simp only [e1, e2, e3, Fin.mk.injEq] at h
  rw [h]
  constructor
  · rintro (z | z)
    · exact Or.inl z
    · exact Or.inr (by omega)
  · rintro (z | z)
    · exact Or.inl z
    · exact Or.inr (by omega)
theorem hb0_a : ∀ x : Fin 5, ¬ hb 0 (x.val : Int) := by decide +kernel
theorem hb0x {x : Int} (h : 0 ≤ x ∧ x < 5) : ¬ hb 0 x := by
  have q := hb0_a ⟨x.toNat, by omega⟩
  have e : ((x.toNat : Nat) : Int) = x := by omega
  simp only [e] at q
  exact q
theorem free_a : ∀ (n : Fin 6) (b : Fin 32), (b.val : Int) ≤ jshl 1 (n.val : Int) - 1 → bc8 (b.val : Int) < (n.val : Int) → ∃ a : Fin 5, a.val < n.val ∧ ¬ hb (b.val : Int) (a.val : Int) := by decide +kernel
theorem free_e {n : Nat} {b : Int} (hn : n ≤ 5) (hb_ : 0 ≤ b ∧ b ≤ jshl 1 (n : Int) - 1) (h : bc8 b < n) : ∃ a : Nat, a < n ∧ ¬ hb b (a : Int) := by
  have p := jsh1 (n := (n : Int)) (by omega) (by omega)
  have e : ((b.toNat : Nat) : Int) = b := by omega
  have q := free_a ⟨n, by omega⟩ ⟨b.toNat, by omega⟩
  simp only [e] at q
  obtain ⟨a, a1, a2⟩ := q hb_.2 h
  exact ⟨a.val, a1, a2⟩
theorem bl_ne {w : Int → Int} {b : Int} : ∀ n : Nat, (∃ a : Nat, a < n ∧ ¬ hb b (a : Int)) → (blS w b n).1 ≠ -1
  | 0, h => by
    obtain ⟨a, a1, _⟩ := h
    omega
  | n + 1, h => by
    unfold blS
    split
    · show (n : Int) ≠ -1
      omega
    · next c =>
      by_cases d : hb b (n : Int)
      · refine bl_ne n ?_
        obtain ⟨a, a1, a2⟩ := h
        refine ⟨a, ?_, a2⟩
        by_cases z : a = n
        · subst z; exact absurd d a2
        · omega
      · intro z
        exact c ⟨d, Or.inl z⟩
theorem bl_2 {w : Int → Int} {b : Int} : ∀ n : Nat, (blS w b n).1 ≠ -1 → (blS w b n).2 = w (blS w b n).1
  | 0, h => absurd rfl h
  | n + 1, h => by
    unfold blS at h ⊢
    by_cases c : ¬ hb b n ∧ ((blS w b n).1 = -1 ∨ w n < (blS w b n).2)
    · rw [if_pos c]
    · rw [if_neg c] at h ⊢
      exact bl_2 n h
theorem bl_cg {w w' : Int → Int} {b : Int} : ∀ n : Nat, (∀ a : Nat, a < n → ¬ hb b (a : Int) → w a = w' a) → blS w b n = blS w' b n
  | 0, _ => rfl
  | n + 1, h => by
    have ih := bl_cg n (fun a ha => h a (by omega))
    unfold blS
    rw [ih]
    by_cases c : ¬ hb b (n : Int)
    · rw [h n (by omega) c]
    · rw [if_neg (fun z => c z.1), if_neg (fun z => c z.1)]
theorem pl_ix {LA L0 : Nat → Int} {n : Nat} {tc tp : Int} {j k : Nat} (h : (j : Int) = tp - k) : plS LA L0 n tc tp (k + 1) j = plV LA (plS LA L0 n tc tp k) j n tc := by
  show us _ (tp - k).toNat (plV LA (plS LA L0 n tc tp k) (tp - k) n tc) j = _
  rw [← h, Int.toNat_natCast, us_k]
theorem pl_st {LA L0 : Nat → Int} {n : Nat} {tc tp : Int} {j k : Nat} (h : (j : Int) = tp - k) : ∀ d : Nat, ((k + 1 + d : Nat) : Int) ≤ tp + 1 → plS LA L0 n tc tp (k + 1 + d) j = plS LA L0 n tc tp (k + 1) j
  | 0, _ => rfl
  | d + 1, hd => by
    have ih := pl_st (LA := LA) (L0 := L0) (n := n) (tc := tc) h d (by omega)
    show us (plS LA L0 n tc tp (k + 1 + d)) (tp - ((k + 1 + d : Nat) : Int)).toNat _ j = _
    rw [us_o (by omega)]
    exact ih
theorem pl_fin {LA L0 : Nat → Int} {n : Nat} {tc : Int} (hn : n ≤ 5) {j : Nat} (hj : (j : Int) ≤ jshl 1 (n : Int) - 1) : plS LA L0 n tc (jshl 1 (n : Int) - 1) (jshl 1 (n : Int)).toNat j = plV LA (plS LA L0 n tc (jshl 1 (n : Int) - 1) (jshl 1 (n : Int)).toNat) j n tc := by
  have p := jsh1 (n := (n : Int)) (by omega) (by omega)
  have hW := fun (a : Nat) (ha : a < n) (hf : ¬ hb (j : Int) (a : Int)) => jorW (n := (n : Int)) (b := (j : Int)) (a := (a : Int)) (by omega) (by omega) (by omega) hf
  generalize jshl 1 (n : Int) = tp at p hj hW ⊢
  have hk : (j : Int) = (tp - 1) - ((tp - 1 - j).toNat : Nat) := by omega
  have e1 := pl_st (LA := LA) (L0 := L0) (n := n) (tc := tc) hk (tp.toNat - ((tp - 1 - j).toNat + 1)) (by omega)
  rw [show (tp - 1 - j).toNat + 1 + (tp.toNat - ((tp - 1 - j).toNat + 1)) = tp.toNat by omega] at e1
  rw [e1, pl_ix hk]
  have key : ∀ a : Nat, a < n → ¬ hb (j : Int) (a : Int) → plS LA L0 n tc (tp - 1) (tp - 1 - j).toNat (jor (j : Int) (jshl 1 (a : Int))).toNat = plS LA L0 n tc (tp - 1) tp.toNat (jor (j : Int) (jshl 1 (a : Int))).toNat := fun a ha hf => by
    have w := hW a ha hf
    generalize jor (j : Int) (jshl 1 (a : Int)) = j2 at w ⊢
    have hk2 : ((j2.toNat : Nat) : Int) = (tp - 1) - ((tp - 1 - j2).toNat : Nat) := by omega
    have f1 := pl_st (LA := LA) (L0 := L0) (n := n) (tc := tc) hk2 (tp.toNat - ((tp - 1 - j2).toNat + 1)) (by omega)
    have f2 := pl_st (LA := LA) (L0 := L0) (n := n) (tc := tc) hk2 ((tp - 1 - j).toNat - ((tp - 1 - j2).toNat + 1)) (by omega)
    rw [show (tp - 1 - j2).toNat + 1 + (tp.toNat - ((tp - 1 - j2).toNat + 1)) = tp.toNat by omega] at f1
    rw [show (tp - 1 - j2).toNat + 1 + ((tp - 1 - j).toNat - ((tp - 1 - j2).toNat + 1)) = (tp - 1 - j).toNat by omega] at f2
    rw [f1, f2]
  have cg : blS (lwV LA (plS LA L0 n tc (tp - 1) (tp - 1 - j).toNat) (j : Int) (bc8 j)) (j : Int) n = blS (lwV LA (plS LA L0 n tc (tp - 1) tp.toNat) (j : Int) (bc8 j)) (j : Int) n := bl_cg n (fun a ha hf => by
    unfold lwV
    rw [key a ha hf])
  unfold plV
  rw [cg]
  by_cases c : tc ≤ bc8 (j : Int)
  · rw [if_pos c, if_pos c]
  · rw [if_neg c, if_neg c]
    rcases blS_nb (w := lwV LA (plS LA L0 n tc (tp - 1) tp.toNat) (j : Int) (bc8 j)) (bz := (j : Int)) n with g | g
    · rw [if_pos g, if_pos g]
    · rw [if_neg (by omega), if_neg (by omega)]
      have k := key ((blS (lwV LA (plS LA L0 n tc (tp - 1) tp.toNat) (j : Int) (bc8 j)) (j : Int) n).1).toNat (by omega) (by rw [show ((((blS (lwV LA (plS LA L0 n tc (tp - 1) tp.toNat) (j : Int) (bc8 j)) (j : Int) n).1).toNat : Nat) : Int) = (blS (lwV LA (plS LA L0 n tc (tp - 1) tp.toNat) (j : Int) (bc8 j)) (j : Int) n).1 by omega]; exact g.2)
      rw [show ((((blS (lwV LA (plS LA L0 n tc (tp - 1) tp.toNat) (j : Int) (bc8 j)) (j : Int) n).1).toNat : Nat) : Int) = (blS (lwV LA (plS LA L0 n tc (tp - 1) tp.toNat) (j : Int) (bc8 j)) (j : Int) n).1 by omega] at k
      generalize (blS (lwV LA (plS LA L0 n tc (tp - 1) tp.toNat) (j : Int) (bc8 j)) (j : Int) n).1 = a at k ⊢
      unfold lwV
      rw [k]
/-- the digits of a way from the first table on -/
def pfb (n : Int) : Nat → Int → Int
  | 0, _ => 0
  | t + 1, A => jor (pfb n t (A.tdiv n)) (jshl 1 (A.tmod n))
def pfs (L : Nat → Nat → Int) (n : Int) : Nat → Int → Int
  | 0, _ => 0
  | t + 1, A => pfs L n t (A.tdiv n) + L t (A.tmod n).toNat
def pfh (n wh : Int) : Nat → Int → Int
  | 0, _ => -1
  | t + 1, A => if (t : Int) = wh then A.tmod n else pfh n wh t (A.tdiv n)
def pfo (n : Int) : Nat → Int → Prop
  | 0, _ => True
  | t + 1, A => pfo n t (A.tdiv n) ∧ ¬ hb (pfb n t (A.tdiv n)) (A.tmod n)
theorem pfb_32 {n : Int} (hn : 0 < n ∧ n ≤ 5) : ∀ t (A : Int), 0 ≤ A → 0 ≤ pfb n t A ∧ pfb n t A < 32
  | 0, _, _ => by show (0 : Int) ≤ 0 ∧ (0 : Int) < 32; omega
  | t + 1, A, hA => by
    have m := tmr hA hn.1
    exact jor32 (pfb_32 hn t _ (td_in hA n hn.1).1) ⟨m.1, by omega⟩
theorem pfb_ok {n : Int} (hn : 0 < n ∧ n ≤ 5) : ∀ t (A : Int), 0 ≤ A → pfo n t A → (0 ≤ pfb n t A ∧ pfb n t A ≤ jshl 1 n - 1) ∧ bc8 (pfb n t A) = t
  | 0, _, _, _ => by
    have p := jsh1 (n := n) (by omega) (by omega)
    show ((0 : Int) ≤ 0 ∧ (0 : Int) ≤ jshl 1 n - 1) ∧ bc8 0 = ((0 : Nat) : Int)
    exact ⟨by omega, by decide +kernel⟩
  | t + 1, A, hA, h => by
    have m := tmr hA hn.1
    have ih := pfb_ok hn t _ (td_in hA n hn.1).1 h.1
    have w := jorW (n := n) (b := pfb n t (A.tdiv n)) (a := A.tmod n) (by omega) ih.1 m h.2
    show (0 ≤ jor _ _ ∧ jor _ _ ≤ _) ∧ bc8 (jor _ _) = ((t + 1 : Nat) : Int)
    rw [w.2.2, ih.2]
    exact ⟨⟨by omega, w.2.1⟩, by omega⟩
theorem pfs_in {L : Nat → Nat → Int} {n : Int} {tc : Nat} (hn : 0 < n) (hL : ∀ t a : Nat, t < tc → (a : Int) < n → 0 ≤ L t a) : ∀ t (A : Int), t ≤ tc → 0 ≤ A → 0 ≤ pfs L n t A
  | 0, _, _, _ => Int.le_refl 0
  | t + 1, A, ht, hA => by
    have m := tmr hA hn
    have ih := pfs_in (L := L) hn hL t _ (by omega) (td_in hA n hn).1
    have q := hL t (A.tmod n).toNat (by omega) (by omega)
    show 0 ≤ pfs L n t (A.tdiv n) + L t (A.tmod n).toNat
    omega
theorem wy_pf {L : Nat → Nat → Int} {n wh : Int} {tc : Nat} {w : Int} (hw : 0 ≤ w) (hn : 0 < n ∧ n ≤ 5) (hwh : wh < tc) : ∀ k, k ≤ tc →
    (0 ≤ (wyS L n wh tc w k).1) ∧ (0 ≤ (wyS L n wh tc w k).2.1 ∧ (wyS L n wh tc w k).2.1 < 32) ∧ ((wyS L n wh tc w k).2.2.1 + pfs L n (tc - k) (wyS L n wh tc w k).1 = pfs L n tc w) ∧ ((if ((tc - k : Nat) : Int) ≤ wh then (wyS L n wh tc w k).2.2.2.1 else pfh n wh (tc - k) (wyS L n wh tc w k).1) = pfh n wh tc w) ∧ ((¬ (wyS L n wh tc w k).2.2.2.2 = 0 ∧ pfo n (tc - k) (wyS L n wh tc w k).1 ∧ ∀ x, 0 ≤ x → x < 5 → ¬ (hb (wyS L n wh tc w k).2.1 x ∧ hb (pfb n (tc - k) (wyS L n wh tc w k).1) x)) ↔ pfo n tc w)
  | 0, _ => by
    refine ⟨hw, by show (0 : Int) ≤ 0 ∧ (0 : Int) < 32; omega, ?_, ?_, ?_⟩
    · show 0 + pfs L n tc w = _
      omega
    · rw [if_neg (by omega)]
      rfl
    · constructor
      · exact fun h => h.2.1
      · exact fun h => ⟨by show ¬ (1 : Int) = 0; omega, h, fun x h0 h1 z => hb0x ⟨h0, h1⟩ z.1⟩
  | k + 1, hk => by
    obtain ⟨i1, i2, i3, i4, i5⟩ := wy_pf (L := L) (wh := wh) hw hn hwh k (by omega)
    have et : tc - k = (tc - 1 - k) + 1 := by omega
    have et2 : tc - (k + 1) = tc - 1 - k := by omega
    rw [et] at i3 i4 i5
    rw [et2]
    have m := tmr i1 hn.1
    have d := td_in i1 n hn.1
    have bp := pfb_32 hn (tc - 1 - k) _ d.1
    show 0 ≤ ((wyS L n wh tc w k).1).tdiv n ∧ (0 ≤ jor (wyS L n wh tc w k).2.1 (jshl 1 ((wyS L n wh tc w k).1.tmod n)) ∧ jor (wyS L n wh tc w k).2.1 (jshl 1 ((wyS L n wh tc w k).1.tmod n)) < 32) ∧ ((wyS L n wh tc w k).2.2.1 + L (tc - 1 - k) ((wyS L n wh tc w k).1.tmod n).toNat + pfs L n (tc - 1 - k) ((wyS L n wh tc w k).1.tdiv n) = pfs L n tc w) ∧ ((if ((tc - 1 - k : Nat) : Int) ≤ wh then (if ((tc - 1 - k : Nat) : Int) = wh then (wyS L n wh tc w k).1.tmod n else (wyS L n wh tc w k).2.2.2.1) else pfh n wh (tc - 1 - k) ((wyS L n wh tc w k).1.tdiv n)) = pfh n wh tc w) ∧ ((¬ (if hb (wyS L n wh tc w k).2.1 ((wyS L n wh tc w k).1.tmod n) then 0 else (wyS L n wh tc w k).2.2.2.2) = 0 ∧ pfo n (tc - 1 - k) ((wyS L n wh tc w k).1.tdiv n) ∧ ∀ x, 0 ≤ x → x < 5 → ¬ (hb (jor (wyS L n wh tc w k).2.1 (jshl 1 ((wyS L n wh tc w k).1.tmod n))) x ∧ hb (pfb n (tc - 1 - k) ((wyS L n wh tc w k).1.tdiv n)) x)) ↔ pfo n tc w)
    have i3' : (wyS L n wh tc w k).2.2.1 + (pfs L n (tc - 1 - k) ((wyS L n wh tc w k).1.tdiv n) + L (tc - 1 - k) ((wyS L n wh tc w k).1.tmod n).toNat) = pfs L n tc w := i3
    have i4' : (if ((tc - 1 - k + 1 : Nat) : Int) ≤ wh then (wyS L n wh tc w k).2.2.2.1 else (if ((tc - 1 - k : Nat) : Int) = wh then (wyS L n wh tc w k).1.tmod n else pfh n wh (tc - 1 - k) ((wyS L n wh tc w k).1.tdiv n))) = pfh n wh tc w := i4
    have i5' : (¬ (wyS L n wh tc w k).2.2.2.2 = 0 ∧ (pfo n (tc - 1 - k) ((wyS L n wh tc w k).1.tdiv n) ∧ ¬ hb (pfb n (tc - 1 - k) ((wyS L n wh tc w k).1.tdiv n)) ((wyS L n wh tc w k).1.tmod n)) ∧ ∀ x, 0 ≤ x → x < 5 → ¬ (hb (wyS L n wh tc w k).2.1 x ∧ hb (jor (pfb n (tc - 1 - k) ((wyS L n wh tc w k).1.tdiv n)) (jshl 1 ((wyS L n wh tc w k).1.tmod n))) x)) ↔ pfo n tc w := i5
    clear i3 i4 i5
    generalize (wyS L n wh tc w k).1.tdiv n = q at *
    generalize (wyS L n wh tc w k).1.tmod n = a at *
    generalize (wyS L n wh tc w k).2.1 = bz at *
    generalize (wyS L n wh tc w k).2.2.1 = sm at *
    generalize (wyS L n wh tc w k).2.2.2.1 = hx at *
    generalize (wyS L n wh tc w k).2.2.2.2 = ca at *
    generalize pfb n (tc - 1 - k) q = bp1 at *
    have ma : 0 ≤ a ∧ a < 5 := by omega
    refine ⟨d.1, jor32 i2 ma, by omega, ?_, ?_⟩
    · rw [← i4']
      by_cases c : ((tc - 1 - k : Nat) : Int) = wh
      · rw [if_pos (by omega), if_pos c, if_neg (by omega), if_pos c]
      · by_cases c2 : ((tc - 1 - k : Nat) : Int) ≤ wh
        · rw [if_pos c2, if_neg c, if_pos (by omega)]
        · rw [if_neg c2, if_neg (by omega), if_neg c]
    · rw [← i5']
      constructor
      · rintro ⟨c1, c2, c3⟩
        by_cases z : hb bz a
        · rw [if_pos z] at c1
          exact absurd rfl c1
        · rw [if_neg z] at c1
          refine ⟨c1, ⟨c2, fun y => c3 a ma.1 ma.2 ⟨(hbj i2 ma ma).mpr (Or.inr rfl), y⟩⟩, fun x h0 h1 y => ?_⟩
          rcases (hbj bp ma ⟨h0, h1⟩).mp y.2 with u | u
          · exact c3 x h0 h1 ⟨(hbj i2 ma ⟨h0, h1⟩).mpr (Or.inl y.1), u⟩
          · subst u
            exact z y.1
      · rintro ⟨c1, ⟨c2, c4⟩, c3⟩
        have z : ¬ hb bz a := fun z => c3 a ma.1 ma.2 ⟨z, (hbj bp ma ma).mpr (Or.inr rfl)⟩
        rw [if_neg z]
        refine ⟨c1, c2, fun x h0 h1 y => ?_⟩
        rcases (hbj i2 ma ⟨h0, h1⟩).mp y.1 with u | u
        · exact c3 x h0 h1 ⟨u, (hbj bp ma ⟨h0, h1⟩).mpr (Or.inl y.2)⟩
        · subst u
          exact c4 y.2
theorem wy_hm {L : Nat → Nat → Int} {n wh : Int} {tc : Nat} {w : Int} (h : wh < 0) : ∀ k, (wyS L n wh tc w k).2.2.2.1 = -1
  | 0 => rfl
  | k + 1 => by
    show (if ((tc - 1 - k : Nat) : Int) = wh then _ else (wyS L n wh tc w k).2.2.2.1) = -1
    rw [if_neg (by omega)]
    exact wy_hm h k
theorem pfh_m {n wh : Int} (h : wh < 0) : ∀ t A, pfh n wh t A = -1
  | 0, _ => rfl
  | t + 1, A => by
    rw [pfh, if_neg (by omega)]
    exact pfh_m h t _
theorem wy_f {L : Nat → Nat → Int} {n wh : Int} {tc : Nat} {w : Int} (hw : 0 ≤ w) (hn : 0 < n ∧ n ≤ 5) (hwh : wh < tc) : ∃ ca : Int, wyf L n wh tc w = (pfs L n tc w, pfh n wh tc w, ca) ∧ (¬ ca = 0 ↔ pfo n tc w) := by
  obtain ⟨i1, i2, i3, i4, i5⟩ := wy_pf (L := L) hw hn hwh tc (Nat.le_refl _)
  rw [Nat.sub_self] at i3 i4 i5
  have s : (wyS L n wh tc w tc).2.2.1 = pfs L n tc w := by
    have q : (wyS L n wh tc w tc).2.2.1 + 0 = pfs L n tc w := i3
    omega
  have h : (wyS L n wh tc w tc).2.2.2.1 = pfh n wh tc w := by
    by_cases c : wh < 0
    · rw [wy_hm c, pfh_m c]
    · rw [if_pos (by omega)] at i4
      exact i4
  refine ⟨(wyS L n wh tc w tc).2.2.2.2, ?_, ?_⟩
  · rw [← s, ← h]
  · rw [← i5]
    exact ⟨fun z => ⟨z, trivial, fun x h0 h1 y => hb0x ⟨h0, h1⟩ y.2⟩, fun z => z.1⟩
/-- the best of some ways behind others -/
def bup (s : Int × Int) (v x : Int) : Int × Int := if s.1 < 0 ∨ v < s.1 then (v, x) else s
def scW (f : Int → Int × Int × Int) (s : Int × Int) (lo : Nat) : Nat → Int × Int
  | 0 => s
  | k + 1 => if ¬ (f ((lo + k : Nat) : Int)).2.2 = 0 then bup (scW f s lo k) (f ((lo + k : Nat) : Int)).1 (f ((lo + k : Nat) : Int)).2.1 else scW f s lo k
theorem sc_wb {f : Int → Int × Int × Int} : ∀ k, wbS f k = scW f (-1, -1) 0 k
  | 0 => rfl
  | k + 1 => by
    rw [wbS, scW, Nat.zero_add, sc_wb k]
    by_cases c : ¬ (f (k : Int)).2.2 = 0
    · rw [if_pos c]
      unfold bup
      by_cases d : (scW f (-1, -1) 0 k).1 < 0 ∨ (f (k : Int)).1 < (scW f (-1, -1) 0 k).1
      · rw [if_pos ⟨c, d⟩, if_pos d]
      · rw [if_neg (fun z => d z.2), if_neg d]
    · rw [if_neg (fun z => c z.1), if_neg c]
theorem sc_add {f : Int → Int × Int × Int} {s : Int × Int} {lo p : Nat} : ∀ q, scW f s lo (p + q) = scW f (scW f s lo p) (lo + p) q
  | 0 => rfl
  | q + 1 => by
    show scW f s lo (p + q + 1) = _
    rw [scW, scW, sc_add q, Nat.add_assoc]
/-- whom the plan takes, from table t on -/
def xgL (LA LL : Nat → Int) (n : Nat) (wh : Int) : Nat → Nat → Int → Int → Int
  | 0, _, _, h => h
  | k + 1, t, b, h => xgL LA LL n wh k (t + 1) (jor b (jshl 1 (blS (lwV LA LL b t) b n).1)) (if (t : Int) = wh then (blS (lwV LA LL b t) b n).1 else h)
theorem bup_st {s r : Int × Int} {s0 v : Int} {X : Int → Int} {a : Int} (h0 : 0 ≤ s0) (hr : 0 ≤ r.2) (hv : 0 ≤ v) (ha : a ≠ -1) : bup (if r.1 = -1 then s else bup s (s0 + r.2) (X r.1)) (s0 + v) (X a) = (if (if r.1 = -1 ∨ v < r.2 then (a, v) else r).1 = -1 then s else bup s (s0 + (if r.1 = -1 ∨ v < r.2 then (a, v) else r).2) (X (if r.1 = -1 ∨ v < r.2 then (a, v) else r).1)) := by
  obtain ⟨r1, r2⟩ := r
  obtain ⟨s1, s2⟩ := s
  simp only at hr ⊢
  by_cases c : r1 = -1
  · rw [if_pos c, if_pos (Or.inl c)]
    simp only
    rw [if_neg ha]
  · rw [if_neg c]
    by_cases d : v < r2
    · rw [if_pos (Or.inr d)]
      simp only
      rw [if_neg ha]
      unfold bup
      by_cases e : s1 < 0 ∨ s0 + r2 < s1
      · simp only [if_pos e]
        rw [if_pos (Or.inr (by omega)), if_pos (by omega)]
      · simp only [if_neg e]
    · rw [if_neg (show ¬ (r1 = -1 ∨ v < r2) by omega)]
      simp only
      rw [if_neg c]
      unfold bup
      by_cases e : s1 < 0 ∨ s0 + r2 < s1
      · simp only [if_pos e]
        rw [if_neg (by omega)]
      · simp only [if_neg e]
        rw [if_neg (by omega)]
theorem dm {A n a : Nat} (ha : a < n) : ((A * n + a : Nat) : Int).tdiv n = A ∧ ((A * n + a : Nat) : Int).tmod n = a := by
  constructor
  · rw [Int.tdiv_eq_ediv_of_nonneg (by omega)]
    have : (A * n + a) / n = A := by
      rw [Nat.mul_comm, Nat.mul_add_div (by omega), Nat.div_eq_of_lt ha, Nat.add_zero]
    omega
  · rw [Int.tmod_eq_emod_of_nonneg (by omega)]
    have : (A * n + a) % n = a := by
      rw [Nat.mul_comm, Nat.mul_add_mod, Nat.mod_eq_of_lt ha]
    omega
theorem pf_ext {L : Nat → Nat → Int} {n t A a : Nat} {wh : Int} (ha : a < n) : (pfo n (t + 1) ((A * n + a : Nat) : Int) ↔ (pfo n t A ∧ ¬ hb (pfb n t A) (a : Int))) ∧ pfb n (t + 1) ((A * n + a : Nat) : Int) = jor (pfb n t A) (jshl 1 (a : Int)) ∧ pfs L n (t + 1) ((A * n + a : Nat) : Int) = pfs L n t A + L t a ∧ pfh n wh (t + 1) ((A * n + a : Nat) : Int) = if (t : Int) = wh then (a : Int) else pfh n wh t A := by
  have q := dm (A := A) (n := n) (a := a) ha
  refine ⟨?_, ?_, ?_, ?_⟩
  · show (pfo n t (((A * n + a : Nat) : Int).tdiv n) ∧ ¬ hb (pfb n t (((A * n + a : Nat) : Int).tdiv n)) (((A * n + a : Nat) : Int).tmod n)) ↔ _
    rw [q.1, q.2]
  · show jor (pfb n t (((A * n + a : Nat) : Int).tdiv n)) (jshl 1 (((A * n + a : Nat) : Int).tmod n)) = _
    rw [q.1, q.2]
  · show pfs L n t (((A * n + a : Nat) : Int).tdiv n) + L t (((A * n + a : Nat) : Int).tmod n).toNat = _
    rw [q.1, q.2, Int.toNat_natCast]
  · show (if (t : Int) = wh then ((A * n + a : Nat) : Int).tmod n else pfh n wh t (((A * n + a : Nat) : Int).tdiv n)) = _
    rw [q.1, q.2]
theorem sc_pf {LA L0 : Nat → Int} {L : Nat → Nat → Int} {n tc : Nat} {wh : Int} (hn : n ≤ 5) (ht : tc ≤ n) (hwh : wh < tc) (hL : ∀ a t : Nat, a < n → t < tc → LA (a * 5 + t) = L t a) (hb_ : ∀ a t : Nat, a < n → t < tc → 0 ≤ L t a ∧ L t a ≤ 40000) (hn0 : 0 < n) : ∀ k t (A : Nat) s, t + k = tc → (pfo n t A → scW (wyf L (n : Int) wh tc) s (A * n ^ k) (n ^ k) = bup s (pfs L n t A + plS LA L0 n tc (jshl 1 (n : Int) - 1) (jshl 1 (n : Int)).toNat (pfb n t A).toNat) (xgL LA (plS LA L0 n tc (jshl 1 (n : Int) - 1) (jshl 1 (n : Int)).toNat) n wh k t (pfb n t A) (pfh n wh t A))) ∧ (¬ pfo n t A → scW (wyf L (n : Int) wh tc) s (A * n ^ k) (n ^ k) = s)
  | 0, t, A, s, e => by
    have et : t = tc := by omega
    subst et
    rw [Nat.pow_zero, Nat.mul_one]
    have e0 : scW (wyf L (n : Int) wh t) s A 1 = if ¬ (wyf L (n : Int) wh t (A : Int)).2.2 = 0 then bup s (wyf L (n : Int) wh t (A : Int)).1 (wyf L (n : Int) wh t (A : Int)).2.1 else s := by
      show (if ¬ (wyf L (n : Int) wh t ((A + 0 : Nat) : Int)).2.2 = 0 then bup s (wyf L (n : Int) wh t ((A + 0 : Nat) : Int)).1 (wyf L (n : Int) wh t ((A + 0 : Nat) : Int)).2.1 else s) = _
      rw [Nat.add_zero]
    obtain ⟨ca, f1, f2⟩ := wy_f (L := L) (n := (n : Int)) (wh := wh) (tc := t) (w := (A : Int)) (by omega) (by omega) hwh
    rw [f1] at e0
    have e1 : scW (wyf L (n : Int) wh t) s A 1 = if ¬ ca = 0 then bup s (pfs L n t A) (pfh n wh t A) else s := e0
    rw [e1]
    refine ⟨fun c => ?_, fun c => ?_⟩
    · have o := pfb_ok (n := (n : Int)) (by omega) t A (by omega) c
      rw [if_pos (f2.mpr c), pl_fin hn (by omega)]
      have z : plV LA (plS LA L0 n t (jshl 1 (n : Int) - 1) (jshl 1 (n : Int)).toNat) (((pfb n t A).toNat : Nat) : Int) n t = 0 := by
        unfold plV
        rw [if_pos (by rw [show (((pfb n t A).toNat : Nat) : Int) = pfb n t A by omega, o.2]; exact Int.le_refl _)]
      rw [z, Int.add_zero]
      rfl
    · rw [if_neg (fun z => c (f2.mp z))]
  | k + 1, t, A, s, e => by
    have epl : ∀ a, A * n ^ (k + 1) + a * n ^ k = (A * n + a) * n ^ k := fun a => by rw [Nat.pow_succ, Nat.add_mul, Nat.mul_assoc, Nat.mul_comm n]
    have epw : n * n ^ k = n ^ (k + 1) := by rw [Nat.pow_succ, Nat.mul_comm]
    refine ⟨fun c => ?_, fun c => ?_⟩
    · have o := pfb_ok (n := (n : Int)) (by omega) t A (by omega) c
      have p := jsh1 (n := (n : Int)) (by omega) (by omega)
      have ps := pfs_in (L := L) (n := (n : Int)) (tc := tc) (by omega) (fun t' a' h2 h3 => (hb_ a' t' (by omega) h2).1) t A (by omega) (by omega)
      have wn : ∀ x : Int, 0 ≤ x → x < n → ¬ hb (pfb n t A) x → 0 ≤ lwV LA (plS LA L0 n tc (jshl 1 (n : Int) - 1) (jshl 1 (n : Int)).toNat) (pfb n t A) t x ∧ lwV LA (plS LA L0 n tc (jshl 1 (n : Int) - 1) (jshl 1 (n : Int)).toNat) (pfb n t A) t x ≤ 240000 := fun x h0 h1 hf => by
        have w := jorW (n := (n : Int)) (b := pfb n t A) (a := x) (by omega) o.1 ⟨h0, h1⟩ hf
        have i := plS_in (LA := LA) (L0 := L0) (n := (n : Int)) (tc := (tc : Int)) (by omega) (by omega) (fun a' t' h2 h3 => by rw [hL a' t' (by omega) (by omega)]; exact hb_ a' t' (by omega) (by omega)) (jshl 1 (n : Int)).toNat (by omega) (jor (pfb n t A) (jshl 1 x)).toNat (by omega) (by omega)
        rw [Int.toNat_natCast] at i
        have b8 := (bc8_in (((jor (pfb n t A) (jshl 1 x)).toNat : Nat) : Int)).1
        have g := hb_ x.toNat t (by omega) (by omega)
        unfold lwV
        rw [show (x * 5 + (t : Int)).toNat = x.toNat * 5 + t by omega, hL x.toNat t (by omega) (by omega)]
        omega
      have inner : ∀ a : Nat, a ≤ n → scW (wyf L (n : Int) wh tc) s (A * n ^ (k + 1)) (a * n ^ k) = (if (blS (lwV LA (plS LA L0 n tc (jshl 1 (n : Int) - 1) (jshl 1 (n : Int)).toNat) (pfb n t A) t) (pfb n t A) a).1 = -1 then s else bup s (pfs L n t A + (blS (lwV LA (plS LA L0 n tc (jshl 1 (n : Int) - 1) (jshl 1 (n : Int)).toNat) (pfb n t A) t) (pfb n t A) a).2) ((fun a : Int => xgL LA (plS LA L0 n tc (jshl 1 (n : Int) - 1) (jshl 1 (n : Int)).toNat) n wh k (t + 1) (jor (pfb n t A) (jshl 1 a)) (if (t : Int) = wh then a else pfh n wh t A)) (blS (lwV LA (plS LA L0 n tc (jshl 1 (n : Int) - 1) (jshl 1 (n : Int)).toNat) (pfb n t A) t) (pfb n t A) a).1)) := by
        intro a
        induction a with
        | zero =>
          intro _
          rw [Nat.zero_mul]
          exact (if_pos rfl).symm
        | succ a ih =>
          intro ha
          have ih := ih (by omega)
          have x := pf_ext (L := L) (n := n) (t := t) (A := A) (a := a) (wh := wh) (by omega)
          have r := sc_pf (L0 := L0) hn ht hwh hL hb_ hn0 k (t + 1) (A * n + a) (scW (wyf L (n : Int) wh tc) s (A * n ^ (k + 1)) (a * n ^ k)) (by omega)
          rw [Nat.succ_mul, sc_add, epl a]
          have rn := blS_in (w := lwV LA (plS LA L0 n tc (jshl 1 (n : Int) - 1) (jshl 1 (n : Int)).toNat) (pfb n t A) t) (bz := pfb n t A) (A := 240000) (by omega) a (fun x h0 h1 => wn x h0 (by omega))
          by_cases f : hb (pfb n t A) (a : Int)
          · rw [r.2 (fun z => (x.1.mp z).2 f), ih]
            have eB : blS (lwV LA (plS LA L0 n tc (jshl 1 (n : Int) - 1) (jshl 1 (n : Int)).toNat) (pfb n t A) t) (pfb n t A) (a + 1) = blS (lwV LA (plS LA L0 n tc (jshl 1 (n : Int) - 1) (jshl 1 (n : Int)).toNat) (pfb n t A) t) (pfb n t A) a := by
              rw [blS, if_neg (fun z => z.1 f)]
            rw [eB]
          · rw [r.1 (x.1.mpr ⟨c, f⟩), ih, x.2.1, x.2.2.1, x.2.2.2]
            have eB : blS (lwV LA (plS LA L0 n tc (jshl 1 (n : Int) - 1) (jshl 1 (n : Int)).toNat) (pfb n t A) t) (pfb n t A) (a + 1) = if (blS (lwV LA (plS LA L0 n tc (jshl 1 (n : Int) - 1) (jshl 1 (n : Int)).toNat) (pfb n t A) t) (pfb n t A) a).1 = -1 ∨ lwV LA (plS LA L0 n tc (jshl 1 (n : Int) - 1) (jshl 1 (n : Int)).toNat) (pfb n t A) t a < (blS (lwV LA (plS LA L0 n tc (jshl 1 (n : Int) - 1) (jshl 1 (n : Int)).toNat) (pfb n t A) t) (pfb n t A) a).2 then ((a : Int), lwV LA (plS LA L0 n tc (jshl 1 (n : Int) - 1) (jshl 1 (n : Int)).toNat) (pfb n t A) t a) else blS (lwV LA (plS LA L0 n tc (jshl 1 (n : Int) - 1) (jshl 1 (n : Int)).toNat) (pfb n t A) t) (pfb n t A) a := by
              rw [blS]
              by_cases z : (blS (lwV LA (plS LA L0 n tc (jshl 1 (n : Int) - 1) (jshl 1 (n : Int)).toNat) (pfb n t A) t) (pfb n t A) a).1 = -1 ∨ lwV LA (plS LA L0 n tc (jshl 1 (n : Int) - 1) (jshl 1 (n : Int)).toNat) (pfb n t A) t a < (blS (lwV LA (plS LA L0 n tc (jshl 1 (n : Int) - 1) (jshl 1 (n : Int)).toNat) (pfb n t A) t) (pfb n t A) a).2
              · rw [if_pos ⟨f, z⟩, if_pos z]
              · rw [if_neg (fun y => z y.2), if_neg z]
            have wa := (wn a (by omega) (by omega) f).1
            have ev : pfs L n t A + L t a + plS LA L0 n tc (jshl 1 (n : Int) - 1) (jshl 1 (n : Int)).toNat (jor (pfb n t A) (jshl 1 (a : Int))).toNat = pfs L n t A + lwV LA (plS LA L0 n tc (jshl 1 (n : Int) - 1) (jshl 1 (n : Int)).toNat) (pfb n t A) t a := by
              unfold lwV
              rw [show ((a : Int) * 5 + (t : Int)).toNat = a * 5 + t by omega, hL a t (by omega) (by omega)]
              omega
            rw [eB, ev]
            exact bup_st (X := fun a : Int => xgL LA (plS LA L0 n tc (jshl 1 (n : Int) - 1) (jshl 1 (n : Int)).toNat) n wh k (t + 1) (jor (pfb n t A) (jshl 1 a)) (if (t : Int) = wh then a else pfh n wh t A)) ps rn.2.1 wa (by omega)
      have r := inner n (Nat.le_refl _)
      rw [epw] at r
      rw [r]
      have ne := bl_ne (w := lwV LA (plS LA L0 n tc (jshl 1 (n : Int) - 1) (jshl 1 (n : Int)).toNat) (pfb n t A) t) (b := pfb n t A) n (free_e hn o.1 (by omega))
      rw [if_neg ne, pl_fin hn (j := (pfb n t A).toNat) (by omega)]
      have z : plV LA (plS LA L0 n tc (jshl 1 (n : Int) - 1) (jshl 1 (n : Int)).toNat) (((pfb n t A).toNat : Nat) : Int) n tc = (blS (lwV LA (plS LA L0 n tc (jshl 1 (n : Int) - 1) (jshl 1 (n : Int)).toNat) (pfb n t A) t) (pfb n t A) n).2 := by
        unfold plV
        rw [show (((pfb n t A).toNat : Nat) : Int) = pfb n t A by omega, o.2, if_neg (by omega), if_neg ne, bl_2 n ne]
      rw [z]
      rfl
    · have inner : ∀ a : Nat, a ≤ n → scW (wyf L (n : Int) wh tc) s (A * n ^ (k + 1)) (a * n ^ k) = s := by
        intro a
        induction a with
        | zero =>
          intro _
          rw [Nat.zero_mul]
          rfl
        | succ a ih =>
          intro ha
          have x := pf_ext (L := L) (n := n) (t := t) (A := A) (a := a) (wh := wh) (by omega)
          rw [Nat.succ_mul, sc_add, epl a, ih (by omega)]
          exact (sc_pf (L0 := L0) hn ht hwh hL hb_ hn0 k (t + 1) (A * n + a) s (by omega)).2 (fun z => c (x.1.mp z).1)
      have r := inner n (Nat.le_refl _)
      rw [epw] at r
      exact r
theorem pwI_n {n : Nat} : ∀ t, pwI (n : Int) t = ((n ^ t : Nat) : Int)
  | 0 => rfl
  | t + 1 => by
    rw [pwI, pwI_n t, Nat.pow_succ]
    exact (Int.natCast_mul _ _).symm
theorem xg_k {LA LL : Nat → Int} {n : Nat} {wh : Int} : ∀ k t b h, wh < (t : Nat) → xgL LA LL n wh k t b h = h
  | 0, _, _, _, _ => rfl
  | k + 1, t, b, h, c => by
    rw [xgL, if_neg (by omega)]
    exact xg_k k (t + 1) _ h (by omega)
theorem ly_ok {LA LL : Nat → Int} {n tc : Nat} (hn : n ≤ 5) (ht : tc ≤ n) : ∀ t : Nat, t ≤ tc → (0 ≤ (lyS LA LL n tc t).1 ∧ (lyS LA LL n tc t).1 ≤ jshl 1 (n : Int) - 1) ∧ bc8 (lyS LA LL n tc t).1 = t
  | 0, _ => by
    have p := jsh1 (n := (n : Int)) (by omega) (by omega)
    show ((0 : Int) ≤ 0 ∧ (0 : Int) ≤ jshl 1 (n : Int) - 1) ∧ bc8 0 = ((0 : Nat) : Int)
    exact ⟨by omega, by decide +kernel⟩
  | t + 1, h => by
    have ih := ly_ok (LA := LA) (LL := LL) hn ht t (by omega)
    have ne := bl_ne (w := lwV LA LL (lyS LA LL n tc t).1 t) (b := (lyS LA LL n tc t).1) n (free_e hn ih.1 (by omega))
    rw [lyS_y (by omega) rfl]
    simp only
    rw [if_neg ne]
    rcases blS_nb (w := lwV LA LL (lyS LA LL n tc t).1 t) (bz := (lyS LA LL n tc t).1) n with g | g
    · exact absurd g ne
    · have w := jorW (n := (n : Int)) (b := (lyS LA LL n tc t).1) (a := (blS (lwV LA LL (lyS LA LL n tc t).1 t) (lyS LA LL n tc t).1 n).1) (by omega) ih.1 g.1 g.2
      rw [w.2.2, ih.2]
      exact ⟨⟨by omega, w.2.1⟩, by omega⟩
theorem xg_ly {LA LL : Nat → Int} {n tc : Nat} {wh : Int} (hn : n ≤ 5) (ht : tc ≤ n) (hwh : 0 ≤ wh ∧ wh < tc) : ∀ k t h, t + k = tc → (t : Int) ≤ wh → xgL LA LL n wh k t (lyS LA LL n tc t).1 h = (lyS LA LL n tc (wh + 1).toNat).2
  | 0, t, h, e, l => by omega
  | k + 1, t, h, e, l => by
    have ih := ly_ok (LA := LA) (LL := LL) hn ht t (by omega)
    have ne := bl_ne (w := lwV LA LL (lyS LA LL n tc t).1 t) (b := (lyS LA LL n tc t).1) n (free_e hn ih.1 (by omega))
    have y := lyS_y (LA := LA) (LL := LL) (n := n) (tc := (tc : Int)) (t := t) (by omega) rfl
    rw [if_neg ne] at y
    rw [xgL]
    by_cases c : (t : Int) = wh
    · rw [if_pos c, xg_k k (t + 1) _ _ (by omega), show (wh + 1).toNat = t + 1 by omega, y]
    · rw [if_neg c]
      have q := xg_ly (LA := LA) (LL := LL) hn ht hwh k (t + 1) h (by omega) (by omega)
      rw [y] at q
      exact q
theorem who_eq {LA L0 : Nat → Int} {L : Nat → Nat → Int} {n tc : Nat} {wh : Int} (hn : n ≤ 5) (ht : tc ≤ n) (hwh : wh < tc) (hL : ∀ a t : Nat, a < n → t < tc → LA (a * 5 + t) = L t a) (hb_ : ∀ a t : Nat, a < n → t < tc → 0 ≤ L t a ∧ L t a ≤ 40000) : (wbS (wyf L (n : Int) wh tc) (pwI (n : Int) tc).toNat).1 = plS LA L0 n tc (jshl 1 (n : Int) - 1) (jshl 1 (n : Int)).toNat 0 ∧ (0 ≤ wh → (wbS (wyf L (n : Int) wh tc) (pwI (n : Int) tc).toNat).2 = (lyS LA (plS LA L0 n tc (jshl 1 (n : Int) - 1) (jshl 1 (n : Int)).toNat) n tc (wh + 1).toNat).2) := by
  by_cases hn0 : n = 0
  · have t0 : tc = 0 := by omega
    subst hn0 t0
    refine ⟨?_, fun h => by omega⟩
    have e1 : (wbS (wyf L ((0 : Nat) : Int) wh 0) (pwI ((0 : Nat) : Int) 0).toNat).1 = 0 := rfl
    have e2 := pl_fin (LA := LA) (L0 := L0) (n := 0) (tc := ((0 : Nat) : Int)) (by omega) (j := 0) (by decide)
    have e3 : plV LA (plS LA L0 0 ((0 : Nat) : Int) (jshl 1 ((0 : Nat) : Int) - 1) (jshl 1 ((0 : Nat) : Int)).toNat) ((0 : Nat) : Int) 0 ((0 : Nat) : Int) = 0 := if_pos (by decide)
    rw [e1, e2, e3]
  · have q := sc_pf (LA := LA) (L0 := L0) (wh := wh) hn ht hwh hL hb_ (by omega) tc 0 0 (-1, -1) (by omega)
    have q := q.1 trivial
    rw [Nat.zero_mul] at q
    rw [pwI_n, Int.toNat_natCast, sc_wb, q]
    have p0 : plS LA L0 n tc (jshl 1 (n : Int) - 1) (jshl 1 (n : Int)).toNat 0 = 0 + plS LA L0 n tc (jshl 1 (n : Int) - 1) (jshl 1 (n : Int)).toNat (pfb (n : Int) 0 ((0 : Nat) : Int)).toNat := by
      show _ = 0 + plS LA L0 n tc (jshl 1 (n : Int) - 1) (jshl 1 (n : Int)).toNat 0
      omega
    constructor
    · rw [p0]
      rfl
    · intro h
      exact xg_ly (LA := LA) (LL := plS LA L0 n tc (jshl 1 (n : Int) - 1) (jshl 1 (n : Int)).toNat) hn ht ⟨h, hwh⟩ tc 0 (-1) (by omega) (by omega)
theorem who_eqI {LA L0 : Nat → Int} {L : Nat → Nat → Int} {n tc wh : Int} (hn : 0 ≤ n ∧ n ≤ 5) (ht : 0 ≤ tc ∧ tc ≤ n) (hwh : wh < tc) (hL : ∀ a t : Nat, (a : Int) < n → (t : Int) < tc → LA (a * 5 + t) = L t a) (hb_ : ∀ a t : Nat, (a : Int) < n → (t : Int) < tc → 0 ≤ L t a ∧ L t a ≤ 40000) : (wbS (wyf L n wh tc.toNat) (pwI n tc.toNat).toNat).1 = plS LA L0 n.toNat tc (jshl 1 n - 1) (jshl 1 n).toNat 0 ∧ (0 ≤ wh → (wbS (wyf L n wh tc.toNat) (pwI n tc.toNat).toNat).2 = (lyS LA (plS LA L0 n.toNat tc (jshl 1 n - 1) (jshl 1 n).toNat) n.toNat tc (wh + 1).toNat).2) := by
  obtain ⟨m, rfl⟩ := Int.eq_ofNat_of_zero_le hn.1
  obtain ⟨u, rfl⟩ := Int.eq_ofNat_of_zero_le ht.1
  simp only [Int.toNat_natCast]
  exact who_eq (by omega) (by omega) hwh (fun a t h1 h2 => hL a t (by omega) (by omega)) (fun a t h1 h2 => hb_ a t (by omega) (by omega))
