/-! reading a law from the tape -/
theorem up4 {Y : Mem} {k : Nat} {a b c d : Int} : up (up (up (up Y k 2 a) k 3 b) k 2 c) k 3 d = up (up Y k 2 c) k 3 d := by
  funext i j
  unfold up us
  by_cases h : i = k
  · subst h
    simp only [if_true]
    by_cases h3 : j = 3
    · simp only [if_pos h3]
    · by_cases h2 : j = 2
      · simp only [if_neg h3, if_pos h2]
      · simp only [if_neg h3, if_neg h2]
  · simp only [if_neg h]
theorem tkE_in (f : Nat → Int) {n b : Nat} (h : b ≤ n) : b ≤ tkE f n b ∧ tkE f n b ≤ n := by
  have l := run_in isL f h
  have d := run_in isD f h
  unfold tkE
  split
  · exact l
  · split <;> omega
noncomputable def wdN (f : Nat → Int) (b e : Nat) : Int :=
  @ite Int (wdIs f b e [107, 110, 111, 119, 110]) (Classical.propDecidable _) 0
  (@ite Int (wdIs f b e [115, 116, 114, 97, 110, 103, 101]) (Classical.propDecidable _) 1
  (@ite Int (wdIs f b e [114, 111, 117, 110, 100]) (Classical.propDecidable _) 2
  (@ite Int (wdIs f b e [108, 101, 97, 115, 116]) (Classical.propDecidable _) 3
  (@ite Int (wdIs f b e [109, 111, 115, 116]) (Classical.propDecidable _) 4 (-1)))))
theorem wdN_in (f : Nat → Int) (b e : Nat) : -1 ≤ wdN f b e ∧ wdN f b e ≤ 4 := by
  unfold wdN
  split
  · omega
  · split
    · omega
    · split
      · omega
      · split
        · omega
        · split <;> omega
/-- none of the words -/
theorem wdN_no {f : Nat → Int} {b e : Nat} (h : ∀ w ∈ wdL, ¬ wdIs f b e w) : wdN f b e = -1 := by
  unfold wdN
  rw [if_neg (h _ (by simp [wdL])), if_neg (h _ (by simp [wdL])), if_neg (h _ (by simp [wdL])), if_neg (h _ (by simp [wdL])), if_neg (h _ (by simp [wdL]))]
theorem wd_let : ∀ w ∈ wdL, 0 < w.length ∧ isL (w.getD 0 0) = true := by decide
theorem wdN_nl {f : Nat → Int} {b e : Nat} (h : ¬ isL (f b) = true) : wdN f b e = -1 := wdN_no fun w hw z => by
  have g := wd_let w hw
  have q := z.2.2 0 g.1
  rw [Nat.add_zero] at q
  rw [q] at h
  exact h g.2
theorem wdN_e {f : Nat → Int} {b : Nat} : wdN f b b = -1 := wdN_no fun w hw z => by
  have g := wd_let w hw
  have q := z.1
  omega
theorem run_self {c : Int → Bool} {f : Nat → Int} {n b : Nat} (h : ¬ b < run c f n b) (hb : b < n) : ¬ c (f b) = true := fun z => by
  have g := run_in c f (n := n) (p := b + 1) (by omega)
  rw [run_y hb z] at h
  omega
theorem wdN_tk {f : Nat → Int} {n b : Nat} (h : b ≤ n) : wdN f b (tkE f n b) = wdN f b (run isL f n b) := by
  by_cases c : b < run isL f n b
  · unfold tkE
    rw [if_pos c]
  · have l := run_in isL f h
    rw [show run isL f n b = b by omega, wdN_e]
    by_cases d : b = n
    · have t := tkE_in f h
      rw [show tkE f n b = b by omega, wdN_e]
    · exact wdN_nl (run_self c (by omega))
/-- the number of a token; -1 if it is none -/
def nuV (f : Nat → Int) (n b e : Nat) : Int := if b < n ∧ isD (f b) = true ∧ e - b ≤ 3 then numV f b (e - b) else -1
theorem dig_nl {x : Int} (h : isD x = true) : ¬ isL x = true := by
  rw [isD_i] at h
  rw [isL_i]
  omega
theorem tk_d {f : Nat → Int} {n b : Nat} (hb : b < n) (h : isD (f b) = true) : tkE f n b = run isD f n b ∧ b < run isD f n b := by
  have e : run isL f n b = b := run_n (dig_nl h)
  have g := run_in isD f (n := n) (p := b + 1) (by omega)
  have y : b < run isD f n b := by rw [run_y hb h]; omega
  unfold tkE
  rw [e, if_neg (Nat.lt_irrefl _), if_neg (by omega)]
  exact ⟨rfl, y⟩
theorem tk_dig {f : Nat → Int} {n b : Nat} (hb : b < n) (h : isD (f b) = true) : ∀ j, b ≤ j → j < tkE f n b → isD (f j) = true := by
  rw [(tk_d hb h).1]
  exact fun j h1 h2 => run_all (n - b) b rfl j h1 h2
/-- the grammar, from three places on -/
abbrev PR : Type := (Nat → Int) × Int
def mayT (w v : Int) : Prop := STF 1 w.toNat ≤ v ∧ v ≤ STF 2 w.toNat
def psC (c : Nat → (Nat → Int) → PR) (f : Nat → Int) (n p : Nat) (D : Nat → Int) : PR := if n ≤ run isB f n p then (D, -1) else if f (run isB f n p) ≠ 59 then (D, ((run isB f n p : Nat) : Int)) else c (run isB f n p + 1) D
noncomputable def psB (c : Nat → (Nat → Int) → PR) (f : Nat → Int) (n : Nat) (w : Int) (p : Nat) (D : Nat → Int) : PR := @ite PR (run isD f n (run isB f n p) = run isB f n p ∨ 3 < run isD f n (run isB f n p) - run isB f n p ∨ ¬ mayT w (numV f (run isB f n p) (run isD f n (run isB f n p) - run isB f n p))) (Classical.propDecidable _) (D, ((run isB f n p : Nat) : Int)) (psC c f n (run isD f n (run isB f n p)) (us D w.toNat (numV f (run isB f n p) (run isD f n (run isB f n p) - run isB f n p))))
noncomputable def psR (f : Nat → Int) (n : Nat) : Nat → Nat → (Nat → Int) → PR
  | 0, _, D => (D, -1)
  | k + 1, p, D => if wdN f (run isB f n p) (run isL f n (run isB f n p)) = -1 then (D, ((run isB f n p : Nat) : Int)) else psB (psR f n k) f n (wdN f (run isB f n p) (run isL f n (run isB f n p))) (run isL f n (run isB f n p)) D
theorem ps_1n {f : Nat → Int} {n k p b e : Nat} {D : Nat → Int} (hp : p ≤ n) (hb : b = run isB f n p) (he : e = tkE f n b) (h : wdN f b e = -1) : psR f n (k + 1) p D = (D, (b : Int)) := by
  subst hb he
  rw [wdN_tk (run_in isB f hp).2] at h
  show ite _ _ _ = _
  rw [if_pos h]
theorem ps_1y {f : Nat → Int} {n k p b e : Nat} {D : Nat → Int} {w : Int} (hp : p ≤ n) (hb : b = run isB f n p) (he : e = tkE f n b) (hw : w = wdN f b e) (h : w ≠ -1) : psR f n (k + 1) p D = psB (psR f n k) f n w e D := by
  have hbn : b ≤ n := by subst hb; exact (run_in isB f hp).2
  have hl : b < run isL f n b := by
    by_cases c : b < run isL f n b
    · exact c
    · exfalso
      have l := run_in isL f hbn
      rw [he, wdN_tk hbn, show run isL f n b = b by omega, wdN_e] at hw
      exact h hw
  have e2 : e = run isL f n b := by rw [he]; unfold tkE; rw [if_pos hl]
  subst hb
  show ite _ _ _ = _
  rw [← e2, if_neg (by rw [← hw]; exact h), ← hw]
theorem numD {f : Nat → Int} {n b : Nat} (hb : b < n) (h : isD (f b) = true) (h3 : tkE f n b - b ≤ 3) : 0 ≤ numV f b (tkE f n b - b) ∧ numV f b (tkE f n b - b) ≤ 999 := by
  have g := numV_in (f := f) (b := b) (tkE f n b - b) (fun j hj => by
    have q := tk_dig hb h (b + j) (by omega) (by omega)
    rw [isD_i] at q
    exact q) h3
  exact ⟨g.1, g.2.1⟩
theorem may_neg {w : Int} (h0 : 0 ≤ w) (h1 : w ≤ 4) : ¬ mayT w (-1) := by
  have a : ∀ j : Fin 5, 0 ≤ STF 1 j.val := by decide
  have b := a ⟨w.toNat, by omega⟩
  have c : 0 ≤ STF 1 w.toNat := b
  unfold mayT
  omega
theorem ps_2n {f : Nat → Int} {n p b e : Nat} {D : Nat → Int} {w v : Int} {c : Nat → (Nat → Int) → PR} (hp : p ≤ n) (hb : b = run isB f n p) (he : e = tkE f n b) (hv : v = nuV f n b e) (h : ¬ mayT w v) : psB c f n w p D = (D, (b : Int)) := by
  have hbn : b ≤ n := by subst hb; exact (run_in isB f hp).2
  unfold psB
  rw [← hb]
  refine if_pos ?_
  by_cases c1 : b < n ∧ isD (f b) = true
  · have t := tk_d c1.1 c1.2
    rw [← t.1, ← he]
    by_cases c3 : e - b ≤ 3
    · right; right
      rw [hv] at h
      unfold nuV at h
      rw [if_pos ⟨c1.1, c1.2, c3⟩] at h
      exact h
    · right; left; omega
  · left
    by_cases c2 : b < n
    · exact run_n (fun z => c1 ⟨c2, z⟩)
    · exact run_e (by omega)
theorem ps_2y {f : Nat → Int} {n p b e : Nat} {D : Nat → Int} {w v : Int} {c : Nat → (Nat → Int) → PR} (hw : 0 ≤ w ∧ w ≤ 4) (hp : p ≤ n) (hb : b = run isB f n p) (he : e = tkE f n b) (hv : v = nuV f n b e) (h : mayT w v) : psB c f n w p D = psC c f n e (us D w.toNat v) ∧ 0 ≤ v ∧ v ≤ 999 := by
  have hbn : b ≤ n := by subst hb; exact (run_in isB f hp).2
  have hc : b < n ∧ isD (f b) = true ∧ e - b ≤ 3 := by
    by_cases c1 : b < n ∧ isD (f b) = true ∧ e - b ≤ 3
    · exact c1
    · unfold nuV at hv
      rw [if_neg c1] at hv
      rw [hv] at h
      exact absurd h (may_neg hw.1 hw.2)
  have hv2 : v = numV f b (e - b) := by rw [hv]; unfold nuV; rw [if_pos hc]
  have t := tk_d hc.1 hc.2.1
  have r := numD hc.1 hc.2.1 (by rw [← he]; exact hc.2.2)
  rw [← he, ← hv2] at r
  refine ⟨?_, r⟩
  unfold psB
  rw [← hb, ← t.1, ← he, ← hv2]
  refine if_neg (fun z => ?_)
  rcases z with z | z | z
  · have := t.2; rw [← t.1, ← he] at this; omega
  · omega
  · exact z h
theorem ps_3e {f : Nat → Int} {n p b : Nat} {D : Nat → Int} {c : Nat → (Nat → Int) → PR} (hb : b = run isB f n p) (h : n ≤ b) : psC c f n p D = (D, -1) := by
  unfold psC
  rw [← hb, if_pos h]
theorem ps_3n {f : Nat → Int} {n p b : Nat} {D : Nat → Int} {c : Nat → (Nat → Int) → PR} (hb : b = run isB f n p) (h : b < n) (h2 : f b ≠ 59) : psC c f n p D = (D, (b : Int)) := by
  unfold psC
  rw [← hb, if_neg (by omega), if_pos h2]
theorem tk_59 {f : Nat → Int} {n b : Nat} (h : b < n) (h2 : f b = 59) : tkE f n b = b + 1 := by
  have e : run isL f n b = b := run_n (by rw [h2]; decide)
  have e2 : run isD f n b = b := run_n (by rw [h2]; decide)
  unfold tkE
  rw [e, e2, if_neg (Nat.lt_irrefl _), if_pos ⟨rfl, h⟩]
theorem ps_3y {f : Nat → Int} {n p b e : Nat} {D : Nat → Int} {c : Nat → (Nat → Int) → PR} (hb : b = run isB f n p) (he : e = tkE f n b) (h : b < n) (h2 : f b = 59) : psC c f n p D = c e D ∧ e = b + 1 := by
  rw [tk_59 h h2] at he
  refine ⟨?_, he⟩
  unfold psC
  rw [← hb, if_neg (by omega), if_neg (fun z => z h2), he]
theorem wd_in {w : List Int} (h : ∀ a ∈ w, 0 ≤ a ∧ a ≤ 127) (x : Nat) : 0 ≤ w.getD x 0 ∧ w.getD x 0 ≤ 127 := by
  rw [List.getD_eq_getElem?_getD]
  by_cases c : x < w.length
  · rw [List.getElem?_eq_getElem c]
    exact h _ (List.getElem_mem c)
  · rw [List.getElem?_eq_none (by omega)]
    exact ⟨by decide, by decide⟩
theorem psC_in {c : Nat → (Nat → Int) → PR} {f : Nat → Int} {n p : Nat} {D : Nat → Int} (hp : p ≤ n) (h : ∀ q D, q ≤ n → -1 ≤ (c q D).2 ∧ (c q D).2 ≤ n) : -1 ≤ (psC c f n p D).2 ∧ (psC c f n p D).2 ≤ n := by
  have b := run_in isB f hp
  unfold psC
  split
  · exact ⟨Int.le_refl _, by show (-1 : Int) ≤ _; omega⟩
  · split
    · exact ⟨by show (-1 : Int) ≤ ((run isB f n p : Nat) : Int); omega, by show ((run isB f n p : Nat) : Int) ≤ _; omega⟩
    · exact h _ _ (by omega)
theorem psB_in {c : Nat → (Nat → Int) → PR} {f : Nat → Int} {n p : Nat} {D : Nat → Int} {w : Int} (hp : p ≤ n) (h : ∀ q D, q ≤ n → -1 ≤ (c q D).2 ∧ (c q D).2 ≤ n) : -1 ≤ (psB c f n w p D).2 ∧ (psB c f n w p D).2 ≤ n := by
  have b := run_in isB f hp
  have d := run_in isD f b.2
  unfold psB
  split
  · exact ⟨by show (-1 : Int) ≤ ((run isB f n p : Nat) : Int); omega, by show ((run isB f n p : Nat) : Int) ≤ _; omega⟩
  · exact psC_in d.2 h
theorem psR_in {f : Nat → Int} {n : Nat} : ∀ (k p : Nat) (D : Nat → Int), p ≤ n → -1 ≤ (psR f n k p D).2 ∧ (psR f n k p D).2 ≤ n
  | 0, p, D, hp => ⟨Int.le_refl _, by show (-1 : Int) ≤ _; omega⟩
  | k + 1, p, D, hp => by
    have b := run_in isB f hp
    have d := run_in isL f b.2
    show -1 ≤ (ite _ _ _ : PR).2 ∧ (ite _ _ _ : PR).2 ≤ n
    split
    · exact ⟨by show (-1 : Int) ≤ ((run isB f n p : Nat) : Int); omega, by show ((run isB f n p : Nat) : Int) ≤ _; omega⟩
    · exact psB_in d.2 (fun q D hq => psR_in k q D hq)
/-- signs put at the end of the tape -/
def apS (F : Nat → Int) (s : Nat) (v n : Int) (k : Nat) : Nat → Int := fun j => if s ≤ j ∧ j < s + k then jb (jshr v (8 * (n - 1 - ((j - s : Nat) : Int)))) else F j
theorem apS_0 {F : Nat → Int} {s : Nat} {v n : Int} : apS F s v n 0 = F := by
  funext j
  unfold apS
  rw [if_neg (by omega)]
theorem apS_s {F : Nat → Int} {s k : Nat} {v n i : Int} (h : i = n - 1 - k) : us (apS F s v n k) (s + k) (jb (jshr v (8 * i))) = apS F s v n (k + 1) := by
  subst h
  funext j
  unfold us apS
  by_cases e : j = s + k
  · subst e
    rw [if_pos rfl, if_pos ⟨by omega, by omega⟩, show s + k - s = k by omega]
  · rw [if_neg e]
    by_cases c : s ≤ j ∧ j < s + k
    · rw [if_pos c, if_pos ⟨by omega, by omega⟩]
    · rw [if_neg c, if_neg (by omega)]
theorem nuV_in {f : Nat → Int} {n b e : Nat} (he : e = tkE f n b) : -1 ≤ nuV f n b e ∧ nuV f n b e ≤ 999 := by
  unfold nuV
  split
  · next c =>
    subst he
    have := numD c.1 c.2.1 c.2.2
    omega
  · omega
/-- runs, kept out of sight -/
def RQ (c : Int → Bool) (f : Nat → Int) (n p g : Nat) : Prop := run c f n p = run c f n g
def RV (c : Int → Bool) (f : Nat → Int) (n p v : Nat) : Prop := run c f n p = v
theorem rq0 {c : Int → Bool} {f : Nat → Int} {n p : Nat} : RQ c f n p p := rfl
theorem rq0e {c : Int → Bool} {f : Nat → Int} {n p q : Nat} (h : q = p) : RQ c f n p q := by subst h; rfl
theorem rqs {c : Int → Bool} {f : Nat → Int} {n p : Nat} {g : Int} (h : RQ c f n p g.toNat) (h0 : 0 ≤ g) (hg : g.toNat < n) (hc : c (f g.toNat) = true) : RQ c f n p (g + 1).toNat := by
  rw [tn1 h0]
  exact Eq.trans h (run_y hg hc)
theorem rve {c : Int → Bool} {f : Nat → Int} {n p g : Nat} (h : RQ c f n p g) (hg : n ≤ g) : RV c f n p g := Eq.trans h (run_e hg)
theorem rvn {c : Int → Bool} {f : Nat → Int} {n p g : Nat} (h : RQ c f n p g) (hc : ¬ c (f g) = true) : RV c f n p g := Eq.trans h (run_n hc)
theorem fb_ {f : Nat → Int} {n p : Nat} {g : Int} (h : RV isB f n p g.toNat) (h0 : 0 ≤ g) : ((run isB f n p : Nat) : Int) = g := by
  have q : run isB f n p = g.toNat := h
  rw [q]
  omega
theorem fe1_ {f : Nat → Int} {n p b : Nat} {h : Int} (h1 : RV isB f n p b) (h2 : RV isL f n b h.toNat) (c : b < h.toNat) (h0 : 0 ≤ h) : ((tkE f n (run isB f n p) : Nat) : Int) = h := by
  have q1 : run isB f n p = b := h1
  have q2 : run isL f n b = h.toNat := h2
  rw [q1]
  unfold tkE
  rw [q2, if_pos c]
  omega
theorem fe2_ {f : Nat → Int} {n p b hh : Nat} {d : Int} (h1 : RV isB f n p b) (h2 : RV isL f n b hh) (c : ¬ b < hh) (h3 : RV isD f n b d.toNat) (c2 : ¬ (d.toNat = b ∧ b < n)) (h0 : 0 ≤ d) : ((tkE f n (run isB f n p) : Nat) : Int) = d := by
  have q1 : run isB f n p = b := h1
  have q2 : run isL f n b = hh := h2
  have q3 : run isD f n b = d.toNat := h3
  rw [q1]
  unfold tkE
  rw [q2, if_neg c, q3, if_neg c2]
  omega
theorem fe3_ {f : Nat → Int} {n p b hh : Nat} {d : Int} (h1 : RV isB f n p b) (h2 : RV isL f n b hh) (c : ¬ b < hh) (h3 : RV isD f n b d.toNat) (c2 : d.toNat = b ∧ b < n) (h0 : 0 ≤ d) : ((tkE f n (run isB f n p) : Nat) : Int) = d + 1 := by
  have q1 : run isB f n p = b := h1
  have q2 : run isL f n b = hh := h2
  have q3 : run isD f n b = d.toNat := h3
  rw [q1]
  unfold tkE
  rw [q2, if_neg c, q3, if_pos c2]
  omega
theorem stf_a {M : Mem} {g h a b : Int} (h1 : a = g) (h2 : b = h) : up (up M 3 2 g) 3 3 h = up (up M 3 2 a) 3 3 b := by rw [h1, h2]
theorem stf_b {M : Mem} {g d h a b : Int} (h1 : a = g) (h2 : b = h) : up (up (up M 3 2 g) 3 3 d) 3 3 h = up (up M 3 2 a) 3 3 b := by
  rw [h1, h2, up_sr (M := up (up M 3 2 g) 3 3 d), up_sr (M := up M 3 2 g) (x := d), up_sr (M := up M 3 2 g) (x := h), sr_k, sr_sr, us_us]
theorem fe1i {f : Nat → Int} {N g h : Int} {p : Nat} (h1 : RV isB f N.toNat p g.toNat) (h2 : RV isL f N.toNat g.toNat h.toNat) (c : g < h) (h0 : 0 ≤ g) : ((tkE f N.toNat (run isB f N.toNat p) : Nat) : Int) = h := fe1_ h1 h2 (by omega) (by omega)
theorem fe2i {f : Nat → Int} {N g h d : Int} {p : Nat} (h1 : RV isB f N.toNat p g.toNat) (h2 : RV isL f N.toNat g.toNat h.toNat) (c : ¬ g < h) (h3 : RV isD f N.toNat g.toNat d.toNat) (c2 : ¬ (d = g ∧ g < N)) (h0 : 0 ≤ g) (hd : g ≤ d) : ((tkE f N.toNat (run isB f N.toNat p) : Nat) : Int) = d := fe2_ h1 h2 (by omega) h3 (by omega) (by omega)
theorem fe3i {f : Nat → Int} {N g h d : Int} {p : Nat} (h1 : RV isB f N.toNat p g.toNat) (h2 : RV isL f N.toNat g.toNat h.toNat) (c : ¬ g < h) (h3 : RV isD f N.toNat g.toNat d.toNat) (c2 : d = g ∧ g < N) (h0 : 0 ≤ g) : ((tkE f N.toNat (run isB f N.toNat p) : Nat) : Int) = d + 1 := fe3_ h1 h2 (by omega) h3 (by omega) (by omega)
theorem fbi {f : Nat → Int} {N g : Int} {p : Nat} (h : RV isB f N.toNat p g.toNat) (h0 : 0 ≤ g) : ((run isB f N.toNat p : Nat) : Int) = g := fb_ h h0
theorem rvei {c : Int → Bool} {f : Nat → Int} {N g : Int} {p : Nat} (h : RQ c f N.toNat p g.toNat) (hg : N ≤ g) : RV c f N.toNat p g.toNat := rve h (by omega)
theorem rqsi {c : Int → Bool} {f : Nat → Int} {N g : Int} {p : Nat} (h : RQ c f N.toNat p g.toNat) (h0 : 0 ≤ g) (hg : g < N) (hc : c (f g.toNat) = true) : RQ c f N.toNat p (g + 1).toNat := rqs h h0 (by omega) hc
theorem rq0i {c : Int → Bool} {f : Nat → Int} {n : Nat} {p q : Int} (h : q = p) : RQ c f n p.toNat q.toNat := by subst h; rfl
