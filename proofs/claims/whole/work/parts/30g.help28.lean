/-! the shelves -/
theorem rel_sh {n : Nat} {A A' B B' : Mem} (h : Rel n A B) (eA : ∀ a, a < 97 → A' a = A a) (eB : ∀ a, 204 ≤ a ∨ a = 200 → B' a = B a) (hs : SH A' B') : Rel n A' B' := by
  have e1 : (fun a => if a < 97 then A' a else A a) = A := by
    funext a
    by_cases c : a < 97
    · rw [if_pos c]; exact eA a c
    · rw [if_neg c]
  have e2 : (fun a => if 204 ≤ a ∨ a = 200 then B' a else B a) = B := by
    funext a
    by_cases c : 204 ≤ a ∨ a = 200
    · rw [if_pos c]; exact eB a c
    · rw [if_neg c]
  have k1 : EQ (fun a => if a < 97 then A' a else A a) (fun a => if 204 ≤ a ∨ a = 200 then B' a else B a) := by rw [e1, e2]; exact r_eq h
  have k2 : HI n (fun a => if a < 97 then A' a else A a) := by rw [e1]; exact r_hi h
  have k3 : IM n (fun a => if a < 97 then A' a else A a) (fun a => if 204 ≤ a ∨ a = 200 then B' a else B a) := by rw [e1, e2]; exact r_im h
  have k5 : TP (fun a => if a < 97 then A' a else A a) (fun a => if 204 ≤ a ∨ a = 200 then B' a else B a) := by rw [e1, e2]; exact r_tp h
  have k6 : RF n (fun a => if a < 97 then A' a else A a) (fun a => if 204 ≤ a ∨ a = 200 then B' a else B a) := by rw [e1, e2]; exact r_rf h
  exact rel_mk k1 k2 k3 hs k5 k6
theorem sh_upd {A B A' B' : Mem} {s : Nat} (hs : s < 8) (h : SH A B) (e6 : A' 6 = A 6) (ho : ∀ t, t < 8 → t ≠ s → A' (1 + 96 + 2 * t) = A (1 + 96 + 2 * t) ∧ A' (1 + 96 + 2 * t + 1) = A (1 + 96 + 2 * t + 1) ∧ B' 201 t = B 201 t ∧ B' 202 t = B 202 t ∧ ∀ i : Nat, i < 40 → B' 203 (40 * t + i) = B 203 (40 * t + i)) (hn : SHs A' B' s) : SH A' B' := fun t ht => by
  by_cases c : t = s
  · subst c; exact hn
  · have q := h t ht
    obtain ⟨a1, a2, a3, a4, a5⟩ := ho t ht c
    unfold SHs at q ⊢
    rw [a1, a2, a3, a4, e6]
    exact ⟨q.1, q.2.1, fun i hi => by rw [a5 i hi]; exact q.2.2 i hi⟩
theorem rel_row {n : Nat} {A B : Mem} (h : Rel n A B) {s so m : Int} (h1 : 0 ≤ s ∧ s ≤ 7) (h2 : 0 ≤ so ∧ so ≤ 4) (h3 : 0 ≤ m ∧ m ≤ 40) : Rel n (tkR A s so m) (cp (up (up B 201 s.toNat (100 + so)) 202 s.toNat m) 203 (fun _ => 0) 0 (40 * s).toNat 40) := by
  obtain ⟨k, hk⟩ : ∃ k : Nat, s.toNat = k := ⟨_, rfl⟩
  rw [show (40 * s).toNat = 40 * k by omega]
  show Rel n (cp (up (up A (1 + 96 + 2 * s.toNat) 1 so) (1 + 96 + 2 * s.toNat) 2 m) (1 + 96 + 2 * s.toNat + 1) (fun _ => 0) 0 0 40) _
  rw [hk]
  refine rel_sh h (fun a ha => by rw [cp_o (by omega), up_o (by omega), up_o (by omega)]) (fun a ha => by rw [cp_o (by omega), up_o (by omega), up_o (by omega)]) (sh_upd (s := k) (by omega) (r_sh h) (by rw [cp_o (by omega), up_o (by omega), up_o (by omega)]) (fun t ht hn => ⟨by rw [cp_o (by omega), up_o (by omega), up_o (by omega)], by rw [cp_o (by omega), up_o (by omega), up_o (by omega)], ?_, ?_, fun i hi => ?_⟩) ?_)
  · rw [cp_o (by omega), up_o (by omega), up_k, us_o hn]
  · rw [cp_o (by omega), up_k, us_o hn, up_o (by omega)]
  · rw [cp_k]
    unfold cpf
    rw [if_neg (by omega), up_o (by omega), up_o (by omega)]
  · unfold SHs
    have e1 : cp (up (up A (1 + 96 + 2 * k) 1 so) (1 + 96 + 2 * k) 2 m) (1 + 96 + 2 * k + 1) (fun _ => 0) 0 0 40 (1 + 96 + 2 * k) = us (us (A (1 + 96 + 2 * k)) 1 so) 2 m := by rw [cp_o (by omega), up_k, up_k]
    have e2 : cp (up (up B 201 k (100 + so)) 202 k m) 203 (fun _ => 0) 0 (40 * k) 40 201 = us (B 201) k (100 + so) := by rw [cp_o (by omega), up_o (by omega), up_k]
    have e3 : cp (up (up B 201 k (100 + so)) 202 k m) 203 (fun _ => 0) 0 (40 * k) 40 202 = us (B 202) k m := by rw [cp_o (by omega), up_k, up_o (by omega)]
    rw [e1, e2, e3, us_k, us_k, us_k, us_o (by decide), us_k]
    refine ⟨by omega, by omega, fun i hi => ?_⟩
    rw [cp_k, cp_k]
    unfold cpf
    rw [if_pos (by omega), if_pos (by omega)]
theorem rel_set {n : Nat} {A B : Mem} (h : Rel n A B) {s i v : Int} (h1 : 0 ≤ s ∧ s ≤ 7) (h2 : 0 ≤ i ∧ i < 40) : Rel n (up A (1 + 96 + 2 * s.toNat + 1) i.toNat v) (up B 203 (40 * s + i).toNat v) := by
  obtain ⟨k, hk⟩ : ∃ k : Nat, s.toNat = k := ⟨_, rfl⟩
  rw [show (40 * s + i).toNat = 40 * k + i.toNat by omega, hk]
  refine rel_sh h (fun a ha => by rw [up_o (by omega)]) (fun a ha => by rw [up_o (by omega)]) (sh_upd (s := k) (by omega) (r_sh h) (by rw [up_o (by omega)]) (fun t ht hn => ⟨by rw [up_o (by omega)], by rw [up_o (by omega)], by rw [up_o (by omega)], by rw [up_o (by omega)], fun j hj => ?_⟩) ?_)
  · rw [up_k, us_o (by omega)]
  · have q := r_sh h k (by omega)
    unfold SHs at q ⊢
    rw [up_o (by omega : 1 + 96 + 2 * k ≠ 1 + 96 + 2 * k + 1), up_o (by omega : 6 ≠ 1 + 96 + 2 * k + 1), up_o (by decide : 201 ≠ 203), up_o (by decide : 202 ≠ 203)]
    refine ⟨q.1, q.2.1, fun j hj => ?_⟩
    rw [up_k, up_k]
    by_cases c : j = i.toNat
    · subst c; rw [us_k, us_k]
    · rw [us_o (by omega), us_o c]; exact q.2.2 j hj
theorem rel_show {n : Nat} {A B : Mem} (h : Rel n A B) {s x y : Int} (h1 : 0 ≤ s ∧ s ≤ 7) (h2 : (x = -1 ∧ y = -1) ∨ ((10 ≤ x ∧ x < 10 + A 6 6) ∧ y = x - 10)) : Rel n (up A (1 + 96 + 2 * s.toNat) 1 x) (up B 201 s.toNat y) := by
  obtain ⟨k, hk⟩ : ∃ k : Nat, s.toNat = k := ⟨_, rfl⟩
  rw [hk]
  refine rel_sh h (fun a ha => by rw [up_o (by omega)]) (fun a ha => by rw [up_o (by omega)]) (sh_upd (s := k) (by omega) (r_sh h) (by rw [up_o (by omega)]) (fun t ht hn => ⟨by rw [up_o (by omega)], by rw [up_o (by omega)], by rw [up_k, us_o hn], by rw [up_o (by omega)], fun j hj => by rw [up_o (by decide)]⟩) ?_)
  have q := r_sh h k (by omega)
  unfold SHs at q ⊢
  rw [up_k, up_k, us_k, us_k, us_o (by decide), up_o (by omega : 6 ≠ 1 + 96 + 2 * k), up_o (by decide : 202 ≠ 201), up_o (by decide : 203 ≠ 201), up_o (by omega : 1 + 96 + 2 * k + 1 ≠ 1 + 96 + 2 * k)]
  refine ⟨by omega, q.2.1, q.2.2⟩
theorem rel_copy {n : Nat} {A B : Mem} (h : Rel n A B) {p q i j m : Int} (h1 : 0 ≤ p ∧ p ≤ 7) (h2 : 0 ≤ q ∧ q ≤ 7) (h3 : 0 ≤ i ∧ 0 ≤ j ∧ 0 ≤ m) (h4 : i + m ≤ 40) (h5 : j + m ≤ 40) : Rel n (cp A (1 + 96 + 2 * q.toNat + 1) (A (1 + 96 + 2 * p.toNat + 1)) i.toNat j.toNat m.toNat) (cp B 203 (B 203) (40 * p + i).toNat (40 * q + j).toNat m.toNat) := by
  obtain ⟨k, hk⟩ : ∃ k : Nat, q.toNat = k := ⟨_, rfl⟩
  obtain ⟨k2, hk2⟩ : ∃ k : Nat, p.toNat = k := ⟨_, rfl⟩
  rw [show (40 * p + i).toNat = 40 * k2 + i.toNat by omega, show (40 * q + j).toNat = 40 * k + j.toNat by omega, hk, hk2]
  refine rel_sh h (fun a ha => by rw [cp_o (by omega)]) (fun a ha => by rw [cp_o (by omega)]) (sh_upd (s := k) (by omega) (r_sh h) (by rw [cp_o (by omega)]) (fun t ht hn => ⟨by rw [cp_o (by omega)], by rw [cp_o (by omega)], by rw [cp_o (by decide)], by rw [cp_o (by decide)], fun x hx => ?_⟩) ?_)
  · rw [cp_k]
    unfold cpf
    rw [if_neg (by omega)]
  · have w := r_sh h k (by omega)
    have w2 := (r_sh h k2 (by omega)).2.2
    unfold SHs at w ⊢
    rw [cp_o (by omega : 1 + 96 + 2 * k ≠ 1 + 96 + 2 * k + 1), cp_o (by omega : 6 ≠ 1 + 96 + 2 * k + 1), cp_o (by decide : 201 ≠ 203), cp_o (by decide : 202 ≠ 203)]
    refine ⟨w.1, w.2.1, fun x hx => ?_⟩
    rw [cp_k, cp_k]
    unfold cpf
    by_cases c : j.toNat ≤ x ∧ x < j.toNat + m.toNat
    · rw [if_pos (by omega), if_pos c, ← w2 (i.toNat + (x - j.toNat)) (by omega)]
      congr 1
      omega
    · rw [if_neg (by omega), if_neg c]
      exact w.2.2 x hx
/-- things of a row -/
theorem rel_things {n : Nat} {A B : Mem} (h : Rel n A B) {f g : Nat → Int} {k : Int} (hk : 0 ≤ k ∧ k ≤ 5) : ∀ i : Nat, A 6 6 + i ≤ 30 → (∀ j : Nat, j < i → (0 ≤ f j ∧ f j ≤ 999) ∧ g j = f j) → Rel n (thsM A f k i) (thsR B g k i)
  | 0, _, _ => h
  | i + 1, h1, h2 => by
    have ih := rel_things h (g := g) hk i (by omega) (fun j hj => h2 j (by omega))
    have q := h2 i (Nat.lt_succ_self _)
    have c := thsM_66 A f k i
    have e : thsR B g k (i + 1) = addM (thsR B g k i) k (f i) 0 := by rw [← q.2]; rfl
    rw [e]
    exact rel_thing ih k (f i) 0 (by omega) (by omega)
/-! the tape -/
theorem tp_byteA : ∀ n : Fin 256, tpR (BitVec.toInt (BitVec.ofNat 8 n.val)) (n.val : Int) := by
  intro n
  have h : ∀ n : Fin 256, (BitVec.toInt (BitVec.ofNat 8 n.val) = (n.val : Int) ∧ 0 ≤ (n.val : Int) ∧ (n.val : Int) ≤ 127) ∨ (BitVec.toInt (BitVec.ofNat 8 n.val) < 0 ∧ 128 ≤ (n.val : Int)) := by decide +kernel
  exact h n
theorem tp_byte (x : Int) : tpR (jb x) (jand x 255) := by
  have e1 : jb x = BitVec.toInt (BitVec.ofNat 8 ((Int32.ofInt x).toBitVec.toNat % 256)) := by
    unfold jb
    rw [Int8.toInt_toInt32]
    show BitVec.toInt ((Int32.ofInt x).toBitVec.signExtend 8) = _
    congr 1
    apply BitVec.eq_of_toNat_eq
    rw [BitVec.toNat_ofNat, Nat.mod_mod]
    have : (BitVec.signExtend 8 (Int32.ofInt x).toBitVec) = BitVec.setWidth 8 (Int32.ofInt x).toBitVec := BitVec.signExtend_eq_setWidth_of_le _ (by decide)
    rw [this, BitVec.toNat_setWidth]
  have e2 : jand x 255 = (((Int32.ofInt x).toBitVec.toNat % 256 : Nat) : Int) := by
    unfold jand
    have e : (Int32.ofInt x &&& Int32.ofInt 255).toBitVec.toNat = (Int32.ofInt x).toBitVec.toNat % 256 := by
      rw [Int32.toBitVec_and, BitVec.toNat_and]
      show _ &&& 255 = _
      exact Nat.and_two_pow_sub_one_eq_mod _ 8
    have l : (Int32.ofInt x).toBitVec.toNat % 256 < 2147483648 := by omega
    rw [i32_nat (by rw [e]; exact l), e]
  rw [e1, e2]
  exact tp_byteA ⟨(Int32.ofInt x).toBitVec.toNat % 256, by omega⟩
theorem rel_feed {n : Nat} {A B : Mem} (h : Rel n A B) {v m : Int} (h1 : 1 ≤ m ∧ m ≤ 4) (h2 : A 3 1 + m ≤ 120) : Rel n (up (sr A 4 (apS (A 4) (A 3 1).toNat v m m.toNat)) 3 1 (A 3 1 + m)) (up (sr B 218 (apR (B 218) (B 200 16).toNat v m m.toNat)) 200 16 (B 200 16 + m)) := by
  have t := r_tp h
  have t2 : B 200 16 = A 3 1 := t.2.1
  refine rel_mk (r_eq (A := A) (B := B) h) (r_hi (A := A) (B := B) h) (r_im (A := A) (B := B) h) (sh_same (r_sh h) (Int.le_refl _) (sa_up (by decide) (sa_sr (by decide) sa_0)) rfl rfl rfl) ⟨?_, ?_, fun j hj => ?_⟩ (r_rf (A := A) (B := B) h)
  · show 0 ≤ A 3 1 + m ∧ A 3 1 + m ≤ 120
    have := t.1
    omega
  · show B 200 16 + m = A 3 1 + m
    omega
  · have hj2 : (j : Int) < A 3 1 + m := hj
    show tpR (apS (A 4) (A 3 1).toNat v m m.toNat j) (apR (B 218) (B 200 16).toNat v m m.toNat j)
    have t0 := t.1
    unfold apS apR
    rw [t2]
    by_cases c : (A 3 1).toNat ≤ j ∧ j < (A 3 1).toNat + m.toNat
    · rw [if_pos c, if_pos c]
      exact tp_byte _
    · rw [if_neg c, if_neg c]
      exact t.2.2 j (by omega)
/-- signs that mean the same -/
theorem tp_c {x y : Int} (h : tpR x y) : isB x = isB y ∧ isL x = isL y ∧ isD x = isD y ∧ (x = 59 ↔ y = 59) := by
  rcases h with ⟨rfl, -⟩ | ⟨h1, h2⟩
  · exact ⟨rfl, rfl, rfl, Iff.rfl⟩
  · refine ⟨?_, ?_, ?_, by omega⟩
    · unfold isB; exact decide_eq_decide.mpr (by omega)
    · unfold isL; exact decide_eq_decide.mpr (by omega)
    · unfold isD; exact decide_eq_decide.mpr (by omega)
theorem runN_eq {c : Int → Bool} {f g : Nat → Int} : ∀ k p, (∀ j, p ≤ j → j < p + k → c (f j) = c (g j)) → runN c f k p = runN c g k p
  | 0, _, _ => rfl
  | k + 1, p, h => by
    show (if c (f p) = true then _ else _) = (if c (g p) = true then _ else _)
    rw [h p (Nat.le_refl _) (by omega), runN_eq k (p + 1) (fun j h1 h2 => h j (by omega) (by omega))]
theorem run_eq {c : Int → Bool} {f g : Nat → Int} {n p : Nat} (h : ∀ j, j < n → c (f j) = c (g j)) : run c f n p = run c g n p := runN_eq (n - p) p (fun j h1 h2 => h j (by omega))
theorem wdIs_eq {f g : Nat → Int} {n b e : Nat} {w : List Int} (hw : w ∈ wdL) (he : e ≤ n) (h : ∀ j, j < n → tpR (f j) (g j)) : wdIs f b e w ↔ wdIs g b e w := by
  have hc : ∀ w ∈ wdL, ∀ j : Nat, 0 ≤ w.getD j 0 ∧ w.getD j 0 ≤ 127 := by
    intro w hw j
    have : ∀ w ∈ wdL, ∀ a ∈ w, 0 ≤ a ∧ a ≤ 127 := by decide
    exact wd_in (this w hw) j
  unfold wdIs
  constructor
  · rintro ⟨h1, h2, h3⟩
    refine ⟨h1, h2, fun j hj => ?_⟩
    have a := h3 j hj
    have b1 := hc w hw j
    have t := h (b + j) (by omega)
    unfold tpR at t
    omega
  · rintro ⟨h1, h2, h3⟩
    refine ⟨h1, h2, fun j hj => ?_⟩
    have a := h3 j hj
    have b1 := hc w hw j
    have t := h (b + j) (by omega)
    unfold tpR at t
    omega
theorem wdN_eq {f g : Nat → Int} {n b e : Nat} (he : e ≤ n) (h : ∀ j, j < n → tpR (f j) (g j)) : wdN f b e = wdN g b e := by
  unfold wdN
  rw [propext (wdIs_eq (w := [107, 110, 111, 119, 110]) (by decide) he h), propext (wdIs_eq (w := [115, 116, 114, 97, 110, 103, 101]) (by decide) he h), propext (wdIs_eq (w := [114, 111, 117, 110, 100]) (by decide) he h), propext (wdIs_eq (w := [108, 101, 97, 115, 116]) (by decide) he h), propext (wdIs_eq (w := [109, 111, 115, 116]) (by decide) he h)]
theorem numV_eq {f g : Nat → Int} {b : Nat} : ∀ k, (∀ j, j < k → f (b + j) = g (b + j)) → numV f b k = numV g b k
  | 0, _ => rfl
  | k + 1, h => by
    unfold numV
    rw [numV_eq k (fun j hj => h j (by omega)), h k (Nat.lt_succ_self _)]
theorem dig_same {x y : Int} (h : tpR x y) (hd : isD y = true) : x = y := by
  rcases h with h | h
  · exact h.1
  · have := isD_i.mp hd
    omega
/-- reading: the same but for what is behind a law's five numbers -/
def PE (x y : PR) : Prop := (∀ j, j < 5 → x.1 j = y.1 j) ∧ x.2 = y.2
theorem psC_eq {c c' : Nat → (Nat → Int) → PR} {f g : Nat → Int} {n p : Nat} {D D' : Nat → Int} (h : ∀ j, j < n → tpR (f j) (g j)) (hD : ∀ j, j < 5 → D j = D' j) (hp : p ≤ n) (hc : ∀ q D D', q ≤ n → (∀ j, j < 5 → D j = D' j) → PE (c q D) (c' q D')) : PE (psC c f n p D) (psC c' g n p D') := by
  have e : run isB f n p = run isB g n p := run_eq (fun j hj => (tp_c (h j hj)).1)
  have hb := run_in isB g hp
  unfold psC
  rw [e]
  by_cases z : n ≤ run isB g n p
  · rw [if_pos z, if_pos z]
    exact ⟨hD, rfl⟩
  · rw [if_neg z, if_neg z]
    have t := (tp_c (h (run isB g n p) (by omega))).2.2.2
    by_cases z2 : g (run isB g n p) = 59
    · rw [if_neg (fun q => q (t.mpr z2)), if_neg (fun q => q z2)]
      exact hc _ _ _ (by omega) hD
    · rw [if_pos (fun q => z2 (t.mp q)), if_pos z2]
      exact ⟨hD, rfl⟩
theorem psB_eq {c c' : Nat → (Nat → Int) → PR} {f g : Nat → Int} {n p : Nat} {w : Int} {D D' : Nat → Int} (h : ∀ j, j < n → tpR (f j) (g j)) (hD : ∀ j, j < 5 → D j = D' j) (hp : p ≤ n) (hc : ∀ q D D', q ≤ n → (∀ j, j < 5 → D j = D' j) → PE (c q D) (c' q D')) : PE (psB c f n w p D) (psB c' g n w p D') := by
  have e : run isB f n p = run isB g n p := run_eq (fun j hj => (tp_c (h j hj)).1)
  have hb := run_in isB g hp
  have e2 : run isD f n (run isB g n p) = run isD g n (run isB g n p) := run_eq (fun j hj => (tp_c (h j hj)).2.2.1)
  have hd := run_in isD g hb.2
  unfold psB
  rw [e, e2]
  have ev : numV f (run isB g n p) (run isD g n (run isB g n p) - run isB g n p) = numV g (run isB g n p) (run isD g n (run isB g n p) - run isB g n p) := numV_eq _ (fun j hj => dig_same (h _ (by omega)) (run_all (n - run isB g n p) (run isB g n p) rfl _ (by omega) (by omega)))
  rw [ev]
  by_cases z : run isD g n (run isB g n p) = run isB g n p ∨ 3 < run isD g n (run isB g n p) - run isB g n p ∨ ¬ mayT w (numV g (run isB g n p) (run isD g n (run isB g n p) - run isB g n p))
  · rw [if_pos z, if_pos z]
    exact ⟨hD, rfl⟩
  · rw [if_neg z, if_neg z]
    refine psC_eq h (fun j hj => ?_) hd.2 hc
    unfold us
    split
    · rfl
    · exact hD j hj
theorem psR_eq {f g : Nat → Int} {n : Nat} (h : ∀ j, j < n → tpR (f j) (g j)) : ∀ (k p : Nat) (D D' : Nat → Int), p ≤ n → (∀ j, j < 5 → D j = D' j) → PE (psR f n k p D) (psR g n k p D')
  | 0, p, D, D', _, hD => ⟨hD, rfl⟩
  | k + 1, p, D, D', hp, hD => by
    have e : run isB f n p = run isB g n p := run_eq (fun j hj => (tp_c (h j hj)).1)
    have hb := run_in isB g hp
    have e2 : run isL f n (run isB g n p) = run isL g n (run isB g n p) := run_eq (fun j hj => (tp_c (h j hj)).2.1)
    have hl := run_in isL g hb.2
    show PE (ite _ _ _) (ite _ _ _)
    rw [e, e2, wdN_eq hl.2 h]
    by_cases z : wdN g (run isB g n p) (run isL g n (run isB g n p)) = -1
    · rw [if_pos z, if_pos z]
      exact ⟨hD, rfl⟩
    · rw [if_neg z, if_neg z]
      exact psB_eq h hD hl.2 (fun q D D' hq hD => psR_eq h k q D D' hq hD)
