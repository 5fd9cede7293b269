/-! a day under way: both sides -/
def R7eq (n bn : Nat) (s t : R7) : Prop := (∀ j, j < n → (s.1 j = 0 ↔ t.1 j = 0)) ∧ (∀ b, b < bn → s.2.1 b = t.2.1 b) ∧ s.2.2 = t.2.2
theorem buyG_eq {P K T hr ks ey : Nat → Int} {n bn : Nat} {half bag hour : Int} {b : Nat} {s t : R7} (h : R7eq n bn s t) (hb : b < bn) : R7eq n bn (buyG P K T hr ks ey n half bag hour b s) (buyG P K T hr ks ey n half bag hour b t) := by
  obtain ⟨h1, h2, h3⟩ := h
  have e : choR P K T hr ks ey n half bag hour b s.1 s.2.1 = choR P K T hr ks ey n half bag hour b t.1 t.2.1 := choR_eq (s := (s.1, s.2.1, 0)) (t := (t.1, t.2.1, 0)) (bn := bn) ⟨h1, h2⟩ hb
  by_cases c : choR P K T hr ks ey n half bag hour b s.1 s.2.1 < 0
  · rw [buyG_n c, buyG_n (by rw [← e]; exact c)]
    exact ⟨h1, h2, h3⟩
  · rw [buyG_y rfl c, buyG_y e (by exact c)]
    obtain ⟨s1, s2, s3⟩ := s
    obtain ⟨t1, t2, t3⟩ := t
    have h3' : s3 = t3 := h3
    subst h3'
    refine ⟨fun j hj => ?_, fun x hx => ?_, rfl⟩
    · show us s1 _ 1 j = 0 ↔ us t1 _ 1 j = 0
      unfold us
      split
      · exact Iff.rfl
      · exact h1 j hj
    · show us s2 b _ x = us t2 b _ x
      have e2 : s2 b = t2 b := h2 b hb
      unfold us
      split
      · show s2 b - _ = t2 b - _
        rw [e2]
      · exact h2 x hx
theorem hrG_eq {P K T hr ks ey : Nat → Int} {n bn : Nat} {half bag hour : Int} {s t : R7} (h : R7eq n bn s t) : ∀ b : Nat, b ≤ bn → R7eq n bn (hrG P K T hr ks ey n half bag hour s b) (hrG P K T hr ks ey n half bag hour t b)
  | 0, _ => h
  | b + 1, hb => buyG_eq (hrG_eq h b (by omega)) (by omega)
theorem dyG_eq {P K T hr ks ey : Nat → Int} {n bn : Nat} {half bag h0 : Int} {s t : R7} (h : R7eq n bn s t) : ∀ d : Nat, R7eq n bn (dyG P K T hr ks ey n bn half bag h0 s d) (dyG P K T hr ks ey n bn half bag h0 t d)
  | 0 => h
  | d + 1 => hrG_eq (dyG_eq h d) bn (Nat.le_refl _)
/-- who is sold was paid for -/
def PDk (s : R7) : Prop := ∀ j : Nat, j < 30 → ¬ s.2.2.2.2.1 j = -1 → 0 ≤ s.2.2.2.2.2.1 j
theorem buyG_pd {P K T hr ks ey : Nat → Int} {n : Nat} {half bag hour : Int} {b : Nat} {s : R7} (hP : ∀ j, j < n → P j ≤ 999) (h : PDk s) : PDk (buyG P K T hr ks ey n half bag hour b s) := by
  by_cases c : choR P K T hr ks ey n half bag hour b s.1 s.2.1 < 0
  · rw [buyG_n c]; exact h
  · have o := choR_ok (P := P) (K := K) (T := T) (hr := hr) (ks := ks) (ey := ey) (n := n) (half := half) (bag := bag) (hour := hour) (b := b) (av := s.1) (pu := s.2.1) rfl c
    rw [buyG_y rfl c]
    intro j hj hz
    have hz2 : ¬ us s.2.2.2.2.1 (choR P K T hr ks ey n half bag hour b s.1 s.2.1).toNat b j = -1 := hz
    show 0 ≤ us s.2.2.2.2.2.1 (choR P K T hr ks ey n half bag hour b s.1 s.2.1).toNat _ j
    by_cases e : j = (choR P K T hr ks ey n half bag hour b s.1 s.2.1).toNat
    · rw [e, us_k]
      exact (cst_in o.1 (hP _ (by omega))).1
    · rw [us_o e] at hz2 ⊢
      exact h j hj hz2
theorem hrG_pd {P K T hr ks ey : Nat → Int} {n : Nat} {half bag hour : Int} {s : R7} (hP : ∀ j, j < n → P j ≤ 999) (h : PDk s) : ∀ b : Nat, PDk (hrG P K T hr ks ey n half bag hour s b)
  | 0 => h
  | b + 1 => buyG_pd hP (hrG_pd hP h b)
theorem dyG_pd {P K T hr ks ey : Nat → Int} {n bn : Nat} {half bag h0 : Int} {s : R7} (hP : ∀ j, j < n → P j ≤ 999) (h : PDk s) : ∀ d : Nat, PDk (dyG P K T hr ks ey n bn half bag h0 s d)
  | 0 => h
  | d + 1 => hrG_pd hP (dyG_pd hP h d) bn
theorem rel_go {n : Nat} {A B : Mem} (h : Rel n A B) {b d p m : Nat → Int} {k x : Int} (hb : ∀ j : Nat, j < 30 → -1 ≤ b j ∧ b j ≤ 11) (hd : ∀ j : Nat, j < 30 → -1 ≤ d j ∧ d j ≤ 999) (hpd : ∀ j : Nat, j < 30 → ¬ b j = -1 → 0 ≤ d j) (hp : ∀ j : Nat, j < 12 → 0 ≤ p j ∧ p j ≤ 9999) (hm : ∀ j : Nat, j < 12 → 0 ≤ m j ∧ m j ≤ 12 * (n + 1 : Nat)) (hk : 0 ≤ k ∧ A 5 10 + k ≤ 12) (hx : 0 ≤ x ∧ x ≤ 144000) {a1 a2 a3 a4 a5 a6 a7 b1 b2 : Nat → Int} :
    Rel (n + 1) (sr (sr (sr (sr (sr (sr (sr (sr (sr (sr (sr (sr A 5 (us (us (A 5) 10 (A 5 10 + k)) 11 (A 5 11 + x))) 11 b) 12 d) 23 p) 26 m) 87 a1) 88 a2) 89 a3) 90 a4) 91 a5) 92 a6) 93 a7) (sr (sr (sr (sr (sr (sr (sr B 209 b) 210 d) 221 p) 224 m) 236 (us (us (B 236) 2 (B 236 2 + k)) 3 (B 236 3 + x))) 241 b1) 242 b2) := by
  have h1 := rel_s h
  have e := r_eq h1
  have hh := r_hi h1
  have h0 := r_hi h
  have ho := (hhr_ h).2.2
  refine rel_mk (EQ_mk (eq_e7 (A := A) (B := B) e) (eq_e8 (A := A) (B := B) e) (eq_e9 (A := A) (B := B) e) (eq_e10 (A := A) (B := B) e) rfl rfl (eq_e15 (A := A) (B := B) e) (eq_e16 (A := A) (B := B) e) (eq_e17 (A := A) (B := B) e) (eq_e22 (A := A) (B := B) e) rfl (eq_e24 (A := A) (B := B) e) (eq_e25 (A := A) (B := B) e) rfl (eq_e43 (A := A) (B := B) e) (eq_e28 (A := A) (B := B) e) (eq_e29 (A := A) (B := B) e) (eq_e30 (A := A) (B := B) e) (eq_e31 (A := A) (B := B) e) (eq_e36 (A := A) (B := B) e) (eq_e37 (A := A) (B := B) e) (eq_e38 (A := A) (B := B) e) (eq_tc (A := A) (B := B) e) (eq_lc (A := A) (B := B) e) (eq_wc (A := A) (B := B) e) (eq_bc (A := A) (B := B) e) (eq_tb (A := A) (B := B) e) (eq_sc (A := A) (B := B) e) (eq_ec (A := A) (B := B) e) (eq_h8 (A := A) (B := B) e) (eq_h9 (A := A) (B := B) e) (by show B 236 2 + k = A 5 10 + k; rw [eq_h10 e]) (by show B 236 3 + x = A 5 11 + x; rw [eq_h11 e]) (eq_lw (A := A) (B := B) e)) (HX_mk (hx_tc hh) (hx_lc hh) (hx_wc hh) (hx_bc hh) (hx_tb hh) (hx_sc hh) (hx_ec hh) ⟨(hx_hr hh).1, (hx_hr hh).2.1, by show 0 ≤ A 5 10 + k ∧ A 5 10 + k ≤ 12; omega⟩ (by have q := hx_tk h0; show 0 ≤ A 5 11 + x ∧ A 5 11 + x ≤ 150000 * ((n + 1 : Nat) : Int); omega) (fun j hj => ⟨(hx_th hh j hj).1, (hx_th hh j hj).2.1, (hx_th hh j hj).2.2.1, (hx_th hh j hj).2.2.2.1, hb j hj, hd j hj⟩) hpd (hx_la hh) (hx_ll hh) (hx_lw hh) (fun j hj => ⟨(hx_bu hh j hj).1, hp j hj, (hx_bu hh j hj).2.2⟩) hm (hx_si hh) (hx_se hh)) (r_im (A := A) (B := B) h1) (sh_same (r_sh h1) (Int.le_refl _) ((sa_sr (by decide) (sa_sr (by decide) (sa_sr (by decide) (sa_sr (by decide) (sa_sr (by decide) (sa_sr (by decide) (sa_sr (by decide) (sa_sr (by decide) (sa_sr (by decide) (sa_sr (by decide) (sa_sr (by decide) (sa_sr (by decide) sa_0))))))))))))) rfl rfl rfl) (r_tp (A := A) (B := B) h1) (r_rf (A := A) (B := B) h1)
theorem r7x_n {M : Mem} {n : Nat} {g : Nat → Int} {bn : Nat} {x : Int} (hu : buOK M) (hm : ∀ j : Nat, j < 12 → 0 ≤ M 26 j ∧ M 26 j ≤ 12 * n) (ht : thOK M) (hb : bn ≤ 12) {q : Nat → Int} : R7ok bn (12 * n) (g, puA (M 23) q bn, M 23, M 26, M 11, M 12, x) := by
  refine ⟨fun b h => ?_, fun b h => (hu b h).2.1, hm, fun j h => (ht j h).2.2.2.2.1, fun j h => (ht j h).2.2.2.2.2⟩
  have := hu b (by omega)
  show 0 ≤ puA _ _ _ b ∧ puA _ _ _ b ≤ 9999 ∧ M 23 b = puA _ _ _ b
  unfold puA
  rw [if_pos h]
  exact ⟨this.2.1.1, this.2.1.2, rfl⟩
theorem dg_eq {n : Nat} {A B : Mem} (h : Rel n A B) (k : Nat) : (dyG (B 208) (B 205) (TWf (B 205) (B 206) (B 207)) (B 220) (B 222) (B 223) (B 200 3).toNat (B 200 18).toNat (B 236 0) (B 236 1) (B 236 2) (gnA (B 209) (B 241) (B 200 3).toNat, puA (B 221) (B 242) (B 200 18).toNat, B 221, B 224, B 209, B 210, 0) k).2.2 = (dyG (A 10) (A 7) (TWf (A 7) (A 8) (A 9)) (A 22) (A 24) (A 25) (A 6 6).toNat (A 21 5).toNat (A 5 8) (A 5 9) (A 5 10) (gnA (A 11) (fun _ => 0) (A 6 6).toNat, puA (A 23) (fun _ => 0) (A 21 5).toNat, A 23, A 26, A 11, A 12, 0) k).2.2 := by
  have e := r_eq h
  rw [eq_e7 e, eq_e8 e, eq_e9 e, eq_e10 e, eq_e22 e, eq_e24 e, eq_e25 e, eq_e11 e, eq_e12 e, eq_e23 e, eq_e26 e, eq_tc e, eq_bc e, eq_h8 e, eq_h9 e, eq_h10 e]
  exact (dyG_eq (s := (gnA (A 11) (B 241) (A 6 6).toNat, puA (A 23) (B 242) (A 21 5).toNat, A 23, A 26, A 11, A 12, 0)) (t := (gnA (A 11) (fun _ => 0) (A 6 6).toNat, puA (A 23) (fun _ => 0) (A 21 5).toNat, A 23, A 26, A 11, A 12, 0)) ⟨fun j hj => by show gnA (A 11) (B 241) (A 6 6).toNat j = 0 ↔ gnA (A 11) (fun _ => 0) (A 6 6).toNat j = 0; unfold gnA; rw [if_pos hj, if_pos hj], fun b hb => by show puA (A 23) (B 242) (A 21 5).toNat b = puA (A 23) (fun _ => 0) (A 21 5).toNat b; unfold puA; rw [if_pos hb, if_pos hb], rfl⟩ k).2.2
theorem rel_goD {n : Nat} {A B : Mem} (h : Rel n A B) {k : Int} (hk : 0 ≤ k ∧ A 5 10 + k ≤ 12) (R R' : R7) (hR : R = (dyG (A 10) (A 7) (TWf (A 7) (A 8) (A 9)) (A 22) (A 24) (A 25) (A 6 6).toNat (A 21 5).toNat (A 5 8) (A 5 9) (A 5 10) (gnA (A 11) (fun _ => 0) (A 6 6).toNat, puA (A 23) (fun _ => 0) (A 21 5).toNat, A 23, A 26, A 11, A 12, 0) k.toNat)) (e2 : R'.2.2 = R.2.2) {a1 a2 a3 a4 a5 a6 a7 b1 b2 : Nat → Int} :
    Rel (n + 1) (sr (sr (sr (sr (sr (sr (sr (sr (sr (sr (sr (sr A 5 (us (us (A 5) 10 (A 5 10 + k)) 11 (A 5 11 + R.2.2.2.2.2.2))) 11 R.2.2.2.2.1) 12 R.2.2.2.2.2.1) 23 R.2.2.1) 26 R.2.2.2.1) 87 a1) 88 a2) 89 a3) 90 a4) 91 a5) 92 a6) 93 a7) (sr (sr (sr (sr (sr (sr (sr B 209 R'.2.2.2.2.1) 210 R'.2.2.2.2.2.1) 221 R'.2.2.1) 224 R'.2.2.2.1) 236 (us (us (B 236) 2 (B 236 2 + k)) 3 (B 236 3 + R'.2.2.2.2.2.2))) 241 b1) 242 b2) := by
  rw [e2]
  have bc := hbc_ h
  have tc := hc_ h
  have ho := (hhr_ h).2.2
  have hP : ∀ j, j < (A 6 6).toNat → A 10 j ≤ 999 := fun j hj => ((hth_ h) j (by omega)).2.2.2.1.2
  have hok := dyG_ok (K := A 7) (T := TWf (A 7) (A 8) (A 9)) (hr := A 22) (ks := A 24) (ey := A 25) (half := A 5 8) (bag := A 5 9) (h0 := A 5 10) hP (r7x_n (M := A) (n := n) (g := gnA (A 11) (fun _ => 0) (A 6 6).toNat) (q := fun _ => 0) (bn := (A 21 5).toNat) (x := 0) (hbu_ h) (hx_mn (r_hi h)) (hth_ h) (by omega)) (by omega) k.toNat
  have hpk := dyG_pd (K := A 7) (T := TWf (A 7) (A 8) (A 9)) (hr := A 22) (ks := A 24) (ey := A 25) (bn := (A 21 5).toNat) (half := A 5 8) (bag := A 5 9) (h0 := A 5 10) (s := (gnA (A 11) (fun _ => 0) (A 6 6).toNat, puA (A 23) (fun _ => 0) (A 21 5).toNat, A 23, A 26, A 11, A 12, 0)) hP (fun j hj hz => hx_pd (r_hi h) j hj hz) k.toNat
  rw [← hR] at hok hpk
  clear hR e2
  obtain ⟨⟨g1, g2, g3, g4, g5⟩, g6, g7⟩ := hok
  have g6' : R.2.2.2.2.2.2 ≤ 0 + 12000 * ((k.toNat : Nat) : Int) := g6
  have g7' : 0 ≤ R.2.2.2.2.2.2 := g7
  have hkn : k ≤ 12 := by omega
  exact rel_go h g4 (fun j hj => g5 j hj) hpk g2 (fun j hj => by have q := g3 j hj; omega) hk ⟨g7', by omega⟩
