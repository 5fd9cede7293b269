/-! a law that is read -/
def dOK (D : Nat → Int) : Prop := (0 ≤ D 0 ∧ D 0 ≤ 200) ∧ (0 ≤ D 1 ∧ D 1 ≤ 200) ∧ (1 ≤ D 2 ∧ D 2 ≤ 50) ∧ (0 ≤ D 3 ∧ D 3 ≤ 999) ∧ 0 ≤ D 4 ∧ D 4 ≤ 999
theorem dOK_us {D : Nat → Int} {w v : Int} (h : dOK D) (hw : 0 ≤ w ∧ w ≤ 4) (hv : mayT w v) : dOK (us D w.toNat v) := by
  unfold mayT at hv
  rcases (show w = 0 ∨ w = 1 ∨ w = 2 ∨ w = 3 ∨ w = 4 by omega) with rfl | rfl | rfl | rfl | rfl
  · exact ⟨hv, h.2⟩
  · exact ⟨h.1, hv, h.2.2⟩
  · exact ⟨h.1, h.2.1, hv, h.2.2.2⟩
  · exact ⟨h.1, h.2.1, h.2.2.1, hv, h.2.2.2.2⟩
  · exact ⟨h.1, h.2.1, h.2.2.1, h.2.2.2.1, hv⟩
theorem psC_ok {c : Nat → (Nat → Int) → PR} {f : Nat → Int} {n p : Nat} {D : Nat → Int} (hD : dOK D) (hc : ∀ q D, dOK D → dOK (c q D).1) : dOK (psC c f n p D).1 := by
  unfold psC
  split
  · exact hD
  · split
    · exact hD
    · exact hc _ _ hD
theorem psB_ok {c : Nat → (Nat → Int) → PR} {f : Nat → Int} {n p : Nat} {w : Int} {D : Nat → Int} (hw : 0 ≤ w ∧ w ≤ 4) (hD : dOK D) (hc : ∀ q D, dOK D → dOK (c q D).1) : dOK (psB c f n w p D).1 := by
  unfold psB
  split
  · exact hD
  · next z => exact psC_ok (dOK_us hD hw (Classical.byContradiction (fun q => z (Or.inr (Or.inr q))))) hc
theorem psR_ok {f : Nat → Int} {n : Nat} : ∀ (k p : Nat) (D : Nat → Int), dOK D → dOK (psR f n k p D).1
  | 0, _, _, hD => hD
  | k + 1, p, D, hD => by
    show dOK (ite _ _ _ : PR).1
    split
    · exact hD
    · next z =>
      have r := wdN_in f (run isB f n p) (run isL f n (run isB f n p))
      exact psB_ok (by omega) hD (fun q D h => psR_ok k q D h)
theorem d0_ok {g : Nat → Int} : dOK (cpf (STF 0) g 0 0 5) := by
  refine ⟨?_, ?_, ?_, ?_, ?_⟩
  · show 0 ≤ (100 : Int) ∧ (100 : Int) ≤ 200; omega
  · show 0 ≤ (50 : Int) ∧ (50 : Int) ≤ 200; omega
  · show 1 ≤ (1 : Int) ∧ (1 : Int) ≤ 50; omega
  · show 0 ≤ (0 : Int) ∧ (0 : Int) ≤ 999; omega
  · show 0 ≤ (999 : Int) ∧ (999 : Int) ≤ 999; omega
theorem d0_same {g : Nat → Int} (j : Nat) (hj : j < 5) : cpf (STF 0) g 0 0 5 j = STF 0 j := by
  unfold cpf
  rw [if_pos (by omega)]
  congr 1
  omega
theorem rel_lawN {n : Nat} {A B : Mem} (h : Rel n A B) {D D2 : Nat → Int} {bb ee : Int} : Rel n (up (up (up (sr A 20 D) 3 2 bb) 3 3 ee) 3 1 0) (up (cp B 216 D2 0 (5 * B 200 14).toNat 5) 200 16 0) := by
  have e := r_eq h
  have wc := hwc_ h
  refine rel_mk (EQ_mk (eq_e7 (A := A) (B := B) e) (eq_e8 (A := A) (B := B) e) (eq_e9 (A := A) (B := B) e) (eq_e10 (A := A) (B := B) e) (eq_e11 (A := A) (B := B) e) (eq_e12 (A := A) (B := B) e) (eq_e15 (A := A) (B := B) e) (eq_e16 (A := A) (B := B) e) (eq_e17 (A := A) (B := B) e) (eq_e22 (A := A) (B := B) e) (eq_e23 (A := A) (B := B) e) (eq_e24 (A := A) (B := B) e) (eq_e25 (A := A) (B := B) e) (eq_e26 (A := A) (B := B) e) (eq_e43 (A := A) (B := B) e) (eq_e28 (A := A) (B := B) e) (eq_e29 (A := A) (B := B) e) (eq_e30 (A := A) (B := B) e) (eq_e31 (A := A) (B := B) e) (eq_e36 (A := A) (B := B) e) (eq_e37 (A := A) (B := B) e) (eq_e38 (A := A) (B := B) e) (eq_tc (A := A) (B := B) e) (eq_lc (A := A) (B := B) e) (eq_wc (A := A) (B := B) e) (eq_bc (A := A) (B := B) e) (eq_tb (A := A) (B := B) e) (eq_sc (A := A) (B := B) e) (eq_ec (A := A) (B := B) e) (eq_h8 (A := A) (B := B) e) (eq_h9 (A := A) (B := B) e) (eq_h10 (A := A) (B := B) e) (eq_h11 (A := A) (B := B) e) (fun j hj => ?_)) (r_hi (A := A) (B := B) h) (r_im (A := A) (B := B) h) (sh_same (r_sh h) (Int.le_refl _) (sa_up (by decide) (sa_up (by decide) (sa_up (by decide) (sa_sr (by decide) sa_0)))) rfl rfl rfl) ⟨by show (0 : Int) ≤ 0 ∧ (0 : Int) ≤ 120; omega, rfl, fun j hj => absurd (show (j : Int) < 0 from hj) (by omega)⟩ (r_rf (A := A) (B := B) h)
  have hj2 : (j : Int) < 5 * A 18 2 := hj
  show cp B 216 D2 0 (5 * B 200 14).toNat 5 216 j = A 19 j
  rw [cp_k, eq_wc e]
  unfold cpf
  rw [if_neg (by omega)]
  exact eq_lw e j hj2
theorem rel_law {n : Nat} {A B : Mem} (h : Rel n A B) {D D2 : Nat → Int} {bb ee : Int} (h6 : A 18 2 < 6) (hD : dOK D) (hE : ∀ j, j < 5 → D j = D2 j) : Rel n (up (cp (up (up (up (sr A 20 D) 3 2 bb) 3 3 ee) 3 1 0) 19 D 0 (A 18 2 * 5).toNat 5) 18 2 (A 18 2 + 1)) (up (up (cp B 216 D2 0 (5 * B 200 14).toNat 5) 200 16 0) 200 14 (B 200 14 + 1)) := by
  have e := r_eq h
  have hh := r_hi h
  have wc := hwc_ h
  have ew := eq_wc e
  refine rel_mk (EQ_mk (eq_e7 (A := A) (B := B) e) (eq_e8 (A := A) (B := B) e) (eq_e9 (A := A) (B := B) e) (eq_e10 (A := A) (B := B) e) (eq_e11 (A := A) (B := B) e) (eq_e12 (A := A) (B := B) e) (eq_e15 (A := A) (B := B) e) (eq_e16 (A := A) (B := B) e) (eq_e17 (A := A) (B := B) e) (eq_e22 (A := A) (B := B) e) (eq_e23 (A := A) (B := B) e) (eq_e24 (A := A) (B := B) e) (eq_e25 (A := A) (B := B) e) (eq_e26 (A := A) (B := B) e) (eq_e43 (A := A) (B := B) e) (eq_e28 (A := A) (B := B) e) (eq_e29 (A := A) (B := B) e) (eq_e30 (A := A) (B := B) e) (eq_e31 (A := A) (B := B) e) (eq_e36 (A := A) (B := B) e) (eq_e37 (A := A) (B := B) e) (eq_e38 (A := A) (B := B) e) (eq_tc (A := A) (B := B) e) (eq_lc (A := A) (B := B) e) (by show B 200 14 + 1 = A 18 2 + 1; omega) (eq_bc (A := A) (B := B) e) (eq_tb (A := A) (B := B) e) (eq_sc (A := A) (B := B) e) (eq_ec (A := A) (B := B) e) (eq_h8 (A := A) (B := B) e) (eq_h9 (A := A) (B := B) e) (eq_h10 (A := A) (B := B) e) (eq_h11 (A := A) (B := B) e) (fun j hj => ?_)) (HX_mk (hx_tc hh) (hx_lc hh) (by show 0 ≤ A 18 2 + 1 ∧ A 18 2 + 1 ≤ 6; omega) (hx_bc hh) (hx_tb hh) (hx_sc hh) (hx_ec hh) (hx_hr hh) (hx_tk hh) (hx_th hh) (hx_pd hh) (hx_la hh) (fun j hj hl => by have q := hx_ll hh j hj hl; show -1 ≤ A 17 j ∧ A 17 j < A 18 2 + 1; omega) ?_ (hx_bu hh) (hx_mn hh) (hx_si hh) (hx_se hh)) (r_im (A := A) (B := B) h) (sh_same (r_sh h) (Int.le_refl _) (sa_up (by decide) (sa_cp (by decide) (sa_up (by decide) (sa_up (by decide) (sa_up (by decide) (sa_sr (by decide) sa_0)))))) rfl rfl rfl) ⟨by show (0 : Int) ≤ 0 ∧ (0 : Int) ≤ 120; omega, rfl, fun j hj => absurd (show (j : Int) < 0 from hj) (by omega)⟩ (r_rf (A := A) (B := B) h)
  · have hj2 : (j : Int) < 5 * (A 18 2 + 1) := hj
    show cp B 216 D2 0 (5 * B 200 14).toNat 5 216 j = cpf D (A 19) 0 (A 18 2 * 5).toNat 5 j
    rw [cp_k, ew, show (5 * A 18 2).toNat = (A 18 2 * 5).toNat by omega]
    unfold cpf
    by_cases z : (A 18 2 * 5).toNat ≤ j ∧ j < (A 18 2 * 5).toNat + 5
    · rw [if_pos z, if_pos z, hE _ (by omega)]
    · rw [if_neg z, if_neg z]
      exact eq_lw e j (by omega)
  · intro w h0 h1
    have h2 : w < A 18 2 + 1 := h1
    show (0 ≤ cpf D (A 19) 0 (A 18 2 * 5).toNat 5 (w * 5 + 0).toNat ∧ cpf D (A 19) 0 (A 18 2 * 5).toNat 5 (w * 5 + 0).toNat ≤ 200) ∧ (0 ≤ cpf D (A 19) 0 (A 18 2 * 5).toNat 5 (w * 5 + 1).toNat ∧ cpf D (A 19) 0 (A 18 2 * 5).toNat 5 (w * 5 + 1).toNat ≤ 200) ∧ (1 ≤ cpf D (A 19) 0 (A 18 2 * 5).toNat 5 (w * 5 + 2).toNat ∧ cpf D (A 19) 0 (A 18 2 * 5).toNat 5 (w * 5 + 2).toNat ≤ 50) ∧ (0 ≤ cpf D (A 19) 0 (A 18 2 * 5).toNat 5 (w * 5 + 3).toNat ∧ cpf D (A 19) 0 (A 18 2 * 5).toNat 5 (w * 5 + 3).toNat ≤ 999) ∧ (0 ≤ cpf D (A 19) 0 (A 18 2 * 5).toNat 5 (w * 5 + 4).toNat ∧ cpf D (A 19) 0 (A 18 2 * 5).toNat 5 (w * 5 + 4).toNat ≤ 999)
    by_cases z : w = A 18 2
    · have ex : ∀ x : Nat, x < 5 → cpf D (A 19) 0 (A 18 2 * 5).toNat 5 (w * 5 + (x : Int)).toNat = D x := fun x hx => by
        unfold cpf
        rw [if_pos (by omega)]
        congr 1
        omega
      have x0 := ex 0 (by omega)
      have x1 := ex 1 (by omega)
      have x2 := ex 2 (by omega)
      have x3 := ex 3 (by omega)
      have x4 := ex 4 (by omega)
      rw [show ((0 : Nat) : Int) = 0 from rfl] at x0
      rw [show ((1 : Nat) : Int) = 1 from rfl] at x1
      rw [show ((2 : Nat) : Int) = 2 from rfl] at x2
      rw [show ((3 : Nat) : Int) = 3 from rfl] at x3
      rw [show ((4 : Nat) : Int) = 4 from rfl] at x4
      rw [x0, x1, x2, x3, x4]
      exact hD
    · have ex : ∀ x : Int, 0 ≤ x → x < 5 → cpf D (A 19) 0 (A 18 2 * 5).toNat 5 (w * 5 + x).toNat = A 19 (w * 5 + x).toNat := fun x h3 h4 => by
        unfold cpf
        rw [if_neg (by omega)]
      rw [ex 0 (by omega) (by omega), ex 1 (by omega) (by omega), ex 2 (by omega) (by omega), ex 3 (by omega) (by omega), ex 4 (by omega) (by omega)]
      exact hx_lw hh w h0 (by omega)
