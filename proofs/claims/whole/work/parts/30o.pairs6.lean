set_option maxHeartbeats 1000000 in
theorem p_laid {l : Launch} {M : Mem} {Pq : Option gV → Mem → Prop} {nn : Nat} (h0_ : Rel nn M M) (hn_ : nn ≤ 512) (r : Int) (t : Int) (h_r : inI r) (h_t : inI t) (kont : ∀ (r_ : Int) (M1 : Mem), M1 200 50 = M 200 50 → (∀ Pq2 : Option gV → Mem → Prop, (∀ M2, Rel (nn + 1) M2 M2 → M2 200 50 = M 200 50 → Pq2 (some (gI r_)) M2) → gCtr l my_X12_laid mb_X12_laid 6 ((some .int)) 3 [gR 200, gI r, gI t] M1 Pq2) → Pq (some (gI r_)) M1) : gCtr l my_X11_laid mb_X11_laid 3 ((some .int)) 5 [gR 0, gI r, gI t] M Pq := by
  have hn6_ : nn ≤ 600 := by omega
  refine x_laid r t h_r h_t (hrf_ h0_ hn6_) (hc_ h0_) (hec_ h0_) (hse_ h0_) (fun hC_ => ?_) (fun hC_ => ?_) (fun hC_ => ?_)
  · refine kont _ _ (by exact congrFun ((fr_up (by omega) fr_0) 200 (by decide)) 50) (fun Pq2 h2_ => ?_)
    obtain ⟨N, hN_⟩ : ∃ N, N = rf M 0 := ⟨_, rfl⟩
    rw [← hN_]
    have hNM_ : ∀ a, 200 ≤ a → N a = M a := fun a ha => by rw [hN_]; exact (fr_up (by omega) fr_0) a ha
    have hR_ : Rel nn M N := relB h0_ hNM_
    have hF5_ : N 200 50 = M 200 50 := congrFun (hNM_ 200 (by decide)) 50
    have e_ := r_eq hR_
    have tc_ := eq_tc e_
    have lc_ := eq_lc e_
    have wc_ := eq_wc e_
    have bc_ := eq_bc e_
    have tb_ := eq_tb e_
    have sc_ := eq_sc e_
    have ec_ := eq_ec e_
    have h8_ := eq_h8 e_
    have h9_ := eq_h9 e_
    have h10_ := eq_h10 e_
    have h11_ := eq_h11 e_
    have hc6_ := hc_ hR_
    have ec10_ := hec_ hR_
    have ld_ := ld_mk (th := M 36) (pe := M 37) (se := M 38) (h0 := M 39) (s0 := M 40) (m0 := puA (fun _ => -1) (N 248) (M 6 6).toNat) (n := (M 35 2).toNat) (tc := (M 6 6).toNat) (by omega) (by omega) (fun i hi => by have q_ := hx_se (r_hi hR_) i (by omega) (by omega); omega) (fun j hj => if_pos hj)
    refine y_laid r t h_r h_t (hrg_ hR_ hn6_) (hmc_ hR_) (hmec_ hR_) (hsem_ hR_) (fun hD_ => ?_) (fun G1 G2 hD_ => ?_) (fun G1 G2 hD_ => ?_) (fun G1 G2 hD_ => ?_)
    · refine fin2 h2_ (rfl) (relA (A := rf M 0) (rel_no hR_ 0 (by decide)) (fun a ha => by rw [← hN_]; exact (gr_up (by omega) fr_0) a ha)) (((fw_up (Or.inl (by decide)) rfl)).trans hF5_)
    · exfalso; omega
    · exfalso; omega
    · exfalso; omega
  · refine kont _ _ (by exact congrFun ((fr_up (by omega) (fr_sr (by omega) (fr_sr (by omega) (fr_sr (by omega) (fr_sr (by omega) fr_0))))) 200 (by decide)) 50) (fun Pq2 h2_ => ?_)
    obtain ⟨N, hN_⟩ : ∃ N, N = rf (sr (sr (sr (sr M 35 (us (M 35) 7 ((hdS (M 36) (M 37) (M 38) (M 35 2).toNat (M 39) (M 40) 30).2.2))) 39 ((hdS (M 36) (M 37) (M 38) (M 35 2).toNat (M 39) (M 40) 30).1)) 40 ((hdS (M 36) (M 37) (M 38) (M 35 2).toNat (M 39) (M 40) 30).2.1)) 42 (cpf (fun _ => r) (M 42) 0 0 5)) 3 := ⟨_, rfl⟩
    rw [← hN_]
    have hNM_ : ∀ a, 200 ≤ a → N a = M a := fun a ha => by rw [hN_]; exact (fr_up (by omega) (fr_sr (by omega) (fr_sr (by omega) (fr_sr (by omega) (fr_sr (by omega) fr_0))))) a ha
    have hR_ : Rel nn M N := relB h0_ hNM_
    have hF5_ : N 200 50 = M 200 50 := congrFun (hNM_ 200 (by decide)) 50
    have e_ := r_eq hR_
    have tc_ := eq_tc e_
    have lc_ := eq_lc e_
    have wc_ := eq_wc e_
    have bc_ := eq_bc e_
    have tb_ := eq_tb e_
    have sc_ := eq_sc e_
    have ec_ := eq_ec e_
    have h8_ := eq_h8 e_
    have h9_ := eq_h9 e_
    have h10_ := eq_h10 e_
    have h11_ := eq_h11 e_
    have hc6_ := hc_ hR_
    have ec10_ := hec_ hR_
    have ld_ := ld_mk (th := M 36) (pe := M 37) (se := M 38) (h0 := M 39) (s0 := M 40) (m0 := puA (fun _ => -1) (N 248) (M 6 6).toNat) (n := (M 35 2).toNat) (tc := (M 6 6).toNat) (by omega) (by omega) (fun i hi => by have q_ := hx_se (r_hi hR_) i (by omega) (by omega); omega) (fun j hj => if_pos hj)
    refine y_laid r t h_r h_t (hrg_ hR_ hn6_) (hmc_ hR_) (hmec_ hR_) (hsem_ hR_) (fun hD_ => ?_) (fun G1 G2 hD_ => ?_) (fun G1 G2 hD_ => ?_) (fun G1 G2 hD_ => ?_)
    · exfalso; omega
    · refine fin2 h2_ (rfl) (relA (A := rf (sr (sr (sr (sr M 35 (us (M 35) 7 ((hdS (M 36) (M 37) (M 38) (M 35 2).toNat (M 39) (M 40) 30).2.2))) 39 ((hdS (M 36) (M 37) (M 38) (M 35 2).toNat (M 39) (M 40) 30).1)) 40 ((hdS (M 36) (M 37) (M 38) (M 35 2).toNat (M 39) (M 40) 30).2.1)) 42 (cpf (fun _ => r) (M 42) 0 0 5)) 3) (rel_no (rel_laidN hR_ _ _ _ _ _ _) 3 (by decide)) (fun a ha => by rw [← hN_]; exact (gr_up (by omega) (gr_sr (by omega) (gr_sr (by omega) fr_0))) a ha)) (((fw_up (Or.inl (by decide)) (fw_sr (by decide) (fw_sr (by decide) rfl)))).trans hF5_)
    · rw [eq_e36 e_, eq_e37 e_, eq_e38 e_, ec_, tc_] at hD_
      exact absurd ((laid_0 ld_ (fun j hj => by show puA (fun _ => r) (N 249) 5 j = cpf (fun _ => r) (M 42) 0 0 5 j; rw [cpf_c hj]; exact if_pos hj)).mp hD_.2.1) hC_.2
    · rw [eq_e36 e_, eq_e37 e_, eq_e38 e_, ec_, tc_] at hD_
      exact absurd ((laid_0 ld_ (fun j hj => by show puA (fun _ => r) (N 249) 5 j = cpf (fun _ => r) (M 42) 0 0 5 j; rw [cpf_c hj]; exact if_pos hj)).mp hD_.2.1) hC_.2
  · refine kont _ _ (by exact congrFun ((fr_sr (by omega) (fr_sr (by omega) (fr_sr (by omega) (fr_sr (by omega) (fr_sr (by omega) fr_0))))) 200 (by decide)) 50) (fun Pq2 h2_ => ?_)
    obtain ⟨N, hN_⟩ : ∃ N, N = sr (sr (sr (sr (sr M 35 (us (M 35) 7 ((hdS (M 36) (M 37) (M 38) (M 35 2).toNat (M 39) (M 40) 30).2.2))) 39 ((hdS (M 36) (M 37) (M 38) (M 35 2).toNat (M 39) (M 40) 30).1)) 40 ((hdS (M 36) (M 37) (M 38) (M 35 2).toNat (M 39) (M 40) 30).2.1)) 41 (laS ((hdS (M 36) (M 37) (M 38) (M 35 2).toNat (M 39) (M 40) 30).2.1) (cpf (fun _ => r) (M 42) 0 0 5) (M 41) ((hdS (M 36) (M 37) (M 38) (M 35 2).toNat (M 39) (M 40) 30).2.2).toNat ((hdS (M 36) (M 37) (M 38) (M 35 2).toNat (M 39) (M 40) 30).2.2).toNat).2) 42 (laS ((hdS (M 36) (M 37) (M 38) (M 35 2).toNat (M 39) (M 40) 30).2.1) (cpf (fun _ => r) (M 42) 0 0 5) (M 41) ((hdS (M 36) (M 37) (M 38) (M 35 2).toNat (M 39) (M 40) 30).2.2).toNat ((hdS (M 36) (M 37) (M 38) (M 35 2).toNat (M 39) (M 40) 30).2.2).toNat).1 := ⟨_, rfl⟩
    rw [← hN_]
    have hNM_ : ∀ a, 200 ≤ a → N a = M a := fun a ha => by rw [hN_]; exact (fr_sr (by omega) (fr_sr (by omega) (fr_sr (by omega) (fr_sr (by omega) (fr_sr (by omega) fr_0))))) a ha
    have hR_ : Rel nn M N := relB h0_ hNM_
    have hF5_ : N 200 50 = M 200 50 := congrFun (hNM_ 200 (by decide)) 50
    have e_ := r_eq hR_
    have tc_ := eq_tc e_
    have lc_ := eq_lc e_
    have wc_ := eq_wc e_
    have bc_ := eq_bc e_
    have tb_ := eq_tb e_
    have sc_ := eq_sc e_
    have ec_ := eq_ec e_
    have h8_ := eq_h8 e_
    have h9_ := eq_h9 e_
    have h10_ := eq_h10 e_
    have h11_ := eq_h11 e_
    have hc6_ := hc_ hR_
    have ec10_ := hec_ hR_
    have ld_ := ld_mk (th := M 36) (pe := M 37) (se := M 38) (h0 := M 39) (s0 := M 40) (m0 := puA (fun _ => -1) (N 248) (M 6 6).toNat) (n := (M 35 2).toNat) (tc := (M 6 6).toNat) (by omega) (by omega) (fun i hi => by have q_ := hx_se (r_hi hR_) i (by omega) (by omega); omega) (fun j hj => if_pos hj)
    refine y_laid r t h_r h_t (hrg_ hR_ hn6_) (hmc_ hR_) (hmec_ hR_) (hsem_ hR_) (fun hD_ => ?_) (fun G1 G2 hD_ => ?_) (fun G1 G2 hD_ => ?_) (fun G1 G2 hD_ => ?_)
    · exfalso; omega
    · rw [eq_e36 e_, eq_e37 e_, eq_e38 e_, ec_, tc_] at hD_
      exact absurd ((laid_0 ld_ (fun j hj => by show puA (fun _ => r) (N 249) 5 j = cpf (fun _ => r) (M 42) 0 0 5 j; rw [cpf_c hj]; exact if_pos hj)).mpr hC_.2) hD_.2
    · rw [eq_e36 e_, eq_e37 e_, eq_e38 e_, ec_, tc_] at hD_
      refine fin2 h2_ (laid_n ld_ (by omega) hD_.2.2) (relA (A := sr (sr (sr (sr (sr M 35 (us (M 35) 7 ((hdS (M 36) (M 37) (M 38) (M 35 2).toNat (M 39) (M 40) 30).2.2))) 39 ((hdS (M 36) (M 37) (M 38) (M 35 2).toNat (M 39) (M 40) 30).1)) 40 ((hdS (M 36) (M 37) (M 38) (M 35 2).toNat (M 39) (M 40) 30).2.1)) 41 (laS ((hdS (M 36) (M 37) (M 38) (M 35 2).toNat (M 39) (M 40) 30).2.1) (cpf (fun _ => r) (M 42) 0 0 5) (M 41) ((hdS (M 36) (M 37) (M 38) (M 35 2).toNat (M 39) (M 40) 30).2.2).toNat ((hdS (M 36) (M 37) (M 38) (M 35 2).toNat (M 39) (M 40) 30).2.2).toNat).2) 42 (laS ((hdS (M 36) (M 37) (M 38) (M 35 2).toNat (M 39) (M 40) 30).2.1) (cpf (fun _ => r) (M 42) 0 0 5) (M 41) ((hdS (M 36) (M 37) (M 38) (M 35 2).toNat (M 39) (M 40) 30).2.2).toNat ((hdS (M 36) (M 37) (M 38) (M 35 2).toNat (M 39) (M 40) 30).2.2).toNat).1) (rel_laid (rel_s hR_) _ _ _ _ _ _ _) (fun a ha => by rw [← hN_]; exact (gr_sr (by omega) (gr_sr (by omega) fr_0)) a ha)) (((fw_sr (by decide) (fw_sr (by decide) rfl))).trans hF5_)
    · rw [eq_e36 e_, eq_e37 e_, eq_e38 e_, ec_, tc_] at hD_
      refine fin2 h2_ (by rw [eq_e36 e_, eq_e37 e_, eq_e38 e_, ec_, tc_]; exact laid_y ld_ (fun j hj => by show puA (fun _ => r) (N 249) 5 j = cpf (fun _ => r) (M 42) 0 0 5 j; rw [cpf_c hj]; exact if_pos hj) (fun j hj => by rw [cpf_c hj]; omega) (by omega) hD_.2.2) (relA (A := sr (sr (sr (sr (sr M 35 (us (M 35) 7 ((hdS (M 36) (M 37) (M 38) (M 35 2).toNat (M 39) (M 40) 30).2.2))) 39 ((hdS (M 36) (M 37) (M 38) (M 35 2).toNat (M 39) (M 40) 30).1)) 40 ((hdS (M 36) (M 37) (M 38) (M 35 2).toNat (M 39) (M 40) 30).2.1)) 41 (laS ((hdS (M 36) (M 37) (M 38) (M 35 2).toNat (M 39) (M 40) 30).2.1) (cpf (fun _ => r) (M 42) 0 0 5) (M 41) ((hdS (M 36) (M 37) (M 38) (M 35 2).toNat (M 39) (M 40) 30).2.2).toNat ((hdS (M 36) (M 37) (M 38) (M 35 2).toNat (M 39) (M 40) 30).2.2).toNat).2) 42 (laS ((hdS (M 36) (M 37) (M 38) (M 35 2).toNat (M 39) (M 40) 30).2.1) (cpf (fun _ => r) (M 42) 0 0 5) (M 41) ((hdS (M 36) (M 37) (M 38) (M 35 2).toNat (M 39) (M 40) 30).2.2).toNat ((hdS (M 36) (M 37) (M 38) (M 35 2).toNat (M 39) (M 40) 30).2.2).toNat).1) (rel_laid (rel_s hR_) _ _ _ _ _ _ _) (fun a ha => by rw [← hN_]; exact (gr_sr (by omega) (gr_sr (by omega) fr_0)) a ha)) (((fw_sr (by decide) (fw_sr (by decide) rfl))).trans hF5_)
