set_option maxHeartbeats 1000000 in
theorem p_go {l : Launch} {M : Mem} {Pq : Option gV → Mem → Prop} {nn : Nat} (h0_ : Rel nn M M) (hn_ : nn ≤ 512) (n : Int) (h_n : inI n) (kont : ∀ (r : Int) (M1 : Mem), M1 200 50 = M 200 50 → (∀ Pq2 : Option gV → Mem → Prop, (∀ M2, Rel (nn + 1) M2 M2 → M2 200 50 = M 200 50 → Pq2 (some (gI r)) M2) → gCtr l my_X12_go mb_X12_go 8 ((some .int)) 5 [gR 200, gI n] M1 Pq2) → Pq (some (gI r)) M1) : gCtr l my_X11_go mb_X11_go 5 ((some .int)) 5 [gR 0, gI n] M Pq := by
  have hn6_ : nn ≤ 600 := by omega
  refine x_go n h_n (hrf_ h0_ hn6_) (hc_ h0_) (hbc_ h0_) (hth_ h0_) (hbu_ h0_) (hmn_ h0_ hn6_) (hhr_ h0_) (htk_ h0_ hn6_) (fun hC_ => ?_) (fun hC_ => ?_) (fun k A1 A2 A3 A4 A5 A6 A7 hC_ => ?_)
  · refine kont _ _ (by exact congrFun ((fr_up (by omega) fr_0) 200 (by decide)) 50) (fun Pq2 h2_ => ?_)
    obtain ⟨N, hN_⟩ : ∃ N, N = rf M 0 := ⟨_, rfl⟩
    rw [← hN_]
    have hNM_ : ∀ a, 200 ≤ a → N a = M a := fun a ha => by rw [hN_]; exact (fr_up (by omega) fr_0) a ha
    have hR_ : Rel nn M N := relB h0_ hNM_
    have hF5_ : N 200 50 = M 200 50 := congrFun (hNM_ 200 (by decide)) 50
    have e_ := r_eq hR_
    have tc_ := eq_tc e_
    have lc_ := eq_lc e_
    have wc_ := eq_wc e_
    have bc_ := eq_bc e_
    have tb_ := eq_tb e_
    have sc_ := eq_sc e_
    have ec_ := eq_ec e_
    have h8_ := eq_h8 e_
    have h9_ := eq_h9 e_
    have h10_ := eq_h10 e_
    have h11_ := eq_h11 e_
    have hc6_ := hc_ hR_
    have bc12_ := hbc_ hR_
    refine y_go n h_n (hrg_ hR_ hn6_) (hmc_ hR_) (hmbc_ hR_) (hthm_ hR_) (hbum_ hR_) (hhrm_ hR_) (hmnm_ hR_ hn6_) (htkm_ hR_ hn6_) (fun hD_ => ?_) (fun hD_ => ?_) (fun k hD_ => ?_)
    · refine fin2 h2_ (rfl) (relA (A := rf M 0) (rel_no hR_ 0 (by decide)) (fun a ha => by rw [← hN_]; exact (gr_up (by omega) fr_0) a ha)) (((fw_up (Or.inl (by decide)) rfl)).trans hF5_)
    · exfalso; omega
    · exfalso; omega
  · refine kont _ _ (by exact congrFun ((fr_up (by omega) fr_0) 200 (by decide)) 50) (fun Pq2 h2_ => ?_)
    obtain ⟨N, hN_⟩ : ∃ N, N = rf M 3 := ⟨_, rfl⟩
    rw [← hN_]
    have hNM_ : ∀ a, 200 ≤ a → N a = M a := fun a ha => by rw [hN_]; exact (fr_up (by omega) fr_0) a ha
    have hR_ : Rel nn M N := relB h0_ hNM_
    have hF5_ : N 200 50 = M 200 50 := congrFun (hNM_ 200 (by decide)) 50
    have e_ := r_eq hR_
    have tc_ := eq_tc e_
    have lc_ := eq_lc e_
    have wc_ := eq_wc e_
    have bc_ := eq_bc e_
    have tb_ := eq_tb e_
    have sc_ := eq_sc e_
    have ec_ := eq_ec e_
    have h8_ := eq_h8 e_
    have h9_ := eq_h9 e_
    have h10_ := eq_h10 e_
    have h11_ := eq_h11 e_
    have hc6_ := hc_ hR_
    have bc12_ := hbc_ hR_
    refine y_go n h_n (hrg_ hR_ hn6_) (hmc_ hR_) (hmbc_ hR_) (hthm_ hR_) (hbum_ hR_) (hhrm_ hR_) (hmnm_ hR_ hn6_) (htkm_ hR_ hn6_) (fun hD_ => ?_) (fun hD_ => ?_) (fun k hD_ => ?_)
    · exfalso; omega
    · refine fin2 h2_ (rfl) (relA (A := rf M 3) (rel_no hR_ 3 (by decide)) (fun a ha => by rw [← hN_]; exact (gr_up (by omega) fr_0) a ha)) (((fw_up (Or.inl (by decide)) rfl)).trans hF5_)
    · exfalso; omega
  · refine kont _ _ (by exact congrFun ((fr_sr (by omega) (fr_sr (by omega) (fr_sr (by omega) (fr_sr (by omega) (fr_sr (by omega) (fr_sr (by omega) (fr_sr (by omega) (fr_sr (by omega) (fr_sr (by omega) (fr_sr (by omega) (fr_sr (by omega) (fr_sr (by omega) fr_0)))))))))))) 200 (by decide)) 50) (fun Pq2 h2_ => ?_)
    obtain ⟨N, hN_⟩ : ∃ N, N = sr (sr (sr (sr (sr (sr (sr (sr (sr (sr (sr (sr M 5 (us (us (M 5) 10 (M 5 10 + k)) 11 (M 5 11 + (dyG (M 10) (M 7) (TWf (M 7) (M 8) (M 9)) (M 22) (M 24) (M 25) (M 6 6).toNat (M 21 5).toNat (M 5 8) (M 5 9) (M 5 10) (gnA (M 11) (fun _ => 0) (M 6 6).toNat, puA (M 23) (fun _ => 0) (M 21 5).toNat, M 23, M 26, M 11, M 12, 0) k.toNat).2.2.2.2.2.2))) 11 (dyG (M 10) (M 7) (TWf (M 7) (M 8) (M 9)) (M 22) (M 24) (M 25) (M 6 6).toNat (M 21 5).toNat (M 5 8) (M 5 9) (M 5 10) (gnA (M 11) (fun _ => 0) (M 6 6).toNat, puA (M 23) (fun _ => 0) (M 21 5).toNat, M 23, M 26, M 11, M 12, 0) k.toNat).2.2.2.2.1) 12 (dyG (M 10) (M 7) (TWf (M 7) (M 8) (M 9)) (M 22) (M 24) (M 25) (M 6 6).toNat (M 21 5).toNat (M 5 8) (M 5 9) (M 5 10) (gnA (M 11) (fun _ => 0) (M 6 6).toNat, puA (M 23) (fun _ => 0) (M 21 5).toNat, M 23, M 26, M 11, M 12, 0) k.toNat).2.2.2.2.2.1) 23 (dyG (M 10) (M 7) (TWf (M 7) (M 8) (M 9)) (M 22) (M 24) (M 25) (M 6 6).toNat (M 21 5).toNat (M 5 8) (M 5 9) (M 5 10) (gnA (M 11) (fun _ => 0) (M 6 6).toNat, puA (M 23) (fun _ => 0) (M 21 5).toNat, M 23, M 26, M 11, M 12, 0) k.toNat).2.2.1) 26 (dyG (M 10) (M 7) (TWf (M 7) (M 8) (M 9)) (M 22) (M 24) (M 25) (M 6 6).toNat (M 21 5).toNat (M 5 8) (M 5 9) (M 5 10) (gnA (M 11) (fun _ => 0) (M 6 6).toNat, puA (M 23) (fun _ => 0) (M 21 5).toNat, M 23, M 26, M 11, M 12, 0) k.toNat).2.2.2.1) 87 A1) 88 A2) 89 A3) 90 A4) 91 A5) 92 A6) 93 A7 := ⟨_, rfl⟩
    rw [← hN_]
    have hNM_ : ∀ a, 200 ≤ a → N a = M a := fun a ha => by rw [hN_]; exact (fr_sr (by omega) (fr_sr (by omega) (fr_sr (by omega) (fr_sr (by omega) (fr_sr (by omega) (fr_sr (by omega) (fr_sr (by omega) (fr_sr (by omega) (fr_sr (by omega) (fr_sr (by omega) (fr_sr (by omega) (fr_sr (by omega) fr_0)))))))))))) a ha
    have hR_ : Rel nn M N := relB h0_ hNM_
    have hF5_ : N 200 50 = M 200 50 := congrFun (hNM_ 200 (by decide)) 50
    have e_ := r_eq hR_
    have tc_ := eq_tc e_
    have lc_ := eq_lc e_
    have wc_ := eq_wc e_
    have bc_ := eq_bc e_
    have tb_ := eq_tb e_
    have sc_ := eq_sc e_
    have ec_ := eq_ec e_
    have h8_ := eq_h8 e_
    have h9_ := eq_h9 e_
    have h10_ := eq_h10 e_
    have h11_ := eq_h11 e_
    have hc6_ := hc_ hR_
    have bc12_ := hbc_ hR_
    refine y_go n h_n (hrg_ hR_ hn6_) (hmc_ hR_) (hmbc_ hR_) (hthm_ hR_) (hbum_ hR_) (hhrm_ hR_) (hmnm_ hR_ hn6_) (htkm_ hR_ hn6_) (fun hD_ => ?_) (fun hD_ => ?_) (fun k_y hD_ => ?_)
    · exfalso; omega
    · exfalso; omega
    · have hk_ : k = k_y := by omega
      subst hk_
      have hdg_ := dg_eq hR_ k.toNat
      refine fin2 h2_ (by rw [hdg_]) (relA (A := sr (sr (sr (sr (sr (sr (sr (sr (sr (sr (sr (sr M 5 (us (us (M 5) 10 (M 5 10 + k)) 11 (M 5 11 + (dyG (M 10) (M 7) (TWf (M 7) (M 8) (M 9)) (M 22) (M 24) (M 25) (M 6 6).toNat (M 21 5).toNat (M 5 8) (M 5 9) (M 5 10) (gnA (M 11) (fun _ => 0) (M 6 6).toNat, puA (M 23) (fun _ => 0) (M 21 5).toNat, M 23, M 26, M 11, M 12, 0) k.toNat).2.2.2.2.2.2))) 11 (dyG (M 10) (M 7) (TWf (M 7) (M 8) (M 9)) (M 22) (M 24) (M 25) (M 6 6).toNat (M 21 5).toNat (M 5 8) (M 5 9) (M 5 10) (gnA (M 11) (fun _ => 0) (M 6 6).toNat, puA (M 23) (fun _ => 0) (M 21 5).toNat, M 23, M 26, M 11, M 12, 0) k.toNat).2.2.2.2.1) 12 (dyG (M 10) (M 7) (TWf (M 7) (M 8) (M 9)) (M 22) (M 24) (M 25) (M 6 6).toNat (M 21 5).toNat (M 5 8) (M 5 9) (M 5 10) (gnA (M 11) (fun _ => 0) (M 6 6).toNat, puA (M 23) (fun _ => 0) (M 21 5).toNat, M 23, M 26, M 11, M 12, 0) k.toNat).2.2.2.2.2.1) 23 (dyG (M 10) (M 7) (TWf (M 7) (M 8) (M 9)) (M 22) (M 24) (M 25) (M 6 6).toNat (M 21 5).toNat (M 5 8) (M 5 9) (M 5 10) (gnA (M 11) (fun _ => 0) (M 6 6).toNat, puA (M 23) (fun _ => 0) (M 21 5).toNat, M 23, M 26, M 11, M 12, 0) k.toNat).2.2.1) 26 (dyG (M 10) (M 7) (TWf (M 7) (M 8) (M 9)) (M 22) (M 24) (M 25) (M 6 6).toNat (M 21 5).toNat (M 5 8) (M 5 9) (M 5 10) (gnA (M 11) (fun _ => 0) (M 6 6).toNat, puA (M 23) (fun _ => 0) (M 21 5).toNat, M 23, M 26, M 11, M 12, 0) k.toNat).2.2.2.1) 87 A1) 88 A2) 89 A3) 90 A4) 91 A5) 92 A6) 93 A7) (rel_goD hR_ (by omega) _ _ rfl hdg_) (fun a ha => by rw [← hN_]; exact (gr_sr (by omega) (gr_sr (by omega) (gr_sr (by omega) (gr_sr (by omega) (gr_sr (by omega) (gr_sr (by omega) (gr_sr (by omega) fr_0))))))) a ha)) (((fw_sr (by decide) (fw_sr (by decide) (fw_sr (by decide) (fw_sr (by decide) (fw_sr (by decide) (fw_sr (by decide) (fw_sr (by decide) rfl)))))))).trans hF5_)
set_option maxHeartbeats 1000000 in
theorem p_image {l : Launch} {M : Mem} {Pq : Option gV → Mem → Prop} {nn : Nat} (h0_ : Rel nn M M) (hn_ : nn ≤ 512) (kont : ∀ (r : Int) (M1 : Mem), M1 200 50 = M 200 50 → (∀ Pq2 : Option gV → Mem → Prop, (∀ M2, Rel (nn + 1) M2 M2 → M2 200 50 = M 200 50 → Pq2 (some (gI r)) M2) → gCtr l my_X12_image mb_X12_image 1 ((some .int)) 3 [gR 200] M1 Pq2) → Pq (some (gI r)) M1) : gCtr l my_X11_image mb_X11_image 1 ((some .int)) 3 [gR 0] M Pq := by
  have hn6_ : nn ≤ 600 := by omega
  refine x_image (?_)
  · refine kont _ _ (by exact congrFun ((fun a ha => imE_o (M := M) (by omega)) 200 (by decide)) 50) (fun Pq2 h2_ => ?_)
    obtain ⟨N, hN_⟩ : ∃ N, N = up (bcm46 M) 0 7 1 := ⟨_, rfl⟩
    rw [← hN_]
    have hNM_ : ∀ a, 200 ≤ a → N a = M a := fun a ha => by rw [hN_]; exact (fun a ha => imE_o (M := M) (by omega)) a ha
    have hR_ : Rel nn M N := relB h0_ hNM_
    have hF5_ : N 200 50 = M 200 50 := congrFun (hNM_ 200 (by decide)) 50
    have e_ := r_eq hR_
    have tc_ := eq_tc e_
    have lc_ := eq_lc e_
    have wc_ := eq_wc e_
    have bc_ := eq_bc e_
    have tb_ := eq_tb e_
    have sc_ := eq_sc e_
    have ec_ := eq_ec e_
    have h8_ := eq_h8 e_
    have h9_ := eq_h9 e_
    have h10_ := eq_h10 e_
    have h11_ := eq_h11 e_
    refine y_image (?_)
    · refine fin2 h2_ (rfl) (relA (A := up (bcm46 M) 0 7 1) (rel_image hR_) (fun a ha => by rw [← hN_]; exact (fun a ha => imF_o (M := N) (by omega)) a ha)) ((imF_200 (M := N) (by omega)).trans hF5_)
set_option maxHeartbeats 1000000 in
theorem p_back {l : Launch} {M : Mem} {Pq : Option gV → Mem → Prop} {nn : Nat} (h0_ : Rel nn M M) (hn_ : nn ≤ 512) (kont : ∀ (r : Int) (M1 : Mem), M1 200 50 = M 200 50 → (∀ Pq2 : Option gV → Mem → Prop, (∀ M2, Rel (nn + 1) M2 M2 → M2 200 50 = M 200 50 → Pq2 (some (gI r)) M2) → gCtr l my_X12_back mb_X12_back 2 ((some .int)) 3 [gR 200] M1 Pq2) → Pq (some (gI r)) M1) : gCtr l my_X11_back mb_X11_back 2 ((some .int)) 3 [gR 0] M Pq := by
  have hn6_ : nn ≤ 600 := by omega
  refine x_back (hrf_ h0_ hn6_) (hkc_ h0_) (fun hC_ => ?_) (fun hC_ => ?_)
  · refine kont _ _ (by exact congrFun ((fr_up (by omega) fr_0) 200 (by decide)) 50) (fun Pq2 h2_ => ?_)
    obtain ⟨N, hN_⟩ : ∃ N, N = rf M 3 := ⟨_, rfl⟩
    rw [← hN_]
    have hNM_ : ∀ a, 200 ≤ a → N a = M a := fun a ha => by rw [hN_]; exact (fr_up (by omega) fr_0) a ha
    have hR_ : Rel nn M N := relB h0_ hNM_
    have hF5_ : N 200 50 = M 200 50 := congrFun (hNM_ 200 (by decide)) 50
    have e_ := r_eq hR_
    have tc_ := eq_tc e_
    have lc_ := eq_lc e_
    have wc_ := eq_wc e_
    have bc_ := eq_bc e_
    have tb_ := eq_tb e_
    have sc_ := eq_sc e_
    have ec_ := eq_ec e_
    have h8_ := eq_h8 e_
    have h9_ := eq_h9 e_
    have h10_ := eq_h10 e_
    have h11_ := eq_h11 e_
    have im7_ := (r_im hR_).1
    refine y_back (hrg_ hR_ hn6_) (fun hD_ => ?_) (fun hD_ => ?_)
    · refine fin2 h2_ (rfl) (relA (A := rf M 3) (rel_no hR_ 3 (by decide)) (fun a ha => by rw [← hN_]; exact (gr_up (by omega) fr_0) a ha)) (((fw_up (Or.inl (by decide)) rfl)).trans hF5_)
    · exfalso; omega
  · refine kont _ _ (by exact congrFun ((fun a ha => bkE_fr (by omega)) 200 (by decide)) 50) (fun Pq2 h2_ => ?_)
    obtain ⟨N, hN_⟩ : ∃ N, N = bkS (bcm5 M) 8 := ⟨_, rfl⟩
    rw [← hN_]
    have hNM_ : ∀ a, 200 ≤ a → N a = M a := fun a ha => by rw [hN_]; exact (fun a ha => bkE_fr (by omega)) a ha
    have hR_ : Rel nn M N := relB h0_ hNM_
    have hF5_ : N 200 50 = M 200 50 := congrFun (hNM_ 200 (by decide)) 50
    have e_ := r_eq hR_
    have tc_ := eq_tc e_
    have lc_ := eq_lc e_
    have wc_ := eq_wc e_
    have bc_ := eq_bc e_
    have tb_ := eq_tb e_
    have sc_ := eq_sc e_
    have ec_ := eq_ec e_
    have h8_ := eq_h8 e_
    have h9_ := eq_h9 e_
    have h10_ := eq_h10 e_
    have h11_ := eq_h11 e_
    have im7_ := (r_im hR_).1
    refine y_back (hrg_ hR_ hn6_) (fun hD_ => ?_) (fun hD_ => ?_)
    · exfalso; omega
    · refine fin2 h2_ (rfl) (relA (A := bkS (bcm5 M) 8) (rel_back hR_ hC_) (fun a ha => by rw [← hN_]; exact (fun a ha => bkF_fr (by omega)) a ha)) (((congrFun (bkR_o (X := cntB N) (by decide) 8) 50).trans (cntB_37 (by omega))).trans hF5_)
