set_option maxHeartbeats 1000000 in
theorem p_takes {l : Launch} {M : Mem} {Pq : Option gV → Mem → Prop} {nn : Nat} (h0_ : Rel nn M M) (hn_ : nn ≤ 512) (b : Int) (h : Int) (h_b : inI b) (h_h : inI h) (kont : ∀ (r : Int) (M1 : Mem), M1 200 50 = M 200 50 → (∀ Pq2 : Option gV → Mem → Prop, (∀ M2, Rel (nn + 1) M2 M2 → M2 200 50 = M 200 50 → Pq2 (some (gI r)) M2) → gCtr l my_X12_takes mb_X12_takes 3 ((some .int)) 5 [gR 200, gI b, gI h] M1 Pq2) → Pq (some (gI r)) M1) : gCtr l my_X11_takes mb_X11_takes 3 ((some .int)) 5 [gR 0, gI b, gI h] M Pq := by
  have hn6_ : nn ≤ 600 := by omega
  refine x_takes b h h_b h_h (hrf_ h0_ hn6_) (hc_ h0_) (hbc_ h0_) (hth_ h0_) (hbu_ h0_) (hmn_ h0_ hn6_) (hhr_ h0_) (fun hC_ => ?_) (fun y A1 A2 A3 A4 A5 A6 A7 hC_ => ?_)
  · refine kont _ _ (by exact congrFun ((fr_up (by omega) fr_0) 200 (by decide)) 50) (fun Pq2 h2_ => ?_)
    obtain ⟨N, hN_⟩ : ∃ N, N = rf M 0 := ⟨_, rfl⟩
    rw [← hN_]
    have hNM_ : ∀ a, 200 ≤ a → N a = M a := fun a ha => by rw [hN_]; exact (fr_up (by omega) fr_0) a ha
    have hR_ : Rel nn M N := relB h0_ hNM_
    have hF5_ : N 200 50 = M 200 50 := congrFun (hNM_ 200 (by decide)) 50
    have e_ := r_eq hR_
    have tc_ := eq_tc e_
    have lc_ := eq_lc e_
    have wc_ := eq_wc e_
    have bc_ := eq_bc e_
    have tb_ := eq_tb e_
    have sc_ := eq_sc e_
    have ec_ := eq_ec e_
    have h8_ := eq_h8 e_
    have h9_ := eq_h9 e_
    have h10_ := eq_h10 e_
    have h11_ := eq_h11 e_
    refine y_takes b h h_b h_h (hrg_ hR_ hn6_) (hmc_ hR_) (hmbc_ hR_) (hthm_ hR_) (hbum_ hR_) (hhrm_ hR_) (fun hD_ => ?_) (fun hD_ => ?_)
    · refine fin2 h2_ (rfl) (relA (A := rf M 0) (rel_no hR_ 0 (by decide)) (fun a ha => by rw [← hN_]; exact (gr_up (by omega) fr_0) a ha)) (((fw_up (Or.inl (by decide)) rfl)).trans hF5_)
    · exfalso; omega
  · refine kont _ _ (by exact congrFun ((fr_sr (by omega) (fr_sr (by omega) (fr_sr (by omega) (fr_sr (by omega) (fr_sr (by omega) (fr_sr (by omega) (fr_sr (by omega) fr_0))))))) 200 (by decide)) 50) (fun Pq2 h2_ => ?_)
    obtain ⟨N, hN_⟩ : ∃ N, N = sr (sr (sr (sr (sr (sr (sr M 87 A1) 88 A2) 89 A3) 90 A4) 91 A5) 92 A6) 93 A7 := ⟨_, rfl⟩
    rw [← hN_]
    have hNM_ : ∀ a, 200 ≤ a → N a = M a := fun a ha => by rw [hN_]; exact (fr_sr (by omega) (fr_sr (by omega) (fr_sr (by omega) (fr_sr (by omega) (fr_sr (by omega) (fr_sr (by omega) (fr_sr (by omega) fr_0))))))) a ha
    have hR_ : Rel nn M N := relB h0_ hNM_
    have hF5_ : N 200 50 = M 200 50 := congrFun (hNM_ 200 (by decide)) 50
    have e_ := r_eq hR_
    have tc_ := eq_tc e_
    have lc_ := eq_lc e_
    have wc_ := eq_wc e_
    have bc_ := eq_bc e_
    have tb_ := eq_tb e_
    have sc_ := eq_sc e_
    have ec_ := eq_ec e_
    have h8_ := eq_h8 e_
    have h9_ := eq_h9 e_
    have h10_ := eq_h10 e_
    have h11_ := eq_h11 e_
    refine y_takes b h h_b h_h (hrg_ hR_ hn6_) (hmc_ hR_) (hmbc_ hR_) (hthm_ hR_) (hbum_ hR_) (hhrm_ hR_) (fun hD_ => ?_) (fun hD_ => ?_)
    · exfalso; omega
    · refine fin2 h2_ (by rw [eq_e7 e_, eq_e8 e_, eq_e9 e_, eq_e10 e_, eq_e22 e_, eq_e24 e_, eq_e25 e_, eq_e11 e_, eq_e23 e_, tc_, bc_, h8_, h9_, hC_.2]; exact choR_eq (s := (_, _, 0)) (t := (_, _, 0)) r3_eq0 (bn := (M 21 5).toNat) (by omega)) (relA (A := sr (sr (sr (sr (sr (sr (sr M 87 A1) 88 A2) 89 A3) 90 A4) 91 A5) 92 A6) 93 A7) (rel_sale (rel_s hR_) _ _ _ _ _ _ _ _ _) (fun a ha => by rw [← hN_]; exact (gr_sr (by omega) (gr_sr (by omega) fr_0)) a ha)) (((fw_sr (by decide) (fw_sr (by decide) rfl))).trans hF5_)
set_option maxHeartbeats 1000000 in
theorem p_takings {l : Launch} {M : Mem} {Pq : Option gV → Mem → Prop} {nn : Nat} (h0_ : Rel nn M M) (hn_ : nn ≤ 512) (ha : Int) (bg : Int) (h_ha : inI ha) (h_bg : inI bg) (kont : ∀ (r : Int) (M1 : Mem), M1 200 50 = M 200 50 → (∀ Pq2 : Option gV → Mem → Prop, (∀ M2, Rel (nn + 1) M2 M2 → M2 200 50 = M 200 50 → Pq2 (some (gI r)) M2) → gCtr l my_X12_takings mb_X12_takings 3 ((some .int)) 6 [gR 200, gI ha, gI bg] M1 Pq2) → Pq (some (gI r)) M1) : gCtr l my_X11_takings mb_X11_takings 3 ((some .int)) 6 [gR 0, gI ha, gI bg] M Pq := by
  have hn6_ : nn ≤ 600 := by omega
  refine x_takings ha bg h_ha h_bg (hrf_ h0_ hn6_) (hc_ h0_) (hbc_ h0_) (hth_ h0_) (hbu_ h0_) (hmn_ h0_ hn6_) (hhr_ h0_) (fun hC_ => ?_) (fun A1 A2 A3 A4 A5 A6 A7 hC_ => ?_)
  · refine kont _ _ (by exact congrFun ((fr_up (by omega) fr_0) 200 (by decide)) 50) (fun Pq2 h2_ => ?_)
    obtain ⟨N, hN_⟩ : ∃ N, N = rf M 0 := ⟨_, rfl⟩
    rw [← hN_]
    have hNM_ : ∀ a, 200 ≤ a → N a = M a := fun a ha => by rw [hN_]; exact (fr_up (by omega) fr_0) a ha
    have hR_ : Rel nn M N := relB h0_ hNM_
    have hF5_ : N 200 50 = M 200 50 := congrFun (hNM_ 200 (by decide)) 50
    have e_ := r_eq hR_
    have tc_ := eq_tc e_
    have lc_ := eq_lc e_
    have wc_ := eq_wc e_
    have bc_ := eq_bc e_
    have tb_ := eq_tb e_
    have sc_ := eq_sc e_
    have ec_ := eq_ec e_
    have h8_ := eq_h8 e_
    have h9_ := eq_h9 e_
    have h10_ := eq_h10 e_
    have h11_ := eq_h11 e_
    refine y_takings ha bg h_ha h_bg (hrg_ hR_ hn6_) (hmc_ hR_) (hmbc_ hR_) (hthm_ hR_) (hbum_ hR_) (hhrm_ hR_) (fun hD_ => ?_) (fun G1 G2 hD_ => ?_)
    · refine fin2 h2_ (rfl) (relA (A := rf M 0) (rel_no hR_ 0 (by decide)) (fun a ha => by rw [← hN_]; exact (gr_up (by omega) fr_0) a ha)) (((fw_up (Or.inl (by decide)) rfl)).trans hF5_)
    · exfalso; omega
  · refine kont _ _ (by exact congrFun ((fr_sr (by omega) (fr_sr (by omega) (fr_sr (by omega) (fr_sr (by omega) (fr_sr (by omega) (fr_sr (by omega) (fr_sr (by omega) fr_0))))))) 200 (by decide)) 50) (fun Pq2 h2_ => ?_)
    obtain ⟨N, hN_⟩ : ∃ N, N = sr (sr (sr (sr (sr (sr (sr M 87 A1) 88 A2) 89 A3) 90 A4) 91 A5) 92 A6) 93 A7 := ⟨_, rfl⟩
    rw [← hN_]
    have hNM_ : ∀ a, 200 ≤ a → N a = M a := fun a ha => by rw [hN_]; exact (fr_sr (by omega) (fr_sr (by omega) (fr_sr (by omega) (fr_sr (by omega) (fr_sr (by omega) (fr_sr (by omega) (fr_sr (by omega) fr_0))))))) a ha
    have hR_ : Rel nn M N := relB h0_ hNM_
    have hF5_ : N 200 50 = M 200 50 := congrFun (hNM_ 200 (by decide)) 50
    have e_ := r_eq hR_
    have tc_ := eq_tc e_
    have lc_ := eq_lc e_
    have wc_ := eq_wc e_
    have bc_ := eq_bc e_
    have tb_ := eq_tb e_
    have sc_ := eq_sc e_
    have ec_ := eq_ec e_
    have h8_ := eq_h8 e_
    have h9_ := eq_h9 e_
    have h10_ := eq_h10 e_
    have h11_ := eq_h11 e_
    refine y_takings ha bg h_ha h_bg (hrg_ hR_ hn6_) (hmc_ hR_) (hmbc_ hR_) (hthm_ hR_) (hbum_ hR_) (hhrm_ hR_) (fun hD_ => ?_) (fun G1 G2 hD_ => ?_)
    · exfalso; omega
    · refine fin2 h2_ (by rw [eq_e7 e_, eq_e8 e_, eq_e9 e_, eq_e10 e_, eq_e22 e_, eq_e24 e_, eq_e25 e_, eq_e11 e_, eq_e23 e_, tc_, bc_]) (relA (A := sr (sr (sr (sr (sr (sr (sr M 87 A1) 88 A2) 89 A3) 90 A4) 91 A5) 92 A6) 93 A7) (rel_sale (rel_s hR_) _ _ _ _ _ _ _ _ _) (fun a ha => by rw [← hN_]; exact (gr_sr (by omega) (gr_sr (by omega) fr_0)) a ha)) (((fw_sr (by decide) (fw_sr (by decide) rfl))).trans hF5_)
set_option maxHeartbeats 1000000 in
theorem p_best {l : Launch} {M : Mem} {Pq : Option gV → Mem → Prop} {nn : Nat} (h0_ : Rel nn M M) (hn_ : nn ≤ 512) (kont : ∀ (r : Int) (M1 : Mem), M1 200 50 = M 200 50 → (∀ Pq2 : Option gV → Mem → Prop, (∀ M2, Rel (nn + 1) M2 M2 → M2 200 50 = M 200 50 → Pq2 (some (gI r)) M2) → gCtr l my_X12_best mb_X12_best 6 ((some .int)) 6 [gR 200] M1 Pq2) → Pq (some (gI r)) M1) : gCtr l my_X11_best mb_X11_best 1 ((some .int)) 7 [gR 0] M Pq := by
  have hn6_ : nn ≤ 600 := by omega
  refine x_best (hc_ h0_) (hbc_ h0_) (hth_ h0_) (hbu_ h0_) (hmn_ h0_ hn6_) (fun A1 A2 A3 A4 A5 A6 A7 hC_ => ?_)
  · refine kont _ _ (by exact congrFun ((fr_sr (by omega) (fr_sr (by omega) (fr_sr (by omega) (fr_sr (by omega) (fr_sr (by omega) (fr_sr (by omega) (fr_sr (by omega) fr_0))))))) 200 (by decide)) 50) (fun Pq2 h2_ => ?_)
    obtain ⟨N, hN_⟩ : ∃ N, N = sr (sr (sr (sr (sr (sr (sr M 87 A1) 88 A2) 89 A3) 90 A4) 91 A5) 92 A6) 93 A7 := ⟨_, rfl⟩
    rw [← hN_]
    have hNM_ : ∀ a, 200 ≤ a → N a = M a := fun a ha => by rw [hN_]; exact (fr_sr (by omega) (fr_sr (by omega) (fr_sr (by omega) (fr_sr (by omega) (fr_sr (by omega) (fr_sr (by omega) (fr_sr (by omega) fr_0))))))) a ha
    have hR_ : Rel nn M N := relB h0_ hNM_
    have hF5_ : N 200 50 = M 200 50 := congrFun (hNM_ 200 (by decide)) 50
    have e_ := r_eq hR_
    have tc_ := eq_tc e_
    have lc_ := eq_lc e_
    have wc_ := eq_wc e_
    have bc_ := eq_bc e_
    have tb_ := eq_tb e_
    have sc_ := eq_sc e_
    have ec_ := eq_ec e_
    have h8_ := eq_h8 e_
    have h9_ := eq_h9 e_
    have h10_ := eq_h10 e_
    have h11_ := eq_h11 e_
    have hc6_ := hc_ hR_
    have hb12_ := hbc_ hR_
    refine y_best (hmc_ hR_) (hmbc_ hR_) (hthm_ hR_) (hbum_ hR_) (fun G1 G2 hD_ => ?_)
    · refine fin2 h2_ (by rw [eq_e7 e_, eq_e8 e_, eq_e9 e_, eq_e10 e_, eq_e22 e_, eq_e24 e_, eq_e25 e_, eq_e11 e_, eq_e23 e_, tc_, bc_]; exact best_eq (fun a c => (tkg_in (fun j hj => ((hth_ hR_) j (by omega)).2.2.2.1.2) (fun b hb => ((hbu_ hR_) b (by omega)).2.1) (by omega)).1)) (relA (A := sr (sr (sr (sr (sr (sr (sr M 87 A1) 88 A2) 89 A3) 90 A4) 91 A5) 92 A6) 93 A7) (rel_sale (rel_s hR_) _ _ _ _ _ _ _ _ _) (fun a ha => by rw [← hN_]; exact (gr_sr (by omega) (gr_sr (by omega) fr_0)) a ha)) (((fw_sr (by decide) (fw_sr (by decide) rfl))).trans hF5_)
set_option maxHeartbeats 1000000 in
theorem p_judge {l : Launch} {M : Mem} {Pq : Option gV → Mem → Prop} {nn : Nat} (h0_ : Rel nn M M) (hn_ : nn ≤ 512) (sf : Int) (h_sf : inI sf) (kont : ∀ (r : Int) (M1 : Mem), M1 200 50 = M 200 50 → (∀ Pq2 : Option gV → Mem → Prop, (∀ M2, Rel (nn + 1) M2 M2 → M2 200 50 = M 200 50 → Pq2 (some (gI r)) M2) → gCtr l my_X12_judge mb_X12_judge 9 ((some .int)) 5 [gR 200, gI sf] M1 Pq2) → Pq (some (gI r)) M1) : gCtr l my_X11_judge mb_X11_judge 4 ((some .int)) 5 [gR 0, gI sf] M Pq := by
  have hn6_ : nn ≤ 600 := by omega
  refine x_judge sf h_sf (hrf_ h0_ hn6_) (hc_ h0_) (hbc_ h0_) (hth_ h0_) (hbu_ h0_) (hmn_ h0_ hn6_) (hhr_ h0_) (hsh_ h0_) (fun hC_ => ?_) (fun hC_ => ?_) (fun hC_ => ?_) (fun h A1 A2 A3 A4 A5 A6 A7 hC_ => ?_) (fun A1 A2 A3 A4 A5 A6 A7 hC_ => ?_)
  · refine kont _ _ (by exact congrFun ((fr_up (by omega) fr_0) 200 (by decide)) 50) (fun Pq2 h2_ => ?_)
    obtain ⟨N, hN_⟩ : ∃ N, N = rf M 0 := ⟨_, rfl⟩
    rw [← hN_]
    have hNM_ : ∀ a, 200 ≤ a → N a = M a := fun a ha => by rw [hN_]; exact (fr_up (by omega) fr_0) a ha
    have hR_ : Rel nn M N := relB h0_ hNM_
    have hF5_ : N 200 50 = M 200 50 := congrFun (hNM_ 200 (by decide)) 50
    have e_ := r_eq hR_
    have tc_ := eq_tc e_
    have lc_ := eq_lc e_
    have wc_ := eq_wc e_
    have bc_ := eq_bc e_
    have tb_ := eq_tb e_
    have sc_ := eq_sc e_
    have ec_ := eq_ec e_
    have h8_ := eq_h8 e_
    have h9_ := eq_h9 e_
    have h10_ := eq_h10 e_
    have h11_ := eq_h11 e_
    have sh_ : 0 ≤ sf ∧ sf ≤ 7 → ((M (1 + 96 + 2 * sf.toNat) 1 = -1 ∧ N 201 sf.toNat = -1) ∨ ((0 ≤ M (1 + 96 + 2 * sf.toNat) 1 ∧ M (1 + 96 + 2 * sf.toNat) 1 ≤ 4) ∧ N 201 sf.toNat = 100 + M (1 + 96 + 2 * sf.toNat) 1) ∨ ((10 ≤ M (1 + 96 + 2 * sf.toNat) 1 ∧ M (1 + 96 + 2 * sf.toNat) 1 < 10 + M 6 6) ∧ N 201 sf.toNat = M (1 + 96 + 2 * sf.toNat) 1 - 10)) := fun z_ => (r_sh hR_ sf.toNat (by omega)).1
    have sl_ : 0 ≤ sf ∧ sf ≤ 7 → (0 ≤ M (1 + 96 + 2 * sf.toNat) 2 ∧ M (1 + 96 + 2 * sf.toNat) 2 ≤ 40 ∧ N 202 sf.toNat = M (1 + 96 + 2 * sf.toNat) 2) := fun z_ => (r_sh hR_ sf.toNat (by omega)).2.1
    have hc6_ := hc_ hR_
    refine y_judge sf h_sf (hrg_ hR_ hn6_) (hmc_ hR_) (hmbc_ hR_) (hthm_ hR_) (hbum_ hR_) (hhrm_ hR_) (hho_ hR_) (fun hD_ => ?_) (fun hD_ => ?_) (fun hD_ => ?_) (fun h G1 G2 hD_ => ?_) (fun G1 G2 hD_ => ?_)
    · refine fin2 h2_ (rfl) (relA (A := rf M 0) (rel_no hR_ 0 (by decide)) (fun a ha => by rw [← hN_]; exact (gr_up (by omega) fr_0) a ha)) (((fw_up (Or.inl (by decide)) rfl)).trans hF5_)
    · exfalso; omega
    · exfalso; omega
    · exfalso; omega
    · exfalso; omega
  · refine kont _ _ (by exact congrFun ((fr_up (by omega) fr_0) 200 (by decide)) 50) (fun Pq2 h2_ => ?_)
    obtain ⟨N, hN_⟩ : ∃ N, N = rf M 1 := ⟨_, rfl⟩
    rw [← hN_]
    have hNM_ : ∀ a, 200 ≤ a → N a = M a := fun a ha => by rw [hN_]; exact (fr_up (by omega) fr_0) a ha
    have hR_ : Rel nn M N := relB h0_ hNM_
    have hF5_ : N 200 50 = M 200 50 := congrFun (hNM_ 200 (by decide)) 50
    have e_ := r_eq hR_
    have tc_ := eq_tc e_
    have lc_ := eq_lc e_
    have wc_ := eq_wc e_
    have bc_ := eq_bc e_
    have tb_ := eq_tb e_
    have sc_ := eq_sc e_
    have ec_ := eq_ec e_
    have h8_ := eq_h8 e_
    have h9_ := eq_h9 e_
    have h10_ := eq_h10 e_
    have h11_ := eq_h11 e_
    have sh_ : 0 ≤ sf ∧ sf ≤ 7 → ((M (1 + 96 + 2 * sf.toNat) 1 = -1 ∧ N 201 sf.toNat = -1) ∨ ((0 ≤ M (1 + 96 + 2 * sf.toNat) 1 ∧ M (1 + 96 + 2 * sf.toNat) 1 ≤ 4) ∧ N 201 sf.toNat = 100 + M (1 + 96 + 2 * sf.toNat) 1) ∨ ((10 ≤ M (1 + 96 + 2 * sf.toNat) 1 ∧ M (1 + 96 + 2 * sf.toNat) 1 < 10 + M 6 6) ∧ N 201 sf.toNat = M (1 + 96 + 2 * sf.toNat) 1 - 10)) := fun z_ => (r_sh hR_ sf.toNat (by omega)).1
    have sl_ : 0 ≤ sf ∧ sf ≤ 7 → (0 ≤ M (1 + 96 + 2 * sf.toNat) 2 ∧ M (1 + 96 + 2 * sf.toNat) 2 ≤ 40 ∧ N 202 sf.toNat = M (1 + 96 + 2 * sf.toNat) 2) := fun z_ => (r_sh hR_ sf.toNat (by omega)).2.1
    have hc6_ := hc_ hR_
    refine y_judge sf h_sf (hrg_ hR_ hn6_) (hmc_ hR_) (hmbc_ hR_) (hthm_ hR_) (hbum_ hR_) (hhrm_ hR_) (hho_ hR_) (fun hD_ => ?_) (fun hD_ => ?_) (fun hD_ => ?_) (fun h G1 G2 hD_ => ?_) (fun G1 G2 hD_ => ?_)
    · exfalso; omega
    · refine fin2 h2_ (rfl) (relA (A := rf M 1) (rel_no hR_ 1 (by decide)) (fun a ha => by rw [← hN_]; exact (gr_up (by omega) fr_0) a ha)) (((fw_up (Or.inl (by decide)) rfl)).trans hF5_)
    · exfalso; omega
    · exfalso; omega
    · exfalso; omega
  · refine kont _ _ (by exact congrFun ((fr_up (by omega) fr_0) 200 (by decide)) 50) (fun Pq2 h2_ => ?_)
    obtain ⟨N, hN_⟩ : ∃ N, N = rf M 2 := ⟨_, rfl⟩
    rw [← hN_]
    have hNM_ : ∀ a, 200 ≤ a → N a = M a := fun a ha => by rw [hN_]; exact (fr_up (by omega) fr_0) a ha
    have hR_ : Rel nn M N := relB h0_ hNM_
    have hF5_ : N 200 50 = M 200 50 := congrFun (hNM_ 200 (by decide)) 50
    have e_ := r_eq hR_
    have tc_ := eq_tc e_
    have lc_ := eq_lc e_
    have wc_ := eq_wc e_
    have bc_ := eq_bc e_
    have tb_ := eq_tb e_
    have sc_ := eq_sc e_
    have ec_ := eq_ec e_
    have h8_ := eq_h8 e_
    have h9_ := eq_h9 e_
    have h10_ := eq_h10 e_
    have h11_ := eq_h11 e_
    have sh_ : 0 ≤ sf ∧ sf ≤ 7 → ((M (1 + 96 + 2 * sf.toNat) 1 = -1 ∧ N 201 sf.toNat = -1) ∨ ((0 ≤ M (1 + 96 + 2 * sf.toNat) 1 ∧ M (1 + 96 + 2 * sf.toNat) 1 ≤ 4) ∧ N 201 sf.toNat = 100 + M (1 + 96 + 2 * sf.toNat) 1) ∨ ((10 ≤ M (1 + 96 + 2 * sf.toNat) 1 ∧ M (1 + 96 + 2 * sf.toNat) 1 < 10 + M 6 6) ∧ N 201 sf.toNat = M (1 + 96 + 2 * sf.toNat) 1 - 10)) := fun z_ => (r_sh hR_ sf.toNat (by omega)).1
    have sl_ : 0 ≤ sf ∧ sf ≤ 7 → (0 ≤ M (1 + 96 + 2 * sf.toNat) 2 ∧ M (1 + 96 + 2 * sf.toNat) 2 ≤ 40 ∧ N 202 sf.toNat = M (1 + 96 + 2 * sf.toNat) 2) := fun z_ => (r_sh hR_ sf.toNat (by omega)).2.1
    have hc6_ := hc_ hR_
    refine y_judge sf h_sf (hrg_ hR_ hn6_) (hmc_ hR_) (hmbc_ hR_) (hthm_ hR_) (hbum_ hR_) (hhrm_ hR_) (hho_ hR_) (fun hD_ => ?_) (fun hD_ => ?_) (fun hD_ => ?_) (fun h G1 G2 hD_ => ?_) (fun G1 G2 hD_ => ?_)
    · exfalso; omega
    · exfalso; omega
    · refine fin2 h2_ (rfl) (relA (A := rf M 2) (rel_no hR_ 2 (by decide)) (fun a ha => by rw [← hN_]; exact (gr_up (by omega) fr_0) a ha)) (((fw_up (Or.inl (by decide)) rfl)).trans hF5_)
    · exfalso; omega
    · exfalso; omega
  · refine kont _ _ (by exact congrFun ((fr_sr (by omega) (fr_sr (by omega) (fr_sr (by omega) (fr_sr (by omega) (fr_sr (by omega) (fr_sr (by omega) (fr_sr (by omega) fr_0))))))) 200 (by decide)) 50) (fun Pq2 h2_ => ?_)
    obtain ⟨N, hN_⟩ : ∃ N, N = sr (sr (sr (sr (sr (sr (sr M 87 A1) 88 A2) 89 A3) 90 A4) 91 A5) 92 A6) 93 A7 := ⟨_, rfl⟩
    rw [← hN_]
    have hNM_ : ∀ a, 200 ≤ a → N a = M a := fun a ha => by rw [hN_]; exact (fr_sr (by omega) (fr_sr (by omega) (fr_sr (by omega) (fr_sr (by omega) (fr_sr (by omega) (fr_sr (by omega) (fr_sr (by omega) fr_0))))))) a ha
    have hR_ : Rel nn M N := relB h0_ hNM_
    have hF5_ : N 200 50 = M 200 50 := congrFun (hNM_ 200 (by decide)) 50
    have e_ := r_eq hR_
    have tc_ := eq_tc e_
    have lc_ := eq_lc e_
    have wc_ := eq_wc e_
    have bc_ := eq_bc e_
    have tb_ := eq_tb e_
    have sc_ := eq_sc e_
    have ec_ := eq_ec e_
    have h8_ := eq_h8 e_
    have h9_ := eq_h9 e_
    have h10_ := eq_h10 e_
    have h11_ := eq_h11 e_
    have sh_ : 0 ≤ sf ∧ sf ≤ 7 → ((M (1 + 96 + 2 * sf.toNat) 1 = -1 ∧ N 201 sf.toNat = -1) ∨ ((0 ≤ M (1 + 96 + 2 * sf.toNat) 1 ∧ M (1 + 96 + 2 * sf.toNat) 1 ≤ 4) ∧ N 201 sf.toNat = 100 + M (1 + 96 + 2 * sf.toNat) 1) ∨ ((10 ≤ M (1 + 96 + 2 * sf.toNat) 1 ∧ M (1 + 96 + 2 * sf.toNat) 1 < 10 + M 6 6) ∧ N 201 sf.toNat = M (1 + 96 + 2 * sf.toNat) 1 - 10)) := fun z_ => (r_sh hR_ sf.toNat (by omega)).1
    have sl_ : 0 ≤ sf ∧ sf ≤ 7 → (0 ≤ M (1 + 96 + 2 * sf.toNat) 2 ∧ M (1 + 96 + 2 * sf.toNat) 2 ≤ 40 ∧ N 202 sf.toNat = M (1 + 96 + 2 * sf.toNat) 2) := fun z_ => (r_sh hR_ sf.toNat (by omega)).2.1
    have hc6_ := hc_ hR_
    refine y_judge sf h_sf (hrg_ hR_ hn6_) (hmc_ hR_) (hmbc_ hR_) (hthm_ hR_) (hbum_ hR_) (hhrm_ hR_) (hho_ hR_) (fun hD_ => ?_) (fun hD_ => ?_) (fun hD_ => ?_) (fun h_y G1 G2 hD_ => ?_) (fun G1 G2 hD_ => ?_)
    · exfalso; omega
    · exfalso; omega
    · exfalso; omega
    · have hD0_ := hD_.1.1
      have hjq_ : ∀ k : Nat, jrw (N 203) (40 * sf) (N 202 sf.toNat) k = jrw (M (1 + 96 + 2 * sf.toNat + 1)) 0 (M (1 + 96 + 2 * sf.toNat) 2) k := fun k => (by have q_ := r_sh hR_ sf.toNat (by omega); rw [q_.2.1.2.2]; exact jrw_eq (by omega) q_.2.1.2.1 q_.2.2 k)
      rw [eq_e7 e_, eq_e8 e_, eq_e9 e_, eq_e10 e_, eq_e22 e_, eq_e24 e_, eq_e25 e_, eq_e11 e_, eq_e23 e_, tc_, bc_, h8_, h9_] at hD_
      simp only [hjq_] at hD_
      refine fin2 h2_ (by
            rcases Int.lt_trichotomy h h_y with z_ | z_ | z_
            · have q_ := hD_.2.1 h.toNat (by omega)
              exact absurd q_ hC_.2.2
            · exact z_.symm
            · have q_ := hC_.2.1 h_y.toNat (by omega)
              exact absurd q_ hD_.2.2) (relA (A := sr (sr (sr (sr (sr (sr (sr M 87 A1) 88 A2) 89 A3) 90 A4) 91 A5) 92 A6) 93 A7) (rel_sale (rel_s hR_) _ _ _ _ _ _ _ _ _) (fun a ha => by rw [← hN_]; exact (gr_sr (by omega) (gr_sr (by omega) fr_0)) a ha)) (((fw_sr (by decide) (fw_sr (by decide) rfl))).trans hF5_)
    · have hjq_ : ∀ k : Nat, jrw (N 203) (40 * sf) (N 202 sf.toNat) k = jrw (M (1 + 96 + 2 * sf.toNat + 1)) 0 (M (1 + 96 + 2 * sf.toNat) 2) k := fun k => (by have q_ := r_sh hR_ sf.toNat (by omega); rw [q_.2.1.2.2]; exact jrw_eq (by omega) q_.2.1.2.1 q_.2.2 k)
      rw [eq_e7 e_, eq_e8 e_, eq_e9 e_, eq_e10 e_, eq_e22 e_, eq_e24 e_, eq_e25 e_, eq_e11 e_, eq_e23 e_, tc_, bc_, h8_, h9_] at hD_
      simp only [hjq_] at hD_
      exact absurd (hD_.2 h.toNat (by omega)) hC_.2.2
  · refine kont _ _ (by exact congrFun ((fr_sr (by omega) (fr_sr (by omega) (fr_sr (by omega) (fr_sr (by omega) (fr_sr (by omega) (fr_sr (by omega) (fr_sr (by omega) fr_0))))))) 200 (by decide)) 50) (fun Pq2 h2_ => ?_)
    obtain ⟨N, hN_⟩ : ∃ N, N = sr (sr (sr (sr (sr (sr (sr M 87 A1) 88 A2) 89 A3) 90 A4) 91 A5) 92 A6) 93 A7 := ⟨_, rfl⟩
    rw [← hN_]
    have hNM_ : ∀ a, 200 ≤ a → N a = M a := fun a ha => by rw [hN_]; exact (fr_sr (by omega) (fr_sr (by omega) (fr_sr (by omega) (fr_sr (by omega) (fr_sr (by omega) (fr_sr (by omega) (fr_sr (by omega) fr_0))))))) a ha
    have hR_ : Rel nn M N := relB h0_ hNM_
    have hF5_ : N 200 50 = M 200 50 := congrFun (hNM_ 200 (by decide)) 50
    have e_ := r_eq hR_
    have tc_ := eq_tc e_
    have lc_ := eq_lc e_
    have wc_ := eq_wc e_
    have bc_ := eq_bc e_
    have tb_ := eq_tb e_
    have sc_ := eq_sc e_
    have ec_ := eq_ec e_
    have h8_ := eq_h8 e_
    have h9_ := eq_h9 e_
    have h10_ := eq_h10 e_
    have h11_ := eq_h11 e_
    have sh_ : 0 ≤ sf ∧ sf ≤ 7 → ((M (1 + 96 + 2 * sf.toNat) 1 = -1 ∧ N 201 sf.toNat = -1) ∨ ((0 ≤ M (1 + 96 + 2 * sf.toNat) 1 ∧ M (1 + 96 + 2 * sf.toNat) 1 ≤ 4) ∧ N 201 sf.toNat = 100 + M (1 + 96 + 2 * sf.toNat) 1) ∨ ((10 ≤ M (1 + 96 + 2 * sf.toNat) 1 ∧ M (1 + 96 + 2 * sf.toNat) 1 < 10 + M 6 6) ∧ N 201 sf.toNat = M (1 + 96 + 2 * sf.toNat) 1 - 10)) := fun z_ => (r_sh hR_ sf.toNat (by omega)).1
    have sl_ : 0 ≤ sf ∧ sf ≤ 7 → (0 ≤ M (1 + 96 + 2 * sf.toNat) 2 ∧ M (1 + 96 + 2 * sf.toNat) 2 ≤ 40 ∧ N 202 sf.toNat = M (1 + 96 + 2 * sf.toNat) 2) := fun z_ => (r_sh hR_ sf.toNat (by omega)).2.1
    have hc6_ := hc_ hR_
    refine y_judge sf h_sf (hrg_ hR_ hn6_) (hmc_ hR_) (hmbc_ hR_) (hthm_ hR_) (hbum_ hR_) (hhrm_ hR_) (hho_ hR_) (fun hD_ => ?_) (fun hD_ => ?_) (fun hD_ => ?_) (fun h G1 G2 hD_ => ?_) (fun G1 G2 hD_ => ?_)
    · exfalso; omega
    · exfalso; omega
    · exfalso; omega
    · have hjq_ : ∀ k : Nat, jrw (N 203) (40 * sf) (N 202 sf.toNat) k = jrw (M (1 + 96 + 2 * sf.toNat + 1)) 0 (M (1 + 96 + 2 * sf.toNat) 2) k := fun k => (by have q_ := r_sh hR_ sf.toNat (by omega); rw [q_.2.1.2.2]; exact jrw_eq (by omega) q_.2.1.2.1 q_.2.2 k)
      rw [eq_e7 e_, eq_e8 e_, eq_e9 e_, eq_e10 e_, eq_e22 e_, eq_e24 e_, eq_e25 e_, eq_e11 e_, eq_e23 e_, tc_, bc_, h8_, h9_] at hD_
      simp only [hjq_] at hD_
      exact absurd (hC_.2 h.toNat (by omega)) hD_.2.2
    · refine fin2 h2_ (rfl) (relA (A := sr (sr (sr (sr (sr (sr (sr M 87 A1) 88 A2) 89 A3) 90 A4) 91 A5) 92 A6) 93 A7) (rel_sale (rel_s hR_) _ _ _ _ _ _ _ _ _) (fun a ha => by rw [← hN_]; exact (gr_sr (by omega) (gr_sr (by omega) fr_0)) a ha)) (((fw_sr (by decide) (fw_sr (by decide) rfl))).trans hF5_)
set_option maxHeartbeats 1000000 in
theorem p_vases {l : Launch} {M : Mem} {Pq : Option gV → Mem → Prop} {nn : Nat} (h0_ : Rel nn M M) (hn_ : nn ≤ 512) (kont : ∀ (r : Int) (M1 : Mem), M1 200 50 = M 200 50 → (∀ Pq2 : Option gV → Mem → Prop, (∀ M2, Rel (nn + 1) M2 M2 → M2 200 50 = M 200 50 → Pq2 (some (gI r)) M2) → gCtr l my_X12_vases mb_X12_vases 3 ((some .int)) 3 [gR 200] M1 Pq2) → Pq (some (gI r)) M1) : gCtr l my_X11_vases mb_X11_vases 1 ((some .int)) 23 [gR 0] M Pq := by
  have hn6_ : nn ≤ 600 := by omega
  refine x_vases (hsc_ h0_) (fun u B1 T1 hC_ => ?_)
  · refine kont _ _ (by exact congrFun ((fr_sr (by omega) (fr_sr (by omega) fr_0)) 200 (by decide)) 50) (fun Pq2 h2_ => ?_)
    obtain ⟨N, hN_⟩ : ∃ N, N = sr (sr M 32 B1) 33 T1 := ⟨_, rfl⟩
    rw [← hN_]
    have hNM_ : ∀ a, 200 ≤ a → N a = M a := fun a ha => by rw [hN_]; exact (fr_sr (by omega) (fr_sr (by omega) fr_0)) a ha
    have hR_ : Rel nn M N := relB h0_ hNM_
    have hF5_ : N 200 50 = M 200 50 := congrFun (hNM_ 200 (by decide)) 50
    have e_ := r_eq hR_
    have tc_ := eq_tc e_
    have lc_ := eq_lc e_
    have wc_ := eq_wc e_
    have bc_ := eq_bc e_
    have tb_ := eq_tb e_
    have sc_ := eq_sc e_
    have ec_ := eq_ec e_
    have h8_ := eq_h8 e_
    have h9_ := eq_h9 e_
    have h10_ := eq_h10 e_
    have h11_ := eq_h11 e_
    refine y_vases (hmsc_ hR_) (fun u_y m1 B1_y F1 L1 hD_ => ?_)
    · refine fin2 h2_ (by
            rw [eq_e28 e_, eq_e29 e_, eq_e30 e_, eq_e31 e_, sc_] at hD_
            have q_ := opt_le hC_ hD_
            have w_ := opt_le hD_ hC_
            omega) (relA (A := sr (sr M 32 B1) 33 T1) (rel_vases (rel_s hR_) _ _ _ _ _ _) (fun a ha => by rw [← hN_]; exact (gr_sr (by omega) (gr_sr (by omega) (gr_sr (by omega) (gr_sr (by omega) fr_0)))) a ha)) (((fw_sr (by decide) (fw_sr (by decide) (fw_sr (by decide) (fw_sr (by decide) rfl))))).trans hF5_)
set_option maxHeartbeats 1000000 in
theorem p_hall {l : Launch} {M : Mem} {Pq : Option gV → Mem → Prop} {nn : Nat} (h0_ : Rel nn M M) (hn_ : nn ≤ 512) (fi : Int) (t : Int) (h_fi : inI fi) (h_t : inI t) (kont : ∀ (r : Int) (M1 : Mem), M1 200 50 = M 200 50 → (∀ Pq2 : Option gV → Mem → Prop, (∀ M2, Rel (nn + 1) M2 M2 → M2 200 50 = M 200 50 → Pq2 (some (gI r)) M2) → gCtr l my_X12_hall mb_X12_hall 5 ((some .int)) 5 [gR 200, gI fi, gI t] M1 Pq2) → Pq (some (gI r)) M1) : gCtr l my_X11_hall mb_X11_hall 3 ((some .int)) 6 [gR 0, gI fi, gI t] M Pq := by
  have hn6_ : nn ≤ 600 := by omega
  refine x_hall fi t h_fi h_t (hrf_ h0_ hn6_) (hc_ h0_) (hth_ h0_) (fun hC_ => ?_) (fun hC_ => ?_)
  · refine kont _ _ (by exact congrFun ((fr_up (by omega) fr_0) 200 (by decide)) 50) (fun Pq2 h2_ => ?_)
    obtain ⟨N, hN_⟩ : ∃ N, N = rf M 0 := ⟨_, rfl⟩
    rw [← hN_]
    have hNM_ : ∀ a, 200 ≤ a → N a = M a := fun a ha => by rw [hN_]; exact (fr_up (by omega) fr_0) a ha
    have hR_ : Rel nn M N := relB h0_ hNM_
    have hF5_ : N 200 50 = M 200 50 := congrFun (hNM_ 200 (by decide)) 50
    have e_ := r_eq hR_
    have tc_ := eq_tc e_
    have lc_ := eq_lc e_
    have wc_ := eq_wc e_
    have bc_ := eq_bc e_
    have tb_ := eq_tb e_
    have sc_ := eq_sc e_
    have ec_ := eq_ec e_
    have h8_ := eq_h8 e_
    have h9_ := eq_h9 e_
    have h10_ := eq_h10 e_
    have h11_ := eq_h11 e_
    have hc6_ := hc_ hR_
    refine y_hall fi t h_fi h_t (hrg_ hR_ hn6_) (hmc_ hR_) (hmbc_ hR_) (hthm_ hR_) (hbum_ hR_) (fun hD_ => ?_) (fun G1 G2 hD_ => ?_) (fun m1 G1 G2 hD_ => ?_)
    · refine fin2 h2_ (rfl) (relA (A := rf M 0) (rel_no hR_ 0 (by decide)) (fun a ha => by rw [← hN_]; exact (gr_up (by omega) fr_0) a ha)) (((fw_up (Or.inl (by decide)) rfl)).trans hF5_)
    · exfalso; omega
    · exfalso; omega
  · refine kont _ _ (by exact congrFun ((fr_sr (by omega) fr_0) 200 (by decide)) 50) (fun Pq2 h2_ => ?_)
    obtain ⟨N, hN_⟩ : ∃ N, N = sr M 13 (shA (M 7) (M 8) (M 9) (M 11) (M 6 6).toNat fi (cpf (fun _ => -1) (M 13) 0 0 30) (cntL (M 11) (M 6 6).toNat).toNat) := ⟨_, rfl⟩
    rw [← hN_]
    have hNM_ : ∀ a, 200 ≤ a → N a = M a := fun a ha => by rw [hN_]; exact (fr_sr (by omega) fr_0) a ha
    have hR_ : Rel nn M N := relB h0_ hNM_
    have hF5_ : N 200 50 = M 200 50 := congrFun (hNM_ 200 (by decide)) 50
    have e_ := r_eq hR_
    have tc_ := eq_tc e_
    have lc_ := eq_lc e_
    have wc_ := eq_wc e_
    have bc_ := eq_bc e_
    have tb_ := eq_tb e_
    have sc_ := eq_sc e_
    have ec_ := eq_ec e_
    have h8_ := eq_h8 e_
    have h9_ := eq_h9 e_
    have h10_ := eq_h10 e_
    have h11_ := eq_h11 e_
    have hc6_ := hc_ hR_
    refine y_hall fi t h_fi h_t (hrg_ hR_ hn6_) (hmc_ hR_) (hmbc_ hR_) (hthm_ hR_) (hbum_ hR_) (fun hD_ => ?_) (fun G1 G2 hD_ => ?_) (fun m1 G1 G2 hD_ => ?_)
    · exfalso; omega
    · refine fin2 h2_ (by
            have e11_ := congrFun (eq_e11 e_) t.toNat
            have kp_ := shA_keep (k := M 7) (w := M 8) (c := M 9) (b := M 11) (s0 := cpf (fun _ => -1) (M 13) 0 0 30) (n := (M 6 6).toNat) (f := fi) (t := t.toNat) (m := 0) (Or.inl (by omega)) (cntL (M 11) (M 6 6).toNat).toNat
            rw [Nat.zero_add] at kp_
            rw [kp_]
            exact (cpf_c (by omega)).symm) (relA (A := sr M 13 (shA (M 7) (M 8) (M 9) (M 11) (M 6 6).toNat fi (cpf (fun _ => -1) (M 13) 0 0 30) (cntL (M 11) (M 6 6).toNat).toNat)) (rel_hall (rel_s hR_) _ _ _) (fun a ha => by rw [← hN_]; exact (gr_sr (by omega) (gr_sr (by omega) fr_0)) a ha)) (((fw_sr (by decide) (fw_sr (by decide) rfl))).trans hF5_)
    · refine fin2 h2_ (by
            have e11_ := congrFun (eq_e11 e_) t.toNat
            rw [eq_e7 e_, eq_e8 e_, eq_e9 e_, tc_] at hD_
            have b5_ := ((hth_ hR_) t.toNat (by omega)).2.2.2.2.1
            exact (hall_eq (g0 := gnA (N 209) (N 241) (M 6 6).toNat) (fun j hj => ((TWx_in (hth_ hR_)) j hj).1) (fun j hj => ((hth_ hR_) j hj).1) (by omega) (fun j hj => by
              have b6_ := ((hth_ hR_) j (by omega)).2.2.2.2.1
              unfold gnA
              rw [if_pos hj, eq_e11 e_]
              by_cases z : M 11 j < 0
              · rw [if_pos z]; omega
              · rw [if_neg z]; omega) (fun j hj => cpf_c (by omega)) (by omega) (by omega) (by omega) (fun i hi z => hD_.2.1 i hi (by omega)) (by have z := hD_.2.2; omega)).symm) (relA (A := sr M 13 (shA (M 7) (M 8) (M 9) (M 11) (M 6 6).toNat fi (cpf (fun _ => -1) (M 13) 0 0 30) (cntL (M 11) (M 6 6).toNat).toNat)) (rel_hall (rel_s hR_) _ _ _) (fun a ha => by rw [← hN_]; exact (gr_sr (by omega) (gr_sr (by omega) fr_0)) a ha)) (((fw_sr (by decide) (fw_sr (by decide) rfl))).trans hF5_)
