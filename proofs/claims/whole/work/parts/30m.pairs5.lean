set_option maxHeartbeats 1000000 in
theorem p_shown {l : Launch} {M : Mem} {Pq : Option gV → Mem → Prop} {nn : Nat} (h0_ : Rel nn M M) (hn_ : nn ≤ 512) (mi : Int) (h_mi : inI mi) (kont : ∀ (r : Int) (M1 : Mem), M1 200 50 = M 200 50 → (∀ Pq2 : Option gV → Mem → Prop, (∀ M2, Rel (nn + 1) M2 M2 → M2 200 50 = M 200 50 → Pq2 (some (gI r)) M2) → gCtr l my_X12_shown mb_X12_shown 8 ((some .int)) 4 [gR 200, gI mi] M1 Pq2) → Pq (some (gI r)) M1) : gCtr l my_X11_shown mb_X11_shown 2 ((some .int)) 5 [gR 0, gI mi] M Pq := by
  have hn6_ : nn ≤ 600 := by omega
  refine x_shown mi h_mi (hrf_ h0_ hn6_) (hc_ h0_) (hth_ h0_) (fun hC_ => ?_) (fun hC_ => ?_)
  · refine kont _ _ (by exact congrFun ((fr_up (by omega) fr_0) 200 (by decide)) 50) (fun Pq2 h2_ => ?_)
    obtain ⟨N, hN_⟩ : ∃ N, N = rf M 0 := ⟨_, rfl⟩
    rw [← hN_]
    have hNM_ : ∀ a, 200 ≤ a → N a = M a := fun a ha => by rw [hN_]; exact (fr_up (by omega) fr_0) a ha
    have hR_ : Rel nn M N := relB h0_ hNM_
    have hF5_ : N 200 50 = M 200 50 := congrFun (hNM_ 200 (by decide)) 50
    have e_ := r_eq hR_
    have tc_ := eq_tc e_
    have lc_ := eq_lc e_
    have wc_ := eq_wc e_
    have bc_ := eq_bc e_
    have tb_ := eq_tb e_
    have sc_ := eq_sc e_
    have ec_ := eq_ec e_
    have h8_ := eq_h8 e_
    have h9_ := eq_h9 e_
    have h10_ := eq_h10 e_
    have h11_ := eq_h11 e_
    have hc6_ := hc_ hR_
    refine y_shown mi h_mi (hrg_ hR_ hn6_) (hmc_ hR_) (hthm_ hR_) (fun hD_ => ?_) (fun hD_ => ?_)
    · refine fin2 h2_ (rfl) (relA (A := rf M 0) (rel_no hR_ 0 (by decide)) (fun a ha => by rw [← hN_]; exact (gr_up (by omega) fr_0) a ha)) (((fw_up (Or.inl (by decide)) rfl)).trans hF5_)
    · exfalso; omega
  · refine kont _ _ (by exact congrFun ((fr_sr (by omega) (fr_sr (by omega) fr_0)) 200 (by decide)) 50) (fun Pq2 h2_ => ?_)
    obtain ⟨N, hN_⟩ : ∃ N, N = sr (sr M 95 (bgS (M 10) (M 11) (M 7) (TWf (M 7) (M 8) (M 9)) mi (puA (fun _ => 0) (M 95) (mi + 1).toNat) (puA (fun _ => 0) (M 96) (mi + 1).toNat) (M 6 6).toNat).1) 96 (bgS (M 10) (M 11) (M 7) (TWf (M 7) (M 8) (M 9)) mi (puA (fun _ => 0) (M 95) (mi + 1).toNat) (puA (fun _ => 0) (M 96) (mi + 1).toNat) (M 6 6).toNat).2 := ⟨_, rfl⟩
    rw [← hN_]
    have hNM_ : ∀ a, 200 ≤ a → N a = M a := fun a ha => by rw [hN_]; exact (fr_sr (by omega) (fr_sr (by omega) fr_0)) a ha
    have hR_ : Rel nn M N := relB h0_ hNM_
    have hF5_ : N 200 50 = M 200 50 := congrFun (hNM_ 200 (by decide)) 50
    have e_ := r_eq hR_
    have tc_ := eq_tc e_
    have lc_ := eq_lc e_
    have wc_ := eq_wc e_
    have bc_ := eq_bc e_
    have tb_ := eq_tb e_
    have sc_ := eq_sc e_
    have ec_ := eq_ec e_
    have h8_ := eq_h8 e_
    have h9_ := eq_h9 e_
    have h10_ := eq_h10 e_
    have h11_ := eq_h11 e_
    have hc6_ := hc_ hR_
    refine y_shown mi h_mi (hrg_ hR_ hn6_) (hmc_ hR_) (hthm_ hR_) (fun hD_ => ?_) (fun hD_ => ?_)
    · exfalso; omega
    · refine fin2 h2_ (by rw [eq_e7 e_, eq_e8 e_, eq_e9 e_, eq_e10 e_, eq_e11 e_, tc_]; exact shown_eq (fun j hj => ⟨((hth_ hR_) j hj).2.2.2.1.1, ((hth_ hR_) j hj).2.2.2.1.2⟩) (fun j hj => ((hth_ hR_) j hj).2.2.2.2.1.1) (fun j hj => ((hth_ hR_) j hj).1) (fun j hj => TW_in (M 7 j) (M 9 j) ((hth_ hR_) j hj).2.1.1 ((hth_ hR_) j hj).2.1.2) (fun j hj => if_pos (by omega)) (fun j hj => if_pos (by omega)) (by omega) (by omega)) (relA (A := sr (sr M 95 (bgS (M 10) (M 11) (M 7) (TWf (M 7) (M 8) (M 9)) mi (puA (fun _ => 0) (M 95) (mi + 1).toNat) (puA (fun _ => 0) (M 96) (mi + 1).toNat) (M 6 6).toNat).1) 96 (bgS (M 10) (M 11) (M 7) (TWf (M 7) (M 8) (M 9)) mi (puA (fun _ => 0) (M 95) (mi + 1).toNat) (puA (fun _ => 0) (M 96) (mi + 1).toNat) (M 6 6).toNat).2) (rel_shown (rel_s hR_) _ _ _) (fun a ha => by rw [← hN_]; exact (gr_sr (by omega) fr_0) a ha)) (((fw_sr (by decide) rfl)).trans hF5_)
set_option maxHeartbeats 1000000 in
theorem p_longest {l : Launch} {M : Mem} {Pq : Option gV → Mem → Prop} {nn : Nat} (h0_ : Rel nn M M) (hn_ : nn ≤ 512) (kont : ∀ (r : Int) (M1 : Mem), M1 200 50 = M 200 50 → (∀ Pq2 : Option gV → Mem → Prop, (∀ M2, Rel (nn + 1) M2 M2 → M2 200 50 = M 200 50 → Pq2 (some (gI r)) M2) → gCtr l my_X12_longest mb_X12_longest 5 ((some .int)) 2 [gR 200] M1 Pq2) → Pq (some (gI r)) M1) : gCtr l my_X11_longest mb_X11_longest 1 ((some .int)) 4 [gR 0] M Pq := by
  have hn6_ : nn ≤ 600 := by omega
  refine x_longest (hsc_ h0_) (hsi_ h0_) (?_)
  · refine kont _ _ (by exact congrFun ((fr_sr (by omega) fr_0) 200 (by decide)) 50) (fun Pq2 h2_ => ?_)
    obtain ⟨N, hN_⟩ : ∃ N, N = sr M 34 (lgO (M 28) (M 29) (M 30) (M 31) (M 27 4).toNat (M 34, 0) 100).1 := ⟨_, rfl⟩
    rw [← hN_]
    have hNM_ : ∀ a, 200 ≤ a → N a = M a := fun a ha => by rw [hN_]; exact (fr_sr (by omega) fr_0) a ha
    have hR_ : Rel nn M N := relB h0_ hNM_
    have hF5_ : N 200 50 = M 200 50 := congrFun (hNM_ 200 (by decide)) 50
    have e_ := r_eq hR_
    have tc_ := eq_tc e_
    have lc_ := eq_lc e_
    have wc_ := eq_wc e_
    have bc_ := eq_bc e_
    have tb_ := eq_tb e_
    have sc_ := eq_sc e_
    have ec_ := eq_ec e_
    have h8_ := eq_h8 e_
    have h9_ := eq_h9 e_
    have h10_ := eq_h10 e_
    have h11_ := eq_h11 e_
    have sc20_ := hsc_ hR_
    refine y_longest (hmsc_ hR_) (hsim_ hR_) (?_)
    · refine fin2 h2_ (by rw [eq_e28 e_, eq_e29 e_, eq_e30 e_, eq_e31 e_, sc_]; exact long_eq (fun a ha => ((hsi_ hR_) a (by omega)).1.1)) (relA (A := sr M 34 (lgO (M 28) (M 29) (M 30) (M 31) (M 27 4).toNat (M 34, 0) 100).1) (rel_longest (rel_s hR_) _ _) (fun a ha => by rw [← hN_]; exact (gr_sr (by omega) fr_0) a ha)) (((fw_sr (by decide) rfl)).trans hF5_)
set_option maxHeartbeats 1000000 in
theorem p_shortBy {l : Launch} {M : Mem} {Pq : Option gV → Mem → Prop} {nn : Nat} (h0_ : Rel nn M M) (hn_ : nn ≤ 512) (sm : Int) (h_sm : inI sm) (kont : ∀ (r : Int) (M1 : Mem), M1 200 50 = M 200 50 → ((∀ Pq2 : Option gV → Mem → Prop, (∀ M2, Rel (nn + 1) M2 M2 → M2 200 50 = M 200 50 → Pq2 (some (gI r)) M2) → gCtr l my_X12_shortBy mb_X12_shortBy 8 ((some .int)) 2 [gR 200, gI sm] M1 Pq2) ∨ (M 200 50 = 0 ∧ ∀ Pq2 : Option gV → Mem → Prop, (∀ M2, Rel (nn + 1) M2 M2 → ¬ M2 200 50 = 0 → Pq2 (some (gI r)) M2) → gCtrN l my_X12_shortBy mb_X12_shortBy 8 ((some .int)) 2 [gR 200, gI sm] M1 Pq2)) → Pq (some (gI r)) M1) : gCtr l my_X11_shortBy mb_X11_shortBy 2 ((some .int)) 4 [gR 0, gI sm] M Pq := by
  have hn6_ : nn ≤ 600 := by omega
  refine x_shortBy sm h_sm (hrf_ h0_ hn6_) (hc_ h0_) (hpd_ h0_) (fun hC_ => ?_) (fun hC_ => ?_)
  · refine kont _ _ (by exact congrFun ((fr_up (by omega) fr_0) 200 (by decide)) 50) (Or.inl (fun Pq2 h2_ => ?_))
    obtain ⟨N, hN_⟩ : ∃ N, N = rf M 0 := ⟨_, rfl⟩
    rw [← hN_]
    have hNM_ : ∀ a, 200 ≤ a → N a = M a := fun a ha => by rw [hN_]; exact (fr_up (by omega) fr_0) a ha
    have hR_ : Rel nn M N := relB h0_ hNM_
    have hF5_ : N 200 50 = M 200 50 := congrFun (hNM_ 200 (by decide)) 50
    have e_ := r_eq hR_
    have tc_ := eq_tc e_
    have lc_ := eq_lc e_
    have wc_ := eq_wc e_
    have bc_ := eq_bc e_
    have tb_ := eq_tb e_
    have sc_ := eq_sc e_
    have ec_ := eq_ec e_
    have h8_ := eq_h8 e_
    have h9_ := eq_h9 e_
    have h10_ := eq_h10 e_
    have h11_ := eq_h11 e_
    have hc6_ := hc_ hR_
    refine y_shortByR sm h_sm (hrg_ hR_ hn6_) (hC_) (fun hD_ => ?_)
    · refine fin2 h2_ (rfl) (relA (A := rf M 0) (rel_no hR_ 0 (by decide)) (fun a ha => by rw [← hN_]; exact (gr_up (by omega) fr_0) a ha)) (((fw_up (Or.inl (by decide)) rfl)).trans hF5_)
  · by_cases hf_ : M 200 50 = 0
    · refine kont _ _ (by exact congrFun ((fr_sr (by omega) fr_0) 200 (by decide)) 50) (Or.inr ⟨hf_, fun Pq2 h2_ => ?_⟩)
      obtain ⟨N, hN_⟩ : ∃ N, N = sr M 95 (fpS (M 11) (M 12) sm (iniS (M 95) (sm + 1)) (M 6 6).toNat).1 := ⟨_, rfl⟩
      rw [← hN_]
      have hNM_ : ∀ a, 200 ≤ a → N a = M a := fun a ha => by rw [hN_]; exact (fr_sr (by omega) fr_0) a ha
      have hR_ : Rel nn M N := relB h0_ hNM_
      have hF5_ : N 200 50 = M 200 50 := congrFun (hNM_ 200 (by decide)) 50
      have e_ := r_eq hR_
      have tc_ := eq_tc e_
      have lc_ := eq_lc e_
      have wc_ := eq_wc e_
      have bc_ := eq_bc e_
      have tb_ := eq_tb e_
      have sc_ := eq_sc e_
      have ec_ := eq_ec e_
      have h8_ := eq_h8 e_
      have h9_ := eq_h9 e_
      have h10_ := eq_h10 e_
      have h11_ := eq_h11 e_
      have hc6_ := hc_ hR_
      refine y_shortByN sm h_sm (hrg_ hR_ hn6_) (hmc_ hR_) (hpdm_ hR_) (by rw [hF5_]; exact hf_) (fun hD_ => ?_) (fun hD_ => ?_) (fun hD_ => ?_)
      · exfalso; omega
      · refine fin2N h2_ (by rw [eq_e11 e_, eq_e12 e_, tc_] at hD_; exact short_no (by omega) (fun j hj => ((hth_ hR_) j hj).2.2.2.2.1.1) (fun j hj hb => hx_pd (r_hi hR_) j hj hb) (by omega) hD_.2) (relA (A := sr M 95 (fpS (M 11) (M 12) sm (iniS (M 95) (sm + 1)) (M 6 6).toNat).1) (rel_shortN (rel_s hR_) _ _ _) (fun a ha => by rw [← hN_]; exact (gr_sr (by omega) (gr_sr (by omega) (gr_up (by omega) fr_0))) a ha)) (show ¬ (1 : Int) = 0 by decide)
      · refine fin2N h2_ (by rw [eq_e11 e_, eq_e12 e_, tc_] at hD_ ⊢; exact short_eq (by omega) (fun j hj => ((hth_ hR_) j hj).2.2.2.2.1.1) (fun j hj hb => hx_pd (r_hi hR_) j hj hb) (by omega) hD_.2) (relA (A := sr M 95 (fpS (M 11) (M 12) sm (iniS (M 95) (sm + 1)) (M 6 6).toNat).1) (rel_shortN (rel_s hR_) _ _ _) (fun a ha => by rw [← hN_]; exact (gr_sr (by omega) (gr_sr (by omega) (gr_up (by omega) fr_0))) a ha)) (show ¬ (1 : Int) = 0 by decide)
    · refine kont _ _ (by exact congrFun ((fr_sr (by omega) fr_0) 200 (by decide)) 50) (Or.inl (fun Pq2 h2_ => ?_))
      obtain ⟨N, hN_⟩ : ∃ N, N = sr M 95 (fpS (M 11) (M 12) sm (iniS (M 95) (sm + 1)) (M 6 6).toNat).1 := ⟨_, rfl⟩
      rw [← hN_]
      have hNM_ : ∀ a, 200 ≤ a → N a = M a := fun a ha => by rw [hN_]; exact (fr_sr (by omega) fr_0) a ha
      have hR_ : Rel nn M N := relB h0_ hNM_
      have hF5_ : N 200 50 = M 200 50 := congrFun (hNM_ 200 (by decide)) 50
      have e_ := r_eq hR_
      have tc_ := eq_tc e_
      have lc_ := eq_lc e_
      have wc_ := eq_wc e_
      have bc_ := eq_bc e_
      have tb_ := eq_tb e_
      have sc_ := eq_sc e_
      have ec_ := eq_ec e_
      have h8_ := eq_h8 e_
      have h9_ := eq_h9 e_
      have h10_ := eq_h10 e_
      have h11_ := eq_h11 e_
      have hc6_ := hc_ hR_
      refine y_shortBy sm h_sm (hrg_ hR_ hn6_) (hmc_ hR_) (hpdm_ hR_) (by rw [hF5_]; exact hf_) (fun hD_ => ?_) (fun hD_ => ?_) (fun hD_ => ?_)
      · exfalso; omega
      · refine fin2 h2_ (by rw [eq_e11 e_, eq_e12 e_, tc_] at hD_; exact short_no (by omega) (fun j hj => ((hth_ hR_) j hj).2.2.2.2.1.1) (fun j hj hb => hx_pd (r_hi hR_) j hj hb) (by omega) hD_.2) (relA (A := sr M 95 (fpS (M 11) (M 12) sm (iniS (M 95) (sm + 1)) (M 6 6).toNat).1) (rel_short (rel_s hR_) _ _) (fun a ha => by rw [← hN_]; exact (gr_sr (by omega) fr_0) a ha)) (((fw_sr (by decide) rfl)).trans hF5_)
      · refine fin2 h2_ (by rw [eq_e11 e_, eq_e12 e_, tc_] at hD_ ⊢; exact short_eq (by omega) (fun j hj => ((hth_ hR_) j hj).2.2.2.2.1.1) (fun j hj hb => hx_pd (r_hi hR_) j hj hb) (by omega) hD_.2) (relA (A := sr M 95 (fpS (M 11) (M 12) sm (iniS (M 95) (sm + 1)) (M 6 6).toNat).1) (rel_short (rel_s hR_) _ _) (fun a ha => by rw [← hN_]; exact (gr_sr (by omega) fr_0) a ha)) (((fw_sr (by decide) rfl)).trans hF5_)
