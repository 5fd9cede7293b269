set_option maxHeartbeats 1000000 in
theorem p_who {l : Launch} {M : Mem} {Pq : Option gV → Mem → Prop} {nn : Nat} (h0_ : Rel nn M M) (hn_ : nn ≤ 512) (wh : Int) (h_wh : inI wh) (kont : ∀ (r : Int) (M1 : Mem), M1 200 50 = M 200 50 → (∀ Pq2 : Option gV → Mem → Prop, (∀ M2, Rel (nn + 1) M2 M2 → M2 200 50 = M 200 50 → Pq2 (some (gI r)) M2) → gCtr l my_X12_who mb_X12_who 13 ((some .int)) 7 [gR 200, gI wh] M1 Pq2) → Pq (some (gI r)) M1) : gCtr l my_X11_who mb_X11_who 2 ((some .int)) 8 [gR 0, gI wh] M Pq := by
  have hn6_ : nn ≤ 600 := by omega
  refine x_who wh h_wh (hrf_ h0_ hn6_) (hlc_ h0_) (htc_ h0_) (hc_ h0_) (hth_ h0_) (hwc_ h0_) (hla_ h0_) (hlw_ h0_) (fun hC_ => ?_) (fun hC_ => ?_) (fun hC_ => ?_) (fun hC_ => ?_)
  · refine kont _ _ (by exact congrFun ((fr_up (by omega) fr_0) 200 (by decide)) 50) (fun Pq2 h2_ => ?_)
    obtain ⟨N, hN_⟩ : ∃ N, N = rf M 0 := ⟨_, rfl⟩
    rw [← hN_]
    have hNM_ : ∀ a, 200 ≤ a → N a = M a := fun a ha => by rw [hN_]; exact (fr_up (by omega) fr_0) a ha
    have hR_ : Rel nn M N := relB h0_ hNM_
    have hF5_ : N 200 50 = M 200 50 := congrFun (hNM_ 200 (by decide)) 50
    have e_ := r_eq hR_
    have tc_ := eq_tc e_
    have lc_ := eq_lc e_
    have wc_ := eq_wc e_
    have bc_ := eq_bc e_
    have tb_ := eq_tb e_
    have sc_ := eq_sc e_
    have ec_ := eq_ec e_
    have h8_ := eq_h8 e_
    have h9_ := eq_h9 e_
    have h10_ := eq_h10 e_
    have h11_ := eq_h11 e_
    have hc6_ := hc_ hR_
    have lc5_ := hlc_ hR_
    have tb5_ := htc_ hR_
    have hls_ : ∀ t a : Nat, lsT (N 205) (N 206) (N 207) (N 212) (N 213) (N 214) (N 216) (N 200 14) (N 226) (N 200 3).toNat t a = losK (M 7) (M 8) (M 9) (M 15 a) (M 16 a) (M 17 a) (M 19) (M 18 2) (M 43 t) (M 6 6).toNat := fun t a => by unfold lsT; rw [eq_e7 e_, eq_e8 e_, eq_e9 e_, eq_e15 e_, eq_e16 e_, eq_e17 e_, eq_e43 e_, wc_, tc_]; exact losK_eq (eq_lw e_) _
    have hll_ : ∀ a t : Nat, a < 5 → 0 ≤ losK (M 7) (M 8) (M 9) (M 15 a) (M 16 a) (M 17 a) (M 19) (M 18 2) (M 43 t) (M 6 6).toNat ∧ losK (M 7) (M 8) (M 9) (M 15 a) (M 16 a) (M 17 a) (M 19) (M 18 2) (M 43 t) (M 6 6).toNat ≤ 40000 := fun a t ha => by have q_ := losK_in (k := M 7) (c := M 9) (kn := M 15 a) (gs := M 16 a) (lw := M 17 a) (ks := M 43 t) (hlw_ hR_) ((hla_ hR_) a ha).2 (fun j hj => ((hth_ hR_) j hj).2.1) (M 6 6).toNat (by omega); omega
    refine y_who wh h_wh (hrg_ hR_ hn6_) (hmc_ hR_) (hmtc_ hR_) (hmlc_ hR_) (hmwc_ hR_) (hthm_ hR_) (hlam_ hR_) (hlwm_ hR_) (fun hD_ => ?_) (fun hD_ => ?_) (fun hD_ => ?_) (fun hD_ => ?_)
    · refine fin2 h2_ (rfl) (relA (A := rf M 0) (rel_no hR_ 0 (by decide)) (fun a ha => by rw [← hN_]; exact (gr_up (by omega) fr_0) a ha)) (((fw_up (Or.inl (by decide)) rfl)).trans hF5_)
    · exfalso; omega
    · exfalso; omega
    · exfalso; omega
  · refine kont _ _ (by exact congrFun ((fr_up (by omega) fr_0) 200 (by decide)) 50) (fun Pq2 h2_ => ?_)
    obtain ⟨N, hN_⟩ : ∃ N, N = rf M 3 := ⟨_, rfl⟩
    rw [← hN_]
    have hNM_ : ∀ a, 200 ≤ a → N a = M a := fun a ha => by rw [hN_]; exact (fr_up (by omega) fr_0) a ha
    have hR_ : Rel nn M N := relB h0_ hNM_
    have hF5_ : N 200 50 = M 200 50 := congrFun (hNM_ 200 (by decide)) 50
    have e_ := r_eq hR_
    have tc_ := eq_tc e_
    have lc_ := eq_lc e_
    have wc_ := eq_wc e_
    have bc_ := eq_bc e_
    have tb_ := eq_tb e_
    have sc_ := eq_sc e_
    have ec_ := eq_ec e_
    have h8_ := eq_h8 e_
    have h9_ := eq_h9 e_
    have h10_ := eq_h10 e_
    have h11_ := eq_h11 e_
    have hc6_ := hc_ hR_
    have lc5_ := hlc_ hR_
    have tb5_ := htc_ hR_
    have hls_ : ∀ t a : Nat, lsT (N 205) (N 206) (N 207) (N 212) (N 213) (N 214) (N 216) (N 200 14) (N 226) (N 200 3).toNat t a = losK (M 7) (M 8) (M 9) (M 15 a) (M 16 a) (M 17 a) (M 19) (M 18 2) (M 43 t) (M 6 6).toNat := fun t a => by unfold lsT; rw [eq_e7 e_, eq_e8 e_, eq_e9 e_, eq_e15 e_, eq_e16 e_, eq_e17 e_, eq_e43 e_, wc_, tc_]; exact losK_eq (eq_lw e_) _
    have hll_ : ∀ a t : Nat, a < 5 → 0 ≤ losK (M 7) (M 8) (M 9) (M 15 a) (M 16 a) (M 17 a) (M 19) (M 18 2) (M 43 t) (M 6 6).toNat ∧ losK (M 7) (M 8) (M 9) (M 15 a) (M 16 a) (M 17 a) (M 19) (M 18 2) (M 43 t) (M 6 6).toNat ≤ 40000 := fun a t ha => by have q_ := losK_in (k := M 7) (c := M 9) (kn := M 15 a) (gs := M 16 a) (lw := M 17 a) (ks := M 43 t) (hlw_ hR_) ((hla_ hR_) a ha).2 (fun j hj => ((hth_ hR_) j hj).2.1) (M 6 6).toNat (by omega); omega
    refine y_who wh h_wh (hrg_ hR_ hn6_) (hmc_ hR_) (hmtc_ hR_) (hmlc_ hR_) (hmwc_ hR_) (hthm_ hR_) (hlam_ hR_) (hlwm_ hR_) (fun hD_ => ?_) (fun hD_ => ?_) (fun hD_ => ?_) (fun hD_ => ?_)
    · exfalso; omega
    · refine fin2 h2_ (rfl) (relA (A := rf M 3) (rel_no hR_ 3 (by decide)) (fun a ha => by rw [← hN_]; exact (gr_up (by omega) fr_0) a ha)) (((fw_up (Or.inl (by decide)) rfl)).trans hF5_)
    · exfalso; omega
    · exfalso; omega
  · refine kont _ _ (by exact congrFun ((fr_sr (by omega) (fr_sr (by omega) fr_0)) 200 (by decide)) 50) (fun Pq2 h2_ => ?_)
    obtain ⟨N, hN_⟩ : ∃ N, N = sr (sr M 44 (ltF (M 44) (fun a t => losK (M 7) (M 8) (M 9) (M 15 a) (M 16 a) (M 17 a) (M 19) (M 18 2) (M 43 t) (M 6 6).toNat) (M 14 3).toNat 0 (M 5 7).toNat)) 45 (plS (ltF (M 44) (fun a t => losK (M 7) (M 8) (M 9) (M 15 a) (M 16 a) (M 17 a) (M 19) (M 18 2) (M 43 t) (M 6 6).toNat) (M 14 3).toNat 0 (M 5 7).toNat) (M 45) (M 14 3).toNat (M 5 7) (jshl 1 (M 14 3) - 1) (jshl 1 (M 14 3)).toNat) := ⟨_, rfl⟩
    rw [← hN_]
    have hNM_ : ∀ a, 200 ≤ a → N a = M a := fun a ha => by rw [hN_]; exact (fr_sr (by omega) (fr_sr (by omega) fr_0)) a ha
    have hR_ : Rel nn M N := relB h0_ hNM_
    have hF5_ : N 200 50 = M 200 50 := congrFun (hNM_ 200 (by decide)) 50
    have e_ := r_eq hR_
    have tc_ := eq_tc e_
    have lc_ := eq_lc e_
    have wc_ := eq_wc e_
    have bc_ := eq_bc e_
    have tb_ := eq_tb e_
    have sc_ := eq_sc e_
    have ec_ := eq_ec e_
    have h8_ := eq_h8 e_
    have h9_ := eq_h9 e_
    have h10_ := eq_h10 e_
    have h11_ := eq_h11 e_
    have hc6_ := hc_ hR_
    have lc5_ := hlc_ hR_
    have tb5_ := htc_ hR_
    have hls_ : ∀ t a : Nat, lsT (N 205) (N 206) (N 207) (N 212) (N 213) (N 214) (N 216) (N 200 14) (N 226) (N 200 3).toNat t a = losK (M 7) (M 8) (M 9) (M 15 a) (M 16 a) (M 17 a) (M 19) (M 18 2) (M 43 t) (M 6 6).toNat := fun t a => by unfold lsT; rw [eq_e7 e_, eq_e8 e_, eq_e9 e_, eq_e15 e_, eq_e16 e_, eq_e17 e_, eq_e43 e_, wc_, tc_]; exact losK_eq (eq_lw e_) _
    have hll_ : ∀ a t : Nat, a < 5 → 0 ≤ losK (M 7) (M 8) (M 9) (M 15 a) (M 16 a) (M 17 a) (M 19) (M 18 2) (M 43 t) (M 6 6).toNat ∧ losK (M 7) (M 8) (M 9) (M 15 a) (M 16 a) (M 17 a) (M 19) (M 18 2) (M 43 t) (M 6 6).toNat ≤ 40000 := fun a t ha => by have q_ := losK_in (k := M 7) (c := M 9) (kn := M 15 a) (gs := M 16 a) (lw := M 17 a) (ks := M 43 t) (hlw_ hR_) ((hla_ hR_) a ha).2 (fun j hj => ((hth_ hR_) j hj).2.1) (M 6 6).toNat (by omega); omega
    refine y_who wh h_wh (hrg_ hR_ hn6_) (hmc_ hR_) (hmtc_ hR_) (hmlc_ hR_) (hmwc_ hR_) (hthm_ hR_) (hlam_ hR_) (hlwm_ hR_) (fun hD_ => ?_) (fun hD_ => ?_) (fun hD_ => ?_) (fun hD_ => ?_)
    · exfalso; omega
    · exfalso; omega
    · refine fin2 h2_ (by rw [lc_, tb_]; exact (who_eqI (LA := ltF (M 44) (fun a t => losK (M 7) (M 8) (M 9) (M 15 a) (M 16 a) (M 17 a) (M 19) (M 18 2) (M 43 t) (M 6 6).toNat) (M 14 3).toNat 0 (M 5 7).toNat) (L0 := M 45) (L := lsT (N 205) (N 206) (N 207) (N 212) (N 213) (N 214) (N 216) (N 200 14) (N 226) (N 200 3).toNat) (n := M 14 3) (tc := M 5 7) (wh := wh) (by omega) (by omega) (by omega) (fun a t h1 h2 => by rw [ltF_in (by omega) (by omega) (by omega), hls_ t a]) (fun a t h1 h2 => by rw [hls_ t a]; exact hll_ a t (by omega))).1) (relA (A := sr (sr M 44 (ltF (M 44) (fun a t => losK (M 7) (M 8) (M 9) (M 15 a) (M 16 a) (M 17 a) (M 19) (M 18 2) (M 43 t) (M 6 6).toNat) (M 14 3).toNat 0 (M 5 7).toNat)) 45 (plS (ltF (M 44) (fun a t => losK (M 7) (M 8) (M 9) (M 15 a) (M 16 a) (M 17 a) (M 19) (M 18 2) (M 43 t) (M 6 6).toNat) (M 14 3).toNat 0 (M 5 7).toNat) (M 45) (M 14 3).toNat (M 5 7) (jshl 1 (M 14 3) - 1) (jshl 1 (M 14 3)).toNat)) (rel_who (rel_s hR_) _ _ _) (fun a ha => by rw [← hN_]; exact (gr_sr (by omega) fr_0) a ha)) (((fw_sr (by decide) rfl)).trans hF5_)
    · exfalso; omega
  · refine kont _ _ (by exact congrFun ((fr_sr (by omega) (fr_sr (by omega) fr_0)) 200 (by decide)) 50) (fun Pq2 h2_ => ?_)
    obtain ⟨N, hN_⟩ : ∃ N, N = sr (sr M 44 (ltF (M 44) (fun a t => losK (M 7) (M 8) (M 9) (M 15 a) (M 16 a) (M 17 a) (M 19) (M 18 2) (M 43 t) (M 6 6).toNat) (M 14 3).toNat 0 (M 5 7).toNat)) 45 (plS (ltF (M 44) (fun a t => losK (M 7) (M 8) (M 9) (M 15 a) (M 16 a) (M 17 a) (M 19) (M 18 2) (M 43 t) (M 6 6).toNat) (M 14 3).toNat 0 (M 5 7).toNat) (M 45) (M 14 3).toNat (M 5 7) (jshl 1 (M 14 3) - 1) (jshl 1 (M 14 3)).toNat) := ⟨_, rfl⟩
    rw [← hN_]
    have hNM_ : ∀ a, 200 ≤ a → N a = M a := fun a ha => by rw [hN_]; exact (fr_sr (by omega) (fr_sr (by omega) fr_0)) a ha
    have hR_ : Rel nn M N := relB h0_ hNM_
    have hF5_ : N 200 50 = M 200 50 := congrFun (hNM_ 200 (by decide)) 50
    have e_ := r_eq hR_
    have tc_ := eq_tc e_
    have lc_ := eq_lc e_
    have wc_ := eq_wc e_
    have bc_ := eq_bc e_
    have tb_ := eq_tb e_
    have sc_ := eq_sc e_
    have ec_ := eq_ec e_
    have h8_ := eq_h8 e_
    have h9_ := eq_h9 e_
    have h10_ := eq_h10 e_
    have h11_ := eq_h11 e_
    have hc6_ := hc_ hR_
    have lc5_ := hlc_ hR_
    have tb5_ := htc_ hR_
    have hls_ : ∀ t a : Nat, lsT (N 205) (N 206) (N 207) (N 212) (N 213) (N 214) (N 216) (N 200 14) (N 226) (N 200 3).toNat t a = losK (M 7) (M 8) (M 9) (M 15 a) (M 16 a) (M 17 a) (M 19) (M 18 2) (M 43 t) (M 6 6).toNat := fun t a => by unfold lsT; rw [eq_e7 e_, eq_e8 e_, eq_e9 e_, eq_e15 e_, eq_e16 e_, eq_e17 e_, eq_e43 e_, wc_, tc_]; exact losK_eq (eq_lw e_) _
    have hll_ : ∀ a t : Nat, a < 5 → 0 ≤ losK (M 7) (M 8) (M 9) (M 15 a) (M 16 a) (M 17 a) (M 19) (M 18 2) (M 43 t) (M 6 6).toNat ∧ losK (M 7) (M 8) (M 9) (M 15 a) (M 16 a) (M 17 a) (M 19) (M 18 2) (M 43 t) (M 6 6).toNat ≤ 40000 := fun a t ha => by have q_ := losK_in (k := M 7) (c := M 9) (kn := M 15 a) (gs := M 16 a) (lw := M 17 a) (ks := M 43 t) (hlw_ hR_) ((hla_ hR_) a ha).2 (fun j hj => ((hth_ hR_) j hj).2.1) (M 6 6).toNat (by omega); omega
    refine y_who wh h_wh (hrg_ hR_ hn6_) (hmc_ hR_) (hmtc_ hR_) (hmlc_ hR_) (hmwc_ hR_) (hthm_ hR_) (hlam_ hR_) (hlwm_ hR_) (fun hD_ => ?_) (fun hD_ => ?_) (fun hD_ => ?_) (fun hD_ => ?_)
    · exfalso; omega
    · exfalso; omega
    · exfalso; omega
    · refine fin2 h2_ (by rw [lc_, tb_]; exact (who_eqI (LA := ltF (M 44) (fun a t => losK (M 7) (M 8) (M 9) (M 15 a) (M 16 a) (M 17 a) (M 19) (M 18 2) (M 43 t) (M 6 6).toNat) (M 14 3).toNat 0 (M 5 7).toNat) (L0 := M 45) (L := lsT (N 205) (N 206) (N 207) (N 212) (N 213) (N 214) (N 216) (N 200 14) (N 226) (N 200 3).toNat) (n := M 14 3) (tc := M 5 7) (wh := wh) (by omega) (by omega) (by omega) (fun a t h1 h2 => by rw [ltF_in (by omega) (by omega) (by omega), hls_ t a]) (fun a t h1 h2 => by rw [hls_ t a]; exact hll_ a t (by omega))).2 (by omega)) (relA (A := sr (sr M 44 (ltF (M 44) (fun a t => losK (M 7) (M 8) (M 9) (M 15 a) (M 16 a) (M 17 a) (M 19) (M 18 2) (M 43 t) (M 6 6).toNat) (M 14 3).toNat 0 (M 5 7).toNat)) 45 (plS (ltF (M 44) (fun a t => losK (M 7) (M 8) (M 9) (M 15 a) (M 16 a) (M 17 a) (M 19) (M 18 2) (M 43 t) (M 6 6).toNat) (M 14 3).toNat 0 (M 5 7).toNat) (M 45) (M 14 3).toNat (M 5 7) (jshl 1 (M 14 3) - 1) (jshl 1 (M 14 3)).toNat)) (rel_who (rel_s hR_) _ _ _) (fun a ha => by rw [← hN_]; exact (gr_sr (by omega) fr_0) a ha)) (((fw_sr (by decide) rfl)).trans hF5_)
