theorem fin2 {Pq2 : Option gV → Mem → Prop} {n : Nat} {r s f : Int} {M2 : Mem} (h2 : ∀ M2, Rel n M2 M2 → M2 200 50 = f → Pq2 (some (gI r)) M2) (e : s = r) (hr : Rel n M2 M2) (hf : M2 200 50 = f) : Pq2 (some (gI s)) M2 := by
  subst e
  exact h2 M2 hr hf
theorem fin2N {Pq2 : Option gV → Mem → Prop} {n : Nat} {r s : Int} {M2 : Mem} (h2 : ∀ M2, Rel n M2 M2 → ¬ M2 200 50 = 0 → Pq2 (some (gI r)) M2) (e : s = r) (hr : Rel n M2 M2) (hf : ¬ M2 200 50 = 0) : Pq2 (some (gI s)) M2 := by
  subst e
  exact h2 M2 hr hf
theorem fin2L {Pq2 : Option gV → Mem → Prop} {n : Nat} {r s f : Int} {M2 : Mem} (h2 : ∀ M2, Rel n M2 M2 → M2 200 50 = f → Pq2 (some (gL r)) M2) (e : s = r) (hr : Rel n M2 M2) (hf : M2 200 50 = f) : Pq2 (some (gL s)) M2 := by
  subst e
  exact h2 M2 hr hf
theorem fw_up {X : Mem} {k j : Nat} {x y : Int} (h : k ≠ 200 ∨ j ≠ 50) (e : X 200 50 = y) : up X k j x 200 50 = y := by
  by_cases c : k = 200
  · subst c
    rw [up_k, us_o (by omega)]
    exact e
  · rw [up_o (by omega)]
    exact e
theorem fw_sr {X : Mem} {k : Nat} {f : Nat → Int} {y : Int} (h : k ≠ 200) (e : X 200 50 = y) : sr X k f 200 50 = y := by
  rw [sr_o (by omega)]
  exact e
theorem fw_cp {X : Mem} {k sp dp n : Nat} {f : Nat → Int} {y : Int} (h : k ≠ 200) (e : X 200 50 = y) : cp X k f sp dp n 200 50 = y := by
  rw [cp_o (by omega)]
  exact e
theorem fw_add {X : Mem} {k w c y : Int} (e : X 200 50 = y) : addM X k w c 200 50 = y := by
  unfold addM
  repeat (first | exact e | refine fw_up (by decide) ?_ | refine fw_up (Or.inl (by decide)) ?_)
theorem fw_ths {X : Mem} {k : Int} {f : Nat → Int} : ∀ n, thsR X f k n 200 50 = X 200 50
  | 0 => rfl
  | n + 1 => fw_add (fw_ths n)
set_option maxHeartbeats 1000000 in
theorem p_thingOf {l : Launch} {M : Mem} {Pq : Option gV → Mem → Prop} {nn : Nat} (h0_ : Rel nn M M) (hn_ : nn ≤ 512) (t : Int) (wh : Int) (h_t : inI t) (h_wh : inI wh) (kont : ∀ (r : Int) (M1 : Mem), M1 200 50 = M 200 50 → (∀ Pq2 : Option gV → Mem → Prop, (∀ M2, Rel (nn + 1) M2 M2 → M2 200 50 = M 200 50 → Pq2 (some (gI r)) M2) → gCtr l my_X12_thingOf mb_X12_thingOf 3 ((some .int)) 4 [gR 200, gI t, gI wh] M1 Pq2) → Pq (some (gI r)) M1) : gCtr l my_X11_thingOf mb_X11_thingOf 3 ((some .int)) 4 [gR 0, gI t, gI wh] M Pq := by
  have hn6_ : nn ≤ 600 := by omega
  refine x_thingOf t wh h_t h_wh (hrf_ h0_ hn6_) (hc_ h0_) (hth_ h0_) (fun hC_ => ?_) (fun hC_ => ?_) (fun hC_ => ?_) (fun hC_ => ?_) (fun hC_ => ?_) (fun hC_ => ?_) (fun hC_ => ?_) (fun hC_ => ?_)
  · refine kont _ _ (by exact congrFun ((fr_up (by omega) fr_0) 200 (by decide)) 50) (fun Pq2 h2_ => ?_)
    obtain ⟨N, hN_⟩ : ∃ N, N = rf M 0 := ⟨_, rfl⟩
    rw [← hN_]
    have hNM_ : ∀ a, 200 ≤ a → N a = M a := fun a ha => by rw [hN_]; exact (fr_up (by omega) fr_0) a ha
    have hR_ : Rel nn M N := relB h0_ hNM_
    have hF5_ : N 200 50 = M 200 50 := congrFun (hNM_ 200 (by decide)) 50
    have e_ := r_eq hR_
    have tc_ := eq_tc e_
    have lc_ := eq_lc e_
    have wc_ := eq_wc e_
    have bc_ := eq_bc e_
    have tb_ := eq_tb e_
    have sc_ := eq_sc e_
    have ec_ := eq_ec e_
    have h8_ := eq_h8 e_
    have h9_ := eq_h9 e_
    have h10_ := eq_h10 e_
    have h11_ := eq_h11 e_
    refine y_thingOf t wh h_t h_wh (hrg_ hR_ hn6_) (hmc_ hR_) (hthm_ hR_) (fun hD_ => ?_) (fun hD_ => ?_) (fun hD_ => ?_) (fun hD_ => ?_) (fun hD_ => ?_) (fun hD_ => ?_) (fun hD_ => ?_) (fun hD_ => ?_)
    · refine fin2 h2_ (rfl) (relA (A := rf M 0) (rel_no hR_ 0 (by decide)) (fun a ha => by rw [← hN_]; exact (gr_up (by omega) fr_0) a ha)) (((fw_up (Or.inl (by decide)) rfl)).trans hF5_)
    · exfalso; omega
    · exfalso; omega
    · exfalso; omega
    · exfalso; omega
    · exfalso; omega
    · exfalso; omega
    · exfalso; omega
  · refine kont _ _ (rfl) (fun Pq2 h2_ => ?_)
    obtain ⟨N, hN_⟩ : ∃ N, N = M := ⟨_, rfl⟩
    rw [← hN_]
    have hNM_ : ∀ a, 200 ≤ a → N a = M a := fun a ha => by rw [hN_]
    have hR_ : Rel nn M N := relB h0_ hNM_
    have hF5_ : N 200 50 = M 200 50 := congrFun (hNM_ 200 (by decide)) 50
    have e_ := r_eq hR_
    have tc_ := eq_tc e_
    have lc_ := eq_lc e_
    have wc_ := eq_wc e_
    have bc_ := eq_bc e_
    have tb_ := eq_tb e_
    have sc_ := eq_sc e_
    have ec_ := eq_ec e_
    have h8_ := eq_h8 e_
    have h9_ := eq_h9 e_
    have h10_ := eq_h10 e_
    have h11_ := eq_h11 e_
    refine y_thingOf t wh h_t h_wh (hrg_ hR_ hn6_) (hmc_ hR_) (hthm_ hR_) (fun hD_ => ?_) (fun hD_ => ?_) (fun hD_ => ?_) (fun hD_ => ?_) (fun hD_ => ?_) (fun hD_ => ?_) (fun hD_ => ?_) (fun hD_ => ?_)
    · exfalso; omega
    · refine fin2 h2_ (by rw [eq_e7 e_]) (relA (A := M) (rel_s hR_) (fun a ha => by rw [← hN_])) ((rfl).trans hF5_)
    · exfalso; omega
    · exfalso; omega
    · exfalso; omega
    · exfalso; omega
    · exfalso; omega
    · exfalso; omega
  · refine kont _ _ (rfl) (fun Pq2 h2_ => ?_)
    obtain ⟨N, hN_⟩ : ∃ N, N = M := ⟨_, rfl⟩
    rw [← hN_]
    have hNM_ : ∀ a, 200 ≤ a → N a = M a := fun a ha => by rw [hN_]
    have hR_ : Rel nn M N := relB h0_ hNM_
    have hF5_ : N 200 50 = M 200 50 := congrFun (hNM_ 200 (by decide)) 50
    have e_ := r_eq hR_
    have tc_ := eq_tc e_
    have lc_ := eq_lc e_
    have wc_ := eq_wc e_
    have bc_ := eq_bc e_
    have tb_ := eq_tb e_
    have sc_ := eq_sc e_
    have ec_ := eq_ec e_
    have h8_ := eq_h8 e_
    have h9_ := eq_h9 e_
    have h10_ := eq_h10 e_
    have h11_ := eq_h11 e_
    refine y_thingOf t wh h_t h_wh (hrg_ hR_ hn6_) (hmc_ hR_) (hthm_ hR_) (fun hD_ => ?_) (fun hD_ => ?_) (fun hD_ => ?_) (fun hD_ => ?_) (fun hD_ => ?_) (fun hD_ => ?_) (fun hD_ => ?_) (fun hD_ => ?_)
    · exfalso; omega
    · exfalso; omega
    · refine fin2 h2_ (by rw [eq_e8 e_]) (relA (A := M) (rel_s hR_) (fun a ha => by rw [← hN_])) ((rfl).trans hF5_)
    · exfalso; omega
    · exfalso; omega
    · exfalso; omega
    · exfalso; omega
    · exfalso; omega
  · refine kont _ _ (rfl) (fun Pq2 h2_ => ?_)
    obtain ⟨N, hN_⟩ : ∃ N, N = M := ⟨_, rfl⟩
    rw [← hN_]
    have hNM_ : ∀ a, 200 ≤ a → N a = M a := fun a ha => by rw [hN_]
    have hR_ : Rel nn M N := relB h0_ hNM_
    have hF5_ : N 200 50 = M 200 50 := congrFun (hNM_ 200 (by decide)) 50
    have e_ := r_eq hR_
    have tc_ := eq_tc e_
    have lc_ := eq_lc e_
    have wc_ := eq_wc e_
    have bc_ := eq_bc e_
    have tb_ := eq_tb e_
    have sc_ := eq_sc e_
    have ec_ := eq_ec e_
    have h8_ := eq_h8 e_
    have h9_ := eq_h9 e_
    have h10_ := eq_h10 e_
    have h11_ := eq_h11 e_
    refine y_thingOf t wh h_t h_wh (hrg_ hR_ hn6_) (hmc_ hR_) (hthm_ hR_) (fun hD_ => ?_) (fun hD_ => ?_) (fun hD_ => ?_) (fun hD_ => ?_) (fun hD_ => ?_) (fun hD_ => ?_) (fun hD_ => ?_) (fun hD_ => ?_)
    · exfalso; omega
    · exfalso; omega
    · exfalso; omega
    · refine fin2 h2_ (by rw [eq_e9 e_]) (relA (A := M) (rel_s hR_) (fun a ha => by rw [← hN_])) ((rfl).trans hF5_)
    · exfalso; omega
    · exfalso; omega
    · exfalso; omega
    · exfalso; omega
  · refine kont _ _ (rfl) (fun Pq2 h2_ => ?_)
    obtain ⟨N, hN_⟩ : ∃ N, N = M := ⟨_, rfl⟩
    rw [← hN_]
    have hNM_ : ∀ a, 200 ≤ a → N a = M a := fun a ha => by rw [hN_]
    have hR_ : Rel nn M N := relB h0_ hNM_
    have hF5_ : N 200 50 = M 200 50 := congrFun (hNM_ 200 (by decide)) 50
    have e_ := r_eq hR_
    have tc_ := eq_tc e_
    have lc_ := eq_lc e_
    have wc_ := eq_wc e_
    have bc_ := eq_bc e_
    have tb_ := eq_tb e_
    have sc_ := eq_sc e_
    have ec_ := eq_ec e_
    have h8_ := eq_h8 e_
    have h9_ := eq_h9 e_
    have h10_ := eq_h10 e_
    have h11_ := eq_h11 e_
    refine y_thingOf t wh h_t h_wh (hrg_ hR_ hn6_) (hmc_ hR_) (hthm_ hR_) (fun hD_ => ?_) (fun hD_ => ?_) (fun hD_ => ?_) (fun hD_ => ?_) (fun hD_ => ?_) (fun hD_ => ?_) (fun hD_ => ?_) (fun hD_ => ?_)
    · exfalso; omega
    · exfalso; omega
    · exfalso; omega
    · exfalso; omega
    · refine fin2 h2_ (by rw [eq_e7 e_, eq_e8 e_, eq_e9 e_]) (relA (A := M) (rel_s hR_) (fun a ha => by rw [← hN_])) ((rfl).trans hF5_)
    · exfalso; omega
    · exfalso; omega
    · exfalso; omega
  · refine kont _ _ (rfl) (fun Pq2 h2_ => ?_)
    obtain ⟨N, hN_⟩ : ∃ N, N = M := ⟨_, rfl⟩
    rw [← hN_]
    have hNM_ : ∀ a, 200 ≤ a → N a = M a := fun a ha => by rw [hN_]
    have hR_ : Rel nn M N := relB h0_ hNM_
    have hF5_ : N 200 50 = M 200 50 := congrFun (hNM_ 200 (by decide)) 50
    have e_ := r_eq hR_
    have tc_ := eq_tc e_
    have lc_ := eq_lc e_
    have wc_ := eq_wc e_
    have bc_ := eq_bc e_
    have tb_ := eq_tb e_
    have sc_ := eq_sc e_
    have ec_ := eq_ec e_
    have h8_ := eq_h8 e_
    have h9_ := eq_h9 e_
    have h10_ := eq_h10 e_
    have h11_ := eq_h11 e_
    refine y_thingOf t wh h_t h_wh (hrg_ hR_ hn6_) (hmc_ hR_) (hthm_ hR_) (fun hD_ => ?_) (fun hD_ => ?_) (fun hD_ => ?_) (fun hD_ => ?_) (fun hD_ => ?_) (fun hD_ => ?_) (fun hD_ => ?_) (fun hD_ => ?_)
    · exfalso; omega
    · exfalso; omega
    · exfalso; omega
    · exfalso; omega
    · exfalso; omega
    · refine fin2 h2_ (by rw [eq_e10 e_]) (relA (A := M) (rel_s hR_) (fun a ha => by rw [← hN_])) ((rfl).trans hF5_)
    · exfalso; omega
    · exfalso; omega
  · refine kont _ _ (rfl) (fun Pq2 h2_ => ?_)
    obtain ⟨N, hN_⟩ : ∃ N, N = M := ⟨_, rfl⟩
    rw [← hN_]
    have hNM_ : ∀ a, 200 ≤ a → N a = M a := fun a ha => by rw [hN_]
    have hR_ : Rel nn M N := relB h0_ hNM_
    have hF5_ : N 200 50 = M 200 50 := congrFun (hNM_ 200 (by decide)) 50
    have e_ := r_eq hR_
    have tc_ := eq_tc e_
    have lc_ := eq_lc e_
    have wc_ := eq_wc e_
    have bc_ := eq_bc e_
    have tb_ := eq_tb e_
    have sc_ := eq_sc e_
    have ec_ := eq_ec e_
    have h8_ := eq_h8 e_
    have h9_ := eq_h9 e_
    have h10_ := eq_h10 e_
    have h11_ := eq_h11 e_
    refine y_thingOf t wh h_t h_wh (hrg_ hR_ hn6_) (hmc_ hR_) (hthm_ hR_) (fun hD_ => ?_) (fun hD_ => ?_) (fun hD_ => ?_) (fun hD_ => ?_) (fun hD_ => ?_) (fun hD_ => ?_) (fun hD_ => ?_) (fun hD_ => ?_)
    · exfalso; omega
    · exfalso; omega
    · exfalso; omega
    · exfalso; omega
    · exfalso; omega
    · exfalso; omega
    · refine fin2 h2_ (by rw [eq_e11 e_]) (relA (A := M) (rel_s hR_) (fun a ha => by rw [← hN_])) ((rfl).trans hF5_)
    · exfalso; omega
  · refine kont _ _ (rfl) (fun Pq2 h2_ => ?_)
    obtain ⟨N, hN_⟩ : ∃ N, N = M := ⟨_, rfl⟩
    rw [← hN_]
    have hNM_ : ∀ a, 200 ≤ a → N a = M a := fun a ha => by rw [hN_]
    have hR_ : Rel nn M N := relB h0_ hNM_
    have hF5_ : N 200 50 = M 200 50 := congrFun (hNM_ 200 (by decide)) 50
    have e_ := r_eq hR_
    have tc_ := eq_tc e_
    have lc_ := eq_lc e_
    have wc_ := eq_wc e_
    have bc_ := eq_bc e_
    have tb_ := eq_tb e_
    have sc_ := eq_sc e_
    have ec_ := eq_ec e_
    have h8_ := eq_h8 e_
    have h9_ := eq_h9 e_
    have h10_ := eq_h10 e_
    have h11_ := eq_h11 e_
    refine y_thingOf t wh h_t h_wh (hrg_ hR_ hn6_) (hmc_ hR_) (hthm_ hR_) (fun hD_ => ?_) (fun hD_ => ?_) (fun hD_ => ?_) (fun hD_ => ?_) (fun hD_ => ?_) (fun hD_ => ?_) (fun hD_ => ?_) (fun hD_ => ?_)
    · exfalso; omega
    · exfalso; omega
    · exfalso; omega
    · exfalso; omega
    · exfalso; omega
    · exfalso; omega
    · exfalso; omega
    · refine fin2 h2_ (by rw [eq_e12 e_]) (relA (A := M) (rel_s hR_) (fun a ha => by rw [← hN_])) ((rfl).trans hF5_)
set_option maxHeartbeats 1000000 in
theorem p_buyerOf {l : Launch} {M : Mem} {Pq : Option gV → Mem → Prop} {nn : Nat} (h0_ : Rel nn M M) (hn_ : nn ≤ 512) (b : Int) (wh : Int) (h_b : inI b) (h_wh : inI wh) (kont : ∀ (r : Int) (M1 : Mem), M1 200 50 = M 200 50 → (∀ Pq2 : Option gV → Mem → Prop, (∀ M2, Rel (nn + 1) M2 M2 → M2 200 50 = M 200 50 → Pq2 (some (gI r)) M2) → gCtr l my_X12_buyerOf mb_X12_buyerOf 3 ((some .int)) 2 [gR 200, gI b, gI wh] M1 Pq2) → Pq (some (gI r)) M1) : gCtr l my_X11_buyerOf mb_X11_buyerOf 3 ((some .int)) 3 [gR 0, gI b, gI wh] M Pq := by
  have hn6_ : nn ≤ 600 := by omega
  refine x_buyerOf b wh h_b h_wh (hrf_ h0_ hn6_) (hbc_ h0_) (fun hC_ => ?_) (fun hC_ => ?_) (fun hC_ => ?_) (fun hC_ => ?_) (fun hC_ => ?_) (fun hC_ => ?_)
  · refine kont _ _ (by exact congrFun ((fr_up (by omega) fr_0) 200 (by decide)) 50) (fun Pq2 h2_ => ?_)
    obtain ⟨N, hN_⟩ : ∃ N, N = rf M 0 := ⟨_, rfl⟩
    rw [← hN_]
    have hNM_ : ∀ a, 200 ≤ a → N a = M a := fun a ha => by rw [hN_]; exact (fr_up (by omega) fr_0) a ha
    have hR_ : Rel nn M N := relB h0_ hNM_
    have hF5_ : N 200 50 = M 200 50 := congrFun (hNM_ 200 (by decide)) 50
    have e_ := r_eq hR_
    have tc_ := eq_tc e_
    have lc_ := eq_lc e_
    have wc_ := eq_wc e_
    have bc_ := eq_bc e_
    have tb_ := eq_tb e_
    have sc_ := eq_sc e_
    have ec_ := eq_ec e_
    have h8_ := eq_h8 e_
    have h9_ := eq_h9 e_
    have h10_ := eq_h10 e_
    have h11_ := eq_h11 e_
    refine y_buyerOf b wh h_b h_wh (hrg_ hR_ hn6_) (hmbc_ hR_) (fun hD_ => ?_) (fun hD_ => ?_) (fun hD_ => ?_) (fun hD_ => ?_) (fun hD_ => ?_) (fun hD_ => ?_)
    · refine fin2 h2_ (rfl) (relA (A := rf M 0) (rel_no hR_ 0 (by decide)) (fun a ha => by rw [← hN_]; exact (gr_up (by omega) fr_0) a ha)) (((fw_up (Or.inl (by decide)) rfl)).trans hF5_)
    · exfalso; omega
    · exfalso; omega
    · exfalso; omega
    · exfalso; omega
    · exfalso; omega
  · refine kont _ _ (rfl) (fun Pq2 h2_ => ?_)
    obtain ⟨N, hN_⟩ : ∃ N, N = M := ⟨_, rfl⟩
    rw [← hN_]
    have hNM_ : ∀ a, 200 ≤ a → N a = M a := fun a ha => by rw [hN_]
    have hR_ : Rel nn M N := relB h0_ hNM_
    have hF5_ : N 200 50 = M 200 50 := congrFun (hNM_ 200 (by decide)) 50
    have e_ := r_eq hR_
    have tc_ := eq_tc e_
    have lc_ := eq_lc e_
    have wc_ := eq_wc e_
    have bc_ := eq_bc e_
    have tb_ := eq_tb e_
    have sc_ := eq_sc e_
    have ec_ := eq_ec e_
    have h8_ := eq_h8 e_
    have h9_ := eq_h9 e_
    have h10_ := eq_h10 e_
    have h11_ := eq_h11 e_
    refine y_buyerOf b wh h_b h_wh (hrg_ hR_ hn6_) (hmbc_ hR_) (fun hD_ => ?_) (fun hD_ => ?_) (fun hD_ => ?_) (fun hD_ => ?_) (fun hD_ => ?_) (fun hD_ => ?_)
    · exfalso; omega
    · refine fin2 h2_ (by rw [eq_e22 e_]) (relA (A := M) (rel_s hR_) (fun a ha => by rw [← hN_])) ((rfl).trans hF5_)
    · exfalso; omega
    · exfalso; omega
    · exfalso; omega
    · exfalso; omega
  · refine kont _ _ (rfl) (fun Pq2 h2_ => ?_)
    obtain ⟨N, hN_⟩ : ∃ N, N = M := ⟨_, rfl⟩
    rw [← hN_]
    have hNM_ : ∀ a, 200 ≤ a → N a = M a := fun a ha => by rw [hN_]
    have hR_ : Rel nn M N := relB h0_ hNM_
    have hF5_ : N 200 50 = M 200 50 := congrFun (hNM_ 200 (by decide)) 50
    have e_ := r_eq hR_
    have tc_ := eq_tc e_
    have lc_ := eq_lc e_
    have wc_ := eq_wc e_
    have bc_ := eq_bc e_
    have tb_ := eq_tb e_
    have sc_ := eq_sc e_
    have ec_ := eq_ec e_
    have h8_ := eq_h8 e_
    have h9_ := eq_h9 e_
    have h10_ := eq_h10 e_
    have h11_ := eq_h11 e_
    refine y_buyerOf b wh h_b h_wh (hrg_ hR_ hn6_) (hmbc_ hR_) (fun hD_ => ?_) (fun hD_ => ?_) (fun hD_ => ?_) (fun hD_ => ?_) (fun hD_ => ?_) (fun hD_ => ?_)
    · exfalso; omega
    · exfalso; omega
    · refine fin2 h2_ (by rw [eq_e23 e_]) (relA (A := M) (rel_s hR_) (fun a ha => by rw [← hN_])) ((rfl).trans hF5_)
    · exfalso; omega
    · exfalso; omega
    · exfalso; omega
  · refine kont _ _ (rfl) (fun Pq2 h2_ => ?_)
    obtain ⟨N, hN_⟩ : ∃ N, N = M := ⟨_, rfl⟩
    rw [← hN_]
    have hNM_ : ∀ a, 200 ≤ a → N a = M a := fun a ha => by rw [hN_]
    have hR_ : Rel nn M N := relB h0_ hNM_
    have hF5_ : N 200 50 = M 200 50 := congrFun (hNM_ 200 (by decide)) 50
    have e_ := r_eq hR_
    have tc_ := eq_tc e_
    have lc_ := eq_lc e_
    have wc_ := eq_wc e_
    have bc_ := eq_bc e_
    have tb_ := eq_tb e_
    have sc_ := eq_sc e_
    have ec_ := eq_ec e_
    have h8_ := eq_h8 e_
    have h9_ := eq_h9 e_
    have h10_ := eq_h10 e_
    have h11_ := eq_h11 e_
    refine y_buyerOf b wh h_b h_wh (hrg_ hR_ hn6_) (hmbc_ hR_) (fun hD_ => ?_) (fun hD_ => ?_) (fun hD_ => ?_) (fun hD_ => ?_) (fun hD_ => ?_) (fun hD_ => ?_)
    · exfalso; omega
    · exfalso; omega
    · exfalso; omega
    · refine fin2 h2_ (by rw [eq_e24 e_]) (relA (A := M) (rel_s hR_) (fun a ha => by rw [← hN_])) ((rfl).trans hF5_)
    · exfalso; omega
    · exfalso; omega
  · refine kont _ _ (rfl) (fun Pq2 h2_ => ?_)
    obtain ⟨N, hN_⟩ : ∃ N, N = M := ⟨_, rfl⟩
    rw [← hN_]
    have hNM_ : ∀ a, 200 ≤ a → N a = M a := fun a ha => by rw [hN_]
    have hR_ : Rel nn M N := relB h0_ hNM_
    have hF5_ : N 200 50 = M 200 50 := congrFun (hNM_ 200 (by decide)) 50
    have e_ := r_eq hR_
    have tc_ := eq_tc e_
    have lc_ := eq_lc e_
    have wc_ := eq_wc e_
    have bc_ := eq_bc e_
    have tb_ := eq_tb e_
    have sc_ := eq_sc e_
    have ec_ := eq_ec e_
    have h8_ := eq_h8 e_
    have h9_ := eq_h9 e_
    have h10_ := eq_h10 e_
    have h11_ := eq_h11 e_
    refine y_buyerOf b wh h_b h_wh (hrg_ hR_ hn6_) (hmbc_ hR_) (fun hD_ => ?_) (fun hD_ => ?_) (fun hD_ => ?_) (fun hD_ => ?_) (fun hD_ => ?_) (fun hD_ => ?_)
    · exfalso; omega
    · exfalso; omega
    · exfalso; omega
    · exfalso; omega
    · refine fin2 h2_ (by rw [eq_e25 e_]) (relA (A := M) (rel_s hR_) (fun a ha => by rw [← hN_])) ((rfl).trans hF5_)
    · exfalso; omega
  · refine kont _ _ (rfl) (fun Pq2 h2_ => ?_)
    obtain ⟨N, hN_⟩ : ∃ N, N = M := ⟨_, rfl⟩
    rw [← hN_]
    have hNM_ : ∀ a, 200 ≤ a → N a = M a := fun a ha => by rw [hN_]
    have hR_ : Rel nn M N := relB h0_ hNM_
    have hF5_ : N 200 50 = M 200 50 := congrFun (hNM_ 200 (by decide)) 50
    have e_ := r_eq hR_
    have tc_ := eq_tc e_
    have lc_ := eq_lc e_
    have wc_ := eq_wc e_
    have bc_ := eq_bc e_
    have tb_ := eq_tb e_
    have sc_ := eq_sc e_
    have ec_ := eq_ec e_
    have h8_ := eq_h8 e_
    have h9_ := eq_h9 e_
    have h10_ := eq_h10 e_
    have h11_ := eq_h11 e_
    refine y_buyerOf b wh h_b h_wh (hrg_ hR_ hn6_) (hmbc_ hR_) (fun hD_ => ?_) (fun hD_ => ?_) (fun hD_ => ?_) (fun hD_ => ?_) (fun hD_ => ?_) (fun hD_ => ?_)
    · exfalso; omega
    · exfalso; omega
    · exfalso; omega
    · exfalso; omega
    · exfalso; omega
    · refine fin2 h2_ (by rw [eq_e26 e_]) (relA (A := M) (rel_s hR_) (fun a ha => by rw [← hN_])) ((rfl).trans hF5_)
set_option maxHeartbeats 1000000 in
theorem p_holds {l : Launch} {M : Mem} {Pq : Option gV → Mem → Prop} {nn : Nat} (h0_ : Rel nn M M) (hn_ : nn ≤ 512) (sf : Int) (h_sf : inI sf) (kont : ∀ (r : Int) (M1 : Mem), M1 200 50 = M 200 50 → (∀ Pq2 : Option gV → Mem → Prop, (∀ M2, Rel (nn + 1) M2 M2 → M2 200 50 = M 200 50 → Pq2 (some (gI r)) M2) → gCtr l my_X12_holds mb_X12_holds 2 ((some .int)) 2 [gR 200, gI sf] M1 Pq2) → Pq (some (gI r)) M1) : gCtr l my_X11_holds mb_X11_holds 2 ((some .int)) 3 [gR 0, gI sf] M Pq := by
  have hn6_ : nn ≤ 600 := by omega
  refine x_holds sf h_sf (fun hC_ => ?_) (fun hC_ => ?_)
  · refine kont _ _ (rfl) (fun Pq2 h2_ => ?_)
    obtain ⟨N, hN_⟩ : ∃ N, N = M := ⟨_, rfl⟩
    rw [← hN_]
    have hNM_ : ∀ a, 200 ≤ a → N a = M a := fun a ha => by rw [hN_]
    have hR_ : Rel nn M N := relB h0_ hNM_
    have hF5_ : N 200 50 = M 200 50 := congrFun (hNM_ 200 (by decide)) 50
    have e_ := r_eq hR_
    have tc_ := eq_tc e_
    have lc_ := eq_lc e_
    have wc_ := eq_wc e_
    have bc_ := eq_bc e_
    have tb_ := eq_tb e_
    have sc_ := eq_sc e_
    have ec_ := eq_ec e_
    have h8_ := eq_h8 e_
    have h9_ := eq_h9 e_
    have h10_ := eq_h10 e_
    have h11_ := eq_h11 e_
    have sh_ : 0 ≤ sf ∧ sf ≤ 7 → ((M (1 + 96 + 2 * sf.toNat) 1 = -1 ∧ N 201 sf.toNat = -1) ∨ ((0 ≤ M (1 + 96 + 2 * sf.toNat) 1 ∧ M (1 + 96 + 2 * sf.toNat) 1 ≤ 4) ∧ N 201 sf.toNat = 100 + M (1 + 96 + 2 * sf.toNat) 1) ∨ ((10 ≤ M (1 + 96 + 2 * sf.toNat) 1 ∧ M (1 + 96 + 2 * sf.toNat) 1 < 10 + M 6 6) ∧ N 201 sf.toNat = M (1 + 96 + 2 * sf.toNat) 1 - 10)) := fun z_ => (r_sh hR_ sf.toNat (by omega)).1
    have hc6_ := hc_ hR_
    refine y_holds sf h_sf (fun hD_ => ?_) (fun hD_ => ?_) (fun hD_ => ?_)
    · refine fin2 h2_ (rfl) (relA (A := M) (rel_s hR_) (fun a ha => by rw [← hN_])) ((rfl).trans hF5_)
    · exfalso; omega
    · exfalso; omega
  · refine kont _ _ (rfl) (fun Pq2 h2_ => ?_)
    obtain ⟨N, hN_⟩ : ∃ N, N = M := ⟨_, rfl⟩
    rw [← hN_]
    have hNM_ : ∀ a, 200 ≤ a → N a = M a := fun a ha => by rw [hN_]
    have hR_ : Rel nn M N := relB h0_ hNM_
    have hF5_ : N 200 50 = M 200 50 := congrFun (hNM_ 200 (by decide)) 50
    have e_ := r_eq hR_
    have tc_ := eq_tc e_
    have lc_ := eq_lc e_
    have wc_ := eq_wc e_
    have bc_ := eq_bc e_
    have tb_ := eq_tb e_
    have sc_ := eq_sc e_
    have ec_ := eq_ec e_
    have h8_ := eq_h8 e_
    have h9_ := eq_h9 e_
    have h10_ := eq_h10 e_
    have h11_ := eq_h11 e_
    have sh_ : 0 ≤ sf ∧ sf ≤ 7 → ((M (1 + 96 + 2 * sf.toNat) 1 = -1 ∧ N 201 sf.toNat = -1) ∨ ((0 ≤ M (1 + 96 + 2 * sf.toNat) 1 ∧ M (1 + 96 + 2 * sf.toNat) 1 ≤ 4) ∧ N 201 sf.toNat = 100 + M (1 + 96 + 2 * sf.toNat) 1) ∨ ((10 ≤ M (1 + 96 + 2 * sf.toNat) 1 ∧ M (1 + 96 + 2 * sf.toNat) 1 < 10 + M 6 6) ∧ N 201 sf.toNat = M (1 + 96 + 2 * sf.toNat) 1 - 10)) := fun z_ => (r_sh hR_ sf.toNat (by omega)).1
    have hc6_ := hc_ hR_
    refine y_holds sf h_sf (fun hD_ => ?_) (fun hD_ => ?_) (fun hD_ => ?_)
    · refine fin2 h2_ (by omega) (relA (A := M) (rel_s hR_) (fun a ha => by rw [← hN_])) ((rfl).trans hF5_)
    · refine fin2 h2_ (by omega) (relA (A := M) (rel_s hR_) (fun a ha => by rw [← hN_])) ((rfl).trans hF5_)
    · refine fin2 h2_ (by omega) (relA (A := M) (rel_s hR_) (fun a ha => by rw [← hN_])) ((rfl).trans hF5_)
set_option maxHeartbeats 1000000 in
theorem p_lawOf {l : Launch} {M : Mem} {Pq : Option gV → Mem → Prop} {nn : Nat} (h0_ : Rel nn M M) (hn_ : nn ≤ 512) (lw : Int) (wh : Int) (h_lw : inI lw) (h_wh : inI wh) (kont : ∀ (r : Int) (M1 : Mem), M1 200 50 = M 200 50 → (∀ Pq2 : Option gV → Mem → Prop, (∀ M2, Rel (nn + 1) M2 M2 → M2 200 50 = M 200 50 → Pq2 (some (gI r)) M2) → gCtr l my_X12_lawOf mb_X12_lawOf 3 ((some .int)) 2 [gR 200, gI lw, gI wh] M1 Pq2) → Pq (some (gI r)) M1) : gCtr l my_X11_lawOf mb_X11_lawOf 3 ((some .int)) 4 [gR 0, gI lw, gI wh] M Pq := by
  have hn6_ : nn ≤ 600 := by omega
  refine x_lawOf lw wh h_lw h_wh (hrf_ h0_ hn6_) (hwc_ h0_) (fun hC_ => ?_) (fun hC_ => ?_)
  · refine kont _ _ (by exact congrFun ((fr_up (by omega) fr_0) 200 (by decide)) 50) (fun Pq2 h2_ => ?_)
    obtain ⟨N, hN_⟩ : ∃ N, N = rf M 0 := ⟨_, rfl⟩
    rw [← hN_]
    have hNM_ : ∀ a, 200 ≤ a → N a = M a := fun a ha => by rw [hN_]; exact (fr_up (by omega) fr_0) a ha
    have hR_ : Rel nn M N := relB h0_ hNM_
    have hF5_ : N 200 50 = M 200 50 := congrFun (hNM_ 200 (by decide)) 50
    have e_ := r_eq hR_
    have tc_ := eq_tc e_
    have lc_ := eq_lc e_
    have wc_ := eq_wc e_
    have bc_ := eq_bc e_
    have tb_ := eq_tb e_
    have sc_ := eq_sc e_
    have ec_ := eq_ec e_
    have h8_ := eq_h8 e_
    have h9_ := eq_h9 e_
    have h10_ := eq_h10 e_
    have h11_ := eq_h11 e_
    refine y_lawOf lw wh h_lw h_wh (hrg_ hR_ hn6_) (hmwc_ hR_) (fun hD_ => ?_) (fun hD_ => ?_)
    · refine fin2 h2_ (rfl) (relA (A := rf M 0) (rel_no hR_ 0 (by decide)) (fun a ha => by rw [← hN_]; exact (gr_up (by omega) fr_0) a ha)) (((fw_up (Or.inl (by decide)) rfl)).trans hF5_)
    · exfalso; omega
  · refine kont _ _ (rfl) (fun Pq2 h2_ => ?_)
    obtain ⟨N, hN_⟩ : ∃ N, N = M := ⟨_, rfl⟩
    rw [← hN_]
    have hNM_ : ∀ a, 200 ≤ a → N a = M a := fun a ha => by rw [hN_]
    have hR_ : Rel nn M N := relB h0_ hNM_
    have hF5_ : N 200 50 = M 200 50 := congrFun (hNM_ 200 (by decide)) 50
    have e_ := r_eq hR_
    have tc_ := eq_tc e_
    have lc_ := eq_lc e_
    have wc_ := eq_wc e_
    have bc_ := eq_bc e_
    have tb_ := eq_tb e_
    have sc_ := eq_sc e_
    have ec_ := eq_ec e_
    have h8_ := eq_h8 e_
    have h9_ := eq_h9 e_
    have h10_ := eq_h10 e_
    have h11_ := eq_h11 e_
    refine y_lawOf lw wh h_lw h_wh (hrg_ hR_ hn6_) (hmwc_ hR_) (fun hD_ => ?_) (fun hD_ => ?_)
    · exfalso; omega
    · refine fin2 h2_ (by rw [lpt_1 (by omega), show (lw * 5 + wh).toNat = (5 * lw + wh).toNat by omega]; exact eq_lw e_ _ (by omega)) (relA (A := M) (rel_s hR_) (fun a ha => by rw [← hN_])) ((rfl).trans hF5_)
set_option maxHeartbeats 1000000 in
theorem p_costs {l : Launch} {M : Mem} {Pq : Option gV → Mem → Prop} {nn : Nat} (h0_ : Rel nn M M) (hn_ : nn ≤ 512) (t : Int) (h : Int) (h_t : inI t) (h_h : inI h) (kont : ∀ (r : Int) (M1 : Mem), M1 200 50 = M 200 50 → (∀ Pq2 : Option gV → Mem → Prop, (∀ M2, Rel (nn + 1) M2 M2 → M2 200 50 = M 200 50 → Pq2 (some (gI r)) M2) → gCtr l my_X12_costs mb_X12_costs 3 ((some .int)) 2 [gR 200, gI t, gI h] M1 Pq2) → Pq (some (gI r)) M1) : gCtr l my_X11_costs mb_X11_costs 3 ((some .int)) 3 [gR 0, gI t, gI h] M Pq := by
  have hn6_ : nn ≤ 600 := by omega
  refine x_costs t h h_t h_h (hrf_ h0_ hn6_) (hc_ h0_) (fun hC_ => ?_) (fun hC_ => ?_) (fun hC_ => ?_)
  · refine kont _ _ (by exact congrFun ((fr_up (by omega) fr_0) 200 (by decide)) 50) (fun Pq2 h2_ => ?_)
    obtain ⟨N, hN_⟩ : ∃ N, N = rf M 0 := ⟨_, rfl⟩
    rw [← hN_]
    have hNM_ : ∀ a, 200 ≤ a → N a = M a := fun a ha => by rw [hN_]; exact (fr_up (by omega) fr_0) a ha
    have hR_ : Rel nn M N := relB h0_ hNM_
    have hF5_ : N 200 50 = M 200 50 := congrFun (hNM_ 200 (by decide)) 50
    have e_ := r_eq hR_
    have tc_ := eq_tc e_
    have lc_ := eq_lc e_
    have wc_ := eq_wc e_
    have bc_ := eq_bc e_
    have tb_ := eq_tb e_
    have sc_ := eq_sc e_
    have ec_ := eq_ec e_
    have h8_ := eq_h8 e_
    have h9_ := eq_h9 e_
    have h10_ := eq_h10 e_
    have h11_ := eq_h11 e_
    have e10_ := congrFun (eq_e10 e_) t.toNat
    have ht_ := (hth_ hR_) t.toNat
    have hc6_ := hc_ hR_
    refine y_costs t h h_t h_h (hrg_ hR_ hn6_) (hmc_ hR_) (fun hD_ => ?_) (fun hD_ => ?_) (fun hD_ => ?_)
    · refine fin2 h2_ (rfl) (relA (A := rf M 0) (rel_no hR_ 0 (by decide)) (fun a ha => by rw [← hN_]; exact (gr_up (by omega) fr_0) a ha)) (((fw_up (Or.inl (by decide)) rfl)).trans hF5_)
    · exfalso; omega
    · exfalso; omega
  · refine kont _ _ (rfl) (fun Pq2 h2_ => ?_)
    obtain ⟨N, hN_⟩ : ∃ N, N = M := ⟨_, rfl⟩
    rw [← hN_]
    have hNM_ : ∀ a, 200 ≤ a → N a = M a := fun a ha => by rw [hN_]
    have hR_ : Rel nn M N := relB h0_ hNM_
    have hF5_ : N 200 50 = M 200 50 := congrFun (hNM_ 200 (by decide)) 50
    have e_ := r_eq hR_
    have tc_ := eq_tc e_
    have lc_ := eq_lc e_
    have wc_ := eq_wc e_
    have bc_ := eq_bc e_
    have tb_ := eq_tb e_
    have sc_ := eq_sc e_
    have ec_ := eq_ec e_
    have h8_ := eq_h8 e_
    have h9_ := eq_h9 e_
    have h10_ := eq_h10 e_
    have h11_ := eq_h11 e_
    have e10_ := congrFun (eq_e10 e_) t.toNat
    have ht_ := (hth_ hR_) t.toNat
    have hc6_ := hc_ hR_
    refine y_costs t h h_t h_h (hrg_ hR_ hn6_) (hmc_ hR_) (fun hD_ => ?_) (fun hD_ => ?_) (fun hD_ => ?_)
    · exfalso; omega
    · refine fin2 h2_ (rfl) (relA (A := M) (rel_s hR_) (fun a ha => by rw [← hN_])) ((rfl).trans hF5_)
    · exfalso; omega
  · refine kont _ _ (rfl) (fun Pq2 h2_ => ?_)
    obtain ⟨N, hN_⟩ : ∃ N, N = M := ⟨_, rfl⟩
    rw [← hN_]
    have hNM_ : ∀ a, 200 ≤ a → N a = M a := fun a ha => by rw [hN_]
    have hR_ : Rel nn M N := relB h0_ hNM_
    have hF5_ : N 200 50 = M 200 50 := congrFun (hNM_ 200 (by decide)) 50
    have e_ := r_eq hR_
    have tc_ := eq_tc e_
    have lc_ := eq_lc e_
    have wc_ := eq_wc e_
    have bc_ := eq_bc e_
    have tb_ := eq_tb e_
    have sc_ := eq_sc e_
    have ec_ := eq_ec e_
    have h8_ := eq_h8 e_
    have h9_ := eq_h9 e_
    have h10_ := eq_h10 e_
    have h11_ := eq_h11 e_
    have e10_ := congrFun (eq_e10 e_) t.toNat
    have ht_ := (hth_ hR_) t.toNat
    have hc6_ := hc_ hR_
    refine y_costs t h h_t h_h (hrg_ hR_ hn6_) (hmc_ hR_) (fun hD_ => ?_) (fun hD_ => ?_) (fun hD_ => ?_)
    · exfalso; omega
    · exfalso; omega
    · refine fin2 h2_ (by rw [eq_e10 e_, h8_, h9_]) (relA (A := M) (rel_s hR_) (fun a ha => by rw [← hN_])) ((rfl).trans hF5_)
set_option maxHeartbeats 1000000 in
theorem p_same {l : Launch} {M : Mem} {Pq : Option gV → Mem → Prop} {nn : Nat} (h0_ : Rel nn M M) (hn_ : nn ≤ 512) (i : Int) (j : Int) (h_i : inI i) (h_j : inI j) (kont : ∀ (r : Int) (M1 : Mem), M1 200 50 = M 200 50 → (∀ Pq2 : Option gV → Mem → Prop, (∀ M2, Rel (nn + 1) M2 M2 → M2 200 50 = M 200 50 → Pq2 (some (gI r)) M2) → gCtr l my_X12_same mb_X12_same 3 ((some .int)) 2 [gR 200, gI i, gI j] M1 Pq2) → Pq (some (gI r)) M1) : gCtr l my_X11_same mb_X11_same 3 ((some .int)) 3 [gR 0, gI i, gI j] M Pq := by
  have hn6_ : nn ≤ 600 := by omega
  refine x_same i j h_i h_j (hrf_ h0_ hn6_) (hsc_ h0_) (fun hC_ => ?_) (fun hC_ => ?_) (fun hC_ => ?_)
  · refine kont _ _ (by exact congrFun ((fr_up (by omega) fr_0) 200 (by decide)) 50) (fun Pq2 h2_ => ?_)
    obtain ⟨N, hN_⟩ : ∃ N, N = rf M 0 := ⟨_, rfl⟩
    rw [← hN_]
    have hNM_ : ∀ a, 200 ≤ a → N a = M a := fun a ha => by rw [hN_]; exact (fr_up (by omega) fr_0) a ha
    have hR_ : Rel nn M N := relB h0_ hNM_
    have hF5_ : N 200 50 = M 200 50 := congrFun (hNM_ 200 (by decide)) 50
    have e_ := r_eq hR_
    have tc_ := eq_tc e_
    have lc_ := eq_lc e_
    have wc_ := eq_wc e_
    have bc_ := eq_bc e_
    have tb_ := eq_tb e_
    have sc_ := eq_sc e_
    have ec_ := eq_ec e_
    have h8_ := eq_h8 e_
    have h9_ := eq_h9 e_
    have h10_ := eq_h10 e_
    have h11_ := eq_h11 e_
    refine y_same i j h_i h_j (hrg_ hR_ hn6_) (hmsc_ hR_) (fun hD_ => ?_) (fun hD_ => ?_) (fun hD_ => ?_)
    · refine fin2 h2_ (rfl) (relA (A := rf M 0) (rel_no hR_ 0 (by decide)) (fun a ha => by rw [← hN_]; exact (gr_up (by omega) fr_0) a ha)) (((fw_up (Or.inl (by decide)) rfl)).trans hF5_)
    · exfalso; omega
    · exfalso; omega
  · refine kont _ _ (rfl) (fun Pq2 h2_ => ?_)
    obtain ⟨N, hN_⟩ : ∃ N, N = M := ⟨_, rfl⟩
    rw [← hN_]
    have hNM_ : ∀ a, 200 ≤ a → N a = M a := fun a ha => by rw [hN_]
    have hR_ : Rel nn M N := relB h0_ hNM_
    have hF5_ : N 200 50 = M 200 50 := congrFun (hNM_ 200 (by decide)) 50
    have e_ := r_eq hR_
    have tc_ := eq_tc e_
    have lc_ := eq_lc e_
    have wc_ := eq_wc e_
    have bc_ := eq_bc e_
    have tb_ := eq_tb e_
    have sc_ := eq_sc e_
    have ec_ := eq_ec e_
    have h8_ := eq_h8 e_
    have h9_ := eq_h9 e_
    have h10_ := eq_h10 e_
    have h11_ := eq_h11 e_
    refine y_same i j h_i h_j (hrg_ hR_ hn6_) (hmsc_ hR_) (fun hD_ => ?_) (fun hD_ => ?_) (fun hD_ => ?_)
    · exfalso; omega
    · refine fin2 h2_ (rfl) (relA (A := M) (rel_s hR_) (fun a ha => by rw [← hN_])) ((rfl).trans hF5_)
    · rw [eq_e28 e_, eq_e29 e_, eq_e30 e_, eq_e31 e_] at hD_; exact absurd hC_.2 hD_.2
  · refine kont _ _ (rfl) (fun Pq2 h2_ => ?_)
    obtain ⟨N, hN_⟩ : ∃ N, N = M := ⟨_, rfl⟩
    rw [← hN_]
    have hNM_ : ∀ a, 200 ≤ a → N a = M a := fun a ha => by rw [hN_]
    have hR_ : Rel nn M N := relB h0_ hNM_
    have hF5_ : N 200 50 = M 200 50 := congrFun (hNM_ 200 (by decide)) 50
    have e_ := r_eq hR_
    have tc_ := eq_tc e_
    have lc_ := eq_lc e_
    have wc_ := eq_wc e_
    have bc_ := eq_bc e_
    have tb_ := eq_tb e_
    have sc_ := eq_sc e_
    have ec_ := eq_ec e_
    have h8_ := eq_h8 e_
    have h9_ := eq_h9 e_
    have h10_ := eq_h10 e_
    have h11_ := eq_h11 e_
    refine y_same i j h_i h_j (hrg_ hR_ hn6_) (hmsc_ hR_) (fun hD_ => ?_) (fun hD_ => ?_) (fun hD_ => ?_)
    · exfalso; omega
    · rw [eq_e28 e_, eq_e29 e_, eq_e30 e_, eq_e31 e_] at hD_; exact absurd hD_.2 hC_.2
    · refine fin2 h2_ (rfl) (relA (A := M) (rel_s hR_) (fun a ha => by rw [← hN_])) ((rfl).trans hF5_)
set_option maxHeartbeats 1000000 in
theorem p_element {l : Launch} {M : Mem} {Pq : Option gV → Mem → Prop} {nn : Nat} (h0_ : Rel nn M M) (hn_ : nn ≤ 512) (sf : Int) (i : Int) (h_sf : inI sf) (h_i : inI i) (kont : ∀ (r : Int) (M1 : Mem), M1 200 50 = M 200 50 → (∀ Pq2 : Option gV → Mem → Prop, (∀ M2, Rel (nn + 1) M2 M2 → M2 200 50 = M 200 50 → Pq2 (some (gL r)) M2) → gCtr l my_X12_element mb_X12_element 3 ((some .long)) 2 [gR 200, gI sf, gI i] M1 Pq2) → Pq (some (gL r)) M1) : gCtr l my_X11_element mb_X11_element 3 ((some .long)) 4 [gR 0, gI sf, gI i] M Pq := by
  have hn6_ : nn ≤ 600 := by omega
  refine x_element sf i h_sf h_i (hsh_ h0_) (fun hC_ => ?_) (fun hC_ => ?_)
  · refine kont _ _ (rfl) (fun Pq2 h2_ => ?_)
    obtain ⟨N, hN_⟩ : ∃ N, N = M := ⟨_, rfl⟩
    rw [← hN_]
    have hNM_ : ∀ a, 200 ≤ a → N a = M a := fun a ha => by rw [hN_]
    have hR_ : Rel nn M N := relB h0_ hNM_
    have hF5_ : N 200 50 = M 200 50 := congrFun (hNM_ 200 (by decide)) 50
    have e_ := r_eq hR_
    have tc_ := eq_tc e_
    have lc_ := eq_lc e_
    have wc_ := eq_wc e_
    have bc_ := eq_bc e_
    have tb_ := eq_tb e_
    have sc_ := eq_sc e_
    have ec_ := eq_ec e_
    have h8_ := eq_h8 e_
    have h9_ := eq_h9 e_
    have h10_ := eq_h10 e_
    have h11_ := eq_h11 e_
    have sh_ : 0 ≤ sf ∧ sf ≤ 7 → ((M (1 + 96 + 2 * sf.toNat) 1 = -1 ∧ N 201 sf.toNat = -1) ∨ ((0 ≤ M (1 + 96 + 2 * sf.toNat) 1 ∧ M (1 + 96 + 2 * sf.toNat) 1 ≤ 4) ∧ N 201 sf.toNat = 100 + M (1 + 96 + 2 * sf.toNat) 1) ∨ ((10 ≤ M (1 + 96 + 2 * sf.toNat) 1 ∧ M (1 + 96 + 2 * sf.toNat) 1 < 10 + M 6 6) ∧ N 201 sf.toNat = M (1 + 96 + 2 * sf.toNat) 1 - 10)) := fun z_ => (r_sh hR_ sf.toNat (by omega)).1
    have sl_ : 0 ≤ sf ∧ sf ≤ 7 → (0 ≤ M (1 + 96 + 2 * sf.toNat) 2 ∧ M (1 + 96 + 2 * sf.toNat) 2 ≤ 40 ∧ N 202 sf.toNat = M (1 + 96 + 2 * sf.toNat) 2) := fun z_ => (r_sh hR_ sf.toNat (by omega)).2.1
    have hc6_ := hc_ hR_
    refine y_element sf i h_sf h_i (hho_ hR_) (hmc_ hR_) (fun hD_ => ?_) (fun hD_ => ?_)
    · refine fin2L h2_ (rfl) (relA (A := M) (rel_s hR_) (fun a ha => by rw [← hN_])) ((rfl).trans hF5_)
    · exfalso; omega
  · refine kont _ _ (rfl) (fun Pq2 h2_ => ?_)
    obtain ⟨N, hN_⟩ : ∃ N, N = M := ⟨_, rfl⟩
    rw [← hN_]
    have hNM_ : ∀ a, 200 ≤ a → N a = M a := fun a ha => by rw [hN_]
    have hR_ : Rel nn M N := relB h0_ hNM_
    have hF5_ : N 200 50 = M 200 50 := congrFun (hNM_ 200 (by decide)) 50
    have e_ := r_eq hR_
    have tc_ := eq_tc e_
    have lc_ := eq_lc e_
    have wc_ := eq_wc e_
    have bc_ := eq_bc e_
    have tb_ := eq_tb e_
    have sc_ := eq_sc e_
    have ec_ := eq_ec e_
    have h8_ := eq_h8 e_
    have h9_ := eq_h9 e_
    have h10_ := eq_h10 e_
    have h11_ := eq_h11 e_
    have sh_ : 0 ≤ sf ∧ sf ≤ 7 → ((M (1 + 96 + 2 * sf.toNat) 1 = -1 ∧ N 201 sf.toNat = -1) ∨ ((0 ≤ M (1 + 96 + 2 * sf.toNat) 1 ∧ M (1 + 96 + 2 * sf.toNat) 1 ≤ 4) ∧ N 201 sf.toNat = 100 + M (1 + 96 + 2 * sf.toNat) 1) ∨ ((10 ≤ M (1 + 96 + 2 * sf.toNat) 1 ∧ M (1 + 96 + 2 * sf.toNat) 1 < 10 + M 6 6) ∧ N 201 sf.toNat = M (1 + 96 + 2 * sf.toNat) 1 - 10)) := fun z_ => (r_sh hR_ sf.toNat (by omega)).1
    have sl_ : 0 ≤ sf ∧ sf ≤ 7 → (0 ≤ M (1 + 96 + 2 * sf.toNat) 2 ∧ M (1 + 96 + 2 * sf.toNat) 2 ≤ 40 ∧ N 202 sf.toNat = M (1 + 96 + 2 * sf.toNat) 2) := fun z_ => (r_sh hR_ sf.toNat (by omega)).2.1
    have hc6_ := hc_ hR_
    refine y_element sf i h_sf h_i (hho_ hR_) (hmc_ hR_) (fun hD_ => ?_) (fun hD_ => ?_)
    · exfalso; omega
    · have q_ := (r_sh hR_ sf.toNat (by omega)).2.2 i.toNat (by omega)
      rw [show 40 * sf.toNat + i.toNat = (40 * sf + i).toNat by omega] at q_
      refine fin2L h2_ (q_) (relA (A := M) (rel_s hR_) (fun a ha => by rw [← hN_])) ((rfl).trans hF5_)
set_option maxHeartbeats 1000000 in
theorem p_says {l : Launch} {M : Mem} {Pq : Option gV → Mem → Prop} {nn : Nat} (h0_ : Rel nn M M) (hn_ : nn ≤ 512) (sf : Int) (k : Int) (h_sf : inI sf) (h_k : inI k) (kont : ∀ (r : Int) (M1 : Mem), M1 200 50 = M 200 50 → (∀ Pq2 : Option gV → Mem → Prop, (∀ M2, Rel (nn + 1) M2 M2 → M2 200 50 = M 200 50 → Pq2 (some (gI r)) M2) → gCtr l my_X12_says mb_X12_says 4 ((some .int)) 4 [gR 200, gI sf, gI k] M1 Pq2) → Pq (some (gI r)) M1) : gCtr l my_X11_says mb_X11_says 5 ((some .int)) 5 [gR 0, gI sf, gI k] M Pq := by
  have hn6_ : nn ≤ 600 := by omega
  refine x_says sf k h_sf h_k (hrf_ h0_ hn6_) (hsh_ h0_) (hc_ h0_) (hth_ h0_) (fun hC_ => ?_) (fun hC_ => ?_) (fun hC_ => ?_) (fun hC_ => ?_) (fun hC_ => ?_)
  · refine kont _ _ (by exact congrFun ((fr_up (by omega) fr_0) 200 (by decide)) 50) (fun Pq2 h2_ => ?_)
    obtain ⟨N, hN_⟩ : ∃ N, N = rf M 0 := ⟨_, rfl⟩
    rw [← hN_]
    have hNM_ : ∀ a, 200 ≤ a → N a = M a := fun a ha => by rw [hN_]; exact (fr_up (by omega) fr_0) a ha
    have hR_ : Rel nn M N := relB h0_ hNM_
    have hF5_ : N 200 50 = M 200 50 := congrFun (hNM_ 200 (by decide)) 50
    have e_ := r_eq hR_
    have tc_ := eq_tc e_
    have lc_ := eq_lc e_
    have wc_ := eq_wc e_
    have bc_ := eq_bc e_
    have tb_ := eq_tb e_
    have sc_ := eq_sc e_
    have ec_ := eq_ec e_
    have h8_ := eq_h8 e_
    have h9_ := eq_h9 e_
    have h10_ := eq_h10 e_
    have h11_ := eq_h11 e_
    have sh_ : 0 ≤ sf ∧ sf ≤ 7 → ((M (1 + 96 + 2 * sf.toNat) 1 = -1 ∧ N 201 sf.toNat = -1) ∨ ((0 ≤ M (1 + 96 + 2 * sf.toNat) 1 ∧ M (1 + 96 + 2 * sf.toNat) 1 ≤ 4) ∧ N 201 sf.toNat = 100 + M (1 + 96 + 2 * sf.toNat) 1) ∨ ((10 ≤ M (1 + 96 + 2 * sf.toNat) 1 ∧ M (1 + 96 + 2 * sf.toNat) 1 < 10 + M 6 6) ∧ N 201 sf.toNat = M (1 + 96 + 2 * sf.toNat) 1 - 10)) := fun z_ => (r_sh hR_ sf.toNat (by omega)).1
    have hc6_ := hc_ hR_
    refine y_says sf k h_sf h_k (hrg_ hR_ hn6_) (hho_ hR_) (hmc_ hR_) (hthm_ hR_) (fun hD_ => ?_) (fun hD_ => ?_) (fun hD_ => ?_) (fun hD_ => ?_) (fun hD_ => ?_)
    · refine fin2 h2_ (rfl) (relA (A := rf M 0) (rel_no hR_ 0 (by decide)) (fun a ha => by rw [← hN_]; exact (gr_up (by omega) fr_0) a ha)) (((fw_up (Or.inl (by decide)) rfl)).trans hF5_)
    · exfalso; omega
    · exfalso; omega
    · exfalso; omega
    · exfalso; omega
  · refine kont _ _ (by exact congrFun ((fr_up (by omega) fr_0) 200 (by decide)) 50) (fun Pq2 h2_ => ?_)
    obtain ⟨N, hN_⟩ : ∃ N, N = rf M 2 := ⟨_, rfl⟩
    rw [← hN_]
    have hNM_ : ∀ a, 200 ≤ a → N a = M a := fun a ha => by rw [hN_]; exact (fr_up (by omega) fr_0) a ha
    have hR_ : Rel nn M N := relB h0_ hNM_
    have hF5_ : N 200 50 = M 200 50 := congrFun (hNM_ 200 (by decide)) 50
    have e_ := r_eq hR_
    have tc_ := eq_tc e_
    have lc_ := eq_lc e_
    have wc_ := eq_wc e_
    have bc_ := eq_bc e_
    have tb_ := eq_tb e_
    have sc_ := eq_sc e_
    have ec_ := eq_ec e_
    have h8_ := eq_h8 e_
    have h9_ := eq_h9 e_
    have h10_ := eq_h10 e_
    have h11_ := eq_h11 e_
    have sh_ : 0 ≤ sf ∧ sf ≤ 7 → ((M (1 + 96 + 2 * sf.toNat) 1 = -1 ∧ N 201 sf.toNat = -1) ∨ ((0 ≤ M (1 + 96 + 2 * sf.toNat) 1 ∧ M (1 + 96 + 2 * sf.toNat) 1 ≤ 4) ∧ N 201 sf.toNat = 100 + M (1 + 96 + 2 * sf.toNat) 1) ∨ ((10 ≤ M (1 + 96 + 2 * sf.toNat) 1 ∧ M (1 + 96 + 2 * sf.toNat) 1 < 10 + M 6 6) ∧ N 201 sf.toNat = M (1 + 96 + 2 * sf.toNat) 1 - 10)) := fun z_ => (r_sh hR_ sf.toNat (by omega)).1
    have hc6_ := hc_ hR_
    refine y_says sf k h_sf h_k (hrg_ hR_ hn6_) (hho_ hR_) (hmc_ hR_) (hthm_ hR_) (fun hD_ => ?_) (fun hD_ => ?_) (fun hD_ => ?_) (fun hD_ => ?_) (fun hD_ => ?_)
    · exfalso; omega
    · exfalso; omega
    · refine fin2 h2_ (rfl) (relA (A := rf M 2) (rel_no hR_ 2 (by decide)) (fun a ha => by rw [← hN_]; exact (gr_up (by omega) fr_0) a ha)) (((fw_up (Or.inl (by decide)) rfl)).trans hF5_)
    · exfalso; omega
    · exfalso; omega
  · refine kont _ _ (by exact congrFun ((fr_up (by omega) fr_0) 200 (by decide)) 50) (fun Pq2 h2_ => ?_)
    obtain ⟨N, hN_⟩ : ∃ N, N = rf M 1 := ⟨_, rfl⟩
    rw [← hN_]
    have hNM_ : ∀ a, 200 ≤ a → N a = M a := fun a ha => by rw [hN_]; exact (fr_up (by omega) fr_0) a ha
    have hR_ : Rel nn M N := relB h0_ hNM_
    have hF5_ : N 200 50 = M 200 50 := congrFun (hNM_ 200 (by decide)) 50
    have e_ := r_eq hR_
    have tc_ := eq_tc e_
    have lc_ := eq_lc e_
    have wc_ := eq_wc e_
    have bc_ := eq_bc e_
    have tb_ := eq_tb e_
    have sc_ := eq_sc e_
    have ec_ := eq_ec e_
    have h8_ := eq_h8 e_
    have h9_ := eq_h9 e_
    have h10_ := eq_h10 e_
    have h11_ := eq_h11 e_
    have sh_ : 0 ≤ sf ∧ sf ≤ 7 → ((M (1 + 96 + 2 * sf.toNat) 1 = -1 ∧ N 201 sf.toNat = -1) ∨ ((0 ≤ M (1 + 96 + 2 * sf.toNat) 1 ∧ M (1 + 96 + 2 * sf.toNat) 1 ≤ 4) ∧ N 201 sf.toNat = 100 + M (1 + 96 + 2 * sf.toNat) 1) ∨ ((10 ≤ M (1 + 96 + 2 * sf.toNat) 1 ∧ M (1 + 96 + 2 * sf.toNat) 1 < 10 + M 6 6) ∧ N 201 sf.toNat = M (1 + 96 + 2 * sf.toNat) 1 - 10)) := fun z_ => (r_sh hR_ sf.toNat (by omega)).1
    have hc6_ := hc_ hR_
    refine y_says sf k h_sf h_k (hrg_ hR_ hn6_) (hho_ hR_) (hmc_ hR_) (hthm_ hR_) (fun hD_ => ?_) (fun hD_ => ?_) (fun hD_ => ?_) (fun hD_ => ?_) (fun hD_ => ?_)
    · exfalso; omega
    · refine fin2 h2_ (rfl) (relA (A := rf M 1) (rel_no hR_ 1 (by decide)) (fun a ha => by rw [← hN_]; exact (gr_up (by omega) fr_0) a ha)) (((fw_up (Or.inl (by decide)) rfl)).trans hF5_)
    · exfalso; omega
    · exfalso; omega
    · exfalso; omega
  · refine kont _ _ (by exact congrFun ((fr_up (by omega) fr_0) 200 (by decide)) 50) (fun Pq2 h2_ => ?_)
    obtain ⟨N, hN_⟩ : ∃ N, N = rf M 1 := ⟨_, rfl⟩
    rw [← hN_]
    have hNM_ : ∀ a, 200 ≤ a → N a = M a := fun a ha => by rw [hN_]; exact (fr_up (by omega) fr_0) a ha
    have hR_ : Rel nn M N := relB h0_ hNM_
    have hF5_ : N 200 50 = M 200 50 := congrFun (hNM_ 200 (by decide)) 50
    have e_ := r_eq hR_
    have tc_ := eq_tc e_
    have lc_ := eq_lc e_
    have wc_ := eq_wc e_
    have bc_ := eq_bc e_
    have tb_ := eq_tb e_
    have sc_ := eq_sc e_
    have ec_ := eq_ec e_
    have h8_ := eq_h8 e_
    have h9_ := eq_h9 e_
    have h10_ := eq_h10 e_
    have h11_ := eq_h11 e_
    have sh_ : 0 ≤ sf ∧ sf ≤ 7 → ((M (1 + 96 + 2 * sf.toNat) 1 = -1 ∧ N 201 sf.toNat = -1) ∨ ((0 ≤ M (1 + 96 + 2 * sf.toNat) 1 ∧ M (1 + 96 + 2 * sf.toNat) 1 ≤ 4) ∧ N 201 sf.toNat = 100 + M (1 + 96 + 2 * sf.toNat) 1) ∨ ((10 ≤ M (1 + 96 + 2 * sf.toNat) 1 ∧ M (1 + 96 + 2 * sf.toNat) 1 < 10 + M 6 6) ∧ N 201 sf.toNat = M (1 + 96 + 2 * sf.toNat) 1 - 10)) := fun z_ => (r_sh hR_ sf.toNat (by omega)).1
    have hc6_ := hc_ hR_
    refine y_says sf k h_sf h_k (hrg_ hR_ hn6_) (hho_ hR_) (hmc_ hR_) (hthm_ hR_) (fun hD_ => ?_) (fun hD_ => ?_) (fun hD_ => ?_) (fun hD_ => ?_) (fun hD_ => ?_)
    · exfalso; omega
    · exfalso; omega
    · exfalso; omega
    · refine fin2 h2_ (rfl) (relA (A := rf M 1) (rel_no hR_ 1 (by decide)) (fun a ha => by rw [← hN_]; exact (gr_up (by omega) fr_0) a ha)) (((fw_up (Or.inl (by decide)) rfl)).trans hF5_)
    · have q_ : N 201 sf.toNat = M (1 + 96 + 2 * sf.toNat) 1 - 10 := by omega
      rw [q_, eq_e7 e_] at hD_
      exact absurd hD_.2 hC_.2
  · refine kont _ _ (rfl) (fun Pq2 h2_ => ?_)
    obtain ⟨N, hN_⟩ : ∃ N, N = M := ⟨_, rfl⟩
    rw [← hN_]
    have hNM_ : ∀ a, 200 ≤ a → N a = M a := fun a ha => by rw [hN_]
    have hR_ : Rel nn M N := relB h0_ hNM_
    have hF5_ : N 200 50 = M 200 50 := congrFun (hNM_ 200 (by decide)) 50
    have e_ := r_eq hR_
    have tc_ := eq_tc e_
    have lc_ := eq_lc e_
    have wc_ := eq_wc e_
    have bc_ := eq_bc e_
    have tb_ := eq_tb e_
    have sc_ := eq_sc e_
    have ec_ := eq_ec e_
    have h8_ := eq_h8 e_
    have h9_ := eq_h9 e_
    have h10_ := eq_h10 e_
    have h11_ := eq_h11 e_
    have sh_ : 0 ≤ sf ∧ sf ≤ 7 → ((M (1 + 96 + 2 * sf.toNat) 1 = -1 ∧ N 201 sf.toNat = -1) ∨ ((0 ≤ M (1 + 96 + 2 * sf.toNat) 1 ∧ M (1 + 96 + 2 * sf.toNat) 1 ≤ 4) ∧ N 201 sf.toNat = 100 + M (1 + 96 + 2 * sf.toNat) 1) ∨ ((10 ≤ M (1 + 96 + 2 * sf.toNat) 1 ∧ M (1 + 96 + 2 * sf.toNat) 1 < 10 + M 6 6) ∧ N 201 sf.toNat = M (1 + 96 + 2 * sf.toNat) 1 - 10)) := fun z_ => (r_sh hR_ sf.toNat (by omega)).1
    have hc6_ := hc_ hR_
    refine y_says sf k h_sf h_k (hrg_ hR_ hn6_) (hho_ hR_) (hmc_ hR_) (hthm_ hR_) (fun hD_ => ?_) (fun hD_ => ?_) (fun hD_ => ?_) (fun hD_ => ?_) (fun hD_ => ?_)
    · exfalso; omega
    · exfalso; omega
    · exfalso; omega
    · have q_ : N 201 sf.toNat = M (1 + 96 + 2 * sf.toNat) 1 - 10 := by omega
      rw [q_, eq_e7 e_] at hD_
      exact absurd hC_.2 hD_.2
    · refine fin2 h2_ (by rw [show N 201 sf.toNat = M (1 + 96 + 2 * sf.toNat) 1 - 10 by omega, eq_e7 e_, eq_e8 e_, eq_e9 e_]) (relA (A := M) (rel_s hR_) (fun a ha => by rw [← hN_])) ((rfl).trans hF5_)
set_option maxHeartbeats 1000000 in
theorem p_status {l : Launch} {M : Mem} {Pq : Option gV → Mem → Prop} {nn : Nat} (h0_ : Rel nn M M) (hn_ : nn ≤ 512) (wh : Int) (h_wh : inI wh) (kont : ∀ (r : Int) (M1 : Mem), M1 200 50 = M 200 50 → (∀ Pq2 : Option gV → Mem → Prop, (∀ M2, Rel (nn + 1) M2 M2 → M2 200 50 = M 200 50 → Pq2 (some (gI r)) M2) → gCtr l my_X12_status mb_X12_status 4 ((some .int)) 1 [gR 200, gI wh] M1 Pq2) → Pq (some (gI r)) M1) : gCtr l my_X11_status mb_X11_status 2 ((some .int)) 3 [gR 0, gI wh] M Pq := by
  have hn6_ : nn ≤ 600 := by omega
  refine x_status wh h_wh (fun hC_ => ?_) (fun hC_ => ?_) (fun hC_ => ?_) (fun hC_ => ?_) (fun hC_ => ?_) (fun hC_ => ?_) (fun hC_ => ?_) (fun hC_ => ?_) (fun hC_ => ?_) (fun hC_ => ?_) (fun hC_ => ?_)
  · refine kont _ _ (rfl) (fun Pq2 h2_ => ?_)
    obtain ⟨N, hN_⟩ : ∃ N, N = M := ⟨_, rfl⟩
    rw [← hN_]
    have hNM_ : ∀ a, 200 ≤ a → N a = M a := fun a ha => by rw [hN_]
    have hR_ : Rel nn M N := relB h0_ hNM_
    have hF5_ : N 200 50 = M 200 50 := congrFun (hNM_ 200 (by decide)) 50
    have e_ := r_eq hR_
    have tc_ := eq_tc e_
    have lc_ := eq_lc e_
    have wc_ := eq_wc e_
    have bc_ := eq_bc e_
    have tb_ := eq_tb e_
    have sc_ := eq_sc e_
    have ec_ := eq_ec e_
    have h8_ := eq_h8 e_
    have h9_ := eq_h9 e_
    have h10_ := eq_h10 e_
    have h11_ := eq_h11 e_
    refine y_status wh h_wh (fun hD_ => ?_) (fun hD_ => ?_) (fun hD_ => ?_) (fun hD_ => ?_) (fun hD_ => ?_) (fun hD_ => ?_) (fun hD_ => ?_) (fun hD_ => ?_) (fun hD_ => ?_) (fun hD_ => ?_) (fun hD_ => ?_)
    · refine fin2 h2_ (by omega) (relA (A := M) (rel_s hR_) (fun a ha => by rw [← hN_])) ((rfl).trans hF5_)
    · exfalso; omega
    · exfalso; omega
    · exfalso; omega
    · exfalso; omega
    · exfalso; omega
    · exfalso; omega
    · exfalso; omega
    · exfalso; omega
    · exfalso; omega
    · exfalso; omega
  · refine kont _ _ (rfl) (fun Pq2 h2_ => ?_)
    obtain ⟨N, hN_⟩ : ∃ N, N = M := ⟨_, rfl⟩
    rw [← hN_]
    have hNM_ : ∀ a, 200 ≤ a → N a = M a := fun a ha => by rw [hN_]
    have hR_ : Rel nn M N := relB h0_ hNM_
    have hF5_ : N 200 50 = M 200 50 := congrFun (hNM_ 200 (by decide)) 50
    have e_ := r_eq hR_
    have tc_ := eq_tc e_
    have lc_ := eq_lc e_
    have wc_ := eq_wc e_
    have bc_ := eq_bc e_
    have tb_ := eq_tb e_
    have sc_ := eq_sc e_
    have ec_ := eq_ec e_
    have h8_ := eq_h8 e_
    have h9_ := eq_h9 e_
    have h10_ := eq_h10 e_
    have h11_ := eq_h11 e_
    refine y_status wh h_wh (fun hD_ => ?_) (fun hD_ => ?_) (fun hD_ => ?_) (fun hD_ => ?_) (fun hD_ => ?_) (fun hD_ => ?_) (fun hD_ => ?_) (fun hD_ => ?_) (fun hD_ => ?_) (fun hD_ => ?_) (fun hD_ => ?_)
    · exfalso; omega
    · refine fin2 h2_ (by omega) (relA (A := M) (rel_s hR_) (fun a ha => by rw [← hN_])) ((rfl).trans hF5_)
    · exfalso; omega
    · exfalso; omega
    · exfalso; omega
    · exfalso; omega
    · exfalso; omega
    · exfalso; omega
    · exfalso; omega
    · exfalso; omega
    · exfalso; omega
  · refine kont _ _ (rfl) (fun Pq2 h2_ => ?_)
    obtain ⟨N, hN_⟩ : ∃ N, N = M := ⟨_, rfl⟩
    rw [← hN_]
    have hNM_ : ∀ a, 200 ≤ a → N a = M a := fun a ha => by rw [hN_]
    have hR_ : Rel nn M N := relB h0_ hNM_
    have hF5_ : N 200 50 = M 200 50 := congrFun (hNM_ 200 (by decide)) 50
    have e_ := r_eq hR_
    have tc_ := eq_tc e_
    have lc_ := eq_lc e_
    have wc_ := eq_wc e_
    have bc_ := eq_bc e_
    have tb_ := eq_tb e_
    have sc_ := eq_sc e_
    have ec_ := eq_ec e_
    have h8_ := eq_h8 e_
    have h9_ := eq_h9 e_
    have h10_ := eq_h10 e_
    have h11_ := eq_h11 e_
    refine y_status wh h_wh (fun hD_ => ?_) (fun hD_ => ?_) (fun hD_ => ?_) (fun hD_ => ?_) (fun hD_ => ?_) (fun hD_ => ?_) (fun hD_ => ?_) (fun hD_ => ?_) (fun hD_ => ?_) (fun hD_ => ?_) (fun hD_ => ?_)
    · exfalso; omega
    · exfalso; omega
    · refine fin2 h2_ (by omega) (relA (A := M) (rel_s hR_) (fun a ha => by rw [← hN_])) ((rfl).trans hF5_)
    · exfalso; omega
    · exfalso; omega
    · exfalso; omega
    · exfalso; omega
    · exfalso; omega
    · exfalso; omega
    · exfalso; omega
    · exfalso; omega
  · refine kont _ _ (rfl) (fun Pq2 h2_ => ?_)
    obtain ⟨N, hN_⟩ : ∃ N, N = M := ⟨_, rfl⟩
    rw [← hN_]
    have hNM_ : ∀ a, 200 ≤ a → N a = M a := fun a ha => by rw [hN_]
    have hR_ : Rel nn M N := relB h0_ hNM_
    have hF5_ : N 200 50 = M 200 50 := congrFun (hNM_ 200 (by decide)) 50
    have e_ := r_eq hR_
    have tc_ := eq_tc e_
    have lc_ := eq_lc e_
    have wc_ := eq_wc e_
    have bc_ := eq_bc e_
    have tb_ := eq_tb e_
    have sc_ := eq_sc e_
    have ec_ := eq_ec e_
    have h8_ := eq_h8 e_
    have h9_ := eq_h9 e_
    have h10_ := eq_h10 e_
    have h11_ := eq_h11 e_
    refine y_status wh h_wh (fun hD_ => ?_) (fun hD_ => ?_) (fun hD_ => ?_) (fun hD_ => ?_) (fun hD_ => ?_) (fun hD_ => ?_) (fun hD_ => ?_) (fun hD_ => ?_) (fun hD_ => ?_) (fun hD_ => ?_) (fun hD_ => ?_)
    · exfalso; omega
    · exfalso; omega
    · exfalso; omega
    · refine fin2 h2_ (by omega) (relA (A := M) (rel_s hR_) (fun a ha => by rw [← hN_])) ((rfl).trans hF5_)
    · exfalso; omega
    · exfalso; omega
    · exfalso; omega
    · exfalso; omega
    · exfalso; omega
    · exfalso; omega
    · exfalso; omega
  · refine kont _ _ (rfl) (fun Pq2 h2_ => ?_)
    obtain ⟨N, hN_⟩ : ∃ N, N = M := ⟨_, rfl⟩
    rw [← hN_]
    have hNM_ : ∀ a, 200 ≤ a → N a = M a := fun a ha => by rw [hN_]
    have hR_ : Rel nn M N := relB h0_ hNM_
    have hF5_ : N 200 50 = M 200 50 := congrFun (hNM_ 200 (by decide)) 50
    have e_ := r_eq hR_
    have tc_ := eq_tc e_
    have lc_ := eq_lc e_
    have wc_ := eq_wc e_
    have bc_ := eq_bc e_
    have tb_ := eq_tb e_
    have sc_ := eq_sc e_
    have ec_ := eq_ec e_
    have h8_ := eq_h8 e_
    have h9_ := eq_h9 e_
    have h10_ := eq_h10 e_
    have h11_ := eq_h11 e_
    refine y_status wh h_wh (fun hD_ => ?_) (fun hD_ => ?_) (fun hD_ => ?_) (fun hD_ => ?_) (fun hD_ => ?_) (fun hD_ => ?_) (fun hD_ => ?_) (fun hD_ => ?_) (fun hD_ => ?_) (fun hD_ => ?_) (fun hD_ => ?_)
    · exfalso; omega
    · exfalso; omega
    · exfalso; omega
    · exfalso; omega
    · refine fin2 h2_ (by omega) (relA (A := M) (rel_s hR_) (fun a ha => by rw [← hN_])) ((rfl).trans hF5_)
    · exfalso; omega
    · exfalso; omega
    · exfalso; omega
    · exfalso; omega
    · exfalso; omega
    · exfalso; omega
  · refine kont _ _ (rfl) (fun Pq2 h2_ => ?_)
    obtain ⟨N, hN_⟩ : ∃ N, N = M := ⟨_, rfl⟩
    rw [← hN_]
    have hNM_ : ∀ a, 200 ≤ a → N a = M a := fun a ha => by rw [hN_]
    have hR_ : Rel nn M N := relB h0_ hNM_
    have hF5_ : N 200 50 = M 200 50 := congrFun (hNM_ 200 (by decide)) 50
    have e_ := r_eq hR_
    have tc_ := eq_tc e_
    have lc_ := eq_lc e_
    have wc_ := eq_wc e_
    have bc_ := eq_bc e_
    have tb_ := eq_tb e_
    have sc_ := eq_sc e_
    have ec_ := eq_ec e_
    have h8_ := eq_h8 e_
    have h9_ := eq_h9 e_
    have h10_ := eq_h10 e_
    have h11_ := eq_h11 e_
    refine y_status wh h_wh (fun hD_ => ?_) (fun hD_ => ?_) (fun hD_ => ?_) (fun hD_ => ?_) (fun hD_ => ?_) (fun hD_ => ?_) (fun hD_ => ?_) (fun hD_ => ?_) (fun hD_ => ?_) (fun hD_ => ?_) (fun hD_ => ?_)
    · exfalso; omega
    · exfalso; omega
    · exfalso; omega
    · exfalso; omega
    · exfalso; omega
    · refine fin2 h2_ (by omega) (relA (A := M) (rel_s hR_) (fun a ha => by rw [← hN_])) ((rfl).trans hF5_)
    · exfalso; omega
    · exfalso; omega
    · exfalso; omega
    · exfalso; omega
    · exfalso; omega
  · refine kont _ _ (rfl) (fun Pq2 h2_ => ?_)
    obtain ⟨N, hN_⟩ : ∃ N, N = M := ⟨_, rfl⟩
    rw [← hN_]
    have hNM_ : ∀ a, 200 ≤ a → N a = M a := fun a ha => by rw [hN_]
    have hR_ : Rel nn M N := relB h0_ hNM_
    have hF5_ : N 200 50 = M 200 50 := congrFun (hNM_ 200 (by decide)) 50
    have e_ := r_eq hR_
    have tc_ := eq_tc e_
    have lc_ := eq_lc e_
    have wc_ := eq_wc e_
    have bc_ := eq_bc e_
    have tb_ := eq_tb e_
    have sc_ := eq_sc e_
    have ec_ := eq_ec e_
    have h8_ := eq_h8 e_
    have h9_ := eq_h9 e_
    have h10_ := eq_h10 e_
    have h11_ := eq_h11 e_
    refine y_status wh h_wh (fun hD_ => ?_) (fun hD_ => ?_) (fun hD_ => ?_) (fun hD_ => ?_) (fun hD_ => ?_) (fun hD_ => ?_) (fun hD_ => ?_) (fun hD_ => ?_) (fun hD_ => ?_) (fun hD_ => ?_) (fun hD_ => ?_)
    · exfalso; omega
    · exfalso; omega
    · exfalso; omega
    · exfalso; omega
    · exfalso; omega
    · exfalso; omega
    · refine fin2 h2_ (by omega) (relA (A := M) (rel_s hR_) (fun a ha => by rw [← hN_])) ((rfl).trans hF5_)
    · exfalso; omega
    · exfalso; omega
    · exfalso; omega
    · exfalso; omega
  · refine kont _ _ (rfl) (fun Pq2 h2_ => ?_)
    obtain ⟨N, hN_⟩ : ∃ N, N = M := ⟨_, rfl⟩
    rw [← hN_]
    have hNM_ : ∀ a, 200 ≤ a → N a = M a := fun a ha => by rw [hN_]
    have hR_ : Rel nn M N := relB h0_ hNM_
    have hF5_ : N 200 50 = M 200 50 := congrFun (hNM_ 200 (by decide)) 50
    have e_ := r_eq hR_
    have tc_ := eq_tc e_
    have lc_ := eq_lc e_
    have wc_ := eq_wc e_
    have bc_ := eq_bc e_
    have tb_ := eq_tb e_
    have sc_ := eq_sc e_
    have ec_ := eq_ec e_
    have h8_ := eq_h8 e_
    have h9_ := eq_h9 e_
    have h10_ := eq_h10 e_
    have h11_ := eq_h11 e_
    refine y_status wh h_wh (fun hD_ => ?_) (fun hD_ => ?_) (fun hD_ => ?_) (fun hD_ => ?_) (fun hD_ => ?_) (fun hD_ => ?_) (fun hD_ => ?_) (fun hD_ => ?_) (fun hD_ => ?_) (fun hD_ => ?_) (fun hD_ => ?_)
    · exfalso; omega
    · exfalso; omega
    · exfalso; omega
    · exfalso; omega
    · exfalso; omega
    · exfalso; omega
    · exfalso; omega
    · refine fin2 h2_ ((r_tp hR_).2.1) (relA (A := M) (rel_s hR_) (fun a ha => by rw [← hN_])) ((rfl).trans hF5_)
    · exfalso; omega
    · exfalso; omega
    · exfalso; omega
  · refine kont _ _ (rfl) (fun Pq2 h2_ => ?_)
    obtain ⟨N, hN_⟩ : ∃ N, N = M := ⟨_, rfl⟩
    rw [← hN_]
    have hNM_ : ∀ a, 200 ≤ a → N a = M a := fun a ha => by rw [hN_]
    have hR_ : Rel nn M N := relB h0_ hNM_
    have hF5_ : N 200 50 = M 200 50 := congrFun (hNM_ 200 (by decide)) 50
    have e_ := r_eq hR_
    have tc_ := eq_tc e_
    have lc_ := eq_lc e_
    have wc_ := eq_wc e_
    have bc_ := eq_bc e_
    have tb_ := eq_tb e_
    have sc_ := eq_sc e_
    have ec_ := eq_ec e_
    have h8_ := eq_h8 e_
    have h9_ := eq_h9 e_
    have h10_ := eq_h10 e_
    have h11_ := eq_h11 e_
    refine y_status wh h_wh (fun hD_ => ?_) (fun hD_ => ?_) (fun hD_ => ?_) (fun hD_ => ?_) (fun hD_ => ?_) (fun hD_ => ?_) (fun hD_ => ?_) (fun hD_ => ?_) (fun hD_ => ?_) (fun hD_ => ?_) (fun hD_ => ?_)
    · exfalso; omega
    · exfalso; omega
    · exfalso; omega
    · exfalso; omega
    · exfalso; omega
    · exfalso; omega
    · exfalso; omega
    · exfalso; omega
    · refine fin2 h2_ (useX_eq (r_sh hR_) 8 (Nat.le_refl _)) (relA (A := M) (rel_s hR_) (fun a ha => by rw [← hN_])) ((rfl).trans hF5_)
    · exfalso; omega
    · exfalso; omega
  · refine kont _ _ (rfl) (fun Pq2 h2_ => ?_)
    obtain ⟨N, hN_⟩ : ∃ N, N = M := ⟨_, rfl⟩
    rw [← hN_]
    have hNM_ : ∀ a, 200 ≤ a → N a = M a := fun a ha => by rw [hN_]
    have hR_ : Rel nn M N := relB h0_ hNM_
    have hF5_ : N 200 50 = M 200 50 := congrFun (hNM_ 200 (by decide)) 50
    have e_ := r_eq hR_
    have tc_ := eq_tc e_
    have lc_ := eq_lc e_
    have wc_ := eq_wc e_
    have bc_ := eq_bc e_
    have tb_ := eq_tb e_
    have sc_ := eq_sc e_
    have ec_ := eq_ec e_
    have h8_ := eq_h8 e_
    have h9_ := eq_h9 e_
    have h10_ := eq_h10 e_
    have h11_ := eq_h11 e_
    refine y_status wh h_wh (fun hD_ => ?_) (fun hD_ => ?_) (fun hD_ => ?_) (fun hD_ => ?_) (fun hD_ => ?_) (fun hD_ => ?_) (fun hD_ => ?_) (fun hD_ => ?_) (fun hD_ => ?_) (fun hD_ => ?_) (fun hD_ => ?_)
    · exfalso; omega
    · exfalso; omega
    · exfalso; omega
    · exfalso; omega
    · exfalso; omega
    · exfalso; omega
    · exfalso; omega
    · exfalso; omega
    · exfalso; omega
    · refine fin2 h2_ (by have q_ := ((r_rf hR_).1 (wh - 12).toNat (by omega)).2.2; rw [show (wh - 12).toNat + 2 = (wh - 10).toNat by omega] at q_; exact q_) (relA (A := M) (rel_s hR_) (fun a ha => by rw [← hN_])) ((rfl).trans hF5_)
    · exfalso; omega
  · refine kont _ _ (rfl) (fun Pq2 h2_ => ?_)
    obtain ⟨N, hN_⟩ : ∃ N, N = M := ⟨_, rfl⟩
    rw [← hN_]
    have hNM_ : ∀ a, 200 ≤ a → N a = M a := fun a ha => by rw [hN_]
    have hR_ : Rel nn M N := relB h0_ hNM_
    have hF5_ : N 200 50 = M 200 50 := congrFun (hNM_ 200 (by decide)) 50
    have e_ := r_eq hR_
    have tc_ := eq_tc e_
    have lc_ := eq_lc e_
    have wc_ := eq_wc e_
    have bc_ := eq_bc e_
    have tb_ := eq_tb e_
    have sc_ := eq_sc e_
    have ec_ := eq_ec e_
    have h8_ := eq_h8 e_
    have h9_ := eq_h9 e_
    have h10_ := eq_h10 e_
    have h11_ := eq_h11 e_
    refine y_status wh h_wh (fun hD_ => ?_) (fun hD_ => ?_) (fun hD_ => ?_) (fun hD_ => ?_) (fun hD_ => ?_) (fun hD_ => ?_) (fun hD_ => ?_) (fun hD_ => ?_) (fun hD_ => ?_) (fun hD_ => ?_) (fun hD_ => ?_)
    · exfalso; omega
    · exfalso; omega
    · exfalso; omega
    · exfalso; omega
    · exfalso; omega
    · exfalso; omega
    · exfalso; omega
    · exfalso; omega
    · exfalso; omega
    · exfalso; omega
    · refine fin2 h2_ (rfl) (relA (A := M) (rel_s hR_) (fun a ha => by rw [← hN_])) ((rfl).trans hF5_)
set_option maxHeartbeats 1000000 in
theorem p_day {l : Launch} {M : Mem} {Pq : Option gV → Mem → Prop} {nn : Nat} (h0_ : Rel nn M M) (hn_ : nn ≤ 512) (wh : Int) (h_wh : inI wh) (kont : ∀ (r : Int) (M1 : Mem), M1 200 50 = M 200 50 → (∀ Pq2 : Option gV → Mem → Prop, (∀ M2, Rel (nn + 1) M2 M2 → M2 200 50 = M 200 50 → Pq2 (some (gI r)) M2) → gCtr l my_X12_day mb_X12_day 2 ((some .int)) 2 [gR 200, gI wh] M1 Pq2) → Pq (some (gI r)) M1) : gCtr l my_X11_day mb_X11_day 2 ((some .int)) 3 [gR 0, gI wh] M Pq := by
  have hn6_ : nn ≤ 600 := by omega
  refine x_day wh h_wh (hrf_ h0_ hn6_) (hc_ h0_) (fun hC_ => ?_) (fun hC_ => ?_) (fun hC_ => ?_) (fun hC_ => ?_) (fun hC_ => ?_)
  · refine kont _ _ (by exact congrFun ((fr_up (by omega) fr_0) 200 (by decide)) 50) (fun Pq2 h2_ => ?_)
    obtain ⟨N, hN_⟩ : ∃ N, N = rf M 0 := ⟨_, rfl⟩
    rw [← hN_]
    have hNM_ : ∀ a, 200 ≤ a → N a = M a := fun a ha => by rw [hN_]; exact (fr_up (by omega) fr_0) a ha
    have hR_ : Rel nn M N := relB h0_ hNM_
    have hF5_ : N 200 50 = M 200 50 := congrFun (hNM_ 200 (by decide)) 50
    have e_ := r_eq hR_
    have tc_ := eq_tc e_
    have lc_ := eq_lc e_
    have wc_ := eq_wc e_
    have bc_ := eq_bc e_
    have tb_ := eq_tb e_
    have sc_ := eq_sc e_
    have ec_ := eq_ec e_
    have h8_ := eq_h8 e_
    have h9_ := eq_h9 e_
    have h10_ := eq_h10 e_
    have h11_ := eq_h11 e_
    have hc6_ := hc_ hR_
    have cs_ := cnt_sol (b := M 11) (M 6 6).toNat (fun j hj => ((hth_ hR_) j (by omega)).2.2.2.2.1.1)
    refine y_day wh h_wh (hrg_ hR_ hn6_) (hmc_ hR_) (fun hD_ => ?_) (fun hD_ => ?_) (fun hD_ => ?_) (fun hD_ => ?_)
    · refine fin2 h2_ (rfl) (relA (A := rf M 0) (rel_no hR_ 0 (by decide)) (fun a ha => by rw [← hN_]; exact (gr_up (by omega) fr_0) a ha)) (((fw_up (Or.inl (by decide)) rfl)).trans hF5_)
    · exfalso; omega
    · exfalso; omega
    · exfalso; omega
  · refine kont _ _ (rfl) (fun Pq2 h2_ => ?_)
    obtain ⟨N, hN_⟩ : ∃ N, N = M := ⟨_, rfl⟩
    rw [← hN_]
    have hNM_ : ∀ a, 200 ≤ a → N a = M a := fun a ha => by rw [hN_]
    have hR_ : Rel nn M N := relB h0_ hNM_
    have hF5_ : N 200 50 = M 200 50 := congrFun (hNM_ 200 (by decide)) 50
    have e_ := r_eq hR_
    have tc_ := eq_tc e_
    have lc_ := eq_lc e_
    have wc_ := eq_wc e_
    have bc_ := eq_bc e_
    have tb_ := eq_tb e_
    have sc_ := eq_sc e_
    have ec_ := eq_ec e_
    have h8_ := eq_h8 e_
    have h9_ := eq_h9 e_
    have h10_ := eq_h10 e_
    have h11_ := eq_h11 e_
    have hc6_ := hc_ hR_
    have cs_ := cnt_sol (b := M 11) (M 6 6).toNat (fun j hj => ((hth_ hR_) j (by omega)).2.2.2.2.1.1)
    refine y_day wh h_wh (hrg_ hR_ hn6_) (hmc_ hR_) (fun hD_ => ?_) (fun hD_ => ?_) (fun hD_ => ?_) (fun hD_ => ?_)
    · exfalso; omega
    · refine fin2 h2_ (by rw [show (2 + wh).toNat = 2 by omega]; omega) (relA (A := M) (rel_s hR_) (fun a ha => by rw [← hN_])) ((rfl).trans hF5_)
    · exfalso; omega
    · exfalso; omega
  · refine kont _ _ (rfl) (fun Pq2 h2_ => ?_)
    obtain ⟨N, hN_⟩ : ∃ N, N = M := ⟨_, rfl⟩
    rw [← hN_]
    have hNM_ : ∀ a, 200 ≤ a → N a = M a := fun a ha => by rw [hN_]
    have hR_ : Rel nn M N := relB h0_ hNM_
    have hF5_ : N 200 50 = M 200 50 := congrFun (hNM_ 200 (by decide)) 50
    have e_ := r_eq hR_
    have tc_ := eq_tc e_
    have lc_ := eq_lc e_
    have wc_ := eq_wc e_
    have bc_ := eq_bc e_
    have tb_ := eq_tb e_
    have sc_ := eq_sc e_
    have ec_ := eq_ec e_
    have h8_ := eq_h8 e_
    have h9_ := eq_h9 e_
    have h10_ := eq_h10 e_
    have h11_ := eq_h11 e_
    have hc6_ := hc_ hR_
    have cs_ := cnt_sol (b := M 11) (M 6 6).toNat (fun j hj => ((hth_ hR_) j (by omega)).2.2.2.2.1.1)
    refine y_day wh h_wh (hrg_ hR_ hn6_) (hmc_ hR_) (fun hD_ => ?_) (fun hD_ => ?_) (fun hD_ => ?_) (fun hD_ => ?_)
    · exfalso; omega
    · refine fin2 h2_ (by rw [show (2 + wh).toNat = 3 by omega]; omega) (relA (A := M) (rel_s hR_) (fun a ha => by rw [← hN_])) ((rfl).trans hF5_)
    · exfalso; omega
    · exfalso; omega
  · refine kont _ _ (rfl) (fun Pq2 h2_ => ?_)
    obtain ⟨N, hN_⟩ : ∃ N, N = M := ⟨_, rfl⟩
    rw [← hN_]
    have hNM_ : ∀ a, 200 ≤ a → N a = M a := fun a ha => by rw [hN_]
    have hR_ : Rel nn M N := relB h0_ hNM_
    have hF5_ : N 200 50 = M 200 50 := congrFun (hNM_ 200 (by decide)) 50
    have e_ := r_eq hR_
    have tc_ := eq_tc e_
    have lc_ := eq_lc e_
    have wc_ := eq_wc e_
    have bc_ := eq_bc e_
    have tb_ := eq_tb e_
    have sc_ := eq_sc e_
    have ec_ := eq_ec e_
    have h8_ := eq_h8 e_
    have h9_ := eq_h9 e_
    have h10_ := eq_h10 e_
    have h11_ := eq_h11 e_
    have hc6_ := hc_ hR_
    have cs_ := cnt_sol (b := M 11) (M 6 6).toNat (fun j hj => ((hth_ hR_) j (by omega)).2.2.2.2.1.1)
    refine y_day wh h_wh (hrg_ hR_ hn6_) (hmc_ hR_) (fun hD_ => ?_) (fun hD_ => ?_) (fun hD_ => ?_) (fun hD_ => ?_)
    · exfalso; omega
    · exfalso; omega
    · refine fin2 h2_ (by rw [tc_, eq_e11 e_]; omega) (relA (A := M) (rel_s hR_) (fun a ha => by rw [← hN_])) ((rfl).trans hF5_)
    · exfalso; omega
  · refine kont _ _ (rfl) (fun Pq2 h2_ => ?_)
    obtain ⟨N, hN_⟩ : ∃ N, N = M := ⟨_, rfl⟩
    rw [← hN_]
    have hNM_ : ∀ a, 200 ≤ a → N a = M a := fun a ha => by rw [hN_]
    have hR_ : Rel nn M N := relB h0_ hNM_
    have hF5_ : N 200 50 = M 200 50 := congrFun (hNM_ 200 (by decide)) 50
    have e_ := r_eq hR_
    have tc_ := eq_tc e_
    have lc_ := eq_lc e_
    have wc_ := eq_wc e_
    have bc_ := eq_bc e_
    have tb_ := eq_tb e_
    have sc_ := eq_sc e_
    have ec_ := eq_ec e_
    have h8_ := eq_h8 e_
    have h9_ := eq_h9 e_
    have h10_ := eq_h10 e_
    have h11_ := eq_h11 e_
    have hc6_ := hc_ hR_
    have cs_ := cnt_sol (b := M 11) (M 6 6).toNat (fun j hj => ((hth_ hR_) j (by omega)).2.2.2.2.1.1)
    refine y_day wh h_wh (hrg_ hR_ hn6_) (hmc_ hR_) (fun hD_ => ?_) (fun hD_ => ?_) (fun hD_ => ?_) (fun hD_ => ?_)
    · exfalso; omega
    · exfalso; omega
    · exfalso; omega
    · refine fin2 h2_ (by rw [tc_, eq_e11 e_]; omega) (relA (A := M) (rel_s hR_) (fun a ha => by rw [← hN_])) ((rfl).trans hF5_)
set_option maxHeartbeats 1000000 in
theorem p_rest {l : Launch} {M : Mem} {Pq : Option gV → Mem → Prop} {nn : Nat} (h0_ : Rel nn M M) (hn_ : nn ≤ 512) (kd : Int) (h_kd : inI kd) (kont : ∀ (r : Int) (M1 : Mem), M1 200 50 = M 200 50 → (∀ Pq2 : Option gV → Mem → Prop, (∀ M2, Rel (nn + 1) M2 M2 → M2 200 50 = M 200 50 → Pq2 (some (gI r)) M2) → gCtr l my_X12_rest mb_X12_rest 4 ((some .int)) 4 [gR 200, gI kd] M1 Pq2) → Pq (some (gI r)) M1) : gCtr l my_X11_rest mb_X11_rest 2 ((some .int)) 5 [gR 0, gI kd] M Pq := by
  have hn6_ : nn ≤ 600 := by omega
  refine x_rest kd h_kd (hrf_ h0_ hn6_) (hc_ h0_) (hth_ h0_) (fun hC_ => ?_) (fun hC_ => ?_) (fun hC_ => ?_)
  · refine kont _ _ (by exact congrFun ((fr_up (by omega) fr_0) 200 (by decide)) 50) (fun Pq2 h2_ => ?_)
    obtain ⟨N, hN_⟩ : ∃ N, N = rf M 0 := ⟨_, rfl⟩
    rw [← hN_]
    have hNM_ : ∀ a, 200 ≤ a → N a = M a := fun a ha => by rw [hN_]; exact (fr_up (by omega) fr_0) a ha
    have hR_ : Rel nn M N := relB h0_ hNM_
    have hF5_ : N 200 50 = M 200 50 := congrFun (hNM_ 200 (by decide)) 50
    have e_ := r_eq hR_
    have tc_ := eq_tc e_
    have lc_ := eq_lc e_
    have wc_ := eq_wc e_
    have bc_ := eq_bc e_
    have tb_ := eq_tb e_
    have sc_ := eq_sc e_
    have ec_ := eq_ec e_
    have h8_ := eq_h8 e_
    have h9_ := eq_h9 e_
    have h10_ := eq_h10 e_
    have h11_ := eq_h11 e_
    have hc6_ := hc_ hR_
    refine y_rest kd h_kd (hrg_ hR_ hn6_) (hmc_ hR_) (hthm_ hR_) (fun hD_ => ?_) (fun hD_ => ?_)
    · refine fin2 h2_ (rfl) (relA (A := rf M 0) (rel_no hR_ 0 (by decide)) (fun a ha => by rw [← hN_]; exact (gr_up (by omega) fr_0) a ha)) (((fw_up (Or.inl (by decide)) rfl)).trans hF5_)
    · exfalso; omega
  · refine kont _ _ (rfl) (fun Pq2 h2_ => ?_)
    obtain ⟨N, hN_⟩ : ∃ N, N = M := ⟨_, rfl⟩
    rw [← hN_]
    have hNM_ : ∀ a, 200 ≤ a → N a = M a := fun a ha => by rw [hN_]
    have hR_ : Rel nn M N := relB h0_ hNM_
    have hF5_ : N 200 50 = M 200 50 := congrFun (hNM_ 200 (by decide)) 50
    have e_ := r_eq hR_
    have tc_ := eq_tc e_
    have lc_ := eq_lc e_
    have wc_ := eq_wc e_
    have bc_ := eq_bc e_
    have tb_ := eq_tb e_
    have sc_ := eq_sc e_
    have ec_ := eq_ec e_
    have h8_ := eq_h8 e_
    have h9_ := eq_h9 e_
    have h10_ := eq_h10 e_
    have h11_ := eq_h11 e_
    have hc6_ := hc_ hR_
    refine y_rest kd h_kd (hrg_ hR_ hn6_) (hmc_ hR_) (hthm_ hR_) (fun hD_ => ?_) (fun hD_ => ?_)
    · exfalso; omega
    · refine fin2 h2_ (by rw [tc_, eq_e7 e_, eq_e8 e_, eq_e9 e_, eq_e11 e_, hC_]; exact sum_a _ (fun j hj => ⟨((hth_ hR_) j (by omega)).1, ((hth_ hR_) j (by omega)).2.2.2.2.1.1⟩)) (relA (A := M) (rel_s hR_) (fun a ha => by rw [← hN_])) ((rfl).trans hF5_)
  · refine kont _ _ (rfl) (fun Pq2 h2_ => ?_)
    obtain ⟨N, hN_⟩ : ∃ N, N = M := ⟨_, rfl⟩
    rw [← hN_]
    have hNM_ : ∀ a, 200 ≤ a → N a = M a := fun a ha => by rw [hN_]
    have hR_ : Rel nn M N := relB h0_ hNM_
    have hF5_ : N 200 50 = M 200 50 := congrFun (hNM_ 200 (by decide)) 50
    have e_ := r_eq hR_
    have tc_ := eq_tc e_
    have lc_ := eq_lc e_
    have wc_ := eq_wc e_
    have bc_ := eq_bc e_
    have tb_ := eq_tb e_
    have sc_ := eq_sc e_
    have ec_ := eq_ec e_
    have h8_ := eq_h8 e_
    have h9_ := eq_h9 e_
    have h10_ := eq_h10 e_
    have h11_ := eq_h11 e_
    have hc6_ := hc_ hR_
    refine y_rest kd h_kd (hrg_ hR_ hn6_) (hmc_ hR_) (hthm_ hR_) (fun hD_ => ?_) (fun hD_ => ?_)
    · exfalso; omega
    · refine fin2 h2_ (by rw [tc_, eq_e7 e_, eq_e8 e_, eq_e9 e_, eq_e11 e_]; exact sum_k hC_ _ (fun j hj => ⟨((hth_ hR_) j (by omega)).1, ((hth_ hR_) j (by omega)).2.2.2.2.1.1⟩)) (relA (A := M) (rel_s hR_) (fun a ha => by rw [← hN_])) ((rfl).trans hF5_)
set_option maxHeartbeats 1000000 in
theorem p_thinks {l : Launch} {M : Mem} {Pq : Option gV → Mem → Prop} {nn : Nat} (h0_ : Rel nn M M) (hn_ : nn ≤ 512) (la : Int) (t : Int) (lo : Int) (h_la : inI la) (h_t : inI t) (h_lo : inI lo) (kont : ∀ (r : Int) (M1 : Mem), M1 200 50 = M 200 50 → (∀ Pq2 : Option gV → Mem → Prop, (∀ M2, Rel (nn + 1) M2 M2 → M2 200 50 = M 200 50 → Pq2 (some (gI r)) M2) → gCtr l my_X12_thinks mb_X12_thinks 4 ((some .int)) 6 [gR 200, gI la, gI t, gI lo] M1 Pq2) → Pq (some (gI r)) M1) : gCtr l my_X11_thinks mb_X11_thinks 4 ((some .int)) 6 [gR 0, gI la, gI t, gI lo] M Pq := by
  have hn6_ : nn ≤ 600 := by omega
  refine x_thinks la t lo h_la h_t h_lo (hrf_ h0_ hn6_) (hc_ h0_) (hlc_ h0_) (hth_ h0_) (hwc_ h0_) (hla_ h0_) (hlw_ h0_) (fun hC_ => ?_) (fun hC_ => ?_) (fun hC_ => ?_)
  · refine kont _ _ (by exact congrFun ((fr_up (by omega) fr_0) 200 (by decide)) 50) (fun Pq2 h2_ => ?_)
    obtain ⟨N, hN_⟩ : ∃ N, N = rf M 0 := ⟨_, rfl⟩
    rw [← hN_]
    have hNM_ : ∀ a, 200 ≤ a → N a = M a := fun a ha => by rw [hN_]; exact (fr_up (by omega) fr_0) a ha
    have hR_ : Rel nn M N := relB h0_ hNM_
    have hF5_ : N 200 50 = M 200 50 := congrFun (hNM_ 200 (by decide)) 50
    have e_ := r_eq hR_
    have tc_ := eq_tc e_
    have lc_ := eq_lc e_
    have wc_ := eq_wc e_
    have bc_ := eq_bc e_
    have tb_ := eq_tb e_
    have sc_ := eq_sc e_
    have ec_ := eq_ec e_
    have h8_ := eq_h8 e_
    have h9_ := eq_h9 e_
    have h10_ := eq_h10 e_
    have h11_ := eq_h11 e_
    refine y_thinks la t lo h_la h_t h_lo (hrg_ hR_ hn6_) (hmc_ hR_) (hmlc_ hR_) (hmwc_ hR_) (hthm_ hR_) (hlam_ hR_) (hlwm_ hR_) (fun hD_ => ?_) (fun hD_ => ?_) (fun hD_ => ?_)
    · refine fin2 h2_ (rfl) (relA (A := rf M 0) (rel_no hR_ 0 (by decide)) (fun a ha => by rw [← hN_]; exact (gr_up (by omega) fr_0) a ha)) (((fw_up (Or.inl (by decide)) rfl)).trans hF5_)
    · exfalso; omega
    · exfalso; omega
  · refine kont _ _ (rfl) (fun Pq2 h2_ => ?_)
    obtain ⟨N, hN_⟩ : ∃ N, N = M := ⟨_, rfl⟩
    rw [← hN_]
    have hNM_ : ∀ a, 200 ≤ a → N a = M a := fun a ha => by rw [hN_]
    have hR_ : Rel nn M N := relB h0_ hNM_
    have hF5_ : N 200 50 = M 200 50 := congrFun (hNM_ 200 (by decide)) 50
    have e_ := r_eq hR_
    have tc_ := eq_tc e_
    have lc_ := eq_lc e_
    have wc_ := eq_wc e_
    have bc_ := eq_bc e_
    have tb_ := eq_tb e_
    have sc_ := eq_sc e_
    have ec_ := eq_ec e_
    have h8_ := eq_h8 e_
    have h9_ := eq_h9 e_
    have h10_ := eq_h10 e_
    have h11_ := eq_h11 e_
    refine y_thinks la t lo h_la h_t h_lo (hrg_ hR_ hn6_) (hmc_ hR_) (hmlc_ hR_) (hmwc_ hR_) (hthm_ hR_) (hlam_ hR_) (hlwm_ hR_) (fun hD_ => ?_) (fun hD_ => ?_) (fun hD_ => ?_)
    · exfalso; omega
    · refine fin2 h2_ (by rw [eq_e7 e_, eq_e8 e_, eq_e9 e_, eq_e15 e_, eq_e16 e_, eq_e17 e_, wc_, prc_eq (eq_lw e_)]) (relA (A := M) (rel_s hR_) (fun a ha => by rw [← hN_])) ((rfl).trans hF5_)
    · exfalso; omega
  · refine kont _ _ (rfl) (fun Pq2 h2_ => ?_)
    obtain ⟨N, hN_⟩ : ∃ N, N = M := ⟨_, rfl⟩
    rw [← hN_]
    have hNM_ : ∀ a, 200 ≤ a → N a = M a := fun a ha => by rw [hN_]
    have hR_ : Rel nn M N := relB h0_ hNM_
    have hF5_ : N 200 50 = M 200 50 := congrFun (hNM_ 200 (by decide)) 50
    have e_ := r_eq hR_
    have tc_ := eq_tc e_
    have lc_ := eq_lc e_
    have wc_ := eq_wc e_
    have bc_ := eq_bc e_
    have tb_ := eq_tb e_
    have sc_ := eq_sc e_
    have ec_ := eq_ec e_
    have h8_ := eq_h8 e_
    have h9_ := eq_h9 e_
    have h10_ := eq_h10 e_
    have h11_ := eq_h11 e_
    refine y_thinks la t lo h_la h_t h_lo (hrg_ hR_ hn6_) (hmc_ hR_) (hmlc_ hR_) (hmwc_ hR_) (hthm_ hR_) (hlam_ hR_) (hlwm_ hR_) (fun hD_ => ?_) (fun hD_ => ?_) (fun hD_ => ?_)
    · exfalso; omega
    · exfalso; omega
    · refine fin2 h2_ (by rw [eq_e7 e_, eq_e8 e_, eq_e9 e_, eq_e15 e_, eq_e16 e_, eq_e17 e_, wc_, prc_eq (eq_lw e_)]) (relA (A := M) (rel_s hR_) (fun a ha => by rw [← hN_])) ((rfl).trans hF5_)
set_option maxHeartbeats 1000000 in
theorem p_loses {l : Launch} {M : Mem} {Pq : Option gV → Mem → Prop} {nn : Nat} (h0_ : Rel nn M M) (hn_ : nn ≤ 512) (la : Int) (ks : Int) (h_la : inI la) (h_ks : inI ks) (kont : ∀ (r : Int) (M1 : Mem), M1 200 50 = M 200 50 → (∀ Pq2 : Option gV → Mem → Prop, (∀ M2, Rel (nn + 1) M2 M2 → M2 200 50 = M 200 50 → Pq2 (some (gI r)) M2) → gCtr l my_X12_loses mb_X12_loses 3 ((some .int)) 7 [gR 200, gI la, gI ks] M1 Pq2) → Pq (some (gI r)) M1) : gCtr l my_X11_loses mb_X11_loses 3 ((some .int)) 7 [gR 0, gI la, gI ks] M Pq := by
  have hn6_ : nn ≤ 600 := by omega
  refine x_loses la ks h_la h_ks (hrf_ h0_ hn6_) (hc_ h0_) (hlc_ h0_) (hth_ h0_) (hwc_ h0_) (hla_ h0_) (hlw_ h0_) (fun hC_ => ?_) (fun hC_ => ?_)
  · refine kont _ _ (by exact congrFun ((fr_up (by omega) fr_0) 200 (by decide)) 50) (fun Pq2 h2_ => ?_)
    obtain ⟨N, hN_⟩ : ∃ N, N = rf M 0 := ⟨_, rfl⟩
    rw [← hN_]
    have hNM_ : ∀ a, 200 ≤ a → N a = M a := fun a ha => by rw [hN_]; exact (fr_up (by omega) fr_0) a ha
    have hR_ : Rel nn M N := relB h0_ hNM_
    have hF5_ : N 200 50 = M 200 50 := congrFun (hNM_ 200 (by decide)) 50
    have e_ := r_eq hR_
    have tc_ := eq_tc e_
    have lc_ := eq_lc e_
    have wc_ := eq_wc e_
    have bc_ := eq_bc e_
    have tb_ := eq_tb e_
    have sc_ := eq_sc e_
    have ec_ := eq_ec e_
    have h8_ := eq_h8 e_
    have h9_ := eq_h9 e_
    have h10_ := eq_h10 e_
    have h11_ := eq_h11 e_
    refine y_loses la ks h_la h_ks (hrg_ hR_ hn6_) (hmc_ hR_) (hmlc_ hR_) (hmwc_ hR_) (hthm_ hR_) (hlam_ hR_) (hlwm_ hR_) (fun hD_ => ?_) (fun hD_ => ?_)
    · refine fin2 h2_ (rfl) (relA (A := rf M 0) (rel_no hR_ 0 (by decide)) (fun a ha => by rw [← hN_]; exact (gr_up (by omega) fr_0) a ha)) (((fw_up (Or.inl (by decide)) rfl)).trans hF5_)
    · exfalso; omega
  · refine kont _ _ (rfl) (fun Pq2 h2_ => ?_)
    obtain ⟨N, hN_⟩ : ∃ N, N = M := ⟨_, rfl⟩
    rw [← hN_]
    have hNM_ : ∀ a, 200 ≤ a → N a = M a := fun a ha => by rw [hN_]
    have hR_ : Rel nn M N := relB h0_ hNM_
    have hF5_ : N 200 50 = M 200 50 := congrFun (hNM_ 200 (by decide)) 50
    have e_ := r_eq hR_
    have tc_ := eq_tc e_
    have lc_ := eq_lc e_
    have wc_ := eq_wc e_
    have bc_ := eq_bc e_
    have tb_ := eq_tb e_
    have sc_ := eq_sc e_
    have ec_ := eq_ec e_
    have h8_ := eq_h8 e_
    have h9_ := eq_h9 e_
    have h10_ := eq_h10 e_
    have h11_ := eq_h11 e_
    refine y_loses la ks h_la h_ks (hrg_ hR_ hn6_) (hmc_ hR_) (hmlc_ hR_) (hmwc_ hR_) (hthm_ hR_) (hlam_ hR_) (hlwm_ hR_) (fun hD_ => ?_) (fun hD_ => ?_)
    · exfalso; omega
    · refine fin2 h2_ (by rw [eq_e7 e_, eq_e8 e_, eq_e9 e_, eq_e15 e_, eq_e16 e_, eq_e17 e_, wc_, tc_]; exact losK_eq (eq_lw e_) _) (relA (A := M) (rel_s hR_) (fun a ha => by rw [← hN_])) ((rfl).trans hF5_)
set_option maxHeartbeats 1000000 in
theorem p_price {l : Launch} {M : Mem} {Pq : Option gV → Mem → Prop} {nn : Nat} (h0_ : Rel nn M M) (hn_ : nn ≤ 512) (la : Int) (ks : Int) (h_la : inI la) (h_ks : inI ks) (kont : ∀ (r : Int) (M1 : Mem), M1 200 50 = M 200 50 → (∀ Pq2 : Option gV → Mem → Prop, (∀ M2, Rel (nn + 1) M2 M2 → M2 200 50 = M 200 50 → Pq2 (some (gI r)) M2) → gCtr l my_X12_price mb_X12_price 5 ((some .int)) 5 [gR 200, gI la, gI ks] M1 Pq2) → Pq (some (gI r)) M1) : gCtr l my_X11_price mb_X11_price 3 ((some .int)) 7 [gR 0, gI la, gI ks] M Pq := by
  have hn6_ : nn ≤ 600 := by omega
  refine x_price la ks h_la h_ks (hrf_ h0_ hn6_) (hc_ h0_) (hlc_ h0_) (hth_ h0_) (hwc_ h0_) (hla_ h0_) (hlw_ h0_) (fun hC_ => ?_) (fun hC_ => ?_)
  · refine kont _ _ (by exact congrFun ((fr_up (by omega) fr_0) 200 (by decide)) 50) (fun Pq2 h2_ => ?_)
    obtain ⟨N, hN_⟩ : ∃ N, N = rf M 0 := ⟨_, rfl⟩
    rw [← hN_]
    have hNM_ : ∀ a, 200 ≤ a → N a = M a := fun a ha => by rw [hN_]; exact (fr_up (by omega) fr_0) a ha
    have hR_ : Rel nn M N := relB h0_ hNM_
    have hF5_ : N 200 50 = M 200 50 := congrFun (hNM_ 200 (by decide)) 50
    have e_ := r_eq hR_
    have tc_ := eq_tc e_
    have lc_ := eq_lc e_
    have wc_ := eq_wc e_
    have bc_ := eq_bc e_
    have tb_ := eq_tb e_
    have sc_ := eq_sc e_
    have ec_ := eq_ec e_
    have h8_ := eq_h8 e_
    have h9_ := eq_h9 e_
    have h10_ := eq_h10 e_
    have h11_ := eq_h11 e_
    have hl5_ := hlc_ hR_
    refine y_price la ks h_la h_ks (hrg_ hR_ hn6_) (hmc_ hR_) (hmlc_ hR_) (hmwc_ hR_) (hthm_ hR_) (hlam_ hR_) (hlwm_ hR_) (fun hD_ => ?_) (fun hD_ => ?_)
    · refine fin2 h2_ (rfl) (relA (A := rf M 0) (rel_no hR_ 0 (by decide)) (fun a ha => by rw [← hN_]; exact (gr_up (by omega) fr_0) a ha)) (((fw_up (Or.inl (by decide)) rfl)).trans hF5_)
    · exfalso; omega
  · refine kont _ _ (by exact congrFun ((fr_sr (by omega) fr_0) 200 (by decide)) 50) (fun Pq2 h2_ => ?_)
    obtain ⟨N, hN_⟩ : ∃ N, N = sr M 10 (prR (M 7) (M 8) (M 9) (M 10) (M 15 la.toNat) (M 16 la.toNat) (M 17 la.toNat) (M 19) (M 18 2) ks (M 6 6).toNat) := ⟨_, rfl⟩
    rw [← hN_]
    have hNM_ : ∀ a, 200 ≤ a → N a = M a := fun a ha => by rw [hN_]; exact (fr_sr (by omega) fr_0) a ha
    have hR_ : Rel nn M N := relB h0_ hNM_
    have hF5_ : N 200 50 = M 200 50 := congrFun (hNM_ 200 (by decide)) 50
    have e_ := r_eq hR_
    have tc_ := eq_tc e_
    have lc_ := eq_lc e_
    have wc_ := eq_wc e_
    have bc_ := eq_bc e_
    have tb_ := eq_tb e_
    have sc_ := eq_sc e_
    have ec_ := eq_ec e_
    have h8_ := eq_h8 e_
    have h9_ := eq_h9 e_
    have h10_ := eq_h10 e_
    have h11_ := eq_h11 e_
    have hl5_ := hlc_ hR_
    refine y_price la ks h_la h_ks (hrg_ hR_ hn6_) (hmc_ hR_) (hmlc_ hR_) (hmwc_ hR_) (hthm_ hR_) (hlam_ hR_) (hlwm_ hR_) (fun hD_ => ?_) (fun hD_ => ?_)
    · exfalso; omega
    · refine fin2 h2_ (by rw [eq_e7 e_, eq_e10 e_, tc_]) (relA (A := sr M 10 (prR (M 7) (M 8) (M 9) (M 10) (M 15 la.toNat) (M 16 la.toNat) (M 17 la.toNat) (M 19) (M 18 2) ks (M 6 6).toNat)) (by rw [eq_e7 e_, eq_e8 e_, eq_e9 e_, eq_e15 e_, eq_e16 e_, eq_e17 e_, wc_, eq_e10 e_, tc_, prR_eq (eq_lw e_)]; exact rel_price (rel_s hR_) _ (prR_in (hlw_ hR_) ((hla_ hR_) la.toNat (by omega)).2 (fun j hj => ((hth_ hR_) j hj).2.1) (fun j hj => ((hth_ hR_) j hj).2.2.2.1))) (fun a ha => by rw [← hN_]; exact (gr_sr (by omega) fr_0) a ha)) (((fw_sr (by decide) rfl)).trans hF5_)
set_option maxHeartbeats 1000000 in
theorem p_looks {l : Launch} {M : Mem} {Pq : Option gV → Mem → Prop} {nn : Nat} (h0_ : Rel nn M M) (hn_ : nn ≤ 512) (pe : Int) (ta : Int) (h_pe : inI pe) (h_ta : inI ta) (kont : ∀ (r : Int) (M1 : Mem), M1 200 50 = M 200 50 → (∀ Pq2 : Option gV → Mem → Prop, (∀ M2, Rel (nn + 1) M2 M2 → M2 200 50 = M 200 50 → Pq2 (some (gI r)) M2) → gCtr l my_X12_looks mb_X12_looks 4 ((some .int)) 2 [gR 200, gI pe, gI ta] M1 Pq2) → Pq (some (gI r)) M1) : gCtr l my_X11_looks mb_X11_looks 4 ((some .int)) 3 [gR 0, gI pe, gI ta] M Pq := by
  have hn6_ : nn ≤ 600 := by omega
  refine x_looks pe ta h_pe h_ta (hrf_ h0_ hn6_) (fun hC_ => ?_) (fun hC_ => ?_)
  · refine kont _ _ (by exact congrFun ((fr_up (by omega) fr_0) 200 (by decide)) 50) (fun Pq2 h2_ => ?_)
    obtain ⟨N, hN_⟩ : ∃ N, N = rf M 0 := ⟨_, rfl⟩
    rw [← hN_]
    have hNM_ : ∀ a, 200 ≤ a → N a = M a := fun a ha => by rw [hN_]; exact (fr_up (by omega) fr_0) a ha
    have hR_ : Rel nn M N := relB h0_ hNM_
    have hF5_ : N 200 50 = M 200 50 := congrFun (hNM_ 200 (by decide)) 50
    have e_ := r_eq hR_
    have tc_ := eq_tc e_
    have lc_ := eq_lc e_
    have wc_ := eq_wc e_
    have bc_ := eq_bc e_
    have tb_ := eq_tb e_
    have sc_ := eq_sc e_
    have ec_ := eq_ec e_
    have h8_ := eq_h8 e_
    have h9_ := eq_h9 e_
    have h10_ := eq_h10 e_
    have h11_ := eq_h11 e_
    refine y_looks pe ta h_pe h_ta (hrg_ hR_ hn6_) (fun hD_ => ?_) (fun hD_ => ?_)
    · refine fin2 h2_ (rfl) (relA (A := rf M 0) (rel_no hR_ 0 (by decide)) (fun a ha => by rw [← hN_]; exact (gr_up (by omega) fr_0) a ha)) (((fw_up (Or.inl (by decide)) rfl)).trans hF5_)
    · exfalso; omega
  · refine kont _ _ (by exact congrFun ((fr_up (by omega) fr_0) 200 (by decide)) 50) (fun Pq2 h2_ => ?_)
    obtain ⟨N, hN_⟩ : ∃ N, N = up M 38 pe.toNat ta := ⟨_, rfl⟩
    rw [← hN_]
    have hNM_ : ∀ a, 200 ≤ a → N a = M a := fun a ha => by rw [hN_]; exact (fr_up (by omega) fr_0) a ha
    have hR_ : Rel nn M N := relB h0_ hNM_
    have hF5_ : N 200 50 = M 200 50 := congrFun (hNM_ 200 (by decide)) 50
    have e_ := r_eq hR_
    have tc_ := eq_tc e_
    have lc_ := eq_lc e_
    have wc_ := eq_wc e_
    have bc_ := eq_bc e_
    have tb_ := eq_tb e_
    have sc_ := eq_sc e_
    have ec_ := eq_ec e_
    have h8_ := eq_h8 e_
    have h9_ := eq_h9 e_
    have h10_ := eq_h10 e_
    have h11_ := eq_h11 e_
    refine y_looks pe ta h_pe h_ta (hrg_ hR_ hn6_) (fun hD_ => ?_) (fun hD_ => ?_)
    · exfalso; omega
    · refine fin2 h2_ (by rw [eq_e38 e_]) (relA (A := up M 38 pe.toNat ta) (rel_looks (rel_s hR_) pe ta) (fun a ha => by rw [← hN_]; exact (gr_up (by omega) fr_0) a ha)) (((fw_up (Or.inl (by decide)) rfl)).trans hF5_)
set_option maxHeartbeats 1000000 in
theorem p_morning {l : Launch} {M : Mem} {Pq : Option gV → Mem → Prop} {nn : Nat} (h0_ : Rel nn M M) (hn_ : nn ≤ 512) (kont : ∀ (r : Int) (M1 : Mem), M1 200 50 = M 200 50 → (∀ Pq2 : Option gV → Mem → Prop, (∀ M2, Rel (nn + 1) M2 M2 → M2 200 50 = M 200 50 → Pq2 (some (gI r)) M2) → gCtr l my_X12_morning mb_X12_morning 2 ((some .int)) 1 [gR 200] M1 Pq2) → Pq (some (gI r)) M1) : gCtr l my_X11_morning mb_X11_morning 2 ((some .int)) 1 [gR 0] M Pq := by
  have hn6_ : nn ≤ 600 := by omega
  refine x_morning (?_)
  · refine kont _ _ (by exact congrFun ((fr_up (by omega) (fr_up (by omega) fr_0)) 200 (by decide)) 50) (fun Pq2 h2_ => ?_)
    obtain ⟨N, hN_⟩ : ∃ N, N = up (up M 5 10 0) 5 11 0 := ⟨_, rfl⟩
    rw [← hN_]
    have hNM_ : ∀ a, 200 ≤ a → N a = M a := fun a ha => by rw [hN_]; exact (fr_up (by omega) (fr_up (by omega) fr_0)) a ha
    have hR_ : Rel nn M N := relB h0_ hNM_
    have hF5_ : N 200 50 = M 200 50 := congrFun (hNM_ 200 (by decide)) 50
    have e_ := r_eq hR_
    have tc_ := eq_tc e_
    have lc_ := eq_lc e_
    have wc_ := eq_wc e_
    have bc_ := eq_bc e_
    have tb_ := eq_tb e_
    have sc_ := eq_sc e_
    have ec_ := eq_ec e_
    have h8_ := eq_h8 e_
    have h9_ := eq_h9 e_
    have h10_ := eq_h10 e_
    have h11_ := eq_h11 e_
    refine y_morning (?_)
    · refine fin2 h2_ (h10_) (relA (A := up (up M 5 10 0) 5 11 0) (rel_morning (rel_s hR_)) (fun a ha => by rw [← hN_]; exact (gr_up (by omega) (gr_up (by omega) fr_0)) a ha)) (((fw_up (Or.inl (by decide)) (fw_up (Or.inl (by decide)) rfl))).trans hF5_)
set_option maxHeartbeats 1000000 in
theorem p_turn {l : Launch} {M : Mem} {Pq : Option gV → Mem → Prop} {nn : Nat} (h0_ : Rel nn M M) (hn_ : nn ≤ 512) (wh : Int) (ho : Int) (h_wh : inI wh) (h_ho : inI ho) (kont : ∀ (r : Int) (M1 : Mem), M1 200 50 = M 200 50 → (∀ Pq2 : Option gV → Mem → Prop, (∀ M2, Rel (nn + 1) M2 M2 → M2 200 50 = M 200 50 → Pq2 (some (gI r)) M2) → gCtr l my_X12_turn mb_X12_turn 4 ((some .int)) 2 [gR 200, gI wh, gI ho] M1 Pq2) → Pq (some (gI r)) M1) : gCtr l my_X11_turn mb_X11_turn 4 ((some .int)) 3 [gR 0, gI wh, gI ho] M Pq := by
  have hn6_ : nn ≤ 600 := by omega
  refine x_turn wh ho h_wh h_ho (hrf_ h0_ hn6_) (fun hC_ => ?_) (fun hC_ => ?_) (fun hC_ => ?_)
  · refine kont _ _ (by exact congrFun ((fr_up (by omega) fr_0) 200 (by decide)) 50) (fun Pq2 h2_ => ?_)
    obtain ⟨N, hN_⟩ : ∃ N, N = rf M 0 := ⟨_, rfl⟩
    rw [← hN_]
    have hNM_ : ∀ a, 200 ≤ a → N a = M a := fun a ha => by rw [hN_]; exact (fr_up (by omega) fr_0) a ha
    have hR_ : Rel nn M N := relB h0_ hNM_
    have hF5_ : N 200 50 = M 200 50 := congrFun (hNM_ 200 (by decide)) 50
    have e_ := r_eq hR_
    have tc_ := eq_tc e_
    have lc_ := eq_lc e_
    have wc_ := eq_wc e_
    have bc_ := eq_bc e_
    have tb_ := eq_tb e_
    have sc_ := eq_sc e_
    have ec_ := eq_ec e_
    have h8_ := eq_h8 e_
    have h9_ := eq_h9 e_
    have h10_ := eq_h10 e_
    have h11_ := eq_h11 e_
    refine y_turn wh ho h_wh h_ho (hrg_ hR_ hn6_) (fun hD_ => ?_) (fun hD_ => ?_)
    · refine fin2 h2_ (rfl) (relA (A := rf M 0) (rel_no hR_ 0 (by decide)) (fun a ha => by rw [← hN_]; exact (gr_up (by omega) fr_0) a ha)) (((fw_up (Or.inl (by decide)) rfl)).trans hF5_)
    · exfalso; omega
  · refine kont _ _ (by exact congrFun ((fr_up (by omega) fr_0) 200 (by decide)) 50) (fun Pq2 h2_ => ?_)
    obtain ⟨N, hN_⟩ : ∃ N, N = up M 5 8 ho := ⟨_, rfl⟩
    rw [← hN_]
    have hNM_ : ∀ a, 200 ≤ a → N a = M a := fun a ha => by rw [hN_]; exact (fr_up (by omega) fr_0) a ha
    have hR_ : Rel nn M N := relB h0_ hNM_
    have hF5_ : N 200 50 = M 200 50 := congrFun (hNM_ 200 (by decide)) 50
    have e_ := r_eq hR_
    have tc_ := eq_tc e_
    have lc_ := eq_lc e_
    have wc_ := eq_wc e_
    have bc_ := eq_bc e_
    have tb_ := eq_tb e_
    have sc_ := eq_sc e_
    have ec_ := eq_ec e_
    have h8_ := eq_h8 e_
    have h9_ := eq_h9 e_
    have h10_ := eq_h10 e_
    have h11_ := eq_h11 e_
    refine y_turn wh ho h_wh h_ho (hrg_ hR_ hn6_) (fun hD_ => ?_) (fun hD_ => ?_)
    · exfalso; omega
    · refine fin2 h2_ (by rw [show wh.toNat = 0 by omega]; exact h8_) (relA (A := up M 5 8 ho) (by rw [show wh.toNat = 0 by omega]; exact rel_turn0 (rel_s hR_) ho (by omega)) (fun a ha => by rw [← hN_]; exact (gr_up (by omega) fr_0) a ha)) (((fw_up (Or.inl (by decide)) rfl)).trans hF5_)
  · refine kont _ _ (by exact congrFun ((fr_up (by omega) fr_0) 200 (by decide)) 50) (fun Pq2 h2_ => ?_)
    obtain ⟨N, hN_⟩ : ∃ N, N = up M 5 9 ho := ⟨_, rfl⟩
    rw [← hN_]
    have hNM_ : ∀ a, 200 ≤ a → N a = M a := fun a ha => by rw [hN_]; exact (fr_up (by omega) fr_0) a ha
    have hR_ : Rel nn M N := relB h0_ hNM_
    have hF5_ : N 200 50 = M 200 50 := congrFun (hNM_ 200 (by decide)) 50
    have e_ := r_eq hR_
    have tc_ := eq_tc e_
    have lc_ := eq_lc e_
    have wc_ := eq_wc e_
    have bc_ := eq_bc e_
    have tb_ := eq_tb e_
    have sc_ := eq_sc e_
    have ec_ := eq_ec e_
    have h8_ := eq_h8 e_
    have h9_ := eq_h9 e_
    have h10_ := eq_h10 e_
    have h11_ := eq_h11 e_
    refine y_turn wh ho h_wh h_ho (hrg_ hR_ hn6_) (fun hD_ => ?_) (fun hD_ => ?_)
    · exfalso; omega
    · refine fin2 h2_ (by rw [show wh.toNat = 1 by omega]; exact h9_) (relA (A := up M 5 9 ho) (by rw [show wh.toNat = 1 by omega]; exact rel_turn1 (rel_s hR_) ho (by omega)) (fun a ha => by rw [← hN_]; exact (gr_up (by omega) fr_0) a ha)) (((fw_up (Or.inl (by decide)) rfl)).trans hF5_)
set_option maxHeartbeats 1000000 in
theorem p_goes {l : Launch} {M : Mem} {Pq : Option gV → Mem → Prop} {nn : Nat} (h0_ : Rel nn M M) (hn_ : nn ≤ 512) (la : Int) (lw : Int) (h_la : inI la) (h_lw : inI lw) (kont : ∀ (r : Int) (M1 : Mem), M1 200 50 = M 200 50 → (∀ Pq2 : Option gV → Mem → Prop, (∀ M2, Rel (nn + 1) M2 M2 → M2 200 50 = M 200 50 → Pq2 (some (gI r)) M2) → gCtr l my_X12_goes mb_X12_goes 4 ((some .int)) 2 [gR 200, gI la, gI lw] M1 Pq2) → Pq (some (gI r)) M1) : gCtr l my_X11_goes mb_X11_goes 4 ((some .int)) 3 [gR 0, gI la, gI lw] M Pq := by
  have hn6_ : nn ≤ 600 := by omega
  refine x_goes la lw h_la h_lw (hrf_ h0_ hn6_) (hlc_ h0_) (hwc_ h0_) (fun hC_ => ?_) (fun hC_ => ?_)
  · refine kont _ _ (by exact congrFun ((fr_up (by omega) fr_0) 200 (by decide)) 50) (fun Pq2 h2_ => ?_)
    obtain ⟨N, hN_⟩ : ∃ N, N = rf M 0 := ⟨_, rfl⟩
    rw [← hN_]
    have hNM_ : ∀ a, 200 ≤ a → N a = M a := fun a ha => by rw [hN_]; exact (fr_up (by omega) fr_0) a ha
    have hR_ : Rel nn M N := relB h0_ hNM_
    have hF5_ : N 200 50 = M 200 50 := congrFun (hNM_ 200 (by decide)) 50
    have e_ := r_eq hR_
    have tc_ := eq_tc e_
    have lc_ := eq_lc e_
    have wc_ := eq_wc e_
    have bc_ := eq_bc e_
    have tb_ := eq_tb e_
    have sc_ := eq_sc e_
    have ec_ := eq_ec e_
    have h8_ := eq_h8 e_
    have h9_ := eq_h9 e_
    have h10_ := eq_h10 e_
    have h11_ := eq_h11 e_
    have hw6_ := hwc_ hR_
    refine y_goes la lw h_la h_lw (hrg_ hR_ hn6_) (hmlc_ hR_) (hmwc_ hR_) (fun hD_ => ?_) (fun hD_ => ?_)
    · refine fin2 h2_ (rfl) (relA (A := rf M 0) (rel_no hR_ 0 (by decide)) (fun a ha => by rw [← hN_]; exact (gr_up (by omega) fr_0) a ha)) (((fw_up (Or.inl (by decide)) rfl)).trans hF5_)
    · exfalso; omega
  · refine kont _ _ (by exact congrFun ((fr_up (by omega) fr_0) 200 (by decide)) 50) (fun Pq2 h2_ => ?_)
    obtain ⟨N, hN_⟩ : ∃ N, N = up M 17 la.toNat lw := ⟨_, rfl⟩
    rw [← hN_]
    have hNM_ : ∀ a, 200 ≤ a → N a = M a := fun a ha => by rw [hN_]; exact (fr_up (by omega) fr_0) a ha
    have hR_ : Rel nn M N := relB h0_ hNM_
    have hF5_ : N 200 50 = M 200 50 := congrFun (hNM_ 200 (by decide)) 50
    have e_ := r_eq hR_
    have tc_ := eq_tc e_
    have lc_ := eq_lc e_
    have wc_ := eq_wc e_
    have bc_ := eq_bc e_
    have tb_ := eq_tb e_
    have sc_ := eq_sc e_
    have ec_ := eq_ec e_
    have h8_ := eq_h8 e_
    have h9_ := eq_h9 e_
    have h10_ := eq_h10 e_
    have h11_ := eq_h11 e_
    have hw6_ := hwc_ hR_
    refine y_goes la lw h_la h_lw (hrg_ hR_ hn6_) (hmlc_ hR_) (hmwc_ hR_) (fun hD_ => ?_) (fun hD_ => ?_)
    · exfalso; omega
    · refine fin2 h2_ (by rw [eq_e17 e_]) (relA (A := up M 17 la.toNat lw) (rel_goes (rel_s hR_) la lw (by omega)) (fun a ha => by rw [← hN_]; exact (gr_up (by omega) fr_0) a ha)) (((fw_up (Or.inl (by decide)) rfl)).trans hF5_)
set_option maxHeartbeats 1000000 in
theorem p_mark {l : Launch} {M : Mem} {Pq : Option gV → Mem → Prop} {nn : Nat} (h0_ : Rel nn M M) (hn_ : nn ≤ 512) (t : Int) (v : Int) (h_t : inI t) (h_v : inI v) (kont : ∀ (r : Int) (M1 : Mem), M1 200 50 = M 200 50 → (∀ Pq2 : Option gV → Mem → Prop, (∀ M2, Rel (nn + 1) M2 M2 → M2 200 50 = M 200 50 → Pq2 (some (gI r)) M2) → gCtr l my_X12_mark mb_X12_mark 4 ((some .int)) 2 [gR 200, gI t, gI v] M1 Pq2) → Pq (some (gI r)) M1) : gCtr l my_X11_mark mb_X11_mark 4 ((some .int)) 3 [gR 0, gI t, gI v] M Pq := by
  have hn6_ : nn ≤ 600 := by omega
  refine x_mark t v h_t h_v (hrf_ h0_ hn6_) (hc_ h0_) (fun hC_ => ?_) (fun hC_ => ?_) (fun hC_ => ?_)
  · refine kont _ _ (by exact congrFun ((fr_up (by omega) fr_0) 200 (by decide)) 50) (fun Pq2 h2_ => ?_)
    obtain ⟨N, hN_⟩ : ∃ N, N = rf M 0 := ⟨_, rfl⟩
    rw [← hN_]
    have hNM_ : ∀ a, 200 ≤ a → N a = M a := fun a ha => by rw [hN_]; exact (fr_up (by omega) fr_0) a ha
    have hR_ : Rel nn M N := relB h0_ hNM_
    have hF5_ : N 200 50 = M 200 50 := congrFun (hNM_ 200 (by decide)) 50
    have e_ := r_eq hR_
    have tc_ := eq_tc e_
    have lc_ := eq_lc e_
    have wc_ := eq_wc e_
    have bc_ := eq_bc e_
    have tb_ := eq_tb e_
    have sc_ := eq_sc e_
    have ec_ := eq_ec e_
    have h8_ := eq_h8 e_
    have h9_ := eq_h9 e_
    have h10_ := eq_h10 e_
    have h11_ := eq_h11 e_
    have e11_ := congrFun (eq_e11 e_) t.toNat
    have ht_ := (hth_ hR_) t.toNat
    have hc6_ := hc_ hR_
    refine y_mark t v h_t h_v (hrg_ hR_ hn6_) (hmc_ hR_) (fun hD_ => ?_) (fun hD_ => ?_) (fun hD_ => ?_)
    · refine fin2 h2_ (rfl) (relA (A := rf M 0) (rel_no hR_ 0 (by decide)) (fun a ha => by rw [← hN_]; exact (gr_up (by omega) fr_0) a ha)) (((fw_up (Or.inl (by decide)) rfl)).trans hF5_)
    · exfalso; omega
    · exfalso; omega
  · refine kont _ _ (by exact congrFun ((fr_up (by omega) fr_0) 200 (by decide)) 50) (fun Pq2 h2_ => ?_)
    obtain ⟨N, hN_⟩ : ∃ N, N = rf M 3 := ⟨_, rfl⟩
    rw [← hN_]
    have hNM_ : ∀ a, 200 ≤ a → N a = M a := fun a ha => by rw [hN_]; exact (fr_up (by omega) fr_0) a ha
    have hR_ : Rel nn M N := relB h0_ hNM_
    have hF5_ : N 200 50 = M 200 50 := congrFun (hNM_ 200 (by decide)) 50
    have e_ := r_eq hR_
    have tc_ := eq_tc e_
    have lc_ := eq_lc e_
    have wc_ := eq_wc e_
    have bc_ := eq_bc e_
    have tb_ := eq_tb e_
    have sc_ := eq_sc e_
    have ec_ := eq_ec e_
    have h8_ := eq_h8 e_
    have h9_ := eq_h9 e_
    have h10_ := eq_h10 e_
    have h11_ := eq_h11 e_
    have e11_ := congrFun (eq_e11 e_) t.toNat
    have ht_ := (hth_ hR_) t.toNat
    have hc6_ := hc_ hR_
    refine y_mark t v h_t h_v (hrg_ hR_ hn6_) (hmc_ hR_) (fun hD_ => ?_) (fun hD_ => ?_) (fun hD_ => ?_)
    · exfalso; omega
    · refine fin2 h2_ (rfl) (relA (A := rf M 3) (rel_no hR_ 3 (by decide)) (fun a ha => by rw [← hN_]; exact (gr_up (by omega) fr_0) a ha)) (((fw_up (Or.inl (by decide)) rfl)).trans hF5_)
    · exfalso; omega
  · refine kont _ _ (by exact congrFun ((fr_up (by omega) fr_0) 200 (by decide)) 50) (fun Pq2 h2_ => ?_)
    obtain ⟨N, hN_⟩ : ∃ N, N = up M 10 t.toNat v := ⟨_, rfl⟩
    rw [← hN_]
    have hNM_ : ∀ a, 200 ≤ a → N a = M a := fun a ha => by rw [hN_]; exact (fr_up (by omega) fr_0) a ha
    have hR_ : Rel nn M N := relB h0_ hNM_
    have hF5_ : N 200 50 = M 200 50 := congrFun (hNM_ 200 (by decide)) 50
    have e_ := r_eq hR_
    have tc_ := eq_tc e_
    have lc_ := eq_lc e_
    have wc_ := eq_wc e_
    have bc_ := eq_bc e_
    have tb_ := eq_tb e_
    have sc_ := eq_sc e_
    have ec_ := eq_ec e_
    have h8_ := eq_h8 e_
    have h9_ := eq_h9 e_
    have h10_ := eq_h10 e_
    have h11_ := eq_h11 e_
    have e11_ := congrFun (eq_e11 e_) t.toNat
    have ht_ := (hth_ hR_) t.toNat
    have hc6_ := hc_ hR_
    refine y_mark t v h_t h_v (hrg_ hR_ hn6_) (hmc_ hR_) (fun hD_ => ?_) (fun hD_ => ?_) (fun hD_ => ?_)
    · exfalso; omega
    · exfalso; omega
    · refine fin2 h2_ (by rw [eq_e10 e_]) (relA (A := up M 10 t.toNat v) (rel_mark (rel_s hR_) t v (by omega)) (fun a ha => by rw [← hN_]; exact (gr_up (by omega) fr_0) a ha)) (((fw_up (Or.inl (by decide)) rfl)).trans hF5_)
set_option maxHeartbeats 1000000 in
theorem p_chip {l : Launch} {M : Mem} {Pq : Option gV → Mem → Prop} {nn : Nat} (h0_ : Rel nn M M) (hn_ : nn ≤ 512) (t : Int) (ci : Int) (h_t : inI t) (h_ci : inI ci) (kont : ∀ (r : Int) (M1 : Mem), M1 200 50 = M 200 50 → (∀ Pq2 : Option gV → Mem → Prop, (∀ M2, Rel (nn + 1) M2 M2 → M2 200 50 = M 200 50 → Pq2 (some (gI r)) M2) → gCtr l my_X12_chip mb_X12_chip 3 ((some .int)) 2 [gR 200, gI t, gI ci] M1 Pq2) → Pq (some (gI r)) M1) : gCtr l my_X11_chip mb_X11_chip 3 ((some .int)) 3 [gR 0, gI t, gI ci] M Pq := by
  have hn6_ : nn ≤ 600 := by omega
  refine x_chip t ci h_t h_ci (hrf_ h0_ hn6_) (hc_ h0_) (fun hC_ => ?_) (fun hC_ => ?_) (fun hC_ => ?_)
  · refine kont _ _ (by exact congrFun ((fr_up (by omega) fr_0) 200 (by decide)) 50) (fun Pq2 h2_ => ?_)
    obtain ⟨N, hN_⟩ : ∃ N, N = rf M 0 := ⟨_, rfl⟩
    rw [← hN_]
    have hNM_ : ∀ a, 200 ≤ a → N a = M a := fun a ha => by rw [hN_]; exact (fr_up (by omega) fr_0) a ha
    have hR_ : Rel nn M N := relB h0_ hNM_
    have hF5_ : N 200 50 = M 200 50 := congrFun (hNM_ 200 (by decide)) 50
    have e_ := r_eq hR_
    have tc_ := eq_tc e_
    have lc_ := eq_lc e_
    have wc_ := eq_wc e_
    have bc_ := eq_bc e_
    have tb_ := eq_tb e_
    have sc_ := eq_sc e_
    have ec_ := eq_ec e_
    have h8_ := eq_h8 e_
    have h9_ := eq_h9 e_
    have h10_ := eq_h10 e_
    have h11_ := eq_h11 e_
    have hc6_ := hc_ hR_
    refine y_chip t ci h_t h_ci (hrg_ hR_ hn6_) (hmc_ hR_) (fun hD_ => ?_) (fun hD_ => ?_) (fun hD_ => ?_)
    · refine fin2 h2_ (rfl) (relA (A := rf M 0) (rel_no hR_ 0 (by decide)) (fun a ha => by rw [← hN_]; exact (gr_up (by omega) fr_0) a ha)) (((fw_up (Or.inl (by decide)) rfl)).trans hF5_)
    · exfalso; omega
    · exfalso; omega
  · refine kont _ _ (rfl) (fun Pq2 h2_ => ?_)
    obtain ⟨N, hN_⟩ : ∃ N, N = M := ⟨_, rfl⟩
    rw [← hN_]
    have hNM_ : ∀ a, 200 ≤ a → N a = M a := fun a ha => by rw [hN_]
    have hR_ : Rel nn M N := relB h0_ hNM_
    have hF5_ : N 200 50 = M 200 50 := congrFun (hNM_ 200 (by decide)) 50
    have e_ := r_eq hR_
    have tc_ := eq_tc e_
    have lc_ := eq_lc e_
    have wc_ := eq_wc e_
    have bc_ := eq_bc e_
    have tb_ := eq_tb e_
    have sc_ := eq_sc e_
    have ec_ := eq_ec e_
    have h8_ := eq_h8 e_
    have h9_ := eq_h9 e_
    have h10_ := eq_h10 e_
    have h11_ := eq_h11 e_
    have hc6_ := hc_ hR_
    refine y_chip t ci h_t h_ci (hrg_ hR_ hn6_) (hmc_ hR_) (fun hD_ => ?_) (fun hD_ => ?_) (fun hD_ => ?_)
    · exfalso; omega
    · refine fin2 h2_ (rfl) (relA (A := M) (rel_s hR_) (fun a ha => by rw [← hN_])) ((rfl).trans hF5_)
    · rw [eq_e9 e_] at hD_; exact absurd hC_.2 hD_.2
  · refine kont _ _ (by exact congrFun ((fr_up (by omega) fr_0) 200 (by decide)) 50) (fun Pq2 h2_ => ?_)
    obtain ⟨N, hN_⟩ : ∃ N, N = up M 9 t.toNat (jor (M 9 t.toNat) (jshl 1 ci)) := ⟨_, rfl⟩
    rw [← hN_]
    have hNM_ : ∀ a, 200 ≤ a → N a = M a := fun a ha => by rw [hN_]; exact (fr_up (by omega) fr_0) a ha
    have hR_ : Rel nn M N := relB h0_ hNM_
    have hF5_ : N 200 50 = M 200 50 := congrFun (hNM_ 200 (by decide)) 50
    have e_ := r_eq hR_
    have tc_ := eq_tc e_
    have lc_ := eq_lc e_
    have wc_ := eq_wc e_
    have bc_ := eq_bc e_
    have tb_ := eq_tb e_
    have sc_ := eq_sc e_
    have ec_ := eq_ec e_
    have h8_ := eq_h8 e_
    have h9_ := eq_h9 e_
    have h10_ := eq_h10 e_
    have h11_ := eq_h11 e_
    have hc6_ := hc_ hR_
    refine y_chip t ci h_t h_ci (hrg_ hR_ hn6_) (hmc_ hR_) (fun hD_ => ?_) (fun hD_ => ?_) (fun hD_ => ?_)
    · exfalso; omega
    · rw [eq_e9 e_] at hD_; exact absurd hD_.2 hC_.2
    · refine fin2 h2_ (rfl) (relA (A := up M 9 t.toNat (jor (M 9 t.toNat) (jshl 1 ci))) (rel_chip (rel_s hR_) t ci (by omega) (by omega)) (fun a ha => by rw [← hN_]; exact (gr_up (by omega) fr_0) a ha)) (((fw_up (Or.inl (by decide)) rfl)).trans hF5_)
set_option maxHeartbeats 1000000 in
theorem p_table {l : Launch} {M : Mem} {Pq : Option gV → Mem → Prop} {nn : Nat} (h0_ : Rel nn M M) (hn_ : nn ≤ 512) (ks : Int) (h_ks : inI ks) (kont : ∀ (r : Int) (M1 : Mem), M1 200 50 = M 200 50 → (∀ Pq2 : Option gV → Mem → Prop, (∀ M2, Rel (nn + 1) M2 M2 → M2 200 50 = M 200 50 → Pq2 (some (gI r)) M2) → gCtr l my_X12_table mb_X12_table 2 ((some .int)) 2 [gR 200, gI ks] M1 Pq2) → Pq (some (gI r)) M1) : gCtr l my_X11_table mb_X11_table 2 ((some .int)) 3 [gR 0, gI ks] M Pq := by
  have hn6_ : nn ≤ 600 := by omega
  refine x_table ks h_ks (hrf_ h0_ hn6_) (htc_ h0_) (fun hC_ => ?_) (fun hC_ => ?_) (fun hC_ => ?_)
  · refine kont _ _ (by exact congrFun ((fr_up (by omega) fr_0) 200 (by decide)) 50) (fun Pq2 h2_ => ?_)
    obtain ⟨N, hN_⟩ : ∃ N, N = rf M 0 := ⟨_, rfl⟩
    rw [← hN_]
    have hNM_ : ∀ a, 200 ≤ a → N a = M a := fun a ha => by rw [hN_]; exact (fr_up (by omega) fr_0) a ha
    have hR_ : Rel nn M N := relB h0_ hNM_
    have hF5_ : N 200 50 = M 200 50 := congrFun (hNM_ 200 (by decide)) 50
    have e_ := r_eq hR_
    have tc_ := eq_tc e_
    have lc_ := eq_lc e_
    have wc_ := eq_wc e_
    have bc_ := eq_bc e_
    have tb_ := eq_tb e_
    have sc_ := eq_sc e_
    have ec_ := eq_ec e_
    have h8_ := eq_h8 e_
    have h9_ := eq_h9 e_
    have h10_ := eq_h10 e_
    have h11_ := eq_h11 e_
    have hx5_ := htc_ hR_
    refine y_table ks h_ks (hrg_ hR_ hn6_) (hmtc_ hR_) (fun hD_ => ?_) (fun hD_ => ?_) (fun hD_ => ?_)
    · refine fin2 h2_ (rfl) (relA (A := rf M 0) (rel_no hR_ 0 (by decide)) (fun a ha => by rw [← hN_]; exact (gr_up (by omega) fr_0) a ha)) (((fw_up (Or.inl (by decide)) rfl)).trans hF5_)
    · exfalso; omega
    · exfalso; omega
  · refine kont _ _ (by exact congrFun ((fr_up (by omega) fr_0) 200 (by decide)) 50) (fun Pq2 h2_ => ?_)
    obtain ⟨N, hN_⟩ : ∃ N, N = rf M 4 := ⟨_, rfl⟩
    rw [← hN_]
    have hNM_ : ∀ a, 200 ≤ a → N a = M a := fun a ha => by rw [hN_]; exact (fr_up (by omega) fr_0) a ha
    have hR_ : Rel nn M N := relB h0_ hNM_
    have hF5_ : N 200 50 = M 200 50 := congrFun (hNM_ 200 (by decide)) 50
    have e_ := r_eq hR_
    have tc_ := eq_tc e_
    have lc_ := eq_lc e_
    have wc_ := eq_wc e_
    have bc_ := eq_bc e_
    have tb_ := eq_tb e_
    have sc_ := eq_sc e_
    have ec_ := eq_ec e_
    have h8_ := eq_h8 e_
    have h9_ := eq_h9 e_
    have h10_ := eq_h10 e_
    have h11_ := eq_h11 e_
    have hx5_ := htc_ hR_
    refine y_table ks h_ks (hrg_ hR_ hn6_) (hmtc_ hR_) (fun hD_ => ?_) (fun hD_ => ?_) (fun hD_ => ?_)
    · exfalso; omega
    · refine fin2 h2_ (rfl) (relA (A := rf M 4) (rel_no hR_ 4 (by decide)) (fun a ha => by rw [← hN_]; exact (gr_up (by omega) fr_0) a ha)) (((fw_up (Or.inl (by decide)) rfl)).trans hF5_)
    · exfalso; omega
  · refine kont _ _ (by exact congrFun ((fr_up (by omega) (fr_up (by omega) fr_0)) 200 (by decide)) 50) (fun Pq2 h2_ => ?_)
    obtain ⟨N, hN_⟩ : ∃ N, N = up (up M 43 (M 5 7).toNat ks) 5 7 (M 5 7 + 1) := ⟨_, rfl⟩
    rw [← hN_]
    have hNM_ : ∀ a, 200 ≤ a → N a = M a := fun a ha => by rw [hN_]; exact (fr_up (by omega) (fr_up (by omega) fr_0)) a ha
    have hR_ : Rel nn M N := relB h0_ hNM_
    have hF5_ : N 200 50 = M 200 50 := congrFun (hNM_ 200 (by decide)) 50
    have e_ := r_eq hR_
    have tc_ := eq_tc e_
    have lc_ := eq_lc e_
    have wc_ := eq_wc e_
    have bc_ := eq_bc e_
    have tb_ := eq_tb e_
    have sc_ := eq_sc e_
    have ec_ := eq_ec e_
    have h8_ := eq_h8 e_
    have h9_ := eq_h9 e_
    have h10_ := eq_h10 e_
    have h11_ := eq_h11 e_
    have hx5_ := htc_ hR_
    refine y_table ks h_ks (hrg_ hR_ hn6_) (hmtc_ hR_) (fun hD_ => ?_) (fun hD_ => ?_) (fun hD_ => ?_)
    · exfalso; omega
    · exfalso; omega
    · refine fin2 h2_ (tb_) (relA (A := up (up M 43 (M 5 7).toNat ks) 5 7 (M 5 7 + 1)) (rel_table (rel_s hR_) ks (by omega)) (fun a ha => by rw [← hN_]; exact (gr_up (by omega) (gr_up (by omega) fr_0)) a ha)) (((fw_up (Or.inr (by decide)) (fw_up (Or.inl (by decide)) rfl))).trans hF5_)
set_option maxHeartbeats 1000000 in
theorem p_lady {l : Launch} {M : Mem} {Pq : Option gV → Mem → Prop} {nn : Nat} (h0_ : Rel nn M M) (hn_ : nn ≤ 512) (ks : Int) (g : Int) (h_ks : inI ks) (h_g : inI g) (kont : ∀ (r : Int) (M1 : Mem), M1 200 50 = M 200 50 → (∀ Pq2 : Option gV → Mem → Prop, (∀ M2, Rel (nn + 1) M2 M2 → M2 200 50 = M 200 50 → Pq2 (some (gI r)) M2) → gCtr l my_X12_lady mb_X12_lady 3 ((some .int)) 2 [gR 200, gI ks, gI g] M1 Pq2) → Pq (some (gI r)) M1) : gCtr l my_X11_lady mb_X11_lady 3 ((some .int)) 3 [gR 0, gI ks, gI g] M Pq := by
  have hn6_ : nn ≤ 600 := by omega
  refine x_lady ks g h_ks h_g (hrf_ h0_ hn6_) (hlc_ h0_) (fun hC_ => ?_) (fun hC_ => ?_) (fun hC_ => ?_)
  · refine kont _ _ (by exact congrFun ((fr_up (by omega) fr_0) 200 (by decide)) 50) (fun Pq2 h2_ => ?_)
    obtain ⟨N, hN_⟩ : ∃ N, N = rf M 0 := ⟨_, rfl⟩
    rw [← hN_]
    have hNM_ : ∀ a, 200 ≤ a → N a = M a := fun a ha => by rw [hN_]; exact (fr_up (by omega) fr_0) a ha
    have hR_ : Rel nn M N := relB h0_ hNM_
    have hF5_ : N 200 50 = M 200 50 := congrFun (hNM_ 200 (by decide)) 50
    have e_ := r_eq hR_
    have tc_ := eq_tc e_
    have lc_ := eq_lc e_
    have wc_ := eq_wc e_
    have bc_ := eq_bc e_
    have tb_ := eq_tb e_
    have sc_ := eq_sc e_
    have ec_ := eq_ec e_
    have h8_ := eq_h8 e_
    have h9_ := eq_h9 e_
    have h10_ := eq_h10 e_
    have h11_ := eq_h11 e_
    have hx5_ := hlc_ hR_
    refine y_lady ks g h_ks h_g (hrg_ hR_ hn6_) (hmlc_ hR_) (fun hD_ => ?_) (fun hD_ => ?_) (fun hD_ => ?_)
    · refine fin2 h2_ (rfl) (relA (A := rf M 0) (rel_no hR_ 0 (by decide)) (fun a ha => by rw [← hN_]; exact (gr_up (by omega) fr_0) a ha)) (((fw_up (Or.inl (by decide)) rfl)).trans hF5_)
    · exfalso; omega
    · exfalso; omega
  · refine kont _ _ (by exact congrFun ((fr_up (by omega) fr_0) 200 (by decide)) 50) (fun Pq2 h2_ => ?_)
    obtain ⟨N, hN_⟩ : ∃ N, N = rf M 4 := ⟨_, rfl⟩
    rw [← hN_]
    have hNM_ : ∀ a, 200 ≤ a → N a = M a := fun a ha => by rw [hN_]; exact (fr_up (by omega) fr_0) a ha
    have hR_ : Rel nn M N := relB h0_ hNM_
    have hF5_ : N 200 50 = M 200 50 := congrFun (hNM_ 200 (by decide)) 50
    have e_ := r_eq hR_
    have tc_ := eq_tc e_
    have lc_ := eq_lc e_
    have wc_ := eq_wc e_
    have bc_ := eq_bc e_
    have tb_ := eq_tb e_
    have sc_ := eq_sc e_
    have ec_ := eq_ec e_
    have h8_ := eq_h8 e_
    have h9_ := eq_h9 e_
    have h10_ := eq_h10 e_
    have h11_ := eq_h11 e_
    have hx5_ := hlc_ hR_
    refine y_lady ks g h_ks h_g (hrg_ hR_ hn6_) (hmlc_ hR_) (fun hD_ => ?_) (fun hD_ => ?_) (fun hD_ => ?_)
    · exfalso; omega
    · refine fin2 h2_ (rfl) (relA (A := rf M 4) (rel_no hR_ 4 (by decide)) (fun a ha => by rw [← hN_]; exact (gr_up (by omega) fr_0) a ha)) (((fw_up (Or.inl (by decide)) rfl)).trans hF5_)
    · exfalso; omega
  · refine kont _ _ (by exact congrFun ((fr_up (by omega) (fr_up (by omega) (fr_up (by omega) (fr_up (by omega) fr_0)))) 200 (by decide)) 50) (fun Pq2 h2_ => ?_)
    obtain ⟨N, hN_⟩ : ∃ N, N = up (up (up (up M 15 (M 14 3).toNat ks) 16 (M 14 3).toNat g) 17 (M 14 3).toNat (-1)) 14 3 (M 14 3 + 1) := ⟨_, rfl⟩
    rw [← hN_]
    have hNM_ : ∀ a, 200 ≤ a → N a = M a := fun a ha => by rw [hN_]; exact (fr_up (by omega) (fr_up (by omega) (fr_up (by omega) (fr_up (by omega) fr_0)))) a ha
    have hR_ : Rel nn M N := relB h0_ hNM_
    have hF5_ : N 200 50 = M 200 50 := congrFun (hNM_ 200 (by decide)) 50
    have e_ := r_eq hR_
    have tc_ := eq_tc e_
    have lc_ := eq_lc e_
    have wc_ := eq_wc e_
    have bc_ := eq_bc e_
    have tb_ := eq_tb e_
    have sc_ := eq_sc e_
    have ec_ := eq_ec e_
    have h8_ := eq_h8 e_
    have h9_ := eq_h9 e_
    have h10_ := eq_h10 e_
    have h11_ := eq_h11 e_
    have hx5_ := hlc_ hR_
    refine y_lady ks g h_ks h_g (hrg_ hR_ hn6_) (hmlc_ hR_) (fun hD_ => ?_) (fun hD_ => ?_) (fun hD_ => ?_)
    · exfalso; omega
    · exfalso; omega
    · refine fin2 h2_ (lc_) (relA (A := up (up (up (up M 15 (M 14 3).toNat ks) 16 (M 14 3).toNat g) 17 (M 14 3).toNat (-1)) 14 3 (M 14 3 + 1)) (rel_lady (rel_s hR_) ks g (by omega) (by omega) (by omega)) (fun a ha => by rw [← hN_]; exact (gr_up (by omega) (gr_up (by omega) (gr_up (by omega) (gr_up (by omega) fr_0)))) a ha)) (((fw_up (Or.inr (by decide)) (fw_up (Or.inl (by decide)) (fw_up (Or.inl (by decide)) (fw_up (Or.inl (by decide)) rfl))))).trans hF5_)
set_option maxHeartbeats 1000000 in
theorem p_buyer {l : Launch} {M : Mem} {Pq : Option gV → Mem → Prop} {nn : Nat} (h0_ : Rel nn M M) (hn_ : nn ≤ 512) (ho : Int) (pu : Int) (ks : Int) (ey : Int) (h_ho : inI ho) (h_pu : inI pu) (h_ks : inI ks) (h_ey : inI ey) (kont : ∀ (r : Int) (M1 : Mem), M1 200 50 = M 200 50 → (∀ Pq2 : Option gV → Mem → Prop, (∀ M2, Rel (nn + 1) M2 M2 → M2 200 50 = M 200 50 → Pq2 (some (gI r)) M2) → gCtr l my_X12_buyer mb_X12_buyer 5 ((some .int)) 2 [gR 200, gI ho, gI pu, gI ks, gI ey] M1 Pq2) → Pq (some (gI r)) M1) : gCtr l my_X11_buyer mb_X11_buyer 5 ((some .int)) 3 [gR 0, gI ho, gI pu, gI ks, gI ey] M Pq := by
  have hn6_ : nn ≤ 600 := by omega
  refine x_buyer ho pu ks ey h_ho h_pu h_ks h_ey (hrf_ h0_ hn6_) (hbc_ h0_) (fun hC_ => ?_) (fun hC_ => ?_) (fun hC_ => ?_)
  · refine kont _ _ (by exact congrFun ((fr_up (by omega) fr_0) 200 (by decide)) 50) (fun Pq2 h2_ => ?_)
    obtain ⟨N, hN_⟩ : ∃ N, N = rf M 0 := ⟨_, rfl⟩
    rw [← hN_]
    have hNM_ : ∀ a, 200 ≤ a → N a = M a := fun a ha => by rw [hN_]; exact (fr_up (by omega) fr_0) a ha
    have hR_ : Rel nn M N := relB h0_ hNM_
    have hF5_ : N 200 50 = M 200 50 := congrFun (hNM_ 200 (by decide)) 50
    have e_ := r_eq hR_
    have tc_ := eq_tc e_
    have lc_ := eq_lc e_
    have wc_ := eq_wc e_
    have bc_ := eq_bc e_
    have tb_ := eq_tb e_
    have sc_ := eq_sc e_
    have ec_ := eq_ec e_
    have h8_ := eq_h8 e_
    have h9_ := eq_h9 e_
    have h10_ := eq_h10 e_
    have h11_ := eq_h11 e_
    have hx5_ := hbc_ hR_
    refine y_buyer ho pu ks ey h_ho h_pu h_ks h_ey (hrg_ hR_ hn6_) (hmbc_ hR_) (fun hD_ => ?_) (fun hD_ => ?_) (fun hD_ => ?_)
    · refine fin2 h2_ (rfl) (relA (A := rf M 0) (rel_no hR_ 0 (by decide)) (fun a ha => by rw [← hN_]; exact (gr_up (by omega) fr_0) a ha)) (((fw_up (Or.inl (by decide)) rfl)).trans hF5_)
    · exfalso; omega
    · exfalso; omega
  · refine kont _ _ (by exact congrFun ((fr_up (by omega) fr_0) 200 (by decide)) 50) (fun Pq2 h2_ => ?_)
    obtain ⟨N, hN_⟩ : ∃ N, N = rf M 4 := ⟨_, rfl⟩
    rw [← hN_]
    have hNM_ : ∀ a, 200 ≤ a → N a = M a := fun a ha => by rw [hN_]; exact (fr_up (by omega) fr_0) a ha
    have hR_ : Rel nn M N := relB h0_ hNM_
    have hF5_ : N 200 50 = M 200 50 := congrFun (hNM_ 200 (by decide)) 50
    have e_ := r_eq hR_
    have tc_ := eq_tc e_
    have lc_ := eq_lc e_
    have wc_ := eq_wc e_
    have bc_ := eq_bc e_
    have tb_ := eq_tb e_
    have sc_ := eq_sc e_
    have ec_ := eq_ec e_
    have h8_ := eq_h8 e_
    have h9_ := eq_h9 e_
    have h10_ := eq_h10 e_
    have h11_ := eq_h11 e_
    have hx5_ := hbc_ hR_
    refine y_buyer ho pu ks ey h_ho h_pu h_ks h_ey (hrg_ hR_ hn6_) (hmbc_ hR_) (fun hD_ => ?_) (fun hD_ => ?_) (fun hD_ => ?_)
    · exfalso; omega
    · refine fin2 h2_ (rfl) (relA (A := rf M 4) (rel_no hR_ 4 (by decide)) (fun a ha => by rw [← hN_]; exact (gr_up (by omega) fr_0) a ha)) (((fw_up (Or.inl (by decide)) rfl)).trans hF5_)
    · exfalso; omega
  · refine kont _ _ (by exact congrFun ((fr_up (by omega) (fr_up (by omega) (fr_up (by omega) (fr_up (by omega) (fr_up (by omega) (fr_up (by omega) fr_0)))))) 200 (by decide)) 50) (fun Pq2 h2_ => ?_)
    obtain ⟨N, hN_⟩ : ∃ N, N = up (up (up (up (up (up M 22 (M 21 5).toNat ho) 23 (M 21 5).toNat pu) 24 (M 21 5).toNat ks) 25 (M 21 5).toNat ey) 26 (M 21 5).toNat 0) 21 5 (M 21 5 + 1) := ⟨_, rfl⟩
    rw [← hN_]
    have hNM_ : ∀ a, 200 ≤ a → N a = M a := fun a ha => by rw [hN_]; exact (fr_up (by omega) (fr_up (by omega) (fr_up (by omega) (fr_up (by omega) (fr_up (by omega) (fr_up (by omega) fr_0)))))) a ha
    have hR_ : Rel nn M N := relB h0_ hNM_
    have hF5_ : N 200 50 = M 200 50 := congrFun (hNM_ 200 (by decide)) 50
    have e_ := r_eq hR_
    have tc_ := eq_tc e_
    have lc_ := eq_lc e_
    have wc_ := eq_wc e_
    have bc_ := eq_bc e_
    have tb_ := eq_tb e_
    have sc_ := eq_sc e_
    have ec_ := eq_ec e_
    have h8_ := eq_h8 e_
    have h9_ := eq_h9 e_
    have h10_ := eq_h10 e_
    have h11_ := eq_h11 e_
    have hx5_ := hbc_ hR_
    refine y_buyer ho pu ks ey h_ho h_pu h_ks h_ey (hrg_ hR_ hn6_) (hmbc_ hR_) (fun hD_ => ?_) (fun hD_ => ?_) (fun hD_ => ?_)
    · exfalso; omega
    · exfalso; omega
    · refine fin2 h2_ (bc_) (relA (A := up (up (up (up (up (up M 22 (M 21 5).toNat ho) 23 (M 21 5).toNat pu) 24 (M 21 5).toNat ks) 25 (M 21 5).toNat ey) 26 (M 21 5).toNat 0) 21 5 (M 21 5 + 1)) (rel_buyer (rel_s hR_) ho pu ks ey (by omega) (by omega)) (fun a ha => by rw [← hN_]; exact (gr_up (by omega) (gr_up (by omega) (gr_up (by omega) (gr_up (by omega) (gr_up (by omega) (gr_up (by omega) fr_0)))))) a ha)) (((fw_up (Or.inr (by decide)) (fw_up (Or.inl (by decide)) (fw_up (Or.inl (by decide)) (fw_up (Or.inl (by decide)) (fw_up (Or.inl (by decide)) (fw_up (Or.inl (by decide)) rfl))))))).trans hF5_)
set_option maxHeartbeats 1000000 in
theorem p_sight {l : Launch} {M : Mem} {Pq : Option gV → Mem → Prop} {nn : Nat} (h0_ : Rel nn M M) (hn_ : nn ≤ 512) (y : Int) (ch : Int) (g : Int) (b : Int) (h_y : inI y) (h_ch : inI ch) (h_g : inI g) (h_b : inI b) (kont : ∀ (r : Int) (M1 : Mem), M1 200 50 = M 200 50 → (∀ Pq2 : Option gV → Mem → Prop, (∀ M2, Rel (nn + 1) M2 M2 → M2 200 50 = M 200 50 → Pq2 (some (gI r)) M2) → gCtr l my_X12_sight mb_X12_sight 5 ((some .int)) 2 [gR 200, gI y, gI ch, gI g, gI b] M1 Pq2) → Pq (some (gI r)) M1) : gCtr l my_X11_sight mb_X11_sight 5 ((some .int)) 4 [gR 0, gI y, gI ch, gI g, gI b] M Pq := by
  have hn6_ : nn ≤ 600 := by omega
  refine x_sight y ch g b h_y h_ch h_g h_b (hrf_ h0_ hn6_) (hsc_ h0_) (fun hC_ => ?_) (fun hC_ => ?_) (fun hC_ => ?_)
  · refine kont _ _ (by exact congrFun ((fr_up (by omega) fr_0) 200 (by decide)) 50) (fun Pq2 h2_ => ?_)
    obtain ⟨N, hN_⟩ : ∃ N, N = rf M 0 := ⟨_, rfl⟩
    rw [← hN_]
    have hNM_ : ∀ a, 200 ≤ a → N a = M a := fun a ha => by rw [hN_]; exact (fr_up (by omega) fr_0) a ha
    have hR_ : Rel nn M N := relB h0_ hNM_
    have hF5_ : N 200 50 = M 200 50 := congrFun (hNM_ 200 (by decide)) 50
    have e_ := r_eq hR_
    have tc_ := eq_tc e_
    have lc_ := eq_lc e_
    have wc_ := eq_wc e_
    have bc_ := eq_bc e_
    have tb_ := eq_tb e_
    have sc_ := eq_sc e_
    have ec_ := eq_ec e_
    have h8_ := eq_h8 e_
    have h9_ := eq_h9 e_
    have h10_ := eq_h10 e_
    have h11_ := eq_h11 e_
    have hx5_ := hsc_ hR_
    refine y_sight y ch g b h_y h_ch h_g h_b (hrg_ hR_ hn6_) (hmsc_ hR_) (fun hD_ => ?_) (fun hD_ => ?_) (fun hD_ => ?_)
    · refine fin2 h2_ (rfl) (relA (A := rf M 0) (rel_no hR_ 0 (by decide)) (fun a ha => by rw [← hN_]; exact (gr_up (by omega) fr_0) a ha)) (((fw_up (Or.inl (by decide)) rfl)).trans hF5_)
    · exfalso; omega
    · exfalso; omega
  · refine kont _ _ (by exact congrFun ((fr_up (by omega) fr_0) 200 (by decide)) 50) (fun Pq2 h2_ => ?_)
    obtain ⟨N, hN_⟩ : ∃ N, N = rf M 4 := ⟨_, rfl⟩
    rw [← hN_]
    have hNM_ : ∀ a, 200 ≤ a → N a = M a := fun a ha => by rw [hN_]; exact (fr_up (by omega) fr_0) a ha
    have hR_ : Rel nn M N := relB h0_ hNM_
    have hF5_ : N 200 50 = M 200 50 := congrFun (hNM_ 200 (by decide)) 50
    have e_ := r_eq hR_
    have tc_ := eq_tc e_
    have lc_ := eq_lc e_
    have wc_ := eq_wc e_
    have bc_ := eq_bc e_
    have tb_ := eq_tb e_
    have sc_ := eq_sc e_
    have ec_ := eq_ec e_
    have h8_ := eq_h8 e_
    have h9_ := eq_h9 e_
    have h10_ := eq_h10 e_
    have h11_ := eq_h11 e_
    have hx5_ := hsc_ hR_
    refine y_sight y ch g b h_y h_ch h_g h_b (hrg_ hR_ hn6_) (hmsc_ hR_) (fun hD_ => ?_) (fun hD_ => ?_) (fun hD_ => ?_)
    · exfalso; omega
    · refine fin2 h2_ (rfl) (relA (A := rf M 4) (rel_no hR_ 4 (by decide)) (fun a ha => by rw [← hN_]; exact (gr_up (by omega) fr_0) a ha)) (((fw_up (Or.inl (by decide)) rfl)).trans hF5_)
    · exfalso; omega
  · refine kont _ _ (by exact congrFun ((fr_up (by omega) (fr_up (by omega) (fr_up (by omega) (fr_up (by omega) (fr_up (by omega) fr_0))))) 200 (by decide)) 50) (fun Pq2 h2_ => ?_)
    obtain ⟨N, hN_⟩ : ∃ N, N = up (up (up (up (up M 28 (M 27 4).toNat y) 29 (M 27 4).toNat ch) 30 (M 27 4).toNat g) 31 (M 27 4).toNat b) 27 4 (M 27 4 + 1) := ⟨_, rfl⟩
    rw [← hN_]
    have hNM_ : ∀ a, 200 ≤ a → N a = M a := fun a ha => by rw [hN_]; exact (fr_up (by omega) (fr_up (by omega) (fr_up (by omega) (fr_up (by omega) (fr_up (by omega) fr_0))))) a ha
    have hR_ : Rel nn M N := relB h0_ hNM_
    have hF5_ : N 200 50 = M 200 50 := congrFun (hNM_ 200 (by decide)) 50
    have e_ := r_eq hR_
    have tc_ := eq_tc e_
    have lc_ := eq_lc e_
    have wc_ := eq_wc e_
    have bc_ := eq_bc e_
    have tb_ := eq_tb e_
    have sc_ := eq_sc e_
    have ec_ := eq_ec e_
    have h8_ := eq_h8 e_
    have h9_ := eq_h9 e_
    have h10_ := eq_h10 e_
    have h11_ := eq_h11 e_
    have hx5_ := hsc_ hR_
    refine y_sight y ch g b h_y h_ch h_g h_b (hrg_ hR_ hn6_) (hmsc_ hR_) (fun hD_ => ?_) (fun hD_ => ?_) (fun hD_ => ?_)
    · exfalso; omega
    · exfalso; omega
    · refine fin2 h2_ (sc_) (relA (A := up (up (up (up (up M 28 (M 27 4).toNat y) 29 (M 27 4).toNat ch) 30 (M 27 4).toNat g) 31 (M 27 4).toNat b) 27 4 (M 27 4 + 1)) (rel_sight (rel_s hR_) y ch g b (by omega) (by omega)) (fun a ha => by rw [← hN_]; exact (gr_up (by omega) (gr_up (by omega) (gr_up (by omega) (gr_up (by omega) (gr_up (by omega) fr_0))))) a ha)) (((fw_up (Or.inr (by decide)) (fw_up (Or.inl (by decide)) (fw_up (Or.inl (by decide)) (fw_up (Or.inl (by decide)) (fw_up (Or.inl (by decide)) rfl)))))).trans hF5_)
set_option maxHeartbeats 1000000 in
theorem p_secret {l : Launch} {M : Mem} {Pq : Option gV → Mem → Prop} {nn : Nat} (h0_ : Rel nn M M) (hn_ : nn ≤ 512) (t : Int) (pe : Int) (h_t : inI t) (h_pe : inI pe) (kont : ∀ (r : Int) (M1 : Mem), M1 200 50 = M 200 50 → (∀ Pq2 : Option gV → Mem → Prop, (∀ M2, Rel (nn + 1) M2 M2 → M2 200 50 = M 200 50 → Pq2 (some (gI r)) M2) → gCtr l my_X12_secret mb_X12_secret 3 ((some .int)) 2 [gR 200, gI t, gI pe] M1 Pq2) → Pq (some (gI r)) M1) : gCtr l my_X11_secret mb_X11_secret 3 ((some .int)) 3 [gR 0, gI t, gI pe] M Pq := by
  have hn6_ : nn ≤ 600 := by omega
  refine x_secret t pe h_t h_pe (hrf_ h0_ hn6_) (hc_ h0_) (hec_ h0_) (fun hC_ => ?_) (fun hC_ => ?_) (fun hC_ => ?_)
  · refine kont _ _ (by exact congrFun ((fr_up (by omega) fr_0) 200 (by decide)) 50) (fun Pq2 h2_ => ?_)
    obtain ⟨N, hN_⟩ : ∃ N, N = rf M 0 := ⟨_, rfl⟩
    rw [← hN_]
    have hNM_ : ∀ a, 200 ≤ a → N a = M a := fun a ha => by rw [hN_]; exact (fr_up (by omega) fr_0) a ha
    have hR_ : Rel nn M N := relB h0_ hNM_
    have hF5_ : N 200 50 = M 200 50 := congrFun (hNM_ 200 (by decide)) 50
    have e_ := r_eq hR_
    have tc_ := eq_tc e_
    have lc_ := eq_lc e_
    have wc_ := eq_wc e_
    have bc_ := eq_bc e_
    have tb_ := eq_tb e_
    have sc_ := eq_sc e_
    have ec_ := eq_ec e_
    have h8_ := eq_h8 e_
    have h9_ := eq_h9 e_
    have h10_ := eq_h10 e_
    have h11_ := eq_h11 e_
    have hx5_ := hec_ hR_
    refine y_secret t pe h_t h_pe (hrg_ hR_ hn6_) (hmc_ hR_) (hmec_ hR_) (fun hD_ => ?_) (fun hD_ => ?_) (fun hD_ => ?_)
    · refine fin2 h2_ (rfl) (relA (A := rf M 0) (rel_no hR_ 0 (by decide)) (fun a ha => by rw [← hN_]; exact (gr_up (by omega) fr_0) a ha)) (((fw_up (Or.inl (by decide)) rfl)).trans hF5_)
    · exfalso; omega
    · exfalso; omega
  · refine kont _ _ (by exact congrFun ((fr_up (by omega) fr_0) 200 (by decide)) 50) (fun Pq2 h2_ => ?_)
    obtain ⟨N, hN_⟩ : ∃ N, N = rf M 4 := ⟨_, rfl⟩
    rw [← hN_]
    have hNM_ : ∀ a, 200 ≤ a → N a = M a := fun a ha => by rw [hN_]; exact (fr_up (by omega) fr_0) a ha
    have hR_ : Rel nn M N := relB h0_ hNM_
    have hF5_ : N 200 50 = M 200 50 := congrFun (hNM_ 200 (by decide)) 50
    have e_ := r_eq hR_
    have tc_ := eq_tc e_
    have lc_ := eq_lc e_
    have wc_ := eq_wc e_
    have bc_ := eq_bc e_
    have tb_ := eq_tb e_
    have sc_ := eq_sc e_
    have ec_ := eq_ec e_
    have h8_ := eq_h8 e_
    have h9_ := eq_h9 e_
    have h10_ := eq_h10 e_
    have h11_ := eq_h11 e_
    have hx5_ := hec_ hR_
    refine y_secret t pe h_t h_pe (hrg_ hR_ hn6_) (hmc_ hR_) (hmec_ hR_) (fun hD_ => ?_) (fun hD_ => ?_) (fun hD_ => ?_)
    · exfalso; omega
    · refine fin2 h2_ (rfl) (relA (A := rf M 4) (rel_no hR_ 4 (by decide)) (fun a ha => by rw [← hN_]; exact (gr_up (by omega) fr_0) a ha)) (((fw_up (Or.inl (by decide)) rfl)).trans hF5_)
    · exfalso; omega
  · refine kont _ _ (by exact congrFun ((fr_up (by omega) (fr_up (by omega) (fr_up (by omega) fr_0))) 200 (by decide)) 50) (fun Pq2 h2_ => ?_)
    obtain ⟨N, hN_⟩ : ∃ N, N = up (up (up M 36 (M 35 2).toNat t) 37 (M 35 2).toNat pe) 35 2 (M 35 2 + 1) := ⟨_, rfl⟩
    rw [← hN_]
    have hNM_ : ∀ a, 200 ≤ a → N a = M a := fun a ha => by rw [hN_]; exact (fr_up (by omega) (fr_up (by omega) (fr_up (by omega) fr_0))) a ha
    have hR_ : Rel nn M N := relB h0_ hNM_
    have hF5_ : N 200 50 = M 200 50 := congrFun (hNM_ 200 (by decide)) 50
    have e_ := r_eq hR_
    have tc_ := eq_tc e_
    have lc_ := eq_lc e_
    have wc_ := eq_wc e_
    have bc_ := eq_bc e_
    have tb_ := eq_tb e_
    have sc_ := eq_sc e_
    have ec_ := eq_ec e_
    have h8_ := eq_h8 e_
    have h9_ := eq_h9 e_
    have h10_ := eq_h10 e_
    have h11_ := eq_h11 e_
    have hx5_ := hec_ hR_
    refine y_secret t pe h_t h_pe (hrg_ hR_ hn6_) (hmc_ hR_) (hmec_ hR_) (fun hD_ => ?_) (fun hD_ => ?_) (fun hD_ => ?_)
    · exfalso; omega
    · exfalso; omega
    · refine fin2 h2_ (ec_) (relA (A := up (up (up M 36 (M 35 2).toNat t) 37 (M 35 2).toNat pe) 35 2 (M 35 2 + 1)) (rel_secret (rel_s hR_) t pe (by omega) (by omega) (by omega)) (fun a ha => by rw [← hN_]; exact (gr_up (by omega) (gr_up (by omega) (gr_up (by omega) fr_0))) a ha)) (((fw_up (Or.inr (by decide)) (fw_up (Or.inl (by decide)) (fw_up (Or.inl (by decide)) rfl)))).trans hF5_)
set_option maxHeartbeats 1000000 in
theorem p_thing {l : Launch} {M : Mem} {Pq : Option gV → Mem → Prop} {nn : Nat} (h0_ : Rel nn M M) (hn_ : nn ≤ 512) (k : Int) (w : Int) (ch : Int) (h_k : inI k) (h_w : inI w) (h_ch : inI ch) (kont : ∀ (r : Int) (M1 : Mem), M1 200 50 = M 200 50 → (∀ Pq2 : Option gV → Mem → Prop, (∀ M2, Rel (nn + 1) M2 M2 → M2 200 50 = M 200 50 → Pq2 (some (gI r)) M2) → gCtr l my_X12_thing mb_X12_thing 5 ((some .int)) 2 [gR 200, gI k, gI w, gI ch] M1 Pq2) → Pq (some (gI r)) M1) : gCtr l my_X11_thing mb_X11_thing 4 ((some .int)) 3 [gR 0, gI k, gI w, gI ch] M Pq := by
  have hn6_ : nn ≤ 600 := by omega
  refine x_thing k w ch h_k h_w h_ch (hrf_ h0_ hn6_) (hc_ h0_) (fun hC_ => ?_) (fun hC_ => ?_) (fun hC_ => ?_)
  · refine kont _ _ (by exact congrFun ((fr_up (by omega) fr_0) 200 (by decide)) 50) (fun Pq2 h2_ => ?_)
    obtain ⟨N, hN_⟩ : ∃ N, N = rf M 0 := ⟨_, rfl⟩
    rw [← hN_]
    have hNM_ : ∀ a, 200 ≤ a → N a = M a := fun a ha => by rw [hN_]; exact (fr_up (by omega) fr_0) a ha
    have hR_ : Rel nn M N := relB h0_ hNM_
    have hF5_ : N 200 50 = M 200 50 := congrFun (hNM_ 200 (by decide)) 50
    have e_ := r_eq hR_
    have tc_ := eq_tc e_
    have lc_ := eq_lc e_
    have wc_ := eq_wc e_
    have bc_ := eq_bc e_
    have tb_ := eq_tb e_
    have sc_ := eq_sc e_
    have ec_ := eq_ec e_
    have h8_ := eq_h8 e_
    have h9_ := eq_h9 e_
    have h10_ := eq_h10 e_
    have h11_ := eq_h11 e_
    have hc6_ := hc_ hR_
    refine y_thing k w ch h_k h_w h_ch (hrg_ hR_ hn6_) (hmc_ hR_) (fun hD_ => ?_) (fun hD_ => ?_) (fun hD_ => ?_)
    · refine fin2 h2_ (rfl) (relA (A := rf M 0) (rel_no hR_ 0 (by decide)) (fun a ha => by rw [← hN_]; exact (gr_up (by omega) fr_0) a ha)) (((fw_up (Or.inl (by decide)) rfl)).trans hF5_)
    · exfalso; omega
    · exfalso; omega
  · refine kont _ _ (by exact congrFun ((fr_up (by omega) fr_0) 200 (by decide)) 50) (fun Pq2 h2_ => ?_)
    obtain ⟨N, hN_⟩ : ∃ N, N = rf M 4 := ⟨_, rfl⟩
    rw [← hN_]
    have hNM_ : ∀ a, 200 ≤ a → N a = M a := fun a ha => by rw [hN_]; exact (fr_up (by omega) fr_0) a ha
    have hR_ : Rel nn M N := relB h0_ hNM_
    have hF5_ : N 200 50 = M 200 50 := congrFun (hNM_ 200 (by decide)) 50
    have e_ := r_eq hR_
    have tc_ := eq_tc e_
    have lc_ := eq_lc e_
    have wc_ := eq_wc e_
    have bc_ := eq_bc e_
    have tb_ := eq_tb e_
    have sc_ := eq_sc e_
    have ec_ := eq_ec e_
    have h8_ := eq_h8 e_
    have h9_ := eq_h9 e_
    have h10_ := eq_h10 e_
    have h11_ := eq_h11 e_
    have hc6_ := hc_ hR_
    refine y_thing k w ch h_k h_w h_ch (hrg_ hR_ hn6_) (hmc_ hR_) (fun hD_ => ?_) (fun hD_ => ?_) (fun hD_ => ?_)
    · exfalso; omega
    · refine fin2 h2_ (rfl) (relA (A := rf M 4) (rel_no hR_ 4 (by decide)) (fun a ha => by rw [← hN_]; exact (gr_up (by omega) fr_0) a ha)) (((fw_up (Or.inl (by decide)) rfl)).trans hF5_)
    · exfalso; omega
  · refine kont _ _ (by exact congrFun ((fr_up (by omega) (fr_up (by omega) (fr_up (by omega) (fr_up (by omega) (fr_up (by omega) (fr_up (by omega) (fr_up (by omega) fr_0))))))) 200 (by decide)) 50) (fun Pq2 h2_ => ?_)
    obtain ⟨N, hN_⟩ : ∃ N, N = addT M k w ch := ⟨_, rfl⟩
    rw [← hN_]
    have hNM_ : ∀ a, 200 ≤ a → N a = M a := fun a ha => by rw [hN_]; exact (fr_up (by omega) (fr_up (by omega) (fr_up (by omega) (fr_up (by omega) (fr_up (by omega) (fr_up (by omega) (fr_up (by omega) fr_0))))))) a ha
    have hR_ : Rel nn M N := relB h0_ hNM_
    have hF5_ : N 200 50 = M 200 50 := congrFun (hNM_ 200 (by decide)) 50
    have e_ := r_eq hR_
    have tc_ := eq_tc e_
    have lc_ := eq_lc e_
    have wc_ := eq_wc e_
    have bc_ := eq_bc e_
    have tb_ := eq_tb e_
    have sc_ := eq_sc e_
    have ec_ := eq_ec e_
    have h8_ := eq_h8 e_
    have h9_ := eq_h9 e_
    have h10_ := eq_h10 e_
    have h11_ := eq_h11 e_
    have hc6_ := hc_ hR_
    refine y_thing k w ch h_k h_w h_ch (hrg_ hR_ hn6_) (hmc_ hR_) (fun hD_ => ?_) (fun hD_ => ?_) (fun hD_ => ?_)
    · exfalso; omega
    · exfalso; omega
    · refine fin2 h2_ (tc_) (relA (A := addT M k w ch) (rel_thing (rel_s hR_) k w ch (by omega) (by omega)) (fun a ha => by rw [← hN_]; exact (gr_up (by omega) (gr_up (by omega) (gr_up (by omega) (gr_up (by omega) (gr_up (by omega) (gr_up (by omega) (gr_up (by omega) fr_0))))))) a ha)) ((fw_add rfl).trans hF5_)
set_option maxHeartbeats 1000000 in
theorem p_wipe {l : Launch} {M : Mem} {Pq : Option gV → Mem → Prop} {nn : Nat} (h0_ : Rel nn M M) (hn_ : nn ≤ 512) (kont : ∀ (r : Int) (M1 : Mem), M1 200 50 = M 200 50 → (∀ Pq2 : Option gV → Mem → Prop, (∀ M2, Rel (nn + 1) M2 M2 → M2 200 50 = M 200 50 → Pq2 (some (gI r)) M2) → gCtr l my_X12_wipe mb_X12_wipe 2 ((some .int)) 1 [gR 200] M1 Pq2) → Pq (some (gI r)) M1) : gCtr l my_X11_wipe mb_X11_wipe 2 ((some .int)) 1 [gR 0] M Pq := by
  have hn6_ : nn ≤ 600 := by omega
  refine x_wipe (?_)
  · refine kont _ _ (by exact congrFun ((fr_up (by omega) fr_0) 200 (by decide)) 50) (fun Pq2 h2_ => ?_)
    obtain ⟨N, hN_⟩ : ∃ N, N = up M 3 1 0 := ⟨_, rfl⟩
    rw [← hN_]
    have hNM_ : ∀ a, 200 ≤ a → N a = M a := fun a ha => by rw [hN_]; exact (fr_up (by omega) fr_0) a ha
    have hR_ : Rel nn M N := relB h0_ hNM_
    have hF5_ : N 200 50 = M 200 50 := congrFun (hNM_ 200 (by decide)) 50
    have e_ := r_eq hR_
    have tc_ := eq_tc e_
    have lc_ := eq_lc e_
    have wc_ := eq_wc e_
    have bc_ := eq_bc e_
    have tb_ := eq_tb e_
    have sc_ := eq_sc e_
    have ec_ := eq_ec e_
    have h8_ := eq_h8 e_
    have h9_ := eq_h9 e_
    have h10_ := eq_h10 e_
    have h11_ := eq_h11 e_
    refine y_wipe (?_)
    · refine fin2 h2_ ((r_tp hR_).2.1) (relA (A := up M 3 1 0) (rel_wipe (rel_s hR_)) (fun a ha => by rw [← hN_]; exact (gr_up (by omega) fr_0) a ha)) (((fw_up (Or.inr (by decide)) rfl)).trans hF5_)
