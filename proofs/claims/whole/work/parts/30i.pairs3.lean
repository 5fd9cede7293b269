set_option maxHeartbeats 1000000 in
theorem p_row {l : Launch} {M : Mem} {Pq : Option gV → Mem → Prop} {nn : Nat} (h0_ : Rel nn M M) (hn_ : nn ≤ 512) (sf : Int) (so : Int) (n : Int) (h_sf : inI sf) (h_so : inI so) (h_n : inI n) (kont : ∀ (r : Int) (M1 : Mem), M1 200 50 = M 200 50 → (∀ Pq2 : Option gV → Mem → Prop, (∀ M2, Rel (nn + 1) M2 M2 → M2 200 50 = M 200 50 → Pq2 (some (gI r)) M2) → gCtr l my_X12_row mb_X12_row 5 ((some .int)) 2 [gR 200, gI sf, gI so, gI n] M1 Pq2) → Pq (some (gI r)) M1) : gCtr l my_X11_row mb_X11_row 4 ((some .int)) 3 [gR 0, gI sf, gI so, gI n] M Pq := by
  have hn6_ : nn ≤ 600 := by omega
  refine x_row sf so n h_sf h_so h_n (hrf_ h0_ hn6_) (fun hC_ => ?_) (fun hC_ => ?_)
  · refine kont _ _ (by exact congrFun ((fr_up (by omega) fr_0) 200 (by decide)) 50) (fun Pq2 h2_ => ?_)
    obtain ⟨N, hN_⟩ : ∃ N, N = rf M 0 := ⟨_, rfl⟩
    rw [← hN_]
    have hNM_ : ∀ a, 200 ≤ a → N a = M a := fun a ha => by rw [hN_]; exact (fr_up (by omega) fr_0) a ha
    have hR_ : Rel nn M N := relB h0_ hNM_
    have hF5_ : N 200 50 = M 200 50 := congrFun (hNM_ 200 (by decide)) 50
    have e_ := r_eq hR_
    have tc_ := eq_tc e_
    have lc_ := eq_lc e_
    have wc_ := eq_wc e_
    have bc_ := eq_bc e_
    have tb_ := eq_tb e_
    have sc_ := eq_sc e_
    have ec_ := eq_ec e_
    have h8_ := eq_h8 e_
    have h9_ := eq_h9 e_
    have h10_ := eq_h10 e_
    have h11_ := eq_h11 e_
    refine y_row sf so n h_sf h_so h_n (hrg_ hR_ hn6_) (fun hD_ => ?_) (fun hD_ => ?_)
    · refine fin2 h2_ (rfl) (relA (A := rf M 0) (rel_no hR_ 0 (by decide)) (fun a ha => by rw [← hN_]; exact (gr_up (by omega) fr_0) a ha)) (((fw_up (Or.inl (by decide)) rfl)).trans hF5_)
    · exfalso; omega
  · refine kont _ _ (by exact congrFun ((fr_cp (by omega) (fr_up (by omega) (fr_up (by omega) fr_0))) 200 (by decide)) 50) (fun Pq2 h2_ => ?_)
    obtain ⟨N, hN_⟩ : ∃ N, N = tkR M sf so n := ⟨_, rfl⟩
    rw [← hN_]
    have hNM_ : ∀ a, 200 ≤ a → N a = M a := fun a ha => by rw [hN_]; exact (fr_cp (by omega) (fr_up (by omega) (fr_up (by omega) fr_0))) a ha
    have hR_ : Rel nn M N := relB h0_ hNM_
    have hF5_ : N 200 50 = M 200 50 := congrFun (hNM_ 200 (by decide)) 50
    have e_ := r_eq hR_
    have tc_ := eq_tc e_
    have lc_ := eq_lc e_
    have wc_ := eq_wc e_
    have bc_ := eq_bc e_
    have tb_ := eq_tb e_
    have sc_ := eq_sc e_
    have ec_ := eq_ec e_
    have h8_ := eq_h8 e_
    have h9_ := eq_h9 e_
    have h10_ := eq_h10 e_
    have h11_ := eq_h11 e_
    refine y_row sf so n h_sf h_so h_n (hrg_ hR_ hn6_) (fun hD_ => ?_) (fun hD_ => ?_)
    · exfalso; omega
    · refine fin2 h2_ (rfl) (relA (A := tkR M sf so n) (rel_row (rel_s hR_) (by omega) (by omega) (by omega)) (fun a ha => by rw [← hN_]; exact (gr_cp (by omega) (gr_up (by omega) (gr_up (by omega) fr_0))) a ha)) (((fw_cp (by decide) (fw_up (Or.inl (by decide)) (fw_up (Or.inl (by decide)) rfl)))).trans hF5_)
set_option maxHeartbeats 1000000 in
theorem p_set {l : Launch} {M : Mem} {Pq : Option gV → Mem → Prop} {nn : Nat} (h0_ : Rel nn M M) (hn_ : nn ≤ 512) (sf : Int) (i : Int) (v : Int) (h_sf : inI sf) (h_i : inI i) (h_v : inL v) (kont : ∀ (r : Int) (M1 : Mem), M1 200 50 = M 200 50 → (∀ Pq2 : Option gV → Mem → Prop, (∀ M2, Rel (nn + 1) M2 M2 → M2 200 50 = M 200 50 → Pq2 (some (gI r)) M2) → gCtr l my_X12_set mb_X12_set 9 ((some .int)) 3 [gR 200, gI sf, gI i, gL v] M1 Pq2) → Pq (some (gI r)) M1) : gCtr l my_X11_set mb_X11_set 6 ((some .int)) 4 [gR 0, gI sf, gI i, gL v] M Pq := by
  have hn6_ : nn ≤ 600 := by omega
  refine x_set sf i v h_sf h_i h_v (hrf_ h0_ hn6_) (hsh_ h0_) (fun hC_ => ?_) (fun hC_ => ?_) (fun hC_ => ?_) (fun hC_ => ?_) (fun hC_ => ?_)
  · refine kont _ _ (by exact congrFun ((fr_up (by omega) fr_0) 200 (by decide)) 50) (fun Pq2 h2_ => ?_)
    obtain ⟨N, hN_⟩ : ∃ N, N = rf M 0 := ⟨_, rfl⟩
    rw [← hN_]
    have hNM_ : ∀ a, 200 ≤ a → N a = M a := fun a ha => by rw [hN_]; exact (fr_up (by omega) fr_0) a ha
    have hR_ : Rel nn M N := relB h0_ hNM_
    have hF5_ : N 200 50 = M 200 50 := congrFun (hNM_ 200 (by decide)) 50
    have e_ := r_eq hR_
    have tc_ := eq_tc e_
    have lc_ := eq_lc e_
    have wc_ := eq_wc e_
    have bc_ := eq_bc e_
    have tb_ := eq_tb e_
    have sc_ := eq_sc e_
    have ec_ := eq_ec e_
    have h8_ := eq_h8 e_
    have h9_ := eq_h9 e_
    have h10_ := eq_h10 e_
    have h11_ := eq_h11 e_
    have sh_ : 0 ≤ sf ∧ sf ≤ 7 → ((M (1 + 96 + 2 * sf.toNat) 1 = -1 ∧ N 201 sf.toNat = -1) ∨ ((0 ≤ M (1 + 96 + 2 * sf.toNat) 1 ∧ M (1 + 96 + 2 * sf.toNat) 1 ≤ 4) ∧ N 201 sf.toNat = 100 + M (1 + 96 + 2 * sf.toNat) 1) ∨ ((10 ≤ M (1 + 96 + 2 * sf.toNat) 1 ∧ M (1 + 96 + 2 * sf.toNat) 1 < 10 + M 6 6) ∧ N 201 sf.toNat = M (1 + 96 + 2 * sf.toNat) 1 - 10)) := fun z_ => (r_sh hR_ sf.toNat (by omega)).1
    have sl_ : 0 ≤ sf ∧ sf ≤ 7 → (0 ≤ M (1 + 96 + 2 * sf.toNat) 2 ∧ M (1 + 96 + 2 * sf.toNat) 2 ≤ 40 ∧ N 202 sf.toNat = M (1 + 96 + 2 * sf.toNat) 2) := fun z_ => (r_sh hR_ sf.toNat (by omega)).2.1
    have hc6_ := hc_ hR_
    refine y_set sf i v h_sf h_i h_v (hrg_ hR_ hn6_) (hho_ hR_) (hmc_ hR_) (fun hD_ => ?_) (fun hD_ => ?_) (fun hD_ => ?_) (fun hD_ => ?_) (fun hD_ => ?_)
    · refine fin2 h2_ (rfl) (relA (A := rf M 0) (rel_no hR_ 0 (by decide)) (fun a ha => by rw [← hN_]; exact (gr_up (by omega) fr_0) a ha)) (((fw_up (Or.inl (by decide)) rfl)).trans hF5_)
    · exfalso; omega
    · exfalso; omega
    · exfalso; omega
    · exfalso; omega
  · refine kont _ _ (by exact congrFun ((fr_up (by omega) fr_0) 200 (by decide)) 50) (fun Pq2 h2_ => ?_)
    obtain ⟨N, hN_⟩ : ∃ N, N = rf M 1 := ⟨_, rfl⟩
    rw [← hN_]
    have hNM_ : ∀ a, 200 ≤ a → N a = M a := fun a ha => by rw [hN_]; exact (fr_up (by omega) fr_0) a ha
    have hR_ : Rel nn M N := relB h0_ hNM_
    have hF5_ : N 200 50 = M 200 50 := congrFun (hNM_ 200 (by decide)) 50
    have e_ := r_eq hR_
    have tc_ := eq_tc e_
    have lc_ := eq_lc e_
    have wc_ := eq_wc e_
    have bc_ := eq_bc e_
    have tb_ := eq_tb e_
    have sc_ := eq_sc e_
    have ec_ := eq_ec e_
    have h8_ := eq_h8 e_
    have h9_ := eq_h9 e_
    have h10_ := eq_h10 e_
    have h11_ := eq_h11 e_
    have sh_ : 0 ≤ sf ∧ sf ≤ 7 → ((M (1 + 96 + 2 * sf.toNat) 1 = -1 ∧ N 201 sf.toNat = -1) ∨ ((0 ≤ M (1 + 96 + 2 * sf.toNat) 1 ∧ M (1 + 96 + 2 * sf.toNat) 1 ≤ 4) ∧ N 201 sf.toNat = 100 + M (1 + 96 + 2 * sf.toNat) 1) ∨ ((10 ≤ M (1 + 96 + 2 * sf.toNat) 1 ∧ M (1 + 96 + 2 * sf.toNat) 1 < 10 + M 6 6) ∧ N 201 sf.toNat = M (1 + 96 + 2 * sf.toNat) 1 - 10)) := fun z_ => (r_sh hR_ sf.toNat (by omega)).1
    have sl_ : 0 ≤ sf ∧ sf ≤ 7 → (0 ≤ M (1 + 96 + 2 * sf.toNat) 2 ∧ M (1 + 96 + 2 * sf.toNat) 2 ≤ 40 ∧ N 202 sf.toNat = M (1 + 96 + 2 * sf.toNat) 2) := fun z_ => (r_sh hR_ sf.toNat (by omega)).2.1
    have hc6_ := hc_ hR_
    refine y_set sf i v h_sf h_i h_v (hrg_ hR_ hn6_) (hho_ hR_) (hmc_ hR_) (fun hD_ => ?_) (fun hD_ => ?_) (fun hD_ => ?_) (fun hD_ => ?_) (fun hD_ => ?_)
    · exfalso; omega
    · refine fin2 h2_ (rfl) (relA (A := rf M 1) (rel_no hR_ 1 (by decide)) (fun a ha => by rw [← hN_]; exact (gr_up (by omega) fr_0) a ha)) (((fw_up (Or.inl (by decide)) rfl)).trans hF5_)
    · exfalso; omega
    · exfalso; omega
    · exfalso; omega
  · refine kont _ _ (by exact congrFun ((fr_up (by omega) fr_0) 200 (by decide)) 50) (fun Pq2 h2_ => ?_)
    obtain ⟨N, hN_⟩ : ∃ N, N = rf M 2 := ⟨_, rfl⟩
    rw [← hN_]
    have hNM_ : ∀ a, 200 ≤ a → N a = M a := fun a ha => by rw [hN_]; exact (fr_up (by omega) fr_0) a ha
    have hR_ : Rel nn M N := relB h0_ hNM_
    have hF5_ : N 200 50 = M 200 50 := congrFun (hNM_ 200 (by decide)) 50
    have e_ := r_eq hR_
    have tc_ := eq_tc e_
    have lc_ := eq_lc e_
    have wc_ := eq_wc e_
    have bc_ := eq_bc e_
    have tb_ := eq_tb e_
    have sc_ := eq_sc e_
    have ec_ := eq_ec e_
    have h8_ := eq_h8 e_
    have h9_ := eq_h9 e_
    have h10_ := eq_h10 e_
    have h11_ := eq_h11 e_
    have sh_ : 0 ≤ sf ∧ sf ≤ 7 → ((M (1 + 96 + 2 * sf.toNat) 1 = -1 ∧ N 201 sf.toNat = -1) ∨ ((0 ≤ M (1 + 96 + 2 * sf.toNat) 1 ∧ M (1 + 96 + 2 * sf.toNat) 1 ≤ 4) ∧ N 201 sf.toNat = 100 + M (1 + 96 + 2 * sf.toNat) 1) ∨ ((10 ≤ M (1 + 96 + 2 * sf.toNat) 1 ∧ M (1 + 96 + 2 * sf.toNat) 1 < 10 + M 6 6) ∧ N 201 sf.toNat = M (1 + 96 + 2 * sf.toNat) 1 - 10)) := fun z_ => (r_sh hR_ sf.toNat (by omega)).1
    have sl_ : 0 ≤ sf ∧ sf ≤ 7 → (0 ≤ M (1 + 96 + 2 * sf.toNat) 2 ∧ M (1 + 96 + 2 * sf.toNat) 2 ≤ 40 ∧ N 202 sf.toNat = M (1 + 96 + 2 * sf.toNat) 2) := fun z_ => (r_sh hR_ sf.toNat (by omega)).2.1
    have hc6_ := hc_ hR_
    refine y_set sf i v h_sf h_i h_v (hrg_ hR_ hn6_) (hho_ hR_) (hmc_ hR_) (fun hD_ => ?_) (fun hD_ => ?_) (fun hD_ => ?_) (fun hD_ => ?_) (fun hD_ => ?_)
    · exfalso; omega
    · exfalso; omega
    · refine fin2 h2_ (rfl) (relA (A := rf M 2) (rel_no hR_ 2 (by decide)) (fun a ha => by rw [← hN_]; exact (gr_up (by omega) fr_0) a ha)) (((fw_up (Or.inl (by decide)) rfl)).trans hF5_)
    · exfalso; omega
    · exfalso; omega
  · refine kont _ _ (by exact congrFun ((fr_up (by omega) fr_0) 200 (by decide)) 50) (fun Pq2 h2_ => ?_)
    obtain ⟨N, hN_⟩ : ∃ N, N = rf M 0 := ⟨_, rfl⟩
    rw [← hN_]
    have hNM_ : ∀ a, 200 ≤ a → N a = M a := fun a ha => by rw [hN_]; exact (fr_up (by omega) fr_0) a ha
    have hR_ : Rel nn M N := relB h0_ hNM_
    have hF5_ : N 200 50 = M 200 50 := congrFun (hNM_ 200 (by decide)) 50
    have e_ := r_eq hR_
    have tc_ := eq_tc e_
    have lc_ := eq_lc e_
    have wc_ := eq_wc e_
    have bc_ := eq_bc e_
    have tb_ := eq_tb e_
    have sc_ := eq_sc e_
    have ec_ := eq_ec e_
    have h8_ := eq_h8 e_
    have h9_ := eq_h9 e_
    have h10_ := eq_h10 e_
    have h11_ := eq_h11 e_
    have sh_ : 0 ≤ sf ∧ sf ≤ 7 → ((M (1 + 96 + 2 * sf.toNat) 1 = -1 ∧ N 201 sf.toNat = -1) ∨ ((0 ≤ M (1 + 96 + 2 * sf.toNat) 1 ∧ M (1 + 96 + 2 * sf.toNat) 1 ≤ 4) ∧ N 201 sf.toNat = 100 + M (1 + 96 + 2 * sf.toNat) 1) ∨ ((10 ≤ M (1 + 96 + 2 * sf.toNat) 1 ∧ M (1 + 96 + 2 * sf.toNat) 1 < 10 + M 6 6) ∧ N 201 sf.toNat = M (1 + 96 + 2 * sf.toNat) 1 - 10)) := fun z_ => (r_sh hR_ sf.toNat (by omega)).1
    have sl_ : 0 ≤ sf ∧ sf ≤ 7 → (0 ≤ M (1 + 96 + 2 * sf.toNat) 2 ∧ M (1 + 96 + 2 * sf.toNat) 2 ≤ 40 ∧ N 202 sf.toNat = M (1 + 96 + 2 * sf.toNat) 2) := fun z_ => (r_sh hR_ sf.toNat (by omega)).2.1
    have hc6_ := hc_ hR_
    refine y_set sf i v h_sf h_i h_v (hrg_ hR_ hn6_) (hho_ hR_) (hmc_ hR_) (fun hD_ => ?_) (fun hD_ => ?_) (fun hD_ => ?_) (fun hD_ => ?_) (fun hD_ => ?_)
    · exfalso; omega
    · exfalso; omega
    · exfalso; omega
    · refine fin2 h2_ (rfl) (relA (A := rf M 0) (rel_no hR_ 0 (by decide)) (fun a ha => by rw [← hN_]; exact (gr_up (by omega) fr_0) a ha)) (((fw_up (Or.inl (by decide)) rfl)).trans hF5_)
    · exfalso; omega
  · refine kont _ _ (by exact congrFun ((fr_up (by omega) fr_0) 200 (by decide)) 50) (fun Pq2 h2_ => ?_)
    obtain ⟨N, hN_⟩ : ∃ N, N = up M (1 + 96 + 2 * sf.toNat + 1) i.toNat (ctS (M (1 + 96 + 2 * sf.toNat) 1) v) := ⟨_, rfl⟩
    rw [← hN_]
    have hNM_ : ∀ a, 200 ≤ a → N a = M a := fun a ha => by rw [hN_]; exact (fr_up (by omega) fr_0) a ha
    have hR_ : Rel nn M N := relB h0_ hNM_
    have hF5_ : N 200 50 = M 200 50 := congrFun (hNM_ 200 (by decide)) 50
    have e_ := r_eq hR_
    have tc_ := eq_tc e_
    have lc_ := eq_lc e_
    have wc_ := eq_wc e_
    have bc_ := eq_bc e_
    have tb_ := eq_tb e_
    have sc_ := eq_sc e_
    have ec_ := eq_ec e_
    have h8_ := eq_h8 e_
    have h9_ := eq_h9 e_
    have h10_ := eq_h10 e_
    have h11_ := eq_h11 e_
    have sh_ : 0 ≤ sf ∧ sf ≤ 7 → ((M (1 + 96 + 2 * sf.toNat) 1 = -1 ∧ N 201 sf.toNat = -1) ∨ ((0 ≤ M (1 + 96 + 2 * sf.toNat) 1 ∧ M (1 + 96 + 2 * sf.toNat) 1 ≤ 4) ∧ N 201 sf.toNat = 100 + M (1 + 96 + 2 * sf.toNat) 1) ∨ ((10 ≤ M (1 + 96 + 2 * sf.toNat) 1 ∧ M (1 + 96 + 2 * sf.toNat) 1 < 10 + M 6 6) ∧ N 201 sf.toNat = M (1 + 96 + 2 * sf.toNat) 1 - 10)) := fun z_ => (r_sh hR_ sf.toNat (by omega)).1
    have sl_ : 0 ≤ sf ∧ sf ≤ 7 → (0 ≤ M (1 + 96 + 2 * sf.toNat) 2 ∧ M (1 + 96 + 2 * sf.toNat) 2 ≤ 40 ∧ N 202 sf.toNat = M (1 + 96 + 2 * sf.toNat) 2) := fun z_ => (r_sh hR_ sf.toNat (by omega)).2.1
    have hc6_ := hc_ hR_
    refine y_set sf i v h_sf h_i h_v (hrg_ hR_ hn6_) (hho_ hR_) (hmc_ hR_) (fun hD_ => ?_) (fun hD_ => ?_) (fun hD_ => ?_) (fun hD_ => ?_) (fun hD_ => ?_)
    · exfalso; omega
    · exfalso; omega
    · exfalso; omega
    · exfalso; omega
    · refine fin2 h2_ (rfl) (relA (A := up M (1 + 96 + 2 * sf.toNat + 1) i.toNat (ctS (M (1 + 96 + 2 * sf.toNat) 1) v)) (by rw [show N 201 sf.toNat - 100 = M (1 + 96 + 2 * sf.toNat) 1 by omega]; exact rel_set (rel_s hR_) (by omega) (by omega)) (fun a ha => by rw [← hN_]; exact (gr_up (by omega) fr_0) a ha)) (((fw_up (Or.inl (by decide)) rfl)).trans hF5_)
set_option maxHeartbeats 1000000 in
theorem p_copy {l : Launch} {M : Mem} {Pq : Option gV → Mem → Prop} {nn : Nat} (h0_ : Rel nn M M) (hn_ : nn ≤ 512) (sp : Int) (sq : Int) (i : Int) (j : Int) (n : Int) (h_sp : inI sp) (h_sq : inI sq) (h_i : inI i) (h_j : inI j) (h_n : inI n) (kont : ∀ (r : Int) (M1 : Mem), M1 200 50 = M 200 50 → (∀ Pq2 : Option gV → Mem → Prop, (∀ M2, Rel (nn + 1) M2 M2 → M2 200 50 = M 200 50 → Pq2 (some (gI r)) M2) → gCtr l my_X12_copy mb_X12_copy 7 ((some .int)) 2 [gR 200, gI sp, gI sq, gI i, gI j, gI n] M1 Pq2) → Pq (some (gI r)) M1) : gCtr l my_X11_copy mb_X11_copy 8 ((some .int)) 3 [gR 0, gI sp, gI sq, gI i, gI j, gI n] M Pq := by
  have hn6_ : nn ≤ 600 := by omega
  refine x_copy sp sq i j n h_sp h_sq h_i h_j h_n (hrf_ h0_ hn6_) (hsh_ h0_) (fun hC_ => ?_) (fun hC_ => ?_) (fun hC_ => ?_) (fun hC_ => ?_) (fun hC_ => ?_)
  · refine kont _ _ (by exact congrFun ((fr_up (by omega) fr_0) 200 (by decide)) 50) (fun Pq2 h2_ => ?_)
    obtain ⟨N, hN_⟩ : ∃ N, N = rf M 0 := ⟨_, rfl⟩
    rw [← hN_]
    have hNM_ : ∀ a, 200 ≤ a → N a = M a := fun a ha => by rw [hN_]; exact (fr_up (by omega) fr_0) a ha
    have hR_ : Rel nn M N := relB h0_ hNM_
    have hF5_ : N 200 50 = M 200 50 := congrFun (hNM_ 200 (by decide)) 50
    have e_ := r_eq hR_
    have tc_ := eq_tc e_
    have lc_ := eq_lc e_
    have wc_ := eq_wc e_
    have bc_ := eq_bc e_
    have tb_ := eq_tb e_
    have sc_ := eq_sc e_
    have ec_ := eq_ec e_
    have h8_ := eq_h8 e_
    have h9_ := eq_h9 e_
    have h10_ := eq_h10 e_
    have h11_ := eq_h11 e_
    have sh_ : 0 ≤ sp ∧ sp ≤ 7 → ((M (1 + 96 + 2 * sp.toNat) 1 = -1 ∧ N 201 sp.toNat = -1) ∨ ((0 ≤ M (1 + 96 + 2 * sp.toNat) 1 ∧ M (1 + 96 + 2 * sp.toNat) 1 ≤ 4) ∧ N 201 sp.toNat = 100 + M (1 + 96 + 2 * sp.toNat) 1) ∨ ((10 ≤ M (1 + 96 + 2 * sp.toNat) 1 ∧ M (1 + 96 + 2 * sp.toNat) 1 < 10 + M 6 6) ∧ N 201 sp.toNat = M (1 + 96 + 2 * sp.toNat) 1 - 10)) := fun z_ => (r_sh hR_ sp.toNat (by omega)).1
    have sl_ : 0 ≤ sp ∧ sp ≤ 7 → (0 ≤ M (1 + 96 + 2 * sp.toNat) 2 ∧ M (1 + 96 + 2 * sp.toNat) 2 ≤ 40 ∧ N 202 sp.toNat = M (1 + 96 + 2 * sp.toNat) 2) := fun z_ => (r_sh hR_ sp.toNat (by omega)).2.1
    have sh2_ : 0 ≤ sq ∧ sq ≤ 7 → ((M (1 + 96 + 2 * sq.toNat) 1 = -1 ∧ N 201 sq.toNat = -1) ∨ ((0 ≤ M (1 + 96 + 2 * sq.toNat) 1 ∧ M (1 + 96 + 2 * sq.toNat) 1 ≤ 4) ∧ N 201 sq.toNat = 100 + M (1 + 96 + 2 * sq.toNat) 1) ∨ ((10 ≤ M (1 + 96 + 2 * sq.toNat) 1 ∧ M (1 + 96 + 2 * sq.toNat) 1 < 10 + M 6 6) ∧ N 201 sq.toNat = M (1 + 96 + 2 * sq.toNat) 1 - 10)) := fun z_ => (r_sh hR_ sq.toNat (by omega)).1
    have sl2_ : 0 ≤ sq ∧ sq ≤ 7 → (0 ≤ M (1 + 96 + 2 * sq.toNat) 2 ∧ M (1 + 96 + 2 * sq.toNat) 2 ≤ 40 ∧ N 202 sq.toNat = M (1 + 96 + 2 * sq.toNat) 2) := fun z_ => (r_sh hR_ sq.toNat (by omega)).2.1
    have hc6_ := hc_ hR_
    refine y_copy sp sq i j n h_sp h_sq h_i h_j h_n (hrg_ hR_ hn6_) (hho_ hR_) (hmc_ hR_) (fun hD_ => ?_) (fun hD_ => ?_) (fun hD_ => ?_) (fun hD_ => ?_) (fun hD_ => ?_)
    · refine fin2 h2_ (rfl) (relA (A := rf M 0) (rel_no hR_ 0 (by decide)) (fun a ha => by rw [← hN_]; exact (gr_up (by omega) fr_0) a ha)) (((fw_up (Or.inl (by decide)) rfl)).trans hF5_)
    · exfalso; omega
    · exfalso; omega
    · exfalso; omega
    · exfalso; omega
  · refine kont _ _ (by exact congrFun ((fr_up (by omega) fr_0) 200 (by decide)) 50) (fun Pq2 h2_ => ?_)
    obtain ⟨N, hN_⟩ : ∃ N, N = rf M 1 := ⟨_, rfl⟩
    rw [← hN_]
    have hNM_ : ∀ a, 200 ≤ a → N a = M a := fun a ha => by rw [hN_]; exact (fr_up (by omega) fr_0) a ha
    have hR_ : Rel nn M N := relB h0_ hNM_
    have hF5_ : N 200 50 = M 200 50 := congrFun (hNM_ 200 (by decide)) 50
    have e_ := r_eq hR_
    have tc_ := eq_tc e_
    have lc_ := eq_lc e_
    have wc_ := eq_wc e_
    have bc_ := eq_bc e_
    have tb_ := eq_tb e_
    have sc_ := eq_sc e_
    have ec_ := eq_ec e_
    have h8_ := eq_h8 e_
    have h9_ := eq_h9 e_
    have h10_ := eq_h10 e_
    have h11_ := eq_h11 e_
    have sh_ : 0 ≤ sp ∧ sp ≤ 7 → ((M (1 + 96 + 2 * sp.toNat) 1 = -1 ∧ N 201 sp.toNat = -1) ∨ ((0 ≤ M (1 + 96 + 2 * sp.toNat) 1 ∧ M (1 + 96 + 2 * sp.toNat) 1 ≤ 4) ∧ N 201 sp.toNat = 100 + M (1 + 96 + 2 * sp.toNat) 1) ∨ ((10 ≤ M (1 + 96 + 2 * sp.toNat) 1 ∧ M (1 + 96 + 2 * sp.toNat) 1 < 10 + M 6 6) ∧ N 201 sp.toNat = M (1 + 96 + 2 * sp.toNat) 1 - 10)) := fun z_ => (r_sh hR_ sp.toNat (by omega)).1
    have sl_ : 0 ≤ sp ∧ sp ≤ 7 → (0 ≤ M (1 + 96 + 2 * sp.toNat) 2 ∧ M (1 + 96 + 2 * sp.toNat) 2 ≤ 40 ∧ N 202 sp.toNat = M (1 + 96 + 2 * sp.toNat) 2) := fun z_ => (r_sh hR_ sp.toNat (by omega)).2.1
    have sh2_ : 0 ≤ sq ∧ sq ≤ 7 → ((M (1 + 96 + 2 * sq.toNat) 1 = -1 ∧ N 201 sq.toNat = -1) ∨ ((0 ≤ M (1 + 96 + 2 * sq.toNat) 1 ∧ M (1 + 96 + 2 * sq.toNat) 1 ≤ 4) ∧ N 201 sq.toNat = 100 + M (1 + 96 + 2 * sq.toNat) 1) ∨ ((10 ≤ M (1 + 96 + 2 * sq.toNat) 1 ∧ M (1 + 96 + 2 * sq.toNat) 1 < 10 + M 6 6) ∧ N 201 sq.toNat = M (1 + 96 + 2 * sq.toNat) 1 - 10)) := fun z_ => (r_sh hR_ sq.toNat (by omega)).1
    have sl2_ : 0 ≤ sq ∧ sq ≤ 7 → (0 ≤ M (1 + 96 + 2 * sq.toNat) 2 ∧ M (1 + 96 + 2 * sq.toNat) 2 ≤ 40 ∧ N 202 sq.toNat = M (1 + 96 + 2 * sq.toNat) 2) := fun z_ => (r_sh hR_ sq.toNat (by omega)).2.1
    have hc6_ := hc_ hR_
    refine y_copy sp sq i j n h_sp h_sq h_i h_j h_n (hrg_ hR_ hn6_) (hho_ hR_) (hmc_ hR_) (fun hD_ => ?_) (fun hD_ => ?_) (fun hD_ => ?_) (fun hD_ => ?_) (fun hD_ => ?_)
    · exfalso; omega
    · refine fin2 h2_ (rfl) (relA (A := rf M 1) (rel_no hR_ 1 (by decide)) (fun a ha => by rw [← hN_]; exact (gr_up (by omega) fr_0) a ha)) (((fw_up (Or.inl (by decide)) rfl)).trans hF5_)
    · exfalso; omega
    · exfalso; omega
    · exfalso; omega
  · refine kont _ _ (by exact congrFun ((fr_up (by omega) fr_0) 200 (by decide)) 50) (fun Pq2 h2_ => ?_)
    obtain ⟨N, hN_⟩ : ∃ N, N = rf M 2 := ⟨_, rfl⟩
    rw [← hN_]
    have hNM_ : ∀ a, 200 ≤ a → N a = M a := fun a ha => by rw [hN_]; exact (fr_up (by omega) fr_0) a ha
    have hR_ : Rel nn M N := relB h0_ hNM_
    have hF5_ : N 200 50 = M 200 50 := congrFun (hNM_ 200 (by decide)) 50
    have e_ := r_eq hR_
    have tc_ := eq_tc e_
    have lc_ := eq_lc e_
    have wc_ := eq_wc e_
    have bc_ := eq_bc e_
    have tb_ := eq_tb e_
    have sc_ := eq_sc e_
    have ec_ := eq_ec e_
    have h8_ := eq_h8 e_
    have h9_ := eq_h9 e_
    have h10_ := eq_h10 e_
    have h11_ := eq_h11 e_
    have sh_ : 0 ≤ sp ∧ sp ≤ 7 → ((M (1 + 96 + 2 * sp.toNat) 1 = -1 ∧ N 201 sp.toNat = -1) ∨ ((0 ≤ M (1 + 96 + 2 * sp.toNat) 1 ∧ M (1 + 96 + 2 * sp.toNat) 1 ≤ 4) ∧ N 201 sp.toNat = 100 + M (1 + 96 + 2 * sp.toNat) 1) ∨ ((10 ≤ M (1 + 96 + 2 * sp.toNat) 1 ∧ M (1 + 96 + 2 * sp.toNat) 1 < 10 + M 6 6) ∧ N 201 sp.toNat = M (1 + 96 + 2 * sp.toNat) 1 - 10)) := fun z_ => (r_sh hR_ sp.toNat (by omega)).1
    have sl_ : 0 ≤ sp ∧ sp ≤ 7 → (0 ≤ M (1 + 96 + 2 * sp.toNat) 2 ∧ M (1 + 96 + 2 * sp.toNat) 2 ≤ 40 ∧ N 202 sp.toNat = M (1 + 96 + 2 * sp.toNat) 2) := fun z_ => (r_sh hR_ sp.toNat (by omega)).2.1
    have sh2_ : 0 ≤ sq ∧ sq ≤ 7 → ((M (1 + 96 + 2 * sq.toNat) 1 = -1 ∧ N 201 sq.toNat = -1) ∨ ((0 ≤ M (1 + 96 + 2 * sq.toNat) 1 ∧ M (1 + 96 + 2 * sq.toNat) 1 ≤ 4) ∧ N 201 sq.toNat = 100 + M (1 + 96 + 2 * sq.toNat) 1) ∨ ((10 ≤ M (1 + 96 + 2 * sq.toNat) 1 ∧ M (1 + 96 + 2 * sq.toNat) 1 < 10 + M 6 6) ∧ N 201 sq.toNat = M (1 + 96 + 2 * sq.toNat) 1 - 10)) := fun z_ => (r_sh hR_ sq.toNat (by omega)).1
    have sl2_ : 0 ≤ sq ∧ sq ≤ 7 → (0 ≤ M (1 + 96 + 2 * sq.toNat) 2 ∧ M (1 + 96 + 2 * sq.toNat) 2 ≤ 40 ∧ N 202 sq.toNat = M (1 + 96 + 2 * sq.toNat) 2) := fun z_ => (r_sh hR_ sq.toNat (by omega)).2.1
    have hc6_ := hc_ hR_
    refine y_copy sp sq i j n h_sp h_sq h_i h_j h_n (hrg_ hR_ hn6_) (hho_ hR_) (hmc_ hR_) (fun hD_ => ?_) (fun hD_ => ?_) (fun hD_ => ?_) (fun hD_ => ?_) (fun hD_ => ?_)
    · exfalso; omega
    · exfalso; omega
    · refine fin2 h2_ (rfl) (relA (A := rf M 2) (rel_no hR_ 2 (by decide)) (fun a ha => by rw [← hN_]; exact (gr_up (by omega) fr_0) a ha)) (((fw_up (Or.inl (by decide)) rfl)).trans hF5_)
    · exfalso; omega
    · exfalso; omega
  · refine kont _ _ (by exact congrFun ((fr_up (by omega) fr_0) 200 (by decide)) 50) (fun Pq2 h2_ => ?_)
    obtain ⟨N, hN_⟩ : ∃ N, N = rf M 0 := ⟨_, rfl⟩
    rw [← hN_]
    have hNM_ : ∀ a, 200 ≤ a → N a = M a := fun a ha => by rw [hN_]; exact (fr_up (by omega) fr_0) a ha
    have hR_ : Rel nn M N := relB h0_ hNM_
    have hF5_ : N 200 50 = M 200 50 := congrFun (hNM_ 200 (by decide)) 50
    have e_ := r_eq hR_
    have tc_ := eq_tc e_
    have lc_ := eq_lc e_
    have wc_ := eq_wc e_
    have bc_ := eq_bc e_
    have tb_ := eq_tb e_
    have sc_ := eq_sc e_
    have ec_ := eq_ec e_
    have h8_ := eq_h8 e_
    have h9_ := eq_h9 e_
    have h10_ := eq_h10 e_
    have h11_ := eq_h11 e_
    have sh_ : 0 ≤ sp ∧ sp ≤ 7 → ((M (1 + 96 + 2 * sp.toNat) 1 = -1 ∧ N 201 sp.toNat = -1) ∨ ((0 ≤ M (1 + 96 + 2 * sp.toNat) 1 ∧ M (1 + 96 + 2 * sp.toNat) 1 ≤ 4) ∧ N 201 sp.toNat = 100 + M (1 + 96 + 2 * sp.toNat) 1) ∨ ((10 ≤ M (1 + 96 + 2 * sp.toNat) 1 ∧ M (1 + 96 + 2 * sp.toNat) 1 < 10 + M 6 6) ∧ N 201 sp.toNat = M (1 + 96 + 2 * sp.toNat) 1 - 10)) := fun z_ => (r_sh hR_ sp.toNat (by omega)).1
    have sl_ : 0 ≤ sp ∧ sp ≤ 7 → (0 ≤ M (1 + 96 + 2 * sp.toNat) 2 ∧ M (1 + 96 + 2 * sp.toNat) 2 ≤ 40 ∧ N 202 sp.toNat = M (1 + 96 + 2 * sp.toNat) 2) := fun z_ => (r_sh hR_ sp.toNat (by omega)).2.1
    have sh2_ : 0 ≤ sq ∧ sq ≤ 7 → ((M (1 + 96 + 2 * sq.toNat) 1 = -1 ∧ N 201 sq.toNat = -1) ∨ ((0 ≤ M (1 + 96 + 2 * sq.toNat) 1 ∧ M (1 + 96 + 2 * sq.toNat) 1 ≤ 4) ∧ N 201 sq.toNat = 100 + M (1 + 96 + 2 * sq.toNat) 1) ∨ ((10 ≤ M (1 + 96 + 2 * sq.toNat) 1 ∧ M (1 + 96 + 2 * sq.toNat) 1 < 10 + M 6 6) ∧ N 201 sq.toNat = M (1 + 96 + 2 * sq.toNat) 1 - 10)) := fun z_ => (r_sh hR_ sq.toNat (by omega)).1
    have sl2_ : 0 ≤ sq ∧ sq ≤ 7 → (0 ≤ M (1 + 96 + 2 * sq.toNat) 2 ∧ M (1 + 96 + 2 * sq.toNat) 2 ≤ 40 ∧ N 202 sq.toNat = M (1 + 96 + 2 * sq.toNat) 2) := fun z_ => (r_sh hR_ sq.toNat (by omega)).2.1
    have hc6_ := hc_ hR_
    refine y_copy sp sq i j n h_sp h_sq h_i h_j h_n (hrg_ hR_ hn6_) (hho_ hR_) (hmc_ hR_) (fun hD_ => ?_) (fun hD_ => ?_) (fun hD_ => ?_) (fun hD_ => ?_) (fun hD_ => ?_)
    · exfalso; omega
    · exfalso; omega
    · exfalso; omega
    · refine fin2 h2_ (rfl) (relA (A := rf M 0) (rel_no hR_ 0 (by decide)) (fun a ha => by rw [← hN_]; exact (gr_up (by omega) fr_0) a ha)) (((fw_up (Or.inl (by decide)) rfl)).trans hF5_)
    · exfalso; omega
  · refine kont _ _ (by exact congrFun ((fr_cp (by omega) fr_0) 200 (by decide)) 50) (fun Pq2 h2_ => ?_)
    obtain ⟨N, hN_⟩ : ∃ N, N = cp M (1 + 96 + 2 * sq.toNat + 1) (M (1 + 96 + 2 * sp.toNat + 1)) i.toNat j.toNat n.toNat := ⟨_, rfl⟩
    rw [← hN_]
    have hNM_ : ∀ a, 200 ≤ a → N a = M a := fun a ha => by rw [hN_]; exact (fr_cp (by omega) fr_0) a ha
    have hR_ : Rel nn M N := relB h0_ hNM_
    have hF5_ : N 200 50 = M 200 50 := congrFun (hNM_ 200 (by decide)) 50
    have e_ := r_eq hR_
    have tc_ := eq_tc e_
    have lc_ := eq_lc e_
    have wc_ := eq_wc e_
    have bc_ := eq_bc e_
    have tb_ := eq_tb e_
    have sc_ := eq_sc e_
    have ec_ := eq_ec e_
    have h8_ := eq_h8 e_
    have h9_ := eq_h9 e_
    have h10_ := eq_h10 e_
    have h11_ := eq_h11 e_
    have sh_ : 0 ≤ sp ∧ sp ≤ 7 → ((M (1 + 96 + 2 * sp.toNat) 1 = -1 ∧ N 201 sp.toNat = -1) ∨ ((0 ≤ M (1 + 96 + 2 * sp.toNat) 1 ∧ M (1 + 96 + 2 * sp.toNat) 1 ≤ 4) ∧ N 201 sp.toNat = 100 + M (1 + 96 + 2 * sp.toNat) 1) ∨ ((10 ≤ M (1 + 96 + 2 * sp.toNat) 1 ∧ M (1 + 96 + 2 * sp.toNat) 1 < 10 + M 6 6) ∧ N 201 sp.toNat = M (1 + 96 + 2 * sp.toNat) 1 - 10)) := fun z_ => (r_sh hR_ sp.toNat (by omega)).1
    have sl_ : 0 ≤ sp ∧ sp ≤ 7 → (0 ≤ M (1 + 96 + 2 * sp.toNat) 2 ∧ M (1 + 96 + 2 * sp.toNat) 2 ≤ 40 ∧ N 202 sp.toNat = M (1 + 96 + 2 * sp.toNat) 2) := fun z_ => (r_sh hR_ sp.toNat (by omega)).2.1
    have sh2_ : 0 ≤ sq ∧ sq ≤ 7 → ((M (1 + 96 + 2 * sq.toNat) 1 = -1 ∧ N 201 sq.toNat = -1) ∨ ((0 ≤ M (1 + 96 + 2 * sq.toNat) 1 ∧ M (1 + 96 + 2 * sq.toNat) 1 ≤ 4) ∧ N 201 sq.toNat = 100 + M (1 + 96 + 2 * sq.toNat) 1) ∨ ((10 ≤ M (1 + 96 + 2 * sq.toNat) 1 ∧ M (1 + 96 + 2 * sq.toNat) 1 < 10 + M 6 6) ∧ N 201 sq.toNat = M (1 + 96 + 2 * sq.toNat) 1 - 10)) := fun z_ => (r_sh hR_ sq.toNat (by omega)).1
    have sl2_ : 0 ≤ sq ∧ sq ≤ 7 → (0 ≤ M (1 + 96 + 2 * sq.toNat) 2 ∧ M (1 + 96 + 2 * sq.toNat) 2 ≤ 40 ∧ N 202 sq.toNat = M (1 + 96 + 2 * sq.toNat) 2) := fun z_ => (r_sh hR_ sq.toNat (by omega)).2.1
    have hc6_ := hc_ hR_
    refine y_copy sp sq i j n h_sp h_sq h_i h_j h_n (hrg_ hR_ hn6_) (hho_ hR_) (hmc_ hR_) (fun hD_ => ?_) (fun hD_ => ?_) (fun hD_ => ?_) (fun hD_ => ?_) (fun hD_ => ?_)
    · exfalso; omega
    · exfalso; omega
    · exfalso; omega
    · exfalso; omega
    · refine fin2 h2_ (rfl) (relA (A := cp M (1 + 96 + 2 * sq.toNat + 1) (M (1 + 96 + 2 * sp.toNat + 1)) i.toNat j.toNat n.toNat) (rel_copy (rel_s hR_) (by omega) (by omega) (by omega) (by omega) (by omega)) (fun a ha => by rw [← hN_]; exact (gr_cp (by omega) fr_0) a ha)) (((fw_cp (by decide) rfl)).trans hF5_)
set_option maxHeartbeats 1000000 in
theorem p_show {l : Launch} {M : Mem} {Pq : Option gV → Mem → Prop} {nn : Nat} (h0_ : Rel nn M M) (hn_ : nn ≤ 512) (sf : Int) (t : Int) (h_sf : inI sf) (h_t : inI t) (kont : ∀ (r : Int) (M1 : Mem), M1 200 50 = M 200 50 → (∀ Pq2 : Option gV → Mem → Prop, (∀ M2, Rel (nn + 1) M2 M2 → M2 200 50 = M 200 50 → Pq2 (some (gI r)) M2) → gCtr l my_X12_show mb_X12_show 3 ((some .int)) 2 [gR 200, gI sf, gI t] M1 Pq2) → Pq (some (gI r)) M1) : gCtr l my_X11_show mb_X11_show 3 ((some .int)) 3 [gR 0, gI sf, gI t] M Pq := by
  have hn6_ : nn ≤ 600 := by omega
  refine x_show sf t h_sf h_t (hrf_ h0_ hn6_) (hc_ h0_) (fun hC_ => ?_) (fun hC_ => ?_) (fun hC_ => ?_)
  · refine kont _ _ (by exact congrFun ((fr_up (by omega) fr_0) 200 (by decide)) 50) (fun Pq2 h2_ => ?_)
    obtain ⟨N, hN_⟩ : ∃ N, N = rf M 0 := ⟨_, rfl⟩
    rw [← hN_]
    have hNM_ : ∀ a, 200 ≤ a → N a = M a := fun a ha => by rw [hN_]; exact (fr_up (by omega) fr_0) a ha
    have hR_ : Rel nn M N := relB h0_ hNM_
    have hF5_ : N 200 50 = M 200 50 := congrFun (hNM_ 200 (by decide)) 50
    have e_ := r_eq hR_
    have tc_ := eq_tc e_
    have lc_ := eq_lc e_
    have wc_ := eq_wc e_
    have bc_ := eq_bc e_
    have tb_ := eq_tb e_
    have sc_ := eq_sc e_
    have ec_ := eq_ec e_
    have h8_ := eq_h8 e_
    have h9_ := eq_h9 e_
    have h10_ := eq_h10 e_
    have h11_ := eq_h11 e_
    have hc6_ := hc_ hR_
    refine y_show sf t h_sf h_t (hrg_ hR_ hn6_) (fun hD_ => ?_) (fun hD_ => ?_)
    · refine fin2 h2_ (rfl) (relA (A := rf M 0) (rel_no hR_ 0 (by decide)) (fun a ha => by rw [← hN_]; exact (gr_up (by omega) fr_0) a ha)) (((fw_up (Or.inl (by decide)) rfl)).trans hF5_)
    · exfalso; omega
  · refine kont _ _ (by exact congrFun ((fr_up (by omega) fr_0) 200 (by decide)) 50) (fun Pq2 h2_ => ?_)
    obtain ⟨N, hN_⟩ : ∃ N, N = up M (1 + 96 + 2 * sf.toNat) 1 (-1) := ⟨_, rfl⟩
    rw [← hN_]
    have hNM_ : ∀ a, 200 ≤ a → N a = M a := fun a ha => by rw [hN_]; exact (fr_up (by omega) fr_0) a ha
    have hR_ : Rel nn M N := relB h0_ hNM_
    have hF5_ : N 200 50 = M 200 50 := congrFun (hNM_ 200 (by decide)) 50
    have e_ := r_eq hR_
    have tc_ := eq_tc e_
    have lc_ := eq_lc e_
    have wc_ := eq_wc e_
    have bc_ := eq_bc e_
    have tb_ := eq_tb e_
    have sc_ := eq_sc e_
    have ec_ := eq_ec e_
    have h8_ := eq_h8 e_
    have h9_ := eq_h9 e_
    have h10_ := eq_h10 e_
    have h11_ := eq_h11 e_
    have hc6_ := hc_ hR_
    refine y_show sf t h_sf h_t (hrg_ hR_ hn6_) (fun hD_ => ?_) (fun hD_ => ?_)
    · exfalso; omega
    · refine fin2 h2_ (rfl) (relA (A := up M (1 + 96 + 2 * sf.toNat) 1 (-1)) (rel_show (rel_s hR_) (by omega) (by omega)) (fun a ha => by rw [← hN_]; exact (gr_up (by omega) fr_0) a ha)) (((fw_up (Or.inl (by decide)) rfl)).trans hF5_)
  · refine kont _ _ (by exact congrFun ((fr_up (by omega) fr_0) 200 (by decide)) 50) (fun Pq2 h2_ => ?_)
    obtain ⟨N, hN_⟩ : ∃ N, N = up M (1 + 96 + 2 * sf.toNat) 1 (10 + t) := ⟨_, rfl⟩
    rw [← hN_]
    have hNM_ : ∀ a, 200 ≤ a → N a = M a := fun a ha => by rw [hN_]; exact (fr_up (by omega) fr_0) a ha
    have hR_ : Rel nn M N := relB h0_ hNM_
    have hF5_ : N 200 50 = M 200 50 := congrFun (hNM_ 200 (by decide)) 50
    have e_ := r_eq hR_
    have tc_ := eq_tc e_
    have lc_ := eq_lc e_
    have wc_ := eq_wc e_
    have bc_ := eq_bc e_
    have tb_ := eq_tb e_
    have sc_ := eq_sc e_
    have ec_ := eq_ec e_
    have h8_ := eq_h8 e_
    have h9_ := eq_h9 e_
    have h10_ := eq_h10 e_
    have h11_ := eq_h11 e_
    have hc6_ := hc_ hR_
    refine y_show sf t h_sf h_t (hrg_ hR_ hn6_) (fun hD_ => ?_) (fun hD_ => ?_)
    · exfalso; omega
    · refine fin2 h2_ (rfl) (relA (A := up M (1 + 96 + 2 * sf.toNat) 1 (10 + t)) (rel_show (rel_s hR_) (by omega) (by omega)) (fun a ha => by rw [← hN_]; exact (gr_up (by omega) fr_0) a ha)) (((fw_up (Or.inl (by decide)) rfl)).trans hF5_)
set_option maxHeartbeats 1000000 in
theorem p_things {l : Launch} {M : Mem} {Pq : Option gV → Mem → Prop} {nn : Nat} (h0_ : Rel nn M M) (hn_ : nn ≤ 512) (sf : Int) (k : Int) (n : Int) (h_sf : inI sf) (h_k : inI k) (h_n : inI n) (kont : ∀ (r : Int) (M1 : Mem), M1 200 50 = M 200 50 → (∀ Pq2 : Option gV → Mem → Prop, (∀ M2, Rel (nn + 1) M2 M2 → M2 200 50 = M 200 50 → Pq2 (some (gI r)) M2) → gCtr l my_X12_things mb_X12_things 8 ((some .int)) 3 [gR 200, gI sf, gI k, gI n] M1 Pq2) → Pq (some (gI r)) M1) : gCtr l my_X11_things mb_X11_things 9 ((some .int)) 4 [gR 0, gI sf, gI k, gI n] M Pq := by
  have hn6_ : nn ≤ 600 := by omega
  refine x_things sf k n h_sf h_k h_n (hrf_ h0_ hn6_) (hsh_ h0_) (hc_ h0_) (fun hC_ => ?_) (fun hC_ => ?_) (fun hC_ => ?_) (fun hC_ => ?_) (fun i hC_ => ?_)
  · refine kont _ _ (by exact congrFun ((fr_up (by omega) fr_0) 200 (by decide)) 50) (fun Pq2 h2_ => ?_)
    obtain ⟨N, hN_⟩ : ∃ N, N = rf M 0 := ⟨_, rfl⟩
    rw [← hN_]
    have hNM_ : ∀ a, 200 ≤ a → N a = M a := fun a ha => by rw [hN_]; exact (fr_up (by omega) fr_0) a ha
    have hR_ : Rel nn M N := relB h0_ hNM_
    have hF5_ : N 200 50 = M 200 50 := congrFun (hNM_ 200 (by decide)) 50
    have e_ := r_eq hR_
    have tc_ := eq_tc e_
    have lc_ := eq_lc e_
    have wc_ := eq_wc e_
    have bc_ := eq_bc e_
    have tb_ := eq_tb e_
    have sc_ := eq_sc e_
    have ec_ := eq_ec e_
    have h8_ := eq_h8 e_
    have h9_ := eq_h9 e_
    have h10_ := eq_h10 e_
    have h11_ := eq_h11 e_
    have sh_ : 0 ≤ sf ∧ sf ≤ 7 → ((M (1 + 96 + 2 * sf.toNat) 1 = -1 ∧ N 201 sf.toNat = -1) ∨ ((0 ≤ M (1 + 96 + 2 * sf.toNat) 1 ∧ M (1 + 96 + 2 * sf.toNat) 1 ≤ 4) ∧ N 201 sf.toNat = 100 + M (1 + 96 + 2 * sf.toNat) 1) ∨ ((10 ≤ M (1 + 96 + 2 * sf.toNat) 1 ∧ M (1 + 96 + 2 * sf.toNat) 1 < 10 + M 6 6) ∧ N 201 sf.toNat = M (1 + 96 + 2 * sf.toNat) 1 - 10)) := fun z_ => (r_sh hR_ sf.toNat (by omega)).1
    have sl_ : 0 ≤ sf ∧ sf ≤ 7 → (0 ≤ M (1 + 96 + 2 * sf.toNat) 2 ∧ M (1 + 96 + 2 * sf.toNat) 2 ≤ 40 ∧ N 202 sf.toNat = M (1 + 96 + 2 * sf.toNat) 2) := fun z_ => (r_sh hR_ sf.toNat (by omega)).2.1
    have hc6_ := hc_ hR_
    refine y_things sf k n h_sf h_k h_n (hrg_ hR_ hn6_) (hho_ hR_) (hmc_ hR_) (fun hD_ => ?_) (fun hD_ => ?_) (fun hD_ => ?_) (fun hD_ => ?_) (fun i hD_ => ?_)
    · refine fin2 h2_ (rfl) (relA (A := rf M 0) (rel_no hR_ 0 (by decide)) (fun a ha => by rw [← hN_]; exact (gr_up (by omega) fr_0) a ha)) (((fw_up (Or.inl (by decide)) rfl)).trans hF5_)
    · exfalso; omega
    · exfalso; omega
    · exfalso; omega
    · exfalso; omega
  · refine kont _ _ (by exact congrFun ((fr_up (by omega) fr_0) 200 (by decide)) 50) (fun Pq2 h2_ => ?_)
    obtain ⟨N, hN_⟩ : ∃ N, N = rf M 1 := ⟨_, rfl⟩
    rw [← hN_]
    have hNM_ : ∀ a, 200 ≤ a → N a = M a := fun a ha => by rw [hN_]; exact (fr_up (by omega) fr_0) a ha
    have hR_ : Rel nn M N := relB h0_ hNM_
    have hF5_ : N 200 50 = M 200 50 := congrFun (hNM_ 200 (by decide)) 50
    have e_ := r_eq hR_
    have tc_ := eq_tc e_
    have lc_ := eq_lc e_
    have wc_ := eq_wc e_
    have bc_ := eq_bc e_
    have tb_ := eq_tb e_
    have sc_ := eq_sc e_
    have ec_ := eq_ec e_
    have h8_ := eq_h8 e_
    have h9_ := eq_h9 e_
    have h10_ := eq_h10 e_
    have h11_ := eq_h11 e_
    have sh_ : 0 ≤ sf ∧ sf ≤ 7 → ((M (1 + 96 + 2 * sf.toNat) 1 = -1 ∧ N 201 sf.toNat = -1) ∨ ((0 ≤ M (1 + 96 + 2 * sf.toNat) 1 ∧ M (1 + 96 + 2 * sf.toNat) 1 ≤ 4) ∧ N 201 sf.toNat = 100 + M (1 + 96 + 2 * sf.toNat) 1) ∨ ((10 ≤ M (1 + 96 + 2 * sf.toNat) 1 ∧ M (1 + 96 + 2 * sf.toNat) 1 < 10 + M 6 6) ∧ N 201 sf.toNat = M (1 + 96 + 2 * sf.toNat) 1 - 10)) := fun z_ => (r_sh hR_ sf.toNat (by omega)).1
    have sl_ : 0 ≤ sf ∧ sf ≤ 7 → (0 ≤ M (1 + 96 + 2 * sf.toNat) 2 ∧ M (1 + 96 + 2 * sf.toNat) 2 ≤ 40 ∧ N 202 sf.toNat = M (1 + 96 + 2 * sf.toNat) 2) := fun z_ => (r_sh hR_ sf.toNat (by omega)).2.1
    have hc6_ := hc_ hR_
    refine y_things sf k n h_sf h_k h_n (hrg_ hR_ hn6_) (hho_ hR_) (hmc_ hR_) (fun hD_ => ?_) (fun hD_ => ?_) (fun hD_ => ?_) (fun hD_ => ?_) (fun i hD_ => ?_)
    · exfalso; omega
    · refine fin2 h2_ (rfl) (relA (A := rf M 1) (rel_no hR_ 1 (by decide)) (fun a ha => by rw [← hN_]; exact (gr_up (by omega) fr_0) a ha)) (((fw_up (Or.inl (by decide)) rfl)).trans hF5_)
    · exfalso; omega
    · exfalso; omega
    · exfalso; omega
  · refine kont _ _ (by exact congrFun ((fr_up (by omega) fr_0) 200 (by decide)) 50) (fun Pq2 h2_ => ?_)
    obtain ⟨N, hN_⟩ : ∃ N, N = rf M 2 := ⟨_, rfl⟩
    rw [← hN_]
    have hNM_ : ∀ a, 200 ≤ a → N a = M a := fun a ha => by rw [hN_]; exact (fr_up (by omega) fr_0) a ha
    have hR_ : Rel nn M N := relB h0_ hNM_
    have hF5_ : N 200 50 = M 200 50 := congrFun (hNM_ 200 (by decide)) 50
    have e_ := r_eq hR_
    have tc_ := eq_tc e_
    have lc_ := eq_lc e_
    have wc_ := eq_wc e_
    have bc_ := eq_bc e_
    have tb_ := eq_tb e_
    have sc_ := eq_sc e_
    have ec_ := eq_ec e_
    have h8_ := eq_h8 e_
    have h9_ := eq_h9 e_
    have h10_ := eq_h10 e_
    have h11_ := eq_h11 e_
    have sh_ : 0 ≤ sf ∧ sf ≤ 7 → ((M (1 + 96 + 2 * sf.toNat) 1 = -1 ∧ N 201 sf.toNat = -1) ∨ ((0 ≤ M (1 + 96 + 2 * sf.toNat) 1 ∧ M (1 + 96 + 2 * sf.toNat) 1 ≤ 4) ∧ N 201 sf.toNat = 100 + M (1 + 96 + 2 * sf.toNat) 1) ∨ ((10 ≤ M (1 + 96 + 2 * sf.toNat) 1 ∧ M (1 + 96 + 2 * sf.toNat) 1 < 10 + M 6 6) ∧ N 201 sf.toNat = M (1 + 96 + 2 * sf.toNat) 1 - 10)) := fun z_ => (r_sh hR_ sf.toNat (by omega)).1
    have sl_ : 0 ≤ sf ∧ sf ≤ 7 → (0 ≤ M (1 + 96 + 2 * sf.toNat) 2 ∧ M (1 + 96 + 2 * sf.toNat) 2 ≤ 40 ∧ N 202 sf.toNat = M (1 + 96 + 2 * sf.toNat) 2) := fun z_ => (r_sh hR_ sf.toNat (by omega)).2.1
    have hc6_ := hc_ hR_
    refine y_things sf k n h_sf h_k h_n (hrg_ hR_ hn6_) (hho_ hR_) (hmc_ hR_) (fun hD_ => ?_) (fun hD_ => ?_) (fun hD_ => ?_) (fun hD_ => ?_) (fun i hD_ => ?_)
    · exfalso; omega
    · exfalso; omega
    · refine fin2 h2_ (rfl) (relA (A := rf M 2) (rel_no hR_ 2 (by decide)) (fun a ha => by rw [← hN_]; exact (gr_up (by omega) fr_0) a ha)) (((fw_up (Or.inl (by decide)) rfl)).trans hF5_)
    · exfalso; omega
    · exfalso; omega
  · refine kont _ _ (by exact congrFun ((fr_up (by omega) fr_0) 200 (by decide)) 50) (fun Pq2 h2_ => ?_)
    obtain ⟨N, hN_⟩ : ∃ N, N = rf M 0 := ⟨_, rfl⟩
    rw [← hN_]
    have hNM_ : ∀ a, 200 ≤ a → N a = M a := fun a ha => by rw [hN_]; exact (fr_up (by omega) fr_0) a ha
    have hR_ : Rel nn M N := relB h0_ hNM_
    have hF5_ : N 200 50 = M 200 50 := congrFun (hNM_ 200 (by decide)) 50
    have e_ := r_eq hR_
    have tc_ := eq_tc e_
    have lc_ := eq_lc e_
    have wc_ := eq_wc e_
    have bc_ := eq_bc e_
    have tb_ := eq_tb e_
    have sc_ := eq_sc e_
    have ec_ := eq_ec e_
    have h8_ := eq_h8 e_
    have h9_ := eq_h9 e_
    have h10_ := eq_h10 e_
    have h11_ := eq_h11 e_
    have sh_ : 0 ≤ sf ∧ sf ≤ 7 → ((M (1 + 96 + 2 * sf.toNat) 1 = -1 ∧ N 201 sf.toNat = -1) ∨ ((0 ≤ M (1 + 96 + 2 * sf.toNat) 1 ∧ M (1 + 96 + 2 * sf.toNat) 1 ≤ 4) ∧ N 201 sf.toNat = 100 + M (1 + 96 + 2 * sf.toNat) 1) ∨ ((10 ≤ M (1 + 96 + 2 * sf.toNat) 1 ∧ M (1 + 96 + 2 * sf.toNat) 1 < 10 + M 6 6) ∧ N 201 sf.toNat = M (1 + 96 + 2 * sf.toNat) 1 - 10)) := fun z_ => (r_sh hR_ sf.toNat (by omega)).1
    have sl_ : 0 ≤ sf ∧ sf ≤ 7 → (0 ≤ M (1 + 96 + 2 * sf.toNat) 2 ∧ M (1 + 96 + 2 * sf.toNat) 2 ≤ 40 ∧ N 202 sf.toNat = M (1 + 96 + 2 * sf.toNat) 2) := fun z_ => (r_sh hR_ sf.toNat (by omega)).2.1
    have hc6_ := hc_ hR_
    refine y_things sf k n h_sf h_k h_n (hrg_ hR_ hn6_) (hho_ hR_) (hmc_ hR_) (fun hD_ => ?_) (fun hD_ => ?_) (fun hD_ => ?_) (fun hD_ => ?_) (fun i hD_ => ?_)
    · exfalso; omega
    · exfalso; omega
    · exfalso; omega
    · refine fin2 h2_ (rfl) (relA (A := rf M 0) (rel_no hR_ 0 (by decide)) (fun a ha => by rw [← hN_]; exact (gr_up (by omega) fr_0) a ha)) (((fw_up (Or.inl (by decide)) rfl)).trans hF5_)
    · exfalso; omega
  · refine kont _ _ (by exact congrFun ((fun a ha => thsM_o M _ k (by omega) _) 200 (by decide)) 50) (fun Pq2 h2_ => ?_)
    obtain ⟨N, hN_⟩ : ∃ N, N = thsM M (M (1 + 96 + 2 * sf.toNat + 1)) k i.toNat := ⟨_, rfl⟩
    rw [← hN_]
    have hNM_ : ∀ a, 200 ≤ a → N a = M a := fun a ha => by rw [hN_]; exact (fun a ha => thsM_o M _ k (by omega) _) a ha
    have hR_ : Rel nn M N := relB h0_ hNM_
    have hF5_ : N 200 50 = M 200 50 := congrFun (hNM_ 200 (by decide)) 50
    have e_ := r_eq hR_
    have tc_ := eq_tc e_
    have lc_ := eq_lc e_
    have wc_ := eq_wc e_
    have bc_ := eq_bc e_
    have tb_ := eq_tb e_
    have sc_ := eq_sc e_
    have ec_ := eq_ec e_
    have h8_ := eq_h8 e_
    have h9_ := eq_h9 e_
    have h10_ := eq_h10 e_
    have h11_ := eq_h11 e_
    have sh_ : 0 ≤ sf ∧ sf ≤ 7 → ((M (1 + 96 + 2 * sf.toNat) 1 = -1 ∧ N 201 sf.toNat = -1) ∨ ((0 ≤ M (1 + 96 + 2 * sf.toNat) 1 ∧ M (1 + 96 + 2 * sf.toNat) 1 ≤ 4) ∧ N 201 sf.toNat = 100 + M (1 + 96 + 2 * sf.toNat) 1) ∨ ((10 ≤ M (1 + 96 + 2 * sf.toNat) 1 ∧ M (1 + 96 + 2 * sf.toNat) 1 < 10 + M 6 6) ∧ N 201 sf.toNat = M (1 + 96 + 2 * sf.toNat) 1 - 10)) := fun z_ => (r_sh hR_ sf.toNat (by omega)).1
    have sl_ : 0 ≤ sf ∧ sf ≤ 7 → (0 ≤ M (1 + 96 + 2 * sf.toNat) 2 ∧ M (1 + 96 + 2 * sf.toNat) 2 ≤ 40 ∧ N 202 sf.toNat = M (1 + 96 + 2 * sf.toNat) 2) := fun z_ => (r_sh hR_ sf.toNat (by omega)).2.1
    have hc6_ := hc_ hR_
    refine y_things sf k n h_sf h_k h_n (hrg_ hR_ hn6_) (hho_ hR_) (hmc_ hR_) (fun hD_ => ?_) (fun hD_ => ?_) (fun hD_ => ?_) (fun hD_ => ?_) (fun i_y hD_ => ?_)
    · exfalso; omega
    · exfalso; omega
    · exfalso; omega
    · exfalso; omega
    · have hel_ : ∀ j : Nat, j < 40 → N 203 (40 * sf.toNat + j) = M (1 + 96 + 2 * sf.toNat + 1) j := (r_sh hR_ sf.toNat (by omega)).2.2
      have hie_ : i_y = i := by
        rcases Int.lt_trichotomy i i_y with z_ | z_ | z_
        · exfalso
          have q_ := hD_.2.2.1 i.toNat (by omega)
          simp only [hel_ i.toNat (by omega)] at q_
          rcases hC_.2.2.2.1 (by omega) with w_ | w_
          · exact w_ q_
          · omega
        · exact z_.symm
        · exfalso
          have q_ := hC_.2.2.1 i_y.toNat (by omega)
          rcases hD_.2.2.2.1 (by omega) with w_ | w_
          · simp only [hel_ i_y.toNat (by omega)] at w_
            exact w_ q_
          · omega
      refine fin2 h2_ (hie_) (relA (A := thsM M (M (1 + 96 + 2 * sf.toNat + 1)) k i.toNat) (by rw [hie_]; exact rel_things (rel_s hR_) (by omega) i.toNat (by omega) (fun j hj => ⟨hC_.2.2.1 j (by omega), hel_ j (by omega)⟩)) (fun a ha => by rw [← hN_]; exact (fun a ha => thsR_o N _ k (by omega) _) a ha)) ((fw_ths _).trans hF5_)
set_option maxHeartbeats 1000000 in
theorem p_feed {l : Launch} {M : Mem} {Pq : Option gV → Mem → Prop} {nn : Nat} (h0_ : Rel nn M M) (hn_ : nn ≤ 512) (v : Int) (n : Int) (h_v : inI v) (h_n : inI n) (kont : ∀ (r : Int) (M1 : Mem), M1 200 50 = M 200 50 → (∀ Pq2 : Option gV → Mem → Prop, (∀ M2, Rel (nn + 1) M2 M2 → M2 200 50 = M 200 50 → Pq2 (some (gI r)) M2) → gCtr l my_X12_feed mb_X12_feed 4 ((some .int)) 2 [gR 200, gI v, gI n] M1 Pq2) → Pq (some (gI r)) M1) : gCtr l my_X11_feed mb_X11_feed 3 ((some .int)) 3 [gR 0, gI v, gI n] M Pq := by
  have hn6_ : nn ≤ 600 := by omega
  refine x_feed v n h_v h_n (hrf_ h0_ hn6_) (hs_ h0_) (fun hC_ => ?_) (fun hC_ => ?_) (fun hC_ => ?_)
  · refine kont _ _ (by exact congrFun ((fr_up (by omega) fr_0) 200 (by decide)) 50) (fun Pq2 h2_ => ?_)
    obtain ⟨N, hN_⟩ : ∃ N, N = rf M 0 := ⟨_, rfl⟩
    rw [← hN_]
    have hNM_ : ∀ a, 200 ≤ a → N a = M a := fun a ha => by rw [hN_]; exact (fr_up (by omega) fr_0) a ha
    have hR_ : Rel nn M N := relB h0_ hNM_
    have hF5_ : N 200 50 = M 200 50 := congrFun (hNM_ 200 (by decide)) 50
    have e_ := r_eq hR_
    have tc_ := eq_tc e_
    have lc_ := eq_lc e_
    have wc_ := eq_wc e_
    have bc_ := eq_bc e_
    have tb_ := eq_tb e_
    have sc_ := eq_sc e_
    have ec_ := eq_ec e_
    have h8_ := eq_h8 e_
    have h9_ := eq_h9 e_
    have h10_ := eq_h10 e_
    have h11_ := eq_h11 e_
    have ts_ := (r_tp hR_).2.1
    refine y_feed v n h_v h_n (hrg_ hR_ hn6_) (hsm_ hR_) (fun hD_ => ?_) (fun hD_ => ?_) (fun hD_ => ?_)
    · refine fin2 h2_ (rfl) (relA (A := rf M 0) (rel_no hR_ 0 (by decide)) (fun a ha => by rw [← hN_]; exact (gr_up (by omega) fr_0) a ha)) (((fw_up (Or.inl (by decide)) rfl)).trans hF5_)
    · exfalso; omega
    · exfalso; omega
  · refine kont _ _ (by exact congrFun ((fr_up (by omega) fr_0) 200 (by decide)) 50) (fun Pq2 h2_ => ?_)
    obtain ⟨N, hN_⟩ : ∃ N, N = rf M 4 := ⟨_, rfl⟩
    rw [← hN_]
    have hNM_ : ∀ a, 200 ≤ a → N a = M a := fun a ha => by rw [hN_]; exact (fr_up (by omega) fr_0) a ha
    have hR_ : Rel nn M N := relB h0_ hNM_
    have hF5_ : N 200 50 = M 200 50 := congrFun (hNM_ 200 (by decide)) 50
    have e_ := r_eq hR_
    have tc_ := eq_tc e_
    have lc_ := eq_lc e_
    have wc_ := eq_wc e_
    have bc_ := eq_bc e_
    have tb_ := eq_tb e_
    have sc_ := eq_sc e_
    have ec_ := eq_ec e_
    have h8_ := eq_h8 e_
    have h9_ := eq_h9 e_
    have h10_ := eq_h10 e_
    have h11_ := eq_h11 e_
    have ts_ := (r_tp hR_).2.1
    refine y_feed v n h_v h_n (hrg_ hR_ hn6_) (hsm_ hR_) (fun hD_ => ?_) (fun hD_ => ?_) (fun hD_ => ?_)
    · exfalso; omega
    · refine fin2 h2_ (rfl) (relA (A := rf M 4) (rel_no hR_ 4 (by decide)) (fun a ha => by rw [← hN_]; exact (gr_up (by omega) fr_0) a ha)) (((fw_up (Or.inl (by decide)) rfl)).trans hF5_)
    · exfalso; omega
  · refine kont _ _ (by exact congrFun ((fr_up (by omega) (fr_sr (by omega) fr_0)) 200 (by decide)) 50) (fun Pq2 h2_ => ?_)
    obtain ⟨N, hN_⟩ : ∃ N, N = up (sr M 4 (apS (M 4) (M 3 1).toNat v n n.toNat)) 3 1 (M 3 1 + n) := ⟨_, rfl⟩
    rw [← hN_]
    have hNM_ : ∀ a, 200 ≤ a → N a = M a := fun a ha => by rw [hN_]; exact (fr_up (by omega) (fr_sr (by omega) fr_0)) a ha
    have hR_ : Rel nn M N := relB h0_ hNM_
    have hF5_ : N 200 50 = M 200 50 := congrFun (hNM_ 200 (by decide)) 50
    have e_ := r_eq hR_
    have tc_ := eq_tc e_
    have lc_ := eq_lc e_
    have wc_ := eq_wc e_
    have bc_ := eq_bc e_
    have tb_ := eq_tb e_
    have sc_ := eq_sc e_
    have ec_ := eq_ec e_
    have h8_ := eq_h8 e_
    have h9_ := eq_h9 e_
    have h10_ := eq_h10 e_
    have h11_ := eq_h11 e_
    have ts_ := (r_tp hR_).2.1
    refine y_feed v n h_v h_n (hrg_ hR_ hn6_) (hsm_ hR_) (fun hD_ => ?_) (fun hD_ => ?_) (fun hD_ => ?_)
    · exfalso; omega
    · exfalso; omega
    · refine fin2 h2_ (by omega) (relA (A := up (sr M 4 (apS (M 4) (M 3 1).toNat v n n.toNat)) 3 1 (M 3 1 + n)) (rel_feed (rel_s hR_) (by omega) (by omega)) (fun a ha => by rw [← hN_]; exact (gr_up (by omega) (gr_sr (by omega) fr_0)) a ha)) (((fw_up (Or.inr (by decide)) (fw_sr (by decide) rfl))).trans hF5_)
set_option maxHeartbeats 1000000 in
theorem p_law {l : Launch} {M : Mem} {Pq : Option gV → Mem → Prop} {nn : Nat} (h0_ : Rel nn M M) (hn_ : nn ≤ 512) (kont : ∀ (r : Int) (M1 : Mem), M1 200 50 = M 200 50 → (∀ Pq2 : Option gV → Mem → Prop, (∀ M2, Rel (nn + 1) M2 M2 → M2 200 50 = M 200 50 → Pq2 (some (gI r)) M2) → gCtr l my_X12_law mb_X12_law 2 ((some .int)) 8 [gR 200] M1 Pq2) → Pq (some (gI r)) M1) : gCtr l my_X11_law mb_X11_law 2 ((some .int)) 8 [gR 0] M Pq := by
  have hn6_ : nn ≤ 600 := by omega
  refine x_law (hrf_ h0_ hn6_) (hwc_ h0_) (hs_ h0_) (fun hC_ => ?_) (fun bb ee hC_ => ?_) (fun bb ee hC_ => ?_)
  · refine kont _ _ (by exact congrFun ((fr_up (by omega) fr_0) 200 (by decide)) 50) (fun Pq2 h2_ => ?_)
    obtain ⟨N, hN_⟩ : ∃ N, N = rf M 4 := ⟨_, rfl⟩
    rw [← hN_]
    have hNM_ : ∀ a, 200 ≤ a → N a = M a := fun a ha => by rw [hN_]; exact (fr_up (by omega) fr_0) a ha
    have hR_ : Rel nn M N := relB h0_ hNM_
    have hF5_ : N 200 50 = M 200 50 := congrFun (hNM_ 200 (by decide)) 50
    have e_ := r_eq hR_
    have tc_ := eq_tc e_
    have lc_ := eq_lc e_
    have wc_ := eq_wc e_
    have bc_ := eq_bc e_
    have tb_ := eq_tb e_
    have sc_ := eq_sc e_
    have ec_ := eq_ec e_
    have h8_ := eq_h8 e_
    have h9_ := eq_h9 e_
    have h10_ := eq_h10 e_
    have h11_ := eq_h11 e_
    have ts_ := (r_tp hR_).2.1
    have pe_ : PE (psR (M 4) (M 3 1).toNat ((M 3 1).toNat + 1) 0 (cpf (STF 0) (M 20) 0 0 5)) (psR (N 218) (N 200 16).toNat ((N 200 16).toNat + 1) 0 (STF 0)) := by rw [ts_]; exact psR_eq (fun j hj => (r_tp hR_).2.2 j (by omega)) _ 0 _ _ (Nat.zero_le _) (fun j hj => d0_same j hj)
    have pe2_ := pe_.2
    have pin_ := psR_in (f := M 4) (n := (M 3 1).toNat) ((M 3 1).toNat + 1) 0 (cpf (STF 0) (M 20) 0 0 5) (Nat.zero_le _)
    have wc6_ := hwc_ hR_
    refine y_law (hrg_ hR_ hn6_) (hmwc_ hR_) (hsm_ hR_) (fun hD_ => ?_) (fun hD_ => ?_) (fun hD_ => ?_)
    · refine fin2 h2_ (rfl) (relA (A := rf M 4) (rel_no hR_ 4 (by decide)) (fun a ha => by rw [← hN_]; exact (gr_up (by omega) fr_0) a ha)) (((fw_up (Or.inl (by decide)) rfl)).trans hF5_)
    · exfalso; omega
    · exfalso; omega
  · refine kont _ _ (by exact congrFun ((fr_up (by omega) (fr_cp (by omega) (fr_up (by omega) (fr_up (by omega) (fr_up (by omega) (fr_sr (by omega) fr_0)))))) 200 (by decide)) 50) (fun Pq2 h2_ => ?_)
    obtain ⟨N, hN_⟩ : ∃ N, N = up (cp (up (up (up (sr M 20 ((psR (M 4) (M 3 1).toNat ((M 3 1).toNat + 1) 0 (cpf (STF 0) (M 20) 0 0 5)).1)) 3 2 bb) 3 3 ee) 3 1 0) 19 (psR (M 4) (M 3 1).toNat ((M 3 1).toNat + 1) 0 (cpf (STF 0) (M 20) 0 0 5)).1 0 (M 18 2 * 5).toNat 5) 18 2 (M 18 2 + 1) := ⟨_, rfl⟩
    rw [← hN_]
    have hNM_ : ∀ a, 200 ≤ a → N a = M a := fun a ha => by rw [hN_]; exact (fr_up (by omega) (fr_cp (by omega) (fr_up (by omega) (fr_up (by omega) (fr_up (by omega) (fr_sr (by omega) fr_0)))))) a ha
    have hR_ : Rel nn M N := relB h0_ hNM_
    have hF5_ : N 200 50 = M 200 50 := congrFun (hNM_ 200 (by decide)) 50
    have e_ := r_eq hR_
    have tc_ := eq_tc e_
    have lc_ := eq_lc e_
    have wc_ := eq_wc e_
    have bc_ := eq_bc e_
    have tb_ := eq_tb e_
    have sc_ := eq_sc e_
    have ec_ := eq_ec e_
    have h8_ := eq_h8 e_
    have h9_ := eq_h9 e_
    have h10_ := eq_h10 e_
    have h11_ := eq_h11 e_
    have ts_ := (r_tp hR_).2.1
    have pe_ : PE (psR (M 4) (M 3 1).toNat ((M 3 1).toNat + 1) 0 (cpf (STF 0) (M 20) 0 0 5)) (psR (N 218) (N 200 16).toNat ((N 200 16).toNat + 1) 0 (STF 0)) := by rw [ts_]; exact psR_eq (fun j hj => (r_tp hR_).2.2 j (by omega)) _ 0 _ _ (Nat.zero_le _) (fun j hj => d0_same j hj)
    have pe2_ := pe_.2
    have pin_ := psR_in (f := M 4) (n := (M 3 1).toNat) ((M 3 1).toNat + 1) 0 (cpf (STF 0) (M 20) 0 0 5) (Nat.zero_le _)
    have wc6_ := hwc_ hR_
    refine y_law (hrg_ hR_ hn6_) (hmwc_ hR_) (hsm_ hR_) (fun hD_ => ?_) (fun hD_ => ?_) (fun hD_ => ?_)
    · exfalso; omega
    · refine fin2 h2_ (wc_) (relA (A := up (cp (up (up (up (sr M 20 ((psR (M 4) (M 3 1).toNat ((M 3 1).toNat + 1) 0 (cpf (STF 0) (M 20) 0 0 5)).1)) 3 2 bb) 3 3 ee) 3 1 0) 19 (psR (M 4) (M 3 1).toNat ((M 3 1).toNat + 1) 0 (cpf (STF 0) (M 20) 0 0 5)).1 0 (M 18 2 * 5).toNat 5) 18 2 (M 18 2 + 1)) (rel_law (rel_s hR_) (by omega) (psR_ok _ _ _ d0_ok) pe_.1) (fun a ha => by rw [← hN_]; exact (gr_up (by omega) (gr_up (by omega) (gr_cp (by omega) fr_0))) a ha)) (((fw_up (Or.inr (by decide)) (fw_up (Or.inr (by decide)) (fw_cp (by decide) rfl)))).trans hF5_)
    · exfalso; omega
  · refine kont _ _ (by exact congrFun ((fr_up (by omega) (fr_up (by omega) (fr_up (by omega) (fr_up (by omega) (fr_sr (by omega) fr_0))))) 200 (by decide)) 50) (fun Pq2 h2_ => ?_)
    obtain ⟨N, hN_⟩ : ∃ N, N = rf (up (up (up (sr M 20 ((psR (M 4) (M 3 1).toNat ((M 3 1).toNat + 1) 0 (cpf (STF 0) (M 20) 0 0 5)).1)) 3 2 bb) 3 3 ee) 3 1 0) 0 := ⟨_, rfl⟩
    rw [← hN_]
    have hNM_ : ∀ a, 200 ≤ a → N a = M a := fun a ha => by rw [hN_]; exact (fr_up (by omega) (fr_up (by omega) (fr_up (by omega) (fr_up (by omega) (fr_sr (by omega) fr_0))))) a ha
    have hR_ : Rel nn M N := relB h0_ hNM_
    have hF5_ : N 200 50 = M 200 50 := congrFun (hNM_ 200 (by decide)) 50
    have e_ := r_eq hR_
    have tc_ := eq_tc e_
    have lc_ := eq_lc e_
    have wc_ := eq_wc e_
    have bc_ := eq_bc e_
    have tb_ := eq_tb e_
    have sc_ := eq_sc e_
    have ec_ := eq_ec e_
    have h8_ := eq_h8 e_
    have h9_ := eq_h9 e_
    have h10_ := eq_h10 e_
    have h11_ := eq_h11 e_
    have ts_ := (r_tp hR_).2.1
    have pe_ : PE (psR (M 4) (M 3 1).toNat ((M 3 1).toNat + 1) 0 (cpf (STF 0) (M 20) 0 0 5)) (psR (N 218) (N 200 16).toNat ((N 200 16).toNat + 1) 0 (STF 0)) := by rw [ts_]; exact psR_eq (fun j hj => (r_tp hR_).2.2 j (by omega)) _ 0 _ _ (Nat.zero_le _) (fun j hj => d0_same j hj)
    have pe2_ := pe_.2
    have pin_ := psR_in (f := M 4) (n := (M 3 1).toNat) ((M 3 1).toNat + 1) 0 (cpf (STF 0) (M 20) 0 0 5) (Nat.zero_le _)
    have wc6_ := hwc_ hR_
    refine y_law (hrg_ hR_ hn6_) (hmwc_ hR_) (hsm_ hR_) (fun hD_ => ?_) (fun hD_ => ?_) (fun hD_ => ?_)
    · exfalso; omega
    · exfalso; omega
    · refine fin2 h2_ (by omega) (relA (A := rf (up (up (up (sr M 20 ((psR (M 4) (M 3 1).toNat ((M 3 1).toNat + 1) 0 (cpf (STF 0) (M 20) 0 0 5)).1)) 3 2 bb) 3 3 ee) 3 1 0) 0) (rel_no (rel_lawN hR_) 0 (by decide)) (fun a ha => by rw [← hN_]; exact (gr_up (by omega) (gr_up (by omega) (gr_cp (by omega) fr_0))) a ha)) (((fw_up (Or.inl (by decide)) (fw_up (Or.inr (by decide)) (fw_cp (by decide) rfl)))).trans hF5_)
