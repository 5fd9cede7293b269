/-! the numbered cells at the law's head -/
abbrev wX (cy : Nat → ClassId) (q : Nat → Nat) : va_W := [(q 0, .inr (11, fX q)), (q 1, .inl (cy 4, 8, .inr (.inr (.inr (.inr (shv q)))))), (q 2, .inl (cy 0, 5, .inl (fun _ => 0))), (q 3, .inr (9, fTape (fun k => q (3 + k)))), (q 4, .inl (cy 1, 120, .inl (fun _ => 0))), (q 5, .inr (1, fHall (fun k => q (5 + k)))), (q 6, .inr (10, fThings (fun k => q (6 + k)))), (q 7, .inl (cy 0, 30, .inl (fun _ => 0))), (q 8, .inl (cy 0, 30, .inl (fun _ => 0))), (q 9, .inl (cy 0, 30, .inl (fun _ => 0))), (q 10, .inl (cy 0, 30, .inl (fun _ => 0))), (q 11, .inl (cy 0, 30, .inl (fun _ => 0))), (q 12, .inl (cy 0, 30, .inl (fun _ => 0))), (q 13, .inl (cy 0, 30, .inl (fun _ => 0))), (q 14, .inr (2, fLadies (fun k => q (14 + k)))), (q 15, .inl (cy 0, 5, .inl (fun _ => 0))), (q 16, .inl (cy 0, 5, .inl (fun _ => 0))), (q 17, .inl (cy 0, 5, .inl (fun _ => 0))), (q 18, .inr (3, fLaws (fun k => q (18 + k)))), (q 19, .inl (cy 0, 30, .inl (fun _ => 0))), (q 20, .inl (cy 0, 5, .inl (fun _ => 0))), (q 21, .inr (0, fBuyers (fun k => q (21 + k)))), (q 22, .inl (cy 0, 12, .inl (fun _ => 0))), (q 23, .inl (cy 0, 12, .inl (fun _ => 0))), (q 24, .inl (cy 0, 12, .inl (fun _ => 0))), (q 25, .inl (cy 0, 12, .inl (fun _ => 0))), (q 26, .inl (cy 0, 12, .inl (fun _ => 0))), (q 27, .inr (8, fSightings (fun k => q (27 + k)))), (q 28, .inl (cy 0, 20, .inl (fun _ => 0))), (q 29, .inl (cy 0, 20, .inl (fun _ => 0))), (q 30, .inl (cy 0, 20, .inl (fun _ => 0))), (q 31, .inl (cy 0, 20, .inl (fun _ => 0))), (q 32, .inl (cy 0, 20, .inl (fun _ => 0))), (q 33, .inl (cy 0, 20, .inl (fun _ => 0))), (q 34, .inl (cy 0, 20, .inl (fun _ => 0))), (q 35, .inr (6, fSecrets (fun k => q (35 + k)))), (q 36, .inl (cy 0, 10, .inl (fun _ => 0))), (q 37, .inl (cy 0, 10, .inl (fun _ => 0))), (q 38, .inl (cy 0, 16, .inl (fun _ => 0))), (q 39, .inl (cy 0, 10, .inl (fun _ => 0))), (q 40, .inl (cy 0, 10, .inl (fun _ => 0))), (q 41, .inl (cy 0, 10, .inl (fun _ => 0))), (q 42, .inl (cy 0, 5, .inl (fun _ => 0))), (q 43, .inl (cy 0, 5, .inl (fun _ => 0))), (q 44, .inl (cy 0, 25, .inl (fun _ => 0))), (q 45, .inl (cy 0, 32, .inl (fun _ => 0))), (q 46, .inr (1, fHall (fun k => q (46 + k)))), (q 47, .inr (10, fThings (fun k => q (47 + k)))), (q 48, .inl (cy 0, 30, .inl (fun _ => 0))), (q 49, .inl (cy 0, 30, .inl (fun _ => 0))), (q 50, .inl (cy 0, 30, .inl (fun _ => 0))), (q 51, .inl (cy 0, 30, .inl (fun _ => 0))), (q 52, .inl (cy 0, 30, .inl (fun _ => 0))), (q 53, .inl (cy 0, 30, .inl (fun _ => 0))), (q 54, .inl (cy 0, 30, .inl (fun _ => 0))), (q 55, .inr (2, fLadies (fun k => q (55 + k)))), (q 56, .inl (cy 0, 5, .inl (fun _ => 0))), (q 57, .inl (cy 0, 5, .inl (fun _ => 0))), (q 58, .inl (cy 0, 5, .inl (fun _ => 0))), (q 59, .inr (3, fLaws (fun k => q (59 + k)))), (q 60, .inl (cy 0, 30, .inl (fun _ => 0))), (q 61, .inl (cy 0, 5, .inl (fun _ => 0))), (q 62, .inr (0, fBuyers (fun k => q (62 + k)))), (q 63, .inl (cy 0, 12, .inl (fun _ => 0))), (q 64, .inl (cy 0, 12, .inl (fun _ => 0))), (q 65, .inl (cy 0, 12, .inl (fun _ => 0))), (q 66, .inl (cy 0, 12, .inl (fun _ => 0))), (q 67, .inl (cy 0, 12, .inl (fun _ => 0))), (q 68, .inr (8, fSightings (fun k => q (68 + k)))), (q 69, .inl (cy 0, 20, .inl (fun _ => 0))), (q 70, .inl (cy 0, 20, .inl (fun _ => 0))), (q 71, .inl (cy 0, 20, .inl (fun _ => 0))), (q 72, .inl (cy 0, 20, .inl (fun _ => 0))), (q 73, .inl (cy 0, 20, .inl (fun _ => 0))), (q 74, .inl (cy 0, 20, .inl (fun _ => 0))), (q 75, .inl (cy 0, 20, .inl (fun _ => 0))), (q 76, .inr (6, fSecrets (fun k => q (76 + k)))), (q 77, .inl (cy 0, 10, .inl (fun _ => 0))), (q 78, .inl (cy 0, 10, .inl (fun _ => 0))), (q 79, .inl (cy 0, 16, .inl (fun _ => 0))), (q 80, .inl (cy 0, 10, .inl (fun _ => 0))), (q 81, .inl (cy 0, 10, .inl (fun _ => 0))), (q 82, .inl (cy 0, 10, .inl (fun _ => 0))), (q 83, .inl (cy 0, 5, .inl (fun _ => 0))), (q 84, .inl (cy 0, 5, .inl (fun _ => 0))), (q 85, .inl (cy 0, 25, .inl (fun _ => 0))), (q 86, .inl (cy 0, 32, .inl (fun _ => 0))), (q 87, .inr (5, fSale (fun k => q (87 + k)))), (q 88, .inl (cy 0, 30, .inl (fun _ => 0))), (q 89, .inl (cy 0, 30, .inl (fun _ => 0))), (q 90, .inl (cy 0, 30, .inl (fun _ => 0))), (q 91, .inl (cy 0, 30, .inl (fun _ => 0))), (q 92, .inl (cy 0, 12, .inl (fun _ => 0))), (q 93, .inl (cy 0, 12, .inl (fun _ => 0))), (q 94, .inr (4, fPicks (fun k => q (94 + k)))), (q 95, .inl (cy 0, 10000, .inl (fun _ => 0))), (q 96, .inl (cy 0, 201, .inl (fun _ => 0))), (q 97, .inr (7, fShelf (fun k => q (97 + k)))), (q 98, .inl (cy 2, 40, .inr (.inl (fun _ => 0)))), (q 99, .inr (7, fShelf (fun k => q (99 + k)))), (q 100, .inl (cy 2, 40, .inr (.inl (fun _ => 0)))), (q 101, .inr (7, fShelf (fun k => q (101 + k)))), (q 102, .inl (cy 2, 40, .inr (.inl (fun _ => 0)))), (q 103, .inr (7, fShelf (fun k => q (103 + k)))), (q 104, .inl (cy 2, 40, .inr (.inl (fun _ => 0)))), (q 105, .inr (7, fShelf (fun k => q (105 + k)))), (q 106, .inl (cy 2, 40, .inr (.inl (fun _ => 0)))), (q 107, .inr (7, fShelf (fun k => q (107 + k)))), (q 108, .inl (cy 2, 40, .inr (.inl (fun _ => 0)))), (q 109, .inr (7, fShelf (fun k => q (109 + k)))), (q 110, .inl (cy 2, 40, .inr (.inl (fun _ => 0)))), (q 111, .inr (7, fShelf (fun k => q (111 + k)))), (q 112, .inl (cy 2, 40, .inr (.inl (fun _ => 0))))]
abbrev wM (cy : Nat → ClassId) (q : Nat → Nat) : va_W := [(q 60, .inr (12, fM q)), (q 0, .inl (cy 0, 8, .inl (hold0))), (q 1, .inl (cy 0, 8, .inl (fun _ => 0))), (q 2, .inl (cy 2, 320, .inr (.inl (fun _ => 0)))), (q 4, .inl (cy 0, 30, .inl (fun _ => 0))), (q 5, .inl (cy 0, 30, .inl (fun _ => 0))), (q 6, .inl (cy 0, 30, .inl (fun _ => 0))), (q 7, .inl (cy 0, 30, .inl (fun _ => 0))), (q 8, .inl (cy 0, 30, .inl (fun _ => 0))), (q 9, .inl (cy 0, 30, .inl (fun _ => 0))), (q 11, .inl (cy 0, 5, .inl (fun _ => 0))), (q 12, .inl (cy 0, 5, .inl (fun _ => 0))), (q 13, .inl (cy 0, 5, .inl (fun _ => 0))), (q 15, .inl (cy 0, 30, .inl (fun _ => 0))), (q 17, .inl (cy 0, 120, .inl (fun _ => 0))), (q 19, .inl (cy 0, 12, .inl (fun _ => 0))), (q 20, .inl (cy 0, 12, .inl (fun _ => 0))), (q 21, .inl (cy 0, 12, .inl (fun _ => 0))), (q 22, .inl (cy 0, 12, .inl (fun _ => 0))), (q 23, .inl (cy 0, 12, .inl (fun _ => 0))), (q 25, .inl (cy 0, 5, .inl (fun _ => 0))), (q 27, .inl (cy 0, 20, .inl (fun _ => 0))), (q 28, .inl (cy 0, 20, .inl (fun _ => 0))), (q 29, .inl (cy 0, 20, .inl (fun _ => 0))), (q 30, .inl (cy 0, 20, .inl (fun _ => 0))), (q 32, .inl (cy 0, 10, .inl (fun _ => 0))), (q 33, .inl (cy 0, 10, .inl (fun _ => 0))), (q 34, .inl (cy 0, 16, .inl (fun _ => 0))), (q 35, .inl (cy 0, 4, .inl (hours0))), (q 36, .inl (cy 0, 7, .inl (fun _ => 0))), (q 38, .inl (cy 0, 460, .inl (fun _ => 0))), (q 39, .inl (cy 0, 7, .inl (fun _ => 0))), (q 40, .inl (cy 3, 30, .inl (fun _ => 0))), (q 41, .inl (cy 0, 12, .inl (fun _ => 0))), (q 42, .inl (cy 0, 6231, .inl (fun _ => 0))), (q 43, .inl (cy 0, 20, .inl (fun _ => 0))), (q 44, .inl (cy 0, 20, .inl (fun _ => 0))), (q 45, .inl (cy 0, 20, .inl (fun _ => 0))), (q 46, .inl (cy 0, 20, .inl (fun _ => 0))), (q 47, .inl (cy 0, 30, .inl (fun _ => 0))), (q 48, .inl (cy 0, 5, .inl (fun _ => 0))), (q 49, .inl (cy 0, 25, .inl (fun _ => 0)))]
def M0 : Mem := fun k j => if k = 5 ∨ k = 46 then (if j = 8 ∨ j = 9 then 12 else 0) else if k = 87 then (if j = 0 ∨ j = 1 then 12 else 0) else if 97 ≤ k ∧ k ≤ 111 ∧ k % 2 = 1 then (if j = 1 then -1 else 0) else if k = 201 then (if j < 8 then -1 else 0) else if k = 236 then (if j < 2 then 12 else 0) else 0
def Qn (q u : Nat → Nat) (b : Nat) (ad : Nat → Nat) : Nat → Nat := fun k => if k < 113 then q k else if k = 200 then u 60 else if k < 300 then u (k - 201) else if k = 300 then b else ad k
theorem m0_in (k j : Nat) : -1 ≤ M0 k j ∧ M0 k j ≤ 12 := by
  unfold M0
  (repeat' split) <;> omega
theorem m0_wf : wf M0 := fun k j => ⟨fun _ => by have := m0_in k j; omega, fun _ => by have := m0_in k j; omega⟩
theorem arr_cg {cA : ClassId} {n : Nat} {f g : Nat → Value} (h : ∀ j, j < n → f j = g j) : arrV cA n f = arrV cA n g := by
  have e : (fun j : Fin n => f j.val) = (fun j : Fin n => g j.val) := funext (fun j => h j.val j.isLt)
  unfold arrV
  rw [e]
theorem kd0 : KDm M0 = KD := by
  unfold KDm
  exact if_pos rfl
theorem fvs_0 (q : Nat → Nat) (M : Mem) (k : Nat) : fvs q M k 0 = [.ref (q (k + 1)), .ref (q (k + 2)), .ref (q (k + 3)), .ref (q (k + 4)), .ref (q (k + 5)), .int (Int32.ofInt (M k 5))] := by
  unfold fvs
  show List.mapIdx _ [((1, 1) : gF), ((1, 2) : gF), ((1, 3) : gF), ((1, 4) : gF), ((1, 5) : gF), ((0, 0) : gF)] = _
  simp only [List.mapIdx_cons, List.mapIdx_nil]
  rfl
theorem fvs_1 (q : Nat → Nat) (M : Mem) (k : Nat) : fvs q M k 1 = [.ref (q (k + 1)), .ref (q (k + 9)), .ref (q (k + 13)), .ref (q (k + 16)), .ref (q (k + 22)), .ref (q (k + 30)), .ref (q (k + 38)), .int (Int32.ofInt (M k 7)), .int (Int32.ofInt (M k 8)), .int (Int32.ofInt (M k 9)), .int (Int32.ofInt (M k 10)), .int (Int32.ofInt (M k 11)), .ref (q (k + 39)), .ref (q (k + 40))] := by
  unfold fvs
  show List.mapIdx _ [((1, 1) : gF), ((1, 9) : gF), ((1, 13) : gF), ((1, 16) : gF), ((1, 22) : gF), ((1, 30) : gF), ((1, 38) : gF), ((0, 0) : gF), ((0, 0) : gF), ((0, 0) : gF), ((0, 0) : gF), ((0, 0) : gF), ((1, 39) : gF), ((1, 40) : gF)] = _
  simp only [List.mapIdx_cons, List.mapIdx_nil]
  rfl
theorem fvs_2 (q : Nat → Nat) (M : Mem) (k : Nat) : fvs q M k 2 = [.ref (q (k + 1)), .ref (q (k + 2)), .ref (q (k + 3)), .int (Int32.ofInt (M k 3))] := by
  unfold fvs
  show List.mapIdx _ [((1, 1) : gF), ((1, 2) : gF), ((1, 3) : gF), ((0, 0) : gF)] = _
  simp only [List.mapIdx_cons, List.mapIdx_nil]
  rfl
theorem fvs_3 (q : Nat → Nat) (M : Mem) (k : Nat) : fvs q M k 3 = [.ref (q (k + 1)), .ref (q (k + 2)), .int (Int32.ofInt (M k 2))] := by
  unfold fvs
  show List.mapIdx _ [((1, 1) : gF), ((1, 2) : gF), ((0, 0) : gF)] = _
  simp only [List.mapIdx_cons, List.mapIdx_nil]
  rfl
theorem fvs_4 (q : Nat → Nat) (M : Mem) (k : Nat) : fvs q M k 4 = [.ref (q (k + 1)), .ref (q (k + 2))] := by
  unfold fvs
  show List.mapIdx _ [((1, 1) : gF), ((1, 2) : gF)] = _
  simp only [List.mapIdx_cons, List.mapIdx_nil]
  rfl
theorem fvs_5 (q : Nat → Nat) (M : Mem) (k : Nat) : fvs q M k 5 = [.int (Int32.ofInt (M k 0)), .int (Int32.ofInt (M k 1)), .ref (q (k + 1)), .int (Int32.ofInt (M k 3)), .ref (q (k + 2)), .ref (q (k + 3)), .ref (q (k + 4)), .ref (q (k + 5)), .ref (q (k + 6))] := by
  unfold fvs
  show List.mapIdx _ [((0, 0) : gF), ((0, 0) : gF), ((1, 1) : gF), ((0, 0) : gF), ((1, 2) : gF), ((1, 3) : gF), ((1, 4) : gF), ((1, 5) : gF), ((1, 6) : gF)] = _
  simp only [List.mapIdx_cons, List.mapIdx_nil]
  rfl
theorem fvs_6 (q : Nat → Nat) (M : Mem) (k : Nat) : fvs q M k 6 = [.ref (q (k + 1)), .ref (q (k + 2)), .int (Int32.ofInt (M k 2)), .ref (q (k + 3)), .ref (q (k + 4)), .ref (q (k + 5)), .ref (q (k + 6)), .int (Int32.ofInt (M k 7)), .ref (q (k + 7))] := by
  unfold fvs
  show List.mapIdx _ [((1, 1) : gF), ((1, 2) : gF), ((0, 0) : gF), ((1, 3) : gF), ((1, 4) : gF), ((1, 5) : gF), ((1, 6) : gF), ((0, 0) : gF), ((1, 7) : gF)] = _
  simp only [List.mapIdx_cons, List.mapIdx_nil]
  rfl
theorem fvs_7 (q : Nat → Nat) (M : Mem) (k : Nat) : fvs q M k 7 = [.ref (q (k + 1)), .int (Int32.ofInt (M k 1)), .int (Int32.ofInt (M k 2))] := by
  unfold fvs
  show List.mapIdx _ [((1, 1) : gF), ((0, 0) : gF), ((0, 0) : gF)] = _
  simp only [List.mapIdx_cons, List.mapIdx_nil]
  rfl
theorem fvs_8 (q : Nat → Nat) (M : Mem) (k : Nat) : fvs q M k 8 = [.ref (q (k + 1)), .ref (q (k + 2)), .ref (q (k + 3)), .ref (q (k + 4)), .int (Int32.ofInt (M k 4)), .ref (q (k + 5)), .ref (q (k + 6)), .ref (q (k + 7))] := by
  unfold fvs
  show List.mapIdx _ [((1, 1) : gF), ((1, 2) : gF), ((1, 3) : gF), ((1, 4) : gF), ((0, 0) : gF), ((1, 5) : gF), ((1, 6) : gF), ((1, 7) : gF)] = _
  simp only [List.mapIdx_cons, List.mapIdx_nil]
  rfl
theorem fvs_9 (q : Nat → Nat) (M : Mem) (k : Nat) : fvs q M k 9 = [.ref (q (k + 1)), .int (Int32.ofInt (M k 1)), .int (Int32.ofInt (M k 2)), .int (Int32.ofInt (M k 3))] := by
  unfold fvs
  show List.mapIdx _ [((1, 1) : gF), ((0, 0) : gF), ((0, 0) : gF), ((0, 0) : gF)] = _
  simp only [List.mapIdx_cons, List.mapIdx_nil]
  rfl
theorem fvs_10 (q : Nat → Nat) (M : Mem) (k : Nat) : fvs q M k 10 = [.ref (q (k + 1)), .ref (q (k + 2)), .ref (q (k + 3)), .ref (q (k + 4)), .ref (q (k + 5)), .ref (q (k + 6)), .int (Int32.ofInt (M k 6)), .ref (q (k + 7))] := by
  unfold fvs
  show List.mapIdx _ [((1, 1) : gF), ((1, 2) : gF), ((1, 3) : gF), ((1, 4) : gF), ((1, 5) : gF), ((1, 6) : gF), ((0, 0) : gF), ((1, 7) : gF)] = _
  simp only [List.mapIdx_cons, List.mapIdx_nil]
  rfl
theorem fvs_11 (q : Nat → Nat) (M : Mem) (k : Nat) : fvs q M k 11 = [.ref (q (k + 1)), .ref (q (k + 2)), .ref (q (k + 3)), .ref (q (k + 5)), .ref (q (k + 46)), .ref (q (k + 87)), .ref (q (k + 94)), .int (Int32.ofInt (M k 7))] := by
  unfold fvs
  show List.mapIdx _ [((1, 1) : gF), ((1, 2) : gF), ((1, 3) : gF), ((1, 5) : gF), ((1, 46) : gF), ((1, 87) : gF), ((1, 94) : gF), ((0, 0) : gF)] = _
  simp only [List.mapIdx_cons, List.mapIdx_nil]
  rfl
theorem fvs_12 (q : Nat → Nat) (M : Mem) (k : Nat) : fvs q M k 12 = [.ref (q (k + 1)), .ref (q (k + 2)), .ref (q (k + 3)), .int (Int32.ofInt (M k 3)), .ref (q (k + 5)), .ref (q (k + 6)), .ref (q (k + 7)), .ref (q (k + 8)), .ref (q (k + 9)), .ref (q (k + 10)), .int (Int32.ofInt (M k 10)), .ref (q (k + 12)), .ref (q (k + 13)), .ref (q (k + 14)), .int (Int32.ofInt (M k 14)), .ref (q (k + 16)), .int (Int32.ofInt (M k 16)), .ref (q (k + 18)), .int (Int32.ofInt (M k 18)), .ref (q (k + 20)), .ref (q (k + 21)), .ref (q (k + 22)), .ref (q (k + 23)), .ref (q (k + 24)), .int (Int32.ofInt (M k 24)), .ref (q (k + 26)), .int (Int32.ofInt (M k 26)), .ref (q (k + 28)), .ref (q (k + 29)), .ref (q (k + 30)), .ref (q (k + 31)), .int (Int32.ofInt (M k 31)), .ref (q (k + 33)), .ref (q (k + 34)), .ref (q (k + 35)), .ref (q (k + 36)), .ref (q (k + 37)), .int (Int32.ofInt (M k 37)), .ref (q (k + 39)), .ref (q (k + 40)), .ref (q (k + 41)), .ref (q (k + 42)), .ref (q (k + 43)), .ref (q (k + 44)), .ref (q (k + 45)), .ref (q (k + 46)), .ref (q (k + 47)), .ref (q (k + 48)), .ref (q (k + 49)), .ref (q (k + 50)), (if M k 50 = 0 then .null else .ref (q (k + 51)))] := by
  unfold fvs
  show List.mapIdx _ [((1, 1) : gF), ((1, 2) : gF), ((1, 3) : gF), ((0, 0) : gF), ((1, 5) : gF), ((1, 6) : gF), ((1, 7) : gF), ((1, 8) : gF), ((1, 9) : gF), ((1, 10) : gF), ((0, 0) : gF), ((1, 12) : gF), ((1, 13) : gF), ((1, 14) : gF), ((0, 0) : gF), ((1, 16) : gF), ((0, 0) : gF), ((1, 18) : gF), ((0, 0) : gF), ((1, 20) : gF), ((1, 21) : gF), ((1, 22) : gF), ((1, 23) : gF), ((1, 24) : gF), ((0, 0) : gF), ((1, 26) : gF), ((0, 0) : gF), ((1, 28) : gF), ((1, 29) : gF), ((1, 30) : gF), ((1, 31) : gF), ((0, 0) : gF), ((1, 33) : gF), ((1, 34) : gF), ((1, 35) : gF), ((1, 36) : gF), ((1, 37) : gF), ((0, 0) : gF), ((1, 39) : gF), ((1, 40) : gF), ((1, 41) : gF), ((1, 42) : gF), ((1, 43) : gF), ((1, 44) : gF), ((1, 45) : gF), ((1, 46) : gF), ((1, 47) : gF), ((1, 48) : gF), ((1, 49) : gF), ((1, 50) : gF), ((2, 51) : gF)] = _
  simp only [List.mapIdx_cons, List.mapIdx_nil]
  rfl
theorem qn1 {q u ad : Nat → Nat} {b k : Nat} (h : k < 113) : Qn q u b ad k = q k := if_pos h
theorem qn2 {q u ad : Nat → Nat} {b k : Nat} (h : 200 < k) (h2 : k < 300) : Qn q u b ad k = u (k - 201) := by
  unfold Qn
  rw [if_neg (by omega), if_neg (by omega), if_pos h2]
theorem mz (k : Nat) (h : (k != 5 && k != 46 && k != 87 && k != 201 && k != 236 && (Nat.blt k 97 || Nat.blt 111 k || k % 2 == 0)) = true) : M0 k = fun _ => 0 := by
  simp only [Bool.and_eq_true, Bool.or_eq_true, bne_iff_ne, ne_eq, Nat.blt_eq, beq_iff_eq] at h
  funext j
  unfold M0
  rw [if_neg (by omega), if_neg (by omega), if_neg (by omega), if_neg (by omega), if_neg (by omega)]
theorem ez0 {cy : Nat → ClassId} {q : Nat → Nat} {M : Mem} {k n : Nat} (h : M k = fun _ => 0) : ent cy q M k (.inr (0, n)) = .inl (cy 0, n, .inl (fun _ => 0)) := by
  show Sum.inl (cy 0, n, Sum.inl (fun j => Int32.ofInt (M k j))) = _
  rw [h]
  rfl
theorem ez1 {cy : Nat → ClassId} {q : Nat → Nat} {M : Mem} {k n : Nat} (h : M k = fun _ => 0) : ent cy q M k (.inr (1, n)) = .inl (cy 1, n, .inl (fun _ => 0)) := by
  show Sum.inl (cy 1, n, Sum.inl (fun j => Int32.ofInt (M k j))) = _
  rw [h]
  rfl
theorem ez3 {cy : Nat → ClassId} {q : Nat → Nat} {M : Mem} {k n : Nat} (h : M k = fun _ => 0) : ent cy q M k (.inr (3, n)) = .inl (cy 3, n, .inl (fun _ => 0)) := by
  show Sum.inl (cy 3, n, Sum.inl (fun j => Int32.ofInt (M k j))) = _
  rw [h]
  rfl
theorem ez2 {cy : Nat → ClassId} {q : Nat → Nat} {M : Mem} {k n : Nat} (h : M k = fun _ => 0) : ent cy q M k (.inr (2, n)) = .inl (cy 2, n, .inr (.inl (fun _ => 0))) := by
  show Sum.inl (cy 2, n, Sum.inr (Sum.inl (fun j => Int64.ofInt (M k j)))) = _
  rw [h]
  rfl
theorem pr_eq {a c : Nat} {x y : va_E} (h : a = c) (k : x = y) : ((a, x) : Nat × va_E) = (c, y) := by rw [h, k]
theorem l_cons {a c : Nat × va_E} {s t : va_W} (h : a = c) (k : s = t) : a :: s = c :: t := by rw [h, k]
theorem w_0 {cy : Nat → ClassId} {q u ad : Nat → Nat} {b : Nat} : ((Qn q u b ad 0, ent cy (Qn q u b ad) M0 0 (.inl 11)) : Nat × va_E) = (q 0, .inr (11, fX q)) := pr_eq (qn1 (by decide)) (by
  show (Sum.inr (11, fvs (Qn q u b ad) M0 0 11) : va_E) = _
  rw [fvs_11]
  rfl)
theorem w_1 {cy : Nat → ClassId} {q u ad : Nat → Nat} {b : Nat} : ((Qn q u b ad 1, ent cy (Qn q u b ad) M0 1 (.inr (4, 8))) : Nat × va_E) = (q 1, ent cy (Qn q u b ad) M0 1 (.inr (4, 8))) := pr_eq (qn1 (by decide)) rfl
theorem w_2 {cy : Nat → ClassId} {q u ad : Nat → Nat} {b : Nat} : ((Qn q u b ad 2, ent cy (Qn q u b ad) M0 2 (.inr (0, 5))) : Nat × va_E) = (q 2, .inl (cy 0, 5, .inl (fun _ => 0))) := pr_eq (qn1 (by decide)) (ez0 (mz 2 rfl))
theorem w_3 {cy : Nat → ClassId} {q u ad : Nat → Nat} {b : Nat} : ((Qn q u b ad 3, ent cy (Qn q u b ad) M0 3 (.inl 9)) : Nat × va_E) = (q 3, .inr (9, fTape (fun k => q (3 + k)))) := pr_eq (qn1 (by decide)) (by
  show (Sum.inr (9, fvs (Qn q u b ad) M0 3 9) : va_E) = _
  rw [fvs_9]
  rfl)
theorem w_4 {cy : Nat → ClassId} {q u ad : Nat → Nat} {b : Nat} : ((Qn q u b ad 4, ent cy (Qn q u b ad) M0 4 (.inr (1, 120))) : Nat × va_E) = (q 4, .inl (cy 1, 120, .inl (fun _ => 0))) := pr_eq (qn1 (by decide)) (ez1 (mz 4 rfl))
theorem w_5 {cy : Nat → ClassId} {q u ad : Nat → Nat} {b : Nat} : ((Qn q u b ad 5, ent cy (Qn q u b ad) M0 5 (.inl 1)) : Nat × va_E) = (q 5, .inr (1, fHall (fun k => q (5 + k)))) := pr_eq (qn1 (by decide)) (by
  show (Sum.inr (1, fvs (Qn q u b ad) M0 5 1) : va_E) = _
  rw [fvs_1]
  rfl)
theorem w_6 {cy : Nat → ClassId} {q u ad : Nat → Nat} {b : Nat} : ((Qn q u b ad 6, ent cy (Qn q u b ad) M0 6 (.inl 10)) : Nat × va_E) = (q 6, .inr (10, fThings (fun k => q (6 + k)))) := pr_eq (qn1 (by decide)) (by
  show (Sum.inr (10, fvs (Qn q u b ad) M0 6 10) : va_E) = _
  rw [fvs_10]
  rfl)
theorem w_7 {cy : Nat → ClassId} {q u ad : Nat → Nat} {b : Nat} : ((Qn q u b ad 7, ent cy (Qn q u b ad) M0 7 (.inr (0, 30))) : Nat × va_E) = (q 7, .inl (cy 0, 30, .inl (fun _ => 0))) := pr_eq (qn1 (by decide)) (ez0 (mz 7 rfl))
theorem w_8 {cy : Nat → ClassId} {q u ad : Nat → Nat} {b : Nat} : ((Qn q u b ad 8, ent cy (Qn q u b ad) M0 8 (.inr (0, 30))) : Nat × va_E) = (q 8, .inl (cy 0, 30, .inl (fun _ => 0))) := pr_eq (qn1 (by decide)) (ez0 (mz 8 rfl))
theorem w_9 {cy : Nat → ClassId} {q u ad : Nat → Nat} {b : Nat} : ((Qn q u b ad 9, ent cy (Qn q u b ad) M0 9 (.inr (0, 30))) : Nat × va_E) = (q 9, .inl (cy 0, 30, .inl (fun _ => 0))) := pr_eq (qn1 (by decide)) (ez0 (mz 9 rfl))
theorem w_10 {cy : Nat → ClassId} {q u ad : Nat → Nat} {b : Nat} : ((Qn q u b ad 10, ent cy (Qn q u b ad) M0 10 (.inr (0, 30))) : Nat × va_E) = (q 10, .inl (cy 0, 30, .inl (fun _ => 0))) := pr_eq (qn1 (by decide)) (ez0 (mz 10 rfl))
theorem w_11 {cy : Nat → ClassId} {q u ad : Nat → Nat} {b : Nat} : ((Qn q u b ad 11, ent cy (Qn q u b ad) M0 11 (.inr (0, 30))) : Nat × va_E) = (q 11, .inl (cy 0, 30, .inl (fun _ => 0))) := pr_eq (qn1 (by decide)) (ez0 (mz 11 rfl))
theorem w_12 {cy : Nat → ClassId} {q u ad : Nat → Nat} {b : Nat} : ((Qn q u b ad 12, ent cy (Qn q u b ad) M0 12 (.inr (0, 30))) : Nat × va_E) = (q 12, .inl (cy 0, 30, .inl (fun _ => 0))) := pr_eq (qn1 (by decide)) (ez0 (mz 12 rfl))
theorem w_13 {cy : Nat → ClassId} {q u ad : Nat → Nat} {b : Nat} : ((Qn q u b ad 13, ent cy (Qn q u b ad) M0 13 (.inr (0, 30))) : Nat × va_E) = (q 13, .inl (cy 0, 30, .inl (fun _ => 0))) := pr_eq (qn1 (by decide)) (ez0 (mz 13 rfl))
theorem w_14 {cy : Nat → ClassId} {q u ad : Nat → Nat} {b : Nat} : ((Qn q u b ad 14, ent cy (Qn q u b ad) M0 14 (.inl 2)) : Nat × va_E) = (q 14, .inr (2, fLadies (fun k => q (14 + k)))) := pr_eq (qn1 (by decide)) (by
  show (Sum.inr (2, fvs (Qn q u b ad) M0 14 2) : va_E) = _
  rw [fvs_2]
  rfl)
theorem w_15 {cy : Nat → ClassId} {q u ad : Nat → Nat} {b : Nat} : ((Qn q u b ad 15, ent cy (Qn q u b ad) M0 15 (.inr (0, 5))) : Nat × va_E) = (q 15, .inl (cy 0, 5, .inl (fun _ => 0))) := pr_eq (qn1 (by decide)) (ez0 (mz 15 rfl))
theorem w_16 {cy : Nat → ClassId} {q u ad : Nat → Nat} {b : Nat} : ((Qn q u b ad 16, ent cy (Qn q u b ad) M0 16 (.inr (0, 5))) : Nat × va_E) = (q 16, .inl (cy 0, 5, .inl (fun _ => 0))) := pr_eq (qn1 (by decide)) (ez0 (mz 16 rfl))
theorem w_17 {cy : Nat → ClassId} {q u ad : Nat → Nat} {b : Nat} : ((Qn q u b ad 17, ent cy (Qn q u b ad) M0 17 (.inr (0, 5))) : Nat × va_E) = (q 17, .inl (cy 0, 5, .inl (fun _ => 0))) := pr_eq (qn1 (by decide)) (ez0 (mz 17 rfl))
theorem w_18 {cy : Nat → ClassId} {q u ad : Nat → Nat} {b : Nat} : ((Qn q u b ad 18, ent cy (Qn q u b ad) M0 18 (.inl 3)) : Nat × va_E) = (q 18, .inr (3, fLaws (fun k => q (18 + k)))) := pr_eq (qn1 (by decide)) (by
  show (Sum.inr (3, fvs (Qn q u b ad) M0 18 3) : va_E) = _
  rw [fvs_3]
  rfl)
theorem w_19 {cy : Nat → ClassId} {q u ad : Nat → Nat} {b : Nat} : ((Qn q u b ad 19, ent cy (Qn q u b ad) M0 19 (.inr (0, 30))) : Nat × va_E) = (q 19, .inl (cy 0, 30, .inl (fun _ => 0))) := pr_eq (qn1 (by decide)) (ez0 (mz 19 rfl))
theorem w_20 {cy : Nat → ClassId} {q u ad : Nat → Nat} {b : Nat} : ((Qn q u b ad 20, ent cy (Qn q u b ad) M0 20 (.inr (0, 5))) : Nat × va_E) = (q 20, .inl (cy 0, 5, .inl (fun _ => 0))) := pr_eq (qn1 (by decide)) (ez0 (mz 20 rfl))
theorem w_21 {cy : Nat → ClassId} {q u ad : Nat → Nat} {b : Nat} : ((Qn q u b ad 21, ent cy (Qn q u b ad) M0 21 (.inl 0)) : Nat × va_E) = (q 21, .inr (0, fBuyers (fun k => q (21 + k)))) := pr_eq (qn1 (by decide)) (by
  show (Sum.inr (0, fvs (Qn q u b ad) M0 21 0) : va_E) = _
  rw [fvs_0]
  rfl)
theorem w_22 {cy : Nat → ClassId} {q u ad : Nat → Nat} {b : Nat} : ((Qn q u b ad 22, ent cy (Qn q u b ad) M0 22 (.inr (0, 12))) : Nat × va_E) = (q 22, .inl (cy 0, 12, .inl (fun _ => 0))) := pr_eq (qn1 (by decide)) (ez0 (mz 22 rfl))
theorem w_23 {cy : Nat → ClassId} {q u ad : Nat → Nat} {b : Nat} : ((Qn q u b ad 23, ent cy (Qn q u b ad) M0 23 (.inr (0, 12))) : Nat × va_E) = (q 23, .inl (cy 0, 12, .inl (fun _ => 0))) := pr_eq (qn1 (by decide)) (ez0 (mz 23 rfl))
theorem w_24 {cy : Nat → ClassId} {q u ad : Nat → Nat} {b : Nat} : ((Qn q u b ad 24, ent cy (Qn q u b ad) M0 24 (.inr (0, 12))) : Nat × va_E) = (q 24, .inl (cy 0, 12, .inl (fun _ => 0))) := pr_eq (qn1 (by decide)) (ez0 (mz 24 rfl))
theorem w_25 {cy : Nat → ClassId} {q u ad : Nat → Nat} {b : Nat} : ((Qn q u b ad 25, ent cy (Qn q u b ad) M0 25 (.inr (0, 12))) : Nat × va_E) = (q 25, .inl (cy 0, 12, .inl (fun _ => 0))) := pr_eq (qn1 (by decide)) (ez0 (mz 25 rfl))
theorem w_26 {cy : Nat → ClassId} {q u ad : Nat → Nat} {b : Nat} : ((Qn q u b ad 26, ent cy (Qn q u b ad) M0 26 (.inr (0, 12))) : Nat × va_E) = (q 26, .inl (cy 0, 12, .inl (fun _ => 0))) := pr_eq (qn1 (by decide)) (ez0 (mz 26 rfl))
theorem w_27 {cy : Nat → ClassId} {q u ad : Nat → Nat} {b : Nat} : ((Qn q u b ad 27, ent cy (Qn q u b ad) M0 27 (.inl 8)) : Nat × va_E) = (q 27, .inr (8, fSightings (fun k => q (27 + k)))) := pr_eq (qn1 (by decide)) (by
  show (Sum.inr (8, fvs (Qn q u b ad) M0 27 8) : va_E) = _
  rw [fvs_8]
  rfl)
theorem w_28 {cy : Nat → ClassId} {q u ad : Nat → Nat} {b : Nat} : ((Qn q u b ad 28, ent cy (Qn q u b ad) M0 28 (.inr (0, 20))) : Nat × va_E) = (q 28, .inl (cy 0, 20, .inl (fun _ => 0))) := pr_eq (qn1 (by decide)) (ez0 (mz 28 rfl))
theorem w_29 {cy : Nat → ClassId} {q u ad : Nat → Nat} {b : Nat} : ((Qn q u b ad 29, ent cy (Qn q u b ad) M0 29 (.inr (0, 20))) : Nat × va_E) = (q 29, .inl (cy 0, 20, .inl (fun _ => 0))) := pr_eq (qn1 (by decide)) (ez0 (mz 29 rfl))
theorem w_30 {cy : Nat → ClassId} {q u ad : Nat → Nat} {b : Nat} : ((Qn q u b ad 30, ent cy (Qn q u b ad) M0 30 (.inr (0, 20))) : Nat × va_E) = (q 30, .inl (cy 0, 20, .inl (fun _ => 0))) := pr_eq (qn1 (by decide)) (ez0 (mz 30 rfl))
theorem w_31 {cy : Nat → ClassId} {q u ad : Nat → Nat} {b : Nat} : ((Qn q u b ad 31, ent cy (Qn q u b ad) M0 31 (.inr (0, 20))) : Nat × va_E) = (q 31, .inl (cy 0, 20, .inl (fun _ => 0))) := pr_eq (qn1 (by decide)) (ez0 (mz 31 rfl))
theorem w_32 {cy : Nat → ClassId} {q u ad : Nat → Nat} {b : Nat} : ((Qn q u b ad 32, ent cy (Qn q u b ad) M0 32 (.inr (0, 20))) : Nat × va_E) = (q 32, .inl (cy 0, 20, .inl (fun _ => 0))) := pr_eq (qn1 (by decide)) (ez0 (mz 32 rfl))
theorem w_33 {cy : Nat → ClassId} {q u ad : Nat → Nat} {b : Nat} : ((Qn q u b ad 33, ent cy (Qn q u b ad) M0 33 (.inr (0, 20))) : Nat × va_E) = (q 33, .inl (cy 0, 20, .inl (fun _ => 0))) := pr_eq (qn1 (by decide)) (ez0 (mz 33 rfl))
theorem w_34 {cy : Nat → ClassId} {q u ad : Nat → Nat} {b : Nat} : ((Qn q u b ad 34, ent cy (Qn q u b ad) M0 34 (.inr (0, 20))) : Nat × va_E) = (q 34, .inl (cy 0, 20, .inl (fun _ => 0))) := pr_eq (qn1 (by decide)) (ez0 (mz 34 rfl))
theorem w_35 {cy : Nat → ClassId} {q u ad : Nat → Nat} {b : Nat} : ((Qn q u b ad 35, ent cy (Qn q u b ad) M0 35 (.inl 6)) : Nat × va_E) = (q 35, .inr (6, fSecrets (fun k => q (35 + k)))) := pr_eq (qn1 (by decide)) (by
  show (Sum.inr (6, fvs (Qn q u b ad) M0 35 6) : va_E) = _
  rw [fvs_6]
  rfl)
theorem w_36 {cy : Nat → ClassId} {q u ad : Nat → Nat} {b : Nat} : ((Qn q u b ad 36, ent cy (Qn q u b ad) M0 36 (.inr (0, 10))) : Nat × va_E) = (q 36, .inl (cy 0, 10, .inl (fun _ => 0))) := pr_eq (qn1 (by decide)) (ez0 (mz 36 rfl))
theorem w_37 {cy : Nat → ClassId} {q u ad : Nat → Nat} {b : Nat} : ((Qn q u b ad 37, ent cy (Qn q u b ad) M0 37 (.inr (0, 10))) : Nat × va_E) = (q 37, .inl (cy 0, 10, .inl (fun _ => 0))) := pr_eq (qn1 (by decide)) (ez0 (mz 37 rfl))
theorem w_38 {cy : Nat → ClassId} {q u ad : Nat → Nat} {b : Nat} : ((Qn q u b ad 38, ent cy (Qn q u b ad) M0 38 (.inr (0, 16))) : Nat × va_E) = (q 38, .inl (cy 0, 16, .inl (fun _ => 0))) := pr_eq (qn1 (by decide)) (ez0 (mz 38 rfl))
theorem w_39 {cy : Nat → ClassId} {q u ad : Nat → Nat} {b : Nat} : ((Qn q u b ad 39, ent cy (Qn q u b ad) M0 39 (.inr (0, 10))) : Nat × va_E) = (q 39, .inl (cy 0, 10, .inl (fun _ => 0))) := pr_eq (qn1 (by decide)) (ez0 (mz 39 rfl))
theorem w_40 {cy : Nat → ClassId} {q u ad : Nat → Nat} {b : Nat} : ((Qn q u b ad 40, ent cy (Qn q u b ad) M0 40 (.inr (0, 10))) : Nat × va_E) = (q 40, .inl (cy 0, 10, .inl (fun _ => 0))) := pr_eq (qn1 (by decide)) (ez0 (mz 40 rfl))
theorem w_41 {cy : Nat → ClassId} {q u ad : Nat → Nat} {b : Nat} : ((Qn q u b ad 41, ent cy (Qn q u b ad) M0 41 (.inr (0, 10))) : Nat × va_E) = (q 41, .inl (cy 0, 10, .inl (fun _ => 0))) := pr_eq (qn1 (by decide)) (ez0 (mz 41 rfl))
theorem w_42 {cy : Nat → ClassId} {q u ad : Nat → Nat} {b : Nat} : ((Qn q u b ad 42, ent cy (Qn q u b ad) M0 42 (.inr (0, 5))) : Nat × va_E) = (q 42, .inl (cy 0, 5, .inl (fun _ => 0))) := pr_eq (qn1 (by decide)) (ez0 (mz 42 rfl))
theorem w_43 {cy : Nat → ClassId} {q u ad : Nat → Nat} {b : Nat} : ((Qn q u b ad 43, ent cy (Qn q u b ad) M0 43 (.inr (0, 5))) : Nat × va_E) = (q 43, .inl (cy 0, 5, .inl (fun _ => 0))) := pr_eq (qn1 (by decide)) (ez0 (mz 43 rfl))
theorem w_44 {cy : Nat → ClassId} {q u ad : Nat → Nat} {b : Nat} : ((Qn q u b ad 44, ent cy (Qn q u b ad) M0 44 (.inr (0, 25))) : Nat × va_E) = (q 44, .inl (cy 0, 25, .inl (fun _ => 0))) := pr_eq (qn1 (by decide)) (ez0 (mz 44 rfl))
theorem w_45 {cy : Nat → ClassId} {q u ad : Nat → Nat} {b : Nat} : ((Qn q u b ad 45, ent cy (Qn q u b ad) M0 45 (.inr (0, 32))) : Nat × va_E) = (q 45, .inl (cy 0, 32, .inl (fun _ => 0))) := pr_eq (qn1 (by decide)) (ez0 (mz 45 rfl))
theorem w_46 {cy : Nat → ClassId} {q u ad : Nat → Nat} {b : Nat} : ((Qn q u b ad 46, ent cy (Qn q u b ad) M0 46 (.inl 1)) : Nat × va_E) = (q 46, .inr (1, fHall (fun k => q (46 + k)))) := pr_eq (qn1 (by decide)) (by
  show (Sum.inr (1, fvs (Qn q u b ad) M0 46 1) : va_E) = _
  rw [fvs_1]
  rfl)
theorem w_47 {cy : Nat → ClassId} {q u ad : Nat → Nat} {b : Nat} : ((Qn q u b ad 47, ent cy (Qn q u b ad) M0 47 (.inl 10)) : Nat × va_E) = (q 47, .inr (10, fThings (fun k => q (47 + k)))) := pr_eq (qn1 (by decide)) (by
  show (Sum.inr (10, fvs (Qn q u b ad) M0 47 10) : va_E) = _
  rw [fvs_10]
  rfl)
theorem w_48 {cy : Nat → ClassId} {q u ad : Nat → Nat} {b : Nat} : ((Qn q u b ad 48, ent cy (Qn q u b ad) M0 48 (.inr (0, 30))) : Nat × va_E) = (q 48, .inl (cy 0, 30, .inl (fun _ => 0))) := pr_eq (qn1 (by decide)) (ez0 (mz 48 rfl))
theorem w_49 {cy : Nat → ClassId} {q u ad : Nat → Nat} {b : Nat} : ((Qn q u b ad 49, ent cy (Qn q u b ad) M0 49 (.inr (0, 30))) : Nat × va_E) = (q 49, .inl (cy 0, 30, .inl (fun _ => 0))) := pr_eq (qn1 (by decide)) (ez0 (mz 49 rfl))
theorem w_50 {cy : Nat → ClassId} {q u ad : Nat → Nat} {b : Nat} : ((Qn q u b ad 50, ent cy (Qn q u b ad) M0 50 (.inr (0, 30))) : Nat × va_E) = (q 50, .inl (cy 0, 30, .inl (fun _ => 0))) := pr_eq (qn1 (by decide)) (ez0 (mz 50 rfl))
theorem w_51 {cy : Nat → ClassId} {q u ad : Nat → Nat} {b : Nat} : ((Qn q u b ad 51, ent cy (Qn q u b ad) M0 51 (.inr (0, 30))) : Nat × va_E) = (q 51, .inl (cy 0, 30, .inl (fun _ => 0))) := pr_eq (qn1 (by decide)) (ez0 (mz 51 rfl))
theorem w_52 {cy : Nat → ClassId} {q u ad : Nat → Nat} {b : Nat} : ((Qn q u b ad 52, ent cy (Qn q u b ad) M0 52 (.inr (0, 30))) : Nat × va_E) = (q 52, .inl (cy 0, 30, .inl (fun _ => 0))) := pr_eq (qn1 (by decide)) (ez0 (mz 52 rfl))
theorem w_53 {cy : Nat → ClassId} {q u ad : Nat → Nat} {b : Nat} : ((Qn q u b ad 53, ent cy (Qn q u b ad) M0 53 (.inr (0, 30))) : Nat × va_E) = (q 53, .inl (cy 0, 30, .inl (fun _ => 0))) := pr_eq (qn1 (by decide)) (ez0 (mz 53 rfl))
theorem w_54 {cy : Nat → ClassId} {q u ad : Nat → Nat} {b : Nat} : ((Qn q u b ad 54, ent cy (Qn q u b ad) M0 54 (.inr (0, 30))) : Nat × va_E) = (q 54, .inl (cy 0, 30, .inl (fun _ => 0))) := pr_eq (qn1 (by decide)) (ez0 (mz 54 rfl))
theorem w_55 {cy : Nat → ClassId} {q u ad : Nat → Nat} {b : Nat} : ((Qn q u b ad 55, ent cy (Qn q u b ad) M0 55 (.inl 2)) : Nat × va_E) = (q 55, .inr (2, fLadies (fun k => q (55 + k)))) := pr_eq (qn1 (by decide)) (by
  show (Sum.inr (2, fvs (Qn q u b ad) M0 55 2) : va_E) = _
  rw [fvs_2]
  rfl)
theorem w_56 {cy : Nat → ClassId} {q u ad : Nat → Nat} {b : Nat} : ((Qn q u b ad 56, ent cy (Qn q u b ad) M0 56 (.inr (0, 5))) : Nat × va_E) = (q 56, .inl (cy 0, 5, .inl (fun _ => 0))) := pr_eq (qn1 (by decide)) (ez0 (mz 56 rfl))
theorem w_57 {cy : Nat → ClassId} {q u ad : Nat → Nat} {b : Nat} : ((Qn q u b ad 57, ent cy (Qn q u b ad) M0 57 (.inr (0, 5))) : Nat × va_E) = (q 57, .inl (cy 0, 5, .inl (fun _ => 0))) := pr_eq (qn1 (by decide)) (ez0 (mz 57 rfl))
theorem w_58 {cy : Nat → ClassId} {q u ad : Nat → Nat} {b : Nat} : ((Qn q u b ad 58, ent cy (Qn q u b ad) M0 58 (.inr (0, 5))) : Nat × va_E) = (q 58, .inl (cy 0, 5, .inl (fun _ => 0))) := pr_eq (qn1 (by decide)) (ez0 (mz 58 rfl))
theorem w_59 {cy : Nat → ClassId} {q u ad : Nat → Nat} {b : Nat} : ((Qn q u b ad 59, ent cy (Qn q u b ad) M0 59 (.inl 3)) : Nat × va_E) = (q 59, .inr (3, fLaws (fun k => q (59 + k)))) := pr_eq (qn1 (by decide)) (by
  show (Sum.inr (3, fvs (Qn q u b ad) M0 59 3) : va_E) = _
  rw [fvs_3]
  rfl)
theorem w_60 {cy : Nat → ClassId} {q u ad : Nat → Nat} {b : Nat} : ((Qn q u b ad 60, ent cy (Qn q u b ad) M0 60 (.inr (0, 30))) : Nat × va_E) = (q 60, .inl (cy 0, 30, .inl (fun _ => 0))) := pr_eq (qn1 (by decide)) (ez0 (mz 60 rfl))
theorem w_61 {cy : Nat → ClassId} {q u ad : Nat → Nat} {b : Nat} : ((Qn q u b ad 61, ent cy (Qn q u b ad) M0 61 (.inr (0, 5))) : Nat × va_E) = (q 61, .inl (cy 0, 5, .inl (fun _ => 0))) := pr_eq (qn1 (by decide)) (ez0 (mz 61 rfl))
theorem w_62 {cy : Nat → ClassId} {q u ad : Nat → Nat} {b : Nat} : ((Qn q u b ad 62, ent cy (Qn q u b ad) M0 62 (.inl 0)) : Nat × va_E) = (q 62, .inr (0, fBuyers (fun k => q (62 + k)))) := pr_eq (qn1 (by decide)) (by
  show (Sum.inr (0, fvs (Qn q u b ad) M0 62 0) : va_E) = _
  rw [fvs_0]
  rfl)
theorem w_63 {cy : Nat → ClassId} {q u ad : Nat → Nat} {b : Nat} : ((Qn q u b ad 63, ent cy (Qn q u b ad) M0 63 (.inr (0, 12))) : Nat × va_E) = (q 63, .inl (cy 0, 12, .inl (fun _ => 0))) := pr_eq (qn1 (by decide)) (ez0 (mz 63 rfl))
theorem w_64 {cy : Nat → ClassId} {q u ad : Nat → Nat} {b : Nat} : ((Qn q u b ad 64, ent cy (Qn q u b ad) M0 64 (.inr (0, 12))) : Nat × va_E) = (q 64, .inl (cy 0, 12, .inl (fun _ => 0))) := pr_eq (qn1 (by decide)) (ez0 (mz 64 rfl))
theorem w_65 {cy : Nat → ClassId} {q u ad : Nat → Nat} {b : Nat} : ((Qn q u b ad 65, ent cy (Qn q u b ad) M0 65 (.inr (0, 12))) : Nat × va_E) = (q 65, .inl (cy 0, 12, .inl (fun _ => 0))) := pr_eq (qn1 (by decide)) (ez0 (mz 65 rfl))
theorem w_66 {cy : Nat → ClassId} {q u ad : Nat → Nat} {b : Nat} : ((Qn q u b ad 66, ent cy (Qn q u b ad) M0 66 (.inr (0, 12))) : Nat × va_E) = (q 66, .inl (cy 0, 12, .inl (fun _ => 0))) := pr_eq (qn1 (by decide)) (ez0 (mz 66 rfl))
theorem w_67 {cy : Nat → ClassId} {q u ad : Nat → Nat} {b : Nat} : ((Qn q u b ad 67, ent cy (Qn q u b ad) M0 67 (.inr (0, 12))) : Nat × va_E) = (q 67, .inl (cy 0, 12, .inl (fun _ => 0))) := pr_eq (qn1 (by decide)) (ez0 (mz 67 rfl))
theorem w_68 {cy : Nat → ClassId} {q u ad : Nat → Nat} {b : Nat} : ((Qn q u b ad 68, ent cy (Qn q u b ad) M0 68 (.inl 8)) : Nat × va_E) = (q 68, .inr (8, fSightings (fun k => q (68 + k)))) := pr_eq (qn1 (by decide)) (by
  show (Sum.inr (8, fvs (Qn q u b ad) M0 68 8) : va_E) = _
  rw [fvs_8]
  rfl)
theorem w_69 {cy : Nat → ClassId} {q u ad : Nat → Nat} {b : Nat} : ((Qn q u b ad 69, ent cy (Qn q u b ad) M0 69 (.inr (0, 20))) : Nat × va_E) = (q 69, .inl (cy 0, 20, .inl (fun _ => 0))) := pr_eq (qn1 (by decide)) (ez0 (mz 69 rfl))
theorem w_70 {cy : Nat → ClassId} {q u ad : Nat → Nat} {b : Nat} : ((Qn q u b ad 70, ent cy (Qn q u b ad) M0 70 (.inr (0, 20))) : Nat × va_E) = (q 70, .inl (cy 0, 20, .inl (fun _ => 0))) := pr_eq (qn1 (by decide)) (ez0 (mz 70 rfl))
theorem w_71 {cy : Nat → ClassId} {q u ad : Nat → Nat} {b : Nat} : ((Qn q u b ad 71, ent cy (Qn q u b ad) M0 71 (.inr (0, 20))) : Nat × va_E) = (q 71, .inl (cy 0, 20, .inl (fun _ => 0))) := pr_eq (qn1 (by decide)) (ez0 (mz 71 rfl))
theorem w_72 {cy : Nat → ClassId} {q u ad : Nat → Nat} {b : Nat} : ((Qn q u b ad 72, ent cy (Qn q u b ad) M0 72 (.inr (0, 20))) : Nat × va_E) = (q 72, .inl (cy 0, 20, .inl (fun _ => 0))) := pr_eq (qn1 (by decide)) (ez0 (mz 72 rfl))
theorem w_73 {cy : Nat → ClassId} {q u ad : Nat → Nat} {b : Nat} : ((Qn q u b ad 73, ent cy (Qn q u b ad) M0 73 (.inr (0, 20))) : Nat × va_E) = (q 73, .inl (cy 0, 20, .inl (fun _ => 0))) := pr_eq (qn1 (by decide)) (ez0 (mz 73 rfl))
theorem w_74 {cy : Nat → ClassId} {q u ad : Nat → Nat} {b : Nat} : ((Qn q u b ad 74, ent cy (Qn q u b ad) M0 74 (.inr (0, 20))) : Nat × va_E) = (q 74, .inl (cy 0, 20, .inl (fun _ => 0))) := pr_eq (qn1 (by decide)) (ez0 (mz 74 rfl))
theorem w_75 {cy : Nat → ClassId} {q u ad : Nat → Nat} {b : Nat} : ((Qn q u b ad 75, ent cy (Qn q u b ad) M0 75 (.inr (0, 20))) : Nat × va_E) = (q 75, .inl (cy 0, 20, .inl (fun _ => 0))) := pr_eq (qn1 (by decide)) (ez0 (mz 75 rfl))
theorem w_76 {cy : Nat → ClassId} {q u ad : Nat → Nat} {b : Nat} : ((Qn q u b ad 76, ent cy (Qn q u b ad) M0 76 (.inl 6)) : Nat × va_E) = (q 76, .inr (6, fSecrets (fun k => q (76 + k)))) := pr_eq (qn1 (by decide)) (by
  show (Sum.inr (6, fvs (Qn q u b ad) M0 76 6) : va_E) = _
  rw [fvs_6]
  rfl)
theorem w_77 {cy : Nat → ClassId} {q u ad : Nat → Nat} {b : Nat} : ((Qn q u b ad 77, ent cy (Qn q u b ad) M0 77 (.inr (0, 10))) : Nat × va_E) = (q 77, .inl (cy 0, 10, .inl (fun _ => 0))) := pr_eq (qn1 (by decide)) (ez0 (mz 77 rfl))
theorem w_78 {cy : Nat → ClassId} {q u ad : Nat → Nat} {b : Nat} : ((Qn q u b ad 78, ent cy (Qn q u b ad) M0 78 (.inr (0, 10))) : Nat × va_E) = (q 78, .inl (cy 0, 10, .inl (fun _ => 0))) := pr_eq (qn1 (by decide)) (ez0 (mz 78 rfl))
theorem w_79 {cy : Nat → ClassId} {q u ad : Nat → Nat} {b : Nat} : ((Qn q u b ad 79, ent cy (Qn q u b ad) M0 79 (.inr (0, 16))) : Nat × va_E) = (q 79, .inl (cy 0, 16, .inl (fun _ => 0))) := pr_eq (qn1 (by decide)) (ez0 (mz 79 rfl))
theorem w_80 {cy : Nat → ClassId} {q u ad : Nat → Nat} {b : Nat} : ((Qn q u b ad 80, ent cy (Qn q u b ad) M0 80 (.inr (0, 10))) : Nat × va_E) = (q 80, .inl (cy 0, 10, .inl (fun _ => 0))) := pr_eq (qn1 (by decide)) (ez0 (mz 80 rfl))
theorem w_81 {cy : Nat → ClassId} {q u ad : Nat → Nat} {b : Nat} : ((Qn q u b ad 81, ent cy (Qn q u b ad) M0 81 (.inr (0, 10))) : Nat × va_E) = (q 81, .inl (cy 0, 10, .inl (fun _ => 0))) := pr_eq (qn1 (by decide)) (ez0 (mz 81 rfl))
theorem w_82 {cy : Nat → ClassId} {q u ad : Nat → Nat} {b : Nat} : ((Qn q u b ad 82, ent cy (Qn q u b ad) M0 82 (.inr (0, 10))) : Nat × va_E) = (q 82, .inl (cy 0, 10, .inl (fun _ => 0))) := pr_eq (qn1 (by decide)) (ez0 (mz 82 rfl))
theorem w_83 {cy : Nat → ClassId} {q u ad : Nat → Nat} {b : Nat} : ((Qn q u b ad 83, ent cy (Qn q u b ad) M0 83 (.inr (0, 5))) : Nat × va_E) = (q 83, .inl (cy 0, 5, .inl (fun _ => 0))) := pr_eq (qn1 (by decide)) (ez0 (mz 83 rfl))
theorem w_84 {cy : Nat → ClassId} {q u ad : Nat → Nat} {b : Nat} : ((Qn q u b ad 84, ent cy (Qn q u b ad) M0 84 (.inr (0, 5))) : Nat × va_E) = (q 84, .inl (cy 0, 5, .inl (fun _ => 0))) := pr_eq (qn1 (by decide)) (ez0 (mz 84 rfl))
theorem w_85 {cy : Nat → ClassId} {q u ad : Nat → Nat} {b : Nat} : ((Qn q u b ad 85, ent cy (Qn q u b ad) M0 85 (.inr (0, 25))) : Nat × va_E) = (q 85, .inl (cy 0, 25, .inl (fun _ => 0))) := pr_eq (qn1 (by decide)) (ez0 (mz 85 rfl))
theorem w_86 {cy : Nat → ClassId} {q u ad : Nat → Nat} {b : Nat} : ((Qn q u b ad 86, ent cy (Qn q u b ad) M0 86 (.inr (0, 32))) : Nat × va_E) = (q 86, .inl (cy 0, 32, .inl (fun _ => 0))) := pr_eq (qn1 (by decide)) (ez0 (mz 86 rfl))
theorem w_87 {cy : Nat → ClassId} {q u ad : Nat → Nat} {b : Nat} : ((Qn q u b ad 87, ent cy (Qn q u b ad) M0 87 (.inl 5)) : Nat × va_E) = (q 87, .inr (5, fSale (fun k => q (87 + k)))) := pr_eq (qn1 (by decide)) (by
  show (Sum.inr (5, fvs (Qn q u b ad) M0 87 5) : va_E) = _
  rw [fvs_5]
  rfl)
theorem w_88 {cy : Nat → ClassId} {q u ad : Nat → Nat} {b : Nat} : ((Qn q u b ad 88, ent cy (Qn q u b ad) M0 88 (.inr (0, 30))) : Nat × va_E) = (q 88, .inl (cy 0, 30, .inl (fun _ => 0))) := pr_eq (qn1 (by decide)) (ez0 (mz 88 rfl))
theorem w_89 {cy : Nat → ClassId} {q u ad : Nat → Nat} {b : Nat} : ((Qn q u b ad 89, ent cy (Qn q u b ad) M0 89 (.inr (0, 30))) : Nat × va_E) = (q 89, .inl (cy 0, 30, .inl (fun _ => 0))) := pr_eq (qn1 (by decide)) (ez0 (mz 89 rfl))
theorem w_90 {cy : Nat → ClassId} {q u ad : Nat → Nat} {b : Nat} : ((Qn q u b ad 90, ent cy (Qn q u b ad) M0 90 (.inr (0, 30))) : Nat × va_E) = (q 90, .inl (cy 0, 30, .inl (fun _ => 0))) := pr_eq (qn1 (by decide)) (ez0 (mz 90 rfl))
theorem w_91 {cy : Nat → ClassId} {q u ad : Nat → Nat} {b : Nat} : ((Qn q u b ad 91, ent cy (Qn q u b ad) M0 91 (.inr (0, 30))) : Nat × va_E) = (q 91, .inl (cy 0, 30, .inl (fun _ => 0))) := pr_eq (qn1 (by decide)) (ez0 (mz 91 rfl))
theorem w_92 {cy : Nat → ClassId} {q u ad : Nat → Nat} {b : Nat} : ((Qn q u b ad 92, ent cy (Qn q u b ad) M0 92 (.inr (0, 12))) : Nat × va_E) = (q 92, .inl (cy 0, 12, .inl (fun _ => 0))) := pr_eq (qn1 (by decide)) (ez0 (mz 92 rfl))
theorem w_93 {cy : Nat → ClassId} {q u ad : Nat → Nat} {b : Nat} : ((Qn q u b ad 93, ent cy (Qn q u b ad) M0 93 (.inr (0, 12))) : Nat × va_E) = (q 93, .inl (cy 0, 12, .inl (fun _ => 0))) := pr_eq (qn1 (by decide)) (ez0 (mz 93 rfl))
theorem w_94 {cy : Nat → ClassId} {q u ad : Nat → Nat} {b : Nat} : ((Qn q u b ad 94, ent cy (Qn q u b ad) M0 94 (.inl 4)) : Nat × va_E) = (q 94, .inr (4, fPicks (fun k => q (94 + k)))) := pr_eq (qn1 (by decide)) (by
  show (Sum.inr (4, fvs (Qn q u b ad) M0 94 4) : va_E) = _
  rw [fvs_4]
  rfl)
theorem w_95 {cy : Nat → ClassId} {q u ad : Nat → Nat} {b : Nat} : ((Qn q u b ad 95, ent cy (Qn q u b ad) M0 95 (.inr (0, 10000))) : Nat × va_E) = (q 95, .inl (cy 0, 10000, .inl (fun _ => 0))) := pr_eq (qn1 (by decide)) (ez0 (mz 95 rfl))
theorem w_96 {cy : Nat → ClassId} {q u ad : Nat → Nat} {b : Nat} : ((Qn q u b ad 96, ent cy (Qn q u b ad) M0 96 (.inr (0, 201))) : Nat × va_E) = (q 96, .inl (cy 0, 201, .inl (fun _ => 0))) := pr_eq (qn1 (by decide)) (ez0 (mz 96 rfl))
theorem w_97 {cy : Nat → ClassId} {q u ad : Nat → Nat} {b : Nat} : ((Qn q u b ad 97, ent cy (Qn q u b ad) M0 97 (.inl 7)) : Nat × va_E) = (q 97, .inr (7, fShelf (fun k => q (97 + k)))) := pr_eq (qn1 (by decide)) (by
  show (Sum.inr (7, fvs (Qn q u b ad) M0 97 7) : va_E) = _
  rw [fvs_7]
  rfl)
theorem w_98 {cy : Nat → ClassId} {q u ad : Nat → Nat} {b : Nat} : ((Qn q u b ad 98, ent cy (Qn q u b ad) M0 98 (.inr (2, 40))) : Nat × va_E) = (q 98, .inl (cy 2, 40, .inr (.inl (fun _ => 0)))) := pr_eq (qn1 (by decide)) (ez2 (mz 98 rfl))
theorem w_99 {cy : Nat → ClassId} {q u ad : Nat → Nat} {b : Nat} : ((Qn q u b ad 99, ent cy (Qn q u b ad) M0 99 (.inl 7)) : Nat × va_E) = (q 99, .inr (7, fShelf (fun k => q (99 + k)))) := pr_eq (qn1 (by decide)) (by
  show (Sum.inr (7, fvs (Qn q u b ad) M0 99 7) : va_E) = _
  rw [fvs_7]
  rfl)
theorem w_100 {cy : Nat → ClassId} {q u ad : Nat → Nat} {b : Nat} : ((Qn q u b ad 100, ent cy (Qn q u b ad) M0 100 (.inr (2, 40))) : Nat × va_E) = (q 100, .inl (cy 2, 40, .inr (.inl (fun _ => 0)))) := pr_eq (qn1 (by decide)) (ez2 (mz 100 rfl))
theorem w_101 {cy : Nat → ClassId} {q u ad : Nat → Nat} {b : Nat} : ((Qn q u b ad 101, ent cy (Qn q u b ad) M0 101 (.inl 7)) : Nat × va_E) = (q 101, .inr (7, fShelf (fun k => q (101 + k)))) := pr_eq (qn1 (by decide)) (by
  show (Sum.inr (7, fvs (Qn q u b ad) M0 101 7) : va_E) = _
  rw [fvs_7]
  rfl)
theorem w_102 {cy : Nat → ClassId} {q u ad : Nat → Nat} {b : Nat} : ((Qn q u b ad 102, ent cy (Qn q u b ad) M0 102 (.inr (2, 40))) : Nat × va_E) = (q 102, .inl (cy 2, 40, .inr (.inl (fun _ => 0)))) := pr_eq (qn1 (by decide)) (ez2 (mz 102 rfl))
theorem w_103 {cy : Nat → ClassId} {q u ad : Nat → Nat} {b : Nat} : ((Qn q u b ad 103, ent cy (Qn q u b ad) M0 103 (.inl 7)) : Nat × va_E) = (q 103, .inr (7, fShelf (fun k => q (103 + k)))) := pr_eq (qn1 (by decide)) (by
  show (Sum.inr (7, fvs (Qn q u b ad) M0 103 7) : va_E) = _
  rw [fvs_7]
  rfl)
theorem w_104 {cy : Nat → ClassId} {q u ad : Nat → Nat} {b : Nat} : ((Qn q u b ad 104, ent cy (Qn q u b ad) M0 104 (.inr (2, 40))) : Nat × va_E) = (q 104, .inl (cy 2, 40, .inr (.inl (fun _ => 0)))) := pr_eq (qn1 (by decide)) (ez2 (mz 104 rfl))
theorem w_105 {cy : Nat → ClassId} {q u ad : Nat → Nat} {b : Nat} : ((Qn q u b ad 105, ent cy (Qn q u b ad) M0 105 (.inl 7)) : Nat × va_E) = (q 105, .inr (7, fShelf (fun k => q (105 + k)))) := pr_eq (qn1 (by decide)) (by
  show (Sum.inr (7, fvs (Qn q u b ad) M0 105 7) : va_E) = _
  rw [fvs_7]
  rfl)
theorem w_106 {cy : Nat → ClassId} {q u ad : Nat → Nat} {b : Nat} : ((Qn q u b ad 106, ent cy (Qn q u b ad) M0 106 (.inr (2, 40))) : Nat × va_E) = (q 106, .inl (cy 2, 40, .inr (.inl (fun _ => 0)))) := pr_eq (qn1 (by decide)) (ez2 (mz 106 rfl))
theorem w_107 {cy : Nat → ClassId} {q u ad : Nat → Nat} {b : Nat} : ((Qn q u b ad 107, ent cy (Qn q u b ad) M0 107 (.inl 7)) : Nat × va_E) = (q 107, .inr (7, fShelf (fun k => q (107 + k)))) := pr_eq (qn1 (by decide)) (by
  show (Sum.inr (7, fvs (Qn q u b ad) M0 107 7) : va_E) = _
  rw [fvs_7]
  rfl)
theorem w_108 {cy : Nat → ClassId} {q u ad : Nat → Nat} {b : Nat} : ((Qn q u b ad 108, ent cy (Qn q u b ad) M0 108 (.inr (2, 40))) : Nat × va_E) = (q 108, .inl (cy 2, 40, .inr (.inl (fun _ => 0)))) := pr_eq (qn1 (by decide)) (ez2 (mz 108 rfl))
theorem w_109 {cy : Nat → ClassId} {q u ad : Nat → Nat} {b : Nat} : ((Qn q u b ad 109, ent cy (Qn q u b ad) M0 109 (.inl 7)) : Nat × va_E) = (q 109, .inr (7, fShelf (fun k => q (109 + k)))) := pr_eq (qn1 (by decide)) (by
  show (Sum.inr (7, fvs (Qn q u b ad) M0 109 7) : va_E) = _
  rw [fvs_7]
  rfl)
theorem w_110 {cy : Nat → ClassId} {q u ad : Nat → Nat} {b : Nat} : ((Qn q u b ad 110, ent cy (Qn q u b ad) M0 110 (.inr (2, 40))) : Nat × va_E) = (q 110, .inl (cy 2, 40, .inr (.inl (fun _ => 0)))) := pr_eq (qn1 (by decide)) (ez2 (mz 110 rfl))
theorem w_111 {cy : Nat → ClassId} {q u ad : Nat → Nat} {b : Nat} : ((Qn q u b ad 111, ent cy (Qn q u b ad) M0 111 (.inl 7)) : Nat × va_E) = (q 111, .inr (7, fShelf (fun k => q (111 + k)))) := pr_eq (qn1 (by decide)) (by
  show (Sum.inr (7, fvs (Qn q u b ad) M0 111 7) : va_E) = _
  rw [fvs_7]
  rfl)
theorem w_112 {cy : Nat → ClassId} {q u ad : Nat → Nat} {b : Nat} : ((Qn q u b ad 112, ent cy (Qn q u b ad) M0 112 (.inr (2, 40))) : Nat × va_E) = (q 112, .inl (cy 2, 40, .inr (.inl (fun _ => 0)))) := pr_eq (qn1 (by decide)) (ez2 (mz 112 rfl))
theorem w_200 {cy : Nat → ClassId} {q u ad : Nat → Nat} {b : Nat} : ((Qn q u b ad 200, ent cy (Qn q u b ad) M0 200 (.inl 12)) : Nat × va_E) = (u 60, .inr (12, fM u)) := pr_eq rfl (by
  show (Sum.inr (12, fvs (Qn q u b ad) M0 200 12) : va_E) = _
  rw [fvs_12]
  rfl)
theorem w_201 {cy : Nat → ClassId} {q u ad : Nat → Nat} {b : Nat} : ((Qn q u b ad 201, ent cy (Qn q u b ad) M0 201 (.inr (0, 8))) : Nat × va_E) = (u 0, ent cy (Qn q u b ad) M0 201 (.inr (0, 8))) := pr_eq (qn2 (by decide) (by decide)) rfl
theorem w_202 {cy : Nat → ClassId} {q u ad : Nat → Nat} {b : Nat} : ((Qn q u b ad 202, ent cy (Qn q u b ad) M0 202 (.inr (0, 8))) : Nat × va_E) = (u 1, .inl (cy 0, 8, .inl (fun _ => 0))) := pr_eq (qn2 (by decide) (by decide)) (ez0 (mz 202 rfl))
theorem w_203 {cy : Nat → ClassId} {q u ad : Nat → Nat} {b : Nat} : ((Qn q u b ad 203, ent cy (Qn q u b ad) M0 203 (.inr (2, 320))) : Nat × va_E) = (u 2, .inl (cy 2, 320, .inr (.inl (fun _ => 0)))) := pr_eq (qn2 (by decide) (by decide)) (ez2 (mz 203 rfl))
theorem w_205 {cy : Nat → ClassId} {q u ad : Nat → Nat} {b : Nat} : ((Qn q u b ad 205, ent cy (Qn q u b ad) M0 205 (.inr (0, 30))) : Nat × va_E) = (u 4, .inl (cy 0, 30, .inl (fun _ => 0))) := pr_eq (qn2 (by decide) (by decide)) (ez0 (mz 205 rfl))
theorem w_206 {cy : Nat → ClassId} {q u ad : Nat → Nat} {b : Nat} : ((Qn q u b ad 206, ent cy (Qn q u b ad) M0 206 (.inr (0, 30))) : Nat × va_E) = (u 5, .inl (cy 0, 30, .inl (fun _ => 0))) := pr_eq (qn2 (by decide) (by decide)) (ez0 (mz 206 rfl))
theorem w_207 {cy : Nat → ClassId} {q u ad : Nat → Nat} {b : Nat} : ((Qn q u b ad 207, ent cy (Qn q u b ad) M0 207 (.inr (0, 30))) : Nat × va_E) = (u 6, .inl (cy 0, 30, .inl (fun _ => 0))) := pr_eq (qn2 (by decide) (by decide)) (ez0 (mz 207 rfl))
theorem w_208 {cy : Nat → ClassId} {q u ad : Nat → Nat} {b : Nat} : ((Qn q u b ad 208, ent cy (Qn q u b ad) M0 208 (.inr (0, 30))) : Nat × va_E) = (u 7, .inl (cy 0, 30, .inl (fun _ => 0))) := pr_eq (qn2 (by decide) (by decide)) (ez0 (mz 208 rfl))
theorem w_209 {cy : Nat → ClassId} {q u ad : Nat → Nat} {b : Nat} : ((Qn q u b ad 209, ent cy (Qn q u b ad) M0 209 (.inr (0, 30))) : Nat × va_E) = (u 8, .inl (cy 0, 30, .inl (fun _ => 0))) := pr_eq (qn2 (by decide) (by decide)) (ez0 (mz 209 rfl))
theorem w_210 {cy : Nat → ClassId} {q u ad : Nat → Nat} {b : Nat} : ((Qn q u b ad 210, ent cy (Qn q u b ad) M0 210 (.inr (0, 30))) : Nat × va_E) = (u 9, .inl (cy 0, 30, .inl (fun _ => 0))) := pr_eq (qn2 (by decide) (by decide)) (ez0 (mz 210 rfl))
theorem w_212 {cy : Nat → ClassId} {q u ad : Nat → Nat} {b : Nat} : ((Qn q u b ad 212, ent cy (Qn q u b ad) M0 212 (.inr (0, 5))) : Nat × va_E) = (u 11, .inl (cy 0, 5, .inl (fun _ => 0))) := pr_eq (qn2 (by decide) (by decide)) (ez0 (mz 212 rfl))
theorem w_213 {cy : Nat → ClassId} {q u ad : Nat → Nat} {b : Nat} : ((Qn q u b ad 213, ent cy (Qn q u b ad) M0 213 (.inr (0, 5))) : Nat × va_E) = (u 12, .inl (cy 0, 5, .inl (fun _ => 0))) := pr_eq (qn2 (by decide) (by decide)) (ez0 (mz 213 rfl))
theorem w_214 {cy : Nat → ClassId} {q u ad : Nat → Nat} {b : Nat} : ((Qn q u b ad 214, ent cy (Qn q u b ad) M0 214 (.inr (0, 5))) : Nat × va_E) = (u 13, .inl (cy 0, 5, .inl (fun _ => 0))) := pr_eq (qn2 (by decide) (by decide)) (ez0 (mz 214 rfl))
theorem w_216 {cy : Nat → ClassId} {q u ad : Nat → Nat} {b : Nat} : ((Qn q u b ad 216, ent cy (Qn q u b ad) M0 216 (.inr (0, 30))) : Nat × va_E) = (u 15, .inl (cy 0, 30, .inl (fun _ => 0))) := pr_eq (qn2 (by decide) (by decide)) (ez0 (mz 216 rfl))
theorem w_218 {cy : Nat → ClassId} {q u ad : Nat → Nat} {b : Nat} : ((Qn q u b ad 218, ent cy (Qn q u b ad) M0 218 (.inr (0, 120))) : Nat × va_E) = (u 17, .inl (cy 0, 120, .inl (fun _ => 0))) := pr_eq (qn2 (by decide) (by decide)) (ez0 (mz 218 rfl))
theorem w_220 {cy : Nat → ClassId} {q u ad : Nat → Nat} {b : Nat} : ((Qn q u b ad 220, ent cy (Qn q u b ad) M0 220 (.inr (0, 12))) : Nat × va_E) = (u 19, .inl (cy 0, 12, .inl (fun _ => 0))) := pr_eq (qn2 (by decide) (by decide)) (ez0 (mz 220 rfl))
theorem w_221 {cy : Nat → ClassId} {q u ad : Nat → Nat} {b : Nat} : ((Qn q u b ad 221, ent cy (Qn q u b ad) M0 221 (.inr (0, 12))) : Nat × va_E) = (u 20, .inl (cy 0, 12, .inl (fun _ => 0))) := pr_eq (qn2 (by decide) (by decide)) (ez0 (mz 221 rfl))
theorem w_222 {cy : Nat → ClassId} {q u ad : Nat → Nat} {b : Nat} : ((Qn q u b ad 222, ent cy (Qn q u b ad) M0 222 (.inr (0, 12))) : Nat × va_E) = (u 21, .inl (cy 0, 12, .inl (fun _ => 0))) := pr_eq (qn2 (by decide) (by decide)) (ez0 (mz 222 rfl))
theorem w_223 {cy : Nat → ClassId} {q u ad : Nat → Nat} {b : Nat} : ((Qn q u b ad 223, ent cy (Qn q u b ad) M0 223 (.inr (0, 12))) : Nat × va_E) = (u 22, .inl (cy 0, 12, .inl (fun _ => 0))) := pr_eq (qn2 (by decide) (by decide)) (ez0 (mz 223 rfl))
theorem w_224 {cy : Nat → ClassId} {q u ad : Nat → Nat} {b : Nat} : ((Qn q u b ad 224, ent cy (Qn q u b ad) M0 224 (.inr (0, 12))) : Nat × va_E) = (u 23, .inl (cy 0, 12, .inl (fun _ => 0))) := pr_eq (qn2 (by decide) (by decide)) (ez0 (mz 224 rfl))
theorem w_226 {cy : Nat → ClassId} {q u ad : Nat → Nat} {b : Nat} : ((Qn q u b ad 226, ent cy (Qn q u b ad) M0 226 (.inr (0, 5))) : Nat × va_E) = (u 25, .inl (cy 0, 5, .inl (fun _ => 0))) := pr_eq (qn2 (by decide) (by decide)) (ez0 (mz 226 rfl))
theorem w_228 {cy : Nat → ClassId} {q u ad : Nat → Nat} {b : Nat} : ((Qn q u b ad 228, ent cy (Qn q u b ad) M0 228 (.inr (0, 20))) : Nat × va_E) = (u 27, .inl (cy 0, 20, .inl (fun _ => 0))) := pr_eq (qn2 (by decide) (by decide)) (ez0 (mz 228 rfl))
theorem w_229 {cy : Nat → ClassId} {q u ad : Nat → Nat} {b : Nat} : ((Qn q u b ad 229, ent cy (Qn q u b ad) M0 229 (.inr (0, 20))) : Nat × va_E) = (u 28, .inl (cy 0, 20, .inl (fun _ => 0))) := pr_eq (qn2 (by decide) (by decide)) (ez0 (mz 229 rfl))
theorem w_230 {cy : Nat → ClassId} {q u ad : Nat → Nat} {b : Nat} : ((Qn q u b ad 230, ent cy (Qn q u b ad) M0 230 (.inr (0, 20))) : Nat × va_E) = (u 29, .inl (cy 0, 20, .inl (fun _ => 0))) := pr_eq (qn2 (by decide) (by decide)) (ez0 (mz 230 rfl))
theorem w_231 {cy : Nat → ClassId} {q u ad : Nat → Nat} {b : Nat} : ((Qn q u b ad 231, ent cy (Qn q u b ad) M0 231 (.inr (0, 20))) : Nat × va_E) = (u 30, .inl (cy 0, 20, .inl (fun _ => 0))) := pr_eq (qn2 (by decide) (by decide)) (ez0 (mz 231 rfl))
theorem w_233 {cy : Nat → ClassId} {q u ad : Nat → Nat} {b : Nat} : ((Qn q u b ad 233, ent cy (Qn q u b ad) M0 233 (.inr (0, 10))) : Nat × va_E) = (u 32, .inl (cy 0, 10, .inl (fun _ => 0))) := pr_eq (qn2 (by decide) (by decide)) (ez0 (mz 233 rfl))
theorem w_234 {cy : Nat → ClassId} {q u ad : Nat → Nat} {b : Nat} : ((Qn q u b ad 234, ent cy (Qn q u b ad) M0 234 (.inr (0, 10))) : Nat × va_E) = (u 33, .inl (cy 0, 10, .inl (fun _ => 0))) := pr_eq (qn2 (by decide) (by decide)) (ez0 (mz 234 rfl))
theorem w_235 {cy : Nat → ClassId} {q u ad : Nat → Nat} {b : Nat} : ((Qn q u b ad 235, ent cy (Qn q u b ad) M0 235 (.inr (0, 16))) : Nat × va_E) = (u 34, .inl (cy 0, 16, .inl (fun _ => 0))) := pr_eq (qn2 (by decide) (by decide)) (ez0 (mz 235 rfl))
theorem w_236 {cy : Nat → ClassId} {q u ad : Nat → Nat} {b : Nat} : ((Qn q u b ad 236, ent cy (Qn q u b ad) M0 236 (.inr (0, 4))) : Nat × va_E) = (u 35, ent cy (Qn q u b ad) M0 236 (.inr (0, 4))) := pr_eq (qn2 (by decide) (by decide)) rfl
theorem w_237 {cy : Nat → ClassId} {q u ad : Nat → Nat} {b : Nat} : ((Qn q u b ad 237, ent cy (Qn q u b ad) M0 237 (.inr (0, 7))) : Nat × va_E) = (u 36, .inl (cy 0, 7, .inl (fun _ => 0))) := pr_eq (qn2 (by decide) (by decide)) (ez0 (mz 237 rfl))
theorem w_239 {cy : Nat → ClassId} {q u ad : Nat → Nat} {b : Nat} : ((Qn q u b ad 239, ent cy (Qn q u b ad) M0 239 (.inr (0, 460))) : Nat × va_E) = (u 38, .inl (cy 0, 460, .inl (fun _ => 0))) := pr_eq (qn2 (by decide) (by decide)) (ez0 (mz 239 rfl))
theorem w_240 {cy : Nat → ClassId} {q u ad : Nat → Nat} {b : Nat} : ((Qn q u b ad 240, ent cy (Qn q u b ad) M0 240 (.inr (0, 7))) : Nat × va_E) = (u 39, .inl (cy 0, 7, .inl (fun _ => 0))) := pr_eq (qn2 (by decide) (by decide)) (ez0 (mz 240 rfl))
theorem w_241 {cy : Nat → ClassId} {q u ad : Nat → Nat} {b : Nat} : ((Qn q u b ad 241, ent cy (Qn q u b ad) M0 241 (.inr (3, 30))) : Nat × va_E) = (u 40, .inl (cy 3, 30, .inl (fun _ => 0))) := pr_eq (qn2 (by decide) (by decide)) (ez3 (mz 241 rfl))
theorem w_242 {cy : Nat → ClassId} {q u ad : Nat → Nat} {b : Nat} : ((Qn q u b ad 242, ent cy (Qn q u b ad) M0 242 (.inr (0, 12))) : Nat × va_E) = (u 41, .inl (cy 0, 12, .inl (fun _ => 0))) := pr_eq (qn2 (by decide) (by decide)) (ez0 (mz 242 rfl))
theorem w_243 {cy : Nat → ClassId} {q u ad : Nat → Nat} {b : Nat} : ((Qn q u b ad 243, ent cy (Qn q u b ad) M0 243 (.inr (0, 6231))) : Nat × va_E) = (u 42, .inl (cy 0, 6231, .inl (fun _ => 0))) := pr_eq (qn2 (by decide) (by decide)) (ez0 (mz 243 rfl))
theorem w_244 {cy : Nat → ClassId} {q u ad : Nat → Nat} {b : Nat} : ((Qn q u b ad 244, ent cy (Qn q u b ad) M0 244 (.inr (0, 20))) : Nat × va_E) = (u 43, .inl (cy 0, 20, .inl (fun _ => 0))) := pr_eq (qn2 (by decide) (by decide)) (ez0 (mz 244 rfl))
theorem w_245 {cy : Nat → ClassId} {q u ad : Nat → Nat} {b : Nat} : ((Qn q u b ad 245, ent cy (Qn q u b ad) M0 245 (.inr (0, 20))) : Nat × va_E) = (u 44, .inl (cy 0, 20, .inl (fun _ => 0))) := pr_eq (qn2 (by decide) (by decide)) (ez0 (mz 245 rfl))
theorem w_246 {cy : Nat → ClassId} {q u ad : Nat → Nat} {b : Nat} : ((Qn q u b ad 246, ent cy (Qn q u b ad) M0 246 (.inr (0, 20))) : Nat × va_E) = (u 45, .inl (cy 0, 20, .inl (fun _ => 0))) := pr_eq (qn2 (by decide) (by decide)) (ez0 (mz 246 rfl))
theorem w_247 {cy : Nat → ClassId} {q u ad : Nat → Nat} {b : Nat} : ((Qn q u b ad 247, ent cy (Qn q u b ad) M0 247 (.inr (0, 20))) : Nat × va_E) = (u 46, .inl (cy 0, 20, .inl (fun _ => 0))) := pr_eq (qn2 (by decide) (by decide)) (ez0 (mz 247 rfl))
theorem w_248 {cy : Nat → ClassId} {q u ad : Nat → Nat} {b : Nat} : ((Qn q u b ad 248, ent cy (Qn q u b ad) M0 248 (.inr (0, 30))) : Nat × va_E) = (u 47, .inl (cy 0, 30, .inl (fun _ => 0))) := pr_eq (qn2 (by decide) (by decide)) (ez0 (mz 248 rfl))
theorem w_249 {cy : Nat → ClassId} {q u ad : Nat → Nat} {b : Nat} : ((Qn q u b ad 249, ent cy (Qn q u b ad) M0 249 (.inr (0, 5))) : Nat × va_E) = (u 48, .inl (cy 0, 5, .inl (fun _ => 0))) := pr_eq (qn2 (by decide) (by decide)) (ez0 (mz 249 rfl))
theorem w_250 {cy : Nat → ClassId} {q u ad : Nat → Nat} {b : Nat} : ((Qn q u b ad 250, ent cy (Qn q u b ad) M0 250 (.inr (0, 25))) : Nat × va_E) = (u 49, .inl (cy 0, 25, .inl (fun _ => 0))) := pr_eq (qn2 (by decide) (by decide)) (ez0 (mz 250 rfl))
abbrev wE (cy : Nat → ClassId) (q u : Nat → Nat) (b : Nat) (ad : Nat → Nat) : va_W := [(q 0, .inr (11, fX q)), (q 1, ent cy (Qn q u b ad) M0 1 (.inr (4, 8))), (q 2, .inl (cy 0, 5, .inl (fun _ => 0))), (q 3, .inr (9, fTape (fun k => q (3 + k)))), (q 4, .inl (cy 1, 120, .inl (fun _ => 0))), (q 5, .inr (1, fHall (fun k => q (5 + k)))), (q 6, .inr (10, fThings (fun k => q (6 + k)))), (q 7, .inl (cy 0, 30, .inl (fun _ => 0))), (q 8, .inl (cy 0, 30, .inl (fun _ => 0))), (q 9, .inl (cy 0, 30, .inl (fun _ => 0))), (q 10, .inl (cy 0, 30, .inl (fun _ => 0))), (q 11, .inl (cy 0, 30, .inl (fun _ => 0))), (q 12, .inl (cy 0, 30, .inl (fun _ => 0))), (q 13, .inl (cy 0, 30, .inl (fun _ => 0))), (q 14, .inr (2, fLadies (fun k => q (14 + k)))), (q 15, .inl (cy 0, 5, .inl (fun _ => 0))), (q 16, .inl (cy 0, 5, .inl (fun _ => 0))), (q 17, .inl (cy 0, 5, .inl (fun _ => 0))), (q 18, .inr (3, fLaws (fun k => q (18 + k)))), (q 19, .inl (cy 0, 30, .inl (fun _ => 0))), (q 20, .inl (cy 0, 5, .inl (fun _ => 0))), (q 21, .inr (0, fBuyers (fun k => q (21 + k)))), (q 22, .inl (cy 0, 12, .inl (fun _ => 0))), (q 23, .inl (cy 0, 12, .inl (fun _ => 0))), (q 24, .inl (cy 0, 12, .inl (fun _ => 0))), (q 25, .inl (cy 0, 12, .inl (fun _ => 0))), (q 26, .inl (cy 0, 12, .inl (fun _ => 0))), (q 27, .inr (8, fSightings (fun k => q (27 + k)))), (q 28, .inl (cy 0, 20, .inl (fun _ => 0))), (q 29, .inl (cy 0, 20, .inl (fun _ => 0))), (q 30, .inl (cy 0, 20, .inl (fun _ => 0))), (q 31, .inl (cy 0, 20, .inl (fun _ => 0))), (q 32, .inl (cy 0, 20, .inl (fun _ => 0))), (q 33, .inl (cy 0, 20, .inl (fun _ => 0))), (q 34, .inl (cy 0, 20, .inl (fun _ => 0))), (q 35, .inr (6, fSecrets (fun k => q (35 + k)))), (q 36, .inl (cy 0, 10, .inl (fun _ => 0))), (q 37, .inl (cy 0, 10, .inl (fun _ => 0))), (q 38, .inl (cy 0, 16, .inl (fun _ => 0))), (q 39, .inl (cy 0, 10, .inl (fun _ => 0))), (q 40, .inl (cy 0, 10, .inl (fun _ => 0))), (q 41, .inl (cy 0, 10, .inl (fun _ => 0))), (q 42, .inl (cy 0, 5, .inl (fun _ => 0))), (q 43, .inl (cy 0, 5, .inl (fun _ => 0))), (q 44, .inl (cy 0, 25, .inl (fun _ => 0))), (q 45, .inl (cy 0, 32, .inl (fun _ => 0))), (q 46, .inr (1, fHall (fun k => q (46 + k)))), (q 47, .inr (10, fThings (fun k => q (47 + k)))), (q 48, .inl (cy 0, 30, .inl (fun _ => 0))), (q 49, .inl (cy 0, 30, .inl (fun _ => 0))), (q 50, .inl (cy 0, 30, .inl (fun _ => 0))), (q 51, .inl (cy 0, 30, .inl (fun _ => 0))), (q 52, .inl (cy 0, 30, .inl (fun _ => 0))), (q 53, .inl (cy 0, 30, .inl (fun _ => 0))), (q 54, .inl (cy 0, 30, .inl (fun _ => 0))), (q 55, .inr (2, fLadies (fun k => q (55 + k)))), (q 56, .inl (cy 0, 5, .inl (fun _ => 0))), (q 57, .inl (cy 0, 5, .inl (fun _ => 0))), (q 58, .inl (cy 0, 5, .inl (fun _ => 0))), (q 59, .inr (3, fLaws (fun k => q (59 + k)))), (q 60, .inl (cy 0, 30, .inl (fun _ => 0))), (q 61, .inl (cy 0, 5, .inl (fun _ => 0))), (q 62, .inr (0, fBuyers (fun k => q (62 + k)))), (q 63, .inl (cy 0, 12, .inl (fun _ => 0))), (q 64, .inl (cy 0, 12, .inl (fun _ => 0))), (q 65, .inl (cy 0, 12, .inl (fun _ => 0))), (q 66, .inl (cy 0, 12, .inl (fun _ => 0))), (q 67, .inl (cy 0, 12, .inl (fun _ => 0))), (q 68, .inr (8, fSightings (fun k => q (68 + k)))), (q 69, .inl (cy 0, 20, .inl (fun _ => 0))), (q 70, .inl (cy 0, 20, .inl (fun _ => 0))), (q 71, .inl (cy 0, 20, .inl (fun _ => 0))), (q 72, .inl (cy 0, 20, .inl (fun _ => 0))), (q 73, .inl (cy 0, 20, .inl (fun _ => 0))), (q 74, .inl (cy 0, 20, .inl (fun _ => 0))), (q 75, .inl (cy 0, 20, .inl (fun _ => 0))), (q 76, .inr (6, fSecrets (fun k => q (76 + k)))), (q 77, .inl (cy 0, 10, .inl (fun _ => 0))), (q 78, .inl (cy 0, 10, .inl (fun _ => 0))), (q 79, .inl (cy 0, 16, .inl (fun _ => 0))), (q 80, .inl (cy 0, 10, .inl (fun _ => 0))), (q 81, .inl (cy 0, 10, .inl (fun _ => 0))), (q 82, .inl (cy 0, 10, .inl (fun _ => 0))), (q 83, .inl (cy 0, 5, .inl (fun _ => 0))), (q 84, .inl (cy 0, 5, .inl (fun _ => 0))), (q 85, .inl (cy 0, 25, .inl (fun _ => 0))), (q 86, .inl (cy 0, 32, .inl (fun _ => 0))), (q 87, .inr (5, fSale (fun k => q (87 + k)))), (q 88, .inl (cy 0, 30, .inl (fun _ => 0))), (q 89, .inl (cy 0, 30, .inl (fun _ => 0))), (q 90, .inl (cy 0, 30, .inl (fun _ => 0))), (q 91, .inl (cy 0, 30, .inl (fun _ => 0))), (q 92, .inl (cy 0, 12, .inl (fun _ => 0))), (q 93, .inl (cy 0, 12, .inl (fun _ => 0))), (q 94, .inr (4, fPicks (fun k => q (94 + k)))), (q 95, .inl (cy 0, 10000, .inl (fun _ => 0))), (q 96, .inl (cy 0, 201, .inl (fun _ => 0))), (q 97, .inr (7, fShelf (fun k => q (97 + k)))), (q 98, .inl (cy 2, 40, .inr (.inl (fun _ => 0)))), (q 99, .inr (7, fShelf (fun k => q (99 + k)))), (q 100, .inl (cy 2, 40, .inr (.inl (fun _ => 0)))), (q 101, .inr (7, fShelf (fun k => q (101 + k)))), (q 102, .inl (cy 2, 40, .inr (.inl (fun _ => 0)))), (q 103, .inr (7, fShelf (fun k => q (103 + k)))), (q 104, .inl (cy 2, 40, .inr (.inl (fun _ => 0)))), (q 105, .inr (7, fShelf (fun k => q (105 + k)))), (q 106, .inl (cy 2, 40, .inr (.inl (fun _ => 0)))), (q 107, .inr (7, fShelf (fun k => q (107 + k)))), (q 108, .inl (cy 2, 40, .inr (.inl (fun _ => 0)))), (q 109, .inr (7, fShelf (fun k => q (109 + k)))), (q 110, .inl (cy 2, 40, .inr (.inl (fun _ => 0)))), (q 111, .inr (7, fShelf (fun k => q (111 + k)))), (q 112, .inl (cy 2, 40, .inr (.inl (fun _ => 0)))), (u 60, .inr (12, fM u)), (u 0, ent cy (Qn q u b ad) M0 201 (.inr (0, 8))), (u 1, .inl (cy 0, 8, .inl (fun _ => 0))), (u 2, .inl (cy 2, 320, .inr (.inl (fun _ => 0)))), (u 4, .inl (cy 0, 30, .inl (fun _ => 0))), (u 5, .inl (cy 0, 30, .inl (fun _ => 0))), (u 6, .inl (cy 0, 30, .inl (fun _ => 0))), (u 7, .inl (cy 0, 30, .inl (fun _ => 0))), (u 8, .inl (cy 0, 30, .inl (fun _ => 0))), (u 9, .inl (cy 0, 30, .inl (fun _ => 0))), (u 11, .inl (cy 0, 5, .inl (fun _ => 0))), (u 12, .inl (cy 0, 5, .inl (fun _ => 0))), (u 13, .inl (cy 0, 5, .inl (fun _ => 0))), (u 15, .inl (cy 0, 30, .inl (fun _ => 0))), (u 17, .inl (cy 0, 120, .inl (fun _ => 0))), (u 19, .inl (cy 0, 12, .inl (fun _ => 0))), (u 20, .inl (cy 0, 12, .inl (fun _ => 0))), (u 21, .inl (cy 0, 12, .inl (fun _ => 0))), (u 22, .inl (cy 0, 12, .inl (fun _ => 0))), (u 23, .inl (cy 0, 12, .inl (fun _ => 0))), (u 25, .inl (cy 0, 5, .inl (fun _ => 0))), (u 27, .inl (cy 0, 20, .inl (fun _ => 0))), (u 28, .inl (cy 0, 20, .inl (fun _ => 0))), (u 29, .inl (cy 0, 20, .inl (fun _ => 0))), (u 30, .inl (cy 0, 20, .inl (fun _ => 0))), (u 32, .inl (cy 0, 10, .inl (fun _ => 0))), (u 33, .inl (cy 0, 10, .inl (fun _ => 0))), (u 34, .inl (cy 0, 16, .inl (fun _ => 0))), (u 35, ent cy (Qn q u b ad) M0 236 (.inr (0, 4))), (u 36, .inl (cy 0, 7, .inl (fun _ => 0))), (u 38, .inl (cy 0, 460, .inl (fun _ => 0))), (u 39, .inl (cy 0, 7, .inl (fun _ => 0))), (u 40, .inl (cy 3, 30, .inl (fun _ => 0))), (u 41, .inl (cy 0, 12, .inl (fun _ => 0))), (u 42, .inl (cy 0, 6231, .inl (fun _ => 0))), (u 43, .inl (cy 0, 20, .inl (fun _ => 0))), (u 44, .inl (cy 0, 20, .inl (fun _ => 0))), (u 45, .inl (cy 0, 20, .inl (fun _ => 0))), (u 46, .inl (cy 0, 20, .inl (fun _ => 0))), (u 47, .inl (cy 0, 30, .inl (fun _ => 0))), (u 48, .inl (cy 0, 5, .inl (fun _ => 0))), (u 49, .inl (cy 0, 25, .inl (fun _ => 0)))]
set_option maxRecDepth 100000 in
set_option maxHeartbeats 4000000 in
theorem w0_M {cy : Nat → ClassId} {q u ad : Nat → Nat} {b : Nat} : wsM cy (Qn q u b ad) M0 = wE cy q u b ad := by
  unfold wsM
  rw [kd0]
  show [((Qn q u b ad 0, ent cy (Qn q u b ad) M0 0 (.inl 11)) : Nat × va_E), ((Qn q u b ad 1, ent cy (Qn q u b ad) M0 1 (.inr (4, 8))) : Nat × va_E), ((Qn q u b ad 2, ent cy (Qn q u b ad) M0 2 (.inr (0, 5))) : Nat × va_E), ((Qn q u b ad 3, ent cy (Qn q u b ad) M0 3 (.inl 9)) : Nat × va_E), ((Qn q u b ad 4, ent cy (Qn q u b ad) M0 4 (.inr (1, 120))) : Nat × va_E), ((Qn q u b ad 5, ent cy (Qn q u b ad) M0 5 (.inl 1)) : Nat × va_E), ((Qn q u b ad 6, ent cy (Qn q u b ad) M0 6 (.inl 10)) : Nat × va_E), ((Qn q u b ad 7, ent cy (Qn q u b ad) M0 7 (.inr (0, 30))) : Nat × va_E), ((Qn q u b ad 8, ent cy (Qn q u b ad) M0 8 (.inr (0, 30))) : Nat × va_E), ((Qn q u b ad 9, ent cy (Qn q u b ad) M0 9 (.inr (0, 30))) : Nat × va_E), ((Qn q u b ad 10, ent cy (Qn q u b ad) M0 10 (.inr (0, 30))) : Nat × va_E), ((Qn q u b ad 11, ent cy (Qn q u b ad) M0 11 (.inr (0, 30))) : Nat × va_E), ((Qn q u b ad 12, ent cy (Qn q u b ad) M0 12 (.inr (0, 30))) : Nat × va_E), ((Qn q u b ad 13, ent cy (Qn q u b ad) M0 13 (.inr (0, 30))) : Nat × va_E), ((Qn q u b ad 14, ent cy (Qn q u b ad) M0 14 (.inl 2)) : Nat × va_E), ((Qn q u b ad 15, ent cy (Qn q u b ad) M0 15 (.inr (0, 5))) : Nat × va_E), ((Qn q u b ad 16, ent cy (Qn q u b ad) M0 16 (.inr (0, 5))) : Nat × va_E), ((Qn q u b ad 17, ent cy (Qn q u b ad) M0 17 (.inr (0, 5))) : Nat × va_E), ((Qn q u b ad 18, ent cy (Qn q u b ad) M0 18 (.inl 3)) : Nat × va_E), ((Qn q u b ad 19, ent cy (Qn q u b ad) M0 19 (.inr (0, 30))) : Nat × va_E), ((Qn q u b ad 20, ent cy (Qn q u b ad) M0 20 (.inr (0, 5))) : Nat × va_E), ((Qn q u b ad 21, ent cy (Qn q u b ad) M0 21 (.inl 0)) : Nat × va_E), ((Qn q u b ad 22, ent cy (Qn q u b ad) M0 22 (.inr (0, 12))) : Nat × va_E), ((Qn q u b ad 23, ent cy (Qn q u b ad) M0 23 (.inr (0, 12))) : Nat × va_E), ((Qn q u b ad 24, ent cy (Qn q u b ad) M0 24 (.inr (0, 12))) : Nat × va_E), ((Qn q u b ad 25, ent cy (Qn q u b ad) M0 25 (.inr (0, 12))) : Nat × va_E), ((Qn q u b ad 26, ent cy (Qn q u b ad) M0 26 (.inr (0, 12))) : Nat × va_E), ((Qn q u b ad 27, ent cy (Qn q u b ad) M0 27 (.inl 8)) : Nat × va_E), ((Qn q u b ad 28, ent cy (Qn q u b ad) M0 28 (.inr (0, 20))) : Nat × va_E), ((Qn q u b ad 29, ent cy (Qn q u b ad) M0 29 (.inr (0, 20))) : Nat × va_E), ((Qn q u b ad 30, ent cy (Qn q u b ad) M0 30 (.inr (0, 20))) : Nat × va_E), ((Qn q u b ad 31, ent cy (Qn q u b ad) M0 31 (.inr (0, 20))) : Nat × va_E), ((Qn q u b ad 32, ent cy (Qn q u b ad) M0 32 (.inr (0, 20))) : Nat × va_E), ((Qn q u b ad 33, ent cy (Qn q u b ad) M0 33 (.inr (0, 20))) : Nat × va_E), ((Qn q u b ad 34, ent cy (Qn q u b ad) M0 34 (.inr (0, 20))) : Nat × va_E), ((Qn q u b ad 35, ent cy (Qn q u b ad) M0 35 (.inl 6)) : Nat × va_E), ((Qn q u b ad 36, ent cy (Qn q u b ad) M0 36 (.inr (0, 10))) : Nat × va_E), ((Qn q u b ad 37, ent cy (Qn q u b ad) M0 37 (.inr (0, 10))) : Nat × va_E), ((Qn q u b ad 38, ent cy (Qn q u b ad) M0 38 (.inr (0, 16))) : Nat × va_E), ((Qn q u b ad 39, ent cy (Qn q u b ad) M0 39 (.inr (0, 10))) : Nat × va_E), ((Qn q u b ad 40, ent cy (Qn q u b ad) M0 40 (.inr (0, 10))) : Nat × va_E), ((Qn q u b ad 41, ent cy (Qn q u b ad) M0 41 (.inr (0, 10))) : Nat × va_E), ((Qn q u b ad 42, ent cy (Qn q u b ad) M0 42 (.inr (0, 5))) : Nat × va_E), ((Qn q u b ad 43, ent cy (Qn q u b ad) M0 43 (.inr (0, 5))) : Nat × va_E), ((Qn q u b ad 44, ent cy (Qn q u b ad) M0 44 (.inr (0, 25))) : Nat × va_E), ((Qn q u b ad 45, ent cy (Qn q u b ad) M0 45 (.inr (0, 32))) : Nat × va_E), ((Qn q u b ad 46, ent cy (Qn q u b ad) M0 46 (.inl 1)) : Nat × va_E), ((Qn q u b ad 47, ent cy (Qn q u b ad) M0 47 (.inl 10)) : Nat × va_E), ((Qn q u b ad 48, ent cy (Qn q u b ad) M0 48 (.inr (0, 30))) : Nat × va_E), ((Qn q u b ad 49, ent cy (Qn q u b ad) M0 49 (.inr (0, 30))) : Nat × va_E), ((Qn q u b ad 50, ent cy (Qn q u b ad) M0 50 (.inr (0, 30))) : Nat × va_E), ((Qn q u b ad 51, ent cy (Qn q u b ad) M0 51 (.inr (0, 30))) : Nat × va_E), ((Qn q u b ad 52, ent cy (Qn q u b ad) M0 52 (.inr (0, 30))) : Nat × va_E), ((Qn q u b ad 53, ent cy (Qn q u b ad) M0 53 (.inr (0, 30))) : Nat × va_E), ((Qn q u b ad 54, ent cy (Qn q u b ad) M0 54 (.inr (0, 30))) : Nat × va_E), ((Qn q u b ad 55, ent cy (Qn q u b ad) M0 55 (.inl 2)) : Nat × va_E), ((Qn q u b ad 56, ent cy (Qn q u b ad) M0 56 (.inr (0, 5))) : Nat × va_E), ((Qn q u b ad 57, ent cy (Qn q u b ad) M0 57 (.inr (0, 5))) : Nat × va_E), ((Qn q u b ad 58, ent cy (Qn q u b ad) M0 58 (.inr (0, 5))) : Nat × va_E), ((Qn q u b ad 59, ent cy (Qn q u b ad) M0 59 (.inl 3)) : Nat × va_E), ((Qn q u b ad 60, ent cy (Qn q u b ad) M0 60 (.inr (0, 30))) : Nat × va_E), ((Qn q u b ad 61, ent cy (Qn q u b ad) M0 61 (.inr (0, 5))) : Nat × va_E), ((Qn q u b ad 62, ent cy (Qn q u b ad) M0 62 (.inl 0)) : Nat × va_E), ((Qn q u b ad 63, ent cy (Qn q u b ad) M0 63 (.inr (0, 12))) : Nat × va_E), ((Qn q u b ad 64, ent cy (Qn q u b ad) M0 64 (.inr (0, 12))) : Nat × va_E), ((Qn q u b ad 65, ent cy (Qn q u b ad) M0 65 (.inr (0, 12))) : Nat × va_E), ((Qn q u b ad 66, ent cy (Qn q u b ad) M0 66 (.inr (0, 12))) : Nat × va_E), ((Qn q u b ad 67, ent cy (Qn q u b ad) M0 67 (.inr (0, 12))) : Nat × va_E), ((Qn q u b ad 68, ent cy (Qn q u b ad) M0 68 (.inl 8)) : Nat × va_E), ((Qn q u b ad 69, ent cy (Qn q u b ad) M0 69 (.inr (0, 20))) : Nat × va_E), ((Qn q u b ad 70, ent cy (Qn q u b ad) M0 70 (.inr (0, 20))) : Nat × va_E), ((Qn q u b ad 71, ent cy (Qn q u b ad) M0 71 (.inr (0, 20))) : Nat × va_E), ((Qn q u b ad 72, ent cy (Qn q u b ad) M0 72 (.inr (0, 20))) : Nat × va_E), ((Qn q u b ad 73, ent cy (Qn q u b ad) M0 73 (.inr (0, 20))) : Nat × va_E), ((Qn q u b ad 74, ent cy (Qn q u b ad) M0 74 (.inr (0, 20))) : Nat × va_E), ((Qn q u b ad 75, ent cy (Qn q u b ad) M0 75 (.inr (0, 20))) : Nat × va_E), ((Qn q u b ad 76, ent cy (Qn q u b ad) M0 76 (.inl 6)) : Nat × va_E), ((Qn q u b ad 77, ent cy (Qn q u b ad) M0 77 (.inr (0, 10))) : Nat × va_E), ((Qn q u b ad 78, ent cy (Qn q u b ad) M0 78 (.inr (0, 10))) : Nat × va_E), ((Qn q u b ad 79, ent cy (Qn q u b ad) M0 79 (.inr (0, 16))) : Nat × va_E), ((Qn q u b ad 80, ent cy (Qn q u b ad) M0 80 (.inr (0, 10))) : Nat × va_E), ((Qn q u b ad 81, ent cy (Qn q u b ad) M0 81 (.inr (0, 10))) : Nat × va_E), ((Qn q u b ad 82, ent cy (Qn q u b ad) M0 82 (.inr (0, 10))) : Nat × va_E), ((Qn q u b ad 83, ent cy (Qn q u b ad) M0 83 (.inr (0, 5))) : Nat × va_E), ((Qn q u b ad 84, ent cy (Qn q u b ad) M0 84 (.inr (0, 5))) : Nat × va_E), ((Qn q u b ad 85, ent cy (Qn q u b ad) M0 85 (.inr (0, 25))) : Nat × va_E), ((Qn q u b ad 86, ent cy (Qn q u b ad) M0 86 (.inr (0, 32))) : Nat × va_E), ((Qn q u b ad 87, ent cy (Qn q u b ad) M0 87 (.inl 5)) : Nat × va_E), ((Qn q u b ad 88, ent cy (Qn q u b ad) M0 88 (.inr (0, 30))) : Nat × va_E), ((Qn q u b ad 89, ent cy (Qn q u b ad) M0 89 (.inr (0, 30))) : Nat × va_E), ((Qn q u b ad 90, ent cy (Qn q u b ad) M0 90 (.inr (0, 30))) : Nat × va_E), ((Qn q u b ad 91, ent cy (Qn q u b ad) M0 91 (.inr (0, 30))) : Nat × va_E), ((Qn q u b ad 92, ent cy (Qn q u b ad) M0 92 (.inr (0, 12))) : Nat × va_E), ((Qn q u b ad 93, ent cy (Qn q u b ad) M0 93 (.inr (0, 12))) : Nat × va_E), ((Qn q u b ad 94, ent cy (Qn q u b ad) M0 94 (.inl 4)) : Nat × va_E), ((Qn q u b ad 95, ent cy (Qn q u b ad) M0 95 (.inr (0, 10000))) : Nat × va_E), ((Qn q u b ad 96, ent cy (Qn q u b ad) M0 96 (.inr (0, 201))) : Nat × va_E), ((Qn q u b ad 97, ent cy (Qn q u b ad) M0 97 (.inl 7)) : Nat × va_E), ((Qn q u b ad 98, ent cy (Qn q u b ad) M0 98 (.inr (2, 40))) : Nat × va_E), ((Qn q u b ad 99, ent cy (Qn q u b ad) M0 99 (.inl 7)) : Nat × va_E), ((Qn q u b ad 100, ent cy (Qn q u b ad) M0 100 (.inr (2, 40))) : Nat × va_E), ((Qn q u b ad 101, ent cy (Qn q u b ad) M0 101 (.inl 7)) : Nat × va_E), ((Qn q u b ad 102, ent cy (Qn q u b ad) M0 102 (.inr (2, 40))) : Nat × va_E), ((Qn q u b ad 103, ent cy (Qn q u b ad) M0 103 (.inl 7)) : Nat × va_E), ((Qn q u b ad 104, ent cy (Qn q u b ad) M0 104 (.inr (2, 40))) : Nat × va_E), ((Qn q u b ad 105, ent cy (Qn q u b ad) M0 105 (.inl 7)) : Nat × va_E), ((Qn q u b ad 106, ent cy (Qn q u b ad) M0 106 (.inr (2, 40))) : Nat × va_E), ((Qn q u b ad 107, ent cy (Qn q u b ad) M0 107 (.inl 7)) : Nat × va_E), ((Qn q u b ad 108, ent cy (Qn q u b ad) M0 108 (.inr (2, 40))) : Nat × va_E), ((Qn q u b ad 109, ent cy (Qn q u b ad) M0 109 (.inl 7)) : Nat × va_E), ((Qn q u b ad 110, ent cy (Qn q u b ad) M0 110 (.inr (2, 40))) : Nat × va_E), ((Qn q u b ad 111, ent cy (Qn q u b ad) M0 111 (.inl 7)) : Nat × va_E), ((Qn q u b ad 112, ent cy (Qn q u b ad) M0 112 (.inr (2, 40))) : Nat × va_E), ((Qn q u b ad 200, ent cy (Qn q u b ad) M0 200 (.inl 12)) : Nat × va_E), ((Qn q u b ad 201, ent cy (Qn q u b ad) M0 201 (.inr (0, 8))) : Nat × va_E), ((Qn q u b ad 202, ent cy (Qn q u b ad) M0 202 (.inr (0, 8))) : Nat × va_E), ((Qn q u b ad 203, ent cy (Qn q u b ad) M0 203 (.inr (2, 320))) : Nat × va_E), ((Qn q u b ad 205, ent cy (Qn q u b ad) M0 205 (.inr (0, 30))) : Nat × va_E), ((Qn q u b ad 206, ent cy (Qn q u b ad) M0 206 (.inr (0, 30))) : Nat × va_E), ((Qn q u b ad 207, ent cy (Qn q u b ad) M0 207 (.inr (0, 30))) : Nat × va_E), ((Qn q u b ad 208, ent cy (Qn q u b ad) M0 208 (.inr (0, 30))) : Nat × va_E), ((Qn q u b ad 209, ent cy (Qn q u b ad) M0 209 (.inr (0, 30))) : Nat × va_E), ((Qn q u b ad 210, ent cy (Qn q u b ad) M0 210 (.inr (0, 30))) : Nat × va_E), ((Qn q u b ad 212, ent cy (Qn q u b ad) M0 212 (.inr (0, 5))) : Nat × va_E), ((Qn q u b ad 213, ent cy (Qn q u b ad) M0 213 (.inr (0, 5))) : Nat × va_E), ((Qn q u b ad 214, ent cy (Qn q u b ad) M0 214 (.inr (0, 5))) : Nat × va_E), ((Qn q u b ad 216, ent cy (Qn q u b ad) M0 216 (.inr (0, 30))) : Nat × va_E), ((Qn q u b ad 218, ent cy (Qn q u b ad) M0 218 (.inr (0, 120))) : Nat × va_E), ((Qn q u b ad 220, ent cy (Qn q u b ad) M0 220 (.inr (0, 12))) : Nat × va_E), ((Qn q u b ad 221, ent cy (Qn q u b ad) M0 221 (.inr (0, 12))) : Nat × va_E), ((Qn q u b ad 222, ent cy (Qn q u b ad) M0 222 (.inr (0, 12))) : Nat × va_E), ((Qn q u b ad 223, ent cy (Qn q u b ad) M0 223 (.inr (0, 12))) : Nat × va_E), ((Qn q u b ad 224, ent cy (Qn q u b ad) M0 224 (.inr (0, 12))) : Nat × va_E), ((Qn q u b ad 226, ent cy (Qn q u b ad) M0 226 (.inr (0, 5))) : Nat × va_E), ((Qn q u b ad 228, ent cy (Qn q u b ad) M0 228 (.inr (0, 20))) : Nat × va_E), ((Qn q u b ad 229, ent cy (Qn q u b ad) M0 229 (.inr (0, 20))) : Nat × va_E), ((Qn q u b ad 230, ent cy (Qn q u b ad) M0 230 (.inr (0, 20))) : Nat × va_E), ((Qn q u b ad 231, ent cy (Qn q u b ad) M0 231 (.inr (0, 20))) : Nat × va_E), ((Qn q u b ad 233, ent cy (Qn q u b ad) M0 233 (.inr (0, 10))) : Nat × va_E), ((Qn q u b ad 234, ent cy (Qn q u b ad) M0 234 (.inr (0, 10))) : Nat × va_E), ((Qn q u b ad 235, ent cy (Qn q u b ad) M0 235 (.inr (0, 16))) : Nat × va_E), ((Qn q u b ad 236, ent cy (Qn q u b ad) M0 236 (.inr (0, 4))) : Nat × va_E), ((Qn q u b ad 237, ent cy (Qn q u b ad) M0 237 (.inr (0, 7))) : Nat × va_E), ((Qn q u b ad 239, ent cy (Qn q u b ad) M0 239 (.inr (0, 460))) : Nat × va_E), ((Qn q u b ad 240, ent cy (Qn q u b ad) M0 240 (.inr (0, 7))) : Nat × va_E), ((Qn q u b ad 241, ent cy (Qn q u b ad) M0 241 (.inr (3, 30))) : Nat × va_E), ((Qn q u b ad 242, ent cy (Qn q u b ad) M0 242 (.inr (0, 12))) : Nat × va_E), ((Qn q u b ad 243, ent cy (Qn q u b ad) M0 243 (.inr (0, 6231))) : Nat × va_E), ((Qn q u b ad 244, ent cy (Qn q u b ad) M0 244 (.inr (0, 20))) : Nat × va_E), ((Qn q u b ad 245, ent cy (Qn q u b ad) M0 245 (.inr (0, 20))) : Nat × va_E), ((Qn q u b ad 246, ent cy (Qn q u b ad) M0 246 (.inr (0, 20))) : Nat × va_E), ((Qn q u b ad 247, ent cy (Qn q u b ad) M0 247 (.inr (0, 20))) : Nat × va_E), ((Qn q u b ad 248, ent cy (Qn q u b ad) M0 248 (.inr (0, 30))) : Nat × va_E), ((Qn q u b ad 249, ent cy (Qn q u b ad) M0 249 (.inr (0, 5))) : Nat × va_E), ((Qn q u b ad 250, ent cy (Qn q u b ad) M0 250 (.inr (0, 25))) : Nat × va_E)] = _
  refine l_cons (w_0 (cy := cy) (q := q) (u := u) (ad := ad) (b := b)) ?_
  refine l_cons (w_1 (cy := cy) (q := q) (u := u) (ad := ad) (b := b)) ?_
  refine l_cons (w_2 (cy := cy) (q := q) (u := u) (ad := ad) (b := b)) ?_
  refine l_cons (w_3 (cy := cy) (q := q) (u := u) (ad := ad) (b := b)) ?_
  refine l_cons (w_4 (cy := cy) (q := q) (u := u) (ad := ad) (b := b)) ?_
  refine l_cons (w_5 (cy := cy) (q := q) (u := u) (ad := ad) (b := b)) ?_
  refine l_cons (w_6 (cy := cy) (q := q) (u := u) (ad := ad) (b := b)) ?_
  refine l_cons (w_7 (cy := cy) (q := q) (u := u) (ad := ad) (b := b)) ?_
  refine l_cons (w_8 (cy := cy) (q := q) (u := u) (ad := ad) (b := b)) ?_
  refine l_cons (w_9 (cy := cy) (q := q) (u := u) (ad := ad) (b := b)) ?_
  refine l_cons (w_10 (cy := cy) (q := q) (u := u) (ad := ad) (b := b)) ?_
  refine l_cons (w_11 (cy := cy) (q := q) (u := u) (ad := ad) (b := b)) ?_
  refine l_cons (w_12 (cy := cy) (q := q) (u := u) (ad := ad) (b := b)) ?_
  refine l_cons (w_13 (cy := cy) (q := q) (u := u) (ad := ad) (b := b)) ?_
  refine l_cons (w_14 (cy := cy) (q := q) (u := u) (ad := ad) (b := b)) ?_
  refine l_cons (w_15 (cy := cy) (q := q) (u := u) (ad := ad) (b := b)) ?_
  refine l_cons (w_16 (cy := cy) (q := q) (u := u) (ad := ad) (b := b)) ?_
  refine l_cons (w_17 (cy := cy) (q := q) (u := u) (ad := ad) (b := b)) ?_
  refine l_cons (w_18 (cy := cy) (q := q) (u := u) (ad := ad) (b := b)) ?_
  refine l_cons (w_19 (cy := cy) (q := q) (u := u) (ad := ad) (b := b)) ?_
  refine l_cons (w_20 (cy := cy) (q := q) (u := u) (ad := ad) (b := b)) ?_
  refine l_cons (w_21 (cy := cy) (q := q) (u := u) (ad := ad) (b := b)) ?_
  refine l_cons (w_22 (cy := cy) (q := q) (u := u) (ad := ad) (b := b)) ?_
  refine l_cons (w_23 (cy := cy) (q := q) (u := u) (ad := ad) (b := b)) ?_
  refine l_cons (w_24 (cy := cy) (q := q) (u := u) (ad := ad) (b := b)) ?_
  refine l_cons (w_25 (cy := cy) (q := q) (u := u) (ad := ad) (b := b)) ?_
  refine l_cons (w_26 (cy := cy) (q := q) (u := u) (ad := ad) (b := b)) ?_
  refine l_cons (w_27 (cy := cy) (q := q) (u := u) (ad := ad) (b := b)) ?_
  refine l_cons (w_28 (cy := cy) (q := q) (u := u) (ad := ad) (b := b)) ?_
  refine l_cons (w_29 (cy := cy) (q := q) (u := u) (ad := ad) (b := b)) ?_
  refine l_cons (w_30 (cy := cy) (q := q) (u := u) (ad := ad) (b := b)) ?_
  refine l_cons (w_31 (cy := cy) (q := q) (u := u) (ad := ad) (b := b)) ?_
  refine l_cons (w_32 (cy := cy) (q := q) (u := u) (ad := ad) (b := b)) ?_
  refine l_cons (w_33 (cy := cy) (q := q) (u := u) (ad := ad) (b := b)) ?_
  refine l_cons (w_34 (cy := cy) (q := q) (u := u) (ad := ad) (b := b)) ?_
  refine l_cons (w_35 (cy := cy) (q := q) (u := u) (ad := ad) (b := b)) ?_
  refine l_cons (w_36 (cy := cy) (q := q) (u := u) (ad := ad) (b := b)) ?_
  refine l_cons (w_37 (cy := cy) (q := q) (u := u) (ad := ad) (b := b)) ?_
  refine l_cons (w_38 (cy := cy) (q := q) (u := u) (ad := ad) (b := b)) ?_
  refine l_cons (w_39 (cy := cy) (q := q) (u := u) (ad := ad) (b := b)) ?_
  refine l_cons (w_40 (cy := cy) (q := q) (u := u) (ad := ad) (b := b)) ?_
  refine l_cons (w_41 (cy := cy) (q := q) (u := u) (ad := ad) (b := b)) ?_
  refine l_cons (w_42 (cy := cy) (q := q) (u := u) (ad := ad) (b := b)) ?_
  refine l_cons (w_43 (cy := cy) (q := q) (u := u) (ad := ad) (b := b)) ?_
  refine l_cons (w_44 (cy := cy) (q := q) (u := u) (ad := ad) (b := b)) ?_
  refine l_cons (w_45 (cy := cy) (q := q) (u := u) (ad := ad) (b := b)) ?_
  refine l_cons (w_46 (cy := cy) (q := q) (u := u) (ad := ad) (b := b)) ?_
  refine l_cons (w_47 (cy := cy) (q := q) (u := u) (ad := ad) (b := b)) ?_
  refine l_cons (w_48 (cy := cy) (q := q) (u := u) (ad := ad) (b := b)) ?_
  refine l_cons (w_49 (cy := cy) (q := q) (u := u) (ad := ad) (b := b)) ?_
  refine l_cons (w_50 (cy := cy) (q := q) (u := u) (ad := ad) (b := b)) ?_
  refine l_cons (w_51 (cy := cy) (q := q) (u := u) (ad := ad) (b := b)) ?_
  refine l_cons (w_52 (cy := cy) (q := q) (u := u) (ad := ad) (b := b)) ?_
  refine l_cons (w_53 (cy := cy) (q := q) (u := u) (ad := ad) (b := b)) ?_
  refine l_cons (w_54 (cy := cy) (q := q) (u := u) (ad := ad) (b := b)) ?_
  refine l_cons (w_55 (cy := cy) (q := q) (u := u) (ad := ad) (b := b)) ?_
  refine l_cons (w_56 (cy := cy) (q := q) (u := u) (ad := ad) (b := b)) ?_
  refine l_cons (w_57 (cy := cy) (q := q) (u := u) (ad := ad) (b := b)) ?_
  refine l_cons (w_58 (cy := cy) (q := q) (u := u) (ad := ad) (b := b)) ?_
  refine l_cons (w_59 (cy := cy) (q := q) (u := u) (ad := ad) (b := b)) ?_
  refine l_cons (w_60 (cy := cy) (q := q) (u := u) (ad := ad) (b := b)) ?_
  refine l_cons (w_61 (cy := cy) (q := q) (u := u) (ad := ad) (b := b)) ?_
  refine l_cons (w_62 (cy := cy) (q := q) (u := u) (ad := ad) (b := b)) ?_
  refine l_cons (w_63 (cy := cy) (q := q) (u := u) (ad := ad) (b := b)) ?_
  refine l_cons (w_64 (cy := cy) (q := q) (u := u) (ad := ad) (b := b)) ?_
  refine l_cons (w_65 (cy := cy) (q := q) (u := u) (ad := ad) (b := b)) ?_
  refine l_cons (w_66 (cy := cy) (q := q) (u := u) (ad := ad) (b := b)) ?_
  refine l_cons (w_67 (cy := cy) (q := q) (u := u) (ad := ad) (b := b)) ?_
  refine l_cons (w_68 (cy := cy) (q := q) (u := u) (ad := ad) (b := b)) ?_
  refine l_cons (w_69 (cy := cy) (q := q) (u := u) (ad := ad) (b := b)) ?_
  refine l_cons (w_70 (cy := cy) (q := q) (u := u) (ad := ad) (b := b)) ?_
  refine l_cons (w_71 (cy := cy) (q := q) (u := u) (ad := ad) (b := b)) ?_
  refine l_cons (w_72 (cy := cy) (q := q) (u := u) (ad := ad) (b := b)) ?_
  refine l_cons (w_73 (cy := cy) (q := q) (u := u) (ad := ad) (b := b)) ?_
  refine l_cons (w_74 (cy := cy) (q := q) (u := u) (ad := ad) (b := b)) ?_
  refine l_cons (w_75 (cy := cy) (q := q) (u := u) (ad := ad) (b := b)) ?_
  refine l_cons (w_76 (cy := cy) (q := q) (u := u) (ad := ad) (b := b)) ?_
  refine l_cons (w_77 (cy := cy) (q := q) (u := u) (ad := ad) (b := b)) ?_
  refine l_cons (w_78 (cy := cy) (q := q) (u := u) (ad := ad) (b := b)) ?_
  refine l_cons (w_79 (cy := cy) (q := q) (u := u) (ad := ad) (b := b)) ?_
  refine l_cons (w_80 (cy := cy) (q := q) (u := u) (ad := ad) (b := b)) ?_
  refine l_cons (w_81 (cy := cy) (q := q) (u := u) (ad := ad) (b := b)) ?_
  refine l_cons (w_82 (cy := cy) (q := q) (u := u) (ad := ad) (b := b)) ?_
  refine l_cons (w_83 (cy := cy) (q := q) (u := u) (ad := ad) (b := b)) ?_
  refine l_cons (w_84 (cy := cy) (q := q) (u := u) (ad := ad) (b := b)) ?_
  refine l_cons (w_85 (cy := cy) (q := q) (u := u) (ad := ad) (b := b)) ?_
  refine l_cons (w_86 (cy := cy) (q := q) (u := u) (ad := ad) (b := b)) ?_
  refine l_cons (w_87 (cy := cy) (q := q) (u := u) (ad := ad) (b := b)) ?_
  refine l_cons (w_88 (cy := cy) (q := q) (u := u) (ad := ad) (b := b)) ?_
  refine l_cons (w_89 (cy := cy) (q := q) (u := u) (ad := ad) (b := b)) ?_
  refine l_cons (w_90 (cy := cy) (q := q) (u := u) (ad := ad) (b := b)) ?_
  refine l_cons (w_91 (cy := cy) (q := q) (u := u) (ad := ad) (b := b)) ?_
  refine l_cons (w_92 (cy := cy) (q := q) (u := u) (ad := ad) (b := b)) ?_
  refine l_cons (w_93 (cy := cy) (q := q) (u := u) (ad := ad) (b := b)) ?_
  refine l_cons (w_94 (cy := cy) (q := q) (u := u) (ad := ad) (b := b)) ?_
  refine l_cons (w_95 (cy := cy) (q := q) (u := u) (ad := ad) (b := b)) ?_
  refine l_cons (w_96 (cy := cy) (q := q) (u := u) (ad := ad) (b := b)) ?_
  refine l_cons (w_97 (cy := cy) (q := q) (u := u) (ad := ad) (b := b)) ?_
  refine l_cons (w_98 (cy := cy) (q := q) (u := u) (ad := ad) (b := b)) ?_
  refine l_cons (w_99 (cy := cy) (q := q) (u := u) (ad := ad) (b := b)) ?_
  refine l_cons (w_100 (cy := cy) (q := q) (u := u) (ad := ad) (b := b)) ?_
  refine l_cons (w_101 (cy := cy) (q := q) (u := u) (ad := ad) (b := b)) ?_
  refine l_cons (w_102 (cy := cy) (q := q) (u := u) (ad := ad) (b := b)) ?_
  refine l_cons (w_103 (cy := cy) (q := q) (u := u) (ad := ad) (b := b)) ?_
  refine l_cons (w_104 (cy := cy) (q := q) (u := u) (ad := ad) (b := b)) ?_
  refine l_cons (w_105 (cy := cy) (q := q) (u := u) (ad := ad) (b := b)) ?_
  refine l_cons (w_106 (cy := cy) (q := q) (u := u) (ad := ad) (b := b)) ?_
  refine l_cons (w_107 (cy := cy) (q := q) (u := u) (ad := ad) (b := b)) ?_
  refine l_cons (w_108 (cy := cy) (q := q) (u := u) (ad := ad) (b := b)) ?_
  refine l_cons (w_109 (cy := cy) (q := q) (u := u) (ad := ad) (b := b)) ?_
  refine l_cons (w_110 (cy := cy) (q := q) (u := u) (ad := ad) (b := b)) ?_
  refine l_cons (w_111 (cy := cy) (q := q) (u := u) (ad := ad) (b := b)) ?_
  refine l_cons (w_112 (cy := cy) (q := q) (u := u) (ad := ad) (b := b)) ?_
  refine l_cons (w_200 (cy := cy) (q := q) (u := u) (ad := ad) (b := b)) ?_
  refine l_cons (w_201 (cy := cy) (q := q) (u := u) (ad := ad) (b := b)) ?_
  refine l_cons (w_202 (cy := cy) (q := q) (u := u) (ad := ad) (b := b)) ?_
  refine l_cons (w_203 (cy := cy) (q := q) (u := u) (ad := ad) (b := b)) ?_
  refine l_cons (w_205 (cy := cy) (q := q) (u := u) (ad := ad) (b := b)) ?_
  refine l_cons (w_206 (cy := cy) (q := q) (u := u) (ad := ad) (b := b)) ?_
  refine l_cons (w_207 (cy := cy) (q := q) (u := u) (ad := ad) (b := b)) ?_
  refine l_cons (w_208 (cy := cy) (q := q) (u := u) (ad := ad) (b := b)) ?_
  refine l_cons (w_209 (cy := cy) (q := q) (u := u) (ad := ad) (b := b)) ?_
  refine l_cons (w_210 (cy := cy) (q := q) (u := u) (ad := ad) (b := b)) ?_
  refine l_cons (w_212 (cy := cy) (q := q) (u := u) (ad := ad) (b := b)) ?_
  refine l_cons (w_213 (cy := cy) (q := q) (u := u) (ad := ad) (b := b)) ?_
  refine l_cons (w_214 (cy := cy) (q := q) (u := u) (ad := ad) (b := b)) ?_
  refine l_cons (w_216 (cy := cy) (q := q) (u := u) (ad := ad) (b := b)) ?_
  refine l_cons (w_218 (cy := cy) (q := q) (u := u) (ad := ad) (b := b)) ?_
  refine l_cons (w_220 (cy := cy) (q := q) (u := u) (ad := ad) (b := b)) ?_
  refine l_cons (w_221 (cy := cy) (q := q) (u := u) (ad := ad) (b := b)) ?_
  refine l_cons (w_222 (cy := cy) (q := q) (u := u) (ad := ad) (b := b)) ?_
  refine l_cons (w_223 (cy := cy) (q := q) (u := u) (ad := ad) (b := b)) ?_
  refine l_cons (w_224 (cy := cy) (q := q) (u := u) (ad := ad) (b := b)) ?_
  refine l_cons (w_226 (cy := cy) (q := q) (u := u) (ad := ad) (b := b)) ?_
  refine l_cons (w_228 (cy := cy) (q := q) (u := u) (ad := ad) (b := b)) ?_
  refine l_cons (w_229 (cy := cy) (q := q) (u := u) (ad := ad) (b := b)) ?_
  refine l_cons (w_230 (cy := cy) (q := q) (u := u) (ad := ad) (b := b)) ?_
  refine l_cons (w_231 (cy := cy) (q := q) (u := u) (ad := ad) (b := b)) ?_
  refine l_cons (w_233 (cy := cy) (q := q) (u := u) (ad := ad) (b := b)) ?_
  refine l_cons (w_234 (cy := cy) (q := q) (u := u) (ad := ad) (b := b)) ?_
  refine l_cons (w_235 (cy := cy) (q := q) (u := u) (ad := ad) (b := b)) ?_
  refine l_cons (w_236 (cy := cy) (q := q) (u := u) (ad := ad) (b := b)) ?_
  refine l_cons (w_237 (cy := cy) (q := q) (u := u) (ad := ad) (b := b)) ?_
  refine l_cons (w_239 (cy := cy) (q := q) (u := u) (ad := ad) (b := b)) ?_
  refine l_cons (w_240 (cy := cy) (q := q) (u := u) (ad := ad) (b := b)) ?_
  refine l_cons (w_241 (cy := cy) (q := q) (u := u) (ad := ad) (b := b)) ?_
  refine l_cons (w_242 (cy := cy) (q := q) (u := u) (ad := ad) (b := b)) ?_
  refine l_cons (w_243 (cy := cy) (q := q) (u := u) (ad := ad) (b := b)) ?_
  refine l_cons (w_244 (cy := cy) (q := q) (u := u) (ad := ad) (b := b)) ?_
  refine l_cons (w_245 (cy := cy) (q := q) (u := u) (ad := ad) (b := b)) ?_
  refine l_cons (w_246 (cy := cy) (q := q) (u := u) (ad := ad) (b := b)) ?_
  refine l_cons (w_247 (cy := cy) (q := q) (u := u) (ad := ad) (b := b)) ?_
  refine l_cons (w_248 (cy := cy) (q := q) (u := u) (ad := ad) (b := b)) ?_
  refine l_cons (w_249 (cy := cy) (q := q) (u := u) (ad := ad) (b := b)) ?_
  refine l_cons (w_250 (cy := cy) (q := q) (u := u) (ad := ad) (b := b)) ?_
  rfl
set_option maxRecDepth 100000 in
set_option maxHeartbeats 4000000 in
theorem w0_E {cy : Nat → ClassId} {q u ad : Nat → Nat} {b : Nat} : (((wX cy q ++ wM cy u).set 1 (q 1, ent cy (Qn q u b ad) M0 1 (.inr (4, 8)))).set 114 (u 0, ent cy (Qn q u b ad) M0 201 (.inr (0, 8)))).set 141 (u 35, ent cy (Qn q u b ad) M0 236 (.inr (0, 4))) = wE cy q u b ad := rfl
theorem w0_eq {cy : Nat → ClassId} {q u ad : Nat → Nat} {b : Nat} : wsM cy (Qn q u b ad) M0 = (((wX cy q ++ wM cy u).set 1 (q 1, ent cy (Qn q u b ad) M0 1 (.inr (4, 8)))).set 114 (u 0, ent cy (Qn q u b ad) M0 201 (.inr (0, 8)))).set 141 (u 35, ent cy (Qn q u b ad) M0 236 (.inr (0, 4))) := w0_M.trans w0_E.symm
set_option maxRecDepth 100000 in
set_option maxHeartbeats 4000000 in
theorem w0_P {D : va_G} {A : Nat → Prop} {cy : Nat → ClassId} {q u ad : Nat → Nat} {b : Nat} {H : Heap} (h : va_P D cls (wX cy q ++ wM cy u) H) (hD : va_D A (wX cy q ++ wM cy u)) : va_P D cls (wsM cy (Qn q u b ad) M0) H ∧ va_D A (wsM cy (Qn q u b ad) M0) := by
  have i1 : (wX cy q ++ wM cy u)[1]? = some (q 1, .inl (cy 4, 8, .inr (.inr (.inr (.inr (shv q)))))) := rfl
  have i2 : ((wX cy q ++ wM cy u).set 1 (q 1, ent cy (Qn q u b ad) M0 1 (.inr (4, 8))))[114]? = some (u 0, .inl (cy 0, 8, .inl hold0)) := rfl
  have i3 : (((wX cy q ++ wM cy u).set 1 (q 1, ent cy (Qn q u b ad) M0 1 (.inr (4, 8)))).set 114 (u 0, ent cy (Qn q u b ad) M0 201 (.inr (0, 8))))[141]? = some (u 35, .inl (cy 0, 4, .inl hours0)) := rfl
  have a1 : H[q 1]? = some (arrV (cy 4) 8 (fun j => va_rf (shv q j))) := h 1 _ i1
  have b1 : va_at D cls (q 1, ent cy (Qn q u b ad) M0 1 (.inr (4, 8))) H := by
    show H[q 1]? = some (arrV (cy 4) 8 (fun j => va_rf (some (Qn q u b ad (1 + 96 + 2 * j)))))
    rw [a1]
    congr 1
  have P1 := h.set hD i1 b1 (fun _ _ => rfl)
  have D1 := hD.set (e := ent cy (Qn q u b ad) M0 1 (.inr (4, 8))) i1
  have a2 : H[u 0]? = some (arrV (cy 0) 8 (fun j => .int (hold0 j))) := P1 _ _ i2
  have b2 : va_at D cls (u 0, ent cy (Qn q u b ad) M0 201 (.inr (0, 8))) H := by
    show H[u 0]? = some (arrV (cy 0) 8 (fun j => .int (Int32.ofInt (M0 201 j))))
    rw [a2]
    congr 1
  have P2 := P1.set D1 i2 b2 (fun _ _ => rfl)
  have D2 := D1.set (e := ent cy (Qn q u b ad) M0 201 (.inr (0, 8))) i2
  have a3 : H[u 35]? = some (arrV (cy 0) 4 (fun j => .int (hours0 j))) := P2 _ _ i3
  have b3 : va_at D cls (u 35, ent cy (Qn q u b ad) M0 236 (.inr (0, 4))) H := by
    show H[u 35]? = some (arrV (cy 0) 4 (fun j => .int (Int32.ofInt (M0 236 j))))
    rw [a3]
    congr 1
  have P3 := P2.set D2 i3 b3 (fun _ _ => rfl)
  have D3 := D2.set (e := ent cy (Qn q u b ad) M0 236 (.inr (0, 4))) i3
  rw [w0_eq]
  exact ⟨P3, D3⟩
theorem rel_0 : Rel 0 M0 M0 := by
  refine rel_mk (EQ_mk rfl rfl rfl rfl rfl rfl rfl rfl rfl rfl rfl rfl rfl rfl rfl rfl rfl rfl rfl rfl rfl rfl rfl rfl rfl rfl rfl rfl rfl rfl rfl rfl rfl (fun j hj => absurd (show (j : Int) < 5 * 0 from hj) (by omega))) (HX_mk (by decide) (by decide) (by decide) (by decide) (by decide) (by decide) (by decide) (by decide) (by decide) (fun j _ => by show ((0 : Int) ≤ 0 ∧ (0 : Int) ≤ 5) ∧ ((0 : Int) ≤ 0 ∧ (0 : Int) ≤ 999) ∧ ((0 : Int) ≤ 0 ∧ (0 : Int) ≤ 255) ∧ ((-1 : Int) ≤ 0 ∧ (0 : Int) ≤ 999) ∧ ((-1 : Int) ≤ 0 ∧ (0 : Int) ≤ 11) ∧ ((-1 : Int) ≤ 0 ∧ (0 : Int) ≤ 999); omega) (fun j _ _ => by show (0 : Int) ≤ 0; omega) (fun j _ => by show ((0 : Int) ≤ 0 ∧ (0 : Int) ≤ 63) ∧ (0 : Int) ≤ 0 ∧ (0 : Int) ≤ 999; omega) (fun j _ hl => absurd (show (j : Int) < 0 from hl) (by omega)) (fun w h0 h1 => absurd (show w < 0 from h1) (by omega)) (fun j _ => by show ((0 : Int) ≤ 0 ∧ (0 : Int) ≤ 11) ∧ ((0 : Int) ≤ 0 ∧ (0 : Int) ≤ 9999) ∧ ((0 : Int) ≤ 0 ∧ (0 : Int) ≤ 63) ∧ (0 : Int) ≤ 0 ∧ (0 : Int) ≤ 300; omega) (fun j _ => by show (0 : Int) ≤ 0 ∧ (0 : Int) ≤ 12 * ((0 : Nat) : Int); omega) (fun j _ => by show ((0 : Int) ≤ 0 ∧ (0 : Int) ≤ 99) ∧ ((0 : Int) ≤ 0 ∧ (0 : Int) ≤ 255) ∧ ((-1 : Int) ≤ 0 ∧ (0 : Int) ≤ 15) ∧ (-1 : Int) ≤ 0 ∧ (0 : Int) ≤ 15; omega) (fun j _ hl => absurd (show (j : Int) < 0 from hl) (by omega))) ⟨rfl, Or.inl rfl⟩ (fun s hs => ?_) ⟨by decide, rfl, fun j hj => absurd (show (j : Int) < 0 from hj) (by omega)⟩ ⟨fun k _ => by show (0 : Int) ≤ 0 ∧ (0 : Int) ≤ ((0 : Nat) : Int) ∧ (0 : Int) = 0; omega, rfl, rfl⟩
  match s, hs with
  | 0, _ => exact ⟨Or.inl ⟨rfl, rfl⟩, ⟨by decide, by decide, rfl⟩, fun i _ => rfl⟩
  | 1, _ => exact ⟨Or.inl ⟨rfl, rfl⟩, ⟨by decide, by decide, rfl⟩, fun i _ => rfl⟩
  | 2, _ => exact ⟨Or.inl ⟨rfl, rfl⟩, ⟨by decide, by decide, rfl⟩, fun i _ => rfl⟩
  | 3, _ => exact ⟨Or.inl ⟨rfl, rfl⟩, ⟨by decide, by decide, rfl⟩, fun i _ => rfl⟩
  | 4, _ => exact ⟨Or.inl ⟨rfl, rfl⟩, ⟨by decide, by decide, rfl⟩, fun i _ => rfl⟩
  | 5, _ => exact ⟨Or.inl ⟨rfl, rfl⟩, ⟨by decide, by decide, rfl⟩, fun i _ => rfl⟩
  | 6, _ => exact ⟨Or.inl ⟨rfl, rfl⟩, ⟨by decide, by decide, rfl⟩, fun i _ => rfl⟩
  | 7, _ => exact ⟨Or.inl ⟨rfl, rfl⟩, ⟨by decide, by decide, rfl⟩, fun i _ => rfl⟩
  | s + 8, hs => exact absurd hs (by omega)
