/-! the numbered cells at the law's head -/
abbrev wX (cy : Nat → ClassId) (q : Nat → Nat) : va_W := [(q 0, .inr (11, fX q)), (q 1, .inl (cy 4, 8, .inr (.inr (.inr (.inr (shv q)))))), (q 2, .inl (cy 0, 5, .inl (fun _ => 0))), (q 3, .inr (9, fTape (fun k => q (3 + k)))), (q 4, .inl (cy 1, 120, .inl (fun _ => 0))), (q 5, .inr (1, fHall (fun k => q (5 + k)))), (q 6, .inr (10, fThings (fun k => q (6 + k)))), (q 7, .inl (cy 0, 30, .inl (fun _ => 0))), (q 8, .inl (cy 0, 30, .inl (fun _ => 0))), (q 9, .inl (cy 0, 30, .inl (fun _ => 0))), (q 10, .inl (cy 0, 30, .inl (fun _ => 0))), (q 11, .inl (cy 0, 30, .inl (fun _ => 0))), (q 12, .inl (cy 0, 30, .inl (fun _ => 0))), (q 13, .inl (cy 0, 30, .inl (fun _ => 0))), (q 14, .inr (2, fLadies (fun k => q (14 + k)))), (q 15, .inl (cy 0, 5, .inl (fun _ => 0))), (q 16, .inl (cy 0, 5, .inl (fun _ => 0))), (q 17, .inl (cy 0, 5, .inl (fun _ => 0))), (q 18, .inr (3, fLaws (fun k => q (18 + k)))), (q 19, .inl (cy 0, 30, .inl (fun _ => 0))), (q 20, .inl (cy 0, 5, .inl (fun _ => 0))), (q 21, .inr (0, fBuyers (fun k => q (21 + k)))), (q 22, .inl (cy 0, 12, .inl (fun _ => 0))), (q 23, .inl (cy 0, 12, .inl (fun _ => 0))), (q 24, .inl (cy 0, 12, .inl (fun _ => 0))), (q 25, .inl (cy 0, 12, .inl (fun _ => 0))), (q 26, .inl (cy 0, 12, .inl (fun _ => 0))), (q 27, .inr (8, fSightings (fun k => q (27 + k)))), (q 28, .inl (cy 0, 20, .inl (fun _ => 0))), (q 29, .inl (cy 0, 20, .inl (fun _ => 0))), (q 30, .inl (cy 0, 20, .inl (fun _ => 0))), (q 31, .inl (cy 0, 20, .inl (fun _ => 0))), (q 32, .inl (cy 0, 20, .inl (fun _ => 0))), (q 33, .inl (cy 0, 20, .inl (fun _ => 0))), (q 34, .inl (cy 0, 20, .inl (fun _ => 0))), (q 35, .inr (6, fSecrets (fun k => q (35 + k)))), (q 36, .inl (cy 0, 10, .inl (fun _ => 0))), (q 37, .inl (cy 0, 10, .inl (fun _ => 0))), (q 38, .inl (cy 0, 16, .inl (fun _ => 0))), (q 39, .inl (cy 0, 10, .inl (fun _ => 0))), (q 40, .inl (cy 0, 10, .inl (fun _ => 0))), (q 41, .inl (cy 0, 10, .inl (fun _ => 0))), (q 42, .inl (cy 0, 5, .inl (fun _ => 0))), (q 43, .inl (cy 0, 5, .inl (fun _ => 0))), (q 44, .inl (cy 0, 25, .inl (fun _ => 0))), (q 45, .inl (cy 0, 32, .inl (fun _ => 0))), (q 46, .inr (1, fHall (fun k => q (46 + k)))), (q 47, .inr (10, fThings (fun k => q (47 + k)))), (q 48, .inl (cy 0, 30, .inl (fun _ => 0))), (q 49, .inl (cy 0, 30, .inl (fun _ => 0))), (q 50, .inl (cy 0, 30, .inl (fun _ => 0))), (q 51, .inl (cy 0, 30, .inl (fun _ => 0))), (q 52, .inl (cy 0, 30, .inl (fun _ => 0))), (q 53, .inl (cy 0, 30, .inl (fun _ => 0))), (q 54, .inl (cy 0, 30, .inl (fun _ => 0))), (q 55, .inr (2, fLadies (fun k => q (55 + k)))), (q 56, .inl (cy 0, 5, .inl (fun _ => 0))), (q 57, .inl (cy 0, 5, .inl (fun _ => 0))), (q 58, .inl (cy 0, 5, .inl (fun _ => 0))), (q 59, .inr (3, fLaws (fun k => q (59 + k)))), (q 60, .inl (cy 0, 30, .inl (fun _ => 0))), (q 61, .inl (cy 0, 5, .inl (fun _ => 0))), (q 62, .inr (0, fBuyers (fun k => q (62 + k)))), (q 63, .inl (cy 0, 12, .inl (fun _ => 0))), (q 64, .inl (cy 0, 12, .inl (fun _ => 0))), (q 65, .inl (cy 0, 12, .inl (fun _ => 0))), (q 66, .inl (cy 0, 12, .inl (fun _ => 0))), (q 67, .inl (cy 0, 12, .inl (fun _ => 0))), (q 68, .inr (8, fSightings (fun k => q (68 + k)))), (q 69, .inl (cy 0, 20, .inl (fun _ => 0))), (q 70, .inl (cy 0, 20, .inl (fun _ => 0))), (q 71, .inl (cy 0, 20, .inl (fun _ => 0))), (q 72, .inl (cy 0, 20, .inl (fun _ => 0))), (q 73, .inl (cy 0, 20, .inl (fun _ => 0))), (q 74, .inl (cy 0, 20, .inl (fun _ => 0))), (q 75, .inl (cy 0, 20, .inl (fun _ => 0))), (q 76, .inr (6, fSecrets (fun k => q (76 + k)))), (q 77, .inl (cy 0, 10, .inl (fun _ => 0))), (q 78, .inl (cy 0, 10, .inl (fun _ => 0))), (q 79, .inl (cy 0, 16, .inl (fun _ => 0))), (q 80, .inl (cy 0, 10, .inl (fun _ => 0))), (q 81, .inl (cy 0, 10, .inl (fun _ => 0))), (q 82, .inl (cy 0, 10, .inl (fun _ => 0))), (q 83, .inl (cy 0, 5, .inl (fun _ => 0))), (q 84, .inl (cy 0, 5, .inl (fun _ => 0))), (q 85, .inl (cy 0, 25, .inl (fun _ => 0))), (q 86, .inl (cy 0, 32, .inl (fun _ => 0))), (q 87, .inr (5, fSale (fun k => q (87 + k)))), (q 88, .inl (cy 0, 30, .inl (fun _ => 0))), (q 89, .inl (cy 0, 30, .inl (fun _ => 0))), (q 90, .inl (cy 0, 30, .inl (fun _ => 0))), (q 91, .inl (cy 0, 30, .inl (fun _ => 0))), (q 92, .inl (cy 0, 12, .inl (fun _ => 0))), (q 93, .inl (cy 0, 12, .inl (fun _ => 0))), (q 94, .inr (4, fPicks (fun k => q (94 + k)))), (q 95, .inl (cy 0, 10000, .inl (fun _ => 0))), (q 96, .inl (cy 0, 201, .inl (fun _ => 0))), (q 97, .inr (7, fShelf (fun k => q (97 + k)))), (q 98, .inl (cy 2, 40, .inr (.inl (fun _ => 0)))), (q 99, .inr (7, fShelf (fun k => q (99 + k)))), (q 100, .inl (cy 2, 40, .inr (.inl (fun _ => 0)))), (q 101, .inr (7, fShelf (fun k => q (101 + k)))), (q 102, .inl (cy 2, 40, .inr (.inl (fun _ => 0)))), (q 103, .inr (7, fShelf (fun k => q (103 + k)))), (q 104, .inl (cy 2, 40, .inr (.inl (fun _ => 0)))), (q 105, .inr (7, fShelf (fun k => q (105 + k)))), (q 106, .inl (cy 2, 40, .inr (.inl (fun _ => 0)))), (q 107, .inr (7, fShelf (fun k => q (107 + k)))), (q 108, .inl (cy 2, 40, .inr (.inl (fun _ => 0)))), (q 109, .inr (7, fShelf (fun k => q (109 + k)))), (q 110, .inl (cy 2, 40, .inr (.inl (fun _ => 0)))), (q 111, .inr (7, fShelf (fun k => q (111 + k)))), (q 112, .inl (cy 2, 40, .inr (.inl (fun _ => 0))))]
abbrev wM (cy : Nat → ClassId) (q : Nat → Nat) : va_W := [(q 60, .inr (12, fM q)), (q 0, .inl (cy 0, 8, .inl (hold0))), (q 1, .inl (cy 0, 8, .inl (fun _ => 0))), (q 2, .inl (cy 2, 320, .inr (.inl (fun _ => 0)))), (q 4, .inl (cy 0, 30, .inl (fun _ => 0))), (q 5, .inl (cy 0, 30, .inl (fun _ => 0))), (q 6, .inl (cy 0, 30, .inl (fun _ => 0))), (q 7, .inl (cy 0, 30, .inl (fun _ => 0))), (q 8, .inl (cy 0, 30, .inl (fun _ => 0))), (q 9, .inl (cy 0, 30, .inl (fun _ => 0))), (q 11, .inl (cy 0, 5, .inl (fun _ => 0))), (q 12, .inl (cy 0, 5, .inl (fun _ => 0))), (q 13, .inl (cy 0, 5, .inl (fun _ => 0))), (q 15, .inl (cy 0, 30, .inl (fun _ => 0))), (q 17, .inl (cy 0, 120, .inl (fun _ => 0))), (q 19, .inl (cy 0, 12, .inl (fun _ => 0))), (q 20, .inl (cy 0, 12, .inl (fun _ => 0))), (q 21, .inl (cy 0, 12, .inl (fun _ => 0))), (q 22, .inl (cy 0, 12, .inl (fun _ => 0))), (q 23, .inl (cy 0, 12, .inl (fun _ => 0))), (q 25, .inl (cy 0, 5, .inl (fun _ => 0))), (q 27, .inl (cy 0, 20, .inl (fun _ => 0))), (q 28, .inl (cy 0, 20, .inl (fun _ => 0))), (q 29, .inl (cy 0, 20, .inl (fun _ => 0))), (q 30, .inl (cy 0, 20, .inl (fun _ => 0))), (q 32, .inl (cy 0, 10, .inl (fun _ => 0))), (q 33, .inl (cy 0, 10, .inl (fun _ => 0))), (q 34, .inl (cy 0, 16, .inl (fun _ => 0))), (q 35, .inl (cy 0, 4, .inl (hours0))), (q 36, .inl (cy 0, 7, .inl (fun _ => 0))), (q 38, .inl (cy 0, 460, .inl (fun _ => 0))), (q 39, .inl (cy 0, 7, .inl (fun _ => 0))), (q 40, .inl (cy 3, 30, .inl (fun _ => 0))), (q 41, .inl (cy 0, 12, .inl (fun _ => 0))), (q 42, .inl (cy 0, 6231, .inl (fun _ => 0))), (q 43, .inl (cy 0, 20, .inl (fun _ => 0))), (q 44, .inl (cy 0, 20, .inl (fun _ => 0))), (q 45, .inl (cy 0, 20, .inl (fun _ => 0))), (q 46, .inl (cy 0, 20, .inl (fun _ => 0))), (q 47, .inl (cy 0, 30, .inl (fun _ => 0))), (q 48, .inl (cy 0, 5, .inl (fun _ => 0))), (q 49, .inl (cy 0, 25, .inl (fun _ => 0)))]
def M0 : Mem := fun k j => if k = 5 ∨ k = 46 then (if j = 8 ∨ j = 9 then 12 else 0) else if k = 87 then (if j = 0 ∨ j = 1 then 12 else 0) else if 97 ≤ k ∧ k ≤ 111 ∧ k % 2 = 1 then (if j = 1 then -1 else 0) else if k = 201 then (if j < 8 then -1 else 0) else if k = 236 then (if j < 2 then 12 else 0) else 0
def Qn (q u : Nat → Nat) (b : Nat) (ad : Nat → Nat) : Nat → Nat := fun k => if k < 113 then q k else if k = 200 then u 60 else if k < 300 then u (k - 201) else if k = 300 then b else ad k
theorem m0_in (k j : Nat) : -1 ≤ M0 k j ∧ M0 k j ≤ 12 := by
  unfold M0
  (repeat' split) <;> omega
theorem m0_wf : wf M0 := fun k j => ⟨fun _ => by have := m0_in k j; omega, fun _ => by have := m0_in k j; omega⟩
theorem arr_cg {cA : ClassId} {n : Nat} {f g : Nat → Value} (h : ∀ j, j < n → f j = g j) : arrV cA n f = arrV cA n g := by
  have e : (fun j : Fin n => f j.val) = (fun j : Fin n => g j.val) := funext (fun j => h j.val j.isLt)
  unfold arrV
  rw [e]
set_option maxRecDepth 100000 in
set_option maxHeartbeats 4000000 in
theorem w0_eq {cy : Nat → ClassId} {q u ad : Nat → Nat} {b : Nat} : wsM cy (Qn q u b ad) M0 = (((wX cy q ++ wM cy u).set 1 (q 1, ent cy (Qn q u b ad) M0 1 (.inr (4, 8)))).set 114 (u 0, ent cy (Qn q u b ad) M0 201 (.inr (0, 8)))).set 141 (u 35, ent cy (Qn q u b ad) M0 236 (.inr (0, 4))) := rfl
set_option maxRecDepth 100000 in
set_option maxHeartbeats 4000000 in
theorem w0_P {D : va_G} {A : Nat → Prop} {cy : Nat → ClassId} {q u ad : Nat → Nat} {b : Nat} {H : Heap} (h : va_P D cls (wX cy q ++ wM cy u) H) (hD : va_D A (wX cy q ++ wM cy u)) : va_P D cls (wsM cy (Qn q u b ad) M0) H ∧ va_D A (wsM cy (Qn q u b ad) M0) := by
  have i1 : (wX cy q ++ wM cy u)[1]? = some (q 1, .inl (cy 4, 8, .inr (.inr (.inr (.inr (shv q)))))) := rfl
  have i2 : ((wX cy q ++ wM cy u).set 1 (q 1, ent cy (Qn q u b ad) M0 1 (.inr (4, 8))))[114]? = some (u 0, .inl (cy 0, 8, .inl hold0)) := rfl
  have i3 : (((wX cy q ++ wM cy u).set 1 (q 1, ent cy (Qn q u b ad) M0 1 (.inr (4, 8)))).set 114 (u 0, ent cy (Qn q u b ad) M0 201 (.inr (0, 8))))[141]? = some (u 35, .inl (cy 0, 4, .inl hours0)) := rfl
  have a1 : H[q 1]? = some (arrV (cy 4) 8 (fun j => va_rf (shv q j))) := h 1 _ i1
  have b1 : va_at D cls (q 1, ent cy (Qn q u b ad) M0 1 (.inr (4, 8))) H := by
    show H[q 1]? = some (arrV (cy 4) 8 (fun j => va_rf (some (Qn q u b ad (1 + 96 + 2 * j)))))
    rw [a1]
    congr 1
    refine arr_cg (fun j hj => ?_)
    match j, hj with
    | 0, _ => rfl
    | 1, _ => rfl
    | 2, _ => rfl
    | 3, _ => rfl
    | 4, _ => rfl
    | 5, _ => rfl
    | 6, _ => rfl
    | 7, _ => rfl
    | j + 8, hj => exact absurd hj (by omega)
  have P1 := h.set hD i1 b1 (fun _ _ => rfl)
  have D1 := hD.set (e := ent cy (Qn q u b ad) M0 1 (.inr (4, 8))) i1
  have a2 : H[u 0]? = some (arrV (cy 0) 8 (fun j => .int (hold0 j))) := P1 _ _ i2
  have b2 : va_at D cls (u 0, ent cy (Qn q u b ad) M0 201 (.inr (0, 8))) H := by
    show H[u 0]? = some (arrV (cy 0) 8 (fun j => .int (Int32.ofInt (M0 201 j))))
    rw [a2]
    congr 1
    refine arr_cg (fun j hj => ?_)
    match j, hj with
    | 0, _ => rfl
    | 1, _ => rfl
    | 2, _ => rfl
    | 3, _ => rfl
    | 4, _ => rfl
    | 5, _ => rfl
    | 6, _ => rfl
    | 7, _ => rfl
    | j + 8, hj => exact absurd hj (by omega)
  have P2 := P1.set D1 i2 b2 (fun _ _ => rfl)
  have D2 := D1.set (e := ent cy (Qn q u b ad) M0 201 (.inr (0, 8))) i2
  have a3 : H[u 35]? = some (arrV (cy 0) 4 (fun j => .int (hours0 j))) := P2 _ _ i3
  have b3 : va_at D cls (u 35, ent cy (Qn q u b ad) M0 236 (.inr (0, 4))) H := by
    show H[u 35]? = some (arrV (cy 0) 4 (fun j => .int (Int32.ofInt (M0 236 j))))
    rw [a3]
    congr 1
    refine arr_cg (fun j hj => ?_)
    match j, hj with
    | 0, _ => rfl
    | 1, _ => rfl
    | 2, _ => rfl
    | 3, _ => rfl
    | j + 4, hj => exact absurd hj (by omega)
  have P3 := P2.set D2 i3 b3 (fun _ _ => rfl)
  have D3 := D2.set (e := ent cy (Qn q u b ad) M0 236 (.inr (0, 4))) i3
  rw [w0_eq]
  exact ⟨P3, D3⟩
theorem rel_0 : Rel 0 M0 M0 := by
  refine rel_mk (EQ_mk rfl rfl rfl rfl rfl rfl rfl rfl rfl rfl rfl rfl rfl rfl rfl rfl rfl rfl rfl rfl rfl rfl rfl rfl rfl rfl rfl rfl rfl rfl rfl rfl rfl (fun j hj => absurd (show (j : Int) < 5 * 0 from hj) (by omega))) (HX_mk (by decide) (by decide) (by decide) (by decide) (by decide) (by decide) (by decide) (by decide) (by decide) (fun j _ => by show ((0 : Int) ≤ 0 ∧ (0 : Int) ≤ 5) ∧ ((0 : Int) ≤ 0 ∧ (0 : Int) ≤ 999) ∧ ((0 : Int) ≤ 0 ∧ (0 : Int) ≤ 255) ∧ ((-1 : Int) ≤ 0 ∧ (0 : Int) ≤ 999) ∧ ((-1 : Int) ≤ 0 ∧ (0 : Int) ≤ 11) ∧ ((-1 : Int) ≤ 0 ∧ (0 : Int) ≤ 999); omega) (fun j _ _ => by show (0 : Int) ≤ 0; omega) (fun j _ => by show ((0 : Int) ≤ 0 ∧ (0 : Int) ≤ 63) ∧ (0 : Int) ≤ 0 ∧ (0 : Int) ≤ 999; omega) (fun j _ hl => absurd (show (j : Int) < 0 from hl) (by omega)) (fun w h0 h1 => absurd (show w < 0 from h1) (by omega)) (fun j _ => by show ((0 : Int) ≤ 0 ∧ (0 : Int) ≤ 11) ∧ ((0 : Int) ≤ 0 ∧ (0 : Int) ≤ 9999) ∧ ((0 : Int) ≤ 0 ∧ (0 : Int) ≤ 63) ∧ (0 : Int) ≤ 0 ∧ (0 : Int) ≤ 300; omega) (fun j _ => by show (0 : Int) ≤ 0 ∧ (0 : Int) ≤ 12 * ((0 : Nat) : Int); omega) (fun j _ => by show ((0 : Int) ≤ 0 ∧ (0 : Int) ≤ 99) ∧ ((0 : Int) ≤ 0 ∧ (0 : Int) ≤ 255) ∧ ((-1 : Int) ≤ 0 ∧ (0 : Int) ≤ 15) ∧ (-1 : Int) ≤ 0 ∧ (0 : Int) ≤ 15; omega) (fun j _ hl => absurd (show (j : Int) < 0 from hl) (by omega))) ⟨rfl, Or.inl rfl⟩ (fun s hs => ?_) ⟨by decide, rfl, fun j hj => absurd (show (j : Int) < 0 from hj) (by omega)⟩ ⟨fun k _ => by show (0 : Int) ≤ 0 ∧ (0 : Int) ≤ ((0 : Nat) : Int) ∧ (0 : Int) = 0; omega, rfl, rfl⟩
  match s, hs with
  | 0, _ => exact ⟨Or.inl ⟨rfl, rfl⟩, ⟨by decide, by decide, rfl⟩, fun i _ => rfl⟩
  | 1, _ => exact ⟨Or.inl ⟨rfl, rfl⟩, ⟨by decide, by decide, rfl⟩, fun i _ => rfl⟩
  | 2, _ => exact ⟨Or.inl ⟨rfl, rfl⟩, ⟨by decide, by decide, rfl⟩, fun i _ => rfl⟩
  | 3, _ => exact ⟨Or.inl ⟨rfl, rfl⟩, ⟨by decide, by decide, rfl⟩, fun i _ => rfl⟩
  | 4, _ => exact ⟨Or.inl ⟨rfl, rfl⟩, ⟨by decide, by decide, rfl⟩, fun i _ => rfl⟩
  | 5, _ => exact ⟨Or.inl ⟨rfl, rfl⟩, ⟨by decide, by decide, rfl⟩, fun i _ => rfl⟩
  | 6, _ => exact ⟨Or.inl ⟨rfl, rfl⟩, ⟨by decide, by decide, rfl⟩, fun i _ => rfl⟩
  | 7, _ => exact ⟨Or.inl ⟨rfl, rfl⟩, ⟨by decide, by decide, rfl⟩, fun i _ => rfl⟩
  | s + 8, hs => exact absurd hs (by omega)
