/-! the class's whole day, its best turns -/
theorem r7x_0 {M : Mem} {a b : Nat → Int} {bn : Nat} {x : Int} (h : buOK M) (hm : mnOK M) (ht : thOK M) (hb : bn ≤ 12) : R7ok bn 1000000 (a, puA (M 23) b bn, M 23, M 26, M 11, M 12, x) := by
  refine ⟨fun j hj => ?_, fun j hj => (h j hj).2.1, fun j hj => hm j hj, fun j hj => (ht j hj).2.2.2.2.1, fun j hj => (ht j hj).2.2.2.2.2⟩
  show 0 ≤ puA (M 23) b bn j ∧ puA (M 23) b bn j ≤ 9999 ∧ M 23 j = puA (M 23) b bn j
  unfold puA
  rw [if_pos hj]
  exact ⟨(h j (by omega)).2.1.1, (h j (by omega)).2.1.2, rfl⟩
def bxI (f : Int → Int → Int) (h : Int) (s : Int × Int) : Nat → Int × Int
  | 0 => s
  | k + 1 => if (bxI f h s k).2 < f h (12 - k) then (100 * h + (12 - k), f h (12 - k)) else bxI f h s k
def bxO (f : Int → Int → Int) : Nat → Int × Int
  | 0 => (-1, -1)
  | m + 1 => bxI f (12 - m) (bxO f m) (m + 1)
theorem bxI_in {f : Int → Int → Int} (hf : ∀ a b, 0 ≤ f a b ∧ f a b ≤ 144000) {h : Int} {s : Int × Int} (hs : -1 ≤ s.2 ∧ s.2 ≤ 144000) : ∀ k, -1 ≤ (bxI f h s k).2 ∧ (bxI f h s k).2 ≤ 144000
  | 0 => hs
  | k + 1 => by
    have ih := bxI_in hf (h := h) hs k
    have g := hf h (12 - k)
    unfold bxI
    split
    · simp only; omega
    · exact ih
theorem bxO_in {f : Int → Int → Int} (hf : ∀ a b, 0 ≤ f a b ∧ f a b ≤ 144000) : ∀ m, -1 ≤ (bxO f m).2 ∧ (bxO f m).2 ≤ 144000
  | 0 => by show -1 ≤ (-1 : Int) ∧ (-1 : Int) ≤ 144000; omega
  | m + 1 => bxI_in hf (bxO_in hf m) (m + 1)
/-- what settling needs of the sale's rows -/
theorem SIv_sb {B P K T BP MN hr ks ey D0 : Nat → Int} {n bn : Nat} {lc m : Int} {lf tr sb sp pu id : Nat → Int} {s : R7} (h : SIv B P K T BP MN hr ks ey n bn D0 lc lf tr sb sp pu id s) (hok : R7ok bn m s) (hn : n ≤ 30) : ∀ z, z < n → sb z = -1 ∨ ((0 ≤ sb z ∧ sb z < bn) ∧ -1 ≤ sp z ∧ sp z ≤ 999) := by
  intro z hz
  obtain ⟨h1, h2, h3, h4, h5, h6, h7, h8, h9⟩ := h
  rcases h4 z hz with g | g
  · exact Or.inl g
  · have a := h5 z
    rw [if_pos ⟨hz, by omega⟩] at a
    have b := hok.2.2.2.2 z (by omega)
    rw [a] at b
    exact Or.inr ⟨⟨g.2.1, g.2.2⟩, b⟩
theorem hsm_G {P K T hr ks ey B BP MN D0 : Nat → Int} {n bn : Nat} {half bag : Int} {h : Nat} : (dyG P K T hr ks ey n bn half bag 0 (gnA B (fun _ => 0) n, puA BP (fun _ => 0) bn, BP, MN, B, D0, 0) (h + 1)).2.2.2.2.2.2 - (dyG P K T hr ks ey n bn half bag 0 (gnA B (fun _ => 0) n, puA BP (fun _ => 0) bn, BP, MN, B, D0, 0) h).2.2.2.2.2.2 = hsm P K T hr ks ey B BP n bn half bag h := by
  have a := (dyG_R (P := P) (K := K) (T := T) (hr := hr) (ks := ks) (ey := ey) (n := n) (bn := bn) (half := half) (bag := bag) (s := (gnA B (fun _ => 0) n, puA BP (fun _ => 0) bn, BP, MN, B, D0, 0)) (t := (gnA B (fun _ => 0) n, puA BP (fun _ => 0) bn, 0)) ⟨rfl, rfl, rfl⟩ (h + 1)).2.2
  have b := (dyG_R (P := P) (K := K) (T := T) (hr := hr) (ks := ks) (ey := ey) (n := n) (bn := bn) (half := half) (bag := bag) (s := (gnA B (fun _ => 0) n, puA BP (fun _ => 0) bn, BP, MN, B, D0, 0)) (t := (gnA B (fun _ => 0) n, puA BP (fun _ => 0) bn, 0)) ⟨rfl, rfl, rfl⟩ h).2.2
  rw [a, b]
  rfl
theorem tkg_G {P K T hr ks ey B BP MN D0 : Nat → Int} {n bn : Nat} {half bag : Int} : (dyG P K T hr ks ey n bn half bag 0 (gnA B (fun _ => 0) n, puA BP (fun _ => 0) bn, BP, MN, B, D0, 0) 12).2.2.2.2.2.2 = tkg P K T hr ks ey B BP n bn half bag :=
  (dyG_R (P := P) (K := K) (T := T) (hr := hr) (ks := ks) (ey := ey) (n := n) (bn := bn) (half := half) (bag := bag) (s := (gnA B (fun _ => 0) n, puA BP (fun _ => 0) bn, BP, MN, B, D0, 0)) (t := (gnA B (fun _ => 0) n, puA BP (fun _ => 0) bn, 0)) ⟨rfl, rfl, rfl⟩ 12).2.2
theorem SIv_ch {B P K T BP MN hr ks ey D0 : Nat → Int} {n bn : Nat} {lc : Int} {lf tr sb sp pu id : Nat → Int} {s : R7} (h : SIv B P K T BP MN hr ks ey n bn D0 lc lf tr sb sp pu id s) {half bag hour : Int} {b : Nat} (hb : b < bn) : (hour < hr b → choR P K T hr ks ey n half bag hour b s.1 s.2.1 = -1) ∧ (¬ hour < hr b → ((pl lf P K tr (ks b) (ey b) (pu b) (stg hour half bag) lc.toNat).1 = -1 → choR P K T hr ks ey n half bag hour b s.1 s.2.1 = -1) ∧ ∀ y, y = (pl lf P K tr (ks b) (ey b) (pu b) (stg hour half bag) lc.toNat).1 → ¬ y = -1 → choR P K T hr ks ey n half bag hour b s.1 s.2.1 = lf y.toNat) := by
  obtain ⟨h1, h2, h3, h4, h5, h6, h7, h8, h9⟩ := h
  rw [h7 b hb]
  unfold choR
  refine ⟨fun c => by rw [if_pos c], fun c => ?_⟩
  rw [if_neg c]
  refine ⟨fun e => (pl_chX h1.2 h6 rfl).1 e, fun y e1 e2 => ((pl_chX h1.2 h6 e1).2 e2).2.2⟩
