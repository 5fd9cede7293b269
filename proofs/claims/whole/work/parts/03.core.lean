/-! names, fields (out of the class files' tables, by a program of this repository) -/
def ET0 : u_T := fun k => match k with
  | 0 => ("WhiteElephants$Buyers", "hour", "[I", true)
  | 1 => ("WhiteElephants$Buyers", "purse", "[I", true)
  | 2 => ("WhiteElephants$Buyers", "wishes", "[I", true)
  | 3 => ("WhiteElephants$Buyers", "eye", "[I", true)
  | 4 => ("WhiteElephants$Buyers", "bought", "[I", true)
  | _ => ("WhiteElephants$Buyers", "count", "I", false)
def EY0 : Nat → FieldType := fun k => match k with
  | 0 => .array .int
  | 1 => .array .int
  | 2 => .array .int
  | 3 => .array .int
  | 4 => .array .int
  | _ => .int
def ET1 : u_T := fun k => match k with
  | 0 => ("WhiteElephants$Hall", "things", "LWhiteElephants$Things;", true)
  | 1 => ("WhiteElephants$Hall", "ladies", "LWhiteElephants$Ladies;", true)
  | 2 => ("WhiteElephants$Hall", "laws", "LWhiteElephants$Laws;", true)
  | 3 => ("WhiteElephants$Hall", "buyers", "LWhiteElephants$Buyers;", true)
  | 4 => ("WhiteElephants$Hall", "sightings", "LWhiteElephants$Sightings;", true)
  | 5 => ("WhiteElephants$Hall", "secrets", "LWhiteElephants$Secrets;", true)
  | 6 => ("WhiteElephants$Hall", "tables", "[I", true)
  | 7 => ("WhiteElephants$Hall", "tableCount", "I", false)
  | 8 => ("WhiteElephants$Hall", "half", "I", false)
  | 9 => ("WhiteElephants$Hall", "bag", "I", false)
  | 10 => ("WhiteElephants$Hall", "hour", "I", false)
  | 11 => ("WhiteElephants$Hall", "taken", "I", false)
  | 12 => ("WhiteElephants$Hall", "lostAt", "[I", true)
  | _ => ("WhiteElephants$Hall", "leastLost", "[I", true)
def EY1 : Nat → FieldType := fun k => match k with
  | 0 => .object "WhiteElephants$Things"
  | 1 => .object "WhiteElephants$Ladies"
  | 2 => .object "WhiteElephants$Laws"
  | 3 => .object "WhiteElephants$Buyers"
  | 4 => .object "WhiteElephants$Sightings"
  | 5 => .object "WhiteElephants$Secrets"
  | 6 => .array .int
  | 7 => .int
  | 8 => .int
  | 9 => .int
  | 10 => .int
  | 11 => .int
  | 12 => .array .int
  | _ => .array .int
def ET2 : u_T := fun k => match k with
  | 0 => ("WhiteElephants$Ladies", "knows", "[I", true)
  | 1 => ("WhiteElephants$Ladies", "guess", "[I", true)
  | 2 => ("WhiteElephants$Ladies", "law", "[I", true)
  | _ => ("WhiteElephants$Ladies", "count", "I", false)
def EY2 : Nat → FieldType := fun k => match k with
  | 0 => .array .int
  | 1 => .array .int
  | 2 => .array .int
  | _ => .int
def ET3 : u_T := fun k => match k with
  | 0 => ("WhiteElephants$Laws", "parts", "[I", true)
  | 1 => ("WhiteElephants$Laws", "draft", "[I", true)
  | _ => ("WhiteElephants$Laws", "count", "I", false)
def EY3 : Nat → FieldType := fun k => match k with
  | 0 => .array .int
  | 1 => .array .int
  | _ => .int
def ET4 : u_T := fun k => match k with
  | 0 => ("WhiteElephants$Picks", "sets", "[I", true)
  | _ => ("WhiteElephants$Picks", "gains", "[I", true)
def EY4 : Nat → FieldType := fun k => match k with
  | 0 => .array .int
  | _ => .array .int
def ET5 : u_T := fun k => match k with
  | 0 => ("WhiteElephants$Sale", "half", "I", false)
  | 1 => ("WhiteElephants$Sale", "bag", "I", false)
  | 2 => ("WhiteElephants$Sale", "left", "[I", true)
  | 3 => ("WhiteElephants$Sale", "leftCount", "I", false)
  | 4 => ("WhiteElephants$Sale", "truth", "[I", true)
  | 5 => ("WhiteElephants$Sale", "buyer", "[I", true)
  | 6 => ("WhiteElephants$Sale", "paid", "[I", true)
  | 7 => ("WhiteElephants$Sale", "purse", "[I", true)
  | _ => ("WhiteElephants$Sale", "idle", "[I", true)
def EY5 : Nat → FieldType := fun k => match k with
  | 0 => .int
  | 1 => .int
  | 2 => .array .int
  | 3 => .int
  | 4 => .array .int
  | 5 => .array .int
  | 6 => .array .int
  | 7 => .array .int
  | _ => .array .int
def ET6 : u_T := fun k => match k with
  | 0 => ("WhiteElephants$Secrets", "thing", "[I", true)
  | 1 => ("WhiteElephants$Secrets", "person", "[I", true)
  | 2 => ("WhiteElephants$Secrets", "count", "I", false)
  | 3 => ("WhiteElephants$Secrets", "sees", "[I", true)
  | 4 => ("WhiteElephants$Secrets", "hidden", "[I", true)
  | 5 => ("WhiteElephants$Secrets", "safe", "[I", true)
  | 6 => ("WhiteElephants$Secrets", "lies", "[I", true)
  | 7 => ("WhiteElephants$Secrets", "hiddenCount", "I", false)
  | _ => ("WhiteElephants$Secrets", "space", "[I", true)
def EY6 : Nat → FieldType := fun k => match k with
  | 0 => .array .int
  | 1 => .array .int
  | 2 => .int
  | 3 => .array .int
  | 4 => .array .int
  | 5 => .array .int
  | 6 => .array .int
  | 7 => .int
  | _ => .array .int
def ET7 : u_T := fun k => match k with
  | 0 => ("WhiteElephants$Shelf", "elements", "[J", true)
  | 1 => ("WhiteElephants$Shelf", "held", "I", false)
  | _ => ("WhiteElephants$Shelf", "size", "I", false)
def EY7 : Nat → FieldType := fun k => match k with
  | 0 => .array .long
  | 1 => .int
  | _ => .int
def ET8 : u_T := fun k => match k with
  | 0 => ("WhiteElephants$Sightings", "year", "[I", true)
  | 1 => ("WhiteElephants$Sightings", "chips", "[I", true)
  | 2 => ("WhiteElephants$Sightings", "gave", "[I", true)
  | 3 => ("WhiteElephants$Sightings", "bought", "[I", true)
  | 4 => ("WhiteElephants$Sightings", "count", "I", false)
  | 5 => ("WhiteElephants$Sightings", "before", "[I", true)
  | 6 => ("WhiteElephants$Sightings", "tried", "[I", true)
  | _ => ("WhiteElephants$Sightings", "length", "[I", true)
def EY8 : Nat → FieldType := fun k => match k with
  | 0 => .array .int
  | 1 => .array .int
  | 2 => .array .int
  | 3 => .array .int
  | 4 => .int
  | 5 => .array .int
  | 6 => .array .int
  | _ => .array .int
def ET9 : u_T := fun k => match k with
  | 0 => ("WhiteElephants$Tape", "bytes", "[B", true)
  | 1 => ("WhiteElephants$Tape", "size", "I", false)
  | 2 => ("WhiteElephants$Tape", "begin", "I", false)
  | _ => ("WhiteElephants$Tape", "end", "I", false)
def EY9 : Nat → FieldType := fun k => match k with
  | 0 => .array .byte
  | 1 => .int
  | 2 => .int
  | _ => .int
def ET10 : u_T := fun k => match k with
  | 0 => ("WhiteElephants$Things", "kind", "[I", true)
  | 1 => ("WhiteElephants$Things", "worth", "[I", true)
  | 2 => ("WhiteElephants$Things", "chips", "[I", true)
  | 3 => ("WhiteElephants$Things", "price", "[I", true)
  | 4 => ("WhiteElephants$Things", "buyer", "[I", true)
  | 5 => ("WhiteElephants$Things", "paid", "[I", true)
  | 6 => ("WhiteElephants$Things", "count", "I", false)
  | _ => ("WhiteElephants$Things", "sharedTo", "[I", true)
def EY10 : Nat → FieldType := fun k => match k with
  | 0 => .array .int
  | 1 => .array .int
  | 2 => .array .int
  | 3 => .array .int
  | 4 => .array .int
  | 5 => .array .int
  | 6 => .int
  | _ => .array .int
def ET11 : u_T := fun k => match k with
  | 0 => ("WhiteElephants", "shelves", "[LWhiteElephants$Shelf;", true)
  | 1 => ("WhiteElephants", "refusals", "[I", true)
  | 2 => ("WhiteElephants", "tape", "LWhiteElephants$Tape;", true)
  | 3 => ("WhiteElephants", "now", "LWhiteElephants$Hall;", true)
  | 4 => ("WhiteElephants", "kept", "LWhiteElephants$Hall;", true)
  | 5 => ("WhiteElephants", "sale", "LWhiteElephants$Sale;", true)
  | 6 => ("WhiteElephants", "picks", "LWhiteElephants$Picks;", true)
  | _ => ("WhiteElephants", "imaged", "Z", false)
def EY11 : Nat → FieldType := fun k => match k with
  | 0 => .array (.object "WhiteElephants$Shelf")
  | 1 => .array .int
  | 2 => .object "WhiteElephants$Tape"
  | 3 => .object "WhiteElephants$Hall"
  | 4 => .object "WhiteElephants$Hall"
  | 5 => .object "WhiteElephants$Sale"
  | 6 => .object "WhiteElephants$Picks"
  | _ => .boolean
def ET12 : u_T := fun k => match k with
  | 0 => ("WhiteElephantsModel", "holding", "[I", true)
  | 1 => ("WhiteElephantsModel", "rowLength", "[I", true)
  | 2 => ("WhiteElephantsModel", "rowOf", "[J", true)
  | 3 => ("WhiteElephantsModel", "things", "I", false)
  | 4 => ("WhiteElephantsModel", "thKind", "[I", true)
  | 5 => ("WhiteElephantsModel", "thWorth", "[I", true)
  | 6 => ("WhiteElephantsModel", "thChips", "[I", true)
  | 7 => ("WhiteElephantsModel", "thPrice", "[I", true)
  | 8 => ("WhiteElephantsModel", "thBy", "[I", true)
  | 9 => ("WhiteElephantsModel", "thPaid", "[I", true)
  | 10 => ("WhiteElephantsModel", "ladies", "I", false)
  | 11 => ("WhiteElephantsModel", "laKnows", "[I", true)
  | 12 => ("WhiteElephantsModel", "laGuess", "[I", true)
  | 13 => ("WhiteElephantsModel", "laLaw", "[I", true)
  | 14 => ("WhiteElephantsModel", "laws", "I", false)
  | 15 => ("WhiteElephantsModel", "lawSays", "[I", true)
  | 16 => ("WhiteElephantsModel", "tapeSize", "I", false)
  | 17 => ("WhiteElephantsModel", "tape", "[I", true)
  | 18 => ("WhiteElephantsModel", "buyers", "I", false)
  | 19 => ("WhiteElephantsModel", "buHour", "[I", true)
  | 20 => ("WhiteElephantsModel", "buPurse", "[I", true)
  | 21 => ("WhiteElephantsModel", "buWishes", "[I", true)
  | 22 => ("WhiteElephantsModel", "buEye", "[I", true)
  | 23 => ("WhiteElephantsModel", "buMany", "[I", true)
  | 24 => ("WhiteElephantsModel", "tables", "I", false)
  | 25 => ("WhiteElephantsModel", "taKinds", "[I", true)
  | 26 => ("WhiteElephantsModel", "sightings", "I", false)
  | 27 => ("WhiteElephantsModel", "siYear", "[I", true)
  | 28 => ("WhiteElephantsModel", "siChips", "[I", true)
  | 29 => ("WhiteElephantsModel", "siGave", "[I", true)
  | 30 => ("WhiteElephantsModel", "siBought", "[I", true)
  | 31 => ("WhiteElephantsModel", "secrets", "I", false)
  | 32 => ("WhiteElephantsModel", "seThing", "[I", true)
  | 33 => ("WhiteElephantsModel", "sePerson", "[I", true)
  | 34 => ("WhiteElephantsModel", "looksAt", "[I", true)
  | 35 => ("WhiteElephantsModel", "hours", "[I", true)
  | 36 => ("WhiteElephantsModel", "refusals", "[I", true)
  | 37 => ("WhiteElephantsModel", "isImage", "Z", false)
  | 38 => ("WhiteElephantsModel", "kept", "[I", true)
  | 39 => ("WhiteElephantsModel", "counts", "[I", true)
  | 40 => ("WhiteElephantsModel", "gone", "[Z", true)
  | 41 => ("WhiteElephantsModel", "purse", "[I", true)
  | 42 => ("WhiteElephantsModel", "best", "[I", true)
  | 43 => ("WhiteElephantsModel", "mate", "[I", true)
  | 44 => ("WhiteElephantsModel", "mateOf", "[I", true)
  | 45 => ("WhiteElephantsModel", "from", "[I", true)
  | 46 => ("WhiteElephantsModel", "line", "[I", true)
  | 47 => ("WhiteElephantsModel", "may", "[I", true)
  | 48 => ("WhiteElephantsModel", "room", "[I", true)
  | 49 => ("WhiteElephantsModel", "loses", "[I", true)
  | _ => ("WhiteElephantsModel", "fewest", "[B", false)
def EY12 : Nat → FieldType := fun k => match k with
  | 0 => .array .int
  | 1 => .array .int
  | 2 => .array .long
  | 3 => .int
  | 4 => .array .int
  | 5 => .array .int
  | 6 => .array .int
  | 7 => .array .int
  | 8 => .array .int
  | 9 => .array .int
  | 10 => .int
  | 11 => .array .int
  | 12 => .array .int
  | 13 => .array .int
  | 14 => .int
  | 15 => .array .int
  | 16 => .int
  | 17 => .array .int
  | 18 => .int
  | 19 => .array .int
  | 20 => .array .int
  | 21 => .array .int
  | 22 => .array .int
  | 23 => .array .int
  | 24 => .int
  | 25 => .array .int
  | 26 => .int
  | 27 => .array .int
  | 28 => .array .int
  | 29 => .array .int
  | 30 => .array .int
  | 31 => .int
  | 32 => .array .int
  | 33 => .array .int
  | 34 => .array .int
  | 35 => .array .int
  | 36 => .array .int
  | 37 => .boolean
  | 38 => .array .int
  | 39 => .array .int
  | 40 => .array .boolean
  | 41 => .array .int
  | 42 => .array .int
  | 43 => .array .int
  | 44 => .array .int
  | 45 => .array .int
  | 46 => .array .int
  | 47 => .array .int
  | 48 => .array .int
  | 49 => .array .int
  | _ => .array .byte
abbrev cls : List vw_C := [("WhiteElephants$Buyers", ET0, 6), ("WhiteElephants$Hall", ET1, 14), ("WhiteElephants$Ladies", ET2, 4), ("WhiteElephants$Laws", ET3, 3), ("WhiteElephants$Picks", ET4, 2), ("WhiteElephants$Sale", ET5, 9), ("WhiteElephants$Secrets", ET6, 9), ("WhiteElephants$Shelf", ET7, 3), ("WhiteElephants$Sightings", ET8, 8), ("WhiteElephants$Tape", ET9, 4), ("WhiteElephants$Things", ET10, 8), ("WhiteElephants", ET11, 8), ("WhiteElephantsModel", ET12, 51)]
theorem bw_ps (ws : List Cond) (ps : List Nat) (hp : ws = ps.filterMap (fun i => lw_tbl[i]?)) (hg : ws.all goodWord = true) : ∀ w ∈ ws, w ∈ BW := by
  intro w hw
  have h1 := List.all_eq_true.mp hg w hw
  rw [hp] at hw
  obtain ⟨i, -, hi⟩ := List.mem_filterMap.mp hw
  exact bw_at i hi h1
/-! abstract values (ints and longs as whole numbers, cells by number), memory, the world of the numbered cells -/
abbrev gV : Type := Int ⊕ (Int ⊕ Option Nat)
abbrev gI (x : Int) : gV := Sum.inl x
abbrev gL (x : Int) : gV := Sum.inr (Sum.inl x)
abbrev gR (k : Nat) : gV := Sum.inr (Sum.inr (some k))
abbrev gN : gV := Sum.inr (Sum.inr none)
def cv (q : Nat → Nat) (v : gV) : Value := match v with
  | .inl x => .int (Int32.ofInt x)
  | .inr (.inl x) => .long (Int64.ofInt x)
  | .inr (.inr o) => va_rf (o.map q)
def isLo (v : gV) : Bool := match v with
  | .inr (.inl _) => true
  | _ => false
def gw (v : gV) : Nat := match v with
  | .inr (.inl _) => 2
  | _ => 1
abbrev Mem : Type := Nat → Nat → Int
def us (f : Nat → Int) (j : Nat) (x : Int) : Nat → Int := fun i => if i = j then x else f i
def up (M : Mem) (k j : Nat) (x : Int) : Mem := fun a => if a = k then us (M k) j x else M a
abbrev inI (x : Int) : Prop := -2147483648 ≤ x ∧ x ≤ 2147483647
abbrev inL (x : Int) : Prop := -9223372036854775808 ≤ x ∧ x ≤ 9223372036854775807
theorem up_k {M : Mem} {k j : Nat} {x : Int} : up M k j x k = us (M k) j x := by simp [up]
theorem up_o {M : Mem} {k j a : Nat} {x : Int} (h : a ≠ k) : up M k j x a = M a := by simp [up, h]
theorem us_k {f : Nat → Int} {j : Nat} {x : Int} : us f j x j = x := by simp [us]
theorem us_o {f : Nat → Int} {j i : Nat} {x : Int} (h : i ≠ j) : us f j x i = f i := by simp [us, h]
theorem oi_ti {x : Int} (h : inI x) : (Int32.ofInt x).toInt = x := Int32.toInt_ofInt_of_le (by omega) (by omega)
theorem ol_ti {x : Int} (h : inL x) : (Int64.ofInt x).toInt = x := Int64.toInt_ofInt_of_le (by omega) (by omega)
theorem oi_lt {x y : Int} (hx : inI x) (hy : inI y) : Int32.ofInt x < Int32.ofInt y ↔ x < y := by rw [Int32.lt_iff_toInt_lt, oi_ti hx, oi_ti hy]
theorem oi_le {x y : Int} (hx : inI x) (hy : inI y) : Int32.ofInt x ≤ Int32.ofInt y ↔ x ≤ y := by rw [Int32.le_iff_toInt_le, oi_ti hx, oi_ti hy]
theorem oi_eq {x y : Int} (hx : inI x) (hy : inI y) : Int32.ofInt x = Int32.ofInt y ↔ x = y := by rw [← Int32.toInt_inj, oi_ti hx, oi_ti hy]
theorem oi_0 : (0 : Int32) = Int32.ofInt 0 := rfl
theorem oi_in {i : Int} {n : Nat} (h0 : 0 ≤ i) (h1 : i < n) (h2 : n ≤ 1000000) : vp_in (Int32.ofInt i) n := vp_in_iff.mpr (by rw [oi_ti ⟨by omega, by omega⟩]; exact ⟨h0, h1⟩)
theorem oi_nc {i : Int} (h0 : 0 ≤ i) (h2 : i ≤ 1000000) : (Int32.ofInt i).toNatClampNeg = i.toNat := by
  show (Int32.ofInt i).toInt.toNat = i.toNat
  rw [oi_ti ⟨by omega, by omega⟩]
/-- which cells are rows of longs -/
def lkL : List Nat := [98, 100, 102, 104, 106, 108, 110, 112, 203]
def wf (M : Mem) : Prop := ∀ k j, (k ∉ lkL → inI (M k j)) ∧ (k ∈ lkL → inL (M k j))
theorem wf_i {M : Mem} (h : wf M) {k : Nat} (hk : k ∉ lkL) (j : Nat) : inI (M k j) := (h k j).1 hk
theorem wf_l {M : Mem} (h : wf M) {k : Nat} (hk : k ∈ lkL) (j : Nat) : inL (M k j) := (h k j).2 hk
theorem wf_up {M : Mem} (h : wf M) {k j : Nat} {x : Int} (h1 : k ∉ lkL → inI x) (h2 : k ∈ lkL → inL x) : wf (up M k j x) := by
  intro a i
  by_cases ha : a = k
  · subst ha
    rw [up_k]
    by_cases hi : i = j
    · subst hi; rw [us_k]; exact ⟨h1, h2⟩
    · rw [us_o hi]; exact h a i
  · rw [up_o ha]; exact h a i
/-- the fields of a class: an int, another cell (so far on), such a one or null -/
abbrev gF : Type := Nat × Nat
def FS (ci : Nat) : List gF := match ci with
  | 0 => [(1, 1), (1, 2), (1, 3), (1, 4), (1, 5), (0, 0)]
  | 1 => [(1, 1), (1, 9), (1, 13), (1, 16), (1, 22), (1, 30), (1, 38), (0, 0), (0, 0), (0, 0), (0, 0), (0, 0), (1, 39), (1, 40)]
  | 2 => [(1, 1), (1, 2), (1, 3), (0, 0)]
  | 3 => [(1, 1), (1, 2), (0, 0)]
  | 4 => [(1, 1), (1, 2)]
  | 5 => [(0, 0), (0, 0), (1, 1), (0, 0), (1, 2), (1, 3), (1, 4), (1, 5), (1, 6)]
  | 6 => [(1, 1), (1, 2), (0, 0), (1, 3), (1, 4), (1, 5), (1, 6), (0, 0), (1, 7)]
  | 7 => [(1, 1), (0, 0), (0, 0)]
  | 8 => [(1, 1), (1, 2), (1, 3), (1, 4), (0, 0), (1, 5), (1, 6), (1, 7)]
  | 9 => [(1, 1), (0, 0), (0, 0), (0, 0)]
  | 10 => [(1, 1), (1, 2), (1, 3), (1, 4), (1, 5), (1, 6), (0, 0), (1, 7)]
  | 11 => [(1, 1), (1, 2), (1, 3), (1, 5), (1, 46), (1, 87), (1, 94), (0, 0)]
  | 12 => [(1, 1), (1, 2), (1, 3), (0, 0), (1, 5), (1, 6), (1, 7), (1, 8), (1, 9), (1, 10), (0, 0), (1, 12), (1, 13), (1, 14), (0, 0), (1, 16), (0, 0), (1, 18), (0, 0), (1, 20), (1, 21), (1, 22), (1, 23), (1, 24), (0, 0), (1, 26), (0, 0), (1, 28), (1, 29), (1, 30), (1, 31), (0, 0), (1, 33), (1, 34), (1, 35), (1, 36), (1, 37), (0, 0), (1, 39), (1, 40), (1, 41), (1, 42), (1, 43), (1, 44), (1, 45), (1, 46), (1, 47), (1, 48), (1, 49), (1, 50), (2, 51)]
  | _ => []
def fv (q : Nat → Nat) (M : Mem) (k : Nat) (j : Nat) (f : gF) : Value := match f.1 with
  | 0 => .int (Int32.ofInt (M k j))
  | 1 => .ref (q (k + f.2))
  | _ => if M k j = 0 then .null else .ref (q (k + f.2))
def fa (M : Mem) (k : Nat) (j : Nat) (f : gF) : gV := match f.1 with
  | 0 => gI (M k j)
  | 1 => gR (k + f.2)
  | _ => if M k j = 0 then gN else gR (k + f.2)
theorem fa_cv (q : Nat → Nat) (M : Mem) (k j : Nat) (f : gF) : cv q (fa M k j f) = fv q M k j f := by
  obtain ⟨a, b⟩ := f
  match a with
  | 0 => rfl
  | 1 => rfl
  | n + 2 =>
    show cv q (if M k j = 0 then gN else gR (k + b)) = (if M k j = 0 then Value.null else .ref (q (k + b)))
    by_cases h : M k j = 0
    · rw [if_pos h, if_pos h]; rfl
    · rw [if_neg h, if_neg h]; rfl
def fvs (q : Nat → Nat) (M : Mem) (k : Nat) (ci : Nat) : List Value := (FS ci).mapIdx (fun j f => fv q M k j f)
abbrev gK : Type := Nat ⊕ (Nat × Nat)
def gA (q : Nat → Nat) (M : Mem) (k : Nat) (et : Nat) : (Nat → Int32) ⊕ (Nat → Int64) ⊕ (Nat → UInt32) ⊕ (Nat → UInt64) ⊕ (Nat → Option Nat) := match et with
  | 2 => .inr (.inl (fun j => Int64.ofInt (M k j)))
  | 4 => .inr (.inr (.inr (.inr (fun j => some (q (k + 96 + 2 * j))))))
  | _ => .inl (fun j => Int32.ofInt (M k j))
def ent (cy : Nat → ClassId) (q : Nat → Nat) (M : Mem) (k : Nat) (kd : gK) : va_E := match kd with
  | .inl ci => .inr (ci, fvs q M k ci)
  | .inr (et, n) => .inl (cy et, n, gA q M k et)
def KD : List (Nat × gK) := [(0, .inl 11), (1, .inr (4, 8)), (2, .inr (0, 5)), (3, .inl 9), (4, .inr (1, 120)), (5, .inl 1), (6, .inl 10), (7, .inr (0, 30)), (8, .inr (0, 30)), (9, .inr (0, 30)), (10, .inr (0, 30)), (11, .inr (0, 30)), (12, .inr (0, 30)), (13, .inr (0, 30)), (14, .inl 2), (15, .inr (0, 5)), (16, .inr (0, 5)), (17, .inr (0, 5)), (18, .inl 3), (19, .inr (0, 30)), (20, .inr (0, 5)), (21, .inl 0), (22, .inr (0, 12)), (23, .inr (0, 12)), (24, .inr (0, 12)), (25, .inr (0, 12)), (26, .inr (0, 12)), (27, .inl 8), (28, .inr (0, 20)), (29, .inr (0, 20)), (30, .inr (0, 20)), (31, .inr (0, 20)), (32, .inr (0, 20)), (33, .inr (0, 20)), (34, .inr (0, 20)), (35, .inl 6), (36, .inr (0, 10)), (37, .inr (0, 10)), (38, .inr (0, 16)), (39, .inr (0, 10)), (40, .inr (0, 10)), (41, .inr (0, 10)), (42, .inr (0, 5)), (43, .inr (0, 5)), (44, .inr (0, 25)), (45, .inr (0, 32)), (46, .inl 1), (47, .inl 10), (48, .inr (0, 30)), (49, .inr (0, 30)), (50, .inr (0, 30)), (51, .inr (0, 30)), (52, .inr (0, 30)), (53, .inr (0, 30)), (54, .inr (0, 30)), (55, .inl 2), (56, .inr (0, 5)), (57, .inr (0, 5)), (58, .inr (0, 5)), (59, .inl 3), (60, .inr (0, 30)), (61, .inr (0, 5)), (62, .inl 0), (63, .inr (0, 12)), (64, .inr (0, 12)), (65, .inr (0, 12)), (66, .inr (0, 12)), (67, .inr (0, 12)), (68, .inl 8), (69, .inr (0, 20)), (70, .inr (0, 20)), (71, .inr (0, 20)), (72, .inr (0, 20)), (73, .inr (0, 20)), (74, .inr (0, 20)), (75, .inr (0, 20)), (76, .inl 6), (77, .inr (0, 10)), (78, .inr (0, 10)), (79, .inr (0, 16)), (80, .inr (0, 10)), (81, .inr (0, 10)), (82, .inr (0, 10)), (83, .inr (0, 5)), (84, .inr (0, 5)), (85, .inr (0, 25)), (86, .inr (0, 32)), (87, .inl 5), (88, .inr (0, 30)), (89, .inr (0, 30)), (90, .inr (0, 30)), (91, .inr (0, 30)), (92, .inr (0, 12)), (93, .inr (0, 12)), (94, .inl 4), (95, .inr (0, 10000)), (96, .inr (0, 201)), (97, .inl 7), (98, .inr (2, 40)), (99, .inl 7), (100, .inr (2, 40)), (101, .inl 7), (102, .inr (2, 40)), (103, .inl 7), (104, .inr (2, 40)), (105, .inl 7), (106, .inr (2, 40)), (107, .inl 7), (108, .inr (2, 40)), (109, .inl 7), (110, .inr (2, 40)), (111, .inl 7), (112, .inr (2, 40)), (200, .inl 12), (201, .inr (0, 8)), (202, .inr (0, 8)), (203, .inr (2, 320)), (205, .inr (0, 30)), (206, .inr (0, 30)), (207, .inr (0, 30)), (208, .inr (0, 30)), (209, .inr (0, 30)), (210, .inr (0, 30)), (212, .inr (0, 5)), (213, .inr (0, 5)), (214, .inr (0, 5)), (216, .inr (0, 30)), (218, .inr (0, 120)), (220, .inr (0, 12)), (221, .inr (0, 12)), (222, .inr (0, 12)), (223, .inr (0, 12)), (224, .inr (0, 12)), (226, .inr (0, 5)), (228, .inr (0, 20)), (229, .inr (0, 20)), (230, .inr (0, 20)), (231, .inr (0, 20)), (233, .inr (0, 10)), (234, .inr (0, 10)), (235, .inr (0, 16)), (236, .inr (0, 4)), (237, .inr (0, 7)), (239, .inr (0, 460)), (240, .inr (0, 7)), (241, .inr (3, 30)), (242, .inr (0, 12)), (243, .inr (0, 6231)), (244, .inr (0, 20)), (245, .inr (0, 20)), (246, .inr (0, 20)), (247, .inr (0, 20)), (248, .inr (0, 30)), (249, .inr (0, 5)), (250, .inr (0, 25))]
abbrev KF : Nat := 251
abbrev KO : Nat := 200
abbrev FEW : Nat := 50
def KDF : List (Nat × gK) := KD ++ [(KF, .inr (1, 310000))]
def KDm (M : Mem) : List (Nat × gK) := if M KO FEW = 0 then KD else KDF
def wsM (cy : Nat → ClassId) (q : Nat → Nat) (M : Mem) : va_W := (KDm M).map (fun e => (q e.1, ent cy q M e.1 e.2))
theorem kdm {M : Mem} {i : Nat} {e : Nat × gK} (h : KD[i]? = some e) : (KDm M)[i]? = some e := by
  unfold KDm
  split
  · exact h
  · have hl := (List.getElem?_eq_some_iff.mp h).1
    unfold KDF
    rw [List.getElem?_append_left hl]
    exact h
theorem kdF {M : Mem} (h : M KO FEW ≠ 0) : (KDm M)[155]? = some (KF, .inr (1, 310000)) := by
  unfold KDm
  rw [if_neg h]
  decide +kernel
theorem ws_at {cy : Nat → ClassId} {q : Nat → Nat} {M : Mem} {i k : Nat} {kd : gK} (h : (KDm M)[i]? = some (k, kd)) : (wsM cy q M)[i]? = some (q k, ent cy q M k kd) := by
  unfold wsM
  rw [List.getElem?_map, h]
  rfl
theorem kd_nd : va_nd (KDF.map (fun e => e.1)) = true := by decide +kernel
theorem kdm_F {M : Mem} {i : Nat} {e : Nat × gK} (h : (KDm M)[i]? = some e) : KDF[i]? = some e := by
  unfold KDm at h
  split at h
  · have hl := (List.getElem?_eq_some_iff.mp h).1
    unfold KDF
    rw [List.getElem?_append_left hl]
    exact h
  · exact h
theorem kd_inj {M : Mem} {i j k : Nat} {a b : gK} (h1 : (KDm M)[i]? = some (k, a)) (h2 : (KDm M)[j]? = some (k, b)) : i = j := by
  refine va_nd_inj _ kd_nd i j k ?_ ?_
  · rw [List.getElem?_map, kdm_F h1]; rfl
  · rw [List.getElem?_map, kdm_F h2]; rfl
theorem ent_o {cy : Nat → ClassId} {q : Nat → Nat} {M M' : Mem} {k : Nat} {kd : gK} (h : M' k = M k) : ent cy q M' k kd = ent cy q M k kd := by
  have hf : ∀ j f, fv q M' k j f = fv q M k j f := fun j f => by unfold fv; rw [h]
  cases kd with
  | inl ci => show Sum.inr (ci, fvs q M' k ci) = Sum.inr (ci, fvs q M k ci); unfold fvs; simp only [hf]
  | inr p =>
    obtain ⟨et, n⟩ := p
    show Sum.inl (cy et, n, gA q M' k et) = Sum.inl (cy et, n, gA q M k et)
    unfold gA
    rw [h]
theorem kdm_eq {M M' : Mem} (h : M' KO FEW = 0 ↔ M KO FEW = 0) : KDm M' = KDm M := by
  unfold KDm
  by_cases c : M KO FEW = 0
  · rw [if_pos c, if_pos (h.mpr c)]
  · rw [if_neg c, if_neg (fun z => c (h.mp z))]
/-- a cell of the world changes -/
theorem ws_set {cy : Nat → ClassId} {q : Nat → Nat} {M M' : Mem} {i k : Nat} {kd : gK} (h : (KDm M)[i]? = some (k, kd)) (ho : ∀ a, a ≠ k → M' a = M a) (hz : M' KO FEW = 0 ↔ M KO FEW = 0) {e : va_E} (he : e = ent cy q M' k kd) : (wsM cy q M).set i (q k, e) = wsM cy q M' := by
  subst he
  have hi := (List.getElem?_eq_some_iff.mp h).1
  unfold wsM
  rw [kdm_eq hz]
  apply List.ext_getElem?
  intro n
  rw [List.getElem?_set]
  by_cases c : i = n
  · subst c
    rw [if_pos rfl, if_pos (by simpa using hi), List.getElem?_map, h]
    rfl
  · rw [if_neg c, List.getElem?_map, List.getElem?_map]
    cases hn : (KDm M)[n]? with
    | none => rfl
    | some x =>
      obtain ⟨a, b⟩ := x
      have hne : a ≠ k := fun z => by
        subst z
        exact c (kd_inj h hn)
      show some (q a, ent cy q M a b) = some (q a, ent cy q M' a b)
      rw [ent_o (ho a hne)]
theorem up_z {M : Mem} {k j : Nat} {x : Int} (h : ¬ (k = KO ∧ j = FEW)) : up M k j x KO FEW = 0 ↔ M KO FEW = 0 := by
  unfold up
  by_cases c : KO = k
  · subst c
    rw [if_pos rfl, us_o (fun z => h ⟨rfl, z.symm⟩)]
  · rw [if_neg c]
theorem fvs_at {q : Nat → Nat} {M : Mem} {k ci j : Nat} {f : gF} (h : (FS ci)[j]? = some f) : (fvs q M k ci)[j]? = some (fv q M k j f) := by
  unfold fvs
  rw [List.getElem?_mapIdx, h]
  rfl
theorem fvs_set {q : Nat → Nat} {M : Mem} {k ci j : Nat} {x : Int} {f : gF} (h : (FS ci)[j]? = some f) (hf : f.1 = 0) : (fvs q M k ci).set j (.int (Int32.ofInt x)) = fvs q (up M k j x) k ci := by
  have hj := (List.getElem?_eq_some_iff.mp h).1
  unfold fvs
  apply List.ext_getElem?
  intro n
  rw [List.getElem?_set]
  by_cases c : j = n
  · subst c
    rw [if_pos rfl, if_pos (by simpa using hj), List.getElem?_mapIdx, h]
    show some _ = some (fv q (up M k j x) k j f)
    unfold fv
    rw [hf, up_k, us_k]
    rfl
  · rw [if_neg c, List.getElem?_mapIdx, List.getElem?_mapIdx]
    cases hn : (FS ci)[n]? with
    | none => rfl
    | some g =>
      show some (fv q M k n g) = some (fv q (up M k j x) k n g)
      unfold fv
      rw [up_k, us_o (Ne.symm c)]
theorem gA_i {q : Nat → Nat} {M : Mem} {k et : Nat} (h2 : et ≠ 2) (h4 : et ≠ 4) : gA q M k et = .inl (fun j => Int32.ofInt (M k j)) := by
  unfold gA
  split
  · exact absurd rfl h2
  · exact absurd rfl h4
  · rfl
theorem gA_up {q : Nat → Nat} {M : Mem} {k et i : Nat} {x : Int} (h2 : et ≠ 2) (h4 : et ≠ 4) : gA q (up M k i x) k et = .inl (upd (fun j => Int32.ofInt (M k j)) i (Int32.ofInt x)) := by
  rw [gA_i h2 h4]
  congr 1
  funext j
  rw [up_k]
  unfold upd us
  by_cases c : j = i
  · rw [if_pos c, if_pos c]
  · rw [if_neg c, if_neg c]
theorem gA_upL {q : Nat → Nat} {M : Mem} {k i : Nat} {x : Int} : gA q (up M k i x) k 2 = .inr (.inl (vp_updL (fun j => Int64.ofInt (M k j)) i (Int64.ofInt x))) := by
  show Sum.inr (Sum.inl _) = _
  congr 2
  funext j
  rw [up_k]
  unfold vp_updL us
  by_cases c : j = i
  · rw [if_pos c, if_pos c]
  · rw [if_neg c, if_neg c]
/-- locals -/
def gl : List (Nat × gV) → Nat → Option gV
  | [], _ => none
  | (j, v) :: r, i => if j = i then some v else gl r i
def gi : List (Nat × gV) → Nat → gV → List (Nat × gV)
  | [], i, v => [(i, v)]
  | (j, w) :: r, i, v => if i < j then (i, v) :: (j, w) :: r else (j, w) :: gi r i v
def gs (L : List (Nat × gV)) (i : Nat) (v : gV) : List (Nat × gV) := gi (L.filter (fun e => !(e.1 == i) && (!(isLo v && e.1 == i + 1) && !(e.1 + 1 == i && isLo e.2)))) i v
abbrev gM (q : Nat → Nat) (L : List (Nat × gV)) : List (Nat × Value) := L.map (fun e => (e.1, cv q e.2))
theorem gl_mem : ∀ {L : List (Nat × gV)} {i : Nat} {v : gV}, gl L i = some v → (i, v) ∈ L
  | [], i, v, h => by simp [gl] at h
  | (j, w) :: r, i, v, h => by
    unfold gl at h
    by_cases c : j = i
    · rw [if_pos c] at h
      subst c
      cases h
      exact List.mem_cons_self
    · rw [if_neg c] at h
      exact List.mem_cons_of_mem _ (gl_mem h)
theorem gi_mem : ∀ {L : List (Nat × gV)} {i : Nat} {v : gV} {e : Nat × gV}, e ∈ gi L i v → e = (i, v) ∨ e ∈ L
  | [], i, v, e, h => by
    unfold gi at h
    exact Or.inl (List.mem_singleton.mp h)
  | (j, w) :: r, i, v, e, h => by
    unfold gi at h
    split at h
    · rcases List.mem_cons.mp h with h | h
      · exact Or.inl h
      · exact Or.inr h
    · rcases List.mem_cons.mp h with h | h
      · rw [h]; exact Or.inr List.mem_cons_self
      · rcases gi_mem h with h | h
        · exact Or.inl h
        · exact Or.inr (List.mem_cons_of_mem _ h)
theorem cv_cat (q : Nat → Nat) (v : gV) : (cv q v).category = gw v := by
  match v with
  | .inl x => rfl
  | .inr (.inl x) => rfl
  | .inr (.inr none) => rfl
  | .inr (.inr (some k)) => rfl
theorem lo_cat (q : Nat → Nat) (v : gV) : ((cv q v).category == 2) = isLo v := by
  match v with
  | .inl x => rfl
  | .inr (.inl x) => rfl
  | .inr (.inr none) => rfl
  | .inr (.inr (some k)) => rfl
theorem gl_has {q : Nat → Nat} {ls : Array Slot} {nL : Nat} {L : List (Nat × gV)} {i : Nat} {v : gV} (hl : lv_has ls nL (gM q L)) (h : gl L i = some v) : ls[i]? = some (.val (cv q v)) :=
  hl.2.2 (i, cv q v) (List.mem_map.mpr ⟨(i, v), gl_mem h, rfl⟩)
theorem gs_has1 {q : Nat → Nat} {ls : Array Slot} {nL : Nat} {L : List (Nat × gV)} {i : Nat} {v : gV} (hv : isLo v = false) (h : lv_has ls nL ((i, cv q v) :: (gM q L).filter (fun e => !(e.1 == i) && !(e.1 + 1 == i && e.2.category == 2)))) : lv_has ls nL (gM q (gs L i v)) := by
  refine ⟨h.1, h.2.1, fun e he => ?_⟩
  obtain ⟨x, hx, rfl⟩ := List.mem_map.mp he
  rcases gi_mem hx with hx | hx
  · subst hx
    exact h.2.2 _ List.mem_cons_self
  · obtain ⟨h1, h2⟩ := List.mem_filter.mp hx
    refine h.2.2 _ (List.mem_cons_of_mem _ (List.mem_filter.mpr ⟨List.mem_map.mpr ⟨x, h1, rfl⟩, ?_⟩))
    rw [hv] at h2
    simp only [Bool.false_and, Bool.not_false, Bool.true_and] at h2
    show (!(x.1 == i) && !(x.1 + 1 == i && (cv q x.2).category == 2)) = true
    rw [lo_cat]
    exact h2
theorem gs_has2 {q : Nat → Nat} {ls : Array Slot} {nL : Nat} {L : List (Nat × gV)} {i : Nat} {v : gV} (hv : isLo v = true) (h : lv_has ls nL ((i, cv q v) :: (gM q L).filter (fun e => !(e.1 == i) && (!(e.1 == i + 1) && !(e.1 + 1 == i && e.2.category == 2))))) : lv_has ls nL (gM q (gs L i v)) := by
  refine ⟨h.1, h.2.1, fun e he => ?_⟩
  obtain ⟨x, hx, rfl⟩ := List.mem_map.mp he
  rcases gi_mem hx with hx | hx
  · subst hx
    exact h.2.2 _ List.mem_cons_self
  · obtain ⟨h1, h2⟩ := List.mem_filter.mp hx
    refine h.2.2 _ (List.mem_cons_of_mem _ (List.mem_filter.mpr ⟨List.mem_map.mpr ⟨x, h1, rfl⟩, ?_⟩))
    rw [hv] at h2
    simp only [Bool.true_and] at h2
    show (!(x.1 == i) && (!(x.1 == i + 1) && !(x.1 + 1 == i && (cv q x.2).category == 2))) = true
    rw [lo_cat]
    exact h2
theorem gsub_has {q : Nat → Nat} {ls : Array Slot} {nL : Nat} {L L' : List (Nat × gV)} (hl : lv_has ls nL (gM q L)) (ks : List Nat) (h : ks.filterMap (fun k => L[k]?) = L') : lv_has ls nL (gM q L') := by
  refine ⟨hl.1, hl.2.1, fun e he => ?_⟩
  obtain ⟨x, hx, rfl⟩ := List.mem_map.mp he
  subst h
  obtain ⟨k, -, hk⟩ := List.mem_filterMap.mp hx
  exact hl.2.2 _ (List.mem_map.mpr ⟨x, List.mem_of_getElem? hk, rfl⟩)
