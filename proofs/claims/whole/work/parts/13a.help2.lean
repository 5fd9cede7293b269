/-! narrowing, shelves, refusals -/
def jb (x : Int) : Int := ((Int32.ofInt x).toInt8.toInt32).toInt
def js (x : Int) : Int := ((Int32.ofInt x).toInt16.toInt32).toInt
def ji (x : Int) : Int := (Int32.ofInt x).toInt
theorem jb_eq (x : Int) : (Int32.ofInt x).toInt8.toInt32 = Int32.ofInt (jb x) := by unfold jb; rw [Int32.ofInt_toInt]
theorem js_eq (x : Int) : (Int32.ofInt x).toInt16.toInt32 = Int32.ofInt (js x) := by unfold js; rw [Int32.ofInt_toInt]
theorem ji_eq (x : Int) : Int32.ofInt x = Int32.ofInt (ji x) := by unfold ji; rw [Int32.ofInt_toInt]
theorem jb_in (x : Int) : inI (jb x) := i32_in _
theorem js_in (x : Int) : inI (js x) := i32_in _
theorem ji_in (x : Int) : inI (ji x) := i32_in _
theorem inL_of {x : Int} (h : inI x) : inL x := ⟨by omega, by omega⟩
theorem ji_id {x : Int} (h : inI x) : ji x = x := oi_ti h
theorem jb_rng (x : Int) : -128 ≤ jb x ∧ jb x ≤ 127 := by
  unfold jb
  rw [Int8.toInt_toInt32]
  have h1 := (Int32.ofInt x).toInt8.le_toInt
  have h2 := (Int32.ofInt x).toInt8.toInt_lt
  omega
/-- a refusal is counted -/
abbrev rf (M : Mem) (k : Nat) : Mem := up M 2 k (M 2 k + 1)
def rfOK (M : Mem) : Prop := ∀ j : Nat, j < 5 → 0 ≤ M 2 j ∧ M 2 j ≤ 1000000
/-- the shelves -/
def shOK (M : Mem) : Prop := ∀ s : Int, 0 ≤ s → s < 8 → (M (1 + 96 + 2 * s.toNat) 1 = -1 ∨ (0 ≤ M (1 + 96 + 2 * s.toNat) 1 ∧ M (1 + 96 + 2 * s.toNat) 1 ≤ 4) ∨ (10 ≤ M (1 + 96 + 2 * s.toNat) 1 ∧ M (1 + 96 + 2 * s.toNat) 1 < 10 + M 6 6)) ∧ 0 ≤ M (1 + 96 + 2 * s.toNat) 2 ∧ M (1 + 96 + 2 * s.toNat) 2 ≤ 40
/-- a value cut to its sort -/
def ctS (h v : Int) : Int := if h = 0 then jb (ji v) else if h = 1 then js (ji v) else if h = 2 then ji v else if h = 3 then v else if v = 0 then 0 else 1
theorem ctS_0 {h v : Int} (c : h = 0) : ctS h v = jb (ji v) := by unfold ctS; rw [if_pos c]
theorem ctS_1 {h v : Int} (c : h = 1) : ctS h v = js (ji v) := by unfold ctS; rw [if_neg (by omega), if_pos c]
theorem ctS_2 {h v : Int} (c : h = 2) : ctS h v = ji v := by unfold ctS; rw [if_neg (by omega), if_neg (by omega), if_pos c]
theorem ctS_3 {h v : Int} (c : h = 3) : ctS h v = v := by unfold ctS; rw [if_neg (by omega), if_neg (by omega), if_neg (by omega), if_pos c]
theorem ctS_4 {h v : Int} (c : h < 0 ∨ 3 < h) : ctS h v = if v = 0 then 0 else 1 := by unfold ctS; rw [if_neg (by omega), if_neg (by omega), if_neg (by omega), if_neg (by omega)]
theorem ctS_in {h v : Int} (hv : inL v) : inL (ctS h v) := by
  have a := jb_in (ji v)
  have b := js_in (ji v)
  have c := ji_in v
  unfold ctS
  (repeat' split) <;> first | omega | exact ⟨by omega, by omega⟩
abbrev tkR (M : Mem) (s so n : Int) : Mem := fil (up (up M (1 + 96 + 2 * s.toNat) 1 so) (1 + 96 + 2 * s.toNat) 2 n) (1 + 96 + 2 * s.toNat + 1) 40 0
abbrev addT (M : Mem) (k w ch : Int) : Mem := up (up (up (up (up (up (up M 7 (M 6 6).toNat k) 8 (M 6 6).toNat w) 9 (M 6 6).toNat ch) 10 (M 6 6).toNat (-1)) 11 (M 6 6).toNat (-1)) 12 (M 6 6).toNat (-1)) 6 6 (M 6 6 + 1)
/-- things of a row, one after another -/
def thsM (M : Mem) (f : Nat → Int) (k : Int) : Nat → Mem
  | 0 => M
  | n + 1 => addT (thsM M f k n) k (f n) 0
theorem thsM_66 (M : Mem) (f : Nat → Int) (k : Int) : ∀ n, thsM M f k n 6 6 = M 6 6 + n
  | 0 => by simp [thsM]
  | n + 1 => by
    show addT (thsM M f k n) k (f n) 0 6 6 = _
    unfold addT
    rw [up_k, us_k, thsM_66 M f k n]
    omega
theorem thsM_o (M : Mem) (f : Nat → Int) (k : Int) {a : Nat} (h : a ≠ 6 ∧ a ≠ 7 ∧ a ≠ 8 ∧ a ≠ 9 ∧ a ≠ 10 ∧ a ≠ 11 ∧ a ≠ 12) : ∀ n, thsM M f k n a = M a
  | 0 => rfl
  | n + 1 => by
    show addT (thsM M f k n) k (f n) 0 a = _
    unfold addT
    rw [up_o h.1, up_o h.2.2.2.2.2.2, up_o h.2.2.2.2.2.1, up_o h.2.2.2.2.1, up_o h.2.2.2.1, up_o h.2.2.1, up_o h.2.1]
    exact thsM_o M f k h n
/-- the reference's side -/
abbrev rg (M : Mem) (k : Nat) : Mem := up M 237 k (M 237 k + 1)
def rgOK (M : Mem) : Prop := ∀ j : Nat, j < 7 → 0 ≤ M 237 j ∧ M 237 j ≤ 1000000
def hoOK (M : Mem) : Prop := ∀ s : Nat, s < 8 → (M 201 s = -1 ∨ (100 ≤ M 201 s ∧ M 201 s ≤ 104) ∨ (0 ≤ M 201 s ∧ M 201 s < M 200 3)) ∧ 0 ≤ M 202 s ∧ M 202 s ≤ 40
def thOKm (M : Mem) : Prop := ∀ j : Nat, j < 30 → (0 ≤ M 205 j ∧ M 205 j ≤ 5) ∧ (0 ≤ M 206 j ∧ M 206 j ≤ 999) ∧ (0 ≤ M 207 j ∧ M 207 j ≤ 255) ∧ (-1 ≤ M 208 j ∧ M 208 j ≤ 999) ∧ (-1 ≤ M 209 j ∧ M 209 j ≤ 11) ∧ (-1 ≤ M 210 j ∧ M 210 j ≤ 999)
theorem cp_as {M : Mem} {k sp dp n : Nat} {f : Nat → Int} {x : Int} (h : x = f (sp + n)) : up (cp M k f sp dp n) k (dp + n) x = cp M k f sp dp (n + 1) := by
  subst h
  funext a
  by_cases h : a = k
  · subst h
    rw [up_k, cp_k, cp_k]
    funext j
    unfold us cpf
    by_cases c : j = dp + n
    · rw [if_pos c, if_pos (by omega)]
      congr 1
      omega
    · rw [if_neg c]
      by_cases c2 : dp ≤ j ∧ j < dp + n
      · rw [if_pos c2, if_pos (by omega)]
      · rw [if_neg c2, if_neg (by omega)]
  · rw [up_o h, cp_o h, cp_o h]
theorem cp_ds {M : Mem} {k sp dp n : Nat} {f : Nat → Int} {x : Int} (h : x = f sp) : up (cp M k f (sp + 1) (dp + 1) n) k dp x = cp M k f sp dp (n + 1) := by
  subst h
  funext a
  by_cases h : a = k
  · subst h
    rw [up_k, cp_k, cp_k]
    funext j
    unfold us cpf
    by_cases c : j = dp
    · rw [if_pos c, if_pos (by omega)]
      congr 1
      omega
    · rw [if_neg c]
      by_cases c2 : dp + 1 ≤ j ∧ j < dp + 1 + n
      · rw [if_pos c2, if_pos (by omega)]
        congr 1
        omega
      · rw [if_neg c2, if_neg (by omega)]
  · rw [up_o h, cp_o h, cp_o h]
theorem cp_rd {M : Mem} {k sp dp n j : Nat} {f : Nat → Int} (h : ¬ (dp ≤ j ∧ j < dp + n)) : cp M k f sp dp n k j = M k j := by
  rw [cp_k]
  unfold cpf
  rw [if_neg h]
def cnt8 (x : Int) : Nat → Int
  | 0 => 0
  | n + 1 => cnt8 x n + (if hb x n then 1 else 0)
theorem cnt8_8 (x : Int) : cnt8 x 8 = bc8 x := by
  simp only [cnt8, bc8]
  rw [Int.zero_add]
  rfl
theorem cnt8_in (x : Int) : ∀ n, 0 ≤ cnt8 x n ∧ cnt8 x n ≤ n
  | 0 => by simp [cnt8]
  | n + 1 => by
    have ih := cnt8_in x n
    unfold cnt8
    split <;> omega
/-- a law's parts -/
def lwOKm (M : Mem) : Prop := ∀ w : Nat, w < 6 → (w : Int) < M 200 14 → (0 ≤ M 216 (5 * w) ∧ M 216 (5 * w) ≤ 200) ∧ (0 ≤ M 216 (5 * w + 1) ∧ M 216 (5 * w + 1) ≤ 200) ∧ (1 ≤ M 216 (5 * w + 2) ∧ M 216 (5 * w + 2) ≤ 50) ∧ (0 ≤ M 216 (5 * w + 3) ∧ M 216 (5 * w + 3) ≤ 999) ∧ (0 ≤ M 216 (5 * w + 4) ∧ M 216 (5 * w + 4) ≤ 999)
abbrev addM (M : Mem) (k w ch : Int) : Mem := up (up (up (up (up (up (up M 200 3 (M 200 3 + 1)) 205 (M 200 3).toNat k) 206 (M 200 3).toNat w) 207 (M 200 3).toNat ch) 208 (M 200 3).toNat (-1)) 209 (M 200 3).toNat (-1)) 210 (M 200 3).toNat (-1)
theorem jshr0 {x : Int} (h : inI x) : jshr x 0 = x := by
  unfold jshr
  rw [show Int32.ofInt 0 &&& 31 = 0 from rfl]
  have : ∀ z : Int32, z >>> (0 : Int32) = z := by
    intro z
    apply Int32.toBitVec_inj.mp
    simp
  rw [this]
  exact oi_ti h
theorem hb0_val (x : Int) (h : inI x) : jand x 1 = if hb x 0 then 1 else 0 := by
  unfold hb
  rw [jshr0 h]
  rcases jand1 x with h | h
  · rw [h, if_neg (by decide)]
  · rw [h, if_pos rfl]
