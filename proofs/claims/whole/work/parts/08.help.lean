/-! words for ints as Java has them, and small rows -/
def jand (x y : Int) : Int := (Int32.ofInt x &&& Int32.ofInt y).toInt
def jor (x y : Int) : Int := (Int32.ofInt x ||| Int32.ofInt y).toInt
def jxor (x y : Int) : Int := (Int32.ofInt x ^^^ Int32.ofInt y).toInt
def jshl (x y : Int) : Int := (Int32.ofInt x <<< (Int32.ofInt y &&& 31)).toInt
def jshr (x y : Int) : Int := (Int32.ofInt x >>> (Int32.ofInt y &&& 31)).toInt
def jushr (x y : Int) : Int := ((Int32.ofInt x).toUInt32 >>> ((Int32.ofInt y).toUInt32 &&& Int32.toUInt32 31)).toInt32.toInt
def jland (x y : Int) : Int := (Int64.ofInt x &&& Int64.ofInt y).toInt
def jlor (x y : Int) : Int := (Int64.ofInt x ||| Int64.ofInt y).toInt
def jlshl (x y : Int) : Int := (Int64.ofInt x <<< ((Int32.ofInt y).toInt64 &&& 63)).toInt
theorem i32_in (z : Int32) : inI z.toInt := ⟨by have := z.le_toInt; omega, by have := z.toInt_lt; omega⟩
theorem i64_in (z : Int64) : inL z.toInt := ⟨by have := z.le_toInt; omega, by have := z.toInt_lt; omega⟩
theorem jand_in (x y : Int) : inI (jand x y) := i32_in _
theorem jor_in (x y : Int) : inI (jor x y) := i32_in _
theorem jxor_in (x y : Int) : inI (jxor x y) := i32_in _
theorem jshl_in (x y : Int) : inI (jshl x y) := i32_in _
theorem jshr_in (x y : Int) : inI (jshr x y) := i32_in _
theorem jushr_in (x y : Int) : inI (jushr x y) := i32_in _
/-- a bit of a set -/
def hb (x k : Int) : Prop := jand (jshr x k) 1 = 1
theorem and1 (z : Int32) : z &&& 1 = 0 ∨ z &&& 1 = 1 := by
  have h : ∀ b : BitVec 32, b &&& 1#32 = 0#32 ∨ b &&& 1#32 = 1#32 := by
    intro b
    by_cases c : b.getLsbD 0 = true
    · right
      apply BitVec.eq_of_getLsbD_eq
      intro i hi
      rw [BitVec.getLsbD_and]
      by_cases h0 : i = 0
      · subst h0; simp [c]
      · have : (1#32).getLsbD i = false := by simp [BitVec.getLsbD_one, h0]
        rw [this]; simp
    · left
      apply BitVec.eq_of_getLsbD_eq
      intro i hi
      rw [BitVec.getLsbD_and]
      by_cases h0 : i = 0
      · subst h0
        have c2 : b.getLsbD 0 = false := Bool.not_eq_true _ ▸ c
        rw [c2]; simp
      · have : (1#32).getLsbD i = false := by simp [BitVec.getLsbD_one, h0]
        rw [this]; simp
  rcases h z.toBitVec with h | h
  · exact Or.inl (Int32.toBitVec_inj.mp (by simpa using h))
  · exact Or.inr (Int32.toBitVec_inj.mp (by simpa using h))
theorem jand1 (x : Int) : jand x 1 = 0 ∨ jand x 1 = 1 := by
  unfold jand
  rcases and1 (Int32.ofInt x) with h | h
  · left; rw [show Int32.ofInt 1 = 1 from rfl, h]; rfl
  · right; rw [show Int32.ofInt 1 = 1 from rfl, h]; rfl
theorem nar_z {x : Int} (h : x = 0 ∨ x = 1) : narrow .boolean (.int (Int32.ofInt x)) = .int (Int32.ofInt x) := by
  rcases h with rfl | rfl <;> rfl
def STF (j : Nat) : Nat → Int := ((STs[j]?).map (fun e => e.2.2.2.2)).getD (fun _ => 0)
theorem kd_sh {i : Int} (h0 : 0 ≤ i) (h1 : i < 8) : KD[1 + 96 + 2 * i.toNat]? = some (1 + 96 + 2 * i.toNat, .inl 7) := by
  rcases (show i = 0 ∨ i = 1 ∨ i = 2 ∨ i = 3 ∨ i = 4 ∨ i = 5 ∨ i = 6 ∨ i = 7 by omega) with rfl | rfl | rfl | rfl | rfl | rfl | rfl | rfl <;> decide +kernel
theorem kd_el {i : Int} (h0 : 0 ≤ i) (h1 : i < 8) : KD[1 + 96 + 2 * i.toNat + 1]? = some (1 + 96 + 2 * i.toNat + 1, .inr (2, 40)) := by
  rcases (show i = 0 ∨ i = 1 ∨ i = 2 ∨ i = 3 ∨ i = 4 ∨ i = 5 ∨ i = 6 ∨ i = 7 by omega) with rfl | rfl | rfl | rfl | rfl | rfl | rfl | rfl <;> decide +kernel
theorem nl_sh {i : Int} (h0 : 0 ≤ i) (h1 : i < 8) : 1 + 96 + 2 * i.toNat ∉ lkL := by
  rcases (show i = 0 ∨ i = 1 ∨ i = 2 ∨ i = 3 ∨ i = 4 ∨ i = 5 ∨ i = 6 ∨ i = 7 by omega) with rfl | rfl | rfl | rfl | rfl | rfl | rfl | rfl <;> decide +kernel
theorem yl_el {i : Int} (h0 : 0 ≤ i) (h1 : i < 8) : 1 + 96 + 2 * i.toNat + 1 ∈ lkL := by
  rcases (show i = 0 ∨ i = 1 ∨ i = 2 ∨ i = 3 ∨ i = 4 ∨ i = 5 ∨ i = 6 ∨ i = 7 by omega) with rfl | rfl | rfl | rfl | rfl | rfl | rfl | rfl <;> decide +kernel
section GT
variable {p : Program} {l : Launch} {e : Env} {R : Room} {s : State} {m : MethodId} {args : Array Value} {below : List Frame} {meth : Method} {c : Code} {D : va_G} {cy : Nat → ClassId} {q : Nat → Nat} {A : Nat → Prop} {cells slots nL : Nat} {Q : State → Prop}
variable {pc : Nat} {L : List (Nat × gV)} {st : List gV} {M : Mem} {Pq : Option gV → Mem → Prop}
theorem g_topv {u v : gV} (h : u = v) (k : G p l e R s m args below meth c D cy q A cells slots nL Q pc L (v :: st) M) : G p l e R s m args below meth c D cy q A cells slots nL Q pc L (u :: st) M := h ▸ k
theorem g_topI {x : Int} (k : ∀ y : Int, y = x → G p l e R s m args below meth c D cy q A cells slots nL Q pc L (gI y :: st) M) : G p l e R s m args below meth c D cy q A cells slots nL Q pc L (gI x :: st) M := k x rfl
theorem g_topL {x : Int} (k : ∀ y : Int, y = x → G p l e R s m args below meth c D cy q A cells slots nL Q pc L (gL y :: st) M) : G p l e R s m args below meth c D cy q A cells slots nL Q pc L (gL x :: st) M := k x rfl
theorem g_mem2 (k : ∀ N : Mem, N = M → G p l e R s m args below meth c D cy q A cells slots nL Q pc L st N) : G p l e R s m args below meth c D cy q A cells slots nL Q pc L st M := k M rfl
theorem g_r1 {v : gV} (k : G p l e R s m args below meth c D cy q A cells slots nL Q pc L (v :: st) M) : G p l e R s m args below meth c D cy q A cells slots nL Q pc L ((some v).toList ++ st) M := k
theorem g_r0 (k : G p l e R s m args below meth c D cy q A cells slots nL Q pc L st M) : G p l e R s m args below meth c D cy q A cells slots nL Q pc L ((none : Option gV).toList ++ st) M := k
end GT
theorem g_fin {Pq : Option gV → Mem → Prop} {x y : Int} {M N : Mem} (h : Pq (some (gI x)) M) (hx : y = x) (hm : N = M) : Pq (some (gI y)) N := by subst hx; subst hm; exact h
theorem g_finL {Pq : Option gV → Mem → Prop} {x y : Int} {M N : Mem} (h : Pq (some (gL x)) M) (hx : y = x) (hm : N = M) : Pq (some (gL y)) N := by subst hx; subst hm; exact h
theorem g_finM {Pq : Option gV → Mem → Prop} {v : Option gV} {M N : Mem} (h : Pq v M) (hm : N = M) : Pq v N := by subst hm; exact h
theorem ji2b_id {x : Int} (h0 : -128 ≤ x) (h1 : x ≤ 127) : (Int32.ofInt x).toInt8.toInt32 = Int32.ofInt x := by
  rw [Int32.toInt8_ofInt, Int8.toInt32_ofInt (by show (-128 : Int) ≤ _; omega) (by show _ ≤ (127 : Int); omega)]
