/-! words for ints as Java has them, and small rows -/
def jand (x y : Int) : Int := (Int32.ofInt x &&& Int32.ofInt y).toInt
def jor (x y : Int) : Int := (Int32.ofInt x ||| Int32.ofInt y).toInt
def jxor (x y : Int) : Int := (Int32.ofInt x ^^^ Int32.ofInt y).toInt
def jshl (x y : Int) : Int := (Int32.ofInt x <<< (Int32.ofInt y &&& 31)).toInt
def jshr (x y : Int) : Int := (Int32.ofInt x >>> (Int32.ofInt y &&& 31)).toInt
def jushr (x y : Int) : Int := ((Int32.ofInt x).toUInt32 >>> ((Int32.ofInt y).toUInt32 &&& Int32.toUInt32 31)).toInt32.toInt
def jland (x y : Int) : Int := (Int64.ofInt x &&& Int64.ofInt y).toInt
def jlor (x y : Int) : Int := (Int64.ofInt x ||| Int64.ofInt y).toInt
def jlshl (x y : Int) : Int := (Int64.ofInt x <<< ((Int32.ofInt y).toInt64 &&& 63)).toInt
theorem i32_in (z : Int32) : inI z.toInt := ⟨by have := z.le_toInt; omega, by have := z.toInt_lt; omega⟩
theorem i64_in (z : Int64) : inL z.toInt := ⟨by have := z.le_toInt; omega, by have := z.toInt_lt; omega⟩
theorem jand_in (x y : Int) : inI (jand x y) := i32_in _
theorem jor_in (x y : Int) : inI (jor x y) := i32_in _
theorem jxor_in (x y : Int) : inI (jxor x y) := i32_in _
theorem jshl_in (x y : Int) : inI (jshl x y) := i32_in _
theorem jshr_in (x y : Int) : inI (jshr x y) := i32_in _
theorem jushr_in (x y : Int) : inI (jushr x y) := i32_in _
/-- a bit of a set -/
abbrev hb (x k : Int) : Prop := jand (jshr x k) 1 = 1
theorem and1 (z : Int32) : z &&& 1 = 0 ∨ z &&& 1 = 1 := by
  have h : ∀ b : BitVec 32, b &&& 1#32 = 0#32 ∨ b &&& 1#32 = 1#32 := by
    intro b
    by_cases c : b.getLsbD 0 = true
    · right
      apply BitVec.eq_of_getLsbD_eq
      intro i hi
      rw [BitVec.getLsbD_and]
      by_cases h0 : i = 0
      · subst h0; simp [c]
      · have : (1#32).getLsbD i = false := by simp [BitVec.getLsbD_one, h0]
        rw [this]; simp
    · left
      apply BitVec.eq_of_getLsbD_eq
      intro i hi
      rw [BitVec.getLsbD_and]
      by_cases h0 : i = 0
      · subst h0
        have c2 : b.getLsbD 0 = false := Bool.not_eq_true _ ▸ c
        rw [c2]; simp
      · have : (1#32).getLsbD i = false := by simp [BitVec.getLsbD_one, h0]
        rw [this]; simp
  rcases h z.toBitVec with h | h
  · exact Or.inl (Int32.toBitVec_inj.mp (by simpa using h))
  · exact Or.inr (Int32.toBitVec_inj.mp (by simpa using h))
theorem jand1 (x : Int) : jand x 1 = 0 ∨ jand x 1 = 1 := by
  unfold jand
  rcases and1 (Int32.ofInt x) with h | h
  · left; rw [show Int32.ofInt 1 = 1 from rfl, h]; rfl
  · right; rw [show Int32.ofInt 1 = 1 from rfl, h]; rfl
theorem nar_z {x : Int} (h : x = 0 ∨ x = 1) : narrow .boolean (.int (Int32.ofInt x)) = .int (Int32.ofInt x) := by
  rcases h with rfl | rfl <;> rfl
def STF (j : Nat) : Nat → Int := ((STs[j]?).map (fun e => e.2.2.2.2)).getD (fun _ => 0)
theorem kd_sh {i : Int} (h0 : 0 ≤ i) (h1 : i < 8) : KD[1 + 96 + 2 * i.toNat]? = some (1 + 96 + 2 * i.toNat, .inl 7) := by
  rcases (show i = 0 ∨ i = 1 ∨ i = 2 ∨ i = 3 ∨ i = 4 ∨ i = 5 ∨ i = 6 ∨ i = 7 by omega) with rfl | rfl | rfl | rfl | rfl | rfl | rfl | rfl <;> decide +kernel
theorem kd_el {i : Int} (h0 : 0 ≤ i) (h1 : i < 8) : KD[1 + 96 + 2 * i.toNat + 1]? = some (1 + 96 + 2 * i.toNat + 1, .inr (2, 40)) := by
  rcases (show i = 0 ∨ i = 1 ∨ i = 2 ∨ i = 3 ∨ i = 4 ∨ i = 5 ∨ i = 6 ∨ i = 7 by omega) with rfl | rfl | rfl | rfl | rfl | rfl | rfl | rfl <;> decide +kernel
theorem nl_sh {i : Int} (h0 : 0 ≤ i) (h1 : i < 8) : 1 + 96 + 2 * i.toNat ∉ lkL := by
  rcases (show i = 0 ∨ i = 1 ∨ i = 2 ∨ i = 3 ∨ i = 4 ∨ i = 5 ∨ i = 6 ∨ i = 7 by omega) with rfl | rfl | rfl | rfl | rfl | rfl | rfl | rfl <;> decide +kernel
theorem yl_el {i : Int} (h0 : 0 ≤ i) (h1 : i < 8) : 1 + 96 + 2 * i.toNat + 1 ∈ lkL := by
  rcases (show i = 0 ∨ i = 1 ∨ i = 2 ∨ i = 3 ∨ i = 4 ∨ i = 5 ∨ i = 6 ∨ i = 7 by omega) with rfl | rfl | rfl | rfl | rfl | rfl | rfl | rfl <;> decide +kernel
section GT
variable {p : Program} {l : Launch} {e : Env} {R : Room} {s : State} {m : MethodId} {args : Array Value} {below : List Frame} {meth : Method} {c : Code} {D : va_G} {cy : Nat → ClassId} {q : Nat → Nat} {A : Nat → Prop} {cells slots nL : Nat} {Q : State → Prop}
variable {pc : Nat} {L : List (Nat × gV)} {st : List gV} {M : Mem} {Pq : Option gV → Mem → Prop}
theorem g_topv {u v : gV} (h : u = v) (k : G p l e R s m args below meth c D cy q A cells slots nL Q pc L (v :: st) M) : G p l e R s m args below meth c D cy q A cells slots nL Q pc L (u :: st) M := h ▸ k
theorem g_topI {x : Int} (k : ∀ y : Int, y = x → G p l e R s m args below meth c D cy q A cells slots nL Q pc L (gI y :: st) M) : G p l e R s m args below meth c D cy q A cells slots nL Q pc L (gI x :: st) M := k x rfl
theorem g_topL {x : Int} (k : ∀ y : Int, y = x → G p l e R s m args below meth c D cy q A cells slots nL Q pc L (gL y :: st) M) : G p l e R s m args below meth c D cy q A cells slots nL Q pc L (gL x :: st) M := k x rfl
theorem g_mem2 (k : ∀ N : Mem, N = M → G p l e R s m args below meth c D cy q A cells slots nL Q pc L st N) : G p l e R s m args below meth c D cy q A cells slots nL Q pc L st M := k M rfl
theorem g_r1 {v : gV} (k : G p l e R s m args below meth c D cy q A cells slots nL Q pc L (v :: st) M) : G p l e R s m args below meth c D cy q A cells slots nL Q pc L ((some v).toList ++ st) M := k
theorem g_r0 (k : G p l e R s m args below meth c D cy q A cells slots nL Q pc L st M) : G p l e R s m args below meth c D cy q A cells slots nL Q pc L ((none : Option gV).toList ++ st) M := k
end GT
theorem g_fin {Pq : Option gV → Mem → Prop} {x y : Int} {M N : Mem} (h : Pq (some (gI x)) M) (hx : y = x) (hm : N = M) : Pq (some (gI y)) N := by subst hx; subst hm; exact h
theorem g_finL {Pq : Option gV → Mem → Prop} {x y : Int} {M N : Mem} (h : Pq (some (gL x)) M) (hx : y = x) (hm : N = M) : Pq (some (gL y)) N := by subst hx; subst hm; exact h
theorem g_finM {Pq : Option gV → Mem → Prop} {v : Option gV} {M N : Mem} (h : Pq v M) (hm : N = M) : Pq v N := by subst hm; exact h
theorem ji2b_id {x : Int} (h0 : -128 ≤ x) (h1 : x ≤ 127) : (Int32.ofInt x).toInt8.toInt32 = Int32.ofInt x := by
  rw [Int32.toInt8_ofInt, Int8.toInt32_ofInt (by show (-128 : Int) ≤ _; omega) (by show _ ≤ (127 : Int); omega)]
theorem tn1 {t : Int} (h : 0 ≤ t) : (t + 1).toNat = t.toNat + 1 := by omega
/-- how many of 8 bits -/
def bc8 (x : Int) : Int := (if hb x 0 then 1 else 0) + (if hb x 1 then 1 else 0) + (if hb x 2 then 1 else 0) + (if hb x 3 then 1 else 0) + (if hb x 4 then 1 else 0) + (if hb x 5 then 1 else 0) + (if hb x 6 then 1 else 0) + (if hb x 7 then 1 else 0)
def bcj (x : Int) : Int :=
  let a := x - jand (jushr x 1) 1431655765
  let b := jand a 858993459 + jand (jushr a 2) 858993459
  let c := jand (b + jushr b 4) 252645135
  let d := c + jushr c 8
  let e := d + jushr d 16
  jand e 63
set_option maxRecDepth 100000 in
theorem bcj_all : ∀ n : Fin 256, bcj (n.val : Int) = bc8 (n.val : Int) := by decide +kernel
theorem bcj_eq {x : Int} (h0 : 0 ≤ x) (h1 : x ≤ 255) : bcj x = bc8 x := by
  have h := bcj_all ⟨x.toNat, by omega⟩
  have e : ((x.toNat : Nat) : Int) = x := by omega
  simp only [e] at h
  exact h
theorem bc8_in (x : Int) : 0 ≤ bc8 x ∧ bc8 x ≤ 8 := by
  unfold bc8
  constructor <;> (repeat' split) <;> omega
/-- what a thing is worth -/
def chW (w c : Int) : Int := if 0 < w - w.tdiv 10 * bc8 c then w - w.tdiv 10 * bc8 c else 0
def asV (c v : Int) : Int := if hb c 0 then v.tdiv 2 else v
def lidW (c : Int) : Int := if hb c 7 then 0 else 50
def TW (k w c : Int) : Int := if k = 1 then chW w c else if k = 2 then asV c (chW w c) else if k = 3 then asV c (chW w c) + lidW c else if k = 4 then (if 200 < w then 200 else w) else w
theorem td_in {w : Int} (h0 : 0 ≤ w) (k : Int) (hk : 0 < k) : 0 ≤ w.tdiv k ∧ w.tdiv k ≤ w := by
  rw [Int.tdiv_eq_ediv_of_nonneg h0]
  exact ⟨Int.ediv_nonneg h0 (by omega), Int.ediv_le_self k h0⟩
theorem chW_in {w : Int} (h0 : 0 ≤ w) (c : Int) : 0 ≤ chW w c ∧ chW w c ≤ w := by
  unfold chW
  have h1 := td_in h0 10 (by decide)
  have h2 := bc8_in c
  have h3 := Int.mul_nonneg h1.1 h2.1
  split <;> omega
theorem asV_in {v : Int} (h0 : 0 ≤ v) (c : Int) : 0 ≤ asV c v ∧ asV c v ≤ v := by
  unfold asV
  have h1 := td_in h0 2 (by decide)
  split <;> omega
theorem lidW_in (c : Int) : 0 ≤ lidW c ∧ lidW c ≤ 50 := by unfold lidW; split <;> omega
theorem TW_in {w : Int} (k c : Int) (h0 : 0 ≤ w) (h1 : w ≤ 999) : 0 ≤ TW k w c ∧ TW k w c ≤ 1049 := by
  unfold TW
  have a := chW_in h0 c
  have b := asV_in a.1 c
  have d := lidW_in c
  (repeat' split) <;> omega
theorem mulb {a b : Int} (h0 : 0 ≤ a) (h1 : a ≤ 999) (g0 : 0 ≤ b) (g1 : b ≤ 8) : 0 ≤ a * b ∧ a * b ≤ 7992 := by
  refine ⟨Int.mul_nonneg h0 g0, ?_⟩
  have h := Int.mul_le_mul h1 g1 g0 (by decide : (0 : Int) ≤ 999)
  omega
theorem TW_0 {k w c : Int} (h : k < 1 ∨ 4 < k) : TW k w c = w := by unfold TW; rw [if_neg (by omega), if_neg (by omega), if_neg (by omega), if_neg (by omega)]
theorem TW_1 {k w c : Int} (h : k = 1) : TW k w c = chW w c := by unfold TW; rw [if_pos h]
theorem TW_2 {k w c : Int} (h : k = 2) : TW k w c = asV c (chW w c) := by unfold TW; rw [if_neg (by omega), if_pos h]
theorem TW_3 {k w c : Int} (h : k = 3) : TW k w c = asV c (chW w c) + lidW c := by unfold TW; rw [if_neg (by omega), if_neg (by omega), if_pos h]
theorem TW_4 {k w c : Int} (h : k = 4) : TW k w c = if 200 < w then 200 else w := by unfold TW; rw [if_neg (by omega), if_neg (by omega), if_neg (by omega), if_pos h]
section GMX
variable {p : Program} {l : Launch} {e : Env} {R : Room} {s : State} {m : MethodId} {args : Array Value} {below : List Frame} {meth : Method} {c : Code} {D : va_G} {cy : Nat → ClassId} {q : Nat → Nat} {A : Nat → Prop} {cells slots nL : Nat} {Q : State → Prop} {cc : ByteArray} {own : String}
variable {pc : Nat} {L : List (Nat × gV)} {st : List gV} {M : Mem}
theorem g_mmax {idx : Nat} {x y : Int} (hK : OK p s m args c D cy q A nL cc own) (w : WT own idx Lib.Math.max.name Lib.Math.max.code 2 (some .int)) (hx : inI x) (hy : inI y) (hR : 1 ≤ R.frames ∧ 40 ≤ R.locals) (hc : cells ≤ R.cells ∧ slots ≤ R.slots) (hW : (st.map gw).sum ≤ 8) (d : decode cc pc = .ok (.invokestatic idx, 3)) (k : G p l e R s m args below meth c D cy q A cells slots nL Q (pc + 3) L (gI (if x < y then y else x) :: st) M) : G p l e R s m args below meth c D cy q A cells slots nL Q pc L (gI y :: gI x :: st) M := by
  intro H locs ls hw hP hD hS hl
  refine va_mmax hK.1.1 hK.1.2.1 (hK.1.2.2.1.trans hl.1.symm) hK.1.2.2.2.1 (hK.1.2.2.2.2 _ w.1) (hK.1.2.2.2.2 _ w.2.1) (hK.1.2.2.2.2 _ w.2.2.1) (hK.1.2.2.2.2 _ w.2.2.2) hR.1 (by rw [gcat]; omega) hc.1 hc.2 d (wk_int ?_ (k H locs ls hw hP hD hS hl))
  by_cases h : x < y
  · rw [if_pos h, if_pos ((oi_lt hx hy).mpr h)]
  · rw [if_neg h, if_neg (fun z => h ((oi_lt hx hy).mp z))]
theorem g_mmin {idx : Nat} {x y : Int} (hK : OK p s m args c D cy q A nL cc own) (w : WT own idx Lib.Math.min.name Lib.Math.min.code 2 (some .int)) (hx : inI x) (hy : inI y) (hR : 1 ≤ R.frames ∧ 40 ≤ R.locals) (hc : cells ≤ R.cells ∧ slots ≤ R.slots) (hW : (st.map gw).sum ≤ 8) (d : decode cc pc = .ok (.invokestatic idx, 3)) (k : G p l e R s m args below meth c D cy q A cells slots nL Q (pc + 3) L (gI (if y < x then y else x) :: st) M) : G p l e R s m args below meth c D cy q A cells slots nL Q pc L (gI y :: gI x :: st) M := by
  intro H locs ls hw hP hD hS hl
  refine va_mmin hK.1.1 hK.1.2.1 (hK.1.2.2.1.trans hl.1.symm) hK.1.2.2.2.1 (hK.1.2.2.2.2 _ w.1) (hK.1.2.2.2.2 _ w.2.1) (hK.1.2.2.2.2 _ w.2.2.1) (hK.1.2.2.2.2 _ w.2.2.2) hR.1 (by rw [gcat]; omega) hc.1 hc.2 d (wk_int ?_ (k H locs ls hw hP hD hS hl))
  by_cases h : y < x
  · rw [if_pos h, if_pos ((oi_lt hy hx).mpr h)]
  · rw [if_neg h, if_neg (fun z => h ((oi_lt hy hx).mp z))]
end GMX
/-- how many are left -/
def cntL (b : Nat → Int) : Nat → Int
  | 0 => 0
  | n + 1 => cntL b n + (if b n = -1 then 1 else 0)
/-- the things of now, row by row -/
def thOK (M : Mem) : Prop := ∀ j : Nat, j < 30 → (0 ≤ M 7 j ∧ M 7 j ≤ 5) ∧ (0 ≤ M 8 j ∧ M 8 j ≤ 999) ∧ (0 ≤ M 9 j ∧ M 9 j ≤ 255) ∧ (-1 ≤ M 10 j ∧ M 10 j ≤ 999) ∧ (-1 ≤ M 11 j ∧ M 11 j ≤ 11) ∧ (-1 ≤ M 12 j ∧ M 12 j ≤ 999)
theorem thK {M : Mem} (h : thOK M) {j : Nat} (hj : j < 30) : 0 ≤ M 7 j ∧ M 7 j ≤ 5 := (h j hj).1
theorem thW {M : Mem} (h : thOK M) {j : Nat} (hj : j < 30) : 0 ≤ M 8 j ∧ M 8 j ≤ 999 := (h j hj).2.1
theorem thC {M : Mem} (h : thOK M) {j : Nat} (hj : j < 30) : 0 ≤ M 9 j ∧ M 9 j ≤ 255 := (h j hj).2.2.1
theorem thP {M : Mem} (h : thOK M) {j : Nat} (hj : j < 30) : -1 ≤ M 10 j ∧ M 10 j ≤ 999 := (h j hj).2.2.2.1
theorem thB {M : Mem} (h : thOK M) {j : Nat} (hj : j < 30) : -1 ≤ M 11 j ∧ M 11 j ≤ 11 := (h j hj).2.2.2.2.1
theorem thD {M : Mem} (h : thOK M) {j : Nat} (hj : j < 30) : -1 ≤ M 12 j ∧ M 12 j ≤ 999 := (h j hj).2.2.2.2.2
theorem tn30 {t : Int} (h0 : 0 ≤ t) (h1 : t < 30) : t.toNat < 30 := by omega
/-- the worth of all that are left of kinds -/
def sumL (k w c b : Nat → Int) (ks : Int) : Nat → Int
  | 0 => 0
  | n + 1 => sumL k w c b ks n + (if b n = -1 ∧ hb ks (k n) then TW (k n) (w n) (c n) else 0)
/-- a kind is, or stands under, another -/
def undr (k a : Int) : Prop := a = 0 ∨ k = a ∨ (a = 1 ∧ (k = 2 ∨ k = 3)) ∨ (a = 2 ∧ k = 3)
/-- the dearest of what is left, of kinds, that has no hall yet: the last of several -/
def dear (k w c b s : Nat → Int) (ks : Int) : Nat → Int × Int
  | 0 => (-1, 0)
  | n + 1 => if b n = -1 ∧ s n = -1 ∧ hb ks (k n) ∧ (dear k w c b s ks n).2 ≤ TW (k n) (w n) (c n) then ((n : Int), TW (k n) (w n) (c n)) else dear k w c b s ks n
theorem dear_in {k w c b s : Nat → Int} {ks : Int} (hw : ∀ j, j < 30 → 0 ≤ w j ∧ w j ≤ 999) : ∀ n, n ≤ 30 → (-1 ≤ (dear k w c b s ks n).1 ∧ (dear k w c b s ks n).1 < n) ∧ 0 ≤ (dear k w c b s ks n).2 ∧ (dear k w c b s ks n).2 ≤ 1049
  | 0, _ => by simp [dear]
  | n + 1, h => by
    have ih := dear_in (k := k) (c := c) (b := b) (s := s) (ks := ks) hw n (by omega)
    have t := TW_in (k n) (c n) (hw n (by omega)).1 (hw n (by omega)).2
    unfold dear
    split
    · refine ⟨⟨?_, ?_⟩, t⟩ <;> show _ <;> simp only <;> omega
    · exact ⟨⟨ih.1.1, by omega⟩, ih.2⟩
def wrd (a k w c : Int) : Int := if a = 1 then bc8 c else if a = 2 then (if hb c 0 then 1 else 0) else if a = 3 then lidW c else if a = 4 then (if 0 < w - 200 then w - 200 else 0) else if a = 5 then w else TW k w c
theorem wrd_0 {a k w c : Int} (h : a < 1 ∨ 5 < a) : wrd a k w c = TW k w c := by unfold wrd; rw [if_neg (by omega), if_neg (by omega), if_neg (by omega), if_neg (by omega), if_neg (by omega)]
theorem wrd_1 {a k w c : Int} (h : a = 1) : wrd a k w c = bc8 c := by unfold wrd; rw [if_pos h]
theorem wrd_2 {a k w c : Int} (h : a = 2) : wrd a k w c = if hb c 0 then 1 else 0 := by unfold wrd; rw [if_neg (by omega), if_pos h]
theorem wrd_3 {a k w c : Int} (h : a = 3) : wrd a k w c = lidW c := by unfold wrd; rw [if_neg (by omega), if_neg (by omega), if_pos h]
theorem wrd_4 {a k w c : Int} (h : a = 4) : wrd a k w c = if 0 < w - 200 then w - 200 else 0 := by unfold wrd; rw [if_neg (by omega), if_neg (by omega), if_neg (by omega), if_pos h]
theorem wrd_5 {a k w c : Int} (h : a = 5) : wrd a k w c = w := by unfold wrd; rw [if_neg (by omega), if_neg (by omega), if_neg (by omega), if_neg (by omega), if_pos h]
theorem cp_0 {M : Mem} {k sp dp : Nat} {f : Nat → Int} : cp M k f sp dp 0 = M := by
  funext a
  unfold cp
  by_cases h : a = k
  · rw [if_pos h, h]
    funext j
    unfold cpf
    rw [if_neg (by omega)]
  · rw [if_neg h]
theorem cp_s {M : Mem} {k n : Nat} {v : Int} : up (cp M k (fun _ => v) 0 0 n) k n v = cp M k (fun _ => v) 0 0 (n + 1) := by
  funext a
  by_cases h : a = k
  · subst h
    rw [up_k, cp_k, cp_k]
    funext j
    unfold us cpf
    by_cases c : j = n
    · rw [if_pos c, if_pos (by omega)]
    · rw [if_neg c]
      by_cases c2 : 0 ≤ j ∧ j < 0 + n
      · rw [if_pos c2, if_pos (by omega)]
      · rw [if_neg c2, if_neg (by omega)]
  · rw [up_o h, cp_o h, cp_o h]
/-- a row all of one value -/
abbrev fil (M : Mem) (k n : Nat) (v : Int) : Mem := cp M k (fun _ => v) 0 0 n
theorem fil_at {M : Mem} {k n : Nat} {v : Int} {j : Nat} (h : j < n) : fil M k n v k j = v := by
  show cp M k (fun _ => v) 0 0 n k j = v
  rw [cp_k]
  unfold cpf
  rw [if_pos (by omega)]
/-- a row replaced -/
def sr (M : Mem) (k : Nat) (f : Nat → Int) : Mem := fun a => if a = k then f else M a
theorem sr_k {M : Mem} {k : Nat} {f : Nat → Int} : sr M k f k = f := by simp [sr]
theorem sr_o {M : Mem} {k a : Nat} {f : Nat → Int} (h : a ≠ k) : sr M k f a = M a := by simp [sr, h]
theorem sr_up {M : Mem} {k j : Nat} {f : Nat → Int} {x : Int} : up (sr M k f) k j x = sr M k (us f j x) := by
  funext a
  by_cases h : a = k
  · subst h; rw [up_k, sr_k, sr_k]
  · rw [up_o h, sr_o h, sr_o h]
theorem sr_cp {M : Mem} {k sp dp n : Nat} {g : Nat → Int} : cp M k g sp dp n = sr M k (cpf g (M k) sp dp n) := by
  funext a
  by_cases h : a = k
  · subst h; rw [cp_k, sr_k]
  · rw [cp_o h, sr_o h]
theorem sr_self {M : Mem} {k : Nat} : sr M k (M k) = M := by
  funext a
  by_cases h : a = k
  · subst h; rw [sr_k]
  · rw [sr_o h]
/-- which kinds a hall likes -/
def lik (h : Int) : Int := if h = 1 then 48 else if h = 2 then 14 else 63
def shP (k w c b s : Nat → Int) (n : Nat) (tk : Int) : Int := if (dear k w c b s (lik tk) n).1 = -1 then (dear k w c b s 63 n).1 else (dear k w c b s (lik tk) n).1
def shS (k w c b : Nat → Int) (n : Nat) (tk : Int) (s : Nat → Int) : Nat → Int := if shP k w c b s n tk = -1 then s else us s (shP k w c b s n tk).toNat tk
def shA (k w c b : Nat → Int) (n : Nat) (first : Int) (s0 : Nat → Int) : Nat → Nat → Int
  | 0 => s0
  | m + 1 => shS k w c b n ((first + (m : Int)).tmod 3) (shA k w c b n first s0 m)
theorem tm3 {x : Int} (h : 0 ≤ x) : 0 ≤ x.tmod 3 ∧ x.tmod 3 ≤ 2 := by
  rw [Int.tmod_eq_emod_of_nonneg h]
  omega
theorem cntL_in (b : Nat → Int) : ∀ n : Nat, 0 ≤ cntL b n ∧ cntL b n ≤ n
  | 0 => by simp [cntL]
  | n + 1 => by
    have ih := cntL_in b n
    unfold cntL
    split <;> omega
theorem lik_STF {h : Int} (h0 : 0 ≤ h) (h1 : h ≤ 2) : STF 4 h.toNat = lik h := by
  rcases (show h = 0 ∨ h = 1 ∨ h = 2 by omega) with rfl | rfl | rfl <;> rfl
theorem shS_1 {k w c b s : Nat → Int} {n : Nat} {tk d : Int} (h : d = (dear k w c b s (lik tk) n).1) (hd : ¬ d = -1) : shS k w c b n tk s = us s d.toNat tk := by
  have e : shP k w c b s n tk = d := by unfold shP; rw [← h, if_neg hd]
  unfold shS
  rw [e, if_neg hd]
theorem shS_2 {k w c b s : Nat → Int} {n : Nat} {tk d d2 : Int} (h : d = (dear k w c b s (lik tk) n).1) (hd : d = -1) (h2 : d2 = (dear k w c b s 63 n).1) (hd2 : ¬ d2 = -1) : shS k w c b n tk s = us s d2.toNat tk := by
  have e : shP k w c b s n tk = d2 := by unfold shP; rw [← h, if_pos hd, h2]
  unfold shS
  rw [e, if_neg hd2]
theorem shS_3 {k w c b s : Nat → Int} {n : Nat} {tk d d2 : Int} (h : d = (dear k w c b s (lik tk) n).1) (hd : d = -1) (h2 : d2 = (dear k w c b s 63 n).1) (hd2 : d2 = -1) : shS k w c b n tk s = s := by
  have e : shP k w c b s n tk = d2 := by unfold shP; rw [← h, if_pos hd, h2]
  unfold shS
  rw [e, if_pos hd2]
theorem stf_in (i : Nat) : ∀ j, inI (STF i j) := by
  intro j
  have h : ∀ (l : List Int), (∀ x ∈ l, inI x) → inI (l.getD j 0) := by
    intro l hl
    rw [List.getD_eq_getElem?_getD]
    cases hg : l[j]? with
    | none => exact ⟨by decide, by decide⟩
    | some x => exact hl x (List.mem_of_getElem? hg)
  match i with
  | 0 => exact h [100, 50, 1, 0, 999] (by decide)
  | 1 => exact h [0, 0, 1, 0, 0] (by decide)
  | 2 => exact h [200, 200, 50, 999, 999] (by decide)
  | 3 => exact h [-1, 0, 1, 2, 0, 0] (by decide)
  | 4 => exact h [63, 48, 14] (by decide)
  | n + 5 =>
    show inI 0
    exact ⟨by decide, by decide⟩
/-- a part of a law, or of none -/
def lpt (ps : Nat → Int) (n lw x : Int) : Int := if 0 ≤ lw ∧ lw < n then ps (lw * 5 + x).toNat else STF 0 x.toNat
theorem lpt_1 {ps : Nat → Int} {n lw x : Int} (h : 0 ≤ lw ∧ lw < n) : lpt ps n lw x = ps (lw * 5 + x).toNat := by unfold lpt; rw [if_pos h]
theorem lpt_0 {ps : Nat → Int} {n lw x : Int} (h : ¬ (0 ≤ lw ∧ lw < n)) : lpt ps n lw x = STF 0 x.toNat := by unfold lpt; rw [if_neg h]
/-- one sighting may be the vase of a later one -/
def mbe (y c g b : Nat → Int) (i j : Nat) : Prop := y i < y j ∧ jand (c i) (jxor (c j) (-1)) = 0 ∧ (b i = -1 ∨ g j = -1 ∨ b i = g j)
