/-! sets of things as ints -/
theorem i32_nat {z : Int32} (h : z.toBitVec.toNat < 2147483648) : z.toInt = z.toBitVec.toNat := BitVec.toInt_eq_toNat_of_lt (by omega)
theorem oi_nat {a : Int} (h0 : 0 ≤ a) (h1 : a < 4294967296) : (Int32.ofInt a).toBitVec.toNat = a.toNat := by
  show (BitVec.ofInt 32 a).toNat = _
  rw [BitVec.toNat_ofInt, Int.emod_eq_of_lt h0 (by omega)]
theorem jor_nat {a b : Int} (ha : 0 ≤ a ∧ a < 2147483648) (hb : 0 ≤ b ∧ b < 2147483648) : jor a b = ((a.toNat ||| b.toNat : Nat) : Int) := by
  unfold jor
  have e : (Int32.ofInt a ||| Int32.ofInt b).toBitVec.toNat = a.toNat ||| b.toNat := by
    rw [Int32.toBitVec_or, BitVec.toNat_or, oi_nat ha.1 (by omega), oi_nat hb.1 (by omega)]
  have l : a.toNat ||| b.toNat < 2 ^ 31 := Nat.or_lt_two_pow (by omega) (by omega)
  rw [i32_nat (by rw [e]; exact l), e]
theorem jand_nat {a b : Int} (ha : 0 ≤ a ∧ a < 2147483648) (hb : 0 ≤ b ∧ b < 2147483648) : jand a b = ((a.toNat &&& b.toNat : Nat) : Int) := by
  unfold jand
  have e : (Int32.ofInt a &&& Int32.ofInt b).toBitVec.toNat = a.toNat &&& b.toNat := by
    rw [Int32.toBitVec_and, BitVec.toNat_and, oi_nat ha.1 (by omega), oi_nat hb.1 (by omega)]
  have l : a.toNat &&& b.toNat < 2 ^ 31 := Nat.and_lt_two_pow _ (by omega)
  rw [i32_nat (by rw [e]; exact l), e]
theorem jushr_bv (a k : Int) : (jushr a k) = (((Int32.ofInt a).toUInt32 >>> ((Int32.ofInt k).toUInt32 &&& Int32.toUInt32 31)).toInt32.toBitVec).toInt := rfl
theorem jushr_nat {a : Int} (ha : 0 ≤ a ∧ a < 2147483648) (k : Int) (n : Nat) (hk : ((Int32.ofInt k).toUInt32 &&& Int32.toUInt32 31) = UInt32.ofNat n) (hn : n < 32) : jushr a k = ((a.toNat / 2 ^ n : Nat) : Int) := by
  have e : (((Int32.ofInt a).toUInt32 >>> ((Int32.ofInt k).toUInt32 &&& Int32.toUInt32 31)).toInt32.toBitVec).toNat = a.toNat / 2 ^ n := by
    rw [hk]
    show ((Int32.ofInt a).toUInt32 >>> UInt32.ofNat n).toNat = _
    rw [UInt32.toNat_shiftRight, Nat.shiftRight_eq_div_pow]
    congr 1
    · exact oi_nat ha.1 (by omega)
    · rw [UInt32.toNat_ofNat', Nat.mod_eq_of_lt (a := n) (by omega), Nat.mod_eq_of_lt hn]
  have l : a.toNat / 2 ^ n < 2147483648 := Nat.lt_of_le_of_lt (Nat.div_le_self _ _) (by omega)
  rw [jushr_bv, BitVec.toInt_eq_toNat_of_lt (by rw [e]; omega), e]
theorem jshl1a : ∀ t : Fin 31, jshl 1 (t.val : Int) = ((2 ^ t.val : Nat) : Int) := by decide +kernel
theorem jshl1 {t : Int} (h0 : 0 ≤ t) (h1 : t < 31) : jshl 1 t = ((2 ^ t.toNat : Nat) : Int) := by
  have h := jshl1a ⟨t.toNat, by omega⟩
  have e : ((t.toNat : Nat) : Int) = t := by omega
  simp only [e] at h
  exact h
/-- a set that gets a greater one -/
theorem jor_sh {w t : Int} (h0 : 0 ≤ t) (h1 : t < 31) (hw : 0 ≤ w) (hw1 : w < ((2 ^ t.toNat : Nat) : Int)) : jor w (jshl 1 t) = w + ((2 ^ t.toNat : Nat) : Int) := by
  have p : 2 ^ t.toNat ≤ 2 ^ 30 := Nat.pow_le_pow_right (by omega) (by omega)
  rw [jshl1 h0 h1, jor_nat ⟨hw, by omega⟩ ⟨by omega, by omega⟩, Int.toNat_natCast, Nat.or_comm]
  have e := Nat.two_pow_add_eq_or_of_lt (b := w.toNat) (i := t.toNat) (by omega) 1
  rw [Nat.mul_one] at e
  rw [← e]
  omega
theorem land_split (u p : Nat) {v q : Nat} (hv : v < 256) (hq : q < 256) : (256 * u + v) &&& (256 * p + q) = 256 * (u &&& p) + (v &&& q) := by
  have hvq : v &&& q < 2 ^ 8 := Nat.and_lt_two_pow _ hq
  refine Nat.eq_of_testBit_eq (fun i => ?_)
  have e1 := Nat.testBit_two_pow_mul_add u (i := 8) (b := v) hv i
  have e2 := Nat.testBit_two_pow_mul_add p (i := 8) (b := q) hq i
  have e3 := Nat.testBit_two_pow_mul_add (u &&& p) (i := 8) hvq i
  rw [show (2 : Nat) ^ 8 = 256 from rfl] at e1 e2 e3
  rw [Nat.testBit_and, e1, e2, e3]
  by_cases c : i < 8
  · rw [if_pos c, if_pos c, if_pos c, Nat.testBit_and]
  · rw [if_neg c, if_neg c, if_neg c, Nat.testBit_and]
theorem by85 : ∀ (c : Fin 2) (v : Fin 256), (128 * c.val + v.val / 2) &&& 85 = (v.val / 2) &&& 85 := by decide +kernel
theorem by51 : ∀ (c : Fin 4) (v : Fin 256), (64 * c.val + v.val / 4) &&& 51 = (v.val / 4) &&& 51 := by decide +kernel
theorem st85 (u p : Nat) {v : Nat} (hv : v < 256) : (256 * u + v) / 2 &&& (256 * p + 85) = 256 * (u / 2 &&& p) + (v / 2 &&& 85) := by
  rw [show (256 * u + v) / 2 = 256 * (u / 2) + (128 * (u % 2) + v / 2) by omega, land_split _ _ (by omega) (by omega)]
  rw [by85 ⟨u % 2, by omega⟩ ⟨v, hv⟩]
theorem st51 (u p : Nat) {v : Nat} (hv : v < 256) : (256 * u + v) / 4 &&& (256 * p + 51) = 256 * (u / 4 &&& p) + (v / 4 &&& 51) := by
  rw [show (256 * u + v) / 4 = 256 * (u / 4) + (64 * (u % 4) + v / 4) by omega, land_split _ _ (by omega) (by omega)]
  rw [by51 ⟨u % 4, by omega⟩ ⟨v, hv⟩]
def gA1 (v : Nat) : Nat := v - (v / 2 &&& 85)
def gB1 (v : Nat) : Nat := (gA1 v &&& 51) + (gA1 v / 4 &&& 51)
def gC1 (v : Nat) : Nat := (gB1 v + gB1 v / 16) % 16
theorem g1_all : ∀ v : Fin 256, ((v.val / 2 &&& 85) ≤ v.val ∧ gA1 v.val < 256 ∧ gB1 v.val ≤ 68) ∧ gB1 v.val % 16 ≤ 4 ∧ gC1 v.val ≤ 8 ∧ (gC1 v.val : Int) = bc8 (v.val : Int) := by decide +kernel
def bcn (x : Nat) : Nat :=
  let a := x - (x / 2 &&& 1431655765)
  let b := (a &&& 858993459) + (a / 4 &&& 858993459)
  let c := (b + b / 16) &&& 252645135
  let d := c + c / 256
  let e := d + d / 65536
  e &&& 63
theorem land15 {v : Nat} : v &&& 15 = v % 16 := Nat.and_two_pow_sub_one_eq_mod v 4
theorem bcn_eq {x0 x1 x2 x3 : Nat} (h0 : x0 < 256) (h1 : x1 < 256) (h2 : x2 < 256) (h3 : x3 < 256) : bcn (256 * (256 * (256 * x3 + x2) + x1) + x0) = gC1 x0 + gC1 x1 + gC1 x2 + gC1 x3 := by
  have g0 := g1_all ⟨x0, h0⟩
  have g1 := g1_all ⟨x1, h1⟩
  have g2 := g1_all ⟨x2, h2⟩
  have g3 := g1_all ⟨x3, h3⟩
  simp only at g0 g1 g2 g3
  have ea : (256 * (256 * (256 * x3 + x2) + x1) + x0) - ((256 * (256 * (256 * x3 + x2) + x1) + x0) / 2 &&& 1431655765) = 256 * (256 * (256 * gA1 x3 + gA1 x2) + gA1 x1) + gA1 x0 := by
    rw [show (1431655765 : Nat) = 256 * (256 * (256 * 85 + 85) + 85) + 85 from rfl, st85 _ _ h0, st85 _ _ h1, st85 _ _ h2]
    unfold gA1
    omega
  have eb : (256 * (256 * (256 * gA1 x3 + gA1 x2) + gA1 x1) + gA1 x0 &&& 858993459) + ((256 * (256 * (256 * gA1 x3 + gA1 x2) + gA1 x1) + gA1 x0) / 4 &&& 858993459) = 256 * (256 * (256 * gB1 x3 + gB1 x2) + gB1 x1) + gB1 x0 := by
    rw [show (858993459 : Nat) = 256 * (256 * (256 * 51 + 51) + 51) + 51 from rfl, st51 _ _ g0.1.2.1, st51 _ _ g1.1.2.1, st51 _ _ g2.1.2.1, land_split _ _ g0.1.2.1 (by decide), land_split _ _ g1.1.2.1 (by decide), land_split _ _ g2.1.2.1 (by decide)]
    unfold gB1
    omega
  have ec : (256 * (256 * (256 * gB1 x3 + gB1 x2) + gB1 x1) + gB1 x0 + (256 * (256 * (256 * gB1 x3 + gB1 x2) + gB1 x1) + gB1 x0) / 16) &&& 252645135 = 256 * (256 * (256 * gC1 x3 + gC1 x2) + gC1 x1) + gC1 x0 := by
    rw [show 256 * (256 * (256 * gB1 x3 + gB1 x2) + gB1 x1) + gB1 x0 + (256 * (256 * (256 * gB1 x3 + gB1 x2) + gB1 x1) + gB1 x0) / 16 = 256 * (256 * (256 * (gB1 x3 + gB1 x3 / 16) + (gB1 x2 + gB1 x2 / 16 + 16 * (gB1 x3 % 16))) + (gB1 x1 + gB1 x1 / 16 + 16 * (gB1 x2 % 16))) + (gB1 x0 + gB1 x0 / 16 + 16 * (gB1 x1 % 16)) by omega]
    rw [show (252645135 : Nat) = 256 * (256 * (256 * 15 + 15) + 15) + 15 from rfl, land_split _ _ (by omega) (by decide), land_split _ _ (by omega) (by decide), land_split _ _ (by omega) (by decide)]
    rw [land15, land15, land15, land15]
    unfold gC1
    omega
  unfold bcn
  simp only
  rw [ea, eb, ec]
  generalize gC1 x0 = c0 at *
  generalize gC1 x1 = c1 at *
  generalize gC1 x2 = c2 at *
  generalize gC1 x3 = c3 at *
  have k0 := g0.2.2.1
  have k1 := g1.2.2.1
  have k2 := g2.2.2.1
  have k3 := g3.2.2.1
  clear ea eb ec g0 g1 g2 g3 h0 h1 h2 h3
  have d1 : (256 * (256 * (256 * c3 + c2) + c1) + c0) / 256 = 256 * (256 * c3 + c2) + c1 := by omega
  rw [d1]
  have d2 : (256 * (256 * (256 * c3 + c2) + c1) + c0 + (256 * (256 * c3 + c2) + c1)) / 65536 = 256 * c3 + c2 + c3 := by omega
  rw [d2, show (63 : Nat) = 2 ^ 6 - 1 from rfl, Nat.and_two_pow_sub_one_eq_mod]
  omega
/-- how many of a set -/
def sz (x : Int) : Int := bc8 (x % 256) + bc8 (x / 256 % 256) + bc8 (x / 65536 % 256) + bc8 (x / 16777216 % 256)
theorem ad_and {a : Nat} (ha : a < 2147483648) (m : Nat) (hm : m < 2147483648) : jand (a : Int) (m : Int) = ((a &&& m : Nat) : Int) := by
  rw [jand_nat ⟨by omega, by omega⟩ ⟨by omega, by omega⟩]
  simp only [Int.toNat_natCast]
theorem sh_and {a : Nat} (ha : a < 2147483648) (k : Int) (n : Nat) (hk : ((Int32.ofInt k).toUInt32 &&& Int32.toUInt32 31) = UInt32.ofNat n) (hn : n < 32) (m : Nat) (hm : m < 2147483648) : jand (jushr (a : Int) k) (m : Int) = ((a / 2 ^ n &&& m : Nat) : Int) := by
  have l : a / 2 ^ n ≤ a := Nat.div_le_self _ _
  have e := jushr_nat (a := (a : Int)) ⟨by omega, by omega⟩ k n hk hn
  rw [Int.toNat_natCast] at e
  rw [e]
  exact ad_and (Nat.lt_of_le_of_lt l ha) m hm
theorem bcj_nat {x : Nat} (h1 : x < 2147483648) : bcj (x : Int) = ((bcn x : Nat) : Int) := by
  have a0 : x / 2 &&& 1431655765 ≤ x / 2 := Nat.and_le_left
  have ea : (x : Int) - jand (jushr (x : Int) 1) 1431655765 = ((x - (x / 2 &&& 1431655765) : Nat) : Int) := by
    have q := sh_and h1 1 1 rfl (by decide) 1431655765 (by decide)
    rw [show ((1431655765 : Nat) : Int) = 1431655765 from rfl, Nat.pow_one] at q
    rw [q]
    omega
  unfold bcj bcn
  simp only
  rw [ea]
  have ha : x - (x / 2 &&& 1431655765) < 2147483648 := by omega
  generalize x - (x / 2 &&& 1431655765) = a at ha ⊢
  have b0 : a &&& 858993459 ≤ 858993459 := Nat.and_le_right
  have b1 : a / 4 &&& 858993459 ≤ 858993459 := Nat.and_le_right
  have eb : jand (a : Int) 858993459 + jand (jushr (a : Int) 2) 858993459 = (((a &&& 858993459) + (a / 4 &&& 858993459) : Nat) : Int) := by
    have q := sh_and ha 2 2 rfl (by decide) 858993459 (by decide)
    have q2 := ad_and ha 858993459 (by decide)
    rw [show ((858993459 : Nat) : Int) = 858993459 from rfl] at q q2
    rw [show (2 : Nat) ^ 2 = 4 from rfl] at q
    rw [q, q2]
    omega
  rw [eb]
  have hb0 : (a &&& 858993459) + (a / 4 &&& 858993459) ≤ 1717986918 := by omega
  generalize (a &&& 858993459) + (a / 4 &&& 858993459) = b at hb0 ⊢
  have ec : jand ((b : Int) + jushr (b : Int) 4) 252645135 = (((b + b / 16) &&& 252645135 : Nat) : Int) := by
    have q := ad_and (a := b + b / 16) (by omega) 252645135 (by decide)
    rw [jushr_nat ⟨by omega, by omega⟩ 4 4 rfl (by decide), Int.toNat_natCast, show (2 : Nat) ^ 4 = 16 from rfl, ← Int.natCast_add]
    exact q
  rw [ec]
  have hc0 : (b + b / 16) &&& 252645135 ≤ 252645135 := Nat.and_le_right
  generalize (b + b / 16) &&& 252645135 = c at hc0 ⊢
  have ed : (c : Int) + jushr (c : Int) 8 = ((c + c / 256 : Nat) : Int) := by
    rw [jushr_nat ⟨by omega, by omega⟩ 8 8 rfl (by decide), Int.toNat_natCast, show (2 : Nat) ^ 8 = 256 from rfl, ← Int.natCast_add]
  rw [ed]
  have hd0 : c + c / 256 ≤ 300000000 := by omega
  generalize c + c / 256 = d at hd0 ⊢
  have ee : (d : Int) + jushr (d : Int) 16 = ((d + d / 65536 : Nat) : Int) := by
    rw [jushr_nat ⟨by omega, by omega⟩ 16 16 rfl (by decide), Int.toNat_natCast, show (2 : Nat) ^ 16 = 65536 from rfl, ← Int.natCast_add]
  rw [ee]
  exact ad_and (a := d + d / 65536) (by omega) 63 (by decide)
theorem bcj_sz {x : Int} (h0 : 0 ≤ x) (h1 : x < 1073741824) : bcj x = sz x := by
  have e0 := bcj_nat (x := x.toNat) (by omega)
  rw [show ((x.toNat : Nat) : Int) = x by omega] at e0
  rw [e0]
  have e := bcn_eq (x0 := x.toNat % 256) (x1 := x.toNat / 256 % 256) (x2 := x.toNat / 65536 % 256) (x3 := x.toNat / 16777216 % 256) (by omega) (by omega) (by omega) (by omega)
  rw [show 256 * (256 * (256 * (x.toNat / 16777216 % 256) + x.toNat / 65536 % 256) + x.toNat / 256 % 256) + x.toNat % 256 = x.toNat by omega] at e
  rw [e]
  have q := fun v : Fin 256 => (g1_all v).2.2.2
  unfold sz
  rw [show x % 256 = ((x.toNat % 256 : Nat) : Int) by omega, show x / 256 % 256 = ((x.toNat / 256 % 256 : Nat) : Int) by omega, show x / 65536 % 256 = ((x.toNat / 65536 % 256 : Nat) : Int) by omega, show x / 16777216 % 256 = ((x.toNat / 16777216 % 256 : Nat) : Int) by omega]
  rw [← q ⟨_, Nat.mod_lt _ (by decide)⟩, ← q ⟨_, Nat.mod_lt _ (by decide)⟩, ← q ⟨_, Nat.mod_lt _ (by decide)⟩, ← q ⟨_, Nat.mod_lt _ (by decide)⟩]
  simp only [Int.natCast_add]
/-- one more in a set -/
theorem bc8_add : ∀ (r : Fin 8) (v : Fin 256), v.val < 2 ^ r.val → bc8 ((v.val : Int) + ((2 ^ r.val : Nat) : Int)) = bc8 (v.val : Int) + 1 := by decide +kernel
theorem bc8_ad {r : Nat} (hr : r < 8) {v : Int} (h0 : 0 ≤ v) (h1 : v < ((2 ^ r : Nat) : Int)) : bc8 (v + ((2 ^ r : Nat) : Int)) = bc8 v + 1 := by
  have p : 2 ^ r ≤ 2 ^ 7 := Nat.pow_le_pow_right (by omega) (by omega)
  have h := bc8_add ⟨r, hr⟩ ⟨v.toNat, by omega⟩
  have e : ((v.toNat : Nat) : Int) = v := by omega
  simp only [e] at h
  exact h (by omega)
theorem bc8_one : ∀ r : Fin 8, bc8 ((2 ^ r.val : Nat) : Int) = 1 := by decide +kernel
theorem bc8_0 : bc8 0 = 0 := by decide +kernel
theorem sz_add {w : Int} {t : Nat} (ht : t < 30) (h0 : 0 ≤ w) (h1 : w < ((2 ^ t : Nat) : Int)) : sz (w + ((2 ^ t : Nat) : Int)) = sz w + 1 := by
  unfold sz
  rcases (show t = 0 ∨ t = 1 ∨ t = 2 ∨ t = 3 ∨ t = 4 ∨ t = 5 ∨ t = 6 ∨ t = 7 ∨ t = 8 ∨ t = 9 ∨ t = 10 ∨ t = 11 ∨ t = 12 ∨ t = 13 ∨ t = 14 ∨ t = 15 ∨ t = 16 ∨ t = 17 ∨ t = 18 ∨ t = 19 ∨ t = 20 ∨ t = 21 ∨ t = 22 ∨ t = 23 ∨ t = 24 ∨ t = 25 ∨ t = 26 ∨ t = 27 ∨ t = 28 ∨ t = 29 by omega) with rfl | rfl | rfl | rfl | rfl | rfl | rfl | rfl | rfl | rfl | rfl | rfl | rfl | rfl | rfl | rfl | rfl | rfl | rfl | rfl | rfl | rfl | rfl | rfl | rfl | rfl | rfl | rfl | rfl | rfl
  · have p : ((2 ^ 0 : Nat) : Int) = 1 := by decide
    have z : ((2 ^ 0 : Nat) : Int) = 1 := by decide
    rw [p] at h1 ⊢
    rw [show (w + 1) % 256 = w % 256 + ((2 ^ 0 : Nat) : Int) by omega, bc8_ad (by decide) (by omega) (by omega), show (w + 1) / 256 % 256 = w / 256 % 256 by omega, show (w + 1) / 65536 % 256 = w / 65536 % 256 by omega, show (w + 1) / 16777216 % 256 = w / 16777216 % 256 by omega]
    omega
  · have p : ((2 ^ 1 : Nat) : Int) = 2 := by decide
    have z : ((2 ^ 1 : Nat) : Int) = 2 := by decide
    rw [p] at h1 ⊢
    rw [show (w + 2) % 256 = w % 256 + ((2 ^ 1 : Nat) : Int) by omega, bc8_ad (by decide) (by omega) (by omega), show (w + 2) / 256 % 256 = w / 256 % 256 by omega, show (w + 2) / 65536 % 256 = w / 65536 % 256 by omega, show (w + 2) / 16777216 % 256 = w / 16777216 % 256 by omega]
    omega
  · have p : ((2 ^ 2 : Nat) : Int) = 4 := by decide
    have z : ((2 ^ 2 : Nat) : Int) = 4 := by decide
    rw [p] at h1 ⊢
    rw [show (w + 4) % 256 = w % 256 + ((2 ^ 2 : Nat) : Int) by omega, bc8_ad (by decide) (by omega) (by omega), show (w + 4) / 256 % 256 = w / 256 % 256 by omega, show (w + 4) / 65536 % 256 = w / 65536 % 256 by omega, show (w + 4) / 16777216 % 256 = w / 16777216 % 256 by omega]
    omega
  · have p : ((2 ^ 3 : Nat) : Int) = 8 := by decide
    have z : ((2 ^ 3 : Nat) : Int) = 8 := by decide
    rw [p] at h1 ⊢
    rw [show (w + 8) % 256 = w % 256 + ((2 ^ 3 : Nat) : Int) by omega, bc8_ad (by decide) (by omega) (by omega), show (w + 8) / 256 % 256 = w / 256 % 256 by omega, show (w + 8) / 65536 % 256 = w / 65536 % 256 by omega, show (w + 8) / 16777216 % 256 = w / 16777216 % 256 by omega]
    omega
  · have p : ((2 ^ 4 : Nat) : Int) = 16 := by decide
    have z : ((2 ^ 4 : Nat) : Int) = 16 := by decide
    rw [p] at h1 ⊢
    rw [show (w + 16) % 256 = w % 256 + ((2 ^ 4 : Nat) : Int) by omega, bc8_ad (by decide) (by omega) (by omega), show (w + 16) / 256 % 256 = w / 256 % 256 by omega, show (w + 16) / 65536 % 256 = w / 65536 % 256 by omega, show (w + 16) / 16777216 % 256 = w / 16777216 % 256 by omega]
    omega
  · have p : ((2 ^ 5 : Nat) : Int) = 32 := by decide
    have z : ((2 ^ 5 : Nat) : Int) = 32 := by decide
    rw [p] at h1 ⊢
    rw [show (w + 32) % 256 = w % 256 + ((2 ^ 5 : Nat) : Int) by omega, bc8_ad (by decide) (by omega) (by omega), show (w + 32) / 256 % 256 = w / 256 % 256 by omega, show (w + 32) / 65536 % 256 = w / 65536 % 256 by omega, show (w + 32) / 16777216 % 256 = w / 16777216 % 256 by omega]
    omega
  · have p : ((2 ^ 6 : Nat) : Int) = 64 := by decide
    have z : ((2 ^ 6 : Nat) : Int) = 64 := by decide
    rw [p] at h1 ⊢
    rw [show (w + 64) % 256 = w % 256 + ((2 ^ 6 : Nat) : Int) by omega, bc8_ad (by decide) (by omega) (by omega), show (w + 64) / 256 % 256 = w / 256 % 256 by omega, show (w + 64) / 65536 % 256 = w / 65536 % 256 by omega, show (w + 64) / 16777216 % 256 = w / 16777216 % 256 by omega]
    omega
  · have p : ((2 ^ 7 : Nat) : Int) = 128 := by decide
    have z : ((2 ^ 7 : Nat) : Int) = 128 := by decide
    rw [p] at h1 ⊢
    rw [show (w + 128) % 256 = w % 256 + ((2 ^ 7 : Nat) : Int) by omega, bc8_ad (by decide) (by omega) (by omega), show (w + 128) / 256 % 256 = w / 256 % 256 by omega, show (w + 128) / 65536 % 256 = w / 65536 % 256 by omega, show (w + 128) / 16777216 % 256 = w / 16777216 % 256 by omega]
    omega
  · have p : ((2 ^ 8 : Nat) : Int) = 256 := by decide
    have z : ((2 ^ 0 : Nat) : Int) = 1 := by decide
    rw [p] at h1 ⊢
    rw [show (w + 256) % 256 = w % 256 by omega, show (w + 256) / 256 % 256 = w / 256 % 256 + ((2 ^ 0 : Nat) : Int) by omega, bc8_ad (by decide) (by omega) (by omega), show (w + 256) / 65536 % 256 = w / 65536 % 256 by omega, show (w + 256) / 16777216 % 256 = w / 16777216 % 256 by omega]
    omega
  · have p : ((2 ^ 9 : Nat) : Int) = 512 := by decide
    have z : ((2 ^ 1 : Nat) : Int) = 2 := by decide
    rw [p] at h1 ⊢
    rw [show (w + 512) % 256 = w % 256 by omega, show (w + 512) / 256 % 256 = w / 256 % 256 + ((2 ^ 1 : Nat) : Int) by omega, bc8_ad (by decide) (by omega) (by omega), show (w + 512) / 65536 % 256 = w / 65536 % 256 by omega, show (w + 512) / 16777216 % 256 = w / 16777216 % 256 by omega]
    omega
  · have p : ((2 ^ 10 : Nat) : Int) = 1024 := by decide
    have z : ((2 ^ 2 : Nat) : Int) = 4 := by decide
    rw [p] at h1 ⊢
    rw [show (w + 1024) % 256 = w % 256 by omega, show (w + 1024) / 256 % 256 = w / 256 % 256 + ((2 ^ 2 : Nat) : Int) by omega, bc8_ad (by decide) (by omega) (by omega), show (w + 1024) / 65536 % 256 = w / 65536 % 256 by omega, show (w + 1024) / 16777216 % 256 = w / 16777216 % 256 by omega]
    omega
  · have p : ((2 ^ 11 : Nat) : Int) = 2048 := by decide
    have z : ((2 ^ 3 : Nat) : Int) = 8 := by decide
    rw [p] at h1 ⊢
    rw [show (w + 2048) % 256 = w % 256 by omega, show (w + 2048) / 256 % 256 = w / 256 % 256 + ((2 ^ 3 : Nat) : Int) by omega, bc8_ad (by decide) (by omega) (by omega), show (w + 2048) / 65536 % 256 = w / 65536 % 256 by omega, show (w + 2048) / 16777216 % 256 = w / 16777216 % 256 by omega]
    omega
  · have p : ((2 ^ 12 : Nat) : Int) = 4096 := by decide
    have z : ((2 ^ 4 : Nat) : Int) = 16 := by decide
    rw [p] at h1 ⊢
    rw [show (w + 4096) % 256 = w % 256 by omega, show (w + 4096) / 256 % 256 = w / 256 % 256 + ((2 ^ 4 : Nat) : Int) by omega, bc8_ad (by decide) (by omega) (by omega), show (w + 4096) / 65536 % 256 = w / 65536 % 256 by omega, show (w + 4096) / 16777216 % 256 = w / 16777216 % 256 by omega]
    omega
  · have p : ((2 ^ 13 : Nat) : Int) = 8192 := by decide
    have z : ((2 ^ 5 : Nat) : Int) = 32 := by decide
    rw [p] at h1 ⊢
    rw [show (w + 8192) % 256 = w % 256 by omega, show (w + 8192) / 256 % 256 = w / 256 % 256 + ((2 ^ 5 : Nat) : Int) by omega, bc8_ad (by decide) (by omega) (by omega), show (w + 8192) / 65536 % 256 = w / 65536 % 256 by omega, show (w + 8192) / 16777216 % 256 = w / 16777216 % 256 by omega]
    omega
  · have p : ((2 ^ 14 : Nat) : Int) = 16384 := by decide
    have z : ((2 ^ 6 : Nat) : Int) = 64 := by decide
    rw [p] at h1 ⊢
    rw [show (w + 16384) % 256 = w % 256 by omega, show (w + 16384) / 256 % 256 = w / 256 % 256 + ((2 ^ 6 : Nat) : Int) by omega, bc8_ad (by decide) (by omega) (by omega), show (w + 16384) / 65536 % 256 = w / 65536 % 256 by omega, show (w + 16384) / 16777216 % 256 = w / 16777216 % 256 by omega]
    omega
  · have p : ((2 ^ 15 : Nat) : Int) = 32768 := by decide
    have z : ((2 ^ 7 : Nat) : Int) = 128 := by decide
    rw [p] at h1 ⊢
    rw [show (w + 32768) % 256 = w % 256 by omega, show (w + 32768) / 256 % 256 = w / 256 % 256 + ((2 ^ 7 : Nat) : Int) by omega, bc8_ad (by decide) (by omega) (by omega), show (w + 32768) / 65536 % 256 = w / 65536 % 256 by omega, show (w + 32768) / 16777216 % 256 = w / 16777216 % 256 by omega]
    omega
  · have p : ((2 ^ 16 : Nat) : Int) = 65536 := by decide
    have z : ((2 ^ 0 : Nat) : Int) = 1 := by decide
    rw [p] at h1 ⊢
    rw [show (w + 65536) % 256 = w % 256 by omega, show (w + 65536) / 256 % 256 = w / 256 % 256 by omega, show (w + 65536) / 65536 % 256 = w / 65536 % 256 + ((2 ^ 0 : Nat) : Int) by omega, bc8_ad (by decide) (by omega) (by omega), show (w + 65536) / 16777216 % 256 = w / 16777216 % 256 by omega]
    omega
  · have p : ((2 ^ 17 : Nat) : Int) = 131072 := by decide
    have z : ((2 ^ 1 : Nat) : Int) = 2 := by decide
    rw [p] at h1 ⊢
    rw [show (w + 131072) % 256 = w % 256 by omega, show (w + 131072) / 256 % 256 = w / 256 % 256 by omega, show (w + 131072) / 65536 % 256 = w / 65536 % 256 + ((2 ^ 1 : Nat) : Int) by omega, bc8_ad (by decide) (by omega) (by omega), show (w + 131072) / 16777216 % 256 = w / 16777216 % 256 by omega]
    omega
  · have p : ((2 ^ 18 : Nat) : Int) = 262144 := by decide
    have z : ((2 ^ 2 : Nat) : Int) = 4 := by decide
    rw [p] at h1 ⊢
    rw [show (w + 262144) % 256 = w % 256 by omega, show (w + 262144) / 256 % 256 = w / 256 % 256 by omega, show (w + 262144) / 65536 % 256 = w / 65536 % 256 + ((2 ^ 2 : Nat) : Int) by omega, bc8_ad (by decide) (by omega) (by omega), show (w + 262144) / 16777216 % 256 = w / 16777216 % 256 by omega]
    omega
  · have p : ((2 ^ 19 : Nat) : Int) = 524288 := by decide
    have z : ((2 ^ 3 : Nat) : Int) = 8 := by decide
    rw [p] at h1 ⊢
    rw [show (w + 524288) % 256 = w % 256 by omega, show (w + 524288) / 256 % 256 = w / 256 % 256 by omega, show (w + 524288) / 65536 % 256 = w / 65536 % 256 + ((2 ^ 3 : Nat) : Int) by omega, bc8_ad (by decide) (by omega) (by omega), show (w + 524288) / 16777216 % 256 = w / 16777216 % 256 by omega]
    omega
  · have p : ((2 ^ 20 : Nat) : Int) = 1048576 := by decide
    have z : ((2 ^ 4 : Nat) : Int) = 16 := by decide
    rw [p] at h1 ⊢
    rw [show (w + 1048576) % 256 = w % 256 by omega, show (w + 1048576) / 256 % 256 = w / 256 % 256 by omega, show (w + 1048576) / 65536 % 256 = w / 65536 % 256 + ((2 ^ 4 : Nat) : Int) by omega, bc8_ad (by decide) (by omega) (by omega), show (w + 1048576) / 16777216 % 256 = w / 16777216 % 256 by omega]
    omega
  · have p : ((2 ^ 21 : Nat) : Int) = 2097152 := by decide
    have z : ((2 ^ 5 : Nat) : Int) = 32 := by decide
    rw [p] at h1 ⊢
    rw [show (w + 2097152) % 256 = w % 256 by omega, show (w + 2097152) / 256 % 256 = w / 256 % 256 by omega, show (w + 2097152) / 65536 % 256 = w / 65536 % 256 + ((2 ^ 5 : Nat) : Int) by omega, bc8_ad (by decide) (by omega) (by omega), show (w + 2097152) / 16777216 % 256 = w / 16777216 % 256 by omega]
    omega
  · have p : ((2 ^ 22 : Nat) : Int) = 4194304 := by decide
    have z : ((2 ^ 6 : Nat) : Int) = 64 := by decide
    rw [p] at h1 ⊢
    rw [show (w + 4194304) % 256 = w % 256 by omega, show (w + 4194304) / 256 % 256 = w / 256 % 256 by omega, show (w + 4194304) / 65536 % 256 = w / 65536 % 256 + ((2 ^ 6 : Nat) : Int) by omega, bc8_ad (by decide) (by omega) (by omega), show (w + 4194304) / 16777216 % 256 = w / 16777216 % 256 by omega]
    omega
  · have p : ((2 ^ 23 : Nat) : Int) = 8388608 := by decide
    have z : ((2 ^ 7 : Nat) : Int) = 128 := by decide
    rw [p] at h1 ⊢
    rw [show (w + 8388608) % 256 = w % 256 by omega, show (w + 8388608) / 256 % 256 = w / 256 % 256 by omega, show (w + 8388608) / 65536 % 256 = w / 65536 % 256 + ((2 ^ 7 : Nat) : Int) by omega, bc8_ad (by decide) (by omega) (by omega), show (w + 8388608) / 16777216 % 256 = w / 16777216 % 256 by omega]
    omega
  · have p : ((2 ^ 24 : Nat) : Int) = 16777216 := by decide
    have z : ((2 ^ 0 : Nat) : Int) = 1 := by decide
    rw [p] at h1 ⊢
    rw [show (w + 16777216) % 256 = w % 256 by omega, show (w + 16777216) / 256 % 256 = w / 256 % 256 by omega, show (w + 16777216) / 65536 % 256 = w / 65536 % 256 by omega, show (w + 16777216) / 16777216 % 256 = w / 16777216 % 256 + ((2 ^ 0 : Nat) : Int) by omega, bc8_ad (by decide) (by omega) (by omega)]
    omega
  · have p : ((2 ^ 25 : Nat) : Int) = 33554432 := by decide
    have z : ((2 ^ 1 : Nat) : Int) = 2 := by decide
    rw [p] at h1 ⊢
    rw [show (w + 33554432) % 256 = w % 256 by omega, show (w + 33554432) / 256 % 256 = w / 256 % 256 by omega, show (w + 33554432) / 65536 % 256 = w / 65536 % 256 by omega, show (w + 33554432) / 16777216 % 256 = w / 16777216 % 256 + ((2 ^ 1 : Nat) : Int) by omega, bc8_ad (by decide) (by omega) (by omega)]
    omega
  · have p : ((2 ^ 26 : Nat) : Int) = 67108864 := by decide
    have z : ((2 ^ 2 : Nat) : Int) = 4 := by decide
    rw [p] at h1 ⊢
    rw [show (w + 67108864) % 256 = w % 256 by omega, show (w + 67108864) / 256 % 256 = w / 256 % 256 by omega, show (w + 67108864) / 65536 % 256 = w / 65536 % 256 by omega, show (w + 67108864) / 16777216 % 256 = w / 16777216 % 256 + ((2 ^ 2 : Nat) : Int) by omega, bc8_ad (by decide) (by omega) (by omega)]
    omega
  · have p : ((2 ^ 27 : Nat) : Int) = 134217728 := by decide
    have z : ((2 ^ 3 : Nat) : Int) = 8 := by decide
    rw [p] at h1 ⊢
    rw [show (w + 134217728) % 256 = w % 256 by omega, show (w + 134217728) / 256 % 256 = w / 256 % 256 by omega, show (w + 134217728) / 65536 % 256 = w / 65536 % 256 by omega, show (w + 134217728) / 16777216 % 256 = w / 16777216 % 256 + ((2 ^ 3 : Nat) : Int) by omega, bc8_ad (by decide) (by omega) (by omega)]
    omega
  · have p : ((2 ^ 28 : Nat) : Int) = 268435456 := by decide
    have z : ((2 ^ 4 : Nat) : Int) = 16 := by decide
    rw [p] at h1 ⊢
    rw [show (w + 268435456) % 256 = w % 256 by omega, show (w + 268435456) / 256 % 256 = w / 256 % 256 by omega, show (w + 268435456) / 65536 % 256 = w / 65536 % 256 by omega, show (w + 268435456) / 16777216 % 256 = w / 16777216 % 256 + ((2 ^ 4 : Nat) : Int) by omega, bc8_ad (by decide) (by omega) (by omega)]
    omega
  · have p : ((2 ^ 29 : Nat) : Int) = 536870912 := by decide
    have z : ((2 ^ 5 : Nat) : Int) = 32 := by decide
    rw [p] at h1 ⊢
    rw [show (w + 536870912) % 256 = w % 256 by omega, show (w + 536870912) / 256 % 256 = w / 256 % 256 by omega, show (w + 536870912) / 65536 % 256 = w / 65536 % 256 by omega, show (w + 536870912) / 16777216 % 256 = w / 16777216 % 256 + ((2 ^ 5 : Nat) : Int) by omega, bc8_ad (by decide) (by omega) (by omega)]
    omega
theorem sz_in (x : Int) : 0 ≤ sz x ∧ sz x ≤ 32 := by
  have a := bc8_in (x % 256)
  have b := bc8_in (x / 256 % 256)
  have c := bc8_in (x / 65536 % 256)
  have d := bc8_in (x / 16777216 % 256)
  unfold sz
  omega
