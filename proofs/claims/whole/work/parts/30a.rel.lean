/-! the class's cells and the reference's: what they mean is the same -/
def EQ (A B : Mem) : Prop := (B 205 = A 7) ∧ (B 206 = A 8) ∧ (B 207 = A 9) ∧ (B 208 = A 10) ∧ (B 209 = A 11) ∧ (B 210 = A 12) ∧ (B 212 = A 15) ∧ (B 213 = A 16) ∧ (B 214 = A 17) ∧ (B 220 = A 22) ∧ (B 221 = A 23) ∧ (B 222 = A 24) ∧ (B 223 = A 25) ∧ (B 224 = A 26) ∧ (B 226 = A 43) ∧ (B 228 = A 28) ∧ (B 229 = A 29) ∧ (B 230 = A 30) ∧ (B 231 = A 31) ∧ (B 233 = A 36) ∧ (B 234 = A 37) ∧ (B 235 = A 38) ∧ (B 200 3 = A 6 6) ∧ (B 200 10 = A 14 3) ∧ (B 200 14 = A 18 2) ∧ (B 200 18 = A 21 5) ∧ (B 200 24 = A 5 7) ∧ (B 200 26 = A 27 4) ∧ (B 200 31 = A 35 2) ∧ (B 236 0 = A 5 8) ∧ (B 236 1 = A 5 9) ∧ (B 236 2 = A 5 10) ∧ (B 236 3 = A 5 11) ∧ (∀ j : Nat, (j : Int) < 5 * A 18 2 → B 216 j = A 19 j)
theorem eq_e7 {A B : Mem} (h : EQ A B) : B 205 = A 7 := h.1
theorem eq_e8 {A B : Mem} (h : EQ A B) : B 206 = A 8 := h.2.1
theorem eq_e9 {A B : Mem} (h : EQ A B) : B 207 = A 9 := h.2.2.1
theorem eq_e10 {A B : Mem} (h : EQ A B) : B 208 = A 10 := h.2.2.2.1
theorem eq_e11 {A B : Mem} (h : EQ A B) : B 209 = A 11 := h.2.2.2.2.1
theorem eq_e12 {A B : Mem} (h : EQ A B) : B 210 = A 12 := h.2.2.2.2.2.1
theorem eq_e15 {A B : Mem} (h : EQ A B) : B 212 = A 15 := h.2.2.2.2.2.2.1
theorem eq_e16 {A B : Mem} (h : EQ A B) : B 213 = A 16 := h.2.2.2.2.2.2.2.1
theorem eq_e17 {A B : Mem} (h : EQ A B) : B 214 = A 17 := h.2.2.2.2.2.2.2.2.1
theorem eq_e22 {A B : Mem} (h : EQ A B) : B 220 = A 22 := h.2.2.2.2.2.2.2.2.2.1
theorem eq_e23 {A B : Mem} (h : EQ A B) : B 221 = A 23 := h.2.2.2.2.2.2.2.2.2.2.1
theorem eq_e24 {A B : Mem} (h : EQ A B) : B 222 = A 24 := h.2.2.2.2.2.2.2.2.2.2.2.1
theorem eq_e25 {A B : Mem} (h : EQ A B) : B 223 = A 25 := h.2.2.2.2.2.2.2.2.2.2.2.2.1
theorem eq_e26 {A B : Mem} (h : EQ A B) : B 224 = A 26 := h.2.2.2.2.2.2.2.2.2.2.2.2.2.1
theorem eq_e43 {A B : Mem} (h : EQ A B) : B 226 = A 43 := h.2.2.2.2.2.2.2.2.2.2.2.2.2.2.1
theorem eq_e28 {A B : Mem} (h : EQ A B) : B 228 = A 28 := h.2.2.2.2.2.2.2.2.2.2.2.2.2.2.2.1
theorem eq_e29 {A B : Mem} (h : EQ A B) : B 229 = A 29 := h.2.2.2.2.2.2.2.2.2.2.2.2.2.2.2.2.1
theorem eq_e30 {A B : Mem} (h : EQ A B) : B 230 = A 30 := h.2.2.2.2.2.2.2.2.2.2.2.2.2.2.2.2.2.1
theorem eq_e31 {A B : Mem} (h : EQ A B) : B 231 = A 31 := h.2.2.2.2.2.2.2.2.2.2.2.2.2.2.2.2.2.2.1
theorem eq_e36 {A B : Mem} (h : EQ A B) : B 233 = A 36 := h.2.2.2.2.2.2.2.2.2.2.2.2.2.2.2.2.2.2.2.1
theorem eq_e37 {A B : Mem} (h : EQ A B) : B 234 = A 37 := h.2.2.2.2.2.2.2.2.2.2.2.2.2.2.2.2.2.2.2.2.1
theorem eq_e38 {A B : Mem} (h : EQ A B) : B 235 = A 38 := h.2.2.2.2.2.2.2.2.2.2.2.2.2.2.2.2.2.2.2.2.2.1
theorem eq_tc {A B : Mem} (h : EQ A B) : B 200 3 = A 6 6 := h.2.2.2.2.2.2.2.2.2.2.2.2.2.2.2.2.2.2.2.2.2.2.1
theorem eq_lc {A B : Mem} (h : EQ A B) : B 200 10 = A 14 3 := h.2.2.2.2.2.2.2.2.2.2.2.2.2.2.2.2.2.2.2.2.2.2.2.1
theorem eq_wc {A B : Mem} (h : EQ A B) : B 200 14 = A 18 2 := h.2.2.2.2.2.2.2.2.2.2.2.2.2.2.2.2.2.2.2.2.2.2.2.2.1
theorem eq_bc {A B : Mem} (h : EQ A B) : B 200 18 = A 21 5 := h.2.2.2.2.2.2.2.2.2.2.2.2.2.2.2.2.2.2.2.2.2.2.2.2.2.1
theorem eq_tb {A B : Mem} (h : EQ A B) : B 200 24 = A 5 7 := h.2.2.2.2.2.2.2.2.2.2.2.2.2.2.2.2.2.2.2.2.2.2.2.2.2.2.1
theorem eq_sc {A B : Mem} (h : EQ A B) : B 200 26 = A 27 4 := h.2.2.2.2.2.2.2.2.2.2.2.2.2.2.2.2.2.2.2.2.2.2.2.2.2.2.2.1
theorem eq_ec {A B : Mem} (h : EQ A B) : B 200 31 = A 35 2 := h.2.2.2.2.2.2.2.2.2.2.2.2.2.2.2.2.2.2.2.2.2.2.2.2.2.2.2.2.1
theorem eq_h8 {A B : Mem} (h : EQ A B) : B 236 0 = A 5 8 := h.2.2.2.2.2.2.2.2.2.2.2.2.2.2.2.2.2.2.2.2.2.2.2.2.2.2.2.2.2.1
theorem eq_h9 {A B : Mem} (h : EQ A B) : B 236 1 = A 5 9 := h.2.2.2.2.2.2.2.2.2.2.2.2.2.2.2.2.2.2.2.2.2.2.2.2.2.2.2.2.2.2.1
theorem eq_h10 {A B : Mem} (h : EQ A B) : B 236 2 = A 5 10 := h.2.2.2.2.2.2.2.2.2.2.2.2.2.2.2.2.2.2.2.2.2.2.2.2.2.2.2.2.2.2.2.1
theorem eq_h11 {A B : Mem} (h : EQ A B) : B 236 3 = A 5 11 := h.2.2.2.2.2.2.2.2.2.2.2.2.2.2.2.2.2.2.2.2.2.2.2.2.2.2.2.2.2.2.2.2.1
theorem eq_lw {A B : Mem} (h : EQ A B) : ∀ j : Nat, (j : Int) < 5 * A 18 2 → B 216 j = A 19 j := h.2.2.2.2.2.2.2.2.2.2.2.2.2.2.2.2.2.2.2.2.2.2.2.2.2.2.2.2.2.2.2.2.2
theorem EQ_mk {A B : Mem} (e7 : B 205 = A 7) (e8 : B 206 = A 8) (e9 : B 207 = A 9) (e10 : B 208 = A 10) (e11 : B 209 = A 11) (e12 : B 210 = A 12) (e15 : B 212 = A 15) (e16 : B 213 = A 16) (e17 : B 214 = A 17) (e22 : B 220 = A 22) (e23 : B 221 = A 23) (e24 : B 222 = A 24) (e25 : B 223 = A 25) (e26 : B 224 = A 26) (e43 : B 226 = A 43) (e28 : B 228 = A 28) (e29 : B 229 = A 29) (e30 : B 230 = A 30) (e31 : B 231 = A 31) (e36 : B 233 = A 36) (e37 : B 234 = A 37) (e38 : B 235 = A 38) (tc : B 200 3 = A 6 6) (lc : B 200 10 = A 14 3) (wc : B 200 14 = A 18 2) (bc : B 200 18 = A 21 5) (tb : B 200 24 = A 5 7) (sc : B 200 26 = A 27 4) (ec : B 200 31 = A 35 2) (h8 : B 236 0 = A 5 8) (h9 : B 236 1 = A 5 9) (h10 : B 236 2 = A 5 10) (h11 : B 236 3 = A 5 11) (lw : ∀ j : Nat, (j : Int) < 5 * A 18 2 → B 216 j = A 19 j) : EQ A B := ⟨e7, e8, e9, e10, e11, e12, e15, e16, e17, e22, e23, e24, e25, e26, e43, e28, e29, e30, e31, e36, e37, e38, tc, lc, wc, bc, tb, sc, ec, h8, h9, h10, h11, lw⟩
def KE (A B : Mem) : Prop := (∀ j : Nat, j < 30 → B 239 (7 + j) = A 48 j) ∧ (∀ j : Nat, j < 30 → B 239 (37 + j) = A 49 j) ∧ (∀ j : Nat, j < 30 → B 239 (67 + j) = A 50 j) ∧ (∀ j : Nat, j < 30 → B 239 (97 + j) = A 51 j) ∧ (∀ j : Nat, j < 30 → B 239 (127 + j) = A 52 j) ∧ (∀ j : Nat, j < 30 → B 239 (157 + j) = A 53 j) ∧ (∀ j : Nat, j < 5 → B 239 (187 + j) = A 56 j) ∧ (∀ j : Nat, j < 5 → B 239 (192 + j) = A 57 j) ∧ (∀ j : Nat, j < 5 → B 239 (197 + j) = A 58 j) ∧ (∀ j : Nat, j < 12 → B 239 (232 + j) = A 63 j) ∧ (∀ j : Nat, j < 12 → B 239 (244 + j) = A 64 j) ∧ (∀ j : Nat, j < 12 → B 239 (256 + j) = A 65 j) ∧ (∀ j : Nat, j < 12 → B 239 (268 + j) = A 66 j) ∧ (∀ j : Nat, j < 12 → B 239 (280 + j) = A 67 j) ∧ (∀ j : Nat, j < 5 → B 239 (292 + j) = A 84 j) ∧ (∀ j : Nat, j < 20 → B 239 (297 + j) = A 69 j) ∧ (∀ j : Nat, j < 20 → B 239 (317 + j) = A 70 j) ∧ (∀ j : Nat, j < 20 → B 239 (337 + j) = A 71 j) ∧ (∀ j : Nat, j < 20 → B 239 (357 + j) = A 72 j) ∧ (∀ j : Nat, j < 10 → B 239 (377 + j) = A 77 j) ∧ (∀ j : Nat, j < 10 → B 239 (387 + j) = A 78 j) ∧ (∀ j : Nat, j < 16 → B 239 (397 + j) = A 79 j) ∧ (∀ j : Nat, (j : Int) < 5 * A 59 2 → B 239 (202 + j) = A 60 j) ∧ (B 239 0 = A 47 6) ∧ (B 239 1 = A 55 3) ∧ (B 239 2 = A 59 2) ∧ (B 239 3 = A 62 5) ∧ (B 239 4 = A 46 7) ∧ (B 239 5 = A 68 4) ∧ (B 239 6 = A 76 2) ∧ (B 239 413 = A 46 8) ∧ (B 239 414 = A 46 9) ∧ (B 239 415 = A 46 10) ∧ (B 239 416 = A 46 11)
theorem ke_k48 {A B : Mem} (h : KE A B) : ∀ j : Nat, j < 30 → B 239 (7 + j) = A 48 j := h.1
theorem ke_k49 {A B : Mem} (h : KE A B) : ∀ j : Nat, j < 30 → B 239 (37 + j) = A 49 j := h.2.1
theorem ke_k50 {A B : Mem} (h : KE A B) : ∀ j : Nat, j < 30 → B 239 (67 + j) = A 50 j := h.2.2.1
theorem ke_k51 {A B : Mem} (h : KE A B) : ∀ j : Nat, j < 30 → B 239 (97 + j) = A 51 j := h.2.2.2.1
theorem ke_k52 {A B : Mem} (h : KE A B) : ∀ j : Nat, j < 30 → B 239 (127 + j) = A 52 j := h.2.2.2.2.1
theorem ke_k53 {A B : Mem} (h : KE A B) : ∀ j : Nat, j < 30 → B 239 (157 + j) = A 53 j := h.2.2.2.2.2.1
theorem ke_k56 {A B : Mem} (h : KE A B) : ∀ j : Nat, j < 5 → B 239 (187 + j) = A 56 j := h.2.2.2.2.2.2.1
theorem ke_k57 {A B : Mem} (h : KE A B) : ∀ j : Nat, j < 5 → B 239 (192 + j) = A 57 j := h.2.2.2.2.2.2.2.1
theorem ke_k58 {A B : Mem} (h : KE A B) : ∀ j : Nat, j < 5 → B 239 (197 + j) = A 58 j := h.2.2.2.2.2.2.2.2.1
theorem ke_k63 {A B : Mem} (h : KE A B) : ∀ j : Nat, j < 12 → B 239 (232 + j) = A 63 j := h.2.2.2.2.2.2.2.2.2.1
theorem ke_k64 {A B : Mem} (h : KE A B) : ∀ j : Nat, j < 12 → B 239 (244 + j) = A 64 j := h.2.2.2.2.2.2.2.2.2.2.1
theorem ke_k65 {A B : Mem} (h : KE A B) : ∀ j : Nat, j < 12 → B 239 (256 + j) = A 65 j := h.2.2.2.2.2.2.2.2.2.2.2.1
theorem ke_k66 {A B : Mem} (h : KE A B) : ∀ j : Nat, j < 12 → B 239 (268 + j) = A 66 j := h.2.2.2.2.2.2.2.2.2.2.2.2.1
theorem ke_k67 {A B : Mem} (h : KE A B) : ∀ j : Nat, j < 12 → B 239 (280 + j) = A 67 j := h.2.2.2.2.2.2.2.2.2.2.2.2.2.1
theorem ke_k84 {A B : Mem} (h : KE A B) : ∀ j : Nat, j < 5 → B 239 (292 + j) = A 84 j := h.2.2.2.2.2.2.2.2.2.2.2.2.2.2.1
theorem ke_k69 {A B : Mem} (h : KE A B) : ∀ j : Nat, j < 20 → B 239 (297 + j) = A 69 j := h.2.2.2.2.2.2.2.2.2.2.2.2.2.2.2.1
theorem ke_k70 {A B : Mem} (h : KE A B) : ∀ j : Nat, j < 20 → B 239 (317 + j) = A 70 j := h.2.2.2.2.2.2.2.2.2.2.2.2.2.2.2.2.1
theorem ke_k71 {A B : Mem} (h : KE A B) : ∀ j : Nat, j < 20 → B 239 (337 + j) = A 71 j := h.2.2.2.2.2.2.2.2.2.2.2.2.2.2.2.2.2.1
theorem ke_k72 {A B : Mem} (h : KE A B) : ∀ j : Nat, j < 20 → B 239 (357 + j) = A 72 j := h.2.2.2.2.2.2.2.2.2.2.2.2.2.2.2.2.2.2.1
theorem ke_k77 {A B : Mem} (h : KE A B) : ∀ j : Nat, j < 10 → B 239 (377 + j) = A 77 j := h.2.2.2.2.2.2.2.2.2.2.2.2.2.2.2.2.2.2.2.1
theorem ke_k78 {A B : Mem} (h : KE A B) : ∀ j : Nat, j < 10 → B 239 (387 + j) = A 78 j := h.2.2.2.2.2.2.2.2.2.2.2.2.2.2.2.2.2.2.2.2.1
theorem ke_k79 {A B : Mem} (h : KE A B) : ∀ j : Nat, j < 16 → B 239 (397 + j) = A 79 j := h.2.2.2.2.2.2.2.2.2.2.2.2.2.2.2.2.2.2.2.2.2.1
theorem ke_kw {A B : Mem} (h : KE A B) : ∀ j : Nat, (j : Int) < 5 * A 59 2 → B 239 (202 + j) = A 60 j := h.2.2.2.2.2.2.2.2.2.2.2.2.2.2.2.2.2.2.2.2.2.2.1
theorem ke_kc0 {A B : Mem} (h : KE A B) : B 239 0 = A 47 6 := h.2.2.2.2.2.2.2.2.2.2.2.2.2.2.2.2.2.2.2.2.2.2.2.1
theorem ke_kc1 {A B : Mem} (h : KE A B) : B 239 1 = A 55 3 := h.2.2.2.2.2.2.2.2.2.2.2.2.2.2.2.2.2.2.2.2.2.2.2.2.1
theorem ke_kc2 {A B : Mem} (h : KE A B) : B 239 2 = A 59 2 := h.2.2.2.2.2.2.2.2.2.2.2.2.2.2.2.2.2.2.2.2.2.2.2.2.2.1
theorem ke_kc3 {A B : Mem} (h : KE A B) : B 239 3 = A 62 5 := h.2.2.2.2.2.2.2.2.2.2.2.2.2.2.2.2.2.2.2.2.2.2.2.2.2.2.1
theorem ke_kc4 {A B : Mem} (h : KE A B) : B 239 4 = A 46 7 := h.2.2.2.2.2.2.2.2.2.2.2.2.2.2.2.2.2.2.2.2.2.2.2.2.2.2.2.1
theorem ke_kc5 {A B : Mem} (h : KE A B) : B 239 5 = A 68 4 := h.2.2.2.2.2.2.2.2.2.2.2.2.2.2.2.2.2.2.2.2.2.2.2.2.2.2.2.2.1
theorem ke_kc6 {A B : Mem} (h : KE A B) : B 239 6 = A 76 2 := h.2.2.2.2.2.2.2.2.2.2.2.2.2.2.2.2.2.2.2.2.2.2.2.2.2.2.2.2.2.1
theorem ke_kh0 {A B : Mem} (h : KE A B) : B 239 413 = A 46 8 := h.2.2.2.2.2.2.2.2.2.2.2.2.2.2.2.2.2.2.2.2.2.2.2.2.2.2.2.2.2.2.1
theorem ke_kh1 {A B : Mem} (h : KE A B) : B 239 414 = A 46 9 := h.2.2.2.2.2.2.2.2.2.2.2.2.2.2.2.2.2.2.2.2.2.2.2.2.2.2.2.2.2.2.2.1
theorem ke_kh2 {A B : Mem} (h : KE A B) : B 239 415 = A 46 10 := h.2.2.2.2.2.2.2.2.2.2.2.2.2.2.2.2.2.2.2.2.2.2.2.2.2.2.2.2.2.2.2.2.1
theorem ke_kh3 {A B : Mem} (h : KE A B) : B 239 416 = A 46 11 := h.2.2.2.2.2.2.2.2.2.2.2.2.2.2.2.2.2.2.2.2.2.2.2.2.2.2.2.2.2.2.2.2.2
theorem KE_mk {A B : Mem} (k48 : ∀ j : Nat, j < 30 → B 239 (7 + j) = A 48 j) (k49 : ∀ j : Nat, j < 30 → B 239 (37 + j) = A 49 j) (k50 : ∀ j : Nat, j < 30 → B 239 (67 + j) = A 50 j) (k51 : ∀ j : Nat, j < 30 → B 239 (97 + j) = A 51 j) (k52 : ∀ j : Nat, j < 30 → B 239 (127 + j) = A 52 j) (k53 : ∀ j : Nat, j < 30 → B 239 (157 + j) = A 53 j) (k56 : ∀ j : Nat, j < 5 → B 239 (187 + j) = A 56 j) (k57 : ∀ j : Nat, j < 5 → B 239 (192 + j) = A 57 j) (k58 : ∀ j : Nat, j < 5 → B 239 (197 + j) = A 58 j) (k63 : ∀ j : Nat, j < 12 → B 239 (232 + j) = A 63 j) (k64 : ∀ j : Nat, j < 12 → B 239 (244 + j) = A 64 j) (k65 : ∀ j : Nat, j < 12 → B 239 (256 + j) = A 65 j) (k66 : ∀ j : Nat, j < 12 → B 239 (268 + j) = A 66 j) (k67 : ∀ j : Nat, j < 12 → B 239 (280 + j) = A 67 j) (k84 : ∀ j : Nat, j < 5 → B 239 (292 + j) = A 84 j) (k69 : ∀ j : Nat, j < 20 → B 239 (297 + j) = A 69 j) (k70 : ∀ j : Nat, j < 20 → B 239 (317 + j) = A 70 j) (k71 : ∀ j : Nat, j < 20 → B 239 (337 + j) = A 71 j) (k72 : ∀ j : Nat, j < 20 → B 239 (357 + j) = A 72 j) (k77 : ∀ j : Nat, j < 10 → B 239 (377 + j) = A 77 j) (k78 : ∀ j : Nat, j < 10 → B 239 (387 + j) = A 78 j) (k79 : ∀ j : Nat, j < 16 → B 239 (397 + j) = A 79 j) (kw : ∀ j : Nat, (j : Int) < 5 * A 59 2 → B 239 (202 + j) = A 60 j) (kc0 : B 239 0 = A 47 6) (kc1 : B 239 1 = A 55 3) (kc2 : B 239 2 = A 59 2) (kc3 : B 239 3 = A 62 5) (kc4 : B 239 4 = A 46 7) (kc5 : B 239 5 = A 68 4) (kc6 : B 239 6 = A 76 2) (kh0 : B 239 413 = A 46 8) (kh1 : B 239 414 = A 46 9) (kh2 : B 239 415 = A 46 10) (kh3 : B 239 416 = A 46 11) : KE A B := ⟨k48, k49, k50, k51, k52, k53, k56, k57, k58, k63, k64, k65, k66, k67, k84, k69, k70, k71, k72, k77, k78, k79, kw, kc0, kc1, kc2, kc3, kc4, kc5, kc6, kh0, kh1, kh2, kh3⟩
def HX (n : Nat) (tc lc wc bc tb sc ec ha bg ho tk : Int) (k w c p b d lk lg ll ws bh bp bw be bm y ch g bo st sp : Nat → Int) : Prop := (0 ≤ tc ∧ tc ≤ 30) ∧ (0 ≤ lc ∧ lc ≤ 5) ∧ (0 ≤ wc ∧ wc ≤ 6) ∧ (0 ≤ bc ∧ bc ≤ 12) ∧ (0 ≤ tb ∧ tb ≤ 5) ∧ (0 ≤ sc ∧ sc ≤ 20) ∧ (0 ≤ ec ∧ ec ≤ 10) ∧ ((0 ≤ ha ∧ ha ≤ 12) ∧ (0 ≤ bg ∧ bg ≤ 12) ∧ 0 ≤ ho ∧ ho ≤ 12) ∧ (0 ≤ tk ∧ tk ≤ 150000 * n) ∧ (∀ j : Nat, j < 30 → (0 ≤ k j ∧ k j ≤ 5) ∧ (0 ≤ w j ∧ w j ≤ 999) ∧ (0 ≤ c j ∧ c j ≤ 255) ∧ (-1 ≤ p j ∧ p j ≤ 999) ∧ (-1 ≤ b j ∧ b j ≤ 11) ∧ (-1 ≤ d j ∧ d j ≤ 999)) ∧ (∀ j : Nat, j < 30 → ¬ b j = -1 → 0 ≤ d j) ∧ (∀ j : Nat, j < 5 → (0 ≤ lk j ∧ lk j ≤ 63) ∧ 0 ≤ lg j ∧ lg j ≤ 999) ∧ (∀ j : Nat, j < 5 → (j : Int) < lc → -1 ≤ ll j ∧ ll j < wc) ∧ (lwOK ws wc) ∧ (∀ j : Nat, j < 12 → (0 ≤ bh j ∧ bh j ≤ 11) ∧ (0 ≤ bp j ∧ bp j ≤ 9999) ∧ (0 ≤ bw j ∧ bw j ≤ 63) ∧ 0 ≤ be j ∧ be j ≤ 300) ∧ (∀ j : Nat, j < 12 → 0 ≤ bm j ∧ bm j ≤ 12 * n) ∧ (∀ j : Nat, j < 20 → (0 ≤ y j ∧ y j ≤ 99) ∧ (0 ≤ ch j ∧ ch j ≤ 255) ∧ (-1 ≤ g j ∧ g j ≤ 15) ∧ -1 ≤ bo j ∧ bo j ≤ 15) ∧ (∀ j : Nat, j < 10 → (j : Int) < ec → (0 ≤ st j ∧ st j < tc) ∧ 0 ≤ sp j ∧ sp j ≤ 15)
theorem hx_tc {n : Nat} {tc lc wc bc tb sc ec ha bg ho tk : Int} {k w c p b d lk lg ll ws bh bp bw be bm y ch g bo st sp : Nat → Int} (hh : HX n tc lc wc bc tb sc ec ha bg ho tk k w c p b d lk lg ll ws bh bp bw be bm y ch g bo st sp) : 0 ≤ tc ∧ tc ≤ 30 := hh.1
theorem hx_lc {n : Nat} {tc lc wc bc tb sc ec ha bg ho tk : Int} {k w c p b d lk lg ll ws bh bp bw be bm y ch g bo st sp : Nat → Int} (hh : HX n tc lc wc bc tb sc ec ha bg ho tk k w c p b d lk lg ll ws bh bp bw be bm y ch g bo st sp) : 0 ≤ lc ∧ lc ≤ 5 := hh.2.1
theorem hx_wc {n : Nat} {tc lc wc bc tb sc ec ha bg ho tk : Int} {k w c p b d lk lg ll ws bh bp bw be bm y ch g bo st sp : Nat → Int} (hh : HX n tc lc wc bc tb sc ec ha bg ho tk k w c p b d lk lg ll ws bh bp bw be bm y ch g bo st sp) : 0 ≤ wc ∧ wc ≤ 6 := hh.2.2.1
theorem hx_bc {n : Nat} {tc lc wc bc tb sc ec ha bg ho tk : Int} {k w c p b d lk lg ll ws bh bp bw be bm y ch g bo st sp : Nat → Int} (hh : HX n tc lc wc bc tb sc ec ha bg ho tk k w c p b d lk lg ll ws bh bp bw be bm y ch g bo st sp) : 0 ≤ bc ∧ bc ≤ 12 := hh.2.2.2.1
theorem hx_tb {n : Nat} {tc lc wc bc tb sc ec ha bg ho tk : Int} {k w c p b d lk lg ll ws bh bp bw be bm y ch g bo st sp : Nat → Int} (hh : HX n tc lc wc bc tb sc ec ha bg ho tk k w c p b d lk lg ll ws bh bp bw be bm y ch g bo st sp) : 0 ≤ tb ∧ tb ≤ 5 := hh.2.2.2.2.1
theorem hx_sc {n : Nat} {tc lc wc bc tb sc ec ha bg ho tk : Int} {k w c p b d lk lg ll ws bh bp bw be bm y ch g bo st sp : Nat → Int} (hh : HX n tc lc wc bc tb sc ec ha bg ho tk k w c p b d lk lg ll ws bh bp bw be bm y ch g bo st sp) : 0 ≤ sc ∧ sc ≤ 20 := hh.2.2.2.2.2.1
theorem hx_ec {n : Nat} {tc lc wc bc tb sc ec ha bg ho tk : Int} {k w c p b d lk lg ll ws bh bp bw be bm y ch g bo st sp : Nat → Int} (hh : HX n tc lc wc bc tb sc ec ha bg ho tk k w c p b d lk lg ll ws bh bp bw be bm y ch g bo st sp) : 0 ≤ ec ∧ ec ≤ 10 := hh.2.2.2.2.2.2.1
theorem hx_hr {n : Nat} {tc lc wc bc tb sc ec ha bg ho tk : Int} {k w c p b d lk lg ll ws bh bp bw be bm y ch g bo st sp : Nat → Int} (hh : HX n tc lc wc bc tb sc ec ha bg ho tk k w c p b d lk lg ll ws bh bp bw be bm y ch g bo st sp) : (0 ≤ ha ∧ ha ≤ 12) ∧ (0 ≤ bg ∧ bg ≤ 12) ∧ 0 ≤ ho ∧ ho ≤ 12 := hh.2.2.2.2.2.2.2.1
theorem hx_tk {n : Nat} {tc lc wc bc tb sc ec ha bg ho tk : Int} {k w c p b d lk lg ll ws bh bp bw be bm y ch g bo st sp : Nat → Int} (hh : HX n tc lc wc bc tb sc ec ha bg ho tk k w c p b d lk lg ll ws bh bp bw be bm y ch g bo st sp) : 0 ≤ tk ∧ tk ≤ 150000 * n := hh.2.2.2.2.2.2.2.2.1
theorem hx_th {n : Nat} {tc lc wc bc tb sc ec ha bg ho tk : Int} {k w c p b d lk lg ll ws bh bp bw be bm y ch g bo st sp : Nat → Int} (hh : HX n tc lc wc bc tb sc ec ha bg ho tk k w c p b d lk lg ll ws bh bp bw be bm y ch g bo st sp) : ∀ j : Nat, j < 30 → (0 ≤ k j ∧ k j ≤ 5) ∧ (0 ≤ w j ∧ w j ≤ 999) ∧ (0 ≤ c j ∧ c j ≤ 255) ∧ (-1 ≤ p j ∧ p j ≤ 999) ∧ (-1 ≤ b j ∧ b j ≤ 11) ∧ (-1 ≤ d j ∧ d j ≤ 999) := hh.2.2.2.2.2.2.2.2.2.1
theorem hx_pd {n : Nat} {tc lc wc bc tb sc ec ha bg ho tk : Int} {k w c p b d lk lg ll ws bh bp bw be bm y ch g bo st sp : Nat → Int} (hh : HX n tc lc wc bc tb sc ec ha bg ho tk k w c p b d lk lg ll ws bh bp bw be bm y ch g bo st sp) : ∀ j : Nat, j < 30 → ¬ b j = -1 → 0 ≤ d j := hh.2.2.2.2.2.2.2.2.2.2.1
theorem hx_la {n : Nat} {tc lc wc bc tb sc ec ha bg ho tk : Int} {k w c p b d lk lg ll ws bh bp bw be bm y ch g bo st sp : Nat → Int} (hh : HX n tc lc wc bc tb sc ec ha bg ho tk k w c p b d lk lg ll ws bh bp bw be bm y ch g bo st sp) : ∀ j : Nat, j < 5 → (0 ≤ lk j ∧ lk j ≤ 63) ∧ 0 ≤ lg j ∧ lg j ≤ 999 := hh.2.2.2.2.2.2.2.2.2.2.2.1
theorem hx_ll {n : Nat} {tc lc wc bc tb sc ec ha bg ho tk : Int} {k w c p b d lk lg ll ws bh bp bw be bm y ch g bo st sp : Nat → Int} (hh : HX n tc lc wc bc tb sc ec ha bg ho tk k w c p b d lk lg ll ws bh bp bw be bm y ch g bo st sp) : ∀ j : Nat, j < 5 → (j : Int) < lc → -1 ≤ ll j ∧ ll j < wc := hh.2.2.2.2.2.2.2.2.2.2.2.2.1
theorem hx_lw {n : Nat} {tc lc wc bc tb sc ec ha bg ho tk : Int} {k w c p b d lk lg ll ws bh bp bw be bm y ch g bo st sp : Nat → Int} (hh : HX n tc lc wc bc tb sc ec ha bg ho tk k w c p b d lk lg ll ws bh bp bw be bm y ch g bo st sp) : lwOK ws wc := hh.2.2.2.2.2.2.2.2.2.2.2.2.2.1
theorem hx_bu {n : Nat} {tc lc wc bc tb sc ec ha bg ho tk : Int} {k w c p b d lk lg ll ws bh bp bw be bm y ch g bo st sp : Nat → Int} (hh : HX n tc lc wc bc tb sc ec ha bg ho tk k w c p b d lk lg ll ws bh bp bw be bm y ch g bo st sp) : ∀ j : Nat, j < 12 → (0 ≤ bh j ∧ bh j ≤ 11) ∧ (0 ≤ bp j ∧ bp j ≤ 9999) ∧ (0 ≤ bw j ∧ bw j ≤ 63) ∧ 0 ≤ be j ∧ be j ≤ 300 := hh.2.2.2.2.2.2.2.2.2.2.2.2.2.2.1
theorem hx_mn {n : Nat} {tc lc wc bc tb sc ec ha bg ho tk : Int} {k w c p b d lk lg ll ws bh bp bw be bm y ch g bo st sp : Nat → Int} (hh : HX n tc lc wc bc tb sc ec ha bg ho tk k w c p b d lk lg ll ws bh bp bw be bm y ch g bo st sp) : ∀ j : Nat, j < 12 → 0 ≤ bm j ∧ bm j ≤ 12 * n := hh.2.2.2.2.2.2.2.2.2.2.2.2.2.2.2.1
theorem hx_si {n : Nat} {tc lc wc bc tb sc ec ha bg ho tk : Int} {k w c p b d lk lg ll ws bh bp bw be bm y ch g bo st sp : Nat → Int} (hh : HX n tc lc wc bc tb sc ec ha bg ho tk k w c p b d lk lg ll ws bh bp bw be bm y ch g bo st sp) : ∀ j : Nat, j < 20 → (0 ≤ y j ∧ y j ≤ 99) ∧ (0 ≤ ch j ∧ ch j ≤ 255) ∧ (-1 ≤ g j ∧ g j ≤ 15) ∧ -1 ≤ bo j ∧ bo j ≤ 15 := hh.2.2.2.2.2.2.2.2.2.2.2.2.2.2.2.2.1
theorem hx_se {n : Nat} {tc lc wc bc tb sc ec ha bg ho tk : Int} {k w c p b d lk lg ll ws bh bp bw be bm y ch g bo st sp : Nat → Int} (hh : HX n tc lc wc bc tb sc ec ha bg ho tk k w c p b d lk lg ll ws bh bp bw be bm y ch g bo st sp) : ∀ j : Nat, j < 10 → (j : Int) < ec → (0 ≤ st j ∧ st j < tc) ∧ 0 ≤ sp j ∧ sp j ≤ 15 := hh.2.2.2.2.2.2.2.2.2.2.2.2.2.2.2.2.2
theorem HX_mk {n : Nat} {tc lc wc bc tb sc ec ha bg ho tk : Int} {k w c p b d lk lg ll ws bh bp bw be bm y ch g bo st sp : Nat → Int} (h_tc : 0 ≤ tc ∧ tc ≤ 30) (h_lc : 0 ≤ lc ∧ lc ≤ 5) (h_wc : 0 ≤ wc ∧ wc ≤ 6) (h_bc : 0 ≤ bc ∧ bc ≤ 12) (h_tb : 0 ≤ tb ∧ tb ≤ 5) (h_sc : 0 ≤ sc ∧ sc ≤ 20) (h_ec : 0 ≤ ec ∧ ec ≤ 10) (h_hr : (0 ≤ ha ∧ ha ≤ 12) ∧ (0 ≤ bg ∧ bg ≤ 12) ∧ 0 ≤ ho ∧ ho ≤ 12) (h_tk : 0 ≤ tk ∧ tk ≤ 150000 * n) (h_th : ∀ j : Nat, j < 30 → (0 ≤ k j ∧ k j ≤ 5) ∧ (0 ≤ w j ∧ w j ≤ 999) ∧ (0 ≤ c j ∧ c j ≤ 255) ∧ (-1 ≤ p j ∧ p j ≤ 999) ∧ (-1 ≤ b j ∧ b j ≤ 11) ∧ (-1 ≤ d j ∧ d j ≤ 999)) (h_pd : ∀ j : Nat, j < 30 → ¬ b j = -1 → 0 ≤ d j) (h_la : ∀ j : Nat, j < 5 → (0 ≤ lk j ∧ lk j ≤ 63) ∧ 0 ≤ lg j ∧ lg j ≤ 999) (h_ll : ∀ j : Nat, j < 5 → (j : Int) < lc → -1 ≤ ll j ∧ ll j < wc) (h_lw : lwOK ws wc) (h_bu : ∀ j : Nat, j < 12 → (0 ≤ bh j ∧ bh j ≤ 11) ∧ (0 ≤ bp j ∧ bp j ≤ 9999) ∧ (0 ≤ bw j ∧ bw j ≤ 63) ∧ 0 ≤ be j ∧ be j ≤ 300) (h_mn : ∀ j : Nat, j < 12 → 0 ≤ bm j ∧ bm j ≤ 12 * n) (h_si : ∀ j : Nat, j < 20 → (0 ≤ y j ∧ y j ≤ 99) ∧ (0 ≤ ch j ∧ ch j ≤ 255) ∧ (-1 ≤ g j ∧ g j ≤ 15) ∧ -1 ≤ bo j ∧ bo j ≤ 15) (h_se : ∀ j : Nat, j < 10 → (j : Int) < ec → (0 ≤ st j ∧ st j < tc) ∧ 0 ≤ sp j ∧ sp j ≤ 15) : HX n tc lc wc bc tb sc ec ha bg ho tk k w c p b d lk lg ll ws bh bp bw be bm y ch g bo st sp := ⟨h_tc, h_lc, h_wc, h_bc, h_tb, h_sc, h_ec, h_hr, h_tk, h_th, h_pd, h_la, h_ll, h_lw, h_bu, h_mn, h_si, h_se⟩
def HI (n : Nat) (A : Mem) : Prop := HX n (A 6 6) (A 14 3) (A 18 2) (A 21 5) (A 5 7) (A 27 4) (A 35 2) (A 5 8) (A 5 9) (A 5 10) (A 5 11) (A 7) (A 8) (A 9) (A 10) (A 11) (A 12) (A 15) (A 16) (A 17) (A 19) (A 22) (A 23) (A 24) (A 25) (A 26) (A 28) (A 29) (A 30) (A 31) (A 36) (A 37)
def HK (n : Nat) (A : Mem) : Prop := HX n (A 47 6) (A 55 3) (A 59 2) (A 62 5) (A 46 7) (A 68 4) (A 76 2) (A 46 8) (A 46 9) (A 46 10) (A 46 11) (A 48) (A 49) (A 50) (A 51) (A 52) (A 53) (A 56) (A 57) (A 58) (A 60) (A 63) (A 64) (A 65) (A 66) (A 67) (A 69) (A 70) (A 71) (A 72) (A 77) (A 78)
theorem hx_mono {n : Nat} {tc lc wc bc tb sc ec ha bg ho tk : Int} {k w c p b d lk lg ll ws bh bp bw be bm y ch g bo st sp : Nat → Int} (hh : HX n tc lc wc bc tb sc ec ha bg ho tk k w c p b d lk lg ll ws bh bp bw be bm y ch g bo st sp) : HX (n + 1) tc lc wc bc tb sc ec ha bg ho tk k w c p b d lk lg ll ws bh bp bw be bm y ch g bo st sp := HX_mk (hx_tc hh) (hx_lc hh) (hx_wc hh) (hx_bc hh) (hx_tb hh) (hx_sc hh) (hx_ec hh) (hx_hr hh) (by have q := hx_tk hh; omega) (hx_th hh) (hx_pd hh) (hx_la hh) (hx_ll hh) (hx_lw hh) (hx_bu hh) (fun j hj => by have q := hx_mn hh j hj; omega) (hx_si hh) (hx_se hh)
def IM (n : Nat) (A B : Mem) : Prop := A 0 7 = B 200 37 ∧ (A 0 7 = 0 ∨ (A 0 7 = 1 ∧ HK n A ∧ KE A B))
def SHs (A B : Mem) (s : Nat) : Prop := ((A (1 + 96 + 2 * s) 1 = -1 ∧ B 201 s = -1) ∨ ((0 ≤ A (1 + 96 + 2 * s) 1 ∧ A (1 + 96 + 2 * s) 1 ≤ 4) ∧ B 201 s = 100 + A (1 + 96 + 2 * s) 1) ∨ ((10 ≤ A (1 + 96 + 2 * s) 1 ∧ A (1 + 96 + 2 * s) 1 < 10 + A 6 6) ∧ B 201 s = A (1 + 96 + 2 * s) 1 - 10)) ∧ (0 ≤ A (1 + 96 + 2 * s) 2 ∧ A (1 + 96 + 2 * s) 2 ≤ 40 ∧ B 202 s = A (1 + 96 + 2 * s) 2) ∧ ∀ i : Nat, i < 40 → B 203 (40 * s + i) = A (1 + 96 + 2 * s + 1) i
def SH (A B : Mem) : Prop := ∀ s : Nat, s < 8 → SHs A B s
def tpR (x y : Int) : Prop := (x = y ∧ 0 ≤ y ∧ y ≤ 127) ∨ (x < 0 ∧ 128 ≤ y)
def TP (A B : Mem) : Prop := (0 ≤ A 3 1 ∧ A 3 1 ≤ 120) ∧ B 200 16 = A 3 1 ∧ ∀ j : Nat, (j : Int) < A 3 1 → tpR (A 4 j) (B 218 j)
def RF (n : Nat) (A B : Mem) : Prop := (∀ k : Nat, k < 5 → 0 ≤ A 2 k ∧ A 2 k ≤ n ∧ B 237 (k + 2) = A 2 k) ∧ B 237 0 = 0 ∧ B 237 1 = 0
def Rel0 (n : Nat) (A B : Mem) : Prop := EQ A B ∧ HI n A ∧ IM n A B ∧ SH A B ∧ TP A B ∧ RF n A B
def clA (A : Mem) : Mem := fun a => if a < 200 then A a else fun _ => 0
def crB (B : Mem) : Mem := fun a => if 200 ≤ a then B a else fun _ => 0
def Rel (n : Nat) (A B : Mem) : Prop := Rel0 n (clA A) (crB B)
theorem cl_o {A : Mem} {a : Nat} (h : a < 200) : clA A a = A a := if_pos h
theorem cr_o {B : Mem} {a : Nat} (h : 200 ≤ a) : crB B a = B a := if_pos h
theorem relA {n : Nat} {A A' B : Mem} (h : Rel n A B) (e : ∀ a, a < 200 → A' a = A a) : Rel n A' B := by
  have : clA A' = clA A := by
    funext a
    unfold clA
    split
    · exact e a (by assumption)
    · rfl
  unfold Rel at h ⊢
  rw [this]
  exact h
theorem relB {n : Nat} {A B B' : Mem} (h : Rel n A B) (e : ∀ a, 200 ≤ a → B' a = B a) : Rel n A B' := by
  have : crB B' = crB B := by
    funext a
    unfold crB
    split
    · exact e a (by assumption)
    · rfl
  unfold Rel at h ⊢
  rw [this]
  exact h
theorem sh_c {A B : Mem} : SH (clA A) (crB B) ↔ SH A B := by
  have e : ∀ s, s < 8 → clA A (1 + 96 + 2 * s) = A (1 + 96 + 2 * s) ∧ clA A (1 + 96 + 2 * s + 1) = A (1 + 96 + 2 * s + 1) := fun s hs => ⟨cl_o (by omega), cl_o (by omega)⟩
  have e2 : clA A 6 = A 6 := cl_o (by decide)
  have e3 : crB B 201 = B 201 ∧ crB B 202 = B 202 ∧ crB B 203 = B 203 := ⟨cr_o (by decide), cr_o (by decide), cr_o (by decide)⟩
  constructor
  · intro h s hs
    have q := h s hs
    unfold SHs at q ⊢
    rw [(e s hs).1, (e s hs).2, e2, e3.1, e3.2.1, e3.2.2] at q
    exact q
  · intro h s hs
    have q := h s hs
    unfold SHs at q ⊢
    rw [(e s hs).1, (e s hs).2, e2, e3.1, e3.2.1, e3.2.2]
    exact q
theorem rel_mk {n : Nat} {A B : Mem} (h1 : EQ A B) (h2 : HI n A) (h3 : IM n A B) (h4 : SH A B) (h5 : TP A B) (h6 : RF n A B) : Rel n A B := ⟨h1, h2, h3, sh_c.mpr h4, h5, h6⟩
theorem r_eq {n : Nat} {A B : Mem} (h : Rel n A B) : EQ A B := h.1
theorem r_hi {n : Nat} {A B : Mem} (h : Rel n A B) : HI n A := h.2.1
theorem r_im {n : Nat} {A B : Mem} (h : Rel n A B) : IM n A B := h.2.2.1
theorem r_sh {n : Nat} {A B : Mem} (h : Rel n A B) : SH A B := sh_c.mp h.2.2.2.1
theorem r_tp {n : Nat} {A B : Mem} (h : Rel n A B) : TP A B := h.2.2.2.2.1
theorem r_rf {n : Nat} {A B : Mem} (h : Rel n A B) : RF n A B := h.2.2.2.2.2
theorem im_mono {n : Nat} {A B : Mem} (h : IM n A B) : IM (n + 1) A B := ⟨h.1, h.2.imp id (fun z => ⟨z.1, hx_mono z.2.1, z.2.2⟩)⟩
theorem rf_mono {n : Nat} {A B : Mem} (h : RF n A B) : RF (n + 1) A B := ⟨fun k hk => by have := h.1 k hk; omega, h.2⟩
theorem rel_s {n : Nat} {A B : Mem} (h : Rel n A B) : Rel (n + 1) A B := rel_mk (r_eq h) (hx_mono (r_hi h)) (im_mono (r_im h)) (r_sh h) (r_tp h) (rf_mono (r_rf h))
section RH
variable {n : Nat} {A B : Mem}
theorem hrf_ (h : Rel n A B) (hn : n ≤ 600) : rfOK A := fun j hj => by have q := (r_rf h).1 j hj; omega
theorem hrg_ (h : Rel n A B) (hn : n ≤ 600) : rgOK B := fun j hj => by
  have q := r_rf h
  by_cases e : j < 2
  · rcases (show j = 0 ∨ j = 1 by omega) with rfl | rfl
    · rw [q.2.1]; omega
    · rw [q.2.2]; omega
  · have w := q.1 (j - 2) (by omega)
    rw [show j - 2 + 2 = j by omega] at w
    omega
theorem hsh_ (h : Rel n A B) : shOK A := fun s h0 h1 => by
  have q := r_sh h s.toNat (by omega)
  unfold SHs at q
  omega
theorem hho_ (h : Rel n A B) : hoOK B := fun s hs => by
  have q := r_sh h s hs
  have c := eq_tc (r_eq h)
  unfold SHs at q
  omega
theorem hc_ (h : Rel n A B) : 0 ≤ A 6 6 ∧ A 6 6 ≤ 30 := hx_tc (r_hi h)
theorem hmc_ (h : Rel n A B) : 0 ≤ B 200 3 ∧ B 200 3 ≤ 30 := by rw [eq_tc (r_eq h)]; exact hc_ h
theorem hlc_ (h : Rel n A B) : 0 ≤ A 14 3 ∧ A 14 3 ≤ 5 := hx_lc (r_hi h)
theorem hmlc_ (h : Rel n A B) : 0 ≤ B 200 10 ∧ B 200 10 ≤ 5 := by rw [eq_lc (r_eq h)]; exact hlc_ h
theorem hwc_ (h : Rel n A B) : 0 ≤ A 18 2 ∧ A 18 2 ≤ 6 := hx_wc (r_hi h)
theorem hmwc_ (h : Rel n A B) : 0 ≤ B 200 14 ∧ B 200 14 ≤ 6 := by rw [eq_wc (r_eq h)]; exact hwc_ h
theorem hbc_ (h : Rel n A B) : 0 ≤ A 21 5 ∧ A 21 5 ≤ 12 := hx_bc (r_hi h)
theorem hmbc_ (h : Rel n A B) : 0 ≤ B 200 18 ∧ B 200 18 ≤ 12 := by rw [eq_bc (r_eq h)]; exact hbc_ h
theorem htc_ (h : Rel n A B) : 0 ≤ A 5 7 ∧ A 5 7 ≤ 5 := hx_tb (r_hi h)
theorem hmtc_ (h : Rel n A B) : 0 ≤ B 200 24 ∧ B 200 24 ≤ 5 := by rw [eq_tb (r_eq h)]; exact htc_ h
theorem hsc_ (h : Rel n A B) : 0 ≤ A 27 4 ∧ A 27 4 ≤ 20 := hx_sc (r_hi h)
theorem hmsc_ (h : Rel n A B) : 0 ≤ B 200 26 ∧ B 200 26 ≤ 20 := by rw [eq_sc (r_eq h)]; exact hsc_ h
theorem hec_ (h : Rel n A B) : 0 ≤ A 35 2 ∧ A 35 2 ≤ 10 := hx_ec (r_hi h)
theorem hmec_ (h : Rel n A B) : 0 ≤ B 200 31 ∧ B 200 31 ≤ 10 := by rw [eq_ec (r_eq h)]; exact hec_ h
theorem hs_ (h : Rel n A B) : 0 ≤ A 3 1 ∧ A 3 1 ≤ 120 := (r_tp h).1
theorem hsm_ (h : Rel n A B) : 0 ≤ B 200 16 ∧ B 200 16 ≤ 120 := by rw [(r_tp h).2.1]; exact hs_ h
theorem hth_ (h : Rel n A B) : thOK A := hx_th (r_hi h)
theorem hthm_ (h : Rel n A B) : thOKm B := fun j hj => by
  have e := r_eq h
  rw [eq_e7 e, eq_e8 e, eq_e9 e, eq_e10 e, eq_e11 e, eq_e12 e]
  exact hx_th (r_hi h) j hj
theorem hla_ (h : Rel n A B) : laOK A := hx_la (r_hi h)
theorem hlam_ (h : Rel n A B) : laOKm B := fun j hj => by
  have e := r_eq h
  rw [eq_e15 e, eq_e16 e, eq_e17 e, eq_lc e, eq_wc e]
  exact ⟨(hx_la (r_hi h) j hj).1, (hx_la (r_hi h) j hj).2, hx_ll (r_hi h) j hj⟩
theorem hlw_ (h : Rel n A B) : lwOK (A 19) (A 18 2) := hx_lw (r_hi h)
theorem hlwm_ (h : Rel n A B) : lwOK (B 216) (B 200 14) := fun w h0 h1 => by
  have e := r_eq h
  have q := eq_lw e
  have c := hwc_ h
  rw [eq_wc e] at h1
  rw [q _ (by omega), q _ (by omega), q _ (by omega), q _ (by omega), q _ (by omega)]
  exact hx_lw (r_hi h) w h0 h1
theorem hbu_ (h : Rel n A B) : buOK A := hx_bu (r_hi h)
theorem hbum_ (h : Rel n A B) : buOKm B := fun j hj => by
  have e := r_eq h
  rw [eq_e22 e, eq_e23 e, eq_e24 e, eq_e25 e]
  exact hx_bu (r_hi h) j hj
theorem hmn_ (h : Rel n A B) (hn : n ≤ 600) : mnOK A := fun j hj => by have q := hx_mn (r_hi h) j hj; omega
theorem hmnm_ (h : Rel n A B) (hn : n ≤ 600) : mnOKm B := fun j hj => by
  rw [eq_e26 (r_eq h)]
  have q := hx_mn (r_hi h) j hj
  omega
theorem hhr_ (h : Rel n A B) : (0 ≤ A 5 8 ∧ A 5 8 ≤ 12) ∧ (0 ≤ A 5 9 ∧ A 5 9 ≤ 12) ∧ 0 ≤ A 5 10 ∧ A 5 10 ≤ 12 := hx_hr (r_hi h)
theorem hhrm_ (h : Rel n A B) : (0 ≤ B 236 0 ∧ B 236 0 ≤ 12) ∧ (0 ≤ B 236 1 ∧ B 236 1 ≤ 12) ∧ 0 ≤ B 236 2 ∧ B 236 2 ≤ 12 := by
  have e := r_eq h
  rw [eq_h8 e, eq_h9 e, eq_h10 e]
  exact hhr_ h
theorem htk_ (h : Rel n A B) (hn : n ≤ 600) : 0 ≤ A 5 11 ∧ A 5 11 ≤ 1000000000 := by have q := hx_tk (r_hi h); omega
theorem htkm_ (h : Rel n A B) (hn : n ≤ 600) : 0 ≤ B 236 3 ∧ B 236 3 ≤ 1000000000 := by
  rw [eq_h11 (r_eq h)]
  exact htk_ h hn
theorem hsi_ (h : Rel n A B) : siOK A := hx_si (r_hi h)
theorem hsim_ (h : Rel n A B) : siOKm B := fun j hj => by
  have e := r_eq h
  rw [eq_e28 e, eq_e29 e, eq_e30 e, eq_e31 e]
  exact hx_si (r_hi h) j hj
theorem hse_ (h : Rel n A B) : ∀ j : Nat, j < 10 → (j : Int) < A 35 2 → (0 ≤ A 36 j ∧ A 36 j < 30) ∧ 0 ≤ A 37 j ∧ A 37 j ≤ 15 := fun j hj hl => by
  have q := hx_se (r_hi h) j hj hl
  have c := hc_ h
  omega
theorem hsem_ (h : Rel n A B) : ∀ j : Nat, j < 10 → (j : Int) < B 200 31 → (0 ≤ B 233 j ∧ B 233 j < B 200 3) ∧ 0 ≤ B 234 j ∧ B 234 j ≤ 15 := fun j hj hl => by
  have e := r_eq h
  rw [eq_ec e] at hl
  rw [eq_e36 e, eq_e37 e, eq_tc e]
  exact hx_se (r_hi h) j hj hl
theorem hpd_ (h : Rel n A B) : ∀ j : Nat, j < 30 → ¬ A 11 j = -1 → 0 ≤ A 12 j ∧ A 12 j ≤ 999 := fun j hj hb => ⟨hx_pd (r_hi h) j hj hb, (hx_th (r_hi h) j hj).2.2.2.2.2.2⟩
theorem hpdm_ (h : Rel n A B) : ∀ j : Nat, j < 30 → 0 ≤ B 209 j → 0 ≤ B 210 j ∧ B 210 j ≤ 999 := fun j hj hb => by
  have e := r_eq h
  rw [eq_e11 e] at hb
  rw [eq_e12 e]
  exact hpd_ h j hj (by omega)
theorem hkc_ (h : Rel n A B) : A 0 7 = 0 ∨ (0 ≤ A 47 6 ∧ A 47 6 ≤ 30) := (r_im h).2.imp id (fun z => hx_tc z.2.1)
end RH
/-- a refusal -/
theorem rel_no {n : Nat} {A B : Mem} (h : Rel n A B) (k : Nat) (hk : k < 5) : Rel (n + 1) (rf A k) (rg B (k + 2)) := by
  have h1 := rel_s h
  refine rel_mk (r_eq (A := A) (B := B) h1) (r_hi (A := A) (B := B) h1) (r_im (A := A) (B := B) h1) ?_ (r_tp (A := A) (B := B) h1) ⟨fun j hj => ?_, ?_, ?_⟩
  · intro s hs
    have q := r_sh h1 s hs
    unfold SHs at q ⊢
    have e : up A 2 k (A 2 k + 1) (1 + 96 + 2 * s) = A (1 + 96 + 2 * s) := up_o (by omega)
    have e2 : up A 2 k (A 2 k + 1) (1 + 96 + 2 * s + 1) = A (1 + 96 + 2 * s + 1) := up_o (by omega)
    show ((up A 2 k (A 2 k + 1) (1 + 96 + 2 * s) 1 = -1 ∧ _) ∨ ((0 ≤ up A 2 k (A 2 k + 1) (1 + 96 + 2 * s) 1 ∧ up A 2 k (A 2 k + 1) (1 + 96 + 2 * s) 1 ≤ 4) ∧ _ = 100 + up A 2 k (A 2 k + 1) (1 + 96 + 2 * s) 1) ∨ ((10 ≤ up A 2 k (A 2 k + 1) (1 + 96 + 2 * s) 1 ∧ up A 2 k (A 2 k + 1) (1 + 96 + 2 * s) 1 < _) ∧ _ = up A 2 k (A 2 k + 1) (1 + 96 + 2 * s) 1 - 10)) ∧ (0 ≤ up A 2 k (A 2 k + 1) (1 + 96 + 2 * s) 2 ∧ up A 2 k (A 2 k + 1) (1 + 96 + 2 * s) 2 ≤ 40 ∧ _ = up A 2 k (A 2 k + 1) (1 + 96 + 2 * s) 2) ∧ ∀ i : Nat, i < 40 → _ = up A 2 k (A 2 k + 1) (1 + 96 + 2 * s + 1) i
    rw [e, e2]
    exact q
  · have q := (r_rf h).1 j hj
    show 0 ≤ up A 2 k (A 2 k + 1) 2 j ∧ up A 2 k (A 2 k + 1) 2 j ≤ _ ∧ up B 237 (k + 2) (B 237 (k + 2) + 1) 237 (j + 2) = up A 2 k (A 2 k + 1) 2 j
    rw [up_k, up_k]
    by_cases e : j = k
    · subst e
      rw [us_k, us_k]
      omega
    · rw [us_o e, us_o (by omega)]
      omega
  · show up B 237 (k + 2) (B 237 (k + 2) + 1) 237 0 = 0
    rw [up_k, us_o (by omega)]
    exact (r_rf h).2.1
  · show up B 237 (k + 2) (B 237 (k + 2) + 1) 237 1 = 0
    rw [up_k, us_o (by omega)]
    exact (r_rf h).2.2
/-- what is not touched -/
theorem fr_0 {X : Mem} {P : Nat → Prop} : ∀ a, P a → X a = X a := fun _ _ => rfl
theorem fr_up {X Y : Mem} {k j : Nat} {x : Int} (hk : k < 200) (h : ∀ a, 200 ≤ a → X a = Y a) : ∀ a, 200 ≤ a → up X k j x a = Y a := fun a ha => by rw [up_o (by omega)]; exact h a ha
theorem fr_sr {X Y : Mem} {k : Nat} {f : Nat → Int} (hk : k < 200) (h : ∀ a, 200 ≤ a → X a = Y a) : ∀ a, 200 ≤ a → sr X k f a = Y a := fun a ha => by rw [sr_o (by omega)]; exact h a ha
theorem fr_cp {X Y : Mem} {k sp dp c : Nat} {f : Nat → Int} (hk : k < 200) (h : ∀ a, 200 ≤ a → X a = Y a) : ∀ a, 200 ≤ a → cp X k f sp dp c a = Y a := fun a ha => by rw [cp_o (by omega)]; exact h a ha
theorem gr_up {X Y : Mem} {k j : Nat} {x : Int} (hk : 200 ≤ k) (h : ∀ a, a < 200 → X a = Y a) : ∀ a, a < 200 → up X k j x a = Y a := fun a ha => by rw [up_o (by omega)]; exact h a ha
theorem gr_sr {X Y : Mem} {k : Nat} {f : Nat → Int} (hk : 200 ≤ k) (h : ∀ a, a < 200 → X a = Y a) : ∀ a, a < 200 → sr X k f a = Y a := fun a ha => by rw [sr_o (by omega)]; exact h a ha
theorem gr_cp {X Y : Mem} {k sp dp c : Nat} {f : Nat → Int} (hk : 200 ≤ k) (h : ∀ a, a < 200 → X a = Y a) : ∀ a, a < 200 → cp X k f sp dp c a = Y a := fun a ha => by rw [cp_o (by omega)]; exact h a ha
