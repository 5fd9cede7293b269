/-! image, back: what is kept -/
theorem hx_cg {n : Nat} {tc lc wc bc tb sc ec ha bg ho tk : Int} {k w c p b d lk lg ll ws bh bp bw be bm y ch g bo st sp : Nat → Int} {k' w' c' p' b' d' lk' lg' ll' ws' bh' bp' bw' be' bm' y' ch' g' bo' st' sp' : Nat → Int} (hh : HX n tc lc wc bc tb sc ec ha bg ho tk k w c p b d lk lg ll ws bh bp bw be bm y ch g bo st sp) (qk : ∀ j : Nat, j < 30 → k' j = k j) (qw : ∀ j : Nat, j < 30 → w' j = w j) (qc : ∀ j : Nat, j < 30 → c' j = c j) (qp : ∀ j : Nat, j < 30 → p' j = p j) (qb : ∀ j : Nat, j < 30 → b' j = b j) (qd : ∀ j : Nat, j < 30 → d' j = d j) (qlk : ∀ j : Nat, j < 5 → lk' j = lk j) (qlg : ∀ j : Nat, j < 5 → lg' j = lg j) (qll : ∀ j : Nat, j < 5 → ll' j = ll j) (qws : ∀ j : Nat, j < 30 → ws' j = ws j) (qbh : ∀ j : Nat, j < 12 → bh' j = bh j) (qbp : ∀ j : Nat, j < 12 → bp' j = bp j) (qbw : ∀ j : Nat, j < 12 → bw' j = bw j) (qbe : ∀ j : Nat, j < 12 → be' j = be j) (qbm : ∀ j : Nat, j < 12 → bm' j = bm j) (qy : ∀ j : Nat, j < 20 → y' j = y j) (qch : ∀ j : Nat, j < 20 → ch' j = ch j) (qg : ∀ j : Nat, j < 20 → g' j = g j) (qbo : ∀ j : Nat, j < 20 → bo' j = bo j) (qst : ∀ j : Nat, j < 10 → st' j = st j) (qsp : ∀ j : Nat, j < 10 → sp' j = sp j) : HX n tc lc wc bc tb sc ec ha bg ho tk k' w' c' p' b' d' lk' lg' ll' ws' bh' bp' bw' be' bm' y' ch' g' bo' st' sp' :=
  HX_mk (hx_tc hh) (hx_lc hh) (hx_wc hh) (hx_bc hh) (hx_tb hh) (hx_sc hh) (hx_ec hh) (hx_hr hh) (hx_tk hh) (fun j hj => by rw [qk j hj, qw j hj, qc j hj, qp j hj, qb j hj, qd j hj]; exact hx_th hh j hj) (fun j hj => by rw [qb j hj, qd j hj]; exact hx_pd hh j hj) (fun j hj => by rw [qlk j hj, qlg j hj]; exact hx_la hh j hj) (fun j hj => by rw [qll j hj]; exact hx_ll hh j hj) (fun w h0 h1 => by have q := hx_wc hh; rw [qws _ (by omega), qws _ (by omega), qws _ (by omega), qws _ (by omega), qws _ (by omega)]; exact hx_lw hh w h0 h1) (fun j hj => by rw [qbh j hj, qbp j hj, qbw j hj, qbe j hj]; exact hx_bu hh j hj) (fun j hj => by rw [qbm j hj]; exact hx_mn hh j hj) (fun j hj => by rw [qy j hj, qch j hj, qg j hj, qbo j hj]; exact hx_si hh j hj) (fun j hj => by rw [qst j hj, qsp j hj]; exact hx_se hh j hj)
theorem hi_cg {n : Nat} {A X : Mem} (h : HI n A) (e : ∀ a, 5 ≤ a → a < 46 → X a = A a) : HI n X := by
  unfold HI at h ⊢
  rw [e 5 (by decide) (by decide), e 6 (by decide) (by decide), e 14 (by decide) (by decide), e 18 (by decide) (by decide), e 21 (by decide) (by decide), e 27 (by decide) (by decide), e 35 (by decide) (by decide), e 7 (by decide) (by decide), e 8 (by decide) (by decide), e 9 (by decide) (by decide), e 10 (by decide) (by decide), e 11 (by decide) (by decide), e 12 (by decide) (by decide), e 15 (by decide) (by decide), e 16 (by decide) (by decide), e 17 (by decide) (by decide), e 19 (by decide) (by decide), e 22 (by decide) (by decide), e 23 (by decide) (by decide), e 24 (by decide) (by decide), e 25 (by decide) (by decide), e 26 (by decide) (by decide), e 28 (by decide) (by decide), e 29 (by decide) (by decide), e 30 (by decide) (by decide), e 31 (by decide) (by decide), e 36 (by decide) (by decide), e 37 (by decide) (by decide)]
  exact h
theorem hk_cg {n : Nat} {A X : Mem} (h : HK n A) (e : ∀ a, 46 ≤ a → a < 85 → X a = A a) : HK n X := by
  unfold HK at h ⊢
  rw [e 46 (by decide) (by decide), e 47 (by decide) (by decide), e 55 (by decide) (by decide), e 59 (by decide) (by decide), e 62 (by decide) (by decide), e 68 (by decide) (by decide), e 76 (by decide) (by decide), e 48 (by decide) (by decide), e 49 (by decide) (by decide), e 50 (by decide) (by decide), e 51 (by decide) (by decide), e 52 (by decide) (by decide), e 53 (by decide) (by decide), e 56 (by decide) (by decide), e 57 (by decide) (by decide), e 58 (by decide) (by decide), e 60 (by decide) (by decide), e 63 (by decide) (by decide), e 64 (by decide) (by decide), e 65 (by decide) (by decide), e 66 (by decide) (by decide), e 67 (by decide) (by decide), e 69 (by decide) (by decide), e 70 (by decide) (by decide), e 71 (by decide) (by decide), e 72 (by decide) (by decide), e 77 (by decide) (by decide), e 78 (by decide) (by decide)]
  exact h
theorem eq_cg {A X B Y : Mem} (h : EQ A B) (e : ∀ a, 5 ≤ a → a < 46 → X a = A a) (f : ∀ a, 201 ≤ a → a < 239 → Y a = B a) (g : ∀ j, j < 37 → Y 200 j = B 200 j) : EQ X Y := by
  refine EQ_mk (by rw [f 205 (by decide) (by decide), e 7 (by decide) (by decide)]; exact eq_e7 h) (by rw [f 206 (by decide) (by decide), e 8 (by decide) (by decide)]; exact eq_e8 h) (by rw [f 207 (by decide) (by decide), e 9 (by decide) (by decide)]; exact eq_e9 h) (by rw [f 208 (by decide) (by decide), e 10 (by decide) (by decide)]; exact eq_e10 h) (by rw [f 209 (by decide) (by decide), e 11 (by decide) (by decide)]; exact eq_e11 h) (by rw [f 210 (by decide) (by decide), e 12 (by decide) (by decide)]; exact eq_e12 h) (by rw [f 212 (by decide) (by decide), e 15 (by decide) (by decide)]; exact eq_e15 h) (by rw [f 213 (by decide) (by decide), e 16 (by decide) (by decide)]; exact eq_e16 h) (by rw [f 214 (by decide) (by decide), e 17 (by decide) (by decide)]; exact eq_e17 h) (by rw [f 220 (by decide) (by decide), e 22 (by decide) (by decide)]; exact eq_e22 h) (by rw [f 221 (by decide) (by decide), e 23 (by decide) (by decide)]; exact eq_e23 h) (by rw [f 222 (by decide) (by decide), e 24 (by decide) (by decide)]; exact eq_e24 h) (by rw [f 223 (by decide) (by decide), e 25 (by decide) (by decide)]; exact eq_e25 h) (by rw [f 224 (by decide) (by decide), e 26 (by decide) (by decide)]; exact eq_e26 h) (by rw [f 226 (by decide) (by decide), e 43 (by decide) (by decide)]; exact eq_e43 h) (by rw [f 228 (by decide) (by decide), e 28 (by decide) (by decide)]; exact eq_e28 h) (by rw [f 229 (by decide) (by decide), e 29 (by decide) (by decide)]; exact eq_e29 h) (by rw [f 230 (by decide) (by decide), e 30 (by decide) (by decide)]; exact eq_e30 h) (by rw [f 231 (by decide) (by decide), e 31 (by decide) (by decide)]; exact eq_e31 h) (by rw [f 233 (by decide) (by decide), e 36 (by decide) (by decide)]; exact eq_e36 h) (by rw [f 234 (by decide) (by decide), e 37 (by decide) (by decide)]; exact eq_e37 h) (by rw [f 235 (by decide) (by decide), e 38 (by decide) (by decide)]; exact eq_e38 h) (by rw [g 3 (by decide), e 6 (by decide) (by decide)]; exact eq_tc h) (by rw [g 10 (by decide), e 14 (by decide) (by decide)]; exact eq_lc h) (by rw [g 14 (by decide), e 18 (by decide) (by decide)]; exact eq_wc h) (by rw [g 18 (by decide), e 21 (by decide) (by decide)]; exact eq_bc h) (by rw [g 24 (by decide), e 5 (by decide) (by decide)]; exact eq_tb h) (by rw [g 26 (by decide), e 27 (by decide) (by decide)]; exact eq_sc h) (by rw [g 31 (by decide), e 35 (by decide) (by decide)]; exact eq_ec h) (by rw [f 236 (by decide) (by decide), e 5 (by decide) (by decide)]; exact eq_h8 h) (by rw [f 236 (by decide) (by decide), e 5 (by decide) (by decide)]; exact eq_h9 h) (by rw [f 236 (by decide) (by decide), e 5 (by decide) (by decide)]; exact eq_h10 h) (by rw [f 236 (by decide) (by decide), e 5 (by decide) (by decide)]; exact eq_h11 h) (by rw [f 216 (by decide) (by decide), e 18 (by decide) (by decide), e 19 (by decide) (by decide)]; exact eq_lw h)
theorem seg_lo {f g : Nat → Int} {sp dp n x : Nat} (h : x < dp) : cpf f g sp dp n x = g x := by unfold cpf; rw [if_neg (by omega)]
theorem seg_in {f g : Nat → Int} {dp n j : Nat} (h : j < n) : cpf f g 0 dp n (dp + j) = f j := by unfold cpf; rw [if_pos (by omega), show 0 + (dp + j - dp) = j by omega]
theorem seg_0 {f g : Nat → Int} {n j : Nat} (h : j < n) : cpf f g 0 0 n j = f j := by unfold cpf; rw [if_pos (by omega), show 0 + (j - 0) = j by omega]
theorem seg_f {f g : Nat → Int} {sp n j : Nat} (h : j < n) : cpf f g sp 0 n j = f (sp + j) := by unfold cpf; rw [if_pos (by omega), show sp + (j - 0) = sp + j by omega]
theorem seg_x {f g : Nat → Int} {sp n j : Nat} (h : ¬ j < n) : cpf f g sp 0 n j = g j := by unfold cpf; rw [if_neg (by omega)]
theorem mvK_239 {M : Mem} : mvK M 239 = cpf (M 236) (cpf (M 235) (cpf (M 234) (cpf (M 233) (cpf (M 231) (cpf (M 230) (cpf (M 229) (cpf (M 228) (cpf (M 226) (cpf (M 224) (cpf (M 223) (cpf (M 222) (cpf (M 221) (cpf (M 220) (cpf (M 216) (cpf (M 214) (cpf (M 213) (cpf (M 212) (cpf (M 210) (cpf (M 209) (cpf (M 208) (cpf (M 207) (cpf (M 206) (cpf (M 205) (cpf (M 240) (M 239) 0 0 7) 0 7 30) 0 37 30) 0 67 30) 0 97 30) 0 127 30) 0 157 30) 0 187 5) 0 192 5) 0 197 5) 0 202 30) 0 232 12) 0 244 12) 0 256 12) 0 268 12) 0 280 12) 0 292 5) 0 297 20) 0 317 20) 0 337 20) 0 357 20) 0 377 10) 0 387 10) 0 397 16) 0 413 4 := rfl
theorem mvK_o {M : Mem} {a : Nat} (h : a ≠ 239) : mvK M a = M a := by
  unfold mvK
  rw [cp_o h, cp_o h, cp_o h, cp_o h, cp_o h, cp_o h, cp_o h, cp_o h, cp_o h, cp_o h, cp_o h, cp_o h, cp_o h, cp_o h, cp_o h, cp_o h, cp_o h, cp_o h, cp_o h, cp_o h, cp_o h, cp_o h, cp_o h, cp_o h, cp_o h]
theorem mvK_s240 {M : Mem} {j : Nat} (h : j < 7) : mvK M 239 (0 + j) = M 240 j := by
  rw [mvK_239]
  exact (seg_lo (by omega)).trans ((seg_lo (by omega)).trans ((seg_lo (by omega)).trans ((seg_lo (by omega)).trans ((seg_lo (by omega)).trans ((seg_lo (by omega)).trans ((seg_lo (by omega)).trans ((seg_lo (by omega)).trans ((seg_lo (by omega)).trans ((seg_lo (by omega)).trans ((seg_lo (by omega)).trans ((seg_lo (by omega)).trans ((seg_lo (by omega)).trans ((seg_lo (by omega)).trans ((seg_lo (by omega)).trans ((seg_lo (by omega)).trans ((seg_lo (by omega)).trans ((seg_lo (by omega)).trans ((seg_lo (by omega)).trans ((seg_lo (by omega)).trans ((seg_lo (by omega)).trans ((seg_lo (by omega)).trans ((seg_lo (by omega)).trans ((seg_lo (by omega)).trans (seg_in h))))))))))))))))))))))))
theorem mvK_s205 {M : Mem} {j : Nat} (h : j < 30) : mvK M 239 (7 + j) = M 205 j := by
  rw [mvK_239]
  exact (seg_lo (by omega)).trans ((seg_lo (by omega)).trans ((seg_lo (by omega)).trans ((seg_lo (by omega)).trans ((seg_lo (by omega)).trans ((seg_lo (by omega)).trans ((seg_lo (by omega)).trans ((seg_lo (by omega)).trans ((seg_lo (by omega)).trans ((seg_lo (by omega)).trans ((seg_lo (by omega)).trans ((seg_lo (by omega)).trans ((seg_lo (by omega)).trans ((seg_lo (by omega)).trans ((seg_lo (by omega)).trans ((seg_lo (by omega)).trans ((seg_lo (by omega)).trans ((seg_lo (by omega)).trans ((seg_lo (by omega)).trans ((seg_lo (by omega)).trans ((seg_lo (by omega)).trans ((seg_lo (by omega)).trans ((seg_lo (by omega)).trans (seg_in h)))))))))))))))))))))))
theorem mvK_s206 {M : Mem} {j : Nat} (h : j < 30) : mvK M 239 (37 + j) = M 206 j := by
  rw [mvK_239]
  exact (seg_lo (by omega)).trans ((seg_lo (by omega)).trans ((seg_lo (by omega)).trans ((seg_lo (by omega)).trans ((seg_lo (by omega)).trans ((seg_lo (by omega)).trans ((seg_lo (by omega)).trans ((seg_lo (by omega)).trans ((seg_lo (by omega)).trans ((seg_lo (by omega)).trans ((seg_lo (by omega)).trans ((seg_lo (by omega)).trans ((seg_lo (by omega)).trans ((seg_lo (by omega)).trans ((seg_lo (by omega)).trans ((seg_lo (by omega)).trans ((seg_lo (by omega)).trans ((seg_lo (by omega)).trans ((seg_lo (by omega)).trans ((seg_lo (by omega)).trans ((seg_lo (by omega)).trans ((seg_lo (by omega)).trans (seg_in h))))))))))))))))))))))
theorem mvK_s207 {M : Mem} {j : Nat} (h : j < 30) : mvK M 239 (67 + j) = M 207 j := by
  rw [mvK_239]
  exact (seg_lo (by omega)).trans ((seg_lo (by omega)).trans ((seg_lo (by omega)).trans ((seg_lo (by omega)).trans ((seg_lo (by omega)).trans ((seg_lo (by omega)).trans ((seg_lo (by omega)).trans ((seg_lo (by omega)).trans ((seg_lo (by omega)).trans ((seg_lo (by omega)).trans ((seg_lo (by omega)).trans ((seg_lo (by omega)).trans ((seg_lo (by omega)).trans ((seg_lo (by omega)).trans ((seg_lo (by omega)).trans ((seg_lo (by omega)).trans ((seg_lo (by omega)).trans ((seg_lo (by omega)).trans ((seg_lo (by omega)).trans ((seg_lo (by omega)).trans ((seg_lo (by omega)).trans (seg_in h)))))))))))))))))))))
theorem mvK_s208 {M : Mem} {j : Nat} (h : j < 30) : mvK M 239 (97 + j) = M 208 j := by
  rw [mvK_239]
  exact (seg_lo (by omega)).trans ((seg_lo (by omega)).trans ((seg_lo (by omega)).trans ((seg_lo (by omega)).trans ((seg_lo (by omega)).trans ((seg_lo (by omega)).trans ((seg_lo (by omega)).trans ((seg_lo (by omega)).trans ((seg_lo (by omega)).trans ((seg_lo (by omega)).trans ((seg_lo (by omega)).trans ((seg_lo (by omega)).trans ((seg_lo (by omega)).trans ((seg_lo (by omega)).trans ((seg_lo (by omega)).trans ((seg_lo (by omega)).trans ((seg_lo (by omega)).trans ((seg_lo (by omega)).trans ((seg_lo (by omega)).trans ((seg_lo (by omega)).trans (seg_in h))))))))))))))))))))
theorem mvK_s209 {M : Mem} {j : Nat} (h : j < 30) : mvK M 239 (127 + j) = M 209 j := by
  rw [mvK_239]
  exact (seg_lo (by omega)).trans ((seg_lo (by omega)).trans ((seg_lo (by omega)).trans ((seg_lo (by omega)).trans ((seg_lo (by omega)).trans ((seg_lo (by omega)).trans ((seg_lo (by omega)).trans ((seg_lo (by omega)).trans ((seg_lo (by omega)).trans ((seg_lo (by omega)).trans ((seg_lo (by omega)).trans ((seg_lo (by omega)).trans ((seg_lo (by omega)).trans ((seg_lo (by omega)).trans ((seg_lo (by omega)).trans ((seg_lo (by omega)).trans ((seg_lo (by omega)).trans ((seg_lo (by omega)).trans ((seg_lo (by omega)).trans (seg_in h)))))))))))))))))))
theorem mvK_s210 {M : Mem} {j : Nat} (h : j < 30) : mvK M 239 (157 + j) = M 210 j := by
  rw [mvK_239]
  exact (seg_lo (by omega)).trans ((seg_lo (by omega)).trans ((seg_lo (by omega)).trans ((seg_lo (by omega)).trans ((seg_lo (by omega)).trans ((seg_lo (by omega)).trans ((seg_lo (by omega)).trans ((seg_lo (by omega)).trans ((seg_lo (by omega)).trans ((seg_lo (by omega)).trans ((seg_lo (by omega)).trans ((seg_lo (by omega)).trans ((seg_lo (by omega)).trans ((seg_lo (by omega)).trans ((seg_lo (by omega)).trans ((seg_lo (by omega)).trans ((seg_lo (by omega)).trans ((seg_lo (by omega)).trans (seg_in h))))))))))))))))))
theorem mvK_s212 {M : Mem} {j : Nat} (h : j < 5) : mvK M 239 (187 + j) = M 212 j := by
  rw [mvK_239]
  exact (seg_lo (by omega)).trans ((seg_lo (by omega)).trans ((seg_lo (by omega)).trans ((seg_lo (by omega)).trans ((seg_lo (by omega)).trans ((seg_lo (by omega)).trans ((seg_lo (by omega)).trans ((seg_lo (by omega)).trans ((seg_lo (by omega)).trans ((seg_lo (by omega)).trans ((seg_lo (by omega)).trans ((seg_lo (by omega)).trans ((seg_lo (by omega)).trans ((seg_lo (by omega)).trans ((seg_lo (by omega)).trans ((seg_lo (by omega)).trans ((seg_lo (by omega)).trans (seg_in h)))))))))))))))))
theorem mvK_s213 {M : Mem} {j : Nat} (h : j < 5) : mvK M 239 (192 + j) = M 213 j := by
  rw [mvK_239]
  exact (seg_lo (by omega)).trans ((seg_lo (by omega)).trans ((seg_lo (by omega)).trans ((seg_lo (by omega)).trans ((seg_lo (by omega)).trans ((seg_lo (by omega)).trans ((seg_lo (by omega)).trans ((seg_lo (by omega)).trans ((seg_lo (by omega)).trans ((seg_lo (by omega)).trans ((seg_lo (by omega)).trans ((seg_lo (by omega)).trans ((seg_lo (by omega)).trans ((seg_lo (by omega)).trans ((seg_lo (by omega)).trans ((seg_lo (by omega)).trans (seg_in h))))))))))))))))
theorem mvK_s214 {M : Mem} {j : Nat} (h : j < 5) : mvK M 239 (197 + j) = M 214 j := by
  rw [mvK_239]
  exact (seg_lo (by omega)).trans ((seg_lo (by omega)).trans ((seg_lo (by omega)).trans ((seg_lo (by omega)).trans ((seg_lo (by omega)).trans ((seg_lo (by omega)).trans ((seg_lo (by omega)).trans ((seg_lo (by omega)).trans ((seg_lo (by omega)).trans ((seg_lo (by omega)).trans ((seg_lo (by omega)).trans ((seg_lo (by omega)).trans ((seg_lo (by omega)).trans ((seg_lo (by omega)).trans ((seg_lo (by omega)).trans (seg_in h)))))))))))))))
theorem mvK_s216 {M : Mem} {j : Nat} (h : j < 30) : mvK M 239 (202 + j) = M 216 j := by
  rw [mvK_239]
  exact (seg_lo (by omega)).trans ((seg_lo (by omega)).trans ((seg_lo (by omega)).trans ((seg_lo (by omega)).trans ((seg_lo (by omega)).trans ((seg_lo (by omega)).trans ((seg_lo (by omega)).trans ((seg_lo (by omega)).trans ((seg_lo (by omega)).trans ((seg_lo (by omega)).trans ((seg_lo (by omega)).trans ((seg_lo (by omega)).trans ((seg_lo (by omega)).trans ((seg_lo (by omega)).trans (seg_in h))))))))))))))
theorem mvK_s220 {M : Mem} {j : Nat} (h : j < 12) : mvK M 239 (232 + j) = M 220 j := by
  rw [mvK_239]
  exact (seg_lo (by omega)).trans ((seg_lo (by omega)).trans ((seg_lo (by omega)).trans ((seg_lo (by omega)).trans ((seg_lo (by omega)).trans ((seg_lo (by omega)).trans ((seg_lo (by omega)).trans ((seg_lo (by omega)).trans ((seg_lo (by omega)).trans ((seg_lo (by omega)).trans ((seg_lo (by omega)).trans ((seg_lo (by omega)).trans ((seg_lo (by omega)).trans (seg_in h)))))))))))))
theorem mvK_s221 {M : Mem} {j : Nat} (h : j < 12) : mvK M 239 (244 + j) = M 221 j := by
  rw [mvK_239]
  exact (seg_lo (by omega)).trans ((seg_lo (by omega)).trans ((seg_lo (by omega)).trans ((seg_lo (by omega)).trans ((seg_lo (by omega)).trans ((seg_lo (by omega)).trans ((seg_lo (by omega)).trans ((seg_lo (by omega)).trans ((seg_lo (by omega)).trans ((seg_lo (by omega)).trans ((seg_lo (by omega)).trans ((seg_lo (by omega)).trans (seg_in h))))))))))))
theorem mvK_s222 {M : Mem} {j : Nat} (h : j < 12) : mvK M 239 (256 + j) = M 222 j := by
  rw [mvK_239]
  exact (seg_lo (by omega)).trans ((seg_lo (by omega)).trans ((seg_lo (by omega)).trans ((seg_lo (by omega)).trans ((seg_lo (by omega)).trans ((seg_lo (by omega)).trans ((seg_lo (by omega)).trans ((seg_lo (by omega)).trans ((seg_lo (by omega)).trans ((seg_lo (by omega)).trans ((seg_lo (by omega)).trans (seg_in h)))))))))))
theorem mvK_s223 {M : Mem} {j : Nat} (h : j < 12) : mvK M 239 (268 + j) = M 223 j := by
  rw [mvK_239]
  exact (seg_lo (by omega)).trans ((seg_lo (by omega)).trans ((seg_lo (by omega)).trans ((seg_lo (by omega)).trans ((seg_lo (by omega)).trans ((seg_lo (by omega)).trans ((seg_lo (by omega)).trans ((seg_lo (by omega)).trans ((seg_lo (by omega)).trans ((seg_lo (by omega)).trans (seg_in h))))))))))
theorem mvK_s224 {M : Mem} {j : Nat} (h : j < 12) : mvK M 239 (280 + j) = M 224 j := by
  rw [mvK_239]
  exact (seg_lo (by omega)).trans ((seg_lo (by omega)).trans ((seg_lo (by omega)).trans ((seg_lo (by omega)).trans ((seg_lo (by omega)).trans ((seg_lo (by omega)).trans ((seg_lo (by omega)).trans ((seg_lo (by omega)).trans ((seg_lo (by omega)).trans (seg_in h)))))))))
theorem mvK_s226 {M : Mem} {j : Nat} (h : j < 5) : mvK M 239 (292 + j) = M 226 j := by
  rw [mvK_239]
  exact (seg_lo (by omega)).trans ((seg_lo (by omega)).trans ((seg_lo (by omega)).trans ((seg_lo (by omega)).trans ((seg_lo (by omega)).trans ((seg_lo (by omega)).trans ((seg_lo (by omega)).trans ((seg_lo (by omega)).trans (seg_in h))))))))
theorem mvK_s228 {M : Mem} {j : Nat} (h : j < 20) : mvK M 239 (297 + j) = M 228 j := by
  rw [mvK_239]
  exact (seg_lo (by omega)).trans ((seg_lo (by omega)).trans ((seg_lo (by omega)).trans ((seg_lo (by omega)).trans ((seg_lo (by omega)).trans ((seg_lo (by omega)).trans ((seg_lo (by omega)).trans (seg_in h)))))))
theorem mvK_s229 {M : Mem} {j : Nat} (h : j < 20) : mvK M 239 (317 + j) = M 229 j := by
  rw [mvK_239]
  exact (seg_lo (by omega)).trans ((seg_lo (by omega)).trans ((seg_lo (by omega)).trans ((seg_lo (by omega)).trans ((seg_lo (by omega)).trans ((seg_lo (by omega)).trans (seg_in h))))))
theorem mvK_s230 {M : Mem} {j : Nat} (h : j < 20) : mvK M 239 (337 + j) = M 230 j := by
  rw [mvK_239]
  exact (seg_lo (by omega)).trans ((seg_lo (by omega)).trans ((seg_lo (by omega)).trans ((seg_lo (by omega)).trans ((seg_lo (by omega)).trans (seg_in h)))))
theorem mvK_s231 {M : Mem} {j : Nat} (h : j < 20) : mvK M 239 (357 + j) = M 231 j := by
  rw [mvK_239]
  exact (seg_lo (by omega)).trans ((seg_lo (by omega)).trans ((seg_lo (by omega)).trans ((seg_lo (by omega)).trans (seg_in h))))
theorem mvK_s233 {M : Mem} {j : Nat} (h : j < 10) : mvK M 239 (377 + j) = M 233 j := by
  rw [mvK_239]
  exact (seg_lo (by omega)).trans ((seg_lo (by omega)).trans ((seg_lo (by omega)).trans (seg_in h)))
theorem mvK_s234 {M : Mem} {j : Nat} (h : j < 10) : mvK M 239 (387 + j) = M 234 j := by
  rw [mvK_239]
  exact (seg_lo (by omega)).trans ((seg_lo (by omega)).trans (seg_in h))
theorem mvK_s235 {M : Mem} {j : Nat} (h : j < 16) : mvK M 239 (397 + j) = M 235 j := by
  rw [mvK_239]
  exact (seg_lo (by omega)).trans (seg_in h)
theorem mvK_s236 {M : Mem} {j : Nat} (h : j < 4) : mvK M 239 (413 + j) = M 236 j := by
  rw [mvK_239]
  exact seg_in h
theorem b46_48 {M : Mem} : bcm46 M 48 = cpf (M 7) (M 48) 0 0 30 := rfl
theorem b46_49 {M : Mem} : bcm46 M 49 = cpf (M 8) (M 49) 0 0 30 := rfl
theorem b46_50 {M : Mem} : bcm46 M 50 = cpf (M 9) (M 50) 0 0 30 := rfl
theorem b46_51 {M : Mem} : bcm46 M 51 = cpf (M 10) (M 51) 0 0 30 := rfl
theorem b46_52 {M : Mem} : bcm46 M 52 = cpf (M 11) (M 52) 0 0 30 := rfl
theorem b46_53 {M : Mem} : bcm46 M 53 = cpf (M 12) (M 53) 0 0 30 := rfl
theorem b46_56 {M : Mem} : bcm46 M 56 = cpf (M 15) (M 56) 0 0 5 := rfl
theorem b46_57 {M : Mem} : bcm46 M 57 = cpf (M 16) (M 57) 0 0 5 := rfl
theorem b46_58 {M : Mem} : bcm46 M 58 = cpf (M 17) (M 58) 0 0 5 := rfl
theorem b46_60 {M : Mem} : bcm46 M 60 = cpf (M 19) (M 60) 0 0 30 := rfl
theorem b46_63 {M : Mem} : bcm46 M 63 = cpf (M 22) (M 63) 0 0 12 := rfl
theorem b46_64 {M : Mem} : bcm46 M 64 = cpf (M 23) (M 64) 0 0 12 := rfl
theorem b46_65 {M : Mem} : bcm46 M 65 = cpf (M 24) (M 65) 0 0 12 := rfl
theorem b46_66 {M : Mem} : bcm46 M 66 = cpf (M 25) (M 66) 0 0 12 := rfl
theorem b46_67 {M : Mem} : bcm46 M 67 = cpf (M 26) (M 67) 0 0 12 := rfl
theorem b46_69 {M : Mem} : bcm46 M 69 = cpf (M 28) (M 69) 0 0 20 := rfl
theorem b46_70 {M : Mem} : bcm46 M 70 = cpf (M 29) (M 70) 0 0 20 := rfl
theorem b46_71 {M : Mem} : bcm46 M 71 = cpf (M 30) (M 71) 0 0 20 := rfl
theorem b46_72 {M : Mem} : bcm46 M 72 = cpf (M 31) (M 72) 0 0 20 := rfl
theorem b46_77 {M : Mem} : bcm46 M 77 = cpf (M 36) (M 77) 0 0 10 := rfl
theorem b46_78 {M : Mem} : bcm46 M 78 = cpf (M 37) (M 78) 0 0 10 := rfl
theorem b46_79 {M : Mem} : bcm46 M 79 = cpf (M 38) (M 79) 0 0 16 := rfl
theorem b46_84 {M : Mem} : bcm46 M 84 = cpf (M 43) (M 84) 0 0 5 := rfl
theorem b5_7 {M : Mem} : bcm5 M 7 = cpf (M 48) (M 7) 0 0 30 := rfl
theorem b5_8 {M : Mem} : bcm5 M 8 = cpf (M 49) (M 8) 0 0 30 := rfl
theorem b5_9 {M : Mem} : bcm5 M 9 = cpf (M 50) (M 9) 0 0 30 := rfl
theorem b5_10 {M : Mem} : bcm5 M 10 = cpf (M 51) (M 10) 0 0 30 := rfl
theorem b5_11 {M : Mem} : bcm5 M 11 = cpf (M 52) (M 11) 0 0 30 := rfl
theorem b5_12 {M : Mem} : bcm5 M 12 = cpf (M 53) (M 12) 0 0 30 := rfl
theorem b5_15 {M : Mem} : bcm5 M 15 = cpf (M 56) (M 15) 0 0 5 := rfl
theorem b5_16 {M : Mem} : bcm5 M 16 = cpf (M 57) (M 16) 0 0 5 := rfl
theorem b5_17 {M : Mem} : bcm5 M 17 = cpf (M 58) (M 17) 0 0 5 := rfl
theorem b5_19 {M : Mem} : bcm5 M 19 = cpf (M 60) (M 19) 0 0 30 := rfl
theorem b5_22 {M : Mem} : bcm5 M 22 = cpf (M 63) (M 22) 0 0 12 := rfl
theorem b5_23 {M : Mem} : bcm5 M 23 = cpf (M 64) (M 23) 0 0 12 := rfl
theorem b5_24 {M : Mem} : bcm5 M 24 = cpf (M 65) (M 24) 0 0 12 := rfl
theorem b5_25 {M : Mem} : bcm5 M 25 = cpf (M 66) (M 25) 0 0 12 := rfl
theorem b5_26 {M : Mem} : bcm5 M 26 = cpf (M 67) (M 26) 0 0 12 := rfl
theorem b5_28 {M : Mem} : bcm5 M 28 = cpf (M 69) (M 28) 0 0 20 := rfl
theorem b5_29 {M : Mem} : bcm5 M 29 = cpf (M 70) (M 29) 0 0 20 := rfl
theorem b5_30 {M : Mem} : bcm5 M 30 = cpf (M 71) (M 30) 0 0 20 := rfl
theorem b5_31 {M : Mem} : bcm5 M 31 = cpf (M 72) (M 31) 0 0 20 := rfl
theorem b5_36 {M : Mem} : bcm5 M 36 = cpf (M 77) (M 36) 0 0 10 := rfl
theorem b5_37 {M : Mem} : bcm5 M 37 = cpf (M 78) (M 37) 0 0 10 := rfl
theorem b5_38 {M : Mem} : bcm5 M 38 = cpf (M 79) (M 38) 0 0 16 := rfl
theorem b5_43 {M : Mem} : bcm5 M 43 = cpf (M 84) (M 43) 0 0 5 := rfl
theorem b46_o {M : Mem} {a : Nat} (h : a < 46 ∨ 85 ≤ a) : bcm46 M a = M a := by
  unfold bcm46
  rw [up_o (by omega), up_o (by omega), up_o (by omega), up_o (by omega), up_o (by omega), cp_o (by omega), up_o (by omega), cp_o (by omega), cp_o (by omega), cp_o (by omega), up_o (by omega), cp_o (by omega), cp_o (by omega), cp_o (by omega), cp_o (by omega), up_o (by omega), cp_o (by omega), cp_o (by omega), cp_o (by omega), cp_o (by omega), cp_o (by omega), up_o (by omega), cp_o (by omega), up_o (by omega), cp_o (by omega), cp_o (by omega), cp_o (by omega), up_o (by omega), cp_o (by omega), cp_o (by omega), cp_o (by omega), cp_o (by omega), cp_o (by omega), cp_o (by omega)]
theorem b5_o {M : Mem} {a : Nat} (h : a < 5 ∨ 44 ≤ a) : bcm5 M a = M a := by
  unfold bcm5
  rw [up_o (by omega), up_o (by omega), up_o (by omega), up_o (by omega), up_o (by omega), cp_o (by omega), up_o (by omega), cp_o (by omega), cp_o (by omega), cp_o (by omega), up_o (by omega), cp_o (by omega), cp_o (by omega), cp_o (by omega), cp_o (by omega), up_o (by omega), cp_o (by omega), cp_o (by omega), cp_o (by omega), cp_o (by omega), cp_o (by omega), up_o (by omega), cp_o (by omega), up_o (by omega), cp_o (by omega), cp_o (by omega), cp_o (by omega), up_o (by omega), cp_o (by omega), cp_o (by omega), cp_o (by omega), cp_o (by omega), cp_o (by omega), cp_o (by omega)]
def imF (M : Mem) : Mem := up (mvK (up (up (up (up (up (up (up M 240 0 (M 200 3)) 240 1 (M 200 10)) 240 2 (M 200 14)) 240 3 (M 200 18)) 240 4 (M 200 24)) 240 5 (M 200 26)) 240 6 (M 200 31))) 200 37 1
def imE (M : Mem) : Mem := up (bcm46 M) 0 7 1
theorem imE_o {M : Mem} {a : Nat} (h : (0 < a ∧ a < 46) ∨ 85 ≤ a) : imE M a = M a := by
  unfold imE
  rw [up_o (by omega)]
  exact b46_o (by omega)
theorem imF_o {M : Mem} {a : Nat} (h : a ≠ 200 ∧ a ≠ 239 ∧ a ≠ 240) : imF M a = M a := by
  unfold imF
  rw [up_o h.1, mvK_o h.2.1, up_o h.2.2, up_o h.2.2, up_o h.2.2, up_o h.2.2, up_o h.2.2, up_o h.2.2, up_o h.2.2]
theorem imF_200 {M : Mem} {j : Nat} (h : j ≠ 37) : imF M 200 j = M 200 j := by
  unfold imF
  rw [up_k, us_o h, mvK_o (by decide), up_o (show (200 : Nat) ≠ 240 by decide), up_o (show (200 : Nat) ≠ 240 by decide), up_o (show (200 : Nat) ≠ 240 by decide), up_o (show (200 : Nat) ≠ 240 by decide), up_o (show (200 : Nat) ≠ 240 by decide), up_o (show (200 : Nat) ≠ 240 by decide), up_o (show (200 : Nat) ≠ 240 by decide)]
theorem imF_239 {M : Mem} : imF M 239 = mvK (up (up (up (up (up (up (up M 240 0 (M 200 3)) 240 1 (M 200 10)) 240 2 (M 200 14)) 240 3 (M 200 18)) 240 4 (M 200 24)) 240 5 (M 200 26)) 240 6 (M 200 31)) 239 := up_o (by decide)
theorem imF_s205 {M : Mem} {j : Nat} (h : j < 30) : imF M 239 (7 + j) = M 205 j := by
  rw [imF_239, mvK_s205 h, up_o (show (205 : Nat) ≠ 240 by decide), up_o (show (205 : Nat) ≠ 240 by decide), up_o (show (205 : Nat) ≠ 240 by decide), up_o (show (205 : Nat) ≠ 240 by decide), up_o (show (205 : Nat) ≠ 240 by decide), up_o (show (205 : Nat) ≠ 240 by decide), up_o (show (205 : Nat) ≠ 240 by decide)]
theorem imF_s206 {M : Mem} {j : Nat} (h : j < 30) : imF M 239 (37 + j) = M 206 j := by
  rw [imF_239, mvK_s206 h, up_o (show (206 : Nat) ≠ 240 by decide), up_o (show (206 : Nat) ≠ 240 by decide), up_o (show (206 : Nat) ≠ 240 by decide), up_o (show (206 : Nat) ≠ 240 by decide), up_o (show (206 : Nat) ≠ 240 by decide), up_o (show (206 : Nat) ≠ 240 by decide), up_o (show (206 : Nat) ≠ 240 by decide)]
theorem imF_s207 {M : Mem} {j : Nat} (h : j < 30) : imF M 239 (67 + j) = M 207 j := by
  rw [imF_239, mvK_s207 h, up_o (show (207 : Nat) ≠ 240 by decide), up_o (show (207 : Nat) ≠ 240 by decide), up_o (show (207 : Nat) ≠ 240 by decide), up_o (show (207 : Nat) ≠ 240 by decide), up_o (show (207 : Nat) ≠ 240 by decide), up_o (show (207 : Nat) ≠ 240 by decide), up_o (show (207 : Nat) ≠ 240 by decide)]
theorem imF_s208 {M : Mem} {j : Nat} (h : j < 30) : imF M 239 (97 + j) = M 208 j := by
  rw [imF_239, mvK_s208 h, up_o (show (208 : Nat) ≠ 240 by decide), up_o (show (208 : Nat) ≠ 240 by decide), up_o (show (208 : Nat) ≠ 240 by decide), up_o (show (208 : Nat) ≠ 240 by decide), up_o (show (208 : Nat) ≠ 240 by decide), up_o (show (208 : Nat) ≠ 240 by decide), up_o (show (208 : Nat) ≠ 240 by decide)]
theorem imF_s209 {M : Mem} {j : Nat} (h : j < 30) : imF M 239 (127 + j) = M 209 j := by
  rw [imF_239, mvK_s209 h, up_o (show (209 : Nat) ≠ 240 by decide), up_o (show (209 : Nat) ≠ 240 by decide), up_o (show (209 : Nat) ≠ 240 by decide), up_o (show (209 : Nat) ≠ 240 by decide), up_o (show (209 : Nat) ≠ 240 by decide), up_o (show (209 : Nat) ≠ 240 by decide), up_o (show (209 : Nat) ≠ 240 by decide)]
theorem imF_s210 {M : Mem} {j : Nat} (h : j < 30) : imF M 239 (157 + j) = M 210 j := by
  rw [imF_239, mvK_s210 h, up_o (show (210 : Nat) ≠ 240 by decide), up_o (show (210 : Nat) ≠ 240 by decide), up_o (show (210 : Nat) ≠ 240 by decide), up_o (show (210 : Nat) ≠ 240 by decide), up_o (show (210 : Nat) ≠ 240 by decide), up_o (show (210 : Nat) ≠ 240 by decide), up_o (show (210 : Nat) ≠ 240 by decide)]
theorem imF_s212 {M : Mem} {j : Nat} (h : j < 5) : imF M 239 (187 + j) = M 212 j := by
  rw [imF_239, mvK_s212 h, up_o (show (212 : Nat) ≠ 240 by decide), up_o (show (212 : Nat) ≠ 240 by decide), up_o (show (212 : Nat) ≠ 240 by decide), up_o (show (212 : Nat) ≠ 240 by decide), up_o (show (212 : Nat) ≠ 240 by decide), up_o (show (212 : Nat) ≠ 240 by decide), up_o (show (212 : Nat) ≠ 240 by decide)]
theorem imF_s213 {M : Mem} {j : Nat} (h : j < 5) : imF M 239 (192 + j) = M 213 j := by
  rw [imF_239, mvK_s213 h, up_o (show (213 : Nat) ≠ 240 by decide), up_o (show (213 : Nat) ≠ 240 by decide), up_o (show (213 : Nat) ≠ 240 by decide), up_o (show (213 : Nat) ≠ 240 by decide), up_o (show (213 : Nat) ≠ 240 by decide), up_o (show (213 : Nat) ≠ 240 by decide), up_o (show (213 : Nat) ≠ 240 by decide)]
theorem imF_s214 {M : Mem} {j : Nat} (h : j < 5) : imF M 239 (197 + j) = M 214 j := by
  rw [imF_239, mvK_s214 h, up_o (show (214 : Nat) ≠ 240 by decide), up_o (show (214 : Nat) ≠ 240 by decide), up_o (show (214 : Nat) ≠ 240 by decide), up_o (show (214 : Nat) ≠ 240 by decide), up_o (show (214 : Nat) ≠ 240 by decide), up_o (show (214 : Nat) ≠ 240 by decide), up_o (show (214 : Nat) ≠ 240 by decide)]
theorem imF_s216 {M : Mem} {j : Nat} (h : j < 30) : imF M 239 (202 + j) = M 216 j := by
  rw [imF_239, mvK_s216 h, up_o (show (216 : Nat) ≠ 240 by decide), up_o (show (216 : Nat) ≠ 240 by decide), up_o (show (216 : Nat) ≠ 240 by decide), up_o (show (216 : Nat) ≠ 240 by decide), up_o (show (216 : Nat) ≠ 240 by decide), up_o (show (216 : Nat) ≠ 240 by decide), up_o (show (216 : Nat) ≠ 240 by decide)]
theorem imF_s220 {M : Mem} {j : Nat} (h : j < 12) : imF M 239 (232 + j) = M 220 j := by
  rw [imF_239, mvK_s220 h, up_o (show (220 : Nat) ≠ 240 by decide), up_o (show (220 : Nat) ≠ 240 by decide), up_o (show (220 : Nat) ≠ 240 by decide), up_o (show (220 : Nat) ≠ 240 by decide), up_o (show (220 : Nat) ≠ 240 by decide), up_o (show (220 : Nat) ≠ 240 by decide), up_o (show (220 : Nat) ≠ 240 by decide)]
theorem imF_s221 {M : Mem} {j : Nat} (h : j < 12) : imF M 239 (244 + j) = M 221 j := by
  rw [imF_239, mvK_s221 h, up_o (show (221 : Nat) ≠ 240 by decide), up_o (show (221 : Nat) ≠ 240 by decide), up_o (show (221 : Nat) ≠ 240 by decide), up_o (show (221 : Nat) ≠ 240 by decide), up_o (show (221 : Nat) ≠ 240 by decide), up_o (show (221 : Nat) ≠ 240 by decide), up_o (show (221 : Nat) ≠ 240 by decide)]
theorem imF_s222 {M : Mem} {j : Nat} (h : j < 12) : imF M 239 (256 + j) = M 222 j := by
  rw [imF_239, mvK_s222 h, up_o (show (222 : Nat) ≠ 240 by decide), up_o (show (222 : Nat) ≠ 240 by decide), up_o (show (222 : Nat) ≠ 240 by decide), up_o (show (222 : Nat) ≠ 240 by decide), up_o (show (222 : Nat) ≠ 240 by decide), up_o (show (222 : Nat) ≠ 240 by decide), up_o (show (222 : Nat) ≠ 240 by decide)]
theorem imF_s223 {M : Mem} {j : Nat} (h : j < 12) : imF M 239 (268 + j) = M 223 j := by
  rw [imF_239, mvK_s223 h, up_o (show (223 : Nat) ≠ 240 by decide), up_o (show (223 : Nat) ≠ 240 by decide), up_o (show (223 : Nat) ≠ 240 by decide), up_o (show (223 : Nat) ≠ 240 by decide), up_o (show (223 : Nat) ≠ 240 by decide), up_o (show (223 : Nat) ≠ 240 by decide), up_o (show (223 : Nat) ≠ 240 by decide)]
theorem imF_s224 {M : Mem} {j : Nat} (h : j < 12) : imF M 239 (280 + j) = M 224 j := by
  rw [imF_239, mvK_s224 h, up_o (show (224 : Nat) ≠ 240 by decide), up_o (show (224 : Nat) ≠ 240 by decide), up_o (show (224 : Nat) ≠ 240 by decide), up_o (show (224 : Nat) ≠ 240 by decide), up_o (show (224 : Nat) ≠ 240 by decide), up_o (show (224 : Nat) ≠ 240 by decide), up_o (show (224 : Nat) ≠ 240 by decide)]
theorem imF_s226 {M : Mem} {j : Nat} (h : j < 5) : imF M 239 (292 + j) = M 226 j := by
  rw [imF_239, mvK_s226 h, up_o (show (226 : Nat) ≠ 240 by decide), up_o (show (226 : Nat) ≠ 240 by decide), up_o (show (226 : Nat) ≠ 240 by decide), up_o (show (226 : Nat) ≠ 240 by decide), up_o (show (226 : Nat) ≠ 240 by decide), up_o (show (226 : Nat) ≠ 240 by decide), up_o (show (226 : Nat) ≠ 240 by decide)]
theorem imF_s228 {M : Mem} {j : Nat} (h : j < 20) : imF M 239 (297 + j) = M 228 j := by
  rw [imF_239, mvK_s228 h, up_o (show (228 : Nat) ≠ 240 by decide), up_o (show (228 : Nat) ≠ 240 by decide), up_o (show (228 : Nat) ≠ 240 by decide), up_o (show (228 : Nat) ≠ 240 by decide), up_o (show (228 : Nat) ≠ 240 by decide), up_o (show (228 : Nat) ≠ 240 by decide), up_o (show (228 : Nat) ≠ 240 by decide)]
theorem imF_s229 {M : Mem} {j : Nat} (h : j < 20) : imF M 239 (317 + j) = M 229 j := by
  rw [imF_239, mvK_s229 h, up_o (show (229 : Nat) ≠ 240 by decide), up_o (show (229 : Nat) ≠ 240 by decide), up_o (show (229 : Nat) ≠ 240 by decide), up_o (show (229 : Nat) ≠ 240 by decide), up_o (show (229 : Nat) ≠ 240 by decide), up_o (show (229 : Nat) ≠ 240 by decide), up_o (show (229 : Nat) ≠ 240 by decide)]
theorem imF_s230 {M : Mem} {j : Nat} (h : j < 20) : imF M 239 (337 + j) = M 230 j := by
  rw [imF_239, mvK_s230 h, up_o (show (230 : Nat) ≠ 240 by decide), up_o (show (230 : Nat) ≠ 240 by decide), up_o (show (230 : Nat) ≠ 240 by decide), up_o (show (230 : Nat) ≠ 240 by decide), up_o (show (230 : Nat) ≠ 240 by decide), up_o (show (230 : Nat) ≠ 240 by decide), up_o (show (230 : Nat) ≠ 240 by decide)]
theorem imF_s231 {M : Mem} {j : Nat} (h : j < 20) : imF M 239 (357 + j) = M 231 j := by
  rw [imF_239, mvK_s231 h, up_o (show (231 : Nat) ≠ 240 by decide), up_o (show (231 : Nat) ≠ 240 by decide), up_o (show (231 : Nat) ≠ 240 by decide), up_o (show (231 : Nat) ≠ 240 by decide), up_o (show (231 : Nat) ≠ 240 by decide), up_o (show (231 : Nat) ≠ 240 by decide), up_o (show (231 : Nat) ≠ 240 by decide)]
theorem imF_s233 {M : Mem} {j : Nat} (h : j < 10) : imF M 239 (377 + j) = M 233 j := by
  rw [imF_239, mvK_s233 h, up_o (show (233 : Nat) ≠ 240 by decide), up_o (show (233 : Nat) ≠ 240 by decide), up_o (show (233 : Nat) ≠ 240 by decide), up_o (show (233 : Nat) ≠ 240 by decide), up_o (show (233 : Nat) ≠ 240 by decide), up_o (show (233 : Nat) ≠ 240 by decide), up_o (show (233 : Nat) ≠ 240 by decide)]
theorem imF_s234 {M : Mem} {j : Nat} (h : j < 10) : imF M 239 (387 + j) = M 234 j := by
  rw [imF_239, mvK_s234 h, up_o (show (234 : Nat) ≠ 240 by decide), up_o (show (234 : Nat) ≠ 240 by decide), up_o (show (234 : Nat) ≠ 240 by decide), up_o (show (234 : Nat) ≠ 240 by decide), up_o (show (234 : Nat) ≠ 240 by decide), up_o (show (234 : Nat) ≠ 240 by decide), up_o (show (234 : Nat) ≠ 240 by decide)]
theorem imF_s235 {M : Mem} {j : Nat} (h : j < 16) : imF M 239 (397 + j) = M 235 j := by
  rw [imF_239, mvK_s235 h, up_o (show (235 : Nat) ≠ 240 by decide), up_o (show (235 : Nat) ≠ 240 by decide), up_o (show (235 : Nat) ≠ 240 by decide), up_o (show (235 : Nat) ≠ 240 by decide), up_o (show (235 : Nat) ≠ 240 by decide), up_o (show (235 : Nat) ≠ 240 by decide), up_o (show (235 : Nat) ≠ 240 by decide)]
theorem imF_s236 {M : Mem} {j : Nat} (h : j < 4) : imF M 239 (413 + j) = M 236 j := by
  rw [imF_239, mvK_s236 h, up_o (show (236 : Nat) ≠ 240 by decide), up_o (show (236 : Nat) ≠ 240 by decide), up_o (show (236 : Nat) ≠ 240 by decide), up_o (show (236 : Nat) ≠ 240 by decide), up_o (show (236 : Nat) ≠ 240 by decide), up_o (show (236 : Nat) ≠ 240 by decide), up_o (show (236 : Nat) ≠ 240 by decide)]
theorem imF_c0 {M : Mem} : imF M 239 0 = M 200 3 := by
  rw [imF_239, show (0 : Nat) = 0 + 0 from rfl, mvK_s240 (show 0 < 7 by decide)]
  rfl
theorem imF_c1 {M : Mem} : imF M 239 1 = M 200 10 := by
  rw [imF_239, show (1 : Nat) = 0 + 1 from rfl, mvK_s240 (show 1 < 7 by decide)]
  rfl
theorem imF_c2 {M : Mem} : imF M 239 2 = M 200 14 := by
  rw [imF_239, show (2 : Nat) = 0 + 2 from rfl, mvK_s240 (show 2 < 7 by decide)]
  rfl
theorem imF_c3 {M : Mem} : imF M 239 3 = M 200 18 := by
  rw [imF_239, show (3 : Nat) = 0 + 3 from rfl, mvK_s240 (show 3 < 7 by decide)]
  rfl
theorem imF_c4 {M : Mem} : imF M 239 4 = M 200 24 := by
  rw [imF_239, show (4 : Nat) = 0 + 4 from rfl, mvK_s240 (show 4 < 7 by decide)]
  rfl
theorem imF_c5 {M : Mem} : imF M 239 5 = M 200 26 := by
  rw [imF_239, show (5 : Nat) = 0 + 5 from rfl, mvK_s240 (show 5 < 7 by decide)]
  rfl
theorem imF_c6 {M : Mem} : imF M 239 6 = M 200 31 := by
  rw [imF_239, show (6 : Nat) = 0 + 6 from rfl, mvK_s240 (show 6 < 7 by decide)]
  rfl
theorem imE_k {M : Mem} {a : Nat} (h : a ≠ 0) : imE M a = bcm46 M a := up_o h
theorem rel_image {n : Nat} {A B : Mem} (h0 : Rel n A B) : Rel (n + 1) (imE A) (imF B) := by
  have h := rel_s h0
  have e := r_eq h
  refine rel_mk (eq_cg e (fun a h0 h1 => imE_o (by omega)) (fun a h0 h1 => imF_o (by omega)) (fun j hj => imF_200 (by omega))) (hi_cg (r_hi h) (fun a h0 h1 => imE_o (by omega))) ⟨by show imE A 0 7 = imF B 200 37; unfold imE imF; rw [up_k, up_k, us_k, us_k], Or.inr ⟨by show imE A 0 7 = 1; unfold imE; rw [up_k, us_k], ?_, ?_⟩⟩ (sh_same (r_sh h) (by rw [imE_o (by omega)]; exact Int.le_refl _) (fun a h0 h1 => imE_o (by omega)) (imF_o (by omega)) (imF_o (by omega)) (imF_o (by omega))) ?_ ?_
  · have hh := r_hi h
    unfold HI at hh
    show HX (n + 1) (imE A 47 6) (imE A 55 3) (imE A 59 2) (imE A 62 5) (imE A 46 7) (imE A 68 4) (imE A 76 2) (imE A 46 8) (imE A 46 9) (imE A 46 10) (imE A 46 11) (imE A 48) (imE A 49) (imE A 50) (imE A 51) (imE A 52) (imE A 53) (imE A 56) (imE A 57) (imE A 58) (imE A 60) (imE A 63) (imE A 64) (imE A 65) (imE A 66) (imE A 67) (imE A 69) (imE A 70) (imE A 71) (imE A 72) (imE A 77) (imE A 78)
    rw [show imE A 47 6 = A 6 6 from rfl, show imE A 55 3 = A 14 3 from rfl, show imE A 59 2 = A 18 2 from rfl, show imE A 62 5 = A 21 5 from rfl, show imE A 46 7 = A 5 7 from rfl, show imE A 68 4 = A 27 4 from rfl, show imE A 76 2 = A 35 2 from rfl, show imE A 46 8 = A 5 8 from rfl, show imE A 46 9 = A 5 9 from rfl, show imE A 46 10 = A 5 10 from rfl, show imE A 46 11 = A 5 11 from rfl]
    exact hx_cg hh (fun j hj => by rw [imE_k (by decide), b46_48]; exact seg_0 (by omega)) (fun j hj => by rw [imE_k (by decide), b46_49]; exact seg_0 (by omega)) (fun j hj => by rw [imE_k (by decide), b46_50]; exact seg_0 (by omega)) (fun j hj => by rw [imE_k (by decide), b46_51]; exact seg_0 (by omega)) (fun j hj => by rw [imE_k (by decide), b46_52]; exact seg_0 (by omega)) (fun j hj => by rw [imE_k (by decide), b46_53]; exact seg_0 (by omega)) (fun j hj => by rw [imE_k (by decide), b46_56]; exact seg_0 (by omega)) (fun j hj => by rw [imE_k (by decide), b46_57]; exact seg_0 (by omega)) (fun j hj => by rw [imE_k (by decide), b46_58]; exact seg_0 (by omega)) (fun j hj => by rw [imE_k (by decide), b46_60]; exact seg_0 (by omega)) (fun j hj => by rw [imE_k (by decide), b46_63]; exact seg_0 (by omega)) (fun j hj => by rw [imE_k (by decide), b46_64]; exact seg_0 (by omega)) (fun j hj => by rw [imE_k (by decide), b46_65]; exact seg_0 (by omega)) (fun j hj => by rw [imE_k (by decide), b46_66]; exact seg_0 (by omega)) (fun j hj => by rw [imE_k (by decide), b46_67]; exact seg_0 (by omega)) (fun j hj => by rw [imE_k (by decide), b46_69]; exact seg_0 (by omega)) (fun j hj => by rw [imE_k (by decide), b46_70]; exact seg_0 (by omega)) (fun j hj => by rw [imE_k (by decide), b46_71]; exact seg_0 (by omega)) (fun j hj => by rw [imE_k (by decide), b46_72]; exact seg_0 (by omega)) (fun j hj => by rw [imE_k (by decide), b46_77]; exact seg_0 (by omega)) (fun j hj => by rw [imE_k (by decide), b46_78]; exact seg_0 (by omega))
  · refine KE_mk (fun j hj => by rw [imF_s205 hj, imE_k (by decide), b46_48, seg_0 hj, eq_e7 e]) (fun j hj => by rw [imF_s206 hj, imE_k (by decide), b46_49, seg_0 hj, eq_e8 e]) (fun j hj => by rw [imF_s207 hj, imE_k (by decide), b46_50, seg_0 hj, eq_e9 e]) (fun j hj => by rw [imF_s208 hj, imE_k (by decide), b46_51, seg_0 hj, eq_e10 e]) (fun j hj => by rw [imF_s209 hj, imE_k (by decide), b46_52, seg_0 hj, eq_e11 e]) (fun j hj => by rw [imF_s210 hj, imE_k (by decide), b46_53, seg_0 hj, eq_e12 e]) (fun j hj => by rw [imF_s212 hj, imE_k (by decide), b46_56, seg_0 hj, eq_e15 e]) (fun j hj => by rw [imF_s213 hj, imE_k (by decide), b46_57, seg_0 hj, eq_e16 e]) (fun j hj => by rw [imF_s214 hj, imE_k (by decide), b46_58, seg_0 hj, eq_e17 e]) (fun j hj => by rw [imF_s220 hj, imE_k (by decide), b46_63, seg_0 hj, eq_e22 e]) (fun j hj => by rw [imF_s221 hj, imE_k (by decide), b46_64, seg_0 hj, eq_e23 e]) (fun j hj => by rw [imF_s222 hj, imE_k (by decide), b46_65, seg_0 hj, eq_e24 e]) (fun j hj => by rw [imF_s223 hj, imE_k (by decide), b46_66, seg_0 hj, eq_e25 e]) (fun j hj => by rw [imF_s224 hj, imE_k (by decide), b46_67, seg_0 hj, eq_e26 e]) (fun j hj => by rw [imF_s226 hj, imE_k (by decide), b46_84, seg_0 hj, eq_e43 e]) (fun j hj => by rw [imF_s228 hj, imE_k (by decide), b46_69, seg_0 hj, eq_e28 e]) (fun j hj => by rw [imF_s229 hj, imE_k (by decide), b46_70, seg_0 hj, eq_e29 e]) (fun j hj => by rw [imF_s230 hj, imE_k (by decide), b46_71, seg_0 hj, eq_e30 e]) (fun j hj => by rw [imF_s231 hj, imE_k (by decide), b46_72, seg_0 hj, eq_e31 e]) (fun j hj => by rw [imF_s233 hj, imE_k (by decide), b46_77, seg_0 hj, eq_e36 e]) (fun j hj => by rw [imF_s234 hj, imE_k (by decide), b46_78, seg_0 hj, eq_e37 e]) (fun j hj => by rw [imF_s235 hj, imE_k (by decide), b46_79, seg_0 hj, eq_e38 e]) (fun j hj => by
      have q := hx_wc (r_hi h)
      have hj2 : (j : Int) < 5 * A 18 2 := hj
      rw [imF_s216 (by omega), imE_k (by decide), b46_60, seg_0 (by omega)]
      exact eq_lw e j hj2) (by rw [imF_c0]; exact eq_tc e) (by rw [imF_c1]; exact eq_lc e) (by rw [imF_c2]; exact eq_wc e) (by rw [imF_c3]; exact eq_bc e) (by rw [imF_c4]; exact eq_tb e) (by rw [imF_c5]; exact eq_sc e) (by rw [imF_c6]; exact eq_ec e) (by rw [show (413 : Nat) = 413 + 0 from rfl, imF_s236 (by decide)]; exact eq_h8 e) (by rw [show (414 : Nat) = 413 + 1 from rfl, imF_s236 (by decide)]; exact eq_h9 e) (by rw [show (415 : Nat) = 413 + 2 from rfl, imF_s236 (by decide)]; exact eq_h10 e) (by rw [show (416 : Nat) = 413 + 3 from rfl, imF_s236 (by decide)]; exact eq_h11 e)
  · have q := r_tp h
    unfold TP at q ⊢
    rw [imE_o (a := 3) (by omega), imE_o (a := 4) (by omega), imF_o (a := 218) (by omega), imF_200 (by omega)]
    exact q
  · have q := r_rf h
    unfold RF at q ⊢
    rw [imE_o (a := 2) (by omega), imF_o (a := 237) (by omega)]
    exact q
theorem bkS_v {X : Mem} : ∀ t s : Nat, bkS X t (1 + 96 + 2 * s) 1 = if s < t ∧ 10 ≤ X (1 + 96 + 2 * s) 1 ∧ ¬ (X (1 + 96 + 2 * s) 1 - 10 < X 6 6) then -1 else X (1 + 96 + 2 * s) 1
  | 0, s => by rw [if_neg (by omega)]; rfl
  | t + 1, s => by
    have ih := bkS_v (X := X) t
    have e6 : bkS X t 6 = X 6 := bkS_o (by decide) t
    have it := ih t
    rw [if_neg (by omega)] at it
    simp only [bkS]
    rw [it, e6]
    by_cases c : 10 ≤ X (1 + 96 + 2 * t) 1 ∧ ¬ (0 ≤ X (1 + 96 + 2 * t) 1 - 10 ∧ X (1 + 96 + 2 * t) 1 - 10 < X 6 6)
    · rw [if_pos c]
      by_cases z : s = t
      · subst z
        rw [up_k, us_k, if_pos ⟨by omega, by omega, by omega⟩]
      · rw [up_o (by omega), ih s]
        by_cases y : s < t ∧ 10 ≤ X (1 + 96 + 2 * s) 1 ∧ ¬ (X (1 + 96 + 2 * s) 1 - 10 < X 6 6)
        · rw [if_pos y, if_pos ⟨by omega, y.2⟩]
        · rw [if_neg y, if_neg (fun w => y ⟨by omega, w.2⟩)]
    · rw [if_neg c, ih s]
      by_cases y : s < t ∧ 10 ≤ X (1 + 96 + 2 * s) 1 ∧ ¬ (X (1 + 96 + 2 * s) 1 - 10 < X 6 6)
      · rw [if_pos y, if_pos ⟨by omega, y.2⟩]
      · rw [if_neg y, if_neg (fun w => by
          by_cases z : s = t
          · subst z
            exact c ⟨w.2.1, by omega⟩
          · exact y ⟨by omega, w.2⟩)]
theorem bkS_w {X : Mem} {a j : Nat} (hj : j ≠ 1) : ∀ t, bkS X t a j = X a j
  | 0 => rfl
  | t + 1 => by
    simp only [bkS]
    split
    · by_cases z : a = 1 + 96 + 2 * t
      · subst z; rw [up_k, us_o hj]; exact bkS_w hj t
      · rw [up_o z]; exact bkS_w hj t
    · exact bkS_w hj t
theorem bkS_r {X : Mem} {s : Nat} : ∀ t, bkS X t (1 + 96 + 2 * s + 1) = X (1 + 96 + 2 * s + 1)
  | 0 => rfl
  | t + 1 => by
    simp only [bkS]
    split
    · rw [up_o (by omega)]; exact bkS_r t
    · exact bkS_r t
theorem bkR_v {X : Mem} : ∀ t s : Nat, bkR X t 201 s = if s < t ∧ (0 ≤ X 201 s ∧ X 201 s < 100) ∧ X 200 3 ≤ X 201 s then -1 else X 201 s
  | 0, s => by rw [if_neg (by omega)]; rfl
  | t + 1, s => by
    have ih := bkR_v (X := X) t
    have e6 : bkR X t 200 = X 200 := bkR_o (by decide) t
    have it := ih t
    rw [if_neg (by omega)] at it
    simp only [bkR]
    rw [it, e6]
    by_cases c : (0 ≤ X 201 t ∧ X 201 t < 100) ∧ X 200 3 ≤ X 201 t
    · rw [if_pos c, up_k]
      by_cases z : s = t
      · subst z
        rw [us_k, if_pos ⟨by omega, c⟩]
      · rw [us_o z, ih s]
        by_cases y : s < t ∧ (0 ≤ X 201 s ∧ X 201 s < 100) ∧ X 200 3 ≤ X 201 s
        · rw [if_pos y, if_pos ⟨by omega, y.2⟩]
        · rw [if_neg y, if_neg (fun w => y ⟨by omega, w.2⟩)]
    · rw [if_neg c, ih s]
      by_cases y : s < t ∧ (0 ≤ X 201 s ∧ X 201 s < 100) ∧ X 200 3 ≤ X 201 s
      · rw [if_pos y, if_pos ⟨by omega, y.2⟩]
      · rw [if_neg y, if_neg (fun w => by
          by_cases z : s = t
          · subst z
            exact c w.2
          · exact y ⟨by omega, w.2⟩)]
theorem mvB_240 {M : Mem} : mvB M 240 = cpf (M 239) (M 240) 0 0 7 := rfl
theorem mvB_205 {M : Mem} : mvB M 205 = cpf (M 239) (M 205) 7 0 30 := rfl
theorem mvB_206 {M : Mem} : mvB M 206 = cpf (M 239) (M 206) 37 0 30 := rfl
theorem mvB_207 {M : Mem} : mvB M 207 = cpf (M 239) (M 207) 67 0 30 := rfl
theorem mvB_208 {M : Mem} : mvB M 208 = cpf (M 239) (M 208) 97 0 30 := rfl
theorem mvB_209 {M : Mem} : mvB M 209 = cpf (M 239) (M 209) 127 0 30 := rfl
theorem mvB_210 {M : Mem} : mvB M 210 = cpf (M 239) (M 210) 157 0 30 := rfl
theorem mvB_212 {M : Mem} : mvB M 212 = cpf (M 239) (M 212) 187 0 5 := rfl
theorem mvB_213 {M : Mem} : mvB M 213 = cpf (M 239) (M 213) 192 0 5 := rfl
theorem mvB_214 {M : Mem} : mvB M 214 = cpf (M 239) (M 214) 197 0 5 := rfl
theorem mvB_216 {M : Mem} : mvB M 216 = cpf (M 239) (M 216) 202 0 30 := rfl
theorem mvB_220 {M : Mem} : mvB M 220 = cpf (M 239) (M 220) 232 0 12 := rfl
theorem mvB_221 {M : Mem} : mvB M 221 = cpf (M 239) (M 221) 244 0 12 := rfl
theorem mvB_222 {M : Mem} : mvB M 222 = cpf (M 239) (M 222) 256 0 12 := rfl
theorem mvB_223 {M : Mem} : mvB M 223 = cpf (M 239) (M 223) 268 0 12 := rfl
theorem mvB_224 {M : Mem} : mvB M 224 = cpf (M 239) (M 224) 280 0 12 := rfl
theorem mvB_226 {M : Mem} : mvB M 226 = cpf (M 239) (M 226) 292 0 5 := rfl
theorem mvB_228 {M : Mem} : mvB M 228 = cpf (M 239) (M 228) 297 0 20 := rfl
theorem mvB_229 {M : Mem} : mvB M 229 = cpf (M 239) (M 229) 317 0 20 := rfl
theorem mvB_230 {M : Mem} : mvB M 230 = cpf (M 239) (M 230) 337 0 20 := rfl
theorem mvB_231 {M : Mem} : mvB M 231 = cpf (M 239) (M 231) 357 0 20 := rfl
theorem mvB_233 {M : Mem} : mvB M 233 = cpf (M 239) (M 233) 377 0 10 := rfl
theorem mvB_234 {M : Mem} : mvB M 234 = cpf (M 239) (M 234) 387 0 10 := rfl
theorem mvB_235 {M : Mem} : mvB M 235 = cpf (M 239) (M 235) 397 0 16 := rfl
theorem mvB_236 {M : Mem} : mvB M 236 = cpf (M 239) (M 236) 413 0 4 := rfl
theorem mvB_o {M : Mem} {a : Nat} (h : a < 205 ∨ a = 218 ∨ 236 < a ∧ a ≠ 240) : mvB M a = M a := by
  unfold mvB
  rw [cp_o (by omega), cp_o (by omega), cp_o (by omega), cp_o (by omega), cp_o (by omega), cp_o (by omega), cp_o (by omega), cp_o (by omega), cp_o (by omega), cp_o (by omega), cp_o (by omega), cp_o (by omega), cp_o (by omega), cp_o (by omega), cp_o (by omega), cp_o (by omega), cp_o (by omega), cp_o (by omega), cp_o (by omega), cp_o (by omega), cp_o (by omega), cp_o (by omega), cp_o (by omega), cp_o (by omega), cp_o (by omega)]
theorem cntB_o {M : Mem} {a : Nat} (h : a ≠ 200) : cntB M a = mvB M a := by
  unfold cntB
  rw [up_o h, up_o h, up_o h, up_o h, up_o h, up_o h, up_o h]
theorem cntB_37 {M : Mem} {j : Nat} (h : j ≠ 3 ∧ j ≠ 10 ∧ j ≠ 14 ∧ j ≠ 18 ∧ j ≠ 24 ∧ j ≠ 26 ∧ j ≠ 31) : cntB M 200 j = M 200 j := by
  unfold cntB
  rw [up_k, us_o (by omega), up_k, us_o (by omega), up_k, us_o (by omega), up_k, us_o (by omega), up_k, us_o (by omega), up_k, us_o (by omega), up_k, us_o (by omega), mvB_o (by omega)]
theorem cntB_c3 {M : Mem} : cntB M 200 3 = M 239 0 := by
  show mvB M 240 0 = M 239 0
  rw [mvB_240, seg_f (by decide), Nat.zero_add]
theorem cntB_c10 {M : Mem} : cntB M 200 10 = M 239 1 := by
  show mvB M 240 1 = M 239 1
  rw [mvB_240, seg_f (by decide), Nat.zero_add]
theorem cntB_c14 {M : Mem} : cntB M 200 14 = M 239 2 := by
  show mvB M 240 2 = M 239 2
  rw [mvB_240, seg_f (by decide), Nat.zero_add]
theorem cntB_c18 {M : Mem} : cntB M 200 18 = M 239 3 := by
  show mvB M 240 3 = M 239 3
  rw [mvB_240, seg_f (by decide), Nat.zero_add]
theorem cntB_c24 {M : Mem} : cntB M 200 24 = M 239 4 := by
  show mvB M 240 4 = M 239 4
  rw [mvB_240, seg_f (by decide), Nat.zero_add]
theorem cntB_c26 {M : Mem} : cntB M 200 26 = M 239 5 := by
  show mvB M 240 5 = M 239 5
  rw [mvB_240, seg_f (by decide), Nat.zero_add]
theorem cntB_c31 {M : Mem} : cntB M 200 31 = M 239 6 := by
  show mvB M 240 6 = M 239 6
  rw [mvB_240, seg_f (by decide), Nat.zero_add]
def bkE (A : Mem) : Mem := bkS (bcm5 A) 8
def bkF (B : Mem) : Mem := bkR (cntB B) 8
theorem bkE_r {A : Mem} {a : Nat} (h : a < 97) : bkE A a = bcm5 A a := bkS_o h 8
theorem bkF_r {B : Mem} {a : Nat} (h : a ≠ 200 ∧ a ≠ 201) : bkF B a = mvB B a := by
  unfold bkF
  rw [bkR_o h.2, cntB_o h.1]
theorem bkF_2 {B : Mem} : bkF B 200 = cntB B 200 := bkR_o (by decide) 8
theorem bk_row {f g f2 g2 : Nat → Int} {o n : Nat} (h : ∀ j : Nat, j < n → f2 (o + j) = f j) (e : g2 = g) : cpf f2 g2 o 0 n = cpf f g 0 0 n := by
  funext j
  by_cases c : j < n
  · rw [seg_f c, seg_0 c, h j c]
  · rw [seg_x c, seg_x c, e]
theorem rel_back {n : Nat} {A B : Mem} (h0 : Rel n A B) (hi : ¬ A 0 7 = 0) : Rel (n + 1) (bkE A) (bkF B) := by
  have h := rel_s h0
  have e := r_eq h
  have im := r_im h
  obtain ⟨im1, im2⟩ := im
  have im3 : A 0 7 = 1 ∧ HK (n + 1) A ∧ KE A B := by
    rcases im2 with z | z
    · exact absurd z hi
    · exact z
  obtain ⟨im4, hk, ke⟩ := im3
  clear im2
  have hEk : ∀ a, 44 ≤ a → a < 97 → bkE A a = A a := fun a h0 h1 => by rw [bkE_r h1]; exact b5_o (by omega)
  have hEl : ∀ a, a < 5 → bkE A a = A a := fun a h1 => by rw [bkE_r (by omega)]; exact b5_o (by omega)
  have hF9 : bkF B 239 = B 239 := by rw [bkF_r (by decide)]; exact mvB_o (by omega)
  have hEw : bkE A 18 2 = A 59 2 := by rw [bkE_r (by decide)]; rfl
  have kww : ∀ j : Nat, (j : Int) < 5 * A 59 2 → B 239 (202 + j) = A 60 j := ke_kw ke
  refine rel_mk (EQ_mk (by rw [bkF_r (a := 205) (by decide), mvB_205, bkE_r (show 7 < 97 by decide), b5_7]; exact bk_row (ke_k48 ke) (eq_e7 e)) (by rw [bkF_r (a := 206) (by decide), mvB_206, bkE_r (show 8 < 97 by decide), b5_8]; exact bk_row (ke_k49 ke) (eq_e8 e)) (by rw [bkF_r (a := 207) (by decide), mvB_207, bkE_r (show 9 < 97 by decide), b5_9]; exact bk_row (ke_k50 ke) (eq_e9 e)) (by rw [bkF_r (a := 208) (by decide), mvB_208, bkE_r (show 10 < 97 by decide), b5_10]; exact bk_row (ke_k51 ke) (eq_e10 e)) (by rw [bkF_r (a := 209) (by decide), mvB_209, bkE_r (show 11 < 97 by decide), b5_11]; exact bk_row (ke_k52 ke) (eq_e11 e)) (by rw [bkF_r (a := 210) (by decide), mvB_210, bkE_r (show 12 < 97 by decide), b5_12]; exact bk_row (ke_k53 ke) (eq_e12 e)) (by rw [bkF_r (a := 212) (by decide), mvB_212, bkE_r (show 15 < 97 by decide), b5_15]; exact bk_row (ke_k56 ke) (eq_e15 e)) (by rw [bkF_r (a := 213) (by decide), mvB_213, bkE_r (show 16 < 97 by decide), b5_16]; exact bk_row (ke_k57 ke) (eq_e16 e)) (by rw [bkF_r (a := 214) (by decide), mvB_214, bkE_r (show 17 < 97 by decide), b5_17]; exact bk_row (ke_k58 ke) (eq_e17 e)) (by rw [bkF_r (a := 220) (by decide), mvB_220, bkE_r (show 22 < 97 by decide), b5_22]; exact bk_row (ke_k63 ke) (eq_e22 e)) (by rw [bkF_r (a := 221) (by decide), mvB_221, bkE_r (show 23 < 97 by decide), b5_23]; exact bk_row (ke_k64 ke) (eq_e23 e)) (by rw [bkF_r (a := 222) (by decide), mvB_222, bkE_r (show 24 < 97 by decide), b5_24]; exact bk_row (ke_k65 ke) (eq_e24 e)) (by rw [bkF_r (a := 223) (by decide), mvB_223, bkE_r (show 25 < 97 by decide), b5_25]; exact bk_row (ke_k66 ke) (eq_e25 e)) (by rw [bkF_r (a := 224) (by decide), mvB_224, bkE_r (show 26 < 97 by decide), b5_26]; exact bk_row (ke_k67 ke) (eq_e26 e)) (by rw [bkF_r (a := 226) (by decide), mvB_226, bkE_r (show 43 < 97 by decide), b5_43]; exact bk_row (ke_k84 ke) (eq_e43 e)) (by rw [bkF_r (a := 228) (by decide), mvB_228, bkE_r (show 28 < 97 by decide), b5_28]; exact bk_row (ke_k69 ke) (eq_e28 e)) (by rw [bkF_r (a := 229) (by decide), mvB_229, bkE_r (show 29 < 97 by decide), b5_29]; exact bk_row (ke_k70 ke) (eq_e29 e)) (by rw [bkF_r (a := 230) (by decide), mvB_230, bkE_r (show 30 < 97 by decide), b5_30]; exact bk_row (ke_k71 ke) (eq_e30 e)) (by rw [bkF_r (a := 231) (by decide), mvB_231, bkE_r (show 31 < 97 by decide), b5_31]; exact bk_row (ke_k72 ke) (eq_e31 e)) (by rw [bkF_r (a := 233) (by decide), mvB_233, bkE_r (show 36 < 97 by decide), b5_36]; exact bk_row (ke_k77 ke) (eq_e36 e)) (by rw [bkF_r (a := 234) (by decide), mvB_234, bkE_r (show 37 < 97 by decide), b5_37]; exact bk_row (ke_k78 ke) (eq_e37 e)) (by rw [bkF_r (a := 235) (by decide), mvB_235, bkE_r (show 38 < 97 by decide), b5_38]; exact bk_row (ke_k79 ke) (eq_e38 e)) (by rw [bkF_2, cntB_c3, ke_kc0 ke, bkE_r (by decide)]; rfl) (by rw [bkF_2, cntB_c10, ke_kc1 ke, bkE_r (by decide)]; rfl) (by rw [bkF_2, cntB_c14, ke_kc2 ke, bkE_r (by decide)]; rfl) (by rw [bkF_2, cntB_c18, ke_kc3 ke, bkE_r (by decide)]; rfl) (by rw [bkF_2, cntB_c24, ke_kc4 ke, bkE_r (by decide)]; rfl) (by rw [bkF_2, cntB_c26, ke_kc5 ke, bkE_r (by decide)]; rfl) (by rw [bkF_2, cntB_c31, ke_kc6 ke, bkE_r (by decide)]; rfl) (by rw [bkF_r (a := 236) (by decide), mvB_236, seg_f (by decide), ke_kh0 ke, bkE_r (by decide)]; rfl) (by rw [bkF_r (a := 236) (by decide), mvB_236, seg_f (by decide), ke_kh1 ke, bkE_r (by decide)]; rfl) (by rw [bkF_r (a := 236) (by decide), mvB_236, seg_f (by decide), ke_kh2 ke, bkE_r (by decide)]; rfl) (by rw [bkF_r (a := 236) (by decide), mvB_236, seg_f (by decide), ke_kh3 ke, bkE_r (by decide)]; rfl) (fun j hj => by
    have q := hx_wc hk
    rw [hEw] at hj
    rw [bkF_r (a := 216) (by decide), mvB_216, bkE_r (show 19 < 97 by decide), b5_19, seg_f (by omega), seg_0 (by omega), kww j hj])) ?_ ⟨?_, Or.inr ⟨?_, hk_cg hk (fun a h0 h1 => hEk a (by omega) (by omega)), ?_⟩⟩ ?_ ?_ ?_
  · show HX (n + 1) (bkE A 6 6) (bkE A 14 3) (bkE A 18 2) (bkE A 21 5) (bkE A 5 7) (bkE A 27 4) (bkE A 35 2) (bkE A 5 8) (bkE A 5 9) (bkE A 5 10) (bkE A 5 11) (bkE A 7) (bkE A 8) (bkE A 9) (bkE A 10) (bkE A 11) (bkE A 12) (bkE A 15) (bkE A 16) (bkE A 17) (bkE A 19) (bkE A 22) (bkE A 23) (bkE A 24) (bkE A 25) (bkE A 26) (bkE A 28) (bkE A 29) (bkE A 30) (bkE A 31) (bkE A 36) (bkE A 37)
    rw [show bkE A 6 6 = A 47 6 from (by rw [bkE_r (by decide)]; rfl), show bkE A 14 3 = A 55 3 from (by rw [bkE_r (by decide)]; rfl), show bkE A 18 2 = A 59 2 from (by rw [bkE_r (by decide)]; rfl), show bkE A 21 5 = A 62 5 from (by rw [bkE_r (by decide)]; rfl), show bkE A 5 7 = A 46 7 from (by rw [bkE_r (by decide)]; rfl), show bkE A 27 4 = A 68 4 from (by rw [bkE_r (by decide)]; rfl), show bkE A 35 2 = A 76 2 from (by rw [bkE_r (by decide)]; rfl), show bkE A 5 8 = A 46 8 from (by rw [bkE_r (by decide)]; rfl), show bkE A 5 9 = A 46 9 from (by rw [bkE_r (by decide)]; rfl), show bkE A 5 10 = A 46 10 from (by rw [bkE_r (by decide)]; rfl), show bkE A 5 11 = A 46 11 from (by rw [bkE_r (by decide)]; rfl)]
    exact hx_cg (show HX (n + 1) (A 47 6) (A 55 3) (A 59 2) (A 62 5) (A 46 7) (A 68 4) (A 76 2) (A 46 8) (A 46 9) (A 46 10) (A 46 11) (A 48) (A 49) (A 50) (A 51) (A 52) (A 53) (A 56) (A 57) (A 58) (A 60) (A 63) (A 64) (A 65) (A 66) (A 67) (A 69) (A 70) (A 71) (A 72) (A 77) (A 78) from hk) (fun j hj => by rw [bkE_r (show 7 < 97 by decide), b5_7]; exact seg_0 (by omega)) (fun j hj => by rw [bkE_r (show 8 < 97 by decide), b5_8]; exact seg_0 (by omega)) (fun j hj => by rw [bkE_r (show 9 < 97 by decide), b5_9]; exact seg_0 (by omega)) (fun j hj => by rw [bkE_r (show 10 < 97 by decide), b5_10]; exact seg_0 (by omega)) (fun j hj => by rw [bkE_r (show 11 < 97 by decide), b5_11]; exact seg_0 (by omega)) (fun j hj => by rw [bkE_r (show 12 < 97 by decide), b5_12]; exact seg_0 (by omega)) (fun j hj => by rw [bkE_r (show 15 < 97 by decide), b5_15]; exact seg_0 (by omega)) (fun j hj => by rw [bkE_r (show 16 < 97 by decide), b5_16]; exact seg_0 (by omega)) (fun j hj => by rw [bkE_r (show 17 < 97 by decide), b5_17]; exact seg_0 (by omega)) (fun j hj => by rw [bkE_r (show 19 < 97 by decide), b5_19]; exact seg_0 (by omega)) (fun j hj => by rw [bkE_r (show 22 < 97 by decide), b5_22]; exact seg_0 (by omega)) (fun j hj => by rw [bkE_r (show 23 < 97 by decide), b5_23]; exact seg_0 (by omega)) (fun j hj => by rw [bkE_r (show 24 < 97 by decide), b5_24]; exact seg_0 (by omega)) (fun j hj => by rw [bkE_r (show 25 < 97 by decide), b5_25]; exact seg_0 (by omega)) (fun j hj => by rw [bkE_r (show 26 < 97 by decide), b5_26]; exact seg_0 (by omega)) (fun j hj => by rw [bkE_r (show 28 < 97 by decide), b5_28]; exact seg_0 (by omega)) (fun j hj => by rw [bkE_r (show 29 < 97 by decide), b5_29]; exact seg_0 (by omega)) (fun j hj => by rw [bkE_r (show 30 < 97 by decide), b5_30]; exact seg_0 (by omega)) (fun j hj => by rw [bkE_r (show 31 < 97 by decide), b5_31]; exact seg_0 (by omega)) (fun j hj => by rw [bkE_r (show 36 < 97 by decide), b5_36]; exact seg_0 (by omega)) (fun j hj => by rw [bkE_r (show 37 < 97 by decide), b5_37]; exact seg_0 (by omega))
  · rw [hEl 0 (by decide), bkF_2, cntB_37 (by omega)]
    exact im1
  · rw [hEl 0 (by decide)]
    exact im4
  · refine KE_mk (fun j hj => by rw [hF9, hEk 48 (by decide) (by decide)]; exact ke_k48 ke j hj) (fun j hj => by rw [hF9, hEk 49 (by decide) (by decide)]; exact ke_k49 ke j hj) (fun j hj => by rw [hF9, hEk 50 (by decide) (by decide)]; exact ke_k50 ke j hj) (fun j hj => by rw [hF9, hEk 51 (by decide) (by decide)]; exact ke_k51 ke j hj) (fun j hj => by rw [hF9, hEk 52 (by decide) (by decide)]; exact ke_k52 ke j hj) (fun j hj => by rw [hF9, hEk 53 (by decide) (by decide)]; exact ke_k53 ke j hj) (fun j hj => by rw [hF9, hEk 56 (by decide) (by decide)]; exact ke_k56 ke j hj) (fun j hj => by rw [hF9, hEk 57 (by decide) (by decide)]; exact ke_k57 ke j hj) (fun j hj => by rw [hF9, hEk 58 (by decide) (by decide)]; exact ke_k58 ke j hj) (fun j hj => by rw [hF9, hEk 63 (by decide) (by decide)]; exact ke_k63 ke j hj) (fun j hj => by rw [hF9, hEk 64 (by decide) (by decide)]; exact ke_k64 ke j hj) (fun j hj => by rw [hF9, hEk 65 (by decide) (by decide)]; exact ke_k65 ke j hj) (fun j hj => by rw [hF9, hEk 66 (by decide) (by decide)]; exact ke_k66 ke j hj) (fun j hj => by rw [hF9, hEk 67 (by decide) (by decide)]; exact ke_k67 ke j hj) (fun j hj => by rw [hF9, hEk 84 (by decide) (by decide)]; exact ke_k84 ke j hj) (fun j hj => by rw [hF9, hEk 69 (by decide) (by decide)]; exact ke_k69 ke j hj) (fun j hj => by rw [hF9, hEk 70 (by decide) (by decide)]; exact ke_k70 ke j hj) (fun j hj => by rw [hF9, hEk 71 (by decide) (by decide)]; exact ke_k71 ke j hj) (fun j hj => by rw [hF9, hEk 72 (by decide) (by decide)]; exact ke_k72 ke j hj) (fun j hj => by rw [hF9, hEk 77 (by decide) (by decide)]; exact ke_k77 ke j hj) (fun j hj => by rw [hF9, hEk 78 (by decide) (by decide)]; exact ke_k78 ke j hj) (fun j hj => by rw [hF9, hEk 79 (by decide) (by decide)]; exact ke_k79 ke j hj) (fun j hj => by rw [hEk 59 (by decide) (by decide)] at hj; rw [hF9, hEk 60 (by decide) (by decide)]; exact ke_kw ke j hj) (by rw [hF9, hEk 47 (by decide) (by decide)]; exact ke_kc0 ke) (by rw [hF9, hEk 55 (by decide) (by decide)]; exact ke_kc1 ke) (by rw [hF9, hEk 59 (by decide) (by decide)]; exact ke_kc2 ke) (by rw [hF9, hEk 62 (by decide) (by decide)]; exact ke_kc3 ke) (by rw [hF9, hEk 46 (by decide) (by decide)]; exact ke_kc4 ke) (by rw [hF9, hEk 68 (by decide) (by decide)]; exact ke_kc5 ke) (by rw [hF9, hEk 76 (by decide) (by decide)]; exact ke_kc6 ke) (by rw [hF9, hEk 46 (by decide) (by decide)]; exact ke_kh0 ke) (by rw [hF9, hEk 46 (by decide) (by decide)]; exact ke_kh1 ke) (by rw [hF9, hEk 46 (by decide) (by decide)]; exact ke_kh2 ke) (by rw [hF9, hEk 46 (by decide) (by decide)]; exact ke_kh3 ke)
  · intro s hs
    have q := r_sh h s hs
    have tcK := hx_tc hk
    have tcn := hc_ h
    have e6 : bkE A 6 6 = A 47 6 := by rw [bkE_r (by decide)]; rfl
    have f3 : bkF B 200 3 = A 47 6 := by rw [bkF_2, cntB_c3]; exact ke_kc0 ke
    have v1 : bkE A (1 + 96 + 2 * s) 1 = if s < 8 ∧ 10 ≤ bcm5 A (1 + 96 + 2 * s) 1 ∧ ¬ (bcm5 A (1 + 96 + 2 * s) 1 - 10 < bcm5 A 6 6) then -1 else bcm5 A (1 + 96 + 2 * s) 1 := bkS_v 8 s
    have v2 : bkE A (1 + 96 + 2 * s) 2 = bcm5 A (1 + 96 + 2 * s) 2 := bkS_w (by decide) 8
    have v3 : bkE A (1 + 96 + 2 * s + 1) = bcm5 A (1 + 96 + 2 * s + 1) := bkS_r 8
    have b1 : bcm5 A (1 + 96 + 2 * s) = A (1 + 96 + 2 * s) := b5_o (by omega)
    have b2 : bcm5 A (1 + 96 + 2 * s + 1) = A (1 + 96 + 2 * s + 1) := b5_o (by omega)
    have b6 : bcm5 A 6 6 = A 47 6 := rfl
    have w1 : bkF B 201 s = if s < 8 ∧ (0 ≤ cntB B 201 s ∧ cntB B 201 s < 100) ∧ cntB B 200 3 ≤ cntB B 201 s then -1 else cntB B 201 s := bkR_v 8 s
    have c1 : cntB B 201 = B 201 := by rw [cntB_o (by decide)]; exact mvB_o (by omega)
    have c3 : cntB B 200 3 = A 47 6 := by rw [cntB_c3]; exact ke_kc0 ke
    have f2 : bkF B 202 = B 202 := by rw [bkF_r (by decide)]; exact mvB_o (by omega)
    have f4 : bkF B 203 = B 203 := by rw [bkF_r (by decide)]; exact mvB_o (by omega)
    rw [b1, b6] at v1
    rw [b1] at v2
    rw [b2] at v3
    rw [c1, c3] at w1
    unfold SHs at q ⊢
    rw [v1, v2, v3, w1, e6, f2, f4]
    refine ⟨?_, q.2⟩
    have q1 := q.1
    rcases q1 with z | z | z
    · left
      rw [if_neg (by omega), if_neg (by omega)]
      exact z
    · right; left
      rw [if_neg (by omega), if_neg (by omega)]
      exact z
    · by_cases y : A (1 + 96 + 2 * s) 1 - 10 < A 47 6
      · right; right
        rw [if_neg (by omega), if_neg (by omega)]
        omega
      · left
        rw [if_pos (by omega), if_pos (by omega)]
        omega
  · have q := r_tp h
    unfold TP at q ⊢
    rw [hEl 3 (by decide), hEl 4 (by decide), bkF_2, cntB_37 (by omega), bkF_r (by decide), mvB_o (by omega)]
    exact q
  · have q := r_rf h
    unfold RF at q ⊢
    rw [hEl 2 (by decide), bkF_r (by decide), mvB_o (by omega)]
    exact q
theorem bkS_hi {X : Mem} {a : Nat} (h : 200 ≤ a) : ∀ t, t ≤ 8 → bkS X t a = X a
  | 0, _ => rfl
  | t + 1, ht => by
    simp only [bkS]
    split
    · rw [up_o (by omega)]; exact bkS_hi h t (by omega)
    · exact bkS_hi h t (by omega)
theorem bkE_fr {M : Mem} {a : Nat} (h : 200 ≤ a) : bkS (bcm5 M) 8 a = M a := (bkS_hi h 8 (Nat.le_refl _)).trans (b5_o (by omega))
theorem bkF_fr {M : Mem} {a : Nat} (h : a < 200) : bkR (cntB M) 8 a = M a := (bkR_o (by omega) 8).trans ((cntB_o (by omega)).trans (mvB_o (by omega)))
