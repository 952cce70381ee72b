/-! The model's cells: where its fields lead, how long its rows are. -/
theorem m_9 : gRf 250 9 = 251 := by decide +kernel
theorem m_10 : gRf 250 10 = 252 := by decide +kernel
theorem m_12 : gRf 250 12 = 253 := by decide +kernel
theorem m_13 : gRf 250 13 = 258 := by decide +kernel
theorem m_14 : gRf 250 14 = 259 := by decide +kernel
theorem m_15 : gRf 250 15 = 260 := by decide +kernel
theorem m_21 : gRf 250 21 = 261 := by decide +kernel
theorem m_22 : gRf 250 22 = 262 := by decide +kernel
theorem m_23 : gRf 250 23 = 267 := by decide +kernel
theorem m_24 : gRf 250 24 = 272 := by decide +kernel
theorem m_25 : gRf 250 25 = 273 := by decide +kernel
theorem m_27 : gRf 250 27 = 274 := by decide +kernel
theorem m_28 : gRf 250 28 = 279 := by decide +kernel
theorem m_29 : gRf 250 29 = 280 := by decide +kernel
theorem m_30 : gRf 250 30 = 281 := by decide +kernel
theorem m_36 : gRf 250 36 = 282 := by decide +kernel
theorem m_37 : gRf 250 37 = 303 := by decide +kernel
theorem m_38 : gRf 250 38 = 309 := by decide +kernel
theorem m_39 : gRf 250 39 = 316 := by decide +kernel
theorem m_40 : gRf 250 40 = 327 := by decide +kernel
theorem r_253 : ∀ k, k < 4 → gRf 253 k = 254 + k := by decide +kernel
theorem r_262 : ∀ k, k < 4 → gRf 262 k = 263 + k := by decide +kernel
theorem r_267 : ∀ k, k < 4 → gRf 267 k = 268 + k := by decide +kernel
theorem r_274 : ∀ k, k < 4 → gRf 274 k = 275 + k := by decide +kernel
theorem r_282 : ∀ k, k < 20 → gRf 282 k = 283 + k := by decide +kernel
theorem r_303 : ∀ k, k < 5 → gRf 303 k = 304 + k := by decide +kernel
theorem r_309 : ∀ k, k < 6 → gRf 309 k = 310 + k := by decide +kernel
theorem r_316 : ∀ k, k < 10 → gRf 316 k = 317 + k := by decide +kernel
theorem r_327 : ∀ k, k < 3 → gRf 327 k = 328 + k := by decide +kernel
theorem l_253 : gN 253 = 4 := by decide +kernel
theorem l_262 : gN 262 = 4 := by decide +kernel
theorem l_267 : gN 267 = 4 := by decide +kernel
theorem l_274 : gN 274 = 4 := by decide +kernel
theorem l_282 : gN 282 = 20 := by decide +kernel
theorem l_303 : gN 303 = 5 := by decide +kernel
theorem l_309 : gN 309 = 6 := by decide +kernel
theorem l_316 : gN 316 = 10 := by decide +kernel
theorem l_327 : gN 327 = 3 := by decide +kernel
theorem l_251 : gN 251 = 300 := by decide +kernel
theorem l_252 : gN 252 = 400 := by decide +kernel
theorem l_258 : gN 258 = 4 := by decide +kernel
theorem l_259 : gN 259 = 120 := by decide +kernel
theorem l_260 : gN 260 = 9 := by decide +kernel
theorem l_261 : gN 261 = 10 := by decide +kernel
theorem l_272 : gN 272 = 8 := by decide +kernel
theorem l_273 : gN 273 = 8 := by decide +kernel
theorem l_279 : gN 279 = 8 := by decide +kernel
theorem l_280 : gN 280 = 10 := by decide +kernel
theorem l_281 : gN 281 = 8 := by decide +kernel
theorem l_254 : ∀ k, k < 4 → gN (254 + k) = 400 := by decide +kernel
theorem l_263 : ∀ k, k < 4 → gN (263 + k) = 8 := by decide +kernel
theorem l_268 : ∀ k, k < 4 → gN (268 + k) = 8 := by decide +kernel
theorem l_275 : ∀ k, k < 4 → gN (275 + k) = 8 := by decide +kernel
theorem l_283 : ∀ k, k < 20 → gN (283 + k) = 4 := by decide +kernel
theorem l_304 : ∀ k, k < 5 → gN (304 + k) = 3 := by decide +kernel
theorem l_310 : ∀ k, k < 6 → gN (310 + k) = 11 := by decide +kernel
theorem l_317 : ∀ k, k < 10 → gN (317 + k) = 3 := by decide +kernel
theorem l_328 : ∀ k, k < 3 → gN (328 + k) = 320 := by decide +kernel
theorem ci_0 : (0 : Int32).toNatClampNeg = 0 := by decide +kernel
theorem ci_1 : (1 : Int32).toNatClampNeg = 1 := by decide +kernel
theorem ci_2 : (2 : Int32).toNatClampNeg = 2 := by decide +kernel
theorem ci_3 : (3 : Int32).toNatClampNeg = 3 := by decide +kernel
theorem ci_4 : (4 : Int32).toNatClampNeg = 4 := by decide +kernel
theorem ci_5 : (5 : Int32).toNatClampNeg = 5 := by decide +kernel
theorem ci_6 : (6 : Int32).toNatClampNeg = 6 := by decide +kernel
theorem ci_7 : (7 : Int32).toNatClampNeg = 7 := by decide +kernel
theorem ci_8 : (8 : Int32).toNatClampNeg = 8 := by decide +kernel
theorem ci_9 : (9 : Int32).toNatClampNeg = 9 := by decide +kernel
theorem ci_10 : (10 : Int32).toNatClampNeg = 10 := by decide +kernel
theorem zi_0 : ¬ (0 : Int32) < 0 := by decide
theorem zi_1 : ¬ (1 : Int32) < 0 := by decide
theorem zi_2 : ¬ (2 : Int32) < 0 := by decide
theorem zi_3 : ¬ (3 : Int32) < 0 := by decide
theorem zi_4 : ¬ (4 : Int32) < 0 := by decide
theorem zi_5 : ¬ (5 : Int32) < 0 := by decide
theorem zi_6 : ¬ (6 : Int32) < 0 := by decide
theorem zi_7 : ¬ (7 : Int32) < 0 := by decide
theorem zi_8 : ¬ (8 : Int32) < 0 := by decide
theorem zi_9 : ¬ (9 : Int32) < 0 := by decide
theorem zi_10 : ¬ (10 : Int32) < 0 := by decide
/-! A law worked on the model's side. -/
def RM (M : Mem) (i : Nat) (A : List Nat) : Prop := M 258 i = nI A.length ∧ A.length ≤ 300 ∧ ∀ k c, A[k]? = some c → M (254 + i) k = nI c
theorem RM.fr {M M' : Mem} {i : Nat} {A : List Nat} (h : RM M i A) (h1 : M' 258 = M 258) (h2 : M' (254 + i) = M (254 + i)) : RM M' i A := ⟨by rw [h1]; exact h.1, h.2.1, fun k c hk => by rw [h2]; exact h.2.2 k c hk⟩
section ASKS
variable {i : Nat} {M M0 : Mem} {A0 : List Nat} {nm : Nat → Int32}
theorem a_num (hi : i < 4) {n k N t : Nat} {x3 x4 : Int32} (h4 : M 258 i = nI N) (hk : k < N) (hN : N ≤ 300) (ht : t < 120) {c : Nat} (hc : c < 10000) (hv : M (254 + i) k = nI c) : f_X11_asks_h10 250 (nI i) (n + 1) (nI t) x3 x4 (nI k) M = f_X11_asks_h10 250 (nI i) n (nI (t + 1)) x3 x4 (nI (k + 1)) (mU M 259 t (nI c)) := by
  have hi1 := i_lt0 (show i < 100000 by omega)
  have hi2 := i_cl (show i < 100000 by omega)
  have hk1 := i_lt0 (show k < 100000 by omega)
  have hk2 := i_cl (show k < 100000 by omega)
  have hk3 := i_nle hk (show N < 100000 by omega)
  have ht1 := i_lt0 (show t < 100000 by omega)
  have ht2 := i_cl (show t < 100000 by omega)
  have e1 : ¬ 4 ≤ i := by omega
  have e2 : ¬ 400 ≤ k := by omega
  have e3 : ¬ 120 ≤ t := by omega
  have c1 : ¬ (10020 : Int32) ≤ nI c := i_nle (b := 10020) (by omega) (by omega)
  have c2 : ¬ (10000 : Int32) ≤ nI c := i_nle (b := 10000) (by omega) (by omega)
  rw [f_X11_asks_h10]
  simp only [m_13, m_12, m_14, m_15, l_258, l_253, l_259, l_260, r_253 i hi, l_254 i hi, hi1, hi2, hk1, hk2, e1, e2, h4, hk3, hv, ht1, ht2, e3, f_X11_asks_b69, f_X11_asks_b122, f_X11_asks_b268, m1, nI_1, nI_pred, ci_0, ci_1, zi_0, zi_1, Nat.reduceLeDiff, or_self, not_false_eq_true, ↓reduceIte, c1, c2]
theorem a_nam (hi : i < 4) {n k N t : Nat} {x3 x4 : Int32} (h4 : M 258 i = nI N) (hk : k < N) (hN : N ≤ 300) (ht : t < 120) {c : Nat} (hc : c < 9) (hv : M (254 + i) k = nI (c + 10000)) : f_X11_asks_h10 250 (nI i) (n + 1) (nI t) x3 x4 (nI k) M = f_X11_asks_h10 250 (nI i) n (nI (t + 1)) x3 x4 (nI (k + 1)) (mU M 259 t (M 260 c)) := by
  have hi1 := i_lt0 (show i < 100000 by omega)
  have hi2 := i_cl (show i < 100000 by omega)
  have hk1 := i_lt0 (show k < 100000 by omega)
  have hk2 := i_cl (show k < 100000 by omega)
  have hk3 := i_nle hk (show N < 100000 by omega)
  have ht1 := i_lt0 (show t < 100000 by omega)
  have ht2 := i_cl (show t < 100000 by omega)
  have e1 : ¬ 4 ≤ i := by omega
  have e2 : ¬ 400 ≤ k := by omega
  have e3 : ¬ 120 ≤ t := by omega
  have c1 : ¬ (10020 : Int32) ≤ nI (c + 10000) := i_nle (b := 10020) (by omega) (by omega)
  have c2 : (10000 : Int32) ≤ nI (c + 10000) := i_le (a := 10000) (by omega) (by omega)
  have c3 : nI (c + 10000) - 10000 = nI c := i_sub c 10000
  have c4 := i_lt0 (show c < 100000 by omega)
  have c5 := i_cl (show c < 100000 by omega)
  have c6 : ¬ 9 ≤ c := by omega
  rw [f_X11_asks_h10]
  simp only [m_13, m_12, m_14, m_15, l_258, l_253, l_259, l_260, r_253 i hi, l_254 i hi, hi1, hi2, hk1, hk2, e1, e2, h4, hk3, hv, ht1, ht2, e3, f_X11_asks_b69, f_X11_asks_b122, f_X11_asks_b268, m1, nI_1, nI_pred, ci_0, ci_1, zi_0, zi_1, Nat.reduceLeDiff, or_self, not_false_eq_true, ↓reduceIte, c1, c2, c3, c4, c5, c6]
theorem a_sgn (hi : i < 4) {n k N t : Nat} {x3 x4 : Int32} (h4 : M 258 i = nI N) (hk : k < N) (hN : N ≤ 300) (ht : t < 120) (hv : M (254 + i) k = nI 10026) : f_X11_asks_h10 250 (nI i) (n + 1) (nI (t + 1)) x3 x4 (nI k) M = f_X11_asks_h10 250 (nI i) n (nI (t + 1)) x3 x4 (nI (k + 1)) (mU M 259 t (sSgn (M 259 t))) := by
  have hi1 := i_lt0 (show i < 100000 by omega)
  have hi2 := i_cl (show i < 100000 by omega)
  have hk1 := i_lt0 (show k < 100000 by omega)
  have hk2 := i_cl (show k < 100000 by omega)
  have hk3 := i_nle hk (show N < 100000 by omega)
  have ht1 := i_lt0 (show t < 100000 by omega)
  have ht2 := i_cl (show t < 100000 by omega)
  have e1 : ¬ 4 ≤ i := by omega
  have e2 : ¬ 400 ≤ k := by omega
  have e3 : ¬ 120 ≤ t := by omega
  have c1 : (10020 : Int32) ≤ nI 10026 := by decide
  have c2 : nI 10026 = 10026 := rfl
  have c3 : (10020 : Int32) ≤ 10026 := by decide
  rw [f_X11_asks_h10]
  simp only [m_13, m_12, m_14, m_15, l_258, l_253, l_259, l_260, r_253 i hi, l_254 i hi, hi1, hi2, hk1, hk2, e1, e2, h4, hk3, hv, ht1, ht2, e3, f_X11_asks_b69, f_X11_asks_b122, f_X11_asks_b268, m1, nI_1, nI_pred, ci_0, ci_1, zi_0, zi_1, Nat.reduceLeDiff, or_self, not_false_eq_true, ↓reduceIte, c2, c3]
  unfold sSgn
  split
  · split <;> rfl
  · rfl
theorem a_not (hi : i < 4) {n k N t : Nat} {x3 x4 : Int32} (h4 : M 258 i = nI N) (hk : k < N) (hN : N ≤ 300) (ht : t < 120) (hv : M (254 + i) k = nI 10033) : f_X11_asks_h10 250 (nI i) (n + 1) (nI (t + 1)) x3 x4 (nI k) M = f_X11_asks_h10 250 (nI i) n (nI (t + 1)) x3 x4 (nI (k + 1)) (mU M 259 t (1 - M 259 t)) := by
  have hi1 := i_lt0 (show i < 100000 by omega)
  have hi2 := i_cl (show i < 100000 by omega)
  have hk1 := i_lt0 (show k < 100000 by omega)
  have hk2 := i_cl (show k < 100000 by omega)
  have hk3 := i_nle hk (show N < 100000 by omega)
  have ht1 := i_lt0 (show t < 100000 by omega)
  have ht2 := i_cl (show t < 100000 by omega)
  have e1 : ¬ 4 ≤ i := by omega
  have e2 : ¬ 400 ≤ k := by omega
  have e3 : ¬ 120 ≤ t := by omega
  have c2 : nI 10033 = 10033 := rfl
  have c3 : (10020 : Int32) ≤ 10033 := by decide
  have c4 : ¬ (10033 : Int32) = 10026 := by decide
  rw [f_X11_asks_h10]
  simp only [m_13, m_12, m_14, m_15, l_258, l_253, l_259, l_260, r_253 i hi, l_254 i hi, hi1, hi2, hk1, hk2, e1, e2, h4, hk3, hv, ht1, ht2, e3, f_X11_asks_b69, f_X11_asks_b122, f_X11_asks_b268, m1, nI_1, nI_pred, ci_0, ci_1, zi_0, zi_1, Nat.reduceLeDiff, or_self, not_false_eq_true, ↓reduceIte, c2, c3, c4]
theorem r_worked {c : Nat} (h : bn1 c ∨ bn2 c ∨ bn3 c) (M : Mem) (x y : Int32) : f_X11_worked M (nI c) x y = some (op2 c x y, M) := by
  unfold bn1 bn2 bn3 at h
  rcases h with (rfl | rfl | rfl | rfl | rfl | rfl) | (rfl | rfl | rfl) | (rfl | rfl)
  · rfl
  · rfl
  · rfl
  · show (if y = 0 then some ((0 : Int32), M) else (if y = 0 then none else some (x / y, M))) = some ((if y = 0 then 0 else x / y), M)
    by_cases hy : y = 0
    · rw [if_pos hy, if_pos hy]
    · rw [if_neg hy, if_neg hy, if_neg hy]
  · show (if y ≤ x then some (y, M) else some (x, M)) = some ((if y < x then y else x), M)
    by_cases hy : y < x
    · rw [if_pos hy, if_pos (Int32.le_of_lt hy)]
    · rw [if_neg hy]
      by_cases hz : y ≤ x
      · rw [if_pos hz]
        have := Int32.le_antisymm hz (Int32.not_lt.mp hy)
        rw [this]
      · rw [if_neg hz]
  · show (if x ≤ y then some (y, M) else some (x, M)) = some ((if x < y then y else x), M)
    by_cases hy : x < y
    · rw [if_pos hy, if_pos (Int32.le_of_lt hy)]
    · rw [if_neg hy]
      by_cases hz : x ≤ y
      · rw [if_pos hz]
        have := Int32.le_antisymm hz (Int32.not_lt.mp hy)
        rw [this]
      · rw [if_neg hz]
  · show (if y ≤ x then some ((0 : Int32), M) else some (1, M)) = some ((if y ≤ x then 0 else 1), M)
    split <;> rfl
  · show (if x ≤ y then some ((0 : Int32), M) else some (1, M)) = some ((if x ≤ y then 0 else 1), M)
    split <;> rfl
  · show (if x = y then some ((1 : Int32), M) else some (0, M)) = some ((if x = y then 1 else 0), M)
    split <;> rfl
  · rfl
  · rfl
theorem bn_c {c : Nat} (h : bn1 c ∨ bn2 c ∨ bn3 c) : (10020 : Int32) ≤ nI c ∧ ¬ nI c = 10026 ∧ ¬ nI c = 10033 ∧ ¬ (10040 : Int32) ≤ nI c := by
  unfold bn1 bn2 bn3 at h
  rcases h with (rfl | rfl | rfl | rfl | rfl | rfl) | (rfl | rfl | rfl) | (rfl | rfl) <;> decide
theorem a_two (hi : i < 4) {n k N t : Nat} {x3 x4 : Int32} (h4 : M 258 i = nI N) (hk : k < N) (hN : N ≤ 300) (ht : t < 118) {c : Nat} (hc : bn1 c ∨ bn2 c ∨ bn3 c) (hv : M (254 + i) k = nI c) : f_X11_asks_h10 250 (nI i) (n + 1) (nI (t + 2)) x3 x4 (nI k) M = f_X11_asks_h10 250 (nI i) n (nI (t + 1)) x3 x4 (nI (k + 1)) (mU M 259 t (op2 c (M 259 t) (M 259 (t + 1)))) := by
  have hi1 := i_lt0 (show i < 100000 by omega)
  have hi2 := i_cl (show i < 100000 by omega)
  have hk1 := i_lt0 (show k < 100000 by omega)
  have hk2 := i_cl (show k < 100000 by omega)
  have hk3 := i_nle hk (show N < 100000 by omega)
  have ht1 := i_lt0 (show t < 100000 by omega)
  have ht2 := i_cl (show t < 100000 by omega)
  have e1 : ¬ 4 ≤ i := by omega
  have e2 : ¬ 400 ≤ k := by omega
  have e3 : ¬ 120 ≤ t := by omega
  obtain ⟨c1, c2, c3, c4⟩ := bn_c hc
  have c5 : nI (t + 2) - 1 = nI (t + 1) := nI_pred _
  have d1 := i_lt0 (show t + 1 < 100000 by omega)
  have d2 := i_cl (show t + 1 < 100000 by omega)
  have d3 : ¬ 120 ≤ t + 1 := by omega
  rw [f_X11_asks_h10]
  simp only [m_13, m_12, m_14, m_15, l_258, l_253, l_259, l_260, r_253 i hi, l_254 i hi, hi1, hi2, hk1, hk2, e1, e2, h4, hk3, hv, ht1, ht2, e3, f_X11_asks_b69, f_X11_asks_b122, f_X11_asks_b268, m1, nI_1, nI_pred, ci_0, ci_1, zi_0, zi_1, Nat.reduceLeDiff, or_self, not_false_eq_true, ↓reduceIte, c1, c2, c3, c4, c5, d1, d2, d3, r_worked hc, Option.bind_some]
theorem a_lift (hi : i < 4) {n k N t : Nat} {x3 x4 : Int32} (h4 : M 258 i = nI N) (hk : k < N) (hN : N ≤ 300) (ht : t < 120) (hv : M (254 + i) k = nI 10040) : f_X11_asks_h10 250 (nI i) (n + 1) (nI t) x3 x4 (nI k) M = f_X11_asks_h10 250 (nI i) n 0 (x3 + M 259 0) x4 (nI (k + 1)) M := by
  have hi1 := i_lt0 (show i < 100000 by omega)
  have hi2 := i_cl (show i < 100000 by omega)
  have hk1 := i_lt0 (show k < 100000 by omega)
  have hk2 := i_cl (show k < 100000 by omega)
  have hk3 := i_nle hk (show N < 100000 by omega)
  have ht1 := i_lt0 (show t < 100000 by omega)
  have ht2 := i_cl (show t < 100000 by omega)
  have e1 : ¬ 4 ≤ i := by omega
  have e2 : ¬ 400 ≤ k := by omega
  have e3 : ¬ 120 ≤ t := by omega
  have c2 : nI 10040 = 10040 := rfl
  have c3 : (10020 : Int32) ≤ 10040 := by decide
  have c4 : ¬ (10040 : Int32) = 10026 := by decide
  have c5 : ¬ (10040 : Int32) = 10033 := by decide
  have c6 : (10040 : Int32) ≤ 10040 := by decide
  have c7 : ¬ (10042 : Int32) ≤ 10040 := by decide
  rw [f_X11_asks_h10]
  simp only [m_13, m_12, m_14, m_15, l_258, l_253, l_259, l_260, r_253 i hi, l_254 i hi, hi1, hi2, hk1, hk2, e1, e2, h4, hk3, hv, ht1, ht2, e3, f_X11_asks_b69, f_X11_asks_b122, f_X11_asks_b268, m1, nI_1, nI_pred, ci_0, ci_1, zi_0, zi_1, Nat.reduceLeDiff, or_self, not_false_eq_true, ↓reduceIte, c2, c3, c4, c5, c6, c7, f_X11_asks_b233, f_X11_asks_b251, f_X11_asks_b266]
theorem a_twst (hi : i < 4) {n k N t : Nat} {x3 x4 : Int32} (h4 : M 258 i = nI N) (hk : k < N) (hN : N ≤ 300) (ht : t < 120) (hv : M (254 + i) k = nI 10041) : f_X11_asks_h10 250 (nI i) (n + 1) (nI t) x3 x4 (nI k) M = f_X11_asks_h10 250 (nI i) n 0 x3 (x4 + M 259 0) (nI (k + 1)) M := by
  have hi1 := i_lt0 (show i < 100000 by omega)
  have hi2 := i_cl (show i < 100000 by omega)
  have hk1 := i_lt0 (show k < 100000 by omega)
  have hk2 := i_cl (show k < 100000 by omega)
  have hk3 := i_nle hk (show N < 100000 by omega)
  have ht1 := i_lt0 (show t < 100000 by omega)
  have ht2 := i_cl (show t < 100000 by omega)
  have e1 : ¬ 4 ≤ i := by omega
  have e2 : ¬ 400 ≤ k := by omega
  have e3 : ¬ 120 ≤ t := by omega
  have c2 : nI 10041 = 10041 := rfl
  have c3 : (10020 : Int32) ≤ 10041 := by decide
  have c4 : ¬ (10041 : Int32) = 10026 := by decide
  have c5 : ¬ (10041 : Int32) = 10033 := by decide
  have c6 : (10040 : Int32) ≤ 10041 := by decide
  have c7 : ¬ (10042 : Int32) ≤ 10041 := by decide
  have c8 : ¬ (10041 : Int32) = 10040 := by decide
  have c9 : ¬ (10041 : Int32) = 10042 := by decide
  rw [f_X11_asks_h10]
  simp only [m_13, m_12, m_14, m_15, l_258, l_253, l_259, l_260, r_253 i hi, l_254 i hi, hi1, hi2, hk1, hk2, e1, e2, h4, hk3, hv, ht1, ht2, e3, f_X11_asks_b69, f_X11_asks_b122, f_X11_asks_b268, m1, nI_1, nI_pred, ci_0, ci_1, zi_0, zi_1, Nat.reduceLeDiff, or_self, not_false_eq_true, ↓reduceIte, c2, c3, c4, c5, c6, c7, c8, c9, f_X11_asks_b233, f_X11_asks_b251, f_X11_asks_b266]
theorem a_lfif (hi : i < 4) {n k N t : Nat} {x3 x4 : Int32} (h4 : M 258 i = nI N) (hk : k < N) (hN : N ≤ 300) (ht : t < 120) (hv : M (254 + i) k = nI 10042) : f_X11_asks_h10 250 (nI i) (n + 1) (nI t) x3 x4 (nI k) M = f_X11_asks_h10 250 (nI i) n 0 (x3 + if M 259 1 = 1 then M 259 0 else 0) x4 (nI (k + 1)) M := by
  have hi1 := i_lt0 (show i < 100000 by omega)
  have hi2 := i_cl (show i < 100000 by omega)
  have hk1 := i_lt0 (show k < 100000 by omega)
  have hk2 := i_cl (show k < 100000 by omega)
  have hk3 := i_nle hk (show N < 100000 by omega)
  have ht1 := i_lt0 (show t < 100000 by omega)
  have ht2 := i_cl (show t < 100000 by omega)
  have e1 : ¬ 4 ≤ i := by omega
  have e2 : ¬ 400 ≤ k := by omega
  have e3 : ¬ 120 ≤ t := by omega
  have c2 : nI 10042 = 10042 := rfl
  have c3 : (10020 : Int32) ≤ 10042 := by decide
  have c4 : ¬ (10042 : Int32) = 10026 := by decide
  have c5 : ¬ (10042 : Int32) = 10033 := by decide
  have c6 : (10040 : Int32) ≤ 10042 := by decide
  have c7 : (10042 : Int32) ≤ 10042 := by decide
  have c8 : ¬ (10042 : Int32) = 10040 := by decide
  rw [f_X11_asks_h10]
  simp only [m_13, m_12, m_14, m_15, l_258, l_253, l_259, l_260, r_253 i hi, l_254 i hi, hi1, hi2, hk1, hk2, e1, e2, h4, hk3, hv, ht1, ht2, e3, f_X11_asks_b69, f_X11_asks_b122, f_X11_asks_b268, m1, nI_1, nI_pred, ci_0, ci_1, zi_0, zi_1, Nat.reduceLeDiff, or_self, not_false_eq_true, ↓reduceIte, c2, c3, c4, c5, c6, c7, c8, f_X11_asks_b233, f_X11_asks_b251, f_X11_asks_b266]
  split <;> rfl
theorem a_twif (hi : i < 4) {n k N t : Nat} {x3 x4 : Int32} (h4 : M 258 i = nI N) (hk : k < N) (hN : N ≤ 300) (ht : t < 120) (hv : M (254 + i) k = nI 10043) : f_X11_asks_h10 250 (nI i) (n + 1) (nI t) x3 x4 (nI k) M = f_X11_asks_h10 250 (nI i) n 0 x3 (x4 + if M 259 1 = 1 then M 259 0 else 0) (nI (k + 1)) M := by
  have hi1 := i_lt0 (show i < 100000 by omega)
  have hi2 := i_cl (show i < 100000 by omega)
  have hk1 := i_lt0 (show k < 100000 by omega)
  have hk2 := i_cl (show k < 100000 by omega)
  have hk3 := i_nle hk (show N < 100000 by omega)
  have ht1 := i_lt0 (show t < 100000 by omega)
  have ht2 := i_cl (show t < 100000 by omega)
  have e1 : ¬ 4 ≤ i := by omega
  have e2 : ¬ 400 ≤ k := by omega
  have e3 : ¬ 120 ≤ t := by omega
  have c2 : nI 10043 = 10043 := rfl
  have c3 : (10020 : Int32) ≤ 10043 := by decide
  have c4 : ¬ (10043 : Int32) = 10026 := by decide
  have c5 : ¬ (10043 : Int32) = 10033 := by decide
  have c6 : (10040 : Int32) ≤ 10043 := by decide
  have c7 : (10042 : Int32) ≤ 10043 := by decide
  have c8 : ¬ (10043 : Int32) = 10040 := by decide
  have c9 : ¬ (10043 : Int32) = 10042 := by decide
  rw [f_X11_asks_h10]
  simp only [m_13, m_12, m_14, m_15, l_258, l_253, l_259, l_260, r_253 i hi, l_254 i hi, hi1, hi2, hk1, hk2, e1, e2, h4, hk3, hv, ht1, ht2, e3, f_X11_asks_b69, f_X11_asks_b122, f_X11_asks_b268, m1, nI_1, nI_pred, ci_0, ci_1, zi_0, zi_1, Nat.reduceLeDiff, or_self, not_false_eq_true, ↓reduceIte, c2, c3, c4, c5, c6, c7, c8, c9, f_X11_asks_b233, f_X11_asks_b251, f_X11_asks_b266]
  split <;> rfl
theorem r_wthn (M : Mem) (v : Int32) : f_X11_within M v (-100000) 100000 = some (sBd v, M) := by
  unfold f_X11_within sBd
  by_cases h1 : (-100000) ≤ v
  · rw [if_pos h1]
    by_cases h2 : v < 100000
    · rw [if_pos (Int32.le_of_lt h2), if_pos h2]
      by_cases h3 : (-100000) < v
      · rw [if_pos h3]
      · rw [if_neg h3]
        have := Int32.le_antisymm h1 (Int32.not_lt.mp h3)
        rw [← this]
    · rw [if_neg h2]
      by_cases h3 : v ≤ 100000
      · rw [if_pos h3]
        have := Int32.le_antisymm h3 (Int32.not_lt.mp h2)
        rw [this]; rfl
      · rw [if_neg h3]; rfl
  · rw [if_neg h1]
    have h4 : v < (-100000) := Int32.not_le.mp h1
    have h2 : v < 100000 := Int32.lt_trans h4 (by decide)
    rw [if_pos h2, if_neg (fun z => Int32.lt_irrefl (Int32.lt_trans z h4))]
theorem a_endw (hi : i < 4) {n k : Nat} {x2 x3 x4 h : Int32} (h4 : M 258 i = nI k) (hk : k < 1000) (hh : M 250 18 = h) : f_X11_asks_h10 250 (nI i) (n + 1) x2 x3 x4 (nI k) M = some (0, mU (mU M 250 16 (sBd x3 * h / 100)) 250 17 (sBd x4 * h / 100)) := by
  have hi1 := i_lt0 (show i < 100000 by omega)
  have hi2 := i_cl (show i < 100000 by omega)
  have e1 : ¬ 4 ≤ i := by omega
  have hk3 := i_le (Nat.le_refl k) (show k < 100000 by omega)
  rw [f_X11_asks_h10]
  simp only [m_13, l_258, hi1, hi2, e1, h4, hk3, or_self, not_false_eq_true, ↓reduceIte, r_wthn, Option.bind_some, hh]
  rw [show mU M 250 16 (sBd x3 * h / 100) 250 18 = h by rw [mU_at, if_neg (by decide)]; exact hh]
theorem a_all (hi : i < 4) {h : Int32} (hh : M0 250 18 = h) (hR : RM M0 i A0) (hnm : ∀ j, j < 9 → M0 260 j = nm j) : ∀ (A P : List Nat) (st : List Int32) (l w : Int32) (ts : List Bool) (M : Mem), A0 = P ++ A → TS st ts → ts.length ≤ 100 → cTs A ts = some [] → SR (M 259) st → (∀ b, b ≠ 259 → M b = M0 b) → ∀ n, A.length < n → tot (f_X11_asks_h10 250 (nI i) n (nI st.length) l w (nI P.length) M) (fun _ M' => M' 250 16 = sBd (cVs nm A (st, l, w)).2.1 * h / 100 ∧ M' 250 17 = sBd (cVs nm A (st, l, w)).2.2 * h / 100 ∧ (∀ b, b ≠ 250 → b ≠ 259 → M' b = M0 b) ∧ ∀ k, k ≠ 16 → k ≠ 17 → M' 250 k = M0 250 k) := by
  intro A
  induction A with
  | nil =>
    intro P st l w ts M hA hT hB hC hS hf n hn
    obtain ⟨m, rfl⟩ : ∃ m, n = m + 1 := ⟨n - 1, by omega⟩
    rw [List.append_nil] at hA
    subst hA
    have hR2 := hR.2.1
    refine tot.eq (a_endw (h := h) hi (by rw [hf 258 (by omega)]; exact hR.1) (by omega) (by rw [hf 250 (by omega)]; exact hh)) (tot.ret ⟨?_, ?_, ?_, ?_⟩)
    · simp [mU_at]; rfl
    · simp [mU_at]; rfl
    · intro b h1 h2
      funext j
      simp [mU_at, h1, hf b h2]
    · intro k h1 h2
      simp [mU_at, h1, h2, hf 250 (by omega)]
  | cons op A ih =>
    intro P st l w ts M hA hT hB hC hS hf n hn
    obtain ⟨m, rfl⟩ : ∃ m, n = m + 1 := ⟨n - 1, by omega⟩
    have h4 : M 258 i = nI A0.length := by rw [hf 258 (by omega)]; exact hR.1
    have hN := hR.2.1
    have hlen : A0.length = P.length + (A.length + 1) := by rw [hA, List.length_append, List.length_cons]
    have hk : P.length < A0.length := by omega
    have hA2 : A0 = (P ++ [op]) ++ A := by rw [hA, List.append_assoc]; rfl
    have hsn : (P ++ [op]).length = P.length + 1 := by rw [List.length_append]; rfl
    have hlt := hT.len
    have hn2 : A.length < m := by rw [List.length_cons] at hn; omega
    have hv : M (254 + i) P.length = nI op := by
      rw [hf _ (by omega)]
      refine hR.2.2 _ _ ?_
      rw [hA, List.getElem?_append_right (Nat.le_refl _), Nat.sub_self]
      rfl
    obtain ⟨ts', hc1, hc2⟩ : ∃ ts', cT op ts = some ts' ∧ cTs A ts' = some [] := by
      have hC' : (cT op ts).bind (cTs A) = some [] := hC
      cases e : cT op ts with
      | none => rw [e] at hC'; cases hC'
      | some x => rw [e] at hC'; exact ⟨x, rfl, hC'⟩
    have hTS := cV_TS (nm := nm) (l := l) (w := w) hT hc1
    have key : ∀ (st' : List Int32) (l' w' : Int32) (M' : Mem), cV nm op (st, l, w) = (st', l', w') → SR (M' 259) st' → (∀ b, b ≠ 259 → M' b = M0 b) → tot (f_X11_asks_h10 250 (nI i) m (nI st'.length) l' w' (nI (P.length + 1)) M') (fun _ M' => M' 250 16 = sBd (cVs nm (op :: A) (st, l, w)).2.1 * h / 100 ∧ M' 250 17 = sBd (cVs nm (op :: A) (st, l, w)).2.2 * h / 100 ∧ (∀ b, b ≠ 250 → b ≠ 259 → M' b = M0 b) ∧ ∀ k, k ≠ 16 → k ≠ 17 → M' 250 k = M0 250 k) := by
      intro st' l' w' M' e hS' hf'
      have hh := ih (P ++ [op]) st' l' w' ts' M' hA2 (by rw [e] at hTS; exact hTS) (cT_len hc1 hB) hc2 hS' hf' m hn2
      rw [hsn] at hh
      show tot _ (fun _ M' => M' 250 16 = sBd (cVs nm A (cV nm op (st, l, w))).2.1 * h / 100 ∧ M' 250 17 = sBd (cVs nm A (cV nm op (st, l, w))).2.2 * h / 100 ∧ _)
      rw [e]
      exact hh
    have hST : ∀ k, k < st.length → k < 118 := fun k hk => by omega
    have hsame : ∀ (M' : Mem), (∀ b, b ≠ 259 → M' b = M b) → ∀ b, b ≠ 259 → M' b = M0 b := fun M' h b hb => (h b hb).trans (hf b hb)
    have hmu : ∀ k v b, b ≠ 259 → mU M 259 k v b = M b := fun k v b hb => u_ne hb
    rcases cT_cases hc1 with ⟨h1, h2, rfl⟩ | ⟨rfl, r2, rfl, rfl⟩ | ⟨rfl, r2, rfl, rfl⟩ | ⟨r2, t, u, rfl, rfl, h3⟩ | ⟨h1, rfl, rfl⟩ | ⟨h1, rfl, rfl⟩
    · by_cases hn2 : op < 10000
      · rw [a_num hi h4 hk hN (by omega) hn2 hv]
        exact key (nI op :: st) l w _ (cV_num hn2) (by rw [mU_row]; exact hS.push) (hsame _ (hmu _ _))
      · obtain ⟨c, rfl⟩ : ∃ c, op = c + 10000 := ⟨op - 10000, by omega⟩
        rw [a_nam hi h4 hk hN (by omega) (by omega) hv, hf 260 (by omega), hnm c (by omega)]
        exact key (nm c :: st) l w _ (by rw [cV_nam hn2 h1, Nat.add_sub_cancel]) (by rw [mU_row]; exact hS.push) (hsame _ (hmu _ _))
    · obtain ⟨x, st2, rfl, _, hT2⟩ := hT.un
      show tot (f_X11_asks_h10 250 (nI i) (m + 1) (nI (st2.length + 1)) l w _ M) _
      have := hST st2.length (by simp)
      rw [a_sgn hi h4 hk hN (by omega) hv, hS.1]
      exact key (sSgn x :: st2) l w _ rfl (by rw [mU_row]; exact hS.2.push) (hsame _ (hmu _ _))
    · obtain ⟨x, st2, rfl, _, hT2⟩ := hT.un
      show tot (f_X11_asks_h10 250 (nI i) (m + 1) (nI (st2.length + 1)) l w _ M) _
      have := hST st2.length (by simp)
      rw [a_not hi h4 hk hN (by omega) hv, hS.1]
      exact key ((1 - x) :: st2) l w _ rfl (by rw [mU_row]; exact hS.2.push) (hsame _ (hmu _ _))
    · obtain ⟨y, st2, rfl, _, hT2⟩ := hT.un
      obtain ⟨x, st2, rfl, _, hT2⟩ := hT2.un
      have ho : bn1 op ∨ bn2 op ∨ bn3 op := by
        rcases h3 with h | h | h
        · exact Or.inl h.1
        · exact Or.inr (Or.inl h)
        · exact Or.inr (Or.inr h.1)
      show tot (f_X11_asks_h10 250 (nI i) (m + 1) (nI (st2.length + 2)) l w _ M) _
      have hy : M 259 (st2.length + 1) = y := hS.1
      rw [a_two hi h4 hk hN (hST st2.length (by simp; omega)) ho hv, hy, hS.2.1]
      exact key (op2 op x y :: st2) l w _ (cV_two ho) (by rw [mU_row]; exact hS.2.2.push) (hsame _ (hmu _ _))
    · obtain ⟨x, st2, rfl, _, hT2⟩ := hT.un
      have := hT2.nil
      subst this
      have hx : M 259 0 = x := hS.1
      show tot (f_X11_asks_h10 250 (nI i) (m + 1) (nI 1) l w _ M) _
      rcases h1 with rfl | rfl
      · rw [a_lift hi h4 hk hN (by omega) hv, hx]
        exact key [] (l + x) w M rfl trivial hf
      · rw [a_twst hi h4 hk hN (by omega) hv, hx]
        exact key [] l (w + x) M rfl trivial hf
    · obtain ⟨y, st2, rfl, hy1, hT2⟩ := hT.un
      obtain ⟨x, st2, rfl, _, hT2⟩ := hT2.un
      have := hT2.nil
      subst this
      have hy : M 259 1 = y := hS.1
      have hx : M 259 0 = x := hS.2.1
      have hyx : (if y = 1 then x else 0) = (if y = 0 then 0 else x) := by
        rcases hy1 rfl with rfl | rfl
        · rfl
        · rfl
      show tot (f_X11_asks_h10 250 (nI i) (m + 1) (nI 2) l w _ M) _
      rcases h1 with rfl | rfl
      · rw [a_lfif hi h4 hk hN (by omega) hv, hx, hy, hyx]
        exact key [] _ w M rfl trivial hf
      · rw [a_twif hi h4 hk hN (by omega) hv, hx, hy, hyx]
        exact key [] l _ M rfl trivial hf
theorem r_asks (hi : i < 4) {h : Int32} {A : List Nat} (hh : M 250 18 = h) (hR : RM M i A) (hw : cTs A [] = some []) (hnm : ∀ j, j < 9 → M 260 j = nm j) : tot (f_X11_asks M 250 (nI i)) (fun _ M' => M' 250 16 = (sAsk A nm).1 * h / 100 ∧ M' 250 17 = (sAsk A nm).2 * h / 100 ∧ (∀ b, b ≠ 250 → b ≠ 259 → M' b = M b) ∧ ∀ k, k ≠ 16 → k ≠ 17 → M' 250 k = M 250 k) :=
  a_all hi hh hR hnm A [] [] 0 0 [] M rfl trivial (Nat.zero_le _) hw trivial (fun _ _ => rfl) FU (by have := hR.2.1; unfold FU; omega)
end ASKS
