/-! The class's sum: the row of factors inside. -/
section SUMS
variable {f : Nat → Int32} {n : Nat} {M : Mem} {p : Nat} {C : List Int32}
def pnd (x : Int32) : List Int32 := if x = (-1) then [] else [x]
theorem b82_p (hb : ∀ k, k < 300 → ∃ q, q < 256 ∧ f k = nI q) {rf : Mem → Nat → Int32 → Option (Int32 × Mem)} {i1 : Int32} {k4 : Int32 → Int32 → Mem → Option (Int32 × Mem)} {x3 : Int32} {Q : Int32 → Mem → Prop} (h : RP f n M p C) (hk : (kK f n p = 43 ∨ kK f n p = 45) → ∀ M', RP f n M' (kN f n p) C → HF M M' → tot (k4 (nI (kK f n p)) (x3 + 1) M') Q) (hr : ¬ (kK f n p = 43 ∨ kK f n p = 45) → Q 0 M) : tot (f_X6_sum_b82 rf 3 i1 k4 x3 M) Q := by
  unfold f_X6_sum_b82 f_X6_sum_b101
  by_cases h1 : kK f n p = 43
  · rw [if_pos (show M 3 6 = 43 from (h.is hb 43 (by decide)).mpr h1)]
    refine (r_step h (by omega)).bd (fun r M1 h1' => ?_)
    show tot (k4 (M 3 6) (x3 + 1) M1) Q
    rw [h.tk]
    exact hk (Or.inl h1) M1 h1'.1 h1'.2
  · rw [if_neg (show ¬ M 3 6 = 43 from fun z => h1 ((h.is hb 43 (by decide)).mp z))]
    by_cases h2 : kK f n p = 45
    · rw [if_pos (show M 3 6 = 45 from (h.is hb 45 (by decide)).mpr h2)]
      refine (r_step h (by omega)).bd (fun r M1 h1' => ?_)
      show tot (k4 (M 3 6) (x3 + 1) M1) Q
      rw [h.tk]
      exact hk (Or.inr h2) M1 h1'.1 h1'.2
    · rw [if_neg (show ¬ M 3 6 = 45 from fun z => h2 ((h.is hb 45 (by decide)).mp z))]
      exact tot.ret (hr (by omega))
theorem b72_p (hb : ∀ k, k < 300 → ∃ q, q < 256 ∧ f k = nI q) {rf : Mem → Nat → Int32 → Option (Int32 × Mem)} {i1 : Int32} {k4 : Int32 → Int32 → Mem → Option (Int32 × Mem)} {x2 x3 : Int32} {Q : Int32 → Mem → Prop} (h : RP f n M p C) (hC : x2 ≠ (-1) → C.length < 300) (hk : (kK f n p = 43 ∨ kK f n p = 45) → ∀ M', RP f n M' (kN f n p) (C ++ pnd x2) → HF M M' → tot (k4 (nI (kK f n p)) (x3 + 1) M') Q) (hr : ¬ (kK f n p = 43 ∨ kK f n p = 45) → ∀ M', RP f n M' p (C ++ pnd x2) → HF M M' → Q 0 M') : tot (f_X6_sum_b72 rf 3 i1 k4 x2 x3 M) Q := by
  unfold f_X6_sum_b72
  unfold pnd at hk hr
  by_cases h1 : x2 = (-1)
  · rw [if_pos h1]
    rw [if_pos h1, List.append_nil] at hk hr
    exact b82_p hb h hk (fun z => hr z M h .rf)
  · rw [if_neg h1]
    rw [if_neg h1] at hk hr
    refine (r_emit h (hC h1) x2).bd (fun r M1 h1' => ?_)
    exact b82_p hb h1'.1 (fun z M2 h2 hf2 => hk z M2 h2 (h1'.2.tr hf2)) (fun z => hr z M1 h1'.1 h1'.2)
theorem b72_f {rf : Mem → Nat → Int32 → Option (Int32 × Mem)} {i1 : Int32} {k4 : Int32 → Int32 → Mem → Option (Int32 × Mem)} {x2 x3 : Int32} {e : Nat × Nat} (h : RF M e) : tot (f_X6_sum_b72 rf 3 i1 k4 x2 x3 M) (fun _ M' => RF M' e ∧ HF M M') := by
  have h82 : ∀ M1, RF M1 e → f_X6_sum_b82 rf 3 i1 k4 x3 M1 = some (0, M1) := fun M1 h1 => by
    unfold f_X6_sum_b82
    rw [if_neg (show ¬ M1 3 6 = 43 from h1.nk 43 (by decide)), if_neg (show ¬ M1 3 6 = 45 from h1.nk 45 (by decide))]
  unfold f_X6_sum_b72
  split
  · rw [h82 M h]; exact tot.ret ⟨h, .rf⟩
  · refine (r_emit2 h x2).bd (fun r M1 h1 => ?_)
    show tot (f_X6_sum_b82 rf 3 i1 k4 x3 M1) _
    rw [h82 M1 h1.1]
    exact tot.ret h1
theorem in_f {rf : Mem → Nat → Int32 → Option (Int32 × Mem)} {i1 : Int32} {k4 : Int32 → Int32 → Mem → Option (Int32 × Mem)} {x2 x3 x4 : Int32} {e : Nat × Nat} (h : RF M e) (m : Nat) : f_X6_sum_h19 rf 3 i1 k4 (m + 1) x2 x3 x4 M = f_X6_sum_b72 rf 3 i1 k4 x2 x3 M := by
  unfold f_X6_sum_h19
  rw [if_neg (show ¬ M 3 6 = 42 from h.nk 42 (by decide)), if_neg (show ¬ M 3 6 = 47 from h.nk 47 (by decide))]
  split <;> rfl
theorem in_p (hb : ∀ k, k < 300 → ∃ q, q < 256 ∧ f k = nI q) {rf : Mem → Nat → Int32 → Option (Int32 × Mem)} {i b : Nat} {g : Nat → Pr} (hS : SH f n rf g i) (hg : ∀ p, p ≤ n → POk n p b false (g p)) {k4 : Int32 → Int32 → Mem → Option (Int32 × Mem)} {x2 x3 : Int32} {Q : Int32 → Mem → Prop} (m : Nat) {N' x4 : Nat} {M : Mem} {p : Nat} {X : List Nat} (hm : n < m + p) (hN : m < N') (hx : 2 * x4 ≤ p) (h : RP f n M p (C ++ cXs X)) (hC : (C ++ cXs X).length ≤ p)
    (hP : ∀ M' q Y, pLp (kK f n) (kN f n) g 42 47 10022 10023 m p X = .inr (q, Y) → RP f n M' q (C ++ cXs Y) → HF M M' → tot (f_X6_sum_b72 rf 3 (nI i) k4 x2 x3 M') Q)
    (hF : ∀ M' e, pLp (kK f n) (kN f n) g 42 47 10022 10023 m p X = .inl e → RF M' e → HF M M' → tot (f_X6_sum_b72 rf 3 (nI i) k4 x2 x3 M') Q) : tot (f_X6_sum_h19 rf 3 (nI i) k4 N' x2 x3 (nI x4) M) Q := by
  induction m generalizing N' x4 M p X with
  | zero => have := h.le; omega
  | succ m ih =>
    obtain ⟨N', rfl⟩ : ∃ k, N' = k + 1 := ⟨N' - 1, by omega⟩
    have hle := h.le
    unfold f_X6_sum_h19
    rw [if_neg (show ¬ 300 ≤ nI x4 from i_nle (b := 300) (by omega) (by decide))]
    unfold pLp at hP hF
    by_cases hk : kK f n p = 42 ∨ kK f n p = 47
    · rw [if_pos hk] at hP hF
      have eb : (if M 3 6 = 42 then f_X6_sum_b45 rf 3 (nI i) k4 (f_X6_sum_h19 rf 3 (nI i) k4 N') x2 x3 (nI x4) M else if M 3 6 = 47 then f_X6_sum_b45 rf 3 (nI i) k4 (f_X6_sum_h19 rf 3 (nI i) k4 N') x2 x3 (nI x4) M else f_X6_sum_b72 rf 3 (nI i) k4 x2 x3 M) = f_X6_sum_b45 rf 3 (nI i) k4 (f_X6_sum_h19 rf 3 (nI i) k4 N') x2 x3 (nI x4) M := by
        rcases hk with hk | hk
        · rw [if_pos (show M 3 6 = 42 from (h.is hb 42 (by decide)).mpr hk)]
        · rw [if_neg (show ¬ M 3 6 = 42 from fun z => absurd ((h.is hb 42 (by decide)).mp z) (by omega)), if_pos (show M 3 6 = 47 from (h.is hb 47 (by decide)).mpr hk)]
      rw [eb]
      unfold f_X6_sum_b45
      have hpn := tk_ok f n p hle.1 (by omega)
      have hok := hg (kN f n p) hpn.2
      refine (r_step h (by omega)).bd (fun r M1 h1 => ?_)
      obtain ⟨h1, hf1⟩ := h1
      refine (hS.1 M1 _ _ h1 (by omega)).bd (fun r M2 h2 => ?_)
      obtain ⟨h2, hf2⟩ := h2
      dsimp only
      cases hgx : g (kN f n p) with
      | inl e =>
        rw [hgx] at h2 hP hF
        have h2' : RF M2 e := h2
        refine (r_emit2 h2' (M 3 6)).bd (fun r M3 h3 => ?_)
        obtain ⟨N2, rfl⟩ : ∃ k, N' = k + 1 := ⟨N' - 1, by omega⟩
        show tot (f_X6_sum_h19 rf 3 (nI i) k4 (N2 + 1) x2 x3 (nI x4 + 1) M3) Q
        rw [in_f h3.1]
        exact hF M3 e rfl h3.1 ((hf1.tr hf2).tr h3.2)
      | inr y =>
        obtain ⟨q, Y⟩ := y
        rw [hgx] at h2 hP hF hok
        have h2' : RP f n M2 q (C ++ cXs X ++ cXs Y) := h2
        have hY : Gd n (kN f n p) b false q Y := hok
        have hl : (C ++ cXs X ++ cXs Y).length + 1 ≤ q := by
          rw [List.length_append]; have := hY.1; omega
        have hq := hY.1
        refine (r_emit h2' (by omega) (M 3 6)).bd (fun r M3 h3 => ?_)
        obtain ⟨h3, hf3⟩ := h3
        show tot (f_X6_sum_h19 rf 3 (nI i) k4 N' x2 x3 (nI x4 + 1) M3) Q
        rw [← nI_succ]
        have e1 : C ++ cXs (X ++ Y ++ [if kK f n p = 42 then 10022 else 10023]) = C ++ cXs X ++ cXs Y ++ [M 3 6] := by
          have : cX (if kK f n p = 42 then 10022 else 10023) = [M 3 6] := by
            rw [h.tk]
            rcases hk with hk | hk <;> rw [hk] <;> rfl
          rw [cXs_app, cXs_app, cXs_one, this, ← List.append_assoc, ← List.append_assoc]
        refine ih (p := q) (X := X ++ Y ++ [if kK f n p = 42 then 10022 else 10023]) (by omega) (by omega) (by omega) (by rw [e1]; exact h3) (by rw [e1, List.length_append]; simp only [List.length_cons, List.length_nil]; omega) (fun M' q' Y' h5 h6 h7 => hP M' q' Y' h5 h6 (((hf1.tr hf2).tr hf3).tr h7)) (fun M' e h5 h6 h7 => hF M' e h5 h6 (((hf1.tr hf2).tr hf3).tr h7))
    · rw [if_neg hk] at hP hF
      rw [if_neg (show ¬ M 3 6 = 42 from fun z => hk (Or.inl ((h.is hb 42 (by decide)).mp z))), if_neg (show ¬ M 3 6 = 47 from fun z => hk (Or.inr ((h.is hb 47 (by decide)).mp z)))]
      exact hP M p X rfl h .rf
end SUMS
