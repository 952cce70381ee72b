/-! The class's condition. -/
section COND
variable {f : Nat → Int32} {n : Nat}
def pno (x : Int32) : List Int32 := if x = 0 then [] else [312]
theorem b59_p (hb : ∀ k, k < 300 → ∃ q, q < 256 ∧ f k = nI q) {rc : Mem → Nat → Int32 → Option (Int32 × Mem)} {i1 : Int32} {k4 : Int32 → Int32 → Mem → Option (Int32 × Mem)} {x2 x3 : Int32} {Q : Int32 → Mem → Prop} {M : Mem} {p : Nat} {C : List Int32} (h : RP f n M p C) (hC : x2 ≠ 0 → C.length < 300) (hk : kK f n p = 312 → ∀ M', RP f n M' (kN f n p) (C ++ pno x2) → HF M M' → tot (k4 1 (x3 + 1) M') Q) (hr : ¬ kK f n p = 312 → ∀ M', RP f n M' p (C ++ pno x2) → HF M M' → Q 0 M') : tot (f_X6_condition_b59 rc 3 i1 k4 x2 x3 M) Q := by
  have h70 : ∀ M1, RP f n M1 p (C ++ pno x2) → HF M M1 → tot (f_X6_condition_b70 rc 3 i1 k4 x3 M1) Q := fun M1 h1 hf1 => by
    unfold f_X6_condition_b70
    by_cases h2 : kK f n p = 312
    · rw [if_pos (show M1 3 6 = 312 from (h1.is hb 312 (by decide)).mpr h2)]
      refine (r_step h1 (by omega)).bd (fun r M2 h3 => ?_)
      exact hk h2 M2 h3.1 (hf1.tr h3.2)
    · rw [if_neg (show ¬ M1 3 6 = 312 from fun z => h2 ((h1.is hb 312 (by decide)).mp z))]
      exact tot.ret (hr h2 M1 h1 hf1)
  unfold f_X6_condition_b59
  by_cases h1 : x2 = 0
  · rw [if_pos h1]
    refine h70 M ?_ .rf
    unfold pno
    rw [if_pos h1, List.append_nil]; exact h
  · rw [if_neg h1]
    refine (r_emit h (hC h1) 312).bd (fun r M1 h1' => ?_)
    refine h70 M1 ?_ h1'.2
    unfold pno
    rw [if_neg h1]; exact h1'.1
theorem b59_f {rc : Mem → Nat → Int32 → Option (Int32 × Mem)} {i1 : Int32} {k4 : Int32 → Int32 → Mem → Option (Int32 × Mem)} {x2 x3 : Int32} {M : Mem} {e : Nat × Nat} (h : RF M e) : tot (f_X6_condition_b59 rc 3 i1 k4 x2 x3 M) (fun _ M' => RF M' e ∧ HF M M') := by
  have h70 : ∀ M1, RF M1 e → f_X6_condition_b70 rc 3 i1 k4 x3 M1 = some (0, M1) := fun M1 h1 => by
    unfold f_X6_condition_b70
    rw [if_neg (show ¬ M1 3 6 = 312 from h1.nk 312 (by decide))]
  unfold f_X6_condition_b59
  split
  · rw [h70 M h]; exact tot.ret ⟨h, .rf⟩
  · refine (r_emit2 h 312).bd (fun r M1 h1 => ?_)
    show tot (f_X6_condition_b70 rc 3 i1 k4 x3 M1) _
    rw [h70 M1 h1.1]
    exact tot.ret h1
theorem cin_f {rc : Mem → Nat → Int32 → Option (Int32 × Mem)} {i1 : Int32} {k4 : Int32 → Int32 → Mem → Option (Int32 × Mem)} {x2 x3 x4 : Int32} {M : Mem} {e : Nat × Nat} (h : RF M e) (m : Nat) : f_X6_condition_h19 rc 3 i1 k4 (m + 1) x2 x3 x4 M = f_X6_condition_b59 rc 3 i1 k4 x2 x3 M := by
  unfold f_X6_condition_h19
  rw [if_neg (show ¬ M 3 6 = 313 from h.nk 313 (by decide))]
  split <;> rfl
theorem cin_p (hb : ∀ k, k < 300 → ∃ q, q < 256 ∧ f k = nI q) {rc : Mem → Nat → Int32 → Option (Int32 × Mem)} {i b : Nat} {g : Nat → Pr} (hS : SH f n rc g i) (hg : ∀ p, p ≤ n → POk n p b true (g p)) {C : List Int32} {k4 : Int32 → Int32 → Mem → Option (Int32 × Mem)} {x2 x3 : Int32} {Q : Int32 → Mem → Prop} (m : Nat) {N' x4 : Nat} {M : Mem} {p : Nat} {X : List Nat} (hm : n < m + p) (hN : m < N') (hx : 2 * x4 ≤ p) (h : RP f n M p (C ++ cXs X)) (hC : (C ++ cXs X).length ≤ p)
    (hP : ∀ M' q Y, pLp (kK f n) (kN f n) g 313 313 10034 10034 m p X = .inr (q, Y) → RP f n M' q (C ++ cXs Y) → HF M M' → tot (f_X6_condition_b59 rc 3 (nI i) k4 x2 x3 M') Q)
    (hF : ∀ M' e, pLp (kK f n) (kN f n) g 313 313 10034 10034 m p X = .inl e → RF M' e → HF M M' → tot (f_X6_condition_b59 rc 3 (nI i) k4 x2 x3 M') Q) : tot (f_X6_condition_h19 rc 3 (nI i) k4 N' x2 x3 (nI x4) M) Q := by
  induction m generalizing N' x4 M p X with
  | zero => have := h.le; omega
  | succ m ih =>
    obtain ⟨N', rfl⟩ : ∃ k, N' = k + 1 := ⟨N' - 1, by omega⟩
    have hle := h.le
    unfold f_X6_condition_h19
    rw [if_neg (show ¬ 300 ≤ nI x4 from i_nle (b := 300) (by omega) (by decide))]
    unfold pLp at hP hF
    by_cases hk : kK f n p = 313 ∨ kK f n p = 313
    · rw [if_pos hk] at hP hF
      have hk1 : kK f n p = 313 := hk.elim id id
      rw [if_pos (show M 3 6 = 313 from (h.is hb 313 (by decide)).mpr hk1)]
      have hpn := tk_ok f n p hle.1 (by omega)
      have hok := hg (kN f n p) hpn.2
      refine (r_step h (by omega)).bd (fun r M1 h1 => ?_)
      obtain ⟨h1, hf1⟩ := h1
      refine (hS.1 M1 _ _ h1 (by omega)).bd (fun r M2 h2 => ?_)
      obtain ⟨h2, hf2⟩ := h2
      dsimp only
      cases hgx : g (kN f n p) with
      | inl e =>
        rw [hgx] at h2 hP hF
        have h2' : RF M2 e := h2
        refine (r_emit2 h2' 313).bd (fun r M3 h3 => ?_)
        obtain ⟨N2, rfl⟩ : ∃ k, N' = k + 1 := ⟨N' - 1, by omega⟩
        show tot (f_X6_condition_h19 rc 3 (nI i) k4 (N2 + 1) x2 x3 (nI x4 + 1) M3) Q
        rw [cin_f h3.1]
        exact hF M3 e rfl h3.1 ((hf1.tr hf2).tr h3.2)
      | inr y =>
        obtain ⟨q, Y⟩ := y
        rw [hgx] at h2 hP hF hok
        have h2' : RP f n M2 q (C ++ cXs X ++ cXs Y) := h2
        have hY : Gd n (kN f n p) b true q Y := hok
        have hl : (C ++ cXs X ++ cXs Y).length + 1 ≤ q := by
          rw [List.length_append]; have := hY.1; omega
        have hq := hY.1
        refine (r_emit h2' (by omega) 313).bd (fun r M3 h3 => ?_)
        obtain ⟨h3, hf3⟩ := h3
        show tot (f_X6_condition_h19 rc 3 (nI i) k4 N' x2 x3 (nI x4 + 1) M3) Q
        rw [← nI_succ]
        have e1 : C ++ cXs (X ++ Y ++ [if kK f n p = 313 then 10034 else 10034]) = C ++ cXs X ++ cXs Y ++ [313] := by
          have : cX (if kK f n p = 313 then 10034 else 10034) = [313] := by rw [if_pos hk1]; rfl
          rw [cXs_app, cXs_app, cXs_one, this, ← List.append_assoc, ← List.append_assoc]
        refine ih (p := q) (X := X ++ Y ++ [if kK f n p = 313 then 10034 else 10034]) (by omega) (by omega) (by omega) (by rw [e1]; exact h3) (by rw [e1, List.length_append]; simp only [List.length_cons, List.length_nil]; omega) (fun M' q' Y' h5 h6 h7 => hP M' q' Y' h5 h6 (((hf1.tr hf2).tr hf3).tr h7)) (fun M' e h5 h6 h7 => hF M' e h5 h6 (((hf1.tr hf2).tr hf3).tr h7))
    · rw [if_neg hk] at hP hF
      rw [if_neg (show ¬ M 3 6 = 313 from fun z => hk (Or.inl ((h.is hb 313 (by decide)).mp z)))]
      exact hP M p X rfl h .rf
end COND
