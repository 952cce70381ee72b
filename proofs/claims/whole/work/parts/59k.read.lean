/-! The class's row of clauses. -/
section READK
variable {f : Nat → Int32} {n : Nat}
theorem rd_f {a1 : Nat} {i2 x3 : Int32} {M : Mem} {e : Nat × Nat} (h : RF M e) (m : Nat) : f_X6_read_h35 3 a1 i2 (m + 1) x3 M = some (0, M) := by
  unfold f_X6_read_h35
  rw [if_neg (show ¬ M 3 6 = 401 from h.nk 401 (by decide)), if_pos (show M 3 6 = 402 from h.2.2)]
  split <;> rfl
theorem b140_f {a1 : Nat} {i2 x3 x4 : Int32} {M : Mem} {e : Nat × Nat} (h : RF M e) (m : Nat) : tot (f_X6_read_b140 3 a1 i2 (f_X6_read_h35 3 a1 i2 (m + 1)) x3 x4 M) (fun _ M' => RF M' e ∧ HF M M') := by
  unfold f_X6_read_b140 f_X6_read_b152
  rw [show (59 : Int32) = nI 59 from rfl, r_expect2 h 59 (by decide)]
  refine (r_emit2 h x4).bd (fun r M1 h1 => ?_)
  dsimp only
  rw [rd_f h1.1]
  exact tot.ret h1
theorem rd_p (hb : ∀ k, k < 300 → ∃ q, q < 256 ∧ f k = nI q) {a1 : Nat} {i2 : Int32} (m : Nat) {N' c : Nat} {M : Mem} {p : Nat} {X : List Nat} (hc : m + c = 12) (hN : m + 2 < N') (h : RP f n M p (cXs X)) (hC : (cXs X).length ≤ p) : tot (f_X6_read_h35 3 a1 i2 N' (nI c) M) (fun _ M' => RX f n [] (pLaw (kK f n) (kV f n) (kN f n) (m + 1) p X) M' ∧ HF M M') := by
  induction m generalizing N' c M p X with
  | zero =>
    obtain ⟨N', rfl⟩ : ∃ k, N' = k + 2 := ⟨N' - 2, by omega⟩
    obtain rfl : c = 12 := by omega
    have hlt := kK_lt hb h.le.2 p
    unfold f_X6_read_h35 pLaw
    rw [if_neg (by decide), if_neg (show ¬ M 3 6 = 402 from by rw [h.tk]; exact fun z => absurd ((i_eq (b := 402) (by omega) (by decide)).mp z) (by omega))]
    by_cases h1 : kK f n p = 401
    · rw [if_pos (show M 3 6 = 401 from (h.is hb 401 (by decide)).mpr h1), if_pos h1]
      exact tot.ret ⟨h, .rf⟩
    · rw [if_neg (show ¬ M 3 6 = 401 from fun z => h1 ((h.is hb 401 (by decide)).mp z)), if_neg h1]
      by_cases h2 : kK f n p = 309 ∨ kK f n p = 310
      · rw [if_pos h2, if_pos rfl]
        have eb : ∀ k T, (if M 3 6 = 309 then f_X6_read_b91 3 a1 i2 k (nI 12) (M 3 6) M else if M 3 6 = 310 then f_X6_read_b91 3 a1 i2 k (nI 12) (M 3 6) M else T) = f_X6_read_b91 3 a1 i2 k (nI 12) (M 3 6) M := fun k T => by
          rw [h.tk]
          rcases h2 with h2 | h2 <;> rw [h2] <;> rfl
        rw [eb]
        unfold f_X6_read_b91 f_X6_read_b152
        rw [if_pos (by decide)]
        refine (r_fail h (c := 3) (by decide) (by decide)).bd (fun r M1 h3 => ?_)
        dsimp only
        rw [rd_f h3.1]
        exact tot.ret h3
      · rw [if_neg h2, if_neg (show ¬ M 3 6 = 309 from fun z => h2 (Or.inl ((h.is hb 309 (by decide)).mp z))), if_neg (show ¬ M 3 6 = 310 from fun z => h2 (Or.inr ((h.is hb 310 (by decide)).mp z)))]
        unfold f_X6_read_b152
        refine (r_fail h (c := 1) (by decide) (by decide)).bd (fun r M1 h3 => ?_)
        dsimp only
        rw [rd_f h3.1]
        exact tot.ret h3
  | succ m ih =>
    obtain ⟨N', rfl⟩ : ∃ k, N' = k + 2 := ⟨N' - 2, by omega⟩
    have hlt := kK_lt hb h.le.2 p
    have hle := h.le
    unfold f_X6_read_h35 pLaw
    rw [if_neg (show ¬ 12 < nI c from nI_nlt (a := 12) (by omega) (by omega)), if_neg (show ¬ M 3 6 = 402 from by rw [h.tk]; exact fun z => absurd ((i_eq (b := 402) (by omega) (by decide)).mp z) (by omega))]
    by_cases h1 : kK f n p = 401
    · rw [if_pos (show M 3 6 = 401 from (h.is hb 401 (by decide)).mpr h1), if_pos h1]
      exact tot.ret ⟨h, .rf⟩
    · rw [if_neg (show ¬ M 3 6 = 401 from fun z => h1 ((h.is hb 401 (by decide)).mp z)), if_neg h1]
      by_cases h2 : kK f n p = 309 ∨ kK f n p = 310
      · rw [if_pos h2, if_neg (Nat.succ_ne_zero m)]
        have eb : ∀ k T, (if M 3 6 = 309 then f_X6_read_b91 3 a1 i2 k (nI c) (M 3 6) M else if M 3 6 = 310 then f_X6_read_b91 3 a1 i2 k (nI c) (M 3 6) M else T) = f_X6_read_b91 3 a1 i2 k (nI c) (M 3 6) M := fun k T => by
          rw [h.tk]
          rcases h2 with h2 | h2 <;> rw [h2] <;> rfl
        rw [eb]
        unfold f_X6_read_b91
        rw [if_neg (show ¬ nI c = 12 from fun z => absurd ((i_eq (b := 12) (by omega) (by decide)).mp z) (by omega))]
        have hpn := tk_ok f n p hle.1 h1
        have hok := sum_ok (V := kV f n) (tk_ok f n) 6 hpn.2
        refine (r_step h h1).bd (fun r M1 h3 => ?_)
        obtain ⟨h3, hf1⟩ := h3
        refine ((sum_c hb 6 (by decide) (by decide)).1 M1 _ _ h3 (by omega)).bd (fun r M2 h4 => ?_)
        obtain ⟨h4, hf2⟩ := h4
        dsimp only
        cases hq : pSum (kK f n) (kV f n) (kN f n) 6 (kN f n p) with
        | inl e =>
          rw [hq] at h4
          have h4' : RF M2 e := h4
          rw [if_neg (show ¬ M2 3 6 = 311 from h4'.nk 311 (by decide))]
          exact (b140_f h4' N').mono (fun r M3 h5 => ⟨h5.1, (hf1.tr hf2).tr h5.2⟩)
        | inr y =>
          obtain ⟨q, Y⟩ := y
          rw [hq] at h4 hok
          have h4' : RP f n M2 q (cXs X ++ cXs Y) := h4
          have hY : Gd n (kN f n p) 21 false q Y := hok
          have hy := hY.1
          have hlen : (cXs X ++ cXs Y).length ≤ q := by rw [List.length_append]; omega
          have e140 : ∀ {M3 : Mem} {q : Nat} {D : List Int32} {Z : List Nat}, RP f n M3 q D → D.length ≤ q → D ++ [M 3 6] = cXs (X ++ Z) → tot (f_X6_read_b140 3 a1 i2 (f_X6_read_h35 3 a1 i2 (N' + 1)) (nI c) (M 3 6) M3) (fun _ M' => RX f n [] (if kK f n q = 59 then pLaw (kK f n) (kV f n) (kN f n) (m + 1) (kN f n q) (X ++ Z) else .inl (1, q)) M' ∧ HF M3 M') := by
            intro M3 q D Z g1 g2 g3
            unfold f_X6_read_b140 f_X6_read_b152
            have gl := g1.le
            refine (r_expect hb g1 59 (by decide)).bd (fun r M4 g4 => ?_)
            obtain ⟨g4, gf⟩ := g4
            by_cases g5 : kK f n q = 59
            · rw [if_pos g5] at g4 ⊢
              have gq := tk_ok f n q gl.1 (by omega)
              refine (r_emit g4 (by omega) (M 3 6)).bd (fun r M5 g6 => ?_)
              dsimp only
              rw [← nI_succ]
              refine (ih (X := X ++ Z) (by omega) (by omega) (by rw [← g3]; exact g6.1) (by rw [← g3, List.length_append]; simp only [List.length_cons, List.length_nil]; omega)).mono (fun r M6 g7 => ⟨g7.1, (gf.tr g6.2).tr g7.2⟩)
            · rw [if_neg g5] at g4 ⊢
              refine (r_emit2 g4 (M 3 6)).bd (fun r M5 g6 => ?_)
              dsimp only
              rw [rd_f g6.1]
              exact tot.ret ⟨g6.1, gf.tr g6.2⟩
          have eK : M 3 6 = nI (kK f n p) := h.tk
          show tot _ (fun _ M' => RX f n [] (if kK f n q = 311 then pB (pCnd (kK f n) (kN f n) (pCm (kK f n) (kV f n) (kN f n) 6) (kN f n q)) fun r Z => (if kK f n r = 59 then pLaw (kK f n) (kV f n) (kN f n) (m + 1) (kN f n r) (X ++ (Y ++ Z ++ [9733 + kK f n p])) else .inl (1, r)) else if kK f n q = 59 then pLaw (kK f n) (kV f n) (kN f n) (m + 1) (kN f n q) (X ++ (Y ++ [9731 + kK f n p])) else .inl (1, q)) M' ∧ HF M M')
          by_cases h5 : kK f n q = 311
          · rw [if_pos (show M2 3 6 = 311 from (h4'.is hb 311 (by decide)).mpr h5), if_pos h5]
            have hqn := tk_ok f n q h4'.le.1 (by omega)
            have hok2 := cnd_ok (tk_ok f n) (b := 22) (fun p hp => cm_ok (V := kV f n) (tk_ok f n) 6 hp) hqn.2
            refine (r_step h4' (by omega)).bd (fun r M3 h6 => ?_)
            obtain ⟨h6, hf3⟩ := h6
            refine ((cond_c hb 6 (by decide) (by decide)).1 M3 _ _ h6 (by omega)).bd (fun r M4 h7 => ?_)
            obtain ⟨h7, hf4⟩ := h7
            dsimp only
            cases hr : pCnd (kK f n) (kN f n) (pCm (kK f n) (kV f n) (kN f n) 6) (kN f n q) with
            | inl e =>
              rw [hr] at h7
              have h7' : RF M4 e := h7
              refine (r_emit2 h7' 311).bd (fun r M5 h8 => ?_)
              exact (b140_f h8.1 N').mono (fun r M6 h9 => ⟨h9.1, ((((hf1.tr hf2).tr hf3).tr hf4).tr h8.2).tr h9.2⟩)
            | inr z =>
              obtain ⟨r2, Z⟩ := z
              rw [hr] at h7 hok2
              have h7' : RP f n M4 r2 (cXs X ++ cXs Y ++ cXs Z) := h7
              have hZ : Gd n (kN f n q) 24 true r2 Z := hok2
              have hz := hZ.1
              have hl2 : (cXs X ++ cXs Y ++ cXs Z).length + 1 ≤ r2 := by rw [List.length_append]; omega
              refine (r_emit h7' (by omega) 311).bd (fun r M5 h8 => ?_)
              refine (e140 (Z := Y ++ Z ++ [9733 + kK f n p]) h8.1 (by rw [List.length_append]; simp only [List.length_cons, List.length_nil]; omega) ?_).mono (fun r M6 h9 => ⟨h9.1, ((((hf1.tr hf2).tr hf3).tr hf4).tr h8.2).tr h9.2⟩)
              have e2 : cX (9733 + kK f n p) = [311, M 3 6] := by
                rw [eK]
                rcases h2 with h2 | h2 <;> rw [h2] <;> rfl
              rw [cXs_app, cXs_app, cXs_app, cXs_one, e2]
              simp only [List.append_assoc, List.cons_append, List.nil_append]
          · rw [if_neg (show ¬ M2 3 6 = 311 from fun z => h5 ((h4'.is hb 311 (by decide)).mp z)), if_neg h5]
            refine (e140 (Z := Y ++ [9731 + kK f n p]) h4' hlen ?_).mono (fun r M6 h9 => ⟨h9.1, (hf1.tr hf2).tr h9.2⟩)
            have e2 : cX (9731 + kK f n p) = [M 3 6] := by
              rw [eK]
              rcases h2 with h2 | h2 <;> rw [h2] <;> rfl
            rw [cXs_app, cXs_app, cXs_one, e2, List.append_assoc]
      · rw [if_neg h2, if_neg (show ¬ M 3 6 = 309 from fun z => h2 (Or.inl ((h.is hb 309 (by decide)).mp z))), if_neg (show ¬ M 3 6 = 310 from fun z => h2 (Or.inr ((h.is hb 310 (by decide)).mp z)))]
        unfold f_X6_read_b152
        refine (r_fail h (c := 1) (by decide) (by decide)).bd (fun r M1 h3 => ?_)
        dsimp only
        rw [rd_f h3.1]
        exact tot.ret h3
end READK
