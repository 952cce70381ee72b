/-! The class's factor and sum. -/
section SUMS
variable {f : Nat → Int32} {n : Nat} {M : Mem} {p : Nat} {C : List Int32}
theorem fac_bk (g : Option (Nat → Pr)) (p : Nat) : pFac (kK f n) (kV f n) (kN f n) g p = if kK f n p = 400 then (if kV f n p ≤ 9999 then .inr (kN f n p, [kV f n p]) else .inl (2, p)) else if 300 ≤ kK f n p ∧ kK f n p < 309 then .inr (kN f n p, [9700 + kK f n p]) else if kK f n p = 315 ∨ kK f n p = 316 ∨ kK f n p = 317 ∨ kK f n p = 40 then pBk f n g (kK f n p) (if kK f n p = 40 then p else kN f n p) else .inl (1, p) := rfl
theorem nv_le (f : Nat → Int32) (m p x : Nat) (hx : x ≤ 10000) : nv f m p x ≤ 10000 := by
  induction m generalizing p x with
  | zero => exact hx
  | succ m ih => exact ih _ _ (Nat.min_le_left _ _)
theorem kV_le (f : Nat → Int32) (n p : Nat) : kV f n p ≤ 10000 := by
  unfold kV
  split
  · exact nv_le f _ p 0 (by omega)
  · omega
theorem nI_1000 (k : Nat) : nI k + 1000 = nI (k + 1000) := by
  have h : ∀ m : Nat, nI k + nI m = nI (k + m) := fun m => by
    induction m with
    | zero => exact Int32.add_zero _
    | succ m ih => rw [nI_succ, ← Int32.add_assoc, ih, ← nI_succ, Nat.add_assoc]
  exact h 1000
theorem fac_f {rs : Mem → Nat → Int32 → Option (Int32 × Mem)} {i1 : Int32} {e : Nat × Nat} (h : RF M e) : tot (f_X6_factor rs M 3 i1) (fun _ M' => RF M' e ∧ HF M M') := by
  unfold f_X6_factor f_X6_factor_b30 f_X6_factor_b82
  rw [h.2.2, if_neg (by decide), if_neg (by decide), if_neg (by decide), if_pos (by decide), if_neg (by decide), if_neg (by decide), if_neg (by decide), if_neg (by decide), r_fail2 h]
  exact tot.ret ⟨h, .rf⟩
theorem b82_f {rs : Mem → Nat → Int32 → Option (Int32 × Mem)} {i1 x : Int32} (h : RP f n M p C) (hx : ¬ x = 315 ∧ ¬ x = 316 ∧ ¬ x = 317 ∧ ¬ x = 40) : tot (f_X6_factor_b82 rs 3 i1 x M) (fun _ M' => RF M' (1, p) ∧ HF M M') := by
  unfold f_X6_factor_b82
  rw [if_neg hx.1, if_neg hx.2.1, if_neg hx.2.2.1, if_neg hx.2.2.2]
  exact (r_fail h (c := 1) (by decide) (by decide)).bd (fun r M1 h1 => tot.ret h1)
theorem fac_p (hb : ∀ k, k < 300 → ∃ q, q < 256 ∧ f k = nI q) {rs : Mem → Nat → Int32 → Option (Int32 × Mem)} {g : Option (Nat → Pr)} {i b : Nat} (hi : i ≤ 6) (h0 : i = 6 → g = none) (hg : i < 6 → ∃ g', g = some g' ∧ SH f n rs g' (i + 1) ∧ ∀ p, p ≤ n → POk n p b false (g' p)) : SH f n (f_X6_factor rs) (pFac (kK f n) (kV f n) (kN f n) g) i := by
  refine ⟨fun M p C h hC => ?_, fun M e h => fac_f h⟩
  rw [fac_bk]
  have hlt := kK_lt hb h.le.2 p
  have hv := kV_le f n p
  unfold f_X6_factor
  rw [h.tk]
  by_cases h1 : kK f n p = 400
  · rw [if_pos (show nI (kK f n p) = 400 by rw [h1]; rfl), if_pos h1]
    have hpn := tk_ok f n p h.le.1 (by omega)
    have hn := h.le.2
    by_cases h2 : kV f n p ≤ 9999
    · rw [if_pos (show M 3 8 ≤ 9999 by rw [h.vl]; exact i_le (b := 9999) h2 (by decide)), if_pos h2]
      unfold f_X6_factor_b30
      rw [if_pos (show nI (kK f n p) = 400 by rw [h1]; rfl)]
      have e1 : 1000 + M 3 8 = nI (kV f n p + 1000) := by
        rw [h.vl, Int32.add_comm]; exact nI_1000 _
      rw [e1]
      refine (r_emit h (by omega) _).bd (fun r M1 h1 => ?_)
      obtain ⟨h1, hf1⟩ := h1
      refine (r_step h1 (by omega)).bd (fun r M2 h2' => tot.ret ⟨?_, hf1.tr h2'.2⟩)
      show RP f n M2 (kN f n p) (C ++ cXs [kV f n p])
      rw [cXs_one, show cX (kV f n p) = [nI (kV f n p + 1000)] by unfold cX; rw [if_pos (by omega)]]
      exact h2'.1
    · rw [if_neg (show ¬ M 3 8 ≤ 9999 by rw [h.vl]; exact i_nle (a := 9999) (by omega) (by omega)), if_neg h2]
      exact (r_fail h (c := 2) (by decide) (by decide)).bd (fun r M1 h1 => tot.ret h1)
  · have h1' : ¬ nI (kK f n p) = 400 := fun z => h1 ((nk_eq (b := 400) hlt (by decide)).mp z)
    rw [if_neg h1', if_neg h1]
    unfold f_X6_factor_b30
    rw [if_neg h1']
    by_cases h2 : 300 ≤ kK f n p ∧ kK f n p < 309
    · rw [if_neg (show ¬ nI (kK f n p) < 300 from nI_nlt (b := 300) h2.1 (by omega)), if_neg (show ¬ 309 ≤ nI (kK f n p) from i_nle (b := 309) h2.2 (by decide)), if_pos h2]
      have hpn := tk_ok f n p h.le.1 (by omega)
      have hn := h.le.2
      refine (r_emit h (by omega) _).bd (fun r M1 h1 => ?_)
      obtain ⟨h1, hf1⟩ := h1
      refine (r_step h1 (by omega)).bd (fun r M2 h2' => tot.ret ⟨?_, hf1.tr h2'.2⟩)
      show RP f n M2 (kN f n p) (C ++ cXs [9700 + kK f n p])
      rw [cXs_one, show cX (9700 + kK f n p) = [nI (kK f n p)] by
        unfold cX; rw [if_neg (by omega), if_pos (by omega), show 9700 + kK f n p - 10000 + 300 = kK f n p by omega]]
      exact h2'.1
    · rw [if_neg h2]
      have e82 : ∀ X : Option (Int32 × Mem), (if nI (kK f n p) < 300 then f_X6_factor_b82 rs 3 (nI i) (nI (kK f n p)) M else if 309 ≤ nI (kK f n p) then f_X6_factor_b82 rs 3 (nI i) (nI (kK f n p)) M else X) = f_X6_factor_b82 rs 3 (nI i) (nI (kK f n p)) M := fun X => by
        by_cases h3 : kK f n p < 300
        · rw [if_pos (show nI (kK f n p) < 300 from nI_lt (b := 300) h3 (by decide))]
        · rw [if_neg (show ¬ nI (kK f n p) < 300 from nI_nlt (b := 300) (by omega) (by omega)), if_pos (show 309 ≤ nI (kK f n p) from i_le (a := 309) (by omega) (by omega))]
      rw [e82]
      have eq : ∀ c, c < 403 → (nI (kK f n p) = nI c) = (kK f n p = c) := fun c hc => nk_eq hlt hc
      by_cases h3 : kK f n p = 315 ∨ kK f n p = 316 ∨ kK f n p = 317 ∨ kK f n p = 40
      · rw [if_pos h3]
        have e109 : f_X6_factor_b82 rs 3 (nI i) (nI (kK f n p)) M = f_X6_factor_b109 rs 3 (nI i) (nI (kK f n p)) M := by
          unfold f_X6_factor_b82
          rcases h3 with h3 | h3 | h3 | h3 <;> rw [h3] <;> rfl
        rw [e109]
        unfold f_X6_factor_b109
        have hpn := tk_ok f n p h.le.1 (by omega)
        by_cases h4 : kK f n p = 40
        · rw [if_pos (show nI (kK f n p) = 40 by rw [h4]; rfl), if_pos h4]
          exact fb119 hb hi h0 hg h hC h3
        · rw [if_neg (show ¬ nI (kK f n p) = 40 from fun z => h4 ((eq 40 (by decide)).mp z)), if_neg h4]
          refine (r_step h (by omega)).bd (fun r M1 h1 => ?_)
          exact (fb119 hb hi h0 hg h1.1 (by omega) h3).mono (fun r M2 h2 => ⟨h2.1, h1.2.tr h2.2⟩)
      · rw [if_neg h3]
        exact b82_f h ⟨fun z => h3 (Or.inl ((eq 315 (by decide)).mp z)), fun z => h3 (Or.inr (Or.inl ((eq 316 (by decide)).mp z))), fun z => h3 (Or.inr (Or.inr (Or.inl ((eq 317 (by decide)).mp z)))), fun z => h3 (Or.inr (Or.inr (Or.inr ((eq 40 (by decide)).mp z))))⟩
end SUMS
