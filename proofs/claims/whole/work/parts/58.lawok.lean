/-! law() leaves a state within bounds. -/
theorem wds_18 (L : List Nat) : wds.findIdx (· == L) ≤ 18 := List.findIdx_le_length
theorem tk_ok (f : Nat → Int32) (n : Nat) : TkO n (kK f n) (kN f n) := fun p hp hk => by
  by_cases h : p < n
  · exact kN_gt h
  · exact absurd (by unfold kK; rw [if_neg h]) hk
theorem pLaw_ok (f : Nat → Int32) (n : Nat) : match pLaw (kK f n) (kV f n) (kN f n) 13 (sk f n 0) [] with
    | .inl e => 1 ≤ e.1 ∧ e.1 ≤ 3 ∧ e.2 ≤ n
    | .inr (_, Y) => (cXs Y).length ≤ n ∧ Y.length ≤ n ∧ (∀ c ∈ Y, c < 20000) ∧ cTs Y [] = some [] :=
  law_ok (tk_ok f n) 13 (run_le isB f n _ 0 (by omega)) ⟨Nat.zero_le _, Nat.zero_le _, (fun c hc => absurd hc List.not_mem_nil), rfl⟩
theorem z_law {s : St} (ok : SOK s) (x : Int32) : SOK (oLaw s x).2 := by
  unfold oLaw
  by_cases h : dIn x 0 (nI (sTb s)) = true
  · rw [if_pos h]
    obtain ⟨n, hn, rfl⟩ := dIn_nI h (by have := ok.1; omega)
    rw [i_cl (by have := ok.1; omega)]
    by_cases h4 : (sLs s).length = 4
    · rw [if_pos h4]
      exact ⟨Nat.zero_le _, ok.2.1, ok.2.2.1, ok.2.2.2.1, ok.rd, ok.2.2.2.2.2.1, ok.2.2.2.2.2.2⟩
    · rw [if_neg h4]
      have hl := pLaw_ok (sTf s) n
      cases hp : pLaw (kK (sTf s) n) (kV (sTf s) n) (kN (sTf s) n) 13 (sk (sTf s) n 0) [] with
      | inl e => exact ⟨Nat.zero_le _, ok.2.1, ok.2.2.1, ok.2.2.2.1, ok.rd, ok.2.2.2.2.2.1, ok.2.2.2.2.2.2⟩
      | inr y =>
        obtain ⟨q, X⟩ := y
        rw [hp] at hl
        obtain ⟨l1, l2, l3, l4⟩ := hl
        have h3 := ok.2.2.1
        have h1 := ok.1
        refine ⟨Nat.zero_le _, ok.2.1, ?_, fun i A hi => ?_, ok.rd, ok.2.2.2.2.2.1, ok.2.2.2.2.2.2⟩
        · show (sLs s ++ [X]).length ≤ 4
          rw [List.length_append]; simp only [List.length_cons, List.length_nil]; omega
        · have hi2 : (sLs s ++ [X])[i]? = some A := hi
          by_cases hz : i < (sLs s).length
          · rw [List.getElem?_append_left hz] at hi2
            exact ok.2.2.2.1 i A hi2
          · rw [List.getElem?_append_right (by omega)] at hi2
            have : A = X := by
              by_cases hy : i - (sLs s).length = 0
              · rw [hy] at hi2; cases hi2; rfl
              · rw [List.getElem?_eq_none (by simp; omega)] at hi2; cases hi2
            rw [this]
            exact ⟨l4, by omega, l3⟩
  · rw [if_neg h]; exact ok
