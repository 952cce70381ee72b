/-! The class's factor. -/
section FACTOR
variable {f : Nat → Int32} {n : Nat} {M : Mem} {p : Nat} {C : List Int32}
def SH (f : Nat → Int32) (n : Nat) (rs : Mem → Nat → Int32 → Option (Int32 × Mem)) (g : Nat → Pr) (i : Nat) : Prop := (∀ M p C, RP f n M p C → C.length ≤ p → tot (rs M 3 (nI i)) (fun _ M' => RX f n C (g p) M' ∧ HF M M')) ∧ ∀ M e, RF M e → tot (rs M 3 (nI i)) (fun _ M' => RF M' e ∧ HF M M')
theorem nk_eq {a b : Nat} (ha : a < 402) (hb : b < 403) : (nI a = nI b) = (a = b) := propext (i_eq (by omega) (by omega))
theorem fb163 (hb : ∀ k, k < 300 → ∃ q, q < 256 ∧ f k = nI q) {rs : Mem → Nat → Int32 → Option (Int32 × Mem)} {i1 : Int32} (h : RP f n M p C) (hC : C.length ≤ p) {x : Nat} (hx : x < 402) : tot (f_X6_factor_b163 rs 3 i1 (nI x) M) (fun _ M' => (if kK f n p = 41 then RP f n M' (kN f n p) (C ++ (if x = 40 then [] else [nI x])) else RF M' (1, p)) ∧ HF M M') := by
  unfold f_X6_factor_b163
  refine (r_expect hb h 41 (by decide)).bd (fun r M1 h1 => ?_)
  by_cases hk : kK f n p = 41
  · simp only [if_pos hk] at h1 ⊢
    have hpn : p < n := by
      by_cases hz : p < n
      · exact hz
      · exact absurd hk (by unfold kK; rw [if_neg hz]; decide)
    have hn := h.le.2
    show tot (if nI x = 40 then _ else _) _
    by_cases h40 : x = 40
    · rw [if_pos (show nI x = 40 by rw [h40]; rfl), if_pos h40, List.append_nil]
      exact tot.ret h1
    · rw [if_neg (show ¬ nI x = 40 from fun z => h40 ((nk_eq (b := 40) hx (by decide)).mp z)), if_neg h40]
      exact (r_emit h1.1 (by omega) (nI x)).bd (fun r M2 h2 => tot.ret ⟨h2.1, h1.2.tr h2.2⟩)
  · simp only [if_neg hk] at h1 ⊢
    show tot (if nI x = 40 then _ else _) _
    split
    · exact tot.ret h1
    · exact (r_emit2 h1.1 (nI x)).bd (fun r M2 h2 => tot.ret ⟨h2.1, h1.2.tr h2.2⟩)
theorem fb163' {rs : Mem → Nat → Int32 → Option (Int32 × Mem)} {i1 : Int32} {e : Nat × Nat} (h : RF M e) (x : Int32) : tot (f_X6_factor_b163 rs 3 i1 x M) (fun _ M' => RF M' e ∧ HF M M') := by
  unfold f_X6_factor_b163
  rw [show (41 : Int32) = nI 41 from rfl, r_expect2 h 41 (by decide)]
  show tot (if x = 40 then _ else _) _
  split
  · exact tot.ret ⟨h, .rf⟩
  · exact (r_emit2 h x).bd (fun r M2 h2 => tot.ret h2)
/-- behind the word: the bracket, what stands in it -/
def pBk (f : Nat → Int32) (n : Nat) (g : Option (Nat → Pr)) (x q : Nat) : Pr :=
  if kK f n q = 40 then (match g with
      | none => .inl (3, q)
      | some g => pB (g (kN f n q)) fun r X =>
        if x = 315 ∨ x = 316 then (if kK f n r = 44 then pB (g (kN f n r)) fun r2 Y => (if kK f n r2 = 41 then .inr (kN f n r2, X ++ Y ++ [9709 + x]) else .inl (1, r2)) else .inl (1, r))
        else if kK f n r = 41 then .inr (kN f n r, X ++ (if x = 317 then [10026] else [])) else .inl (1, r))
    else .inl (1, q)
theorem fb119 (hb : ∀ k, k < 300 → ∃ q, q < 256 ∧ f k = nI q) {rs : Mem → Nat → Int32 → Option (Int32 × Mem)} {g : Option (Nat → Pr)} {i b : Nat} (hi : i ≤ 6) (h0 : i = 6 → g = none) (hg : i < 6 → ∃ g', g = some g' ∧ SH f n rs g' (i + 1) ∧ ∀ p, p ≤ n → POk n p b false (g' p)) (h : RP f n M p C) (hC : C.length ≤ p) {x : Nat} (hx : x = 315 ∨ x = 316 ∨ x = 317 ∨ x = 40) : tot (f_X6_factor_b119 rs 3 (nI i) (nI x) M) (fun _ M' => RX f n C (pBk f n g x p) M' ∧ HF M M') := by
  unfold f_X6_factor_b119 pBk
  refine (r_enters hb h 40 (by decide) hi).bd (fun r M1 h1 => ?_)
  by_cases hk : kK f n p = 40
  · simp only [if_pos hk] at h1 ⊢
    have hpn := tk_ok f n p h.le.1 (by omega)
    by_cases hi6 : i < 6
    · obtain ⟨g', rfl, hS, hP⟩ := hg hi6
      simp only [if_pos hi6] at h1
      obtain ⟨⟨rfl, h1⟩, hf1⟩ := h1
      show tot (if (1 : Int32) = 0 then _ else _) _
      rw [if_neg (by decide), ← nI_succ]
      have hok := hP (kN f n p) hpn.2
      refine (hS.1 M1 _ C h1 (by omega)).bd (fun r M2 h2 => ?_)
      obtain ⟨h2, hf2⟩ := h2
      dsimp only
      cases hgx : g' (kN f n p) with
      | inl e =>
        rw [hgx] at h2
        have h2' : RF M2 e := h2
        show tot (if nI x = 315 then _ else _) (fun _ M' => RF M' e ∧ HF M M')
        have hb150 : tot (f_X6_factor_b150 rs 3 (nI i) (nI x) M2) (fun _ M' => RF M' e ∧ HF M M') := by
          unfold f_X6_factor_b150
          rw [show (44 : Int32) = nI 44 from rfl, r_expect2 h2' 44 (by decide), ← nI_succ]
          refine (hS.2 M2 e h2').bd (fun r M3 h3 => ?_)
          exact (fb163' h3.1 (nI x)).mono (fun r M4 h4 => ⟨h4.1, ((hf1.tr hf2).tr h3.2).tr h4.2⟩)
        split
        · exact hb150
        · split
          · exact hb150
          · exact (fb163' h2' (nI x)).mono (fun r M4 h4 => ⟨h4.1, (hf1.tr hf2).tr h4.2⟩)
      | inr y =>
        obtain ⟨q, X⟩ := y
        rw [hgx] at h2 hok
        have h2' : RP f n M2 q (C ++ cXs X) := h2
        have hX : Gd n (kN f n p) b false q X := hok
        have hlen : (C ++ cXs X).length ≤ q := by rw [List.length_append]; have := hX.1; omega
        show tot (if nI x = 315 then _ else _) (fun _ M' => RX f n C (if x = 315 ∨ x = 316 then _ else _ : Pr) M' ∧ HF M M')
        have hx2 : x < 402 := by omega
        by_cases h56 : x = 315 ∨ x = 316
        · have hb150 : tot (f_X6_factor_b150 rs 3 (nI i) (nI x) M2) (fun _ M' => RX f n C (if kK f n q = 44 then pB (g' (kN f n q)) fun r2 Y => (if kK f n r2 = 41 then .inr (kN f n r2, X ++ Y ++ [9709 + x]) else .inl (1, r2)) else .inl (1, q)) M' ∧ HF M M') := by
            unfold f_X6_factor_b150
            refine (r_expect hb h2' 44 (by decide)).bd (fun r M3 h3 => ?_)
            obtain ⟨h3, hf3⟩ := h3
            rw [← nI_succ]
            by_cases hk4 : kK f n q = 44
            · simp only [if_pos hk4] at h3 ⊢
              have hqn := tk_ok f n q h2'.le.1 (by omega)
              have hok2 := hP (kN f n q) hqn.2
              refine (hS.1 M3 _ _ h3 (by omega)).bd (fun r M4 h4 => ?_)
              obtain ⟨h4, hf4⟩ := h4
              cases hgy : g' (kN f n q) with
              | inl e =>
                rw [hgy] at h4
                have h4' : RF M4 e := h4
                exact (fb163' h4' (nI x)).mono (fun r M5 h5 => ⟨h5.1, (((hf1.tr hf2).tr hf3).tr hf4).tr h5.2⟩)
              | inr z =>
                obtain ⟨r2, Y⟩ := z
                rw [hgy] at h4 hok2
                have h4' : RP f n M4 r2 (C ++ cXs X ++ cXs Y) := h4
                have hY : Gd n (kN f n q) b false r2 Y := hok2
                refine (fb163 hb h4' (by rw [List.length_append]; have := hY.1; omega) hx2).mono (fun r M5 h5 => ⟨?_, (((hf1.tr hf2).tr hf3).tr hf4).tr h5.2⟩)
                show RX f n C (if kK f n r2 = 41 then _ else _ : Pr) M5
                by_cases hk5 : kK f n r2 = 41
                · rw [if_pos hk5]
                  have h5' := h5.1
                  rw [if_pos hk5, if_neg (by omega)] at h5'
                  show RP f n M5 (kN f n r2) (C ++ cXs (X ++ Y ++ [9709 + x]))
                  have e1 : cX (9709 + x) = [nI x] := by rcases h56 with h56 | h56 <;> rw [h56] <;> rfl
                  rw [cXs_app, cXs_app, cXs_one, e1, ← List.append_assoc, ← List.append_assoc]
                  exact h5'
                · rw [if_neg hk5]
                  have h5' := h5.1
                  rw [if_neg hk5] at h5'
                  exact h5'
            · simp only [if_neg hk4] at h3 ⊢
              refine (hS.2 M3 _ h3).bd (fun r M4 h4 => ?_)
              exact (fb163' h4.1 (nI x)).mono (fun r M5 h5 => ⟨h5.1, (((hf1.tr hf2).tr hf3).tr h4.2).tr h5.2⟩)
          rw [if_pos h56]
          rcases h56 with h5 | h6
          · rw [if_pos (show nI x = 315 by rw [h5]; rfl)]; exact hb150
          · rw [if_neg (show ¬ nI x = 315 by rw [h6]; decide), if_pos (show nI x = 316 by rw [h6]; rfl)]; exact hb150
        · rw [if_neg h56, if_neg (show ¬ nI x = 315 from fun z => h56 (Or.inl ((nk_eq (b := 315) hx2 (by decide)).mp z))), if_neg (show ¬ nI x = 316 from fun z => h56 (Or.inr ((nk_eq (b := 316) hx2 (by decide)).mp z)))]
          refine (fb163 hb h2' hlen hx2).mono (fun r M5 h5 => ⟨?_, (hf1.tr hf2).tr h5.2⟩)
          by_cases hk5 : kK f n q = 41
          · rw [if_pos hk5]
            have h5' := h5.1
            rw [if_pos hk5] at h5'
            show RP f n M5 (kN f n q) (C ++ cXs (X ++ (if x = 317 then [10026] else [])))
            have e1 : cXs (if x = 317 then [10026] else []) = (if x = 40 then [] else [nI x]) := by
              rcases hx with hx | hx | hx | hx
              · omega
              · omega
              · rw [hx]; rfl
              · rw [hx]; rfl
            rw [cXs_app, e1, ← List.append_assoc]
            exact h5'
          · rw [if_neg hk5]
            have h5' := h5.1
            rw [if_neg hk5] at h5'
            exact h5'
    · have : i = 6 := by omega
      rw [h0 this]
      simp only [if_neg hi6] at h1
      obtain ⟨⟨rfl, h1⟩, hf1⟩ := h1
      exact tot.ret ⟨h1, hf1⟩
  · simp only [if_neg hk] at h1 ⊢
    obtain ⟨⟨rfl, h1⟩, hf1⟩ := h1
    exact tot.ret ⟨h1, hf1⟩
end FACTOR
