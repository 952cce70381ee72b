/-! The class's condition: its outer row. -/
section CONDO
variable {f : Nat → Int32} {n : Nat}
theorem cout_p (hb : ∀ k, k < 300 → ∃ q, q < 256 ∧ f k = nI q) {rf : Mem → Nat → Int32 → Option (Int32 × Mem)} {i b : Nat} {g : Nat → Pr} (hS : SH f n rf g i) (hg : ∀ p, p ≤ n → POk n p b true (g p)) {C : List Int32} (m : Nat) {N' x3 : Nat} {x2 : Int32} {M : Mem} {p : Nat} {X W : List Nat} (hm : n ≤ m + p) (hN : m < N') (hx : 2 * x3 ≤ p) (h : RP f n M p (C ++ cXs X)) (hC : (C ++ cXs X).length + (pno x2).length ≤ p) (hW : cXs W = pno x2) :
    tot (f_X6_condition_h4 rf 3 (nI i) N' x2 (nI x3) M) (fun _ M' => RX f n C (pB (pAnd (kK f n) (kN f n) g p) fun q Y => pLp (kK f n) (kN f n) (pAnd (kK f n) (kN f n) g) 312 312 10035 10035 m q (X ++ Y ++ W)) M' ∧ HF M M') := by
  induction m generalizing N' x3 x2 M p X W with
  | zero =>
    -- at the end of the text: the factor is at fault or nothing follows
    obtain ⟨N', rfl⟩ : ∃ k, N' = k + 1 := ⟨N' - 1, by omega⟩
    have hle := h.le
    have hpe : p = n := by omega
    unfold f_X6_condition_h4
    rw [if_neg (show ¬ 300 ≤ nI x3 from i_nle (b := 300) (by omega) (by decide))]
    have hok := hg p hle.1
    refine (hS.1 M _ _ h (by omega)).bd (fun r M1 h1 => ?_)
    obtain ⟨h1, hf1⟩ := h1
    unfold pAnd
    dsimp only
    cases hgx : g p with
    | inl e =>
      rw [hgx] at h1
      have h1' : RF M1 e := h1
      rw [show FU = FU - 1 + 1 from by decide, cin_f h1']
      exact (b59_f h1').mono (fun r M2 h2 => ⟨h2.1, hf1.tr h2.2⟩)
    | inr y =>
      rw [hgx] at hok
      have hY : Gd n p b true y.1 y.2 := hok
      have := hY.1
      omega
  | succ m ih =>
    obtain ⟨N', rfl⟩ : ∃ k, N' = k + 1 := ⟨N' - 1, by omega⟩
    have hle := h.le
    unfold f_X6_condition_h4
    rw [if_neg (show ¬ 300 ≤ nI x3 from i_nle (b := 300) (by omega) (by decide))]
    have hok := hg p hle.1
    refine (hS.1 M _ _ h (by omega)).bd (fun r M1 h1 => ?_)
    obtain ⟨h1, hf1⟩ := h1
    unfold pAnd
    dsimp only
    cases hgx : g p with
    | inl e =>
      rw [hgx] at h1
      have h1' : RF M1 e := h1
      rw [show FU = FU - 1 + 1 from by decide, cin_f h1']
      exact (b59_f h1').mono (fun r M2 h2 => ⟨h2.1, hf1.tr h2.2⟩)
    | inr y =>
      obtain ⟨q0, Y0⟩ := y
      rw [hgx] at h1 hok
      have h1' : RP f n M1 q0 (C ++ cXs X ++ cXs Y0) := h1
      have hY0 : Gd n p b true q0 Y0 := hok
      have hy := hY0.1
      have hlp := lp_ok (tk_ok f n) hg (sa := 313) (sb := 313) (ca := 10034) (cb := 10034) (by decide) ⟨by decide, rfl, fun ts => rfl⟩ ⟨by decide, rfl, fun ts => rfl⟩ 301 (hY0.mono (Nat.le_succ b))
      show tot (f_X6_condition_h19 rf 3 (nI i) (f_X6_condition_h4 rf 3 (nI i) N') FU x2 (nI x3) (nI 0) M1) (fun _ M' => RX f n C (pB (pLp (kK f n) (kN f n) g 313 313 10034 10034 301 q0 Y0) fun q Y => pLp (kK f n) (kN f n) (fun p => pB (g p) (pLp (kK f n) (kN f n) g 313 313 10034 10034 301)) 312 312 10035 10035 (m + 1) q (X ++ Y ++ W)) M' ∧ HF M M')
      refine cin_p hb hS hg (C := C ++ cXs X) (X := Y0) (x4 := 0) 301 (by omega) (by decide) (by omega) h1' (by rw [List.length_append]; omega) (fun M2 q Y h5 h6 hf6 => ?_) (fun M2 e h5 h6 hf6 => ?_)
      · rw [h5] at hlp ⊢
        have hY : Gd n p (b + 1) true q Y := hlp
        have hyy := hY.1
        have hlen : (C ++ cXs X ++ cXs Y).length + (pno x2).length ≤ q := by rw [List.length_append]; omega
        show tot _ (fun _ M' => RX f n C (pLp (kK f n) (kN f n) (fun p => pB (g p) (pLp (kK f n) (kN f n) g 313 313 10034 10034 301)) 312 312 10035 10035 (m + 1) q (X ++ Y ++ W)) M' ∧ HF M M')
        have e1 : C ++ cXs (X ++ Y ++ W) = C ++ cXs X ++ cXs Y ++ pno x2 := by
          rw [cXs_app, cXs_app, hW, ← List.append_assoc, ← List.append_assoc]
        unfold pLp
        refine b59_p hb h6 (fun hx2 => ?_) (fun hk M3 h7 hf7 => ?_) (fun hk M3 h7 hf7 => ?_)
        · have : (pno x2).length = 1 := by unfold pno; rw [if_neg hx2]; rfl
          omega
        · rw [if_pos (Or.inl hk)]
          have hqn := tk_ok f n q h6.le.1 (by omega)
          rw [← nI_succ]
          have e2 : (pno 1).length = 1 ∧ cXs [if kK f n q = 312 then 10035 else 10035] = pno 1 := by
            rw [hk]; exact ⟨rfl, rfl⟩
          rw [← e1] at h7
          refine (ih (X := X ++ Y ++ W) (W := [if kK f n q = 312 then 10035 else 10035]) (by omega) (by omega) (by omega) h7 ?_ e2.2).mono (fun r M4 h8 => ⟨h8.1, ((hf1.tr hf6).tr hf7).tr h8.2⟩)
          rw [e1, e2.1, List.length_append]; omega
        · rw [if_neg (fun z => hk (z.elim id id))]
          refine ⟨?_, (hf1.tr hf6).tr hf7⟩
          show RP f n M3 q (C ++ cXs (X ++ Y ++ W))
          rw [e1]; exact h7
      · rw [h5]
        exact (b59_f h6).mono (fun r M3 h7 => ⟨h7.1, (hf1.tr hf6).tr h7.2⟩)
theorem cnd_p (hb : ∀ k, k < 300 → ∃ q, q < 256 ∧ f k = nI q) {rf : Mem → Nat → Int32 → Option (Int32 × Mem)} {i b : Nat} {g : Nat → Pr} (hS : SH f n rf g i) (hg : ∀ p, p ≤ n → POk n p b true (g p)) : SH f n (f_X6_condition rf) (pCnd (kK f n) (kN f n) g) i := by
  refine ⟨fun M p C h hC => ?_, fun M e h => ?_⟩
  · unfold f_X6_condition
    have h' : RP f n M p (C ++ cXs []) := by rw [show cXs [] = [] from rfl, List.append_nil]; exact h
    refine (cout_p hb hS hg (C := C) 301 (x3 := 0) (x2 := 0) (X := []) (W := []) (N' := FU) (by have := h.le; omega) (by decide) (by omega) h' ?_ rfl).mono (fun r M' h1 => ?_)
    · rw [show cXs [] = [] from rfl, List.append_nil]; exact hC
    · simp only [List.nil_append, List.append_nil] at h1
      exact h1
  · unfold f_X6_condition
    rw [show FU = FU - 1 + 1 from by decide]
    unfold f_X6_condition_h4
    rw [if_neg (by decide)]
    refine (hS.2 M e h).bd (fun r M1 h1 => ?_)
    show tot (f_X6_condition_h19 rf 3 (nI i) (f_X6_condition_h4 rf 3 (nI i) (FU - 1)) FU 0 0 0 M1) _
    rw [show FU = FU - 1 + 1 from by decide, cin_f h1.1]
    exact (b59_f h1.1).mono (fun r M2 h2 => ⟨h2.1, h1.2.tr h2.2⟩)
end CONDO
