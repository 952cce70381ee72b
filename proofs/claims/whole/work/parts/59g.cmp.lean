/-! The class's sum by depth, its comparison. -/
section CMP
variable {f : Nat → Int32} {n : Nat}
theorem sum_c (hb : ∀ k, k < 300 → ∃ q, q < 256 ∧ f k = nI q) (k : Nat) {d : Nat} (hk : k ≤ 6) (hd : k < d) : SH f n (S_X6_sum d) (pSum (kK f n) (kV f n) (kN f n) k) (6 - k) := by
  induction k generalizing d with
  | zero =>
    obtain ⟨d, rfl⟩ : ∃ e, d = e + 1 := ⟨d - 1, by omega⟩
    exact sm_p (b := 1) hb (fac_p (g := none) (b := 0) hb (by decide) (fun _ => rfl) (fun z => absurd z (by decide))) (fun p hp => fac_ok (b := 0) (tk_ok f n) (fun g' h => by cases h) hp)
  | succ k ih =>
    obtain ⟨d, rfl⟩ : ∃ e, d = e + 1 := ⟨d - 1, by omega⟩
    have hs := ih (d := d) (by omega) (by omega)
    refine sm_p (b := 3 * k + 3 + 1) hb (fac_p (g := some (pSum (kK f n) (kV f n) (kN f n) k)) (b := 3 * k + 3) hb (by omega) (fun z => by omega) (fun _ => ⟨_, rfl, ?_, fun p hp => sum_ok (tk_ok f n) k hp⟩)) (fun p hp => fac_ok (b := 3 * k + 3) (tk_ok f n) (fun g' h => by cases h; exact fun p hp => sum_ok (tk_ok f n) k hp) hp)
    rw [show 6 - (k + 1) + 1 = 6 - k by omega]
    exact hs
theorem cmp_f {rcd rcm : Mem → Nat → Int32 → Option (Int32 × Mem)} {i : Nat} {sm : Nat → Pr} (hs : SH f n (S_X6_sum DP) sm i) {M : Mem} {e : Nat × Nat} (h : RF M e) : tot (f_X6_comparison rcd rcm M 3 (nI i)) (fun _ M' => RF M' e ∧ HF M M') := by
  unfold f_X6_comparison
  rw [if_neg (show ¬ M 3 6 = 314 from h.nk 314 (by decide)), if_neg (show ¬ M 3 6 = 91 from h.nk 91 (by decide))]
  refine (hs.2 M e h).bd (fun r M1 h1 => ?_)
  dsimp only
  rw [if_neg (show ¬ M1 3 6 = 60 from h1.1.nk 60 (by decide)), if_neg (show ¬ M1 3 6 = 62 from h1.1.nk 62 (by decide)), if_neg (show ¬ M1 3 6 = 61 from h1.1.nk 61 (by decide)), r_fail2 h1.1]
  exact tot.ret h1
theorem cmp_p (hb : ∀ k, k < 300 → ∃ q, q < 256 ∧ f k = nI q) {rcd rcm : Mem → Nat → Int32 → Option (Int32 × Mem)} {g : Option ((Nat → Pr) × (Nat → Pr))} {sm : Nat → Pr} {i b : Nat} (hi : i ≤ 6) (h0 : i = 6 → g = none) (hg : i < 6 → ∃ g', g = some g' ∧ (SH f n rcd g'.1 (i + 1) ∧ SH f n rcm g'.2 (i + 1)) ∧ ∀ p, p ≤ n → POk n p b true (g'.1 p) ∧ POk n p b true (g'.2 p)) (hs : SH f n (S_X6_sum DP) sm i) (hso : ∀ p, p ≤ n → POk n p b false (sm p)) : SH f n (f_X6_comparison rcd rcm) (pCmp (kK f n) (kN f n) g sm) i := by
  refine ⟨fun M p C h hC => ?_, fun M e h => cmp_f hs h⟩
  have hle := h.le
  unfold f_X6_comparison pCmp
  by_cases h1 : kK f n p = 314
  · rw [if_pos (show M 3 6 = 314 from (h.is hb 314 (by decide)).mpr h1), if_pos h1]
    have hpn := tk_ok f n p hle.1 (by omega)
    refine (r_enters hb h 314 (by decide) hi).bd (fun r M1 h2 => ?_)
    simp only [if_pos h1] at h2
    by_cases hi6 : i < 6
    · obtain ⟨g', rfl, ⟨_, hS⟩, hP⟩ := hg hi6
      simp only [if_pos hi6] at h2
      obtain ⟨⟨rfl, h2⟩, hf1⟩ := h2
      show tot (if (1 : Int32) = 0 then _ else _) _
      rw [if_neg (by decide), ← nI_succ]
      have hok := (hP (kN f n p) hpn.2).2
      refine (hS.1 M1 _ C h2 (by omega)).bd (fun r M2 h3 => ?_)
      obtain ⟨h3, hf2⟩ := h3
      dsimp only
      cases hgx : g'.2 (kN f n p) with
      | inl e =>
        rw [hgx] at h3
        have h3' : RF M2 e := h3
        exact (r_emit2 h3' 314).bd (fun r M3 h4 => tot.ret ⟨h4.1, (hf1.tr hf2).tr h4.2⟩)
      | inr y =>
        obtain ⟨q, X⟩ := y
        rw [hgx] at h3 hok
        have h3' : RP f n M2 q (C ++ cXs X) := h3
        have hX : Gd n (kN f n p) b true q X := hok
        have hx := hX.1
        refine (r_emit h3' (by rw [List.length_append]; omega) 314).bd (fun r M3 h4 => tot.ret ⟨?_, (hf1.tr hf2).tr h4.2⟩)
        show RP f n M3 q (C ++ cXs (X ++ [10033]))
        rw [cXs_app, cXs_one, show cX 10033 = [314] from rfl, ← List.append_assoc]
        exact h4.1
    · rw [h0 (by omega)]
      simp only [if_neg hi6] at h2
      obtain ⟨⟨rfl, h2⟩, hf1⟩ := h2
      exact tot.ret ⟨h2, hf1⟩
  · rw [if_neg (show ¬ M 3 6 = 314 from fun z => h1 ((h.is hb 314 (by decide)).mp z)), if_neg h1]
    by_cases h91 : kK f n p = 91
    · rw [if_pos (show M 3 6 = 91 from (h.is hb 91 (by decide)).mpr h91), if_pos h91]
      have hpn := tk_ok f n p hle.1 (by omega)
      refine (r_enters hb h 91 (by decide) hi).bd (fun r M1 h2 => ?_)
      simp only [if_pos h91] at h2
      by_cases hi6 : i < 6
      · obtain ⟨g', rfl, ⟨hS, _⟩, hP⟩ := hg hi6
        simp only [if_pos hi6] at h2
        obtain ⟨⟨rfl, h2⟩, hf1⟩ := h2
        show tot (if (1 : Int32) = 0 then _ else _) _
        rw [if_neg (by decide), ← nI_succ]
        refine (hS.1 M1 _ C h2 (by omega)).bd (fun r M2 h3 => ?_)
        obtain ⟨h3, hf2⟩ := h3
        dsimp only
        cases hgx : g'.1 (kN f n p) with
        | inl e =>
          rw [hgx] at h3
          have h3' : RF M2 e := h3
          rw [show (93 : Int32) = nI 93 from rfl, r_expect2 h3' 93 (by decide)]
          exact tot.ret ⟨h3', hf1.tr hf2⟩
        | inr y =>
          obtain ⟨q, X⟩ := y
          rw [hgx] at h3
          have h3' : RP f n M2 q (C ++ cXs X) := h3
          refine (r_expect hb h3' 93 (by decide)).bd (fun r M3 h4 => tot.ret ⟨?_, (hf1.tr hf2).tr h4.2⟩)
          show RX f n C (if kK f n q = 93 then _ else _ : Pr) M3
          have h4' := h4.1
          by_cases h5 : kK f n q = 93
          · rw [if_pos h5] at h4' ⊢; exact h4'
          · rw [if_neg h5] at h4' ⊢; exact h4'
      · rw [h0 (by omega)]
        simp only [if_neg hi6] at h2
        obtain ⟨⟨rfl, h2⟩, hf1⟩ := h2
        exact tot.ret ⟨h2, hf1⟩
    · rw [if_neg (show ¬ M 3 6 = 91 from fun z => h91 ((h.is hb 91 (by decide)).mp z)), if_neg h91]
      have hok := hso p hle.1
      refine (hs.1 M p C h hC).bd (fun r M1 h2 => ?_)
      obtain ⟨h2, hf1⟩ := h2
      dsimp only
      cases hgx : sm p with
      | inl e =>
        rw [hgx] at h2
        have h2' : RF M1 e := h2
        rw [if_neg (show ¬ M1 3 6 = 60 from h2'.nk 60 (by decide)), if_neg (show ¬ M1 3 6 = 62 from h2'.nk 62 (by decide)), if_neg (show ¬ M1 3 6 = 61 from h2'.nk 61 (by decide)), r_fail2 h2']
        exact tot.ret ⟨h2', hf1⟩
      | inr y =>
        obtain ⟨q, X⟩ := y
        rw [hgx] at h2 hok
        have h2' : RP f n M1 q (C ++ cXs X) := h2
        have hX : Gd n p b false q X := hok
        have hx := hX.1
        show tot _ (fun _ M' => RX f n C (if kK f n q = 60 ∨ kK f n q = 62 ∨ kK f n q = 61 then pB (sm (kN f n q)) fun r Y => .inr (r, X ++ Y ++ [if kK f n q = 60 then 10030 else if kK f n q = 62 then 10031 else 10032]) else .inl (1, q)) M' ∧ HF M M')
        by_cases h3 : kK f n q = 60 ∨ kK f n q = 62 ∨ kK f n q = 61
        · rw [if_pos h3]
          have eb : ∀ T : Option (Int32 × Mem), (if M1 3 6 = 60 then f_X6_comparison_b101 rcd rcm 3 (nI i) (M1 3 6) M1 else if M1 3 6 = 62 then f_X6_comparison_b101 rcd rcm 3 (nI i) (M1 3 6) M1 else if M1 3 6 = 61 then f_X6_comparison_b101 rcd rcm 3 (nI i) (M1 3 6) M1 else T) = f_X6_comparison_b101 rcd rcm 3 (nI i) (M1 3 6) M1 := fun T => by
            rw [h2'.tk]
            rcases h3 with h3 | h3 | h3 <;> rw [h3] <;> rfl
          rw [eb]
          unfold f_X6_comparison_b101
          have hqn := tk_ok f n q h2'.le.1 (by omega)
          have hok2 := hso (kN f n q) hqn.2
          refine (r_step h2' (by omega)).bd (fun r M2 h4 => ?_)
          obtain ⟨h4, hf2⟩ := h4
          refine (hs.1 M2 _ _ h4 (by rw [List.length_append]; omega)).bd (fun r M3 h5 => ?_)
          obtain ⟨h5, hf3⟩ := h5
          dsimp only
          cases hgy : sm (kN f n q) with
          | inl e =>
            rw [hgy] at h5
            have h5' : RF M3 e := h5
            exact (r_emit2 h5' _).bd (fun r M4 h6 => tot.ret ⟨h6.1, ((hf1.tr hf2).tr hf3).tr h6.2⟩)
          | inr z =>
            obtain ⟨r2, Y⟩ := z
            rw [hgy] at h5 hok2
            have h5' : RP f n M3 r2 (C ++ cXs X ++ cXs Y) := h5
            have hY : Gd n (kN f n q) b false r2 Y := hok2
            have hy := hY.1
            refine (r_emit h5' (by rw [List.length_append, List.length_append]; omega) (M1 3 6)).bd (fun r M4 h6 => tot.ret ⟨?_, ((hf1.tr hf2).tr hf3).tr h6.2⟩)
            show RP f n M4 r2 (C ++ cXs (X ++ Y ++ [if kK f n q = 60 then 10030 else if kK f n q = 62 then 10031 else 10032]))
            have e1 : cX (if kK f n q = 60 then 10030 else if kK f n q = 62 then 10031 else 10032) = [M1 3 6] := by
              rw [h2'.tk]
              rcases h3 with h3 | h3 | h3 <;> rw [h3] <;> rfl
            rw [cXs_app, cXs_app, cXs_one, e1, ← List.append_assoc, ← List.append_assoc]
            exact h6.1
        · rw [if_neg h3]
          rw [if_neg (show ¬ M1 3 6 = 60 from fun z => h3 (Or.inl ((h2'.is hb 60 (by decide)).mp z))), if_neg (show ¬ M1 3 6 = 62 from fun z => h3 (Or.inr (Or.inl ((h2'.is hb 62 (by decide)).mp z)))), if_neg (show ¬ M1 3 6 = 61 from fun z => h3 (Or.inr (Or.inr ((h2'.is hb 61 (by decide)).mp z))))]
          exact (r_fail h2' (c := 1) (by decide) (by decide)).bd (fun r M2 h4 => tot.ret ⟨h4.1, hf1.tr h4.2⟩)
end CMP
