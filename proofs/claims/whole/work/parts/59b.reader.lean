/-! The class's reader: a step, what it asks for, a factor. -/
/-- the reader behind x, C told before -/
def RX (f : Nat → Int32) (n : Nat) (C : List Int32) (x : Pr) (M : Mem) : Prop := match x with
  | .inl e => RF M e
  | .inr (q, X) => RP f n M q (C ++ cXs X)
def row_in {M : Mem} {j : Nat} (b : Nat) (hb : gN b = 301) (hj : j < 301) : ¬ (nI j < 0) ∧ ¬ (nI (gN b) ≤ nI j) ∧ ¬ (nI j < 0 ∨ gN b ≤ (nI j).toNatClampNeg) := by
  rw [hb]
  exact ⟨i_lt0 (by omega), i_nle hj (by decide), i_in hj (by decide)⟩
section READER
variable {f : Nat → Int32} {n : Nat} {M : Mem} {p : Nat} {C : List Int32}
theorem r_step (h : RP f n M p C) (hk : kK f n p ≠ 401) : tot (f_X6_step M 3) (fun _ M' => RP f n M' (kN f n p) C ∧ HF M M') := by
  obtain ⟨J, j, h1, h2, h3, h4, h5, h6⟩ := h
  have hj : j < J := by
    by_cases hz : j = J
    · rw [hz, h1.1.1] at h3
      exact absurd (by rw [← h3]; unfold kK; rw [if_neg (by omega)]) hk
    · omega
  have hj1 : j + 1 < 301 := by have := h1.1.2.1; omega
  have t := h1.2 (j + 1) (by omega)
  have ep : stt f n (j + 1) = kN f n p := by show kN f n (stt f n j) = _; rw [h3]
  rw [ep] at t
  obtain ⟨t7, t8, t9⟩ := t
  have e0 : mU M 3 5 (M 3 5 + 1) = mU M 3 5 (nI (j + 1)) := by rw [h4.1, nI_succ]
  have g : ∀ M1 : Mem, M1 3 5 = nI (j + 1) → M1 7 = M 7 → M1 8 = M 8 → M1 9 = M 9 → f_X6_step M1 3 = f_X6_step M1 3 := fun _ _ _ _ _ => rfl
  unfold f_X6_step
  rw [e0]
  have v0 : mU M 3 5 (nI (j + 1)) 3 5 = nI (j + 1) := by rw [mU_at, if_pos ⟨rfl, rfl⟩]
  obtain ⟨a1, a2, a3⟩ := row_in (M := M) (j := j + 1) 7 r_n7 hj1
  rw [v0, r_34, r_60, if_neg a1, if_neg a2, if_pos a3, i_cl (by omega)]
  have w7 : mU M 3 5 (nI (j + 1)) 7 (j + 1) = nI (kK f n (kN f n p)) := by rw [u_ne (by decide)]; exact t7
  rw [w7]
  unfold f_X6_step_b51
  have v1 : mU (mU M 3 5 (nI (j + 1))) 3 6 (nI (kK f n (kN f n p))) 3 5 = nI (j + 1) := by rw [mU_at, if_neg (by omega)]; exact v0
  obtain ⟨b1, b2, b3⟩ := row_in (M := M) (j := j + 1) 8 r_n8 hj1
  rw [v1, r_34, r_61, if_neg b1, if_neg b2, if_pos b3, i_cl (by omega)]
  have w8 : mU (mU M 3 5 (nI (j + 1))) 3 6 (nI (kK f n (kN f n p))) 8 (j + 1) = nI (kN f n p) := by rw [u_ne (by decide), u_ne (by decide)]; exact t8
  rw [w8]
  unfold f_X6_step_b93
  have v2 : mU (mU (mU M 3 5 (nI (j + 1))) 3 6 (nI (kK f n (kN f n p)))) 3 7 (nI (kN f n p)) 3 5 = nI (j + 1) := by rw [mU_at, if_neg (by omega)]; exact v1
  obtain ⟨c1, c2, c3⟩ := row_in (M := M) (j := j + 1) 9 r_n9 hj1
  rw [v2, r_34, r_62, if_neg c1, if_neg c2, if_pos c3, i_cl (by omega)]
  have w9 : mU (mU (mU M 3 5 (nI (j + 1))) 3 6 (nI (kK f n (kN f n p)))) 3 7 (nI (kN f n p)) 9 (j + 1) = nI (kV f n (kN f n p)) := by rw [u_ne (by decide), u_ne (by decide), u_ne (by decide)]; exact t9
  rw [w9]
  have eo : ∀ b, b ≠ 3 → mU (mU (mU (mU M 3 5 (nI (j + 1))) 3 6 (nI (kK f n (kN f n p)))) 3 7 (nI (kN f n p))) 3 8 (nI (kV f n (kN f n p))) b = M b := fun b hb => by rw [u_ne hb, u_ne hb, u_ne hb, u_ne hb]
  have e3 : ∀ k, k < 5 → mU (mU (mU (mU M 3 5 (nI (j + 1))) 3 6 (nI (kK f n (kN f n p)))) 3 7 (nI (kN f n p))) 3 8 (nI (kV f n (kN f n p))) 3 k = M 3 k := fun k hk => by
    rw [mU_at, if_neg (by omega), mU_at, if_neg (by omega), mU_at, if_neg (by omega), mU_at, if_neg (by omega)]
  refine tot.ret ⟨⟨J, j + 1, ⟨h1.1, fun i hi => ?_⟩, by omega, ep, ⟨?_, ?_, ?_, ?_⟩, ?_, ?_, h6.2.1, fun k v hk => ?_⟩, fun b hb _ => eo b hb⟩
  · rw [eo 7 (by decide), eo 8 (by decide), eo 9 (by decide)]; exact h1.2 i hi
  · rw [mU_at, if_neg (by omega), mU_at, if_neg (by omega), mU_at, if_neg (by omega), mU_at, if_pos ⟨rfl, rfl⟩]
  · rw [mU_at, if_neg (by omega), mU_at, if_neg (by omega), mU_at, if_pos ⟨rfl, rfl⟩]
  · rw [mU_at, if_neg (by omega), mU_at, if_pos ⟨rfl, rfl⟩]
  · rw [mU_at, if_pos ⟨rfl, rfl⟩]
  · rw [e3 2 (by decide)]; exact h5
  · rw [e3 1 (by decide)]; exact h6.1
  · rw [eo 5 (by decide)]; exact h6.2.2 k v hk
theorem kK_lt (hb : ∀ k, k < 300 → ∃ q, q < 256 ∧ f k = nI q) (hn : n ≤ 300) (p : Nat) : kK f n p < 402 := by
  unfold kK
  by_cases h : p < n
  · rw [if_pos h]
    split
    · decide
    · split
      · have := wds_18 (ltr f p (kE f n p)); omega
      · obtain ⟨q, hq, e⟩ := hb p (by omega)
        rw [e, i_cl (by omega)]; omega
  · rw [if_neg h]; decide
theorem RP.is (hb : ∀ k, k < 300 → ∃ q, q < 256 ∧ f k = nI q) (h : RP f n M p C) (c : Nat) (hc : c < 402) : (M 3 6 = nI c) = (kK f n p = c) := by
  rw [h.tk]
  exact propext (i_eq (by have := kK_lt hb h.le.2 p; omega) (by omega))
theorem r_expect (hb : ∀ k, k < 300 → ∃ q, q < 256 ∧ f k = nI q) (h : RP f n M p C) (c : Nat) (hc : c < 401) : tot (f_X6_expect M 3 (nI c)) (fun _ M' => (if kK f n p = c then RP f n M' (kN f n p) C else RF M' (1, p)) ∧ HF M M') := by
  unfold f_X6_expect
  by_cases hk : kK f n p = c
  · rw [if_pos ((h.is hb c (by omega)).mpr hk)]
    simp only [if_pos hk]
    exact (r_step h (by omega)).bd (fun r M1 h1 => tot.ret h1)
  · rw [if_neg (fun z => hk ((h.is hb c (by omega)).mp z))]
    simp only [if_neg hk]
    exact (r_fail h (c := 1) (by decide) (by decide)).bd (fun r M1 h1 => tot.ret h1)
theorem RF.nk {e : Nat × Nat} (h : RF M e) (c : Nat) (hc : c < 402) : ¬ M 3 6 = nI c := by
  rw [h.2.2]
  exact fun z => absurd ((i_eq (a := 402) (b := c) (by decide) (by omega)).mp z) (by omega)
theorem r_expect2 {e : Nat × Nat} (h : RF M e) (c : Nat) (hc : c < 402) : f_X6_expect M 3 (nI c) = some (0, M) := by
  unfold f_X6_expect
  rw [if_neg (h.nk c hc), r_fail2 h]; rfl
theorem r_enters2 {e : Nat × Nat} (h : RF M e) (c : Nat) (hc : c < 402) (i : Int32) : f_X6_enters M 3 (nI c) i = some (0, M) := by
  unfold f_X6_enters
  rw [if_neg (h.nk c hc), r_fail2 h]; rfl
theorem r_enters (hb : ∀ k, k < 300 → ∃ q, q < 256 ∧ f k = nI q) (h : RP f n M p C) (c : Nat) (hc : c < 401) {i : Nat} (hi : i ≤ 6) : tot (f_X6_enters M 3 (nI c) (nI i)) (fun r M' => (if kK f n p = c then (if i < 6 then r = 1 ∧ RP f n M' (kN f n p) C else r = 0 ∧ RF M' (3, p)) else r = 0 ∧ RF M' (1, p)) ∧ HF M M') := by
  unfold f_X6_enters
  by_cases hk : kK f n p = c
  · rw [if_pos ((h.is hb c (by omega)).mpr hk)]
    simp only [if_pos hk]
    by_cases h6 : i < 6
    · rw [if_pos (show nI i < 6 from nI_lt (b := 6) h6 (by omega))]
      simp only [if_pos h6]
      exact (r_step h (by omega)).bd (fun r M1 h1 => tot.ret ⟨⟨rfl, h1.1⟩, h1.2⟩)
    · rw [if_neg (show ¬ nI i < 6 from nI_nlt (b := 6) (by omega) (by omega))]
      simp only [if_neg h6]
      exact (r_fail h (c := 3) (by decide) (by decide)).bd (fun r M1 h1 => tot.ret ⟨⟨rfl, h1.1⟩, h1.2⟩)
  · rw [if_neg (fun z => hk ((h.is hb c (by omega)).mp z))]
    simp only [if_neg hk]
    exact (r_fail h (c := 1) (by decide) (by decide)).bd (fun r M1 h1 => tot.ret ⟨⟨rfl, h1.1⟩, h1.2⟩)
end READER
