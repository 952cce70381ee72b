/-! The class's tokens: the row of words. -/
def layB : Nat → List (List Nat) → Bool
  | o, [] => o == 88
  | o, W :: Ws => (List.range W.length).all (fun j => decide (wCh (nI (o + j)) = nI (W.getD j 0 + 96)) && decide (1 ≤ W.getD j 0) && decide (W.getD j 0 ≤ 26)) && decide (wCh (nI (o + W.length)) = 32) && layB (o + W.length + 1) Ws
theorem lay_wds : layB 0 wds = true := by decide +kernel
theorem lay_le {o : Nat} {Ws : List (List Nat)} (h : layB o Ws = true) : o ≤ 88 := by
  induction Ws generalizing o with
  | nil =>
    have : o = 88 := by simpa [layB] using h
    omega
  | cons W Ws ih =>
    unfold layB at h
    simp only [Bool.and_eq_true] at h
    have := ih h.2
    omega
section WORDS
variable {f : Nat → Int32} {M : Mem} {s e : Nat}
theorem wd_all (hT : ∀ k, k < 300 → M 2 k = f k) (he : e ≤ 300) (hs : s ≤ 300) (Ws : List (List Nat)) {N' o w : Nat} (h : layB o Ws = true) (hw : w + Ws.length = 18) (hN : 88 < N' + o) : f_X9_wordAt_h13 1 (nI s) (nI e) N' (nI (300 + w)) (nI s) 1 (nI o) M = some (nI (300 + w + Ws.findIdx (fun W => wfits f e s W && decide (s + W.length = e))), M) := by
  induction Ws generalizing N' o w with
  | nil =>
    have ho : o = 88 := by simpa [layB] using h
    obtain ⟨N', rfl⟩ : ∃ k, N' = k + 1 := ⟨N' - 1, by omega⟩
    have hw' : w = 18 := by simpa using hw
    rw [f_X9_wordAt_h13, ho, hw', if_pos (by decide)]
    rfl
  | cons W Ws ih =>
    unfold layB at h
    simp only [Bool.and_eq_true, decide_eq_true_eq, List.all_eq_true, List.mem_range] at h
    obtain ⟨⟨h1, h2⟩, h3⟩ := h
    have hle := lay_le h3
    have hL : ∀ j c, W[j]? = some c → wCh (nI (o + j)) = nI (c + 96) ∧ 1 ≤ c ∧ c ≤ 26 := fun j c hj => by
      have hlt := (List.getElem?_eq_some_iff.mp hj).1
      have hg : W.getD j 0 = c := by rw [List.getD_eq_getElem?_getD, hj]; rfl
      have := h1 j hlt
      rw [hg] at this
      exact ⟨this.1.1, this.1.2, this.2⟩
    obtain ⟨N2, rfl⟩ : ∃ k, N' = k + 1 + W.length := ⟨N' - 1 - W.length, by omega⟩
    have st := wd_in (s := s) (e := e) hT he (nI (300 + w)) W (N' := N2 + 1) (o := o) (k := 0) true hL (by omega) (by omega)
    simp only [Nat.add_zero] at st
    rw [show (1 : Int32) = b2 true from rfl, st, Bool.true_and]
    rw [f_X9_wordAt_h13, if_neg (show ¬ 88 ≤ nI (o + W.length) from i_nle (b := 88) (by omega) (by decide)), if_pos (i_in (by omega) (by decide)), h2, if_pos rfl]
    have nxt : f_X9_wordAt_b87 1 (nI s) (nI e) (f_X9_wordAt_h13 1 (nI s) (nI e) N2) (nI (300 + w)) (nI (o + W.length)) M = some (nI (300 + (w + 1) + Ws.findIdx (fun W => wfits f e s W && decide (s + W.length = e))), M) := by
      unfold f_X9_wordAt_b87 f_X9_wordAt_b96
      rw [← nI_succ, ← nI_succ]
      exact ih (o := o + W.length + 1) (w := w + 1) h3 (by rw [List.length_cons] at hw; omega) (by omega)
    rw [List.findIdx_cons]
    cases hf : wfits f e s W with
    | false =>
      rw [Bool.false_and]
      show f_X9_wordAt_b87 1 (nI s) (nI e) (f_X9_wordAt_h13 1 (nI s) (nI e) N2) (nI (300 + w)) (nI (o + W.length)) M = _
      rw [nxt]
      congr 3
      show _ = 300 + w + (_ + 1)
      omega
    | true =>
      rw [if_neg (show ¬ b2 true = 0 by decide)]
      by_cases hz : s + W.length = e
      · rw [if_pos (by rw [hz]), decide_eq_true hz]
        rfl
      · rw [if_neg (fun z => hz ((i_eq (by omega) (by omega)).mp z)), decide_eq_false hz, nxt]
        congr 3
        show _ = 300 + w + (_ + 1)
        omega
end WORDS
