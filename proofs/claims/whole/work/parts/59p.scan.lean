/-! The class's tokens: where a word ends. -/
section SCANW
variable {f : Nat → Int32} {n : Nat} {M : Mem}
theorem sc_wd (hT : ∀ k, k < 300 → M 2 k = f k) (hn : n ≤ 300) (i2 x5 : Int32) (m : Nat) {N' p : Nat} (hm : n ≤ p + m) (hN : m < N') (hp : p ≤ n) : f_X9_scanOne_h93 6 1 i2 (nI n) N' x5 (nI p) M = f_X9_scanOne_b117 6 1 i2 (nI n) x5 (nI (runE isL f n m p)) M := by
  induction m generalizing N' p with
  | zero =>
    obtain ⟨N', rfl⟩ : ∃ k, N' = k + 1 := ⟨N' - 1, by omega⟩
    unfold f_X9_scanOne_h93
    rw [if_pos (i_le (by omega) (by omega))]
    rfl
  | succ m ih =>
    obtain ⟨N', rfl⟩ : ∃ k, N' = k + 1 := ⟨N' - 1, by omega⟩
    unfold f_X9_scanOne_h93 runE
    by_cases hpn : p < n
    · rw [if_neg (i_nle hpn (by omega)), q_at, Option.bind_some]
      show (f_X9_isLetter M (rAt M 1 (nI p))).bind _ = _
      rw [tp_at hT (by omega), tk_let, Option.bind_some]
      by_cases hd : isL (f p) = true
      · rw [if_pos ⟨hpn, hd⟩, hd]
        show f_X9_scanOne_h93 6 1 i2 (nI n) N' x5 (nI p + 1) M = _
        rw [← nI_succ, ih (by omega) (by omega) (by omega)]
      · rw [if_neg (fun z => hd z.2), Bool.not_eq_true _ |>.mp hd]
        rfl
    · rw [if_pos (i_le (by omega) (by omega)), if_neg (fun z => hpn z.1)]
end SCANW
