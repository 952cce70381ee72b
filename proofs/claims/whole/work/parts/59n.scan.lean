/-! Digits, letters, bytes of the tape. -/
theorem tk_dig (M : Mem) (x : Int32) : f_X9_isDigit M x = some (b2 (isD x), M) := by
  unfold f_X9_isDigit isD
  by_cases h1 : x < 48
  · rw [if_pos h1, decide_eq_true h1]; rfl
  · rw [if_neg h1, decide_eq_false h1]
    by_cases h2 : 57 < x
    · rw [if_pos h2, decide_eq_true h2]; rfl
    · rw [if_neg h2, decide_eq_false h2]; rfl
theorem tk_let (M : Mem) (x : Int32) : f_X9_isLetter M x = some (b2 (isL x), M) := by
  unfold f_X9_isLetter isL
  by_cases h1 : x < 97
  · rw [if_pos h1, decide_eq_true h1]; rfl
  · rw [if_neg h1, decide_eq_false h1]
    by_cases h2 : 122 < x
    · rw [if_pos h2, decide_eq_true h2]; rfl
    · rw [if_neg h2, decide_eq_false h2]; rfl
theorem mk_dig (M : Mem) (x : Int32) : f_X11_isDigit M x = some (b2 (isD x), M) := tk_dig M x
