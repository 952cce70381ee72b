/-! The class's tokens: one laid. -/
theorem tk_add {M : Mem} {j : Nat} (h : M 6 3 = nI j) (hj : j < 301) (a b c : Int32) : f_X9_add M 6 a b c = some (0, mU (mU (mU (mU M 7 j a) 8 j b) 9 j c) 6 3 (nI (j + 1))) := by
  obtain ⟨a1, a2, a3⟩ := row_in (M := M) (j := j) 7 r_n7 hj
  obtain ⟨_, b2, b3⟩ := row_in (M := M) (j := j) 8 r_n8 hj
  obtain ⟨_, c2, c3⟩ := row_in (M := M) (j := j) 9 r_n9 hj
  have e1 : mU M 7 j a 6 3 = nI j := by rw [u_ne (by decide)]; exact h
  have e2 : mU (mU M 7 j a) 8 j b 6 3 = nI j := by rw [u_ne (by decide)]; exact e1
  have e3 : mU (mU (mU M 7 j a) 8 j b) 9 j c 6 3 = nI j := by rw [u_ne (by decide)]; exact e2
  unfold f_X9_add
  rw [r_60, r_61, r_62, h, if_neg a1, if_neg a2, if_neg b2, if_neg c2, if_pos a3, i_cl (by omega)]
  rw [e1, if_pos b3, i_cl (by omega), e2, if_pos c3, i_cl (by omega), e3, nI_succ]
