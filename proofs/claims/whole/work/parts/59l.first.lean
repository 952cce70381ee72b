/-! The reader's first step. -/
section READF
variable {f : Nat → Int32} {n : Nat} {M : Mem}
theorem r_first {J : Nat} (h1 : TOK f n J M) (h0 : M 3 5 = -1) (h5 : M 3 2 = 0) (h6 : M 3 1 = 0) : tot (f_X6_step M 3) (fun _ M' => RP f n M' (stt f n 0) [] ∧ HF M M') := by
  obtain ⟨t7, t8, t9⟩ := h1.2 0 (Nat.zero_le J)
  unfold f_X6_step
  rw [h0, show (-1 : Int32) + 1 = nI 0 from rfl]
  have v0 : mU M 3 5 (nI 0) 3 5 = nI 0 := by rw [mU_at, if_pos ⟨rfl, rfl⟩]
  obtain ⟨a1, a2, a3⟩ := row_in (M := M) (j := 0) 7 r_n7 (by decide)
  rw [v0, r_34, r_60, if_neg a1, if_neg a2, if_pos a3, i_cl (by omega)]
  have w7 : mU M 3 5 (nI 0) 7 0 = nI (kK f n (stt f n 0)) := by rw [u_ne (by decide)]; exact t7
  rw [w7]
  unfold f_X6_step_b51
  have v1 : mU (mU M 3 5 (nI 0)) 3 6 (nI (kK f n (stt f n 0))) 3 5 = nI 0 := by rw [mU_at, if_neg (by omega)]; exact v0
  obtain ⟨b1, b2, b3⟩ := row_in (M := M) (j := 0) 8 r_n8 (by decide)
  rw [v1, r_34, r_61, if_neg b1, if_neg b2, if_pos b3, i_cl (by omega)]
  have w8 : mU (mU M 3 5 (nI 0)) 3 6 (nI (kK f n (stt f n 0))) 8 0 = nI (stt f n 0) := by rw [u_ne (by decide), u_ne (by decide)]; exact t8
  rw [w8]
  unfold f_X6_step_b93
  have v2 : mU (mU (mU M 3 5 (nI 0)) 3 6 (nI (kK f n (stt f n 0)))) 3 7 (nI (stt f n 0)) 3 5 = nI 0 := by rw [mU_at, if_neg (by omega)]; exact v1
  obtain ⟨c1, c2, c3⟩ := row_in (M := M) (j := 0) 9 r_n9 (by decide)
  rw [v2, r_34, r_62, if_neg c1, if_neg c2, if_pos c3, i_cl (by omega)]
  have w9 : mU (mU (mU M 3 5 (nI 0)) 3 6 (nI (kK f n (stt f n 0)))) 3 7 (nI (stt f n 0)) 9 0 = nI (kV f n (stt f n 0)) := by rw [u_ne (by decide), u_ne (by decide), u_ne (by decide)]; exact t9
  rw [w9]
  have eo : ∀ b, b ≠ 3 → mU (mU (mU (mU M 3 5 (nI 0)) 3 6 (nI (kK f n (stt f n 0)))) 3 7 (nI (stt f n 0))) 3 8 (nI (kV f n (stt f n 0))) b = M b := fun b hb => by rw [u_ne hb, u_ne hb, u_ne hb, u_ne hb]
  have e3 : ∀ k, k < 5 → mU (mU (mU (mU M 3 5 (nI 0)) 3 6 (nI (kK f n (stt f n 0)))) 3 7 (nI (stt f n 0))) 3 8 (nI (kV f n (stt f n 0))) 3 k = M 3 k := fun k hk => by
    rw [mU_at, if_neg (by omega), mU_at, if_neg (by omega), mU_at, if_neg (by omega), mU_at, if_neg (by omega)]
  refine tot.ret ⟨⟨J, 0, ⟨h1.1, fun i hi => ?_⟩, Nat.zero_le J, rfl, ⟨?_, ?_, ?_, ?_⟩, ?_, ?_, Nat.zero_le 300, fun k v hk => ?_⟩, fun b hb _ => eo b hb⟩
  · rw [eo 7 (by decide), eo 8 (by decide), eo 9 (by decide)]; exact h1.2 i hi
  · rw [mU_at, if_neg (by omega), mU_at, if_neg (by omega), mU_at, if_neg (by omega), mU_at, if_pos ⟨rfl, rfl⟩]
  · rw [mU_at, if_neg (by omega), mU_at, if_neg (by omega), mU_at, if_pos ⟨rfl, rfl⟩]
  · rw [mU_at, if_neg (by omega), mU_at, if_pos ⟨rfl, rfl⟩]
  · rw [mU_at, if_pos ⟨rfl, rfl⟩]
  · rw [e3 2 (by decide)]; exact h5
  · rw [e3 1 (by decide)]; exact h6
  · cases hk
end READF
