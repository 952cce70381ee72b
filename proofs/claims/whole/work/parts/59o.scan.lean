/-! The class's tokens: a number. -/
theorem nI_ad2 (a b : Nat) : nI a + nI b = nI (a + b) := by
  induction b with
  | zero => exact Int32.add_zero _
  | succ m ih => rw [nI_succ, ← Int32.add_assoc, ih, ← nI_succ, Nat.add_assoc]
theorem nI_mul (a b : Nat) : nI a * nI b = nI (a * b) := by
  induction b with
  | zero => exact Int32.mul_zero
  | succ m ih => rw [nI_succ, Int32.mul_add, ih, Int32.mul_one, nI_ad2, Nat.mul_succ]
theorem nI_sub {a b : Nat} (h : b ≤ a) : nI a - nI b = nI (a - b) := by
  have e : nI a = nI (a - b) + nI b := by rw [nI_ad2, Nat.sub_add_cancel h]
  rw [e, Int32.add_sub_cancel]
theorem r_10 : gRf 1 0 = 2 := by decide +kernel
theorem r_n2 : gN 2 = 300 := by decide +kernel
theorem tp_at {f : Nat → Int32} {M : Mem} (hT : ∀ k, k < 300 → M 2 k = f k) {p : Nat} (hp : p < 300) : rAt M 1 (nI p) = f p := by
  rw [rAt_nI (by rw [r_10, r_n2]; exact hp) (by rw [r_10, r_n2]; decide), r_10]
  exact hT p hp
theorem isD_nI {q : Nat} (hq : q < 256) : isD (nI q) = true ↔ 48 ≤ q ∧ q ≤ 57 := by
  unfold isD
  simp only [Bool.and_eq_true, Bool.not_eq_true', decide_eq_false_iff_not]
  constructor
  · intro ⟨h1, h2⟩
    constructor
    · by_cases z : 48 ≤ q
      · exact z
      · exact absurd (show nI q < 48 from nI_lt (b := 48) (by omega) (by omega)) h1
    · by_cases z : q ≤ 57
      · exact z
      · exact absurd (show 57 < nI q from nI_lt (a := 57) (by omega) (by omega)) h2
  · intro ⟨h1, h2⟩
    exact ⟨nI_nlt (b := 48) h1 (by omega), nI_nlt (a := 57) h2 (by omega)⟩
section SCANN
variable {f : Nat → Int32} {n : Nat} {M : Mem}
theorem sc_num (hb : ∀ k, k < 300 → ∃ q, q < 256 ∧ f k = nI q) (hT : ∀ k, k < 300 → M 2 k = f k) (hn : n ≤ 300) (i2 : Int32) (m : Nat) {N' p v : Nat} (hm : n ≤ p + m) (hN : m < N') (hp : p ≤ n) (hv : v ≤ 10000) : f_X9_scanOne_h30 6 1 i2 (nI n) N' (nI v) (nI p) M = f_X9_scanOne_b77 6 1 i2 (nI n) (nI (nv f (runE isD f n m p - p) p v)) (nI (runE isD f n m p)) M := by
  induction m generalizing N' p v with
  | zero =>
    obtain ⟨N', rfl⟩ : ∃ k, N' = k + 1 := ⟨N' - 1, by omega⟩
    unfold f_X9_scanOne_h30
    rw [if_pos (i_le (by omega) (by omega))]
    show _ = f_X9_scanOne_b77 6 1 i2 (nI n) (nI (nv f (p - p) p v)) (nI p) M
    rw [Nat.sub_self]; rfl
  | succ m ih =>
    obtain ⟨N', rfl⟩ : ∃ k, N' = k + 1 := ⟨N' - 1, by omega⟩
    unfold f_X9_scanOne_h30 runE
    by_cases hpn : p < n
    · rw [if_neg (i_nle hpn (by omega)), q_at, Option.bind_some]
      show (f_X9_isDigit M (rAt M 1 (nI p))).bind _ = _
      rw [tp_at hT (by omega), tk_dig, Option.bind_some]
      by_cases hd : isD (f p) = true
      · rw [if_pos ⟨hpn, hd⟩, hd]
        show (f_X8_at M 1 (nI p)).bind _ = _
        rw [q_at, Option.bind_some]
        obtain ⟨q, hq, e⟩ := hb p (by omega)
        have hq2 := (isD_nI hq).mp (by rw [← e]; exact hd)
        have e1 : (nI v * 10 + rAt M 1 (nI p)) - 48 = nI (10 * v + (q - 48)) := by
          rw [tp_at hT (by omega), e, show (10 : Int32) = nI 10 from rfl, show (48 : Int32) = nI 48 from rfl, nI_mul, nI_ad2, nI_sub (by omega)]
          congr 1
          omega
        have e2 : (if (nI v * 10 + rAt M 1 (nI p)) - 48 < 10000 then (nI v * 10 + rAt M 1 (nI p)) - 48 else 10000) = nI (min 10000 (10 * v + ((f p).toNatClampNeg - 48))) := by
          rw [e1, e, i_cl (by omega)]
          by_cases hz : 10 * v + (q - 48) < 10000
          · rw [if_pos (show _ < (10000 : Int32) from nI_lt (b := 10000) hz (by omega)), Nat.min_eq_right (by omega)]
          · rw [if_neg (show ¬ _ < (10000 : Int32) from nI_nlt (b := 10000) (by omega) (by omega)), Nat.min_eq_left (by omega)]; rfl
        show f_X9_scanOne_h30 6 1 i2 (nI n) N' (if (nI v * 10 + rAt M 1 (nI p)) - 48 < 10000 then (nI v * 10 + rAt M 1 (nI p)) - 48 else 10000) (nI p + 1) M = _
        rw [e2, ← nI_succ, ih (by omega) (by omega) (by omega) (Nat.min_le_left _ _)]
        have hge := run_ge isD f n m (p + 1)
        rw [show runE isD f n m (p + 1) - p = (runE isD f n m (p + 1) - (p + 1)) + 1 by omega]
        rfl
      · rw [if_neg (fun z => hd z.2), Bool.not_eq_true _ |>.mp hd]
        show f_X9_scanOne_b77 6 1 i2 (nI n) (nI v) (nI p) M = _
        rw [Nat.sub_self]; rfl
    · rw [if_pos (i_le (by omega) (by omega)), if_neg (fun z => hpn z.1), Nat.sub_self]; rfl
end SCANN
