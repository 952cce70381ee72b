/-! The class's condition by depth. -/
section READC
variable {f : Nat → Int32} {n : Nat}
theorem cm_c (hb : ∀ k, k < 300 → ∃ q, q < 256 ∧ f k = nI q) (k : Nat) {d : Nat} (hk : k ≤ 6) (hd : k < d) : SH f n (S_X6_comparison d) (pCm (kK f n) (kV f n) (kN f n) k) (6 - k) := by
  induction k generalizing d with
  | zero =>
    obtain ⟨d, rfl⟩ : ∃ e, d = e + 1 := ⟨d - 1, by omega⟩
    exact cmp_p (g := none) (b := 3) hb (by decide) (fun _ => rfl) (fun z => absurd z (by decide)) (sum_c hb 0 (by decide) (by decide)) (fun p hp => sum_ok (tk_ok f n) 0 hp)
  | succ k ih =>
    obtain ⟨d, rfl⟩ : ∃ e, d = e + 1 := ⟨d - 1, by omega⟩
    have hs := ih (d := d) (by omega) (by omega)
    have e6 : 6 - (k + 1) + 1 = 6 - k := by omega
    refine cmp_p (g := some (pCnd (kK f n) (kN f n) (pCm (kK f n) (kV f n) (kN f n) k), pCm (kK f n) (kV f n) (kN f n) k)) (b := 3 * k + 6) hb (by omega) (fun z => by omega) (fun _ => ⟨_, rfl, ?_, fun p hp => ⟨cnd_ok (tk_ok f n) (b := 3 * k + 4) (fun p hp => cm_ok (tk_ok f n) k hp) hp, (cm_ok (tk_ok f n) k hp).mono (by omega)⟩⟩) (sum_c hb (k + 1) hk (by unfold DP; omega)) (fun p hp => sum_ok (tk_ok f n) (k + 1) hp)
    rw [e6]
    exact ⟨cnd_p hb hs (fun p hp => cm_ok (tk_ok f n) k hp), hs⟩
theorem cond_c (hb : ∀ k, k < 300 → ∃ q, q < 256 ∧ f k = nI q) (k : Nat) {d : Nat} (hk : k ≤ 6) (hd : k < d) : SH f n (S_X6_condition d) (pCnd (kK f n) (kN f n) (pCm (kK f n) (kV f n) (kN f n) k)) (6 - k) := cnd_p hb (cm_c hb k hk hd) (fun p hp => cm_ok (tk_ok f n) k hp)
end READC
