/-! The pure side, begun: the Row class. -/
theorem clamp_le {i : Int32} {n : Nat} (h0 : ¬ i < 0) (hn : n < 2147483648) : nI n ≤ i ↔ n ≤ i.toNatClampNeg := by
  obtain ⟨j, hj, rfl⟩ := nI_of h0
  rw [nI_leI hn hj, nI_clamp hj]
/-- a loop that counts up by one, from k to N, with the memory S k at k -/
theorem loop_nI {β : Type} (F : Nat → Int32 → Mem → Option β) (N : Nat) (S : Nat → Mem) (R : Option β) (hs : ∀ n k, k < N → F (n + 1) (nI k) (S k) = F n (nI k + 1) (S (k + 1))) (he : ∀ n, F (n + 1) (nI N) (S N) = R) : ∀ (d k : Nat), k + d = N → ∀ n, d < n → F n (nI k) (S k) = R := by
  intro d
  induction d with
  | zero =>
    intro k hk n hn
    obtain ⟨m, rfl⟩ : ∃ m, n = m + 1 := ⟨n - 1, by omega⟩
    have : k = N := by omega
    subst this
    exact he m
  | succ d ih =>
    intro k hk n hn
    obtain ⟨m, rfl⟩ : ∃ m, n = m + 1 := ⟨n - 1, by omega⟩
    rw [hs m k (by omega), nI_1]
    exact ih (k + 1) (by omega) m (by omega)
def rAt (M : Mem) (r : Nat) (i : Int32) : Int32 := if ¬ (i < 0 ∨ gN (gRf r 0) ≤ i.toNatClampNeg) then M (gRf r 0) i.toNatClampNeg else 0
def rPut (M : Mem) (r : Nat) (i v : Int32) : Mem := if ¬ (i < 0 ∨ gN (gRf r 0) ≤ i.toNatClampNeg) then mU M (gRf r 0) i.toNatClampNeg v else M
theorem rAt_nI {M : Mem} {r k : Nat} (hk : k < gN (gRf r 0)) (hn : gN (gRf r 0) < 2147483648) : rAt M r (nI k) = M (gRf r 0) k := by
  unfold rAt
  rw [nI_clamp (by omega), if_pos]
  intro h
  rcases h with h | h
  · exact nI_pos (by omega) h
  · omega
theorem rPut_nI {M : Mem} {r k : Nat} {v : Int32} (hk : k < gN (gRf r 0)) (hn : gN (gRf r 0) < 2147483648) : rPut M r (nI k) v = mU M (gRf r 0) k v := by
  unfold rPut
  rw [nI_clamp (by omega), if_pos]
  intro h
  rcases h with h | h
  · exact nI_pos (by omega) h
  · omega
theorem p_at {M : Mem} {r : Nat} {i : Int32} (hn : gN (gRf r 0) < 2147483648) : f_X8_at M r i = some (rAt M r i, M) := by
  unfold f_X8_at rAt
  by_cases h0 : i < 0
  · simp [h0]
  · by_cases h1 : gN (gRf r 0) ≤ i.toNatClampNeg
    · have h2 := (clamp_le h0 hn).mpr h1
      simp [h0, h1, h2]
    · have h2 : ¬ nI (gN (gRf r 0)) ≤ i := fun q => h1 ((clamp_le h0 hn).mp q)
      simp [h0, h1, h2]
theorem p_put {M : Mem} {r : Nat} {i v : Int32} (hn : gN (gRf r 0) < 2147483648) : f_X8_put M r i v = some (0, rPut M r i v) := by
  unfold f_X8_put rPut
  by_cases h0 : i < 0
  · simp [h0]
  · by_cases h1 : gN (gRf r 0) ≤ i.toNatClampNeg
    · have h2 := (clamp_le h0 hn).mpr h1
      simp [h0, h1, h2]
    · have h2 : ¬ nI (gN (gRf r 0)) ≤ i := fun q => h1 ((clamp_le h0 hn).mp q)
      simp [h0, h1, h2]
/-- the first n places of cell c become f -/
def mSet (M : Mem) (c n : Nat) (f : Nat → Int32) : Mem := fun b j => if b = c ∧ j < n then f j else M b j
theorem mSet_0 (M : Mem) (c : Nat) (f : Nat → Int32) : mSet M c 0 f = M := by
  funext b j
  simp [mSet]
theorem mSet_succ (M : Mem) (c n : Nat) (f : Nat → Int32) : mU (mSet M c n f) c n (f n) = mSet M c (n + 1) f := by
  funext b j
  by_cases hb : b = c
  · subst hb
    by_cases hj : j = n
    · subst hj; simp [mSet, mU]
    · by_cases hl : j < n
      · simp [mSet, mU, hj, hl, Nat.lt_succ_of_lt hl]
      · simp [mSet, mU, hj, hl, show ¬ j < n + 1 by omega]
  · simp [mSet, mU, hb]
theorem mSet_ne {M : Mem} {c n b : Nat} {f : Nat → Int32} (h : b ≠ c) : mSet M c n f b = M b := by
  funext j
  simp [mSet, h]
theorem p_fill {M : Mem} {r : Nat} {v : Int32} (hn : gN (gRf r 0) < 100000) : f_X8_fill M r v = some (0, mSet M (gRf r 0) (gN (gRf r 0)) (fun _ => v)) := by
  unfold f_X8_fill
  have h := loop_nI (f_X8_fill_h2 r v) (gN (gRf r 0)) (fun k => mSet M (gRf r 0) k (fun _ => v)) (some (0, mSet M (gRf r 0) (gN (gRf r 0)) (fun _ => v))) (fun n k hk => by
    rw [f_X8_fill_h2, if_neg (nI_ge hk (by omega)), if_pos (by rw [nI_clamp (by omega)]; intro h; rcases h with h | h; exact nI_pos (by omega) h; omega), nI_clamp (by omega), mSet_succ]) (fun n => by
    rw [f_X8_fill_h2, if_pos (nI_le (Nat.le_refl _) (by omega))]) (gN (gRf r 0)) 0 (by omega) FU (by unfold FU; omega)
  rw [mSet_0] at h
  exact h
theorem p_copy {M : Mem} {r r2 : Nat} (hn : gN (gRf r 0) < 100000) (h2 : gN (gRf r2 0) = gN (gRf r 0)) (hne : gRf r2 0 ≠ gRf r 0) : f_X8_copy M r r2 = some (0, mSet M (gRf r 0) (gN (gRf r 0)) (M (gRf r2 0))) := by
  unfold f_X8_copy
  have h := loop_nI (f_X8_copy_h2 r r2) (gN (gRf r 0)) (fun k => mSet M (gRf r 0) k (M (gRf r2 0))) (some (0, mSet M (gRf r 0) (gN (gRf r 0)) (M (gRf r2 0)))) (fun n k hk => by
    have hin : ¬ (nI k < 0 ∨ gN (gRf r 0) ≤ k) := fun h => by
      rcases h with h | h
      · exact nI_pos (by omega) h
      · omega
    rw [f_X8_copy_h2, if_neg (nI_ge hk (by omega)), h2, if_neg (nI_ge hk (by omega)), nI_clamp (by omega), if_pos hin, if_pos hin, mSet_ne hne, mSet_succ]) (fun n => by
    rw [f_X8_copy_h2, if_pos (nI_le (Nat.le_refl _) (by omega))]) (gN (gRf r 0)) 0 (by omega) FU (by unfold FU; omega)
  rw [mSet_0] at h
  exact h
