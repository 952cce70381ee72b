/-! What the constructors leave is the first state. -/
def R0 : Dk := fun o k => if o = 0 then 0 else D0 (o - 1) k
def s0 : St := (0, fun _ => 0, [], -1, R0, [])
theorem r0_hi {o : Nat} (h : 16 ≤ o) (k : Nat) : R0 o k = 0 := by
  unfold R0 D0 sLay
  rw [if_neg (by omega), if_neg (by omega), if_neg (by omega), if_neg (by omega)]
theorem r0_s {o : Nat} (h : 16 ≤ o) (k : Nat) : sRd s0 o k = 0 := r0_hi h k
theorem ROK_0 : ROK R0 := by
  have p4 : pcs R0 = 4 := by decide +kernel
  have c18 : cfl R0 = 0 := by decide +kernel
  have c27 : cmd R0 = 0 := by decide +kernel
  have c34 : cbr R0 = 0 := by decide +kernel
  have c39 : cpa R0 = 0 := by decide +kernel
  unfold ROK
  rw [p4, c18, c27, c34, c39]
  refine ⟨by decide +kernel, by decide +kernel, ⟨by decide +kernel, fun k _ hk => (by decide +kernel : ∀ k, k < 8 → R0 13 k = 2) k hk⟩, ⟨by decide +kernel, fun k _ hk => (by decide +kernel : ∀ k, k < 8 → R0 15 k = 0) k hk⟩, fun k _ hk => (by decide +kernel : ∀ k, k < 8 → R0 5 k = 0 ∧ R0 7 k = 0 ∧ R0 9 k = 0 ∧ R0 11 k = 0) k hk, ⟨by decide +kernel, by decide, fun k hk => by omega⟩, ⟨by decide +kernel, by decide, fun k hk => by omega⟩, by decide +kernel, ⟨by decide +kernel, by decide, fun k hk => by omega⟩⟩
theorem nil_at {α : Type} {i : Nat} {x : α} (h : ([] : List α)[i]? = some x) : False := by simp at h
theorem SOK_0 : SOK s0 := ⟨Nat.zero_le _, fun _ _ => ⟨0, by decide, rfl⟩, Nat.zero_le _, fun _ _ h => (nil_at h).elim, ROK_0, Nat.zero_le _, fun _ _ h => (nil_at h).elim⟩
theorem inv_start {M1 M2 : Mem} (h1 : M1 0 = (fun k => if k = 5 then -1 else 0) ∧ RD M1 (0 + 12) D0 ∧ ∀ a, 0 < a → a < 0 + 57 → (a < 0 + 12 ∨ 0 + 29 ≤ a) → M1 a = fun _ => 0) (h2 : M2 250 = (fun k => if k = 3 then -1 else if k = 18 then 100 else if k = 19 then 4 else 0) ∧ M2 (250 + 11) = (fun j => if j < 10 then nbF j else 0) ∧ M2 (250 + 22) = (fun j => if j < 8 then (fun _ => (2 : Int32)) j else 0) ∧ ∀ a, 250 < a → a < 250 + 81 → a ≠ 250 + 11 → a ≠ 250 + 22 → M2 a = fun _ => 0) (hf : ∀ a, a < 250 → M2 a = M1 a) : Inv M2 s0 := by
  obtain ⟨a1, a2, a3⟩ := h1
  obtain ⟨b1, b2, b3, b4⟩ := h2
  have m0 : ∀ k, M2 0 k = if k = 5 then -1 else 0 := fun k => by rw [hf 0 (by omega), a1]
  have m1 : ∀ k, M2 250 k = if k = 3 then -1 else if k = 18 then 100 else if k = 19 then 4 else 0 := fun k => by rw [b1]
  have z : ∀ a, 250 < a → a < 331 → a ≠ 261 → a ≠ 272 → ∀ k, M2 a k = 0 := fun a g1 g2 g3 g4 k => by rw [b4 a g1 g2 g3 g4]
  refine ⟨⟨?_, ?_, ?_, ?_, fun k _ => ?_, fun _ _ h => (nil_at h).elim, fun o k hi => ?_, fun _ _ h => (nil_at h).elim⟩, ⟨⟨?_, ?_, ?_, ?_, ?_⟩, fun k _ => ?_, fun _ _ h => (nil_at h).elim, ⟨⟨⟨?_, ?_⟩, fun o k ho hi => ?_⟩, ⟨?_, ?_, ?_, ?_⟩, fun f hf2 => ⟨?_, ?_, ?_, ?_⟩, fun m hm => ⟨?_, ?_, ?_⟩, fun b hb => ⟨?_, fun k hk => ?_⟩, fun p hp => ⟨?_, ?_, ?_⟩⟩, fun _ _ h => (nil_at h).elim⟩, SOK_0⟩
  · rw [m0]; rfl
  · rw [m0]; rfl
  · rw [m0]; rfl
  · rw [m0]; rfl
  · rw [hf 2 (by omega), a3 2 (by omega) (by omega) (by omega)]; rfl
  · have hlt : 1 ≤ o ∧ o ≤ 45 := by unfold inR at hi; omega
    rw [hf (11 + o) (by omega)]
    by_cases h : o < 18
    · have hd : inD (o - 1) k := by unfold inR at hi; unfold inD; omega
      have e : 0 + 12 + (o - 1) = 11 + o := by omega
      rw [← e, a2 _ _ hd]
      show _ = R0 o k
      unfold R0
      rw [if_neg (by omega)]
    · rw [a3 (11 + o) (by omega) (by omega) (by omega)]
      exact (r0_hi (by omega) k).symm
  · rw [m1]; rfl
  · rw [m1]; rfl
  · rw [m1]; rfl
  · rw [m1]; rfl
  · rw [m1]; rfl
  · rw [z 251 (by omega) (by omega) (by omega) (by omega)]; rfl
  · rw [m1]; rfl
  · rw [m1]; rfl
  · unfold inD at hi
    have hk10 : o = 2 → k < 10 := fun h => by omega
    have hk8 : o ≠ 2 → k < 8 := fun h => by omega
    rcases (show o = 2 ∨ o = 4 ∨ o = 6 ∨ o = 8 ∨ o = 10 ∨ o = 12 ∨ o = 14 by omega) with rfl | rfl | rfl | rfl | rfl | rfl | rfl
    · show M2 (250 + 11) k = R0 3 k
      rw [b2]
      show (if k < 10 then nbF k else 0) = nbF k
      rw [if_pos (hk10 rfl)]
    · exact z 263 (by omega) (by omega) (by omega) (by omega) k
    · exact z 264 (by omega) (by omega) (by omega) (by omega) k
    · exact z 265 (by omega) (by omega) (by omega) (by omega) k
    · exact z 266 (by omega) (by omega) (by omega) (by omega) k
    · show M2 (250 + 22) k = R0 13 k
      rw [b3]
      show (if k < 8 then (2 : Int32) else 0) = 2
      rw [if_pos (hk8 (by decide))]
    · exact z 273 (by omega) (by omega) (by omega) (by omega) k
  · rw [m1]; rfl
  · rw [m1]; rfl
  · rw [m1]; rfl
  · rw [m1]; rfl
  all_goals (rw [z _ (by omega) (by omega) (by omega) (by omega)]; refine (r0_s ?_ _).symm; decide)
