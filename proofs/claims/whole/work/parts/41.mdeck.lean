/-! The model's deck. -/
def dA (o : Nat) : Nat := if o = 0 then 250 else if o = 2 then 261 else if o = 12 then 272 else if o = 14 then 273 else 261 + o / 2
def MD (M : Mem) (D : Dk) : Prop := (M 250 19 = D 0 0 ∧ M 250 20 = D 0 1) ∧ ∀ o k, 2 ≤ o → inD o k → M (dA o) k = D o k
theorem inD_e {o k : Nat} (h : inD o k) : o < 16 ∧ o % 2 = 0 := by
  unfold inD at h
  rcases h with ⟨h, _⟩ | ⟨h, _⟩ | ⟨h, _⟩ <;> omega
theorem dA_inj : ∀ o, o < 16 → ∀ o2, o2 < 16 → o % 2 = 0 → o2 % 2 = 0 → dA o = dA o2 → o = o2 := by decide
theorem dA_ne : ∀ o, o < 16 → 2 ≤ o → o % 2 = 0 → dA o ≠ 250 := by decide
theorem dA_in : ∀ o, o < 16 → 2 ≤ o → o % 2 = 0 → dA o = 261 ∨ dA o = 263 ∨ dA o = 264 ∨ dA o = 265 ∨ dA o = 266 ∨ dA o = 272 ∨ dA o = 273 := by decide
theorem MD.put {M : Mem} {D : Dk} (h : MD M D) {o k : Nat} (ho : 2 ≤ o) (hi : inD o k) (v : Int32) : MD (mU M (dA o) k v) (mU D o k v) := by
  have he := inD_e hi
  have hn := dA_ne o he.1 ho he.2
  refine ⟨⟨?_, ?_⟩, fun o2 k2 ho2 hi2 => ?_⟩
  · rw [u_ne (Ne.symm hn), mU_at, if_neg (by omega)]; exact h.1.1
  · rw [u_ne (Ne.symm hn), mU_at, if_neg (by omega)]; exact h.1.2
  · have he2 := inD_e hi2
    rw [mU_at, mU_at]
    by_cases hz : o2 = o ∧ k2 = k
    · obtain ⟨rfl, rfl⟩ := hz
      rw [if_pos ⟨rfl, rfl⟩, if_pos ⟨rfl, rfl⟩]
    · rw [if_neg hz, if_neg (fun z => hz ⟨dA_inj o2 he2.1 o he.1 he2.2 he.2 z.1, z.2⟩)]
      exact h.2 o2 k2 ho2 hi2
theorem MD.fr {M M' : Mem} {D : Dk} (h : MD M D) (h1 : M' 250 19 = M 250 19) (h2 : M' 250 20 = M 250 20) (hf : ∀ b, b = 261 ∨ (263 ≤ b ∧ b < 267) ∨ b = 272 ∨ b = 273 → M' b = M b) : MD M' D := by
  refine ⟨⟨h1.trans h.1.1, h2.trans h.1.2⟩, fun o k ho hi => ?_⟩
  have he := inD_e hi
  have := dA_in o he.1 ho he.2
  rw [hf _ (by omega)]
  exact h.2 o k ho hi
theorem MD.cg {M : Mem} {D D' : Dk} (h : MD M D) (hf : ∀ o k, inD o k → D o k = D' o k) : MD M D' := ⟨⟨h.1.1.trans (hf 0 0 (by unfold inD; omega)), h.1.2.trans (hf 0 1 (by unfold inD; omega))⟩, fun o k ho hi => (h.2 o k ho hi).trans (hf o k hi)⟩
section MDS
variable {M : Mem} {D : Dk}
theorem MD.p (h : MD M D) : M 250 19 = D 0 0 := h.1.1
theorem MD.t (h : MD M D) : M 250 20 = D 0 1 := h.1.2
theorem MD.n (h : MD M D) {k : Nat} (hk : k < 10) : M 261 k = D 2 k := h.2 2 k (by omega) (Or.inr (Or.inl ⟨rfl, hk⟩))
theorem MD.a4 (h : MD M D) {k : Nat} (hk : k < 8) : M 263 k = D 4 k := h.2 4 k (by omega) (Or.inr (Or.inr ⟨Or.inl rfl, hk⟩))
theorem MD.a6 (h : MD M D) {k : Nat} (hk : k < 8) : M 264 k = D 6 k := h.2 6 k (by omega) (Or.inr (Or.inr ⟨Or.inr (Or.inl rfl), hk⟩))
theorem MD.a8 (h : MD M D) {k : Nat} (hk : k < 8) : M 265 k = D 8 k := h.2 8 k (by omega) (Or.inr (Or.inr ⟨Or.inr (Or.inr (Or.inl rfl)), hk⟩))
theorem MD.a10 (h : MD M D) {k : Nat} (hk : k < 8) : M 266 k = D 10 k := h.2 10 k (by omega) (Or.inr (Or.inr ⟨Or.inr (Or.inr (Or.inr (Or.inl rfl))), hk⟩))
theorem MD.a12 (h : MD M D) {k : Nat} (hk : k < 8) : M 272 k = D 12 k := h.2 12 k (by omega) (Or.inr (Or.inr ⟨Or.inr (Or.inr (Or.inr (Or.inr (Or.inl rfl)))), hk⟩))
theorem MD.a14 (h : MD M D) {k : Nat} (hk : k < 8) : M 273 k = D 14 k := h.2 14 k (by omega) (Or.inr (Or.inr ⟨Or.inr (Or.inr (Or.inr (Or.inr (Or.inr rfl)))), hk⟩))
theorem inD_b {q k : Nat} (hq : q < 4) (hk : k < 8) : inD (4 + 2 * q) k := by
  have : q = 0 ∨ q = 1 ∨ q = 2 ∨ q = 3 := by omega
  unfold inD
  rcases this with rfl | rfl | rfl | rfl <;> omega
theorem dA_b : ∀ q, q < 4 → dA (4 + 2 * q) = 263 + q := by decide
/-- row q of the state -/
theorem MD.st (h : MD M D) {q k : Nat} (hq : q < 4) (hk : k < 8) : M (263 + q) k = D (4 + 2 * q) k := by
  rw [← dA_b q hq]
  exact h.2 _ k (by omega) (inD_b hq hk)
end MDS
/-- a deck of n pieces, as both sides keep it -/
def DOK (n : Nat) (D : Dk) : Prop := (D 0 0 = nI n ∧ 2 ≤ n ∧ n ≤ 8) ∧ (1 ≤ D 2 0 ∧ 0 ≤ D 2 9) ∧ ((∀ k, k < 8 → D 12 k = 0 ∨ D 12 k = 1 ∨ D 12 k = 2) ∧ ∀ k, n ≤ k → k < 8 → ¬ D 12 k = 1) ∧ ((∀ k, k < 8 → D 14 k = 0 ∨ D 14 k = 1) ∧ ∀ k, n ≤ k + 1 → k < 8 → D 14 k = 0) ∧ ∀ k, n ≤ k → k < 8 → D 4 k = 0 ∧ D 6 k = 0 ∧ D 8 k = 0 ∧ D 10 k = 0
theorem nm_st {D : Dk} {w : Int32} {p q : Nat} (hq : q < 4) : sNm D w p (2 + q) = D (4 + 2 * q) p := by
  have : q = 0 ∨ q = 1 ∨ q = 2 ∨ q = 3 := by omega
  rcases this with rfl | rfl | rfl | rfl <;> rfl
section MTICK
variable {M : Mem} {D : Dk} {n : Nat}
theorem t_names (h : MD M D) {p : Nat} (hp : p < 8) (w : Int32) : tot (f_X11_tellsNames M 250 w (nI p)) (fun _ M' => (∀ j, j < 9 → M' 260 j = sNm D w p j) ∧ ∀ b, b ≠ 260 → M' b = M b) := by
  have hp1 := i_lt0 (show p < 100000 by omega)
  have hp2 := i_cl (show p < 100000 by omega)
  have hp3 : ¬ 8 ≤ p := by omega
  unfold f_X11_tellsNames
  simp only [m_15, l_260, ci_0, ci_1, zi_0, zi_1, Nat.reduceLeDiff, or_self, not_false_eq_true, ↓reduceIte]
  refine tot.loopFU (σ := Int32 × Mem) (fun m s => f_X11_tellsNames_h19 250 w (nI p) m s.1 s.2) 4 (fun q s => s.1 = nI q ∧ (∀ j, j < 2 + q → s.2 260 j = sNm D w p j) ∧ ∀ b, b ≠ 260 → s.2 b = M b) _ (by omega) (0, mU (mU M 260 0 w) 260 1 (mU M 260 0 w 250 20)) ⟨rfl, fun j hj => ?_, fun b hb => ?_⟩ ?_ ?_
  · have : j = 0 ∨ j = 1 := by omega
    rcases this with rfl | rfl
    · show mU (mU M 260 0 w) 260 1 (mU M 260 0 w 250 20) 260 0 = w
      rw [mU_at, if_neg (by decide), mU_at, if_pos ⟨rfl, rfl⟩]
    · show mU (mU M 260 0 w) 260 1 (mU M 260 0 w 250 20) 260 1 = D 0 1
      rw [mU_at, if_pos ⟨rfl, rfl⟩, u_ne (by decide)]
      exact h.t
  · show mU (mU M 260 0 w) 260 1 _ b = M b
    rw [u_ne hb, u_ne hb]
  · rintro m q ⟨x, M1⟩ hq ⟨hx, hn, hf⟩ hnext
    dsimp only at hx hn hf
    subst hx
    have hq1 := i_lt0 (show q < 100000 by omega)
    have hq2 := i_cl (show q < 100000 by omega)
    have hq3 : ¬ (4 : Int32) ≤ nI q := i_nle (b := 4) hq (by omega)
    have hq4 : ¬ 4 ≤ q := by omega
    have hq5 : (2 : Int32) + nI q = nI (2 + q) := nI_add 2 q
    have hq6 := i_lt0 (show 2 + q < 100000 by omega)
    have hq7 := i_cl (show 2 + q < 100000 by omega)
    have hq8 : ¬ 9 ≤ 2 + q := by omega
    show tot (f_X11_tellsNames_h19 250 w (nI p) (m + 1) (nI q) M1) _
    rw [f_X11_tellsNames_h19]
    simp only [m_22, l_262, r_262 q hq, l_263 q hq, m_15, l_260, hp1, hp2, hp3, hq1, hq2, hq3, hq4, hq5, hq6, hq7, hq8, or_self, not_false_eq_true, ↓reduceIte, nI_1]
    refine hnext (nI (q + 1), _) ⟨rfl, fun j hj => ?_, fun b hb => ?_⟩
    · show mU M1 260 (2 + q) _ 260 j = _
      rw [mU_at]
      by_cases hz : j = 2 + q
      · rw [if_pos ⟨rfl, hz⟩, hz, nm_st hq, hf (263 + q) (by omega)]
        exact h.st hq hp
      · rw [if_neg (by omega)]
        exact hn j (by omega)
    · show mU M1 260 (2 + q) _ b = M b
      rw [u_ne hb]
      exact hf b hb
  · rintro m ⟨x, M1⟩ ⟨hx, hn, hf⟩
    dsimp only at hx hn hf
    subst hx
    show tot (f_X11_tellsNames_h19 250 w (nI p) (m + 1) (nI 4) M1) _
    have hq3 : (4 : Int32) ≤ nI 4 := by decide
    rw [f_X11_tellsNames_h19]
    simp only [hq3, m_21, l_261, m_15, l_260, ci_5, ci_6, ci_7, ci_8, zi_5, zi_6, zi_7, zi_8, Nat.reduceLeDiff, or_self, not_false_eq_true, ↓reduceIte]
    have e5 : M1 261 5 = D 2 5 := by rw [hf 261 (by omega)]; exact h.n (by omega)
    have e6 : M1 261 6 = D 2 6 := by rw [hf 261 (by omega)]; exact h.n (by omega)
    refine tot.ret ⟨fun j hj => ?_, fun b hb => ?_⟩
    · by_cases z8 : j = 8
      · subst z8; simp [mU_at, sNm]
      by_cases z7 : j = 7
      · subst z7; simp [mU_at, sNm]; exact e6
      by_cases z6 : j = 6
      · subst z6; simp [mU_at, sNm]; exact e5
      simp [mU_at, z8, z7, z6]
      exact hn j (by omega)
    · rw [u_ne hb, u_ne hb, u_ne hb]
      exact hf b hb
theorem t_bef (h : MD M D) (ok : DOK n D) {p q : Nat} (hp : p < n) (hq : q < 2) : f_X11_beside M 250 (nI q) (nI p) (nI p - 1) = some (sBef D (4 + 2 * q) p, M) := by
  obtain ⟨⟨hn, h2, h8⟩, _, _, ⟨h14, _⟩, _⟩ := ok
  unfold f_X11_beside sBef
  by_cases hz : p = 0
  · subst hz
    rw [if_pos (by decide), if_pos rfl]
  · have e : nI p - 1 = nI (p - 1) := i_prd (by omega)
    have hq1 := i_lt0 (show q < 100000 by omega)
    have hq2 := i_cl (show q < 100000 by omega)
    have hq4 : ¬ 4 ≤ q := by omega
    have hp1 := i_lt0 (show p < 100000 by omega)
    have hp2 := i_cl (show p < 100000 by omega)
    have hp3 : ¬ 8 ≤ p := by omega
    have hr1 := i_lt0 (show p - 1 < 100000 by omega)
    have hr2 := i_cl (show p - 1 < 100000 by omega)
    have hr3 : ¬ 8 ≤ p - 1 := by omega
    have hr4 : nI (p - 1) < nI n := nI_lt (by omega) (by omega)
    have hr5 : nI (p - 1) ≤ nI p := i_le (by omega) (by omega)
    unfold f_X11_beside_b28
    simp only [e, h.p, hn, hr1, hr2, hr3, hr4, hr5, hq1, hq2, hq4, hp1, hp2, hp3, m_25, l_273, m_22, l_262, r_262 q (by omega), l_263 q (by omega), or_self, not_false_eq_true, ↓reduceIte, h.a14 (show p - 1 < 8 by omega), h.st (show q < 4 by omega) (show p < 8 by omega), h.st (show q < 4 by omega) (show p - 1 < 8 by omega)]
    rw [if_neg hz]
    rcases h14 (p - 1) (by omega) with h0 | h1
    · rw [h0, if_pos rfl, if_neg (by decide)]
    · rw [h1, if_neg (by decide), if_pos rfl]
theorem t_beh (h : MD M D) (ok : DOK n D) {p q : Nat} (hp : p < n) (hq : q < 2) : f_X11_beside M 250 (nI q) (nI p) (nI p + 1) = some (sBeh D n (4 + 2 * q) p, M) := by
  obtain ⟨⟨hn, h2, h8⟩, _, _, ⟨h14, _⟩, _⟩ := ok
  unfold f_X11_beside sBeh
  rw [nI_1, h.p, hn]
  by_cases hz : p + 1 = n
  · subst hz
    rw [if_neg (i_lt0 (by omega)), if_neg (nI_nlt (Nat.le_refl _) (by omega)), if_pos rfl]
  · have hq1 := i_lt0 (show q < 100000 by omega)
    have hq2 := i_cl (show q < 100000 by omega)
    have hq4 : ¬ 4 ≤ q := by omega
    have hp1 := i_lt0 (show p < 100000 by omega)
    have hp2 := i_cl (show p < 100000 by omega)
    have hp3 : ¬ 8 ≤ p := by omega
    have hr1 := i_lt0 (show p + 1 < 100000 by omega)
    have hr2 := i_cl (show p + 1 < 100000 by omega)
    have hr3 : ¬ 8 ≤ p + 1 := by omega
    have hr4 : nI (p + 1) < nI n := nI_lt (by omega) (by omega)
    have hr5 : ¬ nI (p + 1) ≤ nI p := i_nle (by omega) (by omega)
    unfold f_X11_beside_b28
    simp only [hr1, hr2, hr3, hr4, hr5, hq1, hq2, hq4, hp1, hp2, hp3, m_25, l_273, m_22, l_262, r_262 q (by omega), l_263 q (by omega), or_self, not_false_eq_true, ↓reduceIte, h.a14 (show p < 8 by omega), h.st (show q < 4 by omega) (show p < 8 by omega), h.st (show q < 4 by omega) (show p + 1 < 8 by omega)]
    rw [if_neg hz]
    rcases h14 p (by omega) with h0 | h1
    · rw [h0, if_pos rfl, if_neg (by decide)]
    · rw [h1, if_neg (by decide), if_pos rfl]
theorem t_pull0 (h : MD M D) (ok : DOK n D) {p : Nat} (hp : p < n) : f_X11_pulls M 250 0 (nI p) = some (sPull D n 4 p (D 2 1) (D 2 3), M) := by
  have hp1 := i_lt0 (show p < 100000 by have := ok.1.2.2; omega)
  have hp2 := i_cl (show p < 100000 by have := ok.1.2.2; omega)
  have hp3 : ¬ 8 ≤ p := by have := ok.1.2.2; omega
  have e0 : (1 : Int32) + 0 = 1 := by decide
  have r0 : gRf 262 0 = 263 := r_262 0 (by omega)
  have l0 : gN 263 = 8 := l_263 0 (by omega)
  have b1 := t_bef h ok hp (q := 0) (by omega)
  have b2 := t_beh h ok hp (q := 0) (by omega)
  rw [nI_0] at b1 b2
  unfold f_X11_pulls sPull
  simp only [hp1, hp2, hp3, e0, m_22, l_262, r0, l0, m_21, l_261, ci_0, zi_0, ci_1, zi_1, ci_3, zi_3, Nat.reduceLeDiff, or_self, not_false_eq_true, ↓reduceIte, b1, b2, Option.bind_some, h.n (show 1 < 10 by omega), h.n (show 3 < 10 by omega), h.a4 (show p < 8 by have := ok.1.2.2; omega)]
theorem t_pull1 (h : MD M D) (ok : DOK n D) {p : Nat} (hp : p < n) : f_X11_pulls M 250 1 (nI p) = some (sPull D n 6 p (D 2 2) (if D 12 p = 2 then D 2 8 else 0), M) := by
  have hp8 : p < 8 := by have := ok.1.2.2; omega
  have hp1 := i_lt0 (show p < 100000 by omega)
  have hp2 := i_cl (show p < 100000 by omega)
  have hp3 : ¬ 8 ≤ p := by omega
  have e0 : (1 : Int32) + 1 = 2 := by decide
  have e1 : ¬ (1 : Int32) = 0 := by decide
  have r0 : gRf 262 1 = 264 := r_262 1 (by omega)
  have l0 : gN 264 = 8 := l_263 1 (by omega)
  have b1 := t_bef h ok hp (q := 1) (by omega)
  have b2 := t_beh h ok hp (q := 1) (by omega)
  rw [show nI 1 = 1 from rfl] at b1 b2
  unfold f_X11_pulls sPull
  simp only [hp1, hp2, hp3, e0, e1, m_22, l_262, r0, l0, m_21, l_261, m_24, l_272, ci_1, zi_1, ci_2, zi_2, ci_8, zi_8, Nat.reduceLeDiff, or_self, not_false_eq_true, ↓reduceIte, b1, b2, Option.bind_some, h.n (show 2 < 10 by omega), h.n (show 8 < 10 by omega), h.a6 hp8, h.a12 hp8]
  by_cases hz : D 12 p = 2
  · rw [if_pos hz, if_pos hz]
  · rw [if_neg hz, if_neg hz, Int32.zero_mul, Int32.sub_zero]
theorem t_reach (M : Mem) (v : Int32) : f_X11_within M v (-1000000) 1000000 = some (sReach v, M) := by
  unfold f_X11_within sReach
  by_cases h1 : (-1000000) ≤ v
  · rw [if_pos h1, if_pos h1]
    split <;> rfl
  · rw [if_neg h1, if_neg h1]
    have h2 : v ≤ 1000000 := Int32.le_of_lt (Int32.lt_trans (Int32.not_le.mp h1) (by decide))
    rw [if_pos h2]
theorem mx_1 {m : Int32} (h : 1 ≤ m) : (if 1 < m then m else 1) = m ∧ ¬ m = 0 := by
  constructor
  · by_cases h1 : 1 < m
    · rw [if_pos h1]
    · rw [if_neg h1]
      exact Int32.le_antisymm h (Int32.not_lt.mp h1)
  · intro e
    rw [e] at h
    revert h
    decide
end MTICK
