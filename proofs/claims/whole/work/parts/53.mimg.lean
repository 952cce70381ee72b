/-! Images on the model's side: one row of 320 places. -/
section MIMG
variable {M : Mem} {R : Dk} {K : Nat}
/-- moves, writing: the value goes to the spot and comes back -/
theorem y_put (hK : K < 3) {p : Nat} (hp : p < 320) (h41 : M 250 41 = nI p) (v : Int32) : f_X11_moves M 250 (nI K) v 0 = some (v, mU (mU M (328 + K) p v) 250 41 (nI (p + 1))) := by
  have hK1 := i_lt0 (show K < 100000 by omega)
  have hK2 := i_cl (show K < 100000 by omega)
  have hK3 : ¬ 3 ≤ K := by omega
  have hp1 := i_lt0 (show p < 100000 by omega)
  have hp2 := i_cl (show p < 100000 by omega)
  have hp3 : ¬ 320 ≤ p := by omega
  have e1 : mU M (328 + K) p v 250 41 = nI p := by rw [u_ne (by omega)]; exact h41
  have e2 : ∀ (X : Mem) (y : Int32), mU X 250 41 y 250 41 = y := fun X y => by rw [mU_at, if_pos ⟨rfl, rfl⟩]
  have e3 : mU (mU M (328 + K) p v) 250 41 (nI (p + 1)) (328 + K) p = v := by rw [u_ne (by omega), mU_at, if_pos ⟨rfl, rfl⟩]
  unfold f_X11_moves f_X11_moves_b16
  simp only [hK1, hK2, hK3, hp1, hp2, hp3, h41, m_40, l_327, r_327 K hK, l_328 K hK, or_self, not_false_eq_true, ↓reduceIte, e1, e2, nI_1, nI_pred, e3]
/-- moves, reading -/
theorem y_get (hK : K < 3) {p : Nat} (hp : p < 320) (h41 : M 250 41 = nI p) (v : Int32) : f_X11_moves M 250 (nI K) v 1 = some (M (328 + K) p, mU M 250 41 (nI (p + 1))) := by
  have hK1 := i_lt0 (show K < 100000 by omega)
  have hK2 := i_cl (show K < 100000 by omega)
  have hK3 : ¬ 3 ≤ K := by omega
  have hp1 := i_lt0 (show p < 100000 by omega)
  have hp2 := i_cl (show p < 100000 by omega)
  have hp3 : ¬ 320 ≤ p := by omega
  have e2 : ∀ (X : Mem) (y : Int32), mU X 250 41 y 250 41 = y := fun X y => by rw [mU_at, if_pos ⟨rfl, rfl⟩]
  have e3 : mU M 250 41 (nI (p + 1)) (328 + K) p = M (328 + K) p := by rw [u_ne (by omega)]
  unfold f_X11_moves f_X11_moves_b16
  rw [if_neg (by decide)]
  simp only [hK1, hK2, hK3, hp1, hp2, hp3, h41, m_40, l_327, r_327 K hK, l_328 K hK, or_self, not_false_eq_true, ↓reduceIte, e2, nI_1, nI_pred, e3]
/-- a row moved there -/
theorem y_putR (hK : K < 3) {p a n : Nat} (hp : p + n ≤ 320) (ha : a ≠ 250 ∧ a ≠ 328 + K) (hn : gN a = n) (h41 : M 250 41 = nI p) : tot (f_X11_movesRow M 250 (nI K) a 0) (fun _ M' => M' 250 41 = nI (p + n) ∧ (∀ k, k < n → M' (328 + K) (p + k) = M a k) ∧ (∀ j, j < p ∨ p + n ≤ j → M' (328 + K) j = M (328 + K) j) ∧ (∀ b, b ≠ 250 → b ≠ 328 + K → ∀ j, M' b j = M b j) ∧ ∀ j, j ≠ 41 → M' 250 j = M 250 j) := by
  unfold f_X11_movesRow
  refine tot.loopFU (σ := Int32 × Mem) (fun m s => f_X11_movesRow_h3 250 (nI K) a 0 m s.1 s.2) n (fun k s => s.1 = nI k ∧ s.2 250 41 = nI (p + k) ∧ (∀ j, j < k → s.2 (328 + K) (p + j) = M a j) ∧ (∀ j, j < p ∨ p + k ≤ j → s.2 (328 + K) j = M (328 + K) j) ∧ (∀ b, b ≠ 250 → b ≠ 328 + K → ∀ j, s.2 b j = M b j) ∧ ∀ j, j ≠ 41 → s.2 250 j = M 250 j) _ (by omega) (0, M) ⟨rfl, h41, fun j hj => by omega, fun _ _ => rfl, fun _ _ _ _ => rfl, fun _ _ => rfl⟩ ?_ ?_
  · rintro m k ⟨x, M1⟩ hk ⟨hx, a1, a2, a3, a4, a5⟩ hnext
    dsimp only at hx a1 a2 a3 a4 a5
    subst hx
    have hk1 := i_lt0 (show k < 100000 by omega)
    have hk2 := i_cl (show k < 100000 by omega)
    have hk3 : ¬ n ≤ k := by omega
    have hk4 := i_nle hk (show n < 100000 by omega)
    show tot (f_X11_movesRow_h3 250 (nI K) a 0 (m + 1) (nI k) M1) _
    rw [f_X11_movesRow_h3]
    simp only [hn, hk1, hk2, hk3, hk4, or_self, not_false_eq_true, ↓reduceIte, y_put hK (show p + k < 320 by omega) a1, Option.bind_some, nI_1]
    refine hnext (nI (k + 1), mU (mU (mU M1 (328 + K) (p + k) (M1 a k)) 250 41 (nI (p + k + 1))) a k (M1 a k)) ⟨rfl, ?_, fun j hj => ?_, fun j hj => ?_, fun b h1 h2 j => ?_, fun j hj => ?_⟩ <;> dsimp only
    · rw [u_ne (Ne.symm ha.1), mU_at, if_pos ⟨rfl, rfl⟩, Nat.add_assoc]
    · rw [u_ne (Ne.symm ha.2), u_ne (by omega), mU_at]
      by_cases hz : j = k
      · rw [if_pos ⟨rfl, by omega⟩, hz]; exact a4 a ha.1 ha.2 k
      · rw [if_neg (by omega)]; exact a2 j (by omega)
    · rw [u_ne (Ne.symm ha.2), u_ne (by omega), mU_at, if_neg (by omega)]; exact a3 j (by omega)
    · rw [mU_at]
      by_cases hz : b = a ∧ j = k
      · rw [if_pos hz, hz.1, hz.2]; exact a4 a ha.1 ha.2 k
      · rw [if_neg hz, u_ne h1, u_ne h2]; exact a4 b h1 h2 j
    · rw [u_ne (Ne.symm ha.1), mU_at, if_neg (fun z => hj z.2), u_ne (by omega)]; exact a5 j hj
  · rintro m ⟨x, M1⟩ ⟨hx, a1, a2, a3, a4, a5⟩
    dsimp only at hx a1 a2 a3 a4 a5
    subst hx
    show tot (f_X11_movesRow_h3 250 (nI K) a 0 (m + 1) (nI n) M1) _
    rw [f_X11_movesRow_h3, hn, if_pos (i_le (Nat.le_refl _) (by omega))]
    exact tot.ret ⟨a1, a2, a3, a4, a5⟩
/-- a row moved back -/
theorem y_getR (hK : K < 3) {p a n : Nat} (hp : p + n ≤ 320) (ha : a ≠ 250 ∧ a ≠ 328 + K) (hn : gN a = n) (h41 : M 250 41 = nI p) : tot (f_X11_movesRow M 250 (nI K) a 1) (fun _ M' => M' 250 41 = nI (p + n) ∧ (∀ k, k < n → M' a k = M (328 + K) (p + k)) ∧ (∀ b, b ≠ 250 → b ≠ a → M' b = M b) ∧ ∀ j, j ≠ 41 → M' 250 j = M 250 j) := by
  unfold f_X11_movesRow
  refine tot.loopFU (σ := Int32 × Mem) (fun m s => f_X11_movesRow_h3 250 (nI K) a 1 m s.1 s.2) n (fun k s => s.1 = nI k ∧ s.2 250 41 = nI (p + k) ∧ (∀ j, j < k → s.2 a j = M (328 + K) (p + j)) ∧ (∀ b, b ≠ 250 → b ≠ a → s.2 b = M b) ∧ ∀ j, j ≠ 41 → s.2 250 j = M 250 j) _ (by omega) (0, M) ⟨rfl, h41, fun j hj => by omega, fun _ _ _ => rfl, fun _ _ => rfl⟩ ?_ ?_
  · rintro m k ⟨x, M1⟩ hk ⟨hx, a1, a2, a4, a5⟩ hnext
    dsimp only at hx a1 a2 a4 a5
    subst hx
    have hk1 := i_lt0 (show k < 100000 by omega)
    have hk2 := i_cl (show k < 100000 by omega)
    have hk3 : ¬ n ≤ k := by omega
    have hk4 := i_nle hk (show n < 100000 by omega)
    show tot (f_X11_movesRow_h3 250 (nI K) a 1 (m + 1) (nI k) M1) _
    rw [f_X11_movesRow_h3]
    simp only [hn, hk1, hk2, hk3, hk4, or_self, not_false_eq_true, ↓reduceIte, y_get hK (show p + k < 320 by omega) a1, Option.bind_some, nI_1]
    refine hnext (nI (k + 1), mU (mU M1 250 41 (nI (p + k + 1))) a k (M1 (328 + K) (p + k))) ⟨rfl, ?_, fun j hj => ?_, fun b h1 h2 => ?_, fun j hj => ?_⟩ <;> dsimp only
    · rw [u_ne (Ne.symm ha.1), mU_at, if_pos ⟨rfl, rfl⟩, Nat.add_assoc]
    · rw [mU_at]
      by_cases hz : j = k
      · rw [if_pos ⟨rfl, hz⟩, hz, a4 _ (by omega) (Ne.symm ha.2)]
      · rw [if_neg (fun z => hz z.2), u_ne ha.1]; exact a2 j (by omega)
    · rw [u_ne h2, u_ne h1]; exact a4 b h1 h2
    · rw [u_ne (Ne.symm ha.1), mU_at, if_neg (fun z => hj z.2)]; exact a5 j hj
  · rintro m ⟨x, M1⟩ ⟨hx, a1, a2, a4, a5⟩
    dsimp only at hx a1 a2 a4 a5
    subst hx
    show tot (f_X11_movesRow_h3 250 (nI K) a 1 (m + 1) (nI n) M1) _
    rw [f_X11_movesRow_h3, hn, if_pos (i_le (Nat.le_refl _) (by omega))]
    exact tot.ret ⟨a1, a2, a4, a5⟩
/-- where place p of an image comes from -/
def lcA (p : Nat) : Nat := if p < 6 then 250 else if p < 16 then 261 else if p < 24 then 272 else if p < 56 then 263 + (p - 24) / 8 else if p < 64 then 273 else if p < 144 then 283 + (p - 64) / 4 else if p < 159 then 304 + (p - 144) / 3 else if p < 225 then 310 + (p - 159) / 11 else 317 + (p - 225) / 3
def lcK (p : Nat) : Nat := if p < 6 then (if p < 2 then 19 + p else 29 + p) else if p < 16 then p - 6 else if p < 24 then p - 16 else if p < 56 then (p - 24) % 8 else if p < 64 then p - 56 else if p < 144 then (p - 64) % 4 else if p < 159 then (p - 144) % 3 else if p < 225 then (p - 159) % 11 else (p - 225) % 3
theorem MR.lc (h : MR M R) {p : Nat} (hp : p < 255) : M (lcA p) (lcK p) = sImg R p := by
  obtain ⟨hD, ⟨a1, a2, a3, a4⟩, a5, a6, a7, a8⟩ := h
  unfold lcA lcK sImg
  by_cases z0 : p < 6
  · simp only [z0, ↓reduceIte]
    have : p = 0 ∨ p = 1 ∨ p = 2 ∨ p = 3 ∨ p = 4 ∨ p = 5 := by omega
    rcases this with rfl | rfl | rfl | rfl | rfl | rfl
    · exact hD.p
    · exact hD.t
    · exact a1
    · exact a2
    · exact a3
    · exact a4
  have y0 : ¬ p = 0 := by omega
  have y1 : ¬ p = 1 := by omega
  have y2 : ¬ p = 2 := by omega
  have y3 : ¬ p = 3 := by omega
  have y4 : ¬ p = 4 := by omega
  have y5 : ¬ p = 5 := by omega
  by_cases z1 : p < 16
  · simp only [y0, y1, y2, y3, y4, y5, z0, z1, ↓reduceIte]; exact hD.n (k := p - 6) (by omega)
  by_cases z2 : p < 24
  · simp only [y0, y1, y2, y3, y4, y5, z0, z1, z2, ↓reduceIte]; exact hD.a12 (k := p - 16) (by omega)
  by_cases z3 : p < 56
  · simp only [y0, y1, y2, y3, y4, y5, z0, z1, z2, z3, ↓reduceIte]
    have := hD.st (q := (p - 24) / 8) (k := (p - 24) % 8) (by omega) (by omega)
    rw [this]
    unfold rD
    rw [show 1 + (4 + 2 * ((p - 24) / 8)) = 5 + 2 * ((p - 24) / 8) by omega]
  by_cases z4 : p < 64
  · simp only [y0, y1, y2, y3, y4, y5, z0, z1, z2, z3, z4, ↓reduceIte]; exact hD.a14 (k := p - 56) (by omega)
  by_cases z5 : p < 144
  · simp only [y0, y1, y2, y3, y4, y5, z0, z1, z2, z3, z4, z5, ↓reduceIte]
    obtain ⟨b0, b1, b2, b3⟩ := a5 ((p - 64) / 4) (by omega)
    have hz : (p - 64) % 4 = 0 ∨ (p - 64) % 4 = 1 ∨ (p - 64) % 4 = 2 ∨ (p - 64) % 4 = 3 := by omega
    rcases hz with h | h | h | h
    · rw [h]; exact b0
    · rw [h]; exact b1
    · rw [h]; exact b2
    · rw [h]; exact b3
  by_cases z6 : p < 159
  · simp only [y0, y1, y2, y3, y4, y5, z0, z1, z2, z3, z4, z5, z6, ↓reduceIte]
    obtain ⟨b0, b1, b2⟩ := a6 ((p - 144) / 3) (by omega)
    have hz : (p - 144) % 3 = 0 ∨ (p - 144) % 3 = 1 ∨ (p - 144) % 3 = 2 := by omega
    rcases hz with h | h | h
    · rw [h]; exact b0
    · rw [h]; exact b1
    · rw [h]; exact b2
  by_cases z7 : p < 225
  · simp only [y0, y1, y2, y3, y4, y5, z0, z1, z2, z3, z4, z5, z6, z7, ↓reduceIte]
    obtain ⟨b0, b1⟩ := a7 ((p - 159) / 11) (by omega)
    by_cases hz : (p - 159) % 11 = 10
    · rw [if_pos hz, hz]; exact b0
    · rw [if_neg hz]; exact b1 ((p - 159) % 11) (by omega)
  · simp only [y0, y1, y2, y3, y4, y5, z0, z1, z2, z3, z4, z5, z6, z7, ↓reduceIte]
    obtain ⟨b0, b1, b2⟩ := a8 ((p - 225) / 3) (by omega)
    have hz : (p - 225) % 3 = 0 ∨ (p - 225) % 3 = 1 ∨ (p - 225) % 3 = 2 := by omega
    rcases hz with h | h | h
    · rw [h]; exact b0
    · rw [h]; exact b1
    · rw [h]; exact b2
theorem lc_e {p a k : Nat} (ha : lcA p = a) (hk : lcK p = k) (h : ∀ p, p < 255 → M (lcA p) (lcK p) = sImg R p) (hp : p < 255) : M a k = sImg R p := by
  have := h p hp
  rw [ha, hk] at this
  exact this
theorem MR.of (h : ∀ p, p < 255 → M (lcA p) (lcK p) = sImg R p) : MR M R := by
  refine ⟨⟨⟨h 0 (by omega), h 1 (by omega)⟩, fun o k ho hi => ?_⟩, ⟨h 2 (by omega), h 3 (by omega), h 4 (by omega), h 5 (by omega)⟩, fun f hf => ?_, fun m hm => ?_, fun b hb => ?_, fun p hp => ?_⟩
  · unfold inD at hi
    rcases hi with ⟨rfl, hk⟩ | ⟨rfl, hk⟩ | ⟨hi, hk⟩
    · omega
    · have := lc_e (p := 6 + k) (a := 261) (k := k) (by unfold lcA; rw [if_neg (by omega), if_pos (by omega)]) (by unfold lcK; rw [if_neg (by omega), if_pos (by omega)]; omega) h (by omega)
      refine this.trans ?_
      unfold sImg
      rw [if_neg (by omega), if_neg (by omega), if_neg (by omega), if_neg (by omega), if_neg (by omega), if_neg (by omega), if_pos (by omega), show 6 + k - 6 = k by omega]
      rfl
    · rcases hi with rfl | rfl | rfl | rfl | rfl | rfl
      · exact (lc_e (p := 24 + k) (a := 263) (k := k) (by unfold lcA; rw [if_neg (by omega), if_neg (by omega), if_neg (by omega), if_pos (by omega)]; omega) (by unfold lcK; rw [if_neg (by omega), if_neg (by omega), if_neg (by omega), if_pos (by omega)]; omega) h (by omega)).trans (by
          unfold sImg
          rw [if_neg (by omega), if_neg (by omega), if_neg (by omega), if_neg (by omega), if_neg (by omega), if_neg (by omega), if_neg (by omega), if_neg (by omega), if_pos (by omega), show (24 + k - 24) / 8 = 0 by omega, show (24 + k - 24) % 8 = k by omega]
          rfl)
      · exact (lc_e (p := 32 + k) (a := 264) (k := k) (by unfold lcA; rw [if_neg (by omega), if_neg (by omega), if_neg (by omega), if_pos (by omega)]; omega) (by unfold lcK; rw [if_neg (by omega), if_neg (by omega), if_neg (by omega), if_pos (by omega)]; omega) h (by omega)).trans (by
          unfold sImg
          rw [if_neg (by omega), if_neg (by omega), if_neg (by omega), if_neg (by omega), if_neg (by omega), if_neg (by omega), if_neg (by omega), if_neg (by omega), if_pos (by omega), show (32 + k - 24) / 8 = 1 by omega, show (32 + k - 24) % 8 = k by omega]
          rfl)
      · exact (lc_e (p := 40 + k) (a := 265) (k := k) (by unfold lcA; rw [if_neg (by omega), if_neg (by omega), if_neg (by omega), if_pos (by omega)]; omega) (by unfold lcK; rw [if_neg (by omega), if_neg (by omega), if_neg (by omega), if_pos (by omega)]; omega) h (by omega)).trans (by
          unfold sImg
          rw [if_neg (by omega), if_neg (by omega), if_neg (by omega), if_neg (by omega), if_neg (by omega), if_neg (by omega), if_neg (by omega), if_neg (by omega), if_pos (by omega), show (40 + k - 24) / 8 = 2 by omega, show (40 + k - 24) % 8 = k by omega]
          rfl)
      · exact (lc_e (p := 48 + k) (a := 266) (k := k) (by unfold lcA; rw [if_neg (by omega), if_neg (by omega), if_neg (by omega), if_pos (by omega)]; omega) (by unfold lcK; rw [if_neg (by omega), if_neg (by omega), if_neg (by omega), if_pos (by omega)]; omega) h (by omega)).trans (by
          unfold sImg
          rw [if_neg (by omega), if_neg (by omega), if_neg (by omega), if_neg (by omega), if_neg (by omega), if_neg (by omega), if_neg (by omega), if_neg (by omega), if_pos (by omega), show (48 + k - 24) / 8 = 3 by omega, show (48 + k - 24) % 8 = k by omega]
          rfl)
      · exact (lc_e (p := 16 + k) (a := 272) (k := k) (by unfold lcA; rw [if_neg (by omega), if_neg (by omega), if_pos (by omega)]) (by unfold lcK; rw [if_neg (by omega), if_neg (by omega), if_pos (by omega)]; omega) h (by omega)).trans (by
          unfold sImg
          rw [if_neg (by omega), if_neg (by omega), if_neg (by omega), if_neg (by omega), if_neg (by omega), if_neg (by omega), if_neg (by omega), if_pos (by omega), show 16 + k - 16 = k by omega]
          rfl)
      · exact (lc_e (p := 56 + k) (a := 273) (k := k) (by unfold lcA; rw [if_neg (by omega), if_neg (by omega), if_neg (by omega), if_neg (by omega), if_pos (by omega)]) (by unfold lcK; rw [if_neg (by omega), if_neg (by omega), if_neg (by omega), if_neg (by omega), if_pos (by omega)]; omega) h (by omega)).trans (by
          unfold sImg
          rw [if_neg (by omega), if_neg (by omega), if_neg (by omega), if_neg (by omega), if_neg (by omega), if_neg (by omega), if_neg (by omega), if_neg (by omega), if_neg (by omega), if_pos (by omega), show 56 + k - 56 = k by omega]
          rfl)
  · have hg : ∀ z, z < 4 → M (283 + f) z = R (20 + 2 * z) f := fun z hz => (lc_e (p := 64 + 4 * f + z) (a := 283 + f) (k := z) (by unfold lcA; rw [if_neg (by omega), if_neg (by omega), if_neg (by omega), if_neg (by omega), if_neg (by omega), if_pos (by omega)]; omega) (by unfold lcK; rw [if_neg (by omega), if_neg (by omega), if_neg (by omega), if_neg (by omega), if_neg (by omega), if_pos (by omega)]; omega) h (by omega)).trans (by
      unfold sImg
      rw [if_neg (by omega), if_neg (by omega), if_neg (by omega), if_neg (by omega), if_neg (by omega), if_neg (by omega), if_neg (by omega), if_neg (by omega), if_neg (by omega), if_neg (by omega), if_pos (by omega), show (64 + 4 * f + z - 64) % 4 = z by omega, show (64 + 4 * f + z - 64) / 4 = f by omega])
    exact ⟨hg 0 (by omega), hg 1 (by omega), hg 2 (by omega), hg 3 (by omega)⟩
  · have hg : ∀ z, z < 3 → M (304 + m) z = R (29 + 2 * z) m := fun z hz => (lc_e (p := 144 + 3 * m + z) (a := 304 + m) (k := z) (by unfold lcA; rw [if_neg (by omega), if_neg (by omega), if_neg (by omega), if_neg (by omega), if_neg (by omega), if_neg (by omega), if_pos (by omega)]; omega) (by unfold lcK; rw [if_neg (by omega), if_neg (by omega), if_neg (by omega), if_neg (by omega), if_neg (by omega), if_neg (by omega), if_pos (by omega)]; omega) h (by omega)).trans (by
      unfold sImg
      rw [if_neg (by omega), if_neg (by omega), if_neg (by omega), if_neg (by omega), if_neg (by omega), if_neg (by omega), if_neg (by omega), if_neg (by omega), if_neg (by omega), if_neg (by omega), if_neg (by omega), if_pos (by omega), show (144 + 3 * m + z - 144) % 3 = z by omega, show (144 + 3 * m + z - 144) / 3 = m by omega])
    exact ⟨hg 0 (by omega), hg 1 (by omega), hg 2 (by omega)⟩
  · have hg : ∀ z, z < 11 → M (310 + b) z = if z = 10 then R 36 b else R 38 (10 * b + z) := fun z hz => (lc_e (p := 159 + 11 * b + z) (a := 310 + b) (k := z) (by unfold lcA; rw [if_neg (by omega), if_neg (by omega), if_neg (by omega), if_neg (by omega), if_neg (by omega), if_neg (by omega), if_neg (by omega), if_pos (by omega)]; omega) (by unfold lcK; rw [if_neg (by omega), if_neg (by omega), if_neg (by omega), if_neg (by omega), if_neg (by omega), if_neg (by omega), if_neg (by omega), if_pos (by omega)]; omega) h (by omega)).trans (by
      unfold sImg
      rw [if_neg (by omega), if_neg (by omega), if_neg (by omega), if_neg (by omega), if_neg (by omega), if_neg (by omega), if_neg (by omega), if_neg (by omega), if_neg (by omega), if_neg (by omega), if_neg (by omega), if_neg (by omega), if_pos (by omega), show (159 + 11 * b + z - 159) % 11 = z by omega, show (159 + 11 * b + z - 159) / 11 = b by omega])
    exact ⟨by rw [hg 10 (by omega), if_pos rfl], fun k hk => by rw [hg k (by omega), if_neg (by omega)]⟩
  · have hg : ∀ z, z < 3 → M (317 + p) z = R (41 + 2 * z) p := fun z hz => (lc_e (p := 225 + 3 * p + z) (a := 317 + p) (k := z) (by unfold lcA; rw [if_neg (by omega), if_neg (by omega), if_neg (by omega), if_neg (by omega), if_neg (by omega), if_neg (by omega), if_neg (by omega), if_neg (by omega)]; omega) (by unfold lcK; rw [if_neg (by omega), if_neg (by omega), if_neg (by omega), if_neg (by omega), if_neg (by omega), if_neg (by omega), if_neg (by omega), if_neg (by omega)]; omega) h (by omega)).trans (by
      unfold sImg
      rw [if_neg (by omega), if_neg (by omega), if_neg (by omega), if_neg (by omega), if_neg (by omega), if_neg (by omega), if_neg (by omega), if_neg (by omega), if_neg (by omega), if_neg (by omega), if_neg (by omega), if_neg (by omega), if_neg (by omega), show (225 + 3 * p + z - 225) % 3 = z by omega, show (225 + 3 * p + z - 225) / 3 = p by omega])
    exact ⟨hg 0 (by omega), hg 1 (by omega), hg 2 (by omega)⟩
/-- moved so far: bk 0 there, 1 back -/
def Gm (M : Mem) (K : Nat) (R : Dk) (bk : Int32) (p : Nat) (M' : Mem) : Prop := M' 250 41 = nI p ∧
  ((bk = 0 ∧ (∀ j, j < p → M' (328 + K) j = sImg R j) ∧ (∀ b, b ≠ 250 → b ≠ 328 + K → M' b = M b) ∧ ∀ j, j ≠ 41 → M' 250 j = M 250 j) ∨
  (bk = 1 ∧ (∀ j, j < p → M' (lcA j) (lcK j) = sImg R j) ∧ (∀ b, b ≠ 250 → (b < 261 ∨ 326 < b) → M' b = M b) ∧ ∀ j, (j ≠ 19 ∧ j ≠ 20 ∧ j ≠ 31 ∧ j ≠ 32 ∧ j ≠ 33 ∧ j ≠ 34 ∧ j ≠ 41) → M' 250 j = M 250 j))
/-- what is given: there, the cells hold R; back, the image does -/
def Gh (M : Mem) (K : Nat) (R : Dk) (bk : Int32) : Prop := (bk = 0 ∧ ∀ p, p < 255 → M (lcA p) (lcK p) = sImg R p) ∨ (bk = 1 ∧ ∀ p, p < 255 → M (328 + K) p = sImg R p)
theorem lc250 {j : Nat} (h : lcA j = 250) : lcK j ≠ 41 := by
  intro z
  unfold lcA at h
  unfold lcK at z
  by_cases h6 : j < 6
  · rw [if_pos h6] at z; split at z <;> omega
  · rw [if_neg h6] at h
    repeat (first | omega | split at h)
theorem g_one (hK : K < 3) {bk : Int32} (hh : Gh M K R bk) {p sl : Nat} {X : Mem} (hG : Gm M K R bk p X) (hp : p < 255) (ha : lcA p = 250) (hk : lcK p = sl) (hs : sl ≠ 41 ∧ (sl = 19 ∨ sl = 20 ∨ (31 ≤ sl ∧ sl ≤ 34))) (hold : ∀ j, j < p → lcA j = 250 ∧ lcK j ≠ sl) : tot (f_X11_moves X 250 (nI K) (X 250 sl) bk) (fun r M2 => Gm M K R bk (p + 1) (mU M2 250 sl r)) := by
  obtain ⟨h41, hc⟩ := hG
  rcases hc with ⟨rfl, a1, a2, a3⟩ | ⟨rfl, a1, a2, a3⟩
  · rcases hh with ⟨_, hv⟩ | ⟨hbad, _⟩
    · have hval : X 250 sl = sImg R p := by
        rw [a3 sl hs.1]
        have := hv p hp
        rw [ha, hk] at this
        exact this
      refine tot.eq (y_put hK (by omega) h41 _) (tot.ret ⟨by rw [mU_at, if_neg (by omega), mU_at, if_pos ⟨rfl, rfl⟩], Or.inl ⟨rfl, fun j hj => ?_, fun b h1 h2 => ?_, fun j hj => ?_⟩⟩)
      · rw [u_ne (by omega), u_ne (by omega), mU_at]
        by_cases hz : j = p
        · rw [if_pos ⟨rfl, hz⟩, hz, hval]
        · rw [if_neg (fun z => hz z.2)]; exact a1 j (by omega)
      · rw [u_ne h1, u_ne h1, u_ne h2]; exact a2 b h1 h2
      · rw [mU_at]
        by_cases hz : j = sl
        · rw [if_pos ⟨rfl, hz⟩, hz]; exact a3 sl hs.1
        · rw [if_neg (fun z => hz z.2), mU_at, if_neg (fun z => hj z.2), u_ne (by omega)]; exact a3 j hj
    · exact absurd hbad (by decide)
  · rcases hh with ⟨hbad, _⟩ | ⟨_, hv⟩
    · exact absurd hbad (by decide)
    · have hval : X (328 + K) p = sImg R p := by rw [a2 _ (by omega) (by omega)]; exact hv p hp
      refine tot.eq (y_get hK (by omega) h41 _) (tot.ret ⟨by rw [mU_at, if_neg (by omega), mU_at, if_pos ⟨rfl, rfl⟩], Or.inr ⟨rfl, fun j hj => ?_, fun b h1 h2 => ?_, fun j hj => ?_⟩⟩)
      · by_cases hz : j = p
        · rw [hz, ha, hk, mU_at, if_pos ⟨rfl, rfl⟩, hval]
        · obtain ⟨c1, c2⟩ := hold j (by omega)
          have c3 := a1 j (by omega)
          have c4 := lc250 c1
          rw [c1] at c3 ⊢
          rw [mU_at, if_neg (fun z => c2 z.2), mU_at, if_neg (fun z => c4 z.2)]
          exact c3
      · rw [u_ne h1, u_ne h1]; exact a2 b h1 h2
      · rw [mU_at, if_neg (by omega), mU_at, if_neg (by omega)]; exact a3 j hj
theorem g_row (hK : K < 3) {bk : Int32} (hh : Gh M K R bk) {p a n : Nat} {X : Mem} (hG : Gm M K R bk p X) (hp : p + n ≤ 255) (ha : 261 ≤ a ∧ a ≤ 326) (hn : gN a = n) (hl : ∀ k, k < n → lcA (p + k) = a ∧ lcK (p + k) = k) (hold : ∀ j, j < p → lcA j ≠ a) : tot (f_X11_movesRow X 250 (nI K) a bk) (fun _ M2 => Gm M K R bk (p + n) M2) := by
  obtain ⟨h41, hc⟩ := hG
  rcases hc with ⟨rfl, a1, a2, a3⟩ | ⟨rfl, a1, a2, a3⟩
  · rcases hh with ⟨_, hv⟩ | ⟨hbad, _⟩
    · refine tot.mono (y_putR hK (p := p) (n := n) (by omega) ⟨by omega, by omega⟩ hn h41) ?_
      rintro r M2 ⟨b1, b2, b3, b4, b5⟩
      refine ⟨b1, Or.inl ⟨rfl, fun j hj => ?_, fun b h1 h2 => ?_, fun j hj => (b5 j hj).trans (a3 j hj)⟩⟩
      · by_cases hz : j < p
        · rw [b3 j (Or.inl hz)]; exact a1 j hz
        · have := b2 (j - p) (by omega)
          rw [show p + (j - p) = j by omega] at this
          rw [this, a2 a (by omega) (by omega)]
          obtain ⟨c1, c2⟩ := hl (j - p) (by omega)
          have c3 := hv (p + (j - p)) (by omega)
          rw [c1, c2, show p + (j - p) = j by omega] at c3
          exact c3
      · funext j
        rw [b4 b h1 h2 j, a2 b h1 h2]
    · exact absurd hbad (by decide)
  · rcases hh with ⟨hbad, _⟩ | ⟨_, hv⟩
    · exact absurd hbad (by decide)
    · refine tot.mono (y_getR hK (p := p) (n := n) (by omega) ⟨by omega, by omega⟩ hn h41) ?_
      rintro r M2 ⟨b1, b2, b4, b5⟩
      refine ⟨b1, Or.inr ⟨rfl, fun j hj => ?_, fun b h1 h2 => (b4 b h1 (by omega)).trans (a2 b h1 h2), fun j hj => (b5 j (by omega)).trans (a3 j hj)⟩⟩
      by_cases hz : j < p
      · by_cases h250 : lcA j = 250
        · have c4 := lc250 h250
          have := a1 j hz
          rw [h250] at this ⊢
          rw [b5 _ c4]
          exact this
        · rw [b4 _ h250 (hold j hz)]; exact a1 j hz
      · obtain ⟨c1, c2⟩ := hl (j - p) (by omega)
        rw [show p + (j - p) = j by omega] at c1 c2
        rw [c1, c2, b2 (j - p) (by omega), a2 _ (by omega) (by omega), show p + (j - p) = j by omega]
        exact hv j (by omega)
theorem lcr_283 (q : Nat) (hq : q < 20) (k : Nat) (hk : k < 4) : lcA (64 + 4 * q + k) = 283 + q ∧ lcK (64 + 4 * q + k) = k := by
  unfold lcA lcK
  constructor
  · repeat (first | omega | split)
  · repeat (first | omega | split)
theorem lcn_283 (q : Nat) (hq : q < 20) (j : Nat) (hj : j < 64 + 4 * q) : lcA j ≠ 283 + q := by
  unfold lcA
  repeat (first | omega | split)
theorem lcr_304 (q : Nat) (hq : q < 5) (k : Nat) (hk : k < 3) : lcA (144 + 3 * q + k) = 304 + q ∧ lcK (144 + 3 * q + k) = k := by
  unfold lcA lcK
  constructor
  · repeat (first | omega | split)
  · repeat (first | omega | split)
theorem lcn_304 (q : Nat) (hq : q < 5) (j : Nat) (hj : j < 144 + 3 * q) : lcA j ≠ 304 + q := by
  unfold lcA
  repeat (first | omega | split)
theorem lcr_310 (q : Nat) (hq : q < 6) (k : Nat) (hk : k < 11) : lcA (159 + 11 * q + k) = 310 + q ∧ lcK (159 + 11 * q + k) = k := by
  unfold lcA lcK
  constructor
  · repeat (first | omega | split)
  · repeat (first | omega | split)
theorem lcn_310 (q : Nat) (hq : q < 6) (j : Nat) (hj : j < 159 + 11 * q) : lcA j ≠ 310 + q := by
  unfold lcA
  repeat (first | omega | split)
theorem lcr_317 (q : Nat) (hq : q < 10) (k : Nat) (hk : k < 3) : lcA (225 + 3 * q + k) = 317 + q ∧ lcK (225 + 3 * q + k) = k := by
  unfold lcA lcK
  constructor
  · repeat (first | omega | split)
  · repeat (first | omega | split)
theorem lcn_317 (q : Nat) (hq : q < 10) (j : Nat) (hj : j < 225 + 3 * q) : lcA j ≠ 317 + q := by
  unfold lcA
  repeat (first | omega | split)
theorem im15 {k : Nat} (hk : k < 8) : sImg R (56 + k) = R 15 k := by
  unfold sImg
  rw [if_neg (by omega), if_neg (by omega), if_neg (by omega), if_neg (by omega), if_neg (by omega), if_neg (by omega), if_neg (by omega), if_neg (by omega), if_neg (by omega), if_pos (by omega), show 56 + k - 56 = k by omega]
theorem lc15 : ∀ k, k < 8 → lcA (56 + k) = 273 ∧ lcK (56 + k) = k := by decide
theorem lc15' : ∀ k, k < 8 → ∀ j, j < 56 + k → lcA j = 273 → lcK j < k := by decide
theorem g_torn (hK : K < 3) {bk : Int32} (hh : Gh M K R bk) (h15 : ∀ k, k < 8 → R 15 k = 0 ∨ R 15 k = 1) {k : Nat} (hk : k < 8) {X : Mem} (hG : Gm M K R bk (56 + k) X) (k136 : Int32 → Mem → Option (Int32 × Mem)) {Q : Int32 → Mem → Prop} (hnext : ∀ M2, Gm M K R bk (56 + k + 1) M2 → tot (k136 (nI (k + 1)) M2) Q) (v0 : Int32) (hv0 : bk = 0 → v0 = X 273 k) : tot (f_X11_movesAll_b163 250 (nI K) bk k136 273 (nI k) 250 (nI K) v0 (nI k) X) Q := by
  have hk1 := i_lt0 (show k < 100000 by omega)
  have hk2 := i_cl (show k < 100000 by omega)
  have hk3 : ¬ 8 ≤ k := by omega
  have nar0 : vp_nar .boolean 0 = 0 := by decide
  have nar1 : vp_nar .boolean 1 = 1 := by decide
  have hfin : ∀ M49, Gm M K R bk (56 + k + 1) (mU M49 273 k (R 15 k)) → tot (if R 15 k = 1 then f_X11_movesAll_b176 250 (nI K) bk k136 273 (nI k) 1 (nI k) M49 else f_X11_movesAll_b176 250 (nI K) bk k136 273 (nI k) 0 (nI k) M49) Q := fun M49 hg => by
    unfold f_X11_movesAll_b176
    simp only [hk1, hk2, hk3, l_273, or_self, not_false_eq_true, ↓reduceIte, nar0, nar1, nI_1]
    rcases h15 k hk with h | h
    · rw [h] at hg
      rw [h, if_neg (by decide)]
      exact hnext _ hg
    · rw [h] at hg
      rw [h, if_pos rfl]
      exact hnext _ hg
  obtain ⟨h41, hc⟩ := hG
  unfold f_X11_movesAll_b163
  rcases hc with ⟨rfl, a1, a2, a3⟩ | ⟨rfl, a1, a2, a3⟩
  · rcases hh with ⟨_, hv⟩ | ⟨hbad, _⟩
    · have hval : X 273 k = R 15 k := by
        rw [a2 273 (by omega) (by omega)]
        have := hv (56 + k) (by omega)
        rw [(lc15 k hk).1, (lc15 k hk).2, im15 hk] at this
        exact this
      rw [hv0 rfl, hval, y_put hK (by omega) h41, Option.bind_some]
      refine hfin _ ⟨by rw [u_ne (by omega), mU_at, if_pos ⟨rfl, rfl⟩], Or.inl ⟨rfl, fun j hj => ?_, fun b h1 h2 => ?_, fun j hj => ?_⟩⟩
      · rw [u_ne (by omega), u_ne (by omega), mU_at]
        by_cases hz : j = 56 + k
        · rw [if_pos ⟨rfl, hz⟩, hz, im15 hk]
        · rw [if_neg (fun z => hz z.2)]; exact a1 j (by omega)
      · funext j
        rw [mU_at]
        by_cases hz : b = 273 ∧ j = k
        · rw [if_pos hz, hz.1, hz.2, ← hval, a2 273 (by omega) (by omega)]
        · rw [if_neg hz, u_ne h1, u_ne h2, a2 b h1 h2]
      · rw [u_ne (by omega), mU_at, if_neg (fun z => hj z.2), u_ne (by omega)]; exact a3 j hj
    · exact absurd hbad (by decide)
  · rcases hh with ⟨hbad, _⟩ | ⟨_, hv⟩
    · exact absurd hbad (by decide)
    · have hval : X (328 + K) (56 + k) = R 15 k := by rw [a2 _ (by omega) (by omega), hv _ (by omega), im15 hk]
      rw [y_get hK (by omega) h41, Option.bind_some, hval]
      refine hfin _ ⟨by rw [u_ne (by omega), mU_at, if_pos ⟨rfl, rfl⟩], Or.inr ⟨rfl, fun j hj => ?_, fun b h1 h2 => ?_, fun j hj => ?_⟩⟩
      · by_cases hz : j = 56 + k
        · rw [hz, (lc15 k hk).1, (lc15 k hk).2, mU_at, if_pos ⟨rfl, rfl⟩, im15 hk]
        · have c := a1 j (by omega)
          by_cases h250 : lcA j = 250
          · have c4 := lc250 h250
            rw [h250] at c ⊢
            rw [u_ne (by omega), mU_at, if_neg (fun z => c4 z.2)]; exact c
          · rw [mU_at, if_neg (fun z => by have := lc15' k hk j (by omega) z.1; omega), u_ne h250]; exact c
      · rw [u_ne (by omega), u_ne h1]; exact a2 b h1 h2
      · rw [u_ne (by omega), mU_at, if_neg (by omega)]; exact a3 j hj
theorem g_all (hK : K < 3) {bk : Int32} (hh : Gh M K R bk) (hbk : bk = 0 ∨ bk = 1) (h15 : ∀ k, k < 8 → R 15 k = 0 ∨ R 15 k = 1) : tot (f_X11_movesAll M 250 (nI K) bk) (fun _ M' => Gm M K R bk 255 M') := by
  have g0 : Gm M K R bk 0 (mU M 250 41 0) := by
    refine ⟨by rw [mU_at, if_pos ⟨rfl, rfl⟩]; rfl, ?_⟩
    rcases hbk with h | h
    · exact Or.inl ⟨h, fun j hj => by omega, fun b h1 _ => u_ne h1, fun j hj => by rw [mU_at, if_neg (fun z => hj z.2)]⟩
    · exact Or.inr ⟨h, fun j hj => by omega, fun b h1 _ => u_ne h1, fun j hj => by rw [mU_at, if_neg (by omega)]⟩
  have hold : ∀ sl p, p ≤ 5 → (∀ j, j < p → lcK j ≠ sl) → ∀ j, j < p → lcA j = 250 ∧ lcK j ≠ sl := fun sl p hp h j hj => ⟨by unfold lcA; rw [if_pos (by omega)], h j hj⟩
  unfold f_X11_movesAll
  refine tot.bd (g_one hK hh g0 (by omega) rfl rfl (by decide) (hold 19 0 (by omega) (by decide))) ?_
  intro r1 M1 g1
  refine tot.bd (g_one hK hh g1 (sl := 20) (by omega) rfl rfl (by decide) (hold 20 1 (by omega) (by decide))) ?_
  intro r2 M2 g2
  refine tot.bd (g_one hK hh g2 (sl := 31) (by omega) rfl rfl (by decide) (hold 31 2 (by omega) (by decide))) ?_
  intro r3 M3 g3
  refine tot.bd (g_one hK hh g3 (sl := 32) (by omega) rfl rfl (by decide) (hold 32 3 (by omega) (by decide))) ?_
  intro r4 M4 g4
  refine tot.bd (g_one hK hh g4 (sl := 33) (by omega) rfl rfl (by decide) (hold 33 4 (by omega) (by decide))) ?_
  intro r5 M5 g5
  refine tot.bd (g_one hK hh g5 (sl := 34) (by omega) rfl rfl (by decide) (hold 34 5 (by omega) (by decide))) ?_
  intro r6 M6 g6
  have hrow : ∀ p a n, (∀ k, k < n → lcA (p + k) = a ∧ lcK (p + k) = k) → (∀ j, j < p → lcA j ≠ a) → 261 ≤ a ∧ a ≤ 326 → gN a = n → p + n ≤ 255 → ∀ X, Gm M K R bk p X → tot (f_X11_movesRow X 250 (nI K) a bk) (fun _ M2 => Gm M K R bk (p + n) M2) := fun p a n h1 h2 h3 h4 h5 X hX => g_row hK hh hX h5 h3 h4 h1 h2
  show tot ((f_X11_movesRow (mU M6 250 34 r6) 250 (nI K) (gRf 250 21) bk).bind _) _
  rw [m_21]
  refine tot.bd (hrow 6 261 10 (by decide) (by decide) (by omega) l_261 (by omega) _ g6) ?_
  intro r7 M7 g7
  show tot ((f_X11_movesRow M7 250 (nI K) (gRf 250 24) bk).bind _) _
  rw [m_24]
  refine tot.bd (hrow 16 272 8 (by decide) (by decide) (by omega) l_272 (by omega) _ g7) ?_
  intro r8 M8 g8
  refine tot.loopFU (σ := Int32 × Mem) (fun m s => f_X11_movesAll_h111 250 (nI K) bk m s.1 s.2) 4 (fun q s => s.1 = nI q ∧ Gm M K R bk (24 + 8 * q) s.2) _ (by omega) (0, M8) ⟨rfl, g8⟩ ?_ ?_
  · rintro m q ⟨x, X⟩ hq ⟨hx, hX⟩ hnext
    dsimp only at hx hX
    subst hx
    have hq1 := i_lt0 (show q < 100000 by omega)
    have hq2 := i_cl (show q < 100000 by omega)
    have hq3 : ¬ 4 ≤ q := by omega
    have hq4 : ¬ (4 : Int32) ≤ nI q := i_nle (b := 4) hq (by omega)
    show tot (f_X11_movesAll_h111 250 (nI K) bk (m + 1) (nI q) X) _
    rw [f_X11_movesAll_h111]
    simp only [hq1, hq2, hq3, hq4, m_22, l_262, r_262 q hq, or_self, not_false_eq_true, ↓reduceIte]
    have hd : ∀ q, q < 4 → (∀ k, k < 8 → lcA (24 + 8 * q + k) = 263 + q ∧ lcK (24 + 8 * q + k) = k) ∧ ∀ j, j < 24 + 8 * q → lcA j ≠ 263 + q := by decide
    refine tot.bd (hrow (24 + 8 * q) (263 + q) 8 (hd q hq).1 (hd q hq).2 (by omega) (l_263 q hq) (by omega) X hX) ?_
    intro r9 X9 g9
    show tot (f_X11_movesAll_h111 250 (nI K) bk m (nI q + 1) X9) _
    rw [nI_1]
    exact hnext (nI (q + 1), X9) ⟨rfl, g9⟩
  rintro m ⟨x, X⟩ ⟨hx, hX⟩
  dsimp only at hx hX
  subst hx
  show tot (f_X11_movesAll_h111 250 (nI K) bk (m + 1) (nI 4) X) _
  rw [f_X11_movesAll_h111, if_pos (show (4 : Int32) ≤ nI 4 by decide)]
  refine tot.loopFU (σ := Int32 × Mem) (fun m s => f_X11_movesAll_h136 250 (nI K) bk m s.1 s.2) 8 (fun q s => s.1 = nI q ∧ Gm M K R bk (56 + q) s.2) _ (by omega) (0, X) ⟨rfl, hX⟩ ?_ ?_
  · rintro m q ⟨x, X⟩ hq ⟨hx, hX⟩ hnext
    dsimp only at hx hX
    subst hx
    have hq1 := i_lt0 (show q < 100000 by omega)
    have hq2 := i_cl (show q < 100000 by omega)
    have hq3 : ¬ 8 ≤ q := by omega
    have hq4 : ¬ (8 : Int32) ≤ nI q := i_nle (b := 8) hq (by omega)
    show tot (f_X11_movesAll_h136 250 (nI K) bk (m + 1) (nI q) X) _
    rw [f_X11_movesAll_h136]
    simp only [hq1, hq2, hq3, hq4, m_25, l_273, or_self, not_false_eq_true, ↓reduceIte]
    have hgo : ∀ v0, (bk = 0 → v0 = X 273 q) → tot (f_X11_movesAll_b163 250 (nI K) bk (f_X11_movesAll_h136 250 (nI K) bk m) 273 (nI q) 250 (nI K) v0 (nI q) X) (fun _ M' => Gm M K R bk 255 M') := fun v0 hv0 => g_torn hK hh h15 hq hX _ (fun M2 hg => hnext (nI (q + 1), M2) ⟨rfl, hg⟩) v0 hv0
    have hval : bk = 0 → X 273 q = 0 ∨ X 273 q = 1 := fun hb => by
      obtain ⟨_, hc⟩ := hX
      rcases hc with ⟨_, a1, a2, a3⟩ | ⟨hbad, _⟩
      · rcases hh with ⟨_, hv⟩ | ⟨hbad, _⟩
        · have := hv (56 + q) (by omega)
          rw [(lc15 q hq).1, (lc15 q hq).2, im15 hq] at this
          rw [a2 273 (by omega) (by omega), this]
          exact h15 q hq
        · rw [hb] at hbad; exact absurd hbad (by decide)
      · rw [hb] at hbad; exact absurd hbad (by decide)
    by_cases hz : X 273 q = 0
    · rw [if_pos hz]
      exact hgo 0 (fun _ => hz.symm)
    · rw [if_neg hz]
      exact hgo 1 (fun hb => ((hval hb).resolve_left hz).symm)
  rintro m ⟨x, X⟩ ⟨hx, hX⟩
  dsimp only at hx hX
  subst hx
  show tot (f_X11_movesAll_h136 250 (nI K) bk (m + 1) (nI 8) X) _
  rw [f_X11_movesAll_h136, if_pos (show (8 : Int32) ≤ nI 8 by decide)]
  refine tot.loopFU (σ := Int32 × Mem) (fun m s => f_X11_movesAll_h185 250 (nI K) bk m s.1 s.2) 20 (fun q s => s.1 = nI q ∧ Gm M K R bk (64 + 4 * q) s.2) _ (by omega) (0, X) ⟨rfl, hX⟩ ?_ ?_
  · rintro m q ⟨x, X⟩ hq ⟨hx, hX⟩ hnext
    dsimp only at hx hX
    subst hx
    have hq1 := i_lt0 (show q < 100000 by omega)
    have hq2 := i_cl (show q < 100000 by omega)
    have hq3 : ¬ 20 ≤ q := by omega
    have hq4 : ¬ (20 : Int32) ≤ nI q := i_nle (b := 20) hq (by omega)
    show tot (f_X11_movesAll_h185 250 (nI K) bk (m + 1) (nI q) X) _
    rw [f_X11_movesAll_h185]
    simp only [hq1, hq2, hq3, hq4, m_36, l_282, r_282 q hq, or_self, not_false_eq_true, ↓reduceIte]
    refine tot.bd (hrow (64 + 4 * q) (283 + q) 4 (fun k hk => lcr_283 q hq k hk) (fun j hj => lcn_283 q hq j hj) (by omega) (l_283 q hq) (by omega) X hX) ?_
    intro r9 X9 g9
    show tot (f_X11_movesAll_h185 250 (nI K) bk m (nI q + 1) X9) _
    rw [nI_1]
    exact hnext (nI (q + 1), X9) ⟨rfl, g9⟩
  rintro m ⟨x, X⟩ ⟨hx, hX⟩
  dsimp only at hx hX
  subst hx
  show tot (f_X11_movesAll_h185 250 (nI K) bk (m + 1) (nI 20) X) _
  rw [f_X11_movesAll_h185, if_pos (show (20 : Int32) ≤ nI 20 by decide)]
  refine tot.loopFU (σ := Int32 × Mem) (fun m s => f_X11_movesAll_h211 250 (nI K) bk m s.1 s.2) 5 (fun q s => s.1 = nI q ∧ Gm M K R bk (144 + 3 * q) s.2) _ (by omega) (0, X) ⟨rfl, hX⟩ ?_ ?_
  · rintro m q ⟨x, X⟩ hq ⟨hx, hX⟩ hnext
    dsimp only at hx hX
    subst hx
    have hq1 := i_lt0 (show q < 100000 by omega)
    have hq2 := i_cl (show q < 100000 by omega)
    have hq3 : ¬ 5 ≤ q := by omega
    have hq4 : ¬ (5 : Int32) ≤ nI q := i_nle (b := 5) hq (by omega)
    show tot (f_X11_movesAll_h211 250 (nI K) bk (m + 1) (nI q) X) _
    rw [f_X11_movesAll_h211]
    simp only [hq1, hq2, hq3, hq4, m_37, l_303, r_303 q hq, or_self, not_false_eq_true, ↓reduceIte]
    refine tot.bd (hrow (144 + 3 * q) (304 + q) 3 (fun k hk => lcr_304 q hq k hk) (fun j hj => lcn_304 q hq j hj) (by omega) (l_304 q hq) (by omega) X hX) ?_
    intro r9 X9 g9
    show tot (f_X11_movesAll_h211 250 (nI K) bk m (nI q + 1) X9) _
    rw [nI_1]
    exact hnext (nI (q + 1), X9) ⟨rfl, g9⟩
  rintro m ⟨x, X⟩ ⟨hx, hX⟩
  dsimp only at hx hX
  subst hx
  show tot (f_X11_movesAll_h211 250 (nI K) bk (m + 1) (nI 5) X) _
  rw [f_X11_movesAll_h211, if_pos (show (5 : Int32) ≤ nI 5 by decide)]
  refine tot.loopFU (σ := Int32 × Mem) (fun m s => f_X11_movesAll_h236 250 (nI K) bk m s.1 s.2) 6 (fun q s => s.1 = nI q ∧ Gm M K R bk (159 + 11 * q) s.2) _ (by omega) (0, X) ⟨rfl, hX⟩ ?_ ?_
  · rintro m q ⟨x, X⟩ hq ⟨hx, hX⟩ hnext
    dsimp only at hx hX
    subst hx
    have hq1 := i_lt0 (show q < 100000 by omega)
    have hq2 := i_cl (show q < 100000 by omega)
    have hq3 : ¬ 6 ≤ q := by omega
    have hq4 : ¬ (6 : Int32) ≤ nI q := i_nle (b := 6) hq (by omega)
    show tot (f_X11_movesAll_h236 250 (nI K) bk (m + 1) (nI q) X) _
    rw [f_X11_movesAll_h236]
    simp only [hq1, hq2, hq3, hq4, m_38, l_309, r_309 q hq, or_self, not_false_eq_true, ↓reduceIte]
    refine tot.bd (hrow (159 + 11 * q) (310 + q) 11 (fun k hk => lcr_310 q hq k hk) (fun j hj => lcn_310 q hq j hj) (by omega) (l_310 q hq) (by omega) X hX) ?_
    intro r9 X9 g9
    show tot (f_X11_movesAll_h236 250 (nI K) bk m (nI q + 1) X9) _
    rw [nI_1]
    exact hnext (nI (q + 1), X9) ⟨rfl, g9⟩
  rintro m ⟨x, X⟩ ⟨hx, hX⟩
  dsimp only at hx hX
  subst hx
  show tot (f_X11_movesAll_h236 250 (nI K) bk (m + 1) (nI 6) X) _
  rw [f_X11_movesAll_h236, if_pos (show (6 : Int32) ≤ nI 6 by decide)]
  refine tot.loopFU (σ := Int32 × Mem) (fun m s => f_X11_movesAll_h262 250 (nI K) bk m s.1 s.2) 10 (fun q s => s.1 = nI q ∧ Gm M K R bk (225 + 3 * q) s.2) _ (by omega) (0, X) ⟨rfl, hX⟩ ?_ ?_
  · rintro m q ⟨x, X⟩ hq ⟨hx, hX⟩ hnext
    dsimp only at hx hX
    subst hx
    have hq1 := i_lt0 (show q < 100000 by omega)
    have hq2 := i_cl (show q < 100000 by omega)
    have hq3 : ¬ 10 ≤ q := by omega
    have hq4 : ¬ (10 : Int32) ≤ nI q := i_nle (b := 10) hq (by omega)
    show tot (f_X11_movesAll_h262 250 (nI K) bk (m + 1) (nI q) X) _
    rw [f_X11_movesAll_h262]
    simp only [hq1, hq2, hq3, hq4, m_39, l_316, r_316 q hq, or_self, not_false_eq_true, ↓reduceIte]
    refine tot.bd (hrow (225 + 3 * q) (317 + q) 3 (fun k hk => lcr_317 q hq k hk) (fun j hj => lcn_317 q hq j hj) (by omega) (l_317 q hq) (by omega) X hX) ?_
    intro r9 X9 g9
    show tot (f_X11_movesAll_h262 250 (nI K) bk m (nI q + 1) X9) _
    rw [nI_1]
    exact hnext (nI (q + 1), X9) ⟨rfl, g9⟩
  rintro m ⟨x, X⟩ ⟨hx, hX⟩
  dsimp only at hx hX
  subst hx
  show tot (f_X11_movesAll_h262 250 (nI K) bk (m + 1) (nI 10) X) _
  rw [f_X11_movesAll_h262, if_pos (show (10 : Int32) ≤ nI 10 by decide)]
  exact tot.ret hX
end MIMG
