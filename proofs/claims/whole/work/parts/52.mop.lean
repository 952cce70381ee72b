section MOPS
variable {M : Mem} {s : St}
theorem sBnd_w (M : Mem) {v lo hi : Int32} (h : lo ≤ hi) : f_X11_within M v lo hi = some (sBnd v lo hi, M) := by
  unfold f_X11_within sBnd
  by_cases h1 : lo ≤ v
  · rw [if_pos h1]
    by_cases h2 : v < hi
    · rw [if_pos (Int32.le_of_lt h2), if_pos h2]
      by_cases h3 : lo < v
      · rw [if_pos h3]
      · rw [if_neg h3, Int32.le_antisymm (Int32.not_lt.mp h3) h1]
    · rw [if_neg h2]
      have h4 : (if v ≤ hi then some (v, M) else some (hi, M)) = some (hi, M) := by
        by_cases h3 : v ≤ hi
        · rw [if_pos h3, Int32.le_antisymm h3 (Int32.not_lt.mp h2)]
        · rw [if_neg h3]
      rw [h4]
      by_cases h3 : lo < hi
      · rw [if_pos h3]
      · rw [if_neg h3, Int32.le_antisymm h (Int32.not_lt.mp h3)]
  · rw [if_neg h1]
    have h2 : v < lo := Int32.not_le.mp h1
    by_cases h3 : v < hi
    · rw [if_pos h3, if_neg (fun z => Int32.lt_irrefl (Int32.lt_trans z h2))]
    · rw [if_neg h3]
      exact absurd (Int32.lt_of_lt_of_le h2 h) h3
theorem sBnd_ge (v lo hi : Int32) : lo ≤ sBnd v lo hi := by
  unfold sBnd
  by_cases h : lo < (if v < hi then v else hi)
  · rw [if_pos h]; exact Int32.le_of_lt h
  · rw [if_neg h]; exact Int32.le_refl lo
theorem sBnd_le {v lo hi : Int32} (h : lo ≤ hi) : sBnd v lo hi ≤ hi := by
  unfold sBnd
  by_cases h1 : lo < (if v < hi then v else hi)
  · rw [if_pos h1]
    by_cases h2 : v < hi
    · rw [if_pos h2]; exact Int32.le_of_lt h2
    · rw [if_neg h2]; exact Int32.le_refl hi
  · rw [if_neg h1]; exact h
theorem lo_hi : ∀ q, q < 10 → sLst (nI q) ≤ sMst (nI q) := by decide +kernel
theorem DOK.make {n : Nat} {E R : Dk} (ok : DOK n E) {k q : Nat} (hq : R 29 k = nI q) (hq2 : q < 10) : DOK n (sMake R k E) := by
  obtain ⟨h1, ⟨h2, h3⟩, h4, h5, h6⟩ := ok
  have e : ∀ o j, o ≠ 2 → sMake R k E o j = E o j := fun o j ho => make_o ho
  have e2 : ∀ j, j ≠ q → sMake R k E 2 j = E 2 j := fun j hj => by
    unfold sMake
    rw [hq, i_cl (by omega), mU_at, if_neg (fun z => hj z.2)]
  have e3 : sMake R k E 2 q = sBnd (E 2 q + R 31 k) (sLst (nI q)) (sMst (nI q)) := by
    unfold sMake
    rw [hq, i_cl (by omega), mU_at, if_pos ⟨rfl, rfl⟩]
  refine ⟨⟨by rw [e 0 0 (by decide)]; exact h1.1, h1.2⟩, ⟨?_, ?_⟩, ⟨fun j hj => by rw [e 12 j (by decide)]; exact h4.1 j hj, fun j z1 z2 => by rw [e 12 j (by decide)]; exact h4.2 j z1 z2⟩, ⟨fun j hj => by rw [e 14 j (by decide)]; exact h5.1 j hj, fun j z1 z2 => by rw [e 14 j (by decide)]; exact h5.2 j z1 z2⟩, fun j z1 z2 => by rw [e 4 j (by decide), e 6 j (by decide), e 8 j (by decide), e 10 j (by decide)]; exact h6 j z1 z2⟩
  · by_cases hz : q = 0
    · subst hz
      rw [e3]
      exact Int32.le_trans (show (1 : Int32) ≤ sLst (nI 0) by decide) (sBnd_ge _ _ _)
    · rw [e2 0 (by omega)]; exact h2
  · by_cases hz : q = 9
    · subst hz
      rw [e3]
      exact Int32.le_trans (show (0 : Int32) ≤ sLst (nI 9) by decide) (sBnd_ge _ _ _)
    · rw [e2 9 (by omega)]; exact h3
theorem DOK.makes {n : Nat} {E R : Dk} (ok : DOK n E) (x : Int32) {c : Nat} (hq : ∀ k, k < c → ∃ q, q < 10 ∧ R 29 k = nI q) : DOK n (sMakes R x E c) := by
  induction c with
  | zero => exact ok
  | succ c ih =>
    have ih := ih (fun k hk => hq k (by omega))
    obtain ⟨q, hq1, hq2⟩ := hq c (by omega)
    unfold sMakes
    split
    · exact ih.make hq2 hq1
    · exact ih
/-- a mend made on the model's numbers -/
theorem m_make {E R : Dk} (h : MD M E) (hm : ∀ m, m < 5 → M (304 + m) 0 = R 29 m ∧ M (304 + m) 1 = R 31 m ∧ M (304 + m) 2 = R 33 m) {k q : Nat} (hk : k < 5) (hq : R 29 k = nI q) (hq2 : q < 10) : ∃ M', f_X11_makes M 250 (nI k) = some (0, M') ∧ MD M' (sMake R k E) ∧ ∀ b, b ≠ 261 → M' b = M b := by
  have hk1 := i_lt0 (show k < 100000 by omega)
  have hk2 := i_cl (show k < 100000 by omega)
  have hk3 : ¬ 5 ≤ k := by omega
  have hq1 := i_lt0 (show q < 100000 by omega)
  have hq3 := i_cl (show q < 100000 by omega)
  have hq4 : ¬ 10 ≤ q := by omega
  obtain ⟨a0, a1, _⟩ := hm k hk
  refine ⟨mU M 261 q (sBnd (E 2 q + R 31 k) (sLst (nI q)) (sMst (nI q))), ?_, ?_, fun b hb => u_ne hb⟩
  · unfold f_X11_makes
    simp only [hk1, hk2, hk3, m_37, l_303, r_303 k hk, l_304 k hk, ci_0, ci_1, zi_0, zi_1, Nat.reduceLeDiff, or_self, not_false_eq_true, ↓reduceIte, a0, a1, hq, hq1, hq3, hq4, m_21, l_261, m_low, m_hig, Option.bind_some, h.n hq2, sBnd_w M (lo_hi q hq2)]
  · have e := h.put (o := 2) (k := q) (by omega) (Or.inr (Or.inl ⟨rfl, hq2⟩)) (sBnd (E 2 q + R 31 k) (sLst (nI q)) (sMst (nI q)))
    unfold sMake
    rw [hq, i_cl (by omega)]
    exact e
theorem bit_01 (x : Int32) (k : Nat) : sBit x k = 0 ∨ sBit x k = 1 := by
  unfold sBit
  generalize x >>> (nI k &&& 31) = y
  have h : ∀ z : BitVec 32, z &&& 1#32 = 0#32 ∨ z &&& 1#32 = 1#32 := fun z => by
    cases hz : z.getLsbD 0 with
    | false =>
      left
      apply BitVec.eq_of_getLsbD_eq
      intro i hi
      rw [BitVec.getLsbD_and, BitVec.getLsbD_zero]
      by_cases h0 : i = 0
      · rw [h0, hz]; rfl
      · have : (1#32).getLsbD i = false := by
          have h32 : ∀ i, i < 32 → i ≠ 0 → (1#32).getLsbD i = false := by decide
          exact h32 i hi h0
        rw [this, Bool.and_false]
    | true =>
      right
      apply BitVec.eq_of_getLsbD_eq
      intro i hi
      rw [BitVec.getLsbD_and]
      by_cases h0 : i = 0
      · rw [h0, hz]; rfl
      · have : (1#32).getLsbD i = false := by
          have h32 : ∀ i, i < 32 → i ≠ 0 → (1#32).getLsbD i = false := by decide
          exact h32 i hi h0
        rw [this, Bool.and_false]
  rcases h y.toBitVec with h | h
  · left; exact Int32.toBitVec_inj.mp h
  · right; exact Int32.toBitVec_inj.mp h
/-- numbers kept: cell 280 -/
theorem m_keep {E : Dk} (h : MD M E) (l w : Int32) (k26 : Int32 → Int32 → Int32 → Mem → Option (Int32 × Mem)) (x3 x4 x5 x6 : Int32) {Q : Int32 → Mem → Prop} (hk : ∀ M', (∀ k, k < 10 → M' 280 k = E 2 k) → (∀ b, b ≠ 280 → M' b = M b) → tot (f_X11_mended_h135 250 l w k26 FU x3 x4 x5 x6 0 M') Q) : tot (f_X11_mended_h105 250 l w k26 FU x3 x4 x5 x6 0 M) Q := by
  refine tot.loopFU (σ := Int32 × Mem) (fun m s9 => f_X11_mended_h105 250 l w k26 m x3 x4 x5 x6 s9.1 s9.2) 10 (fun k s9 => s9.1 = nI k ∧ (∀ j, j < k → s9.2 280 j = E 2 j) ∧ ∀ b, b ≠ 280 → s9.2 b = M b) _ (by omega) (0, M) ⟨rfl, fun j hj => by omega, fun _ _ => rfl⟩ ?_ ?_
  · rintro m k ⟨x, M1⟩ hk ⟨hx, a1, a2⟩ hnext
    dsimp only at hx a1 a2
    subst hx
    have hk1 := i_lt0 (show k < 100000 by omega)
    have hk2 := i_cl (show k < 100000 by omega)
    have hk3 : ¬ 10 ≤ k := by omega
    have hk4 : ¬ (10 : Int32) ≤ nI k := i_nle (b := 10) hk (by omega)
    have hv : M1 261 k = E 2 k := by rw [a2 261 (by decide)]; exact h.n hk
    show tot (f_X11_mended_h105 250 l w k26 (m + 1) x3 x4 x5 x6 (nI k) M1) _
    rw [f_X11_mended_h105]
    simp only [hk1, hk2, hk3, hk4, m_21, l_261, m_29, l_280, or_self, not_false_eq_true, ↓reduceIte, hv, nI_1]
    refine hnext (nI (k + 1), mU M1 280 k (E 2 k)) ⟨rfl, fun j hj => ?_, fun b hb => ?_⟩ <;> dsimp only
    · rw [mU_at]
      by_cases hz : j = k
      · rw [if_pos ⟨rfl, hz⟩, hz]
      · rw [if_neg (fun z => hz z.2)]; exact a1 j (by omega)
    · rw [u_ne hb]; exact a2 b hb
  · rintro m ⟨x, M1⟩ ⟨hx, a1, a2⟩
    dsimp only at hx a1 a2
    subst hx
    show tot (f_X11_mended_h105 250 l w k26 (m + 1) x3 x4 x5 x6 (nI 10) M1) _
    rw [f_X11_mended_h105, if_pos (show (10 : Int32) ≤ nI 10 by decide)]
    exact hk M1 a1 a2
/-- numbers back -/
theorem m_numb {E D : Dk} (h : MD M E) (hk : ∀ k, k < 10 → M 280 k = D 2 k) (hE : ∀ o j, o ≠ 2 → E o j = D o j) (l w : Int32) (k26 : Int32 → Int32 → Int32 → Mem → Option (Int32 × Mem)) (x3 x4 x5 : Int32) {Q : Int32 → Mem → Prop} (hq : ∀ M', MD M' D → (∀ b, b ≠ 261 → M' b = M b) → tot (k26 x3 x4 (x5 + 1) M') Q) : tot (f_X11_mended_b183 250 l w k26 x3 x4 x5 M) Q := by
  unfold f_X11_mended_b183
  refine tot.loopFU (σ := Int32 × Mem) (fun m s9 => f_X11_mended_h186 250 l w k26 m x3 x4 x5 s9.1 s9.2) 10 (fun k s9 => s9.1 = nI k ∧ MD s9.2 (fun o j => if o = 2 ∧ j < k then D 2 j else E o j) ∧ ∀ b, b ≠ 261 → s9.2 b = M b) _ (by omega) (0, M) ⟨rfl, h.cg (fun o j _ => by rw [if_neg (by omega)]), fun _ _ => rfl⟩ ?_ ?_
  · rintro m k ⟨x, M1⟩ hk' ⟨hx, a1, a2⟩ hnext
    dsimp only at hx a1 a2
    subst hx
    have hk1 := i_lt0 (show k < 100000 by omega)
    have hk2 := i_cl (show k < 100000 by omega)
    have hk3 : ¬ 10 ≤ k := by omega
    have hk4 : ¬ (10 : Int32) ≤ nI k := i_nle (b := 10) hk' (by omega)
    have hv : M1 280 k = D 2 k := by rw [a2 280 (by decide)]; exact hk k hk'
    show tot (f_X11_mended_h186 250 l w k26 (m + 1) x3 x4 x5 (nI k) M1) _
    rw [f_X11_mended_h186]
    simp only [hk1, hk2, hk3, hk4, m_21, l_261, m_29, l_280, or_self, not_false_eq_true, ↓reduceIte, hv, nI_1]
    refine hnext (nI (k + 1), mU M1 261 k (D 2 k)) ⟨rfl, (a1.put (o := 2) (k := k) (by omega) (Or.inr (Or.inl ⟨rfl, hk'⟩)) (D 2 k)).cg (fun o j _ => ?_), fun b hb => by dsimp only; rw [u_ne hb]; exact a2 b hb⟩
    rw [mU_at]
    by_cases hz : o = 2 ∧ j = k
    · rw [if_pos hz, if_pos (by omega), hz.2]
    · rw [if_neg hz]
      by_cases hz2 : o = 2 ∧ j < k
      · rw [if_pos hz2, if_pos (by omega)]
      · rw [if_neg hz2, if_neg (by omega)]
  · rintro m ⟨x, M1⟩ ⟨hx, a1, a2⟩
    dsimp only at hx a1 a2
    subst hx
    show tot (f_X11_mended_h186 250 l w k26 (m + 1) x3 x4 x5 (nI 10) M1) _
    rw [f_X11_mended_h186, if_pos (show (10 : Int32) ≤ nI 10 by decide)]
    exact hq M1 (a1.cg (fun o j hi => by
      by_cases hz : o = 2
      · have : j < 10 := by unfold inD at hi; omega
        rw [if_pos ⟨hz, this⟩, hz]
      · rw [if_neg (fun z => hz z.1)]; exact hE o j hz)) a2
theorem o_mended (h : MS M s) (ok : SOK s) (l w : Int32) : MO M (f_X11_mended M 250 l w) cdB (oMended s l w) := by
  have hsh : shOk 0 1 = true := by decide
  unfold MO f_X11_mended oMended
  have h' := h.t0 ok 0
  rw [m_badTrial h' (th0 M 0)]
  by_cases hl : lOk s l = true
  · by_cases hw : dIn w 0 99 = true
    · simp only [hl, hw, hsh, Bool.and_self, ↓reduceIte, Option.bind_some]
      obtain ⟨i, hi, rfl, hget, hR, hwf⟩ := h'.go ok hl
      have okd := ok.dk
      obtain ⟨q1, q2, q3⟩ := ok.m
      have hz0 := th0 M 0
      generalize hM0 : mU M 250 0 0 = M0 at h' hz0 hR
      have hlo0 : Lo M M0 := by rw [← hM0]; exact lo_t0
      have hp2 := two_le _ (show cmd (sRd s) < 6 by omega)
      have e32 : M0 250 32 = nI (cmd (sRd s)) := h'.2.2.2.1.2.1.2.1.trans q1
      have hmm := h'.2.2.2.1.2.2.2.1
      -- what may change between
      refine tot.loopFU (σ := Int32 × Int32 × Int32 × Mem) (fun m s9 => f_X11_mended_h26 250 (nI i) w m s9.1 s9.2.1 s9.2.2.1 s9.2.2.2) (2 ^ cmd (sRd s)) (fun t s9 => (s9.1, s9.2.1) = sMnd (lw s (nI i)) w (sRd s) t ∧ s9.2.2.1 = nI t ∧ MD s9.2.2.2 (rD (sRd s)) ∧ (∀ b, b ≠ 250 → (b < 259 ∨ 261 < b) → (b < 263 ∨ 281 < b) → s9.2.2.2 b = M0 b) ∧ ∀ j, j ≠ 16 → j ≠ 17 → j ≠ 20 → j ≠ 26 → s9.2.2.2 250 j = M0 250 j) _ (by omega) ((-1), 0, 0, M0) ⟨rfl, rfl, h'.d, fun _ _ _ _ => rfl, fun _ _ _ _ _ => rfl⟩ ?_ ?_
      · rintro m t ⟨e, f, x, M1⟩ ht ⟨he, hx, hM1, hb1, hj1⟩ hnext
        dsimp only at he hx hM1 hb1 hj1
        subst hx
        have e32' : M1 250 32 = nI (cmd (sRd s)) := (hj1 32 (by omega) (by omega) (by omega) (by omega)).trans e32
        show tot (f_X11_mended_h26 250 (nI i) w (m + 1) e f (nI t) M1) _
        rw [f_X11_mended_h26, e32', two_sh _ (by omega), if_neg (i_nle ht (by omega))]
        have hst : sMnd (lw s (nI i)) w (sRd s) (t + 1) = if e = (-1) ∨ sCost (sRd s) (nI t) (cmd (sRd s)) < f then (if sCalm (lw s (nI i)) w (pcs (sRd s)) (sMakes (sRd s) (nI t) (rD (sRd s)) (cmd (sRd s))) = true then (nI t, sCost (sRd s) (nI t) (cmd (sRd s))) else (e, f)) else (e, f) := by
          show (if (sMnd (lw s (nI i)) w (sRd s) t).1 = (-1) ∨ _ then _ else _) = _
          rw [← he]
        have hgo : ∀ e' f' M', (e', f') = sMnd (lw s (nI i)) w (sRd s) (t + 1) → MD M' (rD (sRd s)) → (∀ b, b ≠ 250 → (b < 259 ∨ 261 < b) → (b < 263 ∨ 281 < b) → M' b = M0 b) → (∀ j, j ≠ 16 → j ≠ 17 → j ≠ 20 → j ≠ 26 → M' 250 j = M0 250 j) → tot (f_X11_mended_h26 250 (nI i) w m e' f' (nI t + 1) M') (fun r M' => Rs cdB (.inl (sMnd (lw s (nI i)) w (sRd s) (2 ^ cmd (sRd s))).1) r (M' 250 0) ∧ MS M' s ∧ Lo M M') := fun e' f' M' h1 h2 h3 h4 => by
          rw [nI_1]
          exact hnext (e', f', nI (t + 1), M') ⟨h1, rfl, h2, h3, h4⟩
        have hb : (e = (-1) ∨ sCost (sRd s) (nI t) (cmd (sRd s)) < f) → tot (f_X11_mended_b102 250 (nI i) w (f_X11_mended_h26 250 (nI i) w m) e f (nI t) (sCost (sRd s) (nI t) (cmd (sRd s))) M1) (fun r M' => Rs cdB (.inl (sMnd (lw s (nI i)) w (sRd s) (2 ^ cmd (sRd s))).1) r (M' 250 0) ∧ MS M' s ∧ Lo M M') := by
          intro hc
          rw [if_pos hc] at hst
          unfold f_X11_mended_b102
          refine m_keep hM1 _ _ _ _ _ _ _ (fun M2 hk2 hb2 => ?_)
          have hM2 : MD M2 (rD (sRd s)) := hM1.fr (by rw [hb2 250 (by decide)]) (by rw [hb2 250 (by decide)]) (fun b hb => hb2 b (by omega))
          refine tot.loopFU (σ := Int32 × Mem) (fun m9 s9 => f_X11_mended_h135 250 (nI i) w (f_X11_mended_h26 250 (nI i) w m) m9 e f (nI t) (sCost (sRd s) (nI t) (cmd (sRd s))) s9.1 s9.2) (cmd (sRd s)) (fun k s9 => s9.1 = nI k ∧ MD s9.2 (sMakes (sRd s) (nI t) (rD (sRd s)) k) ∧ ∀ b, b ≠ 261 → s9.2 b = M2 b) _ (by omega) (0, M2) ⟨rfl, hM2, fun _ _ => rfl⟩ ?_ ?_
          · rintro m2 k ⟨x, M3⟩ hk ⟨hx, hM3, hb3⟩ hnext2
            dsimp only at hx hM3 hb3
            subst hx
            show tot (f_X11_mended_h135 250 (nI i) w _ (m2 + 1) e f (nI t) _ (nI k) M3) _
            have e32'' : M3 250 32 = nI (cmd (sRd s)) := by rw [hb3 250 (by decide), hb2 250 (by decide)]; exact e32'
            rw [f_X11_mended_h135, e32'', if_neg (i_nle hk (by omega))]
            unfold f_X11_mended_b161
            rw [nI_1]
            show tot (if sBit (nI t) k = 1 then _ else _) _
            by_cases hz : sBit (nI t) k = 1
            · obtain ⟨q, hq, hq2⟩ := q3 k hk
              obtain ⟨M4, e4, hM4, hb4⟩ := m_make (R := sRd s) hM3 (fun m9 hm9 => by rw [hb3 _ (by omega), hb2 _ (by omega), hb1 _ (by omega) (by omega) (by omega)]; exact hmm m9 hm9) (show k < 5 by omega) hq2 hq
              rw [if_pos hz, e4, Option.bind_some]
              refine hnext2 (nI (k + 1), M4) ⟨rfl, ?_, fun b hb => (hb4 b hb).trans (hb3 b hb)⟩
              unfold sMakes
              rw [if_pos hz]
              exact hM4
            · rw [if_neg hz]
              refine hnext2 (nI (k + 1), M3) ⟨rfl, ?_, hb3⟩
              unfold sMakes
              rw [if_neg hz]
              exact hM3
          · rintro m2 ⟨x, M3⟩ ⟨hx, hM3, hb3⟩
            dsimp only at hx hM3 hb3
            subst hx
            show tot (f_X11_mended_h135 250 (nI i) w _ (m2 + 1) e f (nI t) _ (nI (cmd (sRd s))) M3) _
            have e32'' : M3 250 32 = nI (cmd (sRd s)) := by rw [hb3 250 (by decide), hb2 250 (by decide)]; exact e32'
            rw [f_X11_mended_h135, e32'', if_pos (i_le (Nat.le_refl _) (by omega))]
            have hR3 : RM M3 i (lw s (nI i)) := hR.fr (by rw [hb3 258 (by decide), hb2 258 (by decide), hb1 258 (by decide) (by decide) (by decide)]) (by rw [hb3 _ (by omega), hb2 _ (by omega), hb1 _ (by omega) (by omega) (by omega)])
            have h18 : M3 250 18 = 100 := by rw [hb3 250 (by decide), hb2 250 (by decide), hj1 18 (by omega) (by omega) (by omega) (by omega)]; exact h'.1.2.2.2.1
            refine tot.bd (t_calm (w := w) hi hM3 (okd.makes (nI t) q3) hR3 hwf h18) ?_
            rintro r4 M4 ⟨rfl, hM4, hf4⟩
            have hk4 : ∀ k, k < 10 → M4 280 k = rD (sRd s) 2 k := fun k hk => by rw [hf4.1 280 (by decide) (by decide) (by decide), hb3 280 (by decide)]; exact hk2 k hk
            have hend : ∀ e' f', (e', f') = sMnd (lw s (nI i)) w (sRd s) (t + 1) → tot (f_X11_mended_b183 250 (nI i) w (f_X11_mended_h26 250 (nI i) w m) e' f' (nI t) M4) (fun r M' => Rs cdB (.inl (sMnd (lw s (nI i)) w (sRd s) (2 ^ cmd (sRd s))).1) r (M' 250 0) ∧ MS M' s ∧ Lo M M') := fun e' f' hef =>
              m_numb hM4 hk4 (fun o j ho => makes_o ho) _ _ _ _ _ _ (fun M5 hM5 hb5 => hgo e' f' M5 hef hM5 (fun b h1 h2 h3 => by rw [hb5 b (by omega), hf4.1 b h1 (by omega) (by omega), hb3 b (by omega), hb2 b (by omega)]; exact hb1 b h1 h2 h3) (fun j h1 h2 h3 h4 => by rw [hb5 250 (by decide), hf4.2 j h1 h2 h3 h4, hb3 250 (by decide), hb2 250 (by decide)]; exact hj1 j h1 h2 h3 h4))
            show tot (if b2 (sCalm (lw s (nI i)) w (pcs (sRd s)) (sMakes (sRd s) (nI t) (rD (sRd s)) (cmd (sRd s)))) = 0 then _ else _) _
            cases hz : sCalm (lw s (nI i)) w (pcs (sRd s)) (sMakes (sRd s) (nI t) (rD (sRd s)) (cmd (sRd s))) with
            | false =>
              rw [if_pos (by rfl)]
              exact hend e f (by rw [hst, hz, if_neg (by decide)])
            | true =>
              rw [if_neg (by decide)]
              exact hend _ _ (by rw [hst, hz, if_pos rfl])
        -- the cost
        refine tot.loopFU (σ := Int32 × Int32) (fun m9 s9 => f_X11_mended_h43 250 (nI i) w (f_X11_mended_h26 250 (nI i) w m) m9 e f (nI t) s9.1 s9.2 M1) (cmd (sRd s)) (fun k s9 => s9.1 = sCost (sRd s) (nI t) k ∧ s9.2 = nI k) _ (by omega) (0, 0) ⟨rfl, rfl⟩ ?_ ?_
        · rintro m2 k ⟨c, x⟩ hk ⟨hc, hx⟩ hnext2
          dsimp only at hc hx
          subst hx
          have hk1 := i_lt0 (show k < 100000 by omega)
          have hk2 := i_cl (show k < 100000 by omega)
          have hk3 : ¬ 5 ≤ k := by omega
          have ha : M1 (304 + k) 2 = sRd s 33 k := by rw [hb1 _ (by omega) (by omega) (by omega)]; exact (hmm k (by omega)).2.2
          have hs : sCost (sRd s) (nI t) (k + 1) = sCost (sRd s) (nI t) k + sBit (nI t) k * sRd s 33 k := rfl
          show tot (f_X11_mended_h43 250 (nI i) w _ (m2 + 1) e f (nI t) c (nI k) M1) _
          rw [f_X11_mended_h43, e32', if_neg (i_nle hk (by omega))]
          unfold f_X11_mended_b78
          simp only [hk1, hk2, hk3, m_37, l_303, r_303 k (by omega), l_304 k (by omega), ci_2, zi_2, Nat.reduceLeDiff, or_self, not_false_eq_true, ↓reduceIte, ha, nI_1]
          show tot (if sBit (nI t) k = 1 then _ else _) _
          rcases bit_01 (nI t) k with hz | hz
          · rw [if_neg (by rw [hz]; decide)]
            refine hnext2 (_, nI (k + 1)) ⟨?_, rfl⟩
            rw [hs, hz, hc, Int32.zero_mul]
          · rw [if_pos hz]
            refine hnext2 (_, nI (k + 1)) ⟨?_, rfl⟩
            rw [hs, hz, hc, Int32.one_mul]
        · rintro m2 ⟨c, x⟩ ⟨hc, hx⟩
          dsimp only at hc hx
          subst hx
          subst hc
          show tot (f_X11_mended_h43 250 (nI i) w _ (m2 + 1) e f (nI t) _ (nI (cmd (sRd s))) M1) _
          rw [f_X11_mended_h43, e32', if_pos (i_le (Nat.le_refl _) (by omega))]
          by_cases z1 : e = (-1)
          · rw [if_pos z1]
            exact hb (Or.inl z1)
          · rw [if_neg z1]
            by_cases z2 : sCost (sRd s) (nI t) (cmd (sRd s)) < f
            · rw [if_pos z2]
              exact hb (Or.inr z2)
            · rw [if_neg z2]
              exact hgo e f M1 (by rw [hst, if_neg (fun z => z.elim z1 z2)]) hM1 hb1 hj1
      · rintro m ⟨e, f, x, M1⟩ ⟨he, hx, hM1, hb1, hj1⟩
        dsimp only at he hx hM1 hb1 hj1
        subst hx
        have e32' : M1 250 32 = nI (cmd (sRd s)) := (hj1 32 (by omega) (by omega) (by omega) (by omega)).trans e32
        show tot (f_X11_mended_h26 250 (nI i) w (m + 1) e f (nI (2 ^ cmd (sRd s))) M1) _
        rw [f_X11_mended_h26, e32', two_sh _ (by omega), if_pos (i_le (Nat.le_refl _) (by omega))]
        refine tot.ret ⟨⟨(hj1 0 (by omega) (by omega) (by omega) (by omega)).trans hz0, congrArg Prod.fst he⟩, h'.fr ok (fun j hj => hj1 j (by omega) (by omega) (by omega) (by omega)) hM1 (fun b h1 h2 => hb1 b (by omega) (by omega) (by omega)), hlo0.tr (fun b hb => hb1 b (by omega) (by omega) (by omega))⟩
    · simp only [hl, hw, Bool.false_and, ↓reduceIte, Option.bind_some, n1]
      exact tot.ret ⟨th0 (mU M 250 0 0) 2, h'.t0 ok 2, lo_t0.tr lo_t0⟩
  · simp only [hl, ↓reduceIte, Option.bind_some, n1]
    exact tot.ret ⟨th0 (mU M 250 0 0) 1, h'.t0 ok 1, lo_t0.tr lo_t0⟩
end MOPS
