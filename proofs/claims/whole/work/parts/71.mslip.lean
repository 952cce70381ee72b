/-! The model's slip(). -/
def Lw (M M' : Mem) : Prop := ∀ b, (b < 250 ∨ b = 331) → M' b = M b
theorem Lo.w {M M' : Mem} (h : Lo M M') : Lw M M' := fun b hb => h b (by omega)
theorem mZ_at (M : Mem) (a b : Nat) (h : b ≠ a) : mZ M a b = M b := mZ_ne h
theorem l_332 : gN 332 = 8 := by decide +kernel
theorem l_333 : gN 333 = 10 := by decide +kernel
section MSLIP
variable {M : Mem} {s : St}
theorem DOK.no {n : Nat} {D : Dk} (ok : DOK n D) : DOK n (mSet D 12 8 (fun _ => 0)) := by
  obtain ⟨h1, h2, h3, h4, h5⟩ := ok
  have e : ∀ o k, o ≠ 12 → mSet D 12 8 (fun _ => 0) o k = D o k := fun o k ho => by rw [mSet_ne ho]
  refine ⟨by rw [e 0 0 (by decide)]; exact h1, by rw [e 2 0 (by decide), e 2 9 (by decide)]; exact h2, ⟨fun k hk => ?_, fun k h6 h7 => ?_⟩, ⟨fun k hk => by rw [e 14 k (by decide)]; exact h4.1 k hk, fun k h6 h7 => by rw [e 14 k (by decide)]; exact h4.2 k h6 h7⟩, fun k h6 h7 => by rw [e 4 k (by decide), e 6 k (by decide), e 8 k (by decide), e 10 k (by decide)]; exact h5 k h6 h7⟩
  · rw [mSet_at, if_pos ⟨rfl, hk⟩]; exact Or.inl rfl
  · rw [mSet_at, if_pos ⟨rfl, h7⟩]; decide
theorem inD_12 {k : Nat} (hk : k < 8) : inD 12 k := Or.inr (Or.inr ⟨Or.inr (Or.inr (Or.inr (Or.inr (Or.inl rfl)))), hk⟩)
theorem sl_out {D : Dk} (h : MD M D) (l w j x4 : Int32) {Q : Int32 → Mem → Prop} (hk : ∀ M', MD M' (mSet D 12 8 (fun _ => 0)) → (∀ k, k < 8 → M' 332 k = D 12 k) → (∀ b, b ≠ 272 → b ≠ 332 → M' b = M b) → tot ((f_X11_growsBy M' 250 l w 1 j 100).bind fun q => match q with | (r12, M13) => (if r12 = 0 then (f_X11_slip_b100 250 l w j x4 0 332 M13) else (f_X11_slip_b100 250 l w j x4 2 332 M13))) Q) : tot (f_X11_slip_h47 250 l w j FU x4 332 0 M) Q := by
  refine tot.loopFU (σ := Int32 × Mem) (fun m s9 => f_X11_slip_h47 250 l w j m x4 332 s9.1 s9.2) 8 (fun k s9 => s9.1 = nI k ∧ MD s9.2 (mSet D 12 k (fun _ => 0)) ∧ (∀ q, q < k → s9.2 332 q = D 12 q) ∧ ∀ b, b ≠ 272 → b ≠ 332 → s9.2 b = M b) _ (by omega) (0, M) ⟨rfl, by rw [mSet_0]; exact h, fun q hq => by omega, fun _ _ _ => rfl⟩ ?_ ?_
  · rintro m k ⟨x, M1⟩ hk ⟨hx, a1, a2, a3⟩ hnext
    dsimp only at hx a1 a2 a3
    subst hx
    have hk1 := i_lt0 (show k < 100000 by omega)
    have hk2 := i_cl (show k < 100000 by omega)
    have hk3 : ¬ 8 ≤ k := by omega
    have hk4 : ¬ (8 : Int32) ≤ nI k := i_nle (b := 8) hk (by omega)
    have hv : M1 272 k = D 12 k := by rw [a1.a12 hk, mSet_at, if_neg (by omega)]
    show tot (f_X11_slip_h47 250 l w j (m + 1) x4 332 (nI k) M1) _
    rw [f_X11_slip_h47]
    simp only [hk1, hk2, hk3, hk4, m_24, l_272, l_332, or_self, not_false_eq_true, ↓reduceIte, hv, nI_1]
    have hM2 : MD (mU M1 332 k (D 12 k)) (mSet D 12 k (fun _ => 0)) := a1.fr (by rw [u_ne (by decide)]) (by rw [u_ne (by decide)]) (fun b hb => u_ne (by omega))
    refine hnext (nI (k + 1), mU (mU M1 332 k (D 12 k)) 272 k 0) ⟨rfl, ?_, fun q hq => ?_, fun b h1 h2 => ?_⟩ <;> dsimp only
    · refine (hM2.put (o := 12) (k := k) (by omega) (inD_12 hk) 0).cg (fun o q _ => ?_)
      rw [mU_at, mSet_at, mSet_at]
      by_cases hz : o = 12 ∧ q = k
      · rw [if_pos hz, if_pos (by omega)]
      · rw [if_neg hz]
        by_cases hz2 : o = 12 ∧ q < k
        · rw [if_pos hz2, if_pos (by omega)]
        · rw [if_neg hz2, if_neg (by omega)]
    · rw [u_ne (by decide), mU_at]
      by_cases hz : q = k
      · rw [if_pos ⟨rfl, hz⟩, hz]
      · rw [if_neg (fun z => hz z.2)]; exact a2 q (by omega)
    · rw [u_ne h1, u_ne h2]; exact a3 b h1 h2
  · rintro m ⟨x, M1⟩ ⟨hx, a1, a2, a3⟩
    dsimp only at hx a1 a2 a3
    subst hx
    show tot (f_X11_slip_h47 250 l w j (m + 1) x4 332 (nI 8) M1) _
    rw [f_X11_slip_h47, if_pos (show (8 : Int32) ≤ nI 8 by decide)]
    exact hk M1 a1 a2 a3
theorem sl_back {E D : Dk} (h : MD M E) (hE : ∀ o k, o ≠ 12 → E o k = D o k) (hk : ∀ k, k < 8 → M 332 k = D 12 k) (l w j x4 : Int32) : ∃ M', f_X11_slip_h106 250 l w j FU x4 332 0 M = some (x4, M') ∧ MD M' D ∧ ∀ b, b ≠ 272 → M' b = M b := by
  have t : tot (f_X11_slip_h106 250 l w j FU x4 332 0 M) (fun r M' => r = x4 ∧ MD M' D ∧ ∀ b, b ≠ 272 → M' b = M b) := by
    refine tot.loopFU (σ := Int32 × Mem) (fun m s9 => f_X11_slip_h106 250 l w j m x4 332 s9.1 s9.2) 8 (fun k s9 => s9.1 = nI k ∧ MD s9.2 (fun o q => if o = 12 ∧ q < k then D 12 q else E o q) ∧ ∀ b, b ≠ 272 → s9.2 b = M b) _ (by omega) (0, M) ⟨rfl, h.cg (fun o q _ => by rw [if_neg (by omega)]), fun _ _ => rfl⟩ ?_ ?_
    · rintro m k ⟨x, M1⟩ hk' ⟨hx, a1, a2⟩ hnext
      dsimp only at hx a1 a2
      subst hx
      have hk1 := i_lt0 (show k < 100000 by omega)
      have hk2 := i_cl (show k < 100000 by omega)
      have hk3 : ¬ 8 ≤ k := by omega
      have hk4 : ¬ (8 : Int32) ≤ nI k := i_nle (b := 8) hk' (by omega)
      have hv : M1 332 k = D 12 k := by rw [a2 332 (by decide)]; exact hk k hk'
      show tot (f_X11_slip_h106 250 l w j (m + 1) x4 332 (nI k) M1) _
      rw [f_X11_slip_h106]
      simp only [hk1, hk2, hk3, hk4, m_24, l_272, l_332, or_self, not_false_eq_true, ↓reduceIte, hv, nI_1]
      refine hnext (nI (k + 1), mU M1 272 k (D 12 k)) ⟨rfl, (a1.put (o := 12) (k := k) (by omega) (inD_12 hk') (D 12 k)).cg (fun o q _ => ?_), fun b hb => by dsimp only; rw [u_ne hb]; exact a2 b hb⟩
      rw [mU_at]
      by_cases hz : o = 12 ∧ q = k
      · rw [if_pos hz, if_pos (by omega), hz.2]
      · rw [if_neg hz]
        by_cases hz2 : o = 12 ∧ q < k
        · rw [if_pos hz2, if_pos (by omega)]
        · rw [if_neg hz2, if_neg (by omega)]
    · rintro m ⟨x, M1⟩ ⟨hx, a1, a2⟩
      dsimp only at hx a1 a2
      subst hx
      show tot (f_X11_slip_h106 250 l w j (m + 1) x4 332 (nI 8) M1) _
      rw [f_X11_slip_h106, if_pos (show (8 : Int32) ≤ nI 8 by decide)]
      exact tot.ret ⟨rfl, a1.cg (fun o q hi => by
        by_cases hz : o = 12
        · have : q < 8 := by unfold inD at hi; omega
          rw [if_pos ⟨hz, this⟩, hz]
        · rw [if_neg (fun z => hz z.1)]; exact hE o q hz), a2⟩
  obtain ⟨r, M', e, rfl, h1, h2⟩ := t
  exact ⟨M', e, h1, h2⟩
theorem o_slip (h : MS M s) (ok : SOK s) (l w j : Int32) : tot (f_X11_slip M 250 l w j) (fun r M' => Rs cdB (oSlip s l w j).1 r (M' 250 0) ∧ MS M' (oSlip s l w j).2 ∧ Lw M M') := by
  unfold f_X11_slip oSlip
  have h' := h.t0 ok 0
  rw [m_badTrial h' (th0 M 0)]
  by_cases hl : lOk s l = true
  · by_cases hw : (dIn w 0 99 && shOk 1 j) = true
    · simp only [hl, hw, ↓reduceIte, Option.bind_some]
      obtain ⟨i, hi, rfl, hget, hR, hwf⟩ := h'.go ok hl
      have okd := ok.dk
      have hz0 := th0 M 0
      generalize hM0 : mU M 250 0 0 = M0 at h' hz0 hR
      have hlo0 : Lo M M0 := by rw [← hM0]; exact lo_t0
      refine tot.bd (t_grows (hd := 100) hi h'.d okd hR hwf h'.1.2.2.2.1 (q := 1) (by omega) j 100) ?_
      rintro r M2 ⟨rfl, hM2, hf2⟩
      have main : ∀ x4, x4 = b2 (gr s (nI i) w 100 1 j 100) → tot (f_X11_slip_b36 250 (nI i) w j x4 M2) (fun r M' => Rs cdB (.inl (b2 (gr s (nI i) w 100 1 j 100) + (if sGrows (lw s (nI i)) w 100 (pcs (sRd s)) (mSet (rD (sRd s)) 12 8 (fun _ => 0)) 1 j 100 = true then 2 else 0))) r (M' 250 0) ∧ MS M' s ∧ Lw M M') := by
        rintro x4 rfl
        unfold f_X11_slip_b36 f_X11_slip_b42
        have hb3 : ∀ b, b ≠ 332 → mZ M2 332 b = M2 b := fun b hb => mZ_ne hb
        generalize mZ M2 332 = M3 at hb3
        have hM3 : MD M3 (rD (sRd s)) := hM2.fr (by rw [hb3 250 (by decide)]) (by rw [hb3 250 (by decide)]) (fun b hb => hb3 b (by omega))
        refine sl_out hM3 (nI i) w j _ (fun M4 hM4 hk4 hb4 => ?_)
        have hall4 : ∀ b, b ≠ 272 → b ≠ 332 → M4 b = M2 b := fun b h1 h2 => (hb4 b h1 h2).trans (hb3 b h2)
        have hR4 : RM M4 i (lw s (nI i)) := (hR.gf hi hf2).fr (hall4 258 (by decide) (by decide)) (hall4 _ (by omega) (by omega))
        have h18 : M4 250 18 = 100 := by rw [hall4 250 (by decide) (by decide), hf2.2 18 (by decide) (by decide) (by decide) (by decide)]; exact h'.1.2.2.2.1
        refine tot.bd (t_grows (hd := 100) hi hM4 okd.no hR4 hwf h18 (q := 1) (by omega) j 100) ?_
        rintro r5 M5 ⟨rfl, hM5, hf5⟩
        have hk5 : ∀ k, k < 8 → M5 332 k = rD (sRd s) 12 k := fun k hk => by rw [hf5.1 332 (by decide) (by decide) (by decide)]; exact hk4 k hk
        have fin : ∀ x v, x = b2 (gr s (nI i) w 100 1 j 100) + v → tot (f_X11_slip_b100 250 (nI i) w j (b2 (gr s (nI i) w 100 1 j 100)) v 332 M5) (fun r M' => Rs cdB (.inl x) r (M' 250 0) ∧ MS M' s ∧ Lw M M') := fun x v hx => by
          unfold f_X11_slip_b100
          obtain ⟨M6, e6, hM6, hb6⟩ := sl_back hM5 (fun o k ho => by rw [mSet_ne ho]) hk5 (nI i) w j (b2 (gr s (nI i) w 100 1 j 100) + v)
          rw [e6]
          have hA : ∀ b, b ≠ 250 → (b < 259 ∨ 260 < b) → (b < 263 ∨ 281 < b) → b ≠ 332 → M6 b = M0 b := fun b h1 h2 h3 h4 => by
            rw [hb6 b (by omega), hf5.1 b h1 h2 (by omega), hall4 b (by omega) h4, hf2.1 b h1 h2 (by omega)]
          have hS : ∀ k, k ≠ 16 → k ≠ 17 → k ≠ 20 → k ≠ 26 → M6 250 k = M0 250 k := fun k h1 h2 h3 h4 => by
            rw [hb6 250 (by decide), hf5.2 k h1 h2 h3 h4, hall4 250 (by decide) (by decide), hf2.2 k h1 h2 h3 h4]
          exact tot.ret ⟨⟨(hS 0 (by decide) (by decide) (by decide) (by decide)).trans hz0, hx.symm⟩, h'.fr ok (fun k hk => hS k (by omega) (by omega) (by omega) (by omega)) hM6 (fun b h1 h2 => hA b (by omega) (by omega) (by omega) (by omega)), fun b hb => (hA b (by omega) (by omega) (by omega) (by omega)).trans (hlo0 b (by omega))⟩
        show tot (if b2 (sGrows (lw s (nI i)) w 100 (pcs (sRd s)) (mSet (rD (sRd s)) 12 8 (fun _ => 0)) 1 j 100) = 0 then _ else _) _
        cases hz : sGrows (lw s (nI i)) w 100 (pcs (sRd s)) (mSet (rD (sRd s)) 12 8 (fun _ => 0)) 1 j 100 with
        | false =>
          rw [if_pos (show b2 false = 0 from rfl), if_neg (by decide)]
          exact fin _ 0 rfl
        | true =>
          rw [if_neg (show ¬ b2 true = 0 by decide), if_pos rfl]
          exact fin _ 2 rfl
      show tot (if b2 (gr s (nI i) w 100 1 j 100) = 0 then _ else _) _
      cases hz : gr s (nI i) w 100 1 j 100 with
      | false =>
        rw [if_pos (show b2 false = 0 from rfl)]
        have := main 0 (by rw [hz]; rfl)
        rw [hz] at this
        exact this
      | true =>
        rw [if_neg (show ¬ b2 true = 0 by decide)]
        have := main 1 (by rw [hz]; rfl)
        rw [hz] at this
        exact this
    · simp only [hl, hw, ↓reduceIte, Option.bind_some, n1]
      exact tot.ret ⟨th0 (mU M 250 0 0) 2, h'.t0 ok 2, (lo_t0.tr lo_t0).w⟩
  · simp only [hl, ↓reduceIte, Option.bind_some, n1]
    exact tot.ret ⟨th0 (mU M 250 0 0) 1, h'.t0 ok 1, (lo_t0.tr lo_t0).w⟩
end MSLIP
