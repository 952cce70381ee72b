section MOPS
variable {M : Mem} {s : St}
theorem abs_sub (a b : Int32) : sAbs (a - b) = sAbs (b - a) := by
  have hn : ∀ x : Int32, sAbs (-x) = sAbs x := fun x => by
    unfold sAbs
    rw [Int32.zero_sub, Int32.zero_sub, Int32.neg_neg]
    by_cases h0 : x = 0
    · rw [h0]; decide
    · by_cases hm : x = (-2147483648)
      · rw [hm]; decide
      · have e1 : (-x).toInt = -x.toInt := by
          rw [Int32.toInt_neg]
          apply Int.bmod_eq_of_le
          · have := Int32.toInt_lt x; omega
          · have h1 := Int32.le_toInt x
            have h2 : x.toInt ≠ -2147483648 := fun z => hm (by
              apply Int32.toInt_inj.mp
              rw [z]; decide)
            omega
        have e0 : (0 : Int32).toInt = 0 := by decide
        have hx0 : x.toInt ≠ 0 := fun z => h0 (by apply Int32.toInt_inj.mp; rw [z, e0])
        by_cases h1 : 0 ≤ x
        · have h2 := Int32.le_iff_toInt_le.mp h1
          rw [if_pos h1, if_neg]
          intro z
          have := Int32.le_iff_toInt_le.mp z
          omega
        · have h2 : ¬ 0 ≤ x.toInt := fun z => h1 (Int32.le_iff_toInt_le.mpr (by rw [e0]; exact z))
          rw [if_neg h1, if_pos]
          apply Int32.le_iff_toInt_le.mpr
          omega
  rw [← Int32.neg_sub, hn]
/-- the first, one number more looked at -/
theorem fFst_s {p : Nat → Bool} (f s : Nat) : fFst p (f + 1) s = if fFst p f s = (-1) then (if p (s + f) = true then (if f + s < 100000 then nI (s + f) else fFst p (f + 1) s) else (if f + s < 100000 then (-1) else fFst p (f + 1) s)) else (if f + s < 100000 then fFst p f s else fFst p (f + 1) s) := by
  by_cases hb : f + s < 100000
  · simp only [hb, ↓reduceIte]
    by_cases hex : ∃ k, k < f ∧ p (s + k) = true
    · -- the least
      obtain ⟨k, hk, hp, hmin⟩ : ∃ k, k < f ∧ p (s + k) = true ∧ ∀ i, i < k → p (s + i) = false := by
        obtain ⟨k, hk, hp⟩ := hex
        induction k using Nat.strongRecOn with
        | _ k ih =>
          by_cases h2 : ∃ i, i < k ∧ p (s + i) = true
          · obtain ⟨i, hi, hpi⟩ := h2
            exact ih i hi (by omega) hpi
          · refine ⟨k, hk, hp, fun i hi => ?_⟩
            cases hq : p (s + i) with
            | false => rfl
            | true => exact absurd ⟨i, hi, hq⟩ h2
      rw [fFst_hit (c := f + 1) (k := k) (by omega) hmin hp, fFst_hit (c := f) hk hmin hp, if_neg]
      intro z
      exact absurd (show nI (s + k) < 0 by rw [z]; decide) (i_lt0 (by omega))
    · have hall : ∀ i, i < f → p (s + i) = false := fun i hi => by
        cases hq : p (s + i) with
        | false => rfl
        | true => exact absurd ⟨i, hi, hq⟩ hex
      rw [fFst_no hall, if_pos rfl]
      cases hq : p (s + f) with
      | true => rw [fFst_hit (c := f + 1) (k := f) (by omega) hall hq, if_pos rfl]
      | false =>
        rw [if_neg (by decide)]
        apply fFst_no
        intro i hi
        by_cases hz : i = f
        · rw [hz]; exact hq
        · exact hall i (by omega)
  · simp only [hb, ↓reduceIte, ite_self]
/-- what a tick's row makes of the row found before -/
def sCmb (e row : Int32) : Int32 := if row = (-1) then e else if e = (-1) then row else if e ≤ row then e else row
def R1 (x : Int32) : Prop := x = (-1) ∨ ∃ y, y < 100 ∧ x = nI y
theorem m_row {D : Dk} {R : Dk} {n c : Nat} (h : MD M D) (hn : D 0 0 = nI n) (h8 : n ≤ 8) (hMR : M 250 31 = nI c ∧ ∀ f, f < 20 → M (283 + f) 0 = R 20 f ∧ M (283 + f) 1 = R 22 f ∧ M (283 + f) 2 = R 24 f ∧ M (283 + f) 3 = R 26 f) (hc : c ≤ 20) (hp : ∀ k, k < c → ∃ q, q < 8 ∧ R 22 k = nI q) (l w kd j a far e : Int32) (he : R1 e) (t : Int32) (k98 : Int32 → Int32 → Mem → Option (Int32 × Mem)) : f_X11_barred_h114 250 l w kd j a far k98 FU e t 0 M = k98 (sCmb e (fFst (sOffR R D n t far) c 0)) (t + 1) M := by
  refine eq_loopFU (σ := Int32 × Int32) (fun m s9 => f_X11_barred_h114 250 l w kd j a far k98 m s9.1 t s9.2 M) c (fun f => (sCmb e (fFst (sOffR R D n t far) f 0), nI f)) (k98 (sCmb e (fFst (sOffR R D n t far) c 0)) (t + 1) M) (by omega) (fun m f hf => ?_) (fun m => ?_)
  · show f_X11_barred_h114 250 l w kd j a far k98 (m + 1) (sCmb e (fFst (sOffR R D n t far) f 0)) t (nI f) M = f_X11_barred_h114 250 l w kd j a far k98 m (sCmb e (fFst (sOffR R D n t far) (f + 1) 0)) t (nI (f + 1)) M
    have hf1 := i_lt0 (show f < 100000 by omega)
    have hf2 := i_cl (show f < 100000 by omega)
    have hf3 : ¬ 20 ≤ f := by omega
    have hf4 := i_nle hf (show c < 100000 by omega)
    obtain ⟨a0, a1, a2, a3⟩ := hMR.2 f (by omega)
    obtain ⟨q, hq, hpq⟩ := hp f hf
    have hq1 := i_lt0 (show q < 100000 by omega)
    have hq2 := i_cl (show q < 100000 by omega)
    have hq3 : ¬ 8 ≤ q := by omega
    have r0 : gRf 262 0 = 263 := r_262 0 (by omega)
    have l0 : gN 263 = 8 := l_263 0 (by omega)
    have r1 : gRf 262 1 = 264 := r_262 1 (by omega)
    have l1 : gN 264 = 8 := l_263 1 (by omega)
    have hs := fFst_s (p := sOffR R D n t far) f 0
    simp only [show f + 0 < 100000 by omega, ↓reduceIte, Nat.zero_add] at hs
    have hrow : fFst (sOffR R D n t far) f 0 = (-1) ∨ ∃ y, y < f ∧ fFst (sOffR R D n t far) f 0 = nI y := by
      rcases fFst_r (p := sOffR R D n t far) f 0 with h | ⟨y, _, h2, h3⟩
      · exact Or.inl h
      · exact Or.inr ⟨y, by omega, h3⟩
    have hnm : ∀ y, y < 1000 → ¬ nI y = (-1) := fun y hy z => absurd (show nI y < 0 by rw [z]; decide) (i_lt0 (by omega))
    -- whether row f is looked at
    have hskip : (fFst (sOffR R D n t far) (f + 1) 0 = fFst (sOffR R D n t far) f 0 ∨ (¬ e = (-1) ∧ ¬ nI f < e ∧ fFst (sOffR R D n t far) f 0 = (-1))) → sCmb e (fFst (sOffR R D n t far) (f + 1) 0) = sCmb e (fFst (sOffR R D n t far) f 0) := by
      rintro (z | ⟨z1, z2, z3⟩)
      · rw [z]
      · rw [z3] at hs ⊢
        rw [if_pos rfl] at hs
        rw [hs]
        unfold sCmb
        by_cases hy : sOffR R D n t far f = true
        · rw [if_pos hy, if_neg (hnm f (by omega)), if_neg z1, if_pos (Int32.not_lt.mp z2), if_pos rfl]
        · rw [if_neg hy]
    have htake : fFst (sOffR R D n t far) f 0 = (-1) → sOffR R D n t far f = true → (e = (-1) ∨ nI f < e) → sCmb e (fFst (sOffR R D n t far) (f + 1) 0) = nI f := by
      intro z1 z2 z3
      rw [z1, if_pos rfl, z2, if_pos rfl] at hs
      rw [hs]
      unfold sCmb
      rw [if_neg (hnm f (by omega))]
      rcases z3 with z3 | z3
      · rw [if_pos z3]
      · by_cases ze : e = (-1)
        · rw [if_pos ze]
        · rw [if_neg ze, if_neg (Int32.not_le.mpr z3)]
    have hold : fFst (sOffR R D n t far) f 0 = (-1) → sOffR R D n t far f = false → fFst (sOffR R D n t far) (f + 1) 0 = fFst (sOffR R D n t far) f 0 := by
      intro z1 z2
      rw [z1, if_pos rfl, z2, if_neg (by decide)] at hs
      rw [hs, z1]
    have hkeep : ¬ fFst (sOffR R D n t far) f 0 = (-1) → fFst (sOffR R D n t far) (f + 1) 0 = fFst (sOffR R D n t far) f 0 := by
      intro z1
      rw [if_neg z1] at hs
      exact hs
    -- the value so far is not -1, and below f, where a row was found
    have hcm : ¬ fFst (sOffR R D n t far) f 0 = (-1) → ¬ sCmb e (fFst (sOffR R D n t far) f 0) = (-1) ∧ ¬ nI f < sCmb e (fFst (sOffR R D n t far) f 0) := by
      intro z1
      rcases hrow with z | ⟨y, hy, z⟩
      · exact absurd z z1
      · rw [z]
        unfold sCmb
        rw [if_neg (hnm y (by omega))]
        by_cases ze : e = (-1)
        · rw [if_pos ze]; exact ⟨hnm y (by omega), nI_nlt (by omega) (by omega)⟩
        · rw [if_neg ze]
          by_cases zl : e ≤ nI y
          · rw [if_pos zl]
            exact ⟨ze, fun z9 => absurd (Int32.lt_of_lt_of_le z9 zl) (nI_nlt (by omega) (by omega))⟩
          · rw [if_neg zl]; exact ⟨hnm y (by omega), nI_nlt (by omega) (by omega)⟩
    have hce : fFst (sOffR R D n t far) f 0 = (-1) → sCmb e (fFst (sOffR R D n t far) f 0) = e := fun z => by rw [z]; unfold sCmb; rw [if_pos rfl]
    rw [f_X11_barred_h114]
    unfold f_X11_barred_b231
    simp only [hMR.1, hf1, hf2, hf3, hf4, m_36, l_282, r_282 f (by omega), l_283 f (by omega), ci_0, ci_1, zi_0, zi_1, Nat.reduceLeDiff, or_self, not_false_eq_true, ↓reduceIte, a0, a1, hpq, h.p, hn, nI_1]
    have hoff : sOffR R D n t far f = decide (R 20 f = t ∧ ¬ nI n ≤ nI q ∧ (far < sAbs (R 24 f - D 4 q) ∨ ¬ sAbs (R 26 f - D 6 q) ≤ far)) := by unfold sOffR; rw [hpq, hq2]
    have htest : ∀ x, R 20 f = t → ¬ nI n ≤ nI q → f_X11_barred_b173 250 l w kd j a far k98 (f_X11_barred_h114 250 l w kd j a far k98 m) x t (nI f) (nI q) M = f_X11_barred_h114 250 l w kd j a far k98 m (if sOffR R D n t far f = true then nI f else x) t (nI (f + 1)) M := by
      intro x z1 z2
      unfold f_X11_barred_b173 f_X11_barred_b227 f_X11_barred_b231
      simp only [hf1, hf2, hf3, hq1, hq2, hq3, m_22, l_262, r0, l0, r1, l1, m_36, l_282, r_282 f (by omega), l_283 f (by omega), ci_0, ci_1, ci_2, ci_3, zi_0, zi_1, zi_2, zi_3, Nat.reduceLeDiff, or_self, not_false_eq_true, ↓reduceIte, h.a4 hq, h.a6 hq, a2, a3, slip_eq _ (0 : Int32), Option.bind_some, nI_1]
      rw [abs_sub (D 4 q), abs_sub (D 6 q)]
      by_cases y1 : far < sAbs (R 24 f - D 4 q)
      · rw [if_pos y1, hoff, if_pos (decide_eq_true ⟨z1, z2, Or.inl y1⟩)]
      · rw [if_neg y1]
        by_cases y2 : sAbs (R 26 f - D 6 q) ≤ far
        · rw [if_pos y2, hoff, if_neg]
          intro y3
          rcases (of_decide_eq_true y3).2.2 with y4 | y4
          · exact y1 y4
          · exact y4 y2
        · rw [if_neg y2, hoff, if_pos (decide_eq_true ⟨z1, z2, Or.inr y2⟩)]
    have hnooff : ¬ (R 20 f = t ∧ ¬ nI n ≤ nI q) → sOffR R D n t far f = false := fun z => by
      rw [hoff]
      exact decide_eq_false (fun y => z ⟨y.1, y.2.1⟩)
    have hgo : ∀ x, x = sCmb e (fFst (sOffR R D n t far) (f + 1) 0) → f_X11_barred_h114 250 l w kd j a far k98 m x t (nI (f + 1)) M = f_X11_barred_h114 250 l w kd j a far k98 m (sCmb e (fFst (sOffR R D n t far) (f + 1) 0)) t (nI (f + 1)) M := fun x hx => by rw [hx]
    by_cases z1 : R 20 f = t
    · rw [if_pos z1]
      by_cases z2 : nI n ≤ nI q
      · rw [if_pos z2]
        refine hgo _ (hskip (Or.inl ?_)).symm
        by_cases z3 : fFst (sOffR R D n t far) f 0 = (-1)
        · exact hold z3 (hnooff (fun y => y.2 z2))
        · exact hkeep z3
      · rw [if_neg z2, htest _ z1 z2]
        have hmain : f_X11_barred_h114 250 l w kd j a far k98 m (if sOffR R D n t far f = true then nI f else sCmb e (fFst (sOffR R D n t far) f 0)) t (nI (f + 1)) M = f_X11_barred_h114 250 l w kd j a far k98 m (sCmb e (fFst (sOffR R D n t far) (f + 1) 0)) t (nI (f + 1)) M ∨ ¬ (fFst (sOffR R D n t far) f 0 = (-1) ∧ (e = (-1) ∨ nI f < e)) := by
          by_cases z3 : fFst (sOffR R D n t far) f 0 = (-1) ∧ (e = (-1) ∨ nI f < e)
          · left
            refine hgo _ ?_
            cases hy : sOffR R D n t far f with
            | true => rw [if_pos rfl, htake z3.1 hy z3.2]
            | false => rw [if_neg (by decide)]; exact (hskip (Or.inl (hold z3.1 hy))).symm
          · exact Or.inr z3
        by_cases z3 : fFst (sOffR R D n t far) f 0 = (-1)
        · rw [hce z3] at hmain ⊢
          by_cases z4 : e = (-1)
          · rw [if_pos z4]
            exact hmain.resolve_right (fun y => y ⟨z3, Or.inl z4⟩)
          · rw [if_neg z4]
            by_cases z5 : nI f < e
            · rw [if_pos z5]
              exact hmain.resolve_right (fun y => y ⟨z3, Or.inr z5⟩)
            · rw [if_neg z5]
              refine hgo _ ?_
              rw [hskip (Or.inr ⟨z4, z5, z3⟩), hce z3]
        · obtain ⟨y1, y2⟩ := hcm z3
          rw [if_neg y1, if_neg y2]
          exact hgo _ (hskip (Or.inl (hkeep z3))).symm
    · rw [if_neg z1]
      refine hgo _ (hskip (Or.inl ?_)).symm
      by_cases z3 : fFst (sOffR R D n t far) f 0 = (-1)
      · exact hold z3 (hnooff (fun y => z1 y.1))
      · exact hkeep z3
  · show f_X11_barred_h114 250 l w kd j a far k98 (m + 1) (sCmb e (fFst (sOffR R D n t far) c 0)) t (nI c) M = _
    rw [f_X11_barred_h114, hMR.1, if_pos (i_le (Nat.le_refl _) (by omega))]
theorem o_barred (h : MS M s) (ok : SOK s) (l w kd j a far : Int32) : MO M (f_X11_barred M 250 l w kd j a far) cdB (oBarred s l w kd j a far) := by
  unfold MO f_X11_barred f_X11_barred_b19 f_X11_barred_b69 f_X11_barred_b74 oBarred
  have h' := h.t0 ok 0
  rw [m_isLaw h', Option.bind_some]
  by_cases hl : lOk s l = true
  · by_cases hw : dIn w 0 99 = true
    · by_cases hk : shOk kd j = true
      · by_cases h1 : dIn a 1 9999 = true
        · by_cases h2 : dIn far 0 1000000 = true
          · simp only [hl, hw, hk, h1, h2, Bool.and_self, ↓reduceIte, Option.bind_some, bt_ne, m_bad0 (th0 M 0), m_in, m_isShape]
            obtain ⟨i, hi, rfl, hget, hR, hwf⟩ := h'.go ok hl
            obtain ⟨q, hq, rfl⟩ := shOk_of hk
            have okd := ok.dk
            obtain ⟨g1, g2, g3⟩ := ok.f
            have hz0 := th0 M 0
            generalize hM0 : mU M 250 0 0 = M0 at h' hz0 hR
            have hlo0 : Lo M M0 := by rw [← hM0]; exact lo_t0
            refine tot.bd (t_begins h'.d okd hq j a) ?_
            rintro r M1 ⟨hK1, hM1, hf1⟩
            have okB := okd.beg (nI q) j a
            have b0 : sBeg (rD (sRd s)) (pcs (sRd s)) (nI q) j a 0 0 = rD (sRd s) 0 0 := beg_0
            have bb2 : ∀ k, sBeg (rD (sRd s)) (pcs (sRd s)) (nI q) j a 2 k = rD (sRd s) 2 k := fun k => by simp [sBeg, sSh, sRest]
            have r2 : ∀ t k, sTr s (nI i) w (nI q) j a t 2 k = rD (sRd s) 2 k := fun t k => by
              induction t with
              | zero => exact bb2 k
              | succ t ih => exact (tick_2 k).trans ih
            have hrow : ∀ t, R1 (sRow s (nI i) w (nI q) j a far t) := fun t => by
              rcases fFst_r (p := sOffR (sRd s) (sTr s (nI i) w (nI q) j a t) (pcs (sRd s)) (nI t) far) (cfl (sRd s)) 0 with h | ⟨y, _, h2, h3⟩
              · exact Or.inl h
              · exact Or.inr ⟨y, by omega, h3⟩
            have hrng : ∀ t, R1 (sBar (sRow s (nI i) w (nI q) j a far) t) := fun t => by
              induction t with
              | zero => exact Or.inl rfl
              | succ t ih =>
                unfold sBar
                split
                · exact ih
                · split
                  · exact hrow (t + 1)
                  · split
                    · exact ih
                    · exact hrow (t + 1)
            refine tot.loopFU (σ := Int32 × Int32 × Mem) (fun m s9 => f_X11_barred_h98 250 (nI i) w (nI q) j a far m s9.1 s9.2.1 s9.2.2) 100 (fun t s9 => s9.1 = sBar (sRow s (nI i) w (nI q) j a far) t ∧ s9.2.1 = nI (t + 1) ∧ MD s9.2.2 (sTr s (nI i) w (nI q) j a t) ∧ KD s9.2.2 (rD (sRd s)) ∧ GF M0 s9.2.2) _ (by omega) ((-1), 1, M1) ⟨rfl, rfl, hM1, hK1, hf1⟩ ?_ ?_
            · rintro m t ⟨e, x, M2⟩ ht ⟨he, hx, hM2, hK2, hf2⟩ hnext
              dsimp only at he hx hM2 hK2 hf2
              subst hx
              show tot (f_X11_barred_h98 250 (nI i) w (nI q) j a far (m + 1) e (nI (t + 1)) M2) _
              rw [f_X11_barred_h98, if_neg (show ¬ (100 : Int32) < nI _ from nI_nlt (a := 100) (by omega) (by omega))]
              refine tot.bd (t_tick (hd := 100) hi hM2 (okB.run t) (hR.gf hi hf2) hwf (hf2.h h'.1.2.2.2.1)) ?_
              rintro r3 M3 ⟨hM3, hf3⟩
              have hM3 : MD M3 (sTr s (nI i) w (nI q) j a (t + 1)) := hM3
              have hK3 := hK2.tf hf3
              have hf3 := hf2.tr hf3.g
              show tot (f_X11_barred_h114 250 (nI i) w (nI q) j a far (f_X11_barred_h98 250 (nI i) w (nI q) j a far m) FU e (nI (t + 1)) 0 M3) _
              have hee : R1 e := by rw [he]; exact hrng t
              rw [m_row hM3 (okB.run (t + 1)).1.1 okd.1.2.2 ⟨(hf3.2 31 (by omega) (by omega) (by omega) (by omega)).trans (h'.2.2.2.1.2.1.1.trans g1), fun f hf => by rw [hf3.1 _ (by omega) (by omega) (by omega)]; exact h'.2.2.2.1.2.2.1 f hf⟩ g2 g3 _ _ _ _ _ _ _ hee, nI_1]
              refine hnext (_, nI (t + 1 + 1), M3) ⟨?_, rfl, hM3, hK3, hf3⟩
              rw [he]
              rfl
            · rintro m ⟨e, x, M2⟩ ⟨he, hx, hM2, hK2, hf2⟩
              dsimp only at he hx hM2 hK2 hf2
              subst hx
              show tot (f_X11_barred_h98 250 (nI i) w (nI q) j a far (m + 1) e (nI (100 + 1)) M2) _
              rw [f_X11_barred_h98, if_pos (show (100 : Int32) < nI _ from nI_lt (a := 100) (by omega) (by omega))]
              refine tot.bd (t_back hK2 hM2 ((run_0 100).trans b0) (fun k _ => r2 100 k) okd.2.2.2.1.1) ?_
              rintro r3 M3 ⟨hM3, hf3⟩
              exact tot.ret ⟨⟨hf3.g.z (hf2.z hz0), he⟩, h'.gf ok hM3 (hf2.tr hf3.g), hlo0.tr (hf2.tr hf3.g).lo⟩
          · simp only [hl, hw, hk, h1, h2, Bool.and_false, ↓reduceIte, Option.bind_some, bt_ne, m_bad0 (th0 M 0), m_in, m_isShape, bf_eq, m_bad1 (th0 M 0) n2, n1]
            exact tot.ret ⟨th0 (mU M 250 0 0) 2, h'.t0 ok 2, lo_t0.tr lo_t0⟩
        · simp only [hl, hw, hk, h1, Bool.and_false, Bool.false_and, ↓reduceIte, Option.bind_some, bt_ne, m_bad0 (th0 M 0), m_in, m_isShape, bf_eq, m_bad1 (th0 M 0) n2, n1]
          exact tot.ret ⟨th0 (mU M 250 0 0) 2, h'.t0 ok 2, lo_t0.tr lo_t0⟩
      · simp only [hl, hw, hk, Bool.and_false, Bool.false_and, ↓reduceIte, Option.bind_some, bt_ne, m_bad0 (th0 M 0), m_in, m_isShape, bf_eq, m_bad1 (th0 M 0) n2, n1]
        exact tot.ret ⟨th0 (mU M 250 0 0) 2, h'.t0 ok 2, lo_t0.tr lo_t0⟩
    · simp only [hl, hw, Bool.false_and, ↓reduceIte, Option.bind_some, bt_ne, m_bad0 (th0 M 0), m_in, bf_eq, m_bad1 (th0 M 0) n2, n1]
      exact tot.ret ⟨th0 (mU M 250 0 0) 2, h'.t0 ok 2, lo_t0.tr lo_t0⟩
  · simp only [hl, ↓reduceIte, Option.bind_some, bf_eq, m_bad1 (th0 M 0) n1, n1]
    exact tot.ret ⟨th0 (mU M 250 0 0) 1, h'.t0 ok 1, lo_t0.tr lo_t0⟩
end MOPS
