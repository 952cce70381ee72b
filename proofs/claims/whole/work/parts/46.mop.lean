section MOPS
variable {M : Mem} {s : St}
theorem GF.z {M M' : Mem} (h : GF M M') (h0 : M 250 0 = 0) : M' 250 0 = 0 := (h.2 0 (by omega) (by omega) (by omega) (by omega)).trans h0
theorem GF.h {M M' : Mem} (h : GF M M') {v : Int32} (h0 : M 250 18 = v) : M' 250 18 = v := (h.2 18 (by omega) (by omega) (by omega) (by omega)).trans h0
theorem d0_99 : dIn 0 0 99 = true := by decide
theorem o_line (h : MS M s) (ok : SOK s) (l kd j : Int32) : MO M (f_X11_line M 250 l kd j) cdB (oLine s l kd j) := by
  unfold MO f_X11_line oLine
  have h' := h.t0 ok 0
  rw [m_badTrial h' (th0 M 0)]
  by_cases hl : lOk s l = true
  · by_cases hw : shOk kd j = true
    · simp only [hl, hw, d0_99, Bool.and_self, ↓reduceIte, Option.bind_some]
      obtain ⟨i, hi, rfl, hget, hR, hwf⟩ := h'.go ok hl
      obtain ⟨q, hq, rfl⟩ := shOk_of hw
      refine tot.bd (t_line (hd := 100) hi h'.d ok.dk hR hwf h'.1.2.2.2.1 hq j) ?_
      rintro r M2 ⟨rfl, hM2, hf2⟩
      exact tot.ret ⟨⟨hf2.z (th0 M 0), rfl⟩, h'.gf ok hM2 hf2, lo_t0.tr hf2.lo⟩
    · simp only [hl, hw, d0_99, Bool.and_false, ↓reduceIte, Option.bind_some, n1]
      exact tot.ret ⟨th0 (mU M 250 0 0) 2, h'.t0 ok 2, lo_t0.tr lo_t0⟩
  · simp only [hl, ↓reduceIte, Option.bind_some, n1]
    exact tot.ret ⟨th0 (mU M 250 0 0) 1, h'.t0 ok 1, lo_t0.tr lo_t0⟩
theorem o_why (h : MS M s) (ok : SOK s) (l w kd j : Int32) : MO M (f_X11_why M 250 l w kd j) cdB (oWhy s l w kd j) := by
  unfold MO f_X11_why oWhy
  have h' := h.t0 ok 0
  rw [m_badTrial h' (th0 M 0)]
  by_cases hl : lOk s l = true
  · by_cases hw : (dIn w 0 99 && shOk kd j) = true
    · simp only [hl, hw, ↓reduceIte, Option.bind_some]
      obtain ⟨i, hi, rfl, hget, hR, hwf⟩ := h'.go ok hl
      obtain ⟨q, hq, rfl⟩ := shOk_of (Bool.and_eq_true _ _ ▸ hw).2
      generalize hM0 : mU M 250 0 0 = M0 at h' hR
      have hlo0 : Lo M M0 := by rw [← hM0]; exact lo_t0
      have hz0 : M0 250 0 = 0 := by rw [← hM0]; exact th0 M 0
      have hg : ∀ a, sGrows (lw s (nI i)) w 100 (pcs (sRd s)) (rD (sRd s)) (nI q) j a = gr s (nI i) w 100 (nI q) j a := fun _ => rfl
      have hgr : ∀ (M1 : Mem), MD M1 (rD (sRd s)) → GF M0 M1 → ∀ a, tot (f_X11_growsBy M1 250 (nI i) w (nI q) j a) (fun r M' => r = b2 (gr s (nI i) w 100 (nI q) j a) ∧ MD M' (rD (sRd s)) ∧ GF M0 M') := fun M1 hM1 hf1 a => by
        refine tot.mono (t_grows (hd := 100) hi hM1 ok.dk (hR.gf hi hf1) hwf (hf1.h h'.1.2.2.2.1) hq j a) ?_
        rintro r M' ⟨h1, h2, h3⟩
        exact ⟨h1, h2, hf1.tr h3⟩
      have hfin : ∀ (M1 : Mem) (fed be : Bool), MD M1 (rD (sRd s)) → GF M0 M1 → tot (f_X11_why_b90 250 (nI i) w (nI q) j (b2 fed) (if be = true then 2 else 0) M1) (fun r M' => Rs cdB (.inl (b2 fed + (if be = true then 2 else 0))) r (M' 250 0) ∧ MS M' s ∧ Lo M M') := fun M1 fed be hM1 hf1 => tot.ret ⟨⟨hf1.z hz0, rfl⟩, h'.gf ok hM1 hf1, hlo0.tr hf1.lo⟩
      have hend : ∀ (M1 : Mem) (fed : Bool), MD M1 (rD (sRd s)) → GF M0 M1 → tot (f_X11_why_b53 250 (nI i) w (nI q) j (b2 fed) M1) (fun r M' => Rs cdB (.inl (b2 fed + (if (gr s (nI i) w 100 (nI q) j 1 && !(gr s (nI i) w 100 (nI q) j 1000)) = true then 2 else 0))) r (M' 250 0) ∧ MS M' s ∧ Lo M M') := by
        intro M1 fed hM1 hf1
        unfold f_X11_why_b53 f_X11_why_b89
        refine tot.bd (hgr M1 hM1 hf1 1) ?_
        rintro r M2 ⟨rfl, hM2, hf2⟩
        show tot (if b2 (gr s (nI i) w 100 (nI q) j 1) = 0 then _ else _) _
        cases gr s (nI i) w 100 (nI q) j 1 with
        | false =>
          rw [if_pos (by rfl)]
          exact hfin M2 fed false hM2 hf2
        | true =>
          rw [if_neg (by decide)]
          refine tot.bd (hgr M2 hM2 hf2 1000) ?_
          rintro r M3 ⟨rfl, hM3, hf3⟩
          show tot (if b2 (gr s (nI i) w 100 (nI q) j 1000) = 0 then _ else _) _
          cases gr s (nI i) w 100 (nI q) j 1000 with
          | false =>
            rw [if_pos (by rfl)]
            exact hfin M3 fed true hM3 hf3
          | true =>
            rw [if_neg (by decide)]
            exact hfin M3 fed false hM3 hf3
      unfold f_X11_why_b52
      refine tot.bd (hgr M0 h'.d GF.rf 100) ?_
      rintro r M2 ⟨rfl, hM2, hf2⟩
      show tot (if b2 (gr s (nI i) w 100 (nI q) j 100) = 0 then _ else _) _
      cases gr s (nI i) w 100 (nI q) j 100 with
      | false =>
        rw [if_pos (by rfl)]
        exact hend M2 false hM2 hf2
      | true =>
        rw [if_neg (by decide)]
        refine tot.bd (hgr M2 hM2 hf2 200) ?_
        rintro r M3 ⟨rfl, hM3, hf3⟩
        show tot (if b2 (gr s (nI i) w 100 (nI q) j 200) = 0 then _ else _) _
        cases gr s (nI i) w 100 (nI q) j 200 with
        | false =>
          rw [if_pos (by rfl)]
          exact hend M3 false hM3 hf3
        | true =>
          rw [if_neg (by decide)]
          exact hend M3 true hM3 hf3
    · simp only [hl, hw, ↓reduceIte, Option.bind_some, n1]
      exact tot.ret ⟨th0 (mU M 250 0 0) 2, h'.t0 ok 2, lo_t0.tr lo_t0⟩
  · simp only [hl, ↓reduceIte, Option.bind_some, n1]
    exact tot.ret ⟨th0 (mU M 250 0 0) 1, h'.t0 ok 1, lo_t0.tr lo_t0⟩
theorem o_first (h : MS M s) (ok : SOK s) (l w kd j b : Int32) : MO M (f_X11_first M 250 l w kd j b) cdB (oFirst s l w kd j b) := by
  unfold MO f_X11_first oFirst
  have h' := h.t0 ok 0
  rw [m_badTrial h' (th0 M 0)]
  by_cases hl : lOk s l = true
  · by_cases hw : (dIn w 0 99 && shOk kd j) = true
    · simp only [hl, hw, ↓reduceIte, Option.bind_some]
      obtain ⟨i, hi, rfl, hget, hR, hwf⟩ := h'.go ok hl
      obtain ⟨q, hq, rfl⟩ := shOk_of (Bool.and_eq_true _ _ ▸ hw).2
      refine tot.bd (t_first (hd := 100) (w := w) hi h'.d ok.dk hR hwf h'.1.2.2.2.1 hq j b) ?_
      rintro r M2 ⟨hM2, hf2, hc⟩
      have hz := hf2.z (th0 M 0)
      have hS := h'.gf ok hM2 hf2
      have hlo := lo_t0.tr hf2.lo
      rcases hc with ⟨t, z, t0, t1, z8, c1, c2, rfl⟩ | ⟨c1, rfl⟩
      · obtain ⟨d1, d2, d3⟩ := i100_d t t1 z z8
        show tot (if nI (100 * t + z) = (-1) then _ else _) _
        rw [if_neg d3, d1]
        refine tot.ret ⟨⟨hz, ?_⟩, hS, hlo⟩
        have hne : ¬ sBk s (nI i) w (nI q) j b t = (-1) := fun y => by
          have e : sBk s (nI i) w (nI q) j b t = nI z := c2
          rw [e] at y
          exact absurd (show nI z < 0 by rw [y]; decide) (i_lt0 (by omega))
        rw [fFst_hit (k := t - 1) (by omega) (fun y hy => by
          have e : sBk s (nI i) w (nI q) j b (1 + y) = (-1) := c1 y (by omega)
          rw [e]; rfl) (by rw [show 1 + (t - 1) = t by omega]; simp [hne]), show 1 + (t - 1) = t by omega]
      · show tot (if (-1 : Int32) = (-1) then _ else _) _
        rw [if_pos rfl]
        refine tot.ret ⟨⟨hz, ?_⟩, hS, hlo⟩
        rw [fFst_no (fun y hy => by
          have e : sBk s (nI i) w (nI q) j b (1 + y) = (-1) := c1 y (by omega)
          rw [e]; rfl)]
    · simp only [hl, hw, ↓reduceIte, Option.bind_some, n1]
      exact tot.ret ⟨th0 (mU M 250 0 0) 2, h'.t0 ok 2, lo_t0.tr lo_t0⟩
  · simp only [hl, ↓reduceIte, Option.bind_some, n1]
    exact tot.ret ⟨th0 (mU M 250 0 0) 1, h'.t0 ok 1, lo_t0.tr lo_t0⟩
theorem o_where (h : MS M s) (ok : SOK s) (l w kd j b : Int32) : MO M (f_X11_where M 250 l w kd j b) cdB (oWhere s l w kd j b) := by
  unfold MO f_X11_where oWhere
  have h' := h.t0 ok 0
  rw [m_badTrial h' (th0 M 0)]
  by_cases hl : lOk s l = true
  · by_cases hw : (dIn w 0 99 && shOk kd j) = true
    · simp only [hl, hw, ↓reduceIte, Option.bind_some]
      obtain ⟨i, hi, rfl, hget, hR, hwf⟩ := h'.go ok hl
      obtain ⟨q, hq, rfl⟩ := shOk_of (Bool.and_eq_true _ _ ▸ hw).2
      refine tot.bd (t_first (hd := 100) (w := w) hi h'.d ok.dk hR hwf h'.1.2.2.2.1 hq j b) ?_
      rintro r M2 ⟨hM2, hf2, hc⟩
      have hz := hf2.z (th0 M 0)
      have hS := h'.gf ok hM2 hf2
      have hlo := lo_t0.tr hf2.lo
      rcases hc with ⟨t, z, t0, t1, z8, c1, c2, rfl⟩ | ⟨c1, rfl⟩
      · obtain ⟨d1, d2, d3⟩ := i100_d t t1 z z8
        show tot (if nI (100 * t + z) = (-1) then _ else _) _
        rw [if_neg d3, d2]
        refine tot.ret ⟨⟨hz, ?_⟩, hS, hlo⟩
        have e2 : sBk s (nI i) w (nI q) j b t = nI z := c2
        have hne : ¬ sBk s (nI i) w (nI q) j b t = (-1) := fun y => by
          rw [e2] at y
          exact absurd (show nI z < 0 by rw [y]; decide) (i_lt0 (by omega))
        rw [fVal_hit (k := t - 1) (by omega) (fun y hy => c1 y (by omega)) (by rw [show 1 + (t - 1) = t by omega]; exact hne), show 1 + (t - 1) = t by omega]
        exact e2.symm
      · show tot (if (-1 : Int32) = (-1) then _ else _) _
        rw [if_pos rfl]
        refine tot.ret ⟨⟨hz, ?_⟩, hS, hlo⟩
        rw [fVal_no (fun y hy => c1 y (by omega))]
    · simp only [hl, hw, ↓reduceIte, Option.bind_some, n1]
      exact tot.ret ⟨th0 (mU M 250 0 0) 2, h'.t0 ok 2, lo_t0.tr lo_t0⟩
  · simp only [hl, ↓reduceIte, Option.bind_some, n1]
    exact tot.ret ⟨th0 (mU M 250 0 0) 1, h'.t0 ok 1, lo_t0.tr lo_t0⟩
theorem o_calm (h : MS M s) (ok : SOK s) (l w : Int32) : MO M (f_X11_calm M 250 l w) cdB (oCalm s l w) := by
  have hsh : shOk 0 1 = true := by decide
  unfold MO f_X11_calm oCalm
  have h' := h.t0 ok 0
  rw [m_badTrial h' (th0 M 0)]
  by_cases hl : lOk s l = true
  · by_cases hw : dIn w 0 99 = true
    · simp only [hl, hw, hsh, Bool.and_self, ↓reduceIte, Option.bind_some]
      obtain ⟨i, hi, rfl, hget, hR, hwf⟩ := h'.go ok hl
      refine tot.bd (t_calm (w := w) hi h'.d ok.dk hR hwf h'.1.2.2.2.1) ?_
      rintro r M2 ⟨rfl, hM2, hf2⟩
      show tot (if vp_nar .boolean (b2 _) = b2 _ then _ else _) _
      rw [if_pos (nar_b2 _)]
      exact tot.ret ⟨⟨hf2.z (th0 M 0), rfl⟩, h'.gf ok hM2 hf2, lo_t0.tr hf2.lo⟩
    · simp only [hl, hw, Bool.false_and, ↓reduceIte, Option.bind_some, n1]
      exact tot.ret ⟨th0 (mU M 250 0 0) 2, h'.t0 ok 2, lo_t0.tr lo_t0⟩
  · simp only [hl, ↓reduceIte, Option.bind_some, n1]
    exact tot.ret ⟨th0 (mU M 250 0 0) 1, h'.t0 ok 1, lo_t0.tr lo_t0⟩
/-- one step of the model's span -/
def sSp1 (b x v : Int32) : Int32 := if v = (-1) then x else if x = (-1) then v else if b = 0 then (if x ≤ v then x else v) else (if v ≤ x then x else v)
theorem sp_eq (b p q r : Int32) (hp : p = (-1) ∨ 0 ≤ p) (hq : q = (-1) ∨ 0 ≤ q) (hr : r = (-1) ∨ 0 ≤ r) : sSp1 b (sSp1 b (sSp1 b (-1) p) q) r = if b = 0 then sLl p (sLl q r) else sMx2 p (sMx2 q r) := by
  have hneg : ∀ x : Int32, 0 ≤ x → ¬ x = (-1) := fun x h z => by rw [z] at h; revert h; decide
  have hlt : ∀ x : Int32, 0 ≤ x → (-1) < x := fun x h => Int32.lt_of_lt_of_le (by decide) h
  have hnlt : ∀ x : Int32, 0 ≤ x → ¬ x < (-1) := fun x h z => Int32.not_lt.mpr h (Int32.lt_trans z (by decide))
  have hmx : ∀ x y : Int32, (if x ≤ y then y else x) = if x < y then y else x := fun x y => by
    by_cases h1 : x < y
    · rw [if_pos h1, if_pos (Int32.le_of_lt h1)]
    · rw [if_neg h1]
      by_cases h2 : x ≤ y
      · rw [if_pos h2]; exact (Int32.le_antisymm h2 (Int32.not_lt.mp h1)).symm
      · rw [if_neg h2]
  have hmx2 : ∀ x y : Int32, (if y ≤ x then x else y) = if x < y then y else x := fun x y => by
    by_cases h1 : x < y
    · rw [if_pos h1, if_neg (Int32.not_le.mpr h1)]
    · rw [if_neg h1, if_pos (Int32.not_lt.mp h1)]
  have hmn : ∀ x y : Int32, (if x ≤ y then x else y) = if y < x then y else x := fun x y => by
    by_cases h1 : y < x
    · rw [if_pos h1, if_neg (Int32.not_le.mpr h1)]
    · rw [if_neg h1, if_pos (Int32.not_lt.mp h1)]
  have hm3 : ∀ x y z : Int32, (if z < (if y < x then y else x) then z else (if y < x then y else x)) = (if (if z < y then z else y) < x then (if z < y then z else y) else x) := fun x y z => by
    by_cases h1 : y < x
    · rw [if_pos h1]
      by_cases h2 : z < y
      · rw [if_pos h2, if_pos (Int32.lt_trans h2 h1)]
      · rw [if_neg h2, if_pos h1]
    · rw [if_neg h1]
      by_cases h2 : z < y
      · rw [if_pos h2]
      · rw [if_neg h2, if_neg h1, if_neg]
        exact Int32.not_lt.mpr (Int32.le_trans (Int32.not_lt.mp h1) (Int32.not_lt.mp h2))
  have hM3 : ∀ x y z : Int32, (if (if x < y then y else x) < z then z else (if x < y then y else x)) = (if x < (if y < z then z else y) then (if y < z then z else y) else x) := fun x y z => by
    by_cases h1 : y < z
    · rw [if_pos h1]
      by_cases h2 : x < y
      · rw [if_pos h2, if_pos h1, if_pos (Int32.lt_trans h2 h1)]
      · rw [if_neg h2]
    · rw [if_neg h1]
      by_cases h2 : x < y
      · rw [if_pos h2, if_neg h1]
      · rw [if_neg h2, if_neg]
        exact Int32.not_lt.mpr (Int32.le_trans (Int32.not_lt.mp h1) (Int32.not_lt.mp h2))
  by_cases hb : b = 0
  · rw [if_pos hb]
    rcases hp with rfl | hp <;> rcases hq with rfl | hq <;> rcases hr with rfl | hr
    · unfold sSp1 sLl sMx2; simp
    · have := hneg r hr; have := hlt r hr; unfold sSp1 sLl sMx2; simp [*]
    · have := hneg q hq; have := hlt q hq; have := hnlt q hq; unfold sSp1 sLl sMx2; simp [*]
    · have := hneg q hq; have h1 := hneg r hr
      have h3 : ¬ (if r < q then r else q) = (-1) := by split <;> assumption
      have h4 : (-1) < (if r < q then r else q) := by split; exact hlt r hr; exact hlt q hq
      unfold sSp1 sLl sMx2; simp only [hb, this, h1, h3, h4, ↓reduceIte, hmn]
    · have := hneg p hp; have := hlt p hp; have := hnlt p hp; unfold sSp1 sLl sMx2; simp [*]
    · have := hneg p hp; have h1 := hneg r hr; have h2 := hlt r hr; unfold sSp1 sLl sMx2; simp only [hb, this, h1, h2, ↓reduceIte, hmn]
    · have := hneg p hp; have h1 := hneg q hq; have h2 := hnlt q hq; unfold sSp1 sLl sMx2; simp only [hb, this, h1, h2, ↓reduceIte, hmn]
    · have := hneg p hp; have h1 := hneg q hq; have h2 := hneg r hr
      have h3 : ¬ (if q < p then q else p) = (-1) := by split <;> assumption
      have h4 : ¬ (if r < q then r else q) = (-1) := by split <;> assumption
      unfold sSp1 sLl sMx2; simp only [hb, this, h1, h2, h3, h4, ↓reduceIte, hmn, hm3]
  · rw [if_neg hb]
    rcases hp with rfl | hp <;> rcases hq with rfl | hq <;> rcases hr with rfl | hr
    · unfold sSp1 sMx2; simp
    · have := hneg r hr; have := hlt r hr; unfold sSp1 sMx2; simp [*]
    · have := hneg q hq; have := hlt q hq; have := hnlt q hq; unfold sSp1 sMx2; simp [*]
    · have := hneg q hq; have h1 := hneg r hr
      have h4 : (-1) < (if q < r then r else q) := by split; exact hlt r hr; exact hlt q hq
      unfold sSp1 sMx2; simp only [hb, this, h1, h4, ↓reduceIte, hmx2]
    · have := hneg p hp; have := hnlt p hp; unfold sSp1 sMx2; simp [*]
    · have := hneg p hp; have h1 := hneg r hr; have h2 := hlt r hr; unfold sSp1 sMx2; simp only [hb, this, h1, h2, ↓reduceIte, hmx2]
    · have := hneg p hp; have h1 := hneg q hq; have h2 := hnlt q hq; unfold sSp1 sMx2; simp only [hb, this, h1, h2, ↓reduceIte, hmx2]
    · have := hneg p hp; have h1 := hneg q hq; have h2 := hneg r hr
      have h3 : ¬ (if p < q then q else p) = (-1) := by split <;> assumption
      unfold sSp1 sMx2; simp only [hb, this, h1, h2, h3, ↓reduceIte, hmx2, hM3]
theorem line_r {A : List Nat} {hd : Int32} {n : Nat} {D : Dk} {kd j : Int32} : sLine A hd n D kd j = (-1) ∨ 0 ≤ sLine A hd n D kd j := by
  unfold sLine
  rcases fFst_r (p := fun i => sGrows A (nI i) hd n D kd j 100) 61 0 with h | ⟨q, _, h2, h3⟩
  · exact Or.inl h
  · rw [h3]; exact Or.inr (nI_pos' (by omega))
theorem o_span (h : MS M s) (ok : SOK s) (l kd j g b : Int32) : MO M (f_X11_span M 250 l kd j g b) cdB (oSpan s l kd j g b) := by
  unfold MO f_X11_span f_X11_span_b33 oSpan
  have h' := h.t0 ok 0
  rw [m_badTrial h' (th0 M 0)]
  by_cases hl : lOk s l = true
  · by_cases hw : shOk kd j = true
    · by_cases hg : dIn g 0 50 = true
      · simp only [hl, hw, hg, d0_99, Bool.and_self, ↓reduceIte, Option.bind_some, m_in, bt_ne, m_bad0 (th0 M 0)]
        obtain ⟨i, hi, rfl, hget, hR, hwf⟩ := h'.go ok hl
        obtain ⟨q, hq, rfl⟩ := shOk_of hw
        generalize hM0 : mU M 250 0 0 = M0 at h' hR
        have hlo0 : Lo M M0 := by rw [← hM0]; exact lo_t0
        have hz0 : M0 250 0 = 0 := by rw [← hM0]; exact th0 M 0
        have hstep : ∀ (m : Nat) (x x7 : Int32) (M1 : Mem), ¬ 2 ≤ x7 → MD M1 (rD (sRd s)) → GF M0 M1 → ∀ Q, (∀ M', MD M' (rD (sRd s)) → GF M0 M' → tot (f_X11_span_h48 250 (nI i) (nI q) j g b m (sSp1 b x (sLine (lw s (nI i)) (100 + x7 * g) (pcs (sRd s)) (rD (sRd s)) (nI q) j)) (x7 + 1) M') Q) → tot (f_X11_span_h48 250 (nI i) (nI q) j g b (m + 1) x x7 M1) Q := by
          intro m x x7 M1 hx hM1 hf1 Q hk
          rw [f_X11_span_h48, if_neg hx]
          have hM2 : MD (mU M1 250 18 (100 + x7 * g)) (rD (sRd s)) := hM1.t0 (by omega)
          refine tot.bd (t_line (hd := 100 + x7 * g) hi hM2 ok.dk ((hR.gf hi hf1).t0 hi) hwf (by rw [mU_at, if_pos ⟨rfl, rfl⟩]) hq j) ?_
          rintro r M3 ⟨rfl, hM3, hf3⟩
          have hf4 : GF M0 (mU M3 250 18 100) := by
            refine ⟨fun c h1 h2 h3 => ?_, fun c h1 h2 h3 h4 => ?_⟩
            · rw [u_ne h1, hf3.1 c h1 h2 h3, u_ne h1]; exact hf1.1 c h1 h2 h3
            · by_cases hc : c = 18
              · rw [hc, mU_at, if_pos ⟨rfl, rfl⟩]; exact h'.1.2.2.2.1.symm
              · rw [mU_at, if_neg (fun z => hc z.2), hf3.2 c h1 h2 h3 h4, mU_at, if_neg (fun z => hc z.2)]; exact hf1.2 c h1 h2 h3 h4
          have hM4 : MD (mU M3 250 18 100) (rD (sRd s)) := hM3.t0 (by omega)
          have hk := hk _ hM4 hf4
          unfold f_X11_span_b119 f_X11_span_b115 f_X11_span_b119
          show tot (if sLine (lw s (nI i)) (100 + x7 * g) (pcs (sRd s)) (rD (sRd s)) (nI q) j = (-1) then _ else if x = (-1) then _ else if b = 0 then (if x ≤ sLine (lw s (nI i)) (100 + x7 * g) (pcs (sRd s)) (rD (sRd s)) (nI q) j then _ else _) else (if sLine (lw s (nI i)) (100 + x7 * g) (pcs (sRd s)) (rD (sRd s)) (nI q) j ≤ x then _ else _)) _
          unfold sSp1 at hk
          by_cases z1 : sLine (lw s (nI i)) (100 + x7 * g) (pcs (sRd s)) (rD (sRd s)) (nI q) j = (-1)
          · rw [if_pos z1] at hk ⊢; exact hk
          rw [if_neg z1] at hk ⊢
          by_cases z2 : x = (-1)
          · rw [if_pos z2] at hk ⊢; exact hk
          rw [if_neg z2] at hk ⊢
          by_cases z3 : b = 0
          · rw [if_pos z3] at hk ⊢
            by_cases z4 : x ≤ sLine (lw s (nI i)) (100 + x7 * g) (pcs (sRd s)) (rD (sRd s)) (nI q) j
            · rw [if_pos z4] at hk ⊢; exact hk
            · rw [if_neg z4] at hk ⊢; exact hk
          · rw [if_neg z3] at hk ⊢
            by_cases z4 : sLine (lw s (nI i)) (100 + x7 * g) (pcs (sRd s)) (rD (sRd s)) (nI q) j ≤ x
            · rw [if_pos z4] at hk ⊢; exact hk
            · rw [if_neg z4] at hk ⊢; exact hk
        unfold FU
        refine hstep 99999 _ _ M0 (by decide) h'.d GF.rf _ (fun M1 hM1 hf1 => ?_)
        rw [show (-1 : Int32) + 1 = 0 by decide]
        refine hstep 99998 _ _ M1 (by decide) hM1 hf1 _ (fun M2 hM2 hf2 => ?_)
        rw [show (0 : Int32) + 1 = 1 by decide]
        refine hstep 99997 _ _ M2 (by decide) hM2 hf2 _ (fun M3 hM3 hf3 => ?_)
        rw [show (1 : Int32) + 1 = 2 by decide, f_X11_span_h48, if_pos (by decide)]
        refine tot.ret ⟨⟨hf3.z hz0, ?_⟩, h'.gf ok hM3 hf3, hlo0.tr hf3.lo⟩
        rw [sp_eq b _ _ _ line_r line_r line_r, Int32.zero_mul, Int32.add_zero, Int32.one_mul, show 100 + (-1) * g = 100 - g by rw [Int32.neg_mul, Int32.one_mul, ← Int32.sub_eq_add_neg]]
      · simp only [hl, hw, hg, d0_99, Bool.and_self, Bool.and_false, ↓reduceIte, Option.bind_some, m_in, bf_eq, m_bad1 (th0 M 0) n2, n1]
        exact tot.ret ⟨th0 (mU M 250 0 0) 2, h'.t0 ok 2, lo_t0.tr lo_t0⟩
    · simp only [hl, hw, d0_99, Bool.and_false, Bool.false_and, ↓reduceIte, Option.bind_some, n1]
      exact tot.ret ⟨th0 (mU M 250 0 0) 2, h'.t0 ok 2, lo_t0.tr lo_t0⟩
  · simp only [hl, ↓reduceIte, Option.bind_some, n1]
    exact tot.ret ⟨th0 (mU M 250 0 0) 1, h'.t0 ok 1, lo_t0.tr lo_t0⟩
end MOPS
