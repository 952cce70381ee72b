section KOPS
variable {M : Mem} {s : St}
theorem k_line (h : CS M s) (ok : SOK s) (l kd j : Int32) : KO M (f_X10_line M 0 l kd j) (oLine s l kd j) := by
  unfold KO f_X10_line oLine
  by_cases hl : lOk s l = true
  · by_cases hk : shOk kd j = true
    · simp only [q_law h ok, q_shape, Option.bind_some, hl, hk, ↓reduceIte, g09, g06, g11_0]
      obtain ⟨i, hi, rfl, hget, hL, hA, hwf⟩ := h.go ok hl
      obtain ⟨hn, h2, h8⟩ := ok.n
      rw [i_cl (by omega)]
      refine tot.bd (r_take (n := pcs (sRd s)) (by omega) hA h.d) ?_
      rintro r M1 ⟨_, hT1, hf1⟩
      refine tot.bd (r_line (h := 100) hL (by omega) hT1 hwf hn h2 h8 kd j) ?_
      rintro r M2 ⟨rfl, hT2, hf2⟩
      exact tot.ret ⟨rfl, h.tr ok hget (hf1.tr hf2) hT2.2, (hf1.tr hf2).hi hi⟩
    · simp only [q_law h ok, q_shape, Option.bind_some, hl, hk, ↓reduceIte]
      exact tot.ret ⟨rfl, h, fun _ _ => rfl⟩
  · simp only [q_law h ok, Option.bind_some, hl, ↓reduceIte]
    exact tot.ret ⟨rfl, h, fun _ _ => rfl⟩
theorem k_span (h : CS M s) (ok : SOK s) (l kd j q b : Int32) : KO M (f_X10_span M 0 l kd j q b) (oSpan s l kd j q b) := by
  unfold KO f_X10_span oSpan
  by_cases hl : lOk s l = true
  · by_cases hk : shOk kd j = true
    · by_cases hq : dIn q 0 50 = true
      · simp only [q_law h ok, q_shape, q_in, q_dem, Option.bind_some, hl, hk, hq, Bool.and_self, ↓reduceIte, g09, g06, g11_0]
        obtain ⟨i, hi, rfl, hget, hL, hA, hwf⟩ := h.go ok hl
        obtain ⟨hn, h2, h8⟩ := ok.n
        rw [i_cl (by omega)]
        refine tot.bd (r_take (n := pcs (sRd s)) (by omega) hA h.d) ?_
        rintro r M1 ⟨_, hT1, hf1⟩
        refine tot.bd (r_line (h := 100 - q) hL (by omega) hT1 hwf hn h2 h8 kd j) ?_
        rintro r M2 ⟨rfl, hT2, hf2⟩
        refine tot.bd (r_line (h := 100) hL (by omega) hT2 hwf hn h2 h8 kd j) ?_
        rintro r M3 ⟨rfl, hT3, hf3⟩
        refine tot.bd (r_line (h := 100 + q) hL (by omega) hT3 hwf hn h2 h8 kd j) ?_
        rintro r M4 ⟨rfl, hT4, hf4⟩
        have hf := ((hf1.tr hf2).tr hf3).tr hf4
        have hll : ∀ (M : Mem) (x y : Int32), f_X10_leastLine M x y = some (sLl x y, M) := fun M x y => by
          unfold f_X10_leastLine f_X10_leastLine_b10 sLl sMx2
          split
          · rfl
          · split <;> rfl
        show tot (if b = 0 then _ else _) _
        by_cases hb : b = 0
        · rw [if_pos hb, hll, Option.bind_some]
          show tot ((f_X10_leastLine M4 _ _).bind _) _
          rw [hll, Option.bind_some]
          refine tot.ret ⟨?_, h.tr ok hget hf hT4.2, hf.hi hi⟩
          rw [if_pos hb]
        · rw [if_neg hb]
          refine tot.ret ⟨?_, h.tr ok hget hf hT4.2, hf.hi hi⟩
          rw [if_neg hb]
          rfl
      · simp only [q_law h ok, q_shape, q_in, q_dem, Option.bind_some, hl, hk, hq, Bool.and_false, ↓reduceIte]
        exact tot.ret ⟨rfl, h, fun _ _ => rfl⟩
    · simp only [q_law h ok, q_shape, Option.bind_some, hl, hk, Bool.false_and, ↓reduceIte]
      exact tot.ret ⟨rfl, h, fun _ _ => rfl⟩
  · simp only [q_law h ok, Option.bind_some, hl, ↓reduceIte]
    exact tot.ret ⟨rfl, h, fun _ _ => rfl⟩
theorem k_why (h : CS M s) (ok : SOK s) (l w kd j : Int32) : KO M (f_X10_why M 0 l w kd j) (oWhy s l w kd j) := by
  unfold KO f_X10_why oWhy
  by_cases hl : lOk s l = true
  · by_cases hw : dIn w 0 99 = true
    · by_cases hk : shOk kd j = true
      · simp only [q_law h ok, q_wind, q_shape, Option.bind_some, hl, hw, hk, Bool.and_self, ↓reduceIte, g09, g06, g11_0]
        obtain ⟨i, hi, rfl, hget, hL, hA, hwf⟩ := h.go ok hl
        obtain ⟨hn, h2, h8⟩ := ok.n
        rw [i_cl (by omega)]
        have hg : ∀ a, sGrows (lw s (nI i)) w 100 (pcs (sRd s)) (rD (sRd s)) kd j a = gr s (nI i) w 100 kd j a := fun _ => rfl
        refine tot.bd (r_take (n := pcs (sRd s)) (by omega) hA h.d) ?_
        rintro r M1 ⟨_, hT1, hf1⟩
        have hend : ∀ (fed : Bool) (M2 : Mem), TI (pcs (sRd s)) (rD (sRd s)) (92 + 5 * i) (lw s (nI i)) M2 → Fr (92 + 5 * i) M M2 → tot (f_X10_why_b71 0 (nI i) w kd j (b2 fed) (92 + 5 * i) M2) (fun r M' => r = .inl (b2 fed + (if (gr s (nI i) w 100 kd j 1 && !(gr s (nI i) w 100 kd j 1000)) = true then 2 else 0)) ∧ CS M' s ∧ Hi M M') := by
          intro fed M2 hT2 hf2
          have hfin : ∀ (be : Bool) (M3 : Mem), TI (pcs (sRd s)) (rD (sRd s)) (92 + 5 * i) (lw s (nI i)) M3 → Fr (92 + 5 * i) M M3 → tot (f_X10_why_b112 0 (nI i) w kd j (b2 be) (b2 fed) M3) (fun r M' => r = .inl (b2 fed + (if be = true then 2 else 0)) ∧ CS M' s ∧ Hi M M') := by
            intro be M3 hT3 hf3
            refine tot.eq (o' := some (.inl (b2 fed + (if be = true then 2 else 0)), M3)) ?_ (tot.ret ⟨rfl, h.tr ok hget hf3 hT3.2, hf3.hi hi⟩)
            cases fed <;> cases be <;> rfl
          unfold f_X10_why_b71 f_X10_why_b111
          refine tot.bd (r_grows hL (by omega) hT2 hwf hn h2 h8 kd j 1) ?_
          rintro r M3 ⟨rfl, hT3, hf3⟩
          rw [hg]
          show tot (if b2 (gr s (nI i) w 100 kd j 1) = 0 then _ else _) _
          cases gr s (nI i) w 100 kd j 1 with
          | false =>
            rw [if_pos (by rfl)]
            exact hfin false M3 hT3 (hf2.tr hf3)
          | true =>
            rw [if_neg (by decide)]
            refine tot.bd (r_grows hL (by omega) hT3 hwf hn h2 h8 kd j 1000) ?_
            rintro r M4 ⟨rfl, hT4, hf4⟩
            rw [hg]
            show tot (if b2 (gr s (nI i) w 100 kd j 1000) = 0 then _ else _) _
            cases gr s (nI i) w 100 kd j 1000 with
            | false =>
              rw [if_pos (by rfl)]
              exact hfin true M4 hT4 ((hf2.tr hf3).tr hf4)
            | true =>
              rw [if_neg (by decide)]
              exact hfin false M4 hT4 ((hf2.tr hf3).tr hf4)
        unfold f_X10_why_b70
        refine tot.bd (r_grows hL (by omega) hT1 hwf hn h2 h8 kd j 100) ?_
        rintro r M2 ⟨rfl, hT2, hf2⟩
        rw [hg]
        show tot (if b2 (gr s (nI i) w 100 kd j 100) = 0 then _ else _) _
        cases gr s (nI i) w 100 kd j 100 with
        | false =>
          rw [if_pos (by rfl)]
          exact hend false M2 hT2 (hf1.tr hf2)
        | true =>
          rw [if_neg (by decide)]
          refine tot.bd (r_grows hL (by omega) hT2 hwf hn h2 h8 kd j 200) ?_
          rintro r M3 ⟨rfl, hT3, hf3⟩
          rw [hg]
          show tot (if b2 (gr s (nI i) w 100 kd j 200) = 0 then _ else _) _
          cases gr s (nI i) w 100 kd j 200 with
          | false =>
            rw [if_pos (by rfl)]
            exact hend false M3 hT3 ((hf1.tr hf2).tr hf3)
          | true =>
            rw [if_neg (by decide)]
            exact hend true M3 hT3 ((hf1.tr hf2).tr hf3)
      · simp only [q_law h ok, q_wind, q_shape, Option.bind_some, hl, hw, hk, Bool.and_false, ↓reduceIte]
        exact tot.ret ⟨rfl, h, fun _ _ => rfl⟩
    · simp only [q_law h ok, q_wind, q_shape, Option.bind_some, hl, hw, Bool.false_and, ↓reduceIte]
      exact tot.ret ⟨rfl, h, fun _ _ => rfl⟩
  · simp only [q_law h ok, Option.bind_some, hl, ↓reduceIte]
    exact tot.ret ⟨rfl, h, fun _ _ => rfl⟩
theorem k_slip (h : CS M s) (ok : SOK s) (l w j : Int32) : KO M (f_X10_slip M 0 l w j) (oSlip s l w j) := by
  unfold KO f_X10_slip oSlip
  by_cases hl : lOk s l = true
  · by_cases hw : dIn w 0 99 = true
    · by_cases hk : shOk 1 j = true
      · simp only [q_law h ok, q_wind, q_shape, Option.bind_some, hl, hw, hk, Bool.and_self, ↓reduceIte, g09, g06, g11_0]
        obtain ⟨i, hi, rfl, hget, hL, hA, hwf⟩ := h.go ok hl
        obtain ⟨hn, h2, h8⟩ := ok.n
        rw [i_cl (by omega)]
        refine tot.bd (r_take (n := pcs (sRd s)) (by omega) hA h.d) ?_
        rintro r M1 ⟨_, hT1, hf1⟩
        refine tot.bd (r_grows hL (by omega) hT1 hwf hn h2 h8 1 j 100) ?_
        rintro r M2 ⟨rfl, ⟨⟨T, hR2, hl2⟩, hA2⟩, hf2⟩
        show tot ((f_X1_dropStays M2 58).bind _) _
        have hdr : f_X1_dropStays M2 58 = some (0, mSet M2 (58 + 12) 8 (fun _ => 0)) := by
          unfold f_X1_dropStays
          rw [show gRf 58 7 = gRf 58 (2 + 5) from rfl, dk_58.fl (j := 5) (by decide), Option.bind_some]
          rfl
        rw [hdr, Option.bind_some]
        have hT3 : TI (pcs (sRd s)) (mSet (rD (sRd s)) 12 8 (fun _ => 0)) (92 + 5 * i) (lw s (nI i)) (mSet M2 (58 + 12) 8 (fun _ => 0)) := by
          refine ⟨⟨_, hR2.set 12 8 (fun _ => 0), ⟨?_, fun k hk => ?_, fun k hk => ?_, fun k h1 h2 => ?_⟩⟩, hA2.fr ?_ ?_⟩
          · simpa [mSet_at] using hl2.1
          · simpa [mSet_at] using hl2.2.1 k hk
          · simp [mSet_at, show k < 8 by omega]
          · simp [mSet_at, show k < 8 by omega]
          · rw [mSet_ne (by omega)]
          · exact mSet_ne (by omega)
        have hf3 : Fr (92 + 5 * i) M (mSet M2 (58 + 12) 8 (fun _ => 0)) := (hf1.tr hf2).tr (fun b h1 h2 => mSet_ne (by omega))
        refine tot.bd (r_grows hL (by omega) hT3 hwf (by simpa [mSet_at] using hn) h2 h8 1 j 100) ?_
        rintro r M4 ⟨rfl, hT4, hf4⟩
        refine tot.eq (o' := some (.inl (b2 (gr s (nI i) w 100 1 j 100) + (if sGrows (lw s (nI i)) w 100 (pcs (sRd s)) (mSet (rD (sRd s)) 12 8 (fun _ => 0)) 1 j 100 = true then 2 else 0)), M4)) ?_ (tot.ret ⟨rfl, h.tr ok hget (hf3.tr hf4) hT4.2, (hf3.tr hf4).hi hi⟩)
        unfold f_X10_slip_b77 f_X10_slip_b87 gr
        show (if b2 (sGrows (lw s (nI i)) w 100 (pcs (sRd s)) (rD (sRd s)) 1 j 100) = 0 then _ else _) = _
        cases sGrows (lw s (nI i)) w 100 (pcs (sRd s)) (rD (sRd s)) 1 j 100 <;> cases sGrows (lw s (nI i)) w 100 (pcs (sRd s)) (mSet (rD (sRd s)) 12 8 (fun _ => 0)) 1 j 100 <;> rfl
      · simp only [q_law h ok, q_wind, q_shape, Option.bind_some, hl, hw, hk, Bool.and_false, ↓reduceIte]
        exact tot.ret ⟨rfl, h, fun _ _ => rfl⟩
    · simp only [q_law h ok, q_wind, q_shape, Option.bind_some, hl, hw, Bool.false_and, ↓reduceIte]
      exact tot.ret ⟨rfl, h, fun _ _ => rfl⟩
  · simp only [q_law h ok, Option.bind_some, hl, ↓reduceIte]
    exact tot.ret ⟨rfl, h, fun _ _ => rfl⟩
theorem k_calm (h : CS M s) (ok : SOK s) (l w : Int32) : KO M (f_X10_calm M 0 l w) (oCalm s l w) := by
  unfold KO f_X10_calm oCalm
  by_cases hl : lOk s l = true
  · by_cases hw : dIn w 0 99 = true
    · simp only [q_law h ok, q_wind, Option.bind_some, hl, hw, ↓reduceIte, g09, g06, g11_0]
      obtain ⟨i, hi, rfl, hget, hL, hA, hwf⟩ := h.go ok hl
      obtain ⟨hn, h2, h8⟩ := ok.n
      rw [i_cl (by omega)]
      refine tot.bd (r_take (n := pcs (sRd s)) (by omega) hA h.d) ?_
      rintro r M1 ⟨_, hT1, hf1⟩
      obtain ⟨v, hv, rfl⟩ := dIn_nI (n := 99) hw (by omega)
      have hu := r_upTo hL (by omega) hT1 hwf hn h2 h8 v 1 (by omega) (by omega)
      rw [Nat.add_sub_cancel] at hu
      refine tot.bd hu ?_
      rintro r M2 ⟨rfl, hT2, hf2⟩
      refine tot.eq (o' := some (.inl (b2 (sCalm (lw s (nI i)) (nI v) (pcs (sRd s)) (rD (sRd s)))), M2)) ?_ (tot.ret ⟨rfl, h.tr ok hget (hf1.tr hf2) hT2.2, (hf1.tr hf2).hi hi⟩)
      show (if fUp (fun i_1 => sCalm (lw s (nI i)) (nI i_1) (pcs (sRd s)) (rD (sRd s))) 1 v = nI v then _ else _) = _
      have hneq : ¬ nI v - 1 = nI v := fun z => by
        have : nI (v + 1) - 1 = nI v := nI_pred v
        rw [← nI_1] at this
        have h3 : nI v - 1 + 1 = nI v + 1 := by rw [z]
        rw [Int32.sub_add_cancel, nI_1] at h3
        have := (i_eq (by omega) (by omega)).mp h3
        omega
      unfold fUp fUp
      cases sCalm (lw s (nI i)) (nI v) (pcs (sRd s)) (rD (sRd s)) with
      | true => rw [if_pos (show (true = true) from rfl), nI_pred, if_pos (by rfl)]; rfl
      | false => rw [if_neg (show ¬ (false = true) by decide), if_neg hneq]; rfl
    · simp only [q_law h ok, q_wind, Option.bind_some, hl, hw, ↓reduceIte]
      exact tot.ret ⟨rfl, h, fun _ _ => rfl⟩
  · simp only [q_law h ok, Option.bind_some, hl, ↓reduceIte]
    exact tot.ret ⟨rfl, h, fun _ _ => rfl⟩
/-- a trial that runs till something breaks -/
theorem r_till (h : CS M s) (ok : SOK s) {i : Nat} (hi : i < 4) (hget : (sLs s)[i]? = some (lw s (nI i))) (hL : LwS (92 + 5 * i)) (hA : RLw M (92 + 5 * i) (lw s (nI i))) (hwf : cTs (lw s (nI i)) [] = some []) (w kd j b : Int32) : tot (f_X10_runTillBroken M 0 (92 + 5 * i) w kd j b) (fun r M' => (∃ t, t < 61 ∧ RD M' 58 (sTr s (nI i) w kd j 100 t) ∧ (∀ q, 1 + q < t → sBk s (nI i) w kd j b (1 + q) = (-1)) ∧ ((0 < t ∧ ¬ sBk s (nI i) w kd j b t = (-1) ∧ r = nI t) ∨ (t = 60 ∧ sBk s (nI i) w kd j b 60 = (-1) ∧ r = (-1)))) ∧ RLw M' (92 + 5 * i) (lw s (nI i)) ∧ Fr (92 + 5 * i) M M') := by
  obtain ⟨hn, h2, h8⟩ := ok.n
  unfold f_X10_runTillBroken
  rw [g09, g06, g11_0]
  refine tot.bd (r_take (n := pcs (sRd s)) (by omega) hA h.d) ?_
  rintro r M1 ⟨hR1, hT1, hf1⟩
  refine tot.bd (r_begin dk_58 hR1 hn h2 h8 kd j 100) ?_
  rintro r M2 ⟨hB, hf2⟩
  have hf2 : Fr (92 + 5 * i) M M2 := hf1.tr (Fr.dk (by omega) hf2)
  have hA2 : RLw M2 (92 + 5 * i) (lw s (nI i)) := hT1.2.fr (by
    have := ‹∀ b, (b < 58 ∨ 58 + 17 ≤ b) → M2 b = M1 b› (92 + 5 * i) (by omega)
    rw [this]) (‹∀ b, (b < 58 ∨ 58 + 17 ≤ b) → M2 b = M1 b› _ (by omega))
  have hr0 : ∀ t, sTr s (nI i) w kd j 100 t 0 0 = nI (pcs (sRd s)) := fun t => (run_0 t).trans (beg_0.trans hn)
  refine tot.loopFU (σ := Int32 × Mem) (fun m s9 => f_X10_runTillBroken_h29 0 (92 + 5 * i) w kd j b m s9.1 s9.2) 60 (fun t s9 => s9.1 = nI (t + 1) ∧ RD s9.2 58 (sTr s (nI i) w kd j 100 t) ∧ (∀ q, 1 + q ≤ t → sBk s (nI i) w kd j b (1 + q) = (-1)) ∧ RLw s9.2 (92 + 5 * i) (lw s (nI i)) ∧ Fr (92 + 5 * i) M s9.2) _ (by omega) (1, M2) ⟨rfl, hB, fun q hq => by omega, hA2, hf2⟩ ?_ ?_
  · rintro m t ⟨x, M3⟩ ht ⟨hx, hD, hh, hA3, hf3⟩ hnext
    dsimp only at hx hD hh hA3 hf3
    subst hx
    show tot (f_X10_runTillBroken_h29 0 (92 + 5 * i) w kd j b (m + 1) (nI (t + 1)) M3) _
    rw [f_X10_runTillBroken_h29, if_neg (show ¬ (60 : Int32) < nI _ from nI_nlt (a := 60) (by omega) (by omega)), g09]
    refine tot.bd (r_tick dk_58 hL (Or.inl (by omega)) hD hA3 hwf (hr0 t) h8) ?_
    rintro r2 M4 ⟨hD4, hA4, hf4⟩
    have hD4 : RD M4 58 (sTr s (nI i) w kd j 100 (t + 1)) := hD4
    have hf4 : Fr (92 + 5 * i) M M4 := hf3.tr (fun b h1 h2 => hf4 b (by omega) h2)
    show tot ((f_X1_leastBroken M4 58 b).bind _) _
    rw [r_least dk_58 hD4 (hr0 (t + 1)) h8 b, Option.bind_some]
    show tot (if sBk s (nI i) w kd j b (t + 1) = (-1) then _ else _) _
    rw [nI_1]
    by_cases hz : sBk s (nI i) w kd j b (t + 1) = (-1)
    · rw [if_pos hz]
      refine hnext (nI (t + 1 + 1), M4) ⟨rfl, hD4, fun q hq => ?_, hA4, hf4⟩
      by_cases hq2 : 1 + q ≤ t
      · exact hh q hq2
      · have : 1 + q = t + 1 := by omega
        rw [this]; exact hz
    · rw [if_neg hz]
      exact tot.ret ⟨⟨t + 1, by omega, hD4, fun q hq => hh q (by omega), Or.inl ⟨by omega, hz, rfl⟩⟩, hA4, hf4⟩
  · rintro m ⟨x, M3⟩ ⟨hx, hD, hh, hA3, hf3⟩
    dsimp only at hx hD hh hA3 hf3
    subst hx
    show tot (f_X10_runTillBroken_h29 0 (92 + 5 * i) w kd j b (m + 1) (nI (60 + 1)) M3) _
    rw [f_X10_runTillBroken_h29, if_pos (show (60 : Int32) < nI _ from nI_lt (a := 60) (by omega) (by omega))]
    exact tot.ret ⟨⟨60, by omega, hD, fun q hq => hh q (by omega), Or.inr ⟨rfl, hh 59 (by omega), rfl⟩⟩, hA3, hf3⟩
theorem k_first (h : CS M s) (ok : SOK s) (l w kd j b : Int32) : KO M (f_X10_first M 0 l w kd j b) (oFirst s l w kd j b) := by
  unfold KO f_X10_first oFirst
  by_cases hl : lOk s l = true
  · by_cases hw : dIn w 0 99 = true
    · by_cases hk : shOk kd j = true
      · simp only [q_law h ok, q_wind, q_shape, Option.bind_some, hl, hw, hk, Bool.and_self, ↓reduceIte]
        obtain ⟨i, hi, rfl, hget, hL, hA, hwf⟩ := h.go ok hl
        rw [i_cl (by omega)]
        refine tot.bd (r_till h ok hi hget hL hA hwf w kd j b) ?_
        rintro r M1 ⟨⟨t, ht, hD, hh, hc⟩, hA1, hf1⟩
        refine tot.ret ⟨?_, h.tr ok hget hf1 hA1, hf1.hi hi⟩
        rcases hc with ⟨h0, h1, rfl⟩ | ⟨rfl, h1, rfl⟩
        · rw [fFst_hit (k := t - 1) (by omega) (fun q hq => by rw [hh q (by omega)]; rfl) (by rw [show 1 + (t - 1) = t by omega]; simp [h1]), show 1 + (t - 1) = t by omega]
        · rw [fFst_no (fun q hq => ?_)]
          by_cases hq2 : 1 + q < 60
          · rw [hh q hq2]; rfl
          · rw [show 1 + q = 60 by omega, h1]; rfl
      · simp only [q_law h ok, q_wind, q_shape, Option.bind_some, hl, hw, hk, Bool.and_false, ↓reduceIte]
        exact tot.ret ⟨rfl, h, fun _ _ => rfl⟩
    · simp only [q_law h ok, q_wind, q_shape, Option.bind_some, hl, hw, Bool.false_and, ↓reduceIte]
      exact tot.ret ⟨rfl, h, fun _ _ => rfl⟩
  · simp only [q_law h ok, Option.bind_some, hl, ↓reduceIte]
    exact tot.ret ⟨rfl, h, fun _ _ => rfl⟩
theorem k_where (h : CS M s) (ok : SOK s) (l w kd j b : Int32) : KO M (f_X10_where M 0 l w kd j b) (oWhere s l w kd j b) := by
  unfold KO f_X10_where oWhere
  by_cases hl : lOk s l = true
  · by_cases hw : dIn w 0 99 = true
    · by_cases hk : shOk kd j = true
      · simp only [q_law h ok, q_wind, q_shape, Option.bind_some, hl, hw, hk, Bool.and_self, ↓reduceIte, g09]
        obtain ⟨i, hi, rfl, hget, hL, hA, hwf⟩ := h.go ok hl
        obtain ⟨hn, h2, h8⟩ := ok.n
        rw [i_cl (by omega)]
        refine tot.bd (r_till h ok hi hget hL hA hwf w kd j b) ?_
        rintro r M1 ⟨⟨t, ht, hD, hh, hc⟩, hA1, hf1⟩
        show tot ((f_X1_leastBroken M1 58 b).bind _) _
        rw [r_least dk_58 hD ((run_0 t).trans (beg_0.trans hn)) h8 b, Option.bind_some]
        refine tot.ret ⟨?_, h.tr ok hget hf1 hA1, hf1.hi hi⟩
        show Sum.inl (sBk s (nI i) w kd j b t) = _
        rcases hc with ⟨h0, h1, rfl⟩ | ⟨rfl, h1, rfl⟩
        · rw [fVal_hit (k := t - 1) (by omega) (fun q hq => hh q (by omega)) (by rw [show 1 + (t - 1) = t by omega]; exact h1), show 1 + (t - 1) = t by omega]
        · rw [fVal_no (fun q hq => ?_), h1]
          by_cases hq2 : 1 + q < 60
          · exact hh q hq2
          · rw [show 1 + q = 60 by omega, h1]
      · simp only [q_law h ok, q_wind, q_shape, Option.bind_some, hl, hw, hk, Bool.and_false, ↓reduceIte]
        exact tot.ret ⟨rfl, h, fun _ _ => rfl⟩
    · simp only [q_law h ok, q_wind, q_shape, Option.bind_some, hl, hw, Bool.false_and, ↓reduceIte]
      exact tot.ret ⟨rfl, h, fun _ _ => rfl⟩
  · simp only [q_law h ok, Option.bind_some, hl, ↓reduceIte]
    exact tot.ret ⟨rfl, h, fun _ _ => rfl⟩
end KOPS
