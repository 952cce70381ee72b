section MOPS
variable {M : Mem} {s : St}
theorem o_shut (h : MS M s) (ok : SOK s) (l w kd j a ab : Int32) : MO M (f_X11_shut M 250 l w kd j a ab) cdB (oShut s l w kd j a ab) := by
  unfold MO f_X11_shut f_X11_shut_b19 f_X11_shut_b69 f_X11_shut_b74 oShut
  have h' := h.t0 ok 0
  rw [m_isLaw h', Option.bind_some]
  by_cases hl : lOk s l = true
  · by_cases hw : dIn w 0 99 = true
    · by_cases hk : shOk kd j = true
      · by_cases h1 : dIn a 1 9999 = true
        · by_cases h2 : dIn ab 0 1000000 = true
          · simp only [hl, hw, hk, h1, h2, Bool.and_self, ↓reduceIte, Option.bind_some, bt_ne, m_bad0 (th0 M 0), m_in, m_isShape]
            obtain ⟨i, hi, rfl, hget, hR, hwf⟩ := h'.go ok hl
            obtain ⟨q, hq, rfl⟩ := shOk_of hk
            have okd := ok.dk
            have hz0 := th0 M 0
            generalize hM0 : mU M 250 0 0 = M0 at h' hz0 hR
            have hlo0 : Lo M M0 := by rw [← hM0]; exact lo_t0
            refine tot.bd (t_begins h'.d okd hq j a) ?_
            rintro r M1 ⟨hK1, hM1, hf1⟩
            have okB := okd.beg (nI q) j a
            have b0 : sBeg (rD (sRd s)) (pcs (sRd s)) (nI q) j a 0 0 = rD (sRd s) 0 0 := beg_0
            have bb2 : ∀ k, sBeg (rD (sRd s)) (pcs (sRd s)) (nI q) j a 2 k = rD (sRd s) 2 k := fun k => by simp [sBeg, sSh, sRest]
            have r2 : ∀ t k, sTr s (nI i) w (nI q) j a t 2 k = rD (sRd s) 2 k := fun t k => by
              induction t with
              | zero => exact bb2 k
              | succ t ih => exact (tick_2 k).trans ih
            have hback : ∀ (M2 : Mem) t (x : Int32), MD M2 (sTr s (nI i) w (nI q) j a t) → KD M2 (rD (sRd s)) → GF M0 M2 → tot (f_X11_shut_b141 250 (nI i) w (nI q) j a ab x M2) (fun r M' => Rs cdB (.inl x) r (M' 250 0) ∧ MS M' s ∧ Lo M M') := fun M2 t x hM2 hK2 hf2 => by
              unfold f_X11_shut_b141
              refine tot.bd (t_back hK2 hM2 ((run_0 t).trans b0) (fun k _ => r2 t k) okd.2.2.2.1.1) ?_
              rintro r M3 ⟨hM3, hf3⟩
              exact tot.ret ⟨⟨hf3.g.z (hf2.z hz0), rfl⟩, h'.gf ok hM3 (hf2.tr hf3.g), hlo0.tr (hf2.tr hf3.g).lo⟩
            refine tot.loopFU (σ := Int32 × Int32 × Mem) (fun m s9 => f_X11_shut_h98 250 (nI i) w (nI q) j a ab m s9.1 s9.2.1 s9.2.2) 100 (fun t s9 => s9.2.1 = nI (t + 1) ∧ MD s9.2.2 (sTr s (nI i) w (nI q) j a t) ∧ KD s9.2.2 (rD (sRd s)) ∧ GF M0 s9.2.2 ∧ (((∀ y, y < t → decide (ab < sSize (sTr s (nI i) w (nI q) j a (1 + y)) (pcs (sRd s)) (nI q)) = false) ∧ s9.1 = (-1)) ∨ (0 < t ∧ s9.1 = nI t ∧ fFst (fun t => decide (ab < sSize (sTr s (nI i) w (nI q) j a t) (pcs (sRd s)) (nI q))) 100 1 = nI t))) _ (by omega) ((-1), 1, M1) ⟨rfl, hM1, hK1, hf1, Or.inl ⟨fun y hy => by omega, rfl⟩⟩ ?_ ?_
            · rintro m t ⟨e, x, M2⟩ ht ⟨hx, hM2, hK2, hf2, hc⟩ hnext
              dsimp only at hx hM2 hK2 hf2 hc
              subst hx
              show tot (f_X11_shut_h98 250 (nI i) w (nI q) j a ab (m + 1) e (nI (t + 1)) M2) _
              rw [f_X11_shut_h98, if_neg (show ¬ (100 : Int32) < nI _ from nI_nlt (a := 100) (by omega) (by omega))]
              rcases hc with ⟨c1, c2⟩ | ⟨c0, c1, c2⟩
              · rw [if_pos c2]
                refine tot.bd (t_tick (hd := 100) hi hM2 (okB.run t) (hR.gf hi hf2) hwf (hf2.h h'.1.2.2.2.1)) ?_
                rintro r3 M3 ⟨hM3, hf3⟩
                have hM3 : MD M3 (sTr s (nI i) w (nI q) j a (t + 1)) := hM3
                have hK3 := hK2.tf hf3
                have hf3 := hf2.tr hf3.g
                show tot ((f_X11_sizeOf M3 250 (nI q)).bind _) _
                rw [t_size hM3 (okB.run (t + 1)).1.1 okd.1.2.2 hq, Option.bind_some]
                unfold f_X11_shut_b133
                rw [nI_1]
                show tot (if sSize (sTr s (nI i) w (nI q) j a (t + 1)) (pcs (sRd s)) (nI q) ≤ ab then _ else _) _
                by_cases hz : sSize (sTr s (nI i) w (nI q) j a (t + 1)) (pcs (sRd s)) (nI q) ≤ ab
                · rw [if_pos hz]
                  refine hnext ((-1), nI (t + 1 + 1), M3) ⟨rfl, hM3, hK3, hf3, Or.inl ⟨fun y hy => ?_, rfl⟩⟩
                  by_cases hy2 : y < t
                  · exact c1 y hy2
                  · rw [show 1 + y = t + 1 by omega]
                    exact decide_eq_false (Int32.not_lt.mpr hz)
                · rw [if_neg hz]
                  refine hnext (nI (t + 1), nI (t + 1 + 1), M3) ⟨rfl, hM3, hK3, hf3, Or.inr ⟨by omega, rfl, ?_⟩⟩
                  rw [fFst_hit (k := t) (by omega) c1 (by rw [show 1 + t = t + 1 by omega]; exact decide_eq_true (Int32.not_le.mp hz)), show 1 + t = t + 1 by omega]
              · rw [if_neg (by rw [c1]; intro z; exact absurd (show nI t < 0 by rw [z]; decide) (i_lt0 (by omega)))]
                rw [c2, ← c1]
                exact hback M2 t e hM2 hK2 hf2
            · rintro m ⟨e, x, M2⟩ ⟨hx, hM2, hK2, hf2, hc⟩
              dsimp only at hx hM2 hK2 hf2 hc
              subst hx
              show tot (f_X11_shut_h98 250 (nI i) w (nI q) j a ab (m + 1) e (nI (100 + 1)) M2) _
              rw [f_X11_shut_h98, if_pos (show (100 : Int32) < nI _ from nI_lt (a := 100) (by omega) (by omega))]
              rcases hc with ⟨c1, c2⟩ | ⟨c0, c1, c2⟩
              · rw [fFst_no c1, ← c2]
                exact hback M2 100 e hM2 hK2 hf2
              · rw [c2, ← c1]
                exact hback M2 100 e hM2 hK2 hf2
          · simp only [hl, hw, hk, h1, h2, Bool.and_false, ↓reduceIte, Option.bind_some, bt_ne, m_bad0 (th0 M 0), m_in, m_isShape, bf_eq, m_bad1 (th0 M 0) n2, n1]
            exact tot.ret ⟨th0 (mU M 250 0 0) 2, h'.t0 ok 2, lo_t0.tr lo_t0⟩
        · simp only [hl, hw, hk, h1, Bool.and_false, Bool.false_and, ↓reduceIte, Option.bind_some, bt_ne, m_bad0 (th0 M 0), m_in, m_isShape, bf_eq, m_bad1 (th0 M 0) n2, n1]
          exact tot.ret ⟨th0 (mU M 250 0 0) 2, h'.t0 ok 2, lo_t0.tr lo_t0⟩
      · simp only [hl, hw, hk, Bool.and_false, Bool.false_and, ↓reduceIte, Option.bind_some, bt_ne, m_bad0 (th0 M 0), m_in, m_isShape, bf_eq, m_bad1 (th0 M 0) n2, n1]
        exact tot.ret ⟨th0 (mU M 250 0 0) 2, h'.t0 ok 2, lo_t0.tr lo_t0⟩
    · simp only [hl, hw, Bool.false_and, ↓reduceIte, Option.bind_some, bt_ne, m_bad0 (th0 M 0), m_in, bf_eq, m_bad1 (th0 M 0) n2, n1]
      exact tot.ret ⟨th0 (mU M 250 0 0) 2, h'.t0 ok 2, lo_t0.tr lo_t0⟩
  · simp only [hl, ↓reduceIte, Option.bind_some, bf_eq, m_bad1 (th0 M 0) n1, n1]
    exact tot.ret ⟨th0 (mU M 250 0 0) 1, h'.t0 ok 1, lo_t0.tr lo_t0⟩
theorem o_count (h : MS M s) (ok : SOK s) (x : Int32) : tot (f_X11_count M 250 x) (fun r M' => .inl r = (oCount s x).1 ∧ MS M' s ∧ Lo M M') := by
  unfold f_X11_count oCount
  have h' := h.t0 ok 0
  rw [m_in, Option.bind_some]
  generalize hM0 : mU M 250 0 0 = M0 at h'
  have hlo0 : Lo M M0 := by rw [← hM0]; exact lo_t0
  by_cases hx : dIn x 20 29 = true
  · have hx1 := dIn_t.mp hx
    obtain ⟨k, hk, rfl⟩ := i_of (n := 29) (x := x) (fun z => hx1.1 (Int32.lt_of_lt_of_le z (by decide))) (Int32.not_lt.mp hx1.2) (by omega)
    have hk2 : 20 ≤ k := by
      by_cases hz : 20 ≤ k
      · exact hz
      · exact absurd (show nI k < 20 from nI_lt (b := 20) (by omega) (by omega)) hx1.1
    obtain ⟨q, rfl⟩ : ∃ q, k = q + 20 := ⟨k - 20, by omega⟩
    have e : nI (q + 20) - 20 = nI q := i_sub q 20
    have hq1 := i_lt0 (show q < 100000 by omega)
    have hq2 := i_cl (show q < 100000 by omega)
    have hq3 : ¬ 10 ≤ q := by omega
    rw [if_pos hx, hx]
    show tot (if b2 true = 0 then _ else _) _
    rw [if_neg bt_ne]
    simp only [e, hq1, hq2, hq3, m_21, l_261, or_self, not_false_eq_true, ↓reduceIte]
    exact tot.ret ⟨congrArg Sum.inl (h'.d.n (by omega)), h', hlo0⟩
  · rw [if_neg hx]
    have hb : dIn x 20 29 = false := by
      cases hz : dIn x 20 29 with
      | false => rfl
      | true => exact absurd hz hx
    rw [hb]
    show tot (if b2 false = 0 then _ else _) _
    rw [if_pos (by rfl)]
    have okd := ok.dk
    obtain ⟨⟨hn, h2, h8⟩, _, _, ⟨h14, h142⟩, _⟩ := okd
    have e19 : M0 250 19 = nI (pcs (sRd s)) := h'.d.p.trans hn
    refine tot.loopFU (σ := Int32 × Int32) (fun m s9 => f_X11_count_h30 250 x m s9.1 s9.2 M0) (pcs (sRd s)) (fun k s9 => s9.1 = (if x = 9 then sCnt (sBrk (rD (sRd s)) 0) k else sCnt (sBrk (rD (sRd s)) 1) k) ∧ s9.2 = nI k) _ (by omega) (0, 0) ⟨by split <;> rfl, rfl⟩ ?_ ?_
    · rintro m k ⟨e, y⟩ hk ⟨he, hy⟩ hnext
      dsimp only at he hy
      subst hy
      have hk1 := i_lt0 (show k < 100000 by omega)
      have hk2 := i_cl (show k < 100000 by omega)
      have hk3 : ¬ 8 ≤ k := by omega
      have hk4 := i_nle hk (show pcs (sRd s) < 100000 by omega)
      have e12 : M0 272 k = rD (sRd s) 12 k := h'.d.a12 (by omega)
      have e14 : M0 273 k = rD (sRd s) 14 k := h'.d.a14 (by omega)
      show tot (f_X11_count_h30 250 x (m + 1) e (nI k) M0) _
      rw [f_X11_count_h30]
      unfold f_X11_count_b87 f_X11_count_b86 f_X11_count_b87
      simp only [e19, hk1, hk2, hk3, hk4, m_24, l_272, m_25, l_273, or_self, not_false_eq_true, ↓reduceIte, e12, e14, nI_1]
      have hgo : ∀ v, v = (if x = 9 then sCnt (sBrk (rD (sRd s)) 0) (k + 1) else sCnt (sBrk (rD (sRd s)) 1) (k + 1)) → tot (f_X11_count_h30 250 x m v (nI (k + 1)) M0) (fun r M' => Sum.inl r = (Sum.inl (if x = 0 then sRd s 1 0 else if x = 1 then nI (sLs s).length else if x = 2 then sRd s 1 1 else if x = 3 then sRd s 18 0 else if x = 4 then sRd s 27 0 else if x = 5 then sRd s 34 0 else if x = 6 then sRd s 39 0
  else if x = 7 then nI (sIm s).length else if x = 8 then nI (sTb s) else if x = 9 then sCnt (sBrk (rD (sRd s)) 0) (pcs (sRd s)) else if x = 10 then sCnt (sBrk (rD (sRd s)) 1) (pcs (sRd s)) else (-1)) : Int32 ⊕ Nat) ∧ MS M' s ∧ Lo M M') := fun v hv => hnext (v, nI (k + 1)) ⟨hv, rfl⟩
      have s0 : ∀ b, sCnt (sBrk (rD (sRd s)) b) (k + 1) = sCnt (sBrk (rD (sRd s)) b) k + b2 (sBrk (rD (sRd s)) b k) := fun b => rfl
      by_cases z9 : x = 9
      · rw [if_pos z9] at he ⊢
        by_cases z : rD (sRd s) 12 k = 1
        · rw [if_pos z]
          refine hgo _ ?_
          rw [if_pos z9, s0, he]
          unfold sBrk
          rw [if_pos rfl, decide_eq_true z]
          rfl
        · rw [if_neg z]
          refine hgo _ ?_
          rw [if_pos z9, s0, he]
          unfold sBrk
          rw [if_pos rfl, decide_eq_false z]
          rfl
      · rw [if_neg z9] at he ⊢
        by_cases zl : pcs (sRd s) ≤ k + 1
        · rw [if_pos (i_le zl (by omega))]
          refine hgo _ ?_
          rw [if_neg z9, s0, he]
          have : rD (sRd s) 14 k = 0 := h142 k zl (by omega)
          unfold sBrk
          rw [if_neg (by decide), this]
          rfl
        · rw [if_neg (i_nle (by omega) (by omega))]
          rcases h14 k (by omega) with z | z
          · rw [if_pos z]
            refine hgo _ ?_
            rw [if_neg z9, s0, he]
            unfold sBrk
            rw [if_neg (by decide), z]
            rfl
          · rw [if_neg (by rw [z]; decide)]
            refine hgo _ ?_
            rw [if_neg z9, s0, he]
            unfold sBrk
            rw [if_neg (by decide), z]
            rfl
    · rintro m ⟨e, y⟩ ⟨he, hy⟩
      dsimp only at he hy
      subst hy
      show tot (f_X11_count_h30 250 x (m + 1) e (nI (pcs (sRd s))) M0) _
      rw [f_X11_count_h30, e19, if_pos (i_le (Nat.le_refl _) (by omega))]
      obtain ⟨b1, b2, b3, b4, b5⟩ := h'.1
      obtain ⟨d1, d2, d3, d4⟩ := h'.2.2.2.1.2.1
      by_cases z : x = 0
      · rw [if_pos z, if_pos z]; exact tot.ret ⟨congrArg Sum.inl hn.symm, h', hlo0⟩
      rw [if_neg z, if_neg z]
      by_cases z : x = 1
      · rw [if_pos z, if_pos z]; exact tot.ret ⟨congrArg Sum.inl b3, h', hlo0⟩
      rw [if_neg z, if_neg z]
      by_cases z : x = 2
      · rw [if_pos z, if_pos z]; exact tot.ret ⟨congrArg Sum.inl h'.d.t, h', hlo0⟩
      rw [if_neg z, if_neg z]
      by_cases z : x = 3
      · rw [if_pos z, if_pos z]; exact tot.ret ⟨congrArg Sum.inl d1, h', hlo0⟩
      rw [if_neg z, if_neg z]
      by_cases z : x = 4
      · rw [if_pos z, if_pos z]; exact tot.ret ⟨congrArg Sum.inl d2, h', hlo0⟩
      rw [if_neg z, if_neg z]
      by_cases z : x = 5
      · rw [if_pos z, if_pos z]; exact tot.ret ⟨congrArg Sum.inl d3, h', hlo0⟩
      rw [if_neg z, if_neg z]
      by_cases z : x = 6
      · rw [if_pos z, if_pos z]; exact tot.ret ⟨congrArg Sum.inl d4, h', hlo0⟩
      rw [if_neg z, if_neg z]
      by_cases z : x = 7
      · rw [if_pos z, if_pos z]; exact tot.ret ⟨congrArg Sum.inl b5, h', hlo0⟩
      rw [if_neg z, if_neg z]
      by_cases z : x = 8
      · rw [if_pos z, if_pos z]; exact tot.ret ⟨congrArg Sum.inl b1, h', hlo0⟩
      rw [if_neg z, if_neg z]
      by_cases z : x = 9
      · rw [if_pos z] at he
        rw [if_pos z, if_pos z]; exact tot.ret ⟨congrArg Sum.inl he, h', hlo0⟩
      rw [if_neg z] at he
      rw [if_neg z, if_neg z]
      by_cases z : x = 10
      · rw [if_pos z, if_pos z]; exact tot.ret ⟨congrArg Sum.inl he, h', hlo0⟩
      rw [if_neg z, if_neg z]
      exact tot.ret ⟨rfl, h', hlo0⟩
theorem fd_sh : ∀ k, k < 20 → ((24 : Int32) - (8 * (nI k - nI k / 4 * 4))) &&& 31 = nI (24 - 8 * (k % 4)) := by decide +kernel
theorem o_feed (h : MS M s) (ok : SOK s) (a b c d e : Int32) : tot (f_X11_feed M 250 a b c d e) (fun r M' => .inl r = (oFeed s a b c d e).1 ∧ MS M' (oFeed s a b c d e).2 ∧ Lo M M') := by
  unfold f_X11_feed oFeed
  have h' := h.t0 ok 0
  generalize hM0 : mU M 250 0 0 = M0 at h'
  have hlo0 : Lo M M0 := by rw [← hM0]; exact lo_t0
  have h300 := ok.1
  have ht := h'.1.1
  have e20 : nI (sTb s) + 20 = nI (sTb s + 20) := nI_add _ 20
  rw [ht, e20]
  by_cases hl : sTb s + 20 ≤ 300
  · rw [if_pos (show nI (sTb s + 20) ≤ 300 from i_le (b := 300) hl (by omega)), if_pos hl]
    refine tot.loopFU (σ := Int32 × Mem) (fun m s9 => f_X11_feed_h23 250 a b c d e m s9.1 s9.2) 20 (fun k s9 => s9.1 = nI k ∧ s9.2 250 1 = nI (sTb s + k) ∧ (∀ j, j < 300 → s9.2 251 j = if sTb s ≤ j ∧ j < sTb s + k then sByt (sArg a b c d e (j - sTb s)) (j - sTb s) else sTf s j) ∧ (∀ q, q ≠ 250 → q ≠ 251 → s9.2 q = M0 q) ∧ ∀ j, j ≠ 1 → s9.2 250 j = M0 250 j) _ (by omega) (0, M0) ⟨rfl, ht, fun j hj => by rw [if_neg (by omega)]; exact h'.2.1 j hj, fun _ _ _ => rfl, fun _ _ => rfl⟩ ?_ ?_
    · rintro m k ⟨x, M1⟩ hk ⟨hx, a1, a2, a3, a4⟩ hnext
      dsimp only at hx a1 a2 a3 a4
      subst hx
      have hk4 : ¬ (20 : Int32) ≤ nI k := i_nle (b := 20) hk (by omega)
      have ht1 := i_lt0 (show sTb s + k < 100000 by omega)
      have ht2 := i_cl (show sTb s + k < 100000 by omega)
      have ht3 : ¬ 300 ≤ sTb s + k := by omega
      show tot (f_X11_feed_h23 250 a b c d e (m + 1) (nI k) M1) _
      have hgo : ∀ v, v = sArg a b c d e k → tot (f_X11_feed_b76 250 a b c d e (f_X11_feed_h23 250 a b c d e m) v (nI k) M1) (fun r M' => Sum.inl r = ((Sum.inl (nI (sTb s + 20)), (sTb s + 20, (fun k => if sTb s ≤ k ∧ k < sTb s + 20 then sByt (sArg a b c d e (k - sTb s)) (k - sTb s) else sTf s k), sLs s, sPl s, sRd s, sIm s)) : An).1 ∧ MS M' ((Sum.inl (nI (sTb s + 20)), (sTb s + 20, (fun k => if sTb s ≤ k ∧ k < sTb s + 20 then sByt (sArg a b c d e (k - sTb s)) (k - sTb s) else sTf s k), sLs s, sPl s, sRd s, sIm s)) : An).2 ∧ Lo M M') := by
        intro v hv
        have hne : ∀ (X : Mem) (q : Nat) (y : Int32), mU X 251 q y 250 1 = X 250 1 := fun X q y => by rw [u_ne (by decide)]
        unfold f_X11_feed_b76
        simp only [a1, ht1, ht2, ht3, m_9, l_251, or_self, not_false_eq_true, ↓reduceIte, fd_sh k hk, hne, nI_1]
        refine hnext (nI (k + 1), mU (mU M1 251 (sTb s + k) ((v >>> nI (24 - 8 * (k % 4))) &&& 255)) 250 1 (nI (sTb s + k + 1))) ⟨rfl, ?_, fun j hj => ?_, fun q h1 h2 => ?_, fun j hj => ?_⟩ <;> dsimp only
        · rw [mU_at, if_pos ⟨rfl, rfl⟩, Nat.add_assoc]
        · rw [u_ne (by decide), mU_at]
          by_cases hz : j = sTb s + k
          · rw [if_pos ⟨rfl, hz⟩, if_pos (by omega), hz, Nat.add_sub_cancel_left, hv]
            rfl
          · rw [if_neg (fun z => hz z.2), a2 j hj]
            by_cases hz2 : sTb s ≤ j ∧ j < sTb s + k
            · rw [if_pos hz2, if_pos (by omega)]
            · rw [if_neg hz2, if_neg (by omega)]
        · rw [u_ne h1, u_ne h2]; exact a3 q h1 h2
        · rw [mU_at, if_neg (fun z => hj z.2), u_ne (by decide)]; exact a4 j hj
      rw [f_X11_feed_h23, if_neg hk4]
      unfold sArg at hgo
      by_cases z4 : k < 4
      · rw [if_neg (show ¬ (4 : Int32) ≤ nI k from i_nle (b := 4) z4 (by omega))]
        exact hgo a (by rw [if_pos z4])
      rw [if_pos (show (4 : Int32) ≤ nI k from i_le (a := 4) (by omega) (by omega))]
      by_cases z8 : k < 8
      · rw [if_neg (show ¬ (8 : Int32) ≤ nI k from i_nle (b := 8) z8 (by omega))]
        exact hgo b (by rw [if_neg z4, if_pos z8])
      rw [if_pos (show (8 : Int32) ≤ nI k from i_le (a := 8) (by omega) (by omega))]
      by_cases z12 : k < 12
      · rw [if_neg (show ¬ (12 : Int32) ≤ nI k from i_nle (b := 12) z12 (by omega))]
        exact hgo c (by rw [if_neg z4, if_neg z8, if_pos z12])
      rw [if_pos (show (12 : Int32) ≤ nI k from i_le (a := 12) (by omega) (by omega))]
      by_cases z16 : k < 16
      · rw [if_neg (show ¬ (16 : Int32) ≤ nI k from i_nle (b := 16) z16 (by omega))]
        exact hgo d (by rw [if_neg z4, if_neg z8, if_neg z12, if_pos z16])
      rw [if_pos (show (16 : Int32) ≤ nI k from i_le (a := 16) (by omega) (by omega))]
      exact hgo e (by rw [if_neg z4, if_neg z8, if_neg z12, if_neg z16])
    · rintro m ⟨x, M1⟩ ⟨hx, a1, a2, a3, a4⟩
      dsimp only at hx a1 a2 a3 a4
      subst hx
      show tot (f_X11_feed_h23 250 a b c d e (m + 1) (nI 20) M1) _
      rw [f_X11_feed_h23, if_pos (show (20 : Int32) ≤ nI 20 by decide)]
      refine tot.ret ⟨congrArg Sum.inl a1, ?_, hlo0.tr (fun q hq => a3 q (by omega) (by omega))⟩
      obtain ⟨⟨c1, c2, c3, c4, c5⟩, c6, c7, c8, c9⟩ := h'
      refine ⟨⟨a1, by rw [a4 3 (by decide)]; exact c2, by rw [a4 11 (by decide)]; exact c3, by rw [a4 18 (by decide)]; exact c4, by rw [a4 35 (by decide)]; exact c5⟩, a2, fun i A hi => (c7 i A hi).fr (a3 258 (by omega) (by omega)) (a3 _ (by omega) (by omega)), c8.fr (c8.1.fr (a4 19 (by decide)) (a4 20 (by decide)) (fun q hq => a3 q (by omega) (by omega))) (fun j h1 h2 => a4 j (by omega)) (fun q h1 h2 => a3 q (by omega) (by omega)), fun i R hi => by rw [a3 _ (by omega) (by omega)]; exact c9 i R hi⟩
  · rw [if_neg (show ¬ nI (sTb s + 20) ≤ 300 from i_nle (a := 300) (by omega) (by omega)), if_neg hl]
    exact tot.ret ⟨rfl, h', hlo0⟩
end MOPS
