section MOPS
variable {M : Mem} {s : St}
theorem i_ne {a b : Nat} (h : a ≠ b) (ha : a < 100000) (hb : b < 100000) : ¬ nI a = nI b := fun z => h ((i_eq ha hb).mp z)
theorem MD.far {M M' : Mem} {R R' : Dk} (h : MD M (rD R)) (hR : ∀ o k, o < 17 → R' o k = R o k) (h1 : M' 250 19 = M 250 19) (h2 : M' 250 20 = M 250 20) (hf : ∀ b, 261 ≤ b → b ≤ 273 → M' b = M b) : MD M' (rD R') := by
  refine (h.fr h1 h2 (fun b hb => hf b (by omega) (by omega))).cg (fun o k hi => ?_)
  have := inD_e hi
  unfold rD
  exact (hR (1 + o) k (by omega)).symm
theorem o_film (h : MS M s) (ok : SOK s) (t p hh u : Int32) : MO M (f_X11_film M 250 t p hh u) cdC (oFilm s t p hh u) := by
  unfold MO f_X11_film f_X11_film_b19 f_X11_film_b60 oFilm
  have h' := h.t0 ok 0
  rw [m_isPiece h' ok, Option.bind_some]
  by_cases hl : pcOk s p = true
  · by_cases ht : dIn t 1 100 = true
    · by_cases h1 : dIn hh (-1000000) 1000000 = true
      · by_cases h2 : dIn u (-1000000) 1000000 = true
        · simp only [hl, ht, h1, h2, Bool.and_self, ↓reduceIte, Option.bind_some, bt_ne, m_bad0 (th0 M 0), m_in]
          generalize hM0 : mU M 250 0 0 = M0 at h'
          have hlo0 : Lo M M0 := by rw [← hM0]; exact lo_t0
          have hz0 : M0 250 0 = 0 := by rw [← hM0]; exact th0 M 0
          obtain ⟨f1, f2, f3⟩ := ok.f
          have hMR := h'.2.2.2.1
          have e31 : M0 250 31 = nI (cfl (sRd s)) := hMR.2.1.1.trans f1
          unfold f_X11_film_b65
          by_cases hc : cfl (sRd s) < 20
          · generalize hcc : cfl (sRd s) = c at hc e31 f2
            have hc1 := i_lt0 (show c < 100000 by omega)
            have hc2 := i_cl (show c < 100000 by omega)
            have hc3 : ¬ 20 ≤ c := by omega
            have hc4 : ¬ nI c = 20 := i_ne (b := 20) (by omega) (by omega) (by omega)
            have a : ∀ (X : Mem) (z : Nat) (v : Int32), mU X (283 + c) z v 250 31 = X 250 31 := fun X z v => by rw [u_ne (by omega)]
            simp only [m_bad0 hz0, Option.bind_some, ↓reduceIte, hc, hc1, hc2, hc3, hc4, e31, a, m_36, l_282, r_282 c hc, l_283 c hc, ci_0, ci_1, ci_2, ci_3, zi_0, zi_1, zi_2, zi_3, Nat.reduceLeDiff, or_self, not_false_eq_true, nI_1]
            have hb : ∀ b, b ≠ 250 → b ≠ 283 + c → mU (mU (mU (mU (mU M0 (283 + c) 0 t) (283 + c) 1 p) (283 + c) 2 hh) (283 + c) 3 u) 250 31 (nI (c + 1)) b = M0 b := fun b h1 h2 => by rw [u_ne h1, u_ne h2, u_ne h2, u_ne h2, u_ne h2]
            have hj : ∀ j, j ≠ 31 → mU (mU (mU (mU (mU M0 (283 + c) 0 t) (283 + c) 1 p) (283 + c) 2 hh) (283 + c) 3 u) 250 31 (nI (c + 1)) 250 j = M0 250 j := fun j h1 => by rw [mU_at, if_neg (by omega), u_ne (by omega), u_ne (by omega), u_ne (by omega), u_ne (by omega)]
            refine tot.ret ⟨⟨hj 0 (by omega) |>.trans hz0, by rw [mU_at, if_pos ⟨rfl, rfl⟩]⟩, h'.rd ok ⟨?_, ⟨?_, ?_, ?_, ?_⟩, fun f hf => ?_, fun m hm => ?_, fun b hb2 => ?_, fun q hq => ?_⟩ (fun j hj2 => hj j (by omega)) (fun b h1 h2 => hb b (by omega) (by omega)), hlo0.tr (fun b hb2 => hb b (by omega) (by omega))⟩
            · exact hMR.1.far (fun o k ho => by simp [sFilm, mU_at, show ¬ o = 18 by omega, show ¬ o = 20 by omega, show ¬ o = 22 by omega, show ¬ o = 24 by omega, show ¬ o = 26 by omega]) (hj 19 (by omega)) (hj 20 (by omega)) (fun b h1 h2 => hb b (by omega) (by omega))
            · rw [mU_at, if_pos ⟨rfl, rfl⟩]; simp [sFilm, mU_at]
            · rw [hj 32 (by omega)]; simp [sFilm, mU_at]; exact hMR.2.1.2.1
            · rw [hj 33 (by omega)]; simp [sFilm, mU_at]; exact hMR.2.1.2.2.1
            · rw [hj 34 (by omega)]; simp [sFilm, mU_at]; exact hMR.2.1.2.2.2
            · by_cases hfc : f = c
              · subst hfc; simp [sFilm, mU_at]
              · have := hMR.2.2.1 f hf
                rw [hb _ (by omega) (by omega)]
                simp [sFilm, mU_at, hfc]
                exact this
            · rw [hb _ (by omega) (by omega)]; simp [sFilm, mU_at]; exact hMR.2.2.2.1 m hm
            · rw [hb _ (by omega) (by omega)]; simp [sFilm, mU_at]; exact hMR.2.2.2.2.1 b hb2
            · rw [hb _ (by omega) (by omega)]; simp [sFilm, mU_at]; exact hMR.2.2.2.2.2 q hq
          · have hc9 : cfl (sRd s) = 20 := by omega
            have hc4 : nI 20 = 20 := rfl
            rw [hc9] at e31
            simp only [m_bad0 hz0, Option.bind_some, ↓reduceIte, hc, e31, hc4]
            exact tot.ret ⟨⟨hz0, rfl⟩, h', hlo0⟩
        · unfold f_X11_film_b65
          simp only [hl, ht, h1, h2, Bool.and_self, Bool.and_false, ↓reduceIte, Option.bind_some, bt_ne, m_bad0 (th0 M 0), m_in, bf_eq, m_bad1 (th0 M 0) n2, n1]
          exact tot.ret ⟨th0 (mU M 250 0 0) 2, h'.t0 ok 2, lo_t0.tr lo_t0⟩
      · unfold f_X11_film_b65
        simp only [hl, ht, h1, Bool.false_and, Bool.and_false, ↓reduceIte, Option.bind_some, bt_ne, m_bad0 (th0 M 0), m_in, bf_eq, m_bad1 (th0 M 0) n2, n1]
        exact tot.ret ⟨th0 (mU M 250 0 0) 2, h'.t0 ok 2, lo_t0.tr lo_t0⟩
    · unfold f_X11_film_b65
      simp only [hl, ht, Bool.false_and, ↓reduceIte, Option.bind_some, bt_ne, m_bad0 (th0 M 0), m_in, bf_eq, m_bad1 (th0 M 0) n2, n1]
      exact tot.ret ⟨th0 (mU M 250 0 0) 2, h'.t0 ok 2, lo_t0.tr lo_t0⟩
  · simp only [hl, ↓reduceIte, Option.bind_some, bf_eq, m_bad1 (th0 M 0) n1, n1]
    exact tot.ret ⟨th0 (mU M 250 0 0) 1, h'.t0 ok 1, lo_t0.tr lo_t0⟩
theorem o_mend (h : MS M s) (ok : SOK s) (x v z : Int32) : MO M (f_X11_mend M 250 x v z) cdA (oMend s x v z) := by
  unfold MO f_X11_mend f_X11_mend_b39 oMend
  have h' := h.t0 ok 0
  rw [m_in, Option.bind_some]
  by_cases hl : dIn x 0 9 = true
  · by_cases h1 : dIn v (-999999) 999999 = true
    · by_cases h2 : dIn z 0 999 = true
      · simp only [hl, h1, h2, Bool.and_self, ↓reduceIte, Option.bind_some, bt_ne, m_in]
        have hz00 := th0 M 0
        generalize hM0 : mU M 250 0 0 = M0 at h' hz00
        have hlo0 : Lo M M0 := by rw [← hM0]; exact lo_t0
        have hz0 : M0 250 0 = 0 := hz00
        obtain ⟨f1, f2, f3⟩ := ok.m
        have hMR := h'.2.2.2.1
        have e31 : M0 250 32 = nI (cmd (sRd s)) := hMR.2.1.2.1.trans f1
        unfold f_X11_mend_b44
        by_cases hc : cmd (sRd s) < 5
        · generalize hcc : cmd (sRd s) = c at hc e31 f2
          have hc1 := i_lt0 (show c < 100000 by omega)
          have hc2 := i_cl (show c < 100000 by omega)
          have hc3 : ¬ 5 ≤ c := by omega
          have hc4 : ¬ nI c = 5 := i_ne (b := 5) (by omega) (by omega) (by omega)
          have a : ∀ (X : Mem) (z : Nat) (v : Int32), mU X (304 + c) z v 250 32 = X 250 32 := fun X z v => by rw [u_ne (by omega)]
          simp only [m_bad0 hz0, Option.bind_some, ↓reduceIte, hc, hc1, hc2, hc3, hc4, e31, a, m_37, l_303, r_303 c hc, l_304 c hc, ci_0, ci_1, ci_2, zi_0, zi_1, zi_2, Nat.reduceLeDiff, or_self, not_false_eq_true, nI_1]
          have hb : ∀ b, b ≠ 250 → b ≠ 304 + c → mU (mU (mU (mU M0 (304 + c) 0 x) (304 + c) 1 v) (304 + c) 2 z) 250 32 (nI (c + 1)) b = M0 b := fun b h1 h2 => by rw [u_ne h1, u_ne h2, u_ne h2, u_ne h2]
          have hj : ∀ j, j ≠ 32 → mU (mU (mU (mU M0 (304 + c) 0 x) (304 + c) 1 v) (304 + c) 2 z) 250 32 (nI (c + 1)) 250 j = M0 250 j := fun j h1 => by rw [mU_at, if_neg (by omega), u_ne (by omega), u_ne (by omega), u_ne (by omega)]
          refine tot.ret ⟨⟨hj 0 (by omega) |>.trans hz0, by rw [mU_at, if_pos ⟨rfl, rfl⟩, nI_pred]⟩, h'.rd ok ⟨?_, ⟨?_, ?_, ?_, ?_⟩, fun f hf => ?_, fun m hm => ?_, fun b hb2 => ?_, fun q hq => ?_⟩ (fun j hj2 => hj j (by omega)) (fun b h1 h2 => hb b (by omega) (by omega)), hlo0.tr (fun b hb2 => hb b (by omega) (by omega))⟩
          · exact hMR.1.far (fun o k ho => by simp [sMend, mU_at, show ¬ o = 27 by omega, show ¬ o = 29 by omega, show ¬ o = 31 by omega, show ¬ o = 33 by omega]) (hj 19 (by omega)) (hj 20 (by omega)) (fun b h1 h2 => hb b (by omega) (by omega))
          · rw [hj 31 (by omega)]; simp [sMend, mU_at]; exact hMR.2.1.1
          · rw [mU_at, if_pos ⟨rfl, rfl⟩]; simp [sMend, mU_at]
          · rw [hj 33 (by omega)]; simp [sMend, mU_at]; exact hMR.2.1.2.2.1
          · rw [hj 34 (by omega)]; simp [sMend, mU_at]; exact hMR.2.1.2.2.2
          · rw [hb _ (by omega) (by omega)]; simp [sMend, mU_at]; exact hMR.2.2.1 f hf
          · by_cases hfc : m = c
            · subst hfc; simp [sMend, mU_at]
            · have := hMR.2.2.2.1 m hm
              rw [hb _ (by omega) (by omega)]
              simp [sMend, mU_at, hfc]
              exact this
          · rw [hb _ (by omega) (by omega)]; simp [sMend, mU_at]; exact hMR.2.2.2.2.1 b hb2
          · rw [hb _ (by omega) (by omega)]; simp [sMend, mU_at]; exact hMR.2.2.2.2.2 q hq
        · have hc9 : cmd (sRd s) = 5 := by omega
          have hc4 : nI 5 = 5 := rfl
          rw [hc9] at e31
          simp only [m_bad0 hz0, Option.bind_some, ↓reduceIte, hc, e31, hc4]
          exact tot.ret ⟨⟨hz0, rfl⟩, h', hlo0⟩
      · unfold f_X11_mend_b44
        simp only [hl, h1, h2, Bool.and_self, Bool.and_false, ↓reduceIte, Option.bind_some, bt_ne, m_in, bf_eq, m_bad1 (th0 M 0) n1, n1]
        exact tot.ret ⟨th0 (mU M 250 0 0) 1, h'.t0 ok 1, lo_t0.tr lo_t0⟩
    · unfold f_X11_mend_b44
      simp only [hl, h1, Bool.false_and, Bool.and_false, ↓reduceIte, Option.bind_some, bt_ne, m_in, bf_eq, m_bad1 (th0 M 0) n1, n1]
      exact tot.ret ⟨th0 (mU M 250 0 0) 1, h'.t0 ok 1, lo_t0.tr lo_t0⟩
  · unfold f_X11_mend_b44
    simp only [hl, Bool.false_and, ↓reduceIte, Option.bind_some, bf_eq, m_bad1 (th0 M 0) n1, n1]
    exact tot.ret ⟨th0 (mU M 250 0 0) 1, h'.t0 ok 1, lo_t0.tr lo_t0⟩
theorem o_paper (h : MS M s) (ok : SOK s) (x v z : Int32) : MO M (f_X11_paper M 250 x v z) cdA (oPaper s x v z) := by
  unfold MO f_X11_paper f_X11_paper_b39 oPaper
  have h' := h.t0 ok 0
  rw [m_in, Option.bind_some]
  by_cases hl : dIn x 0 999 = true
  · by_cases h1 : dIn v 0 255 = true
    · by_cases h2 : dIn z 0 255 = true
      · simp only [hl, h1, h2, Bool.and_self, ↓reduceIte, Option.bind_some, bt_ne, m_in]
        have hz00 := th0 M 0
        generalize hM0 : mU M 250 0 0 = M0 at h' hz00
        have hlo0 : Lo M M0 := by rw [← hM0]; exact lo_t0
        have hz0 : M0 250 0 = 0 := hz00
        obtain ⟨f1, f2, f3⟩ := ok.p
        have hMR := h'.2.2.2.1
        have e31 : M0 250 34 = nI (cpa (sRd s)) := hMR.2.1.2.2.2.trans f1
        unfold f_X11_paper_b44
        by_cases hc : cpa (sRd s) < 10
        · generalize hcc : cpa (sRd s) = c at hc e31 f2
          have hc1 := i_lt0 (show c < 100000 by omega)
          have hc2 := i_cl (show c < 100000 by omega)
          have hc3 : ¬ 10 ≤ c := by omega
          have hc4 : ¬ nI c = 10 := i_ne (b := 10) (by omega) (by omega) (by omega)
          have a : ∀ (X : Mem) (z : Nat) (v : Int32), mU X (317 + c) z v 250 34 = X 250 34 := fun X z v => by rw [u_ne (by omega)]
          simp only [m_bad0 hz0, Option.bind_some, ↓reduceIte, hc, hc1, hc2, hc3, hc4, e31, a, m_39, l_316, r_316 c hc, l_317 c hc, ci_0, ci_1, ci_2, zi_0, zi_1, zi_2, Nat.reduceLeDiff, or_self, not_false_eq_true, nI_1]
          have hb : ∀ b, b ≠ 250 → b ≠ 317 + c → mU (mU (mU (mU M0 (317 + c) 0 x) (317 + c) 1 v) (317 + c) 2 z) 250 34 (nI (c + 1)) b = M0 b := fun b h1 h2 => by rw [u_ne h1, u_ne h2, u_ne h2, u_ne h2]
          have hj : ∀ j, j ≠ 34 → mU (mU (mU (mU M0 (317 + c) 0 x) (317 + c) 1 v) (317 + c) 2 z) 250 34 (nI (c + 1)) 250 j = M0 250 j := fun j h1 => by rw [mU_at, if_neg (by omega), u_ne (by omega), u_ne (by omega), u_ne (by omega)]
          refine tot.ret ⟨⟨hj 0 (by omega) |>.trans hz0, by rw [mU_at, if_pos ⟨rfl, rfl⟩]⟩, h'.rd ok ⟨?_, ⟨?_, ?_, ?_, ?_⟩, fun f hf => ?_, fun m hm => ?_, fun b hb2 => ?_, fun q hq => ?_⟩ (fun j hj2 => hj j (by omega)) (fun b h1 h2 => hb b (by omega) (by omega)), hlo0.tr (fun b hb2 => hb b (by omega) (by omega))⟩
          · exact hMR.1.far (fun o k ho => by simp [sPaper, mU_at, show ¬ o = 39 by omega, show ¬ o = 41 by omega, show ¬ o = 43 by omega, show ¬ o = 45 by omega]) (hj 19 (by omega)) (hj 20 (by omega)) (fun b h1 h2 => hb b (by omega) (by omega))
          · rw [hj 31 (by omega)]; simp [sPaper, mU_at]; exact hMR.2.1.1
          · rw [hj 32 (by omega)]; simp [sPaper, mU_at]; exact hMR.2.1.2.1
          · rw [hj 33 (by omega)]; simp [sPaper, mU_at]; exact hMR.2.1.2.2.1
          · rw [mU_at, if_pos ⟨rfl, rfl⟩]; simp [sPaper, mU_at]
          · rw [hb _ (by omega) (by omega)]; simp [sPaper, mU_at]; exact hMR.2.2.1 f hf
          · rw [hb _ (by omega) (by omega)]; simp [sPaper, mU_at]; exact hMR.2.2.2.1 m hm
          · rw [hb _ (by omega) (by omega)]; simp [sPaper, mU_at]; exact hMR.2.2.2.2.1 b hb2
          · by_cases hfc : q = c
            · subst hfc; simp [sPaper, mU_at]
            · have := hMR.2.2.2.2.2 q hq
              rw [hb _ (by omega) (by omega)]
              simp [sPaper, mU_at, hfc]
              exact this
        · have hc9 : cpa (sRd s) = 10 := by omega
          have hc4 : nI 10 = 10 := rfl
          rw [hc9] at e31
          simp only [m_bad0 hz0, Option.bind_some, ↓reduceIte, hc, e31, hc4]
          exact tot.ret ⟨⟨hz0, rfl⟩, h', hlo0⟩
      · unfold f_X11_paper_b44
        simp only [hl, h1, h2, Bool.and_self, Bool.and_false, ↓reduceIte, Option.bind_some, bt_ne, m_in, bf_eq, m_bad1 (th0 M 0) n1, n1]
        exact tot.ret ⟨th0 (mU M 250 0 0) 1, h'.t0 ok 1, lo_t0.tr lo_t0⟩
    · unfold f_X11_paper_b44
      simp only [hl, h1, Bool.false_and, Bool.and_false, ↓reduceIte, Option.bind_some, bt_ne, m_in, bf_eq, m_bad1 (th0 M 0) n1, n1]
      exact tot.ret ⟨th0 (mU M 250 0 0) 1, h'.t0 ok 1, lo_t0.tr lo_t0⟩
  · unfold f_X11_paper_b44
    simp only [hl, Bool.false_and, ↓reduceIte, Option.bind_some, bf_eq, m_bad1 (th0 M 0) n1, n1]
    exact tot.ret ⟨th0 (mU M 250 0 0) 1, h'.t0 ok 1, lo_t0.tr lo_t0⟩
theorem o_bridge (h : MS M s) (ok : SOK s) (x : Int32) : MO M (f_X11_bridge M 250 x) cdA (oBridge s x) := by
  unfold MO f_X11_bridge f_X11_bridge_b21 oBridge
  have h' := h.t0 ok 0
  rw [m_in, Option.bind_some]
  by_cases hl : dIn x 0 60 = true
  · simp only [hl, ↓reduceIte, Option.bind_some, bt_ne, m_bad0 (th0 M 0)]
    have hz0 := th0 M 0
    generalize hM0 : mU M 250 0 0 = M0 at h' hz0
    have hlo0 : Lo M M0 := by rw [← hM0]; exact lo_t0
    obtain ⟨f1, f2⟩ := ok.b
    have hMR := h'.2.2.2.1
    have e33 : M0 250 33 = nI (cbr (sRd s)) := hMR.2.1.2.2.1.trans f1
    by_cases hc : cbr (sRd s) < 6
    · generalize hcc : cbr (sRd s) = c at hc e33 f2
      have hc1 := i_lt0 (show c < 100000 by omega)
      have hc2 := i_cl (show c < 100000 by omega)
      have hc3 : ¬ 6 ≤ c := by omega
      have hc4 : ¬ nI c = 6 := i_ne (b := 6) (by omega) (by omega) (by omega)
      simp only [hc, hc1, hc2, hc3, hc4, e33, ↓reduceIte, m_38, l_309, r_309 c hc, l_310 c hc, ci_10, zi_10, Nat.reduceLeDiff, or_self, not_false_eq_true]
      refine tot.loopFU (σ := Int32 × Mem) (fun m s9 => f_X11_bridge_h56 250 x m s9.1 s9.2) 10 (fun k s9 => s9.1 = nI k ∧ s9.2 (310 + c) 10 = x ∧ (∀ j, j < k → s9.2 (310 + c) j = 0) ∧ ∀ b, b ≠ 310 + c → s9.2 b = M0 b) _ (by omega) (0, mU M0 (310 + c) 10 x) ⟨rfl, by dsimp only; rw [mU_at, if_pos ⟨rfl, rfl⟩], fun j hj => by omega, fun b hb => u_ne hb⟩ ?_ ?_
      · rintro m k ⟨y, M1⟩ hk ⟨hy, a1, a2, a3⟩ hnext
        dsimp only at hy a1 a2 a3
        subst hy
        have hk1 := i_lt0 (show k < 100000 by omega)
        have hk2 := i_cl (show k < 100000 by omega)
        have hk3 : ¬ 11 ≤ k := by omega
        have hk4 : ¬ (10 : Int32) ≤ nI k := i_nle (b := 10) hk (by omega)
        have e33' : M1 250 33 = nI c := by rw [a3 250 (by omega)]; exact e33
        show tot (f_X11_bridge_h56 250 x (m + 1) (nI k) M1) _
        rw [f_X11_bridge_h56]
        simp only [hk1, hk2, hk3, hk4, hc1, hc2, hc3, e33', ↓reduceIte, m_38, l_309, r_309 c hc, l_310 c hc, or_self, not_false_eq_true, nI_1]
        refine hnext (nI (k + 1), mU M1 (310 + c) k 0) ⟨rfl, ?_, fun j hj => ?_, fun b hb => ?_⟩ <;> dsimp only
        · rw [mU_at, if_neg (by omega)]; exact a1
        · rw [mU_at]
          by_cases hz : j = k
          · rw [if_pos ⟨rfl, hz⟩]
          · rw [if_neg (by omega)]; exact a2 j (by omega)
        · rw [u_ne hb]; exact a3 b hb
      · rintro m ⟨y, M1⟩ ⟨hy, a1, a2, a3⟩
        dsimp only at hy a1 a2 a3
        subst hy
        have e33' : M1 250 33 = nI c := by rw [a3 250 (by omega)]; exact e33
        show tot (f_X11_bridge_h56 250 x (m + 1) (nI 10) M1) _
        rw [f_X11_bridge_h56, if_pos (show (10 : Int32) ≤ nI 10 by decide), e33', nI_1]
        have hb : ∀ b, b ≠ 250 → b ≠ 310 + c → mU M1 250 33 (nI (c + 1)) b = M0 b := fun b h1 h2 => by rw [u_ne h1]; exact a3 b h2
        have hj : ∀ j, j ≠ 33 → mU M1 250 33 (nI (c + 1)) 250 j = M0 250 j := fun j h1 => by rw [mU_at, if_neg (by omega), a3 250 (by omega)]
        have hrow : ∀ j, mU M1 250 33 (nI (c + 1)) (310 + c) j = M1 (310 + c) j := fun j => by rw [u_ne (by omega)]
        refine tot.ret ⟨⟨hj 0 (by omega) |>.trans hz0, by rw [mU_at, if_pos ⟨rfl, rfl⟩, nI_pred]⟩, h'.rd ok ⟨?_, ⟨?_, ?_, ?_, ?_⟩, fun f hf => ?_, fun m hm => ?_, fun b hb2 => ?_, fun q hq => ?_⟩ (fun j hj2 => hj j (by omega)) (fun b h1 h2 => hb b (by omega) (by omega)), hlo0.tr (fun b hb2 => hb b (by omega) (by omega))⟩
        · exact hMR.1.far (fun o k ho => by simp [sBridge, mU_at, show ¬ o = 34 by omega, show ¬ o = 36 by omega, show ¬ o = 38 by omega]) (hj 19 (by omega)) (hj 20 (by omega)) (fun b h1 h2 => hb b (by omega) (by omega))
        · rw [hj 31 (by omega)]; simp [sBridge, mU_at]; exact hMR.2.1.1
        · rw [hj 32 (by omega)]; simp [sBridge, mU_at]; exact hMR.2.1.2.1
        · rw [mU_at, if_pos ⟨rfl, rfl⟩]; simp [sBridge, mU_at]
        · rw [hj 34 (by omega)]; simp [sBridge, mU_at]; exact hMR.2.1.2.2.2
        · rw [hb _ (by omega) (by omega)]; simp [sBridge, mU_at]; exact hMR.2.2.1 f hf
        · rw [hb _ (by omega) (by omega)]; simp [sBridge, mU_at]; exact hMR.2.2.2.1 m hm
        · have := hMR.2.2.2.2.1 b hb2
          by_cases hfc : b = c
          · subst hfc
            refine ⟨by rw [hrow, a1]; simp [sBridge, mU_at], fun k hk => ?_⟩
            rw [hrow, a2 k hk]
            simp [sBridge, mU_at, hk]
          · rw [hb _ (by omega) (by omega)]
            refine ⟨by simp [sBridge, mU_at, hfc]; exact this.1, fun k hk => ?_⟩
            have hno : ¬ (10 * c ≤ 10 * b + k ∧ 10 * b + k < 10 * c + 10) := by omega
            simp only [sBridge, mU_at]
            rw [if_neg (by omega), if_neg (fun z => hno z.2), if_neg (by omega)]
            exact this.2 k hk
        · rw [hb _ (by omega) (by omega)]; simp [sBridge, mU_at]; exact hMR.2.2.2.2.2 q hq
    · have hc9 : cbr (sRd s) = 6 := by omega
      have hc4 : nI 6 = 6 := rfl
      rw [hc9] at e33
      simp only [↓reduceIte, hc, e33, hc4]
      exact tot.ret ⟨⟨hz0, rfl⟩, h', hlo0⟩
  · simp only [hl, ↓reduceIte, Option.bind_some, bf_eq, m_bad1 (th0 M 0) n1, n1]
    exact tot.ret ⟨th0 (mU M 250 0 0) 1, h'.t0 ok 1, lo_t0.tr lo_t0⟩
theorem o_blows (h : MS M s) (ok : SOK s) (b k v : Int32) : MO M (f_X11_blows M 250 b k v) cdC (oBlows s b k v) := by
  unfold MO f_X11_blows f_X11_blows_b19 f_X11_blows_b48 f_X11_blows_b53 oBlows
  have h' := h.t0 ok 0
  rw [m_isBridge h' ok, Option.bind_some]
  by_cases hl : brOk s b = true
  · by_cases h1 : dIn k 0 9 = true
    · by_cases h2 : dIn v 0 999 = true
      · obtain ⟨i, hi, hi6, rfl⟩ := brOk_of ok hl
        obtain ⟨q, hq, rfl⟩ := dIn_nI (n := 9) h1 (by omega)
        have hi1 := i_lt0 (show i < 100000 by omega)
        have hi2 := i_cl (show i < 100000 by omega)
        have hi3 : ¬ 6 ≤ i := by omega
        have hq1 := i_lt0 (show q < 100000 by omega)
        have hq2 := i_cl (show q < 100000 by omega)
        have hq3 : ¬ 11 ≤ q := by omega
        simp only [hl, h1, h2, Bool.and_self, ↓reduceIte, Option.bind_some, bt_ne, m_bad0 (th0 M 0), m_in, hi1, hi2, hi3, hq1, hq2, hq3, m_38, l_309, r_309 i hi6, l_310 i hi6, or_self, not_false_eq_true]
        have hz0 := th0 M 0
        generalize hM0 : mU M 250 0 0 = M0 at h' hz0
        have hlo0 : Lo M M0 := by rw [← hM0]; exact lo_t0
        have hMR := h'.2.2.2.1
        refine tot.ret ⟨⟨by rw [u_ne (by omega)]; exact hz0, (hMR.2.2.2.2.1 i hi6).2 q (by omega)⟩, h'.rd ok ⟨?_, ⟨?_, ?_, ?_, ?_⟩, fun f hf => ?_, fun m hm => ?_, fun b hb2 => ?_, fun q hq => ?_⟩ (fun j hj2 => congrFun (u_ne (by omega)) j) (fun b h1 h2 => u_ne (by omega)), hlo0.tr (fun b hb2 => u_ne (by omega))⟩
        · exact hMR.1.far (fun o k ho => by simp [mU_at, show ¬ o = 38 by omega]) (by rw [u_ne (by omega)]) (by rw [u_ne (by omega)]) (fun b h1 h2 => u_ne (by omega))
        · rw [u_ne (by omega)]; simp [mU_at]; exact hMR.2.1.1
        · rw [u_ne (by omega)]; simp [mU_at]; exact hMR.2.1.2.1
        · rw [u_ne (by omega)]; simp [mU_at]; exact hMR.2.1.2.2.1
        · rw [u_ne (by omega)]; simp [mU_at]; exact hMR.2.1.2.2.2
        · rw [u_ne (by omega)]; simp [mU_at]; exact hMR.2.2.1 f hf
        · rw [u_ne (by omega)]; simp [mU_at]; exact hMR.2.2.2.1 m hm
        · have := hMR.2.2.2.2.1 b hb2
          by_cases hfc : b = i
          · subst hfc
            refine ⟨by rw [mU_at, if_neg (by omega)]; simp [mU_at]; exact this.1, fun k hk => ?_⟩
            rw [mU_at, mU_at]
            by_cases hkq : k = q
            · rw [if_pos ⟨rfl, hkq⟩, if_pos ⟨rfl, by omega⟩]
            · rw [if_neg (fun z => hkq z.2), if_neg (by omega)]; exact this.2 k hk
          · rw [u_ne (by omega)]
            refine ⟨by simp [mU_at]; exact this.1, fun k hk => ?_⟩
            rw [mU_at, if_neg (by omega)]
            exact this.2 k hk
        · rw [u_ne (by omega)]; simp [mU_at]; exact hMR.2.2.2.2.2 q hq
      · simp only [hl, h1, h2, Bool.and_false, ↓reduceIte, Option.bind_some, bt_ne, m_bad0 (th0 M 0), m_in, bf_eq, m_bad1 (th0 M 0) n2, n1]
        exact tot.ret ⟨th0 (mU M 250 0 0) 2, h'.t0 ok 2, lo_t0.tr lo_t0⟩
    · simp only [hl, h1, Bool.false_and, ↓reduceIte, Option.bind_some, bt_ne, m_bad0 (th0 M 0), m_in, bf_eq, m_bad1 (th0 M 0) n2, n1]
      exact tot.ret ⟨th0 (mU M 250 0 0) 2, h'.t0 ok 2, lo_t0.tr lo_t0⟩
  · simp only [hl, ↓reduceIte, Option.bind_some, bf_eq, m_bad1 (th0 M 0) n1, n1]
    exact tot.ret ⟨th0 (mU M 250 0 0) 1, h'.t0 ok 1, lo_t0.tr lo_t0⟩
theorem i_6k (k : Nat) : (6 : Int32) * nI k = nI k * 6 := Int32.mul_comm _ _
theorem o_hours (h : MS M s) (ok : SOK s) (b : Int32) : MO M (f_X11_hours M 250 b) cdA (oHours s b) := by
  unfold MO f_X11_hours f_X11_hours_b19 oHours
  have h' := h.t0 ok 0
  rw [m_isBridge h' ok, Option.bind_some]
  by_cases hl : brOk s b = true
  · obtain ⟨i, hi, hi6, rfl⟩ := brOk_of ok hl
    have hi1 := i_lt0 (show i < 100000 by omega)
    have hi2 := i_cl (show i < 100000 by omega)
    have hi3 : ¬ 6 ≤ i := by omega
    simp only [hl, ↓reduceIte, Option.bind_some, bt_ne, m_bad0 (th0 M 0)]
    have hz0 := th0 M 0
    generalize hM0 : mU M 250 0 0 = M0 at h' hz0
    have hlo0 : Lo M M0 := by rw [← hM0]; exact lo_t0
    have hMR := h'.2.2.2.1.2.2.2.2.1 i hi6
    have hmain : f_X11_hours_h32 250 (nI i) FU 0 0 M0 = some (sHours (sRd s) i 10, M0) := by
      refine eq_loopFU (σ := Int32 × Int32) (fun m s9 => f_X11_hours_h32 250 (nI i) m s9.1 s9.2 M0) 10 (fun k => (sHours (sRd s) i k, nI k)) (some (sHours (sRd s) i 10, M0)) (by omega) (fun m k hk => ?_) (fun m => ?_)
      · show f_X11_hours_h32 250 (nI i) (m + 1) (sHours (sRd s) i k) (nI k) M0 = f_X11_hours_h32 250 (nI i) m (if nI k * 6 < sRd s 36 i then sHours (sRd s) i k else sHours (sRd s) i k + sRd s 38 (10 * i + k)) (nI (k + 1)) M0
        have hk1 := i_lt0 (show k < 100000 by omega)
        have hk2 := i_cl (show k < 100000 by omega)
        have hk3 : ¬ 11 ≤ k := by omega
        have hk4 : ¬ (10 : Int32) ≤ nI k := i_nle (b := 10) hk (by omega)
        rw [f_X11_hours_h32]
        unfold f_X11_hours_b67
        simp only [hk1, hk2, hk3, hk4, hi1, hi2, hi3, m_38, l_309, r_309 i hi6, l_310 i hi6, ci_10, zi_10, Nat.reduceLeDiff, or_self, not_false_eq_true, ↓reduceIte, hMR.1, hMR.2 k hk, i_6k, nI_1]
        split
        · rw [Int32.add_zero]
        · rfl
      · show f_X11_hours_h32 250 (nI i) (m + 1) (sHours (sRd s) i 10) (nI 10) M0 = _
        rw [f_X11_hours_h32, if_pos (show (10 : Int32) ≤ nI 10 by decide)]
    rw [hmain, hi2]
    exact tot.ret ⟨⟨hz0, rfl⟩, h', hlo0⟩
  · simp only [hl, ↓reduceIte, Option.bind_some, bf_eq, m_bad1 (th0 M 0) n1, n1]
    exact tot.ret ⟨th0 (mU M 250 0 0) 1, h'.t0 ok 1, lo_t0.tr lo_t0⟩
end MOPS
