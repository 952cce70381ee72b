section MOPS
variable {M : Mem} {s : St}
theorem o_image (h : MS M s) (ok : SOK s) : tot (f_X11_image M 250) (fun r M' => .inl r = (oImage s).1 ∧ MS M' (oImage s).2 ∧ Lo M M') := by
  unfold f_X11_image oImage
  have h' := h.t0 ok 0
  generalize hM0 : mU M 250 0 0 = M0 at h'
  have hlo0 : Lo M M0 := by rw [← hM0]; exact lo_t0
  have hi3 := ok.2.2.2.2.2.1
  have hl4 := ok.2.2.1
  have e35 := h'.1.2.2.2.2
  rw [e35]
  by_cases hl : (sIm s).length < 3
  · rw [if_neg (show ¬ nI (sIm s).length = 3 from i_ne (b := 3) (by omega) (by omega) (by omega)), if_pos hl]
    refine tot.bd (g_all hl (bk := 0) (R := sRd s) (Or.inl ⟨rfl, fun p hp => h'.2.2.2.1.lc hp⟩) (Or.inl rfl) (fun k hk => ok.2.2.2.2.1.2.2.2.1.1 k hk)) ?_
    rintro r M1 ⟨h41, hc⟩
    rcases hc with ⟨_, a1, a2, a3⟩ | ⟨hbad, _⟩
    · have e35' : M1 250 35 = nI (sIm s).length := (a3 35 (by decide)).trans e35
      have hb : ∀ b, b ≠ 250 → b ≠ 328 + (sIm s).length → mU M1 250 35 (nI ((sIm s).length + 1)) b = M0 b := fun b h1 h2 => by rw [u_ne h1]; exact a2 b h1 h2
      have hj : ∀ j, j ≠ 35 → j ≠ 41 → mU M1 250 35 (nI ((sIm s).length + 1)) 250 j = M0 250 j := fun j h1 h2 => by rw [mU_at, if_neg (fun z => h1 z.2)]; exact a3 j h2
      refine tot.ret ⟨?_, ?_, ?_⟩
      · show Sum.inl (mU M1 250 35 (M1 250 35 + 1) 250 35) = _
        rw [mU_at, if_pos ⟨rfl, rfl⟩, e35', nI_1]
      · show MS (mU M1 250 35 (M1 250 35 + 1)) _
        rw [e35', nI_1]
        obtain ⟨⟨c1, c2, c3, c4, c5⟩, c6, c7, c8, c9⟩ := h'
        refine ⟨⟨by rw [hj 1 (by decide) (by decide)]; exact c1, by rw [hj 3 (by decide) (by decide)]; exact c2, by rw [hj 11 (by decide) (by decide)]; exact c3, by rw [hj 18 (by decide) (by decide)]; exact c4, ?_⟩, fun k hk => by rw [hb 251 (by decide) (by omega)]; exact c6 k hk, fun i A hi => ?_, c8.fr (c8.1.fr (hj 19 (by decide) (by decide)) (hj 20 (by decide) (by decide)) (fun b hb2 => hb b (by omega) (by omega))) (fun j h1 h2 => hj j (by omega) (by omega)) (fun b h1 h2 => hb b (by omega) (by omega)), fun i R hi => ?_⟩
        · rw [mU_at, if_pos ⟨rfl, rfl⟩]
          show _ = nI (sIm s ++ [sRd s]).length
          rw [List.length_append]
          rfl
        · have hi : (sLs s)[i]? = some A := hi
          have := (List.getElem?_eq_some_iff.mp hi).1
          exact (c7 i A hi).fr (hb 258 (by decide) (by omega)) (hb _ (by omega) (by omega))
        · have hi : (sIm s ++ [sRd s])[i]? = some R := hi
          by_cases hz2 : i < (sIm s).length
          · rw [List.getElem?_append_left hz2] at hi
            rw [hb _ (by omega) (by omega)]
            exact c9 i R hi
          · rw [List.getElem?_append_right (by omega)] at hi
            have hi2 := (List.getElem?_eq_some_iff.mp hi).1
            have hi2 : i - (sIm s).length < 1 := hi2
            have hi4 : i = (sIm s).length := by omega
            subst hi4
            rw [Nat.sub_self] at hi
            cases hi
            intro p hp
            rw [u_ne (by omega)]
            exact a1 p hp
      · show Lo M (mU M1 250 35 _)
        exact hlo0.tr (fun b hb2 => by rw [u_ne (by omega)]; exact a2 b (by omega) (by omega))
    · exact absurd hbad (by decide)
  · have hz : (sIm s).length = 3 := by omega
    rw [hz, if_pos (by rfl), if_neg (by decide)]
    exact tot.ret ⟨rfl, h', hlo0⟩
theorem o_restore (h : MS M s) (ok : SOK s) : tot (f_X11_restore M 250) (fun r M' => .inl r = (oRestore s).1 ∧ MS M' (oRestore s).2 ∧ Lo M M') := by
  unfold f_X11_restore oRestore
  have h' := h.t0 ok 0
  generalize hM0 : mU M 250 0 0 = M0 at h'
  have hlo0 : Lo M M0 := by rw [← hM0]; exact lo_t0
  have hi3 := ok.2.2.2.2.2.1
  have hl4 := ok.2.2.1
  have e35 := h'.1.2.2.2.2
  rw [e35]
  by_cases hl : 0 < (sIm s).length
  · rw [if_neg (nI_ne0 hl (by omega)), i_prd hl, if_pos hl]
    have hget : (sIm s)[(sIm s).length - 1]? = some (((sIm s)[(sIm s).length - 1]?).getD (sRd s)) := by
      rw [List.getElem?_eq_getElem (show (sIm s).length - 1 < (sIm s).length by omega)]
      rfl
    generalize hR : ((sIm s)[(sIm s).length - 1]?).getD (sRd s) = R at hget
    have hROK := ok.2.2.2.2.2.2 _ _ hget
    have hK := h'.2.2.2.2 _ _ hget
    have e1 : mU M0 250 35 (nI ((sIm s).length - 1)) 250 35 = nI ((sIm s).length - 1) := by rw [mU_at, if_pos ⟨rfl, rfl⟩]
    rw [e1]
    refine tot.bd (g_all (show (sIm s).length - 1 < 3 by omega) (bk := 1) (R := R) (Or.inr ⟨rfl, fun p hp => by rw [u_ne (by omega)]; exact hK p hp⟩) (Or.inr rfl) (fun k hk => hROK.2.2.2.1.1 k hk)) ?_
    rintro r M1 ⟨h41, hc⟩
    rcases hc with ⟨hbad, _⟩ | ⟨_, a1, a2, a3⟩
    · exact absurd hbad (by decide)
    · have hb : ∀ b, b ≠ 250 → (b < 261 ∨ 326 < b) → M1 b = M0 b := fun b h1 h2 => by rw [a2 b h1 h2, u_ne h1]
      have hj : ∀ j, j = 1 ∨ j = 3 ∨ j = 11 ∨ j = 18 → M1 250 j = M0 250 j := fun j h1 => by rw [a3 j (by omega), mU_at, if_neg (by omega)]
      have e35' : M1 250 35 = nI ((sIm s).length - 1) := by rw [a3 35 (by decide)]; exact e1
      refine tot.ret ⟨congrArg Sum.inl e35', ?_, hlo0.tr (fun b hb2 => hb b (by omega) (by omega))⟩
      obtain ⟨⟨c1, c2, c3, c4, c5⟩, c6, c7, c8, c9⟩ := h'
      refine ⟨⟨by rw [hj 1 (by omega)]; exact c1, by rw [hj 3 (by omega)]; exact c2, by rw [hj 11 (by omega)]; exact c3, by rw [hj 18 (by omega)]; exact c4, ?_⟩, fun k hk => by rw [hb 251 (by decide) (by omega)]; exact c6 k hk, fun i A hi => ?_, MR.of a1, fun i R hi => ?_⟩
      · rw [e35']
        show _ = nI ((sIm s).take ((sIm s).length - 1)).length
        rw [List.length_take, Nat.min_eq_left (by omega)]
      · have hi : (sLs s)[i]? = some A := hi
        have := (List.getElem?_eq_some_iff.mp hi).1
        exact (c7 i A hi).fr (hb 258 (by decide) (by omega)) (hb _ (by omega) (by omega))
      · have hi : ((sIm s).take ((sIm s).length - 1))[i]? = some R := hi
        have hi2 := (List.getElem?_eq_some_iff.mp hi).1
        rw [List.length_take] at hi2
        rw [List.getElem?_take_of_lt (by omega)] at hi
        rw [hb _ (by omega) (by omega)]
        exact c9 i R hi
  · have hz : (sIm s).length = 0 := by omega
    rw [hz, if_pos (by rfl), if_neg (by omega)]
    exact tot.ret ⟨rfl, h', hlo0⟩
end MOPS
