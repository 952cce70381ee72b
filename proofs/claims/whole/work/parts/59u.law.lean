/-! The class's law(). -/
section KLAW
variable {M : Mem} {s : St}
theorem g03i : ∀ i, i < 4 → gRf (gRf 0 3) i = 92 + 5 * i := by decide +kernel
theorem g03n : gN (gRf 0 3) = 4 := by decide +kernel
theorem r_02 : gRf 0 2 = 3 := by decide +kernel
theorem r_00 : gRf 0 0 = 1 := by decide +kernel
theorem k_law (h : CS M s) (ok : SOK s) (x : Int32) : KO M (f_X10_law M 0 x) (oLaw s x) := by
  unfold KO f_X10_law oLaw
  rw [h.1, q_in, Option.bind_some]
  dsimp only
  rw [q_dem, Option.bind_some]
  by_cases hx : dIn x 0 (nI (sTb s)) = true
  · simp only [hx, ↓reduceIte]
    obtain ⟨n, hn, rfl⟩ := dIn_nI hx (by have := ok.1; omega)
    have h300 := ok.1
    rw [i_cl (show n < 100000 by omega)]
    have hcnt : mU (mU M 0 1 0) 0 5 (-1) 0 4 = nI (sLs s).length := by rw [mU_at, if_neg (by omega), mU_at, if_neg (by omega)]; exact h.2.1
    have h4 := ok.2.2.1
    obtain ⟨c1, c2, c3, c4, c5, c6, c7, c8⟩ := h
    have eo : ∀ b, b ≠ 0 → mU (mU M 0 1 0) 0 5 (-1) b = M b := fun b hb => by rw [u_ne hb, u_ne hb]
    rw [hcnt, g03n, if_neg (i_lt0 (by omega))]
    by_cases hl : (sLs s).length = 4
    · rw [if_pos (i_le (by omega) (by omega)), if_pos hl]
      unfold f_X10_law_b53
      refine tot.ret ⟨rfl, ⟨?_, hcnt, ?_, ?_, ?_, ?_, ?_, ?_⟩, fun b hb => eo b (by omega)⟩
      · rw [mU_at, if_neg (by omega), mU_at, if_pos ⟨rfl, rfl⟩]; rfl
      · rw [mU_at, if_pos ⟨rfl, rfl⟩]; rfl
      · rw [mU_at, if_neg (by omega), mU_at, if_neg (by omega)]; exact c4
      · exact fun k hk => by rw [eo 2 (by decide)]; exact c5 k hk
      · exact fun i A hi => (c6 i A hi).fr (by rw [eo _ (by omega)]) (eo _ (by omega))
      · exact c7.fr (fun b h1 h2 => eo b (by omega))
      · exact fun i R hi => (c8 i R hi).fr (fun b h1 h2 => eo b (by omega))
    · rw [if_neg (i_nle (by omega) (by omega)), if_neg hl, if_pos (i_in (by omega) (by omega)), i_cl (by omega), r_02, r_00, r_30]
      rw [g03i _ (by omega)]
      have hlaw := pLaw_ok (sTf s) n
      refine (rd_all (f := sTf s) (n := n) ok.2.1 (by omega) (fun k hk => by rw [eo 2 (by decide)]; exact c5 k hk)).bd (fun r M1 h1 => ?_)
      obtain ⟨h1, hf1, hf4⟩ := h1
      dsimp only
      have e0 : ∀ b, b ≠ 0 → (b < 3 ∨ 9 < b) → M1 b = M b := fun b hb hb2 => (hf1 b hb2).trans (eo b hb)
      have e00 : M1 0 = mU (mU M 0 1 0) 0 5 (-1) 0 := hf1 0 (by omega)
      cases hp : pLaw (kK (sTf s) n) (kV (sTf s) n) (kN (sTf s) n) 13 (sk (sTf s) n 0) [] with
      | inl e =>
        rw [hp] at h1
        have hr : RF M1 e := h1
        rw [if_neg hr.ne]
        have e5 : mU M1 0 5 (M1 3 3) 3 2 = nI e.1 := by rw [u_ne (by decide)]; exact hr.1.1
        have eo2 : ∀ b, b ≠ 0 → mU M1 0 5 (M1 3 3) b = M1 b := fun b hb => u_ne hb
        refine tot.ret ⟨by rw [e5], ⟨?_, ?_, ?_, ?_, ?_, ?_, ?_, ?_⟩, fun b hb => by rw [eo2 b (by omega)]; exact e0 b (by omega) (by omega)⟩
        · rw [mU_at, if_neg (by omega), e00, mU_at, if_neg (by omega), mU_at, if_pos ⟨rfl, rfl⟩]; rfl
        · rw [mU_at, if_neg (by omega), e00]; exact hcnt
        · rw [mU_at, if_pos ⟨rfl, rfl⟩]; exact hr.2.1
        · rw [mU_at, if_neg (by omega), e00, mU_at, if_neg (by omega), mU_at, if_neg (by omega)]; exact c4
        · exact fun k hk => by rw [eo2 2 (by decide), e0 2 (by decide) (by omega)]; exact c5 k hk
        · exact fun i A hi => (c6 i A hi).fr (by rw [eo2 _ (by omega), e0 _ (by omega) (by omega)]) (by rw [eo2 _ (by omega), e0 _ (by omega) (by omega)])
        · exact c7.fr (fun b h1 h2 => by rw [eo2 _ (by omega), e0 _ (by omega) (by omega)])
        · exact fun i R hi => (c8 i R hi).fr (fun b h1 h2 => by rw [eo2 _ (by omega), e0 _ (by omega) (by omega)])
      | inr y =>
        obtain ⟨q, X⟩ := y
        rw [hp] at h1 hlaw
        have hr : RP (sTf s) n M1 q ([] ++ cXs X) := h1
        rw [List.nil_append] at hr
        obtain ⟨l1, l2, l3, l4⟩ := hlaw
        obtain ⟨J, j, _, _, _, _, r5, r6⟩ := hr
        rw [if_pos r5]
        have hL := lw_all (sLs s).length (by omega)
        obtain ⟨⟨g1, g2, g3⟩, _⟩ := hL
        have g5 : gRf 4 0 = 5 := r_40
        unfold f_X3_take
        rw [g1, p_copy (by rw [g2, g3]; decide) (by rw [g5, g2, g3, r_n5]) (by rw [g5, g2]; omega), g2, g3, g5, Option.bind_some]
        dsimp only
        rw [Option.bind_some]
        dsimp only
        generalize hM2 : mU (mSet M1 (92 + 5 * (sLs s).length + 2) 300 (M1 5)) (92 + 5 * (sLs s).length) 4 (M1 3 1) = M2
        have eM : ∀ b, b ≠ 92 + 5 * (sLs s).length → b ≠ 92 + 5 * (sLs s).length + 2 → M2 b = M1 b := fun b h1 h2 => by rw [← hM2, u_ne h1, mSet_ne h2]
        have e04 : M2 0 4 = nI (sLs s).length := by rw [eM 0 (by omega) (by omega), e00]; exact hcnt
        have eo2 : ∀ b, b ≠ 0 → mU M2 0 4 (M2 0 4 + 1) b = M2 b := fun b hb => u_ne hb
        have e41 : mU M2 0 4 (M2 0 4 + 1) 0 4 = nI ((sLs s).length + 1) := by rw [mU_at, if_pos ⟨rfl, rfl⟩, e04, nI_succ]
        have ew : ∀ b, b ≠ 0 → (b < 3 ∨ 9 < b) → b ≠ 92 + 5 * (sLs s).length → b ≠ 92 + 5 * (sLs s).length + 2 → mU M2 0 4 (M2 0 4 + 1) b = M b := fun b h1 h2 h3 h5 => by rw [eo2 b h1, eM b h3 h5, e0 b h1 h2]
        refine tot.ret ⟨?_, ⟨?_, ?_, ?_, ?_, ?_, ?_, ?_, ?_⟩, fun b hb => ew b (by omega) (by omega) (by omega) (by omega)⟩
        · rw [e41, nI_succ, Int32.add_sub_cancel]
        · rw [mU_at, if_neg (by omega), eM 0 (by omega) (by omega), e00, mU_at, if_neg (by omega), mU_at, if_pos ⟨rfl, rfl⟩]; rfl
        · rw [e41]
          show nI _ = nI (sLs s ++ [X]).length
          rw [List.length_append]; rfl
        · rw [mU_at, if_neg (by omega), eM 0 (by omega) (by omega), e00, mU_at, if_pos ⟨rfl, rfl⟩]; rfl
        · rw [mU_at, if_neg (by omega), eM 0 (by omega) (by omega), e00, mU_at, if_neg (by omega), mU_at, if_neg (by omega)]; exact c4
        · exact fun k hk => by rw [ew 2 (by decide) (by omega) (by omega) (by omega)]; exact c5 k hk
        · intro i A hi
          have hi2 : (sLs s ++ [X])[i]? = some A := hi
          by_cases hz : i < (sLs s).length
          · rw [List.getElem?_append_left hz] at hi2
            exact (c6 i A hi2).fr (by rw [ew _ (by omega) (by omega) (by omega) (by omega)]) (ew _ (by omega) (by omega) (by omega) (by omega))
          · rw [List.getElem?_append_right (by omega)] at hi2
            have hiz : i = (sLs s).length := by
              have := (List.getElem?_eq_some_iff.mp hi2).1
              simp only [List.length_cons, List.length_nil] at this
              omega
            subst hiz
            rw [Nat.sub_self] at hi2
            cases hi2
            refine ⟨?_, by omega, fun k v hk => ?_⟩
            · rw [eo2 _ (by omega), ← hM2, mU_at, if_pos ⟨rfl, rfl⟩]; exact r6.1
            · have hk2 := (List.getElem?_eq_some_iff.mp hk).1
              rw [eo2 _ (by omega), ← hM2, u_ne (by omega), mSet_at, if_pos ⟨rfl, by omega⟩]
              exact r6.2.2 k v hk
        · exact c7.fr (fun b h1 h2 => ew b (by omega) (by omega) (by omega) (by omega))
        · intro i R hi
          have := (List.getElem?_eq_some_iff.mp hi).1
          exact (c8 i R hi).fr (fun b h1 h2 => ew b (by omega) (by omega) (by omega) (by omega))
  · simp only [hx, ↓reduceIte]
    exact tot.ret ⟨rfl, h, fun _ _ => rfl⟩
end KLAW
