/-! The model's law(). -/
section OLAW
variable {M : Mem} {s : St}
theorem lc_fin (i1 : Int32) {K L : Nat} {M : Mem} (h8 : M 250 8 = nI K) (h11 : M 250 11 = nI L) (hL : L < 4) (hK : K ≤ 400) : f_X11_law_h146 250 i1 FU 0 M = some (nI L, mU (mU (mSet M (254 + L) K (M 252)) 258 L (nI K)) 250 11 (nI (L + 1))) := by
  have hr : gRf 253 L = 254 + L := r_253 L hL
  have hl : gN (254 + L) = 400 := l_254 L hL
  have h := loop_nI (f_X11_law_h146 250 i1) K (fun k => mSet M (254 + L) k (M 252)) (some (nI L, mU (mU (mSet M (254 + L) K (M 252)) 258 L (nI K)) 250 11 (nI (L + 1)))) (fun n k hk => by
    have a8 : mSet M (254 + L) k (M 252) 250 8 = nI K := by rw [mSet_ne (by omega)]; exact h8
    have a11 : mSet M (254 + L) k (M 252) 250 11 = nI L := by rw [mSet_ne (by omega)]; exact h11
    have a252 : mSet M (254 + L) k (M 252) 252 = M 252 := mSet_ne (by omega)
    rw [f_X11_law_h146, a8, a11, if_neg (i_nle hk (by omega)), m_12, l_253, m_10, l_252, a252, i_cl (by omega), i_cl (by omega), hr, hl, if_pos (fun z => z.elim (i_lt0 (by omega)) (by omega)), if_pos (fun z => z.elim (i_lt0 (by omega)) (by omega)), if_pos (fun z => z.elim (i_lt0 (by omega)) (by omega)), mSet_succ]) (fun n => by
    have a8 : mSet M (254 + L) K (M 252) 250 8 = nI K := by rw [mSet_ne (by omega)]; exact h8
    have a11 : mSet M (254 + L) K (M 252) 250 11 = nI L := by rw [mSet_ne (by omega)]; exact h11
    have b11 : mU (mSet M (254 + L) K (M 252)) 258 L (nI K) 250 11 = nI L := by rw [u_ne (by omega)]; exact a11
    have c11 : mU (mU (mSet M (254 + L) K (M 252)) 258 L (nI K)) 250 11 (nI (L + 1)) 250 11 = nI (L + 1) := by rw [mU_at, if_pos ⟨rfl, rfl⟩]
    rw [f_X11_law_h146, a8, a11, if_pos (i_le (Nat.le_refl K) (by omega)), m_13, l_258, i_cl (by omega), if_pos (fun z => z.elim (i_lt0 (by omega)) (by omega)), b11, ← nI_succ, c11, nI_succ, Int32.add_sub_cancel]) K 0 (by omega) FU (by unfold FU; omega)
  rw [mSet_0] at h
  exact h
theorem o_law (h : MS M s) (ok : SOK s) (x : Int32) : MO M (f_X11_law M 250 x) cdA (oLaw s x) := by
  unfold MO f_X11_law oLaw
  have h' := h.t0 ok 0
  have h00 := th0 M 0
  have hlo : Lo M (mU M 250 0 0) := lo_t0
  generalize mU M 250 0 0 = M0 at h' h00 hlo ⊢
  rw [h'.1.1, m_in, Option.bind_some]
  dsimp only
  by_cases hx : dIn x 0 (nI (sTb s)) = true
  · rw [hx, if_neg (show ¬ b2 true = 0 by decide), if_pos rfl]
    obtain ⟨n, hn, rfl⟩ := dIn_nI hx (by have := ok.1; omega)
    have h300 := ok.1
    have h4 := ok.2.2.1
    have h3 := ok.2.2.2.2.2.1
    rw [i_cl (show n < 100000 by omega)]
    unfold f_X11_law_b23
    rw [m_bad0 h00, Option.bind_some]
    dsimp only
    rw [if_pos rfl]
    obtain ⟨⟨c1, c2, c3, c4, c5⟩, c6, c7, c8, c9⟩ := h'
    have e11 : mU (mU M0 250 1 0) 250 3 (-1) 250 11 = nI (sLs s).length := by rw [mU_at, if_neg (by omega), mU_at, if_neg (by omega)]; exact c3
    rw [e11]
    by_cases hl : (sLs s).length = 4
    · rw [if_pos (show nI (sLs s).length = 4 by rw [hl]; rfl), if_pos hl]
      have eo : ∀ b, b ≠ 250 → mU (mU M0 250 1 0) 250 3 (-1) b = M0 b := fun b hb => by rw [u_ne hb, u_ne hb]
      have ek : ∀ k, k ≠ 1 → k ≠ 3 → mU (mU M0 250 1 0) 250 3 (-1) 250 k = M0 250 k := fun k h1 h2 => by rw [mU_at, if_neg (fun z => h2 z.2), mU_at, if_neg (fun z => h1 z.2)]
      refine tot.ret ⟨⟨by rw [ek 0 (by decide) (by decide)]; exact h00, rfl⟩, ⟨⟨?_, ?_, e11, by rw [ek 18 (by decide) (by decide)]; exact c4, by rw [ek 35 (by decide) (by decide)]; exact c5⟩, fun k hk => by rw [eo 251 (by decide)]; exact c6 k hk, fun i A hi => (c7 i A hi).fr (eo _ (by decide)) (eo _ (by omega)), c8.fr (c8.1.fr (ek 19 (by decide) (by decide)) (ek 20 (by decide) (by decide)) (fun b hb => eo b (by omega))) (fun j h1 h2 => ek j (by omega) (by omega)) (fun b h1 h2 => eo b (by omega)), fun i R hi => by rw [eo _ (by omega)]; exact c9 i R hi⟩, hlo.tr (fun b hb => eo b (by omega))⟩
      · rw [mU_at, if_neg (by omega), mU_at, if_pos ⟨rfl, rfl⟩]; rfl
      · rw [mU_at, if_pos ⟨rfl, rfl⟩]; rfl
    · rw [if_neg (show ¬ nI (sLs s).length = 4 from fun z => hl ((i_eq (b := 4) (by omega) (by decide)).mp z)), if_neg hl]
      generalize hM9 : mU (mU (mU (mU (mU (mU (mU (mU M0 250 1 0) 250 3 (-1)) 250 2 (nI n)) 250 4 0) 250 5 0) 250 6 0) 250 7 (-1)) 250 8 0 = M9
      have eo : ∀ b, b ≠ 250 → M9 b = M0 b := fun b hb => by rw [← hM9, u_ne hb, u_ne hb, u_ne hb, u_ne hb, u_ne hb, u_ne hb, u_ne hb, u_ne hb]
      have ek : ∀ k, k = 0 ∨ 8 < k → M9 250 k = M0 250 k := fun k hk => by
        rw [← hM9]
        simp only [mU_at]
        rw [if_neg (by omega), if_neg (by omega), if_neg (by omega), if_neg (by omega), if_neg (by omega), if_neg (by omega), if_neg (by omega), if_neg (by omega)]
      have h9 : MA (sTf s) n M9 0 0 [] := by
        refine ⟨⟨?_, by omega, fun k hk => by rw [eo 251 (by decide)]; exact c6 k hk⟩, ⟨?_, Nat.zero_le n⟩, ?_, ⟨?_, ?_⟩, ?_, fun k c hk => by cases hk⟩
        · rw [← hM9]; simp only [mU_at]; rfl
        · rw [← hM9]; simp only [mU_at]; rfl
        · rw [← hM9]; simp only [mU_at]; rfl
        · rw [← hM9]; simp only [mU_at]; rfl
        · rw [← hM9]; simp only [mU_at]; rfl
        · rw [← hM9]; simp only [mU_at]; rfl
      have e91 : M9 250 1 = 0 ∧ M9 250 3 = -1 := by
        rw [← hM9]; simp only [mU_at]; exact ⟨rfl, rfl⟩
      have hlaw := pLaw_ok (sTf s) n
      refine (a_blanks h9).bd (fun r M1 h1 => ?_)
      obtain ⟨h1, hf1⟩ := h1
      dsimp only
      refine lw_lp (f := sTf s) (n := n) ok.2.1 12 (c := 0) (X := []) (by omega) (by unfold FU; omega) h1 (sk_sk (sTf s) n 0) (Nat.zero_le _) (fun M2 q r Y h2 h3' hf2 => ?_) (fun M2 e h2 h3' hf2 => ?_)
      · rw [h2] at hlaw ⊢
        obtain ⟨l1, l2, l3, l4⟩ := hlaw
        have hf := hf1.tr hf2
        obtain ⟨g1, g2, g3, ⟨g4, g5⟩, g6, g7⟩ := h3'
        unfold f_X11_law_b121
        have k3 : ∀ k, k ≠ 3 → mU M2 250 3 (M2 250 7) 250 k = M2 250 k := fun k hk => by rw [mU_at, if_neg (fun z => hk z.2)]
        have o3 : ∀ b, b ≠ 250 → mU M2 250 3 (M2 250 7) b = M2 b := fun b hb => u_ne hb
        rw [k3 6 (by decide), if_pos g4]
        have g11 : mU M2 250 3 (M2 250 7) 250 11 = nI (sLs s).length := by rw [k3 11 (by decide), hf.2 11 (by omega), ek 11 (by omega)]; exact c3
        rw [lc_fin (nI n) (K := Y.length) (L := (sLs s).length) (by rw [k3 8 (by decide)]; exact g6) g11 (by omega) (by omega)]
        generalize hM4 : mU (mU (mSet (mU M2 250 3 (M2 250 7)) (254 + (sLs s).length) Y.length (mU M2 250 3 (M2 250 7) 252)) 258 (sLs s).length (nI Y.length)) 250 11 (nI ((sLs s).length + 1)) = M4
        have f4 : ∀ b, b ≠ 250 → b ≠ 252 → b ≠ 254 + (sLs s).length → b ≠ 258 → M4 b = M0 b := fun b z0 z1 z2 z3 => by rw [← hM4, u_ne z0, u_ne z3, mSet_ne z2, o3 b z0, hf.1 b z0 z1, eo b z0]
        have f5 : ∀ k, k ≠ 11 → k ≠ 3 → (k < 4 ∨ 8 < k) → M4 250 k = M9 250 k := fun k z1 z2 z3 => by rw [← hM4, mU_at, if_neg (fun z => z1 z.2), u_ne (by decide), mSet_ne (by omega), k3 k z2, hf.2 k z3]
        refine tot.ret ⟨⟨?_, rfl⟩, ⟨⟨?_, ?_, ?_, ?_, ?_⟩, fun k hk => ?_, fun i A hi => ?_, c8.fr (c8.1.fr ?_ ?_ (fun b hb => f4 b (by omega) (by omega) (by omega) (by omega))) (fun j z1 z2 => by rw [f5 j (by omega) (by omega) (by omega), ek j (by omega)]) (fun b z1 z2 => f4 b (by omega) (by omega) (by omega) (by omega)), fun i R hi => by rw [f4 _ (by omega) (by omega) (by omega) (by omega)]; exact c9 i R hi⟩, hlo.tr (fun b hb => f4 b (by omega) (by omega) (by omega) (by omega))⟩
        · rw [f5 0 (by decide) (by decide) (by omega), ek 0 (by omega)]; exact h00
        · rw [f5 1 (by decide) (by decide) (by omega), e91.1]; rfl
        · rw [← hM4, mU_at, if_neg (by omega), u_ne (by decide), mSet_ne (by omega), mU_at, if_pos ⟨rfl, rfl⟩, g5]; rfl
        · rw [← hM4, mU_at, if_pos ⟨rfl, rfl⟩]
          show nI _ = nI (sLs s ++ [Y]).length
          rw [List.length_append]; rfl
        · rw [f5 18 (by decide) (by decide) (by omega), ek 18 (by omega)]; exact c4
        · rw [f5 35 (by decide) (by decide) (by omega), ek 35 (by omega)]; exact c5
        · rw [f4 251 (by decide) (by decide) (by omega) (by decide)]; exact c6 k hk
        · have hi2 : (sLs s ++ [Y])[i]? = some A := hi
          by_cases hz : i < (sLs s).length
          · rw [List.getElem?_append_left hz] at hi2
            obtain ⟨d1, d2, d3⟩ := c7 i A hi2
            refine ⟨?_, d2, fun k c hk => ?_⟩
            · rw [← hM4, u_ne (by decide), mU_at, if_neg (by omega), mSet_ne (by omega), o3 258 (by decide), hf.1 258 (by decide) (by decide), eo 258 (by decide)]; exact d1
            · rw [f4 _ (by omega) (by omega) (by omega) (by omega)]; exact d3 k c hk
          · rw [List.getElem?_append_right (by omega)] at hi2
            have hiz : i = (sLs s).length := by
              have := (List.getElem?_eq_some_iff.mp hi2).1
              simp only [List.length_cons, List.length_nil] at this
              omega
            subst hiz
            rw [Nat.sub_self] at hi2
            cases hi2
            refine ⟨?_, by omega, fun k c hk => ?_⟩
            · rw [← hM4, u_ne (by decide), mU_at, if_pos ⟨rfl, rfl⟩]
            · have hk2 := (List.getElem?_eq_some_iff.mp hk).1
              rw [← hM4, u_ne (by omega), u_ne (by omega), mSet_at, if_pos ⟨rfl, hk2⟩, o3 252 (by decide)]
              exact g7 k c hk
        · rw [f5 19 (by decide) (by decide) (by omega), ek 19 (by omega)]
        · rw [f5 20 (by decide) (by decide) (by omega), ek 20 (by omega)]
      · rw [h2] at hlaw ⊢
        have hf := hf1.tr hf2
        obtain ⟨g1, g2, ⟨g3, g4, g5⟩, g6⟩ := h3'
        unfold f_X11_law_b121
        have k3 : ∀ k, k ≠ 3 → mU M2 250 3 (M2 250 7) 250 k = M2 250 k := fun k hk => by rw [mU_at, if_neg (fun z => hk z.2)]
        have o3 : ∀ b, b ≠ 250 → mU M2 250 3 (M2 250 7) b = M2 b := fun b hb => u_ne hb
        rw [k3 6 (by decide), if_neg (by
          rw [g3]
          exact fun z => absurd ((i_eq (a := e.1) (b := 0) (by omega) (by decide)).mp z) (by omega)), g3]
        generalize hM4 : mU M2 250 3 (M2 250 7) = M4 at k3 o3
        have f4 : ∀ b, b ≠ 250 → b ≠ 252 → M4 b = M0 b := fun b z0 z1 => by rw [o3 b z0, hf.1 b z0 z1, eo b z0]
        have f5 : ∀ k, k ≠ 3 → (k < 4 ∨ 8 < k) → M4 250 k = M9 250 k := fun k z2 z3 => by rw [k3 k z2, hf.2 k z3]
        refine tot.ret ⟨⟨?_, rfl⟩, ⟨⟨?_, ?_, ?_, ?_, ?_⟩, fun k hk => ?_, fun i A hi => ?_, c8.fr (c8.1.fr ?_ ?_ (fun b hb => f4 b (by omega) (by omega))) (fun j z1 z2 => by rw [f5 j (by omega) (by omega), ek j (by omega)]) (fun b z1 z2 => f4 b (by omega) (by omega)), fun i R hi => by rw [f4 _ (by omega) (by omega)]; exact c9 i R hi⟩, hlo.tr (fun b hb => f4 b (by omega) (by omega))⟩
        · rw [f5 0 (by decide) (by omega), ek 0 (by omega)]; exact h00
        · rw [f5 1 (by decide) (by omega), e91.1]; rfl
        · rw [← hM4, mU_at, if_pos ⟨rfl, rfl⟩]; exact g6
        · rw [f5 11 (by decide) (by omega), ek 11 (by omega)]; exact c3
        · rw [f5 18 (by decide) (by omega), ek 18 (by omega)]; exact c4
        · rw [f5 35 (by decide) (by omega), ek 35 (by omega)]; exact c5
        · rw [f4 251 (by decide) (by decide)]; exact c6 k hk
        · exact (c7 i A hi).fr (f4 258 (by decide) (by decide)) (f4 _ (by omega) (by omega))
        · rw [f5 19 (by decide) (by omega), ek 19 (by omega)]
        · rw [f5 20 (by decide) (by omega), ek 20 (by omega)]
  · have hxf : dIn x 0 (nI (sTb s)) = false := Bool.not_eq_true _ |>.mp hx
    rw [hxf, if_pos (show b2 false = 0 from rfl), if_neg (by decide)]
    unfold f_X11_law_b23
    rw [m_bad1 h00 n1, Option.bind_some]
    dsimp only
    rw [if_neg n1]
    exact tot.ret ⟨th0 M0 1, h'.t0 ok 1, hlo.tr lo_t0⟩
end OLAW
