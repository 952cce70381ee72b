section MOPS
variable {M : Mem} {s : St}
theorem MR.fr2 {M M' : Mem} {R R' : Dk} (h : MR M R) (hD : MD M' (rD R')) (hR : ∀ o k, 18 ≤ o → R' o k = R o k) (h4 : ∀ j, 31 ≤ j → j ≤ 34 → M' 250 j = M 250 j) (hf : ∀ b, 283 ≤ b → b < 327 → M' b = M b) : MR M' R' := by
  obtain ⟨_, ⟨a1, a2, a3, a4⟩, a5, a6, a7, a8⟩ := h
  refine ⟨hD, ⟨by rw [h4 31 (by omega) (by omega), hR 18 0 (by omega)]; exact a1, by rw [h4 32 (by omega) (by omega), hR 27 0 (by omega)]; exact a2, by rw [h4 33 (by omega) (by omega), hR 34 0 (by omega)]; exact a3, by rw [h4 34 (by omega) (by omega), hR 39 0 (by omega)]; exact a4⟩, fun f hf2 => ?_, fun m hm => ?_, fun b hb => ?_, fun p hp => ?_⟩
  · rw [hf _ (by omega) (by omega), hR 20 f (by omega), hR 22 f (by omega), hR 24 f (by omega), hR 26 f (by omega)]; exact a5 f hf2
  · rw [hf _ (by omega) (by omega), hR 29 m (by omega), hR 31 m (by omega), hR 33 m (by omega)]; exact a6 m hm
  · rw [hf _ (by omega) (by omega), hR 36 b (by omega)]
    exact ⟨(a7 b hb).1, fun k hk => by rw [hR 38 _ (by omega)]; exact (a7 b hb).2 k hk⟩
  · rw [hf _ (by omega) (by omega), hR 41 p (by omega), hR 43 p (by omega), hR 45 p (by omega)]; exact a8 p hp
/-- the road alone has changed -/
theorem MS.rd {M M' : Mem} {s : St} {R : Dk} (h : MS M s) (ok : SOK s) (hR : MR M' R) (hj : ∀ j, j = 1 ∨ j = 3 ∨ j = 11 ∨ j = 18 ∨ j = 35 → M' 250 j = M 250 j) (hf : ∀ b, b = 251 ∨ (254 ≤ b ∧ b ≤ 258) ∨ 328 ≤ b → b ≤ 330 → M' b = M b) : MS M' (upR s R) := by
  obtain ⟨⟨a1, a2, a3, a4, a5⟩, a6, a7, a8, a9⟩ := h
  have hi3 := ok.2.2.2.2.2.1
  have hl4 := ok.2.2.1
  refine ⟨⟨by rw [hj 1 (by omega)]; exact a1, by rw [hj 3 (by omega)]; exact a2, by rw [hj 11 (by omega)]; exact a3, by rw [hj 18 (by omega)]; exact a4, by rw [hj 35 (by omega)]; exact a5⟩, fun k hk => by rw [hf 251 (by omega) (by omega)]; exact a6 k hk, fun i A hi => ?_, hR, fun i R hi => ?_⟩
  · have hi : (sLs s)[i]? = some A := hi
    have := (List.getElem?_eq_some_iff.mp hi).1
    exact (a7 i A hi).fr (hf 258 (by omega) (by omega)) (hf _ (by omega) (by omega))
  · have hi : (sIm s)[i]? = some R := hi
    have := (List.getElem?_eq_some_iff.mp hi).1
    rw [hf _ (by omega) (by omega)]
    exact a9 i R hi
theorem MS.sd {M M' : Mem} {s : St} {D : Dk} (h : MS M s) (ok : SOK s) (hD : MD M' D) (hj : ∀ j, j = 1 ∨ j = 3 ∨ j = 11 ∨ j = 18 ∨ j = 35 ∨ (31 ≤ j ∧ j ≤ 34) → M' 250 j = M 250 j) (hf : ∀ b, b = 251 ∨ (254 ≤ b ∧ b ≤ 258) ∨ 283 ≤ b → b ≤ 330 → M' b = M b) : MS M' (upR s (rS (sRd s) D)) :=
  h.rd ok (h.2.2.2.1.fr2 (hD.cg (fun o k hi => (rS_rD (sRd s) D o k hi).symm)) (fun o k ho => by unfold rS; rw [if_neg (by omega)]) (fun j h1 h2 => hj j (by omega)) (fun b h1 h2 => hf b (by omega) (by omega))) (fun j hj2 => hj j (by omega)) (fun b h1 h2 => hf b (by omega) h2)
theorem TF.lo {M M' : Mem} (h : TF M M') : Lo M M' := h.g.lo
theorem o_fault (h : MS M s) (ok : SOK s) : ∃ M', f_X11_fault M 250 = some (sPl s, M') ∧ MS M' s ∧ Lo M M' := by
  unfold f_X11_fault
  refine ⟨mU M 250 0 0, ?_, h.t0 ok 0, lo_t0⟩
  rw [mU_at, if_neg (by decide), h.1.2.1]
theorem o_deck (h : MS M s) (ok : SOK s) (v : Int32) : MO M (f_X11_deck M 250 v) cdA (oDeck s v) := by
  unfold MO f_X11_deck f_X11_deck_b21 oDeck
  have h' := h.t0 ok 0
  rw [m_in, Option.bind_some]
  by_cases hl : dIn v 2 8 = true
  · simp only [hl, ↓reduceIte, Option.bind_some, bt_ne, m_bad0 (th0 M 0)]
    generalize hM0 : mU M 250 0 0 = M0 at h'
    have hlo0 : Lo M M0 := by rw [← hM0]; exact lo_t0
    have hz0 : M0 250 0 = 0 := by rw [← hM0]; exact th0 M 0
    have hd := h'.d
    have hj0 : ∀ j, j ≠ 19 → j ≠ 20 → mU (mU M0 250 19 v) 250 20 0 250 j = M0 250 j := fun j h1 h2 => by rw [mU_at, if_neg (by omega), mU_at, if_neg (by omega)]
    have hb0 : ∀ b, b ≠ 250 → mU (mU M0 250 19 v) 250 20 0 b = M0 b := fun b h1 => by rw [u_ne h1, u_ne h1]
    refine tot.loopFU (σ := Int32 × Mem) (fun m s9 => f_X11_deck_h47 250 v m (M0 250 19) s9.1 s9.2) 8 (fun p s9 => s9.1 = nI p ∧ MD s9.2 (fun o k => if o = 0 then (if k = 0 then v else 0) else if o = 2 then rD (sRd s) 2 k else if k < p then (if o = 12 then 2 else 0) else rD (sRd s) o k) ∧ TF (mU (mU M0 250 19 v) 250 20 0) s9.2) _ (by omega) (0, mU (mU M0 250 19 v) 250 20 0) ⟨rfl, ⟨⟨?_, ?_⟩, fun o k ho hi => ?_⟩, TF.rf⟩ ?_ ?_
    · dsimp only; rw [mU_at, if_neg (by decide), mU_at, if_pos ⟨rfl, rfl⟩]; simp
    · dsimp only; rw [mU_at, if_pos ⟨rfl, rfl⟩]; simp
    · have he := inD_e hi
      dsimp only
      rw [u_ne (dA_ne o he.1 ho he.2), u_ne (dA_ne o he.1 ho he.2), hd.2 o k ho hi, if_neg (by omega)]
      by_cases z2 : o = 2
      · rw [if_pos z2, z2]
      · rw [if_neg z2, if_neg (by omega)]
    · rintro m p ⟨x, M1⟩ hp ⟨hx, hM, hf⟩ hnext
      dsimp only at hx hM hf
      subst hx
      have hp1 := i_lt0 (show p < 100000 by omega)
      have hp2 := i_cl (show p < 100000 by omega)
      have hp3 : ¬ 8 ≤ p := by omega
      show tot (f_X11_deck_h47 250 v (m + 1) (M0 250 19) (nI p) M1) _
      rw [f_X11_deck_h47, if_neg (show ¬ (8 : Int32) ≤ nI p from i_nle (b := 8) hp (by omega))]
      refine tot.loopFU (σ := Int32 × Mem) (fun m9 s9 => f_X11_deck_h56 250 v (f_X11_deck_h47 250 v m) m9 (M0 250 19) (nI p) s9.1 s9.2) 4 (fun z s9 => s9.1 = nI z ∧ MD s9.2 (fun o k => if k = p ∧ (∃ q, q < z ∧ o = 4 + 2 * q) then 0 else if o = 0 then (if k = 0 then v else 0) else if o = 2 then rD (sRd s) 2 k else if k < p then (if o = 12 then 2 else 0) else rD (sRd s) o k) ∧ TF (mU (mU M0 250 19 v) 250 20 0) s9.2) _ (by omega) (0, M1) ⟨rfl, hM.cg (fun o k _ => by
        rw [if_neg (c := k = p ∧ _)]; rintro ⟨_, q, hq, _⟩; omega), hf⟩ ?_ ?_
      · rintro m2 z ⟨x, M2⟩ hz ⟨hx, hM, hf⟩ hnext2
        dsimp only at hx hM hf
        subst hx
        have hz1 := i_lt0 (show z < 100000 by omega)
        have hz2 := i_cl (show z < 100000 by omega)
        have hz3 : ¬ 4 ≤ z := by omega
        have hz4 : ¬ (4 : Int32) ≤ nI z := i_nle (b := 4) hz (by omega)
        show tot (f_X11_deck_h56 250 v _ (m2 + 1) (M0 250 19) (nI p) (nI z) M2) _
        rw [f_X11_deck_h56]
        simp only [hz1, hz2, hz3, hz4, hp1, hp2, hp3, m_22, l_262, r_262 z hz, l_263 z hz, or_self, not_false_eq_true, ↓reduceIte, nI_1]
        rw [← dA_b z hz]
        refine hnext2 (nI (z + 1), mU M2 (dA (4 + 2 * z)) p 0) ⟨rfl, (hM.put (by omega) (inD_b hz hp) _).cg (fun o k hik => ?_), ?_⟩
        · rw [mU_at]
          by_cases hy : o = 4 + 2 * z ∧ k = p
          · rw [if_pos hy, if_pos ⟨hy.2, z, by omega, hy.1⟩]
          · rw [if_neg hy]
            by_cases hy2 : k = p ∧ ∃ q, q < z ∧ o = 4 + 2 * q
            · obtain ⟨a1, q, a2, a3⟩ := hy2
              rw [if_pos ⟨a1, q, a2, a3⟩, if_pos ⟨a1, q, by omega, a3⟩]
            · rw [if_neg hy2, if_neg (c := k = p ∧ ∃ q, q < z + 1 ∧ o = 4 + 2 * q)]
              rintro ⟨a1, q, a2, a3⟩
              by_cases hqz : q = z
              · exact hy ⟨by rw [a3, hqz], a1⟩
              · exact hy2 ⟨a1, q, by omega, a3⟩
        · dsimp only
          rw [dA_b z hz]
          exact hf.tr (TF.mU (by omega))
      · rintro m2 ⟨x, M2⟩ ⟨hx, hM, hf⟩
        dsimp only at hx hM hf
        subst hx
        have hz4 : (4 : Int32) ≤ nI 4 := by decide
        show tot (f_X11_deck_h56 250 v _ (m2 + 1) (M0 250 19) (nI p) (nI 4) M2) _
        rw [f_X11_deck_h56]
        simp only [hz4, hp1, hp2, hp3, m_24, l_272, m_25, l_273, or_self, not_false_eq_true, ↓reduceIte, nI_1]
        have i12 : inD 12 p := Or.inr (Or.inr ⟨by omega, hp⟩)
        have i14 : inD 14 p := Or.inr (Or.inr ⟨by omega, hp⟩)
        refine hnext (nI (p + 1), mU (mU M2 272 p 2) 273 p 0) ⟨rfl, ((hM.put (o := 12) (by omega) i12 _).put (o := 14) (by omega) i14 _).cg (fun o k hik => ?_), hf.tr ((TF.mU (by omega)).tr (TF.mU (by omega)))⟩
        have he := inD_e hik
        rw [mU_at, mU_at]
        by_cases hk : k = p
        · subst hk
          by_cases h14 : o = 14
          · subst h14; simp
          · by_cases h12 : o = 12
            · subst h12; simp
            · by_cases h0' : o = 0
              · subst h0'
                have hno : ¬ ∃ q, q < 4 ∧ 0 = 4 + 2 * q := by rintro ⟨q, _, h⟩; omega
                rw [if_neg (by omega), if_neg (by omega), if_neg (fun z => hno z.2), if_pos rfl, if_pos rfl]
              · by_cases h2' : o = 2
                · subst h2'
                  have hno : ¬ ∃ q, q < 4 ∧ 2 = 4 + 2 * q := by rintro ⟨q, _, h⟩; omega
                  rw [if_neg (by omega), if_neg (by omega), if_neg (fun z => hno z.2), if_neg h0', if_pos rfl, if_neg h0', if_pos rfl]
                · have : ∃ q, q < 4 ∧ o = 4 + 2 * q := ⟨(o - 4) / 2, by omega, by omega⟩
                  simp [h14, h12, h0', h2', this]
        · by_cases hk2 : k < p
          · simp [hk, hk2, Nat.lt_succ_of_lt hk2]
          · simp [hk, hk2, show ¬ k < p + 1 by omega]
    · rintro m ⟨x, M1⟩ ⟨hx, hM, hf⟩
      dsimp only at hx hM hf
      subst hx
      show tot (f_X11_deck_h47 250 v (m + 1) (M0 250 19) (nI 8) M1) _
      rw [f_X11_deck_h47, if_pos (show (8 : Int32) ≤ nI 8 by decide)]
      have hM9 : MD M1 (sLay (rD (sRd s)) v) := hM.cg (fun o k hi => by
        unfold sLay
        by_cases z0 : o = 0
        · rw [if_pos z0, if_pos z0]
        · rw [if_neg z0, if_neg z0]
          by_cases z2 : o = 2
          · rw [if_pos z2, if_pos z2]
          · rw [if_neg z2, if_neg z2, if_pos (by unfold inD at hi; omega)])
      refine tot.ret ⟨⟨?_, ?_⟩, h'.sd ok hM9 (fun j hj => ?_) (fun b h1 h2 => ?_), ?_⟩
      · rw [hf.2 0 (by omega) (by omega) (by omega), hj0 0 (by omega) (by omega)]; exact hz0
      · exact hd.p
      · rw [hf.2 j (by omega) (by omega) (by omega), hj0 j (by omega) (by omega)]
      · rw [hf.1 b (by omega) (by omega) (by omega), hb0 b (by omega)]
      · exact hlo0.tr (fun b hb => by rw [hf.1 b (by omega) (by omega) (by omega), hb0 b (by omega)])
  · simp only [hl, ↓reduceIte, Option.bind_some, bf_eq, m_bad1 (th0 M 0) n1, n1]
    exact tot.ret ⟨th0 (mU M 250 0 0) 1, h'.t0 ok 1, lo_t0.tr lo_t0⟩
theorem m_low (M : Mem) (x : Int32) : f_X11_lowest M x = some (sLst x, M) := by
  unfold f_X11_lowest sLst
  split <;> rfl
theorem m_hig (M : Mem) (x : Int32) : f_X11_highest M x = some (sMst x, M) := by
  unfold f_X11_highest sMst
  split
  · rfl
  · split <;> rfl
theorem o_set (h : MS M s) (ok : SOK s) (x v : Int32) : MO M (f_X11_set M 250 x v) cdA (oSet s x v) := by
  unfold MO f_X11_set f_X11_set_b21 f_X11_set_b49 oSet
  have h' := h.t0 ok 0
  rw [m_in, Option.bind_some]
  by_cases hl : dIn x 0 9 = true
  · obtain ⟨q, hq, rfl⟩ := dIn_nI (n := 9) hl (by omega)
    have hq1 := i_lt0 (show q < 100000 by omega)
    have hq2 := i_cl (show q < 100000 by omega)
    have hq3 : ¬ 10 ≤ q := by omega
    by_cases h1 : dIn v (sLst (nI q)) (sMst (nI q)) = true
    · simp only [hl, h1, hq1, hq2, hq3, Bool.and_self, ↓reduceIte, Option.bind_some, bt_ne, m_bad0 (th0 M 0), m_low, m_hig, m_in, m_21, l_261, or_self, not_false_eq_true, h'.d.n (show q < 10 by omega)]
      refine tot.ret ⟨⟨by rw [u_ne (by decide)]; exact th0 M 0, rfl⟩, h'.rd ok (h'.2.2.2.1.fr2 (h'.d.put (o := 2) (by omega) (Or.inr (Or.inl ⟨rfl, by omega⟩)) v |>.cg (fun o k _ => ?_)) (fun o k ho => ?_) (fun j h1 h2 => congrFun (u_ne (show (250 : Nat) ≠ 261 by decide)) j) (fun b h1 h2 => u_ne (by show b ≠ 261; omega))) (fun j hj => congrFun (u_ne (show (250 : Nat) ≠ 261 by decide)) j) (fun b h1 h2 => u_ne (by omega)), lo_t0.tr (fun b hb => u_ne (by omega))⟩
      · unfold rD
        rw [mU_at, mU_at]
        by_cases hz : o = 2 ∧ k = q
        · rw [if_pos hz, if_pos (by omega)]
        · rw [if_neg hz, if_neg (by omega)]
      · rw [mU_at, if_neg (by omega)]
    · simp only [hl, h1, Bool.and_false, ↓reduceIte, Option.bind_some, bt_ne, m_bad0 (th0 M 0), m_low, m_hig, m_in, bf_eq, m_bad1 (th0 M 0) n1, n1]
      exact tot.ret ⟨th0 (mU M 250 0 0) 1, h'.t0 ok 1, lo_t0.tr lo_t0⟩
  · simp only [hl, Bool.false_and, ↓reduceIte, Option.bind_some, bf_eq, m_bad1 (th0 M 0) n1, n1]
    exact tot.ret ⟨th0 (mU M 250 0 0) 1, h'.t0 ok 1, lo_t0.tr lo_t0⟩
theorem put12 {M : Mem} {R : Dk} (h : MD M (rD R)) {k : Nat} (hk : k < 8) (v : Int32) : MD (mU M 272 k v) (rD (mU R 13 k v)) :=
  (h.put (o := 12) (by omega) (Or.inr (Or.inr ⟨by omega, hk⟩)) v).cg (fun o j _ => by
    unfold rD
    rw [mU_at, mU_at]
    by_cases hz : o = 12 ∧ j = k
    · rw [if_pos hz, if_pos (by omega)]
    · rw [if_neg hz, if_neg (by omega)])
theorem o_stay (h : MS M s) (ok : SOK s) (p b : Int32) (hb : b = 0 ∨ b = 1) : MO M (f_X11_stay M 250 p b) cdA (oStay s p b) := by
  unfold MO f_X11_stay f_X11_stay_b19 f_X11_stay_b43 f_X11_stay_b57 oStay
  have h' := h.t0 ok 0
  rw [m_isPiece h' ok, Option.bind_some]
  by_cases hl : pcOk s p = true
  · obtain ⟨q, hq, hq8, rfl⟩ := pcOk_of ok hl
    have hq1 := i_lt0 (show q < 100000 by omega)
    have hq2 := i_cl (show q < 100000 by omega)
    have hq3 : ¬ 8 ≤ q := by omega
    have e12 : mU M 250 0 0 272 q = sRd s 13 q := h'.d.a12 hq8
    simp only [hl, hq1, hq2, hq3, ↓reduceIte, Option.bind_some, bt_ne, m_bad0 (th0 M 0), m_24, l_272, or_self, not_false_eq_true, e12]
    have hfin : ∀ v, MS (mU (mU M 250 0 0) 272 q v) (upR s (mU (sRd s) 13 q v)) ∧ Lo M (mU (mU M 250 0 0) 272 q v) ∧ mU (mU M 250 0 0) 272 q v 250 0 = 0 := fun v =>
      ⟨h'.rd ok (h'.2.2.2.1.fr2 (put12 h'.d hq8 v) (fun o k ho => by rw [mU_at, if_neg (by omega)]) (fun j h1 h2 => congrFun (u_ne (show (250 : Nat) ≠ 272 by decide)) j) (fun b h1 h2 => u_ne (by omega))) (fun j hj => congrFun (u_ne (show (250 : Nat) ≠ 272 by decide)) j) (fun b h1 h2 => u_ne (by omega)), lo_t0.tr (fun b hb => u_ne (by omega)), by rw [u_ne (by decide)]; exact th0 M 0⟩
    by_cases hb : b = 0
    · rw [if_pos hb, if_pos hb, if_pos hb]
      obtain ⟨a1, a2, a3⟩ := hfin 0
      exact tot.ret ⟨⟨a3, rfl⟩, a1, a2⟩
    · rw [if_neg hb, if_neg hb, if_neg hb]
      by_cases hz : sRd s 13 q = 0
      · rw [if_pos hz, if_pos hz]
        obtain ⟨a1, a2, a3⟩ := hfin 2
        exact tot.ret ⟨⟨a3, rfl⟩, a1, a2⟩
      · rw [if_neg hz, if_neg hz]
        exact tot.ret ⟨⟨th0 M 0, rfl⟩, h', lo_t0⟩
  · simp only [hl, ↓reduceIte, Option.bind_some, bf_eq, m_bad1 (th0 M 0) n1, n1]
    exact tot.ret ⟨th0 (mU M 250 0 0) 1, h'.t0 ok 1, lo_t0.tr lo_t0⟩
theorem o_shape (h : MS M s) (ok : SOK s) (kd j a : Int32) : MO M (f_X11_shape M 250 kd j a) cdA (oShape s kd j a) := by
  unfold MO f_X11_shape f_X11_shape_b30 f_X11_shape_b25 oShape
  have h' := h.t0 ok 0
  rw [m_isShape, Option.bind_some]
  by_cases hl : shOk kd j = true
  · by_cases h1 : dIn a 1 9999 = true
    · simp only [hl, h1, Bool.and_self, ↓reduceIte, Option.bind_some, bt_ne, m_bad0 (th0 M 0), m_in]
      obtain ⟨q, hq, rfl⟩ := shOk_of hl
      have okd := ok.dk
      obtain ⟨⟨hn, h2, h8⟩, _, _, _, hz⟩ := okd
      refine tot.bd (t_shapes h'.d hn h2 h8 hz hq j a) ?_
      rintro r M1 ⟨hM1, hf1⟩
      show tot ((f_X11_sizeOf M1 250 (nI q)).bind _) _
      rw [t_size hM1 (by simpa [sSh] using hn) h8 hq, Option.bind_some]
      exact tot.ret ⟨⟨hf1.g.z (th0 M 0), rfl⟩, h'.sd ok hM1 (fun j hj => hf1.2 j (by omega) (by omega) (by omega)) (fun b h1 h2 => hf1.1 b (by omega) (by omega) (by omega)), lo_t0.tr hf1.lo⟩
    · simp only [hl, h1, Bool.and_false, ↓reduceIte, Option.bind_some, bt_ne, m_in, bf_eq, m_bad1 (th0 M 0) n1, n1]
      exact tot.ret ⟨th0 (mU M 250 0 0) 1, h'.t0 ok 1, lo_t0.tr lo_t0⟩
  · simp only [hl, Bool.false_and, ↓reduceIte, Option.bind_some, bf_eq, m_bad1 (th0 M 0) n1, n1]
    exact tot.ret ⟨th0 (mU M 250 0 0) 1, h'.t0 ok 1, lo_t0.tr lo_t0⟩
theorem o_go (h : MS M s) (ok : SOK s) (l w t : Int32) : MO M (f_X11_go M 250 l w t) cdB (oGo s l w t) := by
  unfold MO f_X11_go f_X11_go_b19 f_X11_go_b47 f_X11_go_b52 oGo
  have h' := h.t0 ok 0
  rw [m_isLaw h', Option.bind_some]
  by_cases hl : lOk s l = true
  · by_cases ht : dIn t 0 100 = true
    · by_cases hw : dIn w 0 99 = true
      · simp only [hl, ht, hw, Bool.and_self, ↓reduceIte, Option.bind_some, bt_ne, m_bad0 (th0 M 0), m_in]
        obtain ⟨i, hi, rfl, hget, hR, hwf⟩ := h'.go ok hl
        obtain ⟨N, hN, rfl⟩ := dIn_nI (n := 100) ht (by omega)
        have okd := ok.dk
        generalize hM0 : mU M 250 0 0 = M0 at h' hR
        have hlo0 : Lo M M0 := by rw [← hM0]; exact lo_t0
        have hz0 : M0 250 0 = 0 := by rw [← hM0]; exact th0 M 0
        rw [i_cl (by omega)]
        refine tot.loopFU (σ := Int32 × Mem) (fun m s9 => f_X11_go_h64 250 (nI i) w (nI N) m s9.1 s9.2) N (fun t s9 => s9.1 = nI t ∧ MD s9.2 (sRun (lw s (nI i)) w 100 (pcs (sRd s)) (rD (sRd s)) t) ∧ TF M0 s9.2) _ (by omega) (0, M0) ⟨rfl, h'.d, TF.rf⟩ ?_ ?_
        · rintro m t ⟨x, M1⟩ ht ⟨hx, hM, hf⟩ hnext
          dsimp only at hx hM hf
          subst hx
          show tot (f_X11_go_h64 250 (nI i) w (nI N) (m + 1) (nI t) M1) _
          rw [f_X11_go_h64, if_neg (i_nle ht (by omega))]
          refine tot.bd (t_tick (hd := 100) hi hM (okd.run t) (hR.tf hi hf) hwf (hf.g.h h'.1.2.2.2.1)) ?_
          rintro r M2 ⟨hM2, hf2⟩
          show tot (f_X11_go_h64 250 (nI i) w (nI N) m (nI t + 1) M2) _
          rw [nI_1]
          exact hnext (nI (t + 1), M2) ⟨rfl, hM2, hf.tr hf2⟩
        · rintro m ⟨x, M1⟩ ⟨hx, hM, hf⟩
          dsimp only at hx hM hf
          subst hx
          show tot (f_X11_go_h64 250 (nI i) w (nI N) (m + 1) (nI N) M1) _
          have hsz := t_size hM (okd.run N).1.1 okd.1.2.2 (q := 1) (by omega)
          rw [show nI 1 = 1 from rfl] at hsz
          rw [f_X11_go_h64, if_pos (i_le (Nat.le_refl _) (by omega)), hsz, Option.bind_some]
          exact tot.ret ⟨⟨hf.g.z hz0, rfl⟩, h'.sd ok hM (fun j hj => hf.2 j (by omega) (by omega) (by omega)) (fun b h1 h2 => hf.1 b (by omega) (by omega) (by omega)), hlo0.tr hf.lo⟩
      · simp only [hl, ht, hw, Bool.false_and, ↓reduceIte, Option.bind_some, bt_ne, m_bad0 (th0 M 0), m_in, bf_eq, m_bad1 (th0 M 0) n2, n1]
        exact tot.ret ⟨th0 (mU M 250 0 0) 2, h'.t0 ok 2, lo_t0.tr lo_t0⟩
    · simp only [hl, ht, Bool.and_false, ↓reduceIte, Option.bind_some, bt_ne, m_bad0 (th0 M 0), m_in, bf_eq, m_bad1 (th0 M 0) n2, n1]
      exact tot.ret ⟨th0 (mU M 250 0 0) 2, h'.t0 ok 2, lo_t0.tr lo_t0⟩
  · simp only [hl, ↓reduceIte, Option.bind_some, bf_eq, m_bad1 (th0 M 0) n1, n1]
    exact tot.ret ⟨th0 (mU M 250 0 0) 1, h'.t0 ok 1, lo_t0.tr lo_t0⟩
theorem o_piece (h : MS M s) (ok : SOK s) (p x : Int32) : MO M (f_X11_piece M 250 p x) cdC (oPiece s p x) := by
  unfold MO f_X11_piece f_X11_piece_b19 f_X11_piece_b41 oPiece
  have h' := h.t0 ok 0
  rw [m_isPiece h' ok, Option.bind_some]
  by_cases hl : pcOk s p = true
  · by_cases hx : dIn x 0 5 = true
    · obtain ⟨q, hq, hq8, rfl⟩ := pcOk_of ok hl
      obtain ⟨k, hk, rfl⟩ := dIn_nI (n := 5) hx (by omega)
      simp only [hl, hx, ↓reduceIte, Option.bind_some, bt_ne, m_bad0 (th0 M 0), m_in]
      have okd := ok.dk
      obtain ⟨⟨hn, h2, h8⟩, _, _, ⟨h14, h142⟩, _⟩ := okd
      have hq1 := i_lt0 (show q < 100000 by omega)
      have hq2 := i_cl (show q < 100000 by omega)
      have hq3 : ¬ 8 ≤ q := by omega
      have hk1 := i_lt0 (show k < 100000 by omega)
      have hk2 := i_cl (show k < 100000 by omega)
      rw [hk2, hq2]
      by_cases hk4 : k < 4
      · have hk3 : ¬ 4 ≤ k := by omega
        have hk5 : ¬ (4 : Int32) ≤ nI k := i_nle (b := 4) hk4 (by omega)
        simp only [hk1, hk3, hk5, hq1, hq3, ↓reduceIte, m_22, l_262, r_262 k hk4, l_263 k hk4, or_self, not_false_eq_true]
        refine tot.ret ⟨⟨th0 M 0, ?_⟩, h', lo_t0⟩
        have := h'.d.st hk4 hq8
        rw [this]
        unfold rD
        rw [show 1 + (4 + 2 * k) = 5 + 2 * k by omega]
      · have hk5 : (4 : Int32) ≤ nI k := i_le (a := 4) (by omega) (by omega)
        have hk6 : k = 4 ∨ k = 5 := by omega
        rcases hk6 with rfl | rfl
        · have : nI 4 = 4 := rfl
          simp only [hk5, this, hq1, hq3, ↓reduceIte, m_24, l_272, or_self, not_false_eq_true]
          exact tot.ret ⟨⟨th0 M 0, h'.d.a12 hq8⟩, h', lo_t0⟩
        · have e5 : ¬ nI 5 = 4 := by decide
          have e19 : mU M 250 0 0 250 19 = nI (pcs (sRd s)) := h'.d.p.trans hn
          have e273 : mU M 250 0 0 273 q = sRd s 15 q := h'.d.a14 hq8
          simp only [hk5, e5, ↓reduceIte, e19, nI_1]
          by_cases hlast : pcs (sRd s) ≤ q + 1
          · rw [if_pos (i_le hlast (by omega))]
            exact tot.ret ⟨⟨th0 M 0, (h142 q hlast hq8).symm⟩, h', lo_t0⟩
          · rw [if_neg (i_nle (by omega) (by omega))]
            simp only [hq1, hq3, m_25, l_273, or_self, not_false_eq_true, ↓reduceIte, e273]
            have h15 : sRd s 15 q = 0 ∨ sRd s 15 q = 1 := h14 q hq8
            rcases h15 with h0 | h1
            · rw [if_pos h0]
              exact tot.ret ⟨⟨th0 M 0, h0.symm⟩, h', lo_t0⟩
            · rw [if_neg (by rw [h1]; decide)]
              exact tot.ret ⟨⟨th0 M 0, h1.symm⟩, h', lo_t0⟩
    · simp only [hl, hx, ↓reduceIte, Option.bind_some, bt_ne, m_bad0 (th0 M 0), m_in, bf_eq, m_bad1 (th0 M 0) n2, n1]
      exact tot.ret ⟨th0 (mU M 250 0 0) 2, h'.t0 ok 2, lo_t0.tr lo_t0⟩
  · simp only [hl, ↓reduceIte, Option.bind_some, bf_eq, m_bad1 (th0 M 0) n1, n1]
    exact tot.ret ⟨th0 (mU M 250 0 0) 1, h'.t0 ok 1, lo_t0.tr lo_t0⟩
theorem bd100 (x : Int32) : sBd x * 100 / 100 = sBd x := by
  have h : ∀ (q : Int32), (-100000) ≤ q → q ≤ 100000 → q * 100 / 100 = q := fun q h1 h2 => by
    have e1 : (-100000 : Int32).toInt = -100000 := by decide
    have e2 : (100000 : Int32).toInt = 100000 := by decide
    have a1 := Int32.le_iff_toInt_le.mp h1
    have a2 := Int32.le_iff_toInt_le.mp h2
    rw [e1] at a1
    rw [e2] at a2
    apply Int32.toInt_inj.mp
    have e3 : (100 : Int32).toInt = 100 := by decide
    have hm : (q * 100).toInt = q.toInt * 100 := by
      rw [Int32.toInt_mul, e3]
      exact Int.bmod_eq_of_le (by omega) (by omega)
    rw [Int32.toInt_div, hm, e3, Int.mul_tdiv_cancel _ (by decide)]
    exact Int.bmod_eq_of_le (by omega) (by omega)
  unfold sBd
  by_cases h1 : x < 100000
  · rw [if_pos h1]
    by_cases h2 : (-100000) < x
    · rw [if_pos h2]; exact h x (Int32.le_of_lt h2) (Int32.le_of_lt h1)
    · rw [if_neg h2]; decide
  · rw [if_neg h1]; decide
theorem o_push (h : MS M s) (ok : SOK s) (l w p b : Int32) : MO M (f_X11_push M 250 l w p b) cdD (oPush s l w p b) := by
  unfold MO f_X11_push f_X11_push_b19 f_X11_push_b40 f_X11_push_b63 oPush
  have h' := h.t0 ok 0
  rw [m_isLaw h', Option.bind_some]
  by_cases hl : lOk s l = true
  · by_cases hp : pcOk s p = true
    · by_cases hw : dIn w 0 99 = true
      · simp only [hl, hp, hw, ↓reduceIte, Option.bind_some, bt_ne, m_bad0 (th0 M 0), m_in, m_isPiece h' ok]
        obtain ⟨i, hi, rfl, hget, hR, hwf⟩ := h'.go ok hl
        obtain ⟨q, hq, hq8, rfl⟩ := pcOk_of ok hp
        generalize hM0 : mU M 250 0 0 = M0 at h' hR
        have hlo0 : Lo M M0 := by rw [← hM0]; exact lo_t0
        have hz0 : M0 250 0 = 0 := by rw [← hM0]; exact th0 M 0
        rw [i_cl (by omega)]
        refine tot.bd (t_names h'.d hq8 w) ?_
        rintro r1 M1 ⟨hn1, hf1⟩
        have hR1 : RM M1 i (lw s (nI i)) := hR.fr (hf1 258 (by omega)) (hf1 _ (by omega))
        show tot ((f_X11_asks M1 250 (nI i)).bind _) _
        refine tot.bd (r_asks (h := 100) (nm := sNm (rD (sRd s)) w q) hi (by rw [hf1 250 (by omega)]; exact h'.1.2.2.2.1) hR1 hwf hn1) ?_
        rintro r2 M2 ⟨a1, a2, a3, a4⟩
        have hb : ∀ b, b ≠ 250 → b ≠ 259 → b ≠ 260 → M2 b = M0 b := fun b h1 h2 h3 => by rw [a3 b h1 h2, hf1 b h3]
        have hj : ∀ j, j ≠ 16 → j ≠ 17 → M2 250 j = M0 250 j := fun j h1 h2 => by rw [a4 j h1 h2, hf1 250 (by omega)]
        have hS : MS M2 s := h'.fr ok (fun j hj2 => hj j (by omega) (by omega)) (h'.d.fr (hj 19 (by omega) (by omega)) (hj 20 (by omega) (by omega)) (fun b hb2 => hb b (by omega) (by omega) (by omega))) (fun b h1 h2 => hb b (by omega) (by omega) (by omega))
        have hlo : Lo M M2 := hlo0.tr (fun b hb2 => hb b (by omega) (by omega) (by omega))
        have hz : M2 250 0 = 0 := (hj 0 (by omega) (by omega)).trans hz0
        show tot (if b = 0 then _ else _) _
        by_cases hb0 : b = 0
        · rw [if_pos hb0, if_pos hb0]
          refine tot.ret ⟨⟨hz, ?_⟩, hS, hlo⟩
          show M2 250 16 = _
          rw [a1]
          exact bd100 _
        · rw [if_neg hb0, if_neg hb0]
          refine tot.ret ⟨⟨hz, ?_⟩, hS, hlo⟩
          show M2 250 17 = _
          rw [a2]
          exact bd100 _
      · simp only [hl, hp, hw, ↓reduceIte, Option.bind_some, bt_ne, m_bad0 (th0 M 0), m_in, m_isPiece h' ok, bf_eq, m_bad1 (th0 M 0) n3, n1]
        exact tot.ret ⟨th0 (mU M 250 0 0) 3, h'.t0 ok 3, lo_t0.tr lo_t0⟩
    · simp only [hl, hp, ↓reduceIte, Option.bind_some, bt_ne, m_bad0 (th0 M 0), m_isPiece h' ok, bf_eq, m_bad1 (th0 M 0) n2, n1]
      exact tot.ret ⟨th0 (mU M 250 0 0) 2, h'.t0 ok 2, lo_t0.tr lo_t0⟩
  · simp only [hl, ↓reduceIte, Option.bind_some, bf_eq, m_bad1 (th0 M 0) n1, n1]
    exact tot.ret ⟨th0 (mU M 250 0 0) 1, h'.t0 ok 1, lo_t0.tr lo_t0⟩
end MOPS
