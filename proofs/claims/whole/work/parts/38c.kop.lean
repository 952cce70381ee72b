theorem bt_ne : ¬ b2 true = 0 := by decide
theorem q_d1 (M : Mem) : f_X10_demand M 1 = some (.inl 0, M) := rfl
section KOPS
variable {M : Mem} {s : St}
theorem CS.rr {M : Mem} {s : St} (h : CS M s) : RR M 11 (sRd s) := h.2.2.2.2.2.2.1
/-- the road alone has changed -/
theorem CS.rd {M M' : Mem} {s : St} {R : Dk} (h : CS M s) (ok : SOK s) (hR : RR M' 11 R) (hf : ∀ b, (b ≤ 11 ∨ 57 ≤ b) → M' b = M b) : CS M' (upR s R) := by
  obtain ⟨a1, a2, a3, a4, a5, a6, a7, a8⟩ := h
  refine ⟨by rw [hf 0 (by omega)]; exact a1, by rw [hf 0 (by omega)]; exact a2, by rw [hf 0 (by omega)]; exact a3, by rw [hf 0 (by omega)]; exact a4, fun k hk => by rw [hf 2 (by omega)]; exact a5 k hk, fun i A hi => (a6 i A hi).fr (by rw [hf _ (by omega)]) (hf _ (by omega)), hR, fun i R hR => (a8 i R hR).fr (fun b h1 h2 => hf b (by omega))⟩
/-- the road, and one law's numbers -/
theorem CS.rl {M M' : Mem} {s : St} {R : Dk} (h : CS M s) (ok : SOK s) {i : Nat} {A : List Nat} (hi : (sLs s)[i]? = some A) (hR : RR M' 11 R) (hA : RLw M' (92 + 5 * i) A) (hf : ∀ b, (b ≤ 11 ∨ 57 ≤ b) → (b < 92 + 5 * i ∨ 92 + 5 * i + 5 ≤ b) → M' b = M b) : CS M' (upR s R) := by
  have hlen := (List.getElem?_eq_some_iff.mp hi).1
  have h4 := ok.2.2.1
  obtain ⟨a1, a2, a3, a4, a5, a6, a7, a8⟩ := h
  refine ⟨by rw [hf 0 (by omega) (by omega)]; exact a1, by rw [hf 0 (by omega) (by omega)]; exact a2, by rw [hf 0 (by omega) (by omega)]; exact a3, by rw [hf 0 (by omega) (by omega)]; exact a4, fun k hk => by rw [hf 2 (by omega) (by omega)]; exact a5 k hk, fun j B hj => ?_, hR, fun j R hR => (a8 j R hR).fr (fun b h1 h2 => hf b (by omega) (by omega))⟩
  by_cases hji : j = i
  · subst hji
    have hj : (sLs s)[j]? = some B := hj
    rw [hi] at hj
    cases hj
    exact hA
  · have hj : (sLs s)[j]? = some B := hj
    have := (List.getElem?_eq_some_iff.mp hj).1
    exact (a6 j B hj).fr (congrFun (hf _ (by omega) (by omega)) 4) (hf _ (by omega) (by omega))
theorem upR_self (s : St) : upR s (sRd s) = s := rfl
theorem SOK.f {s : St} (ok : SOK s) : sRd s 18 0 = nI (cfl (sRd s)) ∧ cfl (sRd s) ≤ 20 ∧ ∀ k, k < cfl (sRd s) → ∃ q, q < 8 ∧ sRd s 22 k = nI q := ok.2.2.2.2.1.2.2.2.2.2.1
theorem SOK.m {s : St} (ok : SOK s) : sRd s 27 0 = nI (cmd (sRd s)) ∧ cmd (sRd s) ≤ 5 ∧ ∀ k, k < cmd (sRd s) → ∃ q, q < 10 ∧ sRd s 29 k = nI q := ok.2.2.2.2.1.2.2.2.2.2.2.1
theorem SOK.b {s : St} (ok : SOK s) : sRd s 34 0 = nI (cbr (sRd s)) ∧ cbr (sRd s) ≤ 6 := ok.2.2.2.2.1.2.2.2.2.2.2.2.1
theorem SOK.p {s : St} (ok : SOK s) : sRd s 39 0 = nI (cpa (sRd s)) ∧ cpa (sRd s) ≤ 10 ∧ ∀ k, k < cpa (sRd s) → ∃ q, q < 1000 ∧ sRd s 41 k = nI q := ok.2.2.2.2.1.2.2.2.2.2.2.2.2
theorem k_film (h : CS M s) (ok : SOK s) (t p hh u : Int32) : KO M (f_X10_film M 0 t p hh u) (oFilm s t p hh u) := by
  unfold KO f_X10_film f_X10_film_b43 f_X10_film_b42 oFilm
  by_cases hl : pcOk s p = true
  · by_cases ht : dIn t 1 100 = true
    · by_cases h1 : dIn hh (-1000000) 1000000 = true
      · by_cases h2 : dIn u (-1000000) 1000000 = true
        · simp only [q_piece h ok, q_in, q_dem, Option.bind_some, hl, ht, h1, h2, Bool.and_self, ↓reduceIte, bt_ne, q_d1, g06, g11_1]
          obtain ⟨f1, f2, f3⟩ := ok.f
          refine tot.bd (r_film h.rr f1 f2 t p hh u) ?_
          rintro r M1 ⟨hc, hf⟩
          by_cases hz : cfl (sRd s) < 20
          · rw [if_pos hz] at hc
            obtain ⟨rfl, hR⟩ := hc
            simp only [hz, ↓reduceIte]
            exact tot.ret ⟨rfl, h.rd ok hR (fun b hb => hf b (by omega)), fun b hb => hf b (by omega)⟩
          · rw [if_neg hz] at hc
            obtain ⟨rfl, rfl⟩ := hc
            simp only [hz, ↓reduceIte]
            exact tot.ret ⟨rfl, h, fun _ _ => rfl⟩
        · simp only [q_piece h ok, q_in, q_dem, Option.bind_some, hl, ht, h1, h2, Bool.and_false, Bool.and_self, ↓reduceIte]
          exact tot.ret ⟨rfl, h, fun _ _ => rfl⟩
      · simp only [q_piece h ok, q_in, q_dem, Option.bind_some, hl, ht, h1, Bool.false_and, Bool.and_false, ↓reduceIte]
        exact tot.ret ⟨rfl, h, fun _ _ => rfl⟩
    · simp only [q_piece h ok, q_in, q_dem, Option.bind_some, hl, ht, Bool.false_and, ↓reduceIte]
      exact tot.ret ⟨rfl, h, fun _ _ => rfl⟩
  · simp only [q_piece h ok, Option.bind_some, hl, ↓reduceIte]
    exact tot.ret ⟨rfl, h, fun _ _ => rfl⟩
theorem k_mend (h : CS M s) (ok : SOK s) (x v z : Int32) : KO M (f_X10_mend M 0 x v z) (oMend s x v z) := by
  unfold KO f_X10_mend f_X10_mend_b37 f_X10_mend_b36 oMend
  by_cases hl : dIn x 0 9 = true
  · by_cases h1 : dIn v (-999999) 999999 = true
    · by_cases h2 : dIn z 0 999 = true
      · simp only [q_in, q_dem, Option.bind_some, hl, h1, h2, Bool.and_self, ↓reduceIte, bt_ne, q_d1, g06, g11_2]
        obtain ⟨f1, f2, f3⟩ := ok.m
        refine tot.bd (r_mend h.rr f1 f2 x v z) ?_
        rintro r M1 ⟨hc, hf⟩
        by_cases hz : cmd (sRd s) < 5
        · rw [if_pos hz] at hc
          obtain ⟨rfl, hR⟩ := hc
          simp only [hz, ↓reduceIte]
          exact tot.ret ⟨rfl, h.rd ok hR (fun b hb => hf b (by omega)), fun b hb => hf b (by omega)⟩
        · rw [if_neg hz] at hc
          obtain ⟨rfl, rfl⟩ := hc
          simp only [hz, ↓reduceIte]
          exact tot.ret ⟨rfl, h, fun _ _ => rfl⟩
      · simp only [q_in, q_dem, Option.bind_some, hl, h1, h2, Bool.and_false, Bool.and_self, ↓reduceIte]
        exact tot.ret ⟨rfl, h, fun _ _ => rfl⟩
    · simp only [q_in, q_dem, Option.bind_some, hl, h1, Bool.false_and, Bool.and_false, ↓reduceIte]
      exact tot.ret ⟨rfl, h, fun _ _ => rfl⟩
  · simp only [q_in, q_dem, Option.bind_some, hl, Bool.false_and, ↓reduceIte]
    exact tot.ret ⟨rfl, h, fun _ _ => rfl⟩
theorem k_bridge (h : CS M s) (ok : SOK s) (x : Int32) : KO M (f_X10_bridge M 0 x) (oBridge s x) := by
  unfold KO f_X10_bridge oBridge
  by_cases hl : dIn x 0 60 = true
  · simp only [q_in, q_dem, Option.bind_some, hl, ↓reduceIte, g06, g11_3]
    obtain ⟨f1, f2⟩ := ok.b
    refine tot.bd (r_bridge h.rr f1 f2 x) ?_
    rintro r M1 ⟨hc, hf⟩
    by_cases hz : cbr (sRd s) < 6
    · rw [if_pos hz] at hc
      obtain ⟨rfl, hR⟩ := hc
      simp only [hz, ↓reduceIte]
      exact tot.ret ⟨rfl, h.rd ok hR (fun b hb => hf b (by omega)), fun b hb => hf b (by omega)⟩
    · rw [if_neg hz] at hc
      obtain ⟨rfl, rfl⟩ := hc
      simp only [hz, ↓reduceIte]
      exact tot.ret ⟨rfl, h, fun _ _ => rfl⟩
  · simp only [q_in, q_dem, Option.bind_some, hl, ↓reduceIte]
    exact tot.ret ⟨rfl, h, fun _ _ => rfl⟩
theorem k_blows (h : CS M s) (ok : SOK s) (b k v : Int32) : KO M (f_X10_blows M 0 b k v) (oBlows s b k v) := by
  unfold KO f_X10_blows f_X10_blows_b31 f_X10_blows_b30 oBlows
  by_cases hl : brOk s b = true
  · by_cases h1 : dIn k 0 9 = true
    · by_cases h2 : dIn v 0 999 = true
      · simp only [q_bridge h ok, q_in, q_dem, Option.bind_some, hl, h1, h2, Bool.and_self, ↓reduceIte, bt_ne, q_d1, g06, g11_3]
        obtain ⟨i, hi, hi6, rfl⟩ := brOk_of ok hl
        obtain ⟨q, hq, rfl⟩ := dIn_nI (n := 9) h1 (by omega)
        rw [r_blows h.rr hi6 (show q < 10 by omega), Option.bind_some, i_cl (by omega), i_cl (by omega)]
        exact tot.ret ⟨rfl, h.rd ok (h.rr.put 38 _ v) (fun b hb => u_ne (by omega)), fun b hb => u_ne (by omega)⟩
      · simp only [q_bridge h ok, q_in, q_dem, Option.bind_some, hl, h1, h2, Bool.and_false, ↓reduceIte]
        exact tot.ret ⟨rfl, h, fun _ _ => rfl⟩
    · simp only [q_bridge h ok, q_in, q_dem, Option.bind_some, hl, h1, Bool.false_and, ↓reduceIte]
      exact tot.ret ⟨rfl, h, fun _ _ => rfl⟩
  · simp only [q_bridge h ok, Option.bind_some, hl, ↓reduceIte]
    exact tot.ret ⟨rfl, h, fun _ _ => rfl⟩
theorem k_hours (h : CS M s) (ok : SOK s) (b : Int32) : KO M (f_X10_hours M 0 b) (oHours s b) := by
  unfold KO f_X10_hours oHours
  by_cases hl : brOk s b = true
  · simp only [q_bridge h ok, Option.bind_some, hl, ↓reduceIte, g06, g11_3]
    obtain ⟨i, hi, hi6, rfl⟩ := brOk_of ok hl
    rw [r_hours h.rr hi6, Option.bind_some, i_cl (by omega)]
    exact tot.ret ⟨rfl, h, fun _ _ => rfl⟩
  · simp only [q_bridge h ok, Option.bind_some, hl, ↓reduceIte]
    exact tot.ret ⟨rfl, h, fun _ _ => rfl⟩
theorem k_paper (h : CS M s) (ok : SOK s) (d x y : Int32) : KO M (f_X10_paper M 0 d x y) (oPaper s d x y) := by
  unfold KO f_X10_paper f_X10_paper_b38 f_X10_paper_b37 oPaper
  by_cases hl : dIn d 0 999 = true
  · by_cases h1 : dIn x 0 255 = true
    · by_cases h2 : dIn y 0 255 = true
      · simp only [q_in, q_dem, Option.bind_some, hl, h1, h2, Bool.and_self, ↓reduceIte, bt_ne, q_d1, g06, g11_4]
        obtain ⟨f1, f2, f3⟩ := ok.p
        refine tot.bd (r_paper h.rr f1 f2 d x y) ?_
        rintro r M1 ⟨hc, hf⟩
        by_cases hz : cpa (sRd s) < 10
        · rw [if_pos hz] at hc
          obtain ⟨rfl, hR⟩ := hc
          simp only [hz, ↓reduceIte]
          exact tot.ret ⟨rfl, h.rd ok hR (fun b hb => hf b (by omega)), fun b hb => hf b (by omega)⟩
        · rw [if_neg hz] at hc
          obtain ⟨rfl, rfl⟩ := hc
          simp only [hz, ↓reduceIte]
          exact tot.ret ⟨rfl, h, fun _ _ => rfl⟩
      · simp only [q_in, q_dem, Option.bind_some, hl, h1, h2, Bool.and_false, ↓reduceIte]
        exact tot.ret ⟨rfl, h, fun _ _ => rfl⟩
    · simp only [q_in, q_dem, Option.bind_some, hl, h1, Bool.false_and, Bool.and_false, ↓reduceIte]
      exact tot.ret ⟨rfl, h, fun _ _ => rfl⟩
  · simp only [q_in, q_dem, Option.bind_some, hl, Bool.false_and, ↓reduceIte]
    exact tot.ret ⟨rfl, h, fun _ _ => rfl⟩
theorem k_known (h : CS M s) (ok : SOK s) (d : Int32) : KO M (f_X10_known M 0 d) (oKnown s d) := by
  unfold KO f_X10_known oKnown
  by_cases hl : dIn d 0 999 = true
  · obtain ⟨f1, f2, f3⟩ := ok.p
    simp only [q_in, q_dem, Option.bind_some, hl, ↓reduceIte, g06, g11_4, r_known h.rr f1 f2]
    exact tot.ret ⟨rfl, h, fun _ _ => rfl⟩
  · simp only [q_in, q_dem, Option.bind_some, hl, ↓reduceIte]
    exact tot.ret ⟨rfl, h, fun _ _ => rfl⟩
theorem k_could (h : CS M s) (ok : SOK s) (x : Int32) : KO M (f_X10_could M 0 x) (oCould s x) := by
  unfold KO f_X10_could oCould
  by_cases hl : dIn x 0 255 = true
  · obtain ⟨f1, f2, f3⟩ := ok.p
    simp only [q_in, q_dem, Option.bind_some, hl, ↓reduceIte, g06, g11_4, r_could h.rr f1 f2]
    exact tot.ret ⟨rfl, h, fun _ _ => rfl⟩
  · simp only [q_in, q_dem, Option.bind_some, hl, ↓reduceIte]
    exact tot.ret ⟨rfl, h, fun _ _ => rfl⟩
theorem k_deck (h : CS M s) (ok : SOK s) (v : Int32) : KO M (f_X10_deck M 0 v) (oDeck s v) := by
  unfold KO f_X10_deck oDeck
  by_cases hl : dIn v 2 8 = true
  · simp only [q_in, q_dem, Option.bind_some, hl, ↓reduceIte, g06, g11_0]
    have hlay : tot (f_X1_lay M 12 v) (fun _ M' => RD M' 12 (sLay (rD (sRd s)) v) ∧ ∀ b, (b < 12 ∨ 12 + 17 ≤ b) → M' b = M b) := by
      unfold f_X1_lay
      obtain ⟨M1, e1, hR1, hf1⟩ := r_still dk_12 ((h.d.put 0 0 v).put 0 1 0)
      rw [show mU (mU M (12 + 0) 0 v) (12 + 0) 1 0 = mU (mU M 12 0 v) 12 1 0 from rfl] at e1 hf1
      rw [e1, Option.bind_some]
      show tot ((f_X8_fill M1 (gRf 12 (2 + 5)) 2).bind _) _
      rw [dk_12.fl (j := 5) (by decide), Option.bind_some]
      show tot ((f_X8_fill (mSet M1 (12 + 12) 8 (fun _ => 2)) (gRf 12 (2 + 6)) 0).bind _) _
      rw [dk_12.fl (j := 6) (by decide), Option.bind_some]
      refine tot.ret ⟨((hR1.set 12 8 (fun _ => 2)).set 14 8 (fun _ => 0)).cg (fun o k hi => ?_), fun b hb => ?_⟩
      · unfold inD at hi
        rcases hi with ⟨rfl, hk⟩ | ⟨rfl, hk⟩ | ⟨rfl | rfl | rfl | rfl | rfl | rfl, hk⟩
        · have : k = 0 ∨ k = 1 := by omega
          rcases this with rfl | rfl <;> simp [mSet_at, mU_at, sLay]
        all_goals simp [mSet_at, mU_at, sLay, hk]
      · show mSet (mSet M1 24 8 _) 26 8 _ b = M b
        rw [mSet_ne (by omega), mSet_ne (by omega), hf1 b hb, u_ne (by omega), u_ne (by omega)]
    refine tot.bd hlay ?_
    rintro r M1 ⟨h1, h2⟩
    have hR := h.rr.sd rfl h1 h2
    refine tot.ret ⟨?_, h.rd ok hR (fun b hb => h2 b (by omega)), fun b hb => h2 b (by omega)⟩
    exact congrArg Sum.inl h.d.p
  · simp only [q_in, q_dem, Option.bind_some, hl, ↓reduceIte]
    exact tot.ret ⟨rfl, h, fun _ _ => rfl⟩
theorem k_set (h : CS M s) (ok : SOK s) (x v : Int32) : KO M (f_X10_set M 0 x v) (oSet s x v) := by
  unfold KO f_X10_set f_X10_set_b30 f_X10_set_b29 oSet
  by_cases hl : dIn x 0 9 = true
  · obtain ⟨q, hq, rfl⟩ := dIn_nI (n := 9) hl (by omega)
    have hq : q < 10 := by omega
    by_cases h1 : dIn v (sLst (nI q)) (sMst (nI q)) = true
    · simp only [q_in, q_dem, Option.bind_some, hl, h1, q_lo _ hq, q_hi _ hq, Bool.and_self, ↓reduceIte, bt_ne, q_d1, g06, g11_0, q_at, q_put, h.d.a2 dk_12 hq, dk_12.w2 _ hq]
      rw [i_cl (by omega)]
      exact tot.ret ⟨rfl, h.rd ok (h.rr.put 3 _ v) (fun b hb => u_ne (by omega)), fun b hb => u_ne (by omega)⟩
    · simp only [q_in, q_dem, Option.bind_some, hl, h1, q_lo _ hq, q_hi _ hq, Bool.and_false, ↓reduceIte]
      exact tot.ret ⟨rfl, h, fun _ _ => rfl⟩
  · simp only [q_in, q_dem, Option.bind_some, hl, Bool.false_and, ↓reduceIte]
    exact tot.ret ⟨rfl, h, fun _ _ => rfl⟩
theorem k_stay (h : CS M s) (ok : SOK s) (p b : Int32) : KO M (f_X10_stay M 0 p b) (oStay s p b) := by
  unfold KO f_X10_stay oStay
  by_cases hl : pcOk s p = true
  · obtain ⟨q, hq, hq8, rfl⟩ := pcOk_of ok hl
    simp only [q_piece h ok, q_at, q_put, Option.bind_some, hl, ↓reduceIte, g06, g11_0, h.d.a7 dk_12 hq8, dk_12.w7 _ hq8]
    rw [i_cl (by omega)]
    show tot (if b = 0 then _ else if sRd s 13 q = 0 then _ else _) _
    by_cases hb : b = 0
    · rw [if_pos hb, if_pos hb]
      exact tot.ret ⟨rfl, h.rd ok (h.rr.put 13 _ 0) (fun b hb => u_ne (by omega)), fun b hb => u_ne (by omega)⟩
    · rw [if_neg hb, if_neg hb]
      by_cases hz : sRd s 13 q = 0
      · rw [if_pos hz, if_pos hz]
        exact tot.ret ⟨rfl, h.rd ok (h.rr.put 13 _ 2) (fun b hb => u_ne (by omega)), fun b hb => u_ne (by omega)⟩
      · rw [if_neg hz, if_neg hz]
        exact tot.ret ⟨rfl, h, fun _ _ => rfl⟩
  · simp only [q_piece h ok, Option.bind_some, hl, ↓reduceIte]
    exact tot.ret ⟨rfl, h, fun _ _ => rfl⟩
theorem k_shape (h : CS M s) (ok : SOK s) (kd j a : Int32) : KO M (f_X10_shape M 0 kd j a) (oShape s kd j a) := by
  unfold KO f_X10_shape oShape
  by_cases hl : shOk kd j = true
  · by_cases h1 : dIn a 1 9999 = true
    · obtain ⟨hn, h2, h8⟩ := ok.n
      simp only [q_shape, q_in, q_dem, Option.bind_some, hl, h1, Bool.and_self, ↓reduceIte, g06, g11_0]
      refine tot.bd (r_shape dk_12 h.d hn h2 h8 kd j a) ?_
      rintro r M1 ⟨hD, hf⟩
      show tot ((f_X1_size M1 (gRf (gRf 0 6) 0) kd).bind _) _
      rw [g06, g11_0, r_size dk_12 hD (by simpa [sSh] using hn) h8 kd, Option.bind_some]
      have hR := h.rr.sd rfl hD hf
      exact tot.ret ⟨rfl, h.rd ok hR (fun b hb => hf b (by omega)), fun b hb => hf b (by omega)⟩
    · simp only [q_shape, q_in, q_dem, Option.bind_some, hl, h1, Bool.and_false, ↓reduceIte]
      exact tot.ret ⟨rfl, h, fun _ _ => rfl⟩
  · simp only [q_shape, Option.bind_some, hl, Bool.false_and, ↓reduceIte]
    exact tot.ret ⟨rfl, h, fun _ _ => rfl⟩
theorem k_go (h : CS M s) (ok : SOK s) (l w t : Int32) : KO M (f_X10_go M 0 l w t) (oGo s l w t) := by
  unfold KO f_X10_go oGo
  by_cases hl : lOk s l = true
  · by_cases hw : dIn w 0 99 = true
    · by_cases ht : dIn t 0 100 = true
      · simp only [q_law h ok, q_wind, q_in, q_dem, Option.bind_some, hl, hw, ht, Bool.and_self, ↓reduceIte]
        obtain ⟨i, hi, rfl, hget, hL, hA, hwf⟩ := h.go ok hl
        obtain ⟨hn, h2, h8⟩ := ok.n
        obtain ⟨N, hN, rfl⟩ := dIn_nI (n := 100) ht (by omega)
        rw [i_cl (by omega), i_cl (by omega)]
        have hr0 : ∀ t, sRun (lw s (nI i)) w 100 (pcs (sRd s)) (rD (sRd s)) t 0 0 = nI (pcs (sRd s)) := fun t => (run_0 t).trans hn
        refine tot.loopFU (σ := Int32 × Mem) (fun m s9 => f_X10_go_h24 0 (nI i) w (nI N) m (92 + 5 * i) s9.1 s9.2) N (fun t s9 => s9.1 = nI t ∧ RD s9.2 12 (sRun (lw s (nI i)) w 100 (pcs (sRd s)) (rD (sRd s)) t) ∧ RLw s9.2 (92 + 5 * i) (lw s (nI i)) ∧ ∀ b, (b < 12 ∨ 12 + 17 ≤ b) → (b < 92 + 5 * i ∨ 92 + 5 * i + 5 ≤ b) → s9.2 b = M b) _ (by omega) (0, M) ⟨rfl, h.d, hA, fun _ _ _ => rfl⟩ ?_ ?_
        · rintro m t ⟨x, M3⟩ ht ⟨hx, hD, hA3, hf3⟩ hnext
          dsimp only at hx hD hA3 hf3
          subst hx
          show tot (f_X10_go_h24 0 (nI i) w (nI N) (m + 1) (92 + 5 * i) (nI t) M3) _
          rw [f_X10_go_h24, if_neg (i_nle ht (by omega)), g06, g11_0]
          refine tot.bd (r_tick dk_12 hL (Or.inl (by omega)) hD hA3 hwf (hr0 t) h8) ?_
          rintro r2 M4 ⟨hD4, hA4, hf4⟩
          show tot (f_X10_go_h24 0 (nI i) w (nI N) m (92 + 5 * i) (nI t + 1) M4) _
          rw [nI_1]
          exact hnext (nI (t + 1), M4) ⟨rfl, hD4, hA4, fun b h1 h2 => (hf4 b h1 h2).trans (hf3 b h1 h2)⟩
        · rintro m ⟨x, M3⟩ ⟨hx, hD, hA3, hf3⟩
          dsimp only at hx hD hA3 hf3
          subst hx
          show tot (f_X10_go_h24 0 (nI i) w (nI N) (m + 1) (92 + 5 * i) (nI N) M3) _
          rw [f_X10_go_h24, if_pos (i_le (Nat.le_refl _) (by omega)), g06, g11_0, r_size dk_12 hD (hr0 N) h8 1, Option.bind_some]
          have hR : RR M3 11 (rS (sRd s) (sRun (lw s (nI i)) w 100 (pcs (sRd s)) (rD (sRd s)) N)) := by
            refine fun o k hi => ?_
            unfold rS
            have ho := inR_lo hi
            by_cases hz : 1 ≤ o ∧ o < 17
            · rw [if_pos hz]
              have := hD (o - 1) k (inD_1 hi hz.2)
              rw [show 12 + (o - 1) = 11 + o by omega] at this
              exact this
            · rw [if_neg hz, hf3 (11 + o) (by have := inR_de hi (by omega); omega) (by omega)]
              exact h.rr o k hi
          exact tot.ret ⟨rfl, h.rl ok hget hR hA3 (fun b h1 h2 => hf3 b (by omega) h2), fun b hb => hf3 b (by omega) (by omega)⟩
      · simp only [q_law h ok, q_wind, q_in, q_dem, Option.bind_some, hl, hw, ht, Bool.and_false, ↓reduceIte]
        exact tot.ret ⟨rfl, h, fun _ _ => rfl⟩
    · simp only [q_law h ok, q_wind, Option.bind_some, hl, hw, Bool.false_and, ↓reduceIte]
      exact tot.ret ⟨rfl, h, fun _ _ => rfl⟩
  · simp only [q_law h ok, Option.bind_some, hl, ↓reduceIte]
    exact tot.ret ⟨rfl, h, fun _ _ => rfl⟩
theorem k_piece (h : CS M s) (ok : SOK s) (p x : Int32) : KO M (f_X10_piece M 0 p x) (oPiece s p x) := by
  unfold KO f_X10_piece oPiece
  by_cases hl : pcOk s p = true
  · obtain ⟨q, hq, hq8, rfl⟩ := pcOk_of ok hl
    simp only [q_piece h ok, q_at, Option.bind_some, hl, ↓reduceIte, g06, g11_0, h.d.a3 dk_12 hq8, h.d.a4 dk_12 hq8, h.d.a5 dk_12 hq8, h.d.a6 dk_12 hq8, h.d.a7 dk_12 hq8, h.d.a8 dk_12 hq8]
    rw [i_cl (by omega)]
    by_cases hx : dIn x 0 5 = true
    · obtain ⟨k, hk, rfl⟩ := dIn_nI (n := 5) hx (by omega)
      simp only [hx, ↓reduceIte]
      have : k = 0 ∨ k = 1 ∨ k = 2 ∨ k = 3 ∨ k = 4 ∨ k = 5 := by omega
      rcases this with rfl | rfl | rfl | rfl | rfl | rfl <;> exact tot.ret ⟨rfl, h, fun _ _ => rfl⟩
    · simp only [hx, ↓reduceIte]
      have hne : ∀ k, k < 6 → ¬ x = nI k := fun k hk z => hx (by
        rw [z]
        exact dIn_t.mpr ⟨nI_pos (by omega), nI_nlt (a := 5) (by omega) (by omega)⟩)
      rw [if_neg (show ¬ x = 0 from hne 0 (by omega)), if_neg (show ¬ x = 1 from hne 1 (by omega)), if_neg (show ¬ x = 2 from hne 2 (by omega)), if_neg (show ¬ x = 3 from hne 3 (by omega)), if_neg (show ¬ x = 4 from hne 4 (by omega)), if_neg (show ¬ x = 5 from hne 5 (by omega))]
      exact tot.ret ⟨rfl, h, fun _ _ => rfl⟩
  · simp only [q_piece h ok, Option.bind_some, hl, ↓reduceIte]
    exact tot.ret ⟨rfl, h, fun _ _ => rfl⟩
theorem k_push (h : CS M s) (ok : SOK s) (l w p b : Int32) : KO M (f_X10_push M 0 l w p b) (oPush s l w p b) := by
  unfold KO f_X10_push oPush
  by_cases hl : lOk s l = true
  · by_cases hp : pcOk s p = true
    · by_cases hw : dIn w 0 99 = true
      · simp only [q_law h ok, q_wind, q_piece h ok, Option.bind_some, hl, hw, hp, ↓reduceIte, g06, g11_0]
        obtain ⟨i, hi, rfl, hget, hL, hA, hwf⟩ := h.go ok hl
        obtain ⟨q, hq, hq8, rfl⟩ := pcOk_of ok hp
        rw [i_cl (by omega), i_cl (by omega), r_names dk_12 h.d hq8, Option.bind_some]
        show tot ((f_X3_work (mSet M (12 + 16) 9 (sNm (rD (sRd s)) w q)) (92 + 5 * i) (gRf 12 9)).bind _) _
        refine tot.bd (w_work (q := 12 + 16) (nm := sNm (rD (sRd s)) w q) hL dk_12.c9 (dk_12 7 (by decide)).2.2 (by omega) (hA.fr (by rw [mSet_ne (by omega)]) (mSet_ne (by omega))) hwf (fun j hj => by rw [mSet_at, if_pos ⟨rfl, hj⟩])) ?_
        rintro r M2 ⟨h1, h2, h3, h4⟩
        have hf : ∀ b', b' ≠ 28 → b' ≠ 92 + 5 * i → b' ≠ 92 + 5 * i + 4 → M2 b' = M b' := fun b' z1 z2 z3 => by rw [h3 b' z2 z3, mSet_ne (by omega)]
        have hA2 : RLw M2 (92 + 5 * i) (lw s (nI i)) := hA.fr (by rw [h4 4 (by decide) (by decide), mSet_ne (by omega)]) (hf _ (by omega) (by omega) (by omega))
        have hC : CS M2 s := by
          have := h.rl ok hget (R := sRd s) (M' := M2) (fun o k hi2 => by
            rw [hf (11 + o) (by
              intro z
              have : o = 17 := by omega
              subst this
              have := inR_de hi2 (by omega)
              omega) (by have := inR_lo hi2; omega) (by have := inR_lo hi2; omega)]
            exact h.rr o k hi2) hA2 (fun b' z1 z2 => hf b' (by omega) (by omega) (by omega))
          exact this
        show tot (if b = 0 then _ else _) _
        by_cases hb : b = 0
        · rw [if_pos hb, if_pos hb]
          exact tot.ret ⟨congrArg Sum.inl h1, hC, fun b' hb' => hf b' (by omega) (by omega) (by omega)⟩
        · rw [if_neg hb, if_neg hb]
          exact tot.ret ⟨congrArg Sum.inl h2, hC, fun b' hb' => hf b' (by omega) (by omega) (by omega)⟩
      · simp only [q_law h ok, q_wind, q_piece h ok, Option.bind_some, hl, hw, hp, ↓reduceIte]
        exact tot.ret ⟨rfl, h, fun _ _ => rfl⟩
    · simp only [q_law h ok, q_piece h ok, Option.bind_some, hl, hp, ↓reduceIte]
      exact tot.ret ⟨rfl, h, fun _ _ => rfl⟩
  · simp only [q_law h ok, Option.bind_some, hl, ↓reduceIte]
    exact tot.ret ⟨rfl, h, fun _ _ => rfl⟩
end KOPS
