/-! The model's cells hold a state; its checks. -/
def MR (M : Mem) (R : Dk) : Prop := MD M (rD R) ∧ (M 250 31 = R 18 0 ∧ M 250 32 = R 27 0 ∧ M 250 33 = R 34 0 ∧ M 250 34 = R 39 0) ∧
  (∀ f, f < 20 → M (283 + f) 0 = R 20 f ∧ M (283 + f) 1 = R 22 f ∧ M (283 + f) 2 = R 24 f ∧ M (283 + f) 3 = R 26 f) ∧
  (∀ m, m < 5 → M (304 + m) 0 = R 29 m ∧ M (304 + m) 1 = R 31 m ∧ M (304 + m) 2 = R 33 m) ∧
  (∀ b, b < 6 → M (310 + b) 10 = R 36 b ∧ ∀ k, k < 10 → M (310 + b) k = R 38 (10 * b + k)) ∧
  (∀ p, p < 10 → M (317 + p) 0 = R 41 p ∧ M (317 + p) 1 = R 43 p ∧ M (317 + p) 2 = R 45 p)
/-- an image, as the model keeps it: one row -/
def sImg (R : Dk) (p : Nat) : Int32 := if p = 0 then R 1 0 else if p = 1 then R 1 1 else if p = 2 then R 18 0 else if p = 3 then R 27 0 else if p = 4 then R 34 0 else if p = 5 then R 39 0 else if p < 16 then R 3 (p - 6) else if p < 24 then R 13 (p - 16) else if p < 56 then R (5 + 2 * ((p - 24) / 8)) ((p - 24) % 8) else if p < 64 then R 15 (p - 56) else if p < 144 then R (20 + 2 * ((p - 64) % 4)) ((p - 64) / 4) else if p < 159 then R (29 + 2 * ((p - 144) % 3)) ((p - 144) / 3) else if p < 225 then (if (p - 159) % 11 = 10 then R 36 ((p - 159) / 11) else R 38 (10 * ((p - 159) / 11) + (p - 159) % 11)) else R (41 + 2 * ((p - 225) % 3)) ((p - 225) / 3)
def MK (f : Nat → Int32) (R : Dk) : Prop := ∀ p, p < 255 → f p = sImg R p
def MS (M : Mem) (s : St) : Prop := (M 250 1 = nI (sTb s) ∧ M 250 3 = sPl s ∧ M 250 11 = nI (sLs s).length ∧ M 250 18 = 100 ∧ M 250 35 = nI (sIm s).length) ∧ (∀ k, k < 300 → M 251 k = sTf s k) ∧ (∀ (i : Nat) (A : List Nat), (sLs s)[i]? = some A → RM M i A) ∧ MR M (sRd s) ∧ ∀ (i : Nat) (R : Dk), (sIm s)[i]? = some R → MK (M (328 + i)) R
def Lo (M M' : Mem) : Prop := ∀ b, (b < 250 ∨ 330 < b) → M' b = M b
/-- what the model says of a call: the answer, or what is thrown (cd: its number for the exception) -/
def Rs (cd : Nat → Int32) (o : Int32 ⊕ Nat) (r t : Int32) : Prop := match o with | .inl v => t = 0 ∧ r = v | .inr j => t = cd j
def MO (M : Mem) (f : Option (Int32 × Mem)) (cd : Nat → Int32) (o : An) : Prop := tot f (fun r M' => Rs cd o.1 r (M' 250 0) ∧ MS M' o.2 ∧ Lo M M')
def cdA : Nat → Int32 := fun _ => 1
def cdB : Nat → Int32 := fun j => if j = 2 then 1 else 2
def cdC : Nat → Int32 := fun j => if j = 1 then 1 else 2
def cdD : Nat → Int32 := fun j => if j = 2 then 1 else if j = 1 then 2 else 3
theorem sLst_1 : ∀ k, k < 10 → 0 ≤ sLst (nI k) ∧ (k = 0 → sLst (nI k) = 1) := by decide +kernel
theorem ROK.dok {R : Dk} (h : ROK R) : DOK (pcs R) (rD R) := by
  obtain ⟨h1, h2, ⟨h3, h3'⟩, h4, h5, _⟩ := h
  refine ⟨h1, ⟨(h2 0 (by omega)).1, Int32.le_trans (sLst_1 9 (by omega)).1 (h2 9 (by omega)).1⟩, ⟨h3, fun k h6 h7 => ?_⟩, h4, h5⟩
  show ¬ R 13 k = 1
  rw [h3' k h6 h7]
  decide
theorem RM.t0 {M : Mem} {i : Nat} {A : List Nat} (h : RM M i A) (hi : i < 4) {k : Nat} {v : Int32} : RM (mU M 250 k v) i A := h.fr (u_ne (by omega)) (u_ne (by omega))
theorem MD.t0 {M : Mem} {D : Dk} (h : MD M D) {k : Nat} {v : Int32} (hk : k ≠ 19 ∧ k ≠ 20) : MD (mU M 250 k v) D := h.fr (by rw [mU_at, if_neg (by omega)]) (by rw [mU_at, if_neg (by omega)]) (fun b hb => u_ne (by omega))
theorem MR.fr {M M' : Mem} {R : Dk} (h : MR M R) (hD : MD M' (rD R)) (h4 : ∀ j, 31 ≤ j → j ≤ 34 → M' 250 j = M 250 j) (hf : ∀ b, 283 ≤ b → b < 327 → M' b = M b) : MR M' R := by
  obtain ⟨_, ⟨a1, a2, a3, a4⟩, a5, a6, a7, a8⟩ := h
  refine ⟨hD, ⟨by rw [h4 31 (by omega) (by omega)]; exact a1, by rw [h4 32 (by omega) (by omega)]; exact a2, by rw [h4 33 (by omega) (by omega)]; exact a3, by rw [h4 34 (by omega) (by omega)]; exact a4⟩, fun f hf2 => by rw [hf _ (by omega) (by omega)]; exact a5 f hf2, fun m hm => by rw [hf _ (by omega) (by omega)]; exact a6 m hm, fun b hb => by rw [hf _ (by omega) (by omega)]; exact a7 b hb, fun p hp => by rw [hf _ (by omega) (by omega)]; exact a8 p hp⟩
/-- behind a change that the state doesn't speak of -/
theorem MS.fr {M M' : Mem} {s : St} (h : MS M s) (ok : SOK s) (hj : ∀ j, j = 1 ∨ j = 3 ∨ j = 11 ∨ j = 18 ∨ j = 35 ∨ (31 ≤ j ∧ j ≤ 34) → M' 250 j = M 250 j) (hD : MD M' (rD (sRd s))) (hf : ∀ b, b = 251 ∨ (254 ≤ b ∧ b ≤ 258) ∨ 283 ≤ b → b ≤ 330 → M' b = M b) : MS M' s := by
  obtain ⟨⟨a1, a2, a3, a4, a5⟩, a6, a7, a8, a9⟩ := h
  have hi3 := ok.2.2.2.2.2.1
  have hl4 := ok.2.2.1
  refine ⟨⟨by rw [hj 1 (by omega)]; exact a1, by rw [hj 3 (by omega)]; exact a2, by rw [hj 11 (by omega)]; exact a3, by rw [hj 18 (by omega)]; exact a4, by rw [hj 35 (by omega)]; exact a5⟩, fun k hk => by rw [hf 251 (by omega) (by omega)]; exact a6 k hk, fun i A hi => ?_, a8.fr hD (fun j h1 h2 => hj j (by omega)) (fun b h1 h2 => hf b (by omega) (by omega)), fun i R hi => ?_⟩
  · have := (List.getElem?_eq_some_iff.mp hi).1
    exact (a7 i A hi).fr (hf 258 (by omega) (by omega)) (hf _ (by omega) (by omega))
  · have := (List.getElem?_eq_some_iff.mp hi).1
    rw [hf _ (by omega) (by omega)]
    exact a9 i R hi
theorem MS.d {M : Mem} {s : St} (h : MS M s) : MD M (rD (sRd s)) := h.2.2.2.1.1
theorem MS.t0 {M : Mem} {s : St} (h : MS M s) (ok : SOK s) (v : Int32) : MS (mU M 250 0 v) s := h.fr ok (fun j hj => by rw [mU_at, if_neg (by omega)]) (h.d.t0 (by omega)) (fun b hb _ => u_ne (by omega))
theorem MS.gf {M M' : Mem} {s : St} (h : MS M s) (ok : SOK s) (hD : MD M' (rD (sRd s))) (hf : GF M M') : MS M' s := h.fr ok (fun j hj => hf.2 j (by omega) (by omega) (by omega) (by omega)) hD (fun b hb _ => hf.1 b (by omega) (by omega) (by omega))
theorem GF.lo {M M' : Mem} (h : GF M M') : Lo M M' := fun b hb => h.1 b (by omega) (by omega) (by omega)
theorem lo_t0 {M : Mem} {k : Nat} {v : Int32} : Lo M (mU M 250 k v) := fun b hb => u_ne (by omega)
theorem Lo.tr {M M' M'' : Mem} (h : Lo M M') (h' : Lo M' M'') : Lo M M'' := fun b hb => (h' b hb).trans (h b hb)
theorem Lo.rf {M : Mem} : Lo M M := fun _ _ => rfl
theorem th0 (M : Mem) (v : Int32) : mU M 250 0 v 250 0 = v := by rw [mU_at, if_pos ⟨rfl, rfl⟩]
theorem m_in (M : Mem) (v lo hi : Int32) : f_X11_in M v lo hi = some (b2 (dIn v lo hi), M) := q_in M v lo hi
theorem m_bad0 {M : Mem} (h : M 250 0 = 0) (c : Int32) : f_X11_bad M 250 0 c = some (0, M) := by
  unfold f_X11_bad f_X11_bad_b16
  rw [if_pos rfl, if_pos h]
theorem m_bad1 {M : Mem} (h : M 250 0 = 0) {c : Int32} (hc : ¬ c = 0) : f_X11_bad M 250 1 c = some (1, mU M 250 0 c) := by
  unfold f_X11_bad f_X11_bad_b16
  rw [if_neg (by decide), if_pos h, th0, if_neg hc]
theorem n1 : ¬ (1 : Int32) = 0 := by decide
theorem n2 : ¬ (2 : Int32) = 0 := by decide
theorem n3 : ¬ (3 : Int32) = 0 := by decide
theorem bf_eq : b2 false = 0 := rfl
theorem m_isLaw {M : Mem} {s : St} (h : MS M s) (l : Int32) : f_X11_isLaw M 250 l = some (b2 (lOk s l), M) := by
  unfold f_X11_isLaw lOk
  rw [h.1.2.2.1, m_in, Option.bind_some]
  show (if vp_nar .boolean (b2 _) = b2 _ then _ else _) = _
  rw [if_pos (nar_b2 _)]
theorem m_isPiece {M : Mem} {s : St} (h : MS M s) (ok : SOK s) (p : Int32) : f_X11_isPiece M 250 p = some (b2 (pcOk s p), M) := by
  unfold f_X11_isPiece pcOk
  rw [h.d.p.trans ok.n.1, m_in, Option.bind_some]
  show (if vp_nar .boolean (b2 _) = b2 _ then _ else _) = _
  rw [if_pos (nar_b2 _)]
theorem m_isBridge {M : Mem} {s : St} (h : MS M s) (ok : SOK s) (p : Int32) : f_X11_isBridge M 250 p = some (b2 (brOk s p), M) := by
  unfold f_X11_isBridge brOk
  rw [h.2.2.2.1.2.1.2.2.1.trans ok.b.1, m_in, Option.bind_some]
  show (if vp_nar .boolean (b2 _) = b2 _ then _ else _) = _
  rw [if_pos (nar_b2 _)]
theorem m_isShape (M : Mem) (kd j : Int32) : f_X11_isShape M kd j = some (b2 (shOk kd j), M) := by
  unfold f_X11_isShape shOk
  rw [m_in, Option.bind_some]
  cases dIn kd 0 1 with
  | false => rfl
  | true =>
    show ((f_X11_in M j 1 4).bind _) = _
    rw [m_in, Option.bind_some]
    cases dIn j 1 4 <;> rfl
theorem m_badTrial {M : Mem} {s : St} (h : MS M s) (h0 : M 250 0 = 0) (l w kd j : Int32) : f_X11_badTrial M 250 l w kd j = if lOk s l = true then (if (dIn w 0 99 && shOk kd j) = true then some (0, M) else some (1, mU M 250 0 2)) else some (1, mU M 250 0 1) := by
  unfold f_X11_badTrial f_X11_badTrial_b14 f_X11_badTrial_b41 f_X11_badTrial_b46
  rw [m_isLaw h, Option.bind_some]
  by_cases hl : lOk s l = true
  · simp only [hl, bt_ne, ↓reduceIte, m_bad0 h0, Option.bind_some, m_in]
    by_cases hw : dIn w 0 99 = true
    · simp only [hw, bt_ne, ↓reduceIte, m_isShape, Option.bind_some, Bool.true_and]
      by_cases hk : shOk kd j = true
      · simp only [hk, bt_ne, ↓reduceIte, m_bad0 h0, Option.bind_some]
      · simp only [hk, bf_eq, ↓reduceIte, m_bad1 h0 n2, Option.bind_some, n1]
        rfl
    · simp only [hw, bf_eq, ↓reduceIte, m_bad1 h0 n2, Option.bind_some, Bool.false_and, n1]
      rfl
  · simp only [hl, bf_eq, ↓reduceIte, m_bad1 h0 n1, Option.bind_some, n1]
    rfl
/-- a law that is there -/
theorem MS.go {M : Mem} {s : St} (h : MS M s) (ok : SOK s) {l : Int32} (hl : lOk s l = true) : ∃ i, i < 4 ∧ l = nI i ∧ (sLs s)[i]? = some (lw s l) ∧ RM M i (lw s l) ∧ cTs (lw s l) [] = some [] := by
  unfold lOk dIn at hl
  simp only [Bool.and_eq_true, Bool.not_eq_true', decide_eq_false_iff_not] at hl
  have h4 := ok.2.2.1
  have hne : 0 < (sLs s).length := by
    by_cases hz : 0 < (sLs s).length
    · exact hz
    · have hz2 : (sLs s).length = 0 := by omega
      rw [hz2] at hl
      exfalso
      apply hl.2
      have : nI 0 - 1 = (-1 : Int32) := by decide
      rw [this]
      exact Int32.lt_of_lt_of_le (b := 0) (by decide) (Int32.not_lt.mp hl.1)
  rw [i_prd hne] at hl
  obtain ⟨i, hi, rfl⟩ := i_of hl.1 (Int32.not_lt.mp hl.2) (by omega)
  have hget : (sLs s)[i]? = some (lw s (nI i)) := by
    unfold lw
    rw [i_cl (by omega), List.getElem?_eq_getElem (show i < (sLs s).length by omega)]
    rfl
  exact ⟨i, by omega, rfl, hget, h.2.2.1 i _ hget, (ok.2.2.2.1 i _ hget).1⟩
theorem SOK.dk {s : St} (ok : SOK s) : DOK (pcs (sRd s)) (rD (sRd s)) := ok.2.2.2.2.1.dok
theorem shOk_of {kd j : Int32} (h : shOk kd j = true) : ∃ q, q < 2 ∧ kd = nI q := by
  unfold shOk at h
  rw [Bool.and_eq_true] at h
  obtain ⟨k, hk, rfl⟩ := dIn_nI (n := 1) h.1 (by omega)
  exact ⟨k, by omega, rfl⟩
section MOPS
variable {M : Mem} {s : St}
theorem o_grows (h : MS M s) (ok : SOK s) (l w kd j : Int32) : MO M (f_X11_grows M 250 l w kd j) cdB (oGrows s l w kd j) := by
  unfold MO f_X11_grows oGrows
  have h' := h.t0 ok 0
  rw [m_badTrial h' (th0 M 0)]
  by_cases hl : lOk s l = true
  · by_cases hw : (dIn w 0 99 && shOk kd j) = true
    · simp only [hl, hw, ↓reduceIte, Option.bind_some]
      obtain ⟨i, hi, rfl, hget, hR, hwf⟩ := h'.go ok hl
      obtain ⟨q, hq, rfl⟩ := shOk_of (Bool.and_eq_true _ _ ▸ hw).2
      refine tot.bd (t_grows (hd := 100) hi h'.d ok.dk hR hwf h'.1.2.2.2.1 hq j 100) ?_
      rintro r M2 ⟨rfl, hM2, hf2⟩
      show tot (if vp_nar .boolean (b2 _) = b2 _ then _ else _) _
      rw [if_pos (nar_b2 _)]
      exact tot.ret ⟨⟨(hf2.2 0 (by omega) (by omega) (by omega) (by omega)).trans (th0 M 0), rfl⟩, h'.gf ok hM2 hf2, lo_t0.tr hf2.lo⟩
    · simp only [hl, hw, ↓reduceIte, Option.bind_some, n1]
      exact tot.ret ⟨th0 (mU M 250 0 0) 2, h'.t0 ok 2, lo_t0.tr lo_t0⟩
  · simp only [hl, ↓reduceIte, Option.bind_some, n1]
    exact tot.ret ⟨th0 (mU M 250 0 0) 1, h'.t0 ok 1, lo_t0.tr lo_t0⟩
end MOPS
