section KOPS
variable {M : Mem} {s : St}
theorem CS.frr {M M' : Mem} {s : St} (h : CS M s) {i : Nat} (hf : Fr (92 + 5 * i) M M') : RR M' 11 (sRd s) := h.rr.fr (fun b h1 h2 => hf b (by omega) (by omega))
theorem k_shut (h : CS M s) (ok : SOK s) (l w kd j a ab : Int32) : KO M (f_X10_shut M 0 l w kd j a ab) (oShut s l w kd j a ab) := by
  unfold KO f_X10_shut f_X10_shut_b45 f_X10_shut_b44 oShut
  by_cases hl : lOk s l = true
  · by_cases hw : dIn w 0 99 = true
    · by_cases hk : shOk kd j = true
      · by_cases h1 : dIn a 1 9999 = true
        · by_cases h2 : dIn ab 0 1000000 = true
          · simp only [q_law h ok, q_wind, q_shape, q_in, q_dem, Option.bind_some, hl, hw, hk, h1, h2, Bool.and_self, ↓reduceIte, bt_ne, q_d1, g09, g06, g11_0]
            obtain ⟨i, hi, rfl, hget, hL, hA, hwf⟩ := h.go ok hl
            obtain ⟨hn, hn2, h8⟩ := ok.n
            rw [i_cl (by omega)]
            refine tot.bd (r_take (n := pcs (sRd s)) (by omega) hA h.d) ?_
            rintro r M1 ⟨hR1, hT1, hf1⟩
            refine tot.bd (r_begin dk_58 hR1 hn hn2 h8 kd j a) ?_
            rintro r M2 ⟨hB, hf2⟩
            have hA2 : RLw M2 (92 + 5 * i) (lw s (nI i)) := hT1.2.fr (congrFun (hf2 _ (by omega)) 4) (hf2 _ (by omega))
            have hf2 : Fr (92 + 5 * i) M M2 := hf1.tr (Fr.dk (by omega) hf2)
            have hr0 : ∀ t, sTr s (nI i) w kd j a t 0 0 = nI (pcs (sRd s)) := fun t => (run_0 t).trans (beg_0.trans hn)
            refine tot.loopFU (σ := Int32 × Mem) (fun m s9 => f_X10_shut_h77 0 (nI i) w kd j a ab m (92 + 5 * i) s9.1 s9.2) 100 (fun t s9 => s9.1 = nI (t + 1) ∧ RD s9.2 58 (sTr s (nI i) w kd j a t) ∧ (∀ q, q < t → decide (ab < sSize (sTr s (nI i) w kd j a (1 + q)) (pcs (sRd s)) kd) = false) ∧ RLw s9.2 (92 + 5 * i) (lw s (nI i)) ∧ Fr (92 + 5 * i) M s9.2) _ (by omega) (1, M2) ⟨rfl, hB, fun q hq => by omega, hA2, hf2⟩ ?_ ?_
            · rintro m t ⟨x, M3⟩ ht ⟨hx, hD, hh, hA3, hf3⟩ hnext
              dsimp only at hx hD hh hA3 hf3
              subst hx
              show tot (f_X10_shut_h77 0 (nI i) w kd j a ab (m + 1) (92 + 5 * i) (nI (t + 1)) M3) _
              rw [f_X10_shut_h77, if_neg (show ¬ (100 : Int32) < nI _ from nI_nlt (a := 100) (by omega) (by omega)), g09]
              refine tot.bd (r_tick dk_58 hL (Or.inl (by omega)) hD hA3 hwf (hr0 t) h8) ?_
              rintro r2 M4 ⟨hD4, hA4, hf4⟩
              have hD4 : RD M4 58 (sTr s (nI i) w kd j a (t + 1)) := hD4
              have hf4 : Fr (92 + 5 * i) M M4 := hf3.tr (fun b h1 h2 => hf4 b (by omega) h2)
              show tot ((f_X1_size M4 58 kd).bind _) _
              rw [r_size dk_58 hD4 (hr0 (t + 1)) h8 kd, Option.bind_some]
              show tot (if sSize (sTr s (nI i) w kd j a (t + 1)) (pcs (sRd s)) kd ≤ ab then _ else _) _
              rw [nI_1]
              by_cases hz : sSize (sTr s (nI i) w kd j a (t + 1)) (pcs (sRd s)) kd ≤ ab
              · rw [if_pos hz]
                refine hnext (nI (t + 1 + 1), M4) ⟨rfl, hD4, fun q hq => ?_, hA4, hf4⟩
                by_cases hq2 : q < t
                · exact hh q hq2
                · rw [show 1 + q = t + 1 by omega]
                  exact decide_eq_false (Int32.not_lt.mpr hz)
              · rw [if_neg hz]
                refine tot.ret ⟨?_, h.tr ok hget hf4 hA4, hf4.hi hi⟩
                rw [fFst_hit (k := t) (by omega) hh (by rw [show 1 + t = t + 1 by omega]; exact decide_eq_true (Int32.not_le.mp hz)), show 1 + t = t + 1 by omega]
            · rintro m ⟨x, M3⟩ ⟨hx, hD, hh, hA3, hf3⟩
              dsimp only at hx hD hh hA3 hf3
              subst hx
              show tot (f_X10_shut_h77 0 (nI i) w kd j a ab (m + 1) (92 + 5 * i) (nI (100 + 1)) M3) _
              rw [f_X10_shut_h77, if_pos (show (100 : Int32) < nI _ from nI_lt (a := 100) (by omega) (by omega))]
              refine tot.ret ⟨?_, h.tr ok hget hf3 hA3, hf3.hi hi⟩
              rw [fFst_no hh]
          · simp only [q_law h ok, q_wind, q_shape, q_in, q_dem, Option.bind_some, hl, hw, hk, h1, h2, Bool.and_false, ↓reduceIte, bt_ne]
            exact tot.ret ⟨rfl, h, fun _ _ => rfl⟩
        · simp only [q_law h ok, q_wind, q_shape, q_in, q_dem, Option.bind_some, hl, hw, hk, h1, Bool.and_false, Bool.false_and, ↓reduceIte]
          exact tot.ret ⟨rfl, h, fun _ _ => rfl⟩
      · simp only [q_law h ok, q_wind, q_shape, Option.bind_some, hl, hw, hk, Bool.and_false, Bool.false_and, ↓reduceIte]
        exact tot.ret ⟨rfl, h, fun _ _ => rfl⟩
    · simp only [q_law h ok, q_wind, q_shape, Option.bind_some, hl, hw, Bool.false_and, ↓reduceIte]
      exact tot.ret ⟨rfl, h, fun _ _ => rfl⟩
  · simp only [q_law h ok, Option.bind_some, hl, ↓reduceIte]
    exact tot.ret ⟨rfl, h, fun _ _ => rfl⟩
theorem k_barred (h : CS M s) (ok : SOK s) (l w kd j a far : Int32) : KO M (f_X10_barred M 0 l w kd j a far) (oBarred s l w kd j a far) := by
  unfold KO f_X10_barred f_X10_barred_b45 f_X10_barred_b44 oBarred
  by_cases hl : lOk s l = true
  · by_cases hw : dIn w 0 99 = true
    · by_cases hk : shOk kd j = true
      · by_cases h1 : dIn a 1 9999 = true
        · by_cases h2 : dIn far 0 1000000 = true
          · simp only [q_law h ok, q_wind, q_shape, q_in, q_dem, Option.bind_some, hl, hw, hk, h1, h2, Bool.and_self, ↓reduceIte, bt_ne, q_d1, g09, g06, g11_0]
            obtain ⟨i, hi, rfl, hget, hL, hA, hwf⟩ := h.go ok hl
            obtain ⟨hn, hn2, h8⟩ := ok.n
            obtain ⟨q1, q2, q3⟩ := ok.f
            rw [i_cl (by omega)]
            refine tot.bd (r_take (n := pcs (sRd s)) (by omega) hA h.d) ?_
            rintro r M1 ⟨hR1, hT1, hf1⟩
            refine tot.bd (r_begin dk_58 hR1 hn hn2 h8 kd j a) ?_
            rintro r M2 ⟨hB, hf2⟩
            have hA2 : RLw M2 (92 + 5 * i) (lw s (nI i)) := hT1.2.fr (congrFun (hf2 _ (by omega)) 4) (hf2 _ (by omega))
            have hf2 : Fr (92 + 5 * i) M M2 := hf1.tr (Fr.dk (by omega) hf2)
            have hr0 : ∀ t, sTr s (nI i) w kd j a t 0 0 = nI (pcs (sRd s)) := fun t => (run_0 t).trans (beg_0.trans hn)
            refine tot.loopFU (σ := Int32 × Int32 × Mem) (fun m s9 => f_X10_barred_h80 0 (nI i) w kd j a far m (92 + 5 * i) s9.1 s9.2.1 s9.2.2) 100 (fun t s9 => s9.1 = sBar (sRow s (nI i) w kd j a far) t ∧ s9.2.1 = nI (t + 1) ∧ RD s9.2.2 58 (sTr s (nI i) w kd j a t) ∧ RLw s9.2.2 (92 + 5 * i) (lw s (nI i)) ∧ Fr (92 + 5 * i) M s9.2.2) _ (by omega) ((-1), 1, M2) ⟨rfl, rfl, hB, hA2, hf2⟩ ?_ ?_
            · rintro m t ⟨e, x, M3⟩ ht ⟨he, hx, hD, hA3, hf3⟩ hnext
              dsimp only at he hx hD hA3 hf3
              subst hx
              show tot (f_X10_barred_h80 0 (nI i) w kd j a far (m + 1) (92 + 5 * i) e (nI (t + 1)) M3) _
              rw [f_X10_barred_h80, if_neg (show ¬ (100 : Int32) < nI _ from nI_nlt (a := 100) (by omega) (by omega)), g09]
              refine tot.bd (r_tick dk_58 hL (Or.inl (by omega)) hD hA3 hwf (hr0 t) h8) ?_
              rintro r2 M4 ⟨hD4, hA4, hf4⟩
              have hD4 : RD M4 58 (sTr s (nI i) w kd j a (t + 1)) := hD4
              have hf4 : Fr (92 + 5 * i) M M4 := hf3.tr (fun b h1 h2 => hf4 b (by omega) h2)
              show tot ((f_X2_firstRowOff M4 (gRf (gRf 0 6) 1) (nI (t + 1)) 58 far).bind _) _
              rw [g06, g11_1, r_off dk_58 (h.frr hf4) hD4 (hr0 (t + 1)) h8 q1 q2 q3, Option.bind_some]
              show tot (if sRow s (nI i) w kd j a far (t + 1) = (-1) then _ else _) _
              have hgo : ∀ e', e' = sBar (sRow s (nI i) w kd j a far) (t + 1) → tot (f_X10_barred_h80 0 (nI i) w kd j a far m (92 + 5 * i) e' (nI (t + 1) + 1) M4) (fun r M' => r = .inl (sBar (sRow s (nI i) w kd j a far) 100) ∧ CS M' s ∧ Hi M M') := fun e' he' => by
                rw [nI_1]
                exact hnext (e', nI (t + 1 + 1), M4) ⟨he', rfl, hD4, hA4, hf4⟩
              have hst : sBar (sRow s (nI i) w kd j a far) (t + 1) = if sRow s (nI i) w kd j a far (t + 1) = (-1) then e else if e = (-1) then sRow s (nI i) w kd j a far (t + 1) else if e ≤ sRow s (nI i) w kd j a far (t + 1) then e else sRow s (nI i) w kd j a far (t + 1) := by rw [he]; rfl
              unfold f_X10_barred_b138 f_X10_barred_b142
              show tot (if sRow s (nI i) w kd j a far (t + 1) = (-1) then _ else if e = (-1) then _ else if e ≤ sRow s (nI i) w kd j a far (t + 1) then _ else _) _
              by_cases z1 : sRow s (nI i) w kd j a far (t + 1) = (-1)
              · rw [if_pos z1]
                exact hgo e (by rw [hst, if_pos z1])
              · rw [if_neg z1]
                by_cases z2 : e = (-1)
                · rw [if_pos z2]
                  exact hgo _ (by rw [hst, if_neg z1, if_pos z2]; rfl)
                · rw [if_neg z2]
                  by_cases z3 : e ≤ sRow s (nI i) w kd j a far (t + 1)
                  · rw [if_pos z3]
                    exact hgo e (by rw [hst, if_neg z1, if_neg z2, if_pos z3])
                  · rw [if_neg z3]
                    exact hgo _ (by rw [hst, if_neg z1, if_neg z2, if_neg z3]; rfl)
            · rintro m ⟨e, x, M3⟩ ⟨he, hx, hD, hA3, hf3⟩
              dsimp only at he hx hD hA3 hf3
              subst hx
              show tot (f_X10_barred_h80 0 (nI i) w kd j a far (m + 1) (92 + 5 * i) e (nI (100 + 1)) M3) _
              rw [f_X10_barred_h80, if_pos (show (100 : Int32) < nI _ from nI_lt (a := 100) (by omega) (by omega))]
              exact tot.ret ⟨by rw [he], h.tr ok hget hf3 hA3, hf3.hi hi⟩
          · simp only [q_law h ok, q_wind, q_shape, q_in, q_dem, Option.bind_some, hl, hw, hk, h1, h2, Bool.and_false, ↓reduceIte, bt_ne]
            exact tot.ret ⟨rfl, h, fun _ _ => rfl⟩
        · simp only [q_law h ok, q_wind, q_shape, q_in, q_dem, Option.bind_some, hl, hw, hk, h1, Bool.and_false, Bool.false_and, ↓reduceIte]
          exact tot.ret ⟨rfl, h, fun _ _ => rfl⟩
      · simp only [q_law h ok, q_wind, q_shape, Option.bind_some, hl, hw, hk, Bool.and_false, Bool.false_and, ↓reduceIte]
        exact tot.ret ⟨rfl, h, fun _ _ => rfl⟩
    · simp only [q_law h ok, q_wind, q_shape, Option.bind_some, hl, hw, Bool.false_and, ↓reduceIte]
      exact tot.ret ⟨rfl, h, fun _ _ => rfl⟩
  · simp only [q_law h ok, Option.bind_some, hl, ↓reduceIte]
    exact tot.ret ⟨rfl, h, fun _ _ => rfl⟩
theorem i_ne1 {v : Nat} (hv : v < 90000) : ¬ nI v - 1 = nI v := fun z => by
  have h3 : nI v - 1 + 1 = nI v + 1 := by rw [z]
  rw [Int32.sub_add_cancel, nI_1] at h3
  have := (i_eq (a := v) (b := v + 1) (by omega) (by omega)).mp h3
  omega
theorem up_one {p : Nat → Bool} {v : Nat} (hv : v < 90000) {α : Type} (x y : α) : (if fUp p 1 v = nI v then x else y) = if p v = true then x else y := by
  unfold fUp fUp
  cases p v with
  | true => rw [if_pos (show (true = true) from rfl), nI_pred, if_pos (by rfl), if_pos rfl]
  | false => rw [if_neg (show ¬ (false = true) by decide), if_neg (i_ne1 hv), if_neg (by decide)]
theorem make_o {R D : Dk} {k o j : Nat} (ho : o ≠ 2) : sMake R k D o j = D o j := by
  unfold sMake
  rw [mU_at, if_neg (by omega)]
theorem makes_o {R D : Dk} {x : Int32} {c o j : Nat} (ho : o ≠ 2) : sMakes R x D c o j = D o j := by
  induction c with
  | zero => rfl
  | succ c ih =>
    unfold sMakes
    split
    · rw [make_o ho, ih]
    · exact ih
theorem two_sh : ∀ c, c < 6 → (1 : Int32) <<< (nI c &&& 31) = nI (2 ^ c) := by decide +kernel
theorem two_le : ∀ c, c < 6 → 2 ^ c ≤ 32 := by decide
theorem k_mended (h : CS M s) (ok : SOK s) (l w : Int32) : KO M (f_X10_mended M 0 l w) (oMended s l w) := by
  unfold KO f_X10_mended oMended
  by_cases hl : lOk s l = true
  · by_cases hw : dIn w 0 99 = true
    · simp only [q_law h ok, q_wind, Option.bind_some, hl, hw, ↓reduceIte]
      obtain ⟨i, hi, rfl, hget, hL, hA, hwf⟩ := h.go ok hl
      obtain ⟨hn, h2, h8⟩ := ok.n
      obtain ⟨q1, q2, q3⟩ := ok.m
      obtain ⟨v, hv, rfl⟩ := dIn_nI (n := 99) hw (by omega)
      rw [i_cl (by omega)]
      have hp2 := two_le _ (show cmd (sRd s) < 6 by omega)
      refine tot.loopFU (σ := Int32 × Int32 × Int32 × Mem) (fun m s9 => f_X10_mended_h19 0 (nI i) (nI v) m (92 + 5 * i) s9.1 s9.2.1 s9.2.2.1 s9.2.2.2) (2 ^ cmd (sRd s)) (fun t s9 => (s9.1, s9.2.1) = sMnd (lw s (nI i)) (nI v) (sRd s) t ∧ s9.2.2.1 = nI t ∧ RLw s9.2.2.2 (92 + 5 * i) (lw s (nI i)) ∧ Fr (92 + 5 * i) M s9.2.2.2) _ (by omega) ((-1), 0, 0, M) ⟨rfl, rfl, hA, Fr.rf⟩ ?_ ?_
      · rintro m t ⟨e, f, x, M3⟩ ht ⟨he, hx, hA3, hf3⟩ hnext
        dsimp only at he hx hA3 hf3
        subst hx
        show tot (f_X10_mended_h19 0 (nI i) (nI v) (m + 1) (92 + 5 * i) e f (nI t) M3) _
        have hR3 := h.frr hf3
        rw [f_X10_mended_h19, g06, g11_2, hR3.k27, q1, two_sh _ (by omega), if_neg (i_nle ht (by omega)), r_cost hR3 q1 q2, Option.bind_some]
        have hst : sMnd (lw s (nI i)) (nI v) (sRd s) (t + 1) = if e = (-1) ∨ sCost (sRd s) (nI t) (cmd (sRd s)) < f then (if sCalm (lw s (nI i)) (nI v) (pcs (sRd s)) (sMakes (sRd s) (nI t) (rD (sRd s)) (cmd (sRd s))) = true then (nI t, sCost (sRd s) (nI t) (cmd (sRd s))) else (e, f)) else (e, f) := by
          show (if (sMnd (lw s (nI i)) (nI v) (sRd s) t).1 = (-1) ∨ _ then _ else _) = _
          rw [← he]
        have hgo : ∀ e' f' M', (e', f') = sMnd (lw s (nI i)) (nI v) (sRd s) (t + 1) → RLw M' (92 + 5 * i) (lw s (nI i)) → Fr (92 + 5 * i) M M' → tot (f_X10_mended_b112 0 (nI i) (nI v) (f_X10_mended_h19 0 (nI i) (nI v) m) (92 + 5 * i) e' f' (nI t) M') (fun r M' => r = .inl (sMnd (lw s (nI i)) (nI v) (sRd s) (2 ^ cmd (sRd s))).1 ∧ CS M' s ∧ Hi M M') := fun e' f' M' h1 h2 h3 => by
          unfold f_X10_mended_b112
          rw [nI_1]
          exact hnext (e', f', nI (t + 1), M') ⟨h1, rfl, h2, h3⟩
        have hb : (e = (-1) ∨ sCost (sRd s) (nI t) (cmd (sRd s)) < f) → tot (f_X10_mended_b63 0 (nI i) (nI v) (f_X10_mended_h19 0 (nI i) (nI v) m) (92 + 5 * i) e f (nI t) (sCost (sRd s) (nI t) (cmd (sRd s))) M3) (fun r M' => r = .inl (sMnd (lw s (nI i)) (nI v) (sRd s) (2 ^ cmd (sRd s))).1 ∧ CS M' s ∧ Hi M M') := by
          intro hc
          rw [if_pos hc] at hst
          unfold f_X10_mended_b63
          rw [g09, g06, g11_0, g11_2]
          refine tot.bd (r_take (n := pcs (sRd s)) (by omega) hA3 (hR3.d rfl)) ?_
          rintro r M4 ⟨hD4, hT4, hf4⟩
          have hf4 := hf3.tr hf4
          refine tot.bd (r_makes dk_58 (Or.inl rfl) (h.frr hf4) hD4 q1 q2 q3 (nI t)) ?_
          rintro r M5 ⟨hD5, hf5⟩
          have hA5 : RLw M5 (92 + 5 * i) (lw s (nI i)) := hT4.2.fr (congrFun (hf5 _ (by omega)) 4) (hf5 _ (by omega))
          have hf5 : Fr (92 + 5 * i) M M5 := hf4.tr (Fr.dk (by omega) hf5)
          have hu := r_upTo hL (by omega) (n := pcs (sRd s)) ⟨⟨_, hD5, Lk.rf⟩, hA5⟩ hwf ((makes_o (by decide)).trans hn) h2 h8 v 1 (by omega) (by omega)
          rw [Nat.add_sub_cancel] at hu
          refine tot.bd hu ?_
          rintro r M6 ⟨rfl, hT6, hf6⟩
          show tot (if fUp _ 1 v = nI v then _ else _) _
          rw [up_one (by omega)]
          by_cases hz : sCalm (lw s (nI i)) (nI v) (pcs (sRd s)) (sMakes (sRd s) (nI t) (rD (sRd s)) (cmd (sRd s))) = true
          · rw [if_pos hz]
            exact hgo _ _ _ (by rw [hst, if_pos hz]) hT6.2 (hf5.tr hf6)
          · rw [if_neg hz]
            exact hgo _ _ _ (by rw [hst, if_neg hz]) hT6.2 (hf5.tr hf6)
        show tot (if e = (-1) then _ else if f ≤ sCost (sRd s) (nI t) (cmd (sRd s)) then _ else _) _
        by_cases z1 : e = (-1)
        · rw [if_pos z1]
          exact hb (Or.inl z1)
        · rw [if_neg z1]
          by_cases z2 : f ≤ sCost (sRd s) (nI t) (cmd (sRd s))
          · rw [if_pos z2]
            exact hgo e f M3 (by rw [hst, if_neg (fun z => z.elim z1 (fun q => Int32.not_lt.mpr z2 q))]) hA3 hf3
          · rw [if_neg z2]
            exact hb (Or.inr (Int32.not_le.mp z2))
      · rintro m ⟨e, f, x, M3⟩ ⟨he, hx, hA3, hf3⟩
        dsimp only at he hx hA3 hf3
        subst hx
        show tot (f_X10_mended_h19 0 (nI i) (nI v) (m + 1) (92 + 5 * i) e f (nI (2 ^ cmd (sRd s))) M3) _
        have hR3 := h.frr hf3
        rw [f_X10_mended_h19, g06, g11_2, hR3.k27, q1, two_sh _ (by omega), if_pos (i_le (Nat.le_refl _) (by omega))]
        exact tot.ret ⟨congrArg (fun z => Sum.inl (Prod.fst z)) he, h.tr ok hget hf3 hA3, hf3.hi hi⟩
    · simp only [q_law h ok, q_wind, Option.bind_some, hl, hw, ↓reduceIte]
      exact tot.ret ⟨rfl, h, fun _ _ => rfl⟩
  · simp only [q_law h ok, Option.bind_some, hl, ↓reduceIte]
    exact tot.ret ⟨rfl, h, fun _ _ => rfl⟩
theorem k_count (h : CS M s) (ok : SOK s) (x : Int32) : tot (f_X10_count M 0 x) (fun r M' => .inl r = (oCount s x).1 ∧ CS M' s ∧ Hi M M') := by
  obtain ⟨hn, h2, h8⟩ := ok.n
  unfold f_X10_count oCount
  rw [q_in, Option.bind_some]
  by_cases hx : dIn x 20 29 = true
  · rw [if_pos hx, hx]
    have hx1 := dIn_t.mp hx
    obtain ⟨k, hk, rfl⟩ := i_of (n := 29) (x := x) (fun z => hx1.1 (Int32.lt_of_lt_of_le z (by decide))) (Int32.not_lt.mp hx1.2) (by omega)
    have hk2 : 20 ≤ k := by
      by_cases hz : 20 ≤ k
      · exact hz
      · exact absurd (show nI k < 20 from nI_lt (b := 20) (by omega) (by omega)) hx1.1
    obtain ⟨q, rfl⟩ : ∃ q, k = q + 20 := ⟨k - 20, by omega⟩
    have e : nI (q + 20) - 20 = nI q := i_sub q 20
    show tot ((f_X8_at M (gRf (gRf (gRf 0 6) 0) 2) (nI (q + 20) - 20)).bind _) _
    rw [e, g06, g11_0, q_at, Option.bind_some, h.d.a2 dk_12 (show q < 10 by omega), i_cl (by omega)]
    exact tot.ret ⟨rfl, h, fun _ _ => rfl⟩
  · rw [if_neg hx]
    have hb : dIn x 20 29 = false := by
      cases hz : dIn x 20 29 with
      | false => rfl
      | true => exact absurd hz hx
    rw [hb]
    show tot (if b2 false = 0 then _ else _) _
    rw [if_pos (by rfl), g06, g11_0, g11_1, g11_2, g11_3, g11_4, r_broken dk_12 h.d hn h8 0, r_broken dk_12 h.d hn h8 1]
    have a1 := h.d.p
    have a2 := h.2.1
    have a3 := h.d.t
    have a4 := h.rr.k18
    have a5 := h.rr.k27
    have a6 := h.rr.k34
    have a7 := h.rr.k39
    have a8 := h.2.2.2.1
    have a9 := h.1
    by_cases z : x = 0
    · rw [if_pos z, if_pos z]; exact tot.ret ⟨congrArg Sum.inl a1, h, fun _ _ => rfl⟩
    rw [if_neg z, if_neg z]
    by_cases z : x = 1
    · rw [if_pos z, if_pos z]; exact tot.ret ⟨congrArg Sum.inl a2, h, fun _ _ => rfl⟩
    rw [if_neg z, if_neg z]
    by_cases z : x = 2
    · rw [if_pos z, if_pos z]; exact tot.ret ⟨congrArg Sum.inl a3, h, fun _ _ => rfl⟩
    rw [if_neg z, if_neg z]
    by_cases z : x = 3
    · rw [if_pos z, if_pos z]; exact tot.ret ⟨congrArg Sum.inl a4, h, fun _ _ => rfl⟩
    rw [if_neg z, if_neg z]
    by_cases z : x = 4
    · rw [if_pos z, if_pos z]; exact tot.ret ⟨congrArg Sum.inl a5, h, fun _ _ => rfl⟩
    rw [if_neg z, if_neg z]
    by_cases z : x = 5
    · rw [if_pos z, if_pos z]; exact tot.ret ⟨congrArg Sum.inl a6, h, fun _ _ => rfl⟩
    rw [if_neg z, if_neg z]
    by_cases z : x = 6
    · rw [if_pos z, if_pos z]; exact tot.ret ⟨congrArg Sum.inl a7, h, fun _ _ => rfl⟩
    rw [if_neg z, if_neg z]
    by_cases z : x = 7
    · rw [if_pos z, if_pos z]; exact tot.ret ⟨congrArg Sum.inl a8, h, fun _ _ => rfl⟩
    rw [if_neg z, if_neg z]
    by_cases z : x = 8
    · rw [if_pos z, if_pos z]; exact tot.ret ⟨congrArg Sum.inl a9, h, fun _ _ => rfl⟩
    rw [if_neg z, if_neg z]
    by_cases z : x = 9
    · rw [if_pos z, if_pos z]; exact tot.ret ⟨rfl, h, fun _ _ => rfl⟩
    rw [if_neg z, if_neg z]
    by_cases z : x = 10
    · rw [if_pos z, if_pos z]; exact tot.ret ⟨rfl, h, fun _ _ => rfl⟩
    rw [if_neg z, if_neg z]
    exact tot.ret ⟨rfl, h, fun _ _ => rfl⟩
end KOPS
