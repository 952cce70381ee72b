/-! The week: each day has a mend left. -/
def pcn (m : Nat) : Nat := m % 2 + m / 2 % 2 + m / 4 % 2 + m / 8 % 2 + m / 16 % 2
theorem pcn_or : ∀ m, m < 32 → ∀ q, q < 5 → sBit (nI m) q = 0 → ∃ m', m' < 32 ∧ nI m ||| (1 <<< (nI q &&& 31)) = nI m' ∧ pcn m' = pcn m + 1 := by
  have h : ∀ m, m < 32 → ∀ q, q < 5 → sBit (nI m) q = 0 → (m ||| (1 <<< q)) < 32 ∧ nI m ||| (1 <<< (nI q &&& 31)) = nI (m ||| (1 <<< q)) ∧ pcn (m ||| (1 <<< q)) = pcn m + 1 := by decide +kernel
  exact fun m hm q hq hb => ⟨_, h m hm q hq hb⟩
theorem pcn_all : ∀ m, m < 32 → ∀ c, c < 6 → (∀ j, j < c → ¬ sBit (nI m) j = 0) → c ≤ pcn m := by decide +kernel
theorem bst_c {A : List Nat} {R E : Dk} {made : Int32} (k : Nat) : ((∀ j, j < k → ¬ sBit made j = 0) ∧ (sBst A R E made k).1 = (-1) ∧ (sBst A R E made k).2 = (-1)) ∨ ∃ q, q < k ∧ (sBst A R E made k).1 = nI q ∧ sBit made q = 0 := by
  induction k with
  | zero => exact Or.inl ⟨fun j hj => by omega, rfl, rfl⟩
  | succ k ih =>
    unfold sBst
    by_cases hb : sBit made k = 0
    · rw [if_pos hb]
      split
      · exact Or.inr ⟨k, by omega, rfl, hb⟩
      · rename_i hz
        rcases ih with ⟨_, h2, _⟩ | ⟨q, hq, h2, h3⟩
        · exact absurd (Or.inl h2) hz
        · exact Or.inr ⟨q, by omega, h2, h3⟩
    · rw [if_neg hb]
      rcases ih with ⟨h1, h2, h3⟩ | ⟨q, hq, h2, h3⟩
      · exact Or.inl ⟨fun j hj => by
          by_cases hz : j = k
          · rw [hz]; exact hb
          · exact h1 j (by omega), h2, h3⟩
      · exact Or.inr ⟨q, by omega, h2, h3⟩
theorem wk_ok {A : List Nat} {R : Dk} (hc : cmd R ≤ 5) : ∀ d, d ≤ cmd R → ∃ m, m < 32 ∧ (sWk A R d).1 = nI m ∧ pcn m = d := by
  intro d
  induction d with
  | zero => exact fun _ => ⟨0, by omega, rfl, rfl⟩
  | succ d ih =>
    intro hd
    obtain ⟨m, hm, e, hp⟩ := ih (by omega)
    have hex : ∃ q, q < cmd R ∧ (sBst A R (sWk A R d).2.1 (sWk A R d).1 (cmd R)).1 = nI q ∧ sBit (sWk A R d).1 q = 0 := by
      rcases bst_c (A := A) (R := R) (E := (sWk A R d).2.1) (made := (sWk A R d).1) (cmd R) with ⟨h1, _, _⟩ | h
      · rw [e] at h1
        have := pcn_all m hm (cmd R) (by omega) h1
        omega
      · exact h
    obtain ⟨q, hq, e2, hb⟩ := hex
    rw [e] at hb
    obtain ⟨m', h1, h2, h3⟩ := pcn_or m hm q (by omega) hb
    refine ⟨m', h1, ?_, by omega⟩
    show (sWk A R d).1 ||| (1 <<< ((sBst A R (sWk A R d).2.1 (sWk A R d).1 (cmd R)).1 &&& 31)) = nI m'
    rw [e2, e]
    exact h2
theorem wk_ex {A : List Nat} {R : Dk} (hc : cmd R ≤ 5) {d : Nat} (hd : d < cmd R) : ∃ q, q < cmd R ∧ (sBst A R (sWk A R d).2.1 (sWk A R d).1 (cmd R)).1 = nI q := by
  obtain ⟨m, hm, e, hp⟩ := wk_ok (A := A) hc d (by omega)
  rcases bst_c (A := A) (R := R) (E := (sWk A R d).2.1) (made := (sWk A R d).1) (cmd R) with ⟨h1, _, _⟩ | ⟨q, hq, h2, _⟩
  · rw [e] at h1
    have := pcn_all m hm (cmd R) (by omega) h1
    omega
  · exact ⟨q, hq, h2⟩
theorem fUp_j {p : Nat → Bool} (c s : Nat) : ∃ j, j ≤ s + c ∧ fUp p c s = nI j - 1 := by
  induction c generalizing s with
  | zero => exact ⟨s, by omega, rfl⟩
  | succ c ih =>
    unfold fUp
    split
    · obtain ⟨j, hj, e⟩ := ih (s + 1)
      exact ⟨j, by omega, e⟩
    · exact ⟨s, by omega, rfl⟩
theorem le12 : ∀ j, j < 14 → nI j - 1 ≤ 12 := by decide +kernel
theorem cto_le {A : List Nat} {n : Nat} {D : Dk} : sCto A n D ≤ 12 := by
  obtain ⟨j, hj, e⟩ := fUp_j (p := fun i => sCalm A (nI i) n D) 13 0
  unfold sCto
  rw [e]
  exact le12 j (by omega)
theorem bst_s {A : List Nat} {R E : Dk} {made : Int32} (k : Nat) : sBst A R E made (k + 1) = if sBit made k = 0 then (if (sBst A R E made k).1 = (-1) ∨ (sBst A R E made k).2 < sCto A (pcs R) (sMake R k E) then (nI k, sCto A (pcs R) (sMake R k E)) else sBst A R E made k) else sBst A R E made k := rfl
theorem bst_stop {A : List Nat} {R E : Dk} {made : Int32} {k : Nat} (hk9 : k < 100000) (h : 12 ≤ (sBst A R E made k).2) : ∀ j, k ≤ j → sBst A R E made j = sBst A R E made k := by
  intro j hj
  induction j with
  | zero =>
    have : k = 0 := by omega
    rw [this]
  | succ j ih =>
    by_cases hz : k = j + 1
    · rw [hz]
    · have e := ih (by omega)
      rw [bst_s, e]
      split
      · rw [if_neg]
        rintro (z | z)
        · rcases bst_c (A := A) (R := R) (E := E) (made := made) k with ⟨_, _, h3⟩ | ⟨q, hq, h2, _⟩
          · rw [h3] at h
            revert h; decide
          · rw [h2] at z
            have := i_lt0 (show q < 100000 by omega)
            rw [z] at this
            exact this (by decide)
        · exact Int32.not_lt.mpr cto_le (Int32.lt_of_le_of_lt h z)
      · rfl
section KOPS
variable {M : Mem} {s : St}
theorem r_best (h : CS M s) (ok : SOK s) {i : Nat} (hi : i < 4) {A : List Nat} (hL : LwS (92 + 5 * i)) (hA : RLw M (92 + 5 * i) A) (hwf : cTs A [] = some []) {E : Dk} (hE : RD M 75 E) (hn : E 0 0 = nI (pcs (sRd s))) (made : Int32) : tot (f_X10_bestMend M 0 (92 + 5 * i) made) (fun r M' => r = (sBst A (sRd s) E made (cmd (sRd s))).1 ∧ RLw M' (92 + 5 * i) A ∧ Fr (92 + 5 * i) M M') := by
  obtain ⟨_, h2, h8⟩ := ok.n
  obtain ⟨q1, q2, q3⟩ := ok.m
  unfold f_X10_bestMend
  refine tot.loopFU (σ := Int32 × Int32 × Int32 × Mem) (fun m s9 => f_X10_bestMend_h8 0 (92 + 5 * i) made m s9.1 s9.2.1 s9.2.2.1 s9.2.2.2) (cmd (sRd s)) (fun t s9 => (s9.1, s9.2.1) = sBst A (sRd s) E made t ∧ s9.2.2.1 = nI t ∧ RLw s9.2.2.2 (92 + 5 * i) A ∧ Fr (92 + 5 * i) M s9.2.2.2) _ (by omega) ((-1), (-1), 0, M) ⟨rfl, rfl, hA, Fr.rf⟩ ?_ ?_
  · rintro m t ⟨e, f, x, M3⟩ ht ⟨he, hx, hA3, hf3⟩ hnext
    dsimp only at he hx hA3 hf3
    subst hx
    show tot (f_X10_bestMend_h8 0 (92 + 5 * i) made (m + 1) e f (nI t) M3) _
    have hR3 := h.frr hf3
    have hE3 : RD M3 75 E := hE.fr (fun b h1 h2 => hf3 b (by omega) (by omega))
    have he1 : e = (sBst A (sRd s) E made t).1 := congrArg Prod.fst he
    have he2 : f = (sBst A (sRd s) E made t).2 := congrArg Prod.snd he
    have hgo : ∀ e' f' M', (e', f') = sBst A (sRd s) E made (t + 1) → RLw M' (92 + 5 * i) A → Fr (92 + 5 * i) M M' → tot (f_X10_bestMend_b95 0 (92 + 5 * i) made (f_X10_bestMend_h8 0 (92 + 5 * i) made m) e' f' (nI t) M') (fun r M' => r = (sBst A (sRd s) E made (cmd (sRd s))).1 ∧ RLw M' (92 + 5 * i) A ∧ Fr (92 + 5 * i) M M') := fun e' f' M' h1 h2 h3 => by
      unfold f_X10_bestMend_b95
      rw [nI_1]
      exact hnext (e', f', nI (t + 1), M') ⟨h1, rfl, h2, h3⟩
    rw [f_X10_bestMend_h8, g06, g11_2, hR3.k27, q1, if_neg (i_nle ht (by omega))]
    by_cases hz : 12 ≤ f
    · rw [if_pos hz]
      refine tot.ret ⟨?_, hA3, hf3⟩
      rw [bst_stop (k := t) (by omega) (by rw [← he2]; exact hz) _ (by omega)]
      exact he1
    · rw [if_neg hz]
      have hst : sBst A (sRd s) E made (t + 1) = if sBit made t = 0 then (if e = (-1) ∨ f < sCto A (pcs (sRd s)) (sMake (sRd s) t E) then (nI t, sCto A (pcs (sRd s)) (sMake (sRd s) t E)) else (e, f)) else (e, f) := by
        show (if sBit made t = 0 then (if (sBst A (sRd s) E made t).1 = (-1) ∨ (sBst A (sRd s) E made t).2 < _ then _ else sBst A (sRd s) E made t) else sBst A (sRd s) E made t) = _
        rw [← he]
      show tot (if sBit made t = 0 then _ else _) _
      by_cases hb : sBit made t = 0
      · rw [if_pos hb, g09, g010]
        rw [if_pos hb] at hst
        refine tot.bd (r_copy dk_58 dk_75 (by omega) hE3) ?_
        rintro r M4 ⟨hD4, hf4⟩
        have hA4 : RLw M4 (92 + 5 * i) A := hA3.fr (congrFun (hf4 _ (by omega)) 4) (hf4 _ (by omega))
        have hf4 : Fr (92 + 5 * i) M M4 := hf3.tr (Fr.dk (by omega) hf4)
        obtain ⟨q, hq, hq2⟩ := q3 t ht
        obtain ⟨M5, e5, hD5, hf5⟩ := r_make dk_58 (h.frr hf4) hD4 (k := t) (by omega) hq2 hq
        show tot ((f_X4_make M4 38 (nI t) 58).bind _) _
        rw [e5, Option.bind_some]
        have hA5 : RLw M5 (92 + 5 * i) A := hA4.fr (congrFun (hf5 _ (by omega)) 4) (hf5 _ (by omega))
        have hf5 : Fr (92 + 5 * i) M M5 := hf4.tr (Fr.dk (by omega) hf5)
        have hu := r_upTo hL (by omega) (n := pcs (sRd s)) ⟨⟨_, hD5, Lk.rf⟩, hA5⟩ hwf ((make_o (by decide)).trans hn) h2 h8 0 13 (by omega) (by omega)
        refine tot.bd hu ?_
        rintro r M6 ⟨rfl, hT6, hf6⟩
        have hf6 := hf5.tr hf6
        unfold f_X10_bestMend_b88
        show tot (if e = (-1) then _ else if sCto A (pcs (sRd s)) (sMake (sRd s) t E) ≤ f then _ else _) _
        by_cases z1 : e = (-1)
        · rw [if_pos z1]
          exact hgo _ _ _ (by rw [hst, if_pos (Or.inl z1)]; rfl) hT6.2 hf6
        · rw [if_neg z1]
          by_cases z2 : sCto A (pcs (sRd s)) (sMake (sRd s) t E) ≤ f
          · rw [if_pos z2]
            exact hgo _ _ _ (by rw [hst, if_neg (fun z => z.elim z1 (fun q => Int32.not_lt.mpr z2 q))]) hT6.2 hf6
          · rw [if_neg z2]
            exact hgo _ _ _ (by rw [hst, if_pos (Or.inr (Int32.not_le.mp z2))]; rfl) hT6.2 hf6
      · rw [if_neg hb]
        rw [if_neg hb] at hst
        exact hgo e f M3 hst.symm hA3 hf3
  · rintro m ⟨e, f, x, M3⟩ ⟨he, hx, hA3, hf3⟩
    dsimp only at he hx hA3 hf3
    subst hx
    show tot (f_X10_bestMend_h8 0 (92 + 5 * i) made (m + 1) e f (nI (cmd (sRd s))) M3) _
    have hR3 := h.frr hf3
    rw [f_X10_bestMend_h8, g06, g11_2, hR3.k27, q1, if_pos (i_le (Nat.le_refl _) (by omega))]
    exact tot.ret ⟨congrArg Prod.fst he, hA3, hf3⟩
theorem wk_0 {A : List Nat} {R : Dk} (d : Nat) : (sWk A R d).2.1 0 0 = rD R 0 0 := by
  induction d with
  | zero => rfl
  | succ d ih =>
    show sMake R (sBst A R (sWk A R d).2.1 (sWk A R d).1 (cmd R)).1.toNatClampNeg (sWk A R d).2.1 0 0 = _
    exact (make_o (by decide)).trans ih
theorem k_week (h : CS M s) (ok : SOK s) (l d : Int32) : KO M (f_X10_week M 0 l d) (oWeek s l d) := by
  unfold KO f_X10_week f_X10_week_b15 oWeek
  by_cases hl : lOk s l = true
  · by_cases hd : d < 0
    · simp only [q_law h ok, Option.bind_some, hl, hd, ↓reduceIte, not_true_eq_false]
      exact tot.ret ⟨rfl, h, fun _ _ => rfl⟩
    · obtain ⟨q1, q2, q3⟩ := ok.m
      simp only [q_law h ok, Option.bind_some, hl, hd, ↓reduceIte, not_false_eq_true, q_d1, g06, g11_2, h.rr.k27, q1]
      by_cases hz : d < nI (cmd (sRd s))
      · rw [if_pos hz]
        simp only [hz, ↓reduceIte, g010, g11_0]
        obtain ⟨i, hi, rfl, hget, hL, hA, hwf⟩ := h.go ok hl
        obtain ⟨hn, h2, h8⟩ := ok.n
        obtain ⟨N, hN, rfl⟩ := nI_of hd
        have hN2 : N < cmd (sRd s) := by
          by_cases hq : N < cmd (sRd s)
          · exact hq
          · exact absurd hz (nI_nlt (by omega) hN)
        rw [i_cl (by omega), i_cl (by omega)]
        refine tot.bd (r_copy dk_75 dk_12 (by omega) h.d) ?_
        rintro r M1 ⟨hD1, hf1⟩
        refine tot.loopFU (σ := Int32 × Int32 × Int32 × Mem) (fun m s9 => f_X10_week_h57 0 (nI i) (nI N) m (92 + 5 * i) s9.1 s9.2.1 s9.2.2.1 s9.2.2.2) (N + 1) (fun t s9 => s9.1 = (sWk (lw s (nI i)) (sRd s) t).1 ∧ s9.2.1 = (sWk (lw s (nI i)) (sRd s) t).2.2 ∧ s9.2.2.1 = nI t ∧ RD s9.2.2.2 75 (sWk (lw s (nI i)) (sRd s) t).2.1 ∧ RLw s9.2.2.2 (92 + 5 * i) (lw s (nI i)) ∧ ∀ b, (b < 58 ∨ 92 ≤ b) → (b < 92 + 5 * i ∨ 92 + 5 * i + 5 ≤ b) → s9.2.2.2 b = M b) _ (by omega) (0, (-1), 0, M1) ⟨rfl, rfl, rfl, hD1, hA.fr (congrFun (hf1 _ (by omega)) 4) (hf1 _ (by omega)), fun b h1 _ => hf1 b (by omega)⟩ ?_ ?_
        · rintro m t ⟨e, f, x, M3⟩ ht ⟨he, hf, hx, hD3, hA3, hf3⟩ hnext
          dsimp only at he hf hx hD3 hA3 hf3
          subst hx
          show tot (f_X10_week_h57 0 (nI i) (nI N) (m + 1) (92 + 5 * i) e f (nI t) M3) _
          rw [f_X10_week_h57, if_neg (nI_nlt (by omega) (by omega))]
          have hC3 : CS M3 s := h.fr ok (hf3 0 (by omega) (by omega)) (hf3 2 (by omega) (by omega)) (fun b h1 h2 => hf3 b (by omega) (by omega)) (fun b h1 h2 => hf3 b (by omega) (by omega)) (fun j B hj => by
            by_cases hji : j = i
            · subst hji
              rw [hget] at hj
              cases hj
              exact hA3
            · have := (List.getElem?_eq_some_iff.mp hj).1
              exact (h.2.2.2.2.2.1 j B hj).fr (congrFun (hf3 _ (by omega) (by omega)) 4) (hf3 _ (by omega) (by omega)))
          refine tot.bd (r_best hC3 ok hi hL hA3 hwf hD3 ((wk_0 t).trans hn) e) ?_
          rintro r M4 ⟨rfl, hA4, hf4⟩
          obtain ⟨q, hq, hqe⟩ := wk_ex (A := lw s (nI i)) q2 (show t < cmd (sRd s) by omega)
          rw [he]
          obtain ⟨z, hz1, hz2⟩ := q3 q hq
          have hD4 : RD M4 75 (sWk (lw s (nI i)) (sRd s) t).2.1 := hD3.fr (fun b h1 h2 => hf4 b (by omega) (by omega))
          obtain ⟨M5, e5, hD5, hf5⟩ := r_make dk_75 (hC3.frr hf4) hD4 (k := q) (by omega) hz2 hz1
          show tot ((f_X4_make M4 (gRf (gRf 0 6) 2) (sBst (lw s (nI i)) (sRd s) (sWk (lw s (nI i)) (sRd s) t).2.1 (sWk (lw s (nI i)) (sRd s) t).1 (cmd (sRd s))).1 (gRf 0 10)).bind _) _
          rw [g06, g11_2, g010, hqe, e5, Option.bind_some]
          show tot (f_X10_week_h57 0 (nI i) (nI N) m (92 + 5 * i) ((sWk (lw s (nI i)) (sRd s) t).1 ||| (1 <<< (nI q &&& 31))) (nI q) (nI t + 1) M5) _
          rw [nI_1]
          refine hnext (_, nI q, nI (t + 1), M5) ⟨?_, ?_, rfl, ?_, hA4.fr (congrFun (hf5 _ (by omega)) 4) (hf5 _ (by omega)), fun b h1 h2 => ?_⟩
          · show _ = (sWk (lw s (nI i)) (sRd s) t).1 ||| (1 <<< ((sBst (lw s (nI i)) (sRd s) (sWk (lw s (nI i)) (sRd s) t).2.1 (sWk (lw s (nI i)) (sRd s) t).1 (cmd (sRd s))).1 &&& 31))
            rw [hqe]
          · exact hqe.symm
          · show RD M5 75 (sMake (sRd s) (sBst (lw s (nI i)) (sRd s) (sWk (lw s (nI i)) (sRd s) t).2.1 (sWk (lw s (nI i)) (sRd s) t).1 (cmd (sRd s))).1.toNatClampNeg (sWk (lw s (nI i)) (sRd s) t).2.1)
            rw [hqe, i_cl (by omega)]
            exact hD5
          · show M5 b = M b
            rw [hf5 b (by omega), hf4 b (by omega) (by omega)]
            exact hf3 b h1 h2
        · rintro m ⟨e, f, x, M3⟩ ⟨he, hf, hx, hD3, hA3, hf3⟩
          dsimp only at he hf hx hD3 hA3 hf3
          subst hx
          show tot (f_X10_week_h57 0 (nI i) (nI N) (m + 1) (92 + 5 * i) e f (nI (N + 1)) M3) _
          rw [f_X10_week_h57, if_pos (nI_lt (by omega) (by omega))]
          have hC3 : CS M3 s := h.fr ok (hf3 0 (by omega) (by omega)) (hf3 2 (by omega) (by omega)) (fun b h1 h2 => hf3 b (by omega) (by omega)) (fun b h1 h2 => hf3 b (by omega) (by omega)) (fun j B hj => by
            by_cases hji : j = i
            · subst hji
              rw [hget] at hj
              cases hj
              exact hA3
            · have := (List.getElem?_eq_some_iff.mp hj).1
              exact (h.2.2.2.2.2.1 j B hj).fr (congrFun (hf3 _ (by omega) (by omega)) 4) (hf3 _ (by omega) (by omega)))
          exact tot.ret ⟨congrArg Sum.inl hf, hC3, fun b hb => hf3 b (by omega) (by omega)⟩
      · rw [if_neg hz]
        simp only [hz, ↓reduceIte]
        exact tot.ret ⟨rfl, h, fun _ _ => rfl⟩
  · simp only [q_law h ok, Option.bind_some, hl, ↓reduceIte]
    exact tot.ret ⟨rfl, h, fun _ _ => rfl⟩
end KOPS
