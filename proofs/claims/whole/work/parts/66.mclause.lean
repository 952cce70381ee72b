/-! The model's clause. -/
section MCL
variable {f : Nat → Int32} {n : Nat}
def pCl (f : Nat → Int32) (n p : Nat) : Pr := pB (pSum (kK f n) (kV f n) (kN f n) 6 (kN f n p)) fun q Y => if kK f n q = 311 then pB (pCnd (kK f n) (kN f n) (pCm (kK f n) (kV f n) (kN f n) 6) (kN f n q)) fun r Z => (if kK f n r = 59 then .inr (kN f n r, Y ++ Z ++ [9733 + kK f n p]) else .inl (1, r)) else if kK f n q = 59 then .inr (kN f n q, Y ++ [9731 + kK f n p]) else .inl (1, q)
theorem pLaw_cl (m p : Nat) (X : List Nat) : pLaw (kK f n) (kV f n) (kN f n) (m + 1) p X = if kK f n p = 401 then .inr (p, X) else if kK f n p = 309 ∨ kK f n p = 310 then (if m = 0 then .inl (3, p) else pB (pCl f n p) fun q Y => pLaw (kK f n) (kV f n) (kN f n) m q (X ++ Y)) else .inl (1, p) := by
  conv => lhs; unfold pLaw
  by_cases h1 : kK f n p = 401
  · rw [if_pos h1, if_pos h1]
  · rw [if_neg h1, if_neg h1]
    by_cases h2 : kK f n p = 309 ∨ kK f n p = 310
    · rw [if_pos h2, if_pos h2]
      by_cases h3 : m = 0
      · rw [if_pos h3, if_pos h3]
      · rw [if_neg h3, if_neg h3]
        unfold pCl
        cases hs : pSum (kK f n) (kV f n) (kN f n) 6 (kN f n p) with
        | inl e => rfl
        | inr y =>
          obtain ⟨q, Y⟩ := y
          show (if kK f n q = 311 then _ else _ : Pr) = pB (if kK f n q = 311 then _ else _ : Pr) _
          by_cases h4 : kK f n q = 311
          · rw [if_pos h4, if_pos h4]
            cases hc : pCnd (kK f n) (kN f n) (pCm (kK f n) (kV f n) (kN f n) 6) (kN f n q) with
            | inl e => rfl
            | inr z =>
              obtain ⟨r, Z⟩ := z
              show (if kK f n r = 59 then _ else _ : Pr) = pB (if kK f n r = 59 then _ else _ : Pr) _
              by_cases h5 : kK f n r = 59
              · rw [if_pos h5, if_pos h5]; rfl
              · rw [if_neg h5, if_neg h5]; rfl
          · rw [if_neg h4, if_neg h4]
            by_cases h5 : kK f n q = 59
            · rw [if_pos h5, if_pos h5]; rfl
            · rw [if_neg h5, if_neg h5]; rfl
    · rw [if_neg h2, if_neg h2]
def clc (x2 x4 : Int32) : Nat := if x4 = 0 then (if x2 = 0 then 10041 else 10040) else (if x2 = 0 then 10043 else 10042)
theorem cl124_e {M : Mem} {e : Nat × Nat} (h : ME f n M e) (i1 x2 x4 : Int32) : f_X11_clause_b124 250 i1 x2 x4 M = some (0, M) := by
  have e165 : ∀ s1, f_X11_clause_b165 250 i1 250 s1 M = some (0, M) := fun s1 => by
    unfold f_X11_clause_b165
    rw [e_tells h]; rfl
  unfold f_X11_clause_b124
  rw [e_sign h, Option.bind_some]
  dsimp only
  rw [e165, e165, e165, e165, ite_self, ite_self]
theorem cl124 (hb : ∀ k, k < 300 → ∃ q, q < 256 ∧ f k = nI q) {M : Mem} {q : Nat} {X : List Nat} (h : MA f n M q 0 X) (hX : X.length < 400) (i1 x2 x4 : Int32) : tot (f_X11_clause_b124 250 i1 x2 x4 M) (fun _ M' => (if kK f n (sk f n q) = 59 then MA f n M' (sk f n q + 1) 0 (X ++ [clc x2 x4]) else ME f n M' (1, sk f n q)) ∧ NF M M') := by
  unfold f_X11_clause_b124
  refine (a_sign hb h s59).bd (fun r M1 h1 => ?_)
  obtain ⟨h1, hf1⟩ := h1
  dsimp only
  have e165 : (if x4 = 0 then (if x2 = 0 then f_X11_clause_b165 250 i1 250 10041 M1 else f_X11_clause_b165 250 i1 250 10040 M1) else (if x2 = 0 then f_X11_clause_b165 250 i1 250 10043 M1 else f_X11_clause_b165 250 i1 250 10042 M1)) = f_X11_clause_b165 250 i1 250 (nI (clc x2 x4)) M1 := by
    unfold clc
    by_cases h4 : x4 = 0
    · rw [if_pos h4, if_pos h4]
      by_cases h2 : x2 = 0
      · rw [if_pos h2, if_pos h2]; rfl
      · rw [if_neg h2, if_neg h2]; rfl
    · rw [if_neg h4, if_neg h4]
      by_cases h2 : x2 = 0
      · rw [if_pos h2, if_pos h2]; rfl
      · rw [if_neg h2, if_neg h2]; rfl
  rw [e165]
  unfold f_X11_clause_b165
  by_cases hk : kK f n (sk f n q) = 59
  · simp only [if_pos hk] at h1 ⊢
    exact (a_tells h1 hX _).bd (fun r M2 h2 => tot.ret ⟨h2.1, hf1.tr h2.2⟩)
  · simp only [if_neg hk] at h1 ⊢
    rw [e_tells h1, Option.bind_some]
    exact tot.ret ⟨h1, hf1⟩
theorem cl66 (hb : ∀ k, k < 300 → ∃ q, q < 256 ∧ f k = nI q) {M : Mem} {p : Nat} {X : List Nat} (h : MA f n M p 0 X) (hC : X.length ≤ p) (hk : kK f n p = 309 ∨ kK f n p = 310) (i1 : Int32) : tot (f_X11_clause_b66 250 i1 (b2 (decide (kK f n p = 309))) M) (fun _ M' => MX f n 0 X (pCl f n p) M' ∧ NF M M') := by
  have hn := h.le
  have hw := wk_E hb hn.2 (p := p) (by omega)
  have hkE := kE_gt (f := f) hw.1
  have hkN := sk_le f hkE.2
  have hkN' : kE f n p ≤ kN f n p ∧ kN f n p ≤ n := hkN
  have hok := sum_ok (V := kV f n) (tk_ok f n) 6 hkN'.2
  have hc1 : clc (b2 (decide (kK f n p = 309))) 0 = 9731 + kK f n p := by
    rcases hk with hk | hk <;> rw [hk] <;> rfl
  have hc2 : clc (b2 (decide (kK f n p = 309))) 1 = 9733 + kK f n p := by
    rcases hk with hk | hk <;> rw [hk] <;> rfl
  generalize b2 (decide (kK f n p = 309)) = x2 at hc1 hc2 ⊢
  unfold f_X11_clause_b66 pCl
  rw [if_pos h.ok]
  refine (a_skip hb h (by omega)).bd (fun r M1 h1 => ?_)
  obtain ⟨h1, hf1⟩ := h1
  dsimp only
  refine ((sum_m hb 6 (by decide) (by decide)).1 M1 _ _ h1 (by omega)).bd (fun r M2 h2 => ?_)
  obtain ⟨h2, hf2⟩ := h2
  have h2 : MX f n 0 X (pSum (kK f n) (kV f n) (kN f n) 6 (kN f n p)) M2 := h2
  dsimp only
  cases hq : pSum (kK f n) (kV f n) (kN f n) 6 (kN f n p) with
  | inl e =>
    rw [hq] at h2
    have h2' : ME f n M2 e := h2
    rw [if_neg h2'.ne]
    unfold f_X11_clause_b108 f_X11_clause_b109
    rw [if_pos rfl, cl124_e h2']
    exact tot.ret ⟨h2', hf1.tr hf2⟩
  | inr y =>
    obtain ⟨q, Y⟩ := y
    rw [hq] at h2 hok
    obtain ⟨q2, hq2, h2'⟩ : ∃ z, sk f n z = q ∧ MA f n M2 z 0 (X ++ Y) := h2
    have hY : Gd n (kN f n p) 21 false q Y := hok
    have hy := hY.1
    have hlen : (X ++ Y).length ≤ q := by rw [List.length_append]; omega
    have hqq : sk f n q = q := by rw [← hq2]; exact sk_sk f n q2
    rw [if_pos h2'.ok, a_isWord hb h2' 11 (W := [9, 6]) rfl (by decide +kernel), Option.bind_some, hq2]
    have h3 := h2'.mv (show q ≤ n by omega)
    have hf3 : NF M (mU M2 250 4 (nI q)) := (hf1.tr hf2).tr (.u (by omega))
    generalize mU M2 250 4 (nI q) = M3 at h3 hf3 ⊢
    dsimp only
    show tot _ (fun _ M' => MX f n 0 X (if kK f n q = 311 then pB (pCnd (kK f n) (kN f n) (pCm (kK f n) (kV f n) (kN f n) 6) (kN f n q)) fun r Z => (if kK f n r = 59 then .inr (kN f n r, Y ++ Z ++ [9733 + kK f n p]) else .inl (1, r)) else if kK f n q = 59 then .inr (kN f n q, Y ++ [9731 + kK f n p]) else .inl (1, q)) M' ∧ NF M M')
    by_cases h5 : kK f n q = 311
    · rw [if_pos h5, decide_eq_true (show kK f n q = 300 + 11 from h5), if_neg (show ¬ b2 true = 0 by decide)]
      unfold f_X11_clause_b109
      rw [if_neg (by decide)]
      have hw2 := wk_E hb hn.2 (p := q) (by omega)
      have hkE2 := kE_gt (f := f) hw2.1
      have hkN2 := sk_le f hkE2.2
      have hkN2' : kE f n q ≤ kN f n q ∧ kN f n q ≤ n := hkN2
      have hok2 := cnd_ok (tk_ok f n) (b := 22) (fun p hp => cm_ok (V := kV f n) (tk_ok f n) 6 hp) hkN2'.2
      refine (a_skip hb h3 (by omega)).bd (fun r M4 h4 => ?_)
      obtain ⟨h4, hf4⟩ := h4
      dsimp only
      have hS := ors_m hb (cm_m (f := f) (n := n) hb 6 (d := DP) (by decide) (by decide)) (fun p hp => cm_ok (V := kV f n) (tk_ok f n) 6 hp)
      refine (hS.1 M4 _ _ h4 (by omega)).bd (fun r M5 h6 => ?_)
      obtain ⟨h6, hf5⟩ := h6
      have h6 : MX f n 0 (X ++ Y) (pCnd (kK f n) (kN f n) (pCm (kK f n) (kV f n) (kN f n) 6) (kN f n q)) M5 := h6
      dsimp only
      cases hr : pCnd (kK f n) (kN f n) (pCm (kK f n) (kV f n) (kN f n) 6) (kN f n q) with
      | inl e =>
        rw [hr] at h6
        have h6' : ME f n M5 e := h6
        rw [cl124_e h6']
        exact tot.ret ⟨h6', (hf3.tr hf4).tr hf5⟩
      | inr z =>
        obtain ⟨r2, Z⟩ := z
        rw [hr] at h6 hok2
        obtain ⟨q5, hq5, h6'⟩ : ∃ z, sk f n z = r2 ∧ MA f n M5 z 0 (X ++ Y ++ Z) := h6
        have hZ : Gd n (kN f n q) 24 true r2 Z := hok2
        have hz := hZ.1
        refine (cl124 hb h6' (by rw [List.length_append]; omega) i1 x2 1).mono (fun r M6 h7 => ⟨?_, ((hf3.tr hf4).tr hf5).tr h7.2⟩)
        have h7' := h7.1
        rw [hq5, hc2] at h7'
        show MX f n 0 X (if kK f n r2 = 59 then _ else _ : Pr) M6
        by_cases h8 : kK f n r2 = 59
        · rw [if_pos h8] at h7' ⊢
          refine ⟨r2 + 1, (sg_e hb hn.2 s59 h8).2.2.symm, ?_⟩
          rw [← List.append_assoc, ← List.append_assoc]
          exact h7'
        · rw [if_neg h8] at h7' ⊢
          exact h7'
    · rw [if_neg h5, decide_eq_false (show ¬ kK f n q = 300 + 11 from h5), if_pos (show b2 false = 0 from rfl)]
      unfold f_X11_clause_b108 f_X11_clause_b109
      rw [if_pos rfl]
      refine (cl124 hb h3 (by omega) i1 x2 0).mono (fun r M6 h7 => ⟨?_, hf3.tr h7.2⟩)
      have h7' := h7.1
      rw [hqq, hc1] at h7'
      by_cases h8 : kK f n q = 59
      · rw [if_pos h8] at h7' ⊢
        refine ⟨q + 1, (sg_e hb hn.2 s59 h8).2.2.symm, ?_⟩
        rw [← List.append_assoc]
        exact h7'
      · rw [if_neg h8] at h7' ⊢
        exact h7'
theorem cl66_e {M : Mem} {e : Nat × Nat} (h : ME f n M e) (i1 x2 : Int32) : f_X11_clause_b66 250 i1 x2 M = some (0, M) := by
  unfold f_X11_clause_b66
  rw [if_neg h.ne]
theorem cl_m (hb : ∀ k, k < 300 → ∃ q, q < 256 ∧ f k = nI q) {M : Mem} {p : Nat} {X : List Nat} (h : MA f n M p 0 X) (hp : sk f n p = p) (hC : X.length ≤ p) {c : Nat} (hc : c < 90000) : tot (f_X11_clause M 250 (nI c)) (fun _ M' => MX f n 0 X (if kK f n p = 309 ∨ kK f n p = 310 then (if c = 12 then .inl (3, p) else pCl f n p) else .inl (1, p)) M' ∧ NF M M') := by
  unfold f_X11_clause
  rw [a_word hb h hp 9 (W := [12, 9, 6, 20]) rfl (by decide +kernel), Option.bind_some]
  dsimp only
  rw [a_word hb h hp 10 (W := [20, 23, 9, 19, 20]) rfl (by decide +kernel), Option.bind_some]
  dsimp only
  have e51 : (kK f n p = 309 ∨ kK f n p = 310) → tot (f_X11_clause_b51 250 (nI c) (b2 (decide (kK f n p = 300 + 9))) M) (fun _ M' => MX f n 0 X (if c = 12 then .inl (3, p) else pCl f n p) M' ∧ NF M M') := fun hk => by
    unfold f_X11_clause_b51
    by_cases h12 : c = 12
    · rw [if_pos (show nI c = 12 by rw [h12]; rfl), if_pos h12]
      refine (a_wrongq h (c := 3) (by decide) (by decide)).bd (fun r M1 h1 => ?_)
      dsimp only
      rw [cl66_e h1.1]
      exact tot.ret ⟨h1.1, h1.2.1⟩
    · rw [if_neg (show ¬ nI c = 12 from fun z => h12 ((i_eq (b := 12) (by omega) (by decide)).mp z)), if_neg h12]
      exact cl66 hb h hC hk (nI c)
  by_cases h9 : kK f n p = 309
  · have e9 := e51 (Or.inl h9)
    rw [decide_eq_true (show kK f n p = 300 + 9 from h9)] at e9 ⊢
    rw [if_neg (show ¬ b2 true = 0 by decide), if_pos (Or.inl h9)]
    exact e9
  · by_cases h10 : kK f n p = 310
    · have e9 := e51 (Or.inr h10)
      rw [decide_eq_false (show ¬ kK f n p = 300 + 9 from h9)] at e9 ⊢
      rw [if_pos (show b2 false = 0 from rfl), decide_eq_true (show kK f n p = 300 + 10 from h10), if_neg (show ¬ b2 true = 0 by decide), if_pos (Or.inr h10)]
      exact e9
    · rw [decide_eq_false (show ¬ kK f n p = 300 + 9 from h9), if_pos (show b2 false = 0 from rfl), decide_eq_false (show ¬ kK f n p = 300 + 10 from h10), if_pos (show b2 false = 0 from rfl), if_neg (show ¬ (kK f n p = 309 ∨ kK f n p = 310) by omega)]
      refine (a_wrongq h (c := 1) (by decide) (by decide)).bd (fun r M1 h1 => ?_)
      dsimp only
      rw [cl66_e h1.1]
      exact tot.ret ⟨h1.1, h1.2.1⟩
theorem k401 (hb : ∀ k, k < 300 → ∃ q, q < 256 ∧ f k = nI q) (hn : n ≤ 300) (p : Nat) : (n ≤ p) ↔ kK f n p = 401 := by
  unfold kK
  by_cases hp : p < n
  · rw [if_pos hp]
    refine ⟨fun z => by omega, fun z => ?_⟩
    exfalso
    split at z
    · omega
    · split at z
      · have := wds_18 (ltr f p (kE f n p)); omega
      · obtain ⟨a, ha, ea⟩ := hb p (by omega)
        rw [ea, i_cl (by omega)] at z; omega
  · rw [if_neg hp]
    exact ⟨fun _ => rfl, fun _ => by omega⟩
theorem cl_len {p : Nat} (hp : p ≤ n) (h1 : kK f n p ≠ 401) {r : Nat} {Y : List Nat} (h : pCl f n p = .inr (r, Y)) : Y.length + p ≤ r := by
  unfold pCl at h
  have hpn := tk_ok f n p hp h1
  have hok := sum_ok (V := kV f n) (tk_ok f n) 6 hpn.2
  cases hs : pSum (kK f n) (kV f n) (kN f n) 6 (kN f n p) with
  | inl e => rw [hs] at h; cases h
  | inr y =>
    obtain ⟨q, Y1⟩ := y
    rw [hs] at h hok
    have hY : Gd n (kN f n p) 21 false q Y1 := hok
    have hy := hY.1
    have h : (if kK f n q = 311 then pB (pCnd (kK f n) (kN f n) (pCm (kK f n) (kV f n) (kN f n) 6) (kN f n q)) fun r Z => (if kK f n r = 59 then .inr (kN f n r, Y1 ++ Z ++ [9733 + kK f n p]) else .inl (1, r)) else if kK f n q = 59 then .inr (kN f n q, Y1 ++ [9731 + kK f n p]) else .inl (1, q) : Pr) = .inr (r, Y) := h
    by_cases h4 : kK f n q = 311
    · rw [if_pos h4] at h
      have hqn := tk_ok f n q hy.2.1 (by omega)
      have hok2 := cnd_ok (tk_ok f n) (b := 22) (fun p hp => cm_ok (V := kV f n) (tk_ok f n) 6 hp) hqn.2
      cases hc : pCnd (kK f n) (kN f n) (pCm (kK f n) (kV f n) (kN f n) 6) (kN f n q) with
      | inl e => rw [hc] at h; cases h
      | inr z =>
        obtain ⟨r2, Z⟩ := z
        rw [hc] at h hok2
        have hZ : Gd n (kN f n q) 24 true r2 Z := hok2
        have hz := hZ.1
        have h : (if kK f n r2 = 59 then .inr (kN f n r2, Y1 ++ Z ++ [9733 + kK f n p]) else .inl (1, r2) : Pr) = .inr (r, Y) := h
        by_cases h5 : kK f n r2 = 59
        · rw [if_pos h5] at h
          have hrn := tk_ok f n r2 hz.2.1 (by omega)
          injection h with h
          injection h with ha hb
          rw [← ha, ← hb, List.length_append, List.length_append]; simp only [List.length_cons, List.length_nil]; omega
        · rw [if_neg h5] at h; cases h
    · rw [if_neg h4] at h
      by_cases h5 : kK f n q = 59
      · rw [if_pos h5] at h
        have hrn := tk_ok f n q hy.2.1 (by omega)
        injection h with h
        injection h with ha hb
        rw [← ha, ← hb, List.length_append]; simp only [List.length_cons, List.length_nil]; omega
      · rw [if_neg h5] at h; cases h
theorem lw_lp (hb : ∀ k, k < 300 → ∃ q, q < 256 ∧ f k = nI q) {i1 : Int32} {Q : Int32 → Mem → Prop} (m : Nat) {N' c p : Nat} {M : Mem} {X : List Nat} (hc : m + c = 12) (hN : m + 1 < N') (h : MA f n M p 0 X) (hp : sk f n p = p) (hC : X.length ≤ p)
    (hP : ∀ M' q r Y, pLaw (kK f n) (kV f n) (kN f n) (m + 1) p X = .inr (r, Y) → MA f n M' q 0 Y → NF M M' → tot (f_X11_law_b121 250 i1 M') Q)
    (hF : ∀ M' e, pLaw (kK f n) (kV f n) (kN f n) (m + 1) p X = .inl e → ME f n M' e → NF M M' → tot (f_X11_law_b121 250 i1 M') Q) : tot (f_X11_law_h88 250 i1 N' (nI c) M) Q := by
  have fe : ∀ N' x M e, ME f n M e → f_X11_law_h88 250 i1 (N' + 1) x M = f_X11_law_b121 250 i1 M := fun N' x M e h => by
    unfold f_X11_law_h88
    rw [if_neg h.ne]
  induction m generalizing N' c p M X with
  | zero =>
    obtain ⟨N', rfl⟩ : ∃ k, N' = k + 2 := ⟨N' - 2, by omega⟩
    have hn := h.le
    unfold f_X11_law_h88
    rw [if_pos h.ok, h.1.1, h.2.1.1]
    rw [pLaw_cl] at hP hF
    by_cases h1 : n ≤ p
    · rw [if_pos (i_le h1 (by omega))]
      rw [if_pos ((k401 hb hn.2 p).mp h1)] at hP
      exact hP M p p X rfl h .rf
    · rw [if_neg (i_nle (by omega) (by omega))]
      rw [if_neg (fun z => h1 ((k401 hb hn.2 p).mpr z))] at hF
      refine (cl_m hb h hp hC (c := c) (by omega)).bd (fun r M1 h2 => ?_)
      obtain ⟨h2, hf2⟩ := h2
      dsimp only
      by_cases h9 : kK f n p = 309 ∨ kK f n p = 310
      · rw [if_pos h9, if_pos (show c = 12 by omega)] at h2
        rw [if_pos h9, if_pos rfl] at hF
        have h2' : ME f n M1 (3, p) := h2
        refine (e_blanks h2').bd (fun r M2 h3 => ?_)
        dsimp only
        rw [fe N' _ M2 _ h3.1]
        exact hF M2 _ rfl h3.1 (hf2.tr h3.2)
      · rw [if_neg h9] at h2 hF
        have h2' : ME f n M1 (1, p) := h2
        refine (e_blanks h2').bd (fun r M2 h3 => ?_)
        dsimp only
        rw [fe N' _ M2 _ h3.1]
        exact hF M2 _ rfl h3.1 (hf2.tr h3.2)
  | succ m ih =>
    obtain ⟨N', rfl⟩ : ∃ k, N' = k + 2 := ⟨N' - 2, by omega⟩
    have hn := h.le
    unfold f_X11_law_h88
    rw [if_pos h.ok, h.1.1, h.2.1.1]
    rw [pLaw_cl] at hP hF
    by_cases h1 : n ≤ p
    · rw [if_pos (i_le h1 (by omega))]
      rw [if_pos ((k401 hb hn.2 p).mp h1)] at hP
      exact hP M p p X rfl h .rf
    · rw [if_neg (i_nle (by omega) (by omega))]
      rw [if_neg (fun z => h1 ((k401 hb hn.2 p).mpr z))] at hF hP
      refine (cl_m hb h hp hC (c := c) (by omega)).bd (fun r M1 h2 => ?_)
      obtain ⟨h2, hf2⟩ := h2
      dsimp only
      by_cases h9 : kK f n p = 309 ∨ kK f n p = 310
      · rw [if_pos h9, if_neg (show ¬ c = 12 by omega)] at h2
        rw [if_pos h9, if_neg (Nat.succ_ne_zero m)] at hF hP
        cases hq : pCl f n p with
        | inl e =>
          rw [hq] at h2 hF
          have h2' : ME f n M1 e := h2
          refine (e_blanks h2').bd (fun r M2 h3 => ?_)
          dsimp only
          rw [fe N' _ M2 _ h3.1]
          exact hF M2 _ rfl h3.1 (hf2.tr h3.2)
        | inr y =>
          obtain ⟨r, Y⟩ := y
          rw [hq] at h2 hF hP
          obtain ⟨q2, hq2, h2'⟩ : ∃ z, sk f n z = r ∧ MA f n M1 z 0 (X ++ Y) := h2
          refine (a_blanks h2').bd (fun r5 M2 h3 => ?_)
          obtain ⟨h3, hf3⟩ := h3
          rw [hq2] at h3
          dsimp only
          rw [← nI_succ]
          have hlo : (X ++ Y).length ≤ r := by
            have := cl_len hn.1 (fun z => h1 ((k401 hb hn.2 p).mpr z)) hq
            rw [List.length_append]; omega
          exact ih (c := c + 1) (p := r) (X := X ++ Y) (by omega) (by omega) h3 (by rw [← hq2]; exact sk_sk f n q2) hlo (fun M' q r' Y' g1 g2 g3 => hP M' q r' Y' g1 g2 ((hf2.tr hf3).tr g3)) (fun M' e g1 g2 g3 => hF M' e g1 g2 ((hf2.tr hf3).tr g3))
      · rw [if_neg h9] at h2 hF
        have h2' : ME f n M1 (1, p) := h2
        refine (e_blanks h2').bd (fun r M2 h3 => ?_)
        dsimp only
        rw [fe N' _ M2 _ h3.1]
        exact hF M2 _ rfl h3.1 (hf2.tr h3.2)
end MCL
