/-! The model's ands and ors. -/
section MROWma
variable {f : Nat → Int32} {n : Nat} {o : Nat} {ru : Mem → Nat → Option (Int32 × Mem)}
theorem ma_e {M : Mem} {e : Nat × Nat} (h : ME f n M e) (N' : Nat) : f_X11_ands_h4 ru 250 (N' + 1) M = some (0, M) := by
  unfold f_X11_ands_h4
  rw [if_neg h.ne]
theorem ma_lp (hb : ∀ k, k < 300 → ∃ q, q < 256 ∧ f k = nI q) {g : Nat → Pr} {b : Nat} (hS : SM f n ru g o) (hg : ∀ p, p ≤ n → POk n p b true (g p)) {X : List Nat} (m : Nat) {N' q : Nat} {M : Mem} {Y : List Nat} (hm : n < m + sk f n q) (hN : m < N') (h : MA f n M q o (X ++ Y)) (hC : (X ++ Y).length ≤ sk f n q) : tot (f_X11_ands_h4 ru 250 N' M) (fun _ M' => MX f n o X (pLp (kK f n) (kN f n) g 313 313 10034 10034 m (sk f n q) Y) M' ∧ NF M M') := by
  induction m generalizing N' q M Y with
  | zero => have := sk_le f h.le.1; omega
  | succ m ih =>
    obtain ⟨N', rfl⟩ : ∃ k, N' = k + 2 := ⟨N' - 2, by omega⟩
    have hn := h.le
    have hsq := sk_le f hn.1
    have hpp := sk_sk f n q
    unfold f_X11_ands_h4 pLp
    rw [if_pos h.ok, a_isWord hb h 13 (W := [1, 14, 4]) rfl (by decide +kernel), Option.bind_some]
    have h1 := h.mv hsq.2
    generalize sk f n q = p at h1 hsq hpp hm hC ⊢
    dsimp only
    by_cases hk : kK f n p = 313
    · rw [if_pos (Or.inl hk), decide_eq_true (show kK f n p = 300 + 13 from hk), if_neg (show ¬ b2 true = 0 by decide)]
      refine (a_skip hb h1 (by omega)).bd (fun r M2 h2 => ?_)
      obtain ⟨h2, hf2⟩ := h2
      have hkE := kE_gt (f := f) (wk_E hb hn.2 (p := p) (by omega)).1
      have hkN := sk_le f hkE.2
      have hok := hg (kN f n p) hkN.2
      dsimp only
      refine (hS.1 M2 _ _ h2 (by omega)).bd (fun r M3 h3 => ?_)
      obtain ⟨h3, hf3⟩ := h3
      have h3 : MX f n o (X ++ Y) (g (kN f n p)) M3 := h3
      have hkN : kE f n p ≤ kN f n p ∧ kN f n p ≤ n := hkN
      have hf03 : NF M M3 := ((NF.u (by omega)).tr hf2).tr hf3
      dsimp only
      cases hgx : g (kN f n p) with
      | inl e =>
        rw [hgx] at h3
        have h3' : ME f n M3 e := h3
        rw [e_tells h3', Option.bind_some]
        dsimp only
        rw [ma_e h3']
        exact tot.ret ⟨h3', hf03⟩
      | inr y =>
        obtain ⟨r, Z⟩ := y
        rw [hgx] at h3 hok
        obtain ⟨q3, hq3, h3'⟩ : ∃ q, sk f n q = r ∧ MA f n M3 q o (X ++ Y ++ Z) := h3
        have hZ : Gd n (kN f n p) b true r Z := hok
        have hz := hZ.1
        have hl : (X ++ Y ++ Z).length + 1 ≤ r := by rw [List.length_append]; omega
        refine (a_tells h3' (by omega) 10034).bd (fun r4 M4 h4 => ?_)
        obtain ⟨h4, hf4⟩ := h4
        dsimp only
        have e1 : X ++ (Y ++ Z ++ [if kK f n p = 313 then 10034 else 10034]) = X ++ Y ++ Z ++ [10034] := by rw [if_pos hk]; simp only [List.append_assoc]
        have := ih (q := q3) (N' := N' + 1) (M := M4) (Y := Y ++ Z ++ [if kK f n p = 313 then 10034 else 10034]) (by rw [hq3]; omega) (by omega) (by rw [e1]; exact h4) (by rw [e1, hq3, List.length_append]; simp only [List.length_cons, List.length_nil]; omega)
        rw [hq3] at this
        exact this.mono (fun r5 M5 h5 => ⟨h5.1, (hf03.tr hf4).tr h5.2⟩)
    · rw [if_neg (show ¬ (kK f n p = 313 ∨ kK f n p = 313) from fun z => hk (z.elim id id)), decide_eq_false (show ¬ kK f n p = 300 + 13 from hk), if_pos (show b2 false = 0 from rfl)]
      exact tot.ret ⟨⟨p, hpp, h1⟩, .u (by omega)⟩
theorem ma_m (hb : ∀ k, k < 300 → ∃ q, q < 256 ∧ f k = nI q) {g : Nat → Pr} {b : Nat} (hS : SM f n ru g o) (hg : ∀ p, p ≤ n → POk n p b true (g p)) : SM f n (f_X11_ands ru) (fun p => pB (g p) (pLp (kK f n) (kN f n) g 313 313 10034 10034 301)) o := by
  refine ⟨fun M q X h hC => ?_, fun M e h => ?_⟩
  · have hn := h.le
    have hsq := sk_le f hn.1
    unfold f_X11_ands
    have hok := hg _ hsq.2
    refine (hS.1 M q X h hC).bd (fun r M1 h1 => ?_)
    obtain ⟨h1, hf1⟩ := h1
    dsimp only
    cases hgx : g (sk f n q) with
    | inl e =>
      rw [hgx] at h1
      have h1' : ME f n M1 e := h1
      rw [show FU = FU - 1 + 1 from by decide, ma_e h1']
      exact tot.ret ⟨h1', hf1⟩
    | inr y =>
      obtain ⟨r, Y⟩ := y
      rw [hgx] at h1 hok
      obtain ⟨q1, hq1, h1'⟩ : ∃ q, sk f n q = r ∧ MA f n M1 q o (X ++ Y) := h1
      have hY : Gd n (sk f n q) b true r Y := hok
      have hy := hY.1
      have := ma_lp hb hS hg (X := X) 301 (N' := FU) (by omega) (by decide) h1' (by rw [hq1, List.length_append]; omega)
      rw [hq1] at this
      exact this.mono (fun r3 M3 h3 => ⟨h3.1, hf1.tr h3.2⟩)
  · unfold f_X11_ands
    refine (hS.2 M e h).bd (fun r M1 h1 => ?_)
    dsimp only
    rw [show FU = FU - 1 + 1 from by decide, ma_e h1.1]
    exact tot.ret h1
end MROWma
section MROWmo
variable {f : Nat → Int32} {n : Nat} {o : Nat} {ru : Mem → Nat → Option (Int32 × Mem)}
theorem mo_e {M : Mem} {e : Nat × Nat} (h : ME f n M e) (N' : Nat) : f_X11_ors_h4 ru 250 (N' + 1) M = some (0, M) := by
  unfold f_X11_ors_h4
  rw [if_neg h.ne]
theorem mo_lp (hb : ∀ k, k < 300 → ∃ q, q < 256 ∧ f k = nI q) {g : Nat → Pr} {b : Nat} (hS : SM f n ru g o) (hg : ∀ p, p ≤ n → POk n p b true (g p)) {X : List Nat} (m : Nat) {N' q : Nat} {M : Mem} {Y : List Nat} (hm : n < m + sk f n q) (hN : m < N') (h : MA f n M q o (X ++ Y)) (hC : (X ++ Y).length ≤ sk f n q) : tot (f_X11_ors_h4 ru 250 N' M) (fun _ M' => MX f n o X (pLp (kK f n) (kN f n) g 312 312 10035 10035 m (sk f n q) Y) M' ∧ NF M M') := by
  induction m generalizing N' q M Y with
  | zero => have := sk_le f h.le.1; omega
  | succ m ih =>
    obtain ⟨N', rfl⟩ : ∃ k, N' = k + 2 := ⟨N' - 2, by omega⟩
    have hn := h.le
    have hsq := sk_le f hn.1
    have hpp := sk_sk f n q
    unfold f_X11_ors_h4 pLp
    rw [if_pos h.ok, a_isWord hb h 12 (W := [15, 18]) rfl (by decide +kernel), Option.bind_some]
    have h1 := h.mv hsq.2
    generalize sk f n q = p at h1 hsq hpp hm hC ⊢
    dsimp only
    by_cases hk : kK f n p = 312
    · rw [if_pos (Or.inl hk), decide_eq_true (show kK f n p = 300 + 12 from hk), if_neg (show ¬ b2 true = 0 by decide)]
      refine (a_skip hb h1 (by omega)).bd (fun r M2 h2 => ?_)
      obtain ⟨h2, hf2⟩ := h2
      have hkE := kE_gt (f := f) (wk_E hb hn.2 (p := p) (by omega)).1
      have hkN := sk_le f hkE.2
      have hok := hg (kN f n p) hkN.2
      dsimp only
      refine (hS.1 M2 _ _ h2 (by omega)).bd (fun r M3 h3 => ?_)
      obtain ⟨h3, hf3⟩ := h3
      have h3 : MX f n o (X ++ Y) (g (kN f n p)) M3 := h3
      have hkN : kE f n p ≤ kN f n p ∧ kN f n p ≤ n := hkN
      have hf03 : NF M M3 := ((NF.u (by omega)).tr hf2).tr hf3
      dsimp only
      cases hgx : g (kN f n p) with
      | inl e =>
        rw [hgx] at h3
        have h3' : ME f n M3 e := h3
        rw [e_tells h3', Option.bind_some]
        dsimp only
        rw [mo_e h3']
        exact tot.ret ⟨h3', hf03⟩
      | inr y =>
        obtain ⟨r, Z⟩ := y
        rw [hgx] at h3 hok
        obtain ⟨q3, hq3, h3'⟩ : ∃ q, sk f n q = r ∧ MA f n M3 q o (X ++ Y ++ Z) := h3
        have hZ : Gd n (kN f n p) b true r Z := hok
        have hz := hZ.1
        have hl : (X ++ Y ++ Z).length + 1 ≤ r := by rw [List.length_append]; omega
        refine (a_tells h3' (by omega) 10035).bd (fun r4 M4 h4 => ?_)
        obtain ⟨h4, hf4⟩ := h4
        dsimp only
        have e1 : X ++ (Y ++ Z ++ [if kK f n p = 312 then 10035 else 10035]) = X ++ Y ++ Z ++ [10035] := by rw [if_pos hk]; simp only [List.append_assoc]
        have := ih (q := q3) (N' := N' + 1) (M := M4) (Y := Y ++ Z ++ [if kK f n p = 312 then 10035 else 10035]) (by rw [hq3]; omega) (by omega) (by rw [e1]; exact h4) (by rw [e1, hq3, List.length_append]; simp only [List.length_cons, List.length_nil]; omega)
        rw [hq3] at this
        exact this.mono (fun r5 M5 h5 => ⟨h5.1, (hf03.tr hf4).tr h5.2⟩)
    · rw [if_neg (show ¬ (kK f n p = 312 ∨ kK f n p = 312) from fun z => hk (z.elim id id)), decide_eq_false (show ¬ kK f n p = 300 + 12 from hk), if_pos (show b2 false = 0 from rfl)]
      exact tot.ret ⟨⟨p, hpp, h1⟩, .u (by omega)⟩
theorem mo_m (hb : ∀ k, k < 300 → ∃ q, q < 256 ∧ f k = nI q) {g : Nat → Pr} {b : Nat} (hS : SM f n ru g o) (hg : ∀ p, p ≤ n → POk n p b true (g p)) : SM f n (f_X11_ors ru) (fun p => pB (g p) (pLp (kK f n) (kN f n) g 312 312 10035 10035 301)) o := by
  refine ⟨fun M q X h hC => ?_, fun M e h => ?_⟩
  · have hn := h.le
    have hsq := sk_le f hn.1
    unfold f_X11_ors
    have hok := hg _ hsq.2
    refine (hS.1 M q X h hC).bd (fun r M1 h1 => ?_)
    obtain ⟨h1, hf1⟩ := h1
    dsimp only
    cases hgx : g (sk f n q) with
    | inl e =>
      rw [hgx] at h1
      have h1' : ME f n M1 e := h1
      rw [show FU = FU - 1 + 1 from by decide, mo_e h1']
      exact tot.ret ⟨h1', hf1⟩
    | inr y =>
      obtain ⟨r, Y⟩ := y
      rw [hgx] at h1 hok
      obtain ⟨q1, hq1, h1'⟩ : ∃ q, sk f n q = r ∧ MA f n M1 q o (X ++ Y) := h1
      have hY : Gd n (sk f n q) b true r Y := hok
      have hy := hY.1
      have := mo_lp hb hS hg (X := X) 301 (N' := FU) (by omega) (by decide) h1' (by rw [hq1, List.length_append]; omega)
      rw [hq1] at this
      exact this.mono (fun r3 M3 h3 => ⟨h3.1, hf1.tr h3.2⟩)
  · unfold f_X11_ors
    refine (hS.2 M e h).bd (fun r M1 h1 => ?_)
    dsimp only
    rw [show FU = FU - 1 + 1 from by decide, mo_e h1.1]
    exact tot.ret h1
end MROWmo
