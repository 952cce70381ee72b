/-! The model's unit. -/
def mk (x : Nat) : Nat := if x = 40 then 0 else 9709 + x
section MUNIT
variable {f : Nat → Int32} {n : Nat} {M : Mem} {q o : Nat} {X : List Nat} {e : Nat × Nat} {rs : Mem → Nat → Option (Int32 × Mem)}
theorem s41 : sgn 41 := by unfold sgn; decide
theorem s40 : sgn 40 := by unfold sgn; decide
theorem s44 : sgn 44 := by unfold sgn; decide
theorem s59 : sgn 59 := by unfold sgn; decide
theorem s91 : sgn 91 := by unfold sgn; decide
theorem s93 : sgn 93 := by unfold sgn; decide
theorem s42 : sgn 42 := by unfold sgn; decide
theorem s47 : sgn 47 := by unfold sgn; decide
theorem s43 : sgn 43 := by unfold sgn; decide
theorem s45 : sgn 45 := by unfold sgn; decide
theorem s60 : sgn 60 := by unfold sgn; decide
theorem s61 : sgn 61 := by unfold sgn; decide
theorem s62 : sgn 62 := by unfold sgn; decide
theorem ub193_e (h : ME f n M e) (x : Int32) : tot (f_X11_unit_b193 rs 250 x M) (fun _ M' => ME f n M' e ∧ NF M M') := by
  unfold f_X11_unit_b193
  rw [e_sign h, Option.bind_some]
  dsimp only
  split
  · exact tot.ret ⟨h.op _, .u (by omega)⟩
  · rw [e_tells (h.op _)]
    exact tot.ret ⟨h.op _, .u (by omega)⟩
theorem ub183_e (he : EM f n rs) (h : ME f n M e) (x : Int32) : tot (f_X11_unit_b183 rs 250 x M) (fun _ M' => ME f n M' e ∧ NF M M') := by
  unfold f_X11_unit_b183
  rw [e_sign h, Option.bind_some]
  dsimp only
  refine (he M e h).bd (fun r M1 h1 => ?_)
  exact (ub193_e h1.1 x).mono (fun r M2 h2 => ⟨h2.1, h1.2.tr h2.2⟩)
theorem ut_e (he : EM f n rs) (h : ME f n M e) (x : Int32) : tot (if x = 10024 then f_X11_unit_b183 rs 250 x M else if x = 10025 then f_X11_unit_b183 rs 250 x M else f_X11_unit_b193 rs 250 x M) (fun _ M' => ME f n M' e ∧ NF M M') := by
  split
  · exact ub183_e he h x
  · split
    · exact ub183_e he h x
    · exact ub193_e h x
theorem ub193 (hb : ∀ k, k < 300 → ∃ q, q < 256 ∧ f k = nI q) (h : MA f n M q (o + 1) X) (hX : X.length < 400) {x : Nat} (hx : x < 90000) : tot (f_X11_unit_b193 rs 250 (nI x) M) (fun _ M' => (if kK f n (sk f n q) = 41 then MA f n M' (sk f n q + 1) o (X ++ (if x = 0 then [] else [x])) else ME f n M' (1, sk f n q)) ∧ NF M M') := by
  unfold f_X11_unit_b193
  refine (a_sign hb h s41).bd (fun r M1 h1 => ?_)
  obtain ⟨h1, hf1⟩ := h1
  dsimp only
  by_cases hk : kK f n (sk f n q) = 41
  · rw [if_pos hk] at h1
    simp only [if_pos hk]
    have e5 : M1 250 5 - 1 = nI o := by rw [h1.2.2.1, nI_succ, Int32.add_sub_cancel]
    rw [e5]
    have h2 := h1.op o
    by_cases hz : x = 0
    · rw [hz, if_pos (show nI 0 = 0 from rfl), if_pos rfl, List.append_nil]
      exact tot.ret ⟨h2, hf1.tr (.u (by omega))⟩
    · rw [if_neg (show ¬ nI x = 0 from fun z => hz ((i_eq (b := 0) (by omega) (by decide)).mp z)), if_neg hz]
      exact (a_tells h2 hX x).bd (fun r M2 h3 => tot.ret ⟨h3.1, (hf1.tr (.u (by omega))).tr h3.2⟩)
  · rw [if_neg hk] at h1
    simp only [if_neg hk]
    split
    · exact tot.ret ⟨h1.op _, hf1.tr (.u (by omega))⟩
    · rw [e_tells (h1.op _)]
      exact tot.ret ⟨h1.op _, hf1.tr (.u (by omega))⟩
theorem ub133 (hb : ∀ k, k < 300 → ∃ q, q < 256 ∧ f k = nI q) {g : Option (Nat → Pr)} {b : Nat} (ho : o ≤ 6) (h0 : o = 6 → g = none) (hg : o < 6 → ∃ g', g = some g' ∧ SM f n rs g' (o + 1) ∧ ∀ p, p ≤ n → POk n p b false (g' p)) (he : EM f n rs) (h : MA f n M q o X) (hC : X.length ≤ sk f n q) {x : Nat} (hx : x = 315 ∨ x = 316 ∨ x = 317 ∨ x = 40) : tot (f_X11_unit_b133 rs 250 (nI (mk x)) M) (fun _ M' => MX f n o X (pBk f n g x (sk f n q)) M' ∧ NF M M') := by
  have hn := h.le
  have hsq := sk_le f hn.1
  unfold f_X11_unit_b133 pBk
  refine (a_blanks h).bd (fun r M1 h1 => ?_)
  obtain ⟨h1, hf1⟩ := h1
  generalize hp : sk f n q = p at h1 hsq hC ⊢
  dsimp only
  rw [a_byte h1, Option.bind_some]
  dsimp only
  by_cases hk : kK f n p = 40
  · rw [if_pos (show bt f n p = 40 from (sg_k hb hn.2 s40 p).mpr hk), if_pos hk]
    obtain ⟨hpn, _, hN⟩ := sg_e hb hn.2 s40 hk
    refine (a_opens h1 ho (b := 1) (by omega)).bd (fun r M2 h2 => ?_)
    obtain ⟨h2, hf2⟩ := h2
    dsimp only
    by_cases h6 : o < 6
    · rw [if_pos h6] at h2
      obtain ⟨g', rfl, hS, hP⟩ := hg h6
      have hpn2 := sk_le f (show p + 1 ≤ n by omega)
      have hok := hP (kN f n p) (by rw [hN]; exact hpn2.2)
      refine (hS.1 M2 (p + 1) X h2 (by omega)).bd (fun r M3 h3 => ?_)
      obtain ⟨h3, hf3⟩ := h3
      rw [← hN] at h3 hpn2
      dsimp only
      cases hgx : g' (kN f n p) with
      | inl e =>
        rw [hgx] at h3
        have h3' : ME f n M3 e := h3
        exact (ut_e he h3' (nI (mk x))).mono (fun r M4 h4 => ⟨h4.1, ((hf1.tr hf2).tr hf3).tr h4.2⟩)
      | inr y =>
        obtain ⟨r, Y⟩ := y
        rw [hgx] at h3 hok
        obtain ⟨q3, hq3, h3'⟩ : ∃ q, sk f n q = r ∧ MA f n M3 q (o + 1) (X ++ Y) := h3
        have hY : Gd n (kN f n p) b false r Y := hok
        have hy := hY.1
        have hlen : (X ++ Y).length ≤ r := by rw [List.length_append]; omega
        show tot _ (fun _ M' => MX f n o X (if x = 315 ∨ x = 316 then (if kK f n r = 44 then pB (g' (kN f n r)) fun r2 Y' => (if kK f n r2 = 41 then .inr (kN f n r2, Y ++ Y' ++ [9709 + x]) else .inl (1, r2)) else .inl (1, r)) else if kK f n r = 41 then .inr (kN f n r, Y ++ (if x = 317 then [10026] else [])) else .inl (1, r)) M' ∧ NF M M')
        by_cases h56 : x = 315 ∨ x = 316
        · have hmk : mk x = 9709 + x := by unfold mk; rw [if_neg (by omega)]
          have eif : ∀ T : Option (Int32 × Mem), (if nI (mk x) = 10024 then f_X11_unit_b183 rs 250 (nI (mk x)) M3 else if nI (mk x) = 10025 then f_X11_unit_b183 rs 250 (nI (mk x)) M3 else T) = f_X11_unit_b183 rs 250 (nI (mk x)) M3 := fun T => by
            rw [hmk]
            rcases h56 with h5 | h5 <;> rw [h5] <;> rfl
          rw [eif, if_pos h56]
          unfold f_X11_unit_b183
          refine (a_sign hb h3' s44).bd (fun r4 M4 h4 => ?_)
          obtain ⟨h4, hf4⟩ := h4
          rw [hq3] at h4
          dsimp only
          by_cases hk4 : kK f n r = 44
          · rw [if_pos hk4] at h4 ⊢
            obtain ⟨hrn, _, hNr⟩ := sg_e hb hn.2 s44 hk4
            have hrn2 := sk_le f (show r + 1 ≤ n by omega)
            have hok2 := hP (kN f n r) (by rw [hNr]; exact hrn2.2)
            refine (hS.1 M4 (r + 1) _ h4 (by omega)).bd (fun r5 M5 h5 => ?_)
            obtain ⟨h5, hf5⟩ := h5
            rw [← hNr] at h5 hrn2
            dsimp only
            cases hgy : g' (kN f n r) with
            | inl e =>
              rw [hgy] at h5
              have h5' : ME f n M5 e := h5
              exact (ub193_e h5' (nI (mk x))).mono (fun r M6 h6 => ⟨h6.1, ((((hf1.tr hf2).tr hf3).tr hf4).tr hf5).tr h6.2⟩)
            | inr z =>
              obtain ⟨r2, Z⟩ := z
              rw [hgy] at h5 hok2
              obtain ⟨q5, hq5, h5'⟩ : ∃ q, sk f n q = r2 ∧ MA f n M5 q (o + 1) (X ++ Y ++ Z) := h5
              have hZ : Gd n (kN f n r) b false r2 Z := hok2
              have hz := hZ.1
              refine (ub193 hb h5' (by rw [List.length_append]; omega) (x := mk x) (by rw [hmk]; omega)).mono (fun r M6 h6 => ⟨?_, ((((hf1.tr hf2).tr hf3).tr hf4).tr hf5).tr h6.2⟩)
              have h6' := h6.1
              rw [hq5] at h6'
              show MX f n o X (if kK f n r2 = 41 then _ else _ : Pr) M6
              by_cases hk5 : kK f n r2 = 41
              · rw [if_pos hk5] at h6' ⊢
                rw [if_neg (by rw [hmk]; omega), hmk] at h6'
                refine ⟨r2 + 1, (sg_e hb hn.2 s41 hk5).2.2.symm, ?_⟩
                rw [← List.append_assoc, ← List.append_assoc]
                exact h6'
              · rw [if_neg hk5] at h6' ⊢
                exact h6'
          · rw [if_neg hk4] at h4 ⊢
            refine (he M4 _ h4).bd (fun r5 M5 h5 => ?_)
            exact (ub193_e h5.1 (nI (mk x))).mono (fun r M6 h6 => ⟨h6.1, ((((hf1.tr hf2).tr hf3).tr hf4).tr h5.2).tr h6.2⟩)
        · rw [if_neg h56]
          have hx2 : x = 317 ∨ x = 40 := by omega
          have eif : ∀ T U : Option (Int32 × Mem), (if nI (mk x) = 10024 then T else if nI (mk x) = 10025 then U else f_X11_unit_b193 rs 250 (nI (mk x)) M3) = f_X11_unit_b193 rs 250 (nI (mk x)) M3 := fun T U => by
            rcases hx2 with h5 | h5 <;> rw [h5] <;> rfl
          rw [eif]
          refine (ub193 hb h3' (by omega) (x := mk x) (by unfold mk; split <;> omega)).mono (fun r4 M4 h4 => ⟨?_, ((hf1.tr hf2).tr hf3).tr h4.2⟩)
          have h4' := h4.1
          rw [hq3] at h4'
          by_cases hk5 : kK f n r = 41
          · rw [if_pos hk5] at h4' ⊢
            refine ⟨r + 1, (sg_e hb hn.2 s41 hk5).2.2.symm, ?_⟩
            have e1 : (if mk x = 0 then [] else [mk x]) = (if x = 317 then [10026] else []) := by
              rcases hx2 with h5 | h5 <;> rw [h5] <;> rfl
            rw [e1] at h4'
            rw [← List.append_assoc]
            exact h4'
          · rw [if_neg hk5] at h4' ⊢
            exact h4'
    · rw [if_neg h6] at h2
      rw [h0 (by omega)]
      refine (he M2 _ h2).bd (fun r M3 h3 => ?_)
      dsimp only
      exact (ut_e he h3.1 (nI (mk x))).mono (fun r M4 h4 => ⟨h4.1, ((hf1.tr hf2).tr h3.2).tr h4.2⟩)
  · rw [if_neg (show ¬ bt f n p = 40 from fun z => hk ((sg_k hb hn.2 s40 p).mp z)), if_neg hk]
    exact (a_wrongq h1 (c := 1) (by decide) (by decide)).bd (fun r M2 h2 => tot.ret ⟨h2.1, hf1.tr h2.2.1⟩)
theorem kd_iff (hb : ∀ k, k < 300 → ∃ q, q < 256 ∧ f k = nI q) (hn : n ≤ 300) (p : Nat) : (p < n ∧ isD (f p) = true) ↔ kK f n p = 400 := by
  unfold kK
  by_cases hp : p < n
  · rw [if_pos hp]
    by_cases hd : isD (f p) = true
    · rw [if_pos hd]; exact ⟨fun _ => rfl, fun _ => ⟨hp, hd⟩⟩
    · rw [if_neg hd]
      refine ⟨fun z => absurd z.2 hd, fun z => ?_⟩
      exfalso
      by_cases hl : isL (f p) = true
      · rw [if_pos hl] at z
        have := wds_18 (ltr f p (kE f n p)); omega
      · rw [if_neg hl] at z
        obtain ⟨a, ha, ea⟩ := hb p (by omega)
        rw [ea, i_cl (by omega)] at z; omega
  · rw [if_neg hp]; omega
theorem un_m (hb : ∀ k, k < 300 → ∃ q, q < 256 ∧ f k = nI q) {g : Option (Nat → Pr)} {b : Nat} (ho : o ≤ 6) (h0 : o = 6 → g = none) (hg : o < 6 → ∃ g', g = some g' ∧ SM f n rs g' (o + 1) ∧ ∀ p, p ≤ n → POk n p b false (g' p)) (he : EM f n rs) : SM f n (f_X11_unit rs) (pFac (kK f n) (kV f n) (kN f n) g) o := by
  refine ⟨fun M q X h hC => ?_, fun M e h => ?_⟩
  · have hn := h.le
    have hsq := sk_le f hn.1
    rw [fac_bk]
    unfold f_X11_unit
    rw [if_pos h.ok]
    refine (a_blanks h).bd (fun r M1 h1 => ?_)
    obtain ⟨h1, hf1⟩ := h1
    have hpp := sk_sk f n q
    generalize sk f n q = p at h1 hsq hC hpp ⊢
    dsimp only
    rw [a_byte h1, Option.bind_some]
    dsimp only
    rw [mk_dig, Option.bind_some]
    dsimp only
    by_cases hd : kK f n p = 400
    · have hd2 := (kd_iff hb hn.2 p).mpr hd
      rw [(bt_c isD (by decide) f n p).mpr hd2, if_neg (show ¬ b2 true = 0 by decide), if_pos hd]
      exact (a_nbr hb h1 hd2.1 hd2.2 (by omega)).bd (fun r M2 h2 => tot.ret ⟨h2.1, hf1.tr h2.2⟩)
    · have hd2 : isD (bt f n p) = false := Bool.not_eq_true _ |>.mp (fun z => hd ((kd_iff hb hn.2 p).mp ((bt_c isD (by decide) f n p).mp z)))
      rw [hd2, if_pos (show b2 false = 0 from rfl), if_neg hd, a_name hb h1 hpp, Option.bind_some]
      dsimp only
      by_cases h9 : 300 ≤ kK f n p ∧ kK f n p < 309
      · rw [if_pos h9, if_pos h9]
        rw [if_neg (show ¬ nI (kK f n p - 300) = (-1) from fun z => by
          have : (-1 : Int32) < 0 := by decide
          rw [← z] at this
          exact i_lt0 (by omega) this)]
        refine (a_skip hb h1 (by omega)).bd (fun r M2 h2 => ?_)
        obtain ⟨h2, hf2⟩ := h2
        dsimp only
        have e1 : 10000 + nI (kK f n p - 300) = nI (9700 + kK f n p) := by
          rw [show (10000 : Int32) = nI 10000 from rfl, nI_ad2]
          exact congrArg nI (by omega)
        rw [e1]
        exact (a_tells h2 (by omega) _).bd (fun r M3 h3 => tot.ret ⟨⟨kE f n p, rfl, h3.1⟩, (hf1.tr hf2).tr h3.2⟩)
      · rw [if_neg h9, if_neg h9, if_pos rfl]
        rw [a_word hb h1 hpp 15 (W := [12, 5, 1, 19, 20]) rfl (by decide +kernel), Option.bind_some]
        dsimp only
        have big : ∀ x, x = 315 ∨ x = 316 ∨ x = 317 → kK f n p = x → tot (f_X11_unit_b124 rs 250 (nI (mk x)) M1) (fun _ M' => MX f n o X (pBk f n g x (kN f n p)) M' ∧ NF M M') := fun x hx hk => by
          unfold f_X11_unit_b124
          rw [if_neg (show ¬ nI (mk x) = 0 by rcases hx with rfl | rfl | rfl <;> decide)]
          refine (a_skip hb h1 (by omega)).bd (fun r M2 h2 => ?_)
          have hkE := kE_gt (f := f) (wk_E hb hn.2 (p := p) (by omega)).1
          have hse := sk_le f hkE.2
          exact (ub133 (g := g) (b := b) hb ho h0 hg he h2.1 (by omega) (by omega)).mono (fun r M3 h3 => ⟨h3.1, (hf1.tr h2.2).tr h3.2⟩)
        by_cases k5 : kK f n p = 315
        · rw [decide_eq_true (show kK f n p = 300 + 15 from k5), if_neg (show ¬ b2 true = 0 by decide), if_pos (Or.inl k5), if_neg (by omega), k5]
          exact big 315 (Or.inl rfl) k5
        · rw [decide_eq_false (show ¬ kK f n p = 300 + 15 from k5), if_pos (show b2 false = 0 from rfl)]
          rw [a_word hb h1 hpp 16 (W := [13, 15, 19, 20]) rfl (by decide +kernel), Option.bind_some]
          dsimp only
          by_cases k6 : kK f n p = 316
          · rw [decide_eq_true (show kK f n p = 300 + 16 from k6), if_neg (show ¬ b2 true = 0 by decide), if_pos (Or.inr (Or.inl k6)), if_neg (by omega), k6]
            exact big 316 (Or.inr (Or.inl rfl)) k6
          · rw [decide_eq_false (show ¬ kK f n p = 300 + 16 from k6), if_pos (show b2 false = 0 from rfl)]
            rw [a_word hb h1 hpp 17 (W := [19, 9, 7, 14]) rfl (by decide +kernel), Option.bind_some]
            dsimp only
            by_cases k7 : kK f n p = 317
            · rw [decide_eq_true (show kK f n p = 300 + 17 from k7), if_neg (show ¬ b2 true = 0 by decide), if_pos (Or.inr (Or.inr (Or.inl k7))), if_neg (by omega), k7]
              exact big 317 (Or.inr (Or.inr rfl)) k7
            · rw [decide_eq_false (show ¬ kK f n p = 300 + 17 from k7), if_pos (show b2 false = 0 from rfl)]
              unfold f_X11_unit_b124
              rw [if_pos rfl]
              have := ub133 (g := g) (b := b) hb ho h0 hg he h1 (by rw [hpp]; exact hC) (x := 40) (by omega)
              rw [hpp] at this
              by_cases k4 : kK f n p = 40
              · rw [if_pos (by omega), if_pos k4, k4]
                exact this.mono (fun r M2 h2 => ⟨h2.1, hf1.tr h2.2⟩)
              · rw [if_neg (by omega)]
                have e1 : pBk f n g 40 p = .inl (1, p) := by unfold pBk; rw [if_neg k4]
                rw [e1] at this
                exact this.mono (fun r M2 h2 => ⟨h2.1, hf1.tr h2.2⟩)
  · unfold f_X11_unit
    rw [if_neg h.ne]
    exact tot.ret ⟨h, .rf⟩
end MUNIT
