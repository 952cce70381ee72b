/-! The model's test. -/
section MTEST
variable {f : Nat → Int32} {n : Nat} {o : Nat} {ro rt : Mem → Nat → Option (Int32 × Mem)}
theorem te_m (hb : ∀ k, k < 300 → ∃ q, q < 256 ∧ f k = nI q) {g : Option ((Nat → Pr) × (Nat → Pr))} {sm : Nat → Pr} {b : Nat} (ho : o ≤ 6) (h0 : o = 6 → g = none) (hg : o < 6 → ∃ g', g = some g' ∧ (SM f n ro g'.1 (o + 1) ∧ SM f n rt g'.2 (o + 1)) ∧ ∀ p, p ≤ n → POk n p b true (g'.1 p) ∧ POk n p b true (g'.2 p)) (heo : EM f n ro) (het : EM f n rt) (hs : SM f n (S_X11_sum DP) sm o) (hso : ∀ p, p ≤ n → POk n p b false (sm p)) : SM f n (f_X11_test ro rt) (pCmp (kK f n) (kN f n) g sm) o := by
  refine ⟨fun M q X h hC => ?_, fun M e h => ?_⟩
  · have hn := h.le
    have hsq := sk_le f hn.1
    have hpp := sk_sk f n q
    unfold f_X11_test pCmp
    rw [if_pos h.ok, a_isWord hb h 14 (W := [14, 15, 20]) rfl (by decide +kernel), Option.bind_some]
    have h1 := h.mv hsq.2
    generalize sk f n q = p at h1 hsq hpp hC ⊢
    dsimp only
    have hf1 : NF M (mU M 250 4 (nI p)) := .u (by omega)
    generalize mU M 250 4 (nI p) = M1 at h1 hf1 ⊢
    by_cases hk : kK f n p = 314
    · rw [if_pos hk, decide_eq_true (show kK f n p = 300 + 14 from hk), if_neg (show ¬ b2 true = 0 by decide)]
      have hw := wk_E hb hn.2 (p := p) (by omega)
      have hkE := kE_gt (f := f) hw.1
      have hE3 : kE f n p = p + 3 := by
        have h3 := (w_k hb hn.2 (i := 14) (W := [14, 15, 20]) rfl p).mpr hk
        have h4 := congrArg List.length h3
        rw [ltr_len, ← hw.2] at h4
        simp only [List.length_cons, List.length_nil] at h4
        omega
      have hkN := sk_le f hkE.2
      refine (a_opens h1 ho (b := 3) (by omega)).bd (fun r M2 h2 => ?_)
      obtain ⟨h2, hf2⟩ := h2
      dsimp only
      by_cases h6 : o < 6
      · rw [if_pos h6, ← hE3] at h2
        obtain ⟨g', rfl, hS, hP⟩ := hg h6
        have hok := (hP (kN f n p) hkN.2).2
        refine (hS.2.1 M2 _ X h2 (by omega)).bd (fun r M3 h3 => ?_)
        obtain ⟨h3, hf3⟩ := h3
        have h3 : MX f n (o + 1) X (g'.2 (kN f n p)) M3 := h3
        have hkN : kE f n p ≤ kN f n p ∧ kN f n p ≤ n := hkN
        dsimp only
        cases hgx : g'.2 (kN f n p) with
        | inl e =>
          rw [hgx] at h3
          have h3' : ME f n M3 e := h3
          rw [e_tells (h3'.op _), Option.bind_some]
          exact tot.ret ⟨h3'.op _, ((hf1.tr hf2).tr hf3).tr (.u (by omega))⟩
        | inr y =>
          obtain ⟨r, Y⟩ := y
          rw [hgx] at h3 hok
          obtain ⟨q3, hq3, h3'⟩ : ∃ q, sk f n q = r ∧ MA f n M3 q (o + 1) (X ++ Y) := h3
          have hY : Gd n (kN f n p) b true r Y := hok
          have hy := hY.1
          have e5 : M3 250 5 - 1 = nI o := by rw [h3'.2.2.1, nI_succ, Int32.add_sub_cancel]
          rw [e5]
          refine (a_tells (h3'.op o) (by rw [List.length_append]; omega) 10033).bd (fun r4 M4 h4 => tot.ret ⟨⟨q3, hq3, ?_⟩, (((hf1.tr hf2).tr hf3).tr (.u (by omega))).tr h4.2⟩)
          rw [← List.append_assoc]
          exact h4.1
      · rw [if_neg h6] at h2
        rw [h0 (by omega)]
        refine (het M2 _ h2).bd (fun r M3 h3 => ?_)
        dsimp only
        rw [e_tells (h3.1.op _), Option.bind_some]
        exact tot.ret ⟨h3.1.op _, ((hf1.tr hf2).tr h3.2).tr (.u (by omega))⟩
    · rw [if_neg hk, decide_eq_false (show ¬ kK f n p = 300 + 14 from hk), if_pos (show b2 false = 0 from rfl), a_byte h1, Option.bind_some]
      dsimp only
      have k91 : (bt f n p = 91) ↔ (kK f n p = 91) := iff_of_eq (sg_k hb hn.2 s91 p)
      by_cases h91 : kK f n p = 91
      · rw [if_pos (k91.mpr h91), if_pos h91]
        obtain ⟨hpn, _, hN⟩ := sg_e hb hn.2 s91 h91
        have hpn2 := sk_le f (show p + 1 ≤ n by omega)
        rw [← hN] at hpn2
        refine (a_opens h1 ho (b := 1) (by omega)).bd (fun r M2 h2 => ?_)
        obtain ⟨h2, hf2⟩ := h2
        dsimp only
        by_cases h6 : o < 6
        · rw [if_pos h6] at h2
          obtain ⟨g', rfl, hS, hP⟩ := hg h6
          refine (hS.1.1 M2 _ X h2 (by rw [← hN]; omega)).bd (fun r M3 h3 => ?_)
          obtain ⟨h3, hf3⟩ := h3
          rw [← hN] at h3
          dsimp only
          cases hgx : g'.1 (kN f n p) with
          | inl e =>
            rw [hgx] at h3
            have h3' : ME f n M3 e := h3
            rw [e_sign h3', Option.bind_some]
            exact tot.ret ⟨h3'.op _, ((hf1.tr hf2).tr hf3).tr (.u (by omega))⟩
          | inr y =>
            obtain ⟨r, Y⟩ := y
            rw [hgx] at h3
            obtain ⟨q3, hq3, h3'⟩ : ∃ q, sk f n q = r ∧ MA f n M3 q (o + 1) (X ++ Y) := h3
            refine (a_sign hb h3' s93).bd (fun r4 M4 h4 => ?_)
            obtain ⟨h4, hf4⟩ := h4
            rw [hq3] at h4
            refine tot.ret ⟨?_, (((hf1.tr hf2).tr hf3).tr hf4).tr (.u (by omega))⟩
            show MX f n o X (if kK f n r = 93 then _ else _ : Pr) _
            by_cases h5 : kK f n r = 93
            · rw [if_pos h5] at h4 ⊢
              have e5 : M4 250 5 - 1 = nI o := by rw [h4.2.2.1, nI_succ, Int32.add_sub_cancel]
              rw [e5]
              exact ⟨r + 1, (sg_e hb hn.2 s93 h5).2.2.symm, h4.op o⟩
            · rw [if_neg h5] at h4 ⊢
              exact h4.op _
        · rw [if_neg h6] at h2
          rw [h0 (by omega)]
          refine (heo M2 _ h2).bd (fun r M3 h3 => ?_)
          dsimp only
          rw [e_sign h3.1, Option.bind_some]
          exact tot.ret ⟨h3.1.op _, ((hf1.tr hf2).tr h3.2).tr (.u (by omega))⟩
      · rw [if_neg (fun z => h91 (k91.mp z)), if_neg h91]
        have hok := hso p hsq.2
        have hq1 := hs.1 M1 p X h1 (by rw [hpp]; exact hC)
        rw [hpp] at hq1
        refine hq1.bd (fun r M2 h2 => ?_)
        obtain ⟨h2, hf2⟩ := h2
        dsimp only
        cases hgx : sm p with
        | inl e =>
          rw [hgx] at h2
          have h2' : ME f n M2 e := h2
          rw [if_neg h2'.ne]
          exact tot.ret ⟨h2', hf1.tr hf2⟩
        | inr y =>
          obtain ⟨r, Y⟩ := y
          rw [hgx] at h2 hok
          obtain ⟨q2, hq2, h2'⟩ : ∃ q, sk f n q = r ∧ MA f n M2 q o (X ++ Y) := h2
          have hY : Gd n p b false r Y := hok
          have hy := hY.1
          rw [if_pos h2'.ok]
          refine (a_blanks h2').bd (fun r3 M3 h3 => ?_)
          obtain ⟨h3, hf3⟩ := h3
          rw [hq2] at h3
          have hrr : sk f n r = r := by rw [← hq2]; exact sk_sk f n q2
          have hf03 : NF M M3 := (hf1.tr hf2).tr hf3
          dsimp only
          rw [a_byte h3, Option.bind_some]
          dsimp only
          have c60 : (bt f n r = 60) ↔ (kK f n r = 60) := iff_of_eq (sg_k hb hn.2 s60 r)
          have c62 : (bt f n r = 62) ↔ (kK f n r = 62) := iff_of_eq (sg_k hb hn.2 s62 r)
          have c61 : (bt f n r = 61) ↔ (kK f n r = 61) := iff_of_eq (sg_k hb hn.2 s61 r)
          show tot _ (fun _ M' => MX f n o X (if kK f n r = 60 ∨ kK f n r = 62 ∨ kK f n r = 61 then pB (sm (kN f n r)) fun r2 Z => .inr (r2, Y ++ Z ++ [if kK f n r = 60 then 10030 else if kK f n r = 62 then 10031 else 10032]) else .inl (1, r)) M' ∧ NF M M')
          by_cases hc : kK f n r = 60 ∨ kK f n r = 62 ∨ kK f n r = 61
          · rw [if_pos hc]
            have eb : ∀ T : Option (Int32 × Mem), (if bt f n r = 60 then f_X11_test_b142 ro rt 250 (bt f n r) M3 else if bt f n r = 62 then f_X11_test_b142 ro rt 250 (bt f n r) M3 else if bt f n r = 61 then f_X11_test_b142 ro rt 250 (bt f n r) M3 else T) = f_X11_test_b142 ro rt 250 (bt f n r) M3 := fun T => by
              rcases hc with hc | hc | hc
              · rw [if_pos (c60.mpr hc)]
              · rw [if_neg (fun z => by have := c60.mp z; omega), if_pos (c62.mpr hc)]
              · rw [if_neg (fun z => by have := c60.mp z; omega), if_neg (fun z => by have := c62.mp z; omega), if_pos (c61.mpr hc)]
            rw [eb]
            have hrE : r < n ∧ kE f n r = r + 1 ∧ kN f n r = sk f n (r + 1) := by
              rcases hc with hc | hc | hc
              · exact sg_e hb hn.2 s60 hc
              · exact sg_e hb hn.2 s62 hc
              · exact sg_e hb hn.2 s61 hc
            have hrn2 := sk_le f (show r + 1 ≤ n by omega)
            rw [← hrE.2.2] at hrn2
            have hok2 := hso (kN f n r) hrn2.2
            unfold f_X11_test_b142
            rw [h3.2.1.1, ← nI_succ]
            refine (hs.1 _ (r + 1) _ (h3.mv (by omega)) (by rw [← hrE.2.2, List.length_append]; omega)).bd (fun r4 M4 h4 => ?_)
            obtain ⟨h4, hf4⟩ := h4
            rw [← hrE.2.2] at h4
            have hf04 : NF M M4 := (hf03.tr (.u (by omega))).tr hf4
            dsimp only
            have e184 : (if bt f n r = 60 then f_X11_test_b184 ro rt 250 250 10030 M4 else if bt f n r = 62 then f_X11_test_b184 ro rt 250 250 10031 M4 else f_X11_test_b184 ro rt 250 250 10032 M4) = f_X11_test_b184 ro rt 250 250 (nI (if kK f n r = 60 then 10030 else if kK f n r = 62 then 10031 else 10032)) M4 := by
              rcases hc with hc | hc | hc
              · rw [if_pos (c60.mpr hc), if_pos hc]; rfl
              · rw [if_neg (fun z => by have := c60.mp z; omega), if_pos (c62.mpr hc), if_neg (by omega), if_pos hc]; rfl
              · rw [if_neg (fun z => by have := c60.mp z; omega), if_neg (fun z => by have := c62.mp z; omega), if_neg (by omega), if_neg (by omega)]; rfl
            rw [e184]
            unfold f_X11_test_b184
            cases hgy : sm (kN f n r) with
            | inl e =>
              rw [hgy] at h4
              have h4' : ME f n M4 e := h4
              rw [e_tells h4', Option.bind_some]
              exact tot.ret ⟨h4', hf04⟩
            | inr z =>
              obtain ⟨r2, Z⟩ := z
              rw [hgy] at h4 hok2
              obtain ⟨q4, hq4, h4'⟩ : ∃ q, sk f n q = r2 ∧ MA f n M4 q o (X ++ Y ++ Z) := h4
              have hZ : Gd n (kN f n r) b false r2 Z := hok2
              have hz := hZ.1
              refine (a_tells h4' (by rw [List.length_append, List.length_append]; omega) _).bd (fun r5 M5 h5 => tot.ret ⟨⟨q4, hq4, ?_⟩, hf04.tr h5.2⟩)
              rw [← List.append_assoc, ← List.append_assoc]
              exact h5.1
          · rw [if_neg hc, if_neg (fun z => hc (Or.inl (c60.mp z))), if_neg (fun z => hc (Or.inr (Or.inl (c62.mp z)))), if_neg (fun z => hc (Or.inr (Or.inr (c61.mp z))))]
            refine (a_wrongq h3 (c := 1) (by decide) (by decide)).bd (fun r4 M4 h4 => ?_)
            obtain ⟨h4, hf4, e4⟩ := h4
            dsimp only
            unfold f_X11_test_b142
            rw [e4, h3.2.1.1, ← nI_succ]
            refine (hs.2 _ _ (h4.mv (by omega))).bd (fun r5 M5 h5 => ?_)
            have hf05 : NF M M5 := ((hf03.tr hf4).tr (.u (by omega))).tr h5.2
            dsimp only
            have e184 : ∀ s1, f_X11_test_b184 ro rt 250 250 s1 M5 = some (0, M5) := fun s1 => by
              unfold f_X11_test_b184
              rw [e_tells h5.1]; rfl
            rw [e184, e184, e184, ite_self, ite_self]
            exact tot.ret ⟨h5.1, hf05⟩
  · unfold f_X11_test
    rw [if_neg h.ne]
    exact tot.ret ⟨h, .rf⟩
theorem te_e (d : Nat) : EM f n (S_X11_test (d + 1)) := fun M e h => by
  show tot (f_X11_test (f_X11_ors (f_X11_ands (S_X11_test d))) (S_X11_test d) M 250) _
  unfold f_X11_test
  rw [if_neg h.ne]
  exact tot.ret ⟨h, .rf⟩
theorem ors_e {rc : Mem → Nat → Option (Int32 × Mem)} (he : EM f n rc) : EM f n (f_X11_ors (f_X11_ands rc)) := fun M e h => by
  unfold f_X11_ors f_X11_ands
  have t1 : tot ((rc M 250).bind fun q => match q with | (_, M2) => (f_X11_ands_h4 rc 250 FU M2)) (fun _ M' => ME f n M' e ∧ NF M M') := by
    refine (he M e h).bd (fun r M1 h1 => ?_)
    dsimp only
    rw [show FU = FU - 1 + 1 from by decide, ma_e h1.1]
    exact tot.ret h1
  refine t1.bd (fun r M1 h1 => ?_)
  dsimp only
  rw [show FU = FU - 1 + 1 from by decide, mo_e h1.1]
  exact tot.ret h1
theorem ors_m (hb : ∀ k, k < 300 → ∃ q, q < 256 ∧ f k = nI q) {rc : Mem → Nat → Option (Int32 × Mem)} {g : Nat → Pr} {b : Nat} (hS : SM f n rc g o) (hg : ∀ p, p ≤ n → POk n p b true (g p)) : SM f n (f_X11_ors (f_X11_ands rc)) (pCnd (kK f n) (kN f n) g) o :=
  mo_m hb (ma_m hb hS hg) (fun p hp => (hg p hp).bd (fun q X hX => lp_ok (tk_ok f n) hg (by decide) ⟨by decide, rfl, fun ts => rfl⟩ ⟨by decide, rfl, fun ts => rfl⟩ 301 (hX.mono (Nat.le_succ b))))
theorem cm_m (hb : ∀ k, k < 300 → ∃ q, q < 256 ∧ f k = nI q) (k : Nat) {d : Nat} (hk : k ≤ 6) (hd : k + 1 < d) : SM f n (S_X11_test d) (pCm (kK f n) (kV f n) (kN f n) k) (6 - k) := by
  induction k generalizing d with
  | zero =>
    obtain ⟨d, rfl⟩ : ∃ e, d = e + 2 := ⟨d - 2, by omega⟩
    exact te_m (g := none) (b := 3) hb (by decide) (fun _ => rfl) (fun z => absurd z (by decide)) (ors_e (te_e d)) (te_e d) (sum_m hb 0 (by decide) (by decide)) (fun p hp => sum_ok (tk_ok f n) 0 hp)
  | succ k ih =>
    obtain ⟨d, rfl⟩ : ∃ e, d = e + 2 := ⟨d - 2, by omega⟩
    have hs := ih (d := d + 1) (by omega) (by omega)
    have e6 : 6 - (k + 1) + 1 = 6 - k := by omega
    refine te_m (g := some (pCnd (kK f n) (kN f n) (pCm (kK f n) (kV f n) (kN f n) k), pCm (kK f n) (kV f n) (kN f n) k)) (b := 3 * k + 6) hb (by omega) (fun z => by omega) (fun _ => ⟨_, rfl, ?_, fun p hp => ⟨cnd_ok (tk_ok f n) (b := 3 * k + 4) (fun p hp => cm_ok (tk_ok f n) k hp) hp, (cm_ok (tk_ok f n) k hp).mono (by omega)⟩⟩) (ors_e (te_e d)) (te_e d) (sum_m hb (k + 1) hk (by unfold DP; omega)) (fun p hp => sum_ok (tk_ok f n) (k + 1) hp)
    rw [e6]
    exact ⟨ors_m hb hs (fun p hp => cm_ok (tk_ok f n) k hp), hs⟩
end MTEST
