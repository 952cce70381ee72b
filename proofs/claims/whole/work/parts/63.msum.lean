/-! The model's product and sum. -/
section MROWmp
variable {f : Nat → Int32} {n : Nat} {o : Nat} {ru : Mem → Nat → Option (Int32 × Mem)}
theorem mp_e {M : Mem} {e : Nat × Nat} (h : ME f n M e) (N' : Nat) : f_X11_product_h8 ru 250 (N' + 1) M = some (0, M) := by
  unfold f_X11_product_h8
  rw [if_neg h.ne]
theorem mp_80e {M : Mem} {e : Nat × Nat} (h : ME f n M e) (N' : Nat) (s1 : Int32) : tot (f_X11_product_b80 ru 250 (f_X11_product_h8 ru 250 (N' + 1)) 250 s1 M) (fun _ M' => ME f n M' e ∧ NF M M') := by
  unfold f_X11_product_b80
  rw [e_tells h, Option.bind_some]
  dsimp only
  refine (e_blanks h).bd (fun r M1 h1 => ?_)
  dsimp only
  rw [mp_e h1.1]
  exact tot.ret h1
theorem mp_lp (hb : ∀ k, k < 300 → ∃ q, q < 256 ∧ f k = nI q) {g : Nat → Pr} {b : Nat} (hS : SM f n ru g o) (hg : ∀ p, p ≤ n → POk n p b false (g p)) {X : List Nat} (m : Nat) {N' p : Nat} {M : Mem} {Y : List Nat} (hm : n < m + p) (hN : m < N') (h : MA f n M p o (X ++ Y)) (hp : sk f n p = p) (hC : (X ++ Y).length ≤ p) : tot (f_X11_product_h8 ru 250 N' M) (fun _ M' => MX f n o X (pLp (kK f n) (kN f n) g 42 47 10022 10023 m p Y) M' ∧ NF M M') := by
  induction m generalizing N' p M Y with
  | zero => have := h.le; omega
  | succ m ih =>
    obtain ⟨N', rfl⟩ : ∃ k, N' = k + 2 := ⟨N' - 2, by omega⟩
    have hn := h.le
    unfold f_X11_product_h8 pLp
    rw [if_pos h.ok, a_byte h, Option.bind_some]
    dsimp only
    rw [a_byte h, Option.bind_some]
    dsimp only
    have k1 : (bt f n p = 42) ↔ (kK f n p = 42) := iff_of_eq (sg_k hb hn.2 s42 p)
    have k2 : (bt f n p = 47) ↔ (kK f n p = 47) := iff_of_eq (sg_k hb hn.2 s47 p)
    by_cases hk : kK f n p = 42 ∨ kK f n p = 47
    · rw [if_pos hk]
      have eb : (if bt f n p = 42 then f_X11_product_b41 ru 250 (f_X11_product_h8 ru 250 (N' + 1)) M else if bt f n p = 47 then f_X11_product_b41 ru 250 (f_X11_product_h8 ru 250 (N' + 1)) M else some ((0 : Int32), M)) = f_X11_product_b41 ru 250 (f_X11_product_h8 ru 250 (N' + 1)) M := by
        rcases hk with hk | hk
        · rw [if_pos (k1.mpr hk)]
        · rw [if_neg (fun z => by have := k1.mp z; omega), if_pos (k2.mpr hk)]
      rw [eb]
      unfold f_X11_product_b41
      rw [a_byte h, Option.bind_some]
      dsimp only
      have hpE : p < n ∧ kE f n p = p + 1 ∧ kN f n p = sk f n (p + 1) := by
        rcases hk with hk | hk
        · exact sg_e hb hn.2 s42 hk
        · exact sg_e hb hn.2 s47 hk
      have hpn2 := sk_le f (show p + 1 ≤ n by omega)
      have hok := hg (kN f n p) (by rw [hpE.2.2]; exact hpn2.2)
      rw [h.2.1.1, ← nI_succ]
      refine (hS.1 _ (p + 1) _ (h.mv (by omega)) (by omega)).bd (fun r M2 h2 => ?_)
      obtain ⟨h2, hf2⟩ := h2
      rw [← hpE.2.2] at h2 hpn2
      dsimp only
      have e80 : (if bt f n p = 42 then f_X11_product_b80 ru 250 (f_X11_product_h8 ru 250 (N' + 1)) 250 10022 M2 else f_X11_product_b80 ru 250 (f_X11_product_h8 ru 250 (N' + 1)) 250 10023 M2) = f_X11_product_b80 ru 250 (f_X11_product_h8 ru 250 (N' + 1)) 250 (nI (if kK f n p = 42 then 10022 else 10023)) M2 := by
        by_cases hy : kK f n p = 42
        · rw [if_pos (k1.mpr hy), if_pos hy]; rfl
        · rw [if_neg (fun z => hy (k1.mp z)), if_neg hy]; rfl
      rw [e80]
      have hf02 : NF M M2 := (NF.u (by omega)).tr hf2
      cases hgx : g (kN f n p) with
      | inl e =>
        rw [hgx] at h2
        have h2' : ME f n M2 e := h2
        exact (mp_80e h2' N' _).mono (fun r M3 h3 => ⟨h3.1, hf02.tr h3.2⟩)
      | inr y =>
        obtain ⟨r, Z⟩ := y
        rw [hgx] at h2 hok
        obtain ⟨q2, hq2, h2'⟩ : ∃ q, sk f n q = r ∧ MA f n M2 q o (X ++ Y ++ Z) := h2
        have hZ : Gd n (kN f n p) b false r Z := hok
        have hz := hZ.1
        have hl : (X ++ Y ++ Z).length + 1 ≤ r := by rw [List.length_append]; omega
        unfold f_X11_product_b80
        refine (a_tells h2' (by omega) _).bd (fun r3 M3 h3 => ?_)
        obtain ⟨h3, hf3⟩ := h3
        dsimp only
        refine (a_blanks h3).bd (fun r4 M4 h4 => ?_)
        obtain ⟨h4, hf4⟩ := h4
        rw [hq2] at h4
        dsimp only
        have e1 : X ++ (Y ++ Z ++ [if kK f n p = 42 then 10022 else 10023]) = X ++ Y ++ Z ++ [if kK f n p = 42 then 10022 else 10023] := by simp only [List.append_assoc]
        refine (ih (p := r) (Y := Y ++ Z ++ [if kK f n p = 42 then 10022 else 10023]) (by omega) (by omega) (by rw [e1]; exact h4) (by rw [← hq2]; exact sk_sk f n q2) (by rw [e1, List.length_append]; simp only [List.length_cons, List.length_nil]; omega)).mono (fun r5 M5 h5 => ⟨h5.1, ((hf02.tr hf3).tr hf4).tr h5.2⟩)
    · rw [if_neg hk, if_neg (fun z => hk (Or.inl (k1.mp z))), if_neg (fun z => hk (Or.inr (k2.mp z)))]
      exact tot.ret ⟨⟨p, hp, h⟩, .rf⟩
theorem mp_m (hb : ∀ k, k < 300 → ∃ q, q < 256 ∧ f k = nI q) {g : Nat → Pr} {b : Nat} (hS : SM f n ru g o) (hg : ∀ p, p ≤ n → POk n p b false (g p)) : SM f n (f_X11_product ru) (fun p => pB (g p) (pLp (kK f n) (kN f n) g 42 47 10022 10023 301)) o := by
  refine ⟨fun M q X h hC => ?_, fun M e h => ?_⟩
  · have hn := h.le
    have hsq := sk_le f hn.1
    unfold f_X11_product
    have hok := hg _ hsq.2
    refine (hS.1 M q X h hC).bd (fun r M1 h1 => ?_)
    obtain ⟨h1, hf1⟩ := h1
    dsimp only
    cases hgx : g (sk f n q) with
    | inl e =>
      rw [hgx] at h1
      have h1' : ME f n M1 e := h1
      refine (e_blanks h1').bd (fun r M2 h2 => ?_)
      dsimp only
      rw [show FU = FU - 1 + 1 from by decide, mp_e h2.1]
      exact tot.ret ⟨h2.1, hf1.tr h2.2⟩
    | inr y =>
      obtain ⟨r, Y⟩ := y
      rw [hgx] at h1 hok
      obtain ⟨q1, hq1, h1'⟩ : ∃ q, sk f n q = r ∧ MA f n M1 q o (X ++ Y) := h1
      have hY : Gd n (sk f n q) b false r Y := hok
      have hy := hY.1
      refine (a_blanks h1').bd (fun r2 M2 h2 => ?_)
      obtain ⟨h2, hf2⟩ := h2
      rw [hq1] at h2
      dsimp only
      exact (mp_lp hb hS hg (X := X) 301 (N' := FU) (by omega) (by decide) h2 (by rw [← hq1]; exact sk_sk f n q1) (by rw [List.length_append]; omega)).mono (fun r3 M3 h3 => ⟨h3.1, (hf1.tr hf2).tr h3.2⟩)
  · unfold f_X11_product
    refine (hS.2 M e h).bd (fun r M1 h1 => ?_)
    dsimp only
    refine (e_blanks h1.1).bd (fun r M2 h2 => ?_)
    dsimp only
    rw [show FU = FU - 1 + 1 from by decide, mp_e h2.1]
    exact tot.ret ⟨h2.1, h1.2.tr h2.2⟩
end MROWmp
section MROWms
variable {f : Nat → Int32} {n : Nat} {o : Nat} {ru : Mem → Nat → Option (Int32 × Mem)}
theorem ms_e {M : Mem} {e : Nat × Nat} (h : ME f n M e) (N' : Nat) : f_X11_sum_h8 ru 250 (N' + 1) M = some (0, M) := by
  unfold f_X11_sum_h8
  rw [if_neg h.ne]
theorem ms_80e {M : Mem} {e : Nat × Nat} (h : ME f n M e) (N' : Nat) (s1 : Int32) : tot (f_X11_sum_b80 ru 250 (f_X11_sum_h8 ru 250 (N' + 1)) 250 s1 M) (fun _ M' => ME f n M' e ∧ NF M M') := by
  unfold f_X11_sum_b80
  rw [e_tells h, Option.bind_some]
  dsimp only
  refine (e_blanks h).bd (fun r M1 h1 => ?_)
  dsimp only
  rw [ms_e h1.1]
  exact tot.ret h1
theorem ms_lp (hb : ∀ k, k < 300 → ∃ q, q < 256 ∧ f k = nI q) {g : Nat → Pr} {b : Nat} (hS : SM f n ru g o) (hg : ∀ p, p ≤ n → POk n p b false (g p)) {X : List Nat} (m : Nat) {N' p : Nat} {M : Mem} {Y : List Nat} (hm : n < m + p) (hN : m < N') (h : MA f n M p o (X ++ Y)) (hp : sk f n p = p) (hC : (X ++ Y).length ≤ p) : tot (f_X11_sum_h8 ru 250 N' M) (fun _ M' => MX f n o X (pLp (kK f n) (kN f n) g 43 45 10020 10021 m p Y) M' ∧ NF M M') := by
  induction m generalizing N' p M Y with
  | zero => have := h.le; omega
  | succ m ih =>
    obtain ⟨N', rfl⟩ : ∃ k, N' = k + 2 := ⟨N' - 2, by omega⟩
    have hn := h.le
    unfold f_X11_sum_h8 pLp
    rw [if_pos h.ok, a_byte h, Option.bind_some]
    dsimp only
    rw [a_byte h, Option.bind_some]
    dsimp only
    have k1 : (bt f n p = 43) ↔ (kK f n p = 43) := iff_of_eq (sg_k hb hn.2 s43 p)
    have k2 : (bt f n p = 45) ↔ (kK f n p = 45) := iff_of_eq (sg_k hb hn.2 s45 p)
    by_cases hk : kK f n p = 43 ∨ kK f n p = 45
    · rw [if_pos hk]
      have eb : (if bt f n p = 43 then f_X11_sum_b41 ru 250 (f_X11_sum_h8 ru 250 (N' + 1)) M else if bt f n p = 45 then f_X11_sum_b41 ru 250 (f_X11_sum_h8 ru 250 (N' + 1)) M else some ((0 : Int32), M)) = f_X11_sum_b41 ru 250 (f_X11_sum_h8 ru 250 (N' + 1)) M := by
        rcases hk with hk | hk
        · rw [if_pos (k1.mpr hk)]
        · rw [if_neg (fun z => by have := k1.mp z; omega), if_pos (k2.mpr hk)]
      rw [eb]
      unfold f_X11_sum_b41
      rw [a_byte h, Option.bind_some]
      dsimp only
      have hpE : p < n ∧ kE f n p = p + 1 ∧ kN f n p = sk f n (p + 1) := by
        rcases hk with hk | hk
        · exact sg_e hb hn.2 s43 hk
        · exact sg_e hb hn.2 s45 hk
      have hpn2 := sk_le f (show p + 1 ≤ n by omega)
      have hok := hg (kN f n p) (by rw [hpE.2.2]; exact hpn2.2)
      rw [h.2.1.1, ← nI_succ]
      refine (hS.1 _ (p + 1) _ (h.mv (by omega)) (by omega)).bd (fun r M2 h2 => ?_)
      obtain ⟨h2, hf2⟩ := h2
      rw [← hpE.2.2] at h2 hpn2
      dsimp only
      have e80 : (if bt f n p = 43 then f_X11_sum_b80 ru 250 (f_X11_sum_h8 ru 250 (N' + 1)) 250 10020 M2 else f_X11_sum_b80 ru 250 (f_X11_sum_h8 ru 250 (N' + 1)) 250 10021 M2) = f_X11_sum_b80 ru 250 (f_X11_sum_h8 ru 250 (N' + 1)) 250 (nI (if kK f n p = 43 then 10020 else 10021)) M2 := by
        by_cases hy : kK f n p = 43
        · rw [if_pos (k1.mpr hy), if_pos hy]; rfl
        · rw [if_neg (fun z => hy (k1.mp z)), if_neg hy]; rfl
      rw [e80]
      have hf02 : NF M M2 := (NF.u (by omega)).tr hf2
      cases hgx : g (kN f n p) with
      | inl e =>
        rw [hgx] at h2
        have h2' : ME f n M2 e := h2
        exact (ms_80e h2' N' _).mono (fun r M3 h3 => ⟨h3.1, hf02.tr h3.2⟩)
      | inr y =>
        obtain ⟨r, Z⟩ := y
        rw [hgx] at h2 hok
        obtain ⟨q2, hq2, h2'⟩ : ∃ q, sk f n q = r ∧ MA f n M2 q o (X ++ Y ++ Z) := h2
        have hZ : Gd n (kN f n p) b false r Z := hok
        have hz := hZ.1
        have hl : (X ++ Y ++ Z).length + 1 ≤ r := by rw [List.length_append]; omega
        unfold f_X11_sum_b80
        refine (a_tells h2' (by omega) _).bd (fun r3 M3 h3 => ?_)
        obtain ⟨h3, hf3⟩ := h3
        dsimp only
        refine (a_blanks h3).bd (fun r4 M4 h4 => ?_)
        obtain ⟨h4, hf4⟩ := h4
        rw [hq2] at h4
        dsimp only
        have e1 : X ++ (Y ++ Z ++ [if kK f n p = 43 then 10020 else 10021]) = X ++ Y ++ Z ++ [if kK f n p = 43 then 10020 else 10021] := by simp only [List.append_assoc]
        refine (ih (p := r) (Y := Y ++ Z ++ [if kK f n p = 43 then 10020 else 10021]) (by omega) (by omega) (by rw [e1]; exact h4) (by rw [← hq2]; exact sk_sk f n q2) (by rw [e1, List.length_append]; simp only [List.length_cons, List.length_nil]; omega)).mono (fun r5 M5 h5 => ⟨h5.1, ((hf02.tr hf3).tr hf4).tr h5.2⟩)
    · rw [if_neg hk, if_neg (fun z => hk (Or.inl (k1.mp z))), if_neg (fun z => hk (Or.inr (k2.mp z)))]
      exact tot.ret ⟨⟨p, hp, h⟩, .rf⟩
theorem ms_m (hb : ∀ k, k < 300 → ∃ q, q < 256 ∧ f k = nI q) {g : Nat → Pr} {b : Nat} (hS : SM f n ru g o) (hg : ∀ p, p ≤ n → POk n p b false (g p)) : SM f n (f_X11_sum ru) (fun p => pB (g p) (pLp (kK f n) (kN f n) g 43 45 10020 10021 301)) o := by
  refine ⟨fun M q X h hC => ?_, fun M e h => ?_⟩
  · have hn := h.le
    have hsq := sk_le f hn.1
    unfold f_X11_sum
    have hok := hg _ hsq.2
    refine (hS.1 M q X h hC).bd (fun r M1 h1 => ?_)
    obtain ⟨h1, hf1⟩ := h1
    dsimp only
    cases hgx : g (sk f n q) with
    | inl e =>
      rw [hgx] at h1
      have h1' : ME f n M1 e := h1
      refine (e_blanks h1').bd (fun r M2 h2 => ?_)
      dsimp only
      rw [show FU = FU - 1 + 1 from by decide, ms_e h2.1]
      exact tot.ret ⟨h2.1, hf1.tr h2.2⟩
    | inr y =>
      obtain ⟨r, Y⟩ := y
      rw [hgx] at h1 hok
      obtain ⟨q1, hq1, h1'⟩ : ∃ q, sk f n q = r ∧ MA f n M1 q o (X ++ Y) := h1
      have hY : Gd n (sk f n q) b false r Y := hok
      have hy := hY.1
      refine (a_blanks h1').bd (fun r2 M2 h2 => ?_)
      obtain ⟨h2, hf2⟩ := h2
      rw [hq1] at h2
      dsimp only
      exact (ms_lp hb hS hg (X := X) 301 (N' := FU) (by omega) (by decide) h2 (by rw [← hq1]; exact sk_sk f n q1) (by rw [List.length_append]; omega)).mono (fun r3 M3 h3 => ⟨h3.1, (hf1.tr hf2).tr h3.2⟩)
  · unfold f_X11_sum
    refine (hS.2 M e h).bd (fun r M1 h1 => ?_)
    dsimp only
    refine (e_blanks h1.1).bd (fun r M2 h2 => ?_)
    dsimp only
    rw [show FU = FU - 1 + 1 from by decide, ms_e h2.1]
    exact tot.ret ⟨h2.1, h1.2.tr h2.2⟩
end MROWms
section MSUM
variable {f : Nat → Int32} {n : Nat}
theorem S_e (d : Nat) : EM f n (S_X11_sum (d + 1)) := fun M e h => by
  show tot (f_X11_sum (f_X11_product (f_X11_unit (S_X11_sum d))) M 250) _
  have hu : f_X11_unit (S_X11_sum d) M 250 = some (0, M) := by
    unfold f_X11_unit
    rw [if_neg h.ne]
  unfold f_X11_sum f_X11_product
  rw [hu, Option.bind_some]
  dsimp only
  have t1 : tot ((f_X11_blanks M 250).bind fun q => match q with | (_, M6) => (f_X11_product_h8 (f_X11_unit (S_X11_sum d)) 250 FU M6)) (fun _ M' => ME f n M' e ∧ NF M M') := by
    refine (e_blanks h).bd (fun r M1 h1 => ?_)
    dsimp only
    rw [show FU = FU - 1 + 1 from by decide, mp_e h1.1]
    exact tot.ret h1
  refine t1.bd (fun r M1 h1 => ?_)
  dsimp only
  refine (e_blanks h1.1).bd (fun r M2 h2 => ?_)
  dsimp only
  rw [show FU = FU - 1 + 1 from by decide, ms_e h2.1]
  exact tot.ret ⟨h2.1, h1.2.tr h2.2⟩
theorem sum_m (hb : ∀ k, k < 300 → ∃ q, q < 256 ∧ f k = nI q) (k : Nat) {d : Nat} (hk : k ≤ 6) (hd : k + 1 < d) : SM f n (S_X11_sum d) (pSum (kK f n) (kV f n) (kN f n) k) (6 - k) := by
  have pr : ∀ {g : Nat → Pr} {b : Nat}, (∀ p, p ≤ n → POk n p b false (g p)) → ∀ p, p ≤ n → POk n p (b + 1) false (pPr (kK f n) (kN f n) g p) := fun hf p hp => (hf p hp).bd (fun q X hX => lp_ok (tk_ok f n) hf (by decide) ⟨by decide, rfl, fun ts => rfl⟩ ⟨by decide, rfl, fun ts => rfl⟩ 301 (hX.mono (by omega)))
  induction k generalizing d with
  | zero =>
    obtain ⟨d, rfl⟩ : ∃ e, d = e + 2 := ⟨d - 2, by omega⟩
    have hu := un_m (f := f) (n := n) (o := 6) (rs := S_X11_sum (d + 1)) (g := none) (b := 0) hb (by decide) (fun _ => rfl) (fun z => absurd z (by decide)) (S_e d)
    have huo : ∀ p, p ≤ n → POk n p 1 false (pFac (kK f n) (kV f n) (kN f n) none p) := fun p hp => fac_ok (b := 0) (tk_ok f n) (fun g' h => by cases h) hp
    exact ms_m hb (mp_m hb hu huo) (pr huo)
  | succ k ih =>
    obtain ⟨d, rfl⟩ : ∃ e, d = e + 2 := ⟨d - 2, by omega⟩
    have hs := ih (d := d + 1) (by omega) (by omega)
    have e1 : 6 - k = 6 - (k + 1) + 1 := by omega
    rw [e1] at hs
    have hu := un_m (f := f) (n := n) (o := 6 - (k + 1)) (rs := S_X11_sum (d + 1)) (g := some (pSum (kK f n) (kV f n) (kN f n) k)) (b := 3 * k + 3) hb (by omega) (fun z => by omega) (fun _ => ⟨_, rfl, hs, fun p hp => sum_ok (tk_ok f n) k hp⟩) (S_e d)
    have huo : ∀ p, p ≤ n → POk n p (3 * k + 3 + 1) false (pFac (kK f n) (kV f n) (kN f n) (some (pSum (kK f n) (kV f n) (kN f n) k)) p) := fun p hp => fac_ok (b := 3 * k + 3) (tk_ok f n) (fun g' h => by cases h; exact fun p hp => sum_ok (tk_ok f n) k hp) hp
    exact ms_m hb (mp_m hb hu huo) (pr huo)
end MSUM
