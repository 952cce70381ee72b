/-! What the parser answers is within bounds: places, lengths, kinds. -/
def Gd (n p b : Nat) (kd : Bool) (q : Nat) (X : List Nat) : Prop := (p < q ∧ q ≤ n ∧ (cXs X).length ≤ q - p ∧ X.length ≤ q - p) ∧ (∀ c ∈ X, c < 20000) ∧ ∀ ts : List Bool, ts.length + b ≤ 100 → cTs X ts = some (kd :: ts)
def POk (n p b : Nat) (kd : Bool) (x : Pr) : Prop := match x with
  | .inl e => 1 ≤ e.1 ∧ e.1 ≤ 3 ∧ e.2 ≤ n
  | .inr (q, X) => Gd n p b kd q X
theorem cXs_app (A B : List Nat) : cXs (A ++ B) = cXs A ++ cXs B := List.flatMap_append
theorem cXs_one (c : Nat) : cXs [c] = cX c := by simp [cXs]
theorem POk.bd {n p b b' : Nat} {kd kd' : Bool} {x : Pr} {g : Nat → List Nat → Pr} (h : POk n p b kd x) (hg : ∀ q X, Gd n p b kd q X → POk n p b' kd' (g q X)) : POk n p b' kd' (pB x g) := by
  cases x with
  | inl e => exact h
  | inr y => exact hg y.1 y.2 h
theorem POk.bd2 {n p r b b' : Nat} {kd kd' : Bool} {x : Pr} {g : Nat → List Nat → Pr} (h : POk n r b kd x) (hg : ∀ q X, Gd n r b kd q X → POk n p b' kd' (g q X)) : POk n p b' kd' (pB x g) := by
  cases x with
  | inl e => exact h
  | inr y => exact hg y.1 y.2 h
theorem Gd.mono {n p b b' : Nat} {kd : Bool} {q : Nat} {X : List Nat} (h : Gd n p b kd q X) (hb : b ≤ b') : Gd n p b' kd q X := ⟨h.1, h.2.1, fun ts ht => h.2.2 ts (by omega)⟩
theorem POk.mono {n p b b' : Nat} {kd : Bool} {x : Pr} (h : POk n p b kd x) (hb : b ≤ b') : POk n p b' kd x := by
  cases x with
  | inl e => exact h
  | inr y => exact Gd.mono h hb
theorem POk.err {n p b : Nat} {kd : Bool} {c w : Nat} (h1 : 1 ≤ c) (h3 : c ≤ 3) (hw : w ≤ n) : POk n p b kd (.inl (c, w)) := ⟨h1, h3, hw⟩
/-- two of a kind, and what is made of them -/
theorem Gd.two {n p q r r2 b : Nat} {kd kd' : Bool} {X Y : List Nat} {c : Nat} (h : Gd n p (b + 1) kd q X) (hqr : q < r) (h' : Gd n r b kd r2 Y) {z : Nat} (hz : r2 ≤ z) (hzn : z ≤ n) (hc : c < 20000) (hX : (cX c).length = 1) (hT : ∀ ts, cT c (kd :: kd :: ts) = some (kd' :: ts)) : Gd n p (b + 1) kd' z (X ++ Y ++ [c]) := by
  obtain ⟨⟨a1, a2, a3, a4⟩, a5, a6⟩ := h
  obtain ⟨⟨c1, c2, c3, c4⟩, c5, c6⟩ := h'
  refine ⟨⟨by omega, hzn, ?_, ?_⟩, fun d hd => ?_, fun ts ht => ?_⟩
  · rw [cXs_app, cXs_app, cXs_one, List.length_append, List.length_append, hX]; omega
  · rw [List.length_append, List.length_append]; simp only [List.length_cons, List.length_nil]; omega
  · rw [List.mem_append, List.mem_append] at hd
    rcases hd with (hd | hd) | hd
    · exact a5 d hd
    · exact c5 d hd
    · rw [List.mem_singleton.mp hd]; exact hc
  · rw [cTs_app, cTs_app, a6 ts ht]
    show ((cTs Y (kd :: ts)).bind _) = _
    rw [c6 (kd :: ts) (by simp only [List.length_cons]; omega)]
    show ((cT c (kd :: kd :: ts)).bind _) = _
    rw [hT]; rfl
/-- one, and what is made of it -/
theorem Gd.one {n p r r2 b : Nat} {kd : Bool} {Y : List Nat} {c : Nat} (hpr : p < r) (h' : Gd n r b kd r2 Y) {z : Nat} (hz : r2 ≤ z) (hzn : z ≤ n) (hc : c < 20000) (hX : (cX c).length = 1) (hT : ∀ ts, cT c (kd :: ts) = some (kd :: ts)) : Gd n p b kd z (Y ++ [c]) := by
  obtain ⟨⟨c1, c2, c3, c4⟩, c5, c6⟩ := h'
  refine ⟨⟨by omega, hzn, ?_, ?_⟩, fun d hd => ?_, fun ts ht => ?_⟩
  · rw [cXs_app, cXs_one, List.length_append, hX]; omega
  · rw [List.length_append]; simp only [List.length_cons, List.length_nil]; omega
  · rw [List.mem_append] at hd
    rcases hd with hd | hd
    · exact c5 d hd
    · rw [List.mem_singleton.mp hd]; exact hc
  · rw [cTs_app, c6 ts ht]
    show ((cT c (kd :: ts)).bind _) = _
    rw [hT]; rfl
theorem Gd.far {n p r b : Nat} {kd : Bool} {r2 : Nat} {Y : List Nat} (hpr : p < r) (h' : Gd n r b kd r2 Y) {z : Nat} (hz : r2 ≤ z) (hzn : z ≤ n) : Gd n p b kd z Y := by
  obtain ⟨⟨c1, c2, c3, c4⟩, c5, c6⟩ := h'
  exact ⟨⟨by omega, hzn, by omega, by omega⟩, c5, c6⟩
theorem Gd.push {n p q c : Nat} (h1 : p < q) (h2 : q ≤ n) (hc : c < 10009) : Gd n p 1 false q [c] := by
  refine ⟨⟨h1, h2, ?_, ?_⟩, fun d hd => ?_, fun ts ht => ?_⟩
  · rw [cXs_one]
    unfold cX
    by_cases h : c < 10000
    · rw [if_pos h]; simp only [List.length_cons, List.length_nil]; omega
    · rw [if_neg h, if_pos hc]; simp only [List.length_cons, List.length_nil]; omega
  · simp only [List.length_cons, List.length_nil]; omega
  · rw [List.mem_singleton.mp hd]; omega
  · show (cT c ts).bind _ = _
    unfold cT
    rw [if_pos hc, if_pos (by omega)]; rfl
section PARSEOK
variable {K V N : Nat → Nat} {n : Nat}
def TkO (n : Nat) (K N : Nat → Nat) : Prop := ∀ p, p ≤ n → K p ≠ 401 → p < N p ∧ N p ≤ n
theorem fac_ok (hT : TkO n K N) {g : Option (Nat → Pr)} {b : Nat} (hg : ∀ g', g = some g' → ∀ p, p ≤ n → POk n p b false (g' p)) {p : Nat} (hp : p ≤ n) : POk n p (b + 1) false (pFac K V N g p) := by
  unfold pFac
  by_cases h1 : K p = 400
  · rw [if_pos h1]
    have h := hT p hp (by omega)
    by_cases hv : V p ≤ 9999
    · rw [if_pos hv]; exact (Gd.push h.1 h.2 (by omega)).mono (by omega)
    · rw [if_neg hv]; exact .err (by omega) (by omega) hp
  · rw [if_neg h1]
    by_cases h2 : 300 ≤ K p ∧ K p < 309
    · rw [if_pos h2]
      have h := hT p hp (by omega)
      exact (Gd.push h.1 h.2 (by omega)).mono (by omega)
    · rw [if_neg h2]
      by_cases h3 : K p = 315 ∨ K p = 316 ∨ K p = 317 ∨ K p = 40
      · rw [if_pos h3]
        have hpn := hT p hp (by omega)
        have hq : p ≤ (if K p = 40 then p else N p) ∧ (if K p = 40 then p else N p) ≤ n := by split <;> omega
        generalize (if K p = 40 then p else N p) = q at hq
        by_cases h4 : K q = 40
        · rw [if_pos h4]
          have hqn := hT q hq.2 (by omega)
          cases g with
          | none => exact .err (by omega) (by omega) hq.2
          | some g =>
            refine (hg g rfl (N q) hqn.2).bd2 (fun r X hX => ?_)
            have hr := hX.1.2.1
            by_cases h5 : K p = 315 ∨ K p = 316
            · rw [if_pos h5]
              by_cases h6 : K r = 44
              · rw [if_pos h6]
                have hrn := hT r hr (by omega)
                refine (hg g rfl (N r) hrn.2).bd2 (fun r2 Y hY => ?_)
                by_cases h7 : K r2 = 41
                · rw [if_pos h7]
                  have h2n := hT r2 hY.1.2.1 (by omega)
                  refine Gd.two (kd := false) ((Gd.far (p := p) (by omega) hX (Nat.le_refl r) hr).mono (by omega)) hrn.1 hY (by omega) h2n.2 (by omega) ?_ ?_
                  · rcases h5 with h5 | h5 <;> rw [h5] <;> rfl
                  · rcases h5 with h5 | h5 <;> rw [h5] <;> intro ts <;> rfl
                · rw [if_neg h7]; exact .err (by omega) (by omega) hY.1.2.1
              · rw [if_neg h6]; exact .err (by omega) (by omega) hr
            · rw [if_neg h5]
              by_cases h6 : K r = 41
              · rw [if_pos h6]
                have hrn := hT r hr (by omega)
                by_cases h7 : K p = 317
                · rw [if_pos h7]
                  exact (Gd.one (by omega) hX (by omega) hrn.2 (by omega) rfl (fun ts => rfl)).mono (by omega)
                · rw [if_neg h7, List.append_nil]
                  exact (Gd.far (by omega) hX (by omega) hrn.2).mono (by omega)
              · rw [if_neg h6]; exact .err (by omega) (by omega) hr
        · rw [if_neg h4]; exact .err (by omega) (by omega) hq.2
      · rw [if_neg h3]; exact .err (by omega) (by omega) hp
theorem lp_ok (hT : TkO n K N) {rf : Nat → Pr} {b : Nat} {kd : Bool} (hf : ∀ p, p ≤ n → POk n p b kd (rf p)) {sa sb ca cb : Nat} (hs : sa ≠ 401 ∧ sb ≠ 401) (hca : ca < 20000 ∧ (cX ca).length = 1 ∧ ∀ ts, cT ca (kd :: kd :: ts) = some (kd :: ts)) (hcb : cb < 20000 ∧ (cX cb).length = 1 ∧ ∀ ts, cT cb (kd :: kd :: ts) = some (kd :: ts)) (m : Nat) {p0 p : Nat} {X : List Nat} (hX : Gd n p0 (b + 1) kd p X) : POk n p0 (b + 1) kd (pLp K N rf sa sb ca cb m p X) := by
  induction m generalizing p X with
  | zero => exact hX
  | succ m ih =>
    unfold pLp
    by_cases h : K p = sa ∨ K p = sb
    · rw [if_pos h]
      have hp := hT p hX.1.2.1 (by omega)
      refine (hf (N p) hp.2).bd2 (fun q Y hY => ?_)
      have hc : (if K p = sa then ca else cb) < 20000 ∧ (cX (if K p = sa then ca else cb)).length = 1 ∧ ∀ ts, cT (if K p = sa then ca else cb) (kd :: kd :: ts) = some (kd :: ts) := by
        by_cases hz : K p = sa
        · rw [if_pos hz]; exact hca
        · rw [if_neg hz]; exact hcb
      exact ih (Gd.two hX hp.1 hY (Nat.le_refl q) hY.1.2.1 hc.1 hc.2.1 hc.2.2)
    · rw [if_neg h]; exact hX
theorem sm_ok (hT : TkO n K N) {rf : Nat → Pr} {b : Nat} (hf : ∀ p, p ≤ n → POk n p b false (rf p)) {p : Nat} (hp : p ≤ n) : POk n p (b + 2) false (pSm K N rf p) := by
  have hpr : ∀ p, p ≤ n → POk n p (b + 1) false (pPr K N rf p) := fun p hp => (hf p hp).bd (fun q X hX => lp_ok hT hf (by decide) ⟨by decide, rfl, fun ts => rfl⟩ ⟨by decide, rfl, fun ts => rfl⟩ 301 (hX.mono (by omega)))
  exact (hpr p hp).bd (fun q X hX => lp_ok hT hpr (by decide) ⟨by decide, rfl, fun ts => rfl⟩ ⟨by decide, rfl, fun ts => rfl⟩ 301 (hX.mono (by omega)))
theorem sum_ok (hT : TkO n K N) (k : Nat) {p : Nat} (hp : p ≤ n) : POk n p (3 * k + 3) false (pSum K V N k p) := by
  induction k generalizing p with
  | zero => exact sm_ok hT (fun p hp => fac_ok (b := 0) hT (fun g' h => by cases h) hp) hp
  | succ k ih => exact (sm_ok hT (fun p hp => fac_ok (b := 3 * k + 3) hT (fun g' h => by cases h; exact fun p hp => ih hp) hp) hp).mono (by omega)
theorem cnd_ok (hT : TkO n K N) {rc : Nat → Pr} {b : Nat} (hf : ∀ p, p ≤ n → POk n p b true (rc p)) {p : Nat} (hp : p ≤ n) : POk n p (b + 2) true (pCnd K N rc p) := by
  have hpr : ∀ p, p ≤ n → POk n p (b + 1) true (pAnd K N rc p) := fun p hp => (hf p hp).bd (fun q X hX => lp_ok hT hf (by decide) ⟨by decide, rfl, fun ts => rfl⟩ ⟨by decide, rfl, fun ts => rfl⟩ 301 (hX.mono (by omega)))
  exact (hpr p hp).bd (fun q X hX => lp_ok hT hpr (by decide) ⟨by decide, rfl, fun ts => rfl⟩ ⟨by decide, rfl, fun ts => rfl⟩ 301 (hX.mono (by omega)))
theorem cmp_ok (hT : TkO n K N) {g : Option ((Nat → Pr) × (Nat → Pr))} {sm : Nat → Pr} {b : Nat} (hg : ∀ g', g = some g' → ∀ p, p ≤ n → POk n p b true (g'.1 p) ∧ POk n p b true (g'.2 p)) (hs : ∀ p, p ≤ n → POk n p b false (sm p)) {p : Nat} (hp : p ≤ n) : POk n p (b + 1) true (pCmp K N g sm p) := by
  unfold pCmp
  by_cases h1 : K p = 314
  · rw [if_pos h1]
    have hpn := hT p hp (by omega)
    cases g with
    | none => exact .err (by omega) (by omega) hp
    | some g => exact ((hg g rfl (N p) hpn.2).2).bd2 (fun q X hX => (Gd.one hpn.1 hX (Nat.le_refl q) hX.1.2.1 (by omega) rfl (fun ts => rfl)).mono (by omega))
  · rw [if_neg h1]
    by_cases h2 : K p = 91
    · rw [if_pos h2]
      have hpn := hT p hp (by omega)
      cases g with
      | none => exact .err (by omega) (by omega) hp
      | some g =>
        refine ((hg g rfl (N p) hpn.2).1).bd2 (fun q X hX => ?_)
        by_cases h3 : K q = 93
        · rw [if_pos h3]
          have hqn := hT q hX.1.2.1 (by omega)
          exact (Gd.far hpn.1 hX (by omega) hqn.2).mono (by omega)
        · rw [if_neg h3]; exact .err (by omega) (by omega) hX.1.2.1
    · rw [if_neg h2]
      refine (hs p hp).bd (fun q X hX => ?_)
      by_cases h3 : K q = 60 ∨ K q = 62 ∨ K q = 61
      · rw [if_pos h3]
        have hqn := hT q hX.1.2.1 (by omega)
        refine (hs (N q) hqn.2).bd2 (fun r Y hY => ?_)
        have hc : (if K q = 60 then 10030 else if K q = 62 then 10031 else 10032) < 20000 ∧ (cX (if K q = 60 then 10030 else if K q = 62 then 10031 else 10032)).length = 1 ∧ ∀ ts, cT (if K q = 60 then 10030 else if K q = 62 then 10031 else 10032) (false :: false :: ts) = some (true :: ts) := by
          rcases h3 with h3 | h3 | h3 <;> rw [h3] <;> exact ⟨by decide, rfl, fun ts => rfl⟩
        exact Gd.two (hX.mono (by omega)) hqn.1 hY (Nat.le_refl r) hY.1.2.1 hc.1 hc.2.1 hc.2.2
      · rw [if_neg h3]; exact .err (by omega) (by omega) hX.1.2.1
theorem cm_ok (hT : TkO n K N) (k : Nat) {p : Nat} (hp : p ≤ n) : POk n p (3 * k + 4) true (pCm K V N k p) := by
  induction k generalizing p with
  | zero => exact cmp_ok (b := 3) hT (fun g' h => by cases h) (fun p hp => sum_ok hT 0 hp) hp
  | succ k ih =>
    refine cmp_ok (b := 3 * k + 6) hT (fun g' h => ?_) (fun p hp => sum_ok hT (k + 1) hp) hp
    cases h
    exact fun p hp => ⟨cnd_ok hT (b := 3 * k + 4) (fun p hp => ih hp) hp, (ih hp).mono (by omega)⟩
/-- a whole law -/
theorem law_ok (hT : TkO n K N) (m : Nat) {p : Nat} {X : List Nat} (hp : p ≤ n) (hX : (cXs X).length ≤ p ∧ X.length ≤ p ∧ (∀ c ∈ X, c < 20000) ∧ cTs X [] = some []) : match pLaw K V N m p X with
    | .inl e => 1 ≤ e.1 ∧ e.1 ≤ 3 ∧ e.2 ≤ n
    | .inr (_, Y) => (cXs Y).length ≤ n ∧ Y.length ≤ n ∧ (∀ c ∈ Y, c < 20000) ∧ cTs Y [] = some [] := by
  have add : ∀ {p q : Nat} {X Y : List Nat} {c : Nat}, ((cXs X).length ≤ p ∧ X.length ≤ p ∧ (∀ c ∈ X, c < 20000) ∧ cTs X [] = some []) → p + (cXs Y).length + (cX c).length ≤ q → p + Y.length + 1 ≤ q → (∀ d ∈ Y, d < 20000) → c < 20000 → (cTs Y []).bind (cT c) = some [] → ((cXs (X ++ (Y ++ [c]))).length ≤ q ∧ (X ++ (Y ++ [c])).length ≤ q ∧ (∀ d ∈ X ++ (Y ++ [c]), d < 20000) ∧ cTs (X ++ (Y ++ [c])) [] = some []) := by
    intro p q X Y c hX h1 h2 h3 h4 h5
    refine ⟨?_, ?_, fun d hd => ?_, ?_⟩
    · rw [cXs_app, cXs_app, cXs_one, List.length_append, List.length_append]; omega
    · rw [List.length_append, List.length_append]; simp only [List.length_cons, List.length_nil]; omega
    · rw [List.mem_append, List.mem_append] at hd
      rcases hd with hd | hd | hd
      · exact hX.2.2.1 d hd
      · exact h3 d hd
      · rw [List.mem_singleton.mp hd]; exact h4
    · rw [cTs_app, hX.2.2.2]
      show cTs (Y ++ [c]) [] = some []
      rw [cTs_app]
      cases hy : cTs Y [] with
      | none => rw [hy] at h5; cases h5
      | some t =>
        rw [hy] at h5
        show (cT c t).bind _ = _
        have h6 : cT c t = some [] := h5
        rw [h6]; rfl
  induction m generalizing p X with
  | zero => exact ⟨by omega, by omega, hX.2.2.1, hX.2.2.2⟩
  | succ m ih =>
    unfold pLaw
    by_cases h1 : K p = 401
    · rw [if_pos h1]; exact ⟨by omega, by omega, hX.2.2.1, hX.2.2.2⟩
    · rw [if_neg h1]
      by_cases h2 : K p = 309 ∨ K p = 310
      · rw [if_pos h2]
        by_cases h3 : m = 0
        · rw [if_pos h3]; exact (POk.err (b := 0) (kd := true) (p := 0) (by omega) (by omega) hp : POk n 0 0 true (.inl (3, p)))
        · rw [if_neg h3]
          have hpn := hT p hp h1
          have hs := sum_ok (V := V) hT 6 hpn.2
          cases hq : pSum K V N 6 (N p) with
          | inl e => rw [hq] at hs; exact hs
          | inr y =>
            obtain ⟨q, Y⟩ := y
            rw [hq] at hs
            have hY : Gd n (N p) 21 false q Y := hs
            show match (if K q = 311 then _ else _ : Pr) with
              | .inl e => 1 ≤ e.1 ∧ e.1 ≤ 3 ∧ e.2 ≤ n
              | .inr (_, Y) => (cXs Y).length ≤ n ∧ Y.length ≤ n ∧ (∀ c ∈ Y, c < 20000) ∧ cTs Y [] = some []
            by_cases h4 : K q = 311
            · rw [if_pos h4]
              have hqn := hT q hY.1.2.1 (by omega)
              have hc := cnd_ok hT (b := 22) (fun p hp => cm_ok (V := V) hT 6 hp) hqn.2
              cases hr : pCnd K N (pCm K V N 6) (N q) with
              | inl e => rw [hr] at hc; exact hc
              | inr z =>
                obtain ⟨r, Z⟩ := z
                rw [hr] at hc
                have hZ : Gd n (N q) 24 true r Z := hc
                show match (if K r = 59 then _ else _ : Pr) with
                  | .inl e => 1 ≤ e.1 ∧ e.1 ≤ 3 ∧ e.2 ≤ n
                  | .inr (_, Y) => (cXs Y).length ≤ n ∧ Y.length ≤ n ∧ (∀ c ∈ Y, c < 20000) ∧ cTs Y [] = some []
                by_cases h5 : K r = 59
                · rw [if_pos h5]
                  have hrn := hT r hZ.1.2.1 (by omega)
                  obtain ⟨⟨a1, a2, a3, a4⟩, a5, a6⟩ := hY
                  obtain ⟨⟨c1, c2, c3, c4⟩, c5, c6⟩ := hZ
                  refine ih hrn.2 (add hX ?_ ?_ ?_ (by omega) ?_)
                  · have : (cX (9733 + K p)).length = 2 := by rcases h2 with h2 | h2 <;> rw [h2] <;> rfl
                    rw [cXs_app, List.length_append]; omega
                  · rw [List.length_append]; omega
                  · intro d hd
                    rw [List.mem_append] at hd
                    rcases hd with hd | hd
                    · exact a5 d hd
                    · exact c5 d hd
                  · rw [cTs_app, a6 [] (by decide)]
                    show (cTs Z [false]).bind _ = _
                    rw [c6 [false] (by decide)]
                    rcases h2 with h2 | h2 <;> rw [h2] <;> rfl
                · rw [if_neg h5]; exact (POk.err (b := 0) (kd := true) (p := 0) (by omega) (by omega) hZ.1.2.1 : POk n 0 0 true (.inl (1, r)))
            · rw [if_neg h4]
              by_cases h5 : K q = 59
              · rw [if_pos h5]
                have hqn := hT q hY.1.2.1 (by omega)
                obtain ⟨⟨a1, a2, a3, a4⟩, a5, a6⟩ := hY
                refine ih hqn.2 (add hX ?_ ?_ a5 (by omega) ?_)
                · have : (cX (9731 + K p)).length = 1 := by rcases h2 with h2 | h2 <;> rw [h2] <;> rfl
                  omega
                · omega
                · rw [a6 [] (by decide)]
                  rcases h2 with h2 | h2 <;> rw [h2] <;> rfl
              · rw [if_neg h5]; exact (POk.err (b := 0) (kd := true) (p := 0) (by omega) (by omega) hY.1.2.1 : POk n 0 0 true (.inl (1, q)))
      · rw [if_neg h2]; exact (POk.err (b := 0) (kd := true) (p := 0) (by omega) (by omega) hp : POk n 0 0 true (.inl (1, p)))
end PARSEOK
