/-! What grows, lines, what breaks, calm: on the model's side. -/
theorem tick_hi {A : List Nat} {w h : Int32} {n : Nat} {D : Dk} {o k : Nat} (hk : n ≤ k) (h0 : ¬ (o = 0 ∧ k = 1)) : sTick A w h n D o k = D o k := by
  unfold sTick sC sTk
  rw [if_neg (by omega), mU_at, if_neg h0]
  unfold sB
  rw [if_neg (by omega)]
  unfold sA
  rw [if_neg (by omega)]
theorem slip_v {D : Dk} {k : Nat} (h : D 12 k = 0 ∨ D 12 k = 1 ∨ D 12 k = 2) : sSlip D k = 0 ∨ sSlip D k = 1 ∨ sSlip D k = 2 := by
  unfold sSlip
  split
  · split
    · exact h
    · exact Or.inr (Or.inl rfl)
  · exact h
theorem tear_v {D : Dk} {n k : Nat} (h : D 14 k = 0 ∨ D 14 k = 1) : sTear D n k = 0 ∨ sTear D n k = 1 := by
  unfold sTear
  split
  · exact h
  · split
    · exact h
    · split
      · exact h
      · exact Or.inr rfl
theorem DOK.tick {A : List Nat} {w h : Int32} {n : Nat} {D : Dk} (ok : DOK n D) : DOK n (sTick A w h n D) := by
  obtain ⟨⟨hn, h2, h8⟩, ⟨hm, h9⟩, ⟨hst, hst2⟩, ⟨h14, h142⟩, hz⟩ := ok
  have e12 : ∀ k, k < n → sTick A w h n D 12 k = sSlip (sTk (sB (sA A w h n D n) n)) k := fun k hk => by
    unfold sTick sC
    rw [if_pos hk, if_pos rfl]
  have e14 : ∀ k, k < n → sTick A w h n D 14 k = sTear (sTk (sB (sA A w h n D n) n)) n k := fun k hk => by
    unfold sTick sC
    rw [if_pos hk, if_neg (by decide), if_pos rfl]
  have f12 : ∀ k, sTk (sB (sA A w h n D n) n) 12 k = D 12 k := fun k => by simp [sTk, sB, sA, mU_at]
  have f14 : ∀ k, sTk (sB (sA A w h n D n) n) 14 k = D 14 k := fun k => by simp [sTk, sB, sA, mU_at]
  refine ⟨⟨tick_0.trans hn, h2, h8⟩, ⟨by rw [tick_2]; exact hm, by rw [tick_2]; exact h9⟩, ⟨fun k hk => ?_, fun k h1 h2 => ?_⟩, ⟨fun k hk => ?_, fun k h1 h2 => ?_⟩, fun k h1 h2 => ?_⟩
  · by_cases hkn : k < n
    · rw [e12 k hkn]; exact slip_v (by rw [f12]; exact hst k hk)
    · rw [tick_hi (by omega) (by omega)]; exact hst k hk
  · rw [tick_hi h1 (by omega)]; exact hst2 k h1 h2
  · by_cases hkn : k < n
    · rw [e14 k hkn]; exact tear_v (by rw [f14]; exact h14 k hk)
    · rw [tick_hi (by omega) (by omega)]; exact h14 k hk
  · by_cases hkn : k < n
    · rw [e14 k hkn]
      unfold sTear
      split
      · rw [f14]; exact h142 k h1 h2
      · rw [f14]; exact h142 k h1 h2
    · rw [tick_hi (by omega) (by omega)]; exact h142 k h1 h2
  · rw [tick_hi h1 (by omega), tick_hi h1 (by omega), tick_hi h1 (by omega), tick_hi h1 (by omega)]
    exact hz k h1 h2
theorem DOK.run {A : List Nat} {w h : Int32} {n : Nat} {D : Dk} (ok : DOK n D) (t : Nat) : DOK n (sRun A w h n D t) := by
  induction t with
  | zero => exact ok
  | succ t ih => exact ih.tick
theorem DOK.beg {n : Nat} {D : Dk} (ok : DOK n D) (kd j a : Int32) : DOK n (sBeg D n kd j a) := by
  obtain ⟨⟨hn, h2, h8⟩, ⟨hm, h9⟩, ⟨hst, hst2⟩, ⟨h14, h142⟩, hz⟩ := ok
  refine ⟨⟨beg_0.trans hn, h2, h8⟩, ⟨by simpa [sBeg, sSh, sRest] using hm, by simpa [sBeg, sSh, sRest] using h9⟩, ⟨fun k hk => ?_, fun k h1 h2 => ?_⟩, ⟨fun k hk => ?_, fun k h1 h2 => ?_⟩, fun k h1 h2 => ?_⟩
  · have := hst k hk
    by_cases hkn : k < n
    · simp [sBeg, sSh, sRest, hkn, sFx]
      rcases this with h | h | h <;> simp [h]
    · simpa [sBeg, sSh, sRest, hkn] using this
  · simpa [sBeg, sSh, sRest, show ¬ k < n by omega] using hst2 k h1 h2
  · simp [sBeg, sSh, sRest]
  · simp [sBeg, sSh, sRest]
  · simp [sBeg, sSh, sRest, show ¬ k < n by omega]
theorem sMax_0 {f : Nat → Int32} (n : Nat) : 0 ≤ sMax f n := by
  induction n with
  | zero => exact Int32.le_refl 0
  | succ n ih =>
    unfold sMax
    split
    · rename_i h; exact Int32.le_of_lt (Int32.lt_of_le_of_lt ih h)
    · exact ih
theorem sEar_0 {A : List Nat} {w h : Int32} {n : Nat} {D : Dk} {kd : Int32} (t : Nat) : 0 ≤ sEar A w h n D kd t := by
  induction t with
  | zero => exact Int32.le_refl 0
  | succ t ih =>
    unfold sEar
    split
    · exact sMax_0 n
    · exact ih
section MGROW
variable {M : Mem} {A : List Nat} {D E : Dk} {n i : Nat} {w hd : Int32}
theorem t_grows (hi : i < 4) (h : MD M D) (ok : DOK n D) (hR : RM M i A) (hw : cTs A [] = some []) (hh : M 250 18 = hd) {q : Nat} (hq : q < 2) (j a : Int32) : tot (f_X11_growsBy M 250 (nI i) w (nI q) j a) (fun r M' => r = b2 (sGrows A w hd n D (nI q) j a) ∧ MD M' D ∧ GF M M') := by
  have h8 := ok.1.2.2
  unfold f_X11_growsBy
  refine tot.bd (t_begins h ok hq j a) ?_
  rintro r M1 ⟨hK1, hM1, hf1⟩
  have okB := ok.beg (nI q) j a
  have hgr : sGrows A w hd n D (nI q) j a = sAny (fun i => sHit A w hd n (sBeg D n (nI q) j a) (nI q) (31 + i)) 30 := rfl
  have b0 : sBeg D n (nI q) j a 0 0 = D 0 0 := beg_0
  have bb2 : ∀ k, sBeg D n (nI q) j a 2 k = D 2 k := fun k => by simp [sBeg, sSh, sRest]
  generalize sBeg D n (nI q) j a = B at hM1 okB hgr b0 bb2
  have r2 : ∀ t k, sRun A w hd n B t 2 k = D 2 k := fun t k => by
    induction t with
    | zero => exact bb2 k
    | succ t ih => exact (tick_2 k).trans ih
  have hback : ∀ (M2 : Mem) t, MD M2 (sRun A w hd n B t) → KD M2 D → tot (f_X11_laysBack M2 250) (fun _ M' => MD M' D ∧ TF M2 M') := fun M2 t hM2 hK2 => t_back hK2 hM2 ((run_0 t).trans b0) (fun k _ => r2 t k) ok.2.2.2.1.1
  refine tot.loopFU (σ := Int32 × Int32 × Int32 × Mem) (fun m s => f_X11_growsBy_h18 250 (nI i) w (nI q) j a m s.1 s.2.1 s.2.2.1 s.2.2.2) 60 (fun t s => s.1 = sEar A w hd n B (nI q) (if t ≤ 30 then t else 30) ∧ s.2.2.1 = nI (t + 1) ∧ (t ≤ 30 → s.2.1 = 0) ∧ ((s.2.1 ≤ sEar A w hd n B (nI q) 30 ∧ ∀ z, 31 + z ≤ t → sHit A w hd n B (nI q) (31 + z) = false) ∨ (30 < t ∧ ¬ s.2.1 ≤ sEar A w hd n B (nI q) 30 ∧ ∃ z, 31 + z ≤ t ∧ sHit A w hd n B (nI q) (31 + z) = true)) ∧ MD s.2.2.2 (sRun A w hd n B t) ∧ KD s.2.2.2 D ∧ GF M s.2.2.2) _ (by omega) (0, 0, 1, M1) ⟨rfl, rfl, fun _ => rfl, Or.inl ⟨sEar_0 30, fun z hz => by omega⟩, hM1, hK1, hf1⟩ ?_ ?_
  · rintro m t ⟨e, l, x, M2⟩ ht ⟨he, hx, hl0, hc, hM2, hK2, hf2⟩ hnext
    dsimp only at he hx hl0 hc hM2 hK2 hf2
    subst hx
    show tot (f_X11_growsBy_h18 250 (nI i) w (nI q) j a (m + 1) e l (nI (t + 1)) M2) _
    rw [f_X11_growsBy_h18, if_neg (show ¬ (60 : Int32) < nI _ from nI_nlt (a := 60) (by omega) (by omega))]
    refine tot.bd (t_tick (hd := hd) hi hM2 (okB.run t) (hR.gf hi hf2) hw (by rw [hf2.2 18 (by omega) (by omega) (by omega) (by omega)]; exact hh)) ?_
    rintro r2' M3 ⟨hM3, hf3⟩
    have hM3 : MD M3 (sRun A w hd n B (t + 1)) := hM3
    have hK3 := hK2.tf hf3
    have hf3 := hf2.tr hf3.g
    show tot ((f_X11_sizeOf M3 250 (nI q)).bind _) _
    rw [t_size hM3 (okB.run (t + 1)).1.1 h8 hq, Option.bind_some]
    unfold f_X11_growsBy_b78 f_X11_growsBy_b59 f_X11_growsBy_b80
    rw [nI_1]
    show tot (if 30 < nI (t + 1) then (if sSize (sRun A w hd n B (t + 1)) n (nI q) ≤ l then _ else _) else (if sSize (sRun A w hd n B (t + 1)) n (nI q) ≤ e then _ else _)) _
    by_cases h30 : t < 30
    · rw [if_neg (show ¬ (30 : Int32) < nI _ from nI_nlt (a := 30) (by omega) (by omega))]
      have hear : sEar A w hd n B (nI q) (t + 1) = if e < sSize (sRun A w hd n B (t + 1)) n (nI q) then sSize (sRun A w hd n B (t + 1)) n (nI q) else e := by
        rw [he, if_pos (show t ≤ 30 by omega)]
        rfl
      have hl : l = 0 := hl0 (by omega)
      by_cases hz : sSize (sRun A w hd n B (t + 1)) n (nI q) ≤ e
      · rw [if_pos hz]
        refine hnext (e, l, nI (t + 1 + 1), M3) ⟨?_, rfl, fun _ => hl, Or.inl ⟨by rw [hl]; exact sEar_0 30, fun z hz => by omega⟩, hM3, hK3, hf3⟩
        dsimp only
        rw [if_pos (show t + 1 ≤ 30 by omega), hear, if_neg (Int32.not_lt.mpr hz)]
      · rw [if_neg hz]
        refine hnext (sSize (sRun A w hd n B (t + 1)) n (nI q), l, nI (t + 1 + 1), M3) ⟨?_, rfl, fun _ => hl, Or.inl ⟨by rw [hl]; exact sEar_0 30, fun z hz => by omega⟩, hM3, hK3, hf3⟩
        dsimp only
        rw [if_pos (show t + 1 ≤ 30 by omega), hear, if_pos (Int32.not_le.mp hz)]
    · rw [if_pos (show (30 : Int32) < nI _ from nI_lt (a := 30) (by omega) (by omega))]
      have he2 : e = sEar A w hd n B (nI q) 30 := by
        rw [he]
        congr 1
        split <;> omega
      have hold : ∀ z, 31 + z ≤ t + 1 → 31 + z ≤ t ∨ 31 + z = t + 1 := fun z hz => by omega
      have hhit : sHit A w hd n B (nI q) (t + 1) = decide (sEar A w hd n B (nI q) 30 < sSize (sRun A w hd n B (t + 1)) n (nI q)) := rfl
      have hgo : ∀ l', (l' ≤ sEar A w hd n B (nI q) 30 ↔ l ≤ sEar A w hd n B (nI q) 30 ∧ sSize (sRun A w hd n B (t + 1)) n (nI q) ≤ sEar A w hd n B (nI q) 30) → tot (f_X11_growsBy_h18 250 (nI i) w (nI q) j a m e l' (nI (t + 1 + 1)) M3) (fun r M' => r = b2 (sGrows A w hd n D (nI q) j a) ∧ MD M' D ∧ GF M M') := by
        intro l' hl'
        refine hnext (e, l', nI (t + 1 + 1), M3) ⟨by dsimp only; rw [if_neg (show ¬ t + 1 ≤ 30 by omega)]; exact he2, rfl, fun z => by omega, ?_, hM3, hK3, hf3⟩
        dsimp only
        by_cases hs : sSize (sRun A w hd n B (t + 1)) n (nI q) ≤ sEar A w hd n B (nI q) 30
        · have hno : sHit A w hd n B (nI q) (t + 1) = false := by rw [hhit]; exact decide_eq_false (Int32.not_lt.mpr hs)
          rcases hc with ⟨c1, c2⟩ | ⟨c1, c2, z, c3, c4⟩
          · refine Or.inl ⟨hl'.mpr ⟨c1, hs⟩, fun z hz => ?_⟩
            rcases hold z hz with h9 | h9
            · exact c2 z h9
            · rw [h9]; exact hno
          · exact Or.inr ⟨by omega, fun z9 => c2 (hl'.mp z9).1, z, by omega, c4⟩
        · have hyes : sHit A w hd n B (nI q) (t + 1) = true := by rw [hhit]; exact decide_eq_true (Int32.not_le.mp hs)
          exact Or.inr ⟨by omega, fun z9 => hs (hl'.mp z9).2, t - 30, by omega, by rw [show 31 + (t - 30) = t + 1 by omega]; exact hyes⟩
      by_cases hz : sSize (sRun A w hd n B (t + 1)) n (nI q) ≤ l
      · rw [if_pos hz]
        exact hgo l ⟨fun z => ⟨z, Int32.le_trans hz z⟩, fun z => z.1⟩
      · rw [if_neg hz]
        exact hgo _ ⟨fun z => ⟨Int32.le_trans (Int32.le_of_lt (Int32.not_le.mp hz)) z, z⟩, fun z => z.2⟩
  · rintro m ⟨e, l, x, M2⟩ ⟨he, hx, hl0, hc, hM2, hK2, hf2⟩
    dsimp only at he hx hl0 hc hM2 hK2 hf2
    subst hx
    show tot (f_X11_growsBy_h18 250 (nI i) w (nI q) j a (m + 1) e l (nI (60 + 1)) M2) _
    rw [f_X11_growsBy_h18, if_pos (show (60 : Int32) < nI _ from nI_lt (a := 60) (by omega) (by omega))]
    have he2 : e = sEar A w hd n B (nI q) 30 := he
    refine tot.bd (hback M2 60 hM2 hK2) ?_
    rintro r3 M3 ⟨hM3, hf3⟩
    show tot (if l ≤ e then _ else _) _
    rw [he2]
    rcases hc with ⟨c1, c2⟩ | ⟨c1, c2, z, c3, c4⟩
    · rw [if_pos c1]
      refine tot.ret ⟨?_, hM3, hf2.tr hf3.g⟩
      rw [hgr, sAny_f (fun z hz => c2 z (by omega))]; rfl
    · rw [if_neg c2]
      refine tot.ret ⟨?_, hM3, hf2.tr hf3.g⟩
      rw [hgr, sAny_t (i := z) (by omega) c4]; rfl
theorem t_line (hi : i < 4) (h : MD M D) (ok : DOK n D) (hR : RM M i A) (hw : cTs A [] = some []) (hh : M 250 18 = hd) {q : Nat} (hq : q < 2) (j : Int32) : tot (f_X11_lineOf M 250 (nI i) (nI q) j) (fun r M' => r = sLine A hd n D (nI q) j ∧ MD M' D ∧ GF M M') := by
  unfold f_X11_lineOf
  refine tot.loopFU (σ := Int32 × Mem) (fun m s9 => f_X11_lineOf_h3 250 (nI i) (nI q) j m s9.1 s9.2) 61 (fun t s9 => s9.1 = nI t ∧ (∀ z, z < t → sGrows A (nI z) hd n D (nI q) j 100 = false) ∧ MD s9.2 D ∧ GF M s9.2) _ (by omega) (0, M) ⟨rfl, fun z hz => by omega, h, GF.rf⟩ ?_ ?_
  · rintro m t ⟨x, M2⟩ ht ⟨hx, hg, hM2, hf2⟩ hnext
    dsimp only at hx hg hM2 hf2
    subst hx
    show tot (f_X11_lineOf_h3 250 (nI i) (nI q) j (m + 1) (nI t) M2) _
    rw [f_X11_lineOf_h3, if_neg (show ¬ (60 : Int32) < nI _ from nI_nlt (a := 60) (by omega) (by omega))]
    refine tot.bd (t_grows (hd := hd) hi hM2 ok (hR.gf hi hf2) hw (by rw [hf2.2 18 (by omega) (by omega) (by omega) (by omega)]; exact hh) hq j 100) ?_
    rintro r2 M3 ⟨rfl, hM3, hf3⟩
    show tot (if b2 (sGrows A (nI t) hd n D (nI q) j 100) = 0 then _ else _) _
    rw [nI_1]
    cases hz : sGrows A (nI t) hd n D (nI q) j 100 with
    | false =>
      rw [if_pos (by rfl)]
      refine hnext (nI (t + 1), M3) ⟨rfl, fun z hz2 => ?_, hM3, hf2.tr hf3⟩
      by_cases h9 : z = t
      · rw [h9]; exact hz
      · exact hg z (by omega)
    | true =>
      rw [if_neg (by decide)]
      refine tot.ret ⟨?_, hM3, hf2.tr hf3⟩
      unfold sLine
      rw [fFst_hit (k := t) (by omega) (fun z hz2 => by rw [Nat.zero_add]; exact hg z hz2) (by rw [Nat.zero_add]; exact hz), Nat.zero_add]
  · rintro m ⟨x, M2⟩ ⟨hx, hg, hM2, hf2⟩
    dsimp only at hx hg hM2 hf2
    subst hx
    show tot (f_X11_lineOf_h3 250 (nI i) (nI q) j (m + 1) (nI 61) M2) _
    rw [f_X11_lineOf_h3, if_pos (show (60 : Int32) < nI _ from nI_lt (a := 60) (by omega) (by omega))]
    refine tot.ret ⟨?_, hM2, hf2⟩
    unfold sLine
    rw [fFst_no (fun z hz2 => by rw [Nat.zero_add]; exact hg z hz2)]
theorem t_isSo (h : MD M D) (ok : DOK n D) (b : Int32) : f_X11_isSo M 250 b = some (sLeast D n b, M) := by
  obtain ⟨⟨hn, h2, h8⟩, _, _, ⟨h14, _⟩, _⟩ := ok
  unfold f_X11_isSo
  have key : ∀ d k, k + d = n → ∀ m, d < m → f_X11_isSo_h2 250 b m (nI k) M = some (fFst (sBrk D b) d k, M) := by
    intro d
    induction d with
    | zero =>
      intro k hk m hm
      obtain ⟨m, rfl⟩ : ∃ q, m = q + 1 := ⟨m - 1, by omega⟩
      rw [f_X11_isSo_h2, h.p, hn, if_pos (i_le (by omega) (by omega))]
      rfl
    | succ d ih =>
      intro k hk m hm
      obtain ⟨m, rfl⟩ : ∃ q, m = q + 1 := ⟨m - 1, by omega⟩
      have hk1 := i_lt0 (show k < 100000 by omega)
      have hk2 := i_cl (show k < 100000 by omega)
      have hk3 : ¬ 8 ≤ k := by omega
      have hi := ih (k + 1) (by omega) m (by omega)
      rw [f_X11_isSo_h2, h.p, hn, if_neg (i_nle (by omega) (by omega))]
      unfold f_X11_isSo_b38
      simp only [hk1, hk2, hk3, m_24, l_272, m_25, l_273, or_self, not_false_eq_true, ↓reduceIte, nI_1, hi, h.a12 (show k < 8 by omega), h.a14 (show k < 8 by omega)]
      rw [show fFst (sBrk D b) (d + 1) k = (if sBrk D b k = true then nI k else fFst (sBrk D b) d (k + 1)) from rfl]
      unfold sBrk
      by_cases hb : b = 0
      · simp only [hb, ↓reduceIte, decide_eq_true_eq]
        split <;> rfl
      · simp only [hb, ↓reduceIte, decide_eq_true_eq]
        rcases h14 k (by omega) with h0 | h1
        · rw [h0, if_pos rfl, if_neg (by decide)]
        · rw [h1, if_neg (by decide), if_pos rfl]
  exact key n 0 (by omega) FU (by unfold FU; omega)
theorem fFst_r {p : Nat → Bool} (c s : Nat) : fFst p c s = (-1) ∨ ∃ q, s ≤ q ∧ q < s + c ∧ fFst p c s = nI q := by
  induction c generalizing s with
  | zero => exact Or.inl rfl
  | succ c ih =>
    unfold fFst
    split
    · exact Or.inr ⟨s, by omega, by omega, rfl⟩
    · rcases ih (s + 1) with h | ⟨q, h1, h2, h3⟩
      · exact Or.inl h
      · exact Or.inr ⟨q, by omega, by omega, h3⟩
theorem i100 : ∀ t, t < 61 → ∀ q, q < 8 → (100 : Int32) * nI t + nI q = nI (100 * t + q) := fun t _ q _ => by rw [show (100 : Int32) = nI 100 from rfl, i_mul, nI_add]
theorem i100_d : ∀ t, t < 61 → ∀ q, q < 8 → nI (100 * t + q) / 100 = nI t ∧ nI (100 * t + q) - nI (100 * t + q) / 100 * 100 = nI q ∧ ¬ nI (100 * t + q) = (-1) := by decide +kernel
theorem t_first (hi : i < 4) (h : MD M D) (ok : DOK n D) (hR : RM M i A) (hw : cTs A [] = some []) (hh : M 250 18 = hd) {q : Nat} (hq : q < 2) (j b : Int32) : tot (f_X11_firstOf M 250 (nI i) w (nI q) j b) (fun r M' => MD M' D ∧ GF M M' ∧ ((∃ t z, 0 < t ∧ t < 61 ∧ z < 8 ∧ (∀ y, 1 + y < t → sLeast (sRun A w hd n (sBeg D n (nI q) j 100) (1 + y)) n b = (-1)) ∧ sLeast (sRun A w hd n (sBeg D n (nI q) j 100) t) n b = nI z ∧ r = nI (100 * t + z)) ∨ ((∀ y, 1 + y < 61 → sLeast (sRun A w hd n (sBeg D n (nI q) j 100) (1 + y)) n b = (-1)) ∧ r = (-1)))) := by
  have h8 := ok.1.2.2
  unfold f_X11_firstOf
  refine tot.bd (t_begins h ok hq j 100) ?_
  rintro r M1 ⟨hK1, hM1, hf1⟩
  have okB := ok.beg (nI q) j 100
  have b0 : sBeg D n (nI q) j 100 0 0 = D 0 0 := beg_0
  have bb2 : ∀ k, sBeg D n (nI q) j 100 2 k = D 2 k := fun k => by simp [sBeg, sSh, sRest]
  generalize sBeg D n (nI q) j 100 = B at hM1 okB b0 bb2
  have r2 : ∀ t k, sRun A w hd n B t 2 k = D 2 k := fun t k => by
    induction t with
    | zero => exact bb2 k
    | succ t ih => exact (tick_2 k).trans ih
  have hback : ∀ (M2 : Mem) t (x : Int32), MD M2 (sRun A w hd n B t) → KD M2 D → GF M M2 → tot (f_X11_firstOf_b68 250 (nI i) w (nI q) j b x M2) (fun r M' => r = x ∧ MD M' D ∧ GF M M') := fun M2 t x hM2 hK2 hf2 => by
    unfold f_X11_firstOf_b68
    refine tot.bd (t_back hK2 hM2 ((run_0 t).trans b0) (fun k _ => r2 t k) ok.2.2.2.1.1) ?_
    rintro r M3 ⟨h1, h2⟩
    exact tot.ret ⟨rfl, h1, hf2.tr h2.g⟩
  refine tot.loopFU (σ := Int32 × Int32 × Mem) (fun m s => f_X11_firstOf_h15 250 (nI i) w (nI q) j b m s.1 s.2.1 s.2.2) 60 (fun t s => s.2.1 = nI (t + 1) ∧ MD s.2.2 (sRun A w hd n B t) ∧ KD s.2.2 D ∧ GF M s.2.2 ∧ (((∀ y, 1 + y ≤ t → sLeast (sRun A w hd n B (1 + y)) n b = (-1)) ∧ s.1 = (-1)) ∨ (0 < t ∧ (∀ y, 1 + y < t → sLeast (sRun A w hd n B (1 + y)) n b = (-1)) ∧ ∃ z, z < 8 ∧ sLeast (sRun A w hd n B t) n b = nI z ∧ s.1 = nI (100 * t + z)))) _ (by omega) ((-1), 1, M1) ⟨rfl, hM1, hK1, hf1, Or.inl ⟨fun y hy => by omega, rfl⟩⟩ ?_ ?_
  · rintro m t ⟨e, x, M2⟩ ht ⟨hx, hM2, hK2, hf2, hc⟩ hnext
    dsimp only at hx hM2 hK2 hf2 hc
    subst hx
    show tot (f_X11_firstOf_h15 250 (nI i) w (nI q) j b (m + 1) e (nI (t + 1)) M2) _
    rw [f_X11_firstOf_h15, if_neg (show ¬ (60 : Int32) < nI _ from nI_nlt (a := 60) (by omega) (by omega))]
    rcases hc with ⟨c1, c2⟩ | ⟨c0, c1, z, c2, c3, c4⟩
    · rw [if_pos c2]
      refine tot.bd (t_tick (hd := hd) hi hM2 (okB.run t) (hR.gf hi hf2) hw (by rw [hf2.2 18 (by omega) (by omega) (by omega) (by omega)]; exact hh)) ?_
      rintro r2' M3 ⟨hM3, hf3⟩
      have hM3 : MD M3 (sRun A w hd n B (t + 1)) := hM3
      have hK3 := hK2.tf hf3
      have hf3 := hf2.tr hf3.g
      show tot ((f_X11_isSo M3 250 b).bind _) _
      rw [t_isSo hM3 (okB.run (t + 1)) b, Option.bind_some]
      unfold f_X11_firstOf_b60
      rw [nI_1]
      show tot (if sLeast (sRun A w hd n B (t + 1)) n b = (-1) then _ else _) _
      by_cases hz : sLeast (sRun A w hd n B (t + 1)) n b = (-1)
      · rw [if_pos hz]
        refine hnext ((-1), nI (t + 1 + 1), M3) ⟨rfl, hM3, hK3, hf3, Or.inl ⟨fun y hy => ?_, rfl⟩⟩
        by_cases hy2 : 1 + y ≤ t
        · exact c1 y hy2
        · rw [show 1 + y = t + 1 by omega]; exact hz
      · rw [if_neg hz]
        rcases fFst_r (p := sBrk (sRun A w hd n B (t + 1)) b) n 0 with h9 | ⟨z, z1, z2, z3⟩
        · exact absurd h9 hz
        · have z3 : sLeast (sRun A w hd n B (t + 1)) n b = nI z := z3
          refine hnext (nI (100 * (t + 1) + z), nI (t + 1 + 1), M3) ⟨rfl, hM3, hK3, hf3, Or.inr ⟨by omega, fun y hy => c1 y (by omega), z, by omega, z3, rfl⟩⟩ |> tot.eq ?_
          rw [z3, i100 (t + 1) (by omega) z (by omega)]
    · have hne := (i100_d t (by omega) z c2).2.2
      rw [if_neg (by rw [c4]; exact hne)]
      refine tot.mono (hback M2 t e hM2 hK2 hf2) ?_
      rintro r M3 ⟨rfl, h1, h2⟩
      exact ⟨h1, h2, Or.inl ⟨t, z, c0, by omega, c2, c1, c3, c4⟩⟩
  · rintro m ⟨e, x, M2⟩ ⟨hx, hM2, hK2, hf2, hc⟩
    dsimp only at hx hM2 hK2 hf2 hc
    subst hx
    show tot (f_X11_firstOf_h15 250 (nI i) w (nI q) j b (m + 1) e (nI (60 + 1)) M2) _
    rw [f_X11_firstOf_h15, if_pos (show (60 : Int32) < nI _ from nI_lt (a := 60) (by omega) (by omega))]
    refine tot.mono (hback M2 60 e hM2 hK2 hf2) ?_
    rintro r M3 ⟨rfl, h1, h2⟩
    rcases hc with ⟨c1, c2⟩ | ⟨c0, c1, z, c2, c3, c4⟩
    · exact ⟨h1, h2, Or.inr ⟨fun y hy => c1 y (by omega), c2⟩⟩
    · exact ⟨h1, h2, Or.inl ⟨60, z, by omega, by omega, c2, c1, c3, c4⟩⟩
theorem six_p : ∀ c, c < 2 → ∀ z, z < 3 → ((if (c + 2 * z) % 2 = 0 then (0 : Int32) else 1) = nI c ∧ 1 + (c + 2 * z) / 2 = 1 + z ∧ c + 2 * z < 6) := by decide +kernel
theorem t_calm (hi : i < 4) (h : MD M D) (ok : DOK n D) (hR : RM M i A) (hw : cTs A [] = some []) (hh : M 250 18 = 100) : tot (f_X11_isCalm M 250 (nI i) w) (fun r M' => r = b2 (sCalm A w n D) ∧ MD M' D ∧ GF M M') := by
  have hsix : ∀ c, c < 2 → ∀ z, z < 3 → sSix A w n D (c + 2 * z) = sGrows A w 100 n D (nI c) (nI (1 + z)) 100 := fun c hc z hz => by
    obtain ⟨a1, a2, _⟩ := six_p c hc z hz
    unfold sSix
    rw [a1, a2]
  unfold f_X11_isCalm
  refine tot.loopFU (σ := Int32 × Mem) (fun m s => f_X11_isCalm_h2 250 (nI i) w m s.1 s.2) 2 (fun c s => s.1 = nI c ∧ (∀ c', c' < c → ∀ z, z < 3 → sSix A w n D (c' + 2 * z) = false) ∧ MD s.2 D ∧ GF M s.2) _ (by omega) (0, M) ⟨rfl, fun c hc => by omega, h, GF.rf⟩ ?_ ?_
  · rintro m c ⟨x, M2⟩ hc ⟨hx, hg, hM2, hf2⟩ hnext
    dsimp only at hx hg hM2 hf2
    subst hx
    show tot (f_X11_isCalm_h2 250 (nI i) w (m + 1) (nI c) M2) _
    rw [f_X11_isCalm_h2, if_neg (show ¬ (2 : Int32) ≤ nI c from i_nle (b := 2) hc (by omega))]
    refine tot.loopFU (σ := Int32 × Mem) (fun m9 s => f_X11_isCalm_h10 250 (nI i) w (f_X11_isCalm_h2 250 (nI i) w m) m9 (nI c) s.1 s.2) 3 (fun z s => s.1 = nI (1 + z) ∧ (∀ z', z' < z → sSix A w n D (c + 2 * z') = false) ∧ MD s.2 D ∧ GF M s.2) _ (by omega) (1, M2) ⟨rfl, fun z hz => by omega, hM2, hf2⟩ ?_ ?_
    · rintro m2 z ⟨x, M3⟩ hz ⟨hx, hg2, hM3, hf3⟩ hnext2
      dsimp only at hx hg2 hM3 hf3
      subst hx
      show tot (f_X11_isCalm_h10 250 (nI i) w _ (m2 + 1) (nI c) (nI (1 + z)) M3) _
      rw [f_X11_isCalm_h10, if_neg (show ¬ (4 : Int32) ≤ nI (1 + z) from i_nle (b := 4) (by omega) (by omega))]
      refine tot.bd (t_grows (hd := 100) hi hM3 ok (hR.gf hi hf3) hw (by rw [hf3.2 18 (by omega) (by omega) (by omega) (by omega)]; exact hh) hc (nI (1 + z)) 100) ?_
      rintro r2 M4 ⟨rfl, hM4, hf4⟩
      rw [← hsix c hc z hz]
      show tot (if b2 (sSix A w n D (c + 2 * z)) = 0 then _ else _) _
      rw [nI_1]
      cases hy : sSix A w n D (c + 2 * z) with
      | false =>
        rw [if_pos (by rfl)]
        refine hnext2 (nI (1 + z + 1), M4) ⟨by rw [Nat.add_assoc], fun z' hz' => ?_, hM4, hf3.tr hf4⟩
        by_cases h9 : z' = z
        · rw [h9]; exact hy
        · exact hg2 z' (by omega)
      | true =>
        rw [if_neg (by decide)]
        refine tot.ret ⟨?_, hM4, hf3.tr hf4⟩
        unfold sCalm
        rw [sAny_t (six_p c hc z hz).2.2 hy]; rfl
    · rintro m2 ⟨x, M3⟩ ⟨hx, hg2, hM3, hf3⟩
      dsimp only at hx hg2 hM3 hf3
      subst hx
      show tot (f_X11_isCalm_h10 250 (nI i) w _ (m2 + 1) (nI c) (nI (1 + 3)) M3) _
      rw [f_X11_isCalm_h10, if_pos (by decide), nI_1]
      refine hnext (nI (c + 1), M3) ⟨rfl, fun c' hc' => ?_, hM3, hf3⟩
      by_cases h9 : c' = c
      · rw [h9]; exact hg2
      · exact hg c' (by omega)
  · rintro m ⟨x, M2⟩ ⟨hx, hg, hM2, hf2⟩
    dsimp only at hx hg hM2 hf2
    subst hx
    show tot (f_X11_isCalm_h2 250 (nI i) w (m + 1) (nI 2) M2) _
    rw [f_X11_isCalm_h2, if_pos (by decide)]
    refine tot.ret ⟨?_, hM2, hf2⟩
    unfold sCalm
    rw [sAny_f (fun k hk => by
      have := hg (k % 2) (by omega) (k / 2) (by omega)
      rw [show k % 2 + 2 * (k / 2) = k by omega] at this
      exact this)]
    rfl
theorem t_cto (hi : i < 4) (h : MD M D) (ok : DOK n D) (hR : RM M i A) (hw : cTs A [] = some []) (hh : M 250 18 = 100) : tot (f_X11_calmTo M 250 (nI i)) (fun r M' => r = sCto A n D ∧ MD M' D ∧ GF M M') := by
  unfold f_X11_calmTo sCto
  refine tot.loopFU (σ := Int32 × Mem) (fun m s => f_X11_calmTo_h2 250 (nI i) m s.1 s.2) 13 (fun t s => s.1 = nI t ∧ (∀ z, z < t → sCalm A (nI z) n D = true) ∧ MD s.2 D ∧ GF M s.2) _ (by omega) (0, M) ⟨rfl, fun z hz => by omega, h, GF.rf⟩ ?_ ?_
  · rintro m t ⟨x, M2⟩ ht ⟨hx, hg, hM2, hf2⟩ hnext
    dsimp only at hx hg hM2 hf2
    subst hx
    show tot (f_X11_calmTo_h2 250 (nI i) (m + 1) (nI t) M2) _
    rw [f_X11_calmTo_h2, if_neg (show ¬ (12 : Int32) < nI _ from nI_nlt (a := 12) (by omega) (by omega))]
    refine tot.bd (t_calm (w := nI t) hi hM2 ok (hR.gf hi hf2) hw (by rw [hf2.2 18 (by omega) (by omega) (by omega) (by omega)]; exact hh)) ?_
    rintro r2 M3 ⟨rfl, hM3, hf3⟩
    show tot (if b2 (sCalm A (nI t) n D) = 0 then _ else _) _
    rw [nI_1]
    cases hz : sCalm A (nI t) n D with
    | false =>
      rw [if_pos (by rfl)]
      refine tot.ret ⟨?_, hM3, hf2.tr hf3⟩
      rw [fUp_hit (k := t) ht (fun z hz2 => by rw [Nat.zero_add]; exact hg z hz2) (by rw [Nat.zero_add]; exact hz), Nat.zero_add]
    | true =>
      rw [if_neg (by decide)]
      refine hnext (nI (t + 1), M3) ⟨rfl, fun z hz2 => ?_, hM3, hf2.tr hf3⟩
      by_cases h9 : z = t
      · rw [h9]; exact hz
      · exact hg z (by omega)
  · rintro m ⟨x, M2⟩ ⟨hx, hg, hM2, hf2⟩
    dsimp only at hx hg hM2 hf2
    subst hx
    show tot (f_X11_calmTo_h2 250 (nI i) (m + 1) (nI 13) M2) _
    rw [f_X11_calmTo_h2, if_pos (by decide)]
    refine tot.ret ⟨?_, hM2, hf2⟩
    rw [fUp_all (fun z hz2 => by rw [Nat.zero_add]; exact hg z hz2)]
    decide
end MGROW
