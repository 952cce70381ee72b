/-! What grows, lines, calm, what breaks: on the class's trial deck. -/
theorem sAny_f {p : Nat → Bool} {c : Nat} (h : ∀ i, i < c → p i = false) : sAny p c = false := by
  induction c with
  | zero => rfl
  | succ c ih =>
    show (sAny p c || p c) = false
    rw [ih (fun i hi => h i (by omega)), h c (by omega)]; rfl
theorem sAny_t {p : Nat → Bool} {c i : Nat} (hi : i < c) (h : p i = true) : sAny p c = true := by
  induction c with
  | zero => omega
  | succ c ih =>
    show (sAny p c || p c) = true
    by_cases hc : i = c
    · rw [← hc, h, Bool.or_true]
    · rw [ih (by omega), Bool.true_or]
theorem sAny_of {p : Nat → Bool} {c : Nat} (h : sAny p c = true) : ∃ i, i < c ∧ p i = true := by
  induction c with
  | zero => cases h
  | succ c ih =>
    have h' : (sAny p c || p c) = true := h
    cases hp : p c with
    | true => exact ⟨c, by omega, hp⟩
    | false =>
      rw [hp, Bool.or_false] at h'
      obtain ⟨i, hi, he⟩ := ih h'
      exact ⟨i, by omega, he⟩
/-- the first of c numbers from s on of which p is so; else -1 -/
def fFst (p : Nat → Bool) : Nat → Nat → Int32
  | 0, _ => (-1)
  | c + 1, s => if p s = true then nI s else fFst p c (s + 1)
theorem fFst_hit {p : Nat → Bool} {c s k : Nat} (hk : k < c) (h : ∀ i, i < k → p (s + i) = false) (hp : p (s + k) = true) : fFst p c s = nI (s + k) := by
  induction k generalizing c s with
  | zero =>
    obtain ⟨c, rfl⟩ : ∃ d, c = d + 1 := ⟨c - 1, by omega⟩
    have hp : p s = true := hp
    unfold fFst
    rw [if_pos hp]
    rfl
  | succ k ih =>
    obtain ⟨c, rfl⟩ : ∃ d, c = d + 1 := ⟨c - 1, by omega⟩
    have h0 : p s = false := h 0 (by omega)
    unfold fFst
    rw [if_neg (by rw [h0]; exact fun z => by cases z), ih (c := c) (s := s + 1) (by omega) (fun i hi => by rw [Nat.add_assoc, Nat.add_comm 1 i]; exact h (i + 1) (by omega)) (by rw [Nat.add_assoc, Nat.add_comm 1 k]; exact hp), Nat.add_assoc, Nat.add_comm 1 k]
theorem fFst_no {p : Nat → Bool} {c s : Nat} (h : ∀ i, i < c → p (s + i) = false) : fFst p c s = (-1) := by
  induction c generalizing s with
  | zero => rfl
  | succ c ih =>
    have h0 : p s = false := h 0 (by omega)
    unfold fFst
    rw [if_neg (by rw [h0]; exact fun z => by cases z)]
    exact ih (fun i hi => by rw [Nat.add_assoc, Nat.add_comm 1 i]; exact h (i + 1) (by omega))
/-- the first f of c numbers from s on that is not -1; else -1 -/
def fVal (f : Nat → Int32) : Nat → Nat → Int32
  | 0, _ => (-1)
  | c + 1, s => if f s = (-1) then fVal f c (s + 1) else f s
theorem fVal_hit {f : Nat → Int32} {c s k : Nat} (hk : k < c) (h : ∀ i, i < k → f (s + i) = (-1)) (hp : ¬ f (s + k) = (-1)) : fVal f c s = f (s + k) := by
  induction k generalizing c s with
  | zero =>
    obtain ⟨c, rfl⟩ : ∃ d, c = d + 1 := ⟨c - 1, by omega⟩
    have hp : ¬ f s = (-1) := hp
    unfold fVal
    rw [if_neg hp]
    rfl
  | succ k ih =>
    obtain ⟨c, rfl⟩ : ∃ d, c = d + 1 := ⟨c - 1, by omega⟩
    have h0 : f s = (-1) := h 0 (by omega)
    unfold fVal
    rw [if_pos h0, ih (c := c) (s := s + 1) (by omega) (fun i hi => by rw [Nat.add_assoc, Nat.add_comm 1 i]; exact h (i + 1) (by omega)) (by rw [Nat.add_assoc, Nat.add_comm 1 k]; exact hp), Nat.add_assoc, Nat.add_comm 1 k]
theorem fVal_no {f : Nat → Int32} {c s : Nat} (h : ∀ i, i < c → f (s + i) = (-1)) : fVal f c s = (-1) := by
  induction c generalizing s with
  | zero => rfl
  | succ c ih =>
    have h0 : f s = (-1) := h 0 (by omega)
    unfold fVal
    rw [if_pos h0]
    exact ih (fun i hi => by rw [Nat.add_assoc, Nat.add_comm 1 i]; exact h (i + 1) (by omega))
/-- up to where p is so, of c numbers from s on: one less than the first of which it is not -/
def fUp (p : Nat → Bool) : Nat → Nat → Int32
  | 0, s => nI s - 1
  | c + 1, s => if p s = true then fUp p c (s + 1) else nI s - 1
theorem fUp_hit {p : Nat → Bool} {c s k : Nat} (hk : k < c) (h : ∀ i, i < k → p (s + i) = true) (hp : p (s + k) = false) : fUp p c s = nI (s + k) - 1 := by
  induction k generalizing c s with
  | zero =>
    obtain ⟨c, rfl⟩ : ∃ d, c = d + 1 := ⟨c - 1, by omega⟩
    have hp : p s = false := hp
    unfold fUp
    rw [if_neg (by rw [hp]; exact fun z => by cases z)]
    rfl
  | succ k ih =>
    obtain ⟨c, rfl⟩ : ∃ d, c = d + 1 := ⟨c - 1, by omega⟩
    have h0 : p s = true := h 0 (by omega)
    unfold fUp
    rw [if_pos h0, ih (c := c) (s := s + 1) (by omega) (fun i hi => by rw [Nat.add_assoc, Nat.add_comm 1 i]; exact h (i + 1) (by omega)) (by rw [Nat.add_assoc, Nat.add_comm 1 k]; exact hp), Nat.add_assoc, Nat.add_comm 1 k]
theorem fUp_all {p : Nat → Bool} {c s : Nat} (h : ∀ i, i < c → p (s + i) = true) : fUp p c s = nI (s + c) - 1 := by
  induction c generalizing s with
  | zero => rfl
  | succ c ih =>
    have h0 : p s = true := h 0 (by omega)
    unfold fUp
    rw [if_pos h0, ih (fun i hi => by rw [Nat.add_assoc, Nat.add_comm 1 i]; exact h (i + 1) (by omega)), Nat.add_assoc, Nat.add_comm 1 c]
/-- the shapes of calm, six -/
def sSix (A : List Nat) (w : Int32) (n : Nat) (D : Dk) (k : Nat) : Bool := sGrows A w 100 n D (if k % 2 = 0 then 0 else 1) (nI (1 + k / 2)) 100
def sCalm (A : List Nat) (w : Int32) (n : Nat) (D : Dk) : Bool := !(sAny (sSix A w n D) 6)
def sLine (A : List Nat) (h : Int32) (n : Nat) (D : Dk) (kd j : Int32) : Int32 := fFst (fun i => sGrows A (nI i) h n D kd j 100) 61 0
def sBrk (D : Dk) (b : Int32) (k : Nat) : Bool := if b = 0 then decide (D 12 k = 1) else decide (D 14 k = 1)
def sLeast (D : Dk) (n : Nat) (b : Int32) : Int32 := fFst (sBrk D b) n 0
def sCnt (p : Nat → Bool) : Nat → Int32
  | 0 => 0
  | n + 1 => sCnt p n + b2 (p n)
theorem g09 : gRf 0 9 = 58 := by decide +kernel
theorem g010 : gRf 0 10 = 75 := by decide +kernel
theorem g06 : gRf 0 6 = 11 := by decide +kernel
theorem g11_0 : gRf 11 0 = 12 := by decide +kernel
theorem g11_1 : gRf 11 1 = 29 := by decide +kernel
theorem g11_2 : gRf 11 2 = 38 := by decide +kernel
theorem g11_3 : gRf 11 3 = 45 := by decide +kernel
theorem g11_4 : gRf 11 4 = 50 := by decide +kernel
/-- the trial deck is as D, but for what a trial changes, and the law at c is A -/
def TI (n : Nat) (D : Dk) (c : Nat) (A : List Nat) (M : Mem) : Prop := (∃ T, RD M 58 T ∧ Lk n T D) ∧ RLw M c A
def Fr (c : Nat) (M M' : Mem) : Prop := ∀ b, (b < 58 ∨ 75 ≤ b) → (b < c ∨ c + 5 ≤ b) → M' b = M b
theorem Fr.rf {c : Nat} {M : Mem} : Fr c M M := fun _ _ _ => rfl
theorem Fr.tr {c : Nat} {M M' M'' : Mem} (h : Fr c M M') (h' : Fr c M' M'') : Fr c M M'' := fun b h1 h2 => (h' b h1 h2).trans (h b h1 h2)
theorem Fr.dk {c : Nat} {M M' : Mem} (hc : 75 ≤ c) (h : ∀ b, (b < 58 ∨ 58 + 17 ≤ b) → M' b = M b) : Fr c M M' := fun b h1 _ => h b (by omega)
theorem beg_cg {n : Nat} {T D : Dk} (h : Lk n T D) (kd j a : Int32) (o k : Nat) (hi : inD o k) : sBeg T n kd j a o k = sBeg D n kd j a o k := by
  unfold sBeg sSh
  by_cases hb : o = 4 ∨ o = 6 ∨ o = 8 ∨ o = 10
  · rw [if_pos hb, if_pos hb]
  · rw [if_neg hb, if_neg hb]
    unfold sRest
    by_cases h1 : o = 0 ∧ k = 1
    · rw [if_pos h1, if_pos h1]
    rw [if_neg h1, if_neg h1]
    by_cases h2 : o = 14
    · rw [if_pos h2, if_pos h2]
    rw [if_neg h2, if_neg h2]
    unfold inD at hi
    by_cases h3 : o = 12 ∧ k < n
    · rw [if_pos h3, if_pos h3]
      exact h.2.2.1 k h3.2
    · rw [if_neg h3, if_neg h3]
      by_cases h4 : o = 0
      · have : k = 0 := by omega
        subst this; subst h4; exact h.1
      · by_cases h5 : o = 2
        · subst h5; exact h.2.1 k (by omega)
        · have : o = 12 := by omega
          subst this
          exact h.2.2.2 k (by omega) (by omega)
section GROW
variable {A : List Nat} {w h : Int32} {n : Nat} {D T : Dk} {M : Mem} {a c : Nat}
theorem r_grows (hL : LwS c) (hc : 75 ≤ c) (hT : TI n D c A M) (hw : cTs A [] = some []) (hn : D 0 0 = nI n) (h2 : 2 ≤ n) (h8 : n ≤ 8) (kd j s : Int32) : tot (f_X10_trialGrows M 0 c w kd j s h) (fun r M' => r = b2 (sGrows A w h n D kd j s) ∧ TI n D c A M' ∧ Fr c M M') := by
  obtain ⟨⟨T, hR, hl⟩, hA⟩ := hT
  unfold f_X10_trialGrows
  rw [g09]
  refine tot.bd (r_begin dk_58 hR (hl.1.trans hn) h2 h8 kd j s) ?_
  rintro r M1 ⟨hB, hf1⟩
  have hB := hB.cg (beg_cg hl kd j s)
  have hb0 : sBeg D n kd j s 0 0 = nI n := beg_0.trans hn
  generalize hBe : sBeg D n kd j s = B at hB hb0
  have hlk : Lk n B D := by rw [← hBe]; exact Lk.beg kd j s
  have hgr : sGrows A w h n D kd j s = sAny (fun i => sHit A w h n B kd (31 + i)) 30 := by unfold sGrows; rw [hBe]
  refine tot.loopFU (σ := Int32 × Int32 × Mem) (fun m s9 => f_X10_trialGrows_h18 0 c w kd j s h m s9.1 s9.2.1 s9.2.2) 60 (fun t s9 => s9.1 = sEar A w h n B kd (if t ≤ 30 then t else 30) ∧ s9.2.1 = nI (t + 1) ∧ (∀ i, 31 + i ≤ t → sHit A w h n B kd (31 + i) = false) ∧ RD s9.2.2 58 (sRun A w h n B t) ∧ RLw s9.2.2 c A ∧ Fr c M s9.2.2) _ (by omega) (0, 1, M1) ⟨rfl, rfl, fun i hi => by omega, hB, hA.fr (congrFun (hf1 c (by omega)) 4) (hf1 _ (by omega)), Fr.dk hc hf1⟩ ?_ ?_
  · rintro m t ⟨e, x, M2⟩ ht ⟨he, hx, hh, hD, hA2, hf2⟩ hnext
    dsimp only at he hx hh hD hA2 hf2
    subst hx
    show tot (f_X10_trialGrows_h18 0 c w kd j s h (m + 1) e (nI (t + 1)) M2) _
    have hr0 : sRun A w h n B t 0 0 = nI n := (run_0 t).trans hb0
    rw [f_X10_trialGrows_h18, if_neg (show ¬ (60 : Int32) < nI _ from nI_nlt (a := 60) (by omega) (by omega)), g09]
    refine tot.bd (r_tick dk_58 hL (Or.inl (by omega)) hD hA2 hw hr0 h8) ?_
    rintro r2 M3 ⟨hD3, hA3, hf3⟩
    have hD3 : RD M3 58 (sRun A w h n B (t + 1)) := hD3
    have hf3 : Fr c M M3 := hf2.tr (fun b h1 h2 => hf3 b (by omega) h2)
    show tot ((f_X1_size M3 58 kd).bind _) _
    rw [r_size dk_58 hD3 ((run_0 (t + 1)).trans hb0) h8 kd, Option.bind_some]
    unfold f_X10_trialGrows_b74
    rw [nI_1]
    show tot (if 30 < nI (t + 1) then (if sSize (sRun A w h n B (t + 1)) n kd ≤ e then _ else _) else _) _
    by_cases h30 : t < 30
    · rw [if_neg (show ¬ (30 : Int32) < nI _ from nI_nlt (a := 30) (by omega) (by omega))]
      refine hnext (_, nI (t + 1 + 1), M3) ⟨?_, rfl, fun i hi => by omega, hD3, hA3, hf3⟩
      show (if e < sSize (sRun A w h n B (t + 1)) n kd then sSize (sRun A w h n B (t + 1)) n kd else e) = _
      rw [if_pos (show t + 1 ≤ 30 by omega), he, if_pos (show t ≤ 30 by omega)]
      rfl
    · rw [if_pos (show (30 : Int32) < nI _ from nI_lt (a := 30) (by omega) (by omega))]
      have he2 : e = sEar A w h n B kd 30 := by
        rw [he]
        congr 1
        split <;> omega
      by_cases hs : sSize (sRun A w h n B (t + 1)) n kd ≤ e
      · rw [if_pos hs]
        refine hnext (e, nI (t + 1 + 1), M3) ⟨by rw [if_neg (show ¬ t + 1 ≤ 30 by omega)]; exact he2, rfl, fun i hi => ?_, hD3, hA3, hf3⟩
        by_cases hi2 : 31 + i ≤ t
        · exact hh i hi2
        · have : 31 + i = t + 1 := by omega
          rw [this]
          unfold sHit
          rw [← he2]
          exact decide_eq_false (Int32.not_lt.mpr hs)
      · rw [if_neg hs]
        refine tot.ret ⟨?_, ⟨⟨_, hD3, hlk.run (t + 1)⟩, hA3⟩, hf3⟩
        rw [hgr, sAny_t (i := t - 30) (by omega) (by
          have : 31 + (t - 30) = t + 1 := by omega
          rw [this]
          unfold sHit
          rw [← he2]
          exact decide_eq_true (Int32.not_le.mp hs))]
        rfl
  · rintro m ⟨e, x, M2⟩ ⟨he, hx, hh, hD, hA2, hf2⟩
    dsimp only at he hx hh hD hA2 hf2
    subst hx
    show tot (f_X10_trialGrows_h18 0 c w kd j s h (m + 1) e (nI (60 + 1)) M2) _
    rw [f_X10_trialGrows_h18, if_pos (show (60 : Int32) < nI _ from nI_lt (a := 60) (by omega) (by omega))]
    refine tot.ret ⟨?_, ⟨⟨_, hD, hlk.run 60⟩, hA2⟩, hf2⟩
    rw [hgr, sAny_f (fun i hi => hh i (by omega))]
    rfl
theorem r_line (hL : LwS c) (hc : 75 ≤ c) (hT : TI n D c A M) (hw : cTs A [] = some []) (hn : D 0 0 = nI n) (h2 : 2 ≤ n) (h8 : n ≤ 8) (kd j : Int32) : tot (f_X10_lineBy M 0 c kd j h) (fun r M' => r = sLine A h n D kd j ∧ TI n D c A M' ∧ Fr c M M') := by
  unfold f_X10_lineBy
  refine tot.loopFU (σ := Int32 × Mem) (fun m s9 => f_X10_lineBy_h3 0 c kd j h m s9.1 s9.2) 61 (fun t s9 => s9.1 = nI t ∧ (∀ i, i < t → sGrows A (nI i) h n D kd j 100 = false) ∧ TI n D c A s9.2 ∧ Fr c M s9.2) _ (by omega) (0, M) ⟨rfl, fun i hi => by omega, hT, Fr.rf⟩ ?_ ?_
  · rintro m t ⟨x, M2⟩ ht ⟨hx, hh, hT2, hf2⟩ hnext
    dsimp only at hx hh hT2 hf2
    subst hx
    show tot (f_X10_lineBy_h3 0 c kd j h (m + 1) (nI t) M2) _
    rw [f_X10_lineBy_h3, if_neg (show ¬ (60 : Int32) < nI _ from nI_nlt (a := 60) (by omega) (by omega))]
    refine tot.bd (r_grows hL hc hT2 hw hn h2 h8 kd j 100) ?_
    rintro r2 M3 ⟨rfl, hT3, hf3⟩
    show tot (if b2 (sGrows A (nI t) h n D kd j 100) = 0 then _ else _) _
    rw [nI_1]
    cases hg : sGrows A (nI t) h n D kd j 100 with
    | false =>
      rw [if_pos (by rfl)]
      refine hnext (nI (t + 1), M3) ⟨rfl, fun i hi => ?_, hT3, hf2.tr hf3⟩
      by_cases hi2 : i = t
      · rw [hi2]; exact hg
      · exact hh i (by omega)
    | true =>
      rw [if_neg (by decide)]
      refine tot.ret ⟨?_, hT3, hf2.tr hf3⟩
      unfold sLine
      rw [fFst_hit (k := t) (by omega) (fun i hi => by rw [Nat.zero_add]; exact hh i hi) (by rw [Nat.zero_add]; exact hg), Nat.zero_add]
  · rintro m ⟨x, M2⟩ ⟨hx, hh, hT2, hf2⟩
    dsimp only at hx hh hT2 hf2
    subst hx
    show tot (f_X10_lineBy_h3 0 c kd j h (m + 1) (nI 61) M2) _
    rw [f_X10_lineBy_h3, if_pos (show (60 : Int32) < nI _ from nI_lt (a := 60) (by omega) (by omega))]
    refine tot.ret ⟨?_, hT2, hf2⟩
    unfold sLine
    rw [fFst_no (fun i hi => by rw [Nat.zero_add]; exact hh i hi)]
theorem six_i : ∀ k, k < 6 → (1 + nI k / 2 = nI (1 + k / 2) ∧ (k % 2 = 0 ↔ nI k - nI k / 2 * 2 = 0)) := by decide +kernel
theorem r_upTo (hL : LwS c) (hc : 75 ≤ c) (hT : TI n D c A M) (hw : cTs A [] = some []) (hn : D 0 0 = nI n) (h2 : 2 ≤ n) (h8 : n ≤ 8) (s N : Nat) (hN : s + N < 1000) (hN0 : 0 < N) : tot (f_X10_trialIsCalmUpTo M 0 c (nI s) (nI (s + N - 1))) (fun r M' => r = fUp (fun i => sCalm A (nI i) n D) N s ∧ TI n D c A M' ∧ Fr c M M') := by
  unfold f_X10_trialIsCalmUpTo
  refine tot.loopFU (σ := Int32 × Mem) (fun m s9 => f_X10_trialIsCalmUpTo_h3 0 c (nI s) (nI (s + N - 1)) m s9.1 s9.2) N (fun t s9 => s9.1 = nI (s + t) ∧ (∀ i, i < t → sCalm A (nI (s + i)) n D = true) ∧ TI n D c A s9.2 ∧ Fr c M s9.2) _ (by omega) (nI s, M) ⟨rfl, fun i hi => by omega, hT, Fr.rf⟩ ?_ ?_
  · rintro m t ⟨x, M2⟩ ht ⟨hx, hh, hT2, hf2⟩ hnext
    dsimp only at hx hh hT2 hf2
    subst hx
    show tot (f_X10_trialIsCalmUpTo_h3 0 c (nI s) (nI (s + N - 1)) (m + 1) (nI (s + t)) M2) _
    rw [f_X10_trialIsCalmUpTo_h3, if_neg (nI_nlt (by omega) (by omega))]
    refine tot.loopFU (σ := Int32 × Mem) (fun m9 s9 => f_X10_trialIsCalmUpTo_h12 0 c (nI s) (nI (s + N - 1)) (f_X10_trialIsCalmUpTo_h3 0 c (nI s) (nI (s + N - 1)) m) m9 (nI (s + t)) s9.1 s9.2) 6 (fun k s9 => s9.1 = nI k ∧ (∀ i, i < k → sSix A (nI (s + t)) n D i = false) ∧ TI n D c A s9.2 ∧ Fr c M s9.2) _ (by omega) (0, M2) ⟨rfl, fun i hi => by omega, hT2, hf2⟩ ?_ ?_
    · rintro m2 k ⟨x, M3⟩ hk ⟨hx, hk2, hT3, hf3⟩ hnext2
      dsimp only at hx hk2 hT3 hf3
      subst hx
      show tot (f_X10_trialIsCalmUpTo_h12 0 c (nI s) (nI (s + N - 1)) _ (m2 + 1) (nI (s + t)) (nI k) M3) _
      have hgo : ∀ kd, kd = (if k % 2 = 0 then (0 : Int32) else 1) → tot (f_X10_trialIsCalmUpTo_b31 0 c (nI s) (nI (s + N - 1)) (f_X10_trialIsCalmUpTo_h3 0 c (nI s) (nI (s + N - 1)) m) (f_X10_trialIsCalmUpTo_h12 0 c (nI s) (nI (s + N - 1)) (f_X10_trialIsCalmUpTo_h3 0 c (nI s) (nI (s + N - 1)) m) m2) kd (nI (s + t)) (nI k) M3) (fun r M' => r = fUp (fun i => sCalm A (nI i) n D) N s ∧ TI n D c A M' ∧ Fr c M M') := by
        intro kd hkd
        unfold f_X10_trialIsCalmUpTo_b31
        rw [(six_i k hk).1]
        refine tot.bd (r_grows (w := nI (s + t)) (h := 100) hL hc hT3 hw hn h2 h8 kd (nI (1 + k / 2)) 100) ?_
        rintro r2 M4 ⟨rfl, hT4, hf4⟩
        have hsix : sGrows A (nI (s + t)) 100 n D kd (nI (1 + k / 2)) 100 = sSix A (nI (s + t)) n D k := by unfold sSix; rw [hkd]
        rw [hsix]
        show tot (if b2 (sSix A (nI (s + t)) n D k) = 0 then _ else _) _
        rw [nI_1]
        cases hg : sSix A (nI (s + t)) n D k with
        | false =>
          rw [if_pos (by rfl)]
          refine hnext2 (nI (k + 1), M4) ⟨rfl, fun i hi => ?_, hT4, hf3.tr hf4⟩
          by_cases hi2 : i = k
          · rw [hi2]; exact hg
          · exact hk2 i (by omega)
        | true =>
          rw [if_neg (by decide)]
          refine tot.ret ⟨?_, hT4, hf3.tr hf4⟩
          have hcf : sCalm A (nI (s + t)) n D = false := by
            unfold sCalm
            rw [sAny_t hk hg]; rfl
          rw [fUp_hit (k := t) ht (fun i hi => hh i hi) hcf]
      rw [f_X10_trialIsCalmUpTo_h12, if_neg (show ¬ (6 : Int32) ≤ nI k from i_nle (b := 6) hk (by omega))]
      by_cases hp : k % 2 = 0
      · rw [if_pos ((six_i k hk).2.mp hp)]
        exact hgo 0 (by rw [if_pos hp])
      · rw [if_neg (fun z => hp ((six_i k hk).2.mpr z))]
        exact hgo 1 (by rw [if_neg hp])
    · rintro m2 ⟨x, M3⟩ ⟨hx, hk2, hT3, hf3⟩
      dsimp only at hx hk2 hT3 hf3
      subst hx
      show tot (f_X10_trialIsCalmUpTo_h12 0 c (nI s) (nI (s + N - 1)) _ (m2 + 1) (nI (s + t)) (nI 6) M3) _
      rw [f_X10_trialIsCalmUpTo_h12, if_pos (by decide), nI_1]
      refine hnext (nI (s + (t + 1)), M3) ⟨rfl, fun i hi => ?_, hT3, hf3⟩
      by_cases hi2 : i = t
      · rw [hi2]
        unfold sCalm
        rw [sAny_f hk2]; rfl
      · exact hh i (by omega)
  · rintro m ⟨x, M2⟩ ⟨hx, hh, hT2, hf2⟩
    dsimp only at hx hh hT2 hf2
    subst hx
    show tot (f_X10_trialIsCalmUpTo_h3 0 c (nI s) (nI (s + N - 1)) (m + 1) (nI (s + N)) M2) _
    rw [f_X10_trialIsCalmUpTo_h3, if_pos (nI_lt (by omega) (by omega))]
    refine tot.ret ⟨?_, hT2, hf2⟩
    rw [fUp_all hh, i_prd (by omega)]
theorem r_isBrk (hs : DkS a) (hR : RD M a D) {k : Nat} (hk : k < 8) (b : Int32) : f_X1_isBroken M a (nI k) b = some (b2 (sBrk D b k), M) := by
  unfold f_X1_isBroken sBrk
  by_cases hb : b = 0
  · rw [if_pos hb, if_pos hb, q_at, Option.bind_some, hR.a7 hs hk]
    show (if D 12 k = 1 then _ else _) = _
    by_cases h1 : D 12 k = 1
    · rw [if_pos h1, decide_eq_true h1]; rfl
    · rw [if_neg h1, decide_eq_false h1]; rfl
  · rw [if_neg hb, if_neg hb, q_at, Option.bind_some, hR.a8 hs hk]
    show (if D 14 k = 1 then _ else _) = _
    by_cases h1 : D 14 k = 1
    · rw [if_pos h1, decide_eq_true h1]; rfl
    · rw [if_neg h1, decide_eq_false h1]; rfl
theorem r_least (hs : DkS a) (hR : RD M a D) (hn : D 0 0 = nI n) (h8 : n ≤ 8) (b : Int32) : f_X1_leastBroken M a b = some (sLeast D n b, M) := by
  unfold f_X1_leastBroken
  have key : ∀ d k, k + d = n → ∀ m, d < m → f_X1_leastBroken_h2 a b m (nI k) M = some (fFst (sBrk D b) d k, M) := by
    intro d
    induction d with
    | zero =>
      intro k hk m hm
      obtain ⟨m, rfl⟩ : ∃ q, m = q + 1 := ⟨m - 1, by omega⟩
      rw [f_X1_leastBroken_h2, hR.p, hn, if_pos (i_le (by omega) (by omega))]
      rfl
    | succ d ih =>
      intro k hk m hm
      obtain ⟨m, rfl⟩ : ∃ q, m = q + 1 := ⟨m - 1, by omega⟩
      rw [f_X1_leastBroken_h2, hR.p, hn, if_neg (i_nle (by omega) (by omega)), r_isBrk hs hR (by omega), Option.bind_some]
      show (if b2 (sBrk D b k) = 0 then _ else _) = _
      unfold fFst
      rw [nI_1]
      cases hg : sBrk D b k with
      | false => rw [if_pos (by rfl), if_neg (by decide)]; exact ih (k + 1) (by omega) m (by omega)
      | true => rw [if_neg (by decide), if_pos (by rfl)]
  exact key n 0 (by omega) FU (by unfold FU; omega)
theorem r_broken (hs : DkS a) (hR : RD M a D) (hn : D 0 0 = nI n) (h8 : n ≤ 8) (b : Int32) : f_X1_broken M a b = some (sCnt (sBrk D b) n, M) := by
  unfold f_X1_broken
  refine eq_loopFU (σ := Int32 × Int32) (fun m s => f_X1_broken_h4 a b m s.1 s.2 M) n (fun k => (sCnt (sBrk D b) k, nI k)) (some (sCnt (sBrk D b) n, M)) (by omega) (fun m k hk => ?_) (fun m => ?_)
  · show f_X1_broken_h4 a b (m + 1) (sCnt (sBrk D b) k) (nI k) M = f_X1_broken_h4 a b m (sCnt (sBrk D b) (k + 1)) (nI (k + 1)) M
    rw [f_X1_broken_h4, hR.p, hn, if_neg (i_nle hk (by omega)), r_isBrk hs hR (by omega), Option.bind_some]
    unfold f_X1_broken_b27
    show (if b2 (sBrk D b k) = 0 then _ else _) = f_X1_broken_h4 a b m (sCnt (sBrk D b) k + b2 (sBrk D b k)) (nI (k + 1)) M
    rw [nI_1]
    cases sBrk D b k with
    | false => rw [if_pos (by rfl)]; rfl
    | true => rw [if_neg (by decide)]; rfl
  · show f_X1_broken_h4 a b (m + 1) (sCnt (sBrk D b) n) (nI n) M = _
    rw [f_X1_broken_h4, hR.p, hn, if_pos (i_le (Nat.le_refl _) (by omega))]
theorem r_copy {a2 : Nat} (hs : DkS a) (hs2 : DkS a2) (hne : a + 17 ≤ a2 ∨ a2 + 17 ≤ a) (hR : RD M a2 D) : tot (f_X1_copy M a a2) (fun _ M' => RD M' a D ∧ ∀ b, (b < a ∨ a + 17 ≤ b) → M' b = M b) := by
  have h2 : ∀ (M' : Mem) (j : Nat), j < 8 → (∀ b, (b < a ∨ a + 17 ≤ b) → M' b = M b) → M' (a2 + (2 + 2 * j)) = M (a2 + (2 + 2 * j)) := fun M' j hj hf => hf _ (by omega)
  unfold f_X1_copy
  have hA : ∀ M', (∀ b, (b < a ∨ a + 17 ≤ b) → M' b = M b) → ∀ j, j < 8 → ∀ b, (b < a ∨ a + 17 ≤ b) → mSet M' (a + (2 + 2 * j)) (dkN j) (M (a2 + (2 + 2 * j))) b = M b := fun M' hf j hj b hb => by rw [mSet_ne (by omega)]; exact hf b hb
  have hf0 : ∀ b, (b < a ∨ a + 17 ≤ b) → mU (mU M a 0 (M a2 0)) a 1 ((mU M a 0 (M a2 0)) a2 1) b = M b := fun b hb => by rw [u_ne (by omega), u_ne (by omega)]
  have h1 := hA _ hf0 0 (by decide)
  have h3 := hA _ h1 1 (by decide)
  have h4 := hA _ h3 2 (by decide)
  have h5 := hA _ h4 3 (by decide)
  have h6 := hA _ h5 4 (by decide)
  have h7 := hA _ h6 5 (by decide)
  have h8 := hA _ h7 6 (by decide)
  rw [show gRf a 2 = gRf a (2 + 0) from rfl, show gRf a2 2 = gRf a2 (2 + 0) from rfl, hs.cp hs2 hne (j := 0) (by decide), h2 _ 0 (by decide) hf0, Option.bind_some]
  show tot ((f_X8_copy _ (gRf a (2 + 1)) (gRf a2 (2 + 1))).bind _) _
  rw [hs.cp hs2 hne (j := 1) (by decide), h2 _ 1 (by decide) h1, Option.bind_some]
  show tot ((f_X8_copy _ (gRf a (2 + 2)) (gRf a2 (2 + 2))).bind _) _
  rw [hs.cp hs2 hne (j := 2) (by decide), h2 _ 2 (by decide) h3, Option.bind_some]
  show tot ((f_X8_copy _ (gRf a (2 + 3)) (gRf a2 (2 + 3))).bind _) _
  rw [hs.cp hs2 hne (j := 3) (by decide), h2 _ 3 (by decide) h4, Option.bind_some]
  show tot ((f_X8_copy _ (gRf a (2 + 4)) (gRf a2 (2 + 4))).bind _) _
  rw [hs.cp hs2 hne (j := 4) (by decide), h2 _ 4 (by decide) h5, Option.bind_some]
  show tot ((f_X8_copy _ (gRf a (2 + 5)) (gRf a2 (2 + 5))).bind _) _
  rw [hs.cp hs2 hne (j := 5) (by decide), h2 _ 5 (by decide) h6, Option.bind_some]
  show tot ((f_X8_copy _ (gRf a (2 + 6)) (gRf a2 (2 + 6))).bind _) _
  rw [hs.cp hs2 hne (j := 6) (by decide), h2 _ 6 (by decide) h7, Option.bind_some]
  refine tot.ret ⟨fun o k hi => ?_, h8⟩
  have hr := hR o k hi
  unfold inD at hi
  simp only [mSet_add, dkN]
  have hmu : ∀ o k, mU (mU M a 0 (M a2 0)) a 1 ((mU M a 0 (M a2 0)) a2 1) (a + o) k = if o = 0 ∧ k = 1 then M a2 1 else if o = 0 ∧ k = 0 then M a2 0 else M (a + o) k := fun o k => by
    have e : mU M a 0 (M a2 0) a2 = M a2 := u_ne (by omega)
    rw [e]
    simp [mU_at]
  rw [hmu]
  rcases hi with ⟨rfl, hk⟩ | ⟨rfl, hk⟩ | ⟨hi | hi | hi | hi | hi | hi, hk⟩
  · have : k = 0 ∨ k = 1 := by omega
    rcases this with rfl | rfl
    · simpa using hr
    · simpa using hr
  · simpa [hk] using hr
  all_goals (subst hi; simpa [hk] using hr)
/-- the trial deck becomes the road's -/
theorem r_take (hc : 75 ≤ c) (hA : RLw M c A) (hR : RD M 12 D) : tot (f_X1_copy M 58 12) (fun _ M' => RD M' 58 D ∧ TI n D c A M' ∧ Fr c M M') := by
  refine tot.mono (r_copy dk_58 dk_12 (by omega) hR) ?_
  rintro r M' ⟨h1, h2⟩
  exact ⟨h1, ⟨⟨D, h1, Lk.rf⟩, hA.fr (congrFun (h2 c (by omega)) 4) (h2 _ (by omega))⟩, Fr.dk hc h2⟩
end GROW
