/-! Shapes, trials, lines, calm: as numbers, and the class's trial deck (cell 58). -/
def sOff (kd : Int32) : Nat := if kd = 0 then 4 else 6
def sHf (n : Nat) (j : Int32) (k : Nat) : Int32 := nI k * j / nI n
def sShp (n : Nat) (j a : Int32) (k : Nat) : Int32 := if sHf n j k - sHf n j k / 2 * 2 = 0 then a else -a
def sSh (D : Dk) (n : Nat) (kd j a : Int32) : Dk := fun o k => if o = 4 ∨ o = 6 ∨ o = 8 ∨ o = 10 then (if o = sOff kd ∧ k < n then sShp n j a k else 0) else D o k
def sFx (x : Int32) : Int32 := if x = 1 then 2 else x
def sRest (D : Dk) (n : Nat) : Dk := fun o k => if o = 0 ∧ k = 1 then 0 else if o = 14 then 0 else if o = 12 ∧ k < n then sFx (D 12 k) else D o k
def sBeg (D : Dk) (n : Nat) (kd j a : Int32) : Dk := sSh (sRest D n) n kd j a
def sMax (f : Nat → Int32) : Nat → Int32
  | 0 => 0
  | n + 1 => if sMax f n < sAbs (f n) then sAbs (f n) else sMax f n
def sSize (D : Dk) (n : Nat) (kd : Int32) : Int32 := sMax (D (sOff kd)) n
def sRun (A : List Nat) (w h : Int32) (n : Nat) (D : Dk) : Nat → Dk
  | 0 => D
  | t + 1 => sTick A w h n (sRun A w h n D t)
/-- the greatest size behind ticks 1 to t -/
def sEar (A : List Nat) (w h : Int32) (n : Nat) (D : Dk) (kd : Int32) : Nat → Int32
  | 0 => 0
  | t + 1 => if sEar A w h n D kd t < sSize (sRun A w h n D (t + 1)) n kd then sSize (sRun A w h n D (t + 1)) n kd else sEar A w h n D kd t
def sHit (A : List Nat) (w h : Int32) (n : Nat) (D : Dk) (kd : Int32) (t : Nat) : Bool := decide (sEar A w h n D kd 30 < sSize (sRun A w h n D t) n kd)
def sAny (p : Nat → Bool) : Nat → Bool
  | 0 => false
  | c + 1 => sAny p c || p c
def sGrows (A : List Nat) (w h : Int32) (n : Nat) (D : Dk) (kd j a : Int32) : Bool := sAny (fun i => sHit A w h n (sBeg D n kd j a) kd (31 + i)) 30
def b2 (b : Bool) : Int32 := if b then 1 else 0
/-- like a deck, but for what a trial changes -/
def Lk (n : Nat) (T D : Dk) : Prop := T 0 0 = D 0 0 ∧ (∀ k, k < 10 → T 2 k = D 2 k) ∧ (∀ k, k < n → sFx (T 12 k) = sFx (D 12 k)) ∧ ∀ k, n ≤ k → k < 8 → T 12 k = D 12 k
theorem Lk.rf {n : Nat} {D : Dk} : Lk n D D := ⟨rfl, fun _ _ => rfl, fun _ _ => rfl, fun _ _ _ => rfl⟩
theorem sFx_fx (x : Int32) : sFx (sFx x) = sFx x := by
  unfold sFx
  by_cases h : x = 1
  · rw [if_pos h]; rfl
  · rw [if_neg h, if_neg h]
theorem sFx_slip (D : Dk) (k : Nat) : sFx (sSlip D k) = sFx (D 12 k) := by
  unfold sSlip
  by_cases h : D 12 k = 2
  · rw [if_pos h]
    split
    · rfl
    · rw [h]; rfl
  · rw [if_neg h]
theorem Lk.beg {n : Nat} {D : Dk} (kd j a : Int32) : Lk n (sBeg D n kd j a) D := by
  refine ⟨by simp [sBeg, sSh, sRest], fun k _ => by simp [sBeg, sSh, sRest], fun k hk => ?_, fun k hk _ => ?_⟩
  · simp [sBeg, sSh, sRest, hk, sFx_fx]
  · simp [sBeg, sSh, sRest, show ¬ k < n by omega]
theorem tick_0 {A : List Nat} {w h : Int32} {n : Nat} {D : Dk} : sTick A w h n D 0 0 = D 0 0 := by
  simp [sTick, sC, sTk, sB, sA, mU_at]
theorem tick_2 {A : List Nat} {w h : Int32} {n : Nat} {D : Dk} (k : Nat) : sTick A w h n D 2 k = D 2 k := by
  simp [sTick, sC, sTk, sB, sA, mU_at]
theorem tick_12 {A : List Nat} {w h : Int32} {n : Nat} {D : Dk} (k : Nat) (hk : n ≤ k) : sTick A w h n D 12 k = D 12 k := by
  simp [sTick, sC, sTk, sB, sA, mU_at, show ¬ k < n by omega]
theorem tick_fx {A : List Nat} {w h : Int32} {n : Nat} {D : Dk} (k : Nat) : sFx (sTick A w h n D 12 k) = sFx (D 12 k) := by
  unfold sTick sC
  by_cases hk : k < n
  · rw [if_pos hk, if_pos rfl, sFx_slip]
    simp [sTk, sB, sA, mU_at]
  · rw [if_neg hk]
    simp [sTk, sB, sA, mU_at]
theorem Lk.tick {A : List Nat} {w h : Int32} {n : Nat} {T D : Dk} (hl : Lk n T D) : Lk n (sTick A w h n T) D :=
  ⟨tick_0.trans hl.1, fun k hk => (tick_2 k).trans (hl.2.1 k hk), fun k hk => (tick_fx k).trans (hl.2.2.1 k hk), fun k h1 h2 => (tick_12 k h1).trans (hl.2.2.2 k h1 h2)⟩
theorem Lk.run {A : List Nat} {w h : Int32} {n : Nat} {T D : Dk} (hl : Lk n T D) (t : Nat) : Lk n (sRun A w h n T t) D := by
  induction t with
  | zero => exact hl
  | succ t ih => exact ih.tick
theorem run_0 {A : List Nat} {w h : Int32} {n : Nat} {D : Dk} (t : Nat) : sRun A w h n D t 0 0 = D 0 0 := by
  induction t with
  | zero => rfl
  | succ t ih => exact tick_0.trans ih
theorem beg_0 {n : Nat} {D : Dk} {kd j a : Int32} : sBeg D n kd j a 0 0 = D 0 0 := by simp [sBeg, sSh, sRest]
theorem b2_0 (b : Bool) : b2 b = 0 ↔ b = false := by cases b <;> decide
section TRIAL
variable {A : List Nat} {w h : Int32} {n : Nat} {D E T : Dk} {M : Mem} {a c : Nat}
theorem r_still (hs : DkS a) (hR : RD M a E) : ∃ M', f_X1_still M a = some (0, M') ∧ RD M' a (fun o k => if o = 4 ∨ o = 6 ∨ o = 8 ∨ o = 10 then 0 else E o k) ∧ ∀ b, (b < a ∨ a + 17 ≤ b) → M' b = M b := by
  refine ⟨_, by
    unfold f_X1_still
    rw [hs.fl (j := 1) (by decide), Option.bind_some]
    simp only [hs.fl (j := 2) (by decide), hs.fl (j := 3) (by decide), hs.fl (j := 4) (by decide), Option.bind_some]
    rfl, ?_, ?_⟩
  · refine ((((hR.set 4 8 _).set 6 8 _).set 8 8 _).set 10 8 (fun _ => 0)).cg (fun o k hi => ?_)
    simp only [mSet_at]
    unfold inD at hi
    by_cases h4 : o = 4
    · subst h4; simp [show k < 8 by omega]
    by_cases h6 : o = 6
    · subst h6; simp [show k < 8 by omega]
    by_cases h8 : o = 8
    · subst h8; simp [show k < 8 by omega]
    by_cases h10 : o = 10
    · subst h10; simp [show k < 8 by omega]
    simp [h4, h6, h8, h10]
  · intro b hb
    show mSet (mSet (mSet (mSet M (a + 4) 8 _) (a + 6) 8 _) (a + 8) 8 _) (a + 10) 8 _ b = M b
    rw [mSet_ne (by omega), mSet_ne (by omega), mSet_ne (by omega), mSet_ne (by omega)]
theorem r_shape (hs : DkS a) (hR : RD M a D) (hn : D 0 0 = nI n) (h2 : 2 ≤ n) (h8 : n ≤ 8) (kd j s : Int32) : tot (f_X1_takeShape M a kd j s) (fun _ M' => RD M' a (sSh D n kd j s) ∧ ∀ b, (b < a ∨ a + 17 ≤ b) → M' b = M b) := by
  obtain ⟨M1, e1, hR1, hf1⟩ := r_still hs hR
  have hm : (if 1 < nI n then nI n else (1 : Int32)) = nI n := if_pos (nI_lt (a := 1) (by omega) (by omega))
  have hmain : ∀ r o, ((kd = 0 ∧ r = gRf a 3 ∧ o = 4) ∨ (¬ kd = 0 ∧ r = gRf a 4 ∧ o = 6)) → tot (f_X1_takeShape_h24 a kd j s FU r 0 M1) (fun _ M' => RD M' a (sSh D n kd j s) ∧ ∀ b, (b < a ∨ a + 17 ≤ b) → M' b = M b) := by
    intro r o hr
    have ho : o = sOff kd := by
      unfold sOff
      rcases hr with ⟨h, _, h'⟩ | ⟨h, _, h'⟩
      · rw [if_pos h, h']
      · rw [if_neg h, h']
    have ho2 : o = 4 ∨ o = 6 := by rcases hr with h | h <;> omega
    have hw : ∀ (M : Mem) (k : Nat) (v : Int32), k < 8 → rPut M r (nI k) v = mU M (a + o) k v := fun M k v hk => by
      rcases hr with ⟨_, rfl, rfl⟩ | ⟨_, rfl, rfl⟩
      · exact hs.w3 M hk v
      · exact hs.w4 M hk v
    refine tot.loopFU (σ := Int32 × Mem) (fun m s9 => f_X1_takeShape_h24 a kd j s m r s9.1 s9.2) n (fun k s9 => s9.1 = nI k ∧ RD s9.2 a (fun o2 k2 => if o2 = 4 ∨ o2 = 6 ∨ o2 = 8 ∨ o2 = 10 then (if o2 = o ∧ k2 < k then sShp n j s k2 else 0) else D o2 k2) ∧ ∀ b, (b < a ∨ a + 17 ≤ b) → s9.2 b = M b) _ (by omega) (0, M1) ⟨rfl, hR1.cg (fun o2 k2 _ => by simp), hf1⟩ ?_ ?_
    · rintro m k ⟨x, M2⟩ hk ⟨hx, hD, hf⟩ hnext
      dsimp only at hx hD hf
      subst hx
      show tot (f_X1_takeShape_h24 a kd j s (m + 1) r (nI k) M2) _
      have e0 : M2 a 0 = nI n := hD.p.trans (by simpa using hn)
      have hsh : (if (((nI k * j) / nI n) - ((nI k * j) / nI n) / 2 * 2) = 0 then f_X8_put M2 r (nI k) s else f_X8_put M2 r (nI k) (-s)) = some (0, mU M2 (a + o) k (sShp n j s k)) := by
        unfold sShp sHf
        split
        · rw [q_put, hw M2 k s (by omega)]
        · rw [q_put, hw M2 k (-s) (by omega)]
      have hgo : tot (f_X1_takeShape_h24 a kd j s m r (nI (k + 1)) (mU M2 (a + o) k (sShp n j s k))) (fun _ M' => RD M' a (sSh D n kd j s) ∧ ∀ b, (b < a ∨ a + 17 ≤ b) → M' b = M b) := by
        refine hnext (nI (k + 1), _) ⟨rfl, (hD.put o k _).cg (fun o2 k2 _ => ?_), fun b hb => ?_⟩
        · rw [mU_at]
          by_cases hz : o2 = o ∧ k2 = k
          · obtain ⟨rfl, rfl⟩ := hz
            rw [if_pos ⟨rfl, rfl⟩, if_pos (by omega), if_pos ⟨rfl, by omega⟩]
          · rw [if_neg hz]
            by_cases hz2 : o2 = 4 ∨ o2 = 6 ∨ o2 = 8 ∨ o2 = 10
            · rw [if_pos hz2, if_pos hz2]
              by_cases hz3 : o2 = o ∧ k2 < k
              · rw [if_pos hz3, if_pos ⟨hz3.1, by omega⟩]
              · rw [if_neg hz3, if_neg (by omega)]
            · rw [if_neg hz2, if_neg hz2]
        · show mU M2 (a + o) k _ b = M b
          rw [u_ne (by omega)]
          exact hf b hb
      rw [f_X1_takeShape_h24, e0, hm, if_neg (i_nle hk (by omega)), if_neg (nI_ne0 (by omega) (by omega))]
      unfold f_X1_takeShape_b65
      rw [nI_1]
      split at hsh
      · rename_i hc
        rw [if_pos hc, hsh]
        exact hgo
      · rename_i hc
        rw [if_neg hc, hsh]
        exact hgo
    · rintro m ⟨x, M2⟩ ⟨hx, hD, hf⟩
      dsimp only at hx hD hf
      subst hx
      show tot (f_X1_takeShape_h24 a kd j s (m + 1) r (nI n) M2) _
      have e0 : M2 a 0 = nI n := hD.p.trans (by simpa using hn)
      rw [f_X1_takeShape_h24, e0, if_pos (i_le (Nat.le_refl _) (by omega))]
      exact tot.ret ⟨hD.cg (fun o2 k2 _ => by unfold sSh; rw [ho]), hf⟩
  unfold f_X1_takeShape
  rw [e1, Option.bind_some]
  show tot (if kd = 0 then _ else _) _
  by_cases hk : kd = 0
  · rw [if_pos hk]
    exact hmain _ 4 (Or.inl ⟨hk, rfl, rfl⟩)
  · rw [if_neg hk]
    exact hmain _ 6 (Or.inr ⟨hk, rfl, rfl⟩)
theorem r_begin (hs : DkS a) (hR : RD M a D) (hn : D 0 0 = nI n) (h2 : 2 ≤ n) (h8 : n ≤ 8) (kd j s : Int32) : tot (f_X1_begin M a kd j s) (fun _ M' => RD M' a (sBeg D n kd j s) ∧ ∀ b, (b < a ∨ a + 17 ≤ b) → M' b = M b) := by
  unfold f_X1_begin
  refine tot.loopFU (σ := Int32 × Mem) (fun m s9 => f_X1_begin_h3 a kd j s m s9.1 s9.2) n (fun k s9 => s9.1 = nI k ∧ RD s9.2 a (fun o2 k2 => if o2 = 12 ∧ k2 < k then sFx (D 12 k2) else D o2 k2) ∧ ∀ b, (b < a ∨ a + 17 ≤ b) → s9.2 b = M b) _ (by omega) (0, M) ⟨rfl, hR.cg (fun o2 k2 _ => by simp), fun _ _ => rfl⟩ ?_ ?_
  · rintro m k ⟨x, M2⟩ hk ⟨hx, hD, hf⟩ hnext
    dsimp only at hx hD hf
    subst hx
    show tot (f_X1_begin_h3 a kd j s (m + 1) (nI k) M2) _
    have hk8 : k < 8 := by omega
    have e0 : M2 a 0 = nI n := hD.p.trans (by simpa using hn)
    rw [f_X1_begin_h3, e0, if_neg (i_nle hk (by omega)), q_at, Option.bind_some, hD.a7 hs hk8]
    unfold f_X1_begin_b35
    rw [nI_1]
    have e1 : (if 12 = 12 ∧ k < k then sFx (D 12 k) else D 12 k) = D 12 k := by simp
    rw [e1]
    show tot (if D 12 k = 1 then _ else _) _
    by_cases hc : D 12 k = 1
    · rw [if_pos hc, q_put, Option.bind_some, hs.w7 _ hk8]
      refine hnext (nI (k + 1), _) ⟨rfl, (hD.put 12 k 2).cg (fun o2 k2 _ => ?_), fun b hb => ?_⟩
      · rw [mU_at]
        by_cases hz : o2 = 12 ∧ k2 = k
        · obtain ⟨rfl, rfl⟩ := hz
          rw [if_pos ⟨rfl, rfl⟩, if_pos ⟨rfl, by omega⟩, hc]; rfl
        · rw [if_neg hz]
          by_cases hz3 : o2 = 12 ∧ k2 < k
          · rw [if_pos hz3, if_pos ⟨hz3.1, by omega⟩]
          · rw [if_neg hz3, if_neg (by omega)]
      · show mU M2 (a + 12) k _ b = M b
        rw [u_ne (by omega)]
        exact hf b hb
    · rw [if_neg hc]
      refine hnext (nI (k + 1), _) ⟨rfl, hD.cg (fun o2 k2 _ => ?_), hf⟩
      by_cases hz : o2 = 12 ∧ k2 = k
      · obtain ⟨rfl, rfl⟩ := hz
        rw [if_neg (by omega), if_pos ⟨rfl, by omega⟩]
        unfold sFx
        rw [if_neg hc]
      · by_cases hz3 : o2 = 12 ∧ k2 < k
        · rw [if_pos hz3, if_pos ⟨hz3.1, by omega⟩]
        · rw [if_neg hz3, if_neg (by omega)]
  · rintro m ⟨x, M2⟩ ⟨hx, hD, hf⟩
    dsimp only at hx hD hf
    subst hx
    show tot (f_X1_begin_h3 a kd j s (m + 1) (nI n) M2) _
    have e0 : M2 a 0 = nI n := hD.p.trans (by simpa using hn)
    rw [f_X1_begin_h3, e0, if_pos (i_le (Nat.le_refl _) (by omega)), hs.fl (j := 6) (by decide), Option.bind_some]
    have h3 := (hD.set 14 8 (fun _ => 0)).put 0 1 0
    refine tot.bd (r_shape hs (n := n) (h3.cg (D' := sRest D n) (fun o2 k2 hi => ?_)) (by simpa [sRest] using hn) h2 h8 kd j s) ?_
    · unfold inD at hi
      simp only [mU_at, mSet_at, sRest]
      by_cases hz : o2 = 0 ∧ k2 = 1
      · rw [if_pos hz, if_pos hz]
      · rw [if_neg hz, if_neg hz]
        by_cases hz : o2 = 14
        · rw [if_pos ⟨hz, by omega⟩, if_pos hz]
        · rw [if_neg (by omega), if_neg hz]
    · rintro r M3 ⟨h4, h5⟩
      refine tot.ret ⟨h4, fun b hb => ?_⟩
      rw [h5 b hb]
      show mU (mSet M2 (a + 14) 8 _) a 1 0 b = M b
      rw [u_ne (by omega), mSet_ne (by omega)]
      exact hf b hb
theorem r_size (hs : DkS a) (hR : RD M a D) (hn : D 0 0 = nI n) (h8 : n ≤ 8) (kd : Int32) : f_X1_size M a kd = some (sSize D n kd, M) := by
  have hmain : ∀ r o, ((kd = 0 ∧ r = gRf a 3 ∧ o = 4) ∨ (¬ kd = 0 ∧ r = gRf a 4 ∧ o = 6)) → f_X1_size_h21 a kd FU r 0 0 M = some (sSize D n kd, M) := by
    intro r o hr
    have ho : o = sOff kd := by
      unfold sOff
      rcases hr with ⟨h, _, h'⟩ | ⟨h, _, h'⟩
      · rw [if_pos h, h']
      · rw [if_neg h, h']
    have ht : ∀ k, k < 8 → rAt M r (nI k) = D o k := fun k hk => by
      rcases hr with ⟨_, rfl, rfl⟩ | ⟨_, rfl, rfl⟩
      · exact hR.a3 hs hk
      · exact hR.a4 hs hk
    have h := eq_loopFU (σ := Int32 × Int32) (fun m s => f_X1_size_h21 a kd m r s.1 s.2 M) n (fun k => (sMax (D o) k, nI k)) (some (sSize D n kd, M)) (by omega) (fun m k hk => ?_) (fun m => ?_)
    · exact h
    · show f_X1_size_h21 a kd (m + 1) r (sMax (D o) k) (nI k) M = f_X1_size_h21 a kd m r (sMax (D o) (k + 1)) (nI (k + 1)) M
      rw [f_X1_size_h21, hR.p, hn, if_neg (i_nle hk (by omega)), q_at, Option.bind_some, ht k (by omega), ← nI_1]
      rfl
    · show f_X1_size_h21 a kd (m + 1) r (sMax (D o) n) (nI n) M = _
      rw [f_X1_size_h21, hR.p, hn, if_pos (i_le (Nat.le_refl _) (by omega)), ho]
      rfl
  unfold f_X1_size
  by_cases hk : kd = 0
  · rw [if_pos hk]
    exact hmain _ 4 (Or.inl ⟨hk, rfl, rfl⟩)
  · rw [if_neg hk]
    exact hmain _ 6 (Or.inr ⟨hk, rfl, rfl⟩)
end TRIAL
