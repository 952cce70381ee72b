/-! A tick: what becomes of a deck of n pieces by a law A at a wind w, h hundredths of what it tells. -/
def sPs (A : List Nat) (D : Dk) (w h : Int32) (i : Nat) : Int32 × Int32 := ((sAsk A (sNm D w i)).1 * h / 100, (sAsk A (sNm D w i)).2 * h / 100)
def sUp (D : Dk) (n i : Nat) (l : Int32) : Int32 := sFast D (D 8 i) (sPull D n 4 i (D 2 1) (D 2 3)) l
def sSp (D : Dk) (n i : Nat) (t : Int32) : Int32 := sFast D (D 10 i) (sPull D n 6 i (D 2 2) (if D 12 i = 2 then D 2 8 else 0)) t
def sA (A : List Nat) (w h : Int32) (n : Nat) (D : Dk) (i : Nat) : Dk := fun o k => if k < i then (if o = 8 then sUp D n k (sPs A D w h k).1 else if o = 10 then sSp D n k (sPs A D w h k).2 else D o k) else D o k
def sB (D : Dk) (i : Nat) : Dk := fun o k => if k < i then (if o = 4 then sReach (D 4 k + D 8 k) else if o = 6 then sReach (D 6 k + D 10 k) else D o k) else D o k
def sSlip (D : Dk) (k : Nat) : Int32 := if D 12 k = 2 then (if sAbs (D 6 k) ≤ D 2 7 then D 12 k else 1) else D 12 k
def sTear (D : Dk) (n k : Nat) : Int32 := if D 2 9 = 0 then D 14 k else if n ≤ k + 1 then D 14 k else if sAbs (D 6 k - D 6 (k + 1)) ≤ D 2 9 then D 14 k else 1
def sC (D : Dk) (n i : Nat) : Dk := fun o k => if k < i then (if o = 12 then sSlip D k else if o = 14 then sTear D n k else D o k) else D o k
def sTk (D : Dk) : Dk := mU D 0 1 (D 0 1 + 1)
def sTick (A : List Nat) (w h : Int32) (n : Nat) (D : Dk) : Dk := sC (sTk (sB (sA A w h n D n) n)) n n
section TICK
variable {A : List Nat} {w h : Int32} {n : Nat} {D E : Dk} {M : Mem} {a c : Nat}
theorem sA_0 : sA A w h n D 0 = D := by
  funext o k
  simp [sA]
theorem sB_0 : sB D 0 = D := by
  funext o k
  simp [sB]
theorem sC_0 : sC D n 0 = D := by
  funext o k
  simp [sC]
theorem sA_o {i o k : Nat} (h8 : o ≠ 8) (h10 : o ≠ 10) : sA A w h n D i o k = D o k := by
  simp [sA, h8, h10]
theorem sA_k {i o : Nat} : sA A w h n D i o i = D o i := by
  simp [sA]
theorem sA_pull {i o k : Nat} (h8 : o ≠ 8) (h10 : o ≠ 10) (st bk : Int32) : sPull (sA A w h n D i) n o k st bk = sPull D n o k st bk := by
  unfold sPull sBef sBeh
  simp only [sA_o h8 h10, sA_o (o := 14) (by decide) (by decide)]
theorem sA_fast {i : Nat} (v p l : Int32) : sFast (sA A w h n D i) v p l = sFast D v p l := by
  unfold sFast
  simp only [sA_o (o := 2) (by decide) (by decide)]
theorem sA_nm {i : Nat} : sNm (sA A w h n D i) w i = sNm D w i := by
  funext j
  unfold sNm
  split <;> first | rfl | exact sA_o (by decide) (by decide) | exact sA_k
theorem r_b49 (hs : DkS a) (hR : RD M a E) (hn : E 0 0 = nI n) {k : Nat} (hk : k < n) (h8 : n ≤ 8) (hc : c < a ∨ a + 17 ≤ c) (k3 : Int32 → Mem → Option (Int32 × Mem)) (s0 : Int32) : f_X1_tick_b49 a c w h k3 s0 (nI k) M = k3 (nI (k + 1)) (mU (mU M (a + 8) k (sFast E (E 8 k) (sPull E n 4 k (E 2 1) (E 2 3)) (M c 0 * h / 100))) (a + 10) k (sFast E (E 10 k) (sPull E n 6 k (E 2 2) s0) (M c 1 * h / 100))) := by
  have hk8 : k < 8 := by omega
  have hR2 := hR.put 8 k (sFast E (E 8 k) (sPull E n 4 k (E 2 1) (E 2 3)) (M c 0 * h / 100))
  have e1 : ∀ (v x p l : Int32), sFast (mU E 8 k v) x p l = sFast E x p l := fun v x p l => by
    unfold sFast
    simp [mU_at]
  have e2 : ∀ v, mU M (a + 8) k v c 1 = M c 1 := fun v => by rw [u_ne (by omega)]
  unfold f_X1_tick_b49
  simp only [q_at, q_put, Option.bind_some, hR.n1 hs, hR.n3 hs, hR.n2 hs, r_pull hs hR hn hk h8 (Or.inl ⟨rfl, rfl⟩), r_pull hs hR hn hk h8 (Or.inr ⟨rfl, rfl⟩), hR.a5 hs hk8, r_faster hs hR, hs.w5 _ hk8, hs.w6 _ hk8, hR2.a6 hs hk8, r_faster hs hR2, e1, e2, nI_1]
  simp [mU_at]
theorem w_work {r q : Nat} {nm : Nat → Int32} (hL : LwS c) (hr : gRf r 0 = q) (hq : gN q = 9) (hqc : q ≠ c + 4) (hR : RLw M c A) (hw : cTs A [] = some []) (hnm : ∀ j, j < 9 → M q j = nm j) : tot (f_X3_work M c r) (fun _ M' => M' c 0 = (sAsk A nm).1 ∧ M' c 1 = (sAsk A nm).2 ∧ (∀ b, b ≠ c → b ≠ c + 4 → M' b = M b) ∧ ∀ k, k ≠ 0 → k ≠ 1 → M' c k = M c k) :=
  w_all (q := q) hL hr hq hqc hR hnm A [] [] 0 0 [] M rfl trivial (Nat.zero_le _) hw trivial (fun _ _ => rfl) FU (by have := hR.2.1; unfold FU; omega)
theorem r_break (hs : DkS a) (hR : RD M a D) (hn : D 0 0 = nI n) (h8 : n ≤ 8) : tot (f_X1_breakWhatGives M a) (fun _ M' => RD M' a (sC D n n) ∧ ∀ b, (b < a ∨ a + 17 ≤ b) → M' b = M b) := by
  unfold f_X1_breakWhatGives
  rw [q_at, Option.bind_some, hR.n9 hs]
  show tot (f_X1_breakWhatGives_h12 a FU (D 2 9) 0 M) _
  refine tot.loopFU (σ := Int32 × Mem) (fun m s => f_X1_breakWhatGives_h12 a m (D 2 9) s.1 s.2) n (fun k s => s.1 = nI k ∧ RD s.2 a (sC D n k) ∧ ∀ b, (b < a ∨ a + 17 ≤ b) → s.2 b = M b) _ (by omega) (0, M) ⟨rfl, by rw [sC_0]; exact hR, fun _ _ => rfl⟩ ?_ ?_
  · rintro m k ⟨x, M1⟩ hk ⟨hx, hD, hf⟩ hnext
    dsimp only at hx hD hf
    subst hx
    have hk8 : k < 8 := by omega
    have e0 : sC D n k 0 0 = nI n := by rw [← hn]; simp [sC]
    have e2 : ∀ j, sC D n k 2 j = D 2 j := fun j => by simp [sC]
    have e6 : ∀ j, sC D n k 6 j = D 6 j := fun j => by simp [sC]
    have ek : ∀ o, sC D n k o k = D o k := fun o => by simp [sC]
    show tot (f_X1_breakWhatGives_h12 a (m + 1) (D 2 9) (nI k) M1) _
    -- what the second half does
    have hb : ∀ M2 v, RD M2 a (mU (sC D n k) 12 k v) → v = sSlip D k → (∀ b, (b < a ∨ a + 17 ≤ b) → M2 b = M b) → tot (f_X1_breakWhatGives_b66 a (f_X1_breakWhatGives_h12 a m) (D 2 9) (nI k) (D 6 k) M2) (fun _ M' => RD M' a (sC D n n) ∧ ∀ b, (b < a ∨ a + 17 ≤ b) → M' b = M b) := by
      intro M2 v h2 hv hf2
      have g0 : mU (sC D n k) 12 k v 0 0 = nI n := by rw [← e0]; simp [mU_at]
      have keep : sTear D n k = D 14 k → RD M2 a (sC D n (k + 1)) := fun z => h2.cg (fun o j _ => by
        by_cases hj : j = k
        · subst hj
          by_cases h12 : o = 12
          · subst h12; simp [mU_at, sC, hv]
          · by_cases h14 : o = 14
            · subst h14; simp [mU_at, sC, z]
            · simp [mU_at, sC, h12, h14]
        · by_cases hj2 : j < k
          · simp [mU_at, sC, hj, hj2, Nat.lt_succ_of_lt hj2]
          · simp [mU_at, sC, hj, hj2, show ¬ j < k + 1 by omega])
      unfold f_X1_breakWhatGives_b66 f_X1_breakWhatGives_b108
      rw [nI_1]
      by_cases h9 : D 2 9 = 0
      · rw [if_pos h9]
        exact hnext (nI (k + 1), M2) ⟨rfl, keep (by unfold sTear; rw [if_pos h9]), hf2⟩
      · rw [if_neg h9, h2.p, g0, i_prd (by omega)]
        by_cases hl : n ≤ k + 1
        · rw [if_pos (i_le (by omega) (by omega))]
          exact hnext (nI (k + 1), M2) ⟨rfl, keep (by unfold sTear; rw [if_neg h9, if_pos hl]), hf2⟩
        · rw [if_neg (i_nle (by omega) (by omega)), q_at, Option.bind_some, h2.a4 hs (k := k + 1) (by omega)]
          have g6 : mU (sC D n k) 12 k v 6 (k + 1) = D 6 (k + 1) := by rw [← e6]; simp [mU_at]
          rw [g6]
          show tot (if sAbs (D 6 k - D 6 (k + 1)) ≤ D 2 9 then _ else _) _
          by_cases ht : sAbs (D 6 k - D 6 (k + 1)) ≤ D 2 9
          · rw [if_pos ht]
            exact hnext (nI (k + 1), M2) ⟨rfl, keep (by unfold sTear; rw [if_neg h9, if_neg hl, if_pos ht]), hf2⟩
          · rw [if_neg ht, q_put, Option.bind_some, hs.w8 _ hk8]
            refine hnext (nI (k + 1), _) ⟨rfl, (h2.put 14 k 1).cg (fun o j _ => ?_), fun b hb => ?_⟩
            · have hT : sTear D n k = 1 := by unfold sTear; rw [if_neg h9, if_neg hl, if_neg ht]
              by_cases hj : j = k
              · subst hj
                by_cases h12 : o = 12
                · subst h12; simp [mU_at, sC, hv]
                · by_cases h14 : o = 14
                  · subst h14; simp [mU_at, sC, hT]
                  · simp [mU_at, sC, h12, h14]
              · by_cases hj2 : j < k
                · simp [mU_at, sC, hj, hj2, Nat.lt_succ_of_lt hj2]
                · simp [mU_at, sC, hj, hj2, show ¬ j < k + 1 by omega]
            · show mU M2 (a + 14) k 1 b = M b
              rw [u_ne (by omega)]
              exact hf2 b hb
    rw [f_X1_breakWhatGives_h12, hD.p, e0, if_neg (i_nle hk (by omega)), q_at, Option.bind_some, hD.a4 hs hk8, e6]
    show tot ((f_X8_at M1 (gRf a 7) (nI k)).bind _) _
    rw [q_at, Option.bind_some, hD.a7 hs hk8, ek]
    show tot (if D 12 k = 2 then _ else _) _
    have hself : ∀ v, v = D 12 k → RD M1 a (mU (sC D n k) 12 k v) := fun v hv => hD.cg (fun o j _ => by
      by_cases hj : o = 12 ∧ j = k
      · obtain ⟨rfl, rfl⟩ := hj
        simp [mU_at, ek, hv]
      · rw [mU_at, if_neg hj])
    by_cases h2 : D 12 k = 2
    · rw [if_pos h2, q_at, Option.bind_some, hD.n7 hs, e2]
      show tot (if sAbs (D 6 k) ≤ D 2 7 then _ else _) _
      by_cases h3 : sAbs (D 6 k) ≤ D 2 7
      · rw [if_pos h3]
        exact hb M1 _ (hself _ rfl) (by unfold sSlip; rw [if_pos h2, if_pos h3]) hf
      · rw [if_neg h3, q_put, Option.bind_some, hs.w7 _ hk8]
        refine hb _ 1 (hD.put 12 k 1) (by unfold sSlip; rw [if_pos h2, if_neg h3]) (fun b hb => ?_)
        rw [u_ne (by omega)]
        exact hf b hb
    · rw [if_neg h2]
      exact hb M1 _ (hself _ rfl) (by unfold sSlip; rw [if_neg h2]) hf
  · rintro m ⟨x, M1⟩ ⟨hx, hD, hf⟩
    dsimp only at hx hD hf
    subst hx
    have e0 : sC D n n 0 0 = nI n := by rw [← hn]; simp [sC]
    show tot (f_X1_breakWhatGives_h12 a (m + 1) (D 2 9) (nI n) M1) _
    rw [f_X1_breakWhatGives_h12, hD.p, e0, if_pos (i_le (Nat.le_refl _) (by omega))]
    exact tot.ret ⟨hD, hf⟩
theorem r_tick (hs : DkS a) (hL : LwS c) (hdis : a + 17 ≤ c ∨ c + 5 ≤ a) (hR : RD M a D) (hA : RLw M c A) (hw : cTs A [] = some []) (hn : D 0 0 = nI n) (h8 : n ≤ 8) : tot (f_X1_tick M a c w h) (fun _ M' => RD M' a (sTick A w h n D) ∧ RLw M' c A ∧ ∀ b, (b < a ∨ a + 17 ≤ b) → (b < c ∨ c + 5 ≤ b) → M' b = M b) := by
  unfold f_X1_tick
  refine tot.loopFU (σ := Int32 × Mem) (fun m s => f_X1_tick_h3 a c w h m s.1 s.2) n (fun k s => s.1 = nI k ∧ RD s.2 a (sA A w h n D k) ∧ RLw s.2 c A ∧ ∀ b, (b < a ∨ a + 17 ≤ b) → (b < c ∨ c + 5 ≤ b) → s.2 b = M b) _ (by omega) (0, M) ⟨rfl, by rw [sA_0]; exact hR, hA, fun _ _ _ => rfl⟩ ?_ ?_
  · rintro m k ⟨x, M1⟩ hk ⟨hx, hD, hl, hf⟩ hnext
    dsimp only at hx hD hl hf
    subst hx
    have hk8 : k < 8 := by omega
    have e0 : sA A w h n D k 0 0 = nI n := by rw [← hn]; simp [sA]
    show tot (f_X1_tick_h3 a c w h (m + 1) (nI k) M1) _
    rw [f_X1_tick_h3, hD.p, e0, if_neg (i_nle hk (by omega)), r_names hs hD hk8, Option.bind_some]
    show tot ((f_X3_work (mSet M1 (a + 16) 9 (sNm (sA A w h n D k) w k)) c (gRf a 9)).bind _) _
    have hl' : RLw (mSet M1 (a + 16) 9 (sNm (sA A w h n D k) w k)) c A := hl.fr (by rw [mSet_ne (by omega)]) (mSet_ne (by omega))
    refine tot.bd (w_work (q := a + 16) (nm := sNm (sA A w h n D k) w k) hL hs.c9 (hs 7 (by decide)).2.2 (by omega) hl' hw (fun j hj => by rw [mSet_at, if_pos ⟨rfl, hj⟩])) ?_
    rintro r M2 ⟨hl1, hl2, hf2, hf3⟩
    have hD2 : RD M2 a (sA A w h n D k) := hD.fr (fun b h1 h2 => by rw [hf2 b (by omega) (by omega), mSet_ne (by omega)])
    have hl2' : RLw M2 c A := hl'.fr (hf3 4 (by decide) (by decide)) (hf2 _ (by omega) (by omega))
    rw [sA_nm] at hl1 hl2
    have hfr : ∀ b, (b < a ∨ a + 17 ≤ b) → (b < c ∨ c + 5 ≤ b) → M2 b = M b := fun b h1 h2 => by
      rw [hf2 b (by omega) (by omega), mSet_ne (by omega)]
      exact hf b h1 h2
    show tot ((f_X8_at M2 (gRf a 7) (nI k)).bind _) _
    rw [q_at, Option.bind_some, hD2.a7 hs hk8, sA_k]
    have hend : ∀ s0, s0 = (if D 12 k = 2 then D 2 8 else 0) → tot (f_X1_tick_b49 a c w h (f_X1_tick_h3 a c w h m) s0 (nI k) M2) (fun _ M' => RD M' a (sTick A w h n D) ∧ RLw M' c A ∧ ∀ b, (b < a ∨ a + 17 ≤ b) → (b < c ∨ c + 5 ≤ b) → M' b = M b) := by
      intro s0 hs0
      rw [r_b49 hs hD2 e0 hk h8 (by omega), sA_fast, sA_fast, sA_pull (by decide) (by decide), sA_pull (by decide) (by decide), sA_k, sA_k]
      refine hnext (nI (k + 1), _) ⟨rfl, ((hD2.put 8 k _).put 10 k _).cg (fun o j _ => ?_), ?_, fun b h1 h2 => ?_⟩
      · rw [hl1, hl2, hs0]
        simp only [sA_o (o := 2) (by decide) (by decide)]
        by_cases hj : j = k
        · subst hj
          by_cases h10 : o = 10
          · subst h10; simp [mU_at, sA, sSp, sPs]
          · by_cases h8' : o = 8
            · subst h8'; simp [mU_at, sA, sUp, sPs]
            · simp [mU_at, sA, h10, h8']
        · by_cases hj2 : j < k
          · simp [mU_at, sA, hj, hj2, Nat.lt_succ_of_lt hj2]
          · simp [mU_at, sA, hj, hj2, show ¬ j < k + 1 by omega]
      · refine hl2'.fr ?_ ?_
        · show mU (mU M2 _ _ _) _ _ _ c 4 = _
          rw [u_ne (by omega), u_ne (by omega)]
        · show mU (mU M2 _ _ _) _ _ _ (c + 2) = _
          rw [u_ne (by omega), u_ne (by omega)]
      · show mU (mU M2 _ _ _) _ _ _ b = _
        rw [u_ne (by omega), u_ne (by omega)]
        exact hfr b h1 h2
    show tot (if D 12 k = 2 then _ else _) _
    by_cases h2 : D 12 k = 2
    · rw [if_pos h2, q_at, Option.bind_some, hD2.n8 hs, sA_o (by decide) (by decide)]
      exact hend _ (by rw [if_pos h2])
    · rw [if_neg h2]
      exact hend _ (by rw [if_neg h2])
  · rintro m ⟨x, M1⟩ ⟨hx, hD, hl, hf⟩
    dsimp only at hx hD hl hf
    subst hx
    have e0 : sA A w h n D n 0 0 = nI n := by rw [← hn]; simp [sA]
    show tot (f_X1_tick_h3 a c w h (m + 1) (nI n) M1) _
    rw [f_X1_tick_h3, hD.p, e0, if_pos (i_le (Nat.le_refl _) (by omega))]
    refine tot.loopFU (σ := Int32 × Mem) (fun m s => f_X1_tick_h176 a c w h m s.1 s.2) n (fun k s => s.1 = nI k ∧ RD s.2 a (sB (sA A w h n D n) k) ∧ RLw s.2 c A ∧ ∀ b, (b < a ∨ a + 17 ≤ b) → (b < c ∨ c + 5 ≤ b) → s.2 b = M b) _ (by omega) (0, M1) ⟨rfl, by rw [sB_0]; exact hD, hl, hf⟩ ?_ ?_
    · rintro m k ⟨x, M2⟩ hk ⟨hx, hD, hl, hf⟩ hnext
      dsimp only at hx hD hl hf
      subst hx
      have hk8 : k < 8 := by omega
      generalize hE : sA A w h n D n = E at hD e0 hnext ⊢
      have e1 : sB E k 0 0 = nI n := by rw [← e0]; simp [sB]
      have ek : ∀ o, sB E k o k = E o k := fun o => by simp [sB]
      have h3 := hD.put 4 k (sReach (E 4 k + E 8 k))
      have ek2 : ∀ o, o ≠ 4 → mU (sB E k) 4 k (sReach (E 4 k + E 8 k)) o k = E o k := fun o ho => by rw [mU_at, if_neg (by omega), ek]
      show tot (f_X1_tick_h176 a c w h (m + 1) (nI k) M2) _
      rw [f_X1_tick_h176, hD.p, e1, if_neg (i_nle hk (by omega))]
      simp only [q_at, q_put, Option.bind_some, r_reach, hD.a3 hs hk8, hD.a5 hs hk8, ek, hs.w3 _ hk8, h3.a4 hs hk8, h3.a6 hs hk8, ek2 6 (by decide), ek2 10 (by decide), hs.w4 _ hk8, nI_1]
      refine hnext (nI (k + 1), _) ⟨rfl, (h3.put 6 k _).cg (fun o j _ => ?_), ?_, fun b h1 h2 => ?_⟩
      · by_cases hj : j = k
        · subst hj
          by_cases h10 : o = 6
          · subst h10; simp [mU_at, sB]
          · by_cases h8' : o = 4
            · subst h8'; simp [mU_at, sB]
            · simp [mU_at, sB, h10, h8']
        · by_cases hj2 : j < k
          · simp [mU_at, sB, hj, hj2, Nat.lt_succ_of_lt hj2]
          · simp [mU_at, sB, hj, hj2, show ¬ j < k + 1 by omega]
      · refine hl.fr ?_ ?_
        · show mU (mU M2 _ _ _) _ _ _ c 4 = _
          rw [u_ne (by omega), u_ne (by omega)]
        · show mU (mU M2 _ _ _) _ _ _ (c + 2) = _
          rw [u_ne (by omega), u_ne (by omega)]
      · show mU (mU M2 _ _ _) _ _ _ b = _
        rw [u_ne (by omega), u_ne (by omega)]
        exact hf b h1 h2
    · rintro m ⟨x, M2⟩ ⟨hx, hD, hl, hf⟩
      dsimp only at hx hD hl hf
      subst hx
      generalize hE : sA A w h n D n = E at hD e0
      have e1 : sB E n 0 0 = nI n := by rw [← e0]; simp [sB]
      show tot (f_X1_tick_h176 a c w h (m + 1) (nI n) M2) _
      rw [f_X1_tick_h176, hD.p, e1, if_pos (i_le (Nat.le_refl _) (by omega))]
      have h3 : RD (mU M2 a 1 (M2 a 1 + 1)) a (sTk (sB E n)) := by
        have := hD.put 0 1 (sB E n 0 1 + 1)
        rw [hD.t]
        exact this
      refine tot.bd (r_break hs h3 (by rw [← e1]; rfl) h8) ?_
      rintro r M3 ⟨h4, h5⟩
      refine tot.ret ⟨?_, ?_, fun b h1 h2 => ?_⟩
      · unfold sTick; rw [hE]; exact h4
      · refine hl.fr ?_ ?_
        · rw [h5 c (by omega), u_ne (by omega)]
        · rw [h5 (c + 2) (by omega), u_ne (by omega)]
      · rw [h5 b h1, u_ne (by omega)]
        exact hf b h1 h2
end TICK
