/-! The model's tick. -/
def TF (M M' : Mem) : Prop := (∀ b, b ≠ 250 → (b < 259 ∨ 260 < b) → (b < 263 ∨ 273 < b) → M' b = M b) ∧ ∀ j, j ≠ 16 → j ≠ 17 → j ≠ 20 → M' 250 j = M 250 j
theorem TF.rf {M : Mem} : TF M M := ⟨fun _ _ _ _ => rfl, fun _ _ _ _ => rfl⟩
theorem TF.tr {M M' M'' : Mem} (h : TF M M') (h' : TF M' M'') : TF M M'' := ⟨fun b h1 h2 h3 => (h'.1 b h1 h2 h3).trans (h.1 b h1 h2 h3), fun j h1 h2 h3 => (h'.2 j h1 h2 h3).trans (h.2 j h1 h2 h3)⟩
theorem TF.mU {M : Mem} {a k : Nat} {v : Int32} (ha : a = 259 ∨ a = 260 ∨ (263 ≤ a ∧ a ≤ 273)) : TF M (mU M a k v) := ⟨fun b h1 h2 h3 => u_ne (by omega), fun j _ _ _ => by rw [u_ne (by omega)]⟩
theorem RM.tf {M M' : Mem} {i : Nat} {A : List Nat} (h : RM M i A) (hi : i < 4) (hf : TF M M') : RM M' i A := h.fr (hf.1 258 (by omega) (by omega) (by omega)) (hf.1 _ (by omega) (by omega) (by omega))
/-- deck F in place of D below piece p, its stays slipped -/
def sP (F D : Dk) (p : Nat) : Dk := fun o k => if k < p then (if o = 12 then sSlip F k else if o = 4 ∨ o = 6 ∨ o = 8 ∨ o = 10 then F o k else D o k) else D o k
def sQ (F G : Dk) (n p : Nat) : Dk := fun o k => if k < p ∧ o = 14 then sTear F n k else G o k
section MTICK
variable {M : Mem} {A : List Nat} {D F : Dk} {n i : Nat} {w hd : Int32}
theorem t_b0 (h : MD M D) (ok : DOK n D) {p : Nat} (hp : p < n) (k2 : Int32 → Mem → Option (Int32 × Mem)) (k24 : Int32 → Int32 → Mem → Option (Int32 × Mem)) (iw : Int32) (l : Int32) : f_X11_tick_b59 250 iw w k2 k24 l (nI p) 0 (D 8 p) M = k24 (nI p) 1 (mU (mU M 270 p (sUp D n p l)) 268 p (sReach (D 4 p + sUp D n p l))) := by
  have hp8 : p < 8 := by have := ok.1.2.2; omega
  have hp1 := i_lt0 (show p < 100000 by omega)
  have hp2 := i_cl (show p < 100000 by omega)
  have hp3 : ¬ 8 ≤ p := by omega
  have e0 : (2 : Int32) + 0 = 2 := by decide
  have e1 : (0 : Int32) + 1 = 1 := by decide
  have r0 : gRf 262 0 = 263 := r_262 0 (by omega)
  have l0 : gN 263 = 8 := l_263 0 (by omega)
  have r2 : gRf 267 2 = 270 := r_267 2 (by omega)
  have l2 : gN 270 = 8 := l_268 2 (by omega)
  have r3 : gRf 267 0 = 268 := r_267 0 (by omega)
  have l3 : gN 268 = 8 := l_268 0 (by omega)
  have m0 := mx_1 ok.2.1.1
  have hne := m0.2
  have a1 : ∀ v, mU M 270 p v 263 p = D 4 p := fun v => by rw [u_ne (by omega)]; exact h.a4 hp8
  have a2 : ∀ v, mU M 270 p v 270 p = v := fun v => by rw [mU_at, if_pos ⟨rfl, rfl⟩]
  unfold f_X11_tick_b59 sUp sFast
  simp only [e0, e1, hp1, hp2, hp3, m_23, l_267, m_21, l_261, m_22, l_262, r0, l0, r2, l2, r3, l3, ci_0, zi_0, ci_2, zi_2, ci_4, zi_4, Nat.reduceLeDiff, or_self, not_false_eq_true, ↓reduceIte, t_pull0 h ok hp, Option.bind_some, h.n (show 0 < 10 by omega), h.n (show 4 < 10 by omega), hne, m0.1, t_reach, a1, a2]
theorem t_b1 (h : MD M D) (ok : DOK n D) {p : Nat} (hp : p < n) (k2 : Int32 → Mem → Option (Int32 × Mem)) (k24 : Int32 → Int32 → Mem → Option (Int32 × Mem)) (iw : Int32) (l : Int32) : f_X11_tick_b59 250 iw w k2 k24 l (nI p) 1 (D 10 p) M = k24 (nI p) 2 (mU (mU M 271 p (sSp D n p l)) 269 p (sReach (D 6 p + sSp D n p l))) := by
  have hp8 : p < 8 := by have := ok.1.2.2; omega
  have hp1 := i_lt0 (show p < 100000 by omega)
  have hp2 := i_cl (show p < 100000 by omega)
  have hp3 : ¬ 8 ≤ p := by omega
  have e0 : (2 : Int32) + 1 = 3 := by decide
  have e1 : (1 : Int32) + 1 = 2 := by decide
  have r0 : gRf 262 1 = 264 := r_262 1 (by omega)
  have l0 : gN 264 = 8 := l_263 1 (by omega)
  have r2 : gRf 267 3 = 271 := r_267 3 (by omega)
  have l2 : gN 271 = 8 := l_268 3 (by omega)
  have r3 : gRf 267 1 = 269 := r_267 1 (by omega)
  have l3 : gN 269 = 8 := l_268 1 (by omega)
  have m0 := mx_1 ok.2.1.1
  have hne := m0.2
  have a1 : ∀ v, mU M 271 p v 264 p = D 6 p := fun v => by rw [u_ne (by omega)]; exact h.a6 hp8
  have a2 : ∀ v, mU M 271 p v 271 p = v := fun v => by rw [mU_at, if_pos ⟨rfl, rfl⟩]
  unfold f_X11_tick_b59 sSp sFast
  simp only [e0, e1, hp1, hp2, hp3, m_23, l_267, m_21, l_261, m_22, l_262, r0, l0, r2, l2, r3, l3, ci_0, zi_0, ci_1, zi_1, ci_3, zi_3, ci_4, zi_4, Nat.reduceLeDiff, or_self, not_false_eq_true, ↓reduceIte, t_pull1 h ok hp, Option.bind_some, h.n (show 0 < 10 by omega), h.n (show 4 < 10 by omega), hne, m0.1, t_reach, a1, a2]
theorem t_h24 (h : MD M D) (ok : DOK n D) {p : Nat} (hp : p < n) (k2 : Int32 → Mem → Option (Int32 × Mem)) (iw : Int32) : f_X11_tick_h24 250 iw w k2 FU (nI p) 0 M = k2 (nI (p + 1)) (mU (mU (mU (mU M 270 p (sUp D n p (M 250 16))) 268 p (sReach (D 4 p + sUp D n p (M 250 16)))) 271 p (sSp D n p (M 250 17))) 269 p (sReach (D 6 p + sSp D n p (M 250 17)))) := by
  have hp8 : p < 8 := by have := ok.1.2.2; omega
  have hp1 := i_lt0 (show p < 100000 by omega)
  have hp2 := i_cl (show p < 100000 by omega)
  have hp3 : ¬ 8 ≤ p := by omega
  have c0 : ¬ (2 : Int32) ≤ 0 := by decide
  have c1 : ¬ (2 : Int32) ≤ 1 := by decide
  have c2 : ¬ (1 : Int32) = 0 := by decide
  have e0 : (2 : Int32) + 0 = 2 := by decide
  have e1 : (2 : Int32) + 1 = 3 := by decide
  have r2 : gRf 262 2 = 265 := r_262 2 (by omega)
  have l2 : gN 265 = 8 := l_263 2 (by omega)
  have r3 : gRf 262 3 = 266 := r_262 3 (by omega)
  have l3 : gN 266 = 8 := l_263 3 (by omega)
  unfold FU
  rw [f_X11_tick_h24]
  simp only [c0, e0, hp1, hp2, hp3, m_22, l_262, r2, l2, ci_2, zi_2, Nat.reduceLeDiff, or_self, not_false_eq_true, ↓reduceIte, h.a8 hp8, t_b0 h ok hp]
  generalize hM1 : mU (mU M 270 p (sUp D n p (M 250 16))) 268 p (sReach (D 4 p + sUp D n p (M 250 16))) = M1
  have h1 : MD M1 D := by
    rw [← hM1]
    exact h.fr (by rw [u_ne (by omega), u_ne (by omega)]) (by rw [u_ne (by omega), u_ne (by omega)]) (fun b hb => by rw [u_ne (by omega), u_ne (by omega)])
  have h17 : M1 250 17 = M 250 17 := by rw [← hM1, u_ne (by omega), u_ne (by omega)]
  rw [f_X11_tick_h24]
  simp only [c1, c2, e1, hp1, hp2, hp3, m_22, l_262, r3, l3, ci_3, zi_3, Nat.reduceLeDiff, or_self, not_false_eq_true, ↓reduceIte, h1.a10 hp8, t_b1 h1 ok hp, h17]
  rw [f_X11_tick_h24, if_pos (by decide), nI_1]
theorem slip_eq (v g : Int32) : f_X11_amount M v = some (sAbs v, M) := by
  unfold f_X11_amount sAbs
  split
  · rfl
  · rw [Int32.zero_sub]
theorem tick_eq (o k : Nat) (hn : 2 ≤ n) : sTick A w hd n D o k = (let F := sB (sA A w hd n D n) n; mU (sQ F (sP F D n) n (n - 1)) 0 1 (D 0 1 + 1)) o k := by
  show sC (sTk (sB (sA A w hd n D n) n)) n n o k = mU (sQ (sB (sA A w hd n D n) n) (sP (sB (sA A w hd n D n) n) D n) n (n - 1)) 0 1 (D 0 1 + 1) o k
  generalize hF : sB (sA A w hd n D n) n = F
  have f2 : ∀ j, F 2 j = D 2 j := fun j => by rw [← hF]; simp [sB, sA]
  have f0 : ∀ j, F 0 j = D 0 j := fun j => by rw [← hF]; simp [sB, sA]
  have f14 : ∀ j, F 14 j = D 14 j := fun j => by rw [← hF]; simp [sB, sA]
  have fk : ∀ o j, n ≤ j → F o j = D o j := fun o j hj => by rw [← hF]; simp [sB, sA, show ¬ j < n by omega]
  have fo : ∀ o j, ¬ (o = 4 ∨ o = 6 ∨ o = 8 ∨ o = 10) → F o j = D o j := fun o j ho => by
    rw [← hF]
    have h1 : ¬ o = 4 := by omega
    have h2 : ¬ o = 6 := by omega
    have h3 : ¬ o = 8 := by omega
    have h4 : ¬ o = 10 := by omega
    simp [sB, sA, h1, h2, h3, h4]
  have s12 : sSlip (sTk F) k = sSlip F k := by unfold sSlip sTk; simp [mU_at]
  have s14 : sTear (sTk F) n k = sTear F n k := by unfold sTear sTk; simp [mU_at]
  unfold sC sQ sP
  rw [mU_at, s12, s14]
  by_cases z0 : o = 0 ∧ k = 1
  · obtain ⟨rfl, rfl⟩ := z0
    simp [sTk, mU_at, f0]
  · rw [if_neg z0]
    have hT : sTk F o k = F o k := by unfold sTk; rw [mU_at, if_neg z0]
    rw [hT]
    by_cases hk : k < n
    · simp only [hk, ↓reduceIte, true_and]
      by_cases z12 : o = 12
      · subst z12; simp
      · rw [if_neg z12]
        by_cases z14 : o = 14
        · subst z14
          simp only [↓reduceIte, and_true]
          by_cases hk2 : k < n - 1
          · rw [if_pos hk2]
          · rw [if_neg hk2]
            have : sTear F n k = F 14 k := by
              unfold sTear
              split
              · rfl
              · rw [if_pos (by omega)]
            rw [this, f14]
            simp
        · simp only [z14, and_false, ↓reduceIte, z12]
          by_cases z4 : o = 4 ∨ o = 6 ∨ o = 8 ∨ o = 10
          · rw [if_pos z4]
          · rw [if_neg z4, fo o k z4]
    · simp only [hk, ↓reduceIte, show ¬ k < n - 1 by omega, false_and]
      exact fk o k (by omega)
theorem t_tick (hi : i < 4) (h : MD M D) (ok : DOK n D) (hR : RM M i A) (hw : cTs A [] = some []) (hh : M 250 18 = hd) : tot (f_X11_tick M 250 (nI i) w) (fun _ M' => MD M' (sTick A w hd n D) ∧ TF M M') := by
  have okk := ok
  obtain ⟨⟨hn, h2, h8⟩, ⟨_, h29⟩, _⟩ := ok
  have ok := okk
  unfold f_X11_tick
  refine tot.loopFU (σ := Int32 × Mem) (fun m s => f_X11_tick_h2 250 (nI i) w m s.1 s.2) n (fun p s => s.1 = nI p ∧ MD s.2 D ∧ (∀ q, q < p → s.2 270 q = sUp D n q (sPs A D w hd q).1 ∧ s.2 268 q = sReach (D 4 q + sUp D n q (sPs A D w hd q).1) ∧ s.2 271 q = sSp D n q (sPs A D w hd q).2 ∧ s.2 269 q = sReach (D 6 q + sSp D n q (sPs A D w hd q).2)) ∧ TF M s.2) _ (by omega) (0, M) ⟨rfl, h, fun q hq => by omega, TF.rf⟩ ?_ ?_
  · rintro m p ⟨x, M1⟩ hp ⟨hx, hM, hq, hf⟩ hnext
    dsimp only at hx hM hq hf
    subst hx
    show tot (f_X11_tick_h2 250 (nI i) w (m + 1) (nI p) M1) _
    rw [f_X11_tick_h2, hM.p, hn, if_neg (i_nle hp (by omega))]
    refine tot.bd (t_names hM (p := p) (by omega) w) ?_
    rintro r2 M2 ⟨hnm, hf2⟩
    have hT2 : TF M1 M2 := ⟨fun b h1 h2 h3 => hf2 b (by omega), fun j _ _ _ => by rw [hf2 250 (by omega)]⟩
    have hM2 : MD M2 D := hM.fr (by rw [hf2 250 (by omega)]) (by rw [hf2 250 (by omega)]) (fun b hb => hf2 b (by omega))
    refine tot.bd (r_asks (h := hd) (nm := sNm D w p) hi (by rw [hf2 250 (by omega), hf.2 18 (by omega) (by omega) (by omega)]; exact hh) (hR.tf hi (hf.tr hT2)) hw hnm) ?_
    rintro r3 M3 ⟨h16, h17, hf3, hj3⟩
    have hM3 : MD M3 D := hM2.fr (hj3 19 (by decide) (by decide)) (hj3 20 (by decide) (by decide)) (fun b hb => hf3 b (by omega) (by omega))
    have hT3 : TF M2 M3 := ⟨fun b h1 h2 h3 => hf3 b h1 (by omega), fun j h1 h2 _ => hj3 j h1 h2⟩
    show tot (f_X11_tick_h24 250 (nI i) w (f_X11_tick_h2 250 (nI i) w m) FU (nI p) 0 M3) _
    rw [t_h24 hM3 ok hp, h16, h17]
    have hold : ∀ q, q < p → M3 270 q = sUp D n q (sPs A D w hd q).1 ∧ M3 268 q = sReach (D 4 q + sUp D n q (sPs A D w hd q).1) ∧ M3 271 q = sSp D n q (sPs A D w hd q).2 ∧ M3 269 q = sReach (D 6 q + sSp D n q (sPs A D w hd q).2) := fun q hq2 => by
      rw [hf3 270 (by omega) (by omega), hf3 268 (by omega) (by omega), hf3 271 (by omega) (by omega), hf3 269 (by omega) (by omega), hf2 270 (by omega), hf2 268 (by omega), hf2 271 (by omega), hf2 269 (by omega)]
      exact hq q hq2
    refine hnext (nI (p + 1), mU (mU (mU (mU M3 270 p (sUp D n p (sPs A D w hd p).1)) 268 p (sReach (D 4 p + sUp D n p (sPs A D w hd p).1))) 271 p (sSp D n p (sPs A D w hd p).2)) 269 p (sReach (D 6 p + sSp D n p (sPs A D w hd p).2))) ⟨rfl, hM3.fr ?_ ?_ (fun b hb => ?_), fun q hq2 => ?_, ?_⟩
    · dsimp only
      rw [u_ne (by omega), u_ne (by omega), u_ne (by omega), u_ne (by omega)]
    · dsimp only
      rw [u_ne (by omega), u_ne (by omega), u_ne (by omega), u_ne (by omega)]
    · dsimp only
      rw [u_ne (by omega), u_ne (by omega), u_ne (by omega), u_ne (by omega)]
    · by_cases hz : q = p
      · subst hz
        refine ⟨?_, ?_, ?_, ?_⟩ <;> simp [mU_at]
      · have := hold q (by omega)
        simp only [mU_at, hz, and_false, ↓reduceIte]
        exact this
    · exact hf.tr (hT2.tr (hT3.tr (((TF.mU (by omega)).tr (TF.mU (by omega))).tr ((TF.mU (by omega)).tr (TF.mU (by omega))))))
  · rintro m ⟨x, M1⟩ ⟨hx, hM, hq, hf⟩
    dsimp only at hx hM hq hf
    subst hx
    show tot (f_X11_tick_h2 250 (nI i) w (m + 1) (nI n) M1) _
    rw [f_X11_tick_h2, hM.p, hn, if_pos (i_le (Nat.le_refl _) (by omega))]
    have hfin : ∀ M2, MD M2 (sQ (sB (sA A w hd n D n) n) (sP (sB (sA A w hd n D n) n) D n) n (n - 1)) → TF M M2 → tot (some ((0 : Int32), mU M2 250 20 (M2 250 20 + 1))) (fun _ M' => MD M' (sTick A w hd n D) ∧ TF M M') := by
      intro M2 hM2 hf2
      refine tot.ret ⟨?_, hf2.tr ⟨fun b h1 _ _ => u_ne h1, fun j h1 h2 h3 => by rw [mU_at, if_neg (by omega)]⟩⟩
      have e20 : M2 250 20 = D 0 1 := hM2.t.trans (by simp [sQ, sP, sB, sA])
      rw [e20]
      have e19 : M2 250 19 = D 0 0 := hM2.p.trans (by simp [sQ, sP, sB, sA])
      refine ⟨⟨?_, ?_⟩, fun o k ho hik => ?_⟩
      · rw [mU_at, if_neg (by decide), e19]; exact tick_0.symm
      · rw [mU_at, if_pos ⟨rfl, rfl⟩, tick_eq 0 1 h2]; simp [mU_at]
      · have he := inD_e hik
        rw [u_ne (dA_ne o he.1 ho he.2), hM2.2 o k ho hik, tick_eq o k h2]
        show _ = mU _ 0 1 _ o k
        rw [mU_at, if_neg (by omega)]
    generalize hF : sB (sA A w hd n D n) n = F at hfin
    have f2 : ∀ j, F 2 j = D 2 j := fun j => by rw [← hF]; simp [sB, sA]
    have f12 : ∀ j, F 12 j = D 12 j := fun j => by rw [← hF]; simp [sB, sA]
    have f14 : ∀ j, F 14 j = D 14 j := fun j => by rw [← hF]; simp [sB, sA]
    have fq : ∀ q, q < n → F 8 q = sUp D n q (sPs A D w hd q).1 ∧ F 4 q = sReach (D 4 q + sUp D n q (sPs A D w hd q).1) ∧ F 10 q = sSp D n q (sPs A D w hd q).2 ∧ F 6 q = sReach (D 6 q + sSp D n q (sPs A D w hd q).2) := fun q hq => by
      rw [← hF]
      simp [sB, sA, hq]
    -- then's rows hold F
    have hth : ∀ z, z < 4 → ∀ q, q < n → M1 (268 + z) q = F (4 + 2 * z) q := fun z hz q hqn => by
      have h9 := hq q hqn
      have h8 := fq q hqn
      have : z = 0 ∨ z = 1 ∨ z = 2 ∨ z = 3 := by omega
      rcases this with rfl | rfl | rfl | rfl
      · exact h9.2.1.trans h8.2.1.symm
      · exact h9.2.2.2.trans h8.2.2.2.symm
      · exact h9.1.trans h8.1.symm
      · exact h9.2.2.1.trans h8.2.2.1.symm
    refine tot.loopFU (σ := Int32 × Mem) (fun m s => f_X11_tick_h166 250 (nI i) w m s.1 s.2) n (fun p s => s.1 = nI p ∧ MD s.2 (sP F D p) ∧ (∀ b, 268 ≤ b → b < 272 → s.2 b = M1 b) ∧ TF M s.2) _ (by omega) (0, M1) ⟨rfl, hM.cg (fun o k _ => by simp [sP]), fun _ _ _ => rfl, hf⟩ ?_ ?_
    · rintro m p ⟨x, M2⟩ hp ⟨hx, hM2, ht2, hf2⟩ hnext
      dsimp only at hx hM2 ht2 hf2
      subst hx
      have hp8 : p < 8 := by omega
      have hp1 := i_lt0 (show p < 100000 by omega)
      have hp2 := i_cl (show p < 100000 by omega)
      have hp3 : ¬ 8 ≤ p := by omega
      show tot (f_X11_tick_h166 250 (nI i) w (m + 1) (nI p) M2) _
      have e0 : sP F D p 0 0 = nI n := by rw [← hn]; simp [sP]
      rw [f_X11_tick_h166, hM2.p, e0, if_neg (i_nle hp (by omega))]
      refine tot.loopFU (σ := Int32 × Mem) (fun m9 s => f_X11_tick_h177 250 (nI i) w (f_X11_tick_h166 250 (nI i) w m) m9 (nI p) s.1 s.2) 4 (fun z s => s.1 = nI z ∧ MD s.2 (fun o k => if k = p ∧ (∃ q, q < z ∧ o = 4 + 2 * q) then F o k else sP F D p o k) ∧ (∀ b, 268 ≤ b → b < 272 → s.2 b = M1 b) ∧ TF M s.2) _ (by omega) (0, M2) ⟨rfl, hM2.cg (fun o k _ => by rw [if_neg]; rintro ⟨_, q, hq, _⟩; omega), ht2, hf2⟩ ?_ ?_
      · rintro m2 z ⟨x, M3⟩ hz ⟨hx, hM3, ht3, hf3⟩ hnext2
        dsimp only at hx hM3 ht3 hf3
        subst hx
        have hz1 := i_lt0 (show z < 100000 by omega)
        have hz2 := i_cl (show z < 100000 by omega)
        have hz3 : ¬ 4 ≤ z := by omega
        have hz4 : ¬ (4 : Int32) ≤ nI z := i_nle (b := 4) hz (by omega)
        show tot (f_X11_tick_h177 250 (nI i) w _ (m2 + 1) (nI p) (nI z) M3) _
        rw [f_X11_tick_h177]
        simp only [hz1, hz2, hz3, hz4, hp1, hp2, hp3, m_23, l_267, r_267 z hz, l_268 z hz, m_22, l_262, r_262 z hz, l_263 z hz, or_self, not_false_eq_true, ↓reduceIte, nI_1]
        have hv : M3 (268 + z) p = F (4 + 2 * z) p := by rw [ht3 _ (by omega) (by omega)]; exact hth z hz p hp
        rw [hv, ← dA_b z hz]
        refine hnext2 (nI (z + 1), _) ⟨rfl, (hM3.put (by omega) (inD_b hz hp8) _).cg (fun o k hik => ?_), fun b h1 h2 => ?_, ?_⟩
        · rw [mU_at]
          by_cases hy : o = 4 + 2 * z ∧ k = p
          · rw [if_pos hy, if_pos ⟨hy.2, z, by omega, hy.1⟩, hy.1, hy.2]
          · rw [if_neg hy]
            by_cases hy2 : k = p ∧ ∃ q, q < z ∧ o = 4 + 2 * q
            · obtain ⟨a1, q, a2, a3⟩ := hy2
              rw [if_pos ⟨a1, q, a2, a3⟩, if_pos ⟨a1, q, by omega, a3⟩]
            · rw [if_neg hy2, if_neg]
              rintro ⟨a1, q, a2, a3⟩
              by_cases hqz : q = z
              · exact hy ⟨by rw [a3, hqz], a1⟩
              · exact hy2 ⟨a1, q, by omega, a3⟩
        · show mU M3 (dA (4 + 2 * z)) p _ b = M1 b
          rw [dA_b z hz, u_ne (by omega)]
          exact ht3 b h1 h2
        · refine hf3.tr ?_
          show TF M3 (mU M3 (dA (4 + 2 * z)) p _)
          rw [dA_b z hz]
          exact TF.mU (by omega)
      · rintro m2 ⟨x, M3⟩ ⟨hx, hM3, ht3, hf3⟩
        dsimp only at hx hM3 ht3 hf3
        subst hx
        show tot (f_X11_tick_h177 250 (nI i) w _ (m2 + 1) (nI p) (nI 4) M3) _
        have hz4 : (4 : Int32) ≤ nI 4 := by decide
        have hM4 : MD M3 (fun o k => if k = p ∧ (o = 4 ∨ o = 6 ∨ o = 8 ∨ o = 10) then F o k else sP F D p o k) := hM3.cg (fun o k _ => by
          by_cases hy : k = p ∧ (o = 4 ∨ o = 6 ∨ o = 8 ∨ o = 10)
          · rw [if_pos hy, if_pos ⟨hy.1, (o - 4) / 2, by omega, by omega⟩]
          · rw [if_neg hy, if_neg]
            rintro ⟨a1, q, a2, a3⟩
            exact hy ⟨a1, by omega⟩)
        have r1 : gRf 262 1 = 264 := r_262 1 (by omega)
        have l1 : gN 264 = 8 := l_263 1 (by omega)
        have e12 : M3 272 p = D 12 p := (hM4.a12 hp8).trans (by simp [sP])
        have e6 : M3 264 p = F 6 p := (hM4.a6 hp8).trans (by simp)
        have e7 : M3 261 7 = D 2 7 := (hM4.n (by omega)).trans (by simp [sP])
        have hgo : ∀ M4 v, MD M4 (mU (fun o k => if k = p ∧ (o = 4 ∨ o = 6 ∨ o = 8 ∨ o = 10) then F o k else sP F D p o k) 12 p v) → v = sSlip F p → (∀ b, 268 ≤ b → b < 272 → M4 b = M1 b) → TF M M4 → tot (f_X11_tick_h166 250 (nI i) w m (nI (p + 1)) M4) (fun _ M' => MD M' (sTick A w hd n D) ∧ TF M M') := by
          intro M4 v hM5 hv ht4 hf4
          refine hnext (nI (p + 1), M4) ⟨rfl, hM5.cg (fun o k _ => ?_), ht4, hf4⟩
          rw [mU_at]
          by_cases hk : k = p
          · subst hk
            by_cases h12 : o = 12
            · subst h12; simp [sP, hv]
            · by_cases hb : o = 4 ∨ o = 6 ∨ o = 8 ∨ o = 10
              · simp [sP, h12, hb]
              · simp [sP, h12, hb]
          · by_cases hk2 : k < p
            · simp [sP, hk, hk2, Nat.lt_succ_of_lt hk2]
            · simp [sP, hk, hk2, show ¬ k < p + 1 by omega]
        have hself : ∀ v, v = D 12 p → MD M3 (mU (fun o k => if k = p ∧ (o = 4 ∨ o = 6 ∨ o = 8 ∨ o = 10) then F o k else sP F D p o k) 12 p v) := fun v hv => hM4.cg (fun o k _ => by
          rw [mU_at]
          by_cases hy : o = 12 ∧ k = p
          · obtain ⟨rfl, rfl⟩ := hy
            simp [sP, hv]
          · rw [if_neg hy])
        rw [f_X11_tick_h177]
        unfold f_X11_tick_b245
        simp only [hz4, hp1, hp2, hp3, m_24, l_272, m_22, l_262, ci_1, zi_1, r1, l1, m_21, l_261, ci_7, zi_7, Nat.reduceLeDiff, or_self, not_false_eq_true, ↓reduceIte, nI_1, e12, e6, slip_eq _ (0 : Int32), Option.bind_some, e7]
        by_cases hs : D 12 p = 2
        · rw [if_pos hs]
          by_cases hs2 : sAbs (F 6 p) ≤ D 2 7
          · rw [if_pos hs2]
            exact hgo M3 _ (hself _ rfl) (by unfold sSlip; rw [f12, f2, if_pos hs, if_pos hs2]) ht3 hf3
          · rw [if_neg hs2]
            refine hgo _ 1 (hM4.put (o := 12) (k := p) (by omega) (Or.inr (Or.inr ⟨by omega, hp8⟩)) 1) (by unfold sSlip; rw [f12, f2, if_pos hs, if_neg hs2]) (fun b h1 h2 => ?_) (hf3.tr (TF.mU (by decide)))
            rw [u_ne (by show b ≠ 272; omega)]
            exact ht3 b h1 h2
        · rw [if_neg hs]
          exact hgo M3 _ (hself _ rfl) (by unfold sSlip; rw [f12, if_neg hs]) ht3 hf3
    · rintro m ⟨x, M2⟩ ⟨hx, hM2, ht2, hf2⟩
      dsimp only at hx hM2 ht2 hf2
      subst hx
      show tot (f_X11_tick_h166 250 (nI i) w (m + 1) (nI n) M2) _
      have e0 : sP F D n 0 0 = nI n := by rw [← hn]; simp [sP]
      rw [f_X11_tick_h166, hM2.p, e0, if_pos (i_le (Nat.le_refl _) (by omega))]
      refine tot.loopFU (σ := Int32 × Mem) (fun m s => f_X11_tick_h253 250 (nI i) w m s.1 s.2) (n - 1) (fun p s => s.1 = nI p ∧ MD s.2 (sQ F (sP F D n) n p) ∧ TF M s.2) _ (by omega) (0, M2) ⟨rfl, hM2.cg (fun o k _ => by simp [sQ]), hf2⟩ ?_ ?_
      · rintro m p ⟨x, M3⟩ hp ⟨hx, hM3, hf3⟩ hnext
        dsimp only at hx hM3 hf3
        subst hx
        have hp8 : p < 8 := by omega
        have hp1 := i_lt0 (show p < 100000 by omega)
        have hp2 := i_cl (show p < 100000 by omega)
        have hp3 : ¬ 8 ≤ p := by omega
        have hq1 := i_lt0 (show p + 1 < 100000 by omega)
        have hq2 := i_cl (show p + 1 < 100000 by omega)
        have hq3 : ¬ 8 ≤ p + 1 := by omega
        have hq4 : ¬ nI n ≤ nI (p + 1) := i_nle (by omega) (by omega)
        have r1 : gRf 262 1 = 264 := r_262 1 (by omega)
        have l1 : gN 264 = 8 := l_263 1 (by omega)
        have e0 : M3 250 19 = nI n := hM3.p.trans (by rw [← hn]; simp [sQ, sP])
        have e9 : M3 261 9 = D 2 9 := (hM3.n (by omega)).trans (by simp [sQ, sP])
        have e6 : ∀ q, q < n → M3 264 q = F 6 q := fun q hq => (hM3.a6 (by omega)).trans (by simp [sQ, sP, hq])
        have hgo : ∀ M4 v, MD M4 (mU (sQ F (sP F D n) n p) 14 p v) → v = sTear F n p → TF M M4 → tot (f_X11_tick_h253 250 (nI i) w m (nI (p + 1)) M4) (fun _ M' => MD M' (sTick A w hd n D) ∧ TF M M') := by
          intro M4 v hM5 hv hf4
          refine hnext (nI (p + 1), M4) ⟨rfl, hM5.cg (fun o k _ => ?_), hf4⟩
          rw [mU_at]
          unfold sQ
          by_cases hy : o = 14 ∧ k = p
          · rw [if_pos hy, if_pos (by omega), hv, hy.2]
          · rw [if_neg hy]
            by_cases hy2 : k < p ∧ o = 14
            · rw [if_pos hy2, if_pos (by omega)]
            · rw [if_neg hy2, if_neg (by omega)]
        have hself : ∀ v, v = D 14 p → MD M3 (mU (sQ F (sP F D n) n p) 14 p v) := fun v hv => hM3.cg (fun o k _ => by
          rw [mU_at]
          by_cases hy : o = 14 ∧ k = p
          · obtain ⟨rfl, rfl⟩ := hy
            simp [sQ, sP, hv]
          · rw [if_neg hy])
        show tot (f_X11_tick_h253 250 (nI i) w (m + 1) (nI p) M3) _
        rw [f_X11_tick_h253]
        unfold f_X11_tick_b312
        simp only [e0, nI_1, hq1, hq2, hq3, hq4, hp1, hp2, hp3, m_21, l_261, ci_9, zi_9, m_22, l_262, ci_1, zi_1, r1, l1, m_25, l_273, Nat.reduceLeDiff, or_self, not_false_eq_true, ↓reduceIte, e9, e6 p (by omega), e6 (p + 1) (by omega), slip_eq _ (0 : Int32), Option.bind_some]
        by_cases hs : D 2 9 ≤ 0
        · have hs0 : D 2 9 = 0 := Int32.le_antisymm hs h29
          rw [if_pos hs]
          exact hgo M3 _ (hself _ rfl) (by unfold sTear; rw [f2, f14, if_pos hs0]) hf3
        · rw [if_neg hs]
          have hs0 : ¬ D 2 9 = 0 := fun z => hs (by rw [z]; exact Int32.le_refl 0)
          by_cases hs2 : sAbs (F 6 p - F 6 (p + 1)) ≤ D 2 9
          · rw [if_pos hs2]
            exact hgo M3 _ (hself _ rfl) (by unfold sTear; rw [f2, f14, if_neg hs0, if_neg (by omega), if_pos hs2]) hf3
          · rw [if_neg hs2]
            exact hgo _ 1 (hM3.put (o := 14) (k := p) (by omega) (Or.inr (Or.inr ⟨by omega, hp8⟩)) 1) (by unfold sTear; rw [f2, if_neg hs0, if_neg (by omega), if_neg hs2]) (hf3.tr (TF.mU (by decide)))
      · rintro m ⟨x, M3⟩ ⟨hx, hM3, hf3⟩
        dsimp only at hx hM3 hf3
        subst hx
        show tot (f_X11_tick_h253 250 (nI i) w (m + 1) (nI (n - 1)) M3) _
        have e0 : M3 250 19 = nI n := hM3.p.trans (by rw [← hn]; simp [sQ, sP])
        rw [f_X11_tick_h253, e0, nI_1, if_pos (i_le (by omega) (by omega))]
        exact hfin M3 hM3 hf3
end MTICK
