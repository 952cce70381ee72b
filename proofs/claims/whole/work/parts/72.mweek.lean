/-! The model's week(). -/
section MWEEK
variable {M : Mem} {s : St}
theorem wk_o {A : List Nat} {R : Dk} (d : Nat) (o k : Nat) (ho : o ≠ 2) : (sWk A R d).2.1 o k = rD R o k := by
  induction d with
  | zero => rfl
  | succ d ih =>
    show sMake R _ (sWk A R d).2.1 o k = _
    rw [make_o ho]; exact ih
theorem wk_dok {A : List Nat} {R : Dk} {n : Nat} (ok : DOK n (rD R)) (hc : cmd R ≤ 5) (hq : ∀ k, k < cmd R → ∃ q, q < 10 ∧ R 29 k = nI q) (d : Nat) (hd : d ≤ cmd R) : DOK n (sWk A R d).2.1 := by
  induction d with
  | zero => exact ok
  | succ d ih =>
    obtain ⟨q, hq1, hqe⟩ := wk_ex (A := A) hc (show d < cmd R by omega)
    obtain ⟨z, hz1, hz2⟩ := hq q hq1
    show DOK n (sMake R (sBst A R (sWk A R d).2.1 (sWk A R d).1 (cmd R)).1.toNatClampNeg (sWk A R d).2.1)
    rw [hqe, i_cl (by omega)]
    exact (ih (by omega)).make hz2 hz1
/-- numbers kept in a row b of ours, 280 or 333 -/
theorem wk_had {D : Dk} (h : MD M D) (l d : Int32) {Q : Int32 → Mem → Prop} (hk : ∀ M', MD M' D → (∀ k, k < 10 → M' 333 k = D 2 k) → (∀ b, b ≠ 333 → M' b = M b) → tot (f_X11_week_h96 250 l d FU 333 0 (-1) 0 M') Q) : tot (f_X11_week_h63 250 l d FU 333 0 M) Q := by
  refine tot.loopFU (σ := Int32 × Mem) (fun m s9 => f_X11_week_h63 250 l d m 333 s9.1 s9.2) 10 (fun k s9 => s9.1 = nI k ∧ (∀ q, q < k → s9.2 333 q = D 2 q) ∧ ∀ b, b ≠ 333 → s9.2 b = M b) _ (by omega) (0, M) ⟨rfl, fun q hq => by omega, fun _ _ => rfl⟩ ?_ ?_
  · rintro m k ⟨x, M1⟩ hk' ⟨hx, a2, a3⟩ hnext
    dsimp only at hx a2 a3
    subst hx
    have hk1 := i_lt0 (show k < 100000 by omega)
    have hk2 := i_cl (show k < 100000 by omega)
    have hk3 : ¬ 10 ≤ k := by omega
    have hk4 : ¬ (10 : Int32) ≤ nI k := i_nle (b := 10) hk' (by omega)
    have hv : M1 261 k = D 2 k := by rw [a3 261 (by decide)]; exact h.n hk'
    show tot (f_X11_week_h63 250 l d (m + 1) 333 (nI k) M1) _
    rw [f_X11_week_h63]
    simp only [hk1, hk2, hk3, hk4, m_21, l_261, l_333, or_self, not_false_eq_true, ↓reduceIte, hv, nI_1]
    refine hnext (nI (k + 1), mU M1 333 k (D 2 k)) ⟨rfl, fun q hq => ?_, fun b hb => ?_⟩ <;> dsimp only
    · rw [mU_at]
      by_cases hz : q = k
      · rw [if_pos ⟨rfl, hz⟩, hz]
      · rw [if_neg (fun z => hz z.2)]; exact a2 q (by omega)
    · rw [u_ne hb]; exact a3 b hb
  · rintro m ⟨x, M1⟩ ⟨hx, a2, a3⟩
    dsimp only at hx a2 a3
    subst hx
    show tot (f_X11_week_h63 250 l d (m + 1) 333 (nI 10) M1) _
    rw [f_X11_week_h63, if_pos (show (10 : Int32) ≤ nI 10 by decide)]
    exact hk M1 (h.fr (by rw [a3 250 (by decide)]) (by rw [a3 250 (by decide)]) (fun b hb => a3 b (by omega))) a2 a3
theorem wk_back {E D : Dk} (h : MD M E) (hE : ∀ o k, o ≠ 2 → E o k = D o k) (hk : ∀ k, k < 10 → M 333 k = D 2 k) (l d x5 : Int32) : ∃ M', f_X11_week_h265 250 l d FU 333 x5 0 M = some (x5, M') ∧ MD M' D ∧ ∀ b, b ≠ 261 → M' b = M b := by
  have t : tot (f_X11_week_h265 250 l d FU 333 x5 0 M) (fun r M' => r = x5 ∧ MD M' D ∧ ∀ b, b ≠ 261 → M' b = M b) := by
    refine tot.loopFU (σ := Int32 × Mem) (fun m s9 => f_X11_week_h265 250 l d m 333 x5 s9.1 s9.2) 10 (fun k s9 => s9.1 = nI k ∧ MD s9.2 (fun o q => if o = 2 ∧ q < k then D 2 q else E o q) ∧ ∀ b, b ≠ 261 → s9.2 b = M b) _ (by omega) (0, M) ⟨rfl, h.cg (fun o q _ => by rw [if_neg (by omega)]), fun _ _ => rfl⟩ ?_ ?_
    · rintro m k ⟨x, M1⟩ hk' ⟨hx, a1, a2⟩ hnext
      dsimp only at hx a1 a2
      subst hx
      have hk1 := i_lt0 (show k < 100000 by omega)
      have hk2 := i_cl (show k < 100000 by omega)
      have hk3 : ¬ 10 ≤ k := by omega
      have hk4 : ¬ (10 : Int32) ≤ nI k := i_nle (b := 10) hk' (by omega)
      have hv : M1 333 k = D 2 k := by rw [a2 333 (by decide)]; exact hk k hk'
      show tot (f_X11_week_h265 250 l d (m + 1) 333 x5 (nI k) M1) _
      rw [f_X11_week_h265]
      simp only [hk1, hk2, hk3, hk4, m_21, l_261, l_333, or_self, not_false_eq_true, ↓reduceIte, hv, nI_1]
      refine hnext (nI (k + 1), mU M1 261 k (D 2 k)) ⟨rfl, (a1.put (o := 2) (k := k) (by omega) (Or.inr (Or.inl ⟨rfl, hk'⟩)) (D 2 k)).cg (fun o q _ => ?_), fun b hb => by dsimp only; rw [u_ne hb]; exact a2 b hb⟩
      rw [mU_at]
      by_cases hz : o = 2 ∧ q = k
      · rw [if_pos hz, if_pos (by omega), hz.2]
      · rw [if_neg hz]
        by_cases hz2 : o = 2 ∧ q < k
        · rw [if_pos hz2, if_pos (by omega)]
        · rw [if_neg hz2, if_neg (by omega)]
    · rintro m ⟨x, M1⟩ ⟨hx, a1, a2⟩
      dsimp only at hx a1 a2
      subst hx
      show tot (f_X11_week_h265 250 l d (m + 1) 333 x5 (nI 10) M1) _
      rw [f_X11_week_h265, if_pos (show (10 : Int32) ≤ nI 10 by decide)]
      exact tot.ret ⟨rfl, a1.cg (fun o q hi => by
        by_cases hz : o = 2
        · have : q < 10 := by unfold inD at hi; omega
          rw [if_pos ⟨hz, this⟩, hz]
        · rw [if_neg (fun z => hz z.1)]; exact hE o q hz), a2⟩
  obtain ⟨r, M', e, rfl, h1, h2⟩ := t
  exact ⟨M', e, h1, h2⟩
theorem wk_keep {E : Dk} (h : MD M E) (l d : Int32) (k96 : Nat → Int32 → Int32 → Int32 → Mem → Option (Int32 × Mem)) (k111 : Nat → Int32 → Int32 → Int32 → Int32 → Int32 → Mem → Option (Int32 × Mem)) (x4 x6 x7 x8 x9 : Int32) {Q : Int32 → Mem → Prop} (hk : ∀ M', MD M' E → (∀ k, k < 10 → M' 280 k = E 2 k) → (∀ b, b ≠ 280 → M' b = M b) → tot ((f_X11_makes M' 250 x9).bind fun q => match q with | (r30, M31) => ((f_X11_calmTo M31 250 l).bind fun q => match q with | (r34, M35) => (f_X11_week_h180 250 l d k96 k111 FU 333 x4 x6 x7 x8 x9 r34 0 M35))) Q) : tot (f_X11_week_h137 250 l d k96 k111 FU 333 x4 x6 x7 x8 x9 0 M) Q := by
  refine tot.loopFU (σ := Int32 × Mem) (fun m s9 => f_X11_week_h137 250 l d k96 k111 m 333 x4 x6 x7 x8 x9 s9.1 s9.2) 10 (fun k s9 => s9.1 = nI k ∧ (∀ q, q < k → s9.2 280 q = E 2 q) ∧ ∀ b, b ≠ 280 → s9.2 b = M b) _ (by omega) (0, M) ⟨rfl, fun q hq => by omega, fun _ _ => rfl⟩ ?_ ?_
  · rintro m k ⟨x, M1⟩ hk' ⟨hx, a2, a3⟩ hnext
    dsimp only at hx a2 a3
    subst hx
    have hk1 := i_lt0 (show k < 100000 by omega)
    have hk2 := i_cl (show k < 100000 by omega)
    have hk3 : ¬ 10 ≤ k := by omega
    have hk4 : ¬ (10 : Int32) ≤ nI k := i_nle (b := 10) hk' (by omega)
    have hv : M1 261 k = E 2 k := by rw [a3 261 (by decide)]; exact h.n hk'
    show tot (f_X11_week_h137 250 l d k96 k111 (m + 1) 333 x4 x6 x7 x8 x9 (nI k) M1) _
    rw [f_X11_week_h137]
    simp only [hk1, hk2, hk3, hk4, m_21, l_261, m_29, l_280, or_self, not_false_eq_true, ↓reduceIte, hv, nI_1]
    refine hnext (nI (k + 1), mU M1 280 k (E 2 k)) ⟨rfl, fun q hq => ?_, fun b hb => ?_⟩ <;> dsimp only
    · rw [mU_at]
      by_cases hz : q = k
      · rw [if_pos ⟨rfl, hz⟩, hz]
      · rw [if_neg (fun z => hz z.2)]; exact a2 q (by omega)
    · rw [u_ne hb]; exact a3 b hb
  · rintro m ⟨x, M1⟩ ⟨hx, a2, a3⟩
    dsimp only at hx a2 a3
    subst hx
    show tot (f_X11_week_h137 250 l d k96 k111 (m + 1) 333 x4 x6 x7 x8 x9 (nI 10) M1) _
    rw [f_X11_week_h137, if_pos (show (10 : Int32) ≤ nI 10 by decide)]
    exact hk M1 (h.fr (by rw [a3 250 (by decide)]) (by rw [a3 250 (by decide)]) (fun b hb => a3 b (by omega))) a2 a3
theorem wk_numb {E D : Dk} (h : MD M E) (hE : ∀ o k, o ≠ 2 → E o k = D o k) (hk : ∀ k, k < 10 → M 280 k = D 2 k) (l d : Int32) (k96 : Nat → Int32 → Int32 → Int32 → Mem → Option (Int32 × Mem)) (k111 : Nat → Int32 → Int32 → Int32 → Int32 → Int32 → Mem → Option (Int32 × Mem)) (x4 x6 x7 x8 x9 x10 : Int32) {Q : Int32 → Mem → Prop} (hq : ∀ M', MD M' D → (∀ b, b ≠ 261 → M' b = M b) → tot (if x7 = (-1) then (f_X11_week_b223 250 l d k96 k111 333 x4 x6 x9 x10 M') else (if x8 < x10 then (f_X11_week_b223 250 l d k96 k111 333 x4 x6 x9 x10 M') else (f_X11_week_b231 250 l d k96 k111 333 x4 x6 x7 x8 x9 M'))) Q) : tot (f_X11_week_h180 250 l d k96 k111 FU 333 x4 x6 x7 x8 x9 x10 0 M) Q := by
  refine tot.loopFU (σ := Int32 × Mem) (fun m s9 => f_X11_week_h180 250 l d k96 k111 m 333 x4 x6 x7 x8 x9 x10 s9.1 s9.2) 10 (fun k s9 => s9.1 = nI k ∧ MD s9.2 (fun o q => if o = 2 ∧ q < k then D 2 q else E o q) ∧ ∀ b, b ≠ 261 → s9.2 b = M b) _ (by omega) (0, M) ⟨rfl, h.cg (fun o q _ => by rw [if_neg (by omega)]), fun _ _ => rfl⟩ ?_ ?_
  · rintro m k ⟨x, M1⟩ hk' ⟨hx, a1, a2⟩ hnext
    dsimp only at hx a1 a2
    subst hx
    have hk1 := i_lt0 (show k < 100000 by omega)
    have hk2 := i_cl (show k < 100000 by omega)
    have hk3 : ¬ 10 ≤ k := by omega
    have hk4 : ¬ (10 : Int32) ≤ nI k := i_nle (b := 10) hk' (by omega)
    have hv : M1 280 k = D 2 k := by rw [a2 280 (by decide)]; exact hk k hk'
    show tot (f_X11_week_h180 250 l d k96 k111 (m + 1) 333 x4 x6 x7 x8 x9 x10 (nI k) M1) _
    rw [f_X11_week_h180]
    simp only [hk1, hk2, hk3, hk4, m_21, l_261, m_29, l_280, or_self, not_false_eq_true, ↓reduceIte, hv, nI_1]
    refine hnext (nI (k + 1), mU M1 261 k (D 2 k)) ⟨rfl, (a1.put (o := 2) (k := k) (by omega) (Or.inr (Or.inl ⟨rfl, hk'⟩)) (D 2 k)).cg (fun o q _ => ?_), fun b hb => by dsimp only; rw [u_ne hb]; exact a2 b hb⟩
    rw [mU_at]
    by_cases hz : o = 2 ∧ q = k
    · rw [if_pos hz, if_pos (by omega), hz.2]
    · rw [if_neg hz]
      by_cases hz2 : o = 2 ∧ q < k
      · rw [if_pos hz2, if_pos (by omega)]
      · rw [if_neg hz2, if_neg (by omega)]
  · rintro m ⟨x, M1⟩ ⟨hx, a1, a2⟩
    dsimp only at hx a1 a2
    subst hx
    show tot (f_X11_week_h180 250 l d k96 k111 (m + 1) 333 x4 x6 x7 x8 x9 x10 (nI 10) M1) _
    rw [f_X11_week_h180, if_pos (show (10 : Int32) ≤ nI 10 by decide)]
    exact hq M1 (a1.cg (fun o q hi => by
      by_cases hz : o = 2
      · have : q < 10 := by unfold inD at hi; omega
        rw [if_pos ⟨hz, this⟩, hz]
      · rw [if_neg (fun z => hz z.1)]; exact hE o q hz)) a2
/-- what stays between -/
def WF (M M' : Mem) : Prop := (∀ b, b ≠ 250 → (b < 259 ∨ 261 < b) → (b < 263 ∨ 281 < b) → M' b = M b) ∧ ∀ j, j ≠ 16 → j ≠ 17 → j ≠ 20 → j ≠ 26 → M' 250 j = M 250 j
theorem WF.rf {M : Mem} : WF M M := ⟨fun _ _ _ _ => rfl, fun _ _ _ _ _ => rfl⟩
theorem WF.tr {M M' M'' : Mem} (h : WF M M') (h' : WF M' M'') : WF M M'' := ⟨fun b h1 h2 h3 => (h'.1 b h1 h2 h3).trans (h.1 b h1 h2 h3), fun j h1 h2 h3 h4 => (h'.2 j h1 h2 h3 h4).trans (h.2 j h1 h2 h3 h4)⟩
theorem WF.gf {M M' : Mem} (h : GF M M') : WF M M' := ⟨fun b h1 h2 h3 => h.1 b h1 (by omega) (by omega), h.2⟩
theorem WF.one {M M' : Mem} {a : Nat} (ha : a = 261 ∨ a = 280) (h : ∀ b, b ≠ a → M' b = M b) : WF M M' := ⟨fun b h1 h2 h3 => h b (by omega), fun j _ _ _ _ => by rw [h 250 (by omega)]⟩
/-- the best of a day -/
theorem wk_best {A : List Nat} {R E : Dk} {n i : Nat} (hi : i < 4) (hn : DOK n E) (hpn : pcs R = n) (hwf : cTs A [] = some []) (hc5 : cmd R ≤ 5) (hcq : ∀ k, k < cmd R → ∃ q, q < 10 ∧ R 29 k = nI q) (d : Int32) (k96 : Nat → Int32 → Int32 → Int32 → Mem → Option (Int32 × Mem)) (made x6 : Int32) {Q : Int32 → Mem → Prop} (M0 : Mem) (hmk : ∀ m, m < 5 → M0 (304 + m) 0 = R 29 m ∧ M0 (304 + m) 1 = R 31 m ∧ M0 (304 + m) 2 = R 33 m) (hR : RM M0 i A) (h18 : M0 250 18 = 100) (h32 : M0 250 32 = nI (cmd R)) (hM : MD M0 E)
    (hk : ∀ M', MD M' E → WF M0 M' → tot ((f_X11_makes M' 250 (sBst A R E made (cmd R)).1).bind fun q => match q with | (r24, M25) => (k96 333 (made ||| (1 <<< ((sBst A R E made (cmd R)).1 &&& 31))) (sBst A R E made (cmd R)).1 (x6 + 1) M25)) Q) : tot (f_X11_week_h111 250 (nI i) d k96 FU 333 made x6 (-1) 0 0 M0) Q := by
  refine tot.loopFU (σ := Int32 × Int32 × Int32 × Mem) (fun m s9 => f_X11_week_h111 250 (nI i) d k96 m 333 made x6 s9.1 s9.2.1 s9.2.2.1 s9.2.2.2) (cmd R) (fun k s9 => s9.1 = (sBst A R E made k).1 ∧ (s9.1 = (-1) ∨ s9.2.1 = (sBst A R E made k).2) ∧ s9.2.2.1 = nI k ∧ MD s9.2.2.2 E ∧ WF M0 s9.2.2.2) _ (by omega) ((-1), 0, 0, M0) ⟨rfl, Or.inl rfl, rfl, hM, .rf⟩ ?_ ?_
  · rintro m k ⟨x7, x8, x9, M1⟩ hk1 ⟨e7, e8, hx, hM1, hf1⟩ hnext
    dsimp only at e7 e8 hx hM1 hf1
    subst hx
    show tot (f_X11_week_h111 250 (nI i) d k96 (m + 1) 333 made x6 x7 x8 (nI k) M1) _
    have h32' : M1 250 32 = nI (cmd R) := (hf1.2 32 (by decide) (by decide) (by decide) (by decide)).trans h32
    rw [f_X11_week_h111, h32', if_neg (i_nle hk1 (by omega))]
    show tot (if sBit made k = 1 then _ else _) _
    rcases bit_01 made k with hz | hz
    · rw [if_neg (show ¬ sBit made k = 1 by rw [hz]; decide)]
      have hst : sBst A R E made (k + 1) = if (sBst A R E made k).1 = (-1) ∨ (sBst A R E made k).2 < sCto A n (sMake R k E) then (nI k, sCto A n (sMake R k E)) else sBst A R E made k := by
        show (if sBit made k = 0 then _ else _) = _
        rw [if_pos hz, hpn]
      refine wk_keep hM1 (nI i) d k96 _ made x6 x7 x8 (nI k) (fun M2 hM2 hk2 hb2 => ?_)
      obtain ⟨q, hq, hq2⟩ := hcq k hk1
      have hf2 : WF M1 M2 := .one (Or.inr rfl) hb2
      obtain ⟨M3, e3, hM3, hb3⟩ := m_make (R := R) hM2 (fun m9 hm9 => by rw [hf2.1 _ (by omega) (by omega) (by omega), hf1.1 _ (by omega) (by omega) (by omega)]; exact hmk m9 hm9) (show k < 5 by omega) hq2 hq
      have hf3 : WF M2 M3 := .one (Or.inl rfl) hb3
      rw [e3, Option.bind_some]
      dsimp only
      have hf03 := (hf1.tr hf2).tr hf3
      have hR3 : RM M3 i A := hR.fr (hf03.1 258 (by decide) (by decide) (by decide)) (hf03.1 _ (by omega) (by omega) (by omega))
      refine tot.bd (t_cto hi hM3 (hn.make hq2 hq) hR3 hwf ((hf03.2 18 (by decide) (by decide) (by decide) (by decide)).trans h18)) ?_
      rintro r4 M4 ⟨rfl, hM4, hf4⟩
      dsimp only
      have hk4 : ∀ j, j < 10 → M4 280 j = E 2 j := fun j hj => by rw [hf4.1 280 (by decide) (by decide) (by decide), hb3 280 (by decide)]; exact hk2 j hj
      refine wk_numb hM4 (fun o j ho => make_o ho) hk4 (nI i) d k96 _ made x6 x7 x8 (nI k) _ (fun M5 hM5 hb5 => ?_)
      have hf05 : WF M0 M5 := (hf03.tr (.gf hf4)).tr (.one (Or.inl rfl) hb5)
      have goP : ((sBst A R E made k).1 = (-1) ∨ (sBst A R E made k).2 < sCto A n (sMake R k E)) → tot (f_X11_week_b223 250 (nI i) d k96 (f_X11_week_h111 250 (nI i) d k96 m) 333 made x6 (nI k) (sCto A n (sMake R k E)) M5) Q := fun hc => by
        unfold f_X11_week_b223 f_X11_week_b231
        rw [nI_1]
        refine hnext (nI k, sCto A n (sMake R k E), nI (k + 1), M5) ⟨?_, Or.inr ?_, rfl, hM5, hf05⟩
        · dsimp only; rw [hst, if_pos hc]
        · dsimp only; rw [hst, if_pos hc]
      by_cases z1 : x7 = (-1)
      · rw [if_pos z1]
        exact goP (Or.inl (by rw [← e7]; exact z1))
      · rw [if_neg z1]
        have e8' : x8 = (sBst A R E made k).2 := e8.resolve_left z1
        by_cases z2 : x8 < sCto A n (sMake R k E)
        · rw [if_pos z2]
          exact goP (Or.inr (by rw [← e8']; exact z2))
        · rw [if_neg z2]
          unfold f_X11_week_b231
          rw [nI_1]
          have hc : ¬ ((sBst A R E made k).1 = (-1) ∨ (sBst A R E made k).2 < sCto A n (sMake R k E)) := fun z => z.elim (fun z => z1 (by rw [e7]; exact z)) (fun z => z2 (by rw [e8']; exact z))
          refine hnext (x7, x8, nI (k + 1), M5) ⟨?_, Or.inr ?_, rfl, hM5, hf05⟩
          · dsimp only; rw [hst, if_neg hc]; exact e7
          · dsimp only; rw [hst, if_neg hc]; exact e8'
    · rw [if_pos hz]
      have hst : sBst A R E made (k + 1) = sBst A R E made k := by
        show (if sBit made k = 0 then _ else _) = _
        rw [if_neg (by rw [hz]; decide)]
      unfold f_X11_week_b231
      rw [nI_1]
      exact hnext (x7, x8, nI (k + 1), M1) ⟨by rw [hst]; exact e7, by rw [hst]; exact e8, rfl, hM1, hf1⟩
  · rintro m ⟨x7, x8, x9, M1⟩ ⟨e7, e8, hx, hM1, hf1⟩
    dsimp only at e7 e8 hx hM1 hf1
    subst hx
    subst e7
    show tot (f_X11_week_h111 250 (nI i) d k96 (m + 1) 333 made x6 _ x8 (nI (cmd R)) M1) _
    have h32' : M1 250 32 = nI (cmd R) := (hf1.2 32 (by decide) (by decide) (by decide) (by decide)).trans h32
    rw [f_X11_week_h111, h32', if_pos (i_le (Nat.le_refl _) (by omega))]
    exact hk M1 hM1 hf1
theorem o_week (h : MS M s) (ok : SOK s) (l d : Int32) : tot (f_X11_week M 250 l d) (fun r M' => Rs cdB (oWeek s l d).1 r (M' 250 0) ∧ MS M' (oWeek s l d).2 ∧ Lw M M') := by
  unfold f_X11_week oWeek
  have h' := h.t0 ok 0
  have hz0 := th0 M 0
  have hlo0 : Lo M (mU M 250 0 0) := lo_t0
  generalize mU M 250 0 0 = M0 at h' hz0 hlo0 ⊢
  rw [m_isLaw h', Option.bind_some]
  dsimp only
  by_cases hl : lOk s l = true
  · rw [hl, if_neg (show ¬ b2 true = 0 by decide), if_pos rfl]
    unfold f_X11_week_b19
    rw [m_bad0 hz0, Option.bind_some]
    dsimp only
    rw [if_pos rfl]
    by_cases hd : d < 0
    · rw [if_neg (fun z => Int32.lt_irrefl (Int32.lt_of_lt_of_le hd z)), if_neg (fun z => z hd)]
      unfold f_X11_week_b36
      rw [m_bad1 hz0 n2, Option.bind_some]
      dsimp only
      rw [if_neg n1]
      exact tot.ret ⟨th0 M0 2, h'.t0 ok 2, (hlo0.tr lo_t0).w⟩
    · rw [if_pos (Int32.not_lt.mp hd), if_pos hd]
      unfold f_X11_week_b36
      rw [m_bad0 hz0, Option.bind_some]
      dsimp only
      obtain ⟨q1, q2, q3⟩ := ok.m
      have h32 : M0 250 32 = nI (cmd (sRd s)) := h'.2.2.2.1.2.1.2.1.trans q1
      rw [if_pos rfl, h32]
      by_cases hz : d < nI (cmd (sRd s))
      · rw [if_pos hz, if_pos hz]
        obtain ⟨i, hi, rfl, hget, hR, hwf⟩ := h'.go ok hl
        obtain ⟨N, hN, rfl⟩ := nI_of hd
        have hN2 : N < cmd (sRd s) := by
          by_cases hq : N < cmd (sRd s)
          · exact hq
          · exact absurd hz (nI_nlt (by omega) hN)
        rw [i_cl (by omega)]
        have hmm := h'.2.2.2.1.2.2.2.1
        unfold f_X11_week_b59
        have hb1 : ∀ b, b ≠ 333 → mZ M0 333 b = M0 b := fun b hb => mZ_ne hb
        generalize mZ M0 333 = M1 at hb1
        have hM1 : MD M1 (rD (sRd s)) := h'.d.fr (by rw [hb1 250 (by decide)]) (by rw [hb1 250 (by decide)]) (fun b hb => hb1 b (by omega))
        refine wk_had hM1 (nI i) (nI N) (fun M2 hM2 hk2 hb2 => ?_)
        have hb02 : ∀ b, b ≠ 333 → M2 b = M0 b := fun b hb => (hb2 b hb).trans (hb1 b hb)
        refine tot.loopFU (σ := Int32 × Int32 × Int32 × Mem) (fun m s9 => f_X11_week_h96 250 (nI i) (nI N) m 333 s9.1 s9.2.1 s9.2.2.1 s9.2.2.2) (N + 1) (fun t s9 => s9.1 = (sWk (lw s (nI i)) (sRd s) t).1 ∧ s9.2.1 = (sWk (lw s (nI i)) (sRd s) t).2.2 ∧ s9.2.2.1 = nI t ∧ MD s9.2.2.2 (sWk (lw s (nI i)) (sRd s) t).2.1 ∧ WF M2 s9.2.2.2) _ (by omega) (0, (-1), 0, M2) ⟨rfl, rfl, rfl, hM2, .rf⟩ ?_ ?_
        · rintro m t ⟨x4, x5, x6, M3⟩ ht ⟨e4, e5, hx, hM3, hf3⟩ hnext
          dsimp only at e4 e5 hx hM3 hf3
          subst hx
          subst e4
          show tot (f_X11_week_h96 250 (nI i) (nI N) (m + 1) 333 _ x5 (nI t) M3) _
          rw [f_X11_week_h96, if_neg (nI_nlt (by omega) (by omega))]
          have hdk := wk_dok (A := lw s (nI i)) ok.dk q2 q3 t (by omega)
          have e3 : ∀ b, b ≠ 250 → (b < 259 ∨ 261 < b) → (b < 263 ∨ 281 < b) → b ≠ 333 → M3 b = M0 b := fun b h1 h2 h3 h4 => (hf3.1 b h1 h2 h3).trans (hb02 b h4)
          have s3 : ∀ j, j ≠ 16 → j ≠ 17 → j ≠ 20 → j ≠ 26 → M3 250 j = M0 250 j := fun j h1 h2 h3 h4 => (hf3.2 j h1 h2 h3 h4).trans (by rw [hb02 250 (by decide)])
          refine wk_best (n := pcs (sRd s)) hi hdk rfl hwf q2 q3 (nI N) _ _ (nI t) M3 (fun m9 hm9 => by rw [e3 _ (by omega) (by omega) (by omega) (by omega)]; exact hmm m9 hm9) (hR.fr (e3 258 (by decide) (by decide) (by decide) (by decide)) (e3 _ (by omega) (by omega) (by omega) (by omega))) ((s3 18 (by decide) (by decide) (by decide) (by decide)).trans h'.1.2.2.2.1) ((s3 32 (by decide) (by decide) (by decide) (by decide)).trans h32) hM3 (fun M4 hM4 hf4 => ?_)
          obtain ⟨q, hq, hqe⟩ := wk_ex (A := lw s (nI i)) q2 (show t < cmd (sRd s) by omega)
          obtain ⟨z, hz1, hz2⟩ := q3 q hq
          have hf04 := hf3.tr hf4
          obtain ⟨M5, e5', hM5, hb5⟩ := m_make (R := sRd s) hM4 (fun m9 hm9 => by rw [hf04.1 _ (by omega) (by omega) (by omega), hb02 _ (by omega)]; exact hmm m9 hm9) (show q < 5 by omega) hz2 hz1
          rw [hqe, e5', Option.bind_some]
          dsimp only
          rw [nI_1]
          refine hnext (_, nI q, nI (t + 1), M5) ⟨?_, ?_, rfl, ?_, hf04.tr (.one (Or.inl rfl) hb5)⟩
          · show _ = (sWk (lw s (nI i)) (sRd s) t).1 ||| (1 <<< ((sBst (lw s (nI i)) (sRd s) (sWk (lw s (nI i)) (sRd s) t).2.1 (sWk (lw s (nI i)) (sRd s) t).1 (cmd (sRd s))).1 &&& 31))
            rw [hqe]
          · exact hqe.symm
          · show MD M5 (sMake (sRd s) (sBst (lw s (nI i)) (sRd s) (sWk (lw s (nI i)) (sRd s) t).2.1 (sWk (lw s (nI i)) (sRd s) t).1 (cmd (sRd s))).1.toNatClampNeg (sWk (lw s (nI i)) (sRd s) t).2.1)
            rw [hqe, i_cl (by omega)]
            exact hM5
        · rintro m ⟨x4, x5, x6, M3⟩ ⟨e4, e5, hx, hM3, hf3⟩
          dsimp only at e4 e5 hx hM3 hf3
          subst hx
          show tot (f_X11_week_h96 250 (nI i) (nI N) (m + 1) 333 x4 x5 (nI (N + 1)) M3) _
          rw [f_X11_week_h96, if_pos (nI_lt (by omega) (by omega))]
          obtain ⟨M6, e6, hM6, hb6⟩ := wk_back hM3 (fun o k ho => wk_o (N + 1) o k ho) (fun k hk => by rw [hf3.1 333 (by decide) (by decide) (by decide)]; exact hk2 k hk) (nI i) (nI N) x5
          rw [e6]
          have e3 : ∀ b, b ≠ 250 → (b < 259 ∨ 261 < b) → (b < 263 ∨ 281 < b) → b ≠ 333 → M6 b = M0 b := fun b h1 h2 h3 h4 => (hb6 b (by omega)).trans ((hf3.1 b h1 h2 h3).trans (hb02 b h4))
          have s3 : ∀ j, j ≠ 16 → j ≠ 17 → j ≠ 20 → j ≠ 26 → M6 250 j = M0 250 j := fun j h1 h2 h3 h4 => by rw [hb6 250 (by decide), hf3.2 j h1 h2 h3 h4, hb02 250 (by decide)]
          exact tot.ret ⟨⟨(s3 0 (by decide) (by decide) (by decide) (by decide)).trans hz0, e5⟩, h'.fr ok (fun k hk => s3 k (by omega) (by omega) (by omega) (by omega)) hM6 (fun b h1 h2 => e3 b (by omega) (by omega) (by omega) (by omega)), fun b hb => (e3 b (by omega) (by omega) (by omega) (by omega)).trans (hlo0 b (by omega))⟩
      · rw [if_neg hz, if_neg hz]
        exact tot.ret ⟨⟨hz0, rfl⟩, h', hlo0.w⟩
  · have hlf : lOk s l = false := Bool.not_eq_true _ |>.mp hl
    rw [hlf, if_pos (show b2 false = 0 from rfl), if_neg (by decide)]
    unfold f_X11_week_b19
    rw [m_bad1 hz0 n1, Option.bind_some]
    dsimp only
    rw [if_neg n1]
    exact tot.ret ⟨th0 M0 1, h'.t0 ok 1, (hlo0.tr lo_t0).w⟩
end MWEEK
