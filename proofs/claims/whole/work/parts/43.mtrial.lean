/-! The model's trials: kept, begun, back. -/
def KD (M : Mem) (D : Dk) : Prop := M 250 26 = D 0 1 ∧ (∀ q, q < 4 → ∀ k, k < 8 → M (275 + q) k = D (4 + 2 * q) k) ∧ (∀ k, k < 8 → M 279 k = D 12 k) ∧ ∀ k, k < 8 → M 281 k = D 14 k
def LF (M M' : Mem) : Prop := (∀ b, b ≠ 250 → (b < 275 ∨ b = 280 ∨ 281 < b) → M' b = M b) ∧ ∀ j, j ≠ 26 → M' 250 j = M 250 j
def GF (M M' : Mem) : Prop := (∀ b, b ≠ 250 → (b < 259 ∨ 260 < b) → (b < 263 ∨ b = 280 ∨ 281 < b) → M' b = M b) ∧ ∀ j, j ≠ 16 → j ≠ 17 → j ≠ 20 → j ≠ 26 → M' 250 j = M 250 j
theorem GF.rf {M : Mem} : GF M M := ⟨fun _ _ _ _ => rfl, fun _ _ _ _ _ => rfl⟩
theorem GF.tr {M M' M'' : Mem} (h : GF M M') (h' : GF M' M'') : GF M M'' := ⟨fun b h1 h2 h3 => (h'.1 b h1 h2 h3).trans (h.1 b h1 h2 h3), fun j h1 h2 h3 h4 => (h'.2 j h1 h2 h3 h4).trans (h.2 j h1 h2 h3 h4)⟩
theorem LF.g {M M' : Mem} (h : LF M M') : GF M M' := ⟨fun b h1 _ h3 => h.1 b h1 (by omega), fun j _ _ _ h4 => h.2 j h4⟩
theorem TF.g {M M' : Mem} (h : TF M M') : GF M M' := ⟨fun b h1 h2 h3 => h.1 b h1 h2 (by omega), fun j h1 h2 h3 _ => h.2 j h1 h2 h3⟩
theorem RM.gf {M M' : Mem} {i : Nat} {A : List Nat} (h : RM M i A) (hi : i < 4) (hf : GF M M') : RM M' i A := h.fr (hf.1 258 (by omega) (by omega) (by omega)) (hf.1 _ (by omega) (by omega) (by omega))
theorem KD.tf {M M' : Mem} {D : Dk} (h : KD M D) (hf : TF M M') : KD M' D := ⟨by rw [hf.2 26 (by omega) (by omega) (by omega)]; exact h.1, fun q hq k hk => by rw [hf.1 _ (by omega) (by omega) (by omega)]; exact h.2.1 q hq k hk, fun k hk => by rw [hf.1 _ (by omega) (by omega) (by omega)]; exact h.2.2.1 k hk, fun k hk => by rw [hf.1 _ (by omega) (by omega) (by omega)]; exact h.2.2.2 k hk⟩
theorem nar_01 {x : Int32} (h : x = 0 ∨ x = 1) : vp_nar .boolean x = x := by
  rcases h with rfl | rfl <;> decide
section MTRIAL
variable {M : Mem} {A : List Nat} {D E : Dk} {n i : Nat} {w hd : Int32}
theorem t_keep (h : MD M D) (ht : ∀ k, k < 8 → D 14 k = 0 ∨ D 14 k = 1) : tot (f_X11_lays M 250) (fun _ M' => KD M' D ∧ LF M M') := by
  unfold f_X11_lays
  refine tot.loopFU (σ := Int32 × Mem) (fun m s => f_X11_lays_h10 250 m s.1 s.2) 8 (fun p s => s.1 = nI p ∧ (s.2 250 26 = D 0 1 ∧ (∀ q, q < 4 → ∀ k, k < p → s.2 (275 + q) k = D (4 + 2 * q) k) ∧ (∀ k, k < p → s.2 279 k = D 12 k) ∧ ∀ k, k < p → s.2 281 k = D 14 k) ∧ LF M s.2) _ (by omega) (0, mU M 250 26 (M 250 20)) ⟨rfl, ⟨?_, fun q hq k hk => by omega, fun k hk => by omega, fun k hk => by omega⟩, ⟨fun b h1 _ => u_ne h1, fun j hj => by dsimp only; rw [mU_at, if_neg (by omega)]⟩⟩ ?_ ?_
  · dsimp only
    rw [mU_at, if_pos ⟨rfl, rfl⟩]; exact h.t
  · rintro m p ⟨x, M1⟩ hp ⟨hx, ⟨k1, k2, k3, k4⟩, hf⟩ hnext
    dsimp only at hx k1 k2 k3 k4 hf
    subst hx
    have hp1 := i_lt0 (show p < 100000 by omega)
    have hp2 := i_cl (show p < 100000 by omega)
    have hp3 : ¬ 8 ≤ p := by omega
    show tot (f_X11_lays_h10 250 (m + 1) (nI p) M1) _
    rw [f_X11_lays_h10, if_neg (show ¬ (8 : Int32) ≤ nI p from i_nle (b := 8) hp (by omega))]
    refine tot.loopFU (σ := Int32 × Mem) (fun m9 s => f_X11_lays_h18 250 (f_X11_lays_h10 250 m) m9 (nI p) s.1 s.2) 4 (fun z s => s.1 = nI z ∧ (s.2 250 26 = D 0 1 ∧ (∀ q, q < 4 → ∀ k, k < p ∨ (k = p ∧ q < z) → s.2 (275 + q) k = D (4 + 2 * q) k) ∧ (∀ k, k < p → s.2 279 k = D 12 k) ∧ ∀ k, k < p → s.2 281 k = D 14 k) ∧ LF M s.2) _ (by omega) (0, M1) ⟨rfl, ⟨k1, fun q hq k hk => k2 q hq k (by omega), k3, k4⟩, hf⟩ ?_ ?_
    · rintro m2 z ⟨x, M2⟩ hz ⟨hx, ⟨k1, k2, k3, k4⟩, hf⟩ hnext2
      dsimp only at hx k1 k2 k3 k4 hf
      subst hx
      have hz1 := i_lt0 (show z < 100000 by omega)
      have hz2 := i_cl (show z < 100000 by omega)
      have hz3 : ¬ 4 ≤ z := by omega
      have hz4 : ¬ (4 : Int32) ≤ nI z := i_nle (b := 4) hz (by omega)
      have hv : M2 (263 + z) p = D (4 + 2 * z) p := by rw [hf.1 _ (by omega) (by omega)]; exact h.st hz hp
      show tot (f_X11_lays_h18 250 _ (m2 + 1) (nI p) (nI z) M2) _
      rw [f_X11_lays_h18]
      simp only [hz1, hz2, hz3, hz4, hp1, hp2, hp3, m_27, l_274, r_274 z hz, l_275 z hz, m_22, l_262, r_262 z hz, l_263 z hz, or_self, not_false_eq_true, ↓reduceIte, nI_1, hv]
      refine hnext2 (nI (z + 1), mU M2 (275 + z) p (D (4 + 2 * z) p)) ⟨rfl, ⟨?_, fun q hq k hk => ?_, fun k hk => ?_, fun k hk => ?_⟩, ⟨fun b h1 h2 => ?_, fun j hj => ?_⟩⟩ <;> dsimp only
      · rw [u_ne (by omega)]; exact k1
      · rw [mU_at]
        by_cases hy : q = z ∧ k = p
        · obtain ⟨rfl, rfl⟩ := hy
          rw [if_pos ⟨rfl, rfl⟩]
        · rw [if_neg (by omega)]
          exact k2 q hq k (by omega)
      · rw [u_ne (by omega)]; exact k3 k hk
      · rw [u_ne (by omega)]; exact k4 k hk
      · rw [u_ne (by omega)]; exact hf.1 b h1 h2
      · rw [u_ne (by omega)]; exact hf.2 j hj
    · rintro m2 ⟨x, M2⟩ ⟨hx, ⟨k1, k2, k3, k4⟩, hf⟩
      dsimp only at hx k1 k2 k3 k4 hf
      subst hx
      have hz4 : (4 : Int32) ≤ nI 4 := by decide
      have hv : M2 272 p = D 12 p := by rw [hf.1 _ (by omega) (by omega)]; exact h.a12 hp
      have hv2 : M2 273 p = D 14 p := by rw [hf.1 _ (by omega) (by omega)]; exact h.a14 hp
      have hv3 : ∀ v, mU M2 279 p v 273 p = D 14 p := fun v => by rw [u_ne (by omega)]; exact hv2
      show tot (f_X11_lays_h18 250 _ (m2 + 1) (nI p) (nI 4) M2) _
      rw [f_X11_lays_h18]
      simp only [hz4, hp1, hp2, hp3, m_24, l_272, m_28, l_279, m_25, l_273, m_30, l_281, or_self, not_false_eq_true, ↓reduceIte, nI_1, hv, hv3, nar_01 (ht p hp)]
      refine hnext (nI (p + 1), mU (mU M2 279 p (D 12 p)) 281 p (D 14 p)) ⟨rfl, ⟨?_, fun q hq k hk => ?_, fun k hk => ?_, fun k hk => ?_⟩, ⟨fun b h1 h2 => ?_, fun j hj => ?_⟩⟩ <;> dsimp only
      · rw [u_ne (by omega), u_ne (by omega)]; exact k1
      · rw [u_ne (by omega), u_ne (by omega)]; exact k2 q hq k (by omega)
      · rw [u_ne (by omega), mU_at]
        by_cases hy : k = p
        · rw [if_pos ⟨rfl, hy⟩, hy]
        · rw [if_neg (by omega)]; exact k3 k (by omega)
      · rw [mU_at]
        by_cases hy : k = p
        · rw [if_pos ⟨rfl, hy⟩, hy]
        · rw [if_neg (by omega), u_ne (by omega)]; exact k4 k (by omega)
      · rw [u_ne (by omega), u_ne (by omega)]; exact hf.1 b h1 h2
      · rw [u_ne (by omega), u_ne (by omega)]; exact hf.2 j hj
  · rintro m ⟨x, M1⟩ ⟨hx, hk, hf⟩
    dsimp only at hx hk hf
    subst hx
    show tot (f_X11_lays_h10 250 (m + 1) (nI 8) M1) _
    rw [f_X11_lays_h10, if_pos (show (8 : Int32) ≤ nI 8 by decide)]
    exact tot.ret ⟨hk, hf⟩
/-- deck D back in place of E, below piece p -/
def sLB (D E : Dk) (p : Nat) : Dk := fun o k => if o = 0 then (if k = 1 then D 0 1 else E 0 k) else if o = 2 then E 2 k else if k < p then D o k else E o k
theorem t_back (hK : KD M D) (h : MD M E) (h0 : E 0 0 = D 0 0) (h2 : ∀ k, k < 10 → E 2 k = D 2 k) (ht : ∀ k, k < 8 → D 14 k = 0 ∨ D 14 k = 1) : tot (f_X11_laysBack M 250) (fun _ M' => MD M' D ∧ TF M M') := by
  unfold f_X11_laysBack
  refine tot.loopFU (σ := Int32 × Mem) (fun m s => f_X11_laysBack_h10 250 m s.1 s.2) 8 (fun p s => s.1 = nI p ∧ MD s.2 (sLB D E p) ∧ TF M s.2) _ (by omega) (0, mU M 250 20 (M 250 26)) ⟨rfl, ?_, ⟨fun b h1 _ _ => u_ne h1, fun j _ _ hj => by dsimp only; rw [mU_at, if_neg (by omega)]⟩⟩ ?_ ?_
  · dsimp only
    refine ⟨⟨?_, ?_⟩, fun o k ho hi => ?_⟩
    · rw [mU_at, if_neg (by decide)]; exact h.p
    · rw [mU_at, if_pos ⟨rfl, rfl⟩]; exact hK.1
    · have he := inD_e hi
      rw [u_ne (dA_ne o he.1 ho he.2), h.2 o k ho hi]
      unfold sLB
      rw [if_neg (by omega)]
      by_cases hz : o = 2
      · rw [if_pos hz, hz]
      · rw [if_neg hz, if_neg (by omega)]
  · rintro m p ⟨x, M1⟩ hp ⟨hx, hM, hf⟩ hnext
    dsimp only at hx hM hf
    subst hx
    have hp1 := i_lt0 (show p < 100000 by omega)
    have hp2 := i_cl (show p < 100000 by omega)
    have hp3 : ¬ 8 ≤ p := by omega
    show tot (f_X11_laysBack_h10 250 (m + 1) (nI p) M1) _
    rw [f_X11_laysBack_h10, if_neg (show ¬ (8 : Int32) ≤ nI p from i_nle (b := 8) hp (by omega))]
    refine tot.loopFU (σ := Int32 × Mem) (fun m9 s => f_X11_laysBack_h18 250 (f_X11_laysBack_h10 250 m) m9 (nI p) s.1 s.2) 4 (fun z s => s.1 = nI z ∧ MD s.2 (fun o k => if k = p ∧ (∃ q, q < z ∧ o = 4 + 2 * q) then D o k else sLB D E p o k) ∧ TF M s.2) _ (by omega) (0, M1) ⟨rfl, hM.cg (fun o k _ => by rw [if_neg]; rintro ⟨_, q, hq, _⟩; omega), hf⟩ ?_ ?_
    · rintro m2 z ⟨x, M2⟩ hz ⟨hx, hM, hf⟩ hnext2
      dsimp only at hx hM hf
      subst hx
      have hz1 := i_lt0 (show z < 100000 by omega)
      have hz2 := i_cl (show z < 100000 by omega)
      have hz3 : ¬ 4 ≤ z := by omega
      have hz4 : ¬ (4 : Int32) ≤ nI z := i_nle (b := 4) hz (by omega)
      have hv : M2 (275 + z) p = D (4 + 2 * z) p := (hK.tf hf).2.1 z hz p hp
      show tot (f_X11_laysBack_h18 250 _ (m2 + 1) (nI p) (nI z) M2) _
      rw [f_X11_laysBack_h18]
      simp only [hz1, hz2, hz3, hz4, hp1, hp2, hp3, m_27, l_274, r_274 z hz, l_275 z hz, m_22, l_262, r_262 z hz, l_263 z hz, or_self, not_false_eq_true, ↓reduceIte, nI_1, hv]
      rw [← dA_b z hz]
      refine hnext2 (nI (z + 1), mU M2 (dA (4 + 2 * z)) p (D (4 + 2 * z) p)) ⟨rfl, (hM.put (by omega) (inD_b hz hp) _).cg (fun o k hik => ?_), ?_⟩
      · rw [mU_at]
        by_cases hy : o = 4 + 2 * z ∧ k = p
        · rw [if_pos hy, if_pos ⟨hy.2, z, by omega, hy.1⟩, hy.1, hy.2]
        · rw [if_neg hy]
          by_cases hy2 : k = p ∧ ∃ q, q < z ∧ o = 4 + 2 * q
          · obtain ⟨a1, q, a2, a3⟩ := hy2
            rw [if_pos ⟨a1, q, a2, a3⟩, if_pos ⟨a1, q, by omega, a3⟩]
          · rw [if_neg hy2, if_neg]
            rintro ⟨a1, q, a2, a3⟩
            by_cases hqz : q = z
            · exact hy ⟨by rw [a3, hqz], a1⟩
            · exact hy2 ⟨a1, q, by omega, a3⟩
      · dsimp only
        rw [dA_b z hz]
        exact hf.tr (TF.mU (by omega))
    · rintro m2 ⟨x, M2⟩ ⟨hx, hM, hf⟩
      dsimp only at hx hM hf
      subst hx
      have hz4 : (4 : Int32) ≤ nI 4 := by decide
      have hv : M2 279 p = D 12 p := (hK.tf hf).2.2.1 p hp
      have hv2 : M2 281 p = D 14 p := (hK.tf hf).2.2.2 p hp
      have hv3 : ∀ v, mU M2 272 p v 281 p = D 14 p := fun v => by rw [u_ne (by omega)]; exact hv2
      show tot (f_X11_laysBack_h18 250 _ (m2 + 1) (nI p) (nI 4) M2) _
      rw [f_X11_laysBack_h18]
      simp only [hz4, hp1, hp2, hp3, m_24, l_272, m_28, l_279, m_25, l_273, m_30, l_281, or_self, not_false_eq_true, ↓reduceIte, nI_1, hv, hv3, nar_01 (ht p hp)]
      have i12 : inD 12 p := Or.inr (Or.inr ⟨by omega, hp⟩)
      have i14 : inD 14 p := Or.inr (Or.inr ⟨by omega, hp⟩)
      refine hnext (nI (p + 1), mU (mU M2 272 p (D 12 p)) 273 p (D 14 p)) ⟨rfl, ((hM.put (o := 12) (by omega) i12 _).put (o := 14) (by omega) i14 _).cg (fun o k hik => ?_), hf.tr ((TF.mU (by omega)).tr (TF.mU (by omega)))⟩
      have he := inD_e hik
      rw [mU_at, mU_at]
      unfold sLB
      by_cases hk : k = p
      · subst hk
        by_cases h14 : o = 14
        · subst h14; simp
        · by_cases h12 : o = 12
          · subst h12; simp
          · by_cases h0' : o = 0
            · subst h0'
              have hno : ¬ ∃ q, q < 4 ∧ 0 = 4 + 2 * q := by rintro ⟨q, _, h⟩; omega
              rw [if_neg (by omega), if_neg (by omega), if_neg (fun z => hno z.2), if_pos rfl, if_pos rfl]
            · by_cases h2' : o = 2
              · subst h2'
                have hno : ¬ ∃ q, q < 4 ∧ 2 = 4 + 2 * q := by rintro ⟨q, _, h⟩; omega
                rw [if_neg (by omega), if_neg (by omega), if_neg (fun z => hno z.2), if_neg h0', if_pos rfl, if_neg h0', if_pos rfl]
              · have : ∃ q, q < 4 ∧ o = 4 + 2 * q := ⟨(o - 4) / 2, by omega, by omega⟩
                simp [h14, h12, h0', h2', this]
      · by_cases hk2 : k < p
        · simp [hk, hk2, Nat.lt_succ_of_lt hk2]
        · simp [hk, hk2, show ¬ k < p + 1 by omega]
  · rintro m ⟨x, M1⟩ ⟨hx, hM, hf⟩
    dsimp only at hx hM hf
    subst hx
    show tot (f_X11_laysBack_h10 250 (m + 1) (nI 8) M1) _
    rw [f_X11_laysBack_h10, if_pos (show (8 : Int32) ≤ nI 8 by decide)]
    refine tot.ret ⟨hM.cg (fun o k hi => ?_), hf⟩
    unfold sLB
    unfold inD at hi
    by_cases z0 : o = 0
    · rw [if_pos z0]
      by_cases z1 : k = 1
      · rw [if_pos z1, z0, z1]
      · have : k = 0 := by omega
        rw [if_neg z1, z0, this, h0]
    · rw [if_neg z0]
      by_cases z2 : o = 2
      · rw [if_pos z2, z2]; exact h2 k (by omega)
      · rw [if_neg z2, if_pos (by omega)]
theorem t_shapes (h : MD M D) (hn : D 0 0 = nI n) (h2 : 2 ≤ n) (h8 : n ≤ 8) (hz : ∀ k, n ≤ k → k < 8 → D 4 k = 0 ∧ D 6 k = 0 ∧ D 8 k = 0 ∧ D 10 k = 0) {q : Nat} (hq : q < 2) (j a : Int32) : tot (f_X11_shapes M 250 (nI q) j a) (fun _ M' => MD M' (sSh D n (nI q) j a) ∧ TF M M') := by
  have hq1 := i_lt0 (show q < 100000 by omega)
  have hq2 := i_cl (show q < 100000 by omega)
  have hq3 : ¬ 4 ≤ q := by omega
  have ho : 4 + 2 * q = sOff (nI q) := by
    unfold sOff
    have : q = 0 ∨ q = 1 := by omega
    rcases this with rfl | rfl
    · rfl
    · rfl
  unfold f_X11_shapes
  refine tot.loopFU (σ := Int32 × Mem) (fun m s => f_X11_shapes_h3 250 (nI q) j a m s.1 s.2) n (fun p s => s.1 = nI p ∧ MD s.2 (fun o k => if k < p then sSh D n (nI q) j a o k else D o k) ∧ TF M s.2) _ (by omega) (0, M) ⟨rfl, h.cg (fun o k _ => by simp), TF.rf⟩ ?_ ?_
  · rintro m p ⟨x, M1⟩ hp ⟨hx, hM, hf⟩ hnext
    dsimp only at hx hM hf
    subst hx
    have hp8 : p < 8 := by omega
    have hp1 := i_lt0 (show p < 100000 by omega)
    have hp2 := i_cl (show p < 100000 by omega)
    have hp3 : ¬ 8 ≤ p := by omega
    have e0 : M1 250 19 = nI n := hM.p.trans (by simp [sSh, hn])
    show tot (f_X11_shapes_h3 250 (nI q) j a (m + 1) (nI p) M1) _
    rw [f_X11_shapes_h3, e0, if_neg (i_nle hp (by omega))]
    refine tot.loopFU (σ := Int32 × Mem) (fun m9 s => f_X11_shapes_h15 250 (nI q) j a (f_X11_shapes_h3 250 (nI q) j a m) m9 (nI p) s.1 s.2) 4 (fun z s => s.1 = nI z ∧ MD s.2 (fun o k => if k = p ∧ (∃ q, q < z ∧ o = 4 + 2 * q) then 0 else if k < p then sSh D n (nI q) j a o k else D o k) ∧ TF M s.2) _ (by omega) (0, M1) ⟨rfl, hM.cg (fun o k _ => by
      rw [if_neg (c := k = p ∧ _)]; rintro ⟨_, q, hq, _⟩; omega), hf⟩ ?_ ?_
    · rintro m2 z ⟨x, M2⟩ hz ⟨hx, hM, hf⟩ hnext2
      dsimp only at hx hM hf
      subst hx
      have hz1 := i_lt0 (show z < 100000 by omega)
      have hz2 := i_cl (show z < 100000 by omega)
      have hz3 : ¬ 4 ≤ z := by omega
      have hz4 : ¬ (4 : Int32) ≤ nI z := i_nle (b := 4) hz (by omega)
      show tot (f_X11_shapes_h15 250 (nI q) j a _ (m2 + 1) (nI p) (nI z) M2) _
      rw [f_X11_shapes_h15]
      simp only [hz1, hz2, hz3, hz4, hp1, hp2, hp3, m_22, l_262, r_262 z hz, l_263 z hz, or_self, not_false_eq_true, ↓reduceIte, nI_1]
      rw [← dA_b z hz]
      refine hnext2 (nI (z + 1), mU M2 (dA (4 + 2 * z)) p 0) ⟨rfl, (hM.put (by omega) (inD_b hz hp8) _).cg (fun o k hik => ?_), ?_⟩
      · rw [mU_at]
        by_cases hy : o = 4 + 2 * z ∧ k = p
        · rw [if_pos hy, if_pos ⟨hy.2, z, by omega, hy.1⟩]
        · rw [if_neg hy]
          by_cases hy2 : k = p ∧ ∃ q, q < z ∧ o = 4 + 2 * q
          · obtain ⟨a1, q, a2, a3⟩ := hy2
            rw [if_pos ⟨a1, q, a2, a3⟩, if_pos ⟨a1, q, by omega, a3⟩]
          · rw [if_neg hy2, if_neg (c := k = p ∧ ∃ q, q < z + 1 ∧ o = 4 + 2 * q)]
            rintro ⟨a1, q, a2, a3⟩
            by_cases hqz : q = z
            · exact hy ⟨by rw [a3, hqz], a1⟩
            · exact hy2 ⟨a1, q, by omega, a3⟩
      · dsimp only
        rw [dA_b z hz]
        exact hf.tr (TF.mU (by omega))
    · rintro m2 ⟨x, M2⟩ ⟨hx, hM, hf⟩
      dsimp only at hx hM hf
      subst hx
      have hz4 : (4 : Int32) ≤ nI 4 := by decide
      have e0 : M2 250 19 = nI n := hM.p.trans (by
        rw [if_neg (by rintro ⟨_, q, _, h⟩; omega)]
        split
        · simp [sSh, hn]
        · exact hn)
      have hne : ¬ nI n = 0 := nI_ne0 (by omega) (by omega)
      show tot (f_X11_shapes_h15 250 (nI q) j a _ (m2 + 1) (nI p) (nI 4) M2) _
      have hgo : tot (f_X11_shapes_h3 250 (nI q) j a m (nI (p + 1)) (mU M2 (dA (4 + 2 * q)) p (sShp n j a p))) (fun _ M' => MD M' (sSh D n (nI q) j a) ∧ TF M M') := by
        refine hnext (nI (p + 1), mU M2 (dA (4 + 2 * q)) p (sShp n j a p)) ⟨rfl, (hM.put (by omega) (inD_b (by omega) hp8) _).cg (fun o k hik => ?_), ?_⟩
        · have he := inD_e hik
          rw [mU_at]
          by_cases hk : k = p
          · subst hk
            by_cases hb : o = 4 ∨ o = 6 ∨ o = 8 ∨ o = 10
            · have hex : ∃ q, q < 4 ∧ o = 4 + 2 * q := ⟨(o - 4) / 2, by omega, by omega⟩
              unfold sSh
              by_cases hq9 : o = 4 + 2 * q
              · rw [if_pos ⟨hq9, rfl⟩, if_pos (by omega), if_pos hb, if_pos ⟨by rw [hq9]; exact ho, by omega⟩]
              · rw [if_neg (fun z => hq9 z.1), if_pos ⟨rfl, hex⟩, if_pos (show k < k + 1 by omega), if_pos hb, if_neg (fun z => hq9 (by rw [z.1, ho]))]
            · have hex : ¬ ∃ q, q < 4 ∧ o = 4 + 2 * q := by rintro ⟨q, h1, h2⟩; omega
              rw [if_neg (fun z => hb (by omega)), if_neg (fun z => hex z.2), if_neg (show ¬ k < k by omega), if_pos (show k < k + 1 by omega)]
              unfold sSh
              rw [if_neg hb]
          · rw [if_neg (fun z => hk z.2), if_neg (fun z => hk z.1)]
            by_cases hk2 : k < p
            · rw [if_pos hk2, if_pos (show k < p + 1 by omega)]
            · rw [if_neg hk2, if_neg (show ¬ k < p + 1 by omega)]
        · dsimp only
          rw [dA_b q (by omega)]
          exact hf.tr (TF.mU (by omega))
      rw [dA_b q (by omega)] at hgo
      rw [f_X11_shapes_h15]
      unfold f_X11_shapes_b66
      simp only [hz4, hp1, hp2, hp3, hq1, hq2, hq3, m_22, l_262, r_262 q (by omega), l_263 q (by omega), e0, hne, or_self, not_false_eq_true, ↓reduceIte, nI_1]
      unfold sShp sHf at hgo
      split at hgo
      · rename_i hc; rw [if_pos hc]; exact hgo
      · rename_i hc; rw [if_neg hc]; exact hgo
  · rintro m ⟨x, M1⟩ ⟨hx, hM, hf⟩
    dsimp only at hx hM hf
    subst hx
    have e0 : M1 250 19 = nI n := hM.p.trans (by simp [sSh, hn])
    show tot (f_X11_shapes_h3 250 (nI q) j a (m + 1) (nI n) M1) _
    rw [f_X11_shapes_h3, e0, if_pos (i_le (Nat.le_refl _) (by omega))]
    refine tot.ret ⟨hM.cg (fun o k hi => ?_), hf⟩
    by_cases hk : k < n
    · rw [if_pos hk]
    · rw [if_neg hk]
      unfold sSh
      by_cases hb : o = 4 ∨ o = 6 ∨ o = 8 ∨ o = 10
      · rw [if_pos hb, if_neg (fun z => hk z.2)]
        have hk8 : k < 8 := by unfold inD at hi; omega
        obtain ⟨a1, a2, a3, a4⟩ := hz k (by omega) hk8
        rcases hb with rfl | rfl | rfl | rfl
        · exact a1
        · exact a2
        · exact a3
        · exact a4
      · rw [if_neg hb]
theorem t_begins (h : MD M D) (ok : DOK n D) {q : Nat} (hq : q < 2) (j a : Int32) : tot (f_X11_begins M 250 (nI q) j a) (fun _ M' => KD M' D ∧ MD M' (sBeg D n (nI q) j a) ∧ GF M M') := by
  have okk := ok
  obtain ⟨⟨hn, h2, h8⟩, _, ⟨hst, hst2⟩, ⟨h14, _⟩, hz⟩ := ok
  unfold f_X11_begins
  refine tot.bd (t_keep h h14) ?_
  rintro r M1 ⟨hK1, hf1⟩
  have hM1 : MD M1 D := h.fr (hf1.2 19 (by omega)) (hf1.2 20 (by omega)) (fun b hb => hf1.1 b (by omega) (by omega))
  show tot (f_X11_begins_h12 250 (nI q) j a FU 0 (mU M1 250 20 0)) _
  refine tot.loopFU (σ := Int32 × Mem) (fun m s => f_X11_begins_h12 250 (nI q) j a m s.1 s.2) 8 (fun p s => s.1 = nI p ∧ MD s.2 (fun o k => if o = 0 ∧ k = 1 then 0 else if o = 12 ∧ k < p then sFx (D 12 k) else if o = 14 ∧ k < p then 0 else D o k) ∧ TF M1 s.2) _ (by omega) (0, mU M1 250 20 0) ⟨rfl, ⟨⟨?_, ?_⟩, fun o k ho hi => ?_⟩, ⟨fun b h1 _ _ => u_ne h1, fun j _ _ hj => by dsimp only; rw [mU_at, if_neg (by omega)]⟩⟩ ?_ ?_
  · dsimp only; rw [mU_at, if_neg (by decide)]; simpa using hM1.p
  · dsimp only; rw [mU_at, if_pos ⟨rfl, rfl⟩]; simp
  · have he := inD_e hi
    dsimp only
    rw [u_ne (dA_ne o he.1 ho he.2), hM1.2 o k ho hi, if_neg (by omega), if_neg (by omega), if_neg (by omega)]
  · rintro m p ⟨x, M2⟩ hp ⟨hx, hM, hf⟩ hnext
    dsimp only at hx hM hf
    subst hx
    have hp1 := i_lt0 (show p < 100000 by omega)
    have hp2 := i_cl (show p < 100000 by omega)
    have hp3 : ¬ 8 ≤ p := by omega
    have hp4 : ¬ (8 : Int32) ≤ nI p := i_nle (b := 8) hp (by omega)
    have hv : M2 272 p = D 12 p := (hM.a12 hp).trans (by simp)
    show tot (f_X11_begins_h12 250 (nI q) j a (m + 1) (nI p) M2) _
    have hgo : tot (f_X11_begins_h12 250 (nI q) j a m (nI (p + 1)) (mU (mU M2 272 p (sFx (D 12 p))) 273 p 0)) (fun _ M' => KD M' D ∧ MD M' (sBeg D n (nI q) j a) ∧ GF M M') := by
      refine hnext (nI (p + 1), mU (mU M2 272 p (sFx (D 12 p))) 273 p 0) ⟨rfl, ((hM.put (o := 12) (by omega) (Or.inr (Or.inr ⟨by omega, hp⟩)) _).put (o := 14) (by omega) (Or.inr (Or.inr ⟨by omega, hp⟩)) _).cg (fun o k hik => ?_), hf.tr ((TF.mU (by omega)).tr (TF.mU (by omega)))⟩
      rw [mU_at, mU_at]
      by_cases hk : k = p
      · subst hk
        by_cases z14 : o = 14
        · subst z14; simp
        · by_cases z12 : o = 12
          · subst z12; simp
          · simp [z14, z12]
      · by_cases hk2 : k < p
        · simp [hk, hk2, Nat.lt_succ_of_lt hk2]
        · simp [hk, hk2, show ¬ k < p + 1 by omega]
    rw [f_X11_begins_h12]
    unfold f_X11_begins_b40
    simp only [hp1, hp2, hp3, hp4, m_24, l_272, m_25, l_273, hv, or_self, not_false_eq_true, ↓reduceIte, nI_1]
    rcases hst p hp with h0 | h1 | h3
    · rw [h0] at hgo ⊢
      rw [if_pos (by decide)]; exact hgo
    · rw [h1] at hgo ⊢
      rw [if_neg (by decide)]; exact hgo
    · rw [h3] at hgo ⊢
      rw [if_neg (by decide)]; exact hgo
  · rintro m ⟨x, M2⟩ ⟨hx, hM, hf⟩
    dsimp only at hx hM hf
    subst hx
    show tot (f_X11_begins_h12 250 (nI q) j a (m + 1) (nI 8) M2) _
    rw [f_X11_begins_h12, if_pos (show (8 : Int32) ≤ nI 8 by decide)]
    have hM3 : MD M2 (sRest D n) := hM.cg (fun o k hi => by
      unfold sRest
      by_cases z0 : o = 0 ∧ k = 1
      · rw [if_pos z0, if_pos z0]
      · rw [if_neg z0, if_neg z0]
        by_cases z14 : o = 14
        · have : k < 8 := by unfold inD at hi; omega
          rw [if_neg (by omega), if_pos ⟨z14, this⟩, if_pos z14]
        · rw [if_neg z14, if_neg (c := o = 14 ∧ k < 8) (by omega)]
          by_cases z12 : o = 12
          · have hk8 : k < 8 := by unfold inD at hi; omega
            rw [if_pos ⟨z12, hk8⟩]
            by_cases hkn : k < n
            · rw [if_pos ⟨z12, hkn⟩]
            · rw [if_neg (fun z => hkn z.2), z12]
              unfold sFx
              rw [if_neg (hst2 k (by omega) hk8)]
          · rw [if_neg (fun z => z12 z.1), if_neg (fun z => z12 z.1)])
    refine tot.bd (t_shapes hM3 (by simpa [sRest] using hn) h2 h8 (fun k h1 h2 => by simpa [sRest] using hz k h1 h2) hq j a) ?_
    rintro r M3 ⟨hM4, hf4⟩
    exact tot.ret ⟨(hK1.tf hf).tf hf4, hM4, hf1.g.tr (hf.g.tr hf4.g)⟩
theorem t_size (h : MD M D) (hn : D 0 0 = nI n) (h8 : n ≤ 8) {q : Nat} (hq : q < 2) : f_X11_sizeOf M 250 (nI q) = some (sSize D n (nI q), M) := by
  have hq1 := i_lt0 (show q < 100000 by omega)
  have hq2 := i_cl (show q < 100000 by omega)
  have hq3 : ¬ 4 ≤ q := by omega
  have ho : sOff (nI q) = 4 + 2 * q := by
    unfold sOff
    have : q = 0 ∨ q = 1 := by omega
    rcases this with rfl | rfl
    · rfl
    · rfl
  unfold f_X11_sizeOf sSize
  rw [ho]
  refine eq_loopFU (σ := Int32 × Int32) (fun m s => f_X11_sizeOf_h4 250 (nI q) m s.1 s.2 M) n (fun k => (sMax (D (4 + 2 * q)) k, nI k)) (some (sMax (D (4 + 2 * q)) n, M)) (by omega) (fun m k hk => ?_) (fun m => ?_)
  · show f_X11_sizeOf_h4 250 (nI q) (m + 1) (sMax (D (4 + 2 * q)) k) (nI k) M = f_X11_sizeOf_h4 250 (nI q) m (if sMax (D (4 + 2 * q)) k < sAbs (D (4 + 2 * q) k) then sAbs (D (4 + 2 * q) k) else sMax (D (4 + 2 * q)) k) (nI (k + 1)) M
    have hk1 := i_lt0 (show k < 100000 by omega)
    have hk2 := i_cl (show k < 100000 by omega)
    have hk3 : ¬ 8 ≤ k := by omega
    have hk4 := i_nle hk (show n < 100000 by omega)
    rw [f_X11_sizeOf_h4]
    unfold f_X11_sizeOf_b42
    simp only [h.p, hn, hk1, hk2, hk3, hk4, hq1, hq2, hq3, m_22, l_262, r_262 q (by omega), l_263 q (by omega), h.st (show q < 4 by omega) (show k < 8 by omega), slip_eq _ (0 : Int32), Option.bind_some, or_self, not_false_eq_true, ↓reduceIte, nI_1]
    by_cases hz : sAbs (D (4 + 2 * q) k) ≤ sMax (D (4 + 2 * q)) k
    · rw [if_pos hz, if_neg (Int32.not_lt.mpr hz)]
    · rw [if_neg hz, if_pos (Int32.not_le.mp hz)]
  · show f_X11_sizeOf_h4 250 (nI q) (m + 1) (sMax (D (4 + 2 * q)) n) (nI n) M = _
    rw [f_X11_sizeOf_h4, h.p, hn, if_pos (i_le (Nat.le_refl _) (by omega))]
end MTRIAL
