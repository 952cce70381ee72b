/-! The class's tokens: all of them. -/
section ALL
variable {f : Nat → Int32} {n : Nat}
def RW (f : Nat → Int32) (n j : Nat) (M : Mem) : Prop := ∀ i, i < j → M 7 i = nI (kK f n (stt f n i)) ∧ M 8 i = nI (stt f n i) ∧ M 9 i = nI (kV f n (stt f n i))
def TKF (M M' : Mem) : Prop := ∀ b, (b < 6 ∨ 9 < b) → M' b = M b
theorem tk_fr (M : Mem) (j : Nat) (a b c d : Int32) : TKF M (mU (mU (mU (mU M 7 j a) 8 j b) 9 j c) 6 3 d) := fun x hx => by rw [u_ne (by omega), u_ne (by omega), u_ne (by omega), u_ne (by omega)]
theorem RW.add {M : Mem} {j : Nat} (h : RW f n j M) {a b c : Int32} (d : Int32) (ha : a = nI (kK f n (stt f n j))) (hb : b = nI (stt f n j)) (hc : c = nI (kV f n (stt f n j))) : RW f n (j + 1) (mU (mU (mU (mU M 7 j a) 8 j b) 9 j c) 6 3 d) := fun i hi => by
  have h7 : mU (mU (mU (mU M 7 j a) 8 j b) 9 j c) 6 3 d 7 i = if i = j then a else M 7 i := by
    rw [u_ne (by decide), u_ne (by decide), u_ne (by decide), mU_at]
    by_cases hz : i = j
    · rw [if_pos ⟨rfl, hz⟩, if_pos hz]
    · rw [if_neg (fun z => hz z.2), if_neg hz]
  have h8 : mU (mU (mU (mU M 7 j a) 8 j b) 9 j c) 6 3 d 8 i = if i = j then b else M 8 i := by
    rw [u_ne (by decide), u_ne (by decide), mU_at]
    by_cases hz : i = j
    · rw [if_pos ⟨rfl, hz⟩, if_pos hz]
    · rw [if_neg (fun z => hz z.2), if_neg hz, u_ne (by decide)]
  have h9 : mU (mU (mU (mU M 7 j a) 8 j b) 9 j c) 6 3 d 9 i = if i = j then c else M 9 i := by
    rw [u_ne (by decide), mU_at]
    by_cases hz : i = j
    · rw [if_pos ⟨rfl, hz⟩, if_pos hz]
    · rw [if_neg (fun z => hz z.2), if_neg hz, u_ne (by decide), u_ne (by decide)]
  rw [h7, h8, h9]
  by_cases hz : i = j
  · rw [if_pos hz, if_pos hz, if_pos hz, hz]
    exact ⟨ha, hb, hc⟩
  · rw [if_neg hz, if_neg hz, if_neg hz]
    exact h i (by omega)
theorem sk_end (f : Nat → Int32) {n p : Nat} (h : n ≤ p) : sk f n p = p := run_z isB _ (fun z => by omega)
theorem sc_b53 (hn : n ≤ 300) {M : Mem} {j : Nat} (h : M 6 3 = nI j) (hj : j ≤ 300) (hR : RW f n j M) (he : stt f n j = n) : tot (f_X9_scan_b53 6 1 (nI n) M) (fun _ M' => ∃ J, TOK f n J M' ∧ TKF M M') := by
  unfold f_X9_scan_b53
  rw [tk_add h (by omega)]
  have hK : kK f n n = 401 := by unfold kK; rw [if_neg (by omega)]
  have hV : kV f n n = 0 := by
    unfold kV
    split
    · have : kE f n n = n := by unfold kE; rw [if_neg (by omega)]
      rw [this, Nat.sub_self]; rfl
    · rfl
  have hA := hR.add (a := 401) (b := nI n) (c := 0) (nI (j + 1)) (by rw [he, hK]; rfl) (by rw [he]) (by rw [he, hV]; rfl)
  exact tot.ret ⟨j, ⟨⟨he, hj, hn⟩, fun i hi => hA i (by omega)⟩, tk_fr M j 401 (nI n) 0 _⟩
theorem sc_all (hb : ∀ k, k < 300 → ∃ q, q < 256 ∧ f k = nI q) (hn : n ≤ 300) (m : Nat) {N' at' k j : Nat} {M : Mem} (hT : ∀ k, k < 300 → M 2 k = f k) (hm : n ≤ at' + m) (hN : m < N') (ha : at' ≤ n) (hk : k ≤ at') (hj : j ≤ at') (h : M 6 3 = nI j) (hR : RW f n j M) (hs : stt f n j = sk f n at') : tot (f_X9_scan_h10 6 1 (nI n) N' (nI at') (nI k) M) (fun _ M' => ∃ J, TOK f n J M' ∧ TKF M M') := by
  induction m generalizing N' at' k j M with
  | zero =>
    obtain ⟨N', rfl⟩ : ∃ k, N' = k + 1 := ⟨N' - 1, by omega⟩
    have e : at' = n := by omega
    unfold f_X9_scan_h10
    rw [if_pos (show nI n ≤ nI at' from i_le (by omega) (by omega)), ite_self]
    exact sc_b53 hn h (by omega) hR (by rw [hs, e, sk_end f (Nat.le_refl n)])
  | succ m ih =>
    obtain ⟨N', rfl⟩ : ∃ k, N' = k + 1 := ⟨N' - 1, by omega⟩
    by_cases hz : at' < n
    · unfold f_X9_scan_h10
      rw [if_neg (show ¬ 300 ≤ nI k from i_nle (b := 300) (by omega) (by decide)), if_neg (i_nle hz (by omega)), q_at, Option.bind_some]
      dsimp only
      rw [tp_at hT (by omega)]
      by_cases hq : f at' = 32
      · rw [if_pos hq]
        unfold f_X9_scan_b47
        rw [← nI_succ, ← nI_succ]
        exact ih hT (by omega) (by omega) (by omega) (by omega) (by omega) h hR (by rw [hs]; exact run_1 isB hz (by unfold isB; rw [decide_eq_true hq]))
      · rw [if_neg hq, sc_one hb hT hn hz h (by omega), Option.bind_some]
        dsimp only
        unfold f_X9_scan_b47
        have hk2 := kE_gt (f := f) hz
        have hst : stt f n j = at' := by rw [hs]; exact run_z isB _ (fun z => hq (by have := z.2; unfold isB at this; exact of_decide_eq_true this))
        have hfr : TKF M (tkM f n M j at') := tk_fr M j _ _ _ _
        rw [← nI_succ]
        refine (ih (N' := N') (k := k + 1) (j := j + 1) (M := tkM f n M j at') (fun k hk => by rw [hfr 2 (by omega)]; exact hT k hk) (by omega) (by omega) hk2.2 (by omega) (by omega) ?_ (hR.add _ (by rw [hst]) (by rw [hst]) (by rw [hst])) ?_).mono (fun r M' hM => ?_)
        · unfold tkM; rw [mU_at, if_pos ⟨rfl, rfl⟩]
        · show kN f n (stt f n j) = _
          rw [hst]; rfl
        · obtain ⟨J, h1, h2⟩ := hM
          exact ⟨J, h1, fun b hb => (h2 b hb).trans (hfr b hb)⟩
    · have e : at' = n := by omega
      unfold f_X9_scan_h10
      rw [if_pos (show nI n ≤ nI at' from i_le (by omega) (by omega)), ite_self]
      exact sc_b53 hn h (by omega) hR (by rw [hs, e, sk_end f (Nat.le_refl n)])
theorem sc_scan (hb : ∀ k, k < 300 → ∃ q, q < 256 ∧ f k = nI q) (hn : n ≤ 300) {M : Mem} (hT : ∀ k, k < 300 → M 2 k = f k) : tot (f_X9_scan M 6 1 (nI n)) (fun _ M' => ∃ J, TOK f n J M' ∧ TKF M M') := by
  unfold f_X9_scan
  refine (sc_all (f := f) (at' := 0) (k := 0) (j := 0) hb hn n (fun k hk => by rw [u_ne (by decide)]; exact hT k hk) (by omega) (by unfold FU; omega) (Nat.zero_le n) (Nat.le_refl 0) (Nat.le_refl 0) (by rw [mU_at, if_pos ⟨rfl, rfl⟩]; rfl) (fun i hi => absurd hi (Nat.not_lt_zero i)) rfl).mono (fun r M' hM => ?_)
  obtain ⟨J, h1, h2⟩ := hM
  exact ⟨J, h1, fun b hb => (h2 b hb).trans (u_ne (by omega))⟩
/-- the whole text read -/
theorem rd_all (hb : ∀ k, k < 300 → ∃ q, q < 256 ∧ f k = nI q) (hn : n ≤ 300) {M : Mem} (hT : ∀ k, k < 300 → M 2 k = f k) : tot (f_X6_read M 3 1 (nI n)) (fun _ M' => RX f n [] (pLaw (kK f n) (kV f n) (kN f n) 13 (sk f n 0) []) M' ∧ (∀ b, (b < 3 ∨ 9 < b) → M' b = M b) ∧ ∀ b, b = 4 → M' b = M b) := by
  unfold f_X6_read
  rw [r_34]
  refine (sc_scan hb hn hT).bd (fun r M1 h1 => ?_)
  obtain ⟨J, h1, hf1⟩ := h1
  dsimp only
  have eo : ∀ b, b ≠ 3 → mU (mU (mU (mU M1 3 1 0) 3 2 0) 3 3 (-1)) 3 5 (-1) b = M1 b := fun b hb => by rw [u_ne hb, u_ne hb, u_ne hb, u_ne hb]
  have h2 : TOK f n J (mU (mU (mU (mU M1 3 1 0) 3 2 0) 3 3 (-1)) 3 5 (-1)) := ⟨h1.1, fun i hi => by rw [eo 7 (by decide), eo 8 (by decide), eo 9 (by decide)]; exact h1.2 i hi⟩
  refine (r_first h2 (by rw [mU_at, if_pos ⟨rfl, rfl⟩]) (by rw [mU_at, if_neg (by omega), mU_at, if_neg (by omega), mU_at, if_pos ⟨rfl, rfl⟩]) (by rw [mU_at, if_neg (by omega), mU_at, if_neg (by omega), mU_at, if_neg (by omega), mU_at, if_pos ⟨rfl, rfl⟩])).bd (fun r M2 h3 => ?_)
  obtain ⟨h3, hf3⟩ := h3
  dsimp only
  refine (rd_p hb 12 (c := 0) (X := []) (by omega) (by unfold FU; omega) h3 (Nat.zero_le _)).mono (fun r M3 h4 => ?_)
  obtain ⟨h4, hf4⟩ := h4
  have hall : ∀ b, b ≠ 3 → b ≠ 5 → (b < 6 ∨ 9 < b) → M3 b = M b := fun b h1 h2 h5 => by rw [hf4 b h1 h2, hf3 b h1 h2, eo b h1, hf1 b h5]
  exact ⟨h4, fun b hb => hall b (by omega) (by omega) (by omega), fun b hb => hall b (by omega) (by omega) (by omega)⟩
end ALL
