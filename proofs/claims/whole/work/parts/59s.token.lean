/-! The class's tokens: the word found is the parser's; one token. -/
theorem fi_congr {α : Type} {p q : α → Bool} {L : List α} (h : ∀ x ∈ L, p x = q x) : L.findIdx p = L.findIdx q := by
  induction L with
  | nil => rfl
  | cons x L ih =>
    rw [List.findIdx_cons, List.findIdx_cons, h x List.mem_cons_self, ih (fun y hy => h y (List.mem_cons_of_mem x hy))]
theorem isL_nI {q : Nat} (hq : q < 256) : isL (nI q) = true ↔ 97 ≤ q ∧ q ≤ 122 := by
  unfold isL
  simp only [Bool.and_eq_true, Bool.not_eq_true', decide_eq_false_iff_not]
  constructor
  · intro ⟨h1, h2⟩
    constructor
    · by_cases z : 97 ≤ q
      · exact z
      · exact absurd (show nI q < 97 from nI_lt (b := 97) (by omega) (by omega)) h1
    · by_cases z : q ≤ 122
      · exact z
      · exact absurd (show 122 < nI q from nI_lt (a := 122) (by omega) (by omega)) h2
  · intro ⟨h1, h2⟩
    exact ⟨nI_nlt (b := 97) h1 (by omega), nI_nlt (a := 122) h2 (by omega)⟩
theorem ltr_cons (f : Nat → Int32) {s e : Nat} (h : s < e) : ltr f s e = ((f s).toNatClampNeg - 96) :: ltr f (s + 1) e := by
  unfold ltr
  obtain ⟨m, hm⟩ : ∃ m, e - s = m + 1 := ⟨e - s - 1, by omega⟩
  have hm2 : e - (s + 1) = m := by omega
  rw [hm, hm2, List.range_succ_eq_map, List.map_cons, List.map_map]
  congr 1
  apply List.map_congr_left
  intro i _
  show (f (s + (i + 1))).toNatClampNeg - 96 = (f (s + 1 + i)).toNatClampNeg - 96
  rw [show s + (i + 1) = s + 1 + i by omega]
theorem ltr_nil (f : Nat → Int32) {s e : Nat} (h : e ≤ s) : ltr f s e = [] := by
  unfold ltr
  rw [Nat.sub_eq_zero_of_le h]; rfl
theorem fits_ltr {f : Nat → Int32} {e : Nat} (hb : ∀ k, k < 300 → ∃ q, q < 256 ∧ f k = nI q) (he : e ≤ 300) (W : List Nat) (hW : ∀ c ∈ W, 1 ≤ c ∧ c ≤ 26) {s : Nat} (hs : s ≤ e) (hl : ∀ i, s ≤ i → i < e → isL (f i) = true) : (wfits f e s W && decide (s + W.length = e)) = (W == ltr f s e) := by
  induction W generalizing s with
  | nil =>
    unfold wfits
    rw [Bool.true_and]
    by_cases hz : s < e
    · rw [ltr_cons f hz, decide_eq_false (by simp only [List.length_nil]; omega)]; rfl
    · rw [ltr_nil f (by omega), decide_eq_true (by simp only [List.length_nil]; omega)]; rfl
  | cons c W ih =>
    unfold wfits
    by_cases hz : s < e
    · have hi := ih (fun d hd => hW d (List.mem_cons_of_mem c hd)) (s := s + 1) (by omega) (fun i h1 h2 => hl i (by omega) h2)
      obtain ⟨q, hq, eq⟩ := hb s (by omega)
      have hq2 := (isL_nI hq).mp (by rw [← eq]; exact hl s (Nat.le_refl s) hz)
      have hc := hW c List.mem_cons_self
      rw [ltr_cons f hz, decide_eq_true hz, Bool.true_and]
      show _ = (c == (f s).toNatClampNeg - 96 && W == ltr f (s + 1) e)
      rw [← hi, eq, i_cl (by omega)]
      have e1 : decide (nI q = nI (c + 96)) = (c == q - 96) := by
        by_cases hy : c = q - 96
        · rw [decide_eq_true (by rw [hy, Nat.sub_add_cancel (by omega)]), hy, beq_self_eq_true]
        · rw [decide_eq_false (fun z => hy (by have := (i_eq (by omega) (by omega)).mp z; omega))]
          exact (beq_false_of_ne hy).symm
      rw [e1, Bool.and_assoc, show s + 1 + W.length = s + (c :: W).length by simp only [List.length_cons]; omega]
    · rw [ltr_nil f (by omega), decide_eq_false hz]; rfl
theorem wds_26 : ∀ W ∈ wds, ∀ c ∈ W, 1 ≤ c ∧ c ≤ 26 := by decide +kernel
section ONE
variable {f : Nat → Int32} {n : Nat} {M : Mem}
theorem wd_at (hb : ∀ k, k < 300 → ∃ q, q < 256 ∧ f k = nI q) (hT : ∀ k, k < 300 → M 2 k = f k) {s e : Nat} (hs : s ≤ e) (he : e ≤ 300) (hl : ∀ i, s ≤ i → i < e → isL (f i) = true) : f_X9_wordAt M 1 (nI s) (nI e) = some (nI (300 + wds.findIdx (· == ltr f s e)), M) := by
  unfold f_X9_wordAt
  have st := wd_all (s := s) (N' := FU) (o := 0) (w := 0) hT he (by omega) wds lay_wds (by decide) (by unfold FU; omega)
  rw [Nat.add_zero, fi_congr (fun W hW => fits_ltr hb he W (wds_26 W hW) hs hl)] at st
  exact st
/-- what laying the token at p does -/
def tkM (f : Nat → Int32) (n : Nat) (M : Mem) (j p : Nat) : Mem := mU (mU (mU (mU M 7 j (nI (kK f n p))) 8 j (nI p)) 9 j (nI (kV f n p))) 6 3 (nI (j + 1))
theorem sc_126 {j : Nat} (h : M 6 3 = nI j) (hj : j < 301) (x4 x5 x6 : Int32) (p i3 : Int32) : f_X9_scanOne_b126 6 1 p i3 x4 x5 x6 M = some (x6, mU (mU (mU (mU M 7 j x4) 8 j p) 9 j x5) 6 3 (nI (j + 1))) := by
  unfold f_X9_scanOne_b126
  rw [tk_add h hj]; rfl
theorem run_1 (c : Int32 → Bool) {p : Nat} (hp : p < n) (hc : c (f p) = true) : runE c f n (n - p) p = runE c f n (n - (p + 1)) (p + 1) := by
  obtain ⟨m, hm⟩ : ∃ m, n - p = m + 1 := ⟨n - p - 1, by omega⟩
  have hm2 : n - (p + 1) = m := by omega
  rw [hm, hm2]
  show (if p < n ∧ c (f p) = true then _ else _) = _
  rw [if_pos ⟨hp, hc⟩]
theorem run_z (c : Int32 → Bool) (m : Nat) {p : Nat} (hc : ¬ (p < n ∧ c (f p) = true)) : runE c f n m p = p := by
  cases m with
  | zero => rfl
  | succ m =>
    show (if p < n ∧ c (f p) = true then _ else _) = _
    rw [if_neg hc]
theorem sc_one (hb : ∀ k, k < 300 → ∃ q, q < 256 ∧ f k = nI q) (hT : ∀ k, k < 300 → M 2 k = f k) (hn : n ≤ 300) {p j : Nat} (hp : p < n) (h : M 6 3 = nI j) (hj : j < 301) : f_X9_scanOne M 6 1 (nI p) (nI n) = some (nI (kE f n p), tkM f n M j p) := by
  unfold f_X9_scanOne
  rw [q_at, Option.bind_some]
  show (f_X9_isDigit M (rAt M 1 (nI p))).bind _ = _
  rw [tp_at hT (by omega), tk_dig, Option.bind_some]
  dsimp only
  obtain ⟨q, hq, eq⟩ := hb p (by omega)
  by_cases hd : isD (f p) = true
  · rw [hd, if_neg (show ¬ b2 true = 0 by decide)]
    have hq2 := (isD_nI hq).mp (by rw [← eq]; exact hd)
    have e1 : f p - 48 = nI (q - 48) := by rw [eq, show (48 : Int32) = nI 48 from rfl, nI_sub (by omega)]
    have hE : kE f n p = runE isD f n (n - (p + 1)) (p + 1) := by
      unfold kE
      rw [if_pos hp, if_pos hd, run_1 isD hp hd]
    have hge := run_ge isD f n (n - (p + 1)) (p + 1)
    have hV : kV f n p = nv f (kE f n p - (p + 1)) (p + 1) (q - 48) := by
      unfold kV
      rw [if_pos hd, show kE f n p - p = (kE f n p - (p + 1)) + 1 by rw [hE]; omega]
      show nv f _ (p + 1) (min 10000 (10 * 0 + ((f p).toNatClampNeg - 48))) = _
      rw [eq, i_cl (by omega), Nat.mul_zero, Nat.zero_add, Nat.min_eq_right (by omega)]
    have hK : kK f n p = 400 := by unfold kK; rw [if_pos hp, if_pos hd]
    rw [e1, ← nI_succ, sc_num hb hT hn (nI p) (n - (p + 1)) (by omega) (by unfold FU; omega) (by omega) (by omega)]
    unfold f_X9_scanOne_b77
    rw [sc_126 h hj, ← hE, ← hV]
    unfold tkM
    rw [hK]; rfl
  · have hd0 : isD (f p) = false := Bool.not_eq_true _ |>.mp hd
    have hV : kV f n p = 0 := by unfold kV; rw [if_neg hd]
    rw [hd0, if_pos (show b2 false = 0 from rfl), tk_let, Option.bind_some]
    dsimp only
    by_cases hl : isL (f p) = true
    · rw [hl, if_neg (show ¬ b2 true = 0 by decide)]
      have hE : kE f n p = runE isL f n (n - (p + 1)) (p + 1) := by
        unfold kE
        rw [if_pos hp, if_neg hd, if_pos hl, run_1 isL hp hl]
      have hK : kK f n p = 300 + wds.findIdx (· == ltr f p (kE f n p)) := by unfold kK; rw [if_pos hp, if_neg hd, if_pos hl]
      rw [← nI_succ, sc_wd hT hn (nI p) 0 (n - (p + 1)) (by omega) (by unfold FU; omega) (by omega), ← hE]
      unfold f_X9_scanOne_b117
      have hk := kE_gt (f := f) hp
      rw [wd_at hb hT (by omega) (by omega) (fun i h1 h2 => by
        by_cases hz : i = p
        · rw [hz]; exact hl
        · rw [hE] at h2
          exact (run_in isL f n _ _ i (by omega) h2).2), Option.bind_some]
      dsimp only
      rw [sc_126 h hj]
      unfold tkM
      rw [hK, hV]; rfl
    · have hl0 : isL (f p) = false := Bool.not_eq_true _ |>.mp hl
      have hE : kE f n p = p + 1 := by unfold kE; rw [if_pos hp, if_neg hd, if_neg hl]
      have hK : nI (kK f n p) = f p := by unfold kK; rw [if_pos hp, if_neg hd, if_neg hl, eq, i_cl (by omega)]
      rw [hl0, if_pos (show b2 false = 0 from rfl), sc_126 h hj, ← nI_succ]
      unfold tkM
      rw [hK, hV, hE]; rfl
end ONE
