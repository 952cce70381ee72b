/-! What a law's text asks: tokens by their place, and what a text of them is in codes, or which fault where. -/
abbrev Pr : Type := (Nat × Nat) ⊕ (Nat × List Nat)
def pB (x : Pr) (g : Nat → List Nat → Pr) : Pr := match x with
  | .inl e => .inl e
  | .inr (q, X) => g q X
def runE (c : Int32 → Bool) (f : Nat → Int32) (n : Nat) : Nat → Nat → Nat
  | 0, p => p
  | m + 1, p => if p < n ∧ c (f p) = true then runE c f n m (p + 1) else p
def isB (x : Int32) : Bool := decide (x = 32)
def isD (x : Int32) : Bool := !(decide (x < 48)) && !(decide (57 < x))
def isL (x : Int32) : Bool := !(decide (x < 97)) && !(decide (122 < x))
def sk (f : Nat → Int32) (n p : Nat) : Nat := runE isB f n (n - p) p
/-- the words, a = 1 -/
def wds : List (List Nat) := [[23, 9, 14, 4], [20, 9, 3, 11], [8, 5, 9, 7, 8, 20], [20, 21, 18, 14], [21, 16], [19, 16, 9, 14], [19, 9, 4, 5], [8, 15, 12, 5, 19], [16, 9, 5, 3, 5], [12, 9, 6, 20], [20, 23, 9, 19, 20], [9, 6], [15, 18], [1, 14, 4], [14, 15, 20], [12, 5, 1, 19, 20], [13, 15, 19, 20], [19, 9, 7, 14]]
def ltr (f : Nat → Int32) (p e : Nat) : List Nat := (List.range (e - p)).map fun i => (f (p + i)).toNatClampNeg - 96
def nv (f : Nat → Int32) : Nat → Nat → Nat → Nat
  | 0, _, x => x
  | m + 1, p, x => nv f m (p + 1) (min 10000 (10 * x + ((f p).toNatClampNeg - 48)))
def kE (f : Nat → Int32) (n p : Nat) : Nat := if p < n then (if isD (f p) = true then runE isD f n (n - p) p else if isL (f p) = true then runE isL f n (n - p) p else p + 1) else p
def kK (f : Nat → Int32) (n p : Nat) : Nat := if p < n then (if isD (f p) = true then 400 else if isL (f p) = true then 300 + wds.findIdx (· == ltr f p (kE f n p)) else (f p).toNatClampNeg) else 401
def kV (f : Nat → Int32) (n p : Nat) : Nat := if isD (f p) = true then nv f (kE f n p - p) p 0 else 0
def kN (f : Nat → Int32) (n p : Nat) : Nat := sk f n (kE f n p)
theorem run_ge (c : Int32 → Bool) (f : Nat → Int32) (n m p : Nat) : p ≤ runE c f n m p := by
  induction m generalizing p with
  | zero => exact Nat.le_refl p
  | succ m ih =>
    unfold runE
    split
    · exact Nat.le_trans (Nat.le_succ p) (ih (p + 1))
    · exact Nat.le_refl p
theorem run_le (c : Int32 → Bool) (f : Nat → Int32) (n m p : Nat) (h : p ≤ n) : runE c f n m p ≤ n := by
  induction m generalizing p with
  | zero => exact h
  | succ m ih =>
    unfold runE
    split
    · exact ih (p + 1) (by omega)
    · exact h
/-- where it stands, the run is over -/
theorem run_end (c : Int32 → Bool) (f : Nat → Int32) (n m p : Nat) (h : n ≤ p + m) : ¬ (runE c f n m p < n ∧ c (f (runE c f n m p)) = true) := by
  induction m generalizing p with
  | zero => show ¬ (p < n ∧ _); omega
  | succ m ih =>
    unfold runE
    by_cases hc : p < n ∧ c (f p) = true
    · rw [if_pos hc]; exact ih (p + 1) (by omega)
    · rw [if_neg hc]; exact hc
theorem run_in (c : Int32 → Bool) (f : Nat → Int32) (n m p i : Nat) (h1 : p ≤ i) (h2 : i < runE c f n m p) : i < n ∧ c (f i) = true := by
  induction m generalizing p with
  | zero =>
    have : i < p := h2
    omega
  | succ m ih =>
    unfold runE at h2
    by_cases hc : p < n ∧ c (f p) = true
    · rw [if_pos hc] at h2
      by_cases hz : i = p
      · rw [hz]; exact hc
      · exact ih (p + 1) (by omega) h2
    · rw [if_neg hc] at h2; omega
theorem kE_gt {f : Nat → Int32} {n p : Nat} (h : p < n) : p < kE f n p ∧ kE f n p ≤ n := by
  unfold kE
  rw [if_pos h]
  have e : ∀ c : Int32 → Bool, c (f p) = true → p < runE c f n (n - p) p ∧ runE c f n (n - p) p ≤ n := fun c hc => by
    refine ⟨?_, run_le c f n _ p (by omega)⟩
    obtain ⟨m, hm⟩ : ∃ m, n - p = m + 1 := ⟨n - p - 1, by omega⟩
    rw [hm]
    unfold runE
    rw [if_pos ⟨h, hc⟩]
    exact run_ge c f n m (p + 1)
  by_cases h1 : isD (f p) = true
  · rw [if_pos h1]; exact e _ h1
  · rw [if_neg h1]
    by_cases h2 : isL (f p) = true
    · rw [if_pos h2]; exact e _ h2
    · rw [if_neg h2]; omega
theorem kN_gt {f : Nat → Int32} {n p : Nat} (h : p < n) : p < kN f n p ∧ kN f n p ≤ n := by
  have h1 := kE_gt (f := f) h
  have h2 := run_ge isB f n (n - kE f n p) (kE f n p)
  exact ⟨by unfold kN sk; omega, run_le isB f n _ _ h1.2⟩
section PARSE
variable (K V N : Nat → Nat)
def pFac (g : Option (Nat → Pr)) (p : Nat) : Pr :=
  if K p = 400 then (if V p ≤ 9999 then .inr (N p, [V p]) else .inl (2, p))
  else if 300 ≤ K p ∧ K p < 309 then .inr (N p, [9700 + K p])
  else if K p = 315 ∨ K p = 316 ∨ K p = 317 ∨ K p = 40 then
    (if K (if K p = 40 then p else N p) = 40 then (match g with
      | none => .inl (3, if K p = 40 then p else N p)
      | some g => pB (g (N (if K p = 40 then p else N p))) fun r X =>
        if K p = 315 ∨ K p = 316 then (if K r = 44 then pB (g (N r)) fun r2 Y => (if K r2 = 41 then .inr (N r2, X ++ Y ++ [9709 + K p]) else .inl (1, r2)) else .inl (1, r))
        else if K r = 41 then .inr (N r, X ++ (if K p = 317 then [10026] else [])) else .inl (1, r))
    else .inl (1, if K p = 40 then p else N p))
  else .inl (1, p)
/-- the rest of a row: while the token is one of two (sa, sb), another of rf, and its code -/
def pLp (rf : Nat → Pr) (sa sb ca cb : Nat) : Nat → Nat → List Nat → Pr
  | 0, p, X => .inr (p, X)
  | m + 1, p, X => if K p = sa ∨ K p = sb then pB (rf (N p)) fun q Y => pLp rf sa sb ca cb m q (X ++ Y ++ [if K p = sa then ca else cb]) else .inr (p, X)
def pPr (rf : Nat → Pr) (p : Nat) : Pr := pB (rf p) (pLp K N rf 42 47 10022 10023 301)
def pSm (rf : Nat → Pr) (p : Nat) : Pr := pB (pPr K N rf p) (pLp K N (pPr K N rf) 43 45 10020 10021 301)
def pSum : Nat → Nat → Pr
  | 0 => pSm K N (pFac K V N none)
  | k + 1 => pSm K N (pFac K V N (some (pSum k)))
def pCmp (g : Option ((Nat → Pr) × (Nat → Pr))) (sm : Nat → Pr) (p : Nat) : Pr :=
  if K p = 314 then (match g with
    | none => .inl (3, p)
    | some g => pB (g.2 (N p)) fun q X => .inr (q, X ++ [10033]))
  else if K p = 91 then (match g with
    | none => .inl (3, p)
    | some g => pB (g.1 (N p)) fun q X => if K q = 93 then .inr (N q, X) else .inl (1, q))
  else pB (sm p) fun q X => if K q = 60 ∨ K q = 62 ∨ K q = 61 then pB (sm (N q)) fun r Y => .inr (r, X ++ Y ++ [if K q = 60 then 10030 else if K q = 62 then 10031 else 10032]) else .inl (1, q)
def pAnd (rc : Nat → Pr) (p : Nat) : Pr := pB (rc p) (pLp K N rc 313 313 10034 10034 301)
def pCnd (rc : Nat → Pr) (p : Nat) : Pr := pB (pAnd K N rc p) (pLp K N (pAnd K N rc) 312 312 10035 10035 301)
def pCm : Nat → Nat → Pr
  | 0 => pCmp K N none (pSum K V N 0)
  | k + 1 => pCmp K N (some (pCnd K N (pCm k), pCm k)) (pSum K V N (k + 1))
def pLaw : Nat → Nat → List Nat → Pr
  | 0, p, X => .inr (p, X)
  | m + 1, p, X => if K p = 401 then .inr (p, X) else if K p = 309 ∨ K p = 310 then (if m = 0 then .inl (3, p) else
      pB (pSum K V N 6 (N p)) fun q Y => if K q = 311 then pB (pCnd K N (pCm K V N 6) (N q)) fun r Z => (if K r = 59 then pLaw m (N r) (X ++ (Y ++ Z ++ [9733 + K p])) else .inl (1, r))
        else if K q = 59 then pLaw m (N q) (X ++ (Y ++ [9731 + K p])) else .inl (1, q))
    else .inl (1, p)
end PARSE
def oLaw (s : St) (x : Int32) : An := if dIn x 0 (nI (sTb s)) = true then (if (sLs s).length = 4 then (.inl (-1), (0, sTf s, sLs s, (-1), sRd s, sIm s)) else
  match pLaw (kK (sTf s) x.toNatClampNeg) (kV (sTf s) x.toNatClampNeg) (kN (sTf s) x.toNatClampNeg) 13 (sk (sTf s) x.toNatClampNeg 0) [] with
  | .inl (c, p) => (.inl (nI c - 10), (0, sTf s, sLs s, nI p, sRd s, sIm s))
  | .inr (_, X) => (.inl (nI (sLs s).length), (0, sTf s, sLs s ++ [X], (-1), sRd s, sIm s))) else (.inr 0, s)
