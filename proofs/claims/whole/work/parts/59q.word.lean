/-! The class's tokens: which word. -/
def wfits (f : Nat → Int32) (e : Nat) : Nat → List Nat → Bool
  | _, [] => true
  | p, c :: L => decide (p < e) && decide (f p = nI (c + 96)) && wfits f e (p + 1) L
section WORDAT
variable {f : Nat → Int32} {M : Mem} {s e : Nat}
theorem wd_in (hT : ∀ k, k < 300 → M 2 k = f k) (he : e ≤ 300) (x3 : Int32) (L : List Nat) {N' o k : Nat} (ok : Bool) (hL : ∀ j c, L[j]? = some c → wCh (nI (o + j)) = nI (c + 96) ∧ 1 ≤ c ∧ c ≤ 26) (ho : o + L.length < 88) (hk : s + k + L.length < 50000) : f_X9_wordAt_h13 1 (nI s) (nI e) (N' + L.length) x3 (nI (s + k)) (b2 ok) (nI o) M = f_X9_wordAt_h13 1 (nI s) (nI e) N' x3 (nI (s + k + L.length)) (b2 (ok && wfits f e (s + k) L)) (nI (o + L.length)) M := by
  induction L generalizing o k ok with
  | nil =>
    show f_X9_wordAt_h13 1 (nI s) (nI e) N' x3 (nI (s + k)) (b2 ok) (nI o) M = f_X9_wordAt_h13 1 (nI s) (nI e) N' x3 (nI (s + k)) (b2 (ok && true)) (nI o) M
    rw [Bool.and_true]
  | cons c L ih =>
    have hl : (c :: L).length = L.length + 1 := rfl
    rw [hl] at ho hk
    obtain ⟨hc, hc1, hc2⟩ := hL 0 c rfl
    rw [Nat.add_zero] at hc
    have step : f_X9_wordAt_h13 1 (nI s) (nI e) (N' + L.length + 1) x3 (nI (s + k)) (b2 ok) (nI o) M = f_X9_wordAt_h13 1 (nI s) (nI e) (N' + L.length) x3 (nI (s + k) + 1) (b2 (ok && (decide (s + k < e) && decide (f (s + k) = nI (c + 96))))) (nI o + 1) M := by
      rw [f_X9_wordAt_h13, if_neg (show ¬ 88 ≤ nI o from i_nle (b := 88) (by omega) (by decide)), if_pos (i_in (by omega) (by decide)), hc, if_neg (show ¬ nI (c + 96) = 32 from fun z => absurd ((i_eq (b := 32) (by omega) (by decide)).mp z) (by omega))]
      cases ok with
      | false => rfl
      | true =>
        rw [if_neg (show ¬ b2 true = 0 by decide)]
        by_cases hz : s + k < e
        · rw [if_neg (i_nle hz (by omega)), q_at, Option.bind_some, decide_eq_true hz]
          show (if rAt M 1 (nI (s + k)) = _ then _ else _) = _
          rw [tp_at hT (by omega)]
          by_cases hf : f (s + k) = nI (c + 96)
          · rw [if_pos hf, decide_eq_true hf]; rfl
          · rw [if_neg hf, decide_eq_false hf]; rfl
        · rw [if_pos (i_le (by omega) (by omega)), decide_eq_false hz]; rfl
    rw [hl, ← Nat.add_assoc, step, ← nI_succ, ← nI_succ]
    have := ih (o := o + 1) (k := k + 1) (ok && (decide (s + k < e) && decide (f (s + k) = nI (c + 96)))) (fun j d hj => by
      have := hL (j + 1) d hj
      rw [show o + 1 + j = o + (j + 1) by omega]; exact this) (by omega) (by omega)
    rw [show s + (k + 1) = s + k + 1 by omega] at this
    rw [this, show s + k + (L.length + 1) = s + k + 1 + L.length by omega, show o + (L.length + 1) = o + 1 + L.length by omega]
    congr 2
    show (ok && _ && _) = (ok && (_ && _ && wfits f e (s + k + 1) L))
    rw [Bool.and_assoc]
end WORDAT
