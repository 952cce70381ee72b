/-! The model's reader: numbers, words. -/
theorem bt_c (c : Int32 → Bool) (hc : c (-1) = false) (f : Nat → Int32) (n k : Nat) : c (bt f n k) = true ↔ (k < n ∧ c (f k) = true) := by
  unfold bt
  by_cases hz : k < n
  · rw [if_pos hz]
    exact ⟨fun h => ⟨hz, h⟩, fun h => h.2⟩
  · rw [if_neg hz, hc]
    exact ⟨fun h => absurd h (by decide), fun h => absurd h.1 hz⟩
def wr : List Nat → Nat
  | [] => 0
  | c :: L => 27 * wr L + c
def wv (L : List Nat) : Nat := wr L.reverse
theorem wv_snoc (L : List Nat) (c : Nat) : wv (L ++ [c]) = 27 * wv L + c := by
  unfold wv
  rw [List.reverse_append]; rfl
theorem wr_inj (L L' : List Nat) (h : ∀ c ∈ L, 1 ≤ c ∧ c ≤ 26) (h' : ∀ c ∈ L', 1 ≤ c ∧ c ≤ 26) (e : wr L = wr L') : L = L' := by
  induction L generalizing L' with
  | nil =>
    cases L' with
    | nil => rfl
    | cons c L' =>
      have := h' c List.mem_cons_self
      have e2 : 0 = 27 * wr L' + c := e
      omega
  | cons c L ih =>
    have h1 := h c List.mem_cons_self
    cases L' with
    | nil =>
      have e2 : 27 * wr L + c = 0 := e
      omega
    | cons c' L' =>
      have h2 := h' c' List.mem_cons_self
      have e2 : 27 * wr L + c = 27 * wr L' + c' := e
      have hc : c = c' := by omega
      have hl : wr L = wr L' := by omega
      rw [hc, ih L' (fun d hd => h d (List.mem_cons_of_mem c hd)) (fun d hd => h' d (List.mem_cons_of_mem c' hd)) hl]
theorem wr_lt (L : List Nat) (h : ∀ c ∈ L, 1 ≤ c ∧ c ≤ 26) : wr L + 1 ≤ 27 ^ L.length := by
  induction L with
  | nil => exact Nat.le_refl 1
  | cons c L ih =>
    have h1 := h c List.mem_cons_self
    have := ih (fun d hd => h d (List.mem_cons_of_mem c hd))
    rw [List.length_cons, Nat.pow_succ]
    show 27 * wr L + c + 1 ≤ _
    omega
theorem wv_lt {L : List Nat} (h : ∀ c ∈ L, 1 ≤ c ∧ c ≤ 26) (hl : L.length ≤ 6) : wv L < 400000000 := by
  have h1 := wr_lt L.reverse (fun c hc => h c (List.mem_reverse.mp hc))
  have h2 : 27 ^ L.reverse.length ≤ 27 ^ 6 := Nat.pow_le_pow_right (by decide) (by rw [List.length_reverse]; exact hl)
  have h3 : 27 ^ 6 = 387420489 := by decide
  unfold wv
  omega
theorem wv_inj {L L' : List Nat} (h : ∀ c ∈ L, 1 ≤ c ∧ c ≤ 26) (h' : ∀ c ∈ L', 1 ≤ c ∧ c ≤ 26) (e : wv L = wv L') : L = L' := by
  have := wr_inj L.reverse L'.reverse (fun c hc => h c (List.mem_reverse.mp hc)) (fun c hc => h' c (List.mem_reverse.mp hc)) e
  exact List.reverse_inj.mp this
theorem ltr_snoc (f : Nat → Int32) (p j : Nat) : ltr f p (p + (j + 1)) = ltr f p (p + j) ++ [(f (p + j)).toNatClampNeg - 96] := by
  unfold ltr
  rw [Nat.add_sub_cancel_left, Nat.add_sub_cancel_left, List.range_succ, List.map_append]; rfl
theorem ltr_len (f : Nat → Int32) (p e : Nat) : (ltr f p e).length = e - p := by
  unfold ltr
  rw [List.length_map, List.length_range]
theorem ltr_in {f : Nat → Int32} {p e : Nat} (hb : ∀ k, k < 300 → ∃ q, q < 256 ∧ f k = nI q) (he : e ≤ 300) (hl : ∀ i, p ≤ i → i < e → isL (f i) = true) : ∀ c ∈ ltr f p e, 1 ≤ c ∧ c ≤ 26 := by
  intro c hc
  unfold ltr at hc
  obtain ⟨i, hi, rfl⟩ := List.mem_map.mp hc
  have hi2 := List.mem_range.mp hi
  obtain ⟨q, hq, eq⟩ := hb (p + i) (by omega)
  have := (isL_nI hq).mp (by rw [← eq]; exact hl (p + i) (by omega) (by omega))
  rw [eq, i_cl (by omega)]
  omega
def wf62 (i s : Int32) : Int32 := if i = 0 then s else 27 * s + i
theorem wf_62 (a b c d e g s : Int32) (M : Mem) : f_X11_word_b62 a b c d e g s M = some (wf62 g s, M) := by
  unfold f_X11_word_b62 wf62
  split <;> rfl
theorem wf_42 (a b c d e g s : Int32) (M : Mem) : f_X11_word_b42 a b c d e g s M = some (wf62 g (wf62 e s), M) := by
  unfold f_X11_word_b42
  rw [wf_62, wf_62]
  conv => rhs; unfold wf62
  split <;> rfl
theorem wf_24 (a b c d e g s : Int32) (M : Mem) : f_X11_word_b24 a b c d e g s M = some (wf62 g (wf62 e (wf62 d s)), M) := by
  unfold f_X11_word_b24
  rw [wf_42, wf_42]
  have e1 : wf62 d s = if d = 0 then s else 27 * s + d := rfl
  rw [e1]
  split <;> rfl
theorem wf_w (a b c d e g : Int32) (M : Mem) : f_X11_word M a b c d e g = some (wf62 g (wf62 e (wf62 d (wf62 c (27 * a + b)))), M) := by
  unfold f_X11_word
  rw [wf_24, wf_24]
  have e1 : wf62 c (27 * a + b) = if c = 0 then 27 * a + b else 27 * (27 * a + b) + c := rfl
  rw [e1]
  split <;> rfl
section MWORD
variable {f : Nat → Int32} {n : Nat} {M : Mem} {q o : Nat} {X : List Nat} {e : Nat × Nat}
/-- where a number ends -/
def stp (x1 : Int32) (v : Nat) (M : Mem) : Option (Int32 × Mem) := if nI v ≤ 9999 then f_X11_numberHere_b77 250 (nI v) M else ((f_X11_wrong M 250 2 x1).bind fun q => match q with | (_, M12) => f_X11_numberHere_b77 250 (nI v) M12)
theorem nu_h (hb : ∀ k, k < 300 → ∃ q, q < 256 ∧ f k = nI q) (m : Nat) {N' q v : Nat} {M : Mem} {x1 : Int32} (h : MC f n M) (h4 : M 250 4 = nI q) (hq : q ≤ 310) (hm : n ≤ q + m) (hN : m < N') (hv : v ≤ 100000) : ∃ v', v' ≤ 100000 ∧ min 10000 v' = nv f (runE isD f n m q - q) q (min 10000 v) ∧ f_X11_numberHere_h7 250 N' x1 (nI v) M = stp x1 v' (mU M 250 4 (nI (runE isD f n m q))) := by
  induction m generalizing N' q v M with
  | zero =>
    obtain ⟨N', rfl⟩ : ∃ k, N' = k + 1 := ⟨N' - 1, by omega⟩
    refine ⟨v, hv, ?_, ?_⟩
    · show _ = nv f (q - q) q (min 10000 v)
      rw [Nat.sub_self]; rfl
    · unfold f_X11_numberHere_h7
      rw [h4, m_byte h (by omega), Option.bind_some]
      dsimp only
      rw [mk_dig, Option.bind_some]
      dsimp only
      have hd : isD (bt f n q) = false := Bool.not_eq_true _ |>.mp (fun z => by have := ((bt_c isD (by decide) f n q).mp z).1; omega)
      rw [hd, if_pos (show b2 false = 0 from rfl)]
      show stp x1 v M = stp x1 v (mU M 250 4 (nI q))
      rw [mU_self h4]
  | succ m ih =>
    obtain ⟨N', rfl⟩ : ∃ k, N' = k + 1 := ⟨N' - 1, by omega⟩
    unfold f_X11_numberHere_h7 runE
    rw [h4, m_byte h (by omega), Option.bind_some]
    dsimp only
    rw [mk_dig, Option.bind_some]
    dsimp only
    by_cases hz : q < n ∧ isD (f q) = true
    · have hd : isD (bt f n q) = true := (bt_c isD (by decide) f n q).mpr hz
      rw [hd, if_neg (show ¬ b2 true = 0 by decide), if_pos hz, h4, m_byte h (by omega), Option.bind_some]
      dsimp only
      have hn := h.2.1
      obtain ⟨a, ha, ea⟩ := hb q (by omega)
      have ha2 := (isD_nI ha).mp (by rw [← ea]; exact hz.2)
      have ebt : bt f n q = nI a := by unfold bt; rw [if_pos hz.1, ea]
      have e1 : (10 * nI v + bt f n q) - 48 = nI (10 * v + (a - 48)) := by
        rw [ebt, show (10 : Int32) = nI 10 from rfl, show (48 : Int32) = nI 48 from rfl, nI_mul, nI_ad2, nI_sub (by omega)]
        congr 1
        omega
      rw [e1]
      unfold f_X11_numberHere_b50
      have e2 : (if nI (10 * v + (a - 48)) ≤ 100000 then f_X11_numberHere_h7 250 N' x1 (nI (10 * v + (a - 48))) (mU M 250 4 (M 250 4 + 1)) else f_X11_numberHere_h7 250 N' x1 100000 (mU M 250 4 (M 250 4 + 1))) = f_X11_numberHere_h7 250 N' x1 (nI (min 100000 (10 * v + (a - 48)))) (mU M 250 4 (nI (q + 1))) := by
        rw [h4, ← nI_succ]
        by_cases hy : 10 * v + (a - 48) ≤ 100000
        · rw [if_pos (show _ ≤ (100000 : Int32) from nI_le (b := 100000) hy (by omega)), Nat.min_eq_right hy]
        · rw [if_neg (show ¬ _ ≤ (100000 : Int32) from nI_ge (a := 100000) (by omega) (by omega)), Nat.min_eq_left (by omega)]; rfl
      rw [e2]
      obtain ⟨v', h1, h2, h3⟩ := ih (N' := N') (q := q + 1) (v := min 100000 (10 * v + (a - 48))) (M := mU M 250 4 (nI (q + 1))) (h.u (by decide)) (by rw [mU_at, if_pos ⟨rfl, rfl⟩]) (by omega) (by omega) (by omega) (Nat.min_le_left _ _)
      refine ⟨v', h1, ?_, ?_⟩
      · have hge := run_ge isD f n m (q + 1)
        rw [h2, show runE isD f n m (q + 1) - q = (runE isD f n m (q + 1) - (q + 1)) + 1 by omega]
        show _ = nv f _ (q + 1) (min 10000 (10 * min 10000 v + ((f q).toNatClampNeg - 48)))
        rw [ea, i_cl (by omega)]
        congr 1
        omega
      · rw [h3, mU_2]
    · have hd : isD (bt f n q) = false := Bool.not_eq_true _ |>.mp (fun z => hz ((bt_c isD (by decide) f n q).mp z))
      rw [hd, if_pos (show b2 false = 0 from rfl), if_neg hz]
      refine ⟨v, hv, by rw [Nat.sub_self]; rfl, ?_⟩
      rw [mU_self h4]; rfl
theorem a_nbr (hb : ∀ k, k < 300 → ∃ q, q < 256 ∧ f k = nI q) {p : Nat} (h : MA f n M p o X) (hp : p < n) (hd : isD (f p) = true) (hX : X.length < 400) : tot (f_X11_numberHere M 250) (fun _ M' => MX f n o X (if kV f n p ≤ 9999 then .inr (kN f n p, [kV f n p]) else .inl (2, p)) M' ∧ NF M M') := by
  unfold f_X11_numberHere
  have hE : runE isD f n (n - p) p = kE f n p := by unfold kE; rw [if_pos hp, if_pos hd]
  have hk := kE_gt (f := f) hp
  obtain ⟨v', h1, h2, h3⟩ := nu_h (N' := FU) (v := 0) (x1 := M 250 4) hb (n - p) h.1 h.2.1.1 (by have := h.le; omega) (by omega) (by have := h.le; unfold FU; omega) (by omega)
  rw [hE] at h2 h3
  have hV : kV f n p = min 10000 v' := by
    unfold kV
    rw [if_pos hd, h2]; rfl
  rw [show (0 : Int32) = nI 0 from rfl, h3]
  unfold stp
  have h' := h.mv hk.2
  by_cases hv : v' ≤ 9999
  · rw [if_pos (show nI v' ≤ 9999 from nI_le (b := 9999) hv (by omega)), if_pos (by rw [hV]; omega)]
    unfold f_X11_numberHere_b77
    refine (a_tells h' hX v').bd (fun r M1 h4 => tot.ret ⟨⟨kE f n p, rfl, ?_⟩, (NF.u (by omega)).tr h4.2⟩)
    rw [hV, Nat.min_eq_right (by omega)]
    exact h4.1
  · rw [if_neg (show ¬ nI v' ≤ 9999 from nI_ge (a := 9999) (by omega) (by omega)), if_neg (by rw [hV]; omega), h.2.1.1]
    refine (a_wrong h' (c := 2) (by decide) (by decide) (p := p)).bd (fun r M1 h4 => ?_)
    unfold f_X11_numberHere_b77
    dsimp only
    rw [e_tells h4.1]
    exact tot.ret ⟨h4.1, (NF.u (by omega)).tr h4.2.1⟩
theorem wh_h (hb : ∀ k, k < 300 → ∃ q, q < 256 ∧ f k = nI q) {p : Nat} {M : Mem} (h : MC f n M) (h4 : M 250 4 = nI p) (m : Nat) {N' j v : Nat} (hm : n ≤ p + j + m) (hN : m < N') (hj : p + j ≤ n) (hv : v = wv (ltr f p (p + min j 6))) : f_X11_wordHere_h8 250 N' (nI v) (nI j) M = some (if runE isL f n m (p + j) - p ≤ 6 then nI (wv (ltr f p (runE isL f n m (p + j)))) else (-1), M) := by
  have hn := h.2.1
  have stop : ∀ j v, v = wv (ltr f p (p + min j 6)) → j < 90000 → f_X11_wordHere_b75 250 (nI v) (nI j) M = some (if p + j - p ≤ 6 then nI (wv (ltr f p (p + j))) else (-1), M) := fun j v hv hj => by
    unfold f_X11_wordHere_b75
    rw [Nat.add_sub_cancel_left]
    by_cases h6 : j ≤ 6
    · rw [if_pos (show nI j ≤ 6 from i_le (b := 6) h6 (by omega)), if_pos h6, hv, Nat.min_eq_left h6]
    · rw [if_neg (show ¬ nI j ≤ 6 from i_nle (a := 6) (by omega) (by omega)), if_neg h6]
  induction m generalizing N' j v with
  | zero =>
    obtain ⟨N', rfl⟩ : ∃ k, N' = k + 1 := ⟨N' - 1, by omega⟩
    unfold f_X11_wordHere_h8
    rw [h4, nI_ad2, m_byte h (by omega), Option.bind_some]
    dsimp only
    have hbt : bt f n (p + j) = -1 := by unfold bt; rw [if_neg (by omega)]
    rw [hbt, if_pos (by decide)]
    exact stop j v hv (by omega)
  | succ m ih =>
    obtain ⟨N', rfl⟩ : ∃ k, N' = k + 1 := ⟨N' - 1, by omega⟩
    unfold f_X11_wordHere_h8 runE
    rw [h4, nI_ad2, m_byte h (by omega), Option.bind_some]
    dsimp only
    by_cases hz : p + j < n ∧ isL (f (p + j)) = true
    · rw [if_pos hz]
      obtain ⟨a, ha, ea⟩ := hb (p + j) (by omega)
      have ha2 := (isL_nI ha).mp (by rw [← ea]; exact hz.2)
      have ebt : bt f n (p + j) = nI a := by unfold bt; rw [if_pos hz.1, ea]
      rw [ebt, if_neg (show ¬ nI a < 97 from nI_nlt (b := 97) ha2.1 (by omega)), h4, nI_ad2, m_byte h (by omega), Option.bind_some]
      dsimp only
      rw [ebt, if_neg (show ¬ 122 < nI a from nI_nlt (a := 122) ha2.2 (by omega))]
      unfold f_X11_wordHere_b68
      by_cases h6 : 6 ≤ j
      · rw [if_pos (show 6 ≤ nI j from i_le (a := 6) h6 (by omega)), ← nI_succ]
        exact ih (j := j + 1) (by omega) (by omega) (by omega) (by rw [hv, Nat.min_eq_right h6, Nat.min_eq_right (by omega)])
      · rw [if_neg (show ¬ 6 ≤ nI j from i_nle (b := 6) (by omega) (by omega)), h4, nI_ad2, m_byte h (by omega), Option.bind_some]
        dsimp only
        have e1 : (27 * nI v + bt f n (p + j)) - 97 + 1 = nI (27 * v + (a - 96)) := by
          rw [ebt, show (27 : Int32) = nI 27 from rfl, show (97 : Int32) = nI 97 from rfl, nI_mul, nI_ad2, nI_sub (by omega), ← nI_succ]
          congr 1
          omega
        rw [e1, ← nI_succ]
        refine ih (j := j + 1) (by omega) (by omega) (by omega) ?_
        rw [hv, Nat.min_eq_left (by omega), Nat.min_eq_left (by omega), ltr_snoc, wv_snoc, ea, i_cl (by omega)]
    · rw [if_neg hz]
      by_cases h1 : bt f n (p + j) < 97
      · rw [if_pos h1]; exact stop j v hv (by omega)
      · rw [if_neg h1, h4, nI_ad2, m_byte h (by omega), Option.bind_some]
        dsimp only
        have h2 : 122 < bt f n (p + j) := by
          by_cases h2 : 122 < bt f n (p + j)
          · exact h2
          · exfalso
            apply hz
            refine (bt_c isL (by decide) f n (p + j)).mp ?_
            unfold isL
            rw [decide_eq_false h1, decide_eq_false h2]; rfl
        rw [if_pos h2]; exact stop j v hv (by omega)
theorem wds_6 : ∀ W ∈ wds, W ≠ [] ∧ W.length ≤ 6 := by decide +kernel
theorem wds_i : ∀ i, i < 18 → wds.findIdx (· == (wds[i]?).getD []) = i := by decide +kernel
theorem w_k (hb : ∀ k, k < 300 → ∃ q, q < 256 ∧ f k = nI q) (hn : n ≤ 300) {i : Nat} {W : List Nat} (hW : wds[i]? = some W) (p : Nat) : (ltr f p (runE isL f n (n - p) p) = W) ↔ kK f n p = 300 + i := by
  have hi : i < 18 := (List.getElem?_eq_some_iff.mp hW).1
  have hmem := List.mem_of_getElem? hW
  by_cases hz : p < n ∧ isL (f p) = true
  · obtain ⟨a, ha, ea⟩ := hb p (by omega)
    have ha2 := (isL_nI ha).mp (by rw [← ea]; exact hz.2)
    have hd : ¬ isD (f p) = true := fun z => by
      rw [ea] at z
      have := (isD_nI ha).mp z
      omega
    have hE : kE f n p = runE isL f n (n - p) p := by unfold kE; rw [if_pos hz.1, if_neg hd, if_pos hz.2]
    have hK : kK f n p = 300 + wds.findIdx (· == ltr f p (kE f n p)) := by unfold kK; rw [if_pos hz.1, if_neg hd, if_pos hz.2]
    rw [hK, hE]
    constructor
    · intro h
      have := wds_i i hi
      rw [hW] at this
      rw [h]
      have h2 : wds.findIdx (· == W) = i := this
      rw [h2]
    · intro h
      have h2 : wds.findIdx (· == ltr f p (runE isL f n (n - p) p)) = i := by omega
      have h3 : wds.findIdx (· == ltr f p (runE isL f n (n - p) p)) < wds.length := by rw [h2]; exact hi
      have h4 := List.findIdx_getElem (w := h3)
      have h5 := eq_of_beq h4
      have h6 : wds[wds.findIdx (· == ltr f p (runE isL f n (n - p) p))]? = some (ltr f p (runE isL f n (n - p) p)) := by rw [List.getElem?_eq_getElem h3, h5]
      rw [h2, hW] at h6
      exact (Option.some.inj h6).symm
  · rw [run_z isL _ hz, ltr_nil f (Nat.le_refl p)]
    refine ⟨fun h => absurd h.symm (wds_6 W hmem).1, fun h => ?_⟩
    exfalso
    unfold kK at h
    by_cases hp : p < n
    · rw [if_pos hp] at h
      split at h
      · omega
      · rw [if_neg (fun z => hz ⟨hp, z⟩)] at h
        obtain ⟨a, ha, ea⟩ := hb p (by omega)
        rw [ea, i_cl (by omega)] at h
        omega
    · rw [if_neg hp] at h; omega
theorem a_isWord (hb : ∀ k, k < 300 → ∃ q, q < 256 ∧ f k = nI q) (h : MA f n M q o X) (i : Nat) {W : List Nat} (hW : wds[i]? = some W) {a b c d e g : Int32} (hw : wf62 g (wf62 e (wf62 d (wf62 c (27 * a + b)))) = nI (wv W)) : f_X11_isWord M 250 a b c d e g = some (b2 (decide (kK f n (sk f n q) = 300 + i)), mU M 250 4 (nI (sk f n q))) := by
  have hle := h.le
  have hs := sk_le f hle.1
  unfold f_X11_isWord f_X11_wordHere
  rw [m_blanks h.1 h.2.1.1 (by omega), Option.bind_some]
  dsimp only
  have h' := h.mv hs.2
  generalize hp : sk f n q = p at h' hs ⊢
  have hwh := wh_h hb h'.1 h'.2.1.1 (n - p) (N' := FU) (j := 0) (v := 0) (by omega) (by unfold FU; omega) (by omega) (by rw [show min 0 6 = 0 from rfl, Nat.add_zero, ltr_nil f (Nat.le_refl p)]; rfl)
  rw [Nat.add_zero] at hwh
  rw [show (0 : Int32) = nI 0 from rfl, hwh, Option.bind_some]
  dsimp only
  rw [wf_w, hw, Option.bind_some]
  dsimp only
  have hmem := List.mem_of_getElem? hW
  have hW6 := (wds_6 W hmem).2
  have hW26 := wds_26 W hmem
  have hwk := w_k hb hle.2 hW p
  have hlt := wv_lt hW26 hW6
  have hE := run_le isL f n (n - p) p hs.2
  have hl : ∀ c ∈ ltr f p (runE isL f n (n - p) p), 1 ≤ c ∧ c ≤ 26 := ltr_in hb (by omega) (fun i h1 h2 => (run_in isL f n _ p i h1 h2).2)
  have key : ((if runE isL f n (n - p) p - p ≤ 6 then nI (wv (ltr f p (runE isL f n (n - p) p))) else (-1)) = nI (wv W)) ↔ kK f n p = 300 + i := by
    rw [← hwk]
    by_cases h6 : runE isL f n (n - p) p - p ≤ 6
    · rw [if_pos h6]
      have hlt2 := wv_lt hl (by rw [ltr_len]; exact h6)
      constructor
      · exact fun z => wv_inj hl hW26 ((nI_eq (by omega) (by omega)).mp z)
      · exact fun z => by rw [z]
    · rw [if_neg h6]
      constructor
      · intro z
        exfalso
        have : (-1 : Int32) < 0 := by decide
        rw [z] at this
        exact nI_pos (by omega) this
      · intro z
        rw [← z, ltr_len] at hW6
        exact absurd hW6 h6
  by_cases hk : kK f n p = 300 + i
  · rw [if_pos (key.mpr hk), decide_eq_true hk]; rfl
  · rw [if_neg (fun z => hk (key.mp z)), decide_eq_false hk]; rfl
theorem a_word (hb : ∀ k, k < 300 → ∃ q, q < 256 ∧ f k = nI q) {p : Nat} (h : MA f n M p o X) (hp : sk f n p = p) (i : Nat) {W : List Nat} (hW : wds[i]? = some W) {a b c d e g : Int32} (hw : wf62 g (wf62 e (wf62 d (wf62 c (27 * a + b)))) = nI (wv W)) : f_X11_isWord M 250 a b c d e g = some (b2 (decide (kK f n p = 300 + i)), M) := by
  rw [a_isWord hb h i hW hw, hp, mU_self h.2.1.1]
theorem so_h (m : Nat) {N' q : Nat} {M : Mem} (h : MC f n M) (h4 : M 250 4 = nI q) (hq : q ≤ 310) (hm : n ≤ q + m) (hN : m < N') : f_X11_skipWord_h0 250 N' M = some (0, mU M 250 4 (nI (runE isL f n m q))) := by
  have stop : ∀ N' q M, MC f n M → M 250 4 = nI q → q ≤ 310 → ¬ (q < n ∧ isL (f q) = true) → f_X11_skipWord_h0 250 (N' + 1) M = some (0, M) := fun N' q M h h4 hq hz => by
    unfold f_X11_skipWord_h0
    rw [h4, m_byte h (by omega), Option.bind_some]
    dsimp only
    by_cases h1 : bt f n q < 97
    · rw [if_pos h1]
    · rw [if_neg h1, h4, m_byte h (by omega), Option.bind_some]
      dsimp only
      rw [if_pos]
      by_cases h2 : 122 < bt f n q
      · exact h2
      · exfalso
        apply hz
        refine (bt_c isL (by decide) f n q).mp ?_
        unfold isL
        rw [decide_eq_false h1, decide_eq_false h2]; rfl
  induction m generalizing N' q M with
  | zero =>
    obtain ⟨N', rfl⟩ : ∃ k, N' = k + 1 := ⟨N' - 1, by omega⟩
    rw [stop N' q M h h4 hq (by omega)]
    show _ = some ((0 : Int32), mU M 250 4 (nI q))
    rw [mU_self h4]
  | succ m ih =>
    obtain ⟨N', rfl⟩ : ∃ k, N' = k + 1 := ⟨N' - 1, by omega⟩
    unfold runE
    by_cases hz : q < n ∧ isL (f q) = true
    · rw [if_pos hz]
      unfold f_X11_skipWord_h0
      have hlb := (bt_c isL (by decide) f n q).mpr hz
      unfold isL at hlb
      simp only [Bool.and_eq_true, Bool.not_eq_true', decide_eq_false_iff_not] at hlb
      rw [h4, m_byte h (by omega), Option.bind_some]
      dsimp only
      rw [if_neg hlb.1, h4, m_byte h (by omega), Option.bind_some]
      dsimp only
      rw [if_neg hlb.2, h4, ← nI_succ, ih (h.u (by decide)) (by rw [mU_at, if_pos ⟨rfl, rfl⟩]) (by have := h.2.1; omega) (by omega) (by omega), mU_2]
    · rw [if_neg hz, stop N' q M h h4 hq hz, mU_self h4]
theorem wk_E (hb : ∀ k, k < 300 → ∃ q, q < 256 ∧ f k = nI q) (hn : n ≤ 300) {p : Nat} (hk : 300 ≤ kK f n p ∧ kK f n p < 318) : p < n ∧ kE f n p = runE isL f n (n - p) p := by
  unfold kK at hk
  by_cases hp : p < n
  · rw [if_pos hp] at hk
    refine ⟨hp, ?_⟩
    unfold kE
    rw [if_pos hp]
    by_cases hd : isD (f p) = true
    · rw [if_pos hd] at hk; omega
    · rw [if_neg hd] at hk ⊢
      by_cases hl : isL (f p) = true
      · rw [if_pos hl]
      · rw [if_neg hl] at hk
        obtain ⟨a, ha, ea⟩ := hb p (by omega)
        rw [ea, i_cl (by omega)] at hk
        omega
  · rw [if_neg hp] at hk; omega
theorem a_skip (hb : ∀ k, k < 300 → ∃ q, q < 256 ∧ f k = nI q) {p : Nat} (h : MA f n M p o X) (hk : 300 ≤ kK f n p ∧ kK f n p < 318) : tot (f_X11_skipWord M 250) (fun _ M' => MA f n M' (kE f n p) o X ∧ NF M M') := by
  obtain ⟨hp, hE⟩ := wk_E hb h.le.2 hk
  unfold f_X11_skipWord
  rw [so_h (n - p) h.1 h.2.1.1 (by have := h.le; omega) (by omega) (by have := h.le; unfold FU; omega), ← hE]
  exact tot.ret ⟨h.mv (kE_gt hp).2, .u (by omega)⟩
theorem a_name (hb : ∀ k, k < 300 → ∃ q, q < 256 ∧ f k = nI q) {p : Nat} (h : MA f n M p o X) (hp : sk f n p = p) : f_X11_nameHere M 250 = some (if 300 ≤ kK f n p ∧ kK f n p < 309 then nI (kK f n p - 300) else (-1), M) := by
  have e0 := a_word hb h hp 0 (W := [23, 9, 14, 4]) rfl (a := 23) (b := 9) (c := 14) (d := 4) (e := 0) (g := 0) (by decide +kernel)
  have e1 := a_word hb h hp 1 (W := [20, 9, 3, 11]) rfl (a := 20) (b := 9) (c := 3) (d := 11) (e := 0) (g := 0) (by decide +kernel)
  have e2 := a_word hb h hp 2 (W := [8, 5, 9, 7, 8, 20]) rfl (a := 8) (b := 5) (c := 9) (d := 7) (e := 8) (g := 20) (by decide +kernel)
  have e3 := a_word hb h hp 3 (W := [20, 21, 18, 14]) rfl (a := 20) (b := 21) (c := 18) (d := 14) (e := 0) (g := 0) (by decide +kernel)
  have e4 := a_word hb h hp 4 (W := [21, 16]) rfl (a := 21) (b := 16) (c := 0) (d := 0) (e := 0) (g := 0) (by decide +kernel)
  have e5 := a_word hb h hp 5 (W := [19, 16, 9, 14]) rfl (a := 19) (b := 16) (c := 9) (d := 14) (e := 0) (g := 0) (by decide +kernel)
  have e6 := a_word hb h hp 6 (W := [19, 9, 4, 5]) rfl (a := 19) (b := 9) (c := 4) (d := 5) (e := 0) (g := 0) (by decide +kernel)
  have e7 := a_word hb h hp 7 (W := [8, 15, 12, 5, 19]) rfl (a := 8) (b := 15) (c := 12) (d := 5) (e := 19) (g := 0) (by decide +kernel)
  have e8 := a_word hb h hp 8 (W := [16, 9, 5, 3, 5]) rfl (a := 16) (b := 9) (c := 5) (d := 3) (e := 5) (g := 0) (by decide +kernel)
  simp only [f_X11_nameHere, e0, e1, e2, e3, e4, e5, e6, e7, e8, Option.bind_some]
  generalize kK f n p = k
  by_cases hk : 300 ≤ k ∧ k < 309
  · rw [if_pos hk]
    have : k = 300 ∨ k = 301 ∨ k = 302 ∨ k = 303 ∨ k = 304 ∨ k = 305 ∨ k = 306 ∨ k = 307 ∨ k = 308 := by omega
    rcases this with rfl | rfl | rfl | rfl | rfl | rfl | rfl | rfl | rfl <;> rfl
  · rw [if_neg hk]
    rw [decide_eq_false (show ¬ k = 300 + 0 by omega), decide_eq_false (show ¬ k = 300 + 1 by omega), decide_eq_false (show ¬ k = 300 + 2 by omega), decide_eq_false (show ¬ k = 300 + 3 by omega), decide_eq_false (show ¬ k = 300 + 4 by omega), decide_eq_false (show ¬ k = 300 + 5 by omega), decide_eq_false (show ¬ k = 300 + 6 by omega), decide_eq_false (show ¬ k = 300 + 7 by omega), decide_eq_false (show ¬ k = 300 + 8 by omega)]
    rfl
end MWORD
