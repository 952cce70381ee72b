/-! The model's reader: its bytes, blanks, what it tells. -/
def MC (f : Nat → Int32) (n : Nat) (M : Mem) : Prop := M 250 2 = nI n ∧ n ≤ 300 ∧ ∀ k, k < 300 → M 251 k = f k
/-- it stands at q, o are open, it has told X, nothing is wrong -/
def MA (f : Nat → Int32) (n : Nat) (M : Mem) (q o : Nat) (X : List Nat) : Prop := MC f n M ∧ (M 250 4 = nI q ∧ q ≤ n) ∧ M 250 5 = nI o ∧ (M 250 6 = 0 ∧ M 250 7 = -1) ∧ M 250 8 = nI X.length ∧ ∀ k c, X[k]? = some c → M 252 k = nI c
/-- something is wrong -/
def ME (f : Nat → Int32) (n : Nat) (M : Mem) (e : Nat × Nat) : Prop := MC f n M ∧ (∃ q, q ≤ 310 ∧ M 250 4 = nI q) ∧ (M 250 6 = nI e.1 ∧ 1 ≤ e.1 ∧ e.1 ≤ 3) ∧ M 250 7 = nI e.2
def NF (M M' : Mem) : Prop := (∀ b, b ≠ 250 → b ≠ 252 → M' b = M b) ∧ ∀ k, (k < 4 ∨ 8 < k) → M' 250 k = M 250 k
def MX (f : Nat → Int32) (n o : Nat) (X : List Nat) (x : Pr) (M : Mem) : Prop := match x with
  | .inl e => ME f n M e
  | .inr (r, Y) => ∃ q, sk f n q = r ∧ MA f n M q o (X ++ Y)
def EM (f : Nat → Int32) (n : Nat) (g : Mem → Nat → Option (Int32 × Mem)) : Prop := ∀ M e, ME f n M e → tot (g M 250) (fun _ M' => ME f n M' e ∧ NF M M')
def SM (f : Nat → Int32) (n : Nat) (g : Mem → Nat → Option (Int32 × Mem)) (x : Nat → Pr) (o : Nat) : Prop := (∀ M q X, MA f n M q o X → X.length ≤ sk f n q → tot (g M 250) (fun _ M' => MX f n o X (x (sk f n q)) M' ∧ NF M M')) ∧ EM f n g
theorem NF.rf {M : Mem} : NF M M := ⟨fun _ _ _ => rfl, fun _ _ => rfl⟩
theorem NF.tr {M M' M'' : Mem} (h : NF M M') (h' : NF M' M'') : NF M M'' := ⟨fun b h1 h2 => (h'.1 b h1 h2).trans (h.1 b h1 h2), fun k hk => (h'.2 k hk).trans (h.2 k hk)⟩
theorem NF.u {M : Mem} {k : Nat} {v : Int32} (h : 4 ≤ k ∧ k ≤ 8) : NF M (mU M 250 k v) := ⟨fun b h1 _ => u_ne h1, fun j hj => by rw [mU_at, if_neg (by omega)]⟩
theorem NF.c {M : Mem} {k : Nat} {v : Int32} : NF M (mU M 252 k v) := ⟨fun b _ h2 => u_ne h2, fun j hj => by rw [u_ne (by decide)]⟩
theorem mU_self {M : Mem} {a k : Nat} {v : Int32} (h : M a k = v) : mU M a k v = M := by
  funext b j
  rw [mU_at]
  split
  · rename_i hz; rw [hz.1, hz.2, h]
  · rfl
theorem mU_2 (M : Mem) (a k : Nat) (v w : Int32) : mU (mU M a k v) a k w = mU M a k w := by
  funext b j
  rw [mU_at, mU_at, mU_at]
  split <;> rfl
/-- the byte at k, -1 behind the end -/
def bt (f : Nat → Int32) (n k : Nat) : Int32 := if k < n then f k else (-1)
section MREAD
variable {f : Nat → Int32} {n : Nat} {M : Mem} {q o : Nat} {X : List Nat} {e : Nat × Nat}
theorem MC.u (h : MC f n M) {k : Nat} {v : Int32} (hk : k ≠ 2) : MC f n (mU M 250 k v) := ⟨by rw [mU_at, if_neg (by omega)]; exact h.1, h.2.1, fun j hj => by rw [u_ne (by decide)]; exact h.2.2 j hj⟩
theorem MC.c (h : MC f n M) {k : Nat} {v : Int32} : MC f n (mU M 252 k v) := ⟨by rw [u_ne (by decide)]; exact h.1, h.2.1, fun j hj => by rw [u_ne (by decide)]; exact h.2.2 j hj⟩
theorem m_byte (h : MC f n M) {k : Nat} (hk : k < 90000) : f_X11_byteAt M 250 (nI k) = some (bt f n k, M) := by
  have hn := h.2.1
  unfold f_X11_byteAt bt
  rw [h.1]
  by_cases hz : k < n
  · rw [if_pos (nI_lt hz (by omega)), m_9, l_251, if_pos (i_in (by omega) (by omega)), i_cl (by omega), h.2.2 k (by omega), if_pos hz]
  · rw [if_neg (nI_nlt (by omega) (by omega)), if_neg hz]
theorem bt_32 (f : Nat → Int32) (n k : Nat) : bt f n k = 32 ↔ (k < n ∧ isB (f k) = true) := by
  unfold bt isB
  by_cases hz : k < n
  · rw [if_pos hz]
    constructor
    · exact fun h => ⟨hz, decide_eq_true h⟩
    · exact fun h => of_decide_eq_true h.2
  · rw [if_neg hz]
    constructor
    · exact fun h => absurd h (by decide)
    · exact fun h => absurd h.1 hz
theorem bl_h (m : Nat) {N' q : Nat} {M : Mem} (h : MC f n M) (h4 : M 250 4 = nI q) (hq : q ≤ 310) (hm : n ≤ q + m) (hN : m < N') : f_X11_blanks_h0 250 N' M = some (0, mU M 250 4 (nI (runE isB f n m q))) := by
  induction m generalizing N' q M with
  | zero =>
    obtain ⟨N', rfl⟩ : ∃ k, N' = k + 1 := ⟨N' - 1, by omega⟩
    unfold f_X11_blanks_h0
    rw [h4, m_byte h (by omega), Option.bind_some]
    dsimp only
    rw [if_neg (fun z => by have := ((bt_32 f n q).mp z).1; omega)]
    show _ = some ((0 : Int32), mU M 250 4 (nI q))
    rw [mU_self h4]
  | succ m ih =>
    obtain ⟨N', rfl⟩ : ∃ k, N' = k + 1 := ⟨N' - 1, by omega⟩
    unfold f_X11_blanks_h0 runE
    rw [h4, m_byte h (by omega), Option.bind_some]
    dsimp only
    by_cases hz : q < n ∧ isB (f q) = true
    · rw [if_pos ((bt_32 f n q).mpr hz), if_pos hz, h4, ← nI_succ, ih (h.u (by decide)) (by rw [mU_at, if_pos ⟨rfl, rfl⟩]) (by have := h.2.1; omega) (by omega) (by omega), mU_2]
    · rw [if_neg (fun z => hz ((bt_32 f n q).mp z)), if_neg hz, mU_self h4]
theorem m_blanks (h : MC f n M) (h4 : M 250 4 = nI q) (hq : q ≤ 310) : f_X11_blanks M 250 = some (0, mU M 250 4 (nI (sk f n q))) := bl_h (n - q) h h4 hq (by omega) (by have := h.2.1; unfold FU; omega)
theorem sk_le (f : Nat → Int32) {n q : Nat} (h : q ≤ n) : q ≤ sk f n q ∧ sk f n q ≤ n := ⟨run_ge isB f n _ q, run_le isB f n _ q h⟩
theorem sk_b (f : Nat → Int32) {n q : Nat} (h : q ≤ 310) (hn : n ≤ 300) : sk f n q ≤ 310 := by
  by_cases hz : q ≤ n
  · have := (sk_le f hz).2; omega
  · rw [sk_end f (by omega)]; exact h
theorem sk_sk (f : Nat → Int32) (n q : Nat) : sk f n (sk f n q) = sk f n q := run_z isB _ (run_end isB f n (n - q) q (by omega))
theorem MA.mv (h : MA f n M q o X) {r : Nat} (hr : r ≤ n) : MA f n (mU M 250 4 (nI r)) r o X := by
  obtain ⟨h1, h2, h3, ⟨h4, h5⟩, h6, h7⟩ := h
  exact ⟨h1.u (by decide), ⟨by rw [mU_at, if_pos ⟨rfl, rfl⟩], hr⟩, by rw [mU_at, if_neg (by omega)]; exact h3, ⟨by rw [mU_at, if_neg (by omega)]; exact h4, by rw [mU_at, if_neg (by omega)]; exact h5⟩, by rw [mU_at, if_neg (by omega)]; exact h6, fun k c hk => by rw [u_ne (by decide)]; exact h7 k c hk⟩
theorem ME.mv (h : ME f n M e) {r : Nat} (hr : r ≤ 310) : ME f n (mU M 250 4 (nI r)) e := by
  obtain ⟨h1, h2, ⟨h3, h4⟩, h5⟩ := h
  exact ⟨h1.u (by decide), ⟨r, hr, by rw [mU_at, if_pos ⟨rfl, rfl⟩]⟩, ⟨by rw [mU_at, if_neg (by omega)]; exact h3, h4⟩, by rw [mU_at, if_neg (by omega)]; exact h5⟩
theorem ME.op (h : ME f n M e) (v : Int32) : ME f n (mU M 250 5 v) e := by
  obtain ⟨h1, ⟨q, h2, h2'⟩, ⟨h3, h4⟩, h5⟩ := h
  exact ⟨h1.u (by decide), ⟨q, h2, by rw [mU_at, if_neg (by omega)]; exact h2'⟩, ⟨by rw [mU_at, if_neg (by omega)]; exact h3, h4⟩, by rw [mU_at, if_neg (by omega)]; exact h5⟩
theorem MA.op (h : MA f n M q o X) (o' : Nat) : MA f n (mU M 250 5 (nI o')) q o' X := by
  obtain ⟨h1, ⟨h2, h2'⟩, h3, ⟨h4, h5⟩, h6, h7⟩ := h
  exact ⟨h1.u (by decide), ⟨by rw [mU_at, if_neg (by omega)]; exact h2, h2'⟩, by rw [mU_at, if_pos ⟨rfl, rfl⟩], ⟨by rw [mU_at, if_neg (by omega)]; exact h4, by rw [mU_at, if_neg (by omega)]; exact h5⟩, by rw [mU_at, if_neg (by omega)]; exact h6, fun k c hk => by rw [u_ne (by decide)]; exact h7 k c hk⟩
theorem MA.ok (h : MA f n M q o X) : M 250 6 = 0 := h.2.2.2.1.1
theorem MA.le (h : MA f n M q o X) : q ≤ n ∧ n ≤ 300 := ⟨h.2.1.2, h.1.2.1⟩
theorem ME.ne (h : ME f n M e) : ¬ M 250 6 = 0 := by
  rw [h.2.2.1.1]
  exact fun z => absurd ((i_eq (a := e.1) (b := 0) (by have := h.2.2.1.2.2; omega) (by decide)).mp z) (by have := h.2.2.1.2.1; omega)
theorem a_blanks (h : MA f n M q o X) : tot (f_X11_blanks M 250) (fun _ M' => MA f n M' (sk f n q) o X ∧ NF M M') := by
  rw [m_blanks h.1 h.2.1.1 (by have := h.le; omega)]
  exact tot.ret ⟨h.mv (sk_le f h.le.1).2, .u (by omega)⟩
theorem e_blanks (h : ME f n M e) : tot (f_X11_blanks M 250) (fun _ M' => ME f n M' e ∧ NF M M') := by
  obtain ⟨r, hr, h4⟩ := h.2.1
  rw [m_blanks h.1 h4 hr]
  exact tot.ret ⟨h.mv (sk_b f hr h.1.2.1), .u (by omega)⟩
theorem a_byte (h : MA f n M q o X) : f_X11_byteAt M 250 (M 250 4) = some (bt f n q, M) := by
  rw [h.2.1.1]
  exact m_byte h.1 (by have := h.le; omega)
theorem e_byte (h : ME f n M e) : ∃ v, f_X11_byteAt M 250 (M 250 4) = some (v, M) := by
  obtain ⟨r, hr, h4⟩ := h.2.1
  rw [h4]
  exact ⟨_, m_byte h.1 (by omega)⟩
theorem a_wrong (h : MA f n M q o X) {c : Nat} (h1 : 1 ≤ c) (h3 : c ≤ 3) {p : Nat} : tot (f_X11_wrong M 250 (nI c) (nI p)) (fun _ M' => ME f n M' (c, p) ∧ NF M M' ∧ M' 250 4 = M 250 4) := by
  unfold f_X11_wrong
  rw [if_pos h.ok]
  refine tot.ret ⟨⟨(h.1.u (by decide)).u (by decide), ⟨q, by have := h.le; omega, ?_⟩, ⟨?_, h1, h3⟩, ?_⟩, (NF.u (by omega)).tr (.u (by omega)), ?_⟩
  · rw [mU_at, if_neg (by omega), mU_at, if_neg (by omega)]; exact h.2.1.1
  · rw [mU_at, if_neg (by omega), mU_at, if_pos ⟨rfl, rfl⟩]
  · rw [mU_at, if_pos ⟨rfl, rfl⟩]
  · rw [mU_at, if_neg (by omega), mU_at, if_neg (by omega)]
theorem a_wrongq (h : MA f n M q o X) {c : Nat} (h1 : 1 ≤ c) (h3 : c ≤ 3) : tot (f_X11_wrong M 250 (nI c) (M 250 4)) (fun _ M' => ME f n M' (c, q) ∧ NF M M' ∧ M' 250 4 = M 250 4) := by
  rw [h.2.1.1]
  have := a_wrong h h1 h3 (p := q)
  rw [h.2.1.1] at this
  exact this
theorem e_wrong (h : ME f n M e) (c p : Int32) : f_X11_wrong M 250 c p = some (0, M) := by
  unfold f_X11_wrong
  rw [if_neg h.ne]
theorem a_tells (h : MA f n M q o X) (hX : X.length < 400) (c : Nat) : tot (f_X11_tells M 250 (nI c)) (fun _ M' => MA f n M' q o (X ++ [c]) ∧ NF M M') := by
  obtain ⟨h1, ⟨h2, h2'⟩, h3, ⟨h4, h5⟩, h6, h7⟩ := h
  unfold f_X11_tells
  rw [if_pos h4, m_10, l_252, h6, if_pos (i_in hX (by decide)), i_cl (by omega)]
  have e8 : mU M 252 X.length (nI c) 250 8 = nI X.length := by rw [u_ne (by decide)]; exact h6
  rw [e8, ← nI_succ]
  have eo : ∀ k, k ≠ 8 → mU (mU M 252 X.length (nI c)) 250 8 (nI (X.length + 1)) 250 k = M 250 k := fun k hk => by rw [mU_at, if_neg (fun z => hk z.2), u_ne (by decide)]
  refine tot.ret ⟨⟨h1.c.u (by decide), ⟨by rw [eo 4 (by decide)]; exact h2, h2'⟩, by rw [eo 5 (by decide)]; exact h3, ⟨by rw [eo 6 (by decide)]; exact h4, by rw [eo 7 (by decide)]; exact h5⟩, ?_, fun k d hk => ?_⟩, NF.c.tr (.u (by omega))⟩
  · rw [mU_at, if_pos ⟨rfl, rfl⟩, List.length_append]; rfl
  · rw [u_ne (by decide), mU_at]
    by_cases hz : k = X.length
    · rw [if_pos ⟨rfl, hz⟩]
      rw [hz, List.getElem?_append_right (Nat.le_refl _), Nat.sub_self] at hk
      cases hk; rfl
    · rw [if_neg (fun z => hz z.2)]
      have hlt := (List.getElem?_eq_some_iff.mp hk).1
      rw [List.length_append] at hlt
      simp only [List.length_cons, List.length_nil] at hlt
      rw [List.getElem?_append_left (by omega)] at hk
      exact h7 k d hk
theorem e_tells (h : ME f n M e) (c : Int32) : f_X11_tells M 250 c = some (0, M) := by
  unfold f_X11_tells
  rw [if_neg h.ne]
/-- a sign at p, in the tokens' words -/
def sgn (c : Nat) : Prop := c < 256 ∧ (c < 48 ∨ 57 < c) ∧ (c < 97 ∨ 122 < c)
theorem sg_k (hb : ∀ k, k < 300 → ∃ q, q < 256 ∧ f k = nI q) (hn : n ≤ 300) {c : Nat} (hc : sgn c) (p : Nat) : (bt f n p = nI c) = (kK f n p = c) := by
  obtain ⟨hc1, hc2, hc3⟩ := hc
  unfold bt kK
  by_cases hz : p < n
  · rw [if_pos hz, if_pos hz]
    obtain ⟨q, hq, eq⟩ := hb p (by omega)
    rw [eq]
    by_cases hd : isD (nI q) = true
    · rw [if_pos hd]
      have := (isD_nI hq).mp hd
      exact propext ⟨fun z => by have := (i_eq (by omega) (by omega)).mp z; omega, fun z => by omega⟩
    · rw [if_neg hd]
      by_cases hl : isL (nI q) = true
      · rw [if_pos hl]
        have := (isL_nI hq).mp hl
        exact propext ⟨fun z => by have := (i_eq (by omega) (by omega)).mp z; omega, fun z => by omega⟩
      · rw [if_neg hl, i_cl (by omega)]
        exact propext (i_eq (by omega) (by omega))
  · rw [if_neg hz, if_neg hz]
    refine propext ⟨fun z => ?_, fun z => by omega⟩
    exfalso
    have : (-1 : Int32) < 0 := by decide
    rw [z] at this
    exact i_lt0 (by omega) this
theorem sg_e (hb : ∀ k, k < 300 → ∃ q, q < 256 ∧ f k = nI q) (hn : n ≤ 300) {c : Nat} (hc : sgn c) {p : Nat} (h : kK f n p = c) : p < n ∧ kE f n p = p + 1 ∧ kN f n p = sk f n (p + 1) := by
  obtain ⟨hc1, hc2, hc3⟩ := hc
  have hz : p < n := by
    by_cases hz : p < n
    · exact hz
    · unfold kK at h; rw [if_neg hz] at h; omega
  have hE : kE f n p = p + 1 := by
    unfold kK at h
    rw [if_pos hz] at h
    unfold kE
    rw [if_pos hz]
    by_cases hd : isD (f p) = true
    · rw [if_pos hd] at h; omega
    · rw [if_neg hd] at h
      rw [if_neg hd]
      by_cases hl : isL (f p) = true
      · rw [if_pos hl] at h; omega
      · rw [if_neg hl]
  exact ⟨hz, hE, by unfold kN; rw [hE]⟩
theorem a_sign (hb : ∀ k, k < 300 → ∃ q, q < 256 ∧ f k = nI q) (h : MA f n M q o X) {c : Nat} (hc : sgn c) : tot (f_X11_sign M 250 (nI c)) (fun _ M' => (if kK f n (sk f n q) = c then MA f n M' (sk f n q + 1) o X else ME f n M' (1, sk f n q)) ∧ NF M M') := by
  unfold f_X11_sign
  rw [if_pos h.ok]
  refine (a_blanks h).bd (fun r M1 h1 => ?_)
  obtain ⟨h1, hf1⟩ := h1
  dsimp only
  rw [a_byte h1, Option.bind_some]
  dsimp only
  by_cases hk : kK f n (sk f n q) = c
  · rw [if_pos ((sg_k hb h.le.2 hc _).mpr hk), h1.2.1.1, ← nI_succ]
    simp only [if_pos hk]
    exact tot.ret ⟨h1.mv (sg_e hb h.le.2 hc hk).1, hf1.tr (.u (by omega))⟩
  · rw [if_neg (fun z => hk ((sg_k hb h.le.2 hc _).mp z))]
    simp only [if_neg hk]
    exact (a_wrongq h1 (c := 1) (by decide) (by decide)).bd (fun r M2 h2 => tot.ret ⟨h2.1, hf1.tr h2.2.1⟩)
theorem e_sign (h : ME f n M e) (c : Int32) : f_X11_sign M 250 c = some (0, M) := by
  unfold f_X11_sign
  rw [if_neg h.ne]
theorem a_opens (h : MA f n M q o X) (ho : o ≤ 6) {b : Nat} (hb : q + b ≤ n) : tot (f_X11_opens M 250 (nI b)) (fun _ M' => (if o < 6 then MA f n M' (q + b) (o + 1) X else ME f n M' (3, q)) ∧ NF M M') := by
  have e18 : ∀ M1 : Mem, M1 250 4 = nI q → f_X11_opens_b18 250 (nI b) M1 = some (0, mU (mU M1 250 5 (M1 250 5 + 1)) 250 4 (nI (q + b))) := fun M1 h4 => by
    unfold f_X11_opens_b18
    have : mU M1 250 5 (M1 250 5 + 1) 250 4 = nI q := by rw [mU_at, if_neg (by omega)]; exact h4
    rw [this, nI_ad2]
  unfold f_X11_opens
  by_cases h6 : o < 6
  · rw [h.2.2.1, if_neg (show ¬ nI o = 6 from fun z => absurd ((i_eq (b := 6) (by omega) (by decide)).mp z) (by omega)), e18 M h.2.1.1, h.2.2.1, ← nI_succ]
    simp only [if_pos h6]
    exact tot.ret ⟨(h.op (o + 1)).mv hb, (NF.u (by omega)).tr (.u (by omega))⟩
  · have : o = 6 := by omega
    rw [h.2.2.1, if_pos (show nI o = 6 by rw [this]; rfl)]
    simp only [if_neg h6]
    refine (a_wrongq h (c := 3) (by decide) (by decide)).bd (fun r M1 h1 => ?_)
    obtain ⟨h1, hf1, h4⟩ := h1
    dsimp only
    rw [e18 M1 (h4.trans h.2.1.1)]
    exact tot.ret ⟨(h1.op _).mv (by have := h.le; omega), hf1.tr ((NF.u (by omega)).tr (.u (by omega)))⟩
end MREAD
