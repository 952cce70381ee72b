/-! Decks: what they are, as rows of numbers by offset (0: pieces, ticks; 2 numbers; 4 heights; 6 turns; 8 ups; 10 spins; 12 stays; 14 torn), and the class's deck at cell a. -/
abbrev Dk : Type := Nat → Nat → Int32
def inD (o k : Nat) : Prop := (o = 0 ∧ k < 2) ∨ (o = 2 ∧ k < 10) ∨ ((o = 4 ∨ o = 6 ∨ o = 8 ∨ o = 10 ∨ o = 12 ∨ o = 14) ∧ k < 8)
def RD (M : Mem) (a : Nat) (D : Dk) : Prop := ∀ o k, inD o k → M (a + o) k = D o k
theorem RD.fr {M M' : Mem} {a : Nat} {D : Dk} (h : RD M a D) (hf : ∀ b, a ≤ b → b < a + 15 → M' b = M b) : RD M' a D := fun o k hi => by
  rw [hf (a + o) (by omega) (by unfold inD at hi; omega)]
  exact h o k hi
theorem RD.cg {M : Mem} {a : Nat} {D D' : Dk} (h : RD M a D) (hf : ∀ o k, inD o k → D o k = D' o k) : RD M a D' := fun o k hi => (h o k hi).trans (hf o k hi)
theorem RD.put {M : Mem} {a : Nat} {D : Dk} (h : RD M a D) (o k : Nat) (v : Int32) : RD (mU M (a + o) k v) a (mU D o k v) := fun o2 k2 hi => by
  rw [mU_add, mU_at, h o2 k2 hi]
theorem RD.set {M : Mem} {a : Nat} {D : Dk} (h : RD M a D) (o n : Nat) (f : Nat → Int32) : RD (mSet M (a + o) n f) a (mSet D o n f) := fun o2 k2 hi => by
  rw [mSet_add, mSet_at, h o2 k2 hi]
theorem RD.p {M : Mem} {a : Nat} {D : Dk} (h : RD M a D) : M a 0 = D 0 0 := h 0 0 (by unfold inD; omega)
theorem RD.t {M : Mem} {a : Nat} {D : Dk} (h : RD M a D) : M a 1 = D 0 1 := h 0 1 (by unfold inD; omega)
theorem RD.r {M : Mem} {a : Nat} {D : Dk} (h : RD M a D) {o k : Nat} (ho : inD o k) : M (a + o) k = D o k := h o k ho
def dkN (j : Nat) : Nat := if j = 0 then 10 else if j = 7 then 9 else 8
theorem dkN_le (j : Nat) : dkN j ≤ 10 := by
  unfold dkN
  split
  · omega
  · split <;> omega
def DkS (a : Nat) : Prop := ∀ j, j < 8 → gRf a (2 + j) = a + (1 + 2 * j) ∧ gRf (a + (1 + 2 * j)) 0 = a + (2 + 2 * j) ∧ gN (a + (2 + 2 * j)) = dkN j
theorem dk_12 : DkS 12 := by unfold DkS; decide +kernel
theorem dk_58 : DkS 58 := by unfold DkS; decide +kernel
theorem dk_75 : DkS 75 := by unfold DkS; decide +kernel
theorem dk_113 : DkS 113 := by unfold DkS; decide +kernel
theorem dk_159 : DkS 159 := by unfold DkS; decide +kernel
theorem dk_205 : DkS 205 := by unfold DkS; decide +kernel
theorem DkS.rd {a : Nat} (h : DkS a) {j k : Nat} (hj : j < 8) (hk : k < dkN j) (M : Mem) : rAt M (gRf a (2 + j)) (nI k) = M (a + (2 + 2 * j)) k := by
  obtain ⟨h1, h2, h3⟩ := h j hj
  have hd := dkN_le j
  rw [rAt_nI (by rw [h1, h2, h3]; exact hk) (by rw [h1, h2, h3]; omega), h1, h2]
theorem DkS.wr {a : Nat} (h : DkS a) {j k : Nat} (hj : j < 8) (hk : k < dkN j) (M : Mem) (v : Int32) : rPut M (gRf a (2 + j)) (nI k) v = mU M (a + (2 + 2 * j)) k v := by
  obtain ⟨h1, h2, h3⟩ := h j hj
  have hd := dkN_le j
  rw [rPut_nI (by rw [h1, h2, h3]; exact hk) (by rw [h1, h2, h3]; omega), h1, h2]
theorem DkS.fl {a : Nat} (h : DkS a) {j : Nat} (hj : j < 8) (M : Mem) (v : Int32) : f_X8_fill M (gRf a (2 + j)) v = some (0, mSet M (a + (2 + 2 * j)) (dkN j) (fun _ => v)) := by
  obtain ⟨h1, h2, h3⟩ := h j hj
  rw [q_fill, h1, h2, h3]
theorem DkS.cp {a a2 : Nat} (h : DkS a) (h' : DkS a2) (hne : a + 17 ≤ a2 ∨ a2 + 17 ≤ a) {j : Nat} (hj : j < 8) (M : Mem) : f_X8_copy M (gRf a (2 + j)) (gRf a2 (2 + j)) = some (0, mSet M (a + (2 + 2 * j)) (dkN j) (M (a2 + (2 + 2 * j)))) := by
  obtain ⟨h1, h2, h3⟩ := h j hj
  obtain ⟨g1, g2, g3⟩ := h' j hj
  rw [p_copy (gN_lt _) (by rw [h1, h2, h3, g1, g2, g3]) (by rw [h1, h2, g1, g2]; omega), h1, h2, h3, g1, g2]
theorem DkS.w2 {a : Nat} (h : DkS a) (M : Mem) {k : Nat} (hk : k < 10) (v : Int32) : rPut M (gRf a 2) (nI k) v = mU M (a + 2) k v := h.wr (j := 0) (by decide) hk M v
theorem RD.a2 {M : Mem} {a : Nat} {E : Dk} (h : RD M a E) (hs : DkS a) {k : Nat} (hk : k < 10) : rAt M (gRf a 2) (nI k) = E 2 k := (hs.rd (j := 0) (by decide) hk M).trans (h 2 k (by unfold inD; omega))
theorem DkS.c2 {a : Nat} (h : DkS a) : gRf (gRf a 2) 0 = a + 2 := (congrArg (gRf · 0) (h 0 (by decide)).1).trans (h 0 (by decide)).2.1
theorem DkS.w3 {a : Nat} (h : DkS a) (M : Mem) {k : Nat} (hk : k < 8) (v : Int32) : rPut M (gRf a 3) (nI k) v = mU M (a + 4) k v := h.wr (j := 1) (by decide) hk M v
theorem RD.a3 {M : Mem} {a : Nat} {E : Dk} (h : RD M a E) (hs : DkS a) {k : Nat} (hk : k < 8) : rAt M (gRf a 3) (nI k) = E 4 k := (hs.rd (j := 1) (by decide) hk M).trans (h 4 k (by unfold inD; omega))
theorem DkS.c3 {a : Nat} (h : DkS a) : gRf (gRf a 3) 0 = a + 4 := (congrArg (gRf · 0) (h 1 (by decide)).1).trans (h 1 (by decide)).2.1
theorem DkS.w4 {a : Nat} (h : DkS a) (M : Mem) {k : Nat} (hk : k < 8) (v : Int32) : rPut M (gRf a 4) (nI k) v = mU M (a + 6) k v := h.wr (j := 2) (by decide) hk M v
theorem RD.a4 {M : Mem} {a : Nat} {E : Dk} (h : RD M a E) (hs : DkS a) {k : Nat} (hk : k < 8) : rAt M (gRf a 4) (nI k) = E 6 k := (hs.rd (j := 2) (by decide) hk M).trans (h 6 k (by unfold inD; omega))
theorem DkS.c4 {a : Nat} (h : DkS a) : gRf (gRf a 4) 0 = a + 6 := (congrArg (gRf · 0) (h 2 (by decide)).1).trans (h 2 (by decide)).2.1
theorem DkS.w5 {a : Nat} (h : DkS a) (M : Mem) {k : Nat} (hk : k < 8) (v : Int32) : rPut M (gRf a 5) (nI k) v = mU M (a + 8) k v := h.wr (j := 3) (by decide) hk M v
theorem RD.a5 {M : Mem} {a : Nat} {E : Dk} (h : RD M a E) (hs : DkS a) {k : Nat} (hk : k < 8) : rAt M (gRf a 5) (nI k) = E 8 k := (hs.rd (j := 3) (by decide) hk M).trans (h 8 k (by unfold inD; omega))
theorem DkS.c5 {a : Nat} (h : DkS a) : gRf (gRf a 5) 0 = a + 8 := (congrArg (gRf · 0) (h 3 (by decide)).1).trans (h 3 (by decide)).2.1
theorem DkS.w6 {a : Nat} (h : DkS a) (M : Mem) {k : Nat} (hk : k < 8) (v : Int32) : rPut M (gRf a 6) (nI k) v = mU M (a + 10) k v := h.wr (j := 4) (by decide) hk M v
theorem RD.a6 {M : Mem} {a : Nat} {E : Dk} (h : RD M a E) (hs : DkS a) {k : Nat} (hk : k < 8) : rAt M (gRf a 6) (nI k) = E 10 k := (hs.rd (j := 4) (by decide) hk M).trans (h 10 k (by unfold inD; omega))
theorem DkS.c6 {a : Nat} (h : DkS a) : gRf (gRf a 6) 0 = a + 10 := (congrArg (gRf · 0) (h 4 (by decide)).1).trans (h 4 (by decide)).2.1
theorem DkS.w7 {a : Nat} (h : DkS a) (M : Mem) {k : Nat} (hk : k < 8) (v : Int32) : rPut M (gRf a 7) (nI k) v = mU M (a + 12) k v := h.wr (j := 5) (by decide) hk M v
theorem RD.a7 {M : Mem} {a : Nat} {E : Dk} (h : RD M a E) (hs : DkS a) {k : Nat} (hk : k < 8) : rAt M (gRf a 7) (nI k) = E 12 k := (hs.rd (j := 5) (by decide) hk M).trans (h 12 k (by unfold inD; omega))
theorem DkS.c7 {a : Nat} (h : DkS a) : gRf (gRf a 7) 0 = a + 12 := (congrArg (gRf · 0) (h 5 (by decide)).1).trans (h 5 (by decide)).2.1
theorem DkS.w8 {a : Nat} (h : DkS a) (M : Mem) {k : Nat} (hk : k < 8) (v : Int32) : rPut M (gRf a 8) (nI k) v = mU M (a + 14) k v := h.wr (j := 6) (by decide) hk M v
theorem RD.a8 {M : Mem} {a : Nat} {E : Dk} (h : RD M a E) (hs : DkS a) {k : Nat} (hk : k < 8) : rAt M (gRf a 8) (nI k) = E 14 k := (hs.rd (j := 6) (by decide) hk M).trans (h 14 k (by unfold inD; omega))
theorem DkS.c8 {a : Nat} (h : DkS a) : gRf (gRf a 8) 0 = a + 14 := (congrArg (gRf · 0) (h 6 (by decide)).1).trans (h 6 (by decide)).2.1
theorem DkS.w9 {a : Nat} (h : DkS a) (M : Mem) {k : Nat} (hk : k < 9) (v : Int32) : rPut M (gRf a 9) (nI k) v = mU M (a + 16) k v := h.wr (j := 7) (by decide) hk M v
theorem DkS.c9 {a : Nat} (h : DkS a) : gRf (gRf a 9) 0 = a + 16 := (congrArg (gRf · 0) (h 7 (by decide)).1).trans (h 7 (by decide)).2.1
theorem RD.n0 {M : Mem} {a : Nat} {E : Dk} (h : RD M a E) (hs : DkS a) : rAt M (gRf a 2) 0 = E 2 0 := h.a2 hs (k := 0) (by decide)
theorem DkS.v0 {a : Nat} (h : DkS a) (M : Mem) (v : Int32) : rPut M (gRf a 9) 0 v = mU M (a + 16) 0 v := h.w9 M (k := 0) (by decide) v
theorem RD.n1 {M : Mem} {a : Nat} {E : Dk} (h : RD M a E) (hs : DkS a) : rAt M (gRf a 2) 1 = E 2 1 := h.a2 hs (k := 1) (by decide)
theorem DkS.v1 {a : Nat} (h : DkS a) (M : Mem) (v : Int32) : rPut M (gRf a 9) 1 v = mU M (a + 16) 1 v := h.w9 M (k := 1) (by decide) v
theorem RD.n2 {M : Mem} {a : Nat} {E : Dk} (h : RD M a E) (hs : DkS a) : rAt M (gRf a 2) 2 = E 2 2 := h.a2 hs (k := 2) (by decide)
theorem DkS.v2 {a : Nat} (h : DkS a) (M : Mem) (v : Int32) : rPut M (gRf a 9) 2 v = mU M (a + 16) 2 v := h.w9 M (k := 2) (by decide) v
theorem RD.n3 {M : Mem} {a : Nat} {E : Dk} (h : RD M a E) (hs : DkS a) : rAt M (gRf a 2) 3 = E 2 3 := h.a2 hs (k := 3) (by decide)
theorem DkS.v3 {a : Nat} (h : DkS a) (M : Mem) (v : Int32) : rPut M (gRf a 9) 3 v = mU M (a + 16) 3 v := h.w9 M (k := 3) (by decide) v
theorem RD.n4 {M : Mem} {a : Nat} {E : Dk} (h : RD M a E) (hs : DkS a) : rAt M (gRf a 2) 4 = E 2 4 := h.a2 hs (k := 4) (by decide)
theorem DkS.v4 {a : Nat} (h : DkS a) (M : Mem) (v : Int32) : rPut M (gRf a 9) 4 v = mU M (a + 16) 4 v := h.w9 M (k := 4) (by decide) v
theorem RD.n5 {M : Mem} {a : Nat} {E : Dk} (h : RD M a E) (hs : DkS a) : rAt M (gRf a 2) 5 = E 2 5 := h.a2 hs (k := 5) (by decide)
theorem DkS.v5 {a : Nat} (h : DkS a) (M : Mem) (v : Int32) : rPut M (gRf a 9) 5 v = mU M (a + 16) 5 v := h.w9 M (k := 5) (by decide) v
theorem RD.n6 {M : Mem} {a : Nat} {E : Dk} (h : RD M a E) (hs : DkS a) : rAt M (gRf a 2) 6 = E 2 6 := h.a2 hs (k := 6) (by decide)
theorem DkS.v6 {a : Nat} (h : DkS a) (M : Mem) (v : Int32) : rPut M (gRf a 9) 6 v = mU M (a + 16) 6 v := h.w9 M (k := 6) (by decide) v
theorem RD.n7 {M : Mem} {a : Nat} {E : Dk} (h : RD M a E) (hs : DkS a) : rAt M (gRf a 2) 7 = E 2 7 := h.a2 hs (k := 7) (by decide)
theorem DkS.v7 {a : Nat} (h : DkS a) (M : Mem) (v : Int32) : rPut M (gRf a 9) 7 v = mU M (a + 16) 7 v := h.w9 M (k := 7) (by decide) v
theorem RD.n8 {M : Mem} {a : Nat} {E : Dk} (h : RD M a E) (hs : DkS a) : rAt M (gRf a 2) 8 = E 2 8 := h.a2 hs (k := 8) (by decide)
theorem DkS.v8 {a : Nat} (h : DkS a) (M : Mem) (v : Int32) : rPut M (gRf a 9) 8 v = mU M (a + 16) 8 v := h.w9 M (k := 8) (by decide) v
theorem RD.n9 {M : Mem} {a : Nat} {E : Dk} (h : RD M a E) (hs : DkS a) : rAt M (gRf a 2) 9 = E 2 9 := h.a2 hs (k := 9) (by decide)
/-! What a deck does. -/
def sAbs (x : Int32) : Int32 := if 0 ≤ x then x else 0 - x
def sReach (x : Int32) : Int32 := if x ≤ 1000000 then (if (-1000000) ≤ x then x else (-1000000)) else 1000000
def sBef (D : Dk) (o i : Nat) : Int32 := if i = 0 then 0 else if D 14 (i - 1) = 1 then D o i else D o (i - 1)
def sBeh (D : Dk) (n o i : Nat) : Int32 := if i + 1 = n then 0 else if D 14 i = 1 then D o i else D o (i + 1)
def sPull (D : Dk) (n o i : Nat) (stiff back : Int32) : Int32 := (stiff * ((sBef D o i + sBeh D n o i) - (2 * D o i))) - (back * D o i)
def sFast (D : Dk) (v pull push : Int32) : Int32 := sReach ((v + (((pull / 10) + push) / (if 1 < D 2 0 then D 2 0 else 1))) - ((D 2 4 * v) / 100))
def sNm (D : Dk) (w : Int32) (i : Nat) : Nat → Int32
  | 0 => w
  | 1 => D 0 1
  | 2 => D 4 i
  | 3 => D 6 i
  | 4 => D 8 i
  | 5 => D 10 i
  | 6 => D 2 5
  | 7 => D 2 6
  | _ => nI i
theorem r_reach (M : Mem) (x : Int32) : f_X1_reach M x = some (sReach x, M) := by
  unfold f_X1_reach sReach
  split
  · split <;> rfl
  · rfl
theorem mx1 (m : Int32) : ¬ (if 1 < m then m else 1) = 0 := by
  split
  · rename_i h
    intro e
    rw [e] at h
    revert h
    decide
  · decide
section DECK
variable {M : Mem} {a : Nat} {E : Dk}
theorem r_faster (hs : DkS a) (h : RD M a E) (v p l : Int32) : f_X1_faster M a v p l = some (sFast E v p l, M) := by
  unfold f_X1_faster sFast
  simp only [q_at, Option.bind_some, h.n0 hs, h.n4 hs, if_neg (mx1 _), r_reach]
theorem r_pull (hs : DkS a) (h : RD M a E) {n k : Nat} (hn : E 0 0 = nI n) (hk : k < n) (hn8 : n ≤ 8) {r o : Nat} (hr : (r = gRf a 3 ∧ o = 4) ∨ (r = gRf a 4 ∧ o = 6)) (st bk : Int32) : f_X1_pullOf M a r (nI k) st bk = some (sPull E n o k st bk, M) := by
  have ht : ∀ j, j < 8 → rAt M r (nI j) = E o j := fun j hj => by
    rcases hr with ⟨rfl, rfl⟩ | ⟨rfl, rfl⟩
    · exact h.a3 hs hj
    · exact h.a4 hs hj
  have e1 : nI k + 1 = nI (k + 1) := nI_1 k
  have hb : ∀ s x, f_X1_pullOf_b41 a r (nI k) st bk s x M = some ((st * ((s + (if k + 1 = n then 0 else if E 14 k = 1 then x else E o (k + 1))) - (2 * x))) - (bk * x), M) := by
    intro s x
    unfold f_X1_pullOf_b41
    rw [h.p, hn, i_prd (by omega)]
    by_cases hl : k + 1 = n
    · rw [if_pos (by rw [← hl]; rfl), if_pos hl]; rfl
    · rw [if_neg (fun z => hl (by have := (i_eq (by omega) (by omega)).mp z; omega)), if_neg hl, q_at, Option.bind_some, h.a8 hs (by omega)]
      show (if E 14 k = 1 then _ else _) = _
      by_cases hl2 : E 14 k = 1
      · rw [if_pos hl2, if_pos hl2]; rfl
      · rw [if_neg hl2, if_neg hl2, q_at, Option.bind_some, e1, ht (k + 1) (by omega)]; rfl
  unfold f_X1_pullOf sPull sBef sBeh
  rw [q_at, Option.bind_some, ht k (by omega)]
  show (if nI k = 0 then _ else _) = _
  by_cases h0 : k = 0
  · subst h0
    rw [if_pos nI_0, hb, if_pos rfl]
  · rw [if_neg (nI_ne0 (by omega) (by omega)), i_prd (by omega), q_at, Option.bind_some, h.a8 hs (by omega), if_neg h0]
    show (if E 14 (k - 1) = 1 then _ else _) = _
    by_cases hl2 : E 14 (k - 1) = 1
    · rw [if_pos hl2, if_pos hl2, hb]
    · rw [if_neg hl2, if_neg hl2, q_at, Option.bind_some, ht (k - 1) (by omega)]
      show f_X1_pullOf_b41 a r (nI k) st bk _ _ M = _
      rw [hb]
theorem r_names (hs : DkS a) (h : RD M a E) {k : Nat} (hk : k < 8) (w : Int32) : f_X1_namesOf M a (nI k) w = some (gRf a 9, mSet M (a + 16) 9 (sNm E w k)) := by
  have hne : ∀ (M' : Mem) (j : Nat) (v : Int32), RD M' a E → RD (mU M' (a + 16) j v) a E := fun M' j v h' => h'.fr (fun b h1 h2 => u_ne (by omega))
  have g1 := hne _ 0 w h
  have g2 := hne _ 1 (E 0 1) g1
  have g3 := hne _ 2 (E 4 k) g2
  have g4 := hne _ 3 (E 6 k) g3
  have g5 := hne _ 4 (E 8 k) g4
  have g6 := hne _ 5 (E 10 k) g5
  have g7 := hne _ 6 (E 2 5) g6
  unfold f_X1_namesOf
  simp only [q_at, q_put, Option.bind_some, hs.v0, hs.v1, hs.v2, hs.v3, hs.v4, hs.v5, hs.v6, hs.v7, hs.v8, g1.t, g2.a3 hs hk, g3.a4 hs hk, g4.a5 hs hk, g5.a6 hs hk, g6.n5 hs, g7.n6 hs]
  refine congrArg (fun x => some (gRf a 9, x)) ?_
  funext b j
  simp only [mU_at, mSet_at]
  by_cases hb : b = a + 16
  · subst hb
    match j with
    | 0 => simp [sNm]
    | 1 => simp [sNm]
    | 2 => simp [sNm]
    | 3 => simp [sNm]
    | 4 => simp [sNm]
    | 5 => simp [sNm]
    | 6 => simp [sNm]
    | 7 => simp [sNm]
    | 8 => simp [sNm]
    | j + 9 =>
      simp
      intro z
      omega
  · simp [hb]
end DECK
