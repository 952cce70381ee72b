/-! Laws: what both sides keep of a text, as one list of numbers: what it tells, and of which kind its stack is. -/
def cT (c : Nat) (ts : List Bool) : Option (List Bool) :=
  if c < 10009 then (if ts.length < 100 then some (false :: ts) else none)
  else if c = 10026 then (match ts with | false :: r => some (false :: r) | _ => none)
  else if c = 10033 then (match ts with | true :: r => some (true :: r) | _ => none)
  else if c = 10034 ∨ c = 10035 then (match ts with | true :: true :: r => some (true :: r) | _ => none)
  else if c = 10030 ∨ c = 10031 ∨ c = 10032 then (match ts with | false :: false :: r => some (true :: r) | _ => none)
  else if c = 10020 ∨ c = 10021 ∨ c = 10022 ∨ c = 10023 ∨ c = 10024 ∨ c = 10025 then (match ts with | false :: false :: r => some (false :: r) | _ => none)
  else if c = 10040 ∨ c = 10041 then (match ts with | [false] => some [] | _ => none)
  else if c = 10042 ∨ c = 10043 then (match ts with | [true, false] => some [] | _ => none)
  else none
def cTs : List Nat → List Bool → Option (List Bool)
  | [], ts => some ts
  | c :: A, ts => (cT c ts).bind (cTs A)
theorem cTs_app (A B : List Nat) (ts : List Bool) : cTs (A ++ B) ts = (cTs A ts).bind (cTs B) := by
  induction A generalizing ts with
  | nil => rfl
  | cons c A ih =>
    show (cT c ts).bind (cTs (A ++ B)) = ((cT c ts).bind (cTs A)).bind (cTs B)
    cases cT c ts with
    | none => rfl
    | some x => exact ih x
def op2 (c : Nat) (a b : Int32) : Int32 :=
  if c = 10020 then a + b else if c = 10021 then a - b else if c = 10022 then a * b else if c = 10023 then (if b = 0 then 0 else a / b)
  else if c = 10024 then (if b < a then b else a) else if c = 10025 then (if a < b then b else a)
  else if c = 10030 then (if b ≤ a then 0 else 1) else if c = 10031 then (if a ≤ b then 0 else 1) else if c = 10032 then (if a = b then 1 else 0)
  else if c = 10034 then a &&& b else a ||| b
def sSgn (x : Int32) : Int32 := if x ≤ 0 then (if 0 ≤ x then 0 else (-1)) else 1
def cV (nm : Nat → Int32) (c : Nat) (s : List Int32 × Int32 × Int32) : List Int32 × Int32 × Int32 :=
  if c < 10000 then (nI c :: s.1, s.2.1, s.2.2)
  else if c < 10009 then (nm (c - 10000) :: s.1, s.2.1, s.2.2)
  else if c = 10026 then (sSgn (s.1.headD 0) :: s.1.tail, s.2.1, s.2.2)
  else if c = 10033 then ((1 - s.1.headD 0) :: s.1.tail, s.2.1, s.2.2)
  else if c = 10040 then ([], s.2.1 + s.1.headD 0, s.2.2)
  else if c = 10041 then ([], s.2.1, s.2.2 + s.1.headD 0)
  else if c = 10042 then ([], s.2.1 + (if s.1.headD 0 = 0 then 0 else s.1.tail.headD 0), s.2.2)
  else if c = 10043 then ([], s.2.1, s.2.2 + (if s.1.headD 0 = 0 then 0 else s.1.tail.headD 0))
  else (op2 c (s.1.tail.headD 0) (s.1.headD 0) :: s.1.tail.tail, s.2.1, s.2.2)
def cVs (nm : Nat → Int32) : List Nat → List Int32 × Int32 × Int32 → List Int32 × Int32 × Int32
  | [], s => s
  | c :: A, s => cVs nm A (cV nm c s)
def sBd (x : Int32) : Int32 := if (-100000) < (if x < 100000 then x else 100000) then (if x < 100000 then x else 100000) else (-100000)
def sAsk (A : List Nat) (nm : Nat → Int32) : Int32 × Int32 := (sBd (cVs nm A ([], 0, 0)).2.1, sBd (cVs nm A ([], 0, 0)).2.2)
/-- the kinds of what lies on a stack: true, a condition (0 or 1) -/
def TS : List Int32 → List Bool → Prop
  | [], [] => True
  | x :: st, t :: ts => (t = true → x = 0 ∨ x = 1) ∧ TS st ts
  | _, _ => False
theorem TS.len {st : List Int32} {ts : List Bool} (h : TS st ts) : st.length = ts.length := by
  induction st generalizing ts with
  | nil => cases ts with
    | nil => rfl
    | cons t ts => exact h.elim
  | cons x st ih => cases ts with
    | nil => exact h.elim
    | cons t ts => exact congrArg (· + 1) (ih h.2)
theorem TS.un {st : List Int32} {t : Bool} {ts : List Bool} (h : TS st (t :: ts)) : ∃ x r, st = x :: r ∧ (t = true → x = 0 ∨ x = 1) ∧ TS r ts := by
  cases st with
  | nil => exact h.elim
  | cons x r => exact ⟨x, r, rfl, h.1, h.2⟩
theorem TS.nil {st : List Int32} (h : TS st []) : st = [] := by
  cases st with
  | nil => rfl
  | cons x r => exact h.elim
/-- the words of a code -/
def bn1 (c : Nat) : Prop := c = 10020 ∨ c = 10021 ∨ c = 10022 ∨ c = 10023 ∨ c = 10024 ∨ c = 10025
def bn2 (c : Nat) : Prop := c = 10030 ∨ c = 10031 ∨ c = 10032
def bn3 (c : Nat) : Prop := c = 10034 ∨ c = 10035
theorem cT_cases {c : Nat} {ts ts' : List Bool} (h : cT c ts = some ts') :
    (c < 10009 ∧ ts.length < 100 ∧ ts' = false :: ts) ∨ (c = 10026 ∧ ∃ r, ts = false :: r ∧ ts' = false :: r) ∨ (c = 10033 ∧ ∃ r, ts = true :: r ∧ ts' = true :: r) ∨
    (∃ r t u, ts = t :: t :: r ∧ ts' = u :: r ∧ ((bn1 c ∧ u = false) ∨ (bn2 c) ∨ (bn3 c ∧ t = true))) ∨
    ((c = 10040 ∨ c = 10041) ∧ ts = [false] ∧ ts' = []) ∨ ((c = 10042 ∨ c = 10043) ∧ ts = [true, false] ∧ ts' = []) := by
  unfold cT at h
  by_cases h1 : c < 10009
  · rw [if_pos h1] at h
    by_cases h2 : ts.length < 100
    · rw [if_pos h2] at h; cases h; exact Or.inl ⟨h1, h2, rfl⟩
    · rw [if_neg h2] at h; cases h
  rw [if_neg h1] at h
  by_cases h1 : c = 10026
  · rw [if_pos h1] at h
    split at h
    · cases h; exact Or.inr (Or.inl ⟨h1, _, rfl, rfl⟩)
    · cases h
  rw [if_neg h1] at h
  by_cases h1 : c = 10033
  · rw [if_pos h1] at h
    split at h
    · cases h; exact Or.inr (Or.inr (Or.inl ⟨h1, _, rfl, rfl⟩))
    · cases h
  rw [if_neg h1] at h
  by_cases h1 : c = 10034 ∨ c = 10035
  · rw [if_pos h1] at h
    split at h
    · cases h; exact Or.inr (Or.inr (Or.inr (Or.inl ⟨_, _, _, rfl, rfl, Or.inr (Or.inr ⟨h1, rfl⟩)⟩)))
    · cases h
  rw [if_neg h1] at h
  by_cases h1 : c = 10030 ∨ c = 10031 ∨ c = 10032
  · rw [if_pos h1] at h
    split at h
    · cases h; exact Or.inr (Or.inr (Or.inr (Or.inl ⟨_, _, _, rfl, rfl, Or.inr (Or.inl h1)⟩)))
    · cases h
  rw [if_neg h1] at h
  by_cases h1 : c = 10020 ∨ c = 10021 ∨ c = 10022 ∨ c = 10023 ∨ c = 10024 ∨ c = 10025
  · rw [if_pos h1] at h
    split at h
    · cases h; exact Or.inr (Or.inr (Or.inr (Or.inl ⟨_, _, _, rfl, rfl, Or.inl ⟨h1, rfl⟩⟩)))
    · cases h
  rw [if_neg h1] at h
  by_cases h1 : c = 10040 ∨ c = 10041
  · rw [if_pos h1] at h
    split at h
    · cases h; exact Or.inr (Or.inr (Or.inr (Or.inr (Or.inl ⟨h1, rfl, rfl⟩))))
    · cases h
  rw [if_neg h1] at h
  by_cases h1 : c = 10042 ∨ c = 10043
  · rw [if_pos h1] at h
    split at h
    · cases h; exact Or.inr (Or.inr (Or.inr (Or.inr (Or.inr ⟨h1, rfl, rfl⟩))))
    · cases h
  rw [if_neg h1] at h
  cases h
theorem cT_len {c : Nat} {ts ts' : List Bool} (h : cT c ts = some ts') (hl : ts.length ≤ 100) : ts'.length ≤ 100 := by
  rcases cT_cases h with ⟨_, h2, rfl⟩ | ⟨_, r, rfl, rfl⟩ | ⟨_, r, rfl, rfl⟩ | ⟨r, t, u, rfl, rfl, _⟩ | ⟨_, rfl, rfl⟩ | ⟨_, rfl, rfl⟩
  all_goals simp at *
  all_goals omega
theorem cV_num {nm : Nat → Int32} {c : Nat} {st : List Int32} {l w : Int32} (h : c < 10000) : cV nm c (st, l, w) = (nI c :: st, l, w) := if_pos h
theorem cV_nam {nm : Nat → Int32} {c : Nat} {st : List Int32} {l w : Int32} (h : ¬ c < 10000) (h2 : c < 10009) : cV nm c (st, l, w) = (nm (c - 10000) :: st, l, w) := by
  unfold cV
  rw [if_neg h, if_pos h2]
theorem cV_sgn {nm : Nat → Int32} {x : Int32} {st : List Int32} {l w : Int32} : cV nm 10026 (x :: st, l, w) = (sSgn x :: st, l, w) := rfl
theorem cV_not {nm : Nat → Int32} {x : Int32} {st : List Int32} {l w : Int32} : cV nm 10033 (x :: st, l, w) = ((1 - x) :: st, l, w) := rfl
theorem cV_two {nm : Nat → Int32} {c : Nat} {x y : Int32} {st : List Int32} {l w : Int32} (h : bn1 c ∨ bn2 c ∨ bn3 c) : cV nm c (y :: x :: st, l, w) = (op2 c x y :: st, l, w) := by
  unfold bn1 bn2 bn3 at h
  unfold cV
  rw [if_neg (by omega), if_neg (by omega), if_neg (by omega), if_neg (by omega), if_neg (by omega), if_neg (by omega), if_neg (by omega), if_neg (by omega)]
  rfl
theorem i01_not {x : Int32} (h : x = 0 ∨ x = 1) : 1 - x = 0 ∨ 1 - x = 1 := by
  rcases h with rfl | rfl
  · exact Or.inr rfl
  · exact Or.inl rfl
theorem op2_b2 {c : Nat} {x y : Int32} (h : bn2 c) : op2 c x y = 0 ∨ op2 c x y = 1 := by
  unfold bn2 at h
  rcases h with rfl | rfl | rfl
  · show (if y ≤ x then (0 : Int32) else 1) = 0 ∨ (if y ≤ x then (0 : Int32) else 1) = 1
    split
    · exact Or.inl rfl
    · exact Or.inr rfl
  · show (if x ≤ y then (0 : Int32) else 1) = 0 ∨ (if x ≤ y then (0 : Int32) else 1) = 1
    split
    · exact Or.inl rfl
    · exact Or.inr rfl
  · show (if x = y then (1 : Int32) else 0) = 0 ∨ (if x = y then (1 : Int32) else 0) = 1
    split
    · exact Or.inr rfl
    · exact Or.inl rfl
theorem op2_b3 {c : Nat} {x y : Int32} (h : bn3 c) (hx : x = 0 ∨ x = 1) (hy : y = 0 ∨ y = 1) : op2 c x y = 0 ∨ op2 c x y = 1 := by
  unfold bn3 at h
  rcases h with rfl | rfl <;> rcases hx with rfl | rfl <;> rcases hy with rfl | rfl <;> decide
theorem cV_TS {nm : Nat → Int32} {c : Nat} {st : List Int32} {l w : Int32} {ts ts' : List Bool} (h : TS st ts) (hc : cT c ts = some ts') : TS (cV nm c (st, l, w)).1 ts' := by
  rcases cT_cases hc with ⟨h1, h2, rfl⟩ | ⟨rfl, r, rfl, rfl⟩ | ⟨rfl, r, rfl, rfl⟩ | ⟨r, t, u, rfl, rfl, h3⟩ | ⟨h1, rfl, rfl⟩ | ⟨h1, rfl, rfl⟩
  · by_cases hn : c < 10000
    · rw [cV_num hn]; exact ⟨fun z => (by cases z), h⟩
    · rw [cV_nam hn h1]; exact ⟨fun z => (by cases z), h⟩
  · obtain ⟨x, q, rfl, _, hq⟩ := h.un
    exact ⟨fun z => (by cases z), hq⟩
  · obtain ⟨x, q, rfl, hx, hq⟩ := h.un
    exact ⟨fun _ => i01_not (hx rfl), hq⟩
  · obtain ⟨y, q, rfl, hy, hq⟩ := h.un
    obtain ⟨x, q, rfl, hx, hq⟩ := hq.un
    rw [cV_two (by rcases h3 with h | h | h; exact Or.inl h.1; exact Or.inr (Or.inl h); exact Or.inr (Or.inr h.1))]
    refine ⟨fun z => ?_, hq⟩
    rcases h3 with h | h | h
    · rw [h.2] at z; cases z
    · exact op2_b2 h
    · exact op2_b3 h.1 (hx h.2) (hy h.2)
  · rcases h1 with rfl | rfl <;> exact trivial
  · rcases h1 with rfl | rfl <;> exact trivial
/-- a stack as it lies in a row, its bottom at 0 -/
def SR (f : Nat → Int32) : List Int32 → Prop
  | [] => True
  | x :: r => f r.length = x ∧ SR f r
theorem SR.ups {f : Nat → Int32} {st : List Int32} {k : Nat} {v : Int32} (h : SR f st) (hk : st.length ≤ k) : SR (upd f k v) st := by
  induction st with
  | nil => trivial
  | cons x r ih =>
    have hk2 : r.length + 1 ≤ k := hk
    refine ⟨?_, ih h.2 (by omega)⟩
    unfold upd
    rw [if_neg (by omega)]
    exact h.1
theorem SR.push {f : Nat → Int32} {st : List Int32} {v : Int32} (h : SR f st) : SR (upd f st.length v) (v :: st) := ⟨if_pos rfl, h.ups (Nat.le_refl _)⟩
/-! The class's law at cell c. -/
def cX (c : Nat) : List Int32 :=
  if c < 10000 then [nI (c + 1000)] else if c < 10009 then [nI (c - 10000 + 300)]
  else if c = 10020 then [43] else if c = 10021 then [45] else if c = 10022 then [42] else if c = 10023 then [47]
  else if c = 10024 then [315] else if c = 10025 then [316] else if c = 10026 then [317]
  else if c = 10030 then [60] else if c = 10031 then [62] else if c = 10032 then [61]
  else if c = 10033 then [314] else if c = 10034 then [313] else if c = 10035 then [312]
  else if c = 10040 then [309] else if c = 10041 then [310] else if c = 10042 then [311, 309] else if c = 10043 then [311, 310] else []
def cXs (A : List Nat) : List Int32 := A.flatMap cX
def RLw (M : Mem) (c : Nat) (A : List Nat) : Prop := M c 4 = nI (cXs A).length ∧ (cXs A).length ≤ 300 ∧ ∀ k v, (cXs A)[k]? = some v → M (c + 2) k = v
def LwS (c : Nat) : Prop := (gRf c 2 = c + 1 ∧ gRf (c + 1) 0 = c + 2 ∧ gN (c + 2) = 300) ∧ (gRf c 3 = c + 3 ∧ gRf (c + 3) 0 = c + 4 ∧ gN (c + 4) = 300)
theorem lw_92 : LwS 92 := by unfold LwS; decide +kernel
theorem lw_97 : LwS 97 := by unfold LwS; decide +kernel
theorem lw_102 : LwS 102 := by unfold LwS; decide +kernel
theorem lw_107 : LwS 107 := by unfold LwS; decide +kernel
theorem RLw.fr {M M' : Mem} {c : Nat} {A : List Nat} (h : RLw M c A) (h4 : M' c 4 = M c 4) (h2 : M' (c + 2) = M (c + 2)) : RLw M' c A := ⟨h4.trans h.1, h.2.1, fun k v hk => by rw [h2]; exact h.2.2 k v hk⟩
theorem LwS.s {c : Nat} (h : LwS c) (M : Mem) {k : Nat} (hk : k < 300) : rAt M (gRf c 2) (nI k) = M (c + 2) k := by
  obtain ⟨⟨h1, h2, h3⟩, _⟩ := h
  rw [rAt_nI (by rw [h1, h2, h3]; exact hk) (by rw [h1, h2, h3]; omega), h1, h2]
theorem LwS.t {c : Nat} (h : LwS c) (M : Mem) {k : Nat} (hk : k < 300) : rAt M (gRf c 3) (nI k) = M (c + 4) k := by
  obtain ⟨_, h1, h2, h3⟩ := h
  rw [rAt_nI (by rw [h1, h2, h3]; exact hk) (by rw [h1, h2, h3]; omega), h1, h2]
theorem LwS.w {c : Nat} (h : LwS c) (M : Mem) {k : Nat} (hk : k < 300) (v : Int32) : rPut M (gRf c 3) (nI k) v = mU M (c + 4) k v := by
  obtain ⟨_, h1, h2, h3⟩ := h
  rw [rPut_nI (by rw [h1, h2, h3]; exact hk) (by rw [h1, h2, h3]; omega), h1, h2]
theorem m1 (x : Int32) : x + (-1) = x - 1 := (Int32.sub_eq_add_neg x 1).symm
theorem r_ofTwo {c : Nat} (h : bn1 c ∨ bn2 c ∨ bn3 c) : ∃ v : Int32, cX c = [v] ∧ v < 1000 ∧ (v < 300 ∨ 309 ≤ v) ∧ v ≠ 309 ∧ v ≠ 310 ∧ v ≠ 314 ∧ v ≠ 317 ∧ ∀ (M : Mem) (x y : Int32), f_X3_ofTwo M v x y = some (op2 c x y, M) := by
  unfold bn1 bn2 bn3 at h
  rcases h with (rfl | rfl | rfl | rfl | rfl | rfl) | (rfl | rfl | rfl) | (rfl | rfl)
  · exact ⟨43, rfl, by decide, by decide, by decide, by decide, by decide, by decide, fun M x y => rfl⟩
  · exact ⟨45, rfl, by decide, by decide, by decide, by decide, by decide, by decide, fun M x y => rfl⟩
  · exact ⟨42, rfl, by decide, by decide, by decide, by decide, by decide, by decide, fun M x y => rfl⟩
  · refine ⟨47, rfl, by decide, by decide, by decide, by decide, by decide, by decide, fun M x y => ?_⟩
    show (if y = 0 then some ((0 : Int32), M) else (if y = 0 then none else some (x / y, M))) = some ((if y = 0 then 0 else x / y), M)
    by_cases hy : y = 0
    · rw [if_pos hy, if_pos hy]
    · rw [if_neg hy, if_neg hy, if_neg hy]
  · exact ⟨315, rfl, by decide, by decide, by decide, by decide, by decide, by decide, fun M x y => rfl⟩
  · exact ⟨316, rfl, by decide, by decide, by decide, by decide, by decide, by decide, fun M x y => rfl⟩
  · refine ⟨60, rfl, by decide, by decide, by decide, by decide, by decide, by decide, fun M x y => ?_⟩
    show (if y ≤ x then some ((0 : Int32), M) else some (1, M)) = some ((if y ≤ x then 0 else 1), M)
    split <;> rfl
  · refine ⟨62, rfl, by decide, by decide, by decide, by decide, by decide, by decide, fun M x y => ?_⟩
    show (if x ≤ y then some ((0 : Int32), M) else some (1, M)) = some ((if x ≤ y then 0 else 1), M)
    split <;> rfl
  · refine ⟨61, rfl, by decide, by decide, by decide, by decide, by decide, by decide, fun M x y => ?_⟩
    show (if x = y then some ((1 : Int32), M) else some (0, M)) = some ((if x = y then 1 else 0), M)
    split <;> rfl
  · exact ⟨313, rfl, by decide, by decide, by decide, by decide, by decide, by decide, fun M x y => rfl⟩
  · exact ⟨312, rfl, by decide, by decide, by decide, by decide, by decide, by decide, fun M x y => rfl⟩
theorem i_sub (a b : Nat) : nI (a + b) - nI b = nI a := by
  rw [← nI_add, Int32.add_sub_cancel]
theorem cX_at {P A : List Nat} {op : Nat} {v : Int32} {vs : List Int32} (h : cX op = v :: vs) : (cXs (P ++ op :: A))[(cXs P).length]? = some v := by
  unfold cXs
  rw [List.flatMap_append, List.flatMap_cons, h, List.getElem?_append_right (Nat.le_refl _), Nat.sub_self]
  rfl
theorem cX_at2 {P A : List Nat} {op : Nat} {v v2 : Int32} {vs : List Int32} (h : cX op = v :: v2 :: vs) : (cXs (P ++ op :: A))[(cXs P).length + 1]? = some v2 := by
  unfold cXs
  rw [List.flatMap_append, List.flatMap_cons, h, List.getElem?_append_right (Nat.le_add_right _ _), Nat.add_sub_cancel_left]
  rfl
theorem cX_len (P A : List Nat) (op : Nat) : (cXs (P ++ op :: A)).length = (cXs P).length + (cX op).length + (cXs A).length := by
  unfold cXs
  rw [List.flatMap_append, List.flatMap_cons, List.length_append, List.length_append, Nat.add_assoc]
theorem cX_snoc (P : List Nat) (op : Nat) : (cXs (P ++ [op])).length = (cXs P).length + (cX op).length := cX_len P [] op
section WORK
variable {c r q : Nat} {M M0 : Mem} {A0 : List Nat} {nm : Nat → Int32}
theorem w_pre (hL : LwS c) {n k N : Nat} {l w x v : Int32} (h4 : M c 4 = nI N) (hk : k < N) (hN : N ≤ 300) (hv : M (c + 2) k = v) : f_X3_work_h10 c r (n + 1) l w x (nI k) M = if v < 1000 then (if v < 300 then (f_X3_work_b121 c r (f_X3_work_h10 c r n) l w x (nI k) v (rAt M (gRf c 3) (x - 1)) M) else (if 309 ≤ v then (f_X3_work_b121 c r (f_X3_work_h10 c r n) l w x (nI k) v (rAt M (gRf c 3) (x - 1)) M) else f_X3_work_h10 c r n l w (x + 1) (nI (k + 1)) (rPut M (gRf c 3) x (rAt M r (v - 300))))) else f_X3_work_h10 c r n l w (x + 1) (nI (k + 1)) (rPut M (gRf c 3) x (v - 1000)) := by
  have h3 : ¬ (300 : Int32) ≤ nI k := i_nle (b := 300) (by omega) (by decide)
  rw [f_X3_work_h10, h4, if_neg (i_nle hk (by omega)), if_neg h3]
  simp only [q_at, q_put, Option.bind_some, hL.s M (k := k) (by omega), hv, f_X3_work_b258, nI_1]
theorem w_two (hL : LwS c) {n k N t op : Nat} {l w : Int32} (ho : bn1 op ∨ bn2 op ∨ bn3 op) (h4 : M c 4 = nI N) (hk : k < N) (hN : N ≤ 300) (hv : [M (c + 2) k] = cX op) (ht : t < 200) : f_X3_work_h10 c r (n + 1) l w (nI (t + 2)) (nI k) M = f_X3_work_h10 c r n l w (nI (t + 1)) (nI (k + 1)) (mU M (c + 4) t (op2 op (M (c + 4) t) (M (c + 4) (t + 1)))) := by
  obtain ⟨v, e, h1, h2, h3, h5, h6, h7, h8⟩ := r_ofTwo ho
  rw [e] at hv
  have hv : M (c + 2) k = v := (List.cons.inj hv).1
  have hb : f_X3_work_b121 c r (f_X3_work_h10 c r n) l w (nI (t + 2)) (nI k) v (rAt M (gRf c 3) (nI (t + 2) - 1)) M = f_X3_work_h10 c r n l w (nI (t + 1)) (nI (k + 1)) (mU M (c + 4) t (op2 op (M (c + 4) t) (M (c + 4) (t + 1)))) := by
    unfold f_X3_work_b121
    rw [if_neg h3, if_neg h5, if_neg h6, if_neg h7, m1, nI_pred, nI_pred, hL.t M (k := t + 1) (by omega)]
    simp only [q_at, q_put, Option.bind_some, h8, hL.t M (k := t) (by omega), hL.w M (k := t) (by omega), f_X3_work_b258, nI_1]
  rw [w_pre hL h4 hk hN hv, if_pos h1, hb]
  rcases h2 with h2 | h2
  · rw [if_pos h2]
  · rw [if_pos h2]
    split <;> rfl
/-- a step that ends a clause, or changes the top -/
theorem w_b121 (hL : LwS c) {n k N : Nat} {l w x v : Int32} (h4 : M c 4 = nI N) (hk : k < N) (hN : N ≤ 300) (hv : M (c + 2) k = v) (h1 : v < 1000) (h2 : 309 ≤ v) : f_X3_work_h10 c r (n + 1) l w x (nI k) M = f_X3_work_b121 c r (f_X3_work_h10 c r n) l w x (nI k) v (rAt M (gRf c 3) (x - 1)) M := by
  rw [w_pre hL h4 hk hN hv, if_pos h1, if_pos h2]
  split <;> rfl
theorem w_lift (hL : LwS c) {n k N t : Nat} {l w : Int32} (h4 : M c 4 = nI N) (hk : k < N) (hN : N ≤ 300) (hv : M (c + 2) k = 309) (ht : t < 200) : f_X3_work_h10 c r (n + 1) l w (nI (t + 1)) (nI k) M = f_X3_work_h10 c r n (l + M (c + 4) t) w 0 (nI (k + 1)) M := by
  rw [w_b121 hL h4 hk hN hv (by decide) (by decide), nI_pred, hL.t M (k := t) (by omega)]
  unfold f_X3_work_b121 f_X3_work_b258
  rw [if_pos rfl, nI_1]
theorem w_twist (hL : LwS c) {n k N t : Nat} {l w : Int32} (h4 : M c 4 = nI N) (hk : k < N) (hN : N ≤ 300) (hv : M (c + 2) k = 310) (ht : t < 200) : f_X3_work_h10 c r (n + 1) l w (nI (t + 1)) (nI k) M = f_X3_work_h10 c r n l (w + M (c + 4) t) 0 (nI (k + 1)) M := by
  rw [w_b121 hL h4 hk hN hv (by decide) (by decide), nI_pred, hL.t M (k := t) (by omega)]
  unfold f_X3_work_b121 f_X3_work_b258
  rw [if_neg (by decide), if_pos rfl, nI_1]
theorem w_not (hL : LwS c) {n k N t : Nat} {l w : Int32} (h4 : M c 4 = nI N) (hk : k < N) (hN : N ≤ 300) (hv : M (c + 2) k = 314) (ht : t < 200) : f_X3_work_h10 c r (n + 1) l w (nI (t + 1)) (nI k) M = f_X3_work_h10 c r n l w (nI (t + 1)) (nI (k + 1)) (mU M (c + 4) t (1 - M (c + 4) t)) := by
  rw [w_b121 hL h4 hk hN hv (by decide) (by decide), nI_pred, hL.t M (k := t) (by omega)]
  unfold f_X3_work_b121
  rw [if_neg (by decide), if_neg (by decide), if_pos rfl, nI_pred, q_put, Option.bind_some, hL.w M (k := t) (by omega)]
  simp only [f_X3_work_b258, nI_1]
theorem w_sign (hL : LwS c) {n k N t : Nat} {l w : Int32} (h4 : M c 4 = nI N) (hk : k < N) (hN : N ≤ 300) (hv : M (c + 2) k = 317) (ht : t < 200) : f_X3_work_h10 c r (n + 1) l w (nI (t + 1)) (nI k) M = f_X3_work_h10 c r n l w (nI (t + 1)) (nI (k + 1)) (mU M (c + 4) t (sSgn (M (c + 4) t))) := by
  rw [w_b121 hL h4 hk hN hv (by decide) (by decide), nI_pred, hL.t M (k := t) (by omega)]
  unfold f_X3_work_b121 f_X3_work_b220 sSgn
  rw [if_neg (by decide), if_neg (by decide), if_neg (by decide), if_pos rfl, nI_pred]
  simp only [q_put, Option.bind_some, hL.w M (k := t) (by omega), f_X3_work_b258, nI_1]
  split
  · split <;> rfl
  · rfl
theorem w_if (hL : LwS c) {n k N t : Nat} {l w : Int32} (h4 : M c 4 = nI N) (hk : k < N) (hN : N ≤ 300) (hv : M (c + 2) k = 311) (ht : t < 200) : f_X3_work_h10 c r (n + 1) l w (nI (t + 2)) (nI k) M = f_X3_work_h10 c r n l w (nI (t + 1)) (nI (k + 1)) (mU M (c + 4) t (if M (c + 4) (t + 1) = 0 then 0 else M (c + 4) t)) := by
  have h8 : ∀ (M : Mem) (x y : Int32), f_X3_ofTwo M 311 x y = some ((if y = 0 then 0 else x), M) := fun M x y => by
    show (if y = 0 then some ((0 : Int32), M) else some (x, M)) = _
    split <;> rfl
  rw [w_b121 hL h4 hk hN hv (by decide) (by decide), nI_pred, hL.t M (k := t + 1) (by omega)]
  unfold f_X3_work_b121
  rw [if_neg (by decide), if_neg (by decide), if_neg (by decide), if_neg (by decide), m1, nI_pred, nI_pred]
  simp only [q_at, q_put, Option.bind_some, h8, hL.t M (k := t) (by omega), hL.w M (k := t) (by omega), f_X3_work_b258, nI_1]
theorem w_end (hL : LwS c) {n k : Nat} {l w x : Int32} (h4 : M c 4 = nI k) (hk : k < 1000) : f_X3_work_h10 c r (n + 1) l w x (nI k) M = some (0, mU (mU M c 0 (sBd l)) c 1 (sBd w)) := by
  rw [f_X3_work_h10, h4, if_pos (i_le (Nat.le_refl _) (by omega))]
  rfl
theorem w_all (hL : LwS c) (hr : gRf r 0 = q) (hq : gN q = 9) (hqc : q ≠ c + 4) (hR : RLw M0 c A0) (hnm : ∀ j, j < 9 → M0 q j = nm j) : ∀ (A P : List Nat) (st : List Int32) (l w : Int32) (ts : List Bool) (M : Mem), A0 = P ++ A → TS st ts → ts.length ≤ 100 → cTs A ts = some [] → SR (M (c + 4)) st → (∀ b, b ≠ c + 4 → M b = M0 b) → ∀ n, (cXs A).length < n → tot (f_X3_work_h10 c r n l w (nI st.length) (nI (cXs P).length) M) (fun _ M' => M' c 0 = sBd (cVs nm A (st, l, w)).2.1 ∧ M' c 1 = sBd (cVs nm A (st, l, w)).2.2 ∧ (∀ b, b ≠ c → b ≠ c + 4 → M' b = M0 b) ∧ ∀ k, k ≠ 0 → k ≠ 1 → M' c k = M0 c k) := by
  intro A
  induction A with
  | nil =>
    intro P st l w ts M hA hT hB hC hS hf n hn
    obtain ⟨m, rfl⟩ : ∃ m, n = m + 1 := ⟨n - 1, by omega⟩
    rw [List.append_nil] at hA
    subst hA
    refine tot.eq (w_end hL (by rw [hf c (by omega)]; exact hR.1) (by have := hR.2.1; omega)) (tot.ret ⟨?_, ?_, ?_, ?_⟩)
    · simp [mU_at]; rfl
    · simp [mU_at]; rfl
    · intro b h1 h2
      funext j
      simp [mU_at, h1, hf b h2]
    · intro k h1 h2
      simp [mU_at, h1, h2, hf c (by omega)]
  | cons op A ih =>
    intro P st l w ts M hA hT hB hC hS hf n hn
    obtain ⟨m, rfl⟩ : ∃ m, n = m + 1 := ⟨n - 1, by omega⟩
    have h4 : M c 4 = nI (cXs A0).length := by rw [hf c (by omega)]; exact hR.1
    have hN := hR.2.1
    have hlen := cX_len P A op
    rw [← hA] at hlen
    have hcons : (cXs (op :: A)).length = (cX op).length + (cXs A).length := by
      have := cX_len [] A op
      simpa [cXs] using this
    have hA2 : A0 = (P ++ [op]) ++ A := by rw [hA, List.append_assoc]; rfl
    have hsn := cX_snoc P op
    have hlt := hT.len
    obtain ⟨ts', hc1, hc2⟩ : ∃ ts', cT op ts = some ts' ∧ cTs A ts' = some [] := by
      have hC' : (cT op ts).bind (cTs A) = some [] := hC
      cases e : cT op ts with
      | none => rw [e] at hC'; cases hC'
      | some x => rw [e] at hC'; exact ⟨x, rfl, hC'⟩
    have hTS := cV_TS (nm := nm) (l := l) (w := w) hT hc1
    have key : ∀ (st' : List Int32) (l' w' : Int32) (M' : Mem) (m' : Nat), cV nm op (st, l, w) = (st', l', w') → SR (M' (c + 4)) st' → (∀ b, b ≠ c + 4 → M' b = M0 b) → (cXs A).length < m' → tot (f_X3_work_h10 c r m' l' w' (nI st'.length) (nI (cXs (P ++ [op])).length) M') (fun _ M' => M' c 0 = sBd (cVs nm (op :: A) (st, l, w)).2.1 ∧ M' c 1 = sBd (cVs nm (op :: A) (st, l, w)).2.2 ∧ (∀ b, b ≠ c → b ≠ c + 4 → M' b = M0 b) ∧ ∀ k, k ≠ 0 → k ≠ 1 → M' c k = M0 c k) := by
      intro st' l' w' M' m' e hS' hf' hm'
      have hh := ih (P ++ [op]) st' l' w' ts' M' hA2 (by rw [e] at hTS; exact hTS) (cT_len hc1 hB) hc2 hS' hf' m' hm'
      show tot _ (fun _ M' => M' c 0 = sBd (cVs nm A (cV nm op (st, l, w))).2.1 ∧ M' c 1 = sBd (cVs nm A (cV nm op (st, l, w))).2.2 ∧ _)
      rw [e]
      exact hh
    have hST : ∀ k, k < st.length → k < 200 := fun k hk => by have := hB; omega
    have hsame : ∀ (M' : Mem), (∀ b, b ≠ c + 4 → M' b = M b) → ∀ b, b ≠ c + 4 → M' b = M0 b := fun M' h b hb => (h b hb).trans (hf b hb)
    have hmu : ∀ k v b, b ≠ c + 4 → mU M (c + 4) k v b = M b := fun k v b hb => u_ne hb
    rcases cT_cases hc1 with ⟨h1, h2, rfl⟩ | ⟨rfl, r2, rfl, rfl⟩ | ⟨rfl, r2, rfl, rfl⟩ | ⟨r2, t, u, rfl, rfl, h3⟩ | ⟨h1, rfl, rfl⟩ | ⟨h1, rfl, rfl⟩
    · by_cases hn2 : op < 10000
      · have hX : cX op = [nI (op + 1000)] := if_pos hn2
        have hv : M (c + 2) (cXs P).length = nI (op + 1000) := by rw [hf (c + 2) (by omega)]; exact hR.2.2 _ _ (by rw [hA]; exact cX_at hX)
        rw [hX] at hlen hcons hsn
        have ha : ¬ nI (op + 1000) < 1000 := nI_nlt (b := 1000) (by omega) (by omega)
        have hb2 : nI (op + 1000) - 1000 = nI op := i_sub op 1000
        rw [w_pre hL h4 (by simp at hlen; omega) hN hv, if_neg ha, hb2, hL.w M (by omega), nI_1, show (cXs P).length + 1 = (cXs (P ++ [op])).length from hsn.symm]
        exact key (nI op :: st) l w _ m (cV_num hn2) (by rw [mU_row]; exact hS.push) (hsame _ (hmu _ _)) (by simp at hcons; omega)
      · have hX : cX op = [nI (op - 10000 + 300)] := by unfold cX; rw [if_neg hn2, if_pos h1]
        have hv : M (c + 2) (cXs P).length = nI (op - 10000 + 300) := by rw [hf (c + 2) (by omega)]; exact hR.2.2 _ _ (by rw [hA]; exact cX_at hX)
        rw [hX] at hlen hcons hsn
        have ha : nI (op - 10000 + 300) < 1000 := nI_lt (b := 1000) (by omega) (by decide)
        have ha2 : ¬ nI (op - 10000 + 300) < 300 := nI_nlt (b := 300) (by omega) (by omega)
        have ha3 : ¬ 309 ≤ nI (op - 10000 + 300) := i_nle (b := 309) (by omega) (by decide)
        have hb2 : nI (op - 10000 + 300) - 300 = nI (op - 10000) := i_sub _ 300
        have hb3 : rAt M r (nI (op - 10000)) = nm (op - 10000) := by
          rw [rAt_nI (by rw [hr, hq]; omega) (by rw [hr, hq]; omega), hr, hf q hqc]
          exact hnm _ (by omega)
        rw [w_pre hL h4 (by simp at hlen; omega) hN hv, if_pos ha, if_neg ha2, if_neg ha3, hb2, hb3, hL.w M (by omega), nI_1, show (cXs P).length + 1 = (cXs (P ++ [op])).length from hsn.symm]
        exact key (nm (op - 10000) :: st) l w _ m (cV_nam hn2 h1) (by rw [mU_row]; exact hS.push) (hsame _ (hmu _ _)) (by simp at hcons; omega)
    · obtain ⟨x, st2, rfl, _, hT2⟩ := hT.un
      have hX : cX 10026 = [317] := rfl
      have hv : M (c + 2) (cXs P).length = 317 := by rw [hf (c + 2) (by omega)]; exact hR.2.2 _ _ (by rw [hA]; exact cX_at hX)
      rw [hX] at hlen hcons hsn
      simp at hlen hcons hsn
      show tot (f_X3_work_h10 c r (m + 1) l w (nI (st2.length + 1)) _ M) _
      rw [w_sign hL h4 (by omega) hN hv (hST st2.length (by simp)), hS.1, ← hsn]
      exact key (sSgn x :: st2) l w _ m rfl (by rw [mU_row]; exact hS.2.push) (hsame _ (hmu _ _)) (by omega)
    · obtain ⟨x, st2, rfl, _, hT2⟩ := hT.un
      have hX : cX 10033 = [314] := rfl
      have hv : M (c + 2) (cXs P).length = 314 := by rw [hf (c + 2) (by omega)]; exact hR.2.2 _ _ (by rw [hA]; exact cX_at hX)
      rw [hX] at hlen hcons hsn
      simp at hlen hcons hsn
      show tot (f_X3_work_h10 c r (m + 1) l w (nI (st2.length + 1)) _ M) _
      rw [w_not hL h4 (by omega) hN hv (hST st2.length (by simp)), hS.1, ← hsn]
      exact key ((1 - x) :: st2) l w _ m rfl (by rw [mU_row]; exact hS.2.push) (hsame _ (hmu _ _)) (by omega)
    · obtain ⟨y, st2, rfl, _, hT2⟩ := hT.un
      obtain ⟨x, st2, rfl, _, hT2⟩ := hT2.un
      have ho : bn1 op ∨ bn2 op ∨ bn3 op := by
        rcases h3 with h | h | h
        · exact Or.inl h.1
        · exact Or.inr (Or.inl h)
        · exact Or.inr (Or.inr h.1)
      obtain ⟨v, hX, _⟩ := r_ofTwo ho
      have hv : M (c + 2) (cXs P).length = v := by rw [hf (c + 2) (by omega)]; exact hR.2.2 _ _ (by rw [hA]; exact cX_at hX)
      have hv2 : [M (c + 2) (cXs P).length] = cX op := by rw [hX, hv]
      rw [hX] at hlen hcons hsn
      simp at hlen hcons hsn
      show tot (f_X3_work_h10 c r (m + 1) l w (nI (st2.length + 2)) _ M) _
      have hy : M (c + 4) (st2.length + 1) = y := hS.1
      rw [w_two hL ho h4 (by omega) hN hv2 (hST st2.length (by simp; omega)), hy, hS.2.1, ← hsn]
      exact key (op2 op x y :: st2) l w _ m (cV_two ho) (by rw [mU_row]; exact hS.2.2.push) (hsame _ (hmu _ _)) (by omega)
    · obtain ⟨x, st2, rfl, _, hT2⟩ := hT.un
      have := hT2.nil
      subst this
      rcases h1 with rfl | rfl
      · have hX : cX 10040 = [309] := rfl
        have hv : M (c + 2) (cXs P).length = 309 := by rw [hf (c + 2) (by omega)]; exact hR.2.2 _ _ (by rw [hA]; exact cX_at hX)
        rw [hX] at hlen hcons hsn
        simp at hlen hcons hsn
        show tot (f_X3_work_h10 c r (m + 1) l w (nI (0 + 1)) _ M) _
        have hy : M (c + 4) 0 = x := hS.1
        rw [w_lift hL h4 (by omega) hN hv (by omega), hy, ← hsn]
        exact key [] (l + x) w M m rfl trivial hf (by omega)
      · have hX : cX 10041 = [310] := rfl
        have hv : M (c + 2) (cXs P).length = 310 := by rw [hf (c + 2) (by omega)]; exact hR.2.2 _ _ (by rw [hA]; exact cX_at hX)
        rw [hX] at hlen hcons hsn
        simp at hlen hcons hsn
        show tot (f_X3_work_h10 c r (m + 1) l w (nI (0 + 1)) _ M) _
        have hy : M (c + 4) 0 = x := hS.1
        rw [w_twist hL h4 (by omega) hN hv (by omega), hy, ← hsn]
        exact key [] l (w + x) M m rfl trivial hf (by omega)
    · obtain ⟨y, st2, rfl, _, hT2⟩ := hT.un
      obtain ⟨x, st2, rfl, _, hT2⟩ := hT2.un
      have := hT2.nil
      subst this
      have hy : M (c + 4) (0 + 1) = y := hS.1
      have hx : M (c + 4) 0 = x := hS.2.1
      have hz : mU M (c + 4) 0 (if y = 0 then 0 else x) (c + 4) 0 = if y = 0 then 0 else x := by rw [mU_at, if_pos ⟨rfl, rfl⟩]
      rcases h1 with rfl | rfl
      · have hX : cX 10042 = [311, 309] := rfl
        have hv : M (c + 2) (cXs P).length = 311 := by rw [hf (c + 2) (by omega)]; exact hR.2.2 _ _ (by rw [hA]; exact cX_at hX)
        have hv2 : M (c + 2) ((cXs P).length + 1) = 309 := by rw [hf (c + 2) (by omega)]; exact hR.2.2 _ _ (by rw [hA]; exact cX_at2 hX)
        rw [hX] at hlen hcons hsn
        simp at hlen hcons hsn
        obtain ⟨m2, rfl⟩ : ∃ m2, m = m2 + 1 := ⟨m - 1, by omega⟩
        show tot (f_X3_work_h10 c r (m2 + 1 + 1) l w (nI (0 + 2)) _ M) _
        rw [w_if hL h4 (by omega) hN hv (by omega), hy, hx]
        rw [w_lift hL (by rw [u_ne (by omega)]; exact h4) (by omega) hN (by rw [u_ne (by omega)]; exact hv2) (by omega), hz, ← hsn]
        exact key [] _ w _ m2 rfl trivial (hsame _ (hmu _ _)) (by omega)
      · have hX : cX 10043 = [311, 310] := rfl
        have hv : M (c + 2) (cXs P).length = 311 := by rw [hf (c + 2) (by omega)]; exact hR.2.2 _ _ (by rw [hA]; exact cX_at hX)
        have hv2 : M (c + 2) ((cXs P).length + 1) = 310 := by rw [hf (c + 2) (by omega)]; exact hR.2.2 _ _ (by rw [hA]; exact cX_at2 hX)
        rw [hX] at hlen hcons hsn
        simp at hlen hcons hsn
        obtain ⟨m2, rfl⟩ : ∃ m2, m = m2 + 1 := ⟨m - 1, by omega⟩
        show tot (f_X3_work_h10 c r (m2 + 1 + 1) l w (nI (0 + 2)) _ M) _
        rw [w_if hL h4 (by omega) hN hv (by omega), hy, hx]
        rw [w_twist hL (by rw [u_ne (by omega)]; exact h4) (by omega) hN (by rw [u_ne (by omega)]; exact hv2) (by omega), hz, ← hsn]
        exact key [] l _ _ m2 rfl trivial (hsame _ (hmu _ _)) (by omega)
end WORK
