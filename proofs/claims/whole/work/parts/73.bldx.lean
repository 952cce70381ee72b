/-! Constructors once more: what is built so far, with cells that aren't done (U) and the places that hold their refs (S); memory is zero ahead. -/
def BldX (g0 g : gT) (b c : Nat) (U : List Nat) (S : List (Nat × Nat)) : Prop := (g.1 = g0.1 ∧ g.2.1 = g0.2.1 ∧ gB g = gB g0 ∧ gSx g = gSx g0) ∧ (∀ a ∈ gL g0, a ≤ b) ∧ (b < c ∧ b ∈ gL g0) ∧ (∀ a, a ∈ gL g ↔ a ∈ gL g0 ∨ (b < a ∧ a < c)) ∧ (∀ a ∈ gL g0, gAd g a = gAd g0 a ∧ (a ≠ b → gDn g a = gDn g0 a ∧ ∀ k, gNul g a k = gNul g0 a k)) ∧ gOK g ∧ ((∀ a, b < a → a < c → (gDn g a = true ↔ a ∉ U)) ∧ ∀ a ∈ U, b < a ∧ a < c) ∧ gDn g b = false ∧ ∀ p ∈ S, (b ≤ p.1 ∧ p.1 < c) ∧ gNul g p.1 p.2 = false
theorem BldX.start {g0 : gT} {b : Nat} (hok : gOK g0) (hbL : b ∈ gL g0) (hdn : gDn g0 b = false) (hle : ∀ a ∈ gL g0, a ≤ b) : BldX g0 g0 b (b + 1) [] [] := ⟨⟨rfl, rfl, rfl, rfl⟩, hle, ⟨Nat.lt_succ_self b, hbL⟩, fun a => ⟨Or.inl, fun h => h.elim id (fun h => by omega)⟩, fun _ _ => ⟨rfl, fun _ => ⟨rfl, fun _ => rfl⟩⟩, hok, ⟨fun a h1 h2 => by omega, fun a h => by cases h⟩, hdn, fun _ h => by cases h⟩
section BX
variable {g0 g : gT} {b c : Nat} {U : List Nat} {S : List (Nat × Nat)}
theorem BldX.nin (h : BldX g0 g b c U S) {a : Nat} (ha : c ≤ a) : a ∉ gL g := fun z => by
  rcases (h.2.2.2.1 a).mp z with z | z
  · have := h.2.1 a z; have := h.2.2.1.1; omega
  · omega
theorem BldX.bin (h : BldX g0 g b c U S) : b ∈ gL g := (h.2.2.2.1 b).mpr (Or.inl h.2.2.1.2)
theorem BldX.inn (h : BldX g0 g b c U S) {a : Nat} (h1 : b < a) (h2 : a < c) : a ∈ gL g := (h.2.2.2.1 a).mpr (Or.inr ⟨h1, h2⟩)
theorem BldX.ok (h : BldX g0 g b c U S) : gOK g := h.2.2.2.2.2.1
theorem BldX.nd (h : BldX g0 g b c U S) : gDn g b = false := h.2.2.2.2.2.2.2.1
theorem BldX.ndU (h : BldX g0 g b c U S) {a : Nat} (ha : a ∈ U) : gDn g a = false := by
  have h1 := h.2.2.2.2.2.2.1.2 a ha
  have h2 := h.2.2.2.2.2.2.1.1 a h1.1 h1.2
  cases hz : gDn g a with
  | false => rfl
  | true => exact absurd ha (h2.mp hz)
theorem BldX.dn (h : BldX g0 g b c U S) {a : Nat} (h1 : b < a) (h2 : a < c) (h3 : a ∉ U) : gDn g a = true := (h.2.2.2.2.2.2.1.1 a h1 h2).mpr h3
theorem BldX.nu (h : BldX g0 g b c U S) {a k : Nat} (hp : (a, k) ∈ S) : gNul g a k = false := (h.2.2.2.2.2.2.2.2 (a, k) hp).2
theorem BldX.lt (h : BldX g0 g b c U S) : b < c := h.2.2.1.1
theorem BldX.new (h : BldX g0 g b c U S) {q : Nat} (hok : gOK (gNew g c q)) : BldX g0 (gNew g c q) b (c + 1) (c :: U) S := by
  have hb := h.lt
  obtain ⟨h1, h2, h3, h4, h5, h6, ⟨h7, h7'⟩, h8, h9⟩ := h
  refine ⟨h1, h2, ⟨by omega, h3.2⟩, fun a => ?_, fun a ha => ?_, hok, ⟨fun a q1 q2 => ?_, fun a ha => ?_⟩, ?_, fun p hp => ?_⟩
  · show a ∈ gL g ++ [c] ↔ _
    rw [List.mem_append, List.mem_singleton, h4 a]
    constructor
    · rintro ((z | z) | z)
      · exact Or.inl z
      · exact Or.inr (by omega)
      · exact Or.inr (by omega)
    · rintro (z | z)
      · exact Or.inl (Or.inl z)
      · by_cases y : a = c
        · exact Or.inr y
        · exact Or.inl (Or.inr (by omega))
  · have hac : a ≠ c := by have := h2 a ha; omega
    obtain ⟨y1, y2⟩ := h5 a ha
    refine ⟨?_, fun hab => ⟨?_, fun k => ?_⟩⟩
    · show (if a = c then q else gAd g a) = _
      rw [if_neg hac]; exact y1
    · show (if a = c then false else gDn g a) = _
      rw [if_neg hac]; exact (y2 hab).1
    · show (if a = c then true else gNul g a k) = _
      rw [if_neg hac]; exact (y2 hab).2 k
  · show (if a = c then false else gDn g a) = true ↔ _
    by_cases y : a = c
    · rw [if_pos y, y]; exact ⟨fun z => (by cases z), fun z => absurd List.mem_cons_self z⟩
    · rw [if_neg y, h7 a q1 (by omega), List.mem_cons]
      exact ⟨fun z w => w.elim y z, fun z w => z (Or.inr w)⟩
  · rcases List.mem_cons.mp ha with y | y
    · omega
    · have := h7' a y; omega
  · show (if b = c then false else gDn g b) = false
    rw [if_neg (by omega)]; exact h8
  · have h10 := h9 p hp
    refine ⟨by omega, ?_⟩
    show (if p.1 = c then true else gNul g p.1 p.2) = false
    rw [if_neg (by omega)]; exact h10.2
theorem BldX.newA (h : BldX g0 g b c U S) {q : Nat} (hok : gOK (gNewA g c q)) : BldX g0 (gNewA g c q) b (c + 1) U S := by
  have hb := h.lt
  obtain ⟨h1, h2, h3, h4, h5, h6, ⟨h7, h7'⟩, h8, h9⟩ := h
  refine ⟨h1, h2, ⟨by omega, h3.2⟩, fun a => ?_, fun a ha => ?_, hok, ⟨fun a q1 q2 => ?_, fun a ha => ?_⟩, ?_, fun p hp => ?_⟩
  · show a ∈ gL g ++ [c] ↔ _
    rw [List.mem_append, List.mem_singleton, h4 a]
    constructor
    · rintro ((z | z) | z)
      · exact Or.inl z
      · exact Or.inr (by omega)
      · exact Or.inr (by omega)
    · rintro (z | z)
      · exact Or.inl (Or.inl z)
      · by_cases y : a = c
        · exact Or.inr y
        · exact Or.inl (Or.inr (by omega))
  · have hac : a ≠ c := by have := h2 a ha; omega
    obtain ⟨y1, y2⟩ := h5 a ha
    refine ⟨?_, fun hab => ⟨?_, fun k => ?_⟩⟩
    · show (if a = c then q else gAd g a) = _
      rw [if_neg hac]; exact y1
    · show (if a = c then true else gDn g a) = _
      rw [if_neg hac]; exact (y2 hab).1
    · show (if a = c then false else gNul g a k) = _
      rw [if_neg hac]; exact (y2 hab).2 k
  · show (if a = c then true else gDn g a) = true ↔ _
    by_cases y : a = c
    · rw [if_pos y, y]; exact ⟨fun _ z => by have := h7' c z; omega, fun _ => rfl⟩
    · rw [if_neg y]; exact h7 a q1 (by omega)
  · have := h7' a ha; omega
  · show (if b = c then true else gDn g b) = false
    rw [if_neg (by omega)]; exact h8
  · have h10 := h9 p hp
    refine ⟨by omega, ?_⟩
    show (if p.1 = c then false else gNul g p.1 p.2) = false
    rw [if_neg (by omega)]; exact h10.2
theorem BldX.ext (h : BldX g0 g b c U S) {g1 : gT} {q n : Nat} (hn : 0 < n) (hx : gExt (gNew g c q) g1 c n) : BldX g0 g1 b (c + n) U S := by
  have hb := h.lt
  have hnin := h.nin (Nat.le_refl c)
  have hbin := h.bin
  have hin : ∀ a, a ∈ gL (gNew g c q) ↔ a ∈ gL g ∨ a = c := fun a => by
    show a ∈ gL g ++ [c] ↔ _
    rw [List.mem_append, List.mem_singleton]
  obtain ⟨h1, h2, h3, h4, h5, h6, ⟨h7, h7'⟩, h8, h9⟩ := h
  obtain ⟨x1, x2, x3, x4, x5, x6, x7, x8⟩ := hx
  have old : ∀ a ∈ gL g, gAd g1 a = gAd g a ∧ gDn g1 a = gDn g a ∧ ∀ k, gNul g1 a k = gNul g a k := fun a ha => by
    have hac : a ≠ c := fun z => hnin (z ▸ ha)
    obtain ⟨y1, y2⟩ := x6 a ((hin a).mpr (Or.inl ha))
    refine ⟨?_, ?_, fun k => ?_⟩
    · rw [y1]; show (if a = c then q else gAd g a) = _; rw [if_neg hac]
    · rw [(y2 hac).1]; show (if a = c then false else gDn g a) = _; rw [if_neg hac]
    · rw [(y2 hac).2 k]; show (if a = c then true else gNul g a k) = _; rw [if_neg hac]
  refine ⟨⟨x1.trans h1.1, x2.trans h1.2.1, x3.trans h1.2.2.1, x4.trans h1.2.2.2⟩, h2, ⟨by omega, h3.2⟩, fun a => ?_, fun a ha => ?_, x7, ⟨fun a q1 q2 => ?_, fun a ha => by have := h7' a ha; omega⟩, ?_, fun p hp => ?_⟩
  · rw [x5 a, hin a, h4 a]
    constructor
    · rintro (((z | z) | z) | z)
      · exact Or.inl z
      · exact Or.inr (by omega)
      · exact Or.inr (by omega)
      · exact Or.inr (by omega)
    · rintro (z | z)
      · exact Or.inl (Or.inl (Or.inl z))
      · by_cases z1 : a < c
        · exact Or.inl (Or.inl (Or.inr ⟨z.1, z1⟩))
        · by_cases z2 : a = c
          · exact Or.inl (Or.inr z2)
          · exact Or.inr (by omega)
  · obtain ⟨y1, y2, y3⟩ := old a ((h4 a).mpr (Or.inl ha))
    obtain ⟨w1, w2⟩ := h5 a ha
    exact ⟨y1.trans w1, fun hab => ⟨y2.trans (w2 hab).1, fun k => (y3 k).trans ((w2 hab).2 k)⟩⟩
  · by_cases z1 : a < c
    · rw [(old a ((h4 a).mpr (Or.inr ⟨q1, z1⟩))).2.1]; exact h7 a q1 z1
    · refine ⟨fun _ z => by have := h7' a z; omega, fun _ => x8 a (by omega) (by omega)⟩
  · rw [(old b hbin).2.1]; exact h8
  · have h10 := h9 p hp
    refine ⟨by omega, ?_⟩
    have hpin : p.1 ∈ gL g := by
      by_cases y : p.1 = b
      · rw [y]; exact hbin
      · exact (h4 p.1).mpr (Or.inr (by omega))
    rw [(old p.1 hpin).2.2 p.2]; exact h10.2
theorem BldX.put (h : BldX g0 g b c U S) {a k : Nat} (ha : a = b ∨ a ∈ U) (hok : gOK (gPut g a k)) : BldX g0 (gPut g a k) b c U ((a, k) :: S) := by
  have hb := h.lt
  obtain ⟨h1, h2, h3, h4, h5, h6, ⟨h7, h7'⟩, h8, h9⟩ := h
  have hab : b ≤ a ∧ a < c := by
    rcases ha with y | y
    · omega
    · have := h7' a y; omega
  refine ⟨h1, h2, h3, h4, fun x hx => ⟨(h5 x hx).1, fun hxb => ⟨((h5 x hx).2 hxb).1, fun j => ?_⟩⟩, hok, ⟨h7, h7'⟩, h8, fun p hp => ?_⟩
  · have := h2 x hx
    show (if x = a ∧ j = k then false else gNul g x j) = _
    rw [if_neg (by omega)]; exact ((h5 x hx).2 hxb).2 j
  · rcases List.mem_cons.mp hp with y | y
    · rw [y]
      refine ⟨hab, ?_⟩
      show (if a = a ∧ k = k then false else gNul g a k) = false
      rw [if_pos ⟨rfl, rfl⟩]
    · refine ⟨(h9 p y).1, ?_⟩
      show (if p.1 = a ∧ p.2 = k then false else gNul g p.1 p.2) = false
      split
      · rfl
      · exact (h9 p y).2
theorem BldX.fx {p : Program} {s : State} {m : MethodId} {args : Array Value} {c' : Code} {cc : ByteArray} {nL : Nat} {Ts : List Cond} {own : String} (h : BldX g0 g b c U S) (F : Fx g0 p s m args c' cc nL Ts own) : Fx g p s m args c' cc nL Ts own := F.grow h.1.1 h.1.2.1 h.1.2.2.1 h.1.2.2.2 h.ok
/-- an array of refs is done -/
theorem gok_doneA {g : gT} {a : Nat} (hok : gOK g) (h12 : 12 ≤ (shp a).1) (hf : ∀ k, k < (shp a).2.1 → ((shp a).1 = 14 → ∃ r, (shp a).2.2 k = some r ∧ gNul g a k = false ∧ Ty g 3 r) ∧ ((shp a).1 = 15 → ∃ r, (shp a).2.2 k = some r ∧ gNul g a k = false ∧ Ty g 7 r) ∧ ((shp a).1 = 16 → ∃ r, (shp a).2.2 k = some r ∧ gNul g a k = false ∧ Ty g 12 r)) : gOK (gDone g a) := by
  have hT : ∀ f r, Ty g f r → Ty (gDone g a) f r := fun f r h => ⟨h.1, h.2.1, by
    show (if r = a then true else gDn g r) = true
    by_cases z : r = a
    · rw [if_pos z]
    · rw [if_neg z]; exact h.2.2⟩
  have hdn : ∀ x, x ≠ a → gDn (gDone g a) x = gDn g x := fun x h => if_neg h
  refine ⟨hok.1, hok.2.1, ?_, ?_, hok.2.2.2.2.1, hok.2.2.2.2.2⟩
  · intro x hx hd hk
    by_cases z : x = a
    · subst z; omega
    · obtain ⟨h1, h2⟩ := hok.2.2.1 x hx (by rw [← hdn x z]; exact hd) hk
      refine ⟨h1, fun j f hff => ?_⟩
      have h3 := h2 j f hff
      by_cases h9 : f = 99
      · rw [if_pos h9] at h3 ⊢; exact h3
      · rw [if_neg h9] at h3 ⊢
        obtain ⟨r, hr, hn, hty⟩ := h3
        exact ⟨r, hr, hn, hT f r hty⟩
  · intro x hx hd j hj
    have h0 : ((shp x).1 = 14 → ∃ r, (shp x).2.2 j = some r ∧ gNul g x j = false ∧ Ty g 3 r) ∧ ((shp x).1 = 15 → ∃ r, (shp x).2.2 j = some r ∧ gNul g x j = false ∧ Ty g 7 r) ∧ ((shp x).1 = 16 → ∃ r, (shp x).2.2 j = some r ∧ gNul g x j = false ∧ Ty g 12 r) := by
      by_cases z : x = a
      · subst z; exact hf j hj
      · exact hok.2.2.2.1 x hx (by rw [← hdn x z]; exact hd) j hj
    obtain ⟨h1, h2, h3⟩ := h0
    refine ⟨fun z => ?_, fun z => ?_, fun z => ?_⟩
    · obtain ⟨r, hr, hn, hty⟩ := h1 z; exact ⟨r, hr, hn, hT _ r hty⟩
    · obtain ⟨r, hr, hn, hty⟩ := h2 z; exact ⟨r, hr, hn, hT _ r hty⟩
    · obtain ⟨r, hr, hn, hty⟩ := h3 z; exact ⟨r, hr, hn, hT _ r hty⟩
theorem BldX.doneA (h : BldX g0 g b c U S) {a : Nat} (ha : b < a) (hac : a < c) (hok : gOK (gDone g a)) : BldX g0 (gDone g a) b c (U.filter (fun x => decide (x ≠ a))) S := by
  obtain ⟨h1, h2, h3, h4, h5, h6, ⟨h7, h7'⟩, h8, h9⟩ := h
  refine ⟨h1, h2, h3, h4, fun x hx => ⟨(h5 x hx).1, fun hxb => ⟨?_, ((h5 x hx).2 hxb).2⟩⟩, hok, ⟨fun x q1 q2 => ?_, fun x hx => h7' x (List.mem_filter.mp hx).1⟩, ?_, h9⟩
  · have := h2 x hx
    show (if x = a then true else gDn g x) = _
    rw [if_neg (by omega)]; exact ((h5 x hx).2 hxb).1
  · show (if x = a then true else gDn g x) = true ↔ _
    rw [List.mem_filter]
    by_cases y : x = a
    · rw [if_pos y]
      exact ⟨fun _ z => absurd y (of_decide_eq_true z.2), fun _ => rfl⟩
    · rw [if_neg y, h7 x q1 q2]
      exact ⟨fun z w => z w.1, fun z w => z ⟨w, decide_eq_true y⟩⟩
  · show (if b = a then true else gDn g b) = false
    rw [if_neg (by omega)]; exact h8
/-- all its refs are set: b is done -/
theorem BldX.done (h : BldX g0 g b c [] S) (h12 : (shp b).1 < 12) (hN : (shp b).2.1 = (gFK (shp b).1).length) (hf : ∀ (k f : Nat), (gFK (shp b).1)[k]? = some f → if f = 99 then (shp b).2.2 k = none else ∃ r, (shp b).2.2 k = some r ∧ (b, k) ∈ S ∧ b < r ∧ r < c ∧ (shp r).1 = f) (n : Nat) (hn : b + n = c) : gExt g0 (gDone g b) b n := by
  have hb := h.lt
  obtain ⟨h1, h2, h3, h4, h5, h6, ⟨h7, h7'⟩, h8, h9⟩ := h
  have hok : gOK (gDone g b) := gok_done h6 h12 hN (fun k f hk => by
    have q := hf k f hk
    by_cases hq : f = 99
    · rw [if_pos hq] at q ⊢; exact q
    · rw [if_neg hq] at q ⊢
      obtain ⟨r, q1, q2, q3, q4, q5⟩ := q
      refine ⟨r, q1, (h9 (b, k) q2).2, (h4 r).mpr (Or.inr ⟨q3, q4⟩), q5, ?_⟩
      show (if r = b then true else gDn g r) = true
      rw [if_neg (by omega)]
      exact (h7 r q3 q4).mpr List.not_mem_nil)
  refine ⟨h1.1, h1.2.1, h1.2.2.1, h1.2.2.2, fun a => ?_, fun a ha => ⟨(h5 a ha).1, fun hab => ⟨?_, ((h5 a ha).2 hab).2⟩⟩, hok, fun a q1 q2 => ?_⟩
  · rw [show a ∈ gL (gDone g b) ↔ a ∈ gL g from Iff.rfl, h4 a, hn]
  · show (if a = b then true else gDn g a) = _
    rw [if_neg hab]; exact ((h5 a ha).2 hab).1
  · show (if a = b then true else gDn g a) = true
    by_cases z : a = b
    · rw [if_pos z]
    · rw [if_neg z]; exact (h7 a (by omega) (by omega)).mpr List.not_mem_nil
/-- y, called on a fresh cell c of shape S, makes n cells in all; memory, zero from c on, is as P says then -/
def MkP (l : Launch) (y : MethodName) (ws : List Cond) (k mc ms n : Nat) (S : List (Nat × Nat × List (Option Nat))) (As : List Value) (P : Nat → Mem → Prop) : Prop := ∀ (c : Nat) (M : Mem), shAt S c → (∀ a, c ≤ a → M a = fun _ => 0) → ∃ M', P c M' ∧ (∀ a, (a < c ∨ c + n ≤ a) → M' a = M a) ∧ ∀ (g : gT), gOK g → c ∈ gL g → gDn g c = false → (∀ a ∈ gL g, a ≤ c) → CnI g l y ws k mc ms c n (.ref (gAd g c) :: As) M M'
def PZ (n c : Nat) (M : Mem) : Prop := ∀ a, c ≤ a → a < c + n → M a = fun _ => 0
theorem mZ_id {M : Mem} {b : Nat} (h : M b = fun _ => 0) : mZ M b = M := by
  funext a k
  show (if a = b then 0 else M a k) = M a k
  by_cases z : a = b
  · rw [if_pos z, z, h]
  · rw [if_neg z]
theorem mp_eq {n c : Nat} {M M' : Mem} (hP : PZ n c M') (hr : ∀ a, (a < c ∨ c + n ≤ a) → M' a = M a) (hZ : ∀ a, c ≤ a → M a = fun _ => 0) : M' = M := by
  funext a
  by_cases h1 : a < c
  · exact hr a (Or.inl h1)
  · by_cases h2 : c + n ≤ a
    · exact hr a (Or.inr h2)
    · rw [hP a (by omega) (by omega), hZ a (by omega)]
theorem mp_Row (l : Launch) {N : Nat} {n : Int32} (hn : n = nI N) (hN : N < 100000) : MkP l yX8_init uX8_init 1 1 N 2 (rowS N) [.int n] (PZ 2) := by
  intro c M hS hZ
  refine ⟨M, fun a h1 h2 => hZ a h1, fun _ _ => rfl, fun g hok hc hd hle => ?_⟩
  have h := mk_Row l hn hN g c M hok hc hd (fun a h1 h2 z => by have := hle a z; omega) hS
  have h : CnI g l yX8_init uX8_init 1 1 N c 2 [.ref (gAd g c), .int n] M (mZ M (c + 1)) := h
  rw [mZ_id (hZ (c + 1) (by omega))] at h
  exact h
end BX
section BV
variable {g0 g : gT} {p : Program} {l : Launch} {e : Env} {R : Room} {s : State} {m : MethodId} {args : Array Value} {below : List Frame} {meth : Method} {c : Code} {nL cells slots : Nat} {Q : State → Prop}
variable {cc : ByteArray} {Ts : List Cond} {own : String} {pc : Nat} {lv : List (Nat × Value)} {rest : List Value} {M : Mem}
variable {b c0 : Nat} {U : List Nat} {S : List (Nat × Nat)}
/-- a new object, behind its constructor's call -/
theorem v_made (hB : BldX g0 g b c0 U S) {y : MethodName} {ws : List Cond} {kf mc ms n q : Nat} {As : List Value} {M' : Mem} (hmk : ∀ (g : gT), gOK g → c0 ∈ gL g → gDn g c0 = false → (∀ a ∈ gL g, a ≤ c0) → CnI g l y ws kf mc ms c0 n (.ref (gAd g c0) :: As) M M') (hn : 0 < n) (hok : gOK (gNew g c0 q)) (F : Fx g0 p s m args c cc nL Ts own) {st rest' : List Value}
    (hcall : CnI (gNew g c0 q) l y ws kf mc ms c0 n (.ref (gAd (gNew g c0 q) c0) :: As) M M' → (∀ g1, gExt (gNew g c0 q) g1 c0 n → V g1 p l e R s m args below meth c nL (cells + mc) (slots + ms) Q (pc + 3) lv rest' M') → V (gNew g c0 q) p l e R s m args below meth c nL cells slots Q pc lv st M)
    (kk : ∀ g1, BldX g0 g1 b (c0 + n) U S → Fx g1 p s m args c cc nL Ts own → gAd g1 c0 = q → V g1 p l e R s m args below meth c nL (cells + mc) (slots + ms) Q (pc + 3) lv rest' M') : V (gNew g c0 q) p l e R s m args below meth c nL cells slots Q pc lv st M := by
  have hle : ∀ a ∈ gL (gNew g c0 q), a ≤ c0 := fun a ha => by
    rcases List.mem_append.mp ha with z | z
    · by_cases y : a ≤ c0
      · exact y
      · exact absurd z (hB.nin (by omega))
    · have := List.mem_singleton.mp z; omega
  refine hcall (hmk (gNew g c0 q) hok (List.mem_append_right _ (List.mem_singleton.mpr rfl)) (if_pos rfl) hle) (fun g1 hx => ?_)
  have hB1 := hB.ext hn hx
  refine kk g1 hB1 (hB1.fx F) ?_
  rw [(hx.2.2.2.2.2.1 c0 (List.mem_append_right _ (List.mem_singleton.mpr rfl))).1]
  exact if_pos rfl
/-- a ref put into the field k of b -/
theorem v_fldR (hB : BldX g0 g b c0 U S) (F : Fx g p s m args c cc nL Ts own) {h0 q x k : Nat} (e0 : gAd g0 b = h0) (e1 : gAd g x = q) (hbx : b < x) (hx : x < c0) {ref C : String} {T : u_T} {N ci ix2 : Nat} {ty : FieldType} (hbk : (shp b).1 = ci) (hN : (shp b).2.1 = N) (hr : (shp b).2.2 k = some x) (hc : ci < 12) (hin : ∀ w ∈ u_ws C T N, w ∈ Ts) (ty0 : Nat → FieldType) (hty : ∀ k, k < N → parseFieldDescriptor (T k).2.2.1 = some (ty0 k)) (hnm : ∀ a, a < N → ∀ b, b < N → a ≠ b → (T a).2.1 ≠ (T b).2.1) (hcl : vwCl[ci]? = some (C, T, N)) (hk : k < N) (hlink : Cond.fieldLink own ix2 ref (T k).2.1 (T k).2.2.1 ∈ Ts) (hsame : (T k).1 = ref) (hfin : (T k).2.2.2 = true) (hinit : meth.name = "<init>") (hdecl : (T k).1 = own) (hd : parseFieldDescriptor (T k).2.2.1 = some ty) (hn0 : narrow ty (.ref q) = .ref q) (hfit : fits ty (.ref q) = true) (hdg2 : decode cc pc = .ok (.putfield ix2, 3))
    (kk : ∀ g2, BldX g0 g2 b c0 U ((b, k) :: S) → Fx g2 p s m args c cc nL Ts own → (∀ a, gAd g2 a = gAd g a) → V g2 p l e R s m args below meth c nL cells slots Q (pc + 3) lv rest M) : V g p l e R s m args below meth c nL cells slots Q pc lv (.ref q :: .ref h0 :: rest) M := by
  refine v_putR (k := k) (x := x) (ty := ty) F hB.bin hbk hB.nd ((hB.2.2.2.2.1 b hB.2.2.1.2).1.trans e0) e1 hc hin ty0 hty hnm hcl hN hr (hB.inn hbx hx) hk hlink hsame hfin hinit hdecl hd hn0 hfit hdg2 (fun hok2 => ?_)
  have hB2 := hB.put (a := b) (k := k) (Or.inl rfl) hok2
  exact kk _ hB2 (F.grow rfl rfl rfl rfl hok2) (fun _ => rfl)
end BV
