/-! Constructors that make others: what is built so far, and a field's new object. -/
section BUILD1
variable {g : gT} {p : Program} {l : Launch} {e : Env} {R : Room} {s : State} {m : MethodId} {args : Array Value} {below : List Frame} {meth : Method} {c : Code} {nL cells slots : Nat} {Q : State → Prop}
variable {cc : ByteArray} {Ts : List Cond} {own : String} {pc : Nat} {lv : List (Nat × Value)} {rest : List Value} {M : Mem}
theorem v_afterI {M' : Mem} {b n mc ms : Nat} {a : Array Value} {H : Heap} {locs : List Loc} {ls : Array Slot} {st : List Value} (hr : va_Run p l e R s m args below meth c H locs cells slots mc ms (F0 m pc ls st) rest (gQI g b n M' a) (gA g)) (hS : va_S (gA g) s.heap H locs) (hl : lv_has ls nL lv)
    (kk : ∀ g', gExt g g' b n → V g' p l e R s m args below meth c nL (cells + mc) (slots + ms) Q (pc + 3) lv rest M') : W p l e R s m args below meth c H locs cells slots Q (F0 m pc ls st) := by
  intro T hT X
  obtain ⟨v', st₀, t, T', L, h0, X', hL, e1, e2, ⟨⟨g', hx, hv, hp⟩, hz, hk⟩, st⟩ := hr T hT X
  cases hv
  rw [h0] at hz hk
  have hS1 : va_S (gA g) s.heap T'.heap (locs ++ L) := ⟨Nat.le_trans hS.1 (by rw [e1]; exact hz), fun q h1 h2 => by rw [e1, hk q (Nat.lt_of_lt_of_le h1 hS.1) h2]; exact hS.2.1 q h1 h2, fun q hq => by
      rcases List.mem_append.mp hq with h | h
      · exact hS.2.2 q h
      · exact hL q h⟩
  have hA : gA g' = gA g := by unfold gA; rw [hx.2.2.1]
  obtain ⟨t2, a1, b1⟩ := kk g' hx T'.heap (locs ++ L) ls (by rw [e1]; exact hp) (by rw [hA]; exact hS1) hl T' rfl X'
  exact ⟨t2, st t2 a1, b1⟩
theorem v_callI (F : Fx g p s m args c cc nL Ts own) {y : MethodName} {ws : List Cond} {k mc ms maxL na index b n : Nat} {bytes : ByteArray} {As : List Value} {M' : Mem} (hM : CnI g l y ws k mc ms b n (.ref (gAd g b) :: As) M M') (cw : CallB R s args own index y bytes maxL none ws ({ frames := k, cells := mc, slots := ms, locals := 40 * k } : Room) mc ms na ∧ y.name = "<init>" ∧ (Cond.instanceMethod y).before args s = true) (hn : As.length = na) {st : List Value} (hst : st = As.reverse ++ .ref (gAd g b) :: rest) (hW : (rest.map fun v => v.category).sum ≤ 8) (hdg : decode cc pc = .ok (.invokespecial index, 3)) (hf : cells + mc ≤ R.cells ∧ slots + ms ≤ R.slots)
    (kk : ∀ g', gExt g g' b n → V g' p l e R s m args below meth c nL (cells + mc) (slots + ms) Q (pc + 3) lv rest M') : V g p l e R s m args below meth c nL cells slots Q pc lv st M := by
  intro H locs ls hP hS hl
  exact v_afterI (va_runI (As := As) (rest := rest) F.1 hM cw ⟨gI_blind, fun U hU hW9 => ⟨rfl, gI_pre F hP hS hU hW9⟩⟩ rfl hn hl.1 hst (lv_room hW) hdg hf) hS hl kk
theorem v_callIN (F : Fx g p s m args c cc nL Ts own) {y : MethodName} {host : String} {ws : List Cond} {k mc ms maxL na index b n : Nat} {bytes : ByteArray} {As : List Value} {M' : Mem} (hM : CnI g l y ws k mc ms b n (.ref (gAd g b) :: As) M M') (cw : va_CN R s args own index y host bytes maxL none ws ({ frames := k, cells := mc, slots := ms, locals := 40 * k } : Room) mc ms na ∧ y.name = "<init>" ∧ (Cond.instanceMethod y).before args s = true) (hn : As.length = na) {st : List Value} (hst : st = As.reverse ++ .ref (gAd g b) :: rest) (hW : (rest.map fun v => v.category).sum ≤ 8) (hdg : decode cc pc = .ok (.invokespecial index, 3)) (hf : cells + mc ≤ R.cells ∧ slots + ms ≤ R.slots)
    (kk : ∀ g', gExt g g' b n → V g' p l e R s m args below meth c nL (cells + mc) (slots + ms) Q (pc + 3) lv rest M') : V g p l e R s m args below meth c nL cells slots Q pc lv st M := by
  intro H locs ls hP hS hl
  exact v_afterI (va_runIN (As := As) (rest := rest) F.1 hM cw ⟨gI_blind, fun U hU hW9 => ⟨rfl, gI_pre F hP hS hU hW9⟩⟩ rfl hn hl.1 hst (lv_room hW) hdg hf) hS hl kk
/-- b is being built since g0: the cells b+1 .. c-1 are made and done, the places K hold their refs -/
def Bld (g0 g : gT) (b c : Nat) (K : List Nat) : Prop := g.1 = g0.1 ∧ g.2.1 = g0.2.1 ∧ gB g = gB g0 ∧ gSx g = gSx g0 ∧ (∀ a, a ∈ gL g ↔ a ∈ gL g0 ∨ (b < a ∧ a < c)) ∧ (∀ a ∈ gL g0, gAd g a = gAd g0 a ∧ (a ≠ b → gDn g a = gDn g0 a ∧ ∀ k, gNul g a k = gNul g0 a k)) ∧ gOK g ∧ (∀ a, b < a → a < c → gDn g a = true) ∧ gDn g b = false ∧ ∀ k ∈ K, gNul g b k = false
theorem Bld.start {g0 : gT} {b : Nat} (hok : gOK g0) (hdn : gDn g0 b = false) : Bld g0 g0 b (b + 1) [] := ⟨rfl, rfl, rfl, rfl, fun a => ⟨Or.inl, fun h => h.elim id (fun h => by omega)⟩, fun _ _ => ⟨rfl, fun _ => ⟨rfl, fun _ => rfl⟩⟩, hok, fun a h1 h2 => by omega, hdn, fun _ h => by cases h⟩
theorem Bld.fx {g0 : gT} {b c0 : Nat} {K : List Nat} (h : Bld g0 g b c0 K) (F : Fx g0 p s m args c cc nL Ts own) : Fx g p s m args c cc nL Ts own := F.grow h.1 h.2.1 h.2.2.1 h.2.2.2.1 h.2.2.2.2.2.2.1
/-- all its refs are set: b is done -/
theorem Bld.done {g0 : gT} {b c0 : Nat} {K : List Nat} (h : Bld g0 g b c0 K) (h12 : (shp b).1 < 12) (hN : (shp b).2.1 = (gFK (shp b).1).length) (hf : ∀ (k f : Nat), (gFK (shp b).1)[k]? = some f → if f = 99 then (shp b).2.2 k = none else ∃ r, (shp b).2.2 k = some r ∧ k ∈ K ∧ b < r ∧ r < c0 ∧ (shp r).1 = f) (hbc : b < c0) (n : Nat) (hn : b + n = c0) : gExt g0 (gDone g b) b n := by
  obtain ⟨h1, h2, h3, h4, h5, h6, h7, h8, h9, h10⟩ := h
  have hok : gOK (gDone g b) := gok_done h7 h12 hN (fun k f hk => by
    have q := hf k f hk
    by_cases hq : f = 99
    · rw [if_pos hq] at q ⊢; exact q
    · rw [if_neg hq] at q ⊢
      obtain ⟨r, q1, q2, q3, q4, q5⟩ := q
      refine ⟨r, q1, h10 k q2, (h5 r).mpr (Or.inr ⟨q3, q4⟩), q5, ?_⟩
      show (if r = b then true else gDn g r) = true
      rw [if_neg (by omega)]
      exact h8 r q3 q4)
  refine ⟨h1, h2, h3, h4, fun a => ?_, fun a ha => ⟨(h6 a ha).1, fun hab => ⟨?_, fun k => ((h6 a ha).2 hab).2 k⟩⟩, hok, fun a q1 q2 => ?_⟩
  · rw [show a ∈ gL (gDone g b) ↔ a ∈ gL g from Iff.rfl, h5 a, hn]
  · show (if a = b then true else gDn g a) = _
    rw [if_neg hab]; exact ((h6 a ha).2 hab).1
  · show (if a = b then true else gDn g a) = true
    by_cases z : a = b
    · rw [if_pos z]
    · rw [if_neg z]; exact h8 a (by omega) (by omega)
/-- a cell is made and initialised behind what stands, then put into b's field k -/
theorem Bld.put {g0 g1 : gT} {b c0 n k q : Nat} {K : List Nat} (h : Bld g0 g b c0 K) (hbL : b ∈ gL g0) (hbc : b < c0) (hfree : ∀ a, b < a → a < c0 + n → a ∉ gL g0) (hn : 0 < n) (hx : gExt (gNew g c0 q) g1 c0 n) (hok : gOK (gPut g1 b k)) : Bld g0 (gPut g1 b k) b (c0 + n) (k :: K) := by
  obtain ⟨h1, h2, h3, h4, h5, h6, h7, h8, h9, h10⟩ := h
  obtain ⟨x1, x2, x3, x4, x5, x6, x7, x8⟩ := hx
  have hin : ∀ a, a ∈ gL (gNew g c0 q) ↔ a ∈ gL g ∨ a = c0 := fun a => by
    show a ∈ gL g ++ [c0] ↔ _
    rw [List.mem_append, List.mem_singleton]
  have hbg : b ∈ gL g := (h5 b).mpr (Or.inl hbL)
  have hbc2 : b ≠ c0 := by omega
  have hb := x6 b ((hin b).mpr (Or.inl hbg))
  refine ⟨x1.trans h1, x2.trans h2, x3.trans h3, x4.trans h4, fun a => ?_, fun a ha => ?_, hok, fun a q1 q2 => ?_, ?_, fun j hj => ?_⟩
  · show a ∈ gL g1 ↔ _
    rw [x5 a, hin a, h5 a]
    constructor
    · rintro ((( z | z) | z) | z)
      · exact Or.inl z
      · exact Or.inr (by omega)
      · exact Or.inr (by omega)
      · exact Or.inr (by omega)
    · rintro (z | z)
      · exact Or.inl (Or.inl (Or.inl z))
      · by_cases z1 : a < c0
        · exact Or.inl (Or.inl (Or.inr ⟨z.1, z1⟩))
        · by_cases z2 : a = c0
          · exact Or.inl (Or.inr z2)
          · exact Or.inr (by omega)
  · have hac : a ≠ c0 := fun z => hfree c0 hbc (by omega) (z ▸ ha)
    have hag : a ∈ gL g := (h5 a).mpr (Or.inl ha)
    obtain ⟨y1, y2⟩ := x6 a ((hin a).mpr (Or.inl hag))
    obtain ⟨w1, w2⟩ := h6 a ha
    refine ⟨?_, fun hab => ⟨?_, fun j => ?_⟩⟩
    · show gAd g1 a = _
      rw [y1]
      show (if a = c0 then q else gAd g a) = _
      rw [if_neg hac]; exact w1
    · show gDn g1 a = _
      rw [(y2 hac).1]
      show (if a = c0 then false else gDn g a) = _
      rw [if_neg hac]; exact (w2 hab).1
    · show (if a = b ∧ j = k then false else gNul g1 a j) = _
      rw [if_neg (fun z => hab z.1), (y2 hac).2 j]
      show (if a = c0 then true else gNul g a j) = _
      rw [if_neg hac]; exact (w2 hab).2 j
  · show gDn g1 a = true
    by_cases z1 : a < c0
    · have hag : a ∈ gL g := (h5 a).mpr (Or.inr ⟨q1, z1⟩)
      rw [((x6 a ((hin a).mpr (Or.inl hag))).2 (by omega)).1]
      show (if a = c0 then false else gDn g a) = true
      rw [if_neg (by omega)]; exact h8 a q1 z1
    · exact x8 a (by omega) (by omega)
  · show gDn g1 b = false
    rw [(hb.2 hbc2).1]
    show (if b = c0 then false else gDn g b) = false
    rw [if_neg hbc2]; exact h9
  · show (if b = b ∧ j = k then false else gNul g1 b j) = false
    by_cases z : j = k
    · rw [if_pos ⟨rfl, z⟩]
    · rw [if_neg (fun y => z y.2), (hb.2 hbc2).2 j]
      show (if b = c0 then true else gNul g b j) = false
      rw [if_neg hbc2]
      rcases List.mem_cons.mp hj with hj | hj
      · exact absurd hj z
      · exact h10 j hj
end BUILD1
