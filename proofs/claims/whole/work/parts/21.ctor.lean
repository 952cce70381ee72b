/-! Constructors: the pool grows cell by cell. -/
/-- cell b is made at q: its refs null, not done -/
def gNew (g : gT) (b q : Nat) : gT := (g.1, g.2.1, gL g ++ [b], (fun a => if a = b then q else gAd g a), gB g, gSx g, (fun a k => if a = b then true else gNul g a k), (fun a => if a = b then false else gDn g a))
/-- an array of ints (or booleans, longs) b is made at q -/
def gNewA (g : gT) (b q : Nat) : gT := (g.1, g.2.1, gL g ++ [b], (fun a => if a = b then q else gAd g a), gB g, gSx g, (fun a k => if a = b then false else gNul g a k), (fun a => if a = b then true else gDn g a))
/-- place k of b holds its ref now -/
def gPut (g : gT) (b k : Nat) : gT := (g.1, g.2.1, gL g, gAd g, gB g, gSx g, (fun a j => if a = b ∧ j = k then false else gNul g a j), gDn g)
def gDone (g : gT) (b : Nat) : gT := (g.1, g.2.1, gL g, gAd g, gB g, gSx g, gNul g, (fun a => if a = b then true else gDn g a))
def mZ (M : Mem) (b : Nat) : Mem := fun a k => if a = b then 0 else M a k
theorem mZ_ne {M : Mem} {a b : Nat} (h : a ≠ b) : mZ M b a = M a := by
  funext k
  simp [mZ, h]
theorem gE_same {g g' : gT} {M M' : Mem} {a : Nat} (hM : M' a = M a) (hc : g'.2.1 = g.2.1) (hn : ∀ k, gNul g' a k = gNul g a k) (ha : ∀ k r, (shp a).2.2 k = some r → gNul g a k = false → gAd g' r = gAd g r) : gE g' M' a = gE g M a := by
  have h1 : ∀ n, gFl g' M' a (shp a).2.2 n = gFl g M a (shp a).2.2 n := by
    intro n
    unfold gFl
    apply List.map_congr_left
    intro k _
    cases hr : (shp a).2.2 k with
    | none => simp only [hM]
    | some x =>
      simp only [hn k]
      cases hnu : gNul g a k with
      | true => rfl
      | false => simp only [ha k x hr hnu]
  have h2 : (fun k => if gNul g' a k then none else ((shp a).2.2 k).map (gAd g')) = (fun k => if gNul g a k then none else ((shp a).2.2 k).map (gAd g)) := by
    funext k
    rw [hn k]
    cases hnu : gNul g a k with
    | true => rfl
    | false =>
      cases hr : (shp a).2.2 k with
      | none => rfl
      | some x => simp only [Option.map_some, ha k x hr hnu]
  unfold gE
  rw [h1, h2, hc, hM]
theorem gW_grow {g g' : gT} {M M' : Mem} {b : Nat} (hL : gL g' = gL g ++ [b]) (hs : ∀ a ∈ gL g, gAd g' a = gAd g a ∧ gE g' M' a = gE g M a) : gW g' M' = gW g M ++ [(gAd g' b, gE g' M' b)] := by
  unfold gW
  rw [hL, List.map_append]
  congr 1
  apply List.map_congr_left
  intro a ha
  rw [(hs a ha).1, (hs a ha).2]
theorem ne_of_in {g : gT} {a b : Nat} (hb : b ∉ gL g) (ha : a ∈ gL g) : a ≠ b := fun h => hb (h ▸ ha)
theorem gNew_W {g : gT} {M M' : Mem} {b q : Nat} (hok : gOK g) (hb : b ∉ gL g) (hM : ∀ a, a ≠ b → M' a = M a) : gW (gNew g b q) M' = gW g M ++ [(q, gE (gNew g b q) M' b)] := by
  have h := gW_grow (g := g) (g' := gNew g b q) (M := M) (M' := M') (b := b) rfl (fun a ha => ⟨if_neg (ne_of_in hb ha), gE_same (hM a (ne_of_in hb ha)) rfl (fun k => if_neg (ne_of_in hb ha)) (fun k r hr hn => if_neg (ne_of_in hb (hok.2.2.2.2.2 a ha k r hr hn)))⟩)
  rw [h]
  have e : gAd (gNew g b q) b = q := if_pos rfl
  rw [e]
theorem gNewA_W {g : gT} {M M' : Mem} {b q : Nat} (hok : gOK g) (hb : b ∉ gL g) (hM : ∀ a, a ≠ b → M' a = M a) : gW (gNewA g b q) M' = gW g M ++ [(q, gE (gNewA g b q) M' b)] := by
  have h := gW_grow (g := g) (g' := gNewA g b q) (M := M) (M' := M') (b := b) rfl (fun a ha => ⟨if_neg (ne_of_in hb ha), gE_same (hM a (ne_of_in hb ha)) rfl (fun k => if_neg (ne_of_in hb ha)) (fun k r hr hn => if_neg (ne_of_in hb (hok.2.2.2.2.2 a ha k r hr hn)))⟩)
  rw [h]
  have e : gAd (gNewA g b q) b = q := if_pos rfl
  rw [e]
theorem gok_grow {g g' : gT} {b q : Nat} (hok : gOK g) (hb : b ∉ gL g) (hL : gL g' = gL g ++ [b]) (hB : gB g' = gB g) (had : ∀ a ∈ gL g, gAd g' a = gAd g a) (hbq : gAd g' b = q) (hdn : ∀ a ∈ gL g, gDn g' a = gDn g a) (hnu : ∀ a ∈ gL g, ∀ k, gNul g' a k = gNul g a k) (hq : ∀ a ∈ gL g, gAd g a ≠ q) (hq2 : gB g ≤ q) (hsz : (shp b).2.1 < 2147483648)
    (hb1 : gDn g' b = true → (12 ≤ (shp b).1 ∧ (shp b).1 ≠ 14 ∧ (shp b).1 ≠ 15 ∧ (shp b).1 ≠ 16)) (hb2 : ∀ k r, (shp b).2.2 k = some r → gNul g' b k = true) : gOK g' := by
  have hT : ∀ f r, Ty g f r → Ty g' f r := fun f r h => ⟨by rw [hL]; exact List.mem_append_left _ h.1, h.2.1, by rw [hdn r h.1]; exact h.2.2⟩
  have hmem : ∀ a, a ∈ gL g' → a ∈ gL g ∨ a = b := fun a h => by
    rw [hL] at h
    rcases List.mem_append.mp h with h | h
    · exact Or.inl h
    · exact Or.inr (List.mem_singleton.mp h)
  refine ⟨?_, ?_, ?_, ?_, ?_, ?_⟩
  · rw [hL, List.map_append, List.nodup_append]
    refine ⟨?_, List.nodup_cons.mpr ⟨List.not_mem_nil, List.nodup_nil⟩, ?_⟩
    · have e : (gL g).map (gAd g') = (gL g).map (gAd g) := List.map_congr_left had
      rw [e]; exact hok.1
    · intro x hx y hy hxy
      obtain ⟨a, ha, rfl⟩ := List.mem_map.mp hx
      have hy2 : y = q := by
        have := List.mem_singleton.mp hy
        rw [this, hbq]
      rw [had a ha, hy2] at hxy
      exact hq a ha hxy
  · intro a ha
    rcases hmem a ha with h | h
    · rw [hB, had a h]; exact hok.2.1 a h
    · rw [hB, h, hbq]; exact hq2
  · intro a ha hd hk
    rcases hmem a ha with h | h
    · obtain ⟨h1, h2⟩ := hok.2.2.1 a h (by rw [← hdn a h]; exact hd) hk
      refine ⟨h1, fun k f hf => ?_⟩
      have h3 := h2 k f hf
      by_cases h9 : f = 99
      · rw [if_pos h9] at h3 ⊢; exact h3
      · rw [if_neg h9] at h3 ⊢
        obtain ⟨r, hr, hn, hty⟩ := h3
        exact ⟨r, hr, by rw [hnu a h]; exact hn, hT f r hty⟩
    · subst h; have := hb1 hd; omega
  · intro a ha hd k hk
    rcases hmem a ha with h | h
    · obtain ⟨h1, h2, h3⟩ := hok.2.2.2.1 a h (by rw [← hdn a h]; exact hd) k hk
      refine ⟨fun z => ?_, fun z => ?_, fun z => ?_⟩
      · obtain ⟨r, hr, hn, hty⟩ := h1 z; exact ⟨r, hr, by rw [hnu a h]; exact hn, hT _ r hty⟩
      · obtain ⟨r, hr, hn, hty⟩ := h2 z; exact ⟨r, hr, by rw [hnu a h]; exact hn, hT _ r hty⟩
      · obtain ⟨r, hr, hn, hty⟩ := h3 z; exact ⟨r, hr, by rw [hnu a h]; exact hn, hT _ r hty⟩
    · subst h
      have h1 := hb1 hd
      exact ⟨fun z => absurd z h1.2.1, fun z => absurd z h1.2.2.1, fun z => absurd z h1.2.2.2⟩
  · intro a ha
    rcases hmem a ha with h | h
    · exact hok.2.2.2.2.1 a h
    · rw [h]; exact hsz
  · intro a ha k r hr hn
    rw [hL]
    rcases hmem a ha with h | h
    · exact List.mem_append_left _ (hok.2.2.2.2.2 a h k r hr (by rw [← hnu a h]; exact hn))
    · subst h; rw [hb2 k r hr] at hn; cases hn
/-- a put of a ref changes one cell's one place -/
theorem gok_put {g : gT} {b k x : Nat} (hok : gOK g) (hb : gDn g b = false) (hr : (shp b).2.2 k = some x) (hx : x ∈ gL g) : gOK (gPut g b k) := by
  have hT : ∀ f r, Ty g f r → Ty (gPut g b k) f r := fun f r h => h
  have hne : ∀ a, gDn g a = true → ∀ j, gNul (gPut g b k) a j = gNul g a j := fun a h j => if_neg (fun z => by rw [z.1, hb] at h; cases h)
  refine ⟨hok.1, hok.2.1, ?_, ?_, hok.2.2.2.2.1, ?_⟩
  · intro a ha hd hk
    obtain ⟨h1, h2⟩ := hok.2.2.1 a ha hd hk
    refine ⟨h1, fun j f hf => ?_⟩
    have h3 := h2 j f hf
    by_cases h9 : f = 99
    · rw [if_pos h9] at h3 ⊢; exact h3
    · rw [if_neg h9] at h3 ⊢
      obtain ⟨r, hr, hn, hty⟩ := h3
      exact ⟨r, hr, by rw [hne a hd]; exact hn, hty⟩
  · intro a ha hd j hj
    obtain ⟨h1, h2, h3⟩ := hok.2.2.2.1 a ha hd j hj
    refine ⟨fun z => ?_, fun z => ?_, fun z => ?_⟩
    · obtain ⟨r, hr, hn, hty⟩ := h1 z; exact ⟨r, hr, by rw [hne a hd]; exact hn, hty⟩
    · obtain ⟨r, hr, hn, hty⟩ := h2 z; exact ⟨r, hr, by rw [hne a hd]; exact hn, hty⟩
    · obtain ⟨r, hr, hn, hty⟩ := h3 z; exact ⟨r, hr, by rw [hne a hd]; exact hn, hty⟩
  · intro a ha j r hr2 hn
    by_cases z : a = b ∧ j = k
    · obtain ⟨rfl, rfl⟩ := z
      rw [hr] at hr2
      cases hr2
      exact hx
    · exact hok.2.2.2.2.2 a ha j r hr2 (by
        have : gNul (gPut g b k) a j = gNul g a j := if_neg z
        rw [← this]; exact hn)
theorem gW_done {g : gT} {M : Mem} {b : Nat} : gW (gDone g b) M = gW g M := by
  unfold gW
  apply List.map_congr_left
  intro a _
  exact congrArg (fun e => (gAd g a, e)) (gE_same (g := g) (g' := gDone g b) rfl rfl (fun _ => rfl) (fun _ _ _ _ => rfl))
/-- the done cell's refs are in, and done themselves -/
theorem gok_done {g : gT} {b : Nat} (hok : gOK g) (h12 : (shp b).1 < 12) (hN : (shp b).2.1 = (gFK (shp b).1).length) (hf : ∀ (k f : Nat), (gFK (shp b).1)[k]? = some f → if f = 99 then (shp b).2.2 k = none else ∃ r, (shp b).2.2 k = some r ∧ gNul g b k = false ∧ Ty (gDone g b) f r) : gOK (gDone g b) := by
  have hT : ∀ f r, Ty g f r → Ty (gDone g b) f r := fun f r h => ⟨h.1, h.2.1, by
    show (if r = b then true else gDn g r) = true
    by_cases z : r = b
    · rw [if_pos z]
    · rw [if_neg z]; exact h.2.2⟩
  have hdn : ∀ a, a ≠ b → gDn (gDone g b) a = gDn g a := fun a h => if_neg h
  refine ⟨hok.1, hok.2.1, ?_, ?_, hok.2.2.2.2.1, hok.2.2.2.2.2⟩
  · intro a ha hd hk
    by_cases z : a = b
    · subst z; exact ⟨hN, hf⟩
    · obtain ⟨h1, h2⟩ := hok.2.2.1 a ha (by rw [← hdn a z]; exact hd) hk
      refine ⟨h1, fun j f hff => ?_⟩
      have h3 := h2 j f hff
      by_cases h9 : f = 99
      · rw [if_pos h9] at h3 ⊢; exact h3
      · rw [if_neg h9] at h3 ⊢
        obtain ⟨r, hr, hn, hty⟩ := h3
        exact ⟨r, hr, hn, hT f r hty⟩
  · intro a ha hd j hj
    by_cases z : a = b
    · subst z; exact ⟨fun y => by omega, fun y => by omega, fun y => by omega⟩
    · obtain ⟨h1, h2, h3⟩ := hok.2.2.2.1 a ha (by rw [← hdn a z]; exact hd) j hj
      refine ⟨fun z => ?_, fun z => ?_, fun z => ?_⟩
      · obtain ⟨r, hr, hn, hty⟩ := h1 z; exact ⟨r, hr, hn, hT _ r hty⟩
      · obtain ⟨r, hr, hn, hty⟩ := h2 z; exact ⟨r, hr, hn, hT _ r hty⟩
      · obtain ⟨r, hr, hn, hty⟩ := h3 z; exact ⟨r, hr, hn, hT _ r hty⟩
theorem shp_int {b : Nat} (hk : (shp b).1 = 12) : ∀ k r, ¬ (shp b).2.2 k = some r := by
  have h : ∀ e ∈ shL, e.1 = 12 → e.2.2 = [] := by decide +kernel
  intro k r hr
  unfold shp at hk hr
  cases he : shL[b]? with
  | none => rw [he] at hr; cases hr
  | some e =>
    rw [he] at hk hr
    have h1 := h e (List.mem_of_getElem? he) hk
    simp only [h1] at hr
    cases hr
section CTOR
variable {g : gT} {p : Program} {l : Launch} {e : Env} {R : Room} {s : State} {m : MethodId} {args : Array Value} {below : List Frame} {meth : Method} {c : Code} {nL cells slots : Nat} {Q : State → Prop}
variable {cc : ByteArray} {Ts : List Cond} {own : String} {pc : Nat} {lv : List (Nat × Value)} {rest : List Value} {M : Mem}
theorem Fx.grow {g' : gT} (F : Fx g p s m args c cc nL Ts own) (h1 : g'.1 = g.1) (h2 : g'.2.1 = g.2.1) (hB : gB g' = gB g) (hs : gSx g' = gSx g) (hok : gOK g') : Fx g' p s m args c cc nL Ts own := by
  have hA : gA g' = gA g := by unfold gA; rw [hB]
  refine ⟨F.1, ?_, hok, by rw [hB]; exact F.2.2.2.1, ?_⟩
  · have e : gTy g' = gTy g := by unfold gTy; rw [h2]
    rw [h1, e]; exact F.2.1
  · have := F.2.2.2.2
    unfold gX at this ⊢
    rw [hA, hs]; exact this
theorem v_objInit (F : Fx g p s m args c cc nL Ts own) {idx a : Nat} (hlink : Cond.methodLink own idx objectInit ∈ Ts) (hinst : Cond.instanceMethod objectInit ∈ Ts) (hcode : Cond.code objectInit ⟨#[0xb1]⟩ 1 none ∈ Ts) (hdg : decode cc pc = .ok (.invokespecial idx, 3)) (hfr : 1 ≤ R.frames) (hlo : (rest.map fun v => v.category).sum + 12 ≤ R.locals) (kk : V g p l e R s m args below meth c nL cells slots Q (pc + 3) lv rest M) : V g p l e R s m args below meth c nL cells slots Q pc lv (.ref a :: rest) M := fun H locs ls hP hS hl => W.objInit F.1.1 F.1.2.1 F.1.2.2.2.1 (F.1.2.2.2.2 _ hlink) (F.1.2.2.2.2 _ hinst) (F.1.2.2.2.2 _ hcode) rfl (hl.1.trans F.1.2.2.1.symm) rfl hdg hfr (by show 2 * 0 + _ + 12 ≤ _; omega) (kk H locs ls hP hS hl)
theorem gA_new (F : Fx g p s m args c cc nL Ts own) : ∀ q : Nat, s.heap.size ≤ q → gA g q := fun q h => Nat.le_trans F.2.2.2.1 h
theorem fresh_of {ws : va_W} {A : Nat → Prop} {q : Nat} {E : va_E} (hD : va_D A (ws ++ [(q, E)])) : (∀ x ∈ ws, x.1 ≠ q) ∧ A q := by
  have hq : (ws ++ [(q, E)])[ws.length]? = some (q, E) := by simp
  refine ⟨fun x hx h => ?_, hD.2 _ _ hq⟩
  obtain ⟨i, hi⟩ := List.getElem?_of_mem hx
  have hlt : i < ws.length := (List.getElem?_eq_some_iff.mp hi).1
  have h1 : (ws ++ [(q, E)])[i]? = some x := by rw [List.getElem?_append_left hlt]; exact hi
  have := hD.1 i ws.length x (q, E) h1 hq h
  omega
theorem v_new (F : Fx g p s m args c cc nL Ts own) {C : String} {T : u_T} {N ci index b : Nat} (ty : Nat → FieldType) (hty : ∀ k, k < N → parseFieldDescriptor (T k).2.2.1 = some (ty k)) (hin : ∀ w ∈ u_ws C T N, w ∈ Ts) (hcl : vwCl[ci]? = some (C, T, N)) (hclink : Cond.classLink own index C ∈ Ts) (hinst : Cond.instantiable C N ∈ Ts) (hini : Cond.initialized C ∈ Ts) (hb : b ∉ gL g) (hk : (shp b).1 = ci) (hci : ci < 12) (hN : (shp b).2.1 = N) (hsz : N < 2147483648) (hd : ∀ j, j < N → defaultValue (ty j) = (match (shp b).2.2 j with | some _ => Value.null | none => Value.int 0)) (hcells : cells + 1 ≤ R.cells) (hslots : slots + N ≤ R.slots) (hdg : decode cc pc = .ok (.new index, 3))
    (kk : ∀ q, gOK (gNew g b q) → V (gNew g b q) p l e R s m args below meth c nL (cells + 1) (slots + N) Q (pc + 3) lv (.ref q :: rest) (mZ M b)) : V g p l e R s m args below meth c nL cells slots Q pc lv rest M := by
  intro H locs ls hP hS hl
  refine va_new (fs := (List.range N).map (fun k => match (shp b).2.2 k with | some _ => Value.null | none => Value.int 0)) F.1.1 F.1.2.1 F.1.2.2.2.2 hin ty hty F.1.2.2.2.1 (F.1.2.2.2.2 _ hclink) (F.1.2.2.2.2 _ hinst) (F.1.2.2.2.2 _ hini) F.2.1 hP (F.2.2.1.D M) hS (gA_new F) hcl (fun j hj => by rw [hd j hj]; unfold vp_V; rw [List.getD_eq_getElem?_getD, List.getElem?_map, List.getElem?_range hj]; rfl) hcells hslots hdg (fun q H1 hP1 hD1 hS1 => ?_)
  obtain ⟨f1, f2⟩ := fresh_of hD1
  have hok : gOK (gNew g b q) := gok_grow F.2.2.1 hb rfl rfl (fun a ha => if_neg (ne_of_in hb ha)) (if_pos rfl) (fun a ha => if_neg (ne_of_in hb ha)) (fun a ha k => if_neg (ne_of_in hb ha)) (fun a ha h => f1 (gAd g a, gE g M a) (List.mem_map.mpr ⟨a, ha, rfl⟩) h) f2 (by rw [hN]; exact hsz) (fun h => by have h9 : (if b = b then false else gDn g b) = true := h; rw [if_pos rfl] at h9; cases h9) (fun k r _ => if_pos rfl)
  have hE : gE (gNew g b q) (mZ M b) b = .inr (ci, (List.range N).map (fun k => match (shp b).2.2 k with | some _ => Value.null | none => Value.int 0)) := by
    unfold gE
    rw [if_pos (by rw [hk]; exact hci), hk, hN]
    unfold gFl
    congr 2
    apply List.map_congr_left
    intro k _
    cases (shp b).2.2 k with
    | none => simp [mZ]
    | some x => simp [gNul, gNew]
  have hW := gNew_W (M' := mZ M b) (q := q) F.2.2.1 hb (fun a ha => mZ_ne ha)
  rw [hE] at hW
  refine kk q hok H1 locs ls ?_ hS1 hl
  show va_P g.1 vwCl (gW (gNew g b q) (mZ M b)) H1
  rw [hW]; exact hP1
theorem v_newI (F : Fx g p s m args c cc nL Ts own) {b : Nat} {n : Int32} (harr : Cond.arrayClass .int ∈ Ts) (hb : b ∉ gL g) (hk : (shp b).1 = 12) (hn0 : ¬ n < 0) (hN : n.toNatClampNeg = (shp b).2.1) (hsz : (shp b).2.1 * 4 ≤ 536870912) (hcells : cells + 1 ≤ R.cells) (hslots : slots + (shp b).2.1 ≤ R.slots) (hdg : decode cc pc = .ok (.newarray .int, 2))
    (kk : ∀ q, gOK (gNewA g b q) → V (gNewA g b q) p l e R s m args below meth c nL (cells + 1) (slots + (shp b).2.1) Q (pc + 2) lv (.ref q :: rest) (mZ M b)) : V g p l e R s m args below meth c nL cells slots Q pc lv (.int n :: rest) M := by
  intro H locs ls hP hS hl
  refine va_newa (atype := .int) (ty := .int) (N' := (shp b).2.1) (a0 := ((shp b).2.1, .inl (fun _ => 0))) F.1.1 F.1.2.1 (F.1.2.2.2.2 _ harr) rfl F.2.1 hP (F.2.2.1.D M) hS (gA_new F) (fun _ => rfl) hn0 hN hsz hcells hslots hdg (fun q cA H1 hK1 hP1 hD1 hS1 => ?_)
  obtain ⟨f1, f2⟩ := fresh_of hD1
  have hcA : cA = g.2.1 12 := by
    have h1 := (hK1.2 6 (cA, .int) rfl).2
    have h2 := (F.2.1.2 0 (g.2.1 12, .int) rfl).2
    exact Option.some.inj ((va_nm_int h1).symm.trans (va_nm_int h2))
  subst hcA
  have hok : gOK (gNewA g b q) := gok_grow F.2.2.1 hb rfl rfl (fun a ha => if_neg (ne_of_in hb ha)) (if_pos rfl) (fun a ha => if_neg (ne_of_in hb ha)) (fun a ha k => if_neg (ne_of_in hb ha)) (fun a ha h => f1 (gAd g a, gE g M a) (List.mem_map.mpr ⟨a, ha, rfl⟩) h) f2 (by omega) (fun _ => by rw [hk]; decide) (fun k r hr => absurd hr (shp_int hk k r))
  have hE : gE (gNewA g b q) (mZ M b) b = .inl (g.2.1 12, (shp b).2.1, .inl (fun _ => 0)) := by
    unfold gE
    rw [hk, if_neg (by decide), if_pos (by decide)]
    refine congrArg (fun f => Sum.inl (g.2.1 12, (shp b).2.1, Sum.inl f)) (funext fun k => ?_)
    simp [mZ]
  have hW := gNewA_W (M' := mZ M b) (q := q) F.2.2.1 hb (fun a ha => mZ_ne ha)
  rw [hE] at hW
  refine kk q hok H1 locs ls ?_ hS1 hl
  show va_P g.1 vwCl (gW (gNewA g b q) (mZ M b)) H1
  rw [hW]; exact hP1
/-- a final field that is a ref, in a constructor -/
theorem v_putR (F : Fx g p s m args c cc nL Ts own) {ref C : String} {T : u_T} {N ci index b k x h0 h1 : Nat} {ty : FieldType} (hbL : b ∈ gL g) (hbk : (shp b).1 = ci) (hdn : gDn g b = false) (e0 : gAd g b = h0) (e1 : gAd g x = h1) (hc : ci < 12) (hin : ∀ w ∈ u_ws C T N, w ∈ Ts) (ty0 : Nat → FieldType) (hty : ∀ k, k < N → parseFieldDescriptor (T k).2.2.1 = some (ty0 k)) (hnm : ∀ a, a < N → ∀ b, b < N → a ≠ b → (T a).2.1 ≠ (T b).2.1) (hcl : vwCl[ci]? = some (C, T, N)) (hN : (shp b).2.1 = N) (hr : (shp b).2.2 k = some x) (hx : x ∈ gL g) (hk : k < N) (hlink : Cond.fieldLink own index ref (T k).2.1 (T k).2.2.1 ∈ Ts) (hsame : (T k).1 = ref) (hfin : (T k).2.2.2 = true) (hinit : meth.name = "<init>") (hdecl : (T k).1 = own) (hd : parseFieldDescriptor (T k).2.2.1 = some ty) (hn0 : narrow ty (.ref h1) = .ref h1) (hfit : fits ty (.ref h1) = true) (hdg : decode cc pc = .ok (.putfield index, 3))
    (kk : gOK (gPut g b k) → V (gPut g b k) p l e R s m args below meth c nL cells slots Q (pc + 3) lv rest M) : V g p l e R s m args below meth c nL cells slots Q pc lv (.ref h1 :: .ref h0 :: rest) M := by
  intro H locs ls hP hS hl
  subst e0; subst e1
  obtain ⟨j, hj, hjk⟩ := gW_at (g := g) (M := M) hbL
  have hE : gE g M b = .inr (ci, gFl g M b (shp b).2.2 N) := by
    unfold gE
    rw [if_pos (by rw [hbk]; exact hc), hbk, hN]
  rw [hE] at hj
  have hok : gOK (gPut g b k) := gok_put F.2.2.1 hdn hr hx
  have hset : (gW g M).set j (gAd g b, .inr (ci, (gFl g M b (shp b).2.2 N).set k (.ref (gAd g x)))) = gW (gPut g b k) M := by
    apply List.ext_getElem?
    intro i
    rw [List.getElem?_set]
    by_cases hji : j = i
    · subst hji
      have hlt : j < (gL g).length := (List.getElem?_eq_some_iff.mp hjk).1
      rw [if_pos rfl, if_pos (by unfold gW; rw [List.length_map]; exact hlt)]
      have hw : (gW (gPut g b k) M)[j]? = some (gAd g b, gE (gPut g b k) M b) := by
        unfold gW
        rw [List.getElem?_map, show (gL (gPut g b k))[j]? = some b from hjk, Option.map_some]
        rfl
      rw [hw]
      have hE2 : gE (gPut g b k) M b = .inr (ci, gFl (gPut g b k) M b (shp b).2.2 N) := by
        unfold gE
        rw [if_pos (by rw [hbk]; exact hc), hbk, hN]
      rw [hE2]
      have hfl : (gFl g M b (shp b).2.2 N).set k (.ref (gAd g x)) = gFl (gPut g b k) M b (shp b).2.2 N := by
        apply List.ext_getElem?
        intro i2
        rw [List.getElem?_set]
        by_cases hki : k = i2
        · subst hki
          rw [if_pos rfl, if_pos (by unfold gFl; simpa using hk), gFl_at hk, hr]
          simp [gNul, gPut, gAd]
        · rw [if_neg hki]
          by_cases hl2 : i2 < N
          · rw [gFl_at hl2, gFl_at hl2]
            have : gNul (gPut g b k) b i2 = gNul g b i2 := if_neg (fun z => hki z.2.symm)
            rw [this]
            rfl
          · unfold gFl
            simp [hl2]
      rw [hfl]
    · rw [if_neg hji]
      unfold gW
      rw [List.getElem?_map, List.getElem?_map, show gL (gPut g b k) = gL g from rfl]
      cases hb : (gL g)[i]? with
      | none => rw [Option.map_none, Option.map_none]
      | some a =>
        have hba : a ≠ b := by
          intro q
          subst q
          have h1 : ((gL g).map (gAd g))[j]? = some (gAd g a) := by rw [List.getElem?_map, hjk, Option.map_some]
          have h2 : ((gL g).map (gAd g))[i]? = some (gAd g a) := by rw [List.getElem?_map, hb, Option.map_some]
          have hlt : j < ((gL g).map (gAd g)).length := (List.getElem?_eq_some_iff.mp h1).1
          exact hji ((List.getElem?_inj hlt F.2.2.1.1).mp (h1.trans h2.symm))
        rw [Option.map_some, Option.map_some, gE_same (g := g) (g' := gPut g b k) (M := M) (M' := M) rfl rfl (fun k2 => if_neg (fun z => hba z.1)) (fun _ _ _ _ => rfl)]
        rfl
  refine va_putF F.1.1 F.1.2.1 F.1.2.2.2.2 hin ty0 hty hnm F.1.2.2.2.1 F.2.1 hP (F.2.2.1.D M) hS j hj hcl k hk (F.1.2.2.2.2 _ hlink) (fun x h => by rw [← hsame]; exact h) hfin hinit hdecl hd hn0 hfit (by unfold gFl; simpa using hk) hdg (fun H1 locs1 hP1 _ hS1 => ?_)
  rw [hset] at hP1
  exact kk hok H1 locs1 ls hP1 hS1 hl
theorem v_done {b : Nat} (kk : V (gDone g b) p l e R s m args below meth c nL cells slots Q pc lv rest M) : V g p l e R s m args below meth c nL cells slots Q pc lv rest M := fun H locs ls hP hS hl => kk H locs ls (by show va_P g.1 vwCl (gW (gDone g b) M) H; rw [gW_done]; exact hP) hS hl
end CTOR
