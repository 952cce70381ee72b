/-! The layer: the world is one pool of cells (all that the constructors made); the refs in it never change, the ints are a memory M : address, place -> Int32. -/
abbrev Mem : Type := Nat → Nat → Int32
/-- the cells, by number: 0..11 an object of that class of vwCl, 12 int[], 13 boolean[], 14 Law[], 15 Road[], 16 int[][], 17 long[]; how many places; which places hold which cell. They never change. Cell 0 is the GallopRoads, 250 the GallopRoadsModel, 331 the law's out; 332, 333 the rows that slip() and week() of the model make -/
def shL_0 : List (Nat × Nat × List (Option Nat)) := [(10, 11, [some 1, none, some 3, some 10, none, none, some 11, some 57, none, some 58, some 75]), (8, 1, [some 2]), (12, 300, []), (6, 9, [some 4, none, none, none, some 6, none, none, none, none]), (8, 1, [some 5]), (12, 300, []), (9, 4, [some 7, some 8, some 9, none]), (12, 301, []), (12, 301, []), (12, 301, []), (14, 4, [some 92, some 97, some 102, some 107]), (7, 5, [some 12, some 29, some 38, some 45, some 50]), (1, 10, [none, none, some 13, some 15, some 17, some 19, some 21, some 23, some 25, some 27]), (8, 1, [some 14]), (12, 10, []), (8, 1, [some 16]), (12, 8, []), (8, 1, [some 18]), (12, 8, []), (8, 1, [some 20]), (12, 8, []), (8, 1, [some 22]), (12, 8, []), (8, 1, [some 24]), (12, 8, []), (8, 1, [some 26]), (12, 8, []), (8, 1, [some 28]), (12, 9, []), (2, 5, [none, some 30, some 32, some 34, some 36]), (8, 1, [some 31]), (12, 20, []), (8, 1, [some 33]), (12, 20, []), (8, 1, [some 35]), (12, 20, []), (8, 1, [some 37]), (12, 20, []), (4, 4, [none, some 39, some 41, some 43]), (8, 1, [some 40]), (12, 5, []), (8, 1, [some 42]), (12, 5, []), (8, 1, [some 44]), (12, 5, []), (0, 3, [none, some 46, some 48]), (8, 1, [some 47]), (12, 6, []), (8, 1, [some 49]), (12, 60, []), (5, 4, [none, some 51, some 53, some 55]), (8, 1, [some 52]), (12, 10, []), (8, 1, [some 54]), (12, 10, []), (8, 1, [some 56]), (12, 10, []), (15, 3, [some 112, some 158, some 204]), (1, 10, [none, none, some 59, some 61, some 63, some 65, some 67, some 69, some 71, some 73]), (8, 1, [some 60]), (12, 10, []), (8, 1, [some 62]), (12, 8, []), (8, 1, [some 64]), (12, 8, []), (8, 1, [some 66]), (12, 8, []), (8, 1, [some 68]), (12, 8, []), (8, 1, [some 70]), (12, 8, []), (8, 1, [some 72]), (12, 8, []), (8, 1, [some 74]), (12, 9, []), (1, 10, [none, none, some 76, some 78, some 80, some 82, some 84, some 86, some 88, some 90]), (8, 1, [some 77]), (12, 10, []), (8, 1, [some 79]), (12, 8, []), (8, 1, [some 81]), (12, 8, []), (8, 1, [some 83]), (12, 8, [])]
def shL_1 : List (Nat × Nat × List (Option Nat)) := [(8, 1, [some 85]), (12, 8, []), (8, 1, [some 87]), (12, 8, []), (8, 1, [some 89]), (12, 8, []), (8, 1, [some 91]), (12, 9, []), (3, 5, [none, none, some 93, some 95, none]), (8, 1, [some 94]), (12, 300, []), (8, 1, [some 96]), (12, 300, []), (3, 5, [none, none, some 98, some 100, none]), (8, 1, [some 99]), (12, 300, []), (8, 1, [some 101]), (12, 300, []), (3, 5, [none, none, some 103, some 105, none]), (8, 1, [some 104]), (12, 300, []), (8, 1, [some 106]), (12, 300, []), (3, 5, [none, none, some 108, some 110, none]), (8, 1, [some 109]), (12, 300, []), (8, 1, [some 111]), (12, 300, []), (7, 5, [some 113, some 130, some 139, some 146, some 151]), (1, 10, [none, none, some 114, some 116, some 118, some 120, some 122, some 124, some 126, some 128]), (8, 1, [some 115]), (12, 10, []), (8, 1, [some 117]), (12, 8, []), (8, 1, [some 119]), (12, 8, []), (8, 1, [some 121]), (12, 8, []), (8, 1, [some 123]), (12, 8, []), (8, 1, [some 125]), (12, 8, []), (8, 1, [some 127]), (12, 8, []), (8, 1, [some 129]), (12, 9, []), (2, 5, [none, some 131, some 133, some 135, some 137]), (8, 1, [some 132]), (12, 20, []), (8, 1, [some 134]), (12, 20, []), (8, 1, [some 136]), (12, 20, []), (8, 1, [some 138]), (12, 20, []), (4, 4, [none, some 140, some 142, some 144]), (8, 1, [some 141]), (12, 5, []), (8, 1, [some 143]), (12, 5, []), (8, 1, [some 145]), (12, 5, []), (0, 3, [none, some 147, some 149]), (8, 1, [some 148]), (12, 6, []), (8, 1, [some 150]), (12, 60, []), (5, 4, [none, some 152, some 154, some 156]), (8, 1, [some 153]), (12, 10, []), (8, 1, [some 155]), (12, 10, []), (8, 1, [some 157]), (12, 10, []), (7, 5, [some 159, some 176, some 185, some 192, some 197]), (1, 10, [none, none, some 160, some 162, some 164, some 166, some 168, some 170, some 172, some 174]), (8, 1, [some 161]), (12, 10, []), (8, 1, [some 163]), (12, 8, []), (8, 1, [some 165]), (12, 8, []), (8, 1, [some 167]), (12, 8, [])]
def shL_2 : List (Nat × Nat × List (Option Nat)) := [(8, 1, [some 169]), (12, 8, []), (8, 1, [some 171]), (12, 8, []), (8, 1, [some 173]), (12, 8, []), (8, 1, [some 175]), (12, 9, []), (2, 5, [none, some 177, some 179, some 181, some 183]), (8, 1, [some 178]), (12, 20, []), (8, 1, [some 180]), (12, 20, []), (8, 1, [some 182]), (12, 20, []), (8, 1, [some 184]), (12, 20, []), (4, 4, [none, some 186, some 188, some 190]), (8, 1, [some 187]), (12, 5, []), (8, 1, [some 189]), (12, 5, []), (8, 1, [some 191]), (12, 5, []), (0, 3, [none, some 193, some 195]), (8, 1, [some 194]), (12, 6, []), (8, 1, [some 196]), (12, 60, []), (5, 4, [none, some 198, some 200, some 202]), (8, 1, [some 199]), (12, 10, []), (8, 1, [some 201]), (12, 10, []), (8, 1, [some 203]), (12, 10, []), (7, 5, [some 205, some 222, some 231, some 238, some 243]), (1, 10, [none, none, some 206, some 208, some 210, some 212, some 214, some 216, some 218, some 220]), (8, 1, [some 207]), (12, 10, []), (8, 1, [some 209]), (12, 8, []), (8, 1, [some 211]), (12, 8, []), (8, 1, [some 213]), (12, 8, []), (8, 1, [some 215]), (12, 8, []), (8, 1, [some 217]), (12, 8, []), (8, 1, [some 219]), (12, 8, []), (8, 1, [some 221]), (12, 9, []), (2, 5, [none, some 223, some 225, some 227, some 229]), (8, 1, [some 224]), (12, 20, []), (8, 1, [some 226]), (12, 20, []), (8, 1, [some 228]), (12, 20, []), (8, 1, [some 230]), (12, 20, []), (4, 4, [none, some 232, some 234, some 236]), (8, 1, [some 233]), (12, 5, []), (8, 1, [some 235]), (12, 5, []), (8, 1, [some 237]), (12, 5, []), (0, 3, [none, some 239, some 241]), (8, 1, [some 240]), (12, 6, []), (8, 1, [some 242]), (12, 60, []), (5, 4, [none, some 244, some 246, some 248]), (8, 1, [some 245]), (12, 10, []), (8, 1, [some 247]), (12, 10, []), (8, 1, [some 249]), (12, 10, []), (11, 42, [none, none, none, none, none, none, none, none, none, some 251, some 252, none, some 253, some 258, some 259, some 260, none, none, none, none, none, some 261, some 262, some 267, some 272, some 273, none, some 274, some 279, some 280, some 281, none, none, none, none, none, some 282, some 303, some 309, some 316, some 327, none]), (12, 300, [])]
def shL_3 : List (Nat × Nat × List (Option Nat)) := [(12, 400, []), (16, 4, [some 254, some 255, some 256, some 257]), (12, 400, []), (12, 400, []), (12, 400, []), (12, 400, []), (12, 4, []), (12, 120, []), (12, 9, []), (12, 10, []), (16, 4, [some 263, some 264, some 265, some 266]), (12, 8, []), (12, 8, []), (12, 8, []), (12, 8, []), (16, 4, [some 268, some 269, some 270, some 271]), (12, 8, []), (12, 8, []), (12, 8, []), (12, 8, []), (12, 8, []), (13, 8, []), (16, 4, [some 275, some 276, some 277, some 278]), (12, 8, []), (12, 8, []), (12, 8, []), (12, 8, []), (12, 8, []), (12, 10, []), (13, 8, []), (16, 20, [some 283, some 284, some 285, some 286, some 287, some 288, some 289, some 290, some 291, some 292, some 293, some 294, some 295, some 296, some 297, some 298, some 299, some 300, some 301, some 302]), (12, 4, []), (12, 4, []), (12, 4, []), (12, 4, []), (12, 4, []), (12, 4, []), (12, 4, []), (12, 4, []), (12, 4, []), (12, 4, []), (12, 4, []), (12, 4, []), (12, 4, []), (12, 4, []), (12, 4, []), (12, 4, []), (12, 4, []), (12, 4, []), (12, 4, []), (12, 4, []), (16, 5, [some 304, some 305, some 306, some 307, some 308]), (12, 3, []), (12, 3, []), (12, 3, []), (12, 3, []), (12, 3, []), (16, 6, [some 310, some 311, some 312, some 313, some 314, some 315]), (12, 11, []), (12, 11, []), (12, 11, []), (12, 11, []), (12, 11, []), (12, 11, []), (16, 10, [some 317, some 318, some 319, some 320, some 321, some 322, some 323, some 324, some 325, some 326]), (12, 3, []), (12, 3, []), (12, 3, []), (12, 3, []), (12, 3, []), (12, 3, []), (12, 3, []), (12, 3, []), (12, 3, []), (12, 3, []), (16, 3, [some 328, some 329, some 330]), (12, 320, []), (12, 320, []), (12, 320, []), (17, 1, []), (12, 8, []), (12, 10, [])]
def shL : List (Nat × Nat × List (Option Nat)) := shL_0 ++ shL_1 ++ shL_2 ++ shL_3
def shp (a : Nat) : Nat × Nat × (Nat → Option Nat) := match shL[a]? with
  | some e => (e.1, e.2.1, fun k => e.2.2.getD k none)
  | none => (99, 0, fun _ => none)
/-- classes and slots; the array classes by kind; the cells that are there; where each lies; from where on all is ours; the places of static rows and texts -/
abbrev gT : Type := va_G × (Nat → ClassId) × List Nat × (Nat → Nat) × Nat × (Nat → Nat) × (Nat → Nat → Bool) × (Nat → Bool)
/-- which places hold null still (while a constructor runs), which cells are done -/
def gNul (g : gT) : Nat → Nat → Bool := g.2.2.2.2.2.2.1
def gDn (g : gT) : Nat → Bool := g.2.2.2.2.2.2.2
def gL (g : gT) : List Nat := g.2.2.1
def gAd (g : gT) : Nat → Nat := g.2.2.2.1
def gB (g : gT) : Nat := g.2.2.2.2.1
def gA (g : gT) : Nat → Prop := fun q => gB g ≤ q
def gRf (a k : Nat) : Nat := ((shp a).2.2 k).getD 0
def gN (a : Nat) : Nat := (shp a).2.1
def gFl (g : gT) (M : Mem) (a : Nat) (r : Nat → Option Nat) (n : Nat) : List Value := (List.range n).map (fun k => match r k with | some x => (if gNul g a k then Value.null else Value.ref (gAd g x)) | none => Value.int (M a k))
def gE (g : gT) (M : Mem) (a : Nat) : va_E :=
  if (shp a).1 < 12 then .inr ((shp a).1, gFl g M a (shp a).2.2 (shp a).2.1)
  else if (shp a).1 < 14 then .inl (g.2.1 (shp a).1, (shp a).2.1, .inl (M a))
  else if (shp a).1 = 17 then .inl (g.2.1 17, (shp a).2.1, .inr (.inl (fun k => (M a k).toInt64)))
  else .inl (g.2.1 (shp a).1, (shp a).2.1, .inr (.inr (.inr (.inr (fun k => if gNul g a k then none else ((shp a).2.2 k).map (gAd g))))))
def gW (g : gT) (M : Mem) : va_W := (gL g).map (fun a => (gAd g a, gE g M a))
def gTy (g : gT) : List (ClassId × FieldType) := [(g.2.1 12, .int), (g.2.1 13, .boolean), (g.2.1 14, .object "GallopRoads$Law"), (g.2.1 15, .object "GallopRoads$Road"), (g.2.1 16, .array .int), (g.2.1 17, .long)]
def gP (g : gT) (M : Mem) (H : Heap) : Prop := va_P g.1 vwCl (gW g M) H
/-- of kind k: a cell of ours -/
def Ty (g : gT) (k a : Nat) : Prop := a ∈ gL g ∧ (shp a).1 = k ∧ gDn g a = true
/-- one place of memory written -/
def mU (M : Mem) (a k : Nat) (v : Int32) : Mem := fun b j => if b = a ∧ j = k then v else M b j
theorem mU_row (M : Mem) (a k : Nat) (v : Int32) : mU M a k v a = upd (M a) k v := by
  funext j
  simp [mU, upd]
theorem mU_ne (M : Mem) {a b : Nat} (k : Nat) (v : Int32) (h : b ≠ a) : mU M a k v b = M b := by
  funext j
  simp [mU, h]

/-- what a class's fields hold, in the order of the slots: 99 an int, else the kind of what they name -/
def gFK : Nat → List Nat
  | 0 => [99, 8, 8]
  | 1 => [99, 99, 8, 8, 8, 8, 8, 8, 8, 8]
  | 2 => [99, 8, 8, 8, 8]
  | 3 => [99, 99, 8, 8, 99]
  | 4 => [99, 8, 8, 8]
  | 5 => [99, 8, 8, 8]
  | 6 => [8, 99, 99, 99, 9, 99, 99, 99, 99]
  | 7 => [1, 2, 4, 0, 5]
  | 8 => [12]
  | 9 => [12, 12, 12, 99]
  | 10 => [8, 99, 6, 14, 99, 99, 7, 15, 99, 1, 1]
  | 11 => [99, 99, 99, 99, 99, 99, 99, 99, 99, 12, 12, 99, 16, 12, 12, 12, 99, 99, 99, 99, 99, 12, 16, 16, 12, 13, 99, 16, 12, 12, 13, 99, 99, 99, 99, 99, 16, 16, 16, 16, 16, 99]
  | _ => []
/-- the pool is well made: the addresses apart and ours; objects have their class's fields, arrays of references name what their kind says -/
def gOK (g : gT) : Prop := ((gL g).map (gAd g)).Nodup ∧ (∀ a ∈ gL g, gB g ≤ gAd g a) ∧
  (∀ a ∈ gL g, gDn g a = true → (shp a).1 < 12 → (shp a).2.1 = (gFK (shp a).1).length ∧ ∀ (k f : Nat), (gFK (shp a).1)[k]? = some f → if f = 99 then (shp a).2.2 k = none else ∃ r, (shp a).2.2 k = some r ∧ gNul g a k = false ∧ Ty g f r) ∧
  (∀ a ∈ gL g, gDn g a = true → ∀ k, k < (shp a).2.1 → ((shp a).1 = 14 → ∃ r, (shp a).2.2 k = some r ∧ gNul g a k = false ∧ Ty g 3 r) ∧ ((shp a).1 = 15 → ∃ r, (shp a).2.2 k = some r ∧ gNul g a k = false ∧ Ty g 7 r) ∧ ((shp a).1 = 16 → ∃ r, (shp a).2.2 k = some r ∧ gNul g a k = false ∧ Ty g 12 r)) ∧
  (∀ a ∈ gL g, (shp a).2.1 < 2147483648) ∧ ∀ a ∈ gL g, ∀ k r, (shp a).2.2 k = some r → gNul g a k = false → r ∈ gL g
theorem gW_addr {g : gT} {M : Mem} {k : Nat} {q : Nat × va_E} (hq : (gW g M)[k]? = some q) : ((gL g).map (gAd g))[k]? = some q.1 := by
  unfold gW at hq
  rw [List.getElem?_map] at hq ⊢
  cases hh : (gL g)[k]? with
  | none => rw [hh] at hq; cases hq
  | some x => rw [hh] at hq; cases hq; rfl
theorem gOK.D {g : gT} (h : gOK g) (M : Mem) : va_D (gA g) (gW g M) := by
  refine ⟨fun i j x y hi hj hxy => ?_, fun k q hq => ?_⟩
  · have h1 := gW_addr hi
    have h2 := gW_addr hj
    rw [← hxy] at h2
    have hlt : i < ((gL g).map (gAd g)).length := (List.getElem?_eq_some_iff.mp h1).1
    exact (List.getElem?_inj hlt h.1).mp (h1.trans h2.symm)
  · have h1 := List.mem_of_getElem? (gW_addr hq)
    obtain ⟨a, ha, e⟩ := List.mem_map.mp h1
    rw [← e]
    exact h.2.1 a ha
theorem ty_get {g : gT} (h : gOK g) {ci a k f : Nat} (ht : Ty g ci a) (hc : ci < 12) (hf : (gFK ci)[k]? = some f) (h9 : f ≠ 99) : Ty g f (gRf a k) ∧ (shp a).2.2 k = some (gRf a k) ∧ gNul g a k = false := by
  obtain ⟨ha, hk, hd⟩ := ht
  have h1 := (h.2.2.1 a ha hd (by rw [hk]; exact hc)).2 k f (by rw [hk]; exact hf)
  rw [if_neg h9] at h1
  obtain ⟨r, hr, hn, hT⟩ := h1
  have e : gRf a k = r := by unfold gRf; rw [hr]; rfl
  rw [e]
  exact ⟨hT, hr, hn⟩
theorem ty_int {g : gT} (h : gOK g) {ci a k : Nat} (ht : Ty g ci a) (hc : ci < 12) (hf : (gFK ci)[k]? = some 99) : (shp a).2.2 k = none := by
  obtain ⟨ha, hk, hd⟩ := ht
  have h1 := (h.2.2.1 a ha hd (by rw [hk]; exact hc)).2 k 99 (by rw [hk]; exact hf)
  rwa [if_pos rfl] at h1
theorem ty_row {g : gT} (h : gOK g) {ka a k ke : Nat} (ht : Ty g ka a) (hk : k < gN a) (hc : (ka = 14 ∧ ke = 3) ∨ (ka = 15 ∧ ke = 7) ∨ (ka = 16 ∧ ke = 12)) : Ty g ke (gRf a k) ∧ (shp a).2.2 k = some (gRf a k) ∧ gNul g a k = false := by
  obtain ⟨ha, hka, hd⟩ := ht
  have h1 := h.2.2.2.1 a ha hd k hk
  have : ∃ r, (shp a).2.2 k = some r ∧ gNul g a k = false ∧ Ty g ke r := by
    rcases hc with ⟨q1, q2⟩ | ⟨q1, q2⟩ | ⟨q1, q2⟩
    · rw [q2]; exact h1.1 (by rw [hka, q1])
    · rw [q2]; exact h1.2.1 (by rw [hka, q1])
    · rw [q2]; exact h1.2.2 (by rw [hka, q1])
  obtain ⟨r, hr, hn, hT⟩ := this
  have e : gRf a k = r := by unfold gRf; rw [hr]; rfl
  rw [e]
  exact ⟨hT, hr, hn⟩
theorem gW_at {g : gT} {M : Mem} {a : Nat} (h : a ∈ gL g) : ∃ k : Nat, (gW g M)[k]? = some (gAd g a, gE g M a) ∧ (gL g)[k]? = some a := by
  obtain ⟨k, hk⟩ := List.getElem?_of_mem h
  exact ⟨k, by unfold gW; rw [List.getElem?_map, hk, Option.map_some], hk⟩
theorem gE_ne {g : gT} {M M' : Mem} {a : Nat} (h : M' a = M a) : gE g M' a = gE g M a := by
  unfold gE gFl
  rw [h]
theorem gW_set {g : gT} {M M' : Mem} {a k : Nat} {e : va_E} (hok : gOK g) (hk : (gL g)[k]? = some a) (he : gE g M' a = e) (hne : ∀ b, b ≠ a → M' b = M b) : (gW g M).set k (gAd g a, e) = gW g M' := by
  apply List.ext_getElem?
  intro j
  rw [List.getElem?_set]
  by_cases hj : k = j
  · subst hj
    have hl : k < (gL g).length := (List.getElem?_eq_some_iff.mp hk).1
    have hw : (gW g M')[k]? = some (gAd g a, gE g M' a) := by
      unfold gW
      rw [List.getElem?_map, hk, Option.map_some]
    rw [if_pos rfl, if_pos (by unfold gW; rw [List.length_map]; exact hl), hw, he]
  · rw [if_neg hj]
    unfold gW
    rw [List.getElem?_map, List.getElem?_map]
    cases hb : (gL g)[j]? with
    | none => rw [Option.map_none, Option.map_none]
    | some b =>
      have hba : b ≠ a := by
        intro q
        subst q
        have h1 : ((gL g).map (gAd g))[k]? = some (gAd g b) := by rw [List.getElem?_map, hk, Option.map_some]
        have h2 : ((gL g).map (gAd g))[j]? = some (gAd g b) := by rw [List.getElem?_map, hb, Option.map_some]
        have hlt : k < ((gL g).map (gAd g)).length := (List.getElem?_eq_some_iff.mp h1).1
        exact hj ((List.getElem?_inj hlt hok.1).mp (h1.trans h2.symm))
      rw [Option.map_some, Option.map_some, gE_ne (hne b hba)]
theorem gE_obj {g : gT} {M : Mem} {a ci : Nat} (h : Ty g ci a) (hc : ci < 12) : gE g M a = .inr (ci, gFl g M a (shp a).2.2 (shp a).2.1) := by
  unfold gE
  rw [h.2.1, if_pos hc]
theorem gE_int {g : gT} {M : Mem} {a ka : Nat} (h : Ty g ka a) (hc : ka = 12 ∨ ka = 13) : gE g M a = .inl (g.2.1 ka, gN a, .inl (M a)) := by
  unfold gE
  rw [h.2.1, if_neg (by omega), if_pos (by omega)]
  rfl
theorem gE_ref {g : gT} {M : Mem} {a ka : Nat} (h : Ty g ka a) (hc : ka = 14 ∨ ka = 15 ∨ ka = 16) : gE g M a = .inl (g.2.1 ka, gN a, .inr (.inr (.inr (.inr (fun k => if gNul g a k then none else ((shp a).2.2 k).map (gAd g)))))) := by
  unfold gE
  rw [h.2.1, if_neg (by omega), if_neg (by omega), if_neg (by omega)]
  rfl
theorem gE_long {g : gT} {M : Mem} {a : Nat} (h : Ty g 17 a) : gE g M a = .inl (g.2.1 17, gN a, .inr (.inl (fun k => (M a k).toInt64))) := by
  unfold gE
  rw [h.2.1, if_neg (by omega), if_neg (by omega), if_pos rfl]
  rfl
theorem gFl_at {g : gT} {M : Mem} {a k n : Nat} {r : Nat → Option Nat} (h : k < n) : (gFl g M a r n)[k]? = some (match r k with | some x => (if gNul g a k then Value.null else Value.ref (gAd g x)) | none => Value.int (M a k)) := by
  unfold gFl
  rw [List.getElem?_map, List.getElem?_range h]
  rfl
theorem gFl_set {g : gT} {M : Mem} {a k n : Nat} {v : Int32} {r : Nat → Option Nat} (hr : r k = none) : (gFl g M a r n).set k (.int v) = gFl g (mU M a k v) a r n := by
  apply List.ext_getElem?
  intro j
  rw [List.getElem?_set]
  by_cases hj : k = j
  · subst hj
    rw [if_pos rfl]
    by_cases hl : k < n
    · rw [if_pos (by unfold gFl; simpa using hl), gFl_at hl, hr]
      simp [mU]
    · rw [if_neg (by unfold gFl; simpa using hl)]
      unfold gFl
      simp [hl]
  · rw [if_neg hj]
    by_cases hl : j < n
    · rw [gFl_at hl, gFl_at hl]
      cases r j with
      | some x => rfl
      | none => simp [mU, Ne.symm hj]
    · unfold gFl
      simp [hl]
def exN : Nat → String
  | 0 => "java/lang/IllegalArgumentException"
  | 1 => "java/util/NoSuchElementException"
  | _ => "java/lang/IndexOutOfBoundsException"
def gEX : List String := ["java/lang/IllegalArgumentException", "java/util/NoSuchElementException", "java/lang/IndexOutOfBoundsException"]
def gBW : List Cond := [.castable "java/lang/IllegalArgumentException" "java/lang/IllegalArgumentException", .castable "java/util/NoSuchElementException" "java/util/NoSuchElementException", .castable "java/lang/IndexOutOfBoundsException" "java/lang/IndexOutOfBoundsException", .castable "java/lang/IllegalArgumentException" "java/lang/Object", .castable "java/util/NoSuchElementException" "java/lang/Object", .castable "java/lang/IndexOutOfBoundsException" "java/lang/Object", .castable "java/lang/Throwable" "java/lang/Object", .castable "java/lang/String" "java/lang/Object", .declares ⟨"java/lang/RuntimeException", "<init>", "(Ljava/lang/String;)V"⟩, .declares ⟨"java/lang/Exception", "<init>", "(Ljava/lang/String;)V"⟩, .declares ⟨"java/lang/Throwable", "<init>", "(Ljava/lang/String;)V"⟩]
theorem gBW_warm {s U : State} (hW : s.WarmedH U.vm) (h : ∀ w ∈ gBW, va_Nw w s) : ∀ w ∈ gBW, va_Nw w U := by
  intro w hw
  have h1 := h w hw
  simp only [gBW, List.mem_cons, List.not_mem_nil, or_false] at hw
  rcases hw with rfl | rfl | rfl | rfl | rfl | rfl | rfl | rfl | rfl | rfl | rfl
  · exact va_Nw.warmC hW h1
  · exact va_Nw.warmC hW h1
  · exact va_Nw.warmC hW h1
  · exact va_Nw.warmC hW h1
  · exact va_Nw.warmC hW h1
  · exact va_Nw.warmC hW h1
  · exact va_Nw.warmC hW h1
  · exact va_Nw.warmC hW h1
  all_goals exact va_Nw.warmD hW h1
def gSx (g : gT) : Nat → Nat := g.2.2.2.2.2.1
def nbF : Nat → Int32 := fun j => [4, 20, 10, 5, 2, 8, 0, 300, 30, 0].getD j 0
def nbL : Nat → Int32 := fun j => [1, 0, 0, 0, 0, 0, 0, 0, 0, 0].getD j 0
def nbM : Nat → Int32 := fun j => [99, 99, 99, 99, 99, 99, 99, 9999, 99, 999999].getD j 0
/-- links between nest mates -/
def gNW : List Cond := [.fieldLinkNest RX1 41 "GallopRoads" "NUMBERS_AT_FIRST" "[I" RX10, .methodLinkNest RX10 20 yX6_init RX10, .methodLinkNest RX10 37 yX7_init RX10, .methodLinkNest RX10 56 yX3_init RX10, .methodLinkNest RX1 86 yX10_leastOf RX10, .methodLinkNest RX1 89 yX10_mostOf RX10, .methodLinkNest RX1 92 yX10_bounded RX10, .methodLinkNest RX3 45 yX10_bounded RX10, .methodLinkNest RX6 22 yX9_init RX10, .methodLinkNest RX7 18 yX2_init RX10, .methodLinkNest RX7 25 yX4_init RX10, .methodLinkNest RX7 32 yX0_init RX10, .methodLinkNest RX7 39 yX5_init RX10]
theorem gNW_warm {s U : State} (hW : s.WarmedH U.vm) (h : ∀ w ∈ gNW, va_Nw w s) : ∀ w ∈ gNW, va_Nw w U := by
  intro w hw
  have h1 := h w hw
  simp only [gNW, List.mem_cons, List.not_mem_nil, or_false] at hw
  rcases hw with rfl | rfl | rfl | rfl | rfl | rfl | rfl | rfl | rfl | rfl | rfl | rfl | rfl
  · exact va_Nw.warmF hW h1
  all_goals exact va_Nw.warmM hW h1
/-- the strings of the class: owner, place, text, which of gSx -/
def gST : List (String × Nat × String × Nat) := [(RX10, 163, "no such thing of a piece", 3), (RX10, 310, "a number is out of its bounds", 4), (RX10, 314, "no such piece", 5), (RX10, 317, "no such bridge", 6), (RX10, 321, "no such law", 7), (RX9, 57, "wind tick height turn up spin side holes piece lift twist if or and not least most sign ", 8)]
def wBy : List Int32 := [119, 105, 110, 100, 32, 116, 105, 99, 107, 32, 104, 101, 105, 103, 104, 116, 32, 116, 117, 114, 110, 32, 117, 112, 32, 115, 112, 105, 110, 32, 115, 105, 100, 101, 32, 104, 111, 108, 101, 115, 32, 112, 105, 101, 99, 101, 32, 108, 105, 102, 116, 32, 116, 119, 105, 115, 116, 32, 105, 102, 32, 111, 114, 32, 97, 110, 100, 32, 110, 111, 116, 32, 108, 101, 97, 115, 116, 32, 109, 111, 115, 116, 32, 115, 105, 103, 110, 32]
def gSt (A : Nat → Prop) (nm : String) (f : Nat → Int32) (t : Nat) (U : State) (H : Heap) : Prop := va_Z "GallopRoads" nm "[I" (.ref t) A U H ∧ va_T .int t 10 (fun j => .int (f j)) A U H
/-- what stands outside of the pool and is read: static rows, strings, what a throw reads -/
def gX (g : gT) (U : State) (H : Heap) : Prop := (∀ w ∈ gNW, va_Nw w U) ∧ (∀ q ∈ gST, vk_R q.1 q.2.1 q.2.2.1 (gSx g q.2.2.2) U) ∧
  gSt (gA g) "NUMBERS_AT_FIRST" nbF (gSx g 0) U H ∧ gSt (gA g) "NUMBERS_LEAST" nbL (gSx g 1) U H ∧ gSt (gA g) "NUMBERS_MOST" nbM (gSx g 2) U H ∧
  vx_Zq Bundle.tN "UNASSIGNED_STACK" Bundle.steD (gA g) U H ∧ vx_Zq Bundle.tN "SUPPRESSED_SENTINEL" Bundle.listD (gA g) U H ∧
  vk_S 1 [88] [wBy] (fun _ => gSx g 8) (fun _ => gSx g 9) (gA g) U H ∧ va_Z "java/lang/String" "COMPACT_STRINGS" "Z" (.int 1) (gA g) U H ∧ va_Zq "jdk/internal/util/Preconditions" "SIOOBE_FORMATTER" "Ljava/util/function/BiFunction;" (gA g) U H ∧
  (∀ E ∈ gEX, va_Nw (.castable E E) U) ∧ (∀ E ∈ gEX, ∀ T ∈ gEX, E ≠ T → va_Nc E T U) ∧ ∀ w ∈ gBW, va_Nw w U
theorem gSt.go {A : Nat → Prop} {nm : String} {f : Nat → Int32} {t : Nat} {s U : State} {H H1 : Heap} (hW : s.WarmedH U.vm) (hq : ∀ a : Nat, a < H.size → ¬ A a → H1[a]? = H[a]?) (h : gSt A nm f t s H) : gSt A nm f t U H1 := ⟨va_Z.moved hW.alike (h.1.kept hq), va_T.moved hW.alike (h.2.kept hq)⟩
theorem gX.go {g : gT} {s U : State} {H H1 : Heap} (hW : s.WarmedH U.vm) (hq : ∀ a : Nat, a < H.size → ¬ gA g a → H1[a]? = H[a]?) (h : gX g s H) : gX g U H1 := by
  obtain ⟨h1, h2, h3, h4, h5, h6, h7, h8, h9, h10, h11, h12, h13⟩ := h
  exact ⟨gNW_warm hW h1, fun q hm => vk_R.warm hW (h2 q hm), h3.go hW hq, h4.go hW hq, h5.go hW hq, vx_Zq.moved hW.alike (h6.kept hq), vx_Zq.moved hW.alike (h7.kept hq), vk_S.moved hW.alike (h8.kept hq), va_Z.moved hW.alike (h9.kept hq), va_Zq.moved hW.alike (h10.kept hq), fun E hE => va_Nw.warmC hW (h11 E hE), fun E hE T hT h => va_Nc.moved hW.alike (h12 E hE T hT h), gBW_warm hW h13⟩
/-- what stays of the start: the machine, the code, the words, the classes, the pool's make -/
def Fx (g : gT) (p : Program) (s : State) (m : MethodId) (args : Array Value) (c : Code) (cc : ByteArray) (nL : Nat) (Ts : List Cond) (own : String) : Prop :=
  CallFix p m c cc nL s args Ts own ∧ va_K g.1 vwCl (gTy g) s ∧ gOK g ∧ gB g ≤ s.heap.size ∧ gX g s s.heap
def V (g : gT) (p : Program) (l : Launch) (e : Env) (R : Room) (s : State) (m : MethodId) (args : Array Value) (below : List Frame) (meth : Method) (c : Code) (nL cells slots : Nat) (Q : State → Prop) (pc : Nat) (lv : List (Nat × Value)) (st : List Value) (M : Mem) : Prop :=
  ∀ (H : Heap) (locs : List Loc) (ls : Array Slot), gP g M H → va_S (gA g) s.heap H locs → lv_has ls nL lv → W p l e R s m args below meth c H locs cells slots Q (F0 m pc ls st)
theorem nb_ok {x : Int32} (h : vp_nar .boolean x = x) : narrow .boolean (.int x) = .int x := by
  unfold vp_nar at h
  unfold narrow at h ⊢
  first | (simp only at h ⊢; rw [h]) | simpa using h
theorem sw_out {x : Int32} (lo hi : Int) (h1 : -2147483648 ≤ lo) (h2 : hi ≤ 2147483647) (h : ∀ j : Int, lo ≤ j → j ≤ hi → ¬ x.toInt = j) : x.toInt < lo ∨ hi < x.toInt := by
  rcases Int.lt_or_le x.toInt lo with q | q
  · exact Or.inl q
  · rcases Int.lt_or_le hi x.toInt with r | r
    · exact Or.inr r
    · exact absurd rfl (h x.toInt q r)
theorem gd_some {α : Type} {i : Int32} {n : Nat} {k : Option α} {z : α} (h : (if ¬ (i < 0 ∨ n ≤ i.toNatClampNeg) then k else none) = some z) : vp_in i n ∧ k = some z := by
  by_cases q : i < 0 ∨ n ≤ i.toNatClampNeg
  · rw [if_neg (fun z => z q)] at h; cases h
  · rw [if_pos q] at h; exact ⟨q, h⟩
theorem bd_some {α β : Type} {x : Option α} {k : α → Option β} {z : β} (h : x.bind k = some z) : ∃ q, x = some q ∧ k q = some z := by
  cases x with
  | none => cases h
  | some q => exact ⟨q, rfl, h⟩
section LAYER
variable {g : gT} {p : Program} {l : Launch} {e : Env} {R : Room} {s : State} {m : MethodId} {args : Array Value} {below : List Frame} {meth : Method} {c : Code} {nL cells slots : Nat} {Q : State → Prop}
variable {cc : ByteArray} {Ts : List Cond} {own : String} {pc : Nat} {lv : List (Nat × Value)} {rest : List Value} {M : Mem}
theorem v_iconst (F : Fx g p s m args c cc nL Ts own) {n : Int} {v : Int32} (hdg : decode cc pc = .ok (.iconst n, 1)) (hv : Int32.ofInt n = v) (k : V g p l e R s m args below meth c nL cells slots Q (pc + 1) lv (.int v :: rest) M) : V g p l e R s m args below meth c nL cells slots Q pc lv (rest) M := fun H locs ls hP hS hl => lv_iconst F.1.1 F.1.2.1 hdg hv (k H locs ls hP hS hl)
theorem v_bipush (F : Fx g p s m args c cc nL Ts own) {n : Int} {v : Int32} (hdg : decode cc pc = .ok (.bipush n, 2)) (hv : (Int8.ofInt n).toInt32 = v) (k : V g p l e R s m args below meth c nL cells slots Q (pc + 2) lv (.int v :: rest) M) : V g p l e R s m args below meth c nL cells slots Q pc lv (rest) M := fun H locs ls hP hS hl => lv_bipush F.1.1 F.1.2.1 hdg hv (k H locs ls hP hS hl)
theorem v_sipush (F : Fx g p s m args c cc nL Ts own) {n : Int} {v : Int32} (hdg : decode cc pc = .ok (.sipush n, 3)) (hv : (Int16.ofInt n).toInt32 = v) (k : V g p l e R s m args below meth c nL cells slots Q (pc + 3) lv (.int v :: rest) M) : V g p l e R s m args below meth c nL cells slots Q pc lv (rest) M := fun H locs ls hP hS hl => lv_sipush F.1.1 F.1.2.1 hdg hv (k H locs ls hP hS hl)
theorem v_iload_n (F : Fx g p s m args c cc nL Ts own) {j : Fin 4} {i : Nat} {x : Int32} (hdg : decode cc pc = .ok (.iload_n j, 1)) (hi : (j : Nat) = i) (q : Nat) (hq : lv[q]? = some (i, .int x)) (k : V g p l e R s m args below meth c nL cells slots Q (pc + 1) lv (.int x :: rest) M) : V g p l e R s m args below meth c nL cells slots Q pc lv (rest) M := fun H locs ls hP hS hl => lv_iload_n F.1.1 F.1.2.1 hdg hi (lv_at hl q hq) (k H locs ls hP hS hl)
theorem v_iload (F : Fx g p s m args c cc nL Ts own) {i : Nat} {x : Int32} (hdg : decode cc pc = .ok (.iload i, 2)) (q : Nat) (hq : lv[q]? = some (i, .int x)) (k : V g p l e R s m args below meth c nL cells slots Q (pc + 2) lv (.int x :: rest) M) : V g p l e R s m args below meth c nL cells slots Q pc lv (rest) M := fun H locs ls hP hS hl => lv_iload F.1.1 F.1.2.1 hdg (lv_at hl q hq) (k H locs ls hP hS hl)
theorem v_aload_n (F : Fx g p s m args c cc nL Ts own) {j : Fin 4} {i : Nat} {x : Nat} (hdg : decode cc pc = .ok (.aload_n j, 1)) (hi : (j : Nat) = i) (q : Nat) (hq : lv[q]? = some (i, .ref x)) (k : V g p l e R s m args below meth c nL cells slots Q (pc + 1) lv (.ref x :: rest) M) : V g p l e R s m args below meth c nL cells slots Q pc lv (rest) M := fun H locs ls hP hS hl => lv_aload_n F.1.1 F.1.2.1 hdg hi (lv_at hl q hq) (k H locs ls hP hS hl)
theorem v_aload (F : Fx g p s m args c cc nL Ts own) {i : Nat} {x : Nat} (hdg : decode cc pc = .ok (.aload i, 2)) (q : Nat) (hq : lv[q]? = some (i, .ref x)) (k : V g p l e R s m args below meth c nL cells slots Q (pc + 2) lv (.ref x :: rest) M) : V g p l e R s m args below meth c nL cells slots Q pc lv (rest) M := fun H locs ls hP hS hl => lv_aload F.1.1 F.1.2.1 hdg (lv_at hl q hq) (k H locs ls hP hS hl)
theorem v_null (F : Fx g p s m args c cc nL Ts own) (hdg : decode cc pc = .ok (.aconst_null, 1)) (k : V g p l e R s m args below meth c nL cells slots Q (pc + 1) lv (.null :: rest) M) : V g p l e R s m args below meth c nL cells slots Q pc lv (rest) M := fun H locs ls hP hS hl => lv_null F.1.1 F.1.2.1 hdg (k H locs ls hP hS hl)
theorem v_aload_nN (F : Fx g p s m args c cc nL Ts own) {j : Fin 4} {i : Nat} (hdg : decode cc pc = .ok (.aload_n j, 1)) (hi : (j : Nat) = i) (q : Nat) (hq : lv[q]? = some (i, .null)) (k : V g p l e R s m args below meth c nL cells slots Q (pc + 1) lv (.null :: rest) M) : V g p l e R s m args below meth c nL cells slots Q pc lv (rest) M := fun H locs ls hP hS hl => lv_aload_nN F.1.1 F.1.2.1 hdg hi (lv_at hl q hq) (k H locs ls hP hS hl)
theorem v_aloadN (F : Fx g p s m args c cc nL Ts own) {i : Nat} (hdg : decode cc pc = .ok (.aload i, 2)) (q : Nat) (hq : lv[q]? = some (i, .null)) (k : V g p l e R s m args below meth c nL cells slots Q (pc + 2) lv (.null :: rest) M) : V g p l e R s m args below meth c nL cells slots Q pc lv (rest) M := fun H locs ls hP hS hl => lv_aloadN F.1.1 F.1.2.1 hdg (lv_at hl q hq) (k H locs ls hP hS hl)
theorem v_istore_n (F : Fx g p s m args c cc nL Ts own) {j : Fin 4} {x : Int32} {i : Nat} {lv' : List (Nat × Value)} (hdg : decode cc pc = .ok (.istore_n j, 1)) (hi : (j : Nat) = i) (hn : i < nL) (hq : (i, Value.int x) :: lv.filter (fun q => !(q.1 == i) && !(q.1 + 1 == i && q.2.category == 2)) = lv') (k : V g p l e R s m args below meth c nL cells slots Q (pc + 1) lv' rest M) : V g p l e R s m args below meth c nL cells slots Q pc lv (Value.int x :: rest) M := fun H locs ls hP hS hl => lv_istore_n F.1.1 F.1.2.1 hdg hi hl hn hq (fun ls' hl' => k H locs ls' hP hS hl')
theorem v_istore (F : Fx g p s m args c cc nL Ts own) {x : Int32} {i : Nat} {lv' : List (Nat × Value)} (hdg : decode cc pc = .ok (.istore i, 2)) (hn : i < nL) (hq : (i, Value.int x) :: lv.filter (fun q => !(q.1 == i) && !(q.1 + 1 == i && q.2.category == 2)) = lv') (k : V g p l e R s m args below meth c nL cells slots Q (pc + 2) lv' rest M) : V g p l e R s m args below meth c nL cells slots Q pc lv (Value.int x :: rest) M := fun H locs ls hP hS hl => lv_istore F.1.1 F.1.2.1 hdg hl hn hq (fun ls' hl' => k H locs ls' hP hS hl')
theorem v_astore_n (F : Fx g p s m args c cc nL Ts own) {j : Fin 4} {x : Nat} {i : Nat} {lv' : List (Nat × Value)} (hdg : decode cc pc = .ok (.astore_n j, 1)) (hi : (j : Nat) = i) (hn : i < nL) (hq : (i, Value.ref x) :: lv.filter (fun q => !(q.1 == i) && !(q.1 + 1 == i && q.2.category == 2)) = lv') (k : V g p l e R s m args below meth c nL cells slots Q (pc + 1) lv' rest M) : V g p l e R s m args below meth c nL cells slots Q pc lv (Value.ref x :: rest) M := fun H locs ls hP hS hl => lv_astore_n F.1.1 F.1.2.1 hdg hi hl hn hq (fun ls' hl' => k H locs ls' hP hS hl')
theorem v_astore (F : Fx g p s m args c cc nL Ts own) {x : Nat} {i : Nat} {lv' : List (Nat × Value)} (hdg : decode cc pc = .ok (.astore i, 2)) (hn : i < nL) (hq : (i, Value.ref x) :: lv.filter (fun q => !(q.1 == i) && !(q.1 + 1 == i && q.2.category == 2)) = lv') (k : V g p l e R s m args below meth c nL cells slots Q (pc + 2) lv' rest M) : V g p l e R s m args below meth c nL cells slots Q pc lv (Value.ref x :: rest) M := fun H locs ls hP hS hl => lv_astore F.1.1 F.1.2.1 hdg hl hn hq (fun ls' hl' => k H locs ls' hP hS hl')
theorem v_astore_nN (F : Fx g p s m args c cc nL Ts own) {j : Fin 4} {i : Nat} {lv' : List (Nat × Value)} (hdg : decode cc pc = .ok (.astore_n j, 1)) (hi : (j : Nat) = i) (hn : i < nL) (hq : (i, Value.null) :: lv.filter (fun q => !(q.1 == i) && !(q.1 + 1 == i && q.2.category == 2)) = lv') (k : V g p l e R s m args below meth c nL cells slots Q (pc + 1) lv' rest M) : V g p l e R s m args below meth c nL cells slots Q pc lv (Value.null :: rest) M := fun H locs ls hP hS hl => lv_astore_nN F.1.1 F.1.2.1 hdg hi hl hn hq (fun ls' hl' => k H locs ls' hP hS hl')
theorem v_astoreN (F : Fx g p s m args c cc nL Ts own) {i : Nat} {lv' : List (Nat × Value)} (hdg : decode cc pc = .ok (.astore i, 2)) (hn : i < nL) (hq : (i, Value.null) :: lv.filter (fun q => !(q.1 == i) && !(q.1 + 1 == i && q.2.category == 2)) = lv') (k : V g p l e R s m args below meth c nL cells slots Q (pc + 2) lv' rest M) : V g p l e R s m args below meth c nL cells slots Q pc lv (Value.null :: rest) M := fun H locs ls hP hS hl => lv_astoreN F.1.1 F.1.2.1 hdg hl hn hq (fun ls' hl' => k H locs ls' hP hS hl')
theorem v_iinc (F : Fx g p s m args c cc nL Ts own) {i q : Nat} {n : Int} {x v : Int32} {lv' : List (Nat × Value)} (hdg : decode cc pc = .ok (.iinc i n, 3)) (hk : lv[q]? = some (i, .int x)) (hv : x + Int32.ofInt n = v) (hn : i < nL) (hq : (i, Value.int v) :: lv.filter (fun q => !(q.1 == i) && !(q.1 + 1 == i && q.2.category == 2)) = lv') (k : V g p l e R s m args below meth c nL cells slots Q (pc + 3) lv' rest M) : V g p l e R s m args below meth c nL cells slots Q pc lv rest M := fun H locs ls hP hS hl => lv_iinc F.1.1 F.1.2.1 hdg hl hk hv hn hq (fun ls' hl' => k H locs ls' hP hS hl')
theorem v_iadd (F : Fx g p s m args c cc nL Ts own) {x y : Int32} (hdg : decode cc pc = .ok (.iadd, 1)) (k : V g p l e R s m args below meth c nL cells slots Q (pc + 1) lv (.int (x + y) :: rest) M) : V g p l e R s m args below meth c nL cells slots Q pc lv (.int y :: .int x :: rest) M := fun H locs ls hP hS hl => lv_iadd F.1.1 F.1.2.1 hdg (k H locs ls hP hS hl)
theorem v_isub (F : Fx g p s m args c cc nL Ts own) {x y : Int32} (hdg : decode cc pc = .ok (.isub, 1)) (k : V g p l e R s m args below meth c nL cells slots Q (pc + 1) lv (.int (x - y) :: rest) M) : V g p l e R s m args below meth c nL cells slots Q pc lv (.int y :: .int x :: rest) M := fun H locs ls hP hS hl => lv_isub F.1.1 F.1.2.1 hdg (k H locs ls hP hS hl)
theorem v_imul (F : Fx g p s m args c cc nL Ts own) {x y : Int32} (hdg : decode cc pc = .ok (.imul, 1)) (k : V g p l e R s m args below meth c nL cells slots Q (pc + 1) lv (.int (x * y) :: rest) M) : V g p l e R s m args below meth c nL cells slots Q pc lv (.int y :: .int x :: rest) M := fun H locs ls hP hS hl => lv_imul F.1.1 F.1.2.1 hdg (k H locs ls hP hS hl)
theorem v_iand (F : Fx g p s m args c cc nL Ts own) {x y : Int32} (hdg : decode cc pc = .ok (.iand, 1)) (k : V g p l e R s m args below meth c nL cells slots Q (pc + 1) lv (.int (x &&& y) :: rest) M) : V g p l e R s m args below meth c nL cells slots Q pc lv (.int y :: .int x :: rest) M := fun H locs ls hP hS hl => lv_iand F.1.1 F.1.2.1 hdg (k H locs ls hP hS hl)
theorem v_ior (F : Fx g p s m args c cc nL Ts own) {x y : Int32} (hdg : decode cc pc = .ok (.ior, 1)) (k : V g p l e R s m args below meth c nL cells slots Q (pc + 1) lv (.int (x ||| y) :: rest) M) : V g p l e R s m args below meth c nL cells slots Q pc lv (.int y :: .int x :: rest) M := fun H locs ls hP hS hl => lv_ior F.1.1 F.1.2.1 hdg (k H locs ls hP hS hl)
theorem v_ixor (F : Fx g p s m args c cc nL Ts own) {x y : Int32} (hdg : decode cc pc = .ok (.ixor, 1)) (k : V g p l e R s m args below meth c nL cells slots Q (pc + 1) lv (.int (x ^^^ y) :: rest) M) : V g p l e R s m args below meth c nL cells slots Q pc lv (.int y :: .int x :: rest) M := fun H locs ls hP hS hl => lv_ixor F.1.1 F.1.2.1 hdg (k H locs ls hP hS hl)
theorem v_idiv (F : Fx g p s m args c cc nL Ts own) {x y : Int32} (hdg : decode cc pc = .ok (.idiv, 1)) (hne : ¬ y = 0) (k : V g p l e R s m args below meth c nL cells slots Q (pc + 1) lv (.int (x / y) :: rest) M) : V g p l e R s m args below meth c nL cells slots Q pc lv (.int y :: .int x :: rest) M := fun H locs ls hP hS hl => lv_idiv F.1.1 F.1.2.1 hdg hne (k H locs ls hP hS hl)
theorem v_irem (F : Fx g p s m args c cc nL Ts own) {x y : Int32} (hdg : decode cc pc = .ok (.irem, 1)) (hne : ¬ y = 0) (k : V g p l e R s m args below meth c nL cells slots Q (pc + 1) lv (.int (x - x / y * y) :: rest) M) : V g p l e R s m args below meth c nL cells slots Q pc lv (.int y :: .int x :: rest) M := fun H locs ls hP hS hl => lv_irem F.1.1 F.1.2.1 hdg hne (k H locs ls hP hS hl)
theorem v_ineg (F : Fx g p s m args c cc nL Ts own) {x : Int32} (hdg : decode cc pc = .ok (.ineg, 1)) (k : V g p l e R s m args below meth c nL cells slots Q (pc + 1) lv (.int (-x) :: rest) M) : V g p l e R s m args below meth c nL cells slots Q pc lv (.int x :: rest) M := fun H locs ls hP hS hl => lv_ineg F.1.1 F.1.2.1 hdg (k H locs ls hP hS hl)
theorem v_ishl (F : Fx g p s m args c cc nL Ts own) {x y : Int32} (hdg : decode cc pc = .ok (.ishl, 1)) (k : V g p l e R s m args below meth c nL cells slots Q (pc + 1) lv (.int (x <<< (y &&& 31)) :: rest) M) : V g p l e R s m args below meth c nL cells slots Q pc lv (.int y :: .int x :: rest) M := fun H locs ls hP hS hl => lv_ishl F.1.1 F.1.2.1 hdg (k H locs ls hP hS hl)
theorem v_ishr (F : Fx g p s m args c cc nL Ts own) {x y : Int32} (hdg : decode cc pc = .ok (.ishr, 1)) (k : V g p l e R s m args below meth c nL cells slots Q (pc + 1) lv (.int (x >>> (y &&& 31)) :: rest) M) : V g p l e R s m args below meth c nL cells slots Q pc lv (.int y :: .int x :: rest) M := fun H locs ls hP hS hl => lv_ishr F.1.1 F.1.2.1 hdg (k H locs ls hP hS hl)
theorem v_iushr (F : Fx g p s m args c cc nL Ts own) {x y v : Int32} (hdg : decode cc pc = .ok (.iushr, 1)) (hv : (x.toUInt32 >>> (y.toUInt32 &&& Int32.toUInt32 31)).toInt32 = v) (k : V g p l e R s m args below meth c nL cells slots Q (pc + 1) lv (.int v :: rest) M) : V g p l e R s m args below meth c nL cells slots Q pc lv (.int y :: .int x :: rest) M := fun H locs ls hP hS hl => lv_iushr F.1.1 F.1.2.1 hdg hv (k H locs ls hP hS hl)
theorem v_i2l (F : Fx g p s m args c cc nL Ts own) {x : Int32} {v : Int64} (hdg : decode cc pc = .ok (.i2l, 1)) (hv : x.toInt64 = v) (k : V g p l e R s m args below meth c nL cells slots Q (pc + 1) lv (.long v :: rest) M) : V g p l e R s m args below meth c nL cells slots Q pc lv (.int x :: rest) M := fun H locs ls hP hS hl => lv_i2l F.1.1 F.1.2.1 hdg hv (k H locs ls hP hS hl)
theorem v_lconst (F : Fx g p s m args c cc nL Ts own) {n : Fin 2} {v : Int64} (hdg : decode cc pc = .ok (.lconst n, 1)) (hv : Int64.ofNat (n : Nat) = v) (k : V g p l e R s m args below meth c nL cells slots Q (pc + 1) lv (.long v :: rest) M) : V g p l e R s m args below meth c nL cells slots Q pc lv (rest) M := fun H locs ls hP hS hl => lv_lconst F.1.1 F.1.2.1 hdg hv (k H locs ls hP hS hl)
theorem v_dup (F : Fx g p s m args c cc nL Ts own) {va : Value} (hdg : decode cc pc = .ok (.dup, 1)) (hva : va.category = 1) (k : V g p l e R s m args below meth c nL cells slots Q (pc + 1) lv (va :: va :: rest) M) : V g p l e R s m args below meth c nL cells slots Q pc lv (va :: rest) M := fun H locs ls hP hS hl => lv_dup F.1.1 F.1.2.1 hdg hva (k H locs ls hP hS hl)
theorem v_pop (F : Fx g p s m args c cc nL Ts own) {va : Value} (hdg : decode cc pc = .ok (.pop, 1)) (hva : va.category = 1) (k : V g p l e R s m args below meth c nL cells slots Q (pc + 1) lv (rest) M) : V g p l e R s m args below meth c nL cells slots Q pc lv (va :: rest) M := fun H locs ls hP hS hl => lv_pop F.1.1 F.1.2.1 hdg hva (k H locs ls hP hS hl)
theorem v_dup_x1 (F : Fx g p s m args c cc nL Ts own) {va vb : Value} (hdg : decode cc pc = .ok (.dup_x1, 1)) (hva : va.category = 1) (hvb : vb.category = 1) (k : V g p l e R s m args below meth c nL cells slots Q (pc + 1) lv (va :: vb :: va :: rest) M) : V g p l e R s m args below meth c nL cells slots Q pc lv (va :: vb :: rest) M := fun H locs ls hP hS hl => lv_dup_x1 F.1.1 F.1.2.1 hdg hva hvb (k H locs ls hP hS hl)
theorem v_dup2 (F : Fx g p s m args c cc nL Ts own) {va vb : Value} (hdg : decode cc pc = .ok (.dup2, 1)) (hva : va.category = 1) (hvb : vb.category = 1) (k : V g p l e R s m args below meth c nL cells slots Q (pc + 1) lv (va :: vb :: va :: vb :: rest) M) : V g p l e R s m args below meth c nL cells slots Q pc lv (va :: vb :: rest) M := fun H locs ls hP hS hl => lv_dup2_11 F.1.1 F.1.2.1 hdg hva hvb (k H locs ls hP hS hl)
theorem v_if_eq (F : Fx g p s m args c cc nL Ts own) {x : Int32} {off : Int} {tgt : Nat} (hdg : decode cc pc = .ok (.ifCond .eq off, 3)) (ht : (pc : Int) + off = (tgt : Int)) (kt : x = 0 → V g p l e R s m args below meth c nL cells slots Q tgt lv rest M) (kf : ¬ x = 0 → V g p l e R s m args below meth c nL cells slots Q (pc + 3) lv rest M) : V g p l e R s m args below meth c nL cells slots Q pc lv (.int x :: rest) M := fun H locs ls hP hS hl => lv_if_eq F.1.1 F.1.2.1 hdg ht (fun hc => kt hc H locs ls hP hS hl) (fun hc => kf hc H locs ls hP hS hl)
theorem v_if_ne (F : Fx g p s m args c cc nL Ts own) {x : Int32} {off : Int} {tgt : Nat} (hdg : decode cc pc = .ok (.ifCond .ne off, 3)) (ht : (pc : Int) + off = (tgt : Int)) (kt : ¬ x = 0 → V g p l e R s m args below meth c nL cells slots Q tgt lv rest M) (kf : x = 0 → V g p l e R s m args below meth c nL cells slots Q (pc + 3) lv rest M) : V g p l e R s m args below meth c nL cells slots Q pc lv (.int x :: rest) M := fun H locs ls hP hS hl => lv_if_ne F.1.1 F.1.2.1 hdg ht (fun hc => kt hc H locs ls hP hS hl) (fun hc => kf hc H locs ls hP hS hl)
theorem v_if_lt (F : Fx g p s m args c cc nL Ts own) {x : Int32} {off : Int} {tgt : Nat} (hdg : decode cc pc = .ok (.ifCond .lt off, 3)) (ht : (pc : Int) + off = (tgt : Int)) (kt : x < 0 → V g p l e R s m args below meth c nL cells slots Q tgt lv rest M) (kf : ¬ x < 0 → V g p l e R s m args below meth c nL cells slots Q (pc + 3) lv rest M) : V g p l e R s m args below meth c nL cells slots Q pc lv (.int x :: rest) M := fun H locs ls hP hS hl => lv_if_lt F.1.1 F.1.2.1 hdg ht (fun hc => kt hc H locs ls hP hS hl) (fun hc => kf hc H locs ls hP hS hl)
theorem v_if_ge (F : Fx g p s m args c cc nL Ts own) {x : Int32} {off : Int} {tgt : Nat} (hdg : decode cc pc = .ok (.ifCond .ge off, 3)) (ht : (pc : Int) + off = (tgt : Int)) (kt : 0 ≤ x → V g p l e R s m args below meth c nL cells slots Q tgt lv rest M) (kf : ¬ 0 ≤ x → V g p l e R s m args below meth c nL cells slots Q (pc + 3) lv rest M) : V g p l e R s m args below meth c nL cells slots Q pc lv (.int x :: rest) M := fun H locs ls hP hS hl => lv_if_ge F.1.1 F.1.2.1 hdg ht (fun hc => kt hc H locs ls hP hS hl) (fun hc => kf hc H locs ls hP hS hl)
theorem v_if_gt (F : Fx g p s m args c cc nL Ts own) {x : Int32} {off : Int} {tgt : Nat} (hdg : decode cc pc = .ok (.ifCond .gt off, 3)) (ht : (pc : Int) + off = (tgt : Int)) (kt : 0 < x → V g p l e R s m args below meth c nL cells slots Q tgt lv rest M) (kf : ¬ 0 < x → V g p l e R s m args below meth c nL cells slots Q (pc + 3) lv rest M) : V g p l e R s m args below meth c nL cells slots Q pc lv (.int x :: rest) M := fun H locs ls hP hS hl => lv_if_gt F.1.1 F.1.2.1 hdg ht (fun hc => kt hc H locs ls hP hS hl) (fun hc => kf hc H locs ls hP hS hl)
theorem v_if_le (F : Fx g p s m args c cc nL Ts own) {x : Int32} {off : Int} {tgt : Nat} (hdg : decode cc pc = .ok (.ifCond .le off, 3)) (ht : (pc : Int) + off = (tgt : Int)) (kt : x ≤ 0 → V g p l e R s m args below meth c nL cells slots Q tgt lv rest M) (kf : ¬ x ≤ 0 → V g p l e R s m args below meth c nL cells slots Q (pc + 3) lv rest M) : V g p l e R s m args below meth c nL cells slots Q pc lv (.int x :: rest) M := fun H locs ls hP hS hl => lv_if_le F.1.1 F.1.2.1 hdg ht (fun hc => kt hc H locs ls hP hS hl) (fun hc => kf hc H locs ls hP hS hl)
theorem v_icmp_eq (F : Fx g p s m args c cc nL Ts own) {x y : Int32} {off : Int} {tgt : Nat} (hdg : decode cc pc = .ok (.if_icmp .eq off, 3)) (ht : (pc : Int) + off = (tgt : Int)) (kt : x = y → V g p l e R s m args below meth c nL cells slots Q tgt lv rest M) (kf : ¬ x = y → V g p l e R s m args below meth c nL cells slots Q (pc + 3) lv rest M) : V g p l e R s m args below meth c nL cells slots Q pc lv (.int y :: .int x :: rest) M := fun H locs ls hP hS hl => lv_icmp_eq F.1.1 F.1.2.1 hdg ht (fun hc => kt hc H locs ls hP hS hl) (fun hc => kf hc H locs ls hP hS hl)
theorem v_icmp_ne (F : Fx g p s m args c cc nL Ts own) {x y : Int32} {off : Int} {tgt : Nat} (hdg : decode cc pc = .ok (.if_icmp .ne off, 3)) (ht : (pc : Int) + off = (tgt : Int)) (kt : ¬ x = y → V g p l e R s m args below meth c nL cells slots Q tgt lv rest M) (kf : x = y → V g p l e R s m args below meth c nL cells slots Q (pc + 3) lv rest M) : V g p l e R s m args below meth c nL cells slots Q pc lv (.int y :: .int x :: rest) M := fun H locs ls hP hS hl => lv_icmp_ne F.1.1 F.1.2.1 hdg ht (fun hc => kt hc H locs ls hP hS hl) (fun hc => kf hc H locs ls hP hS hl)
theorem v_icmp_lt (F : Fx g p s m args c cc nL Ts own) {x y : Int32} {off : Int} {tgt : Nat} (hdg : decode cc pc = .ok (.if_icmp .lt off, 3)) (ht : (pc : Int) + off = (tgt : Int)) (kt : x < y → V g p l e R s m args below meth c nL cells slots Q tgt lv rest M) (kf : ¬ x < y → V g p l e R s m args below meth c nL cells slots Q (pc + 3) lv rest M) : V g p l e R s m args below meth c nL cells slots Q pc lv (.int y :: .int x :: rest) M := fun H locs ls hP hS hl => lv_icmp_lt F.1.1 F.1.2.1 hdg ht (fun hc => kt hc H locs ls hP hS hl) (fun hc => kf hc H locs ls hP hS hl)
theorem v_icmp_ge (F : Fx g p s m args c cc nL Ts own) {x y : Int32} {off : Int} {tgt : Nat} (hdg : decode cc pc = .ok (.if_icmp .ge off, 3)) (ht : (pc : Int) + off = (tgt : Int)) (kt : y ≤ x → V g p l e R s m args below meth c nL cells slots Q tgt lv rest M) (kf : ¬ y ≤ x → V g p l e R s m args below meth c nL cells slots Q (pc + 3) lv rest M) : V g p l e R s m args below meth c nL cells slots Q pc lv (.int y :: .int x :: rest) M := fun H locs ls hP hS hl => lv_icmp_ge F.1.1 F.1.2.1 hdg ht (fun hc => kt hc H locs ls hP hS hl) (fun hc => kf hc H locs ls hP hS hl)
theorem v_icmp_gt (F : Fx g p s m args c cc nL Ts own) {x y : Int32} {off : Int} {tgt : Nat} (hdg : decode cc pc = .ok (.if_icmp .gt off, 3)) (ht : (pc : Int) + off = (tgt : Int)) (kt : y < x → V g p l e R s m args below meth c nL cells slots Q tgt lv rest M) (kf : ¬ y < x → V g p l e R s m args below meth c nL cells slots Q (pc + 3) lv rest M) : V g p l e R s m args below meth c nL cells slots Q pc lv (.int y :: .int x :: rest) M := fun H locs ls hP hS hl => lv_icmp_gt F.1.1 F.1.2.1 hdg ht (fun hc => kt hc H locs ls hP hS hl) (fun hc => kf hc H locs ls hP hS hl)
theorem v_icmp_le (F : Fx g p s m args c cc nL Ts own) {x y : Int32} {off : Int} {tgt : Nat} (hdg : decode cc pc = .ok (.if_icmp .le off, 3)) (ht : (pc : Int) + off = (tgt : Int)) (kt : x ≤ y → V g p l e R s m args below meth c nL cells slots Q tgt lv rest M) (kf : ¬ x ≤ y → V g p l e R s m args below meth c nL cells slots Q (pc + 3) lv rest M) : V g p l e R s m args below meth c nL cells slots Q pc lv (.int y :: .int x :: rest) M := fun H locs ls hP hS hl => lv_icmp_le F.1.1 F.1.2.1 hdg ht (fun hc => kt hc H locs ls hP hS hl) (fun hc => kf hc H locs ls hP hS hl)
theorem v_goto (F : Fx g p s m args c cc nL Ts own) {off : Int} {tgt : Nat} (hdg : decode cc pc = .ok (.goto off, 3)) (ht : (pc : Int) + off = (tgt : Int)) (k : V g p l e R s m args below meth c nL cells slots Q tgt lv rest M) : V g p l e R s m args below meth c nL cells slots Q pc lv rest M := fun H locs ls hP hS hl => lv_goto F.1.1 F.1.2.1 hdg ht (k H locs ls hP hS hl)
theorem v_ifnonnull (F : Fx g p s m args c cc nL Ts own) {x : Nat} {off : Int} {tgt : Nat} (hdg : decode cc pc = .ok (.ifnonnull off, 3)) (ht : (pc : Int) + off = (tgt : Int)) (k : V g p l e R s m args below meth c nL cells slots Q tgt lv rest M) : V g p l e R s m args below meth c nL cells slots Q pc lv (.ref x :: rest) M := fun H locs ls hP hS hl => lv_ifnonnull F.1.1 F.1.2.1 hdg ht (k H locs ls hP hS hl)
theorem v_ifnonnullN (F : Fx g p s m args c cc nL Ts own) {off : Int} (hdg : decode cc pc = .ok (.ifnonnull off, 3)) (k : V g p l e R s m args below meth c nL cells slots Q (pc + 3) lv rest M) : V g p l e R s m args below meth c nL cells slots Q pc lv (.null :: rest) M := fun H locs ls hP hS hl => lv_ifnonnullN F.1.1 F.1.2.1 hdg (k H locs ls hP hS hl)
theorem v_tableIn (F : Fx g p s m args c cc nL Ts own) {dflt lo hi : Int} {offs : Array Int} {len : Nat} {x : Int32} {off : Int} {tgt : Nat} (hdg : decode cc pc = .ok (.tableswitch dflt lo hi offs, len)) (h1 : ¬ x.toInt < lo) (h2 : ¬ hi < x.toInt) (ho : offs[(x.toInt - lo).toNat]? = some off) (ht : (pc : Int) + off = (tgt : Int)) (k : V g p l e R s m args below meth c nL cells slots Q tgt lv rest M) : V g p l e R s m args below meth c nL cells slots Q pc lv (.int x :: rest) M := fun H locs ls hP hS hl => lv_tableIn F.1.1 F.1.2.1 hdg h1 h2 ho ht (k H locs ls hP hS hl)
theorem v_tableOut (F : Fx g p s m args c cc nL Ts own) {dflt lo hi : Int} {offs : Array Int} {len : Nat} {x : Int32} {tgt : Nat} (hdg : decode cc pc = .ok (.tableswitch dflt lo hi offs, len)) (h : x.toInt < lo ∨ hi < x.toInt) (ht : (pc : Int) + dflt = (tgt : Int)) (k : V g p l e R s m args below meth c nL cells slots Q tgt lv rest M) : V g p l e R s m args below meth c nL cells slots Q pc lv (.int x :: rest) M := fun H locs ls hP hS hl => lv_tableOut F.1.1 F.1.2.1 hdg h ht (k H locs ls hP hS hl)
theorem v_lookup (F : Fx g p s m args c cc nL Ts own) {dflt : Int} {ps : Array (Int × Int)} {len : Nat} {x : Int32} {off : Int} {tgt : Nat} (hdg : decode cc pc = .ok (.lookupswitch dflt ps, len)) (hp : (ps.toList.zip (ps.toList.drop 1)).all (fun (a, next) => a.1 < next.1) = true) (ho : Op.lookupswitch.offset ps.toList dflt x.toInt = off) (ht : (pc : Int) + off = (tgt : Int)) (k : V g p l e R s m args below meth c nL cells slots Q tgt lv rest M) : V g p l e R s m args below meth c nL cells slots Q pc lv (.int x :: rest) M := fun H locs ls hP hS hl => lv_lookup F.1.1 F.1.2.1 hdg hp ho ht (k H locs ls hP hS hl)
theorem v_ldc (F : Fx g p s m args c cc nL Ts own) {index : Nat} {v : Int32} (hconst : (Jvm.Cond.constant own index v).before args s = true) (hdg : decode cc pc = .ok (.ldc index, 2)) (k : V g p l e R s m args below meth c nL cells slots Q (pc + 2) lv (.int v :: rest) M) : V g p l e R s m args below meth c nL cells slots Q pc lv rest M := fun H locs ls hP hS hl => lv_ldc F.1.1 F.1.2.1 F.1.2.2.2.1 hconst hdg (k H locs ls hP hS hl)
theorem v_ldcw (F : Fx g p s m args c cc nL Ts own) {index : Nat} {v : Int32} (hconst : (Jvm.Cond.constant own index v).before args s = true) (hdg : decode cc pc = .ok (.ldc_w index, 3)) (k : V g p l e R s m args below meth c nL cells slots Q (pc + 3) lv (.int v :: rest) M) : V g p l e R s m args below meth c nL cells slots Q pc lv rest M := fun H locs ls hP hS hl => lv_ldcw F.1.1 F.1.2.1 F.1.2.2.2.1 hconst hdg (k H locs ls hP hS hl)
theorem v_sub {lv2 : List (Nat × Value)} (hl' : ∀ ls, lv_has ls nL lv → lv_has ls nL lv2) (k : V g p l e R s m args below meth c nL cells slots Q pc lv2 rest M) : V g p l e R s m args below meth c nL cells slots Q pc lv rest M := fun H locs ls hP hS hl => k H locs ls hP hS (hl' ls hl)
theorem v_getI (F : Fx g p s m args c cc nL Ts own) {ref C : String} {T : u_T} {N ci index a k : Nat} (hT : Ty g ci a) (hc : ci < 12) (hin : ∀ w ∈ u_ws C T N, w ∈ Ts) (hcl : vwCl[ci]? = some (C, T, N)) (hf : (gFK ci)[k]? = some 99) (hk : k < N) (hlink : Cond.fieldLink own index ref (T k).2.1 (T k).2.2.1 ∈ Ts) (hsame : (T k).1 = ref) (hdg : decode cc pc = .ok (.getfield index, 3)) (kk : V g p l e R s m args below meth c nL cells slots Q (pc + 3) lv (.int (M a k) :: rest) M) : V g p l e R s m args below meth c nL cells slots Q pc lv (.ref (gAd g a) :: rest) M := by
  intro H locs ls hP hS hl
  obtain ⟨j, hj, hjk⟩ := gW_at (g := g) (M := M) hT.1
  rw [gE_obj hT hc] at hj
  have hn := (F.2.2.1.2.2.1 a hT.1 hT.2.2 (by rw [hT.2.1]; exact hc)).1
  rw [hT.2.1] at hn
  have hk2 : k < (gFK ci).length := (List.getElem?_eq_some_iff.mp hf).1
  have hv : (gFl g M a (shp a).2.2 (shp a).2.1)[k]? = some (.int (M a k)) := by
    rw [gFl_at (by rw [hn]; exact hk2), ty_int F.2.2.1 hT hc hf]
  exact va_get F.1.1 F.1.2.1 F.1.2.2.2.2 hin F.1.2.2.2.1 F.2.1 hP j hj hcl k hk (F.1.2.2.2.2 _ hlink) (fun x h => by rw [← hsame]; exact h) hv hdg (kk H locs ls hP hS hl)
theorem v_getR (F : Fx g p s m args c cc nL Ts own) {ref C : String} {T : u_T} {N ci index a k f : Nat} (hT : Ty g ci a) (hc : ci < 12) (hin : ∀ w ∈ u_ws C T N, w ∈ Ts) (hcl : vwCl[ci]? = some (C, T, N)) (hf : (gFK ci)[k]? = some f) (h9 : f ≠ 99) (hk : k < N) (hlink : Cond.fieldLink own index ref (T k).2.1 (T k).2.2.1 ∈ Ts) (hsame : (T k).1 = ref) (hdg : decode cc pc = .ok (.getfield index, 3)) (kk : Ty g f (gRf a k) → V g p l e R s m args below meth c nL cells slots Q (pc + 3) lv (.ref (gAd g (gRf a k)) :: rest) M) : V g p l e R s m args below meth c nL cells slots Q pc lv (.ref (gAd g a) :: rest) M := by
  intro H locs ls hP hS hl
  obtain ⟨j, hj, hjk⟩ := gW_at (g := g) (M := M) hT.1
  rw [gE_obj hT hc] at hj
  have hn := (F.2.2.1.2.2.1 a hT.1 hT.2.2 (by rw [hT.2.1]; exact hc)).1
  rw [hT.2.1] at hn
  have hk2 : k < (gFK ci).length := (List.getElem?_eq_some_iff.mp hf).1
  obtain ⟨ht, hr, hnu⟩ := ty_get F.2.2.1 hT hc hf h9
  have hv : (gFl g M a (shp a).2.2 (shp a).2.1)[k]? = some (.ref (gAd g (gRf a k))) := by
    rw [gFl_at (by rw [hn]; exact hk2), hr]
    show some (if gNul g a k then Value.null else _) = _
    rw [hnu]
    rfl
  exact va_get F.1.1 F.1.2.1 F.1.2.2.2.2 hin F.1.2.2.2.1 F.2.1 hP j hj hcl k hk (F.1.2.2.2.2 _ hlink) (fun x h => by rw [← hsame]; exact h) hv hdg (kk ht H locs ls hP hS hl)
theorem v_put (F : Fx g p s m args c cc nL Ts own) {ref C : String} {T : u_T} {N ci index a k : Nat} {v : Int32} {ty : FieldType} (hT : Ty g ci a) (hc : ci < 12) (hin : ∀ w ∈ u_ws C T N, w ∈ Ts) (ty0 : Nat → FieldType) (hty : ∀ k, k < N → parseFieldDescriptor (T k).2.2.1 = some (ty0 k)) (hnm : ∀ a, a < N → ∀ b, b < N → a ≠ b → (T a).2.1 ≠ (T b).2.1) (hcl : vwCl[ci]? = some (C, T, N)) (hf : (gFK ci)[k]? = some 99) (hk : k < N) (hlink : Cond.fieldLink own index ref (T k).2.1 (T k).2.2.1 ∈ Ts) (hsame : (T k).1 = ref) (hfin : (T k).2.2.2 = false) (hd : parseFieldDescriptor (T k).2.2.1 = some ty) (hn0 : narrow ty (.int v) = .int v) (hfit : fits ty (.int v) = true) (hdg : decode cc pc = .ok (.putfield index, 3)) (kk : V g p l e R s m args below meth c nL cells slots Q (pc + 3) lv rest (mU M a k v)) : V g p l e R s m args below meth c nL cells slots Q pc lv (.int v :: .ref (gAd g a) :: rest) M := by
  intro H locs ls hP hS hl
  obtain ⟨j, hj, hjk⟩ := gW_at (g := g) (M := M) hT.1
  rw [gE_obj hT hc] at hj
  have hn := (F.2.2.1.2.2.1 a hT.1 hT.2.2 (by rw [hT.2.1]; exact hc)).1
  rw [hT.2.1] at hn
  have hk2 : k < (gFK ci).length := (List.getElem?_eq_some_iff.mp hf).1
  have hset := gW_set (M' := mU M a k v) (e := .inr (ci, (gFl g M a (shp a).2.2 (shp a).2.1).set k (.int v))) F.2.2.1 hjk (by rw [gE_obj hT hc, gFl_set (ty_int F.2.2.1 hT hc hf)]) (fun b hb => mU_ne M k v hb)
  refine va_put F.1.1 F.1.2.1 F.1.2.2.2.2 hin ty0 hty hnm F.1.2.2.2.1 F.2.1 hP (F.2.2.1.D M) hS j hj hcl k hk (F.1.2.2.2.2 _ hlink) (fun x h => by rw [← hsame]; exact h) hfin hd hn0 hfit (by unfold gFl; simp [hn, hk2]) hdg (fun H1 locs1 hP1 _ hS1 => ?_)
  rw [hset] at hP1
  exact kk H1 locs1 ls hP1 hS1 hl
theorem v_iald (F : Fx g p s m args c cc nL Ts own) {a : Nat} {i : Int32} (hT : Ty g 12 a) (hi : vp_in i (gN a)) (hdg : decode cc pc = .ok (.iaload, 1)) (kk : V g p l e R s m args below meth c nL cells slots Q (pc + 1) lv (.int (M a i.toNatClampNeg) :: rest) M) : V g p l e R s m args below meth c nL cells slots Q pc lv (.int i :: .ref (gAd g a) :: rest) M := by
  intro H locs ls hP hS hl
  obtain ⟨j, hj, hjk⟩ := gW_at (g := g) (M := M) hT.1
  rw [gE_int hT (by omega)] at hj
  exact va_iald F.1.1 F.1.2.1 F.2.1 hP j 0 hj rfl hi hdg (kk H locs ls hP hS hl)
theorem v_zald (F : Fx g p s m args c cc nL Ts own) {a : Nat} {i : Int32} (hT : Ty g 13 a) (hi : vp_in i (gN a)) (hdg : decode cc pc = .ok (.baload, 1)) (kk : V g p l e R s m args below meth c nL cells slots Q (pc + 1) lv (.int (M a i.toNatClampNeg) :: rest) M) : V g p l e R s m args below meth c nL cells slots Q pc lv (.int i :: .ref (gAd g a) :: rest) M := by
  intro H locs ls hP hS hl
  obtain ⟨j, hj, hjk⟩ := gW_at (g := g) (M := M) hT.1
  rw [gE_int hT (by omega)] at hj
  exact va_zald F.1.1 F.1.2.1 F.2.1 hP j 1 hj rfl hi hdg (kk H locs ls hP hS hl)
theorem v_iast (F : Fx g p s m args c cc nL Ts own) {a : Nat} {i x : Int32} (hT : Ty g 12 a) (hi : vp_in i (gN a)) (hdg : decode cc pc = .ok (.iastore, 1)) (kk : V g p l e R s m args below meth c nL cells slots Q (pc + 1) lv rest (mU M a i.toNatClampNeg x)) : V g p l e R s m args below meth c nL cells slots Q pc lv (.int x :: .int i :: .ref (gAd g a) :: rest) M := by
  intro H locs ls hP hS hl
  obtain ⟨j, hj, hjk⟩ := gW_at (g := g) (M := M) hT.1
  rw [gE_int hT (by omega)] at hj
  have hset := gW_set (M' := mU M a i.toNatClampNeg x) (e := .inl (g.2.1 12, gN a, .inl (upd (M a) i.toNatClampNeg x))) F.2.2.1 hjk (by rw [gE_int hT (by omega), mU_row]) (fun b hb => mU_ne M _ x hb)
  refine va_iast F.1.1 F.1.2.1 F.2.1 hP (F.2.2.1.D M) hS j 0 hj rfl hi hdg (fun H1 locs1 hP1 _ hS1 => ?_)
  rw [hset] at hP1
  exact kk H1 locs1 ls hP1 hS1 hl
theorem v_zast (F : Fx g p s m args c cc nL Ts own) {a : Nat} {i x : Int32} (hT : Ty g 13 a) (hi : vp_in i (gN a)) (hx : vp_nar .boolean x = x) (hdg : decode cc pc = .ok (.bastore, 1)) (kk : V g p l e R s m args below meth c nL cells slots Q (pc + 1) lv rest (mU M a i.toNatClampNeg x)) : V g p l e R s m args below meth c nL cells slots Q pc lv (.int x :: .int i :: .ref (gAd g a) :: rest) M := by
  intro H locs ls hP hS hl
  obtain ⟨j, hj, hjk⟩ := gW_at (g := g) (M := M) hT.1
  rw [gE_int hT (by omega)] at hj
  have hset := gW_set (M' := mU M a i.toNatClampNeg x) (e := .inl (g.2.1 13, gN a, .inl (upd (M a) i.toNatClampNeg (vp_nar .boolean x)))) F.2.2.1 hjk (by rw [gE_int hT (by omega), mU_row, hx]) (fun b hb => mU_ne M _ x hb)
  refine va_zast F.1.1 F.1.2.1 F.2.1 hP (F.2.2.1.D M) hS j 1 hj rfl hi hdg (fun H1 locs1 hP1 _ hS1 => ?_)
  rw [hset] at hP1
  exact kk H1 locs1 ls hP1 hS1 hl
theorem v_lald (F : Fx g p s m args c cc nL Ts own) {a : Nat} {i : Int32} (hT : Ty g 17 a) (hi : vp_in i (gN a)) (hdg : decode cc pc = .ok (.laload, 1)) (kk : V g p l e R s m args below meth c nL cells slots Q (pc + 1) lv (.long (M a i.toNatClampNeg).toInt64 :: rest) M) : V g p l e R s m args below meth c nL cells slots Q pc lv (.int i :: .ref (gAd g a) :: rest) M := by
  intro H locs ls hP hS hl
  obtain ⟨j, hj, hjk⟩ := gW_at (g := g) (M := M) hT.1
  rw [gE_long hT] at hj
  exact va_lald F.1.1 F.1.2.1 F.2.1 hP j 5 hj rfl hi hdg (kk H locs ls hP hS hl)
theorem v_last (F : Fx g p s m args c cc nL Ts own) {a : Nat} {i x : Int32} {y : Int64} (hy : x.toInt64 = y) (hT : Ty g 17 a) (hi : vp_in i (gN a)) (hdg : decode cc pc = .ok (.lastore, 1)) (kk : V g p l e R s m args below meth c nL cells slots Q (pc + 1) lv rest (mU M a i.toNatClampNeg x)) : V g p l e R s m args below meth c nL cells slots Q pc lv (.long y :: .int i :: .ref (gAd g a) :: rest) M := by
  intro H locs ls hP hS hl
  obtain ⟨j, hj, hjk⟩ := gW_at (g := g) (M := M) hT.1
  rw [gE_long hT] at hj
  have hset := gW_set (M' := mU M a i.toNatClampNeg x) (e := .inl (g.2.1 17, gN a, .inr (.inl (vp_updL (fun k => (M a k).toInt64) i.toNatClampNeg y)))) F.2.2.1 hjk (by
    rw [gE_long hT]
    refine congrArg (fun f => Sum.inl (g.2.1 17, gN a, Sum.inr (Sum.inl f))) (funext fun k => ?_)
    by_cases h : k = i.toNatClampNeg <;> simp [mU, vp_updL, h, hy]) (fun b hb => mU_ne M _ x hb)
  refine va_last F.1.1 F.1.2.1 F.2.1 hP (F.2.2.1.D M) hS j 5 hj rfl hi hdg (fun H1 locs1 hP1 _ hS1 => ?_)
  rw [hset] at hP1
  exact kk H1 locs1 ls hP1 hS1 hl
theorem v_aald (F : Fx g p s m args c cc nL Ts own) {a ka ke t0 : Nat} {i : Int32} {ty : FieldType} (hT : Ty g ka a) (hk : (ka = 14 ∧ ke = 3) ∨ (ka = 15 ∧ ke = 7) ∨ (ka = 16 ∧ ke = 12)) (ht : (gTy g)[t0]? = some (g.2.1 ka, ty)) (hty : ty.isReference = true) (hi : vp_in i (gN a)) (hdg : decode cc pc = .ok (.aaload, 1)) (kk : Ty g ke (gRf a i.toNatClampNeg) → V g p l e R s m args below meth c nL cells slots Q (pc + 1) lv (.ref (gAd g (gRf a i.toNatClampNeg)) :: rest) M) : V g p l e R s m args below meth c nL cells slots Q pc lv (.int i :: .ref (gAd g a) :: rest) M := by
  intro H locs ls hP hS hl
  obtain ⟨j, hj, hjk⟩ := gW_at (g := g) (M := M) hT.1
  rw [gE_ref hT (by omega)] at hj
  have hlt : i.toNatClampNeg < gN a := Nat.not_le.mp fun q => hi (Or.inr q)
  obtain ⟨h1, h2, h3⟩ := ty_row F.2.2.1 hT hlt hk
  refine W.aald (v := va_rf (if gNul g a i.toNatClampNeg then none else ((shp a).2.2 i.toNatClampNeg).map (gAd g))) (ty := ty) F.1.1 F.1.2.1 (hP j _ hj) ((F.2.1.2 t0 _ ht).1 _ (fun j => va_rf (if gNul g a j then none else ((shp a).2.2 j).map (gAd g)))) hty (fun q => by cases q) (by show ¬ (i < 0 ∨ (arrV _ _ _).slots.size ≤ _); rw [arrV_size]; exact hi) (by show (arrV _ _ _).slots[_]? = _; rw [arrV_read _ _ hlt]) rfl rfl hdg ?_
  rw [h2, h3]
  exact kk h1 H locs ls hP hS hl
theorem v_alen (F : Fx g p s m args c cc nL Ts own) {a ka t0 : Nat} {ty : FieldType} (hT : Ty g ka a) (hk : 12 ≤ ka ∧ ka ≤ 17) (ht : (gTy g)[t0]? = some (g.2.1 ka, ty)) (hdg : decode cc pc = .ok (.arraylength, 1)) (kk : V g p l e R s m args below meth c nL cells slots Q (pc + 1) lv (.int (nI (gN a)) :: rest) M) : V g p l e R s m args below meth c nL cells slots Q pc lv (.ref (gAd g a) :: rest) M := by
  intro H locs ls hP hS hl
  obtain ⟨j, hj, hjk⟩ := gW_at (g := g) (M := M) hT.1
  by_cases h1 : ka < 14
  · rw [gE_int hT (by omega)] at hj
    exact va_alen F.1.1 F.1.2.1 F.2.1 hP j t0 hj ht rfl hdg (kk H locs ls hP hS hl)
  · by_cases h2 : ka = 17
    · subst h2
      rw [gE_long hT] at hj
      exact va_alen F.1.1 F.1.2.1 F.2.1 hP j t0 hj ht rfl hdg (kk H locs ls hP hS hl)
    · rw [gE_ref hT (by omega)] at hj
      exact va_alen F.1.1 F.1.2.1 F.2.1 hP j t0 hj ht rfl hdg (kk H locs ls hP hS hl)
/-- a method's world at its start, and what it gives back -/
def gI (g : gT) (M : Mem) (U : State) : Prop := gP g M U.heap ∧ va_K g.1 vwCl (gTy g) U ∧ gB g ≤ U.heap.size ∧ gX g U U.heap
def gQ (g : gT) (v : Option Value) (M' : Mem) : Array Value → State → Outcome → State → Prop := fun _ st oc t => (oc = .returned v ∧ gP g M' t.heap) ∧ va_F (gA g) st t
/-- from memory M, by these arguments, y answers v and leaves M' -/
def Cn (g : gT) (l : Launch) (y : MethodName) (ws : List Cond) (k : Nat) (av : List Value) (M : Mem) (v : Option Value) (M' : Mem) : Prop := Met l y ws ({ frames := k, cells := 0, slots := 0, locals := 40 * k } : Room) (va_Pc av (gI g M)) (gQ g v M') 0 0 (gA g)
theorem gI_blind {av : List Value} {M : Mem} : FrameBlind (va_Pc av (gI g M)) := fun a U g9 mk h => ⟨h.1, h.2.1, va_K.moved (u := U) (U := U.calling g9 mk a) (Vm.Alike.refl U.vm) h.2.2.1, h.2.2.2.1, gX.go (s := U) (U := U.calling g9 mk a) (State.WarmedH.refl U) (fun _ _ _ => rfl) h.2.2.2.2⟩
theorem gI_pre {H : Heap} {locs : List Loc} (F : Fx g p s m args c cc nL Ts own) (hP : gP g M H) (hS : va_S (gA g) s.heap H locs) {U : State} (hU : U.heap = H) (hW : s.WarmedH U.vm) : gI g M U := ⟨by rw [hU]; exact hP, va_K.moved hW.alike F.2.1, by rw [hU]; exact Nat.le_trans F.2.2.2.1 hS.1, gX.go hW (fun a h1 h2 => by rw [hU]; exact hS.2.1 a h1 h2) F.2.2.2.2⟩
theorem v_iret (F : Fx g p s m args c cc nL Ts own) {x : Int32} {ty : FieldType} (hr : meth.sig.returnType = some ty) (hn : narrow ty (.int x) = .int x) (hlocks : meth.locks = false) (hdg : decode cc pc = .ok (.ireturn, 1)) : V g p l e R s m args below meth c nL cells slots (MQ below (gQ g (some (.int x)) M) args s cells slots (gA g)) pc lv [.int x] M := fun _ _ _ hP hS _ => W.zret F.1.1 F.1.2.1 hr hn (fun t ht _ => ⟨⟨rfl, by rw [ht]; exact hP⟩, hS.F ht⟩) hS.2.2 hdg hlocks
theorem v_vret (F : Fx g p s m args c cc nL Ts own) (hr : meth.sig.returnType = none) (hlocks : meth.locks = false) (hdg : decode cc pc = .ok (.return_, 1)) : V g p l e R s m args below meth c nL cells slots (MQ below (gQ g none M) args s cells slots (gA g)) pc lv [] M := fun _ _ _ hP hS _ => W.vret F.1.1 F.1.2.1 hr (fun t ht _ => ⟨⟨rfl, by rw [ht]; exact hP⟩, hS.F ht⟩) hS.2.2 hdg hlocks
theorem v_aret (F : Fx g p s m args c cc nL Ts own) {x : Nat} {C : String} (hr : meth.sig.returnType = some (.object C)) (hlocks : meth.locks = false) (hdg : decode cc pc = .ok (.areturn, 1)) : V g p l e R s m args below meth c nL cells slots (MQ below (gQ g (some (.ref x)) M) args s cells slots (gA g)) pc lv [.ref x] M := fun _ _ _ hP hS _ => W.aret F.1.1 F.1.2.1 hr (Or.inl ⟨_, rfl⟩) (Or.inr ⟨_, rfl⟩) (fun t ht _ => ⟨⟨rfl, by rw [ht]; exact hP⟩, hS.F ht⟩) hS.2.2 hdg hlocks
theorem v_after {v : Option Value} {M' : Mem} {a : Array Value} {H : Heap} {locs : List Loc} {ls : Array Slot} {st : List Value} (hr : va_Run p l e R s m args below meth c H locs cells slots 0 0 (F0 m pc ls st) rest (gQ g v M' a) (gA g)) (hS : va_S (gA g) s.heap H locs) (hl : lv_has ls nL lv)
    (kk : V g p l e R s m args below meth c nL cells slots Q (pc + 3) lv (v.toList ++ rest) M') : W p l e R s m args below meth c H locs cells slots Q (F0 m pc ls st) := by
  intro T hT X
  obtain ⟨v', st₀, t, T', L, h0, X', hL, e1, e2, ⟨⟨hv, hp⟩, hz, hk⟩, st⟩ := hr T hT X
  cases hv
  rw [h0] at hz hk
  have hS1 : va_S (gA g) s.heap T'.heap (locs ++ L) := ⟨Nat.le_trans hS.1 (by rw [e1]; exact hz), fun q h1 h2 => by rw [e1, hk q (Nat.lt_of_lt_of_le h1 hS.1) h2]; exact hS.2.1 q h1 h2, fun q hq => by
      rcases List.mem_append.mp hq with h | h
      · exact hS.2.2 q h
      · exact hL q h⟩
  obtain ⟨t2, a1, b1⟩ := kk T'.heap (locs ++ L) ls (by rw [e1]; exact hp) hS1 hl T' rfl X'
  exact ⟨t2, st t2 a1, b1⟩
theorem v_callV (F : Fx g p s m args c cc nL Ts own) {y : MethodName} {ws : List Cond} {k maxL n index b ci : Nat} {bytes : ByteArray} {ret : Option FieldType} {C : String} {T : u_T} {N : Nat} {As : List Value} {v : Option Value} {M' : Mem} (hM : Cn g l y ws k (.ref (gAd g b) :: As) M v M') (cw : CallW R s args own C index y bytes maxL ret ws ({ frames := k, cells := 0, slots := 0, locals := 40 * k } : Room) 0 0 n) (hT : Ty g ci b) (hc : ci < 12) (hcl : vwCl[ci]? = some (C, T, N)) (hn : As.length = n) {st : List Value} (hst : st = As.reverse ++ .ref (gAd g b) :: rest) (hW : (rest.map fun v => v.category).sum ≤ 8) (hdg : decode cc pc = .ok (.invokevirtual index, 3)) (hf : cells ≤ R.cells ∧ slots ≤ R.slots) (kk : V g p l e R s m args below meth c nL cells slots Q (pc + 3) lv (v.toList ++ rest) M') : V g p l e R s m args below meth c nL cells slots Q pc lv st M := by
  intro H locs ls hP hS hl
  obtain ⟨j, hj, hjk⟩ := gW_at (g := g) (M := M) hT.1
  rw [gE_obj hT hc] at hj
  exact v_after (va_runV (As := As) (rest := rest) F.1 hM cw ⟨gI_blind, va_recv F.2.1 hP hcl hj, fun U hU hW9 => ⟨rfl, gI_pre F hP hS hU hW9⟩⟩ rfl hn hl.1 hst (lv_room hW) hdg hf) hS hl kk
theorem v_callS (F : Fx g p s m args c cc nL Ts own) {y : MethodName} {ws : List Cond} {k maxL n index : Nat} {bytes : ByteArray} {ret : Option FieldType} {As : List Value} {v : Option Value} {M' : Mem} (hM : Cn g l y ws k As M v M') (cw : CallB R s args own index y bytes maxL ret ws ({ frames := k, cells := 0, slots := 0, locals := 40 * k } : Room) 0 0 n ∧ (Cond.static y).before args s = true) (hn : As.length = n) {st : List Value} (hst : st = As.reverse ++ rest) (hW : (rest.map fun v => v.category).sum ≤ 8) (hdg : decode cc pc = .ok (.invokestatic index, 3)) (hf : cells ≤ R.cells ∧ slots ≤ R.slots) (kk : V g p l e R s m args below meth c nL cells slots Q (pc + 3) lv (v.toList ++ rest) M') : V g p l e R s m args below meth c nL cells slots Q pc lv st M := by
  intro H locs ls hP hS hl
  exact v_after (va_runS (As := As) (rest := rest) F.1 hM cw ⟨gI_blind, fun U hU hW9 => ⟨rfl, gI_pre F hP hS hU hW9⟩⟩ rfl hn hl.1 hst (lv_room hW) hdg hf) hS hl kk
/-- a method's body, from its entry -/
theorem Cn.of {y : MethodName} {ws ws' : List Cond} {k maxL : Nat} {ret : Option FieldType} {av : List Value} {v : Option Value} {M M' : Mem} (hok : gOK g) (hy : plainName y.cls = true) (hw : ws = Cond.code y cc maxL ret :: ws') (hl : (lg_sl av).length ≤ maxL)
    (body : ∀ p e s m args below meth c, Fx g p s m args c cc maxL ws y.cls → meth.sig.returnType = ret → meth.locks = false → V g p l e ({ frames := k, cells := 0, slots := 0, locals := 40 * k } : Room) s m args below meth c maxL 0 0 (MQ below (gQ g v M') args s 0 0 (gA g)) 0 (lv_args 0 av) [] M) : Cn g l y ws k av M v M' := by
  refine Met.ofW (cc := cc) (maxL := maxL) (ret := ret) hy hw ?_
  intro p e s m args below meth c s₁ B hml hv
  obtain ⟨rfl, hP, hK, hB, hX⟩ := hv
  have hts := atoms_spec (ws := ws) B.pre
  rw [lg_entry_eq]
  exact body p e s m av.toArray below meth c ⟨⟨B.exec, B.bytes, hml, findClass_of_methodNamed B.named, hts⟩, hK, hok, hB, hX⟩ B.returns B.notSynchronized s.heap [] _ hP va_S.rf (lv_entry av hl)
theorem v_mmax (F : Fx g p s m args c cc nL Ts own) {index : Nat} {x y : Int32} (hlink : Cond.methodLink own index Lib.Math.max.name ∈ Ts) (hstat : Cond.static Lib.Math.max.name ∈ Ts) (hini : Cond.initialized "java/lang/Math" ∈ Ts) (hcode : Cond.code Lib.Math.max.name Lib.Math.max.code 2 (some .int) ∈ Ts) (hdg : decode cc pc = .ok (.invokestatic index, 3)) (hR1 : 1 ≤ R.frames ∧ 40 ≤ R.locals ∧ cells ≤ R.cells ∧ slots ≤ R.slots) (hW : (rest.map fun v => v.category).sum ≤ 8) (kk : V g p l e R s m args below meth c nL cells slots Q (pc + 3) lv (.int (if x < y then y else x) :: rest) M) : V g p l e R s m args below meth c nL cells slots Q pc lv (.int y :: .int x :: rest) M := fun H locs ls hP hS hl => va_mmax F.1.1 F.1.2.1 (F.1.2.2.1.trans hl.1.symm) F.1.2.2.2.1 (F.1.2.2.2.2 _ hlink) (F.1.2.2.2.2 _ hstat) (F.1.2.2.2.2 _ hini) (F.1.2.2.2.2 _ hcode) hR1.1 (by omega) hR1.2.2.1 hR1.2.2.2 hdg (kk H locs ls hP hS hl)
theorem v_mmin (F : Fx g p s m args c cc nL Ts own) {index : Nat} {x y : Int32} (hlink : Cond.methodLink own index Lib.Math.min.name ∈ Ts) (hstat : Cond.static Lib.Math.min.name ∈ Ts) (hini : Cond.initialized "java/lang/Math" ∈ Ts) (hcode : Cond.code Lib.Math.min.name Lib.Math.min.code 2 (some .int) ∈ Ts) (hdg : decode cc pc = .ok (.invokestatic index, 3)) (hR1 : 1 ≤ R.frames ∧ 40 ≤ R.locals ∧ cells ≤ R.cells ∧ slots ≤ R.slots) (hW : (rest.map fun v => v.category).sum ≤ 8) (kk : V g p l e R s m args below meth c nL cells slots Q (pc + 3) lv (.int (if y < x then y else x) :: rest) M) : V g p l e R s m args below meth c nL cells slots Q pc lv (.int y :: .int x :: rest) M := fun H locs ls hP hS hl => va_mmin F.1.1 F.1.2.1 (F.1.2.2.1.trans hl.1.symm) F.1.2.2.2.1 (F.1.2.2.2.2 _ hlink) (F.1.2.2.2.2 _ hstat) (F.1.2.2.2.2 _ hini) (F.1.2.2.2.2 _ hcode) hR1.1 (by omega) hR1.2.2.1 hR1.2.2.2 hdg (kk H locs ls hP hS hl)
theorem v_mabs (F : Fx g p s m args c cc nL Ts own) {index : Nat} {x : Int32} (hlink : Cond.methodLink own index Lib.Math.abs.name ∈ Ts) (hstat : Cond.static Lib.Math.abs.name ∈ Ts) (hini : Cond.initialized "java/lang/Math" ∈ Ts) (hcode : Cond.code Lib.Math.abs.name Lib.Math.abs.code 1 (some .int) ∈ Ts) (hdg : decode cc pc = .ok (.invokestatic index, 3)) (hR1 : 1 ≤ R.frames ∧ 40 ≤ R.locals ∧ cells ≤ R.cells ∧ slots ≤ R.slots) (hW : (rest.map fun v => v.category).sum ≤ 8) (kk : V g p l e R s m args below meth c nL cells slots Q (pc + 3) lv (.int (if 0 ≤ x then x else 0 - x) :: rest) M) : V g p l e R s m args below meth c nL cells slots Q pc lv (.int x :: rest) M := fun H locs ls hP hS hl => va_mabs F.1.1 F.1.2.1 (F.1.2.2.1.trans hl.1.symm) F.1.2.2.2.1 (F.1.2.2.2.2 _ hlink) (F.1.2.2.2.2 _ hstat) (F.1.2.2.2.2 _ hini) (F.1.2.2.2.2 _ hcode) hR1.1 (by omega) hR1.2.2.1 hR1.2.2.2 hdg (kk H locs ls hP hS hl)
theorem v_callVi (F : Fx g p s m args c cc nL Ts own) {y : MethodName} {ws : List Cond} {k maxL n index b ci : Nat} {bytes : ByteArray} {ret : Option FieldType} {C : String} {T : u_T} {N : Nat} {As : List Value} {r : Int32} {M' : Mem} (hM : Cn g l y ws k (.ref (gAd g b) :: As) M (some (.int r)) M') (cw : CallW R s args own C index y bytes maxL ret ws ({ frames := k, cells := 0, slots := 0, locals := 40 * k } : Room) 0 0 n) (hT : Ty g ci b) (hc : ci < 12) (hcl : vwCl[ci]? = some (C, T, N)) (hn : As.length = n) {st : List Value} (hst : st = As.reverse ++ .ref (gAd g b) :: rest) (hW : (rest.map fun v => v.category).sum ≤ 8) (hdg : decode cc pc = .ok (.invokevirtual index, 3)) (hf : cells ≤ R.cells ∧ slots ≤ R.slots) (kk : V g p l e R s m args below meth c nL cells slots Q (pc + 3) lv (.int r :: rest) M') : V g p l e R s m args below meth c nL cells slots Q pc lv st M := v_callV F hM cw hT hc hcl hn hst hW hdg hf kk
theorem v_callSi (F : Fx g p s m args c cc nL Ts own) {y : MethodName} {ws : List Cond} {k maxL n index : Nat} {bytes : ByteArray} {ret : Option FieldType} {As : List Value} {r : Int32} {M' : Mem} (hM : Cn g l y ws k As M (some (.int r)) M') (cw : CallB R s args own index y bytes maxL ret ws ({ frames := k, cells := 0, slots := 0, locals := 40 * k } : Room) 0 0 n ∧ (Cond.static y).before args s = true) (hn : As.length = n) {st : List Value} (hst : st = As.reverse ++ rest) (hW : (rest.map fun v => v.category).sum ≤ 8) (hdg : decode cc pc = .ok (.invokestatic index, 3)) (hf : cells ≤ R.cells ∧ slots ≤ R.slots) (kk : V g p l e R s m args below meth c nL cells slots Q (pc + 3) lv (.int r :: rest) M') : V g p l e R s m args below meth c nL cells slots Q pc lv st M := v_callS F hM cw hn hst hW hdg hf kk
theorem v_callVr (F : Fx g p s m args c cc nL Ts own) {y : MethodName} {ws : List Cond} {k maxL n index b ci : Nat} {bytes : ByteArray} {ret : Option FieldType} {C : String} {T : u_T} {N : Nat} {As : List Value} {r : Nat} {M' : Mem} (hM : Cn g l y ws k (.ref (gAd g b) :: As) M (some (.ref r)) M') (cw : CallW R s args own C index y bytes maxL ret ws ({ frames := k, cells := 0, slots := 0, locals := 40 * k } : Room) 0 0 n) (hT : Ty g ci b) (hc : ci < 12) (hcl : vwCl[ci]? = some (C, T, N)) (hn : As.length = n) {st : List Value} (hst : st = As.reverse ++ .ref (gAd g b) :: rest) (hW : (rest.map fun v => v.category).sum ≤ 8) (hdg : decode cc pc = .ok (.invokevirtual index, 3)) (hf : cells ≤ R.cells ∧ slots ≤ R.slots) (kk : V g p l e R s m args below meth c nL cells slots Q (pc + 3) lv (.ref r :: rest) M') : V g p l e R s m args below meth c nL cells slots Q pc lv st M := v_callV F hM cw hT hc hcl hn hst hW hdg hf kk
theorem v_callSr (F : Fx g p s m args c cc nL Ts own) {y : MethodName} {ws : List Cond} {k maxL n index : Nat} {bytes : ByteArray} {ret : Option FieldType} {As : List Value} {r : Nat} {M' : Mem} (hM : Cn g l y ws k As M (some (.ref r)) M') (cw : CallB R s args own index y bytes maxL ret ws ({ frames := k, cells := 0, slots := 0, locals := 40 * k } : Room) 0 0 n ∧ (Cond.static y).before args s = true) (hn : As.length = n) {st : List Value} (hst : st = As.reverse ++ rest) (hW : (rest.map fun v => v.category).sum ≤ 8) (hdg : decode cc pc = .ok (.invokestatic index, 3)) (hf : cells ≤ R.cells ∧ slots ≤ R.slots) (kk : V g p l e R s m args below meth c nL cells slots Q (pc + 3) lv (.ref r :: rest) M') : V g p l e R s m args below meth c nL cells slots Q pc lv st M := v_callS F hM cw hn hst hW hdg hf kk
theorem v_callVv (F : Fx g p s m args c cc nL Ts own) {y : MethodName} {ws : List Cond} {k maxL n index b ci : Nat} {bytes : ByteArray} {ret : Option FieldType} {C : String} {T : u_T} {N : Nat} {As : List Value} {M' : Mem} (hM : Cn g l y ws k (.ref (gAd g b) :: As) M none M') (cw : CallW R s args own C index y bytes maxL ret ws ({ frames := k, cells := 0, slots := 0, locals := 40 * k } : Room) 0 0 n) (hT : Ty g ci b) (hc : ci < 12) (hcl : vwCl[ci]? = some (C, T, N)) (hn : As.length = n) {st : List Value} (hst : st = As.reverse ++ .ref (gAd g b) :: rest) (hW : (rest.map fun v => v.category).sum ≤ 8) (hdg : decode cc pc = .ok (.invokevirtual index, 3)) (hf : cells ≤ R.cells ∧ slots ≤ R.slots) (kk : V g p l e R s m args below meth c nL cells slots Q (pc + 3) lv (rest) M') : V g p l e R s m args below meth c nL cells slots Q pc lv st M := v_callV F hM cw hT hc hcl hn hst hW hdg hf kk
theorem v_callSv (F : Fx g p s m args c cc nL Ts own) {y : MethodName} {ws : List Cond} {k maxL n index : Nat} {bytes : ByteArray} {ret : Option FieldType} {As : List Value} {M' : Mem} (hM : Cn g l y ws k As M none M') (cw : CallB R s args own index y bytes maxL ret ws ({ frames := k, cells := 0, slots := 0, locals := 40 * k } : Room) 0 0 n ∧ (Cond.static y).before args s = true) (hn : As.length = n) {st : List Value} (hst : st = As.reverse ++ rest) (hW : (rest.map fun v => v.category).sum ≤ 8) (hdg : decode cc pc = .ok (.invokestatic index, 3)) (hf : cells ≤ R.cells ∧ slots ≤ R.slots) (kk : V g p l e R s m args below meth c nL cells slots Q (pc + 3) lv (rest) M') : V g p l e R s m args below meth c nL cells slots Q pc lv st M := v_callS F hM cw hn hst hW hdg hf kk
theorem v_callSNi (F : Fx g p s m args c cc nL Ts own) {y : MethodName} {ws : List Cond} {k maxL n index : Nat} {host : String} {bytes : ByteArray} {ret : Option FieldType} {As : List Value} {r : Int32} {M' : Mem} (hM : Cn g l y ws k As M (some (.int r)) M') (cw : va_CN R s args own index y host bytes maxL ret ws ({ frames := k, cells := 0, slots := 0, locals := 40 * k } : Room) 0 0 n ∧ (Cond.static y).before args s = true ∧ True) (hn : As.length = n) {st : List Value} (hst : st = As.reverse ++ rest) (hW : (rest.map fun v => v.category).sum ≤ 8) (hdg : decode cc pc = .ok (.invokestatic index, 3)) (hf : cells ≤ R.cells ∧ slots ≤ R.slots) (kk : V g p l e R s m args below meth c nL cells slots Q (pc + 3) lv (.int r :: rest) M') : V g p l e R s m args below meth c nL cells slots Q pc lv st M := by
  intro H locs ls hP hS hl
  exact v_after (va_runSN (As := As) (rest := rest) F.1 hM cw ⟨gI_blind, fun U hU hW9 => ⟨rfl, gI_pre F hP hS hU hW9⟩⟩ rfl hn hl.1 hst (lv_room hW) hdg hf) hS hl kk
theorem v_callSNv (F : Fx g p s m args c cc nL Ts own) {y : MethodName} {ws : List Cond} {k maxL n index : Nat} {host : String} {bytes : ByteArray} {ret : Option FieldType} {As : List Value} {M' : Mem} (hM : Cn g l y ws k As M none M') (cw : va_CN R s args own index y host bytes maxL ret ws ({ frames := k, cells := 0, slots := 0, locals := 40 * k } : Room) 0 0 n ∧ (Cond.static y).before args s = true ∧ True) (hn : As.length = n) {st : List Value} (hst : st = As.reverse ++ rest) (hW : (rest.map fun v => v.category).sum ≤ 8) (hdg : decode cc pc = .ok (.invokestatic index, 3)) (hf : cells ≤ R.cells ∧ slots ≤ R.slots) (kk : V g p l e R s m args below meth c nL cells slots Q (pc + 3) lv (rest) M') : V g p l e R s m args below meth c nL cells slots Q pc lv st M := by
  intro H locs ls hP hS hl
  exact v_after (va_runSN (As := As) (rest := rest) F.1 hM cw ⟨gI_blind, fun U hU hW9 => ⟨rfl, gI_pre F hP hS hU hW9⟩⟩ rfl hn hl.1 hst (lv_room hW) hdg hf) hS hl kk
theorem v_gets (F : Fx g p s m args c cc nL Ts own) {nm : String} {f : Nat → Int32} {t index : Nat} (hZ : gSt (gA g) nm f t s s.heap) (hlink : Cond.fieldLink own index "GallopRoads" nm "[I" ∈ Ts) (hdg : decode cc pc = .ok (.getstatic index, 3)) (kk : V g p l e R s m args below meth c nL cells slots Q (pc + 3) lv (.ref t :: rest) M) : V g p l e R s m args below meth c nL cells slots Q pc lv rest M := fun H locs ls hP hS hl => va_gets F.1.1 F.1.2.1 hZ.1 hS F.1.2.2.2.1 (F.1.2.2.2.2 _ hlink) (fun _ h => h) hdg (kk H locs ls hP hS hl)
theorem v_stld (F : Fx g p s m args c cc nL Ts own) {nm : String} {f : Nat → Int32} {t : Nat} {i : Int32} (hZ : gSt (gA g) nm f t s s.heap) (hi : vp_in i 10) (hdg : decode cc pc = .ok (.iaload, 1)) (kk : V g p l e R s m args below meth c nL cells slots Q (pc + 1) lv (.int (f i.toNatClampNeg) :: rest) M) : V g p l e R s m args below meth c nL cells slots Q pc lv (.int i :: .ref t :: rest) M := fun H locs ls hP hS hl => va_ti F.1.1 F.1.2.1 hZ.2 hS hi rfl hdg (kk H locs ls hP hS hl)
theorem v_stlen (F : Fx g p s m args c cc nL Ts own) {nm : String} {f : Nat → Int32} {t : Nat} (hZ : gSt (gA g) nm f t s s.heap) (hdg : decode cc pc = .ok (.arraylength, 1)) (kk : V g p l e R s m args below meth c nL cells slots Q (pc + 1) lv (.int 10 :: rest) M) : V g p l e R s m args below meth c nL cells slots Q pc lv (.ref t :: rest) M := fun H locs ls hP hS hl => va_tlen F.1.1 F.1.2.1 hZ.2 hS (v := 10) rfl hdg (kk H locs ls hP hS hl)
end LAYER
def FU : Nat := 100000
def DP : Nat := 20
