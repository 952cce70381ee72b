/-! Arrays of refs while a constructor runs: made, filled; fields of an object that isn't done. -/
theorem gW_setP {g : gT} {M : Mem} {a k j : Nat} {e : va_E} (hok : gOK g) (hj : (gL g)[j]? = some a) (he : gE (gPut g a k) M a = e) : (gW g M).set j (gAd g a, e) = gW (gPut g a k) M := by
  apply List.ext_getElem?
  intro i
  rw [List.getElem?_set]
  by_cases hji : j = i
  · subst hji
    have hlt : j < (gL g).length := (List.getElem?_eq_some_iff.mp hj).1
    rw [if_pos rfl, if_pos (by unfold gW; rw [List.length_map]; exact hlt)]
    unfold gW
    rw [List.getElem?_map, show (gL (gPut g a k))[j]? = some a from hj, Option.map_some, he]
    rfl
  · rw [if_neg hji]
    unfold gW
    rw [List.getElem?_map, List.getElem?_map, show gL (gPut g a k) = gL g from rfl]
    cases hb : (gL g)[i]? with
    | none => rw [Option.map_none, Option.map_none]
    | some b =>
      have hba : b ≠ a := by
        intro q
        subst q
        have h1 : ((gL g).map (gAd g))[j]? = some (gAd g b) := by rw [List.getElem?_map, hj, Option.map_some]
        have h2 : ((gL g).map (gAd g))[i]? = some (gAd g b) := by rw [List.getElem?_map, hb, Option.map_some]
        have hlt : j < ((gL g).map (gAd g)).length := (List.getElem?_eq_some_iff.mp h1).1
        exact hji ((List.getElem?_inj hlt hok.1).mp (h1.trans h2.symm))
      rw [Option.map_some, Option.map_some, gE_same (g := g) (g' := gPut g a k) (M := M) (M' := M) rfl rfl (fun k2 => if_neg (fun z => hba z.1)) (fun _ _ _ _ => rfl)]
      rfl
theorem gE_arr {g : gT} {M : Mem} {a ka : Nat} (hk : (shp a).1 = ka) (hc : ka = 14 ∨ ka = 15 ∨ ka = 16) : gE g M a = .inl (g.2.1 ka, gN a, .inr (.inr (.inr (.inr (fun k => if gNul g a k then none else ((shp a).2.2 k).map (gAd g)))))) := by
  unfold gE
  rw [hk, if_neg (by omega), if_neg (by omega), if_neg (by omega)]
  rfl
section ARRS
variable {g : gT} {p : Program} {l : Launch} {e : Env} {R : Room} {s : State} {m : MethodId} {args : Array Value} {below : List Frame} {meth : Method} {c : Code} {nL cells slots : Nat} {Q : State → Prop}
variable {cc : ByteArray} {Ts : List Cond} {own : String} {pc : Nat} {lv : List (Nat × Value)} {rest : List Value} {M : Mem}
/-- an array of refs, all null -/
theorem v_newQ (F : Fx g p s m args c cc nL Ts own) {b ka t0 index : Nat} {C : String} {n : Int32} (hclink : Cond.classLink own index C ∈ Ts) (hover : va_AO C s) (ht : (gTy g)[t0]? = some (g.2.1 ka, .object C)) (hb : b ∉ gL g) (hk : (shp b).1 = ka) (hka : ka = 14 ∨ ka = 15) (hn0 : ¬ n < 0) (hN : n.toNatClampNeg = (shp b).2.1) (hsz : (shp b).2.1 * 4 ≤ 536870912) (hcells : cells + 1 ≤ R.cells) (hslots : slots + (shp b).2.1 ≤ R.slots) (hdg : decode cc pc = .ok (.anewarray index, 3))
    (kk : ∀ q, gOK (gNew g b q) → V (gNew g b q) p l e R s m args below meth c nL (cells + 1) (slots + (shp b).2.1) Q (pc + 3) lv (.ref q :: rest) (mZ M b)) : V g p l e R s m args below meth c nL cells slots Q pc lv (.int n :: rest) M := by
  intro H locs ls hP hS hl
  refine va_newq (N' := (shp b).2.1) F.1.1 F.1.2.1 F.1.2.2.2.1 (F.1.2.2.2.2 _ hclink) hover F.2.1 hP (F.2.2.1.D M) hS (gA_new F) hn0 hN hsz hcells hslots hdg (fun q cA H1 hK1 hP1 hD1 hS1 => ?_)
  obtain ⟨f1, f2⟩ := fresh_of hD1
  have hcA : cA = g.2.1 ka := by
    obtain ⟨_, _, _, _, _, h1⟩ := (hK1.2 6 (cA, .object C) rfl).2
    obtain ⟨_, _, _, _, _, h2⟩ := (F.2.1.2 t0 (g.2.1 ka, .object C) ht).2
    exact Option.some.inj (h1.symm.trans h2)
  subst hcA
  have hok : gOK (gNew g b q) := gok_grow F.2.2.1 hb rfl rfl (fun a ha => if_neg (ne_of_in hb ha)) (if_pos rfl) (fun a ha => if_neg (ne_of_in hb ha)) (fun a ha k => if_neg (ne_of_in hb ha)) (fun a ha h => f1 (gAd g a, gE g M a) (List.mem_map.mpr ⟨a, ha, rfl⟩) h) f2 (by omega) (fun h => by have h9 : (if b = b then false else gDn g b) = true := h; rw [if_pos rfl] at h9; cases h9) (fun k r _ => if_pos rfl)
  have hE : gE (gNew g b q) (mZ M b) b = .inl (g.2.1 ka, (shp b).2.1, .inr (.inr (.inr (.inr (fun _ => none))))) := by
    rw [gE_arr hk (by omega)]
    refine congrArg (fun f => Sum.inl (g.2.1 ka, (shp b).2.1, Sum.inr (Sum.inr (Sum.inr (Sum.inr f))))) (funext fun k => ?_)
    have : gNul (gNew g b q) b k = true := if_pos rfl
    rw [this]; rfl
  have hW := gNew_W (M' := mZ M b) (q := q) F.2.2.1 hb (fun a ha => mZ_ne ha)
  rw [hE] at hW
  refine kk q hok H1 locs ls ?_ hS1 hl
  show va_P g.1 vwCl (gW (gNew g b q) (mZ M b)) H1
  rw [hW]; exact hP1
theorem v_getRU (F : Fx g p s m args c cc nL Ts own) {ref C : String} {T : u_T} {N ci index a k x h0 : Nat} (haL : a ∈ gL g) (hak : (shp a).1 = ci) (haN : (shp a).2.1 = N) (har : (shp a).2.2 k = some x) (hnu : gNul g a k = false) (e0 : gAd g a = h0) (hc : ci < 12) (hin : ∀ w ∈ u_ws C T N, w ∈ Ts) (hcl : vwCl[ci]? = some (C, T, N)) (hk : k < N) (hlink : Cond.fieldLink own index ref (T k).2.1 (T k).2.2.1 ∈ Ts) (hsame : (T k).1 = ref) (hdg : decode cc pc = .ok (.getfield index, 3)) (kk : V g p l e R s m args below meth c nL cells slots Q (pc + 3) lv (.ref (gAd g x) :: rest) M) : V g p l e R s m args below meth c nL cells slots Q pc lv (.ref h0 :: rest) M := by
  intro H locs ls hP hS hl
  subst e0
  obtain ⟨j, hj, hjk⟩ := gW_at (g := g) (M := M) haL
  have hE : gE g M a = .inr (ci, gFl g M a (shp a).2.2 N) := by
    unfold gE
    rw [if_pos (by rw [hak]; exact hc), hak, haN]
  rw [hE] at hj
  have hv : (gFl g M a (shp a).2.2 N)[k]? = some (.ref (gAd g x)) := by
    rw [gFl_at hk, har]
    show some (if gNul g a k then Value.null else _) = _
    rw [hnu]
    rfl
  exact va_get F.1.1 F.1.2.1 F.1.2.2.2.2 hin F.1.2.2.2.1 F.2.1 hP j hj hcl k hk (F.1.2.2.2.2 _ hlink) (fun x h => by rw [← hsame]; exact h) hv hdg (kk H locs ls hP hS hl)
theorem v_alenU (F : Fx g p s m args c cc nL Ts own) {a ka t0 h0 : Nat} {ty : FieldType} (haL : a ∈ gL g) (hak : (shp a).1 = ka) (hka : ka = 14 ∨ ka = 15) (e0 : gAd g a = h0) (ht : (gTy g)[t0]? = some (g.2.1 ka, ty)) (hdg : decode cc pc = .ok (.arraylength, 1)) (kk : V g p l e R s m args below meth c nL cells slots Q (pc + 1) lv (.int (nI (gN a)) :: rest) M) : V g p l e R s m args below meth c nL cells slots Q pc lv (.ref h0 :: rest) M := by
  intro H locs ls hP hS hl
  subst e0
  obtain ⟨j, hj, hjk⟩ := gW_at (g := g) (M := M) haL
  rw [gE_arr hak (by omega)] at hj
  exact va_alen F.1.1 F.1.2.1 F.2.1 hP j t0 hj ht rfl hdg (kk H locs ls hP hS hl)
/-- a place of an array of refs is filled -/
theorem v_aastU (F : Fx g p s m args c cc nL Ts own) {C : String} {T : u_T} {N a x ka ke k t0 h0 h1 : Nat} {i : Int32} (haL : a ∈ gL g) (hak : (shp a).1 = ka) (hka : ka = 14 ∨ ka = 15) (hdn : gDn g a = false) (e0 : gAd g a = h0) (hx : Ty g ke x) (hke : ke < 12) (e1 : gAd g x = h1) (hi : i = nI k) (hk : k < gN a) (hkn : gN a < 100000) (har : (shp a).2.2 k = some x) (hcl : vwCl[ke]? = some (C, T, N)) (ht : (gTy g)[t0]? = some (g.2.1 ka, .object C)) (hdg : decode cc pc = .ok (.aastore, 1))
    (kk : gOK (gPut g a k) → V (gPut g a k) p l e R s m args below meth c nL cells slots Q (pc + 1) lv rest M) : V g p l e R s m args below meth c nL cells slots Q pc lv (.ref h1 :: .int i :: .ref h0 :: rest) M := by
  intro H locs ls hP hS hl
  subst e0; subst e1; subst hi
  obtain ⟨j, hj, hjk⟩ := gW_at (g := g) (M := M) haL
  rw [gE_arr hak (by omega)] at hj
  obtain ⟨jx, hjx, hjxk⟩ := gW_at (g := g) (M := M) hx.1
  rw [gE_obj hx hke] at hjx
  have hok : gOK (gPut g a k) := gok_put F.2.2.1 hdn har hx.1
  have hcl9 : k < 2147483648 := by omega
  refine va_astq F.1.1 F.1.2.1 F.2.1 hP (F.2.2.1.D M) hS j t0 jx ke hj ht hjx hcl (i_in hk hkn) hdg (fun H1 locs1 hP1 _ hS1 => ?_)
  have hE : gE (gPut g a k) M a = .inl (g.2.1 ka, gN a, .inr (.inr (.inr (.inr (va_up (fun k => if gNul g a k then none else ((shp a).2.2 k).map (gAd g)) (nI k).toNatClampNeg (some (gAd g x))))))) := by
    rw [gE_arr hak (by omega)]
    refine congrArg (fun f => Sum.inl (g.2.1 ka, gN a, Sum.inr (Sum.inr (Sum.inr (Sum.inr f))))) (funext fun j2 => ?_)
    rw [i_cl (by omega)]
    by_cases hz : j2 = k
    · subst hz
      have : gNul (gPut g a j2) a j2 = false := if_pos ⟨rfl, rfl⟩
      rw [this, har]
      simp [va_up, gAd, gPut]
    · have : gNul (gPut g a k) a j2 = gNul g a j2 := if_neg (fun z => hz z.2)
      rw [this]
      simp [va_up, hz, gAd, gPut]
  rw [gW_setP F.2.2.1 hjk hE] at hP1
  exact kk hok H1 locs1 ls hP1 hS1 hl
end ARRS
