/-! The law's own steps: the script, the calls, long[1]. -/
theorem gU_SX {c0 : Cond} {own : String} {idx n : Nat} {y : MethodName} {b : ByteArray} {r : Option FieldType} {hh : List (Nat × Nat × Nat × Nat)} (h1 : Cond.methodLink own idx y ∈ uT) (h2 : Cond.static y ∈ uT) (h4 : Cond.initialized y.cls ∈ uT) (h5 : Cond.codeWith y b n r hh ∈ uT) : GoodIn (c0 :: uT) (va_wsS own idx y (Cond.codeWith y b n r hh :: uT)) := by
  intro w hw
  unfold va_wsS at hw
  rcases List.mem_append.mp hw with h | h
  · simp only [List.mem_cons, List.not_mem_nil, or_false] at h
    rcases h with rfl | rfl | rfl
    · exact gU_1 h1
    · exact gU_1 h2
    · exact gU_1 h4
  · exact gU_0 h5 w h
theorem cmp_eq (x : Int64) : lg_cmp x x = 0 := by simp [lg_cmp]
section LAWV
variable {g : gT} {p : Program} {l : Launch} {e : Env} {R : Room} {s : State} {m : MethodId} {args : Array Value} {below : List Frame} {meth : Method} {c : Code} {nL cells slots : Nat} {Q : State → Prop}
variable {cc : ByteArray} {Ts : List Cond} {own : String} {pc : Nat} {lv : List (Nat × Value)} {rest : List Value} {M : Mem}
theorem v_lcmp (F : Fx g p s m args c cc nL Ts own) {x y : Int64} (hdg : decode cc pc = .ok (.lcmp, 1)) (kk : V g p l e R s m args below meth c nL cells slots Q (pc + 1) lv (.int (lg_cmp x y) :: rest) M) : V g p l e R s m args below meth c nL cells slots Q pc lv (.long y :: .long x :: rest) M := fun H locs ls hP hS hl => W.lcmp F.1.1 F.1.2.1 hdg (kk H locs ls hP hS hl)
theorem v_slen (F : Fx g p s m args c cc nL Ts own) (hb : gB g = s.heap.size) {b L : Nat} {xs : Nat → Int32} (hX : va_X b L xs s s.heap) (hbl : b < s.heap.size) (hdg : decode cc pc = .ok (.arraylength, 1)) (kk : V g p l e R s m args below meth c nL cells slots Q (pc + 1) lv (.int (nI L) :: rest) M) : V g p l e R s m args below meth c nL cells slots Q pc lv (.ref b :: rest) M := fun H locs ls hP hS hl => va_slen F.1.1 F.1.2.1 hX hbl (by unfold gA; omega) hS hdg (kk H locs ls hP hS hl)
theorem v_sld (F : Fx g p s m args c cc nL Ts own) (hb : gB g = s.heap.size) {b L : Nat} {xs : Nat → Int32} (hX : va_X b L xs s s.heap) (hbl : b < s.heap.size) {n : Nat} (hn : n < L) (hL : L < 100000) (hdg : decode cc pc = .ok (.iaload, 1)) (kk : V g p l e R s m args below meth c nL cells slots Q (pc + 1) lv (.int (xs n) :: rest) M) : V g p l e R s m args below meth c nL cells slots Q pc lv (.int (nI n) :: .ref b :: rest) M := by
  intro H locs ls hP hS hl
  refine va_sld F.1.1 F.1.2.1 hX hbl (A := gA g) (by unfold gA; omega) hS (i := nI n) (i_in hn hL) hdg ?_
  rw [i_cl (by omega)]
  exact kk H locs ls hP hS hl
/-- the script's place n + j, pushed -/
theorem v_arg (F : Fx g p s m args c cc nL Ts own) (hb : gB g = s.heap.size) {b L : Nat} {xs : Nat → Int32} (hX : va_X b L xs s s.heap) (hbl : b < s.heap.size) {n : Nat} (j : Nat) (hn : n + j < L) (hL : L < 100000) {v : Int} (q0 q4 : Nat) (h0 : lv[q0]? = some (0, .ref b)) (h4 : lv[q4]? = some (4, .int (nI n))) (d0 : decode cc pc = .ok (.aload_n 0, 1)) (d1 : decode cc (pc + 1) = .ok (.iload 4, 2)) (d2 : decode cc (pc + 3) = .ok (.iconst v, 1)) (hv : Int32.ofInt v = nI j) (d3 : decode cc (pc + 4) = .ok (.iadd, 1)) (d4 : decode cc (pc + 5) = .ok (.iaload, 1)) (kk : V g p l e R s m args below meth c nL cells slots Q (pc + 6) lv (.int (xs (n + j)) :: rest) M) : V g p l e R s m args below meth c nL cells slots Q pc lv rest M := by
  refine v_aload_n F d0 rfl q0 h0 ?_
  refine v_iload F d1 q4 h4 ?_
  refine v_iconst (v := nI j) F d2 hv ?_
  refine v_iadd F d3 ?_
  rw [nI_add]
  exact v_sld F hb hX hbl hn hL d4 kk
theorem v_arg6 (F : Fx g p s m args c cc nL Ts own) (hb : gB g = s.heap.size) {b L : Nat} {xs : Nat → Int32} (hX : va_X b L xs s s.heap) (hbl : b < s.heap.size) {n : Nat} (j : Nat) (hn : n + j < L) (hL : L < 100000) {v : Int} (q0 q4 : Nat) (h0 : lv[q0]? = some (0, .ref b)) (h4 : lv[q4]? = some (4, .int (nI n))) (d0 : decode cc pc = .ok (.aload_n 0, 1)) (d1 : decode cc (pc + 1) = .ok (.iload 4, 2)) (d2 : decode cc (pc + 3) = .ok (.bipush v, 2)) (hv : (Int8.ofInt v).toInt32 = nI j) (d3 : decode cc (pc + 5) = .ok (.iadd, 1)) (d4 : decode cc (pc + 6) = .ok (.iaload, 1)) (kk : V g p l e R s m args below meth c nL cells slots Q (pc + 7) lv (.int (xs (n + j)) :: rest) M) : V g p l e R s m args below meth c nL cells slots Q pc lv rest M := by
  refine v_aload_n F d0 rfl q0 h0 ?_
  refine v_iload F d1 q4 h4 ?_
  refine v_bipush (v := nI j) F d2 hv ?_
  refine v_iadd F d3 ?_
  rw [nI_add]
  exact v_sld F hb hX hbl hn hL d4 kk
/-- a wrapper that catches, called -/
theorem v_callSXi (F : Fx g p s m args c cc nL Ts own) {y : MethodName} {ws : List Cond} {k mc ms maxL n index : Nat} {bytes : ByteArray} {ret : Option FieldType} {hh : List (Nat × Nat × Nat × Nat)} {As : List Value} {r : Int32} {M' : Mem} (hM : Cx g l y ws k mc ms As M vI (.inl r, M')) (cw : vx_CSW R s args own index y bytes maxL ret hh ws ({ frames := k, cells := mc, slots := ms, locals := 40 * k } : Room) mc ms n) (hn : As.length = n) {st : List Value} (hst : st = As.reverse ++ rest) (hW : (rest.map fun v => v.category).sum ≤ 8) (hdg : decode cc pc = .ok (.invokestatic index, 3)) (hf : cells + mc ≤ R.cells ∧ slots + ms ≤ R.slots) (kk : V g p l e R s m args below meth c nL (cells + mc) (slots + ms) Q (pc + 3) lv (.int r :: rest) M') : V g p l e R s m args below meth c nL cells slots Q pc lv st M := by
  intro H locs ls hP hS hl
  exact v_afterX (vx_runSX (As := As) (rest := rest) F.1 hM cw ⟨gI_blind, fun U hU hW9 => ⟨rfl, gI_pre F hP hS hU hW9⟩⟩ (g := F0 m pc ls st) rfl hn hl.1 hst (lv_room hW) hdg hf) hS hl (fun _ h9 => by cases h9; exact kk) (fun _ h9 => by cases h9)
theorem v_afterN {mc ms : Nat} {v : Option Value} {M' : Mem} {a : Array Value} {H : Heap} {locs : List Loc} {ls : Array Slot} {st : List Value} (hr : va_Run p l e R s m args below meth c H locs cells slots mc ms (F0 m pc ls st) rest (gQ g v M' a) (gA g)) (hS : va_S (gA g) s.heap H locs) (hl : lv_has ls nL lv)
    (kk : V g p l e R s m args below meth c nL (cells + mc) (slots + ms) Q (pc + 3) lv (v.toList ++ rest) M') : W p l e R s m args below meth c H locs cells slots Q (F0 m pc ls st) := by
  intro T hT X
  obtain ⟨v', st₀, t, T', L, h0, X', hL, e1, e2, ⟨⟨hv, hp⟩, hz, hk⟩, st⟩ := hr T hT X
  cases hv
  rw [h0] at hz hk
  have hS1 : va_S (gA g) s.heap T'.heap (locs ++ L) := ⟨Nat.le_trans hS.1 (by rw [e1]; exact hz), fun q h1 h2 => by rw [e1, hk q (Nat.lt_of_lt_of_le h1 hS.1) h2]; exact hS.2.1 q h1 h2, fun q hq => by
      rcases List.mem_append.mp hq with h | h
      · exact hS.2.2 q h
      · exact hL q h⟩
  obtain ⟨t2, a1, b1⟩ := kk T'.heap (locs ++ L) ls (by rw [e1]; exact hp) hS1 hl T' rfl X'
  exact ⟨t2, st t2 a1, b1⟩
/-- a method that makes cells and forgets them, called -/
theorem v_callVN (F : Fx g p s m args c cc nL Ts own) {y : MethodName} {ws : List Cond} {k mc ms maxL n index b ci : Nat} {bytes : ByteArray} {ret : Option FieldType} {C : String} {T : u_T} {N : Nat} {As : List Value} {r : Int32} {M' : Mem} (hM : CnN g l y ws k mc ms (.ref (gAd g b) :: As) M (some (.int r)) M') (cw : CallW R s args own C index y bytes maxL ret ws ({ frames := k, cells := mc, slots := ms, locals := 40 * k } : Room) mc ms n) (hT : Ty g ci b) (hc : ci < 12) (hcl : vwCl[ci]? = some (C, T, N)) (hn : As.length = n) {st : List Value} (hst : st = As.reverse ++ .ref (gAd g b) :: rest) (hW : (rest.map fun v => v.category).sum ≤ 8) (hdg : decode cc pc = .ok (.invokevirtual index, 3)) (hf : cells + mc ≤ R.cells ∧ slots + ms ≤ R.slots) (kk : V g p l e R s m args below meth c nL (cells + mc) (slots + ms) Q (pc + 3) lv (.int r :: rest) M') : V g p l e R s m args below meth c nL cells slots Q pc lv st M := by
  intro H locs ls hP hS hl
  obtain ⟨j, hj, hjk⟩ := gW_at (g := g) (M := M) hT.1
  rw [gE_obj hT hc] at hj
  exact v_afterN (va_runV (As := As) (rest := rest) F.1 hM cw ⟨gI_blind, va_recv F.2.1 hP hcl hj, fun U hU hW9 => ⟨rfl, gI_pre F hP hS hU hW9⟩⟩ rfl hn hl.1 hst (lv_room hW) hdg hf) hS hl kk
theorem shp_intL {b : Nat} (hk : (shp b).1 = 17) : ∀ k r, ¬ (shp b).2.2 k = some r := by
  have h : ∀ e ∈ shL, e.1 = 17 → e.2.2 = [] := by decide +kernel
  intro k r hr
  unfold shp at hk hr
  cases he : shL[b]? with
  | none => rw [he] at hr; cases hr
  | some e =>
    rw [he] at hk hr
    have h1 := h e (List.mem_of_getElem? he) hk
    simp only [h1] at hr
    cases hr
theorem v_newLg (F : Fx g p s m args c cc nL Ts own) {b : Nat} {n : Int32} (harr : Cond.arrayClass .long ∈ Ts) (hb : b ∉ gL g) (hk : (shp b).1 = 17) (hn0 : ¬ n < 0) (hN : n.toNatClampNeg = (shp b).2.1) (hsz : (shp b).2.1 * 8 ≤ 536870912) (hcells : cells + 1 ≤ R.cells) (hslots : slots + (shp b).2.1 ≤ R.slots) (hdg : decode cc pc = .ok (.newarray .long, 2))
    (kk : ∀ q, gOK (gNewA g b q) → V (gNewA g b q) p l e R s m args below meth c nL (cells + 1) (slots + (shp b).2.1) Q (pc + 2) lv (.ref q :: rest) (mZ M b)) : V g p l e R s m args below meth c nL cells slots Q pc lv (.int n :: rest) M := by
  intro H locs ls hP hS hl
  refine va_newa (atype := .long) (ty := .long) (N' := (shp b).2.1) (a0 := ((shp b).2.1, .inr (.inl (fun _ => 0)))) F.1.1 F.1.2.1 (F.1.2.2.2.2 _ harr) rfl F.2.1 hP (F.2.2.1.D M) hS (gA_new F) (fun _ => rfl) hn0 hN (by show (shp b).2.1 * 8 ≤ _; omega) hcells hslots hdg (fun q cA H1 hK1 hP1 hD1 hS1 => ?_)
  obtain ⟨f1, f2⟩ := fresh_of hD1
  have hcA : cA = g.2.1 17 := by
    have h1 := (hK1.2 6 (cA, .long) rfl).2
    have h2 := (F.2.1.2 5 (g.2.1 17, .long) rfl).2
    exact Option.some.inj (h1.symm.trans h2)
  subst hcA
  have hok : gOK (gNewA g b q) := gok_grow F.2.2.1 hb rfl rfl (fun a ha => if_neg (ne_of_in hb ha)) (if_pos rfl) (fun a ha => if_neg (ne_of_in hb ha)) (fun a ha k => if_neg (ne_of_in hb ha)) (fun a ha h => f1 (gAd g a, gE g M a) (List.mem_map.mpr ⟨a, ha, rfl⟩) h) f2 (by omega) (fun _ => by rw [hk]; decide) (fun k r hr => absurd hr (shp_intL hk k r))
  have hE : gE (gNewA g b q) (mZ M b) b = .inl (g.2.1 17, (shp b).2.1, .inr (.inl (fun _ => 0))) := by
    unfold gE
    rw [hk, if_neg (by decide), if_neg (by decide), if_pos rfl]
    refine congrArg (fun f => Sum.inl (g.2.1 17, (shp b).2.1, Sum.inr (Sum.inl f))) (funext fun k => ?_)
    simp [mZ]
  have hW := gNewA_W (M' := mZ M b) (q := q) F.2.2.1 hb (fun a ha => mZ_ne ha)
  rw [hE] at hW
  refine kk q hok H1 locs ls ?_ hS1 hl
  show va_P g.1 vwCl (gW (gNewA g b q) (mZ M b)) H1
  rw [hW]; exact hP1
end LAWV
