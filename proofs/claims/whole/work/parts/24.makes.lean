/-! What a constructor makes, as a table of shapes: contracts for any place in the pool. -/
def shft (b : Nat) (e : Nat × Nat × List (Option Nat)) : Nat × Nat × List (Option Nat) := (e.1, e.2.1, e.2.2.map (Option.map (fun x => b + x)))
def shAt (L : List (Nat × Nat × List (Option Nat))) (b : Nat) : Prop := ∀ j, j < L.length → shL[b + j]? = (L[j]?).map (shft b)
theorem shAt.get {L : List (Nat × Nat × List (Option Nat))} {b j : Nat} {e : Nat × Nat × List (Option Nat)} (h : shAt L b) (he : L[j]? = some e) : (shp (b + j)).1 = e.1 ∧ (shp (b + j)).2.1 = e.2.1 ∧ ∀ k, (shp (b + j)).2.2 k = (e.2.2.getD k none).map (fun x => b + x) := by
  have h1 := h j (List.getElem?_eq_some_iff.mp he).1
  rw [he] at h1
  unfold shp
  rw [h1]
  refine ⟨rfl, rfl, fun k => ?_⟩
  show (e.2.2.map (Option.map (fun x => b + x))).getD k none = _
  rw [List.getD_eq_getElem?_getD, List.getElem?_map, List.getD_eq_getElem?_getD]
  cases e.2.2[k]? with
  | none => rfl
  | some x => cases x <;> rfl
theorem shAt.sub {L S : List (Nat × Nat × List (Option Nat))} {b j : Nat} (h : shAt L b) (hs : ∀ i, i < S.length → L[j + i]? = (S[i]?).map (shft j)) : shAt S (b + j) := by
  intro i hi
  have h1 := hs i hi
  have hlt : j + i < L.length := by
    cases z : S[i]? with
    | none => rw [List.getElem?_eq_none_iff] at z; omega
    | some e => rw [z] at h1; exact (List.getElem?_eq_some_iff.mp h1).1
  have h2 := h (j + i) hlt
  rw [Nat.add_assoc, h2, h1, Option.map_map]
  cases S[i]? with
  | none => rfl
  | some e =>
    show some (shft b (shft j e)) = some (shft (b + j) e)
    unfold shft
    simp only [List.map_map]
    congr 3
    apply List.map_congr_left
    intro x _
    cases x with
    | none => rfl
    | some x => simp [Nat.add_assoc]
abbrev rowS (n : Nat) : List (Nat × Nat × List (Option Nat)) := [(8, 1, [some 1]), (12, n, [])]
/-- y, called on a fresh cell c of shape S, makes n cells and leaves memory f c M -/
def MkI (l : Launch) (y : MethodName) (ws : List Cond) (k mc ms n : Nat) (S : List (Nat × Nat × List (Option Nat))) (As : List Value) (f : Nat → Mem → Mem) : Prop := ∀ (g : gT) (c : Nat) (M : Mem), gOK g → c ∈ gL g → gDn g c = false → (∀ a, c < a → a < c + n → a ∉ gL g) → shAt S c → CnI g l y ws k mc ms c n (.ref (gAd g c) :: As) M (f c M)
theorem mk_Row (l : Launch) {N : Nat} {n : Int32} (hn : n = nI N) (hN : N < 100000) : MkI l yX8_init uX8_init 1 1 N 2 (rowS N) [.int n] (fun c M => mZ M (c + 1)) := by
  intro g c M hok hc hd hfree hS
  obtain ⟨a1, a2, a3⟩ := hS.get (j := 0) rfl
  obtain ⟨b1, b2, b3⟩ := hS.get (j := 1) rfl
  have e1 : (shp (c + 1)).2.1 = N := b2
  have h := c_X8_init (g := g) l hok (b := c) (n := n) (M := M) hc hd (hfree (c + 1) (by omega) (by omega)) a1 a2 (a3 0) b1 (by rw [hn]; exact nI_pos (by omega)) (by rw [hn, e1, nI_clamp (by omega)]) (by rw [e1]; omega)
  rw [e1] at h
  exact h
section BUILD2
variable {g : gT} {p : Program} {l : Launch} {e : Env} {R : Room} {s : State} {m : MethodId} {args : Array Value} {below : List Frame} {meth : Method} {c : Code} {nL cells slots : Nat} {Q : State → Prop}
variable {cc : ByteArray} {Ts : List Cond} {own : String} {pc : Nat} {lv : List (Nat × Value)} {rest : List Value} {M : Mem}
theorem v_newO (F : Fx g p s m args c cc nL Ts own) {C : String} {T : u_T} {N ci index b : Nat} {S : List (Nat × Nat × List (Option Nat))} {e0 : List (Option Nat)} (hS : shAt S b) (hS0 : S[0]? = some (ci, N, e0)) (ty : Nat → FieldType) (hty : ∀ k, k < N → parseFieldDescriptor (T k).2.2.1 = some (ty k)) (hin : ∀ w ∈ u_ws C T N, w ∈ Ts) (hcl : vwCl[ci]? = some (C, T, N)) (hclink : Cond.classLink own index C ∈ Ts) (hinst : Cond.instantiable C N ∈ Ts) (hini : Cond.initialized C ∈ Ts) (hb : b ∉ gL g) (hci : ci < 12) (hsz : N < 2147483648) (hd : ∀ j, j < N → defaultValue (ty j) = (match e0.getD j none with | some _ => Value.null | none => Value.int 0)) (hcells : cells + 1 ≤ R.cells) (hslots : slots + N ≤ R.slots) (hdg : decode cc pc = .ok (.new index, 3))
    (kk : ∀ q, gOK (gNew g b q) → V (gNew g b q) p l e R s m args below meth c nL (cells + 1) (slots + N) Q (pc + 3) lv (.ref q :: rest) (mZ M b)) : V g p l e R s m args below meth c nL cells slots Q pc lv rest M := by
  obtain ⟨a1, a2, a3⟩ := hS.get (j := 0) hS0
  refine v_new F ty hty hin hcl hclink hinst hini hb a1 hci a2 hsz (fun j hj => ?_) hcells hslots hdg kk
  have h9 : (shp b).2.2 j = (e0.getD j none).map (fun x => b + x) := a3 j
  rw [hd j hj, h9]
  cases e0.getD j none <;> rfl
/-- an int field of a cell that isn't done -/
theorem v_putU (F : Fx g p s m args c cc nL Ts own) {ref C : String} {T : u_T} {N ci index a k h0 : Nat} {v : Int32} {ty : FieldType} (haL : a ∈ gL g) (hak : (shp a).1 = ci) (haN : (shp a).2.1 = N) (har : (shp a).2.2 k = none) (e0 : gAd g a = h0) (hc : ci < 12) (hin : ∀ w ∈ u_ws C T N, w ∈ Ts) (ty0 : Nat → FieldType) (hty : ∀ k, k < N → parseFieldDescriptor (T k).2.2.1 = some (ty0 k)) (hnm : ∀ a, a < N → ∀ b, b < N → a ≠ b → (T a).2.1 ≠ (T b).2.1) (hcl : vwCl[ci]? = some (C, T, N)) (hk : k < N) (hlink : Cond.fieldLink own index ref (T k).2.1 (T k).2.2.1 ∈ Ts) (hsame : (T k).1 = ref) (hfin : (T k).2.2.2 = false) (hd : parseFieldDescriptor (T k).2.2.1 = some ty) (hn0 : narrow ty (.int v) = .int v) (hfit : fits ty (.int v) = true) (hdg : decode cc pc = .ok (.putfield index, 3)) (kk : V g p l e R s m args below meth c nL cells slots Q (pc + 3) lv rest (mU M a k v)) : V g p l e R s m args below meth c nL cells slots Q pc lv (.int v :: .ref h0 :: rest) M := by
  intro H locs ls hP hS hl
  subst e0
  obtain ⟨j, hj, hjk⟩ := gW_at (g := g) (M := M) haL
  have hE : ∀ M : Mem, gE g M a = .inr (ci, gFl g M a (shp a).2.2 N) := fun M => by
    unfold gE
    rw [if_pos (by rw [hak]; exact hc), hak, haN]
  rw [hE] at hj
  have hset := gW_set (M' := mU M a k v) (e := .inr (ci, (gFl g M a (shp a).2.2 N).set k (.int v))) F.2.2.1 hjk (by rw [hE, gFl_set har]) (fun b hb => mU_ne M k v hb)
  refine va_put F.1.1 F.1.2.1 F.1.2.2.2.2 hin ty0 hty hnm F.1.2.2.2.1 F.2.1 hP (F.2.2.1.D M) hS j hj hcl k hk (F.1.2.2.2.2 _ hlink) (fun x h => by rw [← hsame]; exact h) hfin hd hn0 hfit (by unfold gFl; simp [hk]) hdg (fun H1 locs1 hP1 _ hS1 => ?_)
  rw [hset] at hP1
  exact kk H1 locs1 ls hP1 hS1 hl
/-- 'this.f = new C(As)': from the constructor's call to behind the putfield -/
theorem v_initPut {g0 : gT} {b c0 k : Nat} {K : List Nat} (hB : Bld g0 g b c0 K) (hbL : b ∈ gL g0) (hbc : b < c0) {y : MethodName} {ws : List Cond} {kf mc ms n q h0 na index maxL : Nat} {bytes : ByteArray} {S : List (Nat × Nat × List (Option Nat))} {As : List Value} {f : Nat → Mem → Mem} (hmk : MkI l y ws kf mc ms n S As f) (hS : shAt S c0) (hn : 0 < n) (hfree : ∀ a, b < a → a < c0 + n → a ∉ gL g0)
    (F : Fx (gNew g c0 q) p s m args c cc nL Ts own) (e0 : gAd g0 b = h0) (cw : CallB R s args own index y bytes maxL none ws ({ frames := kf, cells := mc, slots := ms, locals := 40 * kf } : Room) mc ms na ∧ y.name = "<init>" ∧ (Cond.instanceMethod y).before args s = true) (hna : As.length = na) {st : List Value} (hst : st = As.reverse ++ [.ref q, .ref q, .ref h0]) (hdg : decode cc pc = .ok (.invokespecial index, 3)) (hf : cells + mc ≤ R.cells ∧ slots + ms ≤ R.slots)
    {ref C : String} {T : u_T} {N ci ix2 : Nat} {ty : FieldType} (hbk : (shp b).1 = ci) (hN : (shp b).2.1 = N) (hr : (shp b).2.2 k = some c0) (hc : ci < 12) (hin : ∀ w ∈ u_ws C T N, w ∈ Ts) (ty0 : Nat → FieldType) (hty : ∀ k, k < N → parseFieldDescriptor (T k).2.2.1 = some (ty0 k)) (hnm : ∀ a, a < N → ∀ b, b < N → a ≠ b → (T a).2.1 ≠ (T b).2.1) (hcl : vwCl[ci]? = some (C, T, N)) (hk : k < N) (hlink : Cond.fieldLink own ix2 ref (T k).2.1 (T k).2.2.1 ∈ Ts) (hsame : (T k).1 = ref) (hfin : (T k).2.2.2 = true) (hinit : meth.name = "<init>") (hdecl : (T k).1 = own) (hd : parseFieldDescriptor (T k).2.2.1 = some ty) (hn0 : narrow ty (.ref q) = .ref q) (hfit : fits ty (.ref q) = true) (hdg2 : decode cc (pc + 3) = .ok (.putfield ix2, 3))
    (kk : ∀ g2, Bld g0 g2 b (c0 + n) (k :: K) → V g2 p l e R s m args below meth c nL (cells + mc) (slots + ms) Q (pc + 3 + 3) lv [] (f c0 M)) : V (gNew g c0 q) p l e R s m args below meth c nL cells slots Q pc lv st M := by
  have hok := F.2.2.1
  have hcg : c0 ∉ gL g := fun h => by
    rcases (hB.2.2.2.2.1 c0).mp h with h | h
    · exact hfree c0 hbc (by omega) h
    · omega
  have hcn : c0 ∈ gL (gNew g c0 q) := List.mem_append_right _ (List.mem_singleton.mpr rfl)
  have had : gAd (gNew g c0 q) c0 = q := if_pos rfl
  have hcon := hmk (gNew g c0 q) c0 M hok hcn (if_pos rfl) (fun a h1 h2 h => by
    rcases List.mem_append.mp h with h | h
    · rcases (hB.2.2.2.2.1 a).mp h with h | h
      · exact hfree a (by omega) h2 h
      · omega
    · have := List.mem_singleton.mp h
      omega) hS
  refine v_callI (rest := [.ref q, .ref h0]) F hcon cw hna (by rw [had]; exact hst) (Nat.le_of_ble_eq_true rfl) hdg hf (fun g1 hx => ?_)
  have F1 : Fx g1 p s m args c cc nL Ts own := F.grow hx.1 hx.2.1 hx.2.2.1 hx.2.2.2.1 hx.2.2.2.2.2.2.1
  have hbg : b ∈ gL g := (hB.2.2.2.2.1 b).mpr (Or.inl hbL)
  have hbn : b ∈ gL (gNew g c0 q) := List.mem_append_left _ hbg
  have hbc2 : b ≠ c0 := by omega
  obtain ⟨x1, x2⟩ := hx.2.2.2.2.2.1 b hbn
  obtain ⟨y1, y2⟩ := hx.2.2.2.2.2.1 c0 hcn
  refine v_putR (k := k) (x := c0) (ty := ty) F1 ((hx.2.2.2.2.1 b).mpr (Or.inl hbn)) hbk ?_ ?_ (by rw [y1]; exact had) hc hin ty0 hty hnm hcl hN hr ((hx.2.2.2.2.1 c0).mpr (Or.inl hcn)) hk hlink hsame hfin hinit hdecl hd hn0 hfit hdg2 (fun hok2 => kk _ (hB.put hbL hbc hfree hn hx hok2))
  · rw [(x2 hbc2).1]
    show (if b = c0 then false else gDn g b) = false
    rw [if_neg hbc2]; exact hB.2.2.2.2.2.2.2.2.1
  · rw [x1]
    show (if b = c0 then q else gAd g b) = h0
    rw [if_neg hbc2, (hB.2.2.2.2.2.1 b hbL).1]; exact e0
end BUILD2
