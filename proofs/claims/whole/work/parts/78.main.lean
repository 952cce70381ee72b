/-! The class's constructor, the model's. -/
/-- what these two constructors need beside the pool: the array classes over Law, Road, int[] -/
def Ov (U : State) : Prop := va_AO "GallopRoads$Law" U ∧ va_AO "GallopRoads$Road" U ∧ va_AOA .int U
theorem Ov.moved {u U : State} (hvm : u.vm.Alike U.vm) (h : Ov u) : Ov U := ⟨va_AO.moved hvm h.1, va_AO.moved hvm h.2.1, va_AOA.moved hvm h.2.2⟩
def CnJ (g : gT) (l : Launch) (y : MethodName) (ws : List Cond) (k mc ms b n : Nat) (av : List Value) (M M' : Mem) : Prop := Met l y ws ({ frames := k, cells := mc, slots := ms, locals := 40 * k } : Room) (va_Pc av (fun U => gI g M U ∧ Ov U)) (gQI g b n M') mc ms (gA g)
theorem CnJ.of {g : gT} {l : Launch} {cc : ByteArray} {y : MethodName} {ws ws' : List Cond} {k mc ms b n maxL : Nat} {ret : Option FieldType} {av : List Value} {M M' : Mem} (hok : gOK g) (hy : plainName y.cls = true) (hw : ws = Cond.code y cc maxL ret :: ws') (hl : (lg_sl av).length ≤ maxL) (hnm : y.name = "<init>")
    (body : ∀ p e s m args below meth c, Fx g p s m args c cc maxL ws y.cls → Ov s → meth.sig.returnType = ret → meth.locks = false → meth.name = "<init>" → V g p l e ({ frames := k, cells := mc, slots := ms, locals := 40 * k } : Room) s m args below meth c maxL 0 0 (MQ below (gQI g b n M') args s mc ms (gA g)) 0 (lv_args 0 av) [] M) : CnJ g l y ws k mc ms b n av M M' := by
  refine Met.ofW (cc := cc) (maxL := maxL) (ret := ret) hy hw ?_
  intro p e s m args below meth c s₁ B hml hv
  obtain ⟨rfl, ⟨hP, hK, hB, hX⟩, hO⟩ := hv
  have hts := atoms_spec (ws := ws) B.pre
  have hin : meth.name = y.name := (name_of_methodNamed B.named B.method).1
  rw [lg_entry_eq]
  exact body p e s m av.toArray below meth c ⟨⟨B.exec, B.bytes, hml, findClass_of_methodNamed B.named, hts⟩, hK, hok, hB, hX⟩ hO B.returns B.notSynchronized (hin.trans hnm) s.heap [] _ hP va_S.rf (lv_entry av hl)
section MAINV
variable {g : gT} {p : Program} {l : Launch} {e : Env} {R : Room} {s : State} {m : MethodId} {args : Array Value} {below : List Frame} {meth : Method} {c : Code} {nL cells slots : Nat} {Q : State → Prop}
variable {cc : ByteArray} {Ts : List Cond} {own : String} {pc : Nat} {lv : List (Nat × Value)} {rest : List Value} {M : Mem}
theorem gJ_blind {av : List Value} : FrameBlind (va_Pc av (fun U => gI g M U ∧ Ov U)) := fun a U g9 mk h => by
  have h1 : va_Pc av (gI g M) a (U.calling g9 mk a) := gI_blind (av := av) (M := M) (g := g) a U g9 mk ⟨h.1, h.2.1⟩
  exact ⟨h1.1, h1.2, Ov.moved (u := U) (U := U.calling g9 mk a) (Vm.Alike.refl U.vm) h.2.2⟩
theorem v_callJ (F : Fx g p s m args c cc nL Ts own) (hO : Ov s) {y : MethodName} {ws : List Cond} {k mc ms maxL na index b n : Nat} {bytes : ByteArray} {As : List Value} {M' : Mem} (hM : CnJ g l y ws k mc ms b n (.ref (gAd g b) :: As) M M') (cw : CallB R s args own index y bytes maxL none ws ({ frames := k, cells := mc, slots := ms, locals := 40 * k } : Room) mc ms na ∧ y.name = "<init>" ∧ (Cond.instanceMethod y).before args s = true) (hn : As.length = na) {st : List Value} (hst : st = As.reverse ++ .ref (gAd g b) :: rest) (hW : (rest.map fun v => v.category).sum ≤ 8) (hdg : decode cc pc = .ok (.invokespecial index, 3)) (hf : cells + mc ≤ R.cells ∧ slots + ms ≤ R.slots)
    (kk : ∀ g', gExt g g' b n → V g' p l e R s m args below meth c nL (cells + mc) (slots + ms) Q (pc + 3) lv rest M') : V g p l e R s m args below meth c nL cells slots Q pc lv st M := by
  intro H locs ls hP hS hl
  exact v_afterI (va_runI (As := As) (rest := rest) F.1 hM cw ⟨gJ_blind, fun U hU hW9 => ⟨rfl, gI_pre F hP hS hU hW9, Ov.moved hW9.alike hO⟩⟩ rfl hn hl.1 hst (lv_room hW) hdg hf) hS hl kk
theorem v_iastE (F : Fx g p s m args c cc nL Ts own) {a j h0 : Nat} {i x : Int32} (hT : Ty g 12 a) (e0 : gAd g a = h0) (hj : i.toNatClampNeg = j) (hi : vp_in i (gN a)) (hdg : decode cc pc = .ok (.iastore, 1)) (kk : V g p l e R s m args below meth c nL cells slots Q (pc + 1) lv rest (mU M a j x)) : V g p l e R s m args below meth c nL cells slots Q pc lv (.int x :: .int i :: .ref h0 :: rest) M := by
  subst e0; subst hj
  exact v_iast F hT hi hdg kk
variable {g0 : gT} {b c0 : Nat} {U : List Nat} {S : List (Nat × Nat)}
/-- v_made, which keeps the addresses of the others -/
theorem v_made2 (hB : BldX g0 g b c0 U S) {y : MethodName} {ws : List Cond} {kf mc ms n q : Nat} {As : List Value} {M' : Mem} (hmk : ∀ (g : gT), gOK g → c0 ∈ gL g → gDn g c0 = false → (∀ a ∈ gL g, a ≤ c0) → CnI g l y ws kf mc ms c0 n (.ref (gAd g c0) :: As) M M') (hn : 0 < n) (hok : gOK (gNew g c0 q)) (F : Fx g0 p s m args c cc nL Ts own) {st rest' : List Value}
    (hcall : CnI (gNew g c0 q) l y ws kf mc ms c0 n (.ref (gAd (gNew g c0 q) c0) :: As) M M' → (∀ g1, gExt (gNew g c0 q) g1 c0 n → V g1 p l e R s m args below meth c nL (cells + mc) (slots + ms) Q (pc + 3) lv rest' M') → V (gNew g c0 q) p l e R s m args below meth c nL cells slots Q pc lv st M)
    (kk : ∀ g1, BldX g0 g1 b (c0 + n) U S → Fx g1 p s m args c cc nL Ts own → gAd g1 c0 = q → (∀ a ∈ gL g, gAd g1 a = gAd g a) → V g1 p l e R s m args below meth c nL (cells + mc) (slots + ms) Q (pc + 3) lv rest' M') : V (gNew g c0 q) p l e R s m args below meth c nL cells slots Q pc lv st M := by
  have hle : ∀ a ∈ gL (gNew g c0 q), a ≤ c0 := fun a ha => by
    rcases List.mem_append.mp ha with z | z
    · by_cases y : a ≤ c0
      · exact y
      · exact absurd z (hB.nin (by omega))
    · have := List.mem_singleton.mp z; omega
  refine hcall (hmk (gNew g c0 q) hok (List.mem_append_right _ (List.mem_singleton.mpr rfl)) (if_pos rfl) hle) (fun g1 hx => ?_)
  have hB1 := hB.ext hn hx
  refine kk g1 hB1 (hB1.fx F) ?_ (fun a ha => ?_)
  · rw [(hx.2.2.2.2.2.1 c0 (List.mem_append_right _ (List.mem_singleton.mpr rfl))).1]
    exact if_pos rfl
  · rw [(hx.2.2.2.2.2.1 a (List.mem_append_left _ ha)).1]
    exact if_neg (fun z : a = c0 => hB.nin (Nat.le_refl c0) (z ▸ ha))
theorem BldX.ty (h : BldX g0 g b c0 U S) {a k : Nat} (h1 : b < a) (h2 : a < c0) (h3 : a ∉ U) (hk : (shp a).1 = k) : Ty g k a := ⟨h.inn h1 h2, hk, h.dn h1 h2 h3⟩
theorem BldX.cong {U' : List Nat} (h : BldX g0 g b c0 U S) (hU : ∀ x, x ∈ U' ↔ x ∈ U) : BldX g0 g b c0 U' S := by
  obtain ⟨h1, h2, h3, h4, h5, h6, ⟨h7, h7'⟩, h8, h9⟩ := h
  exact ⟨h1, h2, h3, h4, h5, h6, ⟨fun a q1 q2 => by rw [h7 a q1 q2, hU], fun a ha => h7' a ((hU a).mp ha)⟩, h8, h9⟩
/-- an array of refs is full -/
theorem BldX.fillA {U' : List Nat} {a N ka ke : Nat} (h : BldX g0 g b c0 U S) (ha : a ∈ U) (hka : (shp a).1 = ka) (hN : (shp a).2.1 = N) (hc : ka = 14 ∧ ke = 3 ∨ ka = 15 ∧ ke = 7) (hf : ∀ k, k < N → ∃ r, (shp a).2.2 k = some r ∧ (a, k) ∈ S ∧ b < r ∧ r < c0 ∧ r ∉ U ∧ (shp r).1 = ke) (hU : ∀ x, x ∈ U' ↔ x ∈ U ∧ x ≠ a) : BldX g0 (gDone g a) b c0 U' S := by
  have hab := h.2.2.2.2.2.2.1.2 a ha
  have hok : gOK (gDone g a) := gok_doneA h.ok (by omega) (fun k hk => by
    obtain ⟨r, r1, r2, r3, r4, r5, r6⟩ := hf k (by omega)
    rcases hc with ⟨e1, e2⟩ | ⟨e1, e2⟩
    · exact ⟨fun _ => ⟨r, r1, h.nu r2, h.ty r3 r4 r5 (r6.trans e2)⟩, fun z => by omega, fun z => by omega⟩
    · exact ⟨fun z => by omega, fun _ => ⟨r, r1, h.nu r2, h.ty r3 r4 r5 (r6.trans e2)⟩, fun z => by omega⟩)
  refine (h.doneA hab.1 hab.2 hok).cong (fun x => ?_)
  rw [hU x, List.mem_filter, decide_eq_true_iff]
theorem shAt.rows {L : List (Nat × Nat × List (Option Nat))} {b off N K : Nat} (hS : shAt L b) (h0 : L[off]? = some (16, N, (List.range N).map (fun i => some (off + 1 + i)))) (hr : ∀ i, i < N → L[off + 1 + i]? = some (12, K, [])) : ∀ i, i < N → (shp (b + off)).2.2 i = some (b + off + 1 + i) ∧ (shp (b + off + 1 + i)).1 = 12 ∧ (shp (b + off + 1 + i)).2.1 = K := by
  intro i hi
  obtain ⟨_, _, h3⟩ := hS.get h0
  obtain ⟨g1, g2, _⟩ := hS.get (hr i hi)
  have e : b + off + 1 + i = b + (off + 1 + i) := by omega
  rw [e, h3 i]
  refine ⟨?_, g1, g2⟩
  rw [List.getD_eq_getElem?_getD, List.getElem?_map, List.getElem?_range hi]
  rfl
end MAINV
theorem ml_X10_3 : Cond.methodLink RX10 3 objectInit ∈ uT := uM1 (List.mem_of_getElem? (i := 29) rfl) rfl
theorem cl_X10_9 : Cond.classLink RX10 9 "GallopRoads$Row" ∈ uT := uM1 (List.mem_of_getElem? (i := 32) rfl) rfl
theorem ml_X10_11 : Cond.methodLink RX10 11 yX8_init ∈ uT := uM1 (List.mem_of_getElem? (i := 34) rfl) rfl
theorem cl_X10_18 : Cond.classLink RX10 18 "GallopRoads$Reader" ∈ uT := uM1 (List.mem_of_getElem? (i := 46) rfl) rfl
theorem it_X6 : Cond.instantiable RX6 9 ∈ uT := uM1 (List.mem_of_getElem? (i := 47) rfl) rfl
theorem cd_X6_init : Cond.code yX6_init cX6_init 1 none ∈ uT := uM1 (List.mem_of_getElem? (i := 50) rfl) rfl
theorem im_yX6_init : Cond.instanceMethod yX6_init ∈ uT := uM1 (List.mem_of_getElem? (i := 49) rfl) rfl
theorem cl_X10_25 : Cond.classLink RX10 25 "GallopRoads$Law" ∈ uT := uM1 (List.mem_of_getElem? (i := 108) rfl) rfl
theorem cl_X10_35 : Cond.classLink RX10 35 "GallopRoads$Road" ∈ uT := uM1 (List.mem_of_getElem? (i := 110) rfl) rfl
theorem it_X7 : Cond.instantiable RX7 5 ∈ uT := uM1 (List.mem_of_getElem? (i := 111) rfl) rfl
theorem cd_X7_init : Cond.code yX7_init cX7_init 1 none ∈ uT := uM1 (List.mem_of_getElem? (i := 114) rfl) rfl
theorem im_yX7_init : Cond.instanceMethod yX7_init ∈ uT := uM1 (List.mem_of_getElem? (i := 113) rfl) rfl
theorem cl_X10_46 : Cond.classLink RX10 46 "GallopRoads$Deck" ∈ uT := uM2 (List.mem_of_getElem? (i := 55) rfl) rfl
theorem ml_X10_48 : Cond.methodLink RX10 48 yX1_init ∈ uT := uM2 (List.mem_of_getElem? (i := 56) rfl) rfl
theorem it_X3 : Cond.instantiable RX3 5 ∈ uT := uM2 (List.mem_of_getElem? (i := 57) rfl) rfl
theorem cd_X3_init : Cond.code yX3_init cX3_init 1 none ∈ uT := uM2 (List.mem_of_getElem? (i := 60) rfl) rfl
theorem im_yX3_init : Cond.instanceMethod yX3_init ∈ uT := uM2 (List.mem_of_getElem? (i := 59) rfl) rfl
abbrev S10 : List (Nat × Nat × List (Option Nat)) := [(10, 11, [some 1, none, some 3, some 10, none, none, some 11, some 57, none, some 58, some 75]), (8, 1, [some 2]), (12, 300, []), (6, 9, [some 4, none, none, none, some 6, none, none, none, none]), (8, 1, [some 5]), (12, 300, []), (9, 4, [some 7, some 8, some 9, none]), (12, 301, []), (12, 301, []), (12, 301, []), (14, 4, [some 92, some 97, some 102, some 107]), (7, 5, [some 12, some 29, some 38, some 45, some 50]), (1, 10, [none, none, some 13, some 15, some 17, some 19, some 21, some 23, some 25, some 27]), (8, 1, [some 14]), (12, 10, []), (8, 1, [some 16]), (12, 8, []), (8, 1, [some 18]), (12, 8, []), (8, 1, [some 20]), (12, 8, []), (8, 1, [some 22]), (12, 8, []), (8, 1, [some 24]), (12, 8, []), (8, 1, [some 26]), (12, 8, []), (8, 1, [some 28]), (12, 9, []), (2, 5, [none, some 30, some 32, some 34, some 36]), (8, 1, [some 31]), (12, 20, []), (8, 1, [some 33]), (12, 20, []), (8, 1, [some 35]), (12, 20, []), (8, 1, [some 37]), (12, 20, []), (4, 4, [none, some 39, some 41, some 43]), (8, 1, [some 40]), (12, 5, []), (8, 1, [some 42]), (12, 5, []), (8, 1, [some 44]), (12, 5, []), (0, 3, [none, some 46, some 48]), (8, 1, [some 47]), (12, 6, []), (8, 1, [some 49]), (12, 60, []), (5, 4, [none, some 51, some 53, some 55]), (8, 1, [some 52]), (12, 10, []), (8, 1, [some 54]), (12, 10, []), (8, 1, [some 56]), (12, 10, []), (15, 3, [some 112, some 158, some 204]), (1, 10, [none, none, some 59, some 61, some 63, some 65, some 67, some 69, some 71, some 73]), (8, 1, [some 60]), (12, 10, []), (8, 1, [some 62]), (12, 8, []), (8, 1, [some 64]), (12, 8, []), (8, 1, [some 66]), (12, 8, []), (8, 1, [some 68]), (12, 8, []), (8, 1, [some 70]), (12, 8, []), (8, 1, [some 72]), (12, 8, []), (8, 1, [some 74]), (12, 9, []), (1, 10, [none, none, some 76, some 78, some 80, some 82, some 84, some 86, some 88, some 90]), (8, 1, [some 77]), (12, 10, []), (8, 1, [some 79]), (12, 8, []), (8, 1, [some 81]), (12, 8, []), (8, 1, [some 83]), (12, 8, []), (8, 1, [some 85]), (12, 8, []), (8, 1, [some 87]), (12, 8, []), (8, 1, [some 89]), (12, 8, []), (8, 1, [some 91]), (12, 9, []), (3, 5, [none, none, some 93, some 95, none]), (8, 1, [some 94]), (12, 300, []), (8, 1, [some 96]), (12, 300, []), (3, 5, [none, none, some 98, some 100, none]), (8, 1, [some 99]), (12, 300, []), (8, 1, [some 101]), (12, 300, []), (3, 5, [none, none, some 103, some 105, none]), (8, 1, [some 104]), (12, 300, []), (8, 1, [some 106]), (12, 300, []), (3, 5, [none, none, some 108, some 110, none]), (8, 1, [some 109]), (12, 300, []), (8, 1, [some 111]), (12, 300, []), (7, 5, [some 113, some 130, some 139, some 146, some 151]), (1, 10, [none, none, some 114, some 116, some 118, some 120, some 122, some 124, some 126, some 128]), (8, 1, [some 115]), (12, 10, []), (8, 1, [some 117]), (12, 8, []), (8, 1, [some 119]), (12, 8, []), (8, 1, [some 121]), (12, 8, []), (8, 1, [some 123]), (12, 8, []), (8, 1, [some 125]), (12, 8, []), (8, 1, [some 127]), (12, 8, []), (8, 1, [some 129]), (12, 9, []), (2, 5, [none, some 131, some 133, some 135, some 137]), (8, 1, [some 132]), (12, 20, []), (8, 1, [some 134]), (12, 20, []), (8, 1, [some 136]), (12, 20, []), (8, 1, [some 138]), (12, 20, []), (4, 4, [none, some 140, some 142, some 144]), (8, 1, [some 141]), (12, 5, []), (8, 1, [some 143]), (12, 5, []), (8, 1, [some 145]), (12, 5, []), (0, 3, [none, some 147, some 149]), (8, 1, [some 148]), (12, 6, []), (8, 1, [some 150]), (12, 60, []), (5, 4, [none, some 152, some 154, some 156]), (8, 1, [some 153]), (12, 10, []), (8, 1, [some 155]), (12, 10, []), (8, 1, [some 157]), (12, 10, []), (7, 5, [some 159, some 176, some 185, some 192, some 197]), (1, 10, [none, none, some 160, some 162, some 164, some 166, some 168, some 170, some 172, some 174]), (8, 1, [some 161]), (12, 10, []), (8, 1, [some 163]), (12, 8, []), (8, 1, [some 165]), (12, 8, []), (8, 1, [some 167]), (12, 8, []), (8, 1, [some 169]), (12, 8, []), (8, 1, [some 171]), (12, 8, []), (8, 1, [some 173]), (12, 8, []), (8, 1, [some 175]), (12, 9, []), (2, 5, [none, some 177, some 179, some 181, some 183]), (8, 1, [some 178]), (12, 20, []), (8, 1, [some 180]), (12, 20, []), (8, 1, [some 182]), (12, 20, []), (8, 1, [some 184]), (12, 20, []), (4, 4, [none, some 186, some 188, some 190]), (8, 1, [some 187]), (12, 5, []), (8, 1, [some 189]), (12, 5, []), (8, 1, [some 191]), (12, 5, []), (0, 3, [none, some 193, some 195]), (8, 1, [some 194]), (12, 6, []), (8, 1, [some 196]), (12, 60, []), (5, 4, [none, some 198, some 200, some 202]), (8, 1, [some 199]), (12, 10, []), (8, 1, [some 201]), (12, 10, []), (8, 1, [some 203]), (12, 10, []), (7, 5, [some 205, some 222, some 231, some 238, some 243]), (1, 10, [none, none, some 206, some 208, some 210, some 212, some 214, some 216, some 218, some 220]), (8, 1, [some 207]), (12, 10, []), (8, 1, [some 209]), (12, 8, []), (8, 1, [some 211]), (12, 8, []), (8, 1, [some 213]), (12, 8, []), (8, 1, [some 215]), (12, 8, []), (8, 1, [some 217]), (12, 8, []), (8, 1, [some 219]), (12, 8, []), (8, 1, [some 221]), (12, 9, []), (2, 5, [none, some 223, some 225, some 227, some 229]), (8, 1, [some 224]), (12, 20, []), (8, 1, [some 226]), (12, 20, []), (8, 1, [some 228]), (12, 20, []), (8, 1, [some 230]), (12, 20, []), (4, 4, [none, some 232, some 234, some 236]), (8, 1, [some 233]), (12, 5, []), (8, 1, [some 235]), (12, 5, []), (8, 1, [some 237]), (12, 5, []), (0, 3, [none, some 239, some 241]), (8, 1, [some 240]), (12, 6, []), (8, 1, [some 242]), (12, 60, []), (5, 4, [none, some 244, some 246, some 248]), (8, 1, [some 245]), (12, 10, []), (8, 1, [some 247]), (12, 10, []), (8, 1, [some 249]), (12, 10, [])]
abbrev uX10_init : List Cond := Cond.code yX10_init cX10_init 2 none :: uT
set_option maxHeartbeats 4000000 in
set_option maxRecDepth 100000 in
theorem w_X10_init_s8 {g g1 : gT} {p : Program} {l : Launch} {e : Env} {s : State} {m : MethodId} {args : Array Value} {below : List Frame} {meth : Method} {c9 : Code} {c h0a : Nat} {M13 : Mem} (F : Fx g p s m args c9 cX10_init 2 uX10_init RX10) (hO : Ov s) (hin : meth.name = "<init>") (hr : meth.sig.returnType = none) (hlk : meth.locks = false) (hS : shAt S10 c) (s0 : (shp c).1 = 10) (s1 : (shp c).2.1 = 11) (he0 : gAd g c = h0a) (hB : BldX g g1 c (c + 250) [c + 57] [(c + 57, 2), (c + 57, 1), (c + 57, 0), (c + 10, 3), (c + 10, 2), (c + 10, 1), (c + 10, 0), (c, 10), (c, 9), (c, 7), (c, 6), (c, 3), (c, 2), (c, 0)]) (hF : Fx g1 p s m args c9 cX10_init 2 uX10_init RX10)  : V g1 p l e ({ frames := 5, cells := 249, slots := 5359, locals := 40 * 5 } : Room) s m args below meth c9 2 249 5359 (MQ below (gQI g c 250 M13) args s 249 5359 (gA g)) 115 [(1, .int 3), (0, .ref h0a)] [] M13 := by
  refine v_iload_n hF dX10_init_115 rfl 0 rfl ?_
  refine v_aload_n hF dX10_init_116 rfl 1 rfl ?_
  refine v_getRU (a := c) (k := 7) (x := c + 57) hF hB.bin s0 s1 ((hS.get (j := 0) rfl).2.2 7) (hB.nu (List.mem_of_getElem? (i := 9) rfl)) ((hB.2.2.2.2.1 c hB.2.2.1.2).1.trans he0) (by decide) (inc inU_10) rfl (by decide) (List.mem_cons_of_mem _ fl_X10_42) rfl dX10_init_117 ?_
  refine v_alenU (a := c + 57) (ka := 15) (t0 := 3) hF (hB.inn (by omega) (by omega)) (hS.get (j := 57) rfl).1 (by decide) rfl rfl dX10_init_120 ?_
  rw [show gN (c + 57) = 3 from (hS.get (j := 57) rfl).2.1]
  refine v_icmp_ge (tgt := 143) hF dX10_init_121 (by decide) (fun _ => ?_) (fun hc => absurd (show nI 3 ≤ 3 by decide) hc)
  have B15d : BldX g (gDone g1 (c + 57)) c (c + 250) [] [(c + 57, 2), (c + 57, 1), (c + 57, 0), (c + 10, 3), (c + 10, 2), (c + 10, 1), (c + 10, 0), (c, 10), (c, 9), (c, 7), (c, 6), (c, 3), (c, 2), (c, 0)] := hB.fillA (N := 3) (ka := 15) (ke := 7) (List.mem_of_getElem? (i := 0) rfl) (hS.get (j := 57) rfl).1 (hS.get (j := 57) rfl).2.1 (by decide) (fun k hk => by
    rcases (show k = 0 ∨ k = 1 ∨ k = 2 by omega) with rfl | rfl | rfl
    · exact ⟨c + 112, (hS.get (j := 57) rfl).2.2 0, (List.mem_of_getElem? (i := 2) rfl), by omega, by omega, (by simp only [List.mem_cons, List.not_mem_nil, or_false]; omega), (hS.get (j := 112) rfl).1⟩
    · exact ⟨c + 158, (hS.get (j := 57) rfl).2.2 1, (List.mem_of_getElem? (i := 1) rfl), by omega, by omega, (by simp only [List.mem_cons, List.not_mem_nil, or_false]; omega), (hS.get (j := 158) rfl).1⟩
    · exact ⟨c + 204, (hS.get (j := 57) rfl).2.2 2, (List.mem_of_getElem? (i := 0) rfl), by omega, by omega, (by simp only [List.mem_cons, List.not_mem_nil, or_false]; omega), (hS.get (j := 204) rfl).1⟩) (by intro x; simp only [List.mem_cons, List.not_mem_nil, or_false]; constructor <;> intro h <;> first | exact h.elim | omega | exact absurd h.1 h.2)
  have F15d := B15d.fx F
  refine v_done (b := c + 57) ?_
  have hx := B15d.done (by rw [s0]; decide) (by rw [s0, s1]; rfl) (fun k9 f hf => by
    rw [s0] at hf
    match k9, hf with
    | 0, hf => cases hf; rw [if_neg (by decide)]; exact ⟨c + 1, (hS.get (j := 0) rfl).2.2 0, (List.mem_of_getElem? (i := 13) rfl), by omega, by omega, (hS.get (j := 1) rfl).1⟩
    | 1, hf => cases hf; rw [if_pos rfl]; exact (hS.get (j := 0) rfl).2.2 1
    | 2, hf => cases hf; rw [if_neg (by decide)]; exact ⟨c + 3, (hS.get (j := 0) rfl).2.2 2, (List.mem_of_getElem? (i := 12) rfl), by omega, by omega, (hS.get (j := 3) rfl).1⟩
    | 3, hf => cases hf; rw [if_neg (by decide)]; exact ⟨c + 10, (hS.get (j := 0) rfl).2.2 3, (List.mem_of_getElem? (i := 11) rfl), by omega, by omega, (hS.get (j := 10) rfl).1⟩
    | 4, hf => cases hf; rw [if_pos rfl]; exact (hS.get (j := 0) rfl).2.2 4
    | 5, hf => cases hf; rw [if_pos rfl]; exact (hS.get (j := 0) rfl).2.2 5
    | 6, hf => cases hf; rw [if_neg (by decide)]; exact ⟨c + 11, (hS.get (j := 0) rfl).2.2 6, (List.mem_of_getElem? (i := 10) rfl), by omega, by omega, (hS.get (j := 11) rfl).1⟩
    | 7, hf => cases hf; rw [if_neg (by decide)]; exact ⟨c + 57, (hS.get (j := 0) rfl).2.2 7, (List.mem_of_getElem? (i := 9) rfl), by omega, by omega, (hS.get (j := 57) rfl).1⟩
    | 8, hf => cases hf; rw [if_pos rfl]; exact (hS.get (j := 0) rfl).2.2 8
    | 9, hf => cases hf; rw [if_neg (by decide)]; exact ⟨c + 58, (hS.get (j := 0) rfl).2.2 9, (List.mem_of_getElem? (i := 8) rfl), by omega, by omega, (hS.get (j := 58) rfl).1⟩
    | 10, hf => cases hf; rw [if_neg (by decide)]; exact ⟨c + 75, (hS.get (j := 0) rfl).2.2 10, (List.mem_of_getElem? (i := 7) rfl), by omega, by omega, (hS.get (j := 75) rfl).1⟩
    | k9 + 11, hf => cases hf) 250 rfl
  refine v_done (b := c) ?_
  exact v_vretI (F15d.grow rfl rfl rfl rfl hx.2.2.2.2.2.2.1) hx hr hlk dX10_init_143
set_option maxHeartbeats 4000000 in
set_option maxRecDepth 100000 in
theorem w_X10_init_s7 {g g1 : gT} {p : Program} {l : Launch} {e : Env} {s : State} {m : MethodId} {args : Array Value} {below : List Frame} {meth : Method} {c9 : Code} {c h0a : Nat} {M12 M13 : Mem} (F : Fx g p s m args c9 cX10_init 2 uX10_init RX10) (hO : Ov s) (hin : meth.name = "<init>") (hr : meth.sig.returnType = none) (hlk : meth.locks = false) (hS : shAt S10 c) (s0 : (shp c).1 = 10) (s1 : (shp c).2.1 = 11) (he0 : gAd g c = h0a) (hB : BldX g g1 c (c + 204) [c + 57] [(c + 57, 1), (c + 57, 0), (c + 10, 3), (c + 10, 2), (c + 10, 1), (c + 10, 0), (c, 10), (c, 9), (c, 7), (c, 6), (c, 3), (c, 2), (c, 0)]) (hF : Fx g1 p s m args c9 cX10_init 2 uX10_init RX10) (hZ14 : ∀ a, c + 204 ≤ a → M12 a = fun _ => 0) (hc14 : ∀ (g : gT), gOK g → c + 204 ∈ gL g → gDn g (c + 204) = false → (∀ a ∈ gL g, a ≤ c + 204) → CnI g l yX7_init uX7_init 4 45 304 (c + 204) 46 (.ref (gAd g (c + 204)) :: []) M12 M13) : V g1 p l e ({ frames := 5, cells := 249, slots := 5359, locals := 40 * 5 } : Room) s m args below meth c9 2 203 5050 (MQ below (gQI g c 250 M13) args s 249 5359 (gA g)) 115 [(1, .int 2), (0, .ref h0a)] [] M12 := by
  refine v_iload_n hF dX10_init_115 rfl 0 rfl ?_
  refine v_aload_n hF dX10_init_116 rfl 1 rfl ?_
  refine v_getRU (a := c) (k := 7) (x := c + 57) hF hB.bin s0 s1 ((hS.get (j := 0) rfl).2.2 7) (hB.nu (List.mem_of_getElem? (i := 8) rfl)) ((hB.2.2.2.2.1 c hB.2.2.1.2).1.trans he0) (by decide) (inc inU_10) rfl (by decide) (List.mem_cons_of_mem _ fl_X10_42) rfl dX10_init_117 ?_
  refine v_alenU (a := c + 57) (ka := 15) (t0 := 3) hF (hB.inn (by omega) (by omega)) (hS.get (j := 57) rfl).1 (by decide) rfl rfl dX10_init_120 ?_
  rw [show gN (c + 57) = 3 from (hS.get (j := 57) rfl).2.1]
  refine v_icmp_ge (tgt := 143) hF dX10_init_121 (by decide) (fun hc => absurd hc (by decide)) (fun _ => ?_)
  refine v_aload_n hF dX10_init_124 rfl 1 rfl ?_
  refine v_getRU (a := c) (k := 7) (x := c + 57) hF hB.bin s0 s1 ((hS.get (j := 0) rfl).2.2 7) (hB.nu (List.mem_of_getElem? (i := 8) rfl)) ((hB.2.2.2.2.1 c hB.2.2.1.2).1.trans he0) (by decide) (inc inU_10) rfl (by decide) (List.mem_cons_of_mem _ fl_X10_42) rfl dX10_init_125 ?_
  refine v_iload_n hF dX10_init_128 rfl 0 rfl ?_
  refine v_newO (b := c + 204) (S := S7) hF (hS.sub (j := 204) (by decide +kernel)) rfl tyX7 tyX7_ok (inc inU_7) rfl (List.mem_cons_of_mem _ cl_X10_35) (List.mem_cons_of_mem _ it_X7) (List.mem_cons_of_mem _ ini_X7) (hB.nin (Nat.le_refl _)) (by decide) (by decide) (by intro j hj; rcases (show j = 0 ∨ j = 1 ∨ j = 2 ∨ j = 3 ∨ j = 4 by omega) with rfl | rfl | rfl | rfl | rfl <;> rfl) (Nat.le_of_ble_eq_true rfl) (Nat.le_of_ble_eq_true rfl) dX10_init_129 (fun q14 hok14 => ?_)
  rw [mZ_id (hZ14 (c + 204) (Nat.le_refl _))]
  have G14 := hF.grow (g' := gNew g1 (c + 204) q14) rfl rfl rfl rfl hok14
  refine v_dup G14 dX10_init_132 rfl ?_
  refine v_made2 hB hc14 (by decide) hok14 F (rest' := [.ref q14, .int 2, .ref (gAd g1 (c + 57))]) (fun hM kk => v_callIN (As := []) (rest := [.ref q14, .int 2, .ref (gAd g1 (c + 57))]) G14 hM ⟨va_cnB (host := RX10) 0 F.1.2.2.2.2 (gU_0 cd_X7_init) rfl rfl rfl (F.2.2.2.2.1 _ (by decide +kernel)) (F.1.2.2.2.2 _ (List.mem_cons_of_mem _ ini_X7)) (by decide +kernel) ⟨Nat.le_of_ble_eq_true rfl, Nat.le_of_ble_eq_true rfl⟩, rfl, F.1.2.2.2.2 _ (List.mem_cons_of_mem _ im_yX7_init)⟩ rfl (by rw [show gAd (gNew g1 (c + 204) q14) (c + 204) = q14 from if_pos rfl]; rfl) (Nat.le_of_ble_eq_true rfl) dX10_init_133 ⟨Nat.le_of_ble_eq_true rfl, Nat.le_of_ble_eq_true rfl⟩ kk) (fun g15 B15 F15 ea15 ek15 => ?_)
  have B15 : BldX g g15 c (c + 250) [c + 57] [(c + 57, 1), (c + 57, 0), (c + 10, 3), (c + 10, 2), (c + 10, 1), (c + 10, 0), (c, 10), (c, 9), (c, 7), (c, 6), (c, 3), (c, 2), (c, 0)] := B15
  refine v_aastU (a := c + 57) (x := c + 204) (ka := 15) (ke := 7) (k := 2) (t0 := 3) F15 (B15.inn (by omega) (by omega)) (hS.get (j := 57) rfl).1 (by decide) (B15.ndU (List.mem_of_getElem? (i := 0) rfl)) (ek15 _ (hB.inn (by omega) (by omega))) (B15.ty (by omega) (by omega) (by simp only [List.mem_cons, List.not_mem_nil, or_false]; omega) (hS.get (j := 204) rfl).1) (by decide) ea15 rfl (by rw [show gN (c + 57) = 3 from (hS.get (j := 57) rfl).2.1]; decide) (by rw [show gN (c + 57) = 3 from (hS.get (j := 57) rfl).2.1]; decide) ((hS.get (j := 57) rfl).2.2 2) rfl rfl dX10_init_136 (fun hokp => ?_)
  have B15q : BldX g (gPut g15 (c + 57) 2) c (c + 250) [c + 57] [(c + 57, 2), (c + 57, 1), (c + 57, 0), (c + 10, 3), (c + 10, 2), (c + 10, 1), (c + 10, 0), (c, 10), (c, 9), (c, 7), (c, 6), (c, 3), (c, 2), (c, 0)] := B15.put (Or.inr (List.mem_of_getElem? (i := 0) rfl)) hokp
  have F15q := B15q.fx F
  refine v_iinc (v := 3) (lv' := [(1, .int 3), (0, .ref h0a)]) F15q dX10_init_137 (q := 0) rfl rfl (by decide) rfl ?_
  refine v_goto (tgt := 115) F15q dX10_init_140 (by decide) ?_
  exact w_X10_init_s8 F hO hin hr hlk hS s0 s1 he0 B15q F15q 
set_option maxHeartbeats 4000000 in
set_option maxRecDepth 100000 in
theorem w_X10_init_s6 {g g1 : gT} {p : Program} {l : Launch} {e : Env} {s : State} {m : MethodId} {args : Array Value} {below : List Frame} {meth : Method} {c9 : Code} {c h0a : Nat} {M11 M12 M13 : Mem} (F : Fx g p s m args c9 cX10_init 2 uX10_init RX10) (hO : Ov s) (hin : meth.name = "<init>") (hr : meth.sig.returnType = none) (hlk : meth.locks = false) (hS : shAt S10 c) (s0 : (shp c).1 = 10) (s1 : (shp c).2.1 = 11) (he0 : gAd g c = h0a) (hB : BldX g g1 c (c + 158) [c + 57] [(c + 57, 0), (c + 10, 3), (c + 10, 2), (c + 10, 1), (c + 10, 0), (c, 10), (c, 9), (c, 7), (c, 6), (c, 3), (c, 2), (c, 0)]) (hF : Fx g1 p s m args c9 cX10_init 2 uX10_init RX10) (hZ13 : ∀ a, c + 158 ≤ a → M11 a = fun _ => 0) (hc13 : ∀ (g : gT), gOK g → c + 158 ∈ gL g → gDn g (c + 158) = false → (∀ a ∈ gL g, a ≤ c + 158) → CnI g l yX7_init uX7_init 4 45 304 (c + 158) 46 (.ref (gAd g (c + 158)) :: []) M11 M12) (hZ14 : ∀ a, c + 204 ≤ a → M12 a = fun _ => 0) (hc14 : ∀ (g : gT), gOK g → c + 204 ∈ gL g → gDn g (c + 204) = false → (∀ a ∈ gL g, a ≤ c + 204) → CnI g l yX7_init uX7_init 4 45 304 (c + 204) 46 (.ref (gAd g (c + 204)) :: []) M12 M13) : V g1 p l e ({ frames := 5, cells := 249, slots := 5359, locals := 40 * 5 } : Room) s m args below meth c9 2 157 4741 (MQ below (gQI g c 250 M13) args s 249 5359 (gA g)) 115 [(1, .int 1), (0, .ref h0a)] [] M11 := by
  refine v_iload_n hF dX10_init_115 rfl 0 rfl ?_
  refine v_aload_n hF dX10_init_116 rfl 1 rfl ?_
  refine v_getRU (a := c) (k := 7) (x := c + 57) hF hB.bin s0 s1 ((hS.get (j := 0) rfl).2.2 7) (hB.nu (List.mem_of_getElem? (i := 7) rfl)) ((hB.2.2.2.2.1 c hB.2.2.1.2).1.trans he0) (by decide) (inc inU_10) rfl (by decide) (List.mem_cons_of_mem _ fl_X10_42) rfl dX10_init_117 ?_
  refine v_alenU (a := c + 57) (ka := 15) (t0 := 3) hF (hB.inn (by omega) (by omega)) (hS.get (j := 57) rfl).1 (by decide) rfl rfl dX10_init_120 ?_
  rw [show gN (c + 57) = 3 from (hS.get (j := 57) rfl).2.1]
  refine v_icmp_ge (tgt := 143) hF dX10_init_121 (by decide) (fun hc => absurd hc (by decide)) (fun _ => ?_)
  refine v_aload_n hF dX10_init_124 rfl 1 rfl ?_
  refine v_getRU (a := c) (k := 7) (x := c + 57) hF hB.bin s0 s1 ((hS.get (j := 0) rfl).2.2 7) (hB.nu (List.mem_of_getElem? (i := 7) rfl)) ((hB.2.2.2.2.1 c hB.2.2.1.2).1.trans he0) (by decide) (inc inU_10) rfl (by decide) (List.mem_cons_of_mem _ fl_X10_42) rfl dX10_init_125 ?_
  refine v_iload_n hF dX10_init_128 rfl 0 rfl ?_
  refine v_newO (b := c + 158) (S := S7) hF (hS.sub (j := 158) (by decide +kernel)) rfl tyX7 tyX7_ok (inc inU_7) rfl (List.mem_cons_of_mem _ cl_X10_35) (List.mem_cons_of_mem _ it_X7) (List.mem_cons_of_mem _ ini_X7) (hB.nin (Nat.le_refl _)) (by decide) (by decide) (by intro j hj; rcases (show j = 0 ∨ j = 1 ∨ j = 2 ∨ j = 3 ∨ j = 4 by omega) with rfl | rfl | rfl | rfl | rfl <;> rfl) (Nat.le_of_ble_eq_true rfl) (Nat.le_of_ble_eq_true rfl) dX10_init_129 (fun q13 hok13 => ?_)
  rw [mZ_id (hZ13 (c + 158) (Nat.le_refl _))]
  have G13 := hF.grow (g' := gNew g1 (c + 158) q13) rfl rfl rfl rfl hok13
  refine v_dup G13 dX10_init_132 rfl ?_
  refine v_made2 hB hc13 (by decide) hok13 F (rest' := [.ref q13, .int 1, .ref (gAd g1 (c + 57))]) (fun hM kk => v_callIN (As := []) (rest := [.ref q13, .int 1, .ref (gAd g1 (c + 57))]) G13 hM ⟨va_cnB (host := RX10) 0 F.1.2.2.2.2 (gU_0 cd_X7_init) rfl rfl rfl (F.2.2.2.2.1 _ (by decide +kernel)) (F.1.2.2.2.2 _ (List.mem_cons_of_mem _ ini_X7)) (by decide +kernel) ⟨Nat.le_of_ble_eq_true rfl, Nat.le_of_ble_eq_true rfl⟩, rfl, F.1.2.2.2.2 _ (List.mem_cons_of_mem _ im_yX7_init)⟩ rfl (by rw [show gAd (gNew g1 (c + 158) q13) (c + 158) = q13 from if_pos rfl]; rfl) (Nat.le_of_ble_eq_true rfl) dX10_init_133 ⟨Nat.le_of_ble_eq_true rfl, Nat.le_of_ble_eq_true rfl⟩ kk) (fun g14 B14 F14 ea14 ek14 => ?_)
  have B14 : BldX g g14 c (c + 204) [c + 57] [(c + 57, 0), (c + 10, 3), (c + 10, 2), (c + 10, 1), (c + 10, 0), (c, 10), (c, 9), (c, 7), (c, 6), (c, 3), (c, 2), (c, 0)] := B14
  refine v_aastU (a := c + 57) (x := c + 158) (ka := 15) (ke := 7) (k := 1) (t0 := 3) F14 (B14.inn (by omega) (by omega)) (hS.get (j := 57) rfl).1 (by decide) (B14.ndU (List.mem_of_getElem? (i := 0) rfl)) (ek14 _ (hB.inn (by omega) (by omega))) (B14.ty (by omega) (by omega) (by simp only [List.mem_cons, List.not_mem_nil, or_false]; omega) (hS.get (j := 158) rfl).1) (by decide) ea14 rfl (by rw [show gN (c + 57) = 3 from (hS.get (j := 57) rfl).2.1]; decide) (by rw [show gN (c + 57) = 3 from (hS.get (j := 57) rfl).2.1]; decide) ((hS.get (j := 57) rfl).2.2 1) rfl rfl dX10_init_136 (fun hokp => ?_)
  have B14q : BldX g (gPut g14 (c + 57) 1) c (c + 204) [c + 57] [(c + 57, 1), (c + 57, 0), (c + 10, 3), (c + 10, 2), (c + 10, 1), (c + 10, 0), (c, 10), (c, 9), (c, 7), (c, 6), (c, 3), (c, 2), (c, 0)] := B14.put (Or.inr (List.mem_of_getElem? (i := 0) rfl)) hokp
  have F14q := B14q.fx F
  refine v_iinc (v := 2) (lv' := [(1, .int 2), (0, .ref h0a)]) F14q dX10_init_137 (q := 0) rfl rfl (by decide) rfl ?_
  refine v_goto (tgt := 115) F14q dX10_init_140 (by decide) ?_
  exact w_X10_init_s7 F hO hin hr hlk hS s0 s1 he0 B14q F14q hZ14 hc14
set_option maxHeartbeats 4000000 in
set_option maxRecDepth 100000 in
theorem w_X10_init_s5 {g g1 : gT} {p : Program} {l : Launch} {e : Env} {s : State} {m : MethodId} {args : Array Value} {below : List Frame} {meth : Method} {c9 : Code} {c h0a : Nat} {M11 M12 M13 M6 : Mem} (F : Fx g p s m args c9 cX10_init 2 uX10_init RX10) (hO : Ov s) (hin : meth.name = "<init>") (hr : meth.sig.returnType = none) (hlk : meth.locks = false) (hS : shAt S10 c) (s0 : (shp c).1 = 10) (s1 : (shp c).2.1 = 11) (he0 : gAd g c = h0a) (hB : BldX g g1 c (c + 112) [c + 57] [(c + 10, 3), (c + 10, 2), (c + 10, 1), (c + 10, 0), (c, 10), (c, 9), (c, 7), (c, 6), (c, 3), (c, 2), (c, 0)]) (hF : Fx g1 p s m args c9 cX10_init 2 uX10_init RX10) (hZ12 : ∀ a, c + 112 ≤ a → M6 a = fun _ => 0) (hc12 : ∀ (g : gT), gOK g → c + 112 ∈ gL g → gDn g (c + 112) = false → (∀ a ∈ gL g, a ≤ c + 112) → CnI g l yX7_init uX7_init 4 45 304 (c + 112) 46 (.ref (gAd g (c + 112)) :: []) M6 M11) (hZ13 : ∀ a, c + 158 ≤ a → M11 a = fun _ => 0) (hc13 : ∀ (g : gT), gOK g → c + 158 ∈ gL g → gDn g (c + 158) = false → (∀ a ∈ gL g, a ≤ c + 158) → CnI g l yX7_init uX7_init 4 45 304 (c + 158) 46 (.ref (gAd g (c + 158)) :: []) M11 M12) (hZ14 : ∀ a, c + 204 ≤ a → M12 a = fun _ => 0) (hc14 : ∀ (g : gT), gOK g → c + 204 ∈ gL g → gDn g (c + 204) = false → (∀ a ∈ gL g, a ≤ c + 204) → CnI g l yX7_init uX7_init 4 45 304 (c + 204) 46 (.ref (gAd g (c + 204)) :: []) M12 M13) : V g1 p l e ({ frames := 5, cells := 249, slots := 5359, locals := 40 * 5 } : Room) s m args below meth c9 2 111 4432 (MQ below (gQI g c 250 M13) args s 249 5359 (gA g)) 113 [(1, .int 4), (0, .ref h0a)] [] M6 := by
  refine v_iconst (v := 0) hF dX10_init_113 (by decide) ?_
  refine v_istore_n (lv' := [(1, .int 0), (0, .ref h0a)]) hF dX10_init_114 rfl (by decide) rfl ?_
  refine v_iload_n hF dX10_init_115 rfl 0 rfl ?_
  refine v_aload_n hF dX10_init_116 rfl 1 rfl ?_
  refine v_getRU (a := c) (k := 7) (x := c + 57) hF hB.bin s0 s1 ((hS.get (j := 0) rfl).2.2 7) (hB.nu (List.mem_of_getElem? (i := 6) rfl)) ((hB.2.2.2.2.1 c hB.2.2.1.2).1.trans he0) (by decide) (inc inU_10) rfl (by decide) (List.mem_cons_of_mem _ fl_X10_42) rfl dX10_init_117 ?_
  refine v_alenU (a := c + 57) (ka := 15) (t0 := 3) hF (hB.inn (by omega) (by omega)) (hS.get (j := 57) rfl).1 (by decide) rfl rfl dX10_init_120 ?_
  rw [show gN (c + 57) = 3 from (hS.get (j := 57) rfl).2.1]
  refine v_icmp_ge (tgt := 143) hF dX10_init_121 (by decide) (fun hc => absurd hc (by decide)) (fun _ => ?_)
  refine v_aload_n hF dX10_init_124 rfl 1 rfl ?_
  refine v_getRU (a := c) (k := 7) (x := c + 57) hF hB.bin s0 s1 ((hS.get (j := 0) rfl).2.2 7) (hB.nu (List.mem_of_getElem? (i := 6) rfl)) ((hB.2.2.2.2.1 c hB.2.2.1.2).1.trans he0) (by decide) (inc inU_10) rfl (by decide) (List.mem_cons_of_mem _ fl_X10_42) rfl dX10_init_125 ?_
  refine v_iload_n hF dX10_init_128 rfl 0 rfl ?_
  refine v_newO (b := c + 112) (S := S7) hF (hS.sub (j := 112) (by decide +kernel)) rfl tyX7 tyX7_ok (inc inU_7) rfl (List.mem_cons_of_mem _ cl_X10_35) (List.mem_cons_of_mem _ it_X7) (List.mem_cons_of_mem _ ini_X7) (hB.nin (Nat.le_refl _)) (by decide) (by decide) (by intro j hj; rcases (show j = 0 ∨ j = 1 ∨ j = 2 ∨ j = 3 ∨ j = 4 by omega) with rfl | rfl | rfl | rfl | rfl <;> rfl) (Nat.le_of_ble_eq_true rfl) (Nat.le_of_ble_eq_true rfl) dX10_init_129 (fun q12 hok12 => ?_)
  rw [mZ_id (hZ12 (c + 112) (Nat.le_refl _))]
  have G12 := hF.grow (g' := gNew g1 (c + 112) q12) rfl rfl rfl rfl hok12
  refine v_dup G12 dX10_init_132 rfl ?_
  refine v_made2 hB hc12 (by decide) hok12 F (rest' := [.ref q12, .int 0, .ref (gAd g1 (c + 57))]) (fun hM kk => v_callIN (As := []) (rest := [.ref q12, .int 0, .ref (gAd g1 (c + 57))]) G12 hM ⟨va_cnB (host := RX10) 0 F.1.2.2.2.2 (gU_0 cd_X7_init) rfl rfl rfl (F.2.2.2.2.1 _ (by decide +kernel)) (F.1.2.2.2.2 _ (List.mem_cons_of_mem _ ini_X7)) (by decide +kernel) ⟨Nat.le_of_ble_eq_true rfl, Nat.le_of_ble_eq_true rfl⟩, rfl, F.1.2.2.2.2 _ (List.mem_cons_of_mem _ im_yX7_init)⟩ rfl (by rw [show gAd (gNew g1 (c + 112) q12) (c + 112) = q12 from if_pos rfl]; rfl) (Nat.le_of_ble_eq_true rfl) dX10_init_133 ⟨Nat.le_of_ble_eq_true rfl, Nat.le_of_ble_eq_true rfl⟩ kk) (fun g13 B13 F13 ea13 ek13 => ?_)
  have B13 : BldX g g13 c (c + 158) [c + 57] [(c + 10, 3), (c + 10, 2), (c + 10, 1), (c + 10, 0), (c, 10), (c, 9), (c, 7), (c, 6), (c, 3), (c, 2), (c, 0)] := B13
  refine v_aastU (a := c + 57) (x := c + 112) (ka := 15) (ke := 7) (k := 0) (t0 := 3) F13 (B13.inn (by omega) (by omega)) (hS.get (j := 57) rfl).1 (by decide) (B13.ndU (List.mem_of_getElem? (i := 0) rfl)) (ek13 _ (hB.inn (by omega) (by omega))) (B13.ty (by omega) (by omega) (by simp only [List.mem_cons, List.not_mem_nil, or_false]; omega) (hS.get (j := 112) rfl).1) (by decide) ea13 rfl (by rw [show gN (c + 57) = 3 from (hS.get (j := 57) rfl).2.1]; decide) (by rw [show gN (c + 57) = 3 from (hS.get (j := 57) rfl).2.1]; decide) ((hS.get (j := 57) rfl).2.2 0) rfl rfl dX10_init_136 (fun hokp => ?_)
  have B13q : BldX g (gPut g13 (c + 57) 0) c (c + 158) [c + 57] [(c + 57, 0), (c + 10, 3), (c + 10, 2), (c + 10, 1), (c + 10, 0), (c, 10), (c, 9), (c, 7), (c, 6), (c, 3), (c, 2), (c, 0)] := B13.put (Or.inr (List.mem_of_getElem? (i := 0) rfl)) hokp
  have F13q := B13q.fx F
  refine v_iinc (v := 1) (lv' := [(1, .int 1), (0, .ref h0a)]) F13q dX10_init_137 (q := 0) rfl rfl (by decide) rfl ?_
  refine v_goto (tgt := 115) F13q dX10_init_140 (by decide) ?_
  exact w_X10_init_s6 F hO hin hr hlk hS s0 s1 he0 B13q F13q hZ13 hc13 hZ14 hc14
set_option maxHeartbeats 4000000 in
set_option maxRecDepth 100000 in
theorem w_X10_init_s4 {g g1 : gT} {p : Program} {l : Launch} {e : Env} {s : State} {m : MethodId} {args : Array Value} {below : List Frame} {meth : Method} {c9 : Code} {c h0a : Nat} {M11 M12 M13 M6 : Mem} (F : Fx g p s m args c9 cX10_init 2 uX10_init RX10) (hO : Ov s) (hin : meth.name = "<init>") (hr : meth.sig.returnType = none) (hlk : meth.locks = false) (hS : shAt S10 c) (s0 : (shp c).1 = 10) (s1 : (shp c).2.1 = 11) (he0 : gAd g c = h0a) (hB : BldX g g1 c (c + 112) [c + 57, c + 10] [(c + 10, 3), (c + 10, 2), (c + 10, 1), (c + 10, 0), (c, 10), (c, 9), (c, 7), (c, 6), (c, 3), (c, 2), (c, 0)]) (hF : Fx g1 p s m args c9 cX10_init 2 uX10_init RX10) (hZ12 : ∀ a, c + 112 ≤ a → M6 a = fun _ => 0) (hc12 : ∀ (g : gT), gOK g → c + 112 ∈ gL g → gDn g (c + 112) = false → (∀ a ∈ gL g, a ≤ c + 112) → CnI g l yX7_init uX7_init 4 45 304 (c + 112) 46 (.ref (gAd g (c + 112)) :: []) M6 M11) (hZ13 : ∀ a, c + 158 ≤ a → M11 a = fun _ => 0) (hc13 : ∀ (g : gT), gOK g → c + 158 ∈ gL g → gDn g (c + 158) = false → (∀ a ∈ gL g, a ≤ c + 158) → CnI g l yX7_init uX7_init 4 45 304 (c + 158) 46 (.ref (gAd g (c + 158)) :: []) M11 M12) (hZ14 : ∀ a, c + 204 ≤ a → M12 a = fun _ => 0) (hc14 : ∀ (g : gT), gOK g → c + 204 ∈ gL g → gDn g (c + 204) = false → (∀ a ∈ gL g, a ≤ c + 204) → CnI g l yX7_init uX7_init 4 45 304 (c + 204) 46 (.ref (gAd g (c + 204)) :: []) M12 M13) : V g1 p l e ({ frames := 5, cells := 249, slots := 5359, locals := 40 * 5 } : Room) s m args below meth c9 2 111 4432 (MQ below (gQI g c 250 M13) args s 249 5359 (gA g)) 85 [(1, .int 4), (0, .ref h0a)] [] M6 := by
  refine v_iload_n hF dX10_init_85 rfl 0 rfl ?_
  refine v_aload_n hF dX10_init_86 rfl 1 rfl ?_
  refine v_getRU (a := c) (k := 3) (x := c + 10) hF hB.bin s0 s1 ((hS.get (j := 0) rfl).2.2 3) (hB.nu (List.mem_of_getElem? (i := 8) rfl)) ((hB.2.2.2.2.1 c hB.2.2.1.2).1.trans he0) (by decide) (inc inU_10) rfl (by decide) (List.mem_cons_of_mem _ fl_X10_27) rfl dX10_init_87 ?_
  refine v_alenU (a := c + 10) (ka := 14) (t0 := 2) hF (hB.inn (by omega) (by omega)) (hS.get (j := 10) rfl).1 (by decide) rfl rfl dX10_init_90 ?_
  rw [show gN (c + 10) = 4 from (hS.get (j := 10) rfl).2.1]
  refine v_icmp_ge (tgt := 113) hF dX10_init_91 (by decide) (fun _ => ?_) (fun hc => absurd (show nI 4 ≤ 4 by decide) hc)
  have B12d : BldX g (gDone g1 (c + 10)) c (c + 112) [c + 57] [(c + 10, 3), (c + 10, 2), (c + 10, 1), (c + 10, 0), (c, 10), (c, 9), (c, 7), (c, 6), (c, 3), (c, 2), (c, 0)] := hB.fillA (N := 4) (ka := 14) (ke := 3) (List.mem_of_getElem? (i := 1) rfl) (hS.get (j := 10) rfl).1 (hS.get (j := 10) rfl).2.1 (by decide) (fun k hk => by
    rcases (show k = 0 ∨ k = 1 ∨ k = 2 ∨ k = 3 by omega) with rfl | rfl | rfl | rfl
    · exact ⟨c + 92, (hS.get (j := 10) rfl).2.2 0, (List.mem_of_getElem? (i := 3) rfl), by omega, by omega, (by simp only [List.mem_cons, List.not_mem_nil, or_false]; omega), (hS.get (j := 92) rfl).1⟩
    · exact ⟨c + 97, (hS.get (j := 10) rfl).2.2 1, (List.mem_of_getElem? (i := 2) rfl), by omega, by omega, (by simp only [List.mem_cons, List.not_mem_nil, or_false]; omega), (hS.get (j := 97) rfl).1⟩
    · exact ⟨c + 102, (hS.get (j := 10) rfl).2.2 2, (List.mem_of_getElem? (i := 1) rfl), by omega, by omega, (by simp only [List.mem_cons, List.not_mem_nil, or_false]; omega), (hS.get (j := 102) rfl).1⟩
    · exact ⟨c + 107, (hS.get (j := 10) rfl).2.2 3, (List.mem_of_getElem? (i := 0) rfl), by omega, by omega, (by simp only [List.mem_cons, List.not_mem_nil, or_false]; omega), (hS.get (j := 107) rfl).1⟩) (by intro x; simp only [List.mem_cons, List.not_mem_nil, or_false]; constructor <;> intro h <;> first | exact h.elim | omega | exact absurd h.1 h.2)
  have F12d := B12d.fx F
  refine v_done (b := c + 10) ?_
  exact w_X10_init_s5 F hO hin hr hlk hS s0 s1 he0 B12d F12d hZ12 hc12 hZ13 hc13 hZ14 hc14
set_option maxHeartbeats 4000000 in
set_option maxRecDepth 100000 in
theorem w_X10_init_s3 {g g1 : gT} {p : Program} {l : Launch} {e : Env} {s : State} {m : MethodId} {args : Array Value} {below : List Frame} {meth : Method} {c9 : Code} {c h0a : Nat} {M11 M12 M13 M6 : Mem} (F : Fx g p s m args c9 cX10_init 2 uX10_init RX10) (hO : Ov s) (hin : meth.name = "<init>") (hr : meth.sig.returnType = none) (hlk : meth.locks = false) (hS : shAt S10 c) (s0 : (shp c).1 = 10) (s1 : (shp c).2.1 = 11) (he0 : gAd g c = h0a) (hB : BldX g g1 c (c + 107) [c + 57, c + 10] [(c + 10, 2), (c + 10, 1), (c + 10, 0), (c, 10), (c, 9), (c, 7), (c, 6), (c, 3), (c, 2), (c, 0)]) (hF : Fx g1 p s m args c9 cX10_init 2 uX10_init RX10) (hZ11 : ∀ a, c + 107 ≤ a → M6 a = fun _ => 0) (hc11 : ∀ (g : gT), gOK g → c + 107 ∈ gL g → gDn g (c + 107) = false → (∀ a ∈ gL g, a ≤ c + 107) → CnI g l yX3_init uX3_init 2 4 602 (c + 107) 5 (.ref (gAd g (c + 107)) :: []) M6 M6) (hZ12 : ∀ a, c + 112 ≤ a → M6 a = fun _ => 0) (hc12 : ∀ (g : gT), gOK g → c + 112 ∈ gL g → gDn g (c + 112) = false → (∀ a ∈ gL g, a ≤ c + 112) → CnI g l yX7_init uX7_init 4 45 304 (c + 112) 46 (.ref (gAd g (c + 112)) :: []) M6 M11) (hZ13 : ∀ a, c + 158 ≤ a → M11 a = fun _ => 0) (hc13 : ∀ (g : gT), gOK g → c + 158 ∈ gL g → gDn g (c + 158) = false → (∀ a ∈ gL g, a ≤ c + 158) → CnI g l yX7_init uX7_init 4 45 304 (c + 158) 46 (.ref (gAd g (c + 158)) :: []) M11 M12) (hZ14 : ∀ a, c + 204 ≤ a → M12 a = fun _ => 0) (hc14 : ∀ (g : gT), gOK g → c + 204 ∈ gL g → gDn g (c + 204) = false → (∀ a ∈ gL g, a ≤ c + 204) → CnI g l yX7_init uX7_init 4 45 304 (c + 204) 46 (.ref (gAd g (c + 204)) :: []) M12 M13) : V g1 p l e ({ frames := 5, cells := 249, slots := 5359, locals := 40 * 5 } : Room) s m args below meth c9 2 106 3825 (MQ below (gQI g c 250 M13) args s 249 5359 (gA g)) 85 [(1, .int 3), (0, .ref h0a)] [] M6 := by
  refine v_iload_n hF dX10_init_85 rfl 0 rfl ?_
  refine v_aload_n hF dX10_init_86 rfl 1 rfl ?_
  refine v_getRU (a := c) (k := 3) (x := c + 10) hF hB.bin s0 s1 ((hS.get (j := 0) rfl).2.2 3) (hB.nu (List.mem_of_getElem? (i := 7) rfl)) ((hB.2.2.2.2.1 c hB.2.2.1.2).1.trans he0) (by decide) (inc inU_10) rfl (by decide) (List.mem_cons_of_mem _ fl_X10_27) rfl dX10_init_87 ?_
  refine v_alenU (a := c + 10) (ka := 14) (t0 := 2) hF (hB.inn (by omega) (by omega)) (hS.get (j := 10) rfl).1 (by decide) rfl rfl dX10_init_90 ?_
  rw [show gN (c + 10) = 4 from (hS.get (j := 10) rfl).2.1]
  refine v_icmp_ge (tgt := 113) hF dX10_init_91 (by decide) (fun hc => absurd hc (by decide)) (fun _ => ?_)
  refine v_aload_n hF dX10_init_94 rfl 1 rfl ?_
  refine v_getRU (a := c) (k := 3) (x := c + 10) hF hB.bin s0 s1 ((hS.get (j := 0) rfl).2.2 3) (hB.nu (List.mem_of_getElem? (i := 7) rfl)) ((hB.2.2.2.2.1 c hB.2.2.1.2).1.trans he0) (by decide) (inc inU_10) rfl (by decide) (List.mem_cons_of_mem _ fl_X10_27) rfl dX10_init_95 ?_
  refine v_iload_n hF dX10_init_98 rfl 0 rfl ?_
  refine v_newO (b := c + 107) (S := S3) hF (hS.sub (j := 107) (by decide +kernel)) rfl tyX3 tyX3_ok (inc inU_3) rfl (List.mem_cons_of_mem _ cl_X10_25) (List.mem_cons_of_mem _ it_X3) (List.mem_cons_of_mem _ ini_X3) (hB.nin (Nat.le_refl _)) (by decide) (by decide) (by intro j hj; rcases (show j = 0 ∨ j = 1 ∨ j = 2 ∨ j = 3 ∨ j = 4 by omega) with rfl | rfl | rfl | rfl | rfl <;> rfl) (Nat.le_of_ble_eq_true rfl) (Nat.le_of_ble_eq_true rfl) dX10_init_99 (fun q11 hok11 => ?_)
  rw [mZ_id (hZ11 (c + 107) (Nat.le_refl _))]
  have G11 := hF.grow (g' := gNew g1 (c + 107) q11) rfl rfl rfl rfl hok11
  refine v_dup G11 dX10_init_102 rfl ?_
  refine v_made2 hB hc11 (by decide) hok11 F (rest' := [.ref q11, .int 3, .ref (gAd g1 (c + 10))]) (fun hM kk => v_callIN (As := []) (rest := [.ref q11, .int 3, .ref (gAd g1 (c + 10))]) G11 hM ⟨va_cnB (host := RX10) 0 F.1.2.2.2.2 (gU_0 cd_X3_init) rfl rfl rfl (F.2.2.2.2.1 _ (by decide +kernel)) (F.1.2.2.2.2 _ (List.mem_cons_of_mem _ ini_X3)) (by decide +kernel) ⟨Nat.le_of_ble_eq_true rfl, Nat.le_of_ble_eq_true rfl⟩, rfl, F.1.2.2.2.2 _ (List.mem_cons_of_mem _ im_yX3_init)⟩ rfl (by rw [show gAd (gNew g1 (c + 107) q11) (c + 107) = q11 from if_pos rfl]; rfl) (Nat.le_of_ble_eq_true rfl) dX10_init_103 ⟨Nat.le_of_ble_eq_true rfl, Nat.le_of_ble_eq_true rfl⟩ kk) (fun g12 B12 F12 ea12 ek12 => ?_)
  have B12 : BldX g g12 c (c + 112) [c + 57, c + 10] [(c + 10, 2), (c + 10, 1), (c + 10, 0), (c, 10), (c, 9), (c, 7), (c, 6), (c, 3), (c, 2), (c, 0)] := B12
  refine v_aastU (a := c + 10) (x := c + 107) (ka := 14) (ke := 3) (k := 3) (t0 := 2) F12 (B12.inn (by omega) (by omega)) (hS.get (j := 10) rfl).1 (by decide) (B12.ndU (List.mem_of_getElem? (i := 1) rfl)) (ek12 _ (hB.inn (by omega) (by omega))) (B12.ty (by omega) (by omega) (by simp only [List.mem_cons, List.not_mem_nil, or_false]; omega) (hS.get (j := 107) rfl).1) (by decide) ea12 rfl (by rw [show gN (c + 10) = 4 from (hS.get (j := 10) rfl).2.1]; decide) (by rw [show gN (c + 10) = 4 from (hS.get (j := 10) rfl).2.1]; decide) ((hS.get (j := 10) rfl).2.2 3) rfl rfl dX10_init_106 (fun hokp => ?_)
  have B12q : BldX g (gPut g12 (c + 10) 3) c (c + 112) [c + 57, c + 10] [(c + 10, 3), (c + 10, 2), (c + 10, 1), (c + 10, 0), (c, 10), (c, 9), (c, 7), (c, 6), (c, 3), (c, 2), (c, 0)] := B12.put (Or.inr (List.mem_of_getElem? (i := 1) rfl)) hokp
  have F12q := B12q.fx F
  refine v_iinc (v := 4) (lv' := [(1, .int 4), (0, .ref h0a)]) F12q dX10_init_107 (q := 0) rfl rfl (by decide) rfl ?_
  refine v_goto (tgt := 85) F12q dX10_init_110 (by decide) ?_
  exact w_X10_init_s4 F hO hin hr hlk hS s0 s1 he0 B12q F12q hZ12 hc12 hZ13 hc13 hZ14 hc14
set_option maxHeartbeats 4000000 in
set_option maxRecDepth 100000 in
theorem w_X10_init_s2 {g g1 : gT} {p : Program} {l : Launch} {e : Env} {s : State} {m : MethodId} {args : Array Value} {below : List Frame} {meth : Method} {c9 : Code} {c h0a : Nat} {M11 M12 M13 M6 : Mem} (F : Fx g p s m args c9 cX10_init 2 uX10_init RX10) (hO : Ov s) (hin : meth.name = "<init>") (hr : meth.sig.returnType = none) (hlk : meth.locks = false) (hS : shAt S10 c) (s0 : (shp c).1 = 10) (s1 : (shp c).2.1 = 11) (he0 : gAd g c = h0a) (hB : BldX g g1 c (c + 102) [c + 57, c + 10] [(c + 10, 1), (c + 10, 0), (c, 10), (c, 9), (c, 7), (c, 6), (c, 3), (c, 2), (c, 0)]) (hF : Fx g1 p s m args c9 cX10_init 2 uX10_init RX10) (hZ10 : ∀ a, c + 102 ≤ a → M6 a = fun _ => 0) (hc10 : ∀ (g : gT), gOK g → c + 102 ∈ gL g → gDn g (c + 102) = false → (∀ a ∈ gL g, a ≤ c + 102) → CnI g l yX3_init uX3_init 2 4 602 (c + 102) 5 (.ref (gAd g (c + 102)) :: []) M6 M6) (hZ11 : ∀ a, c + 107 ≤ a → M6 a = fun _ => 0) (hc11 : ∀ (g : gT), gOK g → c + 107 ∈ gL g → gDn g (c + 107) = false → (∀ a ∈ gL g, a ≤ c + 107) → CnI g l yX3_init uX3_init 2 4 602 (c + 107) 5 (.ref (gAd g (c + 107)) :: []) M6 M6) (hZ12 : ∀ a, c + 112 ≤ a → M6 a = fun _ => 0) (hc12 : ∀ (g : gT), gOK g → c + 112 ∈ gL g → gDn g (c + 112) = false → (∀ a ∈ gL g, a ≤ c + 112) → CnI g l yX7_init uX7_init 4 45 304 (c + 112) 46 (.ref (gAd g (c + 112)) :: []) M6 M11) (hZ13 : ∀ a, c + 158 ≤ a → M11 a = fun _ => 0) (hc13 : ∀ (g : gT), gOK g → c + 158 ∈ gL g → gDn g (c + 158) = false → (∀ a ∈ gL g, a ≤ c + 158) → CnI g l yX7_init uX7_init 4 45 304 (c + 158) 46 (.ref (gAd g (c + 158)) :: []) M11 M12) (hZ14 : ∀ a, c + 204 ≤ a → M12 a = fun _ => 0) (hc14 : ∀ (g : gT), gOK g → c + 204 ∈ gL g → gDn g (c + 204) = false → (∀ a ∈ gL g, a ≤ c + 204) → CnI g l yX7_init uX7_init 4 45 304 (c + 204) 46 (.ref (gAd g (c + 204)) :: []) M12 M13) : V g1 p l e ({ frames := 5, cells := 249, slots := 5359, locals := 40 * 5 } : Room) s m args below meth c9 2 101 3218 (MQ below (gQI g c 250 M13) args s 249 5359 (gA g)) 85 [(1, .int 2), (0, .ref h0a)] [] M6 := by
  refine v_iload_n hF dX10_init_85 rfl 0 rfl ?_
  refine v_aload_n hF dX10_init_86 rfl 1 rfl ?_
  refine v_getRU (a := c) (k := 3) (x := c + 10) hF hB.bin s0 s1 ((hS.get (j := 0) rfl).2.2 3) (hB.nu (List.mem_of_getElem? (i := 6) rfl)) ((hB.2.2.2.2.1 c hB.2.2.1.2).1.trans he0) (by decide) (inc inU_10) rfl (by decide) (List.mem_cons_of_mem _ fl_X10_27) rfl dX10_init_87 ?_
  refine v_alenU (a := c + 10) (ka := 14) (t0 := 2) hF (hB.inn (by omega) (by omega)) (hS.get (j := 10) rfl).1 (by decide) rfl rfl dX10_init_90 ?_
  rw [show gN (c + 10) = 4 from (hS.get (j := 10) rfl).2.1]
  refine v_icmp_ge (tgt := 113) hF dX10_init_91 (by decide) (fun hc => absurd hc (by decide)) (fun _ => ?_)
  refine v_aload_n hF dX10_init_94 rfl 1 rfl ?_
  refine v_getRU (a := c) (k := 3) (x := c + 10) hF hB.bin s0 s1 ((hS.get (j := 0) rfl).2.2 3) (hB.nu (List.mem_of_getElem? (i := 6) rfl)) ((hB.2.2.2.2.1 c hB.2.2.1.2).1.trans he0) (by decide) (inc inU_10) rfl (by decide) (List.mem_cons_of_mem _ fl_X10_27) rfl dX10_init_95 ?_
  refine v_iload_n hF dX10_init_98 rfl 0 rfl ?_
  refine v_newO (b := c + 102) (S := S3) hF (hS.sub (j := 102) (by decide +kernel)) rfl tyX3 tyX3_ok (inc inU_3) rfl (List.mem_cons_of_mem _ cl_X10_25) (List.mem_cons_of_mem _ it_X3) (List.mem_cons_of_mem _ ini_X3) (hB.nin (Nat.le_refl _)) (by decide) (by decide) (by intro j hj; rcases (show j = 0 ∨ j = 1 ∨ j = 2 ∨ j = 3 ∨ j = 4 by omega) with rfl | rfl | rfl | rfl | rfl <;> rfl) (Nat.le_of_ble_eq_true rfl) (Nat.le_of_ble_eq_true rfl) dX10_init_99 (fun q10 hok10 => ?_)
  rw [mZ_id (hZ10 (c + 102) (Nat.le_refl _))]
  have G10 := hF.grow (g' := gNew g1 (c + 102) q10) rfl rfl rfl rfl hok10
  refine v_dup G10 dX10_init_102 rfl ?_
  refine v_made2 hB hc10 (by decide) hok10 F (rest' := [.ref q10, .int 2, .ref (gAd g1 (c + 10))]) (fun hM kk => v_callIN (As := []) (rest := [.ref q10, .int 2, .ref (gAd g1 (c + 10))]) G10 hM ⟨va_cnB (host := RX10) 0 F.1.2.2.2.2 (gU_0 cd_X3_init) rfl rfl rfl (F.2.2.2.2.1 _ (by decide +kernel)) (F.1.2.2.2.2 _ (List.mem_cons_of_mem _ ini_X3)) (by decide +kernel) ⟨Nat.le_of_ble_eq_true rfl, Nat.le_of_ble_eq_true rfl⟩, rfl, F.1.2.2.2.2 _ (List.mem_cons_of_mem _ im_yX3_init)⟩ rfl (by rw [show gAd (gNew g1 (c + 102) q10) (c + 102) = q10 from if_pos rfl]; rfl) (Nat.le_of_ble_eq_true rfl) dX10_init_103 ⟨Nat.le_of_ble_eq_true rfl, Nat.le_of_ble_eq_true rfl⟩ kk) (fun g11 B11 F11 ea11 ek11 => ?_)
  have B11 : BldX g g11 c (c + 107) [c + 57, c + 10] [(c + 10, 1), (c + 10, 0), (c, 10), (c, 9), (c, 7), (c, 6), (c, 3), (c, 2), (c, 0)] := B11
  refine v_aastU (a := c + 10) (x := c + 102) (ka := 14) (ke := 3) (k := 2) (t0 := 2) F11 (B11.inn (by omega) (by omega)) (hS.get (j := 10) rfl).1 (by decide) (B11.ndU (List.mem_of_getElem? (i := 1) rfl)) (ek11 _ (hB.inn (by omega) (by omega))) (B11.ty (by omega) (by omega) (by simp only [List.mem_cons, List.not_mem_nil, or_false]; omega) (hS.get (j := 102) rfl).1) (by decide) ea11 rfl (by rw [show gN (c + 10) = 4 from (hS.get (j := 10) rfl).2.1]; decide) (by rw [show gN (c + 10) = 4 from (hS.get (j := 10) rfl).2.1]; decide) ((hS.get (j := 10) rfl).2.2 2) rfl rfl dX10_init_106 (fun hokp => ?_)
  have B11q : BldX g (gPut g11 (c + 10) 2) c (c + 107) [c + 57, c + 10] [(c + 10, 2), (c + 10, 1), (c + 10, 0), (c, 10), (c, 9), (c, 7), (c, 6), (c, 3), (c, 2), (c, 0)] := B11.put (Or.inr (List.mem_of_getElem? (i := 1) rfl)) hokp
  have F11q := B11q.fx F
  refine v_iinc (v := 3) (lv' := [(1, .int 3), (0, .ref h0a)]) F11q dX10_init_107 (q := 0) rfl rfl (by decide) rfl ?_
  refine v_goto (tgt := 85) F11q dX10_init_110 (by decide) ?_
  exact w_X10_init_s3 F hO hin hr hlk hS s0 s1 he0 B11q F11q hZ11 hc11 hZ12 hc12 hZ13 hc13 hZ14 hc14
set_option maxHeartbeats 4000000 in
set_option maxRecDepth 100000 in
theorem w_X10_init_s1 {g g1 : gT} {p : Program} {l : Launch} {e : Env} {s : State} {m : MethodId} {args : Array Value} {below : List Frame} {meth : Method} {c9 : Code} {c h0a : Nat} {M11 M12 M13 M6 : Mem} (F : Fx g p s m args c9 cX10_init 2 uX10_init RX10) (hO : Ov s) (hin : meth.name = "<init>") (hr : meth.sig.returnType = none) (hlk : meth.locks = false) (hS : shAt S10 c) (s0 : (shp c).1 = 10) (s1 : (shp c).2.1 = 11) (he0 : gAd g c = h0a) (hB : BldX g g1 c (c + 97) [c + 57, c + 10] [(c + 10, 0), (c, 10), (c, 9), (c, 7), (c, 6), (c, 3), (c, 2), (c, 0)]) (hF : Fx g1 p s m args c9 cX10_init 2 uX10_init RX10) (hZ9 : ∀ a, c + 97 ≤ a → M6 a = fun _ => 0) (hc9 : ∀ (g : gT), gOK g → c + 97 ∈ gL g → gDn g (c + 97) = false → (∀ a ∈ gL g, a ≤ c + 97) → CnI g l yX3_init uX3_init 2 4 602 (c + 97) 5 (.ref (gAd g (c + 97)) :: []) M6 M6) (hZ10 : ∀ a, c + 102 ≤ a → M6 a = fun _ => 0) (hc10 : ∀ (g : gT), gOK g → c + 102 ∈ gL g → gDn g (c + 102) = false → (∀ a ∈ gL g, a ≤ c + 102) → CnI g l yX3_init uX3_init 2 4 602 (c + 102) 5 (.ref (gAd g (c + 102)) :: []) M6 M6) (hZ11 : ∀ a, c + 107 ≤ a → M6 a = fun _ => 0) (hc11 : ∀ (g : gT), gOK g → c + 107 ∈ gL g → gDn g (c + 107) = false → (∀ a ∈ gL g, a ≤ c + 107) → CnI g l yX3_init uX3_init 2 4 602 (c + 107) 5 (.ref (gAd g (c + 107)) :: []) M6 M6) (hZ12 : ∀ a, c + 112 ≤ a → M6 a = fun _ => 0) (hc12 : ∀ (g : gT), gOK g → c + 112 ∈ gL g → gDn g (c + 112) = false → (∀ a ∈ gL g, a ≤ c + 112) → CnI g l yX7_init uX7_init 4 45 304 (c + 112) 46 (.ref (gAd g (c + 112)) :: []) M6 M11) (hZ13 : ∀ a, c + 158 ≤ a → M11 a = fun _ => 0) (hc13 : ∀ (g : gT), gOK g → c + 158 ∈ gL g → gDn g (c + 158) = false → (∀ a ∈ gL g, a ≤ c + 158) → CnI g l yX7_init uX7_init 4 45 304 (c + 158) 46 (.ref (gAd g (c + 158)) :: []) M11 M12) (hZ14 : ∀ a, c + 204 ≤ a → M12 a = fun _ => 0) (hc14 : ∀ (g : gT), gOK g → c + 204 ∈ gL g → gDn g (c + 204) = false → (∀ a ∈ gL g, a ≤ c + 204) → CnI g l yX7_init uX7_init 4 45 304 (c + 204) 46 (.ref (gAd g (c + 204)) :: []) M12 M13) : V g1 p l e ({ frames := 5, cells := 249, slots := 5359, locals := 40 * 5 } : Room) s m args below meth c9 2 96 2611 (MQ below (gQI g c 250 M13) args s 249 5359 (gA g)) 85 [(1, .int 1), (0, .ref h0a)] [] M6 := by
  refine v_iload_n hF dX10_init_85 rfl 0 rfl ?_
  refine v_aload_n hF dX10_init_86 rfl 1 rfl ?_
  refine v_getRU (a := c) (k := 3) (x := c + 10) hF hB.bin s0 s1 ((hS.get (j := 0) rfl).2.2 3) (hB.nu (List.mem_of_getElem? (i := 5) rfl)) ((hB.2.2.2.2.1 c hB.2.2.1.2).1.trans he0) (by decide) (inc inU_10) rfl (by decide) (List.mem_cons_of_mem _ fl_X10_27) rfl dX10_init_87 ?_
  refine v_alenU (a := c + 10) (ka := 14) (t0 := 2) hF (hB.inn (by omega) (by omega)) (hS.get (j := 10) rfl).1 (by decide) rfl rfl dX10_init_90 ?_
  rw [show gN (c + 10) = 4 from (hS.get (j := 10) rfl).2.1]
  refine v_icmp_ge (tgt := 113) hF dX10_init_91 (by decide) (fun hc => absurd hc (by decide)) (fun _ => ?_)
  refine v_aload_n hF dX10_init_94 rfl 1 rfl ?_
  refine v_getRU (a := c) (k := 3) (x := c + 10) hF hB.bin s0 s1 ((hS.get (j := 0) rfl).2.2 3) (hB.nu (List.mem_of_getElem? (i := 5) rfl)) ((hB.2.2.2.2.1 c hB.2.2.1.2).1.trans he0) (by decide) (inc inU_10) rfl (by decide) (List.mem_cons_of_mem _ fl_X10_27) rfl dX10_init_95 ?_
  refine v_iload_n hF dX10_init_98 rfl 0 rfl ?_
  refine v_newO (b := c + 97) (S := S3) hF (hS.sub (j := 97) (by decide +kernel)) rfl tyX3 tyX3_ok (inc inU_3) rfl (List.mem_cons_of_mem _ cl_X10_25) (List.mem_cons_of_mem _ it_X3) (List.mem_cons_of_mem _ ini_X3) (hB.nin (Nat.le_refl _)) (by decide) (by decide) (by intro j hj; rcases (show j = 0 ∨ j = 1 ∨ j = 2 ∨ j = 3 ∨ j = 4 by omega) with rfl | rfl | rfl | rfl | rfl <;> rfl) (Nat.le_of_ble_eq_true rfl) (Nat.le_of_ble_eq_true rfl) dX10_init_99 (fun q9 hok9 => ?_)
  rw [mZ_id (hZ9 (c + 97) (Nat.le_refl _))]
  have G9 := hF.grow (g' := gNew g1 (c + 97) q9) rfl rfl rfl rfl hok9
  refine v_dup G9 dX10_init_102 rfl ?_
  refine v_made2 hB hc9 (by decide) hok9 F (rest' := [.ref q9, .int 1, .ref (gAd g1 (c + 10))]) (fun hM kk => v_callIN (As := []) (rest := [.ref q9, .int 1, .ref (gAd g1 (c + 10))]) G9 hM ⟨va_cnB (host := RX10) 0 F.1.2.2.2.2 (gU_0 cd_X3_init) rfl rfl rfl (F.2.2.2.2.1 _ (by decide +kernel)) (F.1.2.2.2.2 _ (List.mem_cons_of_mem _ ini_X3)) (by decide +kernel) ⟨Nat.le_of_ble_eq_true rfl, Nat.le_of_ble_eq_true rfl⟩, rfl, F.1.2.2.2.2 _ (List.mem_cons_of_mem _ im_yX3_init)⟩ rfl (by rw [show gAd (gNew g1 (c + 97) q9) (c + 97) = q9 from if_pos rfl]; rfl) (Nat.le_of_ble_eq_true rfl) dX10_init_103 ⟨Nat.le_of_ble_eq_true rfl, Nat.le_of_ble_eq_true rfl⟩ kk) (fun g10 B10 F10 ea10 ek10 => ?_)
  have B10 : BldX g g10 c (c + 102) [c + 57, c + 10] [(c + 10, 0), (c, 10), (c, 9), (c, 7), (c, 6), (c, 3), (c, 2), (c, 0)] := B10
  refine v_aastU (a := c + 10) (x := c + 97) (ka := 14) (ke := 3) (k := 1) (t0 := 2) F10 (B10.inn (by omega) (by omega)) (hS.get (j := 10) rfl).1 (by decide) (B10.ndU (List.mem_of_getElem? (i := 1) rfl)) (ek10 _ (hB.inn (by omega) (by omega))) (B10.ty (by omega) (by omega) (by simp only [List.mem_cons, List.not_mem_nil, or_false]; omega) (hS.get (j := 97) rfl).1) (by decide) ea10 rfl (by rw [show gN (c + 10) = 4 from (hS.get (j := 10) rfl).2.1]; decide) (by rw [show gN (c + 10) = 4 from (hS.get (j := 10) rfl).2.1]; decide) ((hS.get (j := 10) rfl).2.2 1) rfl rfl dX10_init_106 (fun hokp => ?_)
  have B10q : BldX g (gPut g10 (c + 10) 1) c (c + 102) [c + 57, c + 10] [(c + 10, 1), (c + 10, 0), (c, 10), (c, 9), (c, 7), (c, 6), (c, 3), (c, 2), (c, 0)] := B10.put (Or.inr (List.mem_of_getElem? (i := 1) rfl)) hokp
  have F10q := B10q.fx F
  refine v_iinc (v := 2) (lv' := [(1, .int 2), (0, .ref h0a)]) F10q dX10_init_107 (q := 0) rfl rfl (by decide) rfl ?_
  refine v_goto (tgt := 85) F10q dX10_init_110 (by decide) ?_
  exact w_X10_init_s2 F hO hin hr hlk hS s0 s1 he0 B10q F10q hZ10 hc10 hZ11 hc11 hZ12 hc12 hZ13 hc13 hZ14 hc14
set_option maxHeartbeats 4000000 in
set_option maxRecDepth 100000 in
theorem w_X10_init_s0 {g g1 : gT} {p : Program} {l : Launch} {e : Env} {s : State} {m : MethodId} {args : Array Value} {below : List Frame} {meth : Method} {c9 : Code} {c h0a : Nat} {M11 M12 M13 M6 : Mem} (F : Fx g p s m args c9 cX10_init 2 uX10_init RX10) (hO : Ov s) (hin : meth.name = "<init>") (hr : meth.sig.returnType = none) (hlk : meth.locks = false) (hS : shAt S10 c) (s0 : (shp c).1 = 10) (s1 : (shp c).2.1 = 11) (he0 : gAd g c = h0a) (hB : BldX g g1 c (c + 92) [c + 57, c + 10] [(c, 10), (c, 9), (c, 7), (c, 6), (c, 3), (c, 2), (c, 0)]) (hF : Fx g1 p s m args c9 cX10_init 2 uX10_init RX10) (hZ8 : ∀ a, c + 92 ≤ a → M6 a = fun _ => 0) (hc8 : ∀ (g : gT), gOK g → c + 92 ∈ gL g → gDn g (c + 92) = false → (∀ a ∈ gL g, a ≤ c + 92) → CnI g l yX3_init uX3_init 2 4 602 (c + 92) 5 (.ref (gAd g (c + 92)) :: []) M6 M6) (hZ9 : ∀ a, c + 97 ≤ a → M6 a = fun _ => 0) (hc9 : ∀ (g : gT), gOK g → c + 97 ∈ gL g → gDn g (c + 97) = false → (∀ a ∈ gL g, a ≤ c + 97) → CnI g l yX3_init uX3_init 2 4 602 (c + 97) 5 (.ref (gAd g (c + 97)) :: []) M6 M6) (hZ10 : ∀ a, c + 102 ≤ a → M6 a = fun _ => 0) (hc10 : ∀ (g : gT), gOK g → c + 102 ∈ gL g → gDn g (c + 102) = false → (∀ a ∈ gL g, a ≤ c + 102) → CnI g l yX3_init uX3_init 2 4 602 (c + 102) 5 (.ref (gAd g (c + 102)) :: []) M6 M6) (hZ11 : ∀ a, c + 107 ≤ a → M6 a = fun _ => 0) (hc11 : ∀ (g : gT), gOK g → c + 107 ∈ gL g → gDn g (c + 107) = false → (∀ a ∈ gL g, a ≤ c + 107) → CnI g l yX3_init uX3_init 2 4 602 (c + 107) 5 (.ref (gAd g (c + 107)) :: []) M6 M6) (hZ12 : ∀ a, c + 112 ≤ a → M6 a = fun _ => 0) (hc12 : ∀ (g : gT), gOK g → c + 112 ∈ gL g → gDn g (c + 112) = false → (∀ a ∈ gL g, a ≤ c + 112) → CnI g l yX7_init uX7_init 4 45 304 (c + 112) 46 (.ref (gAd g (c + 112)) :: []) M6 M11) (hZ13 : ∀ a, c + 158 ≤ a → M11 a = fun _ => 0) (hc13 : ∀ (g : gT), gOK g → c + 158 ∈ gL g → gDn g (c + 158) = false → (∀ a ∈ gL g, a ≤ c + 158) → CnI g l yX7_init uX7_init 4 45 304 (c + 158) 46 (.ref (gAd g (c + 158)) :: []) M11 M12) (hZ14 : ∀ a, c + 204 ≤ a → M12 a = fun _ => 0) (hc14 : ∀ (g : gT), gOK g → c + 204 ∈ gL g → gDn g (c + 204) = false → (∀ a ∈ gL g, a ≤ c + 204) → CnI g l yX7_init uX7_init 4 45 304 (c + 204) 46 (.ref (gAd g (c + 204)) :: []) M12 M13) : V g1 p l e ({ frames := 5, cells := 249, slots := 5359, locals := 40 * 5 } : Room) s m args below meth c9 2 91 2004 (MQ below (gQI g c 250 M13) args s 249 5359 (gA g)) 85 [(1, .int 0), (0, .ref h0a)] [] M6 := by
  refine v_iload_n hF dX10_init_85 rfl 0 rfl ?_
  refine v_aload_n hF dX10_init_86 rfl 1 rfl ?_
  refine v_getRU (a := c) (k := 3) (x := c + 10) hF hB.bin s0 s1 ((hS.get (j := 0) rfl).2.2 3) (hB.nu (List.mem_of_getElem? (i := 4) rfl)) ((hB.2.2.2.2.1 c hB.2.2.1.2).1.trans he0) (by decide) (inc inU_10) rfl (by decide) (List.mem_cons_of_mem _ fl_X10_27) rfl dX10_init_87 ?_
  refine v_alenU (a := c + 10) (ka := 14) (t0 := 2) hF (hB.inn (by omega) (by omega)) (hS.get (j := 10) rfl).1 (by decide) rfl rfl dX10_init_90 ?_
  rw [show gN (c + 10) = 4 from (hS.get (j := 10) rfl).2.1]
  refine v_icmp_ge (tgt := 113) hF dX10_init_91 (by decide) (fun hc => absurd hc (by decide)) (fun _ => ?_)
  refine v_aload_n hF dX10_init_94 rfl 1 rfl ?_
  refine v_getRU (a := c) (k := 3) (x := c + 10) hF hB.bin s0 s1 ((hS.get (j := 0) rfl).2.2 3) (hB.nu (List.mem_of_getElem? (i := 4) rfl)) ((hB.2.2.2.2.1 c hB.2.2.1.2).1.trans he0) (by decide) (inc inU_10) rfl (by decide) (List.mem_cons_of_mem _ fl_X10_27) rfl dX10_init_95 ?_
  refine v_iload_n hF dX10_init_98 rfl 0 rfl ?_
  refine v_newO (b := c + 92) (S := S3) hF (hS.sub (j := 92) (by decide +kernel)) rfl tyX3 tyX3_ok (inc inU_3) rfl (List.mem_cons_of_mem _ cl_X10_25) (List.mem_cons_of_mem _ it_X3) (List.mem_cons_of_mem _ ini_X3) (hB.nin (Nat.le_refl _)) (by decide) (by decide) (by intro j hj; rcases (show j = 0 ∨ j = 1 ∨ j = 2 ∨ j = 3 ∨ j = 4 by omega) with rfl | rfl | rfl | rfl | rfl <;> rfl) (Nat.le_of_ble_eq_true rfl) (Nat.le_of_ble_eq_true rfl) dX10_init_99 (fun q8 hok8 => ?_)
  rw [mZ_id (hZ8 (c + 92) (Nat.le_refl _))]
  have G8 := hF.grow (g' := gNew g1 (c + 92) q8) rfl rfl rfl rfl hok8
  refine v_dup G8 dX10_init_102 rfl ?_
  refine v_made2 hB hc8 (by decide) hok8 F (rest' := [.ref q8, .int 0, .ref (gAd g1 (c + 10))]) (fun hM kk => v_callIN (As := []) (rest := [.ref q8, .int 0, .ref (gAd g1 (c + 10))]) G8 hM ⟨va_cnB (host := RX10) 0 F.1.2.2.2.2 (gU_0 cd_X3_init) rfl rfl rfl (F.2.2.2.2.1 _ (by decide +kernel)) (F.1.2.2.2.2 _ (List.mem_cons_of_mem _ ini_X3)) (by decide +kernel) ⟨Nat.le_of_ble_eq_true rfl, Nat.le_of_ble_eq_true rfl⟩, rfl, F.1.2.2.2.2 _ (List.mem_cons_of_mem _ im_yX3_init)⟩ rfl (by rw [show gAd (gNew g1 (c + 92) q8) (c + 92) = q8 from if_pos rfl]; rfl) (Nat.le_of_ble_eq_true rfl) dX10_init_103 ⟨Nat.le_of_ble_eq_true rfl, Nat.le_of_ble_eq_true rfl⟩ kk) (fun g9 B9 F9 ea9 ek9 => ?_)
  have B9 : BldX g g9 c (c + 97) [c + 57, c + 10] [(c, 10), (c, 9), (c, 7), (c, 6), (c, 3), (c, 2), (c, 0)] := B9
  refine v_aastU (a := c + 10) (x := c + 92) (ka := 14) (ke := 3) (k := 0) (t0 := 2) F9 (B9.inn (by omega) (by omega)) (hS.get (j := 10) rfl).1 (by decide) (B9.ndU (List.mem_of_getElem? (i := 1) rfl)) (ek9 _ (hB.inn (by omega) (by omega))) (B9.ty (by omega) (by omega) (by simp only [List.mem_cons, List.not_mem_nil, or_false]; omega) (hS.get (j := 92) rfl).1) (by decide) ea9 rfl (by rw [show gN (c + 10) = 4 from (hS.get (j := 10) rfl).2.1]; decide) (by rw [show gN (c + 10) = 4 from (hS.get (j := 10) rfl).2.1]; decide) ((hS.get (j := 10) rfl).2.2 0) rfl rfl dX10_init_106 (fun hokp => ?_)
  have B9q : BldX g (gPut g9 (c + 10) 0) c (c + 97) [c + 57, c + 10] [(c + 10, 0), (c, 10), (c, 9), (c, 7), (c, 6), (c, 3), (c, 2), (c, 0)] := B9.put (Or.inr (List.mem_of_getElem? (i := 1) rfl)) hokp
  have F9q := B9q.fx F
  refine v_iinc (v := 1) (lv' := [(1, .int 1), (0, .ref h0a)]) F9q dX10_init_107 (q := 0) rfl rfl (by decide) rfl ?_
  refine v_goto (tgt := 85) F9q dX10_init_110 (by decide) ?_
  exact w_X10_init_s1 F hO hin hr hlk hS s0 s1 he0 B9q F9q hZ9 hc9 hZ10 hc10 hZ11 hc11 hZ12 hc12 hZ13 hc13 hZ14 hc14
def MkJ (l : Launch) (y : MethodName) (ws : List Cond) (k mc ms n : Nat) (S : List (Nat × Nat × List (Option Nat))) (As : List Value) (P : Nat → Mem → Prop) : Prop := ∀ (c : Nat) (M : Mem), shAt S c → (∀ a, c ≤ a → M a = fun _ => 0) → ∃ M', P c M' ∧ (∀ a, (a < c ∨ c + n ≤ a) → M' a = M a) ∧ ∀ (g : gT), gOK g → c ∈ gL g → gDn g c = false → (∀ a ∈ gL g, a ≤ c) → CnJ g l y ws k mc ms c n (.ref (gAd g c) :: As) M M'
set_option maxHeartbeats 4000000 in
set_option maxRecDepth 100000 in
theorem mp_Main (l : Launch) : MkJ l yX10_init uX10_init 5 249 5359 250 S10 [] (fun c M' => M' c = (fun k => if k = 5 then -1 else 0) ∧ RD M' (c + 12) D0 ∧ ∀ a, c < a → a < c + 57 → (a < c + 12 ∨ c + 29 ≤ a) → M' a = fun _ => 0) := by
  intro c M hS hZ
  have hZ0 : ∀ a, c + 1 ≤ a → M a = fun _ => 0 := fun a h => hZ a (by omega)
  obtain ⟨M1, hP0, hr0, hc0⟩ := (mp_Row l (N := 300) (n := 300) rfl (by decide)) (c + 1) M (hS.sub (j := 1) (by decide +kernel)) (fun a h => hZ0 a h)
  have hM0 := (mp_eq hP0 hr0 (fun a h => hZ0 a h)).symm; subst hM0
  have hZ1 : ∀ a, c + 3 ≤ a → M a = fun _ => 0 := fun a h => hZ0 a (by omega)
  obtain ⟨M2, hP1, hr1, hc1⟩ := (mp_Reader l) (c + 3) M (hS.sub (j := 3) (by decide +kernel)) (fun a h => hZ1 a h)
  have hM1 := (mp_eq hP1 hr1 (fun a h => hZ1 a h)).symm; subst hM1
  have hZ2 : ∀ a, c + 10 ≤ a → M a = fun _ => 0 := fun a h => hZ1 a (by omega)
  have hZ3 : ∀ a, c + 11 ≤ a → M a = fun _ => 0 := fun a h => hZ2 a (by omega)
  obtain ⟨M3, hU5⟩ : ∃ X, X = mU M c 5 (-1) := ⟨_, rfl⟩
  have hZ4 : ∀ a, c + 11 ≤ a → M3 a = fun _ => 0 := fun a h => by rw [hU5, u_ne (by omega)]; exact hZ3 a (by omega)
  obtain ⟨M4, hP4, hr4, hc4⟩ := (mp_Road l) (c + 11) M3 (hS.sub (j := 11) (by decide +kernel)) (fun a h => hZ4 a h)
  have hZ5 : ∀ a, c + 57 ≤ a → M4 a = fun _ => 0 := fun a h => by rw [hr4 a (Or.inr (by omega))]; exact hZ4 a (by omega)
  have hZ6 : ∀ a, c + 58 ≤ a → M4 a = fun _ => 0 := fun a h => hZ5 a (by omega)
  obtain ⟨M5, hP6, hr6, hc6⟩ := (mp_Deck l) (c + 58) M4 (hS.sub (j := 58) (by decide +kernel)) (fun a h => hZ6 a h)
  have hZ7 : ∀ a, c + 75 ≤ a → M5 a = fun _ => 0 := fun a h => by rw [hr6 a (Or.inr (by omega))]; exact hZ6 a (by omega)
  obtain ⟨M6, hP7, hr7, hc7⟩ := (mp_Deck l) (c + 75) M5 (hS.sub (j := 75) (by decide +kernel)) (fun a h => hZ7 a h)
  have hZ8 : ∀ a, c + 92 ≤ a → M6 a = fun _ => 0 := fun a h => by rw [hr7 a (Or.inr (by omega))]; exact hZ7 a (by omega)
  obtain ⟨M7, hP8, hr8, hc8⟩ := (mp_Law l) (c + 92) M6 (hS.sub (j := 92) (by decide +kernel)) (fun a h => hZ8 a h)
  have hM8 := (mp_eq hP8 hr8 (fun a h => hZ8 a h)).symm; subst hM8
  have hZ9 : ∀ a, c + 97 ≤ a → M6 a = fun _ => 0 := fun a h => hZ8 a (by omega)
  obtain ⟨M8, hP9, hr9, hc9⟩ := (mp_Law l) (c + 97) M6 (hS.sub (j := 97) (by decide +kernel)) (fun a h => hZ9 a h)
  have hM9 := (mp_eq hP9 hr9 (fun a h => hZ9 a h)).symm; subst hM9
  have hZ10 : ∀ a, c + 102 ≤ a → M6 a = fun _ => 0 := fun a h => hZ9 a (by omega)
  obtain ⟨M9, hP10, hr10, hc10⟩ := (mp_Law l) (c + 102) M6 (hS.sub (j := 102) (by decide +kernel)) (fun a h => hZ10 a h)
  have hM10 := (mp_eq hP10 hr10 (fun a h => hZ10 a h)).symm; subst hM10
  have hZ11 : ∀ a, c + 107 ≤ a → M6 a = fun _ => 0 := fun a h => hZ10 a (by omega)
  obtain ⟨M10, hP11, hr11, hc11⟩ := (mp_Law l) (c + 107) M6 (hS.sub (j := 107) (by decide +kernel)) (fun a h => hZ11 a h)
  have hM11 := (mp_eq hP11 hr11 (fun a h => hZ11 a h)).symm; subst hM11
  have hZ12 : ∀ a, c + 112 ≤ a → M6 a = fun _ => 0 := fun a h => hZ11 a (by omega)
  obtain ⟨M11, hP12, hr12, hc12⟩ := (mp_Road l) (c + 112) M6 (hS.sub (j := 112) (by decide +kernel)) (fun a h => hZ12 a h)
  have hZ13 : ∀ a, c + 158 ≤ a → M11 a = fun _ => 0 := fun a h => by rw [hr12 a (Or.inr (by omega))]; exact hZ12 a (by omega)
  obtain ⟨M12, hP13, hr13, hc13⟩ := (mp_Road l) (c + 158) M11 (hS.sub (j := 158) (by decide +kernel)) (fun a h => hZ13 a h)
  have hZ14 : ∀ a, c + 204 ≤ a → M12 a = fun _ => 0 := fun a h => by rw [hr13 a (Or.inr (by omega))]; exact hZ13 a (by omega)
  obtain ⟨M13, hP14, hr14, hc14⟩ := (mp_Road l) (c + 204) M12 (hS.sub (j := 204) (by decide +kernel)) (fun a h => hZ14 a h)
  have hZ15 : ∀ a, c + 250 ≤ a → M13 a = fun _ => 0 := fun a h => by rw [hr14 a (Or.inr (by omega))]; exact hZ14 a (by omega)
  have hlow : ∀ a, a < c + 57 → M13 a = M4 a := fun a h => by
    rw [hr14 a (Or.inl (by omega)), hr13 a (Or.inl (by omega)), hr12 a (Or.inl (by omega)), hr7 a (Or.inl (by omega)), hr6 a (Or.inl (by omega))]
  have hU0 : ∀ a, a < c + 11 → M13 a = mU M c 5 (-1) a := fun a h => by rw [hlow a (by omega), hr4 a (Or.inl (by omega)), hU5]
  refine ⟨M13, ⟨?_, fun o k hi => ?_, fun a h1 h2 h3 => ?_⟩, fun a h => ?_, fun g hok hcL hd hle => ?_⟩
  · rw [hU0 c (by omega)]
    funext k
    rw [mU_at, hZ c (Nat.le_refl c)]
    by_cases z : k = 5
    · rw [if_pos ⟨rfl, z⟩, if_pos z]
    · rw [if_neg (fun w => z w.2), if_neg z]
  · rw [hlow (c + 12 + o) (by unfold inD at hi; omega)]; exact hP4.1 o k hi
  · by_cases h4 : a < c + 11
    · rw [hU0 a h4, u_ne (by omega)]; exact hZ a (by omega)
    · rw [hlow a h2]
      by_cases h5 : a = c + 11
      · rw [h5]; exact hP4.2.2
      · exact hP4.2.1 a (by omega)
  · rcases h with h | h
    · rw [hU0 a (by omega), u_ne (by omega)]
    · rw [hZ15 a (by omega), hZ a (by omega)]
  refine CnJ.of (cc := cX10_init) (maxL := 2) (ret := none) hok (by decide) rfl (Nat.le_of_ble_eq_true rfl) rfl (fun p e s m args below meth c9 F hO hr hlk hin => ?_)
  generalize he0 : gAd g c = h0a
  show V g p l e ({ frames := 5, cells := 249, slots := 5359, locals := 40 * 5 } : Room) s m args below meth c9 2 0 0 (MQ below (gQI g c 250 M13) args s 249 5359 (gA g)) 0 [(0, .ref h0a)] [] M
  have s0 : (shp c).1 = 10 := (hS.get (j := 0) rfl).1
  have s1 : (shp c).2.1 = 11 := (hS.get (j := 0) rfl).2.1
  have B0 := BldX.start hok hcL hd hle
  refine v_aload_n F dX10_init_0 rfl 0 rfl ?_
  refine v_objInit F (List.mem_cons_of_mem _ ml_X10_3) (List.mem_cons_of_mem _ im_obj) (List.mem_cons_of_mem _ cd_obj) dX10_init_1 (Nat.le_of_ble_eq_true rfl) (Nat.le_of_ble_eq_true rfl) ?_
  refine v_aload_n F dX10_init_4 rfl 0 rfl ?_
  refine v_newO (b := c + 1) (S := (rowS 300)) F (hS.sub (j := 1) (by decide +kernel)) rfl tyX8 tyX8_ok (inc inU_8) rfl (List.mem_cons_of_mem _ cl_X10_9) (List.mem_cons_of_mem _ it_X8) (List.mem_cons_of_mem _ ini_X8) (B0.nin (Nat.le_refl _)) (by decide) (by decide) (by intro j hj; rcases (show j = 0 by omega) with rfl <;> rfl) (Nat.le_of_ble_eq_true rfl) (Nat.le_of_ble_eq_true rfl) dX10_init_5 (fun q0 hok0 => ?_)
  rw [mZ_id (hZ0 (c + 1) (Nat.le_refl _))]
  have G0 := F.grow (g' := gNew g (c + 1) q0) rfl rfl rfl rfl hok0
  refine v_dup G0 dX10_init_8 rfl ?_
  refine v_sipush (v := 300) G0 dX10_init_9 (by decide) ?_
  refine v_made2 B0 hc0 (by decide) hok0 F (rest' := [.ref q0, .ref h0a]) (fun hM kk => v_callI (As := [.int 300]) (rest := [.ref q0, .ref h0a]) G0 hM (cwI 1 F.1.2.2.2.2 (gU_0 cd_X8i) rfl rfl rfl (F.1.2.2.2.2 _ (List.mem_cons_of_mem _ ini_X8)) (F.1.2.2.2.2 _ (List.mem_cons_of_mem _ ml_X10_11)) (F.1.2.2.2.2 _ (List.mem_cons_of_mem _ im_yX8_init)) rfl (by decide +kernel) ⟨Nat.le_of_ble_eq_true rfl, Nat.le_of_ble_eq_true rfl⟩) rfl (by rw [show gAd (gNew g (c + 1) q0) (c + 1) = q0 from if_pos rfl]; rfl) (Nat.le_of_ble_eq_true rfl) dX10_init_12 ⟨Nat.le_of_ble_eq_true rfl, Nat.le_of_ble_eq_true rfl⟩ kk) (fun g1 B1 F1 ea1 ek1 => ?_)
  have B1 : BldX g g1 c (c + 3) [] [] := B1
  refine v_fldR (k := 0) (x := c + 1) (ty := (.object "GallopRoads$Row")) B1 F1 he0 ea1 (by omega) (by omega) s0 s1 ((hS.get (j := 0) rfl).2.2 0) (by decide) (inc inU_10) tyX10 tyX10_ok nmX10 rfl (by decide) (List.mem_cons_of_mem _ fl_X10_14) rfl rfl hin rfl (by decide +kernel) rfl rfl dX10_init_15 (fun g1p B1p F1p ep1 => ?_)
  refine v_aload_n F1p dX10_init_18 rfl 0 rfl ?_
  refine v_newO (b := c + 3) (S := S6) F1p (hS.sub (j := 3) (by decide +kernel)) rfl tyX6 tyX6_ok (inc inU_6) rfl (List.mem_cons_of_mem _ cl_X10_18) (List.mem_cons_of_mem _ it_X6) (List.mem_cons_of_mem _ ini_X6) (B1p.nin (Nat.le_refl _)) (by decide) (by decide) (by intro j hj; rcases (show j = 0 ∨ j = 1 ∨ j = 2 ∨ j = 3 ∨ j = 4 ∨ j = 5 ∨ j = 6 ∨ j = 7 ∨ j = 8 by omega) with rfl | rfl | rfl | rfl | rfl | rfl | rfl | rfl | rfl <;> rfl) (Nat.le_of_ble_eq_true rfl) (Nat.le_of_ble_eq_true rfl) dX10_init_19 (fun q1 hok1 => ?_)
  rw [mZ_id (hZ1 (c + 3) (Nat.le_refl _))]
  have G1 := F1p.grow (g' := gNew g1p (c + 3) q1) rfl rfl rfl rfl hok1
  refine v_dup G1 dX10_init_22 rfl ?_
  refine v_made2 B1p hc1 (by decide) hok1 F (rest' := [.ref q1, .ref h0a]) (fun hM kk => v_callIN (As := []) (rest := [.ref q1, .ref h0a]) G1 hM ⟨va_cnB (host := RX10) 0 F.1.2.2.2.2 (gU_0 cd_X6_init) rfl rfl rfl (F.2.2.2.2.1 _ (by decide +kernel)) (F.1.2.2.2.2 _ (List.mem_cons_of_mem _ ini_X6)) (by decide +kernel) ⟨Nat.le_of_ble_eq_true rfl, Nat.le_of_ble_eq_true rfl⟩, rfl, F.1.2.2.2.2 _ (List.mem_cons_of_mem _ im_yX6_init)⟩ rfl (by rw [show gAd (gNew g1p (c + 3) q1) (c + 3) = q1 from if_pos rfl]; rfl) (Nat.le_of_ble_eq_true rfl) dX10_init_23 ⟨Nat.le_of_ble_eq_true rfl, Nat.le_of_ble_eq_true rfl⟩ kk) (fun g2 B2 F2 ea2 ek2 => ?_)
  have B2 : BldX g g2 c (c + 10) [] [(c, 0)] := B2
  refine v_fldR (k := 2) (x := c + 3) (ty := (.object "GallopRoads$Reader")) B2 F2 he0 ea2 (by omega) (by omega) s0 s1 ((hS.get (j := 0) rfl).2.2 2) (by decide) (inc inU_10) tyX10 tyX10_ok nmX10 rfl (by decide) (List.mem_cons_of_mem _ fl_X10_21) rfl rfl hin rfl (by decide +kernel) rfl rfl dX10_init_26 (fun g2p B2p F2p ep2 => ?_)
  refine v_aload_n F2p dX10_init_29 rfl 0 rfl ?_
  refine v_iconst (v := 4) F2p dX10_init_30 (by decide) ?_
  refine v_newQ (b := c + 10) (ka := 14) (t0 := 2) F2p (List.mem_cons_of_mem _ cl_X10_25) hO.1 rfl (B2p.nin (Nat.le_refl _)) (hS.get (j := 10) rfl).1 (by decide) (by decide) (by rw [(hS.get (j := 10) rfl).2.1]; decide) (by rw [(hS.get (j := 10) rfl).2.1]; decide) (Nat.le_of_ble_eq_true rfl) (by rw [(hS.get (j := 10) rfl).2.1]; decide) dX10_init_31 (fun q2 hok2 => ?_)
  rw [mZ_id (hZ2 (c + 10) (Nat.le_refl _)), (hS.get (j := 10) rfl).2.1]
  have B3 : BldX g (gNew g2p (c + 10) q2) c (c + 11) [c + 10] [(c, 2), (c, 0)] := B2p.new hok2
  have F3 := B3.fx F
  refine v_fldR (k := 3) (x := c + 10) (ty := (.array (.object "GallopRoads$Law"))) B3 F3 he0 (if_pos rfl) (by omega) (by omega) s0 s1 ((hS.get (j := 0) rfl).2.2 3) (by decide) (inc inU_10) tyX10 tyX10_ok nmX10 rfl (by decide) (List.mem_cons_of_mem _ fl_X10_27) rfl rfl hin rfl (by decide +kernel) rfl rfl dX10_init_34 (fun g3p B3p F3p ep3 => ?_)
  refine v_aload_n F3p dX10_init_37 rfl 0 rfl ?_
  refine v_iconst (v := -1) F3p dX10_init_38 (by decide) ?_
  refine v_putU (k := 5) (ty := .int) F3p B3p.bin s0 s1 ((hS.get (j := 0) rfl).2.2 5) ((B3p.2.2.2.2.1 c B3p.2.2.1.2).1.trans he0) (by decide) (inc inU_10) tyX10 tyX10_ok nmX10 rfl (by decide) (List.mem_cons_of_mem _ fl_X10_31) rfl rfl (by decide +kernel) rfl rfl dX10_init_39 ?_
  rw [← hU5]
  refine v_aload_n F3p dX10_init_42 rfl 0 rfl ?_
  refine v_newO (b := c + 11) (S := S7) F3p (hS.sub (j := 11) (by decide +kernel)) rfl tyX7 tyX7_ok (inc inU_7) rfl (List.mem_cons_of_mem _ cl_X10_35) (List.mem_cons_of_mem _ it_X7) (List.mem_cons_of_mem _ ini_X7) (B3p.nin (Nat.le_refl _)) (by decide) (by decide) (by intro j hj; rcases (show j = 0 ∨ j = 1 ∨ j = 2 ∨ j = 3 ∨ j = 4 by omega) with rfl | rfl | rfl | rfl | rfl <;> rfl) (Nat.le_of_ble_eq_true rfl) (Nat.le_of_ble_eq_true rfl) dX10_init_43 (fun q4 hok4 => ?_)
  rw [mZ_id (hZ4 (c + 11) (Nat.le_refl _))]
  have G4 := F3p.grow (g' := gNew g3p (c + 11) q4) rfl rfl rfl rfl hok4
  refine v_dup G4 dX10_init_46 rfl ?_
  refine v_made2 B3p hc4 (by decide) hok4 F (rest' := [.ref q4, .ref h0a]) (fun hM kk => v_callIN (As := []) (rest := [.ref q4, .ref h0a]) G4 hM ⟨va_cnB (host := RX10) 0 F.1.2.2.2.2 (gU_0 cd_X7_init) rfl rfl rfl (F.2.2.2.2.1 _ (by decide +kernel)) (F.1.2.2.2.2 _ (List.mem_cons_of_mem _ ini_X7)) (by decide +kernel) ⟨Nat.le_of_ble_eq_true rfl, Nat.le_of_ble_eq_true rfl⟩, rfl, F.1.2.2.2.2 _ (List.mem_cons_of_mem _ im_yX7_init)⟩ rfl (by rw [show gAd (gNew g3p (c + 11) q4) (c + 11) = q4 from if_pos rfl]; rfl) (Nat.le_of_ble_eq_true rfl) dX10_init_47 ⟨Nat.le_of_ble_eq_true rfl, Nat.le_of_ble_eq_true rfl⟩ kk) (fun g5 B5 F5 ea5 ek5 => ?_)
  have B5 : BldX g g5 c (c + 57) [c + 10] [(c, 3), (c, 2), (c, 0)] := B5
  refine v_fldR (k := 6) (x := c + 11) (ty := (.object "GallopRoads$Road")) B5 F5 he0 ea5 (by omega) (by omega) s0 s1 ((hS.get (j := 0) rfl).2.2 6) (by decide) (inc inU_10) tyX10 tyX10_ok nmX10 rfl (by decide) (List.mem_cons_of_mem _ fl_X10_38) rfl rfl hin rfl (by decide +kernel) rfl rfl dX10_init_50 (fun g5p B5p F5p ep5 => ?_)
  refine v_aload_n F5p dX10_init_53 rfl 0 rfl ?_
  refine v_iconst (v := 3) F5p dX10_init_54 (by decide) ?_
  refine v_newQ (b := c + 57) (ka := 15) (t0 := 3) F5p (List.mem_cons_of_mem _ cl_X10_35) hO.2.1 rfl (B5p.nin (Nat.le_refl _)) (hS.get (j := 57) rfl).1 (by decide) (by decide) (by rw [(hS.get (j := 57) rfl).2.1]; decide) (by rw [(hS.get (j := 57) rfl).2.1]; decide) (Nat.le_of_ble_eq_true rfl) (by rw [(hS.get (j := 57) rfl).2.1]; decide) dX10_init_55 (fun q5 hok5 => ?_)
  rw [mZ_id (hZ5 (c + 57) (Nat.le_refl _)), (hS.get (j := 57) rfl).2.1]
  have B6 : BldX g (gNew g5p (c + 57) q5) c (c + 58) [c + 57, c + 10] [(c, 6), (c, 3), (c, 2), (c, 0)] := B5p.new hok5
  have F6 := B6.fx F
  refine v_fldR (k := 7) (x := c + 57) (ty := (.array (.object "GallopRoads$Road"))) B6 F6 he0 (if_pos rfl) (by omega) (by omega) s0 s1 ((hS.get (j := 0) rfl).2.2 7) (by decide) (inc inU_10) tyX10 tyX10_ok nmX10 rfl (by decide) (List.mem_cons_of_mem _ fl_X10_42) rfl rfl hin rfl (by decide +kernel) rfl rfl dX10_init_58 (fun g6p B6p F6p ep6 => ?_)
  refine v_aload_n F6p dX10_init_61 rfl 0 rfl ?_
  refine v_newO (b := c + 58) (S := S1) F6p (hS.sub (j := 58) (by decide +kernel)) rfl tyX1 tyX1_ok (inc inU_1) rfl (List.mem_cons_of_mem _ cl_X10_46) (List.mem_cons_of_mem _ it_X1) (List.mem_cons_of_mem _ ini_X1) (B6p.nin (Nat.le_refl _)) (by decide) (by decide) (by intro j hj; rcases (show j = 0 ∨ j = 1 ∨ j = 2 ∨ j = 3 ∨ j = 4 ∨ j = 5 ∨ j = 6 ∨ j = 7 ∨ j = 8 ∨ j = 9 by omega) with rfl | rfl | rfl | rfl | rfl | rfl | rfl | rfl | rfl | rfl <;> rfl) (Nat.le_of_ble_eq_true rfl) (Nat.le_of_ble_eq_true rfl) dX10_init_62 (fun q6 hok6 => ?_)
  rw [mZ_id (hZ6 (c + 58) (Nat.le_refl _))]
  have G6 := F6p.grow (g' := gNew g6p (c + 58) q6) rfl rfl rfl rfl hok6
  refine v_dup G6 dX10_init_65 rfl ?_
  refine v_made2 B6p hc6 (by decide) hok6 F (rest' := [.ref q6, .ref h0a]) (fun hM kk => v_callI (As := []) (rest := [.ref q6, .ref h0a]) G6 hM (cwI 0 F.1.2.2.2.2 (gU_0 cd_X1_init) rfl rfl rfl (F.1.2.2.2.2 _ (List.mem_cons_of_mem _ ini_X1)) (F.1.2.2.2.2 _ (List.mem_cons_of_mem _ ml_X10_48)) (F.1.2.2.2.2 _ (List.mem_cons_of_mem _ im_yX1_init)) rfl (by decide +kernel) ⟨Nat.le_of_ble_eq_true rfl, Nat.le_of_ble_eq_true rfl⟩) rfl (by rw [show gAd (gNew g6p (c + 58) q6) (c + 58) = q6 from if_pos rfl]; rfl) (Nat.le_of_ble_eq_true rfl) dX10_init_66 ⟨Nat.le_of_ble_eq_true rfl, Nat.le_of_ble_eq_true rfl⟩ kk) (fun g7 B7 F7 ea7 ek7 => ?_)
  have B7 : BldX g g7 c (c + 75) [c + 57, c + 10] [(c, 7), (c, 6), (c, 3), (c, 2), (c, 0)] := B7
  refine v_fldR (k := 9) (x := c + 58) (ty := (.object "GallopRoads$Deck")) B7 F7 he0 ea7 (by omega) (by omega) s0 s1 ((hS.get (j := 0) rfl).2.2 9) (by decide) (inc inU_10) tyX10 tyX10_ok nmX10 rfl (by decide) (List.mem_cons_of_mem _ fl_X10_49) rfl rfl hin rfl (by decide +kernel) rfl rfl dX10_init_69 (fun g7p B7p F7p ep7 => ?_)
  refine v_aload_n F7p dX10_init_72 rfl 0 rfl ?_
  refine v_newO (b := c + 75) (S := S1) F7p (hS.sub (j := 75) (by decide +kernel)) rfl tyX1 tyX1_ok (inc inU_1) rfl (List.mem_cons_of_mem _ cl_X10_46) (List.mem_cons_of_mem _ it_X1) (List.mem_cons_of_mem _ ini_X1) (B7p.nin (Nat.le_refl _)) (by decide) (by decide) (by intro j hj; rcases (show j = 0 ∨ j = 1 ∨ j = 2 ∨ j = 3 ∨ j = 4 ∨ j = 5 ∨ j = 6 ∨ j = 7 ∨ j = 8 ∨ j = 9 by omega) with rfl | rfl | rfl | rfl | rfl | rfl | rfl | rfl | rfl | rfl <;> rfl) (Nat.le_of_ble_eq_true rfl) (Nat.le_of_ble_eq_true rfl) dX10_init_73 (fun q7 hok7 => ?_)
  rw [mZ_id (hZ7 (c + 75) (Nat.le_refl _))]
  have G7 := F7p.grow (g' := gNew g7p (c + 75) q7) rfl rfl rfl rfl hok7
  refine v_dup G7 dX10_init_76 rfl ?_
  refine v_made2 B7p hc7 (by decide) hok7 F (rest' := [.ref q7, .ref h0a]) (fun hM kk => v_callI (As := []) (rest := [.ref q7, .ref h0a]) G7 hM (cwI 0 F.1.2.2.2.2 (gU_0 cd_X1_init) rfl rfl rfl (F.1.2.2.2.2 _ (List.mem_cons_of_mem _ ini_X1)) (F.1.2.2.2.2 _ (List.mem_cons_of_mem _ ml_X10_48)) (F.1.2.2.2.2 _ (List.mem_cons_of_mem _ im_yX1_init)) rfl (by decide +kernel) ⟨Nat.le_of_ble_eq_true rfl, Nat.le_of_ble_eq_true rfl⟩) rfl (by rw [show gAd (gNew g7p (c + 75) q7) (c + 75) = q7 from if_pos rfl]; rfl) (Nat.le_of_ble_eq_true rfl) dX10_init_77 ⟨Nat.le_of_ble_eq_true rfl, Nat.le_of_ble_eq_true rfl⟩ kk) (fun g8 B8 F8 ea8 ek8 => ?_)
  have B8 : BldX g g8 c (c + 92) [c + 57, c + 10] [(c, 9), (c, 7), (c, 6), (c, 3), (c, 2), (c, 0)] := B8
  refine v_fldR (k := 10) (x := c + 75) (ty := (.object "GallopRoads$Deck")) B8 F8 he0 ea8 (by omega) (by omega) s0 s1 ((hS.get (j := 0) rfl).2.2 10) (by decide) (inc inU_10) tyX10 tyX10_ok nmX10 rfl (by decide) (List.mem_cons_of_mem _ fl_X10_53) rfl rfl hin rfl (by decide +kernel) rfl rfl dX10_init_80 (fun g8p B8p F8p ep8 => ?_)
  refine v_iconst (v := 0) F8p dX10_init_83 (by decide) ?_
  refine v_istore_n (lv' := [(1, .int 0), (0, .ref h0a)]) F8p dX10_init_84 rfl (by decide) rfl ?_
  exact w_X10_init_s0 F hO hin hr hlk hS s0 s1 he0 B8p F8p hZ8 hc8 hZ9 hc9 hZ10 hc10 hZ11 hc11 hZ12 hc12 hZ13 hc13 hZ14 hc14
