/-! Constructors, walked. -/
theorem ml_X8_1 : Cond.methodLink RX8 1 objectInit ∈ uT := uM1 (List.mem_of_getElem? (i := 37) rfl) rfl
theorem im_obj : Cond.instanceMethod objectInit ∈ uT := uM1 (List.mem_of_getElem? (i := 30) rfl) rfl
theorem cd_obj : Cond.code objectInit ⟨#[0xb1]⟩ 1 none ∈ uT := uM1 (List.mem_of_getElem? (i := 31) rfl) rfl
theorem ac_int : Cond.arrayClass .int ∈ uT := uM1 (List.mem_of_getElem? (i := 45) rfl) rfl
theorem ml_X8_7 : Cond.methodLink RX8 7 Lib.Math.max.name ∈ uT := uM1 (List.mem_of_getElem? (i := 38) rfl) rfl
abbrev uX8_init : List Cond := Cond.code yX8_init cX8_init 2 none :: uT
/-- b is made by its constructor, with the cells b+1 .. b+n-1 that it makes -/
def gExt (g g' : gT) (b n : Nat) : Prop := g'.1 = g.1 ∧ g'.2.1 = g.2.1 ∧ gB g' = gB g ∧ gSx g' = gSx g ∧ (∀ a, a ∈ gL g' ↔ a ∈ gL g ∨ (b < a ∧ a < b + n)) ∧ (∀ a ∈ gL g, gAd g' a = gAd g a ∧ (a ≠ b → gDn g' a = gDn g a ∧ ∀ k, gNul g' a k = gNul g a k)) ∧ gOK g' ∧ ∀ a, b ≤ a → a < b + n → gDn g' a = true
def gQI (g : gT) (b n : Nat) (M' : Mem) : Array Value → State → Outcome → State → Prop := fun _ st oc t => (∃ g', gExt g g' b n ∧ oc = .returned none ∧ gP g' M' t.heap) ∧ va_F (gA g) st t
def CnI (g : gT) (l : Launch) (y : MethodName) (ws : List Cond) (k mc ms b n : Nat) (av : List Value) (M M' : Mem) : Prop := Met l y ws ({ frames := k, cells := mc, slots := ms, locals := 40 * k } : Room) (va_Pc av (gI g M)) (gQI g b n M') mc ms (gA g)
theorem CnI.of {g : gT} {l : Launch} {cc : ByteArray} {y : MethodName} {ws ws' : List Cond} {k mc ms b n maxL : Nat} {ret : Option FieldType} {av : List Value} {M M' : Mem} (hok : gOK g) (hy : plainName y.cls = true) (hw : ws = Cond.code y cc maxL ret :: ws') (hl : (lg_sl av).length ≤ maxL) (hnm : y.name = "<init>")
    (body : ∀ p e s m args below meth c, Fx g p s m args c cc maxL ws y.cls → meth.sig.returnType = ret → meth.locks = false → meth.name = "<init>" → V g p l e ({ frames := k, cells := mc, slots := ms, locals := 40 * k } : Room) s m args below meth c maxL 0 0 (MQ below (gQI g b n M') args s mc ms (gA g)) 0 (lv_args 0 av) [] M) : CnI g l y ws k mc ms b n av M M' := by
  refine Met.ofW (cc := cc) (maxL := maxL) (ret := ret) hy hw ?_
  intro p e s m args below meth c s₁ B hml hv
  obtain ⟨rfl, hP, hK, hB, hX⟩ := hv
  have hts := atoms_spec (ws := ws) B.pre
  have hin : meth.name = y.name := (name_of_methodNamed B.named B.method).1
  rw [lg_entry_eq]
  exact body p e s m av.toArray below meth c ⟨⟨B.exec, B.bytes, hml, findClass_of_methodNamed B.named, hts⟩, hK, hok, hB, hX⟩ B.returns B.notSynchronized (hin.trans hnm) s.heap [] _ hP va_S.rf (lv_entry av hl)
theorem v_vretI {g g' : gT} {p : Program} {l : Launch} {e : Env} {R : Room} {s : State} {m : MethodId} {args : Array Value} {below : List Frame} {meth : Method} {c : Code} {nL cells slots : Nat} {cc : ByteArray} {Ts : List Cond} {own : String} {pc : Nat} {lv : List (Nat × Value)} {M : Mem} {b n : Nat} (F : Fx g' p s m args c cc nL Ts own) (hx : gExt g g' b n) (hr : meth.sig.returnType = none) (hlocks : meth.locks = false) (hdg : decode cc pc = .ok (.return_, 1)) : V g' p l e R s m args below meth c nL cells slots (MQ below (gQI g b n M) args s cells slots (gA g)) pc lv [] M := by
  have hA : gA g' = gA g := by unfold gA; rw [hx.2.2.1]
  intro H locs ls hP hS hl
  rw [← hA]
  exact W.vret F.1.1 F.1.2.1 hr (fun t ht _ => ⟨⟨g', hx, rfl, by rw [ht]; exact hP⟩, by rw [← hA]; exact hS.F ht⟩) hS.2.2 hdg hlocks
set_option maxHeartbeats 4000000 in
set_option maxRecDepth 100000 in
/-- Row(n): its row b+1 -/
theorem c_X8_init {g : gT} (l : Launch) (hok : gOK g) {b : Nat} {n : Int32} {M : Mem} (hbL : b ∈ gL g) (hdn : gDn g b = false) (hb1 : b + 1 ∉ gL g) (h0 : (shp b).1 = 8) (h1 : (shp b).2.1 = 1) (h2 : (shp b).2.2 0 = some (b + 1)) (h3 : (shp (b + 1)).1 = 12) (hn0 : ¬ n < 0) (hN : n.toNatClampNeg = (shp (b + 1)).2.1) (hsz : (shp (b + 1)).2.1 * 4 ≤ 536870912) : CnI g l yX8_init uX8_init 1 1 (shp (b + 1)).2.1 b 2 [.ref (gAd g b), .int n] M (mZ M (b + 1)) := by
  refine CnI.of (cc := cX8_init) (maxL := 2) (ret := none) hok (by decide) rfl (Nat.le_of_ble_eq_true rfl) rfl (fun p e s m args below meth c F hr hlk hin => ?_)
  generalize he0 : gAd g b = h0a
  show V g p l e ({ frames := 1, cells := 1, slots := (shp (b + 1)).2.1, locals := 40 * 1 } : Room) s m args below meth c 2 0 0 (MQ below (gQI g b 2 (mZ M (b + 1))) args s 1 (shp (b + 1)).2.1 (gA g)) 0 [(0, .ref h0a), (1, .int n)] [] M
  refine v_aload_n F dX8_init_0 rfl 0 rfl ?_
  refine v_objInit F (List.mem_cons_of_mem _ ml_X8_1) (List.mem_cons_of_mem _ im_obj) (List.mem_cons_of_mem _ cd_obj) dX8_init_1 (Nat.le_of_ble_eq_true rfl) (Nat.le_of_ble_eq_true rfl) ?_
  refine v_aload_n F dX8_init_4 rfl 0 rfl ?_
  refine v_iconst (v := 0) F dX8_init_5 (by decide) ?_
  refine v_iload_n F dX8_init_6 rfl 1 rfl ?_
  refine v_mmax F (List.mem_cons_of_mem _ ml_X8_7) (List.mem_cons_of_mem _ st_mmax) (List.mem_cons_of_mem _ ini_Math) (List.mem_cons_of_mem _ cd_mmax) dX8_init_7 ⟨Nat.le_of_ble_eq_true rfl, Nat.le_of_ble_eq_true rfl, Nat.zero_le _, Nat.zero_le _⟩ (Nat.le_of_ble_eq_true rfl) ?_
  have hmx : (if (0 : Int32) < n then n else 0) = n := by
    by_cases q : (0 : Int32) < n
    · rw [if_pos q]
    · rw [if_neg q]
      rcases nI_of hn0 with ⟨j, hj, rfl⟩
      by_cases z : j = 0
      · rw [z]; rfl
      · exact absurd (by rw [← nI_0]; exact nI_lt (by omega) hj) q
  rw [hmx]
  refine v_newI (b := b + 1) F (List.mem_cons_of_mem _ ac_int) hb1 h3 hn0 hN hsz (Nat.le_of_ble_eq_true rfl) (Nat.le_of_eq (Nat.zero_add _)) dX8_init_10 (fun q hok1 => ?_)
  have hne : b ≠ b + 1 := by omega
  have F1 := F.grow (g' := gNewA g (b + 1) q) rfl rfl rfl rfl hok1
  refine v_putR (k := 0) (x := b + 1) (ty := .array .int) F1 (List.mem_append_left _ hbL) h0 (by show (if b = b + 1 then true else gDn g b) = false; rw [if_neg hne]; exact hdn) (by show (if b = b + 1 then q else gAd g b) = h0a; rw [if_neg hne]; exact he0) (by show (if b + 1 = b + 1 then q else gAd g (b + 1)) = q; exact if_pos rfl) (by decide) (inc inU_8) tyX8 tyX8_ok nmX8 rfl h1 h2 (List.mem_append_right _ (List.mem_singleton.mpr rfl)) (by decide) (List.mem_cons_of_mem _ fl_X8_13) rfl rfl hin rfl (by decide +kernel) rfl rfl dX8_init_12 (fun hok2 => ?_)
  have hrow : Ty (gDone (gPut (gNewA g (b + 1) q) b 0) b) 12 (b + 1) := ⟨List.mem_append_right _ (List.mem_singleton.mpr rfl), h3, by
    show (if b + 1 = b then true else (if b + 1 = b + 1 then true else gDn g (b + 1))) = true
    rw [if_neg (by omega), if_pos rfl]⟩
  have hok3 : gOK (gDone (gPut (gNewA g (b + 1) q) b 0) b) := gok_done hok2 (by rw [h0]; decide) (by rw [h0, h1]; rfl) (fun k f hf => by
    rw [h0] at hf
    match k, hf with
    | 0, hf =>
      cases hf
      rw [if_neg (by decide)]
      exact ⟨b + 1, h2, if_pos ⟨rfl, rfl⟩, hrow⟩
    | k + 1, hf => cases hf)
  have F3 := F.grow (g' := gDone (gPut (gNewA g (b + 1) q) b 0) b) rfl rfl rfl rfl hok3
  refine v_done (b := b) ?_
  have hs0 : 0 + (shp (b + 1)).2.1 = (shp (b + 1)).2.1 := Nat.zero_add _
  rw [hs0]
  refine v_vretI F3 ⟨rfl, rfl, rfl, rfl, fun a => ?_, fun a ha => ?_, hok3, fun a h4 h5 => ?_⟩ hr hlk dX8_init_15
  · show a ∈ gL g ++ [b + 1] ↔ _
    rw [List.mem_append, List.mem_singleton]
    constructor
    · rintro (h | h)
      · exact Or.inl h
      · exact Or.inr (by omega)
    · rintro (h | h)
      · exact Or.inl h
      · exact Or.inr (by omega)
  · have hab : a ≠ b + 1 := fun h => hb1 (h ▸ ha)
    refine ⟨if_neg hab, fun hb => ⟨?_, fun k => ?_⟩⟩
    · show (if a = b then true else (if a = b + 1 then true else gDn g a)) = gDn g a
      rw [if_neg hb, if_neg hab]
    · show (if a = b ∧ k = 0 then false else (if a = b + 1 then false else gNul g a k)) = gNul g a k
      rw [if_neg (fun z => hb z.1), if_neg hab]
  · show (if a = b then true else (if a = b + 1 then true else gDn g a)) = true
    by_cases z : a = b
    · rw [if_pos z]
    · rw [if_neg z, if_pos (by omega)]
