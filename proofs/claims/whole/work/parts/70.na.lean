/-! The model's slip() and week(): each makes a row (cells 332, 333), which is forgotten at its end. -/
theorem W.monoQ {p : Program} {l : Launch} {e : Env} {R : Room} {s : State} {m : MethodId} {args : Array Value} {below : List Frame} {meth : Method} {c : Code} {H : Heap} {locs : List Loc} {cells slots : Nat} {Q Q' : State → Prop} {f : JFrame} (h : ∀ t, Q t → Q' t) (k : W p l e R s m args below meth c H locs cells slots Q f) : W p l e R s m args below meth c H locs cells slots Q' f := fun T hT X => by
  obtain ⟨t, a, b⟩ := k T hT X
  exact ⟨t, a, h t b⟩
/-- from memory M, by these arguments, y answers v and leaves M'; mc cells of ms places are made and forgotten -/
def CnN (g : gT) (l : Launch) (y : MethodName) (ws : List Cond) (k mc ms : Nat) (av : List Value) (M : Mem) (v : Option Value) (M' : Mem) : Prop := Met l y ws ({ frames := k, cells := mc, slots := ms, locals := 40 * k } : Room) (va_Pc av (gI g M)) (gQ g v M') mc ms (gA g)
section NEWJ
variable {g : gT} {p : Program} {l : Launch} {e : Env} {R : Room} {s : State} {m : MethodId} {args : Array Value} {below : List Frame} {meth : Method} {c : Code} {nL cells slots : Nat} {Q : State → Prop}
variable {cc : ByteArray} {Ts : List Cond} {own : String} {pc : Nat} {lv : List (Nat × Value)} {rest : List Value} {M : Mem}
theorem CnN.of {y : MethodName} {ws ws' : List Cond} {k mc ms maxL : Nat} {ret : Option FieldType} {av : List Value} {v : Option Value} {M M' : Mem} (hok : gOK g) (hy : plainName y.cls = true) (hw : ws = Cond.code y cc maxL ret :: ws') (hl : (lg_sl av).length ≤ maxL)
    (body : ∀ p e s m args below meth c, Fx g p s m args c cc maxL ws y.cls → meth.sig.returnType = ret → meth.locks = false → V g p l e ({ frames := k, cells := mc, slots := ms, locals := 40 * k } : Room) s m args below meth c maxL 0 0 (MQ below (gQ g v M') args s mc ms (gA g)) 0 (lv_args 0 av) [] M) : CnN g l y ws k mc ms av M v M' := by
  refine Met.ofW (cc := cc) (maxL := maxL) (ret := ret) hy hw ?_
  intro p e s m args below meth c s₁ B hml hv
  obtain ⟨rfl, hP, hK, hB, hX⟩ := hv
  have hts := atoms_spec (ws := ws) B.pre
  rw [lg_entry_eq]
  exact body p e s m av.toArray below meth c ⟨⟨B.exec, B.bytes, hml, findClass_of_methodNamed B.named, hts⟩, hK, hok, hB, hX⟩ B.returns B.notSynchronized s.heap [] _ hP va_S.rf (lv_entry av hl)
theorem gP_drop {b q : Nat} {H : Heap} (hok : gOK g) (hb : b ∉ gL g) (h : gP (gNewA g b q) M H) : gP g M H := by
  have hW := gNewA_W (M := M) (M' := M) (q := q) hok hb (fun _ _ => rfl)
  intro k x hx
  have h1 : va_P g.1 vwCl (gW (gNewA g b q) M) H := h
  rw [hW] at h1
  exact h1 k x (by rw [List.getElem?_append_left (List.getElem?_eq_some_iff.mp hx).1]; exact hx)
theorem v_newJ (F : Fx g p s m args c cc nL Ts own) {b N mc ms : Nat} {n : Int32} {vv : Option Value} {M' : Mem} (harr : Cond.arrayClass .int ∈ Ts) (hb : b ∉ gL g) (hk : (shp b).1 = 12) (hn0 : ¬ n < 0) (hN : n.toNatClampNeg = (shp b).2.1) (hN2 : (shp b).2.1 = N) (hsz : (shp b).2.1 * 4 ≤ 536870912) (hcells : cells + 1 ≤ R.cells) (hslots : slots + N ≤ R.slots) (hdg : decode cc pc = .ok (.newarray .int, 2))
    (kk : ∀ g', Fx g' p s m args c cc nL Ts own → (∀ k a, Ty g k a → Ty g' k a ∧ gAd g' a = gAd g a) → Ty g' 12 b → V g' p l e R s m args below meth c nL (cells + 1) (slots + N) (MQ below (gQ g' vv M') args s mc ms (gA g')) (pc + 2) lv (.ref (gAd g' b) :: rest) (mZ M b)) : V g p l e R s m args below meth c nL cells slots (MQ below (gQ g vv M') args s mc ms (gA g)) pc lv (.int n :: rest) M := by
  subst hN2
  refine v_newI (b := b) F harr hb hk hn0 hN hsz hcells hslots hdg (fun q hok => ?_)
  have F' := F.grow (g' := gNewA g b q) rfl rfl rfl rfl hok
  have hT : ∀ k a, Ty g k a → Ty (gNewA g b q) k a ∧ gAd (gNewA g b q) a = gAd g a := fun k a h => by
    have hab := ne_of_in hb h.1
    refine ⟨⟨List.mem_append_left _ h.1, h.2.1, ?_⟩, if_neg hab⟩
    show (if a = b then true else gDn g a) = true
    rw [if_neg hab]; exact h.2.2
  have hTb : Ty (gNewA g b q) 12 b := ⟨List.mem_append_right _ (List.mem_singleton.mpr rfl), hk, if_pos rfl⟩
  have e : gAd (gNewA g b q) b = q := if_pos rfl
  have h := kk (gNewA g b q) F' hT hTb
  rw [e] at h
  intro H locs ls hP hS hl
  refine W.monoQ (fun t ht => ?_) (h H locs ls hP hS hl)
  obtain ⟨o, h1, h2, ⟨⟨h3, h4⟩, h5⟩, h6⟩ := ht
  exact ⟨o, h1, h2, ⟨⟨h3, gP_drop F.2.2.1 hb h4⟩, h5⟩, h6⟩
end NEWJ
theorem cd_X11_slip : Cond.code yX11_slip cX11_slip 7 (some .int) ∈ uT := uM6 (List.mem_of_getElem? (i := 227) rfl) rfl
theorem ml_X11_292 : Cond.methodLink RX11 292 yX11_calmTo ∈ uT := uM7 (List.mem_of_getElem? (i := 25) rfl) rfl
theorem im_yX11_calmTo : Cond.instanceMethod yX11_calmTo ∈ uT := uM7 (List.mem_of_getElem? (i := 27) rfl) rfl
theorem se_yX11_calmTo : Cond.selects yX11_calmTo.cls yX11_calmTo yX11_calmTo ∈ uT := uMp (List.mem_map.mpr ⟨_, uP5 (List.mem_of_getElem? (i := 0) rfl), rfl⟩) rfl
theorem cd_X11_week : Cond.code yX11_week cX11_week 12 (some .int) ∈ uT := uM7 (List.mem_of_getElem? (i := 24) rfl) rfl
abbrev uX11_slip : List Cond := Cond.code yX11_slip cX11_slip 7 (some .int) :: uT
abbrev uX11_week : List Cond := Cond.code yX11_week cX11_week 12 (some .int) :: uT
def f_X11_slip_h106 (a0 : Nat) (i1 : Int32) (i2 : Int32) (i3 : Int32)  : Nat → Int32 → Nat → Int32 → Mem → Option (Int32 × Mem)
  | 0, _, _, _, _ => none
  | n + 1, x4, y5, x6, M => if 8 ≤ x6 then (some (x4, M)) else (if ¬ (x6 < 0 ∨ gN y5 ≤ x6.toNatClampNeg) then (if ¬ (x6 < 0 ∨ gN (gRf a0 24) ≤ x6.toNatClampNeg) then ((f_X11_slip_h106 a0 i1 i2 i3 n) x4 y5 (x6 + 1) (mU M (gRf a0 24) x6.toNatClampNeg (M y5 x6.toNatClampNeg))) else none) else none)
def f_X11_slip_b100 (a0 : Nat) (i1 : Int32) (i2 : Int32) (i3 : Int32)  (s0 : Int32) (s1 : Int32) (y5 : Nat) (M : Mem) : Option (Int32 × Mem) := f_X11_slip_h106 a0 i1 i2 i3 FU (s0 + s1) y5 0 M
def f_X11_slip_h47 (a0 : Nat) (i1 : Int32) (i2 : Int32) (i3 : Int32)  : Nat → Int32 → Nat → Int32 → Mem → Option (Int32 × Mem)
  | 0, _, _, _, _ => none
  | n + 1, x4, y5, x6, M => if 8 ≤ x6 then ((f_X11_growsBy M a0 i1 i2 1 i3 100).bind fun q => match q with | (r12, M13) => (if r12 = 0 then (f_X11_slip_b100 a0 i1 i2 i3 x4 0 y5 M13) else (f_X11_slip_b100 a0 i1 i2 i3 x4 2 y5 M13))) else (if ¬ (x6 < 0 ∨ gN (gRf a0 24) ≤ x6.toNatClampNeg) then (if ¬ (x6 < 0 ∨ gN y5 ≤ x6.toNatClampNeg) then (if ¬ (x6 < 0 ∨ gN (gRf a0 24) ≤ x6.toNatClampNeg) then ((f_X11_slip_h47 a0 i1 i2 i3 n) x4 y5 (x6 + 1) (mU (mU M y5 x6.toNatClampNeg (M (gRf a0 24) x6.toNatClampNeg)) (gRf a0 24) x6.toNatClampNeg 0)) else none) else none) else none)
def f_X11_slip_b42 (a0 : Nat) (i1 : Int32) (i2 : Int32) (i3 : Int32)  (s0 : Nat) (x4 : Int32) (M : Mem) : Option (Int32 × Mem) := f_X11_slip_h47 a0 i1 i2 i3 FU x4 s0 0 M
def f_X11_slip_b36 (a0 : Nat) (i1 : Int32) (i2 : Int32) (i3 : Int32)  (s0 : Int32) (M : Mem) : Option (Int32 × Mem) := f_X11_slip_b42 a0 i1 i2 i3 332 s0 (mZ M 332)
def f_X11_slip  (M : Mem) (a0 : Nat) (i1 : Int32) (i2 : Int32) (i3 : Int32) : Option (Int32 × Mem) := (f_X11_badTrial (mU M a0 0 0) a0 i1 i2 1 i3).bind fun q => match q with | (r1, M2) => (if r1 = 0 then ((f_X11_growsBy M2 a0 i1 i2 1 i3 100).bind fun q => match q with | (r6, M7) => (if r6 = 0 then (f_X11_slip_b36 a0 i1 i2 i3 0 M7) else (f_X11_slip_b36 a0 i1 i2 i3 1 M7))) else (some (0, M2)))
set_option maxHeartbeats 4000000 in
set_option maxRecDepth 100000 in
theorem w_X11_slip_h106 {g : gT} {p : Program} {l : Launch} {e : Env} {s : State} {m : MethodId} {args : Array Value} {below : List Frame} {meth : Method} {c : Code} {z : Int32 × Mem} (F : Fx g p s m args c cX11_slip 7 uX11_slip RX11) (hr : meth.sig.returnType = (some .int)) (hlk : meth.locks = false)  {a0 : Nat} {i1 : Int32} {i2 : Int32} {i3 : Int32} (t0 : Ty g 11 a0)   : ∀ (n : Nat) (x4 : Int32) (y5 : Nat) (x6 : Int32) (M : Mem), Ty g 12 y5 → f_X11_slip_h106 a0 i1 i2 i3 n x4 y5 x6 M = some z → V g p l e ({ frames := 4, cells := 1, slots := 8, locals := 40 * 4 } : Room) s m args below meth c 7 1 8 (MQ below (gQ g (some (.int z.1)) z.2) args s 1 8 (gA g)) 106 [(0, .ref (gAd g a0)), (1, .int i1), (2, .int i2), (3, .int i3), (4, .int x4), (5, .ref (gAd g y5)), (6, .int x6)] [] M := by
  intro n
  induction n with
  | zero => intro x4 y5 x6 M; intros; rename_i h; cases h
  | succ n ih =>
    intro x4 y5 x6 M ty5 h
    rw [f_X11_slip_h106] at h
    refine v_iload F dX11_slip_106 6 rfl ?_
    refine v_bipush (v := 8) F dX11_slip_108 (by decide) ?_
    refine v_icmp_ge (tgt := 131) F dX11_slip_110 (by decide) (fun hc22 => ?_) (fun hc22 => ?_)
    · rw [if_pos hc22] at h
      refine v_iload F dX11_slip_131 4 rfl ?_
      cases h
      exact v_iret F hr rfl hlk dX11_slip_133
    · rw [if_neg hc22] at h
      refine v_aload_n F dX11_slip_113 rfl 0 rfl ?_
      refine v_getR (k := 24) (f := 12) F t0 (by decide) (inc inU_11) rfl rfl (by decide) (by decide) (List.mem_cons_of_mem _ fl_X11_49) rfl dX11_slip_114 (fun u23 => ?_)
      refine v_iload F dX11_slip_117 6 rfl ?_
      refine v_aload F dX11_slip_119 5 rfl ?_
      refine v_iload F dX11_slip_121 6 rfl ?_
      obtain ⟨hin24, h⟩ := gd_some h
      refine v_iald F ty5 hin24 dX11_slip_123 ?_
      obtain ⟨hin25, h⟩ := gd_some h
      refine v_iast F u23 hin25 dX11_slip_124 ?_
      refine v_iinc (v := x6 + 1) (lv' := [(6, .int (x6 + 1)), (0, .ref (gAd g a0)), (1, .int i1), (2, .int i2), (3, .int i3), (4, .int x4), (5, .ref (gAd g y5))]) F dX11_slip_125 (q := 6) rfl rfl (by decide) rfl ?_
      refine v_goto (tgt := 106) F dX11_slip_128 (by decide) ?_
      refine v_sub (fun ls h9 => lv_sub h9 [1, 2, 3, 4, 5, 6, 0] rfl) ?_
      exact ih _ _ _ _ ty5 h
set_option maxHeartbeats 4000000 in
set_option maxRecDepth 100000 in
theorem w_X11_slip_b100 {g : gT} {p : Program} {l : Launch} {e : Env} {s : State} {m : MethodId} {args : Array Value} {below : List Frame} {meth : Method} {c : Code} {z : Int32 × Mem} (F : Fx g p s m args c cX11_slip 7 uX11_slip RX11) (hr : meth.sig.returnType = (some .int)) (hlk : meth.locks = false)  {a0 : Nat} {i1 : Int32} {i2 : Int32} {i3 : Int32} (t0 : Ty g 11 a0)   (s0 : Int32) (s1 : Int32) (y5 : Nat) (M : Mem) (ty5 : Ty g 12 y5) (h : f_X11_slip_b100 a0 i1 i2 i3 s0 s1 y5 M = some z) : V g p l e ({ frames := 4, cells := 1, slots := 8, locals := 40 * 4 } : Room) s m args below meth c 7 1 8 (MQ below (gQ g (some (.int z.1)) z.2) args s 1 8 (gA g)) 100 [(0, .ref (gAd g a0)), (1, .int i1), (2, .int i2), (3, .int i3), (5, .ref (gAd g y5))] [.int s1, .int s0] M := by
  unfold f_X11_slip_b100 at h
  refine v_iadd F dX11_slip_100 ?_
  refine v_istore (lv' := [(4, .int (s0 + s1)), (0, .ref (gAd g a0)), (1, .int i1), (2, .int i2), (3, .int i3), (5, .ref (gAd g y5))]) F dX11_slip_101 (by decide) rfl ?_
  refine v_iconst (v := 0) F dX11_slip_103 (by decide) ?_
  refine v_istore (lv' := [(6, .int 0), (4, .int (s0 + s1)), (0, .ref (gAd g a0)), (1, .int i1), (2, .int i2), (3, .int i3), (5, .ref (gAd g y5))]) F dX11_slip_104 (by decide) rfl ?_
  refine v_sub (fun ls h9 => lv_sub h9 [2, 3, 4, 5, 1, 6, 0] rfl) ?_
  exact w_X11_slip_h106 F hr hlk t0 _ _ _ _ _ ty5 h
set_option maxHeartbeats 4000000 in
set_option maxRecDepth 100000 in
theorem w_X11_slip_h47 {g : gT} {p : Program} {l : Launch} {e : Env} {s : State} {m : MethodId} {args : Array Value} {below : List Frame} {meth : Method} {c : Code} {z : Int32 × Mem} (F : Fx g p s m args c cX11_slip 7 uX11_slip RX11) (hr : meth.sig.returnType = (some .int)) (hlk : meth.locks = false)  {a0 : Nat} {i1 : Int32} {i2 : Int32} {i3 : Int32} (t0 : Ty g 11 a0)   : ∀ (n : Nat) (x4 : Int32) (y5 : Nat) (x6 : Int32) (M : Mem), Ty g 12 y5 → f_X11_slip_h47 a0 i1 i2 i3 n x4 y5 x6 M = some z → V g p l e ({ frames := 4, cells := 1, slots := 8, locals := 40 * 4 } : Room) s m args below meth c 7 1 8 (MQ below (gQ g (some (.int z.1)) z.2) args s 1 8 (gA g)) 47 [(0, .ref (gAd g a0)), (1, .int i1), (2, .int i2), (3, .int i3), (4, .int x4), (5, .ref (gAd g y5)), (6, .int x6)] [] M := by
  intro n
  induction n with
  | zero => intro x4 y5 x6 M; intros; rename_i h; cases h
  | succ n ih =>
    intro x4 y5 x6 M ty5 h
    rw [f_X11_slip_h47] at h
    refine v_iload F dX11_slip_47 6 rfl ?_
    refine v_bipush (v := 8) F dX11_slip_49 (by decide) ?_
    refine v_icmp_ge (tgt := 80) F dX11_slip_51 (by decide) (fun hc11 => ?_) (fun hc11 => ?_)
    · rw [if_pos hc11] at h
      refine v_iload F dX11_slip_80 4 rfl ?_
      refine v_aload_n F dX11_slip_82 rfl 0 rfl ?_
      refine v_iload_n F dX11_slip_83 rfl 1 rfl ?_
      refine v_iload_n F dX11_slip_84 rfl 2 rfl ?_
      refine v_iconst (v := 1) F dX11_slip_85 (by decide) ?_
      refine v_iload_n F dX11_slip_86 rfl 3 rfl ?_
      refine v_bipush (v := 100) F dX11_slip_87 (by decide) ?_
      obtain ⟨⟨r12, M13⟩, hz14, h⟩ := bd_some h
      dsimp only at h
      refine v_callVi (As := [.int i1, .int i2, .int 1, .int i3, .int 100]) (rest := [.int x4]) F (c_X11_growsBy l F.2.2.1 t0 hz14) (cwV 5 F.1.2.2.2.2 (gU_V ml_X11_264 im_yX11_growsBy se_yX11_growsBy ini_X11 cd_X11_growsBy) rfl rfl rfl (by decide +kernel) ⟨Nat.le_of_ble_eq_true rfl, Nat.le_of_ble_eq_true rfl⟩) t0 (by decide) rfl rfl rfl (Nat.le_of_ble_eq_true rfl) dX11_slip_89 ⟨Nat.le_of_ble_eq_true rfl, Nat.le_of_ble_eq_true rfl⟩ ?_
      refine v_if_eq (tgt := 99) F dX11_slip_92 (by decide) (fun hc16 => ?_) (fun hc16 => ?_)
      · rw [if_pos hc16] at h
        refine v_iconst (v := 0) F dX11_slip_99 (by decide) ?_
        refine v_sub (fun ls h9 => lv_sub h9 [0, 1, 2, 3, 5] rfl) ?_
        exact w_X11_slip_b100 F hr hlk t0 _ _ _ _ ty5 h
      · rw [if_neg hc16] at h
        refine v_iconst (v := 2) F dX11_slip_95 (by decide) ?_
        refine v_goto (tgt := 100) F dX11_slip_96 (by decide) ?_
        refine v_sub (fun ls h9 => lv_sub h9 [0, 1, 2, 3, 5] rfl) ?_
        exact w_X11_slip_b100 F hr hlk t0 _ _ _ _ ty5 h
    · rw [if_neg hc11] at h
      refine v_aload F dX11_slip_54 5 rfl ?_
      refine v_iload F dX11_slip_56 6 rfl ?_
      refine v_aload_n F dX11_slip_58 rfl 0 rfl ?_
      refine v_getR (k := 24) (f := 12) F t0 (by decide) (inc inU_11) rfl rfl (by decide) (by decide) (List.mem_cons_of_mem _ fl_X11_49) rfl dX11_slip_59 (fun u17 => ?_)
      refine v_iload F dX11_slip_62 6 rfl ?_
      obtain ⟨hin18, h⟩ := gd_some h
      refine v_iald F u17 hin18 dX11_slip_64 ?_
      obtain ⟨hin19, h⟩ := gd_some h
      refine v_iast F ty5 hin19 dX11_slip_65 ?_
      refine v_aload_n F dX11_slip_66 rfl 0 rfl ?_
      refine v_getR (k := 24) (f := 12) F t0 (by decide) (inc inU_11) rfl rfl (by decide) (by decide) (List.mem_cons_of_mem _ fl_X11_49) rfl dX11_slip_67 (fun u20 => ?_)
      refine v_iload F dX11_slip_70 6 rfl ?_
      refine v_iconst (v := 0) F dX11_slip_72 (by decide) ?_
      obtain ⟨hin21, h⟩ := gd_some h
      refine v_iast F u20 hin21 dX11_slip_73 ?_
      refine v_iinc (v := x6 + 1) (lv' := [(6, .int (x6 + 1)), (0, .ref (gAd g a0)), (1, .int i1), (2, .int i2), (3, .int i3), (4, .int x4), (5, .ref (gAd g y5))]) F dX11_slip_74 (q := 6) rfl rfl (by decide) rfl ?_
      refine v_goto (tgt := 47) F dX11_slip_77 (by decide) ?_
      refine v_sub (fun ls h9 => lv_sub h9 [1, 2, 3, 4, 5, 6, 0] rfl) ?_
      exact ih _ _ _ _ ty5 h
set_option maxHeartbeats 4000000 in
set_option maxRecDepth 100000 in
theorem w_X11_slip_b42 {g : gT} {p : Program} {l : Launch} {e : Env} {s : State} {m : MethodId} {args : Array Value} {below : List Frame} {meth : Method} {c : Code} {z : Int32 × Mem} (F : Fx g p s m args c cX11_slip 7 uX11_slip RX11) (hr : meth.sig.returnType = (some .int)) (hlk : meth.locks = false)  {a0 : Nat} {i1 : Int32} {i2 : Int32} {i3 : Int32} (t0 : Ty g 11 a0)   (s0 : Nat) (x4 : Int32) (M : Mem) (ts0 : Ty g 12 s0) (h : f_X11_slip_b42 a0 i1 i2 i3 s0 x4 M = some z) : V g p l e ({ frames := 4, cells := 1, slots := 8, locals := 40 * 4 } : Room) s m args below meth c 7 1 8 (MQ below (gQ g (some (.int z.1)) z.2) args s 1 8 (gA g)) 42 [(0, .ref (gAd g a0)), (1, .int i1), (2, .int i2), (3, .int i3), (4, .int x4)] [.ref (gAd g s0)] M := by
  unfold f_X11_slip_b42 at h
  refine v_astore (lv' := [(5, .ref (gAd g s0)), (0, .ref (gAd g a0)), (1, .int i1), (2, .int i2), (3, .int i3), (4, .int x4)]) F dX11_slip_42 (by decide) rfl ?_
  refine v_iconst (v := 0) F dX11_slip_44 (by decide) ?_
  refine v_istore (lv' := [(6, .int 0), (5, .ref (gAd g s0)), (0, .ref (gAd g a0)), (1, .int i1), (2, .int i2), (3, .int i3), (4, .int x4)]) F dX11_slip_45 (by decide) rfl ?_
  refine v_sub (fun ls h9 => lv_sub h9 [2, 3, 4, 5, 6, 1, 0] rfl) ?_
  exact w_X11_slip_h47 F hr hlk t0 _ _ _ _ _ ts0 h
set_option maxHeartbeats 4000000 in
set_option maxRecDepth 100000 in
theorem w_X11_slip_b36 {g : gT} {p : Program} {l : Launch} {e : Env} {s : State} {m : MethodId} {args : Array Value} {below : List Frame} {meth : Method} {c : Code} {z : Int32 × Mem} (F : Fx g p s m args c cX11_slip 7 uX11_slip RX11) (hr : meth.sig.returnType = (some .int)) (hlk : meth.locks = false) (hb9 : 332 ∉ gL g)  {a0 : Nat} {i1 : Int32} {i2 : Int32} {i3 : Int32} (t0 : Ty g 11 a0)   (s0 : Int32) (M : Mem)  (h : f_X11_slip_b36 a0 i1 i2 i3 s0 M = some z) : V g p l e ({ frames := 4, cells := 1, slots := 8, locals := 40 * 4 } : Room) s m args below meth c 7 0 0 (MQ below (gQ g (some (.int z.1)) z.2) args s 1 8 (gA g)) 36 [(0, .ref (gAd g a0)), (1, .int i1), (2, .int i2), (3, .int i3)] [.int s0] M := by
  unfold f_X11_slip_b36 at h
  refine v_istore (lv' := [(4, .int s0), (0, .ref (gAd g a0)), (1, .int i1), (2, .int i2), (3, .int i3)]) F dX11_slip_36 (by decide) rfl ?_
  refine v_bipush (v := 8) F dX11_slip_38 (by decide) ?_
  refine v_newJ (b := 332) F (List.mem_cons_of_mem _ ac_int) hb9 (by decide +kernel) (by decide) (by decide +kernel) (N := 8) (by decide +kernel) (by decide +kernel) (Nat.le_of_ble_eq_true rfl) (Nat.le_of_ble_eq_true rfl) dX11_slip_40 (fun g9 F9 T9 u9 => ?_)
  rw [← (T9 _ _ t0).2]
  refine v_sub (fun ls h9 => lv_sub h9 [1, 2, 3, 4, 0] rfl) ?_
  exact w_X11_slip_b42 F9 hr hlk (T9 _ _ t0).1 _ _ _ u9 h
set_option maxHeartbeats 4000000 in
set_option maxRecDepth 100000 in
theorem c_X11_slip {g : gT} (l : Launch) (hok : gOK g) (hb9 : 332 ∉ gL g) {a0 : Nat} {i1 : Int32} {i2 : Int32} {i3 : Int32} {M : Mem} {z : Int32 × Mem} (t0 : Ty g 11 a0) (h : f_X11_slip M a0 i1 i2 i3 = some z) : CnN g l yX11_slip uX11_slip 4 1 8 [.ref (gAd g a0), .int i1, .int i2, .int i3] M (some (.int z.1)) z.2 := by
  refine CnN.of (cc := cX11_slip) (maxL := 7) (ret := (some .int)) hok (by decide) rfl (Nat.le_of_ble_eq_true rfl) (fun p e s m args below meth c F hr hlk => ?_)
  unfold f_X11_slip at h
  show V g p l e ({ frames := 4, cells := 1, slots := 8, locals := 40 * 4 } : Room) s m args below meth c 7 0 0 (MQ below (gQ g (some (.int z.1)) z.2) args s 1 8 (gA g)) 0 [(0, .ref (gAd g a0)), (1, .int i1), (2, .int i2), (3, .int i3)] [] M
  refine v_aload_n F dX11_slip_0 rfl 0 rfl ?_
  refine v_iconst (v := 0) F dX11_slip_1 (by decide) ?_
  refine v_put (k := 0) (ty := .int) F t0 (by decide) (inc inU_11) tyX11 tyX11_ok nmX11 rfl rfl (by decide) (List.mem_cons_of_mem _ fl_X11_83) rfl rfl (by decide +kernel) rfl rfl dX11_slip_2 ?_
  refine v_aload_n F dX11_slip_5 rfl 0 rfl ?_
  refine v_iload_n F dX11_slip_6 rfl 1 rfl ?_
  refine v_iload_n F dX11_slip_7 rfl 2 rfl ?_
  refine v_iconst (v := 1) F dX11_slip_8 (by decide) ?_
  refine v_iload_n F dX11_slip_9 rfl 3 rfl ?_
  obtain ⟨⟨r1, M2⟩, hz3, h⟩ := bd_some h
  dsimp only at h
  refine v_callVi (As := [.int i1, .int i2, .int 1, .int i3]) (rest := []) F (c_X11_badTrial l F.2.2.1 t0 hz3) (cwV 4 F.1.2.2.2.2 (gU_V ml_X11_260 im_yX11_badTrial se_yX11_badTrial ini_X11 cd_X11_badTrial) rfl rfl rfl (by decide +kernel) ⟨Nat.le_of_ble_eq_true rfl, Nat.le_of_ble_eq_true rfl⟩) t0 (by decide) rfl rfl rfl (Nat.le_of_ble_eq_true rfl) dX11_slip_10 ⟨Nat.le_of_ble_eq_true rfl, Nat.le_of_ble_eq_true rfl⟩ ?_
  refine v_if_eq (tgt := 18) F dX11_slip_13 (by decide) (fun hc5 => ?_) (fun hc5 => ?_)
  · rw [if_pos hc5] at h
    refine v_aload_n F dX11_slip_18 rfl 0 rfl ?_
    refine v_iload_n F dX11_slip_19 rfl 1 rfl ?_
    refine v_iload_n F dX11_slip_20 rfl 2 rfl ?_
    refine v_iconst (v := 1) F dX11_slip_21 (by decide) ?_
    refine v_iload_n F dX11_slip_22 rfl 3 rfl ?_
    refine v_bipush (v := 100) F dX11_slip_23 (by decide) ?_
    obtain ⟨⟨r6, M7⟩, hz8, h⟩ := bd_some h
    dsimp only at h
    refine v_callVi (As := [.int i1, .int i2, .int 1, .int i3, .int 100]) (rest := []) F (c_X11_growsBy l F.2.2.1 t0 hz8) (cwV 5 F.1.2.2.2.2 (gU_V ml_X11_264 im_yX11_growsBy se_yX11_growsBy ini_X11 cd_X11_growsBy) rfl rfl rfl (by decide +kernel) ⟨Nat.le_of_ble_eq_true rfl, Nat.le_of_ble_eq_true rfl⟩) t0 (by decide) rfl rfl rfl (Nat.le_of_ble_eq_true rfl) dX11_slip_25 ⟨Nat.le_of_ble_eq_true rfl, Nat.le_of_ble_eq_true rfl⟩ ?_
    refine v_if_eq (tgt := 35) F dX11_slip_28 (by decide) (fun hc10 => ?_) (fun hc10 => ?_)
    · rw [if_pos hc10] at h
      refine v_iconst (v := 0) F dX11_slip_35 (by decide) ?_
      exact w_X11_slip_b36 F hr hlk hb9 t0 _ _ h
    · rw [if_neg hc10] at h
      refine v_iconst (v := 1) F dX11_slip_31 (by decide) ?_
      refine v_goto (tgt := 36) F dX11_slip_32 (by decide) ?_
      exact w_X11_slip_b36 F hr hlk hb9 t0 _ _ h
  · rw [if_neg hc5] at h
    refine v_iconst (v := 0) F dX11_slip_16 (by decide) ?_
    refine v_widen (k := 1) (n := 8) (by decide) (by decide) ?_
    cases h
    exact v_iret F hr rfl hlk dX11_slip_17
def f_X11_week_b231 (a0 : Nat) (i1 : Int32) (i2 : Int32) (k96 : Nat → Int32 → Int32 → Int32 → Mem → Option (Int32 × Mem)) (k111 : Nat → Int32 → Int32 → Int32 → Int32 → Int32 → Mem → Option (Int32 × Mem)) (y3 : Nat) (x4 : Int32) (x6 : Int32) (x7 : Int32) (x8 : Int32) (x9 : Int32) (M : Mem) : Option (Int32 × Mem) := k111 y3 x4 x6 x7 x8 (x9 + 1) M
def f_X11_week_b223 (a0 : Nat) (i1 : Int32) (i2 : Int32) (k96 : Nat → Int32 → Int32 → Int32 → Mem → Option (Int32 × Mem)) (k111 : Nat → Int32 → Int32 → Int32 → Int32 → Int32 → Mem → Option (Int32 × Mem)) (y3 : Nat) (x4 : Int32) (x6 : Int32) (x9 : Int32) (x10 : Int32) (M : Mem) : Option (Int32 × Mem) := f_X11_week_b231 a0 i1 i2 k96 k111 y3 x4 x6 x9 x10 x9 M
def f_X11_week_h180 (a0 : Nat) (i1 : Int32) (i2 : Int32) (k96 : Nat → Int32 → Int32 → Int32 → Mem → Option (Int32 × Mem)) (k111 : Nat → Int32 → Int32 → Int32 → Int32 → Int32 → Mem → Option (Int32 × Mem)) : Nat → Nat → Int32 → Int32 → Int32 → Int32 → Int32 → Int32 → Int32 → Mem → Option (Int32 × Mem)
  | 0, _, _, _, _, _, _, _, _, _ => none
  | n + 1, y3, x4, x6, x7, x8, x9, x10, x11, M => if 10 ≤ x11 then (if x7 = (-1) then (f_X11_week_b223 a0 i1 i2 k96 k111 y3 x4 x6 x9 x10 M) else (if x8 < x10 then (f_X11_week_b223 a0 i1 i2 k96 k111 y3 x4 x6 x9 x10 M) else (f_X11_week_b231 a0 i1 i2 k96 k111 y3 x4 x6 x7 x8 x9 M))) else (if ¬ (x11 < 0 ∨ gN (gRf a0 29) ≤ x11.toNatClampNeg) then (if ¬ (x11 < 0 ∨ gN (gRf a0 21) ≤ x11.toNatClampNeg) then ((f_X11_week_h180 a0 i1 i2 k96 k111 n) y3 x4 x6 x7 x8 x9 x10 (x11 + 1) (mU M (gRf a0 21) x11.toNatClampNeg (M (gRf a0 29) x11.toNatClampNeg))) else none) else none)
def f_X11_week_h137 (a0 : Nat) (i1 : Int32) (i2 : Int32) (k96 : Nat → Int32 → Int32 → Int32 → Mem → Option (Int32 × Mem)) (k111 : Nat → Int32 → Int32 → Int32 → Int32 → Int32 → Mem → Option (Int32 × Mem)) : Nat → Nat → Int32 → Int32 → Int32 → Int32 → Int32 → Int32 → Mem → Option (Int32 × Mem)
  | 0, _, _, _, _, _, _, _, _ => none
  | n + 1, y3, x4, x6, x7, x8, x9, x10, M => if 10 ≤ x10 then ((f_X11_makes M a0 x9).bind fun q => match q with | (r30, M31) => ((f_X11_calmTo M31 a0 i1).bind fun q => match q with | (r34, M35) => (f_X11_week_h180 a0 i1 i2 k96 k111 FU y3 x4 x6 x7 x8 x9 r34 0 M35))) else (if ¬ (x10 < 0 ∨ gN (gRf a0 21) ≤ x10.toNatClampNeg) then (if ¬ (x10 < 0 ∨ gN (gRf a0 29) ≤ x10.toNatClampNeg) then ((f_X11_week_h137 a0 i1 i2 k96 k111 n) y3 x4 x6 x7 x8 x9 (x10 + 1) (mU M (gRf a0 29) x10.toNatClampNeg (M (gRf a0 21) x10.toNatClampNeg))) else none) else none)
def f_X11_week_h111 (a0 : Nat) (i1 : Int32) (i2 : Int32) (k96 : Nat → Int32 → Int32 → Int32 → Mem → Option (Int32 × Mem)) : Nat → Nat → Int32 → Int32 → Int32 → Int32 → Int32 → Mem → Option (Int32 × Mem)
  | 0, _, _, _, _, _, _, _ => none
  | n + 1, y3, x4, x6, x7, x8, x9, M => if (M a0 32) ≤ x9 then ((f_X11_makes M a0 x7).bind fun q => match q with | (r24, M25) => (k96 y3 (x4 ||| (1 <<< (x7 &&& 31))) x7 (x6 + 1) M25)) else (if ((x4 >>> (x9 &&& 31)) &&& 1) = 1 then (f_X11_week_b231 a0 i1 i2 k96 (f_X11_week_h111 a0 i1 i2 k96 n) y3 x4 x6 x7 x8 x9 M) else (f_X11_week_h137 a0 i1 i2 k96 (f_X11_week_h111 a0 i1 i2 k96 n) FU y3 x4 x6 x7 x8 x9 0 M))
def f_X11_week_h265 (a0 : Nat) (i1 : Int32) (i2 : Int32)  : Nat → Nat → Int32 → Int32 → Mem → Option (Int32 × Mem)
  | 0, _, _, _, _ => none
  | n + 1, y3, x5, x6, M => if 10 ≤ x6 then (some (x5, M)) else (if ¬ (x6 < 0 ∨ gN y3 ≤ x6.toNatClampNeg) then (if ¬ (x6 < 0 ∨ gN (gRf a0 21) ≤ x6.toNatClampNeg) then ((f_X11_week_h265 a0 i1 i2 n) y3 x5 (x6 + 1) (mU M (gRf a0 21) x6.toNatClampNeg (M y3 x6.toNatClampNeg))) else none) else none)
def f_X11_week_h96 (a0 : Nat) (i1 : Int32) (i2 : Int32)  : Nat → Nat → Int32 → Int32 → Int32 → Mem → Option (Int32 × Mem)
  | 0, _, _, _, _, _ => none
  | n + 1, y3, x4, x5, x6, M => if i2 < x6 then (f_X11_week_h265 a0 i1 i2 FU y3 x5 0 M) else (f_X11_week_h111 a0 i1 i2 (f_X11_week_h96 a0 i1 i2 n) FU y3 x4 x6 (-1) 0 0 M)
def f_X11_week_h63 (a0 : Nat) (i1 : Int32) (i2 : Int32)  : Nat → Nat → Int32 → Mem → Option (Int32 × Mem)
  | 0, _, _, _ => none
  | n + 1, y3, x4, M => if 10 ≤ x4 then (f_X11_week_h96 a0 i1 i2 FU y3 0 (-1) 0 M) else (if ¬ (x4 < 0 ∨ gN (gRf a0 21) ≤ x4.toNatClampNeg) then (if ¬ (x4 < 0 ∨ gN y3 ≤ x4.toNatClampNeg) then ((f_X11_week_h63 a0 i1 i2 n) y3 (x4 + 1) (mU M y3 x4.toNatClampNeg (M (gRf a0 21) x4.toNatClampNeg))) else none) else none)
def f_X11_week_b59 (a0 : Nat) (i1 : Int32) (i2 : Int32)  (s0 : Nat) (M : Mem) : Option (Int32 × Mem) := f_X11_week_h63 a0 i1 i2 FU s0 0 M
def f_X11_week_b36 (a0 : Nat) (i1 : Int32) (i2 : Int32)  (s0 : Nat) (s1 : Int32) (M : Mem) : Option (Int32 × Mem) := (f_X11_bad M s0 s1 2).bind fun q => match q with | (r12, M13) => (if r12 = 0 then (if i2 < (M13 a0 32) then (f_X11_week_b59 a0 i1 i2 333 (mZ M13 333)) else (some ((-1), M13))) else (some (0, M13)))
def f_X11_week_b19 (a0 : Nat) (i1 : Int32) (i2 : Int32)  (s0 : Nat) (s1 : Int32) (M : Mem) : Option (Int32 × Mem) := (f_X11_bad M s0 s1 1).bind fun q => match q with | (r6, M7) => (if r6 = 0 then (if 0 ≤ i2 then (f_X11_week_b36 a0 i1 i2 a0 0 M7) else (f_X11_week_b36 a0 i1 i2 a0 1 M7)) else (some (0, M7)))
def f_X11_week  (M : Mem) (a0 : Nat) (i1 : Int32) (i2 : Int32) : Option (Int32 × Mem) := (f_X11_isLaw (mU M a0 0 0) a0 i1).bind fun q => match q with | (r1, M2) => (if r1 = 0 then (f_X11_week_b19 a0 i1 i2 a0 1 M2) else (f_X11_week_b19 a0 i1 i2 a0 0 M2))
set_option maxHeartbeats 4000000 in
set_option maxRecDepth 100000 in
theorem w_X11_week_b231 {g : gT} {p : Program} {l : Launch} {e : Env} {s : State} {m : MethodId} {args : Array Value} {below : List Frame} {meth : Method} {c : Code} {z : Int32 × Mem} (F : Fx g p s m args c cX11_week 12 uX11_week RX11) (hr : meth.sig.returnType = (some .int)) (hlk : meth.locks = false)  {a0 : Nat} {i1 : Int32} {i2 : Int32} (t0 : Ty g 11 a0) {k96 : Nat → Int32 → Int32 → Int32 → Mem → Option (Int32 × Mem)} {k111 : Nat → Int32 → Int32 → Int32 → Int32 → Int32 → Mem → Option (Int32 × Mem)} (hk96 : ∀ (y3 : Nat) (x4 : Int32) (x5 : Int32) (x6 : Int32) (M : Mem), Ty g 12 y3 → k96 y3 x4 x5 x6 M = some z → V g p l e ({ frames := 6, cells := 1, slots := 10, locals := 40 * 6 } : Room) s m args below meth c 12 1 10 (MQ below (gQ g (some (.int z.1)) z.2) args s 1 10 (gA g)) 96 [(0, .ref (gAd g a0)), (1, .int i1), (2, .int i2), (3, .ref (gAd g y3)), (4, .int x4), (5, .int x5), (6, .int x6)] [] M) (hk111 : ∀ (y3 : Nat) (x4 : Int32) (x6 : Int32) (x7 : Int32) (x8 : Int32) (x9 : Int32) (M : Mem), Ty g 12 y3 → k111 y3 x4 x6 x7 x8 x9 M = some z → V g p l e ({ frames := 6, cells := 1, slots := 10, locals := 40 * 6 } : Room) s m args below meth c 12 1 10 (MQ below (gQ g (some (.int z.1)) z.2) args s 1 10 (gA g)) 111 [(0, .ref (gAd g a0)), (1, .int i1), (2, .int i2), (3, .ref (gAd g y3)), (4, .int x4), (6, .int x6), (7, .int x7), (8, .int x8), (9, .int x9)] [] M) (y3 : Nat) (x4 : Int32) (x6 : Int32) (x7 : Int32) (x8 : Int32) (x9 : Int32) (M : Mem) (ty3 : Ty g 12 y3) (h : f_X11_week_b231 a0 i1 i2 k96 k111 y3 x4 x6 x7 x8 x9 M = some z) : V g p l e ({ frames := 6, cells := 1, slots := 10, locals := 40 * 6 } : Room) s m args below meth c 12 1 10 (MQ below (gQ g (some (.int z.1)) z.2) args s 1 10 (gA g)) 231 [(0, .ref (gAd g a0)), (1, .int i1), (2, .int i2), (3, .ref (gAd g y3)), (4, .int x4), (6, .int x6), (7, .int x7), (8, .int x8), (9, .int x9)] [] M := by
  unfold f_X11_week_b231 at h
  refine v_iinc (v := x9 + 1) (lv' := [(9, .int (x9 + 1)), (0, .ref (gAd g a0)), (1, .int i1), (2, .int i2), (3, .ref (gAd g y3)), (4, .int x4), (6, .int x6), (7, .int x7), (8, .int x8)]) F dX11_week_231 (q := 8) rfl rfl (by decide) rfl ?_
  refine v_goto (tgt := 111) F dX11_week_234 (by decide) ?_
  refine v_sub (fun ls h9 => lv_sub h9 [1, 2, 3, 4, 5, 6, 7, 8, 0] rfl) ?_
  exact hk111 _ _ _ _ _ _ _ ty3 h
set_option maxHeartbeats 4000000 in
set_option maxRecDepth 100000 in
theorem w_X11_week_b223 {g : gT} {p : Program} {l : Launch} {e : Env} {s : State} {m : MethodId} {args : Array Value} {below : List Frame} {meth : Method} {c : Code} {z : Int32 × Mem} (F : Fx g p s m args c cX11_week 12 uX11_week RX11) (hr : meth.sig.returnType = (some .int)) (hlk : meth.locks = false)  {a0 : Nat} {i1 : Int32} {i2 : Int32} (t0 : Ty g 11 a0) {k96 : Nat → Int32 → Int32 → Int32 → Mem → Option (Int32 × Mem)} {k111 : Nat → Int32 → Int32 → Int32 → Int32 → Int32 → Mem → Option (Int32 × Mem)} (hk96 : ∀ (y3 : Nat) (x4 : Int32) (x5 : Int32) (x6 : Int32) (M : Mem), Ty g 12 y3 → k96 y3 x4 x5 x6 M = some z → V g p l e ({ frames := 6, cells := 1, slots := 10, locals := 40 * 6 } : Room) s m args below meth c 12 1 10 (MQ below (gQ g (some (.int z.1)) z.2) args s 1 10 (gA g)) 96 [(0, .ref (gAd g a0)), (1, .int i1), (2, .int i2), (3, .ref (gAd g y3)), (4, .int x4), (5, .int x5), (6, .int x6)] [] M) (hk111 : ∀ (y3 : Nat) (x4 : Int32) (x6 : Int32) (x7 : Int32) (x8 : Int32) (x9 : Int32) (M : Mem), Ty g 12 y3 → k111 y3 x4 x6 x7 x8 x9 M = some z → V g p l e ({ frames := 6, cells := 1, slots := 10, locals := 40 * 6 } : Room) s m args below meth c 12 1 10 (MQ below (gQ g (some (.int z.1)) z.2) args s 1 10 (gA g)) 111 [(0, .ref (gAd g a0)), (1, .int i1), (2, .int i2), (3, .ref (gAd g y3)), (4, .int x4), (6, .int x6), (7, .int x7), (8, .int x8), (9, .int x9)] [] M) (y3 : Nat) (x4 : Int32) (x6 : Int32) (x9 : Int32) (x10 : Int32) (M : Mem) (ty3 : Ty g 12 y3) (h : f_X11_week_b223 a0 i1 i2 k96 k111 y3 x4 x6 x9 x10 M = some z) : V g p l e ({ frames := 6, cells := 1, slots := 10, locals := 40 * 6 } : Room) s m args below meth c 12 1 10 (MQ below (gQ g (some (.int z.1)) z.2) args s 1 10 (gA g)) 223 [(0, .ref (gAd g a0)), (1, .int i1), (2, .int i2), (3, .ref (gAd g y3)), (4, .int x4), (6, .int x6), (9, .int x9), (10, .int x10)] [] M := by
  unfold f_X11_week_b223 at h
  refine v_iload F dX11_week_223 6 rfl ?_
  refine v_istore (lv' := [(7, .int x9), (0, .ref (gAd g a0)), (1, .int i1), (2, .int i2), (3, .ref (gAd g y3)), (4, .int x4), (6, .int x6), (9, .int x9), (10, .int x10)]) F dX11_week_225 (by decide) rfl ?_
  refine v_iload F dX11_week_227 8 rfl ?_
  refine v_istore (lv' := [(8, .int x10), (7, .int x9), (0, .ref (gAd g a0)), (1, .int i1), (2, .int i2), (3, .ref (gAd g y3)), (4, .int x4), (6, .int x6), (9, .int x9), (10, .int x10)]) F dX11_week_229 (by decide) rfl ?_
  refine v_sub (fun ls h9 => lv_sub h9 [2, 3, 4, 5, 6, 7, 1, 0, 8] rfl) ?_
  exact w_X11_week_b231 F hr hlk t0 hk96 hk111 _ _ _ _ _ _ _ ty3 h
set_option maxHeartbeats 4000000 in
set_option maxRecDepth 100000 in
theorem w_X11_week_h180 {g : gT} {p : Program} {l : Launch} {e : Env} {s : State} {m : MethodId} {args : Array Value} {below : List Frame} {meth : Method} {c : Code} {z : Int32 × Mem} (F : Fx g p s m args c cX11_week 12 uX11_week RX11) (hr : meth.sig.returnType = (some .int)) (hlk : meth.locks = false)  {a0 : Nat} {i1 : Int32} {i2 : Int32} (t0 : Ty g 11 a0) {k96 : Nat → Int32 → Int32 → Int32 → Mem → Option (Int32 × Mem)} {k111 : Nat → Int32 → Int32 → Int32 → Int32 → Int32 → Mem → Option (Int32 × Mem)} (hk96 : ∀ (y3 : Nat) (x4 : Int32) (x5 : Int32) (x6 : Int32) (M : Mem), Ty g 12 y3 → k96 y3 x4 x5 x6 M = some z → V g p l e ({ frames := 6, cells := 1, slots := 10, locals := 40 * 6 } : Room) s m args below meth c 12 1 10 (MQ below (gQ g (some (.int z.1)) z.2) args s 1 10 (gA g)) 96 [(0, .ref (gAd g a0)), (1, .int i1), (2, .int i2), (3, .ref (gAd g y3)), (4, .int x4), (5, .int x5), (6, .int x6)] [] M) (hk111 : ∀ (y3 : Nat) (x4 : Int32) (x6 : Int32) (x7 : Int32) (x8 : Int32) (x9 : Int32) (M : Mem), Ty g 12 y3 → k111 y3 x4 x6 x7 x8 x9 M = some z → V g p l e ({ frames := 6, cells := 1, slots := 10, locals := 40 * 6 } : Room) s m args below meth c 12 1 10 (MQ below (gQ g (some (.int z.1)) z.2) args s 1 10 (gA g)) 111 [(0, .ref (gAd g a0)), (1, .int i1), (2, .int i2), (3, .ref (gAd g y3)), (4, .int x4), (6, .int x6), (7, .int x7), (8, .int x8), (9, .int x9)] [] M) : ∀ (n : Nat) (y3 : Nat) (x4 : Int32) (x6 : Int32) (x7 : Int32) (x8 : Int32) (x9 : Int32) (x10 : Int32) (x11 : Int32) (M : Mem), Ty g 12 y3 → f_X11_week_h180 a0 i1 i2 k96 k111 n y3 x4 x6 x7 x8 x9 x10 x11 M = some z → V g p l e ({ frames := 6, cells := 1, slots := 10, locals := 40 * 6 } : Room) s m args below meth c 12 1 10 (MQ below (gQ g (some (.int z.1)) z.2) args s 1 10 (gA g)) 180 [(0, .ref (gAd g a0)), (1, .int i1), (2, .int i2), (3, .ref (gAd g y3)), (4, .int x4), (6, .int x6), (7, .int x7), (8, .int x8), (9, .int x9), (10, .int x10), (11, .int x11)] [] M := by
  intro n
  induction n with
  | zero => intro y3 x4 x6 x7 x8 x9 x10 x11 M; intros; rename_i h; cases h
  | succ n ih =>
    intro y3 x4 x6 x7 x8 x9 x10 x11 M ty3 h
    rw [f_X11_week_h180] at h
    refine v_iload F dX11_week_180 10 rfl ?_
    refine v_bipush (v := 10) F dX11_week_182 (by decide) ?_
    refine v_icmp_ge (tgt := 207) F dX11_week_184 (by decide) (fun hc42 => ?_) (fun hc42 => ?_)
    · rw [if_pos hc42] at h
      refine v_iload F dX11_week_207 6 rfl ?_
      refine v_iconst (v := (-1)) F dX11_week_209 (by decide) ?_
      refine v_icmp_eq (tgt := 223) F dX11_week_210 (by decide) (fun hc43 => ?_) (fun hc43 => ?_)
      · rw [if_pos hc43] at h
        refine v_sub (fun ls h9 => lv_sub h9 [0, 1, 2, 3, 4, 5, 8, 9] rfl) ?_
        exact w_X11_week_b223 F hr hlk t0 hk96 hk111 _ _ _ _ _ _ ty3 h
      · rw [if_neg hc43] at h
        refine v_iload F dX11_week_213 9 rfl ?_
        refine v_iload F dX11_week_215 7 rfl ?_
        refine v_icmp_gt (tgt := 223) F dX11_week_217 (by decide) (fun hc44 => ?_) (fun hc44 => ?_)
        · rw [if_pos hc44] at h
          refine v_sub (fun ls h9 => lv_sub h9 [0, 1, 2, 3, 4, 5, 8, 9] rfl) ?_
          exact w_X11_week_b223 F hr hlk t0 hk96 hk111 _ _ _ _ _ _ ty3 h
        · rw [if_neg hc44] at h
          refine v_goto (tgt := 231) F dX11_week_220 (by decide) ?_
          refine v_sub (fun ls h9 => lv_sub h9 [0, 1, 2, 3, 4, 5, 6, 7, 8] rfl) ?_
          exact w_X11_week_b231 F hr hlk t0 hk96 hk111 _ _ _ _ _ _ _ ty3 h
    · rw [if_neg hc42] at h
      refine v_aload_n F dX11_week_187 rfl 0 rfl ?_
      refine v_getR (k := 21) (f := 12) F t0 (by decide) (inc inU_11) rfl rfl (by decide) (by decide) (List.mem_cons_of_mem _ fl_X11_40) rfl dX11_week_188 (fun u45 => ?_)
      refine v_iload F dX11_week_191 10 rfl ?_
      refine v_aload_n F dX11_week_193 rfl 0 rfl ?_
      refine v_getR (k := 29) (f := 12) F t0 (by decide) (inc inU_11) rfl rfl (by decide) (by decide) (List.mem_cons_of_mem _ fl_X11_62) rfl dX11_week_194 (fun u46 => ?_)
      refine v_iload F dX11_week_197 10 rfl ?_
      obtain ⟨hin47, h⟩ := gd_some h
      refine v_iald F u46 hin47 dX11_week_199 ?_
      obtain ⟨hin48, h⟩ := gd_some h
      refine v_iast F u45 hin48 dX11_week_200 ?_
      refine v_iinc (v := x11 + 1) (lv' := [(11, .int (x11 + 1)), (0, .ref (gAd g a0)), (1, .int i1), (2, .int i2), (3, .ref (gAd g y3)), (4, .int x4), (6, .int x6), (7, .int x7), (8, .int x8), (9, .int x9), (10, .int x10)]) F dX11_week_201 (q := 10) rfl rfl (by decide) rfl ?_
      refine v_goto (tgt := 180) F dX11_week_204 (by decide) ?_
      refine v_sub (fun ls h9 => lv_sub h9 [1, 2, 3, 4, 5, 6, 7, 8, 9, 10, 0] rfl) ?_
      exact ih _ _ _ _ _ _ _ _ _ ty3 h
set_option maxHeartbeats 4000000 in
set_option maxRecDepth 100000 in
theorem w_X11_week_h137 {g : gT} {p : Program} {l : Launch} {e : Env} {s : State} {m : MethodId} {args : Array Value} {below : List Frame} {meth : Method} {c : Code} {z : Int32 × Mem} (F : Fx g p s m args c cX11_week 12 uX11_week RX11) (hr : meth.sig.returnType = (some .int)) (hlk : meth.locks = false)  {a0 : Nat} {i1 : Int32} {i2 : Int32} (t0 : Ty g 11 a0) {k96 : Nat → Int32 → Int32 → Int32 → Mem → Option (Int32 × Mem)} {k111 : Nat → Int32 → Int32 → Int32 → Int32 → Int32 → Mem → Option (Int32 × Mem)} (hk96 : ∀ (y3 : Nat) (x4 : Int32) (x5 : Int32) (x6 : Int32) (M : Mem), Ty g 12 y3 → k96 y3 x4 x5 x6 M = some z → V g p l e ({ frames := 6, cells := 1, slots := 10, locals := 40 * 6 } : Room) s m args below meth c 12 1 10 (MQ below (gQ g (some (.int z.1)) z.2) args s 1 10 (gA g)) 96 [(0, .ref (gAd g a0)), (1, .int i1), (2, .int i2), (3, .ref (gAd g y3)), (4, .int x4), (5, .int x5), (6, .int x6)] [] M) (hk111 : ∀ (y3 : Nat) (x4 : Int32) (x6 : Int32) (x7 : Int32) (x8 : Int32) (x9 : Int32) (M : Mem), Ty g 12 y3 → k111 y3 x4 x6 x7 x8 x9 M = some z → V g p l e ({ frames := 6, cells := 1, slots := 10, locals := 40 * 6 } : Room) s m args below meth c 12 1 10 (MQ below (gQ g (some (.int z.1)) z.2) args s 1 10 (gA g)) 111 [(0, .ref (gAd g a0)), (1, .int i1), (2, .int i2), (3, .ref (gAd g y3)), (4, .int x4), (6, .int x6), (7, .int x7), (8, .int x8), (9, .int x9)] [] M) : ∀ (n : Nat) (y3 : Nat) (x4 : Int32) (x6 : Int32) (x7 : Int32) (x8 : Int32) (x9 : Int32) (x10 : Int32) (M : Mem), Ty g 12 y3 → f_X11_week_h137 a0 i1 i2 k96 k111 n y3 x4 x6 x7 x8 x9 x10 M = some z → V g p l e ({ frames := 6, cells := 1, slots := 10, locals := 40 * 6 } : Room) s m args below meth c 12 1 10 (MQ below (gQ g (some (.int z.1)) z.2) args s 1 10 (gA g)) 137 [(0, .ref (gAd g a0)), (1, .int i1), (2, .int i2), (3, .ref (gAd g y3)), (4, .int x4), (6, .int x6), (7, .int x7), (8, .int x8), (9, .int x9), (10, .int x10)] [] M := by
  intro n
  induction n with
  | zero => intro y3 x4 x6 x7 x8 x9 x10 M; intros; rename_i h; cases h
  | succ n ih =>
    intro y3 x4 x6 x7 x8 x9 x10 M ty3 h
    rw [f_X11_week_h137] at h
    refine v_iload F dX11_week_137 9 rfl ?_
    refine v_bipush (v := 10) F dX11_week_139 (by decide) ?_
    refine v_icmp_ge (tgt := 164) F dX11_week_141 (by decide) (fun hc29 => ?_) (fun hc29 => ?_)
    · rw [if_pos hc29] at h
      refine v_aload_n F dX11_week_164 rfl 0 rfl ?_
      refine v_iload F dX11_week_165 8 rfl ?_
      obtain ⟨⟨r30, M31⟩, hz32, h⟩ := bd_some h
      dsimp only at h
      refine v_callVv (As := [.int x9]) (rest := []) F (c_X11_makes l F.2.2.1 t0 hz32) (cwV 1 F.1.2.2.2.2 (gU_V ml_X11_289 im_yX11_makes se_yX11_makes ini_X11 cd_X11_makes) rfl rfl rfl (by decide +kernel) ⟨Nat.le_of_ble_eq_true rfl, Nat.le_of_ble_eq_true rfl⟩) t0 (by decide) rfl rfl rfl (Nat.le_of_ble_eq_true rfl) dX11_week_167 ⟨Nat.le_of_ble_eq_true rfl, Nat.le_of_ble_eq_true rfl⟩ ?_
      refine v_aload_n F dX11_week_170 rfl 0 rfl ?_
      refine v_iload_n F dX11_week_171 rfl 1 rfl ?_
      obtain ⟨⟨r34, M35⟩, hz36, h⟩ := bd_some h
      dsimp only at h
      refine v_callVi (As := [.int i1]) (rest := []) F (c_X11_calmTo l F.2.2.1 t0 hz36) (cwV 1 F.1.2.2.2.2 (gU_V ml_X11_292 im_yX11_calmTo se_yX11_calmTo ini_X11 cd_X11_calmTo) rfl rfl rfl (by decide +kernel) ⟨Nat.le_of_ble_eq_true rfl, Nat.le_of_ble_eq_true rfl⟩) t0 (by decide) rfl rfl rfl (Nat.le_of_ble_eq_true rfl) dX11_week_172 ⟨Nat.le_of_ble_eq_true rfl, Nat.le_of_ble_eq_true rfl⟩ ?_
      refine v_istore (lv' := [(10, .int r34), (0, .ref (gAd g a0)), (1, .int i1), (2, .int i2), (3, .ref (gAd g y3)), (4, .int x4), (6, .int x6), (7, .int x7), (8, .int x8), (9, .int x9)]) F dX11_week_175 (by decide) rfl ?_
      refine v_iconst (v := 0) F dX11_week_177 (by decide) ?_
      refine v_istore (lv' := [(11, .int 0), (10, .int r34), (0, .ref (gAd g a0)), (1, .int i1), (2, .int i2), (3, .ref (gAd g y3)), (4, .int x4), (6, .int x6), (7, .int x7), (8, .int x8), (9, .int x9)]) F dX11_week_178 (by decide) rfl ?_
      refine v_sub (fun ls h9 => lv_sub h9 [2, 3, 4, 5, 6, 7, 8, 9, 10, 1, 0] rfl) ?_
      exact w_X11_week_h180 F hr hlk t0 hk96 hk111 _ _ _ _ _ _ _ _ _ _ ty3 h
    · rw [if_neg hc29] at h
      refine v_aload_n F dX11_week_144 rfl 0 rfl ?_
      refine v_getR (k := 29) (f := 12) F t0 (by decide) (inc inU_11) rfl rfl (by decide) (by decide) (List.mem_cons_of_mem _ fl_X11_62) rfl dX11_week_145 (fun u38 => ?_)
      refine v_iload F dX11_week_148 9 rfl ?_
      refine v_aload_n F dX11_week_150 rfl 0 rfl ?_
      refine v_getR (k := 21) (f := 12) F t0 (by decide) (inc inU_11) rfl rfl (by decide) (by decide) (List.mem_cons_of_mem _ fl_X11_40) rfl dX11_week_151 (fun u39 => ?_)
      refine v_iload F dX11_week_154 9 rfl ?_
      obtain ⟨hin40, h⟩ := gd_some h
      refine v_iald F u39 hin40 dX11_week_156 ?_
      obtain ⟨hin41, h⟩ := gd_some h
      refine v_iast F u38 hin41 dX11_week_157 ?_
      refine v_iinc (v := x10 + 1) (lv' := [(10, .int (x10 + 1)), (0, .ref (gAd g a0)), (1, .int i1), (2, .int i2), (3, .ref (gAd g y3)), (4, .int x4), (6, .int x6), (7, .int x7), (8, .int x8), (9, .int x9)]) F dX11_week_158 (q := 9) rfl rfl (by decide) rfl ?_
      refine v_goto (tgt := 137) F dX11_week_161 (by decide) ?_
      refine v_sub (fun ls h9 => lv_sub h9 [1, 2, 3, 4, 5, 6, 7, 8, 9, 0] rfl) ?_
      exact ih _ _ _ _ _ _ _ _ ty3 h
set_option maxHeartbeats 4000000 in
set_option maxRecDepth 100000 in
theorem w_X11_week_h111 {g : gT} {p : Program} {l : Launch} {e : Env} {s : State} {m : MethodId} {args : Array Value} {below : List Frame} {meth : Method} {c : Code} {z : Int32 × Mem} (F : Fx g p s m args c cX11_week 12 uX11_week RX11) (hr : meth.sig.returnType = (some .int)) (hlk : meth.locks = false)  {a0 : Nat} {i1 : Int32} {i2 : Int32} (t0 : Ty g 11 a0) {k96 : Nat → Int32 → Int32 → Int32 → Mem → Option (Int32 × Mem)} (hk96 : ∀ (y3 : Nat) (x4 : Int32) (x5 : Int32) (x6 : Int32) (M : Mem), Ty g 12 y3 → k96 y3 x4 x5 x6 M = some z → V g p l e ({ frames := 6, cells := 1, slots := 10, locals := 40 * 6 } : Room) s m args below meth c 12 1 10 (MQ below (gQ g (some (.int z.1)) z.2) args s 1 10 (gA g)) 96 [(0, .ref (gAd g a0)), (1, .int i1), (2, .int i2), (3, .ref (gAd g y3)), (4, .int x4), (5, .int x5), (6, .int x6)] [] M) : ∀ (n : Nat) (y3 : Nat) (x4 : Int32) (x6 : Int32) (x7 : Int32) (x8 : Int32) (x9 : Int32) (M : Mem), Ty g 12 y3 → f_X11_week_h111 a0 i1 i2 k96 n y3 x4 x6 x7 x8 x9 M = some z → V g p l e ({ frames := 6, cells := 1, slots := 10, locals := 40 * 6 } : Room) s m args below meth c 12 1 10 (MQ below (gQ g (some (.int z.1)) z.2) args s 1 10 (gA g)) 111 [(0, .ref (gAd g a0)), (1, .int i1), (2, .int i2), (3, .ref (gAd g y3)), (4, .int x4), (6, .int x6), (7, .int x7), (8, .int x8), (9, .int x9)] [] M := by
  intro n
  induction n with
  | zero => intro y3 x4 x6 x7 x8 x9 M; intros; rename_i h; cases h
  | succ n ih =>
    intro y3 x4 x6 x7 x8 x9 M ty3 h
    rw [f_X11_week_h111] at h
    refine v_iload F dX11_week_111 8 rfl ?_
    refine v_aload_n F dX11_week_113 rfl 0 rfl ?_
    refine v_getI (k := 32) F t0 (by decide) (inc inU_11) rfl rfl (by decide) (List.mem_cons_of_mem _ fl_X11_283) rfl dX11_week_114 ?_
    refine v_icmp_ge (tgt := 237) F dX11_week_117 (by decide) (fun hc23 => ?_) (fun hc23 => ?_)
    · rw [if_pos hc23] at h
      refine v_aload_n F dX11_week_237 rfl 0 rfl ?_
      refine v_iload F dX11_week_238 6 rfl ?_
      obtain ⟨⟨r24, M25⟩, hz26, h⟩ := bd_some h
      dsimp only at h
      refine v_callVv (As := [.int x7]) (rest := []) F (c_X11_makes l F.2.2.1 t0 hz26) (cwV 1 F.1.2.2.2.2 (gU_V ml_X11_289 im_yX11_makes se_yX11_makes ini_X11 cd_X11_makes) rfl rfl rfl (by decide +kernel) ⟨Nat.le_of_ble_eq_true rfl, Nat.le_of_ble_eq_true rfl⟩) t0 (by decide) rfl rfl rfl (Nat.le_of_ble_eq_true rfl) dX11_week_240 ⟨Nat.le_of_ble_eq_true rfl, Nat.le_of_ble_eq_true rfl⟩ ?_
      refine v_iload F dX11_week_243 4 rfl ?_
      refine v_iconst (v := 1) F dX11_week_245 (by decide) ?_
      refine v_iload F dX11_week_246 6 rfl ?_
      refine v_ishl F dX11_week_248 ?_
      refine v_ior F dX11_week_249 ?_
      refine v_istore (lv' := [(4, .int (x4 ||| (1 <<< (x7 &&& 31)))), (0, .ref (gAd g a0)), (1, .int i1), (2, .int i2), (3, .ref (gAd g y3)), (6, .int x6), (7, .int x7), (8, .int x8), (9, .int x9)]) F dX11_week_250 (by decide) rfl ?_
      refine v_iload F dX11_week_252 6 rfl ?_
      refine v_istore (lv' := [(5, .int x7), (4, .int (x4 ||| (1 <<< (x7 &&& 31)))), (0, .ref (gAd g a0)), (1, .int i1), (2, .int i2), (3, .ref (gAd g y3)), (6, .int x6), (7, .int x7), (8, .int x8), (9, .int x9)]) F dX11_week_254 (by decide) rfl ?_
      refine v_iinc (v := x6 + 1) (lv' := [(6, .int (x6 + 1)), (5, .int x7), (4, .int (x4 ||| (1 <<< (x7 &&& 31)))), (0, .ref (gAd g a0)), (1, .int i1), (2, .int i2), (3, .ref (gAd g y3)), (7, .int x7), (8, .int x8), (9, .int x9)]) F dX11_week_256 (q := 6) rfl rfl (by decide) rfl ?_
      refine v_goto (tgt := 96) F dX11_week_259 (by decide) ?_
      refine v_sub (fun ls h9 => lv_sub h9 [3, 4, 5, 6, 2, 1, 0] rfl) ?_
      exact hk96 _ _ _ _ _ ty3 h
    · rw [if_neg hc23] at h
      refine v_iload F dX11_week_120 4 rfl ?_
      refine v_iload F dX11_week_122 8 rfl ?_
      refine v_ishr F dX11_week_124 ?_
      refine v_iconst (v := 1) F dX11_week_125 (by decide) ?_
      refine v_iand F dX11_week_126 ?_
      refine v_iconst (v := 1) F dX11_week_127 (by decide) ?_
      refine v_icmp_ne (tgt := 134) F dX11_week_128 (by decide) (fun hc28 => ?_) (fun hc28 => ?_)
      · rw [if_neg hc28] at h
        refine v_iconst (v := 0) F dX11_week_134 (by decide) ?_
        refine v_istore (lv' := [(10, .int 0), (0, .ref (gAd g a0)), (1, .int i1), (2, .int i2), (3, .ref (gAd g y3)), (4, .int x4), (6, .int x6), (7, .int x7), (8, .int x8), (9, .int x9)]) F dX11_week_135 (by decide) rfl ?_
        refine v_sub (fun ls h9 => lv_sub h9 [1, 2, 3, 4, 5, 6, 7, 8, 9, 0] rfl) ?_
        exact w_X11_week_h137 F hr hlk t0 hk96 ih _ _ _ _ _ _ _ _ _ ty3 h
      · rw [if_pos hc28] at h
        refine v_goto (tgt := 231) F dX11_week_131 (by decide) ?_
        exact w_X11_week_b231 F hr hlk t0 hk96 ih _ _ _ _ _ _ _ ty3 h
set_option maxHeartbeats 4000000 in
set_option maxRecDepth 100000 in
theorem w_X11_week_h265 {g : gT} {p : Program} {l : Launch} {e : Env} {s : State} {m : MethodId} {args : Array Value} {below : List Frame} {meth : Method} {c : Code} {z : Int32 × Mem} (F : Fx g p s m args c cX11_week 12 uX11_week RX11) (hr : meth.sig.returnType = (some .int)) (hlk : meth.locks = false)  {a0 : Nat} {i1 : Int32} {i2 : Int32} (t0 : Ty g 11 a0)   : ∀ (n : Nat) (y3 : Nat) (x5 : Int32) (x6 : Int32) (M : Mem), Ty g 12 y3 → f_X11_week_h265 a0 i1 i2 n y3 x5 x6 M = some z → V g p l e ({ frames := 6, cells := 1, slots := 10, locals := 40 * 6 } : Room) s m args below meth c 12 1 10 (MQ below (gQ g (some (.int z.1)) z.2) args s 1 10 (gA g)) 265 [(0, .ref (gAd g a0)), (1, .int i1), (2, .int i2), (3, .ref (gAd g y3)), (5, .int x5), (6, .int x6)] [] M := by
  intro n
  induction n with
  | zero => intro y3 x5 x6 M; intros; rename_i h; cases h
  | succ n ih =>
    intro y3 x5 x6 M ty3 h
    rw [f_X11_week_h265] at h
    refine v_iload F dX11_week_265 5 rfl ?_
    refine v_bipush (v := 10) F dX11_week_267 (by decide) ?_
    refine v_icmp_ge (tgt := 289) F dX11_week_269 (by decide) (fun hc49 => ?_) (fun hc49 => ?_)
    · rw [if_pos hc49] at h
      refine v_iload F dX11_week_289 4 rfl ?_
      cases h
      exact v_iret F hr rfl hlk dX11_week_291
    · rw [if_neg hc49] at h
      refine v_aload_n F dX11_week_272 rfl 0 rfl ?_
      refine v_getR (k := 21) (f := 12) F t0 (by decide) (inc inU_11) rfl rfl (by decide) (by decide) (List.mem_cons_of_mem _ fl_X11_40) rfl dX11_week_273 (fun u50 => ?_)
      refine v_iload F dX11_week_276 5 rfl ?_
      refine v_aload_n F dX11_week_278 rfl 3 rfl ?_
      refine v_iload F dX11_week_279 5 rfl ?_
      obtain ⟨hin51, h⟩ := gd_some h
      refine v_iald F ty3 hin51 dX11_week_281 ?_
      obtain ⟨hin52, h⟩ := gd_some h
      refine v_iast F u50 hin52 dX11_week_282 ?_
      refine v_iinc (v := x6 + 1) (lv' := [(6, .int (x6 + 1)), (0, .ref (gAd g a0)), (1, .int i1), (2, .int i2), (3, .ref (gAd g y3)), (5, .int x5)]) F dX11_week_283 (q := 5) rfl rfl (by decide) rfl ?_
      refine v_goto (tgt := 265) F dX11_week_286 (by decide) ?_
      refine v_sub (fun ls h9 => lv_sub h9 [1, 2, 3, 4, 5, 0] rfl) ?_
      exact ih _ _ _ _ ty3 h
set_option maxHeartbeats 4000000 in
set_option maxRecDepth 100000 in
theorem w_X11_week_h96 {g : gT} {p : Program} {l : Launch} {e : Env} {s : State} {m : MethodId} {args : Array Value} {below : List Frame} {meth : Method} {c : Code} {z : Int32 × Mem} (F : Fx g p s m args c cX11_week 12 uX11_week RX11) (hr : meth.sig.returnType = (some .int)) (hlk : meth.locks = false)  {a0 : Nat} {i1 : Int32} {i2 : Int32} (t0 : Ty g 11 a0)   : ∀ (n : Nat) (y3 : Nat) (x4 : Int32) (x5 : Int32) (x6 : Int32) (M : Mem), Ty g 12 y3 → f_X11_week_h96 a0 i1 i2 n y3 x4 x5 x6 M = some z → V g p l e ({ frames := 6, cells := 1, slots := 10, locals := 40 * 6 } : Room) s m args below meth c 12 1 10 (MQ below (gQ g (some (.int z.1)) z.2) args s 1 10 (gA g)) 96 [(0, .ref (gAd g a0)), (1, .int i1), (2, .int i2), (3, .ref (gAd g y3)), (4, .int x4), (5, .int x5), (6, .int x6)] [] M := by
  intro n
  induction n with
  | zero => intro y3 x4 x5 x6 M; intros; rename_i h; cases h
  | succ n ih =>
    intro y3 x4 x5 x6 M ty3 h
    rw [f_X11_week_h96] at h
    refine v_iload F dX11_week_96 6 rfl ?_
    refine v_iload_n F dX11_week_98 rfl 2 rfl ?_
    refine v_icmp_gt (tgt := 262) F dX11_week_99 (by decide) (fun hc22 => ?_) (fun hc22 => ?_)
    · rw [if_pos hc22] at h
      refine v_iconst (v := 0) F dX11_week_262 (by decide) ?_
      refine v_istore (lv' := [(6, .int 0), (0, .ref (gAd g a0)), (1, .int i1), (2, .int i2), (3, .ref (gAd g y3)), (4, .int x4), (5, .int x5)]) F dX11_week_263 (by decide) rfl ?_
      refine v_sub (fun ls h9 => lv_sub h9 [1, 2, 3, 4, 6, 0] rfl) ?_
      exact w_X11_week_h265 F hr hlk t0 _ _ _ _ _ ty3 h
    · rw [if_neg hc22] at h
      refine v_iconst (v := (-1)) F dX11_week_102 (by decide) ?_
      refine v_istore (lv' := [(7, .int (-1)), (0, .ref (gAd g a0)), (1, .int i1), (2, .int i2), (3, .ref (gAd g y3)), (4, .int x4), (5, .int x5), (6, .int x6)]) F dX11_week_103 (by decide) rfl ?_
      refine v_iconst (v := 0) F dX11_week_105 (by decide) ?_
      refine v_istore (lv' := [(8, .int 0), (7, .int (-1)), (0, .ref (gAd g a0)), (1, .int i1), (2, .int i2), (3, .ref (gAd g y3)), (4, .int x4), (5, .int x5), (6, .int x6)]) F dX11_week_106 (by decide) rfl ?_
      refine v_iconst (v := 0) F dX11_week_108 (by decide) ?_
      refine v_istore (lv' := [(9, .int 0), (8, .int 0), (7, .int (-1)), (0, .ref (gAd g a0)), (1, .int i1), (2, .int i2), (3, .ref (gAd g y3)), (4, .int x4), (5, .int x5), (6, .int x6)]) F dX11_week_109 (by decide) rfl ?_
      refine v_sub (fun ls h9 => lv_sub h9 [3, 4, 5, 6, 7, 9, 2, 1, 0] rfl) ?_
      exact w_X11_week_h111 F hr hlk t0 ih _ _ _ _ _ _ _ _ ty3 h
set_option maxHeartbeats 4000000 in
set_option maxRecDepth 100000 in
theorem w_X11_week_h63 {g : gT} {p : Program} {l : Launch} {e : Env} {s : State} {m : MethodId} {args : Array Value} {below : List Frame} {meth : Method} {c : Code} {z : Int32 × Mem} (F : Fx g p s m args c cX11_week 12 uX11_week RX11) (hr : meth.sig.returnType = (some .int)) (hlk : meth.locks = false)  {a0 : Nat} {i1 : Int32} {i2 : Int32} (t0 : Ty g 11 a0)   : ∀ (n : Nat) (y3 : Nat) (x4 : Int32) (M : Mem), Ty g 12 y3 → f_X11_week_h63 a0 i1 i2 n y3 x4 M = some z → V g p l e ({ frames := 6, cells := 1, slots := 10, locals := 40 * 6 } : Room) s m args below meth c 12 1 10 (MQ below (gQ g (some (.int z.1)) z.2) args s 1 10 (gA g)) 63 [(0, .ref (gAd g a0)), (1, .int i1), (2, .int i2), (3, .ref (gAd g y3)), (4, .int x4)] [] M := by
  intro n
  induction n with
  | zero => intro y3 x4 M; intros; rename_i h; cases h
  | succ n ih =>
    intro y3 x4 M ty3 h
    rw [f_X11_week_h63] at h
    refine v_iload F dX11_week_63 4 rfl ?_
    refine v_bipush (v := 10) F dX11_week_65 (by decide) ?_
    refine v_icmp_ge (tgt := 87) F dX11_week_67 (by decide) (fun hc18 => ?_) (fun hc18 => ?_)
    · rw [if_pos hc18] at h
      refine v_iconst (v := 0) F dX11_week_87 (by decide) ?_
      refine v_istore (lv' := [(4, .int 0), (0, .ref (gAd g a0)), (1, .int i1), (2, .int i2), (3, .ref (gAd g y3))]) F dX11_week_88 (by decide) rfl ?_
      refine v_iconst (v := (-1)) F dX11_week_90 (by decide) ?_
      refine v_istore (lv' := [(5, .int (-1)), (4, .int 0), (0, .ref (gAd g a0)), (1, .int i1), (2, .int i2), (3, .ref (gAd g y3))]) F dX11_week_91 (by decide) rfl ?_
      refine v_iconst (v := 0) F dX11_week_93 (by decide) ?_
      refine v_istore (lv' := [(6, .int 0), (5, .int (-1)), (4, .int 0), (0, .ref (gAd g a0)), (1, .int i1), (2, .int i2), (3, .ref (gAd g y3))]) F dX11_week_94 (by decide) rfl ?_
      refine v_sub (fun ls h9 => lv_sub h9 [3, 4, 5, 6, 2, 1, 0] rfl) ?_
      exact w_X11_week_h96 F hr hlk t0 _ _ _ _ _ _ ty3 h
    · rw [if_neg hc18] at h
      refine v_aload_n F dX11_week_70 rfl 3 rfl ?_
      refine v_iload F dX11_week_71 4 rfl ?_
      refine v_aload_n F dX11_week_73 rfl 0 rfl ?_
      refine v_getR (k := 21) (f := 12) F t0 (by decide) (inc inU_11) rfl rfl (by decide) (by decide) (List.mem_cons_of_mem _ fl_X11_40) rfl dX11_week_74 (fun u19 => ?_)
      refine v_iload F dX11_week_77 4 rfl ?_
      obtain ⟨hin20, h⟩ := gd_some h
      refine v_iald F u19 hin20 dX11_week_79 ?_
      obtain ⟨hin21, h⟩ := gd_some h
      refine v_iast F ty3 hin21 dX11_week_80 ?_
      refine v_iinc (v := x4 + 1) (lv' := [(4, .int (x4 + 1)), (0, .ref (gAd g a0)), (1, .int i1), (2, .int i2), (3, .ref (gAd g y3))]) F dX11_week_81 (q := 4) rfl rfl (by decide) rfl ?_
      refine v_goto (tgt := 63) F dX11_week_84 (by decide) ?_
      refine v_sub (fun ls h9 => lv_sub h9 [1, 2, 3, 4, 0] rfl) ?_
      exact ih _ _ _ ty3 h
set_option maxHeartbeats 4000000 in
set_option maxRecDepth 100000 in
theorem w_X11_week_b59 {g : gT} {p : Program} {l : Launch} {e : Env} {s : State} {m : MethodId} {args : Array Value} {below : List Frame} {meth : Method} {c : Code} {z : Int32 × Mem} (F : Fx g p s m args c cX11_week 12 uX11_week RX11) (hr : meth.sig.returnType = (some .int)) (hlk : meth.locks = false)  {a0 : Nat} {i1 : Int32} {i2 : Int32} (t0 : Ty g 11 a0)   (s0 : Nat) (M : Mem) (ts0 : Ty g 12 s0) (h : f_X11_week_b59 a0 i1 i2 s0 M = some z) : V g p l e ({ frames := 6, cells := 1, slots := 10, locals := 40 * 6 } : Room) s m args below meth c 12 1 10 (MQ below (gQ g (some (.int z.1)) z.2) args s 1 10 (gA g)) 59 [(0, .ref (gAd g a0)), (1, .int i1), (2, .int i2)] [.ref (gAd g s0)] M := by
  unfold f_X11_week_b59 at h
  refine v_astore_n (lv' := [(3, .ref (gAd g s0)), (0, .ref (gAd g a0)), (1, .int i1), (2, .int i2)]) F dX11_week_59 rfl (by decide) rfl ?_
  refine v_iconst (v := 0) F dX11_week_60 (by decide) ?_
  refine v_istore (lv' := [(4, .int 0), (3, .ref (gAd g s0)), (0, .ref (gAd g a0)), (1, .int i1), (2, .int i2)]) F dX11_week_61 (by decide) rfl ?_
  refine v_sub (fun ls h9 => lv_sub h9 [2, 3, 4, 1, 0] rfl) ?_
  exact w_X11_week_h63 F hr hlk t0 _ _ _ _ ts0 h
set_option maxHeartbeats 4000000 in
set_option maxRecDepth 100000 in
theorem w_X11_week_b36 {g : gT} {p : Program} {l : Launch} {e : Env} {s : State} {m : MethodId} {args : Array Value} {below : List Frame} {meth : Method} {c : Code} {z : Int32 × Mem} (F : Fx g p s m args c cX11_week 12 uX11_week RX11) (hr : meth.sig.returnType = (some .int)) (hlk : meth.locks = false) (hb9 : 333 ∉ gL g)  {a0 : Nat} {i1 : Int32} {i2 : Int32} (t0 : Ty g 11 a0)   (s0 : Nat) (s1 : Int32) (M : Mem) (ts0 : Ty g 11 s0) (h : f_X11_week_b36 a0 i1 i2 s0 s1 M = some z) : V g p l e ({ frames := 6, cells := 1, slots := 10, locals := 40 * 6 } : Room) s m args below meth c 12 0 0 (MQ below (gQ g (some (.int z.1)) z.2) args s 1 10 (gA g)) 36 [(0, .ref (gAd g a0)), (1, .int i1), (2, .int i2)] [.int s1, .ref (gAd g s0)] M := by
  unfold f_X11_week_b36 at h
  refine v_iconst (v := 2) F dX11_week_36 (by decide) ?_
  obtain ⟨⟨r12, M13⟩, hz14, h⟩ := bd_some h
  dsimp only at h
  refine v_callVi (As := [.int s1, .int 2]) (rest := []) F (c_X11_bad l F.2.2.1 ts0 hz14) (cwV 2 F.1.2.2.2.2 (gU_V ml_X11_176 im_yX11_bad se_yX11_bad ini_X11 cd_X11_bad) rfl rfl rfl (by decide +kernel) ⟨Nat.le_of_ble_eq_true rfl, Nat.le_of_ble_eq_true rfl⟩) ts0 (by decide) rfl rfl rfl (Nat.le_of_ble_eq_true rfl) dX11_week_37 ⟨Nat.le_of_ble_eq_true rfl, Nat.le_of_ble_eq_true rfl⟩ ?_
  refine v_if_eq (tgt := 45) F dX11_week_40 (by decide) (fun hc16 => ?_) (fun hc16 => ?_)
  · rw [if_pos hc16] at h
    refine v_iload_n F dX11_week_45 rfl 2 rfl ?_
    refine v_aload_n F dX11_week_46 rfl 0 rfl ?_
    refine v_getI (k := 32) F t0 (by decide) (inc inU_11) rfl rfl (by decide) (List.mem_cons_of_mem _ fl_X11_283) rfl dX11_week_47 ?_
    refine v_icmp_lt (tgt := 55) F dX11_week_50 (by decide) (fun hc17 => ?_) (fun hc17 => ?_)
    · rw [if_pos hc17] at h
      refine v_bipush (v := 10) F dX11_week_55 (by decide) ?_
      refine v_newJ (b := 333) F (List.mem_cons_of_mem _ ac_int) hb9 (by decide +kernel) (by decide) (by decide +kernel) (N := 10) (by decide +kernel) (by decide +kernel) (Nat.le_of_ble_eq_true rfl) (Nat.le_of_ble_eq_true rfl) dX11_week_57 (fun g9 F9 T9 u9 => ?_)
      rw [← (T9 _ _ t0).2]
      exact w_X11_week_b59 F9 hr hlk (T9 _ _ t0).1 _ _ u9 h
    · rw [if_neg hc17] at h
      refine v_iconst (v := (-1)) F dX11_week_53 (by decide) ?_
      refine v_widen (k := 1) (n := 10) (by decide) (by decide) ?_
      cases h
      exact v_iret F hr rfl hlk dX11_week_54
  · rw [if_neg hc16] at h
    refine v_iconst (v := 0) F dX11_week_43 (by decide) ?_
    refine v_widen (k := 1) (n := 10) (by decide) (by decide) ?_
    cases h
    exact v_iret F hr rfl hlk dX11_week_44
set_option maxHeartbeats 4000000 in
set_option maxRecDepth 100000 in
theorem w_X11_week_b19 {g : gT} {p : Program} {l : Launch} {e : Env} {s : State} {m : MethodId} {args : Array Value} {below : List Frame} {meth : Method} {c : Code} {z : Int32 × Mem} (F : Fx g p s m args c cX11_week 12 uX11_week RX11) (hr : meth.sig.returnType = (some .int)) (hlk : meth.locks = false) (hb9 : 333 ∉ gL g)  {a0 : Nat} {i1 : Int32} {i2 : Int32} (t0 : Ty g 11 a0)   (s0 : Nat) (s1 : Int32) (M : Mem) (ts0 : Ty g 11 s0) (h : f_X11_week_b19 a0 i1 i2 s0 s1 M = some z) : V g p l e ({ frames := 6, cells := 1, slots := 10, locals := 40 * 6 } : Room) s m args below meth c 12 0 0 (MQ below (gQ g (some (.int z.1)) z.2) args s 1 10 (gA g)) 19 [(0, .ref (gAd g a0)), (1, .int i1), (2, .int i2)] [.int s1, .ref (gAd g s0)] M := by
  unfold f_X11_week_b19 at h
  refine v_iconst (v := 1) F dX11_week_19 (by decide) ?_
  obtain ⟨⟨r6, M7⟩, hz8, h⟩ := bd_some h
  dsimp only at h
  refine v_callVi (As := [.int s1, .int 1]) (rest := []) F (c_X11_bad l F.2.2.1 ts0 hz8) (cwV 2 F.1.2.2.2.2 (gU_V ml_X11_176 im_yX11_bad se_yX11_bad ini_X11 cd_X11_bad) rfl rfl rfl (by decide +kernel) ⟨Nat.le_of_ble_eq_true rfl, Nat.le_of_ble_eq_true rfl⟩) ts0 (by decide) rfl rfl rfl (Nat.le_of_ble_eq_true rfl) dX11_week_20 ⟨Nat.le_of_ble_eq_true rfl, Nat.le_of_ble_eq_true rfl⟩ ?_
  refine v_if_ne (tgt := 43) F dX11_week_23 (by decide) (fun hc10 => ?_) (fun hc10 => ?_)
  · rw [if_neg hc10] at h
    refine v_iconst (v := 0) F dX11_week_43 (by decide) ?_
    refine v_widen (k := 1) (n := 10) (by decide) (by decide) ?_
    cases h
    exact v_iret F hr rfl hlk dX11_week_44
  · rw [if_pos hc10] at h
    refine v_aload_n F dX11_week_26 rfl 0 rfl ?_
    refine v_iload_n F dX11_week_27 rfl 2 rfl ?_
    refine v_if_ge (tgt := 35) F dX11_week_28 (by decide) (fun hc11 => ?_) (fun hc11 => ?_)
    · rw [if_pos hc11] at h
      refine v_iconst (v := 0) F dX11_week_35 (by decide) ?_
      exact w_X11_week_b36 F hr hlk hb9 t0 _ _ _ t0 h
    · rw [if_neg hc11] at h
      refine v_iconst (v := 1) F dX11_week_31 (by decide) ?_
      refine v_goto (tgt := 36) F dX11_week_32 (by decide) ?_
      exact w_X11_week_b36 F hr hlk hb9 t0 _ _ _ t0 h
set_option maxHeartbeats 4000000 in
set_option maxRecDepth 100000 in
theorem c_X11_week {g : gT} (l : Launch) (hok : gOK g) (hb9 : 333 ∉ gL g) {a0 : Nat} {i1 : Int32} {i2 : Int32} {M : Mem} {z : Int32 × Mem} (t0 : Ty g 11 a0) (h : f_X11_week M a0 i1 i2 = some z) : CnN g l yX11_week uX11_week 6 1 10 [.ref (gAd g a0), .int i1, .int i2] M (some (.int z.1)) z.2 := by
  refine CnN.of (cc := cX11_week) (maxL := 12) (ret := (some .int)) hok (by decide) rfl (Nat.le_of_ble_eq_true rfl) (fun p e s m args below meth c F hr hlk => ?_)
  unfold f_X11_week at h
  show V g p l e ({ frames := 6, cells := 1, slots := 10, locals := 40 * 6 } : Room) s m args below meth c 12 0 0 (MQ below (gQ g (some (.int z.1)) z.2) args s 1 10 (gA g)) 0 [(0, .ref (gAd g a0)), (1, .int i1), (2, .int i2)] [] M
  refine v_aload_n F dX11_week_0 rfl 0 rfl ?_
  refine v_iconst (v := 0) F dX11_week_1 (by decide) ?_
  refine v_put (k := 0) (ty := .int) F t0 (by decide) (inc inU_11) tyX11 tyX11_ok nmX11 rfl rfl (by decide) (List.mem_cons_of_mem _ fl_X11_83) rfl rfl (by decide +kernel) rfl rfl dX11_week_2 ?_
  refine v_aload_n F dX11_week_5 rfl 0 rfl ?_
  refine v_aload_n F dX11_week_6 rfl 0 rfl ?_
  refine v_iload_n F dX11_week_7 rfl 1 rfl ?_
  obtain ⟨⟨r1, M2⟩, hz3, h⟩ := bd_some h
  dsimp only at h
  refine v_callVi (As := [.int i1]) (rest := [.ref (gAd g a0)]) F (c_X11_isLaw l F.2.2.1 t0 hz3) (cwV 1 F.1.2.2.2.2 (gU_V ml_X11_242 im_yX11_isLaw se_yX11_isLaw ini_X11 cd_X11_isLaw) rfl rfl rfl (by decide +kernel) ⟨Nat.le_of_ble_eq_true rfl, Nat.le_of_ble_eq_true rfl⟩) t0 (by decide) rfl rfl rfl (Nat.le_of_ble_eq_true rfl) dX11_week_8 ⟨Nat.le_of_ble_eq_true rfl, Nat.le_of_ble_eq_true rfl⟩ ?_
  refine v_if_ne (tgt := 18) F dX11_week_11 (by decide) (fun hc5 => ?_) (fun hc5 => ?_)
  · rw [if_neg hc5] at h
    refine v_iconst (v := 0) F dX11_week_18 (by decide) ?_
    exact w_X11_week_b19 F hr hlk hb9 t0 _ _ _ t0 h
  · rw [if_pos hc5] at h
    refine v_iconst (v := 1) F dX11_week_14 (by decide) ?_
    refine v_goto (tgt := 19) F dX11_week_15 (by decide) ?_
    exact w_X11_week_b19 F hr hlk hb9 t0 _ _ _ t0 h
