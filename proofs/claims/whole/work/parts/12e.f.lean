def f_X11_isSo_b38 (a0 : Nat) (i1 : Int32) (k2 : Int32 → Mem → Option (Int32 × Mem)) (x2 : Int32) (M : Mem) : Option (Int32 × Mem) := k2 (x2 + 1) M
def f_X11_isSo_h2 (a0 : Nat) (i1 : Int32)  : Nat → Int32 → Mem → Option (Int32 × Mem)
  | 0, _, _ => none
  | n + 1, x2, M => if (M a0 19) ≤ x2 then (some ((-1), M)) else (if i1 = 0 then (if ¬ (x2 < 0 ∨ gN (gRf a0 24) ≤ x2.toNatClampNeg) then (if (M (gRf a0 24) x2.toNatClampNeg) = 1 then (some (x2, M)) else (f_X11_isSo_b38 a0 i1 (f_X11_isSo_h2 a0 i1 n) x2 M)) else none) else (if ¬ (x2 < 0 ∨ gN (gRf a0 25) ≤ x2.toNatClampNeg) then (if (M (gRf a0 25) x2.toNatClampNeg) = 0 then (f_X11_isSo_b38 a0 i1 (f_X11_isSo_h2 a0 i1 n) x2 M) else (some (x2, M))) else none))
def f_X11_isSo  (M : Mem) (a0 : Nat) (i1 : Int32) : Option (Int32 × Mem) := f_X11_isSo_h2 a0 i1 FU 0 M
set_option maxHeartbeats 4000000 in
set_option maxRecDepth 100000 in
theorem w_X11_isSo_b38 {g : gT} {p : Program} {l : Launch} {e : Env} {s : State} {m : MethodId} {args : Array Value} {below : List Frame} {meth : Method} {c : Code} {z : Int32 × Mem} (F : Fx g p s m args c cX11_isSo 3 uX11_isSo RX11) (hr : meth.sig.returnType = (some .int)) (hlk : meth.locks = false)  {a0 : Nat} {i1 : Int32} (t0 : Ty g 11 a0) {k2 : Int32 → Mem → Option (Int32 × Mem)} (hk2 : ∀ (x2 : Int32) (M : Mem), k2 x2 M = some z → V g p l e ({ frames := 0, cells := 0, slots := 0, locals := 40 * 0 } : Room) s m args below meth c 3 0 0 (MQ below (gQ g (some (.int z.1)) z.2) args s 0 0 (gA g)) 2 [(0, .ref (gAd g a0)), (1, .int i1), (2, .int x2)] [] M) (x2 : Int32) (M : Mem)  (h : f_X11_isSo_b38 a0 i1 k2 x2 M = some z) : V g p l e ({ frames := 0, cells := 0, slots := 0, locals := 40 * 0 } : Room) s m args below meth c 3 0 0 (MQ below (gQ g (some (.int z.1)) z.2) args s 0 0 (gA g)) 38 [(0, .ref (gAd g a0)), (1, .int i1), (2, .int x2)] [] M := by
  unfold f_X11_isSo_b38 at h
  refine v_iinc (v := x2 + 1) (lv' := [(2, .int (x2 + 1)), (0, .ref (gAd g a0)), (1, .int i1)]) F dX11_isSo_38 (q := 2) rfl rfl (by decide) rfl ?_
  refine v_goto (tgt := 2) F dX11_isSo_41 (by decide) ?_
  refine v_sub (fun ls h9 => lv_sub h9 [1, 2, 0] rfl) ?_
  exact hk2 _ _ h
set_option maxHeartbeats 4000000 in
set_option maxRecDepth 100000 in
theorem w_X11_isSo_h2 {g : gT} {p : Program} {l : Launch} {e : Env} {s : State} {m : MethodId} {args : Array Value} {below : List Frame} {meth : Method} {c : Code} {z : Int32 × Mem} (F : Fx g p s m args c cX11_isSo 3 uX11_isSo RX11) (hr : meth.sig.returnType = (some .int)) (hlk : meth.locks = false)  {a0 : Nat} {i1 : Int32} (t0 : Ty g 11 a0)   : ∀ (n : Nat) (x2 : Int32) (M : Mem), f_X11_isSo_h2 a0 i1 n x2 M = some z → V g p l e ({ frames := 0, cells := 0, slots := 0, locals := 40 * 0 } : Room) s m args below meth c 3 0 0 (MQ below (gQ g (some (.int z.1)) z.2) args s 0 0 (gA g)) 2 [(0, .ref (gAd g a0)), (1, .int i1), (2, .int x2)] [] M := by
  intro n
  induction n with
  | zero => intro x2 M; intros; rename_i h; cases h
  | succ n ih =>
    intro x2 M h
    rw [f_X11_isSo_h2] at h
    refine v_iload_n F dX11_isSo_2 rfl 2 rfl ?_
    refine v_aload_n F dX11_isSo_3 rfl 0 rfl ?_
    refine v_getI (k := 19) F t0 (by decide) (inc inU_11) rfl rfl (by decide) (List.mem_cons_of_mem _ fl_X11_37) rfl dX11_isSo_4 ?_
    refine v_icmp_ge (tgt := 44) F dX11_isSo_7 (by decide) (fun hc1 => ?_) (fun hc1 => ?_)
    · rw [if_pos hc1] at h
      refine v_iconst (v := (-1)) F dX11_isSo_44 (by decide) ?_
      cases h
      exact v_iret F hr rfl hlk dX11_isSo_45
    · rw [if_neg hc1] at h
      refine v_iload_n F dX11_isSo_10 rfl 1 rfl ?_
      refine v_if_eq (tgt := 26) F dX11_isSo_11 (by decide) (fun hc2 => ?_) (fun hc2 => ?_)
      · rw [if_pos hc2] at h
        refine v_aload_n F dX11_isSo_26 rfl 0 rfl ?_
        refine v_getR (k := 24) (f := 12) F t0 (by decide) (inc inU_11) rfl rfl (by decide) (by decide) (List.mem_cons_of_mem _ fl_X11_49) rfl dX11_isSo_27 (fun u3 => ?_)
        refine v_iload_n F dX11_isSo_30 rfl 2 rfl ?_
        obtain ⟨hin4, h⟩ := gd_some h
        refine v_iald F u3 hin4 dX11_isSo_31 ?_
        refine v_iconst (v := 1) F dX11_isSo_32 (by decide) ?_
        refine v_icmp_ne (tgt := 38) F dX11_isSo_33 (by decide) (fun hc5 => ?_) (fun hc5 => ?_)
        · rw [if_neg hc5] at h
          exact w_X11_isSo_b38 F hr hlk t0 ih _ _ h
        · rw [if_pos hc5] at h
          refine v_iload_n F dX11_isSo_36 rfl 2 rfl ?_
          cases h
          exact v_iret F hr rfl hlk dX11_isSo_37
      · rw [if_neg hc2] at h
        refine v_aload_n F dX11_isSo_14 rfl 0 rfl ?_
        refine v_getR (k := 25) (f := 13) F t0 (by decide) (inc inU_11) rfl rfl (by decide) (by decide) (List.mem_cons_of_mem _ fl_X11_52) rfl dX11_isSo_15 (fun u6 => ?_)
        refine v_iload_n F dX11_isSo_18 rfl 2 rfl ?_
        obtain ⟨hin7, h⟩ := gd_some h
        refine v_zald F u6 hin7 dX11_isSo_19 ?_
        refine v_if_eq (tgt := 38) F dX11_isSo_20 (by decide) (fun hc8 => ?_) (fun hc8 => ?_)
        · rw [if_pos hc8] at h
          exact w_X11_isSo_b38 F hr hlk t0 ih _ _ h
        · rw [if_neg hc8] at h
          refine v_goto (tgt := 36) F dX11_isSo_23 (by decide) ?_
          refine v_iload_n F dX11_isSo_36 rfl 2 rfl ?_
          cases h
          exact v_iret F hr rfl hlk dX11_isSo_37
set_option maxHeartbeats 4000000 in
set_option maxRecDepth 100000 in
theorem c_X11_isSo {g : gT} (l : Launch) (hok : gOK g)  {a0 : Nat} {i1 : Int32} {M : Mem} {z : Int32 × Mem}  (t0 : Ty g 11 a0) (h : f_X11_isSo  M a0 i1 = some z) : Cn g l yX11_isSo uX11_isSo 0 [.ref (gAd g a0), .int i1] M (some (.int z.1)) z.2 := by
  refine Cn.of (cc := cX11_isSo) (maxL := 3) (ret := (some .int)) hok (by decide) rfl (Nat.le_of_ble_eq_true rfl) (fun p e s m args below meth c F hr hlk => ?_)
  unfold f_X11_isSo at h
  show V g p l e ({ frames := 0, cells := 0, slots := 0, locals := 40 * 0 } : Room) s m args below meth c 3 0 0 (MQ below (gQ g (some (.int z.1)) z.2) args s 0 0 (gA g)) 0 [(0, .ref (gAd g a0)), (1, .int i1)] [] M
  refine v_iconst (v := 0) F dX11_isSo_0 (by decide) ?_
  refine v_istore_n (lv' := [(2, .int 0), (0, .ref (gAd g a0)), (1, .int i1)]) F dX11_isSo_1 rfl (by decide) rfl ?_
  refine v_sub (fun ls h9 => lv_sub h9 [1, 2, 0] rfl) ?_
  exact w_X11_isSo_h2 F hr hlk t0 _ _ _ h
def f_X11_firstOf_b60 (a0 : Nat) (i1 : Int32) (i2 : Int32) (i3 : Int32) (i4 : Int32) (i5 : Int32) (k15 : Int32 → Int32 → Mem → Option (Int32 × Mem)) (s0 : Int32) (x7 : Int32) (M : Mem) : Option (Int32 × Mem) := k15 s0 (x7 + 1) M
def f_X11_firstOf_b68 (a0 : Nat) (i1 : Int32) (i2 : Int32) (i3 : Int32) (i4 : Int32) (i5 : Int32)  (x6 : Int32) (M : Mem) : Option (Int32 × Mem) := (f_X11_laysBack M a0).bind fun q => match q with | (r16, M17) => (some (x6, M17))
def f_X11_firstOf_h15 (a0 : Nat) (i1 : Int32) (i2 : Int32) (i3 : Int32) (i4 : Int32) (i5 : Int32)  : Nat → Int32 → Int32 → Mem → Option (Int32 × Mem)
  | 0, _, _, _ => none
  | n + 1, x6, x7, M => if 60 < x7 then (f_X11_firstOf_b68 a0 i1 i2 i3 i4 i5 x6 M) else (if x6 = (-1) then ((f_X11_tick M a0 i1 i2).bind fun q => match q with | (r7, M8) => ((f_X11_isSo M8 a0 i5).bind fun q => match q with | (r11, M12) => (if r11 = (-1) then (f_X11_firstOf_b60 a0 i1 i2 i3 i4 i5 (f_X11_firstOf_h15 a0 i1 i2 i3 i4 i5 n) (-1) x7 M12) else (f_X11_firstOf_b60 a0 i1 i2 i3 i4 i5 (f_X11_firstOf_h15 a0 i1 i2 i3 i4 i5 n) ((100 * x7) + r11) x7 M12)))) else (f_X11_firstOf_b68 a0 i1 i2 i3 i4 i5 x6 M))
def f_X11_firstOf  (M : Mem) (a0 : Nat) (i1 : Int32) (i2 : Int32) (i3 : Int32) (i4 : Int32) (i5 : Int32) : Option (Int32 × Mem) := (f_X11_begins M a0 i3 i4 100).bind fun q => match q with | (r1, M2) => (f_X11_firstOf_h15 a0 i1 i2 i3 i4 i5 FU (-1) 1 M2)
set_option maxHeartbeats 4000000 in
set_option maxRecDepth 100000 in
theorem w_X11_firstOf_b60 {g : gT} {p : Program} {l : Launch} {e : Env} {s : State} {m : MethodId} {args : Array Value} {below : List Frame} {meth : Method} {c : Code} {z : Int32 × Mem} (F : Fx g p s m args c cX11_firstOf 9 uX11_firstOf RX11) (hr : meth.sig.returnType = (some .int)) (hlk : meth.locks = false)  {a0 : Nat} {i1 : Int32} {i2 : Int32} {i3 : Int32} {i4 : Int32} {i5 : Int32} (t0 : Ty g 11 a0) {k15 : Int32 → Int32 → Mem → Option (Int32 × Mem)} (hk15 : ∀ (x6 : Int32) (x7 : Int32) (M : Mem), k15 x6 x7 M = some z → V g p l e ({ frames := 3, cells := 0, slots := 0, locals := 40 * 3 } : Room) s m args below meth c 9 0 0 (MQ below (gQ g (some (.int z.1)) z.2) args s 0 0 (gA g)) 15 [(0, .ref (gAd g a0)), (1, .int i1), (2, .int i2), (3, .int i3), (4, .int i4), (5, .int i5), (6, .int x6), (7, .int x7)] [] M) (s0 : Int32) (x7 : Int32) (M : Mem)  (h : f_X11_firstOf_b60 a0 i1 i2 i3 i4 i5 k15 s0 x7 M = some z) : V g p l e ({ frames := 3, cells := 0, slots := 0, locals := 40 * 3 } : Room) s m args below meth c 9 0 0 (MQ below (gQ g (some (.int z.1)) z.2) args s 0 0 (gA g)) 60 [(0, .ref (gAd g a0)), (1, .int i1), (2, .int i2), (3, .int i3), (4, .int i4), (5, .int i5), (7, .int x7)] [.int s0] M := by
  unfold f_X11_firstOf_b60 at h
  refine v_istore (lv' := [(6, .int s0), (0, .ref (gAd g a0)), (1, .int i1), (2, .int i2), (3, .int i3), (4, .int i4), (5, .int i5), (7, .int x7)]) F dX11_firstOf_60 (by decide) rfl ?_
  refine v_iinc (v := x7 + 1) (lv' := [(7, .int (x7 + 1)), (6, .int s0), (0, .ref (gAd g a0)), (1, .int i1), (2, .int i2), (3, .int i3), (4, .int i4), (5, .int i5)]) F dX11_firstOf_62 (q := 7) rfl rfl (by decide) rfl ?_
  refine v_goto (tgt := 15) F dX11_firstOf_65 (by decide) ?_
  refine v_sub (fun ls h9 => lv_sub h9 [2, 3, 4, 5, 6, 7, 1, 0] rfl) ?_
  exact hk15 _ _ _ h
set_option maxHeartbeats 4000000 in
set_option maxRecDepth 100000 in
theorem w_X11_firstOf_b68 {g : gT} {p : Program} {l : Launch} {e : Env} {s : State} {m : MethodId} {args : Array Value} {below : List Frame} {meth : Method} {c : Code} {z : Int32 × Mem} (F : Fx g p s m args c cX11_firstOf 9 uX11_firstOf RX11) (hr : meth.sig.returnType = (some .int)) (hlk : meth.locks = false)  {a0 : Nat} {i1 : Int32} {i2 : Int32} {i3 : Int32} {i4 : Int32} {i5 : Int32} (t0 : Ty g 11 a0)   (x6 : Int32) (M : Mem)  (h : f_X11_firstOf_b68 a0 i1 i2 i3 i4 i5 x6 M = some z) : V g p l e ({ frames := 3, cells := 0, slots := 0, locals := 40 * 3 } : Room) s m args below meth c 9 0 0 (MQ below (gQ g (some (.int z.1)) z.2) args s 0 0 (gA g)) 68 [(0, .ref (gAd g a0)), (1, .int i1), (2, .int i2), (3, .int i3), (4, .int i4), (5, .int i5), (6, .int x6)] [] M := by
  unfold f_X11_firstOf_b68 at h
  refine v_aload_n F dX11_firstOf_68 rfl 0 rfl ?_
  obtain ⟨⟨r16, M17⟩, hz18, h⟩ := bd_some h
  dsimp only at h
  refine v_callVv (As := []) (rest := []) F (c_X11_laysBack l F.2.2.1 t0 hz18) (cwV 0 F.1.2.2.2.2 (gU_V ml_X11_257 im_yX11_laysBack se_yX11_laysBack ini_X11 cd_X11_laysBack) rfl rfl rfl (by decide +kernel) ⟨Nat.le_of_ble_eq_true rfl, Nat.le_of_ble_eq_true rfl⟩) t0 (by decide) rfl rfl rfl (Nat.le_of_ble_eq_true rfl) dX11_firstOf_69 ⟨Nat.le_of_ble_eq_true rfl, Nat.le_of_ble_eq_true rfl⟩ ?_
  refine v_iload F dX11_firstOf_72 6 rfl ?_
  cases h
  exact v_iret F hr rfl hlk dX11_firstOf_74
set_option maxHeartbeats 4000000 in
set_option maxRecDepth 100000 in
theorem w_X11_firstOf_h15 {g : gT} {p : Program} {l : Launch} {e : Env} {s : State} {m : MethodId} {args : Array Value} {below : List Frame} {meth : Method} {c : Code} {z : Int32 × Mem} (F : Fx g p s m args c cX11_firstOf 9 uX11_firstOf RX11) (hr : meth.sig.returnType = (some .int)) (hlk : meth.locks = false)  {a0 : Nat} {i1 : Int32} {i2 : Int32} {i3 : Int32} {i4 : Int32} {i5 : Int32} (t0 : Ty g 11 a0)   : ∀ (n : Nat) (x6 : Int32) (x7 : Int32) (M : Mem), f_X11_firstOf_h15 a0 i1 i2 i3 i4 i5 n x6 x7 M = some z → V g p l e ({ frames := 3, cells := 0, slots := 0, locals := 40 * 3 } : Room) s m args below meth c 9 0 0 (MQ below (gQ g (some (.int z.1)) z.2) args s 0 0 (gA g)) 15 [(0, .ref (gAd g a0)), (1, .int i1), (2, .int i2), (3, .int i3), (4, .int i4), (5, .int i5), (6, .int x6), (7, .int x7)] [] M := by
  intro n
  induction n with
  | zero => intro x6 x7 M; intros; rename_i h; cases h
  | succ n ih =>
    intro x6 x7 M h
    rw [f_X11_firstOf_h15] at h
    refine v_iload F dX11_firstOf_15 7 rfl ?_
    refine v_bipush (v := 60) F dX11_firstOf_17 (by decide) ?_
    refine v_icmp_gt (tgt := 68) F dX11_firstOf_19 (by decide) (fun hc5 => ?_) (fun hc5 => ?_)
    · rw [if_pos hc5] at h
      refine v_sub (fun ls h9 => lv_sub h9 [0, 1, 2, 3, 4, 5, 6] rfl) ?_
      exact w_X11_firstOf_b68 F hr hlk t0 _ _ h
    · rw [if_neg hc5] at h
      refine v_iload F dX11_firstOf_22 6 rfl ?_
      refine v_iconst (v := (-1)) F dX11_firstOf_24 (by decide) ?_
      refine v_icmp_ne (tgt := 68) F dX11_firstOf_25 (by decide) (fun hc6 => ?_) (fun hc6 => ?_)
      · rw [if_neg hc6] at h
        refine v_sub (fun ls h9 => lv_sub h9 [0, 1, 2, 3, 4, 5, 6] rfl) ?_
        exact w_X11_firstOf_b68 F hr hlk t0 _ _ h
      · rw [if_pos hc6] at h
        refine v_aload_n F dX11_firstOf_28 rfl 0 rfl ?_
        refine v_iload_n F dX11_firstOf_29 rfl 1 rfl ?_
        refine v_iload_n F dX11_firstOf_30 rfl 2 rfl ?_
        obtain ⟨⟨r7, M8⟩, hz9, h⟩ := bd_some h
        dsimp only at h
        refine v_callVv (As := [.int i1, .int i2]) (rest := []) F (c_X11_tick l F.2.2.1 t0 hz9) (cwV 2 F.1.2.2.2.2 (gU_V ml_X11_245 im_yX11_tick se_yX11_tick ini_X11 cd_X11_tick) rfl rfl rfl (by decide +kernel) ⟨Nat.le_of_ble_eq_true rfl, Nat.le_of_ble_eq_true rfl⟩) t0 (by decide) rfl rfl rfl (Nat.le_of_ble_eq_true rfl) dX11_firstOf_31 ⟨Nat.le_of_ble_eq_true rfl, Nat.le_of_ble_eq_true rfl⟩ ?_
        refine v_aload_n F dX11_firstOf_34 rfl 0 rfl ?_
        refine v_iload F dX11_firstOf_35 5 rfl ?_
        obtain ⟨⟨r11, M12⟩, hz13, h⟩ := bd_some h
        dsimp only at h
        refine v_callVi (As := [.int i5]) (rest := []) F (c_X11_isSo l F.2.2.1 t0 hz13) (cwV 1 F.1.2.2.2.2 (gU_V ml_X11_271 im_yX11_isSo se_yX11_isSo ini_X11 cd_X11_isSo) rfl rfl rfl (by decide +kernel) ⟨Nat.le_of_ble_eq_true rfl, Nat.le_of_ble_eq_true rfl⟩) t0 (by decide) rfl rfl rfl (Nat.le_of_ble_eq_true rfl) dX11_firstOf_37 ⟨Nat.le_of_ble_eq_true rfl, Nat.le_of_ble_eq_true rfl⟩ ?_
        refine v_istore (lv' := [(8, .int r11), (0, .ref (gAd g a0)), (1, .int i1), (2, .int i2), (3, .int i3), (4, .int i4), (5, .int i5), (6, .int x6), (7, .int x7)]) F dX11_firstOf_40 (by decide) rfl ?_
        refine v_iload F dX11_firstOf_42 0 rfl ?_
        refine v_iconst (v := (-1)) F dX11_firstOf_44 (by decide) ?_
        refine v_icmp_ne (tgt := 52) F dX11_firstOf_45 (by decide) (fun hc15 => ?_) (fun hc15 => ?_)
        · rw [if_neg hc15] at h
          refine v_bipush (v := 100) F dX11_firstOf_52 (by decide) ?_
          refine v_iload F dX11_firstOf_54 8 rfl ?_
          refine v_imul F dX11_firstOf_56 ?_
          refine v_iload F dX11_firstOf_57 0 rfl ?_
          refine v_iadd F dX11_firstOf_59 ?_
          refine v_sub (fun ls h9 => lv_sub h9 [1, 2, 3, 4, 5, 6, 8] rfl) ?_
          exact w_X11_firstOf_b60 F hr hlk t0 ih _ _ _ h
        · rw [if_pos hc15] at h
          refine v_iconst (v := (-1)) F dX11_firstOf_48 (by decide) ?_
          refine v_goto (tgt := 60) F dX11_firstOf_49 (by decide) ?_
          refine v_sub (fun ls h9 => lv_sub h9 [1, 2, 3, 4, 5, 6, 8] rfl) ?_
          exact w_X11_firstOf_b60 F hr hlk t0 ih _ _ _ h
set_option maxHeartbeats 4000000 in
set_option maxRecDepth 100000 in
theorem c_X11_firstOf {g : gT} (l : Launch) (hok : gOK g)  {a0 : Nat} {i1 : Int32} {i2 : Int32} {i3 : Int32} {i4 : Int32} {i5 : Int32} {M : Mem} {z : Int32 × Mem}  (t0 : Ty g 11 a0) (h : f_X11_firstOf  M a0 i1 i2 i3 i4 i5 = some z) : Cn g l yX11_firstOf uX11_firstOf 3 [.ref (gAd g a0), .int i1, .int i2, .int i3, .int i4, .int i5] M (some (.int z.1)) z.2 := by
  refine Cn.of (cc := cX11_firstOf) (maxL := 9) (ret := (some .int)) hok (by decide) rfl (Nat.le_of_ble_eq_true rfl) (fun p e s m args below meth c F hr hlk => ?_)
  unfold f_X11_firstOf at h
  show V g p l e ({ frames := 3, cells := 0, slots := 0, locals := 40 * 3 } : Room) s m args below meth c 9 0 0 (MQ below (gQ g (some (.int z.1)) z.2) args s 0 0 (gA g)) 0 [(0, .ref (gAd g a0)), (1, .int i1), (2, .int i2), (3, .int i3), (4, .int i4), (5, .int i5)] [] M
  refine v_aload_n F dX11_firstOf_0 rfl 0 rfl ?_
  refine v_iload_n F dX11_firstOf_1 rfl 3 rfl ?_
  refine v_iload F dX11_firstOf_2 4 rfl ?_
  refine v_bipush (v := 100) F dX11_firstOf_4 (by decide) ?_
  obtain ⟨⟨r1, M2⟩, hz3, h⟩ := bd_some h
  dsimp only at h
  refine v_callVv (As := [.int i3, .int i4, .int 100]) (rest := []) F (c_X11_begins l F.2.2.1 t0 hz3) (cwV 3 F.1.2.2.2.2 (gU_V ml_X11_254 im_yX11_begins se_yX11_begins ini_X11 cd_X11_begins) rfl rfl rfl (by decide +kernel) ⟨Nat.le_of_ble_eq_true rfl, Nat.le_of_ble_eq_true rfl⟩) t0 (by decide) rfl rfl rfl (Nat.le_of_ble_eq_true rfl) dX11_firstOf_6 ⟨Nat.le_of_ble_eq_true rfl, Nat.le_of_ble_eq_true rfl⟩ ?_
  refine v_iconst (v := (-1)) F dX11_firstOf_9 (by decide) ?_
  refine v_istore (lv' := [(6, .int (-1)), (0, .ref (gAd g a0)), (1, .int i1), (2, .int i2), (3, .int i3), (4, .int i4), (5, .int i5)]) F dX11_firstOf_10 (by decide) rfl ?_
  refine v_iconst (v := 1) F dX11_firstOf_12 (by decide) ?_
  refine v_istore (lv' := [(7, .int 1), (6, .int (-1)), (0, .ref (gAd g a0)), (1, .int i1), (2, .int i2), (3, .int i3), (4, .int i4), (5, .int i5)]) F dX11_firstOf_13 (by decide) rfl ?_
  refine v_sub (fun ls h9 => lv_sub h9 [2, 3, 4, 5, 6, 7, 1, 0] rfl) ?_
  exact w_X11_firstOf_h15 F hr hlk t0 _ _ _ _ h
def f_X11_first  (M : Mem) (a0 : Nat) (i1 : Int32) (i2 : Int32) (i3 : Int32) (i4 : Int32) (i5 : Int32) : Option (Int32 × Mem) := (f_X11_badTrial (mU M a0 0 0) a0 i1 i2 i3 i4).bind fun q => match q with | (r1, M2) => (if r1 = 0 then ((f_X11_firstOf M2 a0 i1 i2 i3 i4 i5).bind fun q => match q with | (r6, M7) => (if r6 = (-1) then (some ((-1), M7)) else (some (r6 / 100, M7)))) else (some (0, M2)))
set_option maxHeartbeats 4000000 in
set_option maxRecDepth 100000 in
theorem c_X11_first {g : gT} (l : Launch) (hok : gOK g)  {a0 : Nat} {i1 : Int32} {i2 : Int32} {i3 : Int32} {i4 : Int32} {i5 : Int32} {M : Mem} {z : Int32 × Mem}  (t0 : Ty g 11 a0) (h : f_X11_first  M a0 i1 i2 i3 i4 i5 = some z) : Cn g l yX11_first uX11_first 4 [.ref (gAd g a0), .int i1, .int i2, .int i3, .int i4, .int i5] M (some (.int z.1)) z.2 := by
  refine Cn.of (cc := cX11_first) (maxL := 7) (ret := (some .int)) hok (by decide) rfl (Nat.le_of_ble_eq_true rfl) (fun p e s m args below meth c F hr hlk => ?_)
  unfold f_X11_first at h
  show V g p l e ({ frames := 4, cells := 0, slots := 0, locals := 40 * 4 } : Room) s m args below meth c 7 0 0 (MQ below (gQ g (some (.int z.1)) z.2) args s 0 0 (gA g)) 0 [(0, .ref (gAd g a0)), (1, .int i1), (2, .int i2), (3, .int i3), (4, .int i4), (5, .int i5)] [] M
  refine v_aload_n F dX11_first_0 rfl 0 rfl ?_
  refine v_iconst (v := 0) F dX11_first_1 (by decide) ?_
  refine v_put (k := 0) (ty := .int) F t0 (by decide) (inc inU_11) tyX11 tyX11_ok nmX11 rfl rfl (by decide) (List.mem_cons_of_mem _ fl_X11_83) rfl rfl (by decide +kernel) rfl rfl dX11_first_2 ?_
  refine v_aload_n F dX11_first_5 rfl 0 rfl ?_
  refine v_iload_n F dX11_first_6 rfl 1 rfl ?_
  refine v_iload_n F dX11_first_7 rfl 2 rfl ?_
  refine v_iload_n F dX11_first_8 rfl 3 rfl ?_
  refine v_iload F dX11_first_9 4 rfl ?_
  obtain ⟨⟨r1, M2⟩, hz3, h⟩ := bd_some h
  dsimp only at h
  refine v_callVi (As := [.int i1, .int i2, .int i3, .int i4]) (rest := []) F (c_X11_badTrial l F.2.2.1 t0 hz3) (cwV 4 F.1.2.2.2.2 (gU_V ml_X11_260 im_yX11_badTrial se_yX11_badTrial ini_X11 cd_X11_badTrial) rfl rfl rfl (by decide +kernel) ⟨Nat.le_of_ble_eq_true rfl, Nat.le_of_ble_eq_true rfl⟩) t0 (by decide) rfl rfl rfl (Nat.le_of_ble_eq_true rfl) dX11_first_11 ⟨Nat.le_of_ble_eq_true rfl, Nat.le_of_ble_eq_true rfl⟩ ?_
  refine v_if_eq (tgt := 19) F dX11_first_14 (by decide) (fun hc5 => ?_) (fun hc5 => ?_)
  · rw [if_pos hc5] at h
    refine v_aload_n F dX11_first_19 rfl 0 rfl ?_
    refine v_iload_n F dX11_first_20 rfl 1 rfl ?_
    refine v_iload_n F dX11_first_21 rfl 2 rfl ?_
    refine v_iload_n F dX11_first_22 rfl 3 rfl ?_
    refine v_iload F dX11_first_23 4 rfl ?_
    refine v_iload F dX11_first_25 5 rfl ?_
    obtain ⟨⟨r6, M7⟩, hz8, h⟩ := bd_some h
    dsimp only at h
    refine v_callVi (As := [.int i1, .int i2, .int i3, .int i4, .int i5]) (rest := []) F (c_X11_firstOf l F.2.2.1 t0 hz8) (cwV 5 F.1.2.2.2.2 (gU_V ml_X11_275 im_yX11_firstOf se_yX11_firstOf ini_X11 cd_X11_firstOf) rfl rfl rfl (by decide +kernel) ⟨Nat.le_of_ble_eq_true rfl, Nat.le_of_ble_eq_true rfl⟩) t0 (by decide) rfl rfl rfl (Nat.le_of_ble_eq_true rfl) dX11_first_27 ⟨Nat.le_of_ble_eq_true rfl, Nat.le_of_ble_eq_true rfl⟩ ?_
    refine v_istore (lv' := [(6, .int r6), (0, .ref (gAd g a0)), (1, .int i1), (2, .int i2), (3, .int i3), (4, .int i4), (5, .int i5)]) F dX11_first_30 (by decide) rfl ?_
    refine v_iload F dX11_first_32 0 rfl ?_
    refine v_iconst (v := (-1)) F dX11_first_34 (by decide) ?_
    refine v_icmp_ne (tgt := 42) F dX11_first_35 (by decide) (fun hc10 => ?_) (fun hc10 => ?_)
    · rw [if_neg hc10] at h
      refine v_iload F dX11_first_42 0 rfl ?_
      refine v_bipush (v := 100) F dX11_first_44 (by decide) ?_
      refine v_idiv F dX11_first_46 (by decide) ?_
      cases h
      exact v_iret F hr rfl hlk dX11_first_47
    · rw [if_pos hc10] at h
      refine v_iconst (v := (-1)) F dX11_first_38 (by decide) ?_
      refine v_goto (tgt := 47) F dX11_first_39 (by decide) ?_
      cases h
      exact v_iret F hr rfl hlk dX11_first_47
  · rw [if_neg hc5] at h
    refine v_iconst (v := 0) F dX11_first_17 (by decide) ?_
    cases h
    exact v_iret F hr rfl hlk dX11_first_18
def f_X11_where  (M : Mem) (a0 : Nat) (i1 : Int32) (i2 : Int32) (i3 : Int32) (i4 : Int32) (i5 : Int32) : Option (Int32 × Mem) := (f_X11_badTrial (mU M a0 0 0) a0 i1 i2 i3 i4).bind fun q => match q with | (r1, M2) => (if r1 = 0 then ((f_X11_firstOf M2 a0 i1 i2 i3 i4 i5).bind fun q => match q with | (r6, M7) => (if r6 = (-1) then (some ((-1), M7)) else (some (r6 - r6 / 100 * 100, M7)))) else (some (0, M2)))
set_option maxHeartbeats 4000000 in
set_option maxRecDepth 100000 in
theorem c_X11_where {g : gT} (l : Launch) (hok : gOK g)  {a0 : Nat} {i1 : Int32} {i2 : Int32} {i3 : Int32} {i4 : Int32} {i5 : Int32} {M : Mem} {z : Int32 × Mem}  (t0 : Ty g 11 a0) (h : f_X11_where  M a0 i1 i2 i3 i4 i5 = some z) : Cn g l yX11_where uX11_where 4 [.ref (gAd g a0), .int i1, .int i2, .int i3, .int i4, .int i5] M (some (.int z.1)) z.2 := by
  refine Cn.of (cc := cX11_where) (maxL := 7) (ret := (some .int)) hok (by decide) rfl (Nat.le_of_ble_eq_true rfl) (fun p e s m args below meth c F hr hlk => ?_)
  unfold f_X11_where at h
  show V g p l e ({ frames := 4, cells := 0, slots := 0, locals := 40 * 4 } : Room) s m args below meth c 7 0 0 (MQ below (gQ g (some (.int z.1)) z.2) args s 0 0 (gA g)) 0 [(0, .ref (gAd g a0)), (1, .int i1), (2, .int i2), (3, .int i3), (4, .int i4), (5, .int i5)] [] M
  refine v_aload_n F dX11_where_0 rfl 0 rfl ?_
  refine v_iconst (v := 0) F dX11_where_1 (by decide) ?_
  refine v_put (k := 0) (ty := .int) F t0 (by decide) (inc inU_11) tyX11 tyX11_ok nmX11 rfl rfl (by decide) (List.mem_cons_of_mem _ fl_X11_83) rfl rfl (by decide +kernel) rfl rfl dX11_where_2 ?_
  refine v_aload_n F dX11_where_5 rfl 0 rfl ?_
  refine v_iload_n F dX11_where_6 rfl 1 rfl ?_
  refine v_iload_n F dX11_where_7 rfl 2 rfl ?_
  refine v_iload_n F dX11_where_8 rfl 3 rfl ?_
  refine v_iload F dX11_where_9 4 rfl ?_
  obtain ⟨⟨r1, M2⟩, hz3, h⟩ := bd_some h
  dsimp only at h
  refine v_callVi (As := [.int i1, .int i2, .int i3, .int i4]) (rest := []) F (c_X11_badTrial l F.2.2.1 t0 hz3) (cwV 4 F.1.2.2.2.2 (gU_V ml_X11_260 im_yX11_badTrial se_yX11_badTrial ini_X11 cd_X11_badTrial) rfl rfl rfl (by decide +kernel) ⟨Nat.le_of_ble_eq_true rfl, Nat.le_of_ble_eq_true rfl⟩) t0 (by decide) rfl rfl rfl (Nat.le_of_ble_eq_true rfl) dX11_where_11 ⟨Nat.le_of_ble_eq_true rfl, Nat.le_of_ble_eq_true rfl⟩ ?_
  refine v_if_eq (tgt := 19) F dX11_where_14 (by decide) (fun hc5 => ?_) (fun hc5 => ?_)
  · rw [if_pos hc5] at h
    refine v_aload_n F dX11_where_19 rfl 0 rfl ?_
    refine v_iload_n F dX11_where_20 rfl 1 rfl ?_
    refine v_iload_n F dX11_where_21 rfl 2 rfl ?_
    refine v_iload_n F dX11_where_22 rfl 3 rfl ?_
    refine v_iload F dX11_where_23 4 rfl ?_
    refine v_iload F dX11_where_25 5 rfl ?_
    obtain ⟨⟨r6, M7⟩, hz8, h⟩ := bd_some h
    dsimp only at h
    refine v_callVi (As := [.int i1, .int i2, .int i3, .int i4, .int i5]) (rest := []) F (c_X11_firstOf l F.2.2.1 t0 hz8) (cwV 5 F.1.2.2.2.2 (gU_V ml_X11_275 im_yX11_firstOf se_yX11_firstOf ini_X11 cd_X11_firstOf) rfl rfl rfl (by decide +kernel) ⟨Nat.le_of_ble_eq_true rfl, Nat.le_of_ble_eq_true rfl⟩) t0 (by decide) rfl rfl rfl (Nat.le_of_ble_eq_true rfl) dX11_where_27 ⟨Nat.le_of_ble_eq_true rfl, Nat.le_of_ble_eq_true rfl⟩ ?_
    refine v_istore (lv' := [(6, .int r6), (0, .ref (gAd g a0)), (1, .int i1), (2, .int i2), (3, .int i3), (4, .int i4), (5, .int i5)]) F dX11_where_30 (by decide) rfl ?_
    refine v_iload F dX11_where_32 0 rfl ?_
    refine v_iconst (v := (-1)) F dX11_where_34 (by decide) ?_
    refine v_icmp_ne (tgt := 42) F dX11_where_35 (by decide) (fun hc10 => ?_) (fun hc10 => ?_)
    · rw [if_neg hc10] at h
      refine v_iload F dX11_where_42 0 rfl ?_
      refine v_bipush (v := 100) F dX11_where_44 (by decide) ?_
      refine v_irem F dX11_where_46 (by decide) ?_
      cases h
      exact v_iret F hr rfl hlk dX11_where_47
    · rw [if_pos hc10] at h
      refine v_iconst (v := (-1)) F dX11_where_38 (by decide) ?_
      refine v_goto (tgt := 47) F dX11_where_39 (by decide) ?_
      cases h
      exact v_iret F hr rfl hlk dX11_where_47
  · rw [if_neg hc5] at h
    refine v_iconst (v := 0) F dX11_where_17 (by decide) ?_
    cases h
    exact v_iret F hr rfl hlk dX11_where_18
def f_X11_film_b65 (a0 : Nat) (i1 : Int32) (i2 : Int32) (i3 : Int32) (i4 : Int32)  (s0 : Nat) (s1 : Int32) (M : Mem) : Option (Int32 × Mem) := (f_X11_bad M s0 s1 2).bind fun q => match q with | (r26, M27) => (if r26 = 0 then (if (M27 a0 31) = 20 then (some ((-1), M27)) else (if ¬ ((M27 a0 31) < 0 ∨ gN (gRf a0 36) ≤ (M27 a0 31 : Int32).toNatClampNeg) then (if ¬ ((0 : Int32) < 0 ∨ gN (gRf (gRf a0 36) (M27 a0 31 : Int32).toNatClampNeg) ≤ (0 : Int32).toNatClampNeg) then (if ¬ (((mU M27 (gRf (gRf a0 36) (M27 a0 31 : Int32).toNatClampNeg) (0 : Int32).toNatClampNeg i1) a0 31) < 0 ∨ gN (gRf a0 36) ≤ ((mU M27 (gRf (gRf a0 36) (M27 a0 31 : Int32).toNatClampNeg) (0 : Int32).toNatClampNeg i1) a0 31 : Int32).toNatClampNeg) then (if ¬ ((1 : Int32) < 0 ∨ gN (gRf (gRf a0 36) ((mU M27 (gRf (gRf a0 36) (M27 a0 31 : Int32).toNatClampNeg) (0 : Int32).toNatClampNeg i1) a0 31 : Int32).toNatClampNeg) ≤ (1 : Int32).toNatClampNeg) then (if ¬ (((mU (mU M27 (gRf (gRf a0 36) (M27 a0 31 : Int32).toNatClampNeg) (0 : Int32).toNatClampNeg i1) (gRf (gRf a0 36) ((mU M27 (gRf (gRf a0 36) (M27 a0 31 : Int32).toNatClampNeg) (0 : Int32).toNatClampNeg i1) a0 31 : Int32).toNatClampNeg) (1 : Int32).toNatClampNeg i2) a0 31) < 0 ∨ gN (gRf a0 36) ≤ ((mU (mU M27 (gRf (gRf a0 36) (M27 a0 31 : Int32).toNatClampNeg) (0 : Int32).toNatClampNeg i1) (gRf (gRf a0 36) ((mU M27 (gRf (gRf a0 36) (M27 a0 31 : Int32).toNatClampNeg) (0 : Int32).toNatClampNeg i1) a0 31 : Int32).toNatClampNeg) (1 : Int32).toNatClampNeg i2) a0 31 : Int32).toNatClampNeg) then (if ¬ ((2 : Int32) < 0 ∨ gN (gRf (gRf a0 36) ((mU (mU M27 (gRf (gRf a0 36) (M27 a0 31 : Int32).toNatClampNeg) (0 : Int32).toNatClampNeg i1) (gRf (gRf a0 36) ((mU M27 (gRf (gRf a0 36) (M27 a0 31 : Int32).toNatClampNeg) (0 : Int32).toNatClampNeg i1) a0 31 : Int32).toNatClampNeg) (1 : Int32).toNatClampNeg i2) a0 31 : Int32).toNatClampNeg) ≤ (2 : Int32).toNatClampNeg) then (if ¬ (((mU (mU (mU M27 (gRf (gRf a0 36) (M27 a0 31 : Int32).toNatClampNeg) (0 : Int32).toNatClampNeg i1) (gRf (gRf a0 36) ((mU M27 (gRf (gRf a0 36) (M27 a0 31 : Int32).toNatClampNeg) (0 : Int32).toNatClampNeg i1) a0 31 : Int32).toNatClampNeg) (1 : Int32).toNatClampNeg i2) (gRf (gRf a0 36) ((mU (mU M27 (gRf (gRf a0 36) (M27 a0 31 : Int32).toNatClampNeg) (0 : Int32).toNatClampNeg i1) (gRf (gRf a0 36) ((mU M27 (gRf (gRf a0 36) (M27 a0 31 : Int32).toNatClampNeg) (0 : Int32).toNatClampNeg i1) a0 31 : Int32).toNatClampNeg) (1 : Int32).toNatClampNeg i2) a0 31 : Int32).toNatClampNeg) (2 : Int32).toNatClampNeg i3) a0 31) < 0 ∨ gN (gRf a0 36) ≤ ((mU (mU (mU M27 (gRf (gRf a0 36) (M27 a0 31 : Int32).toNatClampNeg) (0 : Int32).toNatClampNeg i1) (gRf (gRf a0 36) ((mU M27 (gRf (gRf a0 36) (M27 a0 31 : Int32).toNatClampNeg) (0 : Int32).toNatClampNeg i1) a0 31 : Int32).toNatClampNeg) (1 : Int32).toNatClampNeg i2) (gRf (gRf a0 36) ((mU (mU M27 (gRf (gRf a0 36) (M27 a0 31 : Int32).toNatClampNeg) (0 : Int32).toNatClampNeg i1) (gRf (gRf a0 36) ((mU M27 (gRf (gRf a0 36) (M27 a0 31 : Int32).toNatClampNeg) (0 : Int32).toNatClampNeg i1) a0 31 : Int32).toNatClampNeg) (1 : Int32).toNatClampNeg i2) a0 31 : Int32).toNatClampNeg) (2 : Int32).toNatClampNeg i3) a0 31 : Int32).toNatClampNeg) then (if ¬ ((3 : Int32) < 0 ∨ gN (gRf (gRf a0 36) ((mU (mU (mU M27 (gRf (gRf a0 36) (M27 a0 31 : Int32).toNatClampNeg) (0 : Int32).toNatClampNeg i1) (gRf (gRf a0 36) ((mU M27 (gRf (gRf a0 36) (M27 a0 31 : Int32).toNatClampNeg) (0 : Int32).toNatClampNeg i1) a0 31 : Int32).toNatClampNeg) (1 : Int32).toNatClampNeg i2) (gRf (gRf a0 36) ((mU (mU M27 (gRf (gRf a0 36) (M27 a0 31 : Int32).toNatClampNeg) (0 : Int32).toNatClampNeg i1) (gRf (gRf a0 36) ((mU M27 (gRf (gRf a0 36) (M27 a0 31 : Int32).toNatClampNeg) (0 : Int32).toNatClampNeg i1) a0 31 : Int32).toNatClampNeg) (1 : Int32).toNatClampNeg i2) a0 31 : Int32).toNatClampNeg) (2 : Int32).toNatClampNeg i3) a0 31 : Int32).toNatClampNeg) ≤ (3 : Int32).toNatClampNeg) then (some ((mU (mU (mU (mU (mU M27 (gRf (gRf a0 36) (M27 a0 31 : Int32).toNatClampNeg) (0 : Int32).toNatClampNeg i1) (gRf (gRf a0 36) ((mU M27 (gRf (gRf a0 36) (M27 a0 31 : Int32).toNatClampNeg) (0 : Int32).toNatClampNeg i1) a0 31 : Int32).toNatClampNeg) (1 : Int32).toNatClampNeg i2) (gRf (gRf a0 36) ((mU (mU M27 (gRf (gRf a0 36) (M27 a0 31 : Int32).toNatClampNeg) (0 : Int32).toNatClampNeg i1) (gRf (gRf a0 36) ((mU M27 (gRf (gRf a0 36) (M27 a0 31 : Int32).toNatClampNeg) (0 : Int32).toNatClampNeg i1) a0 31 : Int32).toNatClampNeg) (1 : Int32).toNatClampNeg i2) a0 31 : Int32).toNatClampNeg) (2 : Int32).toNatClampNeg i3) (gRf (gRf a0 36) ((mU (mU (mU M27 (gRf (gRf a0 36) (M27 a0 31 : Int32).toNatClampNeg) (0 : Int32).toNatClampNeg i1) (gRf (gRf a0 36) ((mU M27 (gRf (gRf a0 36) (M27 a0 31 : Int32).toNatClampNeg) (0 : Int32).toNatClampNeg i1) a0 31 : Int32).toNatClampNeg) (1 : Int32).toNatClampNeg i2) (gRf (gRf a0 36) ((mU (mU M27 (gRf (gRf a0 36) (M27 a0 31 : Int32).toNatClampNeg) (0 : Int32).toNatClampNeg i1) (gRf (gRf a0 36) ((mU M27 (gRf (gRf a0 36) (M27 a0 31 : Int32).toNatClampNeg) (0 : Int32).toNatClampNeg i1) a0 31 : Int32).toNatClampNeg) (1 : Int32).toNatClampNeg i2) a0 31 : Int32).toNatClampNeg) (2 : Int32).toNatClampNeg i3) a0 31 : Int32).toNatClampNeg) (3 : Int32).toNatClampNeg i4) a0 31 (((mU (mU (mU (mU M27 (gRf (gRf a0 36) (M27 a0 31 : Int32).toNatClampNeg) (0 : Int32).toNatClampNeg i1) (gRf (gRf a0 36) ((mU M27 (gRf (gRf a0 36) (M27 a0 31 : Int32).toNatClampNeg) (0 : Int32).toNatClampNeg i1) a0 31 : Int32).toNatClampNeg) (1 : Int32).toNatClampNeg i2) (gRf (gRf a0 36) ((mU (mU M27 (gRf (gRf a0 36) (M27 a0 31 : Int32).toNatClampNeg) (0 : Int32).toNatClampNeg i1) (gRf (gRf a0 36) ((mU M27 (gRf (gRf a0 36) (M27 a0 31 : Int32).toNatClampNeg) (0 : Int32).toNatClampNeg i1) a0 31 : Int32).toNatClampNeg) (1 : Int32).toNatClampNeg i2) a0 31 : Int32).toNatClampNeg) (2 : Int32).toNatClampNeg i3) (gRf (gRf a0 36) ((mU (mU (mU M27 (gRf (gRf a0 36) (M27 a0 31 : Int32).toNatClampNeg) (0 : Int32).toNatClampNeg i1) (gRf (gRf a0 36) ((mU M27 (gRf (gRf a0 36) (M27 a0 31 : Int32).toNatClampNeg) (0 : Int32).toNatClampNeg i1) a0 31 : Int32).toNatClampNeg) (1 : Int32).toNatClampNeg i2) (gRf (gRf a0 36) ((mU (mU M27 (gRf (gRf a0 36) (M27 a0 31 : Int32).toNatClampNeg) (0 : Int32).toNatClampNeg i1) (gRf (gRf a0 36) ((mU M27 (gRf (gRf a0 36) (M27 a0 31 : Int32).toNatClampNeg) (0 : Int32).toNatClampNeg i1) a0 31 : Int32).toNatClampNeg) (1 : Int32).toNatClampNeg i2) a0 31 : Int32).toNatClampNeg) (2 : Int32).toNatClampNeg i3) a0 31 : Int32).toNatClampNeg) (3 : Int32).toNatClampNeg i4) a0 31) + 1)) a0 31, (mU (mU (mU (mU (mU M27 (gRf (gRf a0 36) (M27 a0 31 : Int32).toNatClampNeg) (0 : Int32).toNatClampNeg i1) (gRf (gRf a0 36) ((mU M27 (gRf (gRf a0 36) (M27 a0 31 : Int32).toNatClampNeg) (0 : Int32).toNatClampNeg i1) a0 31 : Int32).toNatClampNeg) (1 : Int32).toNatClampNeg i2) (gRf (gRf a0 36) ((mU (mU M27 (gRf (gRf a0 36) (M27 a0 31 : Int32).toNatClampNeg) (0 : Int32).toNatClampNeg i1) (gRf (gRf a0 36) ((mU M27 (gRf (gRf a0 36) (M27 a0 31 : Int32).toNatClampNeg) (0 : Int32).toNatClampNeg i1) a0 31 : Int32).toNatClampNeg) (1 : Int32).toNatClampNeg i2) a0 31 : Int32).toNatClampNeg) (2 : Int32).toNatClampNeg i3) (gRf (gRf a0 36) ((mU (mU (mU M27 (gRf (gRf a0 36) (M27 a0 31 : Int32).toNatClampNeg) (0 : Int32).toNatClampNeg i1) (gRf (gRf a0 36) ((mU M27 (gRf (gRf a0 36) (M27 a0 31 : Int32).toNatClampNeg) (0 : Int32).toNatClampNeg i1) a0 31 : Int32).toNatClampNeg) (1 : Int32).toNatClampNeg i2) (gRf (gRf a0 36) ((mU (mU M27 (gRf (gRf a0 36) (M27 a0 31 : Int32).toNatClampNeg) (0 : Int32).toNatClampNeg i1) (gRf (gRf a0 36) ((mU M27 (gRf (gRf a0 36) (M27 a0 31 : Int32).toNatClampNeg) (0 : Int32).toNatClampNeg i1) a0 31 : Int32).toNatClampNeg) (1 : Int32).toNatClampNeg i2) a0 31 : Int32).toNatClampNeg) (2 : Int32).toNatClampNeg i3) a0 31 : Int32).toNatClampNeg) (3 : Int32).toNatClampNeg i4) a0 31 (((mU (mU (mU (mU M27 (gRf (gRf a0 36) (M27 a0 31 : Int32).toNatClampNeg) (0 : Int32).toNatClampNeg i1) (gRf (gRf a0 36) ((mU M27 (gRf (gRf a0 36) (M27 a0 31 : Int32).toNatClampNeg) (0 : Int32).toNatClampNeg i1) a0 31 : Int32).toNatClampNeg) (1 : Int32).toNatClampNeg i2) (gRf (gRf a0 36) ((mU (mU M27 (gRf (gRf a0 36) (M27 a0 31 : Int32).toNatClampNeg) (0 : Int32).toNatClampNeg i1) (gRf (gRf a0 36) ((mU M27 (gRf (gRf a0 36) (M27 a0 31 : Int32).toNatClampNeg) (0 : Int32).toNatClampNeg i1) a0 31 : Int32).toNatClampNeg) (1 : Int32).toNatClampNeg i2) a0 31 : Int32).toNatClampNeg) (2 : Int32).toNatClampNeg i3) (gRf (gRf a0 36) ((mU (mU (mU M27 (gRf (gRf a0 36) (M27 a0 31 : Int32).toNatClampNeg) (0 : Int32).toNatClampNeg i1) (gRf (gRf a0 36) ((mU M27 (gRf (gRf a0 36) (M27 a0 31 : Int32).toNatClampNeg) (0 : Int32).toNatClampNeg i1) a0 31 : Int32).toNatClampNeg) (1 : Int32).toNatClampNeg i2) (gRf (gRf a0 36) ((mU (mU M27 (gRf (gRf a0 36) (M27 a0 31 : Int32).toNatClampNeg) (0 : Int32).toNatClampNeg i1) (gRf (gRf a0 36) ((mU M27 (gRf (gRf a0 36) (M27 a0 31 : Int32).toNatClampNeg) (0 : Int32).toNatClampNeg i1) a0 31 : Int32).toNatClampNeg) (1 : Int32).toNatClampNeg i2) a0 31 : Int32).toNatClampNeg) (2 : Int32).toNatClampNeg i3) a0 31 : Int32).toNatClampNeg) (3 : Int32).toNatClampNeg i4) a0 31) + 1)))) else none) else none) else none) else none) else none) else none) else none) else none)) else (some (0, M27)))
def f_X11_film_b60 (a0 : Nat) (i1 : Int32) (i2 : Int32) (i3 : Int32) (i4 : Int32)  (s0 : Nat) (M : Mem) : Option (Int32 × Mem) := f_X11_film_b65 a0 i1 i2 i3 i4 s0 1 M
def f_X11_film_b19 (a0 : Nat) (i1 : Int32) (i2 : Int32) (i3 : Int32) (i4 : Int32)  (s0 : Nat) (s1 : Int32) (M : Mem) : Option (Int32 × Mem) := (f_X11_bad M s0 s1 1).bind fun q => match q with | (r6, M7) => (if r6 = 0 then ((f_X11_in M7 i1 1 100).bind fun q => match q with | (r11, M12) => (if r11 = 0 then (f_X11_film_b60 a0 i1 i2 i3 i4 a0 M12) else ((f_X11_in M12 i3 (-1000000) 1000000).bind fun q => match q with | (r16, M17) => (if r16 = 0 then (f_X11_film_b60 a0 i1 i2 i3 i4 a0 M17) else ((f_X11_in M17 i4 (-1000000) 1000000).bind fun q => match q with | (r21, M22) => (if r21 = 0 then (f_X11_film_b60 a0 i1 i2 i3 i4 a0 M22) else (f_X11_film_b65 a0 i1 i2 i3 i4 a0 0 M22))))))) else (some (0, M7)))
def f_X11_film  (M : Mem) (a0 : Nat) (i1 : Int32) (i2 : Int32) (i3 : Int32) (i4 : Int32) : Option (Int32 × Mem) := (f_X11_isPiece (mU M a0 0 0) a0 i2).bind fun q => match q with | (r1, M2) => (if r1 = 0 then (f_X11_film_b19 a0 i1 i2 i3 i4 a0 1 M2) else (f_X11_film_b19 a0 i1 i2 i3 i4 a0 0 M2))
set_option maxHeartbeats 4000000 in
set_option maxRecDepth 100000 in
theorem w_X11_film_b65 {g : gT} {p : Program} {l : Launch} {e : Env} {s : State} {m : MethodId} {args : Array Value} {below : List Frame} {meth : Method} {c : Code} {z : Int32 × Mem} (F : Fx g p s m args c cX11_film 5 uX11_film RX11) (hr : meth.sig.returnType = (some .int)) (hlk : meth.locks = false)  {a0 : Nat} {i1 : Int32} {i2 : Int32} {i3 : Int32} {i4 : Int32} (t0 : Ty g 11 a0)   (s0 : Nat) (s1 : Int32) (M : Mem) (ts0 : Ty g 11 s0) (h : f_X11_film_b65 a0 i1 i2 i3 i4 s0 s1 M = some z) : V g p l e ({ frames := 2, cells := 0, slots := 0, locals := 40 * 2 } : Room) s m args below meth c 5 0 0 (MQ below (gQ g (some (.int z.1)) z.2) args s 0 0 (gA g)) 65 [(0, .ref (gAd g a0)), (1, .int i1), (2, .int i2), (3, .int i3), (4, .int i4)] [.int s1, .ref (gAd g s0)] M := by
  unfold f_X11_film_b65 at h
  refine v_iconst (v := 2) F dX11_film_65 (by decide) ?_
  obtain ⟨⟨r26, M27⟩, hz28, h⟩ := bd_some h
  dsimp only at h
  refine v_callVi (As := [.int s1, .int 2]) (rest := []) F (c_X11_bad l F.2.2.1 ts0 hz28) (cwV 2 F.1.2.2.2.2 (gU_V ml_X11_176 im_yX11_bad se_yX11_bad ini_X11 cd_X11_bad) rfl rfl rfl (by decide +kernel) ⟨Nat.le_of_ble_eq_true rfl, Nat.le_of_ble_eq_true rfl⟩) ts0 (by decide) rfl rfl rfl (Nat.le_of_ble_eq_true rfl) dX11_film_66 ⟨Nat.le_of_ble_eq_true rfl, Nat.le_of_ble_eq_true rfl⟩ ?_
  refine v_if_eq (tgt := 74) F dX11_film_69 (by decide) (fun hc30 => ?_) (fun hc30 => ?_)
  · rw [if_pos hc30] at h
    refine v_aload_n F dX11_film_74 rfl 0 rfl ?_
    refine v_getI (k := 31) F t0 (by decide) (inc inU_11) rfl rfl (by decide) (List.mem_cons_of_mem _ fl_X11_279) rfl dX11_film_75 ?_
    refine v_bipush (v := 20) F dX11_film_78 (by decide) ?_
    refine v_icmp_ne (tgt := 85) F dX11_film_80 (by decide) (fun hc31 => ?_) (fun hc31 => ?_)
    · rw [if_neg hc31] at h
      refine v_aload_n F dX11_film_85 rfl 0 rfl ?_
      refine v_getR (k := 36) (f := 16) F t0 (by decide) (inc inU_11) rfl rfl (by decide) (by decide) (List.mem_cons_of_mem _ fl_X11_68) rfl dX11_film_86 (fun u32 => ?_)
      refine v_aload_n F dX11_film_89 rfl 0 rfl ?_
      refine v_getI (k := 31) F t0 (by decide) (inc inU_11) rfl rfl (by decide) (List.mem_cons_of_mem _ fl_X11_279) rfl dX11_film_90 ?_
      obtain ⟨hin33, h⟩ := gd_some h
      refine v_aald (ke := 12) (t0 := 4) F u32 (by decide) rfl rfl hin33 dX11_film_93 (fun u34 => ?_)
      refine v_iconst (v := 0) F dX11_film_94 (by decide) ?_
      refine v_iload_n F dX11_film_95 rfl 1 rfl ?_
      obtain ⟨hin35, h⟩ := gd_some h
      refine v_iast F u34 hin35 dX11_film_96 ?_
      refine v_aload_n F dX11_film_97 rfl 0 rfl ?_
      refine v_getR (k := 36) (f := 16) F t0 (by decide) (inc inU_11) rfl rfl (by decide) (by decide) (List.mem_cons_of_mem _ fl_X11_68) rfl dX11_film_98 (fun u36 => ?_)
      refine v_aload_n F dX11_film_101 rfl 0 rfl ?_
      refine v_getI (k := 31) F t0 (by decide) (inc inU_11) rfl rfl (by decide) (List.mem_cons_of_mem _ fl_X11_279) rfl dX11_film_102 ?_
      obtain ⟨hin37, h⟩ := gd_some h
      refine v_aald (ke := 12) (t0 := 4) F u36 (by decide) rfl rfl hin37 dX11_film_105 (fun u38 => ?_)
      refine v_iconst (v := 1) F dX11_film_106 (by decide) ?_
      refine v_iload_n F dX11_film_107 rfl 2 rfl ?_
      obtain ⟨hin39, h⟩ := gd_some h
      refine v_iast F u38 hin39 dX11_film_108 ?_
      refine v_aload_n F dX11_film_109 rfl 0 rfl ?_
      refine v_getR (k := 36) (f := 16) F t0 (by decide) (inc inU_11) rfl rfl (by decide) (by decide) (List.mem_cons_of_mem _ fl_X11_68) rfl dX11_film_110 (fun u40 => ?_)
      refine v_aload_n F dX11_film_113 rfl 0 rfl ?_
      refine v_getI (k := 31) F t0 (by decide) (inc inU_11) rfl rfl (by decide) (List.mem_cons_of_mem _ fl_X11_279) rfl dX11_film_114 ?_
      obtain ⟨hin41, h⟩ := gd_some h
      refine v_aald (ke := 12) (t0 := 4) F u40 (by decide) rfl rfl hin41 dX11_film_117 (fun u42 => ?_)
      refine v_iconst (v := 2) F dX11_film_118 (by decide) ?_
      refine v_iload_n F dX11_film_119 rfl 3 rfl ?_
      obtain ⟨hin43, h⟩ := gd_some h
      refine v_iast F u42 hin43 dX11_film_120 ?_
      refine v_aload_n F dX11_film_121 rfl 0 rfl ?_
      refine v_getR (k := 36) (f := 16) F t0 (by decide) (inc inU_11) rfl rfl (by decide) (by decide) (List.mem_cons_of_mem _ fl_X11_68) rfl dX11_film_122 (fun u44 => ?_)
      refine v_aload_n F dX11_film_125 rfl 0 rfl ?_
      refine v_getI (k := 31) F t0 (by decide) (inc inU_11) rfl rfl (by decide) (List.mem_cons_of_mem _ fl_X11_279) rfl dX11_film_126 ?_
      obtain ⟨hin45, h⟩ := gd_some h
      refine v_aald (ke := 12) (t0 := 4) F u44 (by decide) rfl rfl hin45 dX11_film_129 (fun u46 => ?_)
      refine v_iconst (v := 3) F dX11_film_130 (by decide) ?_
      refine v_iload F dX11_film_131 4 rfl ?_
      obtain ⟨hin47, h⟩ := gd_some h
      refine v_iast F u46 hin47 dX11_film_133 ?_
      refine v_aload_n F dX11_film_134 rfl 0 rfl ?_
      refine v_dup F dX11_film_135 rfl ?_
      refine v_getI (k := 31) F t0 (by decide) (inc inU_11) rfl rfl (by decide) (List.mem_cons_of_mem _ fl_X11_279) rfl dX11_film_136 ?_
      refine v_iconst (v := 1) F dX11_film_139 (by decide) ?_
      refine v_iadd F dX11_film_140 ?_
      refine v_put (k := 31) (ty := .int) F t0 (by decide) (inc inU_11) tyX11 tyX11_ok nmX11 rfl rfl (by decide) (List.mem_cons_of_mem _ fl_X11_279) rfl rfl (by decide +kernel) rfl rfl dX11_film_141 ?_
      refine v_aload_n F dX11_film_144 rfl 0 rfl ?_
      refine v_getI (k := 31) F t0 (by decide) (inc inU_11) rfl rfl (by decide) (List.mem_cons_of_mem _ fl_X11_279) rfl dX11_film_145 ?_
      cases h
      exact v_iret F hr rfl hlk dX11_film_148
    · rw [if_pos hc31] at h
      refine v_iconst (v := (-1)) F dX11_film_83 (by decide) ?_
      cases h
      exact v_iret F hr rfl hlk dX11_film_84
  · rw [if_neg hc30] at h
    refine v_iconst (v := 0) F dX11_film_72 (by decide) ?_
    cases h
    exact v_iret F hr rfl hlk dX11_film_73
set_option maxHeartbeats 4000000 in
set_option maxRecDepth 100000 in
theorem w_X11_film_b60 {g : gT} {p : Program} {l : Launch} {e : Env} {s : State} {m : MethodId} {args : Array Value} {below : List Frame} {meth : Method} {c : Code} {z : Int32 × Mem} (F : Fx g p s m args c cX11_film 5 uX11_film RX11) (hr : meth.sig.returnType = (some .int)) (hlk : meth.locks = false)  {a0 : Nat} {i1 : Int32} {i2 : Int32} {i3 : Int32} {i4 : Int32} (t0 : Ty g 11 a0)   (s0 : Nat) (M : Mem) (ts0 : Ty g 11 s0) (h : f_X11_film_b60 a0 i1 i2 i3 i4 s0 M = some z) : V g p l e ({ frames := 2, cells := 0, slots := 0, locals := 40 * 2 } : Room) s m args below meth c 5 0 0 (MQ below (gQ g (some (.int z.1)) z.2) args s 0 0 (gA g)) 60 [(0, .ref (gAd g a0)), (1, .int i1), (2, .int i2), (3, .int i3), (4, .int i4)] [.ref (gAd g s0)] M := by
  unfold f_X11_film_b60 at h
  refine v_iconst (v := 1) F dX11_film_60 (by decide) ?_
  refine v_goto (tgt := 65) F dX11_film_61 (by decide) ?_
  exact w_X11_film_b65 F hr hlk t0 _ _ _ ts0 h
set_option maxHeartbeats 4000000 in
set_option maxRecDepth 100000 in
theorem w_X11_film_b19 {g : gT} {p : Program} {l : Launch} {e : Env} {s : State} {m : MethodId} {args : Array Value} {below : List Frame} {meth : Method} {c : Code} {z : Int32 × Mem} (F : Fx g p s m args c cX11_film 5 uX11_film RX11) (hr : meth.sig.returnType = (some .int)) (hlk : meth.locks = false)  {a0 : Nat} {i1 : Int32} {i2 : Int32} {i3 : Int32} {i4 : Int32} (t0 : Ty g 11 a0)   (s0 : Nat) (s1 : Int32) (M : Mem) (ts0 : Ty g 11 s0) (h : f_X11_film_b19 a0 i1 i2 i3 i4 s0 s1 M = some z) : V g p l e ({ frames := 2, cells := 0, slots := 0, locals := 40 * 2 } : Room) s m args below meth c 5 0 0 (MQ below (gQ g (some (.int z.1)) z.2) args s 0 0 (gA g)) 19 [(0, .ref (gAd g a0)), (1, .int i1), (2, .int i2), (3, .int i3), (4, .int i4)] [.int s1, .ref (gAd g s0)] M := by
  unfold f_X11_film_b19 at h
  refine v_iconst (v := 1) F dX11_film_19 (by decide) ?_
  obtain ⟨⟨r6, M7⟩, hz8, h⟩ := bd_some h
  dsimp only at h
  refine v_callVi (As := [.int s1, .int 1]) (rest := []) F (c_X11_bad l F.2.2.1 ts0 hz8) (cwV 2 F.1.2.2.2.2 (gU_V ml_X11_176 im_yX11_bad se_yX11_bad ini_X11 cd_X11_bad) rfl rfl rfl (by decide +kernel) ⟨Nat.le_of_ble_eq_true rfl, Nat.le_of_ble_eq_true rfl⟩) ts0 (by decide) rfl rfl rfl (Nat.le_of_ble_eq_true rfl) dX11_film_20 ⟨Nat.le_of_ble_eq_true rfl, Nat.le_of_ble_eq_true rfl⟩ ?_
  refine v_if_ne (tgt := 72) F dX11_film_23 (by decide) (fun hc10 => ?_) (fun hc10 => ?_)
  · rw [if_neg hc10] at h
    refine v_iconst (v := 0) F dX11_film_72 (by decide) ?_
    cases h
    exact v_iret F hr rfl hlk dX11_film_73
  · rw [if_pos hc10] at h
    refine v_aload_n F dX11_film_26 rfl 0 rfl ?_
    refine v_iload_n F dX11_film_27 rfl 1 rfl ?_
    refine v_iconst (v := 1) F dX11_film_28 (by decide) ?_
    refine v_bipush (v := 100) F dX11_film_29 (by decide) ?_
    obtain ⟨⟨r11, M12⟩, hz13, h⟩ := bd_some h
    dsimp only at h
    refine v_callSi (As := [.int i1, .int 1, .int 100]) (rest := [.ref (gAd g a0)]) F (c_X11_in l F.2.2.1  hz13) (cwS 3 F.1.2.2.2.2 (gU_S ml_X11_172 st_yX11_in ini_X11 cd_X11_in) rfl rfl rfl (by decide +kernel) ⟨Nat.le_of_ble_eq_true rfl, Nat.le_of_ble_eq_true rfl⟩) rfl rfl (Nat.le_of_ble_eq_true rfl) dX11_film_31 ⟨Nat.le_of_ble_eq_true rfl, Nat.le_of_ble_eq_true rfl⟩ ?_
    refine v_if_eq (tgt := 60) F dX11_film_34 (by decide) (fun hc15 => ?_) (fun hc15 => ?_)
    · rw [if_pos hc15] at h
      exact w_X11_film_b60 F hr hlk t0 _ _ t0 h
    · rw [if_neg hc15] at h
      refine v_iload_n F dX11_film_37 rfl 3 rfl ?_
      refine v_ldc (v := (-1000000)) F (F.1.2.2.2.2 _ (List.mem_cons_of_mem _ cn_X11_240)) dX11_film_38 ?_
      refine v_ldc (v := 1000000) F (F.1.2.2.2.2 _ (List.mem_cons_of_mem _ cn_X11_241)) dX11_film_40 ?_
      obtain ⟨⟨r16, M17⟩, hz18, h⟩ := bd_some h
      dsimp only at h
      refine v_callSi (As := [.int i3, .int (-1000000), .int 1000000]) (rest := [.ref (gAd g a0)]) F (c_X11_in l F.2.2.1  hz18) (cwS 3 F.1.2.2.2.2 (gU_S ml_X11_172 st_yX11_in ini_X11 cd_X11_in) rfl rfl rfl (by decide +kernel) ⟨Nat.le_of_ble_eq_true rfl, Nat.le_of_ble_eq_true rfl⟩) rfl rfl (Nat.le_of_ble_eq_true rfl) dX11_film_42 ⟨Nat.le_of_ble_eq_true rfl, Nat.le_of_ble_eq_true rfl⟩ ?_
      refine v_if_eq (tgt := 60) F dX11_film_45 (by decide) (fun hc20 => ?_) (fun hc20 => ?_)
      · rw [if_pos hc20] at h
        exact w_X11_film_b60 F hr hlk t0 _ _ t0 h
      · rw [if_neg hc20] at h
        refine v_iload F dX11_film_48 4 rfl ?_
        refine v_ldc (v := (-1000000)) F (F.1.2.2.2.2 _ (List.mem_cons_of_mem _ cn_X11_240)) dX11_film_50 ?_
        refine v_ldc (v := 1000000) F (F.1.2.2.2.2 _ (List.mem_cons_of_mem _ cn_X11_241)) dX11_film_52 ?_
        obtain ⟨⟨r21, M22⟩, hz23, h⟩ := bd_some h
        dsimp only at h
        refine v_callSi (As := [.int i4, .int (-1000000), .int 1000000]) (rest := [.ref (gAd g a0)]) F (c_X11_in l F.2.2.1  hz23) (cwS 3 F.1.2.2.2.2 (gU_S ml_X11_172 st_yX11_in ini_X11 cd_X11_in) rfl rfl rfl (by decide +kernel) ⟨Nat.le_of_ble_eq_true rfl, Nat.le_of_ble_eq_true rfl⟩) rfl rfl (Nat.le_of_ble_eq_true rfl) dX11_film_54 ⟨Nat.le_of_ble_eq_true rfl, Nat.le_of_ble_eq_true rfl⟩ ?_
        refine v_if_ne (tgt := 64) F dX11_film_57 (by decide) (fun hc25 => ?_) (fun hc25 => ?_)
        · rw [if_neg hc25] at h
          refine v_iconst (v := 0) F dX11_film_64 (by decide) ?_
          exact w_X11_film_b65 F hr hlk t0 _ _ _ t0 h
        · rw [if_pos hc25] at h
          exact w_X11_film_b60 F hr hlk t0 _ _ t0 h
set_option maxHeartbeats 4000000 in
set_option maxRecDepth 100000 in
theorem c_X11_film {g : gT} (l : Launch) (hok : gOK g)  {a0 : Nat} {i1 : Int32} {i2 : Int32} {i3 : Int32} {i4 : Int32} {M : Mem} {z : Int32 × Mem}  (t0 : Ty g 11 a0) (h : f_X11_film  M a0 i1 i2 i3 i4 = some z) : Cn g l yX11_film uX11_film 2 [.ref (gAd g a0), .int i1, .int i2, .int i3, .int i4] M (some (.int z.1)) z.2 := by
  refine Cn.of (cc := cX11_film) (maxL := 5) (ret := (some .int)) hok (by decide) rfl (Nat.le_of_ble_eq_true rfl) (fun p e s m args below meth c F hr hlk => ?_)
  unfold f_X11_film at h
  show V g p l e ({ frames := 2, cells := 0, slots := 0, locals := 40 * 2 } : Room) s m args below meth c 5 0 0 (MQ below (gQ g (some (.int z.1)) z.2) args s 0 0 (gA g)) 0 [(0, .ref (gAd g a0)), (1, .int i1), (2, .int i2), (3, .int i3), (4, .int i4)] [] M
  refine v_aload_n F dX11_film_0 rfl 0 rfl ?_
  refine v_iconst (v := 0) F dX11_film_1 (by decide) ?_
  refine v_put (k := 0) (ty := .int) F t0 (by decide) (inc inU_11) tyX11 tyX11_ok nmX11 rfl rfl (by decide) (List.mem_cons_of_mem _ fl_X11_83) rfl rfl (by decide +kernel) rfl rfl dX11_film_2 ?_
  refine v_aload_n F dX11_film_5 rfl 0 rfl ?_
  refine v_aload_n F dX11_film_6 rfl 0 rfl ?_
  refine v_iload_n F dX11_film_7 rfl 2 rfl ?_
  obtain ⟨⟨r1, M2⟩, hz3, h⟩ := bd_some h
  dsimp only at h
  refine v_callVi (As := [.int i2]) (rest := [.ref (gAd g a0)]) F (c_X11_isPiece l F.2.2.1 t0 hz3) (cwV 1 F.1.2.2.2.2 (gU_V ml_X11_210 im_yX11_isPiece se_yX11_isPiece ini_X11 cd_X11_isPiece) rfl rfl rfl (by decide +kernel) ⟨Nat.le_of_ble_eq_true rfl, Nat.le_of_ble_eq_true rfl⟩) t0 (by decide) rfl rfl rfl (Nat.le_of_ble_eq_true rfl) dX11_film_8 ⟨Nat.le_of_ble_eq_true rfl, Nat.le_of_ble_eq_true rfl⟩ ?_
  refine v_if_ne (tgt := 18) F dX11_film_11 (by decide) (fun hc5 => ?_) (fun hc5 => ?_)
  · rw [if_neg hc5] at h
    refine v_iconst (v := 0) F dX11_film_18 (by decide) ?_
    exact w_X11_film_b19 F hr hlk t0 _ _ _ t0 h
  · rw [if_pos hc5] at h
    refine v_iconst (v := 1) F dX11_film_14 (by decide) ?_
    refine v_goto (tgt := 19) F dX11_film_15 (by decide) ?_
    exact w_X11_film_b19 F hr hlk t0 _ _ _ t0 h
def f_X11_barred_b231 (a0 : Nat) (i1 : Int32) (i2 : Int32) (i3 : Int32) (i4 : Int32) (i5 : Int32) (i6 : Int32) (k98 : Int32 → Int32 → Mem → Option (Int32 × Mem)) (k114 : Int32 → Int32 → Int32 → Mem → Option (Int32 × Mem)) (x7 : Int32) (x8 : Int32) (x9 : Int32) (M : Mem) : Option (Int32 × Mem) := k114 x7 x8 (x9 + 1) M
def f_X11_barred_b227 (a0 : Nat) (i1 : Int32) (i2 : Int32) (i3 : Int32) (i4 : Int32) (i5 : Int32) (i6 : Int32) (k98 : Int32 → Int32 → Mem → Option (Int32 × Mem)) (k114 : Int32 → Int32 → Int32 → Mem → Option (Int32 × Mem)) (x8 : Int32) (x9 : Int32) (M : Mem) : Option (Int32 × Mem) := f_X11_barred_b231 a0 i1 i2 i3 i4 i5 i6 k98 k114 x9 x8 x9 M
def f_X11_barred_b173 (a0 : Nat) (i1 : Int32) (i2 : Int32) (i3 : Int32) (i4 : Int32) (i5 : Int32) (i6 : Int32) (k98 : Int32 → Int32 → Mem → Option (Int32 × Mem)) (k114 : Int32 → Int32 → Int32 → Mem → Option (Int32 × Mem)) (x7 : Int32) (x8 : Int32) (x9 : Int32) (x10 : Int32) (M : Mem) : Option (Int32 × Mem) := if ¬ ((0 : Int32) < 0 ∨ gN (gRf a0 22) ≤ (0 : Int32).toNatClampNeg) then (if ¬ (x10 < 0 ∨ gN (gRf (gRf a0 22) (0 : Int32).toNatClampNeg) ≤ x10.toNatClampNeg) then (if ¬ (x9 < 0 ∨ gN (gRf a0 36) ≤ x9.toNatClampNeg) then (if ¬ ((2 : Int32) < 0 ∨ gN (gRf (gRf a0 36) x9.toNatClampNeg) ≤ (2 : Int32).toNatClampNeg) then ((f_X11_amount M ((M (gRf (gRf a0 22) (0 : Int32).toNatClampNeg) x10.toNatClampNeg) - (M (gRf (gRf a0 36) x9.toNatClampNeg) (2 : Int32).toNatClampNeg))).bind fun q => match q with | (r70, M71) => (if i6 < r70 then (f_X11_barred_b227 a0 i1 i2 i3 i4 i5 i6 k98 k114 x8 x9 M71) else (if ¬ ((1 : Int32) < 0 ∨ gN (gRf a0 22) ≤ (1 : Int32).toNatClampNeg) then (if ¬ (x10 < 0 ∨ gN (gRf (gRf a0 22) (1 : Int32).toNatClampNeg) ≤ x10.toNatClampNeg) then (if ¬ (x9 < 0 ∨ gN (gRf a0 36) ≤ x9.toNatClampNeg) then (if ¬ ((3 : Int32) < 0 ∨ gN (gRf (gRf a0 36) x9.toNatClampNeg) ≤ (3 : Int32).toNatClampNeg) then ((f_X11_amount M71 ((M71 (gRf (gRf a0 22) (1 : Int32).toNatClampNeg) x10.toNatClampNeg) - (M71 (gRf (gRf a0 36) x9.toNatClampNeg) (3 : Int32).toNatClampNeg))).bind fun q => match q with | (r83, M84) => (if r83 ≤ i6 then (f_X11_barred_b231 a0 i1 i2 i3 i4 i5 i6 k98 k114 x7 x8 x9 M84) else (f_X11_barred_b227 a0 i1 i2 i3 i4 i5 i6 k98 k114 x8 x9 M84))) else none) else none) else none) else none))) else none) else none) else none) else none
def f_X11_barred_h114 (a0 : Nat) (i1 : Int32) (i2 : Int32) (i3 : Int32) (i4 : Int32) (i5 : Int32) (i6 : Int32) (k98 : Int32 → Int32 → Mem → Option (Int32 × Mem)) : Nat → Int32 → Int32 → Int32 → Mem → Option (Int32 × Mem)
  | 0, _, _, _, _ => none
  | n + 1, x7, x8, x9, M => if (M a0 31) ≤ x9 then (k98 x7 (x8 + 1) M) else (if ¬ (x9 < 0 ∨ gN (gRf a0 36) ≤ x9.toNatClampNeg) then (if ¬ ((1 : Int32) < 0 ∨ gN (gRf (gRf a0 36) x9.toNatClampNeg) ≤ (1 : Int32).toNatClampNeg) then (if ¬ (x9 < 0 ∨ gN (gRf a0 36) ≤ x9.toNatClampNeg) then (if ¬ ((0 : Int32) < 0 ∨ gN (gRf (gRf a0 36) x9.toNatClampNeg) ≤ (0 : Int32).toNatClampNeg) then (if (M (gRf (gRf a0 36) x9.toNatClampNeg) (0 : Int32).toNatClampNeg) = x8 then (if (M a0 19) ≤ (M (gRf (gRf a0 36) x9.toNatClampNeg) (1 : Int32).toNatClampNeg) then (f_X11_barred_b231 a0 i1 i2 i3 i4 i5 i6 k98 (f_X11_barred_h114 a0 i1 i2 i3 i4 i5 i6 k98 n) x7 x8 x9 M) else (if x7 = (-1) then (f_X11_barred_b173 a0 i1 i2 i3 i4 i5 i6 k98 (f_X11_barred_h114 a0 i1 i2 i3 i4 i5 i6 k98 n) x7 x8 x9 (M (gRf (gRf a0 36) x9.toNatClampNeg) (1 : Int32).toNatClampNeg) M) else (if x9 < x7 then (f_X11_barred_b173 a0 i1 i2 i3 i4 i5 i6 k98 (f_X11_barred_h114 a0 i1 i2 i3 i4 i5 i6 k98 n) x7 x8 x9 (M (gRf (gRf a0 36) x9.toNatClampNeg) (1 : Int32).toNatClampNeg) M) else (f_X11_barred_b231 a0 i1 i2 i3 i4 i5 i6 k98 (f_X11_barred_h114 a0 i1 i2 i3 i4 i5 i6 k98 n) x7 x8 x9 M)))) else (f_X11_barred_b231 a0 i1 i2 i3 i4 i5 i6 k98 (f_X11_barred_h114 a0 i1 i2 i3 i4 i5 i6 k98 n) x7 x8 x9 M)) else none) else none) else none) else none)
def f_X11_barred_h98 (a0 : Nat) (i1 : Int32) (i2 : Int32) (i3 : Int32) (i4 : Int32) (i5 : Int32) (i6 : Int32)  : Nat → Int32 → Int32 → Mem → Option (Int32 × Mem)
  | 0, _, _, _ => none
  | n + 1, x7, x8, M => if 100 < x8 then ((f_X11_laysBack M a0).bind fun q => match q with | (r41, M42) => (some (x7, M42))) else ((f_X11_tick M a0 i1 i2).bind fun q => match q with | (r45, M46) => (f_X11_barred_h114 a0 i1 i2 i3 i4 i5 i6 (f_X11_barred_h98 a0 i1 i2 i3 i4 i5 i6 n) FU x7 x8 0 M46))
def f_X11_barred_b74 (a0 : Nat) (i1 : Int32) (i2 : Int32) (i3 : Int32) (i4 : Int32) (i5 : Int32) (i6 : Int32)  (s0 : Nat) (s1 : Int32) (M : Mem) : Option (Int32 × Mem) := (f_X11_bad M s0 s1 2).bind fun q => match q with | (r31, M32) => (if r31 = 0 then ((f_X11_begins M32 a0 i3 i4 i5).bind fun q => match q with | (r36, M37) => (f_X11_barred_h98 a0 i1 i2 i3 i4 i5 i6 FU (-1) 1 M37)) else (some (0, M32)))
def f_X11_barred_b69 (a0 : Nat) (i1 : Int32) (i2 : Int32) (i3 : Int32) (i4 : Int32) (i5 : Int32) (i6 : Int32)  (s0 : Nat) (M : Mem) : Option (Int32 × Mem) := f_X11_barred_b74 a0 i1 i2 i3 i4 i5 i6 s0 1 M
def f_X11_barred_b19 (a0 : Nat) (i1 : Int32) (i2 : Int32) (i3 : Int32) (i4 : Int32) (i5 : Int32) (i6 : Int32)  (s0 : Nat) (s1 : Int32) (M : Mem) : Option (Int32 × Mem) := (f_X11_bad M s0 s1 1).bind fun q => match q with | (r6, M7) => (if r6 = 0 then ((f_X11_in M7 i2 0 99).bind fun q => match q with | (r11, M12) => (if r11 = 0 then (f_X11_barred_b69 a0 i1 i2 i3 i4 i5 i6 a0 M12) else ((f_X11_isShape M12 i3 i4).bind fun q => match q with | (r16, M17) => (if r16 = 0 then (f_X11_barred_b69 a0 i1 i2 i3 i4 i5 i6 a0 M17) else ((f_X11_in M17 i5 1 9999).bind fun q => match q with | (r21, M22) => (if r21 = 0 then (f_X11_barred_b69 a0 i1 i2 i3 i4 i5 i6 a0 M22) else ((f_X11_in M22 i6 0 1000000).bind fun q => match q with | (r26, M27) => (if r26 = 0 then (f_X11_barred_b69 a0 i1 i2 i3 i4 i5 i6 a0 M27) else (f_X11_barred_b74 a0 i1 i2 i3 i4 i5 i6 a0 0 M27))))))))) else (some (0, M7)))
def f_X11_barred  (M : Mem) (a0 : Nat) (i1 : Int32) (i2 : Int32) (i3 : Int32) (i4 : Int32) (i5 : Int32) (i6 : Int32) : Option (Int32 × Mem) := (f_X11_isLaw (mU M a0 0 0) a0 i1).bind fun q => match q with | (r1, M2) => (if r1 = 0 then (f_X11_barred_b19 a0 i1 i2 i3 i4 i5 i6 a0 1 M2) else (f_X11_barred_b19 a0 i1 i2 i3 i4 i5 i6 a0 0 M2))
set_option maxHeartbeats 4000000 in
set_option maxRecDepth 100000 in
theorem w_X11_barred_b231 {g : gT} {p : Program} {l : Launch} {e : Env} {s : State} {m : MethodId} {args : Array Value} {below : List Frame} {meth : Method} {c : Code} {z : Int32 × Mem} (F : Fx g p s m args c cX11_barred 11 uX11_barred RX11) (hr : meth.sig.returnType = (some .int)) (hlk : meth.locks = false)  {a0 : Nat} {i1 : Int32} {i2 : Int32} {i3 : Int32} {i4 : Int32} {i5 : Int32} {i6 : Int32} (t0 : Ty g 11 a0) {k98 : Int32 → Int32 → Mem → Option (Int32 × Mem)} {k114 : Int32 → Int32 → Int32 → Mem → Option (Int32 × Mem)} (hk98 : ∀ (x7 : Int32) (x8 : Int32) (M : Mem), k98 x7 x8 M = some z → V g p l e ({ frames := 3, cells := 0, slots := 0, locals := 40 * 3 } : Room) s m args below meth c 11 0 0 (MQ below (gQ g (some (.int z.1)) z.2) args s 0 0 (gA g)) 98 [(0, .ref (gAd g a0)), (1, .int i1), (2, .int i2), (3, .int i3), (4, .int i4), (5, .int i5), (6, .int i6), (7, .int x7), (8, .int x8)] [] M) (hk114 : ∀ (x7 : Int32) (x8 : Int32) (x9 : Int32) (M : Mem), k114 x7 x8 x9 M = some z → V g p l e ({ frames := 3, cells := 0, slots := 0, locals := 40 * 3 } : Room) s m args below meth c 11 0 0 (MQ below (gQ g (some (.int z.1)) z.2) args s 0 0 (gA g)) 114 [(0, .ref (gAd g a0)), (1, .int i1), (2, .int i2), (3, .int i3), (4, .int i4), (5, .int i5), (6, .int i6), (7, .int x7), (8, .int x8), (9, .int x9)] [] M) (x7 : Int32) (x8 : Int32) (x9 : Int32) (M : Mem)  (h : f_X11_barred_b231 a0 i1 i2 i3 i4 i5 i6 k98 k114 x7 x8 x9 M = some z) : V g p l e ({ frames := 3, cells := 0, slots := 0, locals := 40 * 3 } : Room) s m args below meth c 11 0 0 (MQ below (gQ g (some (.int z.1)) z.2) args s 0 0 (gA g)) 231 [(0, .ref (gAd g a0)), (1, .int i1), (2, .int i2), (3, .int i3), (4, .int i4), (5, .int i5), (6, .int i6), (7, .int x7), (8, .int x8), (9, .int x9)] [] M := by
  unfold f_X11_barred_b231 at h
  refine v_iinc (v := x9 + 1) (lv' := [(9, .int (x9 + 1)), (0, .ref (gAd g a0)), (1, .int i1), (2, .int i2), (3, .int i3), (4, .int i4), (5, .int i5), (6, .int i6), (7, .int x7), (8, .int x8)]) F dX11_barred_231 (q := 9) rfl rfl (by decide) rfl ?_
  refine v_goto (tgt := 114) F dX11_barred_234 (by decide) ?_
  refine v_sub (fun ls h9 => lv_sub h9 [1, 2, 3, 4, 5, 6, 7, 8, 9, 0] rfl) ?_
  exact hk114 _ _ _ _ h
set_option maxHeartbeats 4000000 in
set_option maxRecDepth 100000 in
theorem w_X11_barred_b227 {g : gT} {p : Program} {l : Launch} {e : Env} {s : State} {m : MethodId} {args : Array Value} {below : List Frame} {meth : Method} {c : Code} {z : Int32 × Mem} (F : Fx g p s m args c cX11_barred 11 uX11_barred RX11) (hr : meth.sig.returnType = (some .int)) (hlk : meth.locks = false)  {a0 : Nat} {i1 : Int32} {i2 : Int32} {i3 : Int32} {i4 : Int32} {i5 : Int32} {i6 : Int32} (t0 : Ty g 11 a0) {k98 : Int32 → Int32 → Mem → Option (Int32 × Mem)} {k114 : Int32 → Int32 → Int32 → Mem → Option (Int32 × Mem)} (hk98 : ∀ (x7 : Int32) (x8 : Int32) (M : Mem), k98 x7 x8 M = some z → V g p l e ({ frames := 3, cells := 0, slots := 0, locals := 40 * 3 } : Room) s m args below meth c 11 0 0 (MQ below (gQ g (some (.int z.1)) z.2) args s 0 0 (gA g)) 98 [(0, .ref (gAd g a0)), (1, .int i1), (2, .int i2), (3, .int i3), (4, .int i4), (5, .int i5), (6, .int i6), (7, .int x7), (8, .int x8)] [] M) (hk114 : ∀ (x7 : Int32) (x8 : Int32) (x9 : Int32) (M : Mem), k114 x7 x8 x9 M = some z → V g p l e ({ frames := 3, cells := 0, slots := 0, locals := 40 * 3 } : Room) s m args below meth c 11 0 0 (MQ below (gQ g (some (.int z.1)) z.2) args s 0 0 (gA g)) 114 [(0, .ref (gAd g a0)), (1, .int i1), (2, .int i2), (3, .int i3), (4, .int i4), (5, .int i5), (6, .int i6), (7, .int x7), (8, .int x8), (9, .int x9)] [] M) (x8 : Int32) (x9 : Int32) (M : Mem)  (h : f_X11_barred_b227 a0 i1 i2 i3 i4 i5 i6 k98 k114 x8 x9 M = some z) : V g p l e ({ frames := 3, cells := 0, slots := 0, locals := 40 * 3 } : Room) s m args below meth c 11 0 0 (MQ below (gQ g (some (.int z.1)) z.2) args s 0 0 (gA g)) 227 [(0, .ref (gAd g a0)), (1, .int i1), (2, .int i2), (3, .int i3), (4, .int i4), (5, .int i5), (6, .int i6), (8, .int x8), (9, .int x9)] [] M := by
  unfold f_X11_barred_b227 at h
  refine v_iload F dX11_barred_227 8 rfl ?_
  refine v_istore (lv' := [(7, .int x9), (0, .ref (gAd g a0)), (1, .int i1), (2, .int i2), (3, .int i3), (4, .int i4), (5, .int i5), (6, .int i6), (8, .int x8), (9, .int x9)]) F dX11_barred_229 (by decide) rfl ?_
  refine v_sub (fun ls h9 => lv_sub h9 [1, 2, 3, 4, 5, 6, 7, 0, 8, 9] rfl) ?_
  exact w_X11_barred_b231 F hr hlk t0 hk98 hk114 _ _ _ _ h
set_option maxHeartbeats 4000000 in
set_option maxRecDepth 100000 in
theorem w_X11_barred_b173 {g : gT} {p : Program} {l : Launch} {e : Env} {s : State} {m : MethodId} {args : Array Value} {below : List Frame} {meth : Method} {c : Code} {z : Int32 × Mem} (F : Fx g p s m args c cX11_barred 11 uX11_barred RX11) (hr : meth.sig.returnType = (some .int)) (hlk : meth.locks = false)  {a0 : Nat} {i1 : Int32} {i2 : Int32} {i3 : Int32} {i4 : Int32} {i5 : Int32} {i6 : Int32} (t0 : Ty g 11 a0) {k98 : Int32 → Int32 → Mem → Option (Int32 × Mem)} {k114 : Int32 → Int32 → Int32 → Mem → Option (Int32 × Mem)} (hk98 : ∀ (x7 : Int32) (x8 : Int32) (M : Mem), k98 x7 x8 M = some z → V g p l e ({ frames := 3, cells := 0, slots := 0, locals := 40 * 3 } : Room) s m args below meth c 11 0 0 (MQ below (gQ g (some (.int z.1)) z.2) args s 0 0 (gA g)) 98 [(0, .ref (gAd g a0)), (1, .int i1), (2, .int i2), (3, .int i3), (4, .int i4), (5, .int i5), (6, .int i6), (7, .int x7), (8, .int x8)] [] M) (hk114 : ∀ (x7 : Int32) (x8 : Int32) (x9 : Int32) (M : Mem), k114 x7 x8 x9 M = some z → V g p l e ({ frames := 3, cells := 0, slots := 0, locals := 40 * 3 } : Room) s m args below meth c 11 0 0 (MQ below (gQ g (some (.int z.1)) z.2) args s 0 0 (gA g)) 114 [(0, .ref (gAd g a0)), (1, .int i1), (2, .int i2), (3, .int i3), (4, .int i4), (5, .int i5), (6, .int i6), (7, .int x7), (8, .int x8), (9, .int x9)] [] M) (x7 : Int32) (x8 : Int32) (x9 : Int32) (x10 : Int32) (M : Mem)  (h : f_X11_barred_b173 a0 i1 i2 i3 i4 i5 i6 k98 k114 x7 x8 x9 x10 M = some z) : V g p l e ({ frames := 3, cells := 0, slots := 0, locals := 40 * 3 } : Room) s m args below meth c 11 0 0 (MQ below (gQ g (some (.int z.1)) z.2) args s 0 0 (gA g)) 173 [(0, .ref (gAd g a0)), (1, .int i1), (2, .int i2), (3, .int i3), (4, .int i4), (5, .int i5), (6, .int i6), (7, .int x7), (8, .int x8), (9, .int x9), (10, .int x10)] [] M := by
  unfold f_X11_barred_b173 at h
  refine v_aload_n F dX11_barred_173 rfl 0 rfl ?_
  refine v_getR (k := 22) (f := 16) F t0 (by decide) (inc inU_11) rfl rfl (by decide) (by decide) (List.mem_cons_of_mem _ fl_X11_43) rfl dX11_barred_174 (fun u62 => ?_)
  refine v_iconst (v := 0) F dX11_barred_177 (by decide) ?_
  obtain ⟨hin63, h⟩ := gd_some h
  refine v_aald (ke := 12) (t0 := 4) F u62 (by decide) rfl rfl hin63 dX11_barred_178 (fun u64 => ?_)
  refine v_iload F dX11_barred_179 10 rfl ?_
  obtain ⟨hin65, h⟩ := gd_some h
  refine v_iald F u64 hin65 dX11_barred_181 ?_
  refine v_aload_n F dX11_barred_182 rfl 0 rfl ?_
  refine v_getR (k := 36) (f := 16) F t0 (by decide) (inc inU_11) rfl rfl (by decide) (by decide) (List.mem_cons_of_mem _ fl_X11_68) rfl dX11_barred_183 (fun u66 => ?_)
  refine v_iload F dX11_barred_186 9 rfl ?_
  obtain ⟨hin67, h⟩ := gd_some h
  refine v_aald (ke := 12) (t0 := 4) F u66 (by decide) rfl rfl hin67 dX11_barred_188 (fun u68 => ?_)
  refine v_iconst (v := 2) F dX11_barred_189 (by decide) ?_
  obtain ⟨hin69, h⟩ := gd_some h
  refine v_iald F u68 hin69 dX11_barred_190 ?_
  refine v_isub F dX11_barred_191 ?_
  obtain ⟨⟨r70, M71⟩, hz72, h⟩ := bd_some h
  dsimp only at h
  refine v_callSi (As := [.int ((M (gRf (gRf a0 22) (0 : Int32).toNatClampNeg) x10.toNatClampNeg) - (M (gRf (gRf a0 36) x9.toNatClampNeg) (2 : Int32).toNatClampNeg))]) (rest := []) F (c_X11_amount l F.2.2.1  hz72) (cwS 1 F.1.2.2.2.2 (gU_S ml_X11_224 st_yX11_amount ini_X11 cd_X11_amount) rfl rfl rfl (by decide +kernel) ⟨Nat.le_of_ble_eq_true rfl, Nat.le_of_ble_eq_true rfl⟩) rfl rfl (Nat.le_of_ble_eq_true rfl) dX11_barred_192 ⟨Nat.le_of_ble_eq_true rfl, Nat.le_of_ble_eq_true rfl⟩ ?_
  refine v_iload F dX11_barred_195 6 rfl ?_
  refine v_icmp_gt (tgt := 227) F dX11_barred_197 (by decide) (fun hc74 => ?_) (fun hc74 => ?_)
  · rw [if_pos hc74] at h
    refine v_sub (fun ls h9 => lv_sub h9 [0, 1, 2, 3, 4, 5, 6, 8, 9] rfl) ?_
    exact w_X11_barred_b227 F hr hlk t0 hk98 hk114 _ _ _ h
  · rw [if_neg hc74] at h
    refine v_aload_n F dX11_barred_200 rfl 0 rfl ?_
    refine v_getR (k := 22) (f := 16) F t0 (by decide) (inc inU_11) rfl rfl (by decide) (by decide) (List.mem_cons_of_mem _ fl_X11_43) rfl dX11_barred_201 (fun u75 => ?_)
    refine v_iconst (v := 1) F dX11_barred_204 (by decide) ?_
    obtain ⟨hin76, h⟩ := gd_some h
    refine v_aald (ke := 12) (t0 := 4) F u75 (by decide) rfl rfl hin76 dX11_barred_205 (fun u77 => ?_)
    refine v_iload F dX11_barred_206 10 rfl ?_
    obtain ⟨hin78, h⟩ := gd_some h
    refine v_iald F u77 hin78 dX11_barred_208 ?_
    refine v_aload_n F dX11_barred_209 rfl 0 rfl ?_
    refine v_getR (k := 36) (f := 16) F t0 (by decide) (inc inU_11) rfl rfl (by decide) (by decide) (List.mem_cons_of_mem _ fl_X11_68) rfl dX11_barred_210 (fun u79 => ?_)
    refine v_iload F dX11_barred_213 9 rfl ?_
    obtain ⟨hin80, h⟩ := gd_some h
    refine v_aald (ke := 12) (t0 := 4) F u79 (by decide) rfl rfl hin80 dX11_barred_215 (fun u81 => ?_)
    refine v_iconst (v := 3) F dX11_barred_216 (by decide) ?_
    obtain ⟨hin82, h⟩ := gd_some h
    refine v_iald F u81 hin82 dX11_barred_217 ?_
    refine v_isub F dX11_barred_218 ?_
    obtain ⟨⟨r83, M84⟩, hz85, h⟩ := bd_some h
    dsimp only at h
    refine v_callSi (As := [.int ((M71 (gRf (gRf a0 22) (1 : Int32).toNatClampNeg) x10.toNatClampNeg) - (M71 (gRf (gRf a0 36) x9.toNatClampNeg) (3 : Int32).toNatClampNeg))]) (rest := []) F (c_X11_amount l F.2.2.1  hz85) (cwS 1 F.1.2.2.2.2 (gU_S ml_X11_224 st_yX11_amount ini_X11 cd_X11_amount) rfl rfl rfl (by decide +kernel) ⟨Nat.le_of_ble_eq_true rfl, Nat.le_of_ble_eq_true rfl⟩) rfl rfl (Nat.le_of_ble_eq_true rfl) dX11_barred_219 ⟨Nat.le_of_ble_eq_true rfl, Nat.le_of_ble_eq_true rfl⟩ ?_
    refine v_iload F dX11_barred_222 6 rfl ?_
    refine v_icmp_le (tgt := 231) F dX11_barred_224 (by decide) (fun hc87 => ?_) (fun hc87 => ?_)
    · rw [if_pos hc87] at h
      refine v_sub (fun ls h9 => lv_sub h9 [0, 1, 2, 3, 4, 5, 6, 7, 8, 9] rfl) ?_
      exact w_X11_barred_b231 F hr hlk t0 hk98 hk114 _ _ _ _ h
    · rw [if_neg hc87] at h
      refine v_sub (fun ls h9 => lv_sub h9 [0, 1, 2, 3, 4, 5, 6, 8, 9] rfl) ?_
      exact w_X11_barred_b227 F hr hlk t0 hk98 hk114 _ _ _ h
set_option maxHeartbeats 4000000 in
set_option maxRecDepth 100000 in
theorem w_X11_barred_h114 {g : gT} {p : Program} {l : Launch} {e : Env} {s : State} {m : MethodId} {args : Array Value} {below : List Frame} {meth : Method} {c : Code} {z : Int32 × Mem} (F : Fx g p s m args c cX11_barred 11 uX11_barred RX11) (hr : meth.sig.returnType = (some .int)) (hlk : meth.locks = false)  {a0 : Nat} {i1 : Int32} {i2 : Int32} {i3 : Int32} {i4 : Int32} {i5 : Int32} {i6 : Int32} (t0 : Ty g 11 a0) {k98 : Int32 → Int32 → Mem → Option (Int32 × Mem)} (hk98 : ∀ (x7 : Int32) (x8 : Int32) (M : Mem), k98 x7 x8 M = some z → V g p l e ({ frames := 3, cells := 0, slots := 0, locals := 40 * 3 } : Room) s m args below meth c 11 0 0 (MQ below (gQ g (some (.int z.1)) z.2) args s 0 0 (gA g)) 98 [(0, .ref (gAd g a0)), (1, .int i1), (2, .int i2), (3, .int i3), (4, .int i4), (5, .int i5), (6, .int i6), (7, .int x7), (8, .int x8)] [] M) : ∀ (n : Nat) (x7 : Int32) (x8 : Int32) (x9 : Int32) (M : Mem), f_X11_barred_h114 a0 i1 i2 i3 i4 i5 i6 k98 n x7 x8 x9 M = some z → V g p l e ({ frames := 3, cells := 0, slots := 0, locals := 40 * 3 } : Room) s m args below meth c 11 0 0 (MQ below (gQ g (some (.int z.1)) z.2) args s 0 0 (gA g)) 114 [(0, .ref (gAd g a0)), (1, .int i1), (2, .int i2), (3, .int i3), (4, .int i4), (5, .int i5), (6, .int i6), (7, .int x7), (8, .int x8), (9, .int x9)] [] M := by
  intro n
  induction n with
  | zero => intro x7 x8 x9 M; intros; rename_i h; cases h
  | succ n ih =>
    intro x7 x8 x9 M h
    rw [f_X11_barred_h114] at h
    refine v_iload F dX11_barred_114 9 rfl ?_
    refine v_aload_n F dX11_barred_116 rfl 0 rfl ?_
    refine v_getI (k := 31) F t0 (by decide) (inc inU_11) rfl rfl (by decide) (List.mem_cons_of_mem _ fl_X11_279) rfl dX11_barred_117 ?_
    refine v_icmp_ge (tgt := 237) F dX11_barred_120 (by decide) (fun hc49 => ?_) (fun hc49 => ?_)
    · rw [if_pos hc49] at h
      refine v_iinc (v := x8 + 1) (lv' := [(8, .int (x8 + 1)), (0, .ref (gAd g a0)), (1, .int i1), (2, .int i2), (3, .int i3), (4, .int i4), (5, .int i5), (6, .int i6), (7, .int x7), (9, .int x9)]) F dX11_barred_237 (q := 8) rfl rfl (by decide) rfl ?_
      refine v_goto (tgt := 98) F dX11_barred_240 (by decide) ?_
      refine v_sub (fun ls h9 => lv_sub h9 [1, 2, 3, 4, 5, 6, 7, 8, 0] rfl) ?_
      exact hk98 _ _ _ h
    · rw [if_neg hc49] at h
      refine v_aload_n F dX11_barred_123 rfl 0 rfl ?_
      refine v_getR (k := 36) (f := 16) F t0 (by decide) (inc inU_11) rfl rfl (by decide) (by decide) (List.mem_cons_of_mem _ fl_X11_68) rfl dX11_barred_124 (fun u50 => ?_)
      refine v_iload F dX11_barred_127 9 rfl ?_
      obtain ⟨hin51, h⟩ := gd_some h
      refine v_aald (ke := 12) (t0 := 4) F u50 (by decide) rfl rfl hin51 dX11_barred_129 (fun u52 => ?_)
      refine v_iconst (v := 1) F dX11_barred_130 (by decide) ?_
      obtain ⟨hin53, h⟩ := gd_some h
      refine v_iald F u52 hin53 dX11_barred_131 ?_
      refine v_istore (lv' := [(10, .int (M (gRf (gRf a0 36) x9.toNatClampNeg) (1 : Int32).toNatClampNeg)), (0, .ref (gAd g a0)), (1, .int i1), (2, .int i2), (3, .int i3), (4, .int i4), (5, .int i5), (6, .int i6), (7, .int x7), (8, .int x8), (9, .int x9)]) F dX11_barred_132 (by decide) rfl ?_
      refine v_aload_n F dX11_barred_134 rfl 1 rfl ?_
      refine v_getR (k := 36) (f := 16) F t0 (by decide) (inc inU_11) rfl rfl (by decide) (by decide) (List.mem_cons_of_mem _ fl_X11_68) rfl dX11_barred_135 (fun u54 => ?_)
      refine v_iload F dX11_barred_138 10 rfl ?_
      obtain ⟨hin55, h⟩ := gd_some h
      refine v_aald (ke := 12) (t0 := 4) F u54 (by decide) rfl rfl hin55 dX11_barred_140 (fun u56 => ?_)
      refine v_iconst (v := 0) F dX11_barred_141 (by decide) ?_
      obtain ⟨hin57, h⟩ := gd_some h
      refine v_iald F u56 hin57 dX11_barred_142 ?_
      refine v_iload F dX11_barred_143 9 rfl ?_
      refine v_icmp_ne (tgt := 231) F dX11_barred_145 (by decide) (fun hc58 => ?_) (fun hc58 => ?_)
      · rw [if_neg hc58] at h
        refine v_sub (fun ls h9 => lv_sub h9 [1, 2, 3, 4, 5, 6, 7, 8, 9, 10] rfl) ?_
        exact w_X11_barred_b231 F hr hlk t0 hk98 ih _ _ _ _ h
      · rw [if_pos hc58] at h
        refine v_iload F dX11_barred_148 0 rfl ?_
        refine v_aload_n F dX11_barred_150 rfl 1 rfl ?_
        refine v_getI (k := 19) F t0 (by decide) (inc inU_11) rfl rfl (by decide) (List.mem_cons_of_mem _ fl_X11_37) rfl dX11_barred_151 ?_
        refine v_icmp_ge (tgt := 231) F dX11_barred_154 (by decide) (fun hc59 => ?_) (fun hc59 => ?_)
        · rw [if_pos hc59] at h
          refine v_sub (fun ls h9 => lv_sub h9 [1, 2, 3, 4, 5, 6, 7, 8, 9, 10] rfl) ?_
          exact w_X11_barred_b231 F hr hlk t0 hk98 ih _ _ _ _ h
        · rw [if_neg hc59] at h
          refine v_iload F dX11_barred_157 8 rfl ?_
          refine v_iconst (v := (-1)) F dX11_barred_159 (by decide) ?_
          refine v_icmp_eq (tgt := 173) F dX11_barred_160 (by decide) (fun hc60 => ?_) (fun hc60 => ?_)
          · rw [if_pos hc60] at h
            refine v_sub (fun ls h9 => lv_sub h9 [1, 2, 3, 4, 5, 6, 7, 8, 9, 10, 0] rfl) ?_
            exact w_X11_barred_b173 F hr hlk t0 hk98 ih _ _ _ _ _ h
          · rw [if_neg hc60] at h
            refine v_iload F dX11_barred_163 10 rfl ?_
            refine v_iload F dX11_barred_165 8 rfl ?_
            refine v_icmp_lt (tgt := 173) F dX11_barred_167 (by decide) (fun hc61 => ?_) (fun hc61 => ?_)
            · rw [if_pos hc61] at h
              refine v_sub (fun ls h9 => lv_sub h9 [1, 2, 3, 4, 5, 6, 7, 8, 9, 10, 0] rfl) ?_
              exact w_X11_barred_b173 F hr hlk t0 hk98 ih _ _ _ _ _ h
            · rw [if_neg hc61] at h
              refine v_goto (tgt := 231) F dX11_barred_170 (by decide) ?_
              refine v_sub (fun ls h9 => lv_sub h9 [1, 2, 3, 4, 5, 6, 7, 8, 9, 10] rfl) ?_
              exact w_X11_barred_b231 F hr hlk t0 hk98 ih _ _ _ _ h
set_option maxHeartbeats 4000000 in
set_option maxRecDepth 100000 in
theorem w_X11_barred_h98 {g : gT} {p : Program} {l : Launch} {e : Env} {s : State} {m : MethodId} {args : Array Value} {below : List Frame} {meth : Method} {c : Code} {z : Int32 × Mem} (F : Fx g p s m args c cX11_barred 11 uX11_barred RX11) (hr : meth.sig.returnType = (some .int)) (hlk : meth.locks = false)  {a0 : Nat} {i1 : Int32} {i2 : Int32} {i3 : Int32} {i4 : Int32} {i5 : Int32} {i6 : Int32} (t0 : Ty g 11 a0)   : ∀ (n : Nat) (x7 : Int32) (x8 : Int32) (M : Mem), f_X11_barred_h98 a0 i1 i2 i3 i4 i5 i6 n x7 x8 M = some z → V g p l e ({ frames := 3, cells := 0, slots := 0, locals := 40 * 3 } : Room) s m args below meth c 11 0 0 (MQ below (gQ g (some (.int z.1)) z.2) args s 0 0 (gA g)) 98 [(0, .ref (gAd g a0)), (1, .int i1), (2, .int i2), (3, .int i3), (4, .int i4), (5, .int i5), (6, .int i6), (7, .int x7), (8, .int x8)] [] M := by
  intro n
  induction n with
  | zero => intro x7 x8 M; intros; rename_i h; cases h
  | succ n ih =>
    intro x7 x8 M h
    rw [f_X11_barred_h98] at h
    refine v_iload F dX11_barred_98 8 rfl ?_
    refine v_bipush (v := 100) F dX11_barred_100 (by decide) ?_
    refine v_icmp_gt (tgt := 243) F dX11_barred_102 (by decide) (fun hc40 => ?_) (fun hc40 => ?_)
    · rw [if_pos hc40] at h
      refine v_aload_n F dX11_barred_243 rfl 0 rfl ?_
      obtain ⟨⟨r41, M42⟩, hz43, h⟩ := bd_some h
      dsimp only at h
      refine v_callVv (As := []) (rest := []) F (c_X11_laysBack l F.2.2.1 t0 hz43) (cwV 0 F.1.2.2.2.2 (gU_V ml_X11_257 im_yX11_laysBack se_yX11_laysBack ini_X11 cd_X11_laysBack) rfl rfl rfl (by decide +kernel) ⟨Nat.le_of_ble_eq_true rfl, Nat.le_of_ble_eq_true rfl⟩) t0 (by decide) rfl rfl rfl (Nat.le_of_ble_eq_true rfl) dX11_barred_244 ⟨Nat.le_of_ble_eq_true rfl, Nat.le_of_ble_eq_true rfl⟩ ?_
      refine v_iload F dX11_barred_247 7 rfl ?_
      cases h
      exact v_iret F hr rfl hlk dX11_barred_249
    · rw [if_neg hc40] at h
      refine v_aload_n F dX11_barred_105 rfl 0 rfl ?_
      refine v_iload_n F dX11_barred_106 rfl 1 rfl ?_
      refine v_iload_n F dX11_barred_107 rfl 2 rfl ?_
      obtain ⟨⟨r45, M46⟩, hz47, h⟩ := bd_some h
      dsimp only at h
      refine v_callVv (As := [.int i1, .int i2]) (rest := []) F (c_X11_tick l F.2.2.1 t0 hz47) (cwV 2 F.1.2.2.2.2 (gU_V ml_X11_245 im_yX11_tick se_yX11_tick ini_X11 cd_X11_tick) rfl rfl rfl (by decide +kernel) ⟨Nat.le_of_ble_eq_true rfl, Nat.le_of_ble_eq_true rfl⟩) t0 (by decide) rfl rfl rfl (Nat.le_of_ble_eq_true rfl) dX11_barred_108 ⟨Nat.le_of_ble_eq_true rfl, Nat.le_of_ble_eq_true rfl⟩ ?_
      refine v_iconst (v := 0) F dX11_barred_111 (by decide) ?_
      refine v_istore (lv' := [(9, .int 0), (0, .ref (gAd g a0)), (1, .int i1), (2, .int i2), (3, .int i3), (4, .int i4), (5, .int i5), (6, .int i6), (7, .int x7), (8, .int x8)]) F dX11_barred_112 (by decide) rfl ?_
      refine v_sub (fun ls h9 => lv_sub h9 [1, 2, 3, 4, 5, 6, 7, 8, 9, 0] rfl) ?_
      exact w_X11_barred_h114 F hr hlk t0 ih _ _ _ _ _ h
set_option maxHeartbeats 4000000 in
set_option maxRecDepth 100000 in
theorem w_X11_barred_b74 {g : gT} {p : Program} {l : Launch} {e : Env} {s : State} {m : MethodId} {args : Array Value} {below : List Frame} {meth : Method} {c : Code} {z : Int32 × Mem} (F : Fx g p s m args c cX11_barred 11 uX11_barred RX11) (hr : meth.sig.returnType = (some .int)) (hlk : meth.locks = false)  {a0 : Nat} {i1 : Int32} {i2 : Int32} {i3 : Int32} {i4 : Int32} {i5 : Int32} {i6 : Int32} (t0 : Ty g 11 a0)   (s0 : Nat) (s1 : Int32) (M : Mem) (ts0 : Ty g 11 s0) (h : f_X11_barred_b74 a0 i1 i2 i3 i4 i5 i6 s0 s1 M = some z) : V g p l e ({ frames := 3, cells := 0, slots := 0, locals := 40 * 3 } : Room) s m args below meth c 11 0 0 (MQ below (gQ g (some (.int z.1)) z.2) args s 0 0 (gA g)) 74 [(0, .ref (gAd g a0)), (1, .int i1), (2, .int i2), (3, .int i3), (4, .int i4), (5, .int i5), (6, .int i6)] [.int s1, .ref (gAd g s0)] M := by
  unfold f_X11_barred_b74 at h
  refine v_iconst (v := 2) F dX11_barred_74 (by decide) ?_
  obtain ⟨⟨r31, M32⟩, hz33, h⟩ := bd_some h
  dsimp only at h
  refine v_callVi (As := [.int s1, .int 2]) (rest := []) F (c_X11_bad l F.2.2.1 ts0 hz33) (cwV 2 F.1.2.2.2.2 (gU_V ml_X11_176 im_yX11_bad se_yX11_bad ini_X11 cd_X11_bad) rfl rfl rfl (by decide +kernel) ⟨Nat.le_of_ble_eq_true rfl, Nat.le_of_ble_eq_true rfl⟩) ts0 (by decide) rfl rfl rfl (Nat.le_of_ble_eq_true rfl) dX11_barred_75 ⟨Nat.le_of_ble_eq_true rfl, Nat.le_of_ble_eq_true rfl⟩ ?_
  refine v_if_eq (tgt := 83) F dX11_barred_78 (by decide) (fun hc35 => ?_) (fun hc35 => ?_)
  · rw [if_pos hc35] at h
    refine v_aload_n F dX11_barred_83 rfl 0 rfl ?_
    refine v_iload_n F dX11_barred_84 rfl 3 rfl ?_
    refine v_iload F dX11_barred_85 4 rfl ?_
    refine v_iload F dX11_barred_87 5 rfl ?_
    obtain ⟨⟨r36, M37⟩, hz38, h⟩ := bd_some h
    dsimp only at h
    refine v_callVv (As := [.int i3, .int i4, .int i5]) (rest := []) F (c_X11_begins l F.2.2.1 t0 hz38) (cwV 3 F.1.2.2.2.2 (gU_V ml_X11_254 im_yX11_begins se_yX11_begins ini_X11 cd_X11_begins) rfl rfl rfl (by decide +kernel) ⟨Nat.le_of_ble_eq_true rfl, Nat.le_of_ble_eq_true rfl⟩) t0 (by decide) rfl rfl rfl (Nat.le_of_ble_eq_true rfl) dX11_barred_89 ⟨Nat.le_of_ble_eq_true rfl, Nat.le_of_ble_eq_true rfl⟩ ?_
    refine v_iconst (v := (-1)) F dX11_barred_92 (by decide) ?_
    refine v_istore (lv' := [(7, .int (-1)), (0, .ref (gAd g a0)), (1, .int i1), (2, .int i2), (3, .int i3), (4, .int i4), (5, .int i5), (6, .int i6)]) F dX11_barred_93 (by decide) rfl ?_
    refine v_iconst (v := 1) F dX11_barred_95 (by decide) ?_
    refine v_istore (lv' := [(8, .int 1), (7, .int (-1)), (0, .ref (gAd g a0)), (1, .int i1), (2, .int i2), (3, .int i3), (4, .int i4), (5, .int i5), (6, .int i6)]) F dX11_barred_96 (by decide) rfl ?_
    refine v_sub (fun ls h9 => lv_sub h9 [2, 3, 4, 5, 6, 7, 8, 1, 0] rfl) ?_
    exact w_X11_barred_h98 F hr hlk t0 _ _ _ _ h
  · rw [if_neg hc35] at h
    refine v_iconst (v := 0) F dX11_barred_81 (by decide) ?_
    cases h
    exact v_iret F hr rfl hlk dX11_barred_82
set_option maxHeartbeats 4000000 in
set_option maxRecDepth 100000 in
theorem w_X11_barred_b69 {g : gT} {p : Program} {l : Launch} {e : Env} {s : State} {m : MethodId} {args : Array Value} {below : List Frame} {meth : Method} {c : Code} {z : Int32 × Mem} (F : Fx g p s m args c cX11_barred 11 uX11_barred RX11) (hr : meth.sig.returnType = (some .int)) (hlk : meth.locks = false)  {a0 : Nat} {i1 : Int32} {i2 : Int32} {i3 : Int32} {i4 : Int32} {i5 : Int32} {i6 : Int32} (t0 : Ty g 11 a0)   (s0 : Nat) (M : Mem) (ts0 : Ty g 11 s0) (h : f_X11_barred_b69 a0 i1 i2 i3 i4 i5 i6 s0 M = some z) : V g p l e ({ frames := 3, cells := 0, slots := 0, locals := 40 * 3 } : Room) s m args below meth c 11 0 0 (MQ below (gQ g (some (.int z.1)) z.2) args s 0 0 (gA g)) 69 [(0, .ref (gAd g a0)), (1, .int i1), (2, .int i2), (3, .int i3), (4, .int i4), (5, .int i5), (6, .int i6)] [.ref (gAd g s0)] M := by
  unfold f_X11_barred_b69 at h
  refine v_iconst (v := 1) F dX11_barred_69 (by decide) ?_
  refine v_goto (tgt := 74) F dX11_barred_70 (by decide) ?_
  exact w_X11_barred_b74 F hr hlk t0 _ _ _ ts0 h
set_option maxHeartbeats 4000000 in
set_option maxRecDepth 100000 in
theorem w_X11_barred_b19 {g : gT} {p : Program} {l : Launch} {e : Env} {s : State} {m : MethodId} {args : Array Value} {below : List Frame} {meth : Method} {c : Code} {z : Int32 × Mem} (F : Fx g p s m args c cX11_barred 11 uX11_barred RX11) (hr : meth.sig.returnType = (some .int)) (hlk : meth.locks = false)  {a0 : Nat} {i1 : Int32} {i2 : Int32} {i3 : Int32} {i4 : Int32} {i5 : Int32} {i6 : Int32} (t0 : Ty g 11 a0)   (s0 : Nat) (s1 : Int32) (M : Mem) (ts0 : Ty g 11 s0) (h : f_X11_barred_b19 a0 i1 i2 i3 i4 i5 i6 s0 s1 M = some z) : V g p l e ({ frames := 3, cells := 0, slots := 0, locals := 40 * 3 } : Room) s m args below meth c 11 0 0 (MQ below (gQ g (some (.int z.1)) z.2) args s 0 0 (gA g)) 19 [(0, .ref (gAd g a0)), (1, .int i1), (2, .int i2), (3, .int i3), (4, .int i4), (5, .int i5), (6, .int i6)] [.int s1, .ref (gAd g s0)] M := by
  unfold f_X11_barred_b19 at h
  refine v_iconst (v := 1) F dX11_barred_19 (by decide) ?_
  obtain ⟨⟨r6, M7⟩, hz8, h⟩ := bd_some h
  dsimp only at h
  refine v_callVi (As := [.int s1, .int 1]) (rest := []) F (c_X11_bad l F.2.2.1 ts0 hz8) (cwV 2 F.1.2.2.2.2 (gU_V ml_X11_176 im_yX11_bad se_yX11_bad ini_X11 cd_X11_bad) rfl rfl rfl (by decide +kernel) ⟨Nat.le_of_ble_eq_true rfl, Nat.le_of_ble_eq_true rfl⟩) ts0 (by decide) rfl rfl rfl (Nat.le_of_ble_eq_true rfl) dX11_barred_20 ⟨Nat.le_of_ble_eq_true rfl, Nat.le_of_ble_eq_true rfl⟩ ?_
  refine v_if_ne (tgt := 81) F dX11_barred_23 (by decide) (fun hc10 => ?_) (fun hc10 => ?_)
  · rw [if_neg hc10] at h
    refine v_iconst (v := 0) F dX11_barred_81 (by decide) ?_
    cases h
    exact v_iret F hr rfl hlk dX11_barred_82
  · rw [if_pos hc10] at h
    refine v_aload_n F dX11_barred_26 rfl 0 rfl ?_
    refine v_iload_n F dX11_barred_27 rfl 2 rfl ?_
    refine v_iconst (v := 0) F dX11_barred_28 (by decide) ?_
    refine v_bipush (v := 99) F dX11_barred_29 (by decide) ?_
    obtain ⟨⟨r11, M12⟩, hz13, h⟩ := bd_some h
    dsimp only at h
    refine v_callSi (As := [.int i2, .int 0, .int 99]) (rest := [.ref (gAd g a0)]) F (c_X11_in l F.2.2.1  hz13) (cwS 3 F.1.2.2.2.2 (gU_S ml_X11_172 st_yX11_in ini_X11 cd_X11_in) rfl rfl rfl (by decide +kernel) ⟨Nat.le_of_ble_eq_true rfl, Nat.le_of_ble_eq_true rfl⟩) rfl rfl (Nat.le_of_ble_eq_true rfl) dX11_barred_31 ⟨Nat.le_of_ble_eq_true rfl, Nat.le_of_ble_eq_true rfl⟩ ?_
    refine v_if_eq (tgt := 69) F dX11_barred_34 (by decide) (fun hc15 => ?_) (fun hc15 => ?_)
    · rw [if_pos hc15] at h
      exact w_X11_barred_b69 F hr hlk t0 _ _ t0 h
    · rw [if_neg hc15] at h
      refine v_iload_n F dX11_barred_37 rfl 3 rfl ?_
      refine v_iload F dX11_barred_38 4 rfl ?_
      obtain ⟨⟨r16, M17⟩, hz18, h⟩ := bd_some h
      dsimp only at h
      refine v_callSi (As := [.int i3, .int i4]) (rest := [.ref (gAd g a0)]) F (c_X11_isShape l F.2.2.1  hz18) (cwS 2 F.1.2.2.2.2 (gU_S ml_X11_213 st_yX11_isShape ini_X11 cd_X11_isShape) rfl rfl rfl (by decide +kernel) ⟨Nat.le_of_ble_eq_true rfl, Nat.le_of_ble_eq_true rfl⟩) rfl rfl (Nat.le_of_ble_eq_true rfl) dX11_barred_40 ⟨Nat.le_of_ble_eq_true rfl, Nat.le_of_ble_eq_true rfl⟩ ?_
      refine v_if_eq (tgt := 69) F dX11_barred_43 (by decide) (fun hc20 => ?_) (fun hc20 => ?_)
      · rw [if_pos hc20] at h
        exact w_X11_barred_b69 F hr hlk t0 _ _ t0 h
      · rw [if_neg hc20] at h
        refine v_iload F dX11_barred_46 5 rfl ?_
        refine v_iconst (v := 1) F dX11_barred_48 (by decide) ?_
        refine v_sipush (v := 9999) F dX11_barred_49 (by decide) ?_
        obtain ⟨⟨r21, M22⟩, hz23, h⟩ := bd_some h
        dsimp only at h
        refine v_callSi (As := [.int i5, .int 1, .int 9999]) (rest := [.ref (gAd g a0)]) F (c_X11_in l F.2.2.1  hz23) (cwS 3 F.1.2.2.2.2 (gU_S ml_X11_172 st_yX11_in ini_X11 cd_X11_in) rfl rfl rfl (by decide +kernel) ⟨Nat.le_of_ble_eq_true rfl, Nat.le_of_ble_eq_true rfl⟩) rfl rfl (Nat.le_of_ble_eq_true rfl) dX11_barred_52 ⟨Nat.le_of_ble_eq_true rfl, Nat.le_of_ble_eq_true rfl⟩ ?_
        refine v_if_eq (tgt := 69) F dX11_barred_55 (by decide) (fun hc25 => ?_) (fun hc25 => ?_)
        · rw [if_pos hc25] at h
          exact w_X11_barred_b69 F hr hlk t0 _ _ t0 h
        · rw [if_neg hc25] at h
          refine v_iload F dX11_barred_58 6 rfl ?_
          refine v_iconst (v := 0) F dX11_barred_60 (by decide) ?_
          refine v_ldc (v := 1000000) F (F.1.2.2.2.2 _ (List.mem_cons_of_mem _ cn_X11_241)) dX11_barred_61 ?_
          obtain ⟨⟨r26, M27⟩, hz28, h⟩ := bd_some h
          dsimp only at h
          refine v_callSi (As := [.int i6, .int 0, .int 1000000]) (rest := [.ref (gAd g a0)]) F (c_X11_in l F.2.2.1  hz28) (cwS 3 F.1.2.2.2.2 (gU_S ml_X11_172 st_yX11_in ini_X11 cd_X11_in) rfl rfl rfl (by decide +kernel) ⟨Nat.le_of_ble_eq_true rfl, Nat.le_of_ble_eq_true rfl⟩) rfl rfl (Nat.le_of_ble_eq_true rfl) dX11_barred_63 ⟨Nat.le_of_ble_eq_true rfl, Nat.le_of_ble_eq_true rfl⟩ ?_
          refine v_if_ne (tgt := 73) F dX11_barred_66 (by decide) (fun hc30 => ?_) (fun hc30 => ?_)
          · rw [if_neg hc30] at h
            refine v_iconst (v := 0) F dX11_barred_73 (by decide) ?_
            exact w_X11_barred_b74 F hr hlk t0 _ _ _ t0 h
          · rw [if_pos hc30] at h
            exact w_X11_barred_b69 F hr hlk t0 _ _ t0 h
set_option maxHeartbeats 4000000 in
set_option maxRecDepth 100000 in
theorem c_X11_barred {g : gT} (l : Launch) (hok : gOK g)  {a0 : Nat} {i1 : Int32} {i2 : Int32} {i3 : Int32} {i4 : Int32} {i5 : Int32} {i6 : Int32} {M : Mem} {z : Int32 × Mem}  (t0 : Ty g 11 a0) (h : f_X11_barred  M a0 i1 i2 i3 i4 i5 i6 = some z) : Cn g l yX11_barred uX11_barred 3 [.ref (gAd g a0), .int i1, .int i2, .int i3, .int i4, .int i5, .int i6] M (some (.int z.1)) z.2 := by
  refine Cn.of (cc := cX11_barred) (maxL := 11) (ret := (some .int)) hok (by decide) rfl (Nat.le_of_ble_eq_true rfl) (fun p e s m args below meth c F hr hlk => ?_)
  unfold f_X11_barred at h
  show V g p l e ({ frames := 3, cells := 0, slots := 0, locals := 40 * 3 } : Room) s m args below meth c 11 0 0 (MQ below (gQ g (some (.int z.1)) z.2) args s 0 0 (gA g)) 0 [(0, .ref (gAd g a0)), (1, .int i1), (2, .int i2), (3, .int i3), (4, .int i4), (5, .int i5), (6, .int i6)] [] M
  refine v_aload_n F dX11_barred_0 rfl 0 rfl ?_
  refine v_iconst (v := 0) F dX11_barred_1 (by decide) ?_
  refine v_put (k := 0) (ty := .int) F t0 (by decide) (inc inU_11) tyX11 tyX11_ok nmX11 rfl rfl (by decide) (List.mem_cons_of_mem _ fl_X11_83) rfl rfl (by decide +kernel) rfl rfl dX11_barred_2 ?_
  refine v_aload_n F dX11_barred_5 rfl 0 rfl ?_
  refine v_aload_n F dX11_barred_6 rfl 0 rfl ?_
  refine v_iload_n F dX11_barred_7 rfl 1 rfl ?_
  obtain ⟨⟨r1, M2⟩, hz3, h⟩ := bd_some h
  dsimp only at h
  refine v_callVi (As := [.int i1]) (rest := [.ref (gAd g a0)]) F (c_X11_isLaw l F.2.2.1 t0 hz3) (cwV 1 F.1.2.2.2.2 (gU_V ml_X11_242 im_yX11_isLaw se_yX11_isLaw ini_X11 cd_X11_isLaw) rfl rfl rfl (by decide +kernel) ⟨Nat.le_of_ble_eq_true rfl, Nat.le_of_ble_eq_true rfl⟩) t0 (by decide) rfl rfl rfl (Nat.le_of_ble_eq_true rfl) dX11_barred_8 ⟨Nat.le_of_ble_eq_true rfl, Nat.le_of_ble_eq_true rfl⟩ ?_
  refine v_if_ne (tgt := 18) F dX11_barred_11 (by decide) (fun hc5 => ?_) (fun hc5 => ?_)
  · rw [if_neg hc5] at h
    refine v_iconst (v := 0) F dX11_barred_18 (by decide) ?_
    exact w_X11_barred_b19 F hr hlk t0 _ _ _ t0 h
  · rw [if_pos hc5] at h
    refine v_iconst (v := 1) F dX11_barred_14 (by decide) ?_
    refine v_goto (tgt := 19) F dX11_barred_15 (by decide) ?_
    exact w_X11_barred_b19 F hr hlk t0 _ _ _ t0 h
def f_X11_shut_b133 (a0 : Nat) (i1 : Int32) (i2 : Int32) (i3 : Int32) (i4 : Int32) (i5 : Int32) (i6 : Int32) (k98 : Int32 → Int32 → Mem → Option (Int32 × Mem)) (s0 : Int32) (x8 : Int32) (M : Mem) : Option (Int32 × Mem) := k98 s0 (x8 + 1) M
def f_X11_shut_b141 (a0 : Nat) (i1 : Int32) (i2 : Int32) (i3 : Int32) (i4 : Int32) (i5 : Int32) (i6 : Int32)  (x7 : Int32) (M : Mem) : Option (Int32 × Mem) := (f_X11_laysBack M a0).bind fun q => match q with | (r51, M52) => (some (x7, M52))
def f_X11_shut_h98 (a0 : Nat) (i1 : Int32) (i2 : Int32) (i3 : Int32) (i4 : Int32) (i5 : Int32) (i6 : Int32)  : Nat → Int32 → Int32 → Mem → Option (Int32 × Mem)
  | 0, _, _, _ => none
  | n + 1, x7, x8, M => if 100 < x8 then (f_X11_shut_b141 a0 i1 i2 i3 i4 i5 i6 x7 M) else (if x7 = (-1) then ((f_X11_tick M a0 i1 i2).bind fun q => match q with | (r42, M43) => ((f_X11_sizeOf M43 a0 i3).bind fun q => match q with | (r46, M47) => (if r46 ≤ i6 then (f_X11_shut_b133 a0 i1 i2 i3 i4 i5 i6 (f_X11_shut_h98 a0 i1 i2 i3 i4 i5 i6 n) (-1) x8 M47) else (f_X11_shut_b133 a0 i1 i2 i3 i4 i5 i6 (f_X11_shut_h98 a0 i1 i2 i3 i4 i5 i6 n) x8 x8 M47)))) else (f_X11_shut_b141 a0 i1 i2 i3 i4 i5 i6 x7 M))
def f_X11_shut_b74 (a0 : Nat) (i1 : Int32) (i2 : Int32) (i3 : Int32) (i4 : Int32) (i5 : Int32) (i6 : Int32)  (s0 : Nat) (s1 : Int32) (M : Mem) : Option (Int32 × Mem) := (f_X11_bad M s0 s1 2).bind fun q => match q with | (r31, M32) => (if r31 = 0 then ((f_X11_begins M32 a0 i3 i4 i5).bind fun q => match q with | (r36, M37) => (f_X11_shut_h98 a0 i1 i2 i3 i4 i5 i6 FU (-1) 1 M37)) else (some (0, M32)))
def f_X11_shut_b69 (a0 : Nat) (i1 : Int32) (i2 : Int32) (i3 : Int32) (i4 : Int32) (i5 : Int32) (i6 : Int32)  (s0 : Nat) (M : Mem) : Option (Int32 × Mem) := f_X11_shut_b74 a0 i1 i2 i3 i4 i5 i6 s0 1 M
def f_X11_shut_b19 (a0 : Nat) (i1 : Int32) (i2 : Int32) (i3 : Int32) (i4 : Int32) (i5 : Int32) (i6 : Int32)  (s0 : Nat) (s1 : Int32) (M : Mem) : Option (Int32 × Mem) := (f_X11_bad M s0 s1 1).bind fun q => match q with | (r6, M7) => (if r6 = 0 then ((f_X11_in M7 i2 0 99).bind fun q => match q with | (r11, M12) => (if r11 = 0 then (f_X11_shut_b69 a0 i1 i2 i3 i4 i5 i6 a0 M12) else ((f_X11_isShape M12 i3 i4).bind fun q => match q with | (r16, M17) => (if r16 = 0 then (f_X11_shut_b69 a0 i1 i2 i3 i4 i5 i6 a0 M17) else ((f_X11_in M17 i5 1 9999).bind fun q => match q with | (r21, M22) => (if r21 = 0 then (f_X11_shut_b69 a0 i1 i2 i3 i4 i5 i6 a0 M22) else ((f_X11_in M22 i6 0 1000000).bind fun q => match q with | (r26, M27) => (if r26 = 0 then (f_X11_shut_b69 a0 i1 i2 i3 i4 i5 i6 a0 M27) else (f_X11_shut_b74 a0 i1 i2 i3 i4 i5 i6 a0 0 M27))))))))) else (some (0, M7)))
def f_X11_shut  (M : Mem) (a0 : Nat) (i1 : Int32) (i2 : Int32) (i3 : Int32) (i4 : Int32) (i5 : Int32) (i6 : Int32) : Option (Int32 × Mem) := (f_X11_isLaw (mU M a0 0 0) a0 i1).bind fun q => match q with | (r1, M2) => (if r1 = 0 then (f_X11_shut_b19 a0 i1 i2 i3 i4 i5 i6 a0 1 M2) else (f_X11_shut_b19 a0 i1 i2 i3 i4 i5 i6 a0 0 M2))
set_option maxHeartbeats 4000000 in
set_option maxRecDepth 100000 in
theorem w_X11_shut_b133 {g : gT} {p : Program} {l : Launch} {e : Env} {s : State} {m : MethodId} {args : Array Value} {below : List Frame} {meth : Method} {c : Code} {z : Int32 × Mem} (F : Fx g p s m args c cX11_shut 9 uX11_shut RX11) (hr : meth.sig.returnType = (some .int)) (hlk : meth.locks = false)  {a0 : Nat} {i1 : Int32} {i2 : Int32} {i3 : Int32} {i4 : Int32} {i5 : Int32} {i6 : Int32} (t0 : Ty g 11 a0) {k98 : Int32 → Int32 → Mem → Option (Int32 × Mem)} (hk98 : ∀ (x7 : Int32) (x8 : Int32) (M : Mem), k98 x7 x8 M = some z → V g p l e ({ frames := 3, cells := 0, slots := 0, locals := 40 * 3 } : Room) s m args below meth c 9 0 0 (MQ below (gQ g (some (.int z.1)) z.2) args s 0 0 (gA g)) 98 [(0, .ref (gAd g a0)), (1, .int i1), (2, .int i2), (3, .int i3), (4, .int i4), (5, .int i5), (6, .int i6), (7, .int x7), (8, .int x8)] [] M) (s0 : Int32) (x8 : Int32) (M : Mem)  (h : f_X11_shut_b133 a0 i1 i2 i3 i4 i5 i6 k98 s0 x8 M = some z) : V g p l e ({ frames := 3, cells := 0, slots := 0, locals := 40 * 3 } : Room) s m args below meth c 9 0 0 (MQ below (gQ g (some (.int z.1)) z.2) args s 0 0 (gA g)) 133 [(0, .ref (gAd g a0)), (1, .int i1), (2, .int i2), (3, .int i3), (4, .int i4), (5, .int i5), (6, .int i6), (8, .int x8)] [.int s0] M := by
  unfold f_X11_shut_b133 at h
  refine v_istore (lv' := [(7, .int s0), (0, .ref (gAd g a0)), (1, .int i1), (2, .int i2), (3, .int i3), (4, .int i4), (5, .int i5), (6, .int i6), (8, .int x8)]) F dX11_shut_133 (by decide) rfl ?_
  refine v_iinc (v := x8 + 1) (lv' := [(8, .int (x8 + 1)), (7, .int s0), (0, .ref (gAd g a0)), (1, .int i1), (2, .int i2), (3, .int i3), (4, .int i4), (5, .int i5), (6, .int i6)]) F dX11_shut_135 (q := 8) rfl rfl (by decide) rfl ?_
  refine v_goto (tgt := 98) F dX11_shut_138 (by decide) ?_
  refine v_sub (fun ls h9 => lv_sub h9 [2, 3, 4, 5, 6, 7, 8, 1, 0] rfl) ?_
  exact hk98 _ _ _ h
set_option maxHeartbeats 4000000 in
set_option maxRecDepth 100000 in
theorem w_X11_shut_b141 {g : gT} {p : Program} {l : Launch} {e : Env} {s : State} {m : MethodId} {args : Array Value} {below : List Frame} {meth : Method} {c : Code} {z : Int32 × Mem} (F : Fx g p s m args c cX11_shut 9 uX11_shut RX11) (hr : meth.sig.returnType = (some .int)) (hlk : meth.locks = false)  {a0 : Nat} {i1 : Int32} {i2 : Int32} {i3 : Int32} {i4 : Int32} {i5 : Int32} {i6 : Int32} (t0 : Ty g 11 a0)   (x7 : Int32) (M : Mem)  (h : f_X11_shut_b141 a0 i1 i2 i3 i4 i5 i6 x7 M = some z) : V g p l e ({ frames := 3, cells := 0, slots := 0, locals := 40 * 3 } : Room) s m args below meth c 9 0 0 (MQ below (gQ g (some (.int z.1)) z.2) args s 0 0 (gA g)) 141 [(0, .ref (gAd g a0)), (1, .int i1), (2, .int i2), (3, .int i3), (4, .int i4), (5, .int i5), (6, .int i6), (7, .int x7)] [] M := by
  unfold f_X11_shut_b141 at h
  refine v_aload_n F dX11_shut_141 rfl 0 rfl ?_
  obtain ⟨⟨r51, M52⟩, hz53, h⟩ := bd_some h
  dsimp only at h
  refine v_callVv (As := []) (rest := []) F (c_X11_laysBack l F.2.2.1 t0 hz53) (cwV 0 F.1.2.2.2.2 (gU_V ml_X11_257 im_yX11_laysBack se_yX11_laysBack ini_X11 cd_X11_laysBack) rfl rfl rfl (by decide +kernel) ⟨Nat.le_of_ble_eq_true rfl, Nat.le_of_ble_eq_true rfl⟩) t0 (by decide) rfl rfl rfl (Nat.le_of_ble_eq_true rfl) dX11_shut_142 ⟨Nat.le_of_ble_eq_true rfl, Nat.le_of_ble_eq_true rfl⟩ ?_
  refine v_iload F dX11_shut_145 7 rfl ?_
  cases h
  exact v_iret F hr rfl hlk dX11_shut_147
set_option maxHeartbeats 4000000 in
set_option maxRecDepth 100000 in
theorem w_X11_shut_h98 {g : gT} {p : Program} {l : Launch} {e : Env} {s : State} {m : MethodId} {args : Array Value} {below : List Frame} {meth : Method} {c : Code} {z : Int32 × Mem} (F : Fx g p s m args c cX11_shut 9 uX11_shut RX11) (hr : meth.sig.returnType = (some .int)) (hlk : meth.locks = false)  {a0 : Nat} {i1 : Int32} {i2 : Int32} {i3 : Int32} {i4 : Int32} {i5 : Int32} {i6 : Int32} (t0 : Ty g 11 a0)   : ∀ (n : Nat) (x7 : Int32) (x8 : Int32) (M : Mem), f_X11_shut_h98 a0 i1 i2 i3 i4 i5 i6 n x7 x8 M = some z → V g p l e ({ frames := 3, cells := 0, slots := 0, locals := 40 * 3 } : Room) s m args below meth c 9 0 0 (MQ below (gQ g (some (.int z.1)) z.2) args s 0 0 (gA g)) 98 [(0, .ref (gAd g a0)), (1, .int i1), (2, .int i2), (3, .int i3), (4, .int i4), (5, .int i5), (6, .int i6), (7, .int x7), (8, .int x8)] [] M := by
  intro n
  induction n with
  | zero => intro x7 x8 M; intros; rename_i h; cases h
  | succ n ih =>
    intro x7 x8 M h
    rw [f_X11_shut_h98] at h
    refine v_iload F dX11_shut_98 8 rfl ?_
    refine v_bipush (v := 100) F dX11_shut_100 (by decide) ?_
    refine v_icmp_gt (tgt := 141) F dX11_shut_102 (by decide) (fun hc40 => ?_) (fun hc40 => ?_)
    · rw [if_pos hc40] at h
      refine v_sub (fun ls h9 => lv_sub h9 [0, 1, 2, 3, 4, 5, 6, 7] rfl) ?_
      exact w_X11_shut_b141 F hr hlk t0 _ _ h
    · rw [if_neg hc40] at h
      refine v_iload F dX11_shut_105 7 rfl ?_
      refine v_iconst (v := (-1)) F dX11_shut_107 (by decide) ?_
      refine v_icmp_ne (tgt := 141) F dX11_shut_108 (by decide) (fun hc41 => ?_) (fun hc41 => ?_)
      · rw [if_neg hc41] at h
        refine v_sub (fun ls h9 => lv_sub h9 [0, 1, 2, 3, 4, 5, 6, 7] rfl) ?_
        exact w_X11_shut_b141 F hr hlk t0 _ _ h
      · rw [if_pos hc41] at h
        refine v_aload_n F dX11_shut_111 rfl 0 rfl ?_
        refine v_iload_n F dX11_shut_112 rfl 1 rfl ?_
        refine v_iload_n F dX11_shut_113 rfl 2 rfl ?_
        obtain ⟨⟨r42, M43⟩, hz44, h⟩ := bd_some h
        dsimp only at h
        refine v_callVv (As := [.int i1, .int i2]) (rest := []) F (c_X11_tick l F.2.2.1 t0 hz44) (cwV 2 F.1.2.2.2.2 (gU_V ml_X11_245 im_yX11_tick se_yX11_tick ini_X11 cd_X11_tick) rfl rfl rfl (by decide +kernel) ⟨Nat.le_of_ble_eq_true rfl, Nat.le_of_ble_eq_true rfl⟩) t0 (by decide) rfl rfl rfl (Nat.le_of_ble_eq_true rfl) dX11_shut_114 ⟨Nat.le_of_ble_eq_true rfl, Nat.le_of_ble_eq_true rfl⟩ ?_
        refine v_aload_n F dX11_shut_117 rfl 0 rfl ?_
        refine v_iload_n F dX11_shut_118 rfl 3 rfl ?_
        obtain ⟨⟨r46, M47⟩, hz48, h⟩ := bd_some h
        dsimp only at h
        refine v_callVi (As := [.int i3]) (rest := []) F (c_X11_sizeOf l F.2.2.1 t0 hz48) (cwV 1 F.1.2.2.2.2 (gU_V ml_X11_221 im_yX11_sizeOf se_yX11_sizeOf ini_X11 cd_X11_sizeOf) rfl rfl rfl (by decide +kernel) ⟨Nat.le_of_ble_eq_true rfl, Nat.le_of_ble_eq_true rfl⟩) t0 (by decide) rfl rfl rfl (Nat.le_of_ble_eq_true rfl) dX11_shut_119 ⟨Nat.le_of_ble_eq_true rfl, Nat.le_of_ble_eq_true rfl⟩ ?_
        refine v_iload F dX11_shut_122 6 rfl ?_
        refine v_icmp_le (tgt := 132) F dX11_shut_124 (by decide) (fun hc50 => ?_) (fun hc50 => ?_)
        · rw [if_pos hc50] at h
          refine v_iconst (v := (-1)) F dX11_shut_132 (by decide) ?_
          refine v_sub (fun ls h9 => lv_sub h9 [0, 1, 2, 3, 4, 5, 6, 8] rfl) ?_
          exact w_X11_shut_b133 F hr hlk t0 ih _ _ _ h
        · rw [if_neg hc50] at h
          refine v_iload F dX11_shut_127 8 rfl ?_
          refine v_goto (tgt := 133) F dX11_shut_129 (by decide) ?_
          refine v_sub (fun ls h9 => lv_sub h9 [0, 1, 2, 3, 4, 5, 6, 8] rfl) ?_
          exact w_X11_shut_b133 F hr hlk t0 ih _ _ _ h
set_option maxHeartbeats 4000000 in
set_option maxRecDepth 100000 in
theorem w_X11_shut_b74 {g : gT} {p : Program} {l : Launch} {e : Env} {s : State} {m : MethodId} {args : Array Value} {below : List Frame} {meth : Method} {c : Code} {z : Int32 × Mem} (F : Fx g p s m args c cX11_shut 9 uX11_shut RX11) (hr : meth.sig.returnType = (some .int)) (hlk : meth.locks = false)  {a0 : Nat} {i1 : Int32} {i2 : Int32} {i3 : Int32} {i4 : Int32} {i5 : Int32} {i6 : Int32} (t0 : Ty g 11 a0)   (s0 : Nat) (s1 : Int32) (M : Mem) (ts0 : Ty g 11 s0) (h : f_X11_shut_b74 a0 i1 i2 i3 i4 i5 i6 s0 s1 M = some z) : V g p l e ({ frames := 3, cells := 0, slots := 0, locals := 40 * 3 } : Room) s m args below meth c 9 0 0 (MQ below (gQ g (some (.int z.1)) z.2) args s 0 0 (gA g)) 74 [(0, .ref (gAd g a0)), (1, .int i1), (2, .int i2), (3, .int i3), (4, .int i4), (5, .int i5), (6, .int i6)] [.int s1, .ref (gAd g s0)] M := by
  unfold f_X11_shut_b74 at h
  refine v_iconst (v := 2) F dX11_shut_74 (by decide) ?_
  obtain ⟨⟨r31, M32⟩, hz33, h⟩ := bd_some h
  dsimp only at h
  refine v_callVi (As := [.int s1, .int 2]) (rest := []) F (c_X11_bad l F.2.2.1 ts0 hz33) (cwV 2 F.1.2.2.2.2 (gU_V ml_X11_176 im_yX11_bad se_yX11_bad ini_X11 cd_X11_bad) rfl rfl rfl (by decide +kernel) ⟨Nat.le_of_ble_eq_true rfl, Nat.le_of_ble_eq_true rfl⟩) ts0 (by decide) rfl rfl rfl (Nat.le_of_ble_eq_true rfl) dX11_shut_75 ⟨Nat.le_of_ble_eq_true rfl, Nat.le_of_ble_eq_true rfl⟩ ?_
  refine v_if_eq (tgt := 83) F dX11_shut_78 (by decide) (fun hc35 => ?_) (fun hc35 => ?_)
  · rw [if_pos hc35] at h
    refine v_aload_n F dX11_shut_83 rfl 0 rfl ?_
    refine v_iload_n F dX11_shut_84 rfl 3 rfl ?_
    refine v_iload F dX11_shut_85 4 rfl ?_
    refine v_iload F dX11_shut_87 5 rfl ?_
    obtain ⟨⟨r36, M37⟩, hz38, h⟩ := bd_some h
    dsimp only at h
    refine v_callVv (As := [.int i3, .int i4, .int i5]) (rest := []) F (c_X11_begins l F.2.2.1 t0 hz38) (cwV 3 F.1.2.2.2.2 (gU_V ml_X11_254 im_yX11_begins se_yX11_begins ini_X11 cd_X11_begins) rfl rfl rfl (by decide +kernel) ⟨Nat.le_of_ble_eq_true rfl, Nat.le_of_ble_eq_true rfl⟩) t0 (by decide) rfl rfl rfl (Nat.le_of_ble_eq_true rfl) dX11_shut_89 ⟨Nat.le_of_ble_eq_true rfl, Nat.le_of_ble_eq_true rfl⟩ ?_
    refine v_iconst (v := (-1)) F dX11_shut_92 (by decide) ?_
    refine v_istore (lv' := [(7, .int (-1)), (0, .ref (gAd g a0)), (1, .int i1), (2, .int i2), (3, .int i3), (4, .int i4), (5, .int i5), (6, .int i6)]) F dX11_shut_93 (by decide) rfl ?_
    refine v_iconst (v := 1) F dX11_shut_95 (by decide) ?_
    refine v_istore (lv' := [(8, .int 1), (7, .int (-1)), (0, .ref (gAd g a0)), (1, .int i1), (2, .int i2), (3, .int i3), (4, .int i4), (5, .int i5), (6, .int i6)]) F dX11_shut_96 (by decide) rfl ?_
    refine v_sub (fun ls h9 => lv_sub h9 [2, 3, 4, 5, 6, 7, 8, 1, 0] rfl) ?_
    exact w_X11_shut_h98 F hr hlk t0 _ _ _ _ h
  · rw [if_neg hc35] at h
    refine v_iconst (v := 0) F dX11_shut_81 (by decide) ?_
    cases h
    exact v_iret F hr rfl hlk dX11_shut_82
set_option maxHeartbeats 4000000 in
set_option maxRecDepth 100000 in
theorem w_X11_shut_b69 {g : gT} {p : Program} {l : Launch} {e : Env} {s : State} {m : MethodId} {args : Array Value} {below : List Frame} {meth : Method} {c : Code} {z : Int32 × Mem} (F : Fx g p s m args c cX11_shut 9 uX11_shut RX11) (hr : meth.sig.returnType = (some .int)) (hlk : meth.locks = false)  {a0 : Nat} {i1 : Int32} {i2 : Int32} {i3 : Int32} {i4 : Int32} {i5 : Int32} {i6 : Int32} (t0 : Ty g 11 a0)   (s0 : Nat) (M : Mem) (ts0 : Ty g 11 s0) (h : f_X11_shut_b69 a0 i1 i2 i3 i4 i5 i6 s0 M = some z) : V g p l e ({ frames := 3, cells := 0, slots := 0, locals := 40 * 3 } : Room) s m args below meth c 9 0 0 (MQ below (gQ g (some (.int z.1)) z.2) args s 0 0 (gA g)) 69 [(0, .ref (gAd g a0)), (1, .int i1), (2, .int i2), (3, .int i3), (4, .int i4), (5, .int i5), (6, .int i6)] [.ref (gAd g s0)] M := by
  unfold f_X11_shut_b69 at h
  refine v_iconst (v := 1) F dX11_shut_69 (by decide) ?_
  refine v_goto (tgt := 74) F dX11_shut_70 (by decide) ?_
  exact w_X11_shut_b74 F hr hlk t0 _ _ _ ts0 h
set_option maxHeartbeats 4000000 in
set_option maxRecDepth 100000 in
theorem w_X11_shut_b19 {g : gT} {p : Program} {l : Launch} {e : Env} {s : State} {m : MethodId} {args : Array Value} {below : List Frame} {meth : Method} {c : Code} {z : Int32 × Mem} (F : Fx g p s m args c cX11_shut 9 uX11_shut RX11) (hr : meth.sig.returnType = (some .int)) (hlk : meth.locks = false)  {a0 : Nat} {i1 : Int32} {i2 : Int32} {i3 : Int32} {i4 : Int32} {i5 : Int32} {i6 : Int32} (t0 : Ty g 11 a0)   (s0 : Nat) (s1 : Int32) (M : Mem) (ts0 : Ty g 11 s0) (h : f_X11_shut_b19 a0 i1 i2 i3 i4 i5 i6 s0 s1 M = some z) : V g p l e ({ frames := 3, cells := 0, slots := 0, locals := 40 * 3 } : Room) s m args below meth c 9 0 0 (MQ below (gQ g (some (.int z.1)) z.2) args s 0 0 (gA g)) 19 [(0, .ref (gAd g a0)), (1, .int i1), (2, .int i2), (3, .int i3), (4, .int i4), (5, .int i5), (6, .int i6)] [.int s1, .ref (gAd g s0)] M := by
  unfold f_X11_shut_b19 at h
  refine v_iconst (v := 1) F dX11_shut_19 (by decide) ?_
  obtain ⟨⟨r6, M7⟩, hz8, h⟩ := bd_some h
  dsimp only at h
  refine v_callVi (As := [.int s1, .int 1]) (rest := []) F (c_X11_bad l F.2.2.1 ts0 hz8) (cwV 2 F.1.2.2.2.2 (gU_V ml_X11_176 im_yX11_bad se_yX11_bad ini_X11 cd_X11_bad) rfl rfl rfl (by decide +kernel) ⟨Nat.le_of_ble_eq_true rfl, Nat.le_of_ble_eq_true rfl⟩) ts0 (by decide) rfl rfl rfl (Nat.le_of_ble_eq_true rfl) dX11_shut_20 ⟨Nat.le_of_ble_eq_true rfl, Nat.le_of_ble_eq_true rfl⟩ ?_
  refine v_if_ne (tgt := 81) F dX11_shut_23 (by decide) (fun hc10 => ?_) (fun hc10 => ?_)
  · rw [if_neg hc10] at h
    refine v_iconst (v := 0) F dX11_shut_81 (by decide) ?_
    cases h
    exact v_iret F hr rfl hlk dX11_shut_82
  · rw [if_pos hc10] at h
    refine v_aload_n F dX11_shut_26 rfl 0 rfl ?_
    refine v_iload_n F dX11_shut_27 rfl 2 rfl ?_
    refine v_iconst (v := 0) F dX11_shut_28 (by decide) ?_
    refine v_bipush (v := 99) F dX11_shut_29 (by decide) ?_
    obtain ⟨⟨r11, M12⟩, hz13, h⟩ := bd_some h
    dsimp only at h
    refine v_callSi (As := [.int i2, .int 0, .int 99]) (rest := [.ref (gAd g a0)]) F (c_X11_in l F.2.2.1  hz13) (cwS 3 F.1.2.2.2.2 (gU_S ml_X11_172 st_yX11_in ini_X11 cd_X11_in) rfl rfl rfl (by decide +kernel) ⟨Nat.le_of_ble_eq_true rfl, Nat.le_of_ble_eq_true rfl⟩) rfl rfl (Nat.le_of_ble_eq_true rfl) dX11_shut_31 ⟨Nat.le_of_ble_eq_true rfl, Nat.le_of_ble_eq_true rfl⟩ ?_
    refine v_if_eq (tgt := 69) F dX11_shut_34 (by decide) (fun hc15 => ?_) (fun hc15 => ?_)
    · rw [if_pos hc15] at h
      exact w_X11_shut_b69 F hr hlk t0 _ _ t0 h
    · rw [if_neg hc15] at h
      refine v_iload_n F dX11_shut_37 rfl 3 rfl ?_
      refine v_iload F dX11_shut_38 4 rfl ?_
      obtain ⟨⟨r16, M17⟩, hz18, h⟩ := bd_some h
      dsimp only at h
      refine v_callSi (As := [.int i3, .int i4]) (rest := [.ref (gAd g a0)]) F (c_X11_isShape l F.2.2.1  hz18) (cwS 2 F.1.2.2.2.2 (gU_S ml_X11_213 st_yX11_isShape ini_X11 cd_X11_isShape) rfl rfl rfl (by decide +kernel) ⟨Nat.le_of_ble_eq_true rfl, Nat.le_of_ble_eq_true rfl⟩) rfl rfl (Nat.le_of_ble_eq_true rfl) dX11_shut_40 ⟨Nat.le_of_ble_eq_true rfl, Nat.le_of_ble_eq_true rfl⟩ ?_
      refine v_if_eq (tgt := 69) F dX11_shut_43 (by decide) (fun hc20 => ?_) (fun hc20 => ?_)
      · rw [if_pos hc20] at h
        exact w_X11_shut_b69 F hr hlk t0 _ _ t0 h
      · rw [if_neg hc20] at h
        refine v_iload F dX11_shut_46 5 rfl ?_
        refine v_iconst (v := 1) F dX11_shut_48 (by decide) ?_
        refine v_sipush (v := 9999) F dX11_shut_49 (by decide) ?_
        obtain ⟨⟨r21, M22⟩, hz23, h⟩ := bd_some h
        dsimp only at h
        refine v_callSi (As := [.int i5, .int 1, .int 9999]) (rest := [.ref (gAd g a0)]) F (c_X11_in l F.2.2.1  hz23) (cwS 3 F.1.2.2.2.2 (gU_S ml_X11_172 st_yX11_in ini_X11 cd_X11_in) rfl rfl rfl (by decide +kernel) ⟨Nat.le_of_ble_eq_true rfl, Nat.le_of_ble_eq_true rfl⟩) rfl rfl (Nat.le_of_ble_eq_true rfl) dX11_shut_52 ⟨Nat.le_of_ble_eq_true rfl, Nat.le_of_ble_eq_true rfl⟩ ?_
        refine v_if_eq (tgt := 69) F dX11_shut_55 (by decide) (fun hc25 => ?_) (fun hc25 => ?_)
        · rw [if_pos hc25] at h
          exact w_X11_shut_b69 F hr hlk t0 _ _ t0 h
        · rw [if_neg hc25] at h
          refine v_iload F dX11_shut_58 6 rfl ?_
          refine v_iconst (v := 0) F dX11_shut_60 (by decide) ?_
          refine v_ldc (v := 1000000) F (F.1.2.2.2.2 _ (List.mem_cons_of_mem _ cn_X11_241)) dX11_shut_61 ?_
          obtain ⟨⟨r26, M27⟩, hz28, h⟩ := bd_some h
          dsimp only at h
          refine v_callSi (As := [.int i6, .int 0, .int 1000000]) (rest := [.ref (gAd g a0)]) F (c_X11_in l F.2.2.1  hz28) (cwS 3 F.1.2.2.2.2 (gU_S ml_X11_172 st_yX11_in ini_X11 cd_X11_in) rfl rfl rfl (by decide +kernel) ⟨Nat.le_of_ble_eq_true rfl, Nat.le_of_ble_eq_true rfl⟩) rfl rfl (Nat.le_of_ble_eq_true rfl) dX11_shut_63 ⟨Nat.le_of_ble_eq_true rfl, Nat.le_of_ble_eq_true rfl⟩ ?_
          refine v_if_ne (tgt := 73) F dX11_shut_66 (by decide) (fun hc30 => ?_) (fun hc30 => ?_)
          · rw [if_neg hc30] at h
            refine v_iconst (v := 0) F dX11_shut_73 (by decide) ?_
            exact w_X11_shut_b74 F hr hlk t0 _ _ _ t0 h
          · rw [if_pos hc30] at h
            exact w_X11_shut_b69 F hr hlk t0 _ _ t0 h
set_option maxHeartbeats 4000000 in
set_option maxRecDepth 100000 in
theorem c_X11_shut {g : gT} (l : Launch) (hok : gOK g)  {a0 : Nat} {i1 : Int32} {i2 : Int32} {i3 : Int32} {i4 : Int32} {i5 : Int32} {i6 : Int32} {M : Mem} {z : Int32 × Mem}  (t0 : Ty g 11 a0) (h : f_X11_shut  M a0 i1 i2 i3 i4 i5 i6 = some z) : Cn g l yX11_shut uX11_shut 3 [.ref (gAd g a0), .int i1, .int i2, .int i3, .int i4, .int i5, .int i6] M (some (.int z.1)) z.2 := by
  refine Cn.of (cc := cX11_shut) (maxL := 9) (ret := (some .int)) hok (by decide) rfl (Nat.le_of_ble_eq_true rfl) (fun p e s m args below meth c F hr hlk => ?_)
  unfold f_X11_shut at h
  show V g p l e ({ frames := 3, cells := 0, slots := 0, locals := 40 * 3 } : Room) s m args below meth c 9 0 0 (MQ below (gQ g (some (.int z.1)) z.2) args s 0 0 (gA g)) 0 [(0, .ref (gAd g a0)), (1, .int i1), (2, .int i2), (3, .int i3), (4, .int i4), (5, .int i5), (6, .int i6)] [] M
  refine v_aload_n F dX11_shut_0 rfl 0 rfl ?_
  refine v_iconst (v := 0) F dX11_shut_1 (by decide) ?_
  refine v_put (k := 0) (ty := .int) F t0 (by decide) (inc inU_11) tyX11 tyX11_ok nmX11 rfl rfl (by decide) (List.mem_cons_of_mem _ fl_X11_83) rfl rfl (by decide +kernel) rfl rfl dX11_shut_2 ?_
  refine v_aload_n F dX11_shut_5 rfl 0 rfl ?_
  refine v_aload_n F dX11_shut_6 rfl 0 rfl ?_
  refine v_iload_n F dX11_shut_7 rfl 1 rfl ?_
  obtain ⟨⟨r1, M2⟩, hz3, h⟩ := bd_some h
  dsimp only at h
  refine v_callVi (As := [.int i1]) (rest := [.ref (gAd g a0)]) F (c_X11_isLaw l F.2.2.1 t0 hz3) (cwV 1 F.1.2.2.2.2 (gU_V ml_X11_242 im_yX11_isLaw se_yX11_isLaw ini_X11 cd_X11_isLaw) rfl rfl rfl (by decide +kernel) ⟨Nat.le_of_ble_eq_true rfl, Nat.le_of_ble_eq_true rfl⟩) t0 (by decide) rfl rfl rfl (Nat.le_of_ble_eq_true rfl) dX11_shut_8 ⟨Nat.le_of_ble_eq_true rfl, Nat.le_of_ble_eq_true rfl⟩ ?_
  refine v_if_ne (tgt := 18) F dX11_shut_11 (by decide) (fun hc5 => ?_) (fun hc5 => ?_)
  · rw [if_neg hc5] at h
    refine v_iconst (v := 0) F dX11_shut_18 (by decide) ?_
    exact w_X11_shut_b19 F hr hlk t0 _ _ _ t0 h
  · rw [if_pos hc5] at h
    refine v_iconst (v := 1) F dX11_shut_14 (by decide) ?_
    refine v_goto (tgt := 19) F dX11_shut_15 (by decide) ?_
    exact w_X11_shut_b19 F hr hlk t0 _ _ _ t0 h
def f_X11_mend_b44 (a0 : Nat) (i1 : Int32) (i2 : Int32) (i3 : Int32)  (s0 : Nat) (s1 : Int32) (M : Mem) : Option (Int32 × Mem) := (f_X11_bad M s0 s1 1).bind fun q => match q with | (r16, M17) => (if r16 = 0 then (if (M17 a0 32) = 5 then (some ((-1), M17)) else (if ¬ ((M17 a0 32) < 0 ∨ gN (gRf a0 37) ≤ (M17 a0 32 : Int32).toNatClampNeg) then (if ¬ ((0 : Int32) < 0 ∨ gN (gRf (gRf a0 37) (M17 a0 32 : Int32).toNatClampNeg) ≤ (0 : Int32).toNatClampNeg) then (if ¬ (((mU M17 (gRf (gRf a0 37) (M17 a0 32 : Int32).toNatClampNeg) (0 : Int32).toNatClampNeg i1) a0 32) < 0 ∨ gN (gRf a0 37) ≤ ((mU M17 (gRf (gRf a0 37) (M17 a0 32 : Int32).toNatClampNeg) (0 : Int32).toNatClampNeg i1) a0 32 : Int32).toNatClampNeg) then (if ¬ ((1 : Int32) < 0 ∨ gN (gRf (gRf a0 37) ((mU M17 (gRf (gRf a0 37) (M17 a0 32 : Int32).toNatClampNeg) (0 : Int32).toNatClampNeg i1) a0 32 : Int32).toNatClampNeg) ≤ (1 : Int32).toNatClampNeg) then (if ¬ (((mU (mU M17 (gRf (gRf a0 37) (M17 a0 32 : Int32).toNatClampNeg) (0 : Int32).toNatClampNeg i1) (gRf (gRf a0 37) ((mU M17 (gRf (gRf a0 37) (M17 a0 32 : Int32).toNatClampNeg) (0 : Int32).toNatClampNeg i1) a0 32 : Int32).toNatClampNeg) (1 : Int32).toNatClampNeg i2) a0 32) < 0 ∨ gN (gRf a0 37) ≤ ((mU (mU M17 (gRf (gRf a0 37) (M17 a0 32 : Int32).toNatClampNeg) (0 : Int32).toNatClampNeg i1) (gRf (gRf a0 37) ((mU M17 (gRf (gRf a0 37) (M17 a0 32 : Int32).toNatClampNeg) (0 : Int32).toNatClampNeg i1) a0 32 : Int32).toNatClampNeg) (1 : Int32).toNatClampNeg i2) a0 32 : Int32).toNatClampNeg) then (if ¬ ((2 : Int32) < 0 ∨ gN (gRf (gRf a0 37) ((mU (mU M17 (gRf (gRf a0 37) (M17 a0 32 : Int32).toNatClampNeg) (0 : Int32).toNatClampNeg i1) (gRf (gRf a0 37) ((mU M17 (gRf (gRf a0 37) (M17 a0 32 : Int32).toNatClampNeg) (0 : Int32).toNatClampNeg i1) a0 32 : Int32).toNatClampNeg) (1 : Int32).toNatClampNeg i2) a0 32 : Int32).toNatClampNeg) ≤ (2 : Int32).toNatClampNeg) then (some (((mU (mU (mU (mU M17 (gRf (gRf a0 37) (M17 a0 32 : Int32).toNatClampNeg) (0 : Int32).toNatClampNeg i1) (gRf (gRf a0 37) ((mU M17 (gRf (gRf a0 37) (M17 a0 32 : Int32).toNatClampNeg) (0 : Int32).toNatClampNeg i1) a0 32 : Int32).toNatClampNeg) (1 : Int32).toNatClampNeg i2) (gRf (gRf a0 37) ((mU (mU M17 (gRf (gRf a0 37) (M17 a0 32 : Int32).toNatClampNeg) (0 : Int32).toNatClampNeg i1) (gRf (gRf a0 37) ((mU M17 (gRf (gRf a0 37) (M17 a0 32 : Int32).toNatClampNeg) (0 : Int32).toNatClampNeg i1) a0 32 : Int32).toNatClampNeg) (1 : Int32).toNatClampNeg i2) a0 32 : Int32).toNatClampNeg) (2 : Int32).toNatClampNeg i3) a0 32 (((mU (mU (mU M17 (gRf (gRf a0 37) (M17 a0 32 : Int32).toNatClampNeg) (0 : Int32).toNatClampNeg i1) (gRf (gRf a0 37) ((mU M17 (gRf (gRf a0 37) (M17 a0 32 : Int32).toNatClampNeg) (0 : Int32).toNatClampNeg i1) a0 32 : Int32).toNatClampNeg) (1 : Int32).toNatClampNeg i2) (gRf (gRf a0 37) ((mU (mU M17 (gRf (gRf a0 37) (M17 a0 32 : Int32).toNatClampNeg) (0 : Int32).toNatClampNeg i1) (gRf (gRf a0 37) ((mU M17 (gRf (gRf a0 37) (M17 a0 32 : Int32).toNatClampNeg) (0 : Int32).toNatClampNeg i1) a0 32 : Int32).toNatClampNeg) (1 : Int32).toNatClampNeg i2) a0 32 : Int32).toNatClampNeg) (2 : Int32).toNatClampNeg i3) a0 32) + 1)) a0 32) - 1, (mU (mU (mU (mU M17 (gRf (gRf a0 37) (M17 a0 32 : Int32).toNatClampNeg) (0 : Int32).toNatClampNeg i1) (gRf (gRf a0 37) ((mU M17 (gRf (gRf a0 37) (M17 a0 32 : Int32).toNatClampNeg) (0 : Int32).toNatClampNeg i1) a0 32 : Int32).toNatClampNeg) (1 : Int32).toNatClampNeg i2) (gRf (gRf a0 37) ((mU (mU M17 (gRf (gRf a0 37) (M17 a0 32 : Int32).toNatClampNeg) (0 : Int32).toNatClampNeg i1) (gRf (gRf a0 37) ((mU M17 (gRf (gRf a0 37) (M17 a0 32 : Int32).toNatClampNeg) (0 : Int32).toNatClampNeg i1) a0 32 : Int32).toNatClampNeg) (1 : Int32).toNatClampNeg i2) a0 32 : Int32).toNatClampNeg) (2 : Int32).toNatClampNeg i3) a0 32 (((mU (mU (mU M17 (gRf (gRf a0 37) (M17 a0 32 : Int32).toNatClampNeg) (0 : Int32).toNatClampNeg i1) (gRf (gRf a0 37) ((mU M17 (gRf (gRf a0 37) (M17 a0 32 : Int32).toNatClampNeg) (0 : Int32).toNatClampNeg i1) a0 32 : Int32).toNatClampNeg) (1 : Int32).toNatClampNeg i2) (gRf (gRf a0 37) ((mU (mU M17 (gRf (gRf a0 37) (M17 a0 32 : Int32).toNatClampNeg) (0 : Int32).toNatClampNeg i1) (gRf (gRf a0 37) ((mU M17 (gRf (gRf a0 37) (M17 a0 32 : Int32).toNatClampNeg) (0 : Int32).toNatClampNeg i1) a0 32 : Int32).toNatClampNeg) (1 : Int32).toNatClampNeg i2) a0 32 : Int32).toNatClampNeg) (2 : Int32).toNatClampNeg i3) a0 32) + 1)))) else none) else none) else none) else none) else none) else none)) else (some (0, M17)))
def f_X11_mend_b39 (a0 : Nat) (i1 : Int32) (i2 : Int32) (i3 : Int32)  (s0 : Nat) (M : Mem) : Option (Int32 × Mem) := f_X11_mend_b44 a0 i1 i2 i3 s0 1 M
def f_X11_mend  (M : Mem) (a0 : Nat) (i1 : Int32) (i2 : Int32) (i3 : Int32) : Option (Int32 × Mem) := (f_X11_in (mU M a0 0 0) i1 0 9).bind fun q => match q with | (r1, M2) => (if r1 = 0 then (f_X11_mend_b39 a0 i1 i2 i3 a0 M2) else ((f_X11_in M2 i2 (-999999) 999999).bind fun q => match q with | (r6, M7) => (if r6 = 0 then (f_X11_mend_b39 a0 i1 i2 i3 a0 M7) else ((f_X11_in M7 i3 0 999).bind fun q => match q with | (r11, M12) => (if r11 = 0 then (f_X11_mend_b39 a0 i1 i2 i3 a0 M12) else (f_X11_mend_b44 a0 i1 i2 i3 a0 0 M12))))))
set_option maxHeartbeats 4000000 in
set_option maxRecDepth 100000 in
theorem w_X11_mend_b44 {g : gT} {p : Program} {l : Launch} {e : Env} {s : State} {m : MethodId} {args : Array Value} {below : List Frame} {meth : Method} {c : Code} {z : Int32 × Mem} (F : Fx g p s m args c cX11_mend 4 uX11_mend RX11) (hr : meth.sig.returnType = (some .int)) (hlk : meth.locks = false)  {a0 : Nat} {i1 : Int32} {i2 : Int32} {i3 : Int32} (t0 : Ty g 11 a0)   (s0 : Nat) (s1 : Int32) (M : Mem) (ts0 : Ty g 11 s0) (h : f_X11_mend_b44 a0 i1 i2 i3 s0 s1 M = some z) : V g p l e ({ frames := 1, cells := 0, slots := 0, locals := 40 * 1 } : Room) s m args below meth c 4 0 0 (MQ below (gQ g (some (.int z.1)) z.2) args s 0 0 (gA g)) 44 [(0, .ref (gAd g a0)), (1, .int i1), (2, .int i2), (3, .int i3)] [.int s1, .ref (gAd g s0)] M := by
  unfold f_X11_mend_b44 at h
  refine v_iconst (v := 1) F dX11_mend_44 (by decide) ?_
  obtain ⟨⟨r16, M17⟩, hz18, h⟩ := bd_some h
  dsimp only at h
  refine v_callVi (As := [.int s1, .int 1]) (rest := []) F (c_X11_bad l F.2.2.1 ts0 hz18) (cwV 2 F.1.2.2.2.2 (gU_V ml_X11_176 im_yX11_bad se_yX11_bad ini_X11 cd_X11_bad) rfl rfl rfl (by decide +kernel) ⟨Nat.le_of_ble_eq_true rfl, Nat.le_of_ble_eq_true rfl⟩) ts0 (by decide) rfl rfl rfl (Nat.le_of_ble_eq_true rfl) dX11_mend_45 ⟨Nat.le_of_ble_eq_true rfl, Nat.le_of_ble_eq_true rfl⟩ ?_
  refine v_if_eq (tgt := 53) F dX11_mend_48 (by decide) (fun hc20 => ?_) (fun hc20 => ?_)
  · rw [if_pos hc20] at h
    refine v_aload_n F dX11_mend_53 rfl 0 rfl ?_
    refine v_getI (k := 32) F t0 (by decide) (inc inU_11) rfl rfl (by decide) (List.mem_cons_of_mem _ fl_X11_283) rfl dX11_mend_54 ?_
    refine v_iconst (v := 5) F dX11_mend_57 (by decide) ?_
    refine v_icmp_ne (tgt := 63) F dX11_mend_58 (by decide) (fun hc21 => ?_) (fun hc21 => ?_)
    · rw [if_neg hc21] at h
      refine v_aload_n F dX11_mend_63 rfl 0 rfl ?_
      refine v_getR (k := 37) (f := 16) F t0 (by decide) (inc inU_11) rfl rfl (by decide) (by decide) (List.mem_cons_of_mem _ fl_X11_71) rfl dX11_mend_64 (fun u22 => ?_)
      refine v_aload_n F dX11_mend_67 rfl 0 rfl ?_
      refine v_getI (k := 32) F t0 (by decide) (inc inU_11) rfl rfl (by decide) (List.mem_cons_of_mem _ fl_X11_283) rfl dX11_mend_68 ?_
      obtain ⟨hin23, h⟩ := gd_some h
      refine v_aald (ke := 12) (t0 := 4) F u22 (by decide) rfl rfl hin23 dX11_mend_71 (fun u24 => ?_)
      refine v_iconst (v := 0) F dX11_mend_72 (by decide) ?_
      refine v_iload_n F dX11_mend_73 rfl 1 rfl ?_
      obtain ⟨hin25, h⟩ := gd_some h
      refine v_iast F u24 hin25 dX11_mend_74 ?_
      refine v_aload_n F dX11_mend_75 rfl 0 rfl ?_
      refine v_getR (k := 37) (f := 16) F t0 (by decide) (inc inU_11) rfl rfl (by decide) (by decide) (List.mem_cons_of_mem _ fl_X11_71) rfl dX11_mend_76 (fun u26 => ?_)
      refine v_aload_n F dX11_mend_79 rfl 0 rfl ?_
      refine v_getI (k := 32) F t0 (by decide) (inc inU_11) rfl rfl (by decide) (List.mem_cons_of_mem _ fl_X11_283) rfl dX11_mend_80 ?_
      obtain ⟨hin27, h⟩ := gd_some h
      refine v_aald (ke := 12) (t0 := 4) F u26 (by decide) rfl rfl hin27 dX11_mend_83 (fun u28 => ?_)
      refine v_iconst (v := 1) F dX11_mend_84 (by decide) ?_
      refine v_iload_n F dX11_mend_85 rfl 2 rfl ?_
      obtain ⟨hin29, h⟩ := gd_some h
      refine v_iast F u28 hin29 dX11_mend_86 ?_
      refine v_aload_n F dX11_mend_87 rfl 0 rfl ?_
      refine v_getR (k := 37) (f := 16) F t0 (by decide) (inc inU_11) rfl rfl (by decide) (by decide) (List.mem_cons_of_mem _ fl_X11_71) rfl dX11_mend_88 (fun u30 => ?_)
      refine v_aload_n F dX11_mend_91 rfl 0 rfl ?_
      refine v_getI (k := 32) F t0 (by decide) (inc inU_11) rfl rfl (by decide) (List.mem_cons_of_mem _ fl_X11_283) rfl dX11_mend_92 ?_
      obtain ⟨hin31, h⟩ := gd_some h
      refine v_aald (ke := 12) (t0 := 4) F u30 (by decide) rfl rfl hin31 dX11_mend_95 (fun u32 => ?_)
      refine v_iconst (v := 2) F dX11_mend_96 (by decide) ?_
      refine v_iload_n F dX11_mend_97 rfl 3 rfl ?_
      obtain ⟨hin33, h⟩ := gd_some h
      refine v_iast F u32 hin33 dX11_mend_98 ?_
      refine v_aload_n F dX11_mend_99 rfl 0 rfl ?_
      refine v_dup F dX11_mend_100 rfl ?_
      refine v_getI (k := 32) F t0 (by decide) (inc inU_11) rfl rfl (by decide) (List.mem_cons_of_mem _ fl_X11_283) rfl dX11_mend_101 ?_
      refine v_iconst (v := 1) F dX11_mend_104 (by decide) ?_
      refine v_iadd F dX11_mend_105 ?_
      refine v_put (k := 32) (ty := .int) F t0 (by decide) (inc inU_11) tyX11 tyX11_ok nmX11 rfl rfl (by decide) (List.mem_cons_of_mem _ fl_X11_283) rfl rfl (by decide +kernel) rfl rfl dX11_mend_106 ?_
      refine v_aload_n F dX11_mend_109 rfl 0 rfl ?_
      refine v_getI (k := 32) F t0 (by decide) (inc inU_11) rfl rfl (by decide) (List.mem_cons_of_mem _ fl_X11_283) rfl dX11_mend_110 ?_
      refine v_iconst (v := 1) F dX11_mend_113 (by decide) ?_
      refine v_isub F dX11_mend_114 ?_
      cases h
      exact v_iret F hr rfl hlk dX11_mend_115
    · rw [if_pos hc21] at h
      refine v_iconst (v := (-1)) F dX11_mend_61 (by decide) ?_
      cases h
      exact v_iret F hr rfl hlk dX11_mend_62
  · rw [if_neg hc20] at h
    refine v_iconst (v := 0) F dX11_mend_51 (by decide) ?_
    cases h
    exact v_iret F hr rfl hlk dX11_mend_52
set_option maxHeartbeats 4000000 in
set_option maxRecDepth 100000 in
theorem w_X11_mend_b39 {g : gT} {p : Program} {l : Launch} {e : Env} {s : State} {m : MethodId} {args : Array Value} {below : List Frame} {meth : Method} {c : Code} {z : Int32 × Mem} (F : Fx g p s m args c cX11_mend 4 uX11_mend RX11) (hr : meth.sig.returnType = (some .int)) (hlk : meth.locks = false)  {a0 : Nat} {i1 : Int32} {i2 : Int32} {i3 : Int32} (t0 : Ty g 11 a0)   (s0 : Nat) (M : Mem) (ts0 : Ty g 11 s0) (h : f_X11_mend_b39 a0 i1 i2 i3 s0 M = some z) : V g p l e ({ frames := 1, cells := 0, slots := 0, locals := 40 * 1 } : Room) s m args below meth c 4 0 0 (MQ below (gQ g (some (.int z.1)) z.2) args s 0 0 (gA g)) 39 [(0, .ref (gAd g a0)), (1, .int i1), (2, .int i2), (3, .int i3)] [.ref (gAd g s0)] M := by
  unfold f_X11_mend_b39 at h
  refine v_iconst (v := 1) F dX11_mend_39 (by decide) ?_
  refine v_goto (tgt := 44) F dX11_mend_40 (by decide) ?_
  exact w_X11_mend_b44 F hr hlk t0 _ _ _ ts0 h
set_option maxHeartbeats 4000000 in
set_option maxRecDepth 100000 in
theorem c_X11_mend {g : gT} (l : Launch) (hok : gOK g)  {a0 : Nat} {i1 : Int32} {i2 : Int32} {i3 : Int32} {M : Mem} {z : Int32 × Mem}  (t0 : Ty g 11 a0) (h : f_X11_mend  M a0 i1 i2 i3 = some z) : Cn g l yX11_mend uX11_mend 1 [.ref (gAd g a0), .int i1, .int i2, .int i3] M (some (.int z.1)) z.2 := by
  refine Cn.of (cc := cX11_mend) (maxL := 4) (ret := (some .int)) hok (by decide) rfl (Nat.le_of_ble_eq_true rfl) (fun p e s m args below meth c F hr hlk => ?_)
  unfold f_X11_mend at h
  show V g p l e ({ frames := 1, cells := 0, slots := 0, locals := 40 * 1 } : Room) s m args below meth c 4 0 0 (MQ below (gQ g (some (.int z.1)) z.2) args s 0 0 (gA g)) 0 [(0, .ref (gAd g a0)), (1, .int i1), (2, .int i2), (3, .int i3)] [] M
  refine v_aload_n F dX11_mend_0 rfl 0 rfl ?_
  refine v_iconst (v := 0) F dX11_mend_1 (by decide) ?_
  refine v_put (k := 0) (ty := .int) F t0 (by decide) (inc inU_11) tyX11 tyX11_ok nmX11 rfl rfl (by decide) (List.mem_cons_of_mem _ fl_X11_83) rfl rfl (by decide +kernel) rfl rfl dX11_mend_2 ?_
  refine v_aload_n F dX11_mend_5 rfl 0 rfl ?_
  refine v_iload_n F dX11_mend_6 rfl 1 rfl ?_
  refine v_iconst (v := 0) F dX11_mend_7 (by decide) ?_
  refine v_bipush (v := 9) F dX11_mend_8 (by decide) ?_
  obtain ⟨⟨r1, M2⟩, hz3, h⟩ := bd_some h
  dsimp only at h
  refine v_callSi (As := [.int i1, .int 0, .int 9]) (rest := [.ref (gAd g a0)]) F (c_X11_in l F.2.2.1  hz3) (cwS 3 F.1.2.2.2.2 (gU_S ml_X11_172 st_yX11_in ini_X11 cd_X11_in) rfl rfl rfl (by decide +kernel) ⟨Nat.le_of_ble_eq_true rfl, Nat.le_of_ble_eq_true rfl⟩) rfl rfl (Nat.le_of_ble_eq_true rfl) dX11_mend_10 ⟨Nat.le_of_ble_eq_true rfl, Nat.le_of_ble_eq_true rfl⟩ ?_
  refine v_if_eq (tgt := 39) F dX11_mend_13 (by decide) (fun hc5 => ?_) (fun hc5 => ?_)
  · rw [if_pos hc5] at h
    exact w_X11_mend_b39 F hr hlk t0 _ _ t0 h
  · rw [if_neg hc5] at h
    refine v_iload_n F dX11_mend_16 rfl 2 rfl ?_
    refine v_ldcw (v := (-999999)) F (F.1.2.2.2.2 _ (List.mem_cons_of_mem _ cn_X11_282)) dX11_mend_17 ?_
    refine v_ldc (v := 999999) F (F.1.2.2.2.2 _ (List.mem_cons_of_mem _ cn_X11_203)) dX11_mend_20 ?_
    obtain ⟨⟨r6, M7⟩, hz8, h⟩ := bd_some h
    dsimp only at h
    refine v_callSi (As := [.int i2, .int (-999999), .int 999999]) (rest := [.ref (gAd g a0)]) F (c_X11_in l F.2.2.1  hz8) (cwS 3 F.1.2.2.2.2 (gU_S ml_X11_172 st_yX11_in ini_X11 cd_X11_in) rfl rfl rfl (by decide +kernel) ⟨Nat.le_of_ble_eq_true rfl, Nat.le_of_ble_eq_true rfl⟩) rfl rfl (Nat.le_of_ble_eq_true rfl) dX11_mend_22 ⟨Nat.le_of_ble_eq_true rfl, Nat.le_of_ble_eq_true rfl⟩ ?_
    refine v_if_eq (tgt := 39) F dX11_mend_25 (by decide) (fun hc10 => ?_) (fun hc10 => ?_)
    · rw [if_pos hc10] at h
      exact w_X11_mend_b39 F hr hlk t0 _ _ t0 h
    · rw [if_neg hc10] at h
      refine v_iload_n F dX11_mend_28 rfl 3 rfl ?_
      refine v_iconst (v := 0) F dX11_mend_29 (by decide) ?_
      refine v_sipush (v := 999) F dX11_mend_30 (by decide) ?_
      obtain ⟨⟨r11, M12⟩, hz13, h⟩ := bd_some h
      dsimp only at h
      refine v_callSi (As := [.int i3, .int 0, .int 999]) (rest := [.ref (gAd g a0)]) F (c_X11_in l F.2.2.1  hz13) (cwS 3 F.1.2.2.2.2 (gU_S ml_X11_172 st_yX11_in ini_X11 cd_X11_in) rfl rfl rfl (by decide +kernel) ⟨Nat.le_of_ble_eq_true rfl, Nat.le_of_ble_eq_true rfl⟩) rfl rfl (Nat.le_of_ble_eq_true rfl) dX11_mend_33 ⟨Nat.le_of_ble_eq_true rfl, Nat.le_of_ble_eq_true rfl⟩ ?_
      refine v_if_ne (tgt := 43) F dX11_mend_36 (by decide) (fun hc15 => ?_) (fun hc15 => ?_)
      · rw [if_neg hc15] at h
        refine v_iconst (v := 0) F dX11_mend_43 (by decide) ?_
        exact w_X11_mend_b44 F hr hlk t0 _ _ _ t0 h
      · rw [if_pos hc15] at h
        exact w_X11_mend_b39 F hr hlk t0 _ _ t0 h
def f_X11_makes  (M : Mem) (a0 : Nat) (i1 : Int32) : Option (Int32 × Mem) := if ¬ (i1 < 0 ∨ gN (gRf a0 37) ≤ i1.toNatClampNeg) then (if ¬ ((0 : Int32) < 0 ∨ gN (gRf (gRf a0 37) i1.toNatClampNeg) ≤ (0 : Int32).toNatClampNeg) then (if ¬ ((M (gRf (gRf a0 37) i1.toNatClampNeg) (0 : Int32).toNatClampNeg) < 0 ∨ gN (gRf a0 21) ≤ (M (gRf (gRf a0 37) i1.toNatClampNeg) (0 : Int32).toNatClampNeg : Int32).toNatClampNeg) then (if ¬ (i1 < 0 ∨ gN (gRf a0 37) ≤ i1.toNatClampNeg) then (if ¬ ((1 : Int32) < 0 ∨ gN (gRf (gRf a0 37) i1.toNatClampNeg) ≤ (1 : Int32).toNatClampNeg) then ((f_X11_lowest M (M (gRf (gRf a0 37) i1.toNatClampNeg) (0 : Int32).toNatClampNeg)).bind fun q => match q with | (r12, M13) => ((f_X11_highest M13 (M (gRf (gRf a0 37) i1.toNatClampNeg) (0 : Int32).toNatClampNeg)).bind fun q => match q with | (r16, M17) => ((f_X11_within M17 ((M (gRf a0 21) (M (gRf (gRf a0 37) i1.toNatClampNeg) (0 : Int32).toNatClampNeg : Int32).toNatClampNeg) + (M (gRf (gRf a0 37) i1.toNatClampNeg) (1 : Int32).toNatClampNeg)) r12 r16).bind fun q => match q with | (r20, M21) => (if ¬ ((M (gRf (gRf a0 37) i1.toNatClampNeg) (0 : Int32).toNatClampNeg) < 0 ∨ gN (gRf a0 21) ≤ (M (gRf (gRf a0 37) i1.toNatClampNeg) (0 : Int32).toNatClampNeg : Int32).toNatClampNeg) then (some (0, (mU M21 (gRf a0 21) (M (gRf (gRf a0 37) i1.toNatClampNeg) (0 : Int32).toNatClampNeg : Int32).toNatClampNeg r20))) else none)))) else none) else none) else none) else none) else none
set_option maxHeartbeats 4000000 in
set_option maxRecDepth 100000 in
theorem c_X11_makes {g : gT} (l : Launch) (hok : gOK g)  {a0 : Nat} {i1 : Int32} {M : Mem} {z : Int32 × Mem}  (t0 : Ty g 11 a0) (h : f_X11_makes  M a0 i1 = some z) : Cn g l yX11_makes uX11_makes 1 [.ref (gAd g a0), .int i1] M none z.2 := by
  refine Cn.of (cc := cX11_makes) (maxL := 3) (ret := none) hok (by decide) rfl (Nat.le_of_ble_eq_true rfl) (fun p e s m args below meth c F hr hlk => ?_)
  unfold f_X11_makes at h
  show V g p l e ({ frames := 1, cells := 0, slots := 0, locals := 40 * 1 } : Room) s m args below meth c 3 0 0 (MQ below (gQ g none z.2) args s 0 0 (gA g)) 0 [(0, .ref (gAd g a0)), (1, .int i1)] [] M
  refine v_aload_n F dX11_makes_0 rfl 0 rfl ?_
  refine v_getR (k := 37) (f := 16) F t0 (by decide) (inc inU_11) rfl rfl (by decide) (by decide) (List.mem_cons_of_mem _ fl_X11_71) rfl dX11_makes_1 (fun u1 => ?_)
  refine v_iload_n F dX11_makes_4 rfl 1 rfl ?_
  obtain ⟨hin2, h⟩ := gd_some h
  refine v_aald (ke := 12) (t0 := 4) F u1 (by decide) rfl rfl hin2 dX11_makes_5 (fun u3 => ?_)
  refine v_iconst (v := 0) F dX11_makes_6 (by decide) ?_
  obtain ⟨hin4, h⟩ := gd_some h
  refine v_iald F u3 hin4 dX11_makes_7 ?_
  refine v_istore_n (lv' := [(2, .int (M (gRf (gRf a0 37) i1.toNatClampNeg) (0 : Int32).toNatClampNeg)), (0, .ref (gAd g a0)), (1, .int i1)]) F dX11_makes_8 rfl (by decide) rfl ?_
  refine v_aload_n F dX11_makes_9 rfl 1 rfl ?_
  refine v_getR (k := 21) (f := 12) F t0 (by decide) (inc inU_11) rfl rfl (by decide) (by decide) (List.mem_cons_of_mem _ fl_X11_40) rfl dX11_makes_10 (fun u5 => ?_)
  refine v_iload_n F dX11_makes_13 rfl 0 rfl ?_
  refine v_aload_n F dX11_makes_14 rfl 1 rfl ?_
  refine v_getR (k := 21) (f := 12) F t0 (by decide) (inc inU_11) rfl rfl (by decide) (by decide) (List.mem_cons_of_mem _ fl_X11_40) rfl dX11_makes_15 (fun u6 => ?_)
  refine v_iload_n F dX11_makes_18 rfl 0 rfl ?_
  obtain ⟨hin7, h⟩ := gd_some h
  refine v_iald F u6 hin7 dX11_makes_19 ?_
  refine v_aload_n F dX11_makes_20 rfl 1 rfl ?_
  refine v_getR (k := 37) (f := 16) F t0 (by decide) (inc inU_11) rfl rfl (by decide) (by decide) (List.mem_cons_of_mem _ fl_X11_71) rfl dX11_makes_21 (fun u8 => ?_)
  refine v_iload_n F dX11_makes_24 rfl 2 rfl ?_
  obtain ⟨hin9, h⟩ := gd_some h
  refine v_aald (ke := 12) (t0 := 4) F u8 (by decide) rfl rfl hin9 dX11_makes_25 (fun u10 => ?_)
  refine v_iconst (v := 1) F dX11_makes_26 (by decide) ?_
  obtain ⟨hin11, h⟩ := gd_some h
  refine v_iald F u10 hin11 dX11_makes_27 ?_
  refine v_iadd F dX11_makes_28 ?_
  refine v_iload_n F dX11_makes_29 rfl 0 rfl ?_
  obtain ⟨⟨r12, M13⟩, hz14, h⟩ := bd_some h
  dsimp only at h
  refine v_callSi (As := [.int (M (gRf (gRf a0 37) i1.toNatClampNeg) (0 : Int32).toNatClampNeg)]) (rest := [.int ((M (gRf a0 21) (M (gRf (gRf a0 37) i1.toNatClampNeg) (0 : Int32).toNatClampNeg : Int32).toNatClampNeg) + (M (gRf (gRf a0 37) i1.toNatClampNeg) (1 : Int32).toNatClampNeg)), .int (M (gRf (gRf a0 37) i1.toNatClampNeg) (0 : Int32).toNatClampNeg), .ref (gAd g (gRf a0 21))]) F (c_X11_lowest l F.2.2.1  hz14) (cwS 1 F.1.2.2.2.2 (gU_S ml_X11_204 st_yX11_lowest ini_X11 cd_X11_lowest) rfl rfl rfl (by decide +kernel) ⟨Nat.le_of_ble_eq_true rfl, Nat.le_of_ble_eq_true rfl⟩) rfl rfl (Nat.le_of_ble_eq_true rfl) dX11_makes_30 ⟨Nat.le_of_ble_eq_true rfl, Nat.le_of_ble_eq_true rfl⟩ ?_
  refine v_iload_n F dX11_makes_33 rfl 0 rfl ?_
  obtain ⟨⟨r16, M17⟩, hz18, h⟩ := bd_some h
  dsimp only at h
  refine v_callSi (As := [.int (M (gRf (gRf a0 37) i1.toNatClampNeg) (0 : Int32).toNatClampNeg)]) (rest := [.int r12, .int ((M (gRf a0 21) (M (gRf (gRf a0 37) i1.toNatClampNeg) (0 : Int32).toNatClampNeg : Int32).toNatClampNeg) + (M (gRf (gRf a0 37) i1.toNatClampNeg) (1 : Int32).toNatClampNeg)), .int (M (gRf (gRf a0 37) i1.toNatClampNeg) (0 : Int32).toNatClampNeg), .ref (gAd g (gRf a0 21))]) F (c_X11_highest l F.2.2.1  hz18) (cwS 1 F.1.2.2.2.2 (gU_S ml_X11_207 st_yX11_highest ini_X11 cd_X11_highest) rfl rfl rfl (by decide +kernel) ⟨Nat.le_of_ble_eq_true rfl, Nat.le_of_ble_eq_true rfl⟩) rfl rfl (Nat.le_of_ble_eq_true rfl) dX11_makes_34 ⟨Nat.le_of_ble_eq_true rfl, Nat.le_of_ble_eq_true rfl⟩ ?_
  obtain ⟨⟨r20, M21⟩, hz22, h⟩ := bd_some h
  dsimp only at h
  refine v_callSi (As := [.int ((M (gRf a0 21) (M (gRf (gRf a0 37) i1.toNatClampNeg) (0 : Int32).toNatClampNeg : Int32).toNatClampNeg) + (M (gRf (gRf a0 37) i1.toNatClampNeg) (1 : Int32).toNatClampNeg)), .int r12, .int r16]) (rest := [.int (M (gRf (gRf a0 37) i1.toNatClampNeg) (0 : Int32).toNatClampNeg), .ref (gAd g (gRf a0 21))]) F (c_X11_within l F.2.2.1  hz22) (cwS 3 F.1.2.2.2.2 (gU_S ml_X11_191 st_yX11_within ini_X11 cd_X11_within) rfl rfl rfl (by decide +kernel) ⟨Nat.le_of_ble_eq_true rfl, Nat.le_of_ble_eq_true rfl⟩) rfl rfl (Nat.le_of_ble_eq_true rfl) dX11_makes_37 ⟨Nat.le_of_ble_eq_true rfl, Nat.le_of_ble_eq_true rfl⟩ ?_
  obtain ⟨hin24, h⟩ := gd_some h
  refine v_iast F u5 hin24 dX11_makes_40 ?_
  cases h
  exact v_vret F hr hlk dX11_makes_41
def f_X11_isCalm_h10 (a0 : Nat) (i1 : Int32) (i2 : Int32) (k2 : Int32 → Mem → Option (Int32 × Mem)) : Nat → Int32 → Int32 → Mem → Option (Int32 × Mem)
  | 0, _, _, _ => none
  | n + 1, x3, x4, M => if 4 ≤ x4 then (k2 (x3 + 1) M) else ((f_X11_growsBy M a0 i1 i2 x3 x4 100).bind fun q => match q with | (r3, M4) => (if r3 = 0 then ((f_X11_isCalm_h10 a0 i1 i2 k2 n) x3 (x4 + 1) M4) else (some (0, M4))))
def f_X11_isCalm_h2 (a0 : Nat) (i1 : Int32) (i2 : Int32)  : Nat → Int32 → Mem → Option (Int32 × Mem)
  | 0, _, _ => none
  | n + 1, x3, M => if 2 ≤ x3 then (some (1, M)) else (f_X11_isCalm_h10 a0 i1 i2 (f_X11_isCalm_h2 a0 i1 i2 n) FU x3 1 M)
def f_X11_isCalm  (M : Mem) (a0 : Nat) (i1 : Int32) (i2 : Int32) : Option (Int32 × Mem) := f_X11_isCalm_h2 a0 i1 i2 FU 0 M
set_option maxHeartbeats 4000000 in
set_option maxRecDepth 100000 in
theorem w_X11_isCalm_h10 {g : gT} {p : Program} {l : Launch} {e : Env} {s : State} {m : MethodId} {args : Array Value} {below : List Frame} {meth : Method} {c : Code} {z : Int32 × Mem} (F : Fx g p s m args c cX11_isCalm 5 uX11_isCalm RX11) (hr : meth.sig.returnType = (some .boolean)) (hlk : meth.locks = false)  {a0 : Nat} {i1 : Int32} {i2 : Int32} (t0 : Ty g 11 a0) {k2 : Int32 → Mem → Option (Int32 × Mem)} (hk2 : ∀ (x3 : Int32) (M : Mem), k2 x3 M = some z → V g p l e ({ frames := 4, cells := 0, slots := 0, locals := 40 * 4 } : Room) s m args below meth c 5 0 0 (MQ below (gQ g (some (.int z.1)) z.2) args s 0 0 (gA g)) 2 [(0, .ref (gAd g a0)), (1, .int i1), (2, .int i2), (3, .int x3)] [] M) : ∀ (n : Nat) (x3 : Int32) (x4 : Int32) (M : Mem), f_X11_isCalm_h10 a0 i1 i2 k2 n x3 x4 M = some z → V g p l e ({ frames := 4, cells := 0, slots := 0, locals := 40 * 4 } : Room) s m args below meth c 5 0 0 (MQ below (gQ g (some (.int z.1)) z.2) args s 0 0 (gA g)) 10 [(0, .ref (gAd g a0)), (1, .int i1), (2, .int i2), (3, .int x3), (4, .int x4)] [] M := by
  intro n
  induction n with
  | zero => intro x3 x4 M; intros; rename_i h; cases h
  | succ n ih =>
    intro x3 x4 M h
    rw [f_X11_isCalm_h10] at h
    refine v_iload F dX11_isCalm_10 4 rfl ?_
    refine v_iconst (v := 4) F dX11_isCalm_12 (by decide) ?_
    refine v_icmp_ge (tgt := 38) F dX11_isCalm_13 (by decide) (fun hc2 => ?_) (fun hc2 => ?_)
    · rw [if_pos hc2] at h
      refine v_iinc (v := x3 + 1) (lv' := [(3, .int (x3 + 1)), (0, .ref (gAd g a0)), (1, .int i1), (2, .int i2), (4, .int x4)]) F dX11_isCalm_38 (q := 3) rfl rfl (by decide) rfl ?_
      refine v_goto (tgt := 2) F dX11_isCalm_41 (by decide) ?_
      refine v_sub (fun ls h9 => lv_sub h9 [1, 2, 3, 0] rfl) ?_
      exact hk2 _ _ h
    · rw [if_neg hc2] at h
      refine v_aload_n F dX11_isCalm_16 rfl 0 rfl ?_
      refine v_iload_n F dX11_isCalm_17 rfl 1 rfl ?_
      refine v_iload_n F dX11_isCalm_18 rfl 2 rfl ?_
      refine v_iload_n F dX11_isCalm_19 rfl 3 rfl ?_
      refine v_iload F dX11_isCalm_20 4 rfl ?_
      refine v_bipush (v := 100) F dX11_isCalm_22 (by decide) ?_
      obtain ⟨⟨r3, M4⟩, hz5, h⟩ := bd_some h
      dsimp only at h
      refine v_callVi (As := [.int i1, .int i2, .int x3, .int x4, .int 100]) (rest := []) F (c_X11_growsBy l F.2.2.1 t0 hz5) (cwV 5 F.1.2.2.2.2 (gU_V ml_X11_264 im_yX11_growsBy se_yX11_growsBy ini_X11 cd_X11_growsBy) rfl rfl rfl (by decide +kernel) ⟨Nat.le_of_ble_eq_true rfl, Nat.le_of_ble_eq_true rfl⟩) t0 (by decide) rfl rfl rfl (Nat.le_of_ble_eq_true rfl) dX11_isCalm_24 ⟨Nat.le_of_ble_eq_true rfl, Nat.le_of_ble_eq_true rfl⟩ ?_
      refine v_if_eq (tgt := 32) F dX11_isCalm_27 (by decide) (fun hc7 => ?_) (fun hc7 => ?_)
      · rw [if_pos hc7] at h
        refine v_iinc (v := x4 + 1) (lv' := [(4, .int (x4 + 1)), (0, .ref (gAd g a0)), (1, .int i1), (2, .int i2), (3, .int x3)]) F dX11_isCalm_32 (q := 4) rfl rfl (by decide) rfl ?_
        refine v_goto (tgt := 10) F dX11_isCalm_35 (by decide) ?_
        refine v_sub (fun ls h9 => lv_sub h9 [1, 2, 3, 4, 0] rfl) ?_
        exact ih _ _ _ h
      · rw [if_neg hc7] at h
        refine v_iconst (v := 0) F dX11_isCalm_30 (by decide) ?_
        cases h
        exact v_iret F hr narrow_b0 hlk dX11_isCalm_31
set_option maxHeartbeats 4000000 in
set_option maxRecDepth 100000 in
theorem w_X11_isCalm_h2 {g : gT} {p : Program} {l : Launch} {e : Env} {s : State} {m : MethodId} {args : Array Value} {below : List Frame} {meth : Method} {c : Code} {z : Int32 × Mem} (F : Fx g p s m args c cX11_isCalm 5 uX11_isCalm RX11) (hr : meth.sig.returnType = (some .boolean)) (hlk : meth.locks = false)  {a0 : Nat} {i1 : Int32} {i2 : Int32} (t0 : Ty g 11 a0)   : ∀ (n : Nat) (x3 : Int32) (M : Mem), f_X11_isCalm_h2 a0 i1 i2 n x3 M = some z → V g p l e ({ frames := 4, cells := 0, slots := 0, locals := 40 * 4 } : Room) s m args below meth c 5 0 0 (MQ below (gQ g (some (.int z.1)) z.2) args s 0 0 (gA g)) 2 [(0, .ref (gAd g a0)), (1, .int i1), (2, .int i2), (3, .int x3)] [] M := by
  intro n
  induction n with
  | zero => intro x3 M; intros; rename_i h; cases h
  | succ n ih =>
    intro x3 M h
    rw [f_X11_isCalm_h2] at h
    refine v_iload_n F dX11_isCalm_2 rfl 3 rfl ?_
    refine v_iconst (v := 2) F dX11_isCalm_3 (by decide) ?_
    refine v_icmp_ge (tgt := 44) F dX11_isCalm_4 (by decide) (fun hc1 => ?_) (fun hc1 => ?_)
    · rw [if_pos hc1] at h
      refine v_iconst (v := 1) F dX11_isCalm_44 (by decide) ?_
      cases h
      exact v_iret F hr narrow_b1 hlk dX11_isCalm_45
    · rw [if_neg hc1] at h
      refine v_iconst (v := 1) F dX11_isCalm_7 (by decide) ?_
      refine v_istore (lv' := [(4, .int 1), (0, .ref (gAd g a0)), (1, .int i1), (2, .int i2), (3, .int x3)]) F dX11_isCalm_8 (by decide) rfl ?_
      refine v_sub (fun ls h9 => lv_sub h9 [1, 2, 3, 4, 0] rfl) ?_
      exact w_X11_isCalm_h10 F hr hlk t0 ih _ _ _ _ h
set_option maxHeartbeats 4000000 in
set_option maxRecDepth 100000 in
theorem c_X11_isCalm {g : gT} (l : Launch) (hok : gOK g)  {a0 : Nat} {i1 : Int32} {i2 : Int32} {M : Mem} {z : Int32 × Mem}  (t0 : Ty g 11 a0) (h : f_X11_isCalm  M a0 i1 i2 = some z) : Cn g l yX11_isCalm uX11_isCalm 4 [.ref (gAd g a0), .int i1, .int i2] M (some (.int z.1)) z.2 := by
  refine Cn.of (cc := cX11_isCalm) (maxL := 5) (ret := (some .boolean)) hok (by decide) rfl (Nat.le_of_ble_eq_true rfl) (fun p e s m args below meth c F hr hlk => ?_)
  unfold f_X11_isCalm at h
  show V g p l e ({ frames := 4, cells := 0, slots := 0, locals := 40 * 4 } : Room) s m args below meth c 5 0 0 (MQ below (gQ g (some (.int z.1)) z.2) args s 0 0 (gA g)) 0 [(0, .ref (gAd g a0)), (1, .int i1), (2, .int i2)] [] M
  refine v_iconst (v := 0) F dX11_isCalm_0 (by decide) ?_
  refine v_istore_n (lv' := [(3, .int 0), (0, .ref (gAd g a0)), (1, .int i1), (2, .int i2)]) F dX11_isCalm_1 rfl (by decide) rfl ?_
  refine v_sub (fun ls h9 => lv_sub h9 [1, 2, 3, 0] rfl) ?_
  exact w_X11_isCalm_h2 F hr hlk t0 _ _ _ h
def f_X11_calm  (M : Mem) (a0 : Nat) (i1 : Int32) (i2 : Int32) : Option (Int32 × Mem) := (f_X11_badTrial (mU M a0 0 0) a0 i1 i2 0 1).bind fun q => match q with | (r1, M2) => (if r1 = 0 then ((f_X11_isCalm M2 a0 i1 i2).bind fun q => match q with | (r6, M7) => (if vp_nar .boolean r6 = r6 then (some (r6, M7)) else none)) else (some (0, M2)))
set_option maxHeartbeats 4000000 in
set_option maxRecDepth 100000 in
theorem c_X11_calm {g : gT} (l : Launch) (hok : gOK g)  {a0 : Nat} {i1 : Int32} {i2 : Int32} {M : Mem} {z : Int32 × Mem}  (t0 : Ty g 11 a0) (h : f_X11_calm  M a0 i1 i2 = some z) : Cn g l yX11_calm uX11_calm 5 [.ref (gAd g a0), .int i1, .int i2] M (some (.int z.1)) z.2 := by
  refine Cn.of (cc := cX11_calm) (maxL := 3) (ret := (some .boolean)) hok (by decide) rfl (Nat.le_of_ble_eq_true rfl) (fun p e s m args below meth c F hr hlk => ?_)
  unfold f_X11_calm at h
  show V g p l e ({ frames := 5, cells := 0, slots := 0, locals := 40 * 5 } : Room) s m args below meth c 3 0 0 (MQ below (gQ g (some (.int z.1)) z.2) args s 0 0 (gA g)) 0 [(0, .ref (gAd g a0)), (1, .int i1), (2, .int i2)] [] M
  refine v_aload_n F dX11_calm_0 rfl 0 rfl ?_
  refine v_iconst (v := 0) F dX11_calm_1 (by decide) ?_
  refine v_put (k := 0) (ty := .int) F t0 (by decide) (inc inU_11) tyX11 tyX11_ok nmX11 rfl rfl (by decide) (List.mem_cons_of_mem _ fl_X11_83) rfl rfl (by decide +kernel) rfl rfl dX11_calm_2 ?_
  refine v_aload_n F dX11_calm_5 rfl 0 rfl ?_
  refine v_iload_n F dX11_calm_6 rfl 1 rfl ?_
  refine v_iload_n F dX11_calm_7 rfl 2 rfl ?_
  refine v_iconst (v := 0) F dX11_calm_8 (by decide) ?_
  refine v_iconst (v := 1) F dX11_calm_9 (by decide) ?_
  obtain ⟨⟨r1, M2⟩, hz3, h⟩ := bd_some h
  dsimp only at h
  refine v_callVi (As := [.int i1, .int i2, .int 0, .int 1]) (rest := []) F (c_X11_badTrial l F.2.2.1 t0 hz3) (cwV 4 F.1.2.2.2.2 (gU_V ml_X11_260 im_yX11_badTrial se_yX11_badTrial ini_X11 cd_X11_badTrial) rfl rfl rfl (by decide +kernel) ⟨Nat.le_of_ble_eq_true rfl, Nat.le_of_ble_eq_true rfl⟩) t0 (by decide) rfl rfl rfl (Nat.le_of_ble_eq_true rfl) dX11_calm_10 ⟨Nat.le_of_ble_eq_true rfl, Nat.le_of_ble_eq_true rfl⟩ ?_
  refine v_if_eq (tgt := 18) F dX11_calm_13 (by decide) (fun hc5 => ?_) (fun hc5 => ?_)
  · rw [if_pos hc5] at h
    refine v_aload_n F dX11_calm_18 rfl 0 rfl ?_
    refine v_iload_n F dX11_calm_19 rfl 1 rfl ?_
    refine v_iload_n F dX11_calm_20 rfl 2 rfl ?_
    obtain ⟨⟨r6, M7⟩, hz8, h⟩ := bd_some h
    dsimp only at h
    refine v_callVi (As := [.int i1, .int i2]) (rest := []) F (c_X11_isCalm l F.2.2.1 t0 hz8) (cwV 2 F.1.2.2.2.2 (gU_V ml_X11_286 im_yX11_isCalm se_yX11_isCalm ini_X11 cd_X11_isCalm) rfl rfl rfl (by decide +kernel) ⟨Nat.le_of_ble_eq_true rfl, Nat.le_of_ble_eq_true rfl⟩) t0 (by decide) rfl rfl rfl (Nat.le_of_ble_eq_true rfl) dX11_calm_21 ⟨Nat.le_of_ble_eq_true rfl, Nat.le_of_ble_eq_true rfl⟩ ?_
    by_cases hb10 : vp_nar .boolean r6 = r6
    rotate_left
    · rw [if_neg hb10] at h; cases h
    rw [if_pos hb10] at h
    cases h
    exact v_iret F hr (nb_ok hb10) hlk dX11_calm_24
  · rw [if_neg hc5] at h
    refine v_iconst (v := 0) F dX11_calm_16 (by decide) ?_
    cases h
    exact v_iret F hr narrow_b0 hlk dX11_calm_17
def f_X11_mended_b78 (a0 : Nat) (i1 : Int32) (i2 : Int32) (k26 : Int32 → Int32 → Int32 → Mem → Option (Int32 × Mem)) (k43 : Int32 → Int32 → Int32 → Int32 → Int32 → Mem → Option (Int32 × Mem)) (s0 : Int32) (s1 : Int32) (x3 : Int32) (x4 : Int32) (x5 : Int32) (x7 : Int32) (M : Mem) : Option (Int32 × Mem) := k43 x3 x4 x5 (s0 + s1) (x7 + 1) M
def f_X11_mended_b161 (a0 : Nat) (i1 : Int32) (i2 : Int32) (k26 : Int32 → Int32 → Int32 → Mem → Option (Int32 × Mem)) (k135 : Int32 → Int32 → Int32 → Int32 → Int32 → Mem → Option (Int32 × Mem)) (x3 : Int32) (x4 : Int32) (x5 : Int32) (x6 : Int32) (x7 : Int32) (M : Mem) : Option (Int32 × Mem) := k135 x3 x4 x5 x6 (x7 + 1) M
def f_X11_mended_b213 (a0 : Nat) (i1 : Int32) (i2 : Int32) (k26 : Int32 → Int32 → Int32 → Mem → Option (Int32 × Mem)) (x3 : Int32) (x4 : Int32) (x5 : Int32) (M : Mem) : Option (Int32 × Mem) := k26 x3 x4 (x5 + 1) M
def f_X11_mended_h186 (a0 : Nat) (i1 : Int32) (i2 : Int32) (k26 : Int32 → Int32 → Int32 → Mem → Option (Int32 × Mem)) : Nat → Int32 → Int32 → Int32 → Int32 → Mem → Option (Int32 × Mem)
  | 0, _, _, _, _, _ => none
  | n + 1, x3, x4, x5, x7, M => if 10 ≤ x7 then (f_X11_mended_b213 a0 i1 i2 k26 x3 x4 x5 M) else (if ¬ (x7 < 0 ∨ gN (gRf a0 29) ≤ x7.toNatClampNeg) then (if ¬ (x7 < 0 ∨ gN (gRf a0 21) ≤ x7.toNatClampNeg) then ((f_X11_mended_h186 a0 i1 i2 k26 n) x3 x4 x5 (x7 + 1) (mU M (gRf a0 21) x7.toNatClampNeg (M (gRf a0 29) x7.toNatClampNeg))) else none) else none)
def f_X11_mended_b183 (a0 : Nat) (i1 : Int32) (i2 : Int32) (k26 : Int32 → Int32 → Int32 → Mem → Option (Int32 × Mem)) (x3 : Int32) (x4 : Int32) (x5 : Int32) (M : Mem) : Option (Int32 × Mem) := f_X11_mended_h186 a0 i1 i2 k26 FU x3 x4 x5 0 M
def f_X11_mended_h135 (a0 : Nat) (i1 : Int32) (i2 : Int32) (k26 : Int32 → Int32 → Int32 → Mem → Option (Int32 × Mem)) : Nat → Int32 → Int32 → Int32 → Int32 → Int32 → Mem → Option (Int32 × Mem)
  | 0, _, _, _, _, _, _ => none
  | n + 1, x3, x4, x5, x6, x7, M => if (M a0 32) ≤ x7 then ((f_X11_isCalm M a0 i1 i2).bind fun q => match q with | (r21, M22) => (if r21 = 0 then (f_X11_mended_b183 a0 i1 i2 k26 x3 x4 x5 M22) else (f_X11_mended_b183 a0 i1 i2 k26 x5 x6 x5 M22))) else (if ((x5 >>> (x7 &&& 31)) &&& 1) = 1 then ((f_X11_makes M a0 x7).bind fun q => match q with | (r27, M28) => (f_X11_mended_b161 a0 i1 i2 k26 (f_X11_mended_h135 a0 i1 i2 k26 n) x3 x4 x5 x6 x7 M28)) else (f_X11_mended_b161 a0 i1 i2 k26 (f_X11_mended_h135 a0 i1 i2 k26 n) x3 x4 x5 x6 x7 M))
def f_X11_mended_h105 (a0 : Nat) (i1 : Int32) (i2 : Int32) (k26 : Int32 → Int32 → Int32 → Mem → Option (Int32 × Mem)) : Nat → Int32 → Int32 → Int32 → Int32 → Int32 → Mem → Option (Int32 × Mem)
  | 0, _, _, _, _, _, _ => none
  | n + 1, x3, x4, x5, x6, x7, M => if 10 ≤ x7 then (f_X11_mended_h135 a0 i1 i2 k26 FU x3 x4 x5 x6 0 M) else (if ¬ (x7 < 0 ∨ gN (gRf a0 21) ≤ x7.toNatClampNeg) then (if ¬ (x7 < 0 ∨ gN (gRf a0 29) ≤ x7.toNatClampNeg) then ((f_X11_mended_h105 a0 i1 i2 k26 n) x3 x4 x5 x6 (x7 + 1) (mU M (gRf a0 29) x7.toNatClampNeg (M (gRf a0 21) x7.toNatClampNeg))) else none) else none)
def f_X11_mended_b102 (a0 : Nat) (i1 : Int32) (i2 : Int32) (k26 : Int32 → Int32 → Int32 → Mem → Option (Int32 × Mem)) (x3 : Int32) (x4 : Int32) (x5 : Int32) (x6 : Int32) (M : Mem) : Option (Int32 × Mem) := f_X11_mended_h105 a0 i1 i2 k26 FU x3 x4 x5 x6 0 M
def f_X11_mended_h43 (a0 : Nat) (i1 : Int32) (i2 : Int32) (k26 : Int32 → Int32 → Int32 → Mem → Option (Int32 × Mem)) : Nat → Int32 → Int32 → Int32 → Int32 → Int32 → Mem → Option (Int32 × Mem)
  | 0, _, _, _, _, _, _ => none
  | n + 1, x3, x4, x5, x6, x7, M => if (M a0 32) ≤ x7 then (if x3 = (-1) then (f_X11_mended_b102 a0 i1 i2 k26 x3 x4 x5 x6 M) else (if x6 < x4 then (f_X11_mended_b102 a0 i1 i2 k26 x3 x4 x5 x6 M) else (f_X11_mended_b213 a0 i1 i2 k26 x3 x4 x5 M))) else (if ((x5 >>> (x7 &&& 31)) &&& 1) = 1 then (if ¬ (x7 < 0 ∨ gN (gRf a0 37) ≤ x7.toNatClampNeg) then (if ¬ ((2 : Int32) < 0 ∨ gN (gRf (gRf a0 37) x7.toNatClampNeg) ≤ (2 : Int32).toNatClampNeg) then (f_X11_mended_b78 a0 i1 i2 k26 (f_X11_mended_h43 a0 i1 i2 k26 n) x6 (M (gRf (gRf a0 37) x7.toNatClampNeg) (2 : Int32).toNatClampNeg) x3 x4 x5 x7 M) else none) else none) else (f_X11_mended_b78 a0 i1 i2 k26 (f_X11_mended_h43 a0 i1 i2 k26 n) x6 0 x3 x4 x5 x7 M))
def f_X11_mended_h26 (a0 : Nat) (i1 : Int32) (i2 : Int32)  : Nat → Int32 → Int32 → Int32 → Mem → Option (Int32 × Mem)
  | 0, _, _, _, _ => none
  | n + 1, x3, x4, x5, M => if (1 <<< ((M a0 32) &&& 31)) ≤ x5 then (some (x3, M)) else (f_X11_mended_h43 a0 i1 i2 (f_X11_mended_h26 a0 i1 i2 n) FU x3 x4 x5 0 0 M)
def f_X11_mended  (M : Mem) (a0 : Nat) (i1 : Int32) (i2 : Int32) : Option (Int32 × Mem) := (f_X11_badTrial (mU M a0 0 0) a0 i1 i2 0 1).bind fun q => match q with | (r1, M2) => (if r1 = 0 then (f_X11_mended_h26 a0 i1 i2 FU (-1) 0 0 M2) else (some (0, M2)))
set_option maxHeartbeats 4000000 in
set_option maxRecDepth 100000 in
theorem w_X11_mended_b78 {g : gT} {p : Program} {l : Launch} {e : Env} {s : State} {m : MethodId} {args : Array Value} {below : List Frame} {meth : Method} {c : Code} {z : Int32 × Mem} (F : Fx g p s m args c cX11_mended 8 uX11_mended RX11) (hr : meth.sig.returnType = (some .int)) (hlk : meth.locks = false)  {a0 : Nat} {i1 : Int32} {i2 : Int32} (t0 : Ty g 11 a0) {k26 : Int32 → Int32 → Int32 → Mem → Option (Int32 × Mem)} {k43 : Int32 → Int32 → Int32 → Int32 → Int32 → Mem → Option (Int32 × Mem)} (hk26 : ∀ (x3 : Int32) (x4 : Int32) (x5 : Int32) (M : Mem), k26 x3 x4 x5 M = some z → V g p l e ({ frames := 5, cells := 0, slots := 0, locals := 40 * 5 } : Room) s m args below meth c 8 0 0 (MQ below (gQ g (some (.int z.1)) z.2) args s 0 0 (gA g)) 26 [(0, .ref (gAd g a0)), (1, .int i1), (2, .int i2), (3, .int x3), (4, .int x4), (5, .int x5)] [] M) (hk43 : ∀ (x3 : Int32) (x4 : Int32) (x5 : Int32) (x6 : Int32) (x7 : Int32) (M : Mem), k43 x3 x4 x5 x6 x7 M = some z → V g p l e ({ frames := 5, cells := 0, slots := 0, locals := 40 * 5 } : Room) s m args below meth c 8 0 0 (MQ below (gQ g (some (.int z.1)) z.2) args s 0 0 (gA g)) 43 [(0, .ref (gAd g a0)), (1, .int i1), (2, .int i2), (3, .int x3), (4, .int x4), (5, .int x5), (6, .int x6), (7, .int x7)] [] M) (s0 : Int32) (s1 : Int32) (x3 : Int32) (x4 : Int32) (x5 : Int32) (x7 : Int32) (M : Mem)  (h : f_X11_mended_b78 a0 i1 i2 k26 k43 s0 s1 x3 x4 x5 x7 M = some z) : V g p l e ({ frames := 5, cells := 0, slots := 0, locals := 40 * 5 } : Room) s m args below meth c 8 0 0 (MQ below (gQ g (some (.int z.1)) z.2) args s 0 0 (gA g)) 78 [(0, .ref (gAd g a0)), (1, .int i1), (2, .int i2), (3, .int x3), (4, .int x4), (5, .int x5), (7, .int x7)] [.int s1, .int s0] M := by
  unfold f_X11_mended_b78 at h
  refine v_iadd F dX11_mended_78 ?_
  refine v_istore (lv' := [(6, .int (s0 + s1)), (0, .ref (gAd g a0)), (1, .int i1), (2, .int i2), (3, .int x3), (4, .int x4), (5, .int x5), (7, .int x7)]) F dX11_mended_79 (by decide) rfl ?_
  refine v_iinc (v := x7 + 1) (lv' := [(7, .int (x7 + 1)), (6, .int (s0 + s1)), (0, .ref (gAd g a0)), (1, .int i1), (2, .int i2), (3, .int x3), (4, .int x4), (5, .int x5)]) F dX11_mended_81 (q := 7) rfl rfl (by decide) rfl ?_
  refine v_goto (tgt := 43) F dX11_mended_84 (by decide) ?_
  refine v_sub (fun ls h9 => lv_sub h9 [2, 3, 4, 5, 6, 7, 1, 0] rfl) ?_
  exact hk43 _ _ _ _ _ _ h
set_option maxHeartbeats 4000000 in
set_option maxRecDepth 100000 in
theorem w_X11_mended_b161 {g : gT} {p : Program} {l : Launch} {e : Env} {s : State} {m : MethodId} {args : Array Value} {below : List Frame} {meth : Method} {c : Code} {z : Int32 × Mem} (F : Fx g p s m args c cX11_mended 8 uX11_mended RX11) (hr : meth.sig.returnType = (some .int)) (hlk : meth.locks = false)  {a0 : Nat} {i1 : Int32} {i2 : Int32} (t0 : Ty g 11 a0) {k26 : Int32 → Int32 → Int32 → Mem → Option (Int32 × Mem)} {k135 : Int32 → Int32 → Int32 → Int32 → Int32 → Mem → Option (Int32 × Mem)} (hk26 : ∀ (x3 : Int32) (x4 : Int32) (x5 : Int32) (M : Mem), k26 x3 x4 x5 M = some z → V g p l e ({ frames := 5, cells := 0, slots := 0, locals := 40 * 5 } : Room) s m args below meth c 8 0 0 (MQ below (gQ g (some (.int z.1)) z.2) args s 0 0 (gA g)) 26 [(0, .ref (gAd g a0)), (1, .int i1), (2, .int i2), (3, .int x3), (4, .int x4), (5, .int x5)] [] M) (hk135 : ∀ (x3 : Int32) (x4 : Int32) (x5 : Int32) (x6 : Int32) (x7 : Int32) (M : Mem), k135 x3 x4 x5 x6 x7 M = some z → V g p l e ({ frames := 5, cells := 0, slots := 0, locals := 40 * 5 } : Room) s m args below meth c 8 0 0 (MQ below (gQ g (some (.int z.1)) z.2) args s 0 0 (gA g)) 135 [(0, .ref (gAd g a0)), (1, .int i1), (2, .int i2), (3, .int x3), (4, .int x4), (5, .int x5), (6, .int x6), (7, .int x7)] [] M) (x3 : Int32) (x4 : Int32) (x5 : Int32) (x6 : Int32) (x7 : Int32) (M : Mem)  (h : f_X11_mended_b161 a0 i1 i2 k26 k135 x3 x4 x5 x6 x7 M = some z) : V g p l e ({ frames := 5, cells := 0, slots := 0, locals := 40 * 5 } : Room) s m args below meth c 8 0 0 (MQ below (gQ g (some (.int z.1)) z.2) args s 0 0 (gA g)) 161 [(0, .ref (gAd g a0)), (1, .int i1), (2, .int i2), (3, .int x3), (4, .int x4), (5, .int x5), (6, .int x6), (7, .int x7)] [] M := by
  unfold f_X11_mended_b161 at h
  refine v_iinc (v := x7 + 1) (lv' := [(7, .int (x7 + 1)), (0, .ref (gAd g a0)), (1, .int i1), (2, .int i2), (3, .int x3), (4, .int x4), (5, .int x5), (6, .int x6)]) F dX11_mended_161 (q := 7) rfl rfl (by decide) rfl ?_
  refine v_goto (tgt := 135) F dX11_mended_164 (by decide) ?_
  refine v_sub (fun ls h9 => lv_sub h9 [1, 2, 3, 4, 5, 6, 7, 0] rfl) ?_
  exact hk135 _ _ _ _ _ _ h
set_option maxHeartbeats 4000000 in
set_option maxRecDepth 100000 in
theorem w_X11_mended_b213 {g : gT} {p : Program} {l : Launch} {e : Env} {s : State} {m : MethodId} {args : Array Value} {below : List Frame} {meth : Method} {c : Code} {z : Int32 × Mem} (F : Fx g p s m args c cX11_mended 8 uX11_mended RX11) (hr : meth.sig.returnType = (some .int)) (hlk : meth.locks = false)  {a0 : Nat} {i1 : Int32} {i2 : Int32} (t0 : Ty g 11 a0) {k26 : Int32 → Int32 → Int32 → Mem → Option (Int32 × Mem)} (hk26 : ∀ (x3 : Int32) (x4 : Int32) (x5 : Int32) (M : Mem), k26 x3 x4 x5 M = some z → V g p l e ({ frames := 5, cells := 0, slots := 0, locals := 40 * 5 } : Room) s m args below meth c 8 0 0 (MQ below (gQ g (some (.int z.1)) z.2) args s 0 0 (gA g)) 26 [(0, .ref (gAd g a0)), (1, .int i1), (2, .int i2), (3, .int x3), (4, .int x4), (5, .int x5)] [] M) (x3 : Int32) (x4 : Int32) (x5 : Int32) (M : Mem)  (h : f_X11_mended_b213 a0 i1 i2 k26 x3 x4 x5 M = some z) : V g p l e ({ frames := 5, cells := 0, slots := 0, locals := 40 * 5 } : Room) s m args below meth c 8 0 0 (MQ below (gQ g (some (.int z.1)) z.2) args s 0 0 (gA g)) 213 [(0, .ref (gAd g a0)), (1, .int i1), (2, .int i2), (3, .int x3), (4, .int x4), (5, .int x5)] [] M := by
  unfold f_X11_mended_b213 at h
  refine v_iinc (v := x5 + 1) (lv' := [(5, .int (x5 + 1)), (0, .ref (gAd g a0)), (1, .int i1), (2, .int i2), (3, .int x3), (4, .int x4)]) F dX11_mended_213 (q := 5) rfl rfl (by decide) rfl ?_
  refine v_goto (tgt := 26) F dX11_mended_216 (by decide) ?_
  refine v_sub (fun ls h9 => lv_sub h9 [1, 2, 3, 4, 5, 0] rfl) ?_
  exact hk26 _ _ _ _ h
set_option maxHeartbeats 4000000 in
set_option maxRecDepth 100000 in
theorem w_X11_mended_h186 {g : gT} {p : Program} {l : Launch} {e : Env} {s : State} {m : MethodId} {args : Array Value} {below : List Frame} {meth : Method} {c : Code} {z : Int32 × Mem} (F : Fx g p s m args c cX11_mended 8 uX11_mended RX11) (hr : meth.sig.returnType = (some .int)) (hlk : meth.locks = false)  {a0 : Nat} {i1 : Int32} {i2 : Int32} (t0 : Ty g 11 a0) {k26 : Int32 → Int32 → Int32 → Mem → Option (Int32 × Mem)} (hk26 : ∀ (x3 : Int32) (x4 : Int32) (x5 : Int32) (M : Mem), k26 x3 x4 x5 M = some z → V g p l e ({ frames := 5, cells := 0, slots := 0, locals := 40 * 5 } : Room) s m args below meth c 8 0 0 (MQ below (gQ g (some (.int z.1)) z.2) args s 0 0 (gA g)) 26 [(0, .ref (gAd g a0)), (1, .int i1), (2, .int i2), (3, .int x3), (4, .int x4), (5, .int x5)] [] M) : ∀ (n : Nat) (x3 : Int32) (x4 : Int32) (x5 : Int32) (x7 : Int32) (M : Mem), f_X11_mended_h186 a0 i1 i2 k26 n x3 x4 x5 x7 M = some z → V g p l e ({ frames := 5, cells := 0, slots := 0, locals := 40 * 5 } : Room) s m args below meth c 8 0 0 (MQ below (gQ g (some (.int z.1)) z.2) args s 0 0 (gA g)) 186 [(0, .ref (gAd g a0)), (1, .int i1), (2, .int i2), (3, .int x3), (4, .int x4), (5, .int x5), (7, .int x7)] [] M := by
  intro n
  induction n with
  | zero => intro x3 x4 x5 x7 M; intros; rename_i h; cases h
  | succ n ih =>
    intro x3 x4 x5 x7 M h
    rw [f_X11_mended_h186] at h
    refine v_iload F dX11_mended_186 6 rfl ?_
    refine v_bipush (v := 10) F dX11_mended_188 (by decide) ?_
    refine v_icmp_ge (tgt := 213) F dX11_mended_190 (by decide) (fun hc31 => ?_) (fun hc31 => ?_)
    · rw [if_pos hc31] at h
      refine v_sub (fun ls h9 => lv_sub h9 [0, 1, 2, 3, 4, 5] rfl) ?_
      exact w_X11_mended_b213 F hr hlk t0 hk26 _ _ _ _ h
    · rw [if_neg hc31] at h
      refine v_aload_n F dX11_mended_193 rfl 0 rfl ?_
      refine v_getR (k := 21) (f := 12) F t0 (by decide) (inc inU_11) rfl rfl (by decide) (by decide) (List.mem_cons_of_mem _ fl_X11_40) rfl dX11_mended_194 (fun u32 => ?_)
      refine v_iload F dX11_mended_197 6 rfl ?_
      refine v_aload_n F dX11_mended_199 rfl 0 rfl ?_
      refine v_getR (k := 29) (f := 12) F t0 (by decide) (inc inU_11) rfl rfl (by decide) (by decide) (List.mem_cons_of_mem _ fl_X11_62) rfl dX11_mended_200 (fun u33 => ?_)
      refine v_iload F dX11_mended_203 6 rfl ?_
      obtain ⟨hin34, h⟩ := gd_some h
      refine v_iald F u33 hin34 dX11_mended_205 ?_
      obtain ⟨hin35, h⟩ := gd_some h
      refine v_iast F u32 hin35 dX11_mended_206 ?_
      refine v_iinc (v := x7 + 1) (lv' := [(7, .int (x7 + 1)), (0, .ref (gAd g a0)), (1, .int i1), (2, .int i2), (3, .int x3), (4, .int x4), (5, .int x5)]) F dX11_mended_207 (q := 6) rfl rfl (by decide) rfl ?_
      refine v_goto (tgt := 186) F dX11_mended_210 (by decide) ?_
      refine v_sub (fun ls h9 => lv_sub h9 [1, 2, 3, 4, 5, 6, 0] rfl) ?_
      exact ih _ _ _ _ _ h
set_option maxHeartbeats 4000000 in
set_option maxRecDepth 100000 in
theorem w_X11_mended_b183 {g : gT} {p : Program} {l : Launch} {e : Env} {s : State} {m : MethodId} {args : Array Value} {below : List Frame} {meth : Method} {c : Code} {z : Int32 × Mem} (F : Fx g p s m args c cX11_mended 8 uX11_mended RX11) (hr : meth.sig.returnType = (some .int)) (hlk : meth.locks = false)  {a0 : Nat} {i1 : Int32} {i2 : Int32} (t0 : Ty g 11 a0) {k26 : Int32 → Int32 → Int32 → Mem → Option (Int32 × Mem)} (hk26 : ∀ (x3 : Int32) (x4 : Int32) (x5 : Int32) (M : Mem), k26 x3 x4 x5 M = some z → V g p l e ({ frames := 5, cells := 0, slots := 0, locals := 40 * 5 } : Room) s m args below meth c 8 0 0 (MQ below (gQ g (some (.int z.1)) z.2) args s 0 0 (gA g)) 26 [(0, .ref (gAd g a0)), (1, .int i1), (2, .int i2), (3, .int x3), (4, .int x4), (5, .int x5)] [] M) (x3 : Int32) (x4 : Int32) (x5 : Int32) (M : Mem)  (h : f_X11_mended_b183 a0 i1 i2 k26 x3 x4 x5 M = some z) : V g p l e ({ frames := 5, cells := 0, slots := 0, locals := 40 * 5 } : Room) s m args below meth c 8 0 0 (MQ below (gQ g (some (.int z.1)) z.2) args s 0 0 (gA g)) 183 [(0, .ref (gAd g a0)), (1, .int i1), (2, .int i2), (3, .int x3), (4, .int x4), (5, .int x5)] [] M := by
  unfold f_X11_mended_b183 at h
  refine v_iconst (v := 0) F dX11_mended_183 (by decide) ?_
  refine v_istore (lv' := [(7, .int 0), (0, .ref (gAd g a0)), (1, .int i1), (2, .int i2), (3, .int x3), (4, .int x4), (5, .int x5)]) F dX11_mended_184 (by decide) rfl ?_
  refine v_sub (fun ls h9 => lv_sub h9 [1, 2, 3, 4, 5, 6, 0] rfl) ?_
  exact w_X11_mended_h186 F hr hlk t0 hk26 _ _ _ _ _ _ h
set_option maxHeartbeats 4000000 in
set_option maxRecDepth 100000 in
theorem w_X11_mended_h135 {g : gT} {p : Program} {l : Launch} {e : Env} {s : State} {m : MethodId} {args : Array Value} {below : List Frame} {meth : Method} {c : Code} {z : Int32 × Mem} (F : Fx g p s m args c cX11_mended 8 uX11_mended RX11) (hr : meth.sig.returnType = (some .int)) (hlk : meth.locks = false)  {a0 : Nat} {i1 : Int32} {i2 : Int32} (t0 : Ty g 11 a0) {k26 : Int32 → Int32 → Int32 → Mem → Option (Int32 × Mem)} (hk26 : ∀ (x3 : Int32) (x4 : Int32) (x5 : Int32) (M : Mem), k26 x3 x4 x5 M = some z → V g p l e ({ frames := 5, cells := 0, slots := 0, locals := 40 * 5 } : Room) s m args below meth c 8 0 0 (MQ below (gQ g (some (.int z.1)) z.2) args s 0 0 (gA g)) 26 [(0, .ref (gAd g a0)), (1, .int i1), (2, .int i2), (3, .int x3), (4, .int x4), (5, .int x5)] [] M) : ∀ (n : Nat) (x3 : Int32) (x4 : Int32) (x5 : Int32) (x6 : Int32) (x7 : Int32) (M : Mem), f_X11_mended_h135 a0 i1 i2 k26 n x3 x4 x5 x6 x7 M = some z → V g p l e ({ frames := 5, cells := 0, slots := 0, locals := 40 * 5 } : Room) s m args below meth c 8 0 0 (MQ below (gQ g (some (.int z.1)) z.2) args s 0 0 (gA g)) 135 [(0, .ref (gAd g a0)), (1, .int i1), (2, .int i2), (3, .int x3), (4, .int x4), (5, .int x5), (6, .int x6), (7, .int x7)] [] M := by
  intro n
  induction n with
  | zero => intro x3 x4 x5 x6 x7 M; intros; rename_i h; cases h
  | succ n ih =>
    intro x3 x4 x5 x6 x7 M h
    rw [f_X11_mended_h135] at h
    refine v_iload F dX11_mended_135 7 rfl ?_
    refine v_aload_n F dX11_mended_137 rfl 0 rfl ?_
    refine v_getI (k := 32) F t0 (by decide) (inc inU_11) rfl rfl (by decide) (List.mem_cons_of_mem _ fl_X11_283) rfl dX11_mended_138 ?_
    refine v_icmp_ge (tgt := 167) F dX11_mended_141 (by decide) (fun hc20 => ?_) (fun hc20 => ?_)
    · rw [if_pos hc20] at h
      refine v_aload_n F dX11_mended_167 rfl 0 rfl ?_
      refine v_iload_n F dX11_mended_168 rfl 1 rfl ?_
      refine v_iload_n F dX11_mended_169 rfl 2 rfl ?_
      obtain ⟨⟨r21, M22⟩, hz23, h⟩ := bd_some h
      dsimp only at h
      refine v_callVi (As := [.int i1, .int i2]) (rest := []) F (c_X11_isCalm l F.2.2.1 t0 hz23) (cwV 2 F.1.2.2.2.2 (gU_V ml_X11_286 im_yX11_isCalm se_yX11_isCalm ini_X11 cd_X11_isCalm) rfl rfl rfl (by decide +kernel) ⟨Nat.le_of_ble_eq_true rfl, Nat.le_of_ble_eq_true rfl⟩) t0 (by decide) rfl rfl rfl (Nat.le_of_ble_eq_true rfl) dX11_mended_170 ⟨Nat.le_of_ble_eq_true rfl, Nat.le_of_ble_eq_true rfl⟩ ?_
      refine v_if_eq (tgt := 183) F dX11_mended_173 (by decide) (fun hc25 => ?_) (fun hc25 => ?_)
      · rw [if_pos hc25] at h
        refine v_sub (fun ls h9 => lv_sub h9 [0, 1, 2, 3, 4, 5] rfl) ?_
        exact w_X11_mended_b183 F hr hlk t0 hk26 _ _ _ _ h
      · rw [if_neg hc25] at h
        refine v_iload F dX11_mended_176 5 rfl ?_
        refine v_istore_n (lv' := [(3, .int x5), (0, .ref (gAd g a0)), (1, .int i1), (2, .int i2), (4, .int x4), (5, .int x5), (6, .int x6), (7, .int x7)]) F dX11_mended_178 rfl (by decide) rfl ?_
        refine v_iload F dX11_mended_179 6 rfl ?_
        refine v_istore (lv' := [(4, .int x6), (3, .int x5), (0, .ref (gAd g a0)), (1, .int i1), (2, .int i2), (5, .int x5), (6, .int x6), (7, .int x7)]) F dX11_mended_181 (by decide) rfl ?_
        refine v_sub (fun ls h9 => lv_sub h9 [2, 3, 4, 1, 0, 5] rfl) ?_
        exact w_X11_mended_b183 F hr hlk t0 hk26 _ _ _ _ h
    · rw [if_neg hc20] at h
      refine v_iload F dX11_mended_144 5 rfl ?_
      refine v_iload F dX11_mended_146 7 rfl ?_
      refine v_ishr F dX11_mended_148 ?_
      refine v_iconst (v := 1) F dX11_mended_149 (by decide) ?_
      refine v_iand F dX11_mended_150 ?_
      refine v_iconst (v := 1) F dX11_mended_151 (by decide) ?_
      refine v_icmp_ne (tgt := 161) F dX11_mended_152 (by decide) (fun hc26 => ?_) (fun hc26 => ?_)
      · rw [if_neg hc26] at h
        exact w_X11_mended_b161 F hr hlk t0 hk26 ih _ _ _ _ _ _ h
      · rw [if_pos hc26] at h
        refine v_aload_n F dX11_mended_155 rfl 0 rfl ?_
        refine v_iload F dX11_mended_156 7 rfl ?_
        obtain ⟨⟨r27, M28⟩, hz29, h⟩ := bd_some h
        dsimp only at h
        refine v_callVv (As := [.int x7]) (rest := []) F (c_X11_makes l F.2.2.1 t0 hz29) (cwV 1 F.1.2.2.2.2 (gU_V ml_X11_289 im_yX11_makes se_yX11_makes ini_X11 cd_X11_makes) rfl rfl rfl (by decide +kernel) ⟨Nat.le_of_ble_eq_true rfl, Nat.le_of_ble_eq_true rfl⟩) t0 (by decide) rfl rfl rfl (Nat.le_of_ble_eq_true rfl) dX11_mended_158 ⟨Nat.le_of_ble_eq_true rfl, Nat.le_of_ble_eq_true rfl⟩ ?_
        exact w_X11_mended_b161 F hr hlk t0 hk26 ih _ _ _ _ _ _ h
set_option maxHeartbeats 4000000 in
set_option maxRecDepth 100000 in
theorem w_X11_mended_h105 {g : gT} {p : Program} {l : Launch} {e : Env} {s : State} {m : MethodId} {args : Array Value} {below : List Frame} {meth : Method} {c : Code} {z : Int32 × Mem} (F : Fx g p s m args c cX11_mended 8 uX11_mended RX11) (hr : meth.sig.returnType = (some .int)) (hlk : meth.locks = false)  {a0 : Nat} {i1 : Int32} {i2 : Int32} (t0 : Ty g 11 a0) {k26 : Int32 → Int32 → Int32 → Mem → Option (Int32 × Mem)} (hk26 : ∀ (x3 : Int32) (x4 : Int32) (x5 : Int32) (M : Mem), k26 x3 x4 x5 M = some z → V g p l e ({ frames := 5, cells := 0, slots := 0, locals := 40 * 5 } : Room) s m args below meth c 8 0 0 (MQ below (gQ g (some (.int z.1)) z.2) args s 0 0 (gA g)) 26 [(0, .ref (gAd g a0)), (1, .int i1), (2, .int i2), (3, .int x3), (4, .int x4), (5, .int x5)] [] M) : ∀ (n : Nat) (x3 : Int32) (x4 : Int32) (x5 : Int32) (x6 : Int32) (x7 : Int32) (M : Mem), f_X11_mended_h105 a0 i1 i2 k26 n x3 x4 x5 x6 x7 M = some z → V g p l e ({ frames := 5, cells := 0, slots := 0, locals := 40 * 5 } : Room) s m args below meth c 8 0 0 (MQ below (gQ g (some (.int z.1)) z.2) args s 0 0 (gA g)) 105 [(0, .ref (gAd g a0)), (1, .int i1), (2, .int i2), (3, .int x3), (4, .int x4), (5, .int x5), (6, .int x6), (7, .int x7)] [] M := by
  intro n
  induction n with
  | zero => intro x3 x4 x5 x6 x7 M; intros; rename_i h; cases h
  | succ n ih =>
    intro x3 x4 x5 x6 x7 M h
    rw [f_X11_mended_h105] at h
    refine v_iload F dX11_mended_105 7 rfl ?_
    refine v_bipush (v := 10) F dX11_mended_107 (by decide) ?_
    refine v_icmp_ge (tgt := 132) F dX11_mended_109 (by decide) (fun hc15 => ?_) (fun hc15 => ?_)
    · rw [if_pos hc15] at h
      refine v_iconst (v := 0) F dX11_mended_132 (by decide) ?_
      refine v_istore (lv' := [(7, .int 0), (0, .ref (gAd g a0)), (1, .int i1), (2, .int i2), (3, .int x3), (4, .int x4), (5, .int x5), (6, .int x6)]) F dX11_mended_133 (by decide) rfl ?_
      refine v_sub (fun ls h9 => lv_sub h9 [1, 2, 3, 4, 5, 6, 7, 0] rfl) ?_
      exact w_X11_mended_h135 F hr hlk t0 hk26 _ _ _ _ _ _ _ h
    · rw [if_neg hc15] at h
      refine v_aload_n F dX11_mended_112 rfl 0 rfl ?_
      refine v_getR (k := 29) (f := 12) F t0 (by decide) (inc inU_11) rfl rfl (by decide) (by decide) (List.mem_cons_of_mem _ fl_X11_62) rfl dX11_mended_113 (fun u16 => ?_)
      refine v_iload F dX11_mended_116 7 rfl ?_
      refine v_aload_n F dX11_mended_118 rfl 0 rfl ?_
      refine v_getR (k := 21) (f := 12) F t0 (by decide) (inc inU_11) rfl rfl (by decide) (by decide) (List.mem_cons_of_mem _ fl_X11_40) rfl dX11_mended_119 (fun u17 => ?_)
      refine v_iload F dX11_mended_122 7 rfl ?_
      obtain ⟨hin18, h⟩ := gd_some h
      refine v_iald F u17 hin18 dX11_mended_124 ?_
      obtain ⟨hin19, h⟩ := gd_some h
      refine v_iast F u16 hin19 dX11_mended_125 ?_
      refine v_iinc (v := x7 + 1) (lv' := [(7, .int (x7 + 1)), (0, .ref (gAd g a0)), (1, .int i1), (2, .int i2), (3, .int x3), (4, .int x4), (5, .int x5), (6, .int x6)]) F dX11_mended_126 (q := 7) rfl rfl (by decide) rfl ?_
      refine v_goto (tgt := 105) F dX11_mended_129 (by decide) ?_
      refine v_sub (fun ls h9 => lv_sub h9 [1, 2, 3, 4, 5, 6, 7, 0] rfl) ?_
      exact ih _ _ _ _ _ _ h
set_option maxHeartbeats 4000000 in
set_option maxRecDepth 100000 in
theorem w_X11_mended_b102 {g : gT} {p : Program} {l : Launch} {e : Env} {s : State} {m : MethodId} {args : Array Value} {below : List Frame} {meth : Method} {c : Code} {z : Int32 × Mem} (F : Fx g p s m args c cX11_mended 8 uX11_mended RX11) (hr : meth.sig.returnType = (some .int)) (hlk : meth.locks = false)  {a0 : Nat} {i1 : Int32} {i2 : Int32} (t0 : Ty g 11 a0) {k26 : Int32 → Int32 → Int32 → Mem → Option (Int32 × Mem)} (hk26 : ∀ (x3 : Int32) (x4 : Int32) (x5 : Int32) (M : Mem), k26 x3 x4 x5 M = some z → V g p l e ({ frames := 5, cells := 0, slots := 0, locals := 40 * 5 } : Room) s m args below meth c 8 0 0 (MQ below (gQ g (some (.int z.1)) z.2) args s 0 0 (gA g)) 26 [(0, .ref (gAd g a0)), (1, .int i1), (2, .int i2), (3, .int x3), (4, .int x4), (5, .int x5)] [] M) (x3 : Int32) (x4 : Int32) (x5 : Int32) (x6 : Int32) (M : Mem)  (h : f_X11_mended_b102 a0 i1 i2 k26 x3 x4 x5 x6 M = some z) : V g p l e ({ frames := 5, cells := 0, slots := 0, locals := 40 * 5 } : Room) s m args below meth c 8 0 0 (MQ below (gQ g (some (.int z.1)) z.2) args s 0 0 (gA g)) 102 [(0, .ref (gAd g a0)), (1, .int i1), (2, .int i2), (3, .int x3), (4, .int x4), (5, .int x5), (6, .int x6)] [] M := by
  unfold f_X11_mended_b102 at h
  refine v_iconst (v := 0) F dX11_mended_102 (by decide) ?_
  refine v_istore (lv' := [(7, .int 0), (0, .ref (gAd g a0)), (1, .int i1), (2, .int i2), (3, .int x3), (4, .int x4), (5, .int x5), (6, .int x6)]) F dX11_mended_103 (by decide) rfl ?_
  refine v_sub (fun ls h9 => lv_sub h9 [1, 2, 3, 4, 5, 6, 7, 0] rfl) ?_
  exact w_X11_mended_h105 F hr hlk t0 hk26 _ _ _ _ _ _ _ h
set_option maxHeartbeats 4000000 in
set_option maxRecDepth 100000 in
theorem w_X11_mended_h43 {g : gT} {p : Program} {l : Launch} {e : Env} {s : State} {m : MethodId} {args : Array Value} {below : List Frame} {meth : Method} {c : Code} {z : Int32 × Mem} (F : Fx g p s m args c cX11_mended 8 uX11_mended RX11) (hr : meth.sig.returnType = (some .int)) (hlk : meth.locks = false)  {a0 : Nat} {i1 : Int32} {i2 : Int32} (t0 : Ty g 11 a0) {k26 : Int32 → Int32 → Int32 → Mem → Option (Int32 × Mem)} (hk26 : ∀ (x3 : Int32) (x4 : Int32) (x5 : Int32) (M : Mem), k26 x3 x4 x5 M = some z → V g p l e ({ frames := 5, cells := 0, slots := 0, locals := 40 * 5 } : Room) s m args below meth c 8 0 0 (MQ below (gQ g (some (.int z.1)) z.2) args s 0 0 (gA g)) 26 [(0, .ref (gAd g a0)), (1, .int i1), (2, .int i2), (3, .int x3), (4, .int x4), (5, .int x5)] [] M) : ∀ (n : Nat) (x3 : Int32) (x4 : Int32) (x5 : Int32) (x6 : Int32) (x7 : Int32) (M : Mem), f_X11_mended_h43 a0 i1 i2 k26 n x3 x4 x5 x6 x7 M = some z → V g p l e ({ frames := 5, cells := 0, slots := 0, locals := 40 * 5 } : Room) s m args below meth c 8 0 0 (MQ below (gQ g (some (.int z.1)) z.2) args s 0 0 (gA g)) 43 [(0, .ref (gAd g a0)), (1, .int i1), (2, .int i2), (3, .int x3), (4, .int x4), (5, .int x5), (6, .int x6), (7, .int x7)] [] M := by
  intro n
  induction n with
  | zero => intro x3 x4 x5 x6 x7 M; intros; rename_i h; cases h
  | succ n ih =>
    intro x3 x4 x5 x6 x7 M h
    rw [f_X11_mended_h43] at h
    refine v_iload F dX11_mended_43 7 rfl ?_
    refine v_aload_n F dX11_mended_45 rfl 0 rfl ?_
    refine v_getI (k := 32) F t0 (by decide) (inc inU_11) rfl rfl (by decide) (List.mem_cons_of_mem _ fl_X11_283) rfl dX11_mended_46 ?_
    refine v_icmp_ge (tgt := 87) F dX11_mended_49 (by decide) (fun hc7 => ?_) (fun hc7 => ?_)
    · rw [if_pos hc7] at h
      refine v_iload_n F dX11_mended_87 rfl 3 rfl ?_
      refine v_iconst (v := (-1)) F dX11_mended_88 (by decide) ?_
      refine v_icmp_eq (tgt := 102) F dX11_mended_89 (by decide) (fun hc8 => ?_) (fun hc8 => ?_)
      · rw [if_pos hc8] at h
        refine v_sub (fun ls h9 => lv_sub h9 [0, 1, 2, 3, 4, 5, 6] rfl) ?_
        exact w_X11_mended_b102 F hr hlk t0 hk26 _ _ _ _ _ h
      · rw [if_neg hc8] at h
        refine v_iload F dX11_mended_92 6 rfl ?_
        refine v_iload F dX11_mended_94 4 rfl ?_
        refine v_icmp_lt (tgt := 102) F dX11_mended_96 (by decide) (fun hc9 => ?_) (fun hc9 => ?_)
        · rw [if_pos hc9] at h
          refine v_sub (fun ls h9 => lv_sub h9 [0, 1, 2, 3, 4, 5, 6] rfl) ?_
          exact w_X11_mended_b102 F hr hlk t0 hk26 _ _ _ _ _ h
        · rw [if_neg hc9] at h
          refine v_goto (tgt := 213) F dX11_mended_99 (by decide) ?_
          refine v_sub (fun ls h9 => lv_sub h9 [0, 1, 2, 3, 4, 5] rfl) ?_
          exact w_X11_mended_b213 F hr hlk t0 hk26 _ _ _ _ h
    · rw [if_neg hc7] at h
      refine v_iload F dX11_mended_52 6 rfl ?_
      refine v_iload F dX11_mended_54 5 rfl ?_
      refine v_iload F dX11_mended_56 7 rfl ?_
      refine v_ishr F dX11_mended_58 ?_
      refine v_iconst (v := 1) F dX11_mended_59 (by decide) ?_
      refine v_iand F dX11_mended_60 ?_
      refine v_iconst (v := 1) F dX11_mended_61 (by decide) ?_
      refine v_icmp_ne (tgt := 77) F dX11_mended_62 (by decide) (fun hc10 => ?_) (fun hc10 => ?_)
      · rw [if_neg hc10] at h
        refine v_iconst (v := 0) F dX11_mended_77 (by decide) ?_
        refine v_sub (fun ls h9 => lv_sub h9 [0, 1, 2, 3, 4, 5, 7] rfl) ?_
        exact w_X11_mended_b78 F hr hlk t0 hk26 ih _ _ _ _ _ _ _ h
      · rw [if_pos hc10] at h
        refine v_aload_n F dX11_mended_65 rfl 0 rfl ?_
        refine v_getR (k := 37) (f := 16) F t0 (by decide) (inc inU_11) rfl rfl (by decide) (by decide) (List.mem_cons_of_mem _ fl_X11_71) rfl dX11_mended_66 (fun u11 => ?_)
        refine v_iload F dX11_mended_69 7 rfl ?_
        obtain ⟨hin12, h⟩ := gd_some h
        refine v_aald (ke := 12) (t0 := 4) F u11 (by decide) rfl rfl hin12 dX11_mended_71 (fun u13 => ?_)
        refine v_iconst (v := 2) F dX11_mended_72 (by decide) ?_
        obtain ⟨hin14, h⟩ := gd_some h
        refine v_iald F u13 hin14 dX11_mended_73 ?_
        refine v_goto (tgt := 78) F dX11_mended_74 (by decide) ?_
        refine v_sub (fun ls h9 => lv_sub h9 [0, 1, 2, 3, 4, 5, 7] rfl) ?_
        exact w_X11_mended_b78 F hr hlk t0 hk26 ih _ _ _ _ _ _ _ h
set_option maxHeartbeats 4000000 in
set_option maxRecDepth 100000 in
theorem w_X11_mended_h26 {g : gT} {p : Program} {l : Launch} {e : Env} {s : State} {m : MethodId} {args : Array Value} {below : List Frame} {meth : Method} {c : Code} {z : Int32 × Mem} (F : Fx g p s m args c cX11_mended 8 uX11_mended RX11) (hr : meth.sig.returnType = (some .int)) (hlk : meth.locks = false)  {a0 : Nat} {i1 : Int32} {i2 : Int32} (t0 : Ty g 11 a0)   : ∀ (n : Nat) (x3 : Int32) (x4 : Int32) (x5 : Int32) (M : Mem), f_X11_mended_h26 a0 i1 i2 n x3 x4 x5 M = some z → V g p l e ({ frames := 5, cells := 0, slots := 0, locals := 40 * 5 } : Room) s m args below meth c 8 0 0 (MQ below (gQ g (some (.int z.1)) z.2) args s 0 0 (gA g)) 26 [(0, .ref (gAd g a0)), (1, .int i1), (2, .int i2), (3, .int x3), (4, .int x4), (5, .int x5)] [] M := by
  intro n
  induction n with
  | zero => intro x3 x4 x5 M; intros; rename_i h; cases h
  | succ n ih =>
    intro x3 x4 x5 M h
    rw [f_X11_mended_h26] at h
    refine v_iload F dX11_mended_26 5 rfl ?_
    refine v_iconst (v := 1) F dX11_mended_28 (by decide) ?_
    refine v_aload_n F dX11_mended_29 rfl 0 rfl ?_
    refine v_getI (k := 32) F t0 (by decide) (inc inU_11) rfl rfl (by decide) (List.mem_cons_of_mem _ fl_X11_283) rfl dX11_mended_30 ?_
    refine v_ishl F dX11_mended_33 ?_
    refine v_icmp_ge (tgt := 219) F dX11_mended_34 (by decide) (fun hc6 => ?_) (fun hc6 => ?_)
    · rw [if_pos hc6] at h
      refine v_iload_n F dX11_mended_219 rfl 3 rfl ?_
      cases h
      exact v_iret F hr rfl hlk dX11_mended_220
    · rw [if_neg hc6] at h
      refine v_iconst (v := 0) F dX11_mended_37 (by decide) ?_
      refine v_istore (lv' := [(6, .int 0), (0, .ref (gAd g a0)), (1, .int i1), (2, .int i2), (3, .int x3), (4, .int x4), (5, .int x5)]) F dX11_mended_38 (by decide) rfl ?_
      refine v_iconst (v := 0) F dX11_mended_40 (by decide) ?_
      refine v_istore (lv' := [(7, .int 0), (6, .int 0), (0, .ref (gAd g a0)), (1, .int i1), (2, .int i2), (3, .int x3), (4, .int x4), (5, .int x5)]) F dX11_mended_41 (by decide) rfl ?_
      refine v_sub (fun ls h9 => lv_sub h9 [2, 3, 4, 5, 6, 7, 1, 0] rfl) ?_
      exact w_X11_mended_h43 F hr hlk t0 ih _ _ _ _ _ _ _ h
set_option maxHeartbeats 4000000 in
set_option maxRecDepth 100000 in
theorem c_X11_mended {g : gT} (l : Launch) (hok : gOK g)  {a0 : Nat} {i1 : Int32} {i2 : Int32} {M : Mem} {z : Int32 × Mem}  (t0 : Ty g 11 a0) (h : f_X11_mended  M a0 i1 i2 = some z) : Cn g l yX11_mended uX11_mended 5 [.ref (gAd g a0), .int i1, .int i2] M (some (.int z.1)) z.2 := by
  refine Cn.of (cc := cX11_mended) (maxL := 8) (ret := (some .int)) hok (by decide) rfl (Nat.le_of_ble_eq_true rfl) (fun p e s m args below meth c F hr hlk => ?_)
  unfold f_X11_mended at h
  show V g p l e ({ frames := 5, cells := 0, slots := 0, locals := 40 * 5 } : Room) s m args below meth c 8 0 0 (MQ below (gQ g (some (.int z.1)) z.2) args s 0 0 (gA g)) 0 [(0, .ref (gAd g a0)), (1, .int i1), (2, .int i2)] [] M
  refine v_aload_n F dX11_mended_0 rfl 0 rfl ?_
  refine v_iconst (v := 0) F dX11_mended_1 (by decide) ?_
  refine v_put (k := 0) (ty := .int) F t0 (by decide) (inc inU_11) tyX11 tyX11_ok nmX11 rfl rfl (by decide) (List.mem_cons_of_mem _ fl_X11_83) rfl rfl (by decide +kernel) rfl rfl dX11_mended_2 ?_
  refine v_aload_n F dX11_mended_5 rfl 0 rfl ?_
  refine v_iload_n F dX11_mended_6 rfl 1 rfl ?_
  refine v_iload_n F dX11_mended_7 rfl 2 rfl ?_
  refine v_iconst (v := 0) F dX11_mended_8 (by decide) ?_
  refine v_iconst (v := 1) F dX11_mended_9 (by decide) ?_
  obtain ⟨⟨r1, M2⟩, hz3, h⟩ := bd_some h
  dsimp only at h
  refine v_callVi (As := [.int i1, .int i2, .int 0, .int 1]) (rest := []) F (c_X11_badTrial l F.2.2.1 t0 hz3) (cwV 4 F.1.2.2.2.2 (gU_V ml_X11_260 im_yX11_badTrial se_yX11_badTrial ini_X11 cd_X11_badTrial) rfl rfl rfl (by decide +kernel) ⟨Nat.le_of_ble_eq_true rfl, Nat.le_of_ble_eq_true rfl⟩) t0 (by decide) rfl rfl rfl (Nat.le_of_ble_eq_true rfl) dX11_mended_10 ⟨Nat.le_of_ble_eq_true rfl, Nat.le_of_ble_eq_true rfl⟩ ?_
  refine v_if_eq (tgt := 18) F dX11_mended_13 (by decide) (fun hc5 => ?_) (fun hc5 => ?_)
  · rw [if_pos hc5] at h
    refine v_iconst (v := (-1)) F dX11_mended_18 (by decide) ?_
    refine v_istore_n (lv' := [(3, .int (-1)), (0, .ref (gAd g a0)), (1, .int i1), (2, .int i2)]) F dX11_mended_19 rfl (by decide) rfl ?_
    refine v_iconst (v := 0) F dX11_mended_20 (by decide) ?_
    refine v_istore (lv' := [(4, .int 0), (3, .int (-1)), (0, .ref (gAd g a0)), (1, .int i1), (2, .int i2)]) F dX11_mended_21 (by decide) rfl ?_
    refine v_iconst (v := 0) F dX11_mended_23 (by decide) ?_
    refine v_istore (lv' := [(5, .int 0), (4, .int 0), (3, .int (-1)), (0, .ref (gAd g a0)), (1, .int i1), (2, .int i2)]) F dX11_mended_24 (by decide) rfl ?_
    refine v_sub (fun ls h9 => lv_sub h9 [3, 4, 5, 2, 1, 0] rfl) ?_
    exact w_X11_mended_h26 F hr hlk t0 _ _ _ _ _ h
  · rw [if_neg hc5] at h
    refine v_iconst (v := 0) F dX11_mended_16 (by decide) ?_
    cases h
    exact v_iret F hr rfl hlk dX11_mended_17
def f_X11_calmTo_h2 (a0 : Nat) (i1 : Int32)  : Nat → Int32 → Mem → Option (Int32 × Mem)
  | 0, _, _ => none
  | n + 1, x2, M => if 12 < x2 then (some (12, M)) else ((f_X11_isCalm M a0 i1 x2).bind fun q => match q with | (r2, M3) => (if r2 = 0 then (some (x2 - 1, M3)) else ((f_X11_calmTo_h2 a0 i1 n) (x2 + 1) M3)))
def f_X11_calmTo  (M : Mem) (a0 : Nat) (i1 : Int32) : Option (Int32 × Mem) := f_X11_calmTo_h2 a0 i1 FU 0 M
set_option maxHeartbeats 4000000 in
set_option maxRecDepth 100000 in
theorem w_X11_calmTo_h2 {g : gT} {p : Program} {l : Launch} {e : Env} {s : State} {m : MethodId} {args : Array Value} {below : List Frame} {meth : Method} {c : Code} {z : Int32 × Mem} (F : Fx g p s m args c cX11_calmTo 3 uX11_calmTo RX11) (hr : meth.sig.returnType = (some .int)) (hlk : meth.locks = false)  {a0 : Nat} {i1 : Int32} (t0 : Ty g 11 a0)   : ∀ (n : Nat) (x2 : Int32) (M : Mem), f_X11_calmTo_h2 a0 i1 n x2 M = some z → V g p l e ({ frames := 5, cells := 0, slots := 0, locals := 40 * 5 } : Room) s m args below meth c 3 0 0 (MQ below (gQ g (some (.int z.1)) z.2) args s 0 0 (gA g)) 2 [(0, .ref (gAd g a0)), (1, .int i1), (2, .int x2)] [] M := by
  intro n
  induction n with
  | zero => intro x2 M; intros; rename_i h; cases h
  | succ n ih =>
    intro x2 M h
    rw [f_X11_calmTo_h2] at h
    refine v_iload_n F dX11_calmTo_2 rfl 2 rfl ?_
    refine v_bipush (v := 12) F dX11_calmTo_3 (by decide) ?_
    refine v_icmp_gt (tgt := 27) F dX11_calmTo_5 (by decide) (fun hc1 => ?_) (fun hc1 => ?_)
    · rw [if_pos hc1] at h
      refine v_bipush (v := 12) F dX11_calmTo_27 (by decide) ?_
      cases h
      exact v_iret F hr rfl hlk dX11_calmTo_29
    · rw [if_neg hc1] at h
      refine v_aload_n F dX11_calmTo_8 rfl 0 rfl ?_
      refine v_iload_n F dX11_calmTo_9 rfl 1 rfl ?_
      refine v_iload_n F dX11_calmTo_10 rfl 2 rfl ?_
      obtain ⟨⟨r2, M3⟩, hz4, h⟩ := bd_some h
      dsimp only at h
      refine v_callVi (As := [.int i1, .int x2]) (rest := []) F (c_X11_isCalm l F.2.2.1 t0 hz4) (cwV 2 F.1.2.2.2.2 (gU_V ml_X11_286 im_yX11_isCalm se_yX11_isCalm ini_X11 cd_X11_isCalm) rfl rfl rfl (by decide +kernel) ⟨Nat.le_of_ble_eq_true rfl, Nat.le_of_ble_eq_true rfl⟩) t0 (by decide) rfl rfl rfl (Nat.le_of_ble_eq_true rfl) dX11_calmTo_11 ⟨Nat.le_of_ble_eq_true rfl, Nat.le_of_ble_eq_true rfl⟩ ?_
      refine v_if_ne (tgt := 21) F dX11_calmTo_14 (by decide) (fun hc6 => ?_) (fun hc6 => ?_)
      · rw [if_neg hc6] at h
        refine v_iinc (v := x2 + 1) (lv' := [(2, .int (x2 + 1)), (0, .ref (gAd g a0)), (1, .int i1)]) F dX11_calmTo_21 (q := 2) rfl rfl (by decide) rfl ?_
        refine v_goto (tgt := 2) F dX11_calmTo_24 (by decide) ?_
        refine v_sub (fun ls h9 => lv_sub h9 [1, 2, 0] rfl) ?_
        exact ih _ _ h
      · rw [if_pos hc6] at h
        refine v_iload_n F dX11_calmTo_17 rfl 2 rfl ?_
        refine v_iconst (v := 1) F dX11_calmTo_18 (by decide) ?_
        refine v_isub F dX11_calmTo_19 ?_
        cases h
        exact v_iret F hr rfl hlk dX11_calmTo_20
set_option maxHeartbeats 4000000 in
set_option maxRecDepth 100000 in
theorem c_X11_calmTo {g : gT} (l : Launch) (hok : gOK g)  {a0 : Nat} {i1 : Int32} {M : Mem} {z : Int32 × Mem}  (t0 : Ty g 11 a0) (h : f_X11_calmTo  M a0 i1 = some z) : Cn g l yX11_calmTo uX11_calmTo 5 [.ref (gAd g a0), .int i1] M (some (.int z.1)) z.2 := by
  refine Cn.of (cc := cX11_calmTo) (maxL := 3) (ret := (some .int)) hok (by decide) rfl (Nat.le_of_ble_eq_true rfl) (fun p e s m args below meth c F hr hlk => ?_)
  unfold f_X11_calmTo at h
  show V g p l e ({ frames := 5, cells := 0, slots := 0, locals := 40 * 5 } : Room) s m args below meth c 3 0 0 (MQ below (gQ g (some (.int z.1)) z.2) args s 0 0 (gA g)) 0 [(0, .ref (gAd g a0)), (1, .int i1)] [] M
  refine v_iconst (v := 0) F dX11_calmTo_0 (by decide) ?_
  refine v_istore_n (lv' := [(2, .int 0), (0, .ref (gAd g a0)), (1, .int i1)]) F dX11_calmTo_1 rfl (by decide) rfl ?_
  refine v_sub (fun ls h9 => lv_sub h9 [1, 2, 0] rfl) ?_
  exact w_X11_calmTo_h2 F hr hlk t0 _ _ _ h
