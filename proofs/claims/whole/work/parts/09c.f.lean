def f_X5_firstDayOf_b69 (a0 : Nat) (i1 : Int32) (k18 : Int32 → Int32 → Mem → Option (Int32 × Mem)) (x2 : Int32) (x3 : Int32) (M : Mem) : Option (Int32 × Mem) := k18 x2 (x3 + 1) M
def f_X5_firstDayOf_b53 (a0 : Nat) (i1 : Int32) (k18 : Int32 → Int32 → Mem → Option (Int32 × Mem)) (x2 : Int32) (x3 : Int32) (x4 : Int32) (M : Mem) : Option (Int32 × Mem) := (f_X5_knownOn M a0 x4).bind fun q => match q with | (r15, M16) => (if (i1 &&& (r15 ^^^ (-1))) = 0 then (f_X5_firstDayOf_b69 a0 i1 k18 x4 x3 M16) else (f_X5_firstDayOf_b69 a0 i1 k18 x2 x3 M16))
def f_X5_firstDayOf_h18 (a0 : Nat) (i1 : Int32)  : Nat → Int32 → Int32 → Mem → Option (Int32 × Mem)
  | 0, _, _, _ => none
  | n + 1, x2, x3, M => if (M a0 0) ≤ x3 then (some (x2, M)) else (if 10 ≤ x3 then (some (x2, M)) else ((f_X8_at M (gRf a0 1) x3).bind fun q => match q with | (r9, M10) => (if x2 = (-1) then (f_X5_firstDayOf_b53 a0 i1 (f_X5_firstDayOf_h18 a0 i1 n) x2 x3 r9 M10) else (if x2 ≤ r9 then (f_X5_firstDayOf_b69 a0 i1 (f_X5_firstDayOf_h18 a0 i1 n) x2 x3 M10) else (f_X5_firstDayOf_b53 a0 i1 (f_X5_firstDayOf_h18 a0 i1 n) x2 x3 r9 M10)))))
def f_X5_firstDayOf  (M : Mem) (a0 : Nat) (i1 : Int32) : Option (Int32 × Mem) := (f_X5_knownOn M a0 0).bind fun q => match q with | (r1, M2) => (if (i1 &&& (r1 ^^^ (-1))) = 0 then (some (0, M2)) else (f_X5_firstDayOf_h18 a0 i1 FU (-1) 0 M2))
set_option maxHeartbeats 4000000 in
set_option maxRecDepth 100000 in
theorem w_X5_firstDayOf_b69 {g : gT} {p : Program} {l : Launch} {e : Env} {s : State} {m : MethodId} {args : Array Value} {below : List Frame} {meth : Method} {c : Code} {z : Int32 × Mem} (F : Fx g p s m args c cX5_firstDayOf 5 uX5_firstDayOf RX5) (hr : meth.sig.returnType = (some .int)) (hlk : meth.locks = false)  {a0 : Nat} {i1 : Int32} (t0 : Ty g 5 a0) {k18 : Int32 → Int32 → Mem → Option (Int32 × Mem)} (hk18 : ∀ (x2 : Int32) (x3 : Int32) (M : Mem), k18 x2 x3 M = some z → V g p l e ({ frames := 2, cells := 0, slots := 0, locals := 40 * 2 } : Room) s m args below meth c 5 0 0 (MQ below (gQ g (some (.int z.1)) z.2) args s 0 0 (gA g)) 18 [(0, .ref (gAd g a0)), (1, .int i1), (2, .int x2), (3, .int x3)] [] M) (x2 : Int32) (x3 : Int32) (M : Mem)  (h : f_X5_firstDayOf_b69 a0 i1 k18 x2 x3 M = some z) : V g p l e ({ frames := 2, cells := 0, slots := 0, locals := 40 * 2 } : Room) s m args below meth c 5 0 0 (MQ below (gQ g (some (.int z.1)) z.2) args s 0 0 (gA g)) 69 [(0, .ref (gAd g a0)), (1, .int i1), (2, .int x2), (3, .int x3)] [] M := by
  unfold f_X5_firstDayOf_b69 at h
  refine v_iinc (v := x3 + 1) (lv' := [(3, .int (x3 + 1)), (0, .ref (gAd g a0)), (1, .int i1), (2, .int x2)]) F dX5_firstDayOf_69 (q := 3) rfl rfl (by decide) rfl ?_
  refine v_goto (tgt := 18) F dX5_firstDayOf_72 (by decide) ?_
  refine v_sub (fun ls h9 => lv_sub h9 [1, 2, 3, 0] rfl) ?_
  exact hk18 _ _ _ h
set_option maxHeartbeats 4000000 in
set_option maxRecDepth 100000 in
theorem w_X5_firstDayOf_b53 {g : gT} {p : Program} {l : Launch} {e : Env} {s : State} {m : MethodId} {args : Array Value} {below : List Frame} {meth : Method} {c : Code} {z : Int32 × Mem} (F : Fx g p s m args c cX5_firstDayOf 5 uX5_firstDayOf RX5) (hr : meth.sig.returnType = (some .int)) (hlk : meth.locks = false)  {a0 : Nat} {i1 : Int32} (t0 : Ty g 5 a0) {k18 : Int32 → Int32 → Mem → Option (Int32 × Mem)} (hk18 : ∀ (x2 : Int32) (x3 : Int32) (M : Mem), k18 x2 x3 M = some z → V g p l e ({ frames := 2, cells := 0, slots := 0, locals := 40 * 2 } : Room) s m args below meth c 5 0 0 (MQ below (gQ g (some (.int z.1)) z.2) args s 0 0 (gA g)) 18 [(0, .ref (gAd g a0)), (1, .int i1), (2, .int x2), (3, .int x3)] [] M) (x2 : Int32) (x3 : Int32) (x4 : Int32) (M : Mem)  (h : f_X5_firstDayOf_b53 a0 i1 k18 x2 x3 x4 M = some z) : V g p l e ({ frames := 2, cells := 0, slots := 0, locals := 40 * 2 } : Room) s m args below meth c 5 0 0 (MQ below (gQ g (some (.int z.1)) z.2) args s 0 0 (gA g)) 53 [(0, .ref (gAd g a0)), (1, .int i1), (2, .int x2), (3, .int x3), (4, .int x4)] [] M := by
  unfold f_X5_firstDayOf_b53 at h
  refine v_iload_n F dX5_firstDayOf_53 rfl 1 rfl ?_
  refine v_aload_n F dX5_firstDayOf_54 rfl 0 rfl ?_
  refine v_iload F dX5_firstDayOf_55 4 rfl ?_
  obtain ⟨⟨r15, M16⟩, hz17, h⟩ := bd_some h
  dsimp only at h
  refine v_callVi (As := [.int x4]) (rest := [.int i1]) F (c_X5_knownOn l F.2.2.1 t0 hz17) (cwV 1 F.1.2.2.2.2 (gU_V ml_X5_38 im_yX5_knownOn se_yX5_knownOn ini_X5 cd_X5_knownOn) rfl rfl rfl (by decide +kernel) ⟨Nat.le_of_ble_eq_true rfl, Nat.le_of_ble_eq_true rfl⟩) t0 (by decide) rfl rfl rfl (Nat.le_of_ble_eq_true rfl) dX5_firstDayOf_57 ⟨Nat.le_of_ble_eq_true rfl, Nat.le_of_ble_eq_true rfl⟩ ?_
  refine v_iconst (v := (-1)) F dX5_firstDayOf_60 (by decide) ?_
  refine v_ixor F dX5_firstDayOf_61 ?_
  refine v_iand F dX5_firstDayOf_62 ?_
  refine v_if_ne (tgt := 69) F dX5_firstDayOf_63 (by decide) (fun hc19 => ?_) (fun hc19 => ?_)
  · rw [if_neg hc19] at h
    refine v_sub (fun ls h9 => lv_sub h9 [0, 1, 2, 3] rfl) ?_
    exact w_X5_firstDayOf_b69 F hr hlk t0 hk18 _ _ _ h
  · rw [if_pos hc19] at h
    refine v_iload F dX5_firstDayOf_66 4 rfl ?_
    refine v_istore_n (lv' := [(2, .int x4), (0, .ref (gAd g a0)), (1, .int i1), (3, .int x3), (4, .int x4)]) F dX5_firstDayOf_68 rfl (by decide) rfl ?_
    refine v_sub (fun ls h9 => lv_sub h9 [1, 2, 0, 3] rfl) ?_
    exact w_X5_firstDayOf_b69 F hr hlk t0 hk18 _ _ _ h
set_option maxHeartbeats 4000000 in
set_option maxRecDepth 100000 in
theorem w_X5_firstDayOf_h18 {g : gT} {p : Program} {l : Launch} {e : Env} {s : State} {m : MethodId} {args : Array Value} {below : List Frame} {meth : Method} {c : Code} {z : Int32 × Mem} (F : Fx g p s m args c cX5_firstDayOf 5 uX5_firstDayOf RX5) (hr : meth.sig.returnType = (some .int)) (hlk : meth.locks = false)  {a0 : Nat} {i1 : Int32} (t0 : Ty g 5 a0)   : ∀ (n : Nat) (x2 : Int32) (x3 : Int32) (M : Mem), f_X5_firstDayOf_h18 a0 i1 n x2 x3 M = some z → V g p l e ({ frames := 2, cells := 0, slots := 0, locals := 40 * 2 } : Room) s m args below meth c 5 0 0 (MQ below (gQ g (some (.int z.1)) z.2) args s 0 0 (gA g)) 18 [(0, .ref (gAd g a0)), (1, .int i1), (2, .int x2), (3, .int x3)] [] M := by
  intro n
  induction n with
  | zero => intro x2 x3 M; intros; rename_i h; cases h
  | succ n ih =>
    intro x2 x3 M h
    rw [f_X5_firstDayOf_h18] at h
    refine v_iload_n F dX5_firstDayOf_18 rfl 3 rfl ?_
    refine v_aload_n F dX5_firstDayOf_19 rfl 0 rfl ?_
    refine v_getI (k := 0) F t0 (by decide) (inc inU_5) rfl rfl (by decide) (List.mem_cons_of_mem _ fl_X5_26) rfl dX5_firstDayOf_20 ?_
    refine v_icmp_ge (tgt := 75) F dX5_firstDayOf_23 (by decide) (fun hc6 => ?_) (fun hc6 => ?_)
    · rw [if_pos hc6] at h
      refine v_iload_n F dX5_firstDayOf_75 rfl 2 rfl ?_
      cases h
      exact v_iret F hr rfl hlk dX5_firstDayOf_76
    · rw [if_neg hc6] at h
      refine v_iload_n F dX5_firstDayOf_26 rfl 3 rfl ?_
      refine v_bipush (v := 10) F dX5_firstDayOf_27 (by decide) ?_
      refine v_icmp_ge (tgt := 75) F dX5_firstDayOf_29 (by decide) (fun hc7 => ?_) (fun hc7 => ?_)
      · rw [if_pos hc7] at h
        refine v_iload_n F dX5_firstDayOf_75 rfl 2 rfl ?_
        cases h
        exact v_iret F hr rfl hlk dX5_firstDayOf_76
      · rw [if_neg hc7] at h
        refine v_aload_n F dX5_firstDayOf_32 rfl 0 rfl ?_
        refine v_getR (k := 1) (f := 8) F t0 (by decide) (inc inU_5) rfl rfl (by decide) (by decide) (List.mem_cons_of_mem _ fl_X5_16) rfl dX5_firstDayOf_33 (fun u8 => ?_)
        refine v_iload_n F dX5_firstDayOf_36 rfl 3 rfl ?_
        obtain ⟨⟨r9, M10⟩, hz11, h⟩ := bd_some h
        dsimp only at h
        refine v_callVi (As := [.int x3]) (rest := []) F (c_X8_at l F.2.2.1 u8 hz11) (cwV 1 F.1.2.2.2.2 (gU_V ml_X5_34 im_yX8_at se_yX8_at ini_X8 cd_X8_at) rfl rfl rfl (by decide +kernel) ⟨Nat.le_of_ble_eq_true rfl, Nat.le_of_ble_eq_true rfl⟩) u8 (by decide) rfl rfl rfl (Nat.le_of_ble_eq_true rfl) dX5_firstDayOf_37 ⟨Nat.le_of_ble_eq_true rfl, Nat.le_of_ble_eq_true rfl⟩ ?_
        refine v_istore (lv' := [(4, .int r9), (0, .ref (gAd g a0)), (1, .int i1), (2, .int x2), (3, .int x3)]) F dX5_firstDayOf_40 (by decide) rfl ?_
        refine v_iload_n F dX5_firstDayOf_42 rfl 3 rfl ?_
        refine v_iconst (v := (-1)) F dX5_firstDayOf_43 (by decide) ?_
        refine v_icmp_eq (tgt := 53) F dX5_firstDayOf_44 (by decide) (fun hc13 => ?_) (fun hc13 => ?_)
        · rw [if_pos hc13] at h
          refine v_sub (fun ls h9 => lv_sub h9 [1, 2, 3, 4, 0] rfl) ?_
          exact w_X5_firstDayOf_b53 F hr hlk t0 ih _ _ _ _ h
        · rw [if_neg hc13] at h
          refine v_iload F dX5_firstDayOf_47 0 rfl ?_
          refine v_iload_n F dX5_firstDayOf_49 rfl 3 rfl ?_
          refine v_icmp_ge (tgt := 69) F dX5_firstDayOf_50 (by decide) (fun hc14 => ?_) (fun hc14 => ?_)
          · rw [if_pos hc14] at h
            refine v_sub (fun ls h9 => lv_sub h9 [1, 2, 3, 4] rfl) ?_
            exact w_X5_firstDayOf_b69 F hr hlk t0 ih _ _ _ h
          · rw [if_neg hc14] at h
            refine v_sub (fun ls h9 => lv_sub h9 [1, 2, 3, 4, 0] rfl) ?_
            exact w_X5_firstDayOf_b53 F hr hlk t0 ih _ _ _ _ h
set_option maxHeartbeats 4000000 in
set_option maxRecDepth 100000 in
theorem c_X5_firstDayOf {g : gT} (l : Launch) (hok : gOK g)  {a0 : Nat} {i1 : Int32} {M : Mem} {z : Int32 × Mem}  (t0 : Ty g 5 a0) (h : f_X5_firstDayOf  M a0 i1 = some z) : Cn g l yX5_firstDayOf uX5_firstDayOf 2 [.ref (gAd g a0), .int i1] M (some (.int z.1)) z.2 := by
  refine Cn.of (cc := cX5_firstDayOf) (maxL := 5) (ret := (some .int)) hok (by decide) rfl (Nat.le_of_ble_eq_true rfl) (fun p e s m args below meth c F hr hlk => ?_)
  unfold f_X5_firstDayOf at h
  show V g p l e ({ frames := 2, cells := 0, slots := 0, locals := 40 * 2 } : Room) s m args below meth c 5 0 0 (MQ below (gQ g (some (.int z.1)) z.2) args s 0 0 (gA g)) 0 [(0, .ref (gAd g a0)), (1, .int i1)] [] M
  refine v_iload_n F dX5_firstDayOf_0 rfl 1 rfl ?_
  refine v_aload_n F dX5_firstDayOf_1 rfl 0 rfl ?_
  refine v_iconst (v := 0) F dX5_firstDayOf_2 (by decide) ?_
  obtain ⟨⟨r1, M2⟩, hz3, h⟩ := bd_some h
  dsimp only at h
  refine v_callVi (As := [.int 0]) (rest := [.int i1]) F (c_X5_knownOn l F.2.2.1 t0 hz3) (cwV 1 F.1.2.2.2.2 (gU_V ml_X5_38 im_yX5_knownOn se_yX5_knownOn ini_X5 cd_X5_knownOn) rfl rfl rfl (by decide +kernel) ⟨Nat.le_of_ble_eq_true rfl, Nat.le_of_ble_eq_true rfl⟩) t0 (by decide) rfl rfl rfl (Nat.le_of_ble_eq_true rfl) dX5_firstDayOf_3 ⟨Nat.le_of_ble_eq_true rfl, Nat.le_of_ble_eq_true rfl⟩ ?_
  refine v_iconst (v := (-1)) F dX5_firstDayOf_6 (by decide) ?_
  refine v_ixor F dX5_firstDayOf_7 ?_
  refine v_iand F dX5_firstDayOf_8 ?_
  refine v_if_ne (tgt := 14) F dX5_firstDayOf_9 (by decide) (fun hc5 => ?_) (fun hc5 => ?_)
  · rw [if_neg hc5] at h
    refine v_iconst (v := (-1)) F dX5_firstDayOf_14 (by decide) ?_
    refine v_istore_n (lv' := [(2, .int (-1)), (0, .ref (gAd g a0)), (1, .int i1)]) F dX5_firstDayOf_15 rfl (by decide) rfl ?_
    refine v_iconst (v := 0) F dX5_firstDayOf_16 (by decide) ?_
    refine v_istore_n (lv' := [(3, .int 0), (2, .int (-1)), (0, .ref (gAd g a0)), (1, .int i1)]) F dX5_firstDayOf_17 rfl (by decide) rfl ?_
    refine v_sub (fun ls h9 => lv_sub h9 [2, 3, 1, 0] rfl) ?_
    exact w_X5_firstDayOf_h18 F hr hlk t0 _ _ _ _ h
  · rw [if_pos hc5] at h
    refine v_iconst (v := 0) F dX5_firstDayOf_12 (by decide) ?_
    cases h
    exact v_iret F hr rfl hlk dX5_firstDayOf_13
def f_X5_copy  (M : Mem) (a0 : Nat) (a1 : Nat) : Option (Int32 × Mem) := (f_X8_copy (mU M a0 0 (M a1 0)) (gRf a0 1) (gRf a1 1)).bind fun q => match q with | (r3, M4) => ((f_X8_copy M4 (gRf a0 2) (gRf a1 2)).bind fun q => match q with | (r9, M10) => ((f_X8_copy M10 (gRf a0 3) (gRf a1 3)).bind fun q => match q with | (r15, M16) => (some (0, M16))))
set_option maxHeartbeats 4000000 in
set_option maxRecDepth 100000 in
theorem c_X5_copy {g : gT} (l : Launch) (hok : gOK g)  {a0 : Nat} {a1 : Nat} {M : Mem} {z : Int32 × Mem}  (t0 : Ty g 5 a0) (t1 : Ty g 5 a1) (h : f_X5_copy  M a0 a1 = some z) : Cn g l yX5_copy uX5_copy 1 [.ref (gAd g a0), .ref (gAd g a1)] M none z.2 := by
  refine Cn.of (cc := cX5_copy) (maxL := 2) (ret := none) hok (by decide) rfl (Nat.le_of_ble_eq_true rfl) (fun p e s m args below meth c F hr hlk => ?_)
  unfold f_X5_copy at h
  show V g p l e ({ frames := 1, cells := 0, slots := 0, locals := 40 * 1 } : Room) s m args below meth c 2 0 0 (MQ below (gQ g none z.2) args s 0 0 (gA g)) 0 [(0, .ref (gAd g a0)), (1, .ref (gAd g a1))] [] M
  refine v_aload_n F dX5_copy_0 rfl 0 rfl ?_
  refine v_aload_n F dX5_copy_1 rfl 1 rfl ?_
  refine v_getI (k := 0) F t1 (by decide) (inc inU_5) rfl rfl (by decide) (List.mem_cons_of_mem _ fl_X5_26) rfl dX5_copy_2 ?_
  refine v_put (k := 0) (ty := .int) F t0 (by decide) (inc inU_5) tyX5 tyX5_ok nmX5 rfl rfl (by decide) (List.mem_cons_of_mem _ fl_X5_26) rfl rfl (by decide +kernel) rfl rfl dX5_copy_5 ?_
  refine v_aload_n F dX5_copy_8 rfl 0 rfl ?_
  refine v_getR (k := 1) (f := 8) F t0 (by decide) (inc inU_5) rfl rfl (by decide) (by decide) (List.mem_cons_of_mem _ fl_X5_16) rfl dX5_copy_9 (fun u1 => ?_)
  refine v_aload_n F dX5_copy_12 rfl 1 rfl ?_
  refine v_getR (k := 1) (f := 8) F t1 (by decide) (inc inU_5) rfl rfl (by decide) (by decide) (List.mem_cons_of_mem _ fl_X5_16) rfl dX5_copy_13 (fun u2 => ?_)
  obtain ⟨⟨r3, M4⟩, hz5, h⟩ := bd_some h
  dsimp only at h
  refine v_callVv (As := [.ref (gAd g (gRf a1 1))]) (rest := []) F (c_X8_copy l F.2.2.1 u1 u2 hz5) (cwV 1 F.1.2.2.2.2 (gU_V ml_X5_41 im_yX8_copy se_yX8_copy ini_X8 cd_X8_copy) rfl rfl rfl (by decide +kernel) ⟨Nat.le_of_ble_eq_true rfl, Nat.le_of_ble_eq_true rfl⟩) u1 (by decide) rfl rfl rfl (Nat.le_of_ble_eq_true rfl) dX5_copy_16 ⟨Nat.le_of_ble_eq_true rfl, Nat.le_of_ble_eq_true rfl⟩ ?_
  refine v_aload_n F dX5_copy_19 rfl 0 rfl ?_
  refine v_getR (k := 2) (f := 8) F t0 (by decide) (inc inU_5) rfl rfl (by decide) (by decide) (List.mem_cons_of_mem _ fl_X5_20) rfl dX5_copy_20 (fun u7 => ?_)
  refine v_aload_n F dX5_copy_23 rfl 1 rfl ?_
  refine v_getR (k := 2) (f := 8) F t1 (by decide) (inc inU_5) rfl rfl (by decide) (by decide) (List.mem_cons_of_mem _ fl_X5_20) rfl dX5_copy_24 (fun u8 => ?_)
  obtain ⟨⟨r9, M10⟩, hz11, h⟩ := bd_some h
  dsimp only at h
  refine v_callVv (As := [.ref (gAd g (gRf a1 2))]) (rest := []) F (c_X8_copy l F.2.2.1 u7 u8 hz11) (cwV 1 F.1.2.2.2.2 (gU_V ml_X5_41 im_yX8_copy se_yX8_copy ini_X8 cd_X8_copy) rfl rfl rfl (by decide +kernel) ⟨Nat.le_of_ble_eq_true rfl, Nat.le_of_ble_eq_true rfl⟩) u7 (by decide) rfl rfl rfl (Nat.le_of_ble_eq_true rfl) dX5_copy_27 ⟨Nat.le_of_ble_eq_true rfl, Nat.le_of_ble_eq_true rfl⟩ ?_
  refine v_aload_n F dX5_copy_30 rfl 0 rfl ?_
  refine v_getR (k := 3) (f := 8) F t0 (by decide) (inc inU_5) rfl rfl (by decide) (by decide) (List.mem_cons_of_mem _ fl_X5_23) rfl dX5_copy_31 (fun u13 => ?_)
  refine v_aload_n F dX5_copy_34 rfl 1 rfl ?_
  refine v_getR (k := 3) (f := 8) F t1 (by decide) (inc inU_5) rfl rfl (by decide) (by decide) (List.mem_cons_of_mem _ fl_X5_23) rfl dX5_copy_35 (fun u14 => ?_)
  obtain ⟨⟨r15, M16⟩, hz17, h⟩ := bd_some h
  dsimp only at h
  refine v_callVv (As := [.ref (gAd g (gRf a1 3))]) (rest := []) F (c_X8_copy l F.2.2.1 u13 u14 hz17) (cwV 1 F.1.2.2.2.2 (gU_V ml_X5_41 im_yX8_copy se_yX8_copy ini_X8 cd_X8_copy) rfl rfl rfl (by decide +kernel) ⟨Nat.le_of_ble_eq_true rfl, Nat.le_of_ble_eq_true rfl⟩) u13 (by decide) rfl rfl rfl (Nat.le_of_ble_eq_true rfl) dX5_copy_38 ⟨Nat.le_of_ble_eq_true rfl, Nat.le_of_ble_eq_true rfl⟩ ?_
  cases h
  exact v_vret F hr hlk dX5_copy_41
def f_X7_copy  (M : Mem) (a0 : Nat) (a1 : Nat) : Option (Int32 × Mem) := (f_X1_copy M (gRf a0 0) (gRf a1 0)).bind fun q => match q with | (r3, M4) => ((f_X2_copy M4 (gRf a0 1) (gRf a1 1)).bind fun q => match q with | (r9, M10) => ((f_X4_copy M10 (gRf a0 2) (gRf a1 2)).bind fun q => match q with | (r15, M16) => ((f_X0_copy M16 (gRf a0 3) (gRf a1 3)).bind fun q => match q with | (r21, M22) => ((f_X5_copy M22 (gRf a0 4) (gRf a1 4)).bind fun q => match q with | (r27, M28) => (some (0, M28))))))
set_option maxHeartbeats 4000000 in
set_option maxRecDepth 100000 in
theorem c_X7_copy {g : gT} (l : Launch) (hok : gOK g)  {a0 : Nat} {a1 : Nat} {M : Mem} {z : Int32 × Mem}  (t0 : Ty g 7 a0) (t1 : Ty g 7 a1) (h : f_X7_copy  M a0 a1 = some z) : Cn g l yX7_copy uX7_copy 2 [.ref (gAd g a0), .ref (gAd g a1)] M none z.2 := by
  refine Cn.of (cc := cX7_copy) (maxL := 2) (ret := none) hok (by decide) rfl (Nat.le_of_ble_eq_true rfl) (fun p e s m args below meth c F hr hlk => ?_)
  unfold f_X7_copy at h
  show V g p l e ({ frames := 2, cells := 0, slots := 0, locals := 40 * 2 } : Room) s m args below meth c 2 0 0 (MQ below (gQ g none z.2) args s 0 0 (gA g)) 0 [(0, .ref (gAd g a0)), (1, .ref (gAd g a1))] [] M
  refine v_aload_n F dX7_copy_0 rfl 0 rfl ?_
  refine v_getR (k := 0) (f := 1) F t0 (by decide) (inc inU_7) rfl rfl (by decide) (by decide) (List.mem_cons_of_mem _ fl_X7_10) rfl dX7_copy_1 (fun u1 => ?_)
  refine v_aload_n F dX7_copy_4 rfl 1 rfl ?_
  refine v_getR (k := 0) (f := 1) F t1 (by decide) (inc inU_7) rfl rfl (by decide) (by decide) (List.mem_cons_of_mem _ fl_X7_10) rfl dX7_copy_5 (fun u2 => ?_)
  obtain ⟨⟨r3, M4⟩, hz5, h⟩ := bd_some h
  dsimp only at h
  refine v_callVv (As := [.ref (gAd g (gRf a1 0))]) (rest := []) F (c_X1_copy l F.2.2.1 u1 u2 hz5) (cwV 1 F.1.2.2.2.2 (gU_V ml_X7_44 im_yX1_copy se_yX1_copy ini_X1 cd_X1_copy) rfl rfl rfl (by decide +kernel) ⟨Nat.le_of_ble_eq_true rfl, Nat.le_of_ble_eq_true rfl⟩) u1 (by decide) rfl rfl rfl (Nat.le_of_ble_eq_true rfl) dX7_copy_8 ⟨Nat.le_of_ble_eq_true rfl, Nat.le_of_ble_eq_true rfl⟩ ?_
  refine v_aload_n F dX7_copy_11 rfl 0 rfl ?_
  refine v_getR (k := 1) (f := 2) F t0 (by decide) (inc inU_7) rfl rfl (by decide) (by decide) (List.mem_cons_of_mem _ fl_X7_19) rfl dX7_copy_12 (fun u7 => ?_)
  refine v_aload_n F dX7_copy_15 rfl 1 rfl ?_
  refine v_getR (k := 1) (f := 2) F t1 (by decide) (inc inU_7) rfl rfl (by decide) (by decide) (List.mem_cons_of_mem _ fl_X7_19) rfl dX7_copy_16 (fun u8 => ?_)
  obtain ⟨⟨r9, M10⟩, hz11, h⟩ := bd_some h
  dsimp only at h
  refine v_callVv (As := [.ref (gAd g (gRf a1 1))]) (rest := []) F (c_X2_copy l F.2.2.1 u7 u8 hz11) (cwV 1 F.1.2.2.2.2 (gU_V ml_X7_48 im_yX2_copy se_yX2_copy ini_X2 cd_X2_copy) rfl rfl rfl (by decide +kernel) ⟨Nat.le_of_ble_eq_true rfl, Nat.le_of_ble_eq_true rfl⟩) u7 (by decide) rfl rfl rfl (Nat.le_of_ble_eq_true rfl) dX7_copy_19 ⟨Nat.le_of_ble_eq_true rfl, Nat.le_of_ble_eq_true rfl⟩ ?_
  refine v_aload_n F dX7_copy_22 rfl 0 rfl ?_
  refine v_getR (k := 2) (f := 4) F t0 (by decide) (inc inU_7) rfl rfl (by decide) (by decide) (List.mem_cons_of_mem _ fl_X7_26) rfl dX7_copy_23 (fun u13 => ?_)
  refine v_aload_n F dX7_copy_26 rfl 1 rfl ?_
  refine v_getR (k := 2) (f := 4) F t1 (by decide) (inc inU_7) rfl rfl (by decide) (by decide) (List.mem_cons_of_mem _ fl_X7_26) rfl dX7_copy_27 (fun u14 => ?_)
  obtain ⟨⟨r15, M16⟩, hz17, h⟩ := bd_some h
  dsimp only at h
  refine v_callVv (As := [.ref (gAd g (gRf a1 2))]) (rest := []) F (c_X4_copy l F.2.2.1 u13 u14 hz17) (cwV 1 F.1.2.2.2.2 (gU_V ml_X7_51 im_yX4_copy se_yX4_copy ini_X4 cd_X4_copy) rfl rfl rfl (by decide +kernel) ⟨Nat.le_of_ble_eq_true rfl, Nat.le_of_ble_eq_true rfl⟩) u13 (by decide) rfl rfl rfl (Nat.le_of_ble_eq_true rfl) dX7_copy_30 ⟨Nat.le_of_ble_eq_true rfl, Nat.le_of_ble_eq_true rfl⟩ ?_
  refine v_aload_n F dX7_copy_33 rfl 0 rfl ?_
  refine v_getR (k := 3) (f := 0) F t0 (by decide) (inc inU_7) rfl rfl (by decide) (by decide) (List.mem_cons_of_mem _ fl_X7_33) rfl dX7_copy_34 (fun u19 => ?_)
  refine v_aload_n F dX7_copy_37 rfl 1 rfl ?_
  refine v_getR (k := 3) (f := 0) F t1 (by decide) (inc inU_7) rfl rfl (by decide) (by decide) (List.mem_cons_of_mem _ fl_X7_33) rfl dX7_copy_38 (fun u20 => ?_)
  obtain ⟨⟨r21, M22⟩, hz23, h⟩ := bd_some h
  dsimp only at h
  refine v_callVv (As := [.ref (gAd g (gRf a1 3))]) (rest := []) F (c_X0_copy l F.2.2.1 u19 u20 hz23) (cwV 1 F.1.2.2.2.2 (gU_V ml_X7_54 im_yX0_copy se_yX0_copy ini_X0 cd_X0_copy) rfl rfl rfl (by decide +kernel) ⟨Nat.le_of_ble_eq_true rfl, Nat.le_of_ble_eq_true rfl⟩) u19 (by decide) rfl rfl rfl (Nat.le_of_ble_eq_true rfl) dX7_copy_41 ⟨Nat.le_of_ble_eq_true rfl, Nat.le_of_ble_eq_true rfl⟩ ?_
  refine v_aload_n F dX7_copy_44 rfl 0 rfl ?_
  refine v_getR (k := 4) (f := 5) F t0 (by decide) (inc inU_7) rfl rfl (by decide) (by decide) (List.mem_cons_of_mem _ fl_X7_40) rfl dX7_copy_45 (fun u25 => ?_)
  refine v_aload_n F dX7_copy_48 rfl 1 rfl ?_
  refine v_getR (k := 4) (f := 5) F t1 (by decide) (inc inU_7) rfl rfl (by decide) (by decide) (List.mem_cons_of_mem _ fl_X7_40) rfl dX7_copy_49 (fun u26 => ?_)
  obtain ⟨⟨r27, M28⟩, hz29, h⟩ := bd_some h
  dsimp only at h
  refine v_callVv (As := [.ref (gAd g (gRf a1 4))]) (rest := []) F (c_X5_copy l F.2.2.1 u25 u26 hz29) (cwV 1 F.1.2.2.2.2 (gU_V ml_X7_57 im_yX5_copy se_yX5_copy ini_X5 cd_X5_copy) rfl rfl rfl (by decide +kernel) ⟨Nat.le_of_ble_eq_true rfl, Nat.le_of_ble_eq_true rfl⟩) u25 (by decide) rfl rfl rfl (Nat.le_of_ble_eq_true rfl) dX7_copy_52 ⟨Nat.le_of_ble_eq_true rfl, Nat.le_of_ble_eq_true rfl⟩ ?_
  cases h
  exact v_vret F hr hlk dX7_copy_55
