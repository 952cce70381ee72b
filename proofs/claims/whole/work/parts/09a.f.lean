def f_X8_put  (M : Mem) (a0 : Nat) (i1 : Int32) (i2 : Int32) : Option (Int32 × Mem) := if i1 < 0 then (some (0, M)) else (if (nI (gN (gRf a0 0))) ≤ i1 then (some (0, M)) else (if ¬ (i1 < 0 ∨ gN (gRf a0 0) ≤ i1.toNatClampNeg) then (some (0, (mU M (gRf a0 0) i1.toNatClampNeg i2))) else none))
set_option maxHeartbeats 4000000 in
set_option maxRecDepth 100000 in
theorem c_X8_put {g : gT} (l : Launch) (hok : gOK g)  {a0 : Nat} {i1 : Int32} {i2 : Int32} {M : Mem} {z : Int32 × Mem}  (t0 : Ty g 8 a0) (h : f_X8_put  M a0 i1 i2 = some z) : Cn g l yX8_put uX8_put 0 [.ref (gAd g a0), .int i1, .int i2] M none z.2 := by
  refine Cn.of (cc := cX8_put) (maxL := 3) (ret := none) hok (by decide) rfl (Nat.le_of_ble_eq_true rfl) (fun p e s m args below meth c F hr hlk => ?_)
  unfold f_X8_put at h
  show V g p l e ({ frames := 0, cells := 0, slots := 0, locals := 40 * 0 } : Room) s m args below meth c 3 0 0 (MQ below (gQ g none z.2) args s 0 0 (gA g)) 0 [(0, .ref (gAd g a0)), (1, .int i1), (2, .int i2)] [] M
  refine v_iload_n F dX8_put_0 rfl 1 rfl ?_
  refine v_if_lt (tgt := 20) F dX8_put_1 (by decide) (fun hc1 => ?_) (fun hc1 => ?_)
  · rw [if_pos hc1] at h
    cases h
    exact v_vret F hr hlk dX8_put_20
  · rw [if_neg hc1] at h
    refine v_iload_n F dX8_put_4 rfl 1 rfl ?_
    refine v_aload_n F dX8_put_5 rfl 0 rfl ?_
    refine v_getR (k := 0) (f := 12) F t0 (by decide) (inc inU_8) rfl rfl (by decide) (by decide) (List.mem_cons_of_mem _ fl_X8_13) rfl dX8_put_6 (fun u2 => ?_)
    refine v_alen (t0 := 0) F u2 (by decide) rfl dX8_put_9 ?_
    refine v_icmp_ge (tgt := 20) F dX8_put_10 (by decide) (fun hc3 => ?_) (fun hc3 => ?_)
    · rw [if_pos hc3] at h
      cases h
      exact v_vret F hr hlk dX8_put_20
    · rw [if_neg hc3] at h
      refine v_aload_n F dX8_put_13 rfl 0 rfl ?_
      refine v_getR (k := 0) (f := 12) F t0 (by decide) (inc inU_8) rfl rfl (by decide) (by decide) (List.mem_cons_of_mem _ fl_X8_13) rfl dX8_put_14 (fun u4 => ?_)
      refine v_iload_n F dX8_put_17 rfl 1 rfl ?_
      refine v_iload_n F dX8_put_18 rfl 2 rfl ?_
      obtain ⟨hin5, h⟩ := gd_some h
      refine v_iast F u4 hin5 dX8_put_19 ?_
      cases h
      exact v_vret F hr hlk dX8_put_20
def f_X0_add_h25 (a0 : Nat) (i1 : Int32)  : Nat → Int32 → Mem → Option (Int32 × Mem)
  | 0, _, _ => none
  | n + 1, x2, M => if 10 ≤ x2 then (some (((mU M a0 0 ((M a0 0) + 1)) a0 0) - 1, (mU M a0 0 ((M a0 0) + 1)))) else ((f_X8_put M (gRf a0 2) (((M a0 0) * 10) + x2) 0).bind fun q => match q with | (r9, M10) => ((f_X0_add_h25 a0 i1 n) (x2 + 1) M10))
def f_X0_add  (M : Mem) (a0 : Nat) (i1 : Int32) : Option (Int32 × Mem) := if (M a0 0) < 6 then ((f_X8_put M (gRf a0 1) (M a0 0) i1).bind fun q => match q with | (r3, M4) => (f_X0_add_h25 a0 i1 FU 0 M4)) else (some ((-1), M))
set_option maxHeartbeats 4000000 in
set_option maxRecDepth 100000 in
theorem w_X0_add_h25 {g : gT} {p : Program} {l : Launch} {e : Env} {s : State} {m : MethodId} {args : Array Value} {below : List Frame} {meth : Method} {c : Code} {z : Int32 × Mem} (F : Fx g p s m args c cX0_add 3 uX0_add RX0) (hr : meth.sig.returnType = (some .int)) (hlk : meth.locks = false)  {a0 : Nat} {i1 : Int32} (t0 : Ty g 0 a0)   : ∀ (n : Nat) (x2 : Int32) (M : Mem), f_X0_add_h25 a0 i1 n x2 M = some z → V g p l e ({ frames := 1, cells := 0, slots := 0, locals := 40 * 1 } : Room) s m args below meth c 3 0 0 (MQ below (gQ g (some (.int z.1)) z.2) args s 0 0 (gA g)) 25 [(0, .ref (gAd g a0)), (1, .int i1), (2, .int x2)] [] M := by
  intro n
  induction n with
  | zero => intro x2 M; intros; rename_i h; cases h
  | succ n ih =>
    intro x2 M h
    rw [f_X0_add_h25] at h
    refine v_iload_n F dX0_add_25 rfl 2 rfl ?_
    refine v_bipush (v := 10) F dX0_add_26 (by decide) ?_
    refine v_icmp_ge (tgt := 54) F dX0_add_28 (by decide) (fun hc7 => ?_) (fun hc7 => ?_)
    · rw [if_pos hc7] at h
      refine v_aload_n F dX0_add_54 rfl 0 rfl ?_
      refine v_dup F dX0_add_55 rfl ?_
      refine v_getI (k := 0) F t0 (by decide) (inc inU_0) rfl rfl (by decide) (List.mem_cons_of_mem _ fl_X0_21) rfl dX0_add_56 ?_
      refine v_iconst (v := 1) F dX0_add_59 (by decide) ?_
      refine v_iadd F dX0_add_60 ?_
      refine v_put (k := 0) (ty := .int) F t0 (by decide) (inc inU_0) tyX0 tyX0_ok nmX0 rfl rfl (by decide) (List.mem_cons_of_mem _ fl_X0_21) rfl rfl (by decide +kernel) rfl rfl dX0_add_61 ?_
      refine v_aload_n F dX0_add_64 rfl 0 rfl ?_
      refine v_getI (k := 0) F t0 (by decide) (inc inU_0) rfl rfl (by decide) (List.mem_cons_of_mem _ fl_X0_21) rfl dX0_add_65 ?_
      refine v_iconst (v := 1) F dX0_add_68 (by decide) ?_
      refine v_isub F dX0_add_69 ?_
      cases h
      exact v_iret F hr rfl hlk dX0_add_70
    · rw [if_neg hc7] at h
      refine v_aload_n F dX0_add_31 rfl 0 rfl ?_
      refine v_getR (k := 2) (f := 8) F t0 (by decide) (inc inU_0) rfl rfl (by decide) (by decide) (List.mem_cons_of_mem _ fl_X0_18) rfl dX0_add_32 (fun u8 => ?_)
      refine v_aload_n F dX0_add_35 rfl 0 rfl ?_
      refine v_getI (k := 0) F t0 (by decide) (inc inU_0) rfl rfl (by decide) (List.mem_cons_of_mem _ fl_X0_21) rfl dX0_add_36 ?_
      refine v_bipush (v := 10) F dX0_add_39 (by decide) ?_
      refine v_imul F dX0_add_41 ?_
      refine v_iload_n F dX0_add_42 rfl 2 rfl ?_
      refine v_iadd F dX0_add_43 ?_
      refine v_iconst (v := 0) F dX0_add_44 (by decide) ?_
      obtain ⟨⟨r9, M10⟩, hz11, h⟩ := bd_some h
      dsimp only at h
      refine v_callVv (As := [.int (((M a0 0) * 10) + x2), .int 0]) (rest := []) F (c_X8_put l F.2.2.1 u8 hz11) (cwV 2 F.1.2.2.2.2 (gU_V ml_X0_25 im_yX8_put se_yX8_put ini_X8 cd_X8_put) rfl rfl rfl (by decide +kernel) ⟨Nat.le_of_ble_eq_true rfl, Nat.le_of_ble_eq_true rfl⟩) u8 (by decide) rfl rfl rfl (Nat.le_of_ble_eq_true rfl) dX0_add_45 ⟨Nat.le_of_ble_eq_true rfl, Nat.le_of_ble_eq_true rfl⟩ ?_
      refine v_iinc (v := x2 + 1) (lv' := [(2, .int (x2 + 1)), (0, .ref (gAd g a0)), (1, .int i1)]) F dX0_add_48 (q := 2) rfl rfl (by decide) rfl ?_
      refine v_goto (tgt := 25) F dX0_add_51 (by decide) ?_
      refine v_sub (fun ls h9 => lv_sub h9 [1, 2, 0] rfl) ?_
      exact ih _ _ h
set_option maxHeartbeats 4000000 in
set_option maxRecDepth 100000 in
theorem c_X0_add {g : gT} (l : Launch) (hok : gOK g)  {a0 : Nat} {i1 : Int32} {M : Mem} {z : Int32 × Mem}  (t0 : Ty g 0 a0) (h : f_X0_add  M a0 i1 = some z) : Cn g l yX0_add uX0_add 1 [.ref (gAd g a0), .int i1] M (some (.int z.1)) z.2 := by
  refine Cn.of (cc := cX0_add) (maxL := 3) (ret := (some .int)) hok (by decide) rfl (Nat.le_of_ble_eq_true rfl) (fun p e s m args below meth c F hr hlk => ?_)
  unfold f_X0_add at h
  show V g p l e ({ frames := 1, cells := 0, slots := 0, locals := 40 * 1 } : Room) s m args below meth c 3 0 0 (MQ below (gQ g (some (.int z.1)) z.2) args s 0 0 (gA g)) 0 [(0, .ref (gAd g a0)), (1, .int i1)] [] M
  refine v_aload_n F dX0_add_0 rfl 0 rfl ?_
  refine v_getI (k := 0) F t0 (by decide) (inc inU_0) rfl rfl (by decide) (List.mem_cons_of_mem _ fl_X0_21) rfl dX0_add_1 ?_
  refine v_bipush (v := 6) F dX0_add_4 (by decide) ?_
  refine v_icmp_lt (tgt := 11) F dX0_add_6 (by decide) (fun hc1 => ?_) (fun hc1 => ?_)
  · rw [if_pos hc1] at h
    refine v_aload_n F dX0_add_11 rfl 0 rfl ?_
    refine v_getR (k := 1) (f := 8) F t0 (by decide) (inc inU_0) rfl rfl (by decide) (by decide) (List.mem_cons_of_mem _ fl_X0_14) rfl dX0_add_12 (fun u2 => ?_)
    refine v_aload_n F dX0_add_15 rfl 0 rfl ?_
    refine v_getI (k := 0) F t0 (by decide) (inc inU_0) rfl rfl (by decide) (List.mem_cons_of_mem _ fl_X0_21) rfl dX0_add_16 ?_
    refine v_iload_n F dX0_add_19 rfl 1 rfl ?_
    obtain ⟨⟨r3, M4⟩, hz5, h⟩ := bd_some h
    dsimp only at h
    refine v_callVv (As := [.int (M a0 0), .int i1]) (rest := []) F (c_X8_put l F.2.2.1 u2 hz5) (cwV 2 F.1.2.2.2.2 (gU_V ml_X0_25 im_yX8_put se_yX8_put ini_X8 cd_X8_put) rfl rfl rfl (by decide +kernel) ⟨Nat.le_of_ble_eq_true rfl, Nat.le_of_ble_eq_true rfl⟩) u2 (by decide) rfl rfl rfl (Nat.le_of_ble_eq_true rfl) dX0_add_20 ⟨Nat.le_of_ble_eq_true rfl, Nat.le_of_ble_eq_true rfl⟩ ?_
    refine v_iconst (v := 0) F dX0_add_23 (by decide) ?_
    refine v_istore_n (lv' := [(2, .int 0), (0, .ref (gAd g a0)), (1, .int i1)]) F dX0_add_24 rfl (by decide) rfl ?_
    refine v_sub (fun ls h9 => lv_sub h9 [1, 2, 0] rfl) ?_
    exact w_X0_add_h25 F hr hlk t0 _ _ _ h
  · rw [if_neg hc1] at h
    refine v_iconst (v := (-1)) F dX0_add_9 (by decide) ?_
    cases h
    exact v_iret F hr rfl hlk dX0_add_10
def f_X8_at  (M : Mem) (a0 : Nat) (i1 : Int32) : Option (Int32 × Mem) := if i1 < 0 then (some (0, M)) else (if (nI (gN (gRf a0 0))) ≤ i1 then (some (0, M)) else (if ¬ (i1 < 0 ∨ gN (gRf a0 0) ≤ i1.toNatClampNeg) then (some (M (gRf a0 0) i1.toNatClampNeg, M)) else none))
set_option maxHeartbeats 4000000 in
set_option maxRecDepth 100000 in
theorem c_X8_at {g : gT} (l : Launch) (hok : gOK g)  {a0 : Nat} {i1 : Int32} {M : Mem} {z : Int32 × Mem}  (t0 : Ty g 8 a0) (h : f_X8_at  M a0 i1 = some z) : Cn g l yX8_at uX8_at 0 [.ref (gAd g a0), .int i1] M (some (.int z.1)) z.2 := by
  refine Cn.of (cc := cX8_at) (maxL := 2) (ret := (some .int)) hok (by decide) rfl (Nat.le_of_ble_eq_true rfl) (fun p e s m args below meth c F hr hlk => ?_)
  unfold f_X8_at at h
  show V g p l e ({ frames := 0, cells := 0, slots := 0, locals := 40 * 0 } : Room) s m args below meth c 2 0 0 (MQ below (gQ g (some (.int z.1)) z.2) args s 0 0 (gA g)) 0 [(0, .ref (gAd g a0)), (1, .int i1)] [] M
  refine v_iload_n F dX8_at_0 rfl 1 rfl ?_
  refine v_if_lt (tgt := 22) F dX8_at_1 (by decide) (fun hc1 => ?_) (fun hc1 => ?_)
  · rw [if_pos hc1] at h
    refine v_iconst (v := 0) F dX8_at_22 (by decide) ?_
    cases h
    exact v_iret F hr rfl hlk dX8_at_23
  · rw [if_neg hc1] at h
    refine v_iload_n F dX8_at_4 rfl 1 rfl ?_
    refine v_aload_n F dX8_at_5 rfl 0 rfl ?_
    refine v_getR (k := 0) (f := 12) F t0 (by decide) (inc inU_8) rfl rfl (by decide) (by decide) (List.mem_cons_of_mem _ fl_X8_13) rfl dX8_at_6 (fun u2 => ?_)
    refine v_alen (t0 := 0) F u2 (by decide) rfl dX8_at_9 ?_
    refine v_icmp_ge (tgt := 22) F dX8_at_10 (by decide) (fun hc3 => ?_) (fun hc3 => ?_)
    · rw [if_pos hc3] at h
      refine v_iconst (v := 0) F dX8_at_22 (by decide) ?_
      cases h
      exact v_iret F hr rfl hlk dX8_at_23
    · rw [if_neg hc3] at h
      refine v_aload_n F dX8_at_13 rfl 0 rfl ?_
      refine v_getR (k := 0) (f := 12) F t0 (by decide) (inc inU_8) rfl rfl (by decide) (by decide) (List.mem_cons_of_mem _ fl_X8_13) rfl dX8_at_14 (fun u4 => ?_)
      refine v_iload_n F dX8_at_17 rfl 1 rfl ?_
      obtain ⟨hin5, h⟩ := gd_some h
      refine v_iald F u4 hin5 dX8_at_18 ?_
      refine v_goto (tgt := 23) F dX8_at_19 (by decide) ?_
      cases h
      exact v_iret F hr rfl hlk dX8_at_23
def f_X0_change  (M : Mem) (a0 : Nat) (i1 : Int32) (i2 : Int32) (i3 : Int32) : Option (Int32 × Mem) := (f_X8_at M (gRf a0 2) ((i1 * 10) + i2)).bind fun q => match q with | (r2, M3) => ((f_X8_put M3 (gRf a0 2) ((i1 * 10) + i2) i3).bind fun q => match q with | (r7, M8) => (some (r2, M8)))
set_option maxHeartbeats 4000000 in
set_option maxRecDepth 100000 in
theorem c_X0_change {g : gT} (l : Launch) (hok : gOK g)  {a0 : Nat} {i1 : Int32} {i2 : Int32} {i3 : Int32} {M : Mem} {z : Int32 × Mem}  (t0 : Ty g 0 a0) (h : f_X0_change  M a0 i1 i2 i3 = some z) : Cn g l yX0_change uX0_change 1 [.ref (gAd g a0), .int i1, .int i2, .int i3] M (some (.int z.1)) z.2 := by
  refine Cn.of (cc := cX0_change) (maxL := 5) (ret := (some .int)) hok (by decide) rfl (Nat.le_of_ble_eq_true rfl) (fun p e s m args below meth c F hr hlk => ?_)
  unfold f_X0_change at h
  show V g p l e ({ frames := 1, cells := 0, slots := 0, locals := 40 * 1 } : Room) s m args below meth c 5 0 0 (MQ below (gQ g (some (.int z.1)) z.2) args s 0 0 (gA g)) 0 [(0, .ref (gAd g a0)), (1, .int i1), (2, .int i2), (3, .int i3)] [] M
  refine v_aload_n F dX0_change_0 rfl 0 rfl ?_
  refine v_getR (k := 2) (f := 8) F t0 (by decide) (inc inU_0) rfl rfl (by decide) (by decide) (List.mem_cons_of_mem _ fl_X0_18) rfl dX0_change_1 (fun u1 => ?_)
  refine v_iload_n F dX0_change_4 rfl 1 rfl ?_
  refine v_bipush (v := 10) F dX0_change_5 (by decide) ?_
  refine v_imul F dX0_change_7 ?_
  refine v_iload_n F dX0_change_8 rfl 2 rfl ?_
  refine v_iadd F dX0_change_9 ?_
  obtain ⟨⟨r2, M3⟩, hz4, h⟩ := bd_some h
  dsimp only at h
  refine v_callVi (As := [.int ((i1 * 10) + i2)]) (rest := []) F (c_X8_at l F.2.2.1 u1 hz4) (cwV 1 F.1.2.2.2.2 (gU_V ml_X0_29 im_yX8_at se_yX8_at ini_X8 cd_X8_at) rfl rfl rfl (by decide +kernel) ⟨Nat.le_of_ble_eq_true rfl, Nat.le_of_ble_eq_true rfl⟩) u1 (by decide) rfl rfl rfl (Nat.le_of_ble_eq_true rfl) dX0_change_10 ⟨Nat.le_of_ble_eq_true rfl, Nat.le_of_ble_eq_true rfl⟩ ?_
  refine v_istore (lv' := [(4, .int r2), (0, .ref (gAd g a0)), (1, .int i1), (2, .int i2), (3, .int i3)]) F dX0_change_13 (by decide) rfl ?_
  refine v_aload_n F dX0_change_15 rfl 1 rfl ?_
  refine v_getR (k := 2) (f := 8) F t0 (by decide) (inc inU_0) rfl rfl (by decide) (by decide) (List.mem_cons_of_mem _ fl_X0_18) rfl dX0_change_16 (fun u6 => ?_)
  refine v_iload_n F dX0_change_19 rfl 2 rfl ?_
  refine v_bipush (v := 10) F dX0_change_20 (by decide) ?_
  refine v_imul F dX0_change_22 ?_
  refine v_iload_n F dX0_change_23 rfl 3 rfl ?_
  refine v_iadd F dX0_change_24 ?_
  refine v_iload_n F dX0_change_25 rfl 4 rfl ?_
  obtain ⟨⟨r7, M8⟩, hz9, h⟩ := bd_some h
  dsimp only at h
  refine v_callVv (As := [.int ((i1 * 10) + i2), .int i3]) (rest := []) F (c_X8_put l F.2.2.1 u6 hz9) (cwV 2 F.1.2.2.2.2 (gU_V ml_X0_25 im_yX8_put se_yX8_put ini_X8 cd_X8_put) rfl rfl rfl (by decide +kernel) ⟨Nat.le_of_ble_eq_true rfl, Nat.le_of_ble_eq_true rfl⟩) u6 (by decide) rfl rfl rfl (Nat.le_of_ble_eq_true rfl) dX0_change_26 ⟨Nat.le_of_ble_eq_true rfl, Nat.le_of_ble_eq_true rfl⟩ ?_
  refine v_iload F dX0_change_29 0 rfl ?_
  cases h
  exact v_iret F hr rfl hlk dX0_change_31
def f_X0_hoursOf_b41 (a0 : Nat) (i1 : Int32) (k4 : Int32 → Int32 → Mem → Option (Int32 × Mem)) (x2 : Int32) (x3 : Int32) (M : Mem) : Option (Int32 × Mem) := k4 x2 (x3 + 1) M
def f_X0_hoursOf_h4 (a0 : Nat) (i1 : Int32)  : Nat → Int32 → Int32 → Mem → Option (Int32 × Mem)
  | 0, _, _, _ => none
  | n + 1, x2, x3, M => if 10 ≤ x3 then (some (x2, M)) else ((f_X8_at M (gRf a0 1) i1).bind fun q => match q with | (r3, M4) => (if (x3 * 6) < r3 then (f_X0_hoursOf_b41 a0 i1 (f_X0_hoursOf_h4 a0 i1 n) x2 x3 M4) else ((f_X8_at M4 (gRf a0 2) ((i1 * 10) + x3)).bind fun q => match q with | (r9, M10) => (f_X0_hoursOf_b41 a0 i1 (f_X0_hoursOf_h4 a0 i1 n) (x2 + r9) x3 M10))))
def f_X0_hoursOf  (M : Mem) (a0 : Nat) (i1 : Int32) : Option (Int32 × Mem) := f_X0_hoursOf_h4 a0 i1 FU 0 0 M
set_option maxHeartbeats 4000000 in
set_option maxRecDepth 100000 in
theorem w_X0_hoursOf_b41 {g : gT} {p : Program} {l : Launch} {e : Env} {s : State} {m : MethodId} {args : Array Value} {below : List Frame} {meth : Method} {c : Code} {z : Int32 × Mem} (F : Fx g p s m args c cX0_hoursOf 4 uX0_hoursOf RX0) (hr : meth.sig.returnType = (some .int)) (hlk : meth.locks = false)  {a0 : Nat} {i1 : Int32} (t0 : Ty g 0 a0) {k4 : Int32 → Int32 → Mem → Option (Int32 × Mem)} (hk4 : ∀ (x2 : Int32) (x3 : Int32) (M : Mem), k4 x2 x3 M = some z → V g p l e ({ frames := 1, cells := 0, slots := 0, locals := 40 * 1 } : Room) s m args below meth c 4 0 0 (MQ below (gQ g (some (.int z.1)) z.2) args s 0 0 (gA g)) 4 [(0, .ref (gAd g a0)), (1, .int i1), (2, .int x2), (3, .int x3)] [] M) (x2 : Int32) (x3 : Int32) (M : Mem)  (h : f_X0_hoursOf_b41 a0 i1 k4 x2 x3 M = some z) : V g p l e ({ frames := 1, cells := 0, slots := 0, locals := 40 * 1 } : Room) s m args below meth c 4 0 0 (MQ below (gQ g (some (.int z.1)) z.2) args s 0 0 (gA g)) 41 [(0, .ref (gAd g a0)), (1, .int i1), (2, .int x2), (3, .int x3)] [] M := by
  unfold f_X0_hoursOf_b41 at h
  refine v_iinc (v := x3 + 1) (lv' := [(3, .int (x3 + 1)), (0, .ref (gAd g a0)), (1, .int i1), (2, .int x2)]) F dX0_hoursOf_41 (q := 3) rfl rfl (by decide) rfl ?_
  refine v_goto (tgt := 4) F dX0_hoursOf_44 (by decide) ?_
  refine v_sub (fun ls h9 => lv_sub h9 [1, 2, 3, 0] rfl) ?_
  exact hk4 _ _ _ h
set_option maxHeartbeats 4000000 in
set_option maxRecDepth 100000 in
theorem w_X0_hoursOf_h4 {g : gT} {p : Program} {l : Launch} {e : Env} {s : State} {m : MethodId} {args : Array Value} {below : List Frame} {meth : Method} {c : Code} {z : Int32 × Mem} (F : Fx g p s m args c cX0_hoursOf 4 uX0_hoursOf RX0) (hr : meth.sig.returnType = (some .int)) (hlk : meth.locks = false)  {a0 : Nat} {i1 : Int32} (t0 : Ty g 0 a0)   : ∀ (n : Nat) (x2 : Int32) (x3 : Int32) (M : Mem), f_X0_hoursOf_h4 a0 i1 n x2 x3 M = some z → V g p l e ({ frames := 1, cells := 0, slots := 0, locals := 40 * 1 } : Room) s m args below meth c 4 0 0 (MQ below (gQ g (some (.int z.1)) z.2) args s 0 0 (gA g)) 4 [(0, .ref (gAd g a0)), (1, .int i1), (2, .int x2), (3, .int x3)] [] M := by
  intro n
  induction n with
  | zero => intro x2 x3 M; intros; rename_i h; cases h
  | succ n ih =>
    intro x2 x3 M h
    rw [f_X0_hoursOf_h4] at h
    refine v_iload_n F dX0_hoursOf_4 rfl 3 rfl ?_
    refine v_bipush (v := 10) F dX0_hoursOf_5 (by decide) ?_
    refine v_icmp_ge (tgt := 47) F dX0_hoursOf_7 (by decide) (fun hc1 => ?_) (fun hc1 => ?_)
    · rw [if_pos hc1] at h
      refine v_iload_n F dX0_hoursOf_47 rfl 2 rfl ?_
      cases h
      exact v_iret F hr rfl hlk dX0_hoursOf_48
    · rw [if_neg hc1] at h
      refine v_iload_n F dX0_hoursOf_10 rfl 3 rfl ?_
      refine v_bipush (v := 6) F dX0_hoursOf_11 (by decide) ?_
      refine v_imul F dX0_hoursOf_13 ?_
      refine v_aload_n F dX0_hoursOf_14 rfl 0 rfl ?_
      refine v_getR (k := 1) (f := 8) F t0 (by decide) (inc inU_0) rfl rfl (by decide) (by decide) (List.mem_cons_of_mem _ fl_X0_14) rfl dX0_hoursOf_15 (fun u2 => ?_)
      refine v_iload_n F dX0_hoursOf_18 rfl 1 rfl ?_
      obtain ⟨⟨r3, M4⟩, hz5, h⟩ := bd_some h
      dsimp only at h
      refine v_callVi (As := [.int i1]) (rest := [.int (x3 * 6)]) F (c_X8_at l F.2.2.1 u2 hz5) (cwV 1 F.1.2.2.2.2 (gU_V ml_X0_29 im_yX8_at se_yX8_at ini_X8 cd_X8_at) rfl rfl rfl (by decide +kernel) ⟨Nat.le_of_ble_eq_true rfl, Nat.le_of_ble_eq_true rfl⟩) u2 (by decide) rfl rfl rfl (Nat.le_of_ble_eq_true rfl) dX0_hoursOf_19 ⟨Nat.le_of_ble_eq_true rfl, Nat.le_of_ble_eq_true rfl⟩ ?_
      refine v_icmp_lt (tgt := 41) F dX0_hoursOf_22 (by decide) (fun hc7 => ?_) (fun hc7 => ?_)
      · rw [if_pos hc7] at h
        exact w_X0_hoursOf_b41 F hr hlk t0 ih _ _ _ h
      · rw [if_neg hc7] at h
        refine v_iload_n F dX0_hoursOf_25 rfl 2 rfl ?_
        refine v_aload_n F dX0_hoursOf_26 rfl 0 rfl ?_
        refine v_getR (k := 2) (f := 8) F t0 (by decide) (inc inU_0) rfl rfl (by decide) (by decide) (List.mem_cons_of_mem _ fl_X0_18) rfl dX0_hoursOf_27 (fun u8 => ?_)
        refine v_iload_n F dX0_hoursOf_30 rfl 1 rfl ?_
        refine v_bipush (v := 10) F dX0_hoursOf_31 (by decide) ?_
        refine v_imul F dX0_hoursOf_33 ?_
        refine v_iload_n F dX0_hoursOf_34 rfl 3 rfl ?_
        refine v_iadd F dX0_hoursOf_35 ?_
        obtain ⟨⟨r9, M10⟩, hz11, h⟩ := bd_some h
        dsimp only at h
        refine v_callVi (As := [.int ((i1 * 10) + x3)]) (rest := [.int x2]) F (c_X8_at l F.2.2.1 u8 hz11) (cwV 1 F.1.2.2.2.2 (gU_V ml_X0_29 im_yX8_at se_yX8_at ini_X8 cd_X8_at) rfl rfl rfl (by decide +kernel) ⟨Nat.le_of_ble_eq_true rfl, Nat.le_of_ble_eq_true rfl⟩) u8 (by decide) rfl rfl rfl (Nat.le_of_ble_eq_true rfl) dX0_hoursOf_36 ⟨Nat.le_of_ble_eq_true rfl, Nat.le_of_ble_eq_true rfl⟩ ?_
        refine v_iadd F dX0_hoursOf_39 ?_
        refine v_istore_n (lv' := [(2, .int (x2 + r9)), (0, .ref (gAd g a0)), (1, .int i1), (3, .int x3)]) F dX0_hoursOf_40 rfl (by decide) rfl ?_
        refine v_sub (fun ls h9 => lv_sub h9 [1, 2, 0, 3] rfl) ?_
        exact w_X0_hoursOf_b41 F hr hlk t0 ih _ _ _ h
set_option maxHeartbeats 4000000 in
set_option maxRecDepth 100000 in
theorem c_X0_hoursOf {g : gT} (l : Launch) (hok : gOK g)  {a0 : Nat} {i1 : Int32} {M : Mem} {z : Int32 × Mem}  (t0 : Ty g 0 a0) (h : f_X0_hoursOf  M a0 i1 = some z) : Cn g l yX0_hoursOf uX0_hoursOf 1 [.ref (gAd g a0), .int i1] M (some (.int z.1)) z.2 := by
  refine Cn.of (cc := cX0_hoursOf) (maxL := 4) (ret := (some .int)) hok (by decide) rfl (Nat.le_of_ble_eq_true rfl) (fun p e s m args below meth c F hr hlk => ?_)
  unfold f_X0_hoursOf at h
  show V g p l e ({ frames := 1, cells := 0, slots := 0, locals := 40 * 1 } : Room) s m args below meth c 4 0 0 (MQ below (gQ g (some (.int z.1)) z.2) args s 0 0 (gA g)) 0 [(0, .ref (gAd g a0)), (1, .int i1)] [] M
  refine v_iconst (v := 0) F dX0_hoursOf_0 (by decide) ?_
  refine v_istore_n (lv' := [(2, .int 0), (0, .ref (gAd g a0)), (1, .int i1)]) F dX0_hoursOf_1 rfl (by decide) rfl ?_
  refine v_iconst (v := 0) F dX0_hoursOf_2 (by decide) ?_
  refine v_istore_n (lv' := [(3, .int 0), (2, .int 0), (0, .ref (gAd g a0)), (1, .int i1)]) F dX0_hoursOf_3 rfl (by decide) rfl ?_
  refine v_sub (fun ls h9 => lv_sub h9 [2, 3, 1, 0] rfl) ?_
  exact w_X0_hoursOf_h4 F hr hlk t0 _ _ _ _ h
def f_X8_copy_h2 (a0 : Nat) (a1 : Nat)  : Nat → Int32 → Mem → Option (Int32 × Mem)
  | 0, _, _ => none
  | n + 1, x2, M => if (nI (gN (gRf a0 0))) ≤ x2 then (some (0, M)) else (if (nI (gN (gRf a1 0))) ≤ x2 then (some (0, M)) else (if ¬ (x2 < 0 ∨ gN (gRf a1 0) ≤ x2.toNatClampNeg) then (if ¬ (x2 < 0 ∨ gN (gRf a0 0) ≤ x2.toNatClampNeg) then ((f_X8_copy_h2 a0 a1 n) (x2 + 1) (mU M (gRf a0 0) x2.toNatClampNeg (M (gRf a1 0) x2.toNatClampNeg))) else none) else none))
def f_X8_copy  (M : Mem) (a0 : Nat) (a1 : Nat) : Option (Int32 × Mem) := f_X8_copy_h2 a0 a1 FU 0 M
set_option maxHeartbeats 4000000 in
set_option maxRecDepth 100000 in
theorem w_X8_copy_h2 {g : gT} {p : Program} {l : Launch} {e : Env} {s : State} {m : MethodId} {args : Array Value} {below : List Frame} {meth : Method} {c : Code} {z : Int32 × Mem} (F : Fx g p s m args c cX8_copy 3 uX8_copy RX8) (hr : meth.sig.returnType = none) (hlk : meth.locks = false)  {a0 : Nat} {a1 : Nat} (t0 : Ty g 8 a0) (t1 : Ty g 8 a1)   : ∀ (n : Nat) (x2 : Int32) (M : Mem), f_X8_copy_h2 a0 a1 n x2 M = some z → V g p l e ({ frames := 0, cells := 0, slots := 0, locals := 40 * 0 } : Room) s m args below meth c 3 0 0 (MQ below (gQ g none z.2) args s 0 0 (gA g)) 2 [(0, .ref (gAd g a0)), (1, .ref (gAd g a1)), (2, .int x2)] [] M := by
  intro n
  induction n with
  | zero => intro x2 M; intros; rename_i h; cases h
  | succ n ih =>
    intro x2 M h
    rw [f_X8_copy_h2] at h
    refine v_iload_n F dX8_copy_2 rfl 2 rfl ?_
    refine v_aload_n F dX8_copy_3 rfl 0 rfl ?_
    refine v_getR (k := 0) (f := 12) F t0 (by decide) (inc inU_8) rfl rfl (by decide) (by decide) (List.mem_cons_of_mem _ fl_X8_13) rfl dX8_copy_4 (fun u1 => ?_)
    refine v_alen (t0 := 0) F u1 (by decide) rfl dX8_copy_7 ?_
    refine v_icmp_ge (tgt := 38) F dX8_copy_8 (by decide) (fun hc2 => ?_) (fun hc2 => ?_)
    · rw [if_pos hc2] at h
      cases h
      exact v_vret F hr hlk dX8_copy_38
    · rw [if_neg hc2] at h
      refine v_iload_n F dX8_copy_11 rfl 2 rfl ?_
      refine v_aload_n F dX8_copy_12 rfl 1 rfl ?_
      refine v_getR (k := 0) (f := 12) F t1 (by decide) (inc inU_8) rfl rfl (by decide) (by decide) (List.mem_cons_of_mem _ fl_X8_13) rfl dX8_copy_13 (fun u3 => ?_)
      refine v_alen (t0 := 0) F u3 (by decide) rfl dX8_copy_16 ?_
      refine v_icmp_ge (tgt := 38) F dX8_copy_17 (by decide) (fun hc4 => ?_) (fun hc4 => ?_)
      · rw [if_pos hc4] at h
        cases h
        exact v_vret F hr hlk dX8_copy_38
      · rw [if_neg hc4] at h
        refine v_aload_n F dX8_copy_20 rfl 0 rfl ?_
        refine v_getR (k := 0) (f := 12) F t0 (by decide) (inc inU_8) rfl rfl (by decide) (by decide) (List.mem_cons_of_mem _ fl_X8_13) rfl dX8_copy_21 (fun u5 => ?_)
        refine v_iload_n F dX8_copy_24 rfl 2 rfl ?_
        refine v_aload_n F dX8_copy_25 rfl 1 rfl ?_
        refine v_getR (k := 0) (f := 12) F t1 (by decide) (inc inU_8) rfl rfl (by decide) (by decide) (List.mem_cons_of_mem _ fl_X8_13) rfl dX8_copy_26 (fun u6 => ?_)
        refine v_iload_n F dX8_copy_29 rfl 2 rfl ?_
        obtain ⟨hin7, h⟩ := gd_some h
        refine v_iald F u6 hin7 dX8_copy_30 ?_
        obtain ⟨hin8, h⟩ := gd_some h
        refine v_iast F u5 hin8 dX8_copy_31 ?_
        refine v_iinc (v := x2 + 1) (lv' := [(2, .int (x2 + 1)), (0, .ref (gAd g a0)), (1, .ref (gAd g a1))]) F dX8_copy_32 (q := 2) rfl rfl (by decide) rfl ?_
        refine v_goto (tgt := 2) F dX8_copy_35 (by decide) ?_
        refine v_sub (fun ls h9 => lv_sub h9 [1, 2, 0] rfl) ?_
        exact ih _ _ h
set_option maxHeartbeats 4000000 in
set_option maxRecDepth 100000 in
theorem c_X8_copy {g : gT} (l : Launch) (hok : gOK g)  {a0 : Nat} {a1 : Nat} {M : Mem} {z : Int32 × Mem}  (t0 : Ty g 8 a0) (t1 : Ty g 8 a1) (h : f_X8_copy  M a0 a1 = some z) : Cn g l yX8_copy uX8_copy 0 [.ref (gAd g a0), .ref (gAd g a1)] M none z.2 := by
  refine Cn.of (cc := cX8_copy) (maxL := 3) (ret := none) hok (by decide) rfl (Nat.le_of_ble_eq_true rfl) (fun p e s m args below meth c F hr hlk => ?_)
  unfold f_X8_copy at h
  show V g p l e ({ frames := 0, cells := 0, slots := 0, locals := 40 * 0 } : Room) s m args below meth c 3 0 0 (MQ below (gQ g none z.2) args s 0 0 (gA g)) 0 [(0, .ref (gAd g a0)), (1, .ref (gAd g a1))] [] M
  refine v_iconst (v := 0) F dX8_copy_0 (by decide) ?_
  refine v_istore_n (lv' := [(2, .int 0), (0, .ref (gAd g a0)), (1, .ref (gAd g a1))]) F dX8_copy_1 rfl (by decide) rfl ?_
  refine v_sub (fun ls h9 => lv_sub h9 [1, 2, 0] rfl) ?_
  exact w_X8_copy_h2 F hr hlk t0 t1 _ _ _ h
def f_X0_copy  (M : Mem) (a0 : Nat) (a1 : Nat) : Option (Int32 × Mem) := (f_X8_copy (mU M a0 0 (M a1 0)) (gRf a0 1) (gRf a1 1)).bind fun q => match q with | (r3, M4) => ((f_X8_copy M4 (gRf a0 2) (gRf a1 2)).bind fun q => match q with | (r9, M10) => (some (0, M10)))
set_option maxHeartbeats 4000000 in
set_option maxRecDepth 100000 in
theorem c_X0_copy {g : gT} (l : Launch) (hok : gOK g)  {a0 : Nat} {a1 : Nat} {M : Mem} {z : Int32 × Mem}  (t0 : Ty g 0 a0) (t1 : Ty g 0 a1) (h : f_X0_copy  M a0 a1 = some z) : Cn g l yX0_copy uX0_copy 1 [.ref (gAd g a0), .ref (gAd g a1)] M none z.2 := by
  refine Cn.of (cc := cX0_copy) (maxL := 2) (ret := none) hok (by decide) rfl (Nat.le_of_ble_eq_true rfl) (fun p e s m args below meth c F hr hlk => ?_)
  unfold f_X0_copy at h
  show V g p l e ({ frames := 1, cells := 0, slots := 0, locals := 40 * 1 } : Room) s m args below meth c 2 0 0 (MQ below (gQ g none z.2) args s 0 0 (gA g)) 0 [(0, .ref (gAd g a0)), (1, .ref (gAd g a1))] [] M
  refine v_aload_n F dX0_copy_0 rfl 0 rfl ?_
  refine v_aload_n F dX0_copy_1 rfl 1 rfl ?_
  refine v_getI (k := 0) F t1 (by decide) (inc inU_0) rfl rfl (by decide) (List.mem_cons_of_mem _ fl_X0_21) rfl dX0_copy_2 ?_
  refine v_put (k := 0) (ty := .int) F t0 (by decide) (inc inU_0) tyX0 tyX0_ok nmX0 rfl rfl (by decide) (List.mem_cons_of_mem _ fl_X0_21) rfl rfl (by decide +kernel) rfl rfl dX0_copy_5 ?_
  refine v_aload_n F dX0_copy_8 rfl 0 rfl ?_
  refine v_getR (k := 1) (f := 8) F t0 (by decide) (inc inU_0) rfl rfl (by decide) (by decide) (List.mem_cons_of_mem _ fl_X0_14) rfl dX0_copy_9 (fun u1 => ?_)
  refine v_aload_n F dX0_copy_12 rfl 1 rfl ?_
  refine v_getR (k := 1) (f := 8) F t1 (by decide) (inc inU_0) rfl rfl (by decide) (by decide) (List.mem_cons_of_mem _ fl_X0_14) rfl dX0_copy_13 (fun u2 => ?_)
  obtain ⟨⟨r3, M4⟩, hz5, h⟩ := bd_some h
  dsimp only at h
  refine v_callVv (As := [.ref (gAd g (gRf a1 1))]) (rest := []) F (c_X8_copy l F.2.2.1 u1 u2 hz5) (cwV 1 F.1.2.2.2.2 (gU_V ml_X0_33 im_yX8_copy se_yX8_copy ini_X8 cd_X8_copy) rfl rfl rfl (by decide +kernel) ⟨Nat.le_of_ble_eq_true rfl, Nat.le_of_ble_eq_true rfl⟩) u1 (by decide) rfl rfl rfl (Nat.le_of_ble_eq_true rfl) dX0_copy_16 ⟨Nat.le_of_ble_eq_true rfl, Nat.le_of_ble_eq_true rfl⟩ ?_
  refine v_aload_n F dX0_copy_19 rfl 0 rfl ?_
  refine v_getR (k := 2) (f := 8) F t0 (by decide) (inc inU_0) rfl rfl (by decide) (by decide) (List.mem_cons_of_mem _ fl_X0_18) rfl dX0_copy_20 (fun u7 => ?_)
  refine v_aload_n F dX0_copy_23 rfl 1 rfl ?_
  refine v_getR (k := 2) (f := 8) F t1 (by decide) (inc inU_0) rfl rfl (by decide) (by decide) (List.mem_cons_of_mem _ fl_X0_18) rfl dX0_copy_24 (fun u8 => ?_)
  obtain ⟨⟨r9, M10⟩, hz11, h⟩ := bd_some h
  dsimp only at h
  refine v_callVv (As := [.ref (gAd g (gRf a1 2))]) (rest := []) F (c_X8_copy l F.2.2.1 u7 u8 hz11) (cwV 1 F.1.2.2.2.2 (gU_V ml_X0_33 im_yX8_copy se_yX8_copy ini_X8 cd_X8_copy) rfl rfl rfl (by decide +kernel) ⟨Nat.le_of_ble_eq_true rfl, Nat.le_of_ble_eq_true rfl⟩) u7 (by decide) rfl rfl rfl (Nat.le_of_ble_eq_true rfl) dX0_copy_27 ⟨Nat.le_of_ble_eq_true rfl, Nat.le_of_ble_eq_true rfl⟩ ?_
  cases h
  exact v_vret F hr hlk dX0_copy_30
def f_X8_fill_h2 (a0 : Nat) (i1 : Int32)  : Nat → Int32 → Mem → Option (Int32 × Mem)
  | 0, _, _ => none
  | n + 1, x2, M => if (nI (gN (gRf a0 0))) ≤ x2 then (some (0, M)) else (if ¬ (x2 < 0 ∨ gN (gRf a0 0) ≤ x2.toNatClampNeg) then ((f_X8_fill_h2 a0 i1 n) (x2 + 1) (mU M (gRf a0 0) x2.toNatClampNeg i1)) else none)
def f_X8_fill  (M : Mem) (a0 : Nat) (i1 : Int32) : Option (Int32 × Mem) := f_X8_fill_h2 a0 i1 FU 0 M
set_option maxHeartbeats 4000000 in
set_option maxRecDepth 100000 in
theorem w_X8_fill_h2 {g : gT} {p : Program} {l : Launch} {e : Env} {s : State} {m : MethodId} {args : Array Value} {below : List Frame} {meth : Method} {c : Code} {z : Int32 × Mem} (F : Fx g p s m args c cX8_fill 3 uX8_fill RX8) (hr : meth.sig.returnType = none) (hlk : meth.locks = false)  {a0 : Nat} {i1 : Int32} (t0 : Ty g 8 a0)   : ∀ (n : Nat) (x2 : Int32) (M : Mem), f_X8_fill_h2 a0 i1 n x2 M = some z → V g p l e ({ frames := 0, cells := 0, slots := 0, locals := 40 * 0 } : Room) s m args below meth c 3 0 0 (MQ below (gQ g none z.2) args s 0 0 (gA g)) 2 [(0, .ref (gAd g a0)), (1, .int i1), (2, .int x2)] [] M := by
  intro n
  induction n with
  | zero => intro x2 M; intros; rename_i h; cases h
  | succ n ih =>
    intro x2 M h
    rw [f_X8_fill_h2] at h
    refine v_iload_n F dX8_fill_2 rfl 2 rfl ?_
    refine v_aload_n F dX8_fill_3 rfl 0 rfl ?_
    refine v_getR (k := 0) (f := 12) F t0 (by decide) (inc inU_8) rfl rfl (by decide) (by decide) (List.mem_cons_of_mem _ fl_X8_13) rfl dX8_fill_4 (fun u1 => ?_)
    refine v_alen (t0 := 0) F u1 (by decide) rfl dX8_fill_7 ?_
    refine v_icmp_ge (tgt := 24) F dX8_fill_8 (by decide) (fun hc2 => ?_) (fun hc2 => ?_)
    · rw [if_pos hc2] at h
      cases h
      exact v_vret F hr hlk dX8_fill_24
    · rw [if_neg hc2] at h
      refine v_aload_n F dX8_fill_11 rfl 0 rfl ?_
      refine v_getR (k := 0) (f := 12) F t0 (by decide) (inc inU_8) rfl rfl (by decide) (by decide) (List.mem_cons_of_mem _ fl_X8_13) rfl dX8_fill_12 (fun u3 => ?_)
      refine v_iload_n F dX8_fill_15 rfl 2 rfl ?_
      refine v_iload_n F dX8_fill_16 rfl 1 rfl ?_
      obtain ⟨hin4, h⟩ := gd_some h
      refine v_iast F u3 hin4 dX8_fill_17 ?_
      refine v_iinc (v := x2 + 1) (lv' := [(2, .int (x2 + 1)), (0, .ref (gAd g a0)), (1, .int i1)]) F dX8_fill_18 (q := 2) rfl rfl (by decide) rfl ?_
      refine v_goto (tgt := 2) F dX8_fill_21 (by decide) ?_
      refine v_sub (fun ls h9 => lv_sub h9 [1, 2, 0] rfl) ?_
      exact ih _ _ h
set_option maxHeartbeats 4000000 in
set_option maxRecDepth 100000 in
theorem c_X8_fill {g : gT} (l : Launch) (hok : gOK g)  {a0 : Nat} {i1 : Int32} {M : Mem} {z : Int32 × Mem}  (t0 : Ty g 8 a0) (h : f_X8_fill  M a0 i1 = some z) : Cn g l yX8_fill uX8_fill 0 [.ref (gAd g a0), .int i1] M none z.2 := by
  refine Cn.of (cc := cX8_fill) (maxL := 3) (ret := none) hok (by decide) rfl (Nat.le_of_ble_eq_true rfl) (fun p e s m args below meth c F hr hlk => ?_)
  unfold f_X8_fill at h
  show V g p l e ({ frames := 0, cells := 0, slots := 0, locals := 40 * 0 } : Room) s m args below meth c 3 0 0 (MQ below (gQ g none z.2) args s 0 0 (gA g)) 0 [(0, .ref (gAd g a0)), (1, .int i1)] [] M
  refine v_iconst (v := 0) F dX8_fill_0 (by decide) ?_
  refine v_istore_n (lv' := [(2, .int 0), (0, .ref (gAd g a0)), (1, .int i1)]) F dX8_fill_1 rfl (by decide) rfl ?_
  refine v_sub (fun ls h9 => lv_sub h9 [1, 2, 0] rfl) ?_
  exact w_X8_fill_h2 F hr hlk t0 _ _ _ h
def f_X1_still  (M : Mem) (a0 : Nat) : Option (Int32 × Mem) := (f_X8_fill M (gRf a0 3) 0).bind fun q => match q with | (r2, M3) => ((f_X8_fill M3 (gRf a0 4) 0).bind fun q => match q with | (r7, M8) => ((f_X8_fill M8 (gRf a0 5) 0).bind fun q => match q with | (r12, M13) => ((f_X8_fill M13 (gRf a0 6) 0).bind fun q => match q with | (r17, M18) => (some (0, M18)))))
set_option maxHeartbeats 4000000 in
set_option maxRecDepth 100000 in
theorem c_X1_still {g : gT} (l : Launch) (hok : gOK g)  {a0 : Nat} {M : Mem} {z : Int32 × Mem}  (t0 : Ty g 1 a0) (h : f_X1_still  M a0 = some z) : Cn g l yX1_still uX1_still 1 [.ref (gAd g a0)] M none z.2 := by
  refine Cn.of (cc := cX1_still) (maxL := 1) (ret := none) hok (by decide) rfl (Nat.le_of_ble_eq_true rfl) (fun p e s m args below meth c F hr hlk => ?_)
  unfold f_X1_still at h
  show V g p l e ({ frames := 1, cells := 0, slots := 0, locals := 40 * 1 } : Room) s m args below meth c 1 0 0 (MQ below (gQ g none z.2) args s 0 0 (gA g)) 0 [(0, .ref (gAd g a0))] [] M
  refine v_aload_n F dX1_still_0 rfl 0 rfl ?_
  refine v_getR (k := 3) (f := 8) F t0 (by decide) (inc inU_1) rfl rfl (by decide) (by decide) (List.mem_cons_of_mem _ fl_X1_20) rfl dX1_still_1 (fun u1 => ?_)
  refine v_iconst (v := 0) F dX1_still_4 (by decide) ?_
  obtain ⟨⟨r2, M3⟩, hz4, h⟩ := bd_some h
  dsimp only at h
  refine v_callVv (As := [.int 0]) (rest := []) F (c_X8_fill l F.2.2.1 u1 hz4) (cwV 1 F.1.2.2.2.2 (gU_V ml_X1_62 im_yX8_fill se_yX8_fill ini_X8 cd_X8_fill) rfl rfl rfl (by decide +kernel) ⟨Nat.le_of_ble_eq_true rfl, Nat.le_of_ble_eq_true rfl⟩) u1 (by decide) rfl rfl rfl (Nat.le_of_ble_eq_true rfl) dX1_still_5 ⟨Nat.le_of_ble_eq_true rfl, Nat.le_of_ble_eq_true rfl⟩ ?_
  refine v_aload_n F dX1_still_8 rfl 0 rfl ?_
  refine v_getR (k := 4) (f := 8) F t0 (by decide) (inc inU_1) rfl rfl (by decide) (by decide) (List.mem_cons_of_mem _ fl_X1_23) rfl dX1_still_9 (fun u6 => ?_)
  refine v_iconst (v := 0) F dX1_still_12 (by decide) ?_
  obtain ⟨⟨r7, M8⟩, hz9, h⟩ := bd_some h
  dsimp only at h
  refine v_callVv (As := [.int 0]) (rest := []) F (c_X8_fill l F.2.2.1 u6 hz9) (cwV 1 F.1.2.2.2.2 (gU_V ml_X1_62 im_yX8_fill se_yX8_fill ini_X8 cd_X8_fill) rfl rfl rfl (by decide +kernel) ⟨Nat.le_of_ble_eq_true rfl, Nat.le_of_ble_eq_true rfl⟩) u6 (by decide) rfl rfl rfl (Nat.le_of_ble_eq_true rfl) dX1_still_13 ⟨Nat.le_of_ble_eq_true rfl, Nat.le_of_ble_eq_true rfl⟩ ?_
  refine v_aload_n F dX1_still_16 rfl 0 rfl ?_
  refine v_getR (k := 5) (f := 8) F t0 (by decide) (inc inU_1) rfl rfl (by decide) (by decide) (List.mem_cons_of_mem _ fl_X1_26) rfl dX1_still_17 (fun u11 => ?_)
  refine v_iconst (v := 0) F dX1_still_20 (by decide) ?_
  obtain ⟨⟨r12, M13⟩, hz14, h⟩ := bd_some h
  dsimp only at h
  refine v_callVv (As := [.int 0]) (rest := []) F (c_X8_fill l F.2.2.1 u11 hz14) (cwV 1 F.1.2.2.2.2 (gU_V ml_X1_62 im_yX8_fill se_yX8_fill ini_X8 cd_X8_fill) rfl rfl rfl (by decide +kernel) ⟨Nat.le_of_ble_eq_true rfl, Nat.le_of_ble_eq_true rfl⟩) u11 (by decide) rfl rfl rfl (Nat.le_of_ble_eq_true rfl) dX1_still_21 ⟨Nat.le_of_ble_eq_true rfl, Nat.le_of_ble_eq_true rfl⟩ ?_
  refine v_aload_n F dX1_still_24 rfl 0 rfl ?_
  refine v_getR (k := 6) (f := 8) F t0 (by decide) (inc inU_1) rfl rfl (by decide) (by decide) (List.mem_cons_of_mem _ fl_X1_29) rfl dX1_still_25 (fun u16 => ?_)
  refine v_iconst (v := 0) F dX1_still_28 (by decide) ?_
  obtain ⟨⟨r17, M18⟩, hz19, h⟩ := bd_some h
  dsimp only at h
  refine v_callVv (As := [.int 0]) (rest := []) F (c_X8_fill l F.2.2.1 u16 hz19) (cwV 1 F.1.2.2.2.2 (gU_V ml_X1_62 im_yX8_fill se_yX8_fill ini_X8 cd_X8_fill) rfl rfl rfl (by decide +kernel) ⟨Nat.le_of_ble_eq_true rfl, Nat.le_of_ble_eq_true rfl⟩) u16 (by decide) rfl rfl rfl (Nat.le_of_ble_eq_true rfl) dX1_still_29 ⟨Nat.le_of_ble_eq_true rfl, Nat.le_of_ble_eq_true rfl⟩ ?_
  cases h
  exact v_vret F hr hlk dX1_still_32
def f_X1_lay  (M : Mem) (a0 : Nat) (i1 : Int32) : Option (Int32 × Mem) := (f_X1_still (mU (mU M a0 0 i1) a0 1 0) a0).bind fun q => match q with | (r1, M2) => ((f_X8_fill M2 (gRf a0 7) 2).bind fun q => match q with | (r6, M7) => ((f_X8_fill M7 (gRf a0 8) 0).bind fun q => match q with | (r11, M12) => (some (0, M12))))
set_option maxHeartbeats 4000000 in
set_option maxRecDepth 100000 in
theorem c_X1_lay {g : gT} (l : Launch) (hok : gOK g)  {a0 : Nat} {i1 : Int32} {M : Mem} {z : Int32 × Mem}  (t0 : Ty g 1 a0) (h : f_X1_lay  M a0 i1 = some z) : Cn g l yX1_lay uX1_lay 2 [.ref (gAd g a0), .int i1] M none z.2 := by
  refine Cn.of (cc := cX1_lay) (maxL := 2) (ret := none) hok (by decide) rfl (Nat.le_of_ble_eq_true rfl) (fun p e s m args below meth c F hr hlk => ?_)
  unfold f_X1_lay at h
  show V g p l e ({ frames := 2, cells := 0, slots := 0, locals := 40 * 2 } : Room) s m args below meth c 2 0 0 (MQ below (gQ g none z.2) args s 0 0 (gA g)) 0 [(0, .ref (gAd g a0)), (1, .int i1)] [] M
  refine v_aload_n F dX1_lay_0 rfl 0 rfl ?_
  refine v_iload_n F dX1_lay_1 rfl 1 rfl ?_
  refine v_put (k := 0) (ty := .int) F t0 (by decide) (inc inU_1) tyX1 tyX1_ok nmX1 rfl rfl (by decide) (List.mem_cons_of_mem _ fl_X1_52) rfl rfl (by decide +kernel) rfl rfl dX1_lay_2 ?_
  refine v_aload_n F dX1_lay_5 rfl 0 rfl ?_
  refine v_iconst (v := 0) F dX1_lay_6 (by decide) ?_
  refine v_put (k := 1) (ty := .int) F t0 (by decide) (inc inU_1) tyX1 tyX1_ok nmX1 rfl rfl (by decide) (List.mem_cons_of_mem _ fl_X1_56) rfl rfl (by decide +kernel) rfl rfl dX1_lay_7 ?_
  refine v_aload_n F dX1_lay_10 rfl 0 rfl ?_
  obtain ⟨⟨r1, M2⟩, hz3, h⟩ := bd_some h
  dsimp only at h
  refine v_callVv (As := []) (rest := []) F (c_X1_still l F.2.2.1 t0 hz3) (cwV 0 F.1.2.2.2.2 (gU_V ml_X1_59 im_yX1_still se_yX1_still ini_X1 cd_X1_still) rfl rfl rfl (by decide +kernel) ⟨Nat.le_of_ble_eq_true rfl, Nat.le_of_ble_eq_true rfl⟩) t0 (by decide) rfl rfl rfl (Nat.le_of_ble_eq_true rfl) dX1_lay_11 ⟨Nat.le_of_ble_eq_true rfl, Nat.le_of_ble_eq_true rfl⟩ ?_
  refine v_aload_n F dX1_lay_14 rfl 0 rfl ?_
  refine v_getR (k := 7) (f := 8) F t0 (by decide) (inc inU_1) rfl rfl (by decide) (by decide) (List.mem_cons_of_mem _ fl_X1_32) rfl dX1_lay_15 (fun u5 => ?_)
  refine v_iconst (v := 2) F dX1_lay_18 (by decide) ?_
  obtain ⟨⟨r6, M7⟩, hz8, h⟩ := bd_some h
  dsimp only at h
  refine v_callVv (As := [.int 2]) (rest := []) F (c_X8_fill l F.2.2.1 u5 hz8) (cwV 1 F.1.2.2.2.2 (gU_V ml_X1_62 im_yX8_fill se_yX8_fill ini_X8 cd_X8_fill) rfl rfl rfl (by decide +kernel) ⟨Nat.le_of_ble_eq_true rfl, Nat.le_of_ble_eq_true rfl⟩) u5 (by decide) rfl rfl rfl (Nat.le_of_ble_eq_true rfl) dX1_lay_19 ⟨Nat.le_of_ble_eq_true rfl, Nat.le_of_ble_eq_true rfl⟩ ?_
  refine v_aload_n F dX1_lay_22 rfl 0 rfl ?_
  refine v_getR (k := 8) (f := 8) F t0 (by decide) (inc inU_1) rfl rfl (by decide) (by decide) (List.mem_cons_of_mem _ fl_X1_35) rfl dX1_lay_23 (fun u10 => ?_)
  refine v_iconst (v := 0) F dX1_lay_26 (by decide) ?_
  obtain ⟨⟨r11, M12⟩, hz13, h⟩ := bd_some h
  dsimp only at h
  refine v_callVv (As := [.int 0]) (rest := []) F (c_X8_fill l F.2.2.1 u10 hz13) (cwV 1 F.1.2.2.2.2 (gU_V ml_X1_62 im_yX8_fill se_yX8_fill ini_X8 cd_X8_fill) rfl rfl rfl (by decide +kernel) ⟨Nat.le_of_ble_eq_true rfl, Nat.le_of_ble_eq_true rfl⟩) u10 (by decide) rfl rfl rfl (Nat.le_of_ble_eq_true rfl) dX1_lay_27 ⟨Nat.le_of_ble_eq_true rfl, Nat.le_of_ble_eq_true rfl⟩ ?_
  cases h
  exact v_vret F hr hlk dX1_lay_30
def f_X1_copy  (M : Mem) (a0 : Nat) (a1 : Nat) : Option (Int32 × Mem) := (f_X8_copy (mU (mU M a0 0 (M a1 0)) a0 1 ((mU M a0 0 (M a1 0)) a1 1)) (gRf a0 2) (gRf a1 2)).bind fun q => match q with | (r3, M4) => ((f_X8_copy M4 (gRf a0 3) (gRf a1 3)).bind fun q => match q with | (r9, M10) => ((f_X8_copy M10 (gRf a0 4) (gRf a1 4)).bind fun q => match q with | (r15, M16) => ((f_X8_copy M16 (gRf a0 5) (gRf a1 5)).bind fun q => match q with | (r21, M22) => ((f_X8_copy M22 (gRf a0 6) (gRf a1 6)).bind fun q => match q with | (r27, M28) => ((f_X8_copy M28 (gRf a0 7) (gRf a1 7)).bind fun q => match q with | (r33, M34) => ((f_X8_copy M34 (gRf a0 8) (gRf a1 8)).bind fun q => match q with | (r39, M40) => (some (0, M40))))))))
set_option maxHeartbeats 4000000 in
set_option maxRecDepth 100000 in
theorem c_X1_copy {g : gT} (l : Launch) (hok : gOK g)  {a0 : Nat} {a1 : Nat} {M : Mem} {z : Int32 × Mem}  (t0 : Ty g 1 a0) (t1 : Ty g 1 a1) (h : f_X1_copy  M a0 a1 = some z) : Cn g l yX1_copy uX1_copy 1 [.ref (gAd g a0), .ref (gAd g a1)] M none z.2 := by
  refine Cn.of (cc := cX1_copy) (maxL := 2) (ret := none) hok (by decide) rfl (Nat.le_of_ble_eq_true rfl) (fun p e s m args below meth c F hr hlk => ?_)
  unfold f_X1_copy at h
  show V g p l e ({ frames := 1, cells := 0, slots := 0, locals := 40 * 1 } : Room) s m args below meth c 2 0 0 (MQ below (gQ g none z.2) args s 0 0 (gA g)) 0 [(0, .ref (gAd g a0)), (1, .ref (gAd g a1))] [] M
  refine v_aload_n F dX1_copy_0 rfl 0 rfl ?_
  refine v_aload_n F dX1_copy_1 rfl 1 rfl ?_
  refine v_getI (k := 0) F t1 (by decide) (inc inU_1) rfl rfl (by decide) (List.mem_cons_of_mem _ fl_X1_52) rfl dX1_copy_2 ?_
  refine v_put (k := 0) (ty := .int) F t0 (by decide) (inc inU_1) tyX1 tyX1_ok nmX1 rfl rfl (by decide) (List.mem_cons_of_mem _ fl_X1_52) rfl rfl (by decide +kernel) rfl rfl dX1_copy_5 ?_
  refine v_aload_n F dX1_copy_8 rfl 0 rfl ?_
  refine v_aload_n F dX1_copy_9 rfl 1 rfl ?_
  refine v_getI (k := 1) F t1 (by decide) (inc inU_1) rfl rfl (by decide) (List.mem_cons_of_mem _ fl_X1_56) rfl dX1_copy_10 ?_
  refine v_put (k := 1) (ty := .int) F t0 (by decide) (inc inU_1) tyX1 tyX1_ok nmX1 rfl rfl (by decide) (List.mem_cons_of_mem _ fl_X1_56) rfl rfl (by decide +kernel) rfl rfl dX1_copy_13 ?_
  refine v_aload_n F dX1_copy_16 rfl 0 rfl ?_
  refine v_getR (k := 2) (f := 8) F t0 (by decide) (inc inU_1) rfl rfl (by decide) (by decide) (List.mem_cons_of_mem _ fl_X1_14) rfl dX1_copy_17 (fun u1 => ?_)
  refine v_aload_n F dX1_copy_20 rfl 1 rfl ?_
  refine v_getR (k := 2) (f := 8) F t1 (by decide) (inc inU_1) rfl rfl (by decide) (by decide) (List.mem_cons_of_mem _ fl_X1_14) rfl dX1_copy_21 (fun u2 => ?_)
  obtain ⟨⟨r3, M4⟩, hz5, h⟩ := bd_some h
  dsimp only at h
  refine v_callVv (As := [.ref (gAd g (gRf a1 2))]) (rest := []) F (c_X8_copy l F.2.2.1 u1 u2 hz5) (cwV 1 F.1.2.2.2.2 (gU_V ml_X1_65 im_yX8_copy se_yX8_copy ini_X8 cd_X8_copy) rfl rfl rfl (by decide +kernel) ⟨Nat.le_of_ble_eq_true rfl, Nat.le_of_ble_eq_true rfl⟩) u1 (by decide) rfl rfl rfl (Nat.le_of_ble_eq_true rfl) dX1_copy_24 ⟨Nat.le_of_ble_eq_true rfl, Nat.le_of_ble_eq_true rfl⟩ ?_
  refine v_aload_n F dX1_copy_27 rfl 0 rfl ?_
  refine v_getR (k := 3) (f := 8) F t0 (by decide) (inc inU_1) rfl rfl (by decide) (by decide) (List.mem_cons_of_mem _ fl_X1_20) rfl dX1_copy_28 (fun u7 => ?_)
  refine v_aload_n F dX1_copy_31 rfl 1 rfl ?_
  refine v_getR (k := 3) (f := 8) F t1 (by decide) (inc inU_1) rfl rfl (by decide) (by decide) (List.mem_cons_of_mem _ fl_X1_20) rfl dX1_copy_32 (fun u8 => ?_)
  obtain ⟨⟨r9, M10⟩, hz11, h⟩ := bd_some h
  dsimp only at h
  refine v_callVv (As := [.ref (gAd g (gRf a1 3))]) (rest := []) F (c_X8_copy l F.2.2.1 u7 u8 hz11) (cwV 1 F.1.2.2.2.2 (gU_V ml_X1_65 im_yX8_copy se_yX8_copy ini_X8 cd_X8_copy) rfl rfl rfl (by decide +kernel) ⟨Nat.le_of_ble_eq_true rfl, Nat.le_of_ble_eq_true rfl⟩) u7 (by decide) rfl rfl rfl (Nat.le_of_ble_eq_true rfl) dX1_copy_35 ⟨Nat.le_of_ble_eq_true rfl, Nat.le_of_ble_eq_true rfl⟩ ?_
  refine v_aload_n F dX1_copy_38 rfl 0 rfl ?_
  refine v_getR (k := 4) (f := 8) F t0 (by decide) (inc inU_1) rfl rfl (by decide) (by decide) (List.mem_cons_of_mem _ fl_X1_23) rfl dX1_copy_39 (fun u13 => ?_)
  refine v_aload_n F dX1_copy_42 rfl 1 rfl ?_
  refine v_getR (k := 4) (f := 8) F t1 (by decide) (inc inU_1) rfl rfl (by decide) (by decide) (List.mem_cons_of_mem _ fl_X1_23) rfl dX1_copy_43 (fun u14 => ?_)
  obtain ⟨⟨r15, M16⟩, hz17, h⟩ := bd_some h
  dsimp only at h
  refine v_callVv (As := [.ref (gAd g (gRf a1 4))]) (rest := []) F (c_X8_copy l F.2.2.1 u13 u14 hz17) (cwV 1 F.1.2.2.2.2 (gU_V ml_X1_65 im_yX8_copy se_yX8_copy ini_X8 cd_X8_copy) rfl rfl rfl (by decide +kernel) ⟨Nat.le_of_ble_eq_true rfl, Nat.le_of_ble_eq_true rfl⟩) u13 (by decide) rfl rfl rfl (Nat.le_of_ble_eq_true rfl) dX1_copy_46 ⟨Nat.le_of_ble_eq_true rfl, Nat.le_of_ble_eq_true rfl⟩ ?_
  refine v_aload_n F dX1_copy_49 rfl 0 rfl ?_
  refine v_getR (k := 5) (f := 8) F t0 (by decide) (inc inU_1) rfl rfl (by decide) (by decide) (List.mem_cons_of_mem _ fl_X1_26) rfl dX1_copy_50 (fun u19 => ?_)
  refine v_aload_n F dX1_copy_53 rfl 1 rfl ?_
  refine v_getR (k := 5) (f := 8) F t1 (by decide) (inc inU_1) rfl rfl (by decide) (by decide) (List.mem_cons_of_mem _ fl_X1_26) rfl dX1_copy_54 (fun u20 => ?_)
  obtain ⟨⟨r21, M22⟩, hz23, h⟩ := bd_some h
  dsimp only at h
  refine v_callVv (As := [.ref (gAd g (gRf a1 5))]) (rest := []) F (c_X8_copy l F.2.2.1 u19 u20 hz23) (cwV 1 F.1.2.2.2.2 (gU_V ml_X1_65 im_yX8_copy se_yX8_copy ini_X8 cd_X8_copy) rfl rfl rfl (by decide +kernel) ⟨Nat.le_of_ble_eq_true rfl, Nat.le_of_ble_eq_true rfl⟩) u19 (by decide) rfl rfl rfl (Nat.le_of_ble_eq_true rfl) dX1_copy_57 ⟨Nat.le_of_ble_eq_true rfl, Nat.le_of_ble_eq_true rfl⟩ ?_
  refine v_aload_n F dX1_copy_60 rfl 0 rfl ?_
  refine v_getR (k := 6) (f := 8) F t0 (by decide) (inc inU_1) rfl rfl (by decide) (by decide) (List.mem_cons_of_mem _ fl_X1_29) rfl dX1_copy_61 (fun u25 => ?_)
  refine v_aload_n F dX1_copy_64 rfl 1 rfl ?_
  refine v_getR (k := 6) (f := 8) F t1 (by decide) (inc inU_1) rfl rfl (by decide) (by decide) (List.mem_cons_of_mem _ fl_X1_29) rfl dX1_copy_65 (fun u26 => ?_)
  obtain ⟨⟨r27, M28⟩, hz29, h⟩ := bd_some h
  dsimp only at h
  refine v_callVv (As := [.ref (gAd g (gRf a1 6))]) (rest := []) F (c_X8_copy l F.2.2.1 u25 u26 hz29) (cwV 1 F.1.2.2.2.2 (gU_V ml_X1_65 im_yX8_copy se_yX8_copy ini_X8 cd_X8_copy) rfl rfl rfl (by decide +kernel) ⟨Nat.le_of_ble_eq_true rfl, Nat.le_of_ble_eq_true rfl⟩) u25 (by decide) rfl rfl rfl (Nat.le_of_ble_eq_true rfl) dX1_copy_68 ⟨Nat.le_of_ble_eq_true rfl, Nat.le_of_ble_eq_true rfl⟩ ?_
  refine v_aload_n F dX1_copy_71 rfl 0 rfl ?_
  refine v_getR (k := 7) (f := 8) F t0 (by decide) (inc inU_1) rfl rfl (by decide) (by decide) (List.mem_cons_of_mem _ fl_X1_32) rfl dX1_copy_72 (fun u31 => ?_)
  refine v_aload_n F dX1_copy_75 rfl 1 rfl ?_
  refine v_getR (k := 7) (f := 8) F t1 (by decide) (inc inU_1) rfl rfl (by decide) (by decide) (List.mem_cons_of_mem _ fl_X1_32) rfl dX1_copy_76 (fun u32 => ?_)
  obtain ⟨⟨r33, M34⟩, hz35, h⟩ := bd_some h
  dsimp only at h
  refine v_callVv (As := [.ref (gAd g (gRf a1 7))]) (rest := []) F (c_X8_copy l F.2.2.1 u31 u32 hz35) (cwV 1 F.1.2.2.2.2 (gU_V ml_X1_65 im_yX8_copy se_yX8_copy ini_X8 cd_X8_copy) rfl rfl rfl (by decide +kernel) ⟨Nat.le_of_ble_eq_true rfl, Nat.le_of_ble_eq_true rfl⟩) u31 (by decide) rfl rfl rfl (Nat.le_of_ble_eq_true rfl) dX1_copy_79 ⟨Nat.le_of_ble_eq_true rfl, Nat.le_of_ble_eq_true rfl⟩ ?_
  refine v_aload_n F dX1_copy_82 rfl 0 rfl ?_
  refine v_getR (k := 8) (f := 8) F t0 (by decide) (inc inU_1) rfl rfl (by decide) (by decide) (List.mem_cons_of_mem _ fl_X1_35) rfl dX1_copy_83 (fun u37 => ?_)
  refine v_aload_n F dX1_copy_86 rfl 1 rfl ?_
  refine v_getR (k := 8) (f := 8) F t1 (by decide) (inc inU_1) rfl rfl (by decide) (by decide) (List.mem_cons_of_mem _ fl_X1_35) rfl dX1_copy_87 (fun u38 => ?_)
  obtain ⟨⟨r39, M40⟩, hz41, h⟩ := bd_some h
  dsimp only at h
  refine v_callVv (As := [.ref (gAd g (gRf a1 8))]) (rest := []) F (c_X8_copy l F.2.2.1 u37 u38 hz41) (cwV 1 F.1.2.2.2.2 (gU_V ml_X1_65 im_yX8_copy se_yX8_copy ini_X8 cd_X8_copy) rfl rfl rfl (by decide +kernel) ⟨Nat.le_of_ble_eq_true rfl, Nat.le_of_ble_eq_true rfl⟩) u37 (by decide) rfl rfl rfl (Nat.le_of_ble_eq_true rfl) dX1_copy_90 ⟨Nat.le_of_ble_eq_true rfl, Nat.le_of_ble_eq_true rfl⟩ ?_
  cases h
  exact v_vret F hr hlk dX1_copy_93
def f_X1_takeShape_b65 (a0 : Nat) (i1 : Int32) (i2 : Int32) (i3 : Int32) (k24 : Nat → Int32 → Mem → Option (Int32 × Mem)) (s0 : Nat) (s1 : Int32) (s2 : Int32) (y4 : Nat) (x5 : Int32) (M : Mem) : Option (Int32 × Mem) := (f_X8_put M s0 s1 s2).bind fun q => match q with | (r11, M12) => (k24 y4 (x5 + 1) M12)
def f_X1_takeShape_h24 (a0 : Nat) (i1 : Int32) (i2 : Int32) (i3 : Int32)  : Nat → Nat → Int32 → Mem → Option (Int32 × Mem)
  | 0, _, _, _ => none
  | n + 1, y4, x5, M => if (M a0 0) ≤ x5 then (some (0, M)) else (if (if 1 < (M a0 0) then (M a0 0) else 1) = 0 then none else if (((x5 * i2) / (if 1 < (M a0 0) then (M a0 0) else 1)) - ((x5 * i2) / (if 1 < (M a0 0) then (M a0 0) else 1)) / 2 * 2) = 0 then (f_X1_takeShape_b65 a0 i1 i2 i3 (f_X1_takeShape_h24 a0 i1 i2 i3 n) y4 x5 i3 y4 x5 M) else (f_X1_takeShape_b65 a0 i1 i2 i3 (f_X1_takeShape_h24 a0 i1 i2 i3 n) y4 x5 (-i3) y4 x5 M))
def f_X1_takeShape_b19 (a0 : Nat) (i1 : Int32) (i2 : Int32) (i3 : Int32)  (s0 : Nat) (M : Mem) : Option (Int32 × Mem) := f_X1_takeShape_h24 a0 i1 i2 i3 FU s0 0 M
def f_X1_takeShape  (M : Mem) (a0 : Nat) (i1 : Int32) (i2 : Int32) (i3 : Int32) : Option (Int32 × Mem) := (f_X1_still M a0).bind fun q => match q with | (r1, M2) => (if i1 = 0 then (f_X1_takeShape_b19 a0 i1 i2 i3 (gRf a0 3) M2) else (f_X1_takeShape_b19 a0 i1 i2 i3 (gRf a0 4) M2))
set_option maxHeartbeats 4000000 in
set_option maxRecDepth 100000 in
theorem w_X1_takeShape_b65 {g : gT} {p : Program} {l : Launch} {e : Env} {s : State} {m : MethodId} {args : Array Value} {below : List Frame} {meth : Method} {c : Code} {z : Int32 × Mem} (F : Fx g p s m args c cX1_takeShape 7 uX1_takeShape RX1) (hr : meth.sig.returnType = none) (hlk : meth.locks = false)  {a0 : Nat} {i1 : Int32} {i2 : Int32} {i3 : Int32} (t0 : Ty g 1 a0) {k24 : Nat → Int32 → Mem → Option (Int32 × Mem)} (hk24 : ∀ (y4 : Nat) (x5 : Int32) (M : Mem), Ty g 8 y4 → k24 y4 x5 M = some z → V g p l e ({ frames := 2, cells := 0, slots := 0, locals := 40 * 2 } : Room) s m args below meth c 7 0 0 (MQ below (gQ g none z.2) args s 0 0 (gA g)) 24 [(0, .ref (gAd g a0)), (1, .int i1), (2, .int i2), (3, .int i3), (4, .ref (gAd g y4)), (5, .int x5)] [] M) (s0 : Nat) (s1 : Int32) (s2 : Int32) (y4 : Nat) (x5 : Int32) (M : Mem) (ts0 : Ty g 8 s0) (ty4 : Ty g 8 y4) (h : f_X1_takeShape_b65 a0 i1 i2 i3 k24 s0 s1 s2 y4 x5 M = some z) : V g p l e ({ frames := 2, cells := 0, slots := 0, locals := 40 * 2 } : Room) s m args below meth c 7 0 0 (MQ below (gQ g none z.2) args s 0 0 (gA g)) 65 [(0, .ref (gAd g a0)), (1, .int i1), (2, .int i2), (3, .int i3), (4, .ref (gAd g y4)), (5, .int x5)] [.int s2, .int s1, .ref (gAd g s0)] M := by
  unfold f_X1_takeShape_b65 at h
  obtain ⟨⟨r11, M12⟩, hz13, h⟩ := bd_some h
  dsimp only at h
  refine v_callVv (As := [.int s1, .int s2]) (rest := []) F (c_X8_put l F.2.2.1 ts0 hz13) (cwV 2 F.1.2.2.2.2 (gU_V ml_X1_45 im_yX8_put se_yX8_put ini_X8 cd_X8_put) rfl rfl rfl (by decide +kernel) ⟨Nat.le_of_ble_eq_true rfl, Nat.le_of_ble_eq_true rfl⟩) ts0 (by decide) rfl rfl rfl (Nat.le_of_ble_eq_true rfl) dX1_takeShape_65 ⟨Nat.le_of_ble_eq_true rfl, Nat.le_of_ble_eq_true rfl⟩ ?_
  refine v_iinc (v := x5 + 1) (lv' := [(5, .int (x5 + 1)), (0, .ref (gAd g a0)), (1, .int i1), (2, .int i2), (3, .int i3), (4, .ref (gAd g y4))]) F dX1_takeShape_68 (q := 5) rfl rfl (by decide) rfl ?_
  refine v_goto (tgt := 24) F dX1_takeShape_71 (by decide) ?_
  refine v_sub (fun ls h9 => lv_sub h9 [1, 2, 3, 4, 5, 0] rfl) ?_
  exact hk24 _ _ _ ty4 h
set_option maxHeartbeats 4000000 in
set_option maxRecDepth 100000 in
theorem w_X1_takeShape_h24 {g : gT} {p : Program} {l : Launch} {e : Env} {s : State} {m : MethodId} {args : Array Value} {below : List Frame} {meth : Method} {c : Code} {z : Int32 × Mem} (F : Fx g p s m args c cX1_takeShape 7 uX1_takeShape RX1) (hr : meth.sig.returnType = none) (hlk : meth.locks = false)  {a0 : Nat} {i1 : Int32} {i2 : Int32} {i3 : Int32} (t0 : Ty g 1 a0)   : ∀ (n : Nat) (y4 : Nat) (x5 : Int32) (M : Mem), Ty g 8 y4 → f_X1_takeShape_h24 a0 i1 i2 i3 n y4 x5 M = some z → V g p l e ({ frames := 2, cells := 0, slots := 0, locals := 40 * 2 } : Room) s m args below meth c 7 0 0 (MQ below (gQ g none z.2) args s 0 0 (gA g)) 24 [(0, .ref (gAd g a0)), (1, .int i1), (2, .int i2), (3, .int i3), (4, .ref (gAd g y4)), (5, .int x5)] [] M := by
  intro n
  induction n with
  | zero => intro y4 x5 M; intros; rename_i h; cases h
  | succ n ih =>
    intro y4 x5 M ty4 h
    rw [f_X1_takeShape_h24] at h
    refine v_iload F dX1_takeShape_24 5 rfl ?_
    refine v_aload_n F dX1_takeShape_26 rfl 0 rfl ?_
    refine v_getI (k := 0) F t0 (by decide) (inc inU_1) rfl rfl (by decide) (List.mem_cons_of_mem _ fl_X1_52) rfl dX1_takeShape_27 ?_
    refine v_icmp_ge (tgt := 74) F dX1_takeShape_30 (by decide) (fun hc8 => ?_) (fun hc8 => ?_)
    · rw [if_pos hc8] at h
      cases h
      exact v_vret F hr hlk dX1_takeShape_74
    · rw [if_neg hc8] at h
      refine v_iload F dX1_takeShape_33 5 rfl ?_
      refine v_iload_n F dX1_takeShape_35 rfl 2 rfl ?_
      refine v_imul F dX1_takeShape_36 ?_
      refine v_iconst (v := 1) F dX1_takeShape_37 (by decide) ?_
      refine v_aload_n F dX1_takeShape_38 rfl 0 rfl ?_
      refine v_getI (k := 0) F t0 (by decide) (inc inU_1) rfl rfl (by decide) (List.mem_cons_of_mem _ fl_X1_52) rfl dX1_takeShape_39 ?_
      refine v_mmax F (List.mem_cons_of_mem _ ml_X1_77) (List.mem_cons_of_mem _ st_mmax) (List.mem_cons_of_mem _ ini_Math) (List.mem_cons_of_mem _ cd_mmax) dX1_takeShape_42 ⟨Nat.le_of_ble_eq_true rfl, Nat.le_of_ble_eq_true rfl, Nat.le_of_ble_eq_true rfl, Nat.le_of_ble_eq_true rfl⟩ (Nat.le_of_ble_eq_true rfl) ?_
      by_cases hz9 : (if 1 < (M a0 0) then (M a0 0) else 1) = 0
      · rw [if_pos hz9] at h; cases h
      rw [if_neg hz9] at h
      refine v_idiv F dX1_takeShape_45 hz9 ?_
      refine v_istore (lv' := [(6, .int ((x5 * i2) / (if 1 < (M a0 0) then (M a0 0) else 1))), (0, .ref (gAd g a0)), (1, .int i1), (2, .int i2), (3, .int i3), (4, .ref (gAd g y4)), (5, .int x5)]) F dX1_takeShape_46 (by decide) rfl ?_
      refine v_aload F dX1_takeShape_48 5 rfl ?_
      refine v_iload F dX1_takeShape_50 6 rfl ?_
      refine v_iload F dX1_takeShape_52 0 rfl ?_
      refine v_iconst (v := 2) F dX1_takeShape_54 (by decide) ?_
      refine v_irem F dX1_takeShape_55 (by decide) ?_
      refine v_if_ne (tgt := 63) F dX1_takeShape_56 (by decide) (fun hc10 => ?_) (fun hc10 => ?_)
      · rw [if_neg hc10] at h
        refine v_iload_n F dX1_takeShape_63 rfl 4 rfl ?_
        refine v_ineg F dX1_takeShape_64 ?_
        refine v_sub (fun ls h9 => lv_sub h9 [1, 2, 3, 4, 5, 6] rfl) ?_
        exact w_X1_takeShape_b65 F hr hlk t0 ih _ _ _ _ _ _ ty4 ty4 h
      · rw [if_pos hc10] at h
        refine v_iload_n F dX1_takeShape_59 rfl 4 rfl ?_
        refine v_goto (tgt := 65) F dX1_takeShape_60 (by decide) ?_
        refine v_sub (fun ls h9 => lv_sub h9 [1, 2, 3, 4, 5, 6] rfl) ?_
        exact w_X1_takeShape_b65 F hr hlk t0 ih _ _ _ _ _ _ ty4 ty4 h
set_option maxHeartbeats 4000000 in
set_option maxRecDepth 100000 in
theorem w_X1_takeShape_b19 {g : gT} {p : Program} {l : Launch} {e : Env} {s : State} {m : MethodId} {args : Array Value} {below : List Frame} {meth : Method} {c : Code} {z : Int32 × Mem} (F : Fx g p s m args c cX1_takeShape 7 uX1_takeShape RX1) (hr : meth.sig.returnType = none) (hlk : meth.locks = false)  {a0 : Nat} {i1 : Int32} {i2 : Int32} {i3 : Int32} (t0 : Ty g 1 a0)   (s0 : Nat) (M : Mem) (ts0 : Ty g 8 s0) (h : f_X1_takeShape_b19 a0 i1 i2 i3 s0 M = some z) : V g p l e ({ frames := 2, cells := 0, slots := 0, locals := 40 * 2 } : Room) s m args below meth c 7 0 0 (MQ below (gQ g none z.2) args s 0 0 (gA g)) 19 [(0, .ref (gAd g a0)), (1, .int i1), (2, .int i2), (3, .int i3)] [.ref (gAd g s0)] M := by
  unfold f_X1_takeShape_b19 at h
  refine v_astore (lv' := [(4, .ref (gAd g s0)), (0, .ref (gAd g a0)), (1, .int i1), (2, .int i2), (3, .int i3)]) F dX1_takeShape_19 (by decide) rfl ?_
  refine v_iconst (v := 0) F dX1_takeShape_21 (by decide) ?_
  refine v_istore (lv' := [(5, .int 0), (4, .ref (gAd g s0)), (0, .ref (gAd g a0)), (1, .int i1), (2, .int i2), (3, .int i3)]) F dX1_takeShape_22 (by decide) rfl ?_
  refine v_sub (fun ls h9 => lv_sub h9 [2, 3, 4, 5, 1, 0] rfl) ?_
  exact w_X1_takeShape_h24 F hr hlk t0 _ _ _ _ ts0 h
set_option maxHeartbeats 4000000 in
set_option maxRecDepth 100000 in
theorem c_X1_takeShape {g : gT} (l : Launch) (hok : gOK g)  {a0 : Nat} {i1 : Int32} {i2 : Int32} {i3 : Int32} {M : Mem} {z : Int32 × Mem}  (t0 : Ty g 1 a0) (h : f_X1_takeShape  M a0 i1 i2 i3 = some z) : Cn g l yX1_takeShape uX1_takeShape 2 [.ref (gAd g a0), .int i1, .int i2, .int i3] M none z.2 := by
  refine Cn.of (cc := cX1_takeShape) (maxL := 7) (ret := none) hok (by decide) rfl (Nat.le_of_ble_eq_true rfl) (fun p e s m args below meth c F hr hlk => ?_)
  unfold f_X1_takeShape at h
  show V g p l e ({ frames := 2, cells := 0, slots := 0, locals := 40 * 2 } : Room) s m args below meth c 7 0 0 (MQ below (gQ g none z.2) args s 0 0 (gA g)) 0 [(0, .ref (gAd g a0)), (1, .int i1), (2, .int i2), (3, .int i3)] [] M
  refine v_aload_n F dX1_takeShape_0 rfl 0 rfl ?_
  obtain ⟨⟨r1, M2⟩, hz3, h⟩ := bd_some h
  dsimp only at h
  refine v_callVv (As := []) (rest := []) F (c_X1_still l F.2.2.1 t0 hz3) (cwV 0 F.1.2.2.2.2 (gU_V ml_X1_59 im_yX1_still se_yX1_still ini_X1 cd_X1_still) rfl rfl rfl (by decide +kernel) ⟨Nat.le_of_ble_eq_true rfl, Nat.le_of_ble_eq_true rfl⟩) t0 (by decide) rfl rfl rfl (Nat.le_of_ble_eq_true rfl) dX1_takeShape_1 ⟨Nat.le_of_ble_eq_true rfl, Nat.le_of_ble_eq_true rfl⟩ ?_
  refine v_iload_n F dX1_takeShape_4 rfl 1 rfl ?_
  refine v_if_ne (tgt := 15) F dX1_takeShape_5 (by decide) (fun hc5 => ?_) (fun hc5 => ?_)
  · rw [if_neg hc5] at h
    refine v_aload_n F dX1_takeShape_15 rfl 0 rfl ?_
    refine v_getR (k := 4) (f := 8) F t0 (by decide) (inc inU_1) rfl rfl (by decide) (by decide) (List.mem_cons_of_mem _ fl_X1_23) rfl dX1_takeShape_16 (fun u6 => ?_)
    exact w_X1_takeShape_b19 F hr hlk t0 _ _ u6 h
  · rw [if_pos hc5] at h
    refine v_aload_n F dX1_takeShape_8 rfl 0 rfl ?_
    refine v_getR (k := 3) (f := 8) F t0 (by decide) (inc inU_1) rfl rfl (by decide) (by decide) (List.mem_cons_of_mem _ fl_X1_20) rfl dX1_takeShape_9 (fun u7 => ?_)
    refine v_goto (tgt := 19) F dX1_takeShape_12 (by decide) ?_
    exact w_X1_takeShape_b19 F hr hlk t0 _ _ u7 h
def f_X1_begin_b35 (a0 : Nat) (i1 : Int32) (i2 : Int32) (i3 : Int32) (k3 : Int32 → Mem → Option (Int32 × Mem)) (x4 : Int32) (M : Mem) : Option (Int32 × Mem) := k3 (x4 + 1) M
def f_X1_begin_h3 (a0 : Nat) (i1 : Int32) (i2 : Int32) (i3 : Int32)  : Nat → Int32 → Mem → Option (Int32 × Mem)
  | 0, _, _ => none
  | n + 1, x4, M => if (M a0 0) ≤ x4 then ((f_X8_fill M (gRf a0 8) 0).bind fun q => match q with | (r3, M4) => ((f_X1_takeShape (mU M4 a0 1 0) a0 i1 i2 i3).bind fun q => match q with | (r7, M8) => (some (0, M8)))) else ((f_X8_at M (gRf a0 7) x4).bind fun q => match q with | (r12, M13) => (if r12 = 1 then ((f_X8_put M13 (gRf a0 7) x4 2).bind fun q => match q with | (r18, M19) => (f_X1_begin_b35 a0 i1 i2 i3 (f_X1_begin_h3 a0 i1 i2 i3 n) x4 M19)) else (f_X1_begin_b35 a0 i1 i2 i3 (f_X1_begin_h3 a0 i1 i2 i3 n) x4 M13)))
def f_X1_begin  (M : Mem) (a0 : Nat) (i1 : Int32) (i2 : Int32) (i3 : Int32) : Option (Int32 × Mem) := f_X1_begin_h3 a0 i1 i2 i3 FU 0 M
set_option maxHeartbeats 4000000 in
set_option maxRecDepth 100000 in
theorem w_X1_begin_b35 {g : gT} {p : Program} {l : Launch} {e : Env} {s : State} {m : MethodId} {args : Array Value} {below : List Frame} {meth : Method} {c : Code} {z : Int32 × Mem} (F : Fx g p s m args c cX1_begin 5 uX1_begin RX1) (hr : meth.sig.returnType = none) (hlk : meth.locks = false)  {a0 : Nat} {i1 : Int32} {i2 : Int32} {i3 : Int32} (t0 : Ty g 1 a0) {k3 : Int32 → Mem → Option (Int32 × Mem)} (hk3 : ∀ (x4 : Int32) (M : Mem), k3 x4 M = some z → V g p l e ({ frames := 3, cells := 0, slots := 0, locals := 40 * 3 } : Room) s m args below meth c 5 0 0 (MQ below (gQ g none z.2) args s 0 0 (gA g)) 3 [(0, .ref (gAd g a0)), (1, .int i1), (2, .int i2), (3, .int i3), (4, .int x4)] [] M) (x4 : Int32) (M : Mem)  (h : f_X1_begin_b35 a0 i1 i2 i3 k3 x4 M = some z) : V g p l e ({ frames := 3, cells := 0, slots := 0, locals := 40 * 3 } : Room) s m args below meth c 5 0 0 (MQ below (gQ g none z.2) args s 0 0 (gA g)) 35 [(0, .ref (gAd g a0)), (1, .int i1), (2, .int i2), (3, .int i3), (4, .int x4)] [] M := by
  unfold f_X1_begin_b35 at h
  refine v_iinc (v := x4 + 1) (lv' := [(4, .int (x4 + 1)), (0, .ref (gAd g a0)), (1, .int i1), (2, .int i2), (3, .int i3)]) F dX1_begin_35 (q := 4) rfl rfl (by decide) rfl ?_
  refine v_goto (tgt := 3) F dX1_begin_38 (by decide) ?_
  refine v_sub (fun ls h9 => lv_sub h9 [1, 2, 3, 4, 0] rfl) ?_
  exact hk3 _ _ h
set_option maxHeartbeats 4000000 in
set_option maxRecDepth 100000 in
theorem w_X1_begin_h3 {g : gT} {p : Program} {l : Launch} {e : Env} {s : State} {m : MethodId} {args : Array Value} {below : List Frame} {meth : Method} {c : Code} {z : Int32 × Mem} (F : Fx g p s m args c cX1_begin 5 uX1_begin RX1) (hr : meth.sig.returnType = none) (hlk : meth.locks = false)  {a0 : Nat} {i1 : Int32} {i2 : Int32} {i3 : Int32} (t0 : Ty g 1 a0)   : ∀ (n : Nat) (x4 : Int32) (M : Mem), f_X1_begin_h3 a0 i1 i2 i3 n x4 M = some z → V g p l e ({ frames := 3, cells := 0, slots := 0, locals := 40 * 3 } : Room) s m args below meth c 5 0 0 (MQ below (gQ g none z.2) args s 0 0 (gA g)) 3 [(0, .ref (gAd g a0)), (1, .int i1), (2, .int i2), (3, .int i3), (4, .int x4)] [] M := by
  intro n
  induction n with
  | zero => intro x4 M; intros; rename_i h; cases h
  | succ n ih =>
    intro x4 M h
    rw [f_X1_begin_h3] at h
    refine v_iload F dX1_begin_3 4 rfl ?_
    refine v_aload_n F dX1_begin_5 rfl 0 rfl ?_
    refine v_getI (k := 0) F t0 (by decide) (inc inU_1) rfl rfl (by decide) (List.mem_cons_of_mem _ fl_X1_52) rfl dX1_begin_6 ?_
    refine v_icmp_ge (tgt := 41) F dX1_begin_9 (by decide) (fun hc1 => ?_) (fun hc1 => ?_)
    · rw [if_pos hc1] at h
      refine v_aload_n F dX1_begin_41 rfl 0 rfl ?_
      refine v_getR (k := 8) (f := 8) F t0 (by decide) (inc inU_1) rfl rfl (by decide) (by decide) (List.mem_cons_of_mem _ fl_X1_35) rfl dX1_begin_42 (fun u2 => ?_)
      refine v_iconst (v := 0) F dX1_begin_45 (by decide) ?_
      obtain ⟨⟨r3, M4⟩, hz5, h⟩ := bd_some h
      dsimp only at h
      refine v_callVv (As := [.int 0]) (rest := []) F (c_X8_fill l F.2.2.1 u2 hz5) (cwV 1 F.1.2.2.2.2 (gU_V ml_X1_62 im_yX8_fill se_yX8_fill ini_X8 cd_X8_fill) rfl rfl rfl (by decide +kernel) ⟨Nat.le_of_ble_eq_true rfl, Nat.le_of_ble_eq_true rfl⟩) u2 (by decide) rfl rfl rfl (Nat.le_of_ble_eq_true rfl) dX1_begin_46 ⟨Nat.le_of_ble_eq_true rfl, Nat.le_of_ble_eq_true rfl⟩ ?_
      refine v_aload_n F dX1_begin_49 rfl 0 rfl ?_
      refine v_iconst (v := 0) F dX1_begin_50 (by decide) ?_
      refine v_put (k := 1) (ty := .int) F t0 (by decide) (inc inU_1) tyX1 tyX1_ok nmX1 rfl rfl (by decide) (List.mem_cons_of_mem _ fl_X1_56) rfl rfl (by decide +kernel) rfl rfl dX1_begin_51 ?_
      refine v_aload_n F dX1_begin_54 rfl 0 rfl ?_
      refine v_iload_n F dX1_begin_55 rfl 1 rfl ?_
      refine v_iload_n F dX1_begin_56 rfl 2 rfl ?_
      refine v_iload_n F dX1_begin_57 rfl 3 rfl ?_
      obtain ⟨⟨r7, M8⟩, hz9, h⟩ := bd_some h
      dsimp only at h
      refine v_callVv (As := [.int i1, .int i2, .int i3]) (rest := []) F (c_X1_takeShape l F.2.2.1 t0 hz9) (cwV 3 F.1.2.2.2.2 (gU_V ml_X1_73 im_yX1_takeShape se_yX1_takeShape ini_X1 cd_X1_takeShape) rfl rfl rfl (by decide +kernel) ⟨Nat.le_of_ble_eq_true rfl, Nat.le_of_ble_eq_true rfl⟩) t0 (by decide) rfl rfl rfl (Nat.le_of_ble_eq_true rfl) dX1_begin_58 ⟨Nat.le_of_ble_eq_true rfl, Nat.le_of_ble_eq_true rfl⟩ ?_
      cases h
      exact v_vret F hr hlk dX1_begin_61
    · rw [if_neg hc1] at h
      refine v_aload_n F dX1_begin_12 rfl 0 rfl ?_
      refine v_getR (k := 7) (f := 8) F t0 (by decide) (inc inU_1) rfl rfl (by decide) (by decide) (List.mem_cons_of_mem _ fl_X1_32) rfl dX1_begin_13 (fun u11 => ?_)
      refine v_iload F dX1_begin_16 4 rfl ?_
      obtain ⟨⟨r12, M13⟩, hz14, h⟩ := bd_some h
      dsimp only at h
      refine v_callVi (As := [.int x4]) (rest := []) F (c_X8_at l F.2.2.1 u11 hz14) (cwV 1 F.1.2.2.2.2 (gU_V ml_X1_69 im_yX8_at se_yX8_at ini_X8 cd_X8_at) rfl rfl rfl (by decide +kernel) ⟨Nat.le_of_ble_eq_true rfl, Nat.le_of_ble_eq_true rfl⟩) u11 (by decide) rfl rfl rfl (Nat.le_of_ble_eq_true rfl) dX1_begin_18 ⟨Nat.le_of_ble_eq_true rfl, Nat.le_of_ble_eq_true rfl⟩ ?_
      refine v_iconst (v := 1) F dX1_begin_21 (by decide) ?_
      refine v_icmp_ne (tgt := 35) F dX1_begin_22 (by decide) (fun hc16 => ?_) (fun hc16 => ?_)
      · rw [if_neg hc16] at h
        exact w_X1_begin_b35 F hr hlk t0 ih _ _ h
      · rw [if_pos hc16] at h
        refine v_aload_n F dX1_begin_25 rfl 0 rfl ?_
        refine v_getR (k := 7) (f := 8) F t0 (by decide) (inc inU_1) rfl rfl (by decide) (by decide) (List.mem_cons_of_mem _ fl_X1_32) rfl dX1_begin_26 (fun u17 => ?_)
        refine v_iload F dX1_begin_29 4 rfl ?_
        refine v_iconst (v := 2) F dX1_begin_31 (by decide) ?_
        obtain ⟨⟨r18, M19⟩, hz20, h⟩ := bd_some h
        dsimp only at h
        refine v_callVv (As := [.int x4, .int 2]) (rest := []) F (c_X8_put l F.2.2.1 u17 hz20) (cwV 2 F.1.2.2.2.2 (gU_V ml_X1_45 im_yX8_put se_yX8_put ini_X8 cd_X8_put) rfl rfl rfl (by decide +kernel) ⟨Nat.le_of_ble_eq_true rfl, Nat.le_of_ble_eq_true rfl⟩) u17 (by decide) rfl rfl rfl (Nat.le_of_ble_eq_true rfl) dX1_begin_32 ⟨Nat.le_of_ble_eq_true rfl, Nat.le_of_ble_eq_true rfl⟩ ?_
        exact w_X1_begin_b35 F hr hlk t0 ih _ _ h
set_option maxHeartbeats 4000000 in
set_option maxRecDepth 100000 in
theorem c_X1_begin {g : gT} (l : Launch) (hok : gOK g)  {a0 : Nat} {i1 : Int32} {i2 : Int32} {i3 : Int32} {M : Mem} {z : Int32 × Mem}  (t0 : Ty g 1 a0) (h : f_X1_begin  M a0 i1 i2 i3 = some z) : Cn g l yX1_begin uX1_begin 3 [.ref (gAd g a0), .int i1, .int i2, .int i3] M none z.2 := by
  refine Cn.of (cc := cX1_begin) (maxL := 5) (ret := none) hok (by decide) rfl (Nat.le_of_ble_eq_true rfl) (fun p e s m args below meth c F hr hlk => ?_)
  unfold f_X1_begin at h
  show V g p l e ({ frames := 3, cells := 0, slots := 0, locals := 40 * 3 } : Room) s m args below meth c 5 0 0 (MQ below (gQ g none z.2) args s 0 0 (gA g)) 0 [(0, .ref (gAd g a0)), (1, .int i1), (2, .int i2), (3, .int i3)] [] M
  refine v_iconst (v := 0) F dX1_begin_0 (by decide) ?_
  refine v_istore (lv' := [(4, .int 0), (0, .ref (gAd g a0)), (1, .int i1), (2, .int i2), (3, .int i3)]) F dX1_begin_1 (by decide) rfl ?_
  refine v_sub (fun ls h9 => lv_sub h9 [1, 2, 3, 4, 0] rfl) ?_
  exact w_X1_begin_h3 F hr hlk t0 _ _ _ h
def f_X1_dropStays  (M : Mem) (a0 : Nat) : Option (Int32 × Mem) := (f_X8_fill M (gRf a0 7) 0).bind fun q => match q with | (r2, M3) => (some (0, M3))
set_option maxHeartbeats 4000000 in
set_option maxRecDepth 100000 in
theorem c_X1_dropStays {g : gT} (l : Launch) (hok : gOK g)  {a0 : Nat} {M : Mem} {z : Int32 × Mem}  (t0 : Ty g 1 a0) (h : f_X1_dropStays  M a0 = some z) : Cn g l yX1_dropStays uX1_dropStays 1 [.ref (gAd g a0)] M none z.2 := by
  refine Cn.of (cc := cX1_dropStays) (maxL := 1) (ret := none) hok (by decide) rfl (Nat.le_of_ble_eq_true rfl) (fun p e s m args below meth c F hr hlk => ?_)
  unfold f_X1_dropStays at h
  show V g p l e ({ frames := 1, cells := 0, slots := 0, locals := 40 * 1 } : Room) s m args below meth c 1 0 0 (MQ below (gQ g none z.2) args s 0 0 (gA g)) 0 [(0, .ref (gAd g a0))] [] M
  refine v_aload_n F dX1_dropStays_0 rfl 0 rfl ?_
  refine v_getR (k := 7) (f := 8) F t0 (by decide) (inc inU_1) rfl rfl (by decide) (by decide) (List.mem_cons_of_mem _ fl_X1_32) rfl dX1_dropStays_1 (fun u1 => ?_)
  refine v_iconst (v := 0) F dX1_dropStays_4 (by decide) ?_
  obtain ⟨⟨r2, M3⟩, hz4, h⟩ := bd_some h
  dsimp only at h
  refine v_callVv (As := [.int 0]) (rest := []) F (c_X8_fill l F.2.2.1 u1 hz4) (cwV 1 F.1.2.2.2.2 (gU_V ml_X1_62 im_yX8_fill se_yX8_fill ini_X8 cd_X8_fill) rfl rfl rfl (by decide +kernel) ⟨Nat.le_of_ble_eq_true rfl, Nat.le_of_ble_eq_true rfl⟩) u1 (by decide) rfl rfl rfl (Nat.le_of_ble_eq_true rfl) dX1_dropStays_5 ⟨Nat.le_of_ble_eq_true rfl, Nat.le_of_ble_eq_true rfl⟩ ?_
  cases h
  exact v_vret F hr hlk dX1_dropStays_8
def f_X1_size_h21 (a0 : Nat) (i1 : Int32)  : Nat → Nat → Int32 → Int32 → Mem → Option (Int32 × Mem)
  | 0, _, _, _, _ => none
  | n + 1, y2, x3, x4, M => if (M a0 0) ≤ x4 then (some (x3, M)) else ((f_X8_at M y2 x4).bind fun q => match q with | (r5, M6) => ((f_X1_size_h21 a0 i1 n) y2 (if x3 < (if 0 ≤ r5 then r5 else 0 - r5) then (if 0 ≤ r5 then r5 else 0 - r5) else x3) (x4 + 1) M6))
def f_X1_size_b15 (a0 : Nat) (i1 : Int32)  (s0 : Nat) (M : Mem) : Option (Int32 × Mem) := f_X1_size_h21 a0 i1 FU s0 0 0 M
def f_X1_size  (M : Mem) (a0 : Nat) (i1 : Int32) : Option (Int32 × Mem) := if i1 = 0 then (f_X1_size_b15 a0 i1 (gRf a0 3) M) else (f_X1_size_b15 a0 i1 (gRf a0 4) M)
set_option maxHeartbeats 4000000 in
set_option maxRecDepth 100000 in
theorem w_X1_size_h21 {g : gT} {p : Program} {l : Launch} {e : Env} {s : State} {m : MethodId} {args : Array Value} {below : List Frame} {meth : Method} {c : Code} {z : Int32 × Mem} (F : Fx g p s m args c cX1_size 5 uX1_size RX1) (hr : meth.sig.returnType = (some .int)) (hlk : meth.locks = false)  {a0 : Nat} {i1 : Int32} (t0 : Ty g 1 a0)   : ∀ (n : Nat) (y2 : Nat) (x3 : Int32) (x4 : Int32) (M : Mem), Ty g 8 y2 → f_X1_size_h21 a0 i1 n y2 x3 x4 M = some z → V g p l e ({ frames := 1, cells := 0, slots := 0, locals := 40 * 1 } : Room) s m args below meth c 5 0 0 (MQ below (gQ g (some (.int z.1)) z.2) args s 0 0 (gA g)) 21 [(0, .ref (gAd g a0)), (1, .int i1), (2, .ref (gAd g y2)), (3, .int x3), (4, .int x4)] [] M := by
  intro n
  induction n with
  | zero => intro y2 x3 x4 M; intros; rename_i h; cases h
  | succ n ih =>
    intro y2 x3 x4 M ty2 h
    rw [f_X1_size_h21] at h
    refine v_iload F dX1_size_21 4 rfl ?_
    refine v_aload_n F dX1_size_23 rfl 0 rfl ?_
    refine v_getI (k := 0) F t0 (by decide) (inc inU_1) rfl rfl (by decide) (List.mem_cons_of_mem _ fl_X1_52) rfl dX1_size_24 ?_
    refine v_icmp_ge (tgt := 50) F dX1_size_27 (by decide) (fun hc4 => ?_) (fun hc4 => ?_)
    · rw [if_pos hc4] at h
      refine v_iload_n F dX1_size_50 rfl 3 rfl ?_
      cases h
      exact v_iret F hr rfl hlk dX1_size_51
    · rw [if_neg hc4] at h
      refine v_iload_n F dX1_size_30 rfl 3 rfl ?_
      refine v_aload_n F dX1_size_31 rfl 2 rfl ?_
      refine v_iload F dX1_size_32 4 rfl ?_
      obtain ⟨⟨r5, M6⟩, hz7, h⟩ := bd_some h
      dsimp only at h
      refine v_callVi (As := [.int x4]) (rest := [.int x3]) F (c_X8_at l F.2.2.1 ty2 hz7) (cwV 1 F.1.2.2.2.2 (gU_V ml_X1_69 im_yX8_at se_yX8_at ini_X8 cd_X8_at) rfl rfl rfl (by decide +kernel) ⟨Nat.le_of_ble_eq_true rfl, Nat.le_of_ble_eq_true rfl⟩) ty2 (by decide) rfl rfl rfl (Nat.le_of_ble_eq_true rfl) dX1_size_34 ⟨Nat.le_of_ble_eq_true rfl, Nat.le_of_ble_eq_true rfl⟩ ?_
      refine v_mabs F (List.mem_cons_of_mem _ ml_X1_83) (List.mem_cons_of_mem _ st_mabs) (List.mem_cons_of_mem _ ini_Math) (List.mem_cons_of_mem _ cd_mabs) dX1_size_37 ⟨Nat.le_of_ble_eq_true rfl, Nat.le_of_ble_eq_true rfl, Nat.le_of_ble_eq_true rfl, Nat.le_of_ble_eq_true rfl⟩ (Nat.le_of_ble_eq_true rfl) ?_
      refine v_mmax F (List.mem_cons_of_mem _ ml_X1_77) (List.mem_cons_of_mem _ st_mmax) (List.mem_cons_of_mem _ ini_Math) (List.mem_cons_of_mem _ cd_mmax) dX1_size_40 ⟨Nat.le_of_ble_eq_true rfl, Nat.le_of_ble_eq_true rfl, Nat.le_of_ble_eq_true rfl, Nat.le_of_ble_eq_true rfl⟩ (Nat.le_of_ble_eq_true rfl) ?_
      refine v_istore_n (lv' := [(3, .int (if x3 < (if 0 ≤ r5 then r5 else 0 - r5) then (if 0 ≤ r5 then r5 else 0 - r5) else x3)), (0, .ref (gAd g a0)), (1, .int i1), (2, .ref (gAd g y2)), (4, .int x4)]) F dX1_size_43 rfl (by decide) rfl ?_
      refine v_iinc (v := x4 + 1) (lv' := [(4, .int (x4 + 1)), (3, .int (if x3 < (if 0 ≤ r5 then r5 else 0 - r5) then (if 0 ≤ r5 then r5 else 0 - r5) else x3)), (0, .ref (gAd g a0)), (1, .int i1), (2, .ref (gAd g y2))]) F dX1_size_44 (q := 4) rfl rfl (by decide) rfl ?_
      refine v_goto (tgt := 21) F dX1_size_47 (by decide) ?_
      refine v_sub (fun ls h9 => lv_sub h9 [2, 3, 4, 1, 0] rfl) ?_
      exact ih _ _ _ _ ty2 h
set_option maxHeartbeats 4000000 in
set_option maxRecDepth 100000 in
theorem w_X1_size_b15 {g : gT} {p : Program} {l : Launch} {e : Env} {s : State} {m : MethodId} {args : Array Value} {below : List Frame} {meth : Method} {c : Code} {z : Int32 × Mem} (F : Fx g p s m args c cX1_size 5 uX1_size RX1) (hr : meth.sig.returnType = (some .int)) (hlk : meth.locks = false)  {a0 : Nat} {i1 : Int32} (t0 : Ty g 1 a0)   (s0 : Nat) (M : Mem) (ts0 : Ty g 8 s0) (h : f_X1_size_b15 a0 i1 s0 M = some z) : V g p l e ({ frames := 1, cells := 0, slots := 0, locals := 40 * 1 } : Room) s m args below meth c 5 0 0 (MQ below (gQ g (some (.int z.1)) z.2) args s 0 0 (gA g)) 15 [(0, .ref (gAd g a0)), (1, .int i1)] [.ref (gAd g s0)] M := by
  unfold f_X1_size_b15 at h
  refine v_astore_n (lv' := [(2, .ref (gAd g s0)), (0, .ref (gAd g a0)), (1, .int i1)]) F dX1_size_15 rfl (by decide) rfl ?_
  refine v_iconst (v := 0) F dX1_size_16 (by decide) ?_
  refine v_istore_n (lv' := [(3, .int 0), (2, .ref (gAd g s0)), (0, .ref (gAd g a0)), (1, .int i1)]) F dX1_size_17 rfl (by decide) rfl ?_
  refine v_iconst (v := 0) F dX1_size_18 (by decide) ?_
  refine v_istore (lv' := [(4, .int 0), (3, .int 0), (2, .ref (gAd g s0)), (0, .ref (gAd g a0)), (1, .int i1)]) F dX1_size_19 (by decide) rfl ?_
  refine v_sub (fun ls h9 => lv_sub h9 [3, 4, 2, 1, 0] rfl) ?_
  exact w_X1_size_h21 F hr hlk t0 _ _ _ _ _ ts0 h
set_option maxHeartbeats 4000000 in
set_option maxRecDepth 100000 in
theorem c_X1_size {g : gT} (l : Launch) (hok : gOK g)  {a0 : Nat} {i1 : Int32} {M : Mem} {z : Int32 × Mem}  (t0 : Ty g 1 a0) (h : f_X1_size  M a0 i1 = some z) : Cn g l yX1_size uX1_size 1 [.ref (gAd g a0), .int i1] M (some (.int z.1)) z.2 := by
  refine Cn.of (cc := cX1_size) (maxL := 5) (ret := (some .int)) hok (by decide) rfl (Nat.le_of_ble_eq_true rfl) (fun p e s m args below meth c F hr hlk => ?_)
  unfold f_X1_size at h
  show V g p l e ({ frames := 1, cells := 0, slots := 0, locals := 40 * 1 } : Room) s m args below meth c 5 0 0 (MQ below (gQ g (some (.int z.1)) z.2) args s 0 0 (gA g)) 0 [(0, .ref (gAd g a0)), (1, .int i1)] [] M
  refine v_iload_n F dX1_size_0 rfl 1 rfl ?_
  refine v_if_ne (tgt := 11) F dX1_size_1 (by decide) (fun hc1 => ?_) (fun hc1 => ?_)
  · rw [if_neg hc1] at h
    refine v_aload_n F dX1_size_11 rfl 0 rfl ?_
    refine v_getR (k := 4) (f := 8) F t0 (by decide) (inc inU_1) rfl rfl (by decide) (by decide) (List.mem_cons_of_mem _ fl_X1_23) rfl dX1_size_12 (fun u2 => ?_)
    exact w_X1_size_b15 F hr hlk t0 _ _ u2 h
  · rw [if_pos hc1] at h
    refine v_aload_n F dX1_size_4 rfl 0 rfl ?_
    refine v_getR (k := 3) (f := 8) F t0 (by decide) (inc inU_1) rfl rfl (by decide) (by decide) (List.mem_cons_of_mem _ fl_X1_20) rfl dX1_size_5 (fun u3 => ?_)
    refine v_goto (tgt := 15) F dX1_size_8 (by decide) ?_
    exact w_X1_size_b15 F hr hlk t0 _ _ u3 h
def f_X10_bounded  (M : Mem) (i0 : Int32) (i1 : Int32) (i2 : Int32) : Option (Int32 × Mem) := some (if i1 < (if i0 < i2 then i0 else i2) then (if i0 < i2 then i0 else i2) else i1, M)
set_option maxHeartbeats 4000000 in
set_option maxRecDepth 100000 in
theorem c_X10_bounded {g : gT} (l : Launch) (hok : gOK g)  {i0 : Int32} {i1 : Int32} {i2 : Int32} {M : Mem} {z : Int32 × Mem}   (h : f_X10_bounded  M i0 i1 i2 = some z) : Cn g l yX10_bounded uX10_bounded 1 [.int i0, .int i1, .int i2] M (some (.int z.1)) z.2 := by
  refine Cn.of (cc := cX10_bounded) (maxL := 3) (ret := (some .int)) hok (by decide) rfl (Nat.le_of_ble_eq_true rfl) (fun p e s m args below meth c F hr hlk => ?_)
  unfold f_X10_bounded at h
  show V g p l e ({ frames := 1, cells := 0, slots := 0, locals := 40 * 1 } : Room) s m args below meth c 3 0 0 (MQ below (gQ g (some (.int z.1)) z.2) args s 0 0 (gA g)) 0 [(0, .int i0), (1, .int i1), (2, .int i2)] [] M
  refine v_iload_n F dX10_bounded_0 rfl 1 rfl ?_
  refine v_iload_n F dX10_bounded_1 rfl 2 rfl ?_
  refine v_iload_n F dX10_bounded_2 rfl 0 rfl ?_
  refine v_mmin F (List.mem_cons_of_mem _ ml_X10_324) (List.mem_cons_of_mem _ st_mmin) (List.mem_cons_of_mem _ ini_Math) (List.mem_cons_of_mem _ cd_mmin) dX10_bounded_3 ⟨Nat.le_of_ble_eq_true rfl, Nat.le_of_ble_eq_true rfl, Nat.le_of_ble_eq_true rfl, Nat.le_of_ble_eq_true rfl⟩ (Nat.le_of_ble_eq_true rfl) ?_
  refine v_mmax F (List.mem_cons_of_mem _ ml_X10_256) (List.mem_cons_of_mem _ st_mmax) (List.mem_cons_of_mem _ ini_Math) (List.mem_cons_of_mem _ cd_mmax) dX10_bounded_6 ⟨Nat.le_of_ble_eq_true rfl, Nat.le_of_ble_eq_true rfl, Nat.le_of_ble_eq_true rfl, Nat.le_of_ble_eq_true rfl⟩ (Nat.le_of_ble_eq_true rfl) ?_
  cases h
  exact v_iret F hr rfl hlk dX10_bounded_9
def f_X10_leastOf  (M : Mem) (i0 : Int32) : Option (Int32 × Mem) := if i0 < 0 then (some (0, M)) else (if 10 ≤ i0 then (some (0, M)) else (if ¬ (i0 < 0 ∨ 10 ≤ i0.toNatClampNeg) then (some (nbL i0.toNatClampNeg, M)) else none))
set_option maxHeartbeats 4000000 in
set_option maxRecDepth 100000 in
theorem c_X10_leastOf {g : gT} (l : Launch) (hok : gOK g)  {i0 : Int32} {M : Mem} {z : Int32 × Mem}   (h : f_X10_leastOf  M i0 = some z) : Cn g l yX10_leastOf uX10_leastOf 0 [.int i0] M (some (.int z.1)) z.2 := by
  refine Cn.of (cc := cX10_leastOf) (maxL := 1) (ret := (some .int)) hok (by decide) rfl (Nat.le_of_ble_eq_true rfl) (fun p e s m args below meth c F hr hlk => ?_)
  unfold f_X10_leastOf at h
  show V g p l e ({ frames := 0, cells := 0, slots := 0, locals := 40 * 0 } : Room) s m args below meth c 1 0 0 (MQ below (gQ g (some (.int z.1)) z.2) args s 0 0 (gA g)) 0 [(0, .int i0)] [] M
  refine v_iload_n F dX10_leastOf_0 rfl 0 rfl ?_
  refine v_if_lt (tgt := 20) F dX10_leastOf_1 (by decide) (fun hc1 => ?_) (fun hc1 => ?_)
  · rw [if_pos hc1] at h
    refine v_iconst (v := 0) F dX10_leastOf_20 (by decide) ?_
    cases h
    exact v_iret F hr rfl hlk dX10_leastOf_21
  · rw [if_neg hc1] at h
    refine v_iload_n F dX10_leastOf_4 rfl 0 rfl ?_
    refine v_gets F F.2.2.2.2.2.2.2.1 (List.mem_cons_of_mem _ fl_X10_327) dX10_leastOf_5 ?_
    refine v_stlen F F.2.2.2.2.2.2.2.1 dX10_leastOf_8 ?_
    refine v_icmp_ge (tgt := 20) F dX10_leastOf_9 (by decide) (fun hc2 => ?_) (fun hc2 => ?_)
    · rw [if_pos hc2] at h
      refine v_iconst (v := 0) F dX10_leastOf_20 (by decide) ?_
      cases h
      exact v_iret F hr rfl hlk dX10_leastOf_21
    · rw [if_neg hc2] at h
      refine v_gets F F.2.2.2.2.2.2.2.1 (List.mem_cons_of_mem _ fl_X10_327) dX10_leastOf_12 ?_
      refine v_iload_n F dX10_leastOf_15 rfl 0 rfl ?_
      obtain ⟨hin3, h⟩ := gd_some h
      refine v_stld F F.2.2.2.2.2.2.2.1 hin3 dX10_leastOf_16 ?_
      refine v_goto (tgt := 21) F dX10_leastOf_17 (by decide) ?_
      cases h
      exact v_iret F hr rfl hlk dX10_leastOf_21
def f_X10_mostOf  (M : Mem) (i0 : Int32) : Option (Int32 × Mem) := if i0 < 0 then (some (0, M)) else (if 10 ≤ i0 then (some (0, M)) else (if ¬ (i0 < 0 ∨ 10 ≤ i0.toNatClampNeg) then (some (nbM i0.toNatClampNeg, M)) else none))
set_option maxHeartbeats 4000000 in
set_option maxRecDepth 100000 in
theorem c_X10_mostOf {g : gT} (l : Launch) (hok : gOK g)  {i0 : Int32} {M : Mem} {z : Int32 × Mem}   (h : f_X10_mostOf  M i0 = some z) : Cn g l yX10_mostOf uX10_mostOf 0 [.int i0] M (some (.int z.1)) z.2 := by
  refine Cn.of (cc := cX10_mostOf) (maxL := 1) (ret := (some .int)) hok (by decide) rfl (Nat.le_of_ble_eq_true rfl) (fun p e s m args below meth c F hr hlk => ?_)
  unfold f_X10_mostOf at h
  show V g p l e ({ frames := 0, cells := 0, slots := 0, locals := 40 * 0 } : Room) s m args below meth c 1 0 0 (MQ below (gQ g (some (.int z.1)) z.2) args s 0 0 (gA g)) 0 [(0, .int i0)] [] M
  refine v_iload_n F dX10_mostOf_0 rfl 0 rfl ?_
  refine v_if_lt (tgt := 20) F dX10_mostOf_1 (by decide) (fun hc1 => ?_) (fun hc1 => ?_)
  · rw [if_pos hc1] at h
    refine v_iconst (v := 0) F dX10_mostOf_20 (by decide) ?_
    cases h
    exact v_iret F hr rfl hlk dX10_mostOf_21
  · rw [if_neg hc1] at h
    refine v_iload_n F dX10_mostOf_4 rfl 0 rfl ?_
    refine v_gets F F.2.2.2.2.2.2.2.2.1 (List.mem_cons_of_mem _ fl_X10_331) dX10_mostOf_5 ?_
    refine v_stlen F F.2.2.2.2.2.2.2.2.1 dX10_mostOf_8 ?_
    refine v_icmp_ge (tgt := 20) F dX10_mostOf_9 (by decide) (fun hc2 => ?_) (fun hc2 => ?_)
    · rw [if_pos hc2] at h
      refine v_iconst (v := 0) F dX10_mostOf_20 (by decide) ?_
      cases h
      exact v_iret F hr rfl hlk dX10_mostOf_21
    · rw [if_neg hc2] at h
      refine v_gets F F.2.2.2.2.2.2.2.2.1 (List.mem_cons_of_mem _ fl_X10_331) dX10_mostOf_12 ?_
      refine v_iload_n F dX10_mostOf_15 rfl 0 rfl ?_
      obtain ⟨hin3, h⟩ := gd_some h
      refine v_stld F F.2.2.2.2.2.2.2.2.1 hin3 dX10_mostOf_16 ?_
      refine v_goto (tgt := 21) F dX10_mostOf_17 (by decide) ?_
      cases h
      exact v_iret F hr rfl hlk dX10_mostOf_21
def f_X1_change  (M : Mem) (a0 : Nat) (i1 : Int32) (i2 : Int32) : Option (Int32 × Mem) := (f_X8_at M (gRf a0 2) i1).bind fun q => match q with | (r3, M4) => ((f_X10_leastOf M4 i1).bind fun q => match q with | (r7, M8) => ((f_X10_mostOf M8 i1).bind fun q => match q with | (r11, M12) => ((f_X10_bounded M12 (r3 + i2) r7 r11).bind fun q => match q with | (r15, M16) => ((f_X8_put M16 (gRf a0 2) i1 r15).bind fun q => match q with | (r19, M20) => (some (0, M20))))))
set_option maxHeartbeats 4000000 in
set_option maxRecDepth 100000 in
theorem c_X1_change {g : gT} (l : Launch) (hok : gOK g)  {a0 : Nat} {i1 : Int32} {i2 : Int32} {M : Mem} {z : Int32 × Mem}  (t0 : Ty g 1 a0) (h : f_X1_change  M a0 i1 i2 = some z) : Cn g l yX1_change uX1_change 2 [.ref (gAd g a0), .int i1, .int i2] M none z.2 := by
  refine Cn.of (cc := cX1_change) (maxL := 3) (ret := none) hok (by decide) rfl (Nat.le_of_ble_eq_true rfl) (fun p e s m args below meth c F hr hlk => ?_)
  unfold f_X1_change at h
  show V g p l e ({ frames := 2, cells := 0, slots := 0, locals := 40 * 2 } : Room) s m args below meth c 3 0 0 (MQ below (gQ g none z.2) args s 0 0 (gA g)) 0 [(0, .ref (gAd g a0)), (1, .int i1), (2, .int i2)] [] M
  refine v_aload_n F dX1_change_0 rfl 0 rfl ?_
  refine v_getR (k := 2) (f := 8) F t0 (by decide) (inc inU_1) rfl rfl (by decide) (by decide) (List.mem_cons_of_mem _ fl_X1_14) rfl dX1_change_1 (fun u1 => ?_)
  refine v_iload_n F dX1_change_4 rfl 1 rfl ?_
  refine v_aload_n F dX1_change_5 rfl 0 rfl ?_
  refine v_getR (k := 2) (f := 8) F t0 (by decide) (inc inU_1) rfl rfl (by decide) (by decide) (List.mem_cons_of_mem _ fl_X1_14) rfl dX1_change_6 (fun u2 => ?_)
  refine v_iload_n F dX1_change_9 rfl 1 rfl ?_
  obtain ⟨⟨r3, M4⟩, hz5, h⟩ := bd_some h
  dsimp only at h
  refine v_callVi (As := [.int i1]) (rest := [.int i1, .ref (gAd g (gRf a0 2))]) F (c_X8_at l F.2.2.1 u2 hz5) (cwV 1 F.1.2.2.2.2 (gU_V ml_X1_69 im_yX8_at se_yX8_at ini_X8 cd_X8_at) rfl rfl rfl (by decide +kernel) ⟨Nat.le_of_ble_eq_true rfl, Nat.le_of_ble_eq_true rfl⟩) u2 (by decide) rfl rfl rfl (Nat.le_of_ble_eq_true rfl) dX1_change_10 ⟨Nat.le_of_ble_eq_true rfl, Nat.le_of_ble_eq_true rfl⟩ ?_
  refine v_iload_n F dX1_change_13 rfl 2 rfl ?_
  refine v_iadd F dX1_change_14 ?_
  refine v_iload_n F dX1_change_15 rfl 1 rfl ?_
  obtain ⟨⟨r7, M8⟩, hz9, h⟩ := bd_some h
  dsimp only at h
  refine v_callSNi (As := [.int i1]) (rest := [.int (r3 + i2), .int i1, .ref (gAd g (gRf a0 2))]) F (c_X10_leastOf l F.2.2.1  hz9) ⟨va_cnB (host := RX10) 1 F.1.2.2.2.2 (gU_0 cd_X10_leastOf) rfl rfl rfl (F.2.2.2.2.1 _ (by decide +kernel)) (F.1.2.2.2.2 _ (List.mem_cons_of_mem _ ini_X10)) (by decide +kernel) ⟨Nat.le_of_ble_eq_true rfl, Nat.le_of_ble_eq_true rfl⟩, F.1.2.2.2.2 _ (List.mem_cons_of_mem _ st_yX10_leastOf), trivial⟩ rfl rfl (Nat.le_of_ble_eq_true rfl) dX1_change_16 ⟨Nat.le_of_ble_eq_true rfl, Nat.le_of_ble_eq_true rfl⟩ ?_
  refine v_iload_n F dX1_change_19 rfl 1 rfl ?_
  obtain ⟨⟨r11, M12⟩, hz13, h⟩ := bd_some h
  dsimp only at h
  refine v_callSNi (As := [.int i1]) (rest := [.int r7, .int (r3 + i2), .int i1, .ref (gAd g (gRf a0 2))]) F (c_X10_mostOf l F.2.2.1  hz13) ⟨va_cnB (host := RX10) 1 F.1.2.2.2.2 (gU_0 cd_X10_mostOf) rfl rfl rfl (F.2.2.2.2.1 _ (by decide +kernel)) (F.1.2.2.2.2 _ (List.mem_cons_of_mem _ ini_X10)) (by decide +kernel) ⟨Nat.le_of_ble_eq_true rfl, Nat.le_of_ble_eq_true rfl⟩, F.1.2.2.2.2 _ (List.mem_cons_of_mem _ st_yX10_mostOf), trivial⟩ rfl rfl (Nat.le_of_ble_eq_true rfl) dX1_change_20 ⟨Nat.le_of_ble_eq_true rfl, Nat.le_of_ble_eq_true rfl⟩ ?_
  obtain ⟨⟨r15, M16⟩, hz17, h⟩ := bd_some h
  dsimp only at h
  refine v_callSNi (As := [.int (r3 + i2), .int r7, .int r11]) (rest := [.int i1, .ref (gAd g (gRf a0 2))]) F (c_X10_bounded l F.2.2.1  hz17) ⟨va_cnB (host := RX10) 3 F.1.2.2.2.2 (gU_0 cd_X10_bounded) rfl rfl rfl (F.2.2.2.2.1 _ (by decide +kernel)) (F.1.2.2.2.2 _ (List.mem_cons_of_mem _ ini_X10)) (by decide +kernel) ⟨Nat.le_of_ble_eq_true rfl, Nat.le_of_ble_eq_true rfl⟩, F.1.2.2.2.2 _ (List.mem_cons_of_mem _ st_yX10_bounded), trivial⟩ rfl rfl (Nat.le_of_ble_eq_true rfl) dX1_change_23 ⟨Nat.le_of_ble_eq_true rfl, Nat.le_of_ble_eq_true rfl⟩ ?_
  obtain ⟨⟨r19, M20⟩, hz21, h⟩ := bd_some h
  dsimp only at h
  refine v_callVv (As := [.int i1, .int r15]) (rest := []) F (c_X8_put l F.2.2.1 u1 hz21) (cwV 2 F.1.2.2.2.2 (gU_V ml_X1_45 im_yX8_put se_yX8_put ini_X8 cd_X8_put) rfl rfl rfl (by decide +kernel) ⟨Nat.le_of_ble_eq_true rfl, Nat.le_of_ble_eq_true rfl⟩) u1 (by decide) rfl rfl rfl (Nat.le_of_ble_eq_true rfl) dX1_change_26 ⟨Nat.le_of_ble_eq_true rfl, Nat.le_of_ble_eq_true rfl⟩ ?_
  cases h
  exact v_vret F hr hlk dX1_change_29
def f_X1_namesOf  (M : Mem) (a0 : Nat) (i1 : Int32) (i2 : Int32) : Option (Nat × Mem) := (f_X8_put M (gRf a0 9) 0 i2).bind fun q => match q with | (r2, M3) => ((f_X8_put M3 (gRf a0 9) 1 (M3 a0 1)).bind fun q => match q with | (r7, M8) => ((f_X8_at M8 (gRf a0 3) i1).bind fun q => match q with | (r13, M14) => ((f_X8_put M14 (gRf a0 9) 2 r13).bind fun q => match q with | (r17, M18) => ((f_X8_at M18 (gRf a0 4) i1).bind fun q => match q with | (r23, M24) => ((f_X8_put M24 (gRf a0 9) 3 r23).bind fun q => match q with | (r27, M28) => ((f_X8_at M28 (gRf a0 5) i1).bind fun q => match q with | (r33, M34) => ((f_X8_put M34 (gRf a0 9) 4 r33).bind fun q => match q with | (r37, M38) => ((f_X8_at M38 (gRf a0 6) i1).bind fun q => match q with | (r43, M44) => ((f_X8_put M44 (gRf a0 9) 5 r43).bind fun q => match q with | (r47, M48) => ((f_X8_at M48 (gRf a0 2) 5).bind fun q => match q with | (r53, M54) => ((f_X8_put M54 (gRf a0 9) 6 r53).bind fun q => match q with | (r57, M58) => ((f_X8_at M58 (gRf a0 2) 6).bind fun q => match q with | (r63, M64) => ((f_X8_put M64 (gRf a0 9) 7 r63).bind fun q => match q with | (r67, M68) => ((f_X8_put M68 (gRf a0 9) 8 i1).bind fun q => match q with | (r72, M73) => (some (gRf a0 9, M73))))))))))))))))
set_option maxHeartbeats 4000000 in
set_option maxRecDepth 100000 in
theorem c_X1_namesOf {g : gT} (l : Launch) (hok : gOK g)  {a0 : Nat} {i1 : Int32} {i2 : Int32} {M : Mem} {z : Nat × Mem}  (t0 : Ty g 1 a0) (h : f_X1_namesOf  M a0 i1 i2 = some z) : Cn g l yX1_namesOf uX1_namesOf 1 [.ref (gAd g a0), .int i1, .int i2] M (some (.ref (gAd g z.1))) z.2 := by
  refine Cn.of (cc := cX1_namesOf) (maxL := 3) (ret := (some (.object "GallopRoads$Row"))) hok (by decide) rfl (Nat.le_of_ble_eq_true rfl) (fun p e s m args below meth c F hr hlk => ?_)
  unfold f_X1_namesOf at h
  show V g p l e ({ frames := 1, cells := 0, slots := 0, locals := 40 * 1 } : Room) s m args below meth c 3 0 0 (MQ below (gQ g (some (.ref (gAd g z.1))) z.2) args s 0 0 (gA g)) 0 [(0, .ref (gAd g a0)), (1, .int i1), (2, .int i2)] [] M
  refine v_aload_n F dX1_namesOf_0 rfl 0 rfl ?_
  refine v_getR (k := 9) (f := 8) F t0 (by decide) (inc inU_1) rfl rfl (by decide) (by decide) (List.mem_cons_of_mem _ fl_X1_38) rfl dX1_namesOf_1 (fun u1 => ?_)
  refine v_iconst (v := 0) F dX1_namesOf_4 (by decide) ?_
  refine v_iload_n F dX1_namesOf_5 rfl 2 rfl ?_
  obtain ⟨⟨r2, M3⟩, hz4, h⟩ := bd_some h
  dsimp only at h
  refine v_callVv (As := [.int 0, .int i2]) (rest := []) F (c_X8_put l F.2.2.1 u1 hz4) (cwV 2 F.1.2.2.2.2 (gU_V ml_X1_45 im_yX8_put se_yX8_put ini_X8 cd_X8_put) rfl rfl rfl (by decide +kernel) ⟨Nat.le_of_ble_eq_true rfl, Nat.le_of_ble_eq_true rfl⟩) u1 (by decide) rfl rfl rfl (Nat.le_of_ble_eq_true rfl) dX1_namesOf_6 ⟨Nat.le_of_ble_eq_true rfl, Nat.le_of_ble_eq_true rfl⟩ ?_
  refine v_aload_n F dX1_namesOf_9 rfl 0 rfl ?_
  refine v_getR (k := 9) (f := 8) F t0 (by decide) (inc inU_1) rfl rfl (by decide) (by decide) (List.mem_cons_of_mem _ fl_X1_38) rfl dX1_namesOf_10 (fun u6 => ?_)
  refine v_iconst (v := 1) F dX1_namesOf_13 (by decide) ?_
  refine v_aload_n F dX1_namesOf_14 rfl 0 rfl ?_
  refine v_getI (k := 1) F t0 (by decide) (inc inU_1) rfl rfl (by decide) (List.mem_cons_of_mem _ fl_X1_56) rfl dX1_namesOf_15 ?_
  obtain ⟨⟨r7, M8⟩, hz9, h⟩ := bd_some h
  dsimp only at h
  refine v_callVv (As := [.int 1, .int (M3 a0 1)]) (rest := []) F (c_X8_put l F.2.2.1 u6 hz9) (cwV 2 F.1.2.2.2.2 (gU_V ml_X1_45 im_yX8_put se_yX8_put ini_X8 cd_X8_put) rfl rfl rfl (by decide +kernel) ⟨Nat.le_of_ble_eq_true rfl, Nat.le_of_ble_eq_true rfl⟩) u6 (by decide) rfl rfl rfl (Nat.le_of_ble_eq_true rfl) dX1_namesOf_18 ⟨Nat.le_of_ble_eq_true rfl, Nat.le_of_ble_eq_true rfl⟩ ?_
  refine v_aload_n F dX1_namesOf_21 rfl 0 rfl ?_
  refine v_getR (k := 9) (f := 8) F t0 (by decide) (inc inU_1) rfl rfl (by decide) (by decide) (List.mem_cons_of_mem _ fl_X1_38) rfl dX1_namesOf_22 (fun u11 => ?_)
  refine v_iconst (v := 2) F dX1_namesOf_25 (by decide) ?_
  refine v_aload_n F dX1_namesOf_26 rfl 0 rfl ?_
  refine v_getR (k := 3) (f := 8) F t0 (by decide) (inc inU_1) rfl rfl (by decide) (by decide) (List.mem_cons_of_mem _ fl_X1_20) rfl dX1_namesOf_27 (fun u12 => ?_)
  refine v_iload_n F dX1_namesOf_30 rfl 1 rfl ?_
  obtain ⟨⟨r13, M14⟩, hz15, h⟩ := bd_some h
  dsimp only at h
  refine v_callVi (As := [.int i1]) (rest := [.int 2, .ref (gAd g (gRf a0 9))]) F (c_X8_at l F.2.2.1 u12 hz15) (cwV 1 F.1.2.2.2.2 (gU_V ml_X1_69 im_yX8_at se_yX8_at ini_X8 cd_X8_at) rfl rfl rfl (by decide +kernel) ⟨Nat.le_of_ble_eq_true rfl, Nat.le_of_ble_eq_true rfl⟩) u12 (by decide) rfl rfl rfl (Nat.le_of_ble_eq_true rfl) dX1_namesOf_31 ⟨Nat.le_of_ble_eq_true rfl, Nat.le_of_ble_eq_true rfl⟩ ?_
  obtain ⟨⟨r17, M18⟩, hz19, h⟩ := bd_some h
  dsimp only at h
  refine v_callVv (As := [.int 2, .int r13]) (rest := []) F (c_X8_put l F.2.2.1 u11 hz19) (cwV 2 F.1.2.2.2.2 (gU_V ml_X1_45 im_yX8_put se_yX8_put ini_X8 cd_X8_put) rfl rfl rfl (by decide +kernel) ⟨Nat.le_of_ble_eq_true rfl, Nat.le_of_ble_eq_true rfl⟩) u11 (by decide) rfl rfl rfl (Nat.le_of_ble_eq_true rfl) dX1_namesOf_34 ⟨Nat.le_of_ble_eq_true rfl, Nat.le_of_ble_eq_true rfl⟩ ?_
  refine v_aload_n F dX1_namesOf_37 rfl 0 rfl ?_
  refine v_getR (k := 9) (f := 8) F t0 (by decide) (inc inU_1) rfl rfl (by decide) (by decide) (List.mem_cons_of_mem _ fl_X1_38) rfl dX1_namesOf_38 (fun u21 => ?_)
  refine v_iconst (v := 3) F dX1_namesOf_41 (by decide) ?_
  refine v_aload_n F dX1_namesOf_42 rfl 0 rfl ?_
  refine v_getR (k := 4) (f := 8) F t0 (by decide) (inc inU_1) rfl rfl (by decide) (by decide) (List.mem_cons_of_mem _ fl_X1_23) rfl dX1_namesOf_43 (fun u22 => ?_)
  refine v_iload_n F dX1_namesOf_46 rfl 1 rfl ?_
  obtain ⟨⟨r23, M24⟩, hz25, h⟩ := bd_some h
  dsimp only at h
  refine v_callVi (As := [.int i1]) (rest := [.int 3, .ref (gAd g (gRf a0 9))]) F (c_X8_at l F.2.2.1 u22 hz25) (cwV 1 F.1.2.2.2.2 (gU_V ml_X1_69 im_yX8_at se_yX8_at ini_X8 cd_X8_at) rfl rfl rfl (by decide +kernel) ⟨Nat.le_of_ble_eq_true rfl, Nat.le_of_ble_eq_true rfl⟩) u22 (by decide) rfl rfl rfl (Nat.le_of_ble_eq_true rfl) dX1_namesOf_47 ⟨Nat.le_of_ble_eq_true rfl, Nat.le_of_ble_eq_true rfl⟩ ?_
  obtain ⟨⟨r27, M28⟩, hz29, h⟩ := bd_some h
  dsimp only at h
  refine v_callVv (As := [.int 3, .int r23]) (rest := []) F (c_X8_put l F.2.2.1 u21 hz29) (cwV 2 F.1.2.2.2.2 (gU_V ml_X1_45 im_yX8_put se_yX8_put ini_X8 cd_X8_put) rfl rfl rfl (by decide +kernel) ⟨Nat.le_of_ble_eq_true rfl, Nat.le_of_ble_eq_true rfl⟩) u21 (by decide) rfl rfl rfl (Nat.le_of_ble_eq_true rfl) dX1_namesOf_50 ⟨Nat.le_of_ble_eq_true rfl, Nat.le_of_ble_eq_true rfl⟩ ?_
  refine v_aload_n F dX1_namesOf_53 rfl 0 rfl ?_
  refine v_getR (k := 9) (f := 8) F t0 (by decide) (inc inU_1) rfl rfl (by decide) (by decide) (List.mem_cons_of_mem _ fl_X1_38) rfl dX1_namesOf_54 (fun u31 => ?_)
  refine v_iconst (v := 4) F dX1_namesOf_57 (by decide) ?_
  refine v_aload_n F dX1_namesOf_58 rfl 0 rfl ?_
  refine v_getR (k := 5) (f := 8) F t0 (by decide) (inc inU_1) rfl rfl (by decide) (by decide) (List.mem_cons_of_mem _ fl_X1_26) rfl dX1_namesOf_59 (fun u32 => ?_)
  refine v_iload_n F dX1_namesOf_62 rfl 1 rfl ?_
  obtain ⟨⟨r33, M34⟩, hz35, h⟩ := bd_some h
  dsimp only at h
  refine v_callVi (As := [.int i1]) (rest := [.int 4, .ref (gAd g (gRf a0 9))]) F (c_X8_at l F.2.2.1 u32 hz35) (cwV 1 F.1.2.2.2.2 (gU_V ml_X1_69 im_yX8_at se_yX8_at ini_X8 cd_X8_at) rfl rfl rfl (by decide +kernel) ⟨Nat.le_of_ble_eq_true rfl, Nat.le_of_ble_eq_true rfl⟩) u32 (by decide) rfl rfl rfl (Nat.le_of_ble_eq_true rfl) dX1_namesOf_63 ⟨Nat.le_of_ble_eq_true rfl, Nat.le_of_ble_eq_true rfl⟩ ?_
  obtain ⟨⟨r37, M38⟩, hz39, h⟩ := bd_some h
  dsimp only at h
  refine v_callVv (As := [.int 4, .int r33]) (rest := []) F (c_X8_put l F.2.2.1 u31 hz39) (cwV 2 F.1.2.2.2.2 (gU_V ml_X1_45 im_yX8_put se_yX8_put ini_X8 cd_X8_put) rfl rfl rfl (by decide +kernel) ⟨Nat.le_of_ble_eq_true rfl, Nat.le_of_ble_eq_true rfl⟩) u31 (by decide) rfl rfl rfl (Nat.le_of_ble_eq_true rfl) dX1_namesOf_66 ⟨Nat.le_of_ble_eq_true rfl, Nat.le_of_ble_eq_true rfl⟩ ?_
  refine v_aload_n F dX1_namesOf_69 rfl 0 rfl ?_
  refine v_getR (k := 9) (f := 8) F t0 (by decide) (inc inU_1) rfl rfl (by decide) (by decide) (List.mem_cons_of_mem _ fl_X1_38) rfl dX1_namesOf_70 (fun u41 => ?_)
  refine v_iconst (v := 5) F dX1_namesOf_73 (by decide) ?_
  refine v_aload_n F dX1_namesOf_74 rfl 0 rfl ?_
  refine v_getR (k := 6) (f := 8) F t0 (by decide) (inc inU_1) rfl rfl (by decide) (by decide) (List.mem_cons_of_mem _ fl_X1_29) rfl dX1_namesOf_75 (fun u42 => ?_)
  refine v_iload_n F dX1_namesOf_78 rfl 1 rfl ?_
  obtain ⟨⟨r43, M44⟩, hz45, h⟩ := bd_some h
  dsimp only at h
  refine v_callVi (As := [.int i1]) (rest := [.int 5, .ref (gAd g (gRf a0 9))]) F (c_X8_at l F.2.2.1 u42 hz45) (cwV 1 F.1.2.2.2.2 (gU_V ml_X1_69 im_yX8_at se_yX8_at ini_X8 cd_X8_at) rfl rfl rfl (by decide +kernel) ⟨Nat.le_of_ble_eq_true rfl, Nat.le_of_ble_eq_true rfl⟩) u42 (by decide) rfl rfl rfl (Nat.le_of_ble_eq_true rfl) dX1_namesOf_79 ⟨Nat.le_of_ble_eq_true rfl, Nat.le_of_ble_eq_true rfl⟩ ?_
  obtain ⟨⟨r47, M48⟩, hz49, h⟩ := bd_some h
  dsimp only at h
  refine v_callVv (As := [.int 5, .int r43]) (rest := []) F (c_X8_put l F.2.2.1 u41 hz49) (cwV 2 F.1.2.2.2.2 (gU_V ml_X1_45 im_yX8_put se_yX8_put ini_X8 cd_X8_put) rfl rfl rfl (by decide +kernel) ⟨Nat.le_of_ble_eq_true rfl, Nat.le_of_ble_eq_true rfl⟩) u41 (by decide) rfl rfl rfl (Nat.le_of_ble_eq_true rfl) dX1_namesOf_82 ⟨Nat.le_of_ble_eq_true rfl, Nat.le_of_ble_eq_true rfl⟩ ?_
  refine v_aload_n F dX1_namesOf_85 rfl 0 rfl ?_
  refine v_getR (k := 9) (f := 8) F t0 (by decide) (inc inU_1) rfl rfl (by decide) (by decide) (List.mem_cons_of_mem _ fl_X1_38) rfl dX1_namesOf_86 (fun u51 => ?_)
  refine v_bipush (v := 6) F dX1_namesOf_89 (by decide) ?_
  refine v_aload_n F dX1_namesOf_91 rfl 0 rfl ?_
  refine v_getR (k := 2) (f := 8) F t0 (by decide) (inc inU_1) rfl rfl (by decide) (by decide) (List.mem_cons_of_mem _ fl_X1_14) rfl dX1_namesOf_92 (fun u52 => ?_)
  refine v_iconst (v := 5) F dX1_namesOf_95 (by decide) ?_
  obtain ⟨⟨r53, M54⟩, hz55, h⟩ := bd_some h
  dsimp only at h
  refine v_callVi (As := [.int 5]) (rest := [.int 6, .ref (gAd g (gRf a0 9))]) F (c_X8_at l F.2.2.1 u52 hz55) (cwV 1 F.1.2.2.2.2 (gU_V ml_X1_69 im_yX8_at se_yX8_at ini_X8 cd_X8_at) rfl rfl rfl (by decide +kernel) ⟨Nat.le_of_ble_eq_true rfl, Nat.le_of_ble_eq_true rfl⟩) u52 (by decide) rfl rfl rfl (Nat.le_of_ble_eq_true rfl) dX1_namesOf_96 ⟨Nat.le_of_ble_eq_true rfl, Nat.le_of_ble_eq_true rfl⟩ ?_
  obtain ⟨⟨r57, M58⟩, hz59, h⟩ := bd_some h
  dsimp only at h
  refine v_callVv (As := [.int 6, .int r53]) (rest := []) F (c_X8_put l F.2.2.1 u51 hz59) (cwV 2 F.1.2.2.2.2 (gU_V ml_X1_45 im_yX8_put se_yX8_put ini_X8 cd_X8_put) rfl rfl rfl (by decide +kernel) ⟨Nat.le_of_ble_eq_true rfl, Nat.le_of_ble_eq_true rfl⟩) u51 (by decide) rfl rfl rfl (Nat.le_of_ble_eq_true rfl) dX1_namesOf_99 ⟨Nat.le_of_ble_eq_true rfl, Nat.le_of_ble_eq_true rfl⟩ ?_
  refine v_aload_n F dX1_namesOf_102 rfl 0 rfl ?_
  refine v_getR (k := 9) (f := 8) F t0 (by decide) (inc inU_1) rfl rfl (by decide) (by decide) (List.mem_cons_of_mem _ fl_X1_38) rfl dX1_namesOf_103 (fun u61 => ?_)
  refine v_bipush (v := 7) F dX1_namesOf_106 (by decide) ?_
  refine v_aload_n F dX1_namesOf_108 rfl 0 rfl ?_
  refine v_getR (k := 2) (f := 8) F t0 (by decide) (inc inU_1) rfl rfl (by decide) (by decide) (List.mem_cons_of_mem _ fl_X1_14) rfl dX1_namesOf_109 (fun u62 => ?_)
  refine v_bipush (v := 6) F dX1_namesOf_112 (by decide) ?_
  obtain ⟨⟨r63, M64⟩, hz65, h⟩ := bd_some h
  dsimp only at h
  refine v_callVi (As := [.int 6]) (rest := [.int 7, .ref (gAd g (gRf a0 9))]) F (c_X8_at l F.2.2.1 u62 hz65) (cwV 1 F.1.2.2.2.2 (gU_V ml_X1_69 im_yX8_at se_yX8_at ini_X8 cd_X8_at) rfl rfl rfl (by decide +kernel) ⟨Nat.le_of_ble_eq_true rfl, Nat.le_of_ble_eq_true rfl⟩) u62 (by decide) rfl rfl rfl (Nat.le_of_ble_eq_true rfl) dX1_namesOf_114 ⟨Nat.le_of_ble_eq_true rfl, Nat.le_of_ble_eq_true rfl⟩ ?_
  obtain ⟨⟨r67, M68⟩, hz69, h⟩ := bd_some h
  dsimp only at h
  refine v_callVv (As := [.int 7, .int r63]) (rest := []) F (c_X8_put l F.2.2.1 u61 hz69) (cwV 2 F.1.2.2.2.2 (gU_V ml_X1_45 im_yX8_put se_yX8_put ini_X8 cd_X8_put) rfl rfl rfl (by decide +kernel) ⟨Nat.le_of_ble_eq_true rfl, Nat.le_of_ble_eq_true rfl⟩) u61 (by decide) rfl rfl rfl (Nat.le_of_ble_eq_true rfl) dX1_namesOf_117 ⟨Nat.le_of_ble_eq_true rfl, Nat.le_of_ble_eq_true rfl⟩ ?_
  refine v_aload_n F dX1_namesOf_120 rfl 0 rfl ?_
  refine v_getR (k := 9) (f := 8) F t0 (by decide) (inc inU_1) rfl rfl (by decide) (by decide) (List.mem_cons_of_mem _ fl_X1_38) rfl dX1_namesOf_121 (fun u71 => ?_)
  refine v_bipush (v := 8) F dX1_namesOf_124 (by decide) ?_
  refine v_iload_n F dX1_namesOf_126 rfl 1 rfl ?_
  obtain ⟨⟨r72, M73⟩, hz74, h⟩ := bd_some h
  dsimp only at h
  refine v_callVv (As := [.int 8, .int i1]) (rest := []) F (c_X8_put l F.2.2.1 u71 hz74) (cwV 2 F.1.2.2.2.2 (gU_V ml_X1_45 im_yX8_put se_yX8_put ini_X8 cd_X8_put) rfl rfl rfl (by decide +kernel) ⟨Nat.le_of_ble_eq_true rfl, Nat.le_of_ble_eq_true rfl⟩) u71 (by decide) rfl rfl rfl (Nat.le_of_ble_eq_true rfl) dX1_namesOf_127 ⟨Nat.le_of_ble_eq_true rfl, Nat.le_of_ble_eq_true rfl⟩ ?_
  refine v_aload_n F dX1_namesOf_130 rfl 0 rfl ?_
  refine v_getR (k := 9) (f := 8) F t0 (by decide) (inc inU_1) rfl rfl (by decide) (by decide) (List.mem_cons_of_mem _ fl_X1_38) rfl dX1_namesOf_131 (fun u76 => ?_)
  cases h
  exact v_aret F hr hlk dX1_namesOf_134
theorem ty_X1_namesOf {g : gT} {M : Mem} {a0 : Nat} {i1 i2 : Int32} {z : Nat × Mem} (hok : gOK g) (t0 : Ty g 1 a0) (h : f_X1_namesOf M a0 i1 i2 = some z) : Ty g 8 z.1 := by
  have hz : z.1 = gRf a0 9 := by
    unfold f_X1_namesOf at h
    repeat (obtain ⟨⟨_, _⟩, -, h⟩ := bd_some h; dsimp only at h)
    cases h
    rfl
  rw [hz]
  exact (ty_get hok t0 (by decide) rfl (by decide)).1

def f_X1_breakWhatGives_b108 (a0 : Nat) (k12 : Int32 → Int32 → Mem → Option (Int32 × Mem)) (x1 : Int32) (x2 : Int32) (M : Mem) : Option (Int32 × Mem) := k12 x1 (x2 + 1) M
def f_X1_breakWhatGives_b66 (a0 : Nat) (k12 : Int32 → Int32 → Mem → Option (Int32 × Mem)) (x1 : Int32) (x2 : Int32) (x3 : Int32) (M : Mem) : Option (Int32 × Mem) := if x1 = 0 then (f_X1_breakWhatGives_b108 a0 k12 x1 x2 M) else (if ((M a0 0) - 1) ≤ x2 then (f_X1_breakWhatGives_b108 a0 k12 x1 x2 M) else ((f_X8_at M (gRf a0 4) (x2 + 1)).bind fun q => match q with | (r32, M33) => (if (if 0 ≤ (x3 - r32) then (x3 - r32) else 0 - (x3 - r32)) ≤ x1 then (f_X1_breakWhatGives_b108 a0 k12 x1 x2 M33) else ((f_X8_put M33 (gRf a0 8) x2 1).bind fun q => match q with | (r38, M39) => (f_X1_breakWhatGives_b108 a0 k12 x1 x2 M39)))))
def f_X1_breakWhatGives_h12 (a0 : Nat)  : Nat → Int32 → Int32 → Mem → Option (Int32 × Mem)
  | 0, _, _, _ => none
  | n + 1, x1, x2, M => if (M a0 0) ≤ x2 then (some (0, M)) else ((f_X8_at M (gRf a0 4) x2).bind fun q => match q with | (r8, M9) => ((f_X8_at M9 (gRf a0 7) x2).bind fun q => match q with | (r13, M14) => (if r13 = 2 then ((f_X8_at M14 (gRf a0 2) 7).bind fun q => match q with | (r19, M20) => (if (if 0 ≤ r8 then r8 else 0 - r8) ≤ r19 then (f_X1_breakWhatGives_b66 a0 (f_X1_breakWhatGives_h12 a0 n) x1 x2 r8 M20) else ((f_X8_put M20 (gRf a0 7) x2 1).bind fun q => match q with | (r25, M26) => (f_X1_breakWhatGives_b66 a0 (f_X1_breakWhatGives_h12 a0 n) x1 x2 r8 M26)))) else (f_X1_breakWhatGives_b66 a0 (f_X1_breakWhatGives_h12 a0 n) x1 x2 r8 M14))))
def f_X1_breakWhatGives  (M : Mem) (a0 : Nat) : Option (Int32 × Mem) := (f_X8_at M (gRf a0 2) 9).bind fun q => match q with | (r2, M3) => (f_X1_breakWhatGives_h12 a0 FU r2 0 M3)
set_option maxHeartbeats 4000000 in
set_option maxRecDepth 100000 in
theorem w_X1_breakWhatGives_b108 {g : gT} {p : Program} {l : Launch} {e : Env} {s : State} {m : MethodId} {args : Array Value} {below : List Frame} {meth : Method} {c : Code} {z : Int32 × Mem} (F : Fx g p s m args c cX1_breakWhatGives 4 uX1_breakWhatGives RX1) (hr : meth.sig.returnType = none) (hlk : meth.locks = false)  {a0 : Nat} (t0 : Ty g 1 a0) {k12 : Int32 → Int32 → Mem → Option (Int32 × Mem)} (hk12 : ∀ (x1 : Int32) (x2 : Int32) (M : Mem), k12 x1 x2 M = some z → V g p l e ({ frames := 1, cells := 0, slots := 0, locals := 40 * 1 } : Room) s m args below meth c 4 0 0 (MQ below (gQ g none z.2) args s 0 0 (gA g)) 12 [(0, .ref (gAd g a0)), (1, .int x1), (2, .int x2)] [] M) (x1 : Int32) (x2 : Int32) (M : Mem)  (h : f_X1_breakWhatGives_b108 a0 k12 x1 x2 M = some z) : V g p l e ({ frames := 1, cells := 0, slots := 0, locals := 40 * 1 } : Room) s m args below meth c 4 0 0 (MQ below (gQ g none z.2) args s 0 0 (gA g)) 108 [(0, .ref (gAd g a0)), (1, .int x1), (2, .int x2)] [] M := by
  unfold f_X1_breakWhatGives_b108 at h
  refine v_iinc (v := x2 + 1) (lv' := [(2, .int (x2 + 1)), (0, .ref (gAd g a0)), (1, .int x1)]) F dX1_breakWhatGives_108 (q := 2) rfl rfl (by decide) rfl ?_
  refine v_goto (tgt := 12) F dX1_breakWhatGives_111 (by decide) ?_
  refine v_sub (fun ls h9 => lv_sub h9 [1, 2, 0] rfl) ?_
  exact hk12 _ _ _ h
set_option maxHeartbeats 4000000 in
set_option maxRecDepth 100000 in
theorem w_X1_breakWhatGives_b66 {g : gT} {p : Program} {l : Launch} {e : Env} {s : State} {m : MethodId} {args : Array Value} {below : List Frame} {meth : Method} {c : Code} {z : Int32 × Mem} (F : Fx g p s m args c cX1_breakWhatGives 4 uX1_breakWhatGives RX1) (hr : meth.sig.returnType = none) (hlk : meth.locks = false)  {a0 : Nat} (t0 : Ty g 1 a0) {k12 : Int32 → Int32 → Mem → Option (Int32 × Mem)} (hk12 : ∀ (x1 : Int32) (x2 : Int32) (M : Mem), k12 x1 x2 M = some z → V g p l e ({ frames := 1, cells := 0, slots := 0, locals := 40 * 1 } : Room) s m args below meth c 4 0 0 (MQ below (gQ g none z.2) args s 0 0 (gA g)) 12 [(0, .ref (gAd g a0)), (1, .int x1), (2, .int x2)] [] M) (x1 : Int32) (x2 : Int32) (x3 : Int32) (M : Mem)  (h : f_X1_breakWhatGives_b66 a0 k12 x1 x2 x3 M = some z) : V g p l e ({ frames := 1, cells := 0, slots := 0, locals := 40 * 1 } : Room) s m args below meth c 4 0 0 (MQ below (gQ g none z.2) args s 0 0 (gA g)) 66 [(0, .ref (gAd g a0)), (1, .int x1), (2, .int x2), (3, .int x3)] [] M := by
  unfold f_X1_breakWhatGives_b66 at h
  refine v_iload_n F dX1_breakWhatGives_66 rfl 1 rfl ?_
  refine v_if_eq (tgt := 108) F dX1_breakWhatGives_67 (by decide) (fun hc29 => ?_) (fun hc29 => ?_)
  · rw [if_pos hc29] at h
    refine v_sub (fun ls h9 => lv_sub h9 [0, 1, 2] rfl) ?_
    exact w_X1_breakWhatGives_b108 F hr hlk t0 hk12 _ _ _ h
  · rw [if_neg hc29] at h
    refine v_iload_n F dX1_breakWhatGives_70 rfl 2 rfl ?_
    refine v_aload_n F dX1_breakWhatGives_71 rfl 0 rfl ?_
    refine v_getI (k := 0) F t0 (by decide) (inc inU_1) rfl rfl (by decide) (List.mem_cons_of_mem _ fl_X1_52) rfl dX1_breakWhatGives_72 ?_
    refine v_iconst (v := 1) F dX1_breakWhatGives_75 (by decide) ?_
    refine v_isub F dX1_breakWhatGives_76 ?_
    refine v_icmp_ge (tgt := 108) F dX1_breakWhatGives_77 (by decide) (fun hc30 => ?_) (fun hc30 => ?_)
    · rw [if_pos hc30] at h
      refine v_sub (fun ls h9 => lv_sub h9 [0, 1, 2] rfl) ?_
      exact w_X1_breakWhatGives_b108 F hr hlk t0 hk12 _ _ _ h
    · rw [if_neg hc30] at h
      refine v_iload_n F dX1_breakWhatGives_80 rfl 3 rfl ?_
      refine v_aload_n F dX1_breakWhatGives_81 rfl 0 rfl ?_
      refine v_getR (k := 4) (f := 8) F t0 (by decide) (inc inU_1) rfl rfl (by decide) (by decide) (List.mem_cons_of_mem _ fl_X1_23) rfl dX1_breakWhatGives_82 (fun u31 => ?_)
      refine v_iload_n F dX1_breakWhatGives_85 rfl 2 rfl ?_
      refine v_iconst (v := 1) F dX1_breakWhatGives_86 (by decide) ?_
      refine v_iadd F dX1_breakWhatGives_87 ?_
      obtain ⟨⟨r32, M33⟩, hz34, h⟩ := bd_some h
      dsimp only at h
      refine v_callVi (As := [.int (x2 + 1)]) (rest := [.int x3]) F (c_X8_at l F.2.2.1 u31 hz34) (cwV 1 F.1.2.2.2.2 (gU_V ml_X1_69 im_yX8_at se_yX8_at ini_X8 cd_X8_at) rfl rfl rfl (by decide +kernel) ⟨Nat.le_of_ble_eq_true rfl, Nat.le_of_ble_eq_true rfl⟩) u31 (by decide) rfl rfl rfl (Nat.le_of_ble_eq_true rfl) dX1_breakWhatGives_88 ⟨Nat.le_of_ble_eq_true rfl, Nat.le_of_ble_eq_true rfl⟩ ?_
      refine v_isub F dX1_breakWhatGives_91 ?_
      refine v_mabs F (List.mem_cons_of_mem _ ml_X1_83) (List.mem_cons_of_mem _ st_mabs) (List.mem_cons_of_mem _ ini_Math) (List.mem_cons_of_mem _ cd_mabs) dX1_breakWhatGives_92 ⟨Nat.le_of_ble_eq_true rfl, Nat.le_of_ble_eq_true rfl, Nat.le_of_ble_eq_true rfl, Nat.le_of_ble_eq_true rfl⟩ (Nat.le_of_ble_eq_true rfl) ?_
      refine v_iload_n F dX1_breakWhatGives_95 rfl 1 rfl ?_
      refine v_icmp_le (tgt := 108) F dX1_breakWhatGives_96 (by decide) (fun hc36 => ?_) (fun hc36 => ?_)
      · rw [if_pos hc36] at h
        refine v_sub (fun ls h9 => lv_sub h9 [0, 1, 2] rfl) ?_
        exact w_X1_breakWhatGives_b108 F hr hlk t0 hk12 _ _ _ h
      · rw [if_neg hc36] at h
        refine v_aload_n F dX1_breakWhatGives_99 rfl 0 rfl ?_
        refine v_getR (k := 8) (f := 8) F t0 (by decide) (inc inU_1) rfl rfl (by decide) (by decide) (List.mem_cons_of_mem _ fl_X1_35) rfl dX1_breakWhatGives_100 (fun u37 => ?_)
        refine v_iload_n F dX1_breakWhatGives_103 rfl 2 rfl ?_
        refine v_iconst (v := 1) F dX1_breakWhatGives_104 (by decide) ?_
        obtain ⟨⟨r38, M39⟩, hz40, h⟩ := bd_some h
        dsimp only at h
        refine v_callVv (As := [.int x2, .int 1]) (rest := []) F (c_X8_put l F.2.2.1 u37 hz40) (cwV 2 F.1.2.2.2.2 (gU_V ml_X1_45 im_yX8_put se_yX8_put ini_X8 cd_X8_put) rfl rfl rfl (by decide +kernel) ⟨Nat.le_of_ble_eq_true rfl, Nat.le_of_ble_eq_true rfl⟩) u37 (by decide) rfl rfl rfl (Nat.le_of_ble_eq_true rfl) dX1_breakWhatGives_105 ⟨Nat.le_of_ble_eq_true rfl, Nat.le_of_ble_eq_true rfl⟩ ?_
        refine v_sub (fun ls h9 => lv_sub h9 [0, 1, 2] rfl) ?_
        exact w_X1_breakWhatGives_b108 F hr hlk t0 hk12 _ _ _ h
set_option maxHeartbeats 4000000 in
set_option maxRecDepth 100000 in
theorem w_X1_breakWhatGives_h12 {g : gT} {p : Program} {l : Launch} {e : Env} {s : State} {m : MethodId} {args : Array Value} {below : List Frame} {meth : Method} {c : Code} {z : Int32 × Mem} (F : Fx g p s m args c cX1_breakWhatGives 4 uX1_breakWhatGives RX1) (hr : meth.sig.returnType = none) (hlk : meth.locks = false)  {a0 : Nat} (t0 : Ty g 1 a0)   : ∀ (n : Nat) (x1 : Int32) (x2 : Int32) (M : Mem), f_X1_breakWhatGives_h12 a0 n x1 x2 M = some z → V g p l e ({ frames := 1, cells := 0, slots := 0, locals := 40 * 1 } : Room) s m args below meth c 4 0 0 (MQ below (gQ g none z.2) args s 0 0 (gA g)) 12 [(0, .ref (gAd g a0)), (1, .int x1), (2, .int x2)] [] M := by
  intro n
  induction n with
  | zero => intro x1 x2 M; intros; rename_i h; cases h
  | succ n ih =>
    intro x1 x2 M h
    rw [f_X1_breakWhatGives_h12] at h
    refine v_iload_n F dX1_breakWhatGives_12 rfl 2 rfl ?_
    refine v_aload_n F dX1_breakWhatGives_13 rfl 0 rfl ?_
    refine v_getI (k := 0) F t0 (by decide) (inc inU_1) rfl rfl (by decide) (List.mem_cons_of_mem _ fl_X1_52) rfl dX1_breakWhatGives_14 ?_
    refine v_icmp_ge (tgt := 114) F dX1_breakWhatGives_17 (by decide) (fun hc6 => ?_) (fun hc6 => ?_)
    · rw [if_pos hc6] at h
      cases h
      exact v_vret F hr hlk dX1_breakWhatGives_114
    · rw [if_neg hc6] at h
      refine v_aload_n F dX1_breakWhatGives_20 rfl 0 rfl ?_
      refine v_getR (k := 4) (f := 8) F t0 (by decide) (inc inU_1) rfl rfl (by decide) (by decide) (List.mem_cons_of_mem _ fl_X1_23) rfl dX1_breakWhatGives_21 (fun u7 => ?_)
      refine v_iload_n F dX1_breakWhatGives_24 rfl 2 rfl ?_
      obtain ⟨⟨r8, M9⟩, hz10, h⟩ := bd_some h
      dsimp only at h
      refine v_callVi (As := [.int x2]) (rest := []) F (c_X8_at l F.2.2.1 u7 hz10) (cwV 1 F.1.2.2.2.2 (gU_V ml_X1_69 im_yX8_at se_yX8_at ini_X8 cd_X8_at) rfl rfl rfl (by decide +kernel) ⟨Nat.le_of_ble_eq_true rfl, Nat.le_of_ble_eq_true rfl⟩) u7 (by decide) rfl rfl rfl (Nat.le_of_ble_eq_true rfl) dX1_breakWhatGives_25 ⟨Nat.le_of_ble_eq_true rfl, Nat.le_of_ble_eq_true rfl⟩ ?_
      refine v_istore_n (lv' := [(3, .int r8), (0, .ref (gAd g a0)), (1, .int x1), (2, .int x2)]) F dX1_breakWhatGives_28 rfl (by decide) rfl ?_
      refine v_aload_n F dX1_breakWhatGives_29 rfl 1 rfl ?_
      refine v_getR (k := 7) (f := 8) F t0 (by decide) (inc inU_1) rfl rfl (by decide) (by decide) (List.mem_cons_of_mem _ fl_X1_32) rfl dX1_breakWhatGives_30 (fun u12 => ?_)
      refine v_iload_n F dX1_breakWhatGives_33 rfl 3 rfl ?_
      obtain ⟨⟨r13, M14⟩, hz15, h⟩ := bd_some h
      dsimp only at h
      refine v_callVi (As := [.int x2]) (rest := []) F (c_X8_at l F.2.2.1 u12 hz15) (cwV 1 F.1.2.2.2.2 (gU_V ml_X1_69 im_yX8_at se_yX8_at ini_X8 cd_X8_at) rfl rfl rfl (by decide +kernel) ⟨Nat.le_of_ble_eq_true rfl, Nat.le_of_ble_eq_true rfl⟩) u12 (by decide) rfl rfl rfl (Nat.le_of_ble_eq_true rfl) dX1_breakWhatGives_34 ⟨Nat.le_of_ble_eq_true rfl, Nat.le_of_ble_eq_true rfl⟩ ?_
      refine v_iconst (v := 2) F dX1_breakWhatGives_37 (by decide) ?_
      refine v_icmp_ne (tgt := 66) F dX1_breakWhatGives_38 (by decide) (fun hc17 => ?_) (fun hc17 => ?_)
      · rw [if_neg hc17] at h
        refine v_sub (fun ls h9 => lv_sub h9 [1, 2, 3, 0] rfl) ?_
        exact w_X1_breakWhatGives_b66 F hr hlk t0 ih _ _ _ _ h
      · rw [if_pos hc17] at h
        refine v_iload_n F dX1_breakWhatGives_41 rfl 0 rfl ?_
        refine v_mabs F (List.mem_cons_of_mem _ ml_X1_83) (List.mem_cons_of_mem _ st_mabs) (List.mem_cons_of_mem _ ini_Math) (List.mem_cons_of_mem _ cd_mabs) dX1_breakWhatGives_42 ⟨Nat.le_of_ble_eq_true rfl, Nat.le_of_ble_eq_true rfl, Nat.le_of_ble_eq_true rfl, Nat.le_of_ble_eq_true rfl⟩ (Nat.le_of_ble_eq_true rfl) ?_
        refine v_aload_n F dX1_breakWhatGives_45 rfl 1 rfl ?_
        refine v_getR (k := 2) (f := 8) F t0 (by decide) (inc inU_1) rfl rfl (by decide) (by decide) (List.mem_cons_of_mem _ fl_X1_14) rfl dX1_breakWhatGives_46 (fun u18 => ?_)
        refine v_bipush (v := 7) F dX1_breakWhatGives_49 (by decide) ?_
        obtain ⟨⟨r19, M20⟩, hz21, h⟩ := bd_some h
        dsimp only at h
        refine v_callVi (As := [.int 7]) (rest := [.int (if 0 ≤ r8 then r8 else 0 - r8)]) F (c_X8_at l F.2.2.1 u18 hz21) (cwV 1 F.1.2.2.2.2 (gU_V ml_X1_69 im_yX8_at se_yX8_at ini_X8 cd_X8_at) rfl rfl rfl (by decide +kernel) ⟨Nat.le_of_ble_eq_true rfl, Nat.le_of_ble_eq_true rfl⟩) u18 (by decide) rfl rfl rfl (Nat.le_of_ble_eq_true rfl) dX1_breakWhatGives_51 ⟨Nat.le_of_ble_eq_true rfl, Nat.le_of_ble_eq_true rfl⟩ ?_
        refine v_icmp_le (tgt := 66) F dX1_breakWhatGives_54 (by decide) (fun hc23 => ?_) (fun hc23 => ?_)
        · rw [if_pos hc23] at h
          refine v_sub (fun ls h9 => lv_sub h9 [1, 2, 3, 0] rfl) ?_
          exact w_X1_breakWhatGives_b66 F hr hlk t0 ih _ _ _ _ h
        · rw [if_neg hc23] at h
          refine v_aload_n F dX1_breakWhatGives_57 rfl 1 rfl ?_
          refine v_getR (k := 7) (f := 8) F t0 (by decide) (inc inU_1) rfl rfl (by decide) (by decide) (List.mem_cons_of_mem _ fl_X1_32) rfl dX1_breakWhatGives_58 (fun u24 => ?_)
          refine v_iload_n F dX1_breakWhatGives_61 rfl 3 rfl ?_
          refine v_iconst (v := 1) F dX1_breakWhatGives_62 (by decide) ?_
          obtain ⟨⟨r25, M26⟩, hz27, h⟩ := bd_some h
          dsimp only at h
          refine v_callVv (As := [.int x2, .int 1]) (rest := []) F (c_X8_put l F.2.2.1 u24 hz27) (cwV 2 F.1.2.2.2.2 (gU_V ml_X1_45 im_yX8_put se_yX8_put ini_X8 cd_X8_put) rfl rfl rfl (by decide +kernel) ⟨Nat.le_of_ble_eq_true rfl, Nat.le_of_ble_eq_true rfl⟩) u24 (by decide) rfl rfl rfl (Nat.le_of_ble_eq_true rfl) dX1_breakWhatGives_63 ⟨Nat.le_of_ble_eq_true rfl, Nat.le_of_ble_eq_true rfl⟩ ?_
          refine v_sub (fun ls h9 => lv_sub h9 [1, 2, 3, 0] rfl) ?_
          exact w_X1_breakWhatGives_b66 F hr hlk t0 ih _ _ _ _ h
set_option maxHeartbeats 4000000 in
set_option maxRecDepth 100000 in
theorem c_X1_breakWhatGives {g : gT} (l : Launch) (hok : gOK g)  {a0 : Nat} {M : Mem} {z : Int32 × Mem}  (t0 : Ty g 1 a0) (h : f_X1_breakWhatGives  M a0 = some z) : Cn g l yX1_breakWhatGives uX1_breakWhatGives 1 [.ref (gAd g a0)] M none z.2 := by
  refine Cn.of (cc := cX1_breakWhatGives) (maxL := 4) (ret := none) hok (by decide) rfl (Nat.le_of_ble_eq_true rfl) (fun p e s m args below meth c F hr hlk => ?_)
  unfold f_X1_breakWhatGives at h
  show V g p l e ({ frames := 1, cells := 0, slots := 0, locals := 40 * 1 } : Room) s m args below meth c 4 0 0 (MQ below (gQ g none z.2) args s 0 0 (gA g)) 0 [(0, .ref (gAd g a0))] [] M
  refine v_aload_n F dX1_breakWhatGives_0 rfl 0 rfl ?_
  refine v_getR (k := 2) (f := 8) F t0 (by decide) (inc inU_1) rfl rfl (by decide) (by decide) (List.mem_cons_of_mem _ fl_X1_14) rfl dX1_breakWhatGives_1 (fun u1 => ?_)
  refine v_bipush (v := 9) F dX1_breakWhatGives_4 (by decide) ?_
  obtain ⟨⟨r2, M3⟩, hz4, h⟩ := bd_some h
  dsimp only at h
  refine v_callVi (As := [.int 9]) (rest := []) F (c_X8_at l F.2.2.1 u1 hz4) (cwV 1 F.1.2.2.2.2 (gU_V ml_X1_69 im_yX8_at se_yX8_at ini_X8 cd_X8_at) rfl rfl rfl (by decide +kernel) ⟨Nat.le_of_ble_eq_true rfl, Nat.le_of_ble_eq_true rfl⟩) u1 (by decide) rfl rfl rfl (Nat.le_of_ble_eq_true rfl) dX1_breakWhatGives_6 ⟨Nat.le_of_ble_eq_true rfl, Nat.le_of_ble_eq_true rfl⟩ ?_
  refine v_istore_n (lv' := [(1, .int r2), (0, .ref (gAd g a0))]) F dX1_breakWhatGives_9 rfl (by decide) rfl ?_
  refine v_iconst (v := 0) F dX1_breakWhatGives_10 (by decide) ?_
  refine v_istore_n (lv' := [(2, .int 0), (1, .int r2), (0, .ref (gAd g a0))]) F dX1_breakWhatGives_11 rfl (by decide) rfl ?_
  refine v_sub (fun ls h9 => lv_sub h9 [2, 1, 0] rfl) ?_
  exact w_X1_breakWhatGives_h12 F hr hlk t0 _ _ _ _ h
def f_X1_reach  (M : Mem) (i0 : Int32) : Option (Int32 × Mem) := if i0 ≤ 1000000 then (if (-1000000) ≤ i0 then (some (i0, M)) else (some ((-1000000), M))) else (some (1000000, M))
set_option maxHeartbeats 4000000 in
set_option maxRecDepth 100000 in
theorem c_X1_reach {g : gT} (l : Launch) (hok : gOK g)  {i0 : Int32} {M : Mem} {z : Int32 × Mem}   (h : f_X1_reach  M i0 = some z) : Cn g l yX1_reach uX1_reach 0 [.int i0] M (some (.int z.1)) z.2 := by
  refine Cn.of (cc := cX1_reach) (maxL := 1) (ret := (some .int)) hok (by decide) rfl (Nat.le_of_ble_eq_true rfl) (fun p e s m args below meth c F hr hlk => ?_)
  unfold f_X1_reach at h
  show V g p l e ({ frames := 0, cells := 0, slots := 0, locals := 40 * 0 } : Room) s m args below meth c 1 0 0 (MQ below (gQ g (some (.int z.1)) z.2) args s 0 0 (gA g)) 0 [(0, .int i0)] [] M
  refine v_iload_n F dX1_reach_0 rfl 0 rfl ?_
  refine v_ldc (v := 1000000) F (F.1.2.2.2.2 _ (List.mem_cons_of_mem _ cn_X1_124)) dX1_reach_1 ?_
  refine v_icmp_le (tgt := 11) F dX1_reach_3 (by decide) (fun hc1 => ?_) (fun hc1 => ?_)
  · rw [if_pos hc1] at h
    refine v_iload_n F dX1_reach_11 rfl 0 rfl ?_
    refine v_ldc (v := (-1000000)) F (F.1.2.2.2.2 _ (List.mem_cons_of_mem _ cn_X1_125)) dX1_reach_12 ?_
    refine v_icmp_ge (tgt := 22) F dX1_reach_14 (by decide) (fun hc2 => ?_) (fun hc2 => ?_)
    · rw [if_pos hc2] at h
      refine v_iload_n F dX1_reach_22 rfl 0 rfl ?_
      cases h
      exact v_iret F hr rfl hlk dX1_reach_23
    · rw [if_neg hc2] at h
      refine v_ldc (v := (-1000000)) F (F.1.2.2.2.2 _ (List.mem_cons_of_mem _ cn_X1_125)) dX1_reach_17 ?_
      refine v_goto (tgt := 23) F dX1_reach_19 (by decide) ?_
      cases h
      exact v_iret F hr rfl hlk dX1_reach_23
  · rw [if_neg hc1] at h
    refine v_ldc (v := 1000000) F (F.1.2.2.2.2 _ (List.mem_cons_of_mem _ cn_X1_124)) dX1_reach_6 ?_
    refine v_goto (tgt := 23) F dX1_reach_8 (by decide) ?_
    cases h
    exact v_iret F hr rfl hlk dX1_reach_23
def f_X1_faster  (M : Mem) (a0 : Nat) (i1 : Int32) (i2 : Int32) (i3 : Int32) : Option (Int32 × Mem) := (f_X8_at M (gRf a0 2) 0).bind fun q => match q with | (r2, M3) => (if (if 1 < r2 then r2 else 1) = 0 then none else (f_X8_at M3 (gRf a0 2) 4).bind fun q => match q with | (r8, M9) => ((f_X1_reach M9 ((i1 + (((i2 / 10) + i3) / (if 1 < r2 then r2 else 1))) - ((r8 * i1) / 100))).bind fun q => match q with | (r12, M13) => (some (r12, M13))))
set_option maxHeartbeats 4000000 in
set_option maxRecDepth 100000 in
theorem c_X1_faster {g : gT} (l : Launch) (hok : gOK g)  {a0 : Nat} {i1 : Int32} {i2 : Int32} {i3 : Int32} {M : Mem} {z : Int32 × Mem}  (t0 : Ty g 1 a0) (h : f_X1_faster  M a0 i1 i2 i3 = some z) : Cn g l yX1_faster uX1_faster 1 [.ref (gAd g a0), .int i1, .int i2, .int i3] M (some (.int z.1)) z.2 := by
  refine Cn.of (cc := cX1_faster) (maxL := 5) (ret := (some .int)) hok (by decide) rfl (Nat.le_of_ble_eq_true rfl) (fun p e s m args below meth c F hr hlk => ?_)
  unfold f_X1_faster at h
  show V g p l e ({ frames := 1, cells := 0, slots := 0, locals := 40 * 1 } : Room) s m args below meth c 5 0 0 (MQ below (gQ g (some (.int z.1)) z.2) args s 0 0 (gA g)) 0 [(0, .ref (gAd g a0)), (1, .int i1), (2, .int i2), (3, .int i3)] [] M
  refine v_iconst (v := 1) F dX1_faster_0 (by decide) ?_
  refine v_aload_n F dX1_faster_1 rfl 0 rfl ?_
  refine v_getR (k := 2) (f := 8) F t0 (by decide) (inc inU_1) rfl rfl (by decide) (by decide) (List.mem_cons_of_mem _ fl_X1_14) rfl dX1_faster_2 (fun u1 => ?_)
  refine v_iconst (v := 0) F dX1_faster_5 (by decide) ?_
  obtain ⟨⟨r2, M3⟩, hz4, h⟩ := bd_some h
  dsimp only at h
  refine v_callVi (As := [.int 0]) (rest := [.int 1]) F (c_X8_at l F.2.2.1 u1 hz4) (cwV 1 F.1.2.2.2.2 (gU_V ml_X1_69 im_yX8_at se_yX8_at ini_X8 cd_X8_at) rfl rfl rfl (by decide +kernel) ⟨Nat.le_of_ble_eq_true rfl, Nat.le_of_ble_eq_true rfl⟩) u1 (by decide) rfl rfl rfl (Nat.le_of_ble_eq_true rfl) dX1_faster_6 ⟨Nat.le_of_ble_eq_true rfl, Nat.le_of_ble_eq_true rfl⟩ ?_
  refine v_mmax F (List.mem_cons_of_mem _ ml_X1_77) (List.mem_cons_of_mem _ st_mmax) (List.mem_cons_of_mem _ ini_Math) (List.mem_cons_of_mem _ cd_mmax) dX1_faster_9 ⟨Nat.le_of_ble_eq_true rfl, Nat.le_of_ble_eq_true rfl, Nat.le_of_ble_eq_true rfl, Nat.le_of_ble_eq_true rfl⟩ (Nat.le_of_ble_eq_true rfl) ?_
  refine v_istore (lv' := [(4, .int (if 1 < r2 then r2 else 1)), (0, .ref (gAd g a0)), (1, .int i1), (2, .int i2), (3, .int i3)]) F dX1_faster_12 (by decide) rfl ?_
  refine v_iload_n F dX1_faster_14 rfl 2 rfl ?_
  refine v_iload_n F dX1_faster_15 rfl 3 rfl ?_
  refine v_bipush (v := 10) F dX1_faster_16 (by decide) ?_
  refine v_idiv F dX1_faster_18 (by decide) ?_
  refine v_iload_n F dX1_faster_19 rfl 4 rfl ?_
  refine v_iadd F dX1_faster_20 ?_
  refine v_iload F dX1_faster_21 0 rfl ?_
  by_cases hz6 : (if 1 < r2 then r2 else 1) = 0
  · rw [if_pos hz6] at h; cases h
  rw [if_neg hz6] at h
  refine v_idiv F dX1_faster_23 hz6 ?_
  refine v_iadd F dX1_faster_24 ?_
  refine v_aload_n F dX1_faster_25 rfl 1 rfl ?_
  refine v_getR (k := 2) (f := 8) F t0 (by decide) (inc inU_1) rfl rfl (by decide) (by decide) (List.mem_cons_of_mem _ fl_X1_14) rfl dX1_faster_26 (fun u7 => ?_)
  refine v_iconst (v := 4) F dX1_faster_29 (by decide) ?_
  obtain ⟨⟨r8, M9⟩, hz10, h⟩ := bd_some h
  dsimp only at h
  refine v_callVi (As := [.int 4]) (rest := [.int (i1 + (((i2 / 10) + i3) / (if 1 < r2 then r2 else 1)))]) F (c_X8_at l F.2.2.1 u7 hz10) (cwV 1 F.1.2.2.2.2 (gU_V ml_X1_69 im_yX8_at se_yX8_at ini_X8 cd_X8_at) rfl rfl rfl (by decide +kernel) ⟨Nat.le_of_ble_eq_true rfl, Nat.le_of_ble_eq_true rfl⟩) u7 (by decide) rfl rfl rfl (Nat.le_of_ble_eq_true rfl) dX1_faster_30 ⟨Nat.le_of_ble_eq_true rfl, Nat.le_of_ble_eq_true rfl⟩ ?_
  refine v_iload_n F dX1_faster_33 rfl 2 rfl ?_
  refine v_imul F dX1_faster_34 ?_
  refine v_bipush (v := 100) F dX1_faster_35 (by decide) ?_
  refine v_idiv F dX1_faster_37 (by decide) ?_
  refine v_isub F dX1_faster_38 ?_
  obtain ⟨⟨r12, M13⟩, hz14, h⟩ := bd_some h
  dsimp only at h
  refine v_callSi (As := [.int ((i1 + (((i2 / 10) + i3) / (if 1 < r2 then r2 else 1))) - ((r8 * i1) / 100))]) (rest := []) F (c_X1_reach l F.2.2.1  hz14) (cwS 1 F.1.2.2.2.2 (gU_S ml_X1_118 st_yX1_reach ini_X1 cd_X1_reach) rfl rfl rfl (by decide +kernel) ⟨Nat.le_of_ble_eq_true rfl, Nat.le_of_ble_eq_true rfl⟩) rfl rfl (Nat.le_of_ble_eq_true rfl) dX1_faster_39 ⟨Nat.le_of_ble_eq_true rfl, Nat.le_of_ble_eq_true rfl⟩ ?_
  cases h
  exact v_iret F hr rfl hlk dX1_faster_42
def f_X1_pullOf_b81 (a0 : Nat) (a1 : Nat) (i2 : Int32) (i3 : Int32) (i4 : Int32)  (s0 : Int32) (x5 : Int32) (x6 : Int32) (M : Mem) : Option (Int32 × Mem) := some ((i3 * ((x6 + s0) - (2 * x5))) - (i4 * x5), M)
def f_X1_pullOf_b41 (a0 : Nat) (a1 : Nat) (i2 : Int32) (i3 : Int32) (i4 : Int32)  (s0 : Int32) (x5 : Int32) (M : Mem) : Option (Int32 × Mem) := if i2 = ((M a0 0) - 1) then (f_X1_pullOf_b81 a0 a1 i2 i3 i4 0 x5 s0 M) else ((f_X8_at M (gRf a0 8) i2).bind fun q => match q with | (r18, M19) => (if r18 = 1 then (f_X1_pullOf_b81 a0 a1 i2 i3 i4 x5 x5 s0 M19) else ((f_X8_at M19 a1 (i2 + 1)).bind fun q => match q with | (r23, M24) => (f_X1_pullOf_b81 a0 a1 i2 i3 i4 r23 x5 s0 M24))))
def f_X1_pullOf  (M : Mem) (a0 : Nat) (a1 : Nat) (i2 : Int32) (i3 : Int32) (i4 : Int32) : Option (Int32 × Mem) := (f_X8_at M a1 i2).bind fun q => match q with | (r1, M2) => (if i2 = 0 then (f_X1_pullOf_b41 a0 a1 i2 i3 i4 0 r1 M2) else ((f_X8_at M2 (gRf a0 8) (i2 - 1)).bind fun q => match q with | (r7, M8) => (if r7 = 1 then (f_X1_pullOf_b41 a0 a1 i2 i3 i4 r1 r1 M8) else ((f_X8_at M8 a1 (i2 - 1)).bind fun q => match q with | (r12, M13) => (f_X1_pullOf_b41 a0 a1 i2 i3 i4 r12 r1 M13)))))
set_option maxHeartbeats 4000000 in
set_option maxRecDepth 100000 in
theorem w_X1_pullOf_b81 {g : gT} {p : Program} {l : Launch} {e : Env} {s : State} {m : MethodId} {args : Array Value} {below : List Frame} {meth : Method} {c : Code} {z : Int32 × Mem} (F : Fx g p s m args c cX1_pullOf 8 uX1_pullOf RX1) (hr : meth.sig.returnType = (some .int)) (hlk : meth.locks = false)  {a0 : Nat} {a1 : Nat} {i2 : Int32} {i3 : Int32} {i4 : Int32} (t0 : Ty g 1 a0) (t1 : Ty g 8 a1)   (s0 : Int32) (x5 : Int32) (x6 : Int32) (M : Mem)  (h : f_X1_pullOf_b81 a0 a1 i2 i3 i4 s0 x5 x6 M = some z) : V g p l e ({ frames := 1, cells := 0, slots := 0, locals := 40 * 1 } : Room) s m args below meth c 8 0 0 (MQ below (gQ g (some (.int z.1)) z.2) args s 0 0 (gA g)) 81 [(0, .ref (gAd g a0)), (1, .ref (gAd g a1)), (2, .int i2), (3, .int i3), (4, .int i4), (5, .int x5), (6, .int x6)] [.int s0] M := by
  unfold f_X1_pullOf_b81 at h
  refine v_istore (lv' := [(7, .int s0), (0, .ref (gAd g a0)), (1, .ref (gAd g a1)), (2, .int i2), (3, .int i3), (4, .int i4), (5, .int x5), (6, .int x6)]) F dX1_pullOf_81 (by decide) rfl ?_
  refine v_iload_n F dX1_pullOf_83 rfl 4 rfl ?_
  refine v_iload F dX1_pullOf_84 7 rfl ?_
  refine v_iload F dX1_pullOf_86 0 rfl ?_
  refine v_iadd F dX1_pullOf_88 ?_
  refine v_iconst (v := 2) F dX1_pullOf_89 (by decide) ?_
  refine v_iload F dX1_pullOf_90 6 rfl ?_
  refine v_imul F dX1_pullOf_92 ?_
  refine v_isub F dX1_pullOf_93 ?_
  refine v_imul F dX1_pullOf_94 ?_
  refine v_iload F dX1_pullOf_95 5 rfl ?_
  refine v_iload F dX1_pullOf_97 6 rfl ?_
  refine v_imul F dX1_pullOf_99 ?_
  refine v_isub F dX1_pullOf_100 ?_
  cases h
  exact v_iret F hr rfl hlk dX1_pullOf_101
set_option maxHeartbeats 4000000 in
set_option maxRecDepth 100000 in
theorem w_X1_pullOf_b41 {g : gT} {p : Program} {l : Launch} {e : Env} {s : State} {m : MethodId} {args : Array Value} {below : List Frame} {meth : Method} {c : Code} {z : Int32 × Mem} (F : Fx g p s m args c cX1_pullOf 8 uX1_pullOf RX1) (hr : meth.sig.returnType = (some .int)) (hlk : meth.locks = false)  {a0 : Nat} {a1 : Nat} {i2 : Int32} {i3 : Int32} {i4 : Int32} (t0 : Ty g 1 a0) (t1 : Ty g 8 a1)   (s0 : Int32) (x5 : Int32) (M : Mem)  (h : f_X1_pullOf_b41 a0 a1 i2 i3 i4 s0 x5 M = some z) : V g p l e ({ frames := 1, cells := 0, slots := 0, locals := 40 * 1 } : Room) s m args below meth c 8 0 0 (MQ below (gQ g (some (.int z.1)) z.2) args s 0 0 (gA g)) 41 [(0, .ref (gAd g a0)), (1, .ref (gAd g a1)), (2, .int i2), (3, .int i3), (4, .int i4), (5, .int x5)] [.int s0] M := by
  unfold f_X1_pullOf_b41 at h
  refine v_istore (lv' := [(6, .int s0), (0, .ref (gAd g a0)), (1, .ref (gAd g a1)), (2, .int i2), (3, .int i3), (4, .int i4), (5, .int x5)]) F dX1_pullOf_41 (by decide) rfl ?_
  refine v_iload_n F dX1_pullOf_43 rfl 3 rfl ?_
  refine v_aload_n F dX1_pullOf_44 rfl 1 rfl ?_
  refine v_getI (k := 0) F t0 (by decide) (inc inU_1) rfl rfl (by decide) (List.mem_cons_of_mem _ fl_X1_52) rfl dX1_pullOf_45 ?_
  refine v_iconst (v := 1) F dX1_pullOf_48 (by decide) ?_
  refine v_isub F dX1_pullOf_49 ?_
  refine v_icmp_ne (tgt := 57) F dX1_pullOf_50 (by decide) (fun hc16 => ?_) (fun hc16 => ?_)
  · rw [if_neg hc16] at h
    refine v_aload_n F dX1_pullOf_57 rfl 1 rfl ?_
    refine v_getR (k := 8) (f := 8) F t0 (by decide) (inc inU_1) rfl rfl (by decide) (by decide) (List.mem_cons_of_mem _ fl_X1_35) rfl dX1_pullOf_58 (fun u17 => ?_)
    refine v_iload_n F dX1_pullOf_61 rfl 3 rfl ?_
    obtain ⟨⟨r18, M19⟩, hz20, h⟩ := bd_some h
    dsimp only at h
    refine v_callVi (As := [.int i2]) (rest := []) F (c_X8_at l F.2.2.1 u17 hz20) (cwV 1 F.1.2.2.2.2 (gU_V ml_X1_69 im_yX8_at se_yX8_at ini_X8 cd_X8_at) rfl rfl rfl (by decide +kernel) ⟨Nat.le_of_ble_eq_true rfl, Nat.le_of_ble_eq_true rfl⟩) u17 (by decide) rfl rfl rfl (Nat.le_of_ble_eq_true rfl) dX1_pullOf_62 ⟨Nat.le_of_ble_eq_true rfl, Nat.le_of_ble_eq_true rfl⟩ ?_
    refine v_iconst (v := 1) F dX1_pullOf_65 (by decide) ?_
    refine v_icmp_ne (tgt := 74) F dX1_pullOf_66 (by decide) (fun hc22 => ?_) (fun hc22 => ?_)
    · rw [if_neg hc22] at h
      refine v_aload_n F dX1_pullOf_74 rfl 2 rfl ?_
      refine v_iload_n F dX1_pullOf_75 rfl 3 rfl ?_
      refine v_iconst (v := 1) F dX1_pullOf_76 (by decide) ?_
      refine v_iadd F dX1_pullOf_77 ?_
      obtain ⟨⟨r23, M24⟩, hz25, h⟩ := bd_some h
      dsimp only at h
      refine v_callVi (As := [.int (i2 + 1)]) (rest := []) F (c_X8_at l F.2.2.1 t1 hz25) (cwV 1 F.1.2.2.2.2 (gU_V ml_X1_69 im_yX8_at se_yX8_at ini_X8 cd_X8_at) rfl rfl rfl (by decide +kernel) ⟨Nat.le_of_ble_eq_true rfl, Nat.le_of_ble_eq_true rfl⟩) t1 (by decide) rfl rfl rfl (Nat.le_of_ble_eq_true rfl) dX1_pullOf_78 ⟨Nat.le_of_ble_eq_true rfl, Nat.le_of_ble_eq_true rfl⟩ ?_
      refine v_sub (fun ls h9 => lv_sub h9 [1, 2, 3, 4, 5, 6, 0] rfl) ?_
      exact w_X1_pullOf_b81 F hr hlk t0 t1 _ _ _ _ h
    · rw [if_pos hc22] at h
      refine v_iload F dX1_pullOf_69 6 rfl ?_
      refine v_goto (tgt := 81) F dX1_pullOf_71 (by decide) ?_
      refine v_sub (fun ls h9 => lv_sub h9 [1, 2, 3, 4, 5, 6, 0] rfl) ?_
      exact w_X1_pullOf_b81 F hr hlk t0 t1 _ _ _ _ h
  · rw [if_pos hc16] at h
    refine v_iconst (v := 0) F dX1_pullOf_53 (by decide) ?_
    refine v_goto (tgt := 81) F dX1_pullOf_54 (by decide) ?_
    refine v_sub (fun ls h9 => lv_sub h9 [1, 2, 3, 4, 5, 6, 0] rfl) ?_
    exact w_X1_pullOf_b81 F hr hlk t0 t1 _ _ _ _ h
set_option maxHeartbeats 4000000 in
set_option maxRecDepth 100000 in
theorem c_X1_pullOf {g : gT} (l : Launch) (hok : gOK g)  {a0 : Nat} {a1 : Nat} {i2 : Int32} {i3 : Int32} {i4 : Int32} {M : Mem} {z : Int32 × Mem}  (t0 : Ty g 1 a0) (t1 : Ty g 8 a1) (h : f_X1_pullOf  M a0 a1 i2 i3 i4 = some z) : Cn g l yX1_pullOf uX1_pullOf 1 [.ref (gAd g a0), .ref (gAd g a1), .int i2, .int i3, .int i4] M (some (.int z.1)) z.2 := by
  refine Cn.of (cc := cX1_pullOf) (maxL := 8) (ret := (some .int)) hok (by decide) rfl (Nat.le_of_ble_eq_true rfl) (fun p e s m args below meth c F hr hlk => ?_)
  unfold f_X1_pullOf at h
  show V g p l e ({ frames := 1, cells := 0, slots := 0, locals := 40 * 1 } : Room) s m args below meth c 8 0 0 (MQ below (gQ g (some (.int z.1)) z.2) args s 0 0 (gA g)) 0 [(0, .ref (gAd g a0)), (1, .ref (gAd g a1)), (2, .int i2), (3, .int i3), (4, .int i4)] [] M
  refine v_aload_n F dX1_pullOf_0 rfl 1 rfl ?_
  refine v_iload_n F dX1_pullOf_1 rfl 2 rfl ?_
  obtain ⟨⟨r1, M2⟩, hz3, h⟩ := bd_some h
  dsimp only at h
  refine v_callVi (As := [.int i2]) (rest := []) F (c_X8_at l F.2.2.1 t1 hz3) (cwV 1 F.1.2.2.2.2 (gU_V ml_X1_69 im_yX8_at se_yX8_at ini_X8 cd_X8_at) rfl rfl rfl (by decide +kernel) ⟨Nat.le_of_ble_eq_true rfl, Nat.le_of_ble_eq_true rfl⟩) t1 (by decide) rfl rfl rfl (Nat.le_of_ble_eq_true rfl) dX1_pullOf_2 ⟨Nat.le_of_ble_eq_true rfl, Nat.le_of_ble_eq_true rfl⟩ ?_
  refine v_istore (lv' := [(5, .int r1), (0, .ref (gAd g a0)), (1, .ref (gAd g a1)), (2, .int i2), (3, .int i3), (4, .int i4)]) F dX1_pullOf_5 (by decide) rfl ?_
  refine v_iload_n F dX1_pullOf_7 rfl 3 rfl ?_
  refine v_if_ne (tgt := 15) F dX1_pullOf_8 (by decide) (fun hc5 => ?_) (fun hc5 => ?_)
  · rw [if_neg hc5] at h
    refine v_aload_n F dX1_pullOf_15 rfl 1 rfl ?_
    refine v_getR (k := 8) (f := 8) F t0 (by decide) (inc inU_1) rfl rfl (by decide) (by decide) (List.mem_cons_of_mem _ fl_X1_35) rfl dX1_pullOf_16 (fun u6 => ?_)
    refine v_iload_n F dX1_pullOf_19 rfl 3 rfl ?_
    refine v_iconst (v := 1) F dX1_pullOf_20 (by decide) ?_
    refine v_isub F dX1_pullOf_21 ?_
    obtain ⟨⟨r7, M8⟩, hz9, h⟩ := bd_some h
    dsimp only at h
    refine v_callVi (As := [.int (i2 - 1)]) (rest := []) F (c_X8_at l F.2.2.1 u6 hz9) (cwV 1 F.1.2.2.2.2 (gU_V ml_X1_69 im_yX8_at se_yX8_at ini_X8 cd_X8_at) rfl rfl rfl (by decide +kernel) ⟨Nat.le_of_ble_eq_true rfl, Nat.le_of_ble_eq_true rfl⟩) u6 (by decide) rfl rfl rfl (Nat.le_of_ble_eq_true rfl) dX1_pullOf_22 ⟨Nat.le_of_ble_eq_true rfl, Nat.le_of_ble_eq_true rfl⟩ ?_
    refine v_iconst (v := 1) F dX1_pullOf_25 (by decide) ?_
    refine v_icmp_ne (tgt := 34) F dX1_pullOf_26 (by decide) (fun hc11 => ?_) (fun hc11 => ?_)
    · rw [if_neg hc11] at h
      refine v_aload_n F dX1_pullOf_34 rfl 2 rfl ?_
      refine v_iload_n F dX1_pullOf_35 rfl 3 rfl ?_
      refine v_iconst (v := 1) F dX1_pullOf_36 (by decide) ?_
      refine v_isub F dX1_pullOf_37 ?_
      obtain ⟨⟨r12, M13⟩, hz14, h⟩ := bd_some h
      dsimp only at h
      refine v_callVi (As := [.int (i2 - 1)]) (rest := []) F (c_X8_at l F.2.2.1 t1 hz14) (cwV 1 F.1.2.2.2.2 (gU_V ml_X1_69 im_yX8_at se_yX8_at ini_X8 cd_X8_at) rfl rfl rfl (by decide +kernel) ⟨Nat.le_of_ble_eq_true rfl, Nat.le_of_ble_eq_true rfl⟩) t1 (by decide) rfl rfl rfl (Nat.le_of_ble_eq_true rfl) dX1_pullOf_38 ⟨Nat.le_of_ble_eq_true rfl, Nat.le_of_ble_eq_true rfl⟩ ?_
      refine v_sub (fun ls h9 => lv_sub h9 [1, 2, 3, 4, 5, 0] rfl) ?_
      exact w_X1_pullOf_b41 F hr hlk t0 t1 _ _ _ h
    · rw [if_pos hc11] at h
      refine v_iload F dX1_pullOf_29 0 rfl ?_
      refine v_goto (tgt := 41) F dX1_pullOf_31 (by decide) ?_
      refine v_sub (fun ls h9 => lv_sub h9 [1, 2, 3, 4, 5, 0] rfl) ?_
      exact w_X1_pullOf_b41 F hr hlk t0 t1 _ _ _ h
  · rw [if_pos hc5] at h
    refine v_iconst (v := 0) F dX1_pullOf_11 (by decide) ?_
    refine v_goto (tgt := 41) F dX1_pullOf_12 (by decide) ?_
    refine v_sub (fun ls h9 => lv_sub h9 [1, 2, 3, 4, 5, 0] rfl) ?_
    exact w_X1_pullOf_b41 F hr hlk t0 t1 _ _ _ h
def f_X3_ofTwo  (M : Mem) (i0 : Int32) (i1 : Int32) (i2 : Int32) : Option (Int32 × Mem) := if i0 = 42 then (some (i1 * i2, M)) else (if i0 = 43 then (some (i1 + i2, M)) else (if i0 = 45 then (some (i1 - i2, M)) else (if i0 = 47 then (if i2 = 0 then (some (0, M)) else (if i2 = 0 then none else some (i1 / i2, M))) else (if i0 = 60 then (if i2 ≤ i1 then (some (0, M)) else (some (1, M))) else (if i0 = 61 then (if i1 = i2 then (some (1, M)) else (some (0, M))) else (if i0 = 62 then (if i1 ≤ i2 then (some (0, M)) else (some (1, M))) else (if i0 = 311 then (if i2 = 0 then (some (0, M)) else (some (i1, M))) else (if i0 = 312 then (some (i1 ||| i2, M)) else (if i0 = 313 then (some (i1 &&& i2, M)) else (if i0 = 315 then (some (if i2 < i1 then i2 else i1, M)) else (if i0 = 316 then (some (if i1 < i2 then i2 else i1, M)) else (some (0, M)))))))))))))
set_option maxHeartbeats 4000000 in
set_option maxRecDepth 100000 in
theorem c_X3_ofTwo {g : gT} (l : Launch) (hok : gOK g)  {i0 : Int32} {i1 : Int32} {i2 : Int32} {M : Mem} {z : Int32 × Mem}   (h : f_X3_ofTwo  M i0 i1 i2 = some z) : Cn g l yX3_ofTwo uX3_ofTwo 1 [.int i0, .int i1, .int i2] M (some (.int z.1)) z.2 := by
  refine Cn.of (cc := cX3_ofTwo) (maxL := 3) (ret := (some .int)) hok (by decide) rfl (Nat.le_of_ble_eq_true rfl) (fun p e s m args below meth c F hr hlk => ?_)
  unfold f_X3_ofTwo at h
  show V g p l e ({ frames := 1, cells := 0, slots := 0, locals := 40 * 1 } : Room) s m args below meth c 3 0 0 (MQ below (gQ g (some (.int z.1)) z.2) args s 0 0 (gA g)) 0 [(0, .int i0), (1, .int i1), (2, .int i2)] [] M
  refine v_iload_n F dX3_ofTwo_0 rfl 0 rfl ?_
  by_cases hs1 : i0 = 42
  · rw [if_pos hs1] at h
    rw [show (Value.int i0) = Value.int 42 from congrArg Value.int hs1]
    refine v_lookup (tgt := 116) F dX3_ofTwo_1 (by decide) rfl (by decide) ?_
    refine v_iload_n F dX3_ofTwo_116 rfl 1 rfl ?_
    refine v_iload_n F dX3_ofTwo_117 rfl 2 rfl ?_
    refine v_imul F dX3_ofTwo_118 ?_
    cases h
    exact v_iret F hr rfl hlk dX3_ofTwo_119
  rw [if_neg hs1] at h
  by_cases hs2 : i0 = 43
  · rw [if_pos hs2] at h
    rw [show (Value.int i0) = Value.int 43 from congrArg Value.int hs2]
    refine v_lookup (tgt := 108) F dX3_ofTwo_1 (by decide) rfl (by decide) ?_
    refine v_iload_n F dX3_ofTwo_108 rfl 1 rfl ?_
    refine v_iload_n F dX3_ofTwo_109 rfl 2 rfl ?_
    refine v_iadd F dX3_ofTwo_110 ?_
    cases h
    exact v_iret F hr rfl hlk dX3_ofTwo_111
  rw [if_neg hs2] at h
  by_cases hs3 : i0 = 45
  · rw [if_pos hs3] at h
    rw [show (Value.int i0) = Value.int 45 from congrArg Value.int hs3]
    refine v_lookup (tgt := 112) F dX3_ofTwo_1 (by decide) rfl (by decide) ?_
    refine v_iload_n F dX3_ofTwo_112 rfl 1 rfl ?_
    refine v_iload_n F dX3_ofTwo_113 rfl 2 rfl ?_
    refine v_isub F dX3_ofTwo_114 ?_
    cases h
    exact v_iret F hr rfl hlk dX3_ofTwo_115
  rw [if_neg hs3] at h
  by_cases hs4 : i0 = 47
  · rw [if_pos hs4] at h
    rw [show (Value.int i0) = Value.int 47 from congrArg Value.int hs4]
    refine v_lookup (tgt := 120) F dX3_ofTwo_1 (by decide) rfl (by decide) ?_
    refine v_iload_n F dX3_ofTwo_120 rfl 2 rfl ?_
    refine v_if_ne (tgt := 128) F dX3_ofTwo_121 (by decide) (fun hc5 => ?_) (fun hc5 => ?_)
    · rw [if_neg hc5] at h
      refine v_iload_n F dX3_ofTwo_128 rfl 1 rfl ?_
      refine v_iload_n F dX3_ofTwo_129 rfl 2 rfl ?_
      by_cases hz6 : i2 = 0
      · rw [if_pos hz6] at h; cases h
      rw [if_neg hz6] at h
      refine v_idiv F dX3_ofTwo_130 hz6 ?_
      cases h
      exact v_iret F hr rfl hlk dX3_ofTwo_131
    · rw [if_pos hc5] at h
      refine v_iconst (v := 0) F dX3_ofTwo_124 (by decide) ?_
      refine v_goto (tgt := 131) F dX3_ofTwo_125 (by decide) ?_
      cases h
      exact v_iret F hr rfl hlk dX3_ofTwo_131
  rw [if_neg hs4] at h
  by_cases hs7 : i0 = 60
  · rw [if_pos hs7] at h
    rw [show (Value.int i0) = Value.int 60 from congrArg Value.int hs7]
    refine v_lookup (tgt := 132) F dX3_ofTwo_1 (by decide) rfl (by decide) ?_
    refine v_iload_n F dX3_ofTwo_132 rfl 1 rfl ?_
    refine v_iload_n F dX3_ofTwo_133 rfl 2 rfl ?_
    refine v_icmp_ge (tgt := 141) F dX3_ofTwo_134 (by decide) (fun hc8 => ?_) (fun hc8 => ?_)
    · rw [if_pos hc8] at h
      refine v_iconst (v := 0) F dX3_ofTwo_141 (by decide) ?_
      cases h
      exact v_iret F hr rfl hlk dX3_ofTwo_142
    · rw [if_neg hc8] at h
      refine v_iconst (v := 1) F dX3_ofTwo_137 (by decide) ?_
      refine v_goto (tgt := 142) F dX3_ofTwo_138 (by decide) ?_
      cases h
      exact v_iret F hr rfl hlk dX3_ofTwo_142
  rw [if_neg hs7] at h
  by_cases hs9 : i0 = 61
  · rw [if_pos hs9] at h
    rw [show (Value.int i0) = Value.int 61 from congrArg Value.int hs9]
    refine v_lookup (tgt := 154) F dX3_ofTwo_1 (by decide) rfl (by decide) ?_
    refine v_iload_n F dX3_ofTwo_154 rfl 1 rfl ?_
    refine v_iload_n F dX3_ofTwo_155 rfl 2 rfl ?_
    refine v_icmp_ne (tgt := 163) F dX3_ofTwo_156 (by decide) (fun hc10 => ?_) (fun hc10 => ?_)
    · rw [if_neg hc10] at h
      refine v_iconst (v := 0) F dX3_ofTwo_163 (by decide) ?_
      cases h
      exact v_iret F hr rfl hlk dX3_ofTwo_164
    · rw [if_pos hc10] at h
      refine v_iconst (v := 1) F dX3_ofTwo_159 (by decide) ?_
      refine v_goto (tgt := 164) F dX3_ofTwo_160 (by decide) ?_
      cases h
      exact v_iret F hr rfl hlk dX3_ofTwo_164
  rw [if_neg hs9] at h
  by_cases hs11 : i0 = 62
  · rw [if_pos hs11] at h
    rw [show (Value.int i0) = Value.int 62 from congrArg Value.int hs11]
    refine v_lookup (tgt := 143) F dX3_ofTwo_1 (by decide) rfl (by decide) ?_
    refine v_iload_n F dX3_ofTwo_143 rfl 1 rfl ?_
    refine v_iload_n F dX3_ofTwo_144 rfl 2 rfl ?_
    refine v_icmp_le (tgt := 152) F dX3_ofTwo_145 (by decide) (fun hc12 => ?_) (fun hc12 => ?_)
    · rw [if_pos hc12] at h
      refine v_iconst (v := 0) F dX3_ofTwo_152 (by decide) ?_
      cases h
      exact v_iret F hr rfl hlk dX3_ofTwo_153
    · rw [if_neg hc12] at h
      refine v_iconst (v := 1) F dX3_ofTwo_148 (by decide) ?_
      refine v_goto (tgt := 153) F dX3_ofTwo_149 (by decide) ?_
      cases h
      exact v_iret F hr rfl hlk dX3_ofTwo_153
  rw [if_neg hs11] at h
  by_cases hs13 : i0 = 311
  · rw [if_pos hs13] at h
    rw [show (Value.int i0) = Value.int 311 from congrArg Value.int hs13]
    refine v_lookup (tgt := 185) F dX3_ofTwo_1 (by decide) rfl (by decide) ?_
    refine v_iload_n F dX3_ofTwo_185 rfl 2 rfl ?_
    refine v_if_ne (tgt := 193) F dX3_ofTwo_186 (by decide) (fun hc14 => ?_) (fun hc14 => ?_)
    · rw [if_neg hc14] at h
      refine v_iload_n F dX3_ofTwo_193 rfl 1 rfl ?_
      cases h
      exact v_iret F hr rfl hlk dX3_ofTwo_194
    · rw [if_pos hc14] at h
      refine v_iconst (v := 0) F dX3_ofTwo_189 (by decide) ?_
      refine v_goto (tgt := 194) F dX3_ofTwo_190 (by decide) ?_
      cases h
      exact v_iret F hr rfl hlk dX3_ofTwo_194
  rw [if_neg hs13] at h
  by_cases hs15 : i0 = 312
  · rw [if_pos hs15] at h
    rw [show (Value.int i0) = Value.int 312 from congrArg Value.int hs15]
    refine v_lookup (tgt := 169) F dX3_ofTwo_1 (by decide) rfl (by decide) ?_
    refine v_iload_n F dX3_ofTwo_169 rfl 1 rfl ?_
    refine v_iload_n F dX3_ofTwo_170 rfl 2 rfl ?_
    refine v_ior F dX3_ofTwo_171 ?_
    cases h
    exact v_iret F hr rfl hlk dX3_ofTwo_172
  rw [if_neg hs15] at h
  by_cases hs16 : i0 = 313
  · rw [if_pos hs16] at h
    rw [show (Value.int i0) = Value.int 313 from congrArg Value.int hs16]
    refine v_lookup (tgt := 165) F dX3_ofTwo_1 (by decide) rfl (by decide) ?_
    refine v_iload_n F dX3_ofTwo_165 rfl 1 rfl ?_
    refine v_iload_n F dX3_ofTwo_166 rfl 2 rfl ?_
    refine v_iand F dX3_ofTwo_167 ?_
    cases h
    exact v_iret F hr rfl hlk dX3_ofTwo_168
  rw [if_neg hs16] at h
  by_cases hs17 : i0 = 315
  · rw [if_pos hs17] at h
    rw [show (Value.int i0) = Value.int 315 from congrArg Value.int hs17]
    refine v_lookup (tgt := 173) F dX3_ofTwo_1 (by decide) rfl (by decide) ?_
    refine v_iload_n F dX3_ofTwo_173 rfl 1 rfl ?_
    refine v_iload_n F dX3_ofTwo_174 rfl 2 rfl ?_
    refine v_mmin F (List.mem_cons_of_mem _ ml_X3_54) (List.mem_cons_of_mem _ st_mmin) (List.mem_cons_of_mem _ ini_Math) (List.mem_cons_of_mem _ cd_mmin) dX3_ofTwo_175 ⟨Nat.le_of_ble_eq_true rfl, Nat.le_of_ble_eq_true rfl, Nat.le_of_ble_eq_true rfl, Nat.le_of_ble_eq_true rfl⟩ (Nat.le_of_ble_eq_true rfl) ?_
    cases h
    exact v_iret F hr rfl hlk dX3_ofTwo_178
  rw [if_neg hs17] at h
  by_cases hs18 : i0 = 316
  · rw [if_pos hs18] at h
    rw [show (Value.int i0) = Value.int 316 from congrArg Value.int hs18]
    refine v_lookup (tgt := 179) F dX3_ofTwo_1 (by decide) rfl (by decide) ?_
    refine v_iload_n F dX3_ofTwo_179 rfl 1 rfl ?_
    refine v_iload_n F dX3_ofTwo_180 rfl 2 rfl ?_
    refine v_mmax F (List.mem_cons_of_mem _ ml_X3_60) (List.mem_cons_of_mem _ st_mmax) (List.mem_cons_of_mem _ ini_Math) (List.mem_cons_of_mem _ cd_mmax) dX3_ofTwo_181 ⟨Nat.le_of_ble_eq_true rfl, Nat.le_of_ble_eq_true rfl, Nat.le_of_ble_eq_true rfl, Nat.le_of_ble_eq_true rfl⟩ (Nat.le_of_ble_eq_true rfl) ?_
    cases h
    exact v_iret F hr rfl hlk dX3_ofTwo_184
  rw [if_neg hs18] at h
  refine v_lookup (off := 194) (tgt := 195) F dX3_ofTwo_1 (by decide) (by simp [Op.lookupswitch.offset, (show ¬ (42 : Int) = i0.toInt from fun q => lv_neT hs1 (a := 42) rfl q.symm), (show ¬ (43 : Int) = i0.toInt from fun q => lv_neT hs2 (a := 43) rfl q.symm), (show ¬ (45 : Int) = i0.toInt from fun q => lv_neT hs3 (a := 45) rfl q.symm), (show ¬ (47 : Int) = i0.toInt from fun q => lv_neT hs4 (a := 47) rfl q.symm), (show ¬ (60 : Int) = i0.toInt from fun q => lv_neT hs7 (a := 60) rfl q.symm), (show ¬ (61 : Int) = i0.toInt from fun q => lv_neT hs9 (a := 61) rfl q.symm), (show ¬ (62 : Int) = i0.toInt from fun q => lv_neT hs11 (a := 62) rfl q.symm), (show ¬ (311 : Int) = i0.toInt from fun q => lv_neT hs13 (a := 311) rfl q.symm), (show ¬ (312 : Int) = i0.toInt from fun q => lv_neT hs15 (a := 312) rfl q.symm), (show ¬ (313 : Int) = i0.toInt from fun q => lv_neT hs16 (a := 313) rfl q.symm), (show ¬ (315 : Int) = i0.toInt from fun q => lv_neT hs17 (a := 315) rfl q.symm), (show ¬ (316 : Int) = i0.toInt from fun q => lv_neT hs18 (a := 316) rfl q.symm)]) (by decide) ?_
  refine v_iconst (v := 0) F dX3_ofTwo_195 (by decide) ?_
  cases h
  exact v_iret F hr rfl hlk dX3_ofTwo_196
