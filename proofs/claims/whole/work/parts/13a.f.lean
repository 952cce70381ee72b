def f_X6_emit  (M : Mem) (a0 : Nat) (i1 : Int32) : Option (Int32 × Mem) := (f_X8_put M (gRf a0 0) (M a0 1) i1).bind fun q => match q with | (r2, M3) => (some (0, (mU M3 a0 1 ((M3 a0 1) + 1))))
set_option maxHeartbeats 4000000 in
set_option maxRecDepth 100000 in
theorem c_X6_emit {g : gT} (l : Launch) (hok : gOK g)  {a0 : Nat} {i1 : Int32} {M : Mem} {z : Int32 × Mem}  (t0 : Ty g 6 a0) (h : f_X6_emit  M a0 i1 = some z) : Cn g l yX6_emit uX6_emit 1 [.ref (gAd g a0), .int i1] M none z.2 := by
  refine Cn.of (cc := cX6_emit) (maxL := 2) (ret := none) hok (by decide) rfl (Nat.le_of_ble_eq_true rfl) (fun p e s m args below meth c F hr hlk => ?_)
  unfold f_X6_emit at h
  show V g p l e ({ frames := 1, cells := 0, slots := 0, locals := 40 * 1 } : Room) s m args below meth c 2 0 0 (MQ below (gQ g none z.2) args s 0 0 (gA g)) 0 [(0, .ref (gAd g a0)), (1, .int i1)] [] M
  refine v_aload_n F dX6_emit_0 rfl 0 rfl ?_
  refine v_getR (k := 0) (f := 8) F t0 (by decide) (inc inU_6) rfl rfl (by decide) (by decide) (List.mem_cons_of_mem _ fl_X6_14) rfl dX6_emit_1 (fun u1 => ?_)
  refine v_aload_n F dX6_emit_4 rfl 0 rfl ?_
  refine v_getI (k := 1) F t0 (by decide) (inc inU_6) rfl rfl (by decide) (List.mem_cons_of_mem _ fl_X6_31) rfl dX6_emit_5 ?_
  refine v_iload_n F dX6_emit_8 rfl 1 rfl ?_
  obtain ⟨⟨r2, M3⟩, hz4, h⟩ := bd_some h
  dsimp only at h
  refine v_callVv (As := [.int (M a0 1), .int i1]) (rest := []) F (c_X8_put l F.2.2.1 u1 hz4) (cwV 2 F.1.2.2.2.2 (gU_V ml_X6_91 im_yX8_put se_yX8_put ini_X8 cd_X8_put) rfl rfl rfl (by decide +kernel) ⟨Nat.le_of_ble_eq_true rfl, Nat.le_of_ble_eq_true rfl⟩) u1 (by decide) rfl rfl rfl (Nat.le_of_ble_eq_true rfl) dX6_emit_9 ⟨Nat.le_of_ble_eq_true rfl, Nat.le_of_ble_eq_true rfl⟩ ?_
  refine v_aload_n F dX6_emit_12 rfl 0 rfl ?_
  refine v_dup F dX6_emit_13 rfl ?_
  refine v_getI (k := 1) F t0 (by decide) (inc inU_6) rfl rfl (by decide) (List.mem_cons_of_mem _ fl_X6_31) rfl dX6_emit_14 ?_
  refine v_iconst (v := 1) F dX6_emit_17 (by decide) ?_
  refine v_iadd F dX6_emit_18 ?_
  refine v_put (k := 1) (ty := .int) F t0 (by decide) (inc inU_6) tyX6 tyX6_ok nmX6 rfl rfl (by decide) (List.mem_cons_of_mem _ fl_X6_31) rfl rfl (by decide +kernel) rfl rfl dX6_emit_19 ?_
  cases h
  exact v_vret F hr hlk dX6_emit_22
def f_X6_fail  (M : Mem) (a0 : Nat) (i1 : Int32) : Option (Int32 × Mem) := if (M a0 2) = 0 then (some (0, (mU (mU (mU M a0 2 i1) a0 3 ((mU M a0 2 i1) a0 7)) a0 6 402))) else (some (0, M))
set_option maxHeartbeats 4000000 in
set_option maxRecDepth 100000 in
theorem c_X6_fail {g : gT} (l : Launch) (hok : gOK g)  {a0 : Nat} {i1 : Int32} {M : Mem} {z : Int32 × Mem}  (t0 : Ty g 6 a0) (h : f_X6_fail  M a0 i1 = some z) : Cn g l yX6_fail uX6_fail 0 [.ref (gAd g a0), .int i1] M none z.2 := by
  refine Cn.of (cc := cX6_fail) (maxL := 2) (ret := none) hok (by decide) rfl (Nat.le_of_ble_eq_true rfl) (fun p e s m args below meth c F hr hlk => ?_)
  unfold f_X6_fail at h
  show V g p l e ({ frames := 0, cells := 0, slots := 0, locals := 40 * 0 } : Room) s m args below meth c 2 0 0 (MQ below (gQ g none z.2) args s 0 0 (gA g)) 0 [(0, .ref (gAd g a0)), (1, .int i1)] [] M
  refine v_aload_n F dX6_fail_0 rfl 0 rfl ?_
  refine v_getI (k := 2) F t0 (by decide) (inc inU_6) rfl rfl (by decide) (List.mem_cons_of_mem _ fl_X6_35) rfl dX6_fail_1 ?_
  refine v_if_ne (tgt := 27) F dX6_fail_4 (by decide) (fun hc1 => ?_) (fun hc1 => ?_)
  · rw [if_neg hc1] at h
    cases h
    exact v_vret F hr hlk dX6_fail_27
  · rw [if_pos hc1] at h
    refine v_aload_n F dX6_fail_7 rfl 0 rfl ?_
    refine v_iload_n F dX6_fail_8 rfl 1 rfl ?_
    refine v_put (k := 2) (ty := .int) F t0 (by decide) (inc inU_6) tyX6 tyX6_ok nmX6 rfl rfl (by decide) (List.mem_cons_of_mem _ fl_X6_35) rfl rfl (by decide +kernel) rfl rfl dX6_fail_9 ?_
    refine v_aload_n F dX6_fail_12 rfl 0 rfl ?_
    refine v_aload_n F dX6_fail_13 rfl 0 rfl ?_
    refine v_getI (k := 7) F t0 (by decide) (inc inU_6) rfl rfl (by decide) (List.mem_cons_of_mem _ fl_X6_85) rfl dX6_fail_14 ?_
    refine v_put (k := 3) (ty := .int) F t0 (by decide) (inc inU_6) tyX6 tyX6_ok nmX6 rfl rfl (by decide) (List.mem_cons_of_mem _ fl_X6_38) rfl rfl (by decide +kernel) rfl rfl dX6_fail_17 ?_
    refine v_aload_n F dX6_fail_20 rfl 0 rfl ?_
    refine v_sipush (v := 402) F dX6_fail_21 (by decide) ?_
    refine v_put (k := 6) (ty := .int) F t0 (by decide) (inc inU_6) tyX6 tyX6_ok nmX6 rfl rfl (by decide) (List.mem_cons_of_mem _ fl_X6_47) rfl rfl (by decide +kernel) rfl rfl dX6_fail_24 ?_
    cases h
    exact v_vret F hr hlk dX6_fail_27
def f_X6_step_b135 (a0 : Nat)  (s0 : Nat) (s1 : Int32) (M : Mem) : Option (Int32 × Mem) := some (0, (mU M s0 8 s1))
def f_X6_step_b134 (a0 : Nat)  (s0 : Nat) (M : Mem) : Option (Int32 × Mem) := f_X6_step_b135 a0 s0 0 M
def f_X6_step_b93 (a0 : Nat)  (s0 : Nat) (s1 : Int32) (M : Mem) : Option (Int32 × Mem) := if ((mU M s0 7 s1) a0 5) < 0 then (f_X6_step_b134 a0 a0 (mU M s0 7 s1)) else (if (nI (gN (gRf (gRf a0 4) 2))) ≤ ((mU M s0 7 s1) a0 5) then (f_X6_step_b134 a0 a0 (mU M s0 7 s1)) else (if ¬ (((mU M s0 7 s1) a0 5) < 0 ∨ gN (gRf (gRf a0 4) 2) ≤ ((mU M s0 7 s1) a0 5 : Int32).toNatClampNeg) then (f_X6_step_b135 a0 a0 ((mU M s0 7 s1) (gRf (gRf a0 4) 2) ((mU M s0 7 s1) a0 5 : Int32).toNatClampNeg) (mU M s0 7 s1)) else none))
def f_X6_step_b92 (a0 : Nat)  (s0 : Nat) (M : Mem) : Option (Int32 × Mem) := f_X6_step_b93 a0 s0 0 M
def f_X6_step_b51 (a0 : Nat)  (s0 : Nat) (s1 : Int32) (M : Mem) : Option (Int32 × Mem) := if ((mU M s0 6 s1) a0 5) < 0 then (f_X6_step_b92 a0 a0 (mU M s0 6 s1)) else (if (nI (gN (gRf (gRf a0 4) 1))) ≤ ((mU M s0 6 s1) a0 5) then (f_X6_step_b92 a0 a0 (mU M s0 6 s1)) else (if ¬ (((mU M s0 6 s1) a0 5) < 0 ∨ gN (gRf (gRf a0 4) 1) ≤ ((mU M s0 6 s1) a0 5 : Int32).toNatClampNeg) then (f_X6_step_b93 a0 a0 ((mU M s0 6 s1) (gRf (gRf a0 4) 1) ((mU M s0 6 s1) a0 5 : Int32).toNatClampNeg) (mU M s0 6 s1)) else none))
def f_X6_step_b48 (a0 : Nat)  (s0 : Nat) (M : Mem) : Option (Int32 × Mem) := f_X6_step_b51 a0 s0 401 M
def f_X6_step  (M : Mem) (a0 : Nat) : Option (Int32 × Mem) := if ((mU M a0 5 ((M a0 5) + 1)) a0 5) < 0 then (f_X6_step_b48 a0 a0 (mU M a0 5 ((M a0 5) + 1))) else (if (nI (gN (gRf (gRf a0 4) 0))) ≤ ((mU M a0 5 ((M a0 5) + 1)) a0 5) then (f_X6_step_b48 a0 a0 (mU M a0 5 ((M a0 5) + 1))) else (if ¬ (((mU M a0 5 ((M a0 5) + 1)) a0 5) < 0 ∨ gN (gRf (gRf a0 4) 0) ≤ ((mU M a0 5 ((M a0 5) + 1)) a0 5 : Int32).toNatClampNeg) then (f_X6_step_b51 a0 a0 ((mU M a0 5 ((M a0 5) + 1)) (gRf (gRf a0 4) 0) ((mU M a0 5 ((M a0 5) + 1)) a0 5 : Int32).toNatClampNeg) (mU M a0 5 ((M a0 5) + 1))) else none))
set_option maxHeartbeats 4000000 in
set_option maxRecDepth 100000 in
theorem w_X6_step_b135 {g : gT} {p : Program} {l : Launch} {e : Env} {s : State} {m : MethodId} {args : Array Value} {below : List Frame} {meth : Method} {c : Code} {z : Int32 × Mem} (F : Fx g p s m args c cX6_step 1 uX6_step RX6) (hr : meth.sig.returnType = none) (hlk : meth.locks = false)  {a0 : Nat} (t0 : Ty g 6 a0)   (s0 : Nat) (s1 : Int32) (M : Mem) (ts0 : Ty g 6 s0) (h : f_X6_step_b135 a0 s0 s1 M = some z) : V g p l e ({ frames := 0, cells := 0, slots := 0, locals := 40 * 0 } : Room) s m args below meth c 1 0 0 (MQ below (gQ g none z.2) args s 0 0 (gA g)) 135 [(0, .ref (gAd g a0))] [.int s1, .ref (gAd g s0)] M := by
  unfold f_X6_step_b135 at h
  refine v_put (k := 8) (ty := .int) F ts0 (by decide) (inc inU_6) tyX6 tyX6_ok nmX6 rfl rfl (by decide) (List.mem_cons_of_mem _ fl_X6_68) rfl rfl (by decide +kernel) rfl rfl dX6_step_135 ?_
  cases h
  exact v_vret F hr hlk dX6_step_138
set_option maxHeartbeats 4000000 in
set_option maxRecDepth 100000 in
theorem w_X6_step_b134 {g : gT} {p : Program} {l : Launch} {e : Env} {s : State} {m : MethodId} {args : Array Value} {below : List Frame} {meth : Method} {c : Code} {z : Int32 × Mem} (F : Fx g p s m args c cX6_step 1 uX6_step RX6) (hr : meth.sig.returnType = none) (hlk : meth.locks = false)  {a0 : Nat} (t0 : Ty g 6 a0)   (s0 : Nat) (M : Mem) (ts0 : Ty g 6 s0) (h : f_X6_step_b134 a0 s0 M = some z) : V g p l e ({ frames := 0, cells := 0, slots := 0, locals := 40 * 0 } : Room) s m args below meth c 1 0 0 (MQ below (gQ g none z.2) args s 0 0 (gA g)) 134 [(0, .ref (gAd g a0))] [.ref (gAd g s0)] M := by
  unfold f_X6_step_b134 at h
  refine v_iconst (v := 0) F dX6_step_134 (by decide) ?_
  exact w_X6_step_b135 F hr hlk t0 _ _ _ ts0 h
set_option maxHeartbeats 4000000 in
set_option maxRecDepth 100000 in
theorem w_X6_step_b93 {g : gT} {p : Program} {l : Launch} {e : Env} {s : State} {m : MethodId} {args : Array Value} {below : List Frame} {meth : Method} {c : Code} {z : Int32 × Mem} (F : Fx g p s m args c cX6_step 1 uX6_step RX6) (hr : meth.sig.returnType = none) (hlk : meth.locks = false)  {a0 : Nat} (t0 : Ty g 6 a0)   (s0 : Nat) (s1 : Int32) (M : Mem) (ts0 : Ty g 6 s0) (h : f_X6_step_b93 a0 s0 s1 M = some z) : V g p l e ({ frames := 0, cells := 0, slots := 0, locals := 40 * 0 } : Room) s m args below meth c 1 0 0 (MQ below (gQ g none z.2) args s 0 0 (gA g)) 93 [(0, .ref (gAd g a0))] [.int s1, .ref (gAd g s0)] M := by
  unfold f_X6_step_b93 at h
  refine v_put (k := 7) (ty := .int) F ts0 (by decide) (inc inU_6) tyX6 tyX6_ok nmX6 rfl rfl (by decide) (List.mem_cons_of_mem _ fl_X6_85) rfl rfl (by decide +kernel) rfl rfl dX6_step_93 ?_
  refine v_aload_n F dX6_step_96 rfl 0 rfl ?_
  refine v_aload_n F dX6_step_97 rfl 0 rfl ?_
  refine v_getI (k := 5) F t0 (by decide) (inc inU_6) rfl rfl (by decide) (List.mem_cons_of_mem _ fl_X6_41) rfl dX6_step_98 ?_
  refine v_if_lt (tgt := 134) F dX6_step_101 (by decide) (fun hc15 => ?_) (fun hc15 => ?_)
  · rw [if_pos hc15] at h
    exact w_X6_step_b134 F hr hlk t0 _ _ t0 h
  · rw [if_neg hc15] at h
    refine v_aload_n F dX6_step_104 rfl 0 rfl ?_
    refine v_getI (k := 5) F t0 (by decide) (inc inU_6) rfl rfl (by decide) (List.mem_cons_of_mem _ fl_X6_41) rfl dX6_step_105 ?_
    refine v_aload_n F dX6_step_108 rfl 0 rfl ?_
    refine v_getR (k := 4) (f := 9) F t0 (by decide) (inc inU_6) rfl rfl (by decide) (by decide) (List.mem_cons_of_mem _ fl_X6_23) rfl dX6_step_109 (fun u16 => ?_)
    refine v_getR (k := 2) (f := 12) F u16 (by decide) (inc inU_9) rfl rfl (by decide) (by decide) (List.mem_cons_of_mem _ fl_X6_88) rfl dX6_step_112 (fun u17 => ?_)
    refine v_alen (t0 := 0) F u17 (by decide) rfl dX6_step_115 ?_
    refine v_icmp_ge (tgt := 134) F dX6_step_116 (by decide) (fun hc18 => ?_) (fun hc18 => ?_)
    · rw [if_pos hc18] at h
      exact w_X6_step_b134 F hr hlk t0 _ _ t0 h
    · rw [if_neg hc18] at h
      refine v_aload_n F dX6_step_119 rfl 0 rfl ?_
      refine v_getR (k := 4) (f := 9) F t0 (by decide) (inc inU_6) rfl rfl (by decide) (by decide) (List.mem_cons_of_mem _ fl_X6_23) rfl dX6_step_120 (fun u19 => ?_)
      refine v_getR (k := 2) (f := 12) F u19 (by decide) (inc inU_9) rfl rfl (by decide) (by decide) (List.mem_cons_of_mem _ fl_X6_88) rfl dX6_step_123 (fun u20 => ?_)
      refine v_aload_n F dX6_step_126 rfl 0 rfl ?_
      refine v_getI (k := 5) F t0 (by decide) (inc inU_6) rfl rfl (by decide) (List.mem_cons_of_mem _ fl_X6_41) rfl dX6_step_127 ?_
      obtain ⟨hin21, h⟩ := gd_some h
      refine v_iald F u20 hin21 dX6_step_130 ?_
      refine v_goto (tgt := 135) F dX6_step_131 (by decide) ?_
      exact w_X6_step_b135 F hr hlk t0 _ _ _ t0 h
set_option maxHeartbeats 4000000 in
set_option maxRecDepth 100000 in
theorem w_X6_step_b92 {g : gT} {p : Program} {l : Launch} {e : Env} {s : State} {m : MethodId} {args : Array Value} {below : List Frame} {meth : Method} {c : Code} {z : Int32 × Mem} (F : Fx g p s m args c cX6_step 1 uX6_step RX6) (hr : meth.sig.returnType = none) (hlk : meth.locks = false)  {a0 : Nat} (t0 : Ty g 6 a0)   (s0 : Nat) (M : Mem) (ts0 : Ty g 6 s0) (h : f_X6_step_b92 a0 s0 M = some z) : V g p l e ({ frames := 0, cells := 0, slots := 0, locals := 40 * 0 } : Room) s m args below meth c 1 0 0 (MQ below (gQ g none z.2) args s 0 0 (gA g)) 92 [(0, .ref (gAd g a0))] [.ref (gAd g s0)] M := by
  unfold f_X6_step_b92 at h
  refine v_iconst (v := 0) F dX6_step_92 (by decide) ?_
  exact w_X6_step_b93 F hr hlk t0 _ _ _ ts0 h
set_option maxHeartbeats 4000000 in
set_option maxRecDepth 100000 in
theorem w_X6_step_b51 {g : gT} {p : Program} {l : Launch} {e : Env} {s : State} {m : MethodId} {args : Array Value} {below : List Frame} {meth : Method} {c : Code} {z : Int32 × Mem} (F : Fx g p s m args c cX6_step 1 uX6_step RX6) (hr : meth.sig.returnType = none) (hlk : meth.locks = false)  {a0 : Nat} (t0 : Ty g 6 a0)   (s0 : Nat) (s1 : Int32) (M : Mem) (ts0 : Ty g 6 s0) (h : f_X6_step_b51 a0 s0 s1 M = some z) : V g p l e ({ frames := 0, cells := 0, slots := 0, locals := 40 * 0 } : Room) s m args below meth c 1 0 0 (MQ below (gQ g none z.2) args s 0 0 (gA g)) 51 [(0, .ref (gAd g a0))] [.int s1, .ref (gAd g s0)] M := by
  unfold f_X6_step_b51 at h
  refine v_put (k := 6) (ty := .int) F ts0 (by decide) (inc inU_6) tyX6 tyX6_ok nmX6 rfl rfl (by decide) (List.mem_cons_of_mem _ fl_X6_47) rfl rfl (by decide +kernel) rfl rfl dX6_step_51 ?_
  refine v_aload_n F dX6_step_54 rfl 0 rfl ?_
  refine v_aload_n F dX6_step_55 rfl 0 rfl ?_
  refine v_getI (k := 5) F t0 (by decide) (inc inU_6) rfl rfl (by decide) (List.mem_cons_of_mem _ fl_X6_41) rfl dX6_step_56 ?_
  refine v_if_lt (tgt := 92) F dX6_step_59 (by decide) (fun hc8 => ?_) (fun hc8 => ?_)
  · rw [if_pos hc8] at h
    exact w_X6_step_b92 F hr hlk t0 _ _ t0 h
  · rw [if_neg hc8] at h
    refine v_aload_n F dX6_step_62 rfl 0 rfl ?_
    refine v_getI (k := 5) F t0 (by decide) (inc inU_6) rfl rfl (by decide) (List.mem_cons_of_mem _ fl_X6_41) rfl dX6_step_63 ?_
    refine v_aload_n F dX6_step_66 rfl 0 rfl ?_
    refine v_getR (k := 4) (f := 9) F t0 (by decide) (inc inU_6) rfl rfl (by decide) (by decide) (List.mem_cons_of_mem _ fl_X6_23) rfl dX6_step_67 (fun u9 => ?_)
    refine v_getR (k := 1) (f := 12) F u9 (by decide) (inc inU_9) rfl rfl (by decide) (by decide) (List.mem_cons_of_mem _ fl_X6_82) rfl dX6_step_70 (fun u10 => ?_)
    refine v_alen (t0 := 0) F u10 (by decide) rfl dX6_step_73 ?_
    refine v_icmp_ge (tgt := 92) F dX6_step_74 (by decide) (fun hc11 => ?_) (fun hc11 => ?_)
    · rw [if_pos hc11] at h
      exact w_X6_step_b92 F hr hlk t0 _ _ t0 h
    · rw [if_neg hc11] at h
      refine v_aload_n F dX6_step_77 rfl 0 rfl ?_
      refine v_getR (k := 4) (f := 9) F t0 (by decide) (inc inU_6) rfl rfl (by decide) (by decide) (List.mem_cons_of_mem _ fl_X6_23) rfl dX6_step_78 (fun u12 => ?_)
      refine v_getR (k := 1) (f := 12) F u12 (by decide) (inc inU_9) rfl rfl (by decide) (by decide) (List.mem_cons_of_mem _ fl_X6_82) rfl dX6_step_81 (fun u13 => ?_)
      refine v_aload_n F dX6_step_84 rfl 0 rfl ?_
      refine v_getI (k := 5) F t0 (by decide) (inc inU_6) rfl rfl (by decide) (List.mem_cons_of_mem _ fl_X6_41) rfl dX6_step_85 ?_
      obtain ⟨hin14, h⟩ := gd_some h
      refine v_iald F u13 hin14 dX6_step_88 ?_
      refine v_goto (tgt := 93) F dX6_step_89 (by decide) ?_
      exact w_X6_step_b93 F hr hlk t0 _ _ _ t0 h
set_option maxHeartbeats 4000000 in
set_option maxRecDepth 100000 in
theorem w_X6_step_b48 {g : gT} {p : Program} {l : Launch} {e : Env} {s : State} {m : MethodId} {args : Array Value} {below : List Frame} {meth : Method} {c : Code} {z : Int32 × Mem} (F : Fx g p s m args c cX6_step 1 uX6_step RX6) (hr : meth.sig.returnType = none) (hlk : meth.locks = false)  {a0 : Nat} (t0 : Ty g 6 a0)   (s0 : Nat) (M : Mem) (ts0 : Ty g 6 s0) (h : f_X6_step_b48 a0 s0 M = some z) : V g p l e ({ frames := 0, cells := 0, slots := 0, locals := 40 * 0 } : Room) s m args below meth c 1 0 0 (MQ below (gQ g none z.2) args s 0 0 (gA g)) 48 [(0, .ref (gAd g a0))] [.ref (gAd g s0)] M := by
  unfold f_X6_step_b48 at h
  refine v_sipush (v := 401) F dX6_step_48 (by decide) ?_
  exact w_X6_step_b51 F hr hlk t0 _ _ _ ts0 h
set_option maxHeartbeats 4000000 in
set_option maxRecDepth 100000 in
theorem c_X6_step {g : gT} (l : Launch) (hok : gOK g)  {a0 : Nat} {M : Mem} {z : Int32 × Mem}  (t0 : Ty g 6 a0) (h : f_X6_step  M a0 = some z) : Cn g l yX6_step uX6_step 0 [.ref (gAd g a0)] M none z.2 := by
  refine Cn.of (cc := cX6_step) (maxL := 1) (ret := none) hok (by decide) rfl (Nat.le_of_ble_eq_true rfl) (fun p e s m args below meth c F hr hlk => ?_)
  unfold f_X6_step at h
  show V g p l e ({ frames := 0, cells := 0, slots := 0, locals := 40 * 0 } : Room) s m args below meth c 1 0 0 (MQ below (gQ g none z.2) args s 0 0 (gA g)) 0 [(0, .ref (gAd g a0))] [] M
  refine v_aload_n F dX6_step_0 rfl 0 rfl ?_
  refine v_dup F dX6_step_1 rfl ?_
  refine v_getI (k := 5) F t0 (by decide) (inc inU_6) rfl rfl (by decide) (List.mem_cons_of_mem _ fl_X6_41) rfl dX6_step_2 ?_
  refine v_iconst (v := 1) F dX6_step_5 (by decide) ?_
  refine v_iadd F dX6_step_6 ?_
  refine v_put (k := 5) (ty := .int) F t0 (by decide) (inc inU_6) tyX6 tyX6_ok nmX6 rfl rfl (by decide) (List.mem_cons_of_mem _ fl_X6_41) rfl rfl (by decide +kernel) rfl rfl dX6_step_7 ?_
  refine v_aload_n F dX6_step_10 rfl 0 rfl ?_
  refine v_aload_n F dX6_step_11 rfl 0 rfl ?_
  refine v_getI (k := 5) F t0 (by decide) (inc inU_6) rfl rfl (by decide) (List.mem_cons_of_mem _ fl_X6_41) rfl dX6_step_12 ?_
  refine v_if_lt (tgt := 48) F dX6_step_15 (by decide) (fun hc1 => ?_) (fun hc1 => ?_)
  · rw [if_pos hc1] at h
    exact w_X6_step_b48 F hr hlk t0 _ _ t0 h
  · rw [if_neg hc1] at h
    refine v_aload_n F dX6_step_18 rfl 0 rfl ?_
    refine v_getI (k := 5) F t0 (by decide) (inc inU_6) rfl rfl (by decide) (List.mem_cons_of_mem _ fl_X6_41) rfl dX6_step_19 ?_
    refine v_aload_n F dX6_step_22 rfl 0 rfl ?_
    refine v_getR (k := 4) (f := 9) F t0 (by decide) (inc inU_6) rfl rfl (by decide) (by decide) (List.mem_cons_of_mem _ fl_X6_23) rfl dX6_step_23 (fun u2 => ?_)
    refine v_getR (k := 0) (f := 12) F u2 (by decide) (inc inU_9) rfl rfl (by decide) (by decide) (List.mem_cons_of_mem _ fl_X6_78) rfl dX6_step_26 (fun u3 => ?_)
    refine v_alen (t0 := 0) F u3 (by decide) rfl dX6_step_29 ?_
    refine v_icmp_ge (tgt := 48) F dX6_step_30 (by decide) (fun hc4 => ?_) (fun hc4 => ?_)
    · rw [if_pos hc4] at h
      exact w_X6_step_b48 F hr hlk t0 _ _ t0 h
    · rw [if_neg hc4] at h
      refine v_aload_n F dX6_step_33 rfl 0 rfl ?_
      refine v_getR (k := 4) (f := 9) F t0 (by decide) (inc inU_6) rfl rfl (by decide) (by decide) (List.mem_cons_of_mem _ fl_X6_23) rfl dX6_step_34 (fun u5 => ?_)
      refine v_getR (k := 0) (f := 12) F u5 (by decide) (inc inU_9) rfl rfl (by decide) (by decide) (List.mem_cons_of_mem _ fl_X6_78) rfl dX6_step_37 (fun u6 => ?_)
      refine v_aload_n F dX6_step_40 rfl 0 rfl ?_
      refine v_getI (k := 5) F t0 (by decide) (inc inU_6) rfl rfl (by decide) (List.mem_cons_of_mem _ fl_X6_41) rfl dX6_step_41 ?_
      obtain ⟨hin7, h⟩ := gd_some h
      refine v_iald F u6 hin7 dX6_step_44 ?_
      refine v_goto (tgt := 51) F dX6_step_45 (by decide) ?_
      exact w_X6_step_b51 F hr hlk t0 _ _ _ t0 h
def f_X6_enters  (M : Mem) (a0 : Nat) (i1 : Int32) (i2 : Int32) : Option (Int32 × Mem) := if (M a0 6) = i1 then (if i2 < 6 then ((f_X6_step M a0).bind fun q => match q with | (r3, M4) => (some (1, M4))) else ((f_X6_fail M a0 3).bind fun q => match q with | (r7, M8) => (some (0, M8)))) else ((f_X6_fail M a0 1).bind fun q => match q with | (r11, M12) => (some (0, M12)))
set_option maxHeartbeats 4000000 in
set_option maxRecDepth 100000 in
theorem c_X6_enters {g : gT} (l : Launch) (hok : gOK g)  {a0 : Nat} {i1 : Int32} {i2 : Int32} {M : Mem} {z : Int32 × Mem}  (t0 : Ty g 6 a0) (h : f_X6_enters  M a0 i1 i2 = some z) : Cn g l yX6_enters uX6_enters 1 [.ref (gAd g a0), .int i1, .int i2] M (some (.int z.1)) z.2 := by
  refine Cn.of (cc := cX6_enters) (maxL := 3) (ret := (some .boolean)) hok (by decide) rfl (Nat.le_of_ble_eq_true rfl) (fun p e s m args below meth c F hr hlk => ?_)
  unfold f_X6_enters at h
  show V g p l e ({ frames := 1, cells := 0, slots := 0, locals := 40 * 1 } : Room) s m args below meth c 3 0 0 (MQ below (gQ g (some (.int z.1)) z.2) args s 0 0 (gA g)) 0 [(0, .ref (gAd g a0)), (1, .int i1), (2, .int i2)] [] M
  refine v_aload_n F dX6_enters_0 rfl 0 rfl ?_
  refine v_getI (k := 6) F t0 (by decide) (inc inU_6) rfl rfl (by decide) (List.mem_cons_of_mem _ fl_X6_47) rfl dX6_enters_1 ?_
  refine v_iload_n F dX6_enters_4 rfl 1 rfl ?_
  refine v_icmp_eq (tgt := 15) F dX6_enters_5 (by decide) (fun hc1 => ?_) (fun hc1 => ?_)
  · rw [if_pos hc1] at h
    refine v_iload_n F dX6_enters_15 rfl 2 rfl ?_
    refine v_bipush (v := 6) F dX6_enters_16 (by decide) ?_
    refine v_icmp_lt (tgt := 28) F dX6_enters_18 (by decide) (fun hc2 => ?_) (fun hc2 => ?_)
    · rw [if_pos hc2] at h
      refine v_aload_n F dX6_enters_28 rfl 0 rfl ?_
      obtain ⟨⟨r3, M4⟩, hz5, h⟩ := bd_some h
      dsimp only at h
      refine v_callVv (As := []) (rest := []) F (c_X6_step l F.2.2.1 t0 hz5) (cwV 0 F.1.2.2.2.2 (gU_V ml_X6_44 im_yX6_step se_yX6_step ini_X6 cd_X6_step) rfl rfl rfl (by decide +kernel) ⟨Nat.le_of_ble_eq_true rfl, Nat.le_of_ble_eq_true rfl⟩) t0 (by decide) rfl rfl rfl (Nat.le_of_ble_eq_true rfl) dX6_enters_29 ⟨Nat.le_of_ble_eq_true rfl, Nat.le_of_ble_eq_true rfl⟩ ?_
      refine v_iconst (v := 1) F dX6_enters_32 (by decide) ?_
      cases h
      exact v_iret F hr narrow_b1 hlk dX6_enters_33
    · rw [if_neg hc2] at h
      refine v_aload_n F dX6_enters_21 rfl 0 rfl ?_
      refine v_iconst (v := 3) F dX6_enters_22 (by decide) ?_
      obtain ⟨⟨r7, M8⟩, hz9, h⟩ := bd_some h
      dsimp only at h
      refine v_callVv (As := [.int 3]) (rest := []) F (c_X6_fail l F.2.2.1 t0 hz9) (cwV 1 F.1.2.2.2.2 (gU_V ml_X6_50 im_yX6_fail se_yX6_fail ini_X6 cd_X6_fail) rfl rfl rfl (by decide +kernel) ⟨Nat.le_of_ble_eq_true rfl, Nat.le_of_ble_eq_true rfl⟩) t0 (by decide) rfl rfl rfl (Nat.le_of_ble_eq_true rfl) dX6_enters_23 ⟨Nat.le_of_ble_eq_true rfl, Nat.le_of_ble_eq_true rfl⟩ ?_
      refine v_iconst (v := 0) F dX6_enters_26 (by decide) ?_
      cases h
      exact v_iret F hr narrow_b0 hlk dX6_enters_27
  · rw [if_neg hc1] at h
    refine v_aload_n F dX6_enters_8 rfl 0 rfl ?_
    refine v_iconst (v := 1) F dX6_enters_9 (by decide) ?_
    obtain ⟨⟨r11, M12⟩, hz13, h⟩ := bd_some h
    dsimp only at h
    refine v_callVv (As := [.int 1]) (rest := []) F (c_X6_fail l F.2.2.1 t0 hz13) (cwV 1 F.1.2.2.2.2 (gU_V ml_X6_50 im_yX6_fail se_yX6_fail ini_X6 cd_X6_fail) rfl rfl rfl (by decide +kernel) ⟨Nat.le_of_ble_eq_true rfl, Nat.le_of_ble_eq_true rfl⟩) t0 (by decide) rfl rfl rfl (Nat.le_of_ble_eq_true rfl) dX6_enters_10 ⟨Nat.le_of_ble_eq_true rfl, Nat.le_of_ble_eq_true rfl⟩ ?_
    refine v_iconst (v := 0) F dX6_enters_13 (by decide) ?_
    cases h
    exact v_iret F hr narrow_b0 hlk dX6_enters_14
def f_X6_expect  (M : Mem) (a0 : Nat) (i1 : Int32) : Option (Int32 × Mem) := if (M a0 6) = i1 then ((f_X6_step M a0).bind fun q => match q with | (r6, M7) => (some (0, M7))) else ((f_X6_fail M a0 1).bind fun q => match q with | (r2, M3) => (some (0, M3)))
set_option maxHeartbeats 4000000 in
set_option maxRecDepth 100000 in
theorem c_X6_expect {g : gT} (l : Launch) (hok : gOK g)  {a0 : Nat} {i1 : Int32} {M : Mem} {z : Int32 × Mem}  (t0 : Ty g 6 a0) (h : f_X6_expect  M a0 i1 = some z) : Cn g l yX6_expect uX6_expect 1 [.ref (gAd g a0), .int i1] M none z.2 := by
  refine Cn.of (cc := cX6_expect) (maxL := 2) (ret := none) hok (by decide) rfl (Nat.le_of_ble_eq_true rfl) (fun p e s m args below meth c F hr hlk => ?_)
  unfold f_X6_expect at h
  show V g p l e ({ frames := 1, cells := 0, slots := 0, locals := 40 * 1 } : Room) s m args below meth c 2 0 0 (MQ below (gQ g none z.2) args s 0 0 (gA g)) 0 [(0, .ref (gAd g a0)), (1, .int i1)] [] M
  refine v_aload_n F dX6_expect_0 rfl 0 rfl ?_
  refine v_getI (k := 6) F t0 (by decide) (inc inU_6) rfl rfl (by decide) (List.mem_cons_of_mem _ fl_X6_47) rfl dX6_expect_1 ?_
  refine v_iload_n F dX6_expect_4 rfl 1 rfl ?_
  refine v_icmp_ne (tgt := 15) F dX6_expect_5 (by decide) (fun hc1 => ?_) (fun hc1 => ?_)
  · rw [if_neg hc1] at h
    refine v_aload_n F dX6_expect_15 rfl 0 rfl ?_
    refine v_iconst (v := 1) F dX6_expect_16 (by decide) ?_
    obtain ⟨⟨r2, M3⟩, hz4, h⟩ := bd_some h
    dsimp only at h
    refine v_callVv (As := [.int 1]) (rest := []) F (c_X6_fail l F.2.2.1 t0 hz4) (cwV 1 F.1.2.2.2.2 (gU_V ml_X6_50 im_yX6_fail se_yX6_fail ini_X6 cd_X6_fail) rfl rfl rfl (by decide +kernel) ⟨Nat.le_of_ble_eq_true rfl, Nat.le_of_ble_eq_true rfl⟩) t0 (by decide) rfl rfl rfl (Nat.le_of_ble_eq_true rfl) dX6_expect_17 ⟨Nat.le_of_ble_eq_true rfl, Nat.le_of_ble_eq_true rfl⟩ ?_
    cases h
    exact v_vret F hr hlk dX6_expect_20
  · rw [if_pos hc1] at h
    refine v_aload_n F dX6_expect_8 rfl 0 rfl ?_
    obtain ⟨⟨r6, M7⟩, hz8, h⟩ := bd_some h
    dsimp only at h
    refine v_callVv (As := []) (rest := []) F (c_X6_step l F.2.2.1 t0 hz8) (cwV 0 F.1.2.2.2.2 (gU_V ml_X6_44 im_yX6_step se_yX6_step ini_X6 cd_X6_step) rfl rfl rfl (by decide +kernel) ⟨Nat.le_of_ble_eq_true rfl, Nat.le_of_ble_eq_true rfl⟩) t0 (by decide) rfl rfl rfl (Nat.le_of_ble_eq_true rfl) dX6_expect_9 ⟨Nat.le_of_ble_eq_true rfl, Nat.le_of_ble_eq_true rfl⟩ ?_
    refine v_goto (tgt := 20) F dX6_expect_12 (by decide) ?_
    cases h
    exact v_vret F hr hlk dX6_expect_20
def f_X6_factor_b163 (r_X6_sum : Mem → Nat → Int32 → Option (Int32 × Mem)) (a0 : Nat) (i1 : Int32)  (x2 : Int32) (M : Mem) : Option (Int32 × Mem) := (f_X6_expect M a0 41).bind fun q => match q with | (r58, M59) => (if x2 = 40 then (some (0, M59)) else ((f_X6_emit M59 a0 x2).bind fun q => match q with | (r63, M64) => (some (0, M64))))
def f_X6_factor_b150 (r_X6_sum : Mem → Nat → Int32 → Option (Int32 × Mem)) (a0 : Nat) (i1 : Int32)  (x2 : Int32) (M : Mem) : Option (Int32 × Mem) := (f_X6_expect M a0 44).bind fun q => match q with | (r50, M51) => ((r_X6_sum M51 a0 (i1 + 1)).bind fun q => match q with | (r54, M55) => (f_X6_factor_b163 r_X6_sum a0 i1 x2 M55))
def f_X6_factor_b119 (r_X6_sum : Mem → Nat → Int32 → Option (Int32 × Mem)) (a0 : Nat) (i1 : Int32)  (x2 : Int32) (M : Mem) : Option (Int32 × Mem) := (f_X6_enters M a0 40 i1).bind fun q => match q with | (r39, M40) => (if r39 = 0 then (some (0, M40)) else ((r_X6_sum M40 a0 (i1 + 1)).bind fun q => match q with | (r44, M45) => (if x2 = 315 then (f_X6_factor_b150 r_X6_sum a0 i1 x2 M45) else (if x2 = 316 then (f_X6_factor_b150 r_X6_sum a0 i1 x2 M45) else (f_X6_factor_b163 r_X6_sum a0 i1 x2 M45)))))
def f_X6_factor_b109 (r_X6_sum : Mem → Nat → Int32 → Option (Int32 × Mem)) (a0 : Nat) (i1 : Int32)  (x2 : Int32) (M : Mem) : Option (Int32 × Mem) := if x2 = 40 then (f_X6_factor_b119 r_X6_sum a0 i1 x2 M) else ((f_X6_step M a0).bind fun q => match q with | (r35, M36) => (f_X6_factor_b119 r_X6_sum a0 i1 x2 M36))
def f_X6_factor_b82 (r_X6_sum : Mem → Nat → Int32 → Option (Int32 × Mem)) (a0 : Nat) (i1 : Int32)  (x2 : Int32) (M : Mem) : Option (Int32 × Mem) := if x2 = 315 then (f_X6_factor_b109 r_X6_sum a0 i1 x2 M) else (if x2 = 316 then (f_X6_factor_b109 r_X6_sum a0 i1 x2 M) else (if x2 = 317 then (f_X6_factor_b109 r_X6_sum a0 i1 x2 M) else (if x2 = 40 then (f_X6_factor_b109 r_X6_sum a0 i1 x2 M) else ((f_X6_fail M a0 1).bind fun q => match q with | (r30, M31) => (some (0, M31))))))
def f_X6_factor_b30 (r_X6_sum : Mem → Nat → Int32 → Option (Int32 × Mem)) (a0 : Nat) (i1 : Int32)  (x2 : Int32) (M : Mem) : Option (Int32 × Mem) := if x2 = 400 then ((f_X6_emit M a0 (1000 + (M a0 8))).bind fun q => match q with | (r18, M19) => ((f_X6_step M19 a0).bind fun q => match q with | (r22, M23) => (some (0, M23)))) else (if x2 < 300 then (f_X6_factor_b82 r_X6_sum a0 i1 x2 M) else (if 309 ≤ x2 then (f_X6_factor_b82 r_X6_sum a0 i1 x2 M) else ((f_X6_emit M a0 x2).bind fun q => match q with | (r10, M11) => ((f_X6_step M11 a0).bind fun q => match q with | (r14, M15) => (some (0, M15))))))
def f_X6_factor (r_X6_sum : Mem → Nat → Int32 → Option (Int32 × Mem)) (M : Mem) (a0 : Nat) (i1 : Int32) : Option (Int32 × Mem) := if (M a0 6) = 400 then (if (M a0 8) ≤ 9999 then (f_X6_factor_b30 r_X6_sum a0 i1 (M a0 6) M) else ((f_X6_fail M a0 2).bind fun q => match q with | (r3, M4) => (some (0, M4)))) else (f_X6_factor_b30 r_X6_sum a0 i1 (M a0 6) M)
set_option maxHeartbeats 4000000 in
set_option maxRecDepth 100000 in
theorem w_X6_factor_b163 {g : gT} {p : Program} {l : Launch} {e : Env} {s : State} {m : MethodId} {args : Array Value} {below : List Frame} {meth : Method} {c : Code} {z : Int32 × Mem} (F : Fx g p s m args c cX6_factor 3 uX6_factor RX6) (hr : meth.sig.returnType = none) (hlk : meth.locks = false) {k kf_X6_sum : Nat} {r_X6_sum : Mem → Nat → Int32 → Option (Int32 × Mem)} {a0 : Nat} {i1 : Int32} (hkf_X6_sum : kf_X6_sum + 1 ≤ k) (hk0 : 4 ≤ k) (hR_X6_sum : ∀ (M : Mem) (b0 : Nat) (b1 : Int32) (z : Int32 × Mem), Ty g 6 b0 → r_X6_sum M b0 b1 = some z → Cn g l yX6_sum uX6_sum kf_X6_sum [.ref (gAd g b0), .int b1] M none z.2) (t0 : Ty g 6 a0)   (x2 : Int32) (M : Mem)  (h : f_X6_factor_b163 r_X6_sum a0 i1 x2 M = some z) : V g p l e ({ frames := k, cells := 0, slots := 0, locals := 40 * k } : Room) s m args below meth c 3 0 0 (MQ below (gQ g none z.2) args s 0 0 (gA g)) 163 [(0, .ref (gAd g a0)), (1, .int i1), (2, .int x2)] [] M := by
  unfold f_X6_factor_b163 at h
  refine v_aload_n F dX6_factor_163 rfl 0 rfl ?_
  refine v_bipush (v := 41) F dX6_factor_164 (by decide) ?_
  obtain ⟨⟨r58, M59⟩, hz60, h⟩ := bd_some h
  dsimp only at h
  refine v_callVv (As := [.int 41]) (rest := []) F (c_X6_expect l F.2.2.1 t0 hz60) (cwV 1 F.1.2.2.2.2 (gU_V ml_X6_62 im_yX6_expect se_yX6_expect ini_X6 cd_X6_expect) rfl rfl rfl (by decide +kernel) ⟨by dsimp only [DP]; omega, by dsimp only [DP]; omega⟩) t0 (by decide) rfl rfl rfl (Nat.le_of_ble_eq_true rfl) dX6_factor_166 ⟨Nat.le_of_ble_eq_true rfl, Nat.le_of_ble_eq_true rfl⟩ ?_
  refine v_iload_n F dX6_factor_169 rfl 2 rfl ?_
  refine v_bipush (v := 40) F dX6_factor_170 (by decide) ?_
  refine v_icmp_eq (tgt := 188) F dX6_factor_172 (by decide) (fun hc62 => ?_) (fun hc62 => ?_)
  · rw [if_pos hc62] at h
    cases h
    exact v_vret F hr hlk dX6_factor_188
  · rw [if_neg hc62] at h
    refine v_aload_n F dX6_factor_175 rfl 0 rfl ?_
    refine v_iload_n F dX6_factor_176 rfl 2 rfl ?_
    obtain ⟨⟨r63, M64⟩, hz65, h⟩ := bd_some h
    dsimp only at h
    refine v_callVv (As := [.int x2]) (rest := []) F (c_X6_emit l F.2.2.1 t0 hz65) (cwV 1 F.1.2.2.2.2 (gU_V ml_X6_59 im_yX6_emit se_yX6_emit ini_X6 cd_X6_emit) rfl rfl rfl (by decide +kernel) ⟨by dsimp only [DP]; omega, by dsimp only [DP]; omega⟩) t0 (by decide) rfl rfl rfl (Nat.le_of_ble_eq_true rfl) dX6_factor_177 ⟨Nat.le_of_ble_eq_true rfl, Nat.le_of_ble_eq_true rfl⟩ ?_
    refine v_goto (tgt := 188) F dX6_factor_180 (by decide) ?_
    cases h
    exact v_vret F hr hlk dX6_factor_188
set_option maxHeartbeats 4000000 in
set_option maxRecDepth 100000 in
theorem w_X6_factor_b150 {g : gT} {p : Program} {l : Launch} {e : Env} {s : State} {m : MethodId} {args : Array Value} {below : List Frame} {meth : Method} {c : Code} {z : Int32 × Mem} (F : Fx g p s m args c cX6_factor 3 uX6_factor RX6) (hr : meth.sig.returnType = none) (hlk : meth.locks = false) {k kf_X6_sum : Nat} {r_X6_sum : Mem → Nat → Int32 → Option (Int32 × Mem)} {a0 : Nat} {i1 : Int32} (hkf_X6_sum : kf_X6_sum + 1 ≤ k) (hk0 : 4 ≤ k) (hR_X6_sum : ∀ (M : Mem) (b0 : Nat) (b1 : Int32) (z : Int32 × Mem), Ty g 6 b0 → r_X6_sum M b0 b1 = some z → Cn g l yX6_sum uX6_sum kf_X6_sum [.ref (gAd g b0), .int b1] M none z.2) (t0 : Ty g 6 a0)   (x2 : Int32) (M : Mem)  (h : f_X6_factor_b150 r_X6_sum a0 i1 x2 M = some z) : V g p l e ({ frames := k, cells := 0, slots := 0, locals := 40 * k } : Room) s m args below meth c 3 0 0 (MQ below (gQ g none z.2) args s 0 0 (gA g)) 150 [(0, .ref (gAd g a0)), (1, .int i1), (2, .int x2)] [] M := by
  unfold f_X6_factor_b150 at h
  refine v_aload_n F dX6_factor_150 rfl 0 rfl ?_
  refine v_bipush (v := 44) F dX6_factor_151 (by decide) ?_
  obtain ⟨⟨r50, M51⟩, hz52, h⟩ := bd_some h
  dsimp only at h
  refine v_callVv (As := [.int 44]) (rest := []) F (c_X6_expect l F.2.2.1 t0 hz52) (cwV 1 F.1.2.2.2.2 (gU_V ml_X6_62 im_yX6_expect se_yX6_expect ini_X6 cd_X6_expect) rfl rfl rfl (by decide +kernel) ⟨by dsimp only [DP]; omega, by dsimp only [DP]; omega⟩) t0 (by decide) rfl rfl rfl (Nat.le_of_ble_eq_true rfl) dX6_factor_153 ⟨Nat.le_of_ble_eq_true rfl, Nat.le_of_ble_eq_true rfl⟩ ?_
  refine v_aload_n F dX6_factor_156 rfl 0 rfl ?_
  refine v_iload_n F dX6_factor_157 rfl 1 rfl ?_
  refine v_iconst (v := 1) F dX6_factor_158 (by decide) ?_
  refine v_iadd F dX6_factor_159 ?_
  obtain ⟨⟨r54, M55⟩, hz56, h⟩ := bd_some h
  dsimp only at h
  refine v_callVv (As := [.int (i1 + 1)]) (rest := []) F (hR_X6_sum _ _ _ _ t0 hz56) (cwV 1 F.1.2.2.2.2 (gU_V ml_X6_53 im_yX6_sum se_yX6_sum ini_X6 cd_X6_sum) rfl rfl rfl (by decide +kernel) ⟨by dsimp only [DP]; omega, by dsimp only [DP]; omega⟩) t0 (by decide) rfl rfl rfl (Nat.le_of_ble_eq_true rfl) dX6_factor_160 ⟨Nat.le_of_ble_eq_true rfl, Nat.le_of_ble_eq_true rfl⟩ ?_
  exact w_X6_factor_b163 F hr hlk hkf_X6_sum hk0 hR_X6_sum t0 _ _ h
set_option maxHeartbeats 4000000 in
set_option maxRecDepth 100000 in
theorem w_X6_factor_b119 {g : gT} {p : Program} {l : Launch} {e : Env} {s : State} {m : MethodId} {args : Array Value} {below : List Frame} {meth : Method} {c : Code} {z : Int32 × Mem} (F : Fx g p s m args c cX6_factor 3 uX6_factor RX6) (hr : meth.sig.returnType = none) (hlk : meth.locks = false) {k kf_X6_sum : Nat} {r_X6_sum : Mem → Nat → Int32 → Option (Int32 × Mem)} {a0 : Nat} {i1 : Int32} (hkf_X6_sum : kf_X6_sum + 1 ≤ k) (hk0 : 4 ≤ k) (hR_X6_sum : ∀ (M : Mem) (b0 : Nat) (b1 : Int32) (z : Int32 × Mem), Ty g 6 b0 → r_X6_sum M b0 b1 = some z → Cn g l yX6_sum uX6_sum kf_X6_sum [.ref (gAd g b0), .int b1] M none z.2) (t0 : Ty g 6 a0)   (x2 : Int32) (M : Mem)  (h : f_X6_factor_b119 r_X6_sum a0 i1 x2 M = some z) : V g p l e ({ frames := k, cells := 0, slots := 0, locals := 40 * k } : Room) s m args below meth c 3 0 0 (MQ below (gQ g none z.2) args s 0 0 (gA g)) 119 [(0, .ref (gAd g a0)), (1, .int i1), (2, .int x2)] [] M := by
  unfold f_X6_factor_b119 at h
  refine v_aload_n F dX6_factor_119 rfl 0 rfl ?_
  refine v_bipush (v := 40) F dX6_factor_120 (by decide) ?_
  refine v_iload_n F dX6_factor_122 rfl 1 rfl ?_
  obtain ⟨⟨r39, M40⟩, hz41, h⟩ := bd_some h
  dsimp only at h
  refine v_callVi (As := [.int 40, .int i1]) (rest := []) F (c_X6_enters l F.2.2.1 t0 hz41) (cwV 2 F.1.2.2.2.2 (gU_V ml_X6_71 im_yX6_enters se_yX6_enters ini_X6 cd_X6_enters) rfl rfl rfl (by decide +kernel) ⟨by dsimp only [DP]; omega, by dsimp only [DP]; omega⟩) t0 (by decide) rfl rfl rfl (Nat.le_of_ble_eq_true rfl) dX6_factor_123 ⟨Nat.le_of_ble_eq_true rfl, Nat.le_of_ble_eq_true rfl⟩ ?_
  refine v_if_eq (tgt := 188) F dX6_factor_126 (by decide) (fun hc43 => ?_) (fun hc43 => ?_)
  · rw [if_pos hc43] at h
    cases h
    exact v_vret F hr hlk dX6_factor_188
  · rw [if_neg hc43] at h
    refine v_aload_n F dX6_factor_129 rfl 0 rfl ?_
    refine v_iload_n F dX6_factor_130 rfl 1 rfl ?_
    refine v_iconst (v := 1) F dX6_factor_131 (by decide) ?_
    refine v_iadd F dX6_factor_132 ?_
    obtain ⟨⟨r44, M45⟩, hz46, h⟩ := bd_some h
    dsimp only at h
    refine v_callVv (As := [.int (i1 + 1)]) (rest := []) F (hR_X6_sum _ _ _ _ t0 hz46) (cwV 1 F.1.2.2.2.2 (gU_V ml_X6_53 im_yX6_sum se_yX6_sum ini_X6 cd_X6_sum) rfl rfl rfl (by decide +kernel) ⟨by dsimp only [DP]; omega, by dsimp only [DP]; omega⟩) t0 (by decide) rfl rfl rfl (Nat.le_of_ble_eq_true rfl) dX6_factor_133 ⟨Nat.le_of_ble_eq_true rfl, Nat.le_of_ble_eq_true rfl⟩ ?_
    refine v_iload_n F dX6_factor_136 rfl 2 rfl ?_
    refine v_sipush (v := 315) F dX6_factor_137 (by decide) ?_
    refine v_icmp_eq (tgt := 150) F dX6_factor_140 (by decide) (fun hc48 => ?_) (fun hc48 => ?_)
    · rw [if_pos hc48] at h
      exact w_X6_factor_b150 F hr hlk hkf_X6_sum hk0 hR_X6_sum t0 _ _ h
    · rw [if_neg hc48] at h
      refine v_iload_n F dX6_factor_143 rfl 2 rfl ?_
      refine v_sipush (v := 316) F dX6_factor_144 (by decide) ?_
      refine v_icmp_ne (tgt := 163) F dX6_factor_147 (by decide) (fun hc49 => ?_) (fun hc49 => ?_)
      · rw [if_neg hc49] at h
        exact w_X6_factor_b163 F hr hlk hkf_X6_sum hk0 hR_X6_sum t0 _ _ h
      · rw [if_pos hc49] at h
        exact w_X6_factor_b150 F hr hlk hkf_X6_sum hk0 hR_X6_sum t0 _ _ h
set_option maxHeartbeats 4000000 in
set_option maxRecDepth 100000 in
theorem w_X6_factor_b109 {g : gT} {p : Program} {l : Launch} {e : Env} {s : State} {m : MethodId} {args : Array Value} {below : List Frame} {meth : Method} {c : Code} {z : Int32 × Mem} (F : Fx g p s m args c cX6_factor 3 uX6_factor RX6) (hr : meth.sig.returnType = none) (hlk : meth.locks = false) {k kf_X6_sum : Nat} {r_X6_sum : Mem → Nat → Int32 → Option (Int32 × Mem)} {a0 : Nat} {i1 : Int32} (hkf_X6_sum : kf_X6_sum + 1 ≤ k) (hk0 : 4 ≤ k) (hR_X6_sum : ∀ (M : Mem) (b0 : Nat) (b1 : Int32) (z : Int32 × Mem), Ty g 6 b0 → r_X6_sum M b0 b1 = some z → Cn g l yX6_sum uX6_sum kf_X6_sum [.ref (gAd g b0), .int b1] M none z.2) (t0 : Ty g 6 a0)   (x2 : Int32) (M : Mem)  (h : f_X6_factor_b109 r_X6_sum a0 i1 x2 M = some z) : V g p l e ({ frames := k, cells := 0, slots := 0, locals := 40 * k } : Room) s m args below meth c 3 0 0 (MQ below (gQ g none z.2) args s 0 0 (gA g)) 109 [(0, .ref (gAd g a0)), (1, .int i1), (2, .int x2)] [] M := by
  unfold f_X6_factor_b109 at h
  refine v_iload_n F dX6_factor_109 rfl 2 rfl ?_
  refine v_bipush (v := 40) F dX6_factor_110 (by decide) ?_
  refine v_icmp_eq (tgt := 119) F dX6_factor_112 (by decide) (fun hc34 => ?_) (fun hc34 => ?_)
  · rw [if_pos hc34] at h
    exact w_X6_factor_b119 F hr hlk hkf_X6_sum hk0 hR_X6_sum t0 _ _ h
  · rw [if_neg hc34] at h
    refine v_aload_n F dX6_factor_115 rfl 0 rfl ?_
    obtain ⟨⟨r35, M36⟩, hz37, h⟩ := bd_some h
    dsimp only at h
    refine v_callVv (As := []) (rest := []) F (c_X6_step l F.2.2.1 t0 hz37) (cwV 0 F.1.2.2.2.2 (gU_V ml_X6_44 im_yX6_step se_yX6_step ini_X6 cd_X6_step) rfl rfl rfl (by decide +kernel) ⟨by dsimp only [DP]; omega, by dsimp only [DP]; omega⟩) t0 (by decide) rfl rfl rfl (Nat.le_of_ble_eq_true rfl) dX6_factor_116 ⟨Nat.le_of_ble_eq_true rfl, Nat.le_of_ble_eq_true rfl⟩ ?_
    exact w_X6_factor_b119 F hr hlk hkf_X6_sum hk0 hR_X6_sum t0 _ _ h
set_option maxHeartbeats 4000000 in
set_option maxRecDepth 100000 in
theorem w_X6_factor_b82 {g : gT} {p : Program} {l : Launch} {e : Env} {s : State} {m : MethodId} {args : Array Value} {below : List Frame} {meth : Method} {c : Code} {z : Int32 × Mem} (F : Fx g p s m args c cX6_factor 3 uX6_factor RX6) (hr : meth.sig.returnType = none) (hlk : meth.locks = false) {k kf_X6_sum : Nat} {r_X6_sum : Mem → Nat → Int32 → Option (Int32 × Mem)} {a0 : Nat} {i1 : Int32} (hkf_X6_sum : kf_X6_sum + 1 ≤ k) (hk0 : 4 ≤ k) (hR_X6_sum : ∀ (M : Mem) (b0 : Nat) (b1 : Int32) (z : Int32 × Mem), Ty g 6 b0 → r_X6_sum M b0 b1 = some z → Cn g l yX6_sum uX6_sum kf_X6_sum [.ref (gAd g b0), .int b1] M none z.2) (t0 : Ty g 6 a0)   (x2 : Int32) (M : Mem)  (h : f_X6_factor_b82 r_X6_sum a0 i1 x2 M = some z) : V g p l e ({ frames := k, cells := 0, slots := 0, locals := 40 * k } : Room) s m args below meth c 3 0 0 (MQ below (gQ g none z.2) args s 0 0 (gA g)) 82 [(0, .ref (gAd g a0)), (1, .int i1), (2, .int x2)] [] M := by
  unfold f_X6_factor_b82 at h
  refine v_iload_n F dX6_factor_82 rfl 2 rfl ?_
  refine v_sipush (v := 315) F dX6_factor_83 (by decide) ?_
  refine v_icmp_eq (tgt := 109) F dX6_factor_86 (by decide) (fun hc26 => ?_) (fun hc26 => ?_)
  · rw [if_pos hc26] at h
    exact w_X6_factor_b109 F hr hlk hkf_X6_sum hk0 hR_X6_sum t0 _ _ h
  · rw [if_neg hc26] at h
    refine v_iload_n F dX6_factor_89 rfl 2 rfl ?_
    refine v_sipush (v := 316) F dX6_factor_90 (by decide) ?_
    refine v_icmp_eq (tgt := 109) F dX6_factor_93 (by decide) (fun hc27 => ?_) (fun hc27 => ?_)
    · rw [if_pos hc27] at h
      exact w_X6_factor_b109 F hr hlk hkf_X6_sum hk0 hR_X6_sum t0 _ _ h
    · rw [if_neg hc27] at h
      refine v_iload_n F dX6_factor_96 rfl 2 rfl ?_
      refine v_sipush (v := 317) F dX6_factor_97 (by decide) ?_
      refine v_icmp_eq (tgt := 109) F dX6_factor_100 (by decide) (fun hc28 => ?_) (fun hc28 => ?_)
      · rw [if_pos hc28] at h
        exact w_X6_factor_b109 F hr hlk hkf_X6_sum hk0 hR_X6_sum t0 _ _ h
      · rw [if_neg hc28] at h
        refine v_iload_n F dX6_factor_103 rfl 2 rfl ?_
        refine v_bipush (v := 40) F dX6_factor_104 (by decide) ?_
        refine v_icmp_ne (tgt := 183) F dX6_factor_106 (by decide) (fun hc29 => ?_) (fun hc29 => ?_)
        · rw [if_neg hc29] at h
          refine v_aload_n F dX6_factor_183 rfl 0 rfl ?_
          refine v_iconst (v := 1) F dX6_factor_184 (by decide) ?_
          obtain ⟨⟨r30, M31⟩, hz32, h⟩ := bd_some h
          dsimp only at h
          refine v_callVv (As := [.int 1]) (rest := []) F (c_X6_fail l F.2.2.1 t0 hz32) (cwV 1 F.1.2.2.2.2 (gU_V ml_X6_50 im_yX6_fail se_yX6_fail ini_X6 cd_X6_fail) rfl rfl rfl (by decide +kernel) ⟨by dsimp only [DP]; omega, by dsimp only [DP]; omega⟩) t0 (by decide) rfl rfl rfl (Nat.le_of_ble_eq_true rfl) dX6_factor_185 ⟨Nat.le_of_ble_eq_true rfl, Nat.le_of_ble_eq_true rfl⟩ ?_
          cases h
          exact v_vret F hr hlk dX6_factor_188
        · rw [if_pos hc29] at h
          exact w_X6_factor_b109 F hr hlk hkf_X6_sum hk0 hR_X6_sum t0 _ _ h
set_option maxHeartbeats 4000000 in
set_option maxRecDepth 100000 in
theorem w_X6_factor_b30 {g : gT} {p : Program} {l : Launch} {e : Env} {s : State} {m : MethodId} {args : Array Value} {below : List Frame} {meth : Method} {c : Code} {z : Int32 × Mem} (F : Fx g p s m args c cX6_factor 3 uX6_factor RX6) (hr : meth.sig.returnType = none) (hlk : meth.locks = false) {k kf_X6_sum : Nat} {r_X6_sum : Mem → Nat → Int32 → Option (Int32 × Mem)} {a0 : Nat} {i1 : Int32} (hkf_X6_sum : kf_X6_sum + 1 ≤ k) (hk0 : 4 ≤ k) (hR_X6_sum : ∀ (M : Mem) (b0 : Nat) (b1 : Int32) (z : Int32 × Mem), Ty g 6 b0 → r_X6_sum M b0 b1 = some z → Cn g l yX6_sum uX6_sum kf_X6_sum [.ref (gAd g b0), .int b1] M none z.2) (t0 : Ty g 6 a0)   (x2 : Int32) (M : Mem)  (h : f_X6_factor_b30 r_X6_sum a0 i1 x2 M = some z) : V g p l e ({ frames := k, cells := 0, slots := 0, locals := 40 * k } : Room) s m args below meth c 3 0 0 (MQ below (gQ g none z.2) args s 0 0 (gA g)) 30 [(0, .ref (gAd g a0)), (1, .int i1), (2, .int x2)] [] M := by
  unfold f_X6_factor_b30 at h
  refine v_iload_n F dX6_factor_30 rfl 2 rfl ?_
  refine v_sipush (v := 400) F dX6_factor_31 (by decide) ?_
  refine v_icmp_ne (tgt := 56) F dX6_factor_34 (by decide) (fun hc7 => ?_) (fun hc7 => ?_)
  · rw [if_neg hc7] at h
    refine v_iload_n F dX6_factor_56 rfl 2 rfl ?_
    refine v_sipush (v := 300) F dX6_factor_57 (by decide) ?_
    refine v_icmp_lt (tgt := 82) F dX6_factor_60 (by decide) (fun hc8 => ?_) (fun hc8 => ?_)
    · rw [if_pos hc8] at h
      exact w_X6_factor_b82 F hr hlk hkf_X6_sum hk0 hR_X6_sum t0 _ _ h
    · rw [if_neg hc8] at h
      refine v_iload_n F dX6_factor_63 rfl 2 rfl ?_
      refine v_sipush (v := 309) F dX6_factor_64 (by decide) ?_
      refine v_icmp_ge (tgt := 82) F dX6_factor_67 (by decide) (fun hc9 => ?_) (fun hc9 => ?_)
      · rw [if_pos hc9] at h
        exact w_X6_factor_b82 F hr hlk hkf_X6_sum hk0 hR_X6_sum t0 _ _ h
      · rw [if_neg hc9] at h
        refine v_aload_n F dX6_factor_70 rfl 0 rfl ?_
        refine v_iload_n F dX6_factor_71 rfl 2 rfl ?_
        obtain ⟨⟨r10, M11⟩, hz12, h⟩ := bd_some h
        dsimp only at h
        refine v_callVv (As := [.int x2]) (rest := []) F (c_X6_emit l F.2.2.1 t0 hz12) (cwV 1 F.1.2.2.2.2 (gU_V ml_X6_59 im_yX6_emit se_yX6_emit ini_X6 cd_X6_emit) rfl rfl rfl (by decide +kernel) ⟨by dsimp only [DP]; omega, by dsimp only [DP]; omega⟩) t0 (by decide) rfl rfl rfl (Nat.le_of_ble_eq_true rfl) dX6_factor_72 ⟨Nat.le_of_ble_eq_true rfl, Nat.le_of_ble_eq_true rfl⟩ ?_
        refine v_aload_n F dX6_factor_75 rfl 0 rfl ?_
        obtain ⟨⟨r14, M15⟩, hz16, h⟩ := bd_some h
        dsimp only at h
        refine v_callVv (As := []) (rest := []) F (c_X6_step l F.2.2.1 t0 hz16) (cwV 0 F.1.2.2.2.2 (gU_V ml_X6_44 im_yX6_step se_yX6_step ini_X6 cd_X6_step) rfl rfl rfl (by decide +kernel) ⟨by dsimp only [DP]; omega, by dsimp only [DP]; omega⟩) t0 (by decide) rfl rfl rfl (Nat.le_of_ble_eq_true rfl) dX6_factor_76 ⟨Nat.le_of_ble_eq_true rfl, Nat.le_of_ble_eq_true rfl⟩ ?_
        refine v_goto (tgt := 188) F dX6_factor_79 (by decide) ?_
        cases h
        exact v_vret F hr hlk dX6_factor_188
  · rw [if_pos hc7] at h
    refine v_aload_n F dX6_factor_37 rfl 0 rfl ?_
    refine v_sipush (v := 1000) F dX6_factor_38 (by decide) ?_
    refine v_aload_n F dX6_factor_41 rfl 0 rfl ?_
    refine v_getI (k := 8) F t0 (by decide) (inc inU_6) rfl rfl (by decide) (List.mem_cons_of_mem _ fl_X6_68) rfl dX6_factor_42 ?_
    refine v_iadd F dX6_factor_45 ?_
    obtain ⟨⟨r18, M19⟩, hz20, h⟩ := bd_some h
    dsimp only at h
    refine v_callVv (As := [.int (1000 + (M a0 8))]) (rest := []) F (c_X6_emit l F.2.2.1 t0 hz20) (cwV 1 F.1.2.2.2.2 (gU_V ml_X6_59 im_yX6_emit se_yX6_emit ini_X6 cd_X6_emit) rfl rfl rfl (by decide +kernel) ⟨by dsimp only [DP]; omega, by dsimp only [DP]; omega⟩) t0 (by decide) rfl rfl rfl (Nat.le_of_ble_eq_true rfl) dX6_factor_46 ⟨Nat.le_of_ble_eq_true rfl, Nat.le_of_ble_eq_true rfl⟩ ?_
    refine v_aload_n F dX6_factor_49 rfl 0 rfl ?_
    obtain ⟨⟨r22, M23⟩, hz24, h⟩ := bd_some h
    dsimp only at h
    refine v_callVv (As := []) (rest := []) F (c_X6_step l F.2.2.1 t0 hz24) (cwV 0 F.1.2.2.2.2 (gU_V ml_X6_44 im_yX6_step se_yX6_step ini_X6 cd_X6_step) rfl rfl rfl (by decide +kernel) ⟨by dsimp only [DP]; omega, by dsimp only [DP]; omega⟩) t0 (by decide) rfl rfl rfl (Nat.le_of_ble_eq_true rfl) dX6_factor_50 ⟨Nat.le_of_ble_eq_true rfl, Nat.le_of_ble_eq_true rfl⟩ ?_
    refine v_goto (tgt := 188) F dX6_factor_53 (by decide) ?_
    cases h
    exact v_vret F hr hlk dX6_factor_188
set_option maxHeartbeats 4000000 in
set_option maxRecDepth 100000 in
theorem c_X6_factor {g : gT} (l : Launch) (hok : gOK g) {k kf_X6_sum : Nat} {r_X6_sum : Mem → Nat → Int32 → Option (Int32 × Mem)} {a0 : Nat} {i1 : Int32} {M : Mem} {z : Int32 × Mem} (hkf_X6_sum : kf_X6_sum + 1 ≤ k) (hk0 : 4 ≤ k) (hR_X6_sum : ∀ (M : Mem) (b0 : Nat) (b1 : Int32) (z : Int32 × Mem), Ty g 6 b0 → r_X6_sum M b0 b1 = some z → Cn g l yX6_sum uX6_sum kf_X6_sum [.ref (gAd g b0), .int b1] M none z.2) (t0 : Ty g 6 a0) (h : f_X6_factor r_X6_sum M a0 i1 = some z) : Cn g l yX6_factor uX6_factor k [.ref (gAd g a0), .int i1] M none z.2 := by
  refine Cn.of (cc := cX6_factor) (maxL := 3) (ret := none) hok (by decide) rfl (Nat.le_of_ble_eq_true rfl) (fun p e s m args below meth c F hr hlk => ?_)
  unfold f_X6_factor at h
  show V g p l e ({ frames := k, cells := 0, slots := 0, locals := 40 * k } : Room) s m args below meth c 3 0 0 (MQ below (gQ g none z.2) args s 0 0 (gA g)) 0 [(0, .ref (gAd g a0)), (1, .int i1)] [] M
  refine v_aload_n F dX6_factor_0 rfl 0 rfl ?_
  refine v_getI (k := 6) F t0 (by decide) (inc inU_6) rfl rfl (by decide) (List.mem_cons_of_mem _ fl_X6_47) rfl dX6_factor_1 ?_
  refine v_istore_n (lv' := [(2, .int (M a0 6)), (0, .ref (gAd g a0)), (1, .int i1)]) F dX6_factor_4 rfl (by decide) rfl ?_
  refine v_iload_n F dX6_factor_5 rfl 0 rfl ?_
  refine v_sipush (v := 400) F dX6_factor_6 (by decide) ?_
  refine v_icmp_ne (tgt := 30) F dX6_factor_9 (by decide) (fun hc1 => ?_) (fun hc1 => ?_)
  · rw [if_neg hc1] at h
    refine v_sub (fun ls h9 => lv_sub h9 [1, 2, 0] rfl) ?_
    exact w_X6_factor_b30 F hr hlk hkf_X6_sum hk0 hR_X6_sum t0 _ _ h
  · rw [if_pos hc1] at h
    refine v_aload_n F dX6_factor_12 rfl 1 rfl ?_
    refine v_getI (k := 8) F t0 (by decide) (inc inU_6) rfl rfl (by decide) (List.mem_cons_of_mem _ fl_X6_68) rfl dX6_factor_13 ?_
    refine v_sipush (v := 9999) F dX6_factor_16 (by decide) ?_
    refine v_icmp_le (tgt := 30) F dX6_factor_19 (by decide) (fun hc2 => ?_) (fun hc2 => ?_)
    · rw [if_pos hc2] at h
      refine v_sub (fun ls h9 => lv_sub h9 [1, 2, 0] rfl) ?_
      exact w_X6_factor_b30 F hr hlk hkf_X6_sum hk0 hR_X6_sum t0 _ _ h
    · rw [if_neg hc2] at h
      refine v_aload_n F dX6_factor_22 rfl 1 rfl ?_
      refine v_iconst (v := 2) F dX6_factor_23 (by decide) ?_
      obtain ⟨⟨r3, M4⟩, hz5, h⟩ := bd_some h
      dsimp only at h
      refine v_callVv (As := [.int 2]) (rest := []) F (c_X6_fail l F.2.2.1 t0 hz5) (cwV 1 F.1.2.2.2.2 (gU_V ml_X6_50 im_yX6_fail se_yX6_fail ini_X6 cd_X6_fail) rfl rfl rfl (by decide +kernel) ⟨by dsimp only [DP]; omega, by dsimp only [DP]; omega⟩) t0 (by decide) rfl rfl rfl (Nat.le_of_ble_eq_true rfl) dX6_factor_24 ⟨Nat.le_of_ble_eq_true rfl, Nat.le_of_ble_eq_true rfl⟩ ?_
      refine v_goto (tgt := 188) F dX6_factor_27 (by decide) ?_
      cases h
      exact v_vret F hr hlk dX6_factor_188
def f_X6_sum_b45 (r_X6_factor : Mem → Nat → Int32 → Option (Int32 × Mem)) (a0 : Nat) (i1 : Int32) (k4 : Int32 → Int32 → Mem → Option (Int32 × Mem)) (k19 : Int32 → Int32 → Int32 → Mem → Option (Int32 × Mem)) (x2 : Int32) (x3 : Int32) (x4 : Int32) (M : Mem) : Option (Int32 × Mem) := (f_X6_step M a0).bind fun q => match q with | (r9, M10) => ((r_X6_factor M10 a0 i1).bind fun q => match q with | (r13, M14) => ((f_X6_emit M14 a0 (M a0 6)).bind fun q => match q with | (r17, M18) => (k19 x2 x3 (x4 + 1) M18)))
def f_X6_sum_b101 (r_X6_factor : Mem → Nat → Int32 → Option (Int32 × Mem)) (a0 : Nat) (i1 : Int32) (k4 : Int32 → Int32 → Mem → Option (Int32 × Mem)) (x3 : Int32) (M : Mem) : Option (Int32 × Mem) := (f_X6_step M a0).bind fun q => match q with | (r28, M29) => (k4 (M a0 6) (x3 + 1) M29)
def f_X6_sum_b82 (r_X6_factor : Mem → Nat → Int32 → Option (Int32 × Mem)) (a0 : Nat) (i1 : Int32) (k4 : Int32 → Int32 → Mem → Option (Int32 × Mem)) (x3 : Int32) (M : Mem) : Option (Int32 × Mem) := if (M a0 6) = 43 then (f_X6_sum_b101 r_X6_factor a0 i1 k4 x3 M) else (if (M a0 6) = 45 then (f_X6_sum_b101 r_X6_factor a0 i1 k4 x3 M) else (some (0, M)))
def f_X6_sum_b72 (r_X6_factor : Mem → Nat → Int32 → Option (Int32 × Mem)) (a0 : Nat) (i1 : Int32) (k4 : Int32 → Int32 → Mem → Option (Int32 × Mem)) (x2 : Int32) (x3 : Int32) (M : Mem) : Option (Int32 × Mem) := if x2 = (-1) then (f_X6_sum_b82 r_X6_factor a0 i1 k4 x3 M) else ((f_X6_emit M a0 x2).bind fun q => match q with | (r22, M23) => (f_X6_sum_b82 r_X6_factor a0 i1 k4 x3 M23))
def f_X6_sum_h19 (r_X6_factor : Mem → Nat → Int32 → Option (Int32 × Mem)) (a0 : Nat) (i1 : Int32) (k4 : Int32 → Int32 → Mem → Option (Int32 × Mem)) : Nat → Int32 → Int32 → Int32 → Mem → Option (Int32 × Mem)
  | 0, _, _, _, _ => none
  | n + 1, x2, x3, x4, M => if 300 ≤ x4 then (f_X6_sum_b72 r_X6_factor a0 i1 k4 x2 x3 M) else (if (M a0 6) = 42 then (f_X6_sum_b45 r_X6_factor a0 i1 k4 (f_X6_sum_h19 r_X6_factor a0 i1 k4 n) x2 x3 x4 M) else (if (M a0 6) = 47 then (f_X6_sum_b45 r_X6_factor a0 i1 k4 (f_X6_sum_h19 r_X6_factor a0 i1 k4 n) x2 x3 x4 M) else (f_X6_sum_b72 r_X6_factor a0 i1 k4 x2 x3 M)))
def f_X6_sum_h4 (r_X6_factor : Mem → Nat → Int32 → Option (Int32 × Mem)) (a0 : Nat) (i1 : Int32)  : Nat → Int32 → Int32 → Mem → Option (Int32 × Mem)
  | 0, _, _, _ => none
  | n + 1, x2, x3, M => if 300 ≤ x3 then (some (0, M)) else ((r_X6_factor M a0 i1).bind fun q => match q with | (r2, M3) => (f_X6_sum_h19 r_X6_factor a0 i1 (f_X6_sum_h4 r_X6_factor a0 i1 n) FU x2 x3 0 M3))
def f_X6_sum (r_X6_factor : Mem → Nat → Int32 → Option (Int32 × Mem)) (M : Mem) (a0 : Nat) (i1 : Int32) : Option (Int32 × Mem) := f_X6_sum_h4 r_X6_factor a0 i1 FU (-1) 0 M
set_option maxHeartbeats 4000000 in
set_option maxRecDepth 100000 in
theorem w_X6_sum_b45 {g : gT} {p : Program} {l : Launch} {e : Env} {s : State} {m : MethodId} {args : Array Value} {below : List Frame} {meth : Method} {c : Code} {z : Int32 × Mem} (F : Fx g p s m args c cX6_sum 6 uX6_sum RX6) (hr : meth.sig.returnType = none) (hlk : meth.locks = false) {k kf_X6_factor : Nat} {r_X6_factor : Mem → Nat → Int32 → Option (Int32 × Mem)} {a0 : Nat} {i1 : Int32} (hkf_X6_factor : kf_X6_factor + 1 ≤ k) (hk0 : 4 ≤ k) (hR_X6_factor : ∀ (M : Mem) (b0 : Nat) (b1 : Int32) (z : Int32 × Mem), Ty g 6 b0 → r_X6_factor M b0 b1 = some z → Cn g l yX6_factor uX6_factor kf_X6_factor [.ref (gAd g b0), .int b1] M none z.2) (t0 : Ty g 6 a0) {k4 : Int32 → Int32 → Mem → Option (Int32 × Mem)} {k19 : Int32 → Int32 → Int32 → Mem → Option (Int32 × Mem)} (hk4 : ∀ (x2 : Int32) (x3 : Int32) (M : Mem), k4 x2 x3 M = some z → V g p l e ({ frames := k, cells := 0, slots := 0, locals := 40 * k } : Room) s m args below meth c 6 0 0 (MQ below (gQ g none z.2) args s 0 0 (gA g)) 4 [(0, .ref (gAd g a0)), (1, .int i1), (2, .int x2), (3, .int x3)] [] M) (hk19 : ∀ (x2 : Int32) (x3 : Int32) (x4 : Int32) (M : Mem), k19 x2 x3 x4 M = some z → V g p l e ({ frames := k, cells := 0, slots := 0, locals := 40 * k } : Room) s m args below meth c 6 0 0 (MQ below (gQ g none z.2) args s 0 0 (gA g)) 19 [(0, .ref (gAd g a0)), (1, .int i1), (2, .int x2), (3, .int x3), (4, .int x4)] [] M) (x2 : Int32) (x3 : Int32) (x4 : Int32) (M : Mem)  (h : f_X6_sum_b45 r_X6_factor a0 i1 k4 k19 x2 x3 x4 M = some z) : V g p l e ({ frames := k, cells := 0, slots := 0, locals := 40 * k } : Room) s m args below meth c 6 0 0 (MQ below (gQ g none z.2) args s 0 0 (gA g)) 45 [(0, .ref (gAd g a0)), (1, .int i1), (2, .int x2), (3, .int x3), (4, .int x4)] [] M := by
  unfold f_X6_sum_b45 at h
  refine v_aload_n F dX6_sum_45 rfl 0 rfl ?_
  refine v_getI (k := 6) F t0 (by decide) (inc inU_6) rfl rfl (by decide) (List.mem_cons_of_mem _ fl_X6_47) rfl dX6_sum_46 ?_
  refine v_istore (lv' := [(5, .int (M a0 6)), (0, .ref (gAd g a0)), (1, .int i1), (2, .int x2), (3, .int x3), (4, .int x4)]) F dX6_sum_49 (by decide) rfl ?_
  refine v_aload_n F dX6_sum_51 rfl 1 rfl ?_
  obtain ⟨⟨r9, M10⟩, hz11, h⟩ := bd_some h
  dsimp only at h
  refine v_callVv (As := []) (rest := []) F (c_X6_step l F.2.2.1 t0 hz11) (cwV 0 F.1.2.2.2.2 (gU_V ml_X6_44 im_yX6_step se_yX6_step ini_X6 cd_X6_step) rfl rfl rfl (by decide +kernel) ⟨by dsimp only [DP]; omega, by dsimp only [DP]; omega⟩) t0 (by decide) rfl rfl rfl (Nat.le_of_ble_eq_true rfl) dX6_sum_52 ⟨Nat.le_of_ble_eq_true rfl, Nat.le_of_ble_eq_true rfl⟩ ?_
  refine v_aload_n F dX6_sum_55 rfl 1 rfl ?_
  refine v_iload_n F dX6_sum_56 rfl 2 rfl ?_
  obtain ⟨⟨r13, M14⟩, hz15, h⟩ := bd_some h
  dsimp only at h
  refine v_callVv (As := [.int i1]) (rest := []) F (hR_X6_factor _ _ _ _ t0 hz15) (cwV 1 F.1.2.2.2.2 (gU_V ml_X6_65 im_yX6_factor se_yX6_factor ini_X6 cd_X6_factor) rfl rfl rfl (by decide +kernel) ⟨by dsimp only [DP]; omega, by dsimp only [DP]; omega⟩) t0 (by decide) rfl rfl rfl (Nat.le_of_ble_eq_true rfl) dX6_sum_57 ⟨Nat.le_of_ble_eq_true rfl, Nat.le_of_ble_eq_true rfl⟩ ?_
  refine v_aload_n F dX6_sum_60 rfl 1 rfl ?_
  refine v_iload F dX6_sum_61 0 rfl ?_
  obtain ⟨⟨r17, M18⟩, hz19, h⟩ := bd_some h
  dsimp only at h
  refine v_callVv (As := [.int (M a0 6)]) (rest := []) F (c_X6_emit l F.2.2.1 t0 hz19) (cwV 1 F.1.2.2.2.2 (gU_V ml_X6_59 im_yX6_emit se_yX6_emit ini_X6 cd_X6_emit) rfl rfl rfl (by decide +kernel) ⟨by dsimp only [DP]; omega, by dsimp only [DP]; omega⟩) t0 (by decide) rfl rfl rfl (Nat.le_of_ble_eq_true rfl) dX6_sum_63 ⟨Nat.le_of_ble_eq_true rfl, Nat.le_of_ble_eq_true rfl⟩ ?_
  refine v_iinc (v := x4 + 1) (lv' := [(4, .int (x4 + 1)), (5, .int (M a0 6)), (0, .ref (gAd g a0)), (1, .int i1), (2, .int x2), (3, .int x3)]) F dX6_sum_66 (q := 5) rfl rfl (by decide) rfl ?_
  refine v_goto (tgt := 19) F dX6_sum_69 (by decide) ?_
  refine v_sub (fun ls h9 => lv_sub h9 [2, 3, 4, 5, 0] rfl) ?_
  exact hk19 _ _ _ _ h
set_option maxHeartbeats 4000000 in
set_option maxRecDepth 100000 in
theorem w_X6_sum_b101 {g : gT} {p : Program} {l : Launch} {e : Env} {s : State} {m : MethodId} {args : Array Value} {below : List Frame} {meth : Method} {c : Code} {z : Int32 × Mem} (F : Fx g p s m args c cX6_sum 6 uX6_sum RX6) (hr : meth.sig.returnType = none) (hlk : meth.locks = false) {k kf_X6_factor : Nat} {r_X6_factor : Mem → Nat → Int32 → Option (Int32 × Mem)} {a0 : Nat} {i1 : Int32} (hkf_X6_factor : kf_X6_factor + 1 ≤ k) (hk0 : 4 ≤ k) (hR_X6_factor : ∀ (M : Mem) (b0 : Nat) (b1 : Int32) (z : Int32 × Mem), Ty g 6 b0 → r_X6_factor M b0 b1 = some z → Cn g l yX6_factor uX6_factor kf_X6_factor [.ref (gAd g b0), .int b1] M none z.2) (t0 : Ty g 6 a0) {k4 : Int32 → Int32 → Mem → Option (Int32 × Mem)} (hk4 : ∀ (x2 : Int32) (x3 : Int32) (M : Mem), k4 x2 x3 M = some z → V g p l e ({ frames := k, cells := 0, slots := 0, locals := 40 * k } : Room) s m args below meth c 6 0 0 (MQ below (gQ g none z.2) args s 0 0 (gA g)) 4 [(0, .ref (gAd g a0)), (1, .int i1), (2, .int x2), (3, .int x3)] [] M) (x3 : Int32) (M : Mem)  (h : f_X6_sum_b101 r_X6_factor a0 i1 k4 x3 M = some z) : V g p l e ({ frames := k, cells := 0, slots := 0, locals := 40 * k } : Room) s m args below meth c 6 0 0 (MQ below (gQ g none z.2) args s 0 0 (gA g)) 101 [(0, .ref (gAd g a0)), (1, .int i1), (3, .int x3)] [] M := by
  unfold f_X6_sum_b101 at h
  refine v_aload_n F dX6_sum_101 rfl 0 rfl ?_
  refine v_getI (k := 6) F t0 (by decide) (inc inU_6) rfl rfl (by decide) (List.mem_cons_of_mem _ fl_X6_47) rfl dX6_sum_102 ?_
  refine v_istore_n (lv' := [(2, .int (M a0 6)), (0, .ref (gAd g a0)), (1, .int i1), (3, .int x3)]) F dX6_sum_105 rfl (by decide) rfl ?_
  refine v_aload_n F dX6_sum_106 rfl 1 rfl ?_
  obtain ⟨⟨r28, M29⟩, hz30, h⟩ := bd_some h
  dsimp only at h
  refine v_callVv (As := []) (rest := []) F (c_X6_step l F.2.2.1 t0 hz30) (cwV 0 F.1.2.2.2.2 (gU_V ml_X6_44 im_yX6_step se_yX6_step ini_X6 cd_X6_step) rfl rfl rfl (by decide +kernel) ⟨by dsimp only [DP]; omega, by dsimp only [DP]; omega⟩) t0 (by decide) rfl rfl rfl (Nat.le_of_ble_eq_true rfl) dX6_sum_107 ⟨Nat.le_of_ble_eq_true rfl, Nat.le_of_ble_eq_true rfl⟩ ?_
  refine v_iinc (v := x3 + 1) (lv' := [(3, .int (x3 + 1)), (2, .int (M a0 6)), (0, .ref (gAd g a0)), (1, .int i1)]) F dX6_sum_110 (q := 3) rfl rfl (by decide) rfl ?_
  refine v_goto (tgt := 4) F dX6_sum_113 (by decide) ?_
  refine v_sub (fun ls h9 => lv_sub h9 [2, 3, 1, 0] rfl) ?_
  exact hk4 _ _ _ h
set_option maxHeartbeats 4000000 in
set_option maxRecDepth 100000 in
theorem w_X6_sum_b82 {g : gT} {p : Program} {l : Launch} {e : Env} {s : State} {m : MethodId} {args : Array Value} {below : List Frame} {meth : Method} {c : Code} {z : Int32 × Mem} (F : Fx g p s m args c cX6_sum 6 uX6_sum RX6) (hr : meth.sig.returnType = none) (hlk : meth.locks = false) {k kf_X6_factor : Nat} {r_X6_factor : Mem → Nat → Int32 → Option (Int32 × Mem)} {a0 : Nat} {i1 : Int32} (hkf_X6_factor : kf_X6_factor + 1 ≤ k) (hk0 : 4 ≤ k) (hR_X6_factor : ∀ (M : Mem) (b0 : Nat) (b1 : Int32) (z : Int32 × Mem), Ty g 6 b0 → r_X6_factor M b0 b1 = some z → Cn g l yX6_factor uX6_factor kf_X6_factor [.ref (gAd g b0), .int b1] M none z.2) (t0 : Ty g 6 a0) {k4 : Int32 → Int32 → Mem → Option (Int32 × Mem)} (hk4 : ∀ (x2 : Int32) (x3 : Int32) (M : Mem), k4 x2 x3 M = some z → V g p l e ({ frames := k, cells := 0, slots := 0, locals := 40 * k } : Room) s m args below meth c 6 0 0 (MQ below (gQ g none z.2) args s 0 0 (gA g)) 4 [(0, .ref (gAd g a0)), (1, .int i1), (2, .int x2), (3, .int x3)] [] M) (x3 : Int32) (M : Mem)  (h : f_X6_sum_b82 r_X6_factor a0 i1 k4 x3 M = some z) : V g p l e ({ frames := k, cells := 0, slots := 0, locals := 40 * k } : Room) s m args below meth c 6 0 0 (MQ below (gQ g none z.2) args s 0 0 (gA g)) 82 [(0, .ref (gAd g a0)), (1, .int i1), (3, .int x3)] [] M := by
  unfold f_X6_sum_b82 at h
  refine v_aload_n F dX6_sum_82 rfl 0 rfl ?_
  refine v_getI (k := 6) F t0 (by decide) (inc inU_6) rfl rfl (by decide) (List.mem_cons_of_mem _ fl_X6_47) rfl dX6_sum_83 ?_
  refine v_bipush (v := 43) F dX6_sum_86 (by decide) ?_
  refine v_icmp_eq (tgt := 101) F dX6_sum_88 (by decide) (fun hc26 => ?_) (fun hc26 => ?_)
  · rw [if_pos hc26] at h
    exact w_X6_sum_b101 F hr hlk hkf_X6_factor hk0 hR_X6_factor t0 hk4 _ _ h
  · rw [if_neg hc26] at h
    refine v_aload_n F dX6_sum_91 rfl 0 rfl ?_
    refine v_getI (k := 6) F t0 (by decide) (inc inU_6) rfl rfl (by decide) (List.mem_cons_of_mem _ fl_X6_47) rfl dX6_sum_92 ?_
    refine v_bipush (v := 45) F dX6_sum_95 (by decide) ?_
    refine v_icmp_eq (tgt := 101) F dX6_sum_97 (by decide) (fun hc27 => ?_) (fun hc27 => ?_)
    · rw [if_pos hc27] at h
      exact w_X6_sum_b101 F hr hlk hkf_X6_factor hk0 hR_X6_factor t0 hk4 _ _ h
    · rw [if_neg hc27] at h
      cases h
      exact v_vret F hr hlk dX6_sum_100
set_option maxHeartbeats 4000000 in
set_option maxRecDepth 100000 in
theorem w_X6_sum_b72 {g : gT} {p : Program} {l : Launch} {e : Env} {s : State} {m : MethodId} {args : Array Value} {below : List Frame} {meth : Method} {c : Code} {z : Int32 × Mem} (F : Fx g p s m args c cX6_sum 6 uX6_sum RX6) (hr : meth.sig.returnType = none) (hlk : meth.locks = false) {k kf_X6_factor : Nat} {r_X6_factor : Mem → Nat → Int32 → Option (Int32 × Mem)} {a0 : Nat} {i1 : Int32} (hkf_X6_factor : kf_X6_factor + 1 ≤ k) (hk0 : 4 ≤ k) (hR_X6_factor : ∀ (M : Mem) (b0 : Nat) (b1 : Int32) (z : Int32 × Mem), Ty g 6 b0 → r_X6_factor M b0 b1 = some z → Cn g l yX6_factor uX6_factor kf_X6_factor [.ref (gAd g b0), .int b1] M none z.2) (t0 : Ty g 6 a0) {k4 : Int32 → Int32 → Mem → Option (Int32 × Mem)} (hk4 : ∀ (x2 : Int32) (x3 : Int32) (M : Mem), k4 x2 x3 M = some z → V g p l e ({ frames := k, cells := 0, slots := 0, locals := 40 * k } : Room) s m args below meth c 6 0 0 (MQ below (gQ g none z.2) args s 0 0 (gA g)) 4 [(0, .ref (gAd g a0)), (1, .int i1), (2, .int x2), (3, .int x3)] [] M) (x2 : Int32) (x3 : Int32) (M : Mem)  (h : f_X6_sum_b72 r_X6_factor a0 i1 k4 x2 x3 M = some z) : V g p l e ({ frames := k, cells := 0, slots := 0, locals := 40 * k } : Room) s m args below meth c 6 0 0 (MQ below (gQ g none z.2) args s 0 0 (gA g)) 72 [(0, .ref (gAd g a0)), (1, .int i1), (2, .int x2), (3, .int x3)] [] M := by
  unfold f_X6_sum_b72 at h
  refine v_iload_n F dX6_sum_72 rfl 2 rfl ?_
  refine v_iconst (v := (-1)) F dX6_sum_73 (by decide) ?_
  refine v_icmp_eq (tgt := 82) F dX6_sum_74 (by decide) (fun hc21 => ?_) (fun hc21 => ?_)
  · rw [if_pos hc21] at h
    refine v_sub (fun ls h9 => lv_sub h9 [0, 1, 3] rfl) ?_
    exact w_X6_sum_b82 F hr hlk hkf_X6_factor hk0 hR_X6_factor t0 hk4 _ _ h
  · rw [if_neg hc21] at h
    refine v_aload_n F dX6_sum_77 rfl 0 rfl ?_
    refine v_iload_n F dX6_sum_78 rfl 2 rfl ?_
    obtain ⟨⟨r22, M23⟩, hz24, h⟩ := bd_some h
    dsimp only at h
    refine v_callVv (As := [.int x2]) (rest := []) F (c_X6_emit l F.2.2.1 t0 hz24) (cwV 1 F.1.2.2.2.2 (gU_V ml_X6_59 im_yX6_emit se_yX6_emit ini_X6 cd_X6_emit) rfl rfl rfl (by decide +kernel) ⟨by dsimp only [DP]; omega, by dsimp only [DP]; omega⟩) t0 (by decide) rfl rfl rfl (Nat.le_of_ble_eq_true rfl) dX6_sum_79 ⟨Nat.le_of_ble_eq_true rfl, Nat.le_of_ble_eq_true rfl⟩ ?_
    refine v_sub (fun ls h9 => lv_sub h9 [0, 1, 3] rfl) ?_
    exact w_X6_sum_b82 F hr hlk hkf_X6_factor hk0 hR_X6_factor t0 hk4 _ _ h
set_option maxHeartbeats 4000000 in
set_option maxRecDepth 100000 in
theorem w_X6_sum_h19 {g : gT} {p : Program} {l : Launch} {e : Env} {s : State} {m : MethodId} {args : Array Value} {below : List Frame} {meth : Method} {c : Code} {z : Int32 × Mem} (F : Fx g p s m args c cX6_sum 6 uX6_sum RX6) (hr : meth.sig.returnType = none) (hlk : meth.locks = false) {k kf_X6_factor : Nat} {r_X6_factor : Mem → Nat → Int32 → Option (Int32 × Mem)} {a0 : Nat} {i1 : Int32} (hkf_X6_factor : kf_X6_factor + 1 ≤ k) (hk0 : 4 ≤ k) (hR_X6_factor : ∀ (M : Mem) (b0 : Nat) (b1 : Int32) (z : Int32 × Mem), Ty g 6 b0 → r_X6_factor M b0 b1 = some z → Cn g l yX6_factor uX6_factor kf_X6_factor [.ref (gAd g b0), .int b1] M none z.2) (t0 : Ty g 6 a0) {k4 : Int32 → Int32 → Mem → Option (Int32 × Mem)} (hk4 : ∀ (x2 : Int32) (x3 : Int32) (M : Mem), k4 x2 x3 M = some z → V g p l e ({ frames := k, cells := 0, slots := 0, locals := 40 * k } : Room) s m args below meth c 6 0 0 (MQ below (gQ g none z.2) args s 0 0 (gA g)) 4 [(0, .ref (gAd g a0)), (1, .int i1), (2, .int x2), (3, .int x3)] [] M) : ∀ (n : Nat) (x2 : Int32) (x3 : Int32) (x4 : Int32) (M : Mem), f_X6_sum_h19 r_X6_factor a0 i1 k4 n x2 x3 x4 M = some z → V g p l e ({ frames := k, cells := 0, slots := 0, locals := 40 * k } : Room) s m args below meth c 6 0 0 (MQ below (gQ g none z.2) args s 0 0 (gA g)) 19 [(0, .ref (gAd g a0)), (1, .int i1), (2, .int x2), (3, .int x3), (4, .int x4)] [] M := by
  intro n
  induction n with
  | zero => intro x2 x3 x4 M; intros; rename_i h; cases h
  | succ n ih =>
    intro x2 x3 x4 M h
    rw [f_X6_sum_h19] at h
    refine v_iload F dX6_sum_19 4 rfl ?_
    refine v_sipush (v := 300) F dX6_sum_21 (by decide) ?_
    refine v_icmp_ge (tgt := 72) F dX6_sum_24 (by decide) (fun hc6 => ?_) (fun hc6 => ?_)
    · rw [if_pos hc6] at h
      refine v_sub (fun ls h9 => lv_sub h9 [0, 1, 2, 3] rfl) ?_
      exact w_X6_sum_b72 F hr hlk hkf_X6_factor hk0 hR_X6_factor t0 hk4 _ _ _ h
    · rw [if_neg hc6] at h
      refine v_aload_n F dX6_sum_27 rfl 0 rfl ?_
      refine v_getI (k := 6) F t0 (by decide) (inc inU_6) rfl rfl (by decide) (List.mem_cons_of_mem _ fl_X6_47) rfl dX6_sum_28 ?_
      refine v_bipush (v := 42) F dX6_sum_31 (by decide) ?_
      refine v_icmp_eq (tgt := 45) F dX6_sum_33 (by decide) (fun hc7 => ?_) (fun hc7 => ?_)
      · rw [if_pos hc7] at h
        exact w_X6_sum_b45 F hr hlk hkf_X6_factor hk0 hR_X6_factor t0 hk4 ih _ _ _ _ h
      · rw [if_neg hc7] at h
        refine v_aload_n F dX6_sum_36 rfl 0 rfl ?_
        refine v_getI (k := 6) F t0 (by decide) (inc inU_6) rfl rfl (by decide) (List.mem_cons_of_mem _ fl_X6_47) rfl dX6_sum_37 ?_
        refine v_bipush (v := 47) F dX6_sum_40 (by decide) ?_
        refine v_icmp_ne (tgt := 72) F dX6_sum_42 (by decide) (fun hc8 => ?_) (fun hc8 => ?_)
        · rw [if_neg hc8] at h
          refine v_sub (fun ls h9 => lv_sub h9 [0, 1, 2, 3] rfl) ?_
          exact w_X6_sum_b72 F hr hlk hkf_X6_factor hk0 hR_X6_factor t0 hk4 _ _ _ h
        · rw [if_pos hc8] at h
          exact w_X6_sum_b45 F hr hlk hkf_X6_factor hk0 hR_X6_factor t0 hk4 ih _ _ _ _ h
set_option maxHeartbeats 4000000 in
set_option maxRecDepth 100000 in
theorem w_X6_sum_h4 {g : gT} {p : Program} {l : Launch} {e : Env} {s : State} {m : MethodId} {args : Array Value} {below : List Frame} {meth : Method} {c : Code} {z : Int32 × Mem} (F : Fx g p s m args c cX6_sum 6 uX6_sum RX6) (hr : meth.sig.returnType = none) (hlk : meth.locks = false) {k kf_X6_factor : Nat} {r_X6_factor : Mem → Nat → Int32 → Option (Int32 × Mem)} {a0 : Nat} {i1 : Int32} (hkf_X6_factor : kf_X6_factor + 1 ≤ k) (hk0 : 4 ≤ k) (hR_X6_factor : ∀ (M : Mem) (b0 : Nat) (b1 : Int32) (z : Int32 × Mem), Ty g 6 b0 → r_X6_factor M b0 b1 = some z → Cn g l yX6_factor uX6_factor kf_X6_factor [.ref (gAd g b0), .int b1] M none z.2) (t0 : Ty g 6 a0)   : ∀ (n : Nat) (x2 : Int32) (x3 : Int32) (M : Mem), f_X6_sum_h4 r_X6_factor a0 i1 n x2 x3 M = some z → V g p l e ({ frames := k, cells := 0, slots := 0, locals := 40 * k } : Room) s m args below meth c 6 0 0 (MQ below (gQ g none z.2) args s 0 0 (gA g)) 4 [(0, .ref (gAd g a0)), (1, .int i1), (2, .int x2), (3, .int x3)] [] M := by
  intro n
  induction n with
  | zero => intro x2 x3 M; intros; rename_i h; cases h
  | succ n ih =>
    intro x2 x3 M h
    rw [f_X6_sum_h4] at h
    refine v_iload_n F dX6_sum_4 rfl 3 rfl ?_
    refine v_sipush (v := 300) F dX6_sum_5 (by decide) ?_
    refine v_icmp_ge (tgt := 116) F dX6_sum_8 (by decide) (fun hc1 => ?_) (fun hc1 => ?_)
    · rw [if_pos hc1] at h
      cases h
      exact v_vret F hr hlk dX6_sum_116
    · rw [if_neg hc1] at h
      refine v_aload_n F dX6_sum_11 rfl 0 rfl ?_
      refine v_iload_n F dX6_sum_12 rfl 1 rfl ?_
      obtain ⟨⟨r2, M3⟩, hz4, h⟩ := bd_some h
      dsimp only at h
      refine v_callVv (As := [.int i1]) (rest := []) F (hR_X6_factor _ _ _ _ t0 hz4) (cwV 1 F.1.2.2.2.2 (gU_V ml_X6_65 im_yX6_factor se_yX6_factor ini_X6 cd_X6_factor) rfl rfl rfl (by decide +kernel) ⟨by dsimp only [DP]; omega, by dsimp only [DP]; omega⟩) t0 (by decide) rfl rfl rfl (Nat.le_of_ble_eq_true rfl) dX6_sum_13 ⟨Nat.le_of_ble_eq_true rfl, Nat.le_of_ble_eq_true rfl⟩ ?_
      refine v_iconst (v := 0) F dX6_sum_16 (by decide) ?_
      refine v_istore (lv' := [(4, .int 0), (0, .ref (gAd g a0)), (1, .int i1), (2, .int x2), (3, .int x3)]) F dX6_sum_17 (by decide) rfl ?_
      refine v_sub (fun ls h9 => lv_sub h9 [1, 2, 3, 4, 0] rfl) ?_
      exact w_X6_sum_h19 F hr hlk hkf_X6_factor hk0 hR_X6_factor t0 ih _ _ _ _ _ h
set_option maxHeartbeats 4000000 in
set_option maxRecDepth 100000 in
theorem c_X6_sum {g : gT} (l : Launch) (hok : gOK g) {k kf_X6_factor : Nat} {r_X6_factor : Mem → Nat → Int32 → Option (Int32 × Mem)} {a0 : Nat} {i1 : Int32} {M : Mem} {z : Int32 × Mem} (hkf_X6_factor : kf_X6_factor + 1 ≤ k) (hk0 : 4 ≤ k) (hR_X6_factor : ∀ (M : Mem) (b0 : Nat) (b1 : Int32) (z : Int32 × Mem), Ty g 6 b0 → r_X6_factor M b0 b1 = some z → Cn g l yX6_factor uX6_factor kf_X6_factor [.ref (gAd g b0), .int b1] M none z.2) (t0 : Ty g 6 a0) (h : f_X6_sum r_X6_factor M a0 i1 = some z) : Cn g l yX6_sum uX6_sum k [.ref (gAd g a0), .int i1] M none z.2 := by
  refine Cn.of (cc := cX6_sum) (maxL := 6) (ret := none) hok (by decide) rfl (Nat.le_of_ble_eq_true rfl) (fun p e s m args below meth c F hr hlk => ?_)
  unfold f_X6_sum at h
  show V g p l e ({ frames := k, cells := 0, slots := 0, locals := 40 * k } : Room) s m args below meth c 6 0 0 (MQ below (gQ g none z.2) args s 0 0 (gA g)) 0 [(0, .ref (gAd g a0)), (1, .int i1)] [] M
  refine v_iconst (v := (-1)) F dX6_sum_0 (by decide) ?_
  refine v_istore_n (lv' := [(2, .int (-1)), (0, .ref (gAd g a0)), (1, .int i1)]) F dX6_sum_1 rfl (by decide) rfl ?_
  refine v_iconst (v := 0) F dX6_sum_2 (by decide) ?_
  refine v_istore_n (lv' := [(3, .int 0), (2, .int (-1)), (0, .ref (gAd g a0)), (1, .int i1)]) F dX6_sum_3 rfl (by decide) rfl ?_
  refine v_sub (fun ls h9 => lv_sub h9 [2, 3, 1, 0] rfl) ?_
  exact w_X6_sum_h4 F hr hlk hkf_X6_factor hk0 hR_X6_factor t0 _ _ _ _ h
/-- the group closed by depth -/
def S_X6_sum : Nat → Mem → Nat → Int32 → Option (Int32 × Mem)
  | 0 => fun _ _ _ => none
  | d + 1 => f_X6_sum (f_X6_factor (S_X6_sum d))
theorem cSd_X6_sum {g : gT} (l : Launch) (hok : gOK g) : ∀ (d : Nat) (M : Mem) (a0 : Nat) (i1 : Int32) (z : Int32 × Mem), Ty g 6 a0 → S_X6_sum d M a0 i1 = some z → Cn g l yX6_sum uX6_sum (3 + 2 * d) [.ref (gAd g a0), .int i1] M none z.2 := by
  intro d
  induction d with
  | zero => intro M a0 i1 z _ h; cases h
  | succ d ih =>
    intro M a0 i1 z t0 h
    exact c_X6_sum l hok (k := 3 + 2 * (d + 1)) (kf_X6_factor := 3 + 2 * d + 1) (by omega) (by omega) (fun M b0 b1 z t0 h => c_X6_factor l hok (k := 3 + 2 * d + 1) (kf_X6_sum := 3 + 2 * d) (by omega) (by omega) ih t0 h) t0 h
theorem cS_X6_sum {g : gT} (l : Launch) (hok : gOK g) (d : Nat) (M : Mem) (a0 : Nat) (i1 : Int32) (z : Int32 × Mem) (t0 : Ty g 6 a0) (h : S_X6_sum d M a0 i1 = some z) : Cn g l yX6_sum uX6_sum (3 + 2 * d) [.ref (gAd g a0), .int i1] M none z.2 := cSd_X6_sum l hok d M a0 i1 z t0 h

def f_X6_comparison_b101 (r_X6_condition : Mem → Nat → Int32 → Option (Int32 × Mem)) (r_X6_comparison : Mem → Nat → Int32 → Option (Int32 × Mem)) (a0 : Nat) (i1 : Int32)  (x2 : Int32) (M : Mem) : Option (Int32 × Mem) := (f_X6_step M a0).bind fun q => match q with | (r40, M41) => ((S_X6_sum DP M41 a0 i1).bind fun q => match q with | (r44, M45) => ((f_X6_emit M45 a0 x2).bind fun q => match q with | (r48, M49) => (some (0, M49))))
def f_X6_comparison (r_X6_condition : Mem → Nat → Int32 → Option (Int32 × Mem)) (r_X6_comparison : Mem → Nat → Int32 → Option (Int32 × Mem)) (M : Mem) (a0 : Nat) (i1 : Int32) : Option (Int32 × Mem) := if (M a0 6) = 314 then ((f_X6_enters M a0 314 i1).bind fun q => match q with | (r27, M28) => (if r27 = 0 then (some (0, M28)) else ((r_X6_comparison M28 a0 (i1 + 1)).bind fun q => match q with | (r32, M33) => ((f_X6_emit M33 a0 314).bind fun q => match q with | (r36, M37) => (some (0, M37)))))) else (if (M a0 6) = 91 then ((f_X6_enters M a0 91 i1).bind fun q => match q with | (r14, M15) => (if r14 = 0 then (some (0, M15)) else ((r_X6_condition M15 a0 (i1 + 1)).bind fun q => match q with | (r19, M20) => ((f_X6_expect M20 a0 93).bind fun q => match q with | (r23, M24) => (some (0, M24)))))) else ((S_X6_sum DP M a0 i1).bind fun q => match q with | (r3, M4) => (if (M4 a0 6) = 60 then (f_X6_comparison_b101 r_X6_condition r_X6_comparison a0 i1 (M4 a0 6) M4) else (if (M4 a0 6) = 62 then (f_X6_comparison_b101 r_X6_condition r_X6_comparison a0 i1 (M4 a0 6) M4) else (if (M4 a0 6) = 61 then (f_X6_comparison_b101 r_X6_condition r_X6_comparison a0 i1 (M4 a0 6) M4) else ((f_X6_fail M4 a0 1).bind fun q => match q with | (r10, M11) => (some (0, M11))))))))
set_option maxHeartbeats 4000000 in
set_option maxRecDepth 100000 in
theorem w_X6_comparison_b101 {g : gT} {p : Program} {l : Launch} {e : Env} {s : State} {m : MethodId} {args : Array Value} {below : List Frame} {meth : Method} {c : Code} {z : Int32 × Mem} (F : Fx g p s m args c cX6_comparison 3 uX6_comparison RX6) (hr : meth.sig.returnType = none) (hlk : meth.locks = false) {k kf_X6_condition kf_X6_comparison : Nat} {r_X6_condition : Mem → Nat → Int32 → Option (Int32 × Mem)} {r_X6_comparison : Mem → Nat → Int32 → Option (Int32 × Mem)} {a0 : Nat} {i1 : Int32} (hkf_X6_condition : kf_X6_condition + 1 ≤ k) (hkf_X6_comparison : kf_X6_comparison + 1 ≤ k) (hk0 : 45 ≤ k) (hR_X6_condition : ∀ (M : Mem) (b0 : Nat) (b1 : Int32) (z : Int32 × Mem), Ty g 6 b0 → r_X6_condition M b0 b1 = some z → Cn g l yX6_condition uX6_condition kf_X6_condition [.ref (gAd g b0), .int b1] M none z.2) (hR_X6_comparison : ∀ (M : Mem) (b0 : Nat) (b1 : Int32) (z : Int32 × Mem), Ty g 6 b0 → r_X6_comparison M b0 b1 = some z → Cn g l yX6_comparison uX6_comparison kf_X6_comparison [.ref (gAd g b0), .int b1] M none z.2) (t0 : Ty g 6 a0)   (x2 : Int32) (M : Mem)  (h : f_X6_comparison_b101 r_X6_condition r_X6_comparison a0 i1 x2 M = some z) : V g p l e ({ frames := k, cells := 0, slots := 0, locals := 40 * k } : Room) s m args below meth c 3 0 0 (MQ below (gQ g none z.2) args s 0 0 (gA g)) 101 [(0, .ref (gAd g a0)), (1, .int i1), (2, .int x2)] [] M := by
  unfold f_X6_comparison_b101 at h
  refine v_aload_n F dX6_comparison_101 rfl 0 rfl ?_
  obtain ⟨⟨r40, M41⟩, hz42, h⟩ := bd_some h
  dsimp only at h
  refine v_callVv (As := []) (rest := []) F (c_X6_step l F.2.2.1 t0 hz42) (cwV 0 F.1.2.2.2.2 (gU_V ml_X6_44 im_yX6_step se_yX6_step ini_X6 cd_X6_step) rfl rfl rfl (by decide +kernel) ⟨by dsimp only [DP]; omega, by dsimp only [DP]; omega⟩) t0 (by decide) rfl rfl rfl (Nat.le_of_ble_eq_true rfl) dX6_comparison_102 ⟨Nat.le_of_ble_eq_true rfl, Nat.le_of_ble_eq_true rfl⟩ ?_
  refine v_aload_n F dX6_comparison_105 rfl 0 rfl ?_
  refine v_iload_n F dX6_comparison_106 rfl 1 rfl ?_
  obtain ⟨⟨r44, M45⟩, hz46, h⟩ := bd_some h
  dsimp only at h
  refine v_callVv (As := [.int i1]) (rest := []) F (cS_X6_sum l F.2.2.1 DP _ _ _ _ t0 hz46) (cwV 1 F.1.2.2.2.2 (gU_V ml_X6_53 im_yX6_sum se_yX6_sum ini_X6 cd_X6_sum) rfl rfl rfl (by decide +kernel) ⟨by dsimp only [DP]; omega, by dsimp only [DP]; omega⟩) t0 (by decide) rfl rfl rfl (Nat.le_of_ble_eq_true rfl) dX6_comparison_107 ⟨Nat.le_of_ble_eq_true rfl, Nat.le_of_ble_eq_true rfl⟩ ?_
  refine v_aload_n F dX6_comparison_110 rfl 0 rfl ?_
  refine v_iload_n F dX6_comparison_111 rfl 2 rfl ?_
  obtain ⟨⟨r48, M49⟩, hz50, h⟩ := bd_some h
  dsimp only at h
  refine v_callVv (As := [.int x2]) (rest := []) F (c_X6_emit l F.2.2.1 t0 hz50) (cwV 1 F.1.2.2.2.2 (gU_V ml_X6_59 im_yX6_emit se_yX6_emit ini_X6 cd_X6_emit) rfl rfl rfl (by decide +kernel) ⟨by dsimp only [DP]; omega, by dsimp only [DP]; omega⟩) t0 (by decide) rfl rfl rfl (Nat.le_of_ble_eq_true rfl) dX6_comparison_112 ⟨Nat.le_of_ble_eq_true rfl, Nat.le_of_ble_eq_true rfl⟩ ?_
  refine v_goto (tgt := 123) F dX6_comparison_115 (by decide) ?_
  cases h
  exact v_vret F hr hlk dX6_comparison_123
set_option maxHeartbeats 4000000 in
set_option maxRecDepth 100000 in
theorem c_X6_comparison {g : gT} (l : Launch) (hok : gOK g) {k kf_X6_condition kf_X6_comparison : Nat} {r_X6_condition : Mem → Nat → Int32 → Option (Int32 × Mem)} {r_X6_comparison : Mem → Nat → Int32 → Option (Int32 × Mem)} {a0 : Nat} {i1 : Int32} {M : Mem} {z : Int32 × Mem} (hkf_X6_condition : kf_X6_condition + 1 ≤ k) (hkf_X6_comparison : kf_X6_comparison + 1 ≤ k) (hk0 : 45 ≤ k) (hR_X6_condition : ∀ (M : Mem) (b0 : Nat) (b1 : Int32) (z : Int32 × Mem), Ty g 6 b0 → r_X6_condition M b0 b1 = some z → Cn g l yX6_condition uX6_condition kf_X6_condition [.ref (gAd g b0), .int b1] M none z.2) (hR_X6_comparison : ∀ (M : Mem) (b0 : Nat) (b1 : Int32) (z : Int32 × Mem), Ty g 6 b0 → r_X6_comparison M b0 b1 = some z → Cn g l yX6_comparison uX6_comparison kf_X6_comparison [.ref (gAd g b0), .int b1] M none z.2) (t0 : Ty g 6 a0) (h : f_X6_comparison r_X6_condition r_X6_comparison M a0 i1 = some z) : Cn g l yX6_comparison uX6_comparison k [.ref (gAd g a0), .int i1] M none z.2 := by
  refine Cn.of (cc := cX6_comparison) (maxL := 3) (ret := none) hok (by decide) rfl (Nat.le_of_ble_eq_true rfl) (fun p e s m args below meth c F hr hlk => ?_)
  unfold f_X6_comparison at h
  show V g p l e ({ frames := k, cells := 0, slots := 0, locals := 40 * k } : Room) s m args below meth c 3 0 0 (MQ below (gQ g none z.2) args s 0 0 (gA g)) 0 [(0, .ref (gAd g a0)), (1, .int i1)] [] M
  refine v_aload_n F dX6_comparison_0 rfl 0 rfl ?_
  refine v_getI (k := 6) F t0 (by decide) (inc inU_6) rfl rfl (by decide) (List.mem_cons_of_mem _ fl_X6_47) rfl dX6_comparison_1 ?_
  refine v_sipush (v := 314) F dX6_comparison_4 (by decide) ?_
  refine v_icmp_ne (tgt := 38) F dX6_comparison_7 (by decide) (fun hc1 => ?_) (fun hc1 => ?_)
  · rw [if_neg hc1] at h
    refine v_aload_n F dX6_comparison_38 rfl 0 rfl ?_
    refine v_getI (k := 6) F t0 (by decide) (inc inU_6) rfl rfl (by decide) (List.mem_cons_of_mem _ fl_X6_47) rfl dX6_comparison_39 ?_
    refine v_bipush (v := 91) F dX6_comparison_42 (by decide) ?_
    refine v_icmp_ne (tgt := 73) F dX6_comparison_44 (by decide) (fun hc2 => ?_) (fun hc2 => ?_)
    · rw [if_neg hc2] at h
      refine v_aload_n F dX6_comparison_73 rfl 0 rfl ?_
      refine v_iload_n F dX6_comparison_74 rfl 1 rfl ?_
      obtain ⟨⟨r3, M4⟩, hz5, h⟩ := bd_some h
      dsimp only at h
      refine v_callVv (As := [.int i1]) (rest := []) F (cS_X6_sum l F.2.2.1 DP _ _ _ _ t0 hz5) (cwV 1 F.1.2.2.2.2 (gU_V ml_X6_53 im_yX6_sum se_yX6_sum ini_X6 cd_X6_sum) rfl rfl rfl (by decide +kernel) ⟨by dsimp only [DP]; omega, by dsimp only [DP]; omega⟩) t0 (by decide) rfl rfl rfl (Nat.le_of_ble_eq_true rfl) dX6_comparison_75 ⟨Nat.le_of_ble_eq_true rfl, Nat.le_of_ble_eq_true rfl⟩ ?_
      refine v_aload_n F dX6_comparison_78 rfl 0 rfl ?_
      refine v_getI (k := 6) F t0 (by decide) (inc inU_6) rfl rfl (by decide) (List.mem_cons_of_mem _ fl_X6_47) rfl dX6_comparison_79 ?_
      refine v_istore_n (lv' := [(2, .int (M4 a0 6)), (0, .ref (gAd g a0)), (1, .int i1)]) F dX6_comparison_82 rfl (by decide) rfl ?_
      refine v_iload_n F dX6_comparison_83 rfl 0 rfl ?_
      refine v_bipush (v := 60) F dX6_comparison_84 (by decide) ?_
      refine v_icmp_eq (tgt := 101) F dX6_comparison_86 (by decide) (fun hc7 => ?_) (fun hc7 => ?_)
      · rw [if_pos hc7] at h
        refine v_sub (fun ls h9 => lv_sub h9 [1, 2, 0] rfl) ?_
        exact w_X6_comparison_b101 F hr hlk hkf_X6_condition hkf_X6_comparison hk0 hR_X6_condition hR_X6_comparison t0 _ _ h
      · rw [if_neg hc7] at h
        refine v_iload_n F dX6_comparison_89 rfl 0 rfl ?_
        refine v_bipush (v := 62) F dX6_comparison_90 (by decide) ?_
        refine v_icmp_eq (tgt := 101) F dX6_comparison_92 (by decide) (fun hc8 => ?_) (fun hc8 => ?_)
        · rw [if_pos hc8] at h
          refine v_sub (fun ls h9 => lv_sub h9 [1, 2, 0] rfl) ?_
          exact w_X6_comparison_b101 F hr hlk hkf_X6_condition hkf_X6_comparison hk0 hR_X6_condition hR_X6_comparison t0 _ _ h
        · rw [if_neg hc8] at h
          refine v_iload_n F dX6_comparison_95 rfl 0 rfl ?_
          refine v_bipush (v := 61) F dX6_comparison_96 (by decide) ?_
          refine v_icmp_ne (tgt := 118) F dX6_comparison_98 (by decide) (fun hc9 => ?_) (fun hc9 => ?_)
          · rw [if_neg hc9] at h
            refine v_aload_n F dX6_comparison_118 rfl 1 rfl ?_
            refine v_iconst (v := 1) F dX6_comparison_119 (by decide) ?_
            obtain ⟨⟨r10, M11⟩, hz12, h⟩ := bd_some h
            dsimp only at h
            refine v_callVv (As := [.int 1]) (rest := []) F (c_X6_fail l F.2.2.1 t0 hz12) (cwV 1 F.1.2.2.2.2 (gU_V ml_X6_50 im_yX6_fail se_yX6_fail ini_X6 cd_X6_fail) rfl rfl rfl (by decide +kernel) ⟨by dsimp only [DP]; omega, by dsimp only [DP]; omega⟩) t0 (by decide) rfl rfl rfl (Nat.le_of_ble_eq_true rfl) dX6_comparison_120 ⟨Nat.le_of_ble_eq_true rfl, Nat.le_of_ble_eq_true rfl⟩ ?_
            cases h
            exact v_vret F hr hlk dX6_comparison_123
          · rw [if_pos hc9] at h
            refine v_sub (fun ls h9 => lv_sub h9 [1, 2, 0] rfl) ?_
            exact w_X6_comparison_b101 F hr hlk hkf_X6_condition hkf_X6_comparison hk0 hR_X6_condition hR_X6_comparison t0 _ _ h
    · rw [if_pos hc2] at h
      refine v_aload_n F dX6_comparison_47 rfl 0 rfl ?_
      refine v_bipush (v := 91) F dX6_comparison_48 (by decide) ?_
      refine v_iload_n F dX6_comparison_50 rfl 1 rfl ?_
      obtain ⟨⟨r14, M15⟩, hz16, h⟩ := bd_some h
      dsimp only at h
      refine v_callVi (As := [.int 91, .int i1]) (rest := []) F (c_X6_enters l F.2.2.1 t0 hz16) (cwV 2 F.1.2.2.2.2 (gU_V ml_X6_71 im_yX6_enters se_yX6_enters ini_X6 cd_X6_enters) rfl rfl rfl (by decide +kernel) ⟨by dsimp only [DP]; omega, by dsimp only [DP]; omega⟩) t0 (by decide) rfl rfl rfl (Nat.le_of_ble_eq_true rfl) dX6_comparison_51 ⟨Nat.le_of_ble_eq_true rfl, Nat.le_of_ble_eq_true rfl⟩ ?_
      refine v_if_eq (tgt := 123) F dX6_comparison_54 (by decide) (fun hc18 => ?_) (fun hc18 => ?_)
      · rw [if_pos hc18] at h
        cases h
        exact v_vret F hr hlk dX6_comparison_123
      · rw [if_neg hc18] at h
        refine v_aload_n F dX6_comparison_57 rfl 0 rfl ?_
        refine v_iload_n F dX6_comparison_58 rfl 1 rfl ?_
        refine v_iconst (v := 1) F dX6_comparison_59 (by decide) ?_
        refine v_iadd F dX6_comparison_60 ?_
        obtain ⟨⟨r19, M20⟩, hz21, h⟩ := bd_some h
        dsimp only at h
        refine v_callVv (As := [.int (i1 + 1)]) (rest := []) F (hR_X6_condition _ _ _ _ t0 hz21) (cwV 1 F.1.2.2.2.2 (gU_V ml_X6_56 im_yX6_condition se_yX6_condition ini_X6 cd_X6_condition) rfl rfl rfl (by decide +kernel) ⟨by dsimp only [DP]; omega, by dsimp only [DP]; omega⟩) t0 (by decide) rfl rfl rfl (Nat.le_of_ble_eq_true rfl) dX6_comparison_61 ⟨Nat.le_of_ble_eq_true rfl, Nat.le_of_ble_eq_true rfl⟩ ?_
        refine v_aload_n F dX6_comparison_64 rfl 0 rfl ?_
        refine v_bipush (v := 93) F dX6_comparison_65 (by decide) ?_
        obtain ⟨⟨r23, M24⟩, hz25, h⟩ := bd_some h
        dsimp only at h
        refine v_callVv (As := [.int 93]) (rest := []) F (c_X6_expect l F.2.2.1 t0 hz25) (cwV 1 F.1.2.2.2.2 (gU_V ml_X6_62 im_yX6_expect se_yX6_expect ini_X6 cd_X6_expect) rfl rfl rfl (by decide +kernel) ⟨by dsimp only [DP]; omega, by dsimp only [DP]; omega⟩) t0 (by decide) rfl rfl rfl (Nat.le_of_ble_eq_true rfl) dX6_comparison_67 ⟨Nat.le_of_ble_eq_true rfl, Nat.le_of_ble_eq_true rfl⟩ ?_
        refine v_goto (tgt := 123) F dX6_comparison_70 (by decide) ?_
        cases h
        exact v_vret F hr hlk dX6_comparison_123
  · rw [if_pos hc1] at h
    refine v_aload_n F dX6_comparison_10 rfl 0 rfl ?_
    refine v_sipush (v := 314) F dX6_comparison_11 (by decide) ?_
    refine v_iload_n F dX6_comparison_14 rfl 1 rfl ?_
    obtain ⟨⟨r27, M28⟩, hz29, h⟩ := bd_some h
    dsimp only at h
    refine v_callVi (As := [.int 314, .int i1]) (rest := []) F (c_X6_enters l F.2.2.1 t0 hz29) (cwV 2 F.1.2.2.2.2 (gU_V ml_X6_71 im_yX6_enters se_yX6_enters ini_X6 cd_X6_enters) rfl rfl rfl (by decide +kernel) ⟨by dsimp only [DP]; omega, by dsimp only [DP]; omega⟩) t0 (by decide) rfl rfl rfl (Nat.le_of_ble_eq_true rfl) dX6_comparison_15 ⟨Nat.le_of_ble_eq_true rfl, Nat.le_of_ble_eq_true rfl⟩ ?_
    refine v_if_eq (tgt := 123) F dX6_comparison_18 (by decide) (fun hc31 => ?_) (fun hc31 => ?_)
    · rw [if_pos hc31] at h
      cases h
      exact v_vret F hr hlk dX6_comparison_123
    · rw [if_neg hc31] at h
      refine v_aload_n F dX6_comparison_21 rfl 0 rfl ?_
      refine v_iload_n F dX6_comparison_22 rfl 1 rfl ?_
      refine v_iconst (v := 1) F dX6_comparison_23 (by decide) ?_
      refine v_iadd F dX6_comparison_24 ?_
      obtain ⟨⟨r32, M33⟩, hz34, h⟩ := bd_some h
      dsimp only at h
      refine v_callVv (As := [.int (i1 + 1)]) (rest := []) F (hR_X6_comparison _ _ _ _ t0 hz34) (cwV 1 F.1.2.2.2.2 (gU_V ml_X6_75 im_yX6_comparison se_yX6_comparison ini_X6 cd_X6_comparison) rfl rfl rfl (by decide +kernel) ⟨by dsimp only [DP]; omega, by dsimp only [DP]; omega⟩) t0 (by decide) rfl rfl rfl (Nat.le_of_ble_eq_true rfl) dX6_comparison_25 ⟨Nat.le_of_ble_eq_true rfl, Nat.le_of_ble_eq_true rfl⟩ ?_
      refine v_aload_n F dX6_comparison_28 rfl 0 rfl ?_
      refine v_sipush (v := 314) F dX6_comparison_29 (by decide) ?_
      obtain ⟨⟨r36, M37⟩, hz38, h⟩ := bd_some h
      dsimp only at h
      refine v_callVv (As := [.int 314]) (rest := []) F (c_X6_emit l F.2.2.1 t0 hz38) (cwV 1 F.1.2.2.2.2 (gU_V ml_X6_59 im_yX6_emit se_yX6_emit ini_X6 cd_X6_emit) rfl rfl rfl (by decide +kernel) ⟨by dsimp only [DP]; omega, by dsimp only [DP]; omega⟩) t0 (by decide) rfl rfl rfl (Nat.le_of_ble_eq_true rfl) dX6_comparison_32 ⟨Nat.le_of_ble_eq_true rfl, Nat.le_of_ble_eq_true rfl⟩ ?_
      refine v_goto (tgt := 123) F dX6_comparison_35 (by decide) ?_
      cases h
      exact v_vret F hr hlk dX6_comparison_123
def f_X6_condition_b70 (r_X6_comparison : Mem → Nat → Int32 → Option (Int32 × Mem)) (a0 : Nat) (i1 : Int32) (k4 : Int32 → Int32 → Mem → Option (Int32 × Mem)) (x3 : Int32) (M : Mem) : Option (Int32 × Mem) := if (M a0 6) = 312 then ((f_X6_step M a0).bind fun q => match q with | (r26, M27) => (k4 1 (x3 + 1) M27)) else (some (0, M))
def f_X6_condition_b59 (r_X6_comparison : Mem → Nat → Int32 → Option (Int32 × Mem)) (a0 : Nat) (i1 : Int32) (k4 : Int32 → Int32 → Mem → Option (Int32 × Mem)) (x2 : Int32) (x3 : Int32) (M : Mem) : Option (Int32 × Mem) := if x2 = 0 then (f_X6_condition_b70 r_X6_comparison a0 i1 k4 x3 M) else ((f_X6_emit M a0 312).bind fun q => match q with | (r21, M22) => (f_X6_condition_b70 r_X6_comparison a0 i1 k4 x3 M22))
def f_X6_condition_h19 (r_X6_comparison : Mem → Nat → Int32 → Option (Int32 × Mem)) (a0 : Nat) (i1 : Int32) (k4 : Int32 → Int32 → Mem → Option (Int32 × Mem)) : Nat → Int32 → Int32 → Int32 → Mem → Option (Int32 × Mem)
  | 0, _, _, _, _ => none
  | n + 1, x2, x3, x4, M => if 300 ≤ x4 then (f_X6_condition_b59 r_X6_comparison a0 i1 k4 x2 x3 M) else (if (M a0 6) = 313 then ((f_X6_step M a0).bind fun q => match q with | (r8, M9) => ((r_X6_comparison M9 a0 i1).bind fun q => match q with | (r12, M13) => ((f_X6_emit M13 a0 313).bind fun q => match q with | (r16, M17) => ((f_X6_condition_h19 r_X6_comparison a0 i1 k4 n) x2 x3 (x4 + 1) M17)))) else (f_X6_condition_b59 r_X6_comparison a0 i1 k4 x2 x3 M))
def f_X6_condition_h4 (r_X6_comparison : Mem → Nat → Int32 → Option (Int32 × Mem)) (a0 : Nat) (i1 : Int32)  : Nat → Int32 → Int32 → Mem → Option (Int32 × Mem)
  | 0, _, _, _ => none
  | n + 1, x2, x3, M => if 300 ≤ x3 then (some (0, M)) else ((r_X6_comparison M a0 i1).bind fun q => match q with | (r2, M3) => (f_X6_condition_h19 r_X6_comparison a0 i1 (f_X6_condition_h4 r_X6_comparison a0 i1 n) FU x2 x3 0 M3))
def f_X6_condition (r_X6_comparison : Mem → Nat → Int32 → Option (Int32 × Mem)) (M : Mem) (a0 : Nat) (i1 : Int32) : Option (Int32 × Mem) := f_X6_condition_h4 r_X6_comparison a0 i1 FU 0 0 M
set_option maxHeartbeats 4000000 in
set_option maxRecDepth 100000 in
theorem w_X6_condition_b70 {g : gT} {p : Program} {l : Launch} {e : Env} {s : State} {m : MethodId} {args : Array Value} {below : List Frame} {meth : Method} {c : Code} {z : Int32 × Mem} (F : Fx g p s m args c cX6_condition 5 uX6_condition RX6) (hr : meth.sig.returnType = none) (hlk : meth.locks = false) {k kf_X6_comparison : Nat} {r_X6_comparison : Mem → Nat → Int32 → Option (Int32 × Mem)} {a0 : Nat} {i1 : Int32} (hkf_X6_comparison : kf_X6_comparison + 1 ≤ k) (hk0 : 45 ≤ k) (hR_X6_comparison : ∀ (M : Mem) (b0 : Nat) (b1 : Int32) (z : Int32 × Mem), Ty g 6 b0 → r_X6_comparison M b0 b1 = some z → Cn g l yX6_comparison uX6_comparison kf_X6_comparison [.ref (gAd g b0), .int b1] M none z.2) (t0 : Ty g 6 a0) {k4 : Int32 → Int32 → Mem → Option (Int32 × Mem)} (hk4 : ∀ (x2 : Int32) (x3 : Int32) (M : Mem), k4 x2 x3 M = some z → V g p l e ({ frames := k, cells := 0, slots := 0, locals := 40 * k } : Room) s m args below meth c 5 0 0 (MQ below (gQ g none z.2) args s 0 0 (gA g)) 4 [(0, .ref (gAd g a0)), (1, .int i1), (2, .int x2), (3, .int x3)] [] M) (x3 : Int32) (M : Mem)  (h : f_X6_condition_b70 r_X6_comparison a0 i1 k4 x3 M = some z) : V g p l e ({ frames := k, cells := 0, slots := 0, locals := 40 * k } : Room) s m args below meth c 5 0 0 (MQ below (gQ g none z.2) args s 0 0 (gA g)) 70 [(0, .ref (gAd g a0)), (1, .int i1), (3, .int x3)] [] M := by
  unfold f_X6_condition_b70 at h
  refine v_aload_n F dX6_condition_70 rfl 0 rfl ?_
  refine v_getI (k := 6) F t0 (by decide) (inc inU_6) rfl rfl (by decide) (List.mem_cons_of_mem _ fl_X6_47) rfl dX6_condition_71 ?_
  refine v_sipush (v := 312) F dX6_condition_74 (by decide) ?_
  refine v_icmp_eq (tgt := 81) F dX6_condition_77 (by decide) (fun hc25 => ?_) (fun hc25 => ?_)
  · rw [if_pos hc25] at h
    refine v_iconst (v := 1) F dX6_condition_81 (by decide) ?_
    refine v_istore_n (lv' := [(2, .int 1), (0, .ref (gAd g a0)), (1, .int i1), (3, .int x3)]) F dX6_condition_82 rfl (by decide) rfl ?_
    refine v_aload_n F dX6_condition_83 rfl 1 rfl ?_
    obtain ⟨⟨r26, M27⟩, hz28, h⟩ := bd_some h
    dsimp only at h
    refine v_callVv (As := []) (rest := []) F (c_X6_step l F.2.2.1 t0 hz28) (cwV 0 F.1.2.2.2.2 (gU_V ml_X6_44 im_yX6_step se_yX6_step ini_X6 cd_X6_step) rfl rfl rfl (by decide +kernel) ⟨by dsimp only [DP]; omega, by dsimp only [DP]; omega⟩) t0 (by decide) rfl rfl rfl (Nat.le_of_ble_eq_true rfl) dX6_condition_84 ⟨Nat.le_of_ble_eq_true rfl, Nat.le_of_ble_eq_true rfl⟩ ?_
    refine v_iinc (v := x3 + 1) (lv' := [(3, .int (x3 + 1)), (2, .int 1), (0, .ref (gAd g a0)), (1, .int i1)]) F dX6_condition_87 (q := 3) rfl rfl (by decide) rfl ?_
    refine v_goto (tgt := 4) F dX6_condition_90 (by decide) ?_
    refine v_sub (fun ls h9 => lv_sub h9 [2, 3, 1, 0] rfl) ?_
    exact hk4 _ _ _ h
  · rw [if_neg hc25] at h
    cases h
    exact v_vret F hr hlk dX6_condition_80
set_option maxHeartbeats 4000000 in
set_option maxRecDepth 100000 in
theorem w_X6_condition_b59 {g : gT} {p : Program} {l : Launch} {e : Env} {s : State} {m : MethodId} {args : Array Value} {below : List Frame} {meth : Method} {c : Code} {z : Int32 × Mem} (F : Fx g p s m args c cX6_condition 5 uX6_condition RX6) (hr : meth.sig.returnType = none) (hlk : meth.locks = false) {k kf_X6_comparison : Nat} {r_X6_comparison : Mem → Nat → Int32 → Option (Int32 × Mem)} {a0 : Nat} {i1 : Int32} (hkf_X6_comparison : kf_X6_comparison + 1 ≤ k) (hk0 : 45 ≤ k) (hR_X6_comparison : ∀ (M : Mem) (b0 : Nat) (b1 : Int32) (z : Int32 × Mem), Ty g 6 b0 → r_X6_comparison M b0 b1 = some z → Cn g l yX6_comparison uX6_comparison kf_X6_comparison [.ref (gAd g b0), .int b1] M none z.2) (t0 : Ty g 6 a0) {k4 : Int32 → Int32 → Mem → Option (Int32 × Mem)} (hk4 : ∀ (x2 : Int32) (x3 : Int32) (M : Mem), k4 x2 x3 M = some z → V g p l e ({ frames := k, cells := 0, slots := 0, locals := 40 * k } : Room) s m args below meth c 5 0 0 (MQ below (gQ g none z.2) args s 0 0 (gA g)) 4 [(0, .ref (gAd g a0)), (1, .int i1), (2, .int x2), (3, .int x3)] [] M) (x2 : Int32) (x3 : Int32) (M : Mem)  (h : f_X6_condition_b59 r_X6_comparison a0 i1 k4 x2 x3 M = some z) : V g p l e ({ frames := k, cells := 0, slots := 0, locals := 40 * k } : Room) s m args below meth c 5 0 0 (MQ below (gQ g none z.2) args s 0 0 (gA g)) 59 [(0, .ref (gAd g a0)), (1, .int i1), (2, .int x2), (3, .int x3)] [] M := by
  unfold f_X6_condition_b59 at h
  refine v_iload_n F dX6_condition_59 rfl 2 rfl ?_
  refine v_if_eq (tgt := 70) F dX6_condition_60 (by decide) (fun hc20 => ?_) (fun hc20 => ?_)
  · rw [if_pos hc20] at h
    refine v_sub (fun ls h9 => lv_sub h9 [0, 1, 3] rfl) ?_
    exact w_X6_condition_b70 F hr hlk hkf_X6_comparison hk0 hR_X6_comparison t0 hk4 _ _ h
  · rw [if_neg hc20] at h
    refine v_aload_n F dX6_condition_63 rfl 0 rfl ?_
    refine v_sipush (v := 312) F dX6_condition_64 (by decide) ?_
    obtain ⟨⟨r21, M22⟩, hz23, h⟩ := bd_some h
    dsimp only at h
    refine v_callVv (As := [.int 312]) (rest := []) F (c_X6_emit l F.2.2.1 t0 hz23) (cwV 1 F.1.2.2.2.2 (gU_V ml_X6_59 im_yX6_emit se_yX6_emit ini_X6 cd_X6_emit) rfl rfl rfl (by decide +kernel) ⟨by dsimp only [DP]; omega, by dsimp only [DP]; omega⟩) t0 (by decide) rfl rfl rfl (Nat.le_of_ble_eq_true rfl) dX6_condition_67 ⟨Nat.le_of_ble_eq_true rfl, Nat.le_of_ble_eq_true rfl⟩ ?_
    refine v_sub (fun ls h9 => lv_sub h9 [0, 1, 3] rfl) ?_
    exact w_X6_condition_b70 F hr hlk hkf_X6_comparison hk0 hR_X6_comparison t0 hk4 _ _ h
set_option maxHeartbeats 4000000 in
set_option maxRecDepth 100000 in
theorem w_X6_condition_h19 {g : gT} {p : Program} {l : Launch} {e : Env} {s : State} {m : MethodId} {args : Array Value} {below : List Frame} {meth : Method} {c : Code} {z : Int32 × Mem} (F : Fx g p s m args c cX6_condition 5 uX6_condition RX6) (hr : meth.sig.returnType = none) (hlk : meth.locks = false) {k kf_X6_comparison : Nat} {r_X6_comparison : Mem → Nat → Int32 → Option (Int32 × Mem)} {a0 : Nat} {i1 : Int32} (hkf_X6_comparison : kf_X6_comparison + 1 ≤ k) (hk0 : 45 ≤ k) (hR_X6_comparison : ∀ (M : Mem) (b0 : Nat) (b1 : Int32) (z : Int32 × Mem), Ty g 6 b0 → r_X6_comparison M b0 b1 = some z → Cn g l yX6_comparison uX6_comparison kf_X6_comparison [.ref (gAd g b0), .int b1] M none z.2) (t0 : Ty g 6 a0) {k4 : Int32 → Int32 → Mem → Option (Int32 × Mem)} (hk4 : ∀ (x2 : Int32) (x3 : Int32) (M : Mem), k4 x2 x3 M = some z → V g p l e ({ frames := k, cells := 0, slots := 0, locals := 40 * k } : Room) s m args below meth c 5 0 0 (MQ below (gQ g none z.2) args s 0 0 (gA g)) 4 [(0, .ref (gAd g a0)), (1, .int i1), (2, .int x2), (3, .int x3)] [] M) : ∀ (n : Nat) (x2 : Int32) (x3 : Int32) (x4 : Int32) (M : Mem), f_X6_condition_h19 r_X6_comparison a0 i1 k4 n x2 x3 x4 M = some z → V g p l e ({ frames := k, cells := 0, slots := 0, locals := 40 * k } : Room) s m args below meth c 5 0 0 (MQ below (gQ g none z.2) args s 0 0 (gA g)) 19 [(0, .ref (gAd g a0)), (1, .int i1), (2, .int x2), (3, .int x3), (4, .int x4)] [] M := by
  intro n
  induction n with
  | zero => intro x2 x3 x4 M; intros; rename_i h; cases h
  | succ n ih =>
    intro x2 x3 x4 M h
    rw [f_X6_condition_h19] at h
    refine v_iload F dX6_condition_19 4 rfl ?_
    refine v_sipush (v := 300) F dX6_condition_21 (by decide) ?_
    refine v_icmp_ge (tgt := 59) F dX6_condition_24 (by decide) (fun hc6 => ?_) (fun hc6 => ?_)
    · rw [if_pos hc6] at h
      refine v_sub (fun ls h9 => lv_sub h9 [0, 1, 2, 3] rfl) ?_
      exact w_X6_condition_b59 F hr hlk hkf_X6_comparison hk0 hR_X6_comparison t0 hk4 _ _ _ h
    · rw [if_neg hc6] at h
      refine v_aload_n F dX6_condition_27 rfl 0 rfl ?_
      refine v_getI (k := 6) F t0 (by decide) (inc inU_6) rfl rfl (by decide) (List.mem_cons_of_mem _ fl_X6_47) rfl dX6_condition_28 ?_
      refine v_sipush (v := 313) F dX6_condition_31 (by decide) ?_
      refine v_icmp_ne (tgt := 59) F dX6_condition_34 (by decide) (fun hc7 => ?_) (fun hc7 => ?_)
      · rw [if_neg hc7] at h
        refine v_sub (fun ls h9 => lv_sub h9 [0, 1, 2, 3] rfl) ?_
        exact w_X6_condition_b59 F hr hlk hkf_X6_comparison hk0 hR_X6_comparison t0 hk4 _ _ _ h
      · rw [if_pos hc7] at h
        refine v_aload_n F dX6_condition_37 rfl 0 rfl ?_
        obtain ⟨⟨r8, M9⟩, hz10, h⟩ := bd_some h
        dsimp only at h
        refine v_callVv (As := []) (rest := []) F (c_X6_step l F.2.2.1 t0 hz10) (cwV 0 F.1.2.2.2.2 (gU_V ml_X6_44 im_yX6_step se_yX6_step ini_X6 cd_X6_step) rfl rfl rfl (by decide +kernel) ⟨by dsimp only [DP]; omega, by dsimp only [DP]; omega⟩) t0 (by decide) rfl rfl rfl (Nat.le_of_ble_eq_true rfl) dX6_condition_38 ⟨Nat.le_of_ble_eq_true rfl, Nat.le_of_ble_eq_true rfl⟩ ?_
        refine v_aload_n F dX6_condition_41 rfl 0 rfl ?_
        refine v_iload_n F dX6_condition_42 rfl 1 rfl ?_
        obtain ⟨⟨r12, M13⟩, hz14, h⟩ := bd_some h
        dsimp only at h
        refine v_callVv (As := [.int i1]) (rest := []) F (hR_X6_comparison _ _ _ _ t0 hz14) (cwV 1 F.1.2.2.2.2 (gU_V ml_X6_75 im_yX6_comparison se_yX6_comparison ini_X6 cd_X6_comparison) rfl rfl rfl (by decide +kernel) ⟨by dsimp only [DP]; omega, by dsimp only [DP]; omega⟩) t0 (by decide) rfl rfl rfl (Nat.le_of_ble_eq_true rfl) dX6_condition_43 ⟨Nat.le_of_ble_eq_true rfl, Nat.le_of_ble_eq_true rfl⟩ ?_
        refine v_aload_n F dX6_condition_46 rfl 0 rfl ?_
        refine v_sipush (v := 313) F dX6_condition_47 (by decide) ?_
        obtain ⟨⟨r16, M17⟩, hz18, h⟩ := bd_some h
        dsimp only at h
        refine v_callVv (As := [.int 313]) (rest := []) F (c_X6_emit l F.2.2.1 t0 hz18) (cwV 1 F.1.2.2.2.2 (gU_V ml_X6_59 im_yX6_emit se_yX6_emit ini_X6 cd_X6_emit) rfl rfl rfl (by decide +kernel) ⟨by dsimp only [DP]; omega, by dsimp only [DP]; omega⟩) t0 (by decide) rfl rfl rfl (Nat.le_of_ble_eq_true rfl) dX6_condition_50 ⟨Nat.le_of_ble_eq_true rfl, Nat.le_of_ble_eq_true rfl⟩ ?_
        refine v_iinc (v := x4 + 1) (lv' := [(4, .int (x4 + 1)), (0, .ref (gAd g a0)), (1, .int i1), (2, .int x2), (3, .int x3)]) F dX6_condition_53 (q := 4) rfl rfl (by decide) rfl ?_
        refine v_goto (tgt := 19) F dX6_condition_56 (by decide) ?_
        refine v_sub (fun ls h9 => lv_sub h9 [1, 2, 3, 4, 0] rfl) ?_
        exact ih _ _ _ _ h
set_option maxHeartbeats 4000000 in
set_option maxRecDepth 100000 in
theorem w_X6_condition_h4 {g : gT} {p : Program} {l : Launch} {e : Env} {s : State} {m : MethodId} {args : Array Value} {below : List Frame} {meth : Method} {c : Code} {z : Int32 × Mem} (F : Fx g p s m args c cX6_condition 5 uX6_condition RX6) (hr : meth.sig.returnType = none) (hlk : meth.locks = false) {k kf_X6_comparison : Nat} {r_X6_comparison : Mem → Nat → Int32 → Option (Int32 × Mem)} {a0 : Nat} {i1 : Int32} (hkf_X6_comparison : kf_X6_comparison + 1 ≤ k) (hk0 : 45 ≤ k) (hR_X6_comparison : ∀ (M : Mem) (b0 : Nat) (b1 : Int32) (z : Int32 × Mem), Ty g 6 b0 → r_X6_comparison M b0 b1 = some z → Cn g l yX6_comparison uX6_comparison kf_X6_comparison [.ref (gAd g b0), .int b1] M none z.2) (t0 : Ty g 6 a0)   : ∀ (n : Nat) (x2 : Int32) (x3 : Int32) (M : Mem), f_X6_condition_h4 r_X6_comparison a0 i1 n x2 x3 M = some z → V g p l e ({ frames := k, cells := 0, slots := 0, locals := 40 * k } : Room) s m args below meth c 5 0 0 (MQ below (gQ g none z.2) args s 0 0 (gA g)) 4 [(0, .ref (gAd g a0)), (1, .int i1), (2, .int x2), (3, .int x3)] [] M := by
  intro n
  induction n with
  | zero => intro x2 x3 M; intros; rename_i h; cases h
  | succ n ih =>
    intro x2 x3 M h
    rw [f_X6_condition_h4] at h
    refine v_iload_n F dX6_condition_4 rfl 3 rfl ?_
    refine v_sipush (v := 300) F dX6_condition_5 (by decide) ?_
    refine v_icmp_ge (tgt := 93) F dX6_condition_8 (by decide) (fun hc1 => ?_) (fun hc1 => ?_)
    · rw [if_pos hc1] at h
      cases h
      exact v_vret F hr hlk dX6_condition_93
    · rw [if_neg hc1] at h
      refine v_aload_n F dX6_condition_11 rfl 0 rfl ?_
      refine v_iload_n F dX6_condition_12 rfl 1 rfl ?_
      obtain ⟨⟨r2, M3⟩, hz4, h⟩ := bd_some h
      dsimp only at h
      refine v_callVv (As := [.int i1]) (rest := []) F (hR_X6_comparison _ _ _ _ t0 hz4) (cwV 1 F.1.2.2.2.2 (gU_V ml_X6_75 im_yX6_comparison se_yX6_comparison ini_X6 cd_X6_comparison) rfl rfl rfl (by decide +kernel) ⟨by dsimp only [DP]; omega, by dsimp only [DP]; omega⟩) t0 (by decide) rfl rfl rfl (Nat.le_of_ble_eq_true rfl) dX6_condition_13 ⟨Nat.le_of_ble_eq_true rfl, Nat.le_of_ble_eq_true rfl⟩ ?_
      refine v_iconst (v := 0) F dX6_condition_16 (by decide) ?_
      refine v_istore (lv' := [(4, .int 0), (0, .ref (gAd g a0)), (1, .int i1), (2, .int x2), (3, .int x3)]) F dX6_condition_17 (by decide) rfl ?_
      refine v_sub (fun ls h9 => lv_sub h9 [1, 2, 3, 4, 0] rfl) ?_
      exact w_X6_condition_h19 F hr hlk hkf_X6_comparison hk0 hR_X6_comparison t0 ih _ _ _ _ _ h
set_option maxHeartbeats 4000000 in
set_option maxRecDepth 100000 in
theorem c_X6_condition {g : gT} (l : Launch) (hok : gOK g) {k kf_X6_comparison : Nat} {r_X6_comparison : Mem → Nat → Int32 → Option (Int32 × Mem)} {a0 : Nat} {i1 : Int32} {M : Mem} {z : Int32 × Mem} (hkf_X6_comparison : kf_X6_comparison + 1 ≤ k) (hk0 : 45 ≤ k) (hR_X6_comparison : ∀ (M : Mem) (b0 : Nat) (b1 : Int32) (z : Int32 × Mem), Ty g 6 b0 → r_X6_comparison M b0 b1 = some z → Cn g l yX6_comparison uX6_comparison kf_X6_comparison [.ref (gAd g b0), .int b1] M none z.2) (t0 : Ty g 6 a0) (h : f_X6_condition r_X6_comparison M a0 i1 = some z) : Cn g l yX6_condition uX6_condition k [.ref (gAd g a0), .int i1] M none z.2 := by
  refine Cn.of (cc := cX6_condition) (maxL := 5) (ret := none) hok (by decide) rfl (Nat.le_of_ble_eq_true rfl) (fun p e s m args below meth c F hr hlk => ?_)
  unfold f_X6_condition at h
  show V g p l e ({ frames := k, cells := 0, slots := 0, locals := 40 * k } : Room) s m args below meth c 5 0 0 (MQ below (gQ g none z.2) args s 0 0 (gA g)) 0 [(0, .ref (gAd g a0)), (1, .int i1)] [] M
  refine v_iconst (v := 0) F dX6_condition_0 (by decide) ?_
  refine v_istore_n (lv' := [(2, .int 0), (0, .ref (gAd g a0)), (1, .int i1)]) F dX6_condition_1 rfl (by decide) rfl ?_
  refine v_iconst (v := 0) F dX6_condition_2 (by decide) ?_
  refine v_istore_n (lv' := [(3, .int 0), (2, .int 0), (0, .ref (gAd g a0)), (1, .int i1)]) F dX6_condition_3 rfl (by decide) rfl ?_
  refine v_sub (fun ls h9 => lv_sub h9 [2, 3, 1, 0] rfl) ?_
  exact w_X6_condition_h4 F hr hlk hkf_X6_comparison hk0 hR_X6_comparison t0 _ _ _ _ h
def S_X6_comparison : Nat → Mem → Nat → Int32 → Option (Int32 × Mem)
  | 0 => fun _ _ _ => none
  | d + 1 => f_X6_comparison (f_X6_condition (S_X6_comparison d)) (S_X6_comparison d)
theorem cSd_X6_comparison {g : gT} (l : Launch) (hok : gOK g) : ∀ (d : Nat) (M : Mem) (a0 : Nat) (i1 : Int32) (z : Int32 × Mem), Ty g 6 a0 → S_X6_comparison d M a0 i1 = some z → Cn g l yX6_comparison uX6_comparison (44 + 2 * d) [.ref (gAd g a0), .int i1] M none z.2 := by
  intro d
  induction d with
  | zero => intro M a0 i1 z _ h; cases h
  | succ d ih =>
    intro M a0 i1 z t0 h
    exact c_X6_comparison l hok (k := 44 + 2 * (d + 1)) (kf_X6_condition := 44 + 2 * d + 1) (kf_X6_comparison := 44 + 2 * d) (by omega) (by omega) (by omega) (fun M b0 b1 z t0 h => c_X6_condition l hok (k := 44 + 2 * d + 1) (kf_X6_comparison := 44 + 2 * d) (by omega) (by omega) ih t0 h) ih t0 h
def S_X6_condition (d : Nat) : Mem → Nat → Int32 → Option (Int32 × Mem) := f_X6_condition (S_X6_comparison d)
theorem cS_X6_condition {g : gT} (l : Launch) (hok : gOK g) (d : Nat) (M : Mem) (a0 : Nat) (i1 : Int32) (z : Int32 × Mem) (t0 : Ty g 6 a0) (h : S_X6_condition d M a0 i1 = some z) : Cn g l yX6_condition uX6_condition (45 + 2 * d) [.ref (gAd g a0), .int i1] M none z.2 := c_X6_condition l hok (k := 45 + 2 * d) (kf_X6_comparison := 44 + 2 * d) (by omega) (by omega) (cSd_X6_comparison l hok d) t0 h

def f_X9_add  (M : Mem) (a0 : Nat) (i1 : Int32) (i2 : Int32) (i3 : Int32) : Option (Int32 × Mem) := if (M a0 3) < 0 then (some (0, M)) else (if (nI (gN (gRf a0 0))) ≤ (M a0 3) then (some (0, M)) else (if (nI (gN (gRf a0 1))) ≤ (M a0 3) then (some (0, M)) else (if (nI (gN (gRf a0 2))) ≤ (M a0 3) then (some (0, M)) else (if ¬ ((M a0 3) < 0 ∨ gN (gRf a0 0) ≤ (M a0 3 : Int32).toNatClampNeg) then (if ¬ (((mU M (gRf a0 0) (M a0 3 : Int32).toNatClampNeg i1) a0 3) < 0 ∨ gN (gRf a0 1) ≤ ((mU M (gRf a0 0) (M a0 3 : Int32).toNatClampNeg i1) a0 3 : Int32).toNatClampNeg) then (if ¬ (((mU (mU M (gRf a0 0) (M a0 3 : Int32).toNatClampNeg i1) (gRf a0 1) ((mU M (gRf a0 0) (M a0 3 : Int32).toNatClampNeg i1) a0 3 : Int32).toNatClampNeg i2) a0 3) < 0 ∨ gN (gRf a0 2) ≤ ((mU (mU M (gRf a0 0) (M a0 3 : Int32).toNatClampNeg i1) (gRf a0 1) ((mU M (gRf a0 0) (M a0 3 : Int32).toNatClampNeg i1) a0 3 : Int32).toNatClampNeg i2) a0 3 : Int32).toNatClampNeg) then (some (0, (mU (mU (mU (mU M (gRf a0 0) (M a0 3 : Int32).toNatClampNeg i1) (gRf a0 1) ((mU M (gRf a0 0) (M a0 3 : Int32).toNatClampNeg i1) a0 3 : Int32).toNatClampNeg i2) (gRf a0 2) ((mU (mU M (gRf a0 0) (M a0 3 : Int32).toNatClampNeg i1) (gRf a0 1) ((mU M (gRf a0 0) (M a0 3 : Int32).toNatClampNeg i1) a0 3 : Int32).toNatClampNeg i2) a0 3 : Int32).toNatClampNeg i3) a0 3 (((mU (mU (mU M (gRf a0 0) (M a0 3 : Int32).toNatClampNeg i1) (gRf a0 1) ((mU M (gRf a0 0) (M a0 3 : Int32).toNatClampNeg i1) a0 3 : Int32).toNatClampNeg i2) (gRf a0 2) ((mU (mU M (gRf a0 0) (M a0 3 : Int32).toNatClampNeg i1) (gRf a0 1) ((mU M (gRf a0 0) (M a0 3 : Int32).toNatClampNeg i1) a0 3 : Int32).toNatClampNeg i2) a0 3 : Int32).toNatClampNeg i3) a0 3) + 1)))) else none) else none) else none))))
set_option maxHeartbeats 4000000 in
set_option maxRecDepth 100000 in
theorem c_X9_add {g : gT} (l : Launch) (hok : gOK g)  {a0 : Nat} {i1 : Int32} {i2 : Int32} {i3 : Int32} {M : Mem} {z : Int32 × Mem}  (t0 : Ty g 9 a0) (h : f_X9_add  M a0 i1 i2 i3 = some z) : Cn g l yX9_add uX9_add 0 [.ref (gAd g a0), .int i1, .int i2, .int i3] M none z.2 := by
  refine Cn.of (cc := cX9_add) (maxL := 4) (ret := none) hok (by decide) rfl (Nat.le_of_ble_eq_true rfl) (fun p e s m args below meth c F hr hlk => ?_)
  unfold f_X9_add at h
  show V g p l e ({ frames := 0, cells := 0, slots := 0, locals := 40 * 0 } : Room) s m args below meth c 4 0 0 (MQ below (gQ g none z.2) args s 0 0 (gA g)) 0 [(0, .ref (gAd g a0)), (1, .int i1), (2, .int i2), (3, .int i3)] [] M
  refine v_aload_n F dX9_add_0 rfl 0 rfl ?_
  refine v_getI (k := 3) F t0 (by decide) (inc inU_9) rfl rfl (by decide) (List.mem_cons_of_mem _ fl_X9_21) rfl dX9_add_1 ?_
  refine v_if_lt (tgt := 83) F dX9_add_4 (by decide) (fun hc1 => ?_) (fun hc1 => ?_)
  · rw [if_pos hc1] at h
    cases h
    exact v_vret F hr hlk dX9_add_83
  · rw [if_neg hc1] at h
    refine v_aload_n F dX9_add_7 rfl 0 rfl ?_
    refine v_getI (k := 3) F t0 (by decide) (inc inU_9) rfl rfl (by decide) (List.mem_cons_of_mem _ fl_X9_21) rfl dX9_add_8 ?_
    refine v_aload_n F dX9_add_11 rfl 0 rfl ?_
    refine v_getR (k := 0) (f := 12) F t0 (by decide) (inc inU_9) rfl rfl (by decide) (by decide) (List.mem_cons_of_mem _ fl_X9_9) rfl dX9_add_12 (fun u2 => ?_)
    refine v_alen (t0 := 0) F u2 (by decide) rfl dX9_add_15 ?_
    refine v_icmp_ge (tgt := 83) F dX9_add_16 (by decide) (fun hc3 => ?_) (fun hc3 => ?_)
    · rw [if_pos hc3] at h
      cases h
      exact v_vret F hr hlk dX9_add_83
    · rw [if_neg hc3] at h
      refine v_aload_n F dX9_add_19 rfl 0 rfl ?_
      refine v_getI (k := 3) F t0 (by decide) (inc inU_9) rfl rfl (by decide) (List.mem_cons_of_mem _ fl_X9_21) rfl dX9_add_20 ?_
      refine v_aload_n F dX9_add_23 rfl 0 rfl ?_
      refine v_getR (k := 1) (f := 12) F t0 (by decide) (inc inU_9) rfl rfl (by decide) (by decide) (List.mem_cons_of_mem _ fl_X9_15) rfl dX9_add_24 (fun u4 => ?_)
      refine v_alen (t0 := 0) F u4 (by decide) rfl dX9_add_27 ?_
      refine v_icmp_ge (tgt := 83) F dX9_add_28 (by decide) (fun hc5 => ?_) (fun hc5 => ?_)
      · rw [if_pos hc5] at h
        cases h
        exact v_vret F hr hlk dX9_add_83
      · rw [if_neg hc5] at h
        refine v_aload_n F dX9_add_31 rfl 0 rfl ?_
        refine v_getI (k := 3) F t0 (by decide) (inc inU_9) rfl rfl (by decide) (List.mem_cons_of_mem _ fl_X9_21) rfl dX9_add_32 ?_
        refine v_aload_n F dX9_add_35 rfl 0 rfl ?_
        refine v_getR (k := 2) (f := 12) F t0 (by decide) (inc inU_9) rfl rfl (by decide) (by decide) (List.mem_cons_of_mem _ fl_X9_18) rfl dX9_add_36 (fun u6 => ?_)
        refine v_alen (t0 := 0) F u6 (by decide) rfl dX9_add_39 ?_
        refine v_icmp_ge (tgt := 83) F dX9_add_40 (by decide) (fun hc7 => ?_) (fun hc7 => ?_)
        · rw [if_pos hc7] at h
          cases h
          exact v_vret F hr hlk dX9_add_83
        · rw [if_neg hc7] at h
          refine v_aload_n F dX9_add_43 rfl 0 rfl ?_
          refine v_getR (k := 0) (f := 12) F t0 (by decide) (inc inU_9) rfl rfl (by decide) (by decide) (List.mem_cons_of_mem _ fl_X9_9) rfl dX9_add_44 (fun u8 => ?_)
          refine v_aload_n F dX9_add_47 rfl 0 rfl ?_
          refine v_getI (k := 3) F t0 (by decide) (inc inU_9) rfl rfl (by decide) (List.mem_cons_of_mem _ fl_X9_21) rfl dX9_add_48 ?_
          refine v_iload_n F dX9_add_51 rfl 1 rfl ?_
          obtain ⟨hin9, h⟩ := gd_some h
          refine v_iast F u8 hin9 dX9_add_52 ?_
          refine v_aload_n F dX9_add_53 rfl 0 rfl ?_
          refine v_getR (k := 1) (f := 12) F t0 (by decide) (inc inU_9) rfl rfl (by decide) (by decide) (List.mem_cons_of_mem _ fl_X9_15) rfl dX9_add_54 (fun u10 => ?_)
          refine v_aload_n F dX9_add_57 rfl 0 rfl ?_
          refine v_getI (k := 3) F t0 (by decide) (inc inU_9) rfl rfl (by decide) (List.mem_cons_of_mem _ fl_X9_21) rfl dX9_add_58 ?_
          refine v_iload_n F dX9_add_61 rfl 2 rfl ?_
          obtain ⟨hin11, h⟩ := gd_some h
          refine v_iast F u10 hin11 dX9_add_62 ?_
          refine v_aload_n F dX9_add_63 rfl 0 rfl ?_
          refine v_getR (k := 2) (f := 12) F t0 (by decide) (inc inU_9) rfl rfl (by decide) (by decide) (List.mem_cons_of_mem _ fl_X9_18) rfl dX9_add_64 (fun u12 => ?_)
          refine v_aload_n F dX9_add_67 rfl 0 rfl ?_
          refine v_getI (k := 3) F t0 (by decide) (inc inU_9) rfl rfl (by decide) (List.mem_cons_of_mem _ fl_X9_21) rfl dX9_add_68 ?_
          refine v_iload_n F dX9_add_71 rfl 3 rfl ?_
          obtain ⟨hin13, h⟩ := gd_some h
          refine v_iast F u12 hin13 dX9_add_72 ?_
          refine v_aload_n F dX9_add_73 rfl 0 rfl ?_
          refine v_dup F dX9_add_74 rfl ?_
          refine v_getI (k := 3) F t0 (by decide) (inc inU_9) rfl rfl (by decide) (List.mem_cons_of_mem _ fl_X9_21) rfl dX9_add_75 ?_
          refine v_iconst (v := 1) F dX9_add_78 (by decide) ?_
          refine v_iadd F dX9_add_79 ?_
          refine v_put (k := 3) (ty := .int) F t0 (by decide) (inc inU_9) tyX9 tyX9_ok nmX9 rfl rfl (by decide) (List.mem_cons_of_mem _ fl_X9_21) rfl rfl (by decide +kernel) rfl rfl dX9_add_80 ?_
          cases h
          exact v_vret F hr hlk dX9_add_83
def f_X9_isDigit  (M : Mem) (i0 : Int32) : Option (Int32 × Mem) := if i0 < 48 then (some (0, M)) else (if 57 < i0 then (some (0, M)) else (some (1, M)))
set_option maxHeartbeats 4000000 in
set_option maxRecDepth 100000 in
theorem c_X9_isDigit {g : gT} (l : Launch) (hok : gOK g)  {i0 : Int32} {M : Mem} {z : Int32 × Mem}   (h : f_X9_isDigit  M i0 = some z) : Cn g l yX9_isDigit uX9_isDigit 0 [.int i0] M (some (.int z.1)) z.2 := by
  refine Cn.of (cc := cX9_isDigit) (maxL := 1) (ret := (some .boolean)) hok (by decide) rfl (Nat.le_of_ble_eq_true rfl) (fun p e s m args below meth c F hr hlk => ?_)
  unfold f_X9_isDigit at h
  show V g p l e ({ frames := 0, cells := 0, slots := 0, locals := 40 * 0 } : Room) s m args below meth c 1 0 0 (MQ below (gQ g (some (.int z.1)) z.2) args s 0 0 (gA g)) 0 [(0, .int i0)] [] M
  refine v_iload_n F dX9_isDigit_0 rfl 0 rfl ?_
  refine v_bipush (v := 48) F dX9_isDigit_1 (by decide) ?_
  refine v_icmp_lt (tgt := 16) F dX9_isDigit_3 (by decide) (fun hc1 => ?_) (fun hc1 => ?_)
  · rw [if_pos hc1] at h
    refine v_iconst (v := 0) F dX9_isDigit_16 (by decide) ?_
    cases h
    exact v_iret F hr narrow_b0 hlk dX9_isDigit_17
  · rw [if_neg hc1] at h
    refine v_iload_n F dX9_isDigit_6 rfl 0 rfl ?_
    refine v_bipush (v := 57) F dX9_isDigit_7 (by decide) ?_
    refine v_icmp_gt (tgt := 16) F dX9_isDigit_9 (by decide) (fun hc2 => ?_) (fun hc2 => ?_)
    · rw [if_pos hc2] at h
      refine v_iconst (v := 0) F dX9_isDigit_16 (by decide) ?_
      cases h
      exact v_iret F hr narrow_b0 hlk dX9_isDigit_17
    · rw [if_neg hc2] at h
      refine v_iconst (v := 1) F dX9_isDigit_12 (by decide) ?_
      refine v_goto (tgt := 17) F dX9_isDigit_13 (by decide) ?_
      cases h
      exact v_iret F hr narrow_b1 hlk dX9_isDigit_17
def f_X9_isLetter  (M : Mem) (i0 : Int32) : Option (Int32 × Mem) := if i0 < 97 then (some (0, M)) else (if 122 < i0 then (some (0, M)) else (some (1, M)))
set_option maxHeartbeats 4000000 in
set_option maxRecDepth 100000 in
theorem c_X9_isLetter {g : gT} (l : Launch) (hok : gOK g)  {i0 : Int32} {M : Mem} {z : Int32 × Mem}   (h : f_X9_isLetter  M i0 = some z) : Cn g l yX9_isLetter uX9_isLetter 0 [.int i0] M (some (.int z.1)) z.2 := by
  refine Cn.of (cc := cX9_isLetter) (maxL := 1) (ret := (some .boolean)) hok (by decide) rfl (Nat.le_of_ble_eq_true rfl) (fun p e s m args below meth c F hr hlk => ?_)
  unfold f_X9_isLetter at h
  show V g p l e ({ frames := 0, cells := 0, slots := 0, locals := 40 * 0 } : Room) s m args below meth c 1 0 0 (MQ below (gQ g (some (.int z.1)) z.2) args s 0 0 (gA g)) 0 [(0, .int i0)] [] M
  refine v_iload_n F dX9_isLetter_0 rfl 0 rfl ?_
  refine v_bipush (v := 97) F dX9_isLetter_1 (by decide) ?_
  refine v_icmp_lt (tgt := 16) F dX9_isLetter_3 (by decide) (fun hc1 => ?_) (fun hc1 => ?_)
  · rw [if_pos hc1] at h
    refine v_iconst (v := 0) F dX9_isLetter_16 (by decide) ?_
    cases h
    exact v_iret F hr narrow_b0 hlk dX9_isLetter_17
  · rw [if_neg hc1] at h
    refine v_iload_n F dX9_isLetter_6 rfl 0 rfl ?_
    refine v_bipush (v := 122) F dX9_isLetter_7 (by decide) ?_
    refine v_icmp_gt (tgt := 16) F dX9_isLetter_9 (by decide) (fun hc2 => ?_) (fun hc2 => ?_)
    · rw [if_pos hc2] at h
      refine v_iconst (v := 0) F dX9_isLetter_16 (by decide) ?_
      cases h
      exact v_iret F hr narrow_b0 hlk dX9_isLetter_17
    · rw [if_neg hc2] at h
      refine v_iconst (v := 1) F dX9_isLetter_12 (by decide) ?_
      refine v_goto (tgt := 17) F dX9_isLetter_13 (by decide) ?_
      cases h
      exact v_iret F hr narrow_b1 hlk dX9_isLetter_17
def f_X9_wordAt_b96 (a0 : Nat) (i1 : Int32) (i2 : Int32) (k13 : Int32 → Int32 → Int32 → Int32 → Mem → Option (Int32 × Mem)) (x3 : Int32) (x4 : Int32) (x5 : Int32) (x6 : Int32) (M : Mem) : Option (Int32 × Mem) := k13 x3 x4 x5 (x6 + 1) M
def f_X9_wordAt_b66 (a0 : Nat) (i1 : Int32) (i2 : Int32) (k13 : Int32 → Int32 → Int32 → Int32 → Mem → Option (Int32 × Mem)) (s0 : Int32) (x3 : Int32) (x4 : Int32) (x6 : Int32) (M : Mem) : Option (Int32 × Mem) := f_X9_wordAt_b96 a0 i1 i2 k13 x3 (x4 + 1) s0 x6 M
def f_X9_wordAt_b65 (a0 : Nat) (i1 : Int32) (i2 : Int32) (k13 : Int32 → Int32 → Int32 → Int32 → Mem → Option (Int32 × Mem)) (x3 : Int32) (x4 : Int32) (x6 : Int32) (M : Mem) : Option (Int32 × Mem) := f_X9_wordAt_b66 a0 i1 i2 k13 0 x3 x4 x6 M
def f_X9_wordAt_b87 (a0 : Nat) (i1 : Int32) (i2 : Int32) (k13 : Int32 → Int32 → Int32 → Int32 → Mem → Option (Int32 × Mem)) (x3 : Int32) (x6 : Int32) (M : Mem) : Option (Int32 × Mem) := f_X9_wordAt_b96 a0 i1 i2 k13 (x3 + 1) i1 1 x6 M
def f_X9_wordAt_h13 (a0 : Nat) (i1 : Int32) (i2 : Int32)  : Nat → Int32 → Int32 → Int32 → Int32 → Mem → Option (Int32 × Mem)
  | 0, _, _, _, _, _ => none
  | n + 1, x3, x4, x5, x6, M => if 88 ≤ x6 then (some (318, M)) else (if ¬ (x6 < 0 ∨ 88 ≤ x6.toNatClampNeg) then (if (wCh x6) = 32 then (if x5 = 0 then (f_X9_wordAt_b87 a0 i1 i2 (f_X9_wordAt_h13 a0 i1 i2 n) x3 x6 M) else (if x4 = i2 then (some (x3, M)) else (f_X9_wordAt_b87 a0 i1 i2 (f_X9_wordAt_h13 a0 i1 i2 n) x3 x6 M))) else (if x5 = 0 then (f_X9_wordAt_b65 a0 i1 i2 (f_X9_wordAt_h13 a0 i1 i2 n) x3 x4 x6 M) else (if i2 ≤ x4 then (f_X9_wordAt_b65 a0 i1 i2 (f_X9_wordAt_h13 a0 i1 i2 n) x3 x4 x6 M) else ((f_X8_at M a0 x4).bind fun q => match q with | (r8, M9) => (if r8 = (wCh x6) then (f_X9_wordAt_b66 a0 i1 i2 (f_X9_wordAt_h13 a0 i1 i2 n) 1 x3 x4 x6 M9) else (f_X9_wordAt_b65 a0 i1 i2 (f_X9_wordAt_h13 a0 i1 i2 n) x3 x4 x6 M9)))))) else none)
def f_X9_wordAt  (M : Mem) (a0 : Nat) (i1 : Int32) (i2 : Int32) : Option (Int32 × Mem) := f_X9_wordAt_h13 a0 i1 i2 FU 300 i1 1 0 M
set_option maxHeartbeats 4000000 in
set_option maxRecDepth 100000 in
theorem w_X9_wordAt_b96 {g : gT} {p : Program} {l : Launch} {e : Env} {s : State} {m : MethodId} {args : Array Value} {below : List Frame} {meth : Method} {c : Code} {z : Int32 × Mem} (F : Fx g p s m args c cX9_wordAt 8 uX9_wordAt RX9) (hr : meth.sig.returnType = (some .int)) (hlk : meth.locks = false)  {a0 : Nat} {i1 : Int32} {i2 : Int32} (t0 : Ty g 8 a0) {k13 : Int32 → Int32 → Int32 → Int32 → Mem → Option (Int32 × Mem)} (hk13 : ∀ (x3 : Int32) (x4 : Int32) (x5 : Int32) (x6 : Int32) (M : Mem), k13 x3 x4 x5 x6 M = some z → V g p l e ({ frames := 5, cells := 0, slots := 0, locals := 40 * 5 } : Room) s m args below meth c 8 0 0 (MQ below (gQ g (some (.int z.1)) z.2) args s 0 0 (gA g)) 13 [(0, .ref (gAd g a0)), (1, .int i1), (2, .int i2), (3, .int x3), (4, .int x4), (5, .int x5), (6, .int x6)] [] M) (x3 : Int32) (x4 : Int32) (x5 : Int32) (x6 : Int32) (M : Mem)  (h : f_X9_wordAt_b96 a0 i1 i2 k13 x3 x4 x5 x6 M = some z) : V g p l e ({ frames := 5, cells := 0, slots := 0, locals := 40 * 5 } : Room) s m args below meth c 8 0 0 (MQ below (gQ g (some (.int z.1)) z.2) args s 0 0 (gA g)) 96 [(0, .ref (gAd g a0)), (1, .int i1), (2, .int i2), (3, .int x3), (4, .int x4), (5, .int x5), (6, .int x6)] [] M := by
  unfold f_X9_wordAt_b96 at h
  refine v_iinc (v := x6 + 1) (lv' := [(6, .int (x6 + 1)), (0, .ref (gAd g a0)), (1, .int i1), (2, .int i2), (3, .int x3), (4, .int x4), (5, .int x5)]) F dX9_wordAt_96 (q := 6) rfl rfl (by decide) rfl ?_
  refine v_goto (tgt := 13) F dX9_wordAt_99 (by decide) ?_
  refine v_sub (fun ls h9 => lv_sub h9 [1, 2, 3, 4, 5, 6, 0] rfl) ?_
  exact hk13 _ _ _ _ _ h
set_option maxHeartbeats 4000000 in
set_option maxRecDepth 100000 in
theorem w_X9_wordAt_b66 {g : gT} {p : Program} {l : Launch} {e : Env} {s : State} {m : MethodId} {args : Array Value} {below : List Frame} {meth : Method} {c : Code} {z : Int32 × Mem} (F : Fx g p s m args c cX9_wordAt 8 uX9_wordAt RX9) (hr : meth.sig.returnType = (some .int)) (hlk : meth.locks = false)  {a0 : Nat} {i1 : Int32} {i2 : Int32} (t0 : Ty g 8 a0) {k13 : Int32 → Int32 → Int32 → Int32 → Mem → Option (Int32 × Mem)} (hk13 : ∀ (x3 : Int32) (x4 : Int32) (x5 : Int32) (x6 : Int32) (M : Mem), k13 x3 x4 x5 x6 M = some z → V g p l e ({ frames := 5, cells := 0, slots := 0, locals := 40 * 5 } : Room) s m args below meth c 8 0 0 (MQ below (gQ g (some (.int z.1)) z.2) args s 0 0 (gA g)) 13 [(0, .ref (gAd g a0)), (1, .int i1), (2, .int i2), (3, .int x3), (4, .int x4), (5, .int x5), (6, .int x6)] [] M) (s0 : Int32) (x3 : Int32) (x4 : Int32) (x6 : Int32) (M : Mem)  (h : f_X9_wordAt_b66 a0 i1 i2 k13 s0 x3 x4 x6 M = some z) : V g p l e ({ frames := 5, cells := 0, slots := 0, locals := 40 * 5 } : Room) s m args below meth c 8 0 0 (MQ below (gQ g (some (.int z.1)) z.2) args s 0 0 (gA g)) 66 [(0, .ref (gAd g a0)), (1, .int i1), (2, .int i2), (3, .int x3), (4, .int x4), (6, .int x6)] [.int s0] M := by
  unfold f_X9_wordAt_b66 at h
  refine v_istore (lv' := [(5, .int s0), (0, .ref (gAd g a0)), (1, .int i1), (2, .int i2), (3, .int x3), (4, .int x4), (6, .int x6)]) F dX9_wordAt_66 (by decide) rfl ?_
  refine v_iinc (v := x4 + 1) (lv' := [(4, .int (x4 + 1)), (5, .int s0), (0, .ref (gAd g a0)), (1, .int i1), (2, .int i2), (3, .int x3), (6, .int x6)]) F dX9_wordAt_68 (q := 5) rfl rfl (by decide) rfl ?_
  refine v_goto (tgt := 96) F dX9_wordAt_71 (by decide) ?_
  refine v_sub (fun ls h9 => lv_sub h9 [2, 3, 4, 5, 0, 1, 6] rfl) ?_
  exact w_X9_wordAt_b96 F hr hlk t0 hk13 _ _ _ _ _ h
set_option maxHeartbeats 4000000 in
set_option maxRecDepth 100000 in
theorem w_X9_wordAt_b65 {g : gT} {p : Program} {l : Launch} {e : Env} {s : State} {m : MethodId} {args : Array Value} {below : List Frame} {meth : Method} {c : Code} {z : Int32 × Mem} (F : Fx g p s m args c cX9_wordAt 8 uX9_wordAt RX9) (hr : meth.sig.returnType = (some .int)) (hlk : meth.locks = false)  {a0 : Nat} {i1 : Int32} {i2 : Int32} (t0 : Ty g 8 a0) {k13 : Int32 → Int32 → Int32 → Int32 → Mem → Option (Int32 × Mem)} (hk13 : ∀ (x3 : Int32) (x4 : Int32) (x5 : Int32) (x6 : Int32) (M : Mem), k13 x3 x4 x5 x6 M = some z → V g p l e ({ frames := 5, cells := 0, slots := 0, locals := 40 * 5 } : Room) s m args below meth c 8 0 0 (MQ below (gQ g (some (.int z.1)) z.2) args s 0 0 (gA g)) 13 [(0, .ref (gAd g a0)), (1, .int i1), (2, .int i2), (3, .int x3), (4, .int x4), (5, .int x5), (6, .int x6)] [] M) (x3 : Int32) (x4 : Int32) (x6 : Int32) (M : Mem)  (h : f_X9_wordAt_b65 a0 i1 i2 k13 x3 x4 x6 M = some z) : V g p l e ({ frames := 5, cells := 0, slots := 0, locals := 40 * 5 } : Room) s m args below meth c 8 0 0 (MQ below (gQ g (some (.int z.1)) z.2) args s 0 0 (gA g)) 65 [(0, .ref (gAd g a0)), (1, .int i1), (2, .int i2), (3, .int x3), (4, .int x4), (6, .int x6)] [] M := by
  unfold f_X9_wordAt_b65 at h
  refine v_iconst (v := 0) F dX9_wordAt_65 (by decide) ?_
  exact w_X9_wordAt_b66 F hr hlk t0 hk13 _ _ _ _ _ h
set_option maxHeartbeats 4000000 in
set_option maxRecDepth 100000 in
theorem w_X9_wordAt_b87 {g : gT} {p : Program} {l : Launch} {e : Env} {s : State} {m : MethodId} {args : Array Value} {below : List Frame} {meth : Method} {c : Code} {z : Int32 × Mem} (F : Fx g p s m args c cX9_wordAt 8 uX9_wordAt RX9) (hr : meth.sig.returnType = (some .int)) (hlk : meth.locks = false)  {a0 : Nat} {i1 : Int32} {i2 : Int32} (t0 : Ty g 8 a0) {k13 : Int32 → Int32 → Int32 → Int32 → Mem → Option (Int32 × Mem)} (hk13 : ∀ (x3 : Int32) (x4 : Int32) (x5 : Int32) (x6 : Int32) (M : Mem), k13 x3 x4 x5 x6 M = some z → V g p l e ({ frames := 5, cells := 0, slots := 0, locals := 40 * 5 } : Room) s m args below meth c 8 0 0 (MQ below (gQ g (some (.int z.1)) z.2) args s 0 0 (gA g)) 13 [(0, .ref (gAd g a0)), (1, .int i1), (2, .int i2), (3, .int x3), (4, .int x4), (5, .int x5), (6, .int x6)] [] M) (x3 : Int32) (x6 : Int32) (M : Mem)  (h : f_X9_wordAt_b87 a0 i1 i2 k13 x3 x6 M = some z) : V g p l e ({ frames := 5, cells := 0, slots := 0, locals := 40 * 5 } : Room) s m args below meth c 8 0 0 (MQ below (gQ g (some (.int z.1)) z.2) args s 0 0 (gA g)) 87 [(0, .ref (gAd g a0)), (1, .int i1), (2, .int i2), (3, .int x3), (6, .int x6)] [] M := by
  unfold f_X9_wordAt_b87 at h
  refine v_iinc (v := x3 + 1) (lv' := [(3, .int (x3 + 1)), (0, .ref (gAd g a0)), (1, .int i1), (2, .int i2), (6, .int x6)]) F dX9_wordAt_87 (q := 3) rfl rfl (by decide) rfl ?_
  refine v_iload_n F dX9_wordAt_90 rfl 2 rfl ?_
  refine v_istore (lv' := [(4, .int i1), (3, .int (x3 + 1)), (0, .ref (gAd g a0)), (1, .int i1), (2, .int i2), (6, .int x6)]) F dX9_wordAt_91 (by decide) rfl ?_
  refine v_iconst (v := 1) F dX9_wordAt_93 (by decide) ?_
  refine v_istore (lv' := [(5, .int 1), (4, .int i1), (3, .int (x3 + 1)), (0, .ref (gAd g a0)), (1, .int i1), (2, .int i2), (6, .int x6)]) F dX9_wordAt_94 (by decide) rfl ?_
  refine v_sub (fun ls h9 => lv_sub h9 [3, 4, 5, 2, 1, 0, 6] rfl) ?_
  exact w_X9_wordAt_b96 F hr hlk t0 hk13 _ _ _ _ _ h
set_option maxHeartbeats 4000000 in
set_option maxRecDepth 100000 in
theorem w_X9_wordAt_h13 {g : gT} {p : Program} {l : Launch} {e : Env} {s : State} {m : MethodId} {args : Array Value} {below : List Frame} {meth : Method} {c : Code} {z : Int32 × Mem} (F : Fx g p s m args c cX9_wordAt 8 uX9_wordAt RX9) (hr : meth.sig.returnType = (some .int)) (hlk : meth.locks = false)  {a0 : Nat} {i1 : Int32} {i2 : Int32} (t0 : Ty g 8 a0)   : ∀ (n : Nat) (x3 : Int32) (x4 : Int32) (x5 : Int32) (x6 : Int32) (M : Mem), f_X9_wordAt_h13 a0 i1 i2 n x3 x4 x5 x6 M = some z → V g p l e ({ frames := 5, cells := 0, slots := 0, locals := 40 * 5 } : Room) s m args below meth c 8 0 0 (MQ below (gQ g (some (.int z.1)) z.2) args s 0 0 (gA g)) 13 [(0, .ref (gAd g a0)), (1, .int i1), (2, .int i2), (3, .int x3), (4, .int x4), (5, .int x5), (6, .int x6)] [] M := by
  intro n
  induction n with
  | zero => intro x3 x4 x5 x6 M; intros; rename_i h; cases h
  | succ n ih =>
    intro x3 x4 x5 x6 M h
    rw [f_X9_wordAt_h13] at h
    refine v_iload F dX9_wordAt_13 6 rfl ?_
    refine v_ldcS F (F.2.2.2.2.2.1 (RX9, 57, "wind tick height turn up spin side holes piece lift twist if or and not least most sign ", 8) (by decide +kernel)) dX9_wordAt_15 ?_
    refine v_callVs (As := []) (rest := [.int x6]) F (c_J0_length l F.2.2.1 M) (cwV 0 F.1.2.2.2.2 (gU_V ml_X9_59 im_yJ0_length_8abf5 se_yJ0_length_8abf5 ini_J0 cd_J0_length_8abf5) rfl rfl rfl (by decide +kernel) ⟨Nat.le_of_ble_eq_true rfl, Nat.le_of_ble_eq_true rfl⟩) rfl rfl (Nat.le_of_ble_eq_true rfl) dX9_wordAt_17 ⟨Nat.le_of_ble_eq_true rfl, Nat.le_of_ble_eq_true rfl⟩ ?_
    refine v_icmp_ge (tgt := 102) F dX9_wordAt_20 (by decide) (fun hc1 => ?_) (fun hc1 => ?_)
    · rw [if_pos hc1] at h
      refine v_sipush (v := 318) F dX9_wordAt_102 (by decide) ?_
      cases h
      exact v_iret F hr rfl hlk dX9_wordAt_105
    · rw [if_neg hc1] at h
      refine v_ldcS F (F.2.2.2.2.2.1 (RX9, 57, "wind tick height turn up spin side holes piece lift twist if or and not least most sign ", 8) (by decide +kernel)) dX9_wordAt_23 ?_
      refine v_iload F dX9_wordAt_25 6 rfl ?_
      obtain ⟨hin2, h⟩ := gd_some h
      refine v_callVs (As := [.int x6]) (rest := []) F (c_J0_charAt l F.2.2.1 M hin2) (cwV 1 F.1.2.2.2.2 (gU_V ml_X9_65 im_yJ0_charAt_5068e se_yJ0_charAt_5068e ini_J0 cd_J0_charAt_5068e) rfl rfl rfl (by decide +kernel) ⟨Nat.le_of_ble_eq_true rfl, Nat.le_of_ble_eq_true rfl⟩) rfl rfl (Nat.le_of_ble_eq_true rfl) dX9_wordAt_27 ⟨Nat.le_of_ble_eq_true rfl, Nat.le_of_ble_eq_true rfl⟩ ?_
      refine v_istore (lv' := [(7, .int (wCh x6)), (0, .ref (gAd g a0)), (1, .int i1), (2, .int i2), (3, .int x3), (4, .int x4), (5, .int x5), (6, .int x6)]) F dX9_wordAt_30 (by decide) rfl ?_
      refine v_iload F dX9_wordAt_32 0 rfl ?_
      refine v_bipush (v := 32) F dX9_wordAt_34 (by decide) ?_
      refine v_icmp_eq (tgt := 74) F dX9_wordAt_36 (by decide) (fun hc3 => ?_) (fun hc3 => ?_)
      · rw [if_pos hc3] at h
        refine v_iload F dX9_wordAt_74 6 rfl ?_
        refine v_if_eq (tgt := 87) F dX9_wordAt_76 (by decide) (fun hc4 => ?_) (fun hc4 => ?_)
        · rw [if_pos hc4] at h
          refine v_sub (fun ls h9 => lv_sub h9 [1, 2, 3, 4, 7] rfl) ?_
          exact w_X9_wordAt_b87 F hr hlk t0 ih _ _ _ h
        · rw [if_neg hc4] at h
          refine v_iload F dX9_wordAt_79 5 rfl ?_
          refine v_iload_n F dX9_wordAt_81 rfl 3 rfl ?_
          refine v_icmp_ne (tgt := 87) F dX9_wordAt_82 (by decide) (fun hc5 => ?_) (fun hc5 => ?_)
          · rw [if_neg hc5] at h
            refine v_sub (fun ls h9 => lv_sub h9 [1, 2, 3, 4, 7] rfl) ?_
            exact w_X9_wordAt_b87 F hr hlk t0 ih _ _ _ h
          · rw [if_pos hc5] at h
            refine v_iload_n F dX9_wordAt_85 rfl 4 rfl ?_
            cases h
            exact v_iret F hr rfl hlk dX9_wordAt_86
      · rw [if_neg hc3] at h
        refine v_iload F dX9_wordAt_39 6 rfl ?_
        refine v_if_eq (tgt := 65) F dX9_wordAt_41 (by decide) (fun hc6 => ?_) (fun hc6 => ?_)
        · rw [if_pos hc6] at h
          refine v_sub (fun ls h9 => lv_sub h9 [1, 2, 3, 4, 5, 7] rfl) ?_
          exact w_X9_wordAt_b65 F hr hlk t0 ih _ _ _ _ h
        · rw [if_neg hc6] at h
          refine v_iload F dX9_wordAt_44 5 rfl ?_
          refine v_iload_n F dX9_wordAt_46 rfl 3 rfl ?_
          refine v_icmp_ge (tgt := 65) F dX9_wordAt_47 (by decide) (fun hc7 => ?_) (fun hc7 => ?_)
          · rw [if_pos hc7] at h
            refine v_sub (fun ls h9 => lv_sub h9 [1, 2, 3, 4, 5, 7] rfl) ?_
            exact w_X9_wordAt_b65 F hr hlk t0 ih _ _ _ _ h
          · rw [if_neg hc7] at h
            refine v_aload_n F dX9_wordAt_50 rfl 1 rfl ?_
            refine v_iload F dX9_wordAt_51 5 rfl ?_
            obtain ⟨⟨r8, M9⟩, hz10, h⟩ := bd_some h
            dsimp only at h
            refine v_callVi (As := [.int x4]) (rest := []) F (c_X8_at l F.2.2.1 t0 hz10) (cwV 1 F.1.2.2.2.2 (gU_V ml_X9_25 im_yX8_at se_yX8_at ini_X8 cd_X8_at) rfl rfl rfl (by decide +kernel) ⟨Nat.le_of_ble_eq_true rfl, Nat.le_of_ble_eq_true rfl⟩) t0 (by decide) rfl rfl rfl (Nat.le_of_ble_eq_true rfl) dX9_wordAt_53 ⟨Nat.le_of_ble_eq_true rfl, Nat.le_of_ble_eq_true rfl⟩ ?_
            refine v_iload F dX9_wordAt_56 0 rfl ?_
            refine v_icmp_ne (tgt := 65) F dX9_wordAt_58 (by decide) (fun hc12 => ?_) (fun hc12 => ?_)
            · rw [if_neg hc12] at h
              refine v_sub (fun ls h9 => lv_sub h9 [1, 2, 3, 4, 5, 7] rfl) ?_
              exact w_X9_wordAt_b65 F hr hlk t0 ih _ _ _ _ h
            · rw [if_pos hc12] at h
              refine v_iconst (v := 1) F dX9_wordAt_61 (by decide) ?_
              refine v_goto (tgt := 66) F dX9_wordAt_62 (by decide) ?_
              refine v_sub (fun ls h9 => lv_sub h9 [1, 2, 3, 4, 5, 7] rfl) ?_
              exact w_X9_wordAt_b66 F hr hlk t0 ih _ _ _ _ _ h
set_option maxHeartbeats 4000000 in
set_option maxRecDepth 100000 in
theorem c_X9_wordAt {g : gT} (l : Launch) (hok : gOK g)  {a0 : Nat} {i1 : Int32} {i2 : Int32} {M : Mem} {z : Int32 × Mem}  (t0 : Ty g 8 a0) (h : f_X9_wordAt  M a0 i1 i2 = some z) : Cn g l yX9_wordAt uX9_wordAt 5 [.ref (gAd g a0), .int i1, .int i2] M (some (.int z.1)) z.2 := by
  refine Cn.of (cc := cX9_wordAt) (maxL := 8) (ret := (some .int)) hok (by decide) rfl (Nat.le_of_ble_eq_true rfl) (fun p e s m args below meth c F hr hlk => ?_)
  unfold f_X9_wordAt at h
  show V g p l e ({ frames := 5, cells := 0, slots := 0, locals := 40 * 5 } : Room) s m args below meth c 8 0 0 (MQ below (gQ g (some (.int z.1)) z.2) args s 0 0 (gA g)) 0 [(0, .ref (gAd g a0)), (1, .int i1), (2, .int i2)] [] M
  refine v_sipush (v := 300) F dX9_wordAt_0 (by decide) ?_
  refine v_istore_n (lv' := [(3, .int 300), (0, .ref (gAd g a0)), (1, .int i1), (2, .int i2)]) F dX9_wordAt_3 rfl (by decide) rfl ?_
  refine v_iload_n F dX9_wordAt_4 rfl 2 rfl ?_
  refine v_istore (lv' := [(4, .int i1), (3, .int 300), (0, .ref (gAd g a0)), (1, .int i1), (2, .int i2)]) F dX9_wordAt_5 (by decide) rfl ?_
  refine v_iconst (v := 1) F dX9_wordAt_7 (by decide) ?_
  refine v_istore (lv' := [(5, .int 1), (4, .int i1), (3, .int 300), (0, .ref (gAd g a0)), (1, .int i1), (2, .int i2)]) F dX9_wordAt_8 (by decide) rfl ?_
  refine v_iconst (v := 0) F dX9_wordAt_10 (by decide) ?_
  refine v_istore (lv' := [(6, .int 0), (5, .int 1), (4, .int i1), (3, .int 300), (0, .ref (gAd g a0)), (1, .int i1), (2, .int i2)]) F dX9_wordAt_11 (by decide) rfl ?_
  refine v_sub (fun ls h9 => lv_sub h9 [4, 5, 6, 3, 2, 1, 0] rfl) ?_
  exact w_X9_wordAt_h13 F hr hlk t0 _ _ _ _ _ _ h
def f_X9_scanOne_b126 (a0 : Nat) (a1 : Nat) (i2 : Int32) (i3 : Int32)  (x4 : Int32) (x5 : Int32) (x6 : Int32) (M : Mem) : Option (Int32 × Mem) := (f_X9_add M a0 x4 i2 x5).bind fun q => match q with | (r29, M30) => (some (x6, M30))
def f_X9_scanOne_b77 (a0 : Nat) (a1 : Nat) (i2 : Int32) (i3 : Int32)  (x5 : Int32) (x6 : Int32) (M : Mem) : Option (Int32 × Mem) := f_X9_scanOne_b126 a0 a1 i2 i3 400 x5 x6 M
def f_X9_scanOne_h30 (a0 : Nat) (a1 : Nat) (i2 : Int32) (i3 : Int32)  : Nat → Int32 → Int32 → Mem → Option (Int32 × Mem)
  | 0, _, _, _ => none
  | n + 1, x5, x6, M => if i3 ≤ x6 then (f_X9_scanOne_b77 a0 a1 i2 i3 x5 x6 M) else ((f_X8_at M a1 x6).bind fun q => match q with | (r16, M17) => ((f_X9_isDigit M17 r16).bind fun q => match q with | (r20, M21) => (if r20 = 0 then (f_X9_scanOne_b77 a0 a1 i2 i3 x5 x6 M21) else ((f_X8_at M21 a1 x6).bind fun q => match q with | (r25, M26) => ((f_X9_scanOne_h30 a0 a1 i2 i3 n) (if (((x5 * 10) + r25) - 48) < 10000 then (((x5 * 10) + r25) - 48) else 10000) (x6 + 1) M26)))))
def f_X9_scanOne_b117 (a0 : Nat) (a1 : Nat) (i2 : Int32) (i3 : Int32)  (x5 : Int32) (x6 : Int32) (M : Mem) : Option (Int32 × Mem) := (f_X9_wordAt M a1 i2 x6).bind fun q => match q with | (r43, M44) => (f_X9_scanOne_b126 a0 a1 i2 i3 r43 x5 x6 M44)
def f_X9_scanOne_h93 (a0 : Nat) (a1 : Nat) (i2 : Int32) (i3 : Int32)  : Nat → Int32 → Int32 → Mem → Option (Int32 × Mem)
  | 0, _, _, _ => none
  | n + 1, x5, x6, M => if i3 ≤ x6 then (f_X9_scanOne_b117 a0 a1 i2 i3 x5 x6 M) else ((f_X8_at M a1 x6).bind fun q => match q with | (r34, M35) => ((f_X9_isLetter M35 r34).bind fun q => match q with | (r38, M39) => (if r38 = 0 then (f_X9_scanOne_b117 a0 a1 i2 i3 x5 x6 M39) else ((f_X9_scanOne_h93 a0 a1 i2 i3 n) x5 (x6 + 1) M39))))
def f_X9_scanOne  (M : Mem) (a0 : Nat) (a1 : Nat) (i2 : Int32) (i3 : Int32) : Option (Int32 × Mem) := (f_X8_at M a1 i2).bind fun q => match q with | (r1, M2) => ((f_X9_isDigit M2 r1).bind fun q => match q with | (r5, M6) => (if r5 = 0 then ((f_X9_isLetter M6 r1).bind fun q => match q with | (r10, M11) => (if r10 = 0 then (f_X9_scanOne_b126 a0 a1 i2 i3 r1 0 (i2 + 1) M11) else (f_X9_scanOne_h93 a0 a1 i2 i3 FU 0 (i2 + 1) M11))) else (f_X9_scanOne_h30 a0 a1 i2 i3 FU (r1 - 48) (i2 + 1) M6)))
set_option maxHeartbeats 4000000 in
set_option maxRecDepth 100000 in
theorem w_X9_scanOne_b126 {g : gT} {p : Program} {l : Launch} {e : Env} {s : State} {m : MethodId} {args : Array Value} {below : List Frame} {meth : Method} {c : Code} {z : Int32 × Mem} (F : Fx g p s m args c cX9_scanOne 7 uX9_scanOne RX9) (hr : meth.sig.returnType = (some .int)) (hlk : meth.locks = false)  {a0 : Nat} {a1 : Nat} {i2 : Int32} {i3 : Int32} (t0 : Ty g 9 a0) (t1 : Ty g 8 a1)   (x4 : Int32) (x5 : Int32) (x6 : Int32) (M : Mem)  (h : f_X9_scanOne_b126 a0 a1 i2 i3 x4 x5 x6 M = some z) : V g p l e ({ frames := 6, cells := 0, slots := 0, locals := 40 * 6 } : Room) s m args below meth c 7 0 0 (MQ below (gQ g (some (.int z.1)) z.2) args s 0 0 (gA g)) 126 [(0, .ref (gAd g a0)), (1, .ref (gAd g a1)), (2, .int i2), (3, .int i3), (4, .int x4), (5, .int x5), (6, .int x6)] [] M := by
  unfold f_X9_scanOne_b126 at h
  refine v_aload_n F dX9_scanOne_126 rfl 0 rfl ?_
  refine v_iload F dX9_scanOne_127 4 rfl ?_
  refine v_iload_n F dX9_scanOne_129 rfl 2 rfl ?_
  refine v_iload F dX9_scanOne_130 5 rfl ?_
  obtain ⟨⟨r29, M30⟩, hz31, h⟩ := bd_some h
  dsimp only at h
  refine v_callVv (As := [.int x4, .int i2, .int x5]) (rest := []) F (c_X9_add l F.2.2.1 t0 hz31) (cwV 3 F.1.2.2.2.2 (gU_V ml_X9_35 im_yX9_add se_yX9_add ini_X9 cd_X9_add) rfl rfl rfl (by decide +kernel) ⟨Nat.le_of_ble_eq_true rfl, Nat.le_of_ble_eq_true rfl⟩) t0 (by decide) rfl rfl rfl (Nat.le_of_ble_eq_true rfl) dX9_scanOne_132 ⟨Nat.le_of_ble_eq_true rfl, Nat.le_of_ble_eq_true rfl⟩ ?_
  refine v_iload F dX9_scanOne_135 6 rfl ?_
  cases h
  exact v_iret F hr rfl hlk dX9_scanOne_137
set_option maxHeartbeats 4000000 in
set_option maxRecDepth 100000 in
theorem w_X9_scanOne_b77 {g : gT} {p : Program} {l : Launch} {e : Env} {s : State} {m : MethodId} {args : Array Value} {below : List Frame} {meth : Method} {c : Code} {z : Int32 × Mem} (F : Fx g p s m args c cX9_scanOne 7 uX9_scanOne RX9) (hr : meth.sig.returnType = (some .int)) (hlk : meth.locks = false)  {a0 : Nat} {a1 : Nat} {i2 : Int32} {i3 : Int32} (t0 : Ty g 9 a0) (t1 : Ty g 8 a1)   (x5 : Int32) (x6 : Int32) (M : Mem)  (h : f_X9_scanOne_b77 a0 a1 i2 i3 x5 x6 M = some z) : V g p l e ({ frames := 6, cells := 0, slots := 0, locals := 40 * 6 } : Room) s m args below meth c 7 0 0 (MQ below (gQ g (some (.int z.1)) z.2) args s 0 0 (gA g)) 77 [(0, .ref (gAd g a0)), (1, .ref (gAd g a1)), (2, .int i2), (3, .int i3), (5, .int x5), (6, .int x6)] [] M := by
  unfold f_X9_scanOne_b77 at h
  refine v_sipush (v := 400) F dX9_scanOne_77 (by decide) ?_
  refine v_istore (lv' := [(4, .int 400), (0, .ref (gAd g a0)), (1, .ref (gAd g a1)), (2, .int i2), (3, .int i3), (5, .int x5), (6, .int x6)]) F dX9_scanOne_80 (by decide) rfl ?_
  refine v_goto (tgt := 126) F dX9_scanOne_82 (by decide) ?_
  refine v_sub (fun ls h9 => lv_sub h9 [1, 2, 3, 4, 0, 5, 6] rfl) ?_
  exact w_X9_scanOne_b126 F hr hlk t0 t1 _ _ _ _ h
set_option maxHeartbeats 4000000 in
set_option maxRecDepth 100000 in
theorem w_X9_scanOne_h30 {g : gT} {p : Program} {l : Launch} {e : Env} {s : State} {m : MethodId} {args : Array Value} {below : List Frame} {meth : Method} {c : Code} {z : Int32 × Mem} (F : Fx g p s m args c cX9_scanOne 7 uX9_scanOne RX9) (hr : meth.sig.returnType = (some .int)) (hlk : meth.locks = false)  {a0 : Nat} {a1 : Nat} {i2 : Int32} {i3 : Int32} (t0 : Ty g 9 a0) (t1 : Ty g 8 a1)   : ∀ (n : Nat) (x5 : Int32) (x6 : Int32) (M : Mem), f_X9_scanOne_h30 a0 a1 i2 i3 n x5 x6 M = some z → V g p l e ({ frames := 6, cells := 0, slots := 0, locals := 40 * 6 } : Room) s m args below meth c 7 0 0 (MQ below (gQ g (some (.int z.1)) z.2) args s 0 0 (gA g)) 30 [(0, .ref (gAd g a0)), (1, .ref (gAd g a1)), (2, .int i2), (3, .int i3), (5, .int x5), (6, .int x6)] [] M := by
  intro n
  induction n with
  | zero => intro x5 x6 M; intros; rename_i h; cases h
  | succ n ih =>
    intro x5 x6 M h
    rw [f_X9_scanOne_h30] at h
    refine v_iload F dX9_scanOne_30 5 rfl ?_
    refine v_iload_n F dX9_scanOne_32 rfl 3 rfl ?_
    refine v_icmp_ge (tgt := 77) F dX9_scanOne_33 (by decide) (fun hc15 => ?_) (fun hc15 => ?_)
    · rw [if_pos hc15] at h
      exact w_X9_scanOne_b77 F hr hlk t0 t1 _ _ _ h
    · rw [if_neg hc15] at h
      refine v_aload_n F dX9_scanOne_36 rfl 1 rfl ?_
      refine v_iload F dX9_scanOne_37 5 rfl ?_
      obtain ⟨⟨r16, M17⟩, hz18, h⟩ := bd_some h
      dsimp only at h
      refine v_callVi (As := [.int x6]) (rest := []) F (c_X8_at l F.2.2.1 t1 hz18) (cwV 1 F.1.2.2.2.2 (gU_V ml_X9_25 im_yX8_at se_yX8_at ini_X8 cd_X8_at) rfl rfl rfl (by decide +kernel) ⟨Nat.le_of_ble_eq_true rfl, Nat.le_of_ble_eq_true rfl⟩) t1 (by decide) rfl rfl rfl (Nat.le_of_ble_eq_true rfl) dX9_scanOne_39 ⟨Nat.le_of_ble_eq_true rfl, Nat.le_of_ble_eq_true rfl⟩ ?_
      obtain ⟨⟨r20, M21⟩, hz22, h⟩ := bd_some h
      dsimp only at h
      refine v_callSi (As := [.int r16]) (rest := []) F (c_X9_isDigit l F.2.2.1  hz22) (cwS 1 F.1.2.2.2.2 (gU_S ml_X9_39 st_yX9_isDigit ini_X9 cd_X9_isDigit) rfl rfl rfl (by decide +kernel) ⟨Nat.le_of_ble_eq_true rfl, Nat.le_of_ble_eq_true rfl⟩) rfl rfl (Nat.le_of_ble_eq_true rfl) dX9_scanOne_42 ⟨Nat.le_of_ble_eq_true rfl, Nat.le_of_ble_eq_true rfl⟩ ?_
      refine v_if_eq (tgt := 77) F dX9_scanOne_45 (by decide) (fun hc24 => ?_) (fun hc24 => ?_)
      · rw [if_pos hc24] at h
        exact w_X9_scanOne_b77 F hr hlk t0 t1 _ _ _ h
      · rw [if_neg hc24] at h
        refine v_sipush (v := 10000) F dX9_scanOne_48 (by decide) ?_
        refine v_iload F dX9_scanOne_51 4 rfl ?_
        refine v_bipush (v := 10) F dX9_scanOne_53 (by decide) ?_
        refine v_imul F dX9_scanOne_55 ?_
        refine v_aload_n F dX9_scanOne_56 rfl 1 rfl ?_
        refine v_iload F dX9_scanOne_57 5 rfl ?_
        obtain ⟨⟨r25, M26⟩, hz27, h⟩ := bd_some h
        dsimp only at h
        refine v_callVi (As := [.int x6]) (rest := [.int (x5 * 10), .int 10000]) F (c_X8_at l F.2.2.1 t1 hz27) (cwV 1 F.1.2.2.2.2 (gU_V ml_X9_25 im_yX8_at se_yX8_at ini_X8 cd_X8_at) rfl rfl rfl (by decide +kernel) ⟨Nat.le_of_ble_eq_true rfl, Nat.le_of_ble_eq_true rfl⟩) t1 (by decide) rfl rfl rfl (Nat.le_of_ble_eq_true rfl) dX9_scanOne_59 ⟨Nat.le_of_ble_eq_true rfl, Nat.le_of_ble_eq_true rfl⟩ ?_
        refine v_iadd F dX9_scanOne_62 ?_
        refine v_bipush (v := 48) F dX9_scanOne_63 (by decide) ?_
        refine v_isub F dX9_scanOne_65 ?_
        refine v_mmin F (List.mem_cons_of_mem _ ml_X9_45) (List.mem_cons_of_mem _ st_mmin) (List.mem_cons_of_mem _ ini_Math) (List.mem_cons_of_mem _ cd_mmin) dX9_scanOne_66 ⟨Nat.le_of_ble_eq_true rfl, Nat.le_of_ble_eq_true rfl, Nat.le_of_ble_eq_true rfl, Nat.le_of_ble_eq_true rfl⟩ (Nat.le_of_ble_eq_true rfl) ?_
        refine v_istore (lv' := [(5, .int (if (((x5 * 10) + r25) - 48) < 10000 then (((x5 * 10) + r25) - 48) else 10000)), (0, .ref (gAd g a0)), (1, .ref (gAd g a1)), (2, .int i2), (3, .int i3), (6, .int x6)]) F dX9_scanOne_69 (by decide) rfl ?_
        refine v_iinc (v := x6 + 1) (lv' := [(6, .int (x6 + 1)), (5, .int (if (((x5 * 10) + r25) - 48) < 10000 then (((x5 * 10) + r25) - 48) else 10000)), (0, .ref (gAd g a0)), (1, .ref (gAd g a1)), (2, .int i2), (3, .int i3)]) F dX9_scanOne_71 (q := 5) rfl rfl (by decide) rfl ?_
        refine v_goto (tgt := 30) F dX9_scanOne_74 (by decide) ?_
        refine v_sub (fun ls h9 => lv_sub h9 [2, 3, 4, 5, 1, 0] rfl) ?_
        exact ih _ _ _ h
set_option maxHeartbeats 4000000 in
set_option maxRecDepth 100000 in
theorem w_X9_scanOne_b117 {g : gT} {p : Program} {l : Launch} {e : Env} {s : State} {m : MethodId} {args : Array Value} {below : List Frame} {meth : Method} {c : Code} {z : Int32 × Mem} (F : Fx g p s m args c cX9_scanOne 7 uX9_scanOne RX9) (hr : meth.sig.returnType = (some .int)) (hlk : meth.locks = false)  {a0 : Nat} {a1 : Nat} {i2 : Int32} {i3 : Int32} (t0 : Ty g 9 a0) (t1 : Ty g 8 a1)   (x5 : Int32) (x6 : Int32) (M : Mem)  (h : f_X9_scanOne_b117 a0 a1 i2 i3 x5 x6 M = some z) : V g p l e ({ frames := 6, cells := 0, slots := 0, locals := 40 * 6 } : Room) s m args below meth c 7 0 0 (MQ below (gQ g (some (.int z.1)) z.2) args s 0 0 (gA g)) 117 [(0, .ref (gAd g a0)), (1, .ref (gAd g a1)), (2, .int i2), (3, .int i3), (5, .int x5), (6, .int x6)] [] M := by
  unfold f_X9_scanOne_b117 at h
  refine v_aload_n F dX9_scanOne_117 rfl 1 rfl ?_
  refine v_iload_n F dX9_scanOne_118 rfl 2 rfl ?_
  refine v_iload F dX9_scanOne_119 5 rfl ?_
  obtain ⟨⟨r43, M44⟩, hz45, h⟩ := bd_some h
  dsimp only at h
  refine v_callSi (As := [.ref (gAd g a1), .int i2, .int x6]) (rest := []) F (c_X9_wordAt l F.2.2.1 t1 hz45) (cwS 3 F.1.2.2.2.2 (gU_S ml_X9_54 st_yX9_wordAt ini_X9 cd_X9_wordAt) rfl rfl rfl (by decide +kernel) ⟨Nat.le_of_ble_eq_true rfl, Nat.le_of_ble_eq_true rfl⟩) rfl rfl (Nat.le_of_ble_eq_true rfl) dX9_scanOne_121 ⟨Nat.le_of_ble_eq_true rfl, Nat.le_of_ble_eq_true rfl⟩ ?_
  refine v_istore (lv' := [(4, .int r43), (0, .ref (gAd g a0)), (1, .ref (gAd g a1)), (2, .int i2), (3, .int i3), (5, .int x5), (6, .int x6)]) F dX9_scanOne_124 (by decide) rfl ?_
  refine v_sub (fun ls h9 => lv_sub h9 [1, 2, 3, 4, 0, 5, 6] rfl) ?_
  exact w_X9_scanOne_b126 F hr hlk t0 t1 _ _ _ _ h
set_option maxHeartbeats 4000000 in
set_option maxRecDepth 100000 in
theorem w_X9_scanOne_h93 {g : gT} {p : Program} {l : Launch} {e : Env} {s : State} {m : MethodId} {args : Array Value} {below : List Frame} {meth : Method} {c : Code} {z : Int32 × Mem} (F : Fx g p s m args c cX9_scanOne 7 uX9_scanOne RX9) (hr : meth.sig.returnType = (some .int)) (hlk : meth.locks = false)  {a0 : Nat} {a1 : Nat} {i2 : Int32} {i3 : Int32} (t0 : Ty g 9 a0) (t1 : Ty g 8 a1)   : ∀ (n : Nat) (x5 : Int32) (x6 : Int32) (M : Mem), f_X9_scanOne_h93 a0 a1 i2 i3 n x5 x6 M = some z → V g p l e ({ frames := 6, cells := 0, slots := 0, locals := 40 * 6 } : Room) s m args below meth c 7 0 0 (MQ below (gQ g (some (.int z.1)) z.2) args s 0 0 (gA g)) 93 [(0, .ref (gAd g a0)), (1, .ref (gAd g a1)), (2, .int i2), (3, .int i3), (5, .int x5), (6, .int x6)] [] M := by
  intro n
  induction n with
  | zero => intro x5 x6 M; intros; rename_i h; cases h
  | succ n ih =>
    intro x5 x6 M h
    rw [f_X9_scanOne_h93] at h
    refine v_iload F dX9_scanOne_93 5 rfl ?_
    refine v_iload_n F dX9_scanOne_95 rfl 3 rfl ?_
    refine v_icmp_ge (tgt := 117) F dX9_scanOne_96 (by decide) (fun hc33 => ?_) (fun hc33 => ?_)
    · rw [if_pos hc33] at h
      exact w_X9_scanOne_b117 F hr hlk t0 t1 _ _ _ h
    · rw [if_neg hc33] at h
      refine v_aload_n F dX9_scanOne_99 rfl 1 rfl ?_
      refine v_iload F dX9_scanOne_100 5 rfl ?_
      obtain ⟨⟨r34, M35⟩, hz36, h⟩ := bd_some h
      dsimp only at h
      refine v_callVi (As := [.int x6]) (rest := []) F (c_X8_at l F.2.2.1 t1 hz36) (cwV 1 F.1.2.2.2.2 (gU_V ml_X9_25 im_yX8_at se_yX8_at ini_X8 cd_X8_at) rfl rfl rfl (by decide +kernel) ⟨Nat.le_of_ble_eq_true rfl, Nat.le_of_ble_eq_true rfl⟩) t1 (by decide) rfl rfl rfl (Nat.le_of_ble_eq_true rfl) dX9_scanOne_102 ⟨Nat.le_of_ble_eq_true rfl, Nat.le_of_ble_eq_true rfl⟩ ?_
      obtain ⟨⟨r38, M39⟩, hz40, h⟩ := bd_some h
      dsimp only at h
      refine v_callSi (As := [.int r34]) (rest := []) F (c_X9_isLetter l F.2.2.1  hz40) (cwS 1 F.1.2.2.2.2 (gU_S ml_X9_51 st_yX9_isLetter ini_X9 cd_X9_isLetter) rfl rfl rfl (by decide +kernel) ⟨Nat.le_of_ble_eq_true rfl, Nat.le_of_ble_eq_true rfl⟩) rfl rfl (Nat.le_of_ble_eq_true rfl) dX9_scanOne_105 ⟨Nat.le_of_ble_eq_true rfl, Nat.le_of_ble_eq_true rfl⟩ ?_
      refine v_if_eq (tgt := 117) F dX9_scanOne_108 (by decide) (fun hc42 => ?_) (fun hc42 => ?_)
      · rw [if_pos hc42] at h
        exact w_X9_scanOne_b117 F hr hlk t0 t1 _ _ _ h
      · rw [if_neg hc42] at h
        refine v_iinc (v := x6 + 1) (lv' := [(6, .int (x6 + 1)), (0, .ref (gAd g a0)), (1, .ref (gAd g a1)), (2, .int i2), (3, .int i3), (5, .int x5)]) F dX9_scanOne_111 (q := 5) rfl rfl (by decide) rfl ?_
        refine v_goto (tgt := 93) F dX9_scanOne_114 (by decide) ?_
        refine v_sub (fun ls h9 => lv_sub h9 [1, 2, 3, 4, 5, 0] rfl) ?_
        exact ih _ _ _ h
set_option maxHeartbeats 4000000 in
set_option maxRecDepth 100000 in
theorem c_X9_scanOne {g : gT} (l : Launch) (hok : gOK g)  {a0 : Nat} {a1 : Nat} {i2 : Int32} {i3 : Int32} {M : Mem} {z : Int32 × Mem}  (t0 : Ty g 9 a0) (t1 : Ty g 8 a1) (h : f_X9_scanOne  M a0 a1 i2 i3 = some z) : Cn g l yX9_scanOne uX9_scanOne 6 [.ref (gAd g a0), .ref (gAd g a1), .int i2, .int i3] M (some (.int z.1)) z.2 := by
  refine Cn.of (cc := cX9_scanOne) (maxL := 7) (ret := (some .int)) hok (by decide) rfl (Nat.le_of_ble_eq_true rfl) (fun p e s m args below meth c F hr hlk => ?_)
  unfold f_X9_scanOne at h
  show V g p l e ({ frames := 6, cells := 0, slots := 0, locals := 40 * 6 } : Room) s m args below meth c 7 0 0 (MQ below (gQ g (some (.int z.1)) z.2) args s 0 0 (gA g)) 0 [(0, .ref (gAd g a0)), (1, .ref (gAd g a1)), (2, .int i2), (3, .int i3)] [] M
  refine v_aload_n F dX9_scanOne_0 rfl 1 rfl ?_
  refine v_iload_n F dX9_scanOne_1 rfl 2 rfl ?_
  obtain ⟨⟨r1, M2⟩, hz3, h⟩ := bd_some h
  dsimp only at h
  refine v_callVi (As := [.int i2]) (rest := []) F (c_X8_at l F.2.2.1 t1 hz3) (cwV 1 F.1.2.2.2.2 (gU_V ml_X9_25 im_yX8_at se_yX8_at ini_X8 cd_X8_at) rfl rfl rfl (by decide +kernel) ⟨Nat.le_of_ble_eq_true rfl, Nat.le_of_ble_eq_true rfl⟩) t1 (by decide) rfl rfl rfl (Nat.le_of_ble_eq_true rfl) dX9_scanOne_2 ⟨Nat.le_of_ble_eq_true rfl, Nat.le_of_ble_eq_true rfl⟩ ?_
  refine v_istore (lv' := [(4, .int r1), (0, .ref (gAd g a0)), (1, .ref (gAd g a1)), (2, .int i2), (3, .int i3)]) F dX9_scanOne_5 (by decide) rfl ?_
  refine v_iconst (v := 0) F dX9_scanOne_7 (by decide) ?_
  refine v_istore (lv' := [(5, .int 0), (4, .int r1), (0, .ref (gAd g a0)), (1, .ref (gAd g a1)), (2, .int i2), (3, .int i3)]) F dX9_scanOne_8 (by decide) rfl ?_
  refine v_iload_n F dX9_scanOne_10 rfl 4 rfl ?_
  refine v_iconst (v := 1) F dX9_scanOne_11 (by decide) ?_
  refine v_iadd F dX9_scanOne_12 ?_
  refine v_istore (lv' := [(6, .int (i2 + 1)), (5, .int 0), (4, .int r1), (0, .ref (gAd g a0)), (1, .ref (gAd g a1)), (2, .int i2), (3, .int i3)]) F dX9_scanOne_13 (by decide) rfl ?_
  refine v_iload F dX9_scanOne_15 2 rfl ?_
  obtain ⟨⟨r5, M6⟩, hz7, h⟩ := bd_some h
  dsimp only at h
  refine v_callSi (As := [.int r1]) (rest := []) F (c_X9_isDigit l F.2.2.1  hz7) (cwS 1 F.1.2.2.2.2 (gU_S ml_X9_39 st_yX9_isDigit ini_X9 cd_X9_isDigit) rfl rfl rfl (by decide +kernel) ⟨Nat.le_of_ble_eq_true rfl, Nat.le_of_ble_eq_true rfl⟩) rfl rfl (Nat.le_of_ble_eq_true rfl) dX9_scanOne_17 ⟨Nat.le_of_ble_eq_true rfl, Nat.le_of_ble_eq_true rfl⟩ ?_
  refine v_if_eq (tgt := 85) F dX9_scanOne_20 (by decide) (fun hc9 => ?_) (fun hc9 => ?_)
  · rw [if_pos hc9] at h
    refine v_iload F dX9_scanOne_85 2 rfl ?_
    obtain ⟨⟨r10, M11⟩, hz12, h⟩ := bd_some h
    dsimp only at h
    refine v_callSi (As := [.int r1]) (rest := []) F (c_X9_isLetter l F.2.2.1  hz12) (cwS 1 F.1.2.2.2.2 (gU_S ml_X9_51 st_yX9_isLetter ini_X9 cd_X9_isLetter) rfl rfl rfl (by decide +kernel) ⟨Nat.le_of_ble_eq_true rfl, Nat.le_of_ble_eq_true rfl⟩) rfl rfl (Nat.le_of_ble_eq_true rfl) dX9_scanOne_87 ⟨Nat.le_of_ble_eq_true rfl, Nat.le_of_ble_eq_true rfl⟩ ?_
    refine v_if_eq (tgt := 126) F dX9_scanOne_90 (by decide) (fun hc14 => ?_) (fun hc14 => ?_)
    · rw [if_pos hc14] at h
      refine v_sub (fun ls h9 => lv_sub h9 [3, 4, 5, 6, 2, 1, 0] rfl) ?_
      exact w_X9_scanOne_b126 F hr hlk t0 t1 _ _ _ _ h
    · rw [if_neg hc14] at h
      refine v_sub (fun ls h9 => lv_sub h9 [3, 4, 5, 6, 1, 0] rfl) ?_
      exact w_X9_scanOne_h93 F hr hlk t0 t1 _ _ _ _ h
  · rw [if_neg hc9] at h
    refine v_iload F dX9_scanOne_23 2 rfl ?_
    refine v_bipush (v := 48) F dX9_scanOne_25 (by decide) ?_
    refine v_isub F dX9_scanOne_27 ?_
    refine v_istore (lv' := [(5, .int (r1 - 48)), (6, .int (i2 + 1)), (4, .int r1), (0, .ref (gAd g a0)), (1, .ref (gAd g a1)), (2, .int i2), (3, .int i3)]) F dX9_scanOne_28 (by decide) rfl ?_
    refine v_sub (fun ls h9 => lv_sub h9 [3, 4, 5, 6, 0, 1] rfl) ?_
    exact w_X9_scanOne_h30 F hr hlk t0 t1 _ _ _ _ h
def f_X9_scan_b47 (a0 : Nat) (a1 : Nat) (i2 : Int32) (k10 : Int32 → Int32 → Mem → Option (Int32 × Mem)) (x3 : Int32) (x4 : Int32) (M : Mem) : Option (Int32 × Mem) := k10 x3 (x4 + 1) M
def f_X9_scan_b53 (a0 : Nat) (a1 : Nat) (i2 : Int32)   (M : Mem) : Option (Int32 × Mem) := (f_X9_add M a0 401 i2 0).bind fun q => match q with | (r12, M13) => (some (0, M13))
def f_X9_scan_h10 (a0 : Nat) (a1 : Nat) (i2 : Int32)  : Nat → Int32 → Int32 → Mem → Option (Int32 × Mem)
  | 0, _, _, _ => none
  | n + 1, x3, x4, M => if 300 ≤ x4 then (f_X9_scan_b53 a0 a1 i2 M) else (if i2 ≤ x3 then (f_X9_scan_b53 a0 a1 i2 M) else ((f_X8_at M a1 x3).bind fun q => match q with | (r3, M4) => (if r3 = 32 then (f_X9_scan_b47 a0 a1 i2 (f_X9_scan_h10 a0 a1 i2 n) (x3 + 1) x4 M4) else ((f_X9_scanOne M4 a0 a1 x3 i2).bind fun q => match q with | (r8, M9) => (f_X9_scan_b47 a0 a1 i2 (f_X9_scan_h10 a0 a1 i2 n) r8 x4 M9)))))
def f_X9_scan  (M : Mem) (a0 : Nat) (a1 : Nat) (i2 : Int32) : Option (Int32 × Mem) := f_X9_scan_h10 a0 a1 i2 FU 0 0 (mU M a0 3 0)
set_option maxHeartbeats 4000000 in
set_option maxRecDepth 100000 in
theorem w_X9_scan_b47 {g : gT} {p : Program} {l : Launch} {e : Env} {s : State} {m : MethodId} {args : Array Value} {below : List Frame} {meth : Method} {c : Code} {z : Int32 × Mem} (F : Fx g p s m args c cX9_scan 5 uX9_scan RX9) (hr : meth.sig.returnType = none) (hlk : meth.locks = false)  {a0 : Nat} {a1 : Nat} {i2 : Int32} (t0 : Ty g 9 a0) (t1 : Ty g 8 a1) {k10 : Int32 → Int32 → Mem → Option (Int32 × Mem)} (hk10 : ∀ (x3 : Int32) (x4 : Int32) (M : Mem), k10 x3 x4 M = some z → V g p l e ({ frames := 7, cells := 0, slots := 0, locals := 40 * 7 } : Room) s m args below meth c 5 0 0 (MQ below (gQ g none z.2) args s 0 0 (gA g)) 10 [(0, .ref (gAd g a0)), (1, .ref (gAd g a1)), (2, .int i2), (3, .int x3), (4, .int x4)] [] M) (x3 : Int32) (x4 : Int32) (M : Mem)  (h : f_X9_scan_b47 a0 a1 i2 k10 x3 x4 M = some z) : V g p l e ({ frames := 7, cells := 0, slots := 0, locals := 40 * 7 } : Room) s m args below meth c 5 0 0 (MQ below (gQ g none z.2) args s 0 0 (gA g)) 47 [(0, .ref (gAd g a0)), (1, .ref (gAd g a1)), (2, .int i2), (3, .int x3), (4, .int x4)] [] M := by
  unfold f_X9_scan_b47 at h
  refine v_iinc (v := x4 + 1) (lv' := [(4, .int (x4 + 1)), (0, .ref (gAd g a0)), (1, .ref (gAd g a1)), (2, .int i2), (3, .int x3)]) F dX9_scan_47 (q := 4) rfl rfl (by decide) rfl ?_
  refine v_goto (tgt := 10) F dX9_scan_50 (by decide) ?_
  refine v_sub (fun ls h9 => lv_sub h9 [1, 2, 3, 4, 0] rfl) ?_
  exact hk10 _ _ _ h
set_option maxHeartbeats 4000000 in
set_option maxRecDepth 100000 in
theorem w_X9_scan_b53 {g : gT} {p : Program} {l : Launch} {e : Env} {s : State} {m : MethodId} {args : Array Value} {below : List Frame} {meth : Method} {c : Code} {z : Int32 × Mem} (F : Fx g p s m args c cX9_scan 5 uX9_scan RX9) (hr : meth.sig.returnType = none) (hlk : meth.locks = false)  {a0 : Nat} {a1 : Nat} {i2 : Int32} (t0 : Ty g 9 a0) (t1 : Ty g 8 a1)    (M : Mem)  (h : f_X9_scan_b53 a0 a1 i2 M = some z) : V g p l e ({ frames := 7, cells := 0, slots := 0, locals := 40 * 7 } : Room) s m args below meth c 5 0 0 (MQ below (gQ g none z.2) args s 0 0 (gA g)) 53 [(0, .ref (gAd g a0)), (1, .ref (gAd g a1)), (2, .int i2)] [] M := by
  unfold f_X9_scan_b53 at h
  refine v_aload_n F dX9_scan_53 rfl 0 rfl ?_
  refine v_sipush (v := 401) F dX9_scan_54 (by decide) ?_
  refine v_iload_n F dX9_scan_57 rfl 2 rfl ?_
  refine v_iconst (v := 0) F dX9_scan_58 (by decide) ?_
  obtain ⟨⟨r12, M13⟩, hz14, h⟩ := bd_some h
  dsimp only at h
  refine v_callVv (As := [.int 401, .int i2, .int 0]) (rest := []) F (c_X9_add l F.2.2.1 t0 hz14) (cwV 3 F.1.2.2.2.2 (gU_V ml_X9_35 im_yX9_add se_yX9_add ini_X9 cd_X9_add) rfl rfl rfl (by decide +kernel) ⟨Nat.le_of_ble_eq_true rfl, Nat.le_of_ble_eq_true rfl⟩) t0 (by decide) rfl rfl rfl (Nat.le_of_ble_eq_true rfl) dX9_scan_59 ⟨Nat.le_of_ble_eq_true rfl, Nat.le_of_ble_eq_true rfl⟩ ?_
  cases h
  exact v_vret F hr hlk dX9_scan_62
set_option maxHeartbeats 4000000 in
set_option maxRecDepth 100000 in
theorem w_X9_scan_h10 {g : gT} {p : Program} {l : Launch} {e : Env} {s : State} {m : MethodId} {args : Array Value} {below : List Frame} {meth : Method} {c : Code} {z : Int32 × Mem} (F : Fx g p s m args c cX9_scan 5 uX9_scan RX9) (hr : meth.sig.returnType = none) (hlk : meth.locks = false)  {a0 : Nat} {a1 : Nat} {i2 : Int32} (t0 : Ty g 9 a0) (t1 : Ty g 8 a1)   : ∀ (n : Nat) (x3 : Int32) (x4 : Int32) (M : Mem), f_X9_scan_h10 a0 a1 i2 n x3 x4 M = some z → V g p l e ({ frames := 7, cells := 0, slots := 0, locals := 40 * 7 } : Room) s m args below meth c 5 0 0 (MQ below (gQ g none z.2) args s 0 0 (gA g)) 10 [(0, .ref (gAd g a0)), (1, .ref (gAd g a1)), (2, .int i2), (3, .int x3), (4, .int x4)] [] M := by
  intro n
  induction n with
  | zero => intro x3 x4 M; intros; rename_i h; cases h
  | succ n ih =>
    intro x3 x4 M h
    rw [f_X9_scan_h10] at h
    refine v_iload F dX9_scan_10 4 rfl ?_
    refine v_sipush (v := 300) F dX9_scan_12 (by decide) ?_
    refine v_icmp_ge (tgt := 53) F dX9_scan_15 (by decide) (fun hc1 => ?_) (fun hc1 => ?_)
    · rw [if_pos hc1] at h
      refine v_sub (fun ls h9 => lv_sub h9 [0, 1, 2] rfl) ?_
      exact w_X9_scan_b53 F hr hlk t0 t1 _ h
    · rw [if_neg hc1] at h
      refine v_iload_n F dX9_scan_18 rfl 3 rfl ?_
      refine v_iload_n F dX9_scan_19 rfl 2 rfl ?_
      refine v_icmp_ge (tgt := 53) F dX9_scan_20 (by decide) (fun hc2 => ?_) (fun hc2 => ?_)
      · rw [if_pos hc2] at h
        refine v_sub (fun ls h9 => lv_sub h9 [0, 1, 2] rfl) ?_
        exact w_X9_scan_b53 F hr hlk t0 t1 _ h
      · rw [if_neg hc2] at h
        refine v_aload_n F dX9_scan_23 rfl 1 rfl ?_
        refine v_iload_n F dX9_scan_24 rfl 3 rfl ?_
        obtain ⟨⟨r3, M4⟩, hz5, h⟩ := bd_some h
        dsimp only at h
        refine v_callVi (As := [.int x3]) (rest := []) F (c_X8_at l F.2.2.1 t1 hz5) (cwV 1 F.1.2.2.2.2 (gU_V ml_X9_25 im_yX8_at se_yX8_at ini_X8 cd_X8_at) rfl rfl rfl (by decide +kernel) ⟨Nat.le_of_ble_eq_true rfl, Nat.le_of_ble_eq_true rfl⟩) t1 (by decide) rfl rfl rfl (Nat.le_of_ble_eq_true rfl) dX9_scan_25 ⟨Nat.le_of_ble_eq_true rfl, Nat.le_of_ble_eq_true rfl⟩ ?_
        refine v_bipush (v := 32) F dX9_scan_28 (by decide) ?_
        refine v_icmp_ne (tgt := 39) F dX9_scan_30 (by decide) (fun hc7 => ?_) (fun hc7 => ?_)
        · rw [if_neg hc7] at h
          refine v_aload_n F dX9_scan_39 rfl 0 rfl ?_
          refine v_aload_n F dX9_scan_40 rfl 1 rfl ?_
          refine v_iload_n F dX9_scan_41 rfl 3 rfl ?_
          refine v_iload_n F dX9_scan_42 rfl 2 rfl ?_
          obtain ⟨⟨r8, M9⟩, hz10, h⟩ := bd_some h
          dsimp only at h
          refine v_callVi (As := [.ref (gAd g a1), .int x3, .int i2]) (rest := []) F (c_X9_scanOne l F.2.2.1 t0 t1 hz10) (cwV 3 F.1.2.2.2.2 (gU_V ml_X9_31 im_yX9_scanOne se_yX9_scanOne ini_X9 cd_X9_scanOne) rfl rfl rfl (by decide +kernel) ⟨Nat.le_of_ble_eq_true rfl, Nat.le_of_ble_eq_true rfl⟩) t0 (by decide) rfl rfl rfl (Nat.le_of_ble_eq_true rfl) dX9_scan_43 ⟨Nat.le_of_ble_eq_true rfl, Nat.le_of_ble_eq_true rfl⟩ ?_
          refine v_istore_n (lv' := [(3, .int r8), (0, .ref (gAd g a0)), (1, .ref (gAd g a1)), (2, .int i2), (4, .int x4)]) F dX9_scan_46 rfl (by decide) rfl ?_
          refine v_sub (fun ls h9 => lv_sub h9 [1, 2, 3, 0, 4] rfl) ?_
          exact w_X9_scan_b47 F hr hlk t0 t1 ih _ _ _ h
        · rw [if_pos hc7] at h
          refine v_iinc (v := x3 + 1) (lv' := [(3, .int (x3 + 1)), (0, .ref (gAd g a0)), (1, .ref (gAd g a1)), (2, .int i2), (4, .int x4)]) F dX9_scan_33 (q := 3) rfl rfl (by decide) rfl ?_
          refine v_goto (tgt := 47) F dX9_scan_36 (by decide) ?_
          refine v_sub (fun ls h9 => lv_sub h9 [1, 2, 3, 0, 4] rfl) ?_
          exact w_X9_scan_b47 F hr hlk t0 t1 ih _ _ _ h
set_option maxHeartbeats 4000000 in
set_option maxRecDepth 100000 in
theorem c_X9_scan {g : gT} (l : Launch) (hok : gOK g)  {a0 : Nat} {a1 : Nat} {i2 : Int32} {M : Mem} {z : Int32 × Mem}  (t0 : Ty g 9 a0) (t1 : Ty g 8 a1) (h : f_X9_scan  M a0 a1 i2 = some z) : Cn g l yX9_scan uX9_scan 7 [.ref (gAd g a0), .ref (gAd g a1), .int i2] M none z.2 := by
  refine Cn.of (cc := cX9_scan) (maxL := 5) (ret := none) hok (by decide) rfl (Nat.le_of_ble_eq_true rfl) (fun p e s m args below meth c F hr hlk => ?_)
  unfold f_X9_scan at h
  show V g p l e ({ frames := 7, cells := 0, slots := 0, locals := 40 * 7 } : Room) s m args below meth c 5 0 0 (MQ below (gQ g none z.2) args s 0 0 (gA g)) 0 [(0, .ref (gAd g a0)), (1, .ref (gAd g a1)), (2, .int i2)] [] M
  refine v_aload_n F dX9_scan_0 rfl 0 rfl ?_
  refine v_iconst (v := 0) F dX9_scan_1 (by decide) ?_
  refine v_put (k := 3) (ty := .int) F t0 (by decide) (inc inU_9) tyX9 tyX9_ok nmX9 rfl rfl (by decide) (List.mem_cons_of_mem _ fl_X9_21) rfl rfl (by decide +kernel) rfl rfl dX9_scan_2 ?_
  refine v_iconst (v := 0) F dX9_scan_5 (by decide) ?_
  refine v_istore_n (lv' := [(3, .int 0), (0, .ref (gAd g a0)), (1, .ref (gAd g a1)), (2, .int i2)]) F dX9_scan_6 rfl (by decide) rfl ?_
  refine v_iconst (v := 0) F dX9_scan_7 (by decide) ?_
  refine v_istore (lv' := [(4, .int 0), (3, .int 0), (0, .ref (gAd g a0)), (1, .ref (gAd g a1)), (2, .int i2)]) F dX9_scan_8 (by decide) rfl ?_
  refine v_sub (fun ls h9 => lv_sub h9 [2, 3, 4, 1, 0] rfl) ?_
  exact w_X9_scan_h10 F hr hlk t0 t1 _ _ _ _ h
def f_X6_read_b152 (a0 : Nat) (a1 : Nat) (i2 : Int32) (k35 : Int32 → Mem → Option (Int32 × Mem)) (x3 : Int32) (M : Mem) : Option (Int32 × Mem) := k35 (x3 + 1) M
def f_X6_read_b140 (a0 : Nat) (a1 : Nat) (i2 : Int32) (k35 : Int32 → Mem → Option (Int32 × Mem)) (x3 : Int32) (x4 : Int32) (M : Mem) : Option (Int32 × Mem) := (f_X6_expect M a0 59).bind fun q => match q with | (r45, M46) => ((f_X6_emit M46 a0 x4).bind fun q => match q with | (r49, M50) => (f_X6_read_b152 a0 a1 i2 k35 x3 M50))
def f_X6_read_b91 (a0 : Nat) (a1 : Nat) (i2 : Int32) (k35 : Int32 → Mem → Option (Int32 × Mem)) (x3 : Int32) (x4 : Int32) (M : Mem) : Option (Int32 × Mem) := if x3 = 12 then ((f_X6_fail M a0 3).bind fun q => match q with | (r41, M42) => (f_X6_read_b152 a0 a1 i2 k35 x3 M42)) else ((f_X6_step M a0).bind fun q => match q with | (r20, M21) => ((S_X6_sum DP M21 a0 0).bind fun q => match q with | (r24, M25) => (if (M25 a0 6) = 311 then ((f_X6_step M25 a0).bind fun q => match q with | (r29, M30) => ((S_X6_condition DP M30 a0 0).bind fun q => match q with | (r33, M34) => ((f_X6_emit M34 a0 311).bind fun q => match q with | (r37, M38) => (f_X6_read_b140 a0 a1 i2 k35 x3 x4 M38)))) else (f_X6_read_b140 a0 a1 i2 k35 x3 x4 M25))))
def f_X6_read_h35 (a0 : Nat) (a1 : Nat) (i2 : Int32)  : Nat → Int32 → Mem → Option (Int32 × Mem)
  | 0, _, _ => none
  | n + 1, x3, M => if 12 < x3 then (some (0, M)) else (if (M a0 6) = 401 then (some (0, M)) else (if (M a0 6) = 402 then (some (0, M)) else (if (M a0 6) = 309 then (f_X6_read_b91 a0 a1 i2 (f_X6_read_h35 a0 a1 i2 n) x3 (M a0 6) M) else (if (M a0 6) = 310 then (f_X6_read_b91 a0 a1 i2 (f_X6_read_h35 a0 a1 i2 n) x3 (M a0 6) M) else ((f_X6_fail M a0 1).bind fun q => match q with | (r15, M16) => (f_X6_read_b152 a0 a1 i2 (f_X6_read_h35 a0 a1 i2 n) x3 M16))))))
def f_X6_read  (M : Mem) (a0 : Nat) (a1 : Nat) (i2 : Int32) : Option (Int32 × Mem) := (f_X9_scan M (gRf a0 4) a1 i2).bind fun q => match q with | (r2, M3) => ((f_X6_step (mU (mU (mU (mU M3 a0 1 0) a0 2 0) a0 3 (-1)) a0 5 (-1)) a0).bind fun q => match q with | (r6, M7) => (f_X6_read_h35 a0 a1 i2 FU 0 M7))
set_option maxHeartbeats 4000000 in
set_option maxRecDepth 100000 in
theorem w_X6_read_b152 {g : gT} {p : Program} {l : Launch} {e : Env} {s : State} {m : MethodId} {args : Array Value} {below : List Frame} {meth : Method} {c : Code} {z : Int32 × Mem} (F : Fx g p s m args c cX6_read 5 uX6_read RX6) (hr : meth.sig.returnType = none) (hlk : meth.locks = false)  {a0 : Nat} {a1 : Nat} {i2 : Int32} (t0 : Ty g 6 a0) (t1 : Ty g 8 a1) {k35 : Int32 → Mem → Option (Int32 × Mem)} (hk35 : ∀ (x3 : Int32) (M : Mem), k35 x3 M = some z → V g p l e ({ frames := 86, cells := 0, slots := 0, locals := 40 * 86 } : Room) s m args below meth c 5 0 0 (MQ below (gQ g none z.2) args s 0 0 (gA g)) 35 [(0, .ref (gAd g a0)), (1, .ref (gAd g a1)), (2, .int i2), (3, .int x3)] [] M) (x3 : Int32) (M : Mem)  (h : f_X6_read_b152 a0 a1 i2 k35 x3 M = some z) : V g p l e ({ frames := 86, cells := 0, slots := 0, locals := 40 * 86 } : Room) s m args below meth c 5 0 0 (MQ below (gQ g none z.2) args s 0 0 (gA g)) 152 [(0, .ref (gAd g a0)), (1, .ref (gAd g a1)), (2, .int i2), (3, .int x3)] [] M := by
  unfold f_X6_read_b152 at h
  refine v_iinc (v := x3 + 1) (lv' := [(3, .int (x3 + 1)), (0, .ref (gAd g a0)), (1, .ref (gAd g a1)), (2, .int i2)]) F dX6_read_152 (q := 3) rfl rfl (by decide) rfl ?_
  refine v_goto (tgt := 35) F dX6_read_155 (by decide) ?_
  refine v_sub (fun ls h9 => lv_sub h9 [1, 2, 3, 0] rfl) ?_
  exact hk35 _ _ h
set_option maxHeartbeats 4000000 in
set_option maxRecDepth 100000 in
theorem w_X6_read_b140 {g : gT} {p : Program} {l : Launch} {e : Env} {s : State} {m : MethodId} {args : Array Value} {below : List Frame} {meth : Method} {c : Code} {z : Int32 × Mem} (F : Fx g p s m args c cX6_read 5 uX6_read RX6) (hr : meth.sig.returnType = none) (hlk : meth.locks = false)  {a0 : Nat} {a1 : Nat} {i2 : Int32} (t0 : Ty g 6 a0) (t1 : Ty g 8 a1) {k35 : Int32 → Mem → Option (Int32 × Mem)} (hk35 : ∀ (x3 : Int32) (M : Mem), k35 x3 M = some z → V g p l e ({ frames := 86, cells := 0, slots := 0, locals := 40 * 86 } : Room) s m args below meth c 5 0 0 (MQ below (gQ g none z.2) args s 0 0 (gA g)) 35 [(0, .ref (gAd g a0)), (1, .ref (gAd g a1)), (2, .int i2), (3, .int x3)] [] M) (x3 : Int32) (x4 : Int32) (M : Mem)  (h : f_X6_read_b140 a0 a1 i2 k35 x3 x4 M = some z) : V g p l e ({ frames := 86, cells := 0, slots := 0, locals := 40 * 86 } : Room) s m args below meth c 5 0 0 (MQ below (gQ g none z.2) args s 0 0 (gA g)) 140 [(0, .ref (gAd g a0)), (1, .ref (gAd g a1)), (2, .int i2), (3, .int x3), (4, .int x4)] [] M := by
  unfold f_X6_read_b140 at h
  refine v_aload_n F dX6_read_140 rfl 0 rfl ?_
  refine v_bipush (v := 59) F dX6_read_141 (by decide) ?_
  obtain ⟨⟨r45, M46⟩, hz47, h⟩ := bd_some h
  dsimp only at h
  refine v_callVv (As := [.int 59]) (rest := []) F (c_X6_expect l F.2.2.1 t0 hz47) (cwV 1 F.1.2.2.2.2 (gU_V ml_X6_62 im_yX6_expect se_yX6_expect ini_X6 cd_X6_expect) rfl rfl rfl (by decide +kernel) ⟨Nat.le_of_ble_eq_true rfl, Nat.le_of_ble_eq_true rfl⟩) t0 (by decide) rfl rfl rfl (Nat.le_of_ble_eq_true rfl) dX6_read_143 ⟨Nat.le_of_ble_eq_true rfl, Nat.le_of_ble_eq_true rfl⟩ ?_
  refine v_aload_n F dX6_read_146 rfl 0 rfl ?_
  refine v_iload F dX6_read_147 4 rfl ?_
  obtain ⟨⟨r49, M50⟩, hz51, h⟩ := bd_some h
  dsimp only at h
  refine v_callVv (As := [.int x4]) (rest := []) F (c_X6_emit l F.2.2.1 t0 hz51) (cwV 1 F.1.2.2.2.2 (gU_V ml_X6_59 im_yX6_emit se_yX6_emit ini_X6 cd_X6_emit) rfl rfl rfl (by decide +kernel) ⟨Nat.le_of_ble_eq_true rfl, Nat.le_of_ble_eq_true rfl⟩) t0 (by decide) rfl rfl rfl (Nat.le_of_ble_eq_true rfl) dX6_read_149 ⟨Nat.le_of_ble_eq_true rfl, Nat.le_of_ble_eq_true rfl⟩ ?_
  refine v_sub (fun ls h9 => lv_sub h9 [0, 1, 2, 3] rfl) ?_
  exact w_X6_read_b152 F hr hlk t0 t1 hk35 _ _ h
set_option maxHeartbeats 4000000 in
set_option maxRecDepth 100000 in
theorem w_X6_read_b91 {g : gT} {p : Program} {l : Launch} {e : Env} {s : State} {m : MethodId} {args : Array Value} {below : List Frame} {meth : Method} {c : Code} {z : Int32 × Mem} (F : Fx g p s m args c cX6_read 5 uX6_read RX6) (hr : meth.sig.returnType = none) (hlk : meth.locks = false)  {a0 : Nat} {a1 : Nat} {i2 : Int32} (t0 : Ty g 6 a0) (t1 : Ty g 8 a1) {k35 : Int32 → Mem → Option (Int32 × Mem)} (hk35 : ∀ (x3 : Int32) (M : Mem), k35 x3 M = some z → V g p l e ({ frames := 86, cells := 0, slots := 0, locals := 40 * 86 } : Room) s m args below meth c 5 0 0 (MQ below (gQ g none z.2) args s 0 0 (gA g)) 35 [(0, .ref (gAd g a0)), (1, .ref (gAd g a1)), (2, .int i2), (3, .int x3)] [] M) (x3 : Int32) (x4 : Int32) (M : Mem)  (h : f_X6_read_b91 a0 a1 i2 k35 x3 x4 M = some z) : V g p l e ({ frames := 86, cells := 0, slots := 0, locals := 40 * 86 } : Room) s m args below meth c 5 0 0 (MQ below (gQ g none z.2) args s 0 0 (gA g)) 91 [(0, .ref (gAd g a0)), (1, .ref (gAd g a1)), (2, .int i2), (3, .int x3), (4, .int x4)] [] M := by
  unfold f_X6_read_b91 at h
  refine v_iload_n F dX6_read_91 rfl 3 rfl ?_
  refine v_bipush (v := 12) F dX6_read_92 (by decide) ?_
  refine v_icmp_ne (tgt := 105) F dX6_read_94 (by decide) (fun hc19 => ?_) (fun hc19 => ?_)
  · rw [if_neg hc19] at h
    refine v_aload_n F dX6_read_105 rfl 0 rfl ?_
    obtain ⟨⟨r20, M21⟩, hz22, h⟩ := bd_some h
    dsimp only at h
    refine v_callVv (As := []) (rest := []) F (c_X6_step l F.2.2.1 t0 hz22) (cwV 0 F.1.2.2.2.2 (gU_V ml_X6_44 im_yX6_step se_yX6_step ini_X6 cd_X6_step) rfl rfl rfl (by decide +kernel) ⟨Nat.le_of_ble_eq_true rfl, Nat.le_of_ble_eq_true rfl⟩) t0 (by decide) rfl rfl rfl (Nat.le_of_ble_eq_true rfl) dX6_read_106 ⟨Nat.le_of_ble_eq_true rfl, Nat.le_of_ble_eq_true rfl⟩ ?_
    refine v_aload_n F dX6_read_109 rfl 0 rfl ?_
    refine v_iconst (v := 0) F dX6_read_110 (by decide) ?_
    obtain ⟨⟨r24, M25⟩, hz26, h⟩ := bd_some h
    dsimp only at h
    refine v_callVv (As := [.int 0]) (rest := []) F (cS_X6_sum l F.2.2.1 DP _ _ _ _ t0 hz26) (cwV 1 F.1.2.2.2.2 (gU_V ml_X6_53 im_yX6_sum se_yX6_sum ini_X6 cd_X6_sum) rfl rfl rfl (by decide +kernel) ⟨Nat.le_of_ble_eq_true rfl, Nat.le_of_ble_eq_true rfl⟩) t0 (by decide) rfl rfl rfl (Nat.le_of_ble_eq_true rfl) dX6_read_111 ⟨Nat.le_of_ble_eq_true rfl, Nat.le_of_ble_eq_true rfl⟩ ?_
    refine v_aload_n F dX6_read_114 rfl 0 rfl ?_
    refine v_getI (k := 6) F t0 (by decide) (inc inU_6) rfl rfl (by decide) (List.mem_cons_of_mem _ fl_X6_47) rfl dX6_read_115 ?_
    refine v_sipush (v := 311) F dX6_read_118 (by decide) ?_
    refine v_icmp_ne (tgt := 140) F dX6_read_121 (by decide) (fun hc28 => ?_) (fun hc28 => ?_)
    · rw [if_neg hc28] at h
      exact w_X6_read_b140 F hr hlk t0 t1 hk35 _ _ _ h
    · rw [if_pos hc28] at h
      refine v_aload_n F dX6_read_124 rfl 0 rfl ?_
      obtain ⟨⟨r29, M30⟩, hz31, h⟩ := bd_some h
      dsimp only at h
      refine v_callVv (As := []) (rest := []) F (c_X6_step l F.2.2.1 t0 hz31) (cwV 0 F.1.2.2.2.2 (gU_V ml_X6_44 im_yX6_step se_yX6_step ini_X6 cd_X6_step) rfl rfl rfl (by decide +kernel) ⟨Nat.le_of_ble_eq_true rfl, Nat.le_of_ble_eq_true rfl⟩) t0 (by decide) rfl rfl rfl (Nat.le_of_ble_eq_true rfl) dX6_read_125 ⟨Nat.le_of_ble_eq_true rfl, Nat.le_of_ble_eq_true rfl⟩ ?_
      refine v_aload_n F dX6_read_128 rfl 0 rfl ?_
      refine v_iconst (v := 0) F dX6_read_129 (by decide) ?_
      obtain ⟨⟨r33, M34⟩, hz35, h⟩ := bd_some h
      dsimp only at h
      refine v_callVv (As := [.int 0]) (rest := []) F (cS_X6_condition l F.2.2.1 DP _ _ _ _ t0 hz35) (cwV 1 F.1.2.2.2.2 (gU_V ml_X6_56 im_yX6_condition se_yX6_condition ini_X6 cd_X6_condition) rfl rfl rfl (by decide +kernel) ⟨Nat.le_of_ble_eq_true rfl, Nat.le_of_ble_eq_true rfl⟩) t0 (by decide) rfl rfl rfl (Nat.le_of_ble_eq_true rfl) dX6_read_130 ⟨Nat.le_of_ble_eq_true rfl, Nat.le_of_ble_eq_true rfl⟩ ?_
      refine v_aload_n F dX6_read_133 rfl 0 rfl ?_
      refine v_sipush (v := 311) F dX6_read_134 (by decide) ?_
      obtain ⟨⟨r37, M38⟩, hz39, h⟩ := bd_some h
      dsimp only at h
      refine v_callVv (As := [.int 311]) (rest := []) F (c_X6_emit l F.2.2.1 t0 hz39) (cwV 1 F.1.2.2.2.2 (gU_V ml_X6_59 im_yX6_emit se_yX6_emit ini_X6 cd_X6_emit) rfl rfl rfl (by decide +kernel) ⟨Nat.le_of_ble_eq_true rfl, Nat.le_of_ble_eq_true rfl⟩) t0 (by decide) rfl rfl rfl (Nat.le_of_ble_eq_true rfl) dX6_read_137 ⟨Nat.le_of_ble_eq_true rfl, Nat.le_of_ble_eq_true rfl⟩ ?_
      exact w_X6_read_b140 F hr hlk t0 t1 hk35 _ _ _ h
  · rw [if_pos hc19] at h
    refine v_aload_n F dX6_read_97 rfl 0 rfl ?_
    refine v_iconst (v := 3) F dX6_read_98 (by decide) ?_
    obtain ⟨⟨r41, M42⟩, hz43, h⟩ := bd_some h
    dsimp only at h
    refine v_callVv (As := [.int 3]) (rest := []) F (c_X6_fail l F.2.2.1 t0 hz43) (cwV 1 F.1.2.2.2.2 (gU_V ml_X6_50 im_yX6_fail se_yX6_fail ini_X6 cd_X6_fail) rfl rfl rfl (by decide +kernel) ⟨Nat.le_of_ble_eq_true rfl, Nat.le_of_ble_eq_true rfl⟩) t0 (by decide) rfl rfl rfl (Nat.le_of_ble_eq_true rfl) dX6_read_99 ⟨Nat.le_of_ble_eq_true rfl, Nat.le_of_ble_eq_true rfl⟩ ?_
    refine v_goto (tgt := 152) F dX6_read_102 (by decide) ?_
    refine v_sub (fun ls h9 => lv_sub h9 [0, 1, 2, 3] rfl) ?_
    exact w_X6_read_b152 F hr hlk t0 t1 hk35 _ _ h
set_option maxHeartbeats 4000000 in
set_option maxRecDepth 100000 in
theorem w_X6_read_h35 {g : gT} {p : Program} {l : Launch} {e : Env} {s : State} {m : MethodId} {args : Array Value} {below : List Frame} {meth : Method} {c : Code} {z : Int32 × Mem} (F : Fx g p s m args c cX6_read 5 uX6_read RX6) (hr : meth.sig.returnType = none) (hlk : meth.locks = false)  {a0 : Nat} {a1 : Nat} {i2 : Int32} (t0 : Ty g 6 a0) (t1 : Ty g 8 a1)   : ∀ (n : Nat) (x3 : Int32) (M : Mem), f_X6_read_h35 a0 a1 i2 n x3 M = some z → V g p l e ({ frames := 86, cells := 0, slots := 0, locals := 40 * 86 } : Room) s m args below meth c 5 0 0 (MQ below (gQ g none z.2) args s 0 0 (gA g)) 35 [(0, .ref (gAd g a0)), (1, .ref (gAd g a1)), (2, .int i2), (3, .int x3)] [] M := by
  intro n
  induction n with
  | zero => intro x3 M; intros; rename_i h; cases h
  | succ n ih =>
    intro x3 M h
    rw [f_X6_read_h35] at h
    refine v_iload_n F dX6_read_35 rfl 3 rfl ?_
    refine v_bipush (v := 12) F dX6_read_36 (by decide) ?_
    refine v_icmp_gt (tgt := 158) F dX6_read_38 (by decide) (fun hc10 => ?_) (fun hc10 => ?_)
    · rw [if_pos hc10] at h
      cases h
      exact v_vret F hr hlk dX6_read_158
    · rw [if_neg hc10] at h
      refine v_aload_n F dX6_read_41 rfl 0 rfl ?_
      refine v_getI (k := 6) F t0 (by decide) (inc inU_6) rfl rfl (by decide) (List.mem_cons_of_mem _ fl_X6_47) rfl dX6_read_42 ?_
      refine v_sipush (v := 401) F dX6_read_45 (by decide) ?_
      refine v_icmp_eq (tgt := 158) F dX6_read_48 (by decide) (fun hc11 => ?_) (fun hc11 => ?_)
      · rw [if_pos hc11] at h
        cases h
        exact v_vret F hr hlk dX6_read_158
      · rw [if_neg hc11] at h
        refine v_aload_n F dX6_read_51 rfl 0 rfl ?_
        refine v_getI (k := 6) F t0 (by decide) (inc inU_6) rfl rfl (by decide) (List.mem_cons_of_mem _ fl_X6_47) rfl dX6_read_52 ?_
        refine v_sipush (v := 402) F dX6_read_55 (by decide) ?_
        refine v_icmp_eq (tgt := 158) F dX6_read_58 (by decide) (fun hc12 => ?_) (fun hc12 => ?_)
        · rw [if_pos hc12] at h
          cases h
          exact v_vret F hr hlk dX6_read_158
        · rw [if_neg hc12] at h
          refine v_aload_n F dX6_read_61 rfl 0 rfl ?_
          refine v_getI (k := 6) F t0 (by decide) (inc inU_6) rfl rfl (by decide) (List.mem_cons_of_mem _ fl_X6_47) rfl dX6_read_62 ?_
          refine v_istore (lv' := [(4, .int (M a0 6)), (0, .ref (gAd g a0)), (1, .ref (gAd g a1)), (2, .int i2), (3, .int x3)]) F dX6_read_65 (by decide) rfl ?_
          refine v_iload F dX6_read_67 0 rfl ?_
          refine v_sipush (v := 309) F dX6_read_69 (by decide) ?_
          refine v_icmp_eq (tgt := 91) F dX6_read_72 (by decide) (fun hc13 => ?_) (fun hc13 => ?_)
          · rw [if_pos hc13] at h
            refine v_sub (fun ls h9 => lv_sub h9 [1, 2, 3, 4, 0] rfl) ?_
            exact w_X6_read_b91 F hr hlk t0 t1 ih _ _ _ h
          · rw [if_neg hc13] at h
            refine v_iload F dX6_read_75 0 rfl ?_
            refine v_sipush (v := 310) F dX6_read_77 (by decide) ?_
            refine v_icmp_eq (tgt := 91) F dX6_read_80 (by decide) (fun hc14 => ?_) (fun hc14 => ?_)
            · rw [if_pos hc14] at h
              refine v_sub (fun ls h9 => lv_sub h9 [1, 2, 3, 4, 0] rfl) ?_
              exact w_X6_read_b91 F hr hlk t0 t1 ih _ _ _ h
            · rw [if_neg hc14] at h
              refine v_aload_n F dX6_read_83 rfl 1 rfl ?_
              refine v_iconst (v := 1) F dX6_read_84 (by decide) ?_
              obtain ⟨⟨r15, M16⟩, hz17, h⟩ := bd_some h
              dsimp only at h
              refine v_callVv (As := [.int 1]) (rest := []) F (c_X6_fail l F.2.2.1 t0 hz17) (cwV 1 F.1.2.2.2.2 (gU_V ml_X6_50 im_yX6_fail se_yX6_fail ini_X6 cd_X6_fail) rfl rfl rfl (by decide +kernel) ⟨Nat.le_of_ble_eq_true rfl, Nat.le_of_ble_eq_true rfl⟩) t0 (by decide) rfl rfl rfl (Nat.le_of_ble_eq_true rfl) dX6_read_85 ⟨Nat.le_of_ble_eq_true rfl, Nat.le_of_ble_eq_true rfl⟩ ?_
              refine v_goto (tgt := 152) F dX6_read_88 (by decide) ?_
              refine v_sub (fun ls h9 => lv_sub h9 [1, 2, 3, 4] rfl) ?_
              exact w_X6_read_b152 F hr hlk t0 t1 ih _ _ h
set_option maxHeartbeats 4000000 in
set_option maxRecDepth 100000 in
theorem c_X6_read {g : gT} (l : Launch) (hok : gOK g)  {a0 : Nat} {a1 : Nat} {i2 : Int32} {M : Mem} {z : Int32 × Mem}  (t0 : Ty g 6 a0) (t1 : Ty g 8 a1) (h : f_X6_read  M a0 a1 i2 = some z) : Cn g l yX6_read uX6_read 86 [.ref (gAd g a0), .ref (gAd g a1), .int i2] M none z.2 := by
  refine Cn.of (cc := cX6_read) (maxL := 5) (ret := none) hok (by decide) rfl (Nat.le_of_ble_eq_true rfl) (fun p e s m args below meth c F hr hlk => ?_)
  unfold f_X6_read at h
  show V g p l e ({ frames := 86, cells := 0, slots := 0, locals := 40 * 86 } : Room) s m args below meth c 5 0 0 (MQ below (gQ g none z.2) args s 0 0 (gA g)) 0 [(0, .ref (gAd g a0)), (1, .ref (gAd g a1)), (2, .int i2)] [] M
  refine v_aload_n F dX6_read_0 rfl 0 rfl ?_
  refine v_getR (k := 4) (f := 9) F t0 (by decide) (inc inU_6) rfl rfl (by decide) (by decide) (List.mem_cons_of_mem _ fl_X6_23) rfl dX6_read_1 (fun u1 => ?_)
  refine v_aload_n F dX6_read_4 rfl 1 rfl ?_
  refine v_iload_n F dX6_read_5 rfl 2 rfl ?_
  obtain ⟨⟨r2, M3⟩, hz4, h⟩ := bd_some h
  dsimp only at h
  refine v_callVv (As := [.ref (gAd g a1), .int i2]) (rest := []) F (c_X9_scan l F.2.2.1 u1 t1 hz4) (cwV 2 F.1.2.2.2.2 (gU_V ml_X6_27 im_yX9_scan se_yX9_scan ini_X9 cd_X9_scan) rfl rfl rfl (by decide +kernel) ⟨Nat.le_of_ble_eq_true rfl, Nat.le_of_ble_eq_true rfl⟩) u1 (by decide) rfl rfl rfl (Nat.le_of_ble_eq_true rfl) dX6_read_6 ⟨Nat.le_of_ble_eq_true rfl, Nat.le_of_ble_eq_true rfl⟩ ?_
  refine v_aload_n F dX6_read_9 rfl 0 rfl ?_
  refine v_iconst (v := 0) F dX6_read_10 (by decide) ?_
  refine v_put (k := 1) (ty := .int) F t0 (by decide) (inc inU_6) tyX6 tyX6_ok nmX6 rfl rfl (by decide) (List.mem_cons_of_mem _ fl_X6_31) rfl rfl (by decide +kernel) rfl rfl dX6_read_11 ?_
  refine v_aload_n F dX6_read_14 rfl 0 rfl ?_
  refine v_iconst (v := 0) F dX6_read_15 (by decide) ?_
  refine v_put (k := 2) (ty := .int) F t0 (by decide) (inc inU_6) tyX6 tyX6_ok nmX6 rfl rfl (by decide) (List.mem_cons_of_mem _ fl_X6_35) rfl rfl (by decide +kernel) rfl rfl dX6_read_16 ?_
  refine v_aload_n F dX6_read_19 rfl 0 rfl ?_
  refine v_iconst (v := (-1)) F dX6_read_20 (by decide) ?_
  refine v_put (k := 3) (ty := .int) F t0 (by decide) (inc inU_6) tyX6 tyX6_ok nmX6 rfl rfl (by decide) (List.mem_cons_of_mem _ fl_X6_38) rfl rfl (by decide +kernel) rfl rfl dX6_read_21 ?_
  refine v_aload_n F dX6_read_24 rfl 0 rfl ?_
  refine v_iconst (v := (-1)) F dX6_read_25 (by decide) ?_
  refine v_put (k := 5) (ty := .int) F t0 (by decide) (inc inU_6) tyX6 tyX6_ok nmX6 rfl rfl (by decide) (List.mem_cons_of_mem _ fl_X6_41) rfl rfl (by decide +kernel) rfl rfl dX6_read_26 ?_
  refine v_aload_n F dX6_read_29 rfl 0 rfl ?_
  obtain ⟨⟨r6, M7⟩, hz8, h⟩ := bd_some h
  dsimp only at h
  refine v_callVv (As := []) (rest := []) F (c_X6_step l F.2.2.1 t0 hz8) (cwV 0 F.1.2.2.2.2 (gU_V ml_X6_44 im_yX6_step se_yX6_step ini_X6 cd_X6_step) rfl rfl rfl (by decide +kernel) ⟨Nat.le_of_ble_eq_true rfl, Nat.le_of_ble_eq_true rfl⟩) t0 (by decide) rfl rfl rfl (Nat.le_of_ble_eq_true rfl) dX6_read_30 ⟨Nat.le_of_ble_eq_true rfl, Nat.le_of_ble_eq_true rfl⟩ ?_
  refine v_iconst (v := 0) F dX6_read_33 (by decide) ?_
  refine v_istore_n (lv' := [(3, .int 0), (0, .ref (gAd g a0)), (1, .ref (gAd g a1)), (2, .int i2)]) F dX6_read_34 rfl (by decide) rfl ?_
  refine v_sub (fun ls h9 => lv_sub h9 [1, 2, 3, 0] rfl) ?_
  exact w_X6_read_h35 F hr hlk t0 t1 _ _ _ h
