def f_X11_thrown  (M : Mem) (a0 : Nat) : Option (Int32 × Mem) := some (M a0 0, M)
set_option maxHeartbeats 4000000 in
set_option maxRecDepth 100000 in
theorem c_X11_thrown {g : gT} (l : Launch) (hok : gOK g)  {a0 : Nat} {M : Mem} {z : Int32 × Mem}  (t0 : Ty g 11 a0) (h : f_X11_thrown  M a0 = some z) : Cn g l yX11_thrown uX11_thrown 0 [.ref (gAd g a0)] M (some (.int z.1)) z.2 := by
  refine Cn.of (cc := cX11_thrown) (maxL := 1) (ret := (some .int)) hok (by decide) rfl (Nat.le_of_ble_eq_true rfl) (fun p e s m args below meth c F hr hlk => ?_)
  unfold f_X11_thrown at h
  show V g p l e ({ frames := 0, cells := 0, slots := 0, locals := 40 * 0 } : Room) s m args below meth c 1 0 0 (MQ below (gQ g (some (.int z.1)) z.2) args s 0 0 (gA g)) 0 [(0, .ref (gAd g a0))] [] M
  refine v_aload_n F dX11_thrown_0 rfl 0 rfl ?_
  refine v_getI (k := 0) F t0 (by decide) (inc inU_11) rfl rfl (by decide) (List.mem_cons_of_mem _ fl_X11_83) rfl dX11_thrown_1 ?_
  cases h
  exact v_iret F hr rfl hlk dX11_thrown_4
def f_X11_bad_b16 (a0 : Nat) (i1 : Int32) (i2 : Int32)   (M : Mem) : Option (Int32 × Mem) := if (M a0 0) = 0 then (some (0, M)) else (some (1, M))
def f_X11_bad  (M : Mem) (a0 : Nat) (i1 : Int32) (i2 : Int32) : Option (Int32 × Mem) := if i1 = 0 then (f_X11_bad_b16 a0 i1 i2 M) else (if (M a0 0) = 0 then (f_X11_bad_b16 a0 i1 i2 (mU M a0 0 i2)) else (f_X11_bad_b16 a0 i1 i2 M))
set_option maxHeartbeats 4000000 in
set_option maxRecDepth 100000 in
theorem w_X11_bad_b16 {g : gT} {p : Program} {l : Launch} {e : Env} {s : State} {m : MethodId} {args : Array Value} {below : List Frame} {meth : Method} {c : Code} {z : Int32 × Mem} (F : Fx g p s m args c cX11_bad 3 uX11_bad RX11) (hr : meth.sig.returnType = (some .boolean)) (hlk : meth.locks = false)  {a0 : Nat} {i1 : Int32} {i2 : Int32} (t0 : Ty g 11 a0)    (M : Mem)  (h : f_X11_bad_b16 a0 i1 i2 M = some z) : V g p l e ({ frames := 0, cells := 0, slots := 0, locals := 40 * 0 } : Room) s m args below meth c 3 0 0 (MQ below (gQ g (some (.int z.1)) z.2) args s 0 0 (gA g)) 16 [(0, .ref (gAd g a0)), (1, .int i1), (2, .int i2)] [] M := by
  unfold f_X11_bad_b16 at h
  refine v_aload_n F dX11_bad_16 rfl 0 rfl ?_
  refine v_getI (k := 0) F t0 (by decide) (inc inU_11) rfl rfl (by decide) (List.mem_cons_of_mem _ fl_X11_83) rfl dX11_bad_17 ?_
  refine v_if_eq (tgt := 27) F dX11_bad_20 (by decide) (fun hc3 => ?_) (fun hc3 => ?_)
  · rw [if_pos hc3] at h
    refine v_iconst (v := 0) F dX11_bad_27 (by decide) ?_
    cases h
    exact v_iret F hr narrow_b0 hlk dX11_bad_28
  · rw [if_neg hc3] at h
    refine v_iconst (v := 1) F dX11_bad_23 (by decide) ?_
    refine v_goto (tgt := 28) F dX11_bad_24 (by decide) ?_
    cases h
    exact v_iret F hr narrow_b1 hlk dX11_bad_28
set_option maxHeartbeats 4000000 in
set_option maxRecDepth 100000 in
theorem c_X11_bad {g : gT} (l : Launch) (hok : gOK g)  {a0 : Nat} {i1 : Int32} {i2 : Int32} {M : Mem} {z : Int32 × Mem}  (t0 : Ty g 11 a0) (h : f_X11_bad  M a0 i1 i2 = some z) : Cn g l yX11_bad uX11_bad 0 [.ref (gAd g a0), .int i1, .int i2] M (some (.int z.1)) z.2 := by
  refine Cn.of (cc := cX11_bad) (maxL := 3) (ret := (some .boolean)) hok (by decide) rfl (Nat.le_of_ble_eq_true rfl) (fun p e s m args below meth c F hr hlk => ?_)
  unfold f_X11_bad at h
  show V g p l e ({ frames := 0, cells := 0, slots := 0, locals := 40 * 0 } : Room) s m args below meth c 3 0 0 (MQ below (gQ g (some (.int z.1)) z.2) args s 0 0 (gA g)) 0 [(0, .ref (gAd g a0)), (1, .int i1), (2, .int i2)] [] M
  refine v_iload_n F dX11_bad_0 rfl 1 rfl ?_
  refine v_if_eq (tgt := 16) F dX11_bad_1 (by decide) (fun hc1 => ?_) (fun hc1 => ?_)
  · rw [if_pos hc1] at h
    exact w_X11_bad_b16 F hr hlk t0 _ h
  · rw [if_neg hc1] at h
    refine v_aload_n F dX11_bad_4 rfl 0 rfl ?_
    refine v_getI (k := 0) F t0 (by decide) (inc inU_11) rfl rfl (by decide) (List.mem_cons_of_mem _ fl_X11_83) rfl dX11_bad_5 ?_
    refine v_if_ne (tgt := 16) F dX11_bad_8 (by decide) (fun hc2 => ?_) (fun hc2 => ?_)
    · rw [if_neg hc2] at h
      exact w_X11_bad_b16 F hr hlk t0 _ h
    · rw [if_pos hc2] at h
      refine v_aload_n F dX11_bad_11 rfl 0 rfl ?_
      refine v_iload_n F dX11_bad_12 rfl 2 rfl ?_
      refine v_put (k := 0) (ty := .int) F t0 (by decide) (inc inU_11) tyX11 tyX11_ok nmX11 rfl rfl (by decide) (List.mem_cons_of_mem _ fl_X11_83) rfl rfl (by decide +kernel) rfl rfl dX11_bad_13 ?_
      exact w_X11_bad_b16 F hr hlk t0 _ h
def f_X11_in  (M : Mem) (i0 : Int32) (i1 : Int32) (i2 : Int32) : Option (Int32 × Mem) := if i0 < i1 then (some (0, M)) else (if i2 < i0 then (some (0, M)) else (some (1, M)))
set_option maxHeartbeats 4000000 in
set_option maxRecDepth 100000 in
theorem c_X11_in {g : gT} (l : Launch) (hok : gOK g)  {i0 : Int32} {i1 : Int32} {i2 : Int32} {M : Mem} {z : Int32 × Mem}   (h : f_X11_in  M i0 i1 i2 = some z) : Cn g l yX11_in uX11_in 0 [.int i0, .int i1, .int i2] M (some (.int z.1)) z.2 := by
  refine Cn.of (cc := cX11_in) (maxL := 3) (ret := (some .boolean)) hok (by decide) rfl (Nat.le_of_ble_eq_true rfl) (fun p e s m args below meth c F hr hlk => ?_)
  unfold f_X11_in at h
  show V g p l e ({ frames := 0, cells := 0, slots := 0, locals := 40 * 0 } : Room) s m args below meth c 3 0 0 (MQ below (gQ g (some (.int z.1)) z.2) args s 0 0 (gA g)) 0 [(0, .int i0), (1, .int i1), (2, .int i2)] [] M
  refine v_iload_n F dX11_in_0 rfl 0 rfl ?_
  refine v_iload_n F dX11_in_1 rfl 1 rfl ?_
  refine v_icmp_lt (tgt := 14) F dX11_in_2 (by decide) (fun hc1 => ?_) (fun hc1 => ?_)
  · rw [if_pos hc1] at h
    refine v_iconst (v := 0) F dX11_in_14 (by decide) ?_
    cases h
    exact v_iret F hr narrow_b0 hlk dX11_in_15
  · rw [if_neg hc1] at h
    refine v_iload_n F dX11_in_5 rfl 0 rfl ?_
    refine v_iload_n F dX11_in_6 rfl 2 rfl ?_
    refine v_icmp_gt (tgt := 14) F dX11_in_7 (by decide) (fun hc2 => ?_) (fun hc2 => ?_)
    · rw [if_pos hc2] at h
      refine v_iconst (v := 0) F dX11_in_14 (by decide) ?_
      cases h
      exact v_iret F hr narrow_b0 hlk dX11_in_15
    · rw [if_neg hc2] at h
      refine v_iconst (v := 1) F dX11_in_10 (by decide) ?_
      refine v_goto (tgt := 15) F dX11_in_11 (by decide) ?_
      cases h
      exact v_iret F hr narrow_b1 hlk dX11_in_15
def f_X11_within  (M : Mem) (i0 : Int32) (i1 : Int32) (i2 : Int32) : Option (Int32 × Mem) := if i1 ≤ i0 then (if i0 ≤ i2 then (some (i0, M)) else (some (i2, M))) else (some (i1, M))
set_option maxHeartbeats 4000000 in
set_option maxRecDepth 100000 in
theorem c_X11_within {g : gT} (l : Launch) (hok : gOK g)  {i0 : Int32} {i1 : Int32} {i2 : Int32} {M : Mem} {z : Int32 × Mem}   (h : f_X11_within  M i0 i1 i2 = some z) : Cn g l yX11_within uX11_within 0 [.int i0, .int i1, .int i2] M (some (.int z.1)) z.2 := by
  refine Cn.of (cc := cX11_within) (maxL := 3) (ret := (some .int)) hok (by decide) rfl (Nat.le_of_ble_eq_true rfl) (fun p e s m args below meth c F hr hlk => ?_)
  unfold f_X11_within at h
  show V g p l e ({ frames := 0, cells := 0, slots := 0, locals := 40 * 0 } : Room) s m args below meth c 3 0 0 (MQ below (gQ g (some (.int z.1)) z.2) args s 0 0 (gA g)) 0 [(0, .int i0), (1, .int i1), (2, .int i2)] [] M
  refine v_iload_n F dX11_within_0 rfl 0 rfl ?_
  refine v_iload_n F dX11_within_1 rfl 1 rfl ?_
  refine v_icmp_ge (tgt := 9) F dX11_within_2 (by decide) (fun hc1 => ?_) (fun hc1 => ?_)
  · rw [if_pos hc1] at h
    refine v_iload_n F dX11_within_9 rfl 0 rfl ?_
    refine v_iload_n F dX11_within_10 rfl 2 rfl ?_
    refine v_icmp_le (tgt := 18) F dX11_within_11 (by decide) (fun hc2 => ?_) (fun hc2 => ?_)
    · rw [if_pos hc2] at h
      refine v_iload_n F dX11_within_18 rfl 0 rfl ?_
      cases h
      exact v_iret F hr rfl hlk dX11_within_19
    · rw [if_neg hc2] at h
      refine v_iload_n F dX11_within_14 rfl 2 rfl ?_
      refine v_goto (tgt := 19) F dX11_within_15 (by decide) ?_
      cases h
      exact v_iret F hr rfl hlk dX11_within_19
  · rw [if_neg hc1] at h
    refine v_iload_n F dX11_within_5 rfl 1 rfl ?_
    refine v_goto (tgt := 19) F dX11_within_6 (by decide) ?_
    cases h
    exact v_iret F hr rfl hlk dX11_within_19
def f_X11_amount  (M : Mem) (i0 : Int32) : Option (Int32 × Mem) := if 0 ≤ i0 then (some (i0, M)) else (some (-i0, M))
set_option maxHeartbeats 4000000 in
set_option maxRecDepth 100000 in
theorem c_X11_amount {g : gT} (l : Launch) (hok : gOK g)  {i0 : Int32} {M : Mem} {z : Int32 × Mem}   (h : f_X11_amount  M i0 = some z) : Cn g l yX11_amount uX11_amount 0 [.int i0] M (some (.int z.1)) z.2 := by
  refine Cn.of (cc := cX11_amount) (maxL := 1) (ret := (some .int)) hok (by decide) rfl (Nat.le_of_ble_eq_true rfl) (fun p e s m args below meth c F hr hlk => ?_)
  unfold f_X11_amount at h
  show V g p l e ({ frames := 0, cells := 0, slots := 0, locals := 40 * 0 } : Room) s m args below meth c 1 0 0 (MQ below (gQ g (some (.int z.1)) z.2) args s 0 0 (gA g)) 0 [(0, .int i0)] [] M
  refine v_iload_n F dX11_amount_0 rfl 0 rfl ?_
  refine v_if_ge (tgt := 9) F dX11_amount_1 (by decide) (fun hc1 => ?_) (fun hc1 => ?_)
  · rw [if_pos hc1] at h
    refine v_iload_n F dX11_amount_9 rfl 0 rfl ?_
    cases h
    exact v_iret F hr rfl hlk dX11_amount_10
  · rw [if_neg hc1] at h
    refine v_iload_n F dX11_amount_4 rfl 0 rfl ?_
    refine v_ineg F dX11_amount_5 ?_
    refine v_goto (tgt := 10) F dX11_amount_6 (by decide) ?_
    cases h
    exact v_iret F hr rfl hlk dX11_amount_10
def f_X11_feed_b76 (a0 : Nat) (i1 : Int32) (i2 : Int32) (i3 : Int32) (i4 : Int32) (i5 : Int32) (k23 : Int32 → Mem → Option (Int32 × Mem)) (s0 : Int32) (x6 : Int32) (M : Mem) : Option (Int32 × Mem) := if ¬ ((M a0 1) < 0 ∨ gN (gRf a0 9) ≤ (M a0 1 : Int32).toNatClampNeg) then (k23 (x6 + 1) (mU (mU M (gRf a0 9) (M a0 1 : Int32).toNatClampNeg ((s0 >>> ((24 - (8 * (x6 - x6 / 4 * 4))) &&& 31)) &&& 255)) a0 1 (((mU M (gRf a0 9) (M a0 1 : Int32).toNatClampNeg ((s0 >>> ((24 - (8 * (x6 - x6 / 4 * 4))) &&& 31)) &&& 255)) a0 1) + 1))) else none
def f_X11_feed_h23 (a0 : Nat) (i1 : Int32) (i2 : Int32) (i3 : Int32) (i4 : Int32) (i5 : Int32)  : Nat → Int32 → Mem → Option (Int32 × Mem)
  | 0, _, _ => none
  | n + 1, x6, M => if 20 ≤ x6 then (some (M a0 1, M)) else (if 4 ≤ x6 then (if 8 ≤ x6 then (if 12 ≤ x6 then (if 16 ≤ x6 then (f_X11_feed_b76 a0 i1 i2 i3 i4 i5 (f_X11_feed_h23 a0 i1 i2 i3 i4 i5 n) i5 x6 M) else (f_X11_feed_b76 a0 i1 i2 i3 i4 i5 (f_X11_feed_h23 a0 i1 i2 i3 i4 i5 n) i4 x6 M)) else (f_X11_feed_b76 a0 i1 i2 i3 i4 i5 (f_X11_feed_h23 a0 i1 i2 i3 i4 i5 n) i3 x6 M)) else (f_X11_feed_b76 a0 i1 i2 i3 i4 i5 (f_X11_feed_h23 a0 i1 i2 i3 i4 i5 n) i2 x6 M)) else (f_X11_feed_b76 a0 i1 i2 i3 i4 i5 (f_X11_feed_h23 a0 i1 i2 i3 i4 i5 n) i1 x6 M))
def f_X11_feed  (M : Mem) (a0 : Nat) (i1 : Int32) (i2 : Int32) (i3 : Int32) (i4 : Int32) (i5 : Int32) : Option (Int32 × Mem) := if (((mU M a0 0 0) a0 1) + 20) ≤ 300 then (f_X11_feed_h23 a0 i1 i2 i3 i4 i5 FU 0 (mU M a0 0 0)) else (some ((-1), (mU M a0 0 0)))
set_option maxHeartbeats 4000000 in
set_option maxRecDepth 100000 in
theorem w_X11_feed_b76 {g : gT} {p : Program} {l : Launch} {e : Env} {s : State} {m : MethodId} {args : Array Value} {below : List Frame} {meth : Method} {c : Code} {z : Int32 × Mem} (F : Fx g p s m args c cX11_feed 8 uX11_feed RX11) (hr : meth.sig.returnType = (some .int)) (hlk : meth.locks = false)  {a0 : Nat} {i1 : Int32} {i2 : Int32} {i3 : Int32} {i4 : Int32} {i5 : Int32} (t0 : Ty g 11 a0) {k23 : Int32 → Mem → Option (Int32 × Mem)} (hk23 : ∀ (x6 : Int32) (M : Mem), k23 x6 M = some z → V g p l e ({ frames := 0, cells := 0, slots := 0, locals := 40 * 0 } : Room) s m args below meth c 8 0 0 (MQ below (gQ g (some (.int z.1)) z.2) args s 0 0 (gA g)) 23 [(0, .ref (gAd g a0)), (1, .int i1), (2, .int i2), (3, .int i3), (4, .int i4), (5, .int i5), (6, .int x6)] [] M) (s0 : Int32) (x6 : Int32) (M : Mem)  (h : f_X11_feed_b76 a0 i1 i2 i3 i4 i5 k23 s0 x6 M = some z) : V g p l e ({ frames := 0, cells := 0, slots := 0, locals := 40 * 0 } : Room) s m args below meth c 8 0 0 (MQ below (gQ g (some (.int z.1)) z.2) args s 0 0 (gA g)) 76 [(0, .ref (gAd g a0)), (1, .int i1), (2, .int i2), (3, .int i3), (4, .int i4), (5, .int i5), (6, .int x6)] [.int s0] M := by
  unfold f_X11_feed_b76 at h
  refine v_istore (lv' := [(7, .int s0), (0, .ref (gAd g a0)), (1, .int i1), (2, .int i2), (3, .int i3), (4, .int i4), (5, .int i5), (6, .int x6)]) F dX11_feed_76 (by decide) rfl ?_
  refine v_aload_n F dX11_feed_78 rfl 1 rfl ?_
  refine v_getR (k := 9) (f := 12) F t0 (by decide) (inc inU_11) rfl rfl (by decide) (by decide) (List.mem_cons_of_mem _ fl_X11_13) rfl dX11_feed_79 (fun u7 => ?_)
  refine v_aload_n F dX11_feed_82 rfl 1 rfl ?_
  refine v_getI (k := 1) F t0 (by decide) (inc inU_11) rfl rfl (by decide) (List.mem_cons_of_mem _ fl_X11_86) rfl dX11_feed_83 ?_
  refine v_iload F dX11_feed_86 0 rfl ?_
  refine v_bipush (v := 24) F dX11_feed_88 (by decide) ?_
  refine v_bipush (v := 8) F dX11_feed_90 (by decide) ?_
  refine v_iload F dX11_feed_92 7 rfl ?_
  refine v_iconst (v := 4) F dX11_feed_94 (by decide) ?_
  refine v_irem F dX11_feed_95 (by decide) ?_
  refine v_imul F dX11_feed_96 ?_
  refine v_isub F dX11_feed_97 ?_
  refine v_ishr F dX11_feed_98 ?_
  refine v_sipush (v := 255) F dX11_feed_99 (by decide) ?_
  refine v_iand F dX11_feed_102 ?_
  obtain ⟨hin8, h⟩ := gd_some h
  refine v_iast F u7 hin8 dX11_feed_103 ?_
  refine v_aload_n F dX11_feed_104 rfl 1 rfl ?_
  refine v_dup F dX11_feed_105 rfl ?_
  refine v_getI (k := 1) F t0 (by decide) (inc inU_11) rfl rfl (by decide) (List.mem_cons_of_mem _ fl_X11_86) rfl dX11_feed_106 ?_
  refine v_iconst (v := 1) F dX11_feed_109 (by decide) ?_
  refine v_iadd F dX11_feed_110 ?_
  refine v_put (k := 1) (ty := .int) F t0 (by decide) (inc inU_11) tyX11 tyX11_ok nmX11 rfl rfl (by decide) (List.mem_cons_of_mem _ fl_X11_86) rfl rfl (by decide +kernel) rfl rfl dX11_feed_111 ?_
  refine v_iinc (v := x6 + 1) (lv' := [(6, .int (x6 + 1)), (7, .int s0), (0, .ref (gAd g a0)), (1, .int i1), (2, .int i2), (3, .int i3), (4, .int i4), (5, .int i5)]) F dX11_feed_114 (q := 7) rfl rfl (by decide) rfl ?_
  refine v_goto (tgt := 23) F dX11_feed_117 (by decide) ?_
  refine v_sub (fun ls h9 => lv_sub h9 [2, 3, 4, 5, 6, 7, 0] rfl) ?_
  exact hk23 _ _ h
set_option maxHeartbeats 4000000 in
set_option maxRecDepth 100000 in
theorem w_X11_feed_h23 {g : gT} {p : Program} {l : Launch} {e : Env} {s : State} {m : MethodId} {args : Array Value} {below : List Frame} {meth : Method} {c : Code} {z : Int32 × Mem} (F : Fx g p s m args c cX11_feed 8 uX11_feed RX11) (hr : meth.sig.returnType = (some .int)) (hlk : meth.locks = false)  {a0 : Nat} {i1 : Int32} {i2 : Int32} {i3 : Int32} {i4 : Int32} {i5 : Int32} (t0 : Ty g 11 a0)   : ∀ (n : Nat) (x6 : Int32) (M : Mem), f_X11_feed_h23 a0 i1 i2 i3 i4 i5 n x6 M = some z → V g p l e ({ frames := 0, cells := 0, slots := 0, locals := 40 * 0 } : Room) s m args below meth c 8 0 0 (MQ below (gQ g (some (.int z.1)) z.2) args s 0 0 (gA g)) 23 [(0, .ref (gAd g a0)), (1, .int i1), (2, .int i2), (3, .int i3), (4, .int i4), (5, .int i5), (6, .int x6)] [] M := by
  intro n
  induction n with
  | zero => intro x6 M; intros; rename_i h; cases h
  | succ n ih =>
    intro x6 M h
    rw [f_X11_feed_h23] at h
    refine v_iload F dX11_feed_23 6 rfl ?_
    refine v_bipush (v := 20) F dX11_feed_25 (by decide) ?_
    refine v_icmp_ge (tgt := 120) F dX11_feed_27 (by decide) (fun hc2 => ?_) (fun hc2 => ?_)
    · rw [if_pos hc2] at h
      refine v_aload_n F dX11_feed_120 rfl 0 rfl ?_
      refine v_getI (k := 1) F t0 (by decide) (inc inU_11) rfl rfl (by decide) (List.mem_cons_of_mem _ fl_X11_86) rfl dX11_feed_121 ?_
      cases h
      exact v_iret F hr rfl hlk dX11_feed_124
    · rw [if_neg hc2] at h
      refine v_iload F dX11_feed_30 6 rfl ?_
      refine v_iconst (v := 4) F dX11_feed_32 (by decide) ?_
      refine v_icmp_ge (tgt := 40) F dX11_feed_33 (by decide) (fun hc3 => ?_) (fun hc3 => ?_)
      · rw [if_pos hc3] at h
        refine v_iload F dX11_feed_40 6 rfl ?_
        refine v_bipush (v := 8) F dX11_feed_42 (by decide) ?_
        refine v_icmp_ge (tgt := 51) F dX11_feed_44 (by decide) (fun hc4 => ?_) (fun hc4 => ?_)
        · rw [if_pos hc4] at h
          refine v_iload F dX11_feed_51 6 rfl ?_
          refine v_bipush (v := 12) F dX11_feed_53 (by decide) ?_
          refine v_icmp_ge (tgt := 62) F dX11_feed_55 (by decide) (fun hc5 => ?_) (fun hc5 => ?_)
          · rw [if_pos hc5] at h
            refine v_iload F dX11_feed_62 6 rfl ?_
            refine v_bipush (v := 16) F dX11_feed_64 (by decide) ?_
            refine v_icmp_ge (tgt := 74) F dX11_feed_66 (by decide) (fun hc6 => ?_) (fun hc6 => ?_)
            · rw [if_pos hc6] at h
              refine v_iload F dX11_feed_74 5 rfl ?_
              exact w_X11_feed_b76 F hr hlk t0 ih _ _ _ h
            · rw [if_neg hc6] at h
              refine v_iload F dX11_feed_69 4 rfl ?_
              refine v_goto (tgt := 76) F dX11_feed_71 (by decide) ?_
              exact w_X11_feed_b76 F hr hlk t0 ih _ _ _ h
          · rw [if_neg hc5] at h
            refine v_iload_n F dX11_feed_58 rfl 3 rfl ?_
            refine v_goto (tgt := 76) F dX11_feed_59 (by decide) ?_
            exact w_X11_feed_b76 F hr hlk t0 ih _ _ _ h
        · rw [if_neg hc4] at h
          refine v_iload_n F dX11_feed_47 rfl 2 rfl ?_
          refine v_goto (tgt := 76) F dX11_feed_48 (by decide) ?_
          exact w_X11_feed_b76 F hr hlk t0 ih _ _ _ h
      · rw [if_neg hc3] at h
        refine v_iload_n F dX11_feed_36 rfl 1 rfl ?_
        refine v_goto (tgt := 76) F dX11_feed_37 (by decide) ?_
        exact w_X11_feed_b76 F hr hlk t0 ih _ _ _ h
set_option maxHeartbeats 4000000 in
set_option maxRecDepth 100000 in
theorem c_X11_feed {g : gT} (l : Launch) (hok : gOK g)  {a0 : Nat} {i1 : Int32} {i2 : Int32} {i3 : Int32} {i4 : Int32} {i5 : Int32} {M : Mem} {z : Int32 × Mem}  (t0 : Ty g 11 a0) (h : f_X11_feed  M a0 i1 i2 i3 i4 i5 = some z) : Cn g l yX11_feed uX11_feed 0 [.ref (gAd g a0), .int i1, .int i2, .int i3, .int i4, .int i5] M (some (.int z.1)) z.2 := by
  refine Cn.of (cc := cX11_feed) (maxL := 8) (ret := (some .int)) hok (by decide) rfl (Nat.le_of_ble_eq_true rfl) (fun p e s m args below meth c F hr hlk => ?_)
  unfold f_X11_feed at h
  show V g p l e ({ frames := 0, cells := 0, slots := 0, locals := 40 * 0 } : Room) s m args below meth c 8 0 0 (MQ below (gQ g (some (.int z.1)) z.2) args s 0 0 (gA g)) 0 [(0, .ref (gAd g a0)), (1, .int i1), (2, .int i2), (3, .int i3), (4, .int i4), (5, .int i5)] [] M
  refine v_aload_n F dX11_feed_0 rfl 0 rfl ?_
  refine v_iconst (v := 0) F dX11_feed_1 (by decide) ?_
  refine v_put (k := 0) (ty := .int) F t0 (by decide) (inc inU_11) tyX11 tyX11_ok nmX11 rfl rfl (by decide) (List.mem_cons_of_mem _ fl_X11_83) rfl rfl (by decide +kernel) rfl rfl dX11_feed_2 ?_
  refine v_aload_n F dX11_feed_5 rfl 0 rfl ?_
  refine v_getI (k := 1) F t0 (by decide) (inc inU_11) rfl rfl (by decide) (List.mem_cons_of_mem _ fl_X11_86) rfl dX11_feed_6 ?_
  refine v_bipush (v := 20) F dX11_feed_9 (by decide) ?_
  refine v_iadd F dX11_feed_11 ?_
  refine v_sipush (v := 300) F dX11_feed_12 (by decide) ?_
  refine v_icmp_le (tgt := 20) F dX11_feed_15 (by decide) (fun hc1 => ?_) (fun hc1 => ?_)
  · rw [if_pos hc1] at h
    refine v_iconst (v := 0) F dX11_feed_20 (by decide) ?_
    refine v_istore (lv' := [(6, .int 0), (0, .ref (gAd g a0)), (1, .int i1), (2, .int i2), (3, .int i3), (4, .int i4), (5, .int i5)]) F dX11_feed_21 (by decide) rfl ?_
    refine v_sub (fun ls h9 => lv_sub h9 [1, 2, 3, 4, 5, 6, 0] rfl) ?_
    exact w_X11_feed_h23 F hr hlk t0 _ _ _ h
  · rw [if_neg hc1] at h
    refine v_iconst (v := (-1)) F dX11_feed_18 (by decide) ?_
    cases h
    exact v_iret F hr rfl hlk dX11_feed_19
def f_X11_byteAt  (M : Mem) (a0 : Nat) (i1 : Int32) : Option (Int32 × Mem) := if i1 < (M a0 2) then (if ¬ (i1 < 0 ∨ gN (gRf a0 9) ≤ i1.toNatClampNeg) then (some (M (gRf a0 9) i1.toNatClampNeg, M)) else none) else (some ((-1), M))
set_option maxHeartbeats 4000000 in
set_option maxRecDepth 100000 in
theorem c_X11_byteAt {g : gT} (l : Launch) (hok : gOK g)  {a0 : Nat} {i1 : Int32} {M : Mem} {z : Int32 × Mem}  (t0 : Ty g 11 a0) (h : f_X11_byteAt  M a0 i1 = some z) : Cn g l yX11_byteAt uX11_byteAt 0 [.ref (gAd g a0), .int i1] M (some (.int z.1)) z.2 := by
  refine Cn.of (cc := cX11_byteAt) (maxL := 2) (ret := (some .int)) hok (by decide) rfl (Nat.le_of_ble_eq_true rfl) (fun p e s m args below meth c F hr hlk => ?_)
  unfold f_X11_byteAt at h
  show V g p l e ({ frames := 0, cells := 0, slots := 0, locals := 40 * 0 } : Room) s m args below meth c 2 0 0 (MQ below (gQ g (some (.int z.1)) z.2) args s 0 0 (gA g)) 0 [(0, .ref (gAd g a0)), (1, .int i1)] [] M
  refine v_iload_n F dX11_byteAt_0 rfl 1 rfl ?_
  refine v_aload_n F dX11_byteAt_1 rfl 0 rfl ?_
  refine v_getI (k := 2) F t0 (by decide) (inc inU_11) rfl rfl (by decide) (List.mem_cons_of_mem _ fl_X11_89) rfl dX11_byteAt_2 ?_
  refine v_icmp_lt (tgt := 12) F dX11_byteAt_5 (by decide) (fun hc1 => ?_) (fun hc1 => ?_)
  · rw [if_pos hc1] at h
    refine v_aload_n F dX11_byteAt_12 rfl 0 rfl ?_
    refine v_getR (k := 9) (f := 12) F t0 (by decide) (inc inU_11) rfl rfl (by decide) (by decide) (List.mem_cons_of_mem _ fl_X11_13) rfl dX11_byteAt_13 (fun u2 => ?_)
    refine v_iload_n F dX11_byteAt_16 rfl 1 rfl ?_
    obtain ⟨hin3, h⟩ := gd_some h
    refine v_iald F u2 hin3 dX11_byteAt_17 ?_
    cases h
    exact v_iret F hr rfl hlk dX11_byteAt_18
  · rw [if_neg hc1] at h
    refine v_iconst (v := (-1)) F dX11_byteAt_8 (by decide) ?_
    refine v_goto (tgt := 18) F dX11_byteAt_9 (by decide) ?_
    cases h
    exact v_iret F hr rfl hlk dX11_byteAt_18
def f_X11_blanks_h0 (a0 : Nat)  : Nat → Mem → Option (Int32 × Mem)
  | 0, _ => none
  | n + 1, M => (f_X11_byteAt M a0 (M a0 4)).bind fun q => match q with | (r1, M2) => (if r1 = 32 then ((f_X11_blanks_h0 a0 n) (mU M2 a0 4 ((M2 a0 4) + 1))) else (some (0, M2)))
def f_X11_blanks  (M : Mem) (a0 : Nat) : Option (Int32 × Mem) := f_X11_blanks_h0 a0 FU M
set_option maxHeartbeats 4000000 in
set_option maxRecDepth 100000 in
theorem w_X11_blanks_h0 {g : gT} {p : Program} {l : Launch} {e : Env} {s : State} {m : MethodId} {args : Array Value} {below : List Frame} {meth : Method} {c : Code} {z : Int32 × Mem} (F : Fx g p s m args c cX11_blanks 1 uX11_blanks RX11) (hr : meth.sig.returnType = none) (hlk : meth.locks = false)  {a0 : Nat} (t0 : Ty g 11 a0)   : ∀ (n : Nat)  (M : Mem), f_X11_blanks_h0 a0 n  M = some z → V g p l e ({ frames := 1, cells := 0, slots := 0, locals := 40 * 1 } : Room) s m args below meth c 1 0 0 (MQ below (gQ g none z.2) args s 0 0 (gA g)) 0 [(0, .ref (gAd g a0))] [] M := by
  intro n
  induction n with
  | zero => intro M; intros; rename_i h; cases h
  | succ n ih =>
    intro M h
    rw [f_X11_blanks_h0] at h
    refine v_aload_n F dX11_blanks_0 rfl 0 rfl ?_
    refine v_aload_n F dX11_blanks_1 rfl 0 rfl ?_
    refine v_getI (k := 4) F t0 (by decide) (inc inU_11) rfl rfl (by decide) (List.mem_cons_of_mem _ fl_X11_92) rfl dX11_blanks_2 ?_
    obtain ⟨⟨r1, M2⟩, hz3, h⟩ := bd_some h
    dsimp only at h
    refine v_callVi (As := [.int (M a0 4)]) (rest := []) F (c_X11_byteAt l F.2.2.1 t0 hz3) (cwV 1 F.1.2.2.2.2 (gU_V ml_X11_95 im_yX11_byteAt se_yX11_byteAt ini_X11 cd_X11_byteAt) rfl rfl rfl (by decide +kernel) ⟨Nat.le_of_ble_eq_true rfl, Nat.le_of_ble_eq_true rfl⟩) t0 (by decide) rfl rfl rfl (Nat.le_of_ble_eq_true rfl) dX11_blanks_5 ⟨Nat.le_of_ble_eq_true rfl, Nat.le_of_ble_eq_true rfl⟩ ?_
    refine v_bipush (v := 32) F dX11_blanks_8 (by decide) ?_
    refine v_icmp_ne (tgt := 26) F dX11_blanks_10 (by decide) (fun hc5 => ?_) (fun hc5 => ?_)
    · rw [if_neg hc5] at h
      cases h
      exact v_vret F hr hlk dX11_blanks_26
    · rw [if_pos hc5] at h
      refine v_aload_n F dX11_blanks_13 rfl 0 rfl ?_
      refine v_dup F dX11_blanks_14 rfl ?_
      refine v_getI (k := 4) F t0 (by decide) (inc inU_11) rfl rfl (by decide) (List.mem_cons_of_mem _ fl_X11_92) rfl dX11_blanks_15 ?_
      refine v_iconst (v := 1) F dX11_blanks_18 (by decide) ?_
      refine v_iadd F dX11_blanks_19 ?_
      refine v_put (k := 4) (ty := .int) F t0 (by decide) (inc inU_11) tyX11 tyX11_ok nmX11 rfl rfl (by decide) (List.mem_cons_of_mem _ fl_X11_92) rfl rfl (by decide +kernel) rfl rfl dX11_blanks_20 ?_
      refine v_goto (tgt := 0) F dX11_blanks_23 (by decide) ?_
      exact ih _ h
set_option maxHeartbeats 4000000 in
set_option maxRecDepth 100000 in
theorem c_X11_blanks {g : gT} (l : Launch) (hok : gOK g)  {a0 : Nat} {M : Mem} {z : Int32 × Mem}  (t0 : Ty g 11 a0) (h : f_X11_blanks  M a0 = some z) : Cn g l yX11_blanks uX11_blanks 1 [.ref (gAd g a0)] M none z.2 := by
  refine Cn.of (cc := cX11_blanks) (maxL := 1) (ret := none) hok (by decide) rfl (Nat.le_of_ble_eq_true rfl) (fun p e s m args below meth c F hr hlk => ?_)
  unfold f_X11_blanks at h
  show V g p l e ({ frames := 1, cells := 0, slots := 0, locals := 40 * 1 } : Room) s m args below meth c 1 0 0 (MQ below (gQ g none z.2) args s 0 0 (gA g)) 0 [(0, .ref (gAd g a0))] [] M
  exact w_X11_blanks_h0 F hr hlk t0 _ _ h
def f_X11_wrong  (M : Mem) (a0 : Nat) (i1 : Int32) (i2 : Int32) : Option (Int32 × Mem) := if (M a0 6) = 0 then (some (0, (mU (mU M a0 6 i1) a0 7 i2))) else (some (0, M))
set_option maxHeartbeats 4000000 in
set_option maxRecDepth 100000 in
theorem c_X11_wrong {g : gT} (l : Launch) (hok : gOK g)  {a0 : Nat} {i1 : Int32} {i2 : Int32} {M : Mem} {z : Int32 × Mem}  (t0 : Ty g 11 a0) (h : f_X11_wrong  M a0 i1 i2 = some z) : Cn g l yX11_wrong uX11_wrong 0 [.ref (gAd g a0), .int i1, .int i2] M none z.2 := by
  refine Cn.of (cc := cX11_wrong) (maxL := 3) (ret := none) hok (by decide) rfl (Nat.le_of_ble_eq_true rfl) (fun p e s m args below meth c F hr hlk => ?_)
  unfold f_X11_wrong at h
  show V g p l e ({ frames := 0, cells := 0, slots := 0, locals := 40 * 0 } : Room) s m args below meth c 3 0 0 (MQ below (gQ g none z.2) args s 0 0 (gA g)) 0 [(0, .ref (gAd g a0)), (1, .int i1), (2, .int i2)] [] M
  refine v_aload_n F dX11_wrong_0 rfl 0 rfl ?_
  refine v_getI (k := 6) F t0 (by decide) (inc inU_11) rfl rfl (by decide) (List.mem_cons_of_mem _ fl_X11_99) rfl dX11_wrong_1 ?_
  refine v_if_ne (tgt := 17) F dX11_wrong_4 (by decide) (fun hc1 => ?_) (fun hc1 => ?_)
  · rw [if_neg hc1] at h
    cases h
    exact v_vret F hr hlk dX11_wrong_17
  · rw [if_pos hc1] at h
    refine v_aload_n F dX11_wrong_7 rfl 0 rfl ?_
    refine v_iload_n F dX11_wrong_8 rfl 1 rfl ?_
    refine v_put (k := 6) (ty := .int) F t0 (by decide) (inc inU_11) tyX11 tyX11_ok nmX11 rfl rfl (by decide) (List.mem_cons_of_mem _ fl_X11_99) rfl rfl (by decide +kernel) rfl rfl dX11_wrong_9 ?_
    refine v_aload_n F dX11_wrong_12 rfl 0 rfl ?_
    refine v_iload_n F dX11_wrong_13 rfl 2 rfl ?_
    refine v_put (k := 7) (ty := .int) F t0 (by decide) (inc inU_11) tyX11 tyX11_ok nmX11 rfl rfl (by decide) (List.mem_cons_of_mem _ fl_X11_102) rfl rfl (by decide +kernel) rfl rfl dX11_wrong_14 ?_
    cases h
    exact v_vret F hr hlk dX11_wrong_17
def f_X11_tells  (M : Mem) (a0 : Nat) (i1 : Int32) : Option (Int32 × Mem) := if (M a0 6) = 0 then (if ¬ ((M a0 8) < 0 ∨ gN (gRf a0 10) ≤ (M a0 8 : Int32).toNatClampNeg) then (some (0, (mU (mU M (gRf a0 10) (M a0 8 : Int32).toNatClampNeg i1) a0 8 (((mU M (gRf a0 10) (M a0 8 : Int32).toNatClampNeg i1) a0 8) + 1)))) else none) else (some (0, M))
set_option maxHeartbeats 4000000 in
set_option maxRecDepth 100000 in
theorem c_X11_tells {g : gT} (l : Launch) (hok : gOK g)  {a0 : Nat} {i1 : Int32} {M : Mem} {z : Int32 × Mem}  (t0 : Ty g 11 a0) (h : f_X11_tells  M a0 i1 = some z) : Cn g l yX11_tells uX11_tells 0 [.ref (gAd g a0), .int i1] M none z.2 := by
  refine Cn.of (cc := cX11_tells) (maxL := 2) (ret := none) hok (by decide) rfl (Nat.le_of_ble_eq_true rfl) (fun p e s m args below meth c F hr hlk => ?_)
  unfold f_X11_tells at h
  show V g p l e ({ frames := 0, cells := 0, slots := 0, locals := 40 * 0 } : Room) s m args below meth c 2 0 0 (MQ below (gQ g none z.2) args s 0 0 (gA g)) 0 [(0, .ref (gAd g a0)), (1, .int i1)] [] M
  refine v_aload_n F dX11_tells_0 rfl 0 rfl ?_
  refine v_getI (k := 6) F t0 (by decide) (inc inU_11) rfl rfl (by decide) (List.mem_cons_of_mem _ fl_X11_99) rfl dX11_tells_1 ?_
  refine v_if_eq (tgt := 8) F dX11_tells_4 (by decide) (fun hc1 => ?_) (fun hc1 => ?_)
  · rw [if_pos hc1] at h
    refine v_aload_n F dX11_tells_8 rfl 0 rfl ?_
    refine v_getR (k := 10) (f := 12) F t0 (by decide) (inc inU_11) rfl rfl (by decide) (by decide) (List.mem_cons_of_mem _ fl_X11_17) rfl dX11_tells_9 (fun u2 => ?_)
    refine v_aload_n F dX11_tells_12 rfl 0 rfl ?_
    refine v_getI (k := 8) F t0 (by decide) (inc inU_11) rfl rfl (by decide) (List.mem_cons_of_mem _ fl_X11_105) rfl dX11_tells_13 ?_
    refine v_iload_n F dX11_tells_16 rfl 1 rfl ?_
    obtain ⟨hin3, h⟩ := gd_some h
    refine v_iast F u2 hin3 dX11_tells_17 ?_
    refine v_aload_n F dX11_tells_18 rfl 0 rfl ?_
    refine v_dup F dX11_tells_19 rfl ?_
    refine v_getI (k := 8) F t0 (by decide) (inc inU_11) rfl rfl (by decide) (List.mem_cons_of_mem _ fl_X11_105) rfl dX11_tells_20 ?_
    refine v_iconst (v := 1) F dX11_tells_23 (by decide) ?_
    refine v_iadd F dX11_tells_24 ?_
    refine v_put (k := 8) (ty := .int) F t0 (by decide) (inc inU_11) tyX11 tyX11_ok nmX11 rfl rfl (by decide) (List.mem_cons_of_mem _ fl_X11_105) rfl rfl (by decide +kernel) rfl rfl dX11_tells_25 ?_
    cases h
    exact v_vret F hr hlk dX11_tells_28
  · rw [if_neg hc1] at h
    cases h
    exact v_vret F hr hlk dX11_tells_7
def f_X11_isDigit  (M : Mem) (i0 : Int32) : Option (Int32 × Mem) := if i0 < 48 then (some (0, M)) else (if 57 < i0 then (some (0, M)) else (some (1, M)))
set_option maxHeartbeats 4000000 in
set_option maxRecDepth 100000 in
theorem c_X11_isDigit {g : gT} (l : Launch) (hok : gOK g)  {i0 : Int32} {M : Mem} {z : Int32 × Mem}   (h : f_X11_isDigit  M i0 = some z) : Cn g l yX11_isDigit uX11_isDigit 0 [.int i0] M (some (.int z.1)) z.2 := by
  refine Cn.of (cc := cX11_isDigit) (maxL := 1) (ret := (some .boolean)) hok (by decide) rfl (Nat.le_of_ble_eq_true rfl) (fun p e s m args below meth c F hr hlk => ?_)
  unfold f_X11_isDigit at h
  show V g p l e ({ frames := 0, cells := 0, slots := 0, locals := 40 * 0 } : Room) s m args below meth c 1 0 0 (MQ below (gQ g (some (.int z.1)) z.2) args s 0 0 (gA g)) 0 [(0, .int i0)] [] M
  refine v_iload_n F dX11_isDigit_0 rfl 0 rfl ?_
  refine v_bipush (v := 48) F dX11_isDigit_1 (by decide) ?_
  refine v_icmp_lt (tgt := 16) F dX11_isDigit_3 (by decide) (fun hc1 => ?_) (fun hc1 => ?_)
  · rw [if_pos hc1] at h
    refine v_iconst (v := 0) F dX11_isDigit_16 (by decide) ?_
    cases h
    exact v_iret F hr narrow_b0 hlk dX11_isDigit_17
  · rw [if_neg hc1] at h
    refine v_iload_n F dX11_isDigit_6 rfl 0 rfl ?_
    refine v_bipush (v := 57) F dX11_isDigit_7 (by decide) ?_
    refine v_icmp_gt (tgt := 16) F dX11_isDigit_9 (by decide) (fun hc2 => ?_) (fun hc2 => ?_)
    · rw [if_pos hc2] at h
      refine v_iconst (v := 0) F dX11_isDigit_16 (by decide) ?_
      cases h
      exact v_iret F hr narrow_b0 hlk dX11_isDigit_17
    · rw [if_neg hc2] at h
      refine v_iconst (v := 1) F dX11_isDigit_12 (by decide) ?_
      refine v_goto (tgt := 17) F dX11_isDigit_13 (by decide) ?_
      cases h
      exact v_iret F hr narrow_b1 hlk dX11_isDigit_17
def f_X11_numberHere_b50 (a0 : Nat) (k7 : Int32 → Int32 → Mem → Option (Int32 × Mem)) (s0 : Int32) (x1 : Int32) (M : Mem) : Option (Int32 × Mem) := k7 x1 s0 (mU M a0 4 ((M a0 4) + 1))
def f_X11_numberHere_b77 (a0 : Nat)  (x2 : Int32) (M : Mem) : Option (Int32 × Mem) := (f_X11_tells M a0 x2).bind fun q => match q with | (r20, M21) => (some (0, M21))
def f_X11_numberHere_h7 (a0 : Nat)  : Nat → Int32 → Int32 → Mem → Option (Int32 × Mem)
  | 0, _, _, _ => none
  | n + 1, x1, x2, M => (f_X11_byteAt M a0 (M a0 4)).bind fun q => match q with | (r1, M2) => ((f_X11_isDigit M2 r1).bind fun q => match q with | (r5, M6) => (if r5 = 0 then (if x2 ≤ 9999 then (f_X11_numberHere_b77 a0 x2 M6) else ((f_X11_wrong M6 a0 2 x1).bind fun q => match q with | (r11, M12) => (f_X11_numberHere_b77 a0 x2 M12))) else ((f_X11_byteAt M6 a0 (M6 a0 4)).bind fun q => match q with | (r15, M16) => (if (((10 * x2) + r15) - 48) ≤ 100000 then (f_X11_numberHere_b50 a0 (f_X11_numberHere_h7 a0 n) (((10 * x2) + r15) - 48) x1 M16) else (f_X11_numberHere_b50 a0 (f_X11_numberHere_h7 a0 n) 100000 x1 M16)))))
def f_X11_numberHere  (M : Mem) (a0 : Nat) : Option (Int32 × Mem) := f_X11_numberHere_h7 a0 FU (M a0 4) 0 M
set_option maxHeartbeats 4000000 in
set_option maxRecDepth 100000 in
theorem w_X11_numberHere_b50 {g : gT} {p : Program} {l : Launch} {e : Env} {s : State} {m : MethodId} {args : Array Value} {below : List Frame} {meth : Method} {c : Code} {z : Int32 × Mem} (F : Fx g p s m args c cX11_numberHere 3 uX11_numberHere RX11) (hr : meth.sig.returnType = none) (hlk : meth.locks = false)  {a0 : Nat} (t0 : Ty g 11 a0) {k7 : Int32 → Int32 → Mem → Option (Int32 × Mem)} (hk7 : ∀ (x1 : Int32) (x2 : Int32) (M : Mem), k7 x1 x2 M = some z → V g p l e ({ frames := 1, cells := 0, slots := 0, locals := 40 * 1 } : Room) s m args below meth c 3 0 0 (MQ below (gQ g none z.2) args s 0 0 (gA g)) 7 [(0, .ref (gAd g a0)), (1, .int x1), (2, .int x2)] [] M) (s0 : Int32) (x1 : Int32) (M : Mem)  (h : f_X11_numberHere_b50 a0 k7 s0 x1 M = some z) : V g p l e ({ frames := 1, cells := 0, slots := 0, locals := 40 * 1 } : Room) s m args below meth c 3 0 0 (MQ below (gQ g none z.2) args s 0 0 (gA g)) 50 [(0, .ref (gAd g a0)), (1, .int x1)] [.int s0] M := by
  unfold f_X11_numberHere_b50 at h
  refine v_istore_n (lv' := [(2, .int s0), (0, .ref (gAd g a0)), (1, .int x1)]) F dX11_numberHere_50 rfl (by decide) rfl ?_
  refine v_aload_n F dX11_numberHere_51 rfl 1 rfl ?_
  refine v_dup F dX11_numberHere_52 rfl ?_
  refine v_getI (k := 4) F t0 (by decide) (inc inU_11) rfl rfl (by decide) (List.mem_cons_of_mem _ fl_X11_92) rfl dX11_numberHere_53 ?_
  refine v_iconst (v := 1) F dX11_numberHere_56 (by decide) ?_
  refine v_iadd F dX11_numberHere_57 ?_
  refine v_put (k := 4) (ty := .int) F t0 (by decide) (inc inU_11) tyX11 tyX11_ok nmX11 rfl rfl (by decide) (List.mem_cons_of_mem _ fl_X11_92) rfl rfl (by decide +kernel) rfl rfl dX11_numberHere_58 ?_
  refine v_goto (tgt := 7) F dX11_numberHere_61 (by decide) ?_
  refine v_sub (fun ls h9 => lv_sub h9 [1, 2, 0] rfl) ?_
  exact hk7 _ _ _ h
set_option maxHeartbeats 4000000 in
set_option maxRecDepth 100000 in
theorem w_X11_numberHere_b77 {g : gT} {p : Program} {l : Launch} {e : Env} {s : State} {m : MethodId} {args : Array Value} {below : List Frame} {meth : Method} {c : Code} {z : Int32 × Mem} (F : Fx g p s m args c cX11_numberHere 3 uX11_numberHere RX11) (hr : meth.sig.returnType = none) (hlk : meth.locks = false)  {a0 : Nat} (t0 : Ty g 11 a0)   (x2 : Int32) (M : Mem)  (h : f_X11_numberHere_b77 a0 x2 M = some z) : V g p l e ({ frames := 1, cells := 0, slots := 0, locals := 40 * 1 } : Room) s m args below meth c 3 0 0 (MQ below (gQ g none z.2) args s 0 0 (gA g)) 77 [(0, .ref (gAd g a0)), (2, .int x2)] [] M := by
  unfold f_X11_numberHere_b77 at h
  refine v_aload_n F dX11_numberHere_77 rfl 0 rfl ?_
  refine v_iload_n F dX11_numberHere_78 rfl 1 rfl ?_
  obtain ⟨⟨r20, M21⟩, hz22, h⟩ := bd_some h
  dsimp only at h
  refine v_callVv (As := [.int x2]) (rest := []) F (c_X11_tells l F.2.2.1 t0 hz22) (cwV 1 F.1.2.2.2.2 (gU_V ml_X11_117 im_yX11_tells se_yX11_tells ini_X11 cd_X11_tells) rfl rfl rfl (by decide +kernel) ⟨Nat.le_of_ble_eq_true rfl, Nat.le_of_ble_eq_true rfl⟩) t0 (by decide) rfl rfl rfl (Nat.le_of_ble_eq_true rfl) dX11_numberHere_79 ⟨Nat.le_of_ble_eq_true rfl, Nat.le_of_ble_eq_true rfl⟩ ?_
  cases h
  exact v_vret F hr hlk dX11_numberHere_82
set_option maxHeartbeats 4000000 in
set_option maxRecDepth 100000 in
theorem w_X11_numberHere_h7 {g : gT} {p : Program} {l : Launch} {e : Env} {s : State} {m : MethodId} {args : Array Value} {below : List Frame} {meth : Method} {c : Code} {z : Int32 × Mem} (F : Fx g p s m args c cX11_numberHere 3 uX11_numberHere RX11) (hr : meth.sig.returnType = none) (hlk : meth.locks = false)  {a0 : Nat} (t0 : Ty g 11 a0)   : ∀ (n : Nat) (x1 : Int32) (x2 : Int32) (M : Mem), f_X11_numberHere_h7 a0 n x1 x2 M = some z → V g p l e ({ frames := 1, cells := 0, slots := 0, locals := 40 * 1 } : Room) s m args below meth c 3 0 0 (MQ below (gQ g none z.2) args s 0 0 (gA g)) 7 [(0, .ref (gAd g a0)), (1, .int x1), (2, .int x2)] [] M := by
  intro n
  induction n with
  | zero => intro x1 x2 M; intros; rename_i h; cases h
  | succ n ih =>
    intro x1 x2 M h
    rw [f_X11_numberHere_h7] at h
    refine v_aload_n F dX11_numberHere_7 rfl 0 rfl ?_
    refine v_aload_n F dX11_numberHere_8 rfl 0 rfl ?_
    refine v_getI (k := 4) F t0 (by decide) (inc inU_11) rfl rfl (by decide) (List.mem_cons_of_mem _ fl_X11_92) rfl dX11_numberHere_9 ?_
    obtain ⟨⟨r1, M2⟩, hz3, h⟩ := bd_some h
    dsimp only at h
    refine v_callVi (As := [.int (M a0 4)]) (rest := []) F (c_X11_byteAt l F.2.2.1 t0 hz3) (cwV 1 F.1.2.2.2.2 (gU_V ml_X11_95 im_yX11_byteAt se_yX11_byteAt ini_X11 cd_X11_byteAt) rfl rfl rfl (by decide +kernel) ⟨Nat.le_of_ble_eq_true rfl, Nat.le_of_ble_eq_true rfl⟩) t0 (by decide) rfl rfl rfl (Nat.le_of_ble_eq_true rfl) dX11_numberHere_12 ⟨Nat.le_of_ble_eq_true rfl, Nat.le_of_ble_eq_true rfl⟩ ?_
    obtain ⟨⟨r5, M6⟩, hz7, h⟩ := bd_some h
    dsimp only at h
    refine v_callSi (As := [.int r1]) (rest := []) F (c_X11_isDigit l F.2.2.1  hz7) (cwS 1 F.1.2.2.2.2 (gU_S ml_X11_108 st_yX11_isDigit ini_X11 cd_X11_isDigit) rfl rfl rfl (by decide +kernel) ⟨Nat.le_of_ble_eq_true rfl, Nat.le_of_ble_eq_true rfl⟩) rfl rfl (Nat.le_of_ble_eq_true rfl) dX11_numberHere_15 ⟨Nat.le_of_ble_eq_true rfl, Nat.le_of_ble_eq_true rfl⟩ ?_
    refine v_if_eq (tgt := 64) F dX11_numberHere_18 (by decide) (fun hc9 => ?_) (fun hc9 => ?_)
    · rw [if_pos hc9] at h
      refine v_iload_n F dX11_numberHere_64 rfl 2 rfl ?_
      refine v_sipush (v := 9999) F dX11_numberHere_65 (by decide) ?_
      refine v_icmp_le (tgt := 77) F dX11_numberHere_68 (by decide) (fun hc10 => ?_) (fun hc10 => ?_)
      · rw [if_pos hc10] at h
        refine v_sub (fun ls h9 => lv_sub h9 [0, 2] rfl) ?_
        exact w_X11_numberHere_b77 F hr hlk t0 _ _ h
      · rw [if_neg hc10] at h
        refine v_aload_n F dX11_numberHere_71 rfl 0 rfl ?_
        refine v_iconst (v := 2) F dX11_numberHere_72 (by decide) ?_
        refine v_iload_n F dX11_numberHere_73 rfl 1 rfl ?_
        obtain ⟨⟨r11, M12⟩, hz13, h⟩ := bd_some h
        dsimp only at h
        refine v_callVv (As := [.int 2, .int x1]) (rest := []) F (c_X11_wrong l F.2.2.1 t0 hz13) (cwV 2 F.1.2.2.2.2 (gU_V ml_X11_113 im_yX11_wrong se_yX11_wrong ini_X11 cd_X11_wrong) rfl rfl rfl (by decide +kernel) ⟨Nat.le_of_ble_eq_true rfl, Nat.le_of_ble_eq_true rfl⟩) t0 (by decide) rfl rfl rfl (Nat.le_of_ble_eq_true rfl) dX11_numberHere_74 ⟨Nat.le_of_ble_eq_true rfl, Nat.le_of_ble_eq_true rfl⟩ ?_
        refine v_sub (fun ls h9 => lv_sub h9 [0, 2] rfl) ?_
        exact w_X11_numberHere_b77 F hr hlk t0 _ _ h
    · rw [if_neg hc9] at h
      refine v_bipush (v := 10) F dX11_numberHere_21 (by decide) ?_
      refine v_iload_n F dX11_numberHere_23 rfl 2 rfl ?_
      refine v_imul F dX11_numberHere_24 ?_
      refine v_aload_n F dX11_numberHere_25 rfl 0 rfl ?_
      refine v_aload_n F dX11_numberHere_26 rfl 0 rfl ?_
      refine v_getI (k := 4) F t0 (by decide) (inc inU_11) rfl rfl (by decide) (List.mem_cons_of_mem _ fl_X11_92) rfl dX11_numberHere_27 ?_
      obtain ⟨⟨r15, M16⟩, hz17, h⟩ := bd_some h
      dsimp only at h
      refine v_callVi (As := [.int (M6 a0 4)]) (rest := [.int (10 * x2)]) F (c_X11_byteAt l F.2.2.1 t0 hz17) (cwV 1 F.1.2.2.2.2 (gU_V ml_X11_95 im_yX11_byteAt se_yX11_byteAt ini_X11 cd_X11_byteAt) rfl rfl rfl (by decide +kernel) ⟨Nat.le_of_ble_eq_true rfl, Nat.le_of_ble_eq_true rfl⟩) t0 (by decide) rfl rfl rfl (Nat.le_of_ble_eq_true rfl) dX11_numberHere_30 ⟨Nat.le_of_ble_eq_true rfl, Nat.le_of_ble_eq_true rfl⟩ ?_
      refine v_iadd F dX11_numberHere_33 ?_
      refine v_bipush (v := 48) F dX11_numberHere_34 (by decide) ?_
      refine v_isub F dX11_numberHere_36 ?_
      refine v_istore_n (lv' := [(2, .int (((10 * x2) + r15) - 48)), (0, .ref (gAd g a0)), (1, .int x1)]) F dX11_numberHere_37 rfl (by decide) rfl ?_
      refine v_iload_n F dX11_numberHere_38 rfl 0 rfl ?_
      refine v_ldc (v := 100000) F (F.1.2.2.2.2 _ (List.mem_cons_of_mem _ cn_X11_112)) dX11_numberHere_39 ?_
      refine v_icmp_le (tgt := 49) F dX11_numberHere_41 (by decide) (fun hc19 => ?_) (fun hc19 => ?_)
      · rw [if_pos hc19] at h
        refine v_iload_n F dX11_numberHere_49 rfl 0 rfl ?_
        refine v_sub (fun ls h9 => lv_sub h9 [1, 2] rfl) ?_
        exact w_X11_numberHere_b50 F hr hlk t0 ih _ _ _ h
      · rw [if_neg hc19] at h
        refine v_ldc (v := 100000) F (F.1.2.2.2.2 _ (List.mem_cons_of_mem _ cn_X11_112)) dX11_numberHere_44 ?_
        refine v_goto (tgt := 50) F dX11_numberHere_46 (by decide) ?_
        refine v_sub (fun ls h9 => lv_sub h9 [1, 2] rfl) ?_
        exact w_X11_numberHere_b50 F hr hlk t0 ih _ _ _ h
set_option maxHeartbeats 4000000 in
set_option maxRecDepth 100000 in
theorem c_X11_numberHere {g : gT} (l : Launch) (hok : gOK g)  {a0 : Nat} {M : Mem} {z : Int32 × Mem}  (t0 : Ty g 11 a0) (h : f_X11_numberHere  M a0 = some z) : Cn g l yX11_numberHere uX11_numberHere 1 [.ref (gAd g a0)] M none z.2 := by
  refine Cn.of (cc := cX11_numberHere) (maxL := 3) (ret := none) hok (by decide) rfl (Nat.le_of_ble_eq_true rfl) (fun p e s m args below meth c F hr hlk => ?_)
  unfold f_X11_numberHere at h
  show V g p l e ({ frames := 1, cells := 0, slots := 0, locals := 40 * 1 } : Room) s m args below meth c 3 0 0 (MQ below (gQ g none z.2) args s 0 0 (gA g)) 0 [(0, .ref (gAd g a0))] [] M
  refine v_aload_n F dX11_numberHere_0 rfl 0 rfl ?_
  refine v_getI (k := 4) F t0 (by decide) (inc inU_11) rfl rfl (by decide) (List.mem_cons_of_mem _ fl_X11_92) rfl dX11_numberHere_1 ?_
  refine v_istore_n (lv' := [(1, .int (M a0 4)), (0, .ref (gAd g a0))]) F dX11_numberHere_4 rfl (by decide) rfl ?_
  refine v_iconst (v := 0) F dX11_numberHere_5 (by decide) ?_
  refine v_istore_n (lv' := [(2, .int 0), (1, .int (M a0 4)), (0, .ref (gAd g a0))]) F dX11_numberHere_6 rfl (by decide) rfl ?_
  refine v_sub (fun ls h9 => lv_sub h9 [2, 1, 0] rfl) ?_
  exact w_X11_numberHere_h7 F hr hlk t0 _ _ _ _ h
def f_X11_wordHere_b68 (a0 : Nat) (k8 : Int32 → Int32 → Mem → Option (Int32 × Mem)) (s0 : Int32) (x2 : Int32) (M : Mem) : Option (Int32 × Mem) := k8 s0 (x2 + 1) M
def f_X11_wordHere_b75 (a0 : Nat)  (x1 : Int32) (x2 : Int32) (M : Mem) : Option (Int32 × Mem) := if x2 ≤ 6 then (some (x1, M)) else (some ((-1), M))
def f_X11_wordHere_h8 (a0 : Nat)  : Nat → Int32 → Int32 → Mem → Option (Int32 × Mem)
  | 0, _, _, _ => none
  | n + 1, x1, x2, M => (f_X11_byteAt M a0 ((M a0 4) + x2)).bind fun q => match q with | (r5, M6) => (if r5 < 97 then (f_X11_wordHere_b75 a0 x1 x2 M6) else ((f_X11_byteAt M6 a0 ((M6 a0 4) + x2)).bind fun q => match q with | (r10, M11) => (if 122 < r10 then (f_X11_wordHere_b75 a0 x1 x2 M11) else (if 6 ≤ x2 then (f_X11_wordHere_b68 a0 (f_X11_wordHere_h8 a0 n) x1 x2 M11) else ((f_X11_byteAt M11 a0 ((M11 a0 4) + x2)).bind fun q => match q with | (r16, M17) => (f_X11_wordHere_b68 a0 (f_X11_wordHere_h8 a0 n) ((((27 * x1) + r16) - 97) + 1) x2 M17))))))
def f_X11_wordHere  (M : Mem) (a0 : Nat) : Option (Int32 × Mem) := (f_X11_blanks M a0).bind fun q => match q with | (r1, M2) => (f_X11_wordHere_h8 a0 FU 0 0 M2)
set_option maxHeartbeats 4000000 in
set_option maxRecDepth 100000 in
theorem w_X11_wordHere_b68 {g : gT} {p : Program} {l : Launch} {e : Env} {s : State} {m : MethodId} {args : Array Value} {below : List Frame} {meth : Method} {c : Code} {z : Int32 × Mem} (F : Fx g p s m args c cX11_wordHere 3 uX11_wordHere RX11) (hr : meth.sig.returnType = (some .int)) (hlk : meth.locks = false)  {a0 : Nat} (t0 : Ty g 11 a0) {k8 : Int32 → Int32 → Mem → Option (Int32 × Mem)} (hk8 : ∀ (x1 : Int32) (x2 : Int32) (M : Mem), k8 x1 x2 M = some z → V g p l e ({ frames := 2, cells := 0, slots := 0, locals := 40 * 2 } : Room) s m args below meth c 3 0 0 (MQ below (gQ g (some (.int z.1)) z.2) args s 0 0 (gA g)) 8 [(0, .ref (gAd g a0)), (1, .int x1), (2, .int x2)] [] M) (s0 : Int32) (x2 : Int32) (M : Mem)  (h : f_X11_wordHere_b68 a0 k8 s0 x2 M = some z) : V g p l e ({ frames := 2, cells := 0, slots := 0, locals := 40 * 2 } : Room) s m args below meth c 3 0 0 (MQ below (gQ g (some (.int z.1)) z.2) args s 0 0 (gA g)) 68 [(0, .ref (gAd g a0)), (2, .int x2)] [.int s0] M := by
  unfold f_X11_wordHere_b68 at h
  refine v_istore_n (lv' := [(1, .int s0), (0, .ref (gAd g a0)), (2, .int x2)]) F dX11_wordHere_68 rfl (by decide) rfl ?_
  refine v_iinc (v := x2 + 1) (lv' := [(2, .int (x2 + 1)), (1, .int s0), (0, .ref (gAd g a0))]) F dX11_wordHere_69 (q := 2) rfl rfl (by decide) rfl ?_
  refine v_goto (tgt := 8) F dX11_wordHere_72 (by decide) ?_
  refine v_sub (fun ls h9 => lv_sub h9 [2, 1, 0] rfl) ?_
  exact hk8 _ _ _ h
set_option maxHeartbeats 4000000 in
set_option maxRecDepth 100000 in
theorem w_X11_wordHere_b75 {g : gT} {p : Program} {l : Launch} {e : Env} {s : State} {m : MethodId} {args : Array Value} {below : List Frame} {meth : Method} {c : Code} {z : Int32 × Mem} (F : Fx g p s m args c cX11_wordHere 3 uX11_wordHere RX11) (hr : meth.sig.returnType = (some .int)) (hlk : meth.locks = false)  {a0 : Nat} (t0 : Ty g 11 a0)   (x1 : Int32) (x2 : Int32) (M : Mem)  (h : f_X11_wordHere_b75 a0 x1 x2 M = some z) : V g p l e ({ frames := 2, cells := 0, slots := 0, locals := 40 * 2 } : Room) s m args below meth c 3 0 0 (MQ below (gQ g (some (.int z.1)) z.2) args s 0 0 (gA g)) 75 [(0, .ref (gAd g a0)), (1, .int x1), (2, .int x2)] [] M := by
  unfold f_X11_wordHere_b75 at h
  refine v_iload_n F dX11_wordHere_75 rfl 2 rfl ?_
  refine v_bipush (v := 6) F dX11_wordHere_76 (by decide) ?_
  refine v_icmp_le (tgt := 85) F dX11_wordHere_78 (by decide) (fun hc20 => ?_) (fun hc20 => ?_)
  · rw [if_pos hc20] at h
    refine v_iload_n F dX11_wordHere_85 rfl 1 rfl ?_
    cases h
    exact v_iret F hr rfl hlk dX11_wordHere_86
  · rw [if_neg hc20] at h
    refine v_iconst (v := (-1)) F dX11_wordHere_81 (by decide) ?_
    refine v_goto (tgt := 86) F dX11_wordHere_82 (by decide) ?_
    cases h
    exact v_iret F hr rfl hlk dX11_wordHere_86
set_option maxHeartbeats 4000000 in
set_option maxRecDepth 100000 in
theorem w_X11_wordHere_h8 {g : gT} {p : Program} {l : Launch} {e : Env} {s : State} {m : MethodId} {args : Array Value} {below : List Frame} {meth : Method} {c : Code} {z : Int32 × Mem} (F : Fx g p s m args c cX11_wordHere 3 uX11_wordHere RX11) (hr : meth.sig.returnType = (some .int)) (hlk : meth.locks = false)  {a0 : Nat} (t0 : Ty g 11 a0)   : ∀ (n : Nat) (x1 : Int32) (x2 : Int32) (M : Mem), f_X11_wordHere_h8 a0 n x1 x2 M = some z → V g p l e ({ frames := 2, cells := 0, slots := 0, locals := 40 * 2 } : Room) s m args below meth c 3 0 0 (MQ below (gQ g (some (.int z.1)) z.2) args s 0 0 (gA g)) 8 [(0, .ref (gAd g a0)), (1, .int x1), (2, .int x2)] [] M := by
  intro n
  induction n with
  | zero => intro x1 x2 M; intros; rename_i h; cases h
  | succ n ih =>
    intro x1 x2 M h
    rw [f_X11_wordHere_h8] at h
    refine v_aload_n F dX11_wordHere_8 rfl 0 rfl ?_
    refine v_aload_n F dX11_wordHere_9 rfl 0 rfl ?_
    refine v_getI (k := 4) F t0 (by decide) (inc inU_11) rfl rfl (by decide) (List.mem_cons_of_mem _ fl_X11_92) rfl dX11_wordHere_10 ?_
    refine v_iload_n F dX11_wordHere_13 rfl 2 rfl ?_
    refine v_iadd F dX11_wordHere_14 ?_
    obtain ⟨⟨r5, M6⟩, hz7, h⟩ := bd_some h
    dsimp only at h
    refine v_callVi (As := [.int ((M a0 4) + x2)]) (rest := []) F (c_X11_byteAt l F.2.2.1 t0 hz7) (cwV 1 F.1.2.2.2.2 (gU_V ml_X11_95 im_yX11_byteAt se_yX11_byteAt ini_X11 cd_X11_byteAt) rfl rfl rfl (by decide +kernel) ⟨Nat.le_of_ble_eq_true rfl, Nat.le_of_ble_eq_true rfl⟩) t0 (by decide) rfl rfl rfl (Nat.le_of_ble_eq_true rfl) dX11_wordHere_15 ⟨Nat.le_of_ble_eq_true rfl, Nat.le_of_ble_eq_true rfl⟩ ?_
    refine v_bipush (v := 97) F dX11_wordHere_18 (by decide) ?_
    refine v_icmp_lt (tgt := 75) F dX11_wordHere_20 (by decide) (fun hc9 => ?_) (fun hc9 => ?_)
    · rw [if_pos hc9] at h
      exact w_X11_wordHere_b75 F hr hlk t0 _ _ _ h
    · rw [if_neg hc9] at h
      refine v_aload_n F dX11_wordHere_23 rfl 0 rfl ?_
      refine v_aload_n F dX11_wordHere_24 rfl 0 rfl ?_
      refine v_getI (k := 4) F t0 (by decide) (inc inU_11) rfl rfl (by decide) (List.mem_cons_of_mem _ fl_X11_92) rfl dX11_wordHere_25 ?_
      refine v_iload_n F dX11_wordHere_28 rfl 2 rfl ?_
      refine v_iadd F dX11_wordHere_29 ?_
      obtain ⟨⟨r10, M11⟩, hz12, h⟩ := bd_some h
      dsimp only at h
      refine v_callVi (As := [.int ((M6 a0 4) + x2)]) (rest := []) F (c_X11_byteAt l F.2.2.1 t0 hz12) (cwV 1 F.1.2.2.2.2 (gU_V ml_X11_95 im_yX11_byteAt se_yX11_byteAt ini_X11 cd_X11_byteAt) rfl rfl rfl (by decide +kernel) ⟨Nat.le_of_ble_eq_true rfl, Nat.le_of_ble_eq_true rfl⟩) t0 (by decide) rfl rfl rfl (Nat.le_of_ble_eq_true rfl) dX11_wordHere_30 ⟨Nat.le_of_ble_eq_true rfl, Nat.le_of_ble_eq_true rfl⟩ ?_
      refine v_bipush (v := 122) F dX11_wordHere_33 (by decide) ?_
      refine v_icmp_gt (tgt := 75) F dX11_wordHere_35 (by decide) (fun hc14 => ?_) (fun hc14 => ?_)
      · rw [if_pos hc14] at h
        exact w_X11_wordHere_b75 F hr hlk t0 _ _ _ h
      · rw [if_neg hc14] at h
        refine v_iload_n F dX11_wordHere_38 rfl 2 rfl ?_
        refine v_bipush (v := 6) F dX11_wordHere_39 (by decide) ?_
        refine v_icmp_ge (tgt := 67) F dX11_wordHere_41 (by decide) (fun hc15 => ?_) (fun hc15 => ?_)
        · rw [if_pos hc15] at h
          refine v_iload_n F dX11_wordHere_67 rfl 1 rfl ?_
          refine v_sub (fun ls h9 => lv_sub h9 [0, 2] rfl) ?_
          exact w_X11_wordHere_b68 F hr hlk t0 ih _ _ _ h
        · rw [if_neg hc15] at h
          refine v_bipush (v := 27) F dX11_wordHere_44 (by decide) ?_
          refine v_iload_n F dX11_wordHere_46 rfl 1 rfl ?_
          refine v_imul F dX11_wordHere_47 ?_
          refine v_aload_n F dX11_wordHere_48 rfl 0 rfl ?_
          refine v_aload_n F dX11_wordHere_49 rfl 0 rfl ?_
          refine v_getI (k := 4) F t0 (by decide) (inc inU_11) rfl rfl (by decide) (List.mem_cons_of_mem _ fl_X11_92) rfl dX11_wordHere_50 ?_
          refine v_iload_n F dX11_wordHere_53 rfl 2 rfl ?_
          refine v_iadd F dX11_wordHere_54 ?_
          obtain ⟨⟨r16, M17⟩, hz18, h⟩ := bd_some h
          dsimp only at h
          refine v_callVi (As := [.int ((M11 a0 4) + x2)]) (rest := [.int (27 * x1)]) F (c_X11_byteAt l F.2.2.1 t0 hz18) (cwV 1 F.1.2.2.2.2 (gU_V ml_X11_95 im_yX11_byteAt se_yX11_byteAt ini_X11 cd_X11_byteAt) rfl rfl rfl (by decide +kernel) ⟨Nat.le_of_ble_eq_true rfl, Nat.le_of_ble_eq_true rfl⟩) t0 (by decide) rfl rfl rfl (Nat.le_of_ble_eq_true rfl) dX11_wordHere_55 ⟨Nat.le_of_ble_eq_true rfl, Nat.le_of_ble_eq_true rfl⟩ ?_
          refine v_iadd F dX11_wordHere_58 ?_
          refine v_bipush (v := 97) F dX11_wordHere_59 (by decide) ?_
          refine v_isub F dX11_wordHere_61 ?_
          refine v_iconst (v := 1) F dX11_wordHere_62 (by decide) ?_
          refine v_iadd F dX11_wordHere_63 ?_
          refine v_goto (tgt := 68) F dX11_wordHere_64 (by decide) ?_
          refine v_sub (fun ls h9 => lv_sub h9 [0, 2] rfl) ?_
          exact w_X11_wordHere_b68 F hr hlk t0 ih _ _ _ h
set_option maxHeartbeats 4000000 in
set_option maxRecDepth 100000 in
theorem c_X11_wordHere {g : gT} (l : Launch) (hok : gOK g)  {a0 : Nat} {M : Mem} {z : Int32 × Mem}  (t0 : Ty g 11 a0) (h : f_X11_wordHere  M a0 = some z) : Cn g l yX11_wordHere uX11_wordHere 2 [.ref (gAd g a0)] M (some (.int z.1)) z.2 := by
  refine Cn.of (cc := cX11_wordHere) (maxL := 3) (ret := (some .int)) hok (by decide) rfl (Nat.le_of_ble_eq_true rfl) (fun p e s m args below meth c F hr hlk => ?_)
  unfold f_X11_wordHere at h
  show V g p l e ({ frames := 2, cells := 0, slots := 0, locals := 40 * 2 } : Room) s m args below meth c 3 0 0 (MQ below (gQ g (some (.int z.1)) z.2) args s 0 0 (gA g)) 0 [(0, .ref (gAd g a0))] [] M
  refine v_aload_n F dX11_wordHere_0 rfl 0 rfl ?_
  obtain ⟨⟨r1, M2⟩, hz3, h⟩ := bd_some h
  dsimp only at h
  refine v_callVv (As := []) (rest := []) F (c_X11_blanks l F.2.2.1 t0 hz3) (cwV 0 F.1.2.2.2.2 (gU_V ml_X11_121 im_yX11_blanks se_yX11_blanks ini_X11 cd_X11_blanks) rfl rfl rfl (by decide +kernel) ⟨Nat.le_of_ble_eq_true rfl, Nat.le_of_ble_eq_true rfl⟩) t0 (by decide) rfl rfl rfl (Nat.le_of_ble_eq_true rfl) dX11_wordHere_1 ⟨Nat.le_of_ble_eq_true rfl, Nat.le_of_ble_eq_true rfl⟩ ?_
  refine v_iconst (v := 0) F dX11_wordHere_4 (by decide) ?_
  refine v_istore_n (lv' := [(1, .int 0), (0, .ref (gAd g a0))]) F dX11_wordHere_5 rfl (by decide) rfl ?_
  refine v_iconst (v := 0) F dX11_wordHere_6 (by decide) ?_
  refine v_istore_n (lv' := [(2, .int 0), (1, .int 0), (0, .ref (gAd g a0))]) F dX11_wordHere_7 rfl (by decide) rfl ?_
  refine v_sub (fun ls h9 => lv_sub h9 [2, 1, 0] rfl) ?_
  exact w_X11_wordHere_h8 F hr hlk t0 _ _ _ _ h
def f_X11_word_b62 (i0 : Int32) (i1 : Int32) (i2 : Int32) (i3 : Int32) (i4 : Int32) (i5 : Int32)  (s0 : Int32) (M : Mem) : Option (Int32 × Mem) := if i5 = 0 then (some (s0, M)) else (some ((27 * s0) + i5, M))
def f_X11_word_b42 (i0 : Int32) (i1 : Int32) (i2 : Int32) (i3 : Int32) (i4 : Int32) (i5 : Int32)  (s0 : Int32) (M : Mem) : Option (Int32 × Mem) := if i4 = 0 then (f_X11_word_b62 i0 i1 i2 i3 i4 i5 s0 M) else (f_X11_word_b62 i0 i1 i2 i3 i4 i5 ((27 * s0) + i4) M)
def f_X11_word_b24 (i0 : Int32) (i1 : Int32) (i2 : Int32) (i3 : Int32) (i4 : Int32) (i5 : Int32)  (s0 : Int32) (M : Mem) : Option (Int32 × Mem) := if i3 = 0 then (f_X11_word_b42 i0 i1 i2 i3 i4 i5 s0 M) else (f_X11_word_b42 i0 i1 i2 i3 i4 i5 ((27 * s0) + i3) M)
def f_X11_word  (M : Mem) (i0 : Int32) (i1 : Int32) (i2 : Int32) (i3 : Int32) (i4 : Int32) (i5 : Int32) : Option (Int32 × Mem) := if i2 = 0 then (f_X11_word_b24 i0 i1 i2 i3 i4 i5 ((27 * i0) + i1) M) else (f_X11_word_b24 i0 i1 i2 i3 i4 i5 ((27 * ((27 * i0) + i1)) + i2) M)
set_option maxHeartbeats 4000000 in
set_option maxRecDepth 100000 in
theorem w_X11_word_b62 {g : gT} {p : Program} {l : Launch} {e : Env} {s : State} {m : MethodId} {args : Array Value} {below : List Frame} {meth : Method} {c : Code} {z : Int32 × Mem} (F : Fx g p s m args c cX11_word 7 uX11_word RX11) (hr : meth.sig.returnType = (some .int)) (hlk : meth.locks = false)  {i0 : Int32} {i1 : Int32} {i2 : Int32} {i3 : Int32} {i4 : Int32} {i5 : Int32}    (s0 : Int32) (M : Mem)  (h : f_X11_word_b62 i0 i1 i2 i3 i4 i5 s0 M = some z) : V g p l e ({ frames := 0, cells := 0, slots := 0, locals := 40 * 0 } : Room) s m args below meth c 7 0 0 (MQ below (gQ g (some (.int z.1)) z.2) args s 0 0 (gA g)) 62 [(0, .int i0), (1, .int i1), (2, .int i2), (3, .int i3), (4, .int i4), (5, .int i5)] [.int s0] M := by
  unfold f_X11_word_b62 at h
  refine v_istore (lv' := [(6, .int s0), (0, .int i0), (1, .int i1), (2, .int i2), (3, .int i3), (4, .int i4), (5, .int i5)]) F dX11_word_62 (by decide) rfl ?_
  refine v_iload F dX11_word_64 6 rfl ?_
  refine v_if_ne (tgt := 74) F dX11_word_66 (by decide) (fun hc4 => ?_) (fun hc4 => ?_)
  · rw [if_neg hc4] at h
    refine v_bipush (v := 27) F dX11_word_74 (by decide) ?_
    refine v_iload F dX11_word_76 0 rfl ?_
    refine v_imul F dX11_word_78 ?_
    refine v_iload F dX11_word_79 6 rfl ?_
    refine v_iadd F dX11_word_81 ?_
    cases h
    exact v_iret F hr rfl hlk dX11_word_82
  · rw [if_pos hc4] at h
    refine v_iload F dX11_word_69 0 rfl ?_
    refine v_goto (tgt := 82) F dX11_word_71 (by decide) ?_
    cases h
    exact v_iret F hr rfl hlk dX11_word_82
set_option maxHeartbeats 4000000 in
set_option maxRecDepth 100000 in
theorem w_X11_word_b42 {g : gT} {p : Program} {l : Launch} {e : Env} {s : State} {m : MethodId} {args : Array Value} {below : List Frame} {meth : Method} {c : Code} {z : Int32 × Mem} (F : Fx g p s m args c cX11_word 7 uX11_word RX11) (hr : meth.sig.returnType = (some .int)) (hlk : meth.locks = false)  {i0 : Int32} {i1 : Int32} {i2 : Int32} {i3 : Int32} {i4 : Int32} {i5 : Int32}    (s0 : Int32) (M : Mem)  (h : f_X11_word_b42 i0 i1 i2 i3 i4 i5 s0 M = some z) : V g p l e ({ frames := 0, cells := 0, slots := 0, locals := 40 * 0 } : Room) s m args below meth c 7 0 0 (MQ below (gQ g (some (.int z.1)) z.2) args s 0 0 (gA g)) 42 [(0, .int i0), (1, .int i1), (2, .int i2), (3, .int i3), (4, .int i4), (5, .int i5)] [.int s0] M := by
  unfold f_X11_word_b42 at h
  refine v_istore (lv' := [(6, .int s0), (0, .int i0), (1, .int i1), (2, .int i2), (3, .int i3), (4, .int i4), (5, .int i5)]) F dX11_word_42 (by decide) rfl ?_
  refine v_iload F dX11_word_44 5 rfl ?_
  refine v_if_ne (tgt := 54) F dX11_word_46 (by decide) (fun hc3 => ?_) (fun hc3 => ?_)
  · rw [if_neg hc3] at h
    refine v_bipush (v := 27) F dX11_word_54 (by decide) ?_
    refine v_iload F dX11_word_56 0 rfl ?_
    refine v_imul F dX11_word_58 ?_
    refine v_iload F dX11_word_59 5 rfl ?_
    refine v_iadd F dX11_word_61 ?_
    refine v_sub (fun ls h9 => lv_sub h9 [1, 2, 3, 4, 5, 6] rfl) ?_
    exact w_X11_word_b62 F hr hlk _ _ h
  · rw [if_pos hc3] at h
    refine v_iload F dX11_word_49 0 rfl ?_
    refine v_goto (tgt := 62) F dX11_word_51 (by decide) ?_
    refine v_sub (fun ls h9 => lv_sub h9 [1, 2, 3, 4, 5, 6] rfl) ?_
    exact w_X11_word_b62 F hr hlk _ _ h
set_option maxHeartbeats 4000000 in
set_option maxRecDepth 100000 in
theorem w_X11_word_b24 {g : gT} {p : Program} {l : Launch} {e : Env} {s : State} {m : MethodId} {args : Array Value} {below : List Frame} {meth : Method} {c : Code} {z : Int32 × Mem} (F : Fx g p s m args c cX11_word 7 uX11_word RX11) (hr : meth.sig.returnType = (some .int)) (hlk : meth.locks = false)  {i0 : Int32} {i1 : Int32} {i2 : Int32} {i3 : Int32} {i4 : Int32} {i5 : Int32}    (s0 : Int32) (M : Mem)  (h : f_X11_word_b24 i0 i1 i2 i3 i4 i5 s0 M = some z) : V g p l e ({ frames := 0, cells := 0, slots := 0, locals := 40 * 0 } : Room) s m args below meth c 7 0 0 (MQ below (gQ g (some (.int z.1)) z.2) args s 0 0 (gA g)) 24 [(0, .int i0), (1, .int i1), (2, .int i2), (3, .int i3), (4, .int i4), (5, .int i5)] [.int s0] M := by
  unfold f_X11_word_b24 at h
  refine v_istore (lv' := [(6, .int s0), (0, .int i0), (1, .int i1), (2, .int i2), (3, .int i3), (4, .int i4), (5, .int i5)]) F dX11_word_24 (by decide) rfl ?_
  refine v_iload_n F dX11_word_26 rfl 4 rfl ?_
  refine v_if_ne (tgt := 35) F dX11_word_27 (by decide) (fun hc2 => ?_) (fun hc2 => ?_)
  · rw [if_neg hc2] at h
    refine v_bipush (v := 27) F dX11_word_35 (by decide) ?_
    refine v_iload F dX11_word_37 0 rfl ?_
    refine v_imul F dX11_word_39 ?_
    refine v_iload_n F dX11_word_40 rfl 4 rfl ?_
    refine v_iadd F dX11_word_41 ?_
    refine v_sub (fun ls h9 => lv_sub h9 [1, 2, 3, 4, 5, 6] rfl) ?_
    exact w_X11_word_b42 F hr hlk _ _ h
  · rw [if_pos hc2] at h
    refine v_iload F dX11_word_30 0 rfl ?_
    refine v_goto (tgt := 42) F dX11_word_32 (by decide) ?_
    refine v_sub (fun ls h9 => lv_sub h9 [1, 2, 3, 4, 5, 6] rfl) ?_
    exact w_X11_word_b42 F hr hlk _ _ h
set_option maxHeartbeats 4000000 in
set_option maxRecDepth 100000 in
theorem c_X11_word {g : gT} (l : Launch) (hok : gOK g)  {i0 : Int32} {i1 : Int32} {i2 : Int32} {i3 : Int32} {i4 : Int32} {i5 : Int32} {M : Mem} {z : Int32 × Mem}   (h : f_X11_word  M i0 i1 i2 i3 i4 i5 = some z) : Cn g l yX11_word uX11_word 0 [.int i0, .int i1, .int i2, .int i3, .int i4, .int i5] M (some (.int z.1)) z.2 := by
  refine Cn.of (cc := cX11_word) (maxL := 7) (ret := (some .int)) hok (by decide) rfl (Nat.le_of_ble_eq_true rfl) (fun p e s m args below meth c F hr hlk => ?_)
  unfold f_X11_word at h
  show V g p l e ({ frames := 0, cells := 0, slots := 0, locals := 40 * 0 } : Room) s m args below meth c 7 0 0 (MQ below (gQ g (some (.int z.1)) z.2) args s 0 0 (gA g)) 0 [(0, .int i0), (1, .int i1), (2, .int i2), (3, .int i3), (4, .int i4), (5, .int i5)] [] M
  refine v_bipush (v := 27) F dX11_word_0 (by decide) ?_
  refine v_iload_n F dX11_word_2 rfl 0 rfl ?_
  refine v_imul F dX11_word_3 ?_
  refine v_iload_n F dX11_word_4 rfl 1 rfl ?_
  refine v_iadd F dX11_word_5 ?_
  refine v_istore (lv' := [(6, .int ((27 * i0) + i1)), (0, .int i0), (1, .int i1), (2, .int i2), (3, .int i3), (4, .int i4), (5, .int i5)]) F dX11_word_6 (by decide) rfl ?_
  refine v_iload_n F dX11_word_8 rfl 3 rfl ?_
  refine v_if_ne (tgt := 17) F dX11_word_9 (by decide) (fun hc1 => ?_) (fun hc1 => ?_)
  · rw [if_neg hc1] at h
    refine v_bipush (v := 27) F dX11_word_17 (by decide) ?_
    refine v_iload F dX11_word_19 0 rfl ?_
    refine v_imul F dX11_word_21 ?_
    refine v_iload_n F dX11_word_22 rfl 3 rfl ?_
    refine v_iadd F dX11_word_23 ?_
    refine v_sub (fun ls h9 => lv_sub h9 [1, 2, 3, 4, 5, 6] rfl) ?_
    exact w_X11_word_b24 F hr hlk _ _ h
  · rw [if_pos hc1] at h
    refine v_iload F dX11_word_12 0 rfl ?_
    refine v_goto (tgt := 24) F dX11_word_14 (by decide) ?_
    refine v_sub (fun ls h9 => lv_sub h9 [1, 2, 3, 4, 5, 6] rfl) ?_
    exact w_X11_word_b24 F hr hlk _ _ h
def f_X11_isWord  (M : Mem) (a0 : Nat) (i1 : Int32) (i2 : Int32) (i3 : Int32) (i4 : Int32) (i5 : Int32) (i6 : Int32) : Option (Int32 × Mem) := (f_X11_wordHere M a0).bind fun q => match q with | (r1, M2) => ((f_X11_word M2 i1 i2 i3 i4 i5 i6).bind fun q => match q with | (r5, M6) => (if r1 = r5 then (some (1, M6)) else (some (0, M6))))
set_option maxHeartbeats 4000000 in
set_option maxRecDepth 100000 in
theorem c_X11_isWord {g : gT} (l : Launch) (hok : gOK g)  {a0 : Nat} {i1 : Int32} {i2 : Int32} {i3 : Int32} {i4 : Int32} {i5 : Int32} {i6 : Int32} {M : Mem} {z : Int32 × Mem}  (t0 : Ty g 11 a0) (h : f_X11_isWord  M a0 i1 i2 i3 i4 i5 i6 = some z) : Cn g l yX11_isWord uX11_isWord 3 [.ref (gAd g a0), .int i1, .int i2, .int i3, .int i4, .int i5, .int i6] M (some (.int z.1)) z.2 := by
  refine Cn.of (cc := cX11_isWord) (maxL := 7) (ret := (some .boolean)) hok (by decide) rfl (Nat.le_of_ble_eq_true rfl) (fun p e s m args below meth c F hr hlk => ?_)
  unfold f_X11_isWord at h
  show V g p l e ({ frames := 3, cells := 0, slots := 0, locals := 40 * 3 } : Room) s m args below meth c 7 0 0 (MQ below (gQ g (some (.int z.1)) z.2) args s 0 0 (gA g)) 0 [(0, .ref (gAd g a0)), (1, .int i1), (2, .int i2), (3, .int i3), (4, .int i4), (5, .int i5), (6, .int i6)] [] M
  refine v_aload_n F dX11_isWord_0 rfl 0 rfl ?_
  obtain ⟨⟨r1, M2⟩, hz3, h⟩ := bd_some h
  dsimp only at h
  refine v_callVi (As := []) (rest := []) F (c_X11_wordHere l F.2.2.1 t0 hz3) (cwV 0 F.1.2.2.2.2 (gU_V ml_X11_124 im_yX11_wordHere se_yX11_wordHere ini_X11 cd_X11_wordHere) rfl rfl rfl (by decide +kernel) ⟨Nat.le_of_ble_eq_true rfl, Nat.le_of_ble_eq_true rfl⟩) t0 (by decide) rfl rfl rfl (Nat.le_of_ble_eq_true rfl) dX11_isWord_1 ⟨Nat.le_of_ble_eq_true rfl, Nat.le_of_ble_eq_true rfl⟩ ?_
  refine v_iload_n F dX11_isWord_4 rfl 1 rfl ?_
  refine v_iload_n F dX11_isWord_5 rfl 2 rfl ?_
  refine v_iload_n F dX11_isWord_6 rfl 3 rfl ?_
  refine v_iload F dX11_isWord_7 4 rfl ?_
  refine v_iload F dX11_isWord_9 5 rfl ?_
  refine v_iload F dX11_isWord_11 6 rfl ?_
  obtain ⟨⟨r5, M6⟩, hz7, h⟩ := bd_some h
  dsimp only at h
  refine v_callSi (As := [.int i1, .int i2, .int i3, .int i4, .int i5, .int i6]) (rest := [.int r1]) F (c_X11_word l F.2.2.1  hz7) (cwS 6 F.1.2.2.2.2 (gU_S ml_X11_128 st_yX11_word ini_X11 cd_X11_word) rfl rfl rfl (by decide +kernel) ⟨Nat.le_of_ble_eq_true rfl, Nat.le_of_ble_eq_true rfl⟩) rfl rfl (Nat.le_of_ble_eq_true rfl) dX11_isWord_13 ⟨Nat.le_of_ble_eq_true rfl, Nat.le_of_ble_eq_true rfl⟩ ?_
  refine v_icmp_ne (tgt := 23) F dX11_isWord_16 (by decide) (fun hc9 => ?_) (fun hc9 => ?_)
  · rw [if_neg hc9] at h
    refine v_iconst (v := 0) F dX11_isWord_23 (by decide) ?_
    cases h
    exact v_iret F hr narrow_b0 hlk dX11_isWord_24
  · rw [if_pos hc9] at h
    refine v_iconst (v := 1) F dX11_isWord_19 (by decide) ?_
    refine v_goto (tgt := 24) F dX11_isWord_20 (by decide) ?_
    cases h
    exact v_iret F hr narrow_b1 hlk dX11_isWord_24
def f_X11_skipWord_h0 (a0 : Nat)  : Nat → Mem → Option (Int32 × Mem)
  | 0, _ => none
  | n + 1, M => (f_X11_byteAt M a0 (M a0 4)).bind fun q => match q with | (r1, M2) => (if r1 < 97 then (some (0, M2)) else ((f_X11_byteAt M2 a0 (M2 a0 4)).bind fun q => match q with | (r6, M7) => (if 122 < r6 then (some (0, M7)) else ((f_X11_skipWord_h0 a0 n) (mU M7 a0 4 ((M7 a0 4) + 1))))))
def f_X11_skipWord  (M : Mem) (a0 : Nat) : Option (Int32 × Mem) := f_X11_skipWord_h0 a0 FU M
set_option maxHeartbeats 4000000 in
set_option maxRecDepth 100000 in
theorem w_X11_skipWord_h0 {g : gT} {p : Program} {l : Launch} {e : Env} {s : State} {m : MethodId} {args : Array Value} {below : List Frame} {meth : Method} {c : Code} {z : Int32 × Mem} (F : Fx g p s m args c cX11_skipWord 1 uX11_skipWord RX11) (hr : meth.sig.returnType = none) (hlk : meth.locks = false)  {a0 : Nat} (t0 : Ty g 11 a0)   : ∀ (n : Nat)  (M : Mem), f_X11_skipWord_h0 a0 n  M = some z → V g p l e ({ frames := 1, cells := 0, slots := 0, locals := 40 * 1 } : Room) s m args below meth c 1 0 0 (MQ below (gQ g none z.2) args s 0 0 (gA g)) 0 [(0, .ref (gAd g a0))] [] M := by
  intro n
  induction n with
  | zero => intro M; intros; rename_i h; cases h
  | succ n ih =>
    intro M h
    rw [f_X11_skipWord_h0] at h
    refine v_aload_n F dX11_skipWord_0 rfl 0 rfl ?_
    refine v_aload_n F dX11_skipWord_1 rfl 0 rfl ?_
    refine v_getI (k := 4) F t0 (by decide) (inc inU_11) rfl rfl (by decide) (List.mem_cons_of_mem _ fl_X11_92) rfl dX11_skipWord_2 ?_
    obtain ⟨⟨r1, M2⟩, hz3, h⟩ := bd_some h
    dsimp only at h
    refine v_callVi (As := [.int (M a0 4)]) (rest := []) F (c_X11_byteAt l F.2.2.1 t0 hz3) (cwV 1 F.1.2.2.2.2 (gU_V ml_X11_95 im_yX11_byteAt se_yX11_byteAt ini_X11 cd_X11_byteAt) rfl rfl rfl (by decide +kernel) ⟨Nat.le_of_ble_eq_true rfl, Nat.le_of_ble_eq_true rfl⟩) t0 (by decide) rfl rfl rfl (Nat.le_of_ble_eq_true rfl) dX11_skipWord_5 ⟨Nat.le_of_ble_eq_true rfl, Nat.le_of_ble_eq_true rfl⟩ ?_
    refine v_bipush (v := 97) F dX11_skipWord_8 (by decide) ?_
    refine v_icmp_lt (tgt := 39) F dX11_skipWord_10 (by decide) (fun hc5 => ?_) (fun hc5 => ?_)
    · rw [if_pos hc5] at h
      cases h
      exact v_vret F hr hlk dX11_skipWord_39
    · rw [if_neg hc5] at h
      refine v_aload_n F dX11_skipWord_13 rfl 0 rfl ?_
      refine v_aload_n F dX11_skipWord_14 rfl 0 rfl ?_
      refine v_getI (k := 4) F t0 (by decide) (inc inU_11) rfl rfl (by decide) (List.mem_cons_of_mem _ fl_X11_92) rfl dX11_skipWord_15 ?_
      obtain ⟨⟨r6, M7⟩, hz8, h⟩ := bd_some h
      dsimp only at h
      refine v_callVi (As := [.int (M2 a0 4)]) (rest := []) F (c_X11_byteAt l F.2.2.1 t0 hz8) (cwV 1 F.1.2.2.2.2 (gU_V ml_X11_95 im_yX11_byteAt se_yX11_byteAt ini_X11 cd_X11_byteAt) rfl rfl rfl (by decide +kernel) ⟨Nat.le_of_ble_eq_true rfl, Nat.le_of_ble_eq_true rfl⟩) t0 (by decide) rfl rfl rfl (Nat.le_of_ble_eq_true rfl) dX11_skipWord_18 ⟨Nat.le_of_ble_eq_true rfl, Nat.le_of_ble_eq_true rfl⟩ ?_
      refine v_bipush (v := 122) F dX11_skipWord_21 (by decide) ?_
      refine v_icmp_gt (tgt := 39) F dX11_skipWord_23 (by decide) (fun hc10 => ?_) (fun hc10 => ?_)
      · rw [if_pos hc10] at h
        cases h
        exact v_vret F hr hlk dX11_skipWord_39
      · rw [if_neg hc10] at h
        refine v_aload_n F dX11_skipWord_26 rfl 0 rfl ?_
        refine v_dup F dX11_skipWord_27 rfl ?_
        refine v_getI (k := 4) F t0 (by decide) (inc inU_11) rfl rfl (by decide) (List.mem_cons_of_mem _ fl_X11_92) rfl dX11_skipWord_28 ?_
        refine v_iconst (v := 1) F dX11_skipWord_31 (by decide) ?_
        refine v_iadd F dX11_skipWord_32 ?_
        refine v_put (k := 4) (ty := .int) F t0 (by decide) (inc inU_11) tyX11 tyX11_ok nmX11 rfl rfl (by decide) (List.mem_cons_of_mem _ fl_X11_92) rfl rfl (by decide +kernel) rfl rfl dX11_skipWord_33 ?_
        refine v_goto (tgt := 0) F dX11_skipWord_36 (by decide) ?_
        exact ih _ h
set_option maxHeartbeats 4000000 in
set_option maxRecDepth 100000 in
theorem c_X11_skipWord {g : gT} (l : Launch) (hok : gOK g)  {a0 : Nat} {M : Mem} {z : Int32 × Mem}  (t0 : Ty g 11 a0) (h : f_X11_skipWord  M a0 = some z) : Cn g l yX11_skipWord uX11_skipWord 1 [.ref (gAd g a0)] M none z.2 := by
  refine Cn.of (cc := cX11_skipWord) (maxL := 1) (ret := none) hok (by decide) rfl (Nat.le_of_ble_eq_true rfl) (fun p e s m args below meth c F hr hlk => ?_)
  unfold f_X11_skipWord at h
  show V g p l e ({ frames := 1, cells := 0, slots := 0, locals := 40 * 1 } : Room) s m args below meth c 1 0 0 (MQ below (gQ g none z.2) args s 0 0 (gA g)) 0 [(0, .ref (gAd g a0))] [] M
  exact w_X11_skipWord_h0 F hr hlk t0 _ _ h
def f_X11_sign  (M : Mem) (a0 : Nat) (i1 : Int32) : Option (Int32 × Mem) := if (M a0 6) = 0 then ((f_X11_blanks M a0).bind fun q => match q with | (r2, M3) => ((f_X11_byteAt M3 a0 (M3 a0 4)).bind fun q => match q with | (r6, M7) => (if r6 = i1 then (some (0, (mU M7 a0 4 ((M7 a0 4) + 1)))) else ((f_X11_wrong M7 a0 1 (M7 a0 4)).bind fun q => match q with | (r11, M12) => (some (0, M12)))))) else (some (0, M))
set_option maxHeartbeats 4000000 in
set_option maxRecDepth 100000 in
theorem c_X11_sign {g : gT} (l : Launch) (hok : gOK g)  {a0 : Nat} {i1 : Int32} {M : Mem} {z : Int32 × Mem}  (t0 : Ty g 11 a0) (h : f_X11_sign  M a0 i1 = some z) : Cn g l yX11_sign uX11_sign 2 [.ref (gAd g a0), .int i1] M none z.2 := by
  refine Cn.of (cc := cX11_sign) (maxL := 2) (ret := none) hok (by decide) rfl (Nat.le_of_ble_eq_true rfl) (fun p e s m args below meth c F hr hlk => ?_)
  unfold f_X11_sign at h
  show V g p l e ({ frames := 2, cells := 0, slots := 0, locals := 40 * 2 } : Room) s m args below meth c 2 0 0 (MQ below (gQ g none z.2) args s 0 0 (gA g)) 0 [(0, .ref (gAd g a0)), (1, .int i1)] [] M
  refine v_aload_n F dX11_sign_0 rfl 0 rfl ?_
  refine v_getI (k := 6) F t0 (by decide) (inc inU_11) rfl rfl (by decide) (List.mem_cons_of_mem _ fl_X11_99) rfl dX11_sign_1 ?_
  refine v_if_eq (tgt := 8) F dX11_sign_4 (by decide) (fun hc1 => ?_) (fun hc1 => ?_)
  · rw [if_pos hc1] at h
    refine v_aload_n F dX11_sign_8 rfl 0 rfl ?_
    obtain ⟨⟨r2, M3⟩, hz4, h⟩ := bd_some h
    dsimp only at h
    refine v_callVv (As := []) (rest := []) F (c_X11_blanks l F.2.2.1 t0 hz4) (cwV 0 F.1.2.2.2.2 (gU_V ml_X11_121 im_yX11_blanks se_yX11_blanks ini_X11 cd_X11_blanks) rfl rfl rfl (by decide +kernel) ⟨Nat.le_of_ble_eq_true rfl, Nat.le_of_ble_eq_true rfl⟩) t0 (by decide) rfl rfl rfl (Nat.le_of_ble_eq_true rfl) dX11_sign_9 ⟨Nat.le_of_ble_eq_true rfl, Nat.le_of_ble_eq_true rfl⟩ ?_
    refine v_aload_n F dX11_sign_12 rfl 0 rfl ?_
    refine v_aload_n F dX11_sign_13 rfl 0 rfl ?_
    refine v_getI (k := 4) F t0 (by decide) (inc inU_11) rfl rfl (by decide) (List.mem_cons_of_mem _ fl_X11_92) rfl dX11_sign_14 ?_
    obtain ⟨⟨r6, M7⟩, hz8, h⟩ := bd_some h
    dsimp only at h
    refine v_callVi (As := [.int (M3 a0 4)]) (rest := []) F (c_X11_byteAt l F.2.2.1 t0 hz8) (cwV 1 F.1.2.2.2.2 (gU_V ml_X11_95 im_yX11_byteAt se_yX11_byteAt ini_X11 cd_X11_byteAt) rfl rfl rfl (by decide +kernel) ⟨Nat.le_of_ble_eq_true rfl, Nat.le_of_ble_eq_true rfl⟩) t0 (by decide) rfl rfl rfl (Nat.le_of_ble_eq_true rfl) dX11_sign_17 ⟨Nat.le_of_ble_eq_true rfl, Nat.le_of_ble_eq_true rfl⟩ ?_
    refine v_iload_n F dX11_sign_20 rfl 1 rfl ?_
    refine v_icmp_ne (tgt := 37) F dX11_sign_21 (by decide) (fun hc10 => ?_) (fun hc10 => ?_)
    · rw [if_neg hc10] at h
      refine v_aload_n F dX11_sign_37 rfl 0 rfl ?_
      refine v_iconst (v := 1) F dX11_sign_38 (by decide) ?_
      refine v_aload_n F dX11_sign_39 rfl 0 rfl ?_
      refine v_getI (k := 4) F t0 (by decide) (inc inU_11) rfl rfl (by decide) (List.mem_cons_of_mem _ fl_X11_92) rfl dX11_sign_40 ?_
      obtain ⟨⟨r11, M12⟩, hz13, h⟩ := bd_some h
      dsimp only at h
      refine v_callVv (As := [.int 1, .int (M7 a0 4)]) (rest := []) F (c_X11_wrong l F.2.2.1 t0 hz13) (cwV 2 F.1.2.2.2.2 (gU_V ml_X11_113 im_yX11_wrong se_yX11_wrong ini_X11 cd_X11_wrong) rfl rfl rfl (by decide +kernel) ⟨Nat.le_of_ble_eq_true rfl, Nat.le_of_ble_eq_true rfl⟩) t0 (by decide) rfl rfl rfl (Nat.le_of_ble_eq_true rfl) dX11_sign_43 ⟨Nat.le_of_ble_eq_true rfl, Nat.le_of_ble_eq_true rfl⟩ ?_
      cases h
      exact v_vret F hr hlk dX11_sign_46
    · rw [if_pos hc10] at h
      refine v_aload_n F dX11_sign_24 rfl 0 rfl ?_
      refine v_dup F dX11_sign_25 rfl ?_
      refine v_getI (k := 4) F t0 (by decide) (inc inU_11) rfl rfl (by decide) (List.mem_cons_of_mem _ fl_X11_92) rfl dX11_sign_26 ?_
      refine v_iconst (v := 1) F dX11_sign_29 (by decide) ?_
      refine v_iadd F dX11_sign_30 ?_
      refine v_put (k := 4) (ty := .int) F t0 (by decide) (inc inU_11) tyX11 tyX11_ok nmX11 rfl rfl (by decide) (List.mem_cons_of_mem _ fl_X11_92) rfl rfl (by decide +kernel) rfl rfl dX11_sign_31 ?_
      refine v_goto (tgt := 46) F dX11_sign_34 (by decide) ?_
      cases h
      exact v_vret F hr hlk dX11_sign_46
  · rw [if_neg hc1] at h
    cases h
    exact v_vret F hr hlk dX11_sign_7
def f_X11_opens_b18 (a0 : Nat) (i1 : Int32)   (M : Mem) : Option (Int32 × Mem) := some (0, (mU (mU M a0 5 ((M a0 5) + 1)) a0 4 (((mU M a0 5 ((M a0 5) + 1)) a0 4) + i1)))
def f_X11_opens  (M : Mem) (a0 : Nat) (i1 : Int32) : Option (Int32 × Mem) := if (M a0 5) = 6 then ((f_X11_wrong M a0 3 (M a0 4)).bind fun q => match q with | (r2, M3) => (f_X11_opens_b18 a0 i1 M3)) else (f_X11_opens_b18 a0 i1 M)
set_option maxHeartbeats 4000000 in
set_option maxRecDepth 100000 in
theorem w_X11_opens_b18 {g : gT} {p : Program} {l : Launch} {e : Env} {s : State} {m : MethodId} {args : Array Value} {below : List Frame} {meth : Method} {c : Code} {z : Int32 × Mem} (F : Fx g p s m args c cX11_opens 2 uX11_opens RX11) (hr : meth.sig.returnType = none) (hlk : meth.locks = false)  {a0 : Nat} {i1 : Int32} (t0 : Ty g 11 a0)    (M : Mem)  (h : f_X11_opens_b18 a0 i1 M = some z) : V g p l e ({ frames := 1, cells := 0, slots := 0, locals := 40 * 1 } : Room) s m args below meth c 2 0 0 (MQ below (gQ g none z.2) args s 0 0 (gA g)) 18 [(0, .ref (gAd g a0)), (1, .int i1)] [] M := by
  unfold f_X11_opens_b18 at h
  refine v_aload_n F dX11_opens_18 rfl 0 rfl ?_
  refine v_dup F dX11_opens_19 rfl ?_
  refine v_getI (k := 5) F t0 (by decide) (inc inU_11) rfl rfl (by decide) (List.mem_cons_of_mem _ fl_X11_132) rfl dX11_opens_20 ?_
  refine v_iconst (v := 1) F dX11_opens_23 (by decide) ?_
  refine v_iadd F dX11_opens_24 ?_
  refine v_put (k := 5) (ty := .int) F t0 (by decide) (inc inU_11) tyX11 tyX11_ok nmX11 rfl rfl (by decide) (List.mem_cons_of_mem _ fl_X11_132) rfl rfl (by decide +kernel) rfl rfl dX11_opens_25 ?_
  refine v_aload_n F dX11_opens_28 rfl 0 rfl ?_
  refine v_dup F dX11_opens_29 rfl ?_
  refine v_getI (k := 4) F t0 (by decide) (inc inU_11) rfl rfl (by decide) (List.mem_cons_of_mem _ fl_X11_92) rfl dX11_opens_30 ?_
  refine v_iload_n F dX11_opens_33 rfl 1 rfl ?_
  refine v_iadd F dX11_opens_34 ?_
  refine v_put (k := 4) (ty := .int) F t0 (by decide) (inc inU_11) tyX11 tyX11_ok nmX11 rfl rfl (by decide) (List.mem_cons_of_mem _ fl_X11_92) rfl rfl (by decide +kernel) rfl rfl dX11_opens_35 ?_
  cases h
  exact v_vret F hr hlk dX11_opens_38
set_option maxHeartbeats 4000000 in
set_option maxRecDepth 100000 in
theorem c_X11_opens {g : gT} (l : Launch) (hok : gOK g)  {a0 : Nat} {i1 : Int32} {M : Mem} {z : Int32 × Mem}  (t0 : Ty g 11 a0) (h : f_X11_opens  M a0 i1 = some z) : Cn g l yX11_opens uX11_opens 1 [.ref (gAd g a0), .int i1] M none z.2 := by
  refine Cn.of (cc := cX11_opens) (maxL := 2) (ret := none) hok (by decide) rfl (Nat.le_of_ble_eq_true rfl) (fun p e s m args below meth c F hr hlk => ?_)
  unfold f_X11_opens at h
  show V g p l e ({ frames := 1, cells := 0, slots := 0, locals := 40 * 1 } : Room) s m args below meth c 2 0 0 (MQ below (gQ g none z.2) args s 0 0 (gA g)) 0 [(0, .ref (gAd g a0)), (1, .int i1)] [] M
  refine v_aload_n F dX11_opens_0 rfl 0 rfl ?_
  refine v_getI (k := 5) F t0 (by decide) (inc inU_11) rfl rfl (by decide) (List.mem_cons_of_mem _ fl_X11_132) rfl dX11_opens_1 ?_
  refine v_bipush (v := 6) F dX11_opens_4 (by decide) ?_
  refine v_icmp_ne (tgt := 18) F dX11_opens_6 (by decide) (fun hc1 => ?_) (fun hc1 => ?_)
  · rw [if_neg hc1] at h
    exact w_X11_opens_b18 F hr hlk t0 _ h
  · rw [if_pos hc1] at h
    refine v_aload_n F dX11_opens_9 rfl 0 rfl ?_
    refine v_iconst (v := 3) F dX11_opens_10 (by decide) ?_
    refine v_aload_n F dX11_opens_11 rfl 0 rfl ?_
    refine v_getI (k := 4) F t0 (by decide) (inc inU_11) rfl rfl (by decide) (List.mem_cons_of_mem _ fl_X11_92) rfl dX11_opens_12 ?_
    obtain ⟨⟨r2, M3⟩, hz4, h⟩ := bd_some h
    dsimp only at h
    refine v_callVv (As := [.int 3, .int (M a0 4)]) (rest := []) F (c_X11_wrong l F.2.2.1 t0 hz4) (cwV 2 F.1.2.2.2.2 (gU_V ml_X11_113 im_yX11_wrong se_yX11_wrong ini_X11 cd_X11_wrong) rfl rfl rfl (by decide +kernel) ⟨Nat.le_of_ble_eq_true rfl, Nat.le_of_ble_eq_true rfl⟩) t0 (by decide) rfl rfl rfl (Nat.le_of_ble_eq_true rfl) dX11_opens_15 ⟨Nat.le_of_ble_eq_true rfl, Nat.le_of_ble_eq_true rfl⟩ ?_
    exact w_X11_opens_b18 F hr hlk t0 _ h
def f_X11_nameHere  (M : Mem) (a0 : Nat) : Option (Int32 × Mem) := (f_X11_isWord M a0 23 9 14 4 0 0).bind fun q => match q with | (r1, M2) => (if r1 = 0 then ((f_X11_isWord M2 a0 20 9 3 11 0 0).bind fun q => match q with | (r6, M7) => (if r6 = 0 then ((f_X11_isWord M7 a0 8 5 9 7 8 20).bind fun q => match q with | (r11, M12) => (if r11 = 0 then ((f_X11_isWord M12 a0 20 21 18 14 0 0).bind fun q => match q with | (r16, M17) => (if r16 = 0 then ((f_X11_isWord M17 a0 21 16 0 0 0 0).bind fun q => match q with | (r21, M22) => (if r21 = 0 then ((f_X11_isWord M22 a0 19 16 9 14 0 0).bind fun q => match q with | (r26, M27) => (if r26 = 0 then ((f_X11_isWord M27 a0 19 9 4 5 0 0).bind fun q => match q with | (r31, M32) => (if r31 = 0 then ((f_X11_isWord M32 a0 8 15 12 5 19 0).bind fun q => match q with | (r36, M37) => (if r36 = 0 then ((f_X11_isWord M37 a0 16 9 5 3 5 0).bind fun q => match q with | (r41, M42) => (if r41 = 0 then (some ((-1), M42)) else (some (8, M42)))) else (some (7, M37)))) else (some (6, M32)))) else (some (5, M27)))) else (some (4, M22)))) else (some (3, M17)))) else (some (2, M12)))) else (some (1, M7)))) else (some (0, M2)))
set_option maxHeartbeats 4000000 in
set_option maxRecDepth 100000 in
theorem c_X11_nameHere {g : gT} (l : Launch) (hok : gOK g)  {a0 : Nat} {M : Mem} {z : Int32 × Mem}  (t0 : Ty g 11 a0) (h : f_X11_nameHere  M a0 = some z) : Cn g l yX11_nameHere uX11_nameHere 4 [.ref (gAd g a0)] M (some (.int z.1)) z.2 := by
  refine Cn.of (cc := cX11_nameHere) (maxL := 1) (ret := (some .int)) hok (by decide) rfl (Nat.le_of_ble_eq_true rfl) (fun p e s m args below meth c F hr hlk => ?_)
  unfold f_X11_nameHere at h
  show V g p l e ({ frames := 4, cells := 0, slots := 0, locals := 40 * 4 } : Room) s m args below meth c 1 0 0 (MQ below (gQ g (some (.int z.1)) z.2) args s 0 0 (gA g)) 0 [(0, .ref (gAd g a0))] [] M
  refine v_aload_n F dX11_nameHere_0 rfl 0 rfl ?_
  refine v_bipush (v := 23) F dX11_nameHere_1 (by decide) ?_
  refine v_bipush (v := 9) F dX11_nameHere_3 (by decide) ?_
  refine v_bipush (v := 14) F dX11_nameHere_5 (by decide) ?_
  refine v_iconst (v := 4) F dX11_nameHere_7 (by decide) ?_
  refine v_iconst (v := 0) F dX11_nameHere_8 (by decide) ?_
  refine v_iconst (v := 0) F dX11_nameHere_9 (by decide) ?_
  obtain ⟨⟨r1, M2⟩, hz3, h⟩ := bd_some h
  dsimp only at h
  refine v_callVi (As := [.int 23, .int 9, .int 14, .int 4, .int 0, .int 0]) (rest := []) F (c_X11_isWord l F.2.2.1 t0 hz3) (cwV 6 F.1.2.2.2.2 (gU_V ml_X11_135 im_yX11_isWord se_yX11_isWord ini_X11 cd_X11_isWord) rfl rfl rfl (by decide +kernel) ⟨Nat.le_of_ble_eq_true rfl, Nat.le_of_ble_eq_true rfl⟩) t0 (by decide) rfl rfl rfl (Nat.le_of_ble_eq_true rfl) dX11_nameHere_10 ⟨Nat.le_of_ble_eq_true rfl, Nat.le_of_ble_eq_true rfl⟩ ?_
  refine v_if_eq (tgt := 18) F dX11_nameHere_13 (by decide) (fun hc5 => ?_) (fun hc5 => ?_)
  · rw [if_pos hc5] at h
    refine v_aload_n F dX11_nameHere_18 rfl 0 rfl ?_
    refine v_bipush (v := 20) F dX11_nameHere_19 (by decide) ?_
    refine v_bipush (v := 9) F dX11_nameHere_21 (by decide) ?_
    refine v_iconst (v := 3) F dX11_nameHere_23 (by decide) ?_
    refine v_bipush (v := 11) F dX11_nameHere_24 (by decide) ?_
    refine v_iconst (v := 0) F dX11_nameHere_26 (by decide) ?_
    refine v_iconst (v := 0) F dX11_nameHere_27 (by decide) ?_
    obtain ⟨⟨r6, M7⟩, hz8, h⟩ := bd_some h
    dsimp only at h
    refine v_callVi (As := [.int 20, .int 9, .int 3, .int 11, .int 0, .int 0]) (rest := []) F (c_X11_isWord l F.2.2.1 t0 hz8) (cwV 6 F.1.2.2.2.2 (gU_V ml_X11_135 im_yX11_isWord se_yX11_isWord ini_X11 cd_X11_isWord) rfl rfl rfl (by decide +kernel) ⟨Nat.le_of_ble_eq_true rfl, Nat.le_of_ble_eq_true rfl⟩) t0 (by decide) rfl rfl rfl (Nat.le_of_ble_eq_true rfl) dX11_nameHere_28 ⟨Nat.le_of_ble_eq_true rfl, Nat.le_of_ble_eq_true rfl⟩ ?_
    refine v_if_eq (tgt := 36) F dX11_nameHere_31 (by decide) (fun hc10 => ?_) (fun hc10 => ?_)
    · rw [if_pos hc10] at h
      refine v_aload_n F dX11_nameHere_36 rfl 0 rfl ?_
      refine v_bipush (v := 8) F dX11_nameHere_37 (by decide) ?_
      refine v_iconst (v := 5) F dX11_nameHere_39 (by decide) ?_
      refine v_bipush (v := 9) F dX11_nameHere_40 (by decide) ?_
      refine v_bipush (v := 7) F dX11_nameHere_42 (by decide) ?_
      refine v_bipush (v := 8) F dX11_nameHere_44 (by decide) ?_
      refine v_bipush (v := 20) F dX11_nameHere_46 (by decide) ?_
      obtain ⟨⟨r11, M12⟩, hz13, h⟩ := bd_some h
      dsimp only at h
      refine v_callVi (As := [.int 8, .int 5, .int 9, .int 7, .int 8, .int 20]) (rest := []) F (c_X11_isWord l F.2.2.1 t0 hz13) (cwV 6 F.1.2.2.2.2 (gU_V ml_X11_135 im_yX11_isWord se_yX11_isWord ini_X11 cd_X11_isWord) rfl rfl rfl (by decide +kernel) ⟨Nat.le_of_ble_eq_true rfl, Nat.le_of_ble_eq_true rfl⟩) t0 (by decide) rfl rfl rfl (Nat.le_of_ble_eq_true rfl) dX11_nameHere_48 ⟨Nat.le_of_ble_eq_true rfl, Nat.le_of_ble_eq_true rfl⟩ ?_
      refine v_if_eq (tgt := 56) F dX11_nameHere_51 (by decide) (fun hc15 => ?_) (fun hc15 => ?_)
      · rw [if_pos hc15] at h
        refine v_aload_n F dX11_nameHere_56 rfl 0 rfl ?_
        refine v_bipush (v := 20) F dX11_nameHere_57 (by decide) ?_
        refine v_bipush (v := 21) F dX11_nameHere_59 (by decide) ?_
        refine v_bipush (v := 18) F dX11_nameHere_61 (by decide) ?_
        refine v_bipush (v := 14) F dX11_nameHere_63 (by decide) ?_
        refine v_iconst (v := 0) F dX11_nameHere_65 (by decide) ?_
        refine v_iconst (v := 0) F dX11_nameHere_66 (by decide) ?_
        obtain ⟨⟨r16, M17⟩, hz18, h⟩ := bd_some h
        dsimp only at h
        refine v_callVi (As := [.int 20, .int 21, .int 18, .int 14, .int 0, .int 0]) (rest := []) F (c_X11_isWord l F.2.2.1 t0 hz18) (cwV 6 F.1.2.2.2.2 (gU_V ml_X11_135 im_yX11_isWord se_yX11_isWord ini_X11 cd_X11_isWord) rfl rfl rfl (by decide +kernel) ⟨Nat.le_of_ble_eq_true rfl, Nat.le_of_ble_eq_true rfl⟩) t0 (by decide) rfl rfl rfl (Nat.le_of_ble_eq_true rfl) dX11_nameHere_67 ⟨Nat.le_of_ble_eq_true rfl, Nat.le_of_ble_eq_true rfl⟩ ?_
        refine v_if_eq (tgt := 75) F dX11_nameHere_70 (by decide) (fun hc20 => ?_) (fun hc20 => ?_)
        · rw [if_pos hc20] at h
          refine v_aload_n F dX11_nameHere_75 rfl 0 rfl ?_
          refine v_bipush (v := 21) F dX11_nameHere_76 (by decide) ?_
          refine v_bipush (v := 16) F dX11_nameHere_78 (by decide) ?_
          refine v_iconst (v := 0) F dX11_nameHere_80 (by decide) ?_
          refine v_iconst (v := 0) F dX11_nameHere_81 (by decide) ?_
          refine v_iconst (v := 0) F dX11_nameHere_82 (by decide) ?_
          refine v_iconst (v := 0) F dX11_nameHere_83 (by decide) ?_
          obtain ⟨⟨r21, M22⟩, hz23, h⟩ := bd_some h
          dsimp only at h
          refine v_callVi (As := [.int 21, .int 16, .int 0, .int 0, .int 0, .int 0]) (rest := []) F (c_X11_isWord l F.2.2.1 t0 hz23) (cwV 6 F.1.2.2.2.2 (gU_V ml_X11_135 im_yX11_isWord se_yX11_isWord ini_X11 cd_X11_isWord) rfl rfl rfl (by decide +kernel) ⟨Nat.le_of_ble_eq_true rfl, Nat.le_of_ble_eq_true rfl⟩) t0 (by decide) rfl rfl rfl (Nat.le_of_ble_eq_true rfl) dX11_nameHere_84 ⟨Nat.le_of_ble_eq_true rfl, Nat.le_of_ble_eq_true rfl⟩ ?_
          refine v_if_eq (tgt := 92) F dX11_nameHere_87 (by decide) (fun hc25 => ?_) (fun hc25 => ?_)
          · rw [if_pos hc25] at h
            refine v_aload_n F dX11_nameHere_92 rfl 0 rfl ?_
            refine v_bipush (v := 19) F dX11_nameHere_93 (by decide) ?_
            refine v_bipush (v := 16) F dX11_nameHere_95 (by decide) ?_
            refine v_bipush (v := 9) F dX11_nameHere_97 (by decide) ?_
            refine v_bipush (v := 14) F dX11_nameHere_99 (by decide) ?_
            refine v_iconst (v := 0) F dX11_nameHere_101 (by decide) ?_
            refine v_iconst (v := 0) F dX11_nameHere_102 (by decide) ?_
            obtain ⟨⟨r26, M27⟩, hz28, h⟩ := bd_some h
            dsimp only at h
            refine v_callVi (As := [.int 19, .int 16, .int 9, .int 14, .int 0, .int 0]) (rest := []) F (c_X11_isWord l F.2.2.1 t0 hz28) (cwV 6 F.1.2.2.2.2 (gU_V ml_X11_135 im_yX11_isWord se_yX11_isWord ini_X11 cd_X11_isWord) rfl rfl rfl (by decide +kernel) ⟨Nat.le_of_ble_eq_true rfl, Nat.le_of_ble_eq_true rfl⟩) t0 (by decide) rfl rfl rfl (Nat.le_of_ble_eq_true rfl) dX11_nameHere_103 ⟨Nat.le_of_ble_eq_true rfl, Nat.le_of_ble_eq_true rfl⟩ ?_
            refine v_if_eq (tgt := 111) F dX11_nameHere_106 (by decide) (fun hc30 => ?_) (fun hc30 => ?_)
            · rw [if_pos hc30] at h
              refine v_aload_n F dX11_nameHere_111 rfl 0 rfl ?_
              refine v_bipush (v := 19) F dX11_nameHere_112 (by decide) ?_
              refine v_bipush (v := 9) F dX11_nameHere_114 (by decide) ?_
              refine v_iconst (v := 4) F dX11_nameHere_116 (by decide) ?_
              refine v_iconst (v := 5) F dX11_nameHere_117 (by decide) ?_
              refine v_iconst (v := 0) F dX11_nameHere_118 (by decide) ?_
              refine v_iconst (v := 0) F dX11_nameHere_119 (by decide) ?_
              obtain ⟨⟨r31, M32⟩, hz33, h⟩ := bd_some h
              dsimp only at h
              refine v_callVi (As := [.int 19, .int 9, .int 4, .int 5, .int 0, .int 0]) (rest := []) F (c_X11_isWord l F.2.2.1 t0 hz33) (cwV 6 F.1.2.2.2.2 (gU_V ml_X11_135 im_yX11_isWord se_yX11_isWord ini_X11 cd_X11_isWord) rfl rfl rfl (by decide +kernel) ⟨Nat.le_of_ble_eq_true rfl, Nat.le_of_ble_eq_true rfl⟩) t0 (by decide) rfl rfl rfl (Nat.le_of_ble_eq_true rfl) dX11_nameHere_120 ⟨Nat.le_of_ble_eq_true rfl, Nat.le_of_ble_eq_true rfl⟩ ?_
              refine v_if_eq (tgt := 129) F dX11_nameHere_123 (by decide) (fun hc35 => ?_) (fun hc35 => ?_)
              · rw [if_pos hc35] at h
                refine v_aload_n F dX11_nameHere_129 rfl 0 rfl ?_
                refine v_bipush (v := 8) F dX11_nameHere_130 (by decide) ?_
                refine v_bipush (v := 15) F dX11_nameHere_132 (by decide) ?_
                refine v_bipush (v := 12) F dX11_nameHere_134 (by decide) ?_
                refine v_iconst (v := 5) F dX11_nameHere_136 (by decide) ?_
                refine v_bipush (v := 19) F dX11_nameHere_137 (by decide) ?_
                refine v_iconst (v := 0) F dX11_nameHere_139 (by decide) ?_
                obtain ⟨⟨r36, M37⟩, hz38, h⟩ := bd_some h
                dsimp only at h
                refine v_callVi (As := [.int 8, .int 15, .int 12, .int 5, .int 19, .int 0]) (rest := []) F (c_X11_isWord l F.2.2.1 t0 hz38) (cwV 6 F.1.2.2.2.2 (gU_V ml_X11_135 im_yX11_isWord se_yX11_isWord ini_X11 cd_X11_isWord) rfl rfl rfl (by decide +kernel) ⟨Nat.le_of_ble_eq_true rfl, Nat.le_of_ble_eq_true rfl⟩) t0 (by decide) rfl rfl rfl (Nat.le_of_ble_eq_true rfl) dX11_nameHere_140 ⟨Nat.le_of_ble_eq_true rfl, Nat.le_of_ble_eq_true rfl⟩ ?_
                refine v_if_eq (tgt := 149) F dX11_nameHere_143 (by decide) (fun hc40 => ?_) (fun hc40 => ?_)
                · rw [if_pos hc40] at h
                  refine v_aload_n F dX11_nameHere_149 rfl 0 rfl ?_
                  refine v_bipush (v := 16) F dX11_nameHere_150 (by decide) ?_
                  refine v_bipush (v := 9) F dX11_nameHere_152 (by decide) ?_
                  refine v_iconst (v := 5) F dX11_nameHere_154 (by decide) ?_
                  refine v_iconst (v := 3) F dX11_nameHere_155 (by decide) ?_
                  refine v_iconst (v := 5) F dX11_nameHere_156 (by decide) ?_
                  refine v_iconst (v := 0) F dX11_nameHere_157 (by decide) ?_
                  obtain ⟨⟨r41, M42⟩, hz43, h⟩ := bd_some h
                  dsimp only at h
                  refine v_callVi (As := [.int 16, .int 9, .int 5, .int 3, .int 5, .int 0]) (rest := []) F (c_X11_isWord l F.2.2.1 t0 hz43) (cwV 6 F.1.2.2.2.2 (gU_V ml_X11_135 im_yX11_isWord se_yX11_isWord ini_X11 cd_X11_isWord) rfl rfl rfl (by decide +kernel) ⟨Nat.le_of_ble_eq_true rfl, Nat.le_of_ble_eq_true rfl⟩) t0 (by decide) rfl rfl rfl (Nat.le_of_ble_eq_true rfl) dX11_nameHere_158 ⟨Nat.le_of_ble_eq_true rfl, Nat.le_of_ble_eq_true rfl⟩ ?_
                  refine v_if_eq (tgt := 169) F dX11_nameHere_161 (by decide) (fun hc45 => ?_) (fun hc45 => ?_)
                  · rw [if_pos hc45] at h
                    refine v_iconst (v := (-1)) F dX11_nameHere_169 (by decide) ?_
                    cases h
                    exact v_iret F hr rfl hlk dX11_nameHere_170
                  · rw [if_neg hc45] at h
                    refine v_bipush (v := 8) F dX11_nameHere_164 (by decide) ?_
                    refine v_goto (tgt := 170) F dX11_nameHere_166 (by decide) ?_
                    cases h
                    exact v_iret F hr rfl hlk dX11_nameHere_170
                · rw [if_neg hc40] at h
                  refine v_bipush (v := 7) F dX11_nameHere_146 (by decide) ?_
                  cases h
                  exact v_iret F hr rfl hlk dX11_nameHere_148
              · rw [if_neg hc35] at h
                refine v_bipush (v := 6) F dX11_nameHere_126 (by decide) ?_
                cases h
                exact v_iret F hr rfl hlk dX11_nameHere_128
            · rw [if_neg hc30] at h
              refine v_iconst (v := 5) F dX11_nameHere_109 (by decide) ?_
              cases h
              exact v_iret F hr rfl hlk dX11_nameHere_110
          · rw [if_neg hc25] at h
            refine v_iconst (v := 4) F dX11_nameHere_90 (by decide) ?_
            cases h
            exact v_iret F hr rfl hlk dX11_nameHere_91
        · rw [if_neg hc20] at h
          refine v_iconst (v := 3) F dX11_nameHere_73 (by decide) ?_
          cases h
          exact v_iret F hr rfl hlk dX11_nameHere_74
      · rw [if_neg hc15] at h
        refine v_iconst (v := 2) F dX11_nameHere_54 (by decide) ?_
        cases h
        exact v_iret F hr rfl hlk dX11_nameHere_55
    · rw [if_neg hc10] at h
      refine v_iconst (v := 1) F dX11_nameHere_34 (by decide) ?_
      cases h
      exact v_iret F hr rfl hlk dX11_nameHere_35
  · rw [if_neg hc5] at h
    refine v_iconst (v := 0) F dX11_nameHere_16 (by decide) ?_
    cases h
    exact v_iret F hr rfl hlk dX11_nameHere_17
def f_X11_product_b80 (r_X11_unit : Mem → Nat → Option (Int32 × Mem)) (a0 : Nat) (k8 : Mem → Option (Int32 × Mem)) (s0 : Nat) (s1 : Int32) (M : Mem) : Option (Int32 × Mem) := (f_X11_tells M s0 s1).bind fun q => match q with | (r29, M30) => ((f_X11_blanks M30 a0).bind fun q => match q with | (r33, M34) => (k8 M34))
def f_X11_product_b41 (r_X11_unit : Mem → Nat → Option (Int32 × Mem)) (a0 : Nat) (k8 : Mem → Option (Int32 × Mem))  (M : Mem) : Option (Int32 × Mem) := (f_X11_byteAt M a0 (M a0 4)).bind fun q => match q with | (r20, M21) => ((r_X11_unit (mU M21 a0 4 ((M21 a0 4) + 1)) a0).bind fun q => match q with | (r24, M25) => (if r20 = 42 then (f_X11_product_b80 r_X11_unit a0 k8 a0 10022 M25) else (f_X11_product_b80 r_X11_unit a0 k8 a0 10023 M25)))
def f_X11_product_h8 (r_X11_unit : Mem → Nat → Option (Int32 × Mem)) (a0 : Nat)  : Nat → Mem → Option (Int32 × Mem)
  | 0, _ => none
  | n + 1, M => if (M a0 6) = 0 then ((f_X11_byteAt M a0 (M a0 4)).bind fun q => match q with | (r10, M11) => (if r10 = 42 then (f_X11_product_b41 r_X11_unit a0 (f_X11_product_h8 r_X11_unit a0 n) M11) else ((f_X11_byteAt M11 a0 (M11 a0 4)).bind fun q => match q with | (r15, M16) => (if r15 = 47 then (f_X11_product_b41 r_X11_unit a0 (f_X11_product_h8 r_X11_unit a0 n) M16) else (some (0, M16)))))) else (some (0, M))
def f_X11_product (r_X11_unit : Mem → Nat → Option (Int32 × Mem)) (M : Mem) (a0 : Nat) : Option (Int32 × Mem) := (r_X11_unit M a0).bind fun q => match q with | (r1, M2) => ((f_X11_blanks M2 a0).bind fun q => match q with | (r5, M6) => (f_X11_product_h8 r_X11_unit a0 FU M6))
set_option maxHeartbeats 4000000 in
set_option maxRecDepth 100000 in
theorem w_X11_product_b80 {g : gT} {p : Program} {l : Launch} {e : Env} {s : State} {m : MethodId} {args : Array Value} {below : List Frame} {meth : Method} {c : Code} {z : Int32 × Mem} (F : Fx g p s m args c cX11_product 2 uX11_product RX11) (hr : meth.sig.returnType = none) (hlk : meth.locks = false) {k kf_X11_unit : Nat} {r_X11_unit : Mem → Nat → Option (Int32 × Mem)} {a0 : Nat} (hkf_X11_unit : kf_X11_unit + 1 ≤ k) (hk0 : 7 ≤ k) (hR_X11_unit : ∀ (M : Mem) (b0 : Nat) (z : Int32 × Mem), Ty g 11 b0 → r_X11_unit M b0 = some z → Cn g l yX11_unit uX11_unit kf_X11_unit [.ref (gAd g b0)] M none z.2) (t0 : Ty g 11 a0) {k8 : Mem → Option (Int32 × Mem)} (hk8 : ∀  (M : Mem), k8  M = some z → V g p l e ({ frames := k, cells := 0, slots := 0, locals := 40 * k } : Room) s m args below meth c 2 0 0 (MQ below (gQ g none z.2) args s 0 0 (gA g)) 8 [(0, .ref (gAd g a0))] [] M) (s0 : Nat) (s1 : Int32) (M : Mem) (ts0 : Ty g 11 s0) (h : f_X11_product_b80 r_X11_unit a0 k8 s0 s1 M = some z) : V g p l e ({ frames := k, cells := 0, slots := 0, locals := 40 * k } : Room) s m args below meth c 2 0 0 (MQ below (gQ g none z.2) args s 0 0 (gA g)) 80 [(0, .ref (gAd g a0))] [.int s1, .ref (gAd g s0)] M := by
  unfold f_X11_product_b80 at h
  obtain ⟨⟨r29, M30⟩, hz31, h⟩ := bd_some h
  dsimp only at h
  refine v_callVv (As := [.int s1]) (rest := []) F (c_X11_tells l F.2.2.1 ts0 hz31) (cwV 1 F.1.2.2.2.2 (gU_V ml_X11_117 im_yX11_tells se_yX11_tells ini_X11 cd_X11_tells) rfl rfl rfl (by decide +kernel) ⟨by dsimp only [DP]; omega, by dsimp only [DP]; omega⟩) ts0 (by decide) rfl rfl rfl (Nat.le_of_ble_eq_true rfl) dX11_product_80 ⟨Nat.le_of_ble_eq_true rfl, Nat.le_of_ble_eq_true rfl⟩ ?_
  refine v_aload_n F dX11_product_83 rfl 0 rfl ?_
  obtain ⟨⟨r33, M34⟩, hz35, h⟩ := bd_some h
  dsimp only at h
  refine v_callVv (As := []) (rest := []) F (c_X11_blanks l F.2.2.1 t0 hz35) (cwV 0 F.1.2.2.2.2 (gU_V ml_X11_121 im_yX11_blanks se_yX11_blanks ini_X11 cd_X11_blanks) rfl rfl rfl (by decide +kernel) ⟨by dsimp only [DP]; omega, by dsimp only [DP]; omega⟩) t0 (by decide) rfl rfl rfl (Nat.le_of_ble_eq_true rfl) dX11_product_84 ⟨Nat.le_of_ble_eq_true rfl, Nat.le_of_ble_eq_true rfl⟩ ?_
  refine v_goto (tgt := 8) F dX11_product_87 (by decide) ?_
  exact hk8 _ h
set_option maxHeartbeats 4000000 in
set_option maxRecDepth 100000 in
theorem w_X11_product_b41 {g : gT} {p : Program} {l : Launch} {e : Env} {s : State} {m : MethodId} {args : Array Value} {below : List Frame} {meth : Method} {c : Code} {z : Int32 × Mem} (F : Fx g p s m args c cX11_product 2 uX11_product RX11) (hr : meth.sig.returnType = none) (hlk : meth.locks = false) {k kf_X11_unit : Nat} {r_X11_unit : Mem → Nat → Option (Int32 × Mem)} {a0 : Nat} (hkf_X11_unit : kf_X11_unit + 1 ≤ k) (hk0 : 7 ≤ k) (hR_X11_unit : ∀ (M : Mem) (b0 : Nat) (z : Int32 × Mem), Ty g 11 b0 → r_X11_unit M b0 = some z → Cn g l yX11_unit uX11_unit kf_X11_unit [.ref (gAd g b0)] M none z.2) (t0 : Ty g 11 a0) {k8 : Mem → Option (Int32 × Mem)} (hk8 : ∀  (M : Mem), k8  M = some z → V g p l e ({ frames := k, cells := 0, slots := 0, locals := 40 * k } : Room) s m args below meth c 2 0 0 (MQ below (gQ g none z.2) args s 0 0 (gA g)) 8 [(0, .ref (gAd g a0))] [] M)  (M : Mem)  (h : f_X11_product_b41 r_X11_unit a0 k8 M = some z) : V g p l e ({ frames := k, cells := 0, slots := 0, locals := 40 * k } : Room) s m args below meth c 2 0 0 (MQ below (gQ g none z.2) args s 0 0 (gA g)) 41 [(0, .ref (gAd g a0))] [] M := by
  unfold f_X11_product_b41 at h
  refine v_aload_n F dX11_product_41 rfl 0 rfl ?_
  refine v_aload_n F dX11_product_42 rfl 0 rfl ?_
  refine v_getI (k := 4) F t0 (by decide) (inc inU_11) rfl rfl (by decide) (List.mem_cons_of_mem _ fl_X11_92) rfl dX11_product_43 ?_
  obtain ⟨⟨r20, M21⟩, hz22, h⟩ := bd_some h
  dsimp only at h
  refine v_callVi (As := [.int (M a0 4)]) (rest := []) F (c_X11_byteAt l F.2.2.1 t0 hz22) (cwV 1 F.1.2.2.2.2 (gU_V ml_X11_95 im_yX11_byteAt se_yX11_byteAt ini_X11 cd_X11_byteAt) rfl rfl rfl (by decide +kernel) ⟨by dsimp only [DP]; omega, by dsimp only [DP]; omega⟩) t0 (by decide) rfl rfl rfl (Nat.le_of_ble_eq_true rfl) dX11_product_46 ⟨Nat.le_of_ble_eq_true rfl, Nat.le_of_ble_eq_true rfl⟩ ?_
  refine v_istore_n (lv' := [(1, .int r20), (0, .ref (gAd g a0))]) F dX11_product_49 rfl (by decide) rfl ?_
  refine v_aload_n F dX11_product_50 rfl 1 rfl ?_
  refine v_dup F dX11_product_51 rfl ?_
  refine v_getI (k := 4) F t0 (by decide) (inc inU_11) rfl rfl (by decide) (List.mem_cons_of_mem _ fl_X11_92) rfl dX11_product_52 ?_
  refine v_iconst (v := 1) F dX11_product_55 (by decide) ?_
  refine v_iadd F dX11_product_56 ?_
  refine v_put (k := 4) (ty := .int) F t0 (by decide) (inc inU_11) tyX11 tyX11_ok nmX11 rfl rfl (by decide) (List.mem_cons_of_mem _ fl_X11_92) rfl rfl (by decide +kernel) rfl rfl dX11_product_57 ?_
  refine v_aload_n F dX11_product_60 rfl 1 rfl ?_
  obtain ⟨⟨r24, M25⟩, hz26, h⟩ := bd_some h
  dsimp only at h
  refine v_callVv (As := []) (rest := []) F (hR_X11_unit _ _ _ t0 hz26) (cwV 0 F.1.2.2.2.2 (gU_V ml_X11_157 im_yX11_unit se_yX11_unit ini_X11 cd_X11_unit) rfl rfl rfl (by decide +kernel) ⟨by dsimp only [DP]; omega, by dsimp only [DP]; omega⟩) t0 (by decide) rfl rfl rfl (Nat.le_of_ble_eq_true rfl) dX11_product_61 ⟨Nat.le_of_ble_eq_true rfl, Nat.le_of_ble_eq_true rfl⟩ ?_
  refine v_aload_n F dX11_product_64 rfl 1 rfl ?_
  refine v_iload_n F dX11_product_65 rfl 0 rfl ?_
  refine v_bipush (v := 42) F dX11_product_66 (by decide) ?_
  refine v_icmp_ne (tgt := 77) F dX11_product_68 (by decide) (fun hc28 => ?_) (fun hc28 => ?_)
  · rw [if_neg hc28] at h
    refine v_sipush (v := 10023) F dX11_product_77 (by decide) ?_
    refine v_sub (fun ls h9 => lv_sub h9 [1] rfl) ?_
    exact w_X11_product_b80 F hr hlk hkf_X11_unit hk0 hR_X11_unit t0 hk8 _ _ _ t0 h
  · rw [if_pos hc28] at h
    refine v_sipush (v := 10022) F dX11_product_71 (by decide) ?_
    refine v_goto (tgt := 80) F dX11_product_74 (by decide) ?_
    refine v_sub (fun ls h9 => lv_sub h9 [1] rfl) ?_
    exact w_X11_product_b80 F hr hlk hkf_X11_unit hk0 hR_X11_unit t0 hk8 _ _ _ t0 h
set_option maxHeartbeats 4000000 in
set_option maxRecDepth 100000 in
theorem w_X11_product_h8 {g : gT} {p : Program} {l : Launch} {e : Env} {s : State} {m : MethodId} {args : Array Value} {below : List Frame} {meth : Method} {c : Code} {z : Int32 × Mem} (F : Fx g p s m args c cX11_product 2 uX11_product RX11) (hr : meth.sig.returnType = none) (hlk : meth.locks = false) {k kf_X11_unit : Nat} {r_X11_unit : Mem → Nat → Option (Int32 × Mem)} {a0 : Nat} (hkf_X11_unit : kf_X11_unit + 1 ≤ k) (hk0 : 7 ≤ k) (hR_X11_unit : ∀ (M : Mem) (b0 : Nat) (z : Int32 × Mem), Ty g 11 b0 → r_X11_unit M b0 = some z → Cn g l yX11_unit uX11_unit kf_X11_unit [.ref (gAd g b0)] M none z.2) (t0 : Ty g 11 a0)   : ∀ (n : Nat)  (M : Mem), f_X11_product_h8 r_X11_unit a0 n  M = some z → V g p l e ({ frames := k, cells := 0, slots := 0, locals := 40 * k } : Room) s m args below meth c 2 0 0 (MQ below (gQ g none z.2) args s 0 0 (gA g)) 8 [(0, .ref (gAd g a0))] [] M := by
  intro n
  induction n with
  | zero => intro M; intros; rename_i h; cases h
  | succ n ih =>
    intro M h
    rw [f_X11_product_h8] at h
    refine v_aload_n F dX11_product_8 rfl 0 rfl ?_
    refine v_getI (k := 6) F t0 (by decide) (inc inU_11) rfl rfl (by decide) (List.mem_cons_of_mem _ fl_X11_99) rfl dX11_product_9 ?_
    refine v_if_ne (tgt := 90) F dX11_product_12 (by decide) (fun hc9 => ?_) (fun hc9 => ?_)
    · rw [if_neg hc9] at h
      cases h
      exact v_vret F hr hlk dX11_product_90
    · rw [if_pos hc9] at h
      refine v_aload_n F dX11_product_15 rfl 0 rfl ?_
      refine v_aload_n F dX11_product_16 rfl 0 rfl ?_
      refine v_getI (k := 4) F t0 (by decide) (inc inU_11) rfl rfl (by decide) (List.mem_cons_of_mem _ fl_X11_92) rfl dX11_product_17 ?_
      obtain ⟨⟨r10, M11⟩, hz12, h⟩ := bd_some h
      dsimp only at h
      refine v_callVi (As := [.int (M a0 4)]) (rest := []) F (c_X11_byteAt l F.2.2.1 t0 hz12) (cwV 1 F.1.2.2.2.2 (gU_V ml_X11_95 im_yX11_byteAt se_yX11_byteAt ini_X11 cd_X11_byteAt) rfl rfl rfl (by decide +kernel) ⟨by dsimp only [DP]; omega, by dsimp only [DP]; omega⟩) t0 (by decide) rfl rfl rfl (Nat.le_of_ble_eq_true rfl) dX11_product_20 ⟨Nat.le_of_ble_eq_true rfl, Nat.le_of_ble_eq_true rfl⟩ ?_
      refine v_bipush (v := 42) F dX11_product_23 (by decide) ?_
      refine v_icmp_eq (tgt := 41) F dX11_product_25 (by decide) (fun hc14 => ?_) (fun hc14 => ?_)
      · rw [if_pos hc14] at h
        exact w_X11_product_b41 F hr hlk hkf_X11_unit hk0 hR_X11_unit t0 ih _ h
      · rw [if_neg hc14] at h
        refine v_aload_n F dX11_product_28 rfl 0 rfl ?_
        refine v_aload_n F dX11_product_29 rfl 0 rfl ?_
        refine v_getI (k := 4) F t0 (by decide) (inc inU_11) rfl rfl (by decide) (List.mem_cons_of_mem _ fl_X11_92) rfl dX11_product_30 ?_
        obtain ⟨⟨r15, M16⟩, hz17, h⟩ := bd_some h
        dsimp only at h
        refine v_callVi (As := [.int (M11 a0 4)]) (rest := []) F (c_X11_byteAt l F.2.2.1 t0 hz17) (cwV 1 F.1.2.2.2.2 (gU_V ml_X11_95 im_yX11_byteAt se_yX11_byteAt ini_X11 cd_X11_byteAt) rfl rfl rfl (by decide +kernel) ⟨by dsimp only [DP]; omega, by dsimp only [DP]; omega⟩) t0 (by decide) rfl rfl rfl (Nat.le_of_ble_eq_true rfl) dX11_product_33 ⟨Nat.le_of_ble_eq_true rfl, Nat.le_of_ble_eq_true rfl⟩ ?_
        refine v_bipush (v := 47) F dX11_product_36 (by decide) ?_
        refine v_icmp_ne (tgt := 90) F dX11_product_38 (by decide) (fun hc19 => ?_) (fun hc19 => ?_)
        · rw [if_neg hc19] at h
          cases h
          exact v_vret F hr hlk dX11_product_90
        · rw [if_pos hc19] at h
          exact w_X11_product_b41 F hr hlk hkf_X11_unit hk0 hR_X11_unit t0 ih _ h
set_option maxHeartbeats 4000000 in
set_option maxRecDepth 100000 in
theorem c_X11_product {g : gT} (l : Launch) (hok : gOK g) {k kf_X11_unit : Nat} {r_X11_unit : Mem → Nat → Option (Int32 × Mem)} {a0 : Nat} {M : Mem} {z : Int32 × Mem} (hkf_X11_unit : kf_X11_unit + 1 ≤ k) (hk0 : 7 ≤ k) (hR_X11_unit : ∀ (M : Mem) (b0 : Nat) (z : Int32 × Mem), Ty g 11 b0 → r_X11_unit M b0 = some z → Cn g l yX11_unit uX11_unit kf_X11_unit [.ref (gAd g b0)] M none z.2) (t0 : Ty g 11 a0) (h : f_X11_product r_X11_unit M a0 = some z) : Cn g l yX11_product uX11_product k [.ref (gAd g a0)] M none z.2 := by
  refine Cn.of (cc := cX11_product) (maxL := 2) (ret := none) hok (by decide) rfl (Nat.le_of_ble_eq_true rfl) (fun p e s m args below meth c F hr hlk => ?_)
  unfold f_X11_product at h
  show V g p l e ({ frames := k, cells := 0, slots := 0, locals := 40 * k } : Room) s m args below meth c 2 0 0 (MQ below (gQ g none z.2) args s 0 0 (gA g)) 0 [(0, .ref (gAd g a0))] [] M
  refine v_aload_n F dX11_product_0 rfl 0 rfl ?_
  obtain ⟨⟨r1, M2⟩, hz3, h⟩ := bd_some h
  dsimp only at h
  refine v_callVv (As := []) (rest := []) F (hR_X11_unit _ _ _ t0 hz3) (cwV 0 F.1.2.2.2.2 (gU_V ml_X11_157 im_yX11_unit se_yX11_unit ini_X11 cd_X11_unit) rfl rfl rfl (by decide +kernel) ⟨by dsimp only [DP]; omega, by dsimp only [DP]; omega⟩) t0 (by decide) rfl rfl rfl (Nat.le_of_ble_eq_true rfl) dX11_product_1 ⟨Nat.le_of_ble_eq_true rfl, Nat.le_of_ble_eq_true rfl⟩ ?_
  refine v_aload_n F dX11_product_4 rfl 0 rfl ?_
  obtain ⟨⟨r5, M6⟩, hz7, h⟩ := bd_some h
  dsimp only at h
  refine v_callVv (As := []) (rest := []) F (c_X11_blanks l F.2.2.1 t0 hz7) (cwV 0 F.1.2.2.2.2 (gU_V ml_X11_121 im_yX11_blanks se_yX11_blanks ini_X11 cd_X11_blanks) rfl rfl rfl (by decide +kernel) ⟨by dsimp only [DP]; omega, by dsimp only [DP]; omega⟩) t0 (by decide) rfl rfl rfl (Nat.le_of_ble_eq_true rfl) dX11_product_5 ⟨Nat.le_of_ble_eq_true rfl, Nat.le_of_ble_eq_true rfl⟩ ?_
  exact w_X11_product_h8 F hr hlk hkf_X11_unit hk0 hR_X11_unit t0 _ _ h
def f_X11_sum_b80 (r_X11_product : Mem → Nat → Option (Int32 × Mem)) (a0 : Nat) (k8 : Mem → Option (Int32 × Mem)) (s0 : Nat) (s1 : Int32) (M : Mem) : Option (Int32 × Mem) := (f_X11_tells M s0 s1).bind fun q => match q with | (r29, M30) => ((f_X11_blanks M30 a0).bind fun q => match q with | (r33, M34) => (k8 M34))
def f_X11_sum_b41 (r_X11_product : Mem → Nat → Option (Int32 × Mem)) (a0 : Nat) (k8 : Mem → Option (Int32 × Mem))  (M : Mem) : Option (Int32 × Mem) := (f_X11_byteAt M a0 (M a0 4)).bind fun q => match q with | (r20, M21) => ((r_X11_product (mU M21 a0 4 ((M21 a0 4) + 1)) a0).bind fun q => match q with | (r24, M25) => (if r20 = 43 then (f_X11_sum_b80 r_X11_product a0 k8 a0 10020 M25) else (f_X11_sum_b80 r_X11_product a0 k8 a0 10021 M25)))
def f_X11_sum_h8 (r_X11_product : Mem → Nat → Option (Int32 × Mem)) (a0 : Nat)  : Nat → Mem → Option (Int32 × Mem)
  | 0, _ => none
  | n + 1, M => if (M a0 6) = 0 then ((f_X11_byteAt M a0 (M a0 4)).bind fun q => match q with | (r10, M11) => (if r10 = 43 then (f_X11_sum_b41 r_X11_product a0 (f_X11_sum_h8 r_X11_product a0 n) M11) else ((f_X11_byteAt M11 a0 (M11 a0 4)).bind fun q => match q with | (r15, M16) => (if r15 = 45 then (f_X11_sum_b41 r_X11_product a0 (f_X11_sum_h8 r_X11_product a0 n) M16) else (some (0, M16)))))) else (some (0, M))
def f_X11_sum (r_X11_product : Mem → Nat → Option (Int32 × Mem)) (M : Mem) (a0 : Nat) : Option (Int32 × Mem) := (r_X11_product M a0).bind fun q => match q with | (r1, M2) => ((f_X11_blanks M2 a0).bind fun q => match q with | (r5, M6) => (f_X11_sum_h8 r_X11_product a0 FU M6))
set_option maxHeartbeats 4000000 in
set_option maxRecDepth 100000 in
theorem w_X11_sum_b80 {g : gT} {p : Program} {l : Launch} {e : Env} {s : State} {m : MethodId} {args : Array Value} {below : List Frame} {meth : Method} {c : Code} {z : Int32 × Mem} (F : Fx g p s m args c cX11_sum 2 uX11_sum RX11) (hr : meth.sig.returnType = none) (hlk : meth.locks = false) {k kf_X11_product : Nat} {r_X11_product : Mem → Nat → Option (Int32 × Mem)} {a0 : Nat} (hkf_X11_product : kf_X11_product + 1 ≤ k) (hk0 : 7 ≤ k) (hR_X11_product : ∀ (M : Mem) (b0 : Nat) (z : Int32 × Mem), Ty g 11 b0 → r_X11_product M b0 = some z → Cn g l yX11_product uX11_product kf_X11_product [.ref (gAd g b0)] M none z.2) (t0 : Ty g 11 a0) {k8 : Mem → Option (Int32 × Mem)} (hk8 : ∀  (M : Mem), k8  M = some z → V g p l e ({ frames := k, cells := 0, slots := 0, locals := 40 * k } : Room) s m args below meth c 2 0 0 (MQ below (gQ g none z.2) args s 0 0 (gA g)) 8 [(0, .ref (gAd g a0))] [] M) (s0 : Nat) (s1 : Int32) (M : Mem) (ts0 : Ty g 11 s0) (h : f_X11_sum_b80 r_X11_product a0 k8 s0 s1 M = some z) : V g p l e ({ frames := k, cells := 0, slots := 0, locals := 40 * k } : Room) s m args below meth c 2 0 0 (MQ below (gQ g none z.2) args s 0 0 (gA g)) 80 [(0, .ref (gAd g a0))] [.int s1, .ref (gAd g s0)] M := by
  unfold f_X11_sum_b80 at h
  obtain ⟨⟨r29, M30⟩, hz31, h⟩ := bd_some h
  dsimp only at h
  refine v_callVv (As := [.int s1]) (rest := []) F (c_X11_tells l F.2.2.1 ts0 hz31) (cwV 1 F.1.2.2.2.2 (gU_V ml_X11_117 im_yX11_tells se_yX11_tells ini_X11 cd_X11_tells) rfl rfl rfl (by decide +kernel) ⟨by dsimp only [DP]; omega, by dsimp only [DP]; omega⟩) ts0 (by decide) rfl rfl rfl (Nat.le_of_ble_eq_true rfl) dX11_sum_80 ⟨Nat.le_of_ble_eq_true rfl, Nat.le_of_ble_eq_true rfl⟩ ?_
  refine v_aload_n F dX11_sum_83 rfl 0 rfl ?_
  obtain ⟨⟨r33, M34⟩, hz35, h⟩ := bd_some h
  dsimp only at h
  refine v_callVv (As := []) (rest := []) F (c_X11_blanks l F.2.2.1 t0 hz35) (cwV 0 F.1.2.2.2.2 (gU_V ml_X11_121 im_yX11_blanks se_yX11_blanks ini_X11 cd_X11_blanks) rfl rfl rfl (by decide +kernel) ⟨by dsimp only [DP]; omega, by dsimp only [DP]; omega⟩) t0 (by decide) rfl rfl rfl (Nat.le_of_ble_eq_true rfl) dX11_sum_84 ⟨Nat.le_of_ble_eq_true rfl, Nat.le_of_ble_eq_true rfl⟩ ?_
  refine v_goto (tgt := 8) F dX11_sum_87 (by decide) ?_
  exact hk8 _ h
set_option maxHeartbeats 4000000 in
set_option maxRecDepth 100000 in
theorem w_X11_sum_b41 {g : gT} {p : Program} {l : Launch} {e : Env} {s : State} {m : MethodId} {args : Array Value} {below : List Frame} {meth : Method} {c : Code} {z : Int32 × Mem} (F : Fx g p s m args c cX11_sum 2 uX11_sum RX11) (hr : meth.sig.returnType = none) (hlk : meth.locks = false) {k kf_X11_product : Nat} {r_X11_product : Mem → Nat → Option (Int32 × Mem)} {a0 : Nat} (hkf_X11_product : kf_X11_product + 1 ≤ k) (hk0 : 7 ≤ k) (hR_X11_product : ∀ (M : Mem) (b0 : Nat) (z : Int32 × Mem), Ty g 11 b0 → r_X11_product M b0 = some z → Cn g l yX11_product uX11_product kf_X11_product [.ref (gAd g b0)] M none z.2) (t0 : Ty g 11 a0) {k8 : Mem → Option (Int32 × Mem)} (hk8 : ∀  (M : Mem), k8  M = some z → V g p l e ({ frames := k, cells := 0, slots := 0, locals := 40 * k } : Room) s m args below meth c 2 0 0 (MQ below (gQ g none z.2) args s 0 0 (gA g)) 8 [(0, .ref (gAd g a0))] [] M)  (M : Mem)  (h : f_X11_sum_b41 r_X11_product a0 k8 M = some z) : V g p l e ({ frames := k, cells := 0, slots := 0, locals := 40 * k } : Room) s m args below meth c 2 0 0 (MQ below (gQ g none z.2) args s 0 0 (gA g)) 41 [(0, .ref (gAd g a0))] [] M := by
  unfold f_X11_sum_b41 at h
  refine v_aload_n F dX11_sum_41 rfl 0 rfl ?_
  refine v_aload_n F dX11_sum_42 rfl 0 rfl ?_
  refine v_getI (k := 4) F t0 (by decide) (inc inU_11) rfl rfl (by decide) (List.mem_cons_of_mem _ fl_X11_92) rfl dX11_sum_43 ?_
  obtain ⟨⟨r20, M21⟩, hz22, h⟩ := bd_some h
  dsimp only at h
  refine v_callVi (As := [.int (M a0 4)]) (rest := []) F (c_X11_byteAt l F.2.2.1 t0 hz22) (cwV 1 F.1.2.2.2.2 (gU_V ml_X11_95 im_yX11_byteAt se_yX11_byteAt ini_X11 cd_X11_byteAt) rfl rfl rfl (by decide +kernel) ⟨by dsimp only [DP]; omega, by dsimp only [DP]; omega⟩) t0 (by decide) rfl rfl rfl (Nat.le_of_ble_eq_true rfl) dX11_sum_46 ⟨Nat.le_of_ble_eq_true rfl, Nat.le_of_ble_eq_true rfl⟩ ?_
  refine v_istore_n (lv' := [(1, .int r20), (0, .ref (gAd g a0))]) F dX11_sum_49 rfl (by decide) rfl ?_
  refine v_aload_n F dX11_sum_50 rfl 1 rfl ?_
  refine v_dup F dX11_sum_51 rfl ?_
  refine v_getI (k := 4) F t0 (by decide) (inc inU_11) rfl rfl (by decide) (List.mem_cons_of_mem _ fl_X11_92) rfl dX11_sum_52 ?_
  refine v_iconst (v := 1) F dX11_sum_55 (by decide) ?_
  refine v_iadd F dX11_sum_56 ?_
  refine v_put (k := 4) (ty := .int) F t0 (by decide) (inc inU_11) tyX11 tyX11_ok nmX11 rfl rfl (by decide) (List.mem_cons_of_mem _ fl_X11_92) rfl rfl (by decide +kernel) rfl rfl dX11_sum_57 ?_
  refine v_aload_n F dX11_sum_60 rfl 1 rfl ?_
  obtain ⟨⟨r24, M25⟩, hz26, h⟩ := bd_some h
  dsimp only at h
  refine v_callVv (As := []) (rest := []) F (hR_X11_product _ _ _ t0 hz26) (cwV 0 F.1.2.2.2.2 (gU_V ml_X11_160 im_yX11_product se_yX11_product ini_X11 cd_X11_product) rfl rfl rfl (by decide +kernel) ⟨by dsimp only [DP]; omega, by dsimp only [DP]; omega⟩) t0 (by decide) rfl rfl rfl (Nat.le_of_ble_eq_true rfl) dX11_sum_61 ⟨Nat.le_of_ble_eq_true rfl, Nat.le_of_ble_eq_true rfl⟩ ?_
  refine v_aload_n F dX11_sum_64 rfl 1 rfl ?_
  refine v_iload_n F dX11_sum_65 rfl 0 rfl ?_
  refine v_bipush (v := 43) F dX11_sum_66 (by decide) ?_
  refine v_icmp_ne (tgt := 77) F dX11_sum_68 (by decide) (fun hc28 => ?_) (fun hc28 => ?_)
  · rw [if_neg hc28] at h
    refine v_sipush (v := 10021) F dX11_sum_77 (by decide) ?_
    refine v_sub (fun ls h9 => lv_sub h9 [1] rfl) ?_
    exact w_X11_sum_b80 F hr hlk hkf_X11_product hk0 hR_X11_product t0 hk8 _ _ _ t0 h
  · rw [if_pos hc28] at h
    refine v_sipush (v := 10020) F dX11_sum_71 (by decide) ?_
    refine v_goto (tgt := 80) F dX11_sum_74 (by decide) ?_
    refine v_sub (fun ls h9 => lv_sub h9 [1] rfl) ?_
    exact w_X11_sum_b80 F hr hlk hkf_X11_product hk0 hR_X11_product t0 hk8 _ _ _ t0 h
set_option maxHeartbeats 4000000 in
set_option maxRecDepth 100000 in
theorem w_X11_sum_h8 {g : gT} {p : Program} {l : Launch} {e : Env} {s : State} {m : MethodId} {args : Array Value} {below : List Frame} {meth : Method} {c : Code} {z : Int32 × Mem} (F : Fx g p s m args c cX11_sum 2 uX11_sum RX11) (hr : meth.sig.returnType = none) (hlk : meth.locks = false) {k kf_X11_product : Nat} {r_X11_product : Mem → Nat → Option (Int32 × Mem)} {a0 : Nat} (hkf_X11_product : kf_X11_product + 1 ≤ k) (hk0 : 7 ≤ k) (hR_X11_product : ∀ (M : Mem) (b0 : Nat) (z : Int32 × Mem), Ty g 11 b0 → r_X11_product M b0 = some z → Cn g l yX11_product uX11_product kf_X11_product [.ref (gAd g b0)] M none z.2) (t0 : Ty g 11 a0)   : ∀ (n : Nat)  (M : Mem), f_X11_sum_h8 r_X11_product a0 n  M = some z → V g p l e ({ frames := k, cells := 0, slots := 0, locals := 40 * k } : Room) s m args below meth c 2 0 0 (MQ below (gQ g none z.2) args s 0 0 (gA g)) 8 [(0, .ref (gAd g a0))] [] M := by
  intro n
  induction n with
  | zero => intro M; intros; rename_i h; cases h
  | succ n ih =>
    intro M h
    rw [f_X11_sum_h8] at h
    refine v_aload_n F dX11_sum_8 rfl 0 rfl ?_
    refine v_getI (k := 6) F t0 (by decide) (inc inU_11) rfl rfl (by decide) (List.mem_cons_of_mem _ fl_X11_99) rfl dX11_sum_9 ?_
    refine v_if_ne (tgt := 90) F dX11_sum_12 (by decide) (fun hc9 => ?_) (fun hc9 => ?_)
    · rw [if_neg hc9] at h
      cases h
      exact v_vret F hr hlk dX11_sum_90
    · rw [if_pos hc9] at h
      refine v_aload_n F dX11_sum_15 rfl 0 rfl ?_
      refine v_aload_n F dX11_sum_16 rfl 0 rfl ?_
      refine v_getI (k := 4) F t0 (by decide) (inc inU_11) rfl rfl (by decide) (List.mem_cons_of_mem _ fl_X11_92) rfl dX11_sum_17 ?_
      obtain ⟨⟨r10, M11⟩, hz12, h⟩ := bd_some h
      dsimp only at h
      refine v_callVi (As := [.int (M a0 4)]) (rest := []) F (c_X11_byteAt l F.2.2.1 t0 hz12) (cwV 1 F.1.2.2.2.2 (gU_V ml_X11_95 im_yX11_byteAt se_yX11_byteAt ini_X11 cd_X11_byteAt) rfl rfl rfl (by decide +kernel) ⟨by dsimp only [DP]; omega, by dsimp only [DP]; omega⟩) t0 (by decide) rfl rfl rfl (Nat.le_of_ble_eq_true rfl) dX11_sum_20 ⟨Nat.le_of_ble_eq_true rfl, Nat.le_of_ble_eq_true rfl⟩ ?_
      refine v_bipush (v := 43) F dX11_sum_23 (by decide) ?_
      refine v_icmp_eq (tgt := 41) F dX11_sum_25 (by decide) (fun hc14 => ?_) (fun hc14 => ?_)
      · rw [if_pos hc14] at h
        exact w_X11_sum_b41 F hr hlk hkf_X11_product hk0 hR_X11_product t0 ih _ h
      · rw [if_neg hc14] at h
        refine v_aload_n F dX11_sum_28 rfl 0 rfl ?_
        refine v_aload_n F dX11_sum_29 rfl 0 rfl ?_
        refine v_getI (k := 4) F t0 (by decide) (inc inU_11) rfl rfl (by decide) (List.mem_cons_of_mem _ fl_X11_92) rfl dX11_sum_30 ?_
        obtain ⟨⟨r15, M16⟩, hz17, h⟩ := bd_some h
        dsimp only at h
        refine v_callVi (As := [.int (M11 a0 4)]) (rest := []) F (c_X11_byteAt l F.2.2.1 t0 hz17) (cwV 1 F.1.2.2.2.2 (gU_V ml_X11_95 im_yX11_byteAt se_yX11_byteAt ini_X11 cd_X11_byteAt) rfl rfl rfl (by decide +kernel) ⟨by dsimp only [DP]; omega, by dsimp only [DP]; omega⟩) t0 (by decide) rfl rfl rfl (Nat.le_of_ble_eq_true rfl) dX11_sum_33 ⟨Nat.le_of_ble_eq_true rfl, Nat.le_of_ble_eq_true rfl⟩ ?_
        refine v_bipush (v := 45) F dX11_sum_36 (by decide) ?_
        refine v_icmp_ne (tgt := 90) F dX11_sum_38 (by decide) (fun hc19 => ?_) (fun hc19 => ?_)
        · rw [if_neg hc19] at h
          cases h
          exact v_vret F hr hlk dX11_sum_90
        · rw [if_pos hc19] at h
          exact w_X11_sum_b41 F hr hlk hkf_X11_product hk0 hR_X11_product t0 ih _ h
set_option maxHeartbeats 4000000 in
set_option maxRecDepth 100000 in
theorem c_X11_sum {g : gT} (l : Launch) (hok : gOK g) {k kf_X11_product : Nat} {r_X11_product : Mem → Nat → Option (Int32 × Mem)} {a0 : Nat} {M : Mem} {z : Int32 × Mem} (hkf_X11_product : kf_X11_product + 1 ≤ k) (hk0 : 7 ≤ k) (hR_X11_product : ∀ (M : Mem) (b0 : Nat) (z : Int32 × Mem), Ty g 11 b0 → r_X11_product M b0 = some z → Cn g l yX11_product uX11_product kf_X11_product [.ref (gAd g b0)] M none z.2) (t0 : Ty g 11 a0) (h : f_X11_sum r_X11_product M a0 = some z) : Cn g l yX11_sum uX11_sum k [.ref (gAd g a0)] M none z.2 := by
  refine Cn.of (cc := cX11_sum) (maxL := 2) (ret := none) hok (by decide) rfl (Nat.le_of_ble_eq_true rfl) (fun p e s m args below meth c F hr hlk => ?_)
  unfold f_X11_sum at h
  show V g p l e ({ frames := k, cells := 0, slots := 0, locals := 40 * k } : Room) s m args below meth c 2 0 0 (MQ below (gQ g none z.2) args s 0 0 (gA g)) 0 [(0, .ref (gAd g a0))] [] M
  refine v_aload_n F dX11_sum_0 rfl 0 rfl ?_
  obtain ⟨⟨r1, M2⟩, hz3, h⟩ := bd_some h
  dsimp only at h
  refine v_callVv (As := []) (rest := []) F (hR_X11_product _ _ _ t0 hz3) (cwV 0 F.1.2.2.2.2 (gU_V ml_X11_160 im_yX11_product se_yX11_product ini_X11 cd_X11_product) rfl rfl rfl (by decide +kernel) ⟨by dsimp only [DP]; omega, by dsimp only [DP]; omega⟩) t0 (by decide) rfl rfl rfl (Nat.le_of_ble_eq_true rfl) dX11_sum_1 ⟨Nat.le_of_ble_eq_true rfl, Nat.le_of_ble_eq_true rfl⟩ ?_
  refine v_aload_n F dX11_sum_4 rfl 0 rfl ?_
  obtain ⟨⟨r5, M6⟩, hz7, h⟩ := bd_some h
  dsimp only at h
  refine v_callVv (As := []) (rest := []) F (c_X11_blanks l F.2.2.1 t0 hz7) (cwV 0 F.1.2.2.2.2 (gU_V ml_X11_121 im_yX11_blanks se_yX11_blanks ini_X11 cd_X11_blanks) rfl rfl rfl (by decide +kernel) ⟨by dsimp only [DP]; omega, by dsimp only [DP]; omega⟩) t0 (by decide) rfl rfl rfl (Nat.le_of_ble_eq_true rfl) dX11_sum_5 ⟨Nat.le_of_ble_eq_true rfl, Nat.le_of_ble_eq_true rfl⟩ ?_
  exact w_X11_sum_h8 F hr hlk hkf_X11_product hk0 hR_X11_product t0 _ _ h
