def f_X10_putOnTape_h3 (a0 : Nat) (i1 : Int32)  : Nat → Int32 → Mem → Option (Int32 × Mem)
  | 0, _, _ => none
  | n + 1, x2, M => if x2 < 0 then (some (0, M)) else ((f_X8_put M (gRf a0 0) (M a0 1) (((i1.toUInt32 >>> (x2.toUInt32 &&& Int32.toUInt32 31)).toInt32) &&& 255)).bind fun q => match q with | (r3, M4) => ((f_X10_putOnTape_h3 a0 i1 n) (x2 + (-8)) (mU M4 a0 1 ((M4 a0 1) + 1))))
def f_X10_putOnTape  (M : Mem) (a0 : Nat) (i1 : Int32) : Option (Int32 × Mem) := f_X10_putOnTape_h3 a0 i1 FU 24 M
set_option maxHeartbeats 4000000 in
set_option maxRecDepth 100000 in
theorem w_X10_putOnTape_h3 {g : gT} {p : Program} {l : Launch} {e : Env} {s : State} {m : MethodId} {args : Array Value} {below : List Frame} {meth : Method} {c : Code} {z : Int32 × Mem} (F : Fx g p s m args c cX10_putOnTape 3 uX10_putOnTape RX10) (hr : meth.sig.returnType = none) (hlk : meth.locks = false)  {a0 : Nat} {i1 : Int32} (t0 : Ty g 10 a0)   : ∀ (n : Nat) (x2 : Int32) (M : Mem), f_X10_putOnTape_h3 a0 i1 n x2 M = some z → V g p l e ({ frames := 1, cells := 0, slots := 0, locals := 40 * 1 } : Room) s m args below meth c 3 0 0 (MQ below (gQ g none z.2) args s 0 0 (gA g)) 3 [(0, .ref (gAd g a0)), (1, .int i1), (2, .int x2)] [] M := by
  intro n
  induction n with
  | zero => intro x2 M; intros; rename_i h; cases h
  | succ n ih =>
    intro x2 M h
    rw [f_X10_putOnTape_h3] at h
    refine v_iload_n F dX10_putOnTape_3 rfl 2 rfl ?_
    refine v_if_lt (tgt := 41) F dX10_putOnTape_4 (by decide) (fun hc1 => ?_) (fun hc1 => ?_)
    · rw [if_pos hc1] at h
      cases h
      exact v_vret F hr hlk dX10_putOnTape_41
    · rw [if_neg hc1] at h
      refine v_aload_n F dX10_putOnTape_7 rfl 0 rfl ?_
      refine v_getR (k := 0) (f := 8) F t0 (by decide) (inc inU_10) rfl rfl (by decide) (by decide) (List.mem_cons_of_mem _ fl_X10_14) rfl dX10_putOnTape_8 (fun u2 => ?_)
      refine v_aload_n F dX10_putOnTape_11 rfl 0 rfl ?_
      refine v_getI (k := 1) F t0 (by decide) (inc inU_10) rfl rfl (by decide) (List.mem_cons_of_mem _ fl_X10_57) rfl dX10_putOnTape_12 ?_
      refine v_iload_n F dX10_putOnTape_15 rfl 1 rfl ?_
      refine v_iload_n F dX10_putOnTape_16 rfl 2 rfl ?_
      refine v_iushr (v := (i1.toUInt32 >>> (x2.toUInt32 &&& Int32.toUInt32 31)).toInt32) F dX10_putOnTape_17 rfl ?_
      refine v_sipush (v := 255) F dX10_putOnTape_18 (by decide) ?_
      refine v_iand F dX10_putOnTape_21 ?_
      obtain ⟨⟨r3, M4⟩, hz5, h⟩ := bd_some h
      dsimp only at h
      refine v_callVv (As := [.int (M a0 1), .int (((i1.toUInt32 >>> (x2.toUInt32 &&& Int32.toUInt32 31)).toInt32) &&& 255)]) (rest := []) F (c_X8_put l F.2.2.1 u2 hz5) (cwV 2 F.1.2.2.2.2 (gU_V ml_X10_115 im_yX8_put se_yX8_put ini_X8 cd_X8_put) rfl rfl rfl (by decide +kernel) ⟨Nat.le_of_ble_eq_true rfl, Nat.le_of_ble_eq_true rfl⟩) u2 (by decide) rfl rfl rfl (Nat.le_of_ble_eq_true rfl) dX10_putOnTape_22 ⟨Nat.le_of_ble_eq_true rfl, Nat.le_of_ble_eq_true rfl⟩ ?_
      refine v_aload_n F dX10_putOnTape_25 rfl 0 rfl ?_
      refine v_dup F dX10_putOnTape_26 rfl ?_
      refine v_getI (k := 1) F t0 (by decide) (inc inU_10) rfl rfl (by decide) (List.mem_cons_of_mem _ fl_X10_57) rfl dX10_putOnTape_27 ?_
      refine v_iconst (v := 1) F dX10_putOnTape_30 (by decide) ?_
      refine v_iadd F dX10_putOnTape_31 ?_
      refine v_put (k := 1) (ty := .int) F t0 (by decide) (inc inU_10) tyX10 tyX10_ok nmX10 rfl rfl (by decide) (List.mem_cons_of_mem _ fl_X10_57) rfl rfl (by decide +kernel) rfl rfl dX10_putOnTape_32 ?_
      refine v_iinc (v := x2 + (-8)) (lv' := [(2, .int (x2 + (-8))), (0, .ref (gAd g a0)), (1, .int i1)]) F dX10_putOnTape_35 (q := 2) rfl rfl (by decide) rfl ?_
      refine v_goto (tgt := 3) F dX10_putOnTape_38 (by decide) ?_
      refine v_sub (fun ls h9 => lv_sub h9 [1, 2, 0] rfl) ?_
      exact ih _ _ h
set_option maxHeartbeats 4000000 in
set_option maxRecDepth 100000 in
theorem c_X10_putOnTape {g : gT} (l : Launch) (hok : gOK g)  {a0 : Nat} {i1 : Int32} {M : Mem} {z : Int32 × Mem}  (t0 : Ty g 10 a0) (h : f_X10_putOnTape  M a0 i1 = some z) : Cn g l yX10_putOnTape uX10_putOnTape 1 [.ref (gAd g a0), .int i1] M none z.2 := by
  refine Cn.of (cc := cX10_putOnTape) (maxL := 3) (ret := none) hok (by decide) rfl (Nat.le_of_ble_eq_true rfl) (fun p e s m args below meth c F hr hlk => ?_)
  unfold f_X10_putOnTape at h
  show V g p l e ({ frames := 1, cells := 0, slots := 0, locals := 40 * 1 } : Room) s m args below meth c 3 0 0 (MQ below (gQ g none z.2) args s 0 0 (gA g)) 0 [(0, .ref (gAd g a0)), (1, .int i1)] [] M
  refine v_bipush (v := 24) F dX10_putOnTape_0 (by decide) ?_
  refine v_istore_n (lv' := [(2, .int 24), (0, .ref (gAd g a0)), (1, .int i1)]) F dX10_putOnTape_2 rfl (by decide) rfl ?_
  refine v_sub (fun ls h9 => lv_sub h9 [1, 2, 0] rfl) ?_
  exact w_X10_putOnTape_h3 F hr hlk t0 _ _ _ h
def f_X10_feed  (M : Mem) (a0 : Nat) (i1 : Int32) (i2 : Int32) (i3 : Int32) (i4 : Int32) (i5 : Int32) : Option (Int32 × Mem) := if ((M a0 1) + 20) ≤ 300 then ((f_X10_putOnTape M a0 i1).bind fun q => match q with | (r2, M3) => ((f_X10_putOnTape M3 a0 i2).bind fun q => match q with | (r6, M7) => ((f_X10_putOnTape M7 a0 i3).bind fun q => match q with | (r10, M11) => ((f_X10_putOnTape M11 a0 i4).bind fun q => match q with | (r14, M15) => ((f_X10_putOnTape M15 a0 i5).bind fun q => match q with | (r18, M19) => (some (M19 a0 1, M19))))))) else (some ((-1), M))
set_option maxHeartbeats 4000000 in
set_option maxRecDepth 100000 in
theorem c_X10_feed {g : gT} (l : Launch) (hok : gOK g)  {a0 : Nat} {i1 : Int32} {i2 : Int32} {i3 : Int32} {i4 : Int32} {i5 : Int32} {M : Mem} {z : Int32 × Mem}  (t0 : Ty g 10 a0) (h : f_X10_feed  M a0 i1 i2 i3 i4 i5 = some z) : Cn g l yX10_feed uX10_feed 2 [.ref (gAd g a0), .int i1, .int i2, .int i3, .int i4, .int i5] M (some (.int z.1)) z.2 := by
  refine Cn.of (cc := cX10_feed) (maxL := 6) (ret := (some .int)) hok (by decide) rfl (Nat.le_of_ble_eq_true rfl) (fun p e s m args below meth c F hr hlk => ?_)
  unfold f_X10_feed at h
  show V g p l e ({ frames := 2, cells := 0, slots := 0, locals := 40 * 2 } : Room) s m args below meth c 6 0 0 (MQ below (gQ g (some (.int z.1)) z.2) args s 0 0 (gA g)) 0 [(0, .ref (gAd g a0)), (1, .int i1), (2, .int i2), (3, .int i3), (4, .int i4), (5, .int i5)] [] M
  refine v_aload_n F dX10_feed_0 rfl 0 rfl ?_
  refine v_getI (k := 1) F t0 (by decide) (inc inU_10) rfl rfl (by decide) (List.mem_cons_of_mem _ fl_X10_57) rfl dX10_feed_1 ?_
  refine v_bipush (v := 20) F dX10_feed_4 (by decide) ?_
  refine v_iadd F dX10_feed_6 ?_
  refine v_sipush (v := 300) F dX10_feed_7 (by decide) ?_
  refine v_icmp_le (tgt := 15) F dX10_feed_10 (by decide) (fun hc1 => ?_) (fun hc1 => ?_)
  · rw [if_pos hc1] at h
    refine v_aload_n F dX10_feed_15 rfl 0 rfl ?_
    refine v_iload_n F dX10_feed_16 rfl 1 rfl ?_
    obtain ⟨⟨r2, M3⟩, hz4, h⟩ := bd_some h
    dsimp only at h
    refine v_callVv (As := [.int i1]) (rest := []) F (c_X10_putOnTape l F.2.2.1 t0 hz4) (cwV 1 F.1.2.2.2.2 (gU_V ml_X10_60 im_yX10_putOnTape se_yX10_putOnTape ini_X10 cd_X10_putOnTape) rfl rfl rfl (by decide +kernel) ⟨Nat.le_of_ble_eq_true rfl, Nat.le_of_ble_eq_true rfl⟩) t0 (by decide) rfl rfl rfl (Nat.le_of_ble_eq_true rfl) dX10_feed_17 ⟨Nat.le_of_ble_eq_true rfl, Nat.le_of_ble_eq_true rfl⟩ ?_
    refine v_aload_n F dX10_feed_20 rfl 0 rfl ?_
    refine v_iload_n F dX10_feed_21 rfl 2 rfl ?_
    obtain ⟨⟨r6, M7⟩, hz8, h⟩ := bd_some h
    dsimp only at h
    refine v_callVv (As := [.int i2]) (rest := []) F (c_X10_putOnTape l F.2.2.1 t0 hz8) (cwV 1 F.1.2.2.2.2 (gU_V ml_X10_60 im_yX10_putOnTape se_yX10_putOnTape ini_X10 cd_X10_putOnTape) rfl rfl rfl (by decide +kernel) ⟨Nat.le_of_ble_eq_true rfl, Nat.le_of_ble_eq_true rfl⟩) t0 (by decide) rfl rfl rfl (Nat.le_of_ble_eq_true rfl) dX10_feed_22 ⟨Nat.le_of_ble_eq_true rfl, Nat.le_of_ble_eq_true rfl⟩ ?_
    refine v_aload_n F dX10_feed_25 rfl 0 rfl ?_
    refine v_iload_n F dX10_feed_26 rfl 3 rfl ?_
    obtain ⟨⟨r10, M11⟩, hz12, h⟩ := bd_some h
    dsimp only at h
    refine v_callVv (As := [.int i3]) (rest := []) F (c_X10_putOnTape l F.2.2.1 t0 hz12) (cwV 1 F.1.2.2.2.2 (gU_V ml_X10_60 im_yX10_putOnTape se_yX10_putOnTape ini_X10 cd_X10_putOnTape) rfl rfl rfl (by decide +kernel) ⟨Nat.le_of_ble_eq_true rfl, Nat.le_of_ble_eq_true rfl⟩) t0 (by decide) rfl rfl rfl (Nat.le_of_ble_eq_true rfl) dX10_feed_27 ⟨Nat.le_of_ble_eq_true rfl, Nat.le_of_ble_eq_true rfl⟩ ?_
    refine v_aload_n F dX10_feed_30 rfl 0 rfl ?_
    refine v_iload F dX10_feed_31 4 rfl ?_
    obtain ⟨⟨r14, M15⟩, hz16, h⟩ := bd_some h
    dsimp only at h
    refine v_callVv (As := [.int i4]) (rest := []) F (c_X10_putOnTape l F.2.2.1 t0 hz16) (cwV 1 F.1.2.2.2.2 (gU_V ml_X10_60 im_yX10_putOnTape se_yX10_putOnTape ini_X10 cd_X10_putOnTape) rfl rfl rfl (by decide +kernel) ⟨Nat.le_of_ble_eq_true rfl, Nat.le_of_ble_eq_true rfl⟩) t0 (by decide) rfl rfl rfl (Nat.le_of_ble_eq_true rfl) dX10_feed_33 ⟨Nat.le_of_ble_eq_true rfl, Nat.le_of_ble_eq_true rfl⟩ ?_
    refine v_aload_n F dX10_feed_36 rfl 0 rfl ?_
    refine v_iload F dX10_feed_37 5 rfl ?_
    obtain ⟨⟨r18, M19⟩, hz20, h⟩ := bd_some h
    dsimp only at h
    refine v_callVv (As := [.int i5]) (rest := []) F (c_X10_putOnTape l F.2.2.1 t0 hz20) (cwV 1 F.1.2.2.2.2 (gU_V ml_X10_60 im_yX10_putOnTape se_yX10_putOnTape ini_X10 cd_X10_putOnTape) rfl rfl rfl (by decide +kernel) ⟨Nat.le_of_ble_eq_true rfl, Nat.le_of_ble_eq_true rfl⟩) t0 (by decide) rfl rfl rfl (Nat.le_of_ble_eq_true rfl) dX10_feed_39 ⟨Nat.le_of_ble_eq_true rfl, Nat.le_of_ble_eq_true rfl⟩ ?_
    refine v_aload_n F dX10_feed_42 rfl 0 rfl ?_
    refine v_getI (k := 1) F t0 (by decide) (inc inU_10) rfl rfl (by decide) (List.mem_cons_of_mem _ fl_X10_57) rfl dX10_feed_43 ?_
    cases h
    exact v_iret F hr rfl hlk dX10_feed_46
  · rw [if_neg hc1] at h
    refine v_iconst (v := (-1)) F dX10_feed_13 (by decide) ?_
    cases h
    exact v_iret F hr rfl hlk dX10_feed_14
def f_X10_demand  (M : Mem) (i0 : Int32) : Option ((Int32 ⊕ Nat) × Mem) := if i0 = 0 then (some (.inr 0, M)) else (some (.inl 0, M))
set_option maxHeartbeats 4000000 in
set_option maxRecDepth 100000 in
theorem c_X10_demand {g : gT} (l : Launch) (hst : l.stackTraces = false) (hok : gOK g) {i0 : Int32} {M : Mem} {z : (Int32 ⊕ Nat) × Mem}  (h : f_X10_demand M i0 = some z) : Cx g l yX10_demand uX10_demand 6 1 6 [.int i0] M vV z := by
  refine Cx.of (cc := cX10_demand) (maxL := 1) (ret := none) hok (by decide) rfl (Nat.le_of_ble_eq_true rfl) (fun p e s m args below meth c F hr hlk hxt => ?_)
  unfold f_X10_demand at h
  show V g p l e ({ frames := 6, cells := 1, slots := 6, locals := 40 * 6 } : Room) s m args below meth c 1 0 0 (vx_MQ below (gQx g vV z) (gXx g z) args s 1 6 (gA g)) 0 [(0, .int i0)] [] M
  refine v_iload_n F dX10_demand_0 rfl 0 rfl ?_
  refine v_if_ne (tgt := 15) F dX10_demand_1 (by decide) (fun hc1 => ?_) (fun hc1 => ?_)
  · rw [if_neg hc1] at h
    cases h
    refine v_vretX F hr hlk dX10_demand_15 ?_ ?_ <;> decide
  · rw [if_pos hc1] at h
    cases h
    exact v_throwW (j := 0) (sx := 4) (text := "a number is out of its bounds") F hxt hlk hst rfl (by decide +kernel) (List.mem_cons_of_mem _ cl_X10_161) (List.mem_cons_of_mem _ ini_E0) (by decide +kernel) (fun w h => List.mem_cons_of_mem _ (at_0 w h)) bad_0 ok_0 dX10_demand_4 dX10_demand_7 dX10_demand_8 dX10_demand_11 dX10_demand_14 (by decide) (by decide) (by decide) (by decide) (by decide) (by decide)
def f_X10_within  (M : Mem) (i0 : Int32) (i1 : Int32) (i2 : Int32) : Option (Int32 × Mem) := if i0 < i1 then (some (0, M)) else (if i2 < i0 then (some (0, M)) else (some (1, M)))
set_option maxHeartbeats 4000000 in
set_option maxRecDepth 100000 in
theorem c_X10_within {g : gT} (l : Launch) (hok : gOK g)  {i0 : Int32} {i1 : Int32} {i2 : Int32} {M : Mem} {z : Int32 × Mem}   (h : f_X10_within  M i0 i1 i2 = some z) : Cn g l yX10_within uX10_within 0 [.int i0, .int i1, .int i2] M (some (.int z.1)) z.2 := by
  refine Cn.of (cc := cX10_within) (maxL := 3) (ret := (some .boolean)) hok (by decide) rfl (Nat.le_of_ble_eq_true rfl) (fun p e s m args below meth c F hr hlk => ?_)
  unfold f_X10_within at h
  show V g p l e ({ frames := 0, cells := 0, slots := 0, locals := 40 * 0 } : Room) s m args below meth c 3 0 0 (MQ below (gQ g (some (.int z.1)) z.2) args s 0 0 (gA g)) 0 [(0, .int i0), (1, .int i1), (2, .int i2)] [] M
  refine v_iload_n F dX10_within_0 rfl 0 rfl ?_
  refine v_iload_n F dX10_within_1 rfl 1 rfl ?_
  refine v_icmp_lt (tgt := 14) F dX10_within_2 (by decide) (fun hc1 => ?_) (fun hc1 => ?_)
  · rw [if_pos hc1] at h
    refine v_iconst (v := 0) F dX10_within_14 (by decide) ?_
    cases h
    exact v_iret F hr narrow_b0 hlk dX10_within_15
  · rw [if_neg hc1] at h
    refine v_iload_n F dX10_within_5 rfl 0 rfl ?_
    refine v_iload_n F dX10_within_6 rfl 2 rfl ?_
    refine v_icmp_gt (tgt := 14) F dX10_within_7 (by decide) (fun hc2 => ?_) (fun hc2 => ?_)
    · rw [if_pos hc2] at h
      refine v_iconst (v := 0) F dX10_within_14 (by decide) ?_
      cases h
      exact v_iret F hr narrow_b0 hlk dX10_within_15
    · rw [if_neg hc2] at h
      refine v_iconst (v := 1) F dX10_within_10 (by decide) ?_
      refine v_goto (tgt := 15) F dX10_within_11 (by decide) ?_
      cases h
      exact v_iret F hr narrow_b1 hlk dX10_within_15
def f_X10_fault  (M : Mem) (a0 : Nat) : Option (Int32 × Mem) := some (M a0 5, M)
set_option maxHeartbeats 4000000 in
set_option maxRecDepth 100000 in
theorem c_X10_fault {g : gT} (l : Launch) (hok : gOK g)  {a0 : Nat} {M : Mem} {z : Int32 × Mem}  (t0 : Ty g 10 a0) (h : f_X10_fault  M a0 = some z) : Cn g l yX10_fault uX10_fault 0 [.ref (gAd g a0)] M (some (.int z.1)) z.2 := by
  refine Cn.of (cc := cX10_fault) (maxL := 1) (ret := (some .int)) hok (by decide) rfl (Nat.le_of_ble_eq_true rfl) (fun p e s m args below meth c F hr hlk => ?_)
  unfold f_X10_fault at h
  show V g p l e ({ frames := 0, cells := 0, slots := 0, locals := 40 * 0 } : Room) s m args below meth c 1 0 0 (MQ below (gQ g (some (.int z.1)) z.2) args s 0 0 (gA g)) 0 [(0, .ref (gAd g a0))] [] M
  refine v_aload_n F dX10_fault_0 rfl 0 rfl ?_
  refine v_getI (k := 5) F t0 (by decide) (inc inU_10) rfl rfl (by decide) (List.mem_cons_of_mem _ fl_X10_31) rfl dX10_fault_1 ?_
  cases h
  exact v_iret F hr rfl hlk dX10_fault_4
def f_X10_deck  (M : Mem) (a0 : Nat) (i1 : Int32) : Option ((Int32 ⊕ Nat) × Mem) := (f_X10_within M i1 2 8).bind fun q => match q with | (r1, M2) => ((f_X10_demand M2 r1).bind fun q => match q with | (.inr j8, M6) => some (.inr j8, M6) | (.inl r5, M6) => ((f_X1_lay M6 (gRf (gRf a0 6) 0) i1).bind fun q => match q with | (r13, M14) => (some (.inl (M6 (gRf (gRf a0 6) 0) 0), M14))))
set_option maxHeartbeats 4000000 in
set_option maxRecDepth 100000 in
theorem c_X10_deck {g : gT} (l : Launch) (hst : l.stackTraces = false) (hok : gOK g) {a0 : Nat} {i1 : Int32} {M : Mem} {z : (Int32 ⊕ Nat) × Mem} (t0 : Ty g 10 a0) (h : f_X10_deck M a0 i1 = some z) : Cx g l yX10_deck uX10_deck 7 1 6 [.ref (gAd g a0), .int i1] M vI z := by
  refine Cx.of (cc := cX10_deck) (maxL := 3) (ret := (some .int)) hok (by decide) rfl (Nat.le_of_ble_eq_true rfl) (fun p e s m args below meth c F hr hlk hxt => ?_)
  unfold f_X10_deck at h
  show V g p l e ({ frames := 7, cells := 1, slots := 6, locals := 40 * 7 } : Room) s m args below meth c 3 0 0 (vx_MQ below (gQx g vI z) (gXx g z) args s 1 6 (gA g)) 0 [(0, .ref (gAd g a0)), (1, .int i1)] [] M
  refine v_iload_n F dX10_deck_0 rfl 1 rfl ?_
  refine v_iconst (v := 2) F dX10_deck_1 (by decide) ?_
  refine v_bipush (v := 8) F dX10_deck_2 (by decide) ?_
  obtain ⟨⟨r1, M2⟩, hz3, h⟩ := bd_some h
  dsimp only at h
  refine v_callSi (As := [.int i1, .int 2, .int 8]) (rest := []) F (c_X10_within l F.2.2.1  hz3) (cwS 3 F.1.2.2.2.2 (gU_S ml_X10_63 st_yX10_within ini_X10 cd_X10_within) rfl rfl rfl (by decide +kernel) ⟨Nat.le_of_ble_eq_true rfl, Nat.le_of_ble_eq_true rfl⟩) rfl rfl (Nat.le_of_ble_eq_true rfl) dX10_deck_4 ⟨Nat.le_of_ble_eq_true rfl, Nat.le_of_ble_eq_true rfl⟩ ?_
  obtain ⟨⟨r5 | j8, M6⟩, hz7, h⟩ := bd_some h
  rotate_left
  · dsimp only at h; cases h; exact v_callSxT (As := [.int r1]) (rest := []) F (c_X10_demand l hst F.2.2.1  hz7) (cwS 1 F.1.2.2.2.2 (gU_S ml_X10_67 st_yX10_demand ini_X10 cd_X10_demand) rfl rfl rfl (by decide +kernel) ⟨Nat.le_of_ble_eq_true rfl, Nat.le_of_ble_eq_true rfl⟩) rfl rfl (Nat.le_of_ble_eq_true rfl) dX10_deck_7 ⟨Nat.le_of_ble_eq_true rfl, Nat.le_of_ble_eq_true rfl⟩ (vx_outV hxt hlk (by decide) (by decide))
  dsimp only at h
  refine v_callSxv (As := [.int r1]) (rest := []) F (c_X10_demand l hst F.2.2.1  hz7) (cwS 1 F.1.2.2.2.2 (gU_S ml_X10_67 st_yX10_demand ini_X10 cd_X10_demand) rfl rfl rfl (by decide +kernel) ⟨Nat.le_of_ble_eq_true rfl, Nat.le_of_ble_eq_true rfl⟩) rfl rfl (Nat.le_of_ble_eq_true rfl) dX10_deck_7 ⟨Nat.le_of_ble_eq_true rfl, Nat.le_of_ble_eq_true rfl⟩ ?_
  refine v_aload_n F dX10_deck_10 rfl 0 rfl ?_
  refine v_getR (k := 6) (f := 7) F t0 (by decide) (inc inU_10) rfl rfl (by decide) (by decide) (List.mem_cons_of_mem _ fl_X10_38) rfl dX10_deck_11 (fun u9 => ?_)
  refine v_getR (k := 0) (f := 1) F u9 (by decide) (inc inU_7) rfl rfl (by decide) (by decide) (List.mem_cons_of_mem _ fl_X10_93) rfl dX10_deck_14 (fun u10 => ?_)
  refine v_getI (k := 0) F u10 (by decide) (inc inU_1) rfl rfl (by decide) (List.mem_cons_of_mem _ fl_X10_96) rfl dX10_deck_17 ?_
  refine v_istore_n (lv' := [(2, .int (M6 (gRf (gRf a0 6) 0) 0)), (0, .ref (gAd g a0)), (1, .int i1)]) F dX10_deck_20 rfl (by decide) rfl ?_
  refine v_aload_n F dX10_deck_21 rfl 1 rfl ?_
  refine v_getR (k := 6) (f := 7) F t0 (by decide) (inc inU_10) rfl rfl (by decide) (by decide) (List.mem_cons_of_mem _ fl_X10_38) rfl dX10_deck_22 (fun u11 => ?_)
  refine v_getR (k := 0) (f := 1) F u11 (by decide) (inc inU_7) rfl rfl (by decide) (by decide) (List.mem_cons_of_mem _ fl_X10_93) rfl dX10_deck_25 (fun u12 => ?_)
  refine v_iload_n F dX10_deck_28 rfl 2 rfl ?_
  obtain ⟨⟨r13, M14⟩, hz15, h⟩ := bd_some h
  dsimp only at h
  refine v_callVv (As := [.int i1]) (rest := []) F (c_X1_lay l F.2.2.1 u12 hz15) (cwV 1 F.1.2.2.2.2 (gU_V ml_X10_99 im_yX1_lay se_yX1_lay ini_X1 cd_X1_lay) rfl rfl rfl (by decide +kernel) ⟨Nat.le_of_ble_eq_true rfl, Nat.le_of_ble_eq_true rfl⟩) u12 (by decide) rfl rfl rfl (Nat.le_of_ble_eq_true rfl) dX10_deck_29 ⟨Nat.le_of_ble_eq_true rfl, Nat.le_of_ble_eq_true rfl⟩ ?_
  refine v_iload_n F dX10_deck_32 rfl 0 rfl ?_
  cases h
  refine v_iretX F hr rfl hlk dX10_deck_33 ?_ ?_ <;> decide
def f_X10_set_b30 (a0 : Nat) (i1 : Int32) (i2 : Int32)  (s0 : Int32) (M : Mem) : Option ((Int32 ⊕ Nat) × Mem) := (f_X10_demand M s0).bind fun q => match q with | (.inr j22, M20) => some (.inr j22, M20) | (.inl r19, M20) => ((f_X8_at M20 (gRf (gRf (gRf a0 6) 0) 2) i1).bind fun q => match q with | (r26, M27) => ((f_X8_put M27 (gRf (gRf (gRf a0 6) 0) 2) i1 i2).bind fun q => match q with | (r33, M34) => (some (.inl r26, M34))))
def f_X10_set_b29 (a0 : Nat) (i1 : Int32) (i2 : Int32)   (M : Mem) : Option ((Int32 ⊕ Nat) × Mem) := f_X10_set_b30 a0 i1 i2 0 M
def f_X10_set  (M : Mem) (a0 : Nat) (i1 : Int32) (i2 : Int32) : Option ((Int32 ⊕ Nat) × Mem) := (f_X10_within M i1 0 9).bind fun q => match q with | (r1, M2) => (if r1 = 0 then (f_X10_set_b29 a0 i1 i2 M2) else ((f_X10_leastOf M2 i1).bind fun q => match q with | (r6, M7) => ((f_X10_mostOf M7 i1).bind fun q => match q with | (r10, M11) => ((f_X10_within M11 i2 r6 r10).bind fun q => match q with | (r14, M15) => (if r14 = 0 then (f_X10_set_b29 a0 i1 i2 M15) else (f_X10_set_b30 a0 i1 i2 1 M15))))))
set_option maxHeartbeats 4000000 in
set_option maxRecDepth 100000 in
theorem w_X10_set_b30 {g : gT} {p : Program} {l : Launch} {e : Env} {s : State} {m : MethodId} {args : Array Value} {below : List Frame} {meth : Method} {c : Code} {z : (Int32 ⊕ Nat) × Mem} (F : Fx g p s m args c cX10_set 4 uX10_set RX10) (hr : meth.sig.returnType = (some .int)) (hlk : meth.locks = false) (hxt : ∀ x ∈ c.exceptionTable.toList, False) (hst : l.stackTraces = false)  {a0 : Nat} {i1 : Int32} {i2 : Int32} (t0 : Ty g 10 a0)   (s0 : Int32) (M : Mem)  (h : f_X10_set_b30 a0 i1 i2 s0 M = some z) : V g p l e ({ frames := 7, cells := 1, slots := 6, locals := 40 * 7 } : Room) s m args below meth c 4 0 0 (vx_MQ below (gQx g vI z) (gXx g z) args s 1 6 (gA g)) 30 [(0, .ref (gAd g a0)), (1, .int i1), (2, .int i2)] [.int s0] M := by
  unfold f_X10_set_b30 at h
  obtain ⟨⟨r19 | j22, M20⟩, hz21, h⟩ := bd_some h
  rotate_left
  · dsimp only at h; cases h; exact v_callSxT (As := [.int s0]) (rest := []) F (c_X10_demand l hst F.2.2.1  hz21) (cwS 1 F.1.2.2.2.2 (gU_S ml_X10_67 st_yX10_demand ini_X10 cd_X10_demand) rfl rfl rfl (by decide +kernel) ⟨Nat.le_of_ble_eq_true rfl, Nat.le_of_ble_eq_true rfl⟩) rfl rfl (Nat.le_of_ble_eq_true rfl) dX10_set_30 ⟨Nat.le_of_ble_eq_true rfl, Nat.le_of_ble_eq_true rfl⟩ (vx_outV hxt hlk (by decide) (by decide))
  dsimp only at h
  refine v_callSxv (As := [.int s0]) (rest := []) F (c_X10_demand l hst F.2.2.1  hz21) (cwS 1 F.1.2.2.2.2 (gU_S ml_X10_67 st_yX10_demand ini_X10 cd_X10_demand) rfl rfl rfl (by decide +kernel) ⟨Nat.le_of_ble_eq_true rfl, Nat.le_of_ble_eq_true rfl⟩) rfl rfl (Nat.le_of_ble_eq_true rfl) dX10_set_30 ⟨Nat.le_of_ble_eq_true rfl, Nat.le_of_ble_eq_true rfl⟩ ?_
  refine v_aload_n F dX10_set_33 rfl 0 rfl ?_
  refine v_getR (k := 6) (f := 7) F t0 (by decide) (inc inU_10) rfl rfl (by decide) (by decide) (List.mem_cons_of_mem _ fl_X10_38) rfl dX10_set_34 (fun u23 => ?_)
  refine v_getR (k := 0) (f := 1) F u23 (by decide) (inc inU_7) rfl rfl (by decide) (by decide) (List.mem_cons_of_mem _ fl_X10_93) rfl dX10_set_37 (fun u24 => ?_)
  refine v_getR (k := 2) (f := 8) F u24 (by decide) (inc inU_1) rfl rfl (by decide) (by decide) (List.mem_cons_of_mem _ fl_X10_109) rfl dX10_set_40 (fun u25 => ?_)
  refine v_iload_n F dX10_set_43 rfl 1 rfl ?_
  obtain ⟨⟨r26, M27⟩, hz28, h⟩ := bd_some h
  dsimp only at h
  refine v_callVi (As := [.int i1]) (rest := []) F (c_X8_at l F.2.2.1 u25 hz28) (cwV 1 F.1.2.2.2.2 (gU_V ml_X10_112 im_yX8_at se_yX8_at ini_X8 cd_X8_at) rfl rfl rfl (by decide +kernel) ⟨Nat.le_of_ble_eq_true rfl, Nat.le_of_ble_eq_true rfl⟩) u25 (by decide) rfl rfl rfl (Nat.le_of_ble_eq_true rfl) dX10_set_44 ⟨Nat.le_of_ble_eq_true rfl, Nat.le_of_ble_eq_true rfl⟩ ?_
  refine v_istore_n (lv' := [(3, .int r26), (0, .ref (gAd g a0)), (1, .int i1), (2, .int i2)]) F dX10_set_47 rfl (by decide) rfl ?_
  refine v_aload_n F dX10_set_48 rfl 1 rfl ?_
  refine v_getR (k := 6) (f := 7) F t0 (by decide) (inc inU_10) rfl rfl (by decide) (by decide) (List.mem_cons_of_mem _ fl_X10_38) rfl dX10_set_49 (fun u30 => ?_)
  refine v_getR (k := 0) (f := 1) F u30 (by decide) (inc inU_7) rfl rfl (by decide) (by decide) (List.mem_cons_of_mem _ fl_X10_93) rfl dX10_set_52 (fun u31 => ?_)
  refine v_getR (k := 2) (f := 8) F u31 (by decide) (inc inU_1) rfl rfl (by decide) (by decide) (List.mem_cons_of_mem _ fl_X10_109) rfl dX10_set_55 (fun u32 => ?_)
  refine v_iload_n F dX10_set_58 rfl 2 rfl ?_
  refine v_iload_n F dX10_set_59 rfl 3 rfl ?_
  obtain ⟨⟨r33, M34⟩, hz35, h⟩ := bd_some h
  dsimp only at h
  refine v_callVv (As := [.int i1, .int i2]) (rest := []) F (c_X8_put l F.2.2.1 u32 hz35) (cwV 2 F.1.2.2.2.2 (gU_V ml_X10_115 im_yX8_put se_yX8_put ini_X8 cd_X8_put) rfl rfl rfl (by decide +kernel) ⟨Nat.le_of_ble_eq_true rfl, Nat.le_of_ble_eq_true rfl⟩) u32 (by decide) rfl rfl rfl (Nat.le_of_ble_eq_true rfl) dX10_set_60 ⟨Nat.le_of_ble_eq_true rfl, Nat.le_of_ble_eq_true rfl⟩ ?_
  refine v_iload_n F dX10_set_63 rfl 0 rfl ?_
  cases h
  refine v_iretX F hr rfl hlk dX10_set_64 ?_ ?_ <;> decide
set_option maxHeartbeats 4000000 in
set_option maxRecDepth 100000 in
theorem w_X10_set_b29 {g : gT} {p : Program} {l : Launch} {e : Env} {s : State} {m : MethodId} {args : Array Value} {below : List Frame} {meth : Method} {c : Code} {z : (Int32 ⊕ Nat) × Mem} (F : Fx g p s m args c cX10_set 4 uX10_set RX10) (hr : meth.sig.returnType = (some .int)) (hlk : meth.locks = false) (hxt : ∀ x ∈ c.exceptionTable.toList, False) (hst : l.stackTraces = false)  {a0 : Nat} {i1 : Int32} {i2 : Int32} (t0 : Ty g 10 a0)    (M : Mem)  (h : f_X10_set_b29 a0 i1 i2 M = some z) : V g p l e ({ frames := 7, cells := 1, slots := 6, locals := 40 * 7 } : Room) s m args below meth c 4 0 0 (vx_MQ below (gQx g vI z) (gXx g z) args s 1 6 (gA g)) 29 [(0, .ref (gAd g a0)), (1, .int i1), (2, .int i2)] [] M := by
  unfold f_X10_set_b29 at h
  refine v_iconst (v := 0) F dX10_set_29 (by decide) ?_
  exact w_X10_set_b30 F hr hlk hxt hst t0 _ _ h
set_option maxHeartbeats 4000000 in
set_option maxRecDepth 100000 in
theorem c_X10_set {g : gT} (l : Launch) (hst : l.stackTraces = false) (hok : gOK g) {a0 : Nat} {i1 : Int32} {i2 : Int32} {M : Mem} {z : (Int32 ⊕ Nat) × Mem} (t0 : Ty g 10 a0) (h : f_X10_set M a0 i1 i2 = some z) : Cx g l yX10_set uX10_set 7 1 6 [.ref (gAd g a0), .int i1, .int i2] M vI z := by
  refine Cx.of (cc := cX10_set) (maxL := 4) (ret := (some .int)) hok (by decide) rfl (Nat.le_of_ble_eq_true rfl) (fun p e s m args below meth c F hr hlk hxt => ?_)
  unfold f_X10_set at h
  show V g p l e ({ frames := 7, cells := 1, slots := 6, locals := 40 * 7 } : Room) s m args below meth c 4 0 0 (vx_MQ below (gQx g vI z) (gXx g z) args s 1 6 (gA g)) 0 [(0, .ref (gAd g a0)), (1, .int i1), (2, .int i2)] [] M
  refine v_iload_n F dX10_set_0 rfl 1 rfl ?_
  refine v_iconst (v := 0) F dX10_set_1 (by decide) ?_
  refine v_bipush (v := 9) F dX10_set_2 (by decide) ?_
  obtain ⟨⟨r1, M2⟩, hz3, h⟩ := bd_some h
  dsimp only at h
  refine v_callSi (As := [.int i1, .int 0, .int 9]) (rest := []) F (c_X10_within l F.2.2.1  hz3) (cwS 3 F.1.2.2.2.2 (gU_S ml_X10_63 st_yX10_within ini_X10 cd_X10_within) rfl rfl rfl (by decide +kernel) ⟨Nat.le_of_ble_eq_true rfl, Nat.le_of_ble_eq_true rfl⟩) rfl rfl (Nat.le_of_ble_eq_true rfl) dX10_set_4 ⟨Nat.le_of_ble_eq_true rfl, Nat.le_of_ble_eq_true rfl⟩ ?_
  refine v_if_eq (tgt := 29) F dX10_set_7 (by decide) (fun hc5 => ?_) (fun hc5 => ?_)
  · rw [if_pos hc5] at h
    exact w_X10_set_b29 F hr hlk hxt hst t0 _ h
  · rw [if_neg hc5] at h
    refine v_iload_n F dX10_set_10 rfl 2 rfl ?_
    refine v_iload_n F dX10_set_11 rfl 1 rfl ?_
    obtain ⟨⟨r6, M7⟩, hz8, h⟩ := bd_some h
    dsimp only at h
    refine v_callSi (As := [.int i1]) (rest := [.int i2]) F (c_X10_leastOf l F.2.2.1  hz8) (cwS 1 F.1.2.2.2.2 (gU_S ml_X10_102 st_yX10_leastOf ini_X10 cd_X10_leastOf) rfl rfl rfl (by decide +kernel) ⟨Nat.le_of_ble_eq_true rfl, Nat.le_of_ble_eq_true rfl⟩) rfl rfl (Nat.le_of_ble_eq_true rfl) dX10_set_12 ⟨Nat.le_of_ble_eq_true rfl, Nat.le_of_ble_eq_true rfl⟩ ?_
    refine v_iload_n F dX10_set_15 rfl 1 rfl ?_
    obtain ⟨⟨r10, M11⟩, hz12, h⟩ := bd_some h
    dsimp only at h
    refine v_callSi (As := [.int i1]) (rest := [.int r6, .int i2]) F (c_X10_mostOf l F.2.2.1  hz12) (cwS 1 F.1.2.2.2.2 (gU_S ml_X10_106 st_yX10_mostOf ini_X10 cd_X10_mostOf) rfl rfl rfl (by decide +kernel) ⟨Nat.le_of_ble_eq_true rfl, Nat.le_of_ble_eq_true rfl⟩) rfl rfl (Nat.le_of_ble_eq_true rfl) dX10_set_16 ⟨Nat.le_of_ble_eq_true rfl, Nat.le_of_ble_eq_true rfl⟩ ?_
    obtain ⟨⟨r14, M15⟩, hz16, h⟩ := bd_some h
    dsimp only at h
    refine v_callSi (As := [.int i2, .int r6, .int r10]) (rest := []) F (c_X10_within l F.2.2.1  hz16) (cwS 3 F.1.2.2.2.2 (gU_S ml_X10_63 st_yX10_within ini_X10 cd_X10_within) rfl rfl rfl (by decide +kernel) ⟨Nat.le_of_ble_eq_true rfl, Nat.le_of_ble_eq_true rfl⟩) rfl rfl (Nat.le_of_ble_eq_true rfl) dX10_set_19 ⟨Nat.le_of_ble_eq_true rfl, Nat.le_of_ble_eq_true rfl⟩ ?_
    refine v_if_eq (tgt := 29) F dX10_set_22 (by decide) (fun hc18 => ?_) (fun hc18 => ?_)
    · rw [if_pos hc18] at h
      exact w_X10_set_b29 F hr hlk hxt hst t0 _ h
    · rw [if_neg hc18] at h
      refine v_iconst (v := 1) F dX10_set_25 (by decide) ?_
      refine v_goto (tgt := 30) F dX10_set_26 (by decide) ?_
      exact w_X10_set_b30 F hr hlk hxt hst t0 _ _ h
def f_X10_demandPiece  (M : Mem) (a0 : Nat) (i1 : Int32) : Option ((Int32 ⊕ Nat) × Mem) := (f_X10_within M i1 0 ((M (gRf (gRf a0 6) 0) 0) - 1)).bind fun q => match q with | (r3, M4) => (if r3 = 0 then (some (.inr 1, M4)) else (some (.inl 0, M4)))
set_option maxHeartbeats 4000000 in
set_option maxRecDepth 100000 in
theorem c_X10_demandPiece {g : gT} (l : Launch) (hst : l.stackTraces = false) (hok : gOK g) {a0 : Nat} {i1 : Int32} {M : Mem} {z : (Int32 ⊕ Nat) × Mem} (t0 : Ty g 10 a0) (h : f_X10_demandPiece M a0 i1 = some z) : Cx g l yX10_demandPiece uX10_demandPiece 6 1 6 [.ref (gAd g a0), .int i1] M vV z := by
  refine Cx.of (cc := cX10_demandPiece) (maxL := 2) (ret := none) hok (by decide) rfl (Nat.le_of_ble_eq_true rfl) (fun p e s m args below meth c F hr hlk hxt => ?_)
  unfold f_X10_demandPiece at h
  show V g p l e ({ frames := 6, cells := 1, slots := 6, locals := 40 * 6 } : Room) s m args below meth c 2 0 0 (vx_MQ below (gQx g vV z) (gXx g z) args s 1 6 (gA g)) 0 [(0, .ref (gAd g a0)), (1, .int i1)] [] M
  refine v_iload_n F dX10_demandPiece_0 rfl 1 rfl ?_
  refine v_iconst (v := 0) F dX10_demandPiece_1 (by decide) ?_
  refine v_aload_n F dX10_demandPiece_2 rfl 0 rfl ?_
  refine v_getR (k := 6) (f := 7) F t0 (by decide) (inc inU_10) rfl rfl (by decide) (by decide) (List.mem_cons_of_mem _ fl_X10_38) rfl dX10_demandPiece_3 (fun u1 => ?_)
  refine v_getR (k := 0) (f := 1) F u1 (by decide) (inc inU_7) rfl rfl (by decide) (by decide) (List.mem_cons_of_mem _ fl_X10_93) rfl dX10_demandPiece_6 (fun u2 => ?_)
  refine v_getI (k := 0) F u2 (by decide) (inc inU_1) rfl rfl (by decide) (List.mem_cons_of_mem _ fl_X10_96) rfl dX10_demandPiece_9 ?_
  refine v_iconst (v := 1) F dX10_demandPiece_12 (by decide) ?_
  refine v_isub F dX10_demandPiece_13 ?_
  obtain ⟨⟨r3, M4⟩, hz5, h⟩ := bd_some h
  dsimp only at h
  refine v_callSi (As := [.int i1, .int 0, .int ((M (gRf (gRf a0 6) 0) 0) - 1)]) (rest := []) F (c_X10_within l F.2.2.1  hz5) (cwS 3 F.1.2.2.2.2 (gU_S ml_X10_63 st_yX10_within ini_X10 cd_X10_within) rfl rfl rfl (by decide +kernel) ⟨Nat.le_of_ble_eq_true rfl, Nat.le_of_ble_eq_true rfl⟩) rfl rfl (Nat.le_of_ble_eq_true rfl) dX10_demandPiece_14 ⟨Nat.le_of_ble_eq_true rfl, Nat.le_of_ble_eq_true rfl⟩ ?_
  refine v_if_ne (tgt := 31) F dX10_demandPiece_17 (by decide) (fun hc7 => ?_) (fun hc7 => ?_)
  · rw [if_neg hc7] at h
    cases h
    refine v_vretX F hr hlk dX10_demandPiece_31 ?_ ?_ <;> decide
  · rw [if_pos hc7] at h
    cases h
    exact v_throwN (sx := 5) (text := "no such piece") F hxt hlk hst (List.mem_cons_of_mem _ cl_X10_312) (List.mem_cons_of_mem _ ini_E1) (by decide +kernel) (fun w h => List.mem_cons_of_mem _ (at_1 w h)) bad_1 ok_1 dX10_demandPiece_20 dX10_demandPiece_23 dX10_demandPiece_24 dX10_demandPiece_27 dX10_demandPiece_30 (by decide) (by decide) (by decide) (by decide) (by decide) (by decide)
def f_X10_stay  (M : Mem) (a0 : Nat) (i1 : Int32) (i2 : Int32) : Option ((Int32 ⊕ Nat) × Mem) := (f_X10_demandPiece M a0 i1).bind fun q => match q with | (.inr j4, M2) => some (.inr j4, M2) | (.inl r1, M2) => ((f_X8_at M2 (gRf (gRf (gRf a0 6) 0) 7) i1).bind fun q => match q with | (r8, M9) => (if i2 = 0 then ((f_X8_put M9 (gRf (gRf (gRf a0 6) 0) 7) i1 0).bind fun q => match q with | (r24, M25) => (some (.inl r8, M25))) else (if r8 = 0 then ((f_X8_put M9 (gRf (gRf (gRf a0 6) 0) 7) i1 2).bind fun q => match q with | (r17, M18) => (some (.inl r8, M18))) else (some (.inl r8, M9)))))
set_option maxHeartbeats 4000000 in
set_option maxRecDepth 100000 in
theorem c_X10_stay {g : gT} (l : Launch) (hst : l.stackTraces = false) (hok : gOK g) {a0 : Nat} {i1 : Int32} {i2 : Int32} {M : Mem} {z : (Int32 ⊕ Nat) × Mem} (t0 : Ty g 10 a0) (h : f_X10_stay M a0 i1 i2 = some z) : Cx g l yX10_stay uX10_stay 7 1 6 [.ref (gAd g a0), .int i1, .int i2] M vI z := by
  refine Cx.of (cc := cX10_stay) (maxL := 4) (ret := (some .int)) hok (by decide) rfl (Nat.le_of_ble_eq_true rfl) (fun p e s m args below meth c F hr hlk hxt => ?_)
  unfold f_X10_stay at h
  show V g p l e ({ frames := 7, cells := 1, slots := 6, locals := 40 * 7 } : Room) s m args below meth c 4 0 0 (vx_MQ below (gQx g vI z) (gXx g z) args s 1 6 (gA g)) 0 [(0, .ref (gAd g a0)), (1, .int i1), (2, .int i2)] [] M
  refine v_aload_n F dX10_stay_0 rfl 0 rfl ?_
  refine v_iload_n F dX10_stay_1 rfl 1 rfl ?_
  obtain ⟨⟨r1 | j4, M2⟩, hz3, h⟩ := bd_some h
  rotate_left
  · dsimp only at h; cases h; exact v_callVxT (As := [.int i1]) (rest := []) F (c_X10_demandPiece l hst F.2.2.1 t0 hz3) (cwV 1 F.1.2.2.2.2 (gU_V ml_X10_119 im_yX10_demandPiece se_yX10_demandPiece ini_X10 cd_X10_demandPiece) rfl rfl rfl (by decide +kernel) ⟨Nat.le_of_ble_eq_true rfl, Nat.le_of_ble_eq_true rfl⟩) t0 (by decide) rfl rfl rfl (Nat.le_of_ble_eq_true rfl) dX10_stay_2 ⟨Nat.le_of_ble_eq_true rfl, Nat.le_of_ble_eq_true rfl⟩ (vx_outV hxt hlk (by decide) (by decide))
  dsimp only at h
  refine v_callVxv (As := [.int i1]) (rest := []) F (c_X10_demandPiece l hst F.2.2.1 t0 hz3) (cwV 1 F.1.2.2.2.2 (gU_V ml_X10_119 im_yX10_demandPiece se_yX10_demandPiece ini_X10 cd_X10_demandPiece) rfl rfl rfl (by decide +kernel) ⟨Nat.le_of_ble_eq_true rfl, Nat.le_of_ble_eq_true rfl⟩) t0 (by decide) rfl rfl rfl (Nat.le_of_ble_eq_true rfl) dX10_stay_2 ⟨Nat.le_of_ble_eq_true rfl, Nat.le_of_ble_eq_true rfl⟩ ?_
  refine v_aload_n F dX10_stay_5 rfl 0 rfl ?_
  refine v_getR (k := 6) (f := 7) F t0 (by decide) (inc inU_10) rfl rfl (by decide) (by decide) (List.mem_cons_of_mem _ fl_X10_38) rfl dX10_stay_6 (fun u5 => ?_)
  refine v_getR (k := 0) (f := 1) F u5 (by decide) (inc inU_7) rfl rfl (by decide) (by decide) (List.mem_cons_of_mem _ fl_X10_93) rfl dX10_stay_9 (fun u6 => ?_)
  refine v_getR (k := 7) (f := 8) F u6 (by decide) (inc inU_1) rfl rfl (by decide) (by decide) (List.mem_cons_of_mem _ fl_X10_122) rfl dX10_stay_12 (fun u7 => ?_)
  refine v_iload_n F dX10_stay_15 rfl 1 rfl ?_
  obtain ⟨⟨r8, M9⟩, hz10, h⟩ := bd_some h
  dsimp only at h
  refine v_callVi (As := [.int i1]) (rest := []) F (c_X8_at l F.2.2.1 u7 hz10) (cwV 1 F.1.2.2.2.2 (gU_V ml_X10_112 im_yX8_at se_yX8_at ini_X8 cd_X8_at) rfl rfl rfl (by decide +kernel) ⟨Nat.le_of_ble_eq_true rfl, Nat.le_of_ble_eq_true rfl⟩) u7 (by decide) rfl rfl rfl (Nat.le_of_ble_eq_true rfl) dX10_stay_16 ⟨Nat.le_of_ble_eq_true rfl, Nat.le_of_ble_eq_true rfl⟩ ?_
  refine v_istore_n (lv' := [(3, .int r8), (0, .ref (gAd g a0)), (1, .int i1), (2, .int i2)]) F dX10_stay_19 rfl (by decide) rfl ?_
  refine v_iload_n F dX10_stay_20 rfl 3 rfl ?_
  refine v_if_ne (tgt := 42) F dX10_stay_21 (by decide) (fun hc12 => ?_) (fun hc12 => ?_)
  · rw [if_neg hc12] at h
    refine v_iload_n F dX10_stay_42 rfl 0 rfl ?_
    refine v_if_ne (tgt := 61) F dX10_stay_43 (by decide) (fun hc13 => ?_) (fun hc13 => ?_)
    · rw [if_neg hc13] at h
      refine v_iload_n F dX10_stay_61 rfl 0 rfl ?_
      cases h
      refine v_iretX F hr rfl hlk dX10_stay_62 ?_ ?_ <;> decide
    · rw [if_pos hc13] at h
      refine v_aload_n F dX10_stay_46 rfl 1 rfl ?_
      refine v_getR (k := 6) (f := 7) F t0 (by decide) (inc inU_10) rfl rfl (by decide) (by decide) (List.mem_cons_of_mem _ fl_X10_38) rfl dX10_stay_47 (fun u14 => ?_)
      refine v_getR (k := 0) (f := 1) F u14 (by decide) (inc inU_7) rfl rfl (by decide) (by decide) (List.mem_cons_of_mem _ fl_X10_93) rfl dX10_stay_50 (fun u15 => ?_)
      refine v_getR (k := 7) (f := 8) F u15 (by decide) (inc inU_1) rfl rfl (by decide) (by decide) (List.mem_cons_of_mem _ fl_X10_122) rfl dX10_stay_53 (fun u16 => ?_)
      refine v_iload_n F dX10_stay_56 rfl 2 rfl ?_
      refine v_iconst (v := 2) F dX10_stay_57 (by decide) ?_
      obtain ⟨⟨r17, M18⟩, hz19, h⟩ := bd_some h
      dsimp only at h
      refine v_callVv (As := [.int i1, .int 2]) (rest := []) F (c_X8_put l F.2.2.1 u16 hz19) (cwV 2 F.1.2.2.2.2 (gU_V ml_X10_115 im_yX8_put se_yX8_put ini_X8 cd_X8_put) rfl rfl rfl (by decide +kernel) ⟨Nat.le_of_ble_eq_true rfl, Nat.le_of_ble_eq_true rfl⟩) u16 (by decide) rfl rfl rfl (Nat.le_of_ble_eq_true rfl) dX10_stay_58 ⟨Nat.le_of_ble_eq_true rfl, Nat.le_of_ble_eq_true rfl⟩ ?_
      refine v_iload_n F dX10_stay_61 rfl 0 rfl ?_
      cases h
      refine v_iretX F hr rfl hlk dX10_stay_62 ?_ ?_ <;> decide
  · rw [if_pos hc12] at h
    refine v_aload_n F dX10_stay_24 rfl 1 rfl ?_
    refine v_getR (k := 6) (f := 7) F t0 (by decide) (inc inU_10) rfl rfl (by decide) (by decide) (List.mem_cons_of_mem _ fl_X10_38) rfl dX10_stay_25 (fun u21 => ?_)
    refine v_getR (k := 0) (f := 1) F u21 (by decide) (inc inU_7) rfl rfl (by decide) (by decide) (List.mem_cons_of_mem _ fl_X10_93) rfl dX10_stay_28 (fun u22 => ?_)
    refine v_getR (k := 7) (f := 8) F u22 (by decide) (inc inU_1) rfl rfl (by decide) (by decide) (List.mem_cons_of_mem _ fl_X10_122) rfl dX10_stay_31 (fun u23 => ?_)
    refine v_iload_n F dX10_stay_34 rfl 2 rfl ?_
    refine v_iconst (v := 0) F dX10_stay_35 (by decide) ?_
    obtain ⟨⟨r24, M25⟩, hz26, h⟩ := bd_some h
    dsimp only at h
    refine v_callVv (As := [.int i1, .int 0]) (rest := []) F (c_X8_put l F.2.2.1 u23 hz26) (cwV 2 F.1.2.2.2.2 (gU_V ml_X10_115 im_yX8_put se_yX8_put ini_X8 cd_X8_put) rfl rfl rfl (by decide +kernel) ⟨Nat.le_of_ble_eq_true rfl, Nat.le_of_ble_eq_true rfl⟩) u23 (by decide) rfl rfl rfl (Nat.le_of_ble_eq_true rfl) dX10_stay_36 ⟨Nat.le_of_ble_eq_true rfl, Nat.le_of_ble_eq_true rfl⟩ ?_
    refine v_goto (tgt := 61) F dX10_stay_39 (by decide) ?_
    refine v_iload_n F dX10_stay_61 rfl 0 rfl ?_
    cases h
    refine v_iretX F hr rfl hlk dX10_stay_62 ?_ ?_ <;> decide
def f_X10_demandShape_b23 (i0 : Int32) (i1 : Int32)  (s0 : Int32) (M : Mem) : Option ((Int32 ⊕ Nat) × Mem) := (f_X10_demand M s0).bind fun q => match q with | (.inr j14, M12) => some (.inr j14, M12) | (.inl r11, M12) => (some (.inl 0, M12))
def f_X10_demandShape_b22 (i0 : Int32) (i1 : Int32)   (M : Mem) : Option ((Int32 ⊕ Nat) × Mem) := f_X10_demandShape_b23 i0 i1 0 M
def f_X10_demandShape  (M : Mem) (i0 : Int32) (i1 : Int32) : Option ((Int32 ⊕ Nat) × Mem) := (f_X10_within M i0 0 1).bind fun q => match q with | (r1, M2) => (if r1 = 0 then (f_X10_demandShape_b22 i0 i1 M2) else ((f_X10_within M2 i1 1 4).bind fun q => match q with | (r6, M7) => (if r6 = 0 then (f_X10_demandShape_b22 i0 i1 M7) else (f_X10_demandShape_b23 i0 i1 1 M7))))
set_option maxHeartbeats 4000000 in
set_option maxRecDepth 100000 in
theorem w_X10_demandShape_b23 {g : gT} {p : Program} {l : Launch} {e : Env} {s : State} {m : MethodId} {args : Array Value} {below : List Frame} {meth : Method} {c : Code} {z : (Int32 ⊕ Nat) × Mem} (F : Fx g p s m args c cX10_demandShape 2 uX10_demandShape RX10) (hr : meth.sig.returnType = none) (hlk : meth.locks = false) (hxt : ∀ x ∈ c.exceptionTable.toList, False) (hst : l.stackTraces = false)  {i0 : Int32} {i1 : Int32}    (s0 : Int32) (M : Mem)  (h : f_X10_demandShape_b23 i0 i1 s0 M = some z) : V g p l e ({ frames := 7, cells := 1, slots := 6, locals := 40 * 7 } : Room) s m args below meth c 2 0 0 (vx_MQ below (gQx g vV z) (gXx g z) args s 1 6 (gA g)) 23 [(0, .int i0), (1, .int i1)] [.int s0] M := by
  unfold f_X10_demandShape_b23 at h
  obtain ⟨⟨r11 | j14, M12⟩, hz13, h⟩ := bd_some h
  rotate_left
  · dsimp only at h; cases h; exact v_callSxT (As := [.int s0]) (rest := []) F (c_X10_demand l hst F.2.2.1  hz13) (cwS 1 F.1.2.2.2.2 (gU_S ml_X10_67 st_yX10_demand ini_X10 cd_X10_demand) rfl rfl rfl (by decide +kernel) ⟨Nat.le_of_ble_eq_true rfl, Nat.le_of_ble_eq_true rfl⟩) rfl rfl (Nat.le_of_ble_eq_true rfl) dX10_demandShape_23 ⟨Nat.le_of_ble_eq_true rfl, Nat.le_of_ble_eq_true rfl⟩ (vx_outV hxt hlk (by decide) (by decide))
  dsimp only at h
  refine v_callSxv (As := [.int s0]) (rest := []) F (c_X10_demand l hst F.2.2.1  hz13) (cwS 1 F.1.2.2.2.2 (gU_S ml_X10_67 st_yX10_demand ini_X10 cd_X10_demand) rfl rfl rfl (by decide +kernel) ⟨Nat.le_of_ble_eq_true rfl, Nat.le_of_ble_eq_true rfl⟩) rfl rfl (Nat.le_of_ble_eq_true rfl) dX10_demandShape_23 ⟨Nat.le_of_ble_eq_true rfl, Nat.le_of_ble_eq_true rfl⟩ ?_
  cases h
  refine v_vretX F hr hlk dX10_demandShape_26 ?_ ?_ <;> decide
set_option maxHeartbeats 4000000 in
set_option maxRecDepth 100000 in
theorem w_X10_demandShape_b22 {g : gT} {p : Program} {l : Launch} {e : Env} {s : State} {m : MethodId} {args : Array Value} {below : List Frame} {meth : Method} {c : Code} {z : (Int32 ⊕ Nat) × Mem} (F : Fx g p s m args c cX10_demandShape 2 uX10_demandShape RX10) (hr : meth.sig.returnType = none) (hlk : meth.locks = false) (hxt : ∀ x ∈ c.exceptionTable.toList, False) (hst : l.stackTraces = false)  {i0 : Int32} {i1 : Int32}     (M : Mem)  (h : f_X10_demandShape_b22 i0 i1 M = some z) : V g p l e ({ frames := 7, cells := 1, slots := 6, locals := 40 * 7 } : Room) s m args below meth c 2 0 0 (vx_MQ below (gQx g vV z) (gXx g z) args s 1 6 (gA g)) 22 [(0, .int i0), (1, .int i1)] [] M := by
  unfold f_X10_demandShape_b22 at h
  refine v_iconst (v := 0) F dX10_demandShape_22 (by decide) ?_
  exact w_X10_demandShape_b23 F hr hlk hxt hst _ _ h
set_option maxHeartbeats 4000000 in
set_option maxRecDepth 100000 in
theorem c_X10_demandShape {g : gT} (l : Launch) (hst : l.stackTraces = false) (hok : gOK g) {i0 : Int32} {i1 : Int32} {M : Mem} {z : (Int32 ⊕ Nat) × Mem}  (h : f_X10_demandShape M i0 i1 = some z) : Cx g l yX10_demandShape uX10_demandShape 7 1 6 [.int i0, .int i1] M vV z := by
  refine Cx.of (cc := cX10_demandShape) (maxL := 2) (ret := none) hok (by decide) rfl (Nat.le_of_ble_eq_true rfl) (fun p e s m args below meth c F hr hlk hxt => ?_)
  unfold f_X10_demandShape at h
  show V g p l e ({ frames := 7, cells := 1, slots := 6, locals := 40 * 7 } : Room) s m args below meth c 2 0 0 (vx_MQ below (gQx g vV z) (gXx g z) args s 1 6 (gA g)) 0 [(0, .int i0), (1, .int i1)] [] M
  refine v_iload_n F dX10_demandShape_0 rfl 0 rfl ?_
  refine v_iconst (v := 0) F dX10_demandShape_1 (by decide) ?_
  refine v_iconst (v := 1) F dX10_demandShape_2 (by decide) ?_
  obtain ⟨⟨r1, M2⟩, hz3, h⟩ := bd_some h
  dsimp only at h
  refine v_callSi (As := [.int i0, .int 0, .int 1]) (rest := []) F (c_X10_within l F.2.2.1  hz3) (cwS 3 F.1.2.2.2.2 (gU_S ml_X10_63 st_yX10_within ini_X10 cd_X10_within) rfl rfl rfl (by decide +kernel) ⟨Nat.le_of_ble_eq_true rfl, Nat.le_of_ble_eq_true rfl⟩) rfl rfl (Nat.le_of_ble_eq_true rfl) dX10_demandShape_3 ⟨Nat.le_of_ble_eq_true rfl, Nat.le_of_ble_eq_true rfl⟩ ?_
  refine v_if_eq (tgt := 22) F dX10_demandShape_6 (by decide) (fun hc5 => ?_) (fun hc5 => ?_)
  · rw [if_pos hc5] at h
    exact w_X10_demandShape_b22 F hr hlk hxt hst _ h
  · rw [if_neg hc5] at h
    refine v_iload_n F dX10_demandShape_9 rfl 1 rfl ?_
    refine v_iconst (v := 1) F dX10_demandShape_10 (by decide) ?_
    refine v_iconst (v := 4) F dX10_demandShape_11 (by decide) ?_
    obtain ⟨⟨r6, M7⟩, hz8, h⟩ := bd_some h
    dsimp only at h
    refine v_callSi (As := [.int i1, .int 1, .int 4]) (rest := []) F (c_X10_within l F.2.2.1  hz8) (cwS 3 F.1.2.2.2.2 (gU_S ml_X10_63 st_yX10_within ini_X10 cd_X10_within) rfl rfl rfl (by decide +kernel) ⟨Nat.le_of_ble_eq_true rfl, Nat.le_of_ble_eq_true rfl⟩) rfl rfl (Nat.le_of_ble_eq_true rfl) dX10_demandShape_12 ⟨Nat.le_of_ble_eq_true rfl, Nat.le_of_ble_eq_true rfl⟩ ?_
    refine v_if_eq (tgt := 22) F dX10_demandShape_15 (by decide) (fun hc10 => ?_) (fun hc10 => ?_)
    · rw [if_pos hc10] at h
      exact w_X10_demandShape_b22 F hr hlk hxt hst _ h
    · rw [if_neg hc10] at h
      refine v_iconst (v := 1) F dX10_demandShape_18 (by decide) ?_
      refine v_goto (tgt := 23) F dX10_demandShape_19 (by decide) ?_
      exact w_X10_demandShape_b23 F hr hlk hxt hst _ _ h
def f_X10_shape  (M : Mem) (a0 : Nat) (i1 : Int32) (i2 : Int32) (i3 : Int32) : Option ((Int32 ⊕ Nat) × Mem) := (f_X10_demandShape M i1 i2).bind fun q => match q with | (.inr j4, M2) => some (.inr j4, M2) | (.inl r1, M2) => ((f_X10_within M2 i3 1 9999).bind fun q => match q with | (r5, M6) => ((f_X10_demand M6 r5).bind fun q => match q with | (.inr j12, M10) => some (.inr j12, M10) | (.inl r9, M10) => ((f_X1_takeShape M10 (gRf (gRf a0 6) 0) i1 i2 i3).bind fun q => match q with | (r15, M16) => ((f_X1_size M16 (gRf (gRf a0 6) 0) i1).bind fun q => match q with | (r21, M22) => (some (.inl r21, M22))))))
set_option maxHeartbeats 4000000 in
set_option maxRecDepth 100000 in
theorem c_X10_shape {g : gT} (l : Launch) (hst : l.stackTraces = false) (hok : gOK g) {a0 : Nat} {i1 : Int32} {i2 : Int32} {i3 : Int32} {M : Mem} {z : (Int32 ⊕ Nat) × Mem} (t0 : Ty g 10 a0) (h : f_X10_shape M a0 i1 i2 i3 = some z) : Cx g l yX10_shape uX10_shape 8 2 12 [.ref (gAd g a0), .int i1, .int i2, .int i3] M vI z := by
  refine Cx.of (cc := cX10_shape) (maxL := 4) (ret := (some .int)) hok (by decide) rfl (Nat.le_of_ble_eq_true rfl) (fun p e s m args below meth c F hr hlk hxt => ?_)
  unfold f_X10_shape at h
  show V g p l e ({ frames := 8, cells := 2, slots := 12, locals := 40 * 8 } : Room) s m args below meth c 4 0 0 (vx_MQ below (gQx g vI z) (gXx g z) args s 2 12 (gA g)) 0 [(0, .ref (gAd g a0)), (1, .int i1), (2, .int i2), (3, .int i3)] [] M
  refine v_iload_n F dX10_shape_0 rfl 1 rfl ?_
  refine v_iload_n F dX10_shape_1 rfl 2 rfl ?_
  obtain ⟨⟨r1 | j4, M2⟩, hz3, h⟩ := bd_some h
  rotate_left
  · dsimp only at h; cases h; exact v_callSxT (As := [.int i1, .int i2]) (rest := []) F (c_X10_demandShape l hst F.2.2.1  hz3) (cwS 2 F.1.2.2.2.2 (gU_S ml_X10_125 st_yX10_demandShape ini_X10 cd_X10_demandShape) rfl rfl rfl (by decide +kernel) ⟨Nat.le_of_ble_eq_true rfl, Nat.le_of_ble_eq_true rfl⟩) rfl rfl (Nat.le_of_ble_eq_true rfl) dX10_shape_2 ⟨Nat.le_of_ble_eq_true rfl, Nat.le_of_ble_eq_true rfl⟩ (vx_outV hxt hlk (by decide) (by decide))
  dsimp only at h
  refine v_callSxv (As := [.int i1, .int i2]) (rest := []) F (c_X10_demandShape l hst F.2.2.1  hz3) (cwS 2 F.1.2.2.2.2 (gU_S ml_X10_125 st_yX10_demandShape ini_X10 cd_X10_demandShape) rfl rfl rfl (by decide +kernel) ⟨Nat.le_of_ble_eq_true rfl, Nat.le_of_ble_eq_true rfl⟩) rfl rfl (Nat.le_of_ble_eq_true rfl) dX10_shape_2 ⟨Nat.le_of_ble_eq_true rfl, Nat.le_of_ble_eq_true rfl⟩ ?_
  refine v_iload_n F dX10_shape_5 rfl 3 rfl ?_
  refine v_iconst (v := 1) F dX10_shape_6 (by decide) ?_
  refine v_sipush (v := 9999) F dX10_shape_7 (by decide) ?_
  obtain ⟨⟨r5, M6⟩, hz7, h⟩ := bd_some h
  dsimp only at h
  refine v_callSi (As := [.int i3, .int 1, .int 9999]) (rest := []) F (c_X10_within l F.2.2.1  hz7) (cwS 3 F.1.2.2.2.2 (gU_S ml_X10_63 st_yX10_within ini_X10 cd_X10_within) rfl rfl rfl (by decide +kernel) ⟨Nat.le_of_ble_eq_true rfl, Nat.le_of_ble_eq_true rfl⟩) rfl rfl (Nat.le_of_ble_eq_true rfl) dX10_shape_10 ⟨Nat.le_of_ble_eq_true rfl, Nat.le_of_ble_eq_true rfl⟩ ?_
  obtain ⟨⟨r9 | j12, M10⟩, hz11, h⟩ := bd_some h
  rotate_left
  · dsimp only at h; cases h; exact v_callSxT (As := [.int r5]) (rest := []) F (c_X10_demand l hst F.2.2.1  hz11) (cwS 1 F.1.2.2.2.2 (gU_S ml_X10_67 st_yX10_demand ini_X10 cd_X10_demand) rfl rfl rfl (by decide +kernel) ⟨Nat.le_of_ble_eq_true rfl, Nat.le_of_ble_eq_true rfl⟩) rfl rfl (Nat.le_of_ble_eq_true rfl) dX10_shape_13 ⟨Nat.le_of_ble_eq_true rfl, Nat.le_of_ble_eq_true rfl⟩ (vx_outV hxt hlk (by decide) (by decide))
  dsimp only at h
  refine v_callSxv (As := [.int r5]) (rest := []) F (c_X10_demand l hst F.2.2.1  hz11) (cwS 1 F.1.2.2.2.2 (gU_S ml_X10_67 st_yX10_demand ini_X10 cd_X10_demand) rfl rfl rfl (by decide +kernel) ⟨Nat.le_of_ble_eq_true rfl, Nat.le_of_ble_eq_true rfl⟩) rfl rfl (Nat.le_of_ble_eq_true rfl) dX10_shape_13 ⟨Nat.le_of_ble_eq_true rfl, Nat.le_of_ble_eq_true rfl⟩ ?_
  refine v_aload_n F dX10_shape_16 rfl 0 rfl ?_
  refine v_getR (k := 6) (f := 7) F t0 (by decide) (inc inU_10) rfl rfl (by decide) (by decide) (List.mem_cons_of_mem _ fl_X10_38) rfl dX10_shape_17 (fun u13 => ?_)
  refine v_getR (k := 0) (f := 1) F u13 (by decide) (inc inU_7) rfl rfl (by decide) (by decide) (List.mem_cons_of_mem _ fl_X10_93) rfl dX10_shape_20 (fun u14 => ?_)
  refine v_iload_n F dX10_shape_23 rfl 1 rfl ?_
  refine v_iload_n F dX10_shape_24 rfl 2 rfl ?_
  refine v_iload_n F dX10_shape_25 rfl 3 rfl ?_
  obtain ⟨⟨r15, M16⟩, hz17, h⟩ := bd_some h
  dsimp only at h
  refine v_callVv (As := [.int i1, .int i2, .int i3]) (rest := []) F (c_X1_takeShape l F.2.2.1 u14 hz17) (cwV 3 F.1.2.2.2.2 (gU_V ml_X10_128 im_yX1_takeShape se_yX1_takeShape ini_X1 cd_X1_takeShape) rfl rfl rfl (by decide +kernel) ⟨Nat.le_of_ble_eq_true rfl, Nat.le_of_ble_eq_true rfl⟩) u14 (by decide) rfl rfl rfl (Nat.le_of_ble_eq_true rfl) dX10_shape_26 ⟨Nat.le_of_ble_eq_true rfl, Nat.le_of_ble_eq_true rfl⟩ ?_
  refine v_aload_n F dX10_shape_29 rfl 0 rfl ?_
  refine v_getR (k := 6) (f := 7) F t0 (by decide) (inc inU_10) rfl rfl (by decide) (by decide) (List.mem_cons_of_mem _ fl_X10_38) rfl dX10_shape_30 (fun u19 => ?_)
  refine v_getR (k := 0) (f := 1) F u19 (by decide) (inc inU_7) rfl rfl (by decide) (by decide) (List.mem_cons_of_mem _ fl_X10_93) rfl dX10_shape_33 (fun u20 => ?_)
  refine v_iload_n F dX10_shape_36 rfl 1 rfl ?_
  obtain ⟨⟨r21, M22⟩, hz23, h⟩ := bd_some h
  dsimp only at h
  refine v_callVi (As := [.int i1]) (rest := []) F (c_X1_size l F.2.2.1 u20 hz23) (cwV 1 F.1.2.2.2.2 (gU_V ml_X10_132 im_yX1_size se_yX1_size ini_X1 cd_X1_size) rfl rfl rfl (by decide +kernel) ⟨Nat.le_of_ble_eq_true rfl, Nat.le_of_ble_eq_true rfl⟩) u20 (by decide) rfl rfl rfl (Nat.le_of_ble_eq_true rfl) dX10_shape_37 ⟨Nat.le_of_ble_eq_true rfl, Nat.le_of_ble_eq_true rfl⟩ ?_
  cases h
  refine v_iretX F hr rfl hlk dX10_shape_40 ?_ ?_ <;> decide
def f_X10_demandWind  (M : Mem) (i0 : Int32) : Option ((Int32 ⊕ Nat) × Mem) := (f_X10_within M i0 0 99).bind fun q => match q with | (r1, M2) => ((f_X10_demand M2 r1).bind fun q => match q with | (.inr j8, M6) => some (.inr j8, M6) | (.inl r5, M6) => (some (.inl 0, M6)))
set_option maxHeartbeats 4000000 in
set_option maxRecDepth 100000 in
theorem c_X10_demandWind {g : gT} (l : Launch) (hst : l.stackTraces = false) (hok : gOK g) {i0 : Int32} {M : Mem} {z : (Int32 ⊕ Nat) × Mem}  (h : f_X10_demandWind M i0 = some z) : Cx g l yX10_demandWind uX10_demandWind 7 1 6 [.int i0] M vV z := by
  refine Cx.of (cc := cX10_demandWind) (maxL := 1) (ret := none) hok (by decide) rfl (Nat.le_of_ble_eq_true rfl) (fun p e s m args below meth c F hr hlk hxt => ?_)
  unfold f_X10_demandWind at h
  show V g p l e ({ frames := 7, cells := 1, slots := 6, locals := 40 * 7 } : Room) s m args below meth c 1 0 0 (vx_MQ below (gQx g vV z) (gXx g z) args s 1 6 (gA g)) 0 [(0, .int i0)] [] M
  refine v_iload_n F dX10_demandWind_0 rfl 0 rfl ?_
  refine v_iconst (v := 0) F dX10_demandWind_1 (by decide) ?_
  refine v_bipush (v := 99) F dX10_demandWind_2 (by decide) ?_
  obtain ⟨⟨r1, M2⟩, hz3, h⟩ := bd_some h
  dsimp only at h
  refine v_callSi (As := [.int i0, .int 0, .int 99]) (rest := []) F (c_X10_within l F.2.2.1  hz3) (cwS 3 F.1.2.2.2.2 (gU_S ml_X10_63 st_yX10_within ini_X10 cd_X10_within) rfl rfl rfl (by decide +kernel) ⟨Nat.le_of_ble_eq_true rfl, Nat.le_of_ble_eq_true rfl⟩) rfl rfl (Nat.le_of_ble_eq_true rfl) dX10_demandWind_4 ⟨Nat.le_of_ble_eq_true rfl, Nat.le_of_ble_eq_true rfl⟩ ?_
  obtain ⟨⟨r5 | j8, M6⟩, hz7, h⟩ := bd_some h
  rotate_left
  · dsimp only at h; cases h; exact v_callSxT (As := [.int r1]) (rest := []) F (c_X10_demand l hst F.2.2.1  hz7) (cwS 1 F.1.2.2.2.2 (gU_S ml_X10_67 st_yX10_demand ini_X10 cd_X10_demand) rfl rfl rfl (by decide +kernel) ⟨Nat.le_of_ble_eq_true rfl, Nat.le_of_ble_eq_true rfl⟩) rfl rfl (Nat.le_of_ble_eq_true rfl) dX10_demandWind_7 ⟨Nat.le_of_ble_eq_true rfl, Nat.le_of_ble_eq_true rfl⟩ (vx_outV hxt hlk (by decide) (by decide))
  dsimp only at h
  refine v_callSxv (As := [.int r1]) (rest := []) F (c_X10_demand l hst F.2.2.1  hz7) (cwS 1 F.1.2.2.2.2 (gU_S ml_X10_67 st_yX10_demand ini_X10 cd_X10_demand) rfl rfl rfl (by decide +kernel) ⟨Nat.le_of_ble_eq_true rfl, Nat.le_of_ble_eq_true rfl⟩) rfl rfl (Nat.le_of_ble_eq_true rfl) dX10_demandWind_7 ⟨Nat.le_of_ble_eq_true rfl, Nat.le_of_ble_eq_true rfl⟩ ?_
  cases h
  refine v_vretX F hr hlk dX10_demandWind_10 ?_ ?_ <;> decide
def f_X10_lawNumbered_b30 (a0 : Nat) (i1 : Int32)   (M : Mem) : Option ((Nat ⊕ Nat) × Mem) := some (.inr 2, M)
def f_X10_lawNumbered  (M : Mem) (a0 : Nat) (i1 : Int32) : Option ((Nat ⊕ Nat) × Mem) := if i1 < 0 then (f_X10_lawNumbered_b30 a0 i1 M) else (if (M a0 4) ≤ i1 then (f_X10_lawNumbered_b30 a0 i1 M) else (if (nI (gN (gRf a0 3))) ≤ i1 then (f_X10_lawNumbered_b30 a0 i1 M) else (if ¬ (i1 < 0 ∨ gN (gRf a0 3) ≤ i1.toNatClampNeg) then (some (.inl (gRf (gRf a0 3) i1.toNatClampNeg), M)) else none)))
set_option maxHeartbeats 4000000 in
set_option maxRecDepth 100000 in
theorem w_X10_lawNumbered_b30 {g : gT} {p : Program} {l : Launch} {e : Env} {s : State} {m : MethodId} {args : Array Value} {below : List Frame} {meth : Method} {c : Code} {z : (Nat ⊕ Nat) × Mem} (F : Fx g p s m args c cX10_lawNumbered 3 uX10_lawNumbered RX10) (hr : meth.sig.returnType = (some (.object "GallopRoads$Law"))) (hlk : meth.locks = false) (hxt : ∀ x ∈ c.exceptionTable.toList, False) (hst : l.stackTraces = false)  {a0 : Nat} {i1 : Int32} (t0 : Ty g 10 a0)    (M : Mem)  (h : f_X10_lawNumbered_b30 a0 i1 M = some z) : V g p l e ({ frames := 6, cells := 1, slots := 6, locals := 40 * 6 } : Room) s m args below meth c 3 0 0 (vx_MQ below (gQx g (vR g) z) (gXx g z) args s 1 6 (gA g)) 30 [(0, .ref (gAd g a0)), (1, .int i1)] [] M := by
  unfold f_X10_lawNumbered_b30 at h
  refine v_null F dX10_lawNumbered_30 ?_
  refine v_astore_nN (lv' := [(2, .null), (0, .ref (gAd g a0)), (1, .int i1)]) F dX10_lawNumbered_31 rfl (by decide) rfl ?_
  refine v_aload_nN F dX10_lawNumbered_32 rfl 0 rfl ?_
  refine v_ifnonnullN F dX10_lawNumbered_33 ?_
  cases h
  exact v_throwW (j := 2) (sx := 7) (text := "no such law") F hxt hlk hst rfl (by decide +kernel) (List.mem_cons_of_mem _ cl_X10_319) (List.mem_cons_of_mem _ ini_E2) (by decide +kernel) (fun w h => List.mem_cons_of_mem _ (at_2 w h)) bad_2 ok_2 dX10_lawNumbered_36 dX10_lawNumbered_39 dX10_lawNumbered_40 dX10_lawNumbered_43 dX10_lawNumbered_46 (by decide) (by decide) (by decide) (by decide) (by decide) (by decide)
set_option maxHeartbeats 4000000 in
set_option maxRecDepth 100000 in
theorem c_X10_lawNumbered {g : gT} (l : Launch) (hst : l.stackTraces = false) (hok : gOK g) {a0 : Nat} {i1 : Int32} {M : Mem} {z : (Nat ⊕ Nat) × Mem} (t0 : Ty g 10 a0) (h : f_X10_lawNumbered M a0 i1 = some z) : Cx g l yX10_lawNumbered uX10_lawNumbered 6 1 6 [.ref (gAd g a0), .int i1] M (vR g) z := by
  refine Cx.of (cc := cX10_lawNumbered) (maxL := 3) (ret := (some (.object "GallopRoads$Law"))) hok (by decide) rfl (Nat.le_of_ble_eq_true rfl) (fun p e s m args below meth c F hr hlk hxt => ?_)
  unfold f_X10_lawNumbered at h
  show V g p l e ({ frames := 6, cells := 1, slots := 6, locals := 40 * 6 } : Room) s m args below meth c 3 0 0 (vx_MQ below (gQx g (vR g) z) (gXx g z) args s 1 6 (gA g)) 0 [(0, .ref (gAd g a0)), (1, .int i1)] [] M
  refine v_iload_n F dX10_lawNumbered_0 rfl 1 rfl ?_
  refine v_if_lt (tgt := 30) F dX10_lawNumbered_1 (by decide) (fun hc1 => ?_) (fun hc1 => ?_)
  · rw [if_pos hc1] at h
    exact w_X10_lawNumbered_b30 F hr hlk hxt hst t0 _ h
  · rw [if_neg hc1] at h
    refine v_iload_n F dX10_lawNumbered_4 rfl 1 rfl ?_
    refine v_aload_n F dX10_lawNumbered_5 rfl 0 rfl ?_
    refine v_getI (k := 4) F t0 (by decide) (inc inU_10) rfl rfl (by decide) (List.mem_cons_of_mem _ fl_X10_71) rfl dX10_lawNumbered_6 ?_
    refine v_icmp_ge (tgt := 30) F dX10_lawNumbered_9 (by decide) (fun hc2 => ?_) (fun hc2 => ?_)
    · rw [if_pos hc2] at h
      exact w_X10_lawNumbered_b30 F hr hlk hxt hst t0 _ h
    · rw [if_neg hc2] at h
      refine v_iload_n F dX10_lawNumbered_12 rfl 1 rfl ?_
      refine v_aload_n F dX10_lawNumbered_13 rfl 0 rfl ?_
      refine v_getR (k := 3) (f := 14) F t0 (by decide) (inc inU_10) rfl rfl (by decide) (by decide) (List.mem_cons_of_mem _ fl_X10_27) rfl dX10_lawNumbered_14 (fun u3 => ?_)
      refine v_alen (t0 := 2) F u3 (by decide) rfl dX10_lawNumbered_17 ?_
      refine v_icmp_ge (tgt := 30) F dX10_lawNumbered_18 (by decide) (fun hc4 => ?_) (fun hc4 => ?_)
      · rw [if_pos hc4] at h
        exact w_X10_lawNumbered_b30 F hr hlk hxt hst t0 _ h
      · rw [if_neg hc4] at h
        refine v_aload_n F dX10_lawNumbered_21 rfl 0 rfl ?_
        refine v_getR (k := 3) (f := 14) F t0 (by decide) (inc inU_10) rfl rfl (by decide) (by decide) (List.mem_cons_of_mem _ fl_X10_27) rfl dX10_lawNumbered_22 (fun u5 => ?_)
        refine v_iload_n F dX10_lawNumbered_25 rfl 1 rfl ?_
        obtain ⟨hin6, h⟩ := gd_some h
        refine v_aald (ke := 3) (t0 := 2) F u5 (by decide) rfl rfl hin6 dX10_lawNumbered_26 (fun u7 => ?_)
        refine v_goto (tgt := 31) F dX10_lawNumbered_27 (by decide) ?_
        refine v_astore_n (lv' := [(2, .ref (gAd g (gRf (gRf a0 3) i1.toNatClampNeg))), (0, .ref (gAd g a0)), (1, .int i1)]) F dX10_lawNumbered_31 rfl (by decide) rfl ?_
        refine v_aload_n F dX10_lawNumbered_32 rfl 0 rfl ?_
        refine v_ifnonnull (tgt := 47) F dX10_lawNumbered_33 (by decide) ?_
        refine v_aload_n F dX10_lawNumbered_47 rfl 0 rfl ?_
        cases h
        refine v_aretX F hr hlk dX10_lawNumbered_48 ?_ ?_ <;> decide
theorem ty_X10_lawNumbered {g : gT} {M : Mem} {a0 : Nat} {i1 : Int32} {r : Nat} {M1 : Mem} (hok : gOK g) (t0 : Ty g 10 a0) (h : f_X10_lawNumbered M a0 i1 = some (.inl r, M1)) : Ty g 3 r := by
  have hb : ¬ f_X10_lawNumbered_b30 a0 i1 M = some (.inl r, M1) := by
    unfold f_X10_lawNumbered_b30
    intro h
    cases h
  unfold f_X10_lawNumbered at h
  by_cases c1 : i1 < 0
  · rw [if_pos c1] at h; exact (hb h).elim
  rw [if_neg c1] at h
  by_cases c2 : M a0 4 ≤ i1
  · rw [if_pos c2] at h; exact (hb h).elim
  rw [if_neg c2] at h
  by_cases c3 : nI (gN (gRf a0 3)) ≤ i1
  · rw [if_pos c3] at h; exact (hb h).elim
  rw [if_neg c3] at h
  obtain ⟨hin, h⟩ := gd_some h
  cases h
  exact (ty_row hok (ty_get hok t0 (by decide) rfl (by decide)).1 (Nat.not_le.mp fun q => hin (Or.inr q)) (Or.inl ⟨rfl, rfl⟩)).1

def f_X10_go_h24 (a0 : Nat) (i1 : Int32) (i2 : Int32) (i3 : Int32)  : Nat → Nat → Int32 → Mem → Option ((Int32 ⊕ Nat) × Mem)
  | 0, _, _, _ => none
  | n + 1, y4, x5, M => if i3 ≤ x5 then ((f_X1_size M (gRf (gRf a0 6) 0) 1).bind fun q => match q with | (r21, M22) => (some (.inl r21, M22))) else ((f_X1_tick M (gRf (gRf a0 6) 0) y4 i2 100).bind fun q => match q with | (r27, M28) => ((f_X10_go_h24 a0 i1 i2 i3 n) y4 (x5 + 1) M28))
def f_X10_go  (M : Mem) (a0 : Nat) (i1 : Int32) (i2 : Int32) (i3 : Int32) : Option ((Int32 ⊕ Nat) × Mem) := (f_X10_lawNumbered M a0 i1).bind fun q => match q with | (.inr j4, M2) => some (.inr j4, M2) | (.inl r1, M2) => ((f_X10_demandWind M2 i2).bind fun q => match q with | (.inr j9, M7) => some (.inr j9, M7) | (.inl r6, M7) => ((f_X10_within M7 i3 0 100).bind fun q => match q with | (r10, M11) => ((f_X10_demand M11 r10).bind fun q => match q with | (.inr j17, M15) => some (.inr j17, M15) | (.inl r14, M15) => (f_X10_go_h24 a0 i1 i2 i3 FU r1 0 M15))))
set_option maxHeartbeats 4000000 in
set_option maxRecDepth 100000 in
theorem w_X10_go_h24 {g : gT} {p : Program} {l : Launch} {e : Env} {s : State} {m : MethodId} {args : Array Value} {below : List Frame} {meth : Method} {c : Code} {z : (Int32 ⊕ Nat) × Mem} (F : Fx g p s m args c cX10_go 6 uX10_go RX10) (hr : meth.sig.returnType = (some .int)) (hlk : meth.locks = false) (hxt : ∀ x ∈ c.exceptionTable.toList, False) (hst : l.stackTraces = false)  {a0 : Nat} {i1 : Int32} {i2 : Int32} {i3 : Int32} (t0 : Ty g 10 a0)   : ∀ (n : Nat) (y4 : Nat) (x5 : Int32) (M : Mem), Ty g 3 y4 → f_X10_go_h24 a0 i1 i2 i3 n y4 x5 M = some z → V g p l e ({ frames := 8, cells := 3, slots := 18, locals := 40 * 8 } : Room) s m args below meth c 6 3 18 (vx_MQ below (gQx g vI z) (gXx g z) args s 3 18 (gA g)) 24 [(0, .ref (gAd g a0)), (1, .int i1), (2, .int i2), (3, .int i3), (4, .ref (gAd g y4)), (5, .int x5)] [] M := by
  intro n
  induction n with
  | zero => intro y4 x5 M; intros; rename_i h; cases h
  | succ n ih =>
    intro y4 x5 M ty4 h
    rw [f_X10_go_h24] at h
    refine v_iload F dX10_go_24 5 rfl ?_
    refine v_iload_n F dX10_go_26 rfl 3 rfl ?_
    refine v_icmp_ge (tgt := 51) F dX10_go_27 (by decide) (fun hc18 => ?_) (fun hc18 => ?_)
    · rw [if_pos hc18] at h
      refine v_aload_n F dX10_go_51 rfl 0 rfl ?_
      refine v_getR (k := 6) (f := 7) F t0 (by decide) (inc inU_10) rfl rfl (by decide) (by decide) (List.mem_cons_of_mem _ fl_X10_38) rfl dX10_go_52 (fun u19 => ?_)
      refine v_getR (k := 0) (f := 1) F u19 (by decide) (inc inU_7) rfl rfl (by decide) (by decide) (List.mem_cons_of_mem _ fl_X10_93) rfl dX10_go_55 (fun u20 => ?_)
      refine v_iconst (v := 1) F dX10_go_58 (by decide) ?_
      obtain ⟨⟨r21, M22⟩, hz23, h⟩ := bd_some h
      dsimp only at h
      refine v_callVi (As := [.int 1]) (rest := []) F (c_X1_size l F.2.2.1 u20 hz23) (cwV 1 F.1.2.2.2.2 (gU_V ml_X10_132 im_yX1_size se_yX1_size ini_X1 cd_X1_size) rfl rfl rfl (by decide +kernel) ⟨Nat.le_of_ble_eq_true rfl, Nat.le_of_ble_eq_true rfl⟩) u20 (by decide) rfl rfl rfl (Nat.le_of_ble_eq_true rfl) dX10_go_59 ⟨Nat.le_of_ble_eq_true rfl, Nat.le_of_ble_eq_true rfl⟩ ?_
      cases h
      refine v_iretX F hr rfl hlk dX10_go_62 ?_ ?_ <;> decide
    · rw [if_neg hc18] at h
      refine v_aload_n F dX10_go_30 rfl 0 rfl ?_
      refine v_getR (k := 6) (f := 7) F t0 (by decide) (inc inU_10) rfl rfl (by decide) (by decide) (List.mem_cons_of_mem _ fl_X10_38) rfl dX10_go_31 (fun u25 => ?_)
      refine v_getR (k := 0) (f := 1) F u25 (by decide) (inc inU_7) rfl rfl (by decide) (by decide) (List.mem_cons_of_mem _ fl_X10_93) rfl dX10_go_34 (fun u26 => ?_)
      refine v_aload F dX10_go_37 4 rfl ?_
      refine v_iload_n F dX10_go_39 rfl 2 rfl ?_
      refine v_bipush (v := 100) F dX10_go_40 (by decide) ?_
      obtain ⟨⟨r27, M28⟩, hz29, h⟩ := bd_some h
      dsimp only at h
      refine v_callVv (As := [.ref (gAd g y4), .int i2, .int 100]) (rest := []) F (c_X1_tick l F.2.2.1 u26 ty4 hz29) (cwV 3 F.1.2.2.2.2 (gU_V ml_X10_142 im_yX1_tick se_yX1_tick ini_X1 cd_X1_tick) rfl rfl rfl (by decide +kernel) ⟨Nat.le_of_ble_eq_true rfl, Nat.le_of_ble_eq_true rfl⟩) u26 (by decide) rfl rfl rfl (Nat.le_of_ble_eq_true rfl) dX10_go_42 ⟨Nat.le_of_ble_eq_true rfl, Nat.le_of_ble_eq_true rfl⟩ ?_
      refine v_iinc (v := x5 + 1) (lv' := [(5, .int (x5 + 1)), (0, .ref (gAd g a0)), (1, .int i1), (2, .int i2), (3, .int i3), (4, .ref (gAd g y4))]) F dX10_go_45 (q := 5) rfl rfl (by decide) rfl ?_
      refine v_goto (tgt := 24) F dX10_go_48 (by decide) ?_
      refine v_sub (fun ls h9 => lv_sub h9 [1, 2, 3, 4, 5, 0] rfl) ?_
      exact ih _ _ _ ty4 h
set_option maxHeartbeats 4000000 in
set_option maxRecDepth 100000 in
theorem c_X10_go {g : gT} (l : Launch) (hst : l.stackTraces = false) (hok : gOK g) {a0 : Nat} {i1 : Int32} {i2 : Int32} {i3 : Int32} {M : Mem} {z : (Int32 ⊕ Nat) × Mem} (t0 : Ty g 10 a0) (h : f_X10_go M a0 i1 i2 i3 = some z) : Cx g l yX10_go uX10_go 8 3 18 [.ref (gAd g a0), .int i1, .int i2, .int i3] M vI z := by
  refine Cx.of (cc := cX10_go) (maxL := 6) (ret := (some .int)) hok (by decide) rfl (Nat.le_of_ble_eq_true rfl) (fun p e s m args below meth c F hr hlk hxt => ?_)
  unfold f_X10_go at h
  show V g p l e ({ frames := 8, cells := 3, slots := 18, locals := 40 * 8 } : Room) s m args below meth c 6 0 0 (vx_MQ below (gQx g vI z) (gXx g z) args s 3 18 (gA g)) 0 [(0, .ref (gAd g a0)), (1, .int i1), (2, .int i2), (3, .int i3)] [] M
  refine v_aload_n F dX10_go_0 rfl 0 rfl ?_
  refine v_iload_n F dX10_go_1 rfl 1 rfl ?_
  obtain ⟨⟨r1 | j4, M2⟩, hz3, h⟩ := bd_some h
  rotate_left
  · dsimp only at h; cases h; exact v_callVxT (As := [.int i1]) (rest := []) F (c_X10_lawNumbered l hst F.2.2.1 t0 hz3) (cwV 1 F.1.2.2.2.2 (gU_V ml_X10_135 im_yX10_lawNumbered se_yX10_lawNumbered ini_X10 cd_X10_lawNumbered) rfl rfl rfl (by decide +kernel) ⟨Nat.le_of_ble_eq_true rfl, Nat.le_of_ble_eq_true rfl⟩) t0 (by decide) rfl rfl rfl (Nat.le_of_ble_eq_true rfl) dX10_go_2 ⟨Nat.le_of_ble_eq_true rfl, Nat.le_of_ble_eq_true rfl⟩ (vx_outV hxt hlk (by decide) (by decide))
  dsimp only at h
  refine v_callVxr (As := [.int i1]) (rest := []) F (c_X10_lawNumbered l hst F.2.2.1 t0 hz3) (cwV 1 F.1.2.2.2.2 (gU_V ml_X10_135 im_yX10_lawNumbered se_yX10_lawNumbered ini_X10 cd_X10_lawNumbered) rfl rfl rfl (by decide +kernel) ⟨Nat.le_of_ble_eq_true rfl, Nat.le_of_ble_eq_true rfl⟩) t0 (by decide) rfl rfl rfl (Nat.le_of_ble_eq_true rfl) dX10_go_2 ⟨Nat.le_of_ble_eq_true rfl, Nat.le_of_ble_eq_true rfl⟩ ?_
  have u5 := ty_X10_lawNumbered F.2.2.1 t0 hz3
  refine v_astore (lv' := [(4, .ref (gAd g r1)), (0, .ref (gAd g a0)), (1, .int i1), (2, .int i2), (3, .int i3)]) F dX10_go_5 (by decide) rfl ?_
  refine v_iload_n F dX10_go_7 rfl 3 rfl ?_
  obtain ⟨⟨r6 | j9, M7⟩, hz8, h⟩ := bd_some h
  rotate_left
  · dsimp only at h; cases h; exact v_callSxT (As := [.int i2]) (rest := []) F (c_X10_demandWind l hst F.2.2.1  hz8) (cwS 1 F.1.2.2.2.2 (gU_S ml_X10_139 st_yX10_demandWind ini_X10 cd_X10_demandWind) rfl rfl rfl (by decide +kernel) ⟨Nat.le_of_ble_eq_true rfl, Nat.le_of_ble_eq_true rfl⟩) rfl rfl (Nat.le_of_ble_eq_true rfl) dX10_go_8 ⟨Nat.le_of_ble_eq_true rfl, Nat.le_of_ble_eq_true rfl⟩ (vx_outV hxt hlk (by decide) (by decide))
  dsimp only at h
  refine v_callSxv (As := [.int i2]) (rest := []) F (c_X10_demandWind l hst F.2.2.1  hz8) (cwS 1 F.1.2.2.2.2 (gU_S ml_X10_139 st_yX10_demandWind ini_X10 cd_X10_demandWind) rfl rfl rfl (by decide +kernel) ⟨Nat.le_of_ble_eq_true rfl, Nat.le_of_ble_eq_true rfl⟩) rfl rfl (Nat.le_of_ble_eq_true rfl) dX10_go_8 ⟨Nat.le_of_ble_eq_true rfl, Nat.le_of_ble_eq_true rfl⟩ ?_
  refine v_iload_n F dX10_go_11 rfl 4 rfl ?_
  refine v_iconst (v := 0) F dX10_go_12 (by decide) ?_
  refine v_bipush (v := 100) F dX10_go_13 (by decide) ?_
  obtain ⟨⟨r10, M11⟩, hz12, h⟩ := bd_some h
  dsimp only at h
  refine v_callSi (As := [.int i3, .int 0, .int 100]) (rest := []) F (c_X10_within l F.2.2.1  hz12) (cwS 3 F.1.2.2.2.2 (gU_S ml_X10_63 st_yX10_within ini_X10 cd_X10_within) rfl rfl rfl (by decide +kernel) ⟨Nat.le_of_ble_eq_true rfl, Nat.le_of_ble_eq_true rfl⟩) rfl rfl (Nat.le_of_ble_eq_true rfl) dX10_go_15 ⟨Nat.le_of_ble_eq_true rfl, Nat.le_of_ble_eq_true rfl⟩ ?_
  obtain ⟨⟨r14 | j17, M15⟩, hz16, h⟩ := bd_some h
  rotate_left
  · dsimp only at h; cases h; exact v_callSxT (As := [.int r10]) (rest := []) F (c_X10_demand l hst F.2.2.1  hz16) (cwS 1 F.1.2.2.2.2 (gU_S ml_X10_67 st_yX10_demand ini_X10 cd_X10_demand) rfl rfl rfl (by decide +kernel) ⟨Nat.le_of_ble_eq_true rfl, Nat.le_of_ble_eq_true rfl⟩) rfl rfl (Nat.le_of_ble_eq_true rfl) dX10_go_18 ⟨Nat.le_of_ble_eq_true rfl, Nat.le_of_ble_eq_true rfl⟩ (vx_outV hxt hlk (by decide) (by decide))
  dsimp only at h
  refine v_callSxv (As := [.int r10]) (rest := []) F (c_X10_demand l hst F.2.2.1  hz16) (cwS 1 F.1.2.2.2.2 (gU_S ml_X10_67 st_yX10_demand ini_X10 cd_X10_demand) rfl rfl rfl (by decide +kernel) ⟨Nat.le_of_ble_eq_true rfl, Nat.le_of_ble_eq_true rfl⟩) rfl rfl (Nat.le_of_ble_eq_true rfl) dX10_go_18 ⟨Nat.le_of_ble_eq_true rfl, Nat.le_of_ble_eq_true rfl⟩ ?_
  refine v_iconst (v := 0) F dX10_go_21 (by decide) ?_
  refine v_istore (lv' := [(5, .int 0), (4, .ref (gAd g r1)), (0, .ref (gAd g a0)), (1, .int i1), (2, .int i2), (3, .int i3)]) F dX10_go_22 (by decide) rfl ?_
  refine v_sub (fun ls h9 => lv_sub h9 [2, 3, 4, 5, 1, 0] rfl) ?_
  exact w_X10_go_h24 F hr hlk hxt hst t0 _ _ _ _ u5 h
def f_X10_piece  (M : Mem) (a0 : Nat) (i1 : Int32) (i2 : Int32) : Option ((Int32 ⊕ Nat) × Mem) := (f_X10_demandPiece M a0 i1).bind fun q => match q with | (.inr j4, M2) => some (.inr j4, M2) | (.inl r1, M2) => (if i2 = 0 then ((f_X8_at M2 (gRf (gRf (gRf a0 6) 0) 3) i1).bind fun q => match q with | (r9, M10) => (some (.inl r9, M10))) else (if i2 = 1 then ((f_X8_at M2 (gRf (gRf (gRf a0 6) 0) 4) i1).bind fun q => match q with | (r17, M18) => (some (.inl r17, M18))) else (if i2 = 2 then ((f_X8_at M2 (gRf (gRf (gRf a0 6) 0) 5) i1).bind fun q => match q with | (r25, M26) => (some (.inl r25, M26))) else (if i2 = 3 then ((f_X8_at M2 (gRf (gRf (gRf a0 6) 0) 6) i1).bind fun q => match q with | (r33, M34) => (some (.inl r33, M34))) else (if i2 = 4 then ((f_X8_at M2 (gRf (gRf (gRf a0 6) 0) 7) i1).bind fun q => match q with | (r41, M42) => (some (.inl r41, M42))) else (if i2 = 5 then ((f_X8_at M2 (gRf (gRf (gRf a0 6) 0) 8) i1).bind fun q => match q with | (r49, M50) => (some (.inl r49, M50))) else (some (.inr 0, M2))))))))
set_option maxHeartbeats 4000000 in
set_option maxRecDepth 100000 in
theorem c_X10_piece {g : gT} (l : Launch) (hst : l.stackTraces = false) (hok : gOK g) {a0 : Nat} {i1 : Int32} {i2 : Int32} {M : Mem} {z : (Int32 ⊕ Nat) × Mem} (t0 : Ty g 10 a0) (h : f_X10_piece M a0 i1 i2 = some z) : Cx g l yX10_piece uX10_piece 7 2 12 [.ref (gAd g a0), .int i1, .int i2] M vI z := by
  refine Cx.of (cc := cX10_piece) (maxL := 3) (ret := (some .int)) hok (by decide) rfl (Nat.le_of_ble_eq_true rfl) (fun p e s m args below meth c F hr hlk hxt => ?_)
  unfold f_X10_piece at h
  show V g p l e ({ frames := 7, cells := 2, slots := 12, locals := 40 * 7 } : Room) s m args below meth c 3 0 0 (vx_MQ below (gQx g vI z) (gXx g z) args s 2 12 (gA g)) 0 [(0, .ref (gAd g a0)), (1, .int i1), (2, .int i2)] [] M
  refine v_aload_n F dX10_piece_0 rfl 0 rfl ?_
  refine v_iload_n F dX10_piece_1 rfl 1 rfl ?_
  obtain ⟨⟨r1 | j4, M2⟩, hz3, h⟩ := bd_some h
  rotate_left
  · dsimp only at h; cases h; exact v_callVxT (As := [.int i1]) (rest := []) F (c_X10_demandPiece l hst F.2.2.1 t0 hz3) (cwV 1 F.1.2.2.2.2 (gU_V ml_X10_119 im_yX10_demandPiece se_yX10_demandPiece ini_X10 cd_X10_demandPiece) rfl rfl rfl (by decide +kernel) ⟨Nat.le_of_ble_eq_true rfl, Nat.le_of_ble_eq_true rfl⟩) t0 (by decide) rfl rfl rfl (Nat.le_of_ble_eq_true rfl) dX10_piece_2 ⟨Nat.le_of_ble_eq_true rfl, Nat.le_of_ble_eq_true rfl⟩ (vx_outV hxt hlk (by decide) (by decide))
  dsimp only at h
  refine v_callVxv (As := [.int i1]) (rest := []) F (c_X10_demandPiece l hst F.2.2.1 t0 hz3) (cwV 1 F.1.2.2.2.2 (gU_V ml_X10_119 im_yX10_demandPiece se_yX10_demandPiece ini_X10 cd_X10_demandPiece) rfl rfl rfl (by decide +kernel) ⟨Nat.le_of_ble_eq_true rfl, Nat.le_of_ble_eq_true rfl⟩) t0 (by decide) rfl rfl rfl (Nat.le_of_ble_eq_true rfl) dX10_piece_2 ⟨Nat.le_of_ble_eq_true rfl, Nat.le_of_ble_eq_true rfl⟩ ?_
  refine v_iload_n F dX10_piece_5 rfl 2 rfl ?_
  by_cases hs5 : i2 = 0
  · rw [if_pos hs5] at h
    rw [show (Value.int i2) = Value.int 0 from congrArg Value.int hs5]
    refine v_tableIn (tgt := 44) F dX10_piece_6 (by decide) (by decide) rfl (by decide) ?_
    refine v_aload_n F dX10_piece_44 rfl 0 rfl ?_
    refine v_getR (k := 6) (f := 7) F t0 (by decide) (inc inU_10) rfl rfl (by decide) (by decide) (List.mem_cons_of_mem _ fl_X10_38) rfl dX10_piece_45 (fun u6 => ?_)
    refine v_getR (k := 0) (f := 1) F u6 (by decide) (inc inU_7) rfl rfl (by decide) (by decide) (List.mem_cons_of_mem _ fl_X10_93) rfl dX10_piece_48 (fun u7 => ?_)
    refine v_getR (k := 3) (f := 8) F u7 (by decide) (inc inU_1) rfl rfl (by decide) (by decide) (List.mem_cons_of_mem _ fl_X10_146) rfl dX10_piece_51 (fun u8 => ?_)
    refine v_iload_n F dX10_piece_54 rfl 1 rfl ?_
    obtain ⟨⟨r9, M10⟩, hz11, h⟩ := bd_some h
    dsimp only at h
    refine v_callVi (As := [.int i1]) (rest := []) F (c_X8_at l F.2.2.1 u8 hz11) (cwV 1 F.1.2.2.2.2 (gU_V ml_X10_112 im_yX8_at se_yX8_at ini_X8 cd_X8_at) rfl rfl rfl (by decide +kernel) ⟨Nat.le_of_ble_eq_true rfl, Nat.le_of_ble_eq_true rfl⟩) u8 (by decide) rfl rfl rfl (Nat.le_of_ble_eq_true rfl) dX10_piece_55 ⟨Nat.le_of_ble_eq_true rfl, Nat.le_of_ble_eq_true rfl⟩ ?_
    cases h
    refine v_iretX F hr rfl hlk dX10_piece_58 ?_ ?_ <;> decide
  rw [if_neg hs5] at h
  by_cases hs13 : i2 = 1
  · rw [if_pos hs13] at h
    rw [show (Value.int i2) = Value.int 1 from congrArg Value.int hs13]
    refine v_tableIn (tgt := 59) F dX10_piece_6 (by decide) (by decide) rfl (by decide) ?_
    refine v_aload_n F dX10_piece_59 rfl 0 rfl ?_
    refine v_getR (k := 6) (f := 7) F t0 (by decide) (inc inU_10) rfl rfl (by decide) (by decide) (List.mem_cons_of_mem _ fl_X10_38) rfl dX10_piece_60 (fun u14 => ?_)
    refine v_getR (k := 0) (f := 1) F u14 (by decide) (inc inU_7) rfl rfl (by decide) (by decide) (List.mem_cons_of_mem _ fl_X10_93) rfl dX10_piece_63 (fun u15 => ?_)
    refine v_getR (k := 4) (f := 8) F u15 (by decide) (inc inU_1) rfl rfl (by decide) (by decide) (List.mem_cons_of_mem _ fl_X10_149) rfl dX10_piece_66 (fun u16 => ?_)
    refine v_iload_n F dX10_piece_69 rfl 1 rfl ?_
    obtain ⟨⟨r17, M18⟩, hz19, h⟩ := bd_some h
    dsimp only at h
    refine v_callVi (As := [.int i1]) (rest := []) F (c_X8_at l F.2.2.1 u16 hz19) (cwV 1 F.1.2.2.2.2 (gU_V ml_X10_112 im_yX8_at se_yX8_at ini_X8 cd_X8_at) rfl rfl rfl (by decide +kernel) ⟨Nat.le_of_ble_eq_true rfl, Nat.le_of_ble_eq_true rfl⟩) u16 (by decide) rfl rfl rfl (Nat.le_of_ble_eq_true rfl) dX10_piece_70 ⟨Nat.le_of_ble_eq_true rfl, Nat.le_of_ble_eq_true rfl⟩ ?_
    cases h
    refine v_iretX F hr rfl hlk dX10_piece_73 ?_ ?_ <;> decide
  rw [if_neg hs13] at h
  by_cases hs21 : i2 = 2
  · rw [if_pos hs21] at h
    rw [show (Value.int i2) = Value.int 2 from congrArg Value.int hs21]
    refine v_tableIn (tgt := 74) F dX10_piece_6 (by decide) (by decide) rfl (by decide) ?_
    refine v_aload_n F dX10_piece_74 rfl 0 rfl ?_
    refine v_getR (k := 6) (f := 7) F t0 (by decide) (inc inU_10) rfl rfl (by decide) (by decide) (List.mem_cons_of_mem _ fl_X10_38) rfl dX10_piece_75 (fun u22 => ?_)
    refine v_getR (k := 0) (f := 1) F u22 (by decide) (inc inU_7) rfl rfl (by decide) (by decide) (List.mem_cons_of_mem _ fl_X10_93) rfl dX10_piece_78 (fun u23 => ?_)
    refine v_getR (k := 5) (f := 8) F u23 (by decide) (inc inU_1) rfl rfl (by decide) (by decide) (List.mem_cons_of_mem _ fl_X10_152) rfl dX10_piece_81 (fun u24 => ?_)
    refine v_iload_n F dX10_piece_84 rfl 1 rfl ?_
    obtain ⟨⟨r25, M26⟩, hz27, h⟩ := bd_some h
    dsimp only at h
    refine v_callVi (As := [.int i1]) (rest := []) F (c_X8_at l F.2.2.1 u24 hz27) (cwV 1 F.1.2.2.2.2 (gU_V ml_X10_112 im_yX8_at se_yX8_at ini_X8 cd_X8_at) rfl rfl rfl (by decide +kernel) ⟨Nat.le_of_ble_eq_true rfl, Nat.le_of_ble_eq_true rfl⟩) u24 (by decide) rfl rfl rfl (Nat.le_of_ble_eq_true rfl) dX10_piece_85 ⟨Nat.le_of_ble_eq_true rfl, Nat.le_of_ble_eq_true rfl⟩ ?_
    cases h
    refine v_iretX F hr rfl hlk dX10_piece_88 ?_ ?_ <;> decide
  rw [if_neg hs21] at h
  by_cases hs29 : i2 = 3
  · rw [if_pos hs29] at h
    rw [show (Value.int i2) = Value.int 3 from congrArg Value.int hs29]
    refine v_tableIn (tgt := 89) F dX10_piece_6 (by decide) (by decide) rfl (by decide) ?_
    refine v_aload_n F dX10_piece_89 rfl 0 rfl ?_
    refine v_getR (k := 6) (f := 7) F t0 (by decide) (inc inU_10) rfl rfl (by decide) (by decide) (List.mem_cons_of_mem _ fl_X10_38) rfl dX10_piece_90 (fun u30 => ?_)
    refine v_getR (k := 0) (f := 1) F u30 (by decide) (inc inU_7) rfl rfl (by decide) (by decide) (List.mem_cons_of_mem _ fl_X10_93) rfl dX10_piece_93 (fun u31 => ?_)
    refine v_getR (k := 6) (f := 8) F u31 (by decide) (inc inU_1) rfl rfl (by decide) (by decide) (List.mem_cons_of_mem _ fl_X10_155) rfl dX10_piece_96 (fun u32 => ?_)
    refine v_iload_n F dX10_piece_99 rfl 1 rfl ?_
    obtain ⟨⟨r33, M34⟩, hz35, h⟩ := bd_some h
    dsimp only at h
    refine v_callVi (As := [.int i1]) (rest := []) F (c_X8_at l F.2.2.1 u32 hz35) (cwV 1 F.1.2.2.2.2 (gU_V ml_X10_112 im_yX8_at se_yX8_at ini_X8 cd_X8_at) rfl rfl rfl (by decide +kernel) ⟨Nat.le_of_ble_eq_true rfl, Nat.le_of_ble_eq_true rfl⟩) u32 (by decide) rfl rfl rfl (Nat.le_of_ble_eq_true rfl) dX10_piece_100 ⟨Nat.le_of_ble_eq_true rfl, Nat.le_of_ble_eq_true rfl⟩ ?_
    cases h
    refine v_iretX F hr rfl hlk dX10_piece_103 ?_ ?_ <;> decide
  rw [if_neg hs29] at h
  by_cases hs37 : i2 = 4
  · rw [if_pos hs37] at h
    rw [show (Value.int i2) = Value.int 4 from congrArg Value.int hs37]
    refine v_tableIn (tgt := 104) F dX10_piece_6 (by decide) (by decide) rfl (by decide) ?_
    refine v_aload_n F dX10_piece_104 rfl 0 rfl ?_
    refine v_getR (k := 6) (f := 7) F t0 (by decide) (inc inU_10) rfl rfl (by decide) (by decide) (List.mem_cons_of_mem _ fl_X10_38) rfl dX10_piece_105 (fun u38 => ?_)
    refine v_getR (k := 0) (f := 1) F u38 (by decide) (inc inU_7) rfl rfl (by decide) (by decide) (List.mem_cons_of_mem _ fl_X10_93) rfl dX10_piece_108 (fun u39 => ?_)
    refine v_getR (k := 7) (f := 8) F u39 (by decide) (inc inU_1) rfl rfl (by decide) (by decide) (List.mem_cons_of_mem _ fl_X10_122) rfl dX10_piece_111 (fun u40 => ?_)
    refine v_iload_n F dX10_piece_114 rfl 1 rfl ?_
    obtain ⟨⟨r41, M42⟩, hz43, h⟩ := bd_some h
    dsimp only at h
    refine v_callVi (As := [.int i1]) (rest := []) F (c_X8_at l F.2.2.1 u40 hz43) (cwV 1 F.1.2.2.2.2 (gU_V ml_X10_112 im_yX8_at se_yX8_at ini_X8 cd_X8_at) rfl rfl rfl (by decide +kernel) ⟨Nat.le_of_ble_eq_true rfl, Nat.le_of_ble_eq_true rfl⟩) u40 (by decide) rfl rfl rfl (Nat.le_of_ble_eq_true rfl) dX10_piece_115 ⟨Nat.le_of_ble_eq_true rfl, Nat.le_of_ble_eq_true rfl⟩ ?_
    cases h
    refine v_iretX F hr rfl hlk dX10_piece_118 ?_ ?_ <;> decide
  rw [if_neg hs37] at h
  by_cases hs45 : i2 = 5
  · rw [if_pos hs45] at h
    rw [show (Value.int i2) = Value.int 5 from congrArg Value.int hs45]
    refine v_tableIn (tgt := 119) F dX10_piece_6 (by decide) (by decide) rfl (by decide) ?_
    refine v_aload_n F dX10_piece_119 rfl 0 rfl ?_
    refine v_getR (k := 6) (f := 7) F t0 (by decide) (inc inU_10) rfl rfl (by decide) (by decide) (List.mem_cons_of_mem _ fl_X10_38) rfl dX10_piece_120 (fun u46 => ?_)
    refine v_getR (k := 0) (f := 1) F u46 (by decide) (inc inU_7) rfl rfl (by decide) (by decide) (List.mem_cons_of_mem _ fl_X10_93) rfl dX10_piece_123 (fun u47 => ?_)
    refine v_getR (k := 8) (f := 8) F u47 (by decide) (inc inU_1) rfl rfl (by decide) (by decide) (List.mem_cons_of_mem _ fl_X10_158) rfl dX10_piece_126 (fun u48 => ?_)
    refine v_iload_n F dX10_piece_129 rfl 1 rfl ?_
    obtain ⟨⟨r49, M50⟩, hz51, h⟩ := bd_some h
    dsimp only at h
    refine v_callVi (As := [.int i1]) (rest := []) F (c_X8_at l F.2.2.1 u48 hz51) (cwV 1 F.1.2.2.2.2 (gU_V ml_X10_112 im_yX8_at se_yX8_at ini_X8 cd_X8_at) rfl rfl rfl (by decide +kernel) ⟨Nat.le_of_ble_eq_true rfl, Nat.le_of_ble_eq_true rfl⟩) u48 (by decide) rfl rfl rfl (Nat.le_of_ble_eq_true rfl) dX10_piece_130 ⟨Nat.le_of_ble_eq_true rfl, Nat.le_of_ble_eq_true rfl⟩ ?_
    cases h
    refine v_iretX F hr rfl hlk dX10_piece_133 ?_ ?_ <;> decide
  rw [if_neg hs45] at h
  refine v_tableOut (tgt := 134) F dX10_piece_6 (sw_out 0 5 (by decide) (by decide) ?_) (by decide) ?_
  · intro j9 h1 h2
    obtain rfl | rfl | rfl | rfl | rfl | rfl : j9 = 0 ∨ j9 = 1 ∨ j9 = 2 ∨ j9 = 3 ∨ j9 = 4 ∨ j9 = 5 := by omega
    · exact fun q => hs5 (by rw [← Int32.toInt_inj]; exact q)
    · exact fun q => hs13 (by rw [← Int32.toInt_inj]; exact q)
    · exact fun q => hs21 (by rw [← Int32.toInt_inj]; exact q)
    · exact fun q => hs29 (by rw [← Int32.toInt_inj]; exact q)
    · exact fun q => hs37 (by rw [← Int32.toInt_inj]; exact q)
    · exact fun q => hs45 (by rw [← Int32.toInt_inj]; exact q)
  cases h
  exact v_throw (j := 0) (sx := 3) (text := "no such thing of a piece") F hxt hlk hst rfl (by decide +kernel) (List.mem_cons_of_mem _ cl_X10_161) (List.mem_cons_of_mem _ ini_E0) (by decide +kernel) (fun w h => List.mem_cons_of_mem _ (at_0 w h)) bad_0 ok_0 dX10_piece_134 dX10_piece_137 dX10_piece_138 dX10_piece_140 dX10_piece_143 (by decide) (by decide) (by decide) (by decide) (by decide) (by decide)
def f_X10_push  (M : Mem) (a0 : Nat) (i1 : Int32) (i2 : Int32) (i3 : Int32) (i4 : Int32) : Option ((Int32 ⊕ Nat) × Mem) := (f_X10_lawNumbered M a0 i1).bind fun q => match q with | (.inr j4, M2) => some (.inr j4, M2) | (.inl r1, M2) => ((f_X10_demandPiece M2 a0 i3).bind fun q => match q with | (.inr j9, M7) => some (.inr j9, M7) | (.inl r6, M7) => ((f_X10_demandWind M7 i2).bind fun q => match q with | (.inr j13, M11) => some (.inr j13, M11) | (.inl r10, M11) => ((f_X1_namesOf M11 (gRf (gRf a0 6) 0) i3 i2).bind fun q => match q with | (r16, M17) => ((f_X3_work M17 r1 r16).bind fun q => match q with | (r21, M22) => (if i4 = 0 then (some (.inl (M22 r1 0), M22)) else (some (.inl (M22 r1 1), M22)))))))
set_option maxHeartbeats 4000000 in
set_option maxRecDepth 100000 in
theorem c_X10_push {g : gT} (l : Launch) (hst : l.stackTraces = false) (hok : gOK g) {a0 : Nat} {i1 : Int32} {i2 : Int32} {i3 : Int32} {i4 : Int32} {M : Mem} {z : (Int32 ⊕ Nat) × Mem} (t0 : Ty g 10 a0) (h : f_X10_push M a0 i1 i2 i3 i4 = some z) : Cx g l yX10_push uX10_push 8 3 18 [.ref (gAd g a0), .int i1, .int i2, .int i3, .int i4] M vI z := by
  refine Cx.of (cc := cX10_push) (maxL := 6) (ret := (some .int)) hok (by decide) rfl (Nat.le_of_ble_eq_true rfl) (fun p e s m args below meth c F hr hlk hxt => ?_)
  unfold f_X10_push at h
  show V g p l e ({ frames := 8, cells := 3, slots := 18, locals := 40 * 8 } : Room) s m args below meth c 6 0 0 (vx_MQ below (gQx g vI z) (gXx g z) args s 3 18 (gA g)) 0 [(0, .ref (gAd g a0)), (1, .int i1), (2, .int i2), (3, .int i3), (4, .int i4)] [] M
  refine v_aload_n F dX10_push_0 rfl 0 rfl ?_
  refine v_iload_n F dX10_push_1 rfl 1 rfl ?_
  obtain ⟨⟨r1 | j4, M2⟩, hz3, h⟩ := bd_some h
  rotate_left
  · dsimp only at h; cases h; exact v_callVxT (As := [.int i1]) (rest := []) F (c_X10_lawNumbered l hst F.2.2.1 t0 hz3) (cwV 1 F.1.2.2.2.2 (gU_V ml_X10_135 im_yX10_lawNumbered se_yX10_lawNumbered ini_X10 cd_X10_lawNumbered) rfl rfl rfl (by decide +kernel) ⟨Nat.le_of_ble_eq_true rfl, Nat.le_of_ble_eq_true rfl⟩) t0 (by decide) rfl rfl rfl (Nat.le_of_ble_eq_true rfl) dX10_push_2 ⟨Nat.le_of_ble_eq_true rfl, Nat.le_of_ble_eq_true rfl⟩ (vx_outV hxt hlk (by decide) (by decide))
  dsimp only at h
  refine v_callVxr (As := [.int i1]) (rest := []) F (c_X10_lawNumbered l hst F.2.2.1 t0 hz3) (cwV 1 F.1.2.2.2.2 (gU_V ml_X10_135 im_yX10_lawNumbered se_yX10_lawNumbered ini_X10 cd_X10_lawNumbered) rfl rfl rfl (by decide +kernel) ⟨Nat.le_of_ble_eq_true rfl, Nat.le_of_ble_eq_true rfl⟩) t0 (by decide) rfl rfl rfl (Nat.le_of_ble_eq_true rfl) dX10_push_2 ⟨Nat.le_of_ble_eq_true rfl, Nat.le_of_ble_eq_true rfl⟩ ?_
  have u5 := ty_X10_lawNumbered F.2.2.1 t0 hz3
  refine v_astore (lv' := [(5, .ref (gAd g r1)), (0, .ref (gAd g a0)), (1, .int i1), (2, .int i2), (3, .int i3), (4, .int i4)]) F dX10_push_5 (by decide) rfl ?_
  refine v_aload_n F dX10_push_7 rfl 1 rfl ?_
  refine v_iload_n F dX10_push_8 rfl 4 rfl ?_
  obtain ⟨⟨r6 | j9, M7⟩, hz8, h⟩ := bd_some h
  rotate_left
  · dsimp only at h; cases h; exact v_callVxT (As := [.int i3]) (rest := []) F (c_X10_demandPiece l hst F.2.2.1 t0 hz8) (cwV 1 F.1.2.2.2.2 (gU_V ml_X10_119 im_yX10_demandPiece se_yX10_demandPiece ini_X10 cd_X10_demandPiece) rfl rfl rfl (by decide +kernel) ⟨Nat.le_of_ble_eq_true rfl, Nat.le_of_ble_eq_true rfl⟩) t0 (by decide) rfl rfl rfl (Nat.le_of_ble_eq_true rfl) dX10_push_9 ⟨Nat.le_of_ble_eq_true rfl, Nat.le_of_ble_eq_true rfl⟩ (vx_outV hxt hlk (by decide) (by decide))
  dsimp only at h
  refine v_callVxv (As := [.int i3]) (rest := []) F (c_X10_demandPiece l hst F.2.2.1 t0 hz8) (cwV 1 F.1.2.2.2.2 (gU_V ml_X10_119 im_yX10_demandPiece se_yX10_demandPiece ini_X10 cd_X10_demandPiece) rfl rfl rfl (by decide +kernel) ⟨Nat.le_of_ble_eq_true rfl, Nat.le_of_ble_eq_true rfl⟩) t0 (by decide) rfl rfl rfl (Nat.le_of_ble_eq_true rfl) dX10_push_9 ⟨Nat.le_of_ble_eq_true rfl, Nat.le_of_ble_eq_true rfl⟩ ?_
  refine v_iload_n F dX10_push_12 rfl 3 rfl ?_
  obtain ⟨⟨r10 | j13, M11⟩, hz12, h⟩ := bd_some h
  rotate_left
  · dsimp only at h; cases h; exact v_callSxT (As := [.int i2]) (rest := []) F (c_X10_demandWind l hst F.2.2.1  hz12) (cwS 1 F.1.2.2.2.2 (gU_S ml_X10_139 st_yX10_demandWind ini_X10 cd_X10_demandWind) rfl rfl rfl (by decide +kernel) ⟨Nat.le_of_ble_eq_true rfl, Nat.le_of_ble_eq_true rfl⟩) rfl rfl (Nat.le_of_ble_eq_true rfl) dX10_push_13 ⟨Nat.le_of_ble_eq_true rfl, Nat.le_of_ble_eq_true rfl⟩ (vx_outV hxt hlk (by decide) (by decide))
  dsimp only at h
  refine v_callSxv (As := [.int i2]) (rest := []) F (c_X10_demandWind l hst F.2.2.1  hz12) (cwS 1 F.1.2.2.2.2 (gU_S ml_X10_139 st_yX10_demandWind ini_X10 cd_X10_demandWind) rfl rfl rfl (by decide +kernel) ⟨Nat.le_of_ble_eq_true rfl, Nat.le_of_ble_eq_true rfl⟩) rfl rfl (Nat.le_of_ble_eq_true rfl) dX10_push_13 ⟨Nat.le_of_ble_eq_true rfl, Nat.le_of_ble_eq_true rfl⟩ ?_
  refine v_aload F dX10_push_16 0 rfl ?_
  refine v_aload_n F dX10_push_18 rfl 1 rfl ?_
  refine v_getR (k := 6) (f := 7) F t0 (by decide) (inc inU_10) rfl rfl (by decide) (by decide) (List.mem_cons_of_mem _ fl_X10_38) rfl dX10_push_19 (fun u14 => ?_)
  refine v_getR (k := 0) (f := 1) F u14 (by decide) (inc inU_7) rfl rfl (by decide) (by decide) (List.mem_cons_of_mem _ fl_X10_93) rfl dX10_push_22 (fun u15 => ?_)
  refine v_iload_n F dX10_push_25 rfl 4 rfl ?_
  refine v_iload_n F dX10_push_26 rfl 3 rfl ?_
  obtain ⟨⟨r16, M17⟩, hz18, h⟩ := bd_some h
  dsimp only at h
  refine v_callVr (As := [.int i3, .int i2]) (rest := [.ref (gAd g r1)]) F (c_X1_namesOf l F.2.2.1 u15 hz18) (cwV 2 F.1.2.2.2.2 (gU_V ml_X10_168 im_yX1_namesOf se_yX1_namesOf ini_X1 cd_X1_namesOf) rfl rfl rfl (by decide +kernel) ⟨Nat.le_of_ble_eq_true rfl, Nat.le_of_ble_eq_true rfl⟩) u15 (by decide) rfl rfl rfl (Nat.le_of_ble_eq_true rfl) dX10_push_27 ⟨Nat.le_of_ble_eq_true rfl, Nat.le_of_ble_eq_true rfl⟩ ?_
  have u20 := ty_X1_namesOf F.2.2.1 u15 hz18
  obtain ⟨⟨r21, M22⟩, hz23, h⟩ := bd_some h
  dsimp only at h
  refine v_callVv (As := [.ref (gAd g r16)]) (rest := []) F (c_X3_work l F.2.2.1 u5 u20 hz23) (cwV 1 F.1.2.2.2.2 (gU_V ml_X10_172 im_yX3_work se_yX3_work ini_X3 cd_X3_work) rfl rfl rfl (by decide +kernel) ⟨Nat.le_of_ble_eq_true rfl, Nat.le_of_ble_eq_true rfl⟩) u5 (by decide) rfl rfl rfl (Nat.le_of_ble_eq_true rfl) dX10_push_30 ⟨Nat.le_of_ble_eq_true rfl, Nat.le_of_ble_eq_true rfl⟩ ?_
  refine v_iload F dX10_push_33 5 rfl ?_
  refine v_if_eq (tgt := 46) F dX10_push_35 (by decide) (fun hc25 => ?_) (fun hc25 => ?_)
  · rw [if_pos hc25] at h
    refine v_aload F dX10_push_46 0 rfl ?_
    refine v_getI (k := 0) F u5 (by decide) (inc inU_3) rfl rfl (by decide) (List.mem_cons_of_mem _ fl_X10_179) rfl dX10_push_48 ?_
    cases h
    refine v_iretX F hr rfl hlk dX10_push_51 ?_ ?_ <;> decide
  · rw [if_neg hc25] at h
    refine v_aload F dX10_push_38 0 rfl ?_
    refine v_getI (k := 1) F u5 (by decide) (inc inU_3) rfl rfl (by decide) (List.mem_cons_of_mem _ fl_X10_176) rfl dX10_push_40 ?_
    refine v_goto (tgt := 51) F dX10_push_43 (by decide) ?_
    cases h
    refine v_iretX F hr rfl hlk dX10_push_51 ?_ ?_ <;> decide
def f_X10_trialGrows_b74 (a0 : Nat) (a1 : Nat) (i2 : Int32) (i3 : Int32) (i4 : Int32) (i5 : Int32) (i6 : Int32) (k18 : Int32 → Int32 → Mem → Option (Int32 × Mem)) (x7 : Int32) (x8 : Int32) (M : Mem) : Option (Int32 × Mem) := k18 x7 (x8 + 1) M
def f_X10_trialGrows_h18 (a0 : Nat) (a1 : Nat) (i2 : Int32) (i3 : Int32) (i4 : Int32) (i5 : Int32) (i6 : Int32)  : Nat → Int32 → Int32 → Mem → Option (Int32 × Mem)
  | 0, _, _, _ => none
  | n + 1, x7, x8, M => if 60 < x8 then (some (0, M)) else ((f_X1_tick M (gRf a0 9) a1 i2 i6).bind fun q => match q with | (r8, M9) => ((f_X1_size M9 (gRf a0 9) i3).bind fun q => match q with | (r13, M14) => (if 30 < x8 then (if r13 ≤ x7 then (f_X10_trialGrows_b74 a0 a1 i2 i3 i4 i5 i6 (f_X10_trialGrows_h18 a0 a1 i2 i3 i4 i5 i6 n) x7 x8 M14) else (some (1, M14))) else (f_X10_trialGrows_b74 a0 a1 i2 i3 i4 i5 i6 (f_X10_trialGrows_h18 a0 a1 i2 i3 i4 i5 i6 n) (if x7 < r13 then r13 else x7) x8 M14))))
def f_X10_trialGrows  (M : Mem) (a0 : Nat) (a1 : Nat) (i2 : Int32) (i3 : Int32) (i4 : Int32) (i5 : Int32) (i6 : Int32) : Option (Int32 × Mem) := (f_X1_begin M (gRf a0 9) i3 i4 i5).bind fun q => match q with | (r2, M3) => (f_X10_trialGrows_h18 a0 a1 i2 i3 i4 i5 i6 FU 0 1 M3)
set_option maxHeartbeats 4000000 in
set_option maxRecDepth 100000 in
theorem w_X10_trialGrows_b74 {g : gT} {p : Program} {l : Launch} {e : Env} {s : State} {m : MethodId} {args : Array Value} {below : List Frame} {meth : Method} {c : Code} {z : Int32 × Mem} (F : Fx g p s m args c cX10_trialGrows 10 uX10_trialGrows RX10) (hr : meth.sig.returnType = (some .boolean)) (hlk : meth.locks = false)  {a0 : Nat} {a1 : Nat} {i2 : Int32} {i3 : Int32} {i4 : Int32} {i5 : Int32} {i6 : Int32} (t0 : Ty g 10 a0) (t1 : Ty g 3 a1) {k18 : Int32 → Int32 → Mem → Option (Int32 × Mem)} (hk18 : ∀ (x7 : Int32) (x8 : Int32) (M : Mem), k18 x7 x8 M = some z → V g p l e ({ frames := 4, cells := 0, slots := 0, locals := 40 * 4 } : Room) s m args below meth c 10 0 0 (MQ below (gQ g (some (.int z.1)) z.2) args s 0 0 (gA g)) 18 [(0, .ref (gAd g a0)), (1, .ref (gAd g a1)), (2, .int i2), (3, .int i3), (4, .int i4), (5, .int i5), (6, .int i6), (7, .int x7), (8, .int x8)] [] M) (x7 : Int32) (x8 : Int32) (M : Mem)  (h : f_X10_trialGrows_b74 a0 a1 i2 i3 i4 i5 i6 k18 x7 x8 M = some z) : V g p l e ({ frames := 4, cells := 0, slots := 0, locals := 40 * 4 } : Room) s m args below meth c 10 0 0 (MQ below (gQ g (some (.int z.1)) z.2) args s 0 0 (gA g)) 74 [(0, .ref (gAd g a0)), (1, .ref (gAd g a1)), (2, .int i2), (3, .int i3), (4, .int i4), (5, .int i5), (6, .int i6), (7, .int x7), (8, .int x8)] [] M := by
  unfold f_X10_trialGrows_b74 at h
  refine v_iinc (v := x8 + 1) (lv' := [(8, .int (x8 + 1)), (0, .ref (gAd g a0)), (1, .ref (gAd g a1)), (2, .int i2), (3, .int i3), (4, .int i4), (5, .int i5), (6, .int i6), (7, .int x7)]) F dX10_trialGrows_74 (q := 8) rfl rfl (by decide) rfl ?_
  refine v_goto (tgt := 18) F dX10_trialGrows_77 (by decide) ?_
  refine v_sub (fun ls h9 => lv_sub h9 [1, 2, 3, 4, 5, 6, 7, 8, 0] rfl) ?_
  exact hk18 _ _ _ h
set_option maxHeartbeats 4000000 in
set_option maxRecDepth 100000 in
theorem w_X10_trialGrows_h18 {g : gT} {p : Program} {l : Launch} {e : Env} {s : State} {m : MethodId} {args : Array Value} {below : List Frame} {meth : Method} {c : Code} {z : Int32 × Mem} (F : Fx g p s m args c cX10_trialGrows 10 uX10_trialGrows RX10) (hr : meth.sig.returnType = (some .boolean)) (hlk : meth.locks = false)  {a0 : Nat} {a1 : Nat} {i2 : Int32} {i3 : Int32} {i4 : Int32} {i5 : Int32} {i6 : Int32} (t0 : Ty g 10 a0) (t1 : Ty g 3 a1)   : ∀ (n : Nat) (x7 : Int32) (x8 : Int32) (M : Mem), f_X10_trialGrows_h18 a0 a1 i2 i3 i4 i5 i6 n x7 x8 M = some z → V g p l e ({ frames := 4, cells := 0, slots := 0, locals := 40 * 4 } : Room) s m args below meth c 10 0 0 (MQ below (gQ g (some (.int z.1)) z.2) args s 0 0 (gA g)) 18 [(0, .ref (gAd g a0)), (1, .ref (gAd g a1)), (2, .int i2), (3, .int i3), (4, .int i4), (5, .int i5), (6, .int i6), (7, .int x7), (8, .int x8)] [] M := by
  intro n
  induction n with
  | zero => intro x7 x8 M; intros; rename_i h; cases h
  | succ n ih =>
    intro x7 x8 M h
    rw [f_X10_trialGrows_h18] at h
    refine v_iload F dX10_trialGrows_18 8 rfl ?_
    refine v_bipush (v := 60) F dX10_trialGrows_20 (by decide) ?_
    refine v_icmp_gt (tgt := 80) F dX10_trialGrows_22 (by decide) (fun hc6 => ?_) (fun hc6 => ?_)
    · rw [if_pos hc6] at h
      refine v_iconst (v := 0) F dX10_trialGrows_80 (by decide) ?_
      cases h
      exact v_iret F hr narrow_b0 hlk dX10_trialGrows_81
    · rw [if_neg hc6] at h
      refine v_aload_n F dX10_trialGrows_25 rfl 0 rfl ?_
      refine v_getR (k := 9) (f := 1) F t0 (by decide) (inc inU_10) rfl rfl (by decide) (by decide) (List.mem_cons_of_mem _ fl_X10_49) rfl dX10_trialGrows_26 (fun u7 => ?_)
      refine v_aload_n F dX10_trialGrows_29 rfl 1 rfl ?_
      refine v_iload_n F dX10_trialGrows_30 rfl 2 rfl ?_
      refine v_iload F dX10_trialGrows_31 6 rfl ?_
      obtain ⟨⟨r8, M9⟩, hz10, h⟩ := bd_some h
      dsimp only at h
      refine v_callVv (As := [.ref (gAd g a1), .int i2, .int i6]) (rest := []) F (c_X1_tick l F.2.2.1 u7 t1 hz10) (cwV 3 F.1.2.2.2.2 (gU_V ml_X10_142 im_yX1_tick se_yX1_tick ini_X1 cd_X1_tick) rfl rfl rfl (by decide +kernel) ⟨Nat.le_of_ble_eq_true rfl, Nat.le_of_ble_eq_true rfl⟩) u7 (by decide) rfl rfl rfl (Nat.le_of_ble_eq_true rfl) dX10_trialGrows_33 ⟨Nat.le_of_ble_eq_true rfl, Nat.le_of_ble_eq_true rfl⟩ ?_
      refine v_aload_n F dX10_trialGrows_36 rfl 0 rfl ?_
      refine v_getR (k := 9) (f := 1) F t0 (by decide) (inc inU_10) rfl rfl (by decide) (by decide) (List.mem_cons_of_mem _ fl_X10_49) rfl dX10_trialGrows_37 (fun u12 => ?_)
      refine v_iload_n F dX10_trialGrows_40 rfl 3 rfl ?_
      obtain ⟨⟨r13, M14⟩, hz15, h⟩ := bd_some h
      dsimp only at h
      refine v_callVi (As := [.int i3]) (rest := []) F (c_X1_size l F.2.2.1 u12 hz15) (cwV 1 F.1.2.2.2.2 (gU_V ml_X10_132 im_yX1_size se_yX1_size ini_X1 cd_X1_size) rfl rfl rfl (by decide +kernel) ⟨Nat.le_of_ble_eq_true rfl, Nat.le_of_ble_eq_true rfl⟩) u12 (by decide) rfl rfl rfl (Nat.le_of_ble_eq_true rfl) dX10_trialGrows_41 ⟨Nat.le_of_ble_eq_true rfl, Nat.le_of_ble_eq_true rfl⟩ ?_
      refine v_istore (lv' := [(9, .int r13), (0, .ref (gAd g a0)), (1, .ref (gAd g a1)), (2, .int i2), (3, .int i3), (4, .int i4), (5, .int i5), (6, .int i6), (7, .int x7), (8, .int x8)]) F dX10_trialGrows_44 (by decide) rfl ?_
      refine v_iload F dX10_trialGrows_46 9 rfl ?_
      refine v_bipush (v := 30) F dX10_trialGrows_48 (by decide) ?_
      refine v_icmp_gt (tgt := 65) F dX10_trialGrows_50 (by decide) (fun hc17 => ?_) (fun hc17 => ?_)
      · rw [if_pos hc17] at h
        refine v_iload F dX10_trialGrows_65 0 rfl ?_
        refine v_iload F dX10_trialGrows_67 8 rfl ?_
        refine v_icmp_le (tgt := 74) F dX10_trialGrows_69 (by decide) (fun hc18 => ?_) (fun hc18 => ?_)
        · rw [if_pos hc18] at h
          refine v_sub (fun ls h9 => lv_sub h9 [1, 2, 3, 4, 5, 6, 7, 8, 9] rfl) ?_
          exact w_X10_trialGrows_b74 F hr hlk t0 t1 ih _ _ _ h
        · rw [if_neg hc18] at h
          refine v_iconst (v := 1) F dX10_trialGrows_72 (by decide) ?_
          cases h
          exact v_iret F hr narrow_b1 hlk dX10_trialGrows_73
      · rw [if_neg hc17] at h
        refine v_iload F dX10_trialGrows_53 8 rfl ?_
        refine v_iload F dX10_trialGrows_55 0 rfl ?_
        refine v_mmax F (List.mem_cons_of_mem _ ml_X10_256) (List.mem_cons_of_mem _ st_mmax) (List.mem_cons_of_mem _ ini_Math) (List.mem_cons_of_mem _ cd_mmax) dX10_trialGrows_57 ⟨Nat.le_of_ble_eq_true rfl, Nat.le_of_ble_eq_true rfl, Nat.le_of_ble_eq_true rfl, Nat.le_of_ble_eq_true rfl⟩ (Nat.le_of_ble_eq_true rfl) ?_
        refine v_istore (lv' := [(7, .int (if x7 < r13 then r13 else x7)), (9, .int r13), (0, .ref (gAd g a0)), (1, .ref (gAd g a1)), (2, .int i2), (3, .int i3), (4, .int i4), (5, .int i5), (6, .int i6), (8, .int x8)]) F dX10_trialGrows_60 (by decide) rfl ?_
        refine v_goto (tgt := 74) F dX10_trialGrows_62 (by decide) ?_
        refine v_sub (fun ls h9 => lv_sub h9 [2, 3, 4, 5, 6, 7, 8, 0, 9] rfl) ?_
        exact w_X10_trialGrows_b74 F hr hlk t0 t1 ih _ _ _ h
set_option maxHeartbeats 4000000 in
set_option maxRecDepth 100000 in
theorem c_X10_trialGrows {g : gT} (l : Launch) (hok : gOK g)  {a0 : Nat} {a1 : Nat} {i2 : Int32} {i3 : Int32} {i4 : Int32} {i5 : Int32} {i6 : Int32} {M : Mem} {z : Int32 × Mem}  (t0 : Ty g 10 a0) (t1 : Ty g 3 a1) (h : f_X10_trialGrows  M a0 a1 i2 i3 i4 i5 i6 = some z) : Cn g l yX10_trialGrows uX10_trialGrows 4 [.ref (gAd g a0), .ref (gAd g a1), .int i2, .int i3, .int i4, .int i5, .int i6] M (some (.int z.1)) z.2 := by
  refine Cn.of (cc := cX10_trialGrows) (maxL := 10) (ret := (some .boolean)) hok (by decide) rfl (Nat.le_of_ble_eq_true rfl) (fun p e s m args below meth c F hr hlk => ?_)
  unfold f_X10_trialGrows at h
  show V g p l e ({ frames := 4, cells := 0, slots := 0, locals := 40 * 4 } : Room) s m args below meth c 10 0 0 (MQ below (gQ g (some (.int z.1)) z.2) args s 0 0 (gA g)) 0 [(0, .ref (gAd g a0)), (1, .ref (gAd g a1)), (2, .int i2), (3, .int i3), (4, .int i4), (5, .int i5), (6, .int i6)] [] M
  refine v_aload_n F dX10_trialGrows_0 rfl 0 rfl ?_
  refine v_getR (k := 9) (f := 1) F t0 (by decide) (inc inU_10) rfl rfl (by decide) (by decide) (List.mem_cons_of_mem _ fl_X10_49) rfl dX10_trialGrows_1 (fun u1 => ?_)
  refine v_iload_n F dX10_trialGrows_4 rfl 3 rfl ?_
  refine v_iload F dX10_trialGrows_5 4 rfl ?_
  refine v_iload F dX10_trialGrows_7 5 rfl ?_
  obtain ⟨⟨r2, M3⟩, hz4, h⟩ := bd_some h
  dsimp only at h
  refine v_callVv (As := [.int i3, .int i4, .int i5]) (rest := []) F (c_X1_begin l F.2.2.1 u1 hz4) (cwV 3 F.1.2.2.2.2 (gU_V ml_X10_217 im_yX1_begin se_yX1_begin ini_X1 cd_X1_begin) rfl rfl rfl (by decide +kernel) ⟨Nat.le_of_ble_eq_true rfl, Nat.le_of_ble_eq_true rfl⟩) u1 (by decide) rfl rfl rfl (Nat.le_of_ble_eq_true rfl) dX10_trialGrows_9 ⟨Nat.le_of_ble_eq_true rfl, Nat.le_of_ble_eq_true rfl⟩ ?_
  refine v_iconst (v := 0) F dX10_trialGrows_12 (by decide) ?_
  refine v_istore (lv' := [(7, .int 0), (0, .ref (gAd g a0)), (1, .ref (gAd g a1)), (2, .int i2), (3, .int i3), (4, .int i4), (5, .int i5), (6, .int i6)]) F dX10_trialGrows_13 (by decide) rfl ?_
  refine v_iconst (v := 1) F dX10_trialGrows_15 (by decide) ?_
  refine v_istore (lv' := [(8, .int 1), (7, .int 0), (0, .ref (gAd g a0)), (1, .ref (gAd g a1)), (2, .int i2), (3, .int i3), (4, .int i4), (5, .int i5), (6, .int i6)]) F dX10_trialGrows_16 (by decide) rfl ?_
  refine v_sub (fun ls h9 => lv_sub h9 [2, 3, 4, 5, 6, 7, 8, 1, 0] rfl) ?_
  exact w_X10_trialGrows_h18 F hr hlk t0 t1 _ _ _ _ h
def f_X10_grows  (M : Mem) (a0 : Nat) (i1 : Int32) (i2 : Int32) (i3 : Int32) (i4 : Int32) : Option ((Int32 ⊕ Nat) × Mem) := (f_X10_lawNumbered M a0 i1).bind fun q => match q with | (.inr j4, M2) => some (.inr j4, M2) | (.inl r1, M2) => ((f_X10_demandWind M2 i2).bind fun q => match q with | (.inr j9, M7) => some (.inr j9, M7) | (.inl r6, M7) => ((f_X10_demandShape M7 i3 i4).bind fun q => match q with | (.inr j13, M11) => some (.inr j13, M11) | (.inl r10, M11) => ((f_X1_copy M11 (gRf a0 9) (gRf (gRf a0 6) 0)).bind fun q => match q with | (r17, M18) => ((f_X10_trialGrows M18 a0 r1 i2 i3 i4 100 100).bind fun q => match q with | (r21, M22) => (if vp_nar .boolean r21 = r21 then (some (.inl r21, M22)) else none)))))
set_option maxHeartbeats 4000000 in
set_option maxRecDepth 100000 in
theorem c_X10_grows {g : gT} (l : Launch) (hst : l.stackTraces = false) (hok : gOK g) {a0 : Nat} {i1 : Int32} {i2 : Int32} {i3 : Int32} {i4 : Int32} {M : Mem} {z : (Int32 ⊕ Nat) × Mem} (t0 : Ty g 10 a0) (h : f_X10_grows M a0 i1 i2 i3 i4 = some z) : Cx g l yX10_grows uX10_grows 8 3 18 [.ref (gAd g a0), .int i1, .int i2, .int i3, .int i4] M vI z := by
  refine Cx.of (cc := cX10_grows) (maxL := 6) (ret := (some .boolean)) hok (by decide) rfl (Nat.le_of_ble_eq_true rfl) (fun p e s m args below meth c F hr hlk hxt => ?_)
  unfold f_X10_grows at h
  show V g p l e ({ frames := 8, cells := 3, slots := 18, locals := 40 * 8 } : Room) s m args below meth c 6 0 0 (vx_MQ below (gQx g vI z) (gXx g z) args s 3 18 (gA g)) 0 [(0, .ref (gAd g a0)), (1, .int i1), (2, .int i2), (3, .int i3), (4, .int i4)] [] M
  refine v_aload_n F dX10_grows_0 rfl 0 rfl ?_
  refine v_iload_n F dX10_grows_1 rfl 1 rfl ?_
  obtain ⟨⟨r1 | j4, M2⟩, hz3, h⟩ := bd_some h
  rotate_left
  · dsimp only at h; cases h; exact v_callVxT (As := [.int i1]) (rest := []) F (c_X10_lawNumbered l hst F.2.2.1 t0 hz3) (cwV 1 F.1.2.2.2.2 (gU_V ml_X10_135 im_yX10_lawNumbered se_yX10_lawNumbered ini_X10 cd_X10_lawNumbered) rfl rfl rfl (by decide +kernel) ⟨Nat.le_of_ble_eq_true rfl, Nat.le_of_ble_eq_true rfl⟩) t0 (by decide) rfl rfl rfl (Nat.le_of_ble_eq_true rfl) dX10_grows_2 ⟨Nat.le_of_ble_eq_true rfl, Nat.le_of_ble_eq_true rfl⟩ (vx_outV hxt hlk (by decide) (by decide))
  dsimp only at h
  refine v_callVxr (As := [.int i1]) (rest := []) F (c_X10_lawNumbered l hst F.2.2.1 t0 hz3) (cwV 1 F.1.2.2.2.2 (gU_V ml_X10_135 im_yX10_lawNumbered se_yX10_lawNumbered ini_X10 cd_X10_lawNumbered) rfl rfl rfl (by decide +kernel) ⟨Nat.le_of_ble_eq_true rfl, Nat.le_of_ble_eq_true rfl⟩) t0 (by decide) rfl rfl rfl (Nat.le_of_ble_eq_true rfl) dX10_grows_2 ⟨Nat.le_of_ble_eq_true rfl, Nat.le_of_ble_eq_true rfl⟩ ?_
  have u5 := ty_X10_lawNumbered F.2.2.1 t0 hz3
  refine v_astore (lv' := [(5, .ref (gAd g r1)), (0, .ref (gAd g a0)), (1, .int i1), (2, .int i2), (3, .int i3), (4, .int i4)]) F dX10_grows_5 (by decide) rfl ?_
  refine v_iload_n F dX10_grows_7 rfl 3 rfl ?_
  obtain ⟨⟨r6 | j9, M7⟩, hz8, h⟩ := bd_some h
  rotate_left
  · dsimp only at h; cases h; exact v_callSxT (As := [.int i2]) (rest := []) F (c_X10_demandWind l hst F.2.2.1  hz8) (cwS 1 F.1.2.2.2.2 (gU_S ml_X10_139 st_yX10_demandWind ini_X10 cd_X10_demandWind) rfl rfl rfl (by decide +kernel) ⟨Nat.le_of_ble_eq_true rfl, Nat.le_of_ble_eq_true rfl⟩) rfl rfl (Nat.le_of_ble_eq_true rfl) dX10_grows_8 ⟨Nat.le_of_ble_eq_true rfl, Nat.le_of_ble_eq_true rfl⟩ (vx_outV hxt hlk (by decide) (by decide))
  dsimp only at h
  refine v_callSxv (As := [.int i2]) (rest := []) F (c_X10_demandWind l hst F.2.2.1  hz8) (cwS 1 F.1.2.2.2.2 (gU_S ml_X10_139 st_yX10_demandWind ini_X10 cd_X10_demandWind) rfl rfl rfl (by decide +kernel) ⟨Nat.le_of_ble_eq_true rfl, Nat.le_of_ble_eq_true rfl⟩) rfl rfl (Nat.le_of_ble_eq_true rfl) dX10_grows_8 ⟨Nat.le_of_ble_eq_true rfl, Nat.le_of_ble_eq_true rfl⟩ ?_
  refine v_iload_n F dX10_grows_11 rfl 4 rfl ?_
  refine v_iload F dX10_grows_12 5 rfl ?_
  obtain ⟨⟨r10 | j13, M11⟩, hz12, h⟩ := bd_some h
  rotate_left
  · dsimp only at h; cases h; exact v_callSxT (As := [.int i3, .int i4]) (rest := []) F (c_X10_demandShape l hst F.2.2.1  hz12) (cwS 2 F.1.2.2.2.2 (gU_S ml_X10_125 st_yX10_demandShape ini_X10 cd_X10_demandShape) rfl rfl rfl (by decide +kernel) ⟨Nat.le_of_ble_eq_true rfl, Nat.le_of_ble_eq_true rfl⟩) rfl rfl (Nat.le_of_ble_eq_true rfl) dX10_grows_14 ⟨Nat.le_of_ble_eq_true rfl, Nat.le_of_ble_eq_true rfl⟩ (vx_outV hxt hlk (by decide) (by decide))
  dsimp only at h
  refine v_callSxv (As := [.int i3, .int i4]) (rest := []) F (c_X10_demandShape l hst F.2.2.1  hz12) (cwS 2 F.1.2.2.2.2 (gU_S ml_X10_125 st_yX10_demandShape ini_X10 cd_X10_demandShape) rfl rfl rfl (by decide +kernel) ⟨Nat.le_of_ble_eq_true rfl, Nat.le_of_ble_eq_true rfl⟩) rfl rfl (Nat.le_of_ble_eq_true rfl) dX10_grows_14 ⟨Nat.le_of_ble_eq_true rfl, Nat.le_of_ble_eq_true rfl⟩ ?_
  refine v_aload_n F dX10_grows_17 rfl 1 rfl ?_
  refine v_getR (k := 9) (f := 1) F t0 (by decide) (inc inU_10) rfl rfl (by decide) (by decide) (List.mem_cons_of_mem _ fl_X10_49) rfl dX10_grows_18 (fun u14 => ?_)
  refine v_aload_n F dX10_grows_21 rfl 1 rfl ?_
  refine v_getR (k := 6) (f := 7) F t0 (by decide) (inc inU_10) rfl rfl (by decide) (by decide) (List.mem_cons_of_mem _ fl_X10_38) rfl dX10_grows_22 (fun u15 => ?_)
  refine v_getR (k := 0) (f := 1) F u15 (by decide) (inc inU_7) rfl rfl (by decide) (by decide) (List.mem_cons_of_mem _ fl_X10_93) rfl dX10_grows_25 (fun u16 => ?_)
  obtain ⟨⟨r17, M18⟩, hz19, h⟩ := bd_some h
  dsimp only at h
  refine v_callVv (As := [.ref (gAd g (gRf (gRf a0 6) 0))]) (rest := []) F (c_X1_copy l F.2.2.1 u14 u16 hz19) (cwV 1 F.1.2.2.2.2 (gU_V ml_X10_182 im_yX1_copy se_yX1_copy ini_X1 cd_X1_copy) rfl rfl rfl (by decide +kernel) ⟨Nat.le_of_ble_eq_true rfl, Nat.le_of_ble_eq_true rfl⟩) u14 (by decide) rfl rfl rfl (Nat.le_of_ble_eq_true rfl) dX10_grows_28 ⟨Nat.le_of_ble_eq_true rfl, Nat.le_of_ble_eq_true rfl⟩ ?_
  refine v_aload_n F dX10_grows_31 rfl 1 rfl ?_
  refine v_aload F dX10_grows_32 0 rfl ?_
  refine v_iload_n F dX10_grows_34 rfl 3 rfl ?_
  refine v_iload_n F dX10_grows_35 rfl 4 rfl ?_
  refine v_iload F dX10_grows_36 5 rfl ?_
  refine v_bipush (v := 100) F dX10_grows_38 (by decide) ?_
  refine v_bipush (v := 100) F dX10_grows_40 (by decide) ?_
  obtain ⟨⟨r21, M22⟩, hz23, h⟩ := bd_some h
  dsimp only at h
  refine v_callVi (As := [.ref (gAd g r1), .int i2, .int i3, .int i4, .int 100, .int 100]) (rest := []) F (c_X10_trialGrows l F.2.2.1 t0 u5 hz23) (cwV 6 F.1.2.2.2.2 (gU_V ml_X10_186 im_yX10_trialGrows se_yX10_trialGrows ini_X10 cd_X10_trialGrows) rfl rfl rfl (by decide +kernel) ⟨Nat.le_of_ble_eq_true rfl, Nat.le_of_ble_eq_true rfl⟩) t0 (by decide) rfl rfl rfl (Nat.le_of_ble_eq_true rfl) dX10_grows_42 ⟨Nat.le_of_ble_eq_true rfl, Nat.le_of_ble_eq_true rfl⟩ ?_
  by_cases hb25 : vp_nar .boolean r21 = r21
  rotate_left
  · rw [if_neg hb25] at h; cases h
  rw [if_pos hb25] at h
  cases h
  refine v_iretX F hr (nb_ok hb25) hlk dX10_grows_45 ?_ ?_ <;> decide
def f_X10_lineBy_h3 (a0 : Nat) (a1 : Nat) (i2 : Int32) (i3 : Int32) (i4 : Int32)  : Nat → Int32 → Mem → Option (Int32 × Mem)
  | 0, _, _ => none
  | n + 1, x5, M => if 60 < x5 then (some ((-1), M)) else ((f_X10_trialGrows M a0 a1 x5 i2 i3 100 i4).bind fun q => match q with | (r2, M3) => (if r2 = 0 then ((f_X10_lineBy_h3 a0 a1 i2 i3 i4 n) (x5 + 1) M3) else (some (x5, M3))))
def f_X10_lineBy  (M : Mem) (a0 : Nat) (a1 : Nat) (i2 : Int32) (i3 : Int32) (i4 : Int32) : Option (Int32 × Mem) := f_X10_lineBy_h3 a0 a1 i2 i3 i4 FU 0 M
set_option maxHeartbeats 4000000 in
set_option maxRecDepth 100000 in
theorem w_X10_lineBy_h3 {g : gT} {p : Program} {l : Launch} {e : Env} {s : State} {m : MethodId} {args : Array Value} {below : List Frame} {meth : Method} {c : Code} {z : Int32 × Mem} (F : Fx g p s m args c cX10_lineBy 6 uX10_lineBy RX10) (hr : meth.sig.returnType = (some .int)) (hlk : meth.locks = false)  {a0 : Nat} {a1 : Nat} {i2 : Int32} {i3 : Int32} {i4 : Int32} (t0 : Ty g 10 a0) (t1 : Ty g 3 a1)   : ∀ (n : Nat) (x5 : Int32) (M : Mem), f_X10_lineBy_h3 a0 a1 i2 i3 i4 n x5 M = some z → V g p l e ({ frames := 5, cells := 0, slots := 0, locals := 40 * 5 } : Room) s m args below meth c 6 0 0 (MQ below (gQ g (some (.int z.1)) z.2) args s 0 0 (gA g)) 3 [(0, .ref (gAd g a0)), (1, .ref (gAd g a1)), (2, .int i2), (3, .int i3), (4, .int i4), (5, .int x5)] [] M := by
  intro n
  induction n with
  | zero => intro x5 M; intros; rename_i h; cases h
  | succ n ih =>
    intro x5 M h
    rw [f_X10_lineBy_h3] at h
    refine v_iload F dX10_lineBy_3 5 rfl ?_
    refine v_bipush (v := 60) F dX10_lineBy_5 (by decide) ?_
    refine v_icmp_gt (tgt := 35) F dX10_lineBy_7 (by decide) (fun hc1 => ?_) (fun hc1 => ?_)
    · rw [if_pos hc1] at h
      refine v_iconst (v := (-1)) F dX10_lineBy_35 (by decide) ?_
      cases h
      exact v_iret F hr rfl hlk dX10_lineBy_36
    · rw [if_neg hc1] at h
      refine v_aload_n F dX10_lineBy_10 rfl 0 rfl ?_
      refine v_aload_n F dX10_lineBy_11 rfl 1 rfl ?_
      refine v_iload F dX10_lineBy_12 5 rfl ?_
      refine v_iload_n F dX10_lineBy_14 rfl 2 rfl ?_
      refine v_iload_n F dX10_lineBy_15 rfl 3 rfl ?_
      refine v_bipush (v := 100) F dX10_lineBy_16 (by decide) ?_
      refine v_iload F dX10_lineBy_18 4 rfl ?_
      obtain ⟨⟨r2, M3⟩, hz4, h⟩ := bd_some h
      dsimp only at h
      refine v_callVi (As := [.ref (gAd g a1), .int x5, .int i2, .int i3, .int 100, .int i4]) (rest := []) F (c_X10_trialGrows l F.2.2.1 t0 t1 hz4) (cwV 6 F.1.2.2.2.2 (gU_V ml_X10_186 im_yX10_trialGrows se_yX10_trialGrows ini_X10 cd_X10_trialGrows) rfl rfl rfl (by decide +kernel) ⟨Nat.le_of_ble_eq_true rfl, Nat.le_of_ble_eq_true rfl⟩) t0 (by decide) rfl rfl rfl (Nat.le_of_ble_eq_true rfl) dX10_lineBy_20 ⟨Nat.le_of_ble_eq_true rfl, Nat.le_of_ble_eq_true rfl⟩ ?_
      refine v_if_eq (tgt := 29) F dX10_lineBy_23 (by decide) (fun hc6 => ?_) (fun hc6 => ?_)
      · rw [if_pos hc6] at h
        refine v_iinc (v := x5 + 1) (lv' := [(5, .int (x5 + 1)), (0, .ref (gAd g a0)), (1, .ref (gAd g a1)), (2, .int i2), (3, .int i3), (4, .int i4)]) F dX10_lineBy_29 (q := 5) rfl rfl (by decide) rfl ?_
        refine v_goto (tgt := 3) F dX10_lineBy_32 (by decide) ?_
        refine v_sub (fun ls h9 => lv_sub h9 [1, 2, 3, 4, 5, 0] rfl) ?_
        exact ih _ _ h
      · rw [if_neg hc6] at h
        refine v_iload F dX10_lineBy_26 5 rfl ?_
        cases h
        exact v_iret F hr rfl hlk dX10_lineBy_28
set_option maxHeartbeats 4000000 in
set_option maxRecDepth 100000 in
theorem c_X10_lineBy {g : gT} (l : Launch) (hok : gOK g)  {a0 : Nat} {a1 : Nat} {i2 : Int32} {i3 : Int32} {i4 : Int32} {M : Mem} {z : Int32 × Mem}  (t0 : Ty g 10 a0) (t1 : Ty g 3 a1) (h : f_X10_lineBy  M a0 a1 i2 i3 i4 = some z) : Cn g l yX10_lineBy uX10_lineBy 5 [.ref (gAd g a0), .ref (gAd g a1), .int i2, .int i3, .int i4] M (some (.int z.1)) z.2 := by
  refine Cn.of (cc := cX10_lineBy) (maxL := 6) (ret := (some .int)) hok (by decide) rfl (Nat.le_of_ble_eq_true rfl) (fun p e s m args below meth c F hr hlk => ?_)
  unfold f_X10_lineBy at h
  show V g p l e ({ frames := 5, cells := 0, slots := 0, locals := 40 * 5 } : Room) s m args below meth c 6 0 0 (MQ below (gQ g (some (.int z.1)) z.2) args s 0 0 (gA g)) 0 [(0, .ref (gAd g a0)), (1, .ref (gAd g a1)), (2, .int i2), (3, .int i3), (4, .int i4)] [] M
  refine v_iconst (v := 0) F dX10_lineBy_0 (by decide) ?_
  refine v_istore (lv' := [(5, .int 0), (0, .ref (gAd g a0)), (1, .ref (gAd g a1)), (2, .int i2), (3, .int i3), (4, .int i4)]) F dX10_lineBy_1 (by decide) rfl ?_
  refine v_sub (fun ls h9 => lv_sub h9 [1, 2, 3, 4, 5, 0] rfl) ?_
  exact w_X10_lineBy_h3 F hr hlk t0 t1 _ _ _ h
def f_X10_line  (M : Mem) (a0 : Nat) (i1 : Int32) (i2 : Int32) (i3 : Int32) : Option ((Int32 ⊕ Nat) × Mem) := (f_X10_lawNumbered M a0 i1).bind fun q => match q with | (.inr j4, M2) => some (.inr j4, M2) | (.inl r1, M2) => ((f_X10_demandShape M2 i2 i3).bind fun q => match q with | (.inr j9, M7) => some (.inr j9, M7) | (.inl r6, M7) => ((f_X1_copy M7 (gRf a0 9) (gRf (gRf a0 6) 0)).bind fun q => match q with | (r13, M14) => ((f_X10_lineBy M14 a0 r1 i2 i3 100).bind fun q => match q with | (r17, M18) => (some (.inl r17, M18)))))
set_option maxHeartbeats 4000000 in
set_option maxRecDepth 100000 in
theorem c_X10_line {g : gT} (l : Launch) (hst : l.stackTraces = false) (hok : gOK g) {a0 : Nat} {i1 : Int32} {i2 : Int32} {i3 : Int32} {M : Mem} {z : (Int32 ⊕ Nat) × Mem} (t0 : Ty g 10 a0) (h : f_X10_line M a0 i1 i2 i3 = some z) : Cx g l yX10_line uX10_line 8 2 12 [.ref (gAd g a0), .int i1, .int i2, .int i3] M vI z := by
  refine Cx.of (cc := cX10_line) (maxL := 5) (ret := (some .int)) hok (by decide) rfl (Nat.le_of_ble_eq_true rfl) (fun p e s m args below meth c F hr hlk hxt => ?_)
  unfold f_X10_line at h
  show V g p l e ({ frames := 8, cells := 2, slots := 12, locals := 40 * 8 } : Room) s m args below meth c 5 0 0 (vx_MQ below (gQx g vI z) (gXx g z) args s 2 12 (gA g)) 0 [(0, .ref (gAd g a0)), (1, .int i1), (2, .int i2), (3, .int i3)] [] M
  refine v_aload_n F dX10_line_0 rfl 0 rfl ?_
  refine v_iload_n F dX10_line_1 rfl 1 rfl ?_
  obtain ⟨⟨r1 | j4, M2⟩, hz3, h⟩ := bd_some h
  rotate_left
  · dsimp only at h; cases h; exact v_callVxT (As := [.int i1]) (rest := []) F (c_X10_lawNumbered l hst F.2.2.1 t0 hz3) (cwV 1 F.1.2.2.2.2 (gU_V ml_X10_135 im_yX10_lawNumbered se_yX10_lawNumbered ini_X10 cd_X10_lawNumbered) rfl rfl rfl (by decide +kernel) ⟨Nat.le_of_ble_eq_true rfl, Nat.le_of_ble_eq_true rfl⟩) t0 (by decide) rfl rfl rfl (Nat.le_of_ble_eq_true rfl) dX10_line_2 ⟨Nat.le_of_ble_eq_true rfl, Nat.le_of_ble_eq_true rfl⟩ (vx_outV hxt hlk (by decide) (by decide))
  dsimp only at h
  refine v_callVxr (As := [.int i1]) (rest := []) F (c_X10_lawNumbered l hst F.2.2.1 t0 hz3) (cwV 1 F.1.2.2.2.2 (gU_V ml_X10_135 im_yX10_lawNumbered se_yX10_lawNumbered ini_X10 cd_X10_lawNumbered) rfl rfl rfl (by decide +kernel) ⟨Nat.le_of_ble_eq_true rfl, Nat.le_of_ble_eq_true rfl⟩) t0 (by decide) rfl rfl rfl (Nat.le_of_ble_eq_true rfl) dX10_line_2 ⟨Nat.le_of_ble_eq_true rfl, Nat.le_of_ble_eq_true rfl⟩ ?_
  have u5 := ty_X10_lawNumbered F.2.2.1 t0 hz3
  refine v_astore (lv' := [(4, .ref (gAd g r1)), (0, .ref (gAd g a0)), (1, .int i1), (2, .int i2), (3, .int i3)]) F dX10_line_5 (by decide) rfl ?_
  refine v_iload_n F dX10_line_7 rfl 3 rfl ?_
  refine v_iload_n F dX10_line_8 rfl 4 rfl ?_
  obtain ⟨⟨r6 | j9, M7⟩, hz8, h⟩ := bd_some h
  rotate_left
  · dsimp only at h; cases h; exact v_callSxT (As := [.int i2, .int i3]) (rest := []) F (c_X10_demandShape l hst F.2.2.1  hz8) (cwS 2 F.1.2.2.2.2 (gU_S ml_X10_125 st_yX10_demandShape ini_X10 cd_X10_demandShape) rfl rfl rfl (by decide +kernel) ⟨Nat.le_of_ble_eq_true rfl, Nat.le_of_ble_eq_true rfl⟩) rfl rfl (Nat.le_of_ble_eq_true rfl) dX10_line_9 ⟨Nat.le_of_ble_eq_true rfl, Nat.le_of_ble_eq_true rfl⟩ (vx_outV hxt hlk (by decide) (by decide))
  dsimp only at h
  refine v_callSxv (As := [.int i2, .int i3]) (rest := []) F (c_X10_demandShape l hst F.2.2.1  hz8) (cwS 2 F.1.2.2.2.2 (gU_S ml_X10_125 st_yX10_demandShape ini_X10 cd_X10_demandShape) rfl rfl rfl (by decide +kernel) ⟨Nat.le_of_ble_eq_true rfl, Nat.le_of_ble_eq_true rfl⟩) rfl rfl (Nat.le_of_ble_eq_true rfl) dX10_line_9 ⟨Nat.le_of_ble_eq_true rfl, Nat.le_of_ble_eq_true rfl⟩ ?_
  refine v_aload_n F dX10_line_12 rfl 1 rfl ?_
  refine v_getR (k := 9) (f := 1) F t0 (by decide) (inc inU_10) rfl rfl (by decide) (by decide) (List.mem_cons_of_mem _ fl_X10_49) rfl dX10_line_13 (fun u10 => ?_)
  refine v_aload_n F dX10_line_16 rfl 1 rfl ?_
  refine v_getR (k := 6) (f := 7) F t0 (by decide) (inc inU_10) rfl rfl (by decide) (by decide) (List.mem_cons_of_mem _ fl_X10_38) rfl dX10_line_17 (fun u11 => ?_)
  refine v_getR (k := 0) (f := 1) F u11 (by decide) (inc inU_7) rfl rfl (by decide) (by decide) (List.mem_cons_of_mem _ fl_X10_93) rfl dX10_line_20 (fun u12 => ?_)
  obtain ⟨⟨r13, M14⟩, hz15, h⟩ := bd_some h
  dsimp only at h
  refine v_callVv (As := [.ref (gAd g (gRf (gRf a0 6) 0))]) (rest := []) F (c_X1_copy l F.2.2.1 u10 u12 hz15) (cwV 1 F.1.2.2.2.2 (gU_V ml_X10_182 im_yX1_copy se_yX1_copy ini_X1 cd_X1_copy) rfl rfl rfl (by decide +kernel) ⟨Nat.le_of_ble_eq_true rfl, Nat.le_of_ble_eq_true rfl⟩) u10 (by decide) rfl rfl rfl (Nat.le_of_ble_eq_true rfl) dX10_line_23 ⟨Nat.le_of_ble_eq_true rfl, Nat.le_of_ble_eq_true rfl⟩ ?_
  refine v_aload_n F dX10_line_26 rfl 1 rfl ?_
  refine v_aload F dX10_line_27 0 rfl ?_
  refine v_iload_n F dX10_line_29 rfl 3 rfl ?_
  refine v_iload_n F dX10_line_30 rfl 4 rfl ?_
  refine v_bipush (v := 100) F dX10_line_31 (by decide) ?_
  obtain ⟨⟨r17, M18⟩, hz19, h⟩ := bd_some h
  dsimp only at h
  refine v_callVi (As := [.ref (gAd g r1), .int i2, .int i3, .int 100]) (rest := []) F (c_X10_lineBy l F.2.2.1 t0 u5 hz19) (cwV 4 F.1.2.2.2.2 (gU_V ml_X10_190 im_yX10_lineBy se_yX10_lineBy ini_X10 cd_X10_lineBy) rfl rfl rfl (by decide +kernel) ⟨Nat.le_of_ble_eq_true rfl, Nat.le_of_ble_eq_true rfl⟩) t0 (by decide) rfl rfl rfl (Nat.le_of_ble_eq_true rfl) dX10_line_33 ⟨Nat.le_of_ble_eq_true rfl, Nat.le_of_ble_eq_true rfl⟩ ?_
  cases h
  refine v_iretX F hr rfl hlk dX10_line_36 ?_ ?_ <;> decide
def f_X10_why_b134 (a0 : Nat) (i1 : Int32) (i2 : Int32) (i3 : Int32) (i4 : Int32)  (s0 : Int32) (s1 : Int32) (M : Mem) : Option ((Int32 ⊕ Nat) × Mem) := some (.inl (s0 + s1), M)
def f_X10_why_b124 (a0 : Nat) (i1 : Int32) (i2 : Int32) (i3 : Int32) (i4 : Int32)  (s0 : Int32) (x7 : Int32) (M : Mem) : Option ((Int32 ⊕ Nat) × Mem) := if x7 = 0 then (f_X10_why_b134 a0 i1 i2 i3 i4 s0 0 M) else (f_X10_why_b134 a0 i1 i2 i3 i4 s0 2 M)
def f_X10_why_b112 (a0 : Nat) (i1 : Int32) (i2 : Int32) (i3 : Int32) (i4 : Int32)  (s0 : Int32) (x6 : Int32) (M : Mem) : Option ((Int32 ⊕ Nat) × Mem) := if x6 = 0 then (f_X10_why_b124 a0 i1 i2 i3 i4 0 s0 M) else (f_X10_why_b124 a0 i1 i2 i3 i4 1 s0 M)
def f_X10_why_b111 (a0 : Nat) (i1 : Int32) (i2 : Int32) (i3 : Int32) (i4 : Int32)  (x6 : Int32) (M : Mem) : Option ((Int32 ⊕ Nat) × Mem) := f_X10_why_b112 a0 i1 i2 i3 i4 0 x6 M
def f_X10_why_b71 (a0 : Nat) (i1 : Int32) (i2 : Int32) (i3 : Int32) (i4 : Int32)  (s0 : Int32) (y5 : Nat) (M : Mem) : Option ((Int32 ⊕ Nat) × Mem) := (f_X10_trialGrows M a0 y5 i2 i3 i4 1 100).bind fun q => match q with | (r31, M32) => (if r31 = 0 then (f_X10_why_b111 a0 i1 i2 i3 i4 s0 M32) else ((f_X10_trialGrows M32 a0 y5 i2 i3 i4 1000 100).bind fun q => match q with | (r36, M37) => (if r36 = 0 then (f_X10_why_b112 a0 i1 i2 i3 i4 1 s0 M37) else (f_X10_why_b111 a0 i1 i2 i3 i4 s0 M37))))
def f_X10_why_b70 (a0 : Nat) (i1 : Int32) (i2 : Int32) (i3 : Int32) (i4 : Int32)  (y5 : Nat) (M : Mem) : Option ((Int32 ⊕ Nat) × Mem) := f_X10_why_b71 a0 i1 i2 i3 i4 0 y5 M
def f_X10_why  (M : Mem) (a0 : Nat) (i1 : Int32) (i2 : Int32) (i3 : Int32) (i4 : Int32) : Option ((Int32 ⊕ Nat) × Mem) := (f_X10_lawNumbered M a0 i1).bind fun q => match q with | (.inr j4, M2) => some (.inr j4, M2) | (.inl r1, M2) => ((f_X10_demandWind M2 i2).bind fun q => match q with | (.inr j9, M7) => some (.inr j9, M7) | (.inl r6, M7) => ((f_X10_demandShape M7 i3 i4).bind fun q => match q with | (.inr j13, M11) => some (.inr j13, M11) | (.inl r10, M11) => ((f_X1_copy M11 (gRf a0 9) (gRf (gRf a0 6) 0)).bind fun q => match q with | (r17, M18) => ((f_X10_trialGrows M18 a0 r1 i2 i3 i4 100 100).bind fun q => match q with | (r21, M22) => (if r21 = 0 then (f_X10_why_b70 a0 i1 i2 i3 i4 r1 M22) else ((f_X10_trialGrows M22 a0 r1 i2 i3 i4 200 100).bind fun q => match q with | (r26, M27) => (if r26 = 0 then (f_X10_why_b70 a0 i1 i2 i3 i4 r1 M27) else (f_X10_why_b71 a0 i1 i2 i3 i4 1 r1 M27))))))))
set_option maxHeartbeats 4000000 in
set_option maxRecDepth 100000 in
theorem w_X10_why_b134 {g : gT} {p : Program} {l : Launch} {e : Env} {s : State} {m : MethodId} {args : Array Value} {below : List Frame} {meth : Method} {c : Code} {z : (Int32 ⊕ Nat) × Mem} (F : Fx g p s m args c cX10_why 8 uX10_why RX10) (hr : meth.sig.returnType = (some .int)) (hlk : meth.locks = false) (hxt : ∀ x ∈ c.exceptionTable.toList, False) (hst : l.stackTraces = false)  {a0 : Nat} {i1 : Int32} {i2 : Int32} {i3 : Int32} {i4 : Int32} (t0 : Ty g 10 a0)   (s0 : Int32) (s1 : Int32) (M : Mem)  (h : f_X10_why_b134 a0 i1 i2 i3 i4 s0 s1 M = some z) : V g p l e ({ frames := 8, cells := 3, slots := 18, locals := 40 * 8 } : Room) s m args below meth c 8 3 18 (vx_MQ below (gQx g vI z) (gXx g z) args s 3 18 (gA g)) 134 [(0, .ref (gAd g a0)), (1, .int i1), (2, .int i2), (3, .int i3), (4, .int i4)] [.int s1, .int s0] M := by
  unfold f_X10_why_b134 at h
  refine v_iadd F dX10_why_134 ?_
  cases h
  refine v_iretX F hr rfl hlk dX10_why_135 ?_ ?_ <;> decide
set_option maxHeartbeats 4000000 in
set_option maxRecDepth 100000 in
theorem w_X10_why_b124 {g : gT} {p : Program} {l : Launch} {e : Env} {s : State} {m : MethodId} {args : Array Value} {below : List Frame} {meth : Method} {c : Code} {z : (Int32 ⊕ Nat) × Mem} (F : Fx g p s m args c cX10_why 8 uX10_why RX10) (hr : meth.sig.returnType = (some .int)) (hlk : meth.locks = false) (hxt : ∀ x ∈ c.exceptionTable.toList, False) (hst : l.stackTraces = false)  {a0 : Nat} {i1 : Int32} {i2 : Int32} {i3 : Int32} {i4 : Int32} (t0 : Ty g 10 a0)   (s0 : Int32) (x7 : Int32) (M : Mem)  (h : f_X10_why_b124 a0 i1 i2 i3 i4 s0 x7 M = some z) : V g p l e ({ frames := 8, cells := 3, slots := 18, locals := 40 * 8 } : Room) s m args below meth c 8 3 18 (vx_MQ below (gQx g vI z) (gXx g z) args s 3 18 (gA g)) 124 [(0, .ref (gAd g a0)), (1, .int i1), (2, .int i2), (3, .int i3), (4, .int i4), (7, .int x7)] [.int s0] M := by
  unfold f_X10_why_b124 at h
  refine v_iload F dX10_why_124 5 rfl ?_
  refine v_if_eq (tgt := 133) F dX10_why_126 (by decide) (fun hc42 => ?_) (fun hc42 => ?_)
  · rw [if_pos hc42] at h
    refine v_iconst (v := 0) F dX10_why_133 (by decide) ?_
    refine v_sub (fun ls h9 => lv_sub h9 [0, 1, 2, 3, 4] rfl) ?_
    exact w_X10_why_b134 F hr hlk hxt hst t0 _ _ _ h
  · rw [if_neg hc42] at h
    refine v_iconst (v := 2) F dX10_why_129 (by decide) ?_
    refine v_goto (tgt := 134) F dX10_why_130 (by decide) ?_
    refine v_sub (fun ls h9 => lv_sub h9 [0, 1, 2, 3, 4] rfl) ?_
    exact w_X10_why_b134 F hr hlk hxt hst t0 _ _ _ h
set_option maxHeartbeats 4000000 in
set_option maxRecDepth 100000 in
theorem w_X10_why_b112 {g : gT} {p : Program} {l : Launch} {e : Env} {s : State} {m : MethodId} {args : Array Value} {below : List Frame} {meth : Method} {c : Code} {z : (Int32 ⊕ Nat) × Mem} (F : Fx g p s m args c cX10_why 8 uX10_why RX10) (hr : meth.sig.returnType = (some .int)) (hlk : meth.locks = false) (hxt : ∀ x ∈ c.exceptionTable.toList, False) (hst : l.stackTraces = false)  {a0 : Nat} {i1 : Int32} {i2 : Int32} {i3 : Int32} {i4 : Int32} (t0 : Ty g 10 a0)   (s0 : Int32) (x6 : Int32) (M : Mem)  (h : f_X10_why_b112 a0 i1 i2 i3 i4 s0 x6 M = some z) : V g p l e ({ frames := 8, cells := 3, slots := 18, locals := 40 * 8 } : Room) s m args below meth c 8 3 18 (vx_MQ below (gQx g vI z) (gXx g z) args s 3 18 (gA g)) 112 [(0, .ref (gAd g a0)), (1, .int i1), (2, .int i2), (3, .int i3), (4, .int i4), (6, .int x6)] [.int s0] M := by
  unfold f_X10_why_b112 at h
  refine v_istore (lv' := [(7, .int s0), (0, .ref (gAd g a0)), (1, .int i1), (2, .int i2), (3, .int i3), (4, .int i4), (6, .int x6)]) F dX10_why_112 (by decide) rfl ?_
  refine v_iload F dX10_why_114 6 rfl ?_
  refine v_if_eq (tgt := 123) F dX10_why_116 (by decide) (fun hc41 => ?_) (fun hc41 => ?_)
  · rw [if_pos hc41] at h
    refine v_iconst (v := 0) F dX10_why_123 (by decide) ?_
    refine v_sub (fun ls h9 => lv_sub h9 [1, 2, 3, 4, 5, 0] rfl) ?_
    exact w_X10_why_b124 F hr hlk hxt hst t0 _ _ _ h
  · rw [if_neg hc41] at h
    refine v_iconst (v := 1) F dX10_why_119 (by decide) ?_
    refine v_goto (tgt := 124) F dX10_why_120 (by decide) ?_
    refine v_sub (fun ls h9 => lv_sub h9 [1, 2, 3, 4, 5, 0] rfl) ?_
    exact w_X10_why_b124 F hr hlk hxt hst t0 _ _ _ h
set_option maxHeartbeats 4000000 in
set_option maxRecDepth 100000 in
theorem w_X10_why_b111 {g : gT} {p : Program} {l : Launch} {e : Env} {s : State} {m : MethodId} {args : Array Value} {below : List Frame} {meth : Method} {c : Code} {z : (Int32 ⊕ Nat) × Mem} (F : Fx g p s m args c cX10_why 8 uX10_why RX10) (hr : meth.sig.returnType = (some .int)) (hlk : meth.locks = false) (hxt : ∀ x ∈ c.exceptionTable.toList, False) (hst : l.stackTraces = false)  {a0 : Nat} {i1 : Int32} {i2 : Int32} {i3 : Int32} {i4 : Int32} (t0 : Ty g 10 a0)   (x6 : Int32) (M : Mem)  (h : f_X10_why_b111 a0 i1 i2 i3 i4 x6 M = some z) : V g p l e ({ frames := 8, cells := 3, slots := 18, locals := 40 * 8 } : Room) s m args below meth c 8 3 18 (vx_MQ below (gQx g vI z) (gXx g z) args s 3 18 (gA g)) 111 [(0, .ref (gAd g a0)), (1, .int i1), (2, .int i2), (3, .int i3), (4, .int i4), (6, .int x6)] [] M := by
  unfold f_X10_why_b111 at h
  refine v_iconst (v := 0) F dX10_why_111 (by decide) ?_
  exact w_X10_why_b112 F hr hlk hxt hst t0 _ _ _ h
set_option maxHeartbeats 4000000 in
set_option maxRecDepth 100000 in
theorem w_X10_why_b71 {g : gT} {p : Program} {l : Launch} {e : Env} {s : State} {m : MethodId} {args : Array Value} {below : List Frame} {meth : Method} {c : Code} {z : (Int32 ⊕ Nat) × Mem} (F : Fx g p s m args c cX10_why 8 uX10_why RX10) (hr : meth.sig.returnType = (some .int)) (hlk : meth.locks = false) (hxt : ∀ x ∈ c.exceptionTable.toList, False) (hst : l.stackTraces = false)  {a0 : Nat} {i1 : Int32} {i2 : Int32} {i3 : Int32} {i4 : Int32} (t0 : Ty g 10 a0)   (s0 : Int32) (y5 : Nat) (M : Mem) (ty5 : Ty g 3 y5) (h : f_X10_why_b71 a0 i1 i2 i3 i4 s0 y5 M = some z) : V g p l e ({ frames := 8, cells := 3, slots := 18, locals := 40 * 8 } : Room) s m args below meth c 8 3 18 (vx_MQ below (gQx g vI z) (gXx g z) args s 3 18 (gA g)) 71 [(0, .ref (gAd g a0)), (1, .int i1), (2, .int i2), (3, .int i3), (4, .int i4), (5, .ref (gAd g y5))] [.int s0] M := by
  unfold f_X10_why_b71 at h
  refine v_istore (lv' := [(6, .int s0), (0, .ref (gAd g a0)), (1, .int i1), (2, .int i2), (3, .int i3), (4, .int i4), (5, .ref (gAd g y5))]) F dX10_why_71 (by decide) rfl ?_
  refine v_aload_n F dX10_why_73 rfl 1 rfl ?_
  refine v_aload F dX10_why_74 6 rfl ?_
  refine v_iload_n F dX10_why_76 rfl 3 rfl ?_
  refine v_iload_n F dX10_why_77 rfl 4 rfl ?_
  refine v_iload F dX10_why_78 5 rfl ?_
  refine v_iconst (v := 1) F dX10_why_80 (by decide) ?_
  refine v_bipush (v := 100) F dX10_why_81 (by decide) ?_
  obtain ⟨⟨r31, M32⟩, hz33, h⟩ := bd_some h
  dsimp only at h
  refine v_callVi (As := [.ref (gAd g y5), .int i2, .int i3, .int i4, .int 1, .int 100]) (rest := []) F (c_X10_trialGrows l F.2.2.1 t0 ty5 hz33) (cwV 6 F.1.2.2.2.2 (gU_V ml_X10_186 im_yX10_trialGrows se_yX10_trialGrows ini_X10 cd_X10_trialGrows) rfl rfl rfl (by decide +kernel) ⟨Nat.le_of_ble_eq_true rfl, Nat.le_of_ble_eq_true rfl⟩) t0 (by decide) rfl rfl rfl (Nat.le_of_ble_eq_true rfl) dX10_why_83 ⟨Nat.le_of_ble_eq_true rfl, Nat.le_of_ble_eq_true rfl⟩ ?_
  refine v_if_eq (tgt := 111) F dX10_why_86 (by decide) (fun hc35 => ?_) (fun hc35 => ?_)
  · rw [if_pos hc35] at h
    refine v_sub (fun ls h9 => lv_sub h9 [1, 2, 3, 4, 5, 0] rfl) ?_
    exact w_X10_why_b111 F hr hlk hxt hst t0 _ _ h
  · rw [if_neg hc35] at h
    refine v_aload_n F dX10_why_89 rfl 1 rfl ?_
    refine v_aload F dX10_why_90 6 rfl ?_
    refine v_iload_n F dX10_why_92 rfl 3 rfl ?_
    refine v_iload_n F dX10_why_93 rfl 4 rfl ?_
    refine v_iload F dX10_why_94 5 rfl ?_
    refine v_sipush (v := 1000) F dX10_why_96 (by decide) ?_
    refine v_bipush (v := 100) F dX10_why_99 (by decide) ?_
    obtain ⟨⟨r36, M37⟩, hz38, h⟩ := bd_some h
    dsimp only at h
    refine v_callVi (As := [.ref (gAd g y5), .int i2, .int i3, .int i4, .int 1000, .int 100]) (rest := []) F (c_X10_trialGrows l F.2.2.1 t0 ty5 hz38) (cwV 6 F.1.2.2.2.2 (gU_V ml_X10_186 im_yX10_trialGrows se_yX10_trialGrows ini_X10 cd_X10_trialGrows) rfl rfl rfl (by decide +kernel) ⟨Nat.le_of_ble_eq_true rfl, Nat.le_of_ble_eq_true rfl⟩) t0 (by decide) rfl rfl rfl (Nat.le_of_ble_eq_true rfl) dX10_why_101 ⟨Nat.le_of_ble_eq_true rfl, Nat.le_of_ble_eq_true rfl⟩ ?_
    refine v_if_ne (tgt := 111) F dX10_why_104 (by decide) (fun hc40 => ?_) (fun hc40 => ?_)
    · rw [if_neg hc40] at h
      refine v_sub (fun ls h9 => lv_sub h9 [1, 2, 3, 4, 5, 0] rfl) ?_
      exact w_X10_why_b111 F hr hlk hxt hst t0 _ _ h
    · rw [if_pos hc40] at h
      refine v_iconst (v := 1) F dX10_why_107 (by decide) ?_
      refine v_goto (tgt := 112) F dX10_why_108 (by decide) ?_
      refine v_sub (fun ls h9 => lv_sub h9 [1, 2, 3, 4, 5, 0] rfl) ?_
      exact w_X10_why_b112 F hr hlk hxt hst t0 _ _ _ h
set_option maxHeartbeats 4000000 in
set_option maxRecDepth 100000 in
theorem w_X10_why_b70 {g : gT} {p : Program} {l : Launch} {e : Env} {s : State} {m : MethodId} {args : Array Value} {below : List Frame} {meth : Method} {c : Code} {z : (Int32 ⊕ Nat) × Mem} (F : Fx g p s m args c cX10_why 8 uX10_why RX10) (hr : meth.sig.returnType = (some .int)) (hlk : meth.locks = false) (hxt : ∀ x ∈ c.exceptionTable.toList, False) (hst : l.stackTraces = false)  {a0 : Nat} {i1 : Int32} {i2 : Int32} {i3 : Int32} {i4 : Int32} (t0 : Ty g 10 a0)   (y5 : Nat) (M : Mem) (ty5 : Ty g 3 y5) (h : f_X10_why_b70 a0 i1 i2 i3 i4 y5 M = some z) : V g p l e ({ frames := 8, cells := 3, slots := 18, locals := 40 * 8 } : Room) s m args below meth c 8 3 18 (vx_MQ below (gQx g vI z) (gXx g z) args s 3 18 (gA g)) 70 [(0, .ref (gAd g a0)), (1, .int i1), (2, .int i2), (3, .int i3), (4, .int i4), (5, .ref (gAd g y5))] [] M := by
  unfold f_X10_why_b70 at h
  refine v_iconst (v := 0) F dX10_why_70 (by decide) ?_
  exact w_X10_why_b71 F hr hlk hxt hst t0 _ _ _ ty5 h
set_option maxHeartbeats 4000000 in
set_option maxRecDepth 100000 in
theorem c_X10_why {g : gT} (l : Launch) (hst : l.stackTraces = false) (hok : gOK g) {a0 : Nat} {i1 : Int32} {i2 : Int32} {i3 : Int32} {i4 : Int32} {M : Mem} {z : (Int32 ⊕ Nat) × Mem} (t0 : Ty g 10 a0) (h : f_X10_why M a0 i1 i2 i3 i4 = some z) : Cx g l yX10_why uX10_why 8 3 18 [.ref (gAd g a0), .int i1, .int i2, .int i3, .int i4] M vI z := by
  refine Cx.of (cc := cX10_why) (maxL := 8) (ret := (some .int)) hok (by decide) rfl (Nat.le_of_ble_eq_true rfl) (fun p e s m args below meth c F hr hlk hxt => ?_)
  unfold f_X10_why at h
  show V g p l e ({ frames := 8, cells := 3, slots := 18, locals := 40 * 8 } : Room) s m args below meth c 8 0 0 (vx_MQ below (gQx g vI z) (gXx g z) args s 3 18 (gA g)) 0 [(0, .ref (gAd g a0)), (1, .int i1), (2, .int i2), (3, .int i3), (4, .int i4)] [] M
  refine v_aload_n F dX10_why_0 rfl 0 rfl ?_
  refine v_iload_n F dX10_why_1 rfl 1 rfl ?_
  obtain ⟨⟨r1 | j4, M2⟩, hz3, h⟩ := bd_some h
  rotate_left
  · dsimp only at h; cases h; exact v_callVxT (As := [.int i1]) (rest := []) F (c_X10_lawNumbered l hst F.2.2.1 t0 hz3) (cwV 1 F.1.2.2.2.2 (gU_V ml_X10_135 im_yX10_lawNumbered se_yX10_lawNumbered ini_X10 cd_X10_lawNumbered) rfl rfl rfl (by decide +kernel) ⟨Nat.le_of_ble_eq_true rfl, Nat.le_of_ble_eq_true rfl⟩) t0 (by decide) rfl rfl rfl (Nat.le_of_ble_eq_true rfl) dX10_why_2 ⟨Nat.le_of_ble_eq_true rfl, Nat.le_of_ble_eq_true rfl⟩ (vx_outV hxt hlk (by decide) (by decide))
  dsimp only at h
  refine v_callVxr (As := [.int i1]) (rest := []) F (c_X10_lawNumbered l hst F.2.2.1 t0 hz3) (cwV 1 F.1.2.2.2.2 (gU_V ml_X10_135 im_yX10_lawNumbered se_yX10_lawNumbered ini_X10 cd_X10_lawNumbered) rfl rfl rfl (by decide +kernel) ⟨Nat.le_of_ble_eq_true rfl, Nat.le_of_ble_eq_true rfl⟩) t0 (by decide) rfl rfl rfl (Nat.le_of_ble_eq_true rfl) dX10_why_2 ⟨Nat.le_of_ble_eq_true rfl, Nat.le_of_ble_eq_true rfl⟩ ?_
  have u5 := ty_X10_lawNumbered F.2.2.1 t0 hz3
  refine v_astore (lv' := [(5, .ref (gAd g r1)), (0, .ref (gAd g a0)), (1, .int i1), (2, .int i2), (3, .int i3), (4, .int i4)]) F dX10_why_5 (by decide) rfl ?_
  refine v_iload_n F dX10_why_7 rfl 3 rfl ?_
  obtain ⟨⟨r6 | j9, M7⟩, hz8, h⟩ := bd_some h
  rotate_left
  · dsimp only at h; cases h; exact v_callSxT (As := [.int i2]) (rest := []) F (c_X10_demandWind l hst F.2.2.1  hz8) (cwS 1 F.1.2.2.2.2 (gU_S ml_X10_139 st_yX10_demandWind ini_X10 cd_X10_demandWind) rfl rfl rfl (by decide +kernel) ⟨Nat.le_of_ble_eq_true rfl, Nat.le_of_ble_eq_true rfl⟩) rfl rfl (Nat.le_of_ble_eq_true rfl) dX10_why_8 ⟨Nat.le_of_ble_eq_true rfl, Nat.le_of_ble_eq_true rfl⟩ (vx_outV hxt hlk (by decide) (by decide))
  dsimp only at h
  refine v_callSxv (As := [.int i2]) (rest := []) F (c_X10_demandWind l hst F.2.2.1  hz8) (cwS 1 F.1.2.2.2.2 (gU_S ml_X10_139 st_yX10_demandWind ini_X10 cd_X10_demandWind) rfl rfl rfl (by decide +kernel) ⟨Nat.le_of_ble_eq_true rfl, Nat.le_of_ble_eq_true rfl⟩) rfl rfl (Nat.le_of_ble_eq_true rfl) dX10_why_8 ⟨Nat.le_of_ble_eq_true rfl, Nat.le_of_ble_eq_true rfl⟩ ?_
  refine v_iload_n F dX10_why_11 rfl 4 rfl ?_
  refine v_iload F dX10_why_12 5 rfl ?_
  obtain ⟨⟨r10 | j13, M11⟩, hz12, h⟩ := bd_some h
  rotate_left
  · dsimp only at h; cases h; exact v_callSxT (As := [.int i3, .int i4]) (rest := []) F (c_X10_demandShape l hst F.2.2.1  hz12) (cwS 2 F.1.2.2.2.2 (gU_S ml_X10_125 st_yX10_demandShape ini_X10 cd_X10_demandShape) rfl rfl rfl (by decide +kernel) ⟨Nat.le_of_ble_eq_true rfl, Nat.le_of_ble_eq_true rfl⟩) rfl rfl (Nat.le_of_ble_eq_true rfl) dX10_why_14 ⟨Nat.le_of_ble_eq_true rfl, Nat.le_of_ble_eq_true rfl⟩ (vx_outV hxt hlk (by decide) (by decide))
  dsimp only at h
  refine v_callSxv (As := [.int i3, .int i4]) (rest := []) F (c_X10_demandShape l hst F.2.2.1  hz12) (cwS 2 F.1.2.2.2.2 (gU_S ml_X10_125 st_yX10_demandShape ini_X10 cd_X10_demandShape) rfl rfl rfl (by decide +kernel) ⟨Nat.le_of_ble_eq_true rfl, Nat.le_of_ble_eq_true rfl⟩) rfl rfl (Nat.le_of_ble_eq_true rfl) dX10_why_14 ⟨Nat.le_of_ble_eq_true rfl, Nat.le_of_ble_eq_true rfl⟩ ?_
  refine v_aload_n F dX10_why_17 rfl 1 rfl ?_
  refine v_getR (k := 9) (f := 1) F t0 (by decide) (inc inU_10) rfl rfl (by decide) (by decide) (List.mem_cons_of_mem _ fl_X10_49) rfl dX10_why_18 (fun u14 => ?_)
  refine v_aload_n F dX10_why_21 rfl 1 rfl ?_
  refine v_getR (k := 6) (f := 7) F t0 (by decide) (inc inU_10) rfl rfl (by decide) (by decide) (List.mem_cons_of_mem _ fl_X10_38) rfl dX10_why_22 (fun u15 => ?_)
  refine v_getR (k := 0) (f := 1) F u15 (by decide) (inc inU_7) rfl rfl (by decide) (by decide) (List.mem_cons_of_mem _ fl_X10_93) rfl dX10_why_25 (fun u16 => ?_)
  obtain ⟨⟨r17, M18⟩, hz19, h⟩ := bd_some h
  dsimp only at h
  refine v_callVv (As := [.ref (gAd g (gRf (gRf a0 6) 0))]) (rest := []) F (c_X1_copy l F.2.2.1 u14 u16 hz19) (cwV 1 F.1.2.2.2.2 (gU_V ml_X10_182 im_yX1_copy se_yX1_copy ini_X1 cd_X1_copy) rfl rfl rfl (by decide +kernel) ⟨Nat.le_of_ble_eq_true rfl, Nat.le_of_ble_eq_true rfl⟩) u14 (by decide) rfl rfl rfl (Nat.le_of_ble_eq_true rfl) dX10_why_28 ⟨Nat.le_of_ble_eq_true rfl, Nat.le_of_ble_eq_true rfl⟩ ?_
  refine v_aload_n F dX10_why_31 rfl 1 rfl ?_
  refine v_aload F dX10_why_32 0 rfl ?_
  refine v_iload_n F dX10_why_34 rfl 3 rfl ?_
  refine v_iload_n F dX10_why_35 rfl 4 rfl ?_
  refine v_iload F dX10_why_36 5 rfl ?_
  refine v_bipush (v := 100) F dX10_why_38 (by decide) ?_
  refine v_bipush (v := 100) F dX10_why_40 (by decide) ?_
  obtain ⟨⟨r21, M22⟩, hz23, h⟩ := bd_some h
  dsimp only at h
  refine v_callVi (As := [.ref (gAd g r1), .int i2, .int i3, .int i4, .int 100, .int 100]) (rest := []) F (c_X10_trialGrows l F.2.2.1 t0 u5 hz23) (cwV 6 F.1.2.2.2.2 (gU_V ml_X10_186 im_yX10_trialGrows se_yX10_trialGrows ini_X10 cd_X10_trialGrows) rfl rfl rfl (by decide +kernel) ⟨Nat.le_of_ble_eq_true rfl, Nat.le_of_ble_eq_true rfl⟩) t0 (by decide) rfl rfl rfl (Nat.le_of_ble_eq_true rfl) dX10_why_42 ⟨Nat.le_of_ble_eq_true rfl, Nat.le_of_ble_eq_true rfl⟩ ?_
  refine v_if_eq (tgt := 70) F dX10_why_45 (by decide) (fun hc25 => ?_) (fun hc25 => ?_)
  · rw [if_pos hc25] at h
    refine v_sub (fun ls h9 => lv_sub h9 [1, 2, 3, 4, 5, 0] rfl) ?_
    exact w_X10_why_b70 F hr hlk hxt hst t0 _ _ u5 h
  · rw [if_neg hc25] at h
    refine v_aload_n F dX10_why_48 rfl 1 rfl ?_
    refine v_aload F dX10_why_49 0 rfl ?_
    refine v_iload_n F dX10_why_51 rfl 3 rfl ?_
    refine v_iload_n F dX10_why_52 rfl 4 rfl ?_
    refine v_iload F dX10_why_53 5 rfl ?_
    refine v_sipush (v := 200) F dX10_why_55 (by decide) ?_
    refine v_bipush (v := 100) F dX10_why_58 (by decide) ?_
    obtain ⟨⟨r26, M27⟩, hz28, h⟩ := bd_some h
    dsimp only at h
    refine v_callVi (As := [.ref (gAd g r1), .int i2, .int i3, .int i4, .int 200, .int 100]) (rest := []) F (c_X10_trialGrows l F.2.2.1 t0 u5 hz28) (cwV 6 F.1.2.2.2.2 (gU_V ml_X10_186 im_yX10_trialGrows se_yX10_trialGrows ini_X10 cd_X10_trialGrows) rfl rfl rfl (by decide +kernel) ⟨Nat.le_of_ble_eq_true rfl, Nat.le_of_ble_eq_true rfl⟩) t0 (by decide) rfl rfl rfl (Nat.le_of_ble_eq_true rfl) dX10_why_60 ⟨Nat.le_of_ble_eq_true rfl, Nat.le_of_ble_eq_true rfl⟩ ?_
    refine v_if_eq (tgt := 70) F dX10_why_63 (by decide) (fun hc30 => ?_) (fun hc30 => ?_)
    · rw [if_pos hc30] at h
      refine v_sub (fun ls h9 => lv_sub h9 [1, 2, 3, 4, 5, 0] rfl) ?_
      exact w_X10_why_b70 F hr hlk hxt hst t0 _ _ u5 h
    · rw [if_neg hc30] at h
      refine v_iconst (v := 1) F dX10_why_66 (by decide) ?_
      refine v_goto (tgt := 71) F dX10_why_67 (by decide) ?_
      refine v_sub (fun ls h9 => lv_sub h9 [1, 2, 3, 4, 5, 0] rfl) ?_
      exact w_X10_why_b71 F hr hlk hxt hst t0 _ _ _ u5 h
def f_X10_runTillBroken_h29 (a0 : Nat) (a1 : Nat) (i2 : Int32) (i3 : Int32) (i4 : Int32) (i5 : Int32)  : Nat → Int32 → Mem → Option (Int32 × Mem)
  | 0, _, _ => none
  | n + 1, x6, M => if 60 < x6 then (some ((-1), M)) else ((f_X1_tick M (gRf a0 9) a1 i2 100).bind fun q => match q with | (r15, M16) => ((f_X1_leastBroken M16 (gRf a0 9) i5).bind fun q => match q with | (r20, M21) => (if r20 = (-1) then ((f_X10_runTillBroken_h29 a0 a1 i2 i3 i4 i5 n) (x6 + 1) M21) else (some (x6, M21)))))
def f_X10_runTillBroken  (M : Mem) (a0 : Nat) (a1 : Nat) (i2 : Int32) (i3 : Int32) (i4 : Int32) (i5 : Int32) : Option (Int32 × Mem) := (f_X1_copy M (gRf a0 9) (gRf (gRf a0 6) 0)).bind fun q => match q with | (r4, M5) => ((f_X1_begin M5 (gRf a0 9) i3 i4 100).bind fun q => match q with | (r9, M10) => (f_X10_runTillBroken_h29 a0 a1 i2 i3 i4 i5 FU 1 M10))
set_option maxHeartbeats 4000000 in
set_option maxRecDepth 100000 in
theorem w_X10_runTillBroken_h29 {g : gT} {p : Program} {l : Launch} {e : Env} {s : State} {m : MethodId} {args : Array Value} {below : List Frame} {meth : Method} {c : Code} {z : Int32 × Mem} (F : Fx g p s m args c cX10_runTillBroken 7 uX10_runTillBroken RX10) (hr : meth.sig.returnType = (some .int)) (hlk : meth.locks = false)  {a0 : Nat} {a1 : Nat} {i2 : Int32} {i3 : Int32} {i4 : Int32} {i5 : Int32} (t0 : Ty g 10 a0) (t1 : Ty g 3 a1)   : ∀ (n : Nat) (x6 : Int32) (M : Mem), f_X10_runTillBroken_h29 a0 a1 i2 i3 i4 i5 n x6 M = some z → V g p l e ({ frames := 4, cells := 0, slots := 0, locals := 40 * 4 } : Room) s m args below meth c 7 0 0 (MQ below (gQ g (some (.int z.1)) z.2) args s 0 0 (gA g)) 29 [(0, .ref (gAd g a0)), (1, .ref (gAd g a1)), (2, .int i2), (3, .int i3), (4, .int i4), (5, .int i5), (6, .int x6)] [] M := by
  intro n
  induction n with
  | zero => intro x6 M; intros; rename_i h; cases h
  | succ n ih =>
    intro x6 M h
    rw [f_X10_runTillBroken_h29] at h
    refine v_iload F dX10_runTillBroken_29 6 rfl ?_
    refine v_bipush (v := 60) F dX10_runTillBroken_31 (by decide) ?_
    refine v_icmp_gt (tgt := 69) F dX10_runTillBroken_33 (by decide) (fun hc13 => ?_) (fun hc13 => ?_)
    · rw [if_pos hc13] at h
      refine v_iconst (v := (-1)) F dX10_runTillBroken_69 (by decide) ?_
      cases h
      exact v_iret F hr rfl hlk dX10_runTillBroken_70
    · rw [if_neg hc13] at h
      refine v_aload_n F dX10_runTillBroken_36 rfl 0 rfl ?_
      refine v_getR (k := 9) (f := 1) F t0 (by decide) (inc inU_10) rfl rfl (by decide) (by decide) (List.mem_cons_of_mem _ fl_X10_49) rfl dX10_runTillBroken_37 (fun u14 => ?_)
      refine v_aload_n F dX10_runTillBroken_40 rfl 1 rfl ?_
      refine v_iload_n F dX10_runTillBroken_41 rfl 2 rfl ?_
      refine v_bipush (v := 100) F dX10_runTillBroken_42 (by decide) ?_
      obtain ⟨⟨r15, M16⟩, hz17, h⟩ := bd_some h
      dsimp only at h
      refine v_callVv (As := [.ref (gAd g a1), .int i2, .int 100]) (rest := []) F (c_X1_tick l F.2.2.1 u14 t1 hz17) (cwV 3 F.1.2.2.2.2 (gU_V ml_X10_142 im_yX1_tick se_yX1_tick ini_X1 cd_X1_tick) rfl rfl rfl (by decide +kernel) ⟨Nat.le_of_ble_eq_true rfl, Nat.le_of_ble_eq_true rfl⟩) u14 (by decide) rfl rfl rfl (Nat.le_of_ble_eq_true rfl) dX10_runTillBroken_44 ⟨Nat.le_of_ble_eq_true rfl, Nat.le_of_ble_eq_true rfl⟩ ?_
      refine v_aload_n F dX10_runTillBroken_47 rfl 0 rfl ?_
      refine v_getR (k := 9) (f := 1) F t0 (by decide) (inc inU_10) rfl rfl (by decide) (by decide) (List.mem_cons_of_mem _ fl_X10_49) rfl dX10_runTillBroken_48 (fun u19 => ?_)
      refine v_iload F dX10_runTillBroken_51 5 rfl ?_
      obtain ⟨⟨r20, M21⟩, hz22, h⟩ := bd_some h
      dsimp only at h
      refine v_callVi (As := [.int i5]) (rest := []) F (c_X1_leastBroken l F.2.2.1 u19 hz22) (cwV 1 F.1.2.2.2.2 (gU_V ml_X10_198 im_yX1_leastBroken se_yX1_leastBroken ini_X1 cd_X1_leastBroken) rfl rfl rfl (by decide +kernel) ⟨Nat.le_of_ble_eq_true rfl, Nat.le_of_ble_eq_true rfl⟩) u19 (by decide) rfl rfl rfl (Nat.le_of_ble_eq_true rfl) dX10_runTillBroken_53 ⟨Nat.le_of_ble_eq_true rfl, Nat.le_of_ble_eq_true rfl⟩ ?_
      refine v_iconst (v := (-1)) F dX10_runTillBroken_56 (by decide) ?_
      refine v_icmp_eq (tgt := 63) F dX10_runTillBroken_57 (by decide) (fun hc24 => ?_) (fun hc24 => ?_)
      · rw [if_pos hc24] at h
        refine v_iinc (v := x6 + 1) (lv' := [(6, .int (x6 + 1)), (0, .ref (gAd g a0)), (1, .ref (gAd g a1)), (2, .int i2), (3, .int i3), (4, .int i4), (5, .int i5)]) F dX10_runTillBroken_63 (q := 6) rfl rfl (by decide) rfl ?_
        refine v_goto (tgt := 29) F dX10_runTillBroken_66 (by decide) ?_
        refine v_sub (fun ls h9 => lv_sub h9 [1, 2, 3, 4, 5, 6, 0] rfl) ?_
        exact ih _ _ h
      · rw [if_neg hc24] at h
        refine v_iload F dX10_runTillBroken_60 6 rfl ?_
        cases h
        exact v_iret F hr rfl hlk dX10_runTillBroken_62
set_option maxHeartbeats 4000000 in
set_option maxRecDepth 100000 in
theorem c_X10_runTillBroken {g : gT} (l : Launch) (hok : gOK g)  {a0 : Nat} {a1 : Nat} {i2 : Int32} {i3 : Int32} {i4 : Int32} {i5 : Int32} {M : Mem} {z : Int32 × Mem}  (t0 : Ty g 10 a0) (t1 : Ty g 3 a1) (h : f_X10_runTillBroken  M a0 a1 i2 i3 i4 i5 = some z) : Cn g l yX10_runTillBroken uX10_runTillBroken 4 [.ref (gAd g a0), .ref (gAd g a1), .int i2, .int i3, .int i4, .int i5] M (some (.int z.1)) z.2 := by
  refine Cn.of (cc := cX10_runTillBroken) (maxL := 7) (ret := (some .int)) hok (by decide) rfl (Nat.le_of_ble_eq_true rfl) (fun p e s m args below meth c F hr hlk => ?_)
  unfold f_X10_runTillBroken at h
  show V g p l e ({ frames := 4, cells := 0, slots := 0, locals := 40 * 4 } : Room) s m args below meth c 7 0 0 (MQ below (gQ g (some (.int z.1)) z.2) args s 0 0 (gA g)) 0 [(0, .ref (gAd g a0)), (1, .ref (gAd g a1)), (2, .int i2), (3, .int i3), (4, .int i4), (5, .int i5)] [] M
  refine v_aload_n F dX10_runTillBroken_0 rfl 0 rfl ?_
  refine v_getR (k := 9) (f := 1) F t0 (by decide) (inc inU_10) rfl rfl (by decide) (by decide) (List.mem_cons_of_mem _ fl_X10_49) rfl dX10_runTillBroken_1 (fun u1 => ?_)
  refine v_aload_n F dX10_runTillBroken_4 rfl 0 rfl ?_
  refine v_getR (k := 6) (f := 7) F t0 (by decide) (inc inU_10) rfl rfl (by decide) (by decide) (List.mem_cons_of_mem _ fl_X10_38) rfl dX10_runTillBroken_5 (fun u2 => ?_)
  refine v_getR (k := 0) (f := 1) F u2 (by decide) (inc inU_7) rfl rfl (by decide) (by decide) (List.mem_cons_of_mem _ fl_X10_93) rfl dX10_runTillBroken_8 (fun u3 => ?_)
  obtain ⟨⟨r4, M5⟩, hz6, h⟩ := bd_some h
  dsimp only at h
  refine v_callVv (As := [.ref (gAd g (gRf (gRf a0 6) 0))]) (rest := []) F (c_X1_copy l F.2.2.1 u1 u3 hz6) (cwV 1 F.1.2.2.2.2 (gU_V ml_X10_182 im_yX1_copy se_yX1_copy ini_X1 cd_X1_copy) rfl rfl rfl (by decide +kernel) ⟨Nat.le_of_ble_eq_true rfl, Nat.le_of_ble_eq_true rfl⟩) u1 (by decide) rfl rfl rfl (Nat.le_of_ble_eq_true rfl) dX10_runTillBroken_11 ⟨Nat.le_of_ble_eq_true rfl, Nat.le_of_ble_eq_true rfl⟩ ?_
  refine v_aload_n F dX10_runTillBroken_14 rfl 0 rfl ?_
  refine v_getR (k := 9) (f := 1) F t0 (by decide) (inc inU_10) rfl rfl (by decide) (by decide) (List.mem_cons_of_mem _ fl_X10_49) rfl dX10_runTillBroken_15 (fun u8 => ?_)
  refine v_iload_n F dX10_runTillBroken_18 rfl 3 rfl ?_
  refine v_iload F dX10_runTillBroken_19 4 rfl ?_
  refine v_bipush (v := 100) F dX10_runTillBroken_21 (by decide) ?_
  obtain ⟨⟨r9, M10⟩, hz11, h⟩ := bd_some h
  dsimp only at h
  refine v_callVv (As := [.int i3, .int i4, .int 100]) (rest := []) F (c_X1_begin l F.2.2.1 u8 hz11) (cwV 3 F.1.2.2.2.2 (gU_V ml_X10_217 im_yX1_begin se_yX1_begin ini_X1 cd_X1_begin) rfl rfl rfl (by decide +kernel) ⟨Nat.le_of_ble_eq_true rfl, Nat.le_of_ble_eq_true rfl⟩) u8 (by decide) rfl rfl rfl (Nat.le_of_ble_eq_true rfl) dX10_runTillBroken_23 ⟨Nat.le_of_ble_eq_true rfl, Nat.le_of_ble_eq_true rfl⟩ ?_
  refine v_iconst (v := 1) F dX10_runTillBroken_26 (by decide) ?_
  refine v_istore (lv' := [(6, .int 1), (0, .ref (gAd g a0)), (1, .ref (gAd g a1)), (2, .int i2), (3, .int i3), (4, .int i4), (5, .int i5)]) F dX10_runTillBroken_27 (by decide) rfl ?_
  refine v_sub (fun ls h9 => lv_sub h9 [1, 2, 3, 4, 5, 6, 0] rfl) ?_
  exact w_X10_runTillBroken_h29 F hr hlk t0 t1 _ _ _ h
def f_X10_first  (M : Mem) (a0 : Nat) (i1 : Int32) (i2 : Int32) (i3 : Int32) (i4 : Int32) (i5 : Int32) : Option ((Int32 ⊕ Nat) × Mem) := (f_X10_lawNumbered M a0 i1).bind fun q => match q with | (.inr j4, M2) => some (.inr j4, M2) | (.inl r1, M2) => ((f_X10_demandWind M2 i2).bind fun q => match q with | (.inr j9, M7) => some (.inr j9, M7) | (.inl r6, M7) => ((f_X10_demandShape M7 i3 i4).bind fun q => match q with | (.inr j13, M11) => some (.inr j13, M11) | (.inl r10, M11) => ((f_X10_runTillBroken M11 a0 r1 i2 i3 i4 i5).bind fun q => match q with | (r14, M15) => (some (.inl r14, M15)))))
set_option maxHeartbeats 4000000 in
set_option maxRecDepth 100000 in
theorem c_X10_first {g : gT} (l : Launch) (hst : l.stackTraces = false) (hok : gOK g) {a0 : Nat} {i1 : Int32} {i2 : Int32} {i3 : Int32} {i4 : Int32} {i5 : Int32} {M : Mem} {z : (Int32 ⊕ Nat) × Mem} (t0 : Ty g 10 a0) (h : f_X10_first M a0 i1 i2 i3 i4 i5 = some z) : Cx g l yX10_first uX10_first 8 3 18 [.ref (gAd g a0), .int i1, .int i2, .int i3, .int i4, .int i5] M vI z := by
  refine Cx.of (cc := cX10_first) (maxL := 7) (ret := (some .int)) hok (by decide) rfl (Nat.le_of_ble_eq_true rfl) (fun p e s m args below meth c F hr hlk hxt => ?_)
  unfold f_X10_first at h
  show V g p l e ({ frames := 8, cells := 3, slots := 18, locals := 40 * 8 } : Room) s m args below meth c 7 0 0 (vx_MQ below (gQx g vI z) (gXx g z) args s 3 18 (gA g)) 0 [(0, .ref (gAd g a0)), (1, .int i1), (2, .int i2), (3, .int i3), (4, .int i4), (5, .int i5)] [] M
  refine v_aload_n F dX10_first_0 rfl 0 rfl ?_
  refine v_iload_n F dX10_first_1 rfl 1 rfl ?_
  obtain ⟨⟨r1 | j4, M2⟩, hz3, h⟩ := bd_some h
  rotate_left
  · dsimp only at h; cases h; exact v_callVxT (As := [.int i1]) (rest := []) F (c_X10_lawNumbered l hst F.2.2.1 t0 hz3) (cwV 1 F.1.2.2.2.2 (gU_V ml_X10_135 im_yX10_lawNumbered se_yX10_lawNumbered ini_X10 cd_X10_lawNumbered) rfl rfl rfl (by decide +kernel) ⟨Nat.le_of_ble_eq_true rfl, Nat.le_of_ble_eq_true rfl⟩) t0 (by decide) rfl rfl rfl (Nat.le_of_ble_eq_true rfl) dX10_first_2 ⟨Nat.le_of_ble_eq_true rfl, Nat.le_of_ble_eq_true rfl⟩ (vx_outV hxt hlk (by decide) (by decide))
  dsimp only at h
  refine v_callVxr (As := [.int i1]) (rest := []) F (c_X10_lawNumbered l hst F.2.2.1 t0 hz3) (cwV 1 F.1.2.2.2.2 (gU_V ml_X10_135 im_yX10_lawNumbered se_yX10_lawNumbered ini_X10 cd_X10_lawNumbered) rfl rfl rfl (by decide +kernel) ⟨Nat.le_of_ble_eq_true rfl, Nat.le_of_ble_eq_true rfl⟩) t0 (by decide) rfl rfl rfl (Nat.le_of_ble_eq_true rfl) dX10_first_2 ⟨Nat.le_of_ble_eq_true rfl, Nat.le_of_ble_eq_true rfl⟩ ?_
  have u5 := ty_X10_lawNumbered F.2.2.1 t0 hz3
  refine v_astore (lv' := [(6, .ref (gAd g r1)), (0, .ref (gAd g a0)), (1, .int i1), (2, .int i2), (3, .int i3), (4, .int i4), (5, .int i5)]) F dX10_first_5 (by decide) rfl ?_
  refine v_iload_n F dX10_first_7 rfl 3 rfl ?_
  obtain ⟨⟨r6 | j9, M7⟩, hz8, h⟩ := bd_some h
  rotate_left
  · dsimp only at h; cases h; exact v_callSxT (As := [.int i2]) (rest := []) F (c_X10_demandWind l hst F.2.2.1  hz8) (cwS 1 F.1.2.2.2.2 (gU_S ml_X10_139 st_yX10_demandWind ini_X10 cd_X10_demandWind) rfl rfl rfl (by decide +kernel) ⟨Nat.le_of_ble_eq_true rfl, Nat.le_of_ble_eq_true rfl⟩) rfl rfl (Nat.le_of_ble_eq_true rfl) dX10_first_8 ⟨Nat.le_of_ble_eq_true rfl, Nat.le_of_ble_eq_true rfl⟩ (vx_outV hxt hlk (by decide) (by decide))
  dsimp only at h
  refine v_callSxv (As := [.int i2]) (rest := []) F (c_X10_demandWind l hst F.2.2.1  hz8) (cwS 1 F.1.2.2.2.2 (gU_S ml_X10_139 st_yX10_demandWind ini_X10 cd_X10_demandWind) rfl rfl rfl (by decide +kernel) ⟨Nat.le_of_ble_eq_true rfl, Nat.le_of_ble_eq_true rfl⟩) rfl rfl (Nat.le_of_ble_eq_true rfl) dX10_first_8 ⟨Nat.le_of_ble_eq_true rfl, Nat.le_of_ble_eq_true rfl⟩ ?_
  refine v_iload_n F dX10_first_11 rfl 4 rfl ?_
  refine v_iload F dX10_first_12 5 rfl ?_
  obtain ⟨⟨r10 | j13, M11⟩, hz12, h⟩ := bd_some h
  rotate_left
  · dsimp only at h; cases h; exact v_callSxT (As := [.int i3, .int i4]) (rest := []) F (c_X10_demandShape l hst F.2.2.1  hz12) (cwS 2 F.1.2.2.2.2 (gU_S ml_X10_125 st_yX10_demandShape ini_X10 cd_X10_demandShape) rfl rfl rfl (by decide +kernel) ⟨Nat.le_of_ble_eq_true rfl, Nat.le_of_ble_eq_true rfl⟩) rfl rfl (Nat.le_of_ble_eq_true rfl) dX10_first_14 ⟨Nat.le_of_ble_eq_true rfl, Nat.le_of_ble_eq_true rfl⟩ (vx_outV hxt hlk (by decide) (by decide))
  dsimp only at h
  refine v_callSxv (As := [.int i3, .int i4]) (rest := []) F (c_X10_demandShape l hst F.2.2.1  hz12) (cwS 2 F.1.2.2.2.2 (gU_S ml_X10_125 st_yX10_demandShape ini_X10 cd_X10_demandShape) rfl rfl rfl (by decide +kernel) ⟨Nat.le_of_ble_eq_true rfl, Nat.le_of_ble_eq_true rfl⟩) rfl rfl (Nat.le_of_ble_eq_true rfl) dX10_first_14 ⟨Nat.le_of_ble_eq_true rfl, Nat.le_of_ble_eq_true rfl⟩ ?_
  refine v_aload_n F dX10_first_17 rfl 1 rfl ?_
  refine v_aload F dX10_first_18 0 rfl ?_
  refine v_iload_n F dX10_first_20 rfl 3 rfl ?_
  refine v_iload_n F dX10_first_21 rfl 4 rfl ?_
  refine v_iload F dX10_first_22 5 rfl ?_
  refine v_iload F dX10_first_24 6 rfl ?_
  obtain ⟨⟨r14, M15⟩, hz16, h⟩ := bd_some h
  dsimp only at h
  refine v_callVi (As := [.ref (gAd g r1), .int i2, .int i3, .int i4, .int i5]) (rest := []) F (c_X10_runTillBroken l F.2.2.1 t0 u5 hz16) (cwV 5 F.1.2.2.2.2 (gU_V ml_X10_194 im_yX10_runTillBroken se_yX10_runTillBroken ini_X10 cd_X10_runTillBroken) rfl rfl rfl (by decide +kernel) ⟨Nat.le_of_ble_eq_true rfl, Nat.le_of_ble_eq_true rfl⟩) t0 (by decide) rfl rfl rfl (Nat.le_of_ble_eq_true rfl) dX10_first_26 ⟨Nat.le_of_ble_eq_true rfl, Nat.le_of_ble_eq_true rfl⟩ ?_
  cases h
  refine v_iretX F hr rfl hlk dX10_first_29 ?_ ?_ <;> decide
def f_X10_where  (M : Mem) (a0 : Nat) (i1 : Int32) (i2 : Int32) (i3 : Int32) (i4 : Int32) (i5 : Int32) : Option ((Int32 ⊕ Nat) × Mem) := (f_X10_lawNumbered M a0 i1).bind fun q => match q with | (.inr j4, M2) => some (.inr j4, M2) | (.inl r1, M2) => ((f_X10_demandWind M2 i2).bind fun q => match q with | (.inr j9, M7) => some (.inr j9, M7) | (.inl r6, M7) => ((f_X10_demandShape M7 i3 i4).bind fun q => match q with | (.inr j13, M11) => some (.inr j13, M11) | (.inl r10, M11) => ((f_X10_runTillBroken M11 a0 r1 i2 i3 i4 i5).bind fun q => match q with | (r14, M15) => ((f_X1_leastBroken M15 (gRf a0 9) i5).bind fun q => match q with | (r19, M20) => (some (.inl r19, M20))))))
set_option maxHeartbeats 4000000 in
set_option maxRecDepth 100000 in
theorem c_X10_where {g : gT} (l : Launch) (hst : l.stackTraces = false) (hok : gOK g) {a0 : Nat} {i1 : Int32} {i2 : Int32} {i3 : Int32} {i4 : Int32} {i5 : Int32} {M : Mem} {z : (Int32 ⊕ Nat) × Mem} (t0 : Ty g 10 a0) (h : f_X10_where M a0 i1 i2 i3 i4 i5 = some z) : Cx g l yX10_where uX10_where 8 3 18 [.ref (gAd g a0), .int i1, .int i2, .int i3, .int i4, .int i5] M vI z := by
  refine Cx.of (cc := cX10_where) (maxL := 7) (ret := (some .int)) hok (by decide) rfl (Nat.le_of_ble_eq_true rfl) (fun p e s m args below meth c F hr hlk hxt => ?_)
  unfold f_X10_where at h
  show V g p l e ({ frames := 8, cells := 3, slots := 18, locals := 40 * 8 } : Room) s m args below meth c 7 0 0 (vx_MQ below (gQx g vI z) (gXx g z) args s 3 18 (gA g)) 0 [(0, .ref (gAd g a0)), (1, .int i1), (2, .int i2), (3, .int i3), (4, .int i4), (5, .int i5)] [] M
  refine v_aload_n F dX10_where_0 rfl 0 rfl ?_
  refine v_iload_n F dX10_where_1 rfl 1 rfl ?_
  obtain ⟨⟨r1 | j4, M2⟩, hz3, h⟩ := bd_some h
  rotate_left
  · dsimp only at h; cases h; exact v_callVxT (As := [.int i1]) (rest := []) F (c_X10_lawNumbered l hst F.2.2.1 t0 hz3) (cwV 1 F.1.2.2.2.2 (gU_V ml_X10_135 im_yX10_lawNumbered se_yX10_lawNumbered ini_X10 cd_X10_lawNumbered) rfl rfl rfl (by decide +kernel) ⟨Nat.le_of_ble_eq_true rfl, Nat.le_of_ble_eq_true rfl⟩) t0 (by decide) rfl rfl rfl (Nat.le_of_ble_eq_true rfl) dX10_where_2 ⟨Nat.le_of_ble_eq_true rfl, Nat.le_of_ble_eq_true rfl⟩ (vx_outV hxt hlk (by decide) (by decide))
  dsimp only at h
  refine v_callVxr (As := [.int i1]) (rest := []) F (c_X10_lawNumbered l hst F.2.2.1 t0 hz3) (cwV 1 F.1.2.2.2.2 (gU_V ml_X10_135 im_yX10_lawNumbered se_yX10_lawNumbered ini_X10 cd_X10_lawNumbered) rfl rfl rfl (by decide +kernel) ⟨Nat.le_of_ble_eq_true rfl, Nat.le_of_ble_eq_true rfl⟩) t0 (by decide) rfl rfl rfl (Nat.le_of_ble_eq_true rfl) dX10_where_2 ⟨Nat.le_of_ble_eq_true rfl, Nat.le_of_ble_eq_true rfl⟩ ?_
  have u5 := ty_X10_lawNumbered F.2.2.1 t0 hz3
  refine v_astore (lv' := [(6, .ref (gAd g r1)), (0, .ref (gAd g a0)), (1, .int i1), (2, .int i2), (3, .int i3), (4, .int i4), (5, .int i5)]) F dX10_where_5 (by decide) rfl ?_
  refine v_iload_n F dX10_where_7 rfl 3 rfl ?_
  obtain ⟨⟨r6 | j9, M7⟩, hz8, h⟩ := bd_some h
  rotate_left
  · dsimp only at h; cases h; exact v_callSxT (As := [.int i2]) (rest := []) F (c_X10_demandWind l hst F.2.2.1  hz8) (cwS 1 F.1.2.2.2.2 (gU_S ml_X10_139 st_yX10_demandWind ini_X10 cd_X10_demandWind) rfl rfl rfl (by decide +kernel) ⟨Nat.le_of_ble_eq_true rfl, Nat.le_of_ble_eq_true rfl⟩) rfl rfl (Nat.le_of_ble_eq_true rfl) dX10_where_8 ⟨Nat.le_of_ble_eq_true rfl, Nat.le_of_ble_eq_true rfl⟩ (vx_outV hxt hlk (by decide) (by decide))
  dsimp only at h
  refine v_callSxv (As := [.int i2]) (rest := []) F (c_X10_demandWind l hst F.2.2.1  hz8) (cwS 1 F.1.2.2.2.2 (gU_S ml_X10_139 st_yX10_demandWind ini_X10 cd_X10_demandWind) rfl rfl rfl (by decide +kernel) ⟨Nat.le_of_ble_eq_true rfl, Nat.le_of_ble_eq_true rfl⟩) rfl rfl (Nat.le_of_ble_eq_true rfl) dX10_where_8 ⟨Nat.le_of_ble_eq_true rfl, Nat.le_of_ble_eq_true rfl⟩ ?_
  refine v_iload_n F dX10_where_11 rfl 4 rfl ?_
  refine v_iload F dX10_where_12 5 rfl ?_
  obtain ⟨⟨r10 | j13, M11⟩, hz12, h⟩ := bd_some h
  rotate_left
  · dsimp only at h; cases h; exact v_callSxT (As := [.int i3, .int i4]) (rest := []) F (c_X10_demandShape l hst F.2.2.1  hz12) (cwS 2 F.1.2.2.2.2 (gU_S ml_X10_125 st_yX10_demandShape ini_X10 cd_X10_demandShape) rfl rfl rfl (by decide +kernel) ⟨Nat.le_of_ble_eq_true rfl, Nat.le_of_ble_eq_true rfl⟩) rfl rfl (Nat.le_of_ble_eq_true rfl) dX10_where_14 ⟨Nat.le_of_ble_eq_true rfl, Nat.le_of_ble_eq_true rfl⟩ (vx_outV hxt hlk (by decide) (by decide))
  dsimp only at h
  refine v_callSxv (As := [.int i3, .int i4]) (rest := []) F (c_X10_demandShape l hst F.2.2.1  hz12) (cwS 2 F.1.2.2.2.2 (gU_S ml_X10_125 st_yX10_demandShape ini_X10 cd_X10_demandShape) rfl rfl rfl (by decide +kernel) ⟨Nat.le_of_ble_eq_true rfl, Nat.le_of_ble_eq_true rfl⟩) rfl rfl (Nat.le_of_ble_eq_true rfl) dX10_where_14 ⟨Nat.le_of_ble_eq_true rfl, Nat.le_of_ble_eq_true rfl⟩ ?_
  refine v_aload_n F dX10_where_17 rfl 1 rfl ?_
  refine v_aload F dX10_where_18 0 rfl ?_
  refine v_iload_n F dX10_where_20 rfl 3 rfl ?_
  refine v_iload_n F dX10_where_21 rfl 4 rfl ?_
  refine v_iload F dX10_where_22 5 rfl ?_
  refine v_iload F dX10_where_24 6 rfl ?_
  obtain ⟨⟨r14, M15⟩, hz16, h⟩ := bd_some h
  dsimp only at h
  refine v_callVi (As := [.ref (gAd g r1), .int i2, .int i3, .int i4, .int i5]) (rest := []) F (c_X10_runTillBroken l F.2.2.1 t0 u5 hz16) (cwV 5 F.1.2.2.2.2 (gU_V ml_X10_194 im_yX10_runTillBroken se_yX10_runTillBroken ini_X10 cd_X10_runTillBroken) rfl rfl rfl (by decide +kernel) ⟨Nat.le_of_ble_eq_true rfl, Nat.le_of_ble_eq_true rfl⟩) t0 (by decide) rfl rfl rfl (Nat.le_of_ble_eq_true rfl) dX10_where_26 ⟨Nat.le_of_ble_eq_true rfl, Nat.le_of_ble_eq_true rfl⟩ ?_
  refine v_pop F dX10_where_29 rfl ?_
  refine v_aload_n F dX10_where_30 rfl 1 rfl ?_
  refine v_getR (k := 9) (f := 1) F t0 (by decide) (inc inU_10) rfl rfl (by decide) (by decide) (List.mem_cons_of_mem _ fl_X10_49) rfl dX10_where_31 (fun u18 => ?_)
  refine v_iload F dX10_where_34 6 rfl ?_
  obtain ⟨⟨r19, M20⟩, hz21, h⟩ := bd_some h
  dsimp only at h
  refine v_callVi (As := [.int i5]) (rest := []) F (c_X1_leastBroken l F.2.2.1 u18 hz21) (cwV 1 F.1.2.2.2.2 (gU_V ml_X10_198 im_yX1_leastBroken se_yX1_leastBroken ini_X1 cd_X1_leastBroken) rfl rfl rfl (by decide +kernel) ⟨Nat.le_of_ble_eq_true rfl, Nat.le_of_ble_eq_true rfl⟩) u18 (by decide) rfl rfl rfl (Nat.le_of_ble_eq_true rfl) dX10_where_36 ⟨Nat.le_of_ble_eq_true rfl, Nat.le_of_ble_eq_true rfl⟩ ?_
  cases h
  refine v_iretX F hr rfl hlk dX10_where_39 ?_ ?_ <;> decide
def f_X10_slip_b87 (a0 : Nat) (i1 : Int32) (i2 : Int32) (i3 : Int32)  (s0 : Int32) (s1 : Int32) (M : Mem) : Option ((Int32 ⊕ Nat) × Mem) := some (.inl (s0 + s1), M)
def f_X10_slip_b77 (a0 : Nat) (i1 : Int32) (i2 : Int32) (i3 : Int32)  (s0 : Int32) (x6 : Int32) (M : Mem) : Option ((Int32 ⊕ Nat) × Mem) := if x6 = 0 then (f_X10_slip_b87 a0 i1 i2 i3 s0 0 M) else (f_X10_slip_b87 a0 i1 i2 i3 s0 2 M)
def f_X10_slip  (M : Mem) (a0 : Nat) (i1 : Int32) (i2 : Int32) (i3 : Int32) : Option ((Int32 ⊕ Nat) × Mem) := (f_X10_lawNumbered M a0 i1).bind fun q => match q with | (.inr j4, M2) => some (.inr j4, M2) | (.inl r1, M2) => ((f_X10_demandWind M2 i2).bind fun q => match q with | (.inr j9, M7) => some (.inr j9, M7) | (.inl r6, M7) => ((f_X10_demandShape M7 1 i3).bind fun q => match q with | (.inr j13, M11) => some (.inr j13, M11) | (.inl r10, M11) => ((f_X1_copy M11 (gRf a0 9) (gRf (gRf a0 6) 0)).bind fun q => match q with | (r17, M18) => ((f_X10_trialGrows M18 a0 r1 i2 1 i3 100 100).bind fun q => match q with | (r21, M22) => ((f_X1_dropStays M22 (gRf a0 9)).bind fun q => match q with | (r26, M27) => ((f_X10_trialGrows M27 a0 r1 i2 1 i3 100 100).bind fun q => match q with | (r30, M31) => (if r21 = 0 then (f_X10_slip_b77 a0 i1 i2 i3 0 r30 M31) else (f_X10_slip_b77 a0 i1 i2 i3 1 r30 M31))))))))
set_option maxHeartbeats 4000000 in
set_option maxRecDepth 100000 in
theorem w_X10_slip_b87 {g : gT} {p : Program} {l : Launch} {e : Env} {s : State} {m : MethodId} {args : Array Value} {below : List Frame} {meth : Method} {c : Code} {z : (Int32 ⊕ Nat) × Mem} (F : Fx g p s m args c cX10_slip 7 uX10_slip RX10) (hr : meth.sig.returnType = (some .int)) (hlk : meth.locks = false) (hxt : ∀ x ∈ c.exceptionTable.toList, False) (hst : l.stackTraces = false)  {a0 : Nat} {i1 : Int32} {i2 : Int32} {i3 : Int32} (t0 : Ty g 10 a0)   (s0 : Int32) (s1 : Int32) (M : Mem)  (h : f_X10_slip_b87 a0 i1 i2 i3 s0 s1 M = some z) : V g p l e ({ frames := 8, cells := 3, slots := 18, locals := 40 * 8 } : Room) s m args below meth c 7 3 18 (vx_MQ below (gQx g vI z) (gXx g z) args s 3 18 (gA g)) 87 [(0, .ref (gAd g a0)), (1, .int i1), (2, .int i2), (3, .int i3)] [.int s1, .int s0] M := by
  unfold f_X10_slip_b87 at h
  refine v_iadd F dX10_slip_87 ?_
  cases h
  refine v_iretX F hr rfl hlk dX10_slip_88 ?_ ?_ <;> decide
set_option maxHeartbeats 4000000 in
set_option maxRecDepth 100000 in
theorem w_X10_slip_b77 {g : gT} {p : Program} {l : Launch} {e : Env} {s : State} {m : MethodId} {args : Array Value} {below : List Frame} {meth : Method} {c : Code} {z : (Int32 ⊕ Nat) × Mem} (F : Fx g p s m args c cX10_slip 7 uX10_slip RX10) (hr : meth.sig.returnType = (some .int)) (hlk : meth.locks = false) (hxt : ∀ x ∈ c.exceptionTable.toList, False) (hst : l.stackTraces = false)  {a0 : Nat} {i1 : Int32} {i2 : Int32} {i3 : Int32} (t0 : Ty g 10 a0)   (s0 : Int32) (x6 : Int32) (M : Mem)  (h : f_X10_slip_b77 a0 i1 i2 i3 s0 x6 M = some z) : V g p l e ({ frames := 8, cells := 3, slots := 18, locals := 40 * 8 } : Room) s m args below meth c 7 3 18 (vx_MQ below (gQx g vI z) (gXx g z) args s 3 18 (gA g)) 77 [(0, .ref (gAd g a0)), (1, .int i1), (2, .int i2), (3, .int i3), (6, .int x6)] [.int s0] M := by
  unfold f_X10_slip_b77 at h
  refine v_iload F dX10_slip_77 4 rfl ?_
  refine v_if_eq (tgt := 86) F dX10_slip_79 (by decide) (fun hc35 => ?_) (fun hc35 => ?_)
  · rw [if_pos hc35] at h
    refine v_iconst (v := 0) F dX10_slip_86 (by decide) ?_
    refine v_sub (fun ls h9 => lv_sub h9 [0, 1, 2, 3] rfl) ?_
    exact w_X10_slip_b87 F hr hlk hxt hst t0 _ _ _ h
  · rw [if_neg hc35] at h
    refine v_iconst (v := 2) F dX10_slip_82 (by decide) ?_
    refine v_goto (tgt := 87) F dX10_slip_83 (by decide) ?_
    refine v_sub (fun ls h9 => lv_sub h9 [0, 1, 2, 3] rfl) ?_
    exact w_X10_slip_b87 F hr hlk hxt hst t0 _ _ _ h
set_option maxHeartbeats 4000000 in
set_option maxRecDepth 100000 in
theorem c_X10_slip {g : gT} (l : Launch) (hst : l.stackTraces = false) (hok : gOK g) {a0 : Nat} {i1 : Int32} {i2 : Int32} {i3 : Int32} {M : Mem} {z : (Int32 ⊕ Nat) × Mem} (t0 : Ty g 10 a0) (h : f_X10_slip M a0 i1 i2 i3 = some z) : Cx g l yX10_slip uX10_slip 8 3 18 [.ref (gAd g a0), .int i1, .int i2, .int i3] M vI z := by
  refine Cx.of (cc := cX10_slip) (maxL := 7) (ret := (some .int)) hok (by decide) rfl (Nat.le_of_ble_eq_true rfl) (fun p e s m args below meth c F hr hlk hxt => ?_)
  unfold f_X10_slip at h
  show V g p l e ({ frames := 8, cells := 3, slots := 18, locals := 40 * 8 } : Room) s m args below meth c 7 0 0 (vx_MQ below (gQx g vI z) (gXx g z) args s 3 18 (gA g)) 0 [(0, .ref (gAd g a0)), (1, .int i1), (2, .int i2), (3, .int i3)] [] M
  refine v_aload_n F dX10_slip_0 rfl 0 rfl ?_
  refine v_iload_n F dX10_slip_1 rfl 1 rfl ?_
  obtain ⟨⟨r1 | j4, M2⟩, hz3, h⟩ := bd_some h
  rotate_left
  · dsimp only at h; cases h; exact v_callVxT (As := [.int i1]) (rest := []) F (c_X10_lawNumbered l hst F.2.2.1 t0 hz3) (cwV 1 F.1.2.2.2.2 (gU_V ml_X10_135 im_yX10_lawNumbered se_yX10_lawNumbered ini_X10 cd_X10_lawNumbered) rfl rfl rfl (by decide +kernel) ⟨Nat.le_of_ble_eq_true rfl, Nat.le_of_ble_eq_true rfl⟩) t0 (by decide) rfl rfl rfl (Nat.le_of_ble_eq_true rfl) dX10_slip_2 ⟨Nat.le_of_ble_eq_true rfl, Nat.le_of_ble_eq_true rfl⟩ (vx_outV hxt hlk (by decide) (by decide))
  dsimp only at h
  refine v_callVxr (As := [.int i1]) (rest := []) F (c_X10_lawNumbered l hst F.2.2.1 t0 hz3) (cwV 1 F.1.2.2.2.2 (gU_V ml_X10_135 im_yX10_lawNumbered se_yX10_lawNumbered ini_X10 cd_X10_lawNumbered) rfl rfl rfl (by decide +kernel) ⟨Nat.le_of_ble_eq_true rfl, Nat.le_of_ble_eq_true rfl⟩) t0 (by decide) rfl rfl rfl (Nat.le_of_ble_eq_true rfl) dX10_slip_2 ⟨Nat.le_of_ble_eq_true rfl, Nat.le_of_ble_eq_true rfl⟩ ?_
  have u5 := ty_X10_lawNumbered F.2.2.1 t0 hz3
  refine v_astore (lv' := [(4, .ref (gAd g r1)), (0, .ref (gAd g a0)), (1, .int i1), (2, .int i2), (3, .int i3)]) F dX10_slip_5 (by decide) rfl ?_
  refine v_iload_n F dX10_slip_7 rfl 3 rfl ?_
  obtain ⟨⟨r6 | j9, M7⟩, hz8, h⟩ := bd_some h
  rotate_left
  · dsimp only at h; cases h; exact v_callSxT (As := [.int i2]) (rest := []) F (c_X10_demandWind l hst F.2.2.1  hz8) (cwS 1 F.1.2.2.2.2 (gU_S ml_X10_139 st_yX10_demandWind ini_X10 cd_X10_demandWind) rfl rfl rfl (by decide +kernel) ⟨Nat.le_of_ble_eq_true rfl, Nat.le_of_ble_eq_true rfl⟩) rfl rfl (Nat.le_of_ble_eq_true rfl) dX10_slip_8 ⟨Nat.le_of_ble_eq_true rfl, Nat.le_of_ble_eq_true rfl⟩ (vx_outV hxt hlk (by decide) (by decide))
  dsimp only at h
  refine v_callSxv (As := [.int i2]) (rest := []) F (c_X10_demandWind l hst F.2.2.1  hz8) (cwS 1 F.1.2.2.2.2 (gU_S ml_X10_139 st_yX10_demandWind ini_X10 cd_X10_demandWind) rfl rfl rfl (by decide +kernel) ⟨Nat.le_of_ble_eq_true rfl, Nat.le_of_ble_eq_true rfl⟩) rfl rfl (Nat.le_of_ble_eq_true rfl) dX10_slip_8 ⟨Nat.le_of_ble_eq_true rfl, Nat.le_of_ble_eq_true rfl⟩ ?_
  refine v_iconst (v := 1) F dX10_slip_11 (by decide) ?_
  refine v_iload_n F dX10_slip_12 rfl 4 rfl ?_
  obtain ⟨⟨r10 | j13, M11⟩, hz12, h⟩ := bd_some h
  rotate_left
  · dsimp only at h; cases h; exact v_callSxT (As := [.int 1, .int i3]) (rest := []) F (c_X10_demandShape l hst F.2.2.1  hz12) (cwS 2 F.1.2.2.2.2 (gU_S ml_X10_125 st_yX10_demandShape ini_X10 cd_X10_demandShape) rfl rfl rfl (by decide +kernel) ⟨Nat.le_of_ble_eq_true rfl, Nat.le_of_ble_eq_true rfl⟩) rfl rfl (Nat.le_of_ble_eq_true rfl) dX10_slip_13 ⟨Nat.le_of_ble_eq_true rfl, Nat.le_of_ble_eq_true rfl⟩ (vx_outV hxt hlk (by decide) (by decide))
  dsimp only at h
  refine v_callSxv (As := [.int 1, .int i3]) (rest := []) F (c_X10_demandShape l hst F.2.2.1  hz12) (cwS 2 F.1.2.2.2.2 (gU_S ml_X10_125 st_yX10_demandShape ini_X10 cd_X10_demandShape) rfl rfl rfl (by decide +kernel) ⟨Nat.le_of_ble_eq_true rfl, Nat.le_of_ble_eq_true rfl⟩) rfl rfl (Nat.le_of_ble_eq_true rfl) dX10_slip_13 ⟨Nat.le_of_ble_eq_true rfl, Nat.le_of_ble_eq_true rfl⟩ ?_
  refine v_aload_n F dX10_slip_16 rfl 1 rfl ?_
  refine v_getR (k := 9) (f := 1) F t0 (by decide) (inc inU_10) rfl rfl (by decide) (by decide) (List.mem_cons_of_mem _ fl_X10_49) rfl dX10_slip_17 (fun u14 => ?_)
  refine v_aload_n F dX10_slip_20 rfl 1 rfl ?_
  refine v_getR (k := 6) (f := 7) F t0 (by decide) (inc inU_10) rfl rfl (by decide) (by decide) (List.mem_cons_of_mem _ fl_X10_38) rfl dX10_slip_21 (fun u15 => ?_)
  refine v_getR (k := 0) (f := 1) F u15 (by decide) (inc inU_7) rfl rfl (by decide) (by decide) (List.mem_cons_of_mem _ fl_X10_93) rfl dX10_slip_24 (fun u16 => ?_)
  obtain ⟨⟨r17, M18⟩, hz19, h⟩ := bd_some h
  dsimp only at h
  refine v_callVv (As := [.ref (gAd g (gRf (gRf a0 6) 0))]) (rest := []) F (c_X1_copy l F.2.2.1 u14 u16 hz19) (cwV 1 F.1.2.2.2.2 (gU_V ml_X10_182 im_yX1_copy se_yX1_copy ini_X1 cd_X1_copy) rfl rfl rfl (by decide +kernel) ⟨Nat.le_of_ble_eq_true rfl, Nat.le_of_ble_eq_true rfl⟩) u14 (by decide) rfl rfl rfl (Nat.le_of_ble_eq_true rfl) dX10_slip_27 ⟨Nat.le_of_ble_eq_true rfl, Nat.le_of_ble_eq_true rfl⟩ ?_
  refine v_aload_n F dX10_slip_30 rfl 1 rfl ?_
  refine v_aload F dX10_slip_31 0 rfl ?_
  refine v_iload_n F dX10_slip_33 rfl 3 rfl ?_
  refine v_iconst (v := 1) F dX10_slip_34 (by decide) ?_
  refine v_iload_n F dX10_slip_35 rfl 4 rfl ?_
  refine v_bipush (v := 100) F dX10_slip_36 (by decide) ?_
  refine v_bipush (v := 100) F dX10_slip_38 (by decide) ?_
  obtain ⟨⟨r21, M22⟩, hz23, h⟩ := bd_some h
  dsimp only at h
  refine v_callVi (As := [.ref (gAd g r1), .int i2, .int 1, .int i3, .int 100, .int 100]) (rest := []) F (c_X10_trialGrows l F.2.2.1 t0 u5 hz23) (cwV 6 F.1.2.2.2.2 (gU_V ml_X10_186 im_yX10_trialGrows se_yX10_trialGrows ini_X10 cd_X10_trialGrows) rfl rfl rfl (by decide +kernel) ⟨Nat.le_of_ble_eq_true rfl, Nat.le_of_ble_eq_true rfl⟩) t0 (by decide) rfl rfl rfl (Nat.le_of_ble_eq_true rfl) dX10_slip_40 ⟨Nat.le_of_ble_eq_true rfl, Nat.le_of_ble_eq_true rfl⟩ ?_
  refine v_istore (lv' := [(5, .int r21), (4, .ref (gAd g r1)), (0, .ref (gAd g a0)), (1, .int i1), (2, .int i2), (3, .int i3)]) F dX10_slip_43 (by decide) rfl ?_
  refine v_aload_n F dX10_slip_45 rfl 2 rfl ?_
  refine v_getR (k := 9) (f := 1) F t0 (by decide) (inc inU_10) rfl rfl (by decide) (by decide) (List.mem_cons_of_mem _ fl_X10_49) rfl dX10_slip_46 (fun u25 => ?_)
  obtain ⟨⟨r26, M27⟩, hz28, h⟩ := bd_some h
  dsimp only at h
  refine v_callVv (As := []) (rest := []) F (c_X1_dropStays l F.2.2.1 u25 hz28) (cwV 0 F.1.2.2.2.2 (gU_V ml_X10_202 im_yX1_dropStays se_yX1_dropStays ini_X1 cd_X1_dropStays) rfl rfl rfl (by decide +kernel) ⟨Nat.le_of_ble_eq_true rfl, Nat.le_of_ble_eq_true rfl⟩) u25 (by decide) rfl rfl rfl (Nat.le_of_ble_eq_true rfl) dX10_slip_49 ⟨Nat.le_of_ble_eq_true rfl, Nat.le_of_ble_eq_true rfl⟩ ?_
  refine v_aload_n F dX10_slip_52 rfl 2 rfl ?_
  refine v_aload F dX10_slip_53 1 rfl ?_
  refine v_iload_n F dX10_slip_55 rfl 4 rfl ?_
  refine v_iconst (v := 1) F dX10_slip_56 (by decide) ?_
  refine v_iload_n F dX10_slip_57 rfl 5 rfl ?_
  refine v_bipush (v := 100) F dX10_slip_58 (by decide) ?_
  refine v_bipush (v := 100) F dX10_slip_60 (by decide) ?_
  obtain ⟨⟨r30, M31⟩, hz32, h⟩ := bd_some h
  dsimp only at h
  refine v_callVi (As := [.ref (gAd g r1), .int i2, .int 1, .int i3, .int 100, .int 100]) (rest := []) F (c_X10_trialGrows l F.2.2.1 t0 u5 hz32) (cwV 6 F.1.2.2.2.2 (gU_V ml_X10_186 im_yX10_trialGrows se_yX10_trialGrows ini_X10 cd_X10_trialGrows) rfl rfl rfl (by decide +kernel) ⟨Nat.le_of_ble_eq_true rfl, Nat.le_of_ble_eq_true rfl⟩) t0 (by decide) rfl rfl rfl (Nat.le_of_ble_eq_true rfl) dX10_slip_62 ⟨Nat.le_of_ble_eq_true rfl, Nat.le_of_ble_eq_true rfl⟩ ?_
  refine v_istore (lv' := [(6, .int r30), (5, .int r21), (4, .ref (gAd g r1)), (0, .ref (gAd g a0)), (1, .int i1), (2, .int i2), (3, .int i3)]) F dX10_slip_65 (by decide) rfl ?_
  refine v_iload F dX10_slip_67 1 rfl ?_
  refine v_if_eq (tgt := 76) F dX10_slip_69 (by decide) (fun hc34 => ?_) (fun hc34 => ?_)
  · rw [if_pos hc34] at h
    refine v_iconst (v := 0) F dX10_slip_76 (by decide) ?_
    refine v_sub (fun ls h9 => lv_sub h9 [3, 4, 5, 6, 0] rfl) ?_
    exact w_X10_slip_b77 F hr hlk hxt hst t0 _ _ _ h
  · rw [if_neg hc34] at h
    refine v_iconst (v := 1) F dX10_slip_72 (by decide) ?_
    refine v_goto (tgt := 77) F dX10_slip_73 (by decide) ?_
    refine v_sub (fun ls h9 => lv_sub h9 [3, 4, 5, 6, 0] rfl) ?_
    exact w_X10_slip_b77 F hr hlk hxt hst t0 _ _ _ h
def f_X10_film_b43 (a0 : Nat) (i1 : Int32) (i2 : Int32) (i3 : Int32) (i4 : Int32)  (s0 : Int32) (M : Mem) : Option ((Int32 ⊕ Nat) × Mem) := (f_X10_demand M s0).bind fun q => match q with | (.inr j26, M24) => some (.inr j26, M24) | (.inl r23, M24) => ((f_X2_add M24 (gRf (gRf a0 6) 1) i1 i2 i3 i4).bind fun q => match q with | (r29, M30) => (some (.inl r29, M30)))
def f_X10_film_b42 (a0 : Nat) (i1 : Int32) (i2 : Int32) (i3 : Int32) (i4 : Int32)   (M : Mem) : Option ((Int32 ⊕ Nat) × Mem) := f_X10_film_b43 a0 i1 i2 i3 i4 0 M
def f_X10_film  (M : Mem) (a0 : Nat) (i1 : Int32) (i2 : Int32) (i3 : Int32) (i4 : Int32) : Option ((Int32 ⊕ Nat) × Mem) := (f_X10_demandPiece M a0 i2).bind fun q => match q with | (.inr j4, M2) => some (.inr j4, M2) | (.inl r1, M2) => ((f_X10_within M2 i1 1 100).bind fun q => match q with | (r5, M6) => ((f_X10_demand M6 r5).bind fun q => match q with | (.inr j12, M10) => some (.inr j12, M10) | (.inl r9, M10) => ((f_X10_within M10 i3 (-1000000) 1000000).bind fun q => match q with | (r13, M14) => (if r13 = 0 then (f_X10_film_b42 a0 i1 i2 i3 i4 M14) else ((f_X10_within M14 i4 (-1000000) 1000000).bind fun q => match q with | (r18, M19) => (if r18 = 0 then (f_X10_film_b42 a0 i1 i2 i3 i4 M19) else (f_X10_film_b43 a0 i1 i2 i3 i4 1 M19)))))))
set_option maxHeartbeats 4000000 in
set_option maxRecDepth 100000 in
theorem w_X10_film_b43 {g : gT} {p : Program} {l : Launch} {e : Env} {s : State} {m : MethodId} {args : Array Value} {below : List Frame} {meth : Method} {c : Code} {z : (Int32 ⊕ Nat) × Mem} (F : Fx g p s m args c cX10_film 5 uX10_film RX10) (hr : meth.sig.returnType = (some .int)) (hlk : meth.locks = false) (hxt : ∀ x ∈ c.exceptionTable.toList, False) (hst : l.stackTraces = false)  {a0 : Nat} {i1 : Int32} {i2 : Int32} {i3 : Int32} {i4 : Int32} (t0 : Ty g 10 a0)   (s0 : Int32) (M : Mem)  (h : f_X10_film_b43 a0 i1 i2 i3 i4 s0 M = some z) : V g p l e ({ frames := 7, cells := 3, slots := 18, locals := 40 * 7 } : Room) s m args below meth c 5 2 12 (vx_MQ below (gQx g vI z) (gXx g z) args s 3 18 (gA g)) 43 [(0, .ref (gAd g a0)), (1, .int i1), (2, .int i2), (3, .int i3), (4, .int i4)] [.int s0] M := by
  unfold f_X10_film_b43 at h
  obtain ⟨⟨r23 | j26, M24⟩, hz25, h⟩ := bd_some h
  rotate_left
  · dsimp only at h; cases h; exact v_callSxT (As := [.int s0]) (rest := []) F (c_X10_demand l hst F.2.2.1  hz25) (cwS 1 F.1.2.2.2.2 (gU_S ml_X10_67 st_yX10_demand ini_X10 cd_X10_demand) rfl rfl rfl (by decide +kernel) ⟨Nat.le_of_ble_eq_true rfl, Nat.le_of_ble_eq_true rfl⟩) rfl rfl (Nat.le_of_ble_eq_true rfl) dX10_film_43 ⟨Nat.le_of_ble_eq_true rfl, Nat.le_of_ble_eq_true rfl⟩ (vx_outV hxt hlk (by decide) (by decide))
  dsimp only at h
  refine v_callSxv (As := [.int s0]) (rest := []) F (c_X10_demand l hst F.2.2.1  hz25) (cwS 1 F.1.2.2.2.2 (gU_S ml_X10_67 st_yX10_demand ini_X10 cd_X10_demand) rfl rfl rfl (by decide +kernel) ⟨Nat.le_of_ble_eq_true rfl, Nat.le_of_ble_eq_true rfl⟩) rfl rfl (Nat.le_of_ble_eq_true rfl) dX10_film_43 ⟨Nat.le_of_ble_eq_true rfl, Nat.le_of_ble_eq_true rfl⟩ ?_
  refine v_aload_n F dX10_film_46 rfl 0 rfl ?_
  refine v_getR (k := 6) (f := 7) F t0 (by decide) (inc inU_10) rfl rfl (by decide) (by decide) (List.mem_cons_of_mem _ fl_X10_38) rfl dX10_film_47 (fun u27 => ?_)
  refine v_getR (k := 1) (f := 2) F u27 (by decide) (inc inU_7) rfl rfl (by decide) (by decide) (List.mem_cons_of_mem _ fl_X10_207) rfl dX10_film_50 (fun u28 => ?_)
  refine v_iload_n F dX10_film_53 rfl 1 rfl ?_
  refine v_iload_n F dX10_film_54 rfl 2 rfl ?_
  refine v_iload_n F dX10_film_55 rfl 3 rfl ?_
  refine v_iload F dX10_film_56 4 rfl ?_
  obtain ⟨⟨r29, M30⟩, hz31, h⟩ := bd_some h
  dsimp only at h
  refine v_callVi (As := [.int i1, .int i2, .int i3, .int i4]) (rest := []) F (c_X2_add l F.2.2.1 u28 hz31) (cwV 4 F.1.2.2.2.2 (gU_V ml_X10_211 im_yX2_add se_yX2_add ini_X2 cd_X2_add) rfl rfl rfl (by decide +kernel) ⟨Nat.le_of_ble_eq_true rfl, Nat.le_of_ble_eq_true rfl⟩) u28 (by decide) rfl rfl rfl (Nat.le_of_ble_eq_true rfl) dX10_film_58 ⟨Nat.le_of_ble_eq_true rfl, Nat.le_of_ble_eq_true rfl⟩ ?_
  cases h
  refine v_iretX F hr rfl hlk dX10_film_61 ?_ ?_ <;> decide
set_option maxHeartbeats 4000000 in
set_option maxRecDepth 100000 in
theorem w_X10_film_b42 {g : gT} {p : Program} {l : Launch} {e : Env} {s : State} {m : MethodId} {args : Array Value} {below : List Frame} {meth : Method} {c : Code} {z : (Int32 ⊕ Nat) × Mem} (F : Fx g p s m args c cX10_film 5 uX10_film RX10) (hr : meth.sig.returnType = (some .int)) (hlk : meth.locks = false) (hxt : ∀ x ∈ c.exceptionTable.toList, False) (hst : l.stackTraces = false)  {a0 : Nat} {i1 : Int32} {i2 : Int32} {i3 : Int32} {i4 : Int32} (t0 : Ty g 10 a0)    (M : Mem)  (h : f_X10_film_b42 a0 i1 i2 i3 i4 M = some z) : V g p l e ({ frames := 7, cells := 3, slots := 18, locals := 40 * 7 } : Room) s m args below meth c 5 2 12 (vx_MQ below (gQx g vI z) (gXx g z) args s 3 18 (gA g)) 42 [(0, .ref (gAd g a0)), (1, .int i1), (2, .int i2), (3, .int i3), (4, .int i4)] [] M := by
  unfold f_X10_film_b42 at h
  refine v_iconst (v := 0) F dX10_film_42 (by decide) ?_
  exact w_X10_film_b43 F hr hlk hxt hst t0 _ _ h
set_option maxHeartbeats 4000000 in
set_option maxRecDepth 100000 in
theorem c_X10_film {g : gT} (l : Launch) (hst : l.stackTraces = false) (hok : gOK g) {a0 : Nat} {i1 : Int32} {i2 : Int32} {i3 : Int32} {i4 : Int32} {M : Mem} {z : (Int32 ⊕ Nat) × Mem} (t0 : Ty g 10 a0) (h : f_X10_film M a0 i1 i2 i3 i4 = some z) : Cx g l yX10_film uX10_film 7 3 18 [.ref (gAd g a0), .int i1, .int i2, .int i3, .int i4] M vI z := by
  refine Cx.of (cc := cX10_film) (maxL := 5) (ret := (some .int)) hok (by decide) rfl (Nat.le_of_ble_eq_true rfl) (fun p e s m args below meth c F hr hlk hxt => ?_)
  unfold f_X10_film at h
  show V g p l e ({ frames := 7, cells := 3, slots := 18, locals := 40 * 7 } : Room) s m args below meth c 5 0 0 (vx_MQ below (gQx g vI z) (gXx g z) args s 3 18 (gA g)) 0 [(0, .ref (gAd g a0)), (1, .int i1), (2, .int i2), (3, .int i3), (4, .int i4)] [] M
  refine v_aload_n F dX10_film_0 rfl 0 rfl ?_
  refine v_iload_n F dX10_film_1 rfl 2 rfl ?_
  obtain ⟨⟨r1 | j4, M2⟩, hz3, h⟩ := bd_some h
  rotate_left
  · dsimp only at h; cases h; exact v_callVxT (As := [.int i2]) (rest := []) F (c_X10_demandPiece l hst F.2.2.1 t0 hz3) (cwV 1 F.1.2.2.2.2 (gU_V ml_X10_119 im_yX10_demandPiece se_yX10_demandPiece ini_X10 cd_X10_demandPiece) rfl rfl rfl (by decide +kernel) ⟨Nat.le_of_ble_eq_true rfl, Nat.le_of_ble_eq_true rfl⟩) t0 (by decide) rfl rfl rfl (Nat.le_of_ble_eq_true rfl) dX10_film_2 ⟨Nat.le_of_ble_eq_true rfl, Nat.le_of_ble_eq_true rfl⟩ (vx_outV hxt hlk (by decide) (by decide))
  dsimp only at h
  refine v_callVxv (As := [.int i2]) (rest := []) F (c_X10_demandPiece l hst F.2.2.1 t0 hz3) (cwV 1 F.1.2.2.2.2 (gU_V ml_X10_119 im_yX10_demandPiece se_yX10_demandPiece ini_X10 cd_X10_demandPiece) rfl rfl rfl (by decide +kernel) ⟨Nat.le_of_ble_eq_true rfl, Nat.le_of_ble_eq_true rfl⟩) t0 (by decide) rfl rfl rfl (Nat.le_of_ble_eq_true rfl) dX10_film_2 ⟨Nat.le_of_ble_eq_true rfl, Nat.le_of_ble_eq_true rfl⟩ ?_
  refine v_iload_n F dX10_film_5 rfl 1 rfl ?_
  refine v_iconst (v := 1) F dX10_film_6 (by decide) ?_
  refine v_bipush (v := 100) F dX10_film_7 (by decide) ?_
  obtain ⟨⟨r5, M6⟩, hz7, h⟩ := bd_some h
  dsimp only at h
  refine v_callSi (As := [.int i1, .int 1, .int 100]) (rest := []) F (c_X10_within l F.2.2.1  hz7) (cwS 3 F.1.2.2.2.2 (gU_S ml_X10_63 st_yX10_within ini_X10 cd_X10_within) rfl rfl rfl (by decide +kernel) ⟨Nat.le_of_ble_eq_true rfl, Nat.le_of_ble_eq_true rfl⟩) rfl rfl (Nat.le_of_ble_eq_true rfl) dX10_film_9 ⟨Nat.le_of_ble_eq_true rfl, Nat.le_of_ble_eq_true rfl⟩ ?_
  obtain ⟨⟨r9 | j12, M10⟩, hz11, h⟩ := bd_some h
  rotate_left
  · dsimp only at h; cases h; exact v_callSxT (As := [.int r5]) (rest := []) F (c_X10_demand l hst F.2.2.1  hz11) (cwS 1 F.1.2.2.2.2 (gU_S ml_X10_67 st_yX10_demand ini_X10 cd_X10_demand) rfl rfl rfl (by decide +kernel) ⟨Nat.le_of_ble_eq_true rfl, Nat.le_of_ble_eq_true rfl⟩) rfl rfl (Nat.le_of_ble_eq_true rfl) dX10_film_12 ⟨Nat.le_of_ble_eq_true rfl, Nat.le_of_ble_eq_true rfl⟩ (vx_outV hxt hlk (by decide) (by decide))
  dsimp only at h
  refine v_callSxv (As := [.int r5]) (rest := []) F (c_X10_demand l hst F.2.2.1  hz11) (cwS 1 F.1.2.2.2.2 (gU_S ml_X10_67 st_yX10_demand ini_X10 cd_X10_demand) rfl rfl rfl (by decide +kernel) ⟨Nat.le_of_ble_eq_true rfl, Nat.le_of_ble_eq_true rfl⟩) rfl rfl (Nat.le_of_ble_eq_true rfl) dX10_film_12 ⟨Nat.le_of_ble_eq_true rfl, Nat.le_of_ble_eq_true rfl⟩ ?_
  refine v_iload_n F dX10_film_15 rfl 3 rfl ?_
  refine v_ldc (v := (-1000000)) F (F.1.2.2.2.2 _ (List.mem_cons_of_mem _ cn_X10_205)) dX10_film_16 ?_
  refine v_ldc (v := 1000000) F (F.1.2.2.2.2 _ (List.mem_cons_of_mem _ cn_X10_206)) dX10_film_18 ?_
  obtain ⟨⟨r13, M14⟩, hz15, h⟩ := bd_some h
  dsimp only at h
  refine v_callSi (As := [.int i3, .int (-1000000), .int 1000000]) (rest := []) F (c_X10_within l F.2.2.1  hz15) (cwS 3 F.1.2.2.2.2 (gU_S ml_X10_63 st_yX10_within ini_X10 cd_X10_within) rfl rfl rfl (by decide +kernel) ⟨Nat.le_of_ble_eq_true rfl, Nat.le_of_ble_eq_true rfl⟩) rfl rfl (Nat.le_of_ble_eq_true rfl) dX10_film_20 ⟨Nat.le_of_ble_eq_true rfl, Nat.le_of_ble_eq_true rfl⟩ ?_
  refine v_if_eq (tgt := 42) F dX10_film_23 (by decide) (fun hc17 => ?_) (fun hc17 => ?_)
  · rw [if_pos hc17] at h
    exact w_X10_film_b42 F hr hlk hxt hst t0 _ h
  · rw [if_neg hc17] at h
    refine v_iload F dX10_film_26 4 rfl ?_
    refine v_ldc (v := (-1000000)) F (F.1.2.2.2.2 _ (List.mem_cons_of_mem _ cn_X10_205)) dX10_film_28 ?_
    refine v_ldc (v := 1000000) F (F.1.2.2.2.2 _ (List.mem_cons_of_mem _ cn_X10_206)) dX10_film_30 ?_
    obtain ⟨⟨r18, M19⟩, hz20, h⟩ := bd_some h
    dsimp only at h
    refine v_callSi (As := [.int i4, .int (-1000000), .int 1000000]) (rest := []) F (c_X10_within l F.2.2.1  hz20) (cwS 3 F.1.2.2.2.2 (gU_S ml_X10_63 st_yX10_within ini_X10 cd_X10_within) rfl rfl rfl (by decide +kernel) ⟨Nat.le_of_ble_eq_true rfl, Nat.le_of_ble_eq_true rfl⟩) rfl rfl (Nat.le_of_ble_eq_true rfl) dX10_film_32 ⟨Nat.le_of_ble_eq_true rfl, Nat.le_of_ble_eq_true rfl⟩ ?_
    refine v_if_eq (tgt := 42) F dX10_film_35 (by decide) (fun hc22 => ?_) (fun hc22 => ?_)
    · rw [if_pos hc22] at h
      exact w_X10_film_b42 F hr hlk hxt hst t0 _ h
    · rw [if_neg hc22] at h
      refine v_iconst (v := 1) F dX10_film_38 (by decide) ?_
      refine v_goto (tgt := 43) F dX10_film_39 (by decide) ?_
      exact w_X10_film_b43 F hr hlk hxt hst t0 _ _ h
