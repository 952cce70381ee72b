def f_X8_at (g : gT)  (M : Mem) (a0 : Nat) (i1 : Int32) : Option (Int32 × Mem) := if i1 < 0 then (some (0, M)) else (if (nI (gN g (gRf g a0 0))) ≤ i1 then (some (0, M)) else (if ¬ (i1 < 0 ∨ gN g (gRf g a0 0) ≤ i1.toNatClampNeg) then (some (M (gRf g a0 0) i1.toNatClampNeg, M)) else none))
theorem in_X8_at_8 : ∀ w ∈ u_ws RX8 TX8 1, w ∈ wsX8_at := by decide +kernel
set_option maxHeartbeats 4000000 in
set_option maxRecDepth 100000 in
theorem c_X8_at {g : gT} (l : Launch) (hok : gOK g)  {a0 : Nat} {i1 : Int32} {M : Mem} {z : Int32 × Mem}  (t0 : Ty g 8 a0) (h : f_X8_at g  M a0 i1 = some z) : Cn g l yX8_at wsX8_at 0 [.ref a0, .int i1] M (some (.int z.1)) z.2 := by
  refine Cn.of (cc := cX8_at) (maxL := 2) (ret := (some .int)) hok (by decide) rfl (Nat.le_of_ble_eq_true rfl) (fun p e s m args below meth c F hr hlk => ?_)
  unfold f_X8_at at h
  show V g p l e ({ frames := 0, cells := 0, slots := 0, locals := 40 * 0 } : Room) s m args below meth c 2 0 0 (MQ below (gQ g (some (.int z.1)) z.2) args s 0 0 (gA g)) 0 [(0, .ref a0), (1, .int i1)] [] M
  refine v_iload_n F dX8_at_0 rfl 1 rfl ?_
  refine v_if_lt (tgt := 22) F dX8_at_1 (by decide) (fun hc1 => ?_) (fun hc1 => ?_)
  · rw [if_pos hc1] at h
    refine v_iconst (v := 0) F dX8_at_22 (by decide) ?_
    cases h
    exact v_iret F hr rfl hlk dX8_at_23
  · rw [if_neg hc1] at h
    refine v_iload_n F dX8_at_4 rfl 1 rfl ?_
    refine v_aload_n F dX8_at_5 rfl 0 rfl ?_
    refine v_getR (k := 0) (f := 12) F t0 (by decide) in_X8_at_8 rfl rfl (by decide) (by decide) (by decide +kernel) rfl dX8_at_6 (fun u2 => ?_)
    refine v_alen (t0 := 0) F u2 (by decide) rfl dX8_at_9 ?_
    refine v_icmp_ge (tgt := 22) F dX8_at_10 (by decide) (fun hc3 => ?_) (fun hc3 => ?_)
    · rw [if_pos hc3] at h
      refine v_iconst (v := 0) F dX8_at_22 (by decide) ?_
      cases h
      exact v_iret F hr rfl hlk dX8_at_23
    · rw [if_neg hc3] at h
      refine v_aload_n F dX8_at_13 rfl 0 rfl ?_
      refine v_getR (k := 0) (f := 12) F t0 (by decide) in_X8_at_8 rfl rfl (by decide) (by decide) (by decide +kernel) rfl dX8_at_14 (fun u4 => ?_)
      refine v_iload_n F dX8_at_17 rfl 1 rfl ?_
      obtain ⟨hin5, h⟩ := gd_some h
      refine v_iald F u4 hin5 dX8_at_18 ?_
      refine v_goto (tgt := 23) F dX8_at_19 (by decide) ?_
      cases h
      exact v_iret F hr rfl hlk dX8_at_23
def f_X10_demand (g : gT)  (M : Mem) (i0 : Int32) : Option ((Int32 ⊕ Nat) × Mem) := if i0 = 0 then (some (.inr 0, M)) else (some (.inl 0, M))
set_option maxHeartbeats 4000000 in
set_option maxRecDepth 100000 in
theorem c_X10_demand {g : gT} (l : Launch) (hst : l.stackTraces = false) (hok : gOK g) {i0 : Int32} {M : Mem} {z : (Int32 ⊕ Nat) × Mem}  (h : f_X10_demand g M i0 = some z) : Cx g l yX10_demand wsX10_demand 6 1 6 [.int i0] M vV z := by
  refine Cx.of (cc := cX10_demand) (maxL := 1) (ret := none) hok (by decide) rfl (Nat.le_of_ble_eq_true rfl) (fun p e s m args below meth c F hr hlk hxt => ?_)
  unfold f_X10_demand at h
  show V g p l e ({ frames := 6, cells := 1, slots := 6, locals := 40 * 6 } : Room) s m args below meth c 1 0 0 (vx_MQ below (gQx g vV z) (gXx g z) args s 1 6 (gA g)) 0 [(0, .int i0)] [] M
  refine v_iload_n F dX10_demand_0 rfl 0 rfl ?_
  refine v_if_ne (tgt := 15) F dX10_demand_1 (by decide) (fun hc1 => ?_) (fun hc1 => ?_)
  · rw [if_neg hc1] at h
    cases h
    refine v_vretX F hr hlk dX10_demand_15 ?_ ?_ <;> decide
  · rw [if_pos hc1] at h
    cases h
    exact v_throwW (j := 0) (sx := 4) (text := "a number is out of its bounds") F hxt hlk hst rfl (by decide +kernel) (by decide +kernel) (by decide +kernel) (by decide +kernel) (by decide +kernel) (by decide +kernel) (by decide +kernel) dX10_demand_4 dX10_demand_7 dX10_demand_8 dX10_demand_11 dX10_demand_14 (by decide) (by decide) (by decide) (by decide) (by decide) (by decide)
def f_X10_within (g : gT)  (M : Mem) (i0 : Int32) (i1 : Int32) (i2 : Int32) : Option (Int32 × Mem) := if i0 < i1 then (some (0, M)) else (if i2 < i0 then (some (0, M)) else (some (1, M)))
set_option maxHeartbeats 4000000 in
set_option maxRecDepth 100000 in
theorem c_X10_within {g : gT} (l : Launch) (hok : gOK g)  {i0 : Int32} {i1 : Int32} {i2 : Int32} {M : Mem} {z : Int32 × Mem}   (h : f_X10_within g  M i0 i1 i2 = some z) : Cn g l yX10_within wsX10_within 0 [.int i0, .int i1, .int i2] M (some (.int z.1)) z.2 := by
  refine Cn.of (cc := cX10_within) (maxL := 3) (ret := (some .boolean)) hok (by decide) rfl (Nat.le_of_ble_eq_true rfl) (fun p e s m args below meth c F hr hlk => ?_)
  unfold f_X10_within at h
  show V g p l e ({ frames := 0, cells := 0, slots := 0, locals := 40 * 0 } : Room) s m args below meth c 3 0 0 (MQ below (gQ g (some (.int z.1)) z.2) args s 0 0 (gA g)) 0 [(0, .int i0), (1, .int i1), (2, .int i2)] [] M
  refine v_iload_n F dX10_within_0 rfl 0 rfl ?_
  refine v_iload_n F dX10_within_1 rfl 1 rfl ?_
  refine v_icmp_lt (tgt := 14) F dX10_within_2 (by decide) (fun hc1 => ?_) (fun hc1 => ?_)
  · rw [if_pos hc1] at h
    refine v_iconst (v := 0) F dX10_within_14 (by decide) ?_
    cases h
    exact v_iret F hr narrow_b0 hlk dX10_within_15
  · rw [if_neg hc1] at h
    refine v_iload_n F dX10_within_5 rfl 0 rfl ?_
    refine v_iload_n F dX10_within_6 rfl 2 rfl ?_
    refine v_icmp_gt (tgt := 14) F dX10_within_7 (by decide) (fun hc2 => ?_) (fun hc2 => ?_)
    · rw [if_pos hc2] at h
      refine v_iconst (v := 0) F dX10_within_14 (by decide) ?_
      cases h
      exact v_iret F hr narrow_b0 hlk dX10_within_15
    · rw [if_neg hc2] at h
      refine v_iconst (v := 1) F dX10_within_10 (by decide) ?_
      refine v_goto (tgt := 15) F dX10_within_11 (by decide) ?_
      cases h
      exact v_iret F hr narrow_b1 hlk dX10_within_15
def f_X10_demandPiece (g : gT)  (M : Mem) (a0 : Nat) (i1 : Int32) : Option ((Int32 ⊕ Nat) × Mem) := (f_X10_within g M i1 0 ((M (gRf g (gRf g a0 6) 0) 0) - 1)).bind fun q => match q with | (r3, M4) => (if r3 = 0 then (some (.inr 1, M4)) else (some (.inl 0, M4)))
theorem in_X10_demandPiece_1 : ∀ w ∈ u_ws RX1 TX1 10, w ∈ wsX10_demandPiece := by decide +kernel
theorem in_X10_demandPiece_7 : ∀ w ∈ u_ws RX7 TX7 5, w ∈ wsX10_demandPiece := by decide +kernel
theorem in_X10_demandPiece_10 : ∀ w ∈ u_ws RX10 TX10 11, w ∈ wsX10_demandPiece := by decide +kernel
set_option maxHeartbeats 4000000 in
set_option maxRecDepth 100000 in
theorem c_X10_demandPiece {g : gT} (l : Launch) (hst : l.stackTraces = false) (hok : gOK g) {a0 : Nat} {i1 : Int32} {M : Mem} {z : (Int32 ⊕ Nat) × Mem} (t0 : Ty g 10 a0) (h : f_X10_demandPiece g M a0 i1 = some z) : Cx g l yX10_demandPiece wsX10_demandPiece 6 1 6 [.ref a0, .int i1] M vV z := by
  refine Cx.of (cc := cX10_demandPiece) (maxL := 2) (ret := none) hok (by decide) rfl (Nat.le_of_ble_eq_true rfl) (fun p e s m args below meth c F hr hlk hxt => ?_)
  unfold f_X10_demandPiece at h
  show V g p l e ({ frames := 6, cells := 1, slots := 6, locals := 40 * 6 } : Room) s m args below meth c 2 0 0 (vx_MQ below (gQx g vV z) (gXx g z) args s 1 6 (gA g)) 0 [(0, .ref a0), (1, .int i1)] [] M
  refine v_iload_n F dX10_demandPiece_0 rfl 1 rfl ?_
  refine v_iconst (v := 0) F dX10_demandPiece_1 (by decide) ?_
  refine v_aload_n F dX10_demandPiece_2 rfl 0 rfl ?_
  refine v_getR (k := 6) (f := 7) F t0 (by decide) in_X10_demandPiece_10 rfl rfl (by decide) (by decide) (by decide +kernel) rfl dX10_demandPiece_3 (fun u1 => ?_)
  refine v_getR (k := 0) (f := 1) F u1 (by decide) in_X10_demandPiece_7 rfl rfl (by decide) (by decide) (by decide +kernel) rfl dX10_demandPiece_6 (fun u2 => ?_)
  refine v_getI (k := 0) F u2 (by decide) in_X10_demandPiece_1 rfl rfl (by decide) (by decide +kernel) rfl dX10_demandPiece_9 ?_
  refine v_iconst (v := 1) F dX10_demandPiece_12 (by decide) ?_
  refine v_isub F dX10_demandPiece_13 ?_
  obtain ⟨⟨r3, M4⟩, hz5, h⟩ := bd_some h
  dsimp only at h
  refine v_callSi (As := [.int i1, .int 0, .int ((M (gRf g (gRf g a0 6) 0) 0) - 1)]) (rest := []) F (c_X10_within l F.2.2.1  hz5) (cwS 3 F.1.2.2.2.2 gX10_demandPiece_X10_within rfl rfl rfl (by decide +kernel) ⟨Nat.le_of_ble_eq_true rfl, Nat.le_of_ble_eq_true rfl⟩) rfl rfl (Nat.le_of_ble_eq_true rfl) dX10_demandPiece_14 ⟨Nat.le_of_ble_eq_true rfl, Nat.le_of_ble_eq_true rfl⟩ ?_
  refine v_if_ne (tgt := 31) F dX10_demandPiece_17 (by decide) (fun hc7 => ?_) (fun hc7 => ?_)
  · rw [if_neg hc7] at h
    cases h
    refine v_vretX F hr hlk dX10_demandPiece_31 ?_ ?_ <;> decide
  · rw [if_pos hc7] at h
    cases h
    exact v_throwW (j := 1) (sx := 5) (text := "no such piece") F hxt hlk hst rfl (by decide +kernel) (by decide +kernel) (by decide +kernel) (by decide +kernel) (by decide +kernel) (by decide +kernel) (by decide +kernel) dX10_demandPiece_20 dX10_demandPiece_23 dX10_demandPiece_24 dX10_demandPiece_27 dX10_demandPiece_30 (by decide) (by decide) (by decide) (by decide) (by decide) (by decide)
def f_X10_demandShape_b23 (g : gT) (i0 : Int32) (i1 : Int32)  (s0 : Int32) (M : Mem) : Option ((Int32 ⊕ Nat) × Mem) := (f_X10_demand g M s0).bind fun q => match q with | (.inr j14, M12) => some (.inr j14, M12) | (.inl r11, M12) => (some (.inl 0, M12))
def f_X10_demandShape_b22 (g : gT) (i0 : Int32) (i1 : Int32)   (M : Mem) : Option ((Int32 ⊕ Nat) × Mem) := f_X10_demandShape_b23 g i0 i1 0 M
def f_X10_demandShape (g : gT)  (M : Mem) (i0 : Int32) (i1 : Int32) : Option ((Int32 ⊕ Nat) × Mem) := (f_X10_within g M i0 0 1).bind fun q => match q with | (r1, M2) => (if r1 = 0 then (f_X10_demandShape_b22 g i0 i1 M2) else ((f_X10_within g M2 i1 1 4).bind fun q => match q with | (r6, M7) => (if r6 = 0 then (f_X10_demandShape_b22 g i0 i1 M7) else (f_X10_demandShape_b23 g i0 i1 1 M7))))
set_option maxHeartbeats 4000000 in
set_option maxRecDepth 100000 in
theorem w_X10_demandShape_b23 {g : gT} {p : Program} {l : Launch} {e : Env} {s : State} {m : MethodId} {args : Array Value} {below : List Frame} {meth : Method} {c : Code} {z : (Int32 ⊕ Nat) × Mem} (F : Fx g p s m args c cX10_demandShape 2 wsX10_demandShape RX10) (hr : meth.sig.returnType = none) (hlk : meth.locks = false) (hxt : ∀ x ∈ c.exceptionTable.toList, False) (hst : l.stackTraces = false)  {i0 : Int32} {i1 : Int32}    (s0 : Int32) (M : Mem)  (h : f_X10_demandShape_b23 g i0 i1 s0 M = some z) : V g p l e ({ frames := 7, cells := 1, slots := 6, locals := 40 * 7 } : Room) s m args below meth c 2 0 0 (vx_MQ below (gQx g vV z) (gXx g z) args s 1 6 (gA g)) 23 [(0, .int i0), (1, .int i1)] [.int s0] M := by
  unfold f_X10_demandShape_b23 at h
  obtain ⟨⟨r11 | j14, M12⟩, hz13, h⟩ := bd_some h
  rotate_left
  · dsimp only at h; cases h; exact v_callSxT (As := [.int s0]) (rest := []) F (c_X10_demand l hst F.2.2.1  hz13) (cwS 1 F.1.2.2.2.2 gX10_demandShape_X10_demand rfl rfl rfl (by decide +kernel) ⟨Nat.le_of_ble_eq_true rfl, Nat.le_of_ble_eq_true rfl⟩) rfl rfl (Nat.le_of_ble_eq_true rfl) dX10_demandShape_23 ⟨Nat.le_of_ble_eq_true rfl, Nat.le_of_ble_eq_true rfl⟩ (vx_outV hxt hlk (by decide) (by decide))
  dsimp only at h
  refine v_callSxv (As := [.int s0]) (rest := []) F (c_X10_demand l hst F.2.2.1  hz13) (cwS 1 F.1.2.2.2.2 gX10_demandShape_X10_demand rfl rfl rfl (by decide +kernel) ⟨Nat.le_of_ble_eq_true rfl, Nat.le_of_ble_eq_true rfl⟩) rfl rfl (Nat.le_of_ble_eq_true rfl) dX10_demandShape_23 ⟨Nat.le_of_ble_eq_true rfl, Nat.le_of_ble_eq_true rfl⟩ ?_
  cases h
  refine v_vretX F hr hlk dX10_demandShape_26 ?_ ?_ <;> decide
set_option maxHeartbeats 4000000 in
set_option maxRecDepth 100000 in
theorem w_X10_demandShape_b22 {g : gT} {p : Program} {l : Launch} {e : Env} {s : State} {m : MethodId} {args : Array Value} {below : List Frame} {meth : Method} {c : Code} {z : (Int32 ⊕ Nat) × Mem} (F : Fx g p s m args c cX10_demandShape 2 wsX10_demandShape RX10) (hr : meth.sig.returnType = none) (hlk : meth.locks = false) (hxt : ∀ x ∈ c.exceptionTable.toList, False) (hst : l.stackTraces = false)  {i0 : Int32} {i1 : Int32}     (M : Mem)  (h : f_X10_demandShape_b22 g i0 i1 M = some z) : V g p l e ({ frames := 7, cells := 1, slots := 6, locals := 40 * 7 } : Room) s m args below meth c 2 0 0 (vx_MQ below (gQx g vV z) (gXx g z) args s 1 6 (gA g)) 22 [(0, .int i0), (1, .int i1)] [] M := by
  unfold f_X10_demandShape_b22 at h
  refine v_iconst (v := 0) F dX10_demandShape_22 (by decide) ?_
  exact w_X10_demandShape_b23 F hr hlk hxt hst _ _ h
set_option maxHeartbeats 4000000 in
set_option maxRecDepth 100000 in
theorem c_X10_demandShape {g : gT} (l : Launch) (hst : l.stackTraces = false) (hok : gOK g) {i0 : Int32} {i1 : Int32} {M : Mem} {z : (Int32 ⊕ Nat) × Mem}  (h : f_X10_demandShape g M i0 i1 = some z) : Cx g l yX10_demandShape wsX10_demandShape 7 1 6 [.int i0, .int i1] M vV z := by
  refine Cx.of (cc := cX10_demandShape) (maxL := 2) (ret := none) hok (by decide) rfl (Nat.le_of_ble_eq_true rfl) (fun p e s m args below meth c F hr hlk hxt => ?_)
  unfold f_X10_demandShape at h
  show V g p l e ({ frames := 7, cells := 1, slots := 6, locals := 40 * 7 } : Room) s m args below meth c 2 0 0 (vx_MQ below (gQx g vV z) (gXx g z) args s 1 6 (gA g)) 0 [(0, .int i0), (1, .int i1)] [] M
  refine v_iload_n F dX10_demandShape_0 rfl 0 rfl ?_
  refine v_iconst (v := 0) F dX10_demandShape_1 (by decide) ?_
  refine v_iconst (v := 1) F dX10_demandShape_2 (by decide) ?_
  obtain ⟨⟨r1, M2⟩, hz3, h⟩ := bd_some h
  dsimp only at h
  refine v_callSi (As := [.int i0, .int 0, .int 1]) (rest := []) F (c_X10_within l F.2.2.1  hz3) (cwS 3 F.1.2.2.2.2 gX10_demandShape_X10_within rfl rfl rfl (by decide +kernel) ⟨Nat.le_of_ble_eq_true rfl, Nat.le_of_ble_eq_true rfl⟩) rfl rfl (Nat.le_of_ble_eq_true rfl) dX10_demandShape_3 ⟨Nat.le_of_ble_eq_true rfl, Nat.le_of_ble_eq_true rfl⟩ ?_
  refine v_if_eq (tgt := 22) F dX10_demandShape_6 (by decide) (fun hc5 => ?_) (fun hc5 => ?_)
  · rw [if_pos hc5] at h
    exact w_X10_demandShape_b22 F hr hlk hxt hst _ h
  · rw [if_neg hc5] at h
    refine v_iload_n F dX10_demandShape_9 rfl 1 rfl ?_
    refine v_iconst (v := 1) F dX10_demandShape_10 (by decide) ?_
    refine v_iconst (v := 4) F dX10_demandShape_11 (by decide) ?_
    obtain ⟨⟨r6, M7⟩, hz8, h⟩ := bd_some h
    dsimp only at h
    refine v_callSi (As := [.int i1, .int 1, .int 4]) (rest := []) F (c_X10_within l F.2.2.1  hz8) (cwS 3 F.1.2.2.2.2 gX10_demandShape_X10_within rfl rfl rfl (by decide +kernel) ⟨Nat.le_of_ble_eq_true rfl, Nat.le_of_ble_eq_true rfl⟩) rfl rfl (Nat.le_of_ble_eq_true rfl) dX10_demandShape_12 ⟨Nat.le_of_ble_eq_true rfl, Nat.le_of_ble_eq_true rfl⟩ ?_
    refine v_if_eq (tgt := 22) F dX10_demandShape_15 (by decide) (fun hc10 => ?_) (fun hc10 => ?_)
    · rw [if_pos hc10] at h
      exact w_X10_demandShape_b22 F hr hlk hxt hst _ h
    · rw [if_neg hc10] at h
      refine v_iconst (v := 1) F dX10_demandShape_18 (by decide) ?_
      refine v_goto (tgt := 23) F dX10_demandShape_19 (by decide) ?_
      exact w_X10_demandShape_b23 F hr hlk hxt hst _ _ h
def f_X10_demandWind (g : gT)  (M : Mem) (i0 : Int32) : Option ((Int32 ⊕ Nat) × Mem) := (f_X10_within g M i0 0 99).bind fun q => match q with | (r1, M2) => ((f_X10_demand g M2 r1).bind fun q => match q with | (.inr j8, M6) => some (.inr j8, M6) | (.inl r5, M6) => (some (.inl 0, M6)))
set_option maxHeartbeats 4000000 in
set_option maxRecDepth 100000 in
theorem c_X10_demandWind {g : gT} (l : Launch) (hst : l.stackTraces = false) (hok : gOK g) {i0 : Int32} {M : Mem} {z : (Int32 ⊕ Nat) × Mem}  (h : f_X10_demandWind g M i0 = some z) : Cx g l yX10_demandWind wsX10_demandWind 7 1 6 [.int i0] M vV z := by
  refine Cx.of (cc := cX10_demandWind) (maxL := 1) (ret := none) hok (by decide) rfl (Nat.le_of_ble_eq_true rfl) (fun p e s m args below meth c F hr hlk hxt => ?_)
  unfold f_X10_demandWind at h
  show V g p l e ({ frames := 7, cells := 1, slots := 6, locals := 40 * 7 } : Room) s m args below meth c 1 0 0 (vx_MQ below (gQx g vV z) (gXx g z) args s 1 6 (gA g)) 0 [(0, .int i0)] [] M
  refine v_iload_n F dX10_demandWind_0 rfl 0 rfl ?_
  refine v_iconst (v := 0) F dX10_demandWind_1 (by decide) ?_
  refine v_bipush (v := 99) F dX10_demandWind_2 (by decide) ?_
  obtain ⟨⟨r1, M2⟩, hz3, h⟩ := bd_some h
  dsimp only at h
  refine v_callSi (As := [.int i0, .int 0, .int 99]) (rest := []) F (c_X10_within l F.2.2.1  hz3) (cwS 3 F.1.2.2.2.2 gX10_demandWind_X10_within rfl rfl rfl (by decide +kernel) ⟨Nat.le_of_ble_eq_true rfl, Nat.le_of_ble_eq_true rfl⟩) rfl rfl (Nat.le_of_ble_eq_true rfl) dX10_demandWind_4 ⟨Nat.le_of_ble_eq_true rfl, Nat.le_of_ble_eq_true rfl⟩ ?_
  obtain ⟨⟨r5 | j8, M6⟩, hz7, h⟩ := bd_some h
  rotate_left
  · dsimp only at h; cases h; exact v_callSxT (As := [.int r1]) (rest := []) F (c_X10_demand l hst F.2.2.1  hz7) (cwS 1 F.1.2.2.2.2 gX10_demandWind_X10_demand rfl rfl rfl (by decide +kernel) ⟨Nat.le_of_ble_eq_true rfl, Nat.le_of_ble_eq_true rfl⟩) rfl rfl (Nat.le_of_ble_eq_true rfl) dX10_demandWind_7 ⟨Nat.le_of_ble_eq_true rfl, Nat.le_of_ble_eq_true rfl⟩ (vx_outV hxt hlk (by decide) (by decide))
  dsimp only at h
  refine v_callSxv (As := [.int r1]) (rest := []) F (c_X10_demand l hst F.2.2.1  hz7) (cwS 1 F.1.2.2.2.2 gX10_demandWind_X10_demand rfl rfl rfl (by decide +kernel) ⟨Nat.le_of_ble_eq_true rfl, Nat.le_of_ble_eq_true rfl⟩) rfl rfl (Nat.le_of_ble_eq_true rfl) dX10_demandWind_7 ⟨Nat.le_of_ble_eq_true rfl, Nat.le_of_ble_eq_true rfl⟩ ?_
  cases h
  refine v_vretX F hr hlk dX10_demandWind_10 ?_ ?_ <;> decide
def f_X10_lawNumbered_b30 (g : gT) (a0 : Nat) (i1 : Int32)   (M : Mem) : Option ((Nat ⊕ Nat) × Mem) := some (.inr 2, M)
def f_X10_lawNumbered (g : gT)  (M : Mem) (a0 : Nat) (i1 : Int32) : Option ((Nat ⊕ Nat) × Mem) := if i1 < 0 then (f_X10_lawNumbered_b30 g a0 i1 M) else (if (M a0 4) ≤ i1 then (f_X10_lawNumbered_b30 g a0 i1 M) else (if (nI (gN g (gRf g a0 3))) ≤ i1 then (f_X10_lawNumbered_b30 g a0 i1 M) else (if ¬ (i1 < 0 ∨ gN g (gRf g a0 3) ≤ i1.toNatClampNeg) then (some (.inl (gRf g (gRf g a0 3) i1.toNatClampNeg), M)) else none)))
theorem in_X10_lawNumbered_10 : ∀ w ∈ u_ws RX10 TX10 11, w ∈ wsX10_lawNumbered := by decide +kernel
set_option maxHeartbeats 4000000 in
set_option maxRecDepth 100000 in
theorem w_X10_lawNumbered_b30 {g : gT} {p : Program} {l : Launch} {e : Env} {s : State} {m : MethodId} {args : Array Value} {below : List Frame} {meth : Method} {c : Code} {z : (Nat ⊕ Nat) × Mem} (F : Fx g p s m args c cX10_lawNumbered 3 wsX10_lawNumbered RX10) (hr : meth.sig.returnType = (some (.object "GallopRoads$Law"))) (hlk : meth.locks = false) (hxt : ∀ x ∈ c.exceptionTable.toList, False) (hst : l.stackTraces = false)  {a0 : Nat} {i1 : Int32} (t0 : Ty g 10 a0)    (M : Mem)  (h : f_X10_lawNumbered_b30 g a0 i1 M = some z) : V g p l e ({ frames := 6, cells := 1, slots := 6, locals := 40 * 6 } : Room) s m args below meth c 3 0 0 (vx_MQ below (gQx g vR z) (gXx g z) args s 1 6 (gA g)) 30 [(0, .ref a0), (1, .int i1)] [] M := by
  unfold f_X10_lawNumbered_b30 at h
  refine v_null F dX10_lawNumbered_30 ?_
  refine v_astore_nN (lv' := [(2, .null), (0, .ref a0), (1, .int i1)]) F dX10_lawNumbered_31 rfl (by decide) rfl ?_
  refine v_aload_nN F dX10_lawNumbered_32 rfl 0 rfl ?_
  refine v_ifnonnullN F dX10_lawNumbered_33 ?_
  cases h
  exact v_throwW (j := 2) (sx := 7) (text := "no such law") F hxt hlk hst rfl (by decide +kernel) (by decide +kernel) (by decide +kernel) (by decide +kernel) (by decide +kernel) (by decide +kernel) (by decide +kernel) dX10_lawNumbered_36 dX10_lawNumbered_39 dX10_lawNumbered_40 dX10_lawNumbered_43 dX10_lawNumbered_46 (by decide) (by decide) (by decide) (by decide) (by decide) (by decide)
set_option maxHeartbeats 4000000 in
set_option maxRecDepth 100000 in
theorem c_X10_lawNumbered {g : gT} (l : Launch) (hst : l.stackTraces = false) (hok : gOK g) {a0 : Nat} {i1 : Int32} {M : Mem} {z : (Nat ⊕ Nat) × Mem} (t0 : Ty g 10 a0) (h : f_X10_lawNumbered g M a0 i1 = some z) : Cx g l yX10_lawNumbered wsX10_lawNumbered 6 1 6 [.ref a0, .int i1] M vR z := by
  refine Cx.of (cc := cX10_lawNumbered) (maxL := 3) (ret := (some (.object "GallopRoads$Law"))) hok (by decide) rfl (Nat.le_of_ble_eq_true rfl) (fun p e s m args below meth c F hr hlk hxt => ?_)
  unfold f_X10_lawNumbered at h
  show V g p l e ({ frames := 6, cells := 1, slots := 6, locals := 40 * 6 } : Room) s m args below meth c 3 0 0 (vx_MQ below (gQx g vR z) (gXx g z) args s 1 6 (gA g)) 0 [(0, .ref a0), (1, .int i1)] [] M
  refine v_iload_n F dX10_lawNumbered_0 rfl 1 rfl ?_
  refine v_if_lt (tgt := 30) F dX10_lawNumbered_1 (by decide) (fun hc1 => ?_) (fun hc1 => ?_)
  · rw [if_pos hc1] at h
    exact w_X10_lawNumbered_b30 F hr hlk hxt hst t0 _ h
  · rw [if_neg hc1] at h
    refine v_iload_n F dX10_lawNumbered_4 rfl 1 rfl ?_
    refine v_aload_n F dX10_lawNumbered_5 rfl 0 rfl ?_
    refine v_getI (k := 4) F t0 (by decide) in_X10_lawNumbered_10 rfl rfl (by decide) (by decide +kernel) rfl dX10_lawNumbered_6 ?_
    refine v_icmp_ge (tgt := 30) F dX10_lawNumbered_9 (by decide) (fun hc2 => ?_) (fun hc2 => ?_)
    · rw [if_pos hc2] at h
      exact w_X10_lawNumbered_b30 F hr hlk hxt hst t0 _ h
    · rw [if_neg hc2] at h
      refine v_iload_n F dX10_lawNumbered_12 rfl 1 rfl ?_
      refine v_aload_n F dX10_lawNumbered_13 rfl 0 rfl ?_
      refine v_getR (k := 3) (f := 14) F t0 (by decide) in_X10_lawNumbered_10 rfl rfl (by decide) (by decide) (by decide +kernel) rfl dX10_lawNumbered_14 (fun u3 => ?_)
      refine v_alen (t0 := 2) F u3 (by decide) rfl dX10_lawNumbered_17 ?_
      refine v_icmp_ge (tgt := 30) F dX10_lawNumbered_18 (by decide) (fun hc4 => ?_) (fun hc4 => ?_)
      · rw [if_pos hc4] at h
        exact w_X10_lawNumbered_b30 F hr hlk hxt hst t0 _ h
      · rw [if_neg hc4] at h
        refine v_aload_n F dX10_lawNumbered_21 rfl 0 rfl ?_
        refine v_getR (k := 3) (f := 14) F t0 (by decide) in_X10_lawNumbered_10 rfl rfl (by decide) (by decide) (by decide +kernel) rfl dX10_lawNumbered_22 (fun u5 => ?_)
        refine v_iload_n F dX10_lawNumbered_25 rfl 1 rfl ?_
        obtain ⟨hin6, h⟩ := gd_some h
        refine v_aald (ke := 3) (t0 := 2) F u5 (by decide) rfl rfl hin6 dX10_lawNumbered_26 (fun u7 => ?_)
        refine v_goto (tgt := 31) F dX10_lawNumbered_27 (by decide) ?_
        refine v_astore_n (lv' := [(2, .ref (gRf g (gRf g a0 3) i1.toNatClampNeg)), (0, .ref a0), (1, .int i1)]) F dX10_lawNumbered_31 rfl (by decide) rfl ?_
        refine v_aload_n F dX10_lawNumbered_32 rfl 0 rfl ?_
        refine v_ifnonnull (tgt := 47) F dX10_lawNumbered_33 (by decide) ?_
        refine v_aload_n F dX10_lawNumbered_47 rfl 0 rfl ?_
        cases h
        refine v_aretX F hr hlk dX10_lawNumbered_48 ?_ ?_ <;> decide
theorem ty_X10_lawNumbered {g : gT} {M : Mem} {a0 : Nat} {i1 : Int32} {r : Nat} {M1 : Mem} (hok : gOK g) (t0 : Ty g 10 a0) (h : f_X10_lawNumbered g M a0 i1 = some (.inl r, M1)) : Ty g 3 r := by
  have hb : ¬ f_X10_lawNumbered_b30 g a0 i1 M = some (.inl r, M1) := by
    unfold f_X10_lawNumbered_b30
    intro h
    cases h
  unfold f_X10_lawNumbered at h
  by_cases c1 : i1 < 0
  · rw [if_pos c1] at h; exact (hb h).elim
  rw [if_neg c1] at h
  by_cases c2 : M a0 4 ≤ i1
  · rw [if_pos c2] at h; exact (hb h).elim
  rw [if_neg c2] at h
  by_cases c3 : nI (gN g (gRf g a0 3)) ≤ i1
  · rw [if_pos c3] at h; exact (hb h).elim
  rw [if_neg c3] at h
  obtain ⟨hin, h⟩ := gd_some h
  cases h
  exact (ty_row hok (ty_get hok t0 (by decide) rfl (by decide)).1 (Nat.not_le.mp fun q => hin (Or.inr q)) (Or.inl ⟨rfl, rfl⟩)).1

def f_X10_demandBridge (g : gT)  (M : Mem) (a0 : Nat) (i1 : Int32) : Option ((Int32 ⊕ Nat) × Mem) := (f_X10_within g M i1 0 ((M (gRf g (gRf g a0 6) 3) 0) - 1)).bind fun q => match q with | (r3, M4) => (if r3 = 0 then (some (.inr 1, M4)) else (some (.inl 0, M4)))
theorem in_X10_demandBridge_0 : ∀ w ∈ u_ws RX0 TX0 3, w ∈ wsX10_demandBridge := by decide +kernel
theorem in_X10_demandBridge_7 : ∀ w ∈ u_ws RX7 TX7 5, w ∈ wsX10_demandBridge := by decide +kernel
theorem in_X10_demandBridge_10 : ∀ w ∈ u_ws RX10 TX10 11, w ∈ wsX10_demandBridge := by decide +kernel
set_option maxHeartbeats 4000000 in
set_option maxRecDepth 100000 in
theorem c_X10_demandBridge {g : gT} (l : Launch) (hst : l.stackTraces = false) (hok : gOK g) {a0 : Nat} {i1 : Int32} {M : Mem} {z : (Int32 ⊕ Nat) × Mem} (t0 : Ty g 10 a0) (h : f_X10_demandBridge g M a0 i1 = some z) : Cx g l yX10_demandBridge wsX10_demandBridge 6 1 6 [.ref a0, .int i1] M vV z := by
  refine Cx.of (cc := cX10_demandBridge) (maxL := 2) (ret := none) hok (by decide) rfl (Nat.le_of_ble_eq_true rfl) (fun p e s m args below meth c F hr hlk hxt => ?_)
  unfold f_X10_demandBridge at h
  show V g p l e ({ frames := 6, cells := 1, slots := 6, locals := 40 * 6 } : Room) s m args below meth c 2 0 0 (vx_MQ below (gQx g vV z) (gXx g z) args s 1 6 (gA g)) 0 [(0, .ref a0), (1, .int i1)] [] M
  refine v_iload_n F dX10_demandBridge_0 rfl 1 rfl ?_
  refine v_iconst (v := 0) F dX10_demandBridge_1 (by decide) ?_
  refine v_aload_n F dX10_demandBridge_2 rfl 0 rfl ?_
  refine v_getR (k := 6) (f := 7) F t0 (by decide) in_X10_demandBridge_10 rfl rfl (by decide) (by decide) (by decide +kernel) rfl dX10_demandBridge_3 (fun u1 => ?_)
  refine v_getR (k := 3) (f := 0) F u1 (by decide) in_X10_demandBridge_7 rfl rfl (by decide) (by decide) (by decide +kernel) rfl dX10_demandBridge_6 (fun u2 => ?_)
  refine v_getI (k := 0) F u2 (by decide) in_X10_demandBridge_0 rfl rfl (by decide) (by decide +kernel) rfl dX10_demandBridge_9 ?_
  refine v_iconst (v := 1) F dX10_demandBridge_12 (by decide) ?_
  refine v_isub F dX10_demandBridge_13 ?_
  obtain ⟨⟨r3, M4⟩, hz5, h⟩ := bd_some h
  dsimp only at h
  refine v_callSi (As := [.int i1, .int 0, .int ((M (gRf g (gRf g a0 6) 3) 0) - 1)]) (rest := []) F (c_X10_within l F.2.2.1  hz5) (cwS 3 F.1.2.2.2.2 gX10_demandBridge_X10_within rfl rfl rfl (by decide +kernel) ⟨Nat.le_of_ble_eq_true rfl, Nat.le_of_ble_eq_true rfl⟩) rfl rfl (Nat.le_of_ble_eq_true rfl) dX10_demandBridge_14 ⟨Nat.le_of_ble_eq_true rfl, Nat.le_of_ble_eq_true rfl⟩ ?_
  refine v_if_ne (tgt := 31) F dX10_demandBridge_17 (by decide) (fun hc7 => ?_) (fun hc7 => ?_)
  · rw [if_neg hc7] at h
    cases h
    refine v_vretX F hr hlk dX10_demandBridge_31 ?_ ?_ <;> decide
  · rw [if_pos hc7] at h
    cases h
    exact v_throwW (j := 1) (sx := 6) (text := "no such bridge") F hxt hlk hst rfl (by decide +kernel) (by decide +kernel) (by decide +kernel) (by decide +kernel) (by decide +kernel) (by decide +kernel) (by decide +kernel) dX10_demandBridge_20 dX10_demandBridge_23 dX10_demandBridge_24 dX10_demandBridge_27 dX10_demandBridge_30 (by decide) (by decide) (by decide) (by decide) (by decide) (by decide)
def f_X10_piece (g : gT)  (M : Mem) (a0 : Nat) (i1 : Int32) (i2 : Int32) : Option ((Int32 ⊕ Nat) × Mem) := (f_X10_demandPiece g M a0 i1).bind fun q => match q with | (.inr j4, M2) => some (.inr j4, M2) | (.inl r1, M2) => (if i2 = 0 then ((f_X8_at g M2 (gRf g (gRf g (gRf g a0 6) 0) 3) i1).bind fun q => match q with | (r9, M10) => (some (.inl r9, M10))) else (if i2 = 1 then ((f_X8_at g M2 (gRf g (gRf g (gRf g a0 6) 0) 4) i1).bind fun q => match q with | (r17, M18) => (some (.inl r17, M18))) else (if i2 = 2 then ((f_X8_at g M2 (gRf g (gRf g (gRf g a0 6) 0) 5) i1).bind fun q => match q with | (r25, M26) => (some (.inl r25, M26))) else (if i2 = 3 then ((f_X8_at g M2 (gRf g (gRf g (gRf g a0 6) 0) 6) i1).bind fun q => match q with | (r33, M34) => (some (.inl r33, M34))) else (if i2 = 4 then ((f_X8_at g M2 (gRf g (gRf g (gRf g a0 6) 0) 7) i1).bind fun q => match q with | (r41, M42) => (some (.inl r41, M42))) else (if i2 = 5 then ((f_X8_at g M2 (gRf g (gRf g (gRf g a0 6) 0) 8) i1).bind fun q => match q with | (r49, M50) => (some (.inl r49, M50))) else (some (.inr 0, M2))))))))
theorem in_X10_piece_1 : ∀ w ∈ u_ws RX1 TX1 10, w ∈ wsX10_piece := by decide +kernel
theorem in_X10_piece_7 : ∀ w ∈ u_ws RX7 TX7 5, w ∈ wsX10_piece := by decide +kernel
theorem in_X10_piece_10 : ∀ w ∈ u_ws RX10 TX10 11, w ∈ wsX10_piece := by decide +kernel
set_option maxHeartbeats 4000000 in
set_option maxRecDepth 100000 in
theorem c_X10_piece {g : gT} (l : Launch) (hst : l.stackTraces = false) (hok : gOK g) {a0 : Nat} {i1 : Int32} {i2 : Int32} {M : Mem} {z : (Int32 ⊕ Nat) × Mem} (t0 : Ty g 10 a0) (h : f_X10_piece g M a0 i1 i2 = some z) : Cx g l yX10_piece wsX10_piece 7 2 12 [.ref a0, .int i1, .int i2] M vI z := by
  refine Cx.of (cc := cX10_piece) (maxL := 3) (ret := (some .int)) hok (by decide) rfl (Nat.le_of_ble_eq_true rfl) (fun p e s m args below meth c F hr hlk hxt => ?_)
  unfold f_X10_piece at h
  show V g p l e ({ frames := 7, cells := 2, slots := 12, locals := 40 * 7 } : Room) s m args below meth c 3 0 0 (vx_MQ below (gQx g vI z) (gXx g z) args s 2 12 (gA g)) 0 [(0, .ref a0), (1, .int i1), (2, .int i2)] [] M
  refine v_aload_n F dX10_piece_0 rfl 0 rfl ?_
  refine v_iload_n F dX10_piece_1 rfl 1 rfl ?_
  obtain ⟨⟨r1 | j4, M2⟩, hz3, h⟩ := bd_some h
  rotate_left
  · dsimp only at h; cases h; exact v_callVxT (As := [.int i1]) (rest := []) F (c_X10_demandPiece l hst F.2.2.1 t0 hz3) (cwV 1 F.1.2.2.2.2 gX10_piece_X10_demandPiece rfl rfl rfl (by decide +kernel) ⟨Nat.le_of_ble_eq_true rfl, Nat.le_of_ble_eq_true rfl⟩) t0 (by decide) rfl rfl rfl (Nat.le_of_ble_eq_true rfl) dX10_piece_2 ⟨Nat.le_of_ble_eq_true rfl, Nat.le_of_ble_eq_true rfl⟩ (vx_outV hxt hlk (by decide) (by decide))
  dsimp only at h
  refine v_callVxv (As := [.int i1]) (rest := []) F (c_X10_demandPiece l hst F.2.2.1 t0 hz3) (cwV 1 F.1.2.2.2.2 gX10_piece_X10_demandPiece rfl rfl rfl (by decide +kernel) ⟨Nat.le_of_ble_eq_true rfl, Nat.le_of_ble_eq_true rfl⟩) t0 (by decide) rfl rfl rfl (Nat.le_of_ble_eq_true rfl) dX10_piece_2 ⟨Nat.le_of_ble_eq_true rfl, Nat.le_of_ble_eq_true rfl⟩ ?_
  refine v_iload_n F dX10_piece_5 rfl 2 rfl ?_
  by_cases hs5 : i2 = 0
  · rw [if_pos hs5] at h
    rw [show (Value.int i2) = Value.int 0 from congrArg Value.int hs5]
    refine v_tableIn (tgt := 44) F dX10_piece_6 (by decide) (by decide) rfl (by decide) ?_
    refine v_aload_n F dX10_piece_44 rfl 0 rfl ?_
    refine v_getR (k := 6) (f := 7) F t0 (by decide) in_X10_piece_10 rfl rfl (by decide) (by decide) (by decide +kernel) rfl dX10_piece_45 (fun u6 => ?_)
    refine v_getR (k := 0) (f := 1) F u6 (by decide) in_X10_piece_7 rfl rfl (by decide) (by decide) (by decide +kernel) rfl dX10_piece_48 (fun u7 => ?_)
    refine v_getR (k := 3) (f := 8) F u7 (by decide) in_X10_piece_1 rfl rfl (by decide) (by decide) (by decide +kernel) rfl dX10_piece_51 (fun u8 => ?_)
    refine v_iload_n F dX10_piece_54 rfl 1 rfl ?_
    obtain ⟨⟨r9, M10⟩, hz11, h⟩ := bd_some h
    dsimp only at h
    refine v_callVi (As := [.int i1]) (rest := []) F (c_X8_at l F.2.2.1 u8 hz11) (cwV 1 F.1.2.2.2.2 gX10_piece_X8_at rfl rfl rfl (by decide +kernel) ⟨Nat.le_of_ble_eq_true rfl, Nat.le_of_ble_eq_true rfl⟩) u8 (by decide) rfl rfl rfl (Nat.le_of_ble_eq_true rfl) dX10_piece_55 ⟨Nat.le_of_ble_eq_true rfl, Nat.le_of_ble_eq_true rfl⟩ ?_
    cases h
    refine v_iretX F hr rfl hlk dX10_piece_58 ?_ ?_ <;> decide
  rw [if_neg hs5] at h
  by_cases hs13 : i2 = 1
  · rw [if_pos hs13] at h
    rw [show (Value.int i2) = Value.int 1 from congrArg Value.int hs13]
    refine v_tableIn (tgt := 59) F dX10_piece_6 (by decide) (by decide) rfl (by decide) ?_
    refine v_aload_n F dX10_piece_59 rfl 0 rfl ?_
    refine v_getR (k := 6) (f := 7) F t0 (by decide) in_X10_piece_10 rfl rfl (by decide) (by decide) (by decide +kernel) rfl dX10_piece_60 (fun u14 => ?_)
    refine v_getR (k := 0) (f := 1) F u14 (by decide) in_X10_piece_7 rfl rfl (by decide) (by decide) (by decide +kernel) rfl dX10_piece_63 (fun u15 => ?_)
    refine v_getR (k := 4) (f := 8) F u15 (by decide) in_X10_piece_1 rfl rfl (by decide) (by decide) (by decide +kernel) rfl dX10_piece_66 (fun u16 => ?_)
    refine v_iload_n F dX10_piece_69 rfl 1 rfl ?_
    obtain ⟨⟨r17, M18⟩, hz19, h⟩ := bd_some h
    dsimp only at h
    refine v_callVi (As := [.int i1]) (rest := []) F (c_X8_at l F.2.2.1 u16 hz19) (cwV 1 F.1.2.2.2.2 gX10_piece_X8_at rfl rfl rfl (by decide +kernel) ⟨Nat.le_of_ble_eq_true rfl, Nat.le_of_ble_eq_true rfl⟩) u16 (by decide) rfl rfl rfl (Nat.le_of_ble_eq_true rfl) dX10_piece_70 ⟨Nat.le_of_ble_eq_true rfl, Nat.le_of_ble_eq_true rfl⟩ ?_
    cases h
    refine v_iretX F hr rfl hlk dX10_piece_73 ?_ ?_ <;> decide
  rw [if_neg hs13] at h
  by_cases hs21 : i2 = 2
  · rw [if_pos hs21] at h
    rw [show (Value.int i2) = Value.int 2 from congrArg Value.int hs21]
    refine v_tableIn (tgt := 74) F dX10_piece_6 (by decide) (by decide) rfl (by decide) ?_
    refine v_aload_n F dX10_piece_74 rfl 0 rfl ?_
    refine v_getR (k := 6) (f := 7) F t0 (by decide) in_X10_piece_10 rfl rfl (by decide) (by decide) (by decide +kernel) rfl dX10_piece_75 (fun u22 => ?_)
    refine v_getR (k := 0) (f := 1) F u22 (by decide) in_X10_piece_7 rfl rfl (by decide) (by decide) (by decide +kernel) rfl dX10_piece_78 (fun u23 => ?_)
    refine v_getR (k := 5) (f := 8) F u23 (by decide) in_X10_piece_1 rfl rfl (by decide) (by decide) (by decide +kernel) rfl dX10_piece_81 (fun u24 => ?_)
    refine v_iload_n F dX10_piece_84 rfl 1 rfl ?_
    obtain ⟨⟨r25, M26⟩, hz27, h⟩ := bd_some h
    dsimp only at h
    refine v_callVi (As := [.int i1]) (rest := []) F (c_X8_at l F.2.2.1 u24 hz27) (cwV 1 F.1.2.2.2.2 gX10_piece_X8_at rfl rfl rfl (by decide +kernel) ⟨Nat.le_of_ble_eq_true rfl, Nat.le_of_ble_eq_true rfl⟩) u24 (by decide) rfl rfl rfl (Nat.le_of_ble_eq_true rfl) dX10_piece_85 ⟨Nat.le_of_ble_eq_true rfl, Nat.le_of_ble_eq_true rfl⟩ ?_
    cases h
    refine v_iretX F hr rfl hlk dX10_piece_88 ?_ ?_ <;> decide
  rw [if_neg hs21] at h
  by_cases hs29 : i2 = 3
  · rw [if_pos hs29] at h
    rw [show (Value.int i2) = Value.int 3 from congrArg Value.int hs29]
    refine v_tableIn (tgt := 89) F dX10_piece_6 (by decide) (by decide) rfl (by decide) ?_
    refine v_aload_n F dX10_piece_89 rfl 0 rfl ?_
    refine v_getR (k := 6) (f := 7) F t0 (by decide) in_X10_piece_10 rfl rfl (by decide) (by decide) (by decide +kernel) rfl dX10_piece_90 (fun u30 => ?_)
    refine v_getR (k := 0) (f := 1) F u30 (by decide) in_X10_piece_7 rfl rfl (by decide) (by decide) (by decide +kernel) rfl dX10_piece_93 (fun u31 => ?_)
    refine v_getR (k := 6) (f := 8) F u31 (by decide) in_X10_piece_1 rfl rfl (by decide) (by decide) (by decide +kernel) rfl dX10_piece_96 (fun u32 => ?_)
    refine v_iload_n F dX10_piece_99 rfl 1 rfl ?_
    obtain ⟨⟨r33, M34⟩, hz35, h⟩ := bd_some h
    dsimp only at h
    refine v_callVi (As := [.int i1]) (rest := []) F (c_X8_at l F.2.2.1 u32 hz35) (cwV 1 F.1.2.2.2.2 gX10_piece_X8_at rfl rfl rfl (by decide +kernel) ⟨Nat.le_of_ble_eq_true rfl, Nat.le_of_ble_eq_true rfl⟩) u32 (by decide) rfl rfl rfl (Nat.le_of_ble_eq_true rfl) dX10_piece_100 ⟨Nat.le_of_ble_eq_true rfl, Nat.le_of_ble_eq_true rfl⟩ ?_
    cases h
    refine v_iretX F hr rfl hlk dX10_piece_103 ?_ ?_ <;> decide
  rw [if_neg hs29] at h
  by_cases hs37 : i2 = 4
  · rw [if_pos hs37] at h
    rw [show (Value.int i2) = Value.int 4 from congrArg Value.int hs37]
    refine v_tableIn (tgt := 104) F dX10_piece_6 (by decide) (by decide) rfl (by decide) ?_
    refine v_aload_n F dX10_piece_104 rfl 0 rfl ?_
    refine v_getR (k := 6) (f := 7) F t0 (by decide) in_X10_piece_10 rfl rfl (by decide) (by decide) (by decide +kernel) rfl dX10_piece_105 (fun u38 => ?_)
    refine v_getR (k := 0) (f := 1) F u38 (by decide) in_X10_piece_7 rfl rfl (by decide) (by decide) (by decide +kernel) rfl dX10_piece_108 (fun u39 => ?_)
    refine v_getR (k := 7) (f := 8) F u39 (by decide) in_X10_piece_1 rfl rfl (by decide) (by decide) (by decide +kernel) rfl dX10_piece_111 (fun u40 => ?_)
    refine v_iload_n F dX10_piece_114 rfl 1 rfl ?_
    obtain ⟨⟨r41, M42⟩, hz43, h⟩ := bd_some h
    dsimp only at h
    refine v_callVi (As := [.int i1]) (rest := []) F (c_X8_at l F.2.2.1 u40 hz43) (cwV 1 F.1.2.2.2.2 gX10_piece_X8_at rfl rfl rfl (by decide +kernel) ⟨Nat.le_of_ble_eq_true rfl, Nat.le_of_ble_eq_true rfl⟩) u40 (by decide) rfl rfl rfl (Nat.le_of_ble_eq_true rfl) dX10_piece_115 ⟨Nat.le_of_ble_eq_true rfl, Nat.le_of_ble_eq_true rfl⟩ ?_
    cases h
    refine v_iretX F hr rfl hlk dX10_piece_118 ?_ ?_ <;> decide
  rw [if_neg hs37] at h
  by_cases hs45 : i2 = 5
  · rw [if_pos hs45] at h
    rw [show (Value.int i2) = Value.int 5 from congrArg Value.int hs45]
    refine v_tableIn (tgt := 119) F dX10_piece_6 (by decide) (by decide) rfl (by decide) ?_
    refine v_aload_n F dX10_piece_119 rfl 0 rfl ?_
    refine v_getR (k := 6) (f := 7) F t0 (by decide) in_X10_piece_10 rfl rfl (by decide) (by decide) (by decide +kernel) rfl dX10_piece_120 (fun u46 => ?_)
    refine v_getR (k := 0) (f := 1) F u46 (by decide) in_X10_piece_7 rfl rfl (by decide) (by decide) (by decide +kernel) rfl dX10_piece_123 (fun u47 => ?_)
    refine v_getR (k := 8) (f := 8) F u47 (by decide) in_X10_piece_1 rfl rfl (by decide) (by decide) (by decide +kernel) rfl dX10_piece_126 (fun u48 => ?_)
    refine v_iload_n F dX10_piece_129 rfl 1 rfl ?_
    obtain ⟨⟨r49, M50⟩, hz51, h⟩ := bd_some h
    dsimp only at h
    refine v_callVi (As := [.int i1]) (rest := []) F (c_X8_at l F.2.2.1 u48 hz51) (cwV 1 F.1.2.2.2.2 gX10_piece_X8_at rfl rfl rfl (by decide +kernel) ⟨Nat.le_of_ble_eq_true rfl, Nat.le_of_ble_eq_true rfl⟩) u48 (by decide) rfl rfl rfl (Nat.le_of_ble_eq_true rfl) dX10_piece_130 ⟨Nat.le_of_ble_eq_true rfl, Nat.le_of_ble_eq_true rfl⟩ ?_
    cases h
    refine v_iretX F hr rfl hlk dX10_piece_133 ?_ ?_ <;> decide
  rw [if_neg hs45] at h
  refine v_tableOut (tgt := 134) F dX10_piece_6 (sw_out 0 5 (by decide) (by decide) ?_) (by decide) ?_
  · intro j9 h1 h2
    obtain rfl | rfl | rfl | rfl | rfl | rfl : j9 = 0 ∨ j9 = 1 ∨ j9 = 2 ∨ j9 = 3 ∨ j9 = 4 ∨ j9 = 5 := by omega
    · exact fun q => hs5 (by rw [← Int32.toInt_inj]; exact q)
    · exact fun q => hs13 (by rw [← Int32.toInt_inj]; exact q)
    · exact fun q => hs21 (by rw [← Int32.toInt_inj]; exact q)
    · exact fun q => hs29 (by rw [← Int32.toInt_inj]; exact q)
    · exact fun q => hs37 (by rw [← Int32.toInt_inj]; exact q)
    · exact fun q => hs45 (by rw [← Int32.toInt_inj]; exact q)
  cases h
  exact v_throw (j := 0) (sx := 3) (text := "no such thing of a piece") F hxt hlk hst rfl (by decide +kernel) (by decide +kernel) (by decide +kernel) (by decide +kernel) (by decide +kernel) (by decide +kernel) (by decide +kernel) dX10_piece_134 dX10_piece_137 dX10_piece_138 dX10_piece_140 dX10_piece_143 (by decide) (by decide) (by decide) (by decide) (by decide) (by decide)
def f_X10_leastLine_b10 (g : gT) (i0 : Int32) (i1 : Int32)   (M : Mem) : Option (Int32 × Mem) := some (if i0 < i1 then i1 else i0, M)
def f_X10_leastLine (g : gT)  (M : Mem) (i0 : Int32) (i1 : Int32) : Option (Int32 × Mem) := if i0 = (-1) then (f_X10_leastLine_b10 g i0 i1 M) else (if i1 = (-1) then (f_X10_leastLine_b10 g i0 i1 M) else (some (if i1 < i0 then i1 else i0, M)))
set_option maxHeartbeats 4000000 in
set_option maxRecDepth 100000 in
theorem w_X10_leastLine_b10 {g : gT} {p : Program} {l : Launch} {e : Env} {s : State} {m : MethodId} {args : Array Value} {below : List Frame} {meth : Method} {c : Code} {z : Int32 × Mem} (F : Fx g p s m args c cX10_leastLine 2 wsX10_leastLine RX10) (hr : meth.sig.returnType = (some .int)) (hlk : meth.locks = false)  {i0 : Int32} {i1 : Int32}     (M : Mem)  (h : f_X10_leastLine_b10 g i0 i1 M = some z) : V g p l e ({ frames := 1, cells := 0, slots := 0, locals := 40 * 1 } : Room) s m args below meth c 2 0 0 (MQ below (gQ g (some (.int z.1)) z.2) args s 0 0 (gA g)) 10 [(0, .int i0), (1, .int i1)] [] M := by
  unfold f_X10_leastLine_b10 at h
  refine v_iload_n F dX10_leastLine_10 rfl 0 rfl ?_
  refine v_iload_n F dX10_leastLine_11 rfl 1 rfl ?_
  refine v_mmax F (by decide +kernel) (by decide +kernel) (by decide +kernel) (by decide +kernel) dX10_leastLine_12 ⟨Nat.le_of_ble_eq_true rfl, Nat.le_of_ble_eq_true rfl, Nat.le_of_ble_eq_true rfl, Nat.le_of_ble_eq_true rfl⟩ (Nat.le_of_ble_eq_true rfl) ?_
  cases h
  exact v_iret F hr rfl hlk dX10_leastLine_15
set_option maxHeartbeats 4000000 in
set_option maxRecDepth 100000 in
theorem c_X10_leastLine {g : gT} (l : Launch) (hok : gOK g)  {i0 : Int32} {i1 : Int32} {M : Mem} {z : Int32 × Mem}   (h : f_X10_leastLine g  M i0 i1 = some z) : Cn g l yX10_leastLine wsX10_leastLine 1 [.int i0, .int i1] M (some (.int z.1)) z.2 := by
  refine Cn.of (cc := cX10_leastLine) (maxL := 2) (ret := (some .int)) hok (by decide) rfl (Nat.le_of_ble_eq_true rfl) (fun p e s m args below meth c F hr hlk => ?_)
  unfold f_X10_leastLine at h
  show V g p l e ({ frames := 1, cells := 0, slots := 0, locals := 40 * 1 } : Room) s m args below meth c 2 0 0 (MQ below (gQ g (some (.int z.1)) z.2) args s 0 0 (gA g)) 0 [(0, .int i0), (1, .int i1)] [] M
  refine v_iload_n F dX10_leastLine_0 rfl 0 rfl ?_
  refine v_iconst (v := (-1)) F dX10_leastLine_1 (by decide) ?_
  refine v_icmp_eq (tgt := 10) F dX10_leastLine_2 (by decide) (fun hc1 => ?_) (fun hc1 => ?_)
  · rw [if_pos hc1] at h
    exact w_X10_leastLine_b10 F hr hlk _ h
  · rw [if_neg hc1] at h
    refine v_iload_n F dX10_leastLine_5 rfl 1 rfl ?_
    refine v_iconst (v := (-1)) F dX10_leastLine_6 (by decide) ?_
    refine v_icmp_ne (tgt := 16) F dX10_leastLine_7 (by decide) (fun hc2 => ?_) (fun hc2 => ?_)
    · rw [if_neg hc2] at h
      refine v_iload_n F dX10_leastLine_16 rfl 0 rfl ?_
      refine v_iload_n F dX10_leastLine_17 rfl 1 rfl ?_
      refine v_mmin F (by decide +kernel) (by decide +kernel) (by decide +kernel) (by decide +kernel) dX10_leastLine_18 ⟨Nat.le_of_ble_eq_true rfl, Nat.le_of_ble_eq_true rfl, Nat.le_of_ble_eq_true rfl, Nat.le_of_ble_eq_true rfl⟩ (Nat.le_of_ble_eq_true rfl) ?_
      cases h
      exact v_iret F hr rfl hlk dX10_leastLine_21
    · rw [if_pos hc2] at h
      exact w_X10_leastLine_b10 F hr hlk _ h
