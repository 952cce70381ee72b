def f_X8_at (g : gT) (M : Mem) (a0 : Nat) (i1 : Int32) : Option (Int32 × Mem) := if i1 < 0 then (some (0, M)) else (if (nI (gN g (gRf g a0 0))) ≤ i1 then (some (0, M)) else (if ¬ (i1 < 0 ∨ gN g (gRf g a0 0) ≤ i1.toNatClampNeg) then (some (M (gRf g a0 0) i1.toNatClampNeg, M)) else none))
theorem in_X8_at_8 : ∀ w ∈ u_ws RX8 TX8 1, w ∈ wsX8_at := by decide +kernel
set_option maxHeartbeats 4000000 in
set_option maxRecDepth 100000 in
theorem c_X8_at {g : gT} (l : Launch) (hok : gOK g) {a0 : Nat} {i1 : Int32} {M : Mem} {z : Int32 × Mem} (t0 : Ty g 8 a0) (h : f_X8_at g M a0 i1 = some z) : Cn g l yX8_at wsX8_at 0 [.ref a0, .int i1] M (some (.int z.1)) z.2 := by
  refine Cn.of (cc := cX8_at) (maxL := 2) (ret := (some .int)) hok (by decide) rfl (Nat.le_of_ble_eq_true rfl) (fun p e s m args below meth c F hr hlk => ?_)
  unfold f_X8_at at h
  show V g p l e ({ frames := 0, cells := 0, slots := 0, locals := 40 * 0 } : Room) s m args below meth c 2 0 0 (MQ below (gQ g (some (.int z.1)) z.2) args s 0 0 (gA g)) 0 [(0, .ref a0), (1, .int i1)] [] M
  refine v_iload_n F dX8_at_0 rfl 1 rfl ?_
  refine v_if_lt (tgt := 22) F dX8_at_1 (by decide) (fun hc1 => ?_) (fun hc1 => ?_)
  · rw [if_pos hc1] at h
    refine v_iconst (v := 0) F dX8_at_22 (by decide) ?_
    cases h
    exact v_iret F hr rfl hlk dX8_at_23
  · rw [if_neg hc1] at h
    refine v_iload_n F dX8_at_4 rfl 1 rfl ?_
    refine v_aload_n F dX8_at_5 rfl 0 rfl ?_
    refine v_getR (k := 0) (f := 12) F t0 (by decide) in_X8_at_8 rfl rfl (by decide) (by decide) (by decide +kernel) rfl dX8_at_6 (fun u2 => ?_)
    refine v_alen (t0 := 0) F u2 (by decide) rfl dX8_at_9 ?_
    refine v_icmp_ge (tgt := 22) F dX8_at_10 (by decide) (fun hc3 => ?_) (fun hc3 => ?_)
    · rw [if_pos hc3] at h
      refine v_iconst (v := 0) F dX8_at_22 (by decide) ?_
      cases h
      exact v_iret F hr rfl hlk dX8_at_23
    · rw [if_neg hc3] at h
      refine v_aload_n F dX8_at_13 rfl 0 rfl ?_
      refine v_getR (k := 0) (f := 12) F t0 (by decide) in_X8_at_8 rfl rfl (by decide) (by decide) (by decide +kernel) rfl dX8_at_14 (fun u4 => ?_)
      refine v_iload_n F dX8_at_17 rfl 1 rfl ?_
      obtain ⟨hin5, h⟩ := gd_some h
      refine v_iald F u4 hin5 dX8_at_18 ?_
      refine v_goto (tgt := 23) F dX8_at_19 (by decide) ?_
      cases h
      exact v_iret F hr rfl hlk dX8_at_23
def f_X8_put (g : gT) (M : Mem) (a0 : Nat) (i1 : Int32) (i2 : Int32) : Option (Int32 × Mem) := if i1 < 0 then (some (0, M)) else (if (nI (gN g (gRf g a0 0))) ≤ i1 then (some (0, M)) else (if ¬ (i1 < 0 ∨ gN g (gRf g a0 0) ≤ i1.toNatClampNeg) then (some (0, (mU M (gRf g a0 0) i1.toNatClampNeg i2))) else none))
theorem in_X8_put_8 : ∀ w ∈ u_ws RX8 TX8 1, w ∈ wsX8_put := by decide +kernel
set_option maxHeartbeats 4000000 in
set_option maxRecDepth 100000 in
theorem c_X8_put {g : gT} (l : Launch) (hok : gOK g) {a0 : Nat} {i1 : Int32} {i2 : Int32} {M : Mem} {z : Int32 × Mem} (t0 : Ty g 8 a0) (h : f_X8_put g M a0 i1 i2 = some z) : Cn g l yX8_put wsX8_put 0 [.ref a0, .int i1, .int i2] M none z.2 := by
  refine Cn.of (cc := cX8_put) (maxL := 3) (ret := none) hok (by decide) rfl (Nat.le_of_ble_eq_true rfl) (fun p e s m args below meth c F hr hlk => ?_)
  unfold f_X8_put at h
  show V g p l e ({ frames := 0, cells := 0, slots := 0, locals := 40 * 0 } : Room) s m args below meth c 3 0 0 (MQ below (gQ g none z.2) args s 0 0 (gA g)) 0 [(0, .ref a0), (1, .int i1), (2, .int i2)] [] M
  refine v_iload_n F dX8_put_0 rfl 1 rfl ?_
  refine v_if_lt (tgt := 20) F dX8_put_1 (by decide) (fun hc1 => ?_) (fun hc1 => ?_)
  · rw [if_pos hc1] at h
    cases h
    exact v_vret F hr hlk dX8_put_20
  · rw [if_neg hc1] at h
    refine v_iload_n F dX8_put_4 rfl 1 rfl ?_
    refine v_aload_n F dX8_put_5 rfl 0 rfl ?_
    refine v_getR (k := 0) (f := 12) F t0 (by decide) in_X8_put_8 rfl rfl (by decide) (by decide) (by decide +kernel) rfl dX8_put_6 (fun u2 => ?_)
    refine v_alen (t0 := 0) F u2 (by decide) rfl dX8_put_9 ?_
    refine v_icmp_ge (tgt := 20) F dX8_put_10 (by decide) (fun hc3 => ?_) (fun hc3 => ?_)
    · rw [if_pos hc3] at h
      cases h
      exact v_vret F hr hlk dX8_put_20
    · rw [if_neg hc3] at h
      refine v_aload_n F dX8_put_13 rfl 0 rfl ?_
      refine v_getR (k := 0) (f := 12) F t0 (by decide) in_X8_put_8 rfl rfl (by decide) (by decide) (by decide +kernel) rfl dX8_put_14 (fun u4 => ?_)
      refine v_iload_n F dX8_put_17 rfl 1 rfl ?_
      refine v_iload_n F dX8_put_18 rfl 2 rfl ?_
      obtain ⟨hin5, h⟩ := gd_some h
      refine v_iast F u4 hin5 dX8_put_19 ?_
      cases h
      exact v_vret F hr hlk dX8_put_20
def f_X8_fill_h2 (g : gT) (a0 : Nat) (i1 : Int32)  : Nat → Int32 → Mem → Option (Int32 × Mem)
  | 0, _, _ => none
  | n + 1, x2, M => if (nI (gN g (gRf g a0 0))) ≤ x2 then (some (0, M)) else (if ¬ (x2 < 0 ∨ gN g (gRf g a0 0) ≤ x2.toNatClampNeg) then ((f_X8_fill_h2 g a0 i1 n) (x2 + 1) (mU M (gRf g a0 0) x2.toNatClampNeg i1)) else none)
def f_X8_fill (g : gT) (M : Mem) (a0 : Nat) (i1 : Int32) : Option (Int32 × Mem) := f_X8_fill_h2 g a0 i1 FU 0 M
theorem in_X8_fill_8 : ∀ w ∈ u_ws RX8 TX8 1, w ∈ wsX8_fill := by decide +kernel
set_option maxHeartbeats 4000000 in
set_option maxRecDepth 100000 in
theorem w_X8_fill_h2 {g : gT} {p : Program} {l : Launch} {e : Env} {s : State} {m : MethodId} {args : Array Value} {below : List Frame} {meth : Method} {c : Code} {z : Int32 × Mem} (F : Fx g p s m args c cX8_fill 3 wsX8_fill RX8) (hr : meth.sig.returnType = none) (hlk : meth.locks = false) {a0 : Nat} {i1 : Int32} (t0 : Ty g 8 a0)   : ∀ (n : Nat) (x2 : Int32) (M : Mem), f_X8_fill_h2 g a0 i1 n x2 M = some z → V g p l e ({ frames := 0, cells := 0, slots := 0, locals := 40 * 0 } : Room) s m args below meth c 3 0 0 (MQ below (gQ g none z.2) args s 0 0 (gA g)) 2 [(0, .ref a0), (1, .int i1), (2, .int x2)] [] M := by
  intro n
  induction n with
  | zero => intro x2 M; intros; rename_i h; cases h
  | succ n ih =>
    intro x2 M h
    rw [f_X8_fill_h2] at h
    refine v_iload_n F dX8_fill_2 rfl 2 rfl ?_
    refine v_aload_n F dX8_fill_3 rfl 0 rfl ?_
    refine v_getR (k := 0) (f := 12) F t0 (by decide) in_X8_fill_8 rfl rfl (by decide) (by decide) (by decide +kernel) rfl dX8_fill_4 (fun u1 => ?_)
    refine v_alen (t0 := 0) F u1 (by decide) rfl dX8_fill_7 ?_
    refine v_icmp_ge (tgt := 24) F dX8_fill_8 (by decide) (fun hc2 => ?_) (fun hc2 => ?_)
    · rw [if_pos hc2] at h
      cases h
      exact v_vret F hr hlk dX8_fill_24
    · rw [if_neg hc2] at h
      refine v_aload_n F dX8_fill_11 rfl 0 rfl ?_
      refine v_getR (k := 0) (f := 12) F t0 (by decide) in_X8_fill_8 rfl rfl (by decide) (by decide) (by decide +kernel) rfl dX8_fill_12 (fun u3 => ?_)
      refine v_iload_n F dX8_fill_15 rfl 2 rfl ?_
      refine v_iload_n F dX8_fill_16 rfl 1 rfl ?_
      obtain ⟨hin4, h⟩ := gd_some h
      refine v_iast F u3 hin4 dX8_fill_17 ?_
      refine v_iinc (v := x2 + 1) (lv' := [(2, .int (x2 + 1)), (0, .ref a0), (1, .int i1)]) F dX8_fill_18 (q := 2) rfl rfl (by decide) rfl ?_
      refine v_goto (tgt := 2) F dX8_fill_21 (by decide) ?_
      refine v_sub (fun ls h9 => lv_sub h9 [1, 2, 0] rfl) ?_
      exact ih _ _ h
set_option maxHeartbeats 4000000 in
set_option maxRecDepth 100000 in
theorem c_X8_fill {g : gT} (l : Launch) (hok : gOK g) {a0 : Nat} {i1 : Int32} {M : Mem} {z : Int32 × Mem} (t0 : Ty g 8 a0) (h : f_X8_fill g M a0 i1 = some z) : Cn g l yX8_fill wsX8_fill 0 [.ref a0, .int i1] M none z.2 := by
  refine Cn.of (cc := cX8_fill) (maxL := 3) (ret := none) hok (by decide) rfl (Nat.le_of_ble_eq_true rfl) (fun p e s m args below meth c F hr hlk => ?_)
  unfold f_X8_fill at h
  show V g p l e ({ frames := 0, cells := 0, slots := 0, locals := 40 * 0 } : Room) s m args below meth c 3 0 0 (MQ below (gQ g none z.2) args s 0 0 (gA g)) 0 [(0, .ref a0), (1, .int i1)] [] M
  refine v_iconst (v := 0) F dX8_fill_0 (by decide) ?_
  refine v_istore_n (lv' := [(2, .int 0), (0, .ref a0), (1, .int i1)]) F dX8_fill_1 rfl (by decide) rfl ?_
  refine v_sub (fun ls h9 => lv_sub h9 [1, 2, 0] rfl) ?_
  exact w_X8_fill_h2 F hr hlk t0 _ _ _ h
def f_X8_copy_h2 (g : gT) (a0 : Nat) (a1 : Nat)  : Nat → Int32 → Mem → Option (Int32 × Mem)
  | 0, _, _ => none
  | n + 1, x2, M => if (nI (gN g (gRf g a0 0))) ≤ x2 then (some (0, M)) else (if (nI (gN g (gRf g a1 0))) ≤ x2 then (some (0, M)) else (if ¬ (x2 < 0 ∨ gN g (gRf g a1 0) ≤ x2.toNatClampNeg) then (if ¬ (x2 < 0 ∨ gN g (gRf g a0 0) ≤ x2.toNatClampNeg) then ((f_X8_copy_h2 g a0 a1 n) (x2 + 1) (mU M (gRf g a0 0) x2.toNatClampNeg (M (gRf g a1 0) x2.toNatClampNeg))) else none) else none))
def f_X8_copy (g : gT) (M : Mem) (a0 : Nat) (a1 : Nat) : Option (Int32 × Mem) := f_X8_copy_h2 g a0 a1 FU 0 M
theorem in_X8_copy_8 : ∀ w ∈ u_ws RX8 TX8 1, w ∈ wsX8_copy := by decide +kernel
set_option maxHeartbeats 4000000 in
set_option maxRecDepth 100000 in
theorem w_X8_copy_h2 {g : gT} {p : Program} {l : Launch} {e : Env} {s : State} {m : MethodId} {args : Array Value} {below : List Frame} {meth : Method} {c : Code} {z : Int32 × Mem} (F : Fx g p s m args c cX8_copy 3 wsX8_copy RX8) (hr : meth.sig.returnType = none) (hlk : meth.locks = false) {a0 : Nat} {a1 : Nat} (t0 : Ty g 8 a0) (t1 : Ty g 8 a1)   : ∀ (n : Nat) (x2 : Int32) (M : Mem), f_X8_copy_h2 g a0 a1 n x2 M = some z → V g p l e ({ frames := 0, cells := 0, slots := 0, locals := 40 * 0 } : Room) s m args below meth c 3 0 0 (MQ below (gQ g none z.2) args s 0 0 (gA g)) 2 [(0, .ref a0), (1, .ref a1), (2, .int x2)] [] M := by
  intro n
  induction n with
  | zero => intro x2 M; intros; rename_i h; cases h
  | succ n ih =>
    intro x2 M h
    rw [f_X8_copy_h2] at h
    refine v_iload_n F dX8_copy_2 rfl 2 rfl ?_
    refine v_aload_n F dX8_copy_3 rfl 0 rfl ?_
    refine v_getR (k := 0) (f := 12) F t0 (by decide) in_X8_copy_8 rfl rfl (by decide) (by decide) (by decide +kernel) rfl dX8_copy_4 (fun u1 => ?_)
    refine v_alen (t0 := 0) F u1 (by decide) rfl dX8_copy_7 ?_
    refine v_icmp_ge (tgt := 38) F dX8_copy_8 (by decide) (fun hc2 => ?_) (fun hc2 => ?_)
    · rw [if_pos hc2] at h
      cases h
      exact v_vret F hr hlk dX8_copy_38
    · rw [if_neg hc2] at h
      refine v_iload_n F dX8_copy_11 rfl 2 rfl ?_
      refine v_aload_n F dX8_copy_12 rfl 1 rfl ?_
      refine v_getR (k := 0) (f := 12) F t1 (by decide) in_X8_copy_8 rfl rfl (by decide) (by decide) (by decide +kernel) rfl dX8_copy_13 (fun u3 => ?_)
      refine v_alen (t0 := 0) F u3 (by decide) rfl dX8_copy_16 ?_
      refine v_icmp_ge (tgt := 38) F dX8_copy_17 (by decide) (fun hc4 => ?_) (fun hc4 => ?_)
      · rw [if_pos hc4] at h
        cases h
        exact v_vret F hr hlk dX8_copy_38
      · rw [if_neg hc4] at h
        refine v_aload_n F dX8_copy_20 rfl 0 rfl ?_
        refine v_getR (k := 0) (f := 12) F t0 (by decide) in_X8_copy_8 rfl rfl (by decide) (by decide) (by decide +kernel) rfl dX8_copy_21 (fun u5 => ?_)
        refine v_iload_n F dX8_copy_24 rfl 2 rfl ?_
        refine v_aload_n F dX8_copy_25 rfl 1 rfl ?_
        refine v_getR (k := 0) (f := 12) F t1 (by decide) in_X8_copy_8 rfl rfl (by decide) (by decide) (by decide +kernel) rfl dX8_copy_26 (fun u6 => ?_)
        refine v_iload_n F dX8_copy_29 rfl 2 rfl ?_
        obtain ⟨hin7, h⟩ := gd_some h
        refine v_iald F u6 hin7 dX8_copy_30 ?_
        obtain ⟨hin8, h⟩ := gd_some h
        refine v_iast F u5 hin8 dX8_copy_31 ?_
        refine v_iinc (v := x2 + 1) (lv' := [(2, .int (x2 + 1)), (0, .ref a0), (1, .ref a1)]) F dX8_copy_32 (q := 2) rfl rfl (by decide) rfl ?_
        refine v_goto (tgt := 2) F dX8_copy_35 (by decide) ?_
        refine v_sub (fun ls h9 => lv_sub h9 [1, 2, 0] rfl) ?_
        exact ih _ _ h
set_option maxHeartbeats 4000000 in
set_option maxRecDepth 100000 in
theorem c_X8_copy {g : gT} (l : Launch) (hok : gOK g) {a0 : Nat} {a1 : Nat} {M : Mem} {z : Int32 × Mem} (t0 : Ty g 8 a0) (t1 : Ty g 8 a1) (h : f_X8_copy g M a0 a1 = some z) : Cn g l yX8_copy wsX8_copy 0 [.ref a0, .ref a1] M none z.2 := by
  refine Cn.of (cc := cX8_copy) (maxL := 3) (ret := none) hok (by decide) rfl (Nat.le_of_ble_eq_true rfl) (fun p e s m args below meth c F hr hlk => ?_)
  unfold f_X8_copy at h
  show V g p l e ({ frames := 0, cells := 0, slots := 0, locals := 40 * 0 } : Room) s m args below meth c 3 0 0 (MQ below (gQ g none z.2) args s 0 0 (gA g)) 0 [(0, .ref a0), (1, .ref a1)] [] M
  refine v_iconst (v := 0) F dX8_copy_0 (by decide) ?_
  refine v_istore_n (lv' := [(2, .int 0), (0, .ref a0), (1, .ref a1)]) F dX8_copy_1 rfl (by decide) rfl ?_
  refine v_sub (fun ls h9 => lv_sub h9 [1, 2, 0] rfl) ?_
  exact w_X8_copy_h2 F hr hlk t0 t1 _ _ _ h
def f_X0_add_h25 (g : gT) (a0 : Nat) (i1 : Int32)  : Nat → Int32 → Mem → Option (Int32 × Mem)
  | 0, _, _ => none
  | n + 1, x2, M => if 10 ≤ x2 then (some (((mU M a0 0 ((M a0 0) + 1)) a0 0) - 1, (mU M a0 0 ((M a0 0) + 1)))) else ((f_X8_put g M (gRf g a0 2) (((M a0 0) * 10) + x2) 0).bind fun q => match q with | (r8, M9) => ((f_X0_add_h25 g a0 i1 n) (x2 + 1) M9))
def f_X0_add (g : gT) (M : Mem) (a0 : Nat) (i1 : Int32) : Option (Int32 × Mem) := if (M a0 0) < 6 then ((f_X8_put g M (gRf g a0 1) (M a0 0) i1).bind fun q => match q with | (r3, M4) => (f_X0_add_h25 g a0 i1 FU 0 M4)) else (some ((-1), M))
theorem in_X0_add_0 : ∀ w ∈ u_ws RX0 TX0 3, w ∈ wsX0_add := by decide +kernel
set_option maxHeartbeats 4000000 in
set_option maxRecDepth 100000 in
theorem w_X0_add_h25 {g : gT} {p : Program} {l : Launch} {e : Env} {s : State} {m : MethodId} {args : Array Value} {below : List Frame} {meth : Method} {c : Code} {z : Int32 × Mem} (F : Fx g p s m args c cX0_add 3 wsX0_add RX0) (hr : meth.sig.returnType = (some .int)) (hlk : meth.locks = false) {a0 : Nat} {i1 : Int32} (t0 : Ty g 0 a0)   : ∀ (n : Nat) (x2 : Int32) (M : Mem), f_X0_add_h25 g a0 i1 n x2 M = some z → V g p l e ({ frames := 1, cells := 0, slots := 0, locals := 40 * 1 } : Room) s m args below meth c 3 0 0 (MQ below (gQ g (some (.int z.1)) z.2) args s 0 0 (gA g)) 25 [(0, .ref a0), (1, .int i1), (2, .int x2)] [] M := by
  intro n
  induction n with
  | zero => intro x2 M; intros; rename_i h; cases h
  | succ n ih =>
    intro x2 M h
    rw [f_X0_add_h25] at h
    refine v_iload_n F dX0_add_25 rfl 2 rfl ?_
    refine v_bipush (v := 10) F dX0_add_26 (by decide) ?_
    refine v_icmp_ge (tgt := 54) F dX0_add_28 (by decide) (fun hc6 => ?_) (fun hc6 => ?_)
    · rw [if_pos hc6] at h
      refine v_aload_n F dX0_add_54 rfl 0 rfl ?_
      refine v_dup F dX0_add_55 rfl ?_
      refine v_getI (k := 0) F t0 (by decide) in_X0_add_0 rfl rfl (by decide) (by decide +kernel) rfl dX0_add_56 ?_
      refine v_iconst (v := 1) F dX0_add_59 (by decide) ?_
      refine v_iadd F dX0_add_60 ?_
      refine v_put (k := 0) (ty := .int) F t0 (by decide) in_X0_add_0 tyX0 tyX0_ok nmX0 rfl rfl (by decide) (by decide +kernel) rfl rfl (by decide +kernel) rfl rfl dX0_add_61 ?_
      refine v_aload_n F dX0_add_64 rfl 0 rfl ?_
      refine v_getI (k := 0) F t0 (by decide) in_X0_add_0 rfl rfl (by decide) (by decide +kernel) rfl dX0_add_65 ?_
      refine v_iconst (v := 1) F dX0_add_68 (by decide) ?_
      refine v_isub F dX0_add_69 ?_
      cases h
      exact v_iret F hr rfl hlk dX0_add_70
    · rw [if_neg hc6] at h
      refine v_aload_n F dX0_add_31 rfl 0 rfl ?_
      refine v_getR (k := 2) (f := 8) F t0 (by decide) in_X0_add_0 rfl rfl (by decide) (by decide) (by decide +kernel) rfl dX0_add_32 (fun u7 => ?_)
      refine v_aload_n F dX0_add_35 rfl 0 rfl ?_
      refine v_getI (k := 0) F t0 (by decide) in_X0_add_0 rfl rfl (by decide) (by decide +kernel) rfl dX0_add_36 ?_
      refine v_bipush (v := 10) F dX0_add_39 (by decide) ?_
      refine v_imul F dX0_add_41 ?_
      refine v_iload_n F dX0_add_42 rfl 2 rfl ?_
      refine v_iadd F dX0_add_43 ?_
      refine v_iconst (v := 0) F dX0_add_44 (by decide) ?_
      obtain ⟨⟨r8, M9⟩, hz10, h⟩ := bd_some h
      dsimp only at h
      refine v_callVv (As := [.int (((M a0 0) * 10) + x2), .int 0]) (rest := []) F (c_X8_put l F.2.2.1 u7 hz10) (cwV 2 F.1.2.2.2.2 gX0_add_X8_put rfl rfl rfl (by decide +kernel) ⟨Nat.le_of_ble_eq_true rfl, Nat.le_of_ble_eq_true rfl⟩) u7 (by decide) rfl rfl rfl (Nat.le_of_ble_eq_true rfl) dX0_add_45 ⟨Nat.le_of_ble_eq_true rfl, Nat.le_of_ble_eq_true rfl⟩ ?_
      refine v_iinc (v := x2 + 1) (lv' := [(2, .int (x2 + 1)), (0, .ref a0), (1, .int i1)]) F dX0_add_48 (q := 2) rfl rfl (by decide) rfl ?_
      refine v_goto (tgt := 25) F dX0_add_51 (by decide) ?_
      refine v_sub (fun ls h9 => lv_sub h9 [1, 2, 0] rfl) ?_
      exact ih _ _ h
set_option maxHeartbeats 4000000 in
set_option maxRecDepth 100000 in
theorem c_X0_add {g : gT} (l : Launch) (hok : gOK g) {a0 : Nat} {i1 : Int32} {M : Mem} {z : Int32 × Mem} (t0 : Ty g 0 a0) (h : f_X0_add g M a0 i1 = some z) : Cn g l yX0_add wsX0_add 1 [.ref a0, .int i1] M (some (.int z.1)) z.2 := by
  refine Cn.of (cc := cX0_add) (maxL := 3) (ret := (some .int)) hok (by decide) rfl (Nat.le_of_ble_eq_true rfl) (fun p e s m args below meth c F hr hlk => ?_)
  unfold f_X0_add at h
  show V g p l e ({ frames := 1, cells := 0, slots := 0, locals := 40 * 1 } : Room) s m args below meth c 3 0 0 (MQ below (gQ g (some (.int z.1)) z.2) args s 0 0 (gA g)) 0 [(0, .ref a0), (1, .int i1)] [] M
  refine v_aload_n F dX0_add_0 rfl 0 rfl ?_
  refine v_getI (k := 0) F t0 (by decide) in_X0_add_0 rfl rfl (by decide) (by decide +kernel) rfl dX0_add_1 ?_
  refine v_bipush (v := 6) F dX0_add_4 (by decide) ?_
  refine v_icmp_lt (tgt := 11) F dX0_add_6 (by decide) (fun hc1 => ?_) (fun hc1 => ?_)
  · rw [if_pos hc1] at h
    refine v_aload_n F dX0_add_11 rfl 0 rfl ?_
    refine v_getR (k := 1) (f := 8) F t0 (by decide) in_X0_add_0 rfl rfl (by decide) (by decide) (by decide +kernel) rfl dX0_add_12 (fun u2 => ?_)
    refine v_aload_n F dX0_add_15 rfl 0 rfl ?_
    refine v_getI (k := 0) F t0 (by decide) in_X0_add_0 rfl rfl (by decide) (by decide +kernel) rfl dX0_add_16 ?_
    refine v_iload_n F dX0_add_19 rfl 1 rfl ?_
    obtain ⟨⟨r3, M4⟩, hz5, h⟩ := bd_some h
    dsimp only at h
    refine v_callVv (As := [.int (M a0 0), .int i1]) (rest := []) F (c_X8_put l F.2.2.1 u2 hz5) (cwV 2 F.1.2.2.2.2 gX0_add_X8_put rfl rfl rfl (by decide +kernel) ⟨Nat.le_of_ble_eq_true rfl, Nat.le_of_ble_eq_true rfl⟩) u2 (by decide) rfl rfl rfl (Nat.le_of_ble_eq_true rfl) dX0_add_20 ⟨Nat.le_of_ble_eq_true rfl, Nat.le_of_ble_eq_true rfl⟩ ?_
    refine v_iconst (v := 0) F dX0_add_23 (by decide) ?_
    refine v_istore_n (lv' := [(2, .int 0), (0, .ref a0), (1, .int i1)]) F dX0_add_24 rfl (by decide) rfl ?_
    refine v_sub (fun ls h9 => lv_sub h9 [1, 2, 0] rfl) ?_
    exact w_X0_add_h25 F hr hlk t0 _ _ _ h
  · rw [if_neg hc1] at h
    refine v_iconst (v := (-1)) F dX0_add_9 (by decide) ?_
    cases h
    exact v_iret F hr rfl hlk dX0_add_10
def f_X0_change (g : gT) (M : Mem) (a0 : Nat) (i1 : Int32) (i2 : Int32) (i3 : Int32) : Option (Int32 × Mem) := (f_X8_at g M (gRf g a0 2) ((i1 * 10) + i2)).bind fun q => match q with | (r2, M3) => ((f_X8_put g M3 (gRf g a0 2) ((i1 * 10) + i2) i3).bind fun q => match q with | (r6, M7) => (some (r2, M7)))
theorem in_X0_change_0 : ∀ w ∈ u_ws RX0 TX0 3, w ∈ wsX0_change := by decide +kernel
set_option maxHeartbeats 4000000 in
set_option maxRecDepth 100000 in
theorem c_X0_change {g : gT} (l : Launch) (hok : gOK g) {a0 : Nat} {i1 : Int32} {i2 : Int32} {i3 : Int32} {M : Mem} {z : Int32 × Mem} (t0 : Ty g 0 a0) (h : f_X0_change g M a0 i1 i2 i3 = some z) : Cn g l yX0_change wsX0_change 1 [.ref a0, .int i1, .int i2, .int i3] M (some (.int z.1)) z.2 := by
  refine Cn.of (cc := cX0_change) (maxL := 5) (ret := (some .int)) hok (by decide) rfl (Nat.le_of_ble_eq_true rfl) (fun p e s m args below meth c F hr hlk => ?_)
  unfold f_X0_change at h
  show V g p l e ({ frames := 1, cells := 0, slots := 0, locals := 40 * 1 } : Room) s m args below meth c 5 0 0 (MQ below (gQ g (some (.int z.1)) z.2) args s 0 0 (gA g)) 0 [(0, .ref a0), (1, .int i1), (2, .int i2), (3, .int i3)] [] M
  refine v_aload_n F dX0_change_0 rfl 0 rfl ?_
  refine v_getR (k := 2) (f := 8) F t0 (by decide) in_X0_change_0 rfl rfl (by decide) (by decide) (by decide +kernel) rfl dX0_change_1 (fun u1 => ?_)
  refine v_iload_n F dX0_change_4 rfl 1 rfl ?_
  refine v_bipush (v := 10) F dX0_change_5 (by decide) ?_
  refine v_imul F dX0_change_7 ?_
  refine v_iload_n F dX0_change_8 rfl 2 rfl ?_
  refine v_iadd F dX0_change_9 ?_
  obtain ⟨⟨r2, M3⟩, hz4, h⟩ := bd_some h
  dsimp only at h
  refine v_callVi (As := [.int ((i1 * 10) + i2)]) (rest := []) F (c_X8_at l F.2.2.1 u1 hz4) (cwV 1 F.1.2.2.2.2 gX0_change_X8_at rfl rfl rfl (by decide +kernel) ⟨Nat.le_of_ble_eq_true rfl, Nat.le_of_ble_eq_true rfl⟩) u1 (by decide) rfl rfl rfl (Nat.le_of_ble_eq_true rfl) dX0_change_10 ⟨Nat.le_of_ble_eq_true rfl, Nat.le_of_ble_eq_true rfl⟩ ?_
  refine v_istore (lv' := [(4, .int r2), (0, .ref a0), (1, .int i1), (2, .int i2), (3, .int i3)]) F dX0_change_13 (by decide) rfl ?_
  refine v_aload_n F dX0_change_15 rfl 1 rfl ?_
  refine v_getR (k := 2) (f := 8) F t0 (by decide) in_X0_change_0 rfl rfl (by decide) (by decide) (by decide +kernel) rfl dX0_change_16 (fun u5 => ?_)
  refine v_iload_n F dX0_change_19 rfl 2 rfl ?_
  refine v_bipush (v := 10) F dX0_change_20 (by decide) ?_
  refine v_imul F dX0_change_22 ?_
  refine v_iload_n F dX0_change_23 rfl 3 rfl ?_
  refine v_iadd F dX0_change_24 ?_
  refine v_iload_n F dX0_change_25 rfl 4 rfl ?_
  obtain ⟨⟨r6, M7⟩, hz8, h⟩ := bd_some h
  dsimp only at h
  refine v_callVv (As := [.int ((i1 * 10) + i2), .int i3]) (rest := []) F (c_X8_put l F.2.2.1 u5 hz8) (cwV 2 F.1.2.2.2.2 gX0_change_X8_put rfl rfl rfl (by decide +kernel) ⟨Nat.le_of_ble_eq_true rfl, Nat.le_of_ble_eq_true rfl⟩) u5 (by decide) rfl rfl rfl (Nat.le_of_ble_eq_true rfl) dX0_change_26 ⟨Nat.le_of_ble_eq_true rfl, Nat.le_of_ble_eq_true rfl⟩ ?_
  refine v_iload F dX0_change_29 0 rfl ?_
  cases h
  exact v_iret F hr rfl hlk dX0_change_31
def f_X0_hoursOf_b41 (g : gT) (a0 : Nat) (i1 : Int32) (k4 : Int32 → Int32 → Mem → Option (Int32 × Mem)) (x2 : Int32) (x3 : Int32) (M : Mem) : Option (Int32 × Mem) := k4 x2 (x3 + 1) M
def f_X0_hoursOf_h4 (g : gT) (a0 : Nat) (i1 : Int32)  : Nat → Int32 → Int32 → Mem → Option (Int32 × Mem)
  | 0, _, _, _ => none
  | n + 1, x2, x3, M => if 10 ≤ x3 then (some (x2, M)) else ((f_X8_at g M (gRf g a0 1) i1).bind fun q => match q with | (r3, M4) => (if (x3 * 6) < r3 then (f_X0_hoursOf_b41 g a0 i1 (f_X0_hoursOf_h4 g a0 i1 n) x2 x3 M4) else ((f_X8_at g M4 (gRf g a0 2) ((i1 * 10) + x3)).bind fun q => match q with | (r8, M9) => (f_X0_hoursOf_b41 g a0 i1 (f_X0_hoursOf_h4 g a0 i1 n) (x2 + r8) x3 M9))))
def f_X0_hoursOf (g : gT) (M : Mem) (a0 : Nat) (i1 : Int32) : Option (Int32 × Mem) := f_X0_hoursOf_h4 g a0 i1 FU 0 0 M
theorem in_X0_hoursOf_0 : ∀ w ∈ u_ws RX0 TX0 3, w ∈ wsX0_hoursOf := by decide +kernel
set_option maxHeartbeats 4000000 in
set_option maxRecDepth 100000 in
theorem w_X0_hoursOf_b41 {g : gT} {p : Program} {l : Launch} {e : Env} {s : State} {m : MethodId} {args : Array Value} {below : List Frame} {meth : Method} {c : Code} {z : Int32 × Mem} (F : Fx g p s m args c cX0_hoursOf 4 wsX0_hoursOf RX0) (hr : meth.sig.returnType = (some .int)) (hlk : meth.locks = false) {a0 : Nat} {i1 : Int32} (t0 : Ty g 0 a0) {k4 : Int32 → Int32 → Mem → Option (Int32 × Mem)} (hk4 : ∀ (x2 : Int32) (x3 : Int32) (M : Mem), k4 x2 x3 M = some z → V g p l e ({ frames := 1, cells := 0, slots := 0, locals := 40 * 1 } : Room) s m args below meth c 4 0 0 (MQ below (gQ g (some (.int z.1)) z.2) args s 0 0 (gA g)) 4 [(0, .ref a0), (1, .int i1), (2, .int x2), (3, .int x3)] [] M) (x2 : Int32) (x3 : Int32) (M : Mem)  (h : f_X0_hoursOf_b41 g a0 i1 k4 x2 x3 M = some z) : V g p l e ({ frames := 1, cells := 0, slots := 0, locals := 40 * 1 } : Room) s m args below meth c 4 0 0 (MQ below (gQ g (some (.int z.1)) z.2) args s 0 0 (gA g)) 41 [(0, .ref a0), (1, .int i1), (2, .int x2), (3, .int x3)] [] M := by
  unfold f_X0_hoursOf_b41 at h
  refine v_iinc (v := x3 + 1) (lv' := [(3, .int (x3 + 1)), (0, .ref a0), (1, .int i1), (2, .int x2)]) F dX0_hoursOf_41 (q := 3) rfl rfl (by decide) rfl ?_
  refine v_goto (tgt := 4) F dX0_hoursOf_44 (by decide) ?_
  refine v_sub (fun ls h9 => lv_sub h9 [1, 2, 3, 0] rfl) ?_
  exact hk4 _ _ _ h
set_option maxHeartbeats 4000000 in
set_option maxRecDepth 100000 in
theorem w_X0_hoursOf_h4 {g : gT} {p : Program} {l : Launch} {e : Env} {s : State} {m : MethodId} {args : Array Value} {below : List Frame} {meth : Method} {c : Code} {z : Int32 × Mem} (F : Fx g p s m args c cX0_hoursOf 4 wsX0_hoursOf RX0) (hr : meth.sig.returnType = (some .int)) (hlk : meth.locks = false) {a0 : Nat} {i1 : Int32} (t0 : Ty g 0 a0)   : ∀ (n : Nat) (x2 : Int32) (x3 : Int32) (M : Mem), f_X0_hoursOf_h4 g a0 i1 n x2 x3 M = some z → V g p l e ({ frames := 1, cells := 0, slots := 0, locals := 40 * 1 } : Room) s m args below meth c 4 0 0 (MQ below (gQ g (some (.int z.1)) z.2) args s 0 0 (gA g)) 4 [(0, .ref a0), (1, .int i1), (2, .int x2), (3, .int x3)] [] M := by
  intro n
  induction n with
  | zero => intro x2 x3 M; intros; rename_i h; cases h
  | succ n ih =>
    intro x2 x3 M h
    rw [f_X0_hoursOf_h4] at h
    refine v_iload_n F dX0_hoursOf_4 rfl 3 rfl ?_
    refine v_bipush (v := 10) F dX0_hoursOf_5 (by decide) ?_
    refine v_icmp_ge (tgt := 47) F dX0_hoursOf_7 (by decide) (fun hc1 => ?_) (fun hc1 => ?_)
    · rw [if_pos hc1] at h
      refine v_iload_n F dX0_hoursOf_47 rfl 2 rfl ?_
      cases h
      exact v_iret F hr rfl hlk dX0_hoursOf_48
    · rw [if_neg hc1] at h
      refine v_iload_n F dX0_hoursOf_10 rfl 3 rfl ?_
      refine v_bipush (v := 6) F dX0_hoursOf_11 (by decide) ?_
      refine v_imul F dX0_hoursOf_13 ?_
      refine v_aload_n F dX0_hoursOf_14 rfl 0 rfl ?_
      refine v_getR (k := 1) (f := 8) F t0 (by decide) in_X0_hoursOf_0 rfl rfl (by decide) (by decide) (by decide +kernel) rfl dX0_hoursOf_15 (fun u2 => ?_)
      refine v_iload_n F dX0_hoursOf_18 rfl 1 rfl ?_
      obtain ⟨⟨r3, M4⟩, hz5, h⟩ := bd_some h
      dsimp only at h
      refine v_callVi (As := [.int i1]) (rest := [.int (x3 * 6)]) F (c_X8_at l F.2.2.1 u2 hz5) (cwV 1 F.1.2.2.2.2 gX0_hoursOf_X8_at rfl rfl rfl (by decide +kernel) ⟨Nat.le_of_ble_eq_true rfl, Nat.le_of_ble_eq_true rfl⟩) u2 (by decide) rfl rfl rfl (Nat.le_of_ble_eq_true rfl) dX0_hoursOf_19 ⟨Nat.le_of_ble_eq_true rfl, Nat.le_of_ble_eq_true rfl⟩ ?_
      refine v_icmp_lt (tgt := 41) F dX0_hoursOf_22 (by decide) (fun hc6 => ?_) (fun hc6 => ?_)
      · rw [if_pos hc6] at h
        exact w_X0_hoursOf_b41 F hr hlk t0 ih _ _ _ h
      · rw [if_neg hc6] at h
        refine v_iload_n F dX0_hoursOf_25 rfl 2 rfl ?_
        refine v_aload_n F dX0_hoursOf_26 rfl 0 rfl ?_
        refine v_getR (k := 2) (f := 8) F t0 (by decide) in_X0_hoursOf_0 rfl rfl (by decide) (by decide) (by decide +kernel) rfl dX0_hoursOf_27 (fun u7 => ?_)
        refine v_iload_n F dX0_hoursOf_30 rfl 1 rfl ?_
        refine v_bipush (v := 10) F dX0_hoursOf_31 (by decide) ?_
        refine v_imul F dX0_hoursOf_33 ?_
        refine v_iload_n F dX0_hoursOf_34 rfl 3 rfl ?_
        refine v_iadd F dX0_hoursOf_35 ?_
        obtain ⟨⟨r8, M9⟩, hz10, h⟩ := bd_some h
        dsimp only at h
        refine v_callVi (As := [.int ((i1 * 10) + x3)]) (rest := [.int x2]) F (c_X8_at l F.2.2.1 u7 hz10) (cwV 1 F.1.2.2.2.2 gX0_hoursOf_X8_at rfl rfl rfl (by decide +kernel) ⟨Nat.le_of_ble_eq_true rfl, Nat.le_of_ble_eq_true rfl⟩) u7 (by decide) rfl rfl rfl (Nat.le_of_ble_eq_true rfl) dX0_hoursOf_36 ⟨Nat.le_of_ble_eq_true rfl, Nat.le_of_ble_eq_true rfl⟩ ?_
        refine v_iadd F dX0_hoursOf_39 ?_
        refine v_istore_n (lv' := [(2, .int (x2 + r8)), (0, .ref a0), (1, .int i1), (3, .int x3)]) F dX0_hoursOf_40 rfl (by decide) rfl ?_
        refine v_sub (fun ls h9 => lv_sub h9 [1, 2, 0, 3] rfl) ?_
        exact w_X0_hoursOf_b41 F hr hlk t0 ih _ _ _ h
set_option maxHeartbeats 4000000 in
set_option maxRecDepth 100000 in
theorem c_X0_hoursOf {g : gT} (l : Launch) (hok : gOK g) {a0 : Nat} {i1 : Int32} {M : Mem} {z : Int32 × Mem} (t0 : Ty g 0 a0) (h : f_X0_hoursOf g M a0 i1 = some z) : Cn g l yX0_hoursOf wsX0_hoursOf 1 [.ref a0, .int i1] M (some (.int z.1)) z.2 := by
  refine Cn.of (cc := cX0_hoursOf) (maxL := 4) (ret := (some .int)) hok (by decide) rfl (Nat.le_of_ble_eq_true rfl) (fun p e s m args below meth c F hr hlk => ?_)
  unfold f_X0_hoursOf at h
  show V g p l e ({ frames := 1, cells := 0, slots := 0, locals := 40 * 1 } : Room) s m args below meth c 4 0 0 (MQ below (gQ g (some (.int z.1)) z.2) args s 0 0 (gA g)) 0 [(0, .ref a0), (1, .int i1)] [] M
  refine v_iconst (v := 0) F dX0_hoursOf_0 (by decide) ?_
  refine v_istore_n (lv' := [(2, .int 0), (0, .ref a0), (1, .int i1)]) F dX0_hoursOf_1 rfl (by decide) rfl ?_
  refine v_iconst (v := 0) F dX0_hoursOf_2 (by decide) ?_
  refine v_istore_n (lv' := [(3, .int 0), (2, .int 0), (0, .ref a0), (1, .int i1)]) F dX0_hoursOf_3 rfl (by decide) rfl ?_
  refine v_sub (fun ls h9 => lv_sub h9 [2, 3, 1, 0] rfl) ?_
  exact w_X0_hoursOf_h4 F hr hlk t0 _ _ _ _ h
def f_X0_copy (g : gT) (M : Mem) (a0 : Nat) (a1 : Nat) : Option (Int32 × Mem) := (f_X8_copy g (mU M a0 0 (M a1 0)) (gRf g a0 1) (gRf g a1 1)).bind fun q => match q with | (r3, M4) => ((f_X8_copy g M4 (gRf g a0 2) (gRf g a1 2)).bind fun q => match q with | (r8, M9) => (some (0, M9)))
theorem in_X0_copy_0 : ∀ w ∈ u_ws RX0 TX0 3, w ∈ wsX0_copy := by decide +kernel
set_option maxHeartbeats 4000000 in
set_option maxRecDepth 100000 in
theorem c_X0_copy {g : gT} (l : Launch) (hok : gOK g) {a0 : Nat} {a1 : Nat} {M : Mem} {z : Int32 × Mem} (t0 : Ty g 0 a0) (t1 : Ty g 0 a1) (h : f_X0_copy g M a0 a1 = some z) : Cn g l yX0_copy wsX0_copy 1 [.ref a0, .ref a1] M none z.2 := by
  refine Cn.of (cc := cX0_copy) (maxL := 2) (ret := none) hok (by decide) rfl (Nat.le_of_ble_eq_true rfl) (fun p e s m args below meth c F hr hlk => ?_)
  unfold f_X0_copy at h
  show V g p l e ({ frames := 1, cells := 0, slots := 0, locals := 40 * 1 } : Room) s m args below meth c 2 0 0 (MQ below (gQ g none z.2) args s 0 0 (gA g)) 0 [(0, .ref a0), (1, .ref a1)] [] M
  refine v_aload_n F dX0_copy_0 rfl 0 rfl ?_
  refine v_aload_n F dX0_copy_1 rfl 1 rfl ?_
  refine v_getI (k := 0) F t1 (by decide) in_X0_copy_0 rfl rfl (by decide) (by decide +kernel) rfl dX0_copy_2 ?_
  refine v_put (k := 0) (ty := .int) F t0 (by decide) in_X0_copy_0 tyX0 tyX0_ok nmX0 rfl rfl (by decide) (by decide +kernel) rfl rfl (by decide +kernel) rfl rfl dX0_copy_5 ?_
  refine v_aload_n F dX0_copy_8 rfl 0 rfl ?_
  refine v_getR (k := 1) (f := 8) F t0 (by decide) in_X0_copy_0 rfl rfl (by decide) (by decide) (by decide +kernel) rfl dX0_copy_9 (fun u1 => ?_)
  refine v_aload_n F dX0_copy_12 rfl 1 rfl ?_
  refine v_getR (k := 1) (f := 8) F t1 (by decide) in_X0_copy_0 rfl rfl (by decide) (by decide) (by decide +kernel) rfl dX0_copy_13 (fun u2 => ?_)
  obtain ⟨⟨r3, M4⟩, hz5, h⟩ := bd_some h
  dsimp only at h
  refine v_callVv (As := [.ref (gRf g a1 1)]) (rest := []) F (c_X8_copy l F.2.2.1 u1 u2 hz5) (cwV 1 F.1.2.2.2.2 gX0_copy_X8_copy rfl rfl rfl (by decide +kernel) ⟨Nat.le_of_ble_eq_true rfl, Nat.le_of_ble_eq_true rfl⟩) u1 (by decide) rfl rfl rfl (Nat.le_of_ble_eq_true rfl) dX0_copy_16 ⟨Nat.le_of_ble_eq_true rfl, Nat.le_of_ble_eq_true rfl⟩ ?_
  refine v_aload_n F dX0_copy_19 rfl 0 rfl ?_
  refine v_getR (k := 2) (f := 8) F t0 (by decide) in_X0_copy_0 rfl rfl (by decide) (by decide) (by decide +kernel) rfl dX0_copy_20 (fun u6 => ?_)
  refine v_aload_n F dX0_copy_23 rfl 1 rfl ?_
  refine v_getR (k := 2) (f := 8) F t1 (by decide) in_X0_copy_0 rfl rfl (by decide) (by decide) (by decide +kernel) rfl dX0_copy_24 (fun u7 => ?_)
  obtain ⟨⟨r8, M9⟩, hz10, h⟩ := bd_some h
  dsimp only at h
  refine v_callVv (As := [.ref (gRf g a1 2)]) (rest := []) F (c_X8_copy l F.2.2.1 u6 u7 hz10) (cwV 1 F.1.2.2.2.2 gX0_copy_X8_copy rfl rfl rfl (by decide +kernel) ⟨Nat.le_of_ble_eq_true rfl, Nat.le_of_ble_eq_true rfl⟩) u6 (by decide) rfl rfl rfl (Nat.le_of_ble_eq_true rfl) dX0_copy_27 ⟨Nat.le_of_ble_eq_true rfl, Nat.le_of_ble_eq_true rfl⟩ ?_
  cases h
  exact v_vret F hr hlk dX0_copy_30
