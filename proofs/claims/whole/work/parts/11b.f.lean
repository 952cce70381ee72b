def f_X10_barred_b142 (a0 : Nat) (i1 : Int32) (i2 : Int32) (i3 : Int32) (i4 : Int32) (i5 : Int32) (i6 : Int32) (k80 : Nat → Int32 → Int32 → Mem → Option ((Int32 ⊕ Nat) × Mem)) (y7 : Nat) (x8 : Int32) (x9 : Int32) (M : Mem) : Option ((Int32 ⊕ Nat) × Mem) := k80 y7 x8 (x9 + 1) M
def f_X10_barred_b138 (a0 : Nat) (i1 : Int32) (i2 : Int32) (i3 : Int32) (i4 : Int32) (i5 : Int32) (i6 : Int32) (k80 : Nat → Int32 → Int32 → Mem → Option ((Int32 ⊕ Nat) × Mem)) (y7 : Nat) (x9 : Int32) (x10 : Int32) (M : Mem) : Option ((Int32 ⊕ Nat) × Mem) := f_X10_barred_b142 a0 i1 i2 i3 i4 i5 i6 k80 y7 x10 x9 M
def f_X10_barred_h80 (a0 : Nat) (i1 : Int32) (i2 : Int32) (i3 : Int32) (i4 : Int32) (i5 : Int32) (i6 : Int32)  : Nat → Nat → Int32 → Int32 → Mem → Option ((Int32 ⊕ Nat) × Mem)
  | 0, _, _, _, _ => none
  | n + 1, y7, x8, x9, M => if 100 < x9 then (some (.inl x8, M)) else ((f_X1_tick M (gRf a0 9) y7 i2 100).bind fun q => match q with | (r42, M43) => ((f_X2_firstRowOff M43 (gRf (gRf a0 6) 1) x9 (gRf a0 9) i6).bind fun q => match q with | (r49, M50) => (if r49 = (-1) then (f_X10_barred_b142 a0 i1 i2 i3 i4 i5 i6 (f_X10_barred_h80 a0 i1 i2 i3 i4 i5 i6 n) y7 x8 x9 M50) else (if x8 = (-1) then (f_X10_barred_b138 a0 i1 i2 i3 i4 i5 i6 (f_X10_barred_h80 a0 i1 i2 i3 i4 i5 i6 n) y7 x9 r49 M50) else (if x8 ≤ r49 then (f_X10_barred_b142 a0 i1 i2 i3 i4 i5 i6 (f_X10_barred_h80 a0 i1 i2 i3 i4 i5 i6 n) y7 x8 x9 M50) else (f_X10_barred_b138 a0 i1 i2 i3 i4 i5 i6 (f_X10_barred_h80 a0 i1 i2 i3 i4 i5 i6 n) y7 x9 r49 M50))))))
def f_X10_barred_b45 (a0 : Nat) (i1 : Int32) (i2 : Int32) (i3 : Int32) (i4 : Int32) (i5 : Int32) (i6 : Int32)  (s0 : Int32) (y7 : Nat) (M : Mem) : Option ((Int32 ⊕ Nat) × Mem) := (f_X10_demand M s0).bind fun q => match q with | (.inr j27, M25) => some (.inr j27, M25) | (.inl r24, M25) => ((f_X1_copy M25 (gRf a0 9) (gRf (gRf a0 6) 0)).bind fun q => match q with | (r31, M32) => ((f_X1_begin M32 (gRf a0 9) i3 i4 i5).bind fun q => match q with | (r36, M37) => (f_X10_barred_h80 a0 i1 i2 i3 i4 i5 i6 FU y7 (-1) 1 M37)))
def f_X10_barred_b44 (a0 : Nat) (i1 : Int32) (i2 : Int32) (i3 : Int32) (i4 : Int32) (i5 : Int32) (i6 : Int32)  (y7 : Nat) (M : Mem) : Option ((Int32 ⊕ Nat) × Mem) := f_X10_barred_b45 a0 i1 i2 i3 i4 i5 i6 0 y7 M
def f_X10_barred  (M : Mem) (a0 : Nat) (i1 : Int32) (i2 : Int32) (i3 : Int32) (i4 : Int32) (i5 : Int32) (i6 : Int32) : Option ((Int32 ⊕ Nat) × Mem) := (f_X10_lawNumbered M a0 i1).bind fun q => match q with | (.inr j4, M2) => some (.inr j4, M2) | (.inl r1, M2) => ((f_X10_demandWind M2 i2).bind fun q => match q with | (.inr j9, M7) => some (.inr j9, M7) | (.inl r6, M7) => ((f_X10_demandShape M7 i3 i4).bind fun q => match q with | (.inr j13, M11) => some (.inr j13, M11) | (.inl r10, M11) => ((f_X10_within M11 i5 1 9999).bind fun q => match q with | (r14, M15) => (if r14 = 0 then (f_X10_barred_b44 a0 i1 i2 i3 i4 i5 i6 r1 M15) else ((f_X10_within M15 i6 0 1000000).bind fun q => match q with | (r19, M20) => (if r19 = 0 then (f_X10_barred_b44 a0 i1 i2 i3 i4 i5 i6 r1 M20) else (f_X10_barred_b45 a0 i1 i2 i3 i4 i5 i6 1 r1 M20)))))))
set_option maxHeartbeats 4000000 in
set_option maxRecDepth 100000 in
theorem w_X10_barred_b142 {g : gT} {p : Program} {l : Launch} {e : Env} {s : State} {m : MethodId} {args : Array Value} {below : List Frame} {meth : Method} {c : Code} {z : (Int32 ⊕ Nat) × Mem} (F : Fx g p s m args c cX10_barred 11 uX10_barred RX10) (hr : meth.sig.returnType = (some .int)) (hlk : meth.locks = false) (hxt : ∀ x ∈ c.exceptionTable.toList, False) (hst : l.stackTraces = false)  {a0 : Nat} {i1 : Int32} {i2 : Int32} {i3 : Int32} {i4 : Int32} {i5 : Int32} {i6 : Int32} (t0 : Ty g 10 a0) {k80 : Nat → Int32 → Int32 → Mem → Option ((Int32 ⊕ Nat) × Mem)} (hk80 : ∀ (y7 : Nat) (x8 : Int32) (x9 : Int32) (M : Mem), Ty g 3 y7 → k80 y7 x8 x9 M = some z → V g p l e ({ frames := 8, cells := 4, slots := 24, locals := 40 * 8 } : Room) s m args below meth c 11 4 24 (vx_MQ below (gQx g vI z) (gXx g z) args s 4 24 (gA g)) 80 [(0, .ref (gAd g a0)), (1, .int i1), (2, .int i2), (3, .int i3), (4, .int i4), (5, .int i5), (6, .int i6), (7, .ref (gAd g y7)), (8, .int x8), (9, .int x9)] [] M) (y7 : Nat) (x8 : Int32) (x9 : Int32) (M : Mem) (ty7 : Ty g 3 y7) (h : f_X10_barred_b142 a0 i1 i2 i3 i4 i5 i6 k80 y7 x8 x9 M = some z) : V g p l e ({ frames := 8, cells := 4, slots := 24, locals := 40 * 8 } : Room) s m args below meth c 11 4 24 (vx_MQ below (gQx g vI z) (gXx g z) args s 4 24 (gA g)) 142 [(0, .ref (gAd g a0)), (1, .int i1), (2, .int i2), (3, .int i3), (4, .int i4), (5, .int i5), (6, .int i6), (7, .ref (gAd g y7)), (8, .int x8), (9, .int x9)] [] M := by
  unfold f_X10_barred_b142 at h
  refine v_iinc (v := x9 + 1) (lv' := [(9, .int (x9 + 1)), (0, .ref (gAd g a0)), (1, .int i1), (2, .int i2), (3, .int i3), (4, .int i4), (5, .int i5), (6, .int i6), (7, .ref (gAd g y7)), (8, .int x8)]) F dX10_barred_142 (q := 9) rfl rfl (by decide) rfl ?_
  refine v_goto (tgt := 80) F dX10_barred_145 (by decide) ?_
  refine v_sub (fun ls h9 => lv_sub h9 [1, 2, 3, 4, 5, 6, 7, 8, 9, 0] rfl) ?_
  exact hk80 _ _ _ _ ty7 h
set_option maxHeartbeats 4000000 in
set_option maxRecDepth 100000 in
theorem w_X10_barred_b138 {g : gT} {p : Program} {l : Launch} {e : Env} {s : State} {m : MethodId} {args : Array Value} {below : List Frame} {meth : Method} {c : Code} {z : (Int32 ⊕ Nat) × Mem} (F : Fx g p s m args c cX10_barred 11 uX10_barred RX10) (hr : meth.sig.returnType = (some .int)) (hlk : meth.locks = false) (hxt : ∀ x ∈ c.exceptionTable.toList, False) (hst : l.stackTraces = false)  {a0 : Nat} {i1 : Int32} {i2 : Int32} {i3 : Int32} {i4 : Int32} {i5 : Int32} {i6 : Int32} (t0 : Ty g 10 a0) {k80 : Nat → Int32 → Int32 → Mem → Option ((Int32 ⊕ Nat) × Mem)} (hk80 : ∀ (y7 : Nat) (x8 : Int32) (x9 : Int32) (M : Mem), Ty g 3 y7 → k80 y7 x8 x9 M = some z → V g p l e ({ frames := 8, cells := 4, slots := 24, locals := 40 * 8 } : Room) s m args below meth c 11 4 24 (vx_MQ below (gQx g vI z) (gXx g z) args s 4 24 (gA g)) 80 [(0, .ref (gAd g a0)), (1, .int i1), (2, .int i2), (3, .int i3), (4, .int i4), (5, .int i5), (6, .int i6), (7, .ref (gAd g y7)), (8, .int x8), (9, .int x9)] [] M) (y7 : Nat) (x9 : Int32) (x10 : Int32) (M : Mem) (ty7 : Ty g 3 y7) (h : f_X10_barred_b138 a0 i1 i2 i3 i4 i5 i6 k80 y7 x9 x10 M = some z) : V g p l e ({ frames := 8, cells := 4, slots := 24, locals := 40 * 8 } : Room) s m args below meth c 11 4 24 (vx_MQ below (gQx g vI z) (gXx g z) args s 4 24 (gA g)) 138 [(0, .ref (gAd g a0)), (1, .int i1), (2, .int i2), (3, .int i3), (4, .int i4), (5, .int i5), (6, .int i6), (7, .ref (gAd g y7)), (9, .int x9), (10, .int x10)] [] M := by
  unfold f_X10_barred_b138 at h
  refine v_iload F dX10_barred_138 9 rfl ?_
  refine v_istore (lv' := [(8, .int x10), (0, .ref (gAd g a0)), (1, .int i1), (2, .int i2), (3, .int i3), (4, .int i4), (5, .int i5), (6, .int i6), (7, .ref (gAd g y7)), (9, .int x9), (10, .int x10)]) F dX10_barred_140 (by decide) rfl ?_
  refine v_sub (fun ls h9 => lv_sub h9 [1, 2, 3, 4, 5, 6, 7, 8, 0, 9] rfl) ?_
  exact w_X10_barred_b142 F hr hlk hxt hst t0 hk80 _ _ _ _ ty7 h
set_option maxHeartbeats 4000000 in
set_option maxRecDepth 100000 in
theorem w_X10_barred_h80 {g : gT} {p : Program} {l : Launch} {e : Env} {s : State} {m : MethodId} {args : Array Value} {below : List Frame} {meth : Method} {c : Code} {z : (Int32 ⊕ Nat) × Mem} (F : Fx g p s m args c cX10_barred 11 uX10_barred RX10) (hr : meth.sig.returnType = (some .int)) (hlk : meth.locks = false) (hxt : ∀ x ∈ c.exceptionTable.toList, False) (hst : l.stackTraces = false)  {a0 : Nat} {i1 : Int32} {i2 : Int32} {i3 : Int32} {i4 : Int32} {i5 : Int32} {i6 : Int32} (t0 : Ty g 10 a0)   : ∀ (n : Nat) (y7 : Nat) (x8 : Int32) (x9 : Int32) (M : Mem), Ty g 3 y7 → f_X10_barred_h80 a0 i1 i2 i3 i4 i5 i6 n y7 x8 x9 M = some z → V g p l e ({ frames := 8, cells := 4, slots := 24, locals := 40 * 8 } : Room) s m args below meth c 11 4 24 (vx_MQ below (gQx g vI z) (gXx g z) args s 4 24 (gA g)) 80 [(0, .ref (gAd g a0)), (1, .int i1), (2, .int i2), (3, .int i3), (4, .int i4), (5, .int i5), (6, .int i6), (7, .ref (gAd g y7)), (8, .int x8), (9, .int x9)] [] M := by
  intro n
  induction n with
  | zero => intro y7 x8 x9 M; intros; rename_i h; cases h
  | succ n ih =>
    intro y7 x8 x9 M ty7 h
    rw [f_X10_barred_h80] at h
    refine v_iload F dX10_barred_80 9 rfl ?_
    refine v_bipush (v := 100) F dX10_barred_82 (by decide) ?_
    refine v_icmp_gt (tgt := 148) F dX10_barred_84 (by decide) (fun hc40 => ?_) (fun hc40 => ?_)
    · rw [if_pos hc40] at h
      refine v_iload F dX10_barred_148 8 rfl ?_
      cases h
      refine v_iretX F hr rfl hlk dX10_barred_150 ?_ ?_ <;> decide
    · rw [if_neg hc40] at h
      refine v_aload_n F dX10_barred_87 rfl 0 rfl ?_
      refine v_getR (k := 9) (f := 1) F t0 (by decide) (inc inU_10) rfl rfl (by decide) (by decide) (List.mem_cons_of_mem _ fl_X10_49) rfl dX10_barred_88 (fun u41 => ?_)
      refine v_aload F dX10_barred_91 7 rfl ?_
      refine v_iload_n F dX10_barred_93 rfl 2 rfl ?_
      refine v_bipush (v := 100) F dX10_barred_94 (by decide) ?_
      obtain ⟨⟨r42, M43⟩, hz44, h⟩ := bd_some h
      dsimp only at h
      refine v_callVv (As := [.ref (gAd g y7), .int i2, .int 100]) (rest := []) F (c_X1_tick l F.2.2.1 u41 ty7 hz44) (cwV 3 F.1.2.2.2.2 (gU_V ml_X10_142 im_yX1_tick se_yX1_tick ini_X1 cd_X1_tick) rfl rfl rfl (by decide +kernel) ⟨Nat.le_of_ble_eq_true rfl, Nat.le_of_ble_eq_true rfl⟩) u41 (by decide) rfl rfl rfl (Nat.le_of_ble_eq_true rfl) dX10_barred_96 ⟨Nat.le_of_ble_eq_true rfl, Nat.le_of_ble_eq_true rfl⟩ ?_
      refine v_aload_n F dX10_barred_99 rfl 0 rfl ?_
      refine v_getR (k := 6) (f := 7) F t0 (by decide) (inc inU_10) rfl rfl (by decide) (by decide) (List.mem_cons_of_mem _ fl_X10_38) rfl dX10_barred_100 (fun u46 => ?_)
      refine v_getR (k := 1) (f := 2) F u46 (by decide) (inc inU_7) rfl rfl (by decide) (by decide) (List.mem_cons_of_mem _ fl_X10_207) rfl dX10_barred_103 (fun u47 => ?_)
      refine v_iload F dX10_barred_106 9 rfl ?_
      refine v_aload_n F dX10_barred_108 rfl 0 rfl ?_
      refine v_getR (k := 9) (f := 1) F t0 (by decide) (inc inU_10) rfl rfl (by decide) (by decide) (List.mem_cons_of_mem _ fl_X10_49) rfl dX10_barred_109 (fun u48 => ?_)
      refine v_iload F dX10_barred_112 6 rfl ?_
      obtain ⟨⟨r49, M50⟩, hz51, h⟩ := bd_some h
      dsimp only at h
      refine v_callVi (As := [.int x9, .ref (gAd g (gRf a0 9)), .int i6]) (rest := []) F (c_X2_firstRowOff l F.2.2.1 u47 u48 hz51) (cwV 3 F.1.2.2.2.2 (gU_V ml_X10_220 im_yX2_firstRowOff se_yX2_firstRowOff ini_X2 cd_X2_firstRowOff) rfl rfl rfl (by decide +kernel) ⟨Nat.le_of_ble_eq_true rfl, Nat.le_of_ble_eq_true rfl⟩) u47 (by decide) rfl rfl rfl (Nat.le_of_ble_eq_true rfl) dX10_barred_114 ⟨Nat.le_of_ble_eq_true rfl, Nat.le_of_ble_eq_true rfl⟩ ?_
      refine v_istore (lv' := [(10, .int r49), (0, .ref (gAd g a0)), (1, .int i1), (2, .int i2), (3, .int i3), (4, .int i4), (5, .int i5), (6, .int i6), (7, .ref (gAd g y7)), (8, .int x8), (9, .int x9)]) F dX10_barred_117 (by decide) rfl ?_
      refine v_iload F dX10_barred_119 0 rfl ?_
      refine v_iconst (v := (-1)) F dX10_barred_121 (by decide) ?_
      refine v_icmp_eq (tgt := 142) F dX10_barred_122 (by decide) (fun hc53 => ?_) (fun hc53 => ?_)
      · rw [if_pos hc53] at h
        refine v_sub (fun ls h9 => lv_sub h9 [1, 2, 3, 4, 5, 6, 7, 8, 9, 10] rfl) ?_
        exact w_X10_barred_b142 F hr hlk hxt hst t0 ih _ _ _ _ ty7 h
      · rw [if_neg hc53] at h
        refine v_iload F dX10_barred_125 9 rfl ?_
        refine v_iconst (v := (-1)) F dX10_barred_127 (by decide) ?_
        refine v_icmp_eq (tgt := 138) F dX10_barred_128 (by decide) (fun hc54 => ?_) (fun hc54 => ?_)
        · rw [if_pos hc54] at h
          refine v_sub (fun ls h9 => lv_sub h9 [1, 2, 3, 4, 5, 6, 7, 8, 10, 0] rfl) ?_
          exact w_X10_barred_b138 F hr hlk hxt hst t0 ih _ _ _ _ ty7 h
        · rw [if_neg hc54] at h
          refine v_iload F dX10_barred_131 0 rfl ?_
          refine v_iload F dX10_barred_133 9 rfl ?_
          refine v_icmp_ge (tgt := 142) F dX10_barred_135 (by decide) (fun hc55 => ?_) (fun hc55 => ?_)
          · rw [if_pos hc55] at h
            refine v_sub (fun ls h9 => lv_sub h9 [1, 2, 3, 4, 5, 6, 7, 8, 9, 10] rfl) ?_
            exact w_X10_barred_b142 F hr hlk hxt hst t0 ih _ _ _ _ ty7 h
          · rw [if_neg hc55] at h
            refine v_sub (fun ls h9 => lv_sub h9 [1, 2, 3, 4, 5, 6, 7, 8, 10, 0] rfl) ?_
            exact w_X10_barred_b138 F hr hlk hxt hst t0 ih _ _ _ _ ty7 h
set_option maxHeartbeats 4000000 in
set_option maxRecDepth 100000 in
theorem w_X10_barred_b45 {g : gT} {p : Program} {l : Launch} {e : Env} {s : State} {m : MethodId} {args : Array Value} {below : List Frame} {meth : Method} {c : Code} {z : (Int32 ⊕ Nat) × Mem} (F : Fx g p s m args c cX10_barred 11 uX10_barred RX10) (hr : meth.sig.returnType = (some .int)) (hlk : meth.locks = false) (hxt : ∀ x ∈ c.exceptionTable.toList, False) (hst : l.stackTraces = false)  {a0 : Nat} {i1 : Int32} {i2 : Int32} {i3 : Int32} {i4 : Int32} {i5 : Int32} {i6 : Int32} (t0 : Ty g 10 a0)   (s0 : Int32) (y7 : Nat) (M : Mem) (ty7 : Ty g 3 y7) (h : f_X10_barred_b45 a0 i1 i2 i3 i4 i5 i6 s0 y7 M = some z) : V g p l e ({ frames := 8, cells := 4, slots := 24, locals := 40 * 8 } : Room) s m args below meth c 11 3 18 (vx_MQ below (gQx g vI z) (gXx g z) args s 4 24 (gA g)) 45 [(0, .ref (gAd g a0)), (1, .int i1), (2, .int i2), (3, .int i3), (4, .int i4), (5, .int i5), (6, .int i6), (7, .ref (gAd g y7))] [.int s0] M := by
  unfold f_X10_barred_b45 at h
  obtain ⟨⟨r24 | j27, M25⟩, hz26, h⟩ := bd_some h
  rotate_left
  · dsimp only at h; cases h; exact v_callSxT (As := [.int s0]) (rest := []) F (c_X10_demand l hst F.2.2.1  hz26) (cwS 1 F.1.2.2.2.2 (gU_S ml_X10_67 st_yX10_demand ini_X10 cd_X10_demand) rfl rfl rfl (by decide +kernel) ⟨Nat.le_of_ble_eq_true rfl, Nat.le_of_ble_eq_true rfl⟩) rfl rfl (Nat.le_of_ble_eq_true rfl) dX10_barred_45 ⟨Nat.le_of_ble_eq_true rfl, Nat.le_of_ble_eq_true rfl⟩ (vx_outV hxt hlk (by decide) (by decide))
  dsimp only at h
  refine v_callSxv (As := [.int s0]) (rest := []) F (c_X10_demand l hst F.2.2.1  hz26) (cwS 1 F.1.2.2.2.2 (gU_S ml_X10_67 st_yX10_demand ini_X10 cd_X10_demand) rfl rfl rfl (by decide +kernel) ⟨Nat.le_of_ble_eq_true rfl, Nat.le_of_ble_eq_true rfl⟩) rfl rfl (Nat.le_of_ble_eq_true rfl) dX10_barred_45 ⟨Nat.le_of_ble_eq_true rfl, Nat.le_of_ble_eq_true rfl⟩ ?_
  refine v_aload_n F dX10_barred_48 rfl 0 rfl ?_
  refine v_getR (k := 9) (f := 1) F t0 (by decide) (inc inU_10) rfl rfl (by decide) (by decide) (List.mem_cons_of_mem _ fl_X10_49) rfl dX10_barred_49 (fun u28 => ?_)
  refine v_aload_n F dX10_barred_52 rfl 0 rfl ?_
  refine v_getR (k := 6) (f := 7) F t0 (by decide) (inc inU_10) rfl rfl (by decide) (by decide) (List.mem_cons_of_mem _ fl_X10_38) rfl dX10_barred_53 (fun u29 => ?_)
  refine v_getR (k := 0) (f := 1) F u29 (by decide) (inc inU_7) rfl rfl (by decide) (by decide) (List.mem_cons_of_mem _ fl_X10_93) rfl dX10_barred_56 (fun u30 => ?_)
  obtain ⟨⟨r31, M32⟩, hz33, h⟩ := bd_some h
  dsimp only at h
  refine v_callVv (As := [.ref (gAd g (gRf (gRf a0 6) 0))]) (rest := []) F (c_X1_copy l F.2.2.1 u28 u30 hz33) (cwV 1 F.1.2.2.2.2 (gU_V ml_X10_182 im_yX1_copy se_yX1_copy ini_X1 cd_X1_copy) rfl rfl rfl (by decide +kernel) ⟨Nat.le_of_ble_eq_true rfl, Nat.le_of_ble_eq_true rfl⟩) u28 (by decide) rfl rfl rfl (Nat.le_of_ble_eq_true rfl) dX10_barred_59 ⟨Nat.le_of_ble_eq_true rfl, Nat.le_of_ble_eq_true rfl⟩ ?_
  refine v_aload_n F dX10_barred_62 rfl 0 rfl ?_
  refine v_getR (k := 9) (f := 1) F t0 (by decide) (inc inU_10) rfl rfl (by decide) (by decide) (List.mem_cons_of_mem _ fl_X10_49) rfl dX10_barred_63 (fun u35 => ?_)
  refine v_iload_n F dX10_barred_66 rfl 3 rfl ?_
  refine v_iload F dX10_barred_67 4 rfl ?_
  refine v_iload F dX10_barred_69 5 rfl ?_
  obtain ⟨⟨r36, M37⟩, hz38, h⟩ := bd_some h
  dsimp only at h
  refine v_callVv (As := [.int i3, .int i4, .int i5]) (rest := []) F (c_X1_begin l F.2.2.1 u35 hz38) (cwV 3 F.1.2.2.2.2 (gU_V ml_X10_217 im_yX1_begin se_yX1_begin ini_X1 cd_X1_begin) rfl rfl rfl (by decide +kernel) ⟨Nat.le_of_ble_eq_true rfl, Nat.le_of_ble_eq_true rfl⟩) u35 (by decide) rfl rfl rfl (Nat.le_of_ble_eq_true rfl) dX10_barred_71 ⟨Nat.le_of_ble_eq_true rfl, Nat.le_of_ble_eq_true rfl⟩ ?_
  refine v_iconst (v := (-1)) F dX10_barred_74 (by decide) ?_
  refine v_istore (lv' := [(8, .int (-1)), (0, .ref (gAd g a0)), (1, .int i1), (2, .int i2), (3, .int i3), (4, .int i4), (5, .int i5), (6, .int i6), (7, .ref (gAd g y7))]) F dX10_barred_75 (by decide) rfl ?_
  refine v_iconst (v := 1) F dX10_barred_77 (by decide) ?_
  refine v_istore (lv' := [(9, .int 1), (8, .int (-1)), (0, .ref (gAd g a0)), (1, .int i1), (2, .int i2), (3, .int i3), (4, .int i4), (5, .int i5), (6, .int i6), (7, .ref (gAd g y7))]) F dX10_barred_78 (by decide) rfl ?_
  refine v_sub (fun ls h9 => lv_sub h9 [2, 3, 4, 5, 6, 7, 8, 9, 1, 0] rfl) ?_
  exact w_X10_barred_h80 F hr hlk hxt hst t0 _ _ _ _ _ ty7 h
set_option maxHeartbeats 4000000 in
set_option maxRecDepth 100000 in
theorem w_X10_barred_b44 {g : gT} {p : Program} {l : Launch} {e : Env} {s : State} {m : MethodId} {args : Array Value} {below : List Frame} {meth : Method} {c : Code} {z : (Int32 ⊕ Nat) × Mem} (F : Fx g p s m args c cX10_barred 11 uX10_barred RX10) (hr : meth.sig.returnType = (some .int)) (hlk : meth.locks = false) (hxt : ∀ x ∈ c.exceptionTable.toList, False) (hst : l.stackTraces = false)  {a0 : Nat} {i1 : Int32} {i2 : Int32} {i3 : Int32} {i4 : Int32} {i5 : Int32} {i6 : Int32} (t0 : Ty g 10 a0)   (y7 : Nat) (M : Mem) (ty7 : Ty g 3 y7) (h : f_X10_barred_b44 a0 i1 i2 i3 i4 i5 i6 y7 M = some z) : V g p l e ({ frames := 8, cells := 4, slots := 24, locals := 40 * 8 } : Room) s m args below meth c 11 3 18 (vx_MQ below (gQx g vI z) (gXx g z) args s 4 24 (gA g)) 44 [(0, .ref (gAd g a0)), (1, .int i1), (2, .int i2), (3, .int i3), (4, .int i4), (5, .int i5), (6, .int i6), (7, .ref (gAd g y7))] [] M := by
  unfold f_X10_barred_b44 at h
  refine v_iconst (v := 0) F dX10_barred_44 (by decide) ?_
  exact w_X10_barred_b45 F hr hlk hxt hst t0 _ _ _ ty7 h
set_option maxHeartbeats 4000000 in
set_option maxRecDepth 100000 in
theorem c_X10_barred {g : gT} (l : Launch) (hst : l.stackTraces = false) (hok : gOK g) {a0 : Nat} {i1 : Int32} {i2 : Int32} {i3 : Int32} {i4 : Int32} {i5 : Int32} {i6 : Int32} {M : Mem} {z : (Int32 ⊕ Nat) × Mem} (t0 : Ty g 10 a0) (h : f_X10_barred M a0 i1 i2 i3 i4 i5 i6 = some z) : Cx g l yX10_barred uX10_barred 8 4 24 [.ref (gAd g a0), .int i1, .int i2, .int i3, .int i4, .int i5, .int i6] M vI z := by
  refine Cx.of (cc := cX10_barred) (maxL := 11) (ret := (some .int)) hok (by decide) rfl (Nat.le_of_ble_eq_true rfl) (fun p e s m args below meth c F hr hlk hxt => ?_)
  unfold f_X10_barred at h
  show V g p l e ({ frames := 8, cells := 4, slots := 24, locals := 40 * 8 } : Room) s m args below meth c 11 0 0 (vx_MQ below (gQx g vI z) (gXx g z) args s 4 24 (gA g)) 0 [(0, .ref (gAd g a0)), (1, .int i1), (2, .int i2), (3, .int i3), (4, .int i4), (5, .int i5), (6, .int i6)] [] M
  refine v_aload_n F dX10_barred_0 rfl 0 rfl ?_
  refine v_iload_n F dX10_barred_1 rfl 1 rfl ?_
  obtain ⟨⟨r1 | j4, M2⟩, hz3, h⟩ := bd_some h
  rotate_left
  · dsimp only at h; cases h; exact v_callVxT (As := [.int i1]) (rest := []) F (c_X10_lawNumbered l hst F.2.2.1 t0 hz3) (cwV 1 F.1.2.2.2.2 (gU_V ml_X10_135 im_yX10_lawNumbered se_yX10_lawNumbered ini_X10 cd_X10_lawNumbered) rfl rfl rfl (by decide +kernel) ⟨Nat.le_of_ble_eq_true rfl, Nat.le_of_ble_eq_true rfl⟩) t0 (by decide) rfl rfl rfl (Nat.le_of_ble_eq_true rfl) dX10_barred_2 ⟨Nat.le_of_ble_eq_true rfl, Nat.le_of_ble_eq_true rfl⟩ (vx_outV hxt hlk (by decide) (by decide))
  dsimp only at h
  refine v_callVxr (As := [.int i1]) (rest := []) F (c_X10_lawNumbered l hst F.2.2.1 t0 hz3) (cwV 1 F.1.2.2.2.2 (gU_V ml_X10_135 im_yX10_lawNumbered se_yX10_lawNumbered ini_X10 cd_X10_lawNumbered) rfl rfl rfl (by decide +kernel) ⟨Nat.le_of_ble_eq_true rfl, Nat.le_of_ble_eq_true rfl⟩) t0 (by decide) rfl rfl rfl (Nat.le_of_ble_eq_true rfl) dX10_barred_2 ⟨Nat.le_of_ble_eq_true rfl, Nat.le_of_ble_eq_true rfl⟩ ?_
  have u5 := ty_X10_lawNumbered F.2.2.1 t0 hz3
  refine v_astore (lv' := [(7, .ref (gAd g r1)), (0, .ref (gAd g a0)), (1, .int i1), (2, .int i2), (3, .int i3), (4, .int i4), (5, .int i5), (6, .int i6)]) F dX10_barred_5 (by decide) rfl ?_
  refine v_iload_n F dX10_barred_7 rfl 3 rfl ?_
  obtain ⟨⟨r6 | j9, M7⟩, hz8, h⟩ := bd_some h
  rotate_left
  · dsimp only at h; cases h; exact v_callSxT (As := [.int i2]) (rest := []) F (c_X10_demandWind l hst F.2.2.1  hz8) (cwS 1 F.1.2.2.2.2 (gU_S ml_X10_139 st_yX10_demandWind ini_X10 cd_X10_demandWind) rfl rfl rfl (by decide +kernel) ⟨Nat.le_of_ble_eq_true rfl, Nat.le_of_ble_eq_true rfl⟩) rfl rfl (Nat.le_of_ble_eq_true rfl) dX10_barred_8 ⟨Nat.le_of_ble_eq_true rfl, Nat.le_of_ble_eq_true rfl⟩ (vx_outV hxt hlk (by decide) (by decide))
  dsimp only at h
  refine v_callSxv (As := [.int i2]) (rest := []) F (c_X10_demandWind l hst F.2.2.1  hz8) (cwS 1 F.1.2.2.2.2 (gU_S ml_X10_139 st_yX10_demandWind ini_X10 cd_X10_demandWind) rfl rfl rfl (by decide +kernel) ⟨Nat.le_of_ble_eq_true rfl, Nat.le_of_ble_eq_true rfl⟩) rfl rfl (Nat.le_of_ble_eq_true rfl) dX10_barred_8 ⟨Nat.le_of_ble_eq_true rfl, Nat.le_of_ble_eq_true rfl⟩ ?_
  refine v_iload_n F dX10_barred_11 rfl 4 rfl ?_
  refine v_iload F dX10_barred_12 5 rfl ?_
  obtain ⟨⟨r10 | j13, M11⟩, hz12, h⟩ := bd_some h
  rotate_left
  · dsimp only at h; cases h; exact v_callSxT (As := [.int i3, .int i4]) (rest := []) F (c_X10_demandShape l hst F.2.2.1  hz12) (cwS 2 F.1.2.2.2.2 (gU_S ml_X10_125 st_yX10_demandShape ini_X10 cd_X10_demandShape) rfl rfl rfl (by decide +kernel) ⟨Nat.le_of_ble_eq_true rfl, Nat.le_of_ble_eq_true rfl⟩) rfl rfl (Nat.le_of_ble_eq_true rfl) dX10_barred_14 ⟨Nat.le_of_ble_eq_true rfl, Nat.le_of_ble_eq_true rfl⟩ (vx_outV hxt hlk (by decide) (by decide))
  dsimp only at h
  refine v_callSxv (As := [.int i3, .int i4]) (rest := []) F (c_X10_demandShape l hst F.2.2.1  hz12) (cwS 2 F.1.2.2.2.2 (gU_S ml_X10_125 st_yX10_demandShape ini_X10 cd_X10_demandShape) rfl rfl rfl (by decide +kernel) ⟨Nat.le_of_ble_eq_true rfl, Nat.le_of_ble_eq_true rfl⟩) rfl rfl (Nat.le_of_ble_eq_true rfl) dX10_barred_14 ⟨Nat.le_of_ble_eq_true rfl, Nat.le_of_ble_eq_true rfl⟩ ?_
  refine v_iload F dX10_barred_17 6 rfl ?_
  refine v_iconst (v := 1) F dX10_barred_19 (by decide) ?_
  refine v_sipush (v := 9999) F dX10_barred_20 (by decide) ?_
  obtain ⟨⟨r14, M15⟩, hz16, h⟩ := bd_some h
  dsimp only at h
  refine v_callSi (As := [.int i5, .int 1, .int 9999]) (rest := []) F (c_X10_within l F.2.2.1  hz16) (cwS 3 F.1.2.2.2.2 (gU_S ml_X10_63 st_yX10_within ini_X10 cd_X10_within) rfl rfl rfl (by decide +kernel) ⟨Nat.le_of_ble_eq_true rfl, Nat.le_of_ble_eq_true rfl⟩) rfl rfl (Nat.le_of_ble_eq_true rfl) dX10_barred_23 ⟨Nat.le_of_ble_eq_true rfl, Nat.le_of_ble_eq_true rfl⟩ ?_
  refine v_if_eq (tgt := 44) F dX10_barred_26 (by decide) (fun hc18 => ?_) (fun hc18 => ?_)
  · rw [if_pos hc18] at h
    refine v_sub (fun ls h9 => lv_sub h9 [1, 2, 3, 4, 5, 6, 7, 0] rfl) ?_
    exact w_X10_barred_b44 F hr hlk hxt hst t0 _ _ u5 h
  · rw [if_neg hc18] at h
    refine v_iload F dX10_barred_29 7 rfl ?_
    refine v_iconst (v := 0) F dX10_barred_31 (by decide) ?_
    refine v_ldc (v := 1000000) F (F.1.2.2.2.2 _ (List.mem_cons_of_mem _ cn_X10_206)) dX10_barred_32 ?_
    obtain ⟨⟨r19, M20⟩, hz21, h⟩ := bd_some h
    dsimp only at h
    refine v_callSi (As := [.int i6, .int 0, .int 1000000]) (rest := []) F (c_X10_within l F.2.2.1  hz21) (cwS 3 F.1.2.2.2.2 (gU_S ml_X10_63 st_yX10_within ini_X10 cd_X10_within) rfl rfl rfl (by decide +kernel) ⟨Nat.le_of_ble_eq_true rfl, Nat.le_of_ble_eq_true rfl⟩) rfl rfl (Nat.le_of_ble_eq_true rfl) dX10_barred_34 ⟨Nat.le_of_ble_eq_true rfl, Nat.le_of_ble_eq_true rfl⟩ ?_
    refine v_if_eq (tgt := 44) F dX10_barred_37 (by decide) (fun hc23 => ?_) (fun hc23 => ?_)
    · rw [if_pos hc23] at h
      refine v_sub (fun ls h9 => lv_sub h9 [1, 2, 3, 4, 5, 6, 7, 0] rfl) ?_
      exact w_X10_barred_b44 F hr hlk hxt hst t0 _ _ u5 h
    · rw [if_neg hc23] at h
      refine v_iconst (v := 1) F dX10_barred_40 (by decide) ?_
      refine v_goto (tgt := 45) F dX10_barred_41 (by decide) ?_
      refine v_sub (fun ls h9 => lv_sub h9 [1, 2, 3, 4, 5, 6, 7, 0] rfl) ?_
      exact w_X10_barred_b45 F hr hlk hxt hst t0 _ _ _ u5 h
def f_X10_mend_b37 (a0 : Nat) (i1 : Int32) (i2 : Int32) (i3 : Int32)  (s0 : Int32) (M : Mem) : Option ((Int32 ⊕ Nat) × Mem) := (f_X10_demand M s0).bind fun q => match q with | (.inr j22, M20) => some (.inr j22, M20) | (.inl r19, M20) => ((f_X4_add M20 (gRf (gRf a0 6) 2) i1 i2 i3).bind fun q => match q with | (r25, M26) => (some (.inl r25, M26)))
def f_X10_mend_b36 (a0 : Nat) (i1 : Int32) (i2 : Int32) (i3 : Int32)   (M : Mem) : Option ((Int32 ⊕ Nat) × Mem) := f_X10_mend_b37 a0 i1 i2 i3 0 M
def f_X10_mend  (M : Mem) (a0 : Nat) (i1 : Int32) (i2 : Int32) (i3 : Int32) : Option ((Int32 ⊕ Nat) × Mem) := (f_X10_within M i1 0 9).bind fun q => match q with | (r1, M2) => ((f_X10_demand M2 r1).bind fun q => match q with | (.inr j8, M6) => some (.inr j8, M6) | (.inl r5, M6) => ((f_X10_within M6 i2 (-999999) 999999).bind fun q => match q with | (r9, M10) => (if r9 = 0 then (f_X10_mend_b36 a0 i1 i2 i3 M10) else ((f_X10_within M10 i3 0 999).bind fun q => match q with | (r14, M15) => (if r14 = 0 then (f_X10_mend_b36 a0 i1 i2 i3 M15) else (f_X10_mend_b37 a0 i1 i2 i3 1 M15))))))
set_option maxHeartbeats 4000000 in
set_option maxRecDepth 100000 in
theorem w_X10_mend_b37 {g : gT} {p : Program} {l : Launch} {e : Env} {s : State} {m : MethodId} {args : Array Value} {below : List Frame} {meth : Method} {c : Code} {z : (Int32 ⊕ Nat) × Mem} (F : Fx g p s m args c cX10_mend 4 uX10_mend RX10) (hr : meth.sig.returnType = (some .int)) (hlk : meth.locks = false) (hxt : ∀ x ∈ c.exceptionTable.toList, False) (hst : l.stackTraces = false)  {a0 : Nat} {i1 : Int32} {i2 : Int32} {i3 : Int32} (t0 : Ty g 10 a0)   (s0 : Int32) (M : Mem)  (h : f_X10_mend_b37 a0 i1 i2 i3 s0 M = some z) : V g p l e ({ frames := 7, cells := 2, slots := 12, locals := 40 * 7 } : Room) s m args below meth c 4 1 6 (vx_MQ below (gQx g vI z) (gXx g z) args s 2 12 (gA g)) 37 [(0, .ref (gAd g a0)), (1, .int i1), (2, .int i2), (3, .int i3)] [.int s0] M := by
  unfold f_X10_mend_b37 at h
  obtain ⟨⟨r19 | j22, M20⟩, hz21, h⟩ := bd_some h
  rotate_left
  · dsimp only at h; cases h; exact v_callSxT (As := [.int s0]) (rest := []) F (c_X10_demand l hst F.2.2.1  hz21) (cwS 1 F.1.2.2.2.2 (gU_S ml_X10_67 st_yX10_demand ini_X10 cd_X10_demand) rfl rfl rfl (by decide +kernel) ⟨Nat.le_of_ble_eq_true rfl, Nat.le_of_ble_eq_true rfl⟩) rfl rfl (Nat.le_of_ble_eq_true rfl) dX10_mend_37 ⟨Nat.le_of_ble_eq_true rfl, Nat.le_of_ble_eq_true rfl⟩ (vx_outV hxt hlk (by decide) (by decide))
  dsimp only at h
  refine v_callSxv (As := [.int s0]) (rest := []) F (c_X10_demand l hst F.2.2.1  hz21) (cwS 1 F.1.2.2.2.2 (gU_S ml_X10_67 st_yX10_demand ini_X10 cd_X10_demand) rfl rfl rfl (by decide +kernel) ⟨Nat.le_of_ble_eq_true rfl, Nat.le_of_ble_eq_true rfl⟩) rfl rfl (Nat.le_of_ble_eq_true rfl) dX10_mend_37 ⟨Nat.le_of_ble_eq_true rfl, Nat.le_of_ble_eq_true rfl⟩ ?_
  refine v_aload_n F dX10_mend_40 rfl 0 rfl ?_
  refine v_getR (k := 6) (f := 7) F t0 (by decide) (inc inU_10) rfl rfl (by decide) (by decide) (List.mem_cons_of_mem _ fl_X10_38) rfl dX10_mend_41 (fun u23 => ?_)
  refine v_getR (k := 2) (f := 4) F u23 (by decide) (inc inU_7) rfl rfl (by decide) (by decide) (List.mem_cons_of_mem _ fl_X10_226) rfl dX10_mend_44 (fun u24 => ?_)
  refine v_iload_n F dX10_mend_47 rfl 1 rfl ?_
  refine v_iload_n F dX10_mend_48 rfl 2 rfl ?_
  refine v_iload_n F dX10_mend_49 rfl 3 rfl ?_
  obtain ⟨⟨r25, M26⟩, hz27, h⟩ := bd_some h
  dsimp only at h
  refine v_callVi (As := [.int i1, .int i2, .int i3]) (rest := []) F (c_X4_add l F.2.2.1 u24 hz27) (cwV 3 F.1.2.2.2.2 (gU_V ml_X10_230 im_yX4_add se_yX4_add ini_X4 cd_X4_add) rfl rfl rfl (by decide +kernel) ⟨Nat.le_of_ble_eq_true rfl, Nat.le_of_ble_eq_true rfl⟩) u24 (by decide) rfl rfl rfl (Nat.le_of_ble_eq_true rfl) dX10_mend_50 ⟨Nat.le_of_ble_eq_true rfl, Nat.le_of_ble_eq_true rfl⟩ ?_
  cases h
  refine v_iretX F hr rfl hlk dX10_mend_53 ?_ ?_ <;> decide
set_option maxHeartbeats 4000000 in
set_option maxRecDepth 100000 in
theorem w_X10_mend_b36 {g : gT} {p : Program} {l : Launch} {e : Env} {s : State} {m : MethodId} {args : Array Value} {below : List Frame} {meth : Method} {c : Code} {z : (Int32 ⊕ Nat) × Mem} (F : Fx g p s m args c cX10_mend 4 uX10_mend RX10) (hr : meth.sig.returnType = (some .int)) (hlk : meth.locks = false) (hxt : ∀ x ∈ c.exceptionTable.toList, False) (hst : l.stackTraces = false)  {a0 : Nat} {i1 : Int32} {i2 : Int32} {i3 : Int32} (t0 : Ty g 10 a0)    (M : Mem)  (h : f_X10_mend_b36 a0 i1 i2 i3 M = some z) : V g p l e ({ frames := 7, cells := 2, slots := 12, locals := 40 * 7 } : Room) s m args below meth c 4 1 6 (vx_MQ below (gQx g vI z) (gXx g z) args s 2 12 (gA g)) 36 [(0, .ref (gAd g a0)), (1, .int i1), (2, .int i2), (3, .int i3)] [] M := by
  unfold f_X10_mend_b36 at h
  refine v_iconst (v := 0) F dX10_mend_36 (by decide) ?_
  exact w_X10_mend_b37 F hr hlk hxt hst t0 _ _ h
set_option maxHeartbeats 4000000 in
set_option maxRecDepth 100000 in
theorem c_X10_mend {g : gT} (l : Launch) (hst : l.stackTraces = false) (hok : gOK g) {a0 : Nat} {i1 : Int32} {i2 : Int32} {i3 : Int32} {M : Mem} {z : (Int32 ⊕ Nat) × Mem} (t0 : Ty g 10 a0) (h : f_X10_mend M a0 i1 i2 i3 = some z) : Cx g l yX10_mend uX10_mend 7 2 12 [.ref (gAd g a0), .int i1, .int i2, .int i3] M vI z := by
  refine Cx.of (cc := cX10_mend) (maxL := 4) (ret := (some .int)) hok (by decide) rfl (Nat.le_of_ble_eq_true rfl) (fun p e s m args below meth c F hr hlk hxt => ?_)
  unfold f_X10_mend at h
  show V g p l e ({ frames := 7, cells := 2, slots := 12, locals := 40 * 7 } : Room) s m args below meth c 4 0 0 (vx_MQ below (gQx g vI z) (gXx g z) args s 2 12 (gA g)) 0 [(0, .ref (gAd g a0)), (1, .int i1), (2, .int i2), (3, .int i3)] [] M
  refine v_iload_n F dX10_mend_0 rfl 1 rfl ?_
  refine v_iconst (v := 0) F dX10_mend_1 (by decide) ?_
  refine v_bipush (v := 9) F dX10_mend_2 (by decide) ?_
  obtain ⟨⟨r1, M2⟩, hz3, h⟩ := bd_some h
  dsimp only at h
  refine v_callSi (As := [.int i1, .int 0, .int 9]) (rest := []) F (c_X10_within l F.2.2.1  hz3) (cwS 3 F.1.2.2.2.2 (gU_S ml_X10_63 st_yX10_within ini_X10 cd_X10_within) rfl rfl rfl (by decide +kernel) ⟨Nat.le_of_ble_eq_true rfl, Nat.le_of_ble_eq_true rfl⟩) rfl rfl (Nat.le_of_ble_eq_true rfl) dX10_mend_4 ⟨Nat.le_of_ble_eq_true rfl, Nat.le_of_ble_eq_true rfl⟩ ?_
  obtain ⟨⟨r5 | j8, M6⟩, hz7, h⟩ := bd_some h
  rotate_left
  · dsimp only at h; cases h; exact v_callSxT (As := [.int r1]) (rest := []) F (c_X10_demand l hst F.2.2.1  hz7) (cwS 1 F.1.2.2.2.2 (gU_S ml_X10_67 st_yX10_demand ini_X10 cd_X10_demand) rfl rfl rfl (by decide +kernel) ⟨Nat.le_of_ble_eq_true rfl, Nat.le_of_ble_eq_true rfl⟩) rfl rfl (Nat.le_of_ble_eq_true rfl) dX10_mend_7 ⟨Nat.le_of_ble_eq_true rfl, Nat.le_of_ble_eq_true rfl⟩ (vx_outV hxt hlk (by decide) (by decide))
  dsimp only at h
  refine v_callSxv (As := [.int r1]) (rest := []) F (c_X10_demand l hst F.2.2.1  hz7) (cwS 1 F.1.2.2.2.2 (gU_S ml_X10_67 st_yX10_demand ini_X10 cd_X10_demand) rfl rfl rfl (by decide +kernel) ⟨Nat.le_of_ble_eq_true rfl, Nat.le_of_ble_eq_true rfl⟩) rfl rfl (Nat.le_of_ble_eq_true rfl) dX10_mend_7 ⟨Nat.le_of_ble_eq_true rfl, Nat.le_of_ble_eq_true rfl⟩ ?_
  refine v_iload_n F dX10_mend_10 rfl 2 rfl ?_
  refine v_ldc (v := (-999999)) F (F.1.2.2.2.2 _ (List.mem_cons_of_mem _ cn_X10_224)) dX10_mend_11 ?_
  refine v_ldc (v := 999999) F (F.1.2.2.2.2 _ (List.mem_cons_of_mem _ cn_X10_225)) dX10_mend_13 ?_
  obtain ⟨⟨r9, M10⟩, hz11, h⟩ := bd_some h
  dsimp only at h
  refine v_callSi (As := [.int i2, .int (-999999), .int 999999]) (rest := []) F (c_X10_within l F.2.2.1  hz11) (cwS 3 F.1.2.2.2.2 (gU_S ml_X10_63 st_yX10_within ini_X10 cd_X10_within) rfl rfl rfl (by decide +kernel) ⟨Nat.le_of_ble_eq_true rfl, Nat.le_of_ble_eq_true rfl⟩) rfl rfl (Nat.le_of_ble_eq_true rfl) dX10_mend_15 ⟨Nat.le_of_ble_eq_true rfl, Nat.le_of_ble_eq_true rfl⟩ ?_
  refine v_if_eq (tgt := 36) F dX10_mend_18 (by decide) (fun hc13 => ?_) (fun hc13 => ?_)
  · rw [if_pos hc13] at h
    exact w_X10_mend_b36 F hr hlk hxt hst t0 _ h
  · rw [if_neg hc13] at h
    refine v_iload_n F dX10_mend_21 rfl 3 rfl ?_
    refine v_iconst (v := 0) F dX10_mend_22 (by decide) ?_
    refine v_sipush (v := 999) F dX10_mend_23 (by decide) ?_
    obtain ⟨⟨r14, M15⟩, hz16, h⟩ := bd_some h
    dsimp only at h
    refine v_callSi (As := [.int i3, .int 0, .int 999]) (rest := []) F (c_X10_within l F.2.2.1  hz16) (cwS 3 F.1.2.2.2.2 (gU_S ml_X10_63 st_yX10_within ini_X10 cd_X10_within) rfl rfl rfl (by decide +kernel) ⟨Nat.le_of_ble_eq_true rfl, Nat.le_of_ble_eq_true rfl⟩) rfl rfl (Nat.le_of_ble_eq_true rfl) dX10_mend_26 ⟨Nat.le_of_ble_eq_true rfl, Nat.le_of_ble_eq_true rfl⟩ ?_
    refine v_if_eq (tgt := 36) F dX10_mend_29 (by decide) (fun hc18 => ?_) (fun hc18 => ?_)
    · rw [if_pos hc18] at h
      exact w_X10_mend_b36 F hr hlk hxt hst t0 _ h
    · rw [if_neg hc18] at h
      refine v_iconst (v := 1) F dX10_mend_32 (by decide) ?_
      refine v_goto (tgt := 37) F dX10_mend_33 (by decide) ?_
      exact w_X10_mend_b37 F hr hlk hxt hst t0 _ _ h
def f_X10_trialIsCalmUpTo_b31 (a0 : Nat) (a1 : Nat) (i2 : Int32) (i3 : Int32) (k3 : Int32 → Mem → Option (Int32 × Mem)) (k12 : Int32 → Int32 → Mem → Option (Int32 × Mem)) (s0 : Int32) (x4 : Int32) (x5 : Int32) (M : Mem) : Option (Int32 × Mem) := (f_X10_trialGrows M a0 a1 x4 s0 (1 + (x5 / 2)) 100 100).bind fun q => match q with | (r4, M5) => (if r4 = 0 then (k12 x4 (x5 + 1) M5) else (some (x4 - 1, M5)))
def f_X10_trialIsCalmUpTo_h12 (a0 : Nat) (a1 : Nat) (i2 : Int32) (i3 : Int32) (k3 : Int32 → Mem → Option (Int32 × Mem)) : Nat → Int32 → Int32 → Mem → Option (Int32 × Mem)
  | 0, _, _, _ => none
  | n + 1, x4, x5, M => if 6 ≤ x5 then (k3 (x4 + 1) M) else (if (x5 - x5 / 2 * 2) = 0 then (f_X10_trialIsCalmUpTo_b31 a0 a1 i2 i3 k3 (f_X10_trialIsCalmUpTo_h12 a0 a1 i2 i3 k3 n) 0 x4 x5 M) else (f_X10_trialIsCalmUpTo_b31 a0 a1 i2 i3 k3 (f_X10_trialIsCalmUpTo_h12 a0 a1 i2 i3 k3 n) 1 x4 x5 M))
def f_X10_trialIsCalmUpTo_h3 (a0 : Nat) (a1 : Nat) (i2 : Int32) (i3 : Int32)  : Nat → Int32 → Mem → Option (Int32 × Mem)
  | 0, _, _ => none
  | n + 1, x4, M => if i3 < x4 then (some (i3, M)) else (f_X10_trialIsCalmUpTo_h12 a0 a1 i2 i3 (f_X10_trialIsCalmUpTo_h3 a0 a1 i2 i3 n) FU x4 0 M)
def f_X10_trialIsCalmUpTo  (M : Mem) (a0 : Nat) (a1 : Nat) (i2 : Int32) (i3 : Int32) : Option (Int32 × Mem) := f_X10_trialIsCalmUpTo_h3 a0 a1 i2 i3 FU i2 M
set_option maxHeartbeats 4000000 in
set_option maxRecDepth 100000 in
theorem w_X10_trialIsCalmUpTo_b31 {g : gT} {p : Program} {l : Launch} {e : Env} {s : State} {m : MethodId} {args : Array Value} {below : List Frame} {meth : Method} {c : Code} {z : Int32 × Mem} (F : Fx g p s m args c cX10_trialIsCalmUpTo 7 uX10_trialIsCalmUpTo RX10) (hr : meth.sig.returnType = (some .int)) (hlk : meth.locks = false)  {a0 : Nat} {a1 : Nat} {i2 : Int32} {i3 : Int32} (t0 : Ty g 10 a0) (t1 : Ty g 3 a1) {k3 : Int32 → Mem → Option (Int32 × Mem)} {k12 : Int32 → Int32 → Mem → Option (Int32 × Mem)} (hk3 : ∀ (x4 : Int32) (M : Mem), k3 x4 M = some z → V g p l e ({ frames := 5, cells := 0, slots := 0, locals := 40 * 5 } : Room) s m args below meth c 7 0 0 (MQ below (gQ g (some (.int z.1)) z.2) args s 0 0 (gA g)) 3 [(0, .ref (gAd g a0)), (1, .ref (gAd g a1)), (2, .int i2), (3, .int i3), (4, .int x4)] [] M) (hk12 : ∀ (x4 : Int32) (x5 : Int32) (M : Mem), k12 x4 x5 M = some z → V g p l e ({ frames := 5, cells := 0, slots := 0, locals := 40 * 5 } : Room) s m args below meth c 7 0 0 (MQ below (gQ g (some (.int z.1)) z.2) args s 0 0 (gA g)) 12 [(0, .ref (gAd g a0)), (1, .ref (gAd g a1)), (2, .int i2), (3, .int i3), (4, .int x4), (5, .int x5)] [] M) (s0 : Int32) (x4 : Int32) (x5 : Int32) (M : Mem)  (h : f_X10_trialIsCalmUpTo_b31 a0 a1 i2 i3 k3 k12 s0 x4 x5 M = some z) : V g p l e ({ frames := 5, cells := 0, slots := 0, locals := 40 * 5 } : Room) s m args below meth c 7 0 0 (MQ below (gQ g (some (.int z.1)) z.2) args s 0 0 (gA g)) 31 [(0, .ref (gAd g a0)), (1, .ref (gAd g a1)), (2, .int i2), (3, .int i3), (4, .int x4), (5, .int x5)] [.int s0] M := by
  unfold f_X10_trialIsCalmUpTo_b31 at h
  refine v_istore (lv' := [(6, .int s0), (0, .ref (gAd g a0)), (1, .ref (gAd g a1)), (2, .int i2), (3, .int i3), (4, .int x4), (5, .int x5)]) F dX10_trialIsCalmUpTo_31 (by decide) rfl ?_
  refine v_aload_n F dX10_trialIsCalmUpTo_33 rfl 1 rfl ?_
  refine v_aload_n F dX10_trialIsCalmUpTo_34 rfl 2 rfl ?_
  refine v_iload F dX10_trialIsCalmUpTo_35 5 rfl ?_
  refine v_iload F dX10_trialIsCalmUpTo_37 0 rfl ?_
  refine v_iconst (v := 1) F dX10_trialIsCalmUpTo_39 (by decide) ?_
  refine v_iload F dX10_trialIsCalmUpTo_40 6 rfl ?_
  refine v_iconst (v := 2) F dX10_trialIsCalmUpTo_42 (by decide) ?_
  refine v_idiv F dX10_trialIsCalmUpTo_43 (by decide) ?_
  refine v_iadd F dX10_trialIsCalmUpTo_44 ?_
  refine v_bipush (v := 100) F dX10_trialIsCalmUpTo_45 (by decide) ?_
  refine v_bipush (v := 100) F dX10_trialIsCalmUpTo_47 (by decide) ?_
  obtain ⟨⟨r4, M5⟩, hz6, h⟩ := bd_some h
  dsimp only at h
  refine v_callVi (As := [.ref (gAd g a1), .int x4, .int s0, .int (1 + (x5 / 2)), .int 100, .int 100]) (rest := []) F (c_X10_trialGrows l F.2.2.1 t0 t1 hz6) (cwV 6 F.1.2.2.2.2 (gU_V ml_X10_186 im_yX10_trialGrows se_yX10_trialGrows ini_X10 cd_X10_trialGrows) rfl rfl rfl (by decide +kernel) ⟨Nat.le_of_ble_eq_true rfl, Nat.le_of_ble_eq_true rfl⟩) t0 (by decide) rfl rfl rfl (Nat.le_of_ble_eq_true rfl) dX10_trialIsCalmUpTo_49 ⟨Nat.le_of_ble_eq_true rfl, Nat.le_of_ble_eq_true rfl⟩ ?_
  refine v_if_eq (tgt := 60) F dX10_trialIsCalmUpTo_52 (by decide) (fun hc8 => ?_) (fun hc8 => ?_)
  · rw [if_pos hc8] at h
    refine v_iinc (v := x5 + 1) (lv' := [(5, .int (x5 + 1)), (6, .int s0), (0, .ref (gAd g a0)), (1, .ref (gAd g a1)), (2, .int i2), (3, .int i3), (4, .int x4)]) F dX10_trialIsCalmUpTo_60 (q := 6) rfl rfl (by decide) rfl ?_
    refine v_goto (tgt := 12) F dX10_trialIsCalmUpTo_63 (by decide) ?_
    refine v_sub (fun ls h9 => lv_sub h9 [2, 3, 4, 5, 6, 0] rfl) ?_
    exact hk12 _ _ _ h
  · rw [if_neg hc8] at h
    refine v_iload F dX10_trialIsCalmUpTo_55 5 rfl ?_
    refine v_iconst (v := 1) F dX10_trialIsCalmUpTo_57 (by decide) ?_
    refine v_isub F dX10_trialIsCalmUpTo_58 ?_
    cases h
    exact v_iret F hr rfl hlk dX10_trialIsCalmUpTo_59
set_option maxHeartbeats 4000000 in
set_option maxRecDepth 100000 in
theorem w_X10_trialIsCalmUpTo_h12 {g : gT} {p : Program} {l : Launch} {e : Env} {s : State} {m : MethodId} {args : Array Value} {below : List Frame} {meth : Method} {c : Code} {z : Int32 × Mem} (F : Fx g p s m args c cX10_trialIsCalmUpTo 7 uX10_trialIsCalmUpTo RX10) (hr : meth.sig.returnType = (some .int)) (hlk : meth.locks = false)  {a0 : Nat} {a1 : Nat} {i2 : Int32} {i3 : Int32} (t0 : Ty g 10 a0) (t1 : Ty g 3 a1) {k3 : Int32 → Mem → Option (Int32 × Mem)} (hk3 : ∀ (x4 : Int32) (M : Mem), k3 x4 M = some z → V g p l e ({ frames := 5, cells := 0, slots := 0, locals := 40 * 5 } : Room) s m args below meth c 7 0 0 (MQ below (gQ g (some (.int z.1)) z.2) args s 0 0 (gA g)) 3 [(0, .ref (gAd g a0)), (1, .ref (gAd g a1)), (2, .int i2), (3, .int i3), (4, .int x4)] [] M) : ∀ (n : Nat) (x4 : Int32) (x5 : Int32) (M : Mem), f_X10_trialIsCalmUpTo_h12 a0 a1 i2 i3 k3 n x4 x5 M = some z → V g p l e ({ frames := 5, cells := 0, slots := 0, locals := 40 * 5 } : Room) s m args below meth c 7 0 0 (MQ below (gQ g (some (.int z.1)) z.2) args s 0 0 (gA g)) 12 [(0, .ref (gAd g a0)), (1, .ref (gAd g a1)), (2, .int i2), (3, .int i3), (4, .int x4), (5, .int x5)] [] M := by
  intro n
  induction n with
  | zero => intro x4 x5 M; intros; rename_i h; cases h
  | succ n ih =>
    intro x4 x5 M h
    rw [f_X10_trialIsCalmUpTo_h12] at h
    refine v_iload F dX10_trialIsCalmUpTo_12 5 rfl ?_
    refine v_bipush (v := 6) F dX10_trialIsCalmUpTo_14 (by decide) ?_
    refine v_icmp_ge (tgt := 66) F dX10_trialIsCalmUpTo_16 (by decide) (fun hc2 => ?_) (fun hc2 => ?_)
    · rw [if_pos hc2] at h
      refine v_iinc (v := x4 + 1) (lv' := [(4, .int (x4 + 1)), (0, .ref (gAd g a0)), (1, .ref (gAd g a1)), (2, .int i2), (3, .int i3), (5, .int x5)]) F dX10_trialIsCalmUpTo_66 (q := 4) rfl rfl (by decide) rfl ?_
      refine v_goto (tgt := 3) F dX10_trialIsCalmUpTo_69 (by decide) ?_
      refine v_sub (fun ls h9 => lv_sub h9 [1, 2, 3, 4, 0] rfl) ?_
      exact hk3 _ _ h
    · rw [if_neg hc2] at h
      refine v_iload F dX10_trialIsCalmUpTo_19 5 rfl ?_
      refine v_iconst (v := 2) F dX10_trialIsCalmUpTo_21 (by decide) ?_
      refine v_irem F dX10_trialIsCalmUpTo_22 (by decide) ?_
      refine v_if_ne (tgt := 30) F dX10_trialIsCalmUpTo_23 (by decide) (fun hc3 => ?_) (fun hc3 => ?_)
      · rw [if_neg hc3] at h
        refine v_iconst (v := 1) F dX10_trialIsCalmUpTo_30 (by decide) ?_
        exact w_X10_trialIsCalmUpTo_b31 F hr hlk t0 t1 hk3 ih _ _ _ _ h
      · rw [if_pos hc3] at h
        refine v_iconst (v := 0) F dX10_trialIsCalmUpTo_26 (by decide) ?_
        refine v_goto (tgt := 31) F dX10_trialIsCalmUpTo_27 (by decide) ?_
        exact w_X10_trialIsCalmUpTo_b31 F hr hlk t0 t1 hk3 ih _ _ _ _ h
set_option maxHeartbeats 4000000 in
set_option maxRecDepth 100000 in
theorem w_X10_trialIsCalmUpTo_h3 {g : gT} {p : Program} {l : Launch} {e : Env} {s : State} {m : MethodId} {args : Array Value} {below : List Frame} {meth : Method} {c : Code} {z : Int32 × Mem} (F : Fx g p s m args c cX10_trialIsCalmUpTo 7 uX10_trialIsCalmUpTo RX10) (hr : meth.sig.returnType = (some .int)) (hlk : meth.locks = false)  {a0 : Nat} {a1 : Nat} {i2 : Int32} {i3 : Int32} (t0 : Ty g 10 a0) (t1 : Ty g 3 a1)   : ∀ (n : Nat) (x4 : Int32) (M : Mem), f_X10_trialIsCalmUpTo_h3 a0 a1 i2 i3 n x4 M = some z → V g p l e ({ frames := 5, cells := 0, slots := 0, locals := 40 * 5 } : Room) s m args below meth c 7 0 0 (MQ below (gQ g (some (.int z.1)) z.2) args s 0 0 (gA g)) 3 [(0, .ref (gAd g a0)), (1, .ref (gAd g a1)), (2, .int i2), (3, .int i3), (4, .int x4)] [] M := by
  intro n
  induction n with
  | zero => intro x4 M; intros; rename_i h; cases h
  | succ n ih =>
    intro x4 M h
    rw [f_X10_trialIsCalmUpTo_h3] at h
    refine v_iload F dX10_trialIsCalmUpTo_3 4 rfl ?_
    refine v_iload_n F dX10_trialIsCalmUpTo_5 rfl 3 rfl ?_
    refine v_icmp_gt (tgt := 72) F dX10_trialIsCalmUpTo_6 (by decide) (fun hc1 => ?_) (fun hc1 => ?_)
    · rw [if_pos hc1] at h
      refine v_iload_n F dX10_trialIsCalmUpTo_72 rfl 3 rfl ?_
      cases h
      exact v_iret F hr rfl hlk dX10_trialIsCalmUpTo_73
    · rw [if_neg hc1] at h
      refine v_iconst (v := 0) F dX10_trialIsCalmUpTo_9 (by decide) ?_
      refine v_istore (lv' := [(5, .int 0), (0, .ref (gAd g a0)), (1, .ref (gAd g a1)), (2, .int i2), (3, .int i3), (4, .int x4)]) F dX10_trialIsCalmUpTo_10 (by decide) rfl ?_
      refine v_sub (fun ls h9 => lv_sub h9 [1, 2, 3, 4, 5, 0] rfl) ?_
      exact w_X10_trialIsCalmUpTo_h12 F hr hlk t0 t1 ih _ _ _ _ h
set_option maxHeartbeats 4000000 in
set_option maxRecDepth 100000 in
theorem c_X10_trialIsCalmUpTo {g : gT} (l : Launch) (hok : gOK g)  {a0 : Nat} {a1 : Nat} {i2 : Int32} {i3 : Int32} {M : Mem} {z : Int32 × Mem}  (t0 : Ty g 10 a0) (t1 : Ty g 3 a1) (h : f_X10_trialIsCalmUpTo  M a0 a1 i2 i3 = some z) : Cn g l yX10_trialIsCalmUpTo uX10_trialIsCalmUpTo 5 [.ref (gAd g a0), .ref (gAd g a1), .int i2, .int i3] M (some (.int z.1)) z.2 := by
  refine Cn.of (cc := cX10_trialIsCalmUpTo) (maxL := 7) (ret := (some .int)) hok (by decide) rfl (Nat.le_of_ble_eq_true rfl) (fun p e s m args below meth c F hr hlk => ?_)
  unfold f_X10_trialIsCalmUpTo at h
  show V g p l e ({ frames := 5, cells := 0, slots := 0, locals := 40 * 5 } : Room) s m args below meth c 7 0 0 (MQ below (gQ g (some (.int z.1)) z.2) args s 0 0 (gA g)) 0 [(0, .ref (gAd g a0)), (1, .ref (gAd g a1)), (2, .int i2), (3, .int i3)] [] M
  refine v_iload_n F dX10_trialIsCalmUpTo_0 rfl 2 rfl ?_
  refine v_istore (lv' := [(4, .int i2), (0, .ref (gAd g a0)), (1, .ref (gAd g a1)), (2, .int i2), (3, .int i3)]) F dX10_trialIsCalmUpTo_1 (by decide) rfl ?_
  refine v_sub (fun ls h9 => lv_sub h9 [1, 2, 3, 4, 0] rfl) ?_
  exact w_X10_trialIsCalmUpTo_h3 F hr hlk t0 t1 _ _ _ h
def f_X10_calm  (M : Mem) (a0 : Nat) (i1 : Int32) (i2 : Int32) : Option ((Int32 ⊕ Nat) × Mem) := (f_X10_lawNumbered M a0 i1).bind fun q => match q with | (.inr j4, M2) => some (.inr j4, M2) | (.inl r1, M2) => ((f_X10_demandWind M2 i2).bind fun q => match q with | (.inr j9, M7) => some (.inr j9, M7) | (.inl r6, M7) => ((f_X1_copy M7 (gRf a0 9) (gRf (gRf a0 6) 0)).bind fun q => match q with | (r13, M14) => ((f_X10_trialIsCalmUpTo M14 a0 r1 i2 i2).bind fun q => match q with | (r17, M18) => (if r17 = i2 then (some (.inl 1, M18)) else (some (.inl 0, M18))))))
set_option maxHeartbeats 4000000 in
set_option maxRecDepth 100000 in
theorem c_X10_calm {g : gT} (l : Launch) (hst : l.stackTraces = false) (hok : gOK g) {a0 : Nat} {i1 : Int32} {i2 : Int32} {M : Mem} {z : (Int32 ⊕ Nat) × Mem} (t0 : Ty g 10 a0) (h : f_X10_calm M a0 i1 i2 = some z) : Cx g l yX10_calm uX10_calm 8 2 12 [.ref (gAd g a0), .int i1, .int i2] M vI z := by
  refine Cx.of (cc := cX10_calm) (maxL := 4) (ret := (some .boolean)) hok (by decide) rfl (Nat.le_of_ble_eq_true rfl) (fun p e s m args below meth c F hr hlk hxt => ?_)
  unfold f_X10_calm at h
  show V g p l e ({ frames := 8, cells := 2, slots := 12, locals := 40 * 8 } : Room) s m args below meth c 4 0 0 (vx_MQ below (gQx g vI z) (gXx g z) args s 2 12 (gA g)) 0 [(0, .ref (gAd g a0)), (1, .int i1), (2, .int i2)] [] M
  refine v_aload_n F dX10_calm_0 rfl 0 rfl ?_
  refine v_iload_n F dX10_calm_1 rfl 1 rfl ?_
  obtain ⟨⟨r1 | j4, M2⟩, hz3, h⟩ := bd_some h
  rotate_left
  · dsimp only at h; cases h; exact v_callVxT (As := [.int i1]) (rest := []) F (c_X10_lawNumbered l hst F.2.2.1 t0 hz3) (cwV 1 F.1.2.2.2.2 (gU_V ml_X10_135 im_yX10_lawNumbered se_yX10_lawNumbered ini_X10 cd_X10_lawNumbered) rfl rfl rfl (by decide +kernel) ⟨Nat.le_of_ble_eq_true rfl, Nat.le_of_ble_eq_true rfl⟩) t0 (by decide) rfl rfl rfl (Nat.le_of_ble_eq_true rfl) dX10_calm_2 ⟨Nat.le_of_ble_eq_true rfl, Nat.le_of_ble_eq_true rfl⟩ (vx_outV hxt hlk (by decide) (by decide))
  dsimp only at h
  refine v_callVxr (As := [.int i1]) (rest := []) F (c_X10_lawNumbered l hst F.2.2.1 t0 hz3) (cwV 1 F.1.2.2.2.2 (gU_V ml_X10_135 im_yX10_lawNumbered se_yX10_lawNumbered ini_X10 cd_X10_lawNumbered) rfl rfl rfl (by decide +kernel) ⟨Nat.le_of_ble_eq_true rfl, Nat.le_of_ble_eq_true rfl⟩) t0 (by decide) rfl rfl rfl (Nat.le_of_ble_eq_true rfl) dX10_calm_2 ⟨Nat.le_of_ble_eq_true rfl, Nat.le_of_ble_eq_true rfl⟩ ?_
  have u5 := ty_X10_lawNumbered F.2.2.1 t0 hz3
  refine v_astore_n (lv' := [(3, .ref (gAd g r1)), (0, .ref (gAd g a0)), (1, .int i1), (2, .int i2)]) F dX10_calm_5 rfl (by decide) rfl ?_
  refine v_iload_n F dX10_calm_6 rfl 3 rfl ?_
  obtain ⟨⟨r6 | j9, M7⟩, hz8, h⟩ := bd_some h
  rotate_left
  · dsimp only at h; cases h; exact v_callSxT (As := [.int i2]) (rest := []) F (c_X10_demandWind l hst F.2.2.1  hz8) (cwS 1 F.1.2.2.2.2 (gU_S ml_X10_139 st_yX10_demandWind ini_X10 cd_X10_demandWind) rfl rfl rfl (by decide +kernel) ⟨Nat.le_of_ble_eq_true rfl, Nat.le_of_ble_eq_true rfl⟩) rfl rfl (Nat.le_of_ble_eq_true rfl) dX10_calm_7 ⟨Nat.le_of_ble_eq_true rfl, Nat.le_of_ble_eq_true rfl⟩ (vx_outV hxt hlk (by decide) (by decide))
  dsimp only at h
  refine v_callSxv (As := [.int i2]) (rest := []) F (c_X10_demandWind l hst F.2.2.1  hz8) (cwS 1 F.1.2.2.2.2 (gU_S ml_X10_139 st_yX10_demandWind ini_X10 cd_X10_demandWind) rfl rfl rfl (by decide +kernel) ⟨Nat.le_of_ble_eq_true rfl, Nat.le_of_ble_eq_true rfl⟩) rfl rfl (Nat.le_of_ble_eq_true rfl) dX10_calm_7 ⟨Nat.le_of_ble_eq_true rfl, Nat.le_of_ble_eq_true rfl⟩ ?_
  refine v_aload_n F dX10_calm_10 rfl 1 rfl ?_
  refine v_getR (k := 9) (f := 1) F t0 (by decide) (inc inU_10) rfl rfl (by decide) (by decide) (List.mem_cons_of_mem _ fl_X10_49) rfl dX10_calm_11 (fun u10 => ?_)
  refine v_aload_n F dX10_calm_14 rfl 1 rfl ?_
  refine v_getR (k := 6) (f := 7) F t0 (by decide) (inc inU_10) rfl rfl (by decide) (by decide) (List.mem_cons_of_mem _ fl_X10_38) rfl dX10_calm_15 (fun u11 => ?_)
  refine v_getR (k := 0) (f := 1) F u11 (by decide) (inc inU_7) rfl rfl (by decide) (by decide) (List.mem_cons_of_mem _ fl_X10_93) rfl dX10_calm_18 (fun u12 => ?_)
  obtain ⟨⟨r13, M14⟩, hz15, h⟩ := bd_some h
  dsimp only at h
  refine v_callVv (As := [.ref (gAd g (gRf (gRf a0 6) 0))]) (rest := []) F (c_X1_copy l F.2.2.1 u10 u12 hz15) (cwV 1 F.1.2.2.2.2 (gU_V ml_X10_182 im_yX1_copy se_yX1_copy ini_X1 cd_X1_copy) rfl rfl rfl (by decide +kernel) ⟨Nat.le_of_ble_eq_true rfl, Nat.le_of_ble_eq_true rfl⟩) u10 (by decide) rfl rfl rfl (Nat.le_of_ble_eq_true rfl) dX10_calm_21 ⟨Nat.le_of_ble_eq_true rfl, Nat.le_of_ble_eq_true rfl⟩ ?_
  refine v_aload_n F dX10_calm_24 rfl 1 rfl ?_
  refine v_aload_n F dX10_calm_25 rfl 0 rfl ?_
  refine v_iload_n F dX10_calm_26 rfl 3 rfl ?_
  refine v_iload_n F dX10_calm_27 rfl 3 rfl ?_
  obtain ⟨⟨r17, M18⟩, hz19, h⟩ := bd_some h
  dsimp only at h
  refine v_callVi (As := [.ref (gAd g r1), .int i2, .int i2]) (rest := []) F (c_X10_trialIsCalmUpTo l F.2.2.1 t0 u5 hz19) (cwV 3 F.1.2.2.2.2 (gU_V ml_X10_235 im_yX10_trialIsCalmUpTo se_yX10_trialIsCalmUpTo ini_X10 cd_X10_trialIsCalmUpTo) rfl rfl rfl (by decide +kernel) ⟨Nat.le_of_ble_eq_true rfl, Nat.le_of_ble_eq_true rfl⟩) t0 (by decide) rfl rfl rfl (Nat.le_of_ble_eq_true rfl) dX10_calm_28 ⟨Nat.le_of_ble_eq_true rfl, Nat.le_of_ble_eq_true rfl⟩ ?_
  refine v_iload_n F dX10_calm_31 rfl 3 rfl ?_
  refine v_icmp_ne (tgt := 39) F dX10_calm_32 (by decide) (fun hc21 => ?_) (fun hc21 => ?_)
  · rw [if_neg hc21] at h
    refine v_iconst (v := 0) F dX10_calm_39 (by decide) ?_
    cases h
    refine v_iretX F hr narrow_b0 hlk dX10_calm_40 ?_ ?_ <;> decide
  · rw [if_pos hc21] at h
    refine v_iconst (v := 1) F dX10_calm_35 (by decide) ?_
    refine v_goto (tgt := 40) F dX10_calm_36 (by decide) ?_
    cases h
    refine v_iretX F hr narrow_b1 hlk dX10_calm_40 ?_ ?_ <;> decide
def f_X10_mended_b112 (a0 : Nat) (i1 : Int32) (i2 : Int32) (k19 : Nat → Int32 → Int32 → Int32 → Mem → Option ((Int32 ⊕ Nat) × Mem)) (y3 : Nat) (x4 : Int32) (x5 : Int32) (x6 : Int32) (M : Mem) : Option ((Int32 ⊕ Nat) × Mem) := k19 y3 x4 x5 (x6 + 1) M
def f_X10_mended_b63 (a0 : Nat) (i1 : Int32) (i2 : Int32) (k19 : Nat → Int32 → Int32 → Int32 → Mem → Option ((Int32 ⊕ Nat) × Mem)) (y3 : Nat) (x4 : Int32) (x5 : Int32) (x6 : Int32) (x7 : Int32) (M : Mem) : Option ((Int32 ⊕ Nat) × Mem) := (f_X1_copy M (gRf a0 9) (gRf (gRf a0 6) 0)).bind fun q => match q with | (r24, M25) => ((f_X4_makeAll M25 (gRf (gRf a0 6) 2) x6 (gRf a0 9)).bind fun q => match q with | (r31, M32) => ((f_X10_trialIsCalmUpTo M32 a0 y3 i2 i2).bind fun q => match q with | (r35, M36) => (if r35 = i2 then (f_X10_mended_b112 a0 i1 i2 k19 y3 x6 x7 x6 M36) else (f_X10_mended_b112 a0 i1 i2 k19 y3 x4 x5 x6 M36))))
def f_X10_mended_h19 (a0 : Nat) (i1 : Int32) (i2 : Int32)  : Nat → Nat → Int32 → Int32 → Int32 → Mem → Option ((Int32 ⊕ Nat) × Mem)
  | 0, _, _, _, _, _ => none
  | n + 1, y3, x4, x5, x6, M => if (1 <<< ((M (gRf (gRf a0 6) 2) 0) &&& 31)) ≤ x6 then (some (.inl x4, M)) else ((f_X4_costOf M (gRf (gRf a0 6) 2) x6).bind fun q => match q with | (r15, M16) => (if x4 = (-1) then (f_X10_mended_b63 a0 i1 i2 (f_X10_mended_h19 a0 i1 i2 n) y3 x4 x5 x6 r15 M16) else (if x5 ≤ r15 then (f_X10_mended_b112 a0 i1 i2 (f_X10_mended_h19 a0 i1 i2 n) y3 x4 x5 x6 M16) else (f_X10_mended_b63 a0 i1 i2 (f_X10_mended_h19 a0 i1 i2 n) y3 x4 x5 x6 r15 M16))))
def f_X10_mended  (M : Mem) (a0 : Nat) (i1 : Int32) (i2 : Int32) : Option ((Int32 ⊕ Nat) × Mem) := (f_X10_lawNumbered M a0 i1).bind fun q => match q with | (.inr j4, M2) => some (.inr j4, M2) | (.inl r1, M2) => ((f_X10_demandWind M2 i2).bind fun q => match q with | (.inr j9, M7) => some (.inr j9, M7) | (.inl r6, M7) => (f_X10_mended_h19 a0 i1 i2 FU r1 (-1) 0 0 M7))
set_option maxHeartbeats 4000000 in
set_option maxRecDepth 100000 in
theorem w_X10_mended_b112 {g : gT} {p : Program} {l : Launch} {e : Env} {s : State} {m : MethodId} {args : Array Value} {below : List Frame} {meth : Method} {c : Code} {z : (Int32 ⊕ Nat) × Mem} (F : Fx g p s m args c cX10_mended 8 uX10_mended RX10) (hr : meth.sig.returnType = (some .int)) (hlk : meth.locks = false) (hxt : ∀ x ∈ c.exceptionTable.toList, False) (hst : l.stackTraces = false)  {a0 : Nat} {i1 : Int32} {i2 : Int32} (t0 : Ty g 10 a0) {k19 : Nat → Int32 → Int32 → Int32 → Mem → Option ((Int32 ⊕ Nat) × Mem)} (hk19 : ∀ (y3 : Nat) (x4 : Int32) (x5 : Int32) (x6 : Int32) (M : Mem), Ty g 3 y3 → k19 y3 x4 x5 x6 M = some z → V g p l e ({ frames := 8, cells := 2, slots := 12, locals := 40 * 8 } : Room) s m args below meth c 8 2 12 (vx_MQ below (gQx g vI z) (gXx g z) args s 2 12 (gA g)) 19 [(0, .ref (gAd g a0)), (1, .int i1), (2, .int i2), (3, .ref (gAd g y3)), (4, .int x4), (5, .int x5), (6, .int x6)] [] M) (y3 : Nat) (x4 : Int32) (x5 : Int32) (x6 : Int32) (M : Mem) (ty3 : Ty g 3 y3) (h : f_X10_mended_b112 a0 i1 i2 k19 y3 x4 x5 x6 M = some z) : V g p l e ({ frames := 8, cells := 2, slots := 12, locals := 40 * 8 } : Room) s m args below meth c 8 2 12 (vx_MQ below (gQx g vI z) (gXx g z) args s 2 12 (gA g)) 112 [(0, .ref (gAd g a0)), (1, .int i1), (2, .int i2), (3, .ref (gAd g y3)), (4, .int x4), (5, .int x5), (6, .int x6)] [] M := by
  unfold f_X10_mended_b112 at h
  refine v_iinc (v := x6 + 1) (lv' := [(6, .int (x6 + 1)), (0, .ref (gAd g a0)), (1, .int i1), (2, .int i2), (3, .ref (gAd g y3)), (4, .int x4), (5, .int x5)]) F dX10_mended_112 (q := 6) rfl rfl (by decide) rfl ?_
  refine v_goto (tgt := 19) F dX10_mended_115 (by decide) ?_
  refine v_sub (fun ls h9 => lv_sub h9 [1, 2, 3, 4, 5, 6, 0] rfl) ?_
  exact hk19 _ _ _ _ _ ty3 h
set_option maxHeartbeats 4000000 in
set_option maxRecDepth 100000 in
theorem w_X10_mended_b63 {g : gT} {p : Program} {l : Launch} {e : Env} {s : State} {m : MethodId} {args : Array Value} {below : List Frame} {meth : Method} {c : Code} {z : (Int32 ⊕ Nat) × Mem} (F : Fx g p s m args c cX10_mended 8 uX10_mended RX10) (hr : meth.sig.returnType = (some .int)) (hlk : meth.locks = false) (hxt : ∀ x ∈ c.exceptionTable.toList, False) (hst : l.stackTraces = false)  {a0 : Nat} {i1 : Int32} {i2 : Int32} (t0 : Ty g 10 a0) {k19 : Nat → Int32 → Int32 → Int32 → Mem → Option ((Int32 ⊕ Nat) × Mem)} (hk19 : ∀ (y3 : Nat) (x4 : Int32) (x5 : Int32) (x6 : Int32) (M : Mem), Ty g 3 y3 → k19 y3 x4 x5 x6 M = some z → V g p l e ({ frames := 8, cells := 2, slots := 12, locals := 40 * 8 } : Room) s m args below meth c 8 2 12 (vx_MQ below (gQx g vI z) (gXx g z) args s 2 12 (gA g)) 19 [(0, .ref (gAd g a0)), (1, .int i1), (2, .int i2), (3, .ref (gAd g y3)), (4, .int x4), (5, .int x5), (6, .int x6)] [] M) (y3 : Nat) (x4 : Int32) (x5 : Int32) (x6 : Int32) (x7 : Int32) (M : Mem) (ty3 : Ty g 3 y3) (h : f_X10_mended_b63 a0 i1 i2 k19 y3 x4 x5 x6 x7 M = some z) : V g p l e ({ frames := 8, cells := 2, slots := 12, locals := 40 * 8 } : Room) s m args below meth c 8 2 12 (vx_MQ below (gQx g vI z) (gXx g z) args s 2 12 (gA g)) 63 [(0, .ref (gAd g a0)), (1, .int i1), (2, .int i2), (3, .ref (gAd g y3)), (4, .int x4), (5, .int x5), (6, .int x6), (7, .int x7)] [] M := by
  unfold f_X10_mended_b63 at h
  refine v_aload_n F dX10_mended_63 rfl 0 rfl ?_
  refine v_getR (k := 9) (f := 1) F t0 (by decide) (inc inU_10) rfl rfl (by decide) (by decide) (List.mem_cons_of_mem _ fl_X10_49) rfl dX10_mended_64 (fun u21 => ?_)
  refine v_aload_n F dX10_mended_67 rfl 0 rfl ?_
  refine v_getR (k := 6) (f := 7) F t0 (by decide) (inc inU_10) rfl rfl (by decide) (by decide) (List.mem_cons_of_mem _ fl_X10_38) rfl dX10_mended_68 (fun u22 => ?_)
  refine v_getR (k := 0) (f := 1) F u22 (by decide) (inc inU_7) rfl rfl (by decide) (by decide) (List.mem_cons_of_mem _ fl_X10_93) rfl dX10_mended_71 (fun u23 => ?_)
  obtain ⟨⟨r24, M25⟩, hz26, h⟩ := bd_some h
  dsimp only at h
  refine v_callVv (As := [.ref (gAd g (gRf (gRf a0 6) 0))]) (rest := []) F (c_X1_copy l F.2.2.1 u21 u23 hz26) (cwV 1 F.1.2.2.2.2 (gU_V ml_X10_182 im_yX1_copy se_yX1_copy ini_X1 cd_X1_copy) rfl rfl rfl (by decide +kernel) ⟨Nat.le_of_ble_eq_true rfl, Nat.le_of_ble_eq_true rfl⟩) u21 (by decide) rfl rfl rfl (Nat.le_of_ble_eq_true rfl) dX10_mended_74 ⟨Nat.le_of_ble_eq_true rfl, Nat.le_of_ble_eq_true rfl⟩ ?_
  refine v_aload_n F dX10_mended_77 rfl 0 rfl ?_
  refine v_getR (k := 6) (f := 7) F t0 (by decide) (inc inU_10) rfl rfl (by decide) (by decide) (List.mem_cons_of_mem _ fl_X10_38) rfl dX10_mended_78 (fun u28 => ?_)
  refine v_getR (k := 2) (f := 4) F u28 (by decide) (inc inU_7) rfl rfl (by decide) (by decide) (List.mem_cons_of_mem _ fl_X10_226) rfl dX10_mended_81 (fun u29 => ?_)
  refine v_iload F dX10_mended_84 6 rfl ?_
  refine v_aload_n F dX10_mended_86 rfl 0 rfl ?_
  refine v_getR (k := 9) (f := 1) F t0 (by decide) (inc inU_10) rfl rfl (by decide) (by decide) (List.mem_cons_of_mem _ fl_X10_49) rfl dX10_mended_87 (fun u30 => ?_)
  obtain ⟨⟨r31, M32⟩, hz33, h⟩ := bd_some h
  dsimp only at h
  refine v_callVv (As := [.int x6, .ref (gAd g (gRf a0 9))]) (rest := []) F (c_X4_makeAll l F.2.2.1 u29 u30 hz33) (cwV 2 F.1.2.2.2.2 (gU_V ml_X10_245 im_yX4_makeAll se_yX4_makeAll ini_X4 cd_X4_makeAll) rfl rfl rfl (by decide +kernel) ⟨Nat.le_of_ble_eq_true rfl, Nat.le_of_ble_eq_true rfl⟩) u29 (by decide) rfl rfl rfl (Nat.le_of_ble_eq_true rfl) dX10_mended_90 ⟨Nat.le_of_ble_eq_true rfl, Nat.le_of_ble_eq_true rfl⟩ ?_
  refine v_aload_n F dX10_mended_93 rfl 0 rfl ?_
  refine v_aload_n F dX10_mended_94 rfl 3 rfl ?_
  refine v_iload_n F dX10_mended_95 rfl 2 rfl ?_
  refine v_iload_n F dX10_mended_96 rfl 2 rfl ?_
  obtain ⟨⟨r35, M36⟩, hz37, h⟩ := bd_some h
  dsimp only at h
  refine v_callVi (As := [.ref (gAd g y3), .int i2, .int i2]) (rest := []) F (c_X10_trialIsCalmUpTo l F.2.2.1 t0 ty3 hz37) (cwV 3 F.1.2.2.2.2 (gU_V ml_X10_235 im_yX10_trialIsCalmUpTo se_yX10_trialIsCalmUpTo ini_X10 cd_X10_trialIsCalmUpTo) rfl rfl rfl (by decide +kernel) ⟨Nat.le_of_ble_eq_true rfl, Nat.le_of_ble_eq_true rfl⟩) t0 (by decide) rfl rfl rfl (Nat.le_of_ble_eq_true rfl) dX10_mended_97 ⟨Nat.le_of_ble_eq_true rfl, Nat.le_of_ble_eq_true rfl⟩ ?_
  refine v_iload_n F dX10_mended_100 rfl 2 rfl ?_
  refine v_icmp_ne (tgt := 112) F dX10_mended_101 (by decide) (fun hc39 => ?_) (fun hc39 => ?_)
  · rw [if_neg hc39] at h
    refine v_sub (fun ls h9 => lv_sub h9 [0, 1, 2, 3, 4, 5, 6] rfl) ?_
    exact w_X10_mended_b112 F hr hlk hxt hst t0 hk19 _ _ _ _ _ ty3 h
  · rw [if_pos hc39] at h
    refine v_iload F dX10_mended_104 6 rfl ?_
    refine v_istore (lv' := [(4, .int x6), (0, .ref (gAd g a0)), (1, .int i1), (2, .int i2), (3, .ref (gAd g y3)), (5, .int x5), (6, .int x6), (7, .int x7)]) F dX10_mended_106 (by decide) rfl ?_
    refine v_iload F dX10_mended_108 7 rfl ?_
    refine v_istore (lv' := [(5, .int x7), (4, .int x6), (0, .ref (gAd g a0)), (1, .int i1), (2, .int i2), (3, .ref (gAd g y3)), (6, .int x6), (7, .int x7)]) F dX10_mended_110 (by decide) rfl ?_
    refine v_sub (fun ls h9 => lv_sub h9 [2, 3, 4, 5, 1, 0, 6] rfl) ?_
    exact w_X10_mended_b112 F hr hlk hxt hst t0 hk19 _ _ _ _ _ ty3 h
set_option maxHeartbeats 4000000 in
set_option maxRecDepth 100000 in
theorem w_X10_mended_h19 {g : gT} {p : Program} {l : Launch} {e : Env} {s : State} {m : MethodId} {args : Array Value} {below : List Frame} {meth : Method} {c : Code} {z : (Int32 ⊕ Nat) × Mem} (F : Fx g p s m args c cX10_mended 8 uX10_mended RX10) (hr : meth.sig.returnType = (some .int)) (hlk : meth.locks = false) (hxt : ∀ x ∈ c.exceptionTable.toList, False) (hst : l.stackTraces = false)  {a0 : Nat} {i1 : Int32} {i2 : Int32} (t0 : Ty g 10 a0)   : ∀ (n : Nat) (y3 : Nat) (x4 : Int32) (x5 : Int32) (x6 : Int32) (M : Mem), Ty g 3 y3 → f_X10_mended_h19 a0 i1 i2 n y3 x4 x5 x6 M = some z → V g p l e ({ frames := 8, cells := 2, slots := 12, locals := 40 * 8 } : Room) s m args below meth c 8 2 12 (vx_MQ below (gQx g vI z) (gXx g z) args s 2 12 (gA g)) 19 [(0, .ref (gAd g a0)), (1, .int i1), (2, .int i2), (3, .ref (gAd g y3)), (4, .int x4), (5, .int x5), (6, .int x6)] [] M := by
  intro n
  induction n with
  | zero => intro y3 x4 x5 x6 M; intros; rename_i h; cases h
  | succ n ih =>
    intro y3 x4 x5 x6 M ty3 h
    rw [f_X10_mended_h19] at h
    refine v_iload F dX10_mended_19 6 rfl ?_
    refine v_iconst (v := 1) F dX10_mended_21 (by decide) ?_
    refine v_aload_n F dX10_mended_22 rfl 0 rfl ?_
    refine v_getR (k := 6) (f := 7) F t0 (by decide) (inc inU_10) rfl rfl (by decide) (by decide) (List.mem_cons_of_mem _ fl_X10_38) rfl dX10_mended_23 (fun u10 => ?_)
    refine v_getR (k := 2) (f := 4) F u10 (by decide) (inc inU_7) rfl rfl (by decide) (by decide) (List.mem_cons_of_mem _ fl_X10_226) rfl dX10_mended_26 (fun u11 => ?_)
    refine v_getI (k := 0) F u11 (by decide) (inc inU_4) rfl rfl (by decide) (List.mem_cons_of_mem _ fl_X10_239) rfl dX10_mended_29 ?_
    refine v_ishl F dX10_mended_32 ?_
    refine v_icmp_ge (tgt := 118) F dX10_mended_33 (by decide) (fun hc12 => ?_) (fun hc12 => ?_)
    · rw [if_pos hc12] at h
      refine v_iload F dX10_mended_118 4 rfl ?_
      cases h
      refine v_iretX F hr rfl hlk dX10_mended_120 ?_ ?_ <;> decide
    · rw [if_neg hc12] at h
      refine v_aload_n F dX10_mended_36 rfl 0 rfl ?_
      refine v_getR (k := 6) (f := 7) F t0 (by decide) (inc inU_10) rfl rfl (by decide) (by decide) (List.mem_cons_of_mem _ fl_X10_38) rfl dX10_mended_37 (fun u13 => ?_)
      refine v_getR (k := 2) (f := 4) F u13 (by decide) (inc inU_7) rfl rfl (by decide) (by decide) (List.mem_cons_of_mem _ fl_X10_226) rfl dX10_mended_40 (fun u14 => ?_)
      refine v_iload F dX10_mended_43 6 rfl ?_
      obtain ⟨⟨r15, M16⟩, hz17, h⟩ := bd_some h
      dsimp only at h
      refine v_callVi (As := [.int x6]) (rest := []) F (c_X4_costOf l F.2.2.1 u14 hz17) (cwV 1 F.1.2.2.2.2 (gU_V ml_X10_242 im_yX4_costOf se_yX4_costOf ini_X4 cd_X4_costOf) rfl rfl rfl (by decide +kernel) ⟨Nat.le_of_ble_eq_true rfl, Nat.le_of_ble_eq_true rfl⟩) u14 (by decide) rfl rfl rfl (Nat.le_of_ble_eq_true rfl) dX10_mended_45 ⟨Nat.le_of_ble_eq_true rfl, Nat.le_of_ble_eq_true rfl⟩ ?_
      refine v_istore (lv' := [(7, .int r15), (0, .ref (gAd g a0)), (1, .int i1), (2, .int i2), (3, .ref (gAd g y3)), (4, .int x4), (5, .int x5), (6, .int x6)]) F dX10_mended_48 (by decide) rfl ?_
      refine v_iload F dX10_mended_50 5 rfl ?_
      refine v_iconst (v := (-1)) F dX10_mended_52 (by decide) ?_
      refine v_icmp_eq (tgt := 63) F dX10_mended_53 (by decide) (fun hc19 => ?_) (fun hc19 => ?_)
      · rw [if_pos hc19] at h
        refine v_sub (fun ls h9 => lv_sub h9 [1, 2, 3, 4, 5, 6, 7, 0] rfl) ?_
        exact w_X10_mended_b63 F hr hlk hxt hst t0 ih _ _ _ _ _ _ ty3 h
      · rw [if_neg hc19] at h
        refine v_iload F dX10_mended_56 0 rfl ?_
        refine v_iload F dX10_mended_58 6 rfl ?_
        refine v_icmp_ge (tgt := 112) F dX10_mended_60 (by decide) (fun hc20 => ?_) (fun hc20 => ?_)
        · rw [if_pos hc20] at h
          refine v_sub (fun ls h9 => lv_sub h9 [1, 2, 3, 4, 5, 6, 7] rfl) ?_
          exact w_X10_mended_b112 F hr hlk hxt hst t0 ih _ _ _ _ _ ty3 h
        · rw [if_neg hc20] at h
          refine v_sub (fun ls h9 => lv_sub h9 [1, 2, 3, 4, 5, 6, 7, 0] rfl) ?_
          exact w_X10_mended_b63 F hr hlk hxt hst t0 ih _ _ _ _ _ _ ty3 h
set_option maxHeartbeats 4000000 in
set_option maxRecDepth 100000 in
theorem c_X10_mended {g : gT} (l : Launch) (hst : l.stackTraces = false) (hok : gOK g) {a0 : Nat} {i1 : Int32} {i2 : Int32} {M : Mem} {z : (Int32 ⊕ Nat) × Mem} (t0 : Ty g 10 a0) (h : f_X10_mended M a0 i1 i2 = some z) : Cx g l yX10_mended uX10_mended 8 2 12 [.ref (gAd g a0), .int i1, .int i2] M vI z := by
  refine Cx.of (cc := cX10_mended) (maxL := 8) (ret := (some .int)) hok (by decide) rfl (Nat.le_of_ble_eq_true rfl) (fun p e s m args below meth c F hr hlk hxt => ?_)
  unfold f_X10_mended at h
  show V g p l e ({ frames := 8, cells := 2, slots := 12, locals := 40 * 8 } : Room) s m args below meth c 8 0 0 (vx_MQ below (gQx g vI z) (gXx g z) args s 2 12 (gA g)) 0 [(0, .ref (gAd g a0)), (1, .int i1), (2, .int i2)] [] M
  refine v_aload_n F dX10_mended_0 rfl 0 rfl ?_
  refine v_iload_n F dX10_mended_1 rfl 1 rfl ?_
  obtain ⟨⟨r1 | j4, M2⟩, hz3, h⟩ := bd_some h
  rotate_left
  · dsimp only at h; cases h; exact v_callVxT (As := [.int i1]) (rest := []) F (c_X10_lawNumbered l hst F.2.2.1 t0 hz3) (cwV 1 F.1.2.2.2.2 (gU_V ml_X10_135 im_yX10_lawNumbered se_yX10_lawNumbered ini_X10 cd_X10_lawNumbered) rfl rfl rfl (by decide +kernel) ⟨Nat.le_of_ble_eq_true rfl, Nat.le_of_ble_eq_true rfl⟩) t0 (by decide) rfl rfl rfl (Nat.le_of_ble_eq_true rfl) dX10_mended_2 ⟨Nat.le_of_ble_eq_true rfl, Nat.le_of_ble_eq_true rfl⟩ (vx_outV hxt hlk (by decide) (by decide))
  dsimp only at h
  refine v_callVxr (As := [.int i1]) (rest := []) F (c_X10_lawNumbered l hst F.2.2.1 t0 hz3) (cwV 1 F.1.2.2.2.2 (gU_V ml_X10_135 im_yX10_lawNumbered se_yX10_lawNumbered ini_X10 cd_X10_lawNumbered) rfl rfl rfl (by decide +kernel) ⟨Nat.le_of_ble_eq_true rfl, Nat.le_of_ble_eq_true rfl⟩) t0 (by decide) rfl rfl rfl (Nat.le_of_ble_eq_true rfl) dX10_mended_2 ⟨Nat.le_of_ble_eq_true rfl, Nat.le_of_ble_eq_true rfl⟩ ?_
  have u5 := ty_X10_lawNumbered F.2.2.1 t0 hz3
  refine v_astore_n (lv' := [(3, .ref (gAd g r1)), (0, .ref (gAd g a0)), (1, .int i1), (2, .int i2)]) F dX10_mended_5 rfl (by decide) rfl ?_
  refine v_iload_n F dX10_mended_6 rfl 3 rfl ?_
  obtain ⟨⟨r6 | j9, M7⟩, hz8, h⟩ := bd_some h
  rotate_left
  · dsimp only at h; cases h; exact v_callSxT (As := [.int i2]) (rest := []) F (c_X10_demandWind l hst F.2.2.1  hz8) (cwS 1 F.1.2.2.2.2 (gU_S ml_X10_139 st_yX10_demandWind ini_X10 cd_X10_demandWind) rfl rfl rfl (by decide +kernel) ⟨Nat.le_of_ble_eq_true rfl, Nat.le_of_ble_eq_true rfl⟩) rfl rfl (Nat.le_of_ble_eq_true rfl) dX10_mended_7 ⟨Nat.le_of_ble_eq_true rfl, Nat.le_of_ble_eq_true rfl⟩ (vx_outV hxt hlk (by decide) (by decide))
  dsimp only at h
  refine v_callSxv (As := [.int i2]) (rest := []) F (c_X10_demandWind l hst F.2.2.1  hz8) (cwS 1 F.1.2.2.2.2 (gU_S ml_X10_139 st_yX10_demandWind ini_X10 cd_X10_demandWind) rfl rfl rfl (by decide +kernel) ⟨Nat.le_of_ble_eq_true rfl, Nat.le_of_ble_eq_true rfl⟩) rfl rfl (Nat.le_of_ble_eq_true rfl) dX10_mended_7 ⟨Nat.le_of_ble_eq_true rfl, Nat.le_of_ble_eq_true rfl⟩ ?_
  refine v_iconst (v := (-1)) F dX10_mended_10 (by decide) ?_
  refine v_istore (lv' := [(4, .int (-1)), (3, .ref (gAd g r1)), (0, .ref (gAd g a0)), (1, .int i1), (2, .int i2)]) F dX10_mended_11 (by decide) rfl ?_
  refine v_iconst (v := 0) F dX10_mended_13 (by decide) ?_
  refine v_istore (lv' := [(5, .int 0), (4, .int (-1)), (3, .ref (gAd g r1)), (0, .ref (gAd g a0)), (1, .int i1), (2, .int i2)]) F dX10_mended_14 (by decide) rfl ?_
  refine v_iconst (v := 0) F dX10_mended_16 (by decide) ?_
  refine v_istore (lv' := [(6, .int 0), (5, .int 0), (4, .int (-1)), (3, .ref (gAd g r1)), (0, .ref (gAd g a0)), (1, .int i1), (2, .int i2)]) F dX10_mended_17 (by decide) rfl ?_
  refine v_sub (fun ls h9 => lv_sub h9 [4, 5, 6, 3, 2, 1, 0] rfl) ?_
  exact w_X10_mended_h19 F hr hlk hxt hst t0 _ _ _ _ _ _ u5 h
def f_X10_bestMend_b95 (a0 : Nat) (a1 : Nat) (i2 : Int32) (k8 : Int32 → Int32 → Int32 → Mem → Option (Int32 × Mem)) (x3 : Int32) (x4 : Int32) (x5 : Int32) (M : Mem) : Option (Int32 × Mem) := k8 x3 x4 (x5 + 1) M
def f_X10_bestMend_b88 (a0 : Nat) (a1 : Nat) (i2 : Int32) (k8 : Int32 → Int32 → Int32 → Mem → Option (Int32 × Mem)) (x5 : Int32) (x6 : Int32) (M : Mem) : Option (Int32 × Mem) := f_X10_bestMend_b95 a0 a1 i2 k8 x5 x6 x5 M
def f_X10_bestMend_h8 (a0 : Nat) (a1 : Nat) (i2 : Int32)  : Nat → Int32 → Int32 → Int32 → Mem → Option (Int32 × Mem)
  | 0, _, _, _, _ => none
  | n + 1, x3, x4, x5, M => if (M (gRf (gRf a0 6) 2) 0) ≤ x5 then (some (x3, M)) else (if 12 ≤ x4 then (some (x3, M)) else (if ((i2 >>> (x5 &&& 31)) &&& 1) = 0 then ((f_X1_copy M (gRf a0 9) (gRf a0 10)).bind fun q => match q with | (r8, M9) => ((f_X4_make M9 (gRf (gRf a0 6) 2) x5 (gRf a0 9)).bind fun q => match q with | (r15, M16) => ((f_X10_trialIsCalmUpTo M16 a0 a1 0 12).bind fun q => match q with | (r19, M20) => (if x3 = (-1) then (f_X10_bestMend_b88 a0 a1 i2 (f_X10_bestMend_h8 a0 a1 i2 n) x5 r19 M20) else (if r19 ≤ x4 then (f_X10_bestMend_b95 a0 a1 i2 (f_X10_bestMend_h8 a0 a1 i2 n) x3 x4 x5 M20) else (f_X10_bestMend_b88 a0 a1 i2 (f_X10_bestMend_h8 a0 a1 i2 n) x5 r19 M20)))))) else (f_X10_bestMend_b95 a0 a1 i2 (f_X10_bestMend_h8 a0 a1 i2 n) x3 x4 x5 M)))
def f_X10_bestMend  (M : Mem) (a0 : Nat) (a1 : Nat) (i2 : Int32) : Option (Int32 × Mem) := f_X10_bestMend_h8 a0 a1 i2 FU (-1) (-1) 0 M
set_option maxHeartbeats 4000000 in
set_option maxRecDepth 100000 in
theorem w_X10_bestMend_b95 {g : gT} {p : Program} {l : Launch} {e : Env} {s : State} {m : MethodId} {args : Array Value} {below : List Frame} {meth : Method} {c : Code} {z : Int32 × Mem} (F : Fx g p s m args c cX10_bestMend 7 uX10_bestMend RX10) (hr : meth.sig.returnType = (some .int)) (hlk : meth.locks = false)  {a0 : Nat} {a1 : Nat} {i2 : Int32} (t0 : Ty g 10 a0) (t1 : Ty g 3 a1) {k8 : Int32 → Int32 → Int32 → Mem → Option (Int32 × Mem)} (hk8 : ∀ (x3 : Int32) (x4 : Int32) (x5 : Int32) (M : Mem), k8 x3 x4 x5 M = some z → V g p l e ({ frames := 6, cells := 0, slots := 0, locals := 40 * 6 } : Room) s m args below meth c 7 0 0 (MQ below (gQ g (some (.int z.1)) z.2) args s 0 0 (gA g)) 8 [(0, .ref (gAd g a0)), (1, .ref (gAd g a1)), (2, .int i2), (3, .int x3), (4, .int x4), (5, .int x5)] [] M) (x3 : Int32) (x4 : Int32) (x5 : Int32) (M : Mem)  (h : f_X10_bestMend_b95 a0 a1 i2 k8 x3 x4 x5 M = some z) : V g p l e ({ frames := 6, cells := 0, slots := 0, locals := 40 * 6 } : Room) s m args below meth c 7 0 0 (MQ below (gQ g (some (.int z.1)) z.2) args s 0 0 (gA g)) 95 [(0, .ref (gAd g a0)), (1, .ref (gAd g a1)), (2, .int i2), (3, .int x3), (4, .int x4), (5, .int x5)] [] M := by
  unfold f_X10_bestMend_b95 at h
  refine v_iinc (v := x5 + 1) (lv' := [(5, .int (x5 + 1)), (0, .ref (gAd g a0)), (1, .ref (gAd g a1)), (2, .int i2), (3, .int x3), (4, .int x4)]) F dX10_bestMend_95 (q := 5) rfl rfl (by decide) rfl ?_
  refine v_goto (tgt := 8) F dX10_bestMend_98 (by decide) ?_
  refine v_sub (fun ls h9 => lv_sub h9 [1, 2, 3, 4, 5, 0] rfl) ?_
  exact hk8 _ _ _ _ h
set_option maxHeartbeats 4000000 in
set_option maxRecDepth 100000 in
theorem w_X10_bestMend_b88 {g : gT} {p : Program} {l : Launch} {e : Env} {s : State} {m : MethodId} {args : Array Value} {below : List Frame} {meth : Method} {c : Code} {z : Int32 × Mem} (F : Fx g p s m args c cX10_bestMend 7 uX10_bestMend RX10) (hr : meth.sig.returnType = (some .int)) (hlk : meth.locks = false)  {a0 : Nat} {a1 : Nat} {i2 : Int32} (t0 : Ty g 10 a0) (t1 : Ty g 3 a1) {k8 : Int32 → Int32 → Int32 → Mem → Option (Int32 × Mem)} (hk8 : ∀ (x3 : Int32) (x4 : Int32) (x5 : Int32) (M : Mem), k8 x3 x4 x5 M = some z → V g p l e ({ frames := 6, cells := 0, slots := 0, locals := 40 * 6 } : Room) s m args below meth c 7 0 0 (MQ below (gQ g (some (.int z.1)) z.2) args s 0 0 (gA g)) 8 [(0, .ref (gAd g a0)), (1, .ref (gAd g a1)), (2, .int i2), (3, .int x3), (4, .int x4), (5, .int x5)] [] M) (x5 : Int32) (x6 : Int32) (M : Mem)  (h : f_X10_bestMend_b88 a0 a1 i2 k8 x5 x6 M = some z) : V g p l e ({ frames := 6, cells := 0, slots := 0, locals := 40 * 6 } : Room) s m args below meth c 7 0 0 (MQ below (gQ g (some (.int z.1)) z.2) args s 0 0 (gA g)) 88 [(0, .ref (gAd g a0)), (1, .ref (gAd g a1)), (2, .int i2), (5, .int x5), (6, .int x6)] [] M := by
  unfold f_X10_bestMend_b88 at h
  refine v_iload F dX10_bestMend_88 3 rfl ?_
  refine v_istore_n (lv' := [(3, .int x5), (0, .ref (gAd g a0)), (1, .ref (gAd g a1)), (2, .int i2), (5, .int x5), (6, .int x6)]) F dX10_bestMend_90 rfl (by decide) rfl ?_
  refine v_iload F dX10_bestMend_91 5 rfl ?_
  refine v_istore (lv' := [(4, .int x6), (3, .int x5), (0, .ref (gAd g a0)), (1, .ref (gAd g a1)), (2, .int i2), (5, .int x5), (6, .int x6)]) F dX10_bestMend_93 (by decide) rfl ?_
  refine v_sub (fun ls h9 => lv_sub h9 [2, 3, 4, 1, 0, 5] rfl) ?_
  exact w_X10_bestMend_b95 F hr hlk t0 t1 hk8 _ _ _ _ h
set_option maxHeartbeats 4000000 in
set_option maxRecDepth 100000 in
theorem w_X10_bestMend_h8 {g : gT} {p : Program} {l : Launch} {e : Env} {s : State} {m : MethodId} {args : Array Value} {below : List Frame} {meth : Method} {c : Code} {z : Int32 × Mem} (F : Fx g p s m args c cX10_bestMend 7 uX10_bestMend RX10) (hr : meth.sig.returnType = (some .int)) (hlk : meth.locks = false)  {a0 : Nat} {a1 : Nat} {i2 : Int32} (t0 : Ty g 10 a0) (t1 : Ty g 3 a1)   : ∀ (n : Nat) (x3 : Int32) (x4 : Int32) (x5 : Int32) (M : Mem), f_X10_bestMend_h8 a0 a1 i2 n x3 x4 x5 M = some z → V g p l e ({ frames := 6, cells := 0, slots := 0, locals := 40 * 6 } : Room) s m args below meth c 7 0 0 (MQ below (gQ g (some (.int z.1)) z.2) args s 0 0 (gA g)) 8 [(0, .ref (gAd g a0)), (1, .ref (gAd g a1)), (2, .int i2), (3, .int x3), (4, .int x4), (5, .int x5)] [] M := by
  intro n
  induction n with
  | zero => intro x3 x4 x5 M; intros; rename_i h; cases h
  | succ n ih =>
    intro x3 x4 x5 M h
    rw [f_X10_bestMend_h8] at h
    refine v_iload F dX10_bestMend_8 5 rfl ?_
    refine v_aload_n F dX10_bestMend_10 rfl 0 rfl ?_
    refine v_getR (k := 6) (f := 7) F t0 (by decide) (inc inU_10) rfl rfl (by decide) (by decide) (List.mem_cons_of_mem _ fl_X10_38) rfl dX10_bestMend_11 (fun u1 => ?_)
    refine v_getR (k := 2) (f := 4) F u1 (by decide) (inc inU_7) rfl rfl (by decide) (by decide) (List.mem_cons_of_mem _ fl_X10_226) rfl dX10_bestMend_14 (fun u2 => ?_)
    refine v_getI (k := 0) F u2 (by decide) (inc inU_4) rfl rfl (by decide) (List.mem_cons_of_mem _ fl_X10_239) rfl dX10_bestMend_17 ?_
    refine v_icmp_ge (tgt := 101) F dX10_bestMend_20 (by decide) (fun hc3 => ?_) (fun hc3 => ?_)
    · rw [if_pos hc3] at h
      refine v_iload_n F dX10_bestMend_101 rfl 3 rfl ?_
      cases h
      exact v_iret F hr rfl hlk dX10_bestMend_102
    · rw [if_neg hc3] at h
      refine v_iload F dX10_bestMend_23 4 rfl ?_
      refine v_bipush (v := 12) F dX10_bestMend_25 (by decide) ?_
      refine v_icmp_ge (tgt := 101) F dX10_bestMend_27 (by decide) (fun hc4 => ?_) (fun hc4 => ?_)
      · rw [if_pos hc4] at h
        refine v_iload_n F dX10_bestMend_101 rfl 3 rfl ?_
        cases h
        exact v_iret F hr rfl hlk dX10_bestMend_102
      · rw [if_neg hc4] at h
        refine v_iload_n F dX10_bestMend_30 rfl 2 rfl ?_
        refine v_iload F dX10_bestMend_31 5 rfl ?_
        refine v_ishr F dX10_bestMend_33 ?_
        refine v_iconst (v := 1) F dX10_bestMend_34 (by decide) ?_
        refine v_iand F dX10_bestMend_35 ?_
        refine v_if_ne (tgt := 95) F dX10_bestMend_36 (by decide) (fun hc5 => ?_) (fun hc5 => ?_)
        · rw [if_neg hc5] at h
          exact w_X10_bestMend_b95 F hr hlk t0 t1 ih _ _ _ _ h
        · rw [if_pos hc5] at h
          refine v_aload_n F dX10_bestMend_39 rfl 0 rfl ?_
          refine v_getR (k := 9) (f := 1) F t0 (by decide) (inc inU_10) rfl rfl (by decide) (by decide) (List.mem_cons_of_mem _ fl_X10_49) rfl dX10_bestMend_40 (fun u6 => ?_)
          refine v_aload_n F dX10_bestMend_43 rfl 0 rfl ?_
          refine v_getR (k := 10) (f := 1) F t0 (by decide) (inc inU_10) rfl rfl (by decide) (by decide) (List.mem_cons_of_mem _ fl_X10_53) rfl dX10_bestMend_44 (fun u7 => ?_)
          obtain ⟨⟨r8, M9⟩, hz10, h⟩ := bd_some h
          dsimp only at h
          refine v_callVv (As := [.ref (gAd g (gRf a0 10))]) (rest := []) F (c_X1_copy l F.2.2.1 u6 u7 hz10) (cwV 1 F.1.2.2.2.2 (gU_V ml_X10_182 im_yX1_copy se_yX1_copy ini_X1 cd_X1_copy) rfl rfl rfl (by decide +kernel) ⟨Nat.le_of_ble_eq_true rfl, Nat.le_of_ble_eq_true rfl⟩) u6 (by decide) rfl rfl rfl (Nat.le_of_ble_eq_true rfl) dX10_bestMend_47 ⟨Nat.le_of_ble_eq_true rfl, Nat.le_of_ble_eq_true rfl⟩ ?_
          refine v_aload_n F dX10_bestMend_50 rfl 0 rfl ?_
          refine v_getR (k := 6) (f := 7) F t0 (by decide) (inc inU_10) rfl rfl (by decide) (by decide) (List.mem_cons_of_mem _ fl_X10_38) rfl dX10_bestMend_51 (fun u12 => ?_)
          refine v_getR (k := 2) (f := 4) F u12 (by decide) (inc inU_7) rfl rfl (by decide) (by decide) (List.mem_cons_of_mem _ fl_X10_226) rfl dX10_bestMend_54 (fun u13 => ?_)
          refine v_iload F dX10_bestMend_57 5 rfl ?_
          refine v_aload_n F dX10_bestMend_59 rfl 0 rfl ?_
          refine v_getR (k := 9) (f := 1) F t0 (by decide) (inc inU_10) rfl rfl (by decide) (by decide) (List.mem_cons_of_mem _ fl_X10_49) rfl dX10_bestMend_60 (fun u14 => ?_)
          obtain ⟨⟨r15, M16⟩, hz17, h⟩ := bd_some h
          dsimp only at h
          refine v_callVv (As := [.int x5, .ref (gAd g (gRf a0 9))]) (rest := []) F (c_X4_make l F.2.2.1 u13 u14 hz17) (cwV 2 F.1.2.2.2.2 (gU_V ml_X10_253 im_yX4_make se_yX4_make ini_X4 cd_X4_make) rfl rfl rfl (by decide +kernel) ⟨Nat.le_of_ble_eq_true rfl, Nat.le_of_ble_eq_true rfl⟩) u13 (by decide) rfl rfl rfl (Nat.le_of_ble_eq_true rfl) dX10_bestMend_63 ⟨Nat.le_of_ble_eq_true rfl, Nat.le_of_ble_eq_true rfl⟩ ?_
          refine v_aload_n F dX10_bestMend_66 rfl 0 rfl ?_
          refine v_aload_n F dX10_bestMend_67 rfl 1 rfl ?_
          refine v_iconst (v := 0) F dX10_bestMend_68 (by decide) ?_
          refine v_bipush (v := 12) F dX10_bestMend_69 (by decide) ?_
          obtain ⟨⟨r19, M20⟩, hz21, h⟩ := bd_some h
          dsimp only at h
          refine v_callVi (As := [.ref (gAd g a1), .int 0, .int 12]) (rest := []) F (c_X10_trialIsCalmUpTo l F.2.2.1 t0 t1 hz21) (cwV 3 F.1.2.2.2.2 (gU_V ml_X10_235 im_yX10_trialIsCalmUpTo se_yX10_trialIsCalmUpTo ini_X10 cd_X10_trialIsCalmUpTo) rfl rfl rfl (by decide +kernel) ⟨Nat.le_of_ble_eq_true rfl, Nat.le_of_ble_eq_true rfl⟩) t0 (by decide) rfl rfl rfl (Nat.le_of_ble_eq_true rfl) dX10_bestMend_71 ⟨Nat.le_of_ble_eq_true rfl, Nat.le_of_ble_eq_true rfl⟩ ?_
          refine v_istore (lv' := [(6, .int r19), (0, .ref (gAd g a0)), (1, .ref (gAd g a1)), (2, .int i2), (3, .int x3), (4, .int x4), (5, .int x5)]) F dX10_bestMend_74 (by decide) rfl ?_
          refine v_iload_n F dX10_bestMend_76 rfl 4 rfl ?_
          refine v_iconst (v := (-1)) F dX10_bestMend_77 (by decide) ?_
          refine v_icmp_eq (tgt := 88) F dX10_bestMend_78 (by decide) (fun hc23 => ?_) (fun hc23 => ?_)
          · rw [if_pos hc23] at h
            refine v_sub (fun ls h9 => lv_sub h9 [1, 2, 3, 6, 0] rfl) ?_
            exact w_X10_bestMend_b88 F hr hlk t0 t1 ih _ _ _ h
          · rw [if_neg hc23] at h
            refine v_iload F dX10_bestMend_81 0 rfl ?_
            refine v_iload F dX10_bestMend_83 5 rfl ?_
            refine v_icmp_le (tgt := 95) F dX10_bestMend_85 (by decide) (fun hc24 => ?_) (fun hc24 => ?_)
            · rw [if_pos hc24] at h
              refine v_sub (fun ls h9 => lv_sub h9 [1, 2, 3, 4, 5, 6] rfl) ?_
              exact w_X10_bestMend_b95 F hr hlk t0 t1 ih _ _ _ _ h
            · rw [if_neg hc24] at h
              refine v_sub (fun ls h9 => lv_sub h9 [1, 2, 3, 6, 0] rfl) ?_
              exact w_X10_bestMend_b88 F hr hlk t0 t1 ih _ _ _ h
set_option maxHeartbeats 4000000 in
set_option maxRecDepth 100000 in
theorem c_X10_bestMend {g : gT} (l : Launch) (hok : gOK g)  {a0 : Nat} {a1 : Nat} {i2 : Int32} {M : Mem} {z : Int32 × Mem}  (t0 : Ty g 10 a0) (t1 : Ty g 3 a1) (h : f_X10_bestMend  M a0 a1 i2 = some z) : Cn g l yX10_bestMend uX10_bestMend 6 [.ref (gAd g a0), .ref (gAd g a1), .int i2] M (some (.int z.1)) z.2 := by
  refine Cn.of (cc := cX10_bestMend) (maxL := 7) (ret := (some .int)) hok (by decide) rfl (Nat.le_of_ble_eq_true rfl) (fun p e s m args below meth c F hr hlk => ?_)
  unfold f_X10_bestMend at h
  show V g p l e ({ frames := 6, cells := 0, slots := 0, locals := 40 * 6 } : Room) s m args below meth c 7 0 0 (MQ below (gQ g (some (.int z.1)) z.2) args s 0 0 (gA g)) 0 [(0, .ref (gAd g a0)), (1, .ref (gAd g a1)), (2, .int i2)] [] M
  refine v_iconst (v := (-1)) F dX10_bestMend_0 (by decide) ?_
  refine v_istore_n (lv' := [(3, .int (-1)), (0, .ref (gAd g a0)), (1, .ref (gAd g a1)), (2, .int i2)]) F dX10_bestMend_1 rfl (by decide) rfl ?_
  refine v_iconst (v := (-1)) F dX10_bestMend_2 (by decide) ?_
  refine v_istore (lv' := [(4, .int (-1)), (3, .int (-1)), (0, .ref (gAd g a0)), (1, .ref (gAd g a1)), (2, .int i2)]) F dX10_bestMend_3 (by decide) rfl ?_
  refine v_iconst (v := 0) F dX10_bestMend_5 (by decide) ?_
  refine v_istore (lv' := [(5, .int 0), (4, .int (-1)), (3, .int (-1)), (0, .ref (gAd g a0)), (1, .ref (gAd g a1)), (2, .int i2)]) F dX10_bestMend_6 (by decide) rfl ?_
  refine v_sub (fun ls h9 => lv_sub h9 [3, 4, 5, 2, 1, 0] rfl) ?_
  exact w_X10_bestMend_h8 F hr hlk t0 t1 _ _ _ _ _ h
def f_X10_week_h57 (a0 : Nat) (i1 : Int32) (i2 : Int32)  : Nat → Nat → Int32 → Int32 → Int32 → Mem → Option ((Int32 ⊕ Nat) × Mem)
  | 0, _, _, _, _, _ => none
  | n + 1, y3, x4, x5, x6, M => if i2 < x6 then (some (.inl x5, M)) else ((f_X10_bestMend M a0 y3 x4).bind fun q => match q with | (r22, M23) => ((f_X4_make M23 (gRf (gRf a0 6) 2) r22 (gRf a0 10)).bind fun q => match q with | (r29, M30) => ((f_X10_week_h57 a0 i1 i2 n) y3 (x4 ||| (1 <<< (r22 &&& 31))) r22 (x6 + 1) M30)))
def f_X10_week_b15 (a0 : Nat) (i1 : Int32) (i2 : Int32)  (s0 : Int32) (y3 : Nat) (M : Mem) : Option ((Int32 ⊕ Nat) × Mem) := (f_X10_demand M s0).bind fun q => match q with | (.inr j10, M8) => some (.inr j10, M8) | (.inl r7, M8) => (if i2 < (M8 (gRf (gRf a0 6) 2) 0) then ((f_X1_copy M8 (gRf a0 10) (gRf (gRf a0 6) 0)).bind fun q => match q with | (r17, M18) => (f_X10_week_h57 a0 i1 i2 FU y3 0 (-1) 0 M18)) else (some (.inl (-1), M8)))
def f_X10_week  (M : Mem) (a0 : Nat) (i1 : Int32) (i2 : Int32) : Option ((Int32 ⊕ Nat) × Mem) := (f_X10_lawNumbered M a0 i1).bind fun q => match q with | (.inr j4, M2) => some (.inr j4, M2) | (.inl r1, M2) => (if i2 < 0 then (f_X10_week_b15 a0 i1 i2 0 r1 M2) else (f_X10_week_b15 a0 i1 i2 1 r1 M2))
set_option maxHeartbeats 4000000 in
set_option maxRecDepth 100000 in
theorem w_X10_week_h57 {g : gT} {p : Program} {l : Launch} {e : Env} {s : State} {m : MethodId} {args : Array Value} {below : List Frame} {meth : Method} {c : Code} {z : (Int32 ⊕ Nat) × Mem} (F : Fx g p s m args c cX10_week 7 uX10_week RX10) (hr : meth.sig.returnType = (some .int)) (hlk : meth.locks = false) (hxt : ∀ x ∈ c.exceptionTable.toList, False) (hst : l.stackTraces = false)  {a0 : Nat} {i1 : Int32} {i2 : Int32} (t0 : Ty g 10 a0)   : ∀ (n : Nat) (y3 : Nat) (x4 : Int32) (x5 : Int32) (x6 : Int32) (M : Mem), Ty g 3 y3 → f_X10_week_h57 a0 i1 i2 n y3 x4 x5 x6 M = some z → V g p l e ({ frames := 7, cells := 2, slots := 12, locals := 40 * 7 } : Room) s m args below meth c 7 2 12 (vx_MQ below (gQx g vI z) (gXx g z) args s 2 12 (gA g)) 57 [(0, .ref (gAd g a0)), (1, .int i1), (2, .int i2), (3, .ref (gAd g y3)), (4, .int x4), (5, .int x5), (6, .int x6)] [] M := by
  intro n
  induction n with
  | zero => intro y3 x4 x5 x6 M; intros; rename_i h; cases h
  | succ n ih =>
    intro y3 x4 x5 x6 M ty3 h
    rw [f_X10_week_h57] at h
    refine v_iload F dX10_week_57 6 rfl ?_
    refine v_iload_n F dX10_week_59 rfl 2 rfl ?_
    refine v_icmp_gt (tgt := 103) F dX10_week_60 (by decide) (fun hc21 => ?_) (fun hc21 => ?_)
    · rw [if_pos hc21] at h
      refine v_iload F dX10_week_103 5 rfl ?_
      cases h
      refine v_iretX F hr rfl hlk dX10_week_105 ?_ ?_ <;> decide
    · rw [if_neg hc21] at h
      refine v_aload_n F dX10_week_63 rfl 0 rfl ?_
      refine v_aload_n F dX10_week_64 rfl 3 rfl ?_
      refine v_iload F dX10_week_65 4 rfl ?_
      obtain ⟨⟨r22, M23⟩, hz24, h⟩ := bd_some h
      dsimp only at h
      refine v_callVi (As := [.ref (gAd g y3), .int x4]) (rest := []) F (c_X10_bestMend l F.2.2.1 t0 ty3 hz24) (cwV 2 F.1.2.2.2.2 (gU_V ml_X10_249 im_yX10_bestMend se_yX10_bestMend ini_X10 cd_X10_bestMend) rfl rfl rfl (by decide +kernel) ⟨Nat.le_of_ble_eq_true rfl, Nat.le_of_ble_eq_true rfl⟩) t0 (by decide) rfl rfl rfl (Nat.le_of_ble_eq_true rfl) dX10_week_67 ⟨Nat.le_of_ble_eq_true rfl, Nat.le_of_ble_eq_true rfl⟩ ?_
      refine v_istore (lv' := [(5, .int r22), (0, .ref (gAd g a0)), (1, .int i1), (2, .int i2), (3, .ref (gAd g y3)), (4, .int x4), (6, .int x6)]) F dX10_week_70 (by decide) rfl ?_
      refine v_aload_n F dX10_week_72 rfl 1 rfl ?_
      refine v_getR (k := 6) (f := 7) F t0 (by decide) (inc inU_10) rfl rfl (by decide) (by decide) (List.mem_cons_of_mem _ fl_X10_38) rfl dX10_week_73 (fun u26 => ?_)
      refine v_getR (k := 2) (f := 4) F u26 (by decide) (inc inU_7) rfl rfl (by decide) (by decide) (List.mem_cons_of_mem _ fl_X10_226) rfl dX10_week_76 (fun u27 => ?_)
      refine v_iload F dX10_week_79 0 rfl ?_
      refine v_aload_n F dX10_week_81 rfl 1 rfl ?_
      refine v_getR (k := 10) (f := 1) F t0 (by decide) (inc inU_10) rfl rfl (by decide) (by decide) (List.mem_cons_of_mem _ fl_X10_53) rfl dX10_week_82 (fun u28 => ?_)
      obtain ⟨⟨r29, M30⟩, hz31, h⟩ := bd_some h
      dsimp only at h
      refine v_callVv (As := [.int r22, .ref (gAd g (gRf a0 10))]) (rest := []) F (c_X4_make l F.2.2.1 u27 u28 hz31) (cwV 2 F.1.2.2.2.2 (gU_V ml_X10_253 im_yX4_make se_yX4_make ini_X4 cd_X4_make) rfl rfl rfl (by decide +kernel) ⟨Nat.le_of_ble_eq_true rfl, Nat.le_of_ble_eq_true rfl⟩) u27 (by decide) rfl rfl rfl (Nat.le_of_ble_eq_true rfl) dX10_week_85 ⟨Nat.le_of_ble_eq_true rfl, Nat.le_of_ble_eq_true rfl⟩ ?_
      refine v_iload F dX10_week_88 5 rfl ?_
      refine v_iconst (v := 1) F dX10_week_90 (by decide) ?_
      refine v_iload F dX10_week_91 0 rfl ?_
      refine v_ishl F dX10_week_93 ?_
      refine v_ior F dX10_week_94 ?_
      refine v_istore (lv' := [(4, .int (x4 ||| (1 <<< (r22 &&& 31)))), (5, .int r22), (0, .ref (gAd g a0)), (1, .int i1), (2, .int i2), (3, .ref (gAd g y3)), (6, .int x6)]) F dX10_week_95 (by decide) rfl ?_
      refine v_iinc (v := x6 + 1) (lv' := [(6, .int (x6 + 1)), (4, .int (x4 ||| (1 <<< (r22 &&& 31)))), (5, .int r22), (0, .ref (gAd g a0)), (1, .int i1), (2, .int i2), (3, .ref (gAd g y3))]) F dX10_week_97 (q := 6) rfl rfl (by decide) rfl ?_
      refine v_goto (tgt := 57) F dX10_week_100 (by decide) ?_
      refine v_sub (fun ls h9 => lv_sub h9 [3, 4, 5, 6, 1, 2, 0] rfl) ?_
      exact ih _ _ _ _ _ ty3 h
set_option maxHeartbeats 4000000 in
set_option maxRecDepth 100000 in
theorem w_X10_week_b15 {g : gT} {p : Program} {l : Launch} {e : Env} {s : State} {m : MethodId} {args : Array Value} {below : List Frame} {meth : Method} {c : Code} {z : (Int32 ⊕ Nat) × Mem} (F : Fx g p s m args c cX10_week 7 uX10_week RX10) (hr : meth.sig.returnType = (some .int)) (hlk : meth.locks = false) (hxt : ∀ x ∈ c.exceptionTable.toList, False) (hst : l.stackTraces = false)  {a0 : Nat} {i1 : Int32} {i2 : Int32} (t0 : Ty g 10 a0)   (s0 : Int32) (y3 : Nat) (M : Mem) (ty3 : Ty g 3 y3) (h : f_X10_week_b15 a0 i1 i2 s0 y3 M = some z) : V g p l e ({ frames := 7, cells := 2, slots := 12, locals := 40 * 7 } : Room) s m args below meth c 7 1 6 (vx_MQ below (gQx g vI z) (gXx g z) args s 2 12 (gA g)) 15 [(0, .ref (gAd g a0)), (1, .int i1), (2, .int i2), (3, .ref (gAd g y3))] [.int s0] M := by
  unfold f_X10_week_b15 at h
  obtain ⟨⟨r7 | j10, M8⟩, hz9, h⟩ := bd_some h
  rotate_left
  · dsimp only at h; cases h; exact v_callSxT (As := [.int s0]) (rest := []) F (c_X10_demand l hst F.2.2.1  hz9) (cwS 1 F.1.2.2.2.2 (gU_S ml_X10_67 st_yX10_demand ini_X10 cd_X10_demand) rfl rfl rfl (by decide +kernel) ⟨Nat.le_of_ble_eq_true rfl, Nat.le_of_ble_eq_true rfl⟩) rfl rfl (Nat.le_of_ble_eq_true rfl) dX10_week_15 ⟨Nat.le_of_ble_eq_true rfl, Nat.le_of_ble_eq_true rfl⟩ (vx_outV hxt hlk (by decide) (by decide))
  dsimp only at h
  refine v_callSxv (As := [.int s0]) (rest := []) F (c_X10_demand l hst F.2.2.1  hz9) (cwS 1 F.1.2.2.2.2 (gU_S ml_X10_67 st_yX10_demand ini_X10 cd_X10_demand) rfl rfl rfl (by decide +kernel) ⟨Nat.le_of_ble_eq_true rfl, Nat.le_of_ble_eq_true rfl⟩) rfl rfl (Nat.le_of_ble_eq_true rfl) dX10_week_15 ⟨Nat.le_of_ble_eq_true rfl, Nat.le_of_ble_eq_true rfl⟩ ?_
  refine v_iload_n F dX10_week_18 rfl 2 rfl ?_
  refine v_aload_n F dX10_week_19 rfl 0 rfl ?_
  refine v_getR (k := 6) (f := 7) F t0 (by decide) (inc inU_10) rfl rfl (by decide) (by decide) (List.mem_cons_of_mem _ fl_X10_38) rfl dX10_week_20 (fun u11 => ?_)
  refine v_getR (k := 2) (f := 4) F u11 (by decide) (inc inU_7) rfl rfl (by decide) (by decide) (List.mem_cons_of_mem _ fl_X10_226) rfl dX10_week_23 (fun u12 => ?_)
  refine v_getI (k := 0) F u12 (by decide) (inc inU_4) rfl rfl (by decide) (List.mem_cons_of_mem _ fl_X10_239) rfl dX10_week_26 ?_
  refine v_icmp_lt (tgt := 34) F dX10_week_29 (by decide) (fun hc13 => ?_) (fun hc13 => ?_)
  · rw [if_pos hc13] at h
    refine v_aload_n F dX10_week_34 rfl 0 rfl ?_
    refine v_getR (k := 10) (f := 1) F t0 (by decide) (inc inU_10) rfl rfl (by decide) (by decide) (List.mem_cons_of_mem _ fl_X10_53) rfl dX10_week_35 (fun u14 => ?_)
    refine v_aload_n F dX10_week_38 rfl 0 rfl ?_
    refine v_getR (k := 6) (f := 7) F t0 (by decide) (inc inU_10) rfl rfl (by decide) (by decide) (List.mem_cons_of_mem _ fl_X10_38) rfl dX10_week_39 (fun u15 => ?_)
    refine v_getR (k := 0) (f := 1) F u15 (by decide) (inc inU_7) rfl rfl (by decide) (by decide) (List.mem_cons_of_mem _ fl_X10_93) rfl dX10_week_42 (fun u16 => ?_)
    obtain ⟨⟨r17, M18⟩, hz19, h⟩ := bd_some h
    dsimp only at h
    refine v_callVv (As := [.ref (gAd g (gRf (gRf a0 6) 0))]) (rest := []) F (c_X1_copy l F.2.2.1 u14 u16 hz19) (cwV 1 F.1.2.2.2.2 (gU_V ml_X10_182 im_yX1_copy se_yX1_copy ini_X1 cd_X1_copy) rfl rfl rfl (by decide +kernel) ⟨Nat.le_of_ble_eq_true rfl, Nat.le_of_ble_eq_true rfl⟩) u14 (by decide) rfl rfl rfl (Nat.le_of_ble_eq_true rfl) dX10_week_45 ⟨Nat.le_of_ble_eq_true rfl, Nat.le_of_ble_eq_true rfl⟩ ?_
    refine v_iconst (v := 0) F dX10_week_48 (by decide) ?_
    refine v_istore (lv' := [(4, .int 0), (0, .ref (gAd g a0)), (1, .int i1), (2, .int i2), (3, .ref (gAd g y3))]) F dX10_week_49 (by decide) rfl ?_
    refine v_iconst (v := (-1)) F dX10_week_51 (by decide) ?_
    refine v_istore (lv' := [(5, .int (-1)), (4, .int 0), (0, .ref (gAd g a0)), (1, .int i1), (2, .int i2), (3, .ref (gAd g y3))]) F dX10_week_52 (by decide) rfl ?_
    refine v_iconst (v := 0) F dX10_week_54 (by decide) ?_
    refine v_istore (lv' := [(6, .int 0), (5, .int (-1)), (4, .int 0), (0, .ref (gAd g a0)), (1, .int i1), (2, .int i2), (3, .ref (gAd g y3))]) F dX10_week_55 (by decide) rfl ?_
    refine v_sub (fun ls h9 => lv_sub h9 [3, 4, 5, 6, 2, 1, 0] rfl) ?_
    exact w_X10_week_h57 F hr hlk hxt hst t0 _ _ _ _ _ _ ty3 h
  · rw [if_neg hc13] at h
    refine v_iconst (v := (-1)) F dX10_week_32 (by decide) ?_
    cases h
    refine v_iretX F hr rfl hlk dX10_week_33 ?_ ?_ <;> decide
set_option maxHeartbeats 4000000 in
set_option maxRecDepth 100000 in
theorem c_X10_week {g : gT} (l : Launch) (hst : l.stackTraces = false) (hok : gOK g) {a0 : Nat} {i1 : Int32} {i2 : Int32} {M : Mem} {z : (Int32 ⊕ Nat) × Mem} (t0 : Ty g 10 a0) (h : f_X10_week M a0 i1 i2 = some z) : Cx g l yX10_week uX10_week 7 2 12 [.ref (gAd g a0), .int i1, .int i2] M vI z := by
  refine Cx.of (cc := cX10_week) (maxL := 7) (ret := (some .int)) hok (by decide) rfl (Nat.le_of_ble_eq_true rfl) (fun p e s m args below meth c F hr hlk hxt => ?_)
  unfold f_X10_week at h
  show V g p l e ({ frames := 7, cells := 2, slots := 12, locals := 40 * 7 } : Room) s m args below meth c 7 0 0 (vx_MQ below (gQx g vI z) (gXx g z) args s 2 12 (gA g)) 0 [(0, .ref (gAd g a0)), (1, .int i1), (2, .int i2)] [] M
  refine v_aload_n F dX10_week_0 rfl 0 rfl ?_
  refine v_iload_n F dX10_week_1 rfl 1 rfl ?_
  obtain ⟨⟨r1 | j4, M2⟩, hz3, h⟩ := bd_some h
  rotate_left
  · dsimp only at h; cases h; exact v_callVxT (As := [.int i1]) (rest := []) F (c_X10_lawNumbered l hst F.2.2.1 t0 hz3) (cwV 1 F.1.2.2.2.2 (gU_V ml_X10_135 im_yX10_lawNumbered se_yX10_lawNumbered ini_X10 cd_X10_lawNumbered) rfl rfl rfl (by decide +kernel) ⟨Nat.le_of_ble_eq_true rfl, Nat.le_of_ble_eq_true rfl⟩) t0 (by decide) rfl rfl rfl (Nat.le_of_ble_eq_true rfl) dX10_week_2 ⟨Nat.le_of_ble_eq_true rfl, Nat.le_of_ble_eq_true rfl⟩ (vx_outV hxt hlk (by decide) (by decide))
  dsimp only at h
  refine v_callVxr (As := [.int i1]) (rest := []) F (c_X10_lawNumbered l hst F.2.2.1 t0 hz3) (cwV 1 F.1.2.2.2.2 (gU_V ml_X10_135 im_yX10_lawNumbered se_yX10_lawNumbered ini_X10 cd_X10_lawNumbered) rfl rfl rfl (by decide +kernel) ⟨Nat.le_of_ble_eq_true rfl, Nat.le_of_ble_eq_true rfl⟩) t0 (by decide) rfl rfl rfl (Nat.le_of_ble_eq_true rfl) dX10_week_2 ⟨Nat.le_of_ble_eq_true rfl, Nat.le_of_ble_eq_true rfl⟩ ?_
  have u5 := ty_X10_lawNumbered F.2.2.1 t0 hz3
  refine v_astore_n (lv' := [(3, .ref (gAd g r1)), (0, .ref (gAd g a0)), (1, .int i1), (2, .int i2)]) F dX10_week_5 rfl (by decide) rfl ?_
  refine v_iload_n F dX10_week_6 rfl 3 rfl ?_
  refine v_if_lt (tgt := 14) F dX10_week_7 (by decide) (fun hc6 => ?_) (fun hc6 => ?_)
  · rw [if_pos hc6] at h
    refine v_iconst (v := 0) F dX10_week_14 (by decide) ?_
    refine v_sub (fun ls h9 => lv_sub h9 [1, 2, 3, 0] rfl) ?_
    exact w_X10_week_b15 F hr hlk hxt hst t0 _ _ _ u5 h
  · rw [if_neg hc6] at h
    refine v_iconst (v := 1) F dX10_week_10 (by decide) ?_
    refine v_goto (tgt := 15) F dX10_week_11 (by decide) ?_
    refine v_sub (fun ls h9 => lv_sub h9 [1, 2, 3, 0] rfl) ?_
    exact w_X10_week_b15 F hr hlk hxt hst t0 _ _ _ u5 h
def f_X10_leastLine_b10 (i0 : Int32) (i1 : Int32)   (M : Mem) : Option (Int32 × Mem) := some (if i0 < i1 then i1 else i0, M)
def f_X10_leastLine  (M : Mem) (i0 : Int32) (i1 : Int32) : Option (Int32 × Mem) := if i0 = (-1) then (f_X10_leastLine_b10 i0 i1 M) else (if i1 = (-1) then (f_X10_leastLine_b10 i0 i1 M) else (some (if i1 < i0 then i1 else i0, M)))
set_option maxHeartbeats 4000000 in
set_option maxRecDepth 100000 in
theorem w_X10_leastLine_b10 {g : gT} {p : Program} {l : Launch} {e : Env} {s : State} {m : MethodId} {args : Array Value} {below : List Frame} {meth : Method} {c : Code} {z : Int32 × Mem} (F : Fx g p s m args c cX10_leastLine 2 uX10_leastLine RX10) (hr : meth.sig.returnType = (some .int)) (hlk : meth.locks = false)  {i0 : Int32} {i1 : Int32}     (M : Mem)  (h : f_X10_leastLine_b10 i0 i1 M = some z) : V g p l e ({ frames := 1, cells := 0, slots := 0, locals := 40 * 1 } : Room) s m args below meth c 2 0 0 (MQ below (gQ g (some (.int z.1)) z.2) args s 0 0 (gA g)) 10 [(0, .int i0), (1, .int i1)] [] M := by
  unfold f_X10_leastLine_b10 at h
  refine v_iload_n F dX10_leastLine_10 rfl 0 rfl ?_
  refine v_iload_n F dX10_leastLine_11 rfl 1 rfl ?_
  refine v_mmax F (List.mem_cons_of_mem _ ml_X10_256) (List.mem_cons_of_mem _ st_mmax) (List.mem_cons_of_mem _ ini_Math) (List.mem_cons_of_mem _ cd_mmax) dX10_leastLine_12 ⟨Nat.le_of_ble_eq_true rfl, Nat.le_of_ble_eq_true rfl, Nat.le_of_ble_eq_true rfl, Nat.le_of_ble_eq_true rfl⟩ (Nat.le_of_ble_eq_true rfl) ?_
  cases h
  exact v_iret F hr rfl hlk dX10_leastLine_15
set_option maxHeartbeats 4000000 in
set_option maxRecDepth 100000 in
theorem c_X10_leastLine {g : gT} (l : Launch) (hok : gOK g)  {i0 : Int32} {i1 : Int32} {M : Mem} {z : Int32 × Mem}   (h : f_X10_leastLine  M i0 i1 = some z) : Cn g l yX10_leastLine uX10_leastLine 1 [.int i0, .int i1] M (some (.int z.1)) z.2 := by
  refine Cn.of (cc := cX10_leastLine) (maxL := 2) (ret := (some .int)) hok (by decide) rfl (Nat.le_of_ble_eq_true rfl) (fun p e s m args below meth c F hr hlk => ?_)
  unfold f_X10_leastLine at h
  show V g p l e ({ frames := 1, cells := 0, slots := 0, locals := 40 * 1 } : Room) s m args below meth c 2 0 0 (MQ below (gQ g (some (.int z.1)) z.2) args s 0 0 (gA g)) 0 [(0, .int i0), (1, .int i1)] [] M
  refine v_iload_n F dX10_leastLine_0 rfl 0 rfl ?_
  refine v_iconst (v := (-1)) F dX10_leastLine_1 (by decide) ?_
  refine v_icmp_eq (tgt := 10) F dX10_leastLine_2 (by decide) (fun hc1 => ?_) (fun hc1 => ?_)
  · rw [if_pos hc1] at h
    exact w_X10_leastLine_b10 F hr hlk _ h
  · rw [if_neg hc1] at h
    refine v_iload_n F dX10_leastLine_5 rfl 1 rfl ?_
    refine v_iconst (v := (-1)) F dX10_leastLine_6 (by decide) ?_
    refine v_icmp_ne (tgt := 16) F dX10_leastLine_7 (by decide) (fun hc2 => ?_) (fun hc2 => ?_)
    · rw [if_neg hc2] at h
      refine v_iload_n F dX10_leastLine_16 rfl 0 rfl ?_
      refine v_iload_n F dX10_leastLine_17 rfl 1 rfl ?_
      refine v_mmin F (List.mem_cons_of_mem _ ml_X10_324) (List.mem_cons_of_mem _ st_mmin) (List.mem_cons_of_mem _ ini_Math) (List.mem_cons_of_mem _ cd_mmin) dX10_leastLine_18 ⟨Nat.le_of_ble_eq_true rfl, Nat.le_of_ble_eq_true rfl, Nat.le_of_ble_eq_true rfl, Nat.le_of_ble_eq_true rfl⟩ (Nat.le_of_ble_eq_true rfl) ?_
      cases h
      exact v_iret F hr rfl hlk dX10_leastLine_21
    · rw [if_pos hc2] at h
      exact w_X10_leastLine_b10 F hr hlk _ h
def f_X10_span  (M : Mem) (a0 : Nat) (i1 : Int32) (i2 : Int32) (i3 : Int32) (i4 : Int32) (i5 : Int32) : Option ((Int32 ⊕ Nat) × Mem) := (f_X10_lawNumbered M a0 i1).bind fun q => match q with | (.inr j4, M2) => some (.inr j4, M2) | (.inl r1, M2) => ((f_X10_demandShape M2 i2 i3).bind fun q => match q with | (.inr j9, M7) => some (.inr j9, M7) | (.inl r6, M7) => ((f_X10_within M7 i4 0 50).bind fun q => match q with | (r10, M11) => ((f_X10_demand M11 r10).bind fun q => match q with | (.inr j17, M15) => some (.inr j17, M15) | (.inl r14, M15) => ((f_X1_copy M15 (gRf a0 9) (gRf (gRf a0 6) 0)).bind fun q => match q with | (r21, M22) => ((f_X10_lineBy M22 a0 r1 i2 i3 (100 - i4)).bind fun q => match q with | (r25, M26) => ((f_X10_lineBy M26 a0 r1 i2 i3 100).bind fun q => match q with | (r29, M30) => ((f_X10_lineBy M30 a0 r1 i2 i3 (100 + i4)).bind fun q => match q with | (r33, M34) => (if i5 = 0 then ((f_X10_leastLine M34 r29 r33).bind fun q => match q with | (r38, M39) => ((f_X10_leastLine M39 r25 r38).bind fun q => match q with | (r42, M43) => (some (.inl r42, M43)))) else (some (.inl (if r25 < (if r29 < r33 then r33 else r29) then (if r29 < r33 then r33 else r29) else r25), M34))))))))))
set_option maxHeartbeats 4000000 in
set_option maxRecDepth 100000 in
theorem c_X10_span {g : gT} (l : Launch) (hst : l.stackTraces = false) (hok : gOK g) {a0 : Nat} {i1 : Int32} {i2 : Int32} {i3 : Int32} {i4 : Int32} {i5 : Int32} {M : Mem} {z : (Int32 ⊕ Nat) × Mem} (t0 : Ty g 10 a0) (h : f_X10_span M a0 i1 i2 i3 i4 i5 = some z) : Cx g l yX10_span uX10_span 8 3 18 [.ref (gAd g a0), .int i1, .int i2, .int i3, .int i4, .int i5] M vI z := by
  refine Cx.of (cc := cX10_span) (maxL := 10) (ret := (some .int)) hok (by decide) rfl (Nat.le_of_ble_eq_true rfl) (fun p e s m args below meth c F hr hlk hxt => ?_)
  unfold f_X10_span at h
  show V g p l e ({ frames := 8, cells := 3, slots := 18, locals := 40 * 8 } : Room) s m args below meth c 10 0 0 (vx_MQ below (gQx g vI z) (gXx g z) args s 3 18 (gA g)) 0 [(0, .ref (gAd g a0)), (1, .int i1), (2, .int i2), (3, .int i3), (4, .int i4), (5, .int i5)] [] M
  refine v_aload_n F dX10_span_0 rfl 0 rfl ?_
  refine v_iload_n F dX10_span_1 rfl 1 rfl ?_
  obtain ⟨⟨r1 | j4, M2⟩, hz3, h⟩ := bd_some h
  rotate_left
  · dsimp only at h; cases h; exact v_callVxT (As := [.int i1]) (rest := []) F (c_X10_lawNumbered l hst F.2.2.1 t0 hz3) (cwV 1 F.1.2.2.2.2 (gU_V ml_X10_135 im_yX10_lawNumbered se_yX10_lawNumbered ini_X10 cd_X10_lawNumbered) rfl rfl rfl (by decide +kernel) ⟨Nat.le_of_ble_eq_true rfl, Nat.le_of_ble_eq_true rfl⟩) t0 (by decide) rfl rfl rfl (Nat.le_of_ble_eq_true rfl) dX10_span_2 ⟨Nat.le_of_ble_eq_true rfl, Nat.le_of_ble_eq_true rfl⟩ (vx_outV hxt hlk (by decide) (by decide))
  dsimp only at h
  refine v_callVxr (As := [.int i1]) (rest := []) F (c_X10_lawNumbered l hst F.2.2.1 t0 hz3) (cwV 1 F.1.2.2.2.2 (gU_V ml_X10_135 im_yX10_lawNumbered se_yX10_lawNumbered ini_X10 cd_X10_lawNumbered) rfl rfl rfl (by decide +kernel) ⟨Nat.le_of_ble_eq_true rfl, Nat.le_of_ble_eq_true rfl⟩) t0 (by decide) rfl rfl rfl (Nat.le_of_ble_eq_true rfl) dX10_span_2 ⟨Nat.le_of_ble_eq_true rfl, Nat.le_of_ble_eq_true rfl⟩ ?_
  have u5 := ty_X10_lawNumbered F.2.2.1 t0 hz3
  refine v_astore (lv' := [(6, .ref (gAd g r1)), (0, .ref (gAd g a0)), (1, .int i1), (2, .int i2), (3, .int i3), (4, .int i4), (5, .int i5)]) F dX10_span_5 (by decide) rfl ?_
  refine v_iload_n F dX10_span_7 rfl 3 rfl ?_
  refine v_iload_n F dX10_span_8 rfl 4 rfl ?_
  obtain ⟨⟨r6 | j9, M7⟩, hz8, h⟩ := bd_some h
  rotate_left
  · dsimp only at h; cases h; exact v_callSxT (As := [.int i2, .int i3]) (rest := []) F (c_X10_demandShape l hst F.2.2.1  hz8) (cwS 2 F.1.2.2.2.2 (gU_S ml_X10_125 st_yX10_demandShape ini_X10 cd_X10_demandShape) rfl rfl rfl (by decide +kernel) ⟨Nat.le_of_ble_eq_true rfl, Nat.le_of_ble_eq_true rfl⟩) rfl rfl (Nat.le_of_ble_eq_true rfl) dX10_span_9 ⟨Nat.le_of_ble_eq_true rfl, Nat.le_of_ble_eq_true rfl⟩ (vx_outV hxt hlk (by decide) (by decide))
  dsimp only at h
  refine v_callSxv (As := [.int i2, .int i3]) (rest := []) F (c_X10_demandShape l hst F.2.2.1  hz8) (cwS 2 F.1.2.2.2.2 (gU_S ml_X10_125 st_yX10_demandShape ini_X10 cd_X10_demandShape) rfl rfl rfl (by decide +kernel) ⟨Nat.le_of_ble_eq_true rfl, Nat.le_of_ble_eq_true rfl⟩) rfl rfl (Nat.le_of_ble_eq_true rfl) dX10_span_9 ⟨Nat.le_of_ble_eq_true rfl, Nat.le_of_ble_eq_true rfl⟩ ?_
  refine v_iload F dX10_span_12 5 rfl ?_
  refine v_iconst (v := 0) F dX10_span_14 (by decide) ?_
  refine v_bipush (v := 50) F dX10_span_15 (by decide) ?_
  obtain ⟨⟨r10, M11⟩, hz12, h⟩ := bd_some h
  dsimp only at h
  refine v_callSi (As := [.int i4, .int 0, .int 50]) (rest := []) F (c_X10_within l F.2.2.1  hz12) (cwS 3 F.1.2.2.2.2 (gU_S ml_X10_63 st_yX10_within ini_X10 cd_X10_within) rfl rfl rfl (by decide +kernel) ⟨Nat.le_of_ble_eq_true rfl, Nat.le_of_ble_eq_true rfl⟩) rfl rfl (Nat.le_of_ble_eq_true rfl) dX10_span_17 ⟨Nat.le_of_ble_eq_true rfl, Nat.le_of_ble_eq_true rfl⟩ ?_
  obtain ⟨⟨r14 | j17, M15⟩, hz16, h⟩ := bd_some h
  rotate_left
  · dsimp only at h; cases h; exact v_callSxT (As := [.int r10]) (rest := []) F (c_X10_demand l hst F.2.2.1  hz16) (cwS 1 F.1.2.2.2.2 (gU_S ml_X10_67 st_yX10_demand ini_X10 cd_X10_demand) rfl rfl rfl (by decide +kernel) ⟨Nat.le_of_ble_eq_true rfl, Nat.le_of_ble_eq_true rfl⟩) rfl rfl (Nat.le_of_ble_eq_true rfl) dX10_span_20 ⟨Nat.le_of_ble_eq_true rfl, Nat.le_of_ble_eq_true rfl⟩ (vx_outV hxt hlk (by decide) (by decide))
  dsimp only at h
  refine v_callSxv (As := [.int r10]) (rest := []) F (c_X10_demand l hst F.2.2.1  hz16) (cwS 1 F.1.2.2.2.2 (gU_S ml_X10_67 st_yX10_demand ini_X10 cd_X10_demand) rfl rfl rfl (by decide +kernel) ⟨Nat.le_of_ble_eq_true rfl, Nat.le_of_ble_eq_true rfl⟩) rfl rfl (Nat.le_of_ble_eq_true rfl) dX10_span_20 ⟨Nat.le_of_ble_eq_true rfl, Nat.le_of_ble_eq_true rfl⟩ ?_
  refine v_aload_n F dX10_span_23 rfl 1 rfl ?_
  refine v_getR (k := 9) (f := 1) F t0 (by decide) (inc inU_10) rfl rfl (by decide) (by decide) (List.mem_cons_of_mem _ fl_X10_49) rfl dX10_span_24 (fun u18 => ?_)
  refine v_aload_n F dX10_span_27 rfl 1 rfl ?_
  refine v_getR (k := 6) (f := 7) F t0 (by decide) (inc inU_10) rfl rfl (by decide) (by decide) (List.mem_cons_of_mem _ fl_X10_38) rfl dX10_span_28 (fun u19 => ?_)
  refine v_getR (k := 0) (f := 1) F u19 (by decide) (inc inU_7) rfl rfl (by decide) (by decide) (List.mem_cons_of_mem _ fl_X10_93) rfl dX10_span_31 (fun u20 => ?_)
  obtain ⟨⟨r21, M22⟩, hz23, h⟩ := bd_some h
  dsimp only at h
  refine v_callVv (As := [.ref (gAd g (gRf (gRf a0 6) 0))]) (rest := []) F (c_X1_copy l F.2.2.1 u18 u20 hz23) (cwV 1 F.1.2.2.2.2 (gU_V ml_X10_182 im_yX1_copy se_yX1_copy ini_X1 cd_X1_copy) rfl rfl rfl (by decide +kernel) ⟨Nat.le_of_ble_eq_true rfl, Nat.le_of_ble_eq_true rfl⟩) u18 (by decide) rfl rfl rfl (Nat.le_of_ble_eq_true rfl) dX10_span_34 ⟨Nat.le_of_ble_eq_true rfl, Nat.le_of_ble_eq_true rfl⟩ ?_
  refine v_aload_n F dX10_span_37 rfl 1 rfl ?_
  refine v_aload F dX10_span_38 0 rfl ?_
  refine v_iload_n F dX10_span_40 rfl 3 rfl ?_
  refine v_iload_n F dX10_span_41 rfl 4 rfl ?_
  refine v_bipush (v := 100) F dX10_span_42 (by decide) ?_
  refine v_iload F dX10_span_44 5 rfl ?_
  refine v_isub F dX10_span_46 ?_
  obtain ⟨⟨r25, M26⟩, hz27, h⟩ := bd_some h
  dsimp only at h
  refine v_callVi (As := [.ref (gAd g r1), .int i2, .int i3, .int (100 - i4)]) (rest := []) F (c_X10_lineBy l F.2.2.1 t0 u5 hz27) (cwV 4 F.1.2.2.2.2 (gU_V ml_X10_190 im_yX10_lineBy se_yX10_lineBy ini_X10 cd_X10_lineBy) rfl rfl rfl (by decide +kernel) ⟨Nat.le_of_ble_eq_true rfl, Nat.le_of_ble_eq_true rfl⟩) t0 (by decide) rfl rfl rfl (Nat.le_of_ble_eq_true rfl) dX10_span_47 ⟨Nat.le_of_ble_eq_true rfl, Nat.le_of_ble_eq_true rfl⟩ ?_
  refine v_istore (lv' := [(7, .int r25), (6, .ref (gAd g r1)), (0, .ref (gAd g a0)), (1, .int i1), (2, .int i2), (3, .int i3), (4, .int i4), (5, .int i5)]) F dX10_span_50 (by decide) rfl ?_
  refine v_aload_n F dX10_span_52 rfl 2 rfl ?_
  refine v_aload F dX10_span_53 1 rfl ?_
  refine v_iload_n F dX10_span_55 rfl 4 rfl ?_
  refine v_iload_n F dX10_span_56 rfl 5 rfl ?_
  refine v_bipush (v := 100) F dX10_span_57 (by decide) ?_
  obtain ⟨⟨r29, M30⟩, hz31, h⟩ := bd_some h
  dsimp only at h
  refine v_callVi (As := [.ref (gAd g r1), .int i2, .int i3, .int 100]) (rest := []) F (c_X10_lineBy l F.2.2.1 t0 u5 hz31) (cwV 4 F.1.2.2.2.2 (gU_V ml_X10_190 im_yX10_lineBy se_yX10_lineBy ini_X10 cd_X10_lineBy) rfl rfl rfl (by decide +kernel) ⟨Nat.le_of_ble_eq_true rfl, Nat.le_of_ble_eq_true rfl⟩) t0 (by decide) rfl rfl rfl (Nat.le_of_ble_eq_true rfl) dX10_span_59 ⟨Nat.le_of_ble_eq_true rfl, Nat.le_of_ble_eq_true rfl⟩ ?_
  refine v_istore (lv' := [(8, .int r29), (7, .int r25), (6, .ref (gAd g r1)), (0, .ref (gAd g a0)), (1, .int i1), (2, .int i2), (3, .int i3), (4, .int i4), (5, .int i5)]) F dX10_span_62 (by decide) rfl ?_
  refine v_aload_n F dX10_span_64 rfl 3 rfl ?_
  refine v_aload F dX10_span_65 2 rfl ?_
  refine v_iload_n F dX10_span_67 rfl 5 rfl ?_
  refine v_iload_n F dX10_span_68 rfl 6 rfl ?_
  refine v_bipush (v := 100) F dX10_span_69 (by decide) ?_
  refine v_iload F dX10_span_71 7 rfl ?_
  refine v_iadd F dX10_span_73 ?_
  obtain ⟨⟨r33, M34⟩, hz35, h⟩ := bd_some h
  dsimp only at h
  refine v_callVi (As := [.ref (gAd g r1), .int i2, .int i3, .int (100 + i4)]) (rest := []) F (c_X10_lineBy l F.2.2.1 t0 u5 hz35) (cwV 4 F.1.2.2.2.2 (gU_V ml_X10_190 im_yX10_lineBy se_yX10_lineBy ini_X10 cd_X10_lineBy) rfl rfl rfl (by decide +kernel) ⟨Nat.le_of_ble_eq_true rfl, Nat.le_of_ble_eq_true rfl⟩) t0 (by decide) rfl rfl rfl (Nat.le_of_ble_eq_true rfl) dX10_span_74 ⟨Nat.le_of_ble_eq_true rfl, Nat.le_of_ble_eq_true rfl⟩ ?_
  refine v_istore (lv' := [(9, .int r33), (8, .int r29), (7, .int r25), (6, .ref (gAd g r1)), (0, .ref (gAd g a0)), (1, .int i1), (2, .int i2), (3, .int i3), (4, .int i4), (5, .int i5)]) F dX10_span_77 (by decide) rfl ?_
  refine v_iload F dX10_span_79 9 rfl ?_
  refine v_if_eq (tgt := 97) F dX10_span_81 (by decide) (fun hc37 => ?_) (fun hc37 => ?_)
  · rw [if_pos hc37] at h
    refine v_iload F dX10_span_97 2 rfl ?_
    refine v_iload F dX10_span_99 1 rfl ?_
    refine v_iload F dX10_span_101 0 rfl ?_
    obtain ⟨⟨r38, M39⟩, hz40, h⟩ := bd_some h
    dsimp only at h
    refine v_callSi (As := [.int r29, .int r33]) (rest := [.int r25]) F (c_X10_leastLine l F.2.2.1  hz40) (cwS 2 F.1.2.2.2.2 (gU_S ml_X10_262 st_yX10_leastLine ini_X10 cd_X10_leastLine) rfl rfl rfl (by decide +kernel) ⟨Nat.le_of_ble_eq_true rfl, Nat.le_of_ble_eq_true rfl⟩) rfl rfl (Nat.le_of_ble_eq_true rfl) dX10_span_103 ⟨Nat.le_of_ble_eq_true rfl, Nat.le_of_ble_eq_true rfl⟩ ?_
    obtain ⟨⟨r42, M43⟩, hz44, h⟩ := bd_some h
    dsimp only at h
    refine v_callSi (As := [.int r25, .int r38]) (rest := []) F (c_X10_leastLine l F.2.2.1  hz44) (cwS 2 F.1.2.2.2.2 (gU_S ml_X10_262 st_yX10_leastLine ini_X10 cd_X10_leastLine) rfl rfl rfl (by decide +kernel) ⟨Nat.le_of_ble_eq_true rfl, Nat.le_of_ble_eq_true rfl⟩) rfl rfl (Nat.le_of_ble_eq_true rfl) dX10_span_106 ⟨Nat.le_of_ble_eq_true rfl, Nat.le_of_ble_eq_true rfl⟩ ?_
    cases h
    refine v_iretX F hr rfl hlk dX10_span_109 ?_ ?_ <;> decide
  · rw [if_neg hc37] at h
    refine v_iload F dX10_span_84 2 rfl ?_
    refine v_iload F dX10_span_86 1 rfl ?_
    refine v_iload F dX10_span_88 0 rfl ?_
    refine v_mmax F (List.mem_cons_of_mem _ ml_X10_256) (List.mem_cons_of_mem _ st_mmax) (List.mem_cons_of_mem _ ini_Math) (List.mem_cons_of_mem _ cd_mmax) dX10_span_90 ⟨Nat.le_of_ble_eq_true rfl, Nat.le_of_ble_eq_true rfl, Nat.le_of_ble_eq_true rfl, Nat.le_of_ble_eq_true rfl⟩ (Nat.le_of_ble_eq_true rfl) ?_
    refine v_mmax F (List.mem_cons_of_mem _ ml_X10_256) (List.mem_cons_of_mem _ st_mmax) (List.mem_cons_of_mem _ ini_Math) (List.mem_cons_of_mem _ cd_mmax) dX10_span_93 ⟨Nat.le_of_ble_eq_true rfl, Nat.le_of_ble_eq_true rfl, Nat.le_of_ble_eq_true rfl, Nat.le_of_ble_eq_true rfl⟩ (Nat.le_of_ble_eq_true rfl) ?_
    cases h
    refine v_iretX F hr rfl hlk dX10_span_96 ?_ ?_ <;> decide
def f_X10_bridge  (M : Mem) (a0 : Nat) (i1 : Int32) : Option ((Int32 ⊕ Nat) × Mem) := (f_X10_within M i1 0 60).bind fun q => match q with | (r1, M2) => ((f_X10_demand M2 r1).bind fun q => match q with | (.inr j8, M6) => some (.inr j8, M6) | (.inl r5, M6) => ((f_X0_add M6 (gRf (gRf a0 6) 3) i1).bind fun q => match q with | (r11, M12) => (some (.inl r11, M12))))
set_option maxHeartbeats 4000000 in
set_option maxRecDepth 100000 in
theorem c_X10_bridge {g : gT} (l : Launch) (hst : l.stackTraces = false) (hok : gOK g) {a0 : Nat} {i1 : Int32} {M : Mem} {z : (Int32 ⊕ Nat) × Mem} (t0 : Ty g 10 a0) (h : f_X10_bridge M a0 i1 = some z) : Cx g l yX10_bridge uX10_bridge 7 1 6 [.ref (gAd g a0), .int i1] M vI z := by
  refine Cx.of (cc := cX10_bridge) (maxL := 2) (ret := (some .int)) hok (by decide) rfl (Nat.le_of_ble_eq_true rfl) (fun p e s m args below meth c F hr hlk hxt => ?_)
  unfold f_X10_bridge at h
  show V g p l e ({ frames := 7, cells := 1, slots := 6, locals := 40 * 7 } : Room) s m args below meth c 2 0 0 (vx_MQ below (gQx g vI z) (gXx g z) args s 1 6 (gA g)) 0 [(0, .ref (gAd g a0)), (1, .int i1)] [] M
  refine v_iload_n F dX10_bridge_0 rfl 1 rfl ?_
  refine v_iconst (v := 0) F dX10_bridge_1 (by decide) ?_
  refine v_bipush (v := 60) F dX10_bridge_2 (by decide) ?_
  obtain ⟨⟨r1, M2⟩, hz3, h⟩ := bd_some h
  dsimp only at h
  refine v_callSi (As := [.int i1, .int 0, .int 60]) (rest := []) F (c_X10_within l F.2.2.1  hz3) (cwS 3 F.1.2.2.2.2 (gU_S ml_X10_63 st_yX10_within ini_X10 cd_X10_within) rfl rfl rfl (by decide +kernel) ⟨Nat.le_of_ble_eq_true rfl, Nat.le_of_ble_eq_true rfl⟩) rfl rfl (Nat.le_of_ble_eq_true rfl) dX10_bridge_4 ⟨Nat.le_of_ble_eq_true rfl, Nat.le_of_ble_eq_true rfl⟩ ?_
  obtain ⟨⟨r5 | j8, M6⟩, hz7, h⟩ := bd_some h
  rotate_left
  · dsimp only at h; cases h; exact v_callSxT (As := [.int r1]) (rest := []) F (c_X10_demand l hst F.2.2.1  hz7) (cwS 1 F.1.2.2.2.2 (gU_S ml_X10_67 st_yX10_demand ini_X10 cd_X10_demand) rfl rfl rfl (by decide +kernel) ⟨Nat.le_of_ble_eq_true rfl, Nat.le_of_ble_eq_true rfl⟩) rfl rfl (Nat.le_of_ble_eq_true rfl) dX10_bridge_7 ⟨Nat.le_of_ble_eq_true rfl, Nat.le_of_ble_eq_true rfl⟩ (vx_outV hxt hlk (by decide) (by decide))
  dsimp only at h
  refine v_callSxv (As := [.int r1]) (rest := []) F (c_X10_demand l hst F.2.2.1  hz7) (cwS 1 F.1.2.2.2.2 (gU_S ml_X10_67 st_yX10_demand ini_X10 cd_X10_demand) rfl rfl rfl (by decide +kernel) ⟨Nat.le_of_ble_eq_true rfl, Nat.le_of_ble_eq_true rfl⟩) rfl rfl (Nat.le_of_ble_eq_true rfl) dX10_bridge_7 ⟨Nat.le_of_ble_eq_true rfl, Nat.le_of_ble_eq_true rfl⟩ ?_
  refine v_aload_n F dX10_bridge_10 rfl 0 rfl ?_
  refine v_getR (k := 6) (f := 7) F t0 (by decide) (inc inU_10) rfl rfl (by decide) (by decide) (List.mem_cons_of_mem _ fl_X10_38) rfl dX10_bridge_11 (fun u9 => ?_)
  refine v_getR (k := 3) (f := 0) F u9 (by decide) (inc inU_7) rfl rfl (by decide) (by decide) (List.mem_cons_of_mem _ fl_X10_265) rfl dX10_bridge_14 (fun u10 => ?_)
  refine v_iload_n F dX10_bridge_17 rfl 1 rfl ?_
  obtain ⟨⟨r11, M12⟩, hz13, h⟩ := bd_some h
  dsimp only at h
  refine v_callVi (As := [.int i1]) (rest := []) F (c_X0_add l F.2.2.1 u10 hz13) (cwV 1 F.1.2.2.2.2 (gU_V ml_X10_269 im_yX0_add se_yX0_add ini_X0 cd_X0_add) rfl rfl rfl (by decide +kernel) ⟨Nat.le_of_ble_eq_true rfl, Nat.le_of_ble_eq_true rfl⟩) u10 (by decide) rfl rfl rfl (Nat.le_of_ble_eq_true rfl) dX10_bridge_18 ⟨Nat.le_of_ble_eq_true rfl, Nat.le_of_ble_eq_true rfl⟩ ?_
  cases h
  refine v_iretX F hr rfl hlk dX10_bridge_21 ?_ ?_ <;> decide
def f_X10_demandBridge  (M : Mem) (a0 : Nat) (i1 : Int32) : Option ((Int32 ⊕ Nat) × Mem) := (f_X10_within M i1 0 ((M (gRf (gRf a0 6) 3) 0) - 1)).bind fun q => match q with | (r3, M4) => (if r3 = 0 then (some (.inr 1, M4)) else (some (.inl 0, M4)))
set_option maxHeartbeats 4000000 in
set_option maxRecDepth 100000 in
theorem c_X10_demandBridge {g : gT} (l : Launch) (hst : l.stackTraces = false) (hok : gOK g) {a0 : Nat} {i1 : Int32} {M : Mem} {z : (Int32 ⊕ Nat) × Mem} (t0 : Ty g 10 a0) (h : f_X10_demandBridge M a0 i1 = some z) : Cx g l yX10_demandBridge uX10_demandBridge 6 1 6 [.ref (gAd g a0), .int i1] M vV z := by
  refine Cx.of (cc := cX10_demandBridge) (maxL := 2) (ret := none) hok (by decide) rfl (Nat.le_of_ble_eq_true rfl) (fun p e s m args below meth c F hr hlk hxt => ?_)
  unfold f_X10_demandBridge at h
  show V g p l e ({ frames := 6, cells := 1, slots := 6, locals := 40 * 6 } : Room) s m args below meth c 2 0 0 (vx_MQ below (gQx g vV z) (gXx g z) args s 1 6 (gA g)) 0 [(0, .ref (gAd g a0)), (1, .int i1)] [] M
  refine v_iload_n F dX10_demandBridge_0 rfl 1 rfl ?_
  refine v_iconst (v := 0) F dX10_demandBridge_1 (by decide) ?_
  refine v_aload_n F dX10_demandBridge_2 rfl 0 rfl ?_
  refine v_getR (k := 6) (f := 7) F t0 (by decide) (inc inU_10) rfl rfl (by decide) (by decide) (List.mem_cons_of_mem _ fl_X10_38) rfl dX10_demandBridge_3 (fun u1 => ?_)
  refine v_getR (k := 3) (f := 0) F u1 (by decide) (inc inU_7) rfl rfl (by decide) (by decide) (List.mem_cons_of_mem _ fl_X10_265) rfl dX10_demandBridge_6 (fun u2 => ?_)
  refine v_getI (k := 0) F u2 (by decide) (inc inU_0) rfl rfl (by decide) (List.mem_cons_of_mem _ fl_X10_305) rfl dX10_demandBridge_9 ?_
  refine v_iconst (v := 1) F dX10_demandBridge_12 (by decide) ?_
  refine v_isub F dX10_demandBridge_13 ?_
  obtain ⟨⟨r3, M4⟩, hz5, h⟩ := bd_some h
  dsimp only at h
  refine v_callSi (As := [.int i1, .int 0, .int ((M (gRf (gRf a0 6) 3) 0) - 1)]) (rest := []) F (c_X10_within l F.2.2.1  hz5) (cwS 3 F.1.2.2.2.2 (gU_S ml_X10_63 st_yX10_within ini_X10 cd_X10_within) rfl rfl rfl (by decide +kernel) ⟨Nat.le_of_ble_eq_true rfl, Nat.le_of_ble_eq_true rfl⟩) rfl rfl (Nat.le_of_ble_eq_true rfl) dX10_demandBridge_14 ⟨Nat.le_of_ble_eq_true rfl, Nat.le_of_ble_eq_true rfl⟩ ?_
  refine v_if_ne (tgt := 31) F dX10_demandBridge_17 (by decide) (fun hc7 => ?_) (fun hc7 => ?_)
  · rw [if_neg hc7] at h
    cases h
    refine v_vretX F hr hlk dX10_demandBridge_31 ?_ ?_ <;> decide
  · rw [if_pos hc7] at h
    cases h
    exact v_throwN (sx := 6) (text := "no such bridge") F hxt hlk hst (List.mem_cons_of_mem _ cl_X10_312) (List.mem_cons_of_mem _ ini_E1) (by decide +kernel) (fun w h => List.mem_cons_of_mem _ (at_1 w h)) bad_1 ok_1 dX10_demandBridge_20 dX10_demandBridge_23 dX10_demandBridge_24 dX10_demandBridge_27 dX10_demandBridge_30 (by decide) (by decide) (by decide) (by decide) (by decide) (by decide)
def f_X10_blows_b31 (a0 : Nat) (i1 : Int32) (i2 : Int32) (i3 : Int32)  (s0 : Int32) (M : Mem) : Option ((Int32 ⊕ Nat) × Mem) := (f_X10_demand M s0).bind fun q => match q with | (.inr j18, M16) => some (.inr j18, M16) | (.inl r15, M16) => ((f_X0_change M16 (gRf (gRf a0 6) 3) i1 i2 i3).bind fun q => match q with | (r21, M22) => (some (.inl r21, M22)))
def f_X10_blows_b30 (a0 : Nat) (i1 : Int32) (i2 : Int32) (i3 : Int32)   (M : Mem) : Option ((Int32 ⊕ Nat) × Mem) := f_X10_blows_b31 a0 i1 i2 i3 0 M
def f_X10_blows  (M : Mem) (a0 : Nat) (i1 : Int32) (i2 : Int32) (i3 : Int32) : Option ((Int32 ⊕ Nat) × Mem) := (f_X10_demandBridge M a0 i1).bind fun q => match q with | (.inr j4, M2) => some (.inr j4, M2) | (.inl r1, M2) => ((f_X10_within M2 i2 0 9).bind fun q => match q with | (r5, M6) => (if r5 = 0 then (f_X10_blows_b30 a0 i1 i2 i3 M6) else ((f_X10_within M6 i3 0 999).bind fun q => match q with | (r10, M11) => (if r10 = 0 then (f_X10_blows_b30 a0 i1 i2 i3 M11) else (f_X10_blows_b31 a0 i1 i2 i3 1 M11)))))
set_option maxHeartbeats 4000000 in
set_option maxRecDepth 100000 in
theorem w_X10_blows_b31 {g : gT} {p : Program} {l : Launch} {e : Env} {s : State} {m : MethodId} {args : Array Value} {below : List Frame} {meth : Method} {c : Code} {z : (Int32 ⊕ Nat) × Mem} (F : Fx g p s m args c cX10_blows 4 uX10_blows RX10) (hr : meth.sig.returnType = (some .int)) (hlk : meth.locks = false) (hxt : ∀ x ∈ c.exceptionTable.toList, False) (hst : l.stackTraces = false)  {a0 : Nat} {i1 : Int32} {i2 : Int32} {i3 : Int32} (t0 : Ty g 10 a0)   (s0 : Int32) (M : Mem)  (h : f_X10_blows_b31 a0 i1 i2 i3 s0 M = some z) : V g p l e ({ frames := 7, cells := 2, slots := 12, locals := 40 * 7 } : Room) s m args below meth c 4 1 6 (vx_MQ below (gQx g vI z) (gXx g z) args s 2 12 (gA g)) 31 [(0, .ref (gAd g a0)), (1, .int i1), (2, .int i2), (3, .int i3)] [.int s0] M := by
  unfold f_X10_blows_b31 at h
  obtain ⟨⟨r15 | j18, M16⟩, hz17, h⟩ := bd_some h
  rotate_left
  · dsimp only at h; cases h; exact v_callSxT (As := [.int s0]) (rest := []) F (c_X10_demand l hst F.2.2.1  hz17) (cwS 1 F.1.2.2.2.2 (gU_S ml_X10_67 st_yX10_demand ini_X10 cd_X10_demand) rfl rfl rfl (by decide +kernel) ⟨Nat.le_of_ble_eq_true rfl, Nat.le_of_ble_eq_true rfl⟩) rfl rfl (Nat.le_of_ble_eq_true rfl) dX10_blows_31 ⟨Nat.le_of_ble_eq_true rfl, Nat.le_of_ble_eq_true rfl⟩ (vx_outV hxt hlk (by decide) (by decide))
  dsimp only at h
  refine v_callSxv (As := [.int s0]) (rest := []) F (c_X10_demand l hst F.2.2.1  hz17) (cwS 1 F.1.2.2.2.2 (gU_S ml_X10_67 st_yX10_demand ini_X10 cd_X10_demand) rfl rfl rfl (by decide +kernel) ⟨Nat.le_of_ble_eq_true rfl, Nat.le_of_ble_eq_true rfl⟩) rfl rfl (Nat.le_of_ble_eq_true rfl) dX10_blows_31 ⟨Nat.le_of_ble_eq_true rfl, Nat.le_of_ble_eq_true rfl⟩ ?_
  refine v_aload_n F dX10_blows_34 rfl 0 rfl ?_
  refine v_getR (k := 6) (f := 7) F t0 (by decide) (inc inU_10) rfl rfl (by decide) (by decide) (List.mem_cons_of_mem _ fl_X10_38) rfl dX10_blows_35 (fun u19 => ?_)
  refine v_getR (k := 3) (f := 0) F u19 (by decide) (inc inU_7) rfl rfl (by decide) (by decide) (List.mem_cons_of_mem _ fl_X10_265) rfl dX10_blows_38 (fun u20 => ?_)
  refine v_iload_n F dX10_blows_41 rfl 1 rfl ?_
  refine v_iload_n F dX10_blows_42 rfl 2 rfl ?_
  refine v_iload_n F dX10_blows_43 rfl 3 rfl ?_
  obtain ⟨⟨r21, M22⟩, hz23, h⟩ := bd_some h
  dsimp only at h
  refine v_callVi (As := [.int i1, .int i2, .int i3]) (rest := []) F (c_X0_change l F.2.2.1 u20 hz23) (cwV 3 F.1.2.2.2.2 (gU_V ml_X10_276 im_yX0_change se_yX0_change ini_X0 cd_X0_change) rfl rfl rfl (by decide +kernel) ⟨Nat.le_of_ble_eq_true rfl, Nat.le_of_ble_eq_true rfl⟩) u20 (by decide) rfl rfl rfl (Nat.le_of_ble_eq_true rfl) dX10_blows_44 ⟨Nat.le_of_ble_eq_true rfl, Nat.le_of_ble_eq_true rfl⟩ ?_
  cases h
  refine v_iretX F hr rfl hlk dX10_blows_47 ?_ ?_ <;> decide
set_option maxHeartbeats 4000000 in
set_option maxRecDepth 100000 in
theorem w_X10_blows_b30 {g : gT} {p : Program} {l : Launch} {e : Env} {s : State} {m : MethodId} {args : Array Value} {below : List Frame} {meth : Method} {c : Code} {z : (Int32 ⊕ Nat) × Mem} (F : Fx g p s m args c cX10_blows 4 uX10_blows RX10) (hr : meth.sig.returnType = (some .int)) (hlk : meth.locks = false) (hxt : ∀ x ∈ c.exceptionTable.toList, False) (hst : l.stackTraces = false)  {a0 : Nat} {i1 : Int32} {i2 : Int32} {i3 : Int32} (t0 : Ty g 10 a0)    (M : Mem)  (h : f_X10_blows_b30 a0 i1 i2 i3 M = some z) : V g p l e ({ frames := 7, cells := 2, slots := 12, locals := 40 * 7 } : Room) s m args below meth c 4 1 6 (vx_MQ below (gQx g vI z) (gXx g z) args s 2 12 (gA g)) 30 [(0, .ref (gAd g a0)), (1, .int i1), (2, .int i2), (3, .int i3)] [] M := by
  unfold f_X10_blows_b30 at h
  refine v_iconst (v := 0) F dX10_blows_30 (by decide) ?_
  exact w_X10_blows_b31 F hr hlk hxt hst t0 _ _ h
set_option maxHeartbeats 4000000 in
set_option maxRecDepth 100000 in
theorem c_X10_blows {g : gT} (l : Launch) (hst : l.stackTraces = false) (hok : gOK g) {a0 : Nat} {i1 : Int32} {i2 : Int32} {i3 : Int32} {M : Mem} {z : (Int32 ⊕ Nat) × Mem} (t0 : Ty g 10 a0) (h : f_X10_blows M a0 i1 i2 i3 = some z) : Cx g l yX10_blows uX10_blows 7 2 12 [.ref (gAd g a0), .int i1, .int i2, .int i3] M vI z := by
  refine Cx.of (cc := cX10_blows) (maxL := 4) (ret := (some .int)) hok (by decide) rfl (Nat.le_of_ble_eq_true rfl) (fun p e s m args below meth c F hr hlk hxt => ?_)
  unfold f_X10_blows at h
  show V g p l e ({ frames := 7, cells := 2, slots := 12, locals := 40 * 7 } : Room) s m args below meth c 4 0 0 (vx_MQ below (gQx g vI z) (gXx g z) args s 2 12 (gA g)) 0 [(0, .ref (gAd g a0)), (1, .int i1), (2, .int i2), (3, .int i3)] [] M
  refine v_aload_n F dX10_blows_0 rfl 0 rfl ?_
  refine v_iload_n F dX10_blows_1 rfl 1 rfl ?_
  obtain ⟨⟨r1 | j4, M2⟩, hz3, h⟩ := bd_some h
  rotate_left
  · dsimp only at h; cases h; exact v_callVxT (As := [.int i1]) (rest := []) F (c_X10_demandBridge l hst F.2.2.1 t0 hz3) (cwV 1 F.1.2.2.2.2 (gU_V ml_X10_273 im_yX10_demandBridge se_yX10_demandBridge ini_X10 cd_X10_demandBridge) rfl rfl rfl (by decide +kernel) ⟨Nat.le_of_ble_eq_true rfl, Nat.le_of_ble_eq_true rfl⟩) t0 (by decide) rfl rfl rfl (Nat.le_of_ble_eq_true rfl) dX10_blows_2 ⟨Nat.le_of_ble_eq_true rfl, Nat.le_of_ble_eq_true rfl⟩ (vx_outV hxt hlk (by decide) (by decide))
  dsimp only at h
  refine v_callVxv (As := [.int i1]) (rest := []) F (c_X10_demandBridge l hst F.2.2.1 t0 hz3) (cwV 1 F.1.2.2.2.2 (gU_V ml_X10_273 im_yX10_demandBridge se_yX10_demandBridge ini_X10 cd_X10_demandBridge) rfl rfl rfl (by decide +kernel) ⟨Nat.le_of_ble_eq_true rfl, Nat.le_of_ble_eq_true rfl⟩) t0 (by decide) rfl rfl rfl (Nat.le_of_ble_eq_true rfl) dX10_blows_2 ⟨Nat.le_of_ble_eq_true rfl, Nat.le_of_ble_eq_true rfl⟩ ?_
  refine v_iload_n F dX10_blows_5 rfl 2 rfl ?_
  refine v_iconst (v := 0) F dX10_blows_6 (by decide) ?_
  refine v_bipush (v := 9) F dX10_blows_7 (by decide) ?_
  obtain ⟨⟨r5, M6⟩, hz7, h⟩ := bd_some h
  dsimp only at h
  refine v_callSi (As := [.int i2, .int 0, .int 9]) (rest := []) F (c_X10_within l F.2.2.1  hz7) (cwS 3 F.1.2.2.2.2 (gU_S ml_X10_63 st_yX10_within ini_X10 cd_X10_within) rfl rfl rfl (by decide +kernel) ⟨Nat.le_of_ble_eq_true rfl, Nat.le_of_ble_eq_true rfl⟩) rfl rfl (Nat.le_of_ble_eq_true rfl) dX10_blows_9 ⟨Nat.le_of_ble_eq_true rfl, Nat.le_of_ble_eq_true rfl⟩ ?_
  refine v_if_eq (tgt := 30) F dX10_blows_12 (by decide) (fun hc9 => ?_) (fun hc9 => ?_)
  · rw [if_pos hc9] at h
    exact w_X10_blows_b30 F hr hlk hxt hst t0 _ h
  · rw [if_neg hc9] at h
    refine v_iload_n F dX10_blows_15 rfl 3 rfl ?_
    refine v_iconst (v := 0) F dX10_blows_16 (by decide) ?_
    refine v_sipush (v := 999) F dX10_blows_17 (by decide) ?_
    obtain ⟨⟨r10, M11⟩, hz12, h⟩ := bd_some h
    dsimp only at h
    refine v_callSi (As := [.int i3, .int 0, .int 999]) (rest := []) F (c_X10_within l F.2.2.1  hz12) (cwS 3 F.1.2.2.2.2 (gU_S ml_X10_63 st_yX10_within ini_X10 cd_X10_within) rfl rfl rfl (by decide +kernel) ⟨Nat.le_of_ble_eq_true rfl, Nat.le_of_ble_eq_true rfl⟩) rfl rfl (Nat.le_of_ble_eq_true rfl) dX10_blows_20 ⟨Nat.le_of_ble_eq_true rfl, Nat.le_of_ble_eq_true rfl⟩ ?_
    refine v_if_eq (tgt := 30) F dX10_blows_23 (by decide) (fun hc14 => ?_) (fun hc14 => ?_)
    · rw [if_pos hc14] at h
      exact w_X10_blows_b30 F hr hlk hxt hst t0 _ h
    · rw [if_neg hc14] at h
      refine v_iconst (v := 1) F dX10_blows_26 (by decide) ?_
      refine v_goto (tgt := 31) F dX10_blows_27 (by decide) ?_
      exact w_X10_blows_b31 F hr hlk hxt hst t0 _ _ h
def f_X10_hours  (M : Mem) (a0 : Nat) (i1 : Int32) : Option ((Int32 ⊕ Nat) × Mem) := (f_X10_demandBridge M a0 i1).bind fun q => match q with | (.inr j4, M2) => some (.inr j4, M2) | (.inl r1, M2) => ((f_X0_hoursOf M2 (gRf (gRf a0 6) 3) i1).bind fun q => match q with | (r7, M8) => (some (.inl r7, M8)))
set_option maxHeartbeats 4000000 in
set_option maxRecDepth 100000 in
theorem c_X10_hours {g : gT} (l : Launch) (hst : l.stackTraces = false) (hok : gOK g) {a0 : Nat} {i1 : Int32} {M : Mem} {z : (Int32 ⊕ Nat) × Mem} (t0 : Ty g 10 a0) (h : f_X10_hours M a0 i1 = some z) : Cx g l yX10_hours uX10_hours 7 1 6 [.ref (gAd g a0), .int i1] M vI z := by
  refine Cx.of (cc := cX10_hours) (maxL := 2) (ret := (some .int)) hok (by decide) rfl (Nat.le_of_ble_eq_true rfl) (fun p e s m args below meth c F hr hlk hxt => ?_)
  unfold f_X10_hours at h
  show V g p l e ({ frames := 7, cells := 1, slots := 6, locals := 40 * 7 } : Room) s m args below meth c 2 0 0 (vx_MQ below (gQx g vI z) (gXx g z) args s 1 6 (gA g)) 0 [(0, .ref (gAd g a0)), (1, .int i1)] [] M
  refine v_aload_n F dX10_hours_0 rfl 0 rfl ?_
  refine v_iload_n F dX10_hours_1 rfl 1 rfl ?_
  obtain ⟨⟨r1 | j4, M2⟩, hz3, h⟩ := bd_some h
  rotate_left
  · dsimp only at h; cases h; exact v_callVxT (As := [.int i1]) (rest := []) F (c_X10_demandBridge l hst F.2.2.1 t0 hz3) (cwV 1 F.1.2.2.2.2 (gU_V ml_X10_273 im_yX10_demandBridge se_yX10_demandBridge ini_X10 cd_X10_demandBridge) rfl rfl rfl (by decide +kernel) ⟨Nat.le_of_ble_eq_true rfl, Nat.le_of_ble_eq_true rfl⟩) t0 (by decide) rfl rfl rfl (Nat.le_of_ble_eq_true rfl) dX10_hours_2 ⟨Nat.le_of_ble_eq_true rfl, Nat.le_of_ble_eq_true rfl⟩ (vx_outV hxt hlk (by decide) (by decide))
  dsimp only at h
  refine v_callVxv (As := [.int i1]) (rest := []) F (c_X10_demandBridge l hst F.2.2.1 t0 hz3) (cwV 1 F.1.2.2.2.2 (gU_V ml_X10_273 im_yX10_demandBridge se_yX10_demandBridge ini_X10 cd_X10_demandBridge) rfl rfl rfl (by decide +kernel) ⟨Nat.le_of_ble_eq_true rfl, Nat.le_of_ble_eq_true rfl⟩) t0 (by decide) rfl rfl rfl (Nat.le_of_ble_eq_true rfl) dX10_hours_2 ⟨Nat.le_of_ble_eq_true rfl, Nat.le_of_ble_eq_true rfl⟩ ?_
  refine v_aload_n F dX10_hours_5 rfl 0 rfl ?_
  refine v_getR (k := 6) (f := 7) F t0 (by decide) (inc inU_10) rfl rfl (by decide) (by decide) (List.mem_cons_of_mem _ fl_X10_38) rfl dX10_hours_6 (fun u5 => ?_)
  refine v_getR (k := 3) (f := 0) F u5 (by decide) (inc inU_7) rfl rfl (by decide) (by decide) (List.mem_cons_of_mem _ fl_X10_265) rfl dX10_hours_9 (fun u6 => ?_)
  refine v_iload_n F dX10_hours_12 rfl 1 rfl ?_
  obtain ⟨⟨r7, M8⟩, hz9, h⟩ := bd_some h
  dsimp only at h
  refine v_callVi (As := [.int i1]) (rest := []) F (c_X0_hoursOf l F.2.2.1 u6 hz9) (cwV 1 F.1.2.2.2.2 (gU_V ml_X10_279 im_yX0_hoursOf se_yX0_hoursOf ini_X0 cd_X0_hoursOf) rfl rfl rfl (by decide +kernel) ⟨Nat.le_of_ble_eq_true rfl, Nat.le_of_ble_eq_true rfl⟩) u6 (by decide) rfl rfl rfl (Nat.le_of_ble_eq_true rfl) dX10_hours_13 ⟨Nat.le_of_ble_eq_true rfl, Nat.le_of_ble_eq_true rfl⟩ ?_
  cases h
  refine v_iretX F hr rfl hlk dX10_hours_16 ?_ ?_ <;> decide
def f_X10_paper_b38 (a0 : Nat) (i1 : Int32) (i2 : Int32) (i3 : Int32)  (s0 : Int32) (M : Mem) : Option ((Int32 ⊕ Nat) × Mem) := (f_X10_demand M s0).bind fun q => match q with | (.inr j19, M17) => some (.inr j19, M17) | (.inl r16, M17) => ((f_X5_add M17 (gRf (gRf a0 6) 4) i1 i2 i3).bind fun q => match q with | (r22, M23) => (some (.inl r22, M23)))
def f_X10_paper_b37 (a0 : Nat) (i1 : Int32) (i2 : Int32) (i3 : Int32)   (M : Mem) : Option ((Int32 ⊕ Nat) × Mem) := f_X10_paper_b38 a0 i1 i2 i3 0 M
def f_X10_paper  (M : Mem) (a0 : Nat) (i1 : Int32) (i2 : Int32) (i3 : Int32) : Option ((Int32 ⊕ Nat) × Mem) := (f_X10_within M i1 0 999).bind fun q => match q with | (r1, M2) => (if r1 = 0 then (f_X10_paper_b37 a0 i1 i2 i3 M2) else ((f_X10_within M2 i2 0 255).bind fun q => match q with | (r6, M7) => (if r6 = 0 then (f_X10_paper_b37 a0 i1 i2 i3 M7) else ((f_X10_within M7 i3 0 255).bind fun q => match q with | (r11, M12) => (if r11 = 0 then (f_X10_paper_b37 a0 i1 i2 i3 M12) else (f_X10_paper_b38 a0 i1 i2 i3 1 M12))))))
set_option maxHeartbeats 4000000 in
set_option maxRecDepth 100000 in
theorem w_X10_paper_b38 {g : gT} {p : Program} {l : Launch} {e : Env} {s : State} {m : MethodId} {args : Array Value} {below : List Frame} {meth : Method} {c : Code} {z : (Int32 ⊕ Nat) × Mem} (F : Fx g p s m args c cX10_paper 4 uX10_paper RX10) (hr : meth.sig.returnType = (some .int)) (hlk : meth.locks = false) (hxt : ∀ x ∈ c.exceptionTable.toList, False) (hst : l.stackTraces = false)  {a0 : Nat} {i1 : Int32} {i2 : Int32} {i3 : Int32} (t0 : Ty g 10 a0)   (s0 : Int32) (M : Mem)  (h : f_X10_paper_b38 a0 i1 i2 i3 s0 M = some z) : V g p l e ({ frames := 7, cells := 1, slots := 6, locals := 40 * 7 } : Room) s m args below meth c 4 0 0 (vx_MQ below (gQx g vI z) (gXx g z) args s 1 6 (gA g)) 38 [(0, .ref (gAd g a0)), (1, .int i1), (2, .int i2), (3, .int i3)] [.int s0] M := by
  unfold f_X10_paper_b38 at h
  obtain ⟨⟨r16 | j19, M17⟩, hz18, h⟩ := bd_some h
  rotate_left
  · dsimp only at h; cases h; exact v_callSxT (As := [.int s0]) (rest := []) F (c_X10_demand l hst F.2.2.1  hz18) (cwS 1 F.1.2.2.2.2 (gU_S ml_X10_67 st_yX10_demand ini_X10 cd_X10_demand) rfl rfl rfl (by decide +kernel) ⟨Nat.le_of_ble_eq_true rfl, Nat.le_of_ble_eq_true rfl⟩) rfl rfl (Nat.le_of_ble_eq_true rfl) dX10_paper_38 ⟨Nat.le_of_ble_eq_true rfl, Nat.le_of_ble_eq_true rfl⟩ (vx_outV hxt hlk (by decide) (by decide))
  dsimp only at h
  refine v_callSxv (As := [.int s0]) (rest := []) F (c_X10_demand l hst F.2.2.1  hz18) (cwS 1 F.1.2.2.2.2 (gU_S ml_X10_67 st_yX10_demand ini_X10 cd_X10_demand) rfl rfl rfl (by decide +kernel) ⟨Nat.le_of_ble_eq_true rfl, Nat.le_of_ble_eq_true rfl⟩) rfl rfl (Nat.le_of_ble_eq_true rfl) dX10_paper_38 ⟨Nat.le_of_ble_eq_true rfl, Nat.le_of_ble_eq_true rfl⟩ ?_
  refine v_aload_n F dX10_paper_41 rfl 0 rfl ?_
  refine v_getR (k := 6) (f := 7) F t0 (by decide) (inc inU_10) rfl rfl (by decide) (by decide) (List.mem_cons_of_mem _ fl_X10_38) rfl dX10_paper_42 (fun u20 => ?_)
  refine v_getR (k := 4) (f := 5) F u20 (by decide) (inc inU_7) rfl rfl (by decide) (by decide) (List.mem_cons_of_mem _ fl_X10_282) rfl dX10_paper_45 (fun u21 => ?_)
  refine v_iload_n F dX10_paper_48 rfl 1 rfl ?_
  refine v_iload_n F dX10_paper_49 rfl 2 rfl ?_
  refine v_iload_n F dX10_paper_50 rfl 3 rfl ?_
  obtain ⟨⟨r22, M23⟩, hz24, h⟩ := bd_some h
  dsimp only at h
  refine v_callVi (As := [.int i1, .int i2, .int i3]) (rest := []) F (c_X5_add l F.2.2.1 u21 hz24) (cwV 3 F.1.2.2.2.2 (gU_V ml_X10_286 im_yX5_add se_yX5_add ini_X5 cd_X5_add) rfl rfl rfl (by decide +kernel) ⟨Nat.le_of_ble_eq_true rfl, Nat.le_of_ble_eq_true rfl⟩) u21 (by decide) rfl rfl rfl (Nat.le_of_ble_eq_true rfl) dX10_paper_51 ⟨Nat.le_of_ble_eq_true rfl, Nat.le_of_ble_eq_true rfl⟩ ?_
  cases h
  refine v_iretX F hr rfl hlk dX10_paper_54 ?_ ?_ <;> decide
set_option maxHeartbeats 4000000 in
set_option maxRecDepth 100000 in
theorem w_X10_paper_b37 {g : gT} {p : Program} {l : Launch} {e : Env} {s : State} {m : MethodId} {args : Array Value} {below : List Frame} {meth : Method} {c : Code} {z : (Int32 ⊕ Nat) × Mem} (F : Fx g p s m args c cX10_paper 4 uX10_paper RX10) (hr : meth.sig.returnType = (some .int)) (hlk : meth.locks = false) (hxt : ∀ x ∈ c.exceptionTable.toList, False) (hst : l.stackTraces = false)  {a0 : Nat} {i1 : Int32} {i2 : Int32} {i3 : Int32} (t0 : Ty g 10 a0)    (M : Mem)  (h : f_X10_paper_b37 a0 i1 i2 i3 M = some z) : V g p l e ({ frames := 7, cells := 1, slots := 6, locals := 40 * 7 } : Room) s m args below meth c 4 0 0 (vx_MQ below (gQx g vI z) (gXx g z) args s 1 6 (gA g)) 37 [(0, .ref (gAd g a0)), (1, .int i1), (2, .int i2), (3, .int i3)] [] M := by
  unfold f_X10_paper_b37 at h
  refine v_iconst (v := 0) F dX10_paper_37 (by decide) ?_
  exact w_X10_paper_b38 F hr hlk hxt hst t0 _ _ h
set_option maxHeartbeats 4000000 in
set_option maxRecDepth 100000 in
theorem c_X10_paper {g : gT} (l : Launch) (hst : l.stackTraces = false) (hok : gOK g) {a0 : Nat} {i1 : Int32} {i2 : Int32} {i3 : Int32} {M : Mem} {z : (Int32 ⊕ Nat) × Mem} (t0 : Ty g 10 a0) (h : f_X10_paper M a0 i1 i2 i3 = some z) : Cx g l yX10_paper uX10_paper 7 1 6 [.ref (gAd g a0), .int i1, .int i2, .int i3] M vI z := by
  refine Cx.of (cc := cX10_paper) (maxL := 4) (ret := (some .int)) hok (by decide) rfl (Nat.le_of_ble_eq_true rfl) (fun p e s m args below meth c F hr hlk hxt => ?_)
  unfold f_X10_paper at h
  show V g p l e ({ frames := 7, cells := 1, slots := 6, locals := 40 * 7 } : Room) s m args below meth c 4 0 0 (vx_MQ below (gQx g vI z) (gXx g z) args s 1 6 (gA g)) 0 [(0, .ref (gAd g a0)), (1, .int i1), (2, .int i2), (3, .int i3)] [] M
  refine v_iload_n F dX10_paper_0 rfl 1 rfl ?_
  refine v_iconst (v := 0) F dX10_paper_1 (by decide) ?_
  refine v_sipush (v := 999) F dX10_paper_2 (by decide) ?_
  obtain ⟨⟨r1, M2⟩, hz3, h⟩ := bd_some h
  dsimp only at h
  refine v_callSi (As := [.int i1, .int 0, .int 999]) (rest := []) F (c_X10_within l F.2.2.1  hz3) (cwS 3 F.1.2.2.2.2 (gU_S ml_X10_63 st_yX10_within ini_X10 cd_X10_within) rfl rfl rfl (by decide +kernel) ⟨Nat.le_of_ble_eq_true rfl, Nat.le_of_ble_eq_true rfl⟩) rfl rfl (Nat.le_of_ble_eq_true rfl) dX10_paper_5 ⟨Nat.le_of_ble_eq_true rfl, Nat.le_of_ble_eq_true rfl⟩ ?_
  refine v_if_eq (tgt := 37) F dX10_paper_8 (by decide) (fun hc5 => ?_) (fun hc5 => ?_)
  · rw [if_pos hc5] at h
    exact w_X10_paper_b37 F hr hlk hxt hst t0 _ h
  · rw [if_neg hc5] at h
    refine v_iload_n F dX10_paper_11 rfl 2 rfl ?_
    refine v_iconst (v := 0) F dX10_paper_12 (by decide) ?_
    refine v_sipush (v := 255) F dX10_paper_13 (by decide) ?_
    obtain ⟨⟨r6, M7⟩, hz8, h⟩ := bd_some h
    dsimp only at h
    refine v_callSi (As := [.int i2, .int 0, .int 255]) (rest := []) F (c_X10_within l F.2.2.1  hz8) (cwS 3 F.1.2.2.2.2 (gU_S ml_X10_63 st_yX10_within ini_X10 cd_X10_within) rfl rfl rfl (by decide +kernel) ⟨Nat.le_of_ble_eq_true rfl, Nat.le_of_ble_eq_true rfl⟩) rfl rfl (Nat.le_of_ble_eq_true rfl) dX10_paper_16 ⟨Nat.le_of_ble_eq_true rfl, Nat.le_of_ble_eq_true rfl⟩ ?_
    refine v_if_eq (tgt := 37) F dX10_paper_19 (by decide) (fun hc10 => ?_) (fun hc10 => ?_)
    · rw [if_pos hc10] at h
      exact w_X10_paper_b37 F hr hlk hxt hst t0 _ h
    · rw [if_neg hc10] at h
      refine v_iload_n F dX10_paper_22 rfl 3 rfl ?_
      refine v_iconst (v := 0) F dX10_paper_23 (by decide) ?_
      refine v_sipush (v := 255) F dX10_paper_24 (by decide) ?_
      obtain ⟨⟨r11, M12⟩, hz13, h⟩ := bd_some h
      dsimp only at h
      refine v_callSi (As := [.int i3, .int 0, .int 255]) (rest := []) F (c_X10_within l F.2.2.1  hz13) (cwS 3 F.1.2.2.2.2 (gU_S ml_X10_63 st_yX10_within ini_X10 cd_X10_within) rfl rfl rfl (by decide +kernel) ⟨Nat.le_of_ble_eq_true rfl, Nat.le_of_ble_eq_true rfl⟩) rfl rfl (Nat.le_of_ble_eq_true rfl) dX10_paper_27 ⟨Nat.le_of_ble_eq_true rfl, Nat.le_of_ble_eq_true rfl⟩ ?_
      refine v_if_eq (tgt := 37) F dX10_paper_30 (by decide) (fun hc15 => ?_) (fun hc15 => ?_)
      · rw [if_pos hc15] at h
        exact w_X10_paper_b37 F hr hlk hxt hst t0 _ h
      · rw [if_neg hc15] at h
        refine v_iconst (v := 1) F dX10_paper_33 (by decide) ?_
        refine v_goto (tgt := 38) F dX10_paper_34 (by decide) ?_
        exact w_X10_paper_b38 F hr hlk hxt hst t0 _ _ h
def f_X10_known  (M : Mem) (a0 : Nat) (i1 : Int32) : Option ((Int32 ⊕ Nat) × Mem) := (f_X10_within M i1 0 999).bind fun q => match q with | (r1, M2) => ((f_X10_demand M2 r1).bind fun q => match q with | (.inr j8, M6) => some (.inr j8, M6) | (.inl r5, M6) => ((f_X5_knownOn M6 (gRf (gRf a0 6) 4) i1).bind fun q => match q with | (r11, M12) => (some (.inl r11, M12))))
set_option maxHeartbeats 4000000 in
set_option maxRecDepth 100000 in
theorem c_X10_known {g : gT} (l : Launch) (hst : l.stackTraces = false) (hok : gOK g) {a0 : Nat} {i1 : Int32} {M : Mem} {z : (Int32 ⊕ Nat) × Mem} (t0 : Ty g 10 a0) (h : f_X10_known M a0 i1 = some z) : Cx g l yX10_known uX10_known 7 1 6 [.ref (gAd g a0), .int i1] M vI z := by
  refine Cx.of (cc := cX10_known) (maxL := 2) (ret := (some .int)) hok (by decide) rfl (Nat.le_of_ble_eq_true rfl) (fun p e s m args below meth c F hr hlk hxt => ?_)
  unfold f_X10_known at h
  show V g p l e ({ frames := 7, cells := 1, slots := 6, locals := 40 * 7 } : Room) s m args below meth c 2 0 0 (vx_MQ below (gQx g vI z) (gXx g z) args s 1 6 (gA g)) 0 [(0, .ref (gAd g a0)), (1, .int i1)] [] M
  refine v_iload_n F dX10_known_0 rfl 1 rfl ?_
  refine v_iconst (v := 0) F dX10_known_1 (by decide) ?_
  refine v_sipush (v := 999) F dX10_known_2 (by decide) ?_
  obtain ⟨⟨r1, M2⟩, hz3, h⟩ := bd_some h
  dsimp only at h
  refine v_callSi (As := [.int i1, .int 0, .int 999]) (rest := []) F (c_X10_within l F.2.2.1  hz3) (cwS 3 F.1.2.2.2.2 (gU_S ml_X10_63 st_yX10_within ini_X10 cd_X10_within) rfl rfl rfl (by decide +kernel) ⟨Nat.le_of_ble_eq_true rfl, Nat.le_of_ble_eq_true rfl⟩) rfl rfl (Nat.le_of_ble_eq_true rfl) dX10_known_5 ⟨Nat.le_of_ble_eq_true rfl, Nat.le_of_ble_eq_true rfl⟩ ?_
  obtain ⟨⟨r5 | j8, M6⟩, hz7, h⟩ := bd_some h
  rotate_left
  · dsimp only at h; cases h; exact v_callSxT (As := [.int r1]) (rest := []) F (c_X10_demand l hst F.2.2.1  hz7) (cwS 1 F.1.2.2.2.2 (gU_S ml_X10_67 st_yX10_demand ini_X10 cd_X10_demand) rfl rfl rfl (by decide +kernel) ⟨Nat.le_of_ble_eq_true rfl, Nat.le_of_ble_eq_true rfl⟩) rfl rfl (Nat.le_of_ble_eq_true rfl) dX10_known_8 ⟨Nat.le_of_ble_eq_true rfl, Nat.le_of_ble_eq_true rfl⟩ (vx_outV hxt hlk (by decide) (by decide))
  dsimp only at h
  refine v_callSxv (As := [.int r1]) (rest := []) F (c_X10_demand l hst F.2.2.1  hz7) (cwS 1 F.1.2.2.2.2 (gU_S ml_X10_67 st_yX10_demand ini_X10 cd_X10_demand) rfl rfl rfl (by decide +kernel) ⟨Nat.le_of_ble_eq_true rfl, Nat.le_of_ble_eq_true rfl⟩) rfl rfl (Nat.le_of_ble_eq_true rfl) dX10_known_8 ⟨Nat.le_of_ble_eq_true rfl, Nat.le_of_ble_eq_true rfl⟩ ?_
  refine v_aload_n F dX10_known_11 rfl 0 rfl ?_
  refine v_getR (k := 6) (f := 7) F t0 (by decide) (inc inU_10) rfl rfl (by decide) (by decide) (List.mem_cons_of_mem _ fl_X10_38) rfl dX10_known_12 (fun u9 => ?_)
  refine v_getR (k := 4) (f := 5) F u9 (by decide) (inc inU_7) rfl rfl (by decide) (by decide) (List.mem_cons_of_mem _ fl_X10_282) rfl dX10_known_15 (fun u10 => ?_)
  refine v_iload_n F dX10_known_18 rfl 1 rfl ?_
  obtain ⟨⟨r11, M12⟩, hz13, h⟩ := bd_some h
  dsimp only at h
  refine v_callVi (As := [.int i1]) (rest := []) F (c_X5_knownOn l F.2.2.1 u10 hz13) (cwV 1 F.1.2.2.2.2 (gU_V ml_X10_289 im_yX5_knownOn se_yX5_knownOn ini_X5 cd_X5_knownOn) rfl rfl rfl (by decide +kernel) ⟨Nat.le_of_ble_eq_true rfl, Nat.le_of_ble_eq_true rfl⟩) u10 (by decide) rfl rfl rfl (Nat.le_of_ble_eq_true rfl) dX10_known_19 ⟨Nat.le_of_ble_eq_true rfl, Nat.le_of_ble_eq_true rfl⟩ ?_
  cases h
  refine v_iretX F hr rfl hlk dX10_known_22 ?_ ?_ <;> decide
def f_X10_could  (M : Mem) (a0 : Nat) (i1 : Int32) : Option ((Int32 ⊕ Nat) × Mem) := (f_X10_within M i1 0 255).bind fun q => match q with | (r1, M2) => ((f_X10_demand M2 r1).bind fun q => match q with | (.inr j8, M6) => some (.inr j8, M6) | (.inl r5, M6) => ((f_X5_firstDayOf M6 (gRf (gRf a0 6) 4) i1).bind fun q => match q with | (r11, M12) => (some (.inl r11, M12))))
set_option maxHeartbeats 4000000 in
set_option maxRecDepth 100000 in
theorem c_X10_could {g : gT} (l : Launch) (hst : l.stackTraces = false) (hok : gOK g) {a0 : Nat} {i1 : Int32} {M : Mem} {z : (Int32 ⊕ Nat) × Mem} (t0 : Ty g 10 a0) (h : f_X10_could M a0 i1 = some z) : Cx g l yX10_could uX10_could 7 1 6 [.ref (gAd g a0), .int i1] M vI z := by
  refine Cx.of (cc := cX10_could) (maxL := 2) (ret := (some .int)) hok (by decide) rfl (Nat.le_of_ble_eq_true rfl) (fun p e s m args below meth c F hr hlk hxt => ?_)
  unfold f_X10_could at h
  show V g p l e ({ frames := 7, cells := 1, slots := 6, locals := 40 * 7 } : Room) s m args below meth c 2 0 0 (vx_MQ below (gQx g vI z) (gXx g z) args s 1 6 (gA g)) 0 [(0, .ref (gAd g a0)), (1, .int i1)] [] M
  refine v_iload_n F dX10_could_0 rfl 1 rfl ?_
  refine v_iconst (v := 0) F dX10_could_1 (by decide) ?_
  refine v_sipush (v := 255) F dX10_could_2 (by decide) ?_
  obtain ⟨⟨r1, M2⟩, hz3, h⟩ := bd_some h
  dsimp only at h
  refine v_callSi (As := [.int i1, .int 0, .int 255]) (rest := []) F (c_X10_within l F.2.2.1  hz3) (cwS 3 F.1.2.2.2.2 (gU_S ml_X10_63 st_yX10_within ini_X10 cd_X10_within) rfl rfl rfl (by decide +kernel) ⟨Nat.le_of_ble_eq_true rfl, Nat.le_of_ble_eq_true rfl⟩) rfl rfl (Nat.le_of_ble_eq_true rfl) dX10_could_5 ⟨Nat.le_of_ble_eq_true rfl, Nat.le_of_ble_eq_true rfl⟩ ?_
  obtain ⟨⟨r5 | j8, M6⟩, hz7, h⟩ := bd_some h
  rotate_left
  · dsimp only at h; cases h; exact v_callSxT (As := [.int r1]) (rest := []) F (c_X10_demand l hst F.2.2.1  hz7) (cwS 1 F.1.2.2.2.2 (gU_S ml_X10_67 st_yX10_demand ini_X10 cd_X10_demand) rfl rfl rfl (by decide +kernel) ⟨Nat.le_of_ble_eq_true rfl, Nat.le_of_ble_eq_true rfl⟩) rfl rfl (Nat.le_of_ble_eq_true rfl) dX10_could_8 ⟨Nat.le_of_ble_eq_true rfl, Nat.le_of_ble_eq_true rfl⟩ (vx_outV hxt hlk (by decide) (by decide))
  dsimp only at h
  refine v_callSxv (As := [.int r1]) (rest := []) F (c_X10_demand l hst F.2.2.1  hz7) (cwS 1 F.1.2.2.2.2 (gU_S ml_X10_67 st_yX10_demand ini_X10 cd_X10_demand) rfl rfl rfl (by decide +kernel) ⟨Nat.le_of_ble_eq_true rfl, Nat.le_of_ble_eq_true rfl⟩) rfl rfl (Nat.le_of_ble_eq_true rfl) dX10_could_8 ⟨Nat.le_of_ble_eq_true rfl, Nat.le_of_ble_eq_true rfl⟩ ?_
  refine v_aload_n F dX10_could_11 rfl 0 rfl ?_
  refine v_getR (k := 6) (f := 7) F t0 (by decide) (inc inU_10) rfl rfl (by decide) (by decide) (List.mem_cons_of_mem _ fl_X10_38) rfl dX10_could_12 (fun u9 => ?_)
  refine v_getR (k := 4) (f := 5) F u9 (by decide) (inc inU_7) rfl rfl (by decide) (by decide) (List.mem_cons_of_mem _ fl_X10_282) rfl dX10_could_15 (fun u10 => ?_)
  refine v_iload_n F dX10_could_18 rfl 1 rfl ?_
  obtain ⟨⟨r11, M12⟩, hz13, h⟩ := bd_some h
  dsimp only at h
  refine v_callVi (As := [.int i1]) (rest := []) F (c_X5_firstDayOf l F.2.2.1 u10 hz13) (cwV 1 F.1.2.2.2.2 (gU_V ml_X10_292 im_yX5_firstDayOf se_yX5_firstDayOf ini_X5 cd_X5_firstDayOf) rfl rfl rfl (by decide +kernel) ⟨Nat.le_of_ble_eq_true rfl, Nat.le_of_ble_eq_true rfl⟩) u10 (by decide) rfl rfl rfl (Nat.le_of_ble_eq_true rfl) dX10_could_19 ⟨Nat.le_of_ble_eq_true rfl, Nat.le_of_ble_eq_true rfl⟩ ?_
  cases h
  refine v_iretX F hr rfl hlk dX10_could_22 ?_ ?_ <;> decide
def f_X10_shut_h77 (a0 : Nat) (i1 : Int32) (i2 : Int32) (i3 : Int32) (i4 : Int32) (i5 : Int32) (i6 : Int32)  : Nat → Nat → Int32 → Mem → Option ((Int32 ⊕ Nat) × Mem)
  | 0, _, _, _ => none
  | n + 1, y7, x8, M => if 100 < x8 then (some (.inl (-1), M)) else ((f_X1_tick M (gRf a0 9) y7 i2 100).bind fun q => match q with | (r42, M43) => ((f_X1_size M43 (gRf a0 9) i3).bind fun q => match q with | (r47, M48) => (if r47 ≤ i6 then ((f_X10_shut_h77 a0 i1 i2 i3 i4 i5 i6 n) y7 (x8 + 1) M48) else (some (.inl x8, M48)))))
def f_X10_shut_b45 (a0 : Nat) (i1 : Int32) (i2 : Int32) (i3 : Int32) (i4 : Int32) (i5 : Int32) (i6 : Int32)  (s0 : Int32) (y7 : Nat) (M : Mem) : Option ((Int32 ⊕ Nat) × Mem) := (f_X10_demand M s0).bind fun q => match q with | (.inr j27, M25) => some (.inr j27, M25) | (.inl r24, M25) => ((f_X1_copy M25 (gRf a0 9) (gRf (gRf a0 6) 0)).bind fun q => match q with | (r31, M32) => ((f_X1_begin M32 (gRf a0 9) i3 i4 i5).bind fun q => match q with | (r36, M37) => (f_X10_shut_h77 a0 i1 i2 i3 i4 i5 i6 FU y7 1 M37)))
def f_X10_shut_b44 (a0 : Nat) (i1 : Int32) (i2 : Int32) (i3 : Int32) (i4 : Int32) (i5 : Int32) (i6 : Int32)  (y7 : Nat) (M : Mem) : Option ((Int32 ⊕ Nat) × Mem) := f_X10_shut_b45 a0 i1 i2 i3 i4 i5 i6 0 y7 M
def f_X10_shut  (M : Mem) (a0 : Nat) (i1 : Int32) (i2 : Int32) (i3 : Int32) (i4 : Int32) (i5 : Int32) (i6 : Int32) : Option ((Int32 ⊕ Nat) × Mem) := (f_X10_lawNumbered M a0 i1).bind fun q => match q with | (.inr j4, M2) => some (.inr j4, M2) | (.inl r1, M2) => ((f_X10_demandWind M2 i2).bind fun q => match q with | (.inr j9, M7) => some (.inr j9, M7) | (.inl r6, M7) => ((f_X10_demandShape M7 i3 i4).bind fun q => match q with | (.inr j13, M11) => some (.inr j13, M11) | (.inl r10, M11) => ((f_X10_within M11 i5 1 9999).bind fun q => match q with | (r14, M15) => (if r14 = 0 then (f_X10_shut_b44 a0 i1 i2 i3 i4 i5 i6 r1 M15) else ((f_X10_within M15 i6 0 1000000).bind fun q => match q with | (r19, M20) => (if r19 = 0 then (f_X10_shut_b44 a0 i1 i2 i3 i4 i5 i6 r1 M20) else (f_X10_shut_b45 a0 i1 i2 i3 i4 i5 i6 1 r1 M20)))))))
set_option maxHeartbeats 4000000 in
set_option maxRecDepth 100000 in
theorem w_X10_shut_h77 {g : gT} {p : Program} {l : Launch} {e : Env} {s : State} {m : MethodId} {args : Array Value} {below : List Frame} {meth : Method} {c : Code} {z : (Int32 ⊕ Nat) × Mem} (F : Fx g p s m args c cX10_shut 9 uX10_shut RX10) (hr : meth.sig.returnType = (some .int)) (hlk : meth.locks = false) (hxt : ∀ x ∈ c.exceptionTable.toList, False) (hst : l.stackTraces = false)  {a0 : Nat} {i1 : Int32} {i2 : Int32} {i3 : Int32} {i4 : Int32} {i5 : Int32} {i6 : Int32} (t0 : Ty g 10 a0)   : ∀ (n : Nat) (y7 : Nat) (x8 : Int32) (M : Mem), Ty g 3 y7 → f_X10_shut_h77 a0 i1 i2 i3 i4 i5 i6 n y7 x8 M = some z → V g p l e ({ frames := 8, cells := 4, slots := 24, locals := 40 * 8 } : Room) s m args below meth c 9 4 24 (vx_MQ below (gQx g vI z) (gXx g z) args s 4 24 (gA g)) 77 [(0, .ref (gAd g a0)), (1, .int i1), (2, .int i2), (3, .int i3), (4, .int i4), (5, .int i5), (6, .int i6), (7, .ref (gAd g y7)), (8, .int x8)] [] M := by
  intro n
  induction n with
  | zero => intro y7 x8 M; intros; rename_i h; cases h
  | succ n ih =>
    intro y7 x8 M ty7 h
    rw [f_X10_shut_h77] at h
    refine v_iload F dX10_shut_77 8 rfl ?_
    refine v_bipush (v := 100) F dX10_shut_79 (by decide) ?_
    refine v_icmp_gt (tgt := 118) F dX10_shut_81 (by decide) (fun hc40 => ?_) (fun hc40 => ?_)
    · rw [if_pos hc40] at h
      refine v_iconst (v := (-1)) F dX10_shut_118 (by decide) ?_
      cases h
      refine v_iretX F hr rfl hlk dX10_shut_119 ?_ ?_ <;> decide
    · rw [if_neg hc40] at h
      refine v_aload_n F dX10_shut_84 rfl 0 rfl ?_
      refine v_getR (k := 9) (f := 1) F t0 (by decide) (inc inU_10) rfl rfl (by decide) (by decide) (List.mem_cons_of_mem _ fl_X10_49) rfl dX10_shut_85 (fun u41 => ?_)
      refine v_aload F dX10_shut_88 7 rfl ?_
      refine v_iload_n F dX10_shut_90 rfl 2 rfl ?_
      refine v_bipush (v := 100) F dX10_shut_91 (by decide) ?_
      obtain ⟨⟨r42, M43⟩, hz44, h⟩ := bd_some h
      dsimp only at h
      refine v_callVv (As := [.ref (gAd g y7), .int i2, .int 100]) (rest := []) F (c_X1_tick l F.2.2.1 u41 ty7 hz44) (cwV 3 F.1.2.2.2.2 (gU_V ml_X10_142 im_yX1_tick se_yX1_tick ini_X1 cd_X1_tick) rfl rfl rfl (by decide +kernel) ⟨Nat.le_of_ble_eq_true rfl, Nat.le_of_ble_eq_true rfl⟩) u41 (by decide) rfl rfl rfl (Nat.le_of_ble_eq_true rfl) dX10_shut_93 ⟨Nat.le_of_ble_eq_true rfl, Nat.le_of_ble_eq_true rfl⟩ ?_
      refine v_aload_n F dX10_shut_96 rfl 0 rfl ?_
      refine v_getR (k := 9) (f := 1) F t0 (by decide) (inc inU_10) rfl rfl (by decide) (by decide) (List.mem_cons_of_mem _ fl_X10_49) rfl dX10_shut_97 (fun u46 => ?_)
      refine v_iload_n F dX10_shut_100 rfl 3 rfl ?_
      obtain ⟨⟨r47, M48⟩, hz49, h⟩ := bd_some h
      dsimp only at h
      refine v_callVi (As := [.int i3]) (rest := []) F (c_X1_size l F.2.2.1 u46 hz49) (cwV 1 F.1.2.2.2.2 (gU_V ml_X10_132 im_yX1_size se_yX1_size ini_X1 cd_X1_size) rfl rfl rfl (by decide +kernel) ⟨Nat.le_of_ble_eq_true rfl, Nat.le_of_ble_eq_true rfl⟩) u46 (by decide) rfl rfl rfl (Nat.le_of_ble_eq_true rfl) dX10_shut_101 ⟨Nat.le_of_ble_eq_true rfl, Nat.le_of_ble_eq_true rfl⟩ ?_
      refine v_iload F dX10_shut_104 6 rfl ?_
      refine v_icmp_le (tgt := 112) F dX10_shut_106 (by decide) (fun hc51 => ?_) (fun hc51 => ?_)
      · rw [if_pos hc51] at h
        refine v_iinc (v := x8 + 1) (lv' := [(8, .int (x8 + 1)), (0, .ref (gAd g a0)), (1, .int i1), (2, .int i2), (3, .int i3), (4, .int i4), (5, .int i5), (6, .int i6), (7, .ref (gAd g y7))]) F dX10_shut_112 (q := 8) rfl rfl (by decide) rfl ?_
        refine v_goto (tgt := 77) F dX10_shut_115 (by decide) ?_
        refine v_sub (fun ls h9 => lv_sub h9 [1, 2, 3, 4, 5, 6, 7, 8, 0] rfl) ?_
        exact ih _ _ _ ty7 h
      · rw [if_neg hc51] at h
        refine v_iload F dX10_shut_109 8 rfl ?_
        cases h
        refine v_iretX F hr rfl hlk dX10_shut_111 ?_ ?_ <;> decide
set_option maxHeartbeats 4000000 in
set_option maxRecDepth 100000 in
theorem w_X10_shut_b45 {g : gT} {p : Program} {l : Launch} {e : Env} {s : State} {m : MethodId} {args : Array Value} {below : List Frame} {meth : Method} {c : Code} {z : (Int32 ⊕ Nat) × Mem} (F : Fx g p s m args c cX10_shut 9 uX10_shut RX10) (hr : meth.sig.returnType = (some .int)) (hlk : meth.locks = false) (hxt : ∀ x ∈ c.exceptionTable.toList, False) (hst : l.stackTraces = false)  {a0 : Nat} {i1 : Int32} {i2 : Int32} {i3 : Int32} {i4 : Int32} {i5 : Int32} {i6 : Int32} (t0 : Ty g 10 a0)   (s0 : Int32) (y7 : Nat) (M : Mem) (ty7 : Ty g 3 y7) (h : f_X10_shut_b45 a0 i1 i2 i3 i4 i5 i6 s0 y7 M = some z) : V g p l e ({ frames := 8, cells := 4, slots := 24, locals := 40 * 8 } : Room) s m args below meth c 9 3 18 (vx_MQ below (gQx g vI z) (gXx g z) args s 4 24 (gA g)) 45 [(0, .ref (gAd g a0)), (1, .int i1), (2, .int i2), (3, .int i3), (4, .int i4), (5, .int i5), (6, .int i6), (7, .ref (gAd g y7))] [.int s0] M := by
  unfold f_X10_shut_b45 at h
  obtain ⟨⟨r24 | j27, M25⟩, hz26, h⟩ := bd_some h
  rotate_left
  · dsimp only at h; cases h; exact v_callSxT (As := [.int s0]) (rest := []) F (c_X10_demand l hst F.2.2.1  hz26) (cwS 1 F.1.2.2.2.2 (gU_S ml_X10_67 st_yX10_demand ini_X10 cd_X10_demand) rfl rfl rfl (by decide +kernel) ⟨Nat.le_of_ble_eq_true rfl, Nat.le_of_ble_eq_true rfl⟩) rfl rfl (Nat.le_of_ble_eq_true rfl) dX10_shut_45 ⟨Nat.le_of_ble_eq_true rfl, Nat.le_of_ble_eq_true rfl⟩ (vx_outV hxt hlk (by decide) (by decide))
  dsimp only at h
  refine v_callSxv (As := [.int s0]) (rest := []) F (c_X10_demand l hst F.2.2.1  hz26) (cwS 1 F.1.2.2.2.2 (gU_S ml_X10_67 st_yX10_demand ini_X10 cd_X10_demand) rfl rfl rfl (by decide +kernel) ⟨Nat.le_of_ble_eq_true rfl, Nat.le_of_ble_eq_true rfl⟩) rfl rfl (Nat.le_of_ble_eq_true rfl) dX10_shut_45 ⟨Nat.le_of_ble_eq_true rfl, Nat.le_of_ble_eq_true rfl⟩ ?_
  refine v_aload_n F dX10_shut_48 rfl 0 rfl ?_
  refine v_getR (k := 9) (f := 1) F t0 (by decide) (inc inU_10) rfl rfl (by decide) (by decide) (List.mem_cons_of_mem _ fl_X10_49) rfl dX10_shut_49 (fun u28 => ?_)
  refine v_aload_n F dX10_shut_52 rfl 0 rfl ?_
  refine v_getR (k := 6) (f := 7) F t0 (by decide) (inc inU_10) rfl rfl (by decide) (by decide) (List.mem_cons_of_mem _ fl_X10_38) rfl dX10_shut_53 (fun u29 => ?_)
  refine v_getR (k := 0) (f := 1) F u29 (by decide) (inc inU_7) rfl rfl (by decide) (by decide) (List.mem_cons_of_mem _ fl_X10_93) rfl dX10_shut_56 (fun u30 => ?_)
  obtain ⟨⟨r31, M32⟩, hz33, h⟩ := bd_some h
  dsimp only at h
  refine v_callVv (As := [.ref (gAd g (gRf (gRf a0 6) 0))]) (rest := []) F (c_X1_copy l F.2.2.1 u28 u30 hz33) (cwV 1 F.1.2.2.2.2 (gU_V ml_X10_182 im_yX1_copy se_yX1_copy ini_X1 cd_X1_copy) rfl rfl rfl (by decide +kernel) ⟨Nat.le_of_ble_eq_true rfl, Nat.le_of_ble_eq_true rfl⟩) u28 (by decide) rfl rfl rfl (Nat.le_of_ble_eq_true rfl) dX10_shut_59 ⟨Nat.le_of_ble_eq_true rfl, Nat.le_of_ble_eq_true rfl⟩ ?_
  refine v_aload_n F dX10_shut_62 rfl 0 rfl ?_
  refine v_getR (k := 9) (f := 1) F t0 (by decide) (inc inU_10) rfl rfl (by decide) (by decide) (List.mem_cons_of_mem _ fl_X10_49) rfl dX10_shut_63 (fun u35 => ?_)
  refine v_iload_n F dX10_shut_66 rfl 3 rfl ?_
  refine v_iload F dX10_shut_67 4 rfl ?_
  refine v_iload F dX10_shut_69 5 rfl ?_
  obtain ⟨⟨r36, M37⟩, hz38, h⟩ := bd_some h
  dsimp only at h
  refine v_callVv (As := [.int i3, .int i4, .int i5]) (rest := []) F (c_X1_begin l F.2.2.1 u35 hz38) (cwV 3 F.1.2.2.2.2 (gU_V ml_X10_217 im_yX1_begin se_yX1_begin ini_X1 cd_X1_begin) rfl rfl rfl (by decide +kernel) ⟨Nat.le_of_ble_eq_true rfl, Nat.le_of_ble_eq_true rfl⟩) u35 (by decide) rfl rfl rfl (Nat.le_of_ble_eq_true rfl) dX10_shut_71 ⟨Nat.le_of_ble_eq_true rfl, Nat.le_of_ble_eq_true rfl⟩ ?_
  refine v_iconst (v := 1) F dX10_shut_74 (by decide) ?_
  refine v_istore (lv' := [(8, .int 1), (0, .ref (gAd g a0)), (1, .int i1), (2, .int i2), (3, .int i3), (4, .int i4), (5, .int i5), (6, .int i6), (7, .ref (gAd g y7))]) F dX10_shut_75 (by decide) rfl ?_
  refine v_sub (fun ls h9 => lv_sub h9 [1, 2, 3, 4, 5, 6, 7, 8, 0] rfl) ?_
  exact w_X10_shut_h77 F hr hlk hxt hst t0 _ _ _ _ ty7 h
set_option maxHeartbeats 4000000 in
set_option maxRecDepth 100000 in
theorem w_X10_shut_b44 {g : gT} {p : Program} {l : Launch} {e : Env} {s : State} {m : MethodId} {args : Array Value} {below : List Frame} {meth : Method} {c : Code} {z : (Int32 ⊕ Nat) × Mem} (F : Fx g p s m args c cX10_shut 9 uX10_shut RX10) (hr : meth.sig.returnType = (some .int)) (hlk : meth.locks = false) (hxt : ∀ x ∈ c.exceptionTable.toList, False) (hst : l.stackTraces = false)  {a0 : Nat} {i1 : Int32} {i2 : Int32} {i3 : Int32} {i4 : Int32} {i5 : Int32} {i6 : Int32} (t0 : Ty g 10 a0)   (y7 : Nat) (M : Mem) (ty7 : Ty g 3 y7) (h : f_X10_shut_b44 a0 i1 i2 i3 i4 i5 i6 y7 M = some z) : V g p l e ({ frames := 8, cells := 4, slots := 24, locals := 40 * 8 } : Room) s m args below meth c 9 3 18 (vx_MQ below (gQx g vI z) (gXx g z) args s 4 24 (gA g)) 44 [(0, .ref (gAd g a0)), (1, .int i1), (2, .int i2), (3, .int i3), (4, .int i4), (5, .int i5), (6, .int i6), (7, .ref (gAd g y7))] [] M := by
  unfold f_X10_shut_b44 at h
  refine v_iconst (v := 0) F dX10_shut_44 (by decide) ?_
  exact w_X10_shut_b45 F hr hlk hxt hst t0 _ _ _ ty7 h
set_option maxHeartbeats 4000000 in
set_option maxRecDepth 100000 in
theorem c_X10_shut {g : gT} (l : Launch) (hst : l.stackTraces = false) (hok : gOK g) {a0 : Nat} {i1 : Int32} {i2 : Int32} {i3 : Int32} {i4 : Int32} {i5 : Int32} {i6 : Int32} {M : Mem} {z : (Int32 ⊕ Nat) × Mem} (t0 : Ty g 10 a0) (h : f_X10_shut M a0 i1 i2 i3 i4 i5 i6 = some z) : Cx g l yX10_shut uX10_shut 8 4 24 [.ref (gAd g a0), .int i1, .int i2, .int i3, .int i4, .int i5, .int i6] M vI z := by
  refine Cx.of (cc := cX10_shut) (maxL := 9) (ret := (some .int)) hok (by decide) rfl (Nat.le_of_ble_eq_true rfl) (fun p e s m args below meth c F hr hlk hxt => ?_)
  unfold f_X10_shut at h
  show V g p l e ({ frames := 8, cells := 4, slots := 24, locals := 40 * 8 } : Room) s m args below meth c 9 0 0 (vx_MQ below (gQx g vI z) (gXx g z) args s 4 24 (gA g)) 0 [(0, .ref (gAd g a0)), (1, .int i1), (2, .int i2), (3, .int i3), (4, .int i4), (5, .int i5), (6, .int i6)] [] M
  refine v_aload_n F dX10_shut_0 rfl 0 rfl ?_
  refine v_iload_n F dX10_shut_1 rfl 1 rfl ?_
  obtain ⟨⟨r1 | j4, M2⟩, hz3, h⟩ := bd_some h
  rotate_left
  · dsimp only at h; cases h; exact v_callVxT (As := [.int i1]) (rest := []) F (c_X10_lawNumbered l hst F.2.2.1 t0 hz3) (cwV 1 F.1.2.2.2.2 (gU_V ml_X10_135 im_yX10_lawNumbered se_yX10_lawNumbered ini_X10 cd_X10_lawNumbered) rfl rfl rfl (by decide +kernel) ⟨Nat.le_of_ble_eq_true rfl, Nat.le_of_ble_eq_true rfl⟩) t0 (by decide) rfl rfl rfl (Nat.le_of_ble_eq_true rfl) dX10_shut_2 ⟨Nat.le_of_ble_eq_true rfl, Nat.le_of_ble_eq_true rfl⟩ (vx_outV hxt hlk (by decide) (by decide))
  dsimp only at h
  refine v_callVxr (As := [.int i1]) (rest := []) F (c_X10_lawNumbered l hst F.2.2.1 t0 hz3) (cwV 1 F.1.2.2.2.2 (gU_V ml_X10_135 im_yX10_lawNumbered se_yX10_lawNumbered ini_X10 cd_X10_lawNumbered) rfl rfl rfl (by decide +kernel) ⟨Nat.le_of_ble_eq_true rfl, Nat.le_of_ble_eq_true rfl⟩) t0 (by decide) rfl rfl rfl (Nat.le_of_ble_eq_true rfl) dX10_shut_2 ⟨Nat.le_of_ble_eq_true rfl, Nat.le_of_ble_eq_true rfl⟩ ?_
  have u5 := ty_X10_lawNumbered F.2.2.1 t0 hz3
  refine v_astore (lv' := [(7, .ref (gAd g r1)), (0, .ref (gAd g a0)), (1, .int i1), (2, .int i2), (3, .int i3), (4, .int i4), (5, .int i5), (6, .int i6)]) F dX10_shut_5 (by decide) rfl ?_
  refine v_iload_n F dX10_shut_7 rfl 3 rfl ?_
  obtain ⟨⟨r6 | j9, M7⟩, hz8, h⟩ := bd_some h
  rotate_left
  · dsimp only at h; cases h; exact v_callSxT (As := [.int i2]) (rest := []) F (c_X10_demandWind l hst F.2.2.1  hz8) (cwS 1 F.1.2.2.2.2 (gU_S ml_X10_139 st_yX10_demandWind ini_X10 cd_X10_demandWind) rfl rfl rfl (by decide +kernel) ⟨Nat.le_of_ble_eq_true rfl, Nat.le_of_ble_eq_true rfl⟩) rfl rfl (Nat.le_of_ble_eq_true rfl) dX10_shut_8 ⟨Nat.le_of_ble_eq_true rfl, Nat.le_of_ble_eq_true rfl⟩ (vx_outV hxt hlk (by decide) (by decide))
  dsimp only at h
  refine v_callSxv (As := [.int i2]) (rest := []) F (c_X10_demandWind l hst F.2.2.1  hz8) (cwS 1 F.1.2.2.2.2 (gU_S ml_X10_139 st_yX10_demandWind ini_X10 cd_X10_demandWind) rfl rfl rfl (by decide +kernel) ⟨Nat.le_of_ble_eq_true rfl, Nat.le_of_ble_eq_true rfl⟩) rfl rfl (Nat.le_of_ble_eq_true rfl) dX10_shut_8 ⟨Nat.le_of_ble_eq_true rfl, Nat.le_of_ble_eq_true rfl⟩ ?_
  refine v_iload_n F dX10_shut_11 rfl 4 rfl ?_
  refine v_iload F dX10_shut_12 5 rfl ?_
  obtain ⟨⟨r10 | j13, M11⟩, hz12, h⟩ := bd_some h
  rotate_left
  · dsimp only at h; cases h; exact v_callSxT (As := [.int i3, .int i4]) (rest := []) F (c_X10_demandShape l hst F.2.2.1  hz12) (cwS 2 F.1.2.2.2.2 (gU_S ml_X10_125 st_yX10_demandShape ini_X10 cd_X10_demandShape) rfl rfl rfl (by decide +kernel) ⟨Nat.le_of_ble_eq_true rfl, Nat.le_of_ble_eq_true rfl⟩) rfl rfl (Nat.le_of_ble_eq_true rfl) dX10_shut_14 ⟨Nat.le_of_ble_eq_true rfl, Nat.le_of_ble_eq_true rfl⟩ (vx_outV hxt hlk (by decide) (by decide))
  dsimp only at h
  refine v_callSxv (As := [.int i3, .int i4]) (rest := []) F (c_X10_demandShape l hst F.2.2.1  hz12) (cwS 2 F.1.2.2.2.2 (gU_S ml_X10_125 st_yX10_demandShape ini_X10 cd_X10_demandShape) rfl rfl rfl (by decide +kernel) ⟨Nat.le_of_ble_eq_true rfl, Nat.le_of_ble_eq_true rfl⟩) rfl rfl (Nat.le_of_ble_eq_true rfl) dX10_shut_14 ⟨Nat.le_of_ble_eq_true rfl, Nat.le_of_ble_eq_true rfl⟩ ?_
  refine v_iload F dX10_shut_17 6 rfl ?_
  refine v_iconst (v := 1) F dX10_shut_19 (by decide) ?_
  refine v_sipush (v := 9999) F dX10_shut_20 (by decide) ?_
  obtain ⟨⟨r14, M15⟩, hz16, h⟩ := bd_some h
  dsimp only at h
  refine v_callSi (As := [.int i5, .int 1, .int 9999]) (rest := []) F (c_X10_within l F.2.2.1  hz16) (cwS 3 F.1.2.2.2.2 (gU_S ml_X10_63 st_yX10_within ini_X10 cd_X10_within) rfl rfl rfl (by decide +kernel) ⟨Nat.le_of_ble_eq_true rfl, Nat.le_of_ble_eq_true rfl⟩) rfl rfl (Nat.le_of_ble_eq_true rfl) dX10_shut_23 ⟨Nat.le_of_ble_eq_true rfl, Nat.le_of_ble_eq_true rfl⟩ ?_
  refine v_if_eq (tgt := 44) F dX10_shut_26 (by decide) (fun hc18 => ?_) (fun hc18 => ?_)
  · rw [if_pos hc18] at h
    refine v_sub (fun ls h9 => lv_sub h9 [1, 2, 3, 4, 5, 6, 7, 0] rfl) ?_
    exact w_X10_shut_b44 F hr hlk hxt hst t0 _ _ u5 h
  · rw [if_neg hc18] at h
    refine v_iload F dX10_shut_29 7 rfl ?_
    refine v_iconst (v := 0) F dX10_shut_31 (by decide) ?_
    refine v_ldc (v := 1000000) F (F.1.2.2.2.2 _ (List.mem_cons_of_mem _ cn_X10_206)) dX10_shut_32 ?_
    obtain ⟨⟨r19, M20⟩, hz21, h⟩ := bd_some h
    dsimp only at h
    refine v_callSi (As := [.int i6, .int 0, .int 1000000]) (rest := []) F (c_X10_within l F.2.2.1  hz21) (cwS 3 F.1.2.2.2.2 (gU_S ml_X10_63 st_yX10_within ini_X10 cd_X10_within) rfl rfl rfl (by decide +kernel) ⟨Nat.le_of_ble_eq_true rfl, Nat.le_of_ble_eq_true rfl⟩) rfl rfl (Nat.le_of_ble_eq_true rfl) dX10_shut_34 ⟨Nat.le_of_ble_eq_true rfl, Nat.le_of_ble_eq_true rfl⟩ ?_
    refine v_if_eq (tgt := 44) F dX10_shut_37 (by decide) (fun hc23 => ?_) (fun hc23 => ?_)
    · rw [if_pos hc23] at h
      refine v_sub (fun ls h9 => lv_sub h9 [1, 2, 3, 4, 5, 6, 7, 0] rfl) ?_
      exact w_X10_shut_b44 F hr hlk hxt hst t0 _ _ u5 h
    · rw [if_neg hc23] at h
      refine v_iconst (v := 1) F dX10_shut_40 (by decide) ?_
      refine v_goto (tgt := 45) F dX10_shut_41 (by decide) ?_
      refine v_sub (fun ls h9 => lv_sub h9 [1, 2, 3, 4, 5, 6, 7, 0] rfl) ?_
      exact w_X10_shut_b45 F hr hlk hxt hst t0 _ _ _ u5 h
def f_X10_image_b31 (a0 : Nat)   (M : Mem) : Option (Int32 × Mem) := some ((-1), M)
def f_X10_image  (M : Mem) (a0 : Nat) : Option (Int32 × Mem) := if (M a0 8) < 0 then (f_X10_image_b31 a0 M) else (if (nI (gN (gRf a0 7))) ≤ (M a0 8) then (f_X10_image_b31 a0 M) else (if ¬ ((M a0 8) < 0 ∨ gN (gRf a0 7) ≤ (M a0 8 : Int32).toNatClampNeg) then ((f_X7_copy M (gRf (gRf a0 7) (M a0 8 : Int32).toNatClampNeg) (gRf a0 6)).bind fun q => match q with | (r8, M9) => (some ((mU M9 a0 8 ((M9 a0 8) + 1)) a0 8, (mU M9 a0 8 ((M9 a0 8) + 1))))) else none))
set_option maxHeartbeats 4000000 in
set_option maxRecDepth 100000 in
theorem w_X10_image_b31 {g : gT} {p : Program} {l : Launch} {e : Env} {s : State} {m : MethodId} {args : Array Value} {below : List Frame} {meth : Method} {c : Code} {z : Int32 × Mem} (F : Fx g p s m args c cX10_image 2 uX10_image RX10) (hr : meth.sig.returnType = (some .int)) (hlk : meth.locks = false)  {a0 : Nat} (t0 : Ty g 10 a0)    (M : Mem)  (h : f_X10_image_b31 a0 M = some z) : V g p l e ({ frames := 3, cells := 0, slots := 0, locals := 40 * 3 } : Room) s m args below meth c 2 0 0 (MQ below (gQ g (some (.int z.1)) z.2) args s 0 0 (gA g)) 31 [(0, .ref (gAd g a0))] [] M := by
  unfold f_X10_image_b31 at h
  refine v_null F dX10_image_31 ?_
  refine v_astore_nN (lv' := [(1, .null), (0, .ref (gAd g a0))]) F dX10_image_32 rfl (by decide) rfl ?_
  refine v_aload_nN F dX10_image_33 rfl 0 rfl ?_
  refine v_ifnonnullN F dX10_image_34 ?_
  refine v_iconst (v := (-1)) F dX10_image_37 (by decide) ?_
  cases h
  exact v_iret F hr rfl hlk dX10_image_38
set_option maxHeartbeats 4000000 in
set_option maxRecDepth 100000 in
theorem c_X10_image {g : gT} (l : Launch) (hok : gOK g)  {a0 : Nat} {M : Mem} {z : Int32 × Mem}  (t0 : Ty g 10 a0) (h : f_X10_image  M a0 = some z) : Cn g l yX10_image uX10_image 3 [.ref (gAd g a0)] M (some (.int z.1)) z.2 := by
  refine Cn.of (cc := cX10_image) (maxL := 2) (ret := (some .int)) hok (by decide) rfl (Nat.le_of_ble_eq_true rfl) (fun p e s m args below meth c F hr hlk => ?_)
  unfold f_X10_image at h
  show V g p l e ({ frames := 3, cells := 0, slots := 0, locals := 40 * 3 } : Room) s m args below meth c 2 0 0 (MQ below (gQ g (some (.int z.1)) z.2) args s 0 0 (gA g)) 0 [(0, .ref (gAd g a0))] [] M
  refine v_aload_n F dX10_image_0 rfl 0 rfl ?_
  refine v_getI (k := 8) F t0 (by decide) (inc inU_10) rfl rfl (by decide) (List.mem_cons_of_mem _ fl_X10_295) rfl dX10_image_1 ?_
  refine v_if_lt (tgt := 31) F dX10_image_4 (by decide) (fun hc1 => ?_) (fun hc1 => ?_)
  · rw [if_pos hc1] at h
    exact w_X10_image_b31 F hr hlk t0 _ h
  · rw [if_neg hc1] at h
    refine v_aload_n F dX10_image_7 rfl 0 rfl ?_
    refine v_getI (k := 8) F t0 (by decide) (inc inU_10) rfl rfl (by decide) (List.mem_cons_of_mem _ fl_X10_295) rfl dX10_image_8 ?_
    refine v_aload_n F dX10_image_11 rfl 0 rfl ?_
    refine v_getR (k := 7) (f := 15) F t0 (by decide) (inc inU_10) rfl rfl (by decide) (by decide) (List.mem_cons_of_mem _ fl_X10_42) rfl dX10_image_12 (fun u2 => ?_)
    refine v_alen (t0 := 3) F u2 (by decide) rfl dX10_image_15 ?_
    refine v_icmp_ge (tgt := 31) F dX10_image_16 (by decide) (fun hc3 => ?_) (fun hc3 => ?_)
    · rw [if_pos hc3] at h
      exact w_X10_image_b31 F hr hlk t0 _ h
    · rw [if_neg hc3] at h
      refine v_aload_n F dX10_image_19 rfl 0 rfl ?_
      refine v_getR (k := 7) (f := 15) F t0 (by decide) (inc inU_10) rfl rfl (by decide) (by decide) (List.mem_cons_of_mem _ fl_X10_42) rfl dX10_image_20 (fun u4 => ?_)
      refine v_aload_n F dX10_image_23 rfl 0 rfl ?_
      refine v_getI (k := 8) F t0 (by decide) (inc inU_10) rfl rfl (by decide) (List.mem_cons_of_mem _ fl_X10_295) rfl dX10_image_24 ?_
      obtain ⟨hin5, h⟩ := gd_some h
      refine v_aald (ke := 7) (t0 := 3) F u4 (by decide) rfl rfl hin5 dX10_image_27 (fun u6 => ?_)
      refine v_goto (tgt := 32) F dX10_image_28 (by decide) ?_
      refine v_astore_n (lv' := [(1, .ref (gAd g (gRf (gRf a0 7) (M a0 8 : Int32).toNatClampNeg))), (0, .ref (gAd g a0))]) F dX10_image_32 rfl (by decide) rfl ?_
      refine v_aload_n F dX10_image_33 rfl 0 rfl ?_
      refine v_ifnonnull (tgt := 39) F dX10_image_34 (by decide) ?_
      refine v_aload_n F dX10_image_39 rfl 0 rfl ?_
      refine v_aload_n F dX10_image_40 rfl 1 rfl ?_
      refine v_getR (k := 6) (f := 7) F t0 (by decide) (inc inU_10) rfl rfl (by decide) (by decide) (List.mem_cons_of_mem _ fl_X10_38) rfl dX10_image_41 (fun u7 => ?_)
      obtain ⟨⟨r8, M9⟩, hz10, h⟩ := bd_some h
      dsimp only at h
      refine v_callVv (As := [.ref (gAd g (gRf a0 6))]) (rest := []) F (c_X7_copy l F.2.2.1 u6 u7 hz10) (cwV 1 F.1.2.2.2.2 (gU_V ml_X10_298 im_yX7_copy se_yX7_copy ini_X7 cd_X7_copy) rfl rfl rfl (by decide +kernel) ⟨Nat.le_of_ble_eq_true rfl, Nat.le_of_ble_eq_true rfl⟩) u6 (by decide) rfl rfl rfl (Nat.le_of_ble_eq_true rfl) dX10_image_44 ⟨Nat.le_of_ble_eq_true rfl, Nat.le_of_ble_eq_true rfl⟩ ?_
      refine v_aload_n F dX10_image_47 rfl 1 rfl ?_
      refine v_dup F dX10_image_48 rfl ?_
      refine v_getI (k := 8) F t0 (by decide) (inc inU_10) rfl rfl (by decide) (List.mem_cons_of_mem _ fl_X10_295) rfl dX10_image_49 ?_
      refine v_iconst (v := 1) F dX10_image_52 (by decide) ?_
      refine v_iadd F dX10_image_53 ?_
      refine v_put (k := 8) (ty := .int) F t0 (by decide) (inc inU_10) tyX10 tyX10_ok nmX10 rfl rfl (by decide) (List.mem_cons_of_mem _ fl_X10_295) rfl rfl (by decide +kernel) rfl rfl dX10_image_54 ?_
      refine v_aload_n F dX10_image_57 rfl 1 rfl ?_
      refine v_getI (k := 8) F t0 (by decide) (inc inU_10) rfl rfl (by decide) (List.mem_cons_of_mem _ fl_X10_295) rfl dX10_image_58 ?_
      cases h
      exact v_iret F hr rfl hlk dX10_image_61
def f_X10_restore_b33 (a0 : Nat)   (M : Mem) : Option (Int32 × Mem) := some ((-1), M)
def f_X10_restore  (M : Mem) (a0 : Nat) : Option (Int32 × Mem) := if (M a0 8) ≤ 0 then (f_X10_restore_b33 a0 M) else (if (nI (gN (gRf a0 7))) < (M a0 8) then (f_X10_restore_b33 a0 M) else (if ¬ (((M a0 8) - 1) < 0 ∨ gN (gRf a0 7) ≤ ((M a0 8) - 1 : Int32).toNatClampNeg) then ((f_X7_copy M (gRf a0 6) (gRf (gRf a0 7) ((M a0 8) - 1 : Int32).toNatClampNeg)).bind fun q => match q with | (r8, M9) => (some ((mU M9 a0 8 ((M9 a0 8) - 1)) a0 8, (mU M9 a0 8 ((M9 a0 8) - 1))))) else none))
set_option maxHeartbeats 4000000 in
set_option maxRecDepth 100000 in
theorem w_X10_restore_b33 {g : gT} {p : Program} {l : Launch} {e : Env} {s : State} {m : MethodId} {args : Array Value} {below : List Frame} {meth : Method} {c : Code} {z : Int32 × Mem} (F : Fx g p s m args c cX10_restore 2 uX10_restore RX10) (hr : meth.sig.returnType = (some .int)) (hlk : meth.locks = false)  {a0 : Nat} (t0 : Ty g 10 a0)    (M : Mem)  (h : f_X10_restore_b33 a0 M = some z) : V g p l e ({ frames := 3, cells := 0, slots := 0, locals := 40 * 3 } : Room) s m args below meth c 2 0 0 (MQ below (gQ g (some (.int z.1)) z.2) args s 0 0 (gA g)) 33 [(0, .ref (gAd g a0))] [] M := by
  unfold f_X10_restore_b33 at h
  refine v_null F dX10_restore_33 ?_
  refine v_astore_nN (lv' := [(1, .null), (0, .ref (gAd g a0))]) F dX10_restore_34 rfl (by decide) rfl ?_
  refine v_aload_nN F dX10_restore_35 rfl 0 rfl ?_
  refine v_ifnonnullN F dX10_restore_36 ?_
  refine v_iconst (v := (-1)) F dX10_restore_39 (by decide) ?_
  cases h
  exact v_iret F hr rfl hlk dX10_restore_40
set_option maxHeartbeats 4000000 in
set_option maxRecDepth 100000 in
theorem c_X10_restore {g : gT} (l : Launch) (hok : gOK g)  {a0 : Nat} {M : Mem} {z : Int32 × Mem}  (t0 : Ty g 10 a0) (h : f_X10_restore  M a0 = some z) : Cn g l yX10_restore uX10_restore 3 [.ref (gAd g a0)] M (some (.int z.1)) z.2 := by
  refine Cn.of (cc := cX10_restore) (maxL := 2) (ret := (some .int)) hok (by decide) rfl (Nat.le_of_ble_eq_true rfl) (fun p e s m args below meth c F hr hlk => ?_)
  unfold f_X10_restore at h
  show V g p l e ({ frames := 3, cells := 0, slots := 0, locals := 40 * 3 } : Room) s m args below meth c 2 0 0 (MQ below (gQ g (some (.int z.1)) z.2) args s 0 0 (gA g)) 0 [(0, .ref (gAd g a0))] [] M
  refine v_aload_n F dX10_restore_0 rfl 0 rfl ?_
  refine v_getI (k := 8) F t0 (by decide) (inc inU_10) rfl rfl (by decide) (List.mem_cons_of_mem _ fl_X10_295) rfl dX10_restore_1 ?_
  refine v_if_le (tgt := 33) F dX10_restore_4 (by decide) (fun hc1 => ?_) (fun hc1 => ?_)
  · rw [if_pos hc1] at h
    exact w_X10_restore_b33 F hr hlk t0 _ h
  · rw [if_neg hc1] at h
    refine v_aload_n F dX10_restore_7 rfl 0 rfl ?_
    refine v_getI (k := 8) F t0 (by decide) (inc inU_10) rfl rfl (by decide) (List.mem_cons_of_mem _ fl_X10_295) rfl dX10_restore_8 ?_
    refine v_aload_n F dX10_restore_11 rfl 0 rfl ?_
    refine v_getR (k := 7) (f := 15) F t0 (by decide) (inc inU_10) rfl rfl (by decide) (by decide) (List.mem_cons_of_mem _ fl_X10_42) rfl dX10_restore_12 (fun u2 => ?_)
    refine v_alen (t0 := 3) F u2 (by decide) rfl dX10_restore_15 ?_
    refine v_icmp_gt (tgt := 33) F dX10_restore_16 (by decide) (fun hc3 => ?_) (fun hc3 => ?_)
    · rw [if_pos hc3] at h
      exact w_X10_restore_b33 F hr hlk t0 _ h
    · rw [if_neg hc3] at h
      refine v_aload_n F dX10_restore_19 rfl 0 rfl ?_
      refine v_getR (k := 7) (f := 15) F t0 (by decide) (inc inU_10) rfl rfl (by decide) (by decide) (List.mem_cons_of_mem _ fl_X10_42) rfl dX10_restore_20 (fun u4 => ?_)
      refine v_aload_n F dX10_restore_23 rfl 0 rfl ?_
      refine v_getI (k := 8) F t0 (by decide) (inc inU_10) rfl rfl (by decide) (List.mem_cons_of_mem _ fl_X10_295) rfl dX10_restore_24 ?_
      refine v_iconst (v := 1) F dX10_restore_27 (by decide) ?_
      refine v_isub F dX10_restore_28 ?_
      obtain ⟨hin5, h⟩ := gd_some h
      refine v_aald (ke := 7) (t0 := 3) F u4 (by decide) rfl rfl hin5 dX10_restore_29 (fun u6 => ?_)
      refine v_goto (tgt := 34) F dX10_restore_30 (by decide) ?_
      refine v_astore_n (lv' := [(1, .ref (gAd g (gRf (gRf a0 7) ((M a0 8) - 1 : Int32).toNatClampNeg))), (0, .ref (gAd g a0))]) F dX10_restore_34 rfl (by decide) rfl ?_
      refine v_aload_n F dX10_restore_35 rfl 0 rfl ?_
      refine v_ifnonnull (tgt := 41) F dX10_restore_36 (by decide) ?_
      refine v_aload_n F dX10_restore_41 rfl 1 rfl ?_
      refine v_getR (k := 6) (f := 7) F t0 (by decide) (inc inU_10) rfl rfl (by decide) (by decide) (List.mem_cons_of_mem _ fl_X10_38) rfl dX10_restore_42 (fun u7 => ?_)
      refine v_aload_n F dX10_restore_45 rfl 0 rfl ?_
      obtain ⟨⟨r8, M9⟩, hz10, h⟩ := bd_some h
      dsimp only at h
      refine v_callVv (As := [.ref (gAd g (gRf (gRf a0 7) ((M a0 8) - 1 : Int32).toNatClampNeg))]) (rest := []) F (c_X7_copy l F.2.2.1 u7 u6 hz10) (cwV 1 F.1.2.2.2.2 (gU_V ml_X10_298 im_yX7_copy se_yX7_copy ini_X7 cd_X7_copy) rfl rfl rfl (by decide +kernel) ⟨Nat.le_of_ble_eq_true rfl, Nat.le_of_ble_eq_true rfl⟩) u7 (by decide) rfl rfl rfl (Nat.le_of_ble_eq_true rfl) dX10_restore_46 ⟨Nat.le_of_ble_eq_true rfl, Nat.le_of_ble_eq_true rfl⟩ ?_
      refine v_aload_n F dX10_restore_49 rfl 1 rfl ?_
      refine v_dup F dX10_restore_50 rfl ?_
      refine v_getI (k := 8) F t0 (by decide) (inc inU_10) rfl rfl (by decide) (List.mem_cons_of_mem _ fl_X10_295) rfl dX10_restore_51 ?_
      refine v_iconst (v := 1) F dX10_restore_54 (by decide) ?_
      refine v_isub F dX10_restore_55 ?_
      refine v_put (k := 8) (ty := .int) F t0 (by decide) (inc inU_10) tyX10 tyX10_ok nmX10 rfl rfl (by decide) (List.mem_cons_of_mem _ fl_X10_295) rfl rfl (by decide +kernel) rfl rfl dX10_restore_56 ?_
      refine v_aload_n F dX10_restore_59 rfl 1 rfl ?_
      refine v_getI (k := 8) F t0 (by decide) (inc inU_10) rfl rfl (by decide) (List.mem_cons_of_mem _ fl_X10_295) rfl dX10_restore_60 ?_
      cases h
      exact v_iret F hr rfl hlk dX10_restore_63
