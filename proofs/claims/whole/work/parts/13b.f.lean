def f_X10_law_b53 (a0 : Nat) (i1 : Int32)   (M : Mem) : Option ((Int32 ⊕ Nat) × Mem) := some (.inl (-1), M)
def f_X10_law  (M : Mem) (a0 : Nat) (i1 : Int32) : Option ((Int32 ⊕ Nat) × Mem) := (f_X10_within M i1 0 (M a0 1)).bind fun q => match q with | (r1, M2) => ((f_X10_demand M2 r1).bind fun q => match q with | (.inr j8, M6) => some (.inr j8, M6) | (.inl r5, M6) => (if ((mU (mU M6 a0 1 0) a0 5 (-1)) a0 4) < 0 then (f_X10_law_b53 a0 i1 (mU (mU M6 a0 1 0) a0 5 (-1))) else (if (nI (gN (gRf a0 3))) ≤ ((mU (mU M6 a0 1 0) a0 5 (-1)) a0 4) then (f_X10_law_b53 a0 i1 (mU (mU M6 a0 1 0) a0 5 (-1))) else (if ¬ (((mU (mU M6 a0 1 0) a0 5 (-1)) a0 4) < 0 ∨ gN (gRf a0 3) ≤ ((mU (mU M6 a0 1 0) a0 5 (-1)) a0 4 : Int32).toNatClampNeg) then ((f_X6_read (mU (mU M6 a0 1 0) a0 5 (-1)) (gRf a0 2) (gRf a0 0) i1).bind fun q => match q with | (r17, M18) => (if (M18 (gRf a0 2) 2) = 0 then ((f_X3_take M18 (gRf (gRf a0 3) ((mU (mU M6 a0 1 0) a0 5 (-1)) a0 4 : Int32).toNatClampNeg) (gRf (gRf a0 2) 0) (M18 (gRf a0 2) 1)).bind fun q => match q with | (r26, M27) => (some (.inl (((mU M27 a0 4 ((M27 a0 4) + 1)) a0 4) - 1), (mU M27 a0 4 ((M27 a0 4) + 1))))) else (some (.inl (((mU M18 a0 5 (M18 (gRf a0 2) 3)) (gRf a0 2) 2) - 10), (mU M18 a0 5 (M18 (gRf a0 2) 3)))))) else none))))
set_option maxHeartbeats 4000000 in
set_option maxRecDepth 100000 in
theorem w_X10_law_b53 {g : gT} {p : Program} {l : Launch} {e : Env} {s : State} {m : MethodId} {args : Array Value} {below : List Frame} {meth : Method} {c : Code} {z : (Int32 ⊕ Nat) × Mem} (F : Fx g p s m args c cX10_law 3 uX10_law RX10) (hr : meth.sig.returnType = (some .int)) (hlk : meth.locks = false) (hxt : ∀ x ∈ c.exceptionTable.toList, False) (hst : l.stackTraces = false)  {a0 : Nat} {i1 : Int32} (t0 : Ty g 10 a0)    (M : Mem)  (h : f_X10_law_b53 a0 i1 M = some z) : V g p l e ({ frames := 87, cells := 1, slots := 6, locals := 40 * 87 } : Room) s m args below meth c 3 1 6 (vx_MQ below (gQx g vI z) (gXx g z) args s 1 6 (gA g)) 53 [(0, .ref (gAd g a0)), (1, .int i1)] [] M := by
  unfold f_X10_law_b53 at h
  refine v_null F dX10_law_53 ?_
  refine v_astore_nN (lv' := [(2, .null), (0, .ref (gAd g a0)), (1, .int i1)]) F dX10_law_54 rfl (by decide) rfl ?_
  refine v_aload_nN F dX10_law_55 rfl 0 rfl ?_
  refine v_ifnonnullN F dX10_law_56 ?_
  refine v_iconst (v := (-1)) F dX10_law_59 (by decide) ?_
  cases h
  refine v_iretX F hr rfl hlk dX10_law_60 ?_ ?_ <;> decide
set_option maxHeartbeats 4000000 in
set_option maxRecDepth 100000 in
theorem c_X10_law {g : gT} (l : Launch) (hst : l.stackTraces = false) (hok : gOK g) {a0 : Nat} {i1 : Int32} {M : Mem} {z : (Int32 ⊕ Nat) × Mem} (t0 : Ty g 10 a0) (h : f_X10_law M a0 i1 = some z) : Cx g l yX10_law uX10_law 87 1 6 [.ref (gAd g a0), .int i1] M vI z := by
  refine Cx.of (cc := cX10_law) (maxL := 3) (ret := (some .int)) hok (by decide) rfl (Nat.le_of_ble_eq_true rfl) (fun p e s m args below meth c F hr hlk hxt => ?_)
  unfold f_X10_law at h
  show V g p l e ({ frames := 87, cells := 1, slots := 6, locals := 40 * 87 } : Room) s m args below meth c 3 0 0 (vx_MQ below (gQx g vI z) (gXx g z) args s 1 6 (gA g)) 0 [(0, .ref (gAd g a0)), (1, .int i1)] [] M
  refine v_iload_n F dX10_law_0 rfl 1 rfl ?_
  refine v_iconst (v := 0) F dX10_law_1 (by decide) ?_
  refine v_aload_n F dX10_law_2 rfl 0 rfl ?_
  refine v_getI (k := 1) F t0 (by decide) (inc inU_10) rfl rfl (by decide) (List.mem_cons_of_mem _ fl_X10_57) rfl dX10_law_3 ?_
  obtain ⟨⟨r1, M2⟩, hz3, h⟩ := bd_some h
  dsimp only at h
  refine v_callSi (As := [.int i1, .int 0, .int (M a0 1)]) (rest := []) F (c_X10_within l F.2.2.1  hz3) (cwS 3 F.1.2.2.2.2 (gU_S ml_X10_63 st_yX10_within ini_X10 cd_X10_within) rfl rfl rfl (by decide +kernel) ⟨Nat.le_of_ble_eq_true rfl, Nat.le_of_ble_eq_true rfl⟩) rfl rfl (Nat.le_of_ble_eq_true rfl) dX10_law_6 ⟨Nat.le_of_ble_eq_true rfl, Nat.le_of_ble_eq_true rfl⟩ ?_
  obtain ⟨⟨r5 | j8, M6⟩, hz7, h⟩ := bd_some h
  rotate_left
  · dsimp only at h; cases h; exact v_callSxT (As := [.int r1]) (rest := []) F (c_X10_demand l hst F.2.2.1  hz7) (cwS 1 F.1.2.2.2.2 (gU_S ml_X10_67 st_yX10_demand ini_X10 cd_X10_demand) rfl rfl rfl (by decide +kernel) ⟨Nat.le_of_ble_eq_true rfl, Nat.le_of_ble_eq_true rfl⟩) rfl rfl (Nat.le_of_ble_eq_true rfl) dX10_law_9 ⟨Nat.le_of_ble_eq_true rfl, Nat.le_of_ble_eq_true rfl⟩ (vx_outV hxt hlk (by decide) (by decide))
  dsimp only at h
  refine v_callSxv (As := [.int r1]) (rest := []) F (c_X10_demand l hst F.2.2.1  hz7) (cwS 1 F.1.2.2.2.2 (gU_S ml_X10_67 st_yX10_demand ini_X10 cd_X10_demand) rfl rfl rfl (by decide +kernel) ⟨Nat.le_of_ble_eq_true rfl, Nat.le_of_ble_eq_true rfl⟩) rfl rfl (Nat.le_of_ble_eq_true rfl) dX10_law_9 ⟨Nat.le_of_ble_eq_true rfl, Nat.le_of_ble_eq_true rfl⟩ ?_
  refine v_aload_n F dX10_law_12 rfl 0 rfl ?_
  refine v_iconst (v := 0) F dX10_law_13 (by decide) ?_
  refine v_put (k := 1) (ty := .int) F t0 (by decide) (inc inU_10) tyX10 tyX10_ok nmX10 rfl rfl (by decide) (List.mem_cons_of_mem _ fl_X10_57) rfl rfl (by decide +kernel) rfl rfl dX10_law_14 ?_
  refine v_aload_n F dX10_law_17 rfl 0 rfl ?_
  refine v_iconst (v := (-1)) F dX10_law_18 (by decide) ?_
  refine v_put (k := 5) (ty := .int) F t0 (by decide) (inc inU_10) tyX10 tyX10_ok nmX10 rfl rfl (by decide) (List.mem_cons_of_mem _ fl_X10_31) rfl rfl (by decide +kernel) rfl rfl dX10_law_19 ?_
  refine v_aload_n F dX10_law_22 rfl 0 rfl ?_
  refine v_getI (k := 4) F t0 (by decide) (inc inU_10) rfl rfl (by decide) (List.mem_cons_of_mem _ fl_X10_71) rfl dX10_law_23 ?_
  refine v_if_lt (tgt := 53) F dX10_law_26 (by decide) (fun hc9 => ?_) (fun hc9 => ?_)
  · rw [if_pos hc9] at h
    exact w_X10_law_b53 F hr hlk hxt hst t0 _ h
  · rw [if_neg hc9] at h
    refine v_aload_n F dX10_law_29 rfl 0 rfl ?_
    refine v_getI (k := 4) F t0 (by decide) (inc inU_10) rfl rfl (by decide) (List.mem_cons_of_mem _ fl_X10_71) rfl dX10_law_30 ?_
    refine v_aload_n F dX10_law_33 rfl 0 rfl ?_
    refine v_getR (k := 3) (f := 14) F t0 (by decide) (inc inU_10) rfl rfl (by decide) (by decide) (List.mem_cons_of_mem _ fl_X10_27) rfl dX10_law_34 (fun u10 => ?_)
    refine v_alen (t0 := 2) F u10 (by decide) rfl dX10_law_37 ?_
    refine v_icmp_ge (tgt := 53) F dX10_law_38 (by decide) (fun hc11 => ?_) (fun hc11 => ?_)
    · rw [if_pos hc11] at h
      exact w_X10_law_b53 F hr hlk hxt hst t0 _ h
    · rw [if_neg hc11] at h
      refine v_aload_n F dX10_law_41 rfl 0 rfl ?_
      refine v_getR (k := 3) (f := 14) F t0 (by decide) (inc inU_10) rfl rfl (by decide) (by decide) (List.mem_cons_of_mem _ fl_X10_27) rfl dX10_law_42 (fun u12 => ?_)
      refine v_aload_n F dX10_law_45 rfl 0 rfl ?_
      refine v_getI (k := 4) F t0 (by decide) (inc inU_10) rfl rfl (by decide) (List.mem_cons_of_mem _ fl_X10_71) rfl dX10_law_46 ?_
      obtain ⟨hin13, h⟩ := gd_some h
      refine v_aald (ke := 3) (t0 := 2) F u12 (by decide) rfl rfl hin13 dX10_law_49 (fun u14 => ?_)
      refine v_goto (tgt := 54) F dX10_law_50 (by decide) ?_
      refine v_astore_n (lv' := [(2, .ref (gAd g (gRf (gRf a0 3) ((mU (mU M6 a0 1 0) a0 5 (-1)) a0 4 : Int32).toNatClampNeg))), (0, .ref (gAd g a0)), (1, .int i1)]) F dX10_law_54 rfl (by decide) rfl ?_
      refine v_aload_n F dX10_law_55 rfl 0 rfl ?_
      refine v_ifnonnull (tgt := 61) F dX10_law_56 (by decide) ?_
      refine v_aload_n F dX10_law_61 rfl 1 rfl ?_
      refine v_getR (k := 2) (f := 6) F t0 (by decide) (inc inU_10) rfl rfl (by decide) (by decide) (List.mem_cons_of_mem _ fl_X10_21) rfl dX10_law_62 (fun u15 => ?_)
      refine v_aload_n F dX10_law_65 rfl 1 rfl ?_
      refine v_getR (k := 0) (f := 8) F t0 (by decide) (inc inU_10) rfl rfl (by decide) (by decide) (List.mem_cons_of_mem _ fl_X10_14) rfl dX10_law_66 (fun u16 => ?_)
      refine v_iload_n F dX10_law_69 rfl 2 rfl ?_
      obtain ⟨⟨r17, M18⟩, hz19, h⟩ := bd_some h
      dsimp only at h
      refine v_callVv (As := [.ref (gAd g (gRf a0 0)), .int i1]) (rest := []) F (c_X6_read l F.2.2.1 u15 u16 hz19) (cwV 2 F.1.2.2.2.2 (gU_V ml_X10_74 im_yX6_read se_yX6_read ini_X6 cd_X6_read) rfl rfl rfl (by decide +kernel) ⟨Nat.le_of_ble_eq_true rfl, Nat.le_of_ble_eq_true rfl⟩) u15 (by decide) rfl rfl rfl (Nat.le_of_ble_eq_true rfl) dX10_law_70 ⟨Nat.le_of_ble_eq_true rfl, Nat.le_of_ble_eq_true rfl⟩ ?_
      refine v_aload_n F dX10_law_73 rfl 1 rfl ?_
      refine v_getR (k := 2) (f := 6) F t0 (by decide) (inc inU_10) rfl rfl (by decide) (by decide) (List.mem_cons_of_mem _ fl_X10_21) rfl dX10_law_74 (fun u21 => ?_)
      refine v_getI (k := 2) F u21 (by decide) (inc inU_6) rfl rfl (by decide) (List.mem_cons_of_mem _ fl_X10_78) rfl dX10_law_77 ?_
      refine v_if_eq (tgt := 105) F dX10_law_80 (by decide) (fun hc22 => ?_) (fun hc22 => ?_)
      · rw [if_pos hc22] at h
        refine v_aload_n F dX10_law_105 rfl 0 rfl ?_
        refine v_aload_n F dX10_law_106 rfl 1 rfl ?_
        refine v_getR (k := 2) (f := 6) F t0 (by decide) (inc inU_10) rfl rfl (by decide) (by decide) (List.mem_cons_of_mem _ fl_X10_21) rfl dX10_law_107 (fun u23 => ?_)
        refine v_getR (k := 0) (f := 8) F u23 (by decide) (inc inU_6) rfl rfl (by decide) (by decide) (List.mem_cons_of_mem _ fl_X10_84) rfl dX10_law_110 (fun u24 => ?_)
        refine v_aload_n F dX10_law_113 rfl 1 rfl ?_
        refine v_getR (k := 2) (f := 6) F t0 (by decide) (inc inU_10) rfl rfl (by decide) (by decide) (List.mem_cons_of_mem _ fl_X10_21) rfl dX10_law_114 (fun u25 => ?_)
        refine v_getI (k := 1) F u25 (by decide) (inc inU_6) rfl rfl (by decide) (List.mem_cons_of_mem _ fl_X10_87) rfl dX10_law_117 ?_
        obtain ⟨⟨r26, M27⟩, hz28, h⟩ := bd_some h
        dsimp only at h
        refine v_callVv (As := [.ref (gAd g (gRf (gRf a0 2) 0)), .int (M18 (gRf a0 2) 1)]) (rest := []) F (c_X3_take l F.2.2.1 u14 u24 hz28) (cwV 2 F.1.2.2.2.2 (gU_V ml_X10_90 im_yX3_take se_yX3_take ini_X3 cd_X3_take) rfl rfl rfl (by decide +kernel) ⟨Nat.le_of_ble_eq_true rfl, Nat.le_of_ble_eq_true rfl⟩) u14 (by decide) rfl rfl rfl (Nat.le_of_ble_eq_true rfl) dX10_law_120 ⟨Nat.le_of_ble_eq_true rfl, Nat.le_of_ble_eq_true rfl⟩ ?_
        refine v_aload_n F dX10_law_123 rfl 1 rfl ?_
        refine v_dup F dX10_law_124 rfl ?_
        refine v_getI (k := 4) F t0 (by decide) (inc inU_10) rfl rfl (by decide) (List.mem_cons_of_mem _ fl_X10_71) rfl dX10_law_125 ?_
        refine v_iconst (v := 1) F dX10_law_128 (by decide) ?_
        refine v_iadd F dX10_law_129 ?_
        refine v_put (k := 4) (ty := .int) F t0 (by decide) (inc inU_10) tyX10 tyX10_ok nmX10 rfl rfl (by decide) (List.mem_cons_of_mem _ fl_X10_71) rfl rfl (by decide +kernel) rfl rfl dX10_law_130 ?_
        refine v_aload_n F dX10_law_133 rfl 1 rfl ?_
        refine v_getI (k := 4) F t0 (by decide) (inc inU_10) rfl rfl (by decide) (List.mem_cons_of_mem _ fl_X10_71) rfl dX10_law_134 ?_
        refine v_iconst (v := 1) F dX10_law_137 (by decide) ?_
        refine v_isub F dX10_law_138 ?_
        cases h
        refine v_iretX F hr rfl hlk dX10_law_139 ?_ ?_ <;> decide
      · rw [if_neg hc22] at h
        refine v_aload_n F dX10_law_83 rfl 1 rfl ?_
        refine v_aload_n F dX10_law_84 rfl 1 rfl ?_
        refine v_getR (k := 2) (f := 6) F t0 (by decide) (inc inU_10) rfl rfl (by decide) (by decide) (List.mem_cons_of_mem _ fl_X10_21) rfl dX10_law_85 (fun u30 => ?_)
        refine v_getI (k := 3) F u30 (by decide) (inc inU_6) rfl rfl (by decide) (List.mem_cons_of_mem _ fl_X10_81) rfl dX10_law_88 ?_
        refine v_put (k := 5) (ty := .int) F t0 (by decide) (inc inU_10) tyX10 tyX10_ok nmX10 rfl rfl (by decide) (List.mem_cons_of_mem _ fl_X10_31) rfl rfl (by decide +kernel) rfl rfl dX10_law_91 ?_
        refine v_aload_n F dX10_law_94 rfl 1 rfl ?_
        refine v_getR (k := 2) (f := 6) F t0 (by decide) (inc inU_10) rfl rfl (by decide) (by decide) (List.mem_cons_of_mem _ fl_X10_21) rfl dX10_law_95 (fun u31 => ?_)
        refine v_getI (k := 2) F u31 (by decide) (inc inU_6) rfl rfl (by decide) (List.mem_cons_of_mem _ fl_X10_78) rfl dX10_law_98 ?_
        refine v_bipush (v := 10) F dX10_law_101 (by decide) ?_
        refine v_isub F dX10_law_103 ?_
        cases h
        refine v_iretX F hr rfl hlk dX10_law_104 ?_ ?_ <;> decide
