def f_X10_count  (M : Mem) (a0 : Nat) (i1 : Int32) : Option (Int32 × Mem) := (f_X10_within M i1 20 29).bind fun q => match q with | (r1, M2) => (if r1 = 0 then (if i1 = 0 then (some (M2 (gRf (gRf a0 6) 0) 0, M2)) else (if i1 = 1 then (some (M2 a0 4, M2)) else (if i1 = 2 then (some (M2 (gRf (gRf a0 6) 0) 1, M2)) else (if i1 = 3 then (some (M2 (gRf (gRf a0 6) 1) 0, M2)) else (if i1 = 4 then (some (M2 (gRf (gRf a0 6) 2) 0, M2)) else (if i1 = 5 then (some (M2 (gRf (gRf a0 6) 3) 0, M2)) else (if i1 = 6 then (some (M2 (gRf (gRf a0 6) 4) 0, M2)) else (if i1 = 7 then (some (M2 a0 8, M2)) else (if i1 = 8 then (some (M2 a0 1, M2)) else (if i1 = 9 then ((f_X1_broken M2 (gRf (gRf a0 6) 0) 0).bind fun q => match q with | (r30, M31) => (some (r30, M31))) else (if i1 = 10 then ((f_X1_broken M2 (gRf (gRf a0 6) 0) 1).bind fun q => match q with | (r37, M38) => (some (r37, M38))) else (some ((-1), M2))))))))))))) else ((f_X8_at M2 (gRf (gRf (gRf a0 6) 0) 2) (i1 - 20)).bind fun q => match q with | (r44, M45) => (some (r44, M45))))
set_option maxHeartbeats 4000000 in
set_option maxRecDepth 100000 in
theorem c_X10_count {g : gT} (l : Launch) (hok : gOK g)  {a0 : Nat} {i1 : Int32} {M : Mem} {z : Int32 × Mem}  (t0 : Ty g 10 a0) (h : f_X10_count  M a0 i1 = some z) : Cn g l yX10_count uX10_count 3 [.ref (gAd g a0), .int i1] M (some (.int z.1)) z.2 := by
  refine Cn.of (cc := cX10_count) (maxL := 2) (ret := (some .int)) hok (by decide) rfl (Nat.le_of_ble_eq_true rfl) (fun p e s m args below meth c F hr hlk => ?_)
  unfold f_X10_count at h
  show V g p l e ({ frames := 3, cells := 0, slots := 0, locals := 40 * 3 } : Room) s m args below meth c 2 0 0 (MQ below (gQ g (some (.int z.1)) z.2) args s 0 0 (gA g)) 0 [(0, .ref (gAd g a0)), (1, .int i1)] [] M
  refine v_iload_n F dX10_count_0 rfl 1 rfl ?_
  refine v_bipush (v := 20) F dX10_count_1 (by decide) ?_
  refine v_bipush (v := 29) F dX10_count_3 (by decide) ?_
  obtain ⟨⟨r1, M2⟩, hz3, h⟩ := bd_some h
  dsimp only at h
  refine v_callSi (As := [.int i1, .int 20, .int 29]) (rest := []) F (c_X10_within l F.2.2.1  hz3) (cwS 3 F.1.2.2.2.2 (gU_S ml_X10_63 st_yX10_within ini_X10 cd_X10_within) rfl rfl rfl (by decide +kernel) ⟨Nat.le_of_ble_eq_true rfl, Nat.le_of_ble_eq_true rfl⟩) rfl rfl (Nat.le_of_ble_eq_true rfl) dX10_count_5 ⟨Nat.le_of_ble_eq_true rfl, Nat.le_of_ble_eq_true rfl⟩ ?_
  refine v_if_eq (tgt := 29) F dX10_count_8 (by decide) (fun hc5 => ?_) (fun hc5 => ?_)
  · rw [if_pos hc5] at h
    refine v_iload_n F dX10_count_29 rfl 1 rfl ?_
    by_cases hs6 : i1 = 0
    · rw [if_pos hs6] at h
      rw [show (Value.int i1) = Value.int 0 from congrArg Value.int hs6]
      refine v_tableIn (tgt := 88) F dX10_count_30 (by decide) (by decide) rfl (by decide) ?_
      refine v_aload_n F dX10_count_88 rfl 0 rfl ?_
      refine v_getR (k := 6) (f := 7) F t0 (by decide) (inc inU_10) rfl rfl (by decide) (by decide) (List.mem_cons_of_mem _ fl_X10_38) rfl dX10_count_89 (fun u7 => ?_)
      refine v_getR (k := 0) (f := 1) F u7 (by decide) (inc inU_7) rfl rfl (by decide) (by decide) (List.mem_cons_of_mem _ fl_X10_93) rfl dX10_count_92 (fun u8 => ?_)
      refine v_getI (k := 0) F u8 (by decide) (inc inU_1) rfl rfl (by decide) (List.mem_cons_of_mem _ fl_X10_96) rfl dX10_count_95 ?_
      cases h
      exact v_iret F hr rfl hlk dX10_count_98
    rw [if_neg hs6] at h
    by_cases hs9 : i1 = 1
    · rw [if_pos hs9] at h
      rw [show (Value.int i1) = Value.int 1 from congrArg Value.int hs9]
      refine v_tableIn (tgt := 99) F dX10_count_30 (by decide) (by decide) rfl (by decide) ?_
      refine v_aload_n F dX10_count_99 rfl 0 rfl ?_
      refine v_getI (k := 4) F t0 (by decide) (inc inU_10) rfl rfl (by decide) (List.mem_cons_of_mem _ fl_X10_71) rfl dX10_count_100 ?_
      cases h
      exact v_iret F hr rfl hlk dX10_count_103
    rw [if_neg hs9] at h
    by_cases hs10 : i1 = 2
    · rw [if_pos hs10] at h
      rw [show (Value.int i1) = Value.int 2 from congrArg Value.int hs10]
      refine v_tableIn (tgt := 104) F dX10_count_30 (by decide) (by decide) rfl (by decide) ?_
      refine v_aload_n F dX10_count_104 rfl 0 rfl ?_
      refine v_getR (k := 6) (f := 7) F t0 (by decide) (inc inU_10) rfl rfl (by decide) (by decide) (List.mem_cons_of_mem _ fl_X10_38) rfl dX10_count_105 (fun u11 => ?_)
      refine v_getR (k := 0) (f := 1) F u11 (by decide) (inc inU_7) rfl rfl (by decide) (by decide) (List.mem_cons_of_mem _ fl_X10_93) rfl dX10_count_108 (fun u12 => ?_)
      refine v_getI (k := 1) F u12 (by decide) (inc inU_1) rfl rfl (by decide) (List.mem_cons_of_mem _ fl_X10_301) rfl dX10_count_111 ?_
      cases h
      exact v_iret F hr rfl hlk dX10_count_114
    rw [if_neg hs10] at h
    by_cases hs13 : i1 = 3
    · rw [if_pos hs13] at h
      rw [show (Value.int i1) = Value.int 3 from congrArg Value.int hs13]
      refine v_tableIn (tgt := 115) F dX10_count_30 (by decide) (by decide) rfl (by decide) ?_
      refine v_aload_n F dX10_count_115 rfl 0 rfl ?_
      refine v_getR (k := 6) (f := 7) F t0 (by decide) (inc inU_10) rfl rfl (by decide) (by decide) (List.mem_cons_of_mem _ fl_X10_38) rfl dX10_count_116 (fun u14 => ?_)
      refine v_getR (k := 1) (f := 2) F u14 (by decide) (inc inU_7) rfl rfl (by decide) (by decide) (List.mem_cons_of_mem _ fl_X10_207) rfl dX10_count_119 (fun u15 => ?_)
      refine v_getI (k := 0) F u15 (by decide) (inc inU_2) rfl rfl (by decide) (List.mem_cons_of_mem _ fl_X10_304) rfl dX10_count_122 ?_
      cases h
      exact v_iret F hr rfl hlk dX10_count_125
    rw [if_neg hs13] at h
    by_cases hs16 : i1 = 4
    · rw [if_pos hs16] at h
      rw [show (Value.int i1) = Value.int 4 from congrArg Value.int hs16]
      refine v_tableIn (tgt := 126) F dX10_count_30 (by decide) (by decide) rfl (by decide) ?_
      refine v_aload_n F dX10_count_126 rfl 0 rfl ?_
      refine v_getR (k := 6) (f := 7) F t0 (by decide) (inc inU_10) rfl rfl (by decide) (by decide) (List.mem_cons_of_mem _ fl_X10_38) rfl dX10_count_127 (fun u17 => ?_)
      refine v_getR (k := 2) (f := 4) F u17 (by decide) (inc inU_7) rfl rfl (by decide) (by decide) (List.mem_cons_of_mem _ fl_X10_226) rfl dX10_count_130 (fun u18 => ?_)
      refine v_getI (k := 0) F u18 (by decide) (inc inU_4) rfl rfl (by decide) (List.mem_cons_of_mem _ fl_X10_239) rfl dX10_count_133 ?_
      cases h
      exact v_iret F hr rfl hlk dX10_count_136
    rw [if_neg hs16] at h
    by_cases hs19 : i1 = 5
    · rw [if_pos hs19] at h
      rw [show (Value.int i1) = Value.int 5 from congrArg Value.int hs19]
      refine v_tableIn (tgt := 137) F dX10_count_30 (by decide) (by decide) rfl (by decide) ?_
      refine v_aload_n F dX10_count_137 rfl 0 rfl ?_
      refine v_getR (k := 6) (f := 7) F t0 (by decide) (inc inU_10) rfl rfl (by decide) (by decide) (List.mem_cons_of_mem _ fl_X10_38) rfl dX10_count_138 (fun u20 => ?_)
      refine v_getR (k := 3) (f := 0) F u20 (by decide) (inc inU_7) rfl rfl (by decide) (by decide) (List.mem_cons_of_mem _ fl_X10_265) rfl dX10_count_141 (fun u21 => ?_)
      refine v_getI (k := 0) F u21 (by decide) (inc inU_0) rfl rfl (by decide) (List.mem_cons_of_mem _ fl_X10_305) rfl dX10_count_144 ?_
      cases h
      exact v_iret F hr rfl hlk dX10_count_147
    rw [if_neg hs19] at h
    by_cases hs22 : i1 = 6
    · rw [if_pos hs22] at h
      rw [show (Value.int i1) = Value.int 6 from congrArg Value.int hs22]
      refine v_tableIn (tgt := 148) F dX10_count_30 (by decide) (by decide) rfl (by decide) ?_
      refine v_aload_n F dX10_count_148 rfl 0 rfl ?_
      refine v_getR (k := 6) (f := 7) F t0 (by decide) (inc inU_10) rfl rfl (by decide) (by decide) (List.mem_cons_of_mem _ fl_X10_38) rfl dX10_count_149 (fun u23 => ?_)
      refine v_getR (k := 4) (f := 5) F u23 (by decide) (inc inU_7) rfl rfl (by decide) (by decide) (List.mem_cons_of_mem _ fl_X10_282) rfl dX10_count_152 (fun u24 => ?_)
      refine v_getI (k := 0) F u24 (by decide) (inc inU_5) rfl rfl (by decide) (List.mem_cons_of_mem _ fl_X10_306) rfl dX10_count_155 ?_
      cases h
      exact v_iret F hr rfl hlk dX10_count_158
    rw [if_neg hs22] at h
    by_cases hs25 : i1 = 7
    · rw [if_pos hs25] at h
      rw [show (Value.int i1) = Value.int 7 from congrArg Value.int hs25]
      refine v_tableIn (tgt := 159) F dX10_count_30 (by decide) (by decide) rfl (by decide) ?_
      refine v_aload_n F dX10_count_159 rfl 0 rfl ?_
      refine v_getI (k := 8) F t0 (by decide) (inc inU_10) rfl rfl (by decide) (List.mem_cons_of_mem _ fl_X10_295) rfl dX10_count_160 ?_
      cases h
      exact v_iret F hr rfl hlk dX10_count_163
    rw [if_neg hs25] at h
    by_cases hs26 : i1 = 8
    · rw [if_pos hs26] at h
      rw [show (Value.int i1) = Value.int 8 from congrArg Value.int hs26]
      refine v_tableIn (tgt := 164) F dX10_count_30 (by decide) (by decide) rfl (by decide) ?_
      refine v_aload_n F dX10_count_164 rfl 0 rfl ?_
      refine v_getI (k := 1) F t0 (by decide) (inc inU_10) rfl rfl (by decide) (List.mem_cons_of_mem _ fl_X10_57) rfl dX10_count_165 ?_
      cases h
      exact v_iret F hr rfl hlk dX10_count_168
    rw [if_neg hs26] at h
    by_cases hs27 : i1 = 9
    · rw [if_pos hs27] at h
      rw [show (Value.int i1) = Value.int 9 from congrArg Value.int hs27]
      refine v_tableIn (tgt := 169) F dX10_count_30 (by decide) (by decide) rfl (by decide) ?_
      refine v_aload_n F dX10_count_169 rfl 0 rfl ?_
      refine v_getR (k := 6) (f := 7) F t0 (by decide) (inc inU_10) rfl rfl (by decide) (by decide) (List.mem_cons_of_mem _ fl_X10_38) rfl dX10_count_170 (fun u28 => ?_)
      refine v_getR (k := 0) (f := 1) F u28 (by decide) (inc inU_7) rfl rfl (by decide) (by decide) (List.mem_cons_of_mem _ fl_X10_93) rfl dX10_count_173 (fun u29 => ?_)
      refine v_iconst (v := 0) F dX10_count_176 (by decide) ?_
      obtain ⟨⟨r30, M31⟩, hz32, h⟩ := bd_some h
      dsimp only at h
      refine v_callVi (As := [.int 0]) (rest := []) F (c_X1_broken l F.2.2.1 u29 hz32) (cwV 1 F.1.2.2.2.2 (gU_V ml_X10_307 im_yX1_broken se_yX1_broken ini_X1 cd_X1_broken) rfl rfl rfl (by decide +kernel) ⟨Nat.le_of_ble_eq_true rfl, Nat.le_of_ble_eq_true rfl⟩) u29 (by decide) rfl rfl rfl (Nat.le_of_ble_eq_true rfl) dX10_count_177 ⟨Nat.le_of_ble_eq_true rfl, Nat.le_of_ble_eq_true rfl⟩ ?_
      cases h
      exact v_iret F hr rfl hlk dX10_count_180
    rw [if_neg hs27] at h
    by_cases hs34 : i1 = 10
    · rw [if_pos hs34] at h
      rw [show (Value.int i1) = Value.int 10 from congrArg Value.int hs34]
      refine v_tableIn (tgt := 181) F dX10_count_30 (by decide) (by decide) rfl (by decide) ?_
      refine v_aload_n F dX10_count_181 rfl 0 rfl ?_
      refine v_getR (k := 6) (f := 7) F t0 (by decide) (inc inU_10) rfl rfl (by decide) (by decide) (List.mem_cons_of_mem _ fl_X10_38) rfl dX10_count_182 (fun u35 => ?_)
      refine v_getR (k := 0) (f := 1) F u35 (by decide) (inc inU_7) rfl rfl (by decide) (by decide) (List.mem_cons_of_mem _ fl_X10_93) rfl dX10_count_185 (fun u36 => ?_)
      refine v_iconst (v := 1) F dX10_count_188 (by decide) ?_
      obtain ⟨⟨r37, M38⟩, hz39, h⟩ := bd_some h
      dsimp only at h
      refine v_callVi (As := [.int 1]) (rest := []) F (c_X1_broken l F.2.2.1 u36 hz39) (cwV 1 F.1.2.2.2.2 (gU_V ml_X10_307 im_yX1_broken se_yX1_broken ini_X1 cd_X1_broken) rfl rfl rfl (by decide +kernel) ⟨Nat.le_of_ble_eq_true rfl, Nat.le_of_ble_eq_true rfl⟩) u36 (by decide) rfl rfl rfl (Nat.le_of_ble_eq_true rfl) dX10_count_189 ⟨Nat.le_of_ble_eq_true rfl, Nat.le_of_ble_eq_true rfl⟩ ?_
      cases h
      exact v_iret F hr rfl hlk dX10_count_192
    rw [if_neg hs34] at h
    refine v_tableOut (tgt := 193) F dX10_count_30 (sw_out 0 10 (by decide) (by decide) ?_) (by decide) ?_
    · intro j9 h1 h2
      obtain rfl | rfl | rfl | rfl | rfl | rfl | rfl | rfl | rfl | rfl | rfl : j9 = 0 ∨ j9 = 1 ∨ j9 = 2 ∨ j9 = 3 ∨ j9 = 4 ∨ j9 = 5 ∨ j9 = 6 ∨ j9 = 7 ∨ j9 = 8 ∨ j9 = 9 ∨ j9 = 10 := by omega
      · exact fun q => hs6 (by rw [← Int32.toInt_inj]; exact q)
      · exact fun q => hs9 (by rw [← Int32.toInt_inj]; exact q)
      · exact fun q => hs10 (by rw [← Int32.toInt_inj]; exact q)
      · exact fun q => hs13 (by rw [← Int32.toInt_inj]; exact q)
      · exact fun q => hs16 (by rw [← Int32.toInt_inj]; exact q)
      · exact fun q => hs19 (by rw [← Int32.toInt_inj]; exact q)
      · exact fun q => hs22 (by rw [← Int32.toInt_inj]; exact q)
      · exact fun q => hs25 (by rw [← Int32.toInt_inj]; exact q)
      · exact fun q => hs26 (by rw [← Int32.toInt_inj]; exact q)
      · exact fun q => hs27 (by rw [← Int32.toInt_inj]; exact q)
      · exact fun q => hs34 (by rw [← Int32.toInt_inj]; exact q)
    refine v_iconst (v := (-1)) F dX10_count_193 (by decide) ?_
    cases h
    exact v_iret F hr rfl hlk dX10_count_194
  · rw [if_neg hc5] at h
    refine v_aload_n F dX10_count_11 rfl 0 rfl ?_
    refine v_getR (k := 6) (f := 7) F t0 (by decide) (inc inU_10) rfl rfl (by decide) (by decide) (List.mem_cons_of_mem _ fl_X10_38) rfl dX10_count_12 (fun u41 => ?_)
    refine v_getR (k := 0) (f := 1) F u41 (by decide) (inc inU_7) rfl rfl (by decide) (by decide) (List.mem_cons_of_mem _ fl_X10_93) rfl dX10_count_15 (fun u42 => ?_)
    refine v_getR (k := 2) (f := 8) F u42 (by decide) (inc inU_1) rfl rfl (by decide) (by decide) (List.mem_cons_of_mem _ fl_X10_109) rfl dX10_count_18 (fun u43 => ?_)
    refine v_iload_n F dX10_count_21 rfl 1 rfl ?_
    refine v_bipush (v := 20) F dX10_count_22 (by decide) ?_
    refine v_isub F dX10_count_24 ?_
    obtain ⟨⟨r44, M45⟩, hz46, h⟩ := bd_some h
    dsimp only at h
    refine v_callVi (As := [.int (i1 - 20)]) (rest := []) F (c_X8_at l F.2.2.1 u43 hz46) (cwV 1 F.1.2.2.2.2 (gU_V ml_X10_112 im_yX8_at se_yX8_at ini_X8 cd_X8_at) rfl rfl rfl (by decide +kernel) ⟨Nat.le_of_ble_eq_true rfl, Nat.le_of_ble_eq_true rfl⟩) u43 (by decide) rfl rfl rfl (Nat.le_of_ble_eq_true rfl) dX10_count_25 ⟨Nat.le_of_ble_eq_true rfl, Nat.le_of_ble_eq_true rfl⟩ ?_
    cases h
    exact v_iret F hr rfl hlk dX10_count_28
