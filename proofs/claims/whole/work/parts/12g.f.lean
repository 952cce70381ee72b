def f_X11_count_b87 (a0 : Nat) (i1 : Int32) (k30 : Int32 → Int32 → Mem → Option (Int32 × Mem)) (s0 : Int32) (s1 : Int32) (x3 : Int32) (M : Mem) : Option (Int32 × Mem) := k30 (s0 + s1) (x3 + 1) M
def f_X11_count_b86 (a0 : Nat) (i1 : Int32) (k30 : Int32 → Int32 → Mem → Option (Int32 × Mem)) (s0 : Int32) (x3 : Int32) (M : Mem) : Option (Int32 × Mem) := f_X11_count_b87 a0 i1 k30 s0 0 x3 M
def f_X11_count_h30 (a0 : Nat) (i1 : Int32)  : Nat → Int32 → Int32 → Mem → Option (Int32 × Mem)
  | 0, _, _, _ => none
  | n + 1, x2, x3, M => if (M a0 19) ≤ x3 then (if i1 = 0 then (some (M a0 19, M)) else (if i1 = 1 then (some (M a0 11, M)) else (if i1 = 2 then (some (M a0 20, M)) else (if i1 = 3 then (some (M a0 31, M)) else (if i1 = 4 then (some (M a0 32, M)) else (if i1 = 5 then (some (M a0 33, M)) else (if i1 = 6 then (some (M a0 34, M)) else (if i1 = 7 then (some (M a0 35, M)) else (if i1 = 8 then (some (M a0 1, M)) else (if i1 = 9 then (some (x2, M)) else (if i1 = 10 then (some (x2, M)) else (some ((-1), M))))))))))))) else (if i1 = 9 then (if ¬ (x3 < 0 ∨ gN (gRf a0 24) ≤ x3.toNatClampNeg) then (if (M (gRf a0 24) x3.toNatClampNeg) = 1 then (f_X11_count_b87 a0 i1 (f_X11_count_h30 a0 i1 n) x2 1 x3 M) else (f_X11_count_b87 a0 i1 (f_X11_count_h30 a0 i1 n) x2 0 x3 M)) else none) else (if (M a0 19) ≤ (x3 + 1) then (f_X11_count_b86 a0 i1 (f_X11_count_h30 a0 i1 n) x2 x3 M) else (if ¬ (x3 < 0 ∨ gN (gRf a0 25) ≤ x3.toNatClampNeg) then (if (M (gRf a0 25) x3.toNatClampNeg) = 0 then (f_X11_count_b86 a0 i1 (f_X11_count_h30 a0 i1 n) x2 x3 M) else (f_X11_count_b87 a0 i1 (f_X11_count_h30 a0 i1 n) x2 1 x3 M)) else none)))
def f_X11_count  (M : Mem) (a0 : Nat) (i1 : Int32) : Option (Int32 × Mem) := (f_X11_in (mU M a0 0 0) i1 20 29).bind fun q => match q with | (r1, M2) => (if r1 = 0 then (f_X11_count_h30 a0 i1 FU 0 0 M2) else (if ¬ ((i1 - 20) < 0 ∨ gN (gRf a0 21) ≤ (i1 - 20 : Int32).toNatClampNeg) then (some (M2 (gRf a0 21) (i1 - 20 : Int32).toNatClampNeg, M2)) else none))
set_option maxHeartbeats 4000000 in
set_option maxRecDepth 100000 in
theorem w_X11_count_b87 {g : gT} {p : Program} {l : Launch} {e : Env} {s : State} {m : MethodId} {args : Array Value} {below : List Frame} {meth : Method} {c : Code} {z : Int32 × Mem} (F : Fx g p s m args c cX11_count 4 uX11_count RX11) (hr : meth.sig.returnType = (some .int)) (hlk : meth.locks = false)  {a0 : Nat} {i1 : Int32} (t0 : Ty g 11 a0) {k30 : Int32 → Int32 → Mem → Option (Int32 × Mem)} (hk30 : ∀ (x2 : Int32) (x3 : Int32) (M : Mem), k30 x2 x3 M = some z → V g p l e ({ frames := 1, cells := 0, slots := 0, locals := 40 * 1 } : Room) s m args below meth c 4 0 0 (MQ below (gQ g (some (.int z.1)) z.2) args s 0 0 (gA g)) 30 [(0, .ref (gAd g a0)), (1, .int i1), (2, .int x2), (3, .int x3)] [] M) (s0 : Int32) (s1 : Int32) (x3 : Int32) (M : Mem)  (h : f_X11_count_b87 a0 i1 k30 s0 s1 x3 M = some z) : V g p l e ({ frames := 1, cells := 0, slots := 0, locals := 40 * 1 } : Room) s m args below meth c 4 0 0 (MQ below (gQ g (some (.int z.1)) z.2) args s 0 0 (gA g)) 87 [(0, .ref (gAd g a0)), (1, .int i1), (3, .int x3)] [.int s1, .int s0] M := by
  unfold f_X11_count_b87 at h
  refine v_iadd F dX11_count_87 ?_
  refine v_istore_n (lv' := [(2, .int (s0 + s1)), (0, .ref (gAd g a0)), (1, .int i1), (3, .int x3)]) F dX11_count_88 rfl (by decide) rfl ?_
  refine v_iinc (v := x3 + 1) (lv' := [(3, .int (x3 + 1)), (2, .int (s0 + s1)), (0, .ref (gAd g a0)), (1, .int i1)]) F dX11_count_89 (q := 3) rfl rfl (by decide) rfl ?_
  refine v_goto (tgt := 30) F dX11_count_92 (by decide) ?_
  refine v_sub (fun ls h9 => lv_sub h9 [2, 3, 1, 0] rfl) ?_
  exact hk30 _ _ _ h
set_option maxHeartbeats 4000000 in
set_option maxRecDepth 100000 in
theorem w_X11_count_b86 {g : gT} {p : Program} {l : Launch} {e : Env} {s : State} {m : MethodId} {args : Array Value} {below : List Frame} {meth : Method} {c : Code} {z : Int32 × Mem} (F : Fx g p s m args c cX11_count 4 uX11_count RX11) (hr : meth.sig.returnType = (some .int)) (hlk : meth.locks = false)  {a0 : Nat} {i1 : Int32} (t0 : Ty g 11 a0) {k30 : Int32 → Int32 → Mem → Option (Int32 × Mem)} (hk30 : ∀ (x2 : Int32) (x3 : Int32) (M : Mem), k30 x2 x3 M = some z → V g p l e ({ frames := 1, cells := 0, slots := 0, locals := 40 * 1 } : Room) s m args below meth c 4 0 0 (MQ below (gQ g (some (.int z.1)) z.2) args s 0 0 (gA g)) 30 [(0, .ref (gAd g a0)), (1, .int i1), (2, .int x2), (3, .int x3)] [] M) (s0 : Int32) (x3 : Int32) (M : Mem)  (h : f_X11_count_b86 a0 i1 k30 s0 x3 M = some z) : V g p l e ({ frames := 1, cells := 0, slots := 0, locals := 40 * 1 } : Room) s m args below meth c 4 0 0 (MQ below (gQ g (some (.int z.1)) z.2) args s 0 0 (gA g)) 86 [(0, .ref (gAd g a0)), (1, .int i1), (3, .int x3)] [.int s0] M := by
  unfold f_X11_count_b86 at h
  refine v_iconst (v := 0) F dX11_count_86 (by decide) ?_
  exact w_X11_count_b87 F hr hlk t0 hk30 _ _ _ _ h
set_option maxHeartbeats 4000000 in
set_option maxRecDepth 100000 in
theorem w_X11_count_h30 {g : gT} {p : Program} {l : Launch} {e : Env} {s : State} {m : MethodId} {args : Array Value} {below : List Frame} {meth : Method} {c : Code} {z : Int32 × Mem} (F : Fx g p s m args c cX11_count 4 uX11_count RX11) (hr : meth.sig.returnType = (some .int)) (hlk : meth.locks = false)  {a0 : Nat} {i1 : Int32} (t0 : Ty g 11 a0)   : ∀ (n : Nat) (x2 : Int32) (x3 : Int32) (M : Mem), f_X11_count_h30 a0 i1 n x2 x3 M = some z → V g p l e ({ frames := 1, cells := 0, slots := 0, locals := 40 * 1 } : Room) s m args below meth c 4 0 0 (MQ below (gQ g (some (.int z.1)) z.2) args s 0 0 (gA g)) 30 [(0, .ref (gAd g a0)), (1, .int i1), (2, .int x2), (3, .int x3)] [] M := by
  intro n
  induction n with
  | zero => intro x2 x3 M; intros; rename_i h; cases h
  | succ n ih =>
    intro x2 x3 M h
    rw [f_X11_count_h30] at h
    refine v_iload_n F dX11_count_30 rfl 3 rfl ?_
    refine v_aload_n F dX11_count_31 rfl 0 rfl ?_
    refine v_getI (k := 19) F t0 (by decide) (inc inU_11) rfl rfl (by decide) (List.mem_cons_of_mem _ fl_X11_37) rfl dX11_count_32 ?_
    refine v_icmp_ge (tgt := 95) F dX11_count_35 (by decide) (fun hc8 => ?_) (fun hc8 => ?_)
    · rw [if_pos hc8] at h
      refine v_iload_n F dX11_count_95 rfl 1 rfl ?_
      by_cases hs9 : i1 = 0
      · rw [if_pos hs9] at h
        rw [show (Value.int i1) = Value.int 0 from congrArg Value.int hs9]
        refine v_tableIn (tgt := 148) F dX11_count_96 (by decide) (by decide) rfl (by decide) ?_
        refine v_aload_n F dX11_count_148 rfl 0 rfl ?_
        refine v_getI (k := 19) F t0 (by decide) (inc inU_11) rfl rfl (by decide) (List.mem_cons_of_mem _ fl_X11_37) rfl dX11_count_149 ?_
        cases h
        exact v_iret F hr rfl hlk dX11_count_152
      rw [if_neg hs9] at h
      by_cases hs10 : i1 = 1
      · rw [if_pos hs10] at h
        rw [show (Value.int i1) = Value.int 1 from congrArg Value.int hs10]
        refine v_tableIn (tgt := 153) F dX11_count_96 (by decide) (by decide) rfl (by decide) ?_
        refine v_aload_n F dX11_count_153 rfl 0 rfl ?_
        refine v_getI (k := 11) F t0 (by decide) (inc inU_11) rfl rfl (by decide) (List.mem_cons_of_mem _ fl_X11_180) rfl dX11_count_154 ?_
        cases h
        exact v_iret F hr rfl hlk dX11_count_157
      rw [if_neg hs10] at h
      by_cases hs11 : i1 = 2
      · rw [if_pos hs11] at h
        rw [show (Value.int i1) = Value.int 2 from congrArg Value.int hs11]
        refine v_tableIn (tgt := 158) F dX11_count_96 (by decide) (by decide) rfl (by decide) ?_
        refine v_aload_n F dX11_count_158 rfl 0 rfl ?_
        refine v_getI (k := 20) F t0 (by decide) (inc inU_11) rfl rfl (by decide) (List.mem_cons_of_mem _ fl_X11_200) rfl dX11_count_159 ?_
        cases h
        exact v_iret F hr rfl hlk dX11_count_162
      rw [if_neg hs11] at h
      by_cases hs12 : i1 = 3
      · rw [if_pos hs12] at h
        rw [show (Value.int i1) = Value.int 3 from congrArg Value.int hs12]
        refine v_tableIn (tgt := 163) F dX11_count_96 (by decide) (by decide) rfl (by decide) ?_
        refine v_aload_n F dX11_count_163 rfl 0 rfl ?_
        refine v_getI (k := 31) F t0 (by decide) (inc inU_11) rfl rfl (by decide) (List.mem_cons_of_mem _ fl_X11_279) rfl dX11_count_164 ?_
        cases h
        exact v_iret F hr rfl hlk dX11_count_167
      rw [if_neg hs12] at h
      by_cases hs13 : i1 = 4
      · rw [if_pos hs13] at h
        rw [show (Value.int i1) = Value.int 4 from congrArg Value.int hs13]
        refine v_tableIn (tgt := 168) F dX11_count_96 (by decide) (by decide) rfl (by decide) ?_
        refine v_aload_n F dX11_count_168 rfl 0 rfl ?_
        refine v_getI (k := 32) F t0 (by decide) (inc inU_11) rfl rfl (by decide) (List.mem_cons_of_mem _ fl_X11_283) rfl dX11_count_169 ?_
        cases h
        exact v_iret F hr rfl hlk dX11_count_172
      rw [if_neg hs13] at h
      by_cases hs14 : i1 = 5
      · rw [if_pos hs14] at h
        rw [show (Value.int i1) = Value.int 5 from congrArg Value.int hs14]
        refine v_tableIn (tgt := 173) F dX11_count_96 (by decide) (by decide) rfl (by decide) ?_
        refine v_aload_n F dX11_count_173 rfl 0 rfl ?_
        refine v_getI (k := 33) F t0 (by decide) (inc inU_11) rfl rfl (by decide) (List.mem_cons_of_mem _ fl_X11_295) rfl dX11_count_174 ?_
        cases h
        exact v_iret F hr rfl hlk dX11_count_177
      rw [if_neg hs14] at h
      by_cases hs15 : i1 = 6
      · rw [if_pos hs15] at h
        rw [show (Value.int i1) = Value.int 6 from congrArg Value.int hs15]
        refine v_tableIn (tgt := 178) F dX11_count_96 (by decide) (by decide) rfl (by decide) ?_
        refine v_aload_n F dX11_count_178 rfl 0 rfl ?_
        refine v_getI (k := 34) F t0 (by decide) (inc inU_11) rfl rfl (by decide) (List.mem_cons_of_mem _ fl_X11_301) rfl dX11_count_179 ?_
        cases h
        exact v_iret F hr rfl hlk dX11_count_182
      rw [if_neg hs15] at h
      by_cases hs16 : i1 = 7
      · rw [if_pos hs16] at h
        rw [show (Value.int i1) = Value.int 7 from congrArg Value.int hs16]
        refine v_tableIn (tgt := 183) F dX11_count_96 (by decide) (by decide) rfl (by decide) ?_
        refine v_aload_n F dX11_count_183 rfl 0 rfl ?_
        refine v_getI (k := 35) F t0 (by decide) (inc inU_11) rfl rfl (by decide) (List.mem_cons_of_mem _ fl_X11_318) rfl dX11_count_184 ?_
        cases h
        exact v_iret F hr rfl hlk dX11_count_187
      rw [if_neg hs16] at h
      by_cases hs17 : i1 = 8
      · rw [if_pos hs17] at h
        rw [show (Value.int i1) = Value.int 8 from congrArg Value.int hs17]
        refine v_tableIn (tgt := 188) F dX11_count_96 (by decide) (by decide) rfl (by decide) ?_
        refine v_aload_n F dX11_count_188 rfl 0 rfl ?_
        refine v_getI (k := 1) F t0 (by decide) (inc inU_11) rfl rfl (by decide) (List.mem_cons_of_mem _ fl_X11_86) rfl dX11_count_189 ?_
        cases h
        exact v_iret F hr rfl hlk dX11_count_192
      rw [if_neg hs17] at h
      refine v_tableOut (tgt := 193) F dX11_count_96 (sw_out 0 8 (by decide) (by decide) ?_) (by decide) ?_
      · intro j9 h1 h2
        obtain rfl | rfl | rfl | rfl | rfl | rfl | rfl | rfl | rfl : j9 = 0 ∨ j9 = 1 ∨ j9 = 2 ∨ j9 = 3 ∨ j9 = 4 ∨ j9 = 5 ∨ j9 = 6 ∨ j9 = 7 ∨ j9 = 8 := by omega
        · exact fun q => hs9 (by rw [← Int32.toInt_inj]; exact q)
        · exact fun q => hs10 (by rw [← Int32.toInt_inj]; exact q)
        · exact fun q => hs11 (by rw [← Int32.toInt_inj]; exact q)
        · exact fun q => hs12 (by rw [← Int32.toInt_inj]; exact q)
        · exact fun q => hs13 (by rw [← Int32.toInt_inj]; exact q)
        · exact fun q => hs14 (by rw [← Int32.toInt_inj]; exact q)
        · exact fun q => hs15 (by rw [← Int32.toInt_inj]; exact q)
        · exact fun q => hs16 (by rw [← Int32.toInt_inj]; exact q)
        · exact fun q => hs17 (by rw [← Int32.toInt_inj]; exact q)
      refine v_iload_n F dX11_count_193 rfl 1 rfl ?_
      refine v_bipush (v := 9) F dX11_count_194 (by decide) ?_
      refine v_icmp_eq (tgt := 205) F dX11_count_196 (by decide) (fun hc18 => ?_) (fun hc18 => ?_)
      · rw [if_pos hc18] at h
        refine v_iload_n F dX11_count_205 rfl 2 rfl ?_
        refine v_goto (tgt := 210) F dX11_count_206 (by decide) ?_
        cases h
        exact v_iret F hr rfl hlk dX11_count_210
      · rw [if_neg hc18] at h
        refine v_iload_n F dX11_count_199 rfl 1 rfl ?_
        refine v_bipush (v := 10) F dX11_count_200 (by decide) ?_
        refine v_icmp_ne (tgt := 209) F dX11_count_202 (by decide) (fun hc19 => ?_) (fun hc19 => ?_)
        · rw [if_neg hc19] at h
          refine v_iconst (v := (-1)) F dX11_count_209 (by decide) ?_
          cases h
          exact v_iret F hr rfl hlk dX11_count_210
        · rw [if_pos hc19] at h
          refine v_iload_n F dX11_count_205 rfl 2 rfl ?_
          refine v_goto (tgt := 210) F dX11_count_206 (by decide) ?_
          cases h
          exact v_iret F hr rfl hlk dX11_count_210
    · rw [if_neg hc8] at h
      refine v_iload_n F dX11_count_38 rfl 2 rfl ?_
      refine v_iload_n F dX11_count_39 rfl 1 rfl ?_
      refine v_bipush (v := 9) F dX11_count_40 (by decide) ?_
      refine v_icmp_ne (tgt := 63) F dX11_count_42 (by decide) (fun hc20 => ?_) (fun hc20 => ?_)
      · rw [if_neg hc20] at h
        refine v_iload_n F dX11_count_63 rfl 3 rfl ?_
        refine v_iconst (v := 1) F dX11_count_64 (by decide) ?_
        refine v_iadd F dX11_count_65 ?_
        refine v_aload_n F dX11_count_66 rfl 0 rfl ?_
        refine v_getI (k := 19) F t0 (by decide) (inc inU_11) rfl rfl (by decide) (List.mem_cons_of_mem _ fl_X11_37) rfl dX11_count_67 ?_
        refine v_icmp_ge (tgt := 86) F dX11_count_70 (by decide) (fun hc21 => ?_) (fun hc21 => ?_)
        · rw [if_pos hc21] at h
          refine v_sub (fun ls h9 => lv_sub h9 [0, 1, 3] rfl) ?_
          exact w_X11_count_b86 F hr hlk t0 ih _ _ _ h
        · rw [if_neg hc21] at h
          refine v_aload_n F dX11_count_73 rfl 0 rfl ?_
          refine v_getR (k := 25) (f := 13) F t0 (by decide) (inc inU_11) rfl rfl (by decide) (by decide) (List.mem_cons_of_mem _ fl_X11_52) rfl dX11_count_74 (fun u22 => ?_)
          refine v_iload_n F dX11_count_77 rfl 3 rfl ?_
          obtain ⟨hin23, h⟩ := gd_some h
          refine v_zald F u22 hin23 dX11_count_78 ?_
          refine v_if_eq (tgt := 86) F dX11_count_79 (by decide) (fun hc24 => ?_) (fun hc24 => ?_)
          · rw [if_pos hc24] at h
            refine v_sub (fun ls h9 => lv_sub h9 [0, 1, 3] rfl) ?_
            exact w_X11_count_b86 F hr hlk t0 ih _ _ _ h
          · rw [if_neg hc24] at h
            refine v_iconst (v := 1) F dX11_count_82 (by decide) ?_
            refine v_goto (tgt := 87) F dX11_count_83 (by decide) ?_
            refine v_sub (fun ls h9 => lv_sub h9 [0, 1, 3] rfl) ?_
            exact w_X11_count_b87 F hr hlk t0 ih _ _ _ _ h
      · rw [if_pos hc20] at h
        refine v_aload_n F dX11_count_45 rfl 0 rfl ?_
        refine v_getR (k := 24) (f := 12) F t0 (by decide) (inc inU_11) rfl rfl (by decide) (by decide) (List.mem_cons_of_mem _ fl_X11_49) rfl dX11_count_46 (fun u25 => ?_)
        refine v_iload_n F dX11_count_49 rfl 3 rfl ?_
        obtain ⟨hin26, h⟩ := gd_some h
        refine v_iald F u25 hin26 dX11_count_50 ?_
        refine v_iconst (v := 1) F dX11_count_51 (by decide) ?_
        refine v_icmp_ne (tgt := 59) F dX11_count_52 (by decide) (fun hc27 => ?_) (fun hc27 => ?_)
        · rw [if_neg hc27] at h
          refine v_iconst (v := 0) F dX11_count_59 (by decide) ?_
          refine v_goto (tgt := 87) F dX11_count_60 (by decide) ?_
          refine v_sub (fun ls h9 => lv_sub h9 [0, 1, 3] rfl) ?_
          exact w_X11_count_b87 F hr hlk t0 ih _ _ _ _ h
        · rw [if_pos hc27] at h
          refine v_iconst (v := 1) F dX11_count_55 (by decide) ?_
          refine v_goto (tgt := 87) F dX11_count_56 (by decide) ?_
          refine v_sub (fun ls h9 => lv_sub h9 [0, 1, 3] rfl) ?_
          exact w_X11_count_b87 F hr hlk t0 ih _ _ _ _ h
set_option maxHeartbeats 4000000 in
set_option maxRecDepth 100000 in
theorem c_X11_count {g : gT} (l : Launch) (hok : gOK g)  {a0 : Nat} {i1 : Int32} {M : Mem} {z : Int32 × Mem}  (t0 : Ty g 11 a0) (h : f_X11_count  M a0 i1 = some z) : Cn g l yX11_count uX11_count 1 [.ref (gAd g a0), .int i1] M (some (.int z.1)) z.2 := by
  refine Cn.of (cc := cX11_count) (maxL := 4) (ret := (some .int)) hok (by decide) rfl (Nat.le_of_ble_eq_true rfl) (fun p e s m args below meth c F hr hlk => ?_)
  unfold f_X11_count at h
  show V g p l e ({ frames := 1, cells := 0, slots := 0, locals := 40 * 1 } : Room) s m args below meth c 4 0 0 (MQ below (gQ g (some (.int z.1)) z.2) args s 0 0 (gA g)) 0 [(0, .ref (gAd g a0)), (1, .int i1)] [] M
  refine v_aload_n F dX11_count_0 rfl 0 rfl ?_
  refine v_iconst (v := 0) F dX11_count_1 (by decide) ?_
  refine v_put (k := 0) (ty := .int) F t0 (by decide) (inc inU_11) tyX11 tyX11_ok nmX11 rfl rfl (by decide) (List.mem_cons_of_mem _ fl_X11_83) rfl rfl (by decide +kernel) rfl rfl dX11_count_2 ?_
  refine v_iconst (v := 0) F dX11_count_5 (by decide) ?_
  refine v_istore_n (lv' := [(2, .int 0), (0, .ref (gAd g a0)), (1, .int i1)]) F dX11_count_6 rfl (by decide) rfl ?_
  refine v_iload_n F dX11_count_7 rfl 2 rfl ?_
  refine v_bipush (v := 20) F dX11_count_8 (by decide) ?_
  refine v_bipush (v := 29) F dX11_count_10 (by decide) ?_
  obtain ⟨⟨r1, M2⟩, hz3, h⟩ := bd_some h
  dsimp only at h
  refine v_callSi (As := [.int i1, .int 20, .int 29]) (rest := []) F (c_X11_in l F.2.2.1  hz3) (cwS 3 F.1.2.2.2.2 (gU_S ml_X11_172 st_yX11_in ini_X11 cd_X11_in) rfl rfl rfl (by decide +kernel) ⟨Nat.le_of_ble_eq_true rfl, Nat.le_of_ble_eq_true rfl⟩) rfl rfl (Nat.le_of_ble_eq_true rfl) dX11_count_12 ⟨Nat.le_of_ble_eq_true rfl, Nat.le_of_ble_eq_true rfl⟩ ?_
  refine v_if_eq (tgt := 28) F dX11_count_15 (by decide) (fun hc5 => ?_) (fun hc5 => ?_)
  · rw [if_pos hc5] at h
    refine v_iconst (v := 0) F dX11_count_28 (by decide) ?_
    refine v_istore_n (lv' := [(3, .int 0), (2, .int 0), (0, .ref (gAd g a0)), (1, .int i1)]) F dX11_count_29 rfl (by decide) rfl ?_
    refine v_sub (fun ls h9 => lv_sub h9 [2, 3, 1, 0] rfl) ?_
    exact w_X11_count_h30 F hr hlk t0 _ _ _ _ h
  · rw [if_neg hc5] at h
    refine v_aload_n F dX11_count_18 rfl 1 rfl ?_
    refine v_getR (k := 21) (f := 12) F t0 (by decide) (inc inU_11) rfl rfl (by decide) (by decide) (List.mem_cons_of_mem _ fl_X11_40) rfl dX11_count_19 (fun u6 => ?_)
    refine v_iload_n F dX11_count_22 rfl 2 rfl ?_
    refine v_bipush (v := 20) F dX11_count_23 (by decide) ?_
    refine v_isub F dX11_count_25 ?_
    obtain ⟨hin7, h⟩ := gd_some h
    refine v_iald F u6 hin7 dX11_count_26 ?_
    cases h
    exact v_iret F hr rfl hlk dX11_count_27
