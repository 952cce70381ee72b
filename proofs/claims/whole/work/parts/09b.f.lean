def f_X3_work_b258 (a0 : Nat) (a1 : Nat) (k10 : Int32 → Int32 → Int32 → Int32 → Mem → Option (Int32 × Mem)) (x2 : Int32) (x3 : Int32) (x4 : Int32) (x5 : Int32) (M : Mem) : Option (Int32 × Mem) := k10 x2 x3 x4 (x5 + 1) M
def f_X3_work_b220 (a0 : Nat) (a1 : Nat) (k10 : Int32 → Int32 → Int32 → Int32 → Mem → Option (Int32 × Mem)) (s0 : Nat) (s1 : Int32) (s2 : Int32) (x2 : Int32) (x3 : Int32) (x4 : Int32) (x5 : Int32) (M : Mem) : Option (Int32 × Mem) := (f_X8_put M s0 s1 s2).bind fun q => match q with | (r56, M57) => (f_X3_work_b258 a0 a1 k10 x2 x3 x4 x5 M57)
def f_X3_work_b121 (a0 : Nat) (a1 : Nat) (k10 : Int32 → Int32 → Int32 → Int32 → Mem → Option (Int32 × Mem)) (x2 : Int32) (x3 : Int32) (x4 : Int32) (x5 : Int32) (x6 : Int32) (x7 : Int32) (M : Mem) : Option (Int32 × Mem) := if x6 = 309 then (f_X3_work_b258 a0 a1 k10 (x2 + x7) x3 0 x5 M) else (if x6 = 310 then (f_X3_work_b258 a0 a1 k10 x2 (x3 + x7) 0 x5 M) else (if x6 = 314 then ((f_X8_put M (gRf a0 3) (x4 - 1) (1 - x7)).bind fun q => match q with | (r52, M53) => (f_X3_work_b258 a0 a1 k10 x2 x3 x4 x5 M53)) else (if x6 = 317 then (if x7 ≤ 0 then (if 0 ≤ x7 then (f_X3_work_b220 a0 a1 k10 (gRf a0 3) (x4 - 1) 0 x2 x3 x4 x5 M) else (f_X3_work_b220 a0 a1 k10 (gRf a0 3) (x4 - 1) (-1) x2 x3 x4 x5 M)) else (f_X3_work_b220 a0 a1 k10 (gRf a0 3) (x4 - 1) 1 x2 x3 x4 x5 M)) else ((f_X8_at M (gRf a0 3) ((x4 + (-1)) - 1)).bind fun q => match q with | (r36, M37) => ((f_X3_ofTwo M37 x6 r36 x7).bind fun q => match q with | (r40, M41) => ((f_X8_put M41 (gRf a0 3) ((x4 + (-1)) - 1) r40).bind fun q => match q with | (r44, M45) => (f_X3_work_b258 a0 a1 k10 x2 x3 (x4 + (-1)) x5 M45)))))))
def f_X3_work_b264 (a0 : Nat) (a1 : Nat)  (x2 : Int32) (x3 : Int32) (M : Mem) : Option (Int32 × Mem) := (f_X10_bounded M x2 (-100000) 100000).bind fun q => match q with | (r60, M61) => ((f_X10_bounded (mU M61 a0 0 r60) x3 (-100000) 100000).bind fun q => match q with | (r64, M65) => (some (0, (mU M65 a0 1 r64))))
def f_X3_work_h10 (a0 : Nat) (a1 : Nat)  : Nat → Int32 → Int32 → Int32 → Int32 → Mem → Option (Int32 × Mem)
  | 0, _, _, _, _, _ => none
  | n + 1, x2, x3, x4, x5, M => if (M a0 4) ≤ x5 then (f_X3_work_b264 a0 a1 x2 x3 M) else (if 300 ≤ x5 then (f_X3_work_b264 a0 a1 x2 x3 M) else ((f_X8_at M (gRf a0 2) x5).bind fun q => match q with | (r4, M5) => ((f_X8_at M5 (gRf a0 3) (x4 - 1)).bind fun q => match q with | (r9, M10) => (if r4 < 1000 then (if r4 < 300 then (f_X3_work_b121 a0 a1 (f_X3_work_h10 a0 a1 n) x2 x3 x4 x5 r4 r9 M10) else (if 309 ≤ r4 then (f_X3_work_b121 a0 a1 (f_X3_work_h10 a0 a1 n) x2 x3 x4 x5 r4 r9 M10) else ((f_X8_at M10 a1 (r4 - 300)).bind fun q => match q with | (r17, M18) => ((f_X8_put M18 (gRf a0 3) x4 r17).bind fun q => match q with | (r21, M22) => (f_X3_work_b258 a0 a1 (f_X3_work_h10 a0 a1 n) x2 x3 (x4 + 1) x5 M22))))) else ((f_X8_put M10 (gRf a0 3) x4 (r4 - 1000)).bind fun q => match q with | (r26, M27) => (f_X3_work_b258 a0 a1 (f_X3_work_h10 a0 a1 n) x2 x3 (x4 + 1) x5 M27))))))
def f_X3_work  (M : Mem) (a0 : Nat) (a1 : Nat) : Option (Int32 × Mem) := f_X3_work_h10 a0 a1 FU 0 0 0 0 M
set_option maxHeartbeats 4000000 in
set_option maxRecDepth 100000 in
theorem w_X3_work_b258 {g : gT} {p : Program} {l : Launch} {e : Env} {s : State} {m : MethodId} {args : Array Value} {below : List Frame} {meth : Method} {c : Code} {z : Int32 × Mem} (F : Fx g p s m args c cX3_work 8 uX3_work RX3) (hr : meth.sig.returnType = none) (hlk : meth.locks = false)  {a0 : Nat} {a1 : Nat} (t0 : Ty g 3 a0) (t1 : Ty g 8 a1) {k10 : Int32 → Int32 → Int32 → Int32 → Mem → Option (Int32 × Mem)} (hk10 : ∀ (x2 : Int32) (x3 : Int32) (x4 : Int32) (x5 : Int32) (M : Mem), k10 x2 x3 x4 x5 M = some z → V g p l e ({ frames := 2, cells := 0, slots := 0, locals := 40 * 2 } : Room) s m args below meth c 8 0 0 (MQ below (gQ g none z.2) args s 0 0 (gA g)) 10 [(0, .ref (gAd g a0)), (1, .ref (gAd g a1)), (2, .int x2), (3, .int x3), (4, .int x4), (5, .int x5)] [] M) (x2 : Int32) (x3 : Int32) (x4 : Int32) (x5 : Int32) (M : Mem)  (h : f_X3_work_b258 a0 a1 k10 x2 x3 x4 x5 M = some z) : V g p l e ({ frames := 2, cells := 0, slots := 0, locals := 40 * 2 } : Room) s m args below meth c 8 0 0 (MQ below (gQ g none z.2) args s 0 0 (gA g)) 258 [(0, .ref (gAd g a0)), (1, .ref (gAd g a1)), (2, .int x2), (3, .int x3), (4, .int x4), (5, .int x5)] [] M := by
  unfold f_X3_work_b258 at h
  refine v_iinc (v := x5 + 1) (lv' := [(5, .int (x5 + 1)), (0, .ref (gAd g a0)), (1, .ref (gAd g a1)), (2, .int x2), (3, .int x3), (4, .int x4)]) F dX3_work_258 (q := 5) rfl rfl (by decide) rfl ?_
  refine v_goto (tgt := 10) F dX3_work_261 (by decide) ?_
  refine v_sub (fun ls h9 => lv_sub h9 [1, 2, 3, 4, 5, 0] rfl) ?_
  exact hk10 _ _ _ _ _ h
set_option maxHeartbeats 4000000 in
set_option maxRecDepth 100000 in
theorem w_X3_work_b220 {g : gT} {p : Program} {l : Launch} {e : Env} {s : State} {m : MethodId} {args : Array Value} {below : List Frame} {meth : Method} {c : Code} {z : Int32 × Mem} (F : Fx g p s m args c cX3_work 8 uX3_work RX3) (hr : meth.sig.returnType = none) (hlk : meth.locks = false)  {a0 : Nat} {a1 : Nat} (t0 : Ty g 3 a0) (t1 : Ty g 8 a1) {k10 : Int32 → Int32 → Int32 → Int32 → Mem → Option (Int32 × Mem)} (hk10 : ∀ (x2 : Int32) (x3 : Int32) (x4 : Int32) (x5 : Int32) (M : Mem), k10 x2 x3 x4 x5 M = some z → V g p l e ({ frames := 2, cells := 0, slots := 0, locals := 40 * 2 } : Room) s m args below meth c 8 0 0 (MQ below (gQ g none z.2) args s 0 0 (gA g)) 10 [(0, .ref (gAd g a0)), (1, .ref (gAd g a1)), (2, .int x2), (3, .int x3), (4, .int x4), (5, .int x5)] [] M) (s0 : Nat) (s1 : Int32) (s2 : Int32) (x2 : Int32) (x3 : Int32) (x4 : Int32) (x5 : Int32) (M : Mem) (ts0 : Ty g 8 s0) (h : f_X3_work_b220 a0 a1 k10 s0 s1 s2 x2 x3 x4 x5 M = some z) : V g p l e ({ frames := 2, cells := 0, slots := 0, locals := 40 * 2 } : Room) s m args below meth c 8 0 0 (MQ below (gQ g none z.2) args s 0 0 (gA g)) 220 [(0, .ref (gAd g a0)), (1, .ref (gAd g a1)), (2, .int x2), (3, .int x3), (4, .int x4), (5, .int x5)] [.int s2, .int s1, .ref (gAd g s0)] M := by
  unfold f_X3_work_b220 at h
  obtain ⟨⟨r56, M57⟩, hz58, h⟩ := bd_some h
  dsimp only at h
  refine v_callVv (As := [.int s1, .int s2]) (rest := []) F (c_X8_put l F.2.2.1 ts0 hz58) (cwV 2 F.1.2.2.2.2 (gU_V ml_X3_35 im_yX8_put se_yX8_put ini_X8 cd_X8_put) rfl rfl rfl (by decide +kernel) ⟨Nat.le_of_ble_eq_true rfl, Nat.le_of_ble_eq_true rfl⟩) ts0 (by decide) rfl rfl rfl (Nat.le_of_ble_eq_true rfl) dX3_work_220 ⟨Nat.le_of_ble_eq_true rfl, Nat.le_of_ble_eq_true rfl⟩ ?_
  refine v_goto (tgt := 258) F dX3_work_223 (by decide) ?_
  exact w_X3_work_b258 F hr hlk t0 t1 hk10 _ _ _ _ _ h
set_option maxHeartbeats 4000000 in
set_option maxRecDepth 100000 in
theorem w_X3_work_b121 {g : gT} {p : Program} {l : Launch} {e : Env} {s : State} {m : MethodId} {args : Array Value} {below : List Frame} {meth : Method} {c : Code} {z : Int32 × Mem} (F : Fx g p s m args c cX3_work 8 uX3_work RX3) (hr : meth.sig.returnType = none) (hlk : meth.locks = false)  {a0 : Nat} {a1 : Nat} (t0 : Ty g 3 a0) (t1 : Ty g 8 a1) {k10 : Int32 → Int32 → Int32 → Int32 → Mem → Option (Int32 × Mem)} (hk10 : ∀ (x2 : Int32) (x3 : Int32) (x4 : Int32) (x5 : Int32) (M : Mem), k10 x2 x3 x4 x5 M = some z → V g p l e ({ frames := 2, cells := 0, slots := 0, locals := 40 * 2 } : Room) s m args below meth c 8 0 0 (MQ below (gQ g none z.2) args s 0 0 (gA g)) 10 [(0, .ref (gAd g a0)), (1, .ref (gAd g a1)), (2, .int x2), (3, .int x3), (4, .int x4), (5, .int x5)] [] M) (x2 : Int32) (x3 : Int32) (x4 : Int32) (x5 : Int32) (x6 : Int32) (x7 : Int32) (M : Mem)  (h : f_X3_work_b121 a0 a1 k10 x2 x3 x4 x5 x6 x7 M = some z) : V g p l e ({ frames := 2, cells := 0, slots := 0, locals := 40 * 2 } : Room) s m args below meth c 8 0 0 (MQ below (gQ g none z.2) args s 0 0 (gA g)) 121 [(0, .ref (gAd g a0)), (1, .ref (gAd g a1)), (2, .int x2), (3, .int x3), (4, .int x4), (5, .int x5), (6, .int x6), (7, .int x7)] [] M := by
  unfold f_X3_work_b121 at h
  refine v_iload F dX3_work_121 6 rfl ?_
  refine v_sipush (v := 309) F dX3_work_123 (by decide) ?_
  refine v_icmp_ne (tgt := 140) F dX3_work_126 (by decide) (fun hc30 => ?_) (fun hc30 => ?_)
  · rw [if_neg hc30] at h
    refine v_iload F dX3_work_140 6 rfl ?_
    refine v_sipush (v := 310) F dX3_work_142 (by decide) ?_
    refine v_icmp_ne (tgt := 159) F dX3_work_145 (by decide) (fun hc31 => ?_) (fun hc31 => ?_)
    · rw [if_neg hc31] at h
      refine v_iload F dX3_work_159 6 rfl ?_
      refine v_sipush (v := 314) F dX3_work_161 (by decide) ?_
      refine v_icmp_ne (tgt := 185) F dX3_work_164 (by decide) (fun hc32 => ?_) (fun hc32 => ?_)
      · rw [if_neg hc32] at h
        refine v_iload F dX3_work_185 6 rfl ?_
        refine v_sipush (v := 317) F dX3_work_187 (by decide) ?_
        refine v_icmp_ne (tgt := 226) F dX3_work_190 (by decide) (fun hc33 => ?_) (fun hc33 => ?_)
        · rw [if_neg hc33] at h
          refine v_iinc (v := x4 + (-1)) (lv' := [(4, .int (x4 + (-1))), (0, .ref (gAd g a0)), (1, .ref (gAd g a1)), (2, .int x2), (3, .int x3), (5, .int x5), (6, .int x6), (7, .int x7)]) F dX3_work_226 (q := 4) rfl rfl (by decide) rfl ?_
          refine v_aload_n F dX3_work_229 rfl 1 rfl ?_
          refine v_getR (k := 3) (f := 8) F t0 (by decide) (inc inU_3) rfl rfl (by decide) (by decide) (List.mem_cons_of_mem _ fl_X3_20) rfl dX3_work_230 (fun u34 => ?_)
          refine v_iload F dX3_work_233 0 rfl ?_
          refine v_iconst (v := 1) F dX3_work_235 (by decide) ?_
          refine v_isub F dX3_work_236 ?_
          refine v_iload F dX3_work_237 6 rfl ?_
          refine v_aload_n F dX3_work_239 rfl 1 rfl ?_
          refine v_getR (k := 3) (f := 8) F t0 (by decide) (inc inU_3) rfl rfl (by decide) (by decide) (List.mem_cons_of_mem _ fl_X3_20) rfl dX3_work_240 (fun u35 => ?_)
          refine v_iload F dX3_work_243 0 rfl ?_
          refine v_iconst (v := 1) F dX3_work_245 (by decide) ?_
          refine v_isub F dX3_work_246 ?_
          obtain ⟨⟨r36, M37⟩, hz38, h⟩ := bd_some h
          dsimp only at h
          refine v_callVi (As := [.int ((x4 + (-1)) - 1)]) (rest := [.int x6, .int ((x4 + (-1)) - 1), .ref (gAd g (gRf a0 3))]) F (c_X8_at l F.2.2.1 u35 hz38) (cwV 1 F.1.2.2.2.2 (gU_V ml_X3_31 im_yX8_at se_yX8_at ini_X8 cd_X8_at) rfl rfl rfl (by decide +kernel) ⟨Nat.le_of_ble_eq_true rfl, Nat.le_of_ble_eq_true rfl⟩) u35 (by decide) rfl rfl rfl (Nat.le_of_ble_eq_true rfl) dX3_work_247 ⟨Nat.le_of_ble_eq_true rfl, Nat.le_of_ble_eq_true rfl⟩ ?_
          refine v_iload F dX3_work_250 7 rfl ?_
          obtain ⟨⟨r40, M41⟩, hz42, h⟩ := bd_some h
          dsimp only at h
          refine v_callSi (As := [.int x6, .int r36, .int x7]) (rest := [.int ((x4 + (-1)) - 1), .ref (gAd g (gRf a0 3))]) F (c_X3_ofTwo l F.2.2.1  hz42) (cwS 3 F.1.2.2.2.2 (gU_S ml_X3_39 st_yX3_ofTwo ini_X3 cd_X3_ofTwo) rfl rfl rfl (by decide +kernel) ⟨Nat.le_of_ble_eq_true rfl, Nat.le_of_ble_eq_true rfl⟩) rfl rfl (Nat.le_of_ble_eq_true rfl) dX3_work_252 ⟨Nat.le_of_ble_eq_true rfl, Nat.le_of_ble_eq_true rfl⟩ ?_
          obtain ⟨⟨r44, M45⟩, hz46, h⟩ := bd_some h
          dsimp only at h
          refine v_callVv (As := [.int ((x4 + (-1)) - 1), .int r40]) (rest := []) F (c_X8_put l F.2.2.1 u34 hz46) (cwV 2 F.1.2.2.2.2 (gU_V ml_X3_35 im_yX8_put se_yX8_put ini_X8 cd_X8_put) rfl rfl rfl (by decide +kernel) ⟨Nat.le_of_ble_eq_true rfl, Nat.le_of_ble_eq_true rfl⟩) u34 (by decide) rfl rfl rfl (Nat.le_of_ble_eq_true rfl) dX3_work_255 ⟨Nat.le_of_ble_eq_true rfl, Nat.le_of_ble_eq_true rfl⟩ ?_
          refine v_sub (fun ls h9 => lv_sub h9 [1, 2, 3, 4, 0, 5] rfl) ?_
          exact w_X3_work_b258 F hr hlk t0 t1 hk10 _ _ _ _ _ h
        · rw [if_pos hc33] at h
          refine v_aload_n F dX3_work_193 rfl 0 rfl ?_
          refine v_getR (k := 3) (f := 8) F t0 (by decide) (inc inU_3) rfl rfl (by decide) (by decide) (List.mem_cons_of_mem _ fl_X3_20) rfl dX3_work_194 (fun u48 => ?_)
          refine v_iload F dX3_work_197 4 rfl ?_
          refine v_iconst (v := 1) F dX3_work_199 (by decide) ?_
          refine v_isub F dX3_work_200 ?_
          refine v_iload F dX3_work_201 7 rfl ?_
          refine v_if_le (tgt := 210) F dX3_work_203 (by decide) (fun hc49 => ?_) (fun hc49 => ?_)
          · rw [if_pos hc49] at h
            refine v_iload F dX3_work_210 7 rfl ?_
            refine v_if_ge (tgt := 219) F dX3_work_212 (by decide) (fun hc50 => ?_) (fun hc50 => ?_)
            · rw [if_pos hc50] at h
              refine v_iconst (v := 0) F dX3_work_219 (by decide) ?_
              refine v_sub (fun ls h9 => lv_sub h9 [0, 1, 2, 3, 4, 5] rfl) ?_
              exact w_X3_work_b220 F hr hlk t0 t1 hk10 _ _ _ _ _ _ _ _ u48 h
            · rw [if_neg hc50] at h
              refine v_iconst (v := (-1)) F dX3_work_215 (by decide) ?_
              refine v_goto (tgt := 220) F dX3_work_216 (by decide) ?_
              refine v_sub (fun ls h9 => lv_sub h9 [0, 1, 2, 3, 4, 5] rfl) ?_
              exact w_X3_work_b220 F hr hlk t0 t1 hk10 _ _ _ _ _ _ _ _ u48 h
          · rw [if_neg hc49] at h
            refine v_iconst (v := 1) F dX3_work_206 (by decide) ?_
            refine v_goto (tgt := 220) F dX3_work_207 (by decide) ?_
            refine v_sub (fun ls h9 => lv_sub h9 [0, 1, 2, 3, 4, 5] rfl) ?_
            exact w_X3_work_b220 F hr hlk t0 t1 hk10 _ _ _ _ _ _ _ _ u48 h
      · rw [if_pos hc32] at h
        refine v_aload_n F dX3_work_167 rfl 0 rfl ?_
        refine v_getR (k := 3) (f := 8) F t0 (by decide) (inc inU_3) rfl rfl (by decide) (by decide) (List.mem_cons_of_mem _ fl_X3_20) rfl dX3_work_168 (fun u51 => ?_)
        refine v_iload F dX3_work_171 4 rfl ?_
        refine v_iconst (v := 1) F dX3_work_173 (by decide) ?_
        refine v_isub F dX3_work_174 ?_
        refine v_iconst (v := 1) F dX3_work_175 (by decide) ?_
        refine v_iload F dX3_work_176 7 rfl ?_
        refine v_isub F dX3_work_178 ?_
        obtain ⟨⟨r52, M53⟩, hz54, h⟩ := bd_some h
        dsimp only at h
        refine v_callVv (As := [.int (x4 - 1), .int (1 - x7)]) (rest := []) F (c_X8_put l F.2.2.1 u51 hz54) (cwV 2 F.1.2.2.2.2 (gU_V ml_X3_35 im_yX8_put se_yX8_put ini_X8 cd_X8_put) rfl rfl rfl (by decide +kernel) ⟨Nat.le_of_ble_eq_true rfl, Nat.le_of_ble_eq_true rfl⟩) u51 (by decide) rfl rfl rfl (Nat.le_of_ble_eq_true rfl) dX3_work_179 ⟨Nat.le_of_ble_eq_true rfl, Nat.le_of_ble_eq_true rfl⟩ ?_
        refine v_goto (tgt := 258) F dX3_work_182 (by decide) ?_
        refine v_sub (fun ls h9 => lv_sub h9 [0, 1, 2, 3, 4, 5] rfl) ?_
        exact w_X3_work_b258 F hr hlk t0 t1 hk10 _ _ _ _ _ h
    · rw [if_pos hc31] at h
      refine v_iload_n F dX3_work_148 rfl 3 rfl ?_
      refine v_iload F dX3_work_149 7 rfl ?_
      refine v_iadd F dX3_work_151 ?_
      refine v_istore_n (lv' := [(3, .int (x3 + x7)), (0, .ref (gAd g a0)), (1, .ref (gAd g a1)), (2, .int x2), (4, .int x4), (5, .int x5), (6, .int x6), (7, .int x7)]) F dX3_work_152 rfl (by decide) rfl ?_
      refine v_iconst (v := 0) F dX3_work_153 (by decide) ?_
      refine v_istore (lv' := [(4, .int 0), (3, .int (x3 + x7)), (0, .ref (gAd g a0)), (1, .ref (gAd g a1)), (2, .int x2), (5, .int x5), (6, .int x6), (7, .int x7)]) F dX3_work_154 (by decide) rfl ?_
      refine v_goto (tgt := 258) F dX3_work_156 (by decide) ?_
      refine v_sub (fun ls h9 => lv_sub h9 [2, 3, 4, 1, 0, 5] rfl) ?_
      exact w_X3_work_b258 F hr hlk t0 t1 hk10 _ _ _ _ _ h
  · rw [if_pos hc30] at h
    refine v_iload_n F dX3_work_129 rfl 2 rfl ?_
    refine v_iload F dX3_work_130 7 rfl ?_
    refine v_iadd F dX3_work_132 ?_
    refine v_istore_n (lv' := [(2, .int (x2 + x7)), (0, .ref (gAd g a0)), (1, .ref (gAd g a1)), (3, .int x3), (4, .int x4), (5, .int x5), (6, .int x6), (7, .int x7)]) F dX3_work_133 rfl (by decide) rfl ?_
    refine v_iconst (v := 0) F dX3_work_134 (by decide) ?_
    refine v_istore (lv' := [(4, .int 0), (2, .int (x2 + x7)), (0, .ref (gAd g a0)), (1, .ref (gAd g a1)), (3, .int x3), (5, .int x5), (6, .int x6), (7, .int x7)]) F dX3_work_135 (by decide) rfl ?_
    refine v_goto (tgt := 258) F dX3_work_137 (by decide) ?_
    refine v_sub (fun ls h9 => lv_sub h9 [2, 3, 1, 4, 0, 5] rfl) ?_
    exact w_X3_work_b258 F hr hlk t0 t1 hk10 _ _ _ _ _ h
set_option maxHeartbeats 4000000 in
set_option maxRecDepth 100000 in
theorem w_X3_work_b264 {g : gT} {p : Program} {l : Launch} {e : Env} {s : State} {m : MethodId} {args : Array Value} {below : List Frame} {meth : Method} {c : Code} {z : Int32 × Mem} (F : Fx g p s m args c cX3_work 8 uX3_work RX3) (hr : meth.sig.returnType = none) (hlk : meth.locks = false)  {a0 : Nat} {a1 : Nat} (t0 : Ty g 3 a0) (t1 : Ty g 8 a1)   (x2 : Int32) (x3 : Int32) (M : Mem)  (h : f_X3_work_b264 a0 a1 x2 x3 M = some z) : V g p l e ({ frames := 2, cells := 0, slots := 0, locals := 40 * 2 } : Room) s m args below meth c 8 0 0 (MQ below (gQ g none z.2) args s 0 0 (gA g)) 264 [(0, .ref (gAd g a0)), (1, .ref (gAd g a1)), (2, .int x2), (3, .int x3)] [] M := by
  unfold f_X3_work_b264 at h
  refine v_aload_n F dX3_work_264 rfl 0 rfl ?_
  refine v_iload_n F dX3_work_265 rfl 2 rfl ?_
  refine v_ldc (v := (-100000)) F (F.1.2.2.2.2 _ (List.mem_cons_of_mem _ cn_X3_43)) dX3_work_266 ?_
  refine v_ldc (v := 100000) F (F.1.2.2.2.2 _ (List.mem_cons_of_mem _ cn_X3_44)) dX3_work_268 ?_
  obtain ⟨⟨r60, M61⟩, hz62, h⟩ := bd_some h
  dsimp only at h
  refine v_callSNi (As := [.int x2, .int (-100000), .int 100000]) (rest := [.ref (gAd g a0)]) F (c_X10_bounded l F.2.2.1  hz62) ⟨va_cnB (host := RX10) 3 F.1.2.2.2.2 (gU_0 cd_X10_bounded) rfl rfl rfl (F.2.2.2.2.1 _ (by decide +kernel)) (F.1.2.2.2.2 _ (List.mem_cons_of_mem _ ini_X10)) (by decide +kernel) ⟨Nat.le_of_ble_eq_true rfl, Nat.le_of_ble_eq_true rfl⟩, F.1.2.2.2.2 _ (List.mem_cons_of_mem _ st_yX10_bounded), trivial⟩ rfl rfl (Nat.le_of_ble_eq_true rfl) dX3_work_270 ⟨Nat.le_of_ble_eq_true rfl, Nat.le_of_ble_eq_true rfl⟩ ?_
  refine v_put (k := 0) (ty := .int) F t0 (by decide) (inc inU_3) tyX3 tyX3_ok nmX3 rfl rfl (by decide) (List.mem_cons_of_mem _ fl_X3_48) rfl rfl (by decide +kernel) rfl rfl dX3_work_273 ?_
  refine v_aload_n F dX3_work_276 rfl 0 rfl ?_
  refine v_iload_n F dX3_work_277 rfl 3 rfl ?_
  refine v_ldc (v := (-100000)) F (F.1.2.2.2.2 _ (List.mem_cons_of_mem _ cn_X3_43)) dX3_work_278 ?_
  refine v_ldc (v := 100000) F (F.1.2.2.2.2 _ (List.mem_cons_of_mem _ cn_X3_44)) dX3_work_280 ?_
  obtain ⟨⟨r64, M65⟩, hz66, h⟩ := bd_some h
  dsimp only at h
  refine v_callSNi (As := [.int x3, .int (-100000), .int 100000]) (rest := [.ref (gAd g a0)]) F (c_X10_bounded l F.2.2.1  hz66) ⟨va_cnB (host := RX10) 3 F.1.2.2.2.2 (gU_0 cd_X10_bounded) rfl rfl rfl (F.2.2.2.2.1 _ (by decide +kernel)) (F.1.2.2.2.2 _ (List.mem_cons_of_mem _ ini_X10)) (by decide +kernel) ⟨Nat.le_of_ble_eq_true rfl, Nat.le_of_ble_eq_true rfl⟩, F.1.2.2.2.2 _ (List.mem_cons_of_mem _ st_yX10_bounded), trivial⟩ rfl rfl (Nat.le_of_ble_eq_true rfl) dX3_work_282 ⟨Nat.le_of_ble_eq_true rfl, Nat.le_of_ble_eq_true rfl⟩ ?_
  refine v_put (k := 1) (ty := .int) F t0 (by decide) (inc inU_3) tyX3 tyX3_ok nmX3 rfl rfl (by decide) (List.mem_cons_of_mem _ fl_X3_51) rfl rfl (by decide +kernel) rfl rfl dX3_work_285 ?_
  cases h
  exact v_vret F hr hlk dX3_work_288
set_option maxHeartbeats 4000000 in
set_option maxRecDepth 100000 in
theorem w_X3_work_h10 {g : gT} {p : Program} {l : Launch} {e : Env} {s : State} {m : MethodId} {args : Array Value} {below : List Frame} {meth : Method} {c : Code} {z : Int32 × Mem} (F : Fx g p s m args c cX3_work 8 uX3_work RX3) (hr : meth.sig.returnType = none) (hlk : meth.locks = false)  {a0 : Nat} {a1 : Nat} (t0 : Ty g 3 a0) (t1 : Ty g 8 a1)   : ∀ (n : Nat) (x2 : Int32) (x3 : Int32) (x4 : Int32) (x5 : Int32) (M : Mem), f_X3_work_h10 a0 a1 n x2 x3 x4 x5 M = some z → V g p l e ({ frames := 2, cells := 0, slots := 0, locals := 40 * 2 } : Room) s m args below meth c 8 0 0 (MQ below (gQ g none z.2) args s 0 0 (gA g)) 10 [(0, .ref (gAd g a0)), (1, .ref (gAd g a1)), (2, .int x2), (3, .int x3), (4, .int x4), (5, .int x5)] [] M := by
  intro n
  induction n with
  | zero => intro x2 x3 x4 x5 M; intros; rename_i h; cases h
  | succ n ih =>
    intro x2 x3 x4 x5 M h
    rw [f_X3_work_h10] at h
    refine v_iload F dX3_work_10 5 rfl ?_
    refine v_aload_n F dX3_work_12 rfl 0 rfl ?_
    refine v_getI (k := 4) F t0 (by decide) (inc inU_3) rfl rfl (by decide) (List.mem_cons_of_mem _ fl_X3_27) rfl dX3_work_13 ?_
    refine v_icmp_ge (tgt := 264) F dX3_work_16 (by decide) (fun hc1 => ?_) (fun hc1 => ?_)
    · rw [if_pos hc1] at h
      refine v_sub (fun ls h9 => lv_sub h9 [0, 1, 2, 3] rfl) ?_
      exact w_X3_work_b264 F hr hlk t0 t1 _ _ _ h
    · rw [if_neg hc1] at h
      refine v_iload F dX3_work_19 5 rfl ?_
      refine v_sipush (v := 300) F dX3_work_21 (by decide) ?_
      refine v_icmp_ge (tgt := 264) F dX3_work_24 (by decide) (fun hc2 => ?_) (fun hc2 => ?_)
      · rw [if_pos hc2] at h
        refine v_sub (fun ls h9 => lv_sub h9 [0, 1, 2, 3] rfl) ?_
        exact w_X3_work_b264 F hr hlk t0 t1 _ _ _ h
      · rw [if_neg hc2] at h
        refine v_aload_n F dX3_work_27 rfl 0 rfl ?_
        refine v_getR (k := 2) (f := 8) F t0 (by decide) (inc inU_3) rfl rfl (by decide) (by decide) (List.mem_cons_of_mem _ fl_X3_14) rfl dX3_work_28 (fun u3 => ?_)
        refine v_iload F dX3_work_31 5 rfl ?_
        obtain ⟨⟨r4, M5⟩, hz6, h⟩ := bd_some h
        dsimp only at h
        refine v_callVi (As := [.int x5]) (rest := []) F (c_X8_at l F.2.2.1 u3 hz6) (cwV 1 F.1.2.2.2.2 (gU_V ml_X3_31 im_yX8_at se_yX8_at ini_X8 cd_X8_at) rfl rfl rfl (by decide +kernel) ⟨Nat.le_of_ble_eq_true rfl, Nat.le_of_ble_eq_true rfl⟩) u3 (by decide) rfl rfl rfl (Nat.le_of_ble_eq_true rfl) dX3_work_33 ⟨Nat.le_of_ble_eq_true rfl, Nat.le_of_ble_eq_true rfl⟩ ?_
        refine v_istore (lv' := [(6, .int r4), (0, .ref (gAd g a0)), (1, .ref (gAd g a1)), (2, .int x2), (3, .int x3), (4, .int x4), (5, .int x5)]) F dX3_work_36 (by decide) rfl ?_
        refine v_aload_n F dX3_work_38 rfl 1 rfl ?_
        refine v_getR (k := 3) (f := 8) F t0 (by decide) (inc inU_3) rfl rfl (by decide) (by decide) (List.mem_cons_of_mem _ fl_X3_20) rfl dX3_work_39 (fun u8 => ?_)
        refine v_iload F dX3_work_42 5 rfl ?_
        refine v_iconst (v := 1) F dX3_work_44 (by decide) ?_
        refine v_isub F dX3_work_45 ?_
        obtain ⟨⟨r9, M10⟩, hz11, h⟩ := bd_some h
        dsimp only at h
        refine v_callVi (As := [.int (x4 - 1)]) (rest := []) F (c_X8_at l F.2.2.1 u8 hz11) (cwV 1 F.1.2.2.2.2 (gU_V ml_X3_31 im_yX8_at se_yX8_at ini_X8 cd_X8_at) rfl rfl rfl (by decide +kernel) ⟨Nat.le_of_ble_eq_true rfl, Nat.le_of_ble_eq_true rfl⟩) u8 (by decide) rfl rfl rfl (Nat.le_of_ble_eq_true rfl) dX3_work_46 ⟨Nat.le_of_ble_eq_true rfl, Nat.le_of_ble_eq_true rfl⟩ ?_
        refine v_istore (lv' := [(7, .int r9), (6, .int r4), (0, .ref (gAd g a0)), (1, .ref (gAd g a1)), (2, .int x2), (3, .int x3), (4, .int x4), (5, .int x5)]) F dX3_work_49 (by decide) rfl ?_
        refine v_iload F dX3_work_51 1 rfl ?_
        refine v_sipush (v := 1000) F dX3_work_53 (by decide) ?_
        refine v_icmp_lt (tgt := 80) F dX3_work_56 (by decide) (fun hc13 => ?_) (fun hc13 => ?_)
        · rw [if_pos hc13] at h
          refine v_iload F dX3_work_80 1 rfl ?_
          refine v_sipush (v := 300) F dX3_work_82 (by decide) ?_
          refine v_icmp_lt (tgt := 121) F dX3_work_85 (by decide) (fun hc14 => ?_) (fun hc14 => ?_)
          · rw [if_pos hc14] at h
            refine v_sub (fun ls h9 => lv_sub h9 [2, 3, 4, 5, 6, 7, 1, 0] rfl) ?_
            exact w_X3_work_b121 F hr hlk t0 t1 ih _ _ _ _ _ _ _ h
          · rw [if_neg hc14] at h
            refine v_iload F dX3_work_88 1 rfl ?_
            refine v_sipush (v := 309) F dX3_work_90 (by decide) ?_
            refine v_icmp_ge (tgt := 121) F dX3_work_93 (by decide) (fun hc15 => ?_) (fun hc15 => ?_)
            · rw [if_pos hc15] at h
              refine v_sub (fun ls h9 => lv_sub h9 [2, 3, 4, 5, 6, 7, 1, 0] rfl) ?_
              exact w_X3_work_b121 F hr hlk t0 t1 ih _ _ _ _ _ _ _ h
            · rw [if_neg hc15] at h
              refine v_aload_n F dX3_work_96 rfl 2 rfl ?_
              refine v_getR (k := 3) (f := 8) F t0 (by decide) (inc inU_3) rfl rfl (by decide) (by decide) (List.mem_cons_of_mem _ fl_X3_20) rfl dX3_work_97 (fun u16 => ?_)
              refine v_iload F dX3_work_100 6 rfl ?_
              refine v_aload_n F dX3_work_102 rfl 3 rfl ?_
              refine v_iload F dX3_work_103 1 rfl ?_
              refine v_sipush (v := 300) F dX3_work_105 (by decide) ?_
              refine v_isub F dX3_work_108 ?_
              obtain ⟨⟨r17, M18⟩, hz19, h⟩ := bd_some h
              dsimp only at h
              refine v_callVi (As := [.int (r4 - 300)]) (rest := [.int x4, .ref (gAd g (gRf a0 3))]) F (c_X8_at l F.2.2.1 t1 hz19) (cwV 1 F.1.2.2.2.2 (gU_V ml_X3_31 im_yX8_at se_yX8_at ini_X8 cd_X8_at) rfl rfl rfl (by decide +kernel) ⟨Nat.le_of_ble_eq_true rfl, Nat.le_of_ble_eq_true rfl⟩) t1 (by decide) rfl rfl rfl (Nat.le_of_ble_eq_true rfl) dX3_work_109 ⟨Nat.le_of_ble_eq_true rfl, Nat.le_of_ble_eq_true rfl⟩ ?_
              obtain ⟨⟨r21, M22⟩, hz23, h⟩ := bd_some h
              dsimp only at h
              refine v_callVv (As := [.int x4, .int r17]) (rest := []) F (c_X8_put l F.2.2.1 u16 hz23) (cwV 2 F.1.2.2.2.2 (gU_V ml_X3_35 im_yX8_put se_yX8_put ini_X8 cd_X8_put) rfl rfl rfl (by decide +kernel) ⟨Nat.le_of_ble_eq_true rfl, Nat.le_of_ble_eq_true rfl⟩) u16 (by decide) rfl rfl rfl (Nat.le_of_ble_eq_true rfl) dX3_work_112 ⟨Nat.le_of_ble_eq_true rfl, Nat.le_of_ble_eq_true rfl⟩ ?_
              refine v_iinc (v := x4 + 1) (lv' := [(4, .int (x4 + 1)), (7, .int r9), (6, .int r4), (0, .ref (gAd g a0)), (1, .ref (gAd g a1)), (2, .int x2), (3, .int x3), (5, .int x5)]) F dX3_work_115 (q := 6) rfl rfl (by decide) rfl ?_
              refine v_goto (tgt := 258) F dX3_work_118 (by decide) ?_
              refine v_sub (fun ls h9 => lv_sub h9 [3, 4, 5, 6, 0, 7] rfl) ?_
              exact w_X3_work_b258 F hr hlk t0 t1 ih _ _ _ _ _ h
        · rw [if_neg hc13] at h
          refine v_aload_n F dX3_work_59 rfl 2 rfl ?_
          refine v_getR (k := 3) (f := 8) F t0 (by decide) (inc inU_3) rfl rfl (by decide) (by decide) (List.mem_cons_of_mem _ fl_X3_20) rfl dX3_work_60 (fun u25 => ?_)
          refine v_iload F dX3_work_63 6 rfl ?_
          refine v_iload F dX3_work_65 1 rfl ?_
          refine v_sipush (v := 1000) F dX3_work_67 (by decide) ?_
          refine v_isub F dX3_work_70 ?_
          obtain ⟨⟨r26, M27⟩, hz28, h⟩ := bd_some h
          dsimp only at h
          refine v_callVv (As := [.int x4, .int (r4 - 1000)]) (rest := []) F (c_X8_put l F.2.2.1 u25 hz28) (cwV 2 F.1.2.2.2.2 (gU_V ml_X3_35 im_yX8_put se_yX8_put ini_X8 cd_X8_put) rfl rfl rfl (by decide +kernel) ⟨Nat.le_of_ble_eq_true rfl, Nat.le_of_ble_eq_true rfl⟩) u25 (by decide) rfl rfl rfl (Nat.le_of_ble_eq_true rfl) dX3_work_71 ⟨Nat.le_of_ble_eq_true rfl, Nat.le_of_ble_eq_true rfl⟩ ?_
          refine v_iinc (v := x4 + 1) (lv' := [(4, .int (x4 + 1)), (7, .int r9), (6, .int r4), (0, .ref (gAd g a0)), (1, .ref (gAd g a1)), (2, .int x2), (3, .int x3), (5, .int x5)]) F dX3_work_74 (q := 6) rfl rfl (by decide) rfl ?_
          refine v_goto (tgt := 258) F dX3_work_77 (by decide) ?_
          refine v_sub (fun ls h9 => lv_sub h9 [3, 4, 5, 6, 0, 7] rfl) ?_
          exact w_X3_work_b258 F hr hlk t0 t1 ih _ _ _ _ _ h
set_option maxHeartbeats 4000000 in
set_option maxRecDepth 100000 in
theorem c_X3_work {g : gT} (l : Launch) (hok : gOK g)  {a0 : Nat} {a1 : Nat} {M : Mem} {z : Int32 × Mem}  (t0 : Ty g 3 a0) (t1 : Ty g 8 a1) (h : f_X3_work  M a0 a1 = some z) : Cn g l yX3_work uX3_work 2 [.ref (gAd g a0), .ref (gAd g a1)] M none z.2 := by
  refine Cn.of (cc := cX3_work) (maxL := 8) (ret := none) hok (by decide) rfl (Nat.le_of_ble_eq_true rfl) (fun p e s m args below meth c F hr hlk => ?_)
  unfold f_X3_work at h
  show V g p l e ({ frames := 2, cells := 0, slots := 0, locals := 40 * 2 } : Room) s m args below meth c 8 0 0 (MQ below (gQ g none z.2) args s 0 0 (gA g)) 0 [(0, .ref (gAd g a0)), (1, .ref (gAd g a1))] [] M
  refine v_iconst (v := 0) F dX3_work_0 (by decide) ?_
  refine v_istore_n (lv' := [(2, .int 0), (0, .ref (gAd g a0)), (1, .ref (gAd g a1))]) F dX3_work_1 rfl (by decide) rfl ?_
  refine v_iconst (v := 0) F dX3_work_2 (by decide) ?_
  refine v_istore_n (lv' := [(3, .int 0), (2, .int 0), (0, .ref (gAd g a0)), (1, .ref (gAd g a1))]) F dX3_work_3 rfl (by decide) rfl ?_
  refine v_iconst (v := 0) F dX3_work_4 (by decide) ?_
  refine v_istore (lv' := [(4, .int 0), (3, .int 0), (2, .int 0), (0, .ref (gAd g a0)), (1, .ref (gAd g a1))]) F dX3_work_5 (by decide) rfl ?_
  refine v_iconst (v := 0) F dX3_work_7 (by decide) ?_
  refine v_istore (lv' := [(5, .int 0), (4, .int 0), (3, .int 0), (2, .int 0), (0, .ref (gAd g a0)), (1, .ref (gAd g a1))]) F dX3_work_8 (by decide) rfl ?_
  refine v_sub (fun ls h9 => lv_sub h9 [4, 5, 3, 2, 1, 0] rfl) ?_
  exact w_X3_work_h10 F hr hlk t0 t1 _ _ _ _ _ _ h
def f_X1_tick_b49 (a0 : Nat) (a1 : Nat) (i2 : Int32) (i3 : Int32) (k3 : Int32 → Mem → Option (Int32 × Mem)) (s0 : Int32) (x4 : Int32) (M : Mem) : Option (Int32 × Mem) := (f_X8_at M (gRf a0 2) 1).bind fun q => match q with | (r24, M25) => ((f_X8_at M25 (gRf a0 2) 3).bind fun q => match q with | (r29, M30) => ((f_X1_pullOf M30 a0 (gRf a0 3) x4 r24 r29).bind fun q => match q with | (r33, M34) => ((f_X8_at M34 (gRf a0 2) 2).bind fun q => match q with | (r39, M40) => ((f_X1_pullOf M40 a0 (gRf a0 4) x4 r39 s0).bind fun q => match q with | (r43, M44) => ((f_X8_at M44 (gRf a0 5) x4).bind fun q => match q with | (r49, M50) => ((f_X1_faster M50 a0 r49 r33 (((M50 a1 0) * i3) / 100)).bind fun q => match q with | (r53, M54) => ((f_X8_put M54 (gRf a0 5) x4 r53).bind fun q => match q with | (r57, M58) => ((f_X8_at M58 (gRf a0 6) x4).bind fun q => match q with | (r63, M64) => ((f_X1_faster M64 a0 r63 r43 (((M64 a1 1) * i3) / 100)).bind fun q => match q with | (r67, M68) => ((f_X8_put M68 (gRf a0 6) x4 r67).bind fun q => match q with | (r71, M72) => (k3 (x4 + 1) M72)))))))))))
def f_X1_tick_h176 (a0 : Nat) (a1 : Nat) (i2 : Int32) (i3 : Int32)  : Nat → Int32 → Mem → Option (Int32 × Mem)
  | 0, _, _ => none
  | n + 1, x4, M => if (M a0 0) ≤ x4 then ((f_X1_breakWhatGives (mU M a0 1 ((M a0 1) + 1)) a0).bind fun q => match q with | (r76, M77) => (some (0, M77))) else ((f_X8_at M (gRf a0 3) x4).bind fun q => match q with | (r82, M83) => ((f_X8_at M83 (gRf a0 5) x4).bind fun q => match q with | (r87, M88) => ((f_X1_reach M88 (r82 + r87)).bind fun q => match q with | (r91, M92) => ((f_X8_put M92 (gRf a0 3) x4 r91).bind fun q => match q with | (r95, M96) => ((f_X8_at M96 (gRf a0 4) x4).bind fun q => match q with | (r101, M102) => ((f_X8_at M102 (gRf a0 6) x4).bind fun q => match q with | (r106, M107) => ((f_X1_reach M107 (r101 + r106)).bind fun q => match q with | (r110, M111) => ((f_X8_put M111 (gRf a0 4) x4 r110).bind fun q => match q with | (r114, M115) => ((f_X1_tick_h176 a0 a1 i2 i3 n) (x4 + 1) M115)))))))))
def f_X1_tick_h3 (a0 : Nat) (a1 : Nat) (i2 : Int32) (i3 : Int32)  : Nat → Int32 → Mem → Option (Int32 × Mem)
  | 0, _, _ => none
  | n + 1, x4, M => if (M a0 0) ≤ x4 then (f_X1_tick_h176 a0 a1 i2 i3 FU 0 M) else ((f_X1_namesOf M a0 x4 i2).bind fun q => match q with | (r2, M3) => ((f_X3_work M3 a1 r2).bind fun q => match q with | (r7, M8) => ((f_X8_at M8 (gRf a0 7) x4).bind fun q => match q with | (r12, M13) => (if r12 = 2 then ((f_X8_at M13 (gRf a0 2) 8).bind fun q => match q with | (r18, M19) => (f_X1_tick_b49 a0 a1 i2 i3 (f_X1_tick_h3 a0 a1 i2 i3 n) r18 x4 M19)) else (f_X1_tick_b49 a0 a1 i2 i3 (f_X1_tick_h3 a0 a1 i2 i3 n) 0 x4 M13)))))
def f_X1_tick  (M : Mem) (a0 : Nat) (a1 : Nat) (i2 : Int32) (i3 : Int32) : Option (Int32 × Mem) := f_X1_tick_h3 a0 a1 i2 i3 FU 0 M
set_option maxHeartbeats 4000000 in
set_option maxRecDepth 100000 in
theorem w_X1_tick_b49 {g : gT} {p : Program} {l : Launch} {e : Env} {s : State} {m : MethodId} {args : Array Value} {below : List Frame} {meth : Method} {c : Code} {z : Int32 × Mem} (F : Fx g p s m args c cX1_tick 8 uX1_tick RX1) (hr : meth.sig.returnType = none) (hlk : meth.locks = false)  {a0 : Nat} {a1 : Nat} {i2 : Int32} {i3 : Int32} (t0 : Ty g 1 a0) (t1 : Ty g 3 a1) {k3 : Int32 → Mem → Option (Int32 × Mem)} (hk3 : ∀ (x4 : Int32) (M : Mem), k3 x4 M = some z → V g p l e ({ frames := 3, cells := 0, slots := 0, locals := 40 * 3 } : Room) s m args below meth c 8 0 0 (MQ below (gQ g none z.2) args s 0 0 (gA g)) 3 [(0, .ref (gAd g a0)), (1, .ref (gAd g a1)), (2, .int i2), (3, .int i3), (4, .int x4)] [] M) (s0 : Int32) (x4 : Int32) (M : Mem)  (h : f_X1_tick_b49 a0 a1 i2 i3 k3 s0 x4 M = some z) : V g p l e ({ frames := 3, cells := 0, slots := 0, locals := 40 * 3 } : Room) s m args below meth c 8 0 0 (MQ below (gQ g none z.2) args s 0 0 (gA g)) 49 [(0, .ref (gAd g a0)), (1, .ref (gAd g a1)), (2, .int i2), (3, .int i3), (4, .int x4)] [.int s0] M := by
  unfold f_X1_tick_b49 at h
  refine v_istore (lv' := [(5, .int s0), (0, .ref (gAd g a0)), (1, .ref (gAd g a1)), (2, .int i2), (3, .int i3), (4, .int x4)]) F dX1_tick_49 (by decide) rfl ?_
  refine v_aload_n F dX1_tick_51 rfl 1 rfl ?_
  refine v_aload_n F dX1_tick_52 rfl 1 rfl ?_
  refine v_getR (k := 3) (f := 8) F t0 (by decide) (inc inU_1) rfl rfl (by decide) (by decide) (List.mem_cons_of_mem _ fl_X1_20) rfl dX1_tick_53 (fun u22 => ?_)
  refine v_iload F dX1_tick_56 5 rfl ?_
  refine v_aload_n F dX1_tick_58 rfl 1 rfl ?_
  refine v_getR (k := 2) (f := 8) F t0 (by decide) (inc inU_1) rfl rfl (by decide) (by decide) (List.mem_cons_of_mem _ fl_X1_14) rfl dX1_tick_59 (fun u23 => ?_)
  refine v_iconst (v := 1) F dX1_tick_62 (by decide) ?_
  obtain ⟨⟨r24, M25⟩, hz26, h⟩ := bd_some h
  dsimp only at h
  refine v_callVi (As := [.int 1]) (rest := [.int x4, .ref (gAd g (gRf a0 3)), .ref (gAd g a0)]) F (c_X8_at l F.2.2.1 u23 hz26) (cwV 1 F.1.2.2.2.2 (gU_V ml_X1_69 im_yX8_at se_yX8_at ini_X8 cd_X8_at) rfl rfl rfl (by decide +kernel) ⟨Nat.le_of_ble_eq_true rfl, Nat.le_of_ble_eq_true rfl⟩) u23 (by decide) rfl rfl rfl (Nat.le_of_ble_eq_true rfl) dX1_tick_63 ⟨Nat.le_of_ble_eq_true rfl, Nat.le_of_ble_eq_true rfl⟩ ?_
  refine v_aload_n F dX1_tick_66 rfl 1 rfl ?_
  refine v_getR (k := 2) (f := 8) F t0 (by decide) (inc inU_1) rfl rfl (by decide) (by decide) (List.mem_cons_of_mem _ fl_X1_14) rfl dX1_tick_67 (fun u28 => ?_)
  refine v_iconst (v := 3) F dX1_tick_70 (by decide) ?_
  obtain ⟨⟨r29, M30⟩, hz31, h⟩ := bd_some h
  dsimp only at h
  refine v_callVi (As := [.int 3]) (rest := [.int r24, .int x4, .ref (gAd g (gRf a0 3)), .ref (gAd g a0)]) F (c_X8_at l F.2.2.1 u28 hz31) (cwV 1 F.1.2.2.2.2 (gU_V ml_X1_69 im_yX8_at se_yX8_at ini_X8 cd_X8_at) rfl rfl rfl (by decide +kernel) ⟨Nat.le_of_ble_eq_true rfl, Nat.le_of_ble_eq_true rfl⟩) u28 (by decide) rfl rfl rfl (Nat.le_of_ble_eq_true rfl) dX1_tick_71 ⟨Nat.le_of_ble_eq_true rfl, Nat.le_of_ble_eq_true rfl⟩ ?_
  obtain ⟨⟨r33, M34⟩, hz35, h⟩ := bd_some h
  dsimp only at h
  refine v_callVi (As := [.ref (gAd g (gRf a0 3)), .int x4, .int r24, .int r29]) (rest := []) F (c_X1_pullOf l F.2.2.1 t0 u22 hz35) (cwV 4 F.1.2.2.2.2 (gU_V ml_X1_105 im_yX1_pullOf se_yX1_pullOf ini_X1 cd_X1_pullOf) rfl rfl rfl (by decide +kernel) ⟨Nat.le_of_ble_eq_true rfl, Nat.le_of_ble_eq_true rfl⟩) t0 (by decide) rfl rfl rfl (Nat.le_of_ble_eq_true rfl) dX1_tick_74 ⟨Nat.le_of_ble_eq_true rfl, Nat.le_of_ble_eq_true rfl⟩ ?_
  refine v_istore (lv' := [(6, .int r33), (5, .int s0), (0, .ref (gAd g a0)), (1, .ref (gAd g a1)), (2, .int i2), (3, .int i3), (4, .int x4)]) F dX1_tick_77 (by decide) rfl ?_
  refine v_aload_n F dX1_tick_79 rfl 2 rfl ?_
  refine v_aload_n F dX1_tick_80 rfl 2 rfl ?_
  refine v_getR (k := 4) (f := 8) F t0 (by decide) (inc inU_1) rfl rfl (by decide) (by decide) (List.mem_cons_of_mem _ fl_X1_23) rfl dX1_tick_81 (fun u37 => ?_)
  refine v_iload F dX1_tick_84 6 rfl ?_
  refine v_aload_n F dX1_tick_86 rfl 2 rfl ?_
  refine v_getR (k := 2) (f := 8) F t0 (by decide) (inc inU_1) rfl rfl (by decide) (by decide) (List.mem_cons_of_mem _ fl_X1_14) rfl dX1_tick_87 (fun u38 => ?_)
  refine v_iconst (v := 2) F dX1_tick_90 (by decide) ?_
  obtain ⟨⟨r39, M40⟩, hz41, h⟩ := bd_some h
  dsimp only at h
  refine v_callVi (As := [.int 2]) (rest := [.int x4, .ref (gAd g (gRf a0 4)), .ref (gAd g a0)]) F (c_X8_at l F.2.2.1 u38 hz41) (cwV 1 F.1.2.2.2.2 (gU_V ml_X1_69 im_yX8_at se_yX8_at ini_X8 cd_X8_at) rfl rfl rfl (by decide +kernel) ⟨Nat.le_of_ble_eq_true rfl, Nat.le_of_ble_eq_true rfl⟩) u38 (by decide) rfl rfl rfl (Nat.le_of_ble_eq_true rfl) dX1_tick_91 ⟨Nat.le_of_ble_eq_true rfl, Nat.le_of_ble_eq_true rfl⟩ ?_
  refine v_iload F dX1_tick_94 1 rfl ?_
  obtain ⟨⟨r43, M44⟩, hz45, h⟩ := bd_some h
  dsimp only at h
  refine v_callVi (As := [.ref (gAd g (gRf a0 4)), .int x4, .int r39, .int s0]) (rest := []) F (c_X1_pullOf l F.2.2.1 t0 u37 hz45) (cwV 4 F.1.2.2.2.2 (gU_V ml_X1_105 im_yX1_pullOf se_yX1_pullOf ini_X1 cd_X1_pullOf) rfl rfl rfl (by decide +kernel) ⟨Nat.le_of_ble_eq_true rfl, Nat.le_of_ble_eq_true rfl⟩) t0 (by decide) rfl rfl rfl (Nat.le_of_ble_eq_true rfl) dX1_tick_96 ⟨Nat.le_of_ble_eq_true rfl, Nat.le_of_ble_eq_true rfl⟩ ?_
  refine v_istore (lv' := [(7, .int r43), (6, .int r33), (5, .int s0), (0, .ref (gAd g a0)), (1, .ref (gAd g a1)), (2, .int i2), (3, .int i3), (4, .int x4)]) F dX1_tick_99 (by decide) rfl ?_
  refine v_aload_n F dX1_tick_101 rfl 3 rfl ?_
  refine v_getR (k := 5) (f := 8) F t0 (by decide) (inc inU_1) rfl rfl (by decide) (by decide) (List.mem_cons_of_mem _ fl_X1_26) rfl dX1_tick_102 (fun u47 => ?_)
  refine v_iload F dX1_tick_105 7 rfl ?_
  refine v_aload_n F dX1_tick_107 rfl 3 rfl ?_
  refine v_aload_n F dX1_tick_108 rfl 3 rfl ?_
  refine v_getR (k := 5) (f := 8) F t0 (by decide) (inc inU_1) rfl rfl (by decide) (by decide) (List.mem_cons_of_mem _ fl_X1_26) rfl dX1_tick_109 (fun u48 => ?_)
  refine v_iload F dX1_tick_112 7 rfl ?_
  obtain ⟨⟨r49, M50⟩, hz51, h⟩ := bd_some h
  dsimp only at h
  refine v_callVi (As := [.int x4]) (rest := [.ref (gAd g a0), .int x4, .ref (gAd g (gRf a0 5))]) F (c_X8_at l F.2.2.1 u48 hz51) (cwV 1 F.1.2.2.2.2 (gU_V ml_X1_69 im_yX8_at se_yX8_at ini_X8 cd_X8_at) rfl rfl rfl (by decide +kernel) ⟨Nat.le_of_ble_eq_true rfl, Nat.le_of_ble_eq_true rfl⟩) u48 (by decide) rfl rfl rfl (Nat.le_of_ble_eq_true rfl) dX1_tick_114 ⟨Nat.le_of_ble_eq_true rfl, Nat.le_of_ble_eq_true rfl⟩ ?_
  refine v_iload F dX1_tick_117 1 rfl ?_
  refine v_aload_n F dX1_tick_119 rfl 4 rfl ?_
  refine v_getI (k := 0) F t1 (by decide) (inc inU_3) rfl rfl (by decide) (List.mem_cons_of_mem _ fl_X1_109) rfl dX1_tick_120 ?_
  refine v_iload_n F dX1_tick_123 rfl 6 rfl ?_
  refine v_imul F dX1_tick_124 ?_
  refine v_bipush (v := 100) F dX1_tick_125 (by decide) ?_
  refine v_idiv F dX1_tick_127 (by decide) ?_
  obtain ⟨⟨r53, M54⟩, hz55, h⟩ := bd_some h
  dsimp only at h
  refine v_callVi (As := [.int r49, .int r33, .int (((M50 a1 0) * i3) / 100)]) (rest := [.int x4, .ref (gAd g (gRf a0 5))]) F (c_X1_faster l F.2.2.1 t0 hz55) (cwV 3 F.1.2.2.2.2 (gU_V ml_X1_112 im_yX1_faster se_yX1_faster ini_X1 cd_X1_faster) rfl rfl rfl (by decide +kernel) ⟨Nat.le_of_ble_eq_true rfl, Nat.le_of_ble_eq_true rfl⟩) t0 (by decide) rfl rfl rfl (Nat.le_of_ble_eq_true rfl) dX1_tick_128 ⟨Nat.le_of_ble_eq_true rfl, Nat.le_of_ble_eq_true rfl⟩ ?_
  obtain ⟨⟨r57, M58⟩, hz59, h⟩ := bd_some h
  dsimp only at h
  refine v_callVv (As := [.int x4, .int r53]) (rest := []) F (c_X8_put l F.2.2.1 u47 hz59) (cwV 2 F.1.2.2.2.2 (gU_V ml_X1_45 im_yX8_put se_yX8_put ini_X8 cd_X8_put) rfl rfl rfl (by decide +kernel) ⟨Nat.le_of_ble_eq_true rfl, Nat.le_of_ble_eq_true rfl⟩) u47 (by decide) rfl rfl rfl (Nat.le_of_ble_eq_true rfl) dX1_tick_131 ⟨Nat.le_of_ble_eq_true rfl, Nat.le_of_ble_eq_true rfl⟩ ?_
  refine v_aload_n F dX1_tick_134 rfl 3 rfl ?_
  refine v_getR (k := 6) (f := 8) F t0 (by decide) (inc inU_1) rfl rfl (by decide) (by decide) (List.mem_cons_of_mem _ fl_X1_29) rfl dX1_tick_135 (fun u61 => ?_)
  refine v_iload F dX1_tick_138 7 rfl ?_
  refine v_aload_n F dX1_tick_140 rfl 3 rfl ?_
  refine v_aload_n F dX1_tick_141 rfl 3 rfl ?_
  refine v_getR (k := 6) (f := 8) F t0 (by decide) (inc inU_1) rfl rfl (by decide) (by decide) (List.mem_cons_of_mem _ fl_X1_29) rfl dX1_tick_142 (fun u62 => ?_)
  refine v_iload F dX1_tick_145 7 rfl ?_
  obtain ⟨⟨r63, M64⟩, hz65, h⟩ := bd_some h
  dsimp only at h
  refine v_callVi (As := [.int x4]) (rest := [.ref (gAd g a0), .int x4, .ref (gAd g (gRf a0 6))]) F (c_X8_at l F.2.2.1 u62 hz65) (cwV 1 F.1.2.2.2.2 (gU_V ml_X1_69 im_yX8_at se_yX8_at ini_X8 cd_X8_at) rfl rfl rfl (by decide +kernel) ⟨Nat.le_of_ble_eq_true rfl, Nat.le_of_ble_eq_true rfl⟩) u62 (by decide) rfl rfl rfl (Nat.le_of_ble_eq_true rfl) dX1_tick_147 ⟨Nat.le_of_ble_eq_true rfl, Nat.le_of_ble_eq_true rfl⟩ ?_
  refine v_iload F dX1_tick_150 0 rfl ?_
  refine v_aload_n F dX1_tick_152 rfl 4 rfl ?_
  refine v_getI (k := 1) F t1 (by decide) (inc inU_3) rfl rfl (by decide) (List.mem_cons_of_mem _ fl_X1_115) rfl dX1_tick_153 ?_
  refine v_iload_n F dX1_tick_156 rfl 6 rfl ?_
  refine v_imul F dX1_tick_157 ?_
  refine v_bipush (v := 100) F dX1_tick_158 (by decide) ?_
  refine v_idiv F dX1_tick_160 (by decide) ?_
  obtain ⟨⟨r67, M68⟩, hz69, h⟩ := bd_some h
  dsimp only at h
  refine v_callVi (As := [.int r63, .int r43, .int (((M64 a1 1) * i3) / 100)]) (rest := [.int x4, .ref (gAd g (gRf a0 6))]) F (c_X1_faster l F.2.2.1 t0 hz69) (cwV 3 F.1.2.2.2.2 (gU_V ml_X1_112 im_yX1_faster se_yX1_faster ini_X1 cd_X1_faster) rfl rfl rfl (by decide +kernel) ⟨Nat.le_of_ble_eq_true rfl, Nat.le_of_ble_eq_true rfl⟩) t0 (by decide) rfl rfl rfl (Nat.le_of_ble_eq_true rfl) dX1_tick_161 ⟨Nat.le_of_ble_eq_true rfl, Nat.le_of_ble_eq_true rfl⟩ ?_
  obtain ⟨⟨r71, M72⟩, hz73, h⟩ := bd_some h
  dsimp only at h
  refine v_callVv (As := [.int x4, .int r67]) (rest := []) F (c_X8_put l F.2.2.1 u61 hz73) (cwV 2 F.1.2.2.2.2 (gU_V ml_X1_45 im_yX8_put se_yX8_put ini_X8 cd_X8_put) rfl rfl rfl (by decide +kernel) ⟨Nat.le_of_ble_eq_true rfl, Nat.le_of_ble_eq_true rfl⟩) u61 (by decide) rfl rfl rfl (Nat.le_of_ble_eq_true rfl) dX1_tick_164 ⟨Nat.le_of_ble_eq_true rfl, Nat.le_of_ble_eq_true rfl⟩ ?_
  refine v_iinc (v := x4 + 1) (lv' := [(4, .int (x4 + 1)), (7, .int r43), (6, .int r33), (5, .int s0), (0, .ref (gAd g a0)), (1, .ref (gAd g a1)), (2, .int i2), (3, .int i3)]) F dX1_tick_167 (q := 7) rfl rfl (by decide) rfl ?_
  refine v_goto (tgt := 3) F dX1_tick_170 (by decide) ?_
  refine v_sub (fun ls h9 => lv_sub h9 [4, 5, 6, 7, 0] rfl) ?_
  exact hk3 _ _ h
set_option maxHeartbeats 4000000 in
set_option maxRecDepth 100000 in
theorem w_X1_tick_h176 {g : gT} {p : Program} {l : Launch} {e : Env} {s : State} {m : MethodId} {args : Array Value} {below : List Frame} {meth : Method} {c : Code} {z : Int32 × Mem} (F : Fx g p s m args c cX1_tick 8 uX1_tick RX1) (hr : meth.sig.returnType = none) (hlk : meth.locks = false)  {a0 : Nat} {a1 : Nat} {i2 : Int32} {i3 : Int32} (t0 : Ty g 1 a0) (t1 : Ty g 3 a1)   : ∀ (n : Nat) (x4 : Int32) (M : Mem), f_X1_tick_h176 a0 a1 i2 i3 n x4 M = some z → V g p l e ({ frames := 3, cells := 0, slots := 0, locals := 40 * 3 } : Room) s m args below meth c 8 0 0 (MQ below (gQ g none z.2) args s 0 0 (gA g)) 176 [(0, .ref (gAd g a0)), (1, .ref (gAd g a1)), (2, .int i2), (3, .int i3), (4, .int x4)] [] M := by
  intro n
  induction n with
  | zero => intro x4 M; intros; rename_i h; cases h
  | succ n ih =>
    intro x4 M h
    rw [f_X1_tick_h176] at h
    refine v_iload F dX1_tick_176 4 rfl ?_
    refine v_aload_n F dX1_tick_178 rfl 0 rfl ?_
    refine v_getI (k := 0) F t0 (by decide) (inc inU_1) rfl rfl (by decide) (List.mem_cons_of_mem _ fl_X1_52) rfl dX1_tick_179 ?_
    refine v_icmp_ge (tgt := 253) F dX1_tick_182 (by decide) (fun hc75 => ?_) (fun hc75 => ?_)
    · rw [if_pos hc75] at h
      refine v_aload_n F dX1_tick_253 rfl 0 rfl ?_
      refine v_dup F dX1_tick_254 rfl ?_
      refine v_getI (k := 1) F t0 (by decide) (inc inU_1) rfl rfl (by decide) (List.mem_cons_of_mem _ fl_X1_56) rfl dX1_tick_255 ?_
      refine v_iconst (v := 1) F dX1_tick_258 (by decide) ?_
      refine v_iadd F dX1_tick_259 ?_
      refine v_put (k := 1) (ty := .int) F t0 (by decide) (inc inU_1) tyX1 tyX1_ok nmX1 rfl rfl (by decide) (List.mem_cons_of_mem _ fl_X1_56) rfl rfl (by decide +kernel) rfl rfl dX1_tick_260 ?_
      refine v_aload_n F dX1_tick_263 rfl 0 rfl ?_
      obtain ⟨⟨r76, M77⟩, hz78, h⟩ := bd_some h
      dsimp only at h
      refine v_callVv (As := []) (rest := []) F (c_X1_breakWhatGives l F.2.2.1 t0 hz78) (cwV 0 F.1.2.2.2.2 (gU_V ml_X1_121 im_yX1_breakWhatGives se_yX1_breakWhatGives ini_X1 cd_X1_breakWhatGives) rfl rfl rfl (by decide +kernel) ⟨Nat.le_of_ble_eq_true rfl, Nat.le_of_ble_eq_true rfl⟩) t0 (by decide) rfl rfl rfl (Nat.le_of_ble_eq_true rfl) dX1_tick_264 ⟨Nat.le_of_ble_eq_true rfl, Nat.le_of_ble_eq_true rfl⟩ ?_
      cases h
      exact v_vret F hr hlk dX1_tick_267
    · rw [if_neg hc75] at h
      refine v_aload_n F dX1_tick_185 rfl 0 rfl ?_
      refine v_getR (k := 3) (f := 8) F t0 (by decide) (inc inU_1) rfl rfl (by decide) (by decide) (List.mem_cons_of_mem _ fl_X1_20) rfl dX1_tick_186 (fun u80 => ?_)
      refine v_iload F dX1_tick_189 4 rfl ?_
      refine v_aload_n F dX1_tick_191 rfl 0 rfl ?_
      refine v_getR (k := 3) (f := 8) F t0 (by decide) (inc inU_1) rfl rfl (by decide) (by decide) (List.mem_cons_of_mem _ fl_X1_20) rfl dX1_tick_192 (fun u81 => ?_)
      refine v_iload F dX1_tick_195 4 rfl ?_
      obtain ⟨⟨r82, M83⟩, hz84, h⟩ := bd_some h
      dsimp only at h
      refine v_callVi (As := [.int x4]) (rest := [.int x4, .ref (gAd g (gRf a0 3))]) F (c_X8_at l F.2.2.1 u81 hz84) (cwV 1 F.1.2.2.2.2 (gU_V ml_X1_69 im_yX8_at se_yX8_at ini_X8 cd_X8_at) rfl rfl rfl (by decide +kernel) ⟨Nat.le_of_ble_eq_true rfl, Nat.le_of_ble_eq_true rfl⟩) u81 (by decide) rfl rfl rfl (Nat.le_of_ble_eq_true rfl) dX1_tick_197 ⟨Nat.le_of_ble_eq_true rfl, Nat.le_of_ble_eq_true rfl⟩ ?_
      refine v_aload_n F dX1_tick_200 rfl 0 rfl ?_
      refine v_getR (k := 5) (f := 8) F t0 (by decide) (inc inU_1) rfl rfl (by decide) (by decide) (List.mem_cons_of_mem _ fl_X1_26) rfl dX1_tick_201 (fun u86 => ?_)
      refine v_iload F dX1_tick_204 4 rfl ?_
      obtain ⟨⟨r87, M88⟩, hz89, h⟩ := bd_some h
      dsimp only at h
      refine v_callVi (As := [.int x4]) (rest := [.int r82, .int x4, .ref (gAd g (gRf a0 3))]) F (c_X8_at l F.2.2.1 u86 hz89) (cwV 1 F.1.2.2.2.2 (gU_V ml_X1_69 im_yX8_at se_yX8_at ini_X8 cd_X8_at) rfl rfl rfl (by decide +kernel) ⟨Nat.le_of_ble_eq_true rfl, Nat.le_of_ble_eq_true rfl⟩) u86 (by decide) rfl rfl rfl (Nat.le_of_ble_eq_true rfl) dX1_tick_206 ⟨Nat.le_of_ble_eq_true rfl, Nat.le_of_ble_eq_true rfl⟩ ?_
      refine v_iadd F dX1_tick_209 ?_
      obtain ⟨⟨r91, M92⟩, hz93, h⟩ := bd_some h
      dsimp only at h
      refine v_callSi (As := [.int (r82 + r87)]) (rest := [.int x4, .ref (gAd g (gRf a0 3))]) F (c_X1_reach l F.2.2.1  hz93) (cwS 1 F.1.2.2.2.2 (gU_S ml_X1_118 st_yX1_reach ini_X1 cd_X1_reach) rfl rfl rfl (by decide +kernel) ⟨Nat.le_of_ble_eq_true rfl, Nat.le_of_ble_eq_true rfl⟩) rfl rfl (Nat.le_of_ble_eq_true rfl) dX1_tick_210 ⟨Nat.le_of_ble_eq_true rfl, Nat.le_of_ble_eq_true rfl⟩ ?_
      obtain ⟨⟨r95, M96⟩, hz97, h⟩ := bd_some h
      dsimp only at h
      refine v_callVv (As := [.int x4, .int r91]) (rest := []) F (c_X8_put l F.2.2.1 u80 hz97) (cwV 2 F.1.2.2.2.2 (gU_V ml_X1_45 im_yX8_put se_yX8_put ini_X8 cd_X8_put) rfl rfl rfl (by decide +kernel) ⟨Nat.le_of_ble_eq_true rfl, Nat.le_of_ble_eq_true rfl⟩) u80 (by decide) rfl rfl rfl (Nat.le_of_ble_eq_true rfl) dX1_tick_213 ⟨Nat.le_of_ble_eq_true rfl, Nat.le_of_ble_eq_true rfl⟩ ?_
      refine v_aload_n F dX1_tick_216 rfl 0 rfl ?_
      refine v_getR (k := 4) (f := 8) F t0 (by decide) (inc inU_1) rfl rfl (by decide) (by decide) (List.mem_cons_of_mem _ fl_X1_23) rfl dX1_tick_217 (fun u99 => ?_)
      refine v_iload F dX1_tick_220 4 rfl ?_
      refine v_aload_n F dX1_tick_222 rfl 0 rfl ?_
      refine v_getR (k := 4) (f := 8) F t0 (by decide) (inc inU_1) rfl rfl (by decide) (by decide) (List.mem_cons_of_mem _ fl_X1_23) rfl dX1_tick_223 (fun u100 => ?_)
      refine v_iload F dX1_tick_226 4 rfl ?_
      obtain ⟨⟨r101, M102⟩, hz103, h⟩ := bd_some h
      dsimp only at h
      refine v_callVi (As := [.int x4]) (rest := [.int x4, .ref (gAd g (gRf a0 4))]) F (c_X8_at l F.2.2.1 u100 hz103) (cwV 1 F.1.2.2.2.2 (gU_V ml_X1_69 im_yX8_at se_yX8_at ini_X8 cd_X8_at) rfl rfl rfl (by decide +kernel) ⟨Nat.le_of_ble_eq_true rfl, Nat.le_of_ble_eq_true rfl⟩) u100 (by decide) rfl rfl rfl (Nat.le_of_ble_eq_true rfl) dX1_tick_228 ⟨Nat.le_of_ble_eq_true rfl, Nat.le_of_ble_eq_true rfl⟩ ?_
      refine v_aload_n F dX1_tick_231 rfl 0 rfl ?_
      refine v_getR (k := 6) (f := 8) F t0 (by decide) (inc inU_1) rfl rfl (by decide) (by decide) (List.mem_cons_of_mem _ fl_X1_29) rfl dX1_tick_232 (fun u105 => ?_)
      refine v_iload F dX1_tick_235 4 rfl ?_
      obtain ⟨⟨r106, M107⟩, hz108, h⟩ := bd_some h
      dsimp only at h
      refine v_callVi (As := [.int x4]) (rest := [.int r101, .int x4, .ref (gAd g (gRf a0 4))]) F (c_X8_at l F.2.2.1 u105 hz108) (cwV 1 F.1.2.2.2.2 (gU_V ml_X1_69 im_yX8_at se_yX8_at ini_X8 cd_X8_at) rfl rfl rfl (by decide +kernel) ⟨Nat.le_of_ble_eq_true rfl, Nat.le_of_ble_eq_true rfl⟩) u105 (by decide) rfl rfl rfl (Nat.le_of_ble_eq_true rfl) dX1_tick_237 ⟨Nat.le_of_ble_eq_true rfl, Nat.le_of_ble_eq_true rfl⟩ ?_
      refine v_iadd F dX1_tick_240 ?_
      obtain ⟨⟨r110, M111⟩, hz112, h⟩ := bd_some h
      dsimp only at h
      refine v_callSi (As := [.int (r101 + r106)]) (rest := [.int x4, .ref (gAd g (gRf a0 4))]) F (c_X1_reach l F.2.2.1  hz112) (cwS 1 F.1.2.2.2.2 (gU_S ml_X1_118 st_yX1_reach ini_X1 cd_X1_reach) rfl rfl rfl (by decide +kernel) ⟨Nat.le_of_ble_eq_true rfl, Nat.le_of_ble_eq_true rfl⟩) rfl rfl (Nat.le_of_ble_eq_true rfl) dX1_tick_241 ⟨Nat.le_of_ble_eq_true rfl, Nat.le_of_ble_eq_true rfl⟩ ?_
      obtain ⟨⟨r114, M115⟩, hz116, h⟩ := bd_some h
      dsimp only at h
      refine v_callVv (As := [.int x4, .int r110]) (rest := []) F (c_X8_put l F.2.2.1 u99 hz116) (cwV 2 F.1.2.2.2.2 (gU_V ml_X1_45 im_yX8_put se_yX8_put ini_X8 cd_X8_put) rfl rfl rfl (by decide +kernel) ⟨Nat.le_of_ble_eq_true rfl, Nat.le_of_ble_eq_true rfl⟩) u99 (by decide) rfl rfl rfl (Nat.le_of_ble_eq_true rfl) dX1_tick_244 ⟨Nat.le_of_ble_eq_true rfl, Nat.le_of_ble_eq_true rfl⟩ ?_
      refine v_iinc (v := x4 + 1) (lv' := [(4, .int (x4 + 1)), (0, .ref (gAd g a0)), (1, .ref (gAd g a1)), (2, .int i2), (3, .int i3)]) F dX1_tick_247 (q := 4) rfl rfl (by decide) rfl ?_
      refine v_goto (tgt := 176) F dX1_tick_250 (by decide) ?_
      refine v_sub (fun ls h9 => lv_sub h9 [1, 2, 3, 4, 0] rfl) ?_
      exact ih _ _ h
set_option maxHeartbeats 4000000 in
set_option maxRecDepth 100000 in
theorem w_X1_tick_h3 {g : gT} {p : Program} {l : Launch} {e : Env} {s : State} {m : MethodId} {args : Array Value} {below : List Frame} {meth : Method} {c : Code} {z : Int32 × Mem} (F : Fx g p s m args c cX1_tick 8 uX1_tick RX1) (hr : meth.sig.returnType = none) (hlk : meth.locks = false)  {a0 : Nat} {a1 : Nat} {i2 : Int32} {i3 : Int32} (t0 : Ty g 1 a0) (t1 : Ty g 3 a1)   : ∀ (n : Nat) (x4 : Int32) (M : Mem), f_X1_tick_h3 a0 a1 i2 i3 n x4 M = some z → V g p l e ({ frames := 3, cells := 0, slots := 0, locals := 40 * 3 } : Room) s m args below meth c 8 0 0 (MQ below (gQ g none z.2) args s 0 0 (gA g)) 3 [(0, .ref (gAd g a0)), (1, .ref (gAd g a1)), (2, .int i2), (3, .int i3), (4, .int x4)] [] M := by
  intro n
  induction n with
  | zero => intro x4 M; intros; rename_i h; cases h
  | succ n ih =>
    intro x4 M h
    rw [f_X1_tick_h3] at h
    refine v_iload F dX1_tick_3 4 rfl ?_
    refine v_aload_n F dX1_tick_5 rfl 0 rfl ?_
    refine v_getI (k := 0) F t0 (by decide) (inc inU_1) rfl rfl (by decide) (List.mem_cons_of_mem _ fl_X1_52) rfl dX1_tick_6 ?_
    refine v_icmp_ge (tgt := 173) F dX1_tick_9 (by decide) (fun hc1 => ?_) (fun hc1 => ?_)
    · rw [if_pos hc1] at h
      refine v_iconst (v := 0) F dX1_tick_173 (by decide) ?_
      refine v_istore (lv' := [(4, .int 0), (0, .ref (gAd g a0)), (1, .ref (gAd g a1)), (2, .int i2), (3, .int i3)]) F dX1_tick_174 (by decide) rfl ?_
      refine v_sub (fun ls h9 => lv_sub h9 [1, 2, 3, 4, 0] rfl) ?_
      exact w_X1_tick_h176 F hr hlk t0 t1 _ _ _ h
    · rw [if_neg hc1] at h
      refine v_aload_n F dX1_tick_12 rfl 1 rfl ?_
      refine v_aload_n F dX1_tick_13 rfl 0 rfl ?_
      refine v_iload F dX1_tick_14 4 rfl ?_
      refine v_iload_n F dX1_tick_16 rfl 2 rfl ?_
      obtain ⟨⟨r2, M3⟩, hz4, h⟩ := bd_some h
      dsimp only at h
      refine v_callVr (As := [.int x4, .int i2]) (rest := [.ref (gAd g a1)]) F (c_X1_namesOf l F.2.2.1 t0 hz4) (cwV 2 F.1.2.2.2.2 (gU_V ml_X1_96 im_yX1_namesOf se_yX1_namesOf ini_X1 cd_X1_namesOf) rfl rfl rfl (by decide +kernel) ⟨Nat.le_of_ble_eq_true rfl, Nat.le_of_ble_eq_true rfl⟩) t0 (by decide) rfl rfl rfl (Nat.le_of_ble_eq_true rfl) dX1_tick_17 ⟨Nat.le_of_ble_eq_true rfl, Nat.le_of_ble_eq_true rfl⟩ ?_
      have u6 := ty_X1_namesOf F.2.2.1 t0 hz4
      obtain ⟨⟨r7, M8⟩, hz9, h⟩ := bd_some h
      dsimp only at h
      refine v_callVv (As := [.ref (gAd g r2)]) (rest := []) F (c_X3_work l F.2.2.1 t1 u6 hz9) (cwV 1 F.1.2.2.2.2 (gU_V ml_X1_100 im_yX3_work se_yX3_work ini_X3 cd_X3_work) rfl rfl rfl (by decide +kernel) ⟨Nat.le_of_ble_eq_true rfl, Nat.le_of_ble_eq_true rfl⟩) t1 (by decide) rfl rfl rfl (Nat.le_of_ble_eq_true rfl) dX1_tick_20 ⟨Nat.le_of_ble_eq_true rfl, Nat.le_of_ble_eq_true rfl⟩ ?_
      refine v_aload_n F dX1_tick_23 rfl 0 rfl ?_
      refine v_getR (k := 7) (f := 8) F t0 (by decide) (inc inU_1) rfl rfl (by decide) (by decide) (List.mem_cons_of_mem _ fl_X1_32) rfl dX1_tick_24 (fun u11 => ?_)
      refine v_iload F dX1_tick_27 4 rfl ?_
      obtain ⟨⟨r12, M13⟩, hz14, h⟩ := bd_some h
      dsimp only at h
      refine v_callVi (As := [.int x4]) (rest := []) F (c_X8_at l F.2.2.1 u11 hz14) (cwV 1 F.1.2.2.2.2 (gU_V ml_X1_69 im_yX8_at se_yX8_at ini_X8 cd_X8_at) rfl rfl rfl (by decide +kernel) ⟨Nat.le_of_ble_eq_true rfl, Nat.le_of_ble_eq_true rfl⟩) u11 (by decide) rfl rfl rfl (Nat.le_of_ble_eq_true rfl) dX1_tick_29 ⟨Nat.le_of_ble_eq_true rfl, Nat.le_of_ble_eq_true rfl⟩ ?_
      refine v_iconst (v := 2) F dX1_tick_32 (by decide) ?_
      refine v_icmp_ne (tgt := 48) F dX1_tick_33 (by decide) (fun hc16 => ?_) (fun hc16 => ?_)
      · rw [if_neg hc16] at h
        refine v_iconst (v := 0) F dX1_tick_48 (by decide) ?_
        exact w_X1_tick_b49 F hr hlk t0 t1 ih _ _ _ h
      · rw [if_pos hc16] at h
        refine v_aload_n F dX1_tick_36 rfl 0 rfl ?_
        refine v_getR (k := 2) (f := 8) F t0 (by decide) (inc inU_1) rfl rfl (by decide) (by decide) (List.mem_cons_of_mem _ fl_X1_14) rfl dX1_tick_37 (fun u17 => ?_)
        refine v_bipush (v := 8) F dX1_tick_40 (by decide) ?_
        obtain ⟨⟨r18, M19⟩, hz20, h⟩ := bd_some h
        dsimp only at h
        refine v_callVi (As := [.int 8]) (rest := []) F (c_X8_at l F.2.2.1 u17 hz20) (cwV 1 F.1.2.2.2.2 (gU_V ml_X1_69 im_yX8_at se_yX8_at ini_X8 cd_X8_at) rfl rfl rfl (by decide +kernel) ⟨Nat.le_of_ble_eq_true rfl, Nat.le_of_ble_eq_true rfl⟩) u17 (by decide) rfl rfl rfl (Nat.le_of_ble_eq_true rfl) dX1_tick_42 ⟨Nat.le_of_ble_eq_true rfl, Nat.le_of_ble_eq_true rfl⟩ ?_
        refine v_goto (tgt := 49) F dX1_tick_45 (by decide) ?_
        exact w_X1_tick_b49 F hr hlk t0 t1 ih _ _ _ h
set_option maxHeartbeats 4000000 in
set_option maxRecDepth 100000 in
theorem c_X1_tick {g : gT} (l : Launch) (hok : gOK g)  {a0 : Nat} {a1 : Nat} {i2 : Int32} {i3 : Int32} {M : Mem} {z : Int32 × Mem}  (t0 : Ty g 1 a0) (t1 : Ty g 3 a1) (h : f_X1_tick  M a0 a1 i2 i3 = some z) : Cn g l yX1_tick uX1_tick 3 [.ref (gAd g a0), .ref (gAd g a1), .int i2, .int i3] M none z.2 := by
  refine Cn.of (cc := cX1_tick) (maxL := 8) (ret := none) hok (by decide) rfl (Nat.le_of_ble_eq_true rfl) (fun p e s m args below meth c F hr hlk => ?_)
  unfold f_X1_tick at h
  show V g p l e ({ frames := 3, cells := 0, slots := 0, locals := 40 * 3 } : Room) s m args below meth c 8 0 0 (MQ below (gQ g none z.2) args s 0 0 (gA g)) 0 [(0, .ref (gAd g a0)), (1, .ref (gAd g a1)), (2, .int i2), (3, .int i3)] [] M
  refine v_iconst (v := 0) F dX1_tick_0 (by decide) ?_
  refine v_istore (lv' := [(4, .int 0), (0, .ref (gAd g a0)), (1, .ref (gAd g a1)), (2, .int i2), (3, .int i3)]) F dX1_tick_1 (by decide) rfl ?_
  refine v_sub (fun ls h9 => lv_sub h9 [1, 2, 3, 4, 0] rfl) ?_
  exact w_X1_tick_h3 F hr hlk t0 t1 _ _ _ h
def f_X1_isBroken  (M : Mem) (a0 : Nat) (i1 : Int32) (i2 : Int32) : Option (Int32 × Mem) := if i2 = 0 then ((f_X8_at M (gRf a0 7) i1).bind fun q => match q with | (r3, M4) => (if r3 = 1 then (some (1, M4)) else (some (0, M4)))) else ((f_X8_at M (gRf a0 8) i1).bind fun q => match q with | (r9, M10) => (if r9 = 1 then (some (1, M10)) else (some (0, M10))))
set_option maxHeartbeats 4000000 in
set_option maxRecDepth 100000 in
theorem c_X1_isBroken {g : gT} (l : Launch) (hok : gOK g)  {a0 : Nat} {i1 : Int32} {i2 : Int32} {M : Mem} {z : Int32 × Mem}  (t0 : Ty g 1 a0) (h : f_X1_isBroken  M a0 i1 i2 = some z) : Cn g l yX1_isBroken uX1_isBroken 1 [.ref (gAd g a0), .int i1, .int i2] M (some (.int z.1)) z.2 := by
  refine Cn.of (cc := cX1_isBroken) (maxL := 3) (ret := (some .boolean)) hok (by decide) rfl (Nat.le_of_ble_eq_true rfl) (fun p e s m args below meth c F hr hlk => ?_)
  unfold f_X1_isBroken at h
  show V g p l e ({ frames := 1, cells := 0, slots := 0, locals := 40 * 1 } : Room) s m args below meth c 3 0 0 (MQ below (gQ g (some (.int z.1)) z.2) args s 0 0 (gA g)) 0 [(0, .ref (gAd g a0)), (1, .int i1), (2, .int i2)] [] M
  refine v_iload_n F dX1_isBroken_0 rfl 2 rfl ?_
  refine v_if_eq (tgt := 24) F dX1_isBroken_1 (by decide) (fun hc1 => ?_) (fun hc1 => ?_)
  · rw [if_pos hc1] at h
    refine v_aload_n F dX1_isBroken_24 rfl 0 rfl ?_
    refine v_getR (k := 7) (f := 8) F t0 (by decide) (inc inU_1) rfl rfl (by decide) (by decide) (List.mem_cons_of_mem _ fl_X1_32) rfl dX1_isBroken_25 (fun u2 => ?_)
    refine v_iload_n F dX1_isBroken_28 rfl 1 rfl ?_
    obtain ⟨⟨r3, M4⟩, hz5, h⟩ := bd_some h
    dsimp only at h
    refine v_callVi (As := [.int i1]) (rest := []) F (c_X8_at l F.2.2.1 u2 hz5) (cwV 1 F.1.2.2.2.2 (gU_V ml_X1_69 im_yX8_at se_yX8_at ini_X8 cd_X8_at) rfl rfl rfl (by decide +kernel) ⟨Nat.le_of_ble_eq_true rfl, Nat.le_of_ble_eq_true rfl⟩) u2 (by decide) rfl rfl rfl (Nat.le_of_ble_eq_true rfl) dX1_isBroken_29 ⟨Nat.le_of_ble_eq_true rfl, Nat.le_of_ble_eq_true rfl⟩ ?_
    refine v_iconst (v := 1) F dX1_isBroken_32 (by decide) ?_
    refine v_icmp_ne (tgt := 40) F dX1_isBroken_33 (by decide) (fun hc7 => ?_) (fun hc7 => ?_)
    · rw [if_neg hc7] at h
      refine v_iconst (v := 0) F dX1_isBroken_40 (by decide) ?_
      cases h
      exact v_iret F hr narrow_b0 hlk dX1_isBroken_41
    · rw [if_pos hc7] at h
      refine v_iconst (v := 1) F dX1_isBroken_36 (by decide) ?_
      refine v_goto (tgt := 41) F dX1_isBroken_37 (by decide) ?_
      cases h
      exact v_iret F hr narrow_b1 hlk dX1_isBroken_41
  · rw [if_neg hc1] at h
    refine v_aload_n F dX1_isBroken_4 rfl 0 rfl ?_
    refine v_getR (k := 8) (f := 8) F t0 (by decide) (inc inU_1) rfl rfl (by decide) (by decide) (List.mem_cons_of_mem _ fl_X1_35) rfl dX1_isBroken_5 (fun u8 => ?_)
    refine v_iload_n F dX1_isBroken_8 rfl 1 rfl ?_
    obtain ⟨⟨r9, M10⟩, hz11, h⟩ := bd_some h
    dsimp only at h
    refine v_callVi (As := [.int i1]) (rest := []) F (c_X8_at l F.2.2.1 u8 hz11) (cwV 1 F.1.2.2.2.2 (gU_V ml_X1_69 im_yX8_at se_yX8_at ini_X8 cd_X8_at) rfl rfl rfl (by decide +kernel) ⟨Nat.le_of_ble_eq_true rfl, Nat.le_of_ble_eq_true rfl⟩) u8 (by decide) rfl rfl rfl (Nat.le_of_ble_eq_true rfl) dX1_isBroken_9 ⟨Nat.le_of_ble_eq_true rfl, Nat.le_of_ble_eq_true rfl⟩ ?_
    refine v_iconst (v := 1) F dX1_isBroken_12 (by decide) ?_
    refine v_icmp_ne (tgt := 20) F dX1_isBroken_13 (by decide) (fun hc13 => ?_) (fun hc13 => ?_)
    · rw [if_neg hc13] at h
      refine v_iconst (v := 0) F dX1_isBroken_20 (by decide) ?_
      refine v_goto (tgt := 41) F dX1_isBroken_21 (by decide) ?_
      cases h
      exact v_iret F hr narrow_b0 hlk dX1_isBroken_41
    · rw [if_pos hc13] at h
      refine v_iconst (v := 1) F dX1_isBroken_16 (by decide) ?_
      refine v_goto (tgt := 41) F dX1_isBroken_17 (by decide) ?_
      cases h
      exact v_iret F hr narrow_b1 hlk dX1_isBroken_41
def f_X1_leastBroken_h2 (a0 : Nat) (i1 : Int32)  : Nat → Int32 → Mem → Option (Int32 × Mem)
  | 0, _, _ => none
  | n + 1, x2, M => if (M a0 0) ≤ x2 then (some ((-1), M)) else ((f_X1_isBroken M a0 x2 i1).bind fun q => match q with | (r2, M3) => (if r2 = 0 then ((f_X1_leastBroken_h2 a0 i1 n) (x2 + 1) M3) else (some (x2, M3))))
def f_X1_leastBroken  (M : Mem) (a0 : Nat) (i1 : Int32) : Option (Int32 × Mem) := f_X1_leastBroken_h2 a0 i1 FU 0 M
set_option maxHeartbeats 4000000 in
set_option maxRecDepth 100000 in
theorem w_X1_leastBroken_h2 {g : gT} {p : Program} {l : Launch} {e : Env} {s : State} {m : MethodId} {args : Array Value} {below : List Frame} {meth : Method} {c : Code} {z : Int32 × Mem} (F : Fx g p s m args c cX1_leastBroken 3 uX1_leastBroken RX1) (hr : meth.sig.returnType = (some .int)) (hlk : meth.locks = false)  {a0 : Nat} {i1 : Int32} (t0 : Ty g 1 a0)   : ∀ (n : Nat) (x2 : Int32) (M : Mem), f_X1_leastBroken_h2 a0 i1 n x2 M = some z → V g p l e ({ frames := 2, cells := 0, slots := 0, locals := 40 * 2 } : Room) s m args below meth c 3 0 0 (MQ below (gQ g (some (.int z.1)) z.2) args s 0 0 (gA g)) 2 [(0, .ref (gAd g a0)), (1, .int i1), (2, .int x2)] [] M := by
  intro n
  induction n with
  | zero => intro x2 M; intros; rename_i h; cases h
  | succ n ih =>
    intro x2 M h
    rw [f_X1_leastBroken_h2] at h
    refine v_iload_n F dX1_leastBroken_2 rfl 2 rfl ?_
    refine v_aload_n F dX1_leastBroken_3 rfl 0 rfl ?_
    refine v_getI (k := 0) F t0 (by decide) (inc inU_1) rfl rfl (by decide) (List.mem_cons_of_mem _ fl_X1_52) rfl dX1_leastBroken_4 ?_
    refine v_icmp_ge (tgt := 27) F dX1_leastBroken_7 (by decide) (fun hc1 => ?_) (fun hc1 => ?_)
    · rw [if_pos hc1] at h
      refine v_iconst (v := (-1)) F dX1_leastBroken_27 (by decide) ?_
      cases h
      exact v_iret F hr rfl hlk dX1_leastBroken_28
    · rw [if_neg hc1] at h
      refine v_aload_n F dX1_leastBroken_10 rfl 0 rfl ?_
      refine v_iload_n F dX1_leastBroken_11 rfl 2 rfl ?_
      refine v_iload_n F dX1_leastBroken_12 rfl 1 rfl ?_
      obtain ⟨⟨r2, M3⟩, hz4, h⟩ := bd_some h
      dsimp only at h
      refine v_callVi (As := [.int x2, .int i1]) (rest := []) F (c_X1_isBroken l F.2.2.1 t0 hz4) (cwV 2 F.1.2.2.2.2 (gU_V ml_X1_126 im_yX1_isBroken se_yX1_isBroken ini_X1 cd_X1_isBroken) rfl rfl rfl (by decide +kernel) ⟨Nat.le_of_ble_eq_true rfl, Nat.le_of_ble_eq_true rfl⟩) t0 (by decide) rfl rfl rfl (Nat.le_of_ble_eq_true rfl) dX1_leastBroken_13 ⟨Nat.le_of_ble_eq_true rfl, Nat.le_of_ble_eq_true rfl⟩ ?_
      refine v_if_eq (tgt := 21) F dX1_leastBroken_16 (by decide) (fun hc6 => ?_) (fun hc6 => ?_)
      · rw [if_pos hc6] at h
        refine v_iinc (v := x2 + 1) (lv' := [(2, .int (x2 + 1)), (0, .ref (gAd g a0)), (1, .int i1)]) F dX1_leastBroken_21 (q := 2) rfl rfl (by decide) rfl ?_
        refine v_goto (tgt := 2) F dX1_leastBroken_24 (by decide) ?_
        refine v_sub (fun ls h9 => lv_sub h9 [1, 2, 0] rfl) ?_
        exact ih _ _ h
      · rw [if_neg hc6] at h
        refine v_iload_n F dX1_leastBroken_19 rfl 2 rfl ?_
        cases h
        exact v_iret F hr rfl hlk dX1_leastBroken_20
set_option maxHeartbeats 4000000 in
set_option maxRecDepth 100000 in
theorem c_X1_leastBroken {g : gT} (l : Launch) (hok : gOK g)  {a0 : Nat} {i1 : Int32} {M : Mem} {z : Int32 × Mem}  (t0 : Ty g 1 a0) (h : f_X1_leastBroken  M a0 i1 = some z) : Cn g l yX1_leastBroken uX1_leastBroken 2 [.ref (gAd g a0), .int i1] M (some (.int z.1)) z.2 := by
  refine Cn.of (cc := cX1_leastBroken) (maxL := 3) (ret := (some .int)) hok (by decide) rfl (Nat.le_of_ble_eq_true rfl) (fun p e s m args below meth c F hr hlk => ?_)
  unfold f_X1_leastBroken at h
  show V g p l e ({ frames := 2, cells := 0, slots := 0, locals := 40 * 2 } : Room) s m args below meth c 3 0 0 (MQ below (gQ g (some (.int z.1)) z.2) args s 0 0 (gA g)) 0 [(0, .ref (gAd g a0)), (1, .int i1)] [] M
  refine v_iconst (v := 0) F dX1_leastBroken_0 (by decide) ?_
  refine v_istore_n (lv' := [(2, .int 0), (0, .ref (gAd g a0)), (1, .int i1)]) F dX1_leastBroken_1 rfl (by decide) rfl ?_
  refine v_sub (fun ls h9 => lv_sub h9 [1, 2, 0] rfl) ?_
  exact w_X1_leastBroken_h2 F hr hlk t0 _ _ _ h
def f_X1_broken_b27 (a0 : Nat) (i1 : Int32) (k4 : Int32 → Int32 → Mem → Option (Int32 × Mem)) (s0 : Int32) (s1 : Int32) (x3 : Int32) (M : Mem) : Option (Int32 × Mem) := k4 (s0 + s1) (x3 + 1) M
def f_X1_broken_h4 (a0 : Nat) (i1 : Int32)  : Nat → Int32 → Int32 → Mem → Option (Int32 × Mem)
  | 0, _, _, _ => none
  | n + 1, x2, x3, M => if (M a0 0) ≤ x3 then (some (x2, M)) else ((f_X1_isBroken M a0 x3 i1).bind fun q => match q with | (r2, M3) => (if r2 = 0 then (f_X1_broken_b27 a0 i1 (f_X1_broken_h4 a0 i1 n) x2 0 x3 M3) else (f_X1_broken_b27 a0 i1 (f_X1_broken_h4 a0 i1 n) x2 1 x3 M3)))
def f_X1_broken  (M : Mem) (a0 : Nat) (i1 : Int32) : Option (Int32 × Mem) := f_X1_broken_h4 a0 i1 FU 0 0 M
set_option maxHeartbeats 4000000 in
set_option maxRecDepth 100000 in
theorem w_X1_broken_b27 {g : gT} {p : Program} {l : Launch} {e : Env} {s : State} {m : MethodId} {args : Array Value} {below : List Frame} {meth : Method} {c : Code} {z : Int32 × Mem} (F : Fx g p s m args c cX1_broken 4 uX1_broken RX1) (hr : meth.sig.returnType = (some .int)) (hlk : meth.locks = false)  {a0 : Nat} {i1 : Int32} (t0 : Ty g 1 a0) {k4 : Int32 → Int32 → Mem → Option (Int32 × Mem)} (hk4 : ∀ (x2 : Int32) (x3 : Int32) (M : Mem), k4 x2 x3 M = some z → V g p l e ({ frames := 2, cells := 0, slots := 0, locals := 40 * 2 } : Room) s m args below meth c 4 0 0 (MQ below (gQ g (some (.int z.1)) z.2) args s 0 0 (gA g)) 4 [(0, .ref (gAd g a0)), (1, .int i1), (2, .int x2), (3, .int x3)] [] M) (s0 : Int32) (s1 : Int32) (x3 : Int32) (M : Mem)  (h : f_X1_broken_b27 a0 i1 k4 s0 s1 x3 M = some z) : V g p l e ({ frames := 2, cells := 0, slots := 0, locals := 40 * 2 } : Room) s m args below meth c 4 0 0 (MQ below (gQ g (some (.int z.1)) z.2) args s 0 0 (gA g)) 27 [(0, .ref (gAd g a0)), (1, .int i1), (3, .int x3)] [.int s1, .int s0] M := by
  unfold f_X1_broken_b27 at h
  refine v_iadd F dX1_broken_27 ?_
  refine v_istore_n (lv' := [(2, .int (s0 + s1)), (0, .ref (gAd g a0)), (1, .int i1), (3, .int x3)]) F dX1_broken_28 rfl (by decide) rfl ?_
  refine v_iinc (v := x3 + 1) (lv' := [(3, .int (x3 + 1)), (2, .int (s0 + s1)), (0, .ref (gAd g a0)), (1, .int i1)]) F dX1_broken_29 (q := 3) rfl rfl (by decide) rfl ?_
  refine v_goto (tgt := 4) F dX1_broken_32 (by decide) ?_
  refine v_sub (fun ls h9 => lv_sub h9 [2, 3, 1, 0] rfl) ?_
  exact hk4 _ _ _ h
set_option maxHeartbeats 4000000 in
set_option maxRecDepth 100000 in
theorem w_X1_broken_h4 {g : gT} {p : Program} {l : Launch} {e : Env} {s : State} {m : MethodId} {args : Array Value} {below : List Frame} {meth : Method} {c : Code} {z : Int32 × Mem} (F : Fx g p s m args c cX1_broken 4 uX1_broken RX1) (hr : meth.sig.returnType = (some .int)) (hlk : meth.locks = false)  {a0 : Nat} {i1 : Int32} (t0 : Ty g 1 a0)   : ∀ (n : Nat) (x2 : Int32) (x3 : Int32) (M : Mem), f_X1_broken_h4 a0 i1 n x2 x3 M = some z → V g p l e ({ frames := 2, cells := 0, slots := 0, locals := 40 * 2 } : Room) s m args below meth c 4 0 0 (MQ below (gQ g (some (.int z.1)) z.2) args s 0 0 (gA g)) 4 [(0, .ref (gAd g a0)), (1, .int i1), (2, .int x2), (3, .int x3)] [] M := by
  intro n
  induction n with
  | zero => intro x2 x3 M; intros; rename_i h; cases h
  | succ n ih =>
    intro x2 x3 M h
    rw [f_X1_broken_h4] at h
    refine v_iload_n F dX1_broken_4 rfl 3 rfl ?_
    refine v_aload_n F dX1_broken_5 rfl 0 rfl ?_
    refine v_getI (k := 0) F t0 (by decide) (inc inU_1) rfl rfl (by decide) (List.mem_cons_of_mem _ fl_X1_52) rfl dX1_broken_6 ?_
    refine v_icmp_ge (tgt := 35) F dX1_broken_9 (by decide) (fun hc1 => ?_) (fun hc1 => ?_)
    · rw [if_pos hc1] at h
      refine v_iload_n F dX1_broken_35 rfl 2 rfl ?_
      cases h
      exact v_iret F hr rfl hlk dX1_broken_36
    · rw [if_neg hc1] at h
      refine v_iload_n F dX1_broken_12 rfl 2 rfl ?_
      refine v_aload_n F dX1_broken_13 rfl 0 rfl ?_
      refine v_iload_n F dX1_broken_14 rfl 3 rfl ?_
      refine v_iload_n F dX1_broken_15 rfl 1 rfl ?_
      obtain ⟨⟨r2, M3⟩, hz4, h⟩ := bd_some h
      dsimp only at h
      refine v_callVi (As := [.int x3, .int i1]) (rest := [.int x2]) F (c_X1_isBroken l F.2.2.1 t0 hz4) (cwV 2 F.1.2.2.2.2 (gU_V ml_X1_126 im_yX1_isBroken se_yX1_isBroken ini_X1 cd_X1_isBroken) rfl rfl rfl (by decide +kernel) ⟨Nat.le_of_ble_eq_true rfl, Nat.le_of_ble_eq_true rfl⟩) t0 (by decide) rfl rfl rfl (Nat.le_of_ble_eq_true rfl) dX1_broken_16 ⟨Nat.le_of_ble_eq_true rfl, Nat.le_of_ble_eq_true rfl⟩ ?_
      refine v_if_eq (tgt := 26) F dX1_broken_19 (by decide) (fun hc6 => ?_) (fun hc6 => ?_)
      · rw [if_pos hc6] at h
        refine v_iconst (v := 0) F dX1_broken_26 (by decide) ?_
        refine v_sub (fun ls h9 => lv_sub h9 [0, 1, 3] rfl) ?_
        exact w_X1_broken_b27 F hr hlk t0 ih _ _ _ _ h
      · rw [if_neg hc6] at h
        refine v_iconst (v := 1) F dX1_broken_22 (by decide) ?_
        refine v_goto (tgt := 27) F dX1_broken_23 (by decide) ?_
        refine v_sub (fun ls h9 => lv_sub h9 [0, 1, 3] rfl) ?_
        exact w_X1_broken_b27 F hr hlk t0 ih _ _ _ _ h
set_option maxHeartbeats 4000000 in
set_option maxRecDepth 100000 in
theorem c_X1_broken {g : gT} (l : Launch) (hok : gOK g)  {a0 : Nat} {i1 : Int32} {M : Mem} {z : Int32 × Mem}  (t0 : Ty g 1 a0) (h : f_X1_broken  M a0 i1 = some z) : Cn g l yX1_broken uX1_broken 2 [.ref (gAd g a0), .int i1] M (some (.int z.1)) z.2 := by
  refine Cn.of (cc := cX1_broken) (maxL := 4) (ret := (some .int)) hok (by decide) rfl (Nat.le_of_ble_eq_true rfl) (fun p e s m args below meth c F hr hlk => ?_)
  unfold f_X1_broken at h
  show V g p l e ({ frames := 2, cells := 0, slots := 0, locals := 40 * 2 } : Room) s m args below meth c 4 0 0 (MQ below (gQ g (some (.int z.1)) z.2) args s 0 0 (gA g)) 0 [(0, .ref (gAd g a0)), (1, .int i1)] [] M
  refine v_iconst (v := 0) F dX1_broken_0 (by decide) ?_
  refine v_istore_n (lv' := [(2, .int 0), (0, .ref (gAd g a0)), (1, .int i1)]) F dX1_broken_1 rfl (by decide) rfl ?_
  refine v_iconst (v := 0) F dX1_broken_2 (by decide) ?_
  refine v_istore_n (lv' := [(3, .int 0), (2, .int 0), (0, .ref (gAd g a0)), (1, .int i1)]) F dX1_broken_3 rfl (by decide) rfl ?_
  refine v_sub (fun ls h9 => lv_sub h9 [2, 3, 1, 0] rfl) ?_
  exact w_X1_broken_h4 F hr hlk t0 _ _ _ _ h
def f_X2_add  (M : Mem) (a0 : Nat) (i1 : Int32) (i2 : Int32) (i3 : Int32) (i4 : Int32) : Option (Int32 × Mem) := if (M a0 0) < 20 then ((f_X8_put M (gRf a0 1) (M a0 0) i1).bind fun q => match q with | (r3, M4) => ((f_X8_put M4 (gRf a0 2) (M4 a0 0) i2).bind fun q => match q with | (r8, M9) => ((f_X8_put M9 (gRf a0 3) (M9 a0 0) i3).bind fun q => match q with | (r13, M14) => ((f_X8_put M14 (gRf a0 4) (M14 a0 0) i4).bind fun q => match q with | (r18, M19) => (some ((mU M19 a0 0 ((M19 a0 0) + 1)) a0 0, (mU M19 a0 0 ((M19 a0 0) + 1)))))))) else (some ((-1), M))
set_option maxHeartbeats 4000000 in
set_option maxRecDepth 100000 in
theorem c_X2_add {g : gT} (l : Launch) (hok : gOK g)  {a0 : Nat} {i1 : Int32} {i2 : Int32} {i3 : Int32} {i4 : Int32} {M : Mem} {z : Int32 × Mem}  (t0 : Ty g 2 a0) (h : f_X2_add  M a0 i1 i2 i3 i4 = some z) : Cn g l yX2_add uX2_add 1 [.ref (gAd g a0), .int i1, .int i2, .int i3, .int i4] M (some (.int z.1)) z.2 := by
  refine Cn.of (cc := cX2_add) (maxL := 5) (ret := (some .int)) hok (by decide) rfl (Nat.le_of_ble_eq_true rfl) (fun p e s m args below meth c F hr hlk => ?_)
  unfold f_X2_add at h
  show V g p l e ({ frames := 1, cells := 0, slots := 0, locals := 40 * 1 } : Room) s m args below meth c 5 0 0 (MQ below (gQ g (some (.int z.1)) z.2) args s 0 0 (gA g)) 0 [(0, .ref (gAd g a0)), (1, .int i1), (2, .int i2), (3, .int i3), (4, .int i4)] [] M
  refine v_aload_n F dX2_add_0 rfl 0 rfl ?_
  refine v_getI (k := 0) F t0 (by decide) (inc inU_2) rfl rfl (by decide) (List.mem_cons_of_mem _ fl_X2_29) rfl dX2_add_1 ?_
  refine v_bipush (v := 20) F dX2_add_4 (by decide) ?_
  refine v_icmp_lt (tgt := 11) F dX2_add_6 (by decide) (fun hc1 => ?_) (fun hc1 => ?_)
  · rw [if_pos hc1] at h
    refine v_aload_n F dX2_add_11 rfl 0 rfl ?_
    refine v_getR (k := 1) (f := 8) F t0 (by decide) (inc inU_2) rfl rfl (by decide) (by decide) (List.mem_cons_of_mem _ fl_X2_16) rfl dX2_add_12 (fun u2 => ?_)
    refine v_aload_n F dX2_add_15 rfl 0 rfl ?_
    refine v_getI (k := 0) F t0 (by decide) (inc inU_2) rfl rfl (by decide) (List.mem_cons_of_mem _ fl_X2_29) rfl dX2_add_16 ?_
    refine v_iload_n F dX2_add_19 rfl 1 rfl ?_
    obtain ⟨⟨r3, M4⟩, hz5, h⟩ := bd_some h
    dsimp only at h
    refine v_callVv (As := [.int (M a0 0), .int i1]) (rest := []) F (c_X8_put l F.2.2.1 u2 hz5) (cwV 2 F.1.2.2.2.2 (gU_V ml_X2_33 im_yX8_put se_yX8_put ini_X8 cd_X8_put) rfl rfl rfl (by decide +kernel) ⟨Nat.le_of_ble_eq_true rfl, Nat.le_of_ble_eq_true rfl⟩) u2 (by decide) rfl rfl rfl (Nat.le_of_ble_eq_true rfl) dX2_add_20 ⟨Nat.le_of_ble_eq_true rfl, Nat.le_of_ble_eq_true rfl⟩ ?_
    refine v_aload_n F dX2_add_23 rfl 0 rfl ?_
    refine v_getR (k := 2) (f := 8) F t0 (by decide) (inc inU_2) rfl rfl (by decide) (by decide) (List.mem_cons_of_mem _ fl_X2_20) rfl dX2_add_24 (fun u7 => ?_)
    refine v_aload_n F dX2_add_27 rfl 0 rfl ?_
    refine v_getI (k := 0) F t0 (by decide) (inc inU_2) rfl rfl (by decide) (List.mem_cons_of_mem _ fl_X2_29) rfl dX2_add_28 ?_
    refine v_iload_n F dX2_add_31 rfl 2 rfl ?_
    obtain ⟨⟨r8, M9⟩, hz10, h⟩ := bd_some h
    dsimp only at h
    refine v_callVv (As := [.int (M4 a0 0), .int i2]) (rest := []) F (c_X8_put l F.2.2.1 u7 hz10) (cwV 2 F.1.2.2.2.2 (gU_V ml_X2_33 im_yX8_put se_yX8_put ini_X8 cd_X8_put) rfl rfl rfl (by decide +kernel) ⟨Nat.le_of_ble_eq_true rfl, Nat.le_of_ble_eq_true rfl⟩) u7 (by decide) rfl rfl rfl (Nat.le_of_ble_eq_true rfl) dX2_add_32 ⟨Nat.le_of_ble_eq_true rfl, Nat.le_of_ble_eq_true rfl⟩ ?_
    refine v_aload_n F dX2_add_35 rfl 0 rfl ?_
    refine v_getR (k := 3) (f := 8) F t0 (by decide) (inc inU_2) rfl rfl (by decide) (by decide) (List.mem_cons_of_mem _ fl_X2_23) rfl dX2_add_36 (fun u12 => ?_)
    refine v_aload_n F dX2_add_39 rfl 0 rfl ?_
    refine v_getI (k := 0) F t0 (by decide) (inc inU_2) rfl rfl (by decide) (List.mem_cons_of_mem _ fl_X2_29) rfl dX2_add_40 ?_
    refine v_iload_n F dX2_add_43 rfl 3 rfl ?_
    obtain ⟨⟨r13, M14⟩, hz15, h⟩ := bd_some h
    dsimp only at h
    refine v_callVv (As := [.int (M9 a0 0), .int i3]) (rest := []) F (c_X8_put l F.2.2.1 u12 hz15) (cwV 2 F.1.2.2.2.2 (gU_V ml_X2_33 im_yX8_put se_yX8_put ini_X8 cd_X8_put) rfl rfl rfl (by decide +kernel) ⟨Nat.le_of_ble_eq_true rfl, Nat.le_of_ble_eq_true rfl⟩) u12 (by decide) rfl rfl rfl (Nat.le_of_ble_eq_true rfl) dX2_add_44 ⟨Nat.le_of_ble_eq_true rfl, Nat.le_of_ble_eq_true rfl⟩ ?_
    refine v_aload_n F dX2_add_47 rfl 0 rfl ?_
    refine v_getR (k := 4) (f := 8) F t0 (by decide) (inc inU_2) rfl rfl (by decide) (by decide) (List.mem_cons_of_mem _ fl_X2_26) rfl dX2_add_48 (fun u17 => ?_)
    refine v_aload_n F dX2_add_51 rfl 0 rfl ?_
    refine v_getI (k := 0) F t0 (by decide) (inc inU_2) rfl rfl (by decide) (List.mem_cons_of_mem _ fl_X2_29) rfl dX2_add_52 ?_
    refine v_iload F dX2_add_55 4 rfl ?_
    obtain ⟨⟨r18, M19⟩, hz20, h⟩ := bd_some h
    dsimp only at h
    refine v_callVv (As := [.int (M14 a0 0), .int i4]) (rest := []) F (c_X8_put l F.2.2.1 u17 hz20) (cwV 2 F.1.2.2.2.2 (gU_V ml_X2_33 im_yX8_put se_yX8_put ini_X8 cd_X8_put) rfl rfl rfl (by decide +kernel) ⟨Nat.le_of_ble_eq_true rfl, Nat.le_of_ble_eq_true rfl⟩) u17 (by decide) rfl rfl rfl (Nat.le_of_ble_eq_true rfl) dX2_add_57 ⟨Nat.le_of_ble_eq_true rfl, Nat.le_of_ble_eq_true rfl⟩ ?_
    refine v_aload_n F dX2_add_60 rfl 0 rfl ?_
    refine v_dup F dX2_add_61 rfl ?_
    refine v_getI (k := 0) F t0 (by decide) (inc inU_2) rfl rfl (by decide) (List.mem_cons_of_mem _ fl_X2_29) rfl dX2_add_62 ?_
    refine v_iconst (v := 1) F dX2_add_65 (by decide) ?_
    refine v_iadd F dX2_add_66 ?_
    refine v_put (k := 0) (ty := .int) F t0 (by decide) (inc inU_2) tyX2 tyX2_ok nmX2 rfl rfl (by decide) (List.mem_cons_of_mem _ fl_X2_29) rfl rfl (by decide +kernel) rfl rfl dX2_add_67 ?_
    refine v_aload_n F dX2_add_70 rfl 0 rfl ?_
    refine v_getI (k := 0) F t0 (by decide) (inc inU_2) rfl rfl (by decide) (List.mem_cons_of_mem _ fl_X2_29) rfl dX2_add_71 ?_
    cases h
    exact v_iret F hr rfl hlk dX2_add_74
  · rw [if_neg hc1] at h
    refine v_iconst (v := (-1)) F dX2_add_9 (by decide) ?_
    cases h
    exact v_iret F hr rfl hlk dX2_add_10
def f_X2_firstRowOff_b115 (a0 : Nat) (i1 : Int32) (a2 : Nat) (i3 : Int32) (k3 : Int32 → Mem → Option (Int32 × Mem)) (x4 : Int32) (M : Mem) : Option (Int32 × Mem) := k3 (x4 + 1) M
def f_X2_firstRowOff_h3 (a0 : Nat) (i1 : Int32) (a2 : Nat) (i3 : Int32)  : Nat → Int32 → Mem → Option (Int32 × Mem)
  | 0, _, _ => none
  | n + 1, x4, M => if (M a0 0) ≤ x4 then (some ((-1), M)) else (if 20 ≤ x4 then (some ((-1), M)) else ((f_X8_at M (gRf a0 2) x4).bind fun q => match q with | (r4, M5) => ((f_X8_at M5 (gRf a0 1) x4).bind fun q => match q with | (r9, M10) => (if r9 = i1 then (if (M10 a2 0) ≤ r4 then (f_X2_firstRowOff_b115 a0 i1 a2 i3 (f_X2_firstRowOff_h3 a0 i1 a2 i3 n) x4 M10) else ((f_X8_at M10 (gRf a0 3) x4).bind fun q => match q with | (r16, M17) => ((f_X8_at M17 (gRf a2 3) r4).bind fun q => match q with | (r21, M22) => ((f_X8_at M22 (gRf a0 4) x4).bind fun q => match q with | (r26, M27) => ((f_X8_at M27 (gRf a2 4) r4).bind fun q => match q with | (r31, M32) => (if i3 < (if 0 ≤ (r16 - r21) then (r16 - r21) else 0 - (r16 - r21)) then (some (x4, M32)) else (if (if 0 ≤ (r26 - r31) then (r26 - r31) else 0 - (r26 - r31)) ≤ i3 then (f_X2_firstRowOff_b115 a0 i1 a2 i3 (f_X2_firstRowOff_h3 a0 i1 a2 i3 n) x4 M32) else (some (x4, M32))))))))) else (f_X2_firstRowOff_b115 a0 i1 a2 i3 (f_X2_firstRowOff_h3 a0 i1 a2 i3 n) x4 M10)))))
def f_X2_firstRowOff  (M : Mem) (a0 : Nat) (i1 : Int32) (a2 : Nat) (i3 : Int32) : Option (Int32 × Mem) := f_X2_firstRowOff_h3 a0 i1 a2 i3 FU 0 M
set_option maxHeartbeats 4000000 in
set_option maxRecDepth 100000 in
theorem w_X2_firstRowOff_b115 {g : gT} {p : Program} {l : Launch} {e : Env} {s : State} {m : MethodId} {args : Array Value} {below : List Frame} {meth : Method} {c : Code} {z : Int32 × Mem} (F : Fx g p s m args c cX2_firstRowOff 8 uX2_firstRowOff RX2) (hr : meth.sig.returnType = (some .int)) (hlk : meth.locks = false)  {a0 : Nat} {i1 : Int32} {a2 : Nat} {i3 : Int32} (t0 : Ty g 2 a0) (t2 : Ty g 1 a2) {k3 : Int32 → Mem → Option (Int32 × Mem)} (hk3 : ∀ (x4 : Int32) (M : Mem), k3 x4 M = some z → V g p l e ({ frames := 1, cells := 0, slots := 0, locals := 40 * 1 } : Room) s m args below meth c 8 0 0 (MQ below (gQ g (some (.int z.1)) z.2) args s 0 0 (gA g)) 3 [(0, .ref (gAd g a0)), (1, .int i1), (2, .ref (gAd g a2)), (3, .int i3), (4, .int x4)] [] M) (x4 : Int32) (M : Mem)  (h : f_X2_firstRowOff_b115 a0 i1 a2 i3 k3 x4 M = some z) : V g p l e ({ frames := 1, cells := 0, slots := 0, locals := 40 * 1 } : Room) s m args below meth c 8 0 0 (MQ below (gQ g (some (.int z.1)) z.2) args s 0 0 (gA g)) 115 [(0, .ref (gAd g a0)), (1, .int i1), (2, .ref (gAd g a2)), (3, .int i3), (4, .int x4)] [] M := by
  unfold f_X2_firstRowOff_b115 at h
  refine v_iinc (v := x4 + 1) (lv' := [(4, .int (x4 + 1)), (0, .ref (gAd g a0)), (1, .int i1), (2, .ref (gAd g a2)), (3, .int i3)]) F dX2_firstRowOff_115 (q := 4) rfl rfl (by decide) rfl ?_
  refine v_goto (tgt := 3) F dX2_firstRowOff_118 (by decide) ?_
  refine v_sub (fun ls h9 => lv_sub h9 [1, 2, 3, 4, 0] rfl) ?_
  exact hk3 _ _ h
set_option maxHeartbeats 4000000 in
set_option maxRecDepth 100000 in
theorem w_X2_firstRowOff_h3 {g : gT} {p : Program} {l : Launch} {e : Env} {s : State} {m : MethodId} {args : Array Value} {below : List Frame} {meth : Method} {c : Code} {z : Int32 × Mem} (F : Fx g p s m args c cX2_firstRowOff 8 uX2_firstRowOff RX2) (hr : meth.sig.returnType = (some .int)) (hlk : meth.locks = false)  {a0 : Nat} {i1 : Int32} {a2 : Nat} {i3 : Int32} (t0 : Ty g 2 a0) (t2 : Ty g 1 a2)   : ∀ (n : Nat) (x4 : Int32) (M : Mem), f_X2_firstRowOff_h3 a0 i1 a2 i3 n x4 M = some z → V g p l e ({ frames := 1, cells := 0, slots := 0, locals := 40 * 1 } : Room) s m args below meth c 8 0 0 (MQ below (gQ g (some (.int z.1)) z.2) args s 0 0 (gA g)) 3 [(0, .ref (gAd g a0)), (1, .int i1), (2, .ref (gAd g a2)), (3, .int i3), (4, .int x4)] [] M := by
  intro n
  induction n with
  | zero => intro x4 M; intros; rename_i h; cases h
  | succ n ih =>
    intro x4 M h
    rw [f_X2_firstRowOff_h3] at h
    refine v_iload F dX2_firstRowOff_3 4 rfl ?_
    refine v_aload_n F dX2_firstRowOff_5 rfl 0 rfl ?_
    refine v_getI (k := 0) F t0 (by decide) (inc inU_2) rfl rfl (by decide) (List.mem_cons_of_mem _ fl_X2_29) rfl dX2_firstRowOff_6 ?_
    refine v_icmp_ge (tgt := 121) F dX2_firstRowOff_9 (by decide) (fun hc1 => ?_) (fun hc1 => ?_)
    · rw [if_pos hc1] at h
      refine v_iconst (v := (-1)) F dX2_firstRowOff_121 (by decide) ?_
      cases h
      exact v_iret F hr rfl hlk dX2_firstRowOff_122
    · rw [if_neg hc1] at h
      refine v_iload F dX2_firstRowOff_12 4 rfl ?_
      refine v_bipush (v := 20) F dX2_firstRowOff_14 (by decide) ?_
      refine v_icmp_ge (tgt := 121) F dX2_firstRowOff_16 (by decide) (fun hc2 => ?_) (fun hc2 => ?_)
      · rw [if_pos hc2] at h
        refine v_iconst (v := (-1)) F dX2_firstRowOff_121 (by decide) ?_
        cases h
        exact v_iret F hr rfl hlk dX2_firstRowOff_122
      · rw [if_neg hc2] at h
        refine v_aload_n F dX2_firstRowOff_19 rfl 0 rfl ?_
        refine v_getR (k := 2) (f := 8) F t0 (by decide) (inc inU_2) rfl rfl (by decide) (by decide) (List.mem_cons_of_mem _ fl_X2_20) rfl dX2_firstRowOff_20 (fun u3 => ?_)
        refine v_iload F dX2_firstRowOff_23 4 rfl ?_
        obtain ⟨⟨r4, M5⟩, hz6, h⟩ := bd_some h
        dsimp only at h
        refine v_callVi (As := [.int x4]) (rest := []) F (c_X8_at l F.2.2.1 u3 hz6) (cwV 1 F.1.2.2.2.2 (gU_V ml_X2_37 im_yX8_at se_yX8_at ini_X8 cd_X8_at) rfl rfl rfl (by decide +kernel) ⟨Nat.le_of_ble_eq_true rfl, Nat.le_of_ble_eq_true rfl⟩) u3 (by decide) rfl rfl rfl (Nat.le_of_ble_eq_true rfl) dX2_firstRowOff_25 ⟨Nat.le_of_ble_eq_true rfl, Nat.le_of_ble_eq_true rfl⟩ ?_
        refine v_istore (lv' := [(5, .int r4), (0, .ref (gAd g a0)), (1, .int i1), (2, .ref (gAd g a2)), (3, .int i3), (4, .int x4)]) F dX2_firstRowOff_28 (by decide) rfl ?_
        refine v_aload_n F dX2_firstRowOff_30 rfl 1 rfl ?_
        refine v_getR (k := 1) (f := 8) F t0 (by decide) (inc inU_2) rfl rfl (by decide) (by decide) (List.mem_cons_of_mem _ fl_X2_16) rfl dX2_firstRowOff_31 (fun u8 => ?_)
        refine v_iload F dX2_firstRowOff_34 5 rfl ?_
        obtain ⟨⟨r9, M10⟩, hz11, h⟩ := bd_some h
        dsimp only at h
        refine v_callVi (As := [.int x4]) (rest := []) F (c_X8_at l F.2.2.1 u8 hz11) (cwV 1 F.1.2.2.2.2 (gU_V ml_X2_37 im_yX8_at se_yX8_at ini_X8 cd_X8_at) rfl rfl rfl (by decide +kernel) ⟨Nat.le_of_ble_eq_true rfl, Nat.le_of_ble_eq_true rfl⟩) u8 (by decide) rfl rfl rfl (Nat.le_of_ble_eq_true rfl) dX2_firstRowOff_36 ⟨Nat.le_of_ble_eq_true rfl, Nat.le_of_ble_eq_true rfl⟩ ?_
        refine v_iload_n F dX2_firstRowOff_39 rfl 2 rfl ?_
        refine v_icmp_ne (tgt := 115) F dX2_firstRowOff_40 (by decide) (fun hc13 => ?_) (fun hc13 => ?_)
        · rw [if_neg hc13] at h
          refine v_sub (fun ls h9 => lv_sub h9 [1, 2, 3, 4, 5] rfl) ?_
          exact w_X2_firstRowOff_b115 F hr hlk t0 t2 ih _ _ h
        · rw [if_pos hc13] at h
          refine v_iload F dX2_firstRowOff_43 0 rfl ?_
          refine v_aload_n F dX2_firstRowOff_45 rfl 3 rfl ?_
          refine v_getI (k := 0) F t2 (by decide) (inc inU_1) rfl rfl (by decide) (List.mem_cons_of_mem _ fl_X2_41) rfl dX2_firstRowOff_46 ?_
          refine v_icmp_ge (tgt := 115) F dX2_firstRowOff_49 (by decide) (fun hc14 => ?_) (fun hc14 => ?_)
          · rw [if_pos hc14] at h
            refine v_sub (fun ls h9 => lv_sub h9 [1, 2, 3, 4, 5] rfl) ?_
            exact w_X2_firstRowOff_b115 F hr hlk t0 t2 ih _ _ h
          · rw [if_neg hc14] at h
            refine v_aload_n F dX2_firstRowOff_52 rfl 1 rfl ?_
            refine v_getR (k := 3) (f := 8) F t0 (by decide) (inc inU_2) rfl rfl (by decide) (by decide) (List.mem_cons_of_mem _ fl_X2_23) rfl dX2_firstRowOff_53 (fun u15 => ?_)
            refine v_iload F dX2_firstRowOff_56 5 rfl ?_
            obtain ⟨⟨r16, M17⟩, hz18, h⟩ := bd_some h
            dsimp only at h
            refine v_callVi (As := [.int x4]) (rest := []) F (c_X8_at l F.2.2.1 u15 hz18) (cwV 1 F.1.2.2.2.2 (gU_V ml_X2_37 im_yX8_at se_yX8_at ini_X8 cd_X8_at) rfl rfl rfl (by decide +kernel) ⟨Nat.le_of_ble_eq_true rfl, Nat.le_of_ble_eq_true rfl⟩) u15 (by decide) rfl rfl rfl (Nat.le_of_ble_eq_true rfl) dX2_firstRowOff_58 ⟨Nat.le_of_ble_eq_true rfl, Nat.le_of_ble_eq_true rfl⟩ ?_
            refine v_aload_n F dX2_firstRowOff_61 rfl 3 rfl ?_
            refine v_getR (k := 3) (f := 8) F t2 (by decide) (inc inU_1) rfl rfl (by decide) (by decide) (List.mem_cons_of_mem _ fl_X2_45) rfl dX2_firstRowOff_62 (fun u20 => ?_)
            refine v_iload F dX2_firstRowOff_65 0 rfl ?_
            obtain ⟨⟨r21, M22⟩, hz23, h⟩ := bd_some h
            dsimp only at h
            refine v_callVi (As := [.int r4]) (rest := [.int r16]) F (c_X8_at l F.2.2.1 u20 hz23) (cwV 1 F.1.2.2.2.2 (gU_V ml_X2_37 im_yX8_at se_yX8_at ini_X8 cd_X8_at) rfl rfl rfl (by decide +kernel) ⟨Nat.le_of_ble_eq_true rfl, Nat.le_of_ble_eq_true rfl⟩) u20 (by decide) rfl rfl rfl (Nat.le_of_ble_eq_true rfl) dX2_firstRowOff_67 ⟨Nat.le_of_ble_eq_true rfl, Nat.le_of_ble_eq_true rfl⟩ ?_
            refine v_isub F dX2_firstRowOff_70 ?_
            refine v_mabs F (List.mem_cons_of_mem _ ml_X2_46) (List.mem_cons_of_mem _ st_mabs) (List.mem_cons_of_mem _ ini_Math) (List.mem_cons_of_mem _ cd_mabs) dX2_firstRowOff_71 ⟨Nat.le_of_ble_eq_true rfl, Nat.le_of_ble_eq_true rfl, Nat.le_of_ble_eq_true rfl, Nat.le_of_ble_eq_true rfl⟩ (Nat.le_of_ble_eq_true rfl) ?_
            refine v_istore (lv' := [(6, .int (if 0 ≤ (r16 - r21) then (r16 - r21) else 0 - (r16 - r21))), (5, .int r4), (0, .ref (gAd g a0)), (1, .int i1), (2, .ref (gAd g a2)), (3, .int i3), (4, .int x4)]) F dX2_firstRowOff_74 (by decide) rfl ?_
            refine v_aload_n F dX2_firstRowOff_76 rfl 2 rfl ?_
            refine v_getR (k := 4) (f := 8) F t0 (by decide) (inc inU_2) rfl rfl (by decide) (by decide) (List.mem_cons_of_mem _ fl_X2_26) rfl dX2_firstRowOff_77 (fun u25 => ?_)
            refine v_iload F dX2_firstRowOff_80 6 rfl ?_
            obtain ⟨⟨r26, M27⟩, hz28, h⟩ := bd_some h
            dsimp only at h
            refine v_callVi (As := [.int x4]) (rest := []) F (c_X8_at l F.2.2.1 u25 hz28) (cwV 1 F.1.2.2.2.2 (gU_V ml_X2_37 im_yX8_at se_yX8_at ini_X8 cd_X8_at) rfl rfl rfl (by decide +kernel) ⟨Nat.le_of_ble_eq_true rfl, Nat.le_of_ble_eq_true rfl⟩) u25 (by decide) rfl rfl rfl (Nat.le_of_ble_eq_true rfl) dX2_firstRowOff_82 ⟨Nat.le_of_ble_eq_true rfl, Nat.le_of_ble_eq_true rfl⟩ ?_
            refine v_aload_n F dX2_firstRowOff_85 rfl 4 rfl ?_
            refine v_getR (k := 4) (f := 8) F t2 (by decide) (inc inU_1) rfl rfl (by decide) (by decide) (List.mem_cons_of_mem _ fl_X2_51) rfl dX2_firstRowOff_86 (fun u30 => ?_)
            refine v_iload F dX2_firstRowOff_89 1 rfl ?_
            obtain ⟨⟨r31, M32⟩, hz33, h⟩ := bd_some h
            dsimp only at h
            refine v_callVi (As := [.int r4]) (rest := [.int r26]) F (c_X8_at l F.2.2.1 u30 hz33) (cwV 1 F.1.2.2.2.2 (gU_V ml_X2_37 im_yX8_at se_yX8_at ini_X8 cd_X8_at) rfl rfl rfl (by decide +kernel) ⟨Nat.le_of_ble_eq_true rfl, Nat.le_of_ble_eq_true rfl⟩) u30 (by decide) rfl rfl rfl (Nat.le_of_ble_eq_true rfl) dX2_firstRowOff_91 ⟨Nat.le_of_ble_eq_true rfl, Nat.le_of_ble_eq_true rfl⟩ ?_
            refine v_isub F dX2_firstRowOff_94 ?_
            refine v_mabs F (List.mem_cons_of_mem _ ml_X2_46) (List.mem_cons_of_mem _ st_mabs) (List.mem_cons_of_mem _ ini_Math) (List.mem_cons_of_mem _ cd_mabs) dX2_firstRowOff_95 ⟨Nat.le_of_ble_eq_true rfl, Nat.le_of_ble_eq_true rfl, Nat.le_of_ble_eq_true rfl, Nat.le_of_ble_eq_true rfl⟩ (Nat.le_of_ble_eq_true rfl) ?_
            refine v_istore (lv' := [(7, .int (if 0 ≤ (r26 - r31) then (r26 - r31) else 0 - (r26 - r31))), (6, .int (if 0 ≤ (r16 - r21) then (r16 - r21) else 0 - (r16 - r21))), (5, .int r4), (0, .ref (gAd g a0)), (1, .int i1), (2, .ref (gAd g a2)), (3, .int i3), (4, .int x4)]) F dX2_firstRowOff_98 (by decide) rfl ?_
            refine v_iload F dX2_firstRowOff_100 1 rfl ?_
            refine v_iload_n F dX2_firstRowOff_102 rfl 6 rfl ?_
            refine v_icmp_gt (tgt := 112) F dX2_firstRowOff_103 (by decide) (fun hc35 => ?_) (fun hc35 => ?_)
            · rw [if_pos hc35] at h
              refine v_iload F dX2_firstRowOff_112 7 rfl ?_
              cases h
              exact v_iret F hr rfl hlk dX2_firstRowOff_114
            · rw [if_neg hc35] at h
              refine v_iload F dX2_firstRowOff_106 0 rfl ?_
              refine v_iload_n F dX2_firstRowOff_108 rfl 6 rfl ?_
              refine v_icmp_le (tgt := 115) F dX2_firstRowOff_109 (by decide) (fun hc36 => ?_) (fun hc36 => ?_)
              · rw [if_pos hc36] at h
                refine v_sub (fun ls h9 => lv_sub h9 [3, 4, 5, 6, 7] rfl) ?_
                exact w_X2_firstRowOff_b115 F hr hlk t0 t2 ih _ _ h
              · rw [if_neg hc36] at h
                refine v_iload F dX2_firstRowOff_112 7 rfl ?_
                cases h
                exact v_iret F hr rfl hlk dX2_firstRowOff_114
set_option maxHeartbeats 4000000 in
set_option maxRecDepth 100000 in
theorem c_X2_firstRowOff {g : gT} (l : Launch) (hok : gOK g)  {a0 : Nat} {i1 : Int32} {a2 : Nat} {i3 : Int32} {M : Mem} {z : Int32 × Mem}  (t0 : Ty g 2 a0) (t2 : Ty g 1 a2) (h : f_X2_firstRowOff  M a0 i1 a2 i3 = some z) : Cn g l yX2_firstRowOff uX2_firstRowOff 1 [.ref (gAd g a0), .int i1, .ref (gAd g a2), .int i3] M (some (.int z.1)) z.2 := by
  refine Cn.of (cc := cX2_firstRowOff) (maxL := 8) (ret := (some .int)) hok (by decide) rfl (Nat.le_of_ble_eq_true rfl) (fun p e s m args below meth c F hr hlk => ?_)
  unfold f_X2_firstRowOff at h
  show V g p l e ({ frames := 1, cells := 0, slots := 0, locals := 40 * 1 } : Room) s m args below meth c 8 0 0 (MQ below (gQ g (some (.int z.1)) z.2) args s 0 0 (gA g)) 0 [(0, .ref (gAd g a0)), (1, .int i1), (2, .ref (gAd g a2)), (3, .int i3)] [] M
  refine v_iconst (v := 0) F dX2_firstRowOff_0 (by decide) ?_
  refine v_istore (lv' := [(4, .int 0), (0, .ref (gAd g a0)), (1, .int i1), (2, .ref (gAd g a2)), (3, .int i3)]) F dX2_firstRowOff_1 (by decide) rfl ?_
  refine v_sub (fun ls h9 => lv_sub h9 [1, 2, 3, 4, 0] rfl) ?_
  exact w_X2_firstRowOff_h3 F hr hlk t0 t2 _ _ _ h
def f_X2_copy  (M : Mem) (a0 : Nat) (a1 : Nat) : Option (Int32 × Mem) := (f_X8_copy (mU M a0 0 (M a1 0)) (gRf a0 1) (gRf a1 1)).bind fun q => match q with | (r3, M4) => ((f_X8_copy M4 (gRf a0 2) (gRf a1 2)).bind fun q => match q with | (r9, M10) => ((f_X8_copy M10 (gRf a0 3) (gRf a1 3)).bind fun q => match q with | (r15, M16) => ((f_X8_copy M16 (gRf a0 4) (gRf a1 4)).bind fun q => match q with | (r21, M22) => (some (0, M22)))))
set_option maxHeartbeats 4000000 in
set_option maxRecDepth 100000 in
theorem c_X2_copy {g : gT} (l : Launch) (hok : gOK g)  {a0 : Nat} {a1 : Nat} {M : Mem} {z : Int32 × Mem}  (t0 : Ty g 2 a0) (t1 : Ty g 2 a1) (h : f_X2_copy  M a0 a1 = some z) : Cn g l yX2_copy uX2_copy 1 [.ref (gAd g a0), .ref (gAd g a1)] M none z.2 := by
  refine Cn.of (cc := cX2_copy) (maxL := 2) (ret := none) hok (by decide) rfl (Nat.le_of_ble_eq_true rfl) (fun p e s m args below meth c F hr hlk => ?_)
  unfold f_X2_copy at h
  show V g p l e ({ frames := 1, cells := 0, slots := 0, locals := 40 * 1 } : Room) s m args below meth c 2 0 0 (MQ below (gQ g none z.2) args s 0 0 (gA g)) 0 [(0, .ref (gAd g a0)), (1, .ref (gAd g a1))] [] M
  refine v_aload_n F dX2_copy_0 rfl 0 rfl ?_
  refine v_aload_n F dX2_copy_1 rfl 1 rfl ?_
  refine v_getI (k := 0) F t1 (by decide) (inc inU_2) rfl rfl (by decide) (List.mem_cons_of_mem _ fl_X2_29) rfl dX2_copy_2 ?_
  refine v_put (k := 0) (ty := .int) F t0 (by decide) (inc inU_2) tyX2 tyX2_ok nmX2 rfl rfl (by decide) (List.mem_cons_of_mem _ fl_X2_29) rfl rfl (by decide +kernel) rfl rfl dX2_copy_5 ?_
  refine v_aload_n F dX2_copy_8 rfl 0 rfl ?_
  refine v_getR (k := 1) (f := 8) F t0 (by decide) (inc inU_2) rfl rfl (by decide) (by decide) (List.mem_cons_of_mem _ fl_X2_16) rfl dX2_copy_9 (fun u1 => ?_)
  refine v_aload_n F dX2_copy_12 rfl 1 rfl ?_
  refine v_getR (k := 1) (f := 8) F t1 (by decide) (inc inU_2) rfl rfl (by decide) (by decide) (List.mem_cons_of_mem _ fl_X2_16) rfl dX2_copy_13 (fun u2 => ?_)
  obtain ⟨⟨r3, M4⟩, hz5, h⟩ := bd_some h
  dsimp only at h
  refine v_callVv (As := [.ref (gAd g (gRf a1 1))]) (rest := []) F (c_X8_copy l F.2.2.1 u1 u2 hz5) (cwV 1 F.1.2.2.2.2 (gU_V ml_X2_52 im_yX8_copy se_yX8_copy ini_X8 cd_X8_copy) rfl rfl rfl (by decide +kernel) ⟨Nat.le_of_ble_eq_true rfl, Nat.le_of_ble_eq_true rfl⟩) u1 (by decide) rfl rfl rfl (Nat.le_of_ble_eq_true rfl) dX2_copy_16 ⟨Nat.le_of_ble_eq_true rfl, Nat.le_of_ble_eq_true rfl⟩ ?_
  refine v_aload_n F dX2_copy_19 rfl 0 rfl ?_
  refine v_getR (k := 2) (f := 8) F t0 (by decide) (inc inU_2) rfl rfl (by decide) (by decide) (List.mem_cons_of_mem _ fl_X2_20) rfl dX2_copy_20 (fun u7 => ?_)
  refine v_aload_n F dX2_copy_23 rfl 1 rfl ?_
  refine v_getR (k := 2) (f := 8) F t1 (by decide) (inc inU_2) rfl rfl (by decide) (by decide) (List.mem_cons_of_mem _ fl_X2_20) rfl dX2_copy_24 (fun u8 => ?_)
  obtain ⟨⟨r9, M10⟩, hz11, h⟩ := bd_some h
  dsimp only at h
  refine v_callVv (As := [.ref (gAd g (gRf a1 2))]) (rest := []) F (c_X8_copy l F.2.2.1 u7 u8 hz11) (cwV 1 F.1.2.2.2.2 (gU_V ml_X2_52 im_yX8_copy se_yX8_copy ini_X8 cd_X8_copy) rfl rfl rfl (by decide +kernel) ⟨Nat.le_of_ble_eq_true rfl, Nat.le_of_ble_eq_true rfl⟩) u7 (by decide) rfl rfl rfl (Nat.le_of_ble_eq_true rfl) dX2_copy_27 ⟨Nat.le_of_ble_eq_true rfl, Nat.le_of_ble_eq_true rfl⟩ ?_
  refine v_aload_n F dX2_copy_30 rfl 0 rfl ?_
  refine v_getR (k := 3) (f := 8) F t0 (by decide) (inc inU_2) rfl rfl (by decide) (by decide) (List.mem_cons_of_mem _ fl_X2_23) rfl dX2_copy_31 (fun u13 => ?_)
  refine v_aload_n F dX2_copy_34 rfl 1 rfl ?_
  refine v_getR (k := 3) (f := 8) F t1 (by decide) (inc inU_2) rfl rfl (by decide) (by decide) (List.mem_cons_of_mem _ fl_X2_23) rfl dX2_copy_35 (fun u14 => ?_)
  obtain ⟨⟨r15, M16⟩, hz17, h⟩ := bd_some h
  dsimp only at h
  refine v_callVv (As := [.ref (gAd g (gRf a1 3))]) (rest := []) F (c_X8_copy l F.2.2.1 u13 u14 hz17) (cwV 1 F.1.2.2.2.2 (gU_V ml_X2_52 im_yX8_copy se_yX8_copy ini_X8 cd_X8_copy) rfl rfl rfl (by decide +kernel) ⟨Nat.le_of_ble_eq_true rfl, Nat.le_of_ble_eq_true rfl⟩) u13 (by decide) rfl rfl rfl (Nat.le_of_ble_eq_true rfl) dX2_copy_38 ⟨Nat.le_of_ble_eq_true rfl, Nat.le_of_ble_eq_true rfl⟩ ?_
  refine v_aload_n F dX2_copy_41 rfl 0 rfl ?_
  refine v_getR (k := 4) (f := 8) F t0 (by decide) (inc inU_2) rfl rfl (by decide) (by decide) (List.mem_cons_of_mem _ fl_X2_26) rfl dX2_copy_42 (fun u19 => ?_)
  refine v_aload_n F dX2_copy_45 rfl 1 rfl ?_
  refine v_getR (k := 4) (f := 8) F t1 (by decide) (inc inU_2) rfl rfl (by decide) (by decide) (List.mem_cons_of_mem _ fl_X2_26) rfl dX2_copy_46 (fun u20 => ?_)
  obtain ⟨⟨r21, M22⟩, hz23, h⟩ := bd_some h
  dsimp only at h
  refine v_callVv (As := [.ref (gAd g (gRf a1 4))]) (rest := []) F (c_X8_copy l F.2.2.1 u19 u20 hz23) (cwV 1 F.1.2.2.2.2 (gU_V ml_X2_52 im_yX8_copy se_yX8_copy ini_X8 cd_X8_copy) rfl rfl rfl (by decide +kernel) ⟨Nat.le_of_ble_eq_true rfl, Nat.le_of_ble_eq_true rfl⟩) u19 (by decide) rfl rfl rfl (Nat.le_of_ble_eq_true rfl) dX2_copy_49 ⟨Nat.le_of_ble_eq_true rfl, Nat.le_of_ble_eq_true rfl⟩ ?_
  cases h
  exact v_vret F hr hlk dX2_copy_52
def f_X3_take  (M : Mem) (a0 : Nat) (a1 : Nat) (i2 : Int32) : Option (Int32 × Mem) := (f_X8_copy M (gRf a0 2) a1).bind fun q => match q with | (r2, M3) => (some (0, (mU M3 a0 4 i2)))
set_option maxHeartbeats 4000000 in
set_option maxRecDepth 100000 in
theorem c_X3_take {g : gT} (l : Launch) (hok : gOK g)  {a0 : Nat} {a1 : Nat} {i2 : Int32} {M : Mem} {z : Int32 × Mem}  (t0 : Ty g 3 a0) (t1 : Ty g 8 a1) (h : f_X3_take  M a0 a1 i2 = some z) : Cn g l yX3_take uX3_take 1 [.ref (gAd g a0), .ref (gAd g a1), .int i2] M none z.2 := by
  refine Cn.of (cc := cX3_take) (maxL := 3) (ret := none) hok (by decide) rfl (Nat.le_of_ble_eq_true rfl) (fun p e s m args below meth c F hr hlk => ?_)
  unfold f_X3_take at h
  show V g p l e ({ frames := 1, cells := 0, slots := 0, locals := 40 * 1 } : Room) s m args below meth c 3 0 0 (MQ below (gQ g none z.2) args s 0 0 (gA g)) 0 [(0, .ref (gAd g a0)), (1, .ref (gAd g a1)), (2, .int i2)] [] M
  refine v_aload_n F dX3_take_0 rfl 0 rfl ?_
  refine v_getR (k := 2) (f := 8) F t0 (by decide) (inc inU_3) rfl rfl (by decide) (by decide) (List.mem_cons_of_mem _ fl_X3_14) rfl dX3_take_1 (fun u1 => ?_)
  refine v_aload_n F dX3_take_4 rfl 1 rfl ?_
  obtain ⟨⟨r2, M3⟩, hz4, h⟩ := bd_some h
  dsimp only at h
  refine v_callVv (As := [.ref (gAd g a1)]) (rest := []) F (c_X8_copy l F.2.2.1 u1 t1 hz4) (cwV 1 F.1.2.2.2.2 (gU_V ml_X3_23 im_yX8_copy se_yX8_copy ini_X8 cd_X8_copy) rfl rfl rfl (by decide +kernel) ⟨Nat.le_of_ble_eq_true rfl, Nat.le_of_ble_eq_true rfl⟩) u1 (by decide) rfl rfl rfl (Nat.le_of_ble_eq_true rfl) dX3_take_5 ⟨Nat.le_of_ble_eq_true rfl, Nat.le_of_ble_eq_true rfl⟩ ?_
  refine v_aload_n F dX3_take_8 rfl 0 rfl ?_
  refine v_iload_n F dX3_take_9 rfl 2 rfl ?_
  refine v_put (k := 4) (ty := .int) F t0 (by decide) (inc inU_3) tyX3 tyX3_ok nmX3 rfl rfl (by decide) (List.mem_cons_of_mem _ fl_X3_27) rfl rfl (by decide +kernel) rfl rfl dX3_take_10 ?_
  cases h
  exact v_vret F hr hlk dX3_take_13
def f_X4_add  (M : Mem) (a0 : Nat) (i1 : Int32) (i2 : Int32) (i3 : Int32) : Option (Int32 × Mem) := if (M a0 0) < 5 then ((f_X8_put M (gRf a0 1) (M a0 0) i1).bind fun q => match q with | (r3, M4) => ((f_X8_put M4 (gRf a0 2) (M4 a0 0) i2).bind fun q => match q with | (r8, M9) => ((f_X8_put M9 (gRf a0 3) (M9 a0 0) i3).bind fun q => match q with | (r13, M14) => (some (((mU M14 a0 0 ((M14 a0 0) + 1)) a0 0) - 1, (mU M14 a0 0 ((M14 a0 0) + 1))))))) else (some ((-1), M))
set_option maxHeartbeats 4000000 in
set_option maxRecDepth 100000 in
theorem c_X4_add {g : gT} (l : Launch) (hok : gOK g)  {a0 : Nat} {i1 : Int32} {i2 : Int32} {i3 : Int32} {M : Mem} {z : Int32 × Mem}  (t0 : Ty g 4 a0) (h : f_X4_add  M a0 i1 i2 i3 = some z) : Cn g l yX4_add uX4_add 1 [.ref (gAd g a0), .int i1, .int i2, .int i3] M (some (.int z.1)) z.2 := by
  refine Cn.of (cc := cX4_add) (maxL := 4) (ret := (some .int)) hok (by decide) rfl (Nat.le_of_ble_eq_true rfl) (fun p e s m args below meth c F hr hlk => ?_)
  unfold f_X4_add at h
  show V g p l e ({ frames := 1, cells := 0, slots := 0, locals := 40 * 1 } : Room) s m args below meth c 4 0 0 (MQ below (gQ g (some (.int z.1)) z.2) args s 0 0 (gA g)) 0 [(0, .ref (gAd g a0)), (1, .int i1), (2, .int i2), (3, .int i3)] [] M
  refine v_aload_n F dX4_add_0 rfl 0 rfl ?_
  refine v_getI (k := 0) F t0 (by decide) (inc inU_4) rfl rfl (by decide) (List.mem_cons_of_mem _ fl_X4_24) rfl dX4_add_1 ?_
  refine v_iconst (v := 5) F dX4_add_4 (by decide) ?_
  refine v_icmp_lt (tgt := 10) F dX4_add_5 (by decide) (fun hc1 => ?_) (fun hc1 => ?_)
  · rw [if_pos hc1] at h
    refine v_aload_n F dX4_add_10 rfl 0 rfl ?_
    refine v_getR (k := 1) (f := 8) F t0 (by decide) (inc inU_4) rfl rfl (by decide) (by decide) (List.mem_cons_of_mem _ fl_X4_14) rfl dX4_add_11 (fun u2 => ?_)
    refine v_aload_n F dX4_add_14 rfl 0 rfl ?_
    refine v_getI (k := 0) F t0 (by decide) (inc inU_4) rfl rfl (by decide) (List.mem_cons_of_mem _ fl_X4_24) rfl dX4_add_15 ?_
    refine v_iload_n F dX4_add_18 rfl 1 rfl ?_
    obtain ⟨⟨r3, M4⟩, hz5, h⟩ := bd_some h
    dsimp only at h
    refine v_callVv (As := [.int (M a0 0), .int i1]) (rest := []) F (c_X8_put l F.2.2.1 u2 hz5) (cwV 2 F.1.2.2.2.2 (gU_V ml_X4_28 im_yX8_put se_yX8_put ini_X8 cd_X8_put) rfl rfl rfl (by decide +kernel) ⟨Nat.le_of_ble_eq_true rfl, Nat.le_of_ble_eq_true rfl⟩) u2 (by decide) rfl rfl rfl (Nat.le_of_ble_eq_true rfl) dX4_add_19 ⟨Nat.le_of_ble_eq_true rfl, Nat.le_of_ble_eq_true rfl⟩ ?_
    refine v_aload_n F dX4_add_22 rfl 0 rfl ?_
    refine v_getR (k := 2) (f := 8) F t0 (by decide) (inc inU_4) rfl rfl (by decide) (by decide) (List.mem_cons_of_mem _ fl_X4_18) rfl dX4_add_23 (fun u7 => ?_)
    refine v_aload_n F dX4_add_26 rfl 0 rfl ?_
    refine v_getI (k := 0) F t0 (by decide) (inc inU_4) rfl rfl (by decide) (List.mem_cons_of_mem _ fl_X4_24) rfl dX4_add_27 ?_
    refine v_iload_n F dX4_add_30 rfl 2 rfl ?_
    obtain ⟨⟨r8, M9⟩, hz10, h⟩ := bd_some h
    dsimp only at h
    refine v_callVv (As := [.int (M4 a0 0), .int i2]) (rest := []) F (c_X8_put l F.2.2.1 u7 hz10) (cwV 2 F.1.2.2.2.2 (gU_V ml_X4_28 im_yX8_put se_yX8_put ini_X8 cd_X8_put) rfl rfl rfl (by decide +kernel) ⟨Nat.le_of_ble_eq_true rfl, Nat.le_of_ble_eq_true rfl⟩) u7 (by decide) rfl rfl rfl (Nat.le_of_ble_eq_true rfl) dX4_add_31 ⟨Nat.le_of_ble_eq_true rfl, Nat.le_of_ble_eq_true rfl⟩ ?_
    refine v_aload_n F dX4_add_34 rfl 0 rfl ?_
    refine v_getR (k := 3) (f := 8) F t0 (by decide) (inc inU_4) rfl rfl (by decide) (by decide) (List.mem_cons_of_mem _ fl_X4_21) rfl dX4_add_35 (fun u12 => ?_)
    refine v_aload_n F dX4_add_38 rfl 0 rfl ?_
    refine v_getI (k := 0) F t0 (by decide) (inc inU_4) rfl rfl (by decide) (List.mem_cons_of_mem _ fl_X4_24) rfl dX4_add_39 ?_
    refine v_iload_n F dX4_add_42 rfl 3 rfl ?_
    obtain ⟨⟨r13, M14⟩, hz15, h⟩ := bd_some h
    dsimp only at h
    refine v_callVv (As := [.int (M9 a0 0), .int i3]) (rest := []) F (c_X8_put l F.2.2.1 u12 hz15) (cwV 2 F.1.2.2.2.2 (gU_V ml_X4_28 im_yX8_put se_yX8_put ini_X8 cd_X8_put) rfl rfl rfl (by decide +kernel) ⟨Nat.le_of_ble_eq_true rfl, Nat.le_of_ble_eq_true rfl⟩) u12 (by decide) rfl rfl rfl (Nat.le_of_ble_eq_true rfl) dX4_add_43 ⟨Nat.le_of_ble_eq_true rfl, Nat.le_of_ble_eq_true rfl⟩ ?_
    refine v_aload_n F dX4_add_46 rfl 0 rfl ?_
    refine v_dup F dX4_add_47 rfl ?_
    refine v_getI (k := 0) F t0 (by decide) (inc inU_4) rfl rfl (by decide) (List.mem_cons_of_mem _ fl_X4_24) rfl dX4_add_48 ?_
    refine v_iconst (v := 1) F dX4_add_51 (by decide) ?_
    refine v_iadd F dX4_add_52 ?_
    refine v_put (k := 0) (ty := .int) F t0 (by decide) (inc inU_4) tyX4 tyX4_ok nmX4 rfl rfl (by decide) (List.mem_cons_of_mem _ fl_X4_24) rfl rfl (by decide +kernel) rfl rfl dX4_add_53 ?_
    refine v_aload_n F dX4_add_56 rfl 0 rfl ?_
    refine v_getI (k := 0) F t0 (by decide) (inc inU_4) rfl rfl (by decide) (List.mem_cons_of_mem _ fl_X4_24) rfl dX4_add_57 ?_
    refine v_iconst (v := 1) F dX4_add_60 (by decide) ?_
    refine v_isub F dX4_add_61 ?_
    cases h
    exact v_iret F hr rfl hlk dX4_add_62
  · rw [if_neg hc1] at h
    refine v_iconst (v := (-1)) F dX4_add_8 (by decide) ?_
    cases h
    exact v_iret F hr rfl hlk dX4_add_9
def f_X4_costOf_h4 (a0 : Nat) (i1 : Int32)  : Nat → Int32 → Int32 → Mem → Option (Int32 × Mem)
  | 0, _, _, _ => none
  | n + 1, x2, x3, M => if (M a0 0) ≤ x3 then (some (x2, M)) else (if 5 ≤ x3 then (some (x2, M)) else ((f_X8_at M (gRf a0 3) x3).bind fun q => match q with | (r4, M5) => ((f_X4_costOf_h4 a0 i1 n) (x2 + (((i1 >>> (x3 &&& 31)) &&& 1) * r4)) (x3 + 1) M5)))
def f_X4_costOf  (M : Mem) (a0 : Nat) (i1 : Int32) : Option (Int32 × Mem) := f_X4_costOf_h4 a0 i1 FU 0 0 M
set_option maxHeartbeats 4000000 in
set_option maxRecDepth 100000 in
theorem w_X4_costOf_h4 {g : gT} {p : Program} {l : Launch} {e : Env} {s : State} {m : MethodId} {args : Array Value} {below : List Frame} {meth : Method} {c : Code} {z : Int32 × Mem} (F : Fx g p s m args c cX4_costOf 4 uX4_costOf RX4) (hr : meth.sig.returnType = (some .int)) (hlk : meth.locks = false)  {a0 : Nat} {i1 : Int32} (t0 : Ty g 4 a0)   : ∀ (n : Nat) (x2 : Int32) (x3 : Int32) (M : Mem), f_X4_costOf_h4 a0 i1 n x2 x3 M = some z → V g p l e ({ frames := 1, cells := 0, slots := 0, locals := 40 * 1 } : Room) s m args below meth c 4 0 0 (MQ below (gQ g (some (.int z.1)) z.2) args s 0 0 (gA g)) 4 [(0, .ref (gAd g a0)), (1, .int i1), (2, .int x2), (3, .int x3)] [] M := by
  intro n
  induction n with
  | zero => intro x2 x3 M; intros; rename_i h; cases h
  | succ n ih =>
    intro x2 x3 M h
    rw [f_X4_costOf_h4] at h
    refine v_iload_n F dX4_costOf_4 rfl 3 rfl ?_
    refine v_aload_n F dX4_costOf_5 rfl 0 rfl ?_
    refine v_getI (k := 0) F t0 (by decide) (inc inU_4) rfl rfl (by decide) (List.mem_cons_of_mem _ fl_X4_24) rfl dX4_costOf_6 ?_
    refine v_icmp_ge (tgt := 40) F dX4_costOf_9 (by decide) (fun hc1 => ?_) (fun hc1 => ?_)
    · rw [if_pos hc1] at h
      refine v_iload_n F dX4_costOf_40 rfl 2 rfl ?_
      cases h
      exact v_iret F hr rfl hlk dX4_costOf_41
    · rw [if_neg hc1] at h
      refine v_iload_n F dX4_costOf_12 rfl 3 rfl ?_
      refine v_iconst (v := 5) F dX4_costOf_13 (by decide) ?_
      refine v_icmp_ge (tgt := 40) F dX4_costOf_14 (by decide) (fun hc2 => ?_) (fun hc2 => ?_)
      · rw [if_pos hc2] at h
        refine v_iload_n F dX4_costOf_40 rfl 2 rfl ?_
        cases h
        exact v_iret F hr rfl hlk dX4_costOf_41
      · rw [if_neg hc2] at h
        refine v_iload_n F dX4_costOf_17 rfl 2 rfl ?_
        refine v_iload_n F dX4_costOf_18 rfl 1 rfl ?_
        refine v_iload_n F dX4_costOf_19 rfl 3 rfl ?_
        refine v_ishr F dX4_costOf_20 ?_
        refine v_iconst (v := 1) F dX4_costOf_21 (by decide) ?_
        refine v_iand F dX4_costOf_22 ?_
        refine v_aload_n F dX4_costOf_23 rfl 0 rfl ?_
        refine v_getR (k := 3) (f := 8) F t0 (by decide) (inc inU_4) rfl rfl (by decide) (by decide) (List.mem_cons_of_mem _ fl_X4_21) rfl dX4_costOf_24 (fun u3 => ?_)
        refine v_iload_n F dX4_costOf_27 rfl 3 rfl ?_
        obtain ⟨⟨r4, M5⟩, hz6, h⟩ := bd_some h
        dsimp only at h
        refine v_callVi (As := [.int x3]) (rest := [.int ((i1 >>> (x3 &&& 31)) &&& 1), .int x2]) F (c_X8_at l F.2.2.1 u3 hz6) (cwV 1 F.1.2.2.2.2 (gU_V ml_X4_32 im_yX8_at se_yX8_at ini_X8 cd_X8_at) rfl rfl rfl (by decide +kernel) ⟨Nat.le_of_ble_eq_true rfl, Nat.le_of_ble_eq_true rfl⟩) u3 (by decide) rfl rfl rfl (Nat.le_of_ble_eq_true rfl) dX4_costOf_28 ⟨Nat.le_of_ble_eq_true rfl, Nat.le_of_ble_eq_true rfl⟩ ?_
        refine v_imul F dX4_costOf_31 ?_
        refine v_iadd F dX4_costOf_32 ?_
        refine v_istore_n (lv' := [(2, .int (x2 + (((i1 >>> (x3 &&& 31)) &&& 1) * r4))), (0, .ref (gAd g a0)), (1, .int i1), (3, .int x3)]) F dX4_costOf_33 rfl (by decide) rfl ?_
        refine v_iinc (v := x3 + 1) (lv' := [(3, .int (x3 + 1)), (2, .int (x2 + (((i1 >>> (x3 &&& 31)) &&& 1) * r4))), (0, .ref (gAd g a0)), (1, .int i1)]) F dX4_costOf_34 (q := 3) rfl rfl (by decide) rfl ?_
        refine v_goto (tgt := 4) F dX4_costOf_37 (by decide) ?_
        refine v_sub (fun ls h9 => lv_sub h9 [2, 3, 1, 0] rfl) ?_
        exact ih _ _ _ h
set_option maxHeartbeats 4000000 in
set_option maxRecDepth 100000 in
theorem c_X4_costOf {g : gT} (l : Launch) (hok : gOK g)  {a0 : Nat} {i1 : Int32} {M : Mem} {z : Int32 × Mem}  (t0 : Ty g 4 a0) (h : f_X4_costOf  M a0 i1 = some z) : Cn g l yX4_costOf uX4_costOf 1 [.ref (gAd g a0), .int i1] M (some (.int z.1)) z.2 := by
  refine Cn.of (cc := cX4_costOf) (maxL := 4) (ret := (some .int)) hok (by decide) rfl (Nat.le_of_ble_eq_true rfl) (fun p e s m args below meth c F hr hlk => ?_)
  unfold f_X4_costOf at h
  show V g p l e ({ frames := 1, cells := 0, slots := 0, locals := 40 * 1 } : Room) s m args below meth c 4 0 0 (MQ below (gQ g (some (.int z.1)) z.2) args s 0 0 (gA g)) 0 [(0, .ref (gAd g a0)), (1, .int i1)] [] M
  refine v_iconst (v := 0) F dX4_costOf_0 (by decide) ?_
  refine v_istore_n (lv' := [(2, .int 0), (0, .ref (gAd g a0)), (1, .int i1)]) F dX4_costOf_1 rfl (by decide) rfl ?_
  refine v_iconst (v := 0) F dX4_costOf_2 (by decide) ?_
  refine v_istore_n (lv' := [(3, .int 0), (2, .int 0), (0, .ref (gAd g a0)), (1, .int i1)]) F dX4_costOf_3 rfl (by decide) rfl ?_
  refine v_sub (fun ls h9 => lv_sub h9 [2, 3, 1, 0] rfl) ?_
  exact w_X4_costOf_h4 F hr hlk t0 _ _ _ _ h
def f_X4_make  (M : Mem) (a0 : Nat) (i1 : Int32) (a2 : Nat) : Option (Int32 × Mem) := (f_X8_at M (gRf a0 1) i1).bind fun q => match q with | (r2, M3) => ((f_X8_at M3 (gRf a0 2) i1).bind fun q => match q with | (r7, M8) => ((f_X1_change M8 a2 r2 r7).bind fun q => match q with | (r11, M12) => (some (0, M12))))
set_option maxHeartbeats 4000000 in
set_option maxRecDepth 100000 in
theorem c_X4_make {g : gT} (l : Launch) (hok : gOK g)  {a0 : Nat} {i1 : Int32} {a2 : Nat} {M : Mem} {z : Int32 × Mem}  (t0 : Ty g 4 a0) (t2 : Ty g 1 a2) (h : f_X4_make  M a0 i1 a2 = some z) : Cn g l yX4_make uX4_make 3 [.ref (gAd g a0), .int i1, .ref (gAd g a2)] M none z.2 := by
  refine Cn.of (cc := cX4_make) (maxL := 3) (ret := none) hok (by decide) rfl (Nat.le_of_ble_eq_true rfl) (fun p e s m args below meth c F hr hlk => ?_)
  unfold f_X4_make at h
  show V g p l e ({ frames := 3, cells := 0, slots := 0, locals := 40 * 3 } : Room) s m args below meth c 3 0 0 (MQ below (gQ g none z.2) args s 0 0 (gA g)) 0 [(0, .ref (gAd g a0)), (1, .int i1), (2, .ref (gAd g a2))] [] M
  refine v_aload_n F dX4_make_0 rfl 2 rfl ?_
  refine v_aload_n F dX4_make_1 rfl 0 rfl ?_
  refine v_getR (k := 1) (f := 8) F t0 (by decide) (inc inU_4) rfl rfl (by decide) (by decide) (List.mem_cons_of_mem _ fl_X4_14) rfl dX4_make_2 (fun u1 => ?_)
  refine v_iload_n F dX4_make_5 rfl 1 rfl ?_
  obtain ⟨⟨r2, M3⟩, hz4, h⟩ := bd_some h
  dsimp only at h
  refine v_callVi (As := [.int i1]) (rest := [.ref (gAd g a2)]) F (c_X8_at l F.2.2.1 u1 hz4) (cwV 1 F.1.2.2.2.2 (gU_V ml_X4_32 im_yX8_at se_yX8_at ini_X8 cd_X8_at) rfl rfl rfl (by decide +kernel) ⟨Nat.le_of_ble_eq_true rfl, Nat.le_of_ble_eq_true rfl⟩) u1 (by decide) rfl rfl rfl (Nat.le_of_ble_eq_true rfl) dX4_make_6 ⟨Nat.le_of_ble_eq_true rfl, Nat.le_of_ble_eq_true rfl⟩ ?_
  refine v_aload_n F dX4_make_9 rfl 0 rfl ?_
  refine v_getR (k := 2) (f := 8) F t0 (by decide) (inc inU_4) rfl rfl (by decide) (by decide) (List.mem_cons_of_mem _ fl_X4_18) rfl dX4_make_10 (fun u6 => ?_)
  refine v_iload_n F dX4_make_13 rfl 1 rfl ?_
  obtain ⟨⟨r7, M8⟩, hz9, h⟩ := bd_some h
  dsimp only at h
  refine v_callVi (As := [.int i1]) (rest := [.int r2, .ref (gAd g a2)]) F (c_X8_at l F.2.2.1 u6 hz9) (cwV 1 F.1.2.2.2.2 (gU_V ml_X4_32 im_yX8_at se_yX8_at ini_X8 cd_X8_at) rfl rfl rfl (by decide +kernel) ⟨Nat.le_of_ble_eq_true rfl, Nat.le_of_ble_eq_true rfl⟩) u6 (by decide) rfl rfl rfl (Nat.le_of_ble_eq_true rfl) dX4_make_14 ⟨Nat.le_of_ble_eq_true rfl, Nat.le_of_ble_eq_true rfl⟩ ?_
  obtain ⟨⟨r11, M12⟩, hz13, h⟩ := bd_some h
  dsimp only at h
  refine v_callVv (As := [.int r2, .int r7]) (rest := []) F (c_X1_change l F.2.2.1 t2 hz13) (cwV 2 F.1.2.2.2.2 (gU_V ml_X4_36 im_yX1_change se_yX1_change ini_X1 cd_X1_change) rfl rfl rfl (by decide +kernel) ⟨Nat.le_of_ble_eq_true rfl, Nat.le_of_ble_eq_true rfl⟩) t2 (by decide) rfl rfl rfl (Nat.le_of_ble_eq_true rfl) dX4_make_17 ⟨Nat.le_of_ble_eq_true rfl, Nat.le_of_ble_eq_true rfl⟩ ?_
  cases h
  exact v_vret F hr hlk dX4_make_20
def f_X4_makeAll_b30 (a0 : Nat) (i1 : Int32) (a2 : Nat) (k2 : Int32 → Mem → Option (Int32 × Mem)) (x3 : Int32) (M : Mem) : Option (Int32 × Mem) := k2 (x3 + 1) M
def f_X4_makeAll_h2 (a0 : Nat) (i1 : Int32) (a2 : Nat)  : Nat → Int32 → Mem → Option (Int32 × Mem)
  | 0, _, _ => none
  | n + 1, x3, M => if (M a0 0) ≤ x3 then (some (0, M)) else (if 5 ≤ x3 then (some (0, M)) else (if ((i1 >>> (x3 &&& 31)) &&& 1) = 1 then ((f_X4_make M a0 x3 a2).bind fun q => match q with | (r4, M5) => (f_X4_makeAll_b30 a0 i1 a2 (f_X4_makeAll_h2 a0 i1 a2 n) x3 M5)) else (f_X4_makeAll_b30 a0 i1 a2 (f_X4_makeAll_h2 a0 i1 a2 n) x3 M)))
def f_X4_makeAll  (M : Mem) (a0 : Nat) (i1 : Int32) (a2 : Nat) : Option (Int32 × Mem) := f_X4_makeAll_h2 a0 i1 a2 FU 0 M
set_option maxHeartbeats 4000000 in
set_option maxRecDepth 100000 in
theorem w_X4_makeAll_b30 {g : gT} {p : Program} {l : Launch} {e : Env} {s : State} {m : MethodId} {args : Array Value} {below : List Frame} {meth : Method} {c : Code} {z : Int32 × Mem} (F : Fx g p s m args c cX4_makeAll 4 uX4_makeAll RX4) (hr : meth.sig.returnType = none) (hlk : meth.locks = false)  {a0 : Nat} {i1 : Int32} {a2 : Nat} (t0 : Ty g 4 a0) (t2 : Ty g 1 a2) {k2 : Int32 → Mem → Option (Int32 × Mem)} (hk2 : ∀ (x3 : Int32) (M : Mem), k2 x3 M = some z → V g p l e ({ frames := 4, cells := 0, slots := 0, locals := 40 * 4 } : Room) s m args below meth c 4 0 0 (MQ below (gQ g none z.2) args s 0 0 (gA g)) 2 [(0, .ref (gAd g a0)), (1, .int i1), (2, .ref (gAd g a2)), (3, .int x3)] [] M) (x3 : Int32) (M : Mem)  (h : f_X4_makeAll_b30 a0 i1 a2 k2 x3 M = some z) : V g p l e ({ frames := 4, cells := 0, slots := 0, locals := 40 * 4 } : Room) s m args below meth c 4 0 0 (MQ below (gQ g none z.2) args s 0 0 (gA g)) 30 [(0, .ref (gAd g a0)), (1, .int i1), (2, .ref (gAd g a2)), (3, .int x3)] [] M := by
  unfold f_X4_makeAll_b30 at h
  refine v_iinc (v := x3 + 1) (lv' := [(3, .int (x3 + 1)), (0, .ref (gAd g a0)), (1, .int i1), (2, .ref (gAd g a2))]) F dX4_makeAll_30 (q := 3) rfl rfl (by decide) rfl ?_
  refine v_goto (tgt := 2) F dX4_makeAll_33 (by decide) ?_
  refine v_sub (fun ls h9 => lv_sub h9 [1, 2, 3, 0] rfl) ?_
  exact hk2 _ _ h
set_option maxHeartbeats 4000000 in
set_option maxRecDepth 100000 in
theorem w_X4_makeAll_h2 {g : gT} {p : Program} {l : Launch} {e : Env} {s : State} {m : MethodId} {args : Array Value} {below : List Frame} {meth : Method} {c : Code} {z : Int32 × Mem} (F : Fx g p s m args c cX4_makeAll 4 uX4_makeAll RX4) (hr : meth.sig.returnType = none) (hlk : meth.locks = false)  {a0 : Nat} {i1 : Int32} {a2 : Nat} (t0 : Ty g 4 a0) (t2 : Ty g 1 a2)   : ∀ (n : Nat) (x3 : Int32) (M : Mem), f_X4_makeAll_h2 a0 i1 a2 n x3 M = some z → V g p l e ({ frames := 4, cells := 0, slots := 0, locals := 40 * 4 } : Room) s m args below meth c 4 0 0 (MQ below (gQ g none z.2) args s 0 0 (gA g)) 2 [(0, .ref (gAd g a0)), (1, .int i1), (2, .ref (gAd g a2)), (3, .int x3)] [] M := by
  intro n
  induction n with
  | zero => intro x3 M; intros; rename_i h; cases h
  | succ n ih =>
    intro x3 M h
    rw [f_X4_makeAll_h2] at h
    refine v_iload_n F dX4_makeAll_2 rfl 3 rfl ?_
    refine v_aload_n F dX4_makeAll_3 rfl 0 rfl ?_
    refine v_getI (k := 0) F t0 (by decide) (inc inU_4) rfl rfl (by decide) (List.mem_cons_of_mem _ fl_X4_24) rfl dX4_makeAll_4 ?_
    refine v_icmp_ge (tgt := 36) F dX4_makeAll_7 (by decide) (fun hc1 => ?_) (fun hc1 => ?_)
    · rw [if_pos hc1] at h
      cases h
      exact v_vret F hr hlk dX4_makeAll_36
    · rw [if_neg hc1] at h
      refine v_iload_n F dX4_makeAll_10 rfl 3 rfl ?_
      refine v_iconst (v := 5) F dX4_makeAll_11 (by decide) ?_
      refine v_icmp_ge (tgt := 36) F dX4_makeAll_12 (by decide) (fun hc2 => ?_) (fun hc2 => ?_)
      · rw [if_pos hc2] at h
        cases h
        exact v_vret F hr hlk dX4_makeAll_36
      · rw [if_neg hc2] at h
        refine v_iload_n F dX4_makeAll_15 rfl 1 rfl ?_
        refine v_iload_n F dX4_makeAll_16 rfl 3 rfl ?_
        refine v_ishr F dX4_makeAll_17 ?_
        refine v_iconst (v := 1) F dX4_makeAll_18 (by decide) ?_
        refine v_iand F dX4_makeAll_19 ?_
        refine v_iconst (v := 1) F dX4_makeAll_20 (by decide) ?_
        refine v_icmp_ne (tgt := 30) F dX4_makeAll_21 (by decide) (fun hc3 => ?_) (fun hc3 => ?_)
        · rw [if_neg hc3] at h
          exact w_X4_makeAll_b30 F hr hlk t0 t2 ih _ _ h
        · rw [if_pos hc3] at h
          refine v_aload_n F dX4_makeAll_24 rfl 0 rfl ?_
          refine v_iload_n F dX4_makeAll_25 rfl 3 rfl ?_
          refine v_aload_n F dX4_makeAll_26 rfl 2 rfl ?_
          obtain ⟨⟨r4, M5⟩, hz6, h⟩ := bd_some h
          dsimp only at h
          refine v_callVv (As := [.int x3, .ref (gAd g a2)]) (rest := []) F (c_X4_make l F.2.2.1 t0 t2 hz6) (cwV 2 F.1.2.2.2.2 (gU_V ml_X4_41 im_yX4_make se_yX4_make ini_X4 cd_X4_make) rfl rfl rfl (by decide +kernel) ⟨Nat.le_of_ble_eq_true rfl, Nat.le_of_ble_eq_true rfl⟩) t0 (by decide) rfl rfl rfl (Nat.le_of_ble_eq_true rfl) dX4_makeAll_27 ⟨Nat.le_of_ble_eq_true rfl, Nat.le_of_ble_eq_true rfl⟩ ?_
          exact w_X4_makeAll_b30 F hr hlk t0 t2 ih _ _ h
set_option maxHeartbeats 4000000 in
set_option maxRecDepth 100000 in
theorem c_X4_makeAll {g : gT} (l : Launch) (hok : gOK g)  {a0 : Nat} {i1 : Int32} {a2 : Nat} {M : Mem} {z : Int32 × Mem}  (t0 : Ty g 4 a0) (t2 : Ty g 1 a2) (h : f_X4_makeAll  M a0 i1 a2 = some z) : Cn g l yX4_makeAll uX4_makeAll 4 [.ref (gAd g a0), .int i1, .ref (gAd g a2)] M none z.2 := by
  refine Cn.of (cc := cX4_makeAll) (maxL := 4) (ret := none) hok (by decide) rfl (Nat.le_of_ble_eq_true rfl) (fun p e s m args below meth c F hr hlk => ?_)
  unfold f_X4_makeAll at h
  show V g p l e ({ frames := 4, cells := 0, slots := 0, locals := 40 * 4 } : Room) s m args below meth c 4 0 0 (MQ below (gQ g none z.2) args s 0 0 (gA g)) 0 [(0, .ref (gAd g a0)), (1, .int i1), (2, .ref (gAd g a2))] [] M
  refine v_iconst (v := 0) F dX4_makeAll_0 (by decide) ?_
  refine v_istore_n (lv' := [(3, .int 0), (0, .ref (gAd g a0)), (1, .int i1), (2, .ref (gAd g a2))]) F dX4_makeAll_1 rfl (by decide) rfl ?_
  refine v_sub (fun ls h9 => lv_sub h9 [1, 2, 3, 0] rfl) ?_
  exact w_X4_makeAll_h2 F hr hlk t0 t2 _ _ _ h
def f_X4_copy  (M : Mem) (a0 : Nat) (a1 : Nat) : Option (Int32 × Mem) := (f_X8_copy (mU M a0 0 (M a1 0)) (gRf a0 1) (gRf a1 1)).bind fun q => match q with | (r3, M4) => ((f_X8_copy M4 (gRf a0 2) (gRf a1 2)).bind fun q => match q with | (r9, M10) => ((f_X8_copy M10 (gRf a0 3) (gRf a1 3)).bind fun q => match q with | (r15, M16) => (some (0, M16))))
set_option maxHeartbeats 4000000 in
set_option maxRecDepth 100000 in
theorem c_X4_copy {g : gT} (l : Launch) (hok : gOK g)  {a0 : Nat} {a1 : Nat} {M : Mem} {z : Int32 × Mem}  (t0 : Ty g 4 a0) (t1 : Ty g 4 a1) (h : f_X4_copy  M a0 a1 = some z) : Cn g l yX4_copy uX4_copy 1 [.ref (gAd g a0), .ref (gAd g a1)] M none z.2 := by
  refine Cn.of (cc := cX4_copy) (maxL := 2) (ret := none) hok (by decide) rfl (Nat.le_of_ble_eq_true rfl) (fun p e s m args below meth c F hr hlk => ?_)
  unfold f_X4_copy at h
  show V g p l e ({ frames := 1, cells := 0, slots := 0, locals := 40 * 1 } : Room) s m args below meth c 2 0 0 (MQ below (gQ g none z.2) args s 0 0 (gA g)) 0 [(0, .ref (gAd g a0)), (1, .ref (gAd g a1))] [] M
  refine v_aload_n F dX4_copy_0 rfl 0 rfl ?_
  refine v_aload_n F dX4_copy_1 rfl 1 rfl ?_
  refine v_getI (k := 0) F t1 (by decide) (inc inU_4) rfl rfl (by decide) (List.mem_cons_of_mem _ fl_X4_24) rfl dX4_copy_2 ?_
  refine v_put (k := 0) (ty := .int) F t0 (by decide) (inc inU_4) tyX4 tyX4_ok nmX4 rfl rfl (by decide) (List.mem_cons_of_mem _ fl_X4_24) rfl rfl (by decide +kernel) rfl rfl dX4_copy_5 ?_
  refine v_aload_n F dX4_copy_8 rfl 0 rfl ?_
  refine v_getR (k := 1) (f := 8) F t0 (by decide) (inc inU_4) rfl rfl (by decide) (by decide) (List.mem_cons_of_mem _ fl_X4_14) rfl dX4_copy_9 (fun u1 => ?_)
  refine v_aload_n F dX4_copy_12 rfl 1 rfl ?_
  refine v_getR (k := 1) (f := 8) F t1 (by decide) (inc inU_4) rfl rfl (by decide) (by decide) (List.mem_cons_of_mem _ fl_X4_14) rfl dX4_copy_13 (fun u2 => ?_)
  obtain ⟨⟨r3, M4⟩, hz5, h⟩ := bd_some h
  dsimp only at h
  refine v_callVv (As := [.ref (gAd g (gRf a1 1))]) (rest := []) F (c_X8_copy l F.2.2.1 u1 u2 hz5) (cwV 1 F.1.2.2.2.2 (gU_V ml_X4_45 im_yX8_copy se_yX8_copy ini_X8 cd_X8_copy) rfl rfl rfl (by decide +kernel) ⟨Nat.le_of_ble_eq_true rfl, Nat.le_of_ble_eq_true rfl⟩) u1 (by decide) rfl rfl rfl (Nat.le_of_ble_eq_true rfl) dX4_copy_16 ⟨Nat.le_of_ble_eq_true rfl, Nat.le_of_ble_eq_true rfl⟩ ?_
  refine v_aload_n F dX4_copy_19 rfl 0 rfl ?_
  refine v_getR (k := 2) (f := 8) F t0 (by decide) (inc inU_4) rfl rfl (by decide) (by decide) (List.mem_cons_of_mem _ fl_X4_18) rfl dX4_copy_20 (fun u7 => ?_)
  refine v_aload_n F dX4_copy_23 rfl 1 rfl ?_
  refine v_getR (k := 2) (f := 8) F t1 (by decide) (inc inU_4) rfl rfl (by decide) (by decide) (List.mem_cons_of_mem _ fl_X4_18) rfl dX4_copy_24 (fun u8 => ?_)
  obtain ⟨⟨r9, M10⟩, hz11, h⟩ := bd_some h
  dsimp only at h
  refine v_callVv (As := [.ref (gAd g (gRf a1 2))]) (rest := []) F (c_X8_copy l F.2.2.1 u7 u8 hz11) (cwV 1 F.1.2.2.2.2 (gU_V ml_X4_45 im_yX8_copy se_yX8_copy ini_X8 cd_X8_copy) rfl rfl rfl (by decide +kernel) ⟨Nat.le_of_ble_eq_true rfl, Nat.le_of_ble_eq_true rfl⟩) u7 (by decide) rfl rfl rfl (Nat.le_of_ble_eq_true rfl) dX4_copy_27 ⟨Nat.le_of_ble_eq_true rfl, Nat.le_of_ble_eq_true rfl⟩ ?_
  refine v_aload_n F dX4_copy_30 rfl 0 rfl ?_
  refine v_getR (k := 3) (f := 8) F t0 (by decide) (inc inU_4) rfl rfl (by decide) (by decide) (List.mem_cons_of_mem _ fl_X4_21) rfl dX4_copy_31 (fun u13 => ?_)
  refine v_aload_n F dX4_copy_34 rfl 1 rfl ?_
  refine v_getR (k := 3) (f := 8) F t1 (by decide) (inc inU_4) rfl rfl (by decide) (by decide) (List.mem_cons_of_mem _ fl_X4_21) rfl dX4_copy_35 (fun u14 => ?_)
  obtain ⟨⟨r15, M16⟩, hz17, h⟩ := bd_some h
  dsimp only at h
  refine v_callVv (As := [.ref (gAd g (gRf a1 3))]) (rest := []) F (c_X8_copy l F.2.2.1 u13 u14 hz17) (cwV 1 F.1.2.2.2.2 (gU_V ml_X4_45 im_yX8_copy se_yX8_copy ini_X8 cd_X8_copy) rfl rfl rfl (by decide +kernel) ⟨Nat.le_of_ble_eq_true rfl, Nat.le_of_ble_eq_true rfl⟩) u13 (by decide) rfl rfl rfl (Nat.le_of_ble_eq_true rfl) dX4_copy_38 ⟨Nat.le_of_ble_eq_true rfl, Nat.le_of_ble_eq_true rfl⟩ ?_
  cases h
  exact v_vret F hr hlk dX4_copy_41
def f_X5_add  (M : Mem) (a0 : Nat) (i1 : Int32) (i2 : Int32) (i3 : Int32) : Option (Int32 × Mem) := if (M a0 0) < 10 then ((f_X8_put M (gRf a0 1) (M a0 0) i1).bind fun q => match q with | (r3, M4) => ((f_X8_put M4 (gRf a0 2) (M4 a0 0) i2).bind fun q => match q with | (r8, M9) => ((f_X8_put M9 (gRf a0 3) (M9 a0 0) i3).bind fun q => match q with | (r13, M14) => (some ((mU M14 a0 0 ((M14 a0 0) + 1)) a0 0, (mU M14 a0 0 ((M14 a0 0) + 1))))))) else (some ((-1), M))
set_option maxHeartbeats 4000000 in
set_option maxRecDepth 100000 in
theorem c_X5_add {g : gT} (l : Launch) (hok : gOK g)  {a0 : Nat} {i1 : Int32} {i2 : Int32} {i3 : Int32} {M : Mem} {z : Int32 × Mem}  (t0 : Ty g 5 a0) (h : f_X5_add  M a0 i1 i2 i3 = some z) : Cn g l yX5_add uX5_add 1 [.ref (gAd g a0), .int i1, .int i2, .int i3] M (some (.int z.1)) z.2 := by
  refine Cn.of (cc := cX5_add) (maxL := 4) (ret := (some .int)) hok (by decide) rfl (Nat.le_of_ble_eq_true rfl) (fun p e s m args below meth c F hr hlk => ?_)
  unfold f_X5_add at h
  show V g p l e ({ frames := 1, cells := 0, slots := 0, locals := 40 * 1 } : Room) s m args below meth c 4 0 0 (MQ below (gQ g (some (.int z.1)) z.2) args s 0 0 (gA g)) 0 [(0, .ref (gAd g a0)), (1, .int i1), (2, .int i2), (3, .int i3)] [] M
  refine v_aload_n F dX5_add_0 rfl 0 rfl ?_
  refine v_getI (k := 0) F t0 (by decide) (inc inU_5) rfl rfl (by decide) (List.mem_cons_of_mem _ fl_X5_26) rfl dX5_add_1 ?_
  refine v_bipush (v := 10) F dX5_add_4 (by decide) ?_
  refine v_icmp_lt (tgt := 11) F dX5_add_6 (by decide) (fun hc1 => ?_) (fun hc1 => ?_)
  · rw [if_pos hc1] at h
    refine v_aload_n F dX5_add_11 rfl 0 rfl ?_
    refine v_getR (k := 1) (f := 8) F t0 (by decide) (inc inU_5) rfl rfl (by decide) (by decide) (List.mem_cons_of_mem _ fl_X5_16) rfl dX5_add_12 (fun u2 => ?_)
    refine v_aload_n F dX5_add_15 rfl 0 rfl ?_
    refine v_getI (k := 0) F t0 (by decide) (inc inU_5) rfl rfl (by decide) (List.mem_cons_of_mem _ fl_X5_26) rfl dX5_add_16 ?_
    refine v_iload_n F dX5_add_19 rfl 1 rfl ?_
    obtain ⟨⟨r3, M4⟩, hz5, h⟩ := bd_some h
    dsimp only at h
    refine v_callVv (As := [.int (M a0 0), .int i1]) (rest := []) F (c_X8_put l F.2.2.1 u2 hz5) (cwV 2 F.1.2.2.2.2 (gU_V ml_X5_30 im_yX8_put se_yX8_put ini_X8 cd_X8_put) rfl rfl rfl (by decide +kernel) ⟨Nat.le_of_ble_eq_true rfl, Nat.le_of_ble_eq_true rfl⟩) u2 (by decide) rfl rfl rfl (Nat.le_of_ble_eq_true rfl) dX5_add_20 ⟨Nat.le_of_ble_eq_true rfl, Nat.le_of_ble_eq_true rfl⟩ ?_
    refine v_aload_n F dX5_add_23 rfl 0 rfl ?_
    refine v_getR (k := 2) (f := 8) F t0 (by decide) (inc inU_5) rfl rfl (by decide) (by decide) (List.mem_cons_of_mem _ fl_X5_20) rfl dX5_add_24 (fun u7 => ?_)
    refine v_aload_n F dX5_add_27 rfl 0 rfl ?_
    refine v_getI (k := 0) F t0 (by decide) (inc inU_5) rfl rfl (by decide) (List.mem_cons_of_mem _ fl_X5_26) rfl dX5_add_28 ?_
    refine v_iload_n F dX5_add_31 rfl 2 rfl ?_
    obtain ⟨⟨r8, M9⟩, hz10, h⟩ := bd_some h
    dsimp only at h
    refine v_callVv (As := [.int (M4 a0 0), .int i2]) (rest := []) F (c_X8_put l F.2.2.1 u7 hz10) (cwV 2 F.1.2.2.2.2 (gU_V ml_X5_30 im_yX8_put se_yX8_put ini_X8 cd_X8_put) rfl rfl rfl (by decide +kernel) ⟨Nat.le_of_ble_eq_true rfl, Nat.le_of_ble_eq_true rfl⟩) u7 (by decide) rfl rfl rfl (Nat.le_of_ble_eq_true rfl) dX5_add_32 ⟨Nat.le_of_ble_eq_true rfl, Nat.le_of_ble_eq_true rfl⟩ ?_
    refine v_aload_n F dX5_add_35 rfl 0 rfl ?_
    refine v_getR (k := 3) (f := 8) F t0 (by decide) (inc inU_5) rfl rfl (by decide) (by decide) (List.mem_cons_of_mem _ fl_X5_23) rfl dX5_add_36 (fun u12 => ?_)
    refine v_aload_n F dX5_add_39 rfl 0 rfl ?_
    refine v_getI (k := 0) F t0 (by decide) (inc inU_5) rfl rfl (by decide) (List.mem_cons_of_mem _ fl_X5_26) rfl dX5_add_40 ?_
    refine v_iload_n F dX5_add_43 rfl 3 rfl ?_
    obtain ⟨⟨r13, M14⟩, hz15, h⟩ := bd_some h
    dsimp only at h
    refine v_callVv (As := [.int (M9 a0 0), .int i3]) (rest := []) F (c_X8_put l F.2.2.1 u12 hz15) (cwV 2 F.1.2.2.2.2 (gU_V ml_X5_30 im_yX8_put se_yX8_put ini_X8 cd_X8_put) rfl rfl rfl (by decide +kernel) ⟨Nat.le_of_ble_eq_true rfl, Nat.le_of_ble_eq_true rfl⟩) u12 (by decide) rfl rfl rfl (Nat.le_of_ble_eq_true rfl) dX5_add_44 ⟨Nat.le_of_ble_eq_true rfl, Nat.le_of_ble_eq_true rfl⟩ ?_
    refine v_aload_n F dX5_add_47 rfl 0 rfl ?_
    refine v_dup F dX5_add_48 rfl ?_
    refine v_getI (k := 0) F t0 (by decide) (inc inU_5) rfl rfl (by decide) (List.mem_cons_of_mem _ fl_X5_26) rfl dX5_add_49 ?_
    refine v_iconst (v := 1) F dX5_add_52 (by decide) ?_
    refine v_iadd F dX5_add_53 ?_
    refine v_put (k := 0) (ty := .int) F t0 (by decide) (inc inU_5) tyX5 tyX5_ok nmX5 rfl rfl (by decide) (List.mem_cons_of_mem _ fl_X5_26) rfl rfl (by decide +kernel) rfl rfl dX5_add_54 ?_
    refine v_aload_n F dX5_add_57 rfl 0 rfl ?_
    refine v_getI (k := 0) F t0 (by decide) (inc inU_5) rfl rfl (by decide) (List.mem_cons_of_mem _ fl_X5_26) rfl dX5_add_58 ?_
    cases h
    exact v_iret F hr rfl hlk dX5_add_61
  · rw [if_neg hc1] at h
    refine v_iconst (v := (-1)) F dX5_add_9 (by decide) ?_
    cases h
    exact v_iret F hr rfl hlk dX5_add_10
def f_X5_knownOn_b78 (a0 : Nat) (i1 : Int32) (k4 : Int32 → Int32 → Mem → Option (Int32 × Mem)) (k21 : Int32 → Int32 → Int32 → Mem → Option (Int32 × Mem)) (x2 : Int32) (x3 : Int32) (x4 : Int32) (M : Mem) : Option (Int32 × Mem) := k21 x2 x3 (x4 + 1) M
def f_X5_knownOn_b84 (a0 : Nat) (i1 : Int32) (k4 : Int32 → Int32 → Mem → Option (Int32 × Mem)) (x2 : Int32) (x3 : Int32) (M : Mem) : Option (Int32 × Mem) := k4 x2 (x3 + 1) M
def f_X5_knownOn_h21 (a0 : Nat) (i1 : Int32) (k4 : Int32 → Int32 → Mem → Option (Int32 × Mem)) : Nat → Int32 → Int32 → Int32 → Mem → Option (Int32 × Mem)
  | 0, _, _, _, _ => none
  | n + 1, x2, x3, x4, M => if (M a0 0) ≤ x4 then (f_X5_knownOn_b84 a0 i1 k4 x2 x3 M) else (if 10 ≤ x4 then (f_X5_knownOn_b84 a0 i1 k4 x2 x3 M) else ((f_X8_at M (gRf a0 1) x4).bind fun q => match q with | (r6, M7) => (if i1 < r6 then (f_X5_knownOn_b78 a0 i1 k4 (f_X5_knownOn_h21 a0 i1 k4 n) x2 x3 x4 M7) else ((f_X8_at M7 (gRf a0 3) x4).bind fun q => match q with | (r12, M13) => (if (r12 &&& (x2 ^^^ (-1))) = 0 then ((f_X8_at M13 (gRf a0 2) x4).bind fun q => match q with | (r18, M19) => (f_X5_knownOn_b78 a0 i1 k4 (f_X5_knownOn_h21 a0 i1 k4 n) (x2 ||| r18) x3 x4 M19)) else (f_X5_knownOn_b78 a0 i1 k4 (f_X5_knownOn_h21 a0 i1 k4 n) x2 x3 x4 M13))))))
def f_X5_knownOn_h4 (a0 : Nat) (i1 : Int32)  : Nat → Int32 → Int32 → Mem → Option (Int32 × Mem)
  | 0, _, _, _ => none
  | n + 1, x2, x3, M => if (M a0 0) ≤ x3 then (some (x2, M)) else (if 10 ≤ x3 then (some (x2, M)) else (f_X5_knownOn_h21 a0 i1 (f_X5_knownOn_h4 a0 i1 n) FU x2 x3 0 M))
def f_X5_knownOn  (M : Mem) (a0 : Nat) (i1 : Int32) : Option (Int32 × Mem) := f_X5_knownOn_h4 a0 i1 FU 0 0 M
set_option maxHeartbeats 4000000 in
set_option maxRecDepth 100000 in
theorem w_X5_knownOn_b78 {g : gT} {p : Program} {l : Launch} {e : Env} {s : State} {m : MethodId} {args : Array Value} {below : List Frame} {meth : Method} {c : Code} {z : Int32 × Mem} (F : Fx g p s m args c cX5_knownOn 5 uX5_knownOn RX5) (hr : meth.sig.returnType = (some .int)) (hlk : meth.locks = false)  {a0 : Nat} {i1 : Int32} (t0 : Ty g 5 a0) {k4 : Int32 → Int32 → Mem → Option (Int32 × Mem)} {k21 : Int32 → Int32 → Int32 → Mem → Option (Int32 × Mem)} (hk4 : ∀ (x2 : Int32) (x3 : Int32) (M : Mem), k4 x2 x3 M = some z → V g p l e ({ frames := 1, cells := 0, slots := 0, locals := 40 * 1 } : Room) s m args below meth c 5 0 0 (MQ below (gQ g (some (.int z.1)) z.2) args s 0 0 (gA g)) 4 [(0, .ref (gAd g a0)), (1, .int i1), (2, .int x2), (3, .int x3)] [] M) (hk21 : ∀ (x2 : Int32) (x3 : Int32) (x4 : Int32) (M : Mem), k21 x2 x3 x4 M = some z → V g p l e ({ frames := 1, cells := 0, slots := 0, locals := 40 * 1 } : Room) s m args below meth c 5 0 0 (MQ below (gQ g (some (.int z.1)) z.2) args s 0 0 (gA g)) 21 [(0, .ref (gAd g a0)), (1, .int i1), (2, .int x2), (3, .int x3), (4, .int x4)] [] M) (x2 : Int32) (x3 : Int32) (x4 : Int32) (M : Mem)  (h : f_X5_knownOn_b78 a0 i1 k4 k21 x2 x3 x4 M = some z) : V g p l e ({ frames := 1, cells := 0, slots := 0, locals := 40 * 1 } : Room) s m args below meth c 5 0 0 (MQ below (gQ g (some (.int z.1)) z.2) args s 0 0 (gA g)) 78 [(0, .ref (gAd g a0)), (1, .int i1), (2, .int x2), (3, .int x3), (4, .int x4)] [] M := by
  unfold f_X5_knownOn_b78 at h
  refine v_iinc (v := x4 + 1) (lv' := [(4, .int (x4 + 1)), (0, .ref (gAd g a0)), (1, .int i1), (2, .int x2), (3, .int x3)]) F dX5_knownOn_78 (q := 4) rfl rfl (by decide) rfl ?_
  refine v_goto (tgt := 21) F dX5_knownOn_81 (by decide) ?_
  refine v_sub (fun ls h9 => lv_sub h9 [1, 2, 3, 4, 0] rfl) ?_
  exact hk21 _ _ _ _ h
set_option maxHeartbeats 4000000 in
set_option maxRecDepth 100000 in
theorem w_X5_knownOn_b84 {g : gT} {p : Program} {l : Launch} {e : Env} {s : State} {m : MethodId} {args : Array Value} {below : List Frame} {meth : Method} {c : Code} {z : Int32 × Mem} (F : Fx g p s m args c cX5_knownOn 5 uX5_knownOn RX5) (hr : meth.sig.returnType = (some .int)) (hlk : meth.locks = false)  {a0 : Nat} {i1 : Int32} (t0 : Ty g 5 a0) {k4 : Int32 → Int32 → Mem → Option (Int32 × Mem)} (hk4 : ∀ (x2 : Int32) (x3 : Int32) (M : Mem), k4 x2 x3 M = some z → V g p l e ({ frames := 1, cells := 0, slots := 0, locals := 40 * 1 } : Room) s m args below meth c 5 0 0 (MQ below (gQ g (some (.int z.1)) z.2) args s 0 0 (gA g)) 4 [(0, .ref (gAd g a0)), (1, .int i1), (2, .int x2), (3, .int x3)] [] M) (x2 : Int32) (x3 : Int32) (M : Mem)  (h : f_X5_knownOn_b84 a0 i1 k4 x2 x3 M = some z) : V g p l e ({ frames := 1, cells := 0, slots := 0, locals := 40 * 1 } : Room) s m args below meth c 5 0 0 (MQ below (gQ g (some (.int z.1)) z.2) args s 0 0 (gA g)) 84 [(0, .ref (gAd g a0)), (1, .int i1), (2, .int x2), (3, .int x3)] [] M := by
  unfold f_X5_knownOn_b84 at h
  refine v_iinc (v := x3 + 1) (lv' := [(3, .int (x3 + 1)), (0, .ref (gAd g a0)), (1, .int i1), (2, .int x2)]) F dX5_knownOn_84 (q := 3) rfl rfl (by decide) rfl ?_
  refine v_goto (tgt := 4) F dX5_knownOn_87 (by decide) ?_
  refine v_sub (fun ls h9 => lv_sub h9 [1, 2, 3, 0] rfl) ?_
  exact hk4 _ _ _ h
set_option maxHeartbeats 4000000 in
set_option maxRecDepth 100000 in
theorem w_X5_knownOn_h21 {g : gT} {p : Program} {l : Launch} {e : Env} {s : State} {m : MethodId} {args : Array Value} {below : List Frame} {meth : Method} {c : Code} {z : Int32 × Mem} (F : Fx g p s m args c cX5_knownOn 5 uX5_knownOn RX5) (hr : meth.sig.returnType = (some .int)) (hlk : meth.locks = false)  {a0 : Nat} {i1 : Int32} (t0 : Ty g 5 a0) {k4 : Int32 → Int32 → Mem → Option (Int32 × Mem)} (hk4 : ∀ (x2 : Int32) (x3 : Int32) (M : Mem), k4 x2 x3 M = some z → V g p l e ({ frames := 1, cells := 0, slots := 0, locals := 40 * 1 } : Room) s m args below meth c 5 0 0 (MQ below (gQ g (some (.int z.1)) z.2) args s 0 0 (gA g)) 4 [(0, .ref (gAd g a0)), (1, .int i1), (2, .int x2), (3, .int x3)] [] M) : ∀ (n : Nat) (x2 : Int32) (x3 : Int32) (x4 : Int32) (M : Mem), f_X5_knownOn_h21 a0 i1 k4 n x2 x3 x4 M = some z → V g p l e ({ frames := 1, cells := 0, slots := 0, locals := 40 * 1 } : Room) s m args below meth c 5 0 0 (MQ below (gQ g (some (.int z.1)) z.2) args s 0 0 (gA g)) 21 [(0, .ref (gAd g a0)), (1, .int i1), (2, .int x2), (3, .int x3), (4, .int x4)] [] M := by
  intro n
  induction n with
  | zero => intro x2 x3 x4 M; intros; rename_i h; cases h
  | succ n ih =>
    intro x2 x3 x4 M h
    rw [f_X5_knownOn_h21] at h
    refine v_iload F dX5_knownOn_21 4 rfl ?_
    refine v_aload_n F dX5_knownOn_23 rfl 0 rfl ?_
    refine v_getI (k := 0) F t0 (by decide) (inc inU_5) rfl rfl (by decide) (List.mem_cons_of_mem _ fl_X5_26) rfl dX5_knownOn_24 ?_
    refine v_icmp_ge (tgt := 84) F dX5_knownOn_27 (by decide) (fun hc3 => ?_) (fun hc3 => ?_)
    · rw [if_pos hc3] at h
      refine v_sub (fun ls h9 => lv_sub h9 [0, 1, 2, 3] rfl) ?_
      exact w_X5_knownOn_b84 F hr hlk t0 hk4 _ _ _ h
    · rw [if_neg hc3] at h
      refine v_iload F dX5_knownOn_30 4 rfl ?_
      refine v_bipush (v := 10) F dX5_knownOn_32 (by decide) ?_
      refine v_icmp_ge (tgt := 84) F dX5_knownOn_34 (by decide) (fun hc4 => ?_) (fun hc4 => ?_)
      · rw [if_pos hc4] at h
        refine v_sub (fun ls h9 => lv_sub h9 [0, 1, 2, 3] rfl) ?_
        exact w_X5_knownOn_b84 F hr hlk t0 hk4 _ _ _ h
      · rw [if_neg hc4] at h
        refine v_aload_n F dX5_knownOn_37 rfl 0 rfl ?_
        refine v_getR (k := 1) (f := 8) F t0 (by decide) (inc inU_5) rfl rfl (by decide) (by decide) (List.mem_cons_of_mem _ fl_X5_16) rfl dX5_knownOn_38 (fun u5 => ?_)
        refine v_iload F dX5_knownOn_41 4 rfl ?_
        obtain ⟨⟨r6, M7⟩, hz8, h⟩ := bd_some h
        dsimp only at h
        refine v_callVi (As := [.int x4]) (rest := []) F (c_X8_at l F.2.2.1 u5 hz8) (cwV 1 F.1.2.2.2.2 (gU_V ml_X5_34 im_yX8_at se_yX8_at ini_X8 cd_X8_at) rfl rfl rfl (by decide +kernel) ⟨Nat.le_of_ble_eq_true rfl, Nat.le_of_ble_eq_true rfl⟩) u5 (by decide) rfl rfl rfl (Nat.le_of_ble_eq_true rfl) dX5_knownOn_43 ⟨Nat.le_of_ble_eq_true rfl, Nat.le_of_ble_eq_true rfl⟩ ?_
        refine v_iload_n F dX5_knownOn_46 rfl 1 rfl ?_
        refine v_icmp_gt (tgt := 78) F dX5_knownOn_47 (by decide) (fun hc10 => ?_) (fun hc10 => ?_)
        · rw [if_pos hc10] at h
          exact w_X5_knownOn_b78 F hr hlk t0 hk4 ih _ _ _ _ h
        · rw [if_neg hc10] at h
          refine v_aload_n F dX5_knownOn_50 rfl 0 rfl ?_
          refine v_getR (k := 3) (f := 8) F t0 (by decide) (inc inU_5) rfl rfl (by decide) (by decide) (List.mem_cons_of_mem _ fl_X5_23) rfl dX5_knownOn_51 (fun u11 => ?_)
          refine v_iload F dX5_knownOn_54 4 rfl ?_
          obtain ⟨⟨r12, M13⟩, hz14, h⟩ := bd_some h
          dsimp only at h
          refine v_callVi (As := [.int x4]) (rest := []) F (c_X8_at l F.2.2.1 u11 hz14) (cwV 1 F.1.2.2.2.2 (gU_V ml_X5_34 im_yX8_at se_yX8_at ini_X8 cd_X8_at) rfl rfl rfl (by decide +kernel) ⟨Nat.le_of_ble_eq_true rfl, Nat.le_of_ble_eq_true rfl⟩) u11 (by decide) rfl rfl rfl (Nat.le_of_ble_eq_true rfl) dX5_knownOn_56 ⟨Nat.le_of_ble_eq_true rfl, Nat.le_of_ble_eq_true rfl⟩ ?_
          refine v_iload_n F dX5_knownOn_59 rfl 2 rfl ?_
          refine v_iconst (v := (-1)) F dX5_knownOn_60 (by decide) ?_
          refine v_ixor F dX5_knownOn_61 ?_
          refine v_iand F dX5_knownOn_62 ?_
          refine v_if_ne (tgt := 78) F dX5_knownOn_63 (by decide) (fun hc16 => ?_) (fun hc16 => ?_)
          · rw [if_neg hc16] at h
            exact w_X5_knownOn_b78 F hr hlk t0 hk4 ih _ _ _ _ h
          · rw [if_pos hc16] at h
            refine v_iload_n F dX5_knownOn_66 rfl 2 rfl ?_
            refine v_aload_n F dX5_knownOn_67 rfl 0 rfl ?_
            refine v_getR (k := 2) (f := 8) F t0 (by decide) (inc inU_5) rfl rfl (by decide) (by decide) (List.mem_cons_of_mem _ fl_X5_20) rfl dX5_knownOn_68 (fun u17 => ?_)
            refine v_iload F dX5_knownOn_71 4 rfl ?_
            obtain ⟨⟨r18, M19⟩, hz20, h⟩ := bd_some h
            dsimp only at h
            refine v_callVi (As := [.int x4]) (rest := [.int x2]) F (c_X8_at l F.2.2.1 u17 hz20) (cwV 1 F.1.2.2.2.2 (gU_V ml_X5_34 im_yX8_at se_yX8_at ini_X8 cd_X8_at) rfl rfl rfl (by decide +kernel) ⟨Nat.le_of_ble_eq_true rfl, Nat.le_of_ble_eq_true rfl⟩) u17 (by decide) rfl rfl rfl (Nat.le_of_ble_eq_true rfl) dX5_knownOn_73 ⟨Nat.le_of_ble_eq_true rfl, Nat.le_of_ble_eq_true rfl⟩ ?_
            refine v_ior F dX5_knownOn_76 ?_
            refine v_istore_n (lv' := [(2, .int (x2 ||| r18)), (0, .ref (gAd g a0)), (1, .int i1), (3, .int x3), (4, .int x4)]) F dX5_knownOn_77 rfl (by decide) rfl ?_
            refine v_sub (fun ls h9 => lv_sub h9 [1, 2, 0, 3, 4] rfl) ?_
            exact w_X5_knownOn_b78 F hr hlk t0 hk4 ih _ _ _ _ h
set_option maxHeartbeats 4000000 in
set_option maxRecDepth 100000 in
theorem w_X5_knownOn_h4 {g : gT} {p : Program} {l : Launch} {e : Env} {s : State} {m : MethodId} {args : Array Value} {below : List Frame} {meth : Method} {c : Code} {z : Int32 × Mem} (F : Fx g p s m args c cX5_knownOn 5 uX5_knownOn RX5) (hr : meth.sig.returnType = (some .int)) (hlk : meth.locks = false)  {a0 : Nat} {i1 : Int32} (t0 : Ty g 5 a0)   : ∀ (n : Nat) (x2 : Int32) (x3 : Int32) (M : Mem), f_X5_knownOn_h4 a0 i1 n x2 x3 M = some z → V g p l e ({ frames := 1, cells := 0, slots := 0, locals := 40 * 1 } : Room) s m args below meth c 5 0 0 (MQ below (gQ g (some (.int z.1)) z.2) args s 0 0 (gA g)) 4 [(0, .ref (gAd g a0)), (1, .int i1), (2, .int x2), (3, .int x3)] [] M := by
  intro n
  induction n with
  | zero => intro x2 x3 M; intros; rename_i h; cases h
  | succ n ih =>
    intro x2 x3 M h
    rw [f_X5_knownOn_h4] at h
    refine v_iload_n F dX5_knownOn_4 rfl 3 rfl ?_
    refine v_aload_n F dX5_knownOn_5 rfl 0 rfl ?_
    refine v_getI (k := 0) F t0 (by decide) (inc inU_5) rfl rfl (by decide) (List.mem_cons_of_mem _ fl_X5_26) rfl dX5_knownOn_6 ?_
    refine v_icmp_ge (tgt := 90) F dX5_knownOn_9 (by decide) (fun hc1 => ?_) (fun hc1 => ?_)
    · rw [if_pos hc1] at h
      refine v_iload_n F dX5_knownOn_90 rfl 2 rfl ?_
      cases h
      exact v_iret F hr rfl hlk dX5_knownOn_91
    · rw [if_neg hc1] at h
      refine v_iload_n F dX5_knownOn_12 rfl 3 rfl ?_
      refine v_bipush (v := 10) F dX5_knownOn_13 (by decide) ?_
      refine v_icmp_ge (tgt := 90) F dX5_knownOn_15 (by decide) (fun hc2 => ?_) (fun hc2 => ?_)
      · rw [if_pos hc2] at h
        refine v_iload_n F dX5_knownOn_90 rfl 2 rfl ?_
        cases h
        exact v_iret F hr rfl hlk dX5_knownOn_91
      · rw [if_neg hc2] at h
        refine v_iconst (v := 0) F dX5_knownOn_18 (by decide) ?_
        refine v_istore (lv' := [(4, .int 0), (0, .ref (gAd g a0)), (1, .int i1), (2, .int x2), (3, .int x3)]) F dX5_knownOn_19 (by decide) rfl ?_
        refine v_sub (fun ls h9 => lv_sub h9 [1, 2, 3, 4, 0] rfl) ?_
        exact w_X5_knownOn_h21 F hr hlk t0 ih _ _ _ _ _ h
set_option maxHeartbeats 4000000 in
set_option maxRecDepth 100000 in
theorem c_X5_knownOn {g : gT} (l : Launch) (hok : gOK g)  {a0 : Nat} {i1 : Int32} {M : Mem} {z : Int32 × Mem}  (t0 : Ty g 5 a0) (h : f_X5_knownOn  M a0 i1 = some z) : Cn g l yX5_knownOn uX5_knownOn 1 [.ref (gAd g a0), .int i1] M (some (.int z.1)) z.2 := by
  refine Cn.of (cc := cX5_knownOn) (maxL := 5) (ret := (some .int)) hok (by decide) rfl (Nat.le_of_ble_eq_true rfl) (fun p e s m args below meth c F hr hlk => ?_)
  unfold f_X5_knownOn at h
  show V g p l e ({ frames := 1, cells := 0, slots := 0, locals := 40 * 1 } : Room) s m args below meth c 5 0 0 (MQ below (gQ g (some (.int z.1)) z.2) args s 0 0 (gA g)) 0 [(0, .ref (gAd g a0)), (1, .int i1)] [] M
  refine v_iconst (v := 0) F dX5_knownOn_0 (by decide) ?_
  refine v_istore_n (lv' := [(2, .int 0), (0, .ref (gAd g a0)), (1, .int i1)]) F dX5_knownOn_1 rfl (by decide) rfl ?_
  refine v_iconst (v := 0) F dX5_knownOn_2 (by decide) ?_
  refine v_istore_n (lv' := [(3, .int 0), (2, .int 0), (0, .ref (gAd g a0)), (1, .int i1)]) F dX5_knownOn_3 rfl (by decide) rfl ?_
  refine v_sub (fun ls h9 => lv_sub h9 [2, 3, 1, 0] rfl) ?_
  exact w_X5_knownOn_h4 F hr hlk t0 _ _ _ _ h
