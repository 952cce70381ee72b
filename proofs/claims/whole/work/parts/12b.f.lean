def f_X11_unit_b193 (r_X11_sum : Mem → Nat → Option (Int32 × Mem)) (a0 : Nat)  (x2 : Int32) (M : Mem) : Option (Int32 × Mem) := (f_X11_sign M a0 41).bind fun q => match q with | (r83, M84) => (if x2 = 0 then (some (0, (mU M84 a0 5 ((M84 a0 5) - 1)))) else ((f_X11_tells (mU M84 a0 5 ((M84 a0 5) - 1)) a0 x2).bind fun q => match q with | (r88, M89) => (some (0, M89))))
def f_X11_unit_b183 (r_X11_sum : Mem → Nat → Option (Int32 × Mem)) (a0 : Nat)  (x2 : Int32) (M : Mem) : Option (Int32 × Mem) := (f_X11_sign M a0 44).bind fun q => match q with | (r75, M76) => ((r_X11_sum M76 a0).bind fun q => match q with | (r79, M80) => (f_X11_unit_b193 r_X11_sum a0 x2 M80))
def f_X11_unit_b133 (r_X11_sum : Mem → Nat → Option (Int32 × Mem)) (a0 : Nat)  (x2 : Int32) (M : Mem) : Option (Int32 × Mem) := (f_X11_blanks M a0).bind fun q => match q with | (r52, M53) => ((f_X11_byteAt M53 a0 (M53 a0 4)).bind fun q => match q with | (r56, M57) => (if r56 = 40 then ((f_X11_opens M57 a0 1).bind fun q => match q with | (r61, M62) => ((r_X11_sum M62 a0).bind fun q => match q with | (r65, M66) => (if x2 = 10024 then (f_X11_unit_b183 r_X11_sum a0 x2 M66) else (if x2 = 10025 then (f_X11_unit_b183 r_X11_sum a0 x2 M66) else (f_X11_unit_b193 r_X11_sum a0 x2 M66))))) else ((f_X11_wrong M57 a0 1 (M57 a0 4)).bind fun q => match q with | (r71, M72) => (some (0, M72)))))
def f_X11_unit_b124 (r_X11_sum : Mem → Nat → Option (Int32 × Mem)) (a0 : Nat)  (s0 : Int32) (M : Mem) : Option (Int32 × Mem) := if s0 = 0 then (f_X11_unit_b133 r_X11_sum a0 s0 M) else ((f_X11_skipWord M a0).bind fun q => match q with | (r48, M49) => (f_X11_unit_b133 r_X11_sum a0 s0 M49))
def f_X11_unit (r_X11_sum : Mem → Nat → Option (Int32 × Mem)) (M : Mem) (a0 : Nat) : Option (Int32 × Mem) := if (M a0 6) = 0 then ((f_X11_blanks M a0).bind fun q => match q with | (r2, M3) => ((f_X11_byteAt M3 a0 (M3 a0 4)).bind fun q => match q with | (r6, M7) => ((f_X11_isDigit M7 r6).bind fun q => match q with | (r10, M11) => (if r10 = 0 then ((f_X11_nameHere M11 a0).bind fun q => match q with | (r15, M16) => (if r15 = (-1) then ((f_X11_isWord M16 a0 12 5 1 19 20 0).bind fun q => match q with | (r20, M21) => (if r20 = 0 then ((f_X11_isWord M21 a0 13 15 19 20 0 0).bind fun q => match q with | (r25, M26) => (if r25 = 0 then ((f_X11_isWord M26 a0 19 9 7 14 0 0).bind fun q => match q with | (r30, M31) => (if r30 = 0 then (f_X11_unit_b124 r_X11_sum a0 0 M31) else (f_X11_unit_b124 r_X11_sum a0 10026 M31))) else (f_X11_unit_b124 r_X11_sum a0 10025 M26))) else (f_X11_unit_b124 r_X11_sum a0 10024 M21))) else ((f_X11_skipWord M16 a0).bind fun q => match q with | (r35, M36) => ((f_X11_tells M36 a0 (10000 + r15)).bind fun q => match q with | (r39, M40) => (some (0, M40)))))) else ((f_X11_numberHere M11 a0).bind fun q => match q with | (r43, M44) => (some (0, M44))))))) else (some (0, M))
set_option maxHeartbeats 4000000 in
set_option maxRecDepth 100000 in
theorem w_X11_unit_b193 {g : gT} {p : Program} {l : Launch} {e : Env} {s : State} {m : MethodId} {args : Array Value} {below : List Frame} {meth : Method} {c : Code} {z : Int32 × Mem} (F : Fx g p s m args c cX11_unit 3 uX11_unit RX11) (hr : meth.sig.returnType = none) (hlk : meth.locks = false) {k kf_X11_sum : Nat} {r_X11_sum : Mem → Nat → Option (Int32 × Mem)} {a0 : Nat} (hkf_X11_sum : kf_X11_sum + 1 ≤ k) (hk0 : 7 ≤ k) (hR_X11_sum : ∀ (M : Mem) (b0 : Nat) (z : Int32 × Mem), Ty g 11 b0 → r_X11_sum M b0 = some z → Cn g l yX11_sum uX11_sum kf_X11_sum [.ref (gAd g b0)] M none z.2) (t0 : Ty g 11 a0)   (x2 : Int32) (M : Mem)  (h : f_X11_unit_b193 r_X11_sum a0 x2 M = some z) : V g p l e ({ frames := k, cells := 0, slots := 0, locals := 40 * k } : Room) s m args below meth c 3 0 0 (MQ below (gQ g none z.2) args s 0 0 (gA g)) 193 [(0, .ref (gAd g a0)), (2, .int x2)] [] M := by
  unfold f_X11_unit_b193 at h
  refine v_aload_n F dX11_unit_193 rfl 0 rfl ?_
  refine v_bipush (v := 41) F dX11_unit_194 (by decide) ?_
  obtain ⟨⟨r83, M84⟩, hz85, h⟩ := bd_some h
  dsimp only at h
  refine v_callVv (As := [.int 41]) (rest := []) F (c_X11_sign l F.2.2.1 t0 hz85) (cwV 1 F.1.2.2.2.2 (gU_V ml_X11_154 im_yX11_sign se_yX11_sign ini_X11 cd_X11_sign) rfl rfl rfl (by decide +kernel) ⟨by dsimp only [DP]; omega, by dsimp only [DP]; omega⟩) t0 (by decide) rfl rfl rfl (Nat.le_of_ble_eq_true rfl) dX11_unit_196 ⟨Nat.le_of_ble_eq_true rfl, Nat.le_of_ble_eq_true rfl⟩ ?_
  refine v_aload_n F dX11_unit_199 rfl 0 rfl ?_
  refine v_dup F dX11_unit_200 rfl ?_
  refine v_getI (k := 5) F t0 (by decide) (inc inU_11) rfl rfl (by decide) (List.mem_cons_of_mem _ fl_X11_132) rfl dX11_unit_201 ?_
  refine v_iconst (v := 1) F dX11_unit_204 (by decide) ?_
  refine v_isub F dX11_unit_205 ?_
  refine v_put (k := 5) (ty := .int) F t0 (by decide) (inc inU_11) tyX11 tyX11_ok nmX11 rfl rfl (by decide) (List.mem_cons_of_mem _ fl_X11_132) rfl rfl (by decide +kernel) rfl rfl dX11_unit_206 ?_
  refine v_iload_n F dX11_unit_209 rfl 1 rfl ?_
  refine v_if_eq (tgt := 218) F dX11_unit_210 (by decide) (fun hc87 => ?_) (fun hc87 => ?_)
  · rw [if_pos hc87] at h
    cases h
    exact v_vret F hr hlk dX11_unit_218
  · rw [if_neg hc87] at h
    refine v_aload_n F dX11_unit_213 rfl 0 rfl ?_
    refine v_iload_n F dX11_unit_214 rfl 1 rfl ?_
    obtain ⟨⟨r88, M89⟩, hz90, h⟩ := bd_some h
    dsimp only at h
    refine v_callVv (As := [.int x2]) (rest := []) F (c_X11_tells l F.2.2.1 t0 hz90) (cwV 1 F.1.2.2.2.2 (gU_V ml_X11_117 im_yX11_tells se_yX11_tells ini_X11 cd_X11_tells) rfl rfl rfl (by decide +kernel) ⟨by dsimp only [DP]; omega, by dsimp only [DP]; omega⟩) t0 (by decide) rfl rfl rfl (Nat.le_of_ble_eq_true rfl) dX11_unit_215 ⟨Nat.le_of_ble_eq_true rfl, Nat.le_of_ble_eq_true rfl⟩ ?_
    cases h
    exact v_vret F hr hlk dX11_unit_218
set_option maxHeartbeats 4000000 in
set_option maxRecDepth 100000 in
theorem w_X11_unit_b183 {g : gT} {p : Program} {l : Launch} {e : Env} {s : State} {m : MethodId} {args : Array Value} {below : List Frame} {meth : Method} {c : Code} {z : Int32 × Mem} (F : Fx g p s m args c cX11_unit 3 uX11_unit RX11) (hr : meth.sig.returnType = none) (hlk : meth.locks = false) {k kf_X11_sum : Nat} {r_X11_sum : Mem → Nat → Option (Int32 × Mem)} {a0 : Nat} (hkf_X11_sum : kf_X11_sum + 1 ≤ k) (hk0 : 7 ≤ k) (hR_X11_sum : ∀ (M : Mem) (b0 : Nat) (z : Int32 × Mem), Ty g 11 b0 → r_X11_sum M b0 = some z → Cn g l yX11_sum uX11_sum kf_X11_sum [.ref (gAd g b0)] M none z.2) (t0 : Ty g 11 a0)   (x2 : Int32) (M : Mem)  (h : f_X11_unit_b183 r_X11_sum a0 x2 M = some z) : V g p l e ({ frames := k, cells := 0, slots := 0, locals := 40 * k } : Room) s m args below meth c 3 0 0 (MQ below (gQ g none z.2) args s 0 0 (gA g)) 183 [(0, .ref (gAd g a0)), (2, .int x2)] [] M := by
  unfold f_X11_unit_b183 at h
  refine v_aload_n F dX11_unit_183 rfl 0 rfl ?_
  refine v_bipush (v := 44) F dX11_unit_184 (by decide) ?_
  obtain ⟨⟨r75, M76⟩, hz77, h⟩ := bd_some h
  dsimp only at h
  refine v_callVv (As := [.int 44]) (rest := []) F (c_X11_sign l F.2.2.1 t0 hz77) (cwV 1 F.1.2.2.2.2 (gU_V ml_X11_154 im_yX11_sign se_yX11_sign ini_X11 cd_X11_sign) rfl rfl rfl (by decide +kernel) ⟨by dsimp only [DP]; omega, by dsimp only [DP]; omega⟩) t0 (by decide) rfl rfl rfl (Nat.le_of_ble_eq_true rfl) dX11_unit_186 ⟨Nat.le_of_ble_eq_true rfl, Nat.le_of_ble_eq_true rfl⟩ ?_
  refine v_aload_n F dX11_unit_189 rfl 0 rfl ?_
  obtain ⟨⟨r79, M80⟩, hz81, h⟩ := bd_some h
  dsimp only at h
  refine v_callVv (As := []) (rest := []) F (hR_X11_sum _ _ _ t0 hz81) (cwV 0 F.1.2.2.2.2 (gU_V ml_X11_151 im_yX11_sum se_yX11_sum ini_X11 cd_X11_sum) rfl rfl rfl (by decide +kernel) ⟨by dsimp only [DP]; omega, by dsimp only [DP]; omega⟩) t0 (by decide) rfl rfl rfl (Nat.le_of_ble_eq_true rfl) dX11_unit_190 ⟨Nat.le_of_ble_eq_true rfl, Nat.le_of_ble_eq_true rfl⟩ ?_
  exact w_X11_unit_b193 F hr hlk hkf_X11_sum hk0 hR_X11_sum t0 _ _ h
set_option maxHeartbeats 4000000 in
set_option maxRecDepth 100000 in
theorem w_X11_unit_b133 {g : gT} {p : Program} {l : Launch} {e : Env} {s : State} {m : MethodId} {args : Array Value} {below : List Frame} {meth : Method} {c : Code} {z : Int32 × Mem} (F : Fx g p s m args c cX11_unit 3 uX11_unit RX11) (hr : meth.sig.returnType = none) (hlk : meth.locks = false) {k kf_X11_sum : Nat} {r_X11_sum : Mem → Nat → Option (Int32 × Mem)} {a0 : Nat} (hkf_X11_sum : kf_X11_sum + 1 ≤ k) (hk0 : 7 ≤ k) (hR_X11_sum : ∀ (M : Mem) (b0 : Nat) (z : Int32 × Mem), Ty g 11 b0 → r_X11_sum M b0 = some z → Cn g l yX11_sum uX11_sum kf_X11_sum [.ref (gAd g b0)] M none z.2) (t0 : Ty g 11 a0)   (x2 : Int32) (M : Mem)  (h : f_X11_unit_b133 r_X11_sum a0 x2 M = some z) : V g p l e ({ frames := k, cells := 0, slots := 0, locals := 40 * k } : Room) s m args below meth c 3 0 0 (MQ below (gQ g none z.2) args s 0 0 (gA g)) 133 [(0, .ref (gAd g a0)), (2, .int x2)] [] M := by
  unfold f_X11_unit_b133 at h
  refine v_aload_n F dX11_unit_133 rfl 0 rfl ?_
  obtain ⟨⟨r52, M53⟩, hz54, h⟩ := bd_some h
  dsimp only at h
  refine v_callVv (As := []) (rest := []) F (c_X11_blanks l F.2.2.1 t0 hz54) (cwV 0 F.1.2.2.2.2 (gU_V ml_X11_121 im_yX11_blanks se_yX11_blanks ini_X11 cd_X11_blanks) rfl rfl rfl (by decide +kernel) ⟨by dsimp only [DP]; omega, by dsimp only [DP]; omega⟩) t0 (by decide) rfl rfl rfl (Nat.le_of_ble_eq_true rfl) dX11_unit_134 ⟨Nat.le_of_ble_eq_true rfl, Nat.le_of_ble_eq_true rfl⟩ ?_
  refine v_aload_n F dX11_unit_137 rfl 0 rfl ?_
  refine v_aload_n F dX11_unit_138 rfl 0 rfl ?_
  refine v_getI (k := 4) F t0 (by decide) (inc inU_11) rfl rfl (by decide) (List.mem_cons_of_mem _ fl_X11_92) rfl dX11_unit_139 ?_
  obtain ⟨⟨r56, M57⟩, hz58, h⟩ := bd_some h
  dsimp only at h
  refine v_callVi (As := [.int (M53 a0 4)]) (rest := []) F (c_X11_byteAt l F.2.2.1 t0 hz58) (cwV 1 F.1.2.2.2.2 (gU_V ml_X11_95 im_yX11_byteAt se_yX11_byteAt ini_X11 cd_X11_byteAt) rfl rfl rfl (by decide +kernel) ⟨by dsimp only [DP]; omega, by dsimp only [DP]; omega⟩) t0 (by decide) rfl rfl rfl (Nat.le_of_ble_eq_true rfl) dX11_unit_142 ⟨Nat.le_of_ble_eq_true rfl, Nat.le_of_ble_eq_true rfl⟩ ?_
  refine v_bipush (v := 40) F dX11_unit_145 (by decide) ?_
  refine v_icmp_eq (tgt := 160) F dX11_unit_147 (by decide) (fun hc60 => ?_) (fun hc60 => ?_)
  · rw [if_pos hc60] at h
    refine v_aload_n F dX11_unit_160 rfl 0 rfl ?_
    refine v_iconst (v := 1) F dX11_unit_161 (by decide) ?_
    obtain ⟨⟨r61, M62⟩, hz63, h⟩ := bd_some h
    dsimp only at h
    refine v_callVv (As := [.int 1]) (rest := []) F (c_X11_opens l F.2.2.1 t0 hz63) (cwV 1 F.1.2.2.2.2 (gU_V ml_X11_148 im_yX11_opens se_yX11_opens ini_X11 cd_X11_opens) rfl rfl rfl (by decide +kernel) ⟨by dsimp only [DP]; omega, by dsimp only [DP]; omega⟩) t0 (by decide) rfl rfl rfl (Nat.le_of_ble_eq_true rfl) dX11_unit_162 ⟨Nat.le_of_ble_eq_true rfl, Nat.le_of_ble_eq_true rfl⟩ ?_
    refine v_aload_n F dX11_unit_165 rfl 0 rfl ?_
    obtain ⟨⟨r65, M66⟩, hz67, h⟩ := bd_some h
    dsimp only at h
    refine v_callVv (As := []) (rest := []) F (hR_X11_sum _ _ _ t0 hz67) (cwV 0 F.1.2.2.2.2 (gU_V ml_X11_151 im_yX11_sum se_yX11_sum ini_X11 cd_X11_sum) rfl rfl rfl (by decide +kernel) ⟨by dsimp only [DP]; omega, by dsimp only [DP]; omega⟩) t0 (by decide) rfl rfl rfl (Nat.le_of_ble_eq_true rfl) dX11_unit_166 ⟨Nat.le_of_ble_eq_true rfl, Nat.le_of_ble_eq_true rfl⟩ ?_
    refine v_iload_n F dX11_unit_169 rfl 1 rfl ?_
    refine v_sipush (v := 10024) F dX11_unit_170 (by decide) ?_
    refine v_icmp_eq (tgt := 183) F dX11_unit_173 (by decide) (fun hc69 => ?_) (fun hc69 => ?_)
    · rw [if_pos hc69] at h
      exact w_X11_unit_b183 F hr hlk hkf_X11_sum hk0 hR_X11_sum t0 _ _ h
    · rw [if_neg hc69] at h
      refine v_iload_n F dX11_unit_176 rfl 1 rfl ?_
      refine v_sipush (v := 10025) F dX11_unit_177 (by decide) ?_
      refine v_icmp_ne (tgt := 193) F dX11_unit_180 (by decide) (fun hc70 => ?_) (fun hc70 => ?_)
      · rw [if_neg hc70] at h
        exact w_X11_unit_b193 F hr hlk hkf_X11_sum hk0 hR_X11_sum t0 _ _ h
      · rw [if_pos hc70] at h
        exact w_X11_unit_b183 F hr hlk hkf_X11_sum hk0 hR_X11_sum t0 _ _ h
  · rw [if_neg hc60] at h
    refine v_aload_n F dX11_unit_150 rfl 0 rfl ?_
    refine v_iconst (v := 1) F dX11_unit_151 (by decide) ?_
    refine v_aload_n F dX11_unit_152 rfl 0 rfl ?_
    refine v_getI (k := 4) F t0 (by decide) (inc inU_11) rfl rfl (by decide) (List.mem_cons_of_mem _ fl_X11_92) rfl dX11_unit_153 ?_
    obtain ⟨⟨r71, M72⟩, hz73, h⟩ := bd_some h
    dsimp only at h
    refine v_callVv (As := [.int 1, .int (M57 a0 4)]) (rest := []) F (c_X11_wrong l F.2.2.1 t0 hz73) (cwV 2 F.1.2.2.2.2 (gU_V ml_X11_113 im_yX11_wrong se_yX11_wrong ini_X11 cd_X11_wrong) rfl rfl rfl (by decide +kernel) ⟨by dsimp only [DP]; omega, by dsimp only [DP]; omega⟩) t0 (by decide) rfl rfl rfl (Nat.le_of_ble_eq_true rfl) dX11_unit_156 ⟨Nat.le_of_ble_eq_true rfl, Nat.le_of_ble_eq_true rfl⟩ ?_
    cases h
    exact v_vret F hr hlk dX11_unit_159
set_option maxHeartbeats 4000000 in
set_option maxRecDepth 100000 in
theorem w_X11_unit_b124 {g : gT} {p : Program} {l : Launch} {e : Env} {s : State} {m : MethodId} {args : Array Value} {below : List Frame} {meth : Method} {c : Code} {z : Int32 × Mem} (F : Fx g p s m args c cX11_unit 3 uX11_unit RX11) (hr : meth.sig.returnType = none) (hlk : meth.locks = false) {k kf_X11_sum : Nat} {r_X11_sum : Mem → Nat → Option (Int32 × Mem)} {a0 : Nat} (hkf_X11_sum : kf_X11_sum + 1 ≤ k) (hk0 : 7 ≤ k) (hR_X11_sum : ∀ (M : Mem) (b0 : Nat) (z : Int32 × Mem), Ty g 11 b0 → r_X11_sum M b0 = some z → Cn g l yX11_sum uX11_sum kf_X11_sum [.ref (gAd g b0)] M none z.2) (t0 : Ty g 11 a0)   (s0 : Int32) (M : Mem)  (h : f_X11_unit_b124 r_X11_sum a0 s0 M = some z) : V g p l e ({ frames := k, cells := 0, slots := 0, locals := 40 * k } : Room) s m args below meth c 3 0 0 (MQ below (gQ g none z.2) args s 0 0 (gA g)) 124 [(0, .ref (gAd g a0))] [.int s0] M := by
  unfold f_X11_unit_b124 at h
  refine v_istore_n (lv' := [(2, .int s0), (0, .ref (gAd g a0))]) F dX11_unit_124 rfl (by decide) rfl ?_
  refine v_iload_n F dX11_unit_125 rfl 0 rfl ?_
  refine v_if_eq (tgt := 133) F dX11_unit_126 (by decide) (fun hc47 => ?_) (fun hc47 => ?_)
  · rw [if_pos hc47] at h
    refine v_sub (fun ls h9 => lv_sub h9 [1, 0] rfl) ?_
    exact w_X11_unit_b133 F hr hlk hkf_X11_sum hk0 hR_X11_sum t0 _ _ h
  · rw [if_neg hc47] at h
    refine v_aload_n F dX11_unit_129 rfl 1 rfl ?_
    obtain ⟨⟨r48, M49⟩, hz50, h⟩ := bd_some h
    dsimp only at h
    refine v_callVv (As := []) (rest := []) F (c_X11_skipWord l F.2.2.1 t0 hz50) (cwV 0 F.1.2.2.2.2 (gU_V ml_X11_145 im_yX11_skipWord se_yX11_skipWord ini_X11 cd_X11_skipWord) rfl rfl rfl (by decide +kernel) ⟨by dsimp only [DP]; omega, by dsimp only [DP]; omega⟩) t0 (by decide) rfl rfl rfl (Nat.le_of_ble_eq_true rfl) dX11_unit_130 ⟨Nat.le_of_ble_eq_true rfl, Nat.le_of_ble_eq_true rfl⟩ ?_
    refine v_sub (fun ls h9 => lv_sub h9 [1, 0] rfl) ?_
    exact w_X11_unit_b133 F hr hlk hkf_X11_sum hk0 hR_X11_sum t0 _ _ h
set_option maxHeartbeats 4000000 in
set_option maxRecDepth 100000 in
theorem c_X11_unit {g : gT} (l : Launch) (hok : gOK g) {k kf_X11_sum : Nat} {r_X11_sum : Mem → Nat → Option (Int32 × Mem)} {a0 : Nat} {M : Mem} {z : Int32 × Mem} (hkf_X11_sum : kf_X11_sum + 1 ≤ k) (hk0 : 7 ≤ k) (hR_X11_sum : ∀ (M : Mem) (b0 : Nat) (z : Int32 × Mem), Ty g 11 b0 → r_X11_sum M b0 = some z → Cn g l yX11_sum uX11_sum kf_X11_sum [.ref (gAd g b0)] M none z.2) (t0 : Ty g 11 a0) (h : f_X11_unit r_X11_sum M a0 = some z) : Cn g l yX11_unit uX11_unit k [.ref (gAd g a0)] M none z.2 := by
  refine Cn.of (cc := cX11_unit) (maxL := 3) (ret := none) hok (by decide) rfl (Nat.le_of_ble_eq_true rfl) (fun p e s m args below meth c F hr hlk => ?_)
  unfold f_X11_unit at h
  show V g p l e ({ frames := k, cells := 0, slots := 0, locals := 40 * k } : Room) s m args below meth c 3 0 0 (MQ below (gQ g none z.2) args s 0 0 (gA g)) 0 [(0, .ref (gAd g a0))] [] M
  refine v_aload_n F dX11_unit_0 rfl 0 rfl ?_
  refine v_getI (k := 6) F t0 (by decide) (inc inU_11) rfl rfl (by decide) (List.mem_cons_of_mem _ fl_X11_99) rfl dX11_unit_1 ?_
  refine v_if_eq (tgt := 8) F dX11_unit_4 (by decide) (fun hc1 => ?_) (fun hc1 => ?_)
  · rw [if_pos hc1] at h
    refine v_aload_n F dX11_unit_8 rfl 0 rfl ?_
    obtain ⟨⟨r2, M3⟩, hz4, h⟩ := bd_some h
    dsimp only at h
    refine v_callVv (As := []) (rest := []) F (c_X11_blanks l F.2.2.1 t0 hz4) (cwV 0 F.1.2.2.2.2 (gU_V ml_X11_121 im_yX11_blanks se_yX11_blanks ini_X11 cd_X11_blanks) rfl rfl rfl (by decide +kernel) ⟨by dsimp only [DP]; omega, by dsimp only [DP]; omega⟩) t0 (by decide) rfl rfl rfl (Nat.le_of_ble_eq_true rfl) dX11_unit_9 ⟨Nat.le_of_ble_eq_true rfl, Nat.le_of_ble_eq_true rfl⟩ ?_
    refine v_aload_n F dX11_unit_12 rfl 0 rfl ?_
    refine v_aload_n F dX11_unit_13 rfl 0 rfl ?_
    refine v_getI (k := 4) F t0 (by decide) (inc inU_11) rfl rfl (by decide) (List.mem_cons_of_mem _ fl_X11_92) rfl dX11_unit_14 ?_
    obtain ⟨⟨r6, M7⟩, hz8, h⟩ := bd_some h
    dsimp only at h
    refine v_callVi (As := [.int (M3 a0 4)]) (rest := []) F (c_X11_byteAt l F.2.2.1 t0 hz8) (cwV 1 F.1.2.2.2.2 (gU_V ml_X11_95 im_yX11_byteAt se_yX11_byteAt ini_X11 cd_X11_byteAt) rfl rfl rfl (by decide +kernel) ⟨by dsimp only [DP]; omega, by dsimp only [DP]; omega⟩) t0 (by decide) rfl rfl rfl (Nat.le_of_ble_eq_true rfl) dX11_unit_17 ⟨Nat.le_of_ble_eq_true rfl, Nat.le_of_ble_eq_true rfl⟩ ?_
    obtain ⟨⟨r10, M11⟩, hz12, h⟩ := bd_some h
    dsimp only at h
    refine v_callSi (As := [.int r6]) (rest := []) F (c_X11_isDigit l F.2.2.1  hz12) (cwS 1 F.1.2.2.2.2 (gU_S ml_X11_108 st_yX11_isDigit ini_X11 cd_X11_isDigit) rfl rfl rfl (by decide +kernel) ⟨by dsimp only [DP]; omega, by dsimp only [DP]; omega⟩) rfl rfl (Nat.le_of_ble_eq_true rfl) dX11_unit_20 ⟨Nat.le_of_ble_eq_true rfl, Nat.le_of_ble_eq_true rfl⟩ ?_
    refine v_if_eq (tgt := 31) F dX11_unit_23 (by decide) (fun hc14 => ?_) (fun hc14 => ?_)
    · rw [if_pos hc14] at h
      refine v_aload_n F dX11_unit_31 rfl 0 rfl ?_
      obtain ⟨⟨r15, M16⟩, hz17, h⟩ := bd_some h
      dsimp only at h
      refine v_callVi (As := []) (rest := []) F (c_X11_nameHere l F.2.2.1 t0 hz17) (cwV 0 F.1.2.2.2.2 (gU_V ml_X11_142 im_yX11_nameHere se_yX11_nameHere ini_X11 cd_X11_nameHere) rfl rfl rfl (by decide +kernel) ⟨by dsimp only [DP]; omega, by dsimp only [DP]; omega⟩) t0 (by decide) rfl rfl rfl (Nat.le_of_ble_eq_true rfl) dX11_unit_32 ⟨Nat.le_of_ble_eq_true rfl, Nat.le_of_ble_eq_true rfl⟩ ?_
      refine v_istore_n (lv' := [(1, .int r15), (0, .ref (gAd g a0))]) F dX11_unit_35 rfl (by decide) rfl ?_
      refine v_iload_n F dX11_unit_36 rfl 0 rfl ?_
      refine v_iconst (v := (-1)) F dX11_unit_37 (by decide) ?_
      refine v_icmp_eq (tgt := 55) F dX11_unit_38 (by decide) (fun hc19 => ?_) (fun hc19 => ?_)
      · rw [if_pos hc19] at h
        refine v_aload_n F dX11_unit_55 rfl 1 rfl ?_
        refine v_bipush (v := 12) F dX11_unit_56 (by decide) ?_
        refine v_iconst (v := 5) F dX11_unit_58 (by decide) ?_
        refine v_iconst (v := 1) F dX11_unit_59 (by decide) ?_
        refine v_bipush (v := 19) F dX11_unit_60 (by decide) ?_
        refine v_bipush (v := 20) F dX11_unit_62 (by decide) ?_
        refine v_iconst (v := 0) F dX11_unit_64 (by decide) ?_
        obtain ⟨⟨r20, M21⟩, hz22, h⟩ := bd_some h
        dsimp only at h
        refine v_callVi (As := [.int 12, .int 5, .int 1, .int 19, .int 20, .int 0]) (rest := []) F (c_X11_isWord l F.2.2.1 t0 hz22) (cwV 6 F.1.2.2.2.2 (gU_V ml_X11_135 im_yX11_isWord se_yX11_isWord ini_X11 cd_X11_isWord) rfl rfl rfl (by decide +kernel) ⟨by dsimp only [DP]; omega, by dsimp only [DP]; omega⟩) t0 (by decide) rfl rfl rfl (Nat.le_of_ble_eq_true rfl) dX11_unit_65 ⟨Nat.le_of_ble_eq_true rfl, Nat.le_of_ble_eq_true rfl⟩ ?_
        refine v_if_eq (tgt := 77) F dX11_unit_68 (by decide) (fun hc24 => ?_) (fun hc24 => ?_)
        · rw [if_pos hc24] at h
          refine v_aload_n F dX11_unit_77 rfl 1 rfl ?_
          refine v_bipush (v := 13) F dX11_unit_78 (by decide) ?_
          refine v_bipush (v := 15) F dX11_unit_80 (by decide) ?_
          refine v_bipush (v := 19) F dX11_unit_82 (by decide) ?_
          refine v_bipush (v := 20) F dX11_unit_84 (by decide) ?_
          refine v_iconst (v := 0) F dX11_unit_86 (by decide) ?_
          refine v_iconst (v := 0) F dX11_unit_87 (by decide) ?_
          obtain ⟨⟨r25, M26⟩, hz27, h⟩ := bd_some h
          dsimp only at h
          refine v_callVi (As := [.int 13, .int 15, .int 19, .int 20, .int 0, .int 0]) (rest := []) F (c_X11_isWord l F.2.2.1 t0 hz27) (cwV 6 F.1.2.2.2.2 (gU_V ml_X11_135 im_yX11_isWord se_yX11_isWord ini_X11 cd_X11_isWord) rfl rfl rfl (by decide +kernel) ⟨by dsimp only [DP]; omega, by dsimp only [DP]; omega⟩) t0 (by decide) rfl rfl rfl (Nat.le_of_ble_eq_true rfl) dX11_unit_88 ⟨Nat.le_of_ble_eq_true rfl, Nat.le_of_ble_eq_true rfl⟩ ?_
          refine v_if_eq (tgt := 100) F dX11_unit_91 (by decide) (fun hc29 => ?_) (fun hc29 => ?_)
          · rw [if_pos hc29] at h
            refine v_aload_n F dX11_unit_100 rfl 1 rfl ?_
            refine v_bipush (v := 19) F dX11_unit_101 (by decide) ?_
            refine v_bipush (v := 9) F dX11_unit_103 (by decide) ?_
            refine v_bipush (v := 7) F dX11_unit_105 (by decide) ?_
            refine v_bipush (v := 14) F dX11_unit_107 (by decide) ?_
            refine v_iconst (v := 0) F dX11_unit_109 (by decide) ?_
            refine v_iconst (v := 0) F dX11_unit_110 (by decide) ?_
            obtain ⟨⟨r30, M31⟩, hz32, h⟩ := bd_some h
            dsimp only at h
            refine v_callVi (As := [.int 19, .int 9, .int 7, .int 14, .int 0, .int 0]) (rest := []) F (c_X11_isWord l F.2.2.1 t0 hz32) (cwV 6 F.1.2.2.2.2 (gU_V ml_X11_135 im_yX11_isWord se_yX11_isWord ini_X11 cd_X11_isWord) rfl rfl rfl (by decide +kernel) ⟨by dsimp only [DP]; omega, by dsimp only [DP]; omega⟩) t0 (by decide) rfl rfl rfl (Nat.le_of_ble_eq_true rfl) dX11_unit_111 ⟨Nat.le_of_ble_eq_true rfl, Nat.le_of_ble_eq_true rfl⟩ ?_
            refine v_if_eq (tgt := 123) F dX11_unit_114 (by decide) (fun hc34 => ?_) (fun hc34 => ?_)
            · rw [if_pos hc34] at h
              refine v_iconst (v := 0) F dX11_unit_123 (by decide) ?_
              refine v_sub (fun ls h9 => lv_sub h9 [1] rfl) ?_
              exact w_X11_unit_b124 F hr hlk hkf_X11_sum hk0 hR_X11_sum t0 _ _ h
            · rw [if_neg hc34] at h
              refine v_sipush (v := 10026) F dX11_unit_117 (by decide) ?_
              refine v_goto (tgt := 124) F dX11_unit_120 (by decide) ?_
              refine v_sub (fun ls h9 => lv_sub h9 [1] rfl) ?_
              exact w_X11_unit_b124 F hr hlk hkf_X11_sum hk0 hR_X11_sum t0 _ _ h
          · rw [if_neg hc29] at h
            refine v_sipush (v := 10025) F dX11_unit_94 (by decide) ?_
            refine v_goto (tgt := 124) F dX11_unit_97 (by decide) ?_
            refine v_sub (fun ls h9 => lv_sub h9 [1] rfl) ?_
            exact w_X11_unit_b124 F hr hlk hkf_X11_sum hk0 hR_X11_sum t0 _ _ h
        · rw [if_neg hc24] at h
          refine v_sipush (v := 10024) F dX11_unit_71 (by decide) ?_
          refine v_goto (tgt := 124) F dX11_unit_74 (by decide) ?_
          refine v_sub (fun ls h9 => lv_sub h9 [1] rfl) ?_
          exact w_X11_unit_b124 F hr hlk hkf_X11_sum hk0 hR_X11_sum t0 _ _ h
      · rw [if_neg hc19] at h
        refine v_aload_n F dX11_unit_41 rfl 1 rfl ?_
        obtain ⟨⟨r35, M36⟩, hz37, h⟩ := bd_some h
        dsimp only at h
        refine v_callVv (As := []) (rest := []) F (c_X11_skipWord l F.2.2.1 t0 hz37) (cwV 0 F.1.2.2.2.2 (gU_V ml_X11_145 im_yX11_skipWord se_yX11_skipWord ini_X11 cd_X11_skipWord) rfl rfl rfl (by decide +kernel) ⟨by dsimp only [DP]; omega, by dsimp only [DP]; omega⟩) t0 (by decide) rfl rfl rfl (Nat.le_of_ble_eq_true rfl) dX11_unit_42 ⟨Nat.le_of_ble_eq_true rfl, Nat.le_of_ble_eq_true rfl⟩ ?_
        refine v_aload_n F dX11_unit_45 rfl 1 rfl ?_
        refine v_sipush (v := 10000) F dX11_unit_46 (by decide) ?_
        refine v_iload_n F dX11_unit_49 rfl 0 rfl ?_
        refine v_iadd F dX11_unit_50 ?_
        obtain ⟨⟨r39, M40⟩, hz41, h⟩ := bd_some h
        dsimp only at h
        refine v_callVv (As := [.int (10000 + r15)]) (rest := []) F (c_X11_tells l F.2.2.1 t0 hz41) (cwV 1 F.1.2.2.2.2 (gU_V ml_X11_117 im_yX11_tells se_yX11_tells ini_X11 cd_X11_tells) rfl rfl rfl (by decide +kernel) ⟨by dsimp only [DP]; omega, by dsimp only [DP]; omega⟩) t0 (by decide) rfl rfl rfl (Nat.le_of_ble_eq_true rfl) dX11_unit_51 ⟨Nat.le_of_ble_eq_true rfl, Nat.le_of_ble_eq_true rfl⟩ ?_
        cases h
        exact v_vret F hr hlk dX11_unit_54
    · rw [if_neg hc14] at h
      refine v_aload_n F dX11_unit_26 rfl 0 rfl ?_
      obtain ⟨⟨r43, M44⟩, hz45, h⟩ := bd_some h
      dsimp only at h
      refine v_callVv (As := []) (rest := []) F (c_X11_numberHere l F.2.2.1 t0 hz45) (cwV 0 F.1.2.2.2.2 (gU_V ml_X11_139 im_yX11_numberHere se_yX11_numberHere ini_X11 cd_X11_numberHere) rfl rfl rfl (by decide +kernel) ⟨by dsimp only [DP]; omega, by dsimp only [DP]; omega⟩) t0 (by decide) rfl rfl rfl (Nat.le_of_ble_eq_true rfl) dX11_unit_27 ⟨Nat.le_of_ble_eq_true rfl, Nat.le_of_ble_eq_true rfl⟩ ?_
      cases h
      exact v_vret F hr hlk dX11_unit_30
  · rw [if_neg hc1] at h
    cases h
    exact v_vret F hr hlk dX11_unit_7
def S_X11_sum : Nat → Mem → Nat → Option (Int32 × Mem)
  | 0 => fun _ _ => none
  | d + 1 => f_X11_sum (f_X11_product (f_X11_unit (S_X11_sum d)))
theorem cS_X11_sum {g : gT} (l : Launch) (hok : gOK g) : ∀ (d : Nat) (M : Mem) (a0 : Nat) (z : Int32 × Mem), Ty g 11 a0 → S_X11_sum d M a0 = some z → Cn g l yX11_sum uX11_sum (6 + 3 * d) [.ref (gAd g a0)] M none z.2 := by
  intro d
  induction d with
  | zero => intro M a0 z _ h; cases h
  | succ d ih =>
    intro M a0 z t0 h
    exact c_X11_sum l hok (k := 6 + 3 * (d + 1)) (kf_X11_product := 6 + 3 * d + 2) (by omega) (by omega) (fun M b0 z t0 h => c_X11_product l hok (k := 6 + 3 * d + 2) (kf_X11_unit := 6 + 3 * d + 1) (by omega) (by omega) (fun M b0 z t0 h => c_X11_unit l hok (k := 6 + 3 * d + 1) (kf_X11_sum := 6 + 3 * d) (by omega) (by omega) ih t0 h) t0 h) t0 h

def f_X11_ands_h4 (r_X11_test : Mem → Nat → Option (Int32 × Mem)) (a0 : Nat)  : Nat → Mem → Option (Int32 × Mem)
  | 0, _ => none
  | n + 1, M => if (M a0 6) = 0 then ((f_X11_isWord M a0 1 14 4 0 0 0).bind fun q => match q with | (r6, M7) => (if r6 = 0 then (some (0, M7)) else ((f_X11_skipWord M7 a0).bind fun q => match q with | (r11, M12) => ((r_X11_test M12 a0).bind fun q => match q with | (r15, M16) => ((f_X11_tells M16 a0 10034).bind fun q => match q with | (r19, M20) => ((f_X11_ands_h4 r_X11_test a0 n) M20)))))) else (some (0, M))
def f_X11_ands (r_X11_test : Mem → Nat → Option (Int32 × Mem)) (M : Mem) (a0 : Nat) : Option (Int32 × Mem) := (r_X11_test M a0).bind fun q => match q with | (r1, M2) => (f_X11_ands_h4 r_X11_test a0 FU M2)
set_option maxHeartbeats 4000000 in
set_option maxRecDepth 100000 in
theorem w_X11_ands_h4 {g : gT} {p : Program} {l : Launch} {e : Env} {s : State} {m : MethodId} {args : Array Value} {below : List Frame} {meth : Method} {c : Code} {z : Int32 × Mem} (F : Fx g p s m args c cX11_ands 1 uX11_ands RX11) (hr : meth.sig.returnType = none) (hlk : meth.locks = false) {k kf_X11_test : Nat} {r_X11_test : Mem → Nat → Option (Int32 × Mem)} {a0 : Nat} (hkf_X11_test : kf_X11_test + 1 ≤ k) (hk0 : 69 ≤ k) (hR_X11_test : ∀ (M : Mem) (b0 : Nat) (z : Int32 × Mem), Ty g 11 b0 → r_X11_test M b0 = some z → Cn g l yX11_test uX11_test kf_X11_test [.ref (gAd g b0)] M none z.2) (t0 : Ty g 11 a0)   : ∀ (n : Nat)  (M : Mem), f_X11_ands_h4 r_X11_test a0 n  M = some z → V g p l e ({ frames := k, cells := 0, slots := 0, locals := 40 * k } : Room) s m args below meth c 1 0 0 (MQ below (gQ g none z.2) args s 0 0 (gA g)) 4 [(0, .ref (gAd g a0))] [] M := by
  intro n
  induction n with
  | zero => intro M; intros; rename_i h; cases h
  | succ n ih =>
    intro M h
    rw [f_X11_ands_h4] at h
    refine v_aload_n F dX11_ands_4 rfl 0 rfl ?_
    refine v_getI (k := 6) F t0 (by decide) (inc inU_11) rfl rfl (by decide) (List.mem_cons_of_mem _ fl_X11_99) rfl dX11_ands_5 ?_
    refine v_if_ne (tgt := 43) F dX11_ands_8 (by decide) (fun hc5 => ?_) (fun hc5 => ?_)
    · rw [if_neg hc5] at h
      cases h
      exact v_vret F hr hlk dX11_ands_43
    · rw [if_pos hc5] at h
      refine v_aload_n F dX11_ands_11 rfl 0 rfl ?_
      refine v_iconst (v := 1) F dX11_ands_12 (by decide) ?_
      refine v_bipush (v := 14) F dX11_ands_13 (by decide) ?_
      refine v_iconst (v := 4) F dX11_ands_15 (by decide) ?_
      refine v_iconst (v := 0) F dX11_ands_16 (by decide) ?_
      refine v_iconst (v := 0) F dX11_ands_17 (by decide) ?_
      refine v_iconst (v := 0) F dX11_ands_18 (by decide) ?_
      obtain ⟨⟨r6, M7⟩, hz8, h⟩ := bd_some h
      dsimp only at h
      refine v_callVi (As := [.int 1, .int 14, .int 4, .int 0, .int 0, .int 0]) (rest := []) F (c_X11_isWord l F.2.2.1 t0 hz8) (cwV 6 F.1.2.2.2.2 (gU_V ml_X11_135 im_yX11_isWord se_yX11_isWord ini_X11 cd_X11_isWord) rfl rfl rfl (by decide +kernel) ⟨by dsimp only [DP]; omega, by dsimp only [DP]; omega⟩) t0 (by decide) rfl rfl rfl (Nat.le_of_ble_eq_true rfl) dX11_ands_19 ⟨Nat.le_of_ble_eq_true rfl, Nat.le_of_ble_eq_true rfl⟩ ?_
      refine v_if_eq (tgt := 43) F dX11_ands_22 (by decide) (fun hc10 => ?_) (fun hc10 => ?_)
      · rw [if_pos hc10] at h
        cases h
        exact v_vret F hr hlk dX11_ands_43
      · rw [if_neg hc10] at h
        refine v_aload_n F dX11_ands_25 rfl 0 rfl ?_
        obtain ⟨⟨r11, M12⟩, hz13, h⟩ := bd_some h
        dsimp only at h
        refine v_callVv (As := []) (rest := []) F (c_X11_skipWord l F.2.2.1 t0 hz13) (cwV 0 F.1.2.2.2.2 (gU_V ml_X11_145 im_yX11_skipWord se_yX11_skipWord ini_X11 cd_X11_skipWord) rfl rfl rfl (by decide +kernel) ⟨by dsimp only [DP]; omega, by dsimp only [DP]; omega⟩) t0 (by decide) rfl rfl rfl (Nat.le_of_ble_eq_true rfl) dX11_ands_26 ⟨Nat.le_of_ble_eq_true rfl, Nat.le_of_ble_eq_true rfl⟩ ?_
        refine v_aload_n F dX11_ands_29 rfl 0 rfl ?_
        obtain ⟨⟨r15, M16⟩, hz17, h⟩ := bd_some h
        dsimp only at h
        refine v_callVv (As := []) (rest := []) F (hR_X11_test _ _ _ t0 hz17) (cwV 0 F.1.2.2.2.2 (gU_V ml_X11_163 im_yX11_test se_yX11_test ini_X11 cd_X11_test) rfl rfl rfl (by decide +kernel) ⟨by dsimp only [DP]; omega, by dsimp only [DP]; omega⟩) t0 (by decide) rfl rfl rfl (Nat.le_of_ble_eq_true rfl) dX11_ands_30 ⟨Nat.le_of_ble_eq_true rfl, Nat.le_of_ble_eq_true rfl⟩ ?_
        refine v_aload_n F dX11_ands_33 rfl 0 rfl ?_
        refine v_sipush (v := 10034) F dX11_ands_34 (by decide) ?_
        obtain ⟨⟨r19, M20⟩, hz21, h⟩ := bd_some h
        dsimp only at h
        refine v_callVv (As := [.int 10034]) (rest := []) F (c_X11_tells l F.2.2.1 t0 hz21) (cwV 1 F.1.2.2.2.2 (gU_V ml_X11_117 im_yX11_tells se_yX11_tells ini_X11 cd_X11_tells) rfl rfl rfl (by decide +kernel) ⟨by dsimp only [DP]; omega, by dsimp only [DP]; omega⟩) t0 (by decide) rfl rfl rfl (Nat.le_of_ble_eq_true rfl) dX11_ands_37 ⟨Nat.le_of_ble_eq_true rfl, Nat.le_of_ble_eq_true rfl⟩ ?_
        refine v_goto (tgt := 4) F dX11_ands_40 (by decide) ?_
        exact ih _ h
set_option maxHeartbeats 4000000 in
set_option maxRecDepth 100000 in
theorem c_X11_ands {g : gT} (l : Launch) (hok : gOK g) {k kf_X11_test : Nat} {r_X11_test : Mem → Nat → Option (Int32 × Mem)} {a0 : Nat} {M : Mem} {z : Int32 × Mem} (hkf_X11_test : kf_X11_test + 1 ≤ k) (hk0 : 69 ≤ k) (hR_X11_test : ∀ (M : Mem) (b0 : Nat) (z : Int32 × Mem), Ty g 11 b0 → r_X11_test M b0 = some z → Cn g l yX11_test uX11_test kf_X11_test [.ref (gAd g b0)] M none z.2) (t0 : Ty g 11 a0) (h : f_X11_ands r_X11_test M a0 = some z) : Cn g l yX11_ands uX11_ands k [.ref (gAd g a0)] M none z.2 := by
  refine Cn.of (cc := cX11_ands) (maxL := 1) (ret := none) hok (by decide) rfl (Nat.le_of_ble_eq_true rfl) (fun p e s m args below meth c F hr hlk => ?_)
  unfold f_X11_ands at h
  show V g p l e ({ frames := k, cells := 0, slots := 0, locals := 40 * k } : Room) s m args below meth c 1 0 0 (MQ below (gQ g none z.2) args s 0 0 (gA g)) 0 [(0, .ref (gAd g a0))] [] M
  refine v_aload_n F dX11_ands_0 rfl 0 rfl ?_
  obtain ⟨⟨r1, M2⟩, hz3, h⟩ := bd_some h
  dsimp only at h
  refine v_callVv (As := []) (rest := []) F (hR_X11_test _ _ _ t0 hz3) (cwV 0 F.1.2.2.2.2 (gU_V ml_X11_163 im_yX11_test se_yX11_test ini_X11 cd_X11_test) rfl rfl rfl (by decide +kernel) ⟨by dsimp only [DP]; omega, by dsimp only [DP]; omega⟩) t0 (by decide) rfl rfl rfl (Nat.le_of_ble_eq_true rfl) dX11_ands_1 ⟨Nat.le_of_ble_eq_true rfl, Nat.le_of_ble_eq_true rfl⟩ ?_
  exact w_X11_ands_h4 F hr hlk hkf_X11_test hk0 hR_X11_test t0 _ _ h
def f_X11_ors_h4 (r_X11_ands : Mem → Nat → Option (Int32 × Mem)) (a0 : Nat)  : Nat → Mem → Option (Int32 × Mem)
  | 0, _ => none
  | n + 1, M => if (M a0 6) = 0 then ((f_X11_isWord M a0 15 18 0 0 0 0).bind fun q => match q with | (r6, M7) => (if r6 = 0 then (some (0, M7)) else ((f_X11_skipWord M7 a0).bind fun q => match q with | (r11, M12) => ((r_X11_ands M12 a0).bind fun q => match q with | (r15, M16) => ((f_X11_tells M16 a0 10035).bind fun q => match q with | (r19, M20) => ((f_X11_ors_h4 r_X11_ands a0 n) M20)))))) else (some (0, M))
def f_X11_ors (r_X11_ands : Mem → Nat → Option (Int32 × Mem)) (M : Mem) (a0 : Nat) : Option (Int32 × Mem) := (r_X11_ands M a0).bind fun q => match q with | (r1, M2) => (f_X11_ors_h4 r_X11_ands a0 FU M2)
set_option maxHeartbeats 4000000 in
set_option maxRecDepth 100000 in
theorem w_X11_ors_h4 {g : gT} {p : Program} {l : Launch} {e : Env} {s : State} {m : MethodId} {args : Array Value} {below : List Frame} {meth : Method} {c : Code} {z : Int32 × Mem} (F : Fx g p s m args c cX11_ors 1 uX11_ors RX11) (hr : meth.sig.returnType = none) (hlk : meth.locks = false) {k kf_X11_ands : Nat} {r_X11_ands : Mem → Nat → Option (Int32 × Mem)} {a0 : Nat} (hkf_X11_ands : kf_X11_ands + 1 ≤ k) (hk0 : 69 ≤ k) (hR_X11_ands : ∀ (M : Mem) (b0 : Nat) (z : Int32 × Mem), Ty g 11 b0 → r_X11_ands M b0 = some z → Cn g l yX11_ands uX11_ands kf_X11_ands [.ref (gAd g b0)] M none z.2) (t0 : Ty g 11 a0)   : ∀ (n : Nat)  (M : Mem), f_X11_ors_h4 r_X11_ands a0 n  M = some z → V g p l e ({ frames := k, cells := 0, slots := 0, locals := 40 * k } : Room) s m args below meth c 1 0 0 (MQ below (gQ g none z.2) args s 0 0 (gA g)) 4 [(0, .ref (gAd g a0))] [] M := by
  intro n
  induction n with
  | zero => intro M; intros; rename_i h; cases h
  | succ n ih =>
    intro M h
    rw [f_X11_ors_h4] at h
    refine v_aload_n F dX11_ors_4 rfl 0 rfl ?_
    refine v_getI (k := 6) F t0 (by decide) (inc inU_11) rfl rfl (by decide) (List.mem_cons_of_mem _ fl_X11_99) rfl dX11_ors_5 ?_
    refine v_if_ne (tgt := 44) F dX11_ors_8 (by decide) (fun hc5 => ?_) (fun hc5 => ?_)
    · rw [if_neg hc5] at h
      cases h
      exact v_vret F hr hlk dX11_ors_44
    · rw [if_pos hc5] at h
      refine v_aload_n F dX11_ors_11 rfl 0 rfl ?_
      refine v_bipush (v := 15) F dX11_ors_12 (by decide) ?_
      refine v_bipush (v := 18) F dX11_ors_14 (by decide) ?_
      refine v_iconst (v := 0) F dX11_ors_16 (by decide) ?_
      refine v_iconst (v := 0) F dX11_ors_17 (by decide) ?_
      refine v_iconst (v := 0) F dX11_ors_18 (by decide) ?_
      refine v_iconst (v := 0) F dX11_ors_19 (by decide) ?_
      obtain ⟨⟨r6, M7⟩, hz8, h⟩ := bd_some h
      dsimp only at h
      refine v_callVi (As := [.int 15, .int 18, .int 0, .int 0, .int 0, .int 0]) (rest := []) F (c_X11_isWord l F.2.2.1 t0 hz8) (cwV 6 F.1.2.2.2.2 (gU_V ml_X11_135 im_yX11_isWord se_yX11_isWord ini_X11 cd_X11_isWord) rfl rfl rfl (by decide +kernel) ⟨by dsimp only [DP]; omega, by dsimp only [DP]; omega⟩) t0 (by decide) rfl rfl rfl (Nat.le_of_ble_eq_true rfl) dX11_ors_20 ⟨Nat.le_of_ble_eq_true rfl, Nat.le_of_ble_eq_true rfl⟩ ?_
      refine v_if_eq (tgt := 44) F dX11_ors_23 (by decide) (fun hc10 => ?_) (fun hc10 => ?_)
      · rw [if_pos hc10] at h
        cases h
        exact v_vret F hr hlk dX11_ors_44
      · rw [if_neg hc10] at h
        refine v_aload_n F dX11_ors_26 rfl 0 rfl ?_
        obtain ⟨⟨r11, M12⟩, hz13, h⟩ := bd_some h
        dsimp only at h
        refine v_callVv (As := []) (rest := []) F (c_X11_skipWord l F.2.2.1 t0 hz13) (cwV 0 F.1.2.2.2.2 (gU_V ml_X11_145 im_yX11_skipWord se_yX11_skipWord ini_X11 cd_X11_skipWord) rfl rfl rfl (by decide +kernel) ⟨by dsimp only [DP]; omega, by dsimp only [DP]; omega⟩) t0 (by decide) rfl rfl rfl (Nat.le_of_ble_eq_true rfl) dX11_ors_27 ⟨Nat.le_of_ble_eq_true rfl, Nat.le_of_ble_eq_true rfl⟩ ?_
        refine v_aload_n F dX11_ors_30 rfl 0 rfl ?_
        obtain ⟨⟨r15, M16⟩, hz17, h⟩ := bd_some h
        dsimp only at h
        refine v_callVv (As := []) (rest := []) F (hR_X11_ands _ _ _ t0 hz17) (cwV 0 F.1.2.2.2.2 (gU_V ml_X11_169 im_yX11_ands se_yX11_ands ini_X11 cd_X11_ands) rfl rfl rfl (by decide +kernel) ⟨by dsimp only [DP]; omega, by dsimp only [DP]; omega⟩) t0 (by decide) rfl rfl rfl (Nat.le_of_ble_eq_true rfl) dX11_ors_31 ⟨Nat.le_of_ble_eq_true rfl, Nat.le_of_ble_eq_true rfl⟩ ?_
        refine v_aload_n F dX11_ors_34 rfl 0 rfl ?_
        refine v_sipush (v := 10035) F dX11_ors_35 (by decide) ?_
        obtain ⟨⟨r19, M20⟩, hz21, h⟩ := bd_some h
        dsimp only at h
        refine v_callVv (As := [.int 10035]) (rest := []) F (c_X11_tells l F.2.2.1 t0 hz21) (cwV 1 F.1.2.2.2.2 (gU_V ml_X11_117 im_yX11_tells se_yX11_tells ini_X11 cd_X11_tells) rfl rfl rfl (by decide +kernel) ⟨by dsimp only [DP]; omega, by dsimp only [DP]; omega⟩) t0 (by decide) rfl rfl rfl (Nat.le_of_ble_eq_true rfl) dX11_ors_38 ⟨Nat.le_of_ble_eq_true rfl, Nat.le_of_ble_eq_true rfl⟩ ?_
        refine v_goto (tgt := 4) F dX11_ors_41 (by decide) ?_
        exact ih _ h
set_option maxHeartbeats 4000000 in
set_option maxRecDepth 100000 in
theorem c_X11_ors {g : gT} (l : Launch) (hok : gOK g) {k kf_X11_ands : Nat} {r_X11_ands : Mem → Nat → Option (Int32 × Mem)} {a0 : Nat} {M : Mem} {z : Int32 × Mem} (hkf_X11_ands : kf_X11_ands + 1 ≤ k) (hk0 : 69 ≤ k) (hR_X11_ands : ∀ (M : Mem) (b0 : Nat) (z : Int32 × Mem), Ty g 11 b0 → r_X11_ands M b0 = some z → Cn g l yX11_ands uX11_ands kf_X11_ands [.ref (gAd g b0)] M none z.2) (t0 : Ty g 11 a0) (h : f_X11_ors r_X11_ands M a0 = some z) : Cn g l yX11_ors uX11_ors k [.ref (gAd g a0)] M none z.2 := by
  refine Cn.of (cc := cX11_ors) (maxL := 1) (ret := none) hok (by decide) rfl (Nat.le_of_ble_eq_true rfl) (fun p e s m args below meth c F hr hlk => ?_)
  unfold f_X11_ors at h
  show V g p l e ({ frames := k, cells := 0, slots := 0, locals := 40 * k } : Room) s m args below meth c 1 0 0 (MQ below (gQ g none z.2) args s 0 0 (gA g)) 0 [(0, .ref (gAd g a0))] [] M
  refine v_aload_n F dX11_ors_0 rfl 0 rfl ?_
  obtain ⟨⟨r1, M2⟩, hz3, h⟩ := bd_some h
  dsimp only at h
  refine v_callVv (As := []) (rest := []) F (hR_X11_ands _ _ _ t0 hz3) (cwV 0 F.1.2.2.2.2 (gU_V ml_X11_169 im_yX11_ands se_yX11_ands ini_X11 cd_X11_ands) rfl rfl rfl (by decide +kernel) ⟨by dsimp only [DP]; omega, by dsimp only [DP]; omega⟩) t0 (by decide) rfl rfl rfl (Nat.le_of_ble_eq_true rfl) dX11_ors_1 ⟨Nat.le_of_ble_eq_true rfl, Nat.le_of_ble_eq_true rfl⟩ ?_
  exact w_X11_ors_h4 F hr hlk hkf_X11_ands hk0 hR_X11_ands t0 _ _ h
def f_X11_test_b184 (r_X11_ors : Mem → Nat → Option (Int32 × Mem)) (r_X11_test : Mem → Nat → Option (Int32 × Mem)) (a0 : Nat)  (s0 : Nat) (s1 : Int32) (M : Mem) : Option (Int32 × Mem) := (f_X11_tells M s0 s1).bind fun q => match q with | (r62, M63) => (some (0, M63))
def f_X11_test_b142 (r_X11_ors : Mem → Nat → Option (Int32 × Mem)) (r_X11_test : Mem → Nat → Option (Int32 × Mem)) (a0 : Nat)  (x1 : Int32) (M : Mem) : Option (Int32 × Mem) := (S_X11_sum DP (mU M a0 4 ((M a0 4) + 1)) a0).bind fun q => match q with | (r56, M57) => (if x1 = 60 then (f_X11_test_b184 r_X11_ors r_X11_test a0 a0 10030 M57) else (if x1 = 62 then (f_X11_test_b184 r_X11_ors r_X11_test a0 a0 10031 M57) else (f_X11_test_b184 r_X11_ors r_X11_test a0 a0 10032 M57)))
def f_X11_test (r_X11_ors : Mem → Nat → Option (Int32 × Mem)) (r_X11_test : Mem → Nat → Option (Int32 × Mem)) (M : Mem) (a0 : Nat) : Option (Int32 × Mem) := if (M a0 6) = 0 then ((f_X11_isWord M a0 14 15 20 0 0 0).bind fun q => match q with | (r2, M3) => (if r2 = 0 then ((f_X11_byteAt M3 a0 (M3 a0 4)).bind fun q => match q with | (r7, M8) => (if r7 = 91 then ((f_X11_opens M8 a0 1).bind fun q => match q with | (r32, M33) => ((r_X11_ors M33 a0).bind fun q => match q with | (r36, M37) => ((f_X11_sign M37 a0 93).bind fun q => match q with | (r40, M41) => (some (0, (mU M41 a0 5 ((M41 a0 5) - 1))))))) else ((S_X11_sum DP M8 a0).bind fun q => match q with | (r12, M13) => (if (M13 a0 6) = 0 then ((f_X11_blanks M13 a0).bind fun q => match q with | (r17, M18) => ((f_X11_byteAt M18 a0 (M18 a0 4)).bind fun q => match q with | (r21, M22) => (if r21 = 60 then (f_X11_test_b142 r_X11_ors r_X11_test a0 r21 M22) else (if r21 = 62 then (f_X11_test_b142 r_X11_ors r_X11_test a0 r21 M22) else (if r21 = 61 then (f_X11_test_b142 r_X11_ors r_X11_test a0 r21 M22) else ((f_X11_wrong M22 a0 1 (M22 a0 4)).bind fun q => match q with | (r28, M29) => (f_X11_test_b142 r_X11_ors r_X11_test a0 r21 M29))))))) else (some (0, M13)))))) else ((f_X11_opens M3 a0 3).bind fun q => match q with | (r44, M45) => ((r_X11_test M45 a0).bind fun q => match q with | (r48, M49) => ((f_X11_tells (mU M49 a0 5 ((M49 a0 5) - 1)) a0 10033).bind fun q => match q with | (r52, M53) => (some (0, M53))))))) else (some (0, M))
set_option maxHeartbeats 4000000 in
set_option maxRecDepth 100000 in
theorem w_X11_test_b184 {g : gT} {p : Program} {l : Launch} {e : Env} {s : State} {m : MethodId} {args : Array Value} {below : List Frame} {meth : Method} {c : Code} {z : Int32 × Mem} (F : Fx g p s m args c cX11_test 2 uX11_test RX11) (hr : meth.sig.returnType = none) (hlk : meth.locks = false) {k kf_X11_ors kf_X11_test : Nat} {r_X11_ors : Mem → Nat → Option (Int32 × Mem)} {r_X11_test : Mem → Nat → Option (Int32 × Mem)} {a0 : Nat} (hkf_X11_ors : kf_X11_ors + 1 ≤ k) (hkf_X11_test : kf_X11_test + 1 ≤ k) (hk0 : 69 ≤ k) (hR_X11_ors : ∀ (M : Mem) (b0 : Nat) (z : Int32 × Mem), Ty g 11 b0 → r_X11_ors M b0 = some z → Cn g l yX11_ors uX11_ors kf_X11_ors [.ref (gAd g b0)] M none z.2) (hR_X11_test : ∀ (M : Mem) (b0 : Nat) (z : Int32 × Mem), Ty g 11 b0 → r_X11_test M b0 = some z → Cn g l yX11_test uX11_test kf_X11_test [.ref (gAd g b0)] M none z.2) (t0 : Ty g 11 a0)   (s0 : Nat) (s1 : Int32) (M : Mem) (ts0 : Ty g 11 s0) (h : f_X11_test_b184 r_X11_ors r_X11_test a0 s0 s1 M = some z) : V g p l e ({ frames := k, cells := 0, slots := 0, locals := 40 * k } : Room) s m args below meth c 2 0 0 (MQ below (gQ g none z.2) args s 0 0 (gA g)) 184 [(0, .ref (gAd g a0))] [.int s1, .ref (gAd g s0)] M := by
  unfold f_X11_test_b184 at h
  obtain ⟨⟨r62, M63⟩, hz64, h⟩ := bd_some h
  dsimp only at h
  refine v_callVv (As := [.int s1]) (rest := []) F (c_X11_tells l F.2.2.1 ts0 hz64) (cwV 1 F.1.2.2.2.2 (gU_V ml_X11_117 im_yX11_tells se_yX11_tells ini_X11 cd_X11_tells) rfl rfl rfl (by decide +kernel) ⟨by dsimp only [DP]; omega, by dsimp only [DP]; omega⟩) ts0 (by decide) rfl rfl rfl (Nat.le_of_ble_eq_true rfl) dX11_test_184 ⟨Nat.le_of_ble_eq_true rfl, Nat.le_of_ble_eq_true rfl⟩ ?_
  cases h
  exact v_vret F hr hlk dX11_test_187
set_option maxHeartbeats 4000000 in
set_option maxRecDepth 100000 in
theorem w_X11_test_b142 {g : gT} {p : Program} {l : Launch} {e : Env} {s : State} {m : MethodId} {args : Array Value} {below : List Frame} {meth : Method} {c : Code} {z : Int32 × Mem} (F : Fx g p s m args c cX11_test 2 uX11_test RX11) (hr : meth.sig.returnType = none) (hlk : meth.locks = false) {k kf_X11_ors kf_X11_test : Nat} {r_X11_ors : Mem → Nat → Option (Int32 × Mem)} {r_X11_test : Mem → Nat → Option (Int32 × Mem)} {a0 : Nat} (hkf_X11_ors : kf_X11_ors + 1 ≤ k) (hkf_X11_test : kf_X11_test + 1 ≤ k) (hk0 : 69 ≤ k) (hR_X11_ors : ∀ (M : Mem) (b0 : Nat) (z : Int32 × Mem), Ty g 11 b0 → r_X11_ors M b0 = some z → Cn g l yX11_ors uX11_ors kf_X11_ors [.ref (gAd g b0)] M none z.2) (hR_X11_test : ∀ (M : Mem) (b0 : Nat) (z : Int32 × Mem), Ty g 11 b0 → r_X11_test M b0 = some z → Cn g l yX11_test uX11_test kf_X11_test [.ref (gAd g b0)] M none z.2) (t0 : Ty g 11 a0)   (x1 : Int32) (M : Mem)  (h : f_X11_test_b142 r_X11_ors r_X11_test a0 x1 M = some z) : V g p l e ({ frames := k, cells := 0, slots := 0, locals := 40 * k } : Room) s m args below meth c 2 0 0 (MQ below (gQ g none z.2) args s 0 0 (gA g)) 142 [(0, .ref (gAd g a0)), (1, .int x1)] [] M := by
  unfold f_X11_test_b142 at h
  refine v_aload_n F dX11_test_142 rfl 0 rfl ?_
  refine v_dup F dX11_test_143 rfl ?_
  refine v_getI (k := 4) F t0 (by decide) (inc inU_11) rfl rfl (by decide) (List.mem_cons_of_mem _ fl_X11_92) rfl dX11_test_144 ?_
  refine v_iconst (v := 1) F dX11_test_147 (by decide) ?_
  refine v_iadd F dX11_test_148 ?_
  refine v_put (k := 4) (ty := .int) F t0 (by decide) (inc inU_11) tyX11 tyX11_ok nmX11 rfl rfl (by decide) (List.mem_cons_of_mem _ fl_X11_92) rfl rfl (by decide +kernel) rfl rfl dX11_test_149 ?_
  refine v_aload_n F dX11_test_152 rfl 0 rfl ?_
  obtain ⟨⟨r56, M57⟩, hz58, h⟩ := bd_some h
  dsimp only at h
  refine v_callVv (As := []) (rest := []) F (cS_X11_sum l F.2.2.1 DP _ _ _ t0 hz58) (cwV 0 F.1.2.2.2.2 (gU_V ml_X11_151 im_yX11_sum se_yX11_sum ini_X11 cd_X11_sum) rfl rfl rfl (by decide +kernel) ⟨by dsimp only [DP]; omega, by dsimp only [DP]; omega⟩) t0 (by decide) rfl rfl rfl (Nat.le_of_ble_eq_true rfl) dX11_test_153 ⟨Nat.le_of_ble_eq_true rfl, Nat.le_of_ble_eq_true rfl⟩ ?_
  refine v_aload_n F dX11_test_156 rfl 0 rfl ?_
  refine v_iload_n F dX11_test_157 rfl 1 rfl ?_
  refine v_bipush (v := 60) F dX11_test_158 (by decide) ?_
  refine v_icmp_ne (tgt := 169) F dX11_test_160 (by decide) (fun hc60 => ?_) (fun hc60 => ?_)
  · rw [if_neg hc60] at h
    refine v_iload_n F dX11_test_169 rfl 1 rfl ?_
    refine v_bipush (v := 62) F dX11_test_170 (by decide) ?_
    refine v_icmp_ne (tgt := 181) F dX11_test_172 (by decide) (fun hc61 => ?_) (fun hc61 => ?_)
    · rw [if_neg hc61] at h
      refine v_sipush (v := 10032) F dX11_test_181 (by decide) ?_
      refine v_sub (fun ls h9 => lv_sub h9 [0] rfl) ?_
      exact w_X11_test_b184 F hr hlk hkf_X11_ors hkf_X11_test hk0 hR_X11_ors hR_X11_test t0 _ _ _ t0 h
    · rw [if_pos hc61] at h
      refine v_sipush (v := 10031) F dX11_test_175 (by decide) ?_
      refine v_goto (tgt := 184) F dX11_test_178 (by decide) ?_
      refine v_sub (fun ls h9 => lv_sub h9 [0] rfl) ?_
      exact w_X11_test_b184 F hr hlk hkf_X11_ors hkf_X11_test hk0 hR_X11_ors hR_X11_test t0 _ _ _ t0 h
  · rw [if_pos hc60] at h
    refine v_sipush (v := 10030) F dX11_test_163 (by decide) ?_
    refine v_goto (tgt := 184) F dX11_test_166 (by decide) ?_
    refine v_sub (fun ls h9 => lv_sub h9 [0] rfl) ?_
    exact w_X11_test_b184 F hr hlk hkf_X11_ors hkf_X11_test hk0 hR_X11_ors hR_X11_test t0 _ _ _ t0 h
set_option maxHeartbeats 4000000 in
set_option maxRecDepth 100000 in
theorem c_X11_test {g : gT} (l : Launch) (hok : gOK g) {k kf_X11_ors kf_X11_test : Nat} {r_X11_ors : Mem → Nat → Option (Int32 × Mem)} {r_X11_test : Mem → Nat → Option (Int32 × Mem)} {a0 : Nat} {M : Mem} {z : Int32 × Mem} (hkf_X11_ors : kf_X11_ors + 1 ≤ k) (hkf_X11_test : kf_X11_test + 1 ≤ k) (hk0 : 69 ≤ k) (hR_X11_ors : ∀ (M : Mem) (b0 : Nat) (z : Int32 × Mem), Ty g 11 b0 → r_X11_ors M b0 = some z → Cn g l yX11_ors uX11_ors kf_X11_ors [.ref (gAd g b0)] M none z.2) (hR_X11_test : ∀ (M : Mem) (b0 : Nat) (z : Int32 × Mem), Ty g 11 b0 → r_X11_test M b0 = some z → Cn g l yX11_test uX11_test kf_X11_test [.ref (gAd g b0)] M none z.2) (t0 : Ty g 11 a0) (h : f_X11_test r_X11_ors r_X11_test M a0 = some z) : Cn g l yX11_test uX11_test k [.ref (gAd g a0)] M none z.2 := by
  refine Cn.of (cc := cX11_test) (maxL := 2) (ret := none) hok (by decide) rfl (Nat.le_of_ble_eq_true rfl) (fun p e s m args below meth c F hr hlk => ?_)
  unfold f_X11_test at h
  show V g p l e ({ frames := k, cells := 0, slots := 0, locals := 40 * k } : Room) s m args below meth c 2 0 0 (MQ below (gQ g none z.2) args s 0 0 (gA g)) 0 [(0, .ref (gAd g a0))] [] M
  refine v_aload_n F dX11_test_0 rfl 0 rfl ?_
  refine v_getI (k := 6) F t0 (by decide) (inc inU_11) rfl rfl (by decide) (List.mem_cons_of_mem _ fl_X11_99) rfl dX11_test_1 ?_
  refine v_if_eq (tgt := 8) F dX11_test_4 (by decide) (fun hc1 => ?_) (fun hc1 => ?_)
  · rw [if_pos hc1] at h
    refine v_aload_n F dX11_test_8 rfl 0 rfl ?_
    refine v_bipush (v := 14) F dX11_test_9 (by decide) ?_
    refine v_bipush (v := 15) F dX11_test_11 (by decide) ?_
    refine v_bipush (v := 20) F dX11_test_13 (by decide) ?_
    refine v_iconst (v := 0) F dX11_test_15 (by decide) ?_
    refine v_iconst (v := 0) F dX11_test_16 (by decide) ?_
    refine v_iconst (v := 0) F dX11_test_17 (by decide) ?_
    obtain ⟨⟨r2, M3⟩, hz4, h⟩ := bd_some h
    dsimp only at h
    refine v_callVi (As := [.int 14, .int 15, .int 20, .int 0, .int 0, .int 0]) (rest := []) F (c_X11_isWord l F.2.2.1 t0 hz4) (cwV 6 F.1.2.2.2.2 (gU_V ml_X11_135 im_yX11_isWord se_yX11_isWord ini_X11 cd_X11_isWord) rfl rfl rfl (by decide +kernel) ⟨by dsimp only [DP]; omega, by dsimp only [DP]; omega⟩) t0 (by decide) rfl rfl rfl (Nat.le_of_ble_eq_true rfl) dX11_test_18 ⟨Nat.le_of_ble_eq_true rfl, Nat.le_of_ble_eq_true rfl⟩ ?_
    refine v_if_eq (tgt := 51) F dX11_test_21 (by decide) (fun hc6 => ?_) (fun hc6 => ?_)
    · rw [if_pos hc6] at h
      refine v_aload_n F dX11_test_51 rfl 0 rfl ?_
      refine v_aload_n F dX11_test_52 rfl 0 rfl ?_
      refine v_getI (k := 4) F t0 (by decide) (inc inU_11) rfl rfl (by decide) (List.mem_cons_of_mem _ fl_X11_92) rfl dX11_test_53 ?_
      obtain ⟨⟨r7, M8⟩, hz9, h⟩ := bd_some h
      dsimp only at h
      refine v_callVi (As := [.int (M3 a0 4)]) (rest := []) F (c_X11_byteAt l F.2.2.1 t0 hz9) (cwV 1 F.1.2.2.2.2 (gU_V ml_X11_95 im_yX11_byteAt se_yX11_byteAt ini_X11 cd_X11_byteAt) rfl rfl rfl (by decide +kernel) ⟨by dsimp only [DP]; omega, by dsimp only [DP]; omega⟩) t0 (by decide) rfl rfl rfl (Nat.le_of_ble_eq_true rfl) dX11_test_56 ⟨Nat.le_of_ble_eq_true rfl, Nat.le_of_ble_eq_true rfl⟩ ?_
      refine v_bipush (v := 91) F dX11_test_59 (by decide) ?_
      refine v_icmp_ne (tgt := 90) F dX11_test_61 (by decide) (fun hc11 => ?_) (fun hc11 => ?_)
      · rw [if_neg hc11] at h
        refine v_aload_n F dX11_test_90 rfl 0 rfl ?_
        obtain ⟨⟨r12, M13⟩, hz14, h⟩ := bd_some h
        dsimp only at h
        refine v_callVv (As := []) (rest := []) F (cS_X11_sum l F.2.2.1 DP _ _ _ t0 hz14) (cwV 0 F.1.2.2.2.2 (gU_V ml_X11_151 im_yX11_sum se_yX11_sum ini_X11 cd_X11_sum) rfl rfl rfl (by decide +kernel) ⟨by dsimp only [DP]; omega, by dsimp only [DP]; omega⟩) t0 (by decide) rfl rfl rfl (Nat.le_of_ble_eq_true rfl) dX11_test_91 ⟨Nat.le_of_ble_eq_true rfl, Nat.le_of_ble_eq_true rfl⟩ ?_
        refine v_aload_n F dX11_test_94 rfl 0 rfl ?_
        refine v_getI (k := 6) F t0 (by decide) (inc inU_11) rfl rfl (by decide) (List.mem_cons_of_mem _ fl_X11_99) rfl dX11_test_95 ?_
        refine v_if_eq (tgt := 102) F dX11_test_98 (by decide) (fun hc16 => ?_) (fun hc16 => ?_)
        · rw [if_pos hc16] at h
          refine v_aload_n F dX11_test_102 rfl 0 rfl ?_
          obtain ⟨⟨r17, M18⟩, hz19, h⟩ := bd_some h
          dsimp only at h
          refine v_callVv (As := []) (rest := []) F (c_X11_blanks l F.2.2.1 t0 hz19) (cwV 0 F.1.2.2.2.2 (gU_V ml_X11_121 im_yX11_blanks se_yX11_blanks ini_X11 cd_X11_blanks) rfl rfl rfl (by decide +kernel) ⟨by dsimp only [DP]; omega, by dsimp only [DP]; omega⟩) t0 (by decide) rfl rfl rfl (Nat.le_of_ble_eq_true rfl) dX11_test_103 ⟨Nat.le_of_ble_eq_true rfl, Nat.le_of_ble_eq_true rfl⟩ ?_
          refine v_aload_n F dX11_test_106 rfl 0 rfl ?_
          refine v_aload_n F dX11_test_107 rfl 0 rfl ?_
          refine v_getI (k := 4) F t0 (by decide) (inc inU_11) rfl rfl (by decide) (List.mem_cons_of_mem _ fl_X11_92) rfl dX11_test_108 ?_
          obtain ⟨⟨r21, M22⟩, hz23, h⟩ := bd_some h
          dsimp only at h
          refine v_callVi (As := [.int (M18 a0 4)]) (rest := []) F (c_X11_byteAt l F.2.2.1 t0 hz23) (cwV 1 F.1.2.2.2.2 (gU_V ml_X11_95 im_yX11_byteAt se_yX11_byteAt ini_X11 cd_X11_byteAt) rfl rfl rfl (by decide +kernel) ⟨by dsimp only [DP]; omega, by dsimp only [DP]; omega⟩) t0 (by decide) rfl rfl rfl (Nat.le_of_ble_eq_true rfl) dX11_test_111 ⟨Nat.le_of_ble_eq_true rfl, Nat.le_of_ble_eq_true rfl⟩ ?_
          refine v_istore_n (lv' := [(1, .int r21), (0, .ref (gAd g a0))]) F dX11_test_114 rfl (by decide) rfl ?_
          refine v_iload_n F dX11_test_115 rfl 0 rfl ?_
          refine v_bipush (v := 60) F dX11_test_116 (by decide) ?_
          refine v_icmp_eq (tgt := 142) F dX11_test_118 (by decide) (fun hc25 => ?_) (fun hc25 => ?_)
          · rw [if_pos hc25] at h
            refine v_sub (fun ls h9 => lv_sub h9 [1, 0] rfl) ?_
            exact w_X11_test_b142 F hr hlk hkf_X11_ors hkf_X11_test hk0 hR_X11_ors hR_X11_test t0 _ _ h
          · rw [if_neg hc25] at h
            refine v_iload_n F dX11_test_121 rfl 0 rfl ?_
            refine v_bipush (v := 62) F dX11_test_122 (by decide) ?_
            refine v_icmp_eq (tgt := 142) F dX11_test_124 (by decide) (fun hc26 => ?_) (fun hc26 => ?_)
            · rw [if_pos hc26] at h
              refine v_sub (fun ls h9 => lv_sub h9 [1, 0] rfl) ?_
              exact w_X11_test_b142 F hr hlk hkf_X11_ors hkf_X11_test hk0 hR_X11_ors hR_X11_test t0 _ _ h
            · rw [if_neg hc26] at h
              refine v_iload_n F dX11_test_127 rfl 0 rfl ?_
              refine v_bipush (v := 61) F dX11_test_128 (by decide) ?_
              refine v_icmp_eq (tgt := 142) F dX11_test_130 (by decide) (fun hc27 => ?_) (fun hc27 => ?_)
              · rw [if_pos hc27] at h
                refine v_sub (fun ls h9 => lv_sub h9 [1, 0] rfl) ?_
                exact w_X11_test_b142 F hr hlk hkf_X11_ors hkf_X11_test hk0 hR_X11_ors hR_X11_test t0 _ _ h
              · rw [if_neg hc27] at h
                refine v_aload_n F dX11_test_133 rfl 1 rfl ?_
                refine v_iconst (v := 1) F dX11_test_134 (by decide) ?_
                refine v_aload_n F dX11_test_135 rfl 1 rfl ?_
                refine v_getI (k := 4) F t0 (by decide) (inc inU_11) rfl rfl (by decide) (List.mem_cons_of_mem _ fl_X11_92) rfl dX11_test_136 ?_
                obtain ⟨⟨r28, M29⟩, hz30, h⟩ := bd_some h
                dsimp only at h
                refine v_callVv (As := [.int 1, .int (M22 a0 4)]) (rest := []) F (c_X11_wrong l F.2.2.1 t0 hz30) (cwV 2 F.1.2.2.2.2 (gU_V ml_X11_113 im_yX11_wrong se_yX11_wrong ini_X11 cd_X11_wrong) rfl rfl rfl (by decide +kernel) ⟨by dsimp only [DP]; omega, by dsimp only [DP]; omega⟩) t0 (by decide) rfl rfl rfl (Nat.le_of_ble_eq_true rfl) dX11_test_139 ⟨Nat.le_of_ble_eq_true rfl, Nat.le_of_ble_eq_true rfl⟩ ?_
                refine v_sub (fun ls h9 => lv_sub h9 [1, 0] rfl) ?_
                exact w_X11_test_b142 F hr hlk hkf_X11_ors hkf_X11_test hk0 hR_X11_ors hR_X11_test t0 _ _ h
        · rw [if_neg hc16] at h
          cases h
          exact v_vret F hr hlk dX11_test_101
      · rw [if_pos hc11] at h
        refine v_aload_n F dX11_test_64 rfl 0 rfl ?_
        refine v_iconst (v := 1) F dX11_test_65 (by decide) ?_
        obtain ⟨⟨r32, M33⟩, hz34, h⟩ := bd_some h
        dsimp only at h
        refine v_callVv (As := [.int 1]) (rest := []) F (c_X11_opens l F.2.2.1 t0 hz34) (cwV 1 F.1.2.2.2.2 (gU_V ml_X11_148 im_yX11_opens se_yX11_opens ini_X11 cd_X11_opens) rfl rfl rfl (by decide +kernel) ⟨by dsimp only [DP]; omega, by dsimp only [DP]; omega⟩) t0 (by decide) rfl rfl rfl (Nat.le_of_ble_eq_true rfl) dX11_test_66 ⟨Nat.le_of_ble_eq_true rfl, Nat.le_of_ble_eq_true rfl⟩ ?_
        refine v_aload_n F dX11_test_69 rfl 0 rfl ?_
        obtain ⟨⟨r36, M37⟩, hz38, h⟩ := bd_some h
        dsimp only at h
        refine v_callVv (As := []) (rest := []) F (hR_X11_ors _ _ _ t0 hz38) (cwV 0 F.1.2.2.2.2 (gU_V ml_X11_166 im_yX11_ors se_yX11_ors ini_X11 cd_X11_ors) rfl rfl rfl (by decide +kernel) ⟨by dsimp only [DP]; omega, by dsimp only [DP]; omega⟩) t0 (by decide) rfl rfl rfl (Nat.le_of_ble_eq_true rfl) dX11_test_70 ⟨Nat.le_of_ble_eq_true rfl, Nat.le_of_ble_eq_true rfl⟩ ?_
        refine v_aload_n F dX11_test_73 rfl 0 rfl ?_
        refine v_bipush (v := 93) F dX11_test_74 (by decide) ?_
        obtain ⟨⟨r40, M41⟩, hz42, h⟩ := bd_some h
        dsimp only at h
        refine v_callVv (As := [.int 93]) (rest := []) F (c_X11_sign l F.2.2.1 t0 hz42) (cwV 1 F.1.2.2.2.2 (gU_V ml_X11_154 im_yX11_sign se_yX11_sign ini_X11 cd_X11_sign) rfl rfl rfl (by decide +kernel) ⟨by dsimp only [DP]; omega, by dsimp only [DP]; omega⟩) t0 (by decide) rfl rfl rfl (Nat.le_of_ble_eq_true rfl) dX11_test_76 ⟨Nat.le_of_ble_eq_true rfl, Nat.le_of_ble_eq_true rfl⟩ ?_
        refine v_aload_n F dX11_test_79 rfl 0 rfl ?_
        refine v_dup F dX11_test_80 rfl ?_
        refine v_getI (k := 5) F t0 (by decide) (inc inU_11) rfl rfl (by decide) (List.mem_cons_of_mem _ fl_X11_132) rfl dX11_test_81 ?_
        refine v_iconst (v := 1) F dX11_test_84 (by decide) ?_
        refine v_isub F dX11_test_85 ?_
        refine v_put (k := 5) (ty := .int) F t0 (by decide) (inc inU_11) tyX11 tyX11_ok nmX11 rfl rfl (by decide) (List.mem_cons_of_mem _ fl_X11_132) rfl rfl (by decide +kernel) rfl rfl dX11_test_86 ?_
        cases h
        exact v_vret F hr hlk dX11_test_89
    · rw [if_neg hc6] at h
      refine v_aload_n F dX11_test_24 rfl 0 rfl ?_
      refine v_iconst (v := 3) F dX11_test_25 (by decide) ?_
      obtain ⟨⟨r44, M45⟩, hz46, h⟩ := bd_some h
      dsimp only at h
      refine v_callVv (As := [.int 3]) (rest := []) F (c_X11_opens l F.2.2.1 t0 hz46) (cwV 1 F.1.2.2.2.2 (gU_V ml_X11_148 im_yX11_opens se_yX11_opens ini_X11 cd_X11_opens) rfl rfl rfl (by decide +kernel) ⟨by dsimp only [DP]; omega, by dsimp only [DP]; omega⟩) t0 (by decide) rfl rfl rfl (Nat.le_of_ble_eq_true rfl) dX11_test_26 ⟨Nat.le_of_ble_eq_true rfl, Nat.le_of_ble_eq_true rfl⟩ ?_
      refine v_aload_n F dX11_test_29 rfl 0 rfl ?_
      obtain ⟨⟨r48, M49⟩, hz50, h⟩ := bd_some h
      dsimp only at h
      refine v_callVv (As := []) (rest := []) F (hR_X11_test _ _ _ t0 hz50) (cwV 0 F.1.2.2.2.2 (gU_V ml_X11_163 im_yX11_test se_yX11_test ini_X11 cd_X11_test) rfl rfl rfl (by decide +kernel) ⟨by dsimp only [DP]; omega, by dsimp only [DP]; omega⟩) t0 (by decide) rfl rfl rfl (Nat.le_of_ble_eq_true rfl) dX11_test_30 ⟨Nat.le_of_ble_eq_true rfl, Nat.le_of_ble_eq_true rfl⟩ ?_
      refine v_aload_n F dX11_test_33 rfl 0 rfl ?_
      refine v_dup F dX11_test_34 rfl ?_
      refine v_getI (k := 5) F t0 (by decide) (inc inU_11) rfl rfl (by decide) (List.mem_cons_of_mem _ fl_X11_132) rfl dX11_test_35 ?_
      refine v_iconst (v := 1) F dX11_test_38 (by decide) ?_
      refine v_isub F dX11_test_39 ?_
      refine v_put (k := 5) (ty := .int) F t0 (by decide) (inc inU_11) tyX11 tyX11_ok nmX11 rfl rfl (by decide) (List.mem_cons_of_mem _ fl_X11_132) rfl rfl (by decide +kernel) rfl rfl dX11_test_40 ?_
      refine v_aload_n F dX11_test_43 rfl 0 rfl ?_
      refine v_sipush (v := 10033) F dX11_test_44 (by decide) ?_
      obtain ⟨⟨r52, M53⟩, hz54, h⟩ := bd_some h
      dsimp only at h
      refine v_callVv (As := [.int 10033]) (rest := []) F (c_X11_tells l F.2.2.1 t0 hz54) (cwV 1 F.1.2.2.2.2 (gU_V ml_X11_117 im_yX11_tells se_yX11_tells ini_X11 cd_X11_tells) rfl rfl rfl (by decide +kernel) ⟨by dsimp only [DP]; omega, by dsimp only [DP]; omega⟩) t0 (by decide) rfl rfl rfl (Nat.le_of_ble_eq_true rfl) dX11_test_47 ⟨Nat.le_of_ble_eq_true rfl, Nat.le_of_ble_eq_true rfl⟩ ?_
      cases h
      exact v_vret F hr hlk dX11_test_50
  · rw [if_neg hc1] at h
    cases h
    exact v_vret F hr hlk dX11_test_7
def S_X11_test : Nat → Mem → Nat → Option (Int32 × Mem)
  | 0 => fun _ _ => none
  | d + 1 => f_X11_test (f_X11_ors (f_X11_ands (S_X11_test d))) (S_X11_test d)
theorem cSd_X11_test {g : gT} (l : Launch) (hok : gOK g) : ∀ (d : Nat) (M : Mem) (a0 : Nat) (z : Int32 × Mem), Ty g 11 a0 → S_X11_test d M a0 = some z → Cn g l yX11_test uX11_test (68 + 3 * d) [.ref (gAd g a0)] M none z.2 := by
  intro d
  induction d with
  | zero => intro M a0 z _ h; cases h
  | succ d ih =>
    intro M a0 z t0 h
    exact c_X11_test l hok (k := 68 + 3 * (d + 1)) (kf_X11_ors := 68 + 3 * d + 2) (kf_X11_test := 68 + 3 * d) (by omega) (by omega) (by omega) (fun M b0 z t0 h => c_X11_ors l hok (k := 68 + 3 * d + 2) (kf_X11_ands := 68 + 3 * d + 1) (by omega) (by omega) (fun M b0 z t0 h => c_X11_ands l hok (k := 68 + 3 * d + 1) (kf_X11_test := 68 + 3 * d) (by omega) (by omega) ih t0 h) t0 h) ih t0 h
def S_X11_ors (d : Nat) : Mem → Nat → Option (Int32 × Mem) := f_X11_ors (f_X11_ands (S_X11_test d))
theorem cS_X11_ors {g : gT} (l : Launch) (hok : gOK g) (d : Nat) (M : Mem) (a0 : Nat) (z : Int32 × Mem) (t0 : Ty g 11 a0) (h : S_X11_ors d M a0 = some z) : Cn g l yX11_ors uX11_ors (70 + 3 * d) [.ref (gAd g a0)] M none z.2 := c_X11_ors l hok (k := 70 + 3 * d) (kf_X11_ands := 69 + 3 * d) (by omega) (by omega) (fun M b0 z t0 h => c_X11_ands l hok (k := 69 + 3 * d) (kf_X11_test := 68 + 3 * d) (by omega) (by omega) (cSd_X11_test l hok d) t0 h) t0 h

def f_X11_clause_b165 (a0 : Nat) (i1 : Int32)  (s0 : Nat) (s1 : Int32) (M : Mem) : Option (Int32 × Mem) := (f_X11_tells M s0 s1).bind fun q => match q with | (r46, M47) => (some (0, M47))
def f_X11_clause_b124 (a0 : Nat) (i1 : Int32)  (x2 : Int32) (x4 : Int32) (M : Mem) : Option (Int32 × Mem) := (f_X11_sign M a0 59).bind fun q => match q with | (r39, M40) => (if x4 = 0 then (if x2 = 0 then (f_X11_clause_b165 a0 i1 a0 10041 M40) else (f_X11_clause_b165 a0 i1 a0 10040 M40)) else (if x2 = 0 then (f_X11_clause_b165 a0 i1 a0 10043 M40) else (f_X11_clause_b165 a0 i1 a0 10042 M40)))
def f_X11_clause_b109 (a0 : Nat) (i1 : Int32)  (s0 : Int32) (x2 : Int32) (M : Mem) : Option (Int32 × Mem) := if s0 = 0 then (f_X11_clause_b124 a0 i1 x2 s0 M) else ((f_X11_skipWord M a0).bind fun q => match q with | (r31, M32) => ((S_X11_ors DP M32 a0).bind fun q => match q with | (r35, M36) => (f_X11_clause_b124 a0 i1 x2 s0 M36)))
def f_X11_clause_b108 (a0 : Nat) (i1 : Int32)  (x2 : Int32) (M : Mem) : Option (Int32 × Mem) := f_X11_clause_b109 a0 i1 0 x2 M
def f_X11_clause_b66 (a0 : Nat) (i1 : Int32)  (x2 : Int32) (M : Mem) : Option (Int32 × Mem) := if (M a0 6) = 0 then ((f_X11_skipWord M a0).bind fun q => match q with | (r16, M17) => ((S_X11_sum DP M17 a0).bind fun q => match q with | (r20, M21) => (if (M21 a0 6) = 0 then ((f_X11_isWord M21 a0 9 6 0 0 0 0).bind fun q => match q with | (r25, M26) => (if r25 = 0 then (f_X11_clause_b108 a0 i1 x2 M26) else (f_X11_clause_b109 a0 i1 1 x2 M26))) else (f_X11_clause_b108 a0 i1 x2 M21)))) else (some (0, M))
def f_X11_clause_b51 (a0 : Nat) (i1 : Int32)  (x2 : Int32) (M : Mem) : Option (Int32 × Mem) := if i1 = 12 then ((f_X11_wrong M a0 3 (M a0 4)).bind fun q => match q with | (r51, M52) => (f_X11_clause_b66 a0 i1 x2 M52)) else (f_X11_clause_b66 a0 i1 x2 M)
def f_X11_clause  (M : Mem) (a0 : Nat) (i1 : Int32) : Option (Int32 × Mem) := (f_X11_isWord M a0 12 9 6 20 0 0).bind fun q => match q with | (r1, M2) => ((f_X11_isWord M2 a0 20 23 9 19 20 0).bind fun q => match q with | (r5, M6) => (if r1 = 0 then (if r5 = 0 then ((f_X11_wrong M6 a0 1 (M6 a0 4)).bind fun q => match q with | (r11, M12) => (f_X11_clause_b66 a0 i1 r1 M12)) else (f_X11_clause_b51 a0 i1 r1 M6)) else (f_X11_clause_b51 a0 i1 r1 M6)))
set_option maxHeartbeats 4000000 in
set_option maxRecDepth 100000 in
theorem w_X11_clause_b165 {g : gT} {p : Program} {l : Launch} {e : Env} {s : State} {m : MethodId} {args : Array Value} {below : List Frame} {meth : Method} {c : Code} {z : Int32 × Mem} (F : Fx g p s m args c cX11_clause 5 uX11_clause RX11) (hr : meth.sig.returnType = none) (hlk : meth.locks = false)  {a0 : Nat} {i1 : Int32} (t0 : Ty g 11 a0)   (s0 : Nat) (s1 : Int32) (M : Mem) (ts0 : Ty g 11 s0) (h : f_X11_clause_b165 a0 i1 s0 s1 M = some z) : V g p l e ({ frames := 131, cells := 0, slots := 0, locals := 40 * 131 } : Room) s m args below meth c 5 0 0 (MQ below (gQ g none z.2) args s 0 0 (gA g)) 165 [(0, .ref (gAd g a0)), (1, .int i1)] [.int s1, .ref (gAd g s0)] M := by
  unfold f_X11_clause_b165 at h
  obtain ⟨⟨r46, M47⟩, hz48, h⟩ := bd_some h
  dsimp only at h
  refine v_callVv (As := [.int s1]) (rest := []) F (c_X11_tells l F.2.2.1 ts0 hz48) (cwV 1 F.1.2.2.2.2 (gU_V ml_X11_117 im_yX11_tells se_yX11_tells ini_X11 cd_X11_tells) rfl rfl rfl (by decide +kernel) ⟨Nat.le_of_ble_eq_true rfl, Nat.le_of_ble_eq_true rfl⟩) ts0 (by decide) rfl rfl rfl (Nat.le_of_ble_eq_true rfl) dX11_clause_165 ⟨Nat.le_of_ble_eq_true rfl, Nat.le_of_ble_eq_true rfl⟩ ?_
  cases h
  exact v_vret F hr hlk dX11_clause_168
set_option maxHeartbeats 4000000 in
set_option maxRecDepth 100000 in
theorem w_X11_clause_b124 {g : gT} {p : Program} {l : Launch} {e : Env} {s : State} {m : MethodId} {args : Array Value} {below : List Frame} {meth : Method} {c : Code} {z : Int32 × Mem} (F : Fx g p s m args c cX11_clause 5 uX11_clause RX11) (hr : meth.sig.returnType = none) (hlk : meth.locks = false)  {a0 : Nat} {i1 : Int32} (t0 : Ty g 11 a0)   (x2 : Int32) (x4 : Int32) (M : Mem)  (h : f_X11_clause_b124 a0 i1 x2 x4 M = some z) : V g p l e ({ frames := 131, cells := 0, slots := 0, locals := 40 * 131 } : Room) s m args below meth c 5 0 0 (MQ below (gQ g none z.2) args s 0 0 (gA g)) 124 [(0, .ref (gAd g a0)), (1, .int i1), (2, .int x2), (4, .int x4)] [] M := by
  unfold f_X11_clause_b124 at h
  refine v_aload_n F dX11_clause_124 rfl 0 rfl ?_
  refine v_bipush (v := 59) F dX11_clause_125 (by decide) ?_
  obtain ⟨⟨r39, M40⟩, hz41, h⟩ := bd_some h
  dsimp only at h
  refine v_callVv (As := [.int 59]) (rest := []) F (c_X11_sign l F.2.2.1 t0 hz41) (cwV 1 F.1.2.2.2.2 (gU_V ml_X11_154 im_yX11_sign se_yX11_sign ini_X11 cd_X11_sign) rfl rfl rfl (by decide +kernel) ⟨Nat.le_of_ble_eq_true rfl, Nat.le_of_ble_eq_true rfl⟩) t0 (by decide) rfl rfl rfl (Nat.le_of_ble_eq_true rfl) dX11_clause_127 ⟨Nat.le_of_ble_eq_true rfl, Nat.le_of_ble_eq_true rfl⟩ ?_
  refine v_aload_n F dX11_clause_130 rfl 0 rfl ?_
  refine v_iload F dX11_clause_131 3 rfl ?_
  refine v_if_eq (tgt := 152) F dX11_clause_133 (by decide) (fun hc43 => ?_) (fun hc43 => ?_)
  · rw [if_pos hc43] at h
    refine v_iload_n F dX11_clause_152 rfl 2 rfl ?_
    refine v_if_eq (tgt := 162) F dX11_clause_153 (by decide) (fun hc44 => ?_) (fun hc44 => ?_)
    · rw [if_pos hc44] at h
      refine v_sipush (v := 10041) F dX11_clause_162 (by decide) ?_
      refine v_sub (fun ls h9 => lv_sub h9 [0, 1] rfl) ?_
      exact w_X11_clause_b165 F hr hlk t0 _ _ _ t0 h
    · rw [if_neg hc44] at h
      refine v_sipush (v := 10040) F dX11_clause_156 (by decide) ?_
      refine v_goto (tgt := 165) F dX11_clause_159 (by decide) ?_
      refine v_sub (fun ls h9 => lv_sub h9 [0, 1] rfl) ?_
      exact w_X11_clause_b165 F hr hlk t0 _ _ _ t0 h
  · rw [if_neg hc43] at h
    refine v_iload_n F dX11_clause_136 rfl 2 rfl ?_
    refine v_if_eq (tgt := 146) F dX11_clause_137 (by decide) (fun hc45 => ?_) (fun hc45 => ?_)
    · rw [if_pos hc45] at h
      refine v_sipush (v := 10043) F dX11_clause_146 (by decide) ?_
      refine v_goto (tgt := 165) F dX11_clause_149 (by decide) ?_
      refine v_sub (fun ls h9 => lv_sub h9 [0, 1] rfl) ?_
      exact w_X11_clause_b165 F hr hlk t0 _ _ _ t0 h
    · rw [if_neg hc45] at h
      refine v_sipush (v := 10042) F dX11_clause_140 (by decide) ?_
      refine v_goto (tgt := 165) F dX11_clause_143 (by decide) ?_
      refine v_sub (fun ls h9 => lv_sub h9 [0, 1] rfl) ?_
      exact w_X11_clause_b165 F hr hlk t0 _ _ _ t0 h
set_option maxHeartbeats 4000000 in
set_option maxRecDepth 100000 in
theorem w_X11_clause_b109 {g : gT} {p : Program} {l : Launch} {e : Env} {s : State} {m : MethodId} {args : Array Value} {below : List Frame} {meth : Method} {c : Code} {z : Int32 × Mem} (F : Fx g p s m args c cX11_clause 5 uX11_clause RX11) (hr : meth.sig.returnType = none) (hlk : meth.locks = false)  {a0 : Nat} {i1 : Int32} (t0 : Ty g 11 a0)   (s0 : Int32) (x2 : Int32) (M : Mem)  (h : f_X11_clause_b109 a0 i1 s0 x2 M = some z) : V g p l e ({ frames := 131, cells := 0, slots := 0, locals := 40 * 131 } : Room) s m args below meth c 5 0 0 (MQ below (gQ g none z.2) args s 0 0 (gA g)) 109 [(0, .ref (gAd g a0)), (1, .int i1), (2, .int x2)] [.int s0] M := by
  unfold f_X11_clause_b109 at h
  refine v_istore (lv' := [(4, .int s0), (0, .ref (gAd g a0)), (1, .int i1), (2, .int x2)]) F dX11_clause_109 (by decide) rfl ?_
  refine v_iload F dX11_clause_111 0 rfl ?_
  refine v_if_eq (tgt := 124) F dX11_clause_113 (by decide) (fun hc30 => ?_) (fun hc30 => ?_)
  · rw [if_pos hc30] at h
    refine v_sub (fun ls h9 => lv_sub h9 [1, 2, 3, 0] rfl) ?_
    exact w_X11_clause_b124 F hr hlk t0 _ _ _ h
  · rw [if_neg hc30] at h
    refine v_aload_n F dX11_clause_116 rfl 1 rfl ?_
    obtain ⟨⟨r31, M32⟩, hz33, h⟩ := bd_some h
    dsimp only at h
    refine v_callVv (As := []) (rest := []) F (c_X11_skipWord l F.2.2.1 t0 hz33) (cwV 0 F.1.2.2.2.2 (gU_V ml_X11_145 im_yX11_skipWord se_yX11_skipWord ini_X11 cd_X11_skipWord) rfl rfl rfl (by decide +kernel) ⟨Nat.le_of_ble_eq_true rfl, Nat.le_of_ble_eq_true rfl⟩) t0 (by decide) rfl rfl rfl (Nat.le_of_ble_eq_true rfl) dX11_clause_117 ⟨Nat.le_of_ble_eq_true rfl, Nat.le_of_ble_eq_true rfl⟩ ?_
    refine v_aload_n F dX11_clause_120 rfl 1 rfl ?_
    obtain ⟨⟨r35, M36⟩, hz37, h⟩ := bd_some h
    dsimp only at h
    refine v_callVv (As := []) (rest := []) F (cS_X11_ors l F.2.2.1 DP _ _ _ t0 hz37) (cwV 0 F.1.2.2.2.2 (gU_V ml_X11_166 im_yX11_ors se_yX11_ors ini_X11 cd_X11_ors) rfl rfl rfl (by decide +kernel) ⟨Nat.le_of_ble_eq_true rfl, Nat.le_of_ble_eq_true rfl⟩) t0 (by decide) rfl rfl rfl (Nat.le_of_ble_eq_true rfl) dX11_clause_121 ⟨Nat.le_of_ble_eq_true rfl, Nat.le_of_ble_eq_true rfl⟩ ?_
    refine v_sub (fun ls h9 => lv_sub h9 [1, 2, 3, 0] rfl) ?_
    exact w_X11_clause_b124 F hr hlk t0 _ _ _ h
set_option maxHeartbeats 4000000 in
set_option maxRecDepth 100000 in
theorem w_X11_clause_b108 {g : gT} {p : Program} {l : Launch} {e : Env} {s : State} {m : MethodId} {args : Array Value} {below : List Frame} {meth : Method} {c : Code} {z : Int32 × Mem} (F : Fx g p s m args c cX11_clause 5 uX11_clause RX11) (hr : meth.sig.returnType = none) (hlk : meth.locks = false)  {a0 : Nat} {i1 : Int32} (t0 : Ty g 11 a0)   (x2 : Int32) (M : Mem)  (h : f_X11_clause_b108 a0 i1 x2 M = some z) : V g p l e ({ frames := 131, cells := 0, slots := 0, locals := 40 * 131 } : Room) s m args below meth c 5 0 0 (MQ below (gQ g none z.2) args s 0 0 (gA g)) 108 [(0, .ref (gAd g a0)), (1, .int i1), (2, .int x2)] [] M := by
  unfold f_X11_clause_b108 at h
  refine v_iconst (v := 0) F dX11_clause_108 (by decide) ?_
  exact w_X11_clause_b109 F hr hlk t0 _ _ _ h
set_option maxHeartbeats 4000000 in
set_option maxRecDepth 100000 in
theorem w_X11_clause_b66 {g : gT} {p : Program} {l : Launch} {e : Env} {s : State} {m : MethodId} {args : Array Value} {below : List Frame} {meth : Method} {c : Code} {z : Int32 × Mem} (F : Fx g p s m args c cX11_clause 5 uX11_clause RX11) (hr : meth.sig.returnType = none) (hlk : meth.locks = false)  {a0 : Nat} {i1 : Int32} (t0 : Ty g 11 a0)   (x2 : Int32) (M : Mem)  (h : f_X11_clause_b66 a0 i1 x2 M = some z) : V g p l e ({ frames := 131, cells := 0, slots := 0, locals := 40 * 131 } : Room) s m args below meth c 5 0 0 (MQ below (gQ g none z.2) args s 0 0 (gA g)) 66 [(0, .ref (gAd g a0)), (1, .int i1), (2, .int x2)] [] M := by
  unfold f_X11_clause_b66 at h
  refine v_aload_n F dX11_clause_66 rfl 0 rfl ?_
  refine v_getI (k := 6) F t0 (by decide) (inc inU_11) rfl rfl (by decide) (List.mem_cons_of_mem _ fl_X11_99) rfl dX11_clause_67 ?_
  refine v_if_eq (tgt := 74) F dX11_clause_70 (by decide) (fun hc15 => ?_) (fun hc15 => ?_)
  · rw [if_pos hc15] at h
    refine v_aload_n F dX11_clause_74 rfl 0 rfl ?_
    obtain ⟨⟨r16, M17⟩, hz18, h⟩ := bd_some h
    dsimp only at h
    refine v_callVv (As := []) (rest := []) F (c_X11_skipWord l F.2.2.1 t0 hz18) (cwV 0 F.1.2.2.2.2 (gU_V ml_X11_145 im_yX11_skipWord se_yX11_skipWord ini_X11 cd_X11_skipWord) rfl rfl rfl (by decide +kernel) ⟨Nat.le_of_ble_eq_true rfl, Nat.le_of_ble_eq_true rfl⟩) t0 (by decide) rfl rfl rfl (Nat.le_of_ble_eq_true rfl) dX11_clause_75 ⟨Nat.le_of_ble_eq_true rfl, Nat.le_of_ble_eq_true rfl⟩ ?_
    refine v_aload_n F dX11_clause_78 rfl 0 rfl ?_
    obtain ⟨⟨r20, M21⟩, hz22, h⟩ := bd_some h
    dsimp only at h
    refine v_callVv (As := []) (rest := []) F (cS_X11_sum l F.2.2.1 DP _ _ _ t0 hz22) (cwV 0 F.1.2.2.2.2 (gU_V ml_X11_151 im_yX11_sum se_yX11_sum ini_X11 cd_X11_sum) rfl rfl rfl (by decide +kernel) ⟨Nat.le_of_ble_eq_true rfl, Nat.le_of_ble_eq_true rfl⟩) t0 (by decide) rfl rfl rfl (Nat.le_of_ble_eq_true rfl) dX11_clause_79 ⟨Nat.le_of_ble_eq_true rfl, Nat.le_of_ble_eq_true rfl⟩ ?_
    refine v_aload_n F dX11_clause_82 rfl 0 rfl ?_
    refine v_getI (k := 6) F t0 (by decide) (inc inU_11) rfl rfl (by decide) (List.mem_cons_of_mem _ fl_X11_99) rfl dX11_clause_83 ?_
    refine v_if_ne (tgt := 108) F dX11_clause_86 (by decide) (fun hc24 => ?_) (fun hc24 => ?_)
    · rw [if_neg hc24] at h
      exact w_X11_clause_b108 F hr hlk t0 _ _ h
    · rw [if_pos hc24] at h
      refine v_aload_n F dX11_clause_89 rfl 0 rfl ?_
      refine v_bipush (v := 9) F dX11_clause_90 (by decide) ?_
      refine v_bipush (v := 6) F dX11_clause_92 (by decide) ?_
      refine v_iconst (v := 0) F dX11_clause_94 (by decide) ?_
      refine v_iconst (v := 0) F dX11_clause_95 (by decide) ?_
      refine v_iconst (v := 0) F dX11_clause_96 (by decide) ?_
      refine v_iconst (v := 0) F dX11_clause_97 (by decide) ?_
      obtain ⟨⟨r25, M26⟩, hz27, h⟩ := bd_some h
      dsimp only at h
      refine v_callVi (As := [.int 9, .int 6, .int 0, .int 0, .int 0, .int 0]) (rest := []) F (c_X11_isWord l F.2.2.1 t0 hz27) (cwV 6 F.1.2.2.2.2 (gU_V ml_X11_135 im_yX11_isWord se_yX11_isWord ini_X11 cd_X11_isWord) rfl rfl rfl (by decide +kernel) ⟨Nat.le_of_ble_eq_true rfl, Nat.le_of_ble_eq_true rfl⟩) t0 (by decide) rfl rfl rfl (Nat.le_of_ble_eq_true rfl) dX11_clause_98 ⟨Nat.le_of_ble_eq_true rfl, Nat.le_of_ble_eq_true rfl⟩ ?_
      refine v_if_eq (tgt := 108) F dX11_clause_101 (by decide) (fun hc29 => ?_) (fun hc29 => ?_)
      · rw [if_pos hc29] at h
        exact w_X11_clause_b108 F hr hlk t0 _ _ h
      · rw [if_neg hc29] at h
        refine v_iconst (v := 1) F dX11_clause_104 (by decide) ?_
        refine v_goto (tgt := 109) F dX11_clause_105 (by decide) ?_
        exact w_X11_clause_b109 F hr hlk t0 _ _ _ h
  · rw [if_neg hc15] at h
    cases h
    exact v_vret F hr hlk dX11_clause_73
set_option maxHeartbeats 4000000 in
set_option maxRecDepth 100000 in
theorem w_X11_clause_b51 {g : gT} {p : Program} {l : Launch} {e : Env} {s : State} {m : MethodId} {args : Array Value} {below : List Frame} {meth : Method} {c : Code} {z : Int32 × Mem} (F : Fx g p s m args c cX11_clause 5 uX11_clause RX11) (hr : meth.sig.returnType = none) (hlk : meth.locks = false)  {a0 : Nat} {i1 : Int32} (t0 : Ty g 11 a0)   (x2 : Int32) (M : Mem)  (h : f_X11_clause_b51 a0 i1 x2 M = some z) : V g p l e ({ frames := 131, cells := 0, slots := 0, locals := 40 * 131 } : Room) s m args below meth c 5 0 0 (MQ below (gQ g none z.2) args s 0 0 (gA g)) 51 [(0, .ref (gAd g a0)), (1, .int i1), (2, .int x2)] [] M := by
  unfold f_X11_clause_b51 at h
  refine v_iload_n F dX11_clause_51 rfl 1 rfl ?_
  refine v_bipush (v := 12) F dX11_clause_52 (by decide) ?_
  refine v_icmp_ne (tgt := 66) F dX11_clause_54 (by decide) (fun hc50 => ?_) (fun hc50 => ?_)
  · rw [if_neg hc50] at h
    exact w_X11_clause_b66 F hr hlk t0 _ _ h
  · rw [if_pos hc50] at h
    refine v_aload_n F dX11_clause_57 rfl 0 rfl ?_
    refine v_iconst (v := 3) F dX11_clause_58 (by decide) ?_
    refine v_aload_n F dX11_clause_59 rfl 0 rfl ?_
    refine v_getI (k := 4) F t0 (by decide) (inc inU_11) rfl rfl (by decide) (List.mem_cons_of_mem _ fl_X11_92) rfl dX11_clause_60 ?_
    obtain ⟨⟨r51, M52⟩, hz53, h⟩ := bd_some h
    dsimp only at h
    refine v_callVv (As := [.int 3, .int (M a0 4)]) (rest := []) F (c_X11_wrong l F.2.2.1 t0 hz53) (cwV 2 F.1.2.2.2.2 (gU_V ml_X11_113 im_yX11_wrong se_yX11_wrong ini_X11 cd_X11_wrong) rfl rfl rfl (by decide +kernel) ⟨Nat.le_of_ble_eq_true rfl, Nat.le_of_ble_eq_true rfl⟩) t0 (by decide) rfl rfl rfl (Nat.le_of_ble_eq_true rfl) dX11_clause_63 ⟨Nat.le_of_ble_eq_true rfl, Nat.le_of_ble_eq_true rfl⟩ ?_
    exact w_X11_clause_b66 F hr hlk t0 _ _ h
set_option maxHeartbeats 4000000 in
set_option maxRecDepth 100000 in
theorem c_X11_clause {g : gT} (l : Launch) (hok : gOK g)  {a0 : Nat} {i1 : Int32} {M : Mem} {z : Int32 × Mem}  (t0 : Ty g 11 a0) (h : f_X11_clause  M a0 i1 = some z) : Cn g l yX11_clause uX11_clause 131 [.ref (gAd g a0), .int i1] M none z.2 := by
  refine Cn.of (cc := cX11_clause) (maxL := 5) (ret := none) hok (by decide) rfl (Nat.le_of_ble_eq_true rfl) (fun p e s m args below meth c F hr hlk => ?_)
  unfold f_X11_clause at h
  show V g p l e ({ frames := 131, cells := 0, slots := 0, locals := 40 * 131 } : Room) s m args below meth c 5 0 0 (MQ below (gQ g none z.2) args s 0 0 (gA g)) 0 [(0, .ref (gAd g a0)), (1, .int i1)] [] M
  refine v_aload_n F dX11_clause_0 rfl 0 rfl ?_
  refine v_bipush (v := 12) F dX11_clause_1 (by decide) ?_
  refine v_bipush (v := 9) F dX11_clause_3 (by decide) ?_
  refine v_bipush (v := 6) F dX11_clause_5 (by decide) ?_
  refine v_bipush (v := 20) F dX11_clause_7 (by decide) ?_
  refine v_iconst (v := 0) F dX11_clause_9 (by decide) ?_
  refine v_iconst (v := 0) F dX11_clause_10 (by decide) ?_
  obtain ⟨⟨r1, M2⟩, hz3, h⟩ := bd_some h
  dsimp only at h
  refine v_callVi (As := [.int 12, .int 9, .int 6, .int 20, .int 0, .int 0]) (rest := []) F (c_X11_isWord l F.2.2.1 t0 hz3) (cwV 6 F.1.2.2.2.2 (gU_V ml_X11_135 im_yX11_isWord se_yX11_isWord ini_X11 cd_X11_isWord) rfl rfl rfl (by decide +kernel) ⟨Nat.le_of_ble_eq_true rfl, Nat.le_of_ble_eq_true rfl⟩) t0 (by decide) rfl rfl rfl (Nat.le_of_ble_eq_true rfl) dX11_clause_11 ⟨Nat.le_of_ble_eq_true rfl, Nat.le_of_ble_eq_true rfl⟩ ?_
  refine v_istore_n (lv' := [(2, .int r1), (0, .ref (gAd g a0)), (1, .int i1)]) F dX11_clause_14 rfl (by decide) rfl ?_
  refine v_aload_n F dX11_clause_15 rfl 1 rfl ?_
  refine v_bipush (v := 20) F dX11_clause_16 (by decide) ?_
  refine v_bipush (v := 23) F dX11_clause_18 (by decide) ?_
  refine v_bipush (v := 9) F dX11_clause_20 (by decide) ?_
  refine v_bipush (v := 19) F dX11_clause_22 (by decide) ?_
  refine v_bipush (v := 20) F dX11_clause_24 (by decide) ?_
  refine v_iconst (v := 0) F dX11_clause_26 (by decide) ?_
  obtain ⟨⟨r5, M6⟩, hz7, h⟩ := bd_some h
  dsimp only at h
  refine v_callVi (As := [.int 20, .int 23, .int 9, .int 19, .int 20, .int 0]) (rest := []) F (c_X11_isWord l F.2.2.1 t0 hz7) (cwV 6 F.1.2.2.2.2 (gU_V ml_X11_135 im_yX11_isWord se_yX11_isWord ini_X11 cd_X11_isWord) rfl rfl rfl (by decide +kernel) ⟨Nat.le_of_ble_eq_true rfl, Nat.le_of_ble_eq_true rfl⟩) t0 (by decide) rfl rfl rfl (Nat.le_of_ble_eq_true rfl) dX11_clause_27 ⟨Nat.le_of_ble_eq_true rfl, Nat.le_of_ble_eq_true rfl⟩ ?_
  refine v_istore_n (lv' := [(3, .int r5), (2, .int r1), (0, .ref (gAd g a0)), (1, .int i1)]) F dX11_clause_30 rfl (by decide) rfl ?_
  refine v_iload_n F dX11_clause_31 rfl 1 rfl ?_
  refine v_if_ne (tgt := 51) F dX11_clause_32 (by decide) (fun hc9 => ?_) (fun hc9 => ?_)
  · rw [if_neg hc9] at h
    refine v_sub (fun ls h9 => lv_sub h9 [2, 3, 1] rfl) ?_
    exact w_X11_clause_b51 F hr hlk t0 _ _ h
  · rw [if_pos hc9] at h
    refine v_iload_n F dX11_clause_35 rfl 0 rfl ?_
    refine v_if_ne (tgt := 51) F dX11_clause_36 (by decide) (fun hc10 => ?_) (fun hc10 => ?_)
    · rw [if_neg hc10] at h
      refine v_sub (fun ls h9 => lv_sub h9 [2, 3, 1] rfl) ?_
      exact w_X11_clause_b51 F hr hlk t0 _ _ h
    · rw [if_pos hc10] at h
      refine v_aload_n F dX11_clause_39 rfl 2 rfl ?_
      refine v_iconst (v := 1) F dX11_clause_40 (by decide) ?_
      refine v_aload_n F dX11_clause_41 rfl 2 rfl ?_
      refine v_getI (k := 4) F t0 (by decide) (inc inU_11) rfl rfl (by decide) (List.mem_cons_of_mem _ fl_X11_92) rfl dX11_clause_42 ?_
      obtain ⟨⟨r11, M12⟩, hz13, h⟩ := bd_some h
      dsimp only at h
      refine v_callVv (As := [.int 1, .int (M6 a0 4)]) (rest := []) F (c_X11_wrong l F.2.2.1 t0 hz13) (cwV 2 F.1.2.2.2.2 (gU_V ml_X11_113 im_yX11_wrong se_yX11_wrong ini_X11 cd_X11_wrong) rfl rfl rfl (by decide +kernel) ⟨Nat.le_of_ble_eq_true rfl, Nat.le_of_ble_eq_true rfl⟩) t0 (by decide) rfl rfl rfl (Nat.le_of_ble_eq_true rfl) dX11_clause_45 ⟨Nat.le_of_ble_eq_true rfl, Nat.le_of_ble_eq_true rfl⟩ ?_
      refine v_goto (tgt := 66) F dX11_clause_48 (by decide) ?_
      refine v_sub (fun ls h9 => lv_sub h9 [2, 3, 1] rfl) ?_
      exact w_X11_clause_b66 F hr hlk t0 _ _ h
def f_X11_law_h146 (a0 : Nat) (i1 : Int32)  : Nat → Int32 → Mem → Option (Int32 × Mem)
  | 0, _, _ => none
  | n + 1, x2, M => if (M a0 8) ≤ x2 then (if ¬ ((M a0 11) < 0 ∨ gN (gRf a0 13) ≤ (M a0 11 : Int32).toNatClampNeg) then (some (((mU (mU M (gRf a0 13) (M a0 11 : Int32).toNatClampNeg (M a0 8)) a0 11 (((mU M (gRf a0 13) (M a0 11 : Int32).toNatClampNeg (M a0 8)) a0 11) + 1)) a0 11) - 1, (mU (mU M (gRf a0 13) (M a0 11 : Int32).toNatClampNeg (M a0 8)) a0 11 (((mU M (gRf a0 13) (M a0 11 : Int32).toNatClampNeg (M a0 8)) a0 11) + 1)))) else none) else (if ¬ ((M a0 11) < 0 ∨ gN (gRf a0 12) ≤ (M a0 11 : Int32).toNatClampNeg) then (if ¬ (x2 < 0 ∨ gN (gRf a0 10) ≤ x2.toNatClampNeg) then (if ¬ (x2 < 0 ∨ gN (gRf (gRf a0 12) (M a0 11 : Int32).toNatClampNeg) ≤ x2.toNatClampNeg) then ((f_X11_law_h146 a0 i1 n) (x2 + 1) (mU M (gRf (gRf a0 12) (M a0 11 : Int32).toNatClampNeg) x2.toNatClampNeg (M (gRf a0 10) x2.toNatClampNeg))) else none) else none) else none)
def f_X11_law_b121 (a0 : Nat) (i1 : Int32)   (M : Mem) : Option (Int32 × Mem) := if ((mU M a0 3 (M a0 7)) a0 6) = 0 then (f_X11_law_h146 a0 i1 FU 0 (mU M a0 3 (M a0 7))) else (some (((mU M a0 3 (M a0 7)) a0 6) - 10, (mU M a0 3 (M a0 7))))
def f_X11_law_h88 (a0 : Nat) (i1 : Int32)  : Nat → Int32 → Mem → Option (Int32 × Mem)
  | 0, _, _ => none
  | n + 1, x2, M => if (M a0 6) = 0 then (if (M a0 2) ≤ (M a0 4) then (f_X11_law_b121 a0 i1 M) else ((f_X11_clause M a0 x2).bind fun q => match q with | (r18, M19) => ((f_X11_blanks M19 a0).bind fun q => match q with | (r22, M23) => ((f_X11_law_h88 a0 i1 n) (x2 + 1) M23)))) else (f_X11_law_b121 a0 i1 M)
def f_X11_law_b23 (a0 : Nat) (i1 : Int32)  (s0 : Nat) (s1 : Int32) (M : Mem) : Option (Int32 × Mem) := (f_X11_bad M s0 s1 1).bind fun q => match q with | (r6, M7) => (if r6 = 0 then (if ((mU (mU M7 a0 1 0) a0 3 (-1)) a0 11) = 4 then (some ((-1), (mU (mU M7 a0 1 0) a0 3 (-1)))) else ((f_X11_blanks (mU (mU (mU (mU (mU (mU (mU (mU M7 a0 1 0) a0 3 (-1)) a0 2 i1) a0 4 0) a0 5 0) a0 6 0) a0 7 (-1)) a0 8 0) a0).bind fun q => match q with | (r12, M13) => (f_X11_law_h88 a0 i1 FU 0 M13))) else (some (0, M7)))
def f_X11_law  (M : Mem) (a0 : Nat) (i1 : Int32) : Option (Int32 × Mem) := (f_X11_in (mU M a0 0 0) i1 0 ((mU M a0 0 0) a0 1)).bind fun q => match q with | (r1, M2) => (if r1 = 0 then (f_X11_law_b23 a0 i1 a0 1 M2) else (f_X11_law_b23 a0 i1 a0 0 M2))
set_option maxHeartbeats 4000000 in
set_option maxRecDepth 100000 in
theorem w_X11_law_h146 {g : gT} {p : Program} {l : Launch} {e : Env} {s : State} {m : MethodId} {args : Array Value} {below : List Frame} {meth : Method} {c : Code} {z : Int32 × Mem} (F : Fx g p s m args c cX11_law 3 uX11_law RX11) (hr : meth.sig.returnType = (some .int)) (hlk : meth.locks = false)  {a0 : Nat} {i1 : Int32} (t0 : Ty g 11 a0)   : ∀ (n : Nat) (x2 : Int32) (M : Mem), f_X11_law_h146 a0 i1 n x2 M = some z → V g p l e ({ frames := 132, cells := 0, slots := 0, locals := 40 * 132 } : Room) s m args below meth c 3 0 0 (MQ below (gQ g (some (.int z.1)) z.2) args s 0 0 (gA g)) 146 [(0, .ref (gAd g a0)), (1, .int i1), (2, .int x2)] [] M := by
  intro n
  induction n with
  | zero => intro x2 M; intros; rename_i h; cases h
  | succ n ih =>
    intro x2 M h
    rw [f_X11_law_h146] at h
    refine v_iload_n F dX11_law_146 rfl 2 rfl ?_
    refine v_aload_n F dX11_law_147 rfl 0 rfl ?_
    refine v_getI (k := 8) F t0 (by decide) (inc inU_11) rfl rfl (by decide) (List.mem_cons_of_mem _ fl_X11_105) rfl dX11_law_148 ?_
    refine v_icmp_ge (tgt := 177) F dX11_law_151 (by decide) (fun hc27 => ?_) (fun hc27 => ?_)
    · rw [if_pos hc27] at h
      refine v_aload_n F dX11_law_177 rfl 0 rfl ?_
      refine v_getR (k := 13) (f := 12) F t0 (by decide) (inc inU_11) rfl rfl (by decide) (by decide) (List.mem_cons_of_mem _ fl_X11_25) rfl dX11_law_178 (fun u28 => ?_)
      refine v_aload_n F dX11_law_181 rfl 0 rfl ?_
      refine v_getI (k := 11) F t0 (by decide) (inc inU_11) rfl rfl (by decide) (List.mem_cons_of_mem _ fl_X11_180) rfl dX11_law_182 ?_
      refine v_aload_n F dX11_law_185 rfl 0 rfl ?_
      refine v_getI (k := 8) F t0 (by decide) (inc inU_11) rfl rfl (by decide) (List.mem_cons_of_mem _ fl_X11_105) rfl dX11_law_186 ?_
      obtain ⟨hin29, h⟩ := gd_some h
      refine v_iast F u28 hin29 dX11_law_189 ?_
      refine v_aload_n F dX11_law_190 rfl 0 rfl ?_
      refine v_dup F dX11_law_191 rfl ?_
      refine v_getI (k := 11) F t0 (by decide) (inc inU_11) rfl rfl (by decide) (List.mem_cons_of_mem _ fl_X11_180) rfl dX11_law_192 ?_
      refine v_iconst (v := 1) F dX11_law_195 (by decide) ?_
      refine v_iadd F dX11_law_196 ?_
      refine v_put (k := 11) (ty := .int) F t0 (by decide) (inc inU_11) tyX11 tyX11_ok nmX11 rfl rfl (by decide) (List.mem_cons_of_mem _ fl_X11_180) rfl rfl (by decide +kernel) rfl rfl dX11_law_197 ?_
      refine v_aload_n F dX11_law_200 rfl 0 rfl ?_
      refine v_getI (k := 11) F t0 (by decide) (inc inU_11) rfl rfl (by decide) (List.mem_cons_of_mem _ fl_X11_180) rfl dX11_law_201 ?_
      refine v_iconst (v := 1) F dX11_law_204 (by decide) ?_
      refine v_isub F dX11_law_205 ?_
      cases h
      exact v_iret F hr rfl hlk dX11_law_206
    · rw [if_neg hc27] at h
      refine v_aload_n F dX11_law_154 rfl 0 rfl ?_
      refine v_getR (k := 12) (f := 16) F t0 (by decide) (inc inU_11) rfl rfl (by decide) (by decide) (List.mem_cons_of_mem _ fl_X11_22) rfl dX11_law_155 (fun u30 => ?_)
      refine v_aload_n F dX11_law_158 rfl 0 rfl ?_
      refine v_getI (k := 11) F t0 (by decide) (inc inU_11) rfl rfl (by decide) (List.mem_cons_of_mem _ fl_X11_180) rfl dX11_law_159 ?_
      obtain ⟨hin31, h⟩ := gd_some h
      refine v_aald (ke := 12) (t0 := 4) F u30 (by decide) rfl rfl hin31 dX11_law_162 (fun u32 => ?_)
      refine v_iload_n F dX11_law_163 rfl 2 rfl ?_
      refine v_aload_n F dX11_law_164 rfl 0 rfl ?_
      refine v_getR (k := 10) (f := 12) F t0 (by decide) (inc inU_11) rfl rfl (by decide) (by decide) (List.mem_cons_of_mem _ fl_X11_17) rfl dX11_law_165 (fun u33 => ?_)
      refine v_iload_n F dX11_law_168 rfl 2 rfl ?_
      obtain ⟨hin34, h⟩ := gd_some h
      refine v_iald F u33 hin34 dX11_law_169 ?_
      obtain ⟨hin35, h⟩ := gd_some h
      refine v_iast F u32 hin35 dX11_law_170 ?_
      refine v_iinc (v := x2 + 1) (lv' := [(2, .int (x2 + 1)), (0, .ref (gAd g a0)), (1, .int i1)]) F dX11_law_171 (q := 2) rfl rfl (by decide) rfl ?_
      refine v_goto (tgt := 146) F dX11_law_174 (by decide) ?_
      refine v_sub (fun ls h9 => lv_sub h9 [1, 2, 0] rfl) ?_
      exact ih _ _ h
set_option maxHeartbeats 4000000 in
set_option maxRecDepth 100000 in
theorem w_X11_law_b121 {g : gT} {p : Program} {l : Launch} {e : Env} {s : State} {m : MethodId} {args : Array Value} {below : List Frame} {meth : Method} {c : Code} {z : Int32 × Mem} (F : Fx g p s m args c cX11_law 3 uX11_law RX11) (hr : meth.sig.returnType = (some .int)) (hlk : meth.locks = false)  {a0 : Nat} {i1 : Int32} (t0 : Ty g 11 a0)    (M : Mem)  (h : f_X11_law_b121 a0 i1 M = some z) : V g p l e ({ frames := 132, cells := 0, slots := 0, locals := 40 * 132 } : Room) s m args below meth c 3 0 0 (MQ below (gQ g (some (.int z.1)) z.2) args s 0 0 (gA g)) 121 [(0, .ref (gAd g a0)), (1, .int i1)] [] M := by
  unfold f_X11_law_b121 at h
  refine v_aload_n F dX11_law_121 rfl 0 rfl ?_
  refine v_aload_n F dX11_law_122 rfl 0 rfl ?_
  refine v_getI (k := 7) F t0 (by decide) (inc inU_11) rfl rfl (by decide) (List.mem_cons_of_mem _ fl_X11_102) rfl dX11_law_123 ?_
  refine v_put (k := 3) (ty := .int) F t0 (by decide) (inc inU_11) tyX11 tyX11_ok nmX11 rfl rfl (by decide) (List.mem_cons_of_mem _ fl_X11_9) rfl rfl (by decide +kernel) rfl rfl dX11_law_126 ?_
  refine v_aload_n F dX11_law_129 rfl 0 rfl ?_
  refine v_getI (k := 6) F t0 (by decide) (inc inU_11) rfl rfl (by decide) (List.mem_cons_of_mem _ fl_X11_99) rfl dX11_law_130 ?_
  refine v_if_eq (tgt := 144) F dX11_law_133 (by decide) (fun hc26 => ?_) (fun hc26 => ?_)
  · rw [if_pos hc26] at h
    refine v_iconst (v := 0) F dX11_law_144 (by decide) ?_
    refine v_istore_n (lv' := [(2, .int 0), (0, .ref (gAd g a0)), (1, .int i1)]) F dX11_law_145 rfl (by decide) rfl ?_
    refine v_sub (fun ls h9 => lv_sub h9 [1, 2, 0] rfl) ?_
    exact w_X11_law_h146 F hr hlk t0 _ _ _ h
  · rw [if_neg hc26] at h
    refine v_aload_n F dX11_law_136 rfl 0 rfl ?_
    refine v_getI (k := 6) F t0 (by decide) (inc inU_11) rfl rfl (by decide) (List.mem_cons_of_mem _ fl_X11_99) rfl dX11_law_137 ?_
    refine v_bipush (v := 10) F dX11_law_140 (by decide) ?_
    refine v_isub F dX11_law_142 ?_
    cases h
    exact v_iret F hr rfl hlk dX11_law_143
set_option maxHeartbeats 4000000 in
set_option maxRecDepth 100000 in
theorem w_X11_law_h88 {g : gT} {p : Program} {l : Launch} {e : Env} {s : State} {m : MethodId} {args : Array Value} {below : List Frame} {meth : Method} {c : Code} {z : Int32 × Mem} (F : Fx g p s m args c cX11_law 3 uX11_law RX11) (hr : meth.sig.returnType = (some .int)) (hlk : meth.locks = false)  {a0 : Nat} {i1 : Int32} (t0 : Ty g 11 a0)   : ∀ (n : Nat) (x2 : Int32) (M : Mem), f_X11_law_h88 a0 i1 n x2 M = some z → V g p l e ({ frames := 132, cells := 0, slots := 0, locals := 40 * 132 } : Room) s m args below meth c 3 0 0 (MQ below (gQ g (some (.int z.1)) z.2) args s 0 0 (gA g)) 88 [(0, .ref (gAd g a0)), (1, .int i1), (2, .int x2)] [] M := by
  intro n
  induction n with
  | zero => intro x2 M; intros; rename_i h; cases h
  | succ n ih =>
    intro x2 M h
    rw [f_X11_law_h88] at h
    refine v_aload_n F dX11_law_88 rfl 0 rfl ?_
    refine v_getI (k := 6) F t0 (by decide) (inc inU_11) rfl rfl (by decide) (List.mem_cons_of_mem _ fl_X11_99) rfl dX11_law_89 ?_
    refine v_if_ne (tgt := 121) F dX11_law_92 (by decide) (fun hc16 => ?_) (fun hc16 => ?_)
    · rw [if_neg hc16] at h
      refine v_sub (fun ls h9 => lv_sub h9 [0, 1] rfl) ?_
      exact w_X11_law_b121 F hr hlk t0 _ h
    · rw [if_pos hc16] at h
      refine v_aload_n F dX11_law_95 rfl 0 rfl ?_
      refine v_getI (k := 4) F t0 (by decide) (inc inU_11) rfl rfl (by decide) (List.mem_cons_of_mem _ fl_X11_92) rfl dX11_law_96 ?_
      refine v_aload_n F dX11_law_99 rfl 0 rfl ?_
      refine v_getI (k := 2) F t0 (by decide) (inc inU_11) rfl rfl (by decide) (List.mem_cons_of_mem _ fl_X11_89) rfl dX11_law_100 ?_
      refine v_icmp_ge (tgt := 121) F dX11_law_103 (by decide) (fun hc17 => ?_) (fun hc17 => ?_)
      · rw [if_pos hc17] at h
        refine v_sub (fun ls h9 => lv_sub h9 [0, 1] rfl) ?_
        exact w_X11_law_b121 F hr hlk t0 _ h
      · rw [if_neg hc17] at h
        refine v_aload_n F dX11_law_106 rfl 0 rfl ?_
        refine v_iload_n F dX11_law_107 rfl 2 rfl ?_
        obtain ⟨⟨r18, M19⟩, hz20, h⟩ := bd_some h
        dsimp only at h
        refine v_callVv (As := [.int x2]) (rest := []) F (c_X11_clause l F.2.2.1 t0 hz20) (cwV 1 F.1.2.2.2.2 (gU_V ml_X11_183 im_yX11_clause se_yX11_clause ini_X11 cd_X11_clause) rfl rfl rfl (by decide +kernel) ⟨Nat.le_of_ble_eq_true rfl, Nat.le_of_ble_eq_true rfl⟩) t0 (by decide) rfl rfl rfl (Nat.le_of_ble_eq_true rfl) dX11_law_108 ⟨Nat.le_of_ble_eq_true rfl, Nat.le_of_ble_eq_true rfl⟩ ?_
        refine v_aload_n F dX11_law_111 rfl 0 rfl ?_
        obtain ⟨⟨r22, M23⟩, hz24, h⟩ := bd_some h
        dsimp only at h
        refine v_callVv (As := []) (rest := []) F (c_X11_blanks l F.2.2.1 t0 hz24) (cwV 0 F.1.2.2.2.2 (gU_V ml_X11_121 im_yX11_blanks se_yX11_blanks ini_X11 cd_X11_blanks) rfl rfl rfl (by decide +kernel) ⟨Nat.le_of_ble_eq_true rfl, Nat.le_of_ble_eq_true rfl⟩) t0 (by decide) rfl rfl rfl (Nat.le_of_ble_eq_true rfl) dX11_law_112 ⟨Nat.le_of_ble_eq_true rfl, Nat.le_of_ble_eq_true rfl⟩ ?_
        refine v_iinc (v := x2 + 1) (lv' := [(2, .int (x2 + 1)), (0, .ref (gAd g a0)), (1, .int i1)]) F dX11_law_115 (q := 2) rfl rfl (by decide) rfl ?_
        refine v_goto (tgt := 88) F dX11_law_118 (by decide) ?_
        refine v_sub (fun ls h9 => lv_sub h9 [1, 2, 0] rfl) ?_
        exact ih _ _ h
set_option maxHeartbeats 4000000 in
set_option maxRecDepth 100000 in
theorem w_X11_law_b23 {g : gT} {p : Program} {l : Launch} {e : Env} {s : State} {m : MethodId} {args : Array Value} {below : List Frame} {meth : Method} {c : Code} {z : Int32 × Mem} (F : Fx g p s m args c cX11_law 3 uX11_law RX11) (hr : meth.sig.returnType = (some .int)) (hlk : meth.locks = false)  {a0 : Nat} {i1 : Int32} (t0 : Ty g 11 a0)   (s0 : Nat) (s1 : Int32) (M : Mem) (ts0 : Ty g 11 s0) (h : f_X11_law_b23 a0 i1 s0 s1 M = some z) : V g p l e ({ frames := 132, cells := 0, slots := 0, locals := 40 * 132 } : Room) s m args below meth c 3 0 0 (MQ below (gQ g (some (.int z.1)) z.2) args s 0 0 (gA g)) 23 [(0, .ref (gAd g a0)), (1, .int i1)] [.int s1, .ref (gAd g s0)] M := by
  unfold f_X11_law_b23 at h
  refine v_iconst (v := 1) F dX11_law_23 (by decide) ?_
  obtain ⟨⟨r6, M7⟩, hz8, h⟩ := bd_some h
  dsimp only at h
  refine v_callVi (As := [.int s1, .int 1]) (rest := []) F (c_X11_bad l F.2.2.1 ts0 hz8) (cwV 2 F.1.2.2.2.2 (gU_V ml_X11_176 im_yX11_bad se_yX11_bad ini_X11 cd_X11_bad) rfl rfl rfl (by decide +kernel) ⟨Nat.le_of_ble_eq_true rfl, Nat.le_of_ble_eq_true rfl⟩) ts0 (by decide) rfl rfl rfl (Nat.le_of_ble_eq_true rfl) dX11_law_24 ⟨Nat.le_of_ble_eq_true rfl, Nat.le_of_ble_eq_true rfl⟩ ?_
  refine v_if_eq (tgt := 32) F dX11_law_27 (by decide) (fun hc10 => ?_) (fun hc10 => ?_)
  · rw [if_pos hc10] at h
    refine v_aload_n F dX11_law_32 rfl 0 rfl ?_
    refine v_iconst (v := 0) F dX11_law_33 (by decide) ?_
    refine v_put (k := 1) (ty := .int) F t0 (by decide) (inc inU_11) tyX11 tyX11_ok nmX11 rfl rfl (by decide) (List.mem_cons_of_mem _ fl_X11_86) rfl rfl (by decide +kernel) rfl rfl dX11_law_34 ?_
    refine v_aload_n F dX11_law_37 rfl 0 rfl ?_
    refine v_iconst (v := (-1)) F dX11_law_38 (by decide) ?_
    refine v_put (k := 3) (ty := .int) F t0 (by decide) (inc inU_11) tyX11 tyX11_ok nmX11 rfl rfl (by decide) (List.mem_cons_of_mem _ fl_X11_9) rfl rfl (by decide +kernel) rfl rfl dX11_law_39 ?_
    refine v_aload_n F dX11_law_42 rfl 0 rfl ?_
    refine v_getI (k := 11) F t0 (by decide) (inc inU_11) rfl rfl (by decide) (List.mem_cons_of_mem _ fl_X11_180) rfl dX11_law_43 ?_
    refine v_iconst (v := 4) F dX11_law_46 (by decide) ?_
    refine v_icmp_ne (tgt := 52) F dX11_law_47 (by decide) (fun hc11 => ?_) (fun hc11 => ?_)
    · rw [if_neg hc11] at h
      refine v_aload_n F dX11_law_52 rfl 0 rfl ?_
      refine v_iload_n F dX11_law_53 rfl 1 rfl ?_
      refine v_put (k := 2) (ty := .int) F t0 (by decide) (inc inU_11) tyX11 tyX11_ok nmX11 rfl rfl (by decide) (List.mem_cons_of_mem _ fl_X11_89) rfl rfl (by decide +kernel) rfl rfl dX11_law_54 ?_
      refine v_aload_n F dX11_law_57 rfl 0 rfl ?_
      refine v_iconst (v := 0) F dX11_law_58 (by decide) ?_
      refine v_put (k := 4) (ty := .int) F t0 (by decide) (inc inU_11) tyX11 tyX11_ok nmX11 rfl rfl (by decide) (List.mem_cons_of_mem _ fl_X11_92) rfl rfl (by decide +kernel) rfl rfl dX11_law_59 ?_
      refine v_aload_n F dX11_law_62 rfl 0 rfl ?_
      refine v_iconst (v := 0) F dX11_law_63 (by decide) ?_
      refine v_put (k := 5) (ty := .int) F t0 (by decide) (inc inU_11) tyX11 tyX11_ok nmX11 rfl rfl (by decide) (List.mem_cons_of_mem _ fl_X11_132) rfl rfl (by decide +kernel) rfl rfl dX11_law_64 ?_
      refine v_aload_n F dX11_law_67 rfl 0 rfl ?_
      refine v_iconst (v := 0) F dX11_law_68 (by decide) ?_
      refine v_put (k := 6) (ty := .int) F t0 (by decide) (inc inU_11) tyX11 tyX11_ok nmX11 rfl rfl (by decide) (List.mem_cons_of_mem _ fl_X11_99) rfl rfl (by decide +kernel) rfl rfl dX11_law_69 ?_
      refine v_aload_n F dX11_law_72 rfl 0 rfl ?_
      refine v_iconst (v := (-1)) F dX11_law_73 (by decide) ?_
      refine v_put (k := 7) (ty := .int) F t0 (by decide) (inc inU_11) tyX11 tyX11_ok nmX11 rfl rfl (by decide) (List.mem_cons_of_mem _ fl_X11_102) rfl rfl (by decide +kernel) rfl rfl dX11_law_74 ?_
      refine v_aload_n F dX11_law_77 rfl 0 rfl ?_
      refine v_iconst (v := 0) F dX11_law_78 (by decide) ?_
      refine v_put (k := 8) (ty := .int) F t0 (by decide) (inc inU_11) tyX11 tyX11_ok nmX11 rfl rfl (by decide) (List.mem_cons_of_mem _ fl_X11_105) rfl rfl (by decide +kernel) rfl rfl dX11_law_79 ?_
      refine v_aload_n F dX11_law_82 rfl 0 rfl ?_
      obtain ⟨⟨r12, M13⟩, hz14, h⟩ := bd_some h
      dsimp only at h
      refine v_callVv (As := []) (rest := []) F (c_X11_blanks l F.2.2.1 t0 hz14) (cwV 0 F.1.2.2.2.2 (gU_V ml_X11_121 im_yX11_blanks se_yX11_blanks ini_X11 cd_X11_blanks) rfl rfl rfl (by decide +kernel) ⟨Nat.le_of_ble_eq_true rfl, Nat.le_of_ble_eq_true rfl⟩) t0 (by decide) rfl rfl rfl (Nat.le_of_ble_eq_true rfl) dX11_law_83 ⟨Nat.le_of_ble_eq_true rfl, Nat.le_of_ble_eq_true rfl⟩ ?_
      refine v_iconst (v := 0) F dX11_law_86 (by decide) ?_
      refine v_istore_n (lv' := [(2, .int 0), (0, .ref (gAd g a0)), (1, .int i1)]) F dX11_law_87 rfl (by decide) rfl ?_
      refine v_sub (fun ls h9 => lv_sub h9 [1, 2, 0] rfl) ?_
      exact w_X11_law_h88 F hr hlk t0 _ _ _ h
    · rw [if_pos hc11] at h
      refine v_iconst (v := (-1)) F dX11_law_50 (by decide) ?_
      cases h
      exact v_iret F hr rfl hlk dX11_law_51
  · rw [if_neg hc10] at h
    refine v_iconst (v := 0) F dX11_law_30 (by decide) ?_
    cases h
    exact v_iret F hr rfl hlk dX11_law_31
set_option maxHeartbeats 4000000 in
set_option maxRecDepth 100000 in
theorem c_X11_law {g : gT} (l : Launch) (hok : gOK g)  {a0 : Nat} {i1 : Int32} {M : Mem} {z : Int32 × Mem}  (t0 : Ty g 11 a0) (h : f_X11_law  M a0 i1 = some z) : Cn g l yX11_law uX11_law 132 [.ref (gAd g a0), .int i1] M (some (.int z.1)) z.2 := by
  refine Cn.of (cc := cX11_law) (maxL := 3) (ret := (some .int)) hok (by decide) rfl (Nat.le_of_ble_eq_true rfl) (fun p e s m args below meth c F hr hlk => ?_)
  unfold f_X11_law at h
  show V g p l e ({ frames := 132, cells := 0, slots := 0, locals := 40 * 132 } : Room) s m args below meth c 3 0 0 (MQ below (gQ g (some (.int z.1)) z.2) args s 0 0 (gA g)) 0 [(0, .ref (gAd g a0)), (1, .int i1)] [] M
  refine v_aload_n F dX11_law_0 rfl 0 rfl ?_
  refine v_iconst (v := 0) F dX11_law_1 (by decide) ?_
  refine v_put (k := 0) (ty := .int) F t0 (by decide) (inc inU_11) tyX11 tyX11_ok nmX11 rfl rfl (by decide) (List.mem_cons_of_mem _ fl_X11_83) rfl rfl (by decide +kernel) rfl rfl dX11_law_2 ?_
  refine v_aload_n F dX11_law_5 rfl 0 rfl ?_
  refine v_iload_n F dX11_law_6 rfl 1 rfl ?_
  refine v_iconst (v := 0) F dX11_law_7 (by decide) ?_
  refine v_aload_n F dX11_law_8 rfl 0 rfl ?_
  refine v_getI (k := 1) F t0 (by decide) (inc inU_11) rfl rfl (by decide) (List.mem_cons_of_mem _ fl_X11_86) rfl dX11_law_9 ?_
  obtain ⟨⟨r1, M2⟩, hz3, h⟩ := bd_some h
  dsimp only at h
  refine v_callSi (As := [.int i1, .int 0, .int ((mU M a0 0 0) a0 1)]) (rest := [.ref (gAd g a0)]) F (c_X11_in l F.2.2.1  hz3) (cwS 3 F.1.2.2.2.2 (gU_S ml_X11_172 st_yX11_in ini_X11 cd_X11_in) rfl rfl rfl (by decide +kernel) ⟨Nat.le_of_ble_eq_true rfl, Nat.le_of_ble_eq_true rfl⟩) rfl rfl (Nat.le_of_ble_eq_true rfl) dX11_law_12 ⟨Nat.le_of_ble_eq_true rfl, Nat.le_of_ble_eq_true rfl⟩ ?_
  refine v_if_ne (tgt := 22) F dX11_law_15 (by decide) (fun hc5 => ?_) (fun hc5 => ?_)
  · rw [if_neg hc5] at h
    refine v_iconst (v := 0) F dX11_law_22 (by decide) ?_
    exact w_X11_law_b23 F hr hlk t0 _ _ _ t0 h
  · rw [if_pos hc5] at h
    refine v_iconst (v := 1) F dX11_law_18 (by decide) ?_
    refine v_goto (tgt := 23) F dX11_law_19 (by decide) ?_
    exact w_X11_law_b23 F hr hlk t0 _ _ _ t0 h
def f_X11_fault  (M : Mem) (a0 : Nat) : Option (Int32 × Mem) := some ((mU M a0 0 0) a0 3, (mU M a0 0 0))
set_option maxHeartbeats 4000000 in
set_option maxRecDepth 100000 in
theorem c_X11_fault {g : gT} (l : Launch) (hok : gOK g)  {a0 : Nat} {M : Mem} {z : Int32 × Mem}  (t0 : Ty g 11 a0) (h : f_X11_fault  M a0 = some z) : Cn g l yX11_fault uX11_fault 0 [.ref (gAd g a0)] M (some (.int z.1)) z.2 := by
  refine Cn.of (cc := cX11_fault) (maxL := 1) (ret := (some .int)) hok (by decide) rfl (Nat.le_of_ble_eq_true rfl) (fun p e s m args below meth c F hr hlk => ?_)
  unfold f_X11_fault at h
  show V g p l e ({ frames := 0, cells := 0, slots := 0, locals := 40 * 0 } : Room) s m args below meth c 1 0 0 (MQ below (gQ g (some (.int z.1)) z.2) args s 0 0 (gA g)) 0 [(0, .ref (gAd g a0))] [] M
  refine v_aload_n F dX11_fault_0 rfl 0 rfl ?_
  refine v_iconst (v := 0) F dX11_fault_1 (by decide) ?_
  refine v_put (k := 0) (ty := .int) F t0 (by decide) (inc inU_11) tyX11 tyX11_ok nmX11 rfl rfl (by decide) (List.mem_cons_of_mem _ fl_X11_83) rfl rfl (by decide +kernel) rfl rfl dX11_fault_2 ?_
  refine v_aload_n F dX11_fault_5 rfl 0 rfl ?_
  refine v_getI (k := 3) F t0 (by decide) (inc inU_11) rfl rfl (by decide) (List.mem_cons_of_mem _ fl_X11_9) rfl dX11_fault_6 ?_
  cases h
  exact v_iret F hr rfl hlk dX11_fault_9
def f_X11_worked  (M : Mem) (i0 : Int32) (i1 : Int32) (i2 : Int32) : Option (Int32 × Mem) := if i0 = 10020 then (some (i1 + i2, M)) else (if i0 = 10021 then (some (i1 - i2, M)) else (if i0 = 10022 then (some (i1 * i2, M)) else (if i0 = 10023 then (if i2 = 0 then (some (0, M)) else (if i2 = 0 then none else some (i1 / i2, M))) else (if i0 = 10024 then (if i2 ≤ i1 then (some (i2, M)) else (some (i1, M))) else (if i0 = 10025 then (if i1 ≤ i2 then (some (i2, M)) else (some (i1, M))) else (if i0 = 10026 then (some (i1 ||| i2, M)) else (if i0 = 10027 then (some (i1 ||| i2, M)) else (if i0 = 10028 then (some (i1 ||| i2, M)) else (if i0 = 10029 then (some (i1 ||| i2, M)) else (if i0 = 10030 then (if i2 ≤ i1 then (some (0, M)) else (some (1, M))) else (if i0 = 10031 then (if i1 ≤ i2 then (some (0, M)) else (some (1, M))) else (if i0 = 10032 then (if i1 = i2 then (some (1, M)) else (some (0, M))) else (if i0 = 10033 then (some (i1 ||| i2, M)) else (if i0 = 10034 then (some (i1 &&& i2, M)) else (some (i1 ||| i2, M))))))))))))))))
set_option maxHeartbeats 4000000 in
set_option maxRecDepth 100000 in
theorem c_X11_worked {g : gT} (l : Launch) (hok : gOK g)  {i0 : Int32} {i1 : Int32} {i2 : Int32} {M : Mem} {z : Int32 × Mem}   (h : f_X11_worked  M i0 i1 i2 = some z) : Cn g l yX11_worked uX11_worked 0 [.int i0, .int i1, .int i2] M (some (.int z.1)) z.2 := by
  refine Cn.of (cc := cX11_worked) (maxL := 3) (ret := (some .int)) hok (by decide) rfl (Nat.le_of_ble_eq_true rfl) (fun p e s m args below meth c F hr hlk => ?_)
  unfold f_X11_worked at h
  show V g p l e ({ frames := 0, cells := 0, slots := 0, locals := 40 * 0 } : Room) s m args below meth c 3 0 0 (MQ below (gQ g (some (.int z.1)) z.2) args s 0 0 (gA g)) 0 [(0, .int i0), (1, .int i1), (2, .int i2)] [] M
  refine v_iload_n F dX11_worked_0 rfl 0 rfl ?_
  by_cases hs1 : i0 = 10020
  · rw [if_pos hs1] at h
    rw [show (Value.int i0) = Value.int 10020 from congrArg Value.int hs1]
    refine v_tableIn (tgt := 76) F dX11_worked_1 (by decide) (by decide) rfl (by decide) ?_
    refine v_iload_n F dX11_worked_76 rfl 1 rfl ?_
    refine v_iload_n F dX11_worked_77 rfl 2 rfl ?_
    refine v_iadd F dX11_worked_78 ?_
    cases h
    exact v_iret F hr rfl hlk dX11_worked_79
  rw [if_neg hs1] at h
  by_cases hs2 : i0 = 10021
  · rw [if_pos hs2] at h
    rw [show (Value.int i0) = Value.int 10021 from congrArg Value.int hs2]
    refine v_tableIn (tgt := 80) F dX11_worked_1 (by decide) (by decide) rfl (by decide) ?_
    refine v_iload_n F dX11_worked_80 rfl 1 rfl ?_
    refine v_iload_n F dX11_worked_81 rfl 2 rfl ?_
    refine v_isub F dX11_worked_82 ?_
    cases h
    exact v_iret F hr rfl hlk dX11_worked_83
  rw [if_neg hs2] at h
  by_cases hs3 : i0 = 10022
  · rw [if_pos hs3] at h
    rw [show (Value.int i0) = Value.int 10022 from congrArg Value.int hs3]
    refine v_tableIn (tgt := 84) F dX11_worked_1 (by decide) (by decide) rfl (by decide) ?_
    refine v_iload_n F dX11_worked_84 rfl 1 rfl ?_
    refine v_iload_n F dX11_worked_85 rfl 2 rfl ?_
    refine v_imul F dX11_worked_86 ?_
    cases h
    exact v_iret F hr rfl hlk dX11_worked_87
  rw [if_neg hs3] at h
  by_cases hs4 : i0 = 10023
  · rw [if_pos hs4] at h
    rw [show (Value.int i0) = Value.int 10023 from congrArg Value.int hs4]
    refine v_tableIn (tgt := 88) F dX11_worked_1 (by decide) (by decide) rfl (by decide) ?_
    refine v_iload_n F dX11_worked_88 rfl 2 rfl ?_
    refine v_if_ne (tgt := 96) F dX11_worked_89 (by decide) (fun hc5 => ?_) (fun hc5 => ?_)
    · rw [if_neg hc5] at h
      refine v_iload_n F dX11_worked_96 rfl 1 rfl ?_
      refine v_iload_n F dX11_worked_97 rfl 2 rfl ?_
      by_cases hz6 : i2 = 0
      · rw [if_pos hz6] at h; cases h
      rw [if_neg hz6] at h
      refine v_idiv F dX11_worked_98 hz6 ?_
      cases h
      exact v_iret F hr rfl hlk dX11_worked_99
    · rw [if_pos hc5] at h
      refine v_iconst (v := 0) F dX11_worked_92 (by decide) ?_
      refine v_goto (tgt := 99) F dX11_worked_93 (by decide) ?_
      cases h
      exact v_iret F hr rfl hlk dX11_worked_99
  rw [if_neg hs4] at h
  by_cases hs7 : i0 = 10024
  · rw [if_pos hs7] at h
    rw [show (Value.int i0) = Value.int 10024 from congrArg Value.int hs7]
    refine v_tableIn (tgt := 100) F dX11_worked_1 (by decide) (by decide) rfl (by decide) ?_
    refine v_iload_n F dX11_worked_100 rfl 1 rfl ?_
    refine v_iload_n F dX11_worked_101 rfl 2 rfl ?_
    refine v_icmp_ge (tgt := 109) F dX11_worked_102 (by decide) (fun hc8 => ?_) (fun hc8 => ?_)
    · rw [if_pos hc8] at h
      refine v_iload_n F dX11_worked_109 rfl 2 rfl ?_
      cases h
      exact v_iret F hr rfl hlk dX11_worked_110
    · rw [if_neg hc8] at h
      refine v_iload_n F dX11_worked_105 rfl 1 rfl ?_
      refine v_goto (tgt := 110) F dX11_worked_106 (by decide) ?_
      cases h
      exact v_iret F hr rfl hlk dX11_worked_110
  rw [if_neg hs7] at h
  by_cases hs9 : i0 = 10025
  · rw [if_pos hs9] at h
    rw [show (Value.int i0) = Value.int 10025 from congrArg Value.int hs9]
    refine v_tableIn (tgt := 111) F dX11_worked_1 (by decide) (by decide) rfl (by decide) ?_
    refine v_iload_n F dX11_worked_111 rfl 1 rfl ?_
    refine v_iload_n F dX11_worked_112 rfl 2 rfl ?_
    refine v_icmp_le (tgt := 120) F dX11_worked_113 (by decide) (fun hc10 => ?_) (fun hc10 => ?_)
    · rw [if_pos hc10] at h
      refine v_iload_n F dX11_worked_120 rfl 2 rfl ?_
      cases h
      exact v_iret F hr rfl hlk dX11_worked_121
    · rw [if_neg hc10] at h
      refine v_iload_n F dX11_worked_116 rfl 1 rfl ?_
      refine v_goto (tgt := 121) F dX11_worked_117 (by decide) ?_
      cases h
      exact v_iret F hr rfl hlk dX11_worked_121
  rw [if_neg hs9] at h
  by_cases hs11 : i0 = 10026
  · rw [if_pos hs11] at h
    rw [show (Value.int i0) = Value.int 10026 from congrArg Value.int hs11]
    refine v_tableIn (tgt := 159) F dX11_worked_1 (by decide) (by decide) rfl (by decide) ?_
    refine v_iload_n F dX11_worked_159 rfl 1 rfl ?_
    refine v_iload_n F dX11_worked_160 rfl 2 rfl ?_
    refine v_ior F dX11_worked_161 ?_
    cases h
    exact v_iret F hr rfl hlk dX11_worked_162
  rw [if_neg hs11] at h
  by_cases hs12 : i0 = 10027
  · rw [if_pos hs12] at h
    rw [show (Value.int i0) = Value.int 10027 from congrArg Value.int hs12]
    refine v_tableIn (tgt := 159) F dX11_worked_1 (by decide) (by decide) rfl (by decide) ?_
    refine v_iload_n F dX11_worked_159 rfl 1 rfl ?_
    refine v_iload_n F dX11_worked_160 rfl 2 rfl ?_
    refine v_ior F dX11_worked_161 ?_
    cases h
    exact v_iret F hr rfl hlk dX11_worked_162
  rw [if_neg hs12] at h
  by_cases hs13 : i0 = 10028
  · rw [if_pos hs13] at h
    rw [show (Value.int i0) = Value.int 10028 from congrArg Value.int hs13]
    refine v_tableIn (tgt := 159) F dX11_worked_1 (by decide) (by decide) rfl (by decide) ?_
    refine v_iload_n F dX11_worked_159 rfl 1 rfl ?_
    refine v_iload_n F dX11_worked_160 rfl 2 rfl ?_
    refine v_ior F dX11_worked_161 ?_
    cases h
    exact v_iret F hr rfl hlk dX11_worked_162
  rw [if_neg hs13] at h
  by_cases hs14 : i0 = 10029
  · rw [if_pos hs14] at h
    rw [show (Value.int i0) = Value.int 10029 from congrArg Value.int hs14]
    refine v_tableIn (tgt := 159) F dX11_worked_1 (by decide) (by decide) rfl (by decide) ?_
    refine v_iload_n F dX11_worked_159 rfl 1 rfl ?_
    refine v_iload_n F dX11_worked_160 rfl 2 rfl ?_
    refine v_ior F dX11_worked_161 ?_
    cases h
    exact v_iret F hr rfl hlk dX11_worked_162
  rw [if_neg hs14] at h
  by_cases hs15 : i0 = 10030
  · rw [if_pos hs15] at h
    rw [show (Value.int i0) = Value.int 10030 from congrArg Value.int hs15]
    refine v_tableIn (tgt := 122) F dX11_worked_1 (by decide) (by decide) rfl (by decide) ?_
    refine v_iload_n F dX11_worked_122 rfl 1 rfl ?_
    refine v_iload_n F dX11_worked_123 rfl 2 rfl ?_
    refine v_icmp_ge (tgt := 131) F dX11_worked_124 (by decide) (fun hc16 => ?_) (fun hc16 => ?_)
    · rw [if_pos hc16] at h
      refine v_iconst (v := 0) F dX11_worked_131 (by decide) ?_
      cases h
      exact v_iret F hr rfl hlk dX11_worked_132
    · rw [if_neg hc16] at h
      refine v_iconst (v := 1) F dX11_worked_127 (by decide) ?_
      refine v_goto (tgt := 132) F dX11_worked_128 (by decide) ?_
      cases h
      exact v_iret F hr rfl hlk dX11_worked_132
  rw [if_neg hs15] at h
  by_cases hs17 : i0 = 10031
  · rw [if_pos hs17] at h
    rw [show (Value.int i0) = Value.int 10031 from congrArg Value.int hs17]
    refine v_tableIn (tgt := 133) F dX11_worked_1 (by decide) (by decide) rfl (by decide) ?_
    refine v_iload_n F dX11_worked_133 rfl 1 rfl ?_
    refine v_iload_n F dX11_worked_134 rfl 2 rfl ?_
    refine v_icmp_le (tgt := 142) F dX11_worked_135 (by decide) (fun hc18 => ?_) (fun hc18 => ?_)
    · rw [if_pos hc18] at h
      refine v_iconst (v := 0) F dX11_worked_142 (by decide) ?_
      cases h
      exact v_iret F hr rfl hlk dX11_worked_143
    · rw [if_neg hc18] at h
      refine v_iconst (v := 1) F dX11_worked_138 (by decide) ?_
      refine v_goto (tgt := 143) F dX11_worked_139 (by decide) ?_
      cases h
      exact v_iret F hr rfl hlk dX11_worked_143
  rw [if_neg hs17] at h
  by_cases hs19 : i0 = 10032
  · rw [if_pos hs19] at h
    rw [show (Value.int i0) = Value.int 10032 from congrArg Value.int hs19]
    refine v_tableIn (tgt := 144) F dX11_worked_1 (by decide) (by decide) rfl (by decide) ?_
    refine v_iload_n F dX11_worked_144 rfl 1 rfl ?_
    refine v_iload_n F dX11_worked_145 rfl 2 rfl ?_
    refine v_icmp_ne (tgt := 153) F dX11_worked_146 (by decide) (fun hc20 => ?_) (fun hc20 => ?_)
    · rw [if_neg hc20] at h
      refine v_iconst (v := 0) F dX11_worked_153 (by decide) ?_
      cases h
      exact v_iret F hr rfl hlk dX11_worked_154
    · rw [if_pos hc20] at h
      refine v_iconst (v := 1) F dX11_worked_149 (by decide) ?_
      refine v_goto (tgt := 154) F dX11_worked_150 (by decide) ?_
      cases h
      exact v_iret F hr rfl hlk dX11_worked_154
  rw [if_neg hs19] at h
  by_cases hs21 : i0 = 10033
  · rw [if_pos hs21] at h
    rw [show (Value.int i0) = Value.int 10033 from congrArg Value.int hs21]
    refine v_tableIn (tgt := 159) F dX11_worked_1 (by decide) (by decide) rfl (by decide) ?_
    refine v_iload_n F dX11_worked_159 rfl 1 rfl ?_
    refine v_iload_n F dX11_worked_160 rfl 2 rfl ?_
    refine v_ior F dX11_worked_161 ?_
    cases h
    exact v_iret F hr rfl hlk dX11_worked_162
  rw [if_neg hs21] at h
  by_cases hs22 : i0 = 10034
  · rw [if_pos hs22] at h
    rw [show (Value.int i0) = Value.int 10034 from congrArg Value.int hs22]
    refine v_tableIn (tgt := 155) F dX11_worked_1 (by decide) (by decide) rfl (by decide) ?_
    refine v_iload_n F dX11_worked_155 rfl 1 rfl ?_
    refine v_iload_n F dX11_worked_156 rfl 2 rfl ?_
    refine v_iand F dX11_worked_157 ?_
    cases h
    exact v_iret F hr rfl hlk dX11_worked_158
  rw [if_neg hs22] at h
  refine v_tableOut (tgt := 159) F dX11_worked_1 (sw_out 10020 10034 (by decide) (by decide) ?_) (by decide) ?_
  · intro j9 h1 h2
    obtain rfl | rfl | rfl | rfl | rfl | rfl | rfl | rfl | rfl | rfl | rfl | rfl | rfl | rfl | rfl : j9 = 10020 ∨ j9 = 10021 ∨ j9 = 10022 ∨ j9 = 10023 ∨ j9 = 10024 ∨ j9 = 10025 ∨ j9 = 10026 ∨ j9 = 10027 ∨ j9 = 10028 ∨ j9 = 10029 ∨ j9 = 10030 ∨ j9 = 10031 ∨ j9 = 10032 ∨ j9 = 10033 ∨ j9 = 10034 := by omega
    · exact fun q => hs1 (by rw [← Int32.toInt_inj]; exact q)
    · exact fun q => hs2 (by rw [← Int32.toInt_inj]; exact q)
    · exact fun q => hs3 (by rw [← Int32.toInt_inj]; exact q)
    · exact fun q => hs4 (by rw [← Int32.toInt_inj]; exact q)
    · exact fun q => hs7 (by rw [← Int32.toInt_inj]; exact q)
    · exact fun q => hs9 (by rw [← Int32.toInt_inj]; exact q)
    · exact fun q => hs11 (by rw [← Int32.toInt_inj]; exact q)
    · exact fun q => hs12 (by rw [← Int32.toInt_inj]; exact q)
    · exact fun q => hs13 (by rw [← Int32.toInt_inj]; exact q)
    · exact fun q => hs14 (by rw [← Int32.toInt_inj]; exact q)
    · exact fun q => hs15 (by rw [← Int32.toInt_inj]; exact q)
    · exact fun q => hs17 (by rw [← Int32.toInt_inj]; exact q)
    · exact fun q => hs19 (by rw [← Int32.toInt_inj]; exact q)
    · exact fun q => hs21 (by rw [← Int32.toInt_inj]; exact q)
    · exact fun q => hs22 (by rw [← Int32.toInt_inj]; exact q)
  refine v_iload_n F dX11_worked_159 rfl 1 rfl ?_
  refine v_iload_n F dX11_worked_160 rfl 2 rfl ?_
  refine v_ior F dX11_worked_161 ?_
  cases h
  exact v_iret F hr rfl hlk dX11_worked_162
