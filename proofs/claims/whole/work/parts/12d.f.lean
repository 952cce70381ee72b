def f_X11_tick_b59 (a0 : Nat) (i1 : Int32) (i2 : Int32) (k2 : Int32 → Mem → Option (Int32 × Mem)) (k24 : Int32 → Int32 → Mem → Option (Int32 × Mem)) (s0 : Int32) (x3 : Int32) (x4 : Int32) (x5 : Int32) (M : Mem) : Option (Int32 × Mem) := if ¬ ((2 + x4) < 0 ∨ gN (gRf a0 23) ≤ (2 + x4 : Int32).toNatClampNeg) then ((f_X11_pulls M a0 x4 x3).bind fun q => match q with | (r19, M20) => (if ¬ ((0 : Int32) < 0 ∨ gN (gRf a0 21) ≤ (0 : Int32).toNatClampNeg) then (if (M20 (gRf a0 21) (0 : Int32).toNatClampNeg) = 0 then none else if ¬ ((4 : Int32) < 0 ∨ gN (gRf a0 21) ≤ (4 : Int32).toNatClampNeg) then ((f_X11_within M20 ((x5 + (((r19 / 10) + s0) / (M20 (gRf a0 21) (0 : Int32).toNatClampNeg))) - (((M20 (gRf a0 21) (4 : Int32).toNatClampNeg) * x5) / 100)) (-1000000) 1000000).bind fun q => match q with | (r28, M29) => (if ¬ (x3 < 0 ∨ gN (gRf (gRf a0 23) (2 + x4 : Int32).toNatClampNeg) ≤ x3.toNatClampNeg) then (if ¬ (x4 < 0 ∨ gN (gRf a0 23) ≤ x4.toNatClampNeg) then (if ¬ (x4 < 0 ∨ gN (gRf a0 22) ≤ x4.toNatClampNeg) then (if ¬ (x3 < 0 ∨ gN (gRf (gRf a0 22) x4.toNatClampNeg) ≤ x3.toNatClampNeg) then (if ¬ ((2 + x4) < 0 ∨ gN (gRf a0 23) ≤ (2 + x4 : Int32).toNatClampNeg) then (if ¬ (x3 < 0 ∨ gN (gRf (gRf a0 23) (2 + x4 : Int32).toNatClampNeg) ≤ x3.toNatClampNeg) then ((f_X11_within (mU M29 (gRf (gRf a0 23) (2 + x4 : Int32).toNatClampNeg) x3.toNatClampNeg r28) (((mU M29 (gRf (gRf a0 23) (2 + x4 : Int32).toNatClampNeg) x3.toNatClampNeg r28) (gRf (gRf a0 22) x4.toNatClampNeg) x3.toNatClampNeg) + ((mU M29 (gRf (gRf a0 23) (2 + x4 : Int32).toNatClampNeg) x3.toNatClampNeg r28) (gRf (gRf a0 23) (2 + x4 : Int32).toNatClampNeg) x3.toNatClampNeg)) (-1000000) 1000000).bind fun q => match q with | (r44, M45) => (if ¬ (x3 < 0 ∨ gN (gRf (gRf a0 23) x4.toNatClampNeg) ≤ x3.toNatClampNeg) then (k24 x3 (x4 + 1) (mU M45 (gRf (gRf a0 23) x4.toNatClampNeg) x3.toNatClampNeg r44)) else none)) else none) else none) else none) else none) else none) else none)) else none) else none)) else none
def f_X11_tick_h24 (a0 : Nat) (i1 : Int32) (i2 : Int32) (k2 : Int32 → Mem → Option (Int32 × Mem)) : Nat → Int32 → Int32 → Mem → Option (Int32 × Mem)
  | 0, _, _, _ => none
  | n + 1, x3, x4, M => if 2 ≤ x4 then (k2 (x3 + 1) M) else (if ¬ ((2 + x4) < 0 ∨ gN (gRf a0 22) ≤ (2 + x4 : Int32).toNatClampNeg) then (if ¬ (x3 < 0 ∨ gN (gRf (gRf a0 22) (2 + x4 : Int32).toNatClampNeg) ≤ x3.toNatClampNeg) then (if x4 = 0 then (f_X11_tick_b59 a0 i1 i2 k2 (f_X11_tick_h24 a0 i1 i2 k2 n) (M a0 16) x3 x4 (M (gRf (gRf a0 22) (2 + x4 : Int32).toNatClampNeg) x3.toNatClampNeg) M) else (f_X11_tick_b59 a0 i1 i2 k2 (f_X11_tick_h24 a0 i1 i2 k2 n) (M a0 17) x3 x4 (M (gRf (gRf a0 22) (2 + x4 : Int32).toNatClampNeg) x3.toNatClampNeg) M)) else none) else none)
def f_X11_tick_b245 (a0 : Nat) (i1 : Int32) (i2 : Int32) (k166 : Int32 → Mem → Option (Int32 × Mem)) (x3 : Int32) (M : Mem) : Option (Int32 × Mem) := k166 (x3 + 1) M
def f_X11_tick_h177 (a0 : Nat) (i1 : Int32) (i2 : Int32) (k166 : Int32 → Mem → Option (Int32 × Mem)) : Nat → Int32 → Int32 → Mem → Option (Int32 × Mem)
  | 0, _, _, _ => none
  | n + 1, x3, x4, M => if 4 ≤ x4 then (if ¬ (x3 < 0 ∨ gN (gRf a0 24) ≤ x3.toNatClampNeg) then (if (M (gRf a0 24) x3.toNatClampNeg) = 2 then (if ¬ ((1 : Int32) < 0 ∨ gN (gRf a0 22) ≤ (1 : Int32).toNatClampNeg) then (if ¬ (x3 < 0 ∨ gN (gRf (gRf a0 22) (1 : Int32).toNatClampNeg) ≤ x3.toNatClampNeg) then ((f_X11_amount M (M (gRf (gRf a0 22) (1 : Int32).toNatClampNeg) x3.toNatClampNeg)).bind fun q => match q with | (r58, M59) => (if ¬ ((7 : Int32) < 0 ∨ gN (gRf a0 21) ≤ (7 : Int32).toNatClampNeg) then (if r58 ≤ (M59 (gRf a0 21) (7 : Int32).toNatClampNeg) then (f_X11_tick_b245 a0 i1 i2 k166 x3 M59) else (if ¬ (x3 < 0 ∨ gN (gRf a0 24) ≤ x3.toNatClampNeg) then (f_X11_tick_b245 a0 i1 i2 k166 x3 (mU M59 (gRf a0 24) x3.toNatClampNeg 1)) else none)) else none)) else none) else none) else (f_X11_tick_b245 a0 i1 i2 k166 x3 M)) else none) else (if ¬ (x4 < 0 ∨ gN (gRf a0 22) ≤ x4.toNatClampNeg) then (if ¬ (x4 < 0 ∨ gN (gRf a0 23) ≤ x4.toNatClampNeg) then (if ¬ (x3 < 0 ∨ gN (gRf (gRf a0 23) x4.toNatClampNeg) ≤ x3.toNatClampNeg) then (if ¬ (x3 < 0 ∨ gN (gRf (gRf a0 22) x4.toNatClampNeg) ≤ x3.toNatClampNeg) then ((f_X11_tick_h177 a0 i1 i2 k166 n) x3 (x4 + 1) (mU M (gRf (gRf a0 22) x4.toNatClampNeg) x3.toNatClampNeg (M (gRf (gRf a0 23) x4.toNatClampNeg) x3.toNatClampNeg))) else none) else none) else none) else none)
def f_X11_tick_b312 (a0 : Nat) (i1 : Int32) (i2 : Int32) (k253 : Int32 → Mem → Option (Int32 × Mem)) (x3 : Int32) (M : Mem) : Option (Int32 × Mem) := k253 (x3 + 1) M
def f_X11_tick_h253 (a0 : Nat) (i1 : Int32) (i2 : Int32)  : Nat → Int32 → Mem → Option (Int32 × Mem)
  | 0, _, _ => none
  | n + 1, x3, M => if (M a0 19) ≤ (x3 + 1) then (some (0, (mU M a0 20 ((M a0 20) + 1)))) else (if ¬ ((9 : Int32) < 0 ∨ gN (gRf a0 21) ≤ (9 : Int32).toNatClampNeg) then (if (M (gRf a0 21) (9 : Int32).toNatClampNeg) ≤ 0 then (f_X11_tick_b312 a0 i1 i2 (f_X11_tick_h253 a0 i1 i2 n) x3 M) else (if ¬ ((1 : Int32) < 0 ∨ gN (gRf a0 22) ≤ (1 : Int32).toNatClampNeg) then (if ¬ (x3 < 0 ∨ gN (gRf (gRf a0 22) (1 : Int32).toNatClampNeg) ≤ x3.toNatClampNeg) then (if ¬ ((1 : Int32) < 0 ∨ gN (gRf a0 22) ≤ (1 : Int32).toNatClampNeg) then (if ¬ ((x3 + 1) < 0 ∨ gN (gRf (gRf a0 22) (1 : Int32).toNatClampNeg) ≤ (x3 + 1 : Int32).toNatClampNeg) then ((f_X11_amount M ((M (gRf (gRf a0 22) (1 : Int32).toNatClampNeg) x3.toNatClampNeg) - (M (gRf (gRf a0 22) (1 : Int32).toNatClampNeg) (x3 + 1 : Int32).toNatClampNeg))).bind fun q => match q with | (r87, M88) => (if ¬ ((9 : Int32) < 0 ∨ gN (gRf a0 21) ≤ (9 : Int32).toNatClampNeg) then (if r87 ≤ (M88 (gRf a0 21) (9 : Int32).toNatClampNeg) then (f_X11_tick_b312 a0 i1 i2 (f_X11_tick_h253 a0 i1 i2 n) x3 M88) else (if ¬ (x3 < 0 ∨ gN (gRf a0 25) ≤ x3.toNatClampNeg) then (f_X11_tick_b312 a0 i1 i2 (f_X11_tick_h253 a0 i1 i2 n) x3 (mU M88 (gRf a0 25) x3.toNatClampNeg 1)) else none)) else none)) else none) else none) else none) else none)) else none)
def f_X11_tick_h166 (a0 : Nat) (i1 : Int32) (i2 : Int32)  : Nat → Int32 → Mem → Option (Int32 × Mem)
  | 0, _, _ => none
  | n + 1, x3, M => if (M a0 19) ≤ x3 then (f_X11_tick_h253 a0 i1 i2 FU 0 M) else (f_X11_tick_h177 a0 i1 i2 (f_X11_tick_h166 a0 i1 i2 n) FU x3 0 M)
def f_X11_tick_h2 (a0 : Nat) (i1 : Int32) (i2 : Int32)  : Nat → Int32 → Mem → Option (Int32 × Mem)
  | 0, _, _ => none
  | n + 1, x3, M => if (M a0 19) ≤ x3 then (f_X11_tick_h166 a0 i1 i2 FU 0 M) else ((f_X11_tellsNames M a0 i2 x3).bind fun q => match q with | (r2, M3) => ((f_X11_asks M3 a0 i1).bind fun q => match q with | (r6, M7) => (f_X11_tick_h24 a0 i1 i2 (f_X11_tick_h2 a0 i1 i2 n) FU x3 0 M7)))
def f_X11_tick  (M : Mem) (a0 : Nat) (i1 : Int32) (i2 : Int32) : Option (Int32 × Mem) := f_X11_tick_h2 a0 i1 i2 FU 0 M
set_option maxHeartbeats 4000000 in
set_option maxRecDepth 100000 in
theorem w_X11_tick_b59 {g : gT} {p : Program} {l : Launch} {e : Env} {s : State} {m : MethodId} {args : Array Value} {below : List Frame} {meth : Method} {c : Code} {z : Int32 × Mem} (F : Fx g p s m args c cX11_tick 7 uX11_tick RX11) (hr : meth.sig.returnType = none) (hlk : meth.locks = false)  {a0 : Nat} {i1 : Int32} {i2 : Int32} (t0 : Ty g 11 a0) {k2 : Int32 → Mem → Option (Int32 × Mem)} {k24 : Int32 → Int32 → Mem → Option (Int32 × Mem)} (hk2 : ∀ (x3 : Int32) (M : Mem), k2 x3 M = some z → V g p l e ({ frames := 2, cells := 0, slots := 0, locals := 40 * 2 } : Room) s m args below meth c 7 0 0 (MQ below (gQ g none z.2) args s 0 0 (gA g)) 2 [(0, .ref (gAd g a0)), (1, .int i1), (2, .int i2), (3, .int x3)] [] M) (hk24 : ∀ (x3 : Int32) (x4 : Int32) (M : Mem), k24 x3 x4 M = some z → V g p l e ({ frames := 2, cells := 0, slots := 0, locals := 40 * 2 } : Room) s m args below meth c 7 0 0 (MQ below (gQ g none z.2) args s 0 0 (gA g)) 24 [(0, .ref (gAd g a0)), (1, .int i1), (2, .int i2), (3, .int x3), (4, .int x4)] [] M) (s0 : Int32) (x3 : Int32) (x4 : Int32) (x5 : Int32) (M : Mem)  (h : f_X11_tick_b59 a0 i1 i2 k2 k24 s0 x3 x4 x5 M = some z) : V g p l e ({ frames := 2, cells := 0, slots := 0, locals := 40 * 2 } : Room) s m args below meth c 7 0 0 (MQ below (gQ g none z.2) args s 0 0 (gA g)) 59 [(0, .ref (gAd g a0)), (1, .int i1), (2, .int i2), (3, .int x3), (4, .int x4), (5, .int x5)] [.int s0] M := by
  unfold f_X11_tick_b59 at h
  refine v_istore (lv' := [(6, .int s0), (0, .ref (gAd g a0)), (1, .int i1), (2, .int i2), (3, .int x3), (4, .int x4), (5, .int x5)]) F dX11_tick_59 (by decide) rfl ?_
  refine v_aload_n F dX11_tick_61 rfl 1 rfl ?_
  refine v_getR (k := 23) (f := 16) F t0 (by decide) (inc inU_11) rfl rfl (by decide) (by decide) (List.mem_cons_of_mem _ fl_X11_46) rfl dX11_tick_62 (fun u16 => ?_)
  refine v_iconst (v := 2) F dX11_tick_65 (by decide) ?_
  refine v_iload F dX11_tick_66 5 rfl ?_
  refine v_iadd F dX11_tick_68 ?_
  obtain ⟨hin17, h⟩ := gd_some h
  refine v_aald (ke := 12) (t0 := 4) F u16 (by decide) rfl rfl hin17 dX11_tick_69 (fun u18 => ?_)
  refine v_iload_n F dX11_tick_70 rfl 4 rfl ?_
  refine v_iload F dX11_tick_71 6 rfl ?_
  refine v_aload_n F dX11_tick_73 rfl 1 rfl ?_
  refine v_iload F dX11_tick_74 5 rfl ?_
  refine v_iload_n F dX11_tick_76 rfl 4 rfl ?_
  obtain ⟨⟨r19, M20⟩, hz21, h⟩ := bd_some h
  dsimp only at h
  refine v_callVi (As := [.int x4, .int x3]) (rest := [.int x5, .int x3, .ref (gAd g (gRf (gRf a0 23) (2 + x4 : Int32).toNatClampNeg))]) F (c_X11_pulls l F.2.2.1 t0 hz21) (cwV 2 F.1.2.2.2.2 (gU_V ml_X11_236 im_yX11_pulls se_yX11_pulls ini_X11 cd_X11_pulls) rfl rfl rfl (by decide +kernel) ⟨Nat.le_of_ble_eq_true rfl, Nat.le_of_ble_eq_true rfl⟩) t0 (by decide) rfl rfl rfl (Nat.le_of_ble_eq_true rfl) dX11_tick_77 ⟨Nat.le_of_ble_eq_true rfl, Nat.le_of_ble_eq_true rfl⟩ ?_
  refine v_bipush (v := 10) F dX11_tick_80 (by decide) ?_
  refine v_idiv F dX11_tick_82 (by decide) ?_
  refine v_iload F dX11_tick_83 0 rfl ?_
  refine v_iadd F dX11_tick_85 ?_
  refine v_aload_n F dX11_tick_86 rfl 1 rfl ?_
  refine v_getR (k := 21) (f := 12) F t0 (by decide) (inc inU_11) rfl rfl (by decide) (by decide) (List.mem_cons_of_mem _ fl_X11_40) rfl dX11_tick_87 (fun u23 => ?_)
  refine v_iconst (v := 0) F dX11_tick_90 (by decide) ?_
  obtain ⟨hin24, h⟩ := gd_some h
  refine v_iald F u23 hin24 dX11_tick_91 ?_
  by_cases hz25 : (M20 (gRf a0 21) (0 : Int32).toNatClampNeg) = 0
  · rw [if_pos hz25] at h; cases h
  rw [if_neg hz25] at h
  refine v_idiv F dX11_tick_92 hz25 ?_
  refine v_iadd F dX11_tick_93 ?_
  refine v_aload_n F dX11_tick_94 rfl 1 rfl ?_
  refine v_getR (k := 21) (f := 12) F t0 (by decide) (inc inU_11) rfl rfl (by decide) (by decide) (List.mem_cons_of_mem _ fl_X11_40) rfl dX11_tick_95 (fun u26 => ?_)
  refine v_iconst (v := 4) F dX11_tick_98 (by decide) ?_
  obtain ⟨hin27, h⟩ := gd_some h
  refine v_iald F u26 hin27 dX11_tick_99 ?_
  refine v_iload F dX11_tick_100 6 rfl ?_
  refine v_imul F dX11_tick_102 ?_
  refine v_bipush (v := 100) F dX11_tick_103 (by decide) ?_
  refine v_idiv F dX11_tick_105 (by decide) ?_
  refine v_isub F dX11_tick_106 ?_
  refine v_ldc (v := (-1000000)) F (F.1.2.2.2.2 _ (List.mem_cons_of_mem _ cn_X11_240)) dX11_tick_107 ?_
  refine v_ldc (v := 1000000) F (F.1.2.2.2.2 _ (List.mem_cons_of_mem _ cn_X11_241)) dX11_tick_109 ?_
  obtain ⟨⟨r28, M29⟩, hz30, h⟩ := bd_some h
  dsimp only at h
  refine v_callSi (As := [.int ((x5 + (((r19 / 10) + s0) / (M20 (gRf a0 21) (0 : Int32).toNatClampNeg))) - (((M20 (gRf a0 21) (4 : Int32).toNatClampNeg) * x5) / 100)), .int (-1000000), .int 1000000]) (rest := [.int x3, .ref (gAd g (gRf (gRf a0 23) (2 + x4 : Int32).toNatClampNeg))]) F (c_X11_within l F.2.2.1  hz30) (cwS 3 F.1.2.2.2.2 (gU_S ml_X11_191 st_yX11_within ini_X11 cd_X11_within) rfl rfl rfl (by decide +kernel) ⟨Nat.le_of_ble_eq_true rfl, Nat.le_of_ble_eq_true rfl⟩) rfl rfl (Nat.le_of_ble_eq_true rfl) dX11_tick_111 ⟨Nat.le_of_ble_eq_true rfl, Nat.le_of_ble_eq_true rfl⟩ ?_
  obtain ⟨hin32, h⟩ := gd_some h
  refine v_iast F u18 hin32 dX11_tick_114 ?_
  refine v_aload_n F dX11_tick_115 rfl 1 rfl ?_
  refine v_getR (k := 23) (f := 16) F t0 (by decide) (inc inU_11) rfl rfl (by decide) (by decide) (List.mem_cons_of_mem _ fl_X11_46) rfl dX11_tick_116 (fun u33 => ?_)
  refine v_iload F dX11_tick_119 5 rfl ?_
  obtain ⟨hin34, h⟩ := gd_some h
  refine v_aald (ke := 12) (t0 := 4) F u33 (by decide) rfl rfl hin34 dX11_tick_121 (fun u35 => ?_)
  refine v_iload_n F dX11_tick_122 rfl 4 rfl ?_
  refine v_aload_n F dX11_tick_123 rfl 1 rfl ?_
  refine v_getR (k := 22) (f := 16) F t0 (by decide) (inc inU_11) rfl rfl (by decide) (by decide) (List.mem_cons_of_mem _ fl_X11_43) rfl dX11_tick_124 (fun u36 => ?_)
  refine v_iload F dX11_tick_127 5 rfl ?_
  obtain ⟨hin37, h⟩ := gd_some h
  refine v_aald (ke := 12) (t0 := 4) F u36 (by decide) rfl rfl hin37 dX11_tick_129 (fun u38 => ?_)
  refine v_iload_n F dX11_tick_130 rfl 4 rfl ?_
  obtain ⟨hin39, h⟩ := gd_some h
  refine v_iald F u38 hin39 dX11_tick_131 ?_
  refine v_aload_n F dX11_tick_132 rfl 1 rfl ?_
  refine v_getR (k := 23) (f := 16) F t0 (by decide) (inc inU_11) rfl rfl (by decide) (by decide) (List.mem_cons_of_mem _ fl_X11_46) rfl dX11_tick_133 (fun u40 => ?_)
  refine v_iconst (v := 2) F dX11_tick_136 (by decide) ?_
  refine v_iload F dX11_tick_137 5 rfl ?_
  refine v_iadd F dX11_tick_139 ?_
  obtain ⟨hin41, h⟩ := gd_some h
  refine v_aald (ke := 12) (t0 := 4) F u40 (by decide) rfl rfl hin41 dX11_tick_140 (fun u42 => ?_)
  refine v_iload_n F dX11_tick_141 rfl 4 rfl ?_
  obtain ⟨hin43, h⟩ := gd_some h
  refine v_iald F u42 hin43 dX11_tick_142 ?_
  refine v_iadd F dX11_tick_143 ?_
  refine v_ldc (v := (-1000000)) F (F.1.2.2.2.2 _ (List.mem_cons_of_mem _ cn_X11_240)) dX11_tick_144 ?_
  refine v_ldc (v := 1000000) F (F.1.2.2.2.2 _ (List.mem_cons_of_mem _ cn_X11_241)) dX11_tick_146 ?_
  obtain ⟨⟨r44, M45⟩, hz46, h⟩ := bd_some h
  dsimp only at h
  refine v_callSi (As := [.int (((mU M29 (gRf (gRf a0 23) (2 + x4 : Int32).toNatClampNeg) x3.toNatClampNeg r28) (gRf (gRf a0 22) x4.toNatClampNeg) x3.toNatClampNeg) + ((mU M29 (gRf (gRf a0 23) (2 + x4 : Int32).toNatClampNeg) x3.toNatClampNeg r28) (gRf (gRf a0 23) (2 + x4 : Int32).toNatClampNeg) x3.toNatClampNeg)), .int (-1000000), .int 1000000]) (rest := [.int x3, .ref (gAd g (gRf (gRf a0 23) x4.toNatClampNeg))]) F (c_X11_within l F.2.2.1  hz46) (cwS 3 F.1.2.2.2.2 (gU_S ml_X11_191 st_yX11_within ini_X11 cd_X11_within) rfl rfl rfl (by decide +kernel) ⟨Nat.le_of_ble_eq_true rfl, Nat.le_of_ble_eq_true rfl⟩) rfl rfl (Nat.le_of_ble_eq_true rfl) dX11_tick_148 ⟨Nat.le_of_ble_eq_true rfl, Nat.le_of_ble_eq_true rfl⟩ ?_
  obtain ⟨hin48, h⟩ := gd_some h
  refine v_iast F u35 hin48 dX11_tick_151 ?_
  refine v_iinc (v := x4 + 1) (lv' := [(4, .int (x4 + 1)), (6, .int s0), (0, .ref (gAd g a0)), (1, .int i1), (2, .int i2), (3, .int x3), (5, .int x5)]) F dX11_tick_152 (q := 5) rfl rfl (by decide) rfl ?_
  refine v_goto (tgt := 24) F dX11_tick_155 (by decide) ?_
  refine v_sub (fun ls h9 => lv_sub h9 [2, 3, 4, 5, 0] rfl) ?_
  exact hk24 _ _ _ h
set_option maxHeartbeats 4000000 in
set_option maxRecDepth 100000 in
theorem w_X11_tick_h24 {g : gT} {p : Program} {l : Launch} {e : Env} {s : State} {m : MethodId} {args : Array Value} {below : List Frame} {meth : Method} {c : Code} {z : Int32 × Mem} (F : Fx g p s m args c cX11_tick 7 uX11_tick RX11) (hr : meth.sig.returnType = none) (hlk : meth.locks = false)  {a0 : Nat} {i1 : Int32} {i2 : Int32} (t0 : Ty g 11 a0) {k2 : Int32 → Mem → Option (Int32 × Mem)} (hk2 : ∀ (x3 : Int32) (M : Mem), k2 x3 M = some z → V g p l e ({ frames := 2, cells := 0, slots := 0, locals := 40 * 2 } : Room) s m args below meth c 7 0 0 (MQ below (gQ g none z.2) args s 0 0 (gA g)) 2 [(0, .ref (gAd g a0)), (1, .int i1), (2, .int i2), (3, .int x3)] [] M) : ∀ (n : Nat) (x3 : Int32) (x4 : Int32) (M : Mem), f_X11_tick_h24 a0 i1 i2 k2 n x3 x4 M = some z → V g p l e ({ frames := 2, cells := 0, slots := 0, locals := 40 * 2 } : Room) s m args below meth c 7 0 0 (MQ below (gQ g none z.2) args s 0 0 (gA g)) 24 [(0, .ref (gAd g a0)), (1, .int i1), (2, .int i2), (3, .int x3), (4, .int x4)] [] M := by
  intro n
  induction n with
  | zero => intro x3 x4 M; intros; rename_i h; cases h
  | succ n ih =>
    intro x3 x4 M h
    rw [f_X11_tick_h24] at h
    refine v_iload F dX11_tick_24 4 rfl ?_
    refine v_iconst (v := 2) F dX11_tick_26 (by decide) ?_
    refine v_icmp_ge (tgt := 158) F dX11_tick_27 (by decide) (fun hc10 => ?_) (fun hc10 => ?_)
    · rw [if_pos hc10] at h
      refine v_iinc (v := x3 + 1) (lv' := [(3, .int (x3 + 1)), (0, .ref (gAd g a0)), (1, .int i1), (2, .int i2), (4, .int x4)]) F dX11_tick_158 (q := 3) rfl rfl (by decide) rfl ?_
      refine v_goto (tgt := 2) F dX11_tick_161 (by decide) ?_
      refine v_sub (fun ls h9 => lv_sub h9 [1, 2, 3, 0] rfl) ?_
      exact hk2 _ _ h
    · rw [if_neg hc10] at h
      refine v_aload_n F dX11_tick_30 rfl 0 rfl ?_
      refine v_getR (k := 22) (f := 16) F t0 (by decide) (inc inU_11) rfl rfl (by decide) (by decide) (List.mem_cons_of_mem _ fl_X11_43) rfl dX11_tick_31 (fun u11 => ?_)
      refine v_iconst (v := 2) F dX11_tick_34 (by decide) ?_
      refine v_iload F dX11_tick_35 4 rfl ?_
      refine v_iadd F dX11_tick_37 ?_
      obtain ⟨hin12, h⟩ := gd_some h
      refine v_aald (ke := 12) (t0 := 4) F u11 (by decide) rfl rfl hin12 dX11_tick_38 (fun u13 => ?_)
      refine v_iload_n F dX11_tick_39 rfl 3 rfl ?_
      obtain ⟨hin14, h⟩ := gd_some h
      refine v_iald F u13 hin14 dX11_tick_40 ?_
      refine v_istore (lv' := [(5, .int (M (gRf (gRf a0 22) (2 + x4 : Int32).toNatClampNeg) x3.toNatClampNeg)), (0, .ref (gAd g a0)), (1, .int i1), (2, .int i2), (3, .int x3), (4, .int x4)]) F dX11_tick_41 (by decide) rfl ?_
      refine v_iload F dX11_tick_43 5 rfl ?_
      refine v_if_ne (tgt := 55) F dX11_tick_45 (by decide) (fun hc15 => ?_) (fun hc15 => ?_)
      · rw [if_neg hc15] at h
        refine v_aload_n F dX11_tick_55 rfl 1 rfl ?_
        refine v_getI (k := 17) F t0 (by decide) (inc inU_11) rfl rfl (by decide) (List.mem_cons_of_mem _ fl_X11_197) rfl dX11_tick_56 ?_
        refine v_sub (fun ls h9 => lv_sub h9 [1, 2, 3, 4, 5, 0] rfl) ?_
        exact w_X11_tick_b59 F hr hlk t0 hk2 ih _ _ _ _ _ h
      · rw [if_pos hc15] at h
        refine v_aload_n F dX11_tick_48 rfl 1 rfl ?_
        refine v_getI (k := 16) F t0 (by decide) (inc inU_11) rfl rfl (by decide) (List.mem_cons_of_mem _ fl_X11_194) rfl dX11_tick_49 ?_
        refine v_goto (tgt := 59) F dX11_tick_52 (by decide) ?_
        refine v_sub (fun ls h9 => lv_sub h9 [1, 2, 3, 4, 5, 0] rfl) ?_
        exact w_X11_tick_b59 F hr hlk t0 hk2 ih _ _ _ _ _ h
set_option maxHeartbeats 4000000 in
set_option maxRecDepth 100000 in
theorem w_X11_tick_b245 {g : gT} {p : Program} {l : Launch} {e : Env} {s : State} {m : MethodId} {args : Array Value} {below : List Frame} {meth : Method} {c : Code} {z : Int32 × Mem} (F : Fx g p s m args c cX11_tick 7 uX11_tick RX11) (hr : meth.sig.returnType = none) (hlk : meth.locks = false)  {a0 : Nat} {i1 : Int32} {i2 : Int32} (t0 : Ty g 11 a0) {k166 : Int32 → Mem → Option (Int32 × Mem)} (hk166 : ∀ (x3 : Int32) (M : Mem), k166 x3 M = some z → V g p l e ({ frames := 2, cells := 0, slots := 0, locals := 40 * 2 } : Room) s m args below meth c 7 0 0 (MQ below (gQ g none z.2) args s 0 0 (gA g)) 166 [(0, .ref (gAd g a0)), (1, .int i1), (2, .int i2), (3, .int x3)] [] M) (x3 : Int32) (M : Mem)  (h : f_X11_tick_b245 a0 i1 i2 k166 x3 M = some z) : V g p l e ({ frames := 2, cells := 0, slots := 0, locals := 40 * 2 } : Room) s m args below meth c 7 0 0 (MQ below (gQ g none z.2) args s 0 0 (gA g)) 245 [(0, .ref (gAd g a0)), (1, .int i1), (2, .int i2), (3, .int x3)] [] M := by
  unfold f_X11_tick_b245 at h
  refine v_iinc (v := x3 + 1) (lv' := [(3, .int (x3 + 1)), (0, .ref (gAd g a0)), (1, .int i1), (2, .int i2)]) F dX11_tick_245 (q := 3) rfl rfl (by decide) rfl ?_
  refine v_goto (tgt := 166) F dX11_tick_248 (by decide) ?_
  refine v_sub (fun ls h9 => lv_sub h9 [1, 2, 3, 0] rfl) ?_
  exact hk166 _ _ h
set_option maxHeartbeats 4000000 in
set_option maxRecDepth 100000 in
theorem w_X11_tick_h177 {g : gT} {p : Program} {l : Launch} {e : Env} {s : State} {m : MethodId} {args : Array Value} {below : List Frame} {meth : Method} {c : Code} {z : Int32 × Mem} (F : Fx g p s m args c cX11_tick 7 uX11_tick RX11) (hr : meth.sig.returnType = none) (hlk : meth.locks = false)  {a0 : Nat} {i1 : Int32} {i2 : Int32} (t0 : Ty g 11 a0) {k166 : Int32 → Mem → Option (Int32 × Mem)} (hk166 : ∀ (x3 : Int32) (M : Mem), k166 x3 M = some z → V g p l e ({ frames := 2, cells := 0, slots := 0, locals := 40 * 2 } : Room) s m args below meth c 7 0 0 (MQ below (gQ g none z.2) args s 0 0 (gA g)) 166 [(0, .ref (gAd g a0)), (1, .int i1), (2, .int i2), (3, .int x3)] [] M) : ∀ (n : Nat) (x3 : Int32) (x4 : Int32) (M : Mem), f_X11_tick_h177 a0 i1 i2 k166 n x3 x4 M = some z → V g p l e ({ frames := 2, cells := 0, slots := 0, locals := 40 * 2 } : Room) s m args below meth c 7 0 0 (MQ below (gQ g none z.2) args s 0 0 (gA g)) 177 [(0, .ref (gAd g a0)), (1, .int i1), (2, .int i2), (3, .int x3), (4, .int x4)] [] M := by
  intro n
  induction n with
  | zero => intro x3 x4 M; intros; rename_i h; cases h
  | succ n ih =>
    intro x3 x4 M h
    rw [f_X11_tick_h177] at h
    refine v_iload F dX11_tick_177 4 rfl ?_
    refine v_iconst (v := 4) F dX11_tick_179 (by decide) ?_
    refine v_icmp_ge (tgt := 207) F dX11_tick_180 (by decide) (fun hc50 => ?_) (fun hc50 => ?_)
    · rw [if_pos hc50] at h
      refine v_aload_n F dX11_tick_207 rfl 0 rfl ?_
      refine v_getR (k := 24) (f := 12) F t0 (by decide) (inc inU_11) rfl rfl (by decide) (by decide) (List.mem_cons_of_mem _ fl_X11_49) rfl dX11_tick_208 (fun u51 => ?_)
      refine v_iload_n F dX11_tick_211 rfl 3 rfl ?_
      obtain ⟨hin52, h⟩ := gd_some h
      refine v_iald F u51 hin52 dX11_tick_212 ?_
      refine v_iconst (v := 2) F dX11_tick_213 (by decide) ?_
      refine v_icmp_ne (tgt := 245) F dX11_tick_214 (by decide) (fun hc53 => ?_) (fun hc53 => ?_)
      · rw [if_neg hc53] at h
        refine v_sub (fun ls h9 => lv_sub h9 [0, 1, 2, 3] rfl) ?_
        exact w_X11_tick_b245 F hr hlk t0 hk166 _ _ h
      · rw [if_pos hc53] at h
        refine v_aload_n F dX11_tick_217 rfl 0 rfl ?_
        refine v_getR (k := 22) (f := 16) F t0 (by decide) (inc inU_11) rfl rfl (by decide) (by decide) (List.mem_cons_of_mem _ fl_X11_43) rfl dX11_tick_218 (fun u54 => ?_)
        refine v_iconst (v := 1) F dX11_tick_221 (by decide) ?_
        obtain ⟨hin55, h⟩ := gd_some h
        refine v_aald (ke := 12) (t0 := 4) F u54 (by decide) rfl rfl hin55 dX11_tick_222 (fun u56 => ?_)
        refine v_iload_n F dX11_tick_223 rfl 3 rfl ?_
        obtain ⟨hin57, h⟩ := gd_some h
        refine v_iald F u56 hin57 dX11_tick_224 ?_
        obtain ⟨⟨r58, M59⟩, hz60, h⟩ := bd_some h
        dsimp only at h
        refine v_callSi (As := [.int (M (gRf (gRf a0 22) (1 : Int32).toNatClampNeg) x3.toNatClampNeg)]) (rest := []) F (c_X11_amount l F.2.2.1  hz60) (cwS 1 F.1.2.2.2.2 (gU_S ml_X11_224 st_yX11_amount ini_X11 cd_X11_amount) rfl rfl rfl (by decide +kernel) ⟨Nat.le_of_ble_eq_true rfl, Nat.le_of_ble_eq_true rfl⟩) rfl rfl (Nat.le_of_ble_eq_true rfl) dX11_tick_225 ⟨Nat.le_of_ble_eq_true rfl, Nat.le_of_ble_eq_true rfl⟩ ?_
        refine v_aload_n F dX11_tick_228 rfl 0 rfl ?_
        refine v_getR (k := 21) (f := 12) F t0 (by decide) (inc inU_11) rfl rfl (by decide) (by decide) (List.mem_cons_of_mem _ fl_X11_40) rfl dX11_tick_229 (fun u62 => ?_)
        refine v_bipush (v := 7) F dX11_tick_232 (by decide) ?_
        obtain ⟨hin63, h⟩ := gd_some h
        refine v_iald F u62 hin63 dX11_tick_234 ?_
        refine v_icmp_le (tgt := 245) F dX11_tick_235 (by decide) (fun hc64 => ?_) (fun hc64 => ?_)
        · rw [if_pos hc64] at h
          refine v_sub (fun ls h9 => lv_sub h9 [0, 1, 2, 3] rfl) ?_
          exact w_X11_tick_b245 F hr hlk t0 hk166 _ _ h
        · rw [if_neg hc64] at h
          refine v_aload_n F dX11_tick_238 rfl 0 rfl ?_
          refine v_getR (k := 24) (f := 12) F t0 (by decide) (inc inU_11) rfl rfl (by decide) (by decide) (List.mem_cons_of_mem _ fl_X11_49) rfl dX11_tick_239 (fun u65 => ?_)
          refine v_iload_n F dX11_tick_242 rfl 3 rfl ?_
          refine v_iconst (v := 1) F dX11_tick_243 (by decide) ?_
          obtain ⟨hin66, h⟩ := gd_some h
          refine v_iast F u65 hin66 dX11_tick_244 ?_
          refine v_sub (fun ls h9 => lv_sub h9 [0, 1, 2, 3] rfl) ?_
          exact w_X11_tick_b245 F hr hlk t0 hk166 _ _ h
    · rw [if_neg hc50] at h
      refine v_aload_n F dX11_tick_183 rfl 0 rfl ?_
      refine v_getR (k := 22) (f := 16) F t0 (by decide) (inc inU_11) rfl rfl (by decide) (by decide) (List.mem_cons_of_mem _ fl_X11_43) rfl dX11_tick_184 (fun u67 => ?_)
      refine v_iload F dX11_tick_187 4 rfl ?_
      obtain ⟨hin68, h⟩ := gd_some h
      refine v_aald (ke := 12) (t0 := 4) F u67 (by decide) rfl rfl hin68 dX11_tick_189 (fun u69 => ?_)
      refine v_iload_n F dX11_tick_190 rfl 3 rfl ?_
      refine v_aload_n F dX11_tick_191 rfl 0 rfl ?_
      refine v_getR (k := 23) (f := 16) F t0 (by decide) (inc inU_11) rfl rfl (by decide) (by decide) (List.mem_cons_of_mem _ fl_X11_46) rfl dX11_tick_192 (fun u70 => ?_)
      refine v_iload F dX11_tick_195 4 rfl ?_
      obtain ⟨hin71, h⟩ := gd_some h
      refine v_aald (ke := 12) (t0 := 4) F u70 (by decide) rfl rfl hin71 dX11_tick_197 (fun u72 => ?_)
      refine v_iload_n F dX11_tick_198 rfl 3 rfl ?_
      obtain ⟨hin73, h⟩ := gd_some h
      refine v_iald F u72 hin73 dX11_tick_199 ?_
      obtain ⟨hin74, h⟩ := gd_some h
      refine v_iast F u69 hin74 dX11_tick_200 ?_
      refine v_iinc (v := x4 + 1) (lv' := [(4, .int (x4 + 1)), (0, .ref (gAd g a0)), (1, .int i1), (2, .int i2), (3, .int x3)]) F dX11_tick_201 (q := 4) rfl rfl (by decide) rfl ?_
      refine v_goto (tgt := 177) F dX11_tick_204 (by decide) ?_
      refine v_sub (fun ls h9 => lv_sub h9 [1, 2, 3, 4, 0] rfl) ?_
      exact ih _ _ _ h
set_option maxHeartbeats 4000000 in
set_option maxRecDepth 100000 in
theorem w_X11_tick_b312 {g : gT} {p : Program} {l : Launch} {e : Env} {s : State} {m : MethodId} {args : Array Value} {below : List Frame} {meth : Method} {c : Code} {z : Int32 × Mem} (F : Fx g p s m args c cX11_tick 7 uX11_tick RX11) (hr : meth.sig.returnType = none) (hlk : meth.locks = false)  {a0 : Nat} {i1 : Int32} {i2 : Int32} (t0 : Ty g 11 a0) {k253 : Int32 → Mem → Option (Int32 × Mem)} (hk253 : ∀ (x3 : Int32) (M : Mem), k253 x3 M = some z → V g p l e ({ frames := 2, cells := 0, slots := 0, locals := 40 * 2 } : Room) s m args below meth c 7 0 0 (MQ below (gQ g none z.2) args s 0 0 (gA g)) 253 [(0, .ref (gAd g a0)), (1, .int i1), (2, .int i2), (3, .int x3)] [] M) (x3 : Int32) (M : Mem)  (h : f_X11_tick_b312 a0 i1 i2 k253 x3 M = some z) : V g p l e ({ frames := 2, cells := 0, slots := 0, locals := 40 * 2 } : Room) s m args below meth c 7 0 0 (MQ below (gQ g none z.2) args s 0 0 (gA g)) 312 [(0, .ref (gAd g a0)), (1, .int i1), (2, .int i2), (3, .int x3)] [] M := by
  unfold f_X11_tick_b312 at h
  refine v_iinc (v := x3 + 1) (lv' := [(3, .int (x3 + 1)), (0, .ref (gAd g a0)), (1, .int i1), (2, .int i2)]) F dX11_tick_312 (q := 3) rfl rfl (by decide) rfl ?_
  refine v_goto (tgt := 253) F dX11_tick_315 (by decide) ?_
  refine v_sub (fun ls h9 => lv_sub h9 [1, 2, 3, 0] rfl) ?_
  exact hk253 _ _ h
set_option maxHeartbeats 4000000 in
set_option maxRecDepth 100000 in
theorem w_X11_tick_h253 {g : gT} {p : Program} {l : Launch} {e : Env} {s : State} {m : MethodId} {args : Array Value} {below : List Frame} {meth : Method} {c : Code} {z : Int32 × Mem} (F : Fx g p s m args c cX11_tick 7 uX11_tick RX11) (hr : meth.sig.returnType = none) (hlk : meth.locks = false)  {a0 : Nat} {i1 : Int32} {i2 : Int32} (t0 : Ty g 11 a0)   : ∀ (n : Nat) (x3 : Int32) (M : Mem), f_X11_tick_h253 a0 i1 i2 n x3 M = some z → V g p l e ({ frames := 2, cells := 0, slots := 0, locals := 40 * 2 } : Room) s m args below meth c 7 0 0 (MQ below (gQ g none z.2) args s 0 0 (gA g)) 253 [(0, .ref (gAd g a0)), (1, .int i1), (2, .int i2), (3, .int x3)] [] M := by
  intro n
  induction n with
  | zero => intro x3 M; intros; rename_i h; cases h
  | succ n ih =>
    intro x3 M h
    rw [f_X11_tick_h253] at h
    refine v_iload_n F dX11_tick_253 rfl 3 rfl ?_
    refine v_iconst (v := 1) F dX11_tick_254 (by decide) ?_
    refine v_iadd F dX11_tick_255 ?_
    refine v_aload_n F dX11_tick_256 rfl 0 rfl ?_
    refine v_getI (k := 19) F t0 (by decide) (inc inU_11) rfl rfl (by decide) (List.mem_cons_of_mem _ fl_X11_37) rfl dX11_tick_257 ?_
    refine v_icmp_ge (tgt := 318) F dX11_tick_260 (by decide) (fun hc75 => ?_) (fun hc75 => ?_)
    · rw [if_pos hc75] at h
      refine v_aload_n F dX11_tick_318 rfl 0 rfl ?_
      refine v_dup F dX11_tick_319 rfl ?_
      refine v_getI (k := 20) F t0 (by decide) (inc inU_11) rfl rfl (by decide) (List.mem_cons_of_mem _ fl_X11_200) rfl dX11_tick_320 ?_
      refine v_iconst (v := 1) F dX11_tick_323 (by decide) ?_
      refine v_iadd F dX11_tick_324 ?_
      refine v_put (k := 20) (ty := .int) F t0 (by decide) (inc inU_11) tyX11 tyX11_ok nmX11 rfl rfl (by decide) (List.mem_cons_of_mem _ fl_X11_200) rfl rfl (by decide +kernel) rfl rfl dX11_tick_325 ?_
      cases h
      exact v_vret F hr hlk dX11_tick_328
    · rw [if_neg hc75] at h
      refine v_aload_n F dX11_tick_263 rfl 0 rfl ?_
      refine v_getR (k := 21) (f := 12) F t0 (by decide) (inc inU_11) rfl rfl (by decide) (by decide) (List.mem_cons_of_mem _ fl_X11_40) rfl dX11_tick_264 (fun u76 => ?_)
      refine v_bipush (v := 9) F dX11_tick_267 (by decide) ?_
      obtain ⟨hin77, h⟩ := gd_some h
      refine v_iald F u76 hin77 dX11_tick_269 ?_
      refine v_if_le (tgt := 312) F dX11_tick_270 (by decide) (fun hc78 => ?_) (fun hc78 => ?_)
      · rw [if_pos hc78] at h
        exact w_X11_tick_b312 F hr hlk t0 ih _ _ h
      · rw [if_neg hc78] at h
        refine v_aload_n F dX11_tick_273 rfl 0 rfl ?_
        refine v_getR (k := 22) (f := 16) F t0 (by decide) (inc inU_11) rfl rfl (by decide) (by decide) (List.mem_cons_of_mem _ fl_X11_43) rfl dX11_tick_274 (fun u79 => ?_)
        refine v_iconst (v := 1) F dX11_tick_277 (by decide) ?_
        obtain ⟨hin80, h⟩ := gd_some h
        refine v_aald (ke := 12) (t0 := 4) F u79 (by decide) rfl rfl hin80 dX11_tick_278 (fun u81 => ?_)
        refine v_iload_n F dX11_tick_279 rfl 3 rfl ?_
        obtain ⟨hin82, h⟩ := gd_some h
        refine v_iald F u81 hin82 dX11_tick_280 ?_
        refine v_aload_n F dX11_tick_281 rfl 0 rfl ?_
        refine v_getR (k := 22) (f := 16) F t0 (by decide) (inc inU_11) rfl rfl (by decide) (by decide) (List.mem_cons_of_mem _ fl_X11_43) rfl dX11_tick_282 (fun u83 => ?_)
        refine v_iconst (v := 1) F dX11_tick_285 (by decide) ?_
        obtain ⟨hin84, h⟩ := gd_some h
        refine v_aald (ke := 12) (t0 := 4) F u83 (by decide) rfl rfl hin84 dX11_tick_286 (fun u85 => ?_)
        refine v_iload_n F dX11_tick_287 rfl 3 rfl ?_
        refine v_iconst (v := 1) F dX11_tick_288 (by decide) ?_
        refine v_iadd F dX11_tick_289 ?_
        obtain ⟨hin86, h⟩ := gd_some h
        refine v_iald F u85 hin86 dX11_tick_290 ?_
        refine v_isub F dX11_tick_291 ?_
        obtain ⟨⟨r87, M88⟩, hz89, h⟩ := bd_some h
        dsimp only at h
        refine v_callSi (As := [.int ((M (gRf (gRf a0 22) (1 : Int32).toNatClampNeg) x3.toNatClampNeg) - (M (gRf (gRf a0 22) (1 : Int32).toNatClampNeg) (x3 + 1 : Int32).toNatClampNeg))]) (rest := []) F (c_X11_amount l F.2.2.1  hz89) (cwS 1 F.1.2.2.2.2 (gU_S ml_X11_224 st_yX11_amount ini_X11 cd_X11_amount) rfl rfl rfl (by decide +kernel) ⟨Nat.le_of_ble_eq_true rfl, Nat.le_of_ble_eq_true rfl⟩) rfl rfl (Nat.le_of_ble_eq_true rfl) dX11_tick_292 ⟨Nat.le_of_ble_eq_true rfl, Nat.le_of_ble_eq_true rfl⟩ ?_
        refine v_aload_n F dX11_tick_295 rfl 0 rfl ?_
        refine v_getR (k := 21) (f := 12) F t0 (by decide) (inc inU_11) rfl rfl (by decide) (by decide) (List.mem_cons_of_mem _ fl_X11_40) rfl dX11_tick_296 (fun u91 => ?_)
        refine v_bipush (v := 9) F dX11_tick_299 (by decide) ?_
        obtain ⟨hin92, h⟩ := gd_some h
        refine v_iald F u91 hin92 dX11_tick_301 ?_
        refine v_icmp_le (tgt := 312) F dX11_tick_302 (by decide) (fun hc93 => ?_) (fun hc93 => ?_)
        · rw [if_pos hc93] at h
          exact w_X11_tick_b312 F hr hlk t0 ih _ _ h
        · rw [if_neg hc93] at h
          refine v_aload_n F dX11_tick_305 rfl 0 rfl ?_
          refine v_getR (k := 25) (f := 13) F t0 (by decide) (inc inU_11) rfl rfl (by decide) (by decide) (List.mem_cons_of_mem _ fl_X11_52) rfl dX11_tick_306 (fun u94 => ?_)
          refine v_iload_n F dX11_tick_309 rfl 3 rfl ?_
          refine v_iconst (v := 1) F dX11_tick_310 (by decide) ?_
          obtain ⟨hin95, h⟩ := gd_some h
          refine v_zast F u94 hin95 rfl dX11_tick_311 ?_
          exact w_X11_tick_b312 F hr hlk t0 ih _ _ h
set_option maxHeartbeats 4000000 in
set_option maxRecDepth 100000 in
theorem w_X11_tick_h166 {g : gT} {p : Program} {l : Launch} {e : Env} {s : State} {m : MethodId} {args : Array Value} {below : List Frame} {meth : Method} {c : Code} {z : Int32 × Mem} (F : Fx g p s m args c cX11_tick 7 uX11_tick RX11) (hr : meth.sig.returnType = none) (hlk : meth.locks = false)  {a0 : Nat} {i1 : Int32} {i2 : Int32} (t0 : Ty g 11 a0)   : ∀ (n : Nat) (x3 : Int32) (M : Mem), f_X11_tick_h166 a0 i1 i2 n x3 M = some z → V g p l e ({ frames := 2, cells := 0, slots := 0, locals := 40 * 2 } : Room) s m args below meth c 7 0 0 (MQ below (gQ g none z.2) args s 0 0 (gA g)) 166 [(0, .ref (gAd g a0)), (1, .int i1), (2, .int i2), (3, .int x3)] [] M := by
  intro n
  induction n with
  | zero => intro x3 M; intros; rename_i h; cases h
  | succ n ih =>
    intro x3 M h
    rw [f_X11_tick_h166] at h
    refine v_iload_n F dX11_tick_166 rfl 3 rfl ?_
    refine v_aload_n F dX11_tick_167 rfl 0 rfl ?_
    refine v_getI (k := 19) F t0 (by decide) (inc inU_11) rfl rfl (by decide) (List.mem_cons_of_mem _ fl_X11_37) rfl dX11_tick_168 ?_
    refine v_icmp_ge (tgt := 251) F dX11_tick_171 (by decide) (fun hc49 => ?_) (fun hc49 => ?_)
    · rw [if_pos hc49] at h
      refine v_iconst (v := 0) F dX11_tick_251 (by decide) ?_
      refine v_istore_n (lv' := [(3, .int 0), (0, .ref (gAd g a0)), (1, .int i1), (2, .int i2)]) F dX11_tick_252 rfl (by decide) rfl ?_
      refine v_sub (fun ls h9 => lv_sub h9 [1, 2, 3, 0] rfl) ?_
      exact w_X11_tick_h253 F hr hlk t0 _ _ _ h
    · rw [if_neg hc49] at h
      refine v_iconst (v := 0) F dX11_tick_174 (by decide) ?_
      refine v_istore (lv' := [(4, .int 0), (0, .ref (gAd g a0)), (1, .int i1), (2, .int i2), (3, .int x3)]) F dX11_tick_175 (by decide) rfl ?_
      refine v_sub (fun ls h9 => lv_sub h9 [1, 2, 3, 4, 0] rfl) ?_
      exact w_X11_tick_h177 F hr hlk t0 ih _ _ _ _ h
set_option maxHeartbeats 4000000 in
set_option maxRecDepth 100000 in
theorem w_X11_tick_h2 {g : gT} {p : Program} {l : Launch} {e : Env} {s : State} {m : MethodId} {args : Array Value} {below : List Frame} {meth : Method} {c : Code} {z : Int32 × Mem} (F : Fx g p s m args c cX11_tick 7 uX11_tick RX11) (hr : meth.sig.returnType = none) (hlk : meth.locks = false)  {a0 : Nat} {i1 : Int32} {i2 : Int32} (t0 : Ty g 11 a0)   : ∀ (n : Nat) (x3 : Int32) (M : Mem), f_X11_tick_h2 a0 i1 i2 n x3 M = some z → V g p l e ({ frames := 2, cells := 0, slots := 0, locals := 40 * 2 } : Room) s m args below meth c 7 0 0 (MQ below (gQ g none z.2) args s 0 0 (gA g)) 2 [(0, .ref (gAd g a0)), (1, .int i1), (2, .int i2), (3, .int x3)] [] M := by
  intro n
  induction n with
  | zero => intro x3 M; intros; rename_i h; cases h
  | succ n ih =>
    intro x3 M h
    rw [f_X11_tick_h2] at h
    refine v_iload_n F dX11_tick_2 rfl 3 rfl ?_
    refine v_aload_n F dX11_tick_3 rfl 0 rfl ?_
    refine v_getI (k := 19) F t0 (by decide) (inc inU_11) rfl rfl (by decide) (List.mem_cons_of_mem _ fl_X11_37) rfl dX11_tick_4 ?_
    refine v_icmp_ge (tgt := 164) F dX11_tick_7 (by decide) (fun hc1 => ?_) (fun hc1 => ?_)
    · rw [if_pos hc1] at h
      refine v_iconst (v := 0) F dX11_tick_164 (by decide) ?_
      refine v_istore_n (lv' := [(3, .int 0), (0, .ref (gAd g a0)), (1, .int i1), (2, .int i2)]) F dX11_tick_165 rfl (by decide) rfl ?_
      refine v_sub (fun ls h9 => lv_sub h9 [1, 2, 3, 0] rfl) ?_
      exact w_X11_tick_h166 F hr hlk t0 _ _ _ h
    · rw [if_neg hc1] at h
      refine v_aload_n F dX11_tick_10 rfl 0 rfl ?_
      refine v_iload_n F dX11_tick_11 rfl 2 rfl ?_
      refine v_iload_n F dX11_tick_12 rfl 3 rfl ?_
      obtain ⟨⟨r2, M3⟩, hz4, h⟩ := bd_some h
      dsimp only at h
      refine v_callVv (As := [.int i2, .int x3]) (rest := []) F (c_X11_tellsNames l F.2.2.1 t0 hz4) (cwV 2 F.1.2.2.2.2 (gU_V ml_X11_230 im_yX11_tellsNames se_yX11_tellsNames ini_X11 cd_X11_tellsNames) rfl rfl rfl (by decide +kernel) ⟨Nat.le_of_ble_eq_true rfl, Nat.le_of_ble_eq_true rfl⟩) t0 (by decide) rfl rfl rfl (Nat.le_of_ble_eq_true rfl) dX11_tick_13 ⟨Nat.le_of_ble_eq_true rfl, Nat.le_of_ble_eq_true rfl⟩ ?_
      refine v_aload_n F dX11_tick_16 rfl 0 rfl ?_
      refine v_iload_n F dX11_tick_17 rfl 1 rfl ?_
      obtain ⟨⟨r6, M7⟩, hz8, h⟩ := bd_some h
      dsimp only at h
      refine v_callVv (As := [.int i1]) (rest := []) F (c_X11_asks l F.2.2.1 t0 hz8) (cwV 1 F.1.2.2.2.2 (gU_V ml_X11_233 im_yX11_asks se_yX11_asks ini_X11 cd_X11_asks) rfl rfl rfl (by decide +kernel) ⟨Nat.le_of_ble_eq_true rfl, Nat.le_of_ble_eq_true rfl⟩) t0 (by decide) rfl rfl rfl (Nat.le_of_ble_eq_true rfl) dX11_tick_18 ⟨Nat.le_of_ble_eq_true rfl, Nat.le_of_ble_eq_true rfl⟩ ?_
      refine v_iconst (v := 0) F dX11_tick_21 (by decide) ?_
      refine v_istore (lv' := [(4, .int 0), (0, .ref (gAd g a0)), (1, .int i1), (2, .int i2), (3, .int x3)]) F dX11_tick_22 (by decide) rfl ?_
      refine v_sub (fun ls h9 => lv_sub h9 [1, 2, 3, 4, 0] rfl) ?_
      exact w_X11_tick_h24 F hr hlk t0 ih _ _ _ _ h
set_option maxHeartbeats 4000000 in
set_option maxRecDepth 100000 in
theorem c_X11_tick {g : gT} (l : Launch) (hok : gOK g)  {a0 : Nat} {i1 : Int32} {i2 : Int32} {M : Mem} {z : Int32 × Mem}  (t0 : Ty g 11 a0) (h : f_X11_tick  M a0 i1 i2 = some z) : Cn g l yX11_tick uX11_tick 2 [.ref (gAd g a0), .int i1, .int i2] M none z.2 := by
  refine Cn.of (cc := cX11_tick) (maxL := 7) (ret := none) hok (by decide) rfl (Nat.le_of_ble_eq_true rfl) (fun p e s m args below meth c F hr hlk => ?_)
  unfold f_X11_tick at h
  show V g p l e ({ frames := 2, cells := 0, slots := 0, locals := 40 * 2 } : Room) s m args below meth c 7 0 0 (MQ below (gQ g none z.2) args s 0 0 (gA g)) 0 [(0, .ref (gAd g a0)), (1, .int i1), (2, .int i2)] [] M
  refine v_iconst (v := 0) F dX11_tick_0 (by decide) ?_
  refine v_istore_n (lv' := [(3, .int 0), (0, .ref (gAd g a0)), (1, .int i1), (2, .int i2)]) F dX11_tick_1 rfl (by decide) rfl ?_
  refine v_sub (fun ls h9 => lv_sub h9 [1, 2, 3, 0] rfl) ?_
  exact w_X11_tick_h2 F hr hlk t0 _ _ _ h
def f_X11_isLaw  (M : Mem) (a0 : Nat) (i1 : Int32) : Option (Int32 × Mem) := (f_X11_in M i1 0 ((M a0 11) - 1)).bind fun q => match q with | (r1, M2) => (if vp_nar .boolean r1 = r1 then (some (r1, M2)) else none)
set_option maxHeartbeats 4000000 in
set_option maxRecDepth 100000 in
theorem c_X11_isLaw {g : gT} (l : Launch) (hok : gOK g)  {a0 : Nat} {i1 : Int32} {M : Mem} {z : Int32 × Mem}  (t0 : Ty g 11 a0) (h : f_X11_isLaw  M a0 i1 = some z) : Cn g l yX11_isLaw uX11_isLaw 1 [.ref (gAd g a0), .int i1] M (some (.int z.1)) z.2 := by
  refine Cn.of (cc := cX11_isLaw) (maxL := 2) (ret := (some .boolean)) hok (by decide) rfl (Nat.le_of_ble_eq_true rfl) (fun p e s m args below meth c F hr hlk => ?_)
  unfold f_X11_isLaw at h
  show V g p l e ({ frames := 1, cells := 0, slots := 0, locals := 40 * 1 } : Room) s m args below meth c 2 0 0 (MQ below (gQ g (some (.int z.1)) z.2) args s 0 0 (gA g)) 0 [(0, .ref (gAd g a0)), (1, .int i1)] [] M
  refine v_iload_n F dX11_isLaw_0 rfl 1 rfl ?_
  refine v_iconst (v := 0) F dX11_isLaw_1 (by decide) ?_
  refine v_aload_n F dX11_isLaw_2 rfl 0 rfl ?_
  refine v_getI (k := 11) F t0 (by decide) (inc inU_11) rfl rfl (by decide) (List.mem_cons_of_mem _ fl_X11_180) rfl dX11_isLaw_3 ?_
  refine v_iconst (v := 1) F dX11_isLaw_6 (by decide) ?_
  refine v_isub F dX11_isLaw_7 ?_
  obtain ⟨⟨r1, M2⟩, hz3, h⟩ := bd_some h
  dsimp only at h
  refine v_callSi (As := [.int i1, .int 0, .int ((M a0 11) - 1)]) (rest := []) F (c_X11_in l F.2.2.1  hz3) (cwS 3 F.1.2.2.2.2 (gU_S ml_X11_172 st_yX11_in ini_X11 cd_X11_in) rfl rfl rfl (by decide +kernel) ⟨Nat.le_of_ble_eq_true rfl, Nat.le_of_ble_eq_true rfl⟩) rfl rfl (Nat.le_of_ble_eq_true rfl) dX11_isLaw_8 ⟨Nat.le_of_ble_eq_true rfl, Nat.le_of_ble_eq_true rfl⟩ ?_
  by_cases hb5 : vp_nar .boolean r1 = r1
  rotate_left
  · rw [if_neg hb5] at h; cases h
  rw [if_pos hb5] at h
  cases h
  exact v_iret F hr (nb_ok hb5) hlk dX11_isLaw_11
def f_X11_go_h64 (a0 : Nat) (i1 : Int32) (i2 : Int32) (i3 : Int32)  : Nat → Int32 → Mem → Option (Int32 × Mem)
  | 0, _, _ => none
  | n + 1, x4, M => if i3 ≤ x4 then ((f_X11_sizeOf M a0 1).bind fun q => match q with | (r27, M28) => (some (r27, M28))) else ((f_X11_tick M a0 i1 i2).bind fun q => match q with | (r31, M32) => ((f_X11_go_h64 a0 i1 i2 i3 n) (x4 + 1) M32))
def f_X11_go_b52 (a0 : Nat) (i1 : Int32) (i2 : Int32) (i3 : Int32)  (s0 : Nat) (s1 : Int32) (M : Mem) : Option (Int32 × Mem) := (f_X11_bad M s0 s1 2).bind fun q => match q with | (r21, M22) => (if r21 = 0 then (f_X11_go_h64 a0 i1 i2 i3 FU 0 M22) else (some (0, M22)))
def f_X11_go_b47 (a0 : Nat) (i1 : Int32) (i2 : Int32) (i3 : Int32)  (s0 : Nat) (M : Mem) : Option (Int32 × Mem) := f_X11_go_b52 a0 i1 i2 i3 s0 1 M
def f_X11_go_b19 (a0 : Nat) (i1 : Int32) (i2 : Int32) (i3 : Int32)  (s0 : Nat) (s1 : Int32) (M : Mem) : Option (Int32 × Mem) := (f_X11_bad M s0 s1 1).bind fun q => match q with | (r6, M7) => (if r6 = 0 then ((f_X11_in M7 i3 0 100).bind fun q => match q with | (r11, M12) => (if r11 = 0 then (f_X11_go_b47 a0 i1 i2 i3 a0 M12) else ((f_X11_in M12 i2 0 99).bind fun q => match q with | (r16, M17) => (if r16 = 0 then (f_X11_go_b47 a0 i1 i2 i3 a0 M17) else (f_X11_go_b52 a0 i1 i2 i3 a0 0 M17))))) else (some (0, M7)))
def f_X11_go  (M : Mem) (a0 : Nat) (i1 : Int32) (i2 : Int32) (i3 : Int32) : Option (Int32 × Mem) := (f_X11_isLaw (mU M a0 0 0) a0 i1).bind fun q => match q with | (r1, M2) => (if r1 = 0 then (f_X11_go_b19 a0 i1 i2 i3 a0 1 M2) else (f_X11_go_b19 a0 i1 i2 i3 a0 0 M2))
set_option maxHeartbeats 4000000 in
set_option maxRecDepth 100000 in
theorem w_X11_go_h64 {g : gT} {p : Program} {l : Launch} {e : Env} {s : State} {m : MethodId} {args : Array Value} {below : List Frame} {meth : Method} {c : Code} {z : Int32 × Mem} (F : Fx g p s m args c cX11_go 5 uX11_go RX11) (hr : meth.sig.returnType = (some .int)) (hlk : meth.locks = false)  {a0 : Nat} {i1 : Int32} {i2 : Int32} {i3 : Int32} (t0 : Ty g 11 a0)   : ∀ (n : Nat) (x4 : Int32) (M : Mem), f_X11_go_h64 a0 i1 i2 i3 n x4 M = some z → V g p l e ({ frames := 3, cells := 0, slots := 0, locals := 40 * 3 } : Room) s m args below meth c 5 0 0 (MQ below (gQ g (some (.int z.1)) z.2) args s 0 0 (gA g)) 64 [(0, .ref (gAd g a0)), (1, .int i1), (2, .int i2), (3, .int i3), (4, .int x4)] [] M := by
  intro n
  induction n with
  | zero => intro x4 M; intros; rename_i h; cases h
  | succ n ih =>
    intro x4 M h
    rw [f_X11_go_h64] at h
    refine v_iload F dX11_go_64 4 rfl ?_
    refine v_iload_n F dX11_go_66 rfl 3 rfl ?_
    refine v_icmp_ge (tgt := 82) F dX11_go_67 (by decide) (fun hc26 => ?_) (fun hc26 => ?_)
    · rw [if_pos hc26] at h
      refine v_aload_n F dX11_go_82 rfl 0 rfl ?_
      refine v_iconst (v := 1) F dX11_go_83 (by decide) ?_
      obtain ⟨⟨r27, M28⟩, hz29, h⟩ := bd_some h
      dsimp only at h
      refine v_callVi (As := [.int 1]) (rest := []) F (c_X11_sizeOf l F.2.2.1 t0 hz29) (cwV 1 F.1.2.2.2.2 (gU_V ml_X11_221 im_yX11_sizeOf se_yX11_sizeOf ini_X11 cd_X11_sizeOf) rfl rfl rfl (by decide +kernel) ⟨Nat.le_of_ble_eq_true rfl, Nat.le_of_ble_eq_true rfl⟩) t0 (by decide) rfl rfl rfl (Nat.le_of_ble_eq_true rfl) dX11_go_84 ⟨Nat.le_of_ble_eq_true rfl, Nat.le_of_ble_eq_true rfl⟩ ?_
      cases h
      exact v_iret F hr rfl hlk dX11_go_87
    · rw [if_neg hc26] at h
      refine v_aload_n F dX11_go_70 rfl 0 rfl ?_
      refine v_iload_n F dX11_go_71 rfl 1 rfl ?_
      refine v_iload_n F dX11_go_72 rfl 2 rfl ?_
      obtain ⟨⟨r31, M32⟩, hz33, h⟩ := bd_some h
      dsimp only at h
      refine v_callVv (As := [.int i1, .int i2]) (rest := []) F (c_X11_tick l F.2.2.1 t0 hz33) (cwV 2 F.1.2.2.2.2 (gU_V ml_X11_245 im_yX11_tick se_yX11_tick ini_X11 cd_X11_tick) rfl rfl rfl (by decide +kernel) ⟨Nat.le_of_ble_eq_true rfl, Nat.le_of_ble_eq_true rfl⟩) t0 (by decide) rfl rfl rfl (Nat.le_of_ble_eq_true rfl) dX11_go_73 ⟨Nat.le_of_ble_eq_true rfl, Nat.le_of_ble_eq_true rfl⟩ ?_
      refine v_iinc (v := x4 + 1) (lv' := [(4, .int (x4 + 1)), (0, .ref (gAd g a0)), (1, .int i1), (2, .int i2), (3, .int i3)]) F dX11_go_76 (q := 4) rfl rfl (by decide) rfl ?_
      refine v_goto (tgt := 64) F dX11_go_79 (by decide) ?_
      refine v_sub (fun ls h9 => lv_sub h9 [1, 2, 3, 4, 0] rfl) ?_
      exact ih _ _ h
set_option maxHeartbeats 4000000 in
set_option maxRecDepth 100000 in
theorem w_X11_go_b52 {g : gT} {p : Program} {l : Launch} {e : Env} {s : State} {m : MethodId} {args : Array Value} {below : List Frame} {meth : Method} {c : Code} {z : Int32 × Mem} (F : Fx g p s m args c cX11_go 5 uX11_go RX11) (hr : meth.sig.returnType = (some .int)) (hlk : meth.locks = false)  {a0 : Nat} {i1 : Int32} {i2 : Int32} {i3 : Int32} (t0 : Ty g 11 a0)   (s0 : Nat) (s1 : Int32) (M : Mem) (ts0 : Ty g 11 s0) (h : f_X11_go_b52 a0 i1 i2 i3 s0 s1 M = some z) : V g p l e ({ frames := 3, cells := 0, slots := 0, locals := 40 * 3 } : Room) s m args below meth c 5 0 0 (MQ below (gQ g (some (.int z.1)) z.2) args s 0 0 (gA g)) 52 [(0, .ref (gAd g a0)), (1, .int i1), (2, .int i2), (3, .int i3)] [.int s1, .ref (gAd g s0)] M := by
  unfold f_X11_go_b52 at h
  refine v_iconst (v := 2) F dX11_go_52 (by decide) ?_
  obtain ⟨⟨r21, M22⟩, hz23, h⟩ := bd_some h
  dsimp only at h
  refine v_callVi (As := [.int s1, .int 2]) (rest := []) F (c_X11_bad l F.2.2.1 ts0 hz23) (cwV 2 F.1.2.2.2.2 (gU_V ml_X11_176 im_yX11_bad se_yX11_bad ini_X11 cd_X11_bad) rfl rfl rfl (by decide +kernel) ⟨Nat.le_of_ble_eq_true rfl, Nat.le_of_ble_eq_true rfl⟩) ts0 (by decide) rfl rfl rfl (Nat.le_of_ble_eq_true rfl) dX11_go_53 ⟨Nat.le_of_ble_eq_true rfl, Nat.le_of_ble_eq_true rfl⟩ ?_
  refine v_if_eq (tgt := 61) F dX11_go_56 (by decide) (fun hc25 => ?_) (fun hc25 => ?_)
  · rw [if_pos hc25] at h
    refine v_iconst (v := 0) F dX11_go_61 (by decide) ?_
    refine v_istore (lv' := [(4, .int 0), (0, .ref (gAd g a0)), (1, .int i1), (2, .int i2), (3, .int i3)]) F dX11_go_62 (by decide) rfl ?_
    refine v_sub (fun ls h9 => lv_sub h9 [1, 2, 3, 4, 0] rfl) ?_
    exact w_X11_go_h64 F hr hlk t0 _ _ _ h
  · rw [if_neg hc25] at h
    refine v_iconst (v := 0) F dX11_go_59 (by decide) ?_
    cases h
    exact v_iret F hr rfl hlk dX11_go_60
set_option maxHeartbeats 4000000 in
set_option maxRecDepth 100000 in
theorem w_X11_go_b47 {g : gT} {p : Program} {l : Launch} {e : Env} {s : State} {m : MethodId} {args : Array Value} {below : List Frame} {meth : Method} {c : Code} {z : Int32 × Mem} (F : Fx g p s m args c cX11_go 5 uX11_go RX11) (hr : meth.sig.returnType = (some .int)) (hlk : meth.locks = false)  {a0 : Nat} {i1 : Int32} {i2 : Int32} {i3 : Int32} (t0 : Ty g 11 a0)   (s0 : Nat) (M : Mem) (ts0 : Ty g 11 s0) (h : f_X11_go_b47 a0 i1 i2 i3 s0 M = some z) : V g p l e ({ frames := 3, cells := 0, slots := 0, locals := 40 * 3 } : Room) s m args below meth c 5 0 0 (MQ below (gQ g (some (.int z.1)) z.2) args s 0 0 (gA g)) 47 [(0, .ref (gAd g a0)), (1, .int i1), (2, .int i2), (3, .int i3)] [.ref (gAd g s0)] M := by
  unfold f_X11_go_b47 at h
  refine v_iconst (v := 1) F dX11_go_47 (by decide) ?_
  refine v_goto (tgt := 52) F dX11_go_48 (by decide) ?_
  exact w_X11_go_b52 F hr hlk t0 _ _ _ ts0 h
set_option maxHeartbeats 4000000 in
set_option maxRecDepth 100000 in
theorem w_X11_go_b19 {g : gT} {p : Program} {l : Launch} {e : Env} {s : State} {m : MethodId} {args : Array Value} {below : List Frame} {meth : Method} {c : Code} {z : Int32 × Mem} (F : Fx g p s m args c cX11_go 5 uX11_go RX11) (hr : meth.sig.returnType = (some .int)) (hlk : meth.locks = false)  {a0 : Nat} {i1 : Int32} {i2 : Int32} {i3 : Int32} (t0 : Ty g 11 a0)   (s0 : Nat) (s1 : Int32) (M : Mem) (ts0 : Ty g 11 s0) (h : f_X11_go_b19 a0 i1 i2 i3 s0 s1 M = some z) : V g p l e ({ frames := 3, cells := 0, slots := 0, locals := 40 * 3 } : Room) s m args below meth c 5 0 0 (MQ below (gQ g (some (.int z.1)) z.2) args s 0 0 (gA g)) 19 [(0, .ref (gAd g a0)), (1, .int i1), (2, .int i2), (3, .int i3)] [.int s1, .ref (gAd g s0)] M := by
  unfold f_X11_go_b19 at h
  refine v_iconst (v := 1) F dX11_go_19 (by decide) ?_
  obtain ⟨⟨r6, M7⟩, hz8, h⟩ := bd_some h
  dsimp only at h
  refine v_callVi (As := [.int s1, .int 1]) (rest := []) F (c_X11_bad l F.2.2.1 ts0 hz8) (cwV 2 F.1.2.2.2.2 (gU_V ml_X11_176 im_yX11_bad se_yX11_bad ini_X11 cd_X11_bad) rfl rfl rfl (by decide +kernel) ⟨Nat.le_of_ble_eq_true rfl, Nat.le_of_ble_eq_true rfl⟩) ts0 (by decide) rfl rfl rfl (Nat.le_of_ble_eq_true rfl) dX11_go_20 ⟨Nat.le_of_ble_eq_true rfl, Nat.le_of_ble_eq_true rfl⟩ ?_
  refine v_if_ne (tgt := 59) F dX11_go_23 (by decide) (fun hc10 => ?_) (fun hc10 => ?_)
  · rw [if_neg hc10] at h
    refine v_iconst (v := 0) F dX11_go_59 (by decide) ?_
    cases h
    exact v_iret F hr rfl hlk dX11_go_60
  · rw [if_pos hc10] at h
    refine v_aload_n F dX11_go_26 rfl 0 rfl ?_
    refine v_iload_n F dX11_go_27 rfl 3 rfl ?_
    refine v_iconst (v := 0) F dX11_go_28 (by decide) ?_
    refine v_bipush (v := 100) F dX11_go_29 (by decide) ?_
    obtain ⟨⟨r11, M12⟩, hz13, h⟩ := bd_some h
    dsimp only at h
    refine v_callSi (As := [.int i3, .int 0, .int 100]) (rest := [.ref (gAd g a0)]) F (c_X11_in l F.2.2.1  hz13) (cwS 3 F.1.2.2.2.2 (gU_S ml_X11_172 st_yX11_in ini_X11 cd_X11_in) rfl rfl rfl (by decide +kernel) ⟨Nat.le_of_ble_eq_true rfl, Nat.le_of_ble_eq_true rfl⟩) rfl rfl (Nat.le_of_ble_eq_true rfl) dX11_go_31 ⟨Nat.le_of_ble_eq_true rfl, Nat.le_of_ble_eq_true rfl⟩ ?_
    refine v_if_eq (tgt := 47) F dX11_go_34 (by decide) (fun hc15 => ?_) (fun hc15 => ?_)
    · rw [if_pos hc15] at h
      exact w_X11_go_b47 F hr hlk t0 _ _ t0 h
    · rw [if_neg hc15] at h
      refine v_iload_n F dX11_go_37 rfl 2 rfl ?_
      refine v_iconst (v := 0) F dX11_go_38 (by decide) ?_
      refine v_bipush (v := 99) F dX11_go_39 (by decide) ?_
      obtain ⟨⟨r16, M17⟩, hz18, h⟩ := bd_some h
      dsimp only at h
      refine v_callSi (As := [.int i2, .int 0, .int 99]) (rest := [.ref (gAd g a0)]) F (c_X11_in l F.2.2.1  hz18) (cwS 3 F.1.2.2.2.2 (gU_S ml_X11_172 st_yX11_in ini_X11 cd_X11_in) rfl rfl rfl (by decide +kernel) ⟨Nat.le_of_ble_eq_true rfl, Nat.le_of_ble_eq_true rfl⟩) rfl rfl (Nat.le_of_ble_eq_true rfl) dX11_go_41 ⟨Nat.le_of_ble_eq_true rfl, Nat.le_of_ble_eq_true rfl⟩ ?_
      refine v_if_ne (tgt := 51) F dX11_go_44 (by decide) (fun hc20 => ?_) (fun hc20 => ?_)
      · rw [if_neg hc20] at h
        refine v_iconst (v := 0) F dX11_go_51 (by decide) ?_
        exact w_X11_go_b52 F hr hlk t0 _ _ _ t0 h
      · rw [if_pos hc20] at h
        exact w_X11_go_b47 F hr hlk t0 _ _ t0 h
set_option maxHeartbeats 4000000 in
set_option maxRecDepth 100000 in
theorem c_X11_go {g : gT} (l : Launch) (hok : gOK g)  {a0 : Nat} {i1 : Int32} {i2 : Int32} {i3 : Int32} {M : Mem} {z : Int32 × Mem}  (t0 : Ty g 11 a0) (h : f_X11_go  M a0 i1 i2 i3 = some z) : Cn g l yX11_go uX11_go 3 [.ref (gAd g a0), .int i1, .int i2, .int i3] M (some (.int z.1)) z.2 := by
  refine Cn.of (cc := cX11_go) (maxL := 5) (ret := (some .int)) hok (by decide) rfl (Nat.le_of_ble_eq_true rfl) (fun p e s m args below meth c F hr hlk => ?_)
  unfold f_X11_go at h
  show V g p l e ({ frames := 3, cells := 0, slots := 0, locals := 40 * 3 } : Room) s m args below meth c 5 0 0 (MQ below (gQ g (some (.int z.1)) z.2) args s 0 0 (gA g)) 0 [(0, .ref (gAd g a0)), (1, .int i1), (2, .int i2), (3, .int i3)] [] M
  refine v_aload_n F dX11_go_0 rfl 0 rfl ?_
  refine v_iconst (v := 0) F dX11_go_1 (by decide) ?_
  refine v_put (k := 0) (ty := .int) F t0 (by decide) (inc inU_11) tyX11 tyX11_ok nmX11 rfl rfl (by decide) (List.mem_cons_of_mem _ fl_X11_83) rfl rfl (by decide +kernel) rfl rfl dX11_go_2 ?_
  refine v_aload_n F dX11_go_5 rfl 0 rfl ?_
  refine v_aload_n F dX11_go_6 rfl 0 rfl ?_
  refine v_iload_n F dX11_go_7 rfl 1 rfl ?_
  obtain ⟨⟨r1, M2⟩, hz3, h⟩ := bd_some h
  dsimp only at h
  refine v_callVi (As := [.int i1]) (rest := [.ref (gAd g a0)]) F (c_X11_isLaw l F.2.2.1 t0 hz3) (cwV 1 F.1.2.2.2.2 (gU_V ml_X11_242 im_yX11_isLaw se_yX11_isLaw ini_X11 cd_X11_isLaw) rfl rfl rfl (by decide +kernel) ⟨Nat.le_of_ble_eq_true rfl, Nat.le_of_ble_eq_true rfl⟩) t0 (by decide) rfl rfl rfl (Nat.le_of_ble_eq_true rfl) dX11_go_8 ⟨Nat.le_of_ble_eq_true rfl, Nat.le_of_ble_eq_true rfl⟩ ?_
  refine v_if_ne (tgt := 18) F dX11_go_11 (by decide) (fun hc5 => ?_) (fun hc5 => ?_)
  · rw [if_neg hc5] at h
    refine v_iconst (v := 0) F dX11_go_18 (by decide) ?_
    exact w_X11_go_b19 F hr hlk t0 _ _ _ t0 h
  · rw [if_pos hc5] at h
    refine v_iconst (v := 1) F dX11_go_14 (by decide) ?_
    refine v_goto (tgt := 19) F dX11_go_15 (by decide) ?_
    exact w_X11_go_b19 F hr hlk t0 _ _ _ t0 h
def f_X11_piece_b41 (a0 : Nat) (i1 : Int32) (i2 : Int32)  (s0 : Nat) (s1 : Int32) (M : Mem) : Option (Int32 × Mem) := (f_X11_bad M s0 s1 2).bind fun q => match q with | (r16, M17) => (if r16 = 0 then (if 4 ≤ i2 then (if i2 = 4 then (if ¬ (i1 < 0 ∨ gN (gRf a0 24) ≤ i1.toNatClampNeg) then (some (M17 (gRf a0 24) i1.toNatClampNeg, M17)) else none) else (if (M17 a0 19) ≤ (i1 + 1) then (some (0, M17)) else (if ¬ (i1 < 0 ∨ gN (gRf a0 25) ≤ i1.toNatClampNeg) then (if (M17 (gRf a0 25) i1.toNatClampNeg) = 0 then (some (0, M17)) else (some (1, M17))) else none))) else (if ¬ (i2 < 0 ∨ gN (gRf a0 22) ≤ i2.toNatClampNeg) then (if ¬ (i1 < 0 ∨ gN (gRf (gRf a0 22) i2.toNatClampNeg) ≤ i1.toNatClampNeg) then (some (M17 (gRf (gRf a0 22) i2.toNatClampNeg) i1.toNatClampNeg, M17)) else none) else none)) else (some (0, M17)))
def f_X11_piece_b19 (a0 : Nat) (i1 : Int32) (i2 : Int32)  (s0 : Nat) (s1 : Int32) (M : Mem) : Option (Int32 × Mem) := (f_X11_bad M s0 s1 1).bind fun q => match q with | (r6, M7) => (if r6 = 0 then ((f_X11_in M7 i2 0 5).bind fun q => match q with | (r11, M12) => (if r11 = 0 then (f_X11_piece_b41 a0 i1 i2 a0 1 M12) else (f_X11_piece_b41 a0 i1 i2 a0 0 M12))) else (some (0, M7)))
def f_X11_piece  (M : Mem) (a0 : Nat) (i1 : Int32) (i2 : Int32) : Option (Int32 × Mem) := (f_X11_isPiece (mU M a0 0 0) a0 i1).bind fun q => match q with | (r1, M2) => (if r1 = 0 then (f_X11_piece_b19 a0 i1 i2 a0 1 M2) else (f_X11_piece_b19 a0 i1 i2 a0 0 M2))
set_option maxHeartbeats 4000000 in
set_option maxRecDepth 100000 in
theorem w_X11_piece_b41 {g : gT} {p : Program} {l : Launch} {e : Env} {s : State} {m : MethodId} {args : Array Value} {below : List Frame} {meth : Method} {c : Code} {z : Int32 × Mem} (F : Fx g p s m args c cX11_piece 3 uX11_piece RX11) (hr : meth.sig.returnType = (some .int)) (hlk : meth.locks = false)  {a0 : Nat} {i1 : Int32} {i2 : Int32} (t0 : Ty g 11 a0)   (s0 : Nat) (s1 : Int32) (M : Mem) (ts0 : Ty g 11 s0) (h : f_X11_piece_b41 a0 i1 i2 s0 s1 M = some z) : V g p l e ({ frames := 2, cells := 0, slots := 0, locals := 40 * 2 } : Room) s m args below meth c 3 0 0 (MQ below (gQ g (some (.int z.1)) z.2) args s 0 0 (gA g)) 41 [(0, .ref (gAd g a0)), (1, .int i1), (2, .int i2)] [.int s1, .ref (gAd g s0)] M := by
  unfold f_X11_piece_b41 at h
  refine v_iconst (v := 2) F dX11_piece_41 (by decide) ?_
  obtain ⟨⟨r16, M17⟩, hz18, h⟩ := bd_some h
  dsimp only at h
  refine v_callVi (As := [.int s1, .int 2]) (rest := []) F (c_X11_bad l F.2.2.1 ts0 hz18) (cwV 2 F.1.2.2.2.2 (gU_V ml_X11_176 im_yX11_bad se_yX11_bad ini_X11 cd_X11_bad) rfl rfl rfl (by decide +kernel) ⟨Nat.le_of_ble_eq_true rfl, Nat.le_of_ble_eq_true rfl⟩) ts0 (by decide) rfl rfl rfl (Nat.le_of_ble_eq_true rfl) dX11_piece_42 ⟨Nat.le_of_ble_eq_true rfl, Nat.le_of_ble_eq_true rfl⟩ ?_
  refine v_if_eq (tgt := 50) F dX11_piece_45 (by decide) (fun hc20 => ?_) (fun hc20 => ?_)
  · rw [if_pos hc20] at h
    refine v_iload_n F dX11_piece_50 rfl 2 rfl ?_
    refine v_iconst (v := 4) F dX11_piece_51 (by decide) ?_
    refine v_icmp_ge (tgt := 66) F dX11_piece_52 (by decide) (fun hc21 => ?_) (fun hc21 => ?_)
    · rw [if_pos hc21] at h
      refine v_iload_n F dX11_piece_66 rfl 2 rfl ?_
      refine v_iconst (v := 4) F dX11_piece_67 (by decide) ?_
      refine v_icmp_ne (tgt := 80) F dX11_piece_68 (by decide) (fun hc22 => ?_) (fun hc22 => ?_)
      · rw [if_neg hc22] at h
        refine v_iload_n F dX11_piece_80 rfl 1 rfl ?_
        refine v_iconst (v := 1) F dX11_piece_81 (by decide) ?_
        refine v_iadd F dX11_piece_82 ?_
        refine v_aload_n F dX11_piece_83 rfl 0 rfl ?_
        refine v_getI (k := 19) F t0 (by decide) (inc inU_11) rfl rfl (by decide) (List.mem_cons_of_mem _ fl_X11_37) rfl dX11_piece_84 ?_
        refine v_icmp_ge (tgt := 103) F dX11_piece_87 (by decide) (fun hc23 => ?_) (fun hc23 => ?_)
        · rw [if_pos hc23] at h
          refine v_iconst (v := 0) F dX11_piece_103 (by decide) ?_
          cases h
          exact v_iret F hr rfl hlk dX11_piece_104
        · rw [if_neg hc23] at h
          refine v_aload_n F dX11_piece_90 rfl 0 rfl ?_
          refine v_getR (k := 25) (f := 13) F t0 (by decide) (inc inU_11) rfl rfl (by decide) (by decide) (List.mem_cons_of_mem _ fl_X11_52) rfl dX11_piece_91 (fun u24 => ?_)
          refine v_iload_n F dX11_piece_94 rfl 1 rfl ?_
          obtain ⟨hin25, h⟩ := gd_some h
          refine v_zald F u24 hin25 dX11_piece_95 ?_
          refine v_if_eq (tgt := 103) F dX11_piece_96 (by decide) (fun hc26 => ?_) (fun hc26 => ?_)
          · rw [if_pos hc26] at h
            refine v_iconst (v := 0) F dX11_piece_103 (by decide) ?_
            cases h
            exact v_iret F hr rfl hlk dX11_piece_104
          · rw [if_neg hc26] at h
            refine v_iconst (v := 1) F dX11_piece_99 (by decide) ?_
            refine v_goto (tgt := 104) F dX11_piece_100 (by decide) ?_
            cases h
            exact v_iret F hr rfl hlk dX11_piece_104
      · rw [if_pos hc22] at h
        refine v_aload_n F dX11_piece_71 rfl 0 rfl ?_
        refine v_getR (k := 24) (f := 12) F t0 (by decide) (inc inU_11) rfl rfl (by decide) (by decide) (List.mem_cons_of_mem _ fl_X11_49) rfl dX11_piece_72 (fun u27 => ?_)
        refine v_iload_n F dX11_piece_75 rfl 1 rfl ?_
        obtain ⟨hin28, h⟩ := gd_some h
        refine v_iald F u27 hin28 dX11_piece_76 ?_
        refine v_goto (tgt := 104) F dX11_piece_77 (by decide) ?_
        cases h
        exact v_iret F hr rfl hlk dX11_piece_104
    · rw [if_neg hc21] at h
      refine v_aload_n F dX11_piece_55 rfl 0 rfl ?_
      refine v_getR (k := 22) (f := 16) F t0 (by decide) (inc inU_11) rfl rfl (by decide) (by decide) (List.mem_cons_of_mem _ fl_X11_43) rfl dX11_piece_56 (fun u29 => ?_)
      refine v_iload_n F dX11_piece_59 rfl 2 rfl ?_
      obtain ⟨hin30, h⟩ := gd_some h
      refine v_aald (ke := 12) (t0 := 4) F u29 (by decide) rfl rfl hin30 dX11_piece_60 (fun u31 => ?_)
      refine v_iload_n F dX11_piece_61 rfl 1 rfl ?_
      obtain ⟨hin32, h⟩ := gd_some h
      refine v_iald F u31 hin32 dX11_piece_62 ?_
      refine v_goto (tgt := 104) F dX11_piece_63 (by decide) ?_
      cases h
      exact v_iret F hr rfl hlk dX11_piece_104
  · rw [if_neg hc20] at h
    refine v_iconst (v := 0) F dX11_piece_48 (by decide) ?_
    cases h
    exact v_iret F hr rfl hlk dX11_piece_49
set_option maxHeartbeats 4000000 in
set_option maxRecDepth 100000 in
theorem w_X11_piece_b19 {g : gT} {p : Program} {l : Launch} {e : Env} {s : State} {m : MethodId} {args : Array Value} {below : List Frame} {meth : Method} {c : Code} {z : Int32 × Mem} (F : Fx g p s m args c cX11_piece 3 uX11_piece RX11) (hr : meth.sig.returnType = (some .int)) (hlk : meth.locks = false)  {a0 : Nat} {i1 : Int32} {i2 : Int32} (t0 : Ty g 11 a0)   (s0 : Nat) (s1 : Int32) (M : Mem) (ts0 : Ty g 11 s0) (h : f_X11_piece_b19 a0 i1 i2 s0 s1 M = some z) : V g p l e ({ frames := 2, cells := 0, slots := 0, locals := 40 * 2 } : Room) s m args below meth c 3 0 0 (MQ below (gQ g (some (.int z.1)) z.2) args s 0 0 (gA g)) 19 [(0, .ref (gAd g a0)), (1, .int i1), (2, .int i2)] [.int s1, .ref (gAd g s0)] M := by
  unfold f_X11_piece_b19 at h
  refine v_iconst (v := 1) F dX11_piece_19 (by decide) ?_
  obtain ⟨⟨r6, M7⟩, hz8, h⟩ := bd_some h
  dsimp only at h
  refine v_callVi (As := [.int s1, .int 1]) (rest := []) F (c_X11_bad l F.2.2.1 ts0 hz8) (cwV 2 F.1.2.2.2.2 (gU_V ml_X11_176 im_yX11_bad se_yX11_bad ini_X11 cd_X11_bad) rfl rfl rfl (by decide +kernel) ⟨Nat.le_of_ble_eq_true rfl, Nat.le_of_ble_eq_true rfl⟩) ts0 (by decide) rfl rfl rfl (Nat.le_of_ble_eq_true rfl) dX11_piece_20 ⟨Nat.le_of_ble_eq_true rfl, Nat.le_of_ble_eq_true rfl⟩ ?_
  refine v_if_ne (tgt := 48) F dX11_piece_23 (by decide) (fun hc10 => ?_) (fun hc10 => ?_)
  · rw [if_neg hc10] at h
    refine v_iconst (v := 0) F dX11_piece_48 (by decide) ?_
    cases h
    exact v_iret F hr rfl hlk dX11_piece_49
  · rw [if_pos hc10] at h
    refine v_aload_n F dX11_piece_26 rfl 0 rfl ?_
    refine v_iload_n F dX11_piece_27 rfl 2 rfl ?_
    refine v_iconst (v := 0) F dX11_piece_28 (by decide) ?_
    refine v_iconst (v := 5) F dX11_piece_29 (by decide) ?_
    obtain ⟨⟨r11, M12⟩, hz13, h⟩ := bd_some h
    dsimp only at h
    refine v_callSi (As := [.int i2, .int 0, .int 5]) (rest := [.ref (gAd g a0)]) F (c_X11_in l F.2.2.1  hz13) (cwS 3 F.1.2.2.2.2 (gU_S ml_X11_172 st_yX11_in ini_X11 cd_X11_in) rfl rfl rfl (by decide +kernel) ⟨Nat.le_of_ble_eq_true rfl, Nat.le_of_ble_eq_true rfl⟩) rfl rfl (Nat.le_of_ble_eq_true rfl) dX11_piece_30 ⟨Nat.le_of_ble_eq_true rfl, Nat.le_of_ble_eq_true rfl⟩ ?_
    refine v_if_ne (tgt := 40) F dX11_piece_33 (by decide) (fun hc15 => ?_) (fun hc15 => ?_)
    · rw [if_neg hc15] at h
      refine v_iconst (v := 0) F dX11_piece_40 (by decide) ?_
      exact w_X11_piece_b41 F hr hlk t0 _ _ _ t0 h
    · rw [if_pos hc15] at h
      refine v_iconst (v := 1) F dX11_piece_36 (by decide) ?_
      refine v_goto (tgt := 41) F dX11_piece_37 (by decide) ?_
      exact w_X11_piece_b41 F hr hlk t0 _ _ _ t0 h
set_option maxHeartbeats 4000000 in
set_option maxRecDepth 100000 in
theorem c_X11_piece {g : gT} (l : Launch) (hok : gOK g)  {a0 : Nat} {i1 : Int32} {i2 : Int32} {M : Mem} {z : Int32 × Mem}  (t0 : Ty g 11 a0) (h : f_X11_piece  M a0 i1 i2 = some z) : Cn g l yX11_piece uX11_piece 2 [.ref (gAd g a0), .int i1, .int i2] M (some (.int z.1)) z.2 := by
  refine Cn.of (cc := cX11_piece) (maxL := 3) (ret := (some .int)) hok (by decide) rfl (Nat.le_of_ble_eq_true rfl) (fun p e s m args below meth c F hr hlk => ?_)
  unfold f_X11_piece at h
  show V g p l e ({ frames := 2, cells := 0, slots := 0, locals := 40 * 2 } : Room) s m args below meth c 3 0 0 (MQ below (gQ g (some (.int z.1)) z.2) args s 0 0 (gA g)) 0 [(0, .ref (gAd g a0)), (1, .int i1), (2, .int i2)] [] M
  refine v_aload_n F dX11_piece_0 rfl 0 rfl ?_
  refine v_iconst (v := 0) F dX11_piece_1 (by decide) ?_
  refine v_put (k := 0) (ty := .int) F t0 (by decide) (inc inU_11) tyX11 tyX11_ok nmX11 rfl rfl (by decide) (List.mem_cons_of_mem _ fl_X11_83) rfl rfl (by decide +kernel) rfl rfl dX11_piece_2 ?_
  refine v_aload_n F dX11_piece_5 rfl 0 rfl ?_
  refine v_aload_n F dX11_piece_6 rfl 0 rfl ?_
  refine v_iload_n F dX11_piece_7 rfl 1 rfl ?_
  obtain ⟨⟨r1, M2⟩, hz3, h⟩ := bd_some h
  dsimp only at h
  refine v_callVi (As := [.int i1]) (rest := [.ref (gAd g a0)]) F (c_X11_isPiece l F.2.2.1 t0 hz3) (cwV 1 F.1.2.2.2.2 (gU_V ml_X11_210 im_yX11_isPiece se_yX11_isPiece ini_X11 cd_X11_isPiece) rfl rfl rfl (by decide +kernel) ⟨Nat.le_of_ble_eq_true rfl, Nat.le_of_ble_eq_true rfl⟩) t0 (by decide) rfl rfl rfl (Nat.le_of_ble_eq_true rfl) dX11_piece_8 ⟨Nat.le_of_ble_eq_true rfl, Nat.le_of_ble_eq_true rfl⟩ ?_
  refine v_if_ne (tgt := 18) F dX11_piece_11 (by decide) (fun hc5 => ?_) (fun hc5 => ?_)
  · rw [if_neg hc5] at h
    refine v_iconst (v := 0) F dX11_piece_18 (by decide) ?_
    exact w_X11_piece_b19 F hr hlk t0 _ _ _ t0 h
  · rw [if_pos hc5] at h
    refine v_iconst (v := 1) F dX11_piece_14 (by decide) ?_
    refine v_goto (tgt := 19) F dX11_piece_15 (by decide) ?_
    exact w_X11_piece_b19 F hr hlk t0 _ _ _ t0 h
def f_X11_push_b63 (a0 : Nat) (i1 : Int32) (i2 : Int32) (i3 : Int32) (i4 : Int32)  (s0 : Nat) (s1 : Int32) (M : Mem) : Option (Int32 × Mem) := (f_X11_bad M s0 s1 3).bind fun q => match q with | (r26, M27) => (if r26 = 0 then ((f_X11_tellsNames M27 a0 i2 i3).bind fun q => match q with | (r31, M32) => ((f_X11_asks M32 a0 i1).bind fun q => match q with | (r35, M36) => (if i4 = 0 then (some (M36 a0 16, M36)) else (some (M36 a0 17, M36))))) else (some (0, M27)))
def f_X11_push_b40 (a0 : Nat) (i1 : Int32) (i2 : Int32) (i3 : Int32) (i4 : Int32)  (s0 : Nat) (s1 : Int32) (M : Mem) : Option (Int32 × Mem) := (f_X11_bad M s0 s1 2).bind fun q => match q with | (r16, M17) => (if r16 = 0 then ((f_X11_in M17 i2 0 99).bind fun q => match q with | (r21, M22) => (if r21 = 0 then (f_X11_push_b63 a0 i1 i2 i3 i4 a0 1 M22) else (f_X11_push_b63 a0 i1 i2 i3 i4 a0 0 M22))) else (some (0, M17)))
def f_X11_push_b19 (a0 : Nat) (i1 : Int32) (i2 : Int32) (i3 : Int32) (i4 : Int32)  (s0 : Nat) (s1 : Int32) (M : Mem) : Option (Int32 × Mem) := (f_X11_bad M s0 s1 1).bind fun q => match q with | (r6, M7) => (if r6 = 0 then ((f_X11_isPiece M7 a0 i3).bind fun q => match q with | (r11, M12) => (if r11 = 0 then (f_X11_push_b40 a0 i1 i2 i3 i4 a0 1 M12) else (f_X11_push_b40 a0 i1 i2 i3 i4 a0 0 M12))) else (some (0, M7)))
def f_X11_push  (M : Mem) (a0 : Nat) (i1 : Int32) (i2 : Int32) (i3 : Int32) (i4 : Int32) : Option (Int32 × Mem) := (f_X11_isLaw (mU M a0 0 0) a0 i1).bind fun q => match q with | (r1, M2) => (if r1 = 0 then (f_X11_push_b19 a0 i1 i2 i3 i4 a0 1 M2) else (f_X11_push_b19 a0 i1 i2 i3 i4 a0 0 M2))
set_option maxHeartbeats 4000000 in
set_option maxRecDepth 100000 in
theorem w_X11_push_b63 {g : gT} {p : Program} {l : Launch} {e : Env} {s : State} {m : MethodId} {args : Array Value} {below : List Frame} {meth : Method} {c : Code} {z : Int32 × Mem} (F : Fx g p s m args c cX11_push 5 uX11_push RX11) (hr : meth.sig.returnType = (some .int)) (hlk : meth.locks = false)  {a0 : Nat} {i1 : Int32} {i2 : Int32} {i3 : Int32} {i4 : Int32} (t0 : Ty g 11 a0)   (s0 : Nat) (s1 : Int32) (M : Mem) (ts0 : Ty g 11 s0) (h : f_X11_push_b63 a0 i1 i2 i3 i4 s0 s1 M = some z) : V g p l e ({ frames := 2, cells := 0, slots := 0, locals := 40 * 2 } : Room) s m args below meth c 5 0 0 (MQ below (gQ g (some (.int z.1)) z.2) args s 0 0 (gA g)) 63 [(0, .ref (gAd g a0)), (1, .int i1), (2, .int i2), (3, .int i3), (4, .int i4)] [.int s1, .ref (gAd g s0)] M := by
  unfold f_X11_push_b63 at h
  refine v_iconst (v := 3) F dX11_push_63 (by decide) ?_
  obtain ⟨⟨r26, M27⟩, hz28, h⟩ := bd_some h
  dsimp only at h
  refine v_callVi (As := [.int s1, .int 3]) (rest := []) F (c_X11_bad l F.2.2.1 ts0 hz28) (cwV 2 F.1.2.2.2.2 (gU_V ml_X11_176 im_yX11_bad se_yX11_bad ini_X11 cd_X11_bad) rfl rfl rfl (by decide +kernel) ⟨Nat.le_of_ble_eq_true rfl, Nat.le_of_ble_eq_true rfl⟩) ts0 (by decide) rfl rfl rfl (Nat.le_of_ble_eq_true rfl) dX11_push_64 ⟨Nat.le_of_ble_eq_true rfl, Nat.le_of_ble_eq_true rfl⟩ ?_
  refine v_if_eq (tgt := 72) F dX11_push_67 (by decide) (fun hc30 => ?_) (fun hc30 => ?_)
  · rw [if_pos hc30] at h
    refine v_aload_n F dX11_push_72 rfl 0 rfl ?_
    refine v_iload_n F dX11_push_73 rfl 2 rfl ?_
    refine v_iload_n F dX11_push_74 rfl 3 rfl ?_
    obtain ⟨⟨r31, M32⟩, hz33, h⟩ := bd_some h
    dsimp only at h
    refine v_callVv (As := [.int i2, .int i3]) (rest := []) F (c_X11_tellsNames l F.2.2.1 t0 hz33) (cwV 2 F.1.2.2.2.2 (gU_V ml_X11_230 im_yX11_tellsNames se_yX11_tellsNames ini_X11 cd_X11_tellsNames) rfl rfl rfl (by decide +kernel) ⟨Nat.le_of_ble_eq_true rfl, Nat.le_of_ble_eq_true rfl⟩) t0 (by decide) rfl rfl rfl (Nat.le_of_ble_eq_true rfl) dX11_push_75 ⟨Nat.le_of_ble_eq_true rfl, Nat.le_of_ble_eq_true rfl⟩ ?_
    refine v_aload_n F dX11_push_78 rfl 0 rfl ?_
    refine v_iload_n F dX11_push_79 rfl 1 rfl ?_
    obtain ⟨⟨r35, M36⟩, hz37, h⟩ := bd_some h
    dsimp only at h
    refine v_callVv (As := [.int i1]) (rest := []) F (c_X11_asks l F.2.2.1 t0 hz37) (cwV 1 F.1.2.2.2.2 (gU_V ml_X11_233 im_yX11_asks se_yX11_asks ini_X11 cd_X11_asks) rfl rfl rfl (by decide +kernel) ⟨Nat.le_of_ble_eq_true rfl, Nat.le_of_ble_eq_true rfl⟩) t0 (by decide) rfl rfl rfl (Nat.le_of_ble_eq_true rfl) dX11_push_80 ⟨Nat.le_of_ble_eq_true rfl, Nat.le_of_ble_eq_true rfl⟩ ?_
    refine v_iload F dX11_push_83 4 rfl ?_
    refine v_if_eq (tgt := 95) F dX11_push_85 (by decide) (fun hc39 => ?_) (fun hc39 => ?_)
    · rw [if_pos hc39] at h
      refine v_aload_n F dX11_push_95 rfl 0 rfl ?_
      refine v_getI (k := 16) F t0 (by decide) (inc inU_11) rfl rfl (by decide) (List.mem_cons_of_mem _ fl_X11_194) rfl dX11_push_96 ?_
      cases h
      exact v_iret F hr rfl hlk dX11_push_99
    · rw [if_neg hc39] at h
      refine v_aload_n F dX11_push_88 rfl 0 rfl ?_
      refine v_getI (k := 17) F t0 (by decide) (inc inU_11) rfl rfl (by decide) (List.mem_cons_of_mem _ fl_X11_197) rfl dX11_push_89 ?_
      refine v_goto (tgt := 99) F dX11_push_92 (by decide) ?_
      cases h
      exact v_iret F hr rfl hlk dX11_push_99
  · rw [if_neg hc30] at h
    refine v_iconst (v := 0) F dX11_push_70 (by decide) ?_
    cases h
    exact v_iret F hr rfl hlk dX11_push_71
set_option maxHeartbeats 4000000 in
set_option maxRecDepth 100000 in
theorem w_X11_push_b40 {g : gT} {p : Program} {l : Launch} {e : Env} {s : State} {m : MethodId} {args : Array Value} {below : List Frame} {meth : Method} {c : Code} {z : Int32 × Mem} (F : Fx g p s m args c cX11_push 5 uX11_push RX11) (hr : meth.sig.returnType = (some .int)) (hlk : meth.locks = false)  {a0 : Nat} {i1 : Int32} {i2 : Int32} {i3 : Int32} {i4 : Int32} (t0 : Ty g 11 a0)   (s0 : Nat) (s1 : Int32) (M : Mem) (ts0 : Ty g 11 s0) (h : f_X11_push_b40 a0 i1 i2 i3 i4 s0 s1 M = some z) : V g p l e ({ frames := 2, cells := 0, slots := 0, locals := 40 * 2 } : Room) s m args below meth c 5 0 0 (MQ below (gQ g (some (.int z.1)) z.2) args s 0 0 (gA g)) 40 [(0, .ref (gAd g a0)), (1, .int i1), (2, .int i2), (3, .int i3), (4, .int i4)] [.int s1, .ref (gAd g s0)] M := by
  unfold f_X11_push_b40 at h
  refine v_iconst (v := 2) F dX11_push_40 (by decide) ?_
  obtain ⟨⟨r16, M17⟩, hz18, h⟩ := bd_some h
  dsimp only at h
  refine v_callVi (As := [.int s1, .int 2]) (rest := []) F (c_X11_bad l F.2.2.1 ts0 hz18) (cwV 2 F.1.2.2.2.2 (gU_V ml_X11_176 im_yX11_bad se_yX11_bad ini_X11 cd_X11_bad) rfl rfl rfl (by decide +kernel) ⟨Nat.le_of_ble_eq_true rfl, Nat.le_of_ble_eq_true rfl⟩) ts0 (by decide) rfl rfl rfl (Nat.le_of_ble_eq_true rfl) dX11_push_41 ⟨Nat.le_of_ble_eq_true rfl, Nat.le_of_ble_eq_true rfl⟩ ?_
  refine v_if_ne (tgt := 70) F dX11_push_44 (by decide) (fun hc20 => ?_) (fun hc20 => ?_)
  · rw [if_neg hc20] at h
    refine v_iconst (v := 0) F dX11_push_70 (by decide) ?_
    cases h
    exact v_iret F hr rfl hlk dX11_push_71
  · rw [if_pos hc20] at h
    refine v_aload_n F dX11_push_47 rfl 0 rfl ?_
    refine v_iload_n F dX11_push_48 rfl 2 rfl ?_
    refine v_iconst (v := 0) F dX11_push_49 (by decide) ?_
    refine v_bipush (v := 99) F dX11_push_50 (by decide) ?_
    obtain ⟨⟨r21, M22⟩, hz23, h⟩ := bd_some h
    dsimp only at h
    refine v_callSi (As := [.int i2, .int 0, .int 99]) (rest := [.ref (gAd g a0)]) F (c_X11_in l F.2.2.1  hz23) (cwS 3 F.1.2.2.2.2 (gU_S ml_X11_172 st_yX11_in ini_X11 cd_X11_in) rfl rfl rfl (by decide +kernel) ⟨Nat.le_of_ble_eq_true rfl, Nat.le_of_ble_eq_true rfl⟩) rfl rfl (Nat.le_of_ble_eq_true rfl) dX11_push_52 ⟨Nat.le_of_ble_eq_true rfl, Nat.le_of_ble_eq_true rfl⟩ ?_
    refine v_if_ne (tgt := 62) F dX11_push_55 (by decide) (fun hc25 => ?_) (fun hc25 => ?_)
    · rw [if_neg hc25] at h
      refine v_iconst (v := 0) F dX11_push_62 (by decide) ?_
      exact w_X11_push_b63 F hr hlk t0 _ _ _ t0 h
    · rw [if_pos hc25] at h
      refine v_iconst (v := 1) F dX11_push_58 (by decide) ?_
      refine v_goto (tgt := 63) F dX11_push_59 (by decide) ?_
      exact w_X11_push_b63 F hr hlk t0 _ _ _ t0 h
set_option maxHeartbeats 4000000 in
set_option maxRecDepth 100000 in
theorem w_X11_push_b19 {g : gT} {p : Program} {l : Launch} {e : Env} {s : State} {m : MethodId} {args : Array Value} {below : List Frame} {meth : Method} {c : Code} {z : Int32 × Mem} (F : Fx g p s m args c cX11_push 5 uX11_push RX11) (hr : meth.sig.returnType = (some .int)) (hlk : meth.locks = false)  {a0 : Nat} {i1 : Int32} {i2 : Int32} {i3 : Int32} {i4 : Int32} (t0 : Ty g 11 a0)   (s0 : Nat) (s1 : Int32) (M : Mem) (ts0 : Ty g 11 s0) (h : f_X11_push_b19 a0 i1 i2 i3 i4 s0 s1 M = some z) : V g p l e ({ frames := 2, cells := 0, slots := 0, locals := 40 * 2 } : Room) s m args below meth c 5 0 0 (MQ below (gQ g (some (.int z.1)) z.2) args s 0 0 (gA g)) 19 [(0, .ref (gAd g a0)), (1, .int i1), (2, .int i2), (3, .int i3), (4, .int i4)] [.int s1, .ref (gAd g s0)] M := by
  unfold f_X11_push_b19 at h
  refine v_iconst (v := 1) F dX11_push_19 (by decide) ?_
  obtain ⟨⟨r6, M7⟩, hz8, h⟩ := bd_some h
  dsimp only at h
  refine v_callVi (As := [.int s1, .int 1]) (rest := []) F (c_X11_bad l F.2.2.1 ts0 hz8) (cwV 2 F.1.2.2.2.2 (gU_V ml_X11_176 im_yX11_bad se_yX11_bad ini_X11 cd_X11_bad) rfl rfl rfl (by decide +kernel) ⟨Nat.le_of_ble_eq_true rfl, Nat.le_of_ble_eq_true rfl⟩) ts0 (by decide) rfl rfl rfl (Nat.le_of_ble_eq_true rfl) dX11_push_20 ⟨Nat.le_of_ble_eq_true rfl, Nat.le_of_ble_eq_true rfl⟩ ?_
  refine v_if_ne (tgt := 70) F dX11_push_23 (by decide) (fun hc10 => ?_) (fun hc10 => ?_)
  · rw [if_neg hc10] at h
    refine v_iconst (v := 0) F dX11_push_70 (by decide) ?_
    cases h
    exact v_iret F hr rfl hlk dX11_push_71
  · rw [if_pos hc10] at h
    refine v_aload_n F dX11_push_26 rfl 0 rfl ?_
    refine v_aload_n F dX11_push_27 rfl 0 rfl ?_
    refine v_iload_n F dX11_push_28 rfl 3 rfl ?_
    obtain ⟨⟨r11, M12⟩, hz13, h⟩ := bd_some h
    dsimp only at h
    refine v_callVi (As := [.int i3]) (rest := [.ref (gAd g a0)]) F (c_X11_isPiece l F.2.2.1 t0 hz13) (cwV 1 F.1.2.2.2.2 (gU_V ml_X11_210 im_yX11_isPiece se_yX11_isPiece ini_X11 cd_X11_isPiece) rfl rfl rfl (by decide +kernel) ⟨Nat.le_of_ble_eq_true rfl, Nat.le_of_ble_eq_true rfl⟩) t0 (by decide) rfl rfl rfl (Nat.le_of_ble_eq_true rfl) dX11_push_29 ⟨Nat.le_of_ble_eq_true rfl, Nat.le_of_ble_eq_true rfl⟩ ?_
    refine v_if_ne (tgt := 39) F dX11_push_32 (by decide) (fun hc15 => ?_) (fun hc15 => ?_)
    · rw [if_neg hc15] at h
      refine v_iconst (v := 0) F dX11_push_39 (by decide) ?_
      exact w_X11_push_b40 F hr hlk t0 _ _ _ t0 h
    · rw [if_pos hc15] at h
      refine v_iconst (v := 1) F dX11_push_35 (by decide) ?_
      refine v_goto (tgt := 40) F dX11_push_36 (by decide) ?_
      exact w_X11_push_b40 F hr hlk t0 _ _ _ t0 h
set_option maxHeartbeats 4000000 in
set_option maxRecDepth 100000 in
theorem c_X11_push {g : gT} (l : Launch) (hok : gOK g)  {a0 : Nat} {i1 : Int32} {i2 : Int32} {i3 : Int32} {i4 : Int32} {M : Mem} {z : Int32 × Mem}  (t0 : Ty g 11 a0) (h : f_X11_push  M a0 i1 i2 i3 i4 = some z) : Cn g l yX11_push uX11_push 2 [.ref (gAd g a0), .int i1, .int i2, .int i3, .int i4] M (some (.int z.1)) z.2 := by
  refine Cn.of (cc := cX11_push) (maxL := 5) (ret := (some .int)) hok (by decide) rfl (Nat.le_of_ble_eq_true rfl) (fun p e s m args below meth c F hr hlk => ?_)
  unfold f_X11_push at h
  show V g p l e ({ frames := 2, cells := 0, slots := 0, locals := 40 * 2 } : Room) s m args below meth c 5 0 0 (MQ below (gQ g (some (.int z.1)) z.2) args s 0 0 (gA g)) 0 [(0, .ref (gAd g a0)), (1, .int i1), (2, .int i2), (3, .int i3), (4, .int i4)] [] M
  refine v_aload_n F dX11_push_0 rfl 0 rfl ?_
  refine v_iconst (v := 0) F dX11_push_1 (by decide) ?_
  refine v_put (k := 0) (ty := .int) F t0 (by decide) (inc inU_11) tyX11 tyX11_ok nmX11 rfl rfl (by decide) (List.mem_cons_of_mem _ fl_X11_83) rfl rfl (by decide +kernel) rfl rfl dX11_push_2 ?_
  refine v_aload_n F dX11_push_5 rfl 0 rfl ?_
  refine v_aload_n F dX11_push_6 rfl 0 rfl ?_
  refine v_iload_n F dX11_push_7 rfl 1 rfl ?_
  obtain ⟨⟨r1, M2⟩, hz3, h⟩ := bd_some h
  dsimp only at h
  refine v_callVi (As := [.int i1]) (rest := [.ref (gAd g a0)]) F (c_X11_isLaw l F.2.2.1 t0 hz3) (cwV 1 F.1.2.2.2.2 (gU_V ml_X11_242 im_yX11_isLaw se_yX11_isLaw ini_X11 cd_X11_isLaw) rfl rfl rfl (by decide +kernel) ⟨Nat.le_of_ble_eq_true rfl, Nat.le_of_ble_eq_true rfl⟩) t0 (by decide) rfl rfl rfl (Nat.le_of_ble_eq_true rfl) dX11_push_8 ⟨Nat.le_of_ble_eq_true rfl, Nat.le_of_ble_eq_true rfl⟩ ?_
  refine v_if_ne (tgt := 18) F dX11_push_11 (by decide) (fun hc5 => ?_) (fun hc5 => ?_)
  · rw [if_neg hc5] at h
    refine v_iconst (v := 0) F dX11_push_18 (by decide) ?_
    exact w_X11_push_b19 F hr hlk t0 _ _ _ t0 h
  · rw [if_pos hc5] at h
    refine v_iconst (v := 1) F dX11_push_14 (by decide) ?_
    refine v_goto (tgt := 19) F dX11_push_15 (by decide) ?_
    exact w_X11_push_b19 F hr hlk t0 _ _ _ t0 h
def f_X11_lays_h18 (a0 : Nat) (k10 : Int32 → Mem → Option (Int32 × Mem)) : Nat → Int32 → Int32 → Mem → Option (Int32 × Mem)
  | 0, _, _, _ => none
  | n + 1, x1, x2, M => if 4 ≤ x2 then (if ¬ (x1 < 0 ∨ gN (gRf a0 24) ≤ x1.toNatClampNeg) then (if ¬ (x1 < 0 ∨ gN (gRf a0 28) ≤ x1.toNatClampNeg) then (if ¬ (x1 < 0 ∨ gN (gRf a0 25) ≤ x1.toNatClampNeg) then (if ¬ (x1 < 0 ∨ gN (gRf a0 30) ≤ x1.toNatClampNeg) then (if vp_nar .boolean ((mU M (gRf a0 28) x1.toNatClampNeg (M (gRf a0 24) x1.toNatClampNeg)) (gRf a0 25) x1.toNatClampNeg) = ((mU M (gRf a0 28) x1.toNatClampNeg (M (gRf a0 24) x1.toNatClampNeg)) (gRf a0 25) x1.toNatClampNeg) then (k10 (x1 + 1) (mU (mU M (gRf a0 28) x1.toNatClampNeg (M (gRf a0 24) x1.toNatClampNeg)) (gRf a0 30) x1.toNatClampNeg ((mU M (gRf a0 28) x1.toNatClampNeg (M (gRf a0 24) x1.toNatClampNeg)) (gRf a0 25) x1.toNatClampNeg))) else none) else none) else none) else none) else none) else (if ¬ (x2 < 0 ∨ gN (gRf a0 27) ≤ x2.toNatClampNeg) then (if ¬ (x2 < 0 ∨ gN (gRf a0 22) ≤ x2.toNatClampNeg) then (if ¬ (x1 < 0 ∨ gN (gRf (gRf a0 22) x2.toNatClampNeg) ≤ x1.toNatClampNeg) then (if ¬ (x1 < 0 ∨ gN (gRf (gRf a0 27) x2.toNatClampNeg) ≤ x1.toNatClampNeg) then ((f_X11_lays_h18 a0 k10 n) x1 (x2 + 1) (mU M (gRf (gRf a0 27) x2.toNatClampNeg) x1.toNatClampNeg (M (gRf (gRf a0 22) x2.toNatClampNeg) x1.toNatClampNeg))) else none) else none) else none) else none)
def f_X11_lays_h10 (a0 : Nat)  : Nat → Int32 → Mem → Option (Int32 × Mem)
  | 0, _, _ => none
  | n + 1, x1, M => if 8 ≤ x1 then (some (0, M)) else (f_X11_lays_h18 a0 (f_X11_lays_h10 a0 n) FU x1 0 M)
def f_X11_lays  (M : Mem) (a0 : Nat) : Option (Int32 × Mem) := f_X11_lays_h10 a0 FU 0 (mU M a0 26 (M a0 20))
set_option maxHeartbeats 4000000 in
set_option maxRecDepth 100000 in
theorem w_X11_lays_h18 {g : gT} {p : Program} {l : Launch} {e : Env} {s : State} {m : MethodId} {args : Array Value} {below : List Frame} {meth : Method} {c : Code} {z : Int32 × Mem} (F : Fx g p s m args c cX11_lays 3 uX11_lays RX11) (hr : meth.sig.returnType = none) (hlk : meth.locks = false)  {a0 : Nat} (t0 : Ty g 11 a0) {k10 : Int32 → Mem → Option (Int32 × Mem)} (hk10 : ∀ (x1 : Int32) (M : Mem), k10 x1 M = some z → V g p l e ({ frames := 0, cells := 0, slots := 0, locals := 40 * 0 } : Room) s m args below meth c 3 0 0 (MQ below (gQ g none z.2) args s 0 0 (gA g)) 10 [(0, .ref (gAd g a0)), (1, .int x1)] [] M) : ∀ (n : Nat) (x1 : Int32) (x2 : Int32) (M : Mem), f_X11_lays_h18 a0 k10 n x1 x2 M = some z → V g p l e ({ frames := 0, cells := 0, slots := 0, locals := 40 * 0 } : Room) s m args below meth c 3 0 0 (MQ below (gQ g none z.2) args s 0 0 (gA g)) 18 [(0, .ref (gAd g a0)), (1, .int x1), (2, .int x2)] [] M := by
  intro n
  induction n with
  | zero => intro x1 x2 M; intros; rename_i h; cases h
  | succ n ih =>
    intro x1 x2 M h
    rw [f_X11_lays_h18] at h
    refine v_iload_n F dX11_lays_18 rfl 2 rfl ?_
    refine v_iconst (v := 4) F dX11_lays_19 (by decide) ?_
    refine v_icmp_ge (tgt := 45) F dX11_lays_20 (by decide) (fun hc2 => ?_) (fun hc2 => ?_)
    · rw [if_pos hc2] at h
      refine v_aload_n F dX11_lays_45 rfl 0 rfl ?_
      refine v_getR (k := 28) (f := 12) F t0 (by decide) (inc inU_11) rfl rfl (by decide) (by decide) (List.mem_cons_of_mem _ fl_X11_59) rfl dX11_lays_46 (fun u3 => ?_)
      refine v_iload_n F dX11_lays_49 rfl 1 rfl ?_
      refine v_aload_n F dX11_lays_50 rfl 0 rfl ?_
      refine v_getR (k := 24) (f := 12) F t0 (by decide) (inc inU_11) rfl rfl (by decide) (by decide) (List.mem_cons_of_mem _ fl_X11_49) rfl dX11_lays_51 (fun u4 => ?_)
      refine v_iload_n F dX11_lays_54 rfl 1 rfl ?_
      obtain ⟨hin5, h⟩ := gd_some h
      refine v_iald F u4 hin5 dX11_lays_55 ?_
      obtain ⟨hin6, h⟩ := gd_some h
      refine v_iast F u3 hin6 dX11_lays_56 ?_
      refine v_aload_n F dX11_lays_57 rfl 0 rfl ?_
      refine v_getR (k := 30) (f := 13) F t0 (by decide) (inc inU_11) rfl rfl (by decide) (by decide) (List.mem_cons_of_mem _ fl_X11_65) rfl dX11_lays_58 (fun u7 => ?_)
      refine v_iload_n F dX11_lays_61 rfl 1 rfl ?_
      refine v_aload_n F dX11_lays_62 rfl 0 rfl ?_
      refine v_getR (k := 25) (f := 13) F t0 (by decide) (inc inU_11) rfl rfl (by decide) (by decide) (List.mem_cons_of_mem _ fl_X11_52) rfl dX11_lays_63 (fun u8 => ?_)
      refine v_iload_n F dX11_lays_66 rfl 1 rfl ?_
      obtain ⟨hin9, h⟩ := gd_some h
      refine v_zald F u8 hin9 dX11_lays_67 ?_
      obtain ⟨hin10, h⟩ := gd_some h
      by_cases hb11 : vp_nar .boolean ((mU M (gRf a0 28) x1.toNatClampNeg (M (gRf a0 24) x1.toNatClampNeg)) (gRf a0 25) x1.toNatClampNeg) = ((mU M (gRf a0 28) x1.toNatClampNeg (M (gRf a0 24) x1.toNatClampNeg)) (gRf a0 25) x1.toNatClampNeg)
      rotate_left
      · rw [if_neg hb11] at h; cases h
      rw [if_pos hb11] at h
      refine v_zast F u7 hin10 hb11 dX11_lays_68 ?_
      refine v_iinc (v := x1 + 1) (lv' := [(1, .int (x1 + 1)), (0, .ref (gAd g a0)), (2, .int x2)]) F dX11_lays_69 (q := 1) rfl rfl (by decide) rfl ?_
      refine v_goto (tgt := 10) F dX11_lays_72 (by decide) ?_
      refine v_sub (fun ls h9 => lv_sub h9 [1, 0] rfl) ?_
      exact hk10 _ _ h
    · rw [if_neg hc2] at h
      refine v_aload_n F dX11_lays_23 rfl 0 rfl ?_
      refine v_getR (k := 27) (f := 16) F t0 (by decide) (inc inU_11) rfl rfl (by decide) (by decide) (List.mem_cons_of_mem _ fl_X11_56) rfl dX11_lays_24 (fun u12 => ?_)
      refine v_iload_n F dX11_lays_27 rfl 2 rfl ?_
      obtain ⟨hin13, h⟩ := gd_some h
      refine v_aald (ke := 12) (t0 := 4) F u12 (by decide) rfl rfl hin13 dX11_lays_28 (fun u14 => ?_)
      refine v_iload_n F dX11_lays_29 rfl 1 rfl ?_
      refine v_aload_n F dX11_lays_30 rfl 0 rfl ?_
      refine v_getR (k := 22) (f := 16) F t0 (by decide) (inc inU_11) rfl rfl (by decide) (by decide) (List.mem_cons_of_mem _ fl_X11_43) rfl dX11_lays_31 (fun u15 => ?_)
      refine v_iload_n F dX11_lays_34 rfl 2 rfl ?_
      obtain ⟨hin16, h⟩ := gd_some h
      refine v_aald (ke := 12) (t0 := 4) F u15 (by decide) rfl rfl hin16 dX11_lays_35 (fun u17 => ?_)
      refine v_iload_n F dX11_lays_36 rfl 1 rfl ?_
      obtain ⟨hin18, h⟩ := gd_some h
      refine v_iald F u17 hin18 dX11_lays_37 ?_
      obtain ⟨hin19, h⟩ := gd_some h
      refine v_iast F u14 hin19 dX11_lays_38 ?_
      refine v_iinc (v := x2 + 1) (lv' := [(2, .int (x2 + 1)), (0, .ref (gAd g a0)), (1, .int x1)]) F dX11_lays_39 (q := 2) rfl rfl (by decide) rfl ?_
      refine v_goto (tgt := 18) F dX11_lays_42 (by decide) ?_
      refine v_sub (fun ls h9 => lv_sub h9 [1, 2, 0] rfl) ?_
      exact ih _ _ _ h
set_option maxHeartbeats 4000000 in
set_option maxRecDepth 100000 in
theorem w_X11_lays_h10 {g : gT} {p : Program} {l : Launch} {e : Env} {s : State} {m : MethodId} {args : Array Value} {below : List Frame} {meth : Method} {c : Code} {z : Int32 × Mem} (F : Fx g p s m args c cX11_lays 3 uX11_lays RX11) (hr : meth.sig.returnType = none) (hlk : meth.locks = false)  {a0 : Nat} (t0 : Ty g 11 a0)   : ∀ (n : Nat) (x1 : Int32) (M : Mem), f_X11_lays_h10 a0 n x1 M = some z → V g p l e ({ frames := 0, cells := 0, slots := 0, locals := 40 * 0 } : Room) s m args below meth c 3 0 0 (MQ below (gQ g none z.2) args s 0 0 (gA g)) 10 [(0, .ref (gAd g a0)), (1, .int x1)] [] M := by
  intro n
  induction n with
  | zero => intro x1 M; intros; rename_i h; cases h
  | succ n ih =>
    intro x1 M h
    rw [f_X11_lays_h10] at h
    refine v_iload_n F dX11_lays_10 rfl 1 rfl ?_
    refine v_bipush (v := 8) F dX11_lays_11 (by decide) ?_
    refine v_icmp_ge (tgt := 75) F dX11_lays_13 (by decide) (fun hc1 => ?_) (fun hc1 => ?_)
    · rw [if_pos hc1] at h
      cases h
      exact v_vret F hr hlk dX11_lays_75
    · rw [if_neg hc1] at h
      refine v_iconst (v := 0) F dX11_lays_16 (by decide) ?_
      refine v_istore_n (lv' := [(2, .int 0), (0, .ref (gAd g a0)), (1, .int x1)]) F dX11_lays_17 rfl (by decide) rfl ?_
      refine v_sub (fun ls h9 => lv_sub h9 [1, 2, 0] rfl) ?_
      exact w_X11_lays_h18 F hr hlk t0 ih _ _ _ _ h
set_option maxHeartbeats 4000000 in
set_option maxRecDepth 100000 in
theorem c_X11_lays {g : gT} (l : Launch) (hok : gOK g)  {a0 : Nat} {M : Mem} {z : Int32 × Mem}  (t0 : Ty g 11 a0) (h : f_X11_lays  M a0 = some z) : Cn g l yX11_lays uX11_lays 0 [.ref (gAd g a0)] M none z.2 := by
  refine Cn.of (cc := cX11_lays) (maxL := 3) (ret := none) hok (by decide) rfl (Nat.le_of_ble_eq_true rfl) (fun p e s m args below meth c F hr hlk => ?_)
  unfold f_X11_lays at h
  show V g p l e ({ frames := 0, cells := 0, slots := 0, locals := 40 * 0 } : Room) s m args below meth c 3 0 0 (MQ below (gQ g none z.2) args s 0 0 (gA g)) 0 [(0, .ref (gAd g a0))] [] M
  refine v_aload_n F dX11_lays_0 rfl 0 rfl ?_
  refine v_aload_n F dX11_lays_1 rfl 0 rfl ?_
  refine v_getI (k := 20) F t0 (by decide) (inc inU_11) rfl rfl (by decide) (List.mem_cons_of_mem _ fl_X11_200) rfl dX11_lays_2 ?_
  refine v_put (k := 26) (ty := .int) F t0 (by decide) (inc inU_11) tyX11 tyX11_ok nmX11 rfl rfl (by decide) (List.mem_cons_of_mem _ fl_X11_248) rfl rfl (by decide +kernel) rfl rfl dX11_lays_5 ?_
  refine v_iconst (v := 0) F dX11_lays_8 (by decide) ?_
  refine v_istore_n (lv' := [(1, .int 0), (0, .ref (gAd g a0))]) F dX11_lays_9 rfl (by decide) rfl ?_
  refine v_sub (fun ls h9 => lv_sub h9 [1, 0] rfl) ?_
  exact w_X11_lays_h10 F hr hlk t0 _ _ _ h
def f_X11_laysBack_h18 (a0 : Nat) (k10 : Int32 → Mem → Option (Int32 × Mem)) : Nat → Int32 → Int32 → Mem → Option (Int32 × Mem)
  | 0, _, _, _ => none
  | n + 1, x1, x2, M => if 4 ≤ x2 then (if ¬ (x1 < 0 ∨ gN (gRf a0 28) ≤ x1.toNatClampNeg) then (if ¬ (x1 < 0 ∨ gN (gRf a0 24) ≤ x1.toNatClampNeg) then (if ¬ (x1 < 0 ∨ gN (gRf a0 30) ≤ x1.toNatClampNeg) then (if ¬ (x1 < 0 ∨ gN (gRf a0 25) ≤ x1.toNatClampNeg) then (if vp_nar .boolean ((mU M (gRf a0 24) x1.toNatClampNeg (M (gRf a0 28) x1.toNatClampNeg)) (gRf a0 30) x1.toNatClampNeg) = ((mU M (gRf a0 24) x1.toNatClampNeg (M (gRf a0 28) x1.toNatClampNeg)) (gRf a0 30) x1.toNatClampNeg) then (k10 (x1 + 1) (mU (mU M (gRf a0 24) x1.toNatClampNeg (M (gRf a0 28) x1.toNatClampNeg)) (gRf a0 25) x1.toNatClampNeg ((mU M (gRf a0 24) x1.toNatClampNeg (M (gRf a0 28) x1.toNatClampNeg)) (gRf a0 30) x1.toNatClampNeg))) else none) else none) else none) else none) else none) else (if ¬ (x2 < 0 ∨ gN (gRf a0 22) ≤ x2.toNatClampNeg) then (if ¬ (x2 < 0 ∨ gN (gRf a0 27) ≤ x2.toNatClampNeg) then (if ¬ (x1 < 0 ∨ gN (gRf (gRf a0 27) x2.toNatClampNeg) ≤ x1.toNatClampNeg) then (if ¬ (x1 < 0 ∨ gN (gRf (gRf a0 22) x2.toNatClampNeg) ≤ x1.toNatClampNeg) then ((f_X11_laysBack_h18 a0 k10 n) x1 (x2 + 1) (mU M (gRf (gRf a0 22) x2.toNatClampNeg) x1.toNatClampNeg (M (gRf (gRf a0 27) x2.toNatClampNeg) x1.toNatClampNeg))) else none) else none) else none) else none)
def f_X11_laysBack_h10 (a0 : Nat)  : Nat → Int32 → Mem → Option (Int32 × Mem)
  | 0, _, _ => none
  | n + 1, x1, M => if 8 ≤ x1 then (some (0, M)) else (f_X11_laysBack_h18 a0 (f_X11_laysBack_h10 a0 n) FU x1 0 M)
def f_X11_laysBack  (M : Mem) (a0 : Nat) : Option (Int32 × Mem) := f_X11_laysBack_h10 a0 FU 0 (mU M a0 20 (M a0 26))
set_option maxHeartbeats 4000000 in
set_option maxRecDepth 100000 in
theorem w_X11_laysBack_h18 {g : gT} {p : Program} {l : Launch} {e : Env} {s : State} {m : MethodId} {args : Array Value} {below : List Frame} {meth : Method} {c : Code} {z : Int32 × Mem} (F : Fx g p s m args c cX11_laysBack 3 uX11_laysBack RX11) (hr : meth.sig.returnType = none) (hlk : meth.locks = false)  {a0 : Nat} (t0 : Ty g 11 a0) {k10 : Int32 → Mem → Option (Int32 × Mem)} (hk10 : ∀ (x1 : Int32) (M : Mem), k10 x1 M = some z → V g p l e ({ frames := 0, cells := 0, slots := 0, locals := 40 * 0 } : Room) s m args below meth c 3 0 0 (MQ below (gQ g none z.2) args s 0 0 (gA g)) 10 [(0, .ref (gAd g a0)), (1, .int x1)] [] M) : ∀ (n : Nat) (x1 : Int32) (x2 : Int32) (M : Mem), f_X11_laysBack_h18 a0 k10 n x1 x2 M = some z → V g p l e ({ frames := 0, cells := 0, slots := 0, locals := 40 * 0 } : Room) s m args below meth c 3 0 0 (MQ below (gQ g none z.2) args s 0 0 (gA g)) 18 [(0, .ref (gAd g a0)), (1, .int x1), (2, .int x2)] [] M := by
  intro n
  induction n with
  | zero => intro x1 x2 M; intros; rename_i h; cases h
  | succ n ih =>
    intro x1 x2 M h
    rw [f_X11_laysBack_h18] at h
    refine v_iload_n F dX11_laysBack_18 rfl 2 rfl ?_
    refine v_iconst (v := 4) F dX11_laysBack_19 (by decide) ?_
    refine v_icmp_ge (tgt := 45) F dX11_laysBack_20 (by decide) (fun hc2 => ?_) (fun hc2 => ?_)
    · rw [if_pos hc2] at h
      refine v_aload_n F dX11_laysBack_45 rfl 0 rfl ?_
      refine v_getR (k := 24) (f := 12) F t0 (by decide) (inc inU_11) rfl rfl (by decide) (by decide) (List.mem_cons_of_mem _ fl_X11_49) rfl dX11_laysBack_46 (fun u3 => ?_)
      refine v_iload_n F dX11_laysBack_49 rfl 1 rfl ?_
      refine v_aload_n F dX11_laysBack_50 rfl 0 rfl ?_
      refine v_getR (k := 28) (f := 12) F t0 (by decide) (inc inU_11) rfl rfl (by decide) (by decide) (List.mem_cons_of_mem _ fl_X11_59) rfl dX11_laysBack_51 (fun u4 => ?_)
      refine v_iload_n F dX11_laysBack_54 rfl 1 rfl ?_
      obtain ⟨hin5, h⟩ := gd_some h
      refine v_iald F u4 hin5 dX11_laysBack_55 ?_
      obtain ⟨hin6, h⟩ := gd_some h
      refine v_iast F u3 hin6 dX11_laysBack_56 ?_
      refine v_aload_n F dX11_laysBack_57 rfl 0 rfl ?_
      refine v_getR (k := 25) (f := 13) F t0 (by decide) (inc inU_11) rfl rfl (by decide) (by decide) (List.mem_cons_of_mem _ fl_X11_52) rfl dX11_laysBack_58 (fun u7 => ?_)
      refine v_iload_n F dX11_laysBack_61 rfl 1 rfl ?_
      refine v_aload_n F dX11_laysBack_62 rfl 0 rfl ?_
      refine v_getR (k := 30) (f := 13) F t0 (by decide) (inc inU_11) rfl rfl (by decide) (by decide) (List.mem_cons_of_mem _ fl_X11_65) rfl dX11_laysBack_63 (fun u8 => ?_)
      refine v_iload_n F dX11_laysBack_66 rfl 1 rfl ?_
      obtain ⟨hin9, h⟩ := gd_some h
      refine v_zald F u8 hin9 dX11_laysBack_67 ?_
      obtain ⟨hin10, h⟩ := gd_some h
      by_cases hb11 : vp_nar .boolean ((mU M (gRf a0 24) x1.toNatClampNeg (M (gRf a0 28) x1.toNatClampNeg)) (gRf a0 30) x1.toNatClampNeg) = ((mU M (gRf a0 24) x1.toNatClampNeg (M (gRf a0 28) x1.toNatClampNeg)) (gRf a0 30) x1.toNatClampNeg)
      rotate_left
      · rw [if_neg hb11] at h; cases h
      rw [if_pos hb11] at h
      refine v_zast F u7 hin10 hb11 dX11_laysBack_68 ?_
      refine v_iinc (v := x1 + 1) (lv' := [(1, .int (x1 + 1)), (0, .ref (gAd g a0)), (2, .int x2)]) F dX11_laysBack_69 (q := 1) rfl rfl (by decide) rfl ?_
      refine v_goto (tgt := 10) F dX11_laysBack_72 (by decide) ?_
      refine v_sub (fun ls h9 => lv_sub h9 [1, 0] rfl) ?_
      exact hk10 _ _ h
    · rw [if_neg hc2] at h
      refine v_aload_n F dX11_laysBack_23 rfl 0 rfl ?_
      refine v_getR (k := 22) (f := 16) F t0 (by decide) (inc inU_11) rfl rfl (by decide) (by decide) (List.mem_cons_of_mem _ fl_X11_43) rfl dX11_laysBack_24 (fun u12 => ?_)
      refine v_iload_n F dX11_laysBack_27 rfl 2 rfl ?_
      obtain ⟨hin13, h⟩ := gd_some h
      refine v_aald (ke := 12) (t0 := 4) F u12 (by decide) rfl rfl hin13 dX11_laysBack_28 (fun u14 => ?_)
      refine v_iload_n F dX11_laysBack_29 rfl 1 rfl ?_
      refine v_aload_n F dX11_laysBack_30 rfl 0 rfl ?_
      refine v_getR (k := 27) (f := 16) F t0 (by decide) (inc inU_11) rfl rfl (by decide) (by decide) (List.mem_cons_of_mem _ fl_X11_56) rfl dX11_laysBack_31 (fun u15 => ?_)
      refine v_iload_n F dX11_laysBack_34 rfl 2 rfl ?_
      obtain ⟨hin16, h⟩ := gd_some h
      refine v_aald (ke := 12) (t0 := 4) F u15 (by decide) rfl rfl hin16 dX11_laysBack_35 (fun u17 => ?_)
      refine v_iload_n F dX11_laysBack_36 rfl 1 rfl ?_
      obtain ⟨hin18, h⟩ := gd_some h
      refine v_iald F u17 hin18 dX11_laysBack_37 ?_
      obtain ⟨hin19, h⟩ := gd_some h
      refine v_iast F u14 hin19 dX11_laysBack_38 ?_
      refine v_iinc (v := x2 + 1) (lv' := [(2, .int (x2 + 1)), (0, .ref (gAd g a0)), (1, .int x1)]) F dX11_laysBack_39 (q := 2) rfl rfl (by decide) rfl ?_
      refine v_goto (tgt := 18) F dX11_laysBack_42 (by decide) ?_
      refine v_sub (fun ls h9 => lv_sub h9 [1, 2, 0] rfl) ?_
      exact ih _ _ _ h
set_option maxHeartbeats 4000000 in
set_option maxRecDepth 100000 in
theorem w_X11_laysBack_h10 {g : gT} {p : Program} {l : Launch} {e : Env} {s : State} {m : MethodId} {args : Array Value} {below : List Frame} {meth : Method} {c : Code} {z : Int32 × Mem} (F : Fx g p s m args c cX11_laysBack 3 uX11_laysBack RX11) (hr : meth.sig.returnType = none) (hlk : meth.locks = false)  {a0 : Nat} (t0 : Ty g 11 a0)   : ∀ (n : Nat) (x1 : Int32) (M : Mem), f_X11_laysBack_h10 a0 n x1 M = some z → V g p l e ({ frames := 0, cells := 0, slots := 0, locals := 40 * 0 } : Room) s m args below meth c 3 0 0 (MQ below (gQ g none z.2) args s 0 0 (gA g)) 10 [(0, .ref (gAd g a0)), (1, .int x1)] [] M := by
  intro n
  induction n with
  | zero => intro x1 M; intros; rename_i h; cases h
  | succ n ih =>
    intro x1 M h
    rw [f_X11_laysBack_h10] at h
    refine v_iload_n F dX11_laysBack_10 rfl 1 rfl ?_
    refine v_bipush (v := 8) F dX11_laysBack_11 (by decide) ?_
    refine v_icmp_ge (tgt := 75) F dX11_laysBack_13 (by decide) (fun hc1 => ?_) (fun hc1 => ?_)
    · rw [if_pos hc1] at h
      cases h
      exact v_vret F hr hlk dX11_laysBack_75
    · rw [if_neg hc1] at h
      refine v_iconst (v := 0) F dX11_laysBack_16 (by decide) ?_
      refine v_istore_n (lv' := [(2, .int 0), (0, .ref (gAd g a0)), (1, .int x1)]) F dX11_laysBack_17 rfl (by decide) rfl ?_
      refine v_sub (fun ls h9 => lv_sub h9 [1, 2, 0] rfl) ?_
      exact w_X11_laysBack_h18 F hr hlk t0 ih _ _ _ _ h
set_option maxHeartbeats 4000000 in
set_option maxRecDepth 100000 in
theorem c_X11_laysBack {g : gT} (l : Launch) (hok : gOK g)  {a0 : Nat} {M : Mem} {z : Int32 × Mem}  (t0 : Ty g 11 a0) (h : f_X11_laysBack  M a0 = some z) : Cn g l yX11_laysBack uX11_laysBack 0 [.ref (gAd g a0)] M none z.2 := by
  refine Cn.of (cc := cX11_laysBack) (maxL := 3) (ret := none) hok (by decide) rfl (Nat.le_of_ble_eq_true rfl) (fun p e s m args below meth c F hr hlk => ?_)
  unfold f_X11_laysBack at h
  show V g p l e ({ frames := 0, cells := 0, slots := 0, locals := 40 * 0 } : Room) s m args below meth c 3 0 0 (MQ below (gQ g none z.2) args s 0 0 (gA g)) 0 [(0, .ref (gAd g a0))] [] M
  refine v_aload_n F dX11_laysBack_0 rfl 0 rfl ?_
  refine v_aload_n F dX11_laysBack_1 rfl 0 rfl ?_
  refine v_getI (k := 26) F t0 (by decide) (inc inU_11) rfl rfl (by decide) (List.mem_cons_of_mem _ fl_X11_248) rfl dX11_laysBack_2 ?_
  refine v_put (k := 20) (ty := .int) F t0 (by decide) (inc inU_11) tyX11 tyX11_ok nmX11 rfl rfl (by decide) (List.mem_cons_of_mem _ fl_X11_200) rfl rfl (by decide +kernel) rfl rfl dX11_laysBack_5 ?_
  refine v_iconst (v := 0) F dX11_laysBack_8 (by decide) ?_
  refine v_istore_n (lv' := [(1, .int 0), (0, .ref (gAd g a0))]) F dX11_laysBack_9 rfl (by decide) rfl ?_
  refine v_sub (fun ls h9 => lv_sub h9 [1, 0] rfl) ?_
  exact w_X11_laysBack_h10 F hr hlk t0 _ _ _ h
def f_X11_begins_b40 (a0 : Nat) (i1 : Int32) (i2 : Int32) (i3 : Int32) (k12 : Int32 → Mem → Option (Int32 × Mem)) (s0 : Nat) (s1 : Int32) (s2 : Int32) (x4 : Int32) (M : Mem) : Option (Int32 × Mem) := if ¬ (s1 < 0 ∨ gN s0 ≤ s1.toNatClampNeg) then (if ¬ (x4 < 0 ∨ gN (gRf a0 25) ≤ x4.toNatClampNeg) then (k12 (x4 + 1) (mU (mU M s0 s1.toNatClampNeg s2) (gRf a0 25) x4.toNatClampNeg 0)) else none) else none
def f_X11_begins_h12 (a0 : Nat) (i1 : Int32) (i2 : Int32) (i3 : Int32)  : Nat → Int32 → Mem → Option (Int32 × Mem)
  | 0, _, _ => none
  | n + 1, x4, M => if 8 ≤ x4 then ((f_X11_shapes M a0 i1 i2 i3).bind fun q => match q with | (r6, M7) => (some (0, M7))) else (if ¬ (x4 < 0 ∨ gN (gRf a0 24) ≤ x4.toNatClampNeg) then (if (M (gRf a0 24) x4.toNatClampNeg) ≤ 0 then (f_X11_begins_b40 a0 i1 i2 i3 (f_X11_begins_h12 a0 i1 i2 i3 n) (gRf a0 24) x4 0 x4 M) else (f_X11_begins_b40 a0 i1 i2 i3 (f_X11_begins_h12 a0 i1 i2 i3 n) (gRf a0 24) x4 2 x4 M)) else none)
def f_X11_begins  (M : Mem) (a0 : Nat) (i1 : Int32) (i2 : Int32) (i3 : Int32) : Option (Int32 × Mem) := (f_X11_lays M a0).bind fun q => match q with | (r1, M2) => (f_X11_begins_h12 a0 i1 i2 i3 FU 0 (mU M2 a0 20 0))
set_option maxHeartbeats 4000000 in
set_option maxRecDepth 100000 in
theorem w_X11_begins_b40 {g : gT} {p : Program} {l : Launch} {e : Env} {s : State} {m : MethodId} {args : Array Value} {below : List Frame} {meth : Method} {c : Code} {z : Int32 × Mem} (F : Fx g p s m args c cX11_begins 5 uX11_begins RX11) (hr : meth.sig.returnType = none) (hlk : meth.locks = false)  {a0 : Nat} {i1 : Int32} {i2 : Int32} {i3 : Int32} (t0 : Ty g 11 a0) {k12 : Int32 → Mem → Option (Int32 × Mem)} (hk12 : ∀ (x4 : Int32) (M : Mem), k12 x4 M = some z → V g p l e ({ frames := 1, cells := 0, slots := 0, locals := 40 * 1 } : Room) s m args below meth c 5 0 0 (MQ below (gQ g none z.2) args s 0 0 (gA g)) 12 [(0, .ref (gAd g a0)), (1, .int i1), (2, .int i2), (3, .int i3), (4, .int x4)] [] M) (s0 : Nat) (s1 : Int32) (s2 : Int32) (x4 : Int32) (M : Mem) (ts0 : Ty g 12 s0) (h : f_X11_begins_b40 a0 i1 i2 i3 k12 s0 s1 s2 x4 M = some z) : V g p l e ({ frames := 1, cells := 0, slots := 0, locals := 40 * 1 } : Room) s m args below meth c 5 0 0 (MQ below (gQ g none z.2) args s 0 0 (gA g)) 40 [(0, .ref (gAd g a0)), (1, .int i1), (2, .int i2), (3, .int i3), (4, .int x4)] [.int s2, .int s1, .ref (gAd g s0)] M := by
  unfold f_X11_begins_b40 at h
  obtain ⟨hin14, h⟩ := gd_some h
  refine v_iast F ts0 hin14 dX11_begins_40 ?_
  refine v_aload_n F dX11_begins_41 rfl 0 rfl ?_
  refine v_getR (k := 25) (f := 13) F t0 (by decide) (inc inU_11) rfl rfl (by decide) (by decide) (List.mem_cons_of_mem _ fl_X11_52) rfl dX11_begins_42 (fun u15 => ?_)
  refine v_iload F dX11_begins_45 4 rfl ?_
  refine v_iconst (v := 0) F dX11_begins_47 (by decide) ?_
  obtain ⟨hin16, h⟩ := gd_some h
  refine v_zast F u15 hin16 rfl dX11_begins_48 ?_
  refine v_iinc (v := x4 + 1) (lv' := [(4, .int (x4 + 1)), (0, .ref (gAd g a0)), (1, .int i1), (2, .int i2), (3, .int i3)]) F dX11_begins_49 (q := 4) rfl rfl (by decide) rfl ?_
  refine v_goto (tgt := 12) F dX11_begins_52 (by decide) ?_
  refine v_sub (fun ls h9 => lv_sub h9 [1, 2, 3, 4, 0] rfl) ?_
  exact hk12 _ _ h
set_option maxHeartbeats 4000000 in
set_option maxRecDepth 100000 in
theorem w_X11_begins_h12 {g : gT} {p : Program} {l : Launch} {e : Env} {s : State} {m : MethodId} {args : Array Value} {below : List Frame} {meth : Method} {c : Code} {z : Int32 × Mem} (F : Fx g p s m args c cX11_begins 5 uX11_begins RX11) (hr : meth.sig.returnType = none) (hlk : meth.locks = false)  {a0 : Nat} {i1 : Int32} {i2 : Int32} {i3 : Int32} (t0 : Ty g 11 a0)   : ∀ (n : Nat) (x4 : Int32) (M : Mem), f_X11_begins_h12 a0 i1 i2 i3 n x4 M = some z → V g p l e ({ frames := 1, cells := 0, slots := 0, locals := 40 * 1 } : Room) s m args below meth c 5 0 0 (MQ below (gQ g none z.2) args s 0 0 (gA g)) 12 [(0, .ref (gAd g a0)), (1, .int i1), (2, .int i2), (3, .int i3), (4, .int x4)] [] M := by
  intro n
  induction n with
  | zero => intro x4 M; intros; rename_i h; cases h
  | succ n ih =>
    intro x4 M h
    rw [f_X11_begins_h12] at h
    refine v_iload F dX11_begins_12 4 rfl ?_
    refine v_bipush (v := 8) F dX11_begins_14 (by decide) ?_
    refine v_icmp_ge (tgt := 55) F dX11_begins_16 (by decide) (fun hc5 => ?_) (fun hc5 => ?_)
    · rw [if_pos hc5] at h
      refine v_aload_n F dX11_begins_55 rfl 0 rfl ?_
      refine v_iload_n F dX11_begins_56 rfl 1 rfl ?_
      refine v_iload_n F dX11_begins_57 rfl 2 rfl ?_
      refine v_iload_n F dX11_begins_58 rfl 3 rfl ?_
      obtain ⟨⟨r6, M7⟩, hz8, h⟩ := bd_some h
      dsimp only at h
      refine v_callVv (As := [.int i1, .int i2, .int i3]) (rest := []) F (c_X11_shapes l F.2.2.1 t0 hz8) (cwV 3 F.1.2.2.2.2 (gU_V ml_X11_217 im_yX11_shapes se_yX11_shapes ini_X11 cd_X11_shapes) rfl rfl rfl (by decide +kernel) ⟨Nat.le_of_ble_eq_true rfl, Nat.le_of_ble_eq_true rfl⟩) t0 (by decide) rfl rfl rfl (Nat.le_of_ble_eq_true rfl) dX11_begins_59 ⟨Nat.le_of_ble_eq_true rfl, Nat.le_of_ble_eq_true rfl⟩ ?_
      cases h
      exact v_vret F hr hlk dX11_begins_62
    · rw [if_neg hc5] at h
      refine v_aload_n F dX11_begins_19 rfl 0 rfl ?_
      refine v_getR (k := 24) (f := 12) F t0 (by decide) (inc inU_11) rfl rfl (by decide) (by decide) (List.mem_cons_of_mem _ fl_X11_49) rfl dX11_begins_20 (fun u10 => ?_)
      refine v_iload F dX11_begins_23 4 rfl ?_
      refine v_aload_n F dX11_begins_25 rfl 0 rfl ?_
      refine v_getR (k := 24) (f := 12) F t0 (by decide) (inc inU_11) rfl rfl (by decide) (by decide) (List.mem_cons_of_mem _ fl_X11_49) rfl dX11_begins_26 (fun u11 => ?_)
      refine v_iload F dX11_begins_29 4 rfl ?_
      obtain ⟨hin12, h⟩ := gd_some h
      refine v_iald F u11 hin12 dX11_begins_31 ?_
      refine v_if_le (tgt := 39) F dX11_begins_32 (by decide) (fun hc13 => ?_) (fun hc13 => ?_)
      · rw [if_pos hc13] at h
        refine v_iconst (v := 0) F dX11_begins_39 (by decide) ?_
        exact w_X11_begins_b40 F hr hlk t0 ih _ _ _ _ _ u10 h
      · rw [if_neg hc13] at h
        refine v_iconst (v := 2) F dX11_begins_35 (by decide) ?_
        refine v_goto (tgt := 40) F dX11_begins_36 (by decide) ?_
        exact w_X11_begins_b40 F hr hlk t0 ih _ _ _ _ _ u10 h
set_option maxHeartbeats 4000000 in
set_option maxRecDepth 100000 in
theorem c_X11_begins {g : gT} (l : Launch) (hok : gOK g)  {a0 : Nat} {i1 : Int32} {i2 : Int32} {i3 : Int32} {M : Mem} {z : Int32 × Mem}  (t0 : Ty g 11 a0) (h : f_X11_begins  M a0 i1 i2 i3 = some z) : Cn g l yX11_begins uX11_begins 1 [.ref (gAd g a0), .int i1, .int i2, .int i3] M none z.2 := by
  refine Cn.of (cc := cX11_begins) (maxL := 5) (ret := none) hok (by decide) rfl (Nat.le_of_ble_eq_true rfl) (fun p e s m args below meth c F hr hlk => ?_)
  unfold f_X11_begins at h
  show V g p l e ({ frames := 1, cells := 0, slots := 0, locals := 40 * 1 } : Room) s m args below meth c 5 0 0 (MQ below (gQ g none z.2) args s 0 0 (gA g)) 0 [(0, .ref (gAd g a0)), (1, .int i1), (2, .int i2), (3, .int i3)] [] M
  refine v_aload_n F dX11_begins_0 rfl 0 rfl ?_
  obtain ⟨⟨r1, M2⟩, hz3, h⟩ := bd_some h
  dsimp only at h
  refine v_callVv (As := []) (rest := []) F (c_X11_lays l F.2.2.1 t0 hz3) (cwV 0 F.1.2.2.2.2 (gU_V ml_X11_251 im_yX11_lays se_yX11_lays ini_X11 cd_X11_lays) rfl rfl rfl (by decide +kernel) ⟨Nat.le_of_ble_eq_true rfl, Nat.le_of_ble_eq_true rfl⟩) t0 (by decide) rfl rfl rfl (Nat.le_of_ble_eq_true rfl) dX11_begins_1 ⟨Nat.le_of_ble_eq_true rfl, Nat.le_of_ble_eq_true rfl⟩ ?_
  refine v_aload_n F dX11_begins_4 rfl 0 rfl ?_
  refine v_iconst (v := 0) F dX11_begins_5 (by decide) ?_
  refine v_put (k := 20) (ty := .int) F t0 (by decide) (inc inU_11) tyX11 tyX11_ok nmX11 rfl rfl (by decide) (List.mem_cons_of_mem _ fl_X11_200) rfl rfl (by decide +kernel) rfl rfl dX11_begins_6 ?_
  refine v_iconst (v := 0) F dX11_begins_9 (by decide) ?_
  refine v_istore (lv' := [(4, .int 0), (0, .ref (gAd g a0)), (1, .int i1), (2, .int i2), (3, .int i3)]) F dX11_begins_10 (by decide) rfl ?_
  refine v_sub (fun ls h9 => lv_sub h9 [1, 2, 3, 4, 0] rfl) ?_
  exact w_X11_begins_h12 F hr hlk t0 _ _ _ h
def f_X11_growsBy_b80 (a0 : Nat) (i1 : Int32) (i2 : Int32) (i3 : Int32) (i4 : Int32) (i5 : Int32) (k18 : Int32 → Int32 → Int32 → Mem → Option (Int32 × Mem)) (x6 : Int32) (x7 : Int32) (x8 : Int32) (M : Mem) : Option (Int32 × Mem) := k18 x6 x7 (x8 + 1) M
def f_X11_growsBy_b59 (a0 : Nat) (i1 : Int32) (i2 : Int32) (i3 : Int32) (i4 : Int32) (i5 : Int32) (k18 : Int32 → Int32 → Int32 → Mem → Option (Int32 × Mem)) (s0 : Int32) (x7 : Int32) (x8 : Int32) (M : Mem) : Option (Int32 × Mem) := f_X11_growsBy_b80 a0 i1 i2 i3 i4 i5 k18 s0 x7 x8 M
def f_X11_growsBy_b78 (a0 : Nat) (i1 : Int32) (i2 : Int32) (i3 : Int32) (i4 : Int32) (i5 : Int32) (k18 : Int32 → Int32 → Int32 → Mem → Option (Int32 × Mem)) (s0 : Int32) (x6 : Int32) (x8 : Int32) (M : Mem) : Option (Int32 × Mem) := f_X11_growsBy_b80 a0 i1 i2 i3 i4 i5 k18 x6 s0 x8 M
def f_X11_growsBy_h18 (a0 : Nat) (i1 : Int32) (i2 : Int32) (i3 : Int32) (i4 : Int32) (i5 : Int32)  : Nat → Int32 → Int32 → Int32 → Mem → Option (Int32 × Mem)
  | 0, _, _, _, _ => none
  | n + 1, x6, x7, x8, M => if 60 < x8 then ((f_X11_laysBack M a0).bind fun q => match q with | (r6, M7) => (if x7 ≤ x6 then (some (0, M7)) else (some (1, M7)))) else ((f_X11_tick M a0 i1 i2).bind fun q => match q with | (r11, M12) => ((f_X11_sizeOf M12 a0 i3).bind fun q => match q with | (r15, M16) => (if 30 < x8 then (if r15 ≤ x7 then (f_X11_growsBy_b78 a0 i1 i2 i3 i4 i5 (f_X11_growsBy_h18 a0 i1 i2 i3 i4 i5 n) x7 x6 x8 M16) else (f_X11_growsBy_b78 a0 i1 i2 i3 i4 i5 (f_X11_growsBy_h18 a0 i1 i2 i3 i4 i5 n) r15 x6 x8 M16)) else (if r15 ≤ x6 then (f_X11_growsBy_b59 a0 i1 i2 i3 i4 i5 (f_X11_growsBy_h18 a0 i1 i2 i3 i4 i5 n) x6 x7 x8 M16) else (f_X11_growsBy_b59 a0 i1 i2 i3 i4 i5 (f_X11_growsBy_h18 a0 i1 i2 i3 i4 i5 n) r15 x7 x8 M16)))))
def f_X11_growsBy  (M : Mem) (a0 : Nat) (i1 : Int32) (i2 : Int32) (i3 : Int32) (i4 : Int32) (i5 : Int32) : Option (Int32 × Mem) := (f_X11_begins M a0 i3 i4 i5).bind fun q => match q with | (r1, M2) => (f_X11_growsBy_h18 a0 i1 i2 i3 i4 i5 FU 0 0 1 M2)
set_option maxHeartbeats 4000000 in
set_option maxRecDepth 100000 in
theorem w_X11_growsBy_b80 {g : gT} {p : Program} {l : Launch} {e : Env} {s : State} {m : MethodId} {args : Array Value} {below : List Frame} {meth : Method} {c : Code} {z : Int32 × Mem} (F : Fx g p s m args c cX11_growsBy 10 uX11_growsBy RX11) (hr : meth.sig.returnType = (some .boolean)) (hlk : meth.locks = false)  {a0 : Nat} {i1 : Int32} {i2 : Int32} {i3 : Int32} {i4 : Int32} {i5 : Int32} (t0 : Ty g 11 a0) {k18 : Int32 → Int32 → Int32 → Mem → Option (Int32 × Mem)} (hk18 : ∀ (x6 : Int32) (x7 : Int32) (x8 : Int32) (M : Mem), k18 x6 x7 x8 M = some z → V g p l e ({ frames := 3, cells := 0, slots := 0, locals := 40 * 3 } : Room) s m args below meth c 10 0 0 (MQ below (gQ g (some (.int z.1)) z.2) args s 0 0 (gA g)) 18 [(0, .ref (gAd g a0)), (1, .int i1), (2, .int i2), (3, .int i3), (4, .int i4), (5, .int i5), (6, .int x6), (7, .int x7), (8, .int x8)] [] M) (x6 : Int32) (x7 : Int32) (x8 : Int32) (M : Mem)  (h : f_X11_growsBy_b80 a0 i1 i2 i3 i4 i5 k18 x6 x7 x8 M = some z) : V g p l e ({ frames := 3, cells := 0, slots := 0, locals := 40 * 3 } : Room) s m args below meth c 10 0 0 (MQ below (gQ g (some (.int z.1)) z.2) args s 0 0 (gA g)) 80 [(0, .ref (gAd g a0)), (1, .int i1), (2, .int i2), (3, .int i3), (4, .int i4), (5, .int i5), (6, .int x6), (7, .int x7), (8, .int x8)] [] M := by
  unfold f_X11_growsBy_b80 at h
  refine v_iinc (v := x8 + 1) (lv' := [(8, .int (x8 + 1)), (0, .ref (gAd g a0)), (1, .int i1), (2, .int i2), (3, .int i3), (4, .int i4), (5, .int i5), (6, .int x6), (7, .int x7)]) F dX11_growsBy_80 (q := 8) rfl rfl (by decide) rfl ?_
  refine v_goto (tgt := 18) F dX11_growsBy_83 (by decide) ?_
  refine v_sub (fun ls h9 => lv_sub h9 [1, 2, 3, 4, 5, 6, 7, 8, 0] rfl) ?_
  exact hk18 _ _ _ _ h
set_option maxHeartbeats 4000000 in
set_option maxRecDepth 100000 in
theorem w_X11_growsBy_b59 {g : gT} {p : Program} {l : Launch} {e : Env} {s : State} {m : MethodId} {args : Array Value} {below : List Frame} {meth : Method} {c : Code} {z : Int32 × Mem} (F : Fx g p s m args c cX11_growsBy 10 uX11_growsBy RX11) (hr : meth.sig.returnType = (some .boolean)) (hlk : meth.locks = false)  {a0 : Nat} {i1 : Int32} {i2 : Int32} {i3 : Int32} {i4 : Int32} {i5 : Int32} (t0 : Ty g 11 a0) {k18 : Int32 → Int32 → Int32 → Mem → Option (Int32 × Mem)} (hk18 : ∀ (x6 : Int32) (x7 : Int32) (x8 : Int32) (M : Mem), k18 x6 x7 x8 M = some z → V g p l e ({ frames := 3, cells := 0, slots := 0, locals := 40 * 3 } : Room) s m args below meth c 10 0 0 (MQ below (gQ g (some (.int z.1)) z.2) args s 0 0 (gA g)) 18 [(0, .ref (gAd g a0)), (1, .int i1), (2, .int i2), (3, .int i3), (4, .int i4), (5, .int i5), (6, .int x6), (7, .int x7), (8, .int x8)] [] M) (s0 : Int32) (x7 : Int32) (x8 : Int32) (M : Mem)  (h : f_X11_growsBy_b59 a0 i1 i2 i3 i4 i5 k18 s0 x7 x8 M = some z) : V g p l e ({ frames := 3, cells := 0, slots := 0, locals := 40 * 3 } : Room) s m args below meth c 10 0 0 (MQ below (gQ g (some (.int z.1)) z.2) args s 0 0 (gA g)) 59 [(0, .ref (gAd g a0)), (1, .int i1), (2, .int i2), (3, .int i3), (4, .int i4), (5, .int i5), (7, .int x7), (8, .int x8)] [.int s0] M := by
  unfold f_X11_growsBy_b59 at h
  refine v_istore (lv' := [(6, .int s0), (0, .ref (gAd g a0)), (1, .int i1), (2, .int i2), (3, .int i3), (4, .int i4), (5, .int i5), (7, .int x7), (8, .int x8)]) F dX11_growsBy_59 (by decide) rfl ?_
  refine v_goto (tgt := 80) F dX11_growsBy_61 (by decide) ?_
  refine v_sub (fun ls h9 => lv_sub h9 [1, 2, 3, 4, 5, 6, 0, 7, 8] rfl) ?_
  exact w_X11_growsBy_b80 F hr hlk t0 hk18 _ _ _ _ h
set_option maxHeartbeats 4000000 in
set_option maxRecDepth 100000 in
theorem w_X11_growsBy_b78 {g : gT} {p : Program} {l : Launch} {e : Env} {s : State} {m : MethodId} {args : Array Value} {below : List Frame} {meth : Method} {c : Code} {z : Int32 × Mem} (F : Fx g p s m args c cX11_growsBy 10 uX11_growsBy RX11) (hr : meth.sig.returnType = (some .boolean)) (hlk : meth.locks = false)  {a0 : Nat} {i1 : Int32} {i2 : Int32} {i3 : Int32} {i4 : Int32} {i5 : Int32} (t0 : Ty g 11 a0) {k18 : Int32 → Int32 → Int32 → Mem → Option (Int32 × Mem)} (hk18 : ∀ (x6 : Int32) (x7 : Int32) (x8 : Int32) (M : Mem), k18 x6 x7 x8 M = some z → V g p l e ({ frames := 3, cells := 0, slots := 0, locals := 40 * 3 } : Room) s m args below meth c 10 0 0 (MQ below (gQ g (some (.int z.1)) z.2) args s 0 0 (gA g)) 18 [(0, .ref (gAd g a0)), (1, .int i1), (2, .int i2), (3, .int i3), (4, .int i4), (5, .int i5), (6, .int x6), (7, .int x7), (8, .int x8)] [] M) (s0 : Int32) (x6 : Int32) (x8 : Int32) (M : Mem)  (h : f_X11_growsBy_b78 a0 i1 i2 i3 i4 i5 k18 s0 x6 x8 M = some z) : V g p l e ({ frames := 3, cells := 0, slots := 0, locals := 40 * 3 } : Room) s m args below meth c 10 0 0 (MQ below (gQ g (some (.int z.1)) z.2) args s 0 0 (gA g)) 78 [(0, .ref (gAd g a0)), (1, .int i1), (2, .int i2), (3, .int i3), (4, .int i4), (5, .int i5), (6, .int x6), (8, .int x8)] [.int s0] M := by
  unfold f_X11_growsBy_b78 at h
  refine v_istore (lv' := [(7, .int s0), (0, .ref (gAd g a0)), (1, .int i1), (2, .int i2), (3, .int i3), (4, .int i4), (5, .int i5), (6, .int x6), (8, .int x8)]) F dX11_growsBy_78 (by decide) rfl ?_
  refine v_sub (fun ls h9 => lv_sub h9 [1, 2, 3, 4, 5, 6, 7, 0, 8] rfl) ?_
  exact w_X11_growsBy_b80 F hr hlk t0 hk18 _ _ _ _ h
set_option maxHeartbeats 4000000 in
set_option maxRecDepth 100000 in
theorem w_X11_growsBy_h18 {g : gT} {p : Program} {l : Launch} {e : Env} {s : State} {m : MethodId} {args : Array Value} {below : List Frame} {meth : Method} {c : Code} {z : Int32 × Mem} (F : Fx g p s m args c cX11_growsBy 10 uX11_growsBy RX11) (hr : meth.sig.returnType = (some .boolean)) (hlk : meth.locks = false)  {a0 : Nat} {i1 : Int32} {i2 : Int32} {i3 : Int32} {i4 : Int32} {i5 : Int32} (t0 : Ty g 11 a0)   : ∀ (n : Nat) (x6 : Int32) (x7 : Int32) (x8 : Int32) (M : Mem), f_X11_growsBy_h18 a0 i1 i2 i3 i4 i5 n x6 x7 x8 M = some z → V g p l e ({ frames := 3, cells := 0, slots := 0, locals := 40 * 3 } : Room) s m args below meth c 10 0 0 (MQ below (gQ g (some (.int z.1)) z.2) args s 0 0 (gA g)) 18 [(0, .ref (gAd g a0)), (1, .int i1), (2, .int i2), (3, .int i3), (4, .int i4), (5, .int i5), (6, .int x6), (7, .int x7), (8, .int x8)] [] M := by
  intro n
  induction n with
  | zero => intro x6 x7 x8 M; intros; rename_i h; cases h
  | succ n ih =>
    intro x6 x7 x8 M h
    rw [f_X11_growsBy_h18] at h
    refine v_iload F dX11_growsBy_18 8 rfl ?_
    refine v_bipush (v := 60) F dX11_growsBy_20 (by decide) ?_
    refine v_icmp_gt (tgt := 86) F dX11_growsBy_22 (by decide) (fun hc5 => ?_) (fun hc5 => ?_)
    · rw [if_pos hc5] at h
      refine v_aload_n F dX11_growsBy_86 rfl 0 rfl ?_
      obtain ⟨⟨r6, M7⟩, hz8, h⟩ := bd_some h
      dsimp only at h
      refine v_callVv (As := []) (rest := []) F (c_X11_laysBack l F.2.2.1 t0 hz8) (cwV 0 F.1.2.2.2.2 (gU_V ml_X11_257 im_yX11_laysBack se_yX11_laysBack ini_X11 cd_X11_laysBack) rfl rfl rfl (by decide +kernel) ⟨Nat.le_of_ble_eq_true rfl, Nat.le_of_ble_eq_true rfl⟩) t0 (by decide) rfl rfl rfl (Nat.le_of_ble_eq_true rfl) dX11_growsBy_87 ⟨Nat.le_of_ble_eq_true rfl, Nat.le_of_ble_eq_true rfl⟩ ?_
      refine v_iload F dX11_growsBy_90 7 rfl ?_
      refine v_iload F dX11_growsBy_92 6 rfl ?_
      refine v_icmp_le (tgt := 101) F dX11_growsBy_94 (by decide) (fun hc10 => ?_) (fun hc10 => ?_)
      · rw [if_pos hc10] at h
        refine v_iconst (v := 0) F dX11_growsBy_101 (by decide) ?_
        cases h
        exact v_iret F hr narrow_b0 hlk dX11_growsBy_102
      · rw [if_neg hc10] at h
        refine v_iconst (v := 1) F dX11_growsBy_97 (by decide) ?_
        refine v_goto (tgt := 102) F dX11_growsBy_98 (by decide) ?_
        cases h
        exact v_iret F hr narrow_b1 hlk dX11_growsBy_102
    · rw [if_neg hc5] at h
      refine v_aload_n F dX11_growsBy_25 rfl 0 rfl ?_
      refine v_iload_n F dX11_growsBy_26 rfl 1 rfl ?_
      refine v_iload_n F dX11_growsBy_27 rfl 2 rfl ?_
      obtain ⟨⟨r11, M12⟩, hz13, h⟩ := bd_some h
      dsimp only at h
      refine v_callVv (As := [.int i1, .int i2]) (rest := []) F (c_X11_tick l F.2.2.1 t0 hz13) (cwV 2 F.1.2.2.2.2 (gU_V ml_X11_245 im_yX11_tick se_yX11_tick ini_X11 cd_X11_tick) rfl rfl rfl (by decide +kernel) ⟨Nat.le_of_ble_eq_true rfl, Nat.le_of_ble_eq_true rfl⟩) t0 (by decide) rfl rfl rfl (Nat.le_of_ble_eq_true rfl) dX11_growsBy_28 ⟨Nat.le_of_ble_eq_true rfl, Nat.le_of_ble_eq_true rfl⟩ ?_
      refine v_aload_n F dX11_growsBy_31 rfl 0 rfl ?_
      refine v_iload_n F dX11_growsBy_32 rfl 3 rfl ?_
      obtain ⟨⟨r15, M16⟩, hz17, h⟩ := bd_some h
      dsimp only at h
      refine v_callVi (As := [.int i3]) (rest := []) F (c_X11_sizeOf l F.2.2.1 t0 hz17) (cwV 1 F.1.2.2.2.2 (gU_V ml_X11_221 im_yX11_sizeOf se_yX11_sizeOf ini_X11 cd_X11_sizeOf) rfl rfl rfl (by decide +kernel) ⟨Nat.le_of_ble_eq_true rfl, Nat.le_of_ble_eq_true rfl⟩) t0 (by decide) rfl rfl rfl (Nat.le_of_ble_eq_true rfl) dX11_growsBy_33 ⟨Nat.le_of_ble_eq_true rfl, Nat.le_of_ble_eq_true rfl⟩ ?_
      refine v_istore (lv' := [(9, .int r15), (0, .ref (gAd g a0)), (1, .int i1), (2, .int i2), (3, .int i3), (4, .int i4), (5, .int i5), (6, .int x6), (7, .int x7), (8, .int x8)]) F dX11_growsBy_36 (by decide) rfl ?_
      refine v_iload F dX11_growsBy_38 9 rfl ?_
      refine v_bipush (v := 30) F dX11_growsBy_40 (by decide) ?_
      refine v_icmp_gt (tgt := 64) F dX11_growsBy_42 (by decide) (fun hc19 => ?_) (fun hc19 => ?_)
      · rw [if_pos hc19] at h
        refine v_iload F dX11_growsBy_64 0 rfl ?_
        refine v_iload F dX11_growsBy_66 8 rfl ?_
        refine v_icmp_le (tgt := 76) F dX11_growsBy_68 (by decide) (fun hc20 => ?_) (fun hc20 => ?_)
        · rw [if_pos hc20] at h
          refine v_iload F dX11_growsBy_76 8 rfl ?_
          refine v_sub (fun ls h9 => lv_sub h9 [1, 2, 3, 4, 5, 6, 7, 9] rfl) ?_
          exact w_X11_growsBy_b78 F hr hlk t0 ih _ _ _ _ h
        · rw [if_neg hc20] at h
          refine v_iload F dX11_growsBy_71 0 rfl ?_
          refine v_goto (tgt := 78) F dX11_growsBy_73 (by decide) ?_
          refine v_sub (fun ls h9 => lv_sub h9 [1, 2, 3, 4, 5, 6, 7, 9] rfl) ?_
          exact w_X11_growsBy_b78 F hr hlk t0 ih _ _ _ _ h
      · rw [if_neg hc19] at h
        refine v_iload F dX11_growsBy_45 0 rfl ?_
        refine v_iload F dX11_growsBy_47 7 rfl ?_
        refine v_icmp_le (tgt := 57) F dX11_growsBy_49 (by decide) (fun hc21 => ?_) (fun hc21 => ?_)
        · rw [if_pos hc21] at h
          refine v_iload F dX11_growsBy_57 7 rfl ?_
          refine v_sub (fun ls h9 => lv_sub h9 [1, 2, 3, 4, 5, 6, 8, 9] rfl) ?_
          exact w_X11_growsBy_b59 F hr hlk t0 ih _ _ _ _ h
        · rw [if_neg hc21] at h
          refine v_iload F dX11_growsBy_52 0 rfl ?_
          refine v_goto (tgt := 59) F dX11_growsBy_54 (by decide) ?_
          refine v_sub (fun ls h9 => lv_sub h9 [1, 2, 3, 4, 5, 6, 8, 9] rfl) ?_
          exact w_X11_growsBy_b59 F hr hlk t0 ih _ _ _ _ h
set_option maxHeartbeats 4000000 in
set_option maxRecDepth 100000 in
theorem c_X11_growsBy {g : gT} (l : Launch) (hok : gOK g)  {a0 : Nat} {i1 : Int32} {i2 : Int32} {i3 : Int32} {i4 : Int32} {i5 : Int32} {M : Mem} {z : Int32 × Mem}  (t0 : Ty g 11 a0) (h : f_X11_growsBy  M a0 i1 i2 i3 i4 i5 = some z) : Cn g l yX11_growsBy uX11_growsBy 3 [.ref (gAd g a0), .int i1, .int i2, .int i3, .int i4, .int i5] M (some (.int z.1)) z.2 := by
  refine Cn.of (cc := cX11_growsBy) (maxL := 10) (ret := (some .boolean)) hok (by decide) rfl (Nat.le_of_ble_eq_true rfl) (fun p e s m args below meth c F hr hlk => ?_)
  unfold f_X11_growsBy at h
  show V g p l e ({ frames := 3, cells := 0, slots := 0, locals := 40 * 3 } : Room) s m args below meth c 10 0 0 (MQ below (gQ g (some (.int z.1)) z.2) args s 0 0 (gA g)) 0 [(0, .ref (gAd g a0)), (1, .int i1), (2, .int i2), (3, .int i3), (4, .int i4), (5, .int i5)] [] M
  refine v_aload_n F dX11_growsBy_0 rfl 0 rfl ?_
  refine v_iload_n F dX11_growsBy_1 rfl 3 rfl ?_
  refine v_iload F dX11_growsBy_2 4 rfl ?_
  refine v_iload F dX11_growsBy_4 5 rfl ?_
  obtain ⟨⟨r1, M2⟩, hz3, h⟩ := bd_some h
  dsimp only at h
  refine v_callVv (As := [.int i3, .int i4, .int i5]) (rest := []) F (c_X11_begins l F.2.2.1 t0 hz3) (cwV 3 F.1.2.2.2.2 (gU_V ml_X11_254 im_yX11_begins se_yX11_begins ini_X11 cd_X11_begins) rfl rfl rfl (by decide +kernel) ⟨Nat.le_of_ble_eq_true rfl, Nat.le_of_ble_eq_true rfl⟩) t0 (by decide) rfl rfl rfl (Nat.le_of_ble_eq_true rfl) dX11_growsBy_6 ⟨Nat.le_of_ble_eq_true rfl, Nat.le_of_ble_eq_true rfl⟩ ?_
  refine v_iconst (v := 0) F dX11_growsBy_9 (by decide) ?_
  refine v_istore (lv' := [(6, .int 0), (0, .ref (gAd g a0)), (1, .int i1), (2, .int i2), (3, .int i3), (4, .int i4), (5, .int i5)]) F dX11_growsBy_10 (by decide) rfl ?_
  refine v_iconst (v := 0) F dX11_growsBy_12 (by decide) ?_
  refine v_istore (lv' := [(7, .int 0), (6, .int 0), (0, .ref (gAd g a0)), (1, .int i1), (2, .int i2), (3, .int i3), (4, .int i4), (5, .int i5)]) F dX11_growsBy_13 (by decide) rfl ?_
  refine v_iconst (v := 1) F dX11_growsBy_15 (by decide) ?_
  refine v_istore (lv' := [(8, .int 1), (7, .int 0), (6, .int 0), (0, .ref (gAd g a0)), (1, .int i1), (2, .int i2), (3, .int i3), (4, .int i4), (5, .int i5)]) F dX11_growsBy_16 (by decide) rfl ?_
  refine v_sub (fun ls h9 => lv_sub h9 [3, 4, 5, 6, 7, 8, 2, 1, 0] rfl) ?_
  exact w_X11_growsBy_h18 F hr hlk t0 _ _ _ _ _ h
def f_X11_badTrial_b46 (a0 : Nat) (i1 : Int32) (i2 : Int32) (i3 : Int32) (i4 : Int32)  (s0 : Nat) (s1 : Int32) (M : Mem) : Option (Int32 × Mem) := (f_X11_bad M s0 s1 2).bind fun q => match q with | (r21, M22) => (if r21 = 0 then (some (0, M22)) else (some (1, M22)))
def f_X11_badTrial_b41 (a0 : Nat) (i1 : Int32) (i2 : Int32) (i3 : Int32) (i4 : Int32)  (s0 : Nat) (M : Mem) : Option (Int32 × Mem) := f_X11_badTrial_b46 a0 i1 i2 i3 i4 s0 1 M
def f_X11_badTrial_b14 (a0 : Nat) (i1 : Int32) (i2 : Int32) (i3 : Int32) (i4 : Int32)  (s0 : Nat) (s1 : Int32) (M : Mem) : Option (Int32 × Mem) := (f_X11_bad M s0 s1 1).bind fun q => match q with | (r6, M7) => (if r6 = 0 then ((f_X11_in M7 i2 0 99).bind fun q => match q with | (r11, M12) => (if r11 = 0 then (f_X11_badTrial_b41 a0 i1 i2 i3 i4 a0 M12) else ((f_X11_isShape M12 i3 i4).bind fun q => match q with | (r16, M17) => (if r16 = 0 then (f_X11_badTrial_b41 a0 i1 i2 i3 i4 a0 M17) else (f_X11_badTrial_b46 a0 i1 i2 i3 i4 a0 0 M17))))) else (some (1, M7)))
def f_X11_badTrial  (M : Mem) (a0 : Nat) (i1 : Int32) (i2 : Int32) (i3 : Int32) (i4 : Int32) : Option (Int32 × Mem) := (f_X11_isLaw M a0 i1).bind fun q => match q with | (r1, M2) => (if r1 = 0 then (f_X11_badTrial_b14 a0 i1 i2 i3 i4 a0 1 M2) else (f_X11_badTrial_b14 a0 i1 i2 i3 i4 a0 0 M2))
set_option maxHeartbeats 4000000 in
set_option maxRecDepth 100000 in
theorem w_X11_badTrial_b46 {g : gT} {p : Program} {l : Launch} {e : Env} {s : State} {m : MethodId} {args : Array Value} {below : List Frame} {meth : Method} {c : Code} {z : Int32 × Mem} (F : Fx g p s m args c cX11_badTrial 5 uX11_badTrial RX11) (hr : meth.sig.returnType = (some .boolean)) (hlk : meth.locks = false)  {a0 : Nat} {i1 : Int32} {i2 : Int32} {i3 : Int32} {i4 : Int32} (t0 : Ty g 11 a0)   (s0 : Nat) (s1 : Int32) (M : Mem) (ts0 : Ty g 11 s0) (h : f_X11_badTrial_b46 a0 i1 i2 i3 i4 s0 s1 M = some z) : V g p l e ({ frames := 2, cells := 0, slots := 0, locals := 40 * 2 } : Room) s m args below meth c 5 0 0 (MQ below (gQ g (some (.int z.1)) z.2) args s 0 0 (gA g)) 46 [(0, .ref (gAd g a0)), (1, .int i1), (2, .int i2), (3, .int i3), (4, .int i4)] [.int s1, .ref (gAd g s0)] M := by
  unfold f_X11_badTrial_b46 at h
  refine v_iconst (v := 2) F dX11_badTrial_46 (by decide) ?_
  obtain ⟨⟨r21, M22⟩, hz23, h⟩ := bd_some h
  dsimp only at h
  refine v_callVi (As := [.int s1, .int 2]) (rest := []) F (c_X11_bad l F.2.2.1 ts0 hz23) (cwV 2 F.1.2.2.2.2 (gU_V ml_X11_176 im_yX11_bad se_yX11_bad ini_X11 cd_X11_bad) rfl rfl rfl (by decide +kernel) ⟨Nat.le_of_ble_eq_true rfl, Nat.le_of_ble_eq_true rfl⟩) ts0 (by decide) rfl rfl rfl (Nat.le_of_ble_eq_true rfl) dX11_badTrial_47 ⟨Nat.le_of_ble_eq_true rfl, Nat.le_of_ble_eq_true rfl⟩ ?_
  refine v_if_eq (tgt := 57) F dX11_badTrial_50 (by decide) (fun hc25 => ?_) (fun hc25 => ?_)
  · rw [if_pos hc25] at h
    refine v_iconst (v := 0) F dX11_badTrial_57 (by decide) ?_
    cases h
    exact v_iret F hr narrow_b0 hlk dX11_badTrial_58
  · rw [if_neg hc25] at h
    refine v_iconst (v := 1) F dX11_badTrial_53 (by decide) ?_
    refine v_goto (tgt := 58) F dX11_badTrial_54 (by decide) ?_
    cases h
    exact v_iret F hr narrow_b1 hlk dX11_badTrial_58
set_option maxHeartbeats 4000000 in
set_option maxRecDepth 100000 in
theorem w_X11_badTrial_b41 {g : gT} {p : Program} {l : Launch} {e : Env} {s : State} {m : MethodId} {args : Array Value} {below : List Frame} {meth : Method} {c : Code} {z : Int32 × Mem} (F : Fx g p s m args c cX11_badTrial 5 uX11_badTrial RX11) (hr : meth.sig.returnType = (some .boolean)) (hlk : meth.locks = false)  {a0 : Nat} {i1 : Int32} {i2 : Int32} {i3 : Int32} {i4 : Int32} (t0 : Ty g 11 a0)   (s0 : Nat) (M : Mem) (ts0 : Ty g 11 s0) (h : f_X11_badTrial_b41 a0 i1 i2 i3 i4 s0 M = some z) : V g p l e ({ frames := 2, cells := 0, slots := 0, locals := 40 * 2 } : Room) s m args below meth c 5 0 0 (MQ below (gQ g (some (.int z.1)) z.2) args s 0 0 (gA g)) 41 [(0, .ref (gAd g a0)), (1, .int i1), (2, .int i2), (3, .int i3), (4, .int i4)] [.ref (gAd g s0)] M := by
  unfold f_X11_badTrial_b41 at h
  refine v_iconst (v := 1) F dX11_badTrial_41 (by decide) ?_
  refine v_goto (tgt := 46) F dX11_badTrial_42 (by decide) ?_
  exact w_X11_badTrial_b46 F hr hlk t0 _ _ _ ts0 h
set_option maxHeartbeats 4000000 in
set_option maxRecDepth 100000 in
theorem w_X11_badTrial_b14 {g : gT} {p : Program} {l : Launch} {e : Env} {s : State} {m : MethodId} {args : Array Value} {below : List Frame} {meth : Method} {c : Code} {z : Int32 × Mem} (F : Fx g p s m args c cX11_badTrial 5 uX11_badTrial RX11) (hr : meth.sig.returnType = (some .boolean)) (hlk : meth.locks = false)  {a0 : Nat} {i1 : Int32} {i2 : Int32} {i3 : Int32} {i4 : Int32} (t0 : Ty g 11 a0)   (s0 : Nat) (s1 : Int32) (M : Mem) (ts0 : Ty g 11 s0) (h : f_X11_badTrial_b14 a0 i1 i2 i3 i4 s0 s1 M = some z) : V g p l e ({ frames := 2, cells := 0, slots := 0, locals := 40 * 2 } : Room) s m args below meth c 5 0 0 (MQ below (gQ g (some (.int z.1)) z.2) args s 0 0 (gA g)) 14 [(0, .ref (gAd g a0)), (1, .int i1), (2, .int i2), (3, .int i3), (4, .int i4)] [.int s1, .ref (gAd g s0)] M := by
  unfold f_X11_badTrial_b14 at h
  refine v_iconst (v := 1) F dX11_badTrial_14 (by decide) ?_
  obtain ⟨⟨r6, M7⟩, hz8, h⟩ := bd_some h
  dsimp only at h
  refine v_callVi (As := [.int s1, .int 1]) (rest := []) F (c_X11_bad l F.2.2.1 ts0 hz8) (cwV 2 F.1.2.2.2.2 (gU_V ml_X11_176 im_yX11_bad se_yX11_bad ini_X11 cd_X11_bad) rfl rfl rfl (by decide +kernel) ⟨Nat.le_of_ble_eq_true rfl, Nat.le_of_ble_eq_true rfl⟩) ts0 (by decide) rfl rfl rfl (Nat.le_of_ble_eq_true rfl) dX11_badTrial_15 ⟨Nat.le_of_ble_eq_true rfl, Nat.le_of_ble_eq_true rfl⟩ ?_
  refine v_if_ne (tgt := 53) F dX11_badTrial_18 (by decide) (fun hc10 => ?_) (fun hc10 => ?_)
  · rw [if_neg hc10] at h
    refine v_iconst (v := 1) F dX11_badTrial_53 (by decide) ?_
    refine v_goto (tgt := 58) F dX11_badTrial_54 (by decide) ?_
    cases h
    exact v_iret F hr narrow_b1 hlk dX11_badTrial_58
  · rw [if_pos hc10] at h
    refine v_aload_n F dX11_badTrial_21 rfl 0 rfl ?_
    refine v_iload_n F dX11_badTrial_22 rfl 2 rfl ?_
    refine v_iconst (v := 0) F dX11_badTrial_23 (by decide) ?_
    refine v_bipush (v := 99) F dX11_badTrial_24 (by decide) ?_
    obtain ⟨⟨r11, M12⟩, hz13, h⟩ := bd_some h
    dsimp only at h
    refine v_callSi (As := [.int i2, .int 0, .int 99]) (rest := [.ref (gAd g a0)]) F (c_X11_in l F.2.2.1  hz13) (cwS 3 F.1.2.2.2.2 (gU_S ml_X11_172 st_yX11_in ini_X11 cd_X11_in) rfl rfl rfl (by decide +kernel) ⟨Nat.le_of_ble_eq_true rfl, Nat.le_of_ble_eq_true rfl⟩) rfl rfl (Nat.le_of_ble_eq_true rfl) dX11_badTrial_26 ⟨Nat.le_of_ble_eq_true rfl, Nat.le_of_ble_eq_true rfl⟩ ?_
    refine v_if_eq (tgt := 41) F dX11_badTrial_29 (by decide) (fun hc15 => ?_) (fun hc15 => ?_)
    · rw [if_pos hc15] at h
      exact w_X11_badTrial_b41 F hr hlk t0 _ _ t0 h
    · rw [if_neg hc15] at h
      refine v_iload_n F dX11_badTrial_32 rfl 3 rfl ?_
      refine v_iload F dX11_badTrial_33 4 rfl ?_
      obtain ⟨⟨r16, M17⟩, hz18, h⟩ := bd_some h
      dsimp only at h
      refine v_callSi (As := [.int i3, .int i4]) (rest := [.ref (gAd g a0)]) F (c_X11_isShape l F.2.2.1  hz18) (cwS 2 F.1.2.2.2.2 (gU_S ml_X11_213 st_yX11_isShape ini_X11 cd_X11_isShape) rfl rfl rfl (by decide +kernel) ⟨Nat.le_of_ble_eq_true rfl, Nat.le_of_ble_eq_true rfl⟩) rfl rfl (Nat.le_of_ble_eq_true rfl) dX11_badTrial_35 ⟨Nat.le_of_ble_eq_true rfl, Nat.le_of_ble_eq_true rfl⟩ ?_
      refine v_if_ne (tgt := 45) F dX11_badTrial_38 (by decide) (fun hc20 => ?_) (fun hc20 => ?_)
      · rw [if_neg hc20] at h
        refine v_iconst (v := 0) F dX11_badTrial_45 (by decide) ?_
        exact w_X11_badTrial_b46 F hr hlk t0 _ _ _ t0 h
      · rw [if_pos hc20] at h
        exact w_X11_badTrial_b41 F hr hlk t0 _ _ t0 h
set_option maxHeartbeats 4000000 in
set_option maxRecDepth 100000 in
theorem c_X11_badTrial {g : gT} (l : Launch) (hok : gOK g)  {a0 : Nat} {i1 : Int32} {i2 : Int32} {i3 : Int32} {i4 : Int32} {M : Mem} {z : Int32 × Mem}  (t0 : Ty g 11 a0) (h : f_X11_badTrial  M a0 i1 i2 i3 i4 = some z) : Cn g l yX11_badTrial uX11_badTrial 2 [.ref (gAd g a0), .int i1, .int i2, .int i3, .int i4] M (some (.int z.1)) z.2 := by
  refine Cn.of (cc := cX11_badTrial) (maxL := 5) (ret := (some .boolean)) hok (by decide) rfl (Nat.le_of_ble_eq_true rfl) (fun p e s m args below meth c F hr hlk => ?_)
  unfold f_X11_badTrial at h
  show V g p l e ({ frames := 2, cells := 0, slots := 0, locals := 40 * 2 } : Room) s m args below meth c 5 0 0 (MQ below (gQ g (some (.int z.1)) z.2) args s 0 0 (gA g)) 0 [(0, .ref (gAd g a0)), (1, .int i1), (2, .int i2), (3, .int i3), (4, .int i4)] [] M
  refine v_aload_n F dX11_badTrial_0 rfl 0 rfl ?_
  refine v_aload_n F dX11_badTrial_1 rfl 0 rfl ?_
  refine v_iload_n F dX11_badTrial_2 rfl 1 rfl ?_
  obtain ⟨⟨r1, M2⟩, hz3, h⟩ := bd_some h
  dsimp only at h
  refine v_callVi (As := [.int i1]) (rest := [.ref (gAd g a0)]) F (c_X11_isLaw l F.2.2.1 t0 hz3) (cwV 1 F.1.2.2.2.2 (gU_V ml_X11_242 im_yX11_isLaw se_yX11_isLaw ini_X11 cd_X11_isLaw) rfl rfl rfl (by decide +kernel) ⟨Nat.le_of_ble_eq_true rfl, Nat.le_of_ble_eq_true rfl⟩) t0 (by decide) rfl rfl rfl (Nat.le_of_ble_eq_true rfl) dX11_badTrial_3 ⟨Nat.le_of_ble_eq_true rfl, Nat.le_of_ble_eq_true rfl⟩ ?_
  refine v_if_ne (tgt := 13) F dX11_badTrial_6 (by decide) (fun hc5 => ?_) (fun hc5 => ?_)
  · rw [if_neg hc5] at h
    refine v_iconst (v := 0) F dX11_badTrial_13 (by decide) ?_
    exact w_X11_badTrial_b14 F hr hlk t0 _ _ _ t0 h
  · rw [if_pos hc5] at h
    refine v_iconst (v := 1) F dX11_badTrial_9 (by decide) ?_
    refine v_goto (tgt := 14) F dX11_badTrial_10 (by decide) ?_
    exact w_X11_badTrial_b14 F hr hlk t0 _ _ _ t0 h
def f_X11_grows  (M : Mem) (a0 : Nat) (i1 : Int32) (i2 : Int32) (i3 : Int32) (i4 : Int32) : Option (Int32 × Mem) := (f_X11_badTrial (mU M a0 0 0) a0 i1 i2 i3 i4).bind fun q => match q with | (r1, M2) => (if r1 = 0 then ((f_X11_growsBy M2 a0 i1 i2 i3 i4 100).bind fun q => match q with | (r6, M7) => (if vp_nar .boolean r6 = r6 then (some (r6, M7)) else none)) else (some (0, M2)))
set_option maxHeartbeats 4000000 in
set_option maxRecDepth 100000 in
theorem c_X11_grows {g : gT} (l : Launch) (hok : gOK g)  {a0 : Nat} {i1 : Int32} {i2 : Int32} {i3 : Int32} {i4 : Int32} {M : Mem} {z : Int32 × Mem}  (t0 : Ty g 11 a0) (h : f_X11_grows  M a0 i1 i2 i3 i4 = some z) : Cn g l yX11_grows uX11_grows 4 [.ref (gAd g a0), .int i1, .int i2, .int i3, .int i4] M (some (.int z.1)) z.2 := by
  refine Cn.of (cc := cX11_grows) (maxL := 5) (ret := (some .boolean)) hok (by decide) rfl (Nat.le_of_ble_eq_true rfl) (fun p e s m args below meth c F hr hlk => ?_)
  unfold f_X11_grows at h
  show V g p l e ({ frames := 4, cells := 0, slots := 0, locals := 40 * 4 } : Room) s m args below meth c 5 0 0 (MQ below (gQ g (some (.int z.1)) z.2) args s 0 0 (gA g)) 0 [(0, .ref (gAd g a0)), (1, .int i1), (2, .int i2), (3, .int i3), (4, .int i4)] [] M
  refine v_aload_n F dX11_grows_0 rfl 0 rfl ?_
  refine v_iconst (v := 0) F dX11_grows_1 (by decide) ?_
  refine v_put (k := 0) (ty := .int) F t0 (by decide) (inc inU_11) tyX11 tyX11_ok nmX11 rfl rfl (by decide) (List.mem_cons_of_mem _ fl_X11_83) rfl rfl (by decide +kernel) rfl rfl dX11_grows_2 ?_
  refine v_aload_n F dX11_grows_5 rfl 0 rfl ?_
  refine v_iload_n F dX11_grows_6 rfl 1 rfl ?_
  refine v_iload_n F dX11_grows_7 rfl 2 rfl ?_
  refine v_iload_n F dX11_grows_8 rfl 3 rfl ?_
  refine v_iload F dX11_grows_9 4 rfl ?_
  obtain ⟨⟨r1, M2⟩, hz3, h⟩ := bd_some h
  dsimp only at h
  refine v_callVi (As := [.int i1, .int i2, .int i3, .int i4]) (rest := []) F (c_X11_badTrial l F.2.2.1 t0 hz3) (cwV 4 F.1.2.2.2.2 (gU_V ml_X11_260 im_yX11_badTrial se_yX11_badTrial ini_X11 cd_X11_badTrial) rfl rfl rfl (by decide +kernel) ⟨Nat.le_of_ble_eq_true rfl, Nat.le_of_ble_eq_true rfl⟩) t0 (by decide) rfl rfl rfl (Nat.le_of_ble_eq_true rfl) dX11_grows_11 ⟨Nat.le_of_ble_eq_true rfl, Nat.le_of_ble_eq_true rfl⟩ ?_
  refine v_if_eq (tgt := 19) F dX11_grows_14 (by decide) (fun hc5 => ?_) (fun hc5 => ?_)
  · rw [if_pos hc5] at h
    refine v_aload_n F dX11_grows_19 rfl 0 rfl ?_
    refine v_iload_n F dX11_grows_20 rfl 1 rfl ?_
    refine v_iload_n F dX11_grows_21 rfl 2 rfl ?_
    refine v_iload_n F dX11_grows_22 rfl 3 rfl ?_
    refine v_iload F dX11_grows_23 4 rfl ?_
    refine v_bipush (v := 100) F dX11_grows_25 (by decide) ?_
    obtain ⟨⟨r6, M7⟩, hz8, h⟩ := bd_some h
    dsimp only at h
    refine v_callVi (As := [.int i1, .int i2, .int i3, .int i4, .int 100]) (rest := []) F (c_X11_growsBy l F.2.2.1 t0 hz8) (cwV 5 F.1.2.2.2.2 (gU_V ml_X11_264 im_yX11_growsBy se_yX11_growsBy ini_X11 cd_X11_growsBy) rfl rfl rfl (by decide +kernel) ⟨Nat.le_of_ble_eq_true rfl, Nat.le_of_ble_eq_true rfl⟩) t0 (by decide) rfl rfl rfl (Nat.le_of_ble_eq_true rfl) dX11_grows_27 ⟨Nat.le_of_ble_eq_true rfl, Nat.le_of_ble_eq_true rfl⟩ ?_
    by_cases hb10 : vp_nar .boolean r6 = r6
    rotate_left
    · rw [if_neg hb10] at h; cases h
    rw [if_pos hb10] at h
    cases h
    exact v_iret F hr (nb_ok hb10) hlk dX11_grows_30
  · rw [if_neg hc5] at h
    refine v_iconst (v := 0) F dX11_grows_17 (by decide) ?_
    cases h
    exact v_iret F hr narrow_b0 hlk dX11_grows_18
def f_X11_lineOf_h3 (a0 : Nat) (i1 : Int32) (i2 : Int32) (i3 : Int32)  : Nat → Int32 → Mem → Option (Int32 × Mem)
  | 0, _, _ => none
  | n + 1, x4, M => if 60 < x4 then (some ((-1), M)) else ((f_X11_growsBy M a0 i1 x4 i2 i3 100).bind fun q => match q with | (r2, M3) => (if r2 = 0 then ((f_X11_lineOf_h3 a0 i1 i2 i3 n) (x4 + 1) M3) else (some (x4, M3))))
def f_X11_lineOf  (M : Mem) (a0 : Nat) (i1 : Int32) (i2 : Int32) (i3 : Int32) : Option (Int32 × Mem) := f_X11_lineOf_h3 a0 i1 i2 i3 FU 0 M
set_option maxHeartbeats 4000000 in
set_option maxRecDepth 100000 in
theorem w_X11_lineOf_h3 {g : gT} {p : Program} {l : Launch} {e : Env} {s : State} {m : MethodId} {args : Array Value} {below : List Frame} {meth : Method} {c : Code} {z : Int32 × Mem} (F : Fx g p s m args c cX11_lineOf 5 uX11_lineOf RX11) (hr : meth.sig.returnType = (some .int)) (hlk : meth.locks = false)  {a0 : Nat} {i1 : Int32} {i2 : Int32} {i3 : Int32} (t0 : Ty g 11 a0)   : ∀ (n : Nat) (x4 : Int32) (M : Mem), f_X11_lineOf_h3 a0 i1 i2 i3 n x4 M = some z → V g p l e ({ frames := 4, cells := 0, slots := 0, locals := 40 * 4 } : Room) s m args below meth c 5 0 0 (MQ below (gQ g (some (.int z.1)) z.2) args s 0 0 (gA g)) 3 [(0, .ref (gAd g a0)), (1, .int i1), (2, .int i2), (3, .int i3), (4, .int x4)] [] M := by
  intro n
  induction n with
  | zero => intro x4 M; intros; rename_i h; cases h
  | succ n ih =>
    intro x4 M h
    rw [f_X11_lineOf_h3] at h
    refine v_iload F dX11_lineOf_3 4 rfl ?_
    refine v_bipush (v := 60) F dX11_lineOf_5 (by decide) ?_
    refine v_icmp_gt (tgt := 33) F dX11_lineOf_7 (by decide) (fun hc1 => ?_) (fun hc1 => ?_)
    · rw [if_pos hc1] at h
      refine v_iconst (v := (-1)) F dX11_lineOf_33 (by decide) ?_
      cases h
      exact v_iret F hr rfl hlk dX11_lineOf_34
    · rw [if_neg hc1] at h
      refine v_aload_n F dX11_lineOf_10 rfl 0 rfl ?_
      refine v_iload_n F dX11_lineOf_11 rfl 1 rfl ?_
      refine v_iload F dX11_lineOf_12 4 rfl ?_
      refine v_iload_n F dX11_lineOf_14 rfl 2 rfl ?_
      refine v_iload_n F dX11_lineOf_15 rfl 3 rfl ?_
      refine v_bipush (v := 100) F dX11_lineOf_16 (by decide) ?_
      obtain ⟨⟨r2, M3⟩, hz4, h⟩ := bd_some h
      dsimp only at h
      refine v_callVi (As := [.int i1, .int x4, .int i2, .int i3, .int 100]) (rest := []) F (c_X11_growsBy l F.2.2.1 t0 hz4) (cwV 5 F.1.2.2.2.2 (gU_V ml_X11_264 im_yX11_growsBy se_yX11_growsBy ini_X11 cd_X11_growsBy) rfl rfl rfl (by decide +kernel) ⟨Nat.le_of_ble_eq_true rfl, Nat.le_of_ble_eq_true rfl⟩) t0 (by decide) rfl rfl rfl (Nat.le_of_ble_eq_true rfl) dX11_lineOf_18 ⟨Nat.le_of_ble_eq_true rfl, Nat.le_of_ble_eq_true rfl⟩ ?_
      refine v_if_eq (tgt := 27) F dX11_lineOf_21 (by decide) (fun hc6 => ?_) (fun hc6 => ?_)
      · rw [if_pos hc6] at h
        refine v_iinc (v := x4 + 1) (lv' := [(4, .int (x4 + 1)), (0, .ref (gAd g a0)), (1, .int i1), (2, .int i2), (3, .int i3)]) F dX11_lineOf_27 (q := 4) rfl rfl (by decide) rfl ?_
        refine v_goto (tgt := 3) F dX11_lineOf_30 (by decide) ?_
        refine v_sub (fun ls h9 => lv_sub h9 [1, 2, 3, 4, 0] rfl) ?_
        exact ih _ _ h
      · rw [if_neg hc6] at h
        refine v_iload F dX11_lineOf_24 4 rfl ?_
        cases h
        exact v_iret F hr rfl hlk dX11_lineOf_26
set_option maxHeartbeats 4000000 in
set_option maxRecDepth 100000 in
theorem c_X11_lineOf {g : gT} (l : Launch) (hok : gOK g)  {a0 : Nat} {i1 : Int32} {i2 : Int32} {i3 : Int32} {M : Mem} {z : Int32 × Mem}  (t0 : Ty g 11 a0) (h : f_X11_lineOf  M a0 i1 i2 i3 = some z) : Cn g l yX11_lineOf uX11_lineOf 4 [.ref (gAd g a0), .int i1, .int i2, .int i3] M (some (.int z.1)) z.2 := by
  refine Cn.of (cc := cX11_lineOf) (maxL := 5) (ret := (some .int)) hok (by decide) rfl (Nat.le_of_ble_eq_true rfl) (fun p e s m args below meth c F hr hlk => ?_)
  unfold f_X11_lineOf at h
  show V g p l e ({ frames := 4, cells := 0, slots := 0, locals := 40 * 4 } : Room) s m args below meth c 5 0 0 (MQ below (gQ g (some (.int z.1)) z.2) args s 0 0 (gA g)) 0 [(0, .ref (gAd g a0)), (1, .int i1), (2, .int i2), (3, .int i3)] [] M
  refine v_iconst (v := 0) F dX11_lineOf_0 (by decide) ?_
  refine v_istore (lv' := [(4, .int 0), (0, .ref (gAd g a0)), (1, .int i1), (2, .int i2), (3, .int i3)]) F dX11_lineOf_1 (by decide) rfl ?_
  refine v_sub (fun ls h9 => lv_sub h9 [1, 2, 3, 4, 0] rfl) ?_
  exact w_X11_lineOf_h3 F hr hlk t0 _ _ _ h
def f_X11_line  (M : Mem) (a0 : Nat) (i1 : Int32) (i2 : Int32) (i3 : Int32) : Option (Int32 × Mem) := (f_X11_badTrial (mU M a0 0 0) a0 i1 0 i2 i3).bind fun q => match q with | (r1, M2) => (if r1 = 0 then ((f_X11_lineOf M2 a0 i1 i2 i3).bind fun q => match q with | (r6, M7) => (some (r6, M7))) else (some (0, M2)))
set_option maxHeartbeats 4000000 in
set_option maxRecDepth 100000 in
theorem c_X11_line {g : gT} (l : Launch) (hok : gOK g)  {a0 : Nat} {i1 : Int32} {i2 : Int32} {i3 : Int32} {M : Mem} {z : Int32 × Mem}  (t0 : Ty g 11 a0) (h : f_X11_line  M a0 i1 i2 i3 = some z) : Cn g l yX11_line uX11_line 5 [.ref (gAd g a0), .int i1, .int i2, .int i3] M (some (.int z.1)) z.2 := by
  refine Cn.of (cc := cX11_line) (maxL := 4) (ret := (some .int)) hok (by decide) rfl (Nat.le_of_ble_eq_true rfl) (fun p e s m args below meth c F hr hlk => ?_)
  unfold f_X11_line at h
  show V g p l e ({ frames := 5, cells := 0, slots := 0, locals := 40 * 5 } : Room) s m args below meth c 4 0 0 (MQ below (gQ g (some (.int z.1)) z.2) args s 0 0 (gA g)) 0 [(0, .ref (gAd g a0)), (1, .int i1), (2, .int i2), (3, .int i3)] [] M
  refine v_aload_n F dX11_line_0 rfl 0 rfl ?_
  refine v_iconst (v := 0) F dX11_line_1 (by decide) ?_
  refine v_put (k := 0) (ty := .int) F t0 (by decide) (inc inU_11) tyX11 tyX11_ok nmX11 rfl rfl (by decide) (List.mem_cons_of_mem _ fl_X11_83) rfl rfl (by decide +kernel) rfl rfl dX11_line_2 ?_
  refine v_aload_n F dX11_line_5 rfl 0 rfl ?_
  refine v_iload_n F dX11_line_6 rfl 1 rfl ?_
  refine v_iconst (v := 0) F dX11_line_7 (by decide) ?_
  refine v_iload_n F dX11_line_8 rfl 2 rfl ?_
  refine v_iload_n F dX11_line_9 rfl 3 rfl ?_
  obtain ⟨⟨r1, M2⟩, hz3, h⟩ := bd_some h
  dsimp only at h
  refine v_callVi (As := [.int i1, .int 0, .int i2, .int i3]) (rest := []) F (c_X11_badTrial l F.2.2.1 t0 hz3) (cwV 4 F.1.2.2.2.2 (gU_V ml_X11_260 im_yX11_badTrial se_yX11_badTrial ini_X11 cd_X11_badTrial) rfl rfl rfl (by decide +kernel) ⟨Nat.le_of_ble_eq_true rfl, Nat.le_of_ble_eq_true rfl⟩) t0 (by decide) rfl rfl rfl (Nat.le_of_ble_eq_true rfl) dX11_line_10 ⟨Nat.le_of_ble_eq_true rfl, Nat.le_of_ble_eq_true rfl⟩ ?_
  refine v_if_eq (tgt := 18) F dX11_line_13 (by decide) (fun hc5 => ?_) (fun hc5 => ?_)
  · rw [if_pos hc5] at h
    refine v_aload_n F dX11_line_18 rfl 0 rfl ?_
    refine v_iload_n F dX11_line_19 rfl 1 rfl ?_
    refine v_iload_n F dX11_line_20 rfl 2 rfl ?_
    refine v_iload_n F dX11_line_21 rfl 3 rfl ?_
    obtain ⟨⟨r6, M7⟩, hz8, h⟩ := bd_some h
    dsimp only at h
    refine v_callVi (As := [.int i1, .int i2, .int i3]) (rest := []) F (c_X11_lineOf l F.2.2.1 t0 hz8) (cwV 3 F.1.2.2.2.2 (gU_V ml_X11_268 im_yX11_lineOf se_yX11_lineOf ini_X11 cd_X11_lineOf) rfl rfl rfl (by decide +kernel) ⟨Nat.le_of_ble_eq_true rfl, Nat.le_of_ble_eq_true rfl⟩) t0 (by decide) rfl rfl rfl (Nat.le_of_ble_eq_true rfl) dX11_line_22 ⟨Nat.le_of_ble_eq_true rfl, Nat.le_of_ble_eq_true rfl⟩ ?_
    cases h
    exact v_iret F hr rfl hlk dX11_line_25
  · rw [if_neg hc5] at h
    refine v_iconst (v := 0) F dX11_line_16 (by decide) ?_
    cases h
    exact v_iret F hr rfl hlk dX11_line_17
def f_X11_why_b90 (a0 : Nat) (i1 : Int32) (i2 : Int32) (i3 : Int32) (i4 : Int32)  (s0 : Int32) (s1 : Int32) (M : Mem) : Option (Int32 × Mem) := some (s0 + s1, M)
def f_X11_why_b89 (a0 : Nat) (i1 : Int32) (i2 : Int32) (i3 : Int32) (i4 : Int32)  (s0 : Int32) (M : Mem) : Option (Int32 × Mem) := f_X11_why_b90 a0 i1 i2 i3 i4 s0 0 M
def f_X11_why_b53 (a0 : Nat) (i1 : Int32) (i2 : Int32) (i3 : Int32) (i4 : Int32)  (s0 : Int32) (M : Mem) : Option (Int32 × Mem) := (f_X11_growsBy M a0 i1 i2 i3 i4 1).bind fun q => match q with | (r16, M17) => (if r16 = 0 then (f_X11_why_b89 a0 i1 i2 i3 i4 s0 M17) else ((f_X11_growsBy M17 a0 i1 i2 i3 i4 1000).bind fun q => match q with | (r21, M22) => (if r21 = 0 then (f_X11_why_b90 a0 i1 i2 i3 i4 s0 2 M22) else (f_X11_why_b89 a0 i1 i2 i3 i4 s0 M22))))
def f_X11_why_b52 (a0 : Nat) (i1 : Int32) (i2 : Int32) (i3 : Int32) (i4 : Int32)   (M : Mem) : Option (Int32 × Mem) := f_X11_why_b53 a0 i1 i2 i3 i4 0 M
def f_X11_why  (M : Mem) (a0 : Nat) (i1 : Int32) (i2 : Int32) (i3 : Int32) (i4 : Int32) : Option (Int32 × Mem) := (f_X11_badTrial (mU M a0 0 0) a0 i1 i2 i3 i4).bind fun q => match q with | (r1, M2) => (if r1 = 0 then ((f_X11_growsBy M2 a0 i1 i2 i3 i4 100).bind fun q => match q with | (r6, M7) => (if r6 = 0 then (f_X11_why_b52 a0 i1 i2 i3 i4 M7) else ((f_X11_growsBy M7 a0 i1 i2 i3 i4 200).bind fun q => match q with | (r11, M12) => (if r11 = 0 then (f_X11_why_b52 a0 i1 i2 i3 i4 M12) else (f_X11_why_b53 a0 i1 i2 i3 i4 1 M12))))) else (some (0, M2)))
set_option maxHeartbeats 4000000 in
set_option maxRecDepth 100000 in
theorem w_X11_why_b90 {g : gT} {p : Program} {l : Launch} {e : Env} {s : State} {m : MethodId} {args : Array Value} {below : List Frame} {meth : Method} {c : Code} {z : Int32 × Mem} (F : Fx g p s m args c cX11_why 6 uX11_why RX11) (hr : meth.sig.returnType = (some .int)) (hlk : meth.locks = false)  {a0 : Nat} {i1 : Int32} {i2 : Int32} {i3 : Int32} {i4 : Int32} (t0 : Ty g 11 a0)   (s0 : Int32) (s1 : Int32) (M : Mem)  (h : f_X11_why_b90 a0 i1 i2 i3 i4 s0 s1 M = some z) : V g p l e ({ frames := 4, cells := 0, slots := 0, locals := 40 * 4 } : Room) s m args below meth c 6 0 0 (MQ below (gQ g (some (.int z.1)) z.2) args s 0 0 (gA g)) 90 [(0, .ref (gAd g a0)), (1, .int i1), (2, .int i2), (3, .int i3), (4, .int i4)] [.int s1, .int s0] M := by
  unfold f_X11_why_b90 at h
  refine v_iadd F dX11_why_90 ?_
  cases h
  exact v_iret F hr rfl hlk dX11_why_91
set_option maxHeartbeats 4000000 in
set_option maxRecDepth 100000 in
theorem w_X11_why_b89 {g : gT} {p : Program} {l : Launch} {e : Env} {s : State} {m : MethodId} {args : Array Value} {below : List Frame} {meth : Method} {c : Code} {z : Int32 × Mem} (F : Fx g p s m args c cX11_why 6 uX11_why RX11) (hr : meth.sig.returnType = (some .int)) (hlk : meth.locks = false)  {a0 : Nat} {i1 : Int32} {i2 : Int32} {i3 : Int32} {i4 : Int32} (t0 : Ty g 11 a0)   (s0 : Int32) (M : Mem)  (h : f_X11_why_b89 a0 i1 i2 i3 i4 s0 M = some z) : V g p l e ({ frames := 4, cells := 0, slots := 0, locals := 40 * 4 } : Room) s m args below meth c 6 0 0 (MQ below (gQ g (some (.int z.1)) z.2) args s 0 0 (gA g)) 89 [(0, .ref (gAd g a0)), (1, .int i1), (2, .int i2), (3, .int i3), (4, .int i4)] [.int s0] M := by
  unfold f_X11_why_b89 at h
  refine v_iconst (v := 0) F dX11_why_89 (by decide) ?_
  exact w_X11_why_b90 F hr hlk t0 _ _ _ h
set_option maxHeartbeats 4000000 in
set_option maxRecDepth 100000 in
theorem w_X11_why_b53 {g : gT} {p : Program} {l : Launch} {e : Env} {s : State} {m : MethodId} {args : Array Value} {below : List Frame} {meth : Method} {c : Code} {z : Int32 × Mem} (F : Fx g p s m args c cX11_why 6 uX11_why RX11) (hr : meth.sig.returnType = (some .int)) (hlk : meth.locks = false)  {a0 : Nat} {i1 : Int32} {i2 : Int32} {i3 : Int32} {i4 : Int32} (t0 : Ty g 11 a0)   (s0 : Int32) (M : Mem)  (h : f_X11_why_b53 a0 i1 i2 i3 i4 s0 M = some z) : V g p l e ({ frames := 4, cells := 0, slots := 0, locals := 40 * 4 } : Room) s m args below meth c 6 0 0 (MQ below (gQ g (some (.int z.1)) z.2) args s 0 0 (gA g)) 53 [(0, .ref (gAd g a0)), (1, .int i1), (2, .int i2), (3, .int i3), (4, .int i4)] [.int s0] M := by
  unfold f_X11_why_b53 at h
  refine v_istore (lv' := [(5, .int s0), (0, .ref (gAd g a0)), (1, .int i1), (2, .int i2), (3, .int i3), (4, .int i4)]) F dX11_why_53 (by decide) rfl ?_
  refine v_iload F dX11_why_55 0 rfl ?_
  refine v_aload_n F dX11_why_57 rfl 1 rfl ?_
  refine v_iload_n F dX11_why_58 rfl 2 rfl ?_
  refine v_iload_n F dX11_why_59 rfl 3 rfl ?_
  refine v_iload_n F dX11_why_60 rfl 4 rfl ?_
  refine v_iload F dX11_why_61 5 rfl ?_
  refine v_iconst (v := 1) F dX11_why_63 (by decide) ?_
  obtain ⟨⟨r16, M17⟩, hz18, h⟩ := bd_some h
  dsimp only at h
  refine v_callVi (As := [.int i1, .int i2, .int i3, .int i4, .int 1]) (rest := [.int s0]) F (c_X11_growsBy l F.2.2.1 t0 hz18) (cwV 5 F.1.2.2.2.2 (gU_V ml_X11_264 im_yX11_growsBy se_yX11_growsBy ini_X11 cd_X11_growsBy) rfl rfl rfl (by decide +kernel) ⟨Nat.le_of_ble_eq_true rfl, Nat.le_of_ble_eq_true rfl⟩) t0 (by decide) rfl rfl rfl (Nat.le_of_ble_eq_true rfl) dX11_why_64 ⟨Nat.le_of_ble_eq_true rfl, Nat.le_of_ble_eq_true rfl⟩ ?_
  refine v_if_eq (tgt := 89) F dX11_why_67 (by decide) (fun hc20 => ?_) (fun hc20 => ?_)
  · rw [if_pos hc20] at h
    refine v_sub (fun ls h9 => lv_sub h9 [1, 2, 3, 4, 5] rfl) ?_
    exact w_X11_why_b89 F hr hlk t0 _ _ h
  · rw [if_neg hc20] at h
    refine v_aload_n F dX11_why_70 rfl 1 rfl ?_
    refine v_iload_n F dX11_why_71 rfl 2 rfl ?_
    refine v_iload_n F dX11_why_72 rfl 3 rfl ?_
    refine v_iload_n F dX11_why_73 rfl 4 rfl ?_
    refine v_iload F dX11_why_74 5 rfl ?_
    refine v_sipush (v := 1000) F dX11_why_76 (by decide) ?_
    obtain ⟨⟨r21, M22⟩, hz23, h⟩ := bd_some h
    dsimp only at h
    refine v_callVi (As := [.int i1, .int i2, .int i3, .int i4, .int 1000]) (rest := [.int s0]) F (c_X11_growsBy l F.2.2.1 t0 hz23) (cwV 5 F.1.2.2.2.2 (gU_V ml_X11_264 im_yX11_growsBy se_yX11_growsBy ini_X11 cd_X11_growsBy) rfl rfl rfl (by decide +kernel) ⟨Nat.le_of_ble_eq_true rfl, Nat.le_of_ble_eq_true rfl⟩) t0 (by decide) rfl rfl rfl (Nat.le_of_ble_eq_true rfl) dX11_why_79 ⟨Nat.le_of_ble_eq_true rfl, Nat.le_of_ble_eq_true rfl⟩ ?_
    refine v_if_ne (tgt := 89) F dX11_why_82 (by decide) (fun hc25 => ?_) (fun hc25 => ?_)
    · rw [if_neg hc25] at h
      refine v_sub (fun ls h9 => lv_sub h9 [1, 2, 3, 4, 5] rfl) ?_
      exact w_X11_why_b89 F hr hlk t0 _ _ h
    · rw [if_pos hc25] at h
      refine v_iconst (v := 2) F dX11_why_85 (by decide) ?_
      refine v_goto (tgt := 90) F dX11_why_86 (by decide) ?_
      refine v_sub (fun ls h9 => lv_sub h9 [1, 2, 3, 4, 5] rfl) ?_
      exact w_X11_why_b90 F hr hlk t0 _ _ _ h
set_option maxHeartbeats 4000000 in
set_option maxRecDepth 100000 in
theorem w_X11_why_b52 {g : gT} {p : Program} {l : Launch} {e : Env} {s : State} {m : MethodId} {args : Array Value} {below : List Frame} {meth : Method} {c : Code} {z : Int32 × Mem} (F : Fx g p s m args c cX11_why 6 uX11_why RX11) (hr : meth.sig.returnType = (some .int)) (hlk : meth.locks = false)  {a0 : Nat} {i1 : Int32} {i2 : Int32} {i3 : Int32} {i4 : Int32} (t0 : Ty g 11 a0)    (M : Mem)  (h : f_X11_why_b52 a0 i1 i2 i3 i4 M = some z) : V g p l e ({ frames := 4, cells := 0, slots := 0, locals := 40 * 4 } : Room) s m args below meth c 6 0 0 (MQ below (gQ g (some (.int z.1)) z.2) args s 0 0 (gA g)) 52 [(0, .ref (gAd g a0)), (1, .int i1), (2, .int i2), (3, .int i3), (4, .int i4)] [] M := by
  unfold f_X11_why_b52 at h
  refine v_iconst (v := 0) F dX11_why_52 (by decide) ?_
  exact w_X11_why_b53 F hr hlk t0 _ _ h
set_option maxHeartbeats 4000000 in
set_option maxRecDepth 100000 in
theorem c_X11_why {g : gT} (l : Launch) (hok : gOK g)  {a0 : Nat} {i1 : Int32} {i2 : Int32} {i3 : Int32} {i4 : Int32} {M : Mem} {z : Int32 × Mem}  (t0 : Ty g 11 a0) (h : f_X11_why  M a0 i1 i2 i3 i4 = some z) : Cn g l yX11_why uX11_why 4 [.ref (gAd g a0), .int i1, .int i2, .int i3, .int i4] M (some (.int z.1)) z.2 := by
  refine Cn.of (cc := cX11_why) (maxL := 6) (ret := (some .int)) hok (by decide) rfl (Nat.le_of_ble_eq_true rfl) (fun p e s m args below meth c F hr hlk => ?_)
  unfold f_X11_why at h
  show V g p l e ({ frames := 4, cells := 0, slots := 0, locals := 40 * 4 } : Room) s m args below meth c 6 0 0 (MQ below (gQ g (some (.int z.1)) z.2) args s 0 0 (gA g)) 0 [(0, .ref (gAd g a0)), (1, .int i1), (2, .int i2), (3, .int i3), (4, .int i4)] [] M
  refine v_aload_n F dX11_why_0 rfl 0 rfl ?_
  refine v_iconst (v := 0) F dX11_why_1 (by decide) ?_
  refine v_put (k := 0) (ty := .int) F t0 (by decide) (inc inU_11) tyX11 tyX11_ok nmX11 rfl rfl (by decide) (List.mem_cons_of_mem _ fl_X11_83) rfl rfl (by decide +kernel) rfl rfl dX11_why_2 ?_
  refine v_aload_n F dX11_why_5 rfl 0 rfl ?_
  refine v_iload_n F dX11_why_6 rfl 1 rfl ?_
  refine v_iload_n F dX11_why_7 rfl 2 rfl ?_
  refine v_iload_n F dX11_why_8 rfl 3 rfl ?_
  refine v_iload F dX11_why_9 4 rfl ?_
  obtain ⟨⟨r1, M2⟩, hz3, h⟩ := bd_some h
  dsimp only at h
  refine v_callVi (As := [.int i1, .int i2, .int i3, .int i4]) (rest := []) F (c_X11_badTrial l F.2.2.1 t0 hz3) (cwV 4 F.1.2.2.2.2 (gU_V ml_X11_260 im_yX11_badTrial se_yX11_badTrial ini_X11 cd_X11_badTrial) rfl rfl rfl (by decide +kernel) ⟨Nat.le_of_ble_eq_true rfl, Nat.le_of_ble_eq_true rfl⟩) t0 (by decide) rfl rfl rfl (Nat.le_of_ble_eq_true rfl) dX11_why_11 ⟨Nat.le_of_ble_eq_true rfl, Nat.le_of_ble_eq_true rfl⟩ ?_
  refine v_if_eq (tgt := 19) F dX11_why_14 (by decide) (fun hc5 => ?_) (fun hc5 => ?_)
  · rw [if_pos hc5] at h
    refine v_aload_n F dX11_why_19 rfl 0 rfl ?_
    refine v_iload_n F dX11_why_20 rfl 1 rfl ?_
    refine v_iload_n F dX11_why_21 rfl 2 rfl ?_
    refine v_iload_n F dX11_why_22 rfl 3 rfl ?_
    refine v_iload F dX11_why_23 4 rfl ?_
    refine v_bipush (v := 100) F dX11_why_25 (by decide) ?_
    obtain ⟨⟨r6, M7⟩, hz8, h⟩ := bd_some h
    dsimp only at h
    refine v_callVi (As := [.int i1, .int i2, .int i3, .int i4, .int 100]) (rest := []) F (c_X11_growsBy l F.2.2.1 t0 hz8) (cwV 5 F.1.2.2.2.2 (gU_V ml_X11_264 im_yX11_growsBy se_yX11_growsBy ini_X11 cd_X11_growsBy) rfl rfl rfl (by decide +kernel) ⟨Nat.le_of_ble_eq_true rfl, Nat.le_of_ble_eq_true rfl⟩) t0 (by decide) rfl rfl rfl (Nat.le_of_ble_eq_true rfl) dX11_why_27 ⟨Nat.le_of_ble_eq_true rfl, Nat.le_of_ble_eq_true rfl⟩ ?_
    refine v_if_eq (tgt := 52) F dX11_why_30 (by decide) (fun hc10 => ?_) (fun hc10 => ?_)
    · rw [if_pos hc10] at h
      exact w_X11_why_b52 F hr hlk t0 _ h
    · rw [if_neg hc10] at h
      refine v_aload_n F dX11_why_33 rfl 0 rfl ?_
      refine v_iload_n F dX11_why_34 rfl 1 rfl ?_
      refine v_iload_n F dX11_why_35 rfl 2 rfl ?_
      refine v_iload_n F dX11_why_36 rfl 3 rfl ?_
      refine v_iload F dX11_why_37 4 rfl ?_
      refine v_sipush (v := 200) F dX11_why_39 (by decide) ?_
      obtain ⟨⟨r11, M12⟩, hz13, h⟩ := bd_some h
      dsimp only at h
      refine v_callVi (As := [.int i1, .int i2, .int i3, .int i4, .int 200]) (rest := []) F (c_X11_growsBy l F.2.2.1 t0 hz13) (cwV 5 F.1.2.2.2.2 (gU_V ml_X11_264 im_yX11_growsBy se_yX11_growsBy ini_X11 cd_X11_growsBy) rfl rfl rfl (by decide +kernel) ⟨Nat.le_of_ble_eq_true rfl, Nat.le_of_ble_eq_true rfl⟩) t0 (by decide) rfl rfl rfl (Nat.le_of_ble_eq_true rfl) dX11_why_42 ⟨Nat.le_of_ble_eq_true rfl, Nat.le_of_ble_eq_true rfl⟩ ?_
      refine v_if_eq (tgt := 52) F dX11_why_45 (by decide) (fun hc15 => ?_) (fun hc15 => ?_)
      · rw [if_pos hc15] at h
        exact w_X11_why_b52 F hr hlk t0 _ h
      · rw [if_neg hc15] at h
        refine v_iconst (v := 1) F dX11_why_48 (by decide) ?_
        refine v_goto (tgt := 53) F dX11_why_49 (by decide) ?_
        exact w_X11_why_b53 F hr hlk t0 _ _ h
  · rw [if_neg hc5] at h
    refine v_iconst (v := 0) F dX11_why_17 (by decide) ?_
    cases h
    exact v_iret F hr rfl hlk dX11_why_18
