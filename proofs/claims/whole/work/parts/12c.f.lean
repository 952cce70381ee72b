def f_X11_asks_b268 (a0 : Nat) (i1 : Int32) (k10 : Int32 → Int32 → Int32 → Int32 → Mem → Option (Int32 × Mem)) (x2 : Int32) (x3 : Int32) (x4 : Int32) (x5 : Int32) (M : Mem) : Option (Int32 × Mem) := k10 x2 x3 x4 (x5 + 1) M
def f_X11_asks_b69 (a0 : Nat) (i1 : Int32) (k10 : Int32 → Int32 → Int32 → Int32 → Mem → Option (Int32 × Mem)) (s0 : Nat) (s1 : Int32) (s2 : Int32) (x2 : Int32) (x3 : Int32) (x4 : Int32) (x5 : Int32) (M : Mem) : Option (Int32 × Mem) := if ¬ (s1 < 0 ∨ gN s0 ≤ s1.toNatClampNeg) then (f_X11_asks_b268 a0 i1 k10 (x2 + 1) x3 x4 x5 (mU M s0 s1.toNatClampNeg s2)) else none
def f_X11_asks_b122 (a0 : Nat) (i1 : Int32) (k10 : Int32 → Int32 → Int32 → Int32 → Mem → Option (Int32 × Mem)) (s0 : Nat) (s1 : Int32) (s2 : Int32) (x2 : Int32) (x3 : Int32) (x4 : Int32) (x5 : Int32) (M : Mem) : Option (Int32 × Mem) := if ¬ (s1 < 0 ∨ gN s0 ≤ s1.toNatClampNeg) then (f_X11_asks_b268 a0 i1 k10 x2 x3 x4 x5 (mU M s0 s1.toNatClampNeg s2)) else none
def f_X11_asks_b266 (a0 : Nat) (i1 : Int32) (k10 : Int32 → Int32 → Int32 → Int32 → Mem → Option (Int32 × Mem)) (x3 : Int32) (x4 : Int32) (x5 : Int32) (M : Mem) : Option (Int32 × Mem) := f_X11_asks_b268 a0 i1 k10 0 x3 x4 x5 M
def f_X11_asks_b251 (a0 : Nat) (i1 : Int32) (k10 : Int32 → Int32 → Int32 → Int32 → Mem → Option (Int32 × Mem)) (x3 : Int32) (x4 : Int32) (x5 : Int32) (x7 : Int32) (M : Mem) : Option (Int32 × Mem) := f_X11_asks_b266 a0 i1 k10 (x3 + x7) x4 x5 M
def f_X11_asks_b233 (a0 : Nat) (i1 : Int32) (k10 : Int32 → Int32 → Int32 → Int32 → Mem → Option (Int32 × Mem)) (s0 : Int32) (x3 : Int32) (x4 : Int32) (x5 : Int32) (x6 : Int32) (M : Mem) : Option (Int32 × Mem) := if x6 = 10040 then (f_X11_asks_b251 a0 i1 k10 x3 x4 x5 s0 M) else (if x6 = 10042 then (f_X11_asks_b251 a0 i1 k10 x3 x4 x5 s0 M) else (f_X11_asks_b266 a0 i1 k10 x3 (x4 + s0) x5 M))
def f_X11_asks_h10 (a0 : Nat) (i1 : Int32)  : Nat → Int32 → Int32 → Int32 → Int32 → Mem → Option (Int32 × Mem)
  | 0, _, _, _, _, _ => none
  | n + 1, x2, x3, x4, x5, M => if ¬ (i1 < 0 ∨ gN (gRf a0 13) ≤ i1.toNatClampNeg) then (if (M (gRf a0 13) i1.toNatClampNeg) ≤ x5 then ((f_X11_within M x3 (-100000) 100000).bind fun q => match q with | (r4, M5) => ((f_X11_within (mU M5 a0 16 ((r4 * (M5 a0 18)) / 100)) x4 (-100000) 100000).bind fun q => match q with | (r8, M9) => (some (0, (mU M9 a0 17 ((r8 * (M9 a0 18)) / 100)))))) else (if ¬ (i1 < 0 ∨ gN (gRf a0 12) ≤ i1.toNatClampNeg) then (if ¬ (x5 < 0 ∨ gN (gRf (gRf a0 12) i1.toNatClampNeg) ≤ x5.toNatClampNeg) then (if 10020 ≤ (M (gRf (gRf a0 12) i1.toNatClampNeg) x5.toNatClampNeg) then (if (M (gRf (gRf a0 12) i1.toNatClampNeg) x5.toNatClampNeg) = 10026 then (if ¬ ((x2 - 1) < 0 ∨ gN (gRf a0 14) ≤ (x2 - 1 : Int32).toNatClampNeg) then (if (M (gRf a0 14) (x2 - 1 : Int32).toNatClampNeg) ≤ 0 then (if ¬ ((x2 - 1) < 0 ∨ gN (gRf a0 14) ≤ (x2 - 1 : Int32).toNatClampNeg) then (if 0 ≤ (M (gRf a0 14) (x2 - 1 : Int32).toNatClampNeg) then (f_X11_asks_b122 a0 i1 (f_X11_asks_h10 a0 i1 n) (gRf a0 14) (x2 - 1) 0 x2 x3 x4 x5 M) else (f_X11_asks_b122 a0 i1 (f_X11_asks_h10 a0 i1 n) (gRf a0 14) (x2 - 1) (-1) x2 x3 x4 x5 M)) else none) else (f_X11_asks_b122 a0 i1 (f_X11_asks_h10 a0 i1 n) (gRf a0 14) (x2 - 1) 1 x2 x3 x4 x5 M)) else none) else (if (M (gRf (gRf a0 12) i1.toNatClampNeg) x5.toNatClampNeg) = 10033 then (if ¬ ((x2 - 1) < 0 ∨ gN (gRf a0 14) ≤ (x2 - 1 : Int32).toNatClampNeg) then (if ¬ ((x2 - 1) < 0 ∨ gN (gRf a0 14) ≤ (x2 - 1 : Int32).toNatClampNeg) then (f_X11_asks_b268 a0 i1 (f_X11_asks_h10 a0 i1 n) x2 x3 x4 x5 (mU M (gRf a0 14) (x2 - 1 : Int32).toNatClampNeg (1 - (M (gRf a0 14) (x2 - 1 : Int32).toNatClampNeg)))) else none) else none) else (if 10040 ≤ (M (gRf (gRf a0 12) i1.toNatClampNeg) x5.toNatClampNeg) then (if 10042 ≤ (M (gRf (gRf a0 12) i1.toNatClampNeg) x5.toNatClampNeg) then (if ¬ ((1 : Int32) < 0 ∨ gN (gRf a0 14) ≤ (1 : Int32).toNatClampNeg) then (if (M (gRf a0 14) (1 : Int32).toNatClampNeg) = 1 then (if ¬ ((0 : Int32) < 0 ∨ gN (gRf a0 14) ≤ (0 : Int32).toNatClampNeg) then (f_X11_asks_b233 a0 i1 (f_X11_asks_h10 a0 i1 n) (M (gRf a0 14) (0 : Int32).toNatClampNeg) x3 x4 x5 (M (gRf (gRf a0 12) i1.toNatClampNeg) x5.toNatClampNeg) M) else none) else (f_X11_asks_b233 a0 i1 (f_X11_asks_h10 a0 i1 n) 0 x3 x4 x5 (M (gRf (gRf a0 12) i1.toNatClampNeg) x5.toNatClampNeg) M)) else none) else (if ¬ ((0 : Int32) < 0 ∨ gN (gRf a0 14) ≤ (0 : Int32).toNatClampNeg) then (f_X11_asks_b233 a0 i1 (f_X11_asks_h10 a0 i1 n) (M (gRf a0 14) (0 : Int32).toNatClampNeg) x3 x4 x5 (M (gRf (gRf a0 12) i1.toNatClampNeg) x5.toNatClampNeg) M) else none)) else (if ¬ (((x2 + (-1)) - 1) < 0 ∨ gN (gRf a0 14) ≤ ((x2 + (-1)) - 1 : Int32).toNatClampNeg) then (if ¬ ((x2 + (-1)) < 0 ∨ gN (gRf a0 14) ≤ (x2 + (-1) : Int32).toNatClampNeg) then ((f_X11_worked M (M (gRf (gRf a0 12) i1.toNatClampNeg) x5.toNatClampNeg) (M (gRf a0 14) ((x2 + (-1)) - 1 : Int32).toNatClampNeg) (M (gRf a0 14) (x2 + (-1) : Int32).toNatClampNeg)).bind fun q => match q with | (r33, M34) => (if ¬ (((x2 + (-1)) - 1) < 0 ∨ gN (gRf a0 14) ≤ ((x2 + (-1)) - 1 : Int32).toNatClampNeg) then (f_X11_asks_b268 a0 i1 (f_X11_asks_h10 a0 i1 n) (x2 + (-1)) x3 x4 x5 (mU M34 (gRf a0 14) ((x2 + (-1)) - 1 : Int32).toNatClampNeg r33)) else none)) else none) else none)))) else (if 10000 ≤ (M (gRf (gRf a0 12) i1.toNatClampNeg) x5.toNatClampNeg) then (if ¬ (((M (gRf (gRf a0 12) i1.toNatClampNeg) x5.toNatClampNeg) - 10000) < 0 ∨ gN (gRf a0 15) ≤ ((M (gRf (gRf a0 12) i1.toNatClampNeg) x5.toNatClampNeg) - 10000 : Int32).toNatClampNeg) then (f_X11_asks_b69 a0 i1 (f_X11_asks_h10 a0 i1 n) (gRf a0 14) x2 (M (gRf a0 15) ((M (gRf (gRf a0 12) i1.toNatClampNeg) x5.toNatClampNeg) - 10000 : Int32).toNatClampNeg) x2 x3 x4 x5 M) else none) else (f_X11_asks_b69 a0 i1 (f_X11_asks_h10 a0 i1 n) (gRf a0 14) x2 (M (gRf (gRf a0 12) i1.toNatClampNeg) x5.toNatClampNeg) x2 x3 x4 x5 M))) else none) else none)) else none
def f_X11_asks  (M : Mem) (a0 : Nat) (i1 : Int32) : Option (Int32 × Mem) := f_X11_asks_h10 a0 i1 FU 0 0 0 0 M
set_option maxHeartbeats 4000000 in
set_option maxRecDepth 100000 in
theorem w_X11_asks_b268 {g : gT} {p : Program} {l : Launch} {e : Env} {s : State} {m : MethodId} {args : Array Value} {below : List Frame} {meth : Method} {c : Code} {z : Int32 × Mem} (F : Fx g p s m args c cX11_asks 8 uX11_asks RX11) (hr : meth.sig.returnType = none) (hlk : meth.locks = false)  {a0 : Nat} {i1 : Int32} (t0 : Ty g 11 a0) {k10 : Int32 → Int32 → Int32 → Int32 → Mem → Option (Int32 × Mem)} (hk10 : ∀ (x2 : Int32) (x3 : Int32) (x4 : Int32) (x5 : Int32) (M : Mem), k10 x2 x3 x4 x5 M = some z → V g p l e ({ frames := 1, cells := 0, slots := 0, locals := 40 * 1 } : Room) s m args below meth c 8 0 0 (MQ below (gQ g none z.2) args s 0 0 (gA g)) 10 [(0, .ref (gAd g a0)), (1, .int i1), (2, .int x2), (3, .int x3), (4, .int x4), (5, .int x5)] [] M) (x2 : Int32) (x3 : Int32) (x4 : Int32) (x5 : Int32) (M : Mem)  (h : f_X11_asks_b268 a0 i1 k10 x2 x3 x4 x5 M = some z) : V g p l e ({ frames := 1, cells := 0, slots := 0, locals := 40 * 1 } : Room) s m args below meth c 8 0 0 (MQ below (gQ g none z.2) args s 0 0 (gA g)) 268 [(0, .ref (gAd g a0)), (1, .int i1), (2, .int x2), (3, .int x3), (4, .int x4), (5, .int x5)] [] M := by
  unfold f_X11_asks_b268 at h
  refine v_iinc (v := x5 + 1) (lv' := [(5, .int (x5 + 1)), (0, .ref (gAd g a0)), (1, .int i1), (2, .int x2), (3, .int x3), (4, .int x4)]) F dX11_asks_268 (q := 5) rfl rfl (by decide) rfl ?_
  refine v_goto (tgt := 10) F dX11_asks_271 (by decide) ?_
  refine v_sub (fun ls h9 => lv_sub h9 [1, 2, 3, 4, 5, 0] rfl) ?_
  exact hk10 _ _ _ _ _ h
set_option maxHeartbeats 4000000 in
set_option maxRecDepth 100000 in
theorem w_X11_asks_b69 {g : gT} {p : Program} {l : Launch} {e : Env} {s : State} {m : MethodId} {args : Array Value} {below : List Frame} {meth : Method} {c : Code} {z : Int32 × Mem} (F : Fx g p s m args c cX11_asks 8 uX11_asks RX11) (hr : meth.sig.returnType = none) (hlk : meth.locks = false)  {a0 : Nat} {i1 : Int32} (t0 : Ty g 11 a0) {k10 : Int32 → Int32 → Int32 → Int32 → Mem → Option (Int32 × Mem)} (hk10 : ∀ (x2 : Int32) (x3 : Int32) (x4 : Int32) (x5 : Int32) (M : Mem), k10 x2 x3 x4 x5 M = some z → V g p l e ({ frames := 1, cells := 0, slots := 0, locals := 40 * 1 } : Room) s m args below meth c 8 0 0 (MQ below (gQ g none z.2) args s 0 0 (gA g)) 10 [(0, .ref (gAd g a0)), (1, .int i1), (2, .int x2), (3, .int x3), (4, .int x4), (5, .int x5)] [] M) (s0 : Nat) (s1 : Int32) (s2 : Int32) (x2 : Int32) (x3 : Int32) (x4 : Int32) (x5 : Int32) (M : Mem) (ts0 : Ty g 12 s0) (h : f_X11_asks_b69 a0 i1 k10 s0 s1 s2 x2 x3 x4 x5 M = some z) : V g p l e ({ frames := 1, cells := 0, slots := 0, locals := 40 * 1 } : Room) s m args below meth c 8 0 0 (MQ below (gQ g none z.2) args s 0 0 (gA g)) 69 [(0, .ref (gAd g a0)), (1, .int i1), (2, .int x2), (3, .int x3), (4, .int x4), (5, .int x5)] [.int s2, .int s1, .ref (gAd g s0)] M := by
  unfold f_X11_asks_b69 at h
  obtain ⟨hin53, h⟩ := gd_some h
  refine v_iast F ts0 hin53 dX11_asks_69 ?_
  refine v_iinc (v := x2 + 1) (lv' := [(2, .int (x2 + 1)), (0, .ref (gAd g a0)), (1, .int i1), (3, .int x3), (4, .int x4), (5, .int x5)]) F dX11_asks_70 (q := 2) rfl rfl (by decide) rfl ?_
  refine v_goto (tgt := 268) F dX11_asks_73 (by decide) ?_
  refine v_sub (fun ls h9 => lv_sub h9 [1, 2, 0, 3, 4, 5] rfl) ?_
  exact w_X11_asks_b268 F hr hlk t0 hk10 _ _ _ _ _ h
set_option maxHeartbeats 4000000 in
set_option maxRecDepth 100000 in
theorem w_X11_asks_b122 {g : gT} {p : Program} {l : Launch} {e : Env} {s : State} {m : MethodId} {args : Array Value} {below : List Frame} {meth : Method} {c : Code} {z : Int32 × Mem} (F : Fx g p s m args c cX11_asks 8 uX11_asks RX11) (hr : meth.sig.returnType = none) (hlk : meth.locks = false)  {a0 : Nat} {i1 : Int32} (t0 : Ty g 11 a0) {k10 : Int32 → Int32 → Int32 → Int32 → Mem → Option (Int32 × Mem)} (hk10 : ∀ (x2 : Int32) (x3 : Int32) (x4 : Int32) (x5 : Int32) (M : Mem), k10 x2 x3 x4 x5 M = some z → V g p l e ({ frames := 1, cells := 0, slots := 0, locals := 40 * 1 } : Room) s m args below meth c 8 0 0 (MQ below (gQ g none z.2) args s 0 0 (gA g)) 10 [(0, .ref (gAd g a0)), (1, .int i1), (2, .int x2), (3, .int x3), (4, .int x4), (5, .int x5)] [] M) (s0 : Nat) (s1 : Int32) (s2 : Int32) (x2 : Int32) (x3 : Int32) (x4 : Int32) (x5 : Int32) (M : Mem) (ts0 : Ty g 12 s0) (h : f_X11_asks_b122 a0 i1 k10 s0 s1 s2 x2 x3 x4 x5 M = some z) : V g p l e ({ frames := 1, cells := 0, slots := 0, locals := 40 * 1 } : Room) s m args below meth c 8 0 0 (MQ below (gQ g none z.2) args s 0 0 (gA g)) 122 [(0, .ref (gAd g a0)), (1, .int i1), (2, .int x2), (3, .int x3), (4, .int x4), (5, .int x5)] [.int s2, .int s1, .ref (gAd g s0)] M := by
  unfold f_X11_asks_b122 at h
  obtain ⟨hin54, h⟩ := gd_some h
  refine v_iast F ts0 hin54 dX11_asks_122 ?_
  refine v_goto (tgt := 268) F dX11_asks_123 (by decide) ?_
  exact w_X11_asks_b268 F hr hlk t0 hk10 _ _ _ _ _ h
set_option maxHeartbeats 4000000 in
set_option maxRecDepth 100000 in
theorem w_X11_asks_b266 {g : gT} {p : Program} {l : Launch} {e : Env} {s : State} {m : MethodId} {args : Array Value} {below : List Frame} {meth : Method} {c : Code} {z : Int32 × Mem} (F : Fx g p s m args c cX11_asks 8 uX11_asks RX11) (hr : meth.sig.returnType = none) (hlk : meth.locks = false)  {a0 : Nat} {i1 : Int32} (t0 : Ty g 11 a0) {k10 : Int32 → Int32 → Int32 → Int32 → Mem → Option (Int32 × Mem)} (hk10 : ∀ (x2 : Int32) (x3 : Int32) (x4 : Int32) (x5 : Int32) (M : Mem), k10 x2 x3 x4 x5 M = some z → V g p l e ({ frames := 1, cells := 0, slots := 0, locals := 40 * 1 } : Room) s m args below meth c 8 0 0 (MQ below (gQ g none z.2) args s 0 0 (gA g)) 10 [(0, .ref (gAd g a0)), (1, .int i1), (2, .int x2), (3, .int x3), (4, .int x4), (5, .int x5)] [] M) (x3 : Int32) (x4 : Int32) (x5 : Int32) (M : Mem)  (h : f_X11_asks_b266 a0 i1 k10 x3 x4 x5 M = some z) : V g p l e ({ frames := 1, cells := 0, slots := 0, locals := 40 * 1 } : Room) s m args below meth c 8 0 0 (MQ below (gQ g none z.2) args s 0 0 (gA g)) 266 [(0, .ref (gAd g a0)), (1, .int i1), (3, .int x3), (4, .int x4), (5, .int x5)] [] M := by
  unfold f_X11_asks_b266 at h
  refine v_iconst (v := 0) F dX11_asks_266 (by decide) ?_
  refine v_istore_n (lv' := [(2, .int 0), (0, .ref (gAd g a0)), (1, .int i1), (3, .int x3), (4, .int x4), (5, .int x5)]) F dX11_asks_267 rfl (by decide) rfl ?_
  refine v_sub (fun ls h9 => lv_sub h9 [1, 2, 0, 3, 4, 5] rfl) ?_
  exact w_X11_asks_b268 F hr hlk t0 hk10 _ _ _ _ _ h
set_option maxHeartbeats 4000000 in
set_option maxRecDepth 100000 in
theorem w_X11_asks_b251 {g : gT} {p : Program} {l : Launch} {e : Env} {s : State} {m : MethodId} {args : Array Value} {below : List Frame} {meth : Method} {c : Code} {z : Int32 × Mem} (F : Fx g p s m args c cX11_asks 8 uX11_asks RX11) (hr : meth.sig.returnType = none) (hlk : meth.locks = false)  {a0 : Nat} {i1 : Int32} (t0 : Ty g 11 a0) {k10 : Int32 → Int32 → Int32 → Int32 → Mem → Option (Int32 × Mem)} (hk10 : ∀ (x2 : Int32) (x3 : Int32) (x4 : Int32) (x5 : Int32) (M : Mem), k10 x2 x3 x4 x5 M = some z → V g p l e ({ frames := 1, cells := 0, slots := 0, locals := 40 * 1 } : Room) s m args below meth c 8 0 0 (MQ below (gQ g none z.2) args s 0 0 (gA g)) 10 [(0, .ref (gAd g a0)), (1, .int i1), (2, .int x2), (3, .int x3), (4, .int x4), (5, .int x5)] [] M) (x3 : Int32) (x4 : Int32) (x5 : Int32) (x7 : Int32) (M : Mem)  (h : f_X11_asks_b251 a0 i1 k10 x3 x4 x5 x7 M = some z) : V g p l e ({ frames := 1, cells := 0, slots := 0, locals := 40 * 1 } : Room) s m args below meth c 8 0 0 (MQ below (gQ g none z.2) args s 0 0 (gA g)) 251 [(0, .ref (gAd g a0)), (1, .int i1), (3, .int x3), (4, .int x4), (5, .int x5), (7, .int x7)] [] M := by
  unfold f_X11_asks_b251 at h
  refine v_iload_n F dX11_asks_251 rfl 2 rfl ?_
  refine v_iload F dX11_asks_252 5 rfl ?_
  refine v_iadd F dX11_asks_254 ?_
  refine v_istore_n (lv' := [(3, .int (x3 + x7)), (0, .ref (gAd g a0)), (1, .int i1), (4, .int x4), (5, .int x5), (7, .int x7)]) F dX11_asks_255 rfl (by decide) rfl ?_
  refine v_goto (tgt := 266) F dX11_asks_256 (by decide) ?_
  refine v_sub (fun ls h9 => lv_sub h9 [1, 2, 0, 3, 4] rfl) ?_
  exact w_X11_asks_b266 F hr hlk t0 hk10 _ _ _ _ h
set_option maxHeartbeats 4000000 in
set_option maxRecDepth 100000 in
theorem w_X11_asks_b233 {g : gT} {p : Program} {l : Launch} {e : Env} {s : State} {m : MethodId} {args : Array Value} {below : List Frame} {meth : Method} {c : Code} {z : Int32 × Mem} (F : Fx g p s m args c cX11_asks 8 uX11_asks RX11) (hr : meth.sig.returnType = none) (hlk : meth.locks = false)  {a0 : Nat} {i1 : Int32} (t0 : Ty g 11 a0) {k10 : Int32 → Int32 → Int32 → Int32 → Mem → Option (Int32 × Mem)} (hk10 : ∀ (x2 : Int32) (x3 : Int32) (x4 : Int32) (x5 : Int32) (M : Mem), k10 x2 x3 x4 x5 M = some z → V g p l e ({ frames := 1, cells := 0, slots := 0, locals := 40 * 1 } : Room) s m args below meth c 8 0 0 (MQ below (gQ g none z.2) args s 0 0 (gA g)) 10 [(0, .ref (gAd g a0)), (1, .int i1), (2, .int x2), (3, .int x3), (4, .int x4), (5, .int x5)] [] M) (s0 : Int32) (x3 : Int32) (x4 : Int32) (x5 : Int32) (x6 : Int32) (M : Mem)  (h : f_X11_asks_b233 a0 i1 k10 s0 x3 x4 x5 x6 M = some z) : V g p l e ({ frames := 1, cells := 0, slots := 0, locals := 40 * 1 } : Room) s m args below meth c 8 0 0 (MQ below (gQ g none z.2) args s 0 0 (gA g)) 233 [(0, .ref (gAd g a0)), (1, .int i1), (3, .int x3), (4, .int x4), (5, .int x5), (6, .int x6)] [.int s0] M := by
  unfold f_X11_asks_b233 at h
  refine v_istore (lv' := [(7, .int s0), (0, .ref (gAd g a0)), (1, .int i1), (3, .int x3), (4, .int x4), (5, .int x5), (6, .int x6)]) F dX11_asks_233 (by decide) rfl ?_
  refine v_iload F dX11_asks_235 6 rfl ?_
  refine v_sipush (v := 10040) F dX11_asks_237 (by decide) ?_
  refine v_icmp_eq (tgt := 251) F dX11_asks_240 (by decide) (fun hc55 => ?_) (fun hc55 => ?_)
  · rw [if_pos hc55] at h
    refine v_sub (fun ls h9 => lv_sub h9 [1, 2, 3, 4, 5, 0] rfl) ?_
    exact w_X11_asks_b251 F hr hlk t0 hk10 _ _ _ _ _ h
  · rw [if_neg hc55] at h
    refine v_iload F dX11_asks_243 6 rfl ?_
    refine v_sipush (v := 10042) F dX11_asks_245 (by decide) ?_
    refine v_icmp_ne (tgt := 259) F dX11_asks_248 (by decide) (fun hc56 => ?_) (fun hc56 => ?_)
    · rw [if_neg hc56] at h
      refine v_iload F dX11_asks_259 4 rfl ?_
      refine v_iload F dX11_asks_261 0 rfl ?_
      refine v_iadd F dX11_asks_263 ?_
      refine v_istore (lv' := [(4, .int (x4 + s0)), (7, .int s0), (0, .ref (gAd g a0)), (1, .int i1), (3, .int x3), (5, .int x5), (6, .int x6)]) F dX11_asks_264 (by decide) rfl ?_
      refine v_sub (fun ls h9 => lv_sub h9 [2, 3, 4, 0, 5] rfl) ?_
      exact w_X11_asks_b266 F hr hlk t0 hk10 _ _ _ _ h
    · rw [if_pos hc56] at h
      refine v_sub (fun ls h9 => lv_sub h9 [1, 2, 3, 4, 5, 0] rfl) ?_
      exact w_X11_asks_b251 F hr hlk t0 hk10 _ _ _ _ _ h
set_option maxHeartbeats 4000000 in
set_option maxRecDepth 100000 in
theorem w_X11_asks_h10 {g : gT} {p : Program} {l : Launch} {e : Env} {s : State} {m : MethodId} {args : Array Value} {below : List Frame} {meth : Method} {c : Code} {z : Int32 × Mem} (F : Fx g p s m args c cX11_asks 8 uX11_asks RX11) (hr : meth.sig.returnType = none) (hlk : meth.locks = false)  {a0 : Nat} {i1 : Int32} (t0 : Ty g 11 a0)   : ∀ (n : Nat) (x2 : Int32) (x3 : Int32) (x4 : Int32) (x5 : Int32) (M : Mem), f_X11_asks_h10 a0 i1 n x2 x3 x4 x5 M = some z → V g p l e ({ frames := 1, cells := 0, slots := 0, locals := 40 * 1 } : Room) s m args below meth c 8 0 0 (MQ below (gQ g none z.2) args s 0 0 (gA g)) 10 [(0, .ref (gAd g a0)), (1, .int i1), (2, .int x2), (3, .int x3), (4, .int x4), (5, .int x5)] [] M := by
  intro n
  induction n with
  | zero => intro x2 x3 x4 x5 M; intros; rename_i h; cases h
  | succ n ih =>
    intro x2 x3 x4 x5 M h
    rw [f_X11_asks_h10] at h
    refine v_iload F dX11_asks_10 5 rfl ?_
    refine v_aload_n F dX11_asks_12 rfl 0 rfl ?_
    refine v_getR (k := 13) (f := 12) F t0 (by decide) (inc inU_11) rfl rfl (by decide) (by decide) (List.mem_cons_of_mem _ fl_X11_25) rfl dX11_asks_13 (fun u1 => ?_)
    refine v_iload_n F dX11_asks_16 rfl 1 rfl ?_
    obtain ⟨hin2, h⟩ := gd_some h
    refine v_iald F u1 hin2 dX11_asks_17 ?_
    refine v_icmp_ge (tgt := 274) F dX11_asks_18 (by decide) (fun hc3 => ?_) (fun hc3 => ?_)
    · rw [if_pos hc3] at h
      refine v_aload_n F dX11_asks_274 rfl 0 rfl ?_
      refine v_iload_n F dX11_asks_275 rfl 3 rfl ?_
      refine v_ldc (v := (-100000)) F (F.1.2.2.2.2 _ (List.mem_cons_of_mem _ cn_X11_190)) dX11_asks_276 ?_
      refine v_ldc (v := 100000) F (F.1.2.2.2.2 _ (List.mem_cons_of_mem _ cn_X11_112)) dX11_asks_278 ?_
      obtain ⟨⟨r4, M5⟩, hz6, h⟩ := bd_some h
      dsimp only at h
      refine v_callSi (As := [.int x3, .int (-100000), .int 100000]) (rest := [.ref (gAd g a0)]) F (c_X11_within l F.2.2.1  hz6) (cwS 3 F.1.2.2.2.2 (gU_S ml_X11_191 st_yX11_within ini_X11 cd_X11_within) rfl rfl rfl (by decide +kernel) ⟨Nat.le_of_ble_eq_true rfl, Nat.le_of_ble_eq_true rfl⟩) rfl rfl (Nat.le_of_ble_eq_true rfl) dX11_asks_280 ⟨Nat.le_of_ble_eq_true rfl, Nat.le_of_ble_eq_true rfl⟩ ?_
      refine v_aload_n F dX11_asks_283 rfl 0 rfl ?_
      refine v_getI (k := 18) F t0 (by decide) (inc inU_11) rfl rfl (by decide) (List.mem_cons_of_mem _ fl_X11_34) rfl dX11_asks_284 ?_
      refine v_imul F dX11_asks_287 ?_
      refine v_bipush (v := 100) F dX11_asks_288 (by decide) ?_
      refine v_idiv F dX11_asks_290 (by decide) ?_
      refine v_put (k := 16) (ty := .int) F t0 (by decide) (inc inU_11) tyX11 tyX11_ok nmX11 rfl rfl (by decide) (List.mem_cons_of_mem _ fl_X11_194) rfl rfl (by decide +kernel) rfl rfl dX11_asks_291 ?_
      refine v_aload_n F dX11_asks_294 rfl 0 rfl ?_
      refine v_iload F dX11_asks_295 4 rfl ?_
      refine v_ldc (v := (-100000)) F (F.1.2.2.2.2 _ (List.mem_cons_of_mem _ cn_X11_190)) dX11_asks_297 ?_
      refine v_ldc (v := 100000) F (F.1.2.2.2.2 _ (List.mem_cons_of_mem _ cn_X11_112)) dX11_asks_299 ?_
      obtain ⟨⟨r8, M9⟩, hz10, h⟩ := bd_some h
      dsimp only at h
      refine v_callSi (As := [.int x4, .int (-100000), .int 100000]) (rest := [.ref (gAd g a0)]) F (c_X11_within l F.2.2.1  hz10) (cwS 3 F.1.2.2.2.2 (gU_S ml_X11_191 st_yX11_within ini_X11 cd_X11_within) rfl rfl rfl (by decide +kernel) ⟨Nat.le_of_ble_eq_true rfl, Nat.le_of_ble_eq_true rfl⟩) rfl rfl (Nat.le_of_ble_eq_true rfl) dX11_asks_301 ⟨Nat.le_of_ble_eq_true rfl, Nat.le_of_ble_eq_true rfl⟩ ?_
      refine v_aload_n F dX11_asks_304 rfl 0 rfl ?_
      refine v_getI (k := 18) F t0 (by decide) (inc inU_11) rfl rfl (by decide) (List.mem_cons_of_mem _ fl_X11_34) rfl dX11_asks_305 ?_
      refine v_imul F dX11_asks_308 ?_
      refine v_bipush (v := 100) F dX11_asks_309 (by decide) ?_
      refine v_idiv F dX11_asks_311 (by decide) ?_
      refine v_put (k := 17) (ty := .int) F t0 (by decide) (inc inU_11) tyX11 tyX11_ok nmX11 rfl rfl (by decide) (List.mem_cons_of_mem _ fl_X11_197) rfl rfl (by decide +kernel) rfl rfl dX11_asks_312 ?_
      cases h
      exact v_vret F hr hlk dX11_asks_315
    · rw [if_neg hc3] at h
      refine v_aload_n F dX11_asks_21 rfl 0 rfl ?_
      refine v_getR (k := 12) (f := 16) F t0 (by decide) (inc inU_11) rfl rfl (by decide) (by decide) (List.mem_cons_of_mem _ fl_X11_22) rfl dX11_asks_22 (fun u12 => ?_)
      refine v_iload_n F dX11_asks_25 rfl 1 rfl ?_
      obtain ⟨hin13, h⟩ := gd_some h
      refine v_aald (ke := 12) (t0 := 4) F u12 (by decide) rfl rfl hin13 dX11_asks_26 (fun u14 => ?_)
      refine v_iload F dX11_asks_27 5 rfl ?_
      obtain ⟨hin15, h⟩ := gd_some h
      refine v_iald F u14 hin15 dX11_asks_29 ?_
      refine v_istore (lv' := [(6, .int (M (gRf (gRf a0 12) i1.toNatClampNeg) x5.toNatClampNeg)), (0, .ref (gAd g a0)), (1, .int i1), (2, .int x2), (3, .int x3), (4, .int x4), (5, .int x5)]) F dX11_asks_30 (by decide) rfl ?_
      refine v_iload F dX11_asks_32 0 rfl ?_
      refine v_sipush (v := 10020) F dX11_asks_34 (by decide) ?_
      refine v_icmp_ge (tgt := 76) F dX11_asks_37 (by decide) (fun hc16 => ?_) (fun hc16 => ?_)
      · rw [if_pos hc16] at h
        refine v_iload F dX11_asks_76 0 rfl ?_
        refine v_sipush (v := 10026) F dX11_asks_78 (by decide) ?_
        refine v_icmp_ne (tgt := 126) F dX11_asks_81 (by decide) (fun hc17 => ?_) (fun hc17 => ?_)
        · rw [if_neg hc17] at h
          refine v_iload F dX11_asks_126 0 rfl ?_
          refine v_sipush (v := 10033) F dX11_asks_128 (by decide) ?_
          refine v_icmp_ne (tgt := 155) F dX11_asks_131 (by decide) (fun hc18 => ?_) (fun hc18 => ?_)
          · rw [if_neg hc18] at h
            refine v_iload F dX11_asks_155 0 rfl ?_
            refine v_sipush (v := 10040) F dX11_asks_157 (by decide) ?_
            refine v_icmp_ge (tgt := 196) F dX11_asks_160 (by decide) (fun hc19 => ?_) (fun hc19 => ?_)
            · rw [if_pos hc19] at h
              refine v_iload F dX11_asks_196 0 rfl ?_
              refine v_sipush (v := 10042) F dX11_asks_198 (by decide) ?_
              refine v_icmp_ge (tgt := 213) F dX11_asks_201 (by decide) (fun hc20 => ?_) (fun hc20 => ?_)
              · rw [if_pos hc20] at h
                refine v_aload_n F dX11_asks_213 rfl 1 rfl ?_
                refine v_getR (k := 14) (f := 12) F t0 (by decide) (inc inU_11) rfl rfl (by decide) (by decide) (List.mem_cons_of_mem _ fl_X11_28) rfl dX11_asks_214 (fun u21 => ?_)
                refine v_iconst (v := 1) F dX11_asks_217 (by decide) ?_
                obtain ⟨hin22, h⟩ := gd_some h
                refine v_iald F u21 hin22 dX11_asks_218 ?_
                refine v_iconst (v := 1) F dX11_asks_219 (by decide) ?_
                refine v_icmp_ne (tgt := 232) F dX11_asks_220 (by decide) (fun hc23 => ?_) (fun hc23 => ?_)
                · rw [if_neg hc23] at h
                  refine v_iconst (v := 0) F dX11_asks_232 (by decide) ?_
                  refine v_sub (fun ls h9 => lv_sub h9 [1, 2, 4, 5, 6, 0] rfl) ?_
                  exact w_X11_asks_b233 F hr hlk t0 ih _ _ _ _ _ _ h
                · rw [if_pos hc23] at h
                  refine v_aload_n F dX11_asks_223 rfl 1 rfl ?_
                  refine v_getR (k := 14) (f := 12) F t0 (by decide) (inc inU_11) rfl rfl (by decide) (by decide) (List.mem_cons_of_mem _ fl_X11_28) rfl dX11_asks_224 (fun u24 => ?_)
                  refine v_iconst (v := 0) F dX11_asks_227 (by decide) ?_
                  obtain ⟨hin25, h⟩ := gd_some h
                  refine v_iald F u24 hin25 dX11_asks_228 ?_
                  refine v_goto (tgt := 233) F dX11_asks_229 (by decide) ?_
                  refine v_sub (fun ls h9 => lv_sub h9 [1, 2, 4, 5, 6, 0] rfl) ?_
                  exact w_X11_asks_b233 F hr hlk t0 ih _ _ _ _ _ _ h
              · rw [if_neg hc20] at h
                refine v_aload_n F dX11_asks_204 rfl 1 rfl ?_
                refine v_getR (k := 14) (f := 12) F t0 (by decide) (inc inU_11) rfl rfl (by decide) (by decide) (List.mem_cons_of_mem _ fl_X11_28) rfl dX11_asks_205 (fun u26 => ?_)
                refine v_iconst (v := 0) F dX11_asks_208 (by decide) ?_
                obtain ⟨hin27, h⟩ := gd_some h
                refine v_iald F u26 hin27 dX11_asks_209 ?_
                refine v_goto (tgt := 233) F dX11_asks_210 (by decide) ?_
                refine v_sub (fun ls h9 => lv_sub h9 [1, 2, 4, 5, 6, 0] rfl) ?_
                exact w_X11_asks_b233 F hr hlk t0 ih _ _ _ _ _ _ h
            · rw [if_neg hc19] at h
              refine v_iinc (v := x2 + (-1)) (lv' := [(2, .int (x2 + (-1))), (6, .int (M (gRf (gRf a0 12) i1.toNatClampNeg) x5.toNatClampNeg)), (0, .ref (gAd g a0)), (1, .int i1), (3, .int x3), (4, .int x4), (5, .int x5)]) F dX11_asks_163 (q := 3) rfl rfl (by decide) rfl ?_
              refine v_aload_n F dX11_asks_166 rfl 2 rfl ?_
              refine v_getR (k := 14) (f := 12) F t0 (by decide) (inc inU_11) rfl rfl (by decide) (by decide) (List.mem_cons_of_mem _ fl_X11_28) rfl dX11_asks_167 (fun u28 => ?_)
              refine v_iload_n F dX11_asks_170 rfl 0 rfl ?_
              refine v_iconst (v := 1) F dX11_asks_171 (by decide) ?_
              refine v_isub F dX11_asks_172 ?_
              refine v_iload F dX11_asks_173 1 rfl ?_
              refine v_aload_n F dX11_asks_175 rfl 2 rfl ?_
              refine v_getR (k := 14) (f := 12) F t0 (by decide) (inc inU_11) rfl rfl (by decide) (by decide) (List.mem_cons_of_mem _ fl_X11_28) rfl dX11_asks_176 (fun u29 => ?_)
              refine v_iload_n F dX11_asks_179 rfl 0 rfl ?_
              refine v_iconst (v := 1) F dX11_asks_180 (by decide) ?_
              refine v_isub F dX11_asks_181 ?_
              obtain ⟨hin30, h⟩ := gd_some h
              refine v_iald F u29 hin30 dX11_asks_182 ?_
              refine v_aload_n F dX11_asks_183 rfl 2 rfl ?_
              refine v_getR (k := 14) (f := 12) F t0 (by decide) (inc inU_11) rfl rfl (by decide) (by decide) (List.mem_cons_of_mem _ fl_X11_28) rfl dX11_asks_184 (fun u31 => ?_)
              refine v_iload_n F dX11_asks_187 rfl 0 rfl ?_
              obtain ⟨hin32, h⟩ := gd_some h
              refine v_iald F u31 hin32 dX11_asks_188 ?_
              obtain ⟨⟨r33, M34⟩, hz35, h⟩ := bd_some h
              dsimp only at h
              refine v_callSi (As := [.int (M (gRf (gRf a0 12) i1.toNatClampNeg) x5.toNatClampNeg), .int (M (gRf a0 14) ((x2 + (-1)) - 1 : Int32).toNatClampNeg), .int (M (gRf a0 14) (x2 + (-1) : Int32).toNatClampNeg)]) (rest := [.int ((x2 + (-1)) - 1), .ref (gAd g (gRf a0 14))]) F (c_X11_worked l F.2.2.1  hz35) (cwS 3 F.1.2.2.2.2 (gU_S ml_X11_186 st_yX11_worked ini_X11 cd_X11_worked) rfl rfl rfl (by decide +kernel) ⟨Nat.le_of_ble_eq_true rfl, Nat.le_of_ble_eq_true rfl⟩) rfl rfl (Nat.le_of_ble_eq_true rfl) dX11_asks_189 ⟨Nat.le_of_ble_eq_true rfl, Nat.le_of_ble_eq_true rfl⟩ ?_
              obtain ⟨hin37, h⟩ := gd_some h
              refine v_iast F u28 hin37 dX11_asks_192 ?_
              refine v_goto (tgt := 268) F dX11_asks_193 (by decide) ?_
              refine v_sub (fun ls h9 => lv_sub h9 [2, 3, 0, 4, 5, 6] rfl) ?_
              exact w_X11_asks_b268 F hr hlk t0 ih _ _ _ _ _ h
          · rw [if_pos hc18] at h
            refine v_aload_n F dX11_asks_134 rfl 1 rfl ?_
            refine v_getR (k := 14) (f := 12) F t0 (by decide) (inc inU_11) rfl rfl (by decide) (by decide) (List.mem_cons_of_mem _ fl_X11_28) rfl dX11_asks_135 (fun u38 => ?_)
            refine v_iload_n F dX11_asks_138 rfl 3 rfl ?_
            refine v_iconst (v := 1) F dX11_asks_139 (by decide) ?_
            refine v_isub F dX11_asks_140 ?_
            refine v_iconst (v := 1) F dX11_asks_141 (by decide) ?_
            refine v_aload_n F dX11_asks_142 rfl 1 rfl ?_
            refine v_getR (k := 14) (f := 12) F t0 (by decide) (inc inU_11) rfl rfl (by decide) (by decide) (List.mem_cons_of_mem _ fl_X11_28) rfl dX11_asks_143 (fun u39 => ?_)
            refine v_iload_n F dX11_asks_146 rfl 3 rfl ?_
            refine v_iconst (v := 1) F dX11_asks_147 (by decide) ?_
            refine v_isub F dX11_asks_148 ?_
            obtain ⟨hin40, h⟩ := gd_some h
            refine v_iald F u39 hin40 dX11_asks_149 ?_
            refine v_isub F dX11_asks_150 ?_
            obtain ⟨hin41, h⟩ := gd_some h
            refine v_iast F u38 hin41 dX11_asks_151 ?_
            refine v_goto (tgt := 268) F dX11_asks_152 (by decide) ?_
            refine v_sub (fun ls h9 => lv_sub h9 [1, 2, 3, 4, 5, 6] rfl) ?_
            exact w_X11_asks_b268 F hr hlk t0 ih _ _ _ _ _ h
        · rw [if_pos hc17] at h
          refine v_aload_n F dX11_asks_84 rfl 1 rfl ?_
          refine v_getR (k := 14) (f := 12) F t0 (by decide) (inc inU_11) rfl rfl (by decide) (by decide) (List.mem_cons_of_mem _ fl_X11_28) rfl dX11_asks_85 (fun u42 => ?_)
          refine v_iload_n F dX11_asks_88 rfl 3 rfl ?_
          refine v_iconst (v := 1) F dX11_asks_89 (by decide) ?_
          refine v_isub F dX11_asks_90 ?_
          refine v_aload_n F dX11_asks_91 rfl 1 rfl ?_
          refine v_getR (k := 14) (f := 12) F t0 (by decide) (inc inU_11) rfl rfl (by decide) (by decide) (List.mem_cons_of_mem _ fl_X11_28) rfl dX11_asks_92 (fun u43 => ?_)
          refine v_iload_n F dX11_asks_95 rfl 3 rfl ?_
          refine v_iconst (v := 1) F dX11_asks_96 (by decide) ?_
          refine v_isub F dX11_asks_97 ?_
          obtain ⟨hin44, h⟩ := gd_some h
          refine v_iald F u43 hin44 dX11_asks_98 ?_
          refine v_if_le (tgt := 106) F dX11_asks_99 (by decide) (fun hc45 => ?_) (fun hc45 => ?_)
          · rw [if_pos hc45] at h
            refine v_aload_n F dX11_asks_106 rfl 1 rfl ?_
            refine v_getR (k := 14) (f := 12) F t0 (by decide) (inc inU_11) rfl rfl (by decide) (by decide) (List.mem_cons_of_mem _ fl_X11_28) rfl dX11_asks_107 (fun u46 => ?_)
            refine v_iload_n F dX11_asks_110 rfl 3 rfl ?_
            refine v_iconst (v := 1) F dX11_asks_111 (by decide) ?_
            refine v_isub F dX11_asks_112 ?_
            obtain ⟨hin47, h⟩ := gd_some h
            refine v_iald F u46 hin47 dX11_asks_113 ?_
            refine v_if_ge (tgt := 121) F dX11_asks_114 (by decide) (fun hc48 => ?_) (fun hc48 => ?_)
            · rw [if_pos hc48] at h
              refine v_iconst (v := 0) F dX11_asks_121 (by decide) ?_
              refine v_sub (fun ls h9 => lv_sub h9 [1, 2, 3, 4, 5, 6] rfl) ?_
              exact w_X11_asks_b122 F hr hlk t0 ih _ _ _ _ _ _ _ _ u42 h
            · rw [if_neg hc48] at h
              refine v_iconst (v := (-1)) F dX11_asks_117 (by decide) ?_
              refine v_goto (tgt := 122) F dX11_asks_118 (by decide) ?_
              refine v_sub (fun ls h9 => lv_sub h9 [1, 2, 3, 4, 5, 6] rfl) ?_
              exact w_X11_asks_b122 F hr hlk t0 ih _ _ _ _ _ _ _ _ u42 h
          · rw [if_neg hc45] at h
            refine v_iconst (v := 1) F dX11_asks_102 (by decide) ?_
            refine v_goto (tgt := 122) F dX11_asks_103 (by decide) ?_
            refine v_sub (fun ls h9 => lv_sub h9 [1, 2, 3, 4, 5, 6] rfl) ?_
            exact w_X11_asks_b122 F hr hlk t0 ih _ _ _ _ _ _ _ _ u42 h
      · rw [if_neg hc16] at h
        refine v_aload_n F dX11_asks_40 rfl 1 rfl ?_
        refine v_getR (k := 14) (f := 12) F t0 (by decide) (inc inU_11) rfl rfl (by decide) (by decide) (List.mem_cons_of_mem _ fl_X11_28) rfl dX11_asks_41 (fun u49 => ?_)
        refine v_iload_n F dX11_asks_44 rfl 3 rfl ?_
        refine v_iload F dX11_asks_45 0 rfl ?_
        refine v_sipush (v := 10000) F dX11_asks_47 (by decide) ?_
        refine v_icmp_ge (tgt := 58) F dX11_asks_50 (by decide) (fun hc50 => ?_) (fun hc50 => ?_)
        · rw [if_pos hc50] at h
          refine v_aload_n F dX11_asks_58 rfl 1 rfl ?_
          refine v_getR (k := 15) (f := 12) F t0 (by decide) (inc inU_11) rfl rfl (by decide) (by decide) (List.mem_cons_of_mem _ fl_X11_31) rfl dX11_asks_59 (fun u51 => ?_)
          refine v_iload F dX11_asks_62 0 rfl ?_
          refine v_sipush (v := 10000) F dX11_asks_64 (by decide) ?_
          refine v_isub F dX11_asks_67 ?_
          obtain ⟨hin52, h⟩ := gd_some h
          refine v_iald F u51 hin52 dX11_asks_68 ?_
          refine v_sub (fun ls h9 => lv_sub h9 [1, 2, 3, 4, 5, 6] rfl) ?_
          exact w_X11_asks_b69 F hr hlk t0 ih _ _ _ _ _ _ _ _ u49 h
        · rw [if_neg hc50] at h
          refine v_iload F dX11_asks_53 0 rfl ?_
          refine v_goto (tgt := 69) F dX11_asks_55 (by decide) ?_
          refine v_sub (fun ls h9 => lv_sub h9 [1, 2, 3, 4, 5, 6] rfl) ?_
          exact w_X11_asks_b69 F hr hlk t0 ih _ _ _ _ _ _ _ _ u49 h
set_option maxHeartbeats 4000000 in
set_option maxRecDepth 100000 in
theorem c_X11_asks {g : gT} (l : Launch) (hok : gOK g)  {a0 : Nat} {i1 : Int32} {M : Mem} {z : Int32 × Mem}  (t0 : Ty g 11 a0) (h : f_X11_asks  M a0 i1 = some z) : Cn g l yX11_asks uX11_asks 1 [.ref (gAd g a0), .int i1] M none z.2 := by
  refine Cn.of (cc := cX11_asks) (maxL := 8) (ret := none) hok (by decide) rfl (Nat.le_of_ble_eq_true rfl) (fun p e s m args below meth c F hr hlk => ?_)
  unfold f_X11_asks at h
  show V g p l e ({ frames := 1, cells := 0, slots := 0, locals := 40 * 1 } : Room) s m args below meth c 8 0 0 (MQ below (gQ g none z.2) args s 0 0 (gA g)) 0 [(0, .ref (gAd g a0)), (1, .int i1)] [] M
  refine v_iconst (v := 0) F dX11_asks_0 (by decide) ?_
  refine v_istore_n (lv' := [(2, .int 0), (0, .ref (gAd g a0)), (1, .int i1)]) F dX11_asks_1 rfl (by decide) rfl ?_
  refine v_iconst (v := 0) F dX11_asks_2 (by decide) ?_
  refine v_istore_n (lv' := [(3, .int 0), (2, .int 0), (0, .ref (gAd g a0)), (1, .int i1)]) F dX11_asks_3 rfl (by decide) rfl ?_
  refine v_iconst (v := 0) F dX11_asks_4 (by decide) ?_
  refine v_istore (lv' := [(4, .int 0), (3, .int 0), (2, .int 0), (0, .ref (gAd g a0)), (1, .int i1)]) F dX11_asks_5 (by decide) rfl ?_
  refine v_iconst (v := 0) F dX11_asks_7 (by decide) ?_
  refine v_istore (lv' := [(5, .int 0), (4, .int 0), (3, .int 0), (2, .int 0), (0, .ref (gAd g a0)), (1, .int i1)]) F dX11_asks_8 (by decide) rfl ?_
  refine v_sub (fun ls h9 => lv_sub h9 [4, 5, 3, 2, 1, 0] rfl) ?_
  exact w_X11_asks_h10 F hr hlk t0 _ _ _ _ _ _ h
def f_X11_deck_h56 (a0 : Nat) (i1 : Int32) (k47 : Int32 → Int32 → Mem → Option (Int32 × Mem)) : Nat → Int32 → Int32 → Int32 → Mem → Option (Int32 × Mem)
  | 0, _, _, _, _ => none
  | n + 1, x2, x3, x4, M => if 4 ≤ x4 then (if ¬ (x3 < 0 ∨ gN (gRf a0 24) ≤ x3.toNatClampNeg) then (if ¬ (x3 < 0 ∨ gN (gRf a0 25) ≤ x3.toNatClampNeg) then (k47 x2 (x3 + 1) (mU (mU M (gRf a0 24) x3.toNatClampNeg 2) (gRf a0 25) x3.toNatClampNeg 0)) else none) else none) else (if ¬ (x4 < 0 ∨ gN (gRf a0 22) ≤ x4.toNatClampNeg) then (if ¬ (x3 < 0 ∨ gN (gRf (gRf a0 22) x4.toNatClampNeg) ≤ x3.toNatClampNeg) then ((f_X11_deck_h56 a0 i1 k47 n) x2 x3 (x4 + 1) (mU M (gRf (gRf a0 22) x4.toNatClampNeg) x3.toNatClampNeg 0)) else none) else none)
def f_X11_deck_h47 (a0 : Nat) (i1 : Int32)  : Nat → Int32 → Int32 → Mem → Option (Int32 × Mem)
  | 0, _, _, _ => none
  | n + 1, x2, x3, M => if 8 ≤ x3 then (some (x2, M)) else (f_X11_deck_h56 a0 i1 (f_X11_deck_h47 a0 i1 n) FU x2 x3 0 M)
def f_X11_deck_b21 (a0 : Nat) (i1 : Int32)  (s0 : Nat) (s1 : Int32) (M : Mem) : Option (Int32 × Mem) := (f_X11_bad M s0 s1 1).bind fun q => match q with | (r6, M7) => (if r6 = 0 then (f_X11_deck_h47 a0 i1 FU (M7 a0 19) 0 (mU (mU M7 a0 19 i1) a0 20 0)) else (some (0, M7)))
def f_X11_deck  (M : Mem) (a0 : Nat) (i1 : Int32) : Option (Int32 × Mem) := (f_X11_in (mU M a0 0 0) i1 2 8).bind fun q => match q with | (r1, M2) => (if r1 = 0 then (f_X11_deck_b21 a0 i1 a0 1 M2) else (f_X11_deck_b21 a0 i1 a0 0 M2))
set_option maxHeartbeats 4000000 in
set_option maxRecDepth 100000 in
theorem w_X11_deck_h56 {g : gT} {p : Program} {l : Launch} {e : Env} {s : State} {m : MethodId} {args : Array Value} {below : List Frame} {meth : Method} {c : Code} {z : Int32 × Mem} (F : Fx g p s m args c cX11_deck 5 uX11_deck RX11) (hr : meth.sig.returnType = (some .int)) (hlk : meth.locks = false)  {a0 : Nat} {i1 : Int32} (t0 : Ty g 11 a0) {k47 : Int32 → Int32 → Mem → Option (Int32 × Mem)} (hk47 : ∀ (x2 : Int32) (x3 : Int32) (M : Mem), k47 x2 x3 M = some z → V g p l e ({ frames := 1, cells := 0, slots := 0, locals := 40 * 1 } : Room) s m args below meth c 5 0 0 (MQ below (gQ g (some (.int z.1)) z.2) args s 0 0 (gA g)) 47 [(0, .ref (gAd g a0)), (1, .int i1), (2, .int x2), (3, .int x3)] [] M) : ∀ (n : Nat) (x2 : Int32) (x3 : Int32) (x4 : Int32) (M : Mem), f_X11_deck_h56 a0 i1 k47 n x2 x3 x4 M = some z → V g p l e ({ frames := 1, cells := 0, slots := 0, locals := 40 * 1 } : Room) s m args below meth c 5 0 0 (MQ below (gQ g (some (.int z.1)) z.2) args s 0 0 (gA g)) 56 [(0, .ref (gAd g a0)), (1, .int i1), (2, .int x2), (3, .int x3), (4, .int x4)] [] M := by
  intro n
  induction n with
  | zero => intro x2 x3 x4 M; intros; rename_i h; cases h
  | succ n ih =>
    intro x2 x3 x4 M h
    rw [f_X11_deck_h56] at h
    refine v_iload F dX11_deck_56 4 rfl ?_
    refine v_iconst (v := 4) F dX11_deck_58 (by decide) ?_
    refine v_icmp_ge (tgt := 78) F dX11_deck_59 (by decide) (fun hc12 => ?_) (fun hc12 => ?_)
    · rw [if_pos hc12] at h
      refine v_aload_n F dX11_deck_78 rfl 0 rfl ?_
      refine v_getR (k := 24) (f := 12) F t0 (by decide) (inc inU_11) rfl rfl (by decide) (by decide) (List.mem_cons_of_mem _ fl_X11_49) rfl dX11_deck_79 (fun u13 => ?_)
      refine v_iload_n F dX11_deck_82 rfl 3 rfl ?_
      refine v_iconst (v := 2) F dX11_deck_83 (by decide) ?_
      obtain ⟨hin14, h⟩ := gd_some h
      refine v_iast F u13 hin14 dX11_deck_84 ?_
      refine v_aload_n F dX11_deck_85 rfl 0 rfl ?_
      refine v_getR (k := 25) (f := 13) F t0 (by decide) (inc inU_11) rfl rfl (by decide) (by decide) (List.mem_cons_of_mem _ fl_X11_52) rfl dX11_deck_86 (fun u15 => ?_)
      refine v_iload_n F dX11_deck_89 rfl 3 rfl ?_
      refine v_iconst (v := 0) F dX11_deck_90 (by decide) ?_
      obtain ⟨hin16, h⟩ := gd_some h
      refine v_zast F u15 hin16 rfl dX11_deck_91 ?_
      refine v_iinc (v := x3 + 1) (lv' := [(3, .int (x3 + 1)), (0, .ref (gAd g a0)), (1, .int i1), (2, .int x2), (4, .int x4)]) F dX11_deck_92 (q := 3) rfl rfl (by decide) rfl ?_
      refine v_goto (tgt := 47) F dX11_deck_95 (by decide) ?_
      refine v_sub (fun ls h9 => lv_sub h9 [1, 2, 3, 0] rfl) ?_
      exact hk47 _ _ _ h
    · rw [if_neg hc12] at h
      refine v_aload_n F dX11_deck_62 rfl 0 rfl ?_
      refine v_getR (k := 22) (f := 16) F t0 (by decide) (inc inU_11) rfl rfl (by decide) (by decide) (List.mem_cons_of_mem _ fl_X11_43) rfl dX11_deck_63 (fun u17 => ?_)
      refine v_iload F dX11_deck_66 4 rfl ?_
      obtain ⟨hin18, h⟩ := gd_some h
      refine v_aald (ke := 12) (t0 := 4) F u17 (by decide) rfl rfl hin18 dX11_deck_68 (fun u19 => ?_)
      refine v_iload_n F dX11_deck_69 rfl 3 rfl ?_
      refine v_iconst (v := 0) F dX11_deck_70 (by decide) ?_
      obtain ⟨hin20, h⟩ := gd_some h
      refine v_iast F u19 hin20 dX11_deck_71 ?_
      refine v_iinc (v := x4 + 1) (lv' := [(4, .int (x4 + 1)), (0, .ref (gAd g a0)), (1, .int i1), (2, .int x2), (3, .int x3)]) F dX11_deck_72 (q := 4) rfl rfl (by decide) rfl ?_
      refine v_goto (tgt := 56) F dX11_deck_75 (by decide) ?_
      refine v_sub (fun ls h9 => lv_sub h9 [1, 2, 3, 4, 0] rfl) ?_
      exact ih _ _ _ _ h
set_option maxHeartbeats 4000000 in
set_option maxRecDepth 100000 in
theorem w_X11_deck_h47 {g : gT} {p : Program} {l : Launch} {e : Env} {s : State} {m : MethodId} {args : Array Value} {below : List Frame} {meth : Method} {c : Code} {z : Int32 × Mem} (F : Fx g p s m args c cX11_deck 5 uX11_deck RX11) (hr : meth.sig.returnType = (some .int)) (hlk : meth.locks = false)  {a0 : Nat} {i1 : Int32} (t0 : Ty g 11 a0)   : ∀ (n : Nat) (x2 : Int32) (x3 : Int32) (M : Mem), f_X11_deck_h47 a0 i1 n x2 x3 M = some z → V g p l e ({ frames := 1, cells := 0, slots := 0, locals := 40 * 1 } : Room) s m args below meth c 5 0 0 (MQ below (gQ g (some (.int z.1)) z.2) args s 0 0 (gA g)) 47 [(0, .ref (gAd g a0)), (1, .int i1), (2, .int x2), (3, .int x3)] [] M := by
  intro n
  induction n with
  | zero => intro x2 x3 M; intros; rename_i h; cases h
  | succ n ih =>
    intro x2 x3 M h
    rw [f_X11_deck_h47] at h
    refine v_iload_n F dX11_deck_47 rfl 3 rfl ?_
    refine v_bipush (v := 8) F dX11_deck_48 (by decide) ?_
    refine v_icmp_ge (tgt := 98) F dX11_deck_50 (by decide) (fun hc11 => ?_) (fun hc11 => ?_)
    · rw [if_pos hc11] at h
      refine v_iload_n F dX11_deck_98 rfl 2 rfl ?_
      cases h
      exact v_iret F hr rfl hlk dX11_deck_99
    · rw [if_neg hc11] at h
      refine v_iconst (v := 0) F dX11_deck_53 (by decide) ?_
      refine v_istore (lv' := [(4, .int 0), (0, .ref (gAd g a0)), (1, .int i1), (2, .int x2), (3, .int x3)]) F dX11_deck_54 (by decide) rfl ?_
      refine v_sub (fun ls h9 => lv_sub h9 [1, 2, 3, 4, 0] rfl) ?_
      exact w_X11_deck_h56 F hr hlk t0 ih _ _ _ _ _ h
set_option maxHeartbeats 4000000 in
set_option maxRecDepth 100000 in
theorem w_X11_deck_b21 {g : gT} {p : Program} {l : Launch} {e : Env} {s : State} {m : MethodId} {args : Array Value} {below : List Frame} {meth : Method} {c : Code} {z : Int32 × Mem} (F : Fx g p s m args c cX11_deck 5 uX11_deck RX11) (hr : meth.sig.returnType = (some .int)) (hlk : meth.locks = false)  {a0 : Nat} {i1 : Int32} (t0 : Ty g 11 a0)   (s0 : Nat) (s1 : Int32) (M : Mem) (ts0 : Ty g 11 s0) (h : f_X11_deck_b21 a0 i1 s0 s1 M = some z) : V g p l e ({ frames := 1, cells := 0, slots := 0, locals := 40 * 1 } : Room) s m args below meth c 5 0 0 (MQ below (gQ g (some (.int z.1)) z.2) args s 0 0 (gA g)) 21 [(0, .ref (gAd g a0)), (1, .int i1)] [.int s1, .ref (gAd g s0)] M := by
  unfold f_X11_deck_b21 at h
  refine v_iconst (v := 1) F dX11_deck_21 (by decide) ?_
  obtain ⟨⟨r6, M7⟩, hz8, h⟩ := bd_some h
  dsimp only at h
  refine v_callVi (As := [.int s1, .int 1]) (rest := []) F (c_X11_bad l F.2.2.1 ts0 hz8) (cwV 2 F.1.2.2.2.2 (gU_V ml_X11_176 im_yX11_bad se_yX11_bad ini_X11 cd_X11_bad) rfl rfl rfl (by decide +kernel) ⟨Nat.le_of_ble_eq_true rfl, Nat.le_of_ble_eq_true rfl⟩) ts0 (by decide) rfl rfl rfl (Nat.le_of_ble_eq_true rfl) dX11_deck_22 ⟨Nat.le_of_ble_eq_true rfl, Nat.le_of_ble_eq_true rfl⟩ ?_
  refine v_if_eq (tgt := 30) F dX11_deck_25 (by decide) (fun hc10 => ?_) (fun hc10 => ?_)
  · rw [if_pos hc10] at h
    refine v_aload_n F dX11_deck_30 rfl 0 rfl ?_
    refine v_getI (k := 19) F t0 (by decide) (inc inU_11) rfl rfl (by decide) (List.mem_cons_of_mem _ fl_X11_37) rfl dX11_deck_31 ?_
    refine v_istore_n (lv' := [(2, .int (M7 a0 19)), (0, .ref (gAd g a0)), (1, .int i1)]) F dX11_deck_34 rfl (by decide) rfl ?_
    refine v_aload_n F dX11_deck_35 rfl 1 rfl ?_
    refine v_iload_n F dX11_deck_36 rfl 2 rfl ?_
    refine v_put (k := 19) (ty := .int) F t0 (by decide) (inc inU_11) tyX11 tyX11_ok nmX11 rfl rfl (by decide) (List.mem_cons_of_mem _ fl_X11_37) rfl rfl (by decide +kernel) rfl rfl dX11_deck_37 ?_
    refine v_aload_n F dX11_deck_40 rfl 1 rfl ?_
    refine v_iconst (v := 0) F dX11_deck_41 (by decide) ?_
    refine v_put (k := 20) (ty := .int) F t0 (by decide) (inc inU_11) tyX11 tyX11_ok nmX11 rfl rfl (by decide) (List.mem_cons_of_mem _ fl_X11_200) rfl rfl (by decide +kernel) rfl rfl dX11_deck_42 ?_
    refine v_iconst (v := 0) F dX11_deck_45 (by decide) ?_
    refine v_istore_n (lv' := [(3, .int 0), (2, .int (M7 a0 19)), (0, .ref (gAd g a0)), (1, .int i1)]) F dX11_deck_46 rfl (by decide) rfl ?_
    refine v_sub (fun ls h9 => lv_sub h9 [2, 3, 1, 0] rfl) ?_
    exact w_X11_deck_h47 F hr hlk t0 _ _ _ _ h
  · rw [if_neg hc10] at h
    refine v_iconst (v := 0) F dX11_deck_28 (by decide) ?_
    cases h
    exact v_iret F hr rfl hlk dX11_deck_29
set_option maxHeartbeats 4000000 in
set_option maxRecDepth 100000 in
theorem c_X11_deck {g : gT} (l : Launch) (hok : gOK g)  {a0 : Nat} {i1 : Int32} {M : Mem} {z : Int32 × Mem}  (t0 : Ty g 11 a0) (h : f_X11_deck  M a0 i1 = some z) : Cn g l yX11_deck uX11_deck 1 [.ref (gAd g a0), .int i1] M (some (.int z.1)) z.2 := by
  refine Cn.of (cc := cX11_deck) (maxL := 5) (ret := (some .int)) hok (by decide) rfl (Nat.le_of_ble_eq_true rfl) (fun p e s m args below meth c F hr hlk => ?_)
  unfold f_X11_deck at h
  show V g p l e ({ frames := 1, cells := 0, slots := 0, locals := 40 * 1 } : Room) s m args below meth c 5 0 0 (MQ below (gQ g (some (.int z.1)) z.2) args s 0 0 (gA g)) 0 [(0, .ref (gAd g a0)), (1, .int i1)] [] M
  refine v_aload_n F dX11_deck_0 rfl 0 rfl ?_
  refine v_iconst (v := 0) F dX11_deck_1 (by decide) ?_
  refine v_put (k := 0) (ty := .int) F t0 (by decide) (inc inU_11) tyX11 tyX11_ok nmX11 rfl rfl (by decide) (List.mem_cons_of_mem _ fl_X11_83) rfl rfl (by decide +kernel) rfl rfl dX11_deck_2 ?_
  refine v_aload_n F dX11_deck_5 rfl 0 rfl ?_
  refine v_iload_n F dX11_deck_6 rfl 1 rfl ?_
  refine v_iconst (v := 2) F dX11_deck_7 (by decide) ?_
  refine v_bipush (v := 8) F dX11_deck_8 (by decide) ?_
  obtain ⟨⟨r1, M2⟩, hz3, h⟩ := bd_some h
  dsimp only at h
  refine v_callSi (As := [.int i1, .int 2, .int 8]) (rest := [.ref (gAd g a0)]) F (c_X11_in l F.2.2.1  hz3) (cwS 3 F.1.2.2.2.2 (gU_S ml_X11_172 st_yX11_in ini_X11 cd_X11_in) rfl rfl rfl (by decide +kernel) ⟨Nat.le_of_ble_eq_true rfl, Nat.le_of_ble_eq_true rfl⟩) rfl rfl (Nat.le_of_ble_eq_true rfl) dX11_deck_10 ⟨Nat.le_of_ble_eq_true rfl, Nat.le_of_ble_eq_true rfl⟩ ?_
  refine v_if_ne (tgt := 20) F dX11_deck_13 (by decide) (fun hc5 => ?_) (fun hc5 => ?_)
  · rw [if_neg hc5] at h
    refine v_iconst (v := 0) F dX11_deck_20 (by decide) ?_
    exact w_X11_deck_b21 F hr hlk t0 _ _ _ t0 h
  · rw [if_pos hc5] at h
    refine v_iconst (v := 1) F dX11_deck_16 (by decide) ?_
    refine v_goto (tgt := 21) F dX11_deck_17 (by decide) ?_
    exact w_X11_deck_b21 F hr hlk t0 _ _ _ t0 h
def f_X11_lowest  (M : Mem) (i0 : Int32) : Option (Int32 × Mem) := if i0 = 0 then (some (1, M)) else (some (0, M))
set_option maxHeartbeats 4000000 in
set_option maxRecDepth 100000 in
theorem c_X11_lowest {g : gT} (l : Launch) (hok : gOK g)  {i0 : Int32} {M : Mem} {z : Int32 × Mem}   (h : f_X11_lowest  M i0 = some z) : Cn g l yX11_lowest uX11_lowest 0 [.int i0] M (some (.int z.1)) z.2 := by
  refine Cn.of (cc := cX11_lowest) (maxL := 1) (ret := (some .int)) hok (by decide) rfl (Nat.le_of_ble_eq_true rfl) (fun p e s m args below meth c F hr hlk => ?_)
  unfold f_X11_lowest at h
  show V g p l e ({ frames := 0, cells := 0, slots := 0, locals := 40 * 0 } : Room) s m args below meth c 1 0 0 (MQ below (gQ g (some (.int z.1)) z.2) args s 0 0 (gA g)) 0 [(0, .int i0)] [] M
  refine v_iload_n F dX11_lowest_0 rfl 0 rfl ?_
  refine v_if_ne (tgt := 8) F dX11_lowest_1 (by decide) (fun hc1 => ?_) (fun hc1 => ?_)
  · rw [if_neg hc1] at h
    refine v_iconst (v := 0) F dX11_lowest_8 (by decide) ?_
    cases h
    exact v_iret F hr rfl hlk dX11_lowest_9
  · rw [if_pos hc1] at h
    refine v_iconst (v := 1) F dX11_lowest_4 (by decide) ?_
    refine v_goto (tgt := 9) F dX11_lowest_5 (by decide) ?_
    cases h
    exact v_iret F hr rfl hlk dX11_lowest_9
def f_X11_highest  (M : Mem) (i0 : Int32) : Option (Int32 × Mem) := if i0 = 7 then (some (9999, M)) else (if i0 = 9 then (some (999999, M)) else (some (99, M)))
set_option maxHeartbeats 4000000 in
set_option maxRecDepth 100000 in
theorem c_X11_highest {g : gT} (l : Launch) (hok : gOK g)  {i0 : Int32} {M : Mem} {z : Int32 × Mem}   (h : f_X11_highest  M i0 = some z) : Cn g l yX11_highest uX11_highest 0 [.int i0] M (some (.int z.1)) z.2 := by
  refine Cn.of (cc := cX11_highest) (maxL := 1) (ret := (some .int)) hok (by decide) rfl (Nat.le_of_ble_eq_true rfl) (fun p e s m args below meth c F hr hlk => ?_)
  unfold f_X11_highest at h
  show V g p l e ({ frames := 0, cells := 0, slots := 0, locals := 40 * 0 } : Room) s m args below meth c 1 0 0 (MQ below (gQ g (some (.int z.1)) z.2) args s 0 0 (gA g)) 0 [(0, .int i0)] [] M
  refine v_iload_n F dX11_highest_0 rfl 0 rfl ?_
  refine v_bipush (v := 7) F dX11_highest_1 (by decide) ?_
  refine v_icmp_ne (tgt := 12) F dX11_highest_3 (by decide) (fun hc1 => ?_) (fun hc1 => ?_)
  · rw [if_neg hc1] at h
    refine v_iload_n F dX11_highest_12 rfl 0 rfl ?_
    refine v_bipush (v := 9) F dX11_highest_13 (by decide) ?_
    refine v_icmp_ne (tgt := 23) F dX11_highest_15 (by decide) (fun hc2 => ?_) (fun hc2 => ?_)
    · rw [if_neg hc2] at h
      refine v_bipush (v := 99) F dX11_highest_23 (by decide) ?_
      cases h
      exact v_iret F hr rfl hlk dX11_highest_25
    · rw [if_pos hc2] at h
      refine v_ldc (v := 999999) F (F.1.2.2.2.2 _ (List.mem_cons_of_mem _ cn_X11_203)) dX11_highest_18 ?_
      refine v_goto (tgt := 25) F dX11_highest_20 (by decide) ?_
      cases h
      exact v_iret F hr rfl hlk dX11_highest_25
  · rw [if_pos hc1] at h
    refine v_sipush (v := 9999) F dX11_highest_6 (by decide) ?_
    refine v_goto (tgt := 25) F dX11_highest_9 (by decide) ?_
    cases h
    exact v_iret F hr rfl hlk dX11_highest_25
def f_X11_set_b49 (a0 : Nat) (i1 : Int32) (i2 : Int32)  (s0 : Nat) (s1 : Int32) (M : Mem) : Option (Int32 × Mem) := (f_X11_bad M s0 s1 1).bind fun q => match q with | (r24, M25) => (if r24 = 0 then (if ¬ (i1 < 0 ∨ gN (gRf a0 21) ≤ i1.toNatClampNeg) then (if ¬ (i1 < 0 ∨ gN (gRf a0 21) ≤ i1.toNatClampNeg) then (some (M25 (gRf a0 21) i1.toNatClampNeg, (mU M25 (gRf a0 21) i1.toNatClampNeg i2))) else none) else none) else (some (0, M25)))
def f_X11_set_b21 (a0 : Nat) (i1 : Int32) (i2 : Int32)  (s0 : Nat) (s1 : Int32) (M : Mem) : Option (Int32 × Mem) := (f_X11_bad M s0 s1 1).bind fun q => match q with | (r6, M7) => (if r6 = 0 then ((f_X11_lowest M7 i1).bind fun q => match q with | (r11, M12) => ((f_X11_highest M12 i1).bind fun q => match q with | (r15, M16) => ((f_X11_in M16 i2 r11 r15).bind fun q => match q with | (r19, M20) => (if r19 = 0 then (f_X11_set_b49 a0 i1 i2 a0 1 M20) else (f_X11_set_b49 a0 i1 i2 a0 0 M20))))) else (some (0, M7)))
def f_X11_set  (M : Mem) (a0 : Nat) (i1 : Int32) (i2 : Int32) : Option (Int32 × Mem) := (f_X11_in (mU M a0 0 0) i1 0 9).bind fun q => match q with | (r1, M2) => (if r1 = 0 then (f_X11_set_b21 a0 i1 i2 a0 1 M2) else (f_X11_set_b21 a0 i1 i2 a0 0 M2))
set_option maxHeartbeats 4000000 in
set_option maxRecDepth 100000 in
theorem w_X11_set_b49 {g : gT} {p : Program} {l : Launch} {e : Env} {s : State} {m : MethodId} {args : Array Value} {below : List Frame} {meth : Method} {c : Code} {z : Int32 × Mem} (F : Fx g p s m args c cX11_set 4 uX11_set RX11) (hr : meth.sig.returnType = (some .int)) (hlk : meth.locks = false)  {a0 : Nat} {i1 : Int32} {i2 : Int32} (t0 : Ty g 11 a0)   (s0 : Nat) (s1 : Int32) (M : Mem) (ts0 : Ty g 11 s0) (h : f_X11_set_b49 a0 i1 i2 s0 s1 M = some z) : V g p l e ({ frames := 1, cells := 0, slots := 0, locals := 40 * 1 } : Room) s m args below meth c 4 0 0 (MQ below (gQ g (some (.int z.1)) z.2) args s 0 0 (gA g)) 49 [(0, .ref (gAd g a0)), (1, .int i1), (2, .int i2)] [.int s1, .ref (gAd g s0)] M := by
  unfold f_X11_set_b49 at h
  refine v_iconst (v := 1) F dX11_set_49 (by decide) ?_
  obtain ⟨⟨r24, M25⟩, hz26, h⟩ := bd_some h
  dsimp only at h
  refine v_callVi (As := [.int s1, .int 1]) (rest := []) F (c_X11_bad l F.2.2.1 ts0 hz26) (cwV 2 F.1.2.2.2.2 (gU_V ml_X11_176 im_yX11_bad se_yX11_bad ini_X11 cd_X11_bad) rfl rfl rfl (by decide +kernel) ⟨Nat.le_of_ble_eq_true rfl, Nat.le_of_ble_eq_true rfl⟩) ts0 (by decide) rfl rfl rfl (Nat.le_of_ble_eq_true rfl) dX11_set_50 ⟨Nat.le_of_ble_eq_true rfl, Nat.le_of_ble_eq_true rfl⟩ ?_
  refine v_if_eq (tgt := 58) F dX11_set_53 (by decide) (fun hc28 => ?_) (fun hc28 => ?_)
  · rw [if_pos hc28] at h
    refine v_aload_n F dX11_set_58 rfl 0 rfl ?_
    refine v_getR (k := 21) (f := 12) F t0 (by decide) (inc inU_11) rfl rfl (by decide) (by decide) (List.mem_cons_of_mem _ fl_X11_40) rfl dX11_set_59 (fun u29 => ?_)
    refine v_iload_n F dX11_set_62 rfl 1 rfl ?_
    obtain ⟨hin30, h⟩ := gd_some h
    refine v_iald F u29 hin30 dX11_set_63 ?_
    refine v_istore_n (lv' := [(3, .int (M25 (gRf a0 21) i1.toNatClampNeg)), (0, .ref (gAd g a0)), (1, .int i1), (2, .int i2)]) F dX11_set_64 rfl (by decide) rfl ?_
    refine v_aload_n F dX11_set_65 rfl 1 rfl ?_
    refine v_getR (k := 21) (f := 12) F t0 (by decide) (inc inU_11) rfl rfl (by decide) (by decide) (List.mem_cons_of_mem _ fl_X11_40) rfl dX11_set_66 (fun u31 => ?_)
    refine v_iload_n F dX11_set_69 rfl 2 rfl ?_
    refine v_iload_n F dX11_set_70 rfl 3 rfl ?_
    obtain ⟨hin32, h⟩ := gd_some h
    refine v_iast F u31 hin32 dX11_set_71 ?_
    refine v_iload_n F dX11_set_72 rfl 0 rfl ?_
    cases h
    exact v_iret F hr rfl hlk dX11_set_73
  · rw [if_neg hc28] at h
    refine v_iconst (v := 0) F dX11_set_56 (by decide) ?_
    cases h
    exact v_iret F hr rfl hlk dX11_set_57
set_option maxHeartbeats 4000000 in
set_option maxRecDepth 100000 in
theorem w_X11_set_b21 {g : gT} {p : Program} {l : Launch} {e : Env} {s : State} {m : MethodId} {args : Array Value} {below : List Frame} {meth : Method} {c : Code} {z : Int32 × Mem} (F : Fx g p s m args c cX11_set 4 uX11_set RX11) (hr : meth.sig.returnType = (some .int)) (hlk : meth.locks = false)  {a0 : Nat} {i1 : Int32} {i2 : Int32} (t0 : Ty g 11 a0)   (s0 : Nat) (s1 : Int32) (M : Mem) (ts0 : Ty g 11 s0) (h : f_X11_set_b21 a0 i1 i2 s0 s1 M = some z) : V g p l e ({ frames := 1, cells := 0, slots := 0, locals := 40 * 1 } : Room) s m args below meth c 4 0 0 (MQ below (gQ g (some (.int z.1)) z.2) args s 0 0 (gA g)) 21 [(0, .ref (gAd g a0)), (1, .int i1), (2, .int i2)] [.int s1, .ref (gAd g s0)] M := by
  unfold f_X11_set_b21 at h
  refine v_iconst (v := 1) F dX11_set_21 (by decide) ?_
  obtain ⟨⟨r6, M7⟩, hz8, h⟩ := bd_some h
  dsimp only at h
  refine v_callVi (As := [.int s1, .int 1]) (rest := []) F (c_X11_bad l F.2.2.1 ts0 hz8) (cwV 2 F.1.2.2.2.2 (gU_V ml_X11_176 im_yX11_bad se_yX11_bad ini_X11 cd_X11_bad) rfl rfl rfl (by decide +kernel) ⟨Nat.le_of_ble_eq_true rfl, Nat.le_of_ble_eq_true rfl⟩) ts0 (by decide) rfl rfl rfl (Nat.le_of_ble_eq_true rfl) dX11_set_22 ⟨Nat.le_of_ble_eq_true rfl, Nat.le_of_ble_eq_true rfl⟩ ?_
  refine v_if_ne (tgt := 56) F dX11_set_25 (by decide) (fun hc10 => ?_) (fun hc10 => ?_)
  · rw [if_neg hc10] at h
    refine v_iconst (v := 0) F dX11_set_56 (by decide) ?_
    cases h
    exact v_iret F hr rfl hlk dX11_set_57
  · rw [if_pos hc10] at h
    refine v_aload_n F dX11_set_28 rfl 0 rfl ?_
    refine v_iload_n F dX11_set_29 rfl 2 rfl ?_
    refine v_iload_n F dX11_set_30 rfl 1 rfl ?_
    obtain ⟨⟨r11, M12⟩, hz13, h⟩ := bd_some h
    dsimp only at h
    refine v_callSi (As := [.int i1]) (rest := [.int i2, .ref (gAd g a0)]) F (c_X11_lowest l F.2.2.1  hz13) (cwS 1 F.1.2.2.2.2 (gU_S ml_X11_204 st_yX11_lowest ini_X11 cd_X11_lowest) rfl rfl rfl (by decide +kernel) ⟨Nat.le_of_ble_eq_true rfl, Nat.le_of_ble_eq_true rfl⟩) rfl rfl (Nat.le_of_ble_eq_true rfl) dX11_set_31 ⟨Nat.le_of_ble_eq_true rfl, Nat.le_of_ble_eq_true rfl⟩ ?_
    refine v_iload_n F dX11_set_34 rfl 1 rfl ?_
    obtain ⟨⟨r15, M16⟩, hz17, h⟩ := bd_some h
    dsimp only at h
    refine v_callSi (As := [.int i1]) (rest := [.int r11, .int i2, .ref (gAd g a0)]) F (c_X11_highest l F.2.2.1  hz17) (cwS 1 F.1.2.2.2.2 (gU_S ml_X11_207 st_yX11_highest ini_X11 cd_X11_highest) rfl rfl rfl (by decide +kernel) ⟨Nat.le_of_ble_eq_true rfl, Nat.le_of_ble_eq_true rfl⟩) rfl rfl (Nat.le_of_ble_eq_true rfl) dX11_set_35 ⟨Nat.le_of_ble_eq_true rfl, Nat.le_of_ble_eq_true rfl⟩ ?_
    obtain ⟨⟨r19, M20⟩, hz21, h⟩ := bd_some h
    dsimp only at h
    refine v_callSi (As := [.int i2, .int r11, .int r15]) (rest := [.ref (gAd g a0)]) F (c_X11_in l F.2.2.1  hz21) (cwS 3 F.1.2.2.2.2 (gU_S ml_X11_172 st_yX11_in ini_X11 cd_X11_in) rfl rfl rfl (by decide +kernel) ⟨Nat.le_of_ble_eq_true rfl, Nat.le_of_ble_eq_true rfl⟩) rfl rfl (Nat.le_of_ble_eq_true rfl) dX11_set_38 ⟨Nat.le_of_ble_eq_true rfl, Nat.le_of_ble_eq_true rfl⟩ ?_
    refine v_if_ne (tgt := 48) F dX11_set_41 (by decide) (fun hc23 => ?_) (fun hc23 => ?_)
    · rw [if_neg hc23] at h
      refine v_iconst (v := 0) F dX11_set_48 (by decide) ?_
      exact w_X11_set_b49 F hr hlk t0 _ _ _ t0 h
    · rw [if_pos hc23] at h
      refine v_iconst (v := 1) F dX11_set_44 (by decide) ?_
      refine v_goto (tgt := 49) F dX11_set_45 (by decide) ?_
      exact w_X11_set_b49 F hr hlk t0 _ _ _ t0 h
set_option maxHeartbeats 4000000 in
set_option maxRecDepth 100000 in
theorem c_X11_set {g : gT} (l : Launch) (hok : gOK g)  {a0 : Nat} {i1 : Int32} {i2 : Int32} {M : Mem} {z : Int32 × Mem}  (t0 : Ty g 11 a0) (h : f_X11_set  M a0 i1 i2 = some z) : Cn g l yX11_set uX11_set 1 [.ref (gAd g a0), .int i1, .int i2] M (some (.int z.1)) z.2 := by
  refine Cn.of (cc := cX11_set) (maxL := 4) (ret := (some .int)) hok (by decide) rfl (Nat.le_of_ble_eq_true rfl) (fun p e s m args below meth c F hr hlk => ?_)
  unfold f_X11_set at h
  show V g p l e ({ frames := 1, cells := 0, slots := 0, locals := 40 * 1 } : Room) s m args below meth c 4 0 0 (MQ below (gQ g (some (.int z.1)) z.2) args s 0 0 (gA g)) 0 [(0, .ref (gAd g a0)), (1, .int i1), (2, .int i2)] [] M
  refine v_aload_n F dX11_set_0 rfl 0 rfl ?_
  refine v_iconst (v := 0) F dX11_set_1 (by decide) ?_
  refine v_put (k := 0) (ty := .int) F t0 (by decide) (inc inU_11) tyX11 tyX11_ok nmX11 rfl rfl (by decide) (List.mem_cons_of_mem _ fl_X11_83) rfl rfl (by decide +kernel) rfl rfl dX11_set_2 ?_
  refine v_aload_n F dX11_set_5 rfl 0 rfl ?_
  refine v_iload_n F dX11_set_6 rfl 1 rfl ?_
  refine v_iconst (v := 0) F dX11_set_7 (by decide) ?_
  refine v_bipush (v := 9) F dX11_set_8 (by decide) ?_
  obtain ⟨⟨r1, M2⟩, hz3, h⟩ := bd_some h
  dsimp only at h
  refine v_callSi (As := [.int i1, .int 0, .int 9]) (rest := [.ref (gAd g a0)]) F (c_X11_in l F.2.2.1  hz3) (cwS 3 F.1.2.2.2.2 (gU_S ml_X11_172 st_yX11_in ini_X11 cd_X11_in) rfl rfl rfl (by decide +kernel) ⟨Nat.le_of_ble_eq_true rfl, Nat.le_of_ble_eq_true rfl⟩) rfl rfl (Nat.le_of_ble_eq_true rfl) dX11_set_10 ⟨Nat.le_of_ble_eq_true rfl, Nat.le_of_ble_eq_true rfl⟩ ?_
  refine v_if_ne (tgt := 20) F dX11_set_13 (by decide) (fun hc5 => ?_) (fun hc5 => ?_)
  · rw [if_neg hc5] at h
    refine v_iconst (v := 0) F dX11_set_20 (by decide) ?_
    exact w_X11_set_b21 F hr hlk t0 _ _ _ t0 h
  · rw [if_pos hc5] at h
    refine v_iconst (v := 1) F dX11_set_16 (by decide) ?_
    refine v_goto (tgt := 21) F dX11_set_17 (by decide) ?_
    exact w_X11_set_b21 F hr hlk t0 _ _ _ t0 h
def f_X11_isPiece  (M : Mem) (a0 : Nat) (i1 : Int32) : Option (Int32 × Mem) := (f_X11_in M i1 0 ((M a0 19) - 1)).bind fun q => match q with | (r1, M2) => (if vp_nar .boolean r1 = r1 then (some (r1, M2)) else none)
set_option maxHeartbeats 4000000 in
set_option maxRecDepth 100000 in
theorem c_X11_isPiece {g : gT} (l : Launch) (hok : gOK g)  {a0 : Nat} {i1 : Int32} {M : Mem} {z : Int32 × Mem}  (t0 : Ty g 11 a0) (h : f_X11_isPiece  M a0 i1 = some z) : Cn g l yX11_isPiece uX11_isPiece 1 [.ref (gAd g a0), .int i1] M (some (.int z.1)) z.2 := by
  refine Cn.of (cc := cX11_isPiece) (maxL := 2) (ret := (some .boolean)) hok (by decide) rfl (Nat.le_of_ble_eq_true rfl) (fun p e s m args below meth c F hr hlk => ?_)
  unfold f_X11_isPiece at h
  show V g p l e ({ frames := 1, cells := 0, slots := 0, locals := 40 * 1 } : Room) s m args below meth c 2 0 0 (MQ below (gQ g (some (.int z.1)) z.2) args s 0 0 (gA g)) 0 [(0, .ref (gAd g a0)), (1, .int i1)] [] M
  refine v_iload_n F dX11_isPiece_0 rfl 1 rfl ?_
  refine v_iconst (v := 0) F dX11_isPiece_1 (by decide) ?_
  refine v_aload_n F dX11_isPiece_2 rfl 0 rfl ?_
  refine v_getI (k := 19) F t0 (by decide) (inc inU_11) rfl rfl (by decide) (List.mem_cons_of_mem _ fl_X11_37) rfl dX11_isPiece_3 ?_
  refine v_iconst (v := 1) F dX11_isPiece_6 (by decide) ?_
  refine v_isub F dX11_isPiece_7 ?_
  obtain ⟨⟨r1, M2⟩, hz3, h⟩ := bd_some h
  dsimp only at h
  refine v_callSi (As := [.int i1, .int 0, .int ((M a0 19) - 1)]) (rest := []) F (c_X11_in l F.2.2.1  hz3) (cwS 3 F.1.2.2.2.2 (gU_S ml_X11_172 st_yX11_in ini_X11 cd_X11_in) rfl rfl rfl (by decide +kernel) ⟨Nat.le_of_ble_eq_true rfl, Nat.le_of_ble_eq_true rfl⟩) rfl rfl (Nat.le_of_ble_eq_true rfl) dX11_isPiece_8 ⟨Nat.le_of_ble_eq_true rfl, Nat.le_of_ble_eq_true rfl⟩ ?_
  by_cases hb5 : vp_nar .boolean r1 = r1
  rotate_left
  · rw [if_neg hb5] at h; cases h
  rw [if_pos hb5] at h
  cases h
  exact v_iret F hr (nb_ok hb5) hlk dX11_isPiece_11
def f_X11_stay_b57 (a0 : Nat) (i1 : Int32) (i2 : Int32)  (s0 : Nat) (s1 : Int32) (s2 : Int32) (x3 : Int32) (M : Mem) : Option (Int32 × Mem) := if ¬ (s1 < 0 ∨ gN s0 ≤ s1.toNatClampNeg) then (some (x3, (mU M s0 s1.toNatClampNeg s2))) else none
def f_X11_stay_b43 (a0 : Nat) (i1 : Int32) (i2 : Int32)  (x3 : Int32) (M : Mem) : Option (Int32 × Mem) := if i2 = 0 then (f_X11_stay_b57 a0 i1 i2 (gRf a0 24) i1 0 x3 M) else (f_X11_stay_b57 a0 i1 i2 (gRf a0 24) i1 2 x3 M)
def f_X11_stay_b19 (a0 : Nat) (i1 : Int32) (i2 : Int32)  (s0 : Nat) (s1 : Int32) (M : Mem) : Option (Int32 × Mem) := (f_X11_bad M s0 s1 1).bind fun q => match q with | (r6, M7) => (if r6 = 0 then (if ¬ (i1 < 0 ∨ gN (gRf a0 24) ≤ i1.toNatClampNeg) then (if i2 = 0 then (f_X11_stay_b43 a0 i1 i2 (M7 (gRf a0 24) i1.toNatClampNeg) M7) else (if (M7 (gRf a0 24) i1.toNatClampNeg) = 0 then (f_X11_stay_b43 a0 i1 i2 (M7 (gRf a0 24) i1.toNatClampNeg) M7) else (some (M7 (gRf a0 24) i1.toNatClampNeg, M7)))) else none) else (some (0, M7)))
def f_X11_stay  (M : Mem) (a0 : Nat) (i1 : Int32) (i2 : Int32) : Option (Int32 × Mem) := (f_X11_isPiece (mU M a0 0 0) a0 i1).bind fun q => match q with | (r1, M2) => (if r1 = 0 then (f_X11_stay_b19 a0 i1 i2 a0 1 M2) else (f_X11_stay_b19 a0 i1 i2 a0 0 M2))
set_option maxHeartbeats 4000000 in
set_option maxRecDepth 100000 in
theorem w_X11_stay_b57 {g : gT} {p : Program} {l : Launch} {e : Env} {s : State} {m : MethodId} {args : Array Value} {below : List Frame} {meth : Method} {c : Code} {z : Int32 × Mem} (F : Fx g p s m args c cX11_stay 4 uX11_stay RX11) (hr : meth.sig.returnType = (some .int)) (hlk : meth.locks = false)  {a0 : Nat} {i1 : Int32} {i2 : Int32} (t0 : Ty g 11 a0)   (s0 : Nat) (s1 : Int32) (s2 : Int32) (x3 : Int32) (M : Mem) (ts0 : Ty g 12 s0) (h : f_X11_stay_b57 a0 i1 i2 s0 s1 s2 x3 M = some z) : V g p l e ({ frames := 2, cells := 0, slots := 0, locals := 40 * 2 } : Room) s m args below meth c 4 0 0 (MQ below (gQ g (some (.int z.1)) z.2) args s 0 0 (gA g)) 57 [(0, .ref (gAd g a0)), (1, .int i1), (2, .int i2), (3, .int x3)] [.int s2, .int s1, .ref (gAd g s0)] M := by
  unfold f_X11_stay_b57 at h
  obtain ⟨hin17, h⟩ := gd_some h
  refine v_iast F ts0 hin17 dX11_stay_57 ?_
  refine v_iload_n F dX11_stay_58 rfl 3 rfl ?_
  cases h
  exact v_iret F hr rfl hlk dX11_stay_59
set_option maxHeartbeats 4000000 in
set_option maxRecDepth 100000 in
theorem w_X11_stay_b43 {g : gT} {p : Program} {l : Launch} {e : Env} {s : State} {m : MethodId} {args : Array Value} {below : List Frame} {meth : Method} {c : Code} {z : Int32 × Mem} (F : Fx g p s m args c cX11_stay 4 uX11_stay RX11) (hr : meth.sig.returnType = (some .int)) (hlk : meth.locks = false)  {a0 : Nat} {i1 : Int32} {i2 : Int32} (t0 : Ty g 11 a0)   (x3 : Int32) (M : Mem)  (h : f_X11_stay_b43 a0 i1 i2 x3 M = some z) : V g p l e ({ frames := 2, cells := 0, slots := 0, locals := 40 * 2 } : Room) s m args below meth c 4 0 0 (MQ below (gQ g (some (.int z.1)) z.2) args s 0 0 (gA g)) 43 [(0, .ref (gAd g a0)), (1, .int i1), (2, .int i2), (3, .int x3)] [] M := by
  unfold f_X11_stay_b43 at h
  refine v_aload_n F dX11_stay_43 rfl 0 rfl ?_
  refine v_getR (k := 24) (f := 12) F t0 (by decide) (inc inU_11) rfl rfl (by decide) (by decide) (List.mem_cons_of_mem _ fl_X11_49) rfl dX11_stay_44 (fun u15 => ?_)
  refine v_iload_n F dX11_stay_47 rfl 1 rfl ?_
  refine v_iload_n F dX11_stay_48 rfl 2 rfl ?_
  refine v_if_eq (tgt := 56) F dX11_stay_49 (by decide) (fun hc16 => ?_) (fun hc16 => ?_)
  · rw [if_pos hc16] at h
    refine v_iconst (v := 0) F dX11_stay_56 (by decide) ?_
    exact w_X11_stay_b57 F hr hlk t0 _ _ _ _ _ u15 h
  · rw [if_neg hc16] at h
    refine v_iconst (v := 2) F dX11_stay_52 (by decide) ?_
    refine v_goto (tgt := 57) F dX11_stay_53 (by decide) ?_
    exact w_X11_stay_b57 F hr hlk t0 _ _ _ _ _ u15 h
set_option maxHeartbeats 4000000 in
set_option maxRecDepth 100000 in
theorem w_X11_stay_b19 {g : gT} {p : Program} {l : Launch} {e : Env} {s : State} {m : MethodId} {args : Array Value} {below : List Frame} {meth : Method} {c : Code} {z : Int32 × Mem} (F : Fx g p s m args c cX11_stay 4 uX11_stay RX11) (hr : meth.sig.returnType = (some .int)) (hlk : meth.locks = false)  {a0 : Nat} {i1 : Int32} {i2 : Int32} (t0 : Ty g 11 a0)   (s0 : Nat) (s1 : Int32) (M : Mem) (ts0 : Ty g 11 s0) (h : f_X11_stay_b19 a0 i1 i2 s0 s1 M = some z) : V g p l e ({ frames := 2, cells := 0, slots := 0, locals := 40 * 2 } : Room) s m args below meth c 4 0 0 (MQ below (gQ g (some (.int z.1)) z.2) args s 0 0 (gA g)) 19 [(0, .ref (gAd g a0)), (1, .int i1), (2, .int i2)] [.int s1, .ref (gAd g s0)] M := by
  unfold f_X11_stay_b19 at h
  refine v_iconst (v := 1) F dX11_stay_19 (by decide) ?_
  obtain ⟨⟨r6, M7⟩, hz8, h⟩ := bd_some h
  dsimp only at h
  refine v_callVi (As := [.int s1, .int 1]) (rest := []) F (c_X11_bad l F.2.2.1 ts0 hz8) (cwV 2 F.1.2.2.2.2 (gU_V ml_X11_176 im_yX11_bad se_yX11_bad ini_X11 cd_X11_bad) rfl rfl rfl (by decide +kernel) ⟨Nat.le_of_ble_eq_true rfl, Nat.le_of_ble_eq_true rfl⟩) ts0 (by decide) rfl rfl rfl (Nat.le_of_ble_eq_true rfl) dX11_stay_20 ⟨Nat.le_of_ble_eq_true rfl, Nat.le_of_ble_eq_true rfl⟩ ?_
  refine v_if_eq (tgt := 28) F dX11_stay_23 (by decide) (fun hc10 => ?_) (fun hc10 => ?_)
  · rw [if_pos hc10] at h
    refine v_aload_n F dX11_stay_28 rfl 0 rfl ?_
    refine v_getR (k := 24) (f := 12) F t0 (by decide) (inc inU_11) rfl rfl (by decide) (by decide) (List.mem_cons_of_mem _ fl_X11_49) rfl dX11_stay_29 (fun u11 => ?_)
    refine v_iload_n F dX11_stay_32 rfl 1 rfl ?_
    obtain ⟨hin12, h⟩ := gd_some h
    refine v_iald F u11 hin12 dX11_stay_33 ?_
    refine v_istore_n (lv' := [(3, .int (M7 (gRf a0 24) i1.toNatClampNeg)), (0, .ref (gAd g a0)), (1, .int i1), (2, .int i2)]) F dX11_stay_34 rfl (by decide) rfl ?_
    refine v_iload_n F dX11_stay_35 rfl 3 rfl ?_
    refine v_if_eq (tgt := 43) F dX11_stay_36 (by decide) (fun hc13 => ?_) (fun hc13 => ?_)
    · rw [if_pos hc13] at h
      refine v_sub (fun ls h9 => lv_sub h9 [1, 2, 3, 0] rfl) ?_
      exact w_X11_stay_b43 F hr hlk t0 _ _ h
    · rw [if_neg hc13] at h
      refine v_iload_n F dX11_stay_39 rfl 0 rfl ?_
      refine v_if_ne (tgt := 58) F dX11_stay_40 (by decide) (fun hc14 => ?_) (fun hc14 => ?_)
      · rw [if_neg hc14] at h
        refine v_iload_n F dX11_stay_58 rfl 0 rfl ?_
        cases h
        exact v_iret F hr rfl hlk dX11_stay_59
      · rw [if_pos hc14] at h
        refine v_sub (fun ls h9 => lv_sub h9 [1, 2, 3, 0] rfl) ?_
        exact w_X11_stay_b43 F hr hlk t0 _ _ h
  · rw [if_neg hc10] at h
    refine v_iconst (v := 0) F dX11_stay_26 (by decide) ?_
    cases h
    exact v_iret F hr rfl hlk dX11_stay_27
set_option maxHeartbeats 4000000 in
set_option maxRecDepth 100000 in
theorem c_X11_stay {g : gT} (l : Launch) (hok : gOK g)  {a0 : Nat} {i1 : Int32} {i2 : Int32} {M : Mem} {z : Int32 × Mem}  (t0 : Ty g 11 a0) (h : f_X11_stay  M a0 i1 i2 = some z) : Cn g l yX11_stay uX11_stay 2 [.ref (gAd g a0), .int i1, .int i2] M (some (.int z.1)) z.2 := by
  refine Cn.of (cc := cX11_stay) (maxL := 4) (ret := (some .int)) hok (by decide) rfl (Nat.le_of_ble_eq_true rfl) (fun p e s m args below meth c F hr hlk => ?_)
  unfold f_X11_stay at h
  show V g p l e ({ frames := 2, cells := 0, slots := 0, locals := 40 * 2 } : Room) s m args below meth c 4 0 0 (MQ below (gQ g (some (.int z.1)) z.2) args s 0 0 (gA g)) 0 [(0, .ref (gAd g a0)), (1, .int i1), (2, .int i2)] [] M
  refine v_aload_n F dX11_stay_0 rfl 0 rfl ?_
  refine v_iconst (v := 0) F dX11_stay_1 (by decide) ?_
  refine v_put (k := 0) (ty := .int) F t0 (by decide) (inc inU_11) tyX11 tyX11_ok nmX11 rfl rfl (by decide) (List.mem_cons_of_mem _ fl_X11_83) rfl rfl (by decide +kernel) rfl rfl dX11_stay_2 ?_
  refine v_aload_n F dX11_stay_5 rfl 0 rfl ?_
  refine v_aload_n F dX11_stay_6 rfl 0 rfl ?_
  refine v_iload_n F dX11_stay_7 rfl 1 rfl ?_
  obtain ⟨⟨r1, M2⟩, hz3, h⟩ := bd_some h
  dsimp only at h
  refine v_callVi (As := [.int i1]) (rest := [.ref (gAd g a0)]) F (c_X11_isPiece l F.2.2.1 t0 hz3) (cwV 1 F.1.2.2.2.2 (gU_V ml_X11_210 im_yX11_isPiece se_yX11_isPiece ini_X11 cd_X11_isPiece) rfl rfl rfl (by decide +kernel) ⟨Nat.le_of_ble_eq_true rfl, Nat.le_of_ble_eq_true rfl⟩) t0 (by decide) rfl rfl rfl (Nat.le_of_ble_eq_true rfl) dX11_stay_8 ⟨Nat.le_of_ble_eq_true rfl, Nat.le_of_ble_eq_true rfl⟩ ?_
  refine v_if_ne (tgt := 18) F dX11_stay_11 (by decide) (fun hc5 => ?_) (fun hc5 => ?_)
  · rw [if_neg hc5] at h
    refine v_iconst (v := 0) F dX11_stay_18 (by decide) ?_
    exact w_X11_stay_b19 F hr hlk t0 _ _ _ t0 h
  · rw [if_pos hc5] at h
    refine v_iconst (v := 1) F dX11_stay_14 (by decide) ?_
    refine v_goto (tgt := 19) F dX11_stay_15 (by decide) ?_
    exact w_X11_stay_b19 F hr hlk t0 _ _ _ t0 h
def f_X11_isShape  (M : Mem) (i0 : Int32) (i1 : Int32) : Option (Int32 × Mem) := (f_X11_in M i0 0 1).bind fun q => match q with | (r1, M2) => (if r1 = 0 then (some (0, M2)) else ((f_X11_in M2 i1 1 4).bind fun q => match q with | (r6, M7) => (if r6 = 0 then (some (0, M7)) else (some (1, M7)))))
set_option maxHeartbeats 4000000 in
set_option maxRecDepth 100000 in
theorem c_X11_isShape {g : gT} (l : Launch) (hok : gOK g)  {i0 : Int32} {i1 : Int32} {M : Mem} {z : Int32 × Mem}   (h : f_X11_isShape  M i0 i1 = some z) : Cn g l yX11_isShape uX11_isShape 1 [.int i0, .int i1] M (some (.int z.1)) z.2 := by
  refine Cn.of (cc := cX11_isShape) (maxL := 2) (ret := (some .boolean)) hok (by decide) rfl (Nat.le_of_ble_eq_true rfl) (fun p e s m args below meth c F hr hlk => ?_)
  unfold f_X11_isShape at h
  show V g p l e ({ frames := 1, cells := 0, slots := 0, locals := 40 * 1 } : Room) s m args below meth c 2 0 0 (MQ below (gQ g (some (.int z.1)) z.2) args s 0 0 (gA g)) 0 [(0, .int i0), (1, .int i1)] [] M
  refine v_iload_n F dX11_isShape_0 rfl 0 rfl ?_
  refine v_iconst (v := 0) F dX11_isShape_1 (by decide) ?_
  refine v_iconst (v := 1) F dX11_isShape_2 (by decide) ?_
  obtain ⟨⟨r1, M2⟩, hz3, h⟩ := bd_some h
  dsimp only at h
  refine v_callSi (As := [.int i0, .int 0, .int 1]) (rest := []) F (c_X11_in l F.2.2.1  hz3) (cwS 3 F.1.2.2.2.2 (gU_S ml_X11_172 st_yX11_in ini_X11 cd_X11_in) rfl rfl rfl (by decide +kernel) ⟨Nat.le_of_ble_eq_true rfl, Nat.le_of_ble_eq_true rfl⟩) rfl rfl (Nat.le_of_ble_eq_true rfl) dX11_isShape_3 ⟨Nat.le_of_ble_eq_true rfl, Nat.le_of_ble_eq_true rfl⟩ ?_
  refine v_if_eq (tgt := 22) F dX11_isShape_6 (by decide) (fun hc5 => ?_) (fun hc5 => ?_)
  · rw [if_pos hc5] at h
    refine v_iconst (v := 0) F dX11_isShape_22 (by decide) ?_
    cases h
    exact v_iret F hr narrow_b0 hlk dX11_isShape_23
  · rw [if_neg hc5] at h
    refine v_iload_n F dX11_isShape_9 rfl 1 rfl ?_
    refine v_iconst (v := 1) F dX11_isShape_10 (by decide) ?_
    refine v_iconst (v := 4) F dX11_isShape_11 (by decide) ?_
    obtain ⟨⟨r6, M7⟩, hz8, h⟩ := bd_some h
    dsimp only at h
    refine v_callSi (As := [.int i1, .int 1, .int 4]) (rest := []) F (c_X11_in l F.2.2.1  hz8) (cwS 3 F.1.2.2.2.2 (gU_S ml_X11_172 st_yX11_in ini_X11 cd_X11_in) rfl rfl rfl (by decide +kernel) ⟨Nat.le_of_ble_eq_true rfl, Nat.le_of_ble_eq_true rfl⟩) rfl rfl (Nat.le_of_ble_eq_true rfl) dX11_isShape_12 ⟨Nat.le_of_ble_eq_true rfl, Nat.le_of_ble_eq_true rfl⟩ ?_
    refine v_if_eq (tgt := 22) F dX11_isShape_15 (by decide) (fun hc10 => ?_) (fun hc10 => ?_)
    · rw [if_pos hc10] at h
      refine v_iconst (v := 0) F dX11_isShape_22 (by decide) ?_
      cases h
      exact v_iret F hr narrow_b0 hlk dX11_isShape_23
    · rw [if_neg hc10] at h
      refine v_iconst (v := 1) F dX11_isShape_18 (by decide) ?_
      refine v_goto (tgt := 23) F dX11_isShape_19 (by decide) ?_
      cases h
      exact v_iret F hr narrow_b1 hlk dX11_isShape_23
def f_X11_shapes_b66 (a0 : Nat) (i1 : Int32) (i2 : Int32) (i3 : Int32) (k3 : Int32 → Mem → Option (Int32 × Mem)) (s0 : Nat) (s1 : Int32) (s2 : Int32) (x4 : Int32) (M : Mem) : Option (Int32 × Mem) := if ¬ (s1 < 0 ∨ gN s0 ≤ s1.toNatClampNeg) then (k3 (x4 + 1) (mU M s0 s1.toNatClampNeg s2)) else none
def f_X11_shapes_h15 (a0 : Nat) (i1 : Int32) (i2 : Int32) (i3 : Int32) (k3 : Int32 → Mem → Option (Int32 × Mem)) : Nat → Int32 → Int32 → Mem → Option (Int32 × Mem)
  | 0, _, _, _ => none
  | n + 1, x4, x5, M => if 4 ≤ x5 then (if ¬ (i1 < 0 ∨ gN (gRf a0 22) ≤ i1.toNatClampNeg) then (if (M a0 19) = 0 then none else if (((x4 * i2) / (M a0 19)) - ((x4 * i2) / (M a0 19)) / 2 * 2) = 0 then (f_X11_shapes_b66 a0 i1 i2 i3 k3 (gRf (gRf a0 22) i1.toNatClampNeg) x4 i3 x4 M) else (f_X11_shapes_b66 a0 i1 i2 i3 k3 (gRf (gRf a0 22) i1.toNatClampNeg) x4 (-i3) x4 M)) else none) else (if ¬ (x5 < 0 ∨ gN (gRf a0 22) ≤ x5.toNatClampNeg) then (if ¬ (x4 < 0 ∨ gN (gRf (gRf a0 22) x5.toNatClampNeg) ≤ x4.toNatClampNeg) then ((f_X11_shapes_h15 a0 i1 i2 i3 k3 n) x4 (x5 + 1) (mU M (gRf (gRf a0 22) x5.toNatClampNeg) x4.toNatClampNeg 0)) else none) else none)
def f_X11_shapes_h3 (a0 : Nat) (i1 : Int32) (i2 : Int32) (i3 : Int32)  : Nat → Int32 → Mem → Option (Int32 × Mem)
  | 0, _, _ => none
  | n + 1, x4, M => if (M a0 19) ≤ x4 then (some (0, M)) else (f_X11_shapes_h15 a0 i1 i2 i3 (f_X11_shapes_h3 a0 i1 i2 i3 n) FU x4 0 M)
def f_X11_shapes  (M : Mem) (a0 : Nat) (i1 : Int32) (i2 : Int32) (i3 : Int32) : Option (Int32 × Mem) := f_X11_shapes_h3 a0 i1 i2 i3 FU 0 M
set_option maxHeartbeats 4000000 in
set_option maxRecDepth 100000 in
theorem w_X11_shapes_b66 {g : gT} {p : Program} {l : Launch} {e : Env} {s : State} {m : MethodId} {args : Array Value} {below : List Frame} {meth : Method} {c : Code} {z : Int32 × Mem} (F : Fx g p s m args c cX11_shapes 6 uX11_shapes RX11) (hr : meth.sig.returnType = none) (hlk : meth.locks = false)  {a0 : Nat} {i1 : Int32} {i2 : Int32} {i3 : Int32} (t0 : Ty g 11 a0) {k3 : Int32 → Mem → Option (Int32 × Mem)} (hk3 : ∀ (x4 : Int32) (M : Mem), k3 x4 M = some z → V g p l e ({ frames := 0, cells := 0, slots := 0, locals := 40 * 0 } : Room) s m args below meth c 6 0 0 (MQ below (gQ g none z.2) args s 0 0 (gA g)) 3 [(0, .ref (gAd g a0)), (1, .int i1), (2, .int i2), (3, .int i3), (4, .int x4)] [] M) (s0 : Nat) (s1 : Int32) (s2 : Int32) (x4 : Int32) (M : Mem) (ts0 : Ty g 12 s0) (h : f_X11_shapes_b66 a0 i1 i2 i3 k3 s0 s1 s2 x4 M = some z) : V g p l e ({ frames := 0, cells := 0, slots := 0, locals := 40 * 0 } : Room) s m args below meth c 6 0 0 (MQ below (gQ g none z.2) args s 0 0 (gA g)) 66 [(0, .ref (gAd g a0)), (1, .int i1), (2, .int i2), (3, .int i3), (4, .int x4)] [.int s2, .int s1, .ref (gAd g s0)] M := by
  unfold f_X11_shapes_b66 at h
  obtain ⟨hin12, h⟩ := gd_some h
  refine v_iast F ts0 hin12 dX11_shapes_66 ?_
  refine v_iinc (v := x4 + 1) (lv' := [(4, .int (x4 + 1)), (0, .ref (gAd g a0)), (1, .int i1), (2, .int i2), (3, .int i3)]) F dX11_shapes_67 (q := 4) rfl rfl (by decide) rfl ?_
  refine v_goto (tgt := 3) F dX11_shapes_70 (by decide) ?_
  refine v_sub (fun ls h9 => lv_sub h9 [1, 2, 3, 4, 0] rfl) ?_
  exact hk3 _ _ h
set_option maxHeartbeats 4000000 in
set_option maxRecDepth 100000 in
theorem w_X11_shapes_h15 {g : gT} {p : Program} {l : Launch} {e : Env} {s : State} {m : MethodId} {args : Array Value} {below : List Frame} {meth : Method} {c : Code} {z : Int32 × Mem} (F : Fx g p s m args c cX11_shapes 6 uX11_shapes RX11) (hr : meth.sig.returnType = none) (hlk : meth.locks = false)  {a0 : Nat} {i1 : Int32} {i2 : Int32} {i3 : Int32} (t0 : Ty g 11 a0) {k3 : Int32 → Mem → Option (Int32 × Mem)} (hk3 : ∀ (x4 : Int32) (M : Mem), k3 x4 M = some z → V g p l e ({ frames := 0, cells := 0, slots := 0, locals := 40 * 0 } : Room) s m args below meth c 6 0 0 (MQ below (gQ g none z.2) args s 0 0 (gA g)) 3 [(0, .ref (gAd g a0)), (1, .int i1), (2, .int i2), (3, .int i3), (4, .int x4)] [] M) : ∀ (n : Nat) (x4 : Int32) (x5 : Int32) (M : Mem), f_X11_shapes_h15 a0 i1 i2 i3 k3 n x4 x5 M = some z → V g p l e ({ frames := 0, cells := 0, slots := 0, locals := 40 * 0 } : Room) s m args below meth c 6 0 0 (MQ below (gQ g none z.2) args s 0 0 (gA g)) 15 [(0, .ref (gAd g a0)), (1, .int i1), (2, .int i2), (3, .int i3), (4, .int x4), (5, .int x5)] [] M := by
  intro n
  induction n with
  | zero => intro x4 x5 M; intros; rename_i h; cases h
  | succ n ih =>
    intro x4 x5 M h
    rw [f_X11_shapes_h15] at h
    refine v_iload F dX11_shapes_15 5 rfl ?_
    refine v_iconst (v := 4) F dX11_shapes_17 (by decide) ?_
    refine v_icmp_ge (tgt := 38) F dX11_shapes_18 (by decide) (fun hc2 => ?_) (fun hc2 => ?_)
    · rw [if_pos hc2] at h
      refine v_aload_n F dX11_shapes_38 rfl 0 rfl ?_
      refine v_getR (k := 22) (f := 16) F t0 (by decide) (inc inU_11) rfl rfl (by decide) (by decide) (List.mem_cons_of_mem _ fl_X11_43) rfl dX11_shapes_39 (fun u3 => ?_)
      refine v_iload_n F dX11_shapes_42 rfl 1 rfl ?_
      obtain ⟨hin4, h⟩ := gd_some h
      refine v_aald (ke := 12) (t0 := 4) F u3 (by decide) rfl rfl hin4 dX11_shapes_43 (fun u5 => ?_)
      refine v_iload F dX11_shapes_44 4 rfl ?_
      refine v_iload F dX11_shapes_46 4 rfl ?_
      refine v_iload_n F dX11_shapes_48 rfl 2 rfl ?_
      refine v_imul F dX11_shapes_49 ?_
      refine v_aload_n F dX11_shapes_50 rfl 0 rfl ?_
      refine v_getI (k := 19) F t0 (by decide) (inc inU_11) rfl rfl (by decide) (List.mem_cons_of_mem _ fl_X11_37) rfl dX11_shapes_51 ?_
      by_cases hz6 : (M a0 19) = 0
      · rw [if_pos hz6] at h; cases h
      rw [if_neg hz6] at h
      refine v_idiv F dX11_shapes_54 hz6 ?_
      refine v_iconst (v := 2) F dX11_shapes_55 (by decide) ?_
      refine v_irem F dX11_shapes_56 (by decide) ?_
      refine v_if_ne (tgt := 64) F dX11_shapes_57 (by decide) (fun hc7 => ?_) (fun hc7 => ?_)
      · rw [if_neg hc7] at h
        refine v_iload_n F dX11_shapes_64 rfl 3 rfl ?_
        refine v_ineg F dX11_shapes_65 ?_
        refine v_sub (fun ls h9 => lv_sub h9 [0, 1, 2, 3, 4] rfl) ?_
        exact w_X11_shapes_b66 F hr hlk t0 hk3 _ _ _ _ _ u5 h
      · rw [if_pos hc7] at h
        refine v_iload_n F dX11_shapes_60 rfl 3 rfl ?_
        refine v_goto (tgt := 66) F dX11_shapes_61 (by decide) ?_
        refine v_sub (fun ls h9 => lv_sub h9 [0, 1, 2, 3, 4] rfl) ?_
        exact w_X11_shapes_b66 F hr hlk t0 hk3 _ _ _ _ _ u5 h
    · rw [if_neg hc2] at h
      refine v_aload_n F dX11_shapes_21 rfl 0 rfl ?_
      refine v_getR (k := 22) (f := 16) F t0 (by decide) (inc inU_11) rfl rfl (by decide) (by decide) (List.mem_cons_of_mem _ fl_X11_43) rfl dX11_shapes_22 (fun u8 => ?_)
      refine v_iload F dX11_shapes_25 5 rfl ?_
      obtain ⟨hin9, h⟩ := gd_some h
      refine v_aald (ke := 12) (t0 := 4) F u8 (by decide) rfl rfl hin9 dX11_shapes_27 (fun u10 => ?_)
      refine v_iload F dX11_shapes_28 4 rfl ?_
      refine v_iconst (v := 0) F dX11_shapes_30 (by decide) ?_
      obtain ⟨hin11, h⟩ := gd_some h
      refine v_iast F u10 hin11 dX11_shapes_31 ?_
      refine v_iinc (v := x5 + 1) (lv' := [(5, .int (x5 + 1)), (0, .ref (gAd g a0)), (1, .int i1), (2, .int i2), (3, .int i3), (4, .int x4)]) F dX11_shapes_32 (q := 5) rfl rfl (by decide) rfl ?_
      refine v_goto (tgt := 15) F dX11_shapes_35 (by decide) ?_
      refine v_sub (fun ls h9 => lv_sub h9 [1, 2, 3, 4, 5, 0] rfl) ?_
      exact ih _ _ _ h
set_option maxHeartbeats 4000000 in
set_option maxRecDepth 100000 in
theorem w_X11_shapes_h3 {g : gT} {p : Program} {l : Launch} {e : Env} {s : State} {m : MethodId} {args : Array Value} {below : List Frame} {meth : Method} {c : Code} {z : Int32 × Mem} (F : Fx g p s m args c cX11_shapes 6 uX11_shapes RX11) (hr : meth.sig.returnType = none) (hlk : meth.locks = false)  {a0 : Nat} {i1 : Int32} {i2 : Int32} {i3 : Int32} (t0 : Ty g 11 a0)   : ∀ (n : Nat) (x4 : Int32) (M : Mem), f_X11_shapes_h3 a0 i1 i2 i3 n x4 M = some z → V g p l e ({ frames := 0, cells := 0, slots := 0, locals := 40 * 0 } : Room) s m args below meth c 6 0 0 (MQ below (gQ g none z.2) args s 0 0 (gA g)) 3 [(0, .ref (gAd g a0)), (1, .int i1), (2, .int i2), (3, .int i3), (4, .int x4)] [] M := by
  intro n
  induction n with
  | zero => intro x4 M; intros; rename_i h; cases h
  | succ n ih =>
    intro x4 M h
    rw [f_X11_shapes_h3] at h
    refine v_iload F dX11_shapes_3 4 rfl ?_
    refine v_aload_n F dX11_shapes_5 rfl 0 rfl ?_
    refine v_getI (k := 19) F t0 (by decide) (inc inU_11) rfl rfl (by decide) (List.mem_cons_of_mem _ fl_X11_37) rfl dX11_shapes_6 ?_
    refine v_icmp_ge (tgt := 73) F dX11_shapes_9 (by decide) (fun hc1 => ?_) (fun hc1 => ?_)
    · rw [if_pos hc1] at h
      cases h
      exact v_vret F hr hlk dX11_shapes_73
    · rw [if_neg hc1] at h
      refine v_iconst (v := 0) F dX11_shapes_12 (by decide) ?_
      refine v_istore (lv' := [(5, .int 0), (0, .ref (gAd g a0)), (1, .int i1), (2, .int i2), (3, .int i3), (4, .int x4)]) F dX11_shapes_13 (by decide) rfl ?_
      refine v_sub (fun ls h9 => lv_sub h9 [1, 2, 3, 4, 5, 0] rfl) ?_
      exact w_X11_shapes_h15 F hr hlk t0 ih _ _ _ _ h
set_option maxHeartbeats 4000000 in
set_option maxRecDepth 100000 in
theorem c_X11_shapes {g : gT} (l : Launch) (hok : gOK g)  {a0 : Nat} {i1 : Int32} {i2 : Int32} {i3 : Int32} {M : Mem} {z : Int32 × Mem}  (t0 : Ty g 11 a0) (h : f_X11_shapes  M a0 i1 i2 i3 = some z) : Cn g l yX11_shapes uX11_shapes 0 [.ref (gAd g a0), .int i1, .int i2, .int i3] M none z.2 := by
  refine Cn.of (cc := cX11_shapes) (maxL := 6) (ret := none) hok (by decide) rfl (Nat.le_of_ble_eq_true rfl) (fun p e s m args below meth c F hr hlk => ?_)
  unfold f_X11_shapes at h
  show V g p l e ({ frames := 0, cells := 0, slots := 0, locals := 40 * 0 } : Room) s m args below meth c 6 0 0 (MQ below (gQ g none z.2) args s 0 0 (gA g)) 0 [(0, .ref (gAd g a0)), (1, .int i1), (2, .int i2), (3, .int i3)] [] M
  refine v_iconst (v := 0) F dX11_shapes_0 (by decide) ?_
  refine v_istore (lv' := [(4, .int 0), (0, .ref (gAd g a0)), (1, .int i1), (2, .int i2), (3, .int i3)]) F dX11_shapes_1 (by decide) rfl ?_
  refine v_sub (fun ls h9 => lv_sub h9 [1, 2, 3, 4, 0] rfl) ?_
  exact w_X11_shapes_h3 F hr hlk t0 _ _ _ h
def f_X11_sizeOf_b42 (a0 : Nat) (i1 : Int32) (k4 : Int32 → Int32 → Mem → Option (Int32 × Mem)) (s0 : Int32) (x3 : Int32) (M : Mem) : Option (Int32 × Mem) := k4 s0 (x3 + 1) M
def f_X11_sizeOf_h4 (a0 : Nat) (i1 : Int32)  : Nat → Int32 → Int32 → Mem → Option (Int32 × Mem)
  | 0, _, _, _ => none
  | n + 1, x2, x3, M => if (M a0 19) ≤ x3 then (some (x2, M)) else (if ¬ (i1 < 0 ∨ gN (gRf a0 22) ≤ i1.toNatClampNeg) then (if ¬ (x3 < 0 ∨ gN (gRf (gRf a0 22) i1.toNatClampNeg) ≤ x3.toNatClampNeg) then ((f_X11_amount M (M (gRf (gRf a0 22) i1.toNatClampNeg) x3.toNatClampNeg)).bind fun q => match q with | (r6, M7) => (if r6 ≤ x2 then (f_X11_sizeOf_b42 a0 i1 (f_X11_sizeOf_h4 a0 i1 n) x2 x3 M7) else (if ¬ (i1 < 0 ∨ gN (gRf a0 22) ≤ i1.toNatClampNeg) then (if ¬ (x3 < 0 ∨ gN (gRf (gRf a0 22) i1.toNatClampNeg) ≤ x3.toNatClampNeg) then ((f_X11_amount M7 (M7 (gRf (gRf a0 22) i1.toNatClampNeg) x3.toNatClampNeg)).bind fun q => match q with | (r15, M16) => (f_X11_sizeOf_b42 a0 i1 (f_X11_sizeOf_h4 a0 i1 n) r15 x3 M16)) else none) else none))) else none) else none)
def f_X11_sizeOf  (M : Mem) (a0 : Nat) (i1 : Int32) : Option (Int32 × Mem) := f_X11_sizeOf_h4 a0 i1 FU 0 0 M
set_option maxHeartbeats 4000000 in
set_option maxRecDepth 100000 in
theorem w_X11_sizeOf_b42 {g : gT} {p : Program} {l : Launch} {e : Env} {s : State} {m : MethodId} {args : Array Value} {below : List Frame} {meth : Method} {c : Code} {z : Int32 × Mem} (F : Fx g p s m args c cX11_sizeOf 4 uX11_sizeOf RX11) (hr : meth.sig.returnType = (some .int)) (hlk : meth.locks = false)  {a0 : Nat} {i1 : Int32} (t0 : Ty g 11 a0) {k4 : Int32 → Int32 → Mem → Option (Int32 × Mem)} (hk4 : ∀ (x2 : Int32) (x3 : Int32) (M : Mem), k4 x2 x3 M = some z → V g p l e ({ frames := 1, cells := 0, slots := 0, locals := 40 * 1 } : Room) s m args below meth c 4 0 0 (MQ below (gQ g (some (.int z.1)) z.2) args s 0 0 (gA g)) 4 [(0, .ref (gAd g a0)), (1, .int i1), (2, .int x2), (3, .int x3)] [] M) (s0 : Int32) (x3 : Int32) (M : Mem)  (h : f_X11_sizeOf_b42 a0 i1 k4 s0 x3 M = some z) : V g p l e ({ frames := 1, cells := 0, slots := 0, locals := 40 * 1 } : Room) s m args below meth c 4 0 0 (MQ below (gQ g (some (.int z.1)) z.2) args s 0 0 (gA g)) 42 [(0, .ref (gAd g a0)), (1, .int i1), (3, .int x3)] [.int s0] M := by
  unfold f_X11_sizeOf_b42 at h
  refine v_istore_n (lv' := [(2, .int s0), (0, .ref (gAd g a0)), (1, .int i1), (3, .int x3)]) F dX11_sizeOf_42 rfl (by decide) rfl ?_
  refine v_iinc (v := x3 + 1) (lv' := [(3, .int (x3 + 1)), (2, .int s0), (0, .ref (gAd g a0)), (1, .int i1)]) F dX11_sizeOf_43 (q := 3) rfl rfl (by decide) rfl ?_
  refine v_goto (tgt := 4) F dX11_sizeOf_46 (by decide) ?_
  refine v_sub (fun ls h9 => lv_sub h9 [2, 3, 1, 0] rfl) ?_
  exact hk4 _ _ _ h
set_option maxHeartbeats 4000000 in
set_option maxRecDepth 100000 in
theorem w_X11_sizeOf_h4 {g : gT} {p : Program} {l : Launch} {e : Env} {s : State} {m : MethodId} {args : Array Value} {below : List Frame} {meth : Method} {c : Code} {z : Int32 × Mem} (F : Fx g p s m args c cX11_sizeOf 4 uX11_sizeOf RX11) (hr : meth.sig.returnType = (some .int)) (hlk : meth.locks = false)  {a0 : Nat} {i1 : Int32} (t0 : Ty g 11 a0)   : ∀ (n : Nat) (x2 : Int32) (x3 : Int32) (M : Mem), f_X11_sizeOf_h4 a0 i1 n x2 x3 M = some z → V g p l e ({ frames := 1, cells := 0, slots := 0, locals := 40 * 1 } : Room) s m args below meth c 4 0 0 (MQ below (gQ g (some (.int z.1)) z.2) args s 0 0 (gA g)) 4 [(0, .ref (gAd g a0)), (1, .int i1), (2, .int x2), (3, .int x3)] [] M := by
  intro n
  induction n with
  | zero => intro x2 x3 M; intros; rename_i h; cases h
  | succ n ih =>
    intro x2 x3 M h
    rw [f_X11_sizeOf_h4] at h
    refine v_iload_n F dX11_sizeOf_4 rfl 3 rfl ?_
    refine v_aload_n F dX11_sizeOf_5 rfl 0 rfl ?_
    refine v_getI (k := 19) F t0 (by decide) (inc inU_11) rfl rfl (by decide) (List.mem_cons_of_mem _ fl_X11_37) rfl dX11_sizeOf_6 ?_
    refine v_icmp_ge (tgt := 49) F dX11_sizeOf_9 (by decide) (fun hc1 => ?_) (fun hc1 => ?_)
    · rw [if_pos hc1] at h
      refine v_iload_n F dX11_sizeOf_49 rfl 2 rfl ?_
      cases h
      exact v_iret F hr rfl hlk dX11_sizeOf_50
    · rw [if_neg hc1] at h
      refine v_aload_n F dX11_sizeOf_12 rfl 0 rfl ?_
      refine v_getR (k := 22) (f := 16) F t0 (by decide) (inc inU_11) rfl rfl (by decide) (by decide) (List.mem_cons_of_mem _ fl_X11_43) rfl dX11_sizeOf_13 (fun u2 => ?_)
      refine v_iload_n F dX11_sizeOf_16 rfl 1 rfl ?_
      obtain ⟨hin3, h⟩ := gd_some h
      refine v_aald (ke := 12) (t0 := 4) F u2 (by decide) rfl rfl hin3 dX11_sizeOf_17 (fun u4 => ?_)
      refine v_iload_n F dX11_sizeOf_18 rfl 3 rfl ?_
      obtain ⟨hin5, h⟩ := gd_some h
      refine v_iald F u4 hin5 dX11_sizeOf_19 ?_
      obtain ⟨⟨r6, M7⟩, hz8, h⟩ := bd_some h
      dsimp only at h
      refine v_callSi (As := [.int (M (gRf (gRf a0 22) i1.toNatClampNeg) x3.toNatClampNeg)]) (rest := []) F (c_X11_amount l F.2.2.1  hz8) (cwS 1 F.1.2.2.2.2 (gU_S ml_X11_224 st_yX11_amount ini_X11 cd_X11_amount) rfl rfl rfl (by decide +kernel) ⟨Nat.le_of_ble_eq_true rfl, Nat.le_of_ble_eq_true rfl⟩) rfl rfl (Nat.le_of_ble_eq_true rfl) dX11_sizeOf_20 ⟨Nat.le_of_ble_eq_true rfl, Nat.le_of_ble_eq_true rfl⟩ ?_
      refine v_iload_n F dX11_sizeOf_23 rfl 2 rfl ?_
      refine v_icmp_le (tgt := 41) F dX11_sizeOf_24 (by decide) (fun hc10 => ?_) (fun hc10 => ?_)
      · rw [if_pos hc10] at h
        refine v_iload_n F dX11_sizeOf_41 rfl 2 rfl ?_
        refine v_sub (fun ls h9 => lv_sub h9 [0, 1, 3] rfl) ?_
        exact w_X11_sizeOf_b42 F hr hlk t0 ih _ _ _ h
      · rw [if_neg hc10] at h
        refine v_aload_n F dX11_sizeOf_27 rfl 0 rfl ?_
        refine v_getR (k := 22) (f := 16) F t0 (by decide) (inc inU_11) rfl rfl (by decide) (by decide) (List.mem_cons_of_mem _ fl_X11_43) rfl dX11_sizeOf_28 (fun u11 => ?_)
        refine v_iload_n F dX11_sizeOf_31 rfl 1 rfl ?_
        obtain ⟨hin12, h⟩ := gd_some h
        refine v_aald (ke := 12) (t0 := 4) F u11 (by decide) rfl rfl hin12 dX11_sizeOf_32 (fun u13 => ?_)
        refine v_iload_n F dX11_sizeOf_33 rfl 3 rfl ?_
        obtain ⟨hin14, h⟩ := gd_some h
        refine v_iald F u13 hin14 dX11_sizeOf_34 ?_
        obtain ⟨⟨r15, M16⟩, hz17, h⟩ := bd_some h
        dsimp only at h
        refine v_callSi (As := [.int (M7 (gRf (gRf a0 22) i1.toNatClampNeg) x3.toNatClampNeg)]) (rest := []) F (c_X11_amount l F.2.2.1  hz17) (cwS 1 F.1.2.2.2.2 (gU_S ml_X11_224 st_yX11_amount ini_X11 cd_X11_amount) rfl rfl rfl (by decide +kernel) ⟨Nat.le_of_ble_eq_true rfl, Nat.le_of_ble_eq_true rfl⟩) rfl rfl (Nat.le_of_ble_eq_true rfl) dX11_sizeOf_35 ⟨Nat.le_of_ble_eq_true rfl, Nat.le_of_ble_eq_true rfl⟩ ?_
        refine v_goto (tgt := 42) F dX11_sizeOf_38 (by decide) ?_
        refine v_sub (fun ls h9 => lv_sub h9 [0, 1, 3] rfl) ?_
        exact w_X11_sizeOf_b42 F hr hlk t0 ih _ _ _ h
set_option maxHeartbeats 4000000 in
set_option maxRecDepth 100000 in
theorem c_X11_sizeOf {g : gT} (l : Launch) (hok : gOK g)  {a0 : Nat} {i1 : Int32} {M : Mem} {z : Int32 × Mem}  (t0 : Ty g 11 a0) (h : f_X11_sizeOf  M a0 i1 = some z) : Cn g l yX11_sizeOf uX11_sizeOf 1 [.ref (gAd g a0), .int i1] M (some (.int z.1)) z.2 := by
  refine Cn.of (cc := cX11_sizeOf) (maxL := 4) (ret := (some .int)) hok (by decide) rfl (Nat.le_of_ble_eq_true rfl) (fun p e s m args below meth c F hr hlk => ?_)
  unfold f_X11_sizeOf at h
  show V g p l e ({ frames := 1, cells := 0, slots := 0, locals := 40 * 1 } : Room) s m args below meth c 4 0 0 (MQ below (gQ g (some (.int z.1)) z.2) args s 0 0 (gA g)) 0 [(0, .ref (gAd g a0)), (1, .int i1)] [] M
  refine v_iconst (v := 0) F dX11_sizeOf_0 (by decide) ?_
  refine v_istore_n (lv' := [(2, .int 0), (0, .ref (gAd g a0)), (1, .int i1)]) F dX11_sizeOf_1 rfl (by decide) rfl ?_
  refine v_iconst (v := 0) F dX11_sizeOf_2 (by decide) ?_
  refine v_istore_n (lv' := [(3, .int 0), (2, .int 0), (0, .ref (gAd g a0)), (1, .int i1)]) F dX11_sizeOf_3 rfl (by decide) rfl ?_
  refine v_sub (fun ls h9 => lv_sub h9 [2, 3, 1, 0] rfl) ?_
  exact w_X11_sizeOf_h4 F hr hlk t0 _ _ _ _ h
def f_X11_shape_b30 (a0 : Nat) (i1 : Int32) (i2 : Int32) (i3 : Int32)  (s0 : Nat) (s1 : Int32) (M : Mem) : Option (Int32 × Mem) := (f_X11_bad M s0 s1 1).bind fun q => match q with | (r11, M12) => (if r11 = 0 then ((f_X11_shapes M12 a0 i1 i2 i3).bind fun q => match q with | (r16, M17) => ((f_X11_sizeOf M17 a0 i1).bind fun q => match q with | (r20, M21) => (some (r20, M21)))) else (some (0, M12)))
def f_X11_shape_b25 (a0 : Nat) (i1 : Int32) (i2 : Int32) (i3 : Int32)  (s0 : Nat) (M : Mem) : Option (Int32 × Mem) := f_X11_shape_b30 a0 i1 i2 i3 s0 1 M
def f_X11_shape  (M : Mem) (a0 : Nat) (i1 : Int32) (i2 : Int32) (i3 : Int32) : Option (Int32 × Mem) := (f_X11_isShape (mU M a0 0 0) i1 i2).bind fun q => match q with | (r1, M2) => (if r1 = 0 then (f_X11_shape_b25 a0 i1 i2 i3 a0 M2) else ((f_X11_in M2 i3 1 9999).bind fun q => match q with | (r6, M7) => (if r6 = 0 then (f_X11_shape_b25 a0 i1 i2 i3 a0 M7) else (f_X11_shape_b30 a0 i1 i2 i3 a0 0 M7))))
set_option maxHeartbeats 4000000 in
set_option maxRecDepth 100000 in
theorem w_X11_shape_b30 {g : gT} {p : Program} {l : Launch} {e : Env} {s : State} {m : MethodId} {args : Array Value} {below : List Frame} {meth : Method} {c : Code} {z : Int32 × Mem} (F : Fx g p s m args c cX11_shape 4 uX11_shape RX11) (hr : meth.sig.returnType = (some .int)) (hlk : meth.locks = false)  {a0 : Nat} {i1 : Int32} {i2 : Int32} {i3 : Int32} (t0 : Ty g 11 a0)   (s0 : Nat) (s1 : Int32) (M : Mem) (ts0 : Ty g 11 s0) (h : f_X11_shape_b30 a0 i1 i2 i3 s0 s1 M = some z) : V g p l e ({ frames := 2, cells := 0, slots := 0, locals := 40 * 2 } : Room) s m args below meth c 4 0 0 (MQ below (gQ g (some (.int z.1)) z.2) args s 0 0 (gA g)) 30 [(0, .ref (gAd g a0)), (1, .int i1), (2, .int i2), (3, .int i3)] [.int s1, .ref (gAd g s0)] M := by
  unfold f_X11_shape_b30 at h
  refine v_iconst (v := 1) F dX11_shape_30 (by decide) ?_
  obtain ⟨⟨r11, M12⟩, hz13, h⟩ := bd_some h
  dsimp only at h
  refine v_callVi (As := [.int s1, .int 1]) (rest := []) F (c_X11_bad l F.2.2.1 ts0 hz13) (cwV 2 F.1.2.2.2.2 (gU_V ml_X11_176 im_yX11_bad se_yX11_bad ini_X11 cd_X11_bad) rfl rfl rfl (by decide +kernel) ⟨Nat.le_of_ble_eq_true rfl, Nat.le_of_ble_eq_true rfl⟩) ts0 (by decide) rfl rfl rfl (Nat.le_of_ble_eq_true rfl) dX11_shape_31 ⟨Nat.le_of_ble_eq_true rfl, Nat.le_of_ble_eq_true rfl⟩ ?_
  refine v_if_eq (tgt := 39) F dX11_shape_34 (by decide) (fun hc15 => ?_) (fun hc15 => ?_)
  · rw [if_pos hc15] at h
    refine v_aload_n F dX11_shape_39 rfl 0 rfl ?_
    refine v_iload_n F dX11_shape_40 rfl 1 rfl ?_
    refine v_iload_n F dX11_shape_41 rfl 2 rfl ?_
    refine v_iload_n F dX11_shape_42 rfl 3 rfl ?_
    obtain ⟨⟨r16, M17⟩, hz18, h⟩ := bd_some h
    dsimp only at h
    refine v_callVv (As := [.int i1, .int i2, .int i3]) (rest := []) F (c_X11_shapes l F.2.2.1 t0 hz18) (cwV 3 F.1.2.2.2.2 (gU_V ml_X11_217 im_yX11_shapes se_yX11_shapes ini_X11 cd_X11_shapes) rfl rfl rfl (by decide +kernel) ⟨Nat.le_of_ble_eq_true rfl, Nat.le_of_ble_eq_true rfl⟩) t0 (by decide) rfl rfl rfl (Nat.le_of_ble_eq_true rfl) dX11_shape_43 ⟨Nat.le_of_ble_eq_true rfl, Nat.le_of_ble_eq_true rfl⟩ ?_
    refine v_aload_n F dX11_shape_46 rfl 0 rfl ?_
    refine v_iload_n F dX11_shape_47 rfl 1 rfl ?_
    obtain ⟨⟨r20, M21⟩, hz22, h⟩ := bd_some h
    dsimp only at h
    refine v_callVi (As := [.int i1]) (rest := []) F (c_X11_sizeOf l F.2.2.1 t0 hz22) (cwV 1 F.1.2.2.2.2 (gU_V ml_X11_221 im_yX11_sizeOf se_yX11_sizeOf ini_X11 cd_X11_sizeOf) rfl rfl rfl (by decide +kernel) ⟨Nat.le_of_ble_eq_true rfl, Nat.le_of_ble_eq_true rfl⟩) t0 (by decide) rfl rfl rfl (Nat.le_of_ble_eq_true rfl) dX11_shape_48 ⟨Nat.le_of_ble_eq_true rfl, Nat.le_of_ble_eq_true rfl⟩ ?_
    cases h
    exact v_iret F hr rfl hlk dX11_shape_51
  · rw [if_neg hc15] at h
    refine v_iconst (v := 0) F dX11_shape_37 (by decide) ?_
    cases h
    exact v_iret F hr rfl hlk dX11_shape_38
set_option maxHeartbeats 4000000 in
set_option maxRecDepth 100000 in
theorem w_X11_shape_b25 {g : gT} {p : Program} {l : Launch} {e : Env} {s : State} {m : MethodId} {args : Array Value} {below : List Frame} {meth : Method} {c : Code} {z : Int32 × Mem} (F : Fx g p s m args c cX11_shape 4 uX11_shape RX11) (hr : meth.sig.returnType = (some .int)) (hlk : meth.locks = false)  {a0 : Nat} {i1 : Int32} {i2 : Int32} {i3 : Int32} (t0 : Ty g 11 a0)   (s0 : Nat) (M : Mem) (ts0 : Ty g 11 s0) (h : f_X11_shape_b25 a0 i1 i2 i3 s0 M = some z) : V g p l e ({ frames := 2, cells := 0, slots := 0, locals := 40 * 2 } : Room) s m args below meth c 4 0 0 (MQ below (gQ g (some (.int z.1)) z.2) args s 0 0 (gA g)) 25 [(0, .ref (gAd g a0)), (1, .int i1), (2, .int i2), (3, .int i3)] [.ref (gAd g s0)] M := by
  unfold f_X11_shape_b25 at h
  refine v_iconst (v := 1) F dX11_shape_25 (by decide) ?_
  refine v_goto (tgt := 30) F dX11_shape_26 (by decide) ?_
  exact w_X11_shape_b30 F hr hlk t0 _ _ _ ts0 h
set_option maxHeartbeats 4000000 in
set_option maxRecDepth 100000 in
theorem c_X11_shape {g : gT} (l : Launch) (hok : gOK g)  {a0 : Nat} {i1 : Int32} {i2 : Int32} {i3 : Int32} {M : Mem} {z : Int32 × Mem}  (t0 : Ty g 11 a0) (h : f_X11_shape  M a0 i1 i2 i3 = some z) : Cn g l yX11_shape uX11_shape 2 [.ref (gAd g a0), .int i1, .int i2, .int i3] M (some (.int z.1)) z.2 := by
  refine Cn.of (cc := cX11_shape) (maxL := 4) (ret := (some .int)) hok (by decide) rfl (Nat.le_of_ble_eq_true rfl) (fun p e s m args below meth c F hr hlk => ?_)
  unfold f_X11_shape at h
  show V g p l e ({ frames := 2, cells := 0, slots := 0, locals := 40 * 2 } : Room) s m args below meth c 4 0 0 (MQ below (gQ g (some (.int z.1)) z.2) args s 0 0 (gA g)) 0 [(0, .ref (gAd g a0)), (1, .int i1), (2, .int i2), (3, .int i3)] [] M
  refine v_aload_n F dX11_shape_0 rfl 0 rfl ?_
  refine v_iconst (v := 0) F dX11_shape_1 (by decide) ?_
  refine v_put (k := 0) (ty := .int) F t0 (by decide) (inc inU_11) tyX11 tyX11_ok nmX11 rfl rfl (by decide) (List.mem_cons_of_mem _ fl_X11_83) rfl rfl (by decide +kernel) rfl rfl dX11_shape_2 ?_
  refine v_aload_n F dX11_shape_5 rfl 0 rfl ?_
  refine v_iload_n F dX11_shape_6 rfl 1 rfl ?_
  refine v_iload_n F dX11_shape_7 rfl 2 rfl ?_
  obtain ⟨⟨r1, M2⟩, hz3, h⟩ := bd_some h
  dsimp only at h
  refine v_callSi (As := [.int i1, .int i2]) (rest := [.ref (gAd g a0)]) F (c_X11_isShape l F.2.2.1  hz3) (cwS 2 F.1.2.2.2.2 (gU_S ml_X11_213 st_yX11_isShape ini_X11 cd_X11_isShape) rfl rfl rfl (by decide +kernel) ⟨Nat.le_of_ble_eq_true rfl, Nat.le_of_ble_eq_true rfl⟩) rfl rfl (Nat.le_of_ble_eq_true rfl) dX11_shape_8 ⟨Nat.le_of_ble_eq_true rfl, Nat.le_of_ble_eq_true rfl⟩ ?_
  refine v_if_eq (tgt := 25) F dX11_shape_11 (by decide) (fun hc5 => ?_) (fun hc5 => ?_)
  · rw [if_pos hc5] at h
    exact w_X11_shape_b25 F hr hlk t0 _ _ t0 h
  · rw [if_neg hc5] at h
    refine v_iload_n F dX11_shape_14 rfl 3 rfl ?_
    refine v_iconst (v := 1) F dX11_shape_15 (by decide) ?_
    refine v_sipush (v := 9999) F dX11_shape_16 (by decide) ?_
    obtain ⟨⟨r6, M7⟩, hz8, h⟩ := bd_some h
    dsimp only at h
    refine v_callSi (As := [.int i3, .int 1, .int 9999]) (rest := [.ref (gAd g a0)]) F (c_X11_in l F.2.2.1  hz8) (cwS 3 F.1.2.2.2.2 (gU_S ml_X11_172 st_yX11_in ini_X11 cd_X11_in) rfl rfl rfl (by decide +kernel) ⟨Nat.le_of_ble_eq_true rfl, Nat.le_of_ble_eq_true rfl⟩) rfl rfl (Nat.le_of_ble_eq_true rfl) dX11_shape_19 ⟨Nat.le_of_ble_eq_true rfl, Nat.le_of_ble_eq_true rfl⟩ ?_
    refine v_if_ne (tgt := 29) F dX11_shape_22 (by decide) (fun hc10 => ?_) (fun hc10 => ?_)
    · rw [if_neg hc10] at h
      refine v_iconst (v := 0) F dX11_shape_29 (by decide) ?_
      exact w_X11_shape_b30 F hr hlk t0 _ _ _ t0 h
    · rw [if_pos hc10] at h
      exact w_X11_shape_b25 F hr hlk t0 _ _ t0 h
def f_X11_tellsNames_h19 (a0 : Nat) (i1 : Int32) (i2 : Int32)  : Nat → Int32 → Mem → Option (Int32 × Mem)
  | 0, _, _ => none
  | n + 1, x3, M => if 4 ≤ x3 then (if ¬ ((5 : Int32) < 0 ∨ gN (gRf a0 21) ≤ (5 : Int32).toNatClampNeg) then (if ¬ ((6 : Int32) < 0 ∨ gN (gRf a0 15) ≤ (6 : Int32).toNatClampNeg) then (if ¬ ((6 : Int32) < 0 ∨ gN (gRf a0 21) ≤ (6 : Int32).toNatClampNeg) then (if ¬ ((7 : Int32) < 0 ∨ gN (gRf a0 15) ≤ (7 : Int32).toNatClampNeg) then (if ¬ ((8 : Int32) < 0 ∨ gN (gRf a0 15) ≤ (8 : Int32).toNatClampNeg) then (some (0, (mU (mU (mU M (gRf a0 15) (6 : Int32).toNatClampNeg (M (gRf a0 21) (5 : Int32).toNatClampNeg)) (gRf a0 15) (7 : Int32).toNatClampNeg ((mU M (gRf a0 15) (6 : Int32).toNatClampNeg (M (gRf a0 21) (5 : Int32).toNatClampNeg)) (gRf a0 21) (6 : Int32).toNatClampNeg)) (gRf a0 15) (8 : Int32).toNatClampNeg i2))) else none) else none) else none) else none) else none) else (if ¬ (x3 < 0 ∨ gN (gRf a0 22) ≤ x3.toNatClampNeg) then (if ¬ (i2 < 0 ∨ gN (gRf (gRf a0 22) x3.toNatClampNeg) ≤ i2.toNatClampNeg) then (if ¬ ((2 + x3) < 0 ∨ gN (gRf a0 15) ≤ (2 + x3 : Int32).toNatClampNeg) then ((f_X11_tellsNames_h19 a0 i1 i2 n) (x3 + 1) (mU M (gRf a0 15) (2 + x3 : Int32).toNatClampNeg (M (gRf (gRf a0 22) x3.toNatClampNeg) i2.toNatClampNeg))) else none) else none) else none)
def f_X11_tellsNames  (M : Mem) (a0 : Nat) (i1 : Int32) (i2 : Int32) : Option (Int32 × Mem) := if ¬ ((0 : Int32) < 0 ∨ gN (gRf a0 15) ≤ (0 : Int32).toNatClampNeg) then (if ¬ ((1 : Int32) < 0 ∨ gN (gRf a0 15) ≤ (1 : Int32).toNatClampNeg) then (f_X11_tellsNames_h19 a0 i1 i2 FU 0 (mU (mU M (gRf a0 15) (0 : Int32).toNatClampNeg i1) (gRf a0 15) (1 : Int32).toNatClampNeg ((mU M (gRf a0 15) (0 : Int32).toNatClampNeg i1) a0 20))) else none) else none
set_option maxHeartbeats 4000000 in
set_option maxRecDepth 100000 in
theorem w_X11_tellsNames_h19 {g : gT} {p : Program} {l : Launch} {e : Env} {s : State} {m : MethodId} {args : Array Value} {below : List Frame} {meth : Method} {c : Code} {z : Int32 × Mem} (F : Fx g p s m args c cX11_tellsNames 4 uX11_tellsNames RX11) (hr : meth.sig.returnType = none) (hlk : meth.locks = false)  {a0 : Nat} {i1 : Int32} {i2 : Int32} (t0 : Ty g 11 a0)   : ∀ (n : Nat) (x3 : Int32) (M : Mem), f_X11_tellsNames_h19 a0 i1 i2 n x3 M = some z → V g p l e ({ frames := 0, cells := 0, slots := 0, locals := 40 * 0 } : Room) s m args below meth c 4 0 0 (MQ below (gQ g none z.2) args s 0 0 (gA g)) 19 [(0, .ref (gAd g a0)), (1, .int i1), (2, .int i2), (3, .int x3)] [] M := by
  intro n
  induction n with
  | zero => intro x3 M; intros; rename_i h; cases h
  | succ n ih =>
    intro x3 M h
    rw [f_X11_tellsNames_h19] at h
    refine v_iload_n F dX11_tellsNames_19 rfl 3 rfl ?_
    refine v_iconst (v := 4) F dX11_tellsNames_20 (by decide) ?_
    refine v_icmp_ge (tgt := 46) F dX11_tellsNames_21 (by decide) (fun hc5 => ?_) (fun hc5 => ?_)
    · rw [if_pos hc5] at h
      refine v_aload_n F dX11_tellsNames_46 rfl 0 rfl ?_
      refine v_getR (k := 15) (f := 12) F t0 (by decide) (inc inU_11) rfl rfl (by decide) (by decide) (List.mem_cons_of_mem _ fl_X11_31) rfl dX11_tellsNames_47 (fun u6 => ?_)
      refine v_bipush (v := 6) F dX11_tellsNames_50 (by decide) ?_
      refine v_aload_n F dX11_tellsNames_52 rfl 0 rfl ?_
      refine v_getR (k := 21) (f := 12) F t0 (by decide) (inc inU_11) rfl rfl (by decide) (by decide) (List.mem_cons_of_mem _ fl_X11_40) rfl dX11_tellsNames_53 (fun u7 => ?_)
      refine v_iconst (v := 5) F dX11_tellsNames_56 (by decide) ?_
      obtain ⟨hin8, h⟩ := gd_some h
      refine v_iald F u7 hin8 dX11_tellsNames_57 ?_
      obtain ⟨hin9, h⟩ := gd_some h
      refine v_iast F u6 hin9 dX11_tellsNames_58 ?_
      refine v_aload_n F dX11_tellsNames_59 rfl 0 rfl ?_
      refine v_getR (k := 15) (f := 12) F t0 (by decide) (inc inU_11) rfl rfl (by decide) (by decide) (List.mem_cons_of_mem _ fl_X11_31) rfl dX11_tellsNames_60 (fun u10 => ?_)
      refine v_bipush (v := 7) F dX11_tellsNames_63 (by decide) ?_
      refine v_aload_n F dX11_tellsNames_65 rfl 0 rfl ?_
      refine v_getR (k := 21) (f := 12) F t0 (by decide) (inc inU_11) rfl rfl (by decide) (by decide) (List.mem_cons_of_mem _ fl_X11_40) rfl dX11_tellsNames_66 (fun u11 => ?_)
      refine v_bipush (v := 6) F dX11_tellsNames_69 (by decide) ?_
      obtain ⟨hin12, h⟩ := gd_some h
      refine v_iald F u11 hin12 dX11_tellsNames_71 ?_
      obtain ⟨hin13, h⟩ := gd_some h
      refine v_iast F u10 hin13 dX11_tellsNames_72 ?_
      refine v_aload_n F dX11_tellsNames_73 rfl 0 rfl ?_
      refine v_getR (k := 15) (f := 12) F t0 (by decide) (inc inU_11) rfl rfl (by decide) (by decide) (List.mem_cons_of_mem _ fl_X11_31) rfl dX11_tellsNames_74 (fun u14 => ?_)
      refine v_bipush (v := 8) F dX11_tellsNames_77 (by decide) ?_
      refine v_iload_n F dX11_tellsNames_79 rfl 2 rfl ?_
      obtain ⟨hin15, h⟩ := gd_some h
      refine v_iast F u14 hin15 dX11_tellsNames_80 ?_
      cases h
      exact v_vret F hr hlk dX11_tellsNames_81
    · rw [if_neg hc5] at h
      refine v_aload_n F dX11_tellsNames_24 rfl 0 rfl ?_
      refine v_getR (k := 15) (f := 12) F t0 (by decide) (inc inU_11) rfl rfl (by decide) (by decide) (List.mem_cons_of_mem _ fl_X11_31) rfl dX11_tellsNames_25 (fun u16 => ?_)
      refine v_iconst (v := 2) F dX11_tellsNames_28 (by decide) ?_
      refine v_iload_n F dX11_tellsNames_29 rfl 3 rfl ?_
      refine v_iadd F dX11_tellsNames_30 ?_
      refine v_aload_n F dX11_tellsNames_31 rfl 0 rfl ?_
      refine v_getR (k := 22) (f := 16) F t0 (by decide) (inc inU_11) rfl rfl (by decide) (by decide) (List.mem_cons_of_mem _ fl_X11_43) rfl dX11_tellsNames_32 (fun u17 => ?_)
      refine v_iload_n F dX11_tellsNames_35 rfl 3 rfl ?_
      obtain ⟨hin18, h⟩ := gd_some h
      refine v_aald (ke := 12) (t0 := 4) F u17 (by decide) rfl rfl hin18 dX11_tellsNames_36 (fun u19 => ?_)
      refine v_iload_n F dX11_tellsNames_37 rfl 2 rfl ?_
      obtain ⟨hin20, h⟩ := gd_some h
      refine v_iald F u19 hin20 dX11_tellsNames_38 ?_
      obtain ⟨hin21, h⟩ := gd_some h
      refine v_iast F u16 hin21 dX11_tellsNames_39 ?_
      refine v_iinc (v := x3 + 1) (lv' := [(3, .int (x3 + 1)), (0, .ref (gAd g a0)), (1, .int i1), (2, .int i2)]) F dX11_tellsNames_40 (q := 3) rfl rfl (by decide) rfl ?_
      refine v_goto (tgt := 19) F dX11_tellsNames_43 (by decide) ?_
      refine v_sub (fun ls h9 => lv_sub h9 [1, 2, 3, 0] rfl) ?_
      exact ih _ _ h
set_option maxHeartbeats 4000000 in
set_option maxRecDepth 100000 in
theorem c_X11_tellsNames {g : gT} (l : Launch) (hok : gOK g)  {a0 : Nat} {i1 : Int32} {i2 : Int32} {M : Mem} {z : Int32 × Mem}  (t0 : Ty g 11 a0) (h : f_X11_tellsNames  M a0 i1 i2 = some z) : Cn g l yX11_tellsNames uX11_tellsNames 0 [.ref (gAd g a0), .int i1, .int i2] M none z.2 := by
  refine Cn.of (cc := cX11_tellsNames) (maxL := 4) (ret := none) hok (by decide) rfl (Nat.le_of_ble_eq_true rfl) (fun p e s m args below meth c F hr hlk => ?_)
  unfold f_X11_tellsNames at h
  show V g p l e ({ frames := 0, cells := 0, slots := 0, locals := 40 * 0 } : Room) s m args below meth c 4 0 0 (MQ below (gQ g none z.2) args s 0 0 (gA g)) 0 [(0, .ref (gAd g a0)), (1, .int i1), (2, .int i2)] [] M
  refine v_aload_n F dX11_tellsNames_0 rfl 0 rfl ?_
  refine v_getR (k := 15) (f := 12) F t0 (by decide) (inc inU_11) rfl rfl (by decide) (by decide) (List.mem_cons_of_mem _ fl_X11_31) rfl dX11_tellsNames_1 (fun u1 => ?_)
  refine v_iconst (v := 0) F dX11_tellsNames_4 (by decide) ?_
  refine v_iload_n F dX11_tellsNames_5 rfl 1 rfl ?_
  obtain ⟨hin2, h⟩ := gd_some h
  refine v_iast F u1 hin2 dX11_tellsNames_6 ?_
  refine v_aload_n F dX11_tellsNames_7 rfl 0 rfl ?_
  refine v_getR (k := 15) (f := 12) F t0 (by decide) (inc inU_11) rfl rfl (by decide) (by decide) (List.mem_cons_of_mem _ fl_X11_31) rfl dX11_tellsNames_8 (fun u3 => ?_)
  refine v_iconst (v := 1) F dX11_tellsNames_11 (by decide) ?_
  refine v_aload_n F dX11_tellsNames_12 rfl 0 rfl ?_
  refine v_getI (k := 20) F t0 (by decide) (inc inU_11) rfl rfl (by decide) (List.mem_cons_of_mem _ fl_X11_200) rfl dX11_tellsNames_13 ?_
  obtain ⟨hin4, h⟩ := gd_some h
  refine v_iast F u3 hin4 dX11_tellsNames_16 ?_
  refine v_iconst (v := 0) F dX11_tellsNames_17 (by decide) ?_
  refine v_istore_n (lv' := [(3, .int 0), (0, .ref (gAd g a0)), (1, .int i1), (2, .int i2)]) F dX11_tellsNames_18 rfl (by decide) rfl ?_
  refine v_sub (fun ls h9 => lv_sub h9 [1, 2, 3, 0] rfl) ?_
  exact w_X11_tellsNames_h19 F hr hlk t0 _ _ _ h
def f_X11_beside_b28 (a0 : Nat) (i1 : Int32) (i2 : Int32) (i3 : Int32)  (s0 : Nat) (s1 : Int32) (M : Mem) : Option (Int32 × Mem) := if ¬ (s1 < 0 ∨ gN s0 ≤ s1.toNatClampNeg) then (if (M s0 s1.toNatClampNeg) = 0 then (if ¬ (i1 < 0 ∨ gN (gRf a0 22) ≤ i1.toNatClampNeg) then (if ¬ (i3 < 0 ∨ gN (gRf (gRf a0 22) i1.toNatClampNeg) ≤ i3.toNatClampNeg) then (some (M (gRf (gRf a0 22) i1.toNatClampNeg) i3.toNatClampNeg, M)) else none) else none) else (if ¬ (i1 < 0 ∨ gN (gRf a0 22) ≤ i1.toNatClampNeg) then (if ¬ (i2 < 0 ∨ gN (gRf (gRf a0 22) i1.toNatClampNeg) ≤ i2.toNatClampNeg) then (some (M (gRf (gRf a0 22) i1.toNatClampNeg) i2.toNatClampNeg, M)) else none) else none)) else none
def f_X11_beside  (M : Mem) (a0 : Nat) (i1 : Int32) (i2 : Int32) (i3 : Int32) : Option (Int32 × Mem) := if i3 < 0 then (some (0, M)) else (if i3 < (M a0 19) then (if i3 ≤ i2 then (f_X11_beside_b28 a0 i1 i2 i3 (gRf a0 25) i3 M) else (f_X11_beside_b28 a0 i1 i2 i3 (gRf a0 25) i2 M)) else (some (0, M)))
set_option maxHeartbeats 4000000 in
set_option maxRecDepth 100000 in
theorem w_X11_beside_b28 {g : gT} {p : Program} {l : Launch} {e : Env} {s : State} {m : MethodId} {args : Array Value} {below : List Frame} {meth : Method} {c : Code} {z : Int32 × Mem} (F : Fx g p s m args c cX11_beside 4 uX11_beside RX11) (hr : meth.sig.returnType = (some .int)) (hlk : meth.locks = false)  {a0 : Nat} {i1 : Int32} {i2 : Int32} {i3 : Int32} (t0 : Ty g 11 a0)   (s0 : Nat) (s1 : Int32) (M : Mem) (ts0 : Ty g 13 s0) (h : f_X11_beside_b28 a0 i1 i2 i3 s0 s1 M = some z) : V g p l e ({ frames := 0, cells := 0, slots := 0, locals := 40 * 0 } : Room) s m args below meth c 4 0 0 (MQ below (gQ g (some (.int z.1)) z.2) args s 0 0 (gA g)) 28 [(0, .ref (gAd g a0)), (1, .int i1), (2, .int i2), (3, .int i3)] [.int s1, .ref (gAd g s0)] M := by
  unfold f_X11_beside_b28 at h
  obtain ⟨hin5, h⟩ := gd_some h
  refine v_zald F ts0 hin5 dX11_beside_28 ?_
  refine v_if_eq (tgt := 43) F dX11_beside_29 (by decide) (fun hc6 => ?_) (fun hc6 => ?_)
  · rw [if_pos hc6] at h
    refine v_aload_n F dX11_beside_43 rfl 0 rfl ?_
    refine v_getR (k := 22) (f := 16) F t0 (by decide) (inc inU_11) rfl rfl (by decide) (by decide) (List.mem_cons_of_mem _ fl_X11_43) rfl dX11_beside_44 (fun u7 => ?_)
    refine v_iload_n F dX11_beside_47 rfl 1 rfl ?_
    obtain ⟨hin8, h⟩ := gd_some h
    refine v_aald (ke := 12) (t0 := 4) F u7 (by decide) rfl rfl hin8 dX11_beside_48 (fun u9 => ?_)
    refine v_iload_n F dX11_beside_49 rfl 3 rfl ?_
    obtain ⟨hin10, h⟩ := gd_some h
    refine v_iald F u9 hin10 dX11_beside_50 ?_
    cases h
    exact v_iret F hr rfl hlk dX11_beside_51
  · rw [if_neg hc6] at h
    refine v_aload_n F dX11_beside_32 rfl 0 rfl ?_
    refine v_getR (k := 22) (f := 16) F t0 (by decide) (inc inU_11) rfl rfl (by decide) (by decide) (List.mem_cons_of_mem _ fl_X11_43) rfl dX11_beside_33 (fun u11 => ?_)
    refine v_iload_n F dX11_beside_36 rfl 1 rfl ?_
    obtain ⟨hin12, h⟩ := gd_some h
    refine v_aald (ke := 12) (t0 := 4) F u11 (by decide) rfl rfl hin12 dX11_beside_37 (fun u13 => ?_)
    refine v_iload_n F dX11_beside_38 rfl 2 rfl ?_
    obtain ⟨hin14, h⟩ := gd_some h
    refine v_iald F u13 hin14 dX11_beside_39 ?_
    refine v_goto (tgt := 51) F dX11_beside_40 (by decide) ?_
    cases h
    exact v_iret F hr rfl hlk dX11_beside_51
set_option maxHeartbeats 4000000 in
set_option maxRecDepth 100000 in
theorem c_X11_beside {g : gT} (l : Launch) (hok : gOK g)  {a0 : Nat} {i1 : Int32} {i2 : Int32} {i3 : Int32} {M : Mem} {z : Int32 × Mem}  (t0 : Ty g 11 a0) (h : f_X11_beside  M a0 i1 i2 i3 = some z) : Cn g l yX11_beside uX11_beside 0 [.ref (gAd g a0), .int i1, .int i2, .int i3] M (some (.int z.1)) z.2 := by
  refine Cn.of (cc := cX11_beside) (maxL := 4) (ret := (some .int)) hok (by decide) rfl (Nat.le_of_ble_eq_true rfl) (fun p e s m args below meth c F hr hlk => ?_)
  unfold f_X11_beside at h
  show V g p l e ({ frames := 0, cells := 0, slots := 0, locals := 40 * 0 } : Room) s m args below meth c 4 0 0 (MQ below (gQ g (some (.int z.1)) z.2) args s 0 0 (gA g)) 0 [(0, .ref (gAd g a0)), (1, .int i1), (2, .int i2), (3, .int i3)] [] M
  refine v_iload_n F dX11_beside_0 rfl 3 rfl ?_
  refine v_if_lt (tgt := 12) F dX11_beside_1 (by decide) (fun hc1 => ?_) (fun hc1 => ?_)
  · rw [if_pos hc1] at h
    refine v_iconst (v := 0) F dX11_beside_12 (by decide) ?_
    cases h
    exact v_iret F hr rfl hlk dX11_beside_13
  · rw [if_neg hc1] at h
    refine v_iload_n F dX11_beside_4 rfl 3 rfl ?_
    refine v_aload_n F dX11_beside_5 rfl 0 rfl ?_
    refine v_getI (k := 19) F t0 (by decide) (inc inU_11) rfl rfl (by decide) (List.mem_cons_of_mem _ fl_X11_37) rfl dX11_beside_6 ?_
    refine v_icmp_lt (tgt := 14) F dX11_beside_9 (by decide) (fun hc2 => ?_) (fun hc2 => ?_)
    · rw [if_pos hc2] at h
      refine v_aload_n F dX11_beside_14 rfl 0 rfl ?_
      refine v_getR (k := 25) (f := 13) F t0 (by decide) (inc inU_11) rfl rfl (by decide) (by decide) (List.mem_cons_of_mem _ fl_X11_52) rfl dX11_beside_15 (fun u3 => ?_)
      refine v_iload_n F dX11_beside_18 rfl 2 rfl ?_
      refine v_iload_n F dX11_beside_19 rfl 3 rfl ?_
      refine v_icmp_ge (tgt := 27) F dX11_beside_20 (by decide) (fun hc4 => ?_) (fun hc4 => ?_)
      · rw [if_pos hc4] at h
        refine v_iload_n F dX11_beside_27 rfl 3 rfl ?_
        exact w_X11_beside_b28 F hr hlk t0 _ _ _ u3 h
      · rw [if_neg hc4] at h
        refine v_iload_n F dX11_beside_23 rfl 2 rfl ?_
        refine v_goto (tgt := 28) F dX11_beside_24 (by decide) ?_
        exact w_X11_beside_b28 F hr hlk t0 _ _ _ u3 h
    · rw [if_neg hc2] at h
      refine v_iconst (v := 0) F dX11_beside_12 (by decide) ?_
      cases h
      exact v_iret F hr rfl hlk dX11_beside_13
def f_X11_pulls  (M : Mem) (a0 : Nat) (i1 : Int32) (i2 : Int32) : Option (Int32 × Mem) := if ¬ (i1 < 0 ∨ gN (gRf a0 22) ≤ i1.toNatClampNeg) then (if ¬ (i2 < 0 ∨ gN (gRf (gRf a0 22) i1.toNatClampNeg) ≤ i2.toNatClampNeg) then (if ¬ ((1 + i1) < 0 ∨ gN (gRf a0 21) ≤ (1 + i1 : Int32).toNatClampNeg) then ((f_X11_beside M a0 i1 i2 (i2 - 1)).bind fun q => match q with | (r7, M8) => ((f_X11_beside M8 a0 i1 i2 (i2 + 1)).bind fun q => match q with | (r11, M12) => (if i1 = 0 then (if ¬ ((3 : Int32) < 0 ∨ gN (gRf a0 21) ≤ (3 : Int32).toNatClampNeg) then (some (((M (gRf a0 21) (1 + i1 : Int32).toNatClampNeg) * ((r7 + r11) - (2 * (M (gRf (gRf a0 22) i1.toNatClampNeg) i2.toNatClampNeg)))) - ((M12 (gRf a0 21) (3 : Int32).toNatClampNeg) * (M (gRf (gRf a0 22) i1.toNatClampNeg) i2.toNatClampNeg)), M12)) else none) else (if ¬ (i2 < 0 ∨ gN (gRf a0 24) ≤ i2.toNatClampNeg) then (if (M12 (gRf a0 24) i2.toNatClampNeg) = 2 then (if ¬ ((8 : Int32) < 0 ∨ gN (gRf a0 21) ≤ (8 : Int32).toNatClampNeg) then (some (((M (gRf a0 21) (1 + i1 : Int32).toNatClampNeg) * ((r7 + r11) - (2 * (M (gRf (gRf a0 22) i1.toNatClampNeg) i2.toNatClampNeg)))) - ((M12 (gRf a0 21) (8 : Int32).toNatClampNeg) * (M (gRf (gRf a0 22) i1.toNatClampNeg) i2.toNatClampNeg)), M12)) else none) else (some ((M (gRf a0 21) (1 + i1 : Int32).toNatClampNeg) * ((r7 + r11) - (2 * (M (gRf (gRf a0 22) i1.toNatClampNeg) i2.toNatClampNeg))), M12))) else none)))) else none) else none) else none
set_option maxHeartbeats 4000000 in
set_option maxRecDepth 100000 in
theorem c_X11_pulls {g : gT} (l : Launch) (hok : gOK g)  {a0 : Nat} {i1 : Int32} {i2 : Int32} {M : Mem} {z : Int32 × Mem}  (t0 : Ty g 11 a0) (h : f_X11_pulls  M a0 i1 i2 = some z) : Cn g l yX11_pulls uX11_pulls 1 [.ref (gAd g a0), .int i1, .int i2] M (some (.int z.1)) z.2 := by
  refine Cn.of (cc := cX11_pulls) (maxL := 5) (ret := (some .int)) hok (by decide) rfl (Nat.le_of_ble_eq_true rfl) (fun p e s m args below meth c F hr hlk => ?_)
  unfold f_X11_pulls at h
  show V g p l e ({ frames := 1, cells := 0, slots := 0, locals := 40 * 1 } : Room) s m args below meth c 5 0 0 (MQ below (gQ g (some (.int z.1)) z.2) args s 0 0 (gA g)) 0 [(0, .ref (gAd g a0)), (1, .int i1), (2, .int i2)] [] M
  refine v_aload_n F dX11_pulls_0 rfl 0 rfl ?_
  refine v_getR (k := 22) (f := 16) F t0 (by decide) (inc inU_11) rfl rfl (by decide) (by decide) (List.mem_cons_of_mem _ fl_X11_43) rfl dX11_pulls_1 (fun u1 => ?_)
  refine v_iload_n F dX11_pulls_4 rfl 1 rfl ?_
  obtain ⟨hin2, h⟩ := gd_some h
  refine v_aald (ke := 12) (t0 := 4) F u1 (by decide) rfl rfl hin2 dX11_pulls_5 (fun u3 => ?_)
  refine v_iload_n F dX11_pulls_6 rfl 2 rfl ?_
  obtain ⟨hin4, h⟩ := gd_some h
  refine v_iald F u3 hin4 dX11_pulls_7 ?_
  refine v_istore_n (lv' := [(3, .int (M (gRf (gRf a0 22) i1.toNatClampNeg) i2.toNatClampNeg)), (0, .ref (gAd g a0)), (1, .int i1), (2, .int i2)]) F dX11_pulls_8 rfl (by decide) rfl ?_
  refine v_aload_n F dX11_pulls_9 rfl 1 rfl ?_
  refine v_getR (k := 21) (f := 12) F t0 (by decide) (inc inU_11) rfl rfl (by decide) (by decide) (List.mem_cons_of_mem _ fl_X11_40) rfl dX11_pulls_10 (fun u5 => ?_)
  refine v_iconst (v := 1) F dX11_pulls_13 (by decide) ?_
  refine v_iload_n F dX11_pulls_14 rfl 2 rfl ?_
  refine v_iadd F dX11_pulls_15 ?_
  obtain ⟨hin6, h⟩ := gd_some h
  refine v_iald F u5 hin6 dX11_pulls_16 ?_
  refine v_aload_n F dX11_pulls_17 rfl 1 rfl ?_
  refine v_iload_n F dX11_pulls_18 rfl 2 rfl ?_
  refine v_iload_n F dX11_pulls_19 rfl 3 rfl ?_
  refine v_iload_n F dX11_pulls_20 rfl 3 rfl ?_
  refine v_iconst (v := 1) F dX11_pulls_21 (by decide) ?_
  refine v_isub F dX11_pulls_22 ?_
  obtain ⟨⟨r7, M8⟩, hz9, h⟩ := bd_some h
  dsimp only at h
  refine v_callVi (As := [.int i1, .int i2, .int (i2 - 1)]) (rest := [.int (M (gRf a0 21) (1 + i1 : Int32).toNatClampNeg)]) F (c_X11_beside l F.2.2.1 t0 hz9) (cwV 3 F.1.2.2.2.2 (gU_V ml_X11_227 im_yX11_beside se_yX11_beside ini_X11 cd_X11_beside) rfl rfl rfl (by decide +kernel) ⟨Nat.le_of_ble_eq_true rfl, Nat.le_of_ble_eq_true rfl⟩) t0 (by decide) rfl rfl rfl (Nat.le_of_ble_eq_true rfl) dX11_pulls_23 ⟨Nat.le_of_ble_eq_true rfl, Nat.le_of_ble_eq_true rfl⟩ ?_
  refine v_aload_n F dX11_pulls_26 rfl 1 rfl ?_
  refine v_iload_n F dX11_pulls_27 rfl 2 rfl ?_
  refine v_iload_n F dX11_pulls_28 rfl 3 rfl ?_
  refine v_iload_n F dX11_pulls_29 rfl 3 rfl ?_
  refine v_iconst (v := 1) F dX11_pulls_30 (by decide) ?_
  refine v_iadd F dX11_pulls_31 ?_
  obtain ⟨⟨r11, M12⟩, hz13, h⟩ := bd_some h
  dsimp only at h
  refine v_callVi (As := [.int i1, .int i2, .int (i2 + 1)]) (rest := [.int r7, .int (M (gRf a0 21) (1 + i1 : Int32).toNatClampNeg)]) F (c_X11_beside l F.2.2.1 t0 hz13) (cwV 3 F.1.2.2.2.2 (gU_V ml_X11_227 im_yX11_beside se_yX11_beside ini_X11 cd_X11_beside) rfl rfl rfl (by decide +kernel) ⟨Nat.le_of_ble_eq_true rfl, Nat.le_of_ble_eq_true rfl⟩) t0 (by decide) rfl rfl rfl (Nat.le_of_ble_eq_true rfl) dX11_pulls_32 ⟨Nat.le_of_ble_eq_true rfl, Nat.le_of_ble_eq_true rfl⟩ ?_
  refine v_iadd F dX11_pulls_35 ?_
  refine v_iconst (v := 2) F dX11_pulls_36 (by decide) ?_
  refine v_iload_n F dX11_pulls_37 rfl 0 rfl ?_
  refine v_imul F dX11_pulls_38 ?_
  refine v_isub F dX11_pulls_39 ?_
  refine v_imul F dX11_pulls_40 ?_
  refine v_istore (lv' := [(4, .int ((M (gRf a0 21) (1 + i1 : Int32).toNatClampNeg) * ((r7 + r11) - (2 * (M (gRf (gRf a0 22) i1.toNatClampNeg) i2.toNatClampNeg))))), (3, .int (M (gRf (gRf a0 22) i1.toNatClampNeg) i2.toNatClampNeg)), (0, .ref (gAd g a0)), (1, .int i1), (2, .int i2)]) F dX11_pulls_41 (by decide) rfl ?_
  refine v_iload_n F dX11_pulls_43 rfl 3 rfl ?_
  refine v_if_ne (tgt := 61) F dX11_pulls_44 (by decide) (fun hc15 => ?_) (fun hc15 => ?_)
  · rw [if_neg hc15] at h
    refine v_aload_n F dX11_pulls_61 rfl 2 rfl ?_
    refine v_getR (k := 24) (f := 12) F t0 (by decide) (inc inU_11) rfl rfl (by decide) (by decide) (List.mem_cons_of_mem _ fl_X11_49) rfl dX11_pulls_62 (fun u16 => ?_)
    refine v_iload_n F dX11_pulls_65 rfl 4 rfl ?_
    obtain ⟨hin17, h⟩ := gd_some h
    refine v_iald F u16 hin17 dX11_pulls_66 ?_
    refine v_iconst (v := 2) F dX11_pulls_67 (by decide) ?_
    refine v_icmp_ne (tgt := 86) F dX11_pulls_68 (by decide) (fun hc18 => ?_) (fun hc18 => ?_)
    · rw [if_neg hc18] at h
      refine v_iload F dX11_pulls_86 0 rfl ?_
      cases h
      exact v_iret F hr rfl hlk dX11_pulls_88
    · rw [if_pos hc18] at h
      refine v_iload F dX11_pulls_71 0 rfl ?_
      refine v_aload_n F dX11_pulls_73 rfl 2 rfl ?_
      refine v_getR (k := 21) (f := 12) F t0 (by decide) (inc inU_11) rfl rfl (by decide) (by decide) (List.mem_cons_of_mem _ fl_X11_40) rfl dX11_pulls_74 (fun u19 => ?_)
      refine v_bipush (v := 8) F dX11_pulls_77 (by decide) ?_
      obtain ⟨hin20, h⟩ := gd_some h
      refine v_iald F u19 hin20 dX11_pulls_79 ?_
      refine v_iload_n F dX11_pulls_80 rfl 1 rfl ?_
      refine v_imul F dX11_pulls_81 ?_
      refine v_isub F dX11_pulls_82 ?_
      refine v_goto (tgt := 88) F dX11_pulls_83 (by decide) ?_
      cases h
      exact v_iret F hr rfl hlk dX11_pulls_88
  · rw [if_pos hc15] at h
    refine v_iload F dX11_pulls_47 0 rfl ?_
    refine v_aload_n F dX11_pulls_49 rfl 2 rfl ?_
    refine v_getR (k := 21) (f := 12) F t0 (by decide) (inc inU_11) rfl rfl (by decide) (by decide) (List.mem_cons_of_mem _ fl_X11_40) rfl dX11_pulls_50 (fun u21 => ?_)
    refine v_iconst (v := 3) F dX11_pulls_53 (by decide) ?_
    obtain ⟨hin22, h⟩ := gd_some h
    refine v_iald F u21 hin22 dX11_pulls_54 ?_
    refine v_iload_n F dX11_pulls_55 rfl 1 rfl ?_
    refine v_imul F dX11_pulls_56 ?_
    refine v_isub F dX11_pulls_57 ?_
    refine v_goto (tgt := 88) F dX11_pulls_58 (by decide) ?_
    cases h
    exact v_iret F hr rfl hlk dX11_pulls_88
