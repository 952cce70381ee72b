def f_X11_span_b119 (a0 : Nat) (i1 : Int32) (i2 : Int32) (i3 : Int32) (i4 : Int32) (i5 : Int32) (k48 : Int32 → Int32 → Mem → Option (Int32 × Mem)) (x6 : Int32) (x7 : Int32) (M : Mem) : Option (Int32 × Mem) := k48 x6 (x7 + 1) M
def f_X11_span_b115 (a0 : Nat) (i1 : Int32) (i2 : Int32) (i3 : Int32) (i4 : Int32) (i5 : Int32) (k48 : Int32 → Int32 → Mem → Option (Int32 × Mem)) (x7 : Int32) (x8 : Int32) (M : Mem) : Option (Int32 × Mem) := f_X11_span_b119 a0 i1 i2 i3 i4 i5 k48 x8 x7 M
def f_X11_span_h48 (a0 : Nat) (i1 : Int32) (i2 : Int32) (i3 : Int32) (i4 : Int32) (i5 : Int32)  : Nat → Int32 → Int32 → Mem → Option (Int32 × Mem)
  | 0, _, _, _ => none
  | n + 1, x6, x7, M => if 2 ≤ x7 then (some (x6, M)) else ((f_X11_lineOf (mU M a0 18 (100 + (x7 * i4))) a0 i1 i2 i3).bind fun q => match q with | (r17, M18) => (if r17 = (-1) then (f_X11_span_b119 a0 i1 i2 i3 i4 i5 (f_X11_span_h48 a0 i1 i2 i3 i4 i5 n) x6 x7 (mU M18 a0 18 100)) else (if x6 = (-1) then (f_X11_span_b115 a0 i1 i2 i3 i4 i5 (f_X11_span_h48 a0 i1 i2 i3 i4 i5 n) x7 r17 (mU M18 a0 18 100)) else (if i5 = 0 then (if x6 ≤ r17 then (f_X11_span_b119 a0 i1 i2 i3 i4 i5 (f_X11_span_h48 a0 i1 i2 i3 i4 i5 n) x6 x7 (mU M18 a0 18 100)) else (f_X11_span_b115 a0 i1 i2 i3 i4 i5 (f_X11_span_h48 a0 i1 i2 i3 i4 i5 n) x7 r17 (mU M18 a0 18 100))) else (if r17 ≤ x6 then (f_X11_span_b119 a0 i1 i2 i3 i4 i5 (f_X11_span_h48 a0 i1 i2 i3 i4 i5 n) x6 x7 (mU M18 a0 18 100)) else (f_X11_span_b115 a0 i1 i2 i3 i4 i5 (f_X11_span_h48 a0 i1 i2 i3 i4 i5 n) x7 r17 (mU M18 a0 18 100)))))))
def f_X11_span_b33 (a0 : Nat) (i1 : Int32) (i2 : Int32) (i3 : Int32) (i4 : Int32) (i5 : Int32)  (s0 : Nat) (s1 : Int32) (M : Mem) : Option (Int32 × Mem) := (f_X11_bad M s0 s1 2).bind fun q => match q with | (r11, M12) => (if r11 = 0 then (f_X11_span_h48 a0 i1 i2 i3 i4 i5 FU (-1) (-1) M12) else (some (0, M12)))
def f_X11_span  (M : Mem) (a0 : Nat) (i1 : Int32) (i2 : Int32) (i3 : Int32) (i4 : Int32) (i5 : Int32) : Option (Int32 × Mem) := (f_X11_badTrial (mU M a0 0 0) a0 i1 0 i2 i3).bind fun q => match q with | (r1, M2) => (if r1 = 0 then ((f_X11_in M2 i4 0 50).bind fun q => match q with | (r6, M7) => (if r6 = 0 then (f_X11_span_b33 a0 i1 i2 i3 i4 i5 a0 1 M7) else (f_X11_span_b33 a0 i1 i2 i3 i4 i5 a0 0 M7))) else (some (0, M2)))
set_option maxHeartbeats 4000000 in
set_option maxRecDepth 100000 in
theorem w_X11_span_b119 {g : gT} {p : Program} {l : Launch} {e : Env} {s : State} {m : MethodId} {args : Array Value} {below : List Frame} {meth : Method} {c : Code} {z : Int32 × Mem} (F : Fx g p s m args c cX11_span 9 uX11_span RX11) (hr : meth.sig.returnType = (some .int)) (hlk : meth.locks = false)  {a0 : Nat} {i1 : Int32} {i2 : Int32} {i3 : Int32} {i4 : Int32} {i5 : Int32} (t0 : Ty g 11 a0) {k48 : Int32 → Int32 → Mem → Option (Int32 × Mem)} (hk48 : ∀ (x6 : Int32) (x7 : Int32) (M : Mem), k48 x6 x7 M = some z → V g p l e ({ frames := 5, cells := 0, slots := 0, locals := 40 * 5 } : Room) s m args below meth c 9 0 0 (MQ below (gQ g (some (.int z.1)) z.2) args s 0 0 (gA g)) 48 [(0, .ref (gAd g a0)), (1, .int i1), (2, .int i2), (3, .int i3), (4, .int i4), (5, .int i5), (6, .int x6), (7, .int x7)] [] M) (x6 : Int32) (x7 : Int32) (M : Mem)  (h : f_X11_span_b119 a0 i1 i2 i3 i4 i5 k48 x6 x7 M = some z) : V g p l e ({ frames := 5, cells := 0, slots := 0, locals := 40 * 5 } : Room) s m args below meth c 9 0 0 (MQ below (gQ g (some (.int z.1)) z.2) args s 0 0 (gA g)) 119 [(0, .ref (gAd g a0)), (1, .int i1), (2, .int i2), (3, .int i3), (4, .int i4), (5, .int i5), (6, .int x6), (7, .int x7)] [] M := by
  unfold f_X11_span_b119 at h
  refine v_iinc (v := x7 + 1) (lv' := [(7, .int (x7 + 1)), (0, .ref (gAd g a0)), (1, .int i1), (2, .int i2), (3, .int i3), (4, .int i4), (5, .int i5), (6, .int x6)]) F dX11_span_119 (q := 7) rfl rfl (by decide) rfl ?_
  refine v_goto (tgt := 48) F dX11_span_122 (by decide) ?_
  refine v_sub (fun ls h9 => lv_sub h9 [1, 2, 3, 4, 5, 6, 7, 0] rfl) ?_
  exact hk48 _ _ _ h
set_option maxHeartbeats 4000000 in
set_option maxRecDepth 100000 in
theorem w_X11_span_b115 {g : gT} {p : Program} {l : Launch} {e : Env} {s : State} {m : MethodId} {args : Array Value} {below : List Frame} {meth : Method} {c : Code} {z : Int32 × Mem} (F : Fx g p s m args c cX11_span 9 uX11_span RX11) (hr : meth.sig.returnType = (some .int)) (hlk : meth.locks = false)  {a0 : Nat} {i1 : Int32} {i2 : Int32} {i3 : Int32} {i4 : Int32} {i5 : Int32} (t0 : Ty g 11 a0) {k48 : Int32 → Int32 → Mem → Option (Int32 × Mem)} (hk48 : ∀ (x6 : Int32) (x7 : Int32) (M : Mem), k48 x6 x7 M = some z → V g p l e ({ frames := 5, cells := 0, slots := 0, locals := 40 * 5 } : Room) s m args below meth c 9 0 0 (MQ below (gQ g (some (.int z.1)) z.2) args s 0 0 (gA g)) 48 [(0, .ref (gAd g a0)), (1, .int i1), (2, .int i2), (3, .int i3), (4, .int i4), (5, .int i5), (6, .int x6), (7, .int x7)] [] M) (x7 : Int32) (x8 : Int32) (M : Mem)  (h : f_X11_span_b115 a0 i1 i2 i3 i4 i5 k48 x7 x8 M = some z) : V g p l e ({ frames := 5, cells := 0, slots := 0, locals := 40 * 5 } : Room) s m args below meth c 9 0 0 (MQ below (gQ g (some (.int z.1)) z.2) args s 0 0 (gA g)) 115 [(0, .ref (gAd g a0)), (1, .int i1), (2, .int i2), (3, .int i3), (4, .int i4), (5, .int i5), (7, .int x7), (8, .int x8)] [] M := by
  unfold f_X11_span_b115 at h
  refine v_iload F dX11_span_115 7 rfl ?_
  refine v_istore (lv' := [(6, .int x8), (0, .ref (gAd g a0)), (1, .int i1), (2, .int i2), (3, .int i3), (4, .int i4), (5, .int i5), (7, .int x7), (8, .int x8)]) F dX11_span_117 (by decide) rfl ?_
  refine v_sub (fun ls h9 => lv_sub h9 [1, 2, 3, 4, 5, 6, 0, 7] rfl) ?_
  exact w_X11_span_b119 F hr hlk t0 hk48 _ _ _ h
set_option maxHeartbeats 4000000 in
set_option maxRecDepth 100000 in
theorem w_X11_span_h48 {g : gT} {p : Program} {l : Launch} {e : Env} {s : State} {m : MethodId} {args : Array Value} {below : List Frame} {meth : Method} {c : Code} {z : Int32 × Mem} (F : Fx g p s m args c cX11_span 9 uX11_span RX11) (hr : meth.sig.returnType = (some .int)) (hlk : meth.locks = false)  {a0 : Nat} {i1 : Int32} {i2 : Int32} {i3 : Int32} {i4 : Int32} {i5 : Int32} (t0 : Ty g 11 a0)   : ∀ (n : Nat) (x6 : Int32) (x7 : Int32) (M : Mem), f_X11_span_h48 a0 i1 i2 i3 i4 i5 n x6 x7 M = some z → V g p l e ({ frames := 5, cells := 0, slots := 0, locals := 40 * 5 } : Room) s m args below meth c 9 0 0 (MQ below (gQ g (some (.int z.1)) z.2) args s 0 0 (gA g)) 48 [(0, .ref (gAd g a0)), (1, .int i1), (2, .int i2), (3, .int i3), (4, .int i4), (5, .int i5), (6, .int x6), (7, .int x7)] [] M := by
  intro n
  induction n with
  | zero => intro x6 x7 M; intros; rename_i h; cases h
  | succ n ih =>
    intro x6 x7 M h
    rw [f_X11_span_h48] at h
    refine v_iload F dX11_span_48 7 rfl ?_
    refine v_iconst (v := 2) F dX11_span_50 (by decide) ?_
    refine v_icmp_ge (tgt := 125) F dX11_span_51 (by decide) (fun hc16 => ?_) (fun hc16 => ?_)
    · rw [if_pos hc16] at h
      refine v_iload F dX11_span_125 6 rfl ?_
      cases h
      exact v_iret F hr rfl hlk dX11_span_127
    · rw [if_neg hc16] at h
      refine v_aload_n F dX11_span_54 rfl 0 rfl ?_
      refine v_bipush (v := 100) F dX11_span_55 (by decide) ?_
      refine v_iload F dX11_span_57 7 rfl ?_
      refine v_iload F dX11_span_59 4 rfl ?_
      refine v_imul F dX11_span_61 ?_
      refine v_iadd F dX11_span_62 ?_
      refine v_put (k := 18) (ty := .int) F t0 (by decide) (inc inU_11) tyX11 tyX11_ok nmX11 rfl rfl (by decide) (List.mem_cons_of_mem _ fl_X11_34) rfl rfl (by decide +kernel) rfl rfl dX11_span_63 ?_
      refine v_aload_n F dX11_span_66 rfl 0 rfl ?_
      refine v_iload_n F dX11_span_67 rfl 1 rfl ?_
      refine v_iload_n F dX11_span_68 rfl 2 rfl ?_
      refine v_iload_n F dX11_span_69 rfl 3 rfl ?_
      obtain ⟨⟨r17, M18⟩, hz19, h⟩ := bd_some h
      dsimp only at h
      refine v_callVi (As := [.int i1, .int i2, .int i3]) (rest := []) F (c_X11_lineOf l F.2.2.1 t0 hz19) (cwV 3 F.1.2.2.2.2 (gU_V ml_X11_268 im_yX11_lineOf se_yX11_lineOf ini_X11 cd_X11_lineOf) rfl rfl rfl (by decide +kernel) ⟨Nat.le_of_ble_eq_true rfl, Nat.le_of_ble_eq_true rfl⟩) t0 (by decide) rfl rfl rfl (Nat.le_of_ble_eq_true rfl) dX11_span_70 ⟨Nat.le_of_ble_eq_true rfl, Nat.le_of_ble_eq_true rfl⟩ ?_
      refine v_istore (lv' := [(8, .int r17), (0, .ref (gAd g a0)), (1, .int i1), (2, .int i2), (3, .int i3), (4, .int i4), (5, .int i5), (6, .int x6), (7, .int x7)]) F dX11_span_73 (by decide) rfl ?_
      refine v_aload_n F dX11_span_75 rfl 1 rfl ?_
      refine v_bipush (v := 100) F dX11_span_76 (by decide) ?_
      refine v_put (k := 18) (ty := .int) F t0 (by decide) (inc inU_11) tyX11 tyX11_ok nmX11 rfl rfl (by decide) (List.mem_cons_of_mem _ fl_X11_34) rfl rfl (by decide +kernel) rfl rfl dX11_span_78 ?_
      refine v_iload F dX11_span_81 0 rfl ?_
      refine v_iconst (v := (-1)) F dX11_span_83 (by decide) ?_
      refine v_icmp_eq (tgt := 119) F dX11_span_84 (by decide) (fun hc21 => ?_) (fun hc21 => ?_)
      · rw [if_pos hc21] at h
        refine v_sub (fun ls h9 => lv_sub h9 [1, 2, 3, 4, 5, 6, 7, 8] rfl) ?_
        exact w_X11_span_b119 F hr hlk t0 ih _ _ _ h
      · rw [if_neg hc21] at h
        refine v_iload F dX11_span_87 7 rfl ?_
        refine v_iconst (v := (-1)) F dX11_span_89 (by decide) ?_
        refine v_icmp_eq (tgt := 115) F dX11_span_90 (by decide) (fun hc22 => ?_) (fun hc22 => ?_)
        · rw [if_pos hc22] at h
          refine v_sub (fun ls h9 => lv_sub h9 [1, 2, 3, 4, 5, 6, 8, 0] rfl) ?_
          exact w_X11_span_b115 F hr hlk t0 ih _ _ _ h
        · rw [if_neg hc22] at h
          refine v_iload F dX11_span_93 6 rfl ?_
          refine v_if_eq (tgt := 108) F dX11_span_95 (by decide) (fun hc23 => ?_) (fun hc23 => ?_)
          · rw [if_pos hc23] at h
            refine v_iload F dX11_span_108 0 rfl ?_
            refine v_iload F dX11_span_110 7 rfl ?_
            refine v_icmp_ge (tgt := 119) F dX11_span_112 (by decide) (fun hc24 => ?_) (fun hc24 => ?_)
            · rw [if_pos hc24] at h
              refine v_sub (fun ls h9 => lv_sub h9 [1, 2, 3, 4, 5, 6, 7, 8] rfl) ?_
              exact w_X11_span_b119 F hr hlk t0 ih _ _ _ h
            · rw [if_neg hc24] at h
              refine v_sub (fun ls h9 => lv_sub h9 [1, 2, 3, 4, 5, 6, 8, 0] rfl) ?_
              exact w_X11_span_b115 F hr hlk t0 ih _ _ _ h
          · rw [if_neg hc23] at h
            refine v_iload F dX11_span_98 0 rfl ?_
            refine v_iload F dX11_span_100 7 rfl ?_
            refine v_icmp_le (tgt := 119) F dX11_span_102 (by decide) (fun hc25 => ?_) (fun hc25 => ?_)
            · rw [if_pos hc25] at h
              refine v_sub (fun ls h9 => lv_sub h9 [1, 2, 3, 4, 5, 6, 7, 8] rfl) ?_
              exact w_X11_span_b119 F hr hlk t0 ih _ _ _ h
            · rw [if_neg hc25] at h
              refine v_goto (tgt := 115) F dX11_span_105 (by decide) ?_
              refine v_sub (fun ls h9 => lv_sub h9 [1, 2, 3, 4, 5, 6, 8, 0] rfl) ?_
              exact w_X11_span_b115 F hr hlk t0 ih _ _ _ h
set_option maxHeartbeats 4000000 in
set_option maxRecDepth 100000 in
theorem w_X11_span_b33 {g : gT} {p : Program} {l : Launch} {e : Env} {s : State} {m : MethodId} {args : Array Value} {below : List Frame} {meth : Method} {c : Code} {z : Int32 × Mem} (F : Fx g p s m args c cX11_span 9 uX11_span RX11) (hr : meth.sig.returnType = (some .int)) (hlk : meth.locks = false)  {a0 : Nat} {i1 : Int32} {i2 : Int32} {i3 : Int32} {i4 : Int32} {i5 : Int32} (t0 : Ty g 11 a0)   (s0 : Nat) (s1 : Int32) (M : Mem) (ts0 : Ty g 11 s0) (h : f_X11_span_b33 a0 i1 i2 i3 i4 i5 s0 s1 M = some z) : V g p l e ({ frames := 5, cells := 0, slots := 0, locals := 40 * 5 } : Room) s m args below meth c 9 0 0 (MQ below (gQ g (some (.int z.1)) z.2) args s 0 0 (gA g)) 33 [(0, .ref (gAd g a0)), (1, .int i1), (2, .int i2), (3, .int i3), (4, .int i4), (5, .int i5)] [.int s1, .ref (gAd g s0)] M := by
  unfold f_X11_span_b33 at h
  refine v_iconst (v := 2) F dX11_span_33 (by decide) ?_
  obtain ⟨⟨r11, M12⟩, hz13, h⟩ := bd_some h
  dsimp only at h
  refine v_callVi (As := [.int s1, .int 2]) (rest := []) F (c_X11_bad l F.2.2.1 ts0 hz13) (cwV 2 F.1.2.2.2.2 (gU_V ml_X11_176 im_yX11_bad se_yX11_bad ini_X11 cd_X11_bad) rfl rfl rfl (by decide +kernel) ⟨Nat.le_of_ble_eq_true rfl, Nat.le_of_ble_eq_true rfl⟩) ts0 (by decide) rfl rfl rfl (Nat.le_of_ble_eq_true rfl) dX11_span_34 ⟨Nat.le_of_ble_eq_true rfl, Nat.le_of_ble_eq_true rfl⟩ ?_
  refine v_if_eq (tgt := 42) F dX11_span_37 (by decide) (fun hc15 => ?_) (fun hc15 => ?_)
  · rw [if_pos hc15] at h
    refine v_iconst (v := (-1)) F dX11_span_42 (by decide) ?_
    refine v_istore (lv' := [(6, .int (-1)), (0, .ref (gAd g a0)), (1, .int i1), (2, .int i2), (3, .int i3), (4, .int i4), (5, .int i5)]) F dX11_span_43 (by decide) rfl ?_
    refine v_iconst (v := (-1)) F dX11_span_45 (by decide) ?_
    refine v_istore (lv' := [(7, .int (-1)), (6, .int (-1)), (0, .ref (gAd g a0)), (1, .int i1), (2, .int i2), (3, .int i3), (4, .int i4), (5, .int i5)]) F dX11_span_46 (by decide) rfl ?_
    refine v_sub (fun ls h9 => lv_sub h9 [2, 3, 4, 5, 6, 7, 1, 0] rfl) ?_
    exact w_X11_span_h48 F hr hlk t0 _ _ _ _ h
  · rw [if_neg hc15] at h
    refine v_iconst (v := 0) F dX11_span_40 (by decide) ?_
    cases h
    exact v_iret F hr rfl hlk dX11_span_41
set_option maxHeartbeats 4000000 in
set_option maxRecDepth 100000 in
theorem c_X11_span {g : gT} (l : Launch) (hok : gOK g)  {a0 : Nat} {i1 : Int32} {i2 : Int32} {i3 : Int32} {i4 : Int32} {i5 : Int32} {M : Mem} {z : Int32 × Mem}  (t0 : Ty g 11 a0) (h : f_X11_span  M a0 i1 i2 i3 i4 i5 = some z) : Cn g l yX11_span uX11_span 5 [.ref (gAd g a0), .int i1, .int i2, .int i3, .int i4, .int i5] M (some (.int z.1)) z.2 := by
  refine Cn.of (cc := cX11_span) (maxL := 9) (ret := (some .int)) hok (by decide) rfl (Nat.le_of_ble_eq_true rfl) (fun p e s m args below meth c F hr hlk => ?_)
  unfold f_X11_span at h
  show V g p l e ({ frames := 5, cells := 0, slots := 0, locals := 40 * 5 } : Room) s m args below meth c 9 0 0 (MQ below (gQ g (some (.int z.1)) z.2) args s 0 0 (gA g)) 0 [(0, .ref (gAd g a0)), (1, .int i1), (2, .int i2), (3, .int i3), (4, .int i4), (5, .int i5)] [] M
  refine v_aload_n F dX11_span_0 rfl 0 rfl ?_
  refine v_iconst (v := 0) F dX11_span_1 (by decide) ?_
  refine v_put (k := 0) (ty := .int) F t0 (by decide) (inc inU_11) tyX11 tyX11_ok nmX11 rfl rfl (by decide) (List.mem_cons_of_mem _ fl_X11_83) rfl rfl (by decide +kernel) rfl rfl dX11_span_2 ?_
  refine v_aload_n F dX11_span_5 rfl 0 rfl ?_
  refine v_iload_n F dX11_span_6 rfl 1 rfl ?_
  refine v_iconst (v := 0) F dX11_span_7 (by decide) ?_
  refine v_iload_n F dX11_span_8 rfl 2 rfl ?_
  refine v_iload_n F dX11_span_9 rfl 3 rfl ?_
  obtain ⟨⟨r1, M2⟩, hz3, h⟩ := bd_some h
  dsimp only at h
  refine v_callVi (As := [.int i1, .int 0, .int i2, .int i3]) (rest := []) F (c_X11_badTrial l F.2.2.1 t0 hz3) (cwV 4 F.1.2.2.2.2 (gU_V ml_X11_260 im_yX11_badTrial se_yX11_badTrial ini_X11 cd_X11_badTrial) rfl rfl rfl (by decide +kernel) ⟨Nat.le_of_ble_eq_true rfl, Nat.le_of_ble_eq_true rfl⟩) t0 (by decide) rfl rfl rfl (Nat.le_of_ble_eq_true rfl) dX11_span_10 ⟨Nat.le_of_ble_eq_true rfl, Nat.le_of_ble_eq_true rfl⟩ ?_
  refine v_if_ne (tgt := 40) F dX11_span_13 (by decide) (fun hc5 => ?_) (fun hc5 => ?_)
  · rw [if_neg hc5] at h
    refine v_iconst (v := 0) F dX11_span_40 (by decide) ?_
    cases h
    exact v_iret F hr rfl hlk dX11_span_41
  · rw [if_pos hc5] at h
    refine v_aload_n F dX11_span_16 rfl 0 rfl ?_
    refine v_iload F dX11_span_17 4 rfl ?_
    refine v_iconst (v := 0) F dX11_span_19 (by decide) ?_
    refine v_bipush (v := 50) F dX11_span_20 (by decide) ?_
    obtain ⟨⟨r6, M7⟩, hz8, h⟩ := bd_some h
    dsimp only at h
    refine v_callSi (As := [.int i4, .int 0, .int 50]) (rest := [.ref (gAd g a0)]) F (c_X11_in l F.2.2.1  hz8) (cwS 3 F.1.2.2.2.2 (gU_S ml_X11_172 st_yX11_in ini_X11 cd_X11_in) rfl rfl rfl (by decide +kernel) ⟨Nat.le_of_ble_eq_true rfl, Nat.le_of_ble_eq_true rfl⟩) rfl rfl (Nat.le_of_ble_eq_true rfl) dX11_span_22 ⟨Nat.le_of_ble_eq_true rfl, Nat.le_of_ble_eq_true rfl⟩ ?_
    refine v_if_ne (tgt := 32) F dX11_span_25 (by decide) (fun hc10 => ?_) (fun hc10 => ?_)
    · rw [if_neg hc10] at h
      refine v_iconst (v := 0) F dX11_span_32 (by decide) ?_
      exact w_X11_span_b33 F hr hlk t0 _ _ _ t0 h
    · rw [if_pos hc10] at h
      refine v_iconst (v := 1) F dX11_span_28 (by decide) ?_
      refine v_goto (tgt := 33) F dX11_span_29 (by decide) ?_
      exact w_X11_span_b33 F hr hlk t0 _ _ _ t0 h
def f_X11_bridge_h56 (a0 : Nat) (i1 : Int32)  : Nat → Int32 → Mem → Option (Int32 × Mem)
  | 0, _, _ => none
  | n + 1, x2, M => if 10 ≤ x2 then (some (((mU M a0 33 ((M a0 33) + 1)) a0 33) - 1, (mU M a0 33 ((M a0 33) + 1)))) else (if ¬ ((M a0 33) < 0 ∨ gN (gRf a0 38) ≤ (M a0 33 : Int32).toNatClampNeg) then (if ¬ (x2 < 0 ∨ gN (gRf (gRf a0 38) (M a0 33 : Int32).toNatClampNeg) ≤ x2.toNatClampNeg) then ((f_X11_bridge_h56 a0 i1 n) (x2 + 1) (mU M (gRf (gRf a0 38) (M a0 33 : Int32).toNatClampNeg) x2.toNatClampNeg 0)) else none) else none)
def f_X11_bridge_b21 (a0 : Nat) (i1 : Int32)  (s0 : Nat) (s1 : Int32) (M : Mem) : Option (Int32 × Mem) := (f_X11_bad M s0 s1 1).bind fun q => match q with | (r6, M7) => (if r6 = 0 then (if (M7 a0 33) = 6 then (some ((-1), M7)) else (if ¬ ((M7 a0 33) < 0 ∨ gN (gRf a0 38) ≤ (M7 a0 33 : Int32).toNatClampNeg) then (if ¬ ((10 : Int32) < 0 ∨ gN (gRf (gRf a0 38) (M7 a0 33 : Int32).toNatClampNeg) ≤ (10 : Int32).toNatClampNeg) then (f_X11_bridge_h56 a0 i1 FU 0 (mU M7 (gRf (gRf a0 38) (M7 a0 33 : Int32).toNatClampNeg) (10 : Int32).toNatClampNeg i1)) else none) else none)) else (some (0, M7)))
def f_X11_bridge  (M : Mem) (a0 : Nat) (i1 : Int32) : Option (Int32 × Mem) := (f_X11_in (mU M a0 0 0) i1 0 60).bind fun q => match q with | (r1, M2) => (if r1 = 0 then (f_X11_bridge_b21 a0 i1 a0 1 M2) else (f_X11_bridge_b21 a0 i1 a0 0 M2))
set_option maxHeartbeats 4000000 in
set_option maxRecDepth 100000 in
theorem w_X11_bridge_h56 {g : gT} {p : Program} {l : Launch} {e : Env} {s : State} {m : MethodId} {args : Array Value} {below : List Frame} {meth : Method} {c : Code} {z : Int32 × Mem} (F : Fx g p s m args c cX11_bridge 3 uX11_bridge RX11) (hr : meth.sig.returnType = (some .int)) (hlk : meth.locks = false)  {a0 : Nat} {i1 : Int32} (t0 : Ty g 11 a0)   : ∀ (n : Nat) (x2 : Int32) (M : Mem), f_X11_bridge_h56 a0 i1 n x2 M = some z → V g p l e ({ frames := 1, cells := 0, slots := 0, locals := 40 * 1 } : Room) s m args below meth c 3 0 0 (MQ below (gQ g (some (.int z.1)) z.2) args s 0 0 (gA g)) 56 [(0, .ref (gAd g a0)), (1, .int i1), (2, .int x2)] [] M := by
  intro n
  induction n with
  | zero => intro x2 M; intros; rename_i h; cases h
  | succ n ih =>
    intro x2 M h
    rw [f_X11_bridge_h56] at h
    refine v_iload_n F dX11_bridge_56 rfl 2 rfl ?_
    refine v_bipush (v := 10) F dX11_bridge_57 (by decide) ?_
    refine v_icmp_ge (tgt := 80) F dX11_bridge_59 (by decide) (fun hc16 => ?_) (fun hc16 => ?_)
    · rw [if_pos hc16] at h
      refine v_aload_n F dX11_bridge_80 rfl 0 rfl ?_
      refine v_dup F dX11_bridge_81 rfl ?_
      refine v_getI (k := 33) F t0 (by decide) (inc inU_11) rfl rfl (by decide) (List.mem_cons_of_mem _ fl_X11_295) rfl dX11_bridge_82 ?_
      refine v_iconst (v := 1) F dX11_bridge_85 (by decide) ?_
      refine v_iadd F dX11_bridge_86 ?_
      refine v_put (k := 33) (ty := .int) F t0 (by decide) (inc inU_11) tyX11 tyX11_ok nmX11 rfl rfl (by decide) (List.mem_cons_of_mem _ fl_X11_295) rfl rfl (by decide +kernel) rfl rfl dX11_bridge_87 ?_
      refine v_aload_n F dX11_bridge_90 rfl 0 rfl ?_
      refine v_getI (k := 33) F t0 (by decide) (inc inU_11) rfl rfl (by decide) (List.mem_cons_of_mem _ fl_X11_295) rfl dX11_bridge_91 ?_
      refine v_iconst (v := 1) F dX11_bridge_94 (by decide) ?_
      refine v_isub F dX11_bridge_95 ?_
      cases h
      exact v_iret F hr rfl hlk dX11_bridge_96
    · rw [if_neg hc16] at h
      refine v_aload_n F dX11_bridge_62 rfl 0 rfl ?_
      refine v_getR (k := 38) (f := 16) F t0 (by decide) (inc inU_11) rfl rfl (by decide) (by decide) (List.mem_cons_of_mem _ fl_X11_74) rfl dX11_bridge_63 (fun u17 => ?_)
      refine v_aload_n F dX11_bridge_66 rfl 0 rfl ?_
      refine v_getI (k := 33) F t0 (by decide) (inc inU_11) rfl rfl (by decide) (List.mem_cons_of_mem _ fl_X11_295) rfl dX11_bridge_67 ?_
      obtain ⟨hin18, h⟩ := gd_some h
      refine v_aald (ke := 12) (t0 := 4) F u17 (by decide) rfl rfl hin18 dX11_bridge_70 (fun u19 => ?_)
      refine v_iload_n F dX11_bridge_71 rfl 2 rfl ?_
      refine v_iconst (v := 0) F dX11_bridge_72 (by decide) ?_
      obtain ⟨hin20, h⟩ := gd_some h
      refine v_iast F u19 hin20 dX11_bridge_73 ?_
      refine v_iinc (v := x2 + 1) (lv' := [(2, .int (x2 + 1)), (0, .ref (gAd g a0)), (1, .int i1)]) F dX11_bridge_74 (q := 2) rfl rfl (by decide) rfl ?_
      refine v_goto (tgt := 56) F dX11_bridge_77 (by decide) ?_
      refine v_sub (fun ls h9 => lv_sub h9 [1, 2, 0] rfl) ?_
      exact ih _ _ h
set_option maxHeartbeats 4000000 in
set_option maxRecDepth 100000 in
theorem w_X11_bridge_b21 {g : gT} {p : Program} {l : Launch} {e : Env} {s : State} {m : MethodId} {args : Array Value} {below : List Frame} {meth : Method} {c : Code} {z : Int32 × Mem} (F : Fx g p s m args c cX11_bridge 3 uX11_bridge RX11) (hr : meth.sig.returnType = (some .int)) (hlk : meth.locks = false)  {a0 : Nat} {i1 : Int32} (t0 : Ty g 11 a0)   (s0 : Nat) (s1 : Int32) (M : Mem) (ts0 : Ty g 11 s0) (h : f_X11_bridge_b21 a0 i1 s0 s1 M = some z) : V g p l e ({ frames := 1, cells := 0, slots := 0, locals := 40 * 1 } : Room) s m args below meth c 3 0 0 (MQ below (gQ g (some (.int z.1)) z.2) args s 0 0 (gA g)) 21 [(0, .ref (gAd g a0)), (1, .int i1)] [.int s1, .ref (gAd g s0)] M := by
  unfold f_X11_bridge_b21 at h
  refine v_iconst (v := 1) F dX11_bridge_21 (by decide) ?_
  obtain ⟨⟨r6, M7⟩, hz8, h⟩ := bd_some h
  dsimp only at h
  refine v_callVi (As := [.int s1, .int 1]) (rest := []) F (c_X11_bad l F.2.2.1 ts0 hz8) (cwV 2 F.1.2.2.2.2 (gU_V ml_X11_176 im_yX11_bad se_yX11_bad ini_X11 cd_X11_bad) rfl rfl rfl (by decide +kernel) ⟨Nat.le_of_ble_eq_true rfl, Nat.le_of_ble_eq_true rfl⟩) ts0 (by decide) rfl rfl rfl (Nat.le_of_ble_eq_true rfl) dX11_bridge_22 ⟨Nat.le_of_ble_eq_true rfl, Nat.le_of_ble_eq_true rfl⟩ ?_
  refine v_if_eq (tgt := 30) F dX11_bridge_25 (by decide) (fun hc10 => ?_) (fun hc10 => ?_)
  · rw [if_pos hc10] at h
    refine v_aload_n F dX11_bridge_30 rfl 0 rfl ?_
    refine v_getI (k := 33) F t0 (by decide) (inc inU_11) rfl rfl (by decide) (List.mem_cons_of_mem _ fl_X11_295) rfl dX11_bridge_31 ?_
    refine v_bipush (v := 6) F dX11_bridge_34 (by decide) ?_
    refine v_icmp_ne (tgt := 41) F dX11_bridge_36 (by decide) (fun hc11 => ?_) (fun hc11 => ?_)
    · rw [if_neg hc11] at h
      refine v_aload_n F dX11_bridge_41 rfl 0 rfl ?_
      refine v_getR (k := 38) (f := 16) F t0 (by decide) (inc inU_11) rfl rfl (by decide) (by decide) (List.mem_cons_of_mem _ fl_X11_74) rfl dX11_bridge_42 (fun u12 => ?_)
      refine v_aload_n F dX11_bridge_45 rfl 0 rfl ?_
      refine v_getI (k := 33) F t0 (by decide) (inc inU_11) rfl rfl (by decide) (List.mem_cons_of_mem _ fl_X11_295) rfl dX11_bridge_46 ?_
      obtain ⟨hin13, h⟩ := gd_some h
      refine v_aald (ke := 12) (t0 := 4) F u12 (by decide) rfl rfl hin13 dX11_bridge_49 (fun u14 => ?_)
      refine v_bipush (v := 10) F dX11_bridge_50 (by decide) ?_
      refine v_iload_n F dX11_bridge_52 rfl 1 rfl ?_
      obtain ⟨hin15, h⟩ := gd_some h
      refine v_iast F u14 hin15 dX11_bridge_53 ?_
      refine v_iconst (v := 0) F dX11_bridge_54 (by decide) ?_
      refine v_istore_n (lv' := [(2, .int 0), (0, .ref (gAd g a0)), (1, .int i1)]) F dX11_bridge_55 rfl (by decide) rfl ?_
      refine v_sub (fun ls h9 => lv_sub h9 [1, 2, 0] rfl) ?_
      exact w_X11_bridge_h56 F hr hlk t0 _ _ _ h
    · rw [if_pos hc11] at h
      refine v_iconst (v := (-1)) F dX11_bridge_39 (by decide) ?_
      cases h
      exact v_iret F hr rfl hlk dX11_bridge_40
  · rw [if_neg hc10] at h
    refine v_iconst (v := 0) F dX11_bridge_28 (by decide) ?_
    cases h
    exact v_iret F hr rfl hlk dX11_bridge_29
set_option maxHeartbeats 4000000 in
set_option maxRecDepth 100000 in
theorem c_X11_bridge {g : gT} (l : Launch) (hok : gOK g)  {a0 : Nat} {i1 : Int32} {M : Mem} {z : Int32 × Mem}  (t0 : Ty g 11 a0) (h : f_X11_bridge  M a0 i1 = some z) : Cn g l yX11_bridge uX11_bridge 1 [.ref (gAd g a0), .int i1] M (some (.int z.1)) z.2 := by
  refine Cn.of (cc := cX11_bridge) (maxL := 3) (ret := (some .int)) hok (by decide) rfl (Nat.le_of_ble_eq_true rfl) (fun p e s m args below meth c F hr hlk => ?_)
  unfold f_X11_bridge at h
  show V g p l e ({ frames := 1, cells := 0, slots := 0, locals := 40 * 1 } : Room) s m args below meth c 3 0 0 (MQ below (gQ g (some (.int z.1)) z.2) args s 0 0 (gA g)) 0 [(0, .ref (gAd g a0)), (1, .int i1)] [] M
  refine v_aload_n F dX11_bridge_0 rfl 0 rfl ?_
  refine v_iconst (v := 0) F dX11_bridge_1 (by decide) ?_
  refine v_put (k := 0) (ty := .int) F t0 (by decide) (inc inU_11) tyX11 tyX11_ok nmX11 rfl rfl (by decide) (List.mem_cons_of_mem _ fl_X11_83) rfl rfl (by decide +kernel) rfl rfl dX11_bridge_2 ?_
  refine v_aload_n F dX11_bridge_5 rfl 0 rfl ?_
  refine v_iload_n F dX11_bridge_6 rfl 1 rfl ?_
  refine v_iconst (v := 0) F dX11_bridge_7 (by decide) ?_
  refine v_bipush (v := 60) F dX11_bridge_8 (by decide) ?_
  obtain ⟨⟨r1, M2⟩, hz3, h⟩ := bd_some h
  dsimp only at h
  refine v_callSi (As := [.int i1, .int 0, .int 60]) (rest := [.ref (gAd g a0)]) F (c_X11_in l F.2.2.1  hz3) (cwS 3 F.1.2.2.2.2 (gU_S ml_X11_172 st_yX11_in ini_X11 cd_X11_in) rfl rfl rfl (by decide +kernel) ⟨Nat.le_of_ble_eq_true rfl, Nat.le_of_ble_eq_true rfl⟩) rfl rfl (Nat.le_of_ble_eq_true rfl) dX11_bridge_10 ⟨Nat.le_of_ble_eq_true rfl, Nat.le_of_ble_eq_true rfl⟩ ?_
  refine v_if_ne (tgt := 20) F dX11_bridge_13 (by decide) (fun hc5 => ?_) (fun hc5 => ?_)
  · rw [if_neg hc5] at h
    refine v_iconst (v := 0) F dX11_bridge_20 (by decide) ?_
    exact w_X11_bridge_b21 F hr hlk t0 _ _ _ t0 h
  · rw [if_pos hc5] at h
    refine v_iconst (v := 1) F dX11_bridge_16 (by decide) ?_
    refine v_goto (tgt := 21) F dX11_bridge_17 (by decide) ?_
    exact w_X11_bridge_b21 F hr hlk t0 _ _ _ t0 h
def f_X11_isBridge  (M : Mem) (a0 : Nat) (i1 : Int32) : Option (Int32 × Mem) := (f_X11_in M i1 0 ((M a0 33) - 1)).bind fun q => match q with | (r1, M2) => (if vp_nar .boolean r1 = r1 then (some (r1, M2)) else none)
set_option maxHeartbeats 4000000 in
set_option maxRecDepth 100000 in
theorem c_X11_isBridge {g : gT} (l : Launch) (hok : gOK g)  {a0 : Nat} {i1 : Int32} {M : Mem} {z : Int32 × Mem}  (t0 : Ty g 11 a0) (h : f_X11_isBridge  M a0 i1 = some z) : Cn g l yX11_isBridge uX11_isBridge 1 [.ref (gAd g a0), .int i1] M (some (.int z.1)) z.2 := by
  refine Cn.of (cc := cX11_isBridge) (maxL := 2) (ret := (some .boolean)) hok (by decide) rfl (Nat.le_of_ble_eq_true rfl) (fun p e s m args below meth c F hr hlk => ?_)
  unfold f_X11_isBridge at h
  show V g p l e ({ frames := 1, cells := 0, slots := 0, locals := 40 * 1 } : Room) s m args below meth c 2 0 0 (MQ below (gQ g (some (.int z.1)) z.2) args s 0 0 (gA g)) 0 [(0, .ref (gAd g a0)), (1, .int i1)] [] M
  refine v_iload_n F dX11_isBridge_0 rfl 1 rfl ?_
  refine v_iconst (v := 0) F dX11_isBridge_1 (by decide) ?_
  refine v_aload_n F dX11_isBridge_2 rfl 0 rfl ?_
  refine v_getI (k := 33) F t0 (by decide) (inc inU_11) rfl rfl (by decide) (List.mem_cons_of_mem _ fl_X11_295) rfl dX11_isBridge_3 ?_
  refine v_iconst (v := 1) F dX11_isBridge_6 (by decide) ?_
  refine v_isub F dX11_isBridge_7 ?_
  obtain ⟨⟨r1, M2⟩, hz3, h⟩ := bd_some h
  dsimp only at h
  refine v_callSi (As := [.int i1, .int 0, .int ((M a0 33) - 1)]) (rest := []) F (c_X11_in l F.2.2.1  hz3) (cwS 3 F.1.2.2.2.2 (gU_S ml_X11_172 st_yX11_in ini_X11 cd_X11_in) rfl rfl rfl (by decide +kernel) ⟨Nat.le_of_ble_eq_true rfl, Nat.le_of_ble_eq_true rfl⟩) rfl rfl (Nat.le_of_ble_eq_true rfl) dX11_isBridge_8 ⟨Nat.le_of_ble_eq_true rfl, Nat.le_of_ble_eq_true rfl⟩ ?_
  by_cases hb5 : vp_nar .boolean r1 = r1
  rotate_left
  · rw [if_neg hb5] at h; cases h
  rw [if_pos hb5] at h
  cases h
  exact v_iret F hr (nb_ok hb5) hlk dX11_isBridge_11
def f_X11_blows_b53 (a0 : Nat) (i1 : Int32) (i2 : Int32) (i3 : Int32)  (s0 : Nat) (s1 : Int32) (M : Mem) : Option (Int32 × Mem) := (f_X11_bad M s0 s1 2).bind fun q => match q with | (r21, M22) => (if r21 = 0 then (if ¬ (i1 < 0 ∨ gN (gRf a0 38) ≤ i1.toNatClampNeg) then (if ¬ (i2 < 0 ∨ gN (gRf (gRf a0 38) i1.toNatClampNeg) ≤ i2.toNatClampNeg) then (if ¬ (i1 < 0 ∨ gN (gRf a0 38) ≤ i1.toNatClampNeg) then (if ¬ (i2 < 0 ∨ gN (gRf (gRf a0 38) i1.toNatClampNeg) ≤ i2.toNatClampNeg) then (some (M22 (gRf (gRf a0 38) i1.toNatClampNeg) i2.toNatClampNeg, (mU M22 (gRf (gRf a0 38) i1.toNatClampNeg) i2.toNatClampNeg i3))) else none) else none) else none) else none) else (some (0, M22)))
def f_X11_blows_b48 (a0 : Nat) (i1 : Int32) (i2 : Int32) (i3 : Int32)  (s0 : Nat) (M : Mem) : Option (Int32 × Mem) := f_X11_blows_b53 a0 i1 i2 i3 s0 1 M
def f_X11_blows_b19 (a0 : Nat) (i1 : Int32) (i2 : Int32) (i3 : Int32)  (s0 : Nat) (s1 : Int32) (M : Mem) : Option (Int32 × Mem) := (f_X11_bad M s0 s1 1).bind fun q => match q with | (r6, M7) => (if r6 = 0 then ((f_X11_in M7 i2 0 9).bind fun q => match q with | (r11, M12) => (if r11 = 0 then (f_X11_blows_b48 a0 i1 i2 i3 a0 M12) else ((f_X11_in M12 i3 0 999).bind fun q => match q with | (r16, M17) => (if r16 = 0 then (f_X11_blows_b48 a0 i1 i2 i3 a0 M17) else (f_X11_blows_b53 a0 i1 i2 i3 a0 0 M17))))) else (some (0, M7)))
def f_X11_blows  (M : Mem) (a0 : Nat) (i1 : Int32) (i2 : Int32) (i3 : Int32) : Option (Int32 × Mem) := (f_X11_isBridge (mU M a0 0 0) a0 i1).bind fun q => match q with | (r1, M2) => (if r1 = 0 then (f_X11_blows_b19 a0 i1 i2 i3 a0 1 M2) else (f_X11_blows_b19 a0 i1 i2 i3 a0 0 M2))
set_option maxHeartbeats 4000000 in
set_option maxRecDepth 100000 in
theorem w_X11_blows_b53 {g : gT} {p : Program} {l : Launch} {e : Env} {s : State} {m : MethodId} {args : Array Value} {below : List Frame} {meth : Method} {c : Code} {z : Int32 × Mem} (F : Fx g p s m args c cX11_blows 5 uX11_blows RX11) (hr : meth.sig.returnType = (some .int)) (hlk : meth.locks = false)  {a0 : Nat} {i1 : Int32} {i2 : Int32} {i3 : Int32} (t0 : Ty g 11 a0)   (s0 : Nat) (s1 : Int32) (M : Mem) (ts0 : Ty g 11 s0) (h : f_X11_blows_b53 a0 i1 i2 i3 s0 s1 M = some z) : V g p l e ({ frames := 2, cells := 0, slots := 0, locals := 40 * 2 } : Room) s m args below meth c 5 0 0 (MQ below (gQ g (some (.int z.1)) z.2) args s 0 0 (gA g)) 53 [(0, .ref (gAd g a0)), (1, .int i1), (2, .int i2), (3, .int i3)] [.int s1, .ref (gAd g s0)] M := by
  unfold f_X11_blows_b53 at h
  refine v_iconst (v := 2) F dX11_blows_53 (by decide) ?_
  obtain ⟨⟨r21, M22⟩, hz23, h⟩ := bd_some h
  dsimp only at h
  refine v_callVi (As := [.int s1, .int 2]) (rest := []) F (c_X11_bad l F.2.2.1 ts0 hz23) (cwV 2 F.1.2.2.2.2 (gU_V ml_X11_176 im_yX11_bad se_yX11_bad ini_X11 cd_X11_bad) rfl rfl rfl (by decide +kernel) ⟨Nat.le_of_ble_eq_true rfl, Nat.le_of_ble_eq_true rfl⟩) ts0 (by decide) rfl rfl rfl (Nat.le_of_ble_eq_true rfl) dX11_blows_54 ⟨Nat.le_of_ble_eq_true rfl, Nat.le_of_ble_eq_true rfl⟩ ?_
  refine v_if_eq (tgt := 62) F dX11_blows_57 (by decide) (fun hc25 => ?_) (fun hc25 => ?_)
  · rw [if_pos hc25] at h
    refine v_aload_n F dX11_blows_62 rfl 0 rfl ?_
    refine v_getR (k := 38) (f := 16) F t0 (by decide) (inc inU_11) rfl rfl (by decide) (by decide) (List.mem_cons_of_mem _ fl_X11_74) rfl dX11_blows_63 (fun u26 => ?_)
    refine v_iload_n F dX11_blows_66 rfl 1 rfl ?_
    obtain ⟨hin27, h⟩ := gd_some h
    refine v_aald (ke := 12) (t0 := 4) F u26 (by decide) rfl rfl hin27 dX11_blows_67 (fun u28 => ?_)
    refine v_iload_n F dX11_blows_68 rfl 2 rfl ?_
    obtain ⟨hin29, h⟩ := gd_some h
    refine v_iald F u28 hin29 dX11_blows_69 ?_
    refine v_istore (lv' := [(4, .int (M22 (gRf (gRf a0 38) i1.toNatClampNeg) i2.toNatClampNeg)), (0, .ref (gAd g a0)), (1, .int i1), (2, .int i2), (3, .int i3)]) F dX11_blows_70 (by decide) rfl ?_
    refine v_aload_n F dX11_blows_72 rfl 1 rfl ?_
    refine v_getR (k := 38) (f := 16) F t0 (by decide) (inc inU_11) rfl rfl (by decide) (by decide) (List.mem_cons_of_mem _ fl_X11_74) rfl dX11_blows_73 (fun u30 => ?_)
    refine v_iload_n F dX11_blows_76 rfl 2 rfl ?_
    obtain ⟨hin31, h⟩ := gd_some h
    refine v_aald (ke := 12) (t0 := 4) F u30 (by decide) rfl rfl hin31 dX11_blows_77 (fun u32 => ?_)
    refine v_iload_n F dX11_blows_78 rfl 3 rfl ?_
    refine v_iload_n F dX11_blows_79 rfl 4 rfl ?_
    obtain ⟨hin33, h⟩ := gd_some h
    refine v_iast F u32 hin33 dX11_blows_80 ?_
    refine v_iload F dX11_blows_81 0 rfl ?_
    cases h
    exact v_iret F hr rfl hlk dX11_blows_83
  · rw [if_neg hc25] at h
    refine v_iconst (v := 0) F dX11_blows_60 (by decide) ?_
    cases h
    exact v_iret F hr rfl hlk dX11_blows_61
set_option maxHeartbeats 4000000 in
set_option maxRecDepth 100000 in
theorem w_X11_blows_b48 {g : gT} {p : Program} {l : Launch} {e : Env} {s : State} {m : MethodId} {args : Array Value} {below : List Frame} {meth : Method} {c : Code} {z : Int32 × Mem} (F : Fx g p s m args c cX11_blows 5 uX11_blows RX11) (hr : meth.sig.returnType = (some .int)) (hlk : meth.locks = false)  {a0 : Nat} {i1 : Int32} {i2 : Int32} {i3 : Int32} (t0 : Ty g 11 a0)   (s0 : Nat) (M : Mem) (ts0 : Ty g 11 s0) (h : f_X11_blows_b48 a0 i1 i2 i3 s0 M = some z) : V g p l e ({ frames := 2, cells := 0, slots := 0, locals := 40 * 2 } : Room) s m args below meth c 5 0 0 (MQ below (gQ g (some (.int z.1)) z.2) args s 0 0 (gA g)) 48 [(0, .ref (gAd g a0)), (1, .int i1), (2, .int i2), (3, .int i3)] [.ref (gAd g s0)] M := by
  unfold f_X11_blows_b48 at h
  refine v_iconst (v := 1) F dX11_blows_48 (by decide) ?_
  refine v_goto (tgt := 53) F dX11_blows_49 (by decide) ?_
  exact w_X11_blows_b53 F hr hlk t0 _ _ _ ts0 h
set_option maxHeartbeats 4000000 in
set_option maxRecDepth 100000 in
theorem w_X11_blows_b19 {g : gT} {p : Program} {l : Launch} {e : Env} {s : State} {m : MethodId} {args : Array Value} {below : List Frame} {meth : Method} {c : Code} {z : Int32 × Mem} (F : Fx g p s m args c cX11_blows 5 uX11_blows RX11) (hr : meth.sig.returnType = (some .int)) (hlk : meth.locks = false)  {a0 : Nat} {i1 : Int32} {i2 : Int32} {i3 : Int32} (t0 : Ty g 11 a0)   (s0 : Nat) (s1 : Int32) (M : Mem) (ts0 : Ty g 11 s0) (h : f_X11_blows_b19 a0 i1 i2 i3 s0 s1 M = some z) : V g p l e ({ frames := 2, cells := 0, slots := 0, locals := 40 * 2 } : Room) s m args below meth c 5 0 0 (MQ below (gQ g (some (.int z.1)) z.2) args s 0 0 (gA g)) 19 [(0, .ref (gAd g a0)), (1, .int i1), (2, .int i2), (3, .int i3)] [.int s1, .ref (gAd g s0)] M := by
  unfold f_X11_blows_b19 at h
  refine v_iconst (v := 1) F dX11_blows_19 (by decide) ?_
  obtain ⟨⟨r6, M7⟩, hz8, h⟩ := bd_some h
  dsimp only at h
  refine v_callVi (As := [.int s1, .int 1]) (rest := []) F (c_X11_bad l F.2.2.1 ts0 hz8) (cwV 2 F.1.2.2.2.2 (gU_V ml_X11_176 im_yX11_bad se_yX11_bad ini_X11 cd_X11_bad) rfl rfl rfl (by decide +kernel) ⟨Nat.le_of_ble_eq_true rfl, Nat.le_of_ble_eq_true rfl⟩) ts0 (by decide) rfl rfl rfl (Nat.le_of_ble_eq_true rfl) dX11_blows_20 ⟨Nat.le_of_ble_eq_true rfl, Nat.le_of_ble_eq_true rfl⟩ ?_
  refine v_if_ne (tgt := 60) F dX11_blows_23 (by decide) (fun hc10 => ?_) (fun hc10 => ?_)
  · rw [if_neg hc10] at h
    refine v_iconst (v := 0) F dX11_blows_60 (by decide) ?_
    cases h
    exact v_iret F hr rfl hlk dX11_blows_61
  · rw [if_pos hc10] at h
    refine v_aload_n F dX11_blows_26 rfl 0 rfl ?_
    refine v_iload_n F dX11_blows_27 rfl 2 rfl ?_
    refine v_iconst (v := 0) F dX11_blows_28 (by decide) ?_
    refine v_bipush (v := 9) F dX11_blows_29 (by decide) ?_
    obtain ⟨⟨r11, M12⟩, hz13, h⟩ := bd_some h
    dsimp only at h
    refine v_callSi (As := [.int i2, .int 0, .int 9]) (rest := [.ref (gAd g a0)]) F (c_X11_in l F.2.2.1  hz13) (cwS 3 F.1.2.2.2.2 (gU_S ml_X11_172 st_yX11_in ini_X11 cd_X11_in) rfl rfl rfl (by decide +kernel) ⟨Nat.le_of_ble_eq_true rfl, Nat.le_of_ble_eq_true rfl⟩) rfl rfl (Nat.le_of_ble_eq_true rfl) dX11_blows_31 ⟨Nat.le_of_ble_eq_true rfl, Nat.le_of_ble_eq_true rfl⟩ ?_
    refine v_if_eq (tgt := 48) F dX11_blows_34 (by decide) (fun hc15 => ?_) (fun hc15 => ?_)
    · rw [if_pos hc15] at h
      exact w_X11_blows_b48 F hr hlk t0 _ _ t0 h
    · rw [if_neg hc15] at h
      refine v_iload_n F dX11_blows_37 rfl 3 rfl ?_
      refine v_iconst (v := 0) F dX11_blows_38 (by decide) ?_
      refine v_sipush (v := 999) F dX11_blows_39 (by decide) ?_
      obtain ⟨⟨r16, M17⟩, hz18, h⟩ := bd_some h
      dsimp only at h
      refine v_callSi (As := [.int i3, .int 0, .int 999]) (rest := [.ref (gAd g a0)]) F (c_X11_in l F.2.2.1  hz18) (cwS 3 F.1.2.2.2.2 (gU_S ml_X11_172 st_yX11_in ini_X11 cd_X11_in) rfl rfl rfl (by decide +kernel) ⟨Nat.le_of_ble_eq_true rfl, Nat.le_of_ble_eq_true rfl⟩) rfl rfl (Nat.le_of_ble_eq_true rfl) dX11_blows_42 ⟨Nat.le_of_ble_eq_true rfl, Nat.le_of_ble_eq_true rfl⟩ ?_
      refine v_if_ne (tgt := 52) F dX11_blows_45 (by decide) (fun hc20 => ?_) (fun hc20 => ?_)
      · rw [if_neg hc20] at h
        refine v_iconst (v := 0) F dX11_blows_52 (by decide) ?_
        exact w_X11_blows_b53 F hr hlk t0 _ _ _ t0 h
      · rw [if_pos hc20] at h
        exact w_X11_blows_b48 F hr hlk t0 _ _ t0 h
set_option maxHeartbeats 4000000 in
set_option maxRecDepth 100000 in
theorem c_X11_blows {g : gT} (l : Launch) (hok : gOK g)  {a0 : Nat} {i1 : Int32} {i2 : Int32} {i3 : Int32} {M : Mem} {z : Int32 × Mem}  (t0 : Ty g 11 a0) (h : f_X11_blows  M a0 i1 i2 i3 = some z) : Cn g l yX11_blows uX11_blows 2 [.ref (gAd g a0), .int i1, .int i2, .int i3] M (some (.int z.1)) z.2 := by
  refine Cn.of (cc := cX11_blows) (maxL := 5) (ret := (some .int)) hok (by decide) rfl (Nat.le_of_ble_eq_true rfl) (fun p e s m args below meth c F hr hlk => ?_)
  unfold f_X11_blows at h
  show V g p l e ({ frames := 2, cells := 0, slots := 0, locals := 40 * 2 } : Room) s m args below meth c 5 0 0 (MQ below (gQ g (some (.int z.1)) z.2) args s 0 0 (gA g)) 0 [(0, .ref (gAd g a0)), (1, .int i1), (2, .int i2), (3, .int i3)] [] M
  refine v_aload_n F dX11_blows_0 rfl 0 rfl ?_
  refine v_iconst (v := 0) F dX11_blows_1 (by decide) ?_
  refine v_put (k := 0) (ty := .int) F t0 (by decide) (inc inU_11) tyX11 tyX11_ok nmX11 rfl rfl (by decide) (List.mem_cons_of_mem _ fl_X11_83) rfl rfl (by decide +kernel) rfl rfl dX11_blows_2 ?_
  refine v_aload_n F dX11_blows_5 rfl 0 rfl ?_
  refine v_aload_n F dX11_blows_6 rfl 0 rfl ?_
  refine v_iload_n F dX11_blows_7 rfl 1 rfl ?_
  obtain ⟨⟨r1, M2⟩, hz3, h⟩ := bd_some h
  dsimp only at h
  refine v_callVi (As := [.int i1]) (rest := [.ref (gAd g a0)]) F (c_X11_isBridge l F.2.2.1 t0 hz3) (cwV 1 F.1.2.2.2.2 (gU_V ml_X11_298 im_yX11_isBridge se_yX11_isBridge ini_X11 cd_X11_isBridge) rfl rfl rfl (by decide +kernel) ⟨Nat.le_of_ble_eq_true rfl, Nat.le_of_ble_eq_true rfl⟩) t0 (by decide) rfl rfl rfl (Nat.le_of_ble_eq_true rfl) dX11_blows_8 ⟨Nat.le_of_ble_eq_true rfl, Nat.le_of_ble_eq_true rfl⟩ ?_
  refine v_if_ne (tgt := 18) F dX11_blows_11 (by decide) (fun hc5 => ?_) (fun hc5 => ?_)
  · rw [if_neg hc5] at h
    refine v_iconst (v := 0) F dX11_blows_18 (by decide) ?_
    exact w_X11_blows_b19 F hr hlk t0 _ _ _ t0 h
  · rw [if_pos hc5] at h
    refine v_iconst (v := 1) F dX11_blows_14 (by decide) ?_
    refine v_goto (tgt := 19) F dX11_blows_15 (by decide) ?_
    exact w_X11_blows_b19 F hr hlk t0 _ _ _ t0 h
def f_X11_hours_b67 (a0 : Nat) (i1 : Int32) (k32 : Int32 → Int32 → Mem → Option (Int32 × Mem)) (s0 : Int32) (s1 : Int32) (x3 : Int32) (M : Mem) : Option (Int32 × Mem) := k32 (s0 + s1) (x3 + 1) M
def f_X11_hours_h32 (a0 : Nat) (i1 : Int32)  : Nat → Int32 → Int32 → Mem → Option (Int32 × Mem)
  | 0, _, _, _ => none
  | n + 1, x2, x3, M => if 10 ≤ x3 then (some (x2, M)) else (if ¬ (i1 < 0 ∨ gN (gRf a0 38) ≤ i1.toNatClampNeg) then (if ¬ ((10 : Int32) < 0 ∨ gN (gRf (gRf a0 38) i1.toNatClampNeg) ≤ (10 : Int32).toNatClampNeg) then (if (6 * x3) < (M (gRf (gRf a0 38) i1.toNatClampNeg) (10 : Int32).toNatClampNeg) then (f_X11_hours_b67 a0 i1 (f_X11_hours_h32 a0 i1 n) x2 0 x3 M) else (if ¬ (i1 < 0 ∨ gN (gRf a0 38) ≤ i1.toNatClampNeg) then (if ¬ (x3 < 0 ∨ gN (gRf (gRf a0 38) i1.toNatClampNeg) ≤ x3.toNatClampNeg) then (f_X11_hours_b67 a0 i1 (f_X11_hours_h32 a0 i1 n) x2 (M (gRf (gRf a0 38) i1.toNatClampNeg) x3.toNatClampNeg) x3 M) else none) else none)) else none) else none)
def f_X11_hours_b19 (a0 : Nat) (i1 : Int32)  (s0 : Nat) (s1 : Int32) (M : Mem) : Option (Int32 × Mem) := (f_X11_bad M s0 s1 1).bind fun q => match q with | (r6, M7) => (if r6 = 0 then (f_X11_hours_h32 a0 i1 FU 0 0 M7) else (some (0, M7)))
def f_X11_hours  (M : Mem) (a0 : Nat) (i1 : Int32) : Option (Int32 × Mem) := (f_X11_isBridge (mU M a0 0 0) a0 i1).bind fun q => match q with | (r1, M2) => (if r1 = 0 then (f_X11_hours_b19 a0 i1 a0 1 M2) else (f_X11_hours_b19 a0 i1 a0 0 M2))
set_option maxHeartbeats 4000000 in
set_option maxRecDepth 100000 in
theorem w_X11_hours_b67 {g : gT} {p : Program} {l : Launch} {e : Env} {s : State} {m : MethodId} {args : Array Value} {below : List Frame} {meth : Method} {c : Code} {z : Int32 × Mem} (F : Fx g p s m args c cX11_hours 4 uX11_hours RX11) (hr : meth.sig.returnType = (some .int)) (hlk : meth.locks = false)  {a0 : Nat} {i1 : Int32} (t0 : Ty g 11 a0) {k32 : Int32 → Int32 → Mem → Option (Int32 × Mem)} (hk32 : ∀ (x2 : Int32) (x3 : Int32) (M : Mem), k32 x2 x3 M = some z → V g p l e ({ frames := 2, cells := 0, slots := 0, locals := 40 * 2 } : Room) s m args below meth c 4 0 0 (MQ below (gQ g (some (.int z.1)) z.2) args s 0 0 (gA g)) 32 [(0, .ref (gAd g a0)), (1, .int i1), (2, .int x2), (3, .int x3)] [] M) (s0 : Int32) (s1 : Int32) (x3 : Int32) (M : Mem)  (h : f_X11_hours_b67 a0 i1 k32 s0 s1 x3 M = some z) : V g p l e ({ frames := 2, cells := 0, slots := 0, locals := 40 * 2 } : Room) s m args below meth c 4 0 0 (MQ below (gQ g (some (.int z.1)) z.2) args s 0 0 (gA g)) 67 [(0, .ref (gAd g a0)), (1, .int i1), (3, .int x3)] [.int s1, .int s0] M := by
  unfold f_X11_hours_b67 at h
  refine v_iadd F dX11_hours_67 ?_
  refine v_istore_n (lv' := [(2, .int (s0 + s1)), (0, .ref (gAd g a0)), (1, .int i1), (3, .int x3)]) F dX11_hours_68 rfl (by decide) rfl ?_
  refine v_iinc (v := x3 + 1) (lv' := [(3, .int (x3 + 1)), (2, .int (s0 + s1)), (0, .ref (gAd g a0)), (1, .int i1)]) F dX11_hours_69 (q := 3) rfl rfl (by decide) rfl ?_
  refine v_goto (tgt := 32) F dX11_hours_72 (by decide) ?_
  refine v_sub (fun ls h9 => lv_sub h9 [2, 3, 1, 0] rfl) ?_
  exact hk32 _ _ _ h
set_option maxHeartbeats 4000000 in
set_option maxRecDepth 100000 in
theorem w_X11_hours_h32 {g : gT} {p : Program} {l : Launch} {e : Env} {s : State} {m : MethodId} {args : Array Value} {below : List Frame} {meth : Method} {c : Code} {z : Int32 × Mem} (F : Fx g p s m args c cX11_hours 4 uX11_hours RX11) (hr : meth.sig.returnType = (some .int)) (hlk : meth.locks = false)  {a0 : Nat} {i1 : Int32} (t0 : Ty g 11 a0)   : ∀ (n : Nat) (x2 : Int32) (x3 : Int32) (M : Mem), f_X11_hours_h32 a0 i1 n x2 x3 M = some z → V g p l e ({ frames := 2, cells := 0, slots := 0, locals := 40 * 2 } : Room) s m args below meth c 4 0 0 (MQ below (gQ g (some (.int z.1)) z.2) args s 0 0 (gA g)) 32 [(0, .ref (gAd g a0)), (1, .int i1), (2, .int x2), (3, .int x3)] [] M := by
  intro n
  induction n with
  | zero => intro x2 x3 M; intros; rename_i h; cases h
  | succ n ih =>
    intro x2 x3 M h
    rw [f_X11_hours_h32] at h
    refine v_iload_n F dX11_hours_32 rfl 3 rfl ?_
    refine v_bipush (v := 10) F dX11_hours_33 (by decide) ?_
    refine v_icmp_ge (tgt := 75) F dX11_hours_35 (by decide) (fun hc11 => ?_) (fun hc11 => ?_)
    · rw [if_pos hc11] at h
      refine v_iload_n F dX11_hours_75 rfl 2 rfl ?_
      cases h
      exact v_iret F hr rfl hlk dX11_hours_76
    · rw [if_neg hc11] at h
      refine v_iload_n F dX11_hours_38 rfl 2 rfl ?_
      refine v_bipush (v := 6) F dX11_hours_39 (by decide) ?_
      refine v_iload_n F dX11_hours_41 rfl 3 rfl ?_
      refine v_imul F dX11_hours_42 ?_
      refine v_aload_n F dX11_hours_43 rfl 0 rfl ?_
      refine v_getR (k := 38) (f := 16) F t0 (by decide) (inc inU_11) rfl rfl (by decide) (by decide) (List.mem_cons_of_mem _ fl_X11_74) rfl dX11_hours_44 (fun u12 => ?_)
      refine v_iload_n F dX11_hours_47 rfl 1 rfl ?_
      obtain ⟨hin13, h⟩ := gd_some h
      refine v_aald (ke := 12) (t0 := 4) F u12 (by decide) rfl rfl hin13 dX11_hours_48 (fun u14 => ?_)
      refine v_bipush (v := 10) F dX11_hours_49 (by decide) ?_
      obtain ⟨hin15, h⟩ := gd_some h
      refine v_iald F u14 hin15 dX11_hours_51 ?_
      refine v_icmp_lt (tgt := 66) F dX11_hours_52 (by decide) (fun hc16 => ?_) (fun hc16 => ?_)
      · rw [if_pos hc16] at h
        refine v_iconst (v := 0) F dX11_hours_66 (by decide) ?_
        refine v_sub (fun ls h9 => lv_sub h9 [0, 1, 3] rfl) ?_
        exact w_X11_hours_b67 F hr hlk t0 ih _ _ _ _ h
      · rw [if_neg hc16] at h
        refine v_aload_n F dX11_hours_55 rfl 0 rfl ?_
        refine v_getR (k := 38) (f := 16) F t0 (by decide) (inc inU_11) rfl rfl (by decide) (by decide) (List.mem_cons_of_mem _ fl_X11_74) rfl dX11_hours_56 (fun u17 => ?_)
        refine v_iload_n F dX11_hours_59 rfl 1 rfl ?_
        obtain ⟨hin18, h⟩ := gd_some h
        refine v_aald (ke := 12) (t0 := 4) F u17 (by decide) rfl rfl hin18 dX11_hours_60 (fun u19 => ?_)
        refine v_iload_n F dX11_hours_61 rfl 3 rfl ?_
        obtain ⟨hin20, h⟩ := gd_some h
        refine v_iald F u19 hin20 dX11_hours_62 ?_
        refine v_goto (tgt := 67) F dX11_hours_63 (by decide) ?_
        refine v_sub (fun ls h9 => lv_sub h9 [0, 1, 3] rfl) ?_
        exact w_X11_hours_b67 F hr hlk t0 ih _ _ _ _ h
set_option maxHeartbeats 4000000 in
set_option maxRecDepth 100000 in
theorem w_X11_hours_b19 {g : gT} {p : Program} {l : Launch} {e : Env} {s : State} {m : MethodId} {args : Array Value} {below : List Frame} {meth : Method} {c : Code} {z : Int32 × Mem} (F : Fx g p s m args c cX11_hours 4 uX11_hours RX11) (hr : meth.sig.returnType = (some .int)) (hlk : meth.locks = false)  {a0 : Nat} {i1 : Int32} (t0 : Ty g 11 a0)   (s0 : Nat) (s1 : Int32) (M : Mem) (ts0 : Ty g 11 s0) (h : f_X11_hours_b19 a0 i1 s0 s1 M = some z) : V g p l e ({ frames := 2, cells := 0, slots := 0, locals := 40 * 2 } : Room) s m args below meth c 4 0 0 (MQ below (gQ g (some (.int z.1)) z.2) args s 0 0 (gA g)) 19 [(0, .ref (gAd g a0)), (1, .int i1)] [.int s1, .ref (gAd g s0)] M := by
  unfold f_X11_hours_b19 at h
  refine v_iconst (v := 1) F dX11_hours_19 (by decide) ?_
  obtain ⟨⟨r6, M7⟩, hz8, h⟩ := bd_some h
  dsimp only at h
  refine v_callVi (As := [.int s1, .int 1]) (rest := []) F (c_X11_bad l F.2.2.1 ts0 hz8) (cwV 2 F.1.2.2.2.2 (gU_V ml_X11_176 im_yX11_bad se_yX11_bad ini_X11 cd_X11_bad) rfl rfl rfl (by decide +kernel) ⟨Nat.le_of_ble_eq_true rfl, Nat.le_of_ble_eq_true rfl⟩) ts0 (by decide) rfl rfl rfl (Nat.le_of_ble_eq_true rfl) dX11_hours_20 ⟨Nat.le_of_ble_eq_true rfl, Nat.le_of_ble_eq_true rfl⟩ ?_
  refine v_if_eq (tgt := 28) F dX11_hours_23 (by decide) (fun hc10 => ?_) (fun hc10 => ?_)
  · rw [if_pos hc10] at h
    refine v_iconst (v := 0) F dX11_hours_28 (by decide) ?_
    refine v_istore_n (lv' := [(2, .int 0), (0, .ref (gAd g a0)), (1, .int i1)]) F dX11_hours_29 rfl (by decide) rfl ?_
    refine v_iconst (v := 0) F dX11_hours_30 (by decide) ?_
    refine v_istore_n (lv' := [(3, .int 0), (2, .int 0), (0, .ref (gAd g a0)), (1, .int i1)]) F dX11_hours_31 rfl (by decide) rfl ?_
    refine v_sub (fun ls h9 => lv_sub h9 [2, 3, 1, 0] rfl) ?_
    exact w_X11_hours_h32 F hr hlk t0 _ _ _ _ h
  · rw [if_neg hc10] at h
    refine v_iconst (v := 0) F dX11_hours_26 (by decide) ?_
    cases h
    exact v_iret F hr rfl hlk dX11_hours_27
set_option maxHeartbeats 4000000 in
set_option maxRecDepth 100000 in
theorem c_X11_hours {g : gT} (l : Launch) (hok : gOK g)  {a0 : Nat} {i1 : Int32} {M : Mem} {z : Int32 × Mem}  (t0 : Ty g 11 a0) (h : f_X11_hours  M a0 i1 = some z) : Cn g l yX11_hours uX11_hours 2 [.ref (gAd g a0), .int i1] M (some (.int z.1)) z.2 := by
  refine Cn.of (cc := cX11_hours) (maxL := 4) (ret := (some .int)) hok (by decide) rfl (Nat.le_of_ble_eq_true rfl) (fun p e s m args below meth c F hr hlk => ?_)
  unfold f_X11_hours at h
  show V g p l e ({ frames := 2, cells := 0, slots := 0, locals := 40 * 2 } : Room) s m args below meth c 4 0 0 (MQ below (gQ g (some (.int z.1)) z.2) args s 0 0 (gA g)) 0 [(0, .ref (gAd g a0)), (1, .int i1)] [] M
  refine v_aload_n F dX11_hours_0 rfl 0 rfl ?_
  refine v_iconst (v := 0) F dX11_hours_1 (by decide) ?_
  refine v_put (k := 0) (ty := .int) F t0 (by decide) (inc inU_11) tyX11 tyX11_ok nmX11 rfl rfl (by decide) (List.mem_cons_of_mem _ fl_X11_83) rfl rfl (by decide +kernel) rfl rfl dX11_hours_2 ?_
  refine v_aload_n F dX11_hours_5 rfl 0 rfl ?_
  refine v_aload_n F dX11_hours_6 rfl 0 rfl ?_
  refine v_iload_n F dX11_hours_7 rfl 1 rfl ?_
  obtain ⟨⟨r1, M2⟩, hz3, h⟩ := bd_some h
  dsimp only at h
  refine v_callVi (As := [.int i1]) (rest := [.ref (gAd g a0)]) F (c_X11_isBridge l F.2.2.1 t0 hz3) (cwV 1 F.1.2.2.2.2 (gU_V ml_X11_298 im_yX11_isBridge se_yX11_isBridge ini_X11 cd_X11_isBridge) rfl rfl rfl (by decide +kernel) ⟨Nat.le_of_ble_eq_true rfl, Nat.le_of_ble_eq_true rfl⟩) t0 (by decide) rfl rfl rfl (Nat.le_of_ble_eq_true rfl) dX11_hours_8 ⟨Nat.le_of_ble_eq_true rfl, Nat.le_of_ble_eq_true rfl⟩ ?_
  refine v_if_ne (tgt := 18) F dX11_hours_11 (by decide) (fun hc5 => ?_) (fun hc5 => ?_)
  · rw [if_neg hc5] at h
    refine v_iconst (v := 0) F dX11_hours_18 (by decide) ?_
    exact w_X11_hours_b19 F hr hlk t0 _ _ _ t0 h
  · rw [if_pos hc5] at h
    refine v_iconst (v := 1) F dX11_hours_14 (by decide) ?_
    refine v_goto (tgt := 19) F dX11_hours_15 (by decide) ?_
    exact w_X11_hours_b19 F hr hlk t0 _ _ _ t0 h
def f_X11_paper_b44 (a0 : Nat) (i1 : Int32) (i2 : Int32) (i3 : Int32)  (s0 : Nat) (s1 : Int32) (M : Mem) : Option (Int32 × Mem) := (f_X11_bad M s0 s1 1).bind fun q => match q with | (r16, M17) => (if r16 = 0 then (if (M17 a0 34) = 10 then (some ((-1), M17)) else (if ¬ ((M17 a0 34) < 0 ∨ gN (gRf a0 39) ≤ (M17 a0 34 : Int32).toNatClampNeg) then (if ¬ ((0 : Int32) < 0 ∨ gN (gRf (gRf a0 39) (M17 a0 34 : Int32).toNatClampNeg) ≤ (0 : Int32).toNatClampNeg) then (if ¬ (((mU M17 (gRf (gRf a0 39) (M17 a0 34 : Int32).toNatClampNeg) (0 : Int32).toNatClampNeg i1) a0 34) < 0 ∨ gN (gRf a0 39) ≤ ((mU M17 (gRf (gRf a0 39) (M17 a0 34 : Int32).toNatClampNeg) (0 : Int32).toNatClampNeg i1) a0 34 : Int32).toNatClampNeg) then (if ¬ ((1 : Int32) < 0 ∨ gN (gRf (gRf a0 39) ((mU M17 (gRf (gRf a0 39) (M17 a0 34 : Int32).toNatClampNeg) (0 : Int32).toNatClampNeg i1) a0 34 : Int32).toNatClampNeg) ≤ (1 : Int32).toNatClampNeg) then (if ¬ (((mU (mU M17 (gRf (gRf a0 39) (M17 a0 34 : Int32).toNatClampNeg) (0 : Int32).toNatClampNeg i1) (gRf (gRf a0 39) ((mU M17 (gRf (gRf a0 39) (M17 a0 34 : Int32).toNatClampNeg) (0 : Int32).toNatClampNeg i1) a0 34 : Int32).toNatClampNeg) (1 : Int32).toNatClampNeg i2) a0 34) < 0 ∨ gN (gRf a0 39) ≤ ((mU (mU M17 (gRf (gRf a0 39) (M17 a0 34 : Int32).toNatClampNeg) (0 : Int32).toNatClampNeg i1) (gRf (gRf a0 39) ((mU M17 (gRf (gRf a0 39) (M17 a0 34 : Int32).toNatClampNeg) (0 : Int32).toNatClampNeg i1) a0 34 : Int32).toNatClampNeg) (1 : Int32).toNatClampNeg i2) a0 34 : Int32).toNatClampNeg) then (if ¬ ((2 : Int32) < 0 ∨ gN (gRf (gRf a0 39) ((mU (mU M17 (gRf (gRf a0 39) (M17 a0 34 : Int32).toNatClampNeg) (0 : Int32).toNatClampNeg i1) (gRf (gRf a0 39) ((mU M17 (gRf (gRf a0 39) (M17 a0 34 : Int32).toNatClampNeg) (0 : Int32).toNatClampNeg i1) a0 34 : Int32).toNatClampNeg) (1 : Int32).toNatClampNeg i2) a0 34 : Int32).toNatClampNeg) ≤ (2 : Int32).toNatClampNeg) then (some ((mU (mU (mU (mU M17 (gRf (gRf a0 39) (M17 a0 34 : Int32).toNatClampNeg) (0 : Int32).toNatClampNeg i1) (gRf (gRf a0 39) ((mU M17 (gRf (gRf a0 39) (M17 a0 34 : Int32).toNatClampNeg) (0 : Int32).toNatClampNeg i1) a0 34 : Int32).toNatClampNeg) (1 : Int32).toNatClampNeg i2) (gRf (gRf a0 39) ((mU (mU M17 (gRf (gRf a0 39) (M17 a0 34 : Int32).toNatClampNeg) (0 : Int32).toNatClampNeg i1) (gRf (gRf a0 39) ((mU M17 (gRf (gRf a0 39) (M17 a0 34 : Int32).toNatClampNeg) (0 : Int32).toNatClampNeg i1) a0 34 : Int32).toNatClampNeg) (1 : Int32).toNatClampNeg i2) a0 34 : Int32).toNatClampNeg) (2 : Int32).toNatClampNeg i3) a0 34 (((mU (mU (mU M17 (gRf (gRf a0 39) (M17 a0 34 : Int32).toNatClampNeg) (0 : Int32).toNatClampNeg i1) (gRf (gRf a0 39) ((mU M17 (gRf (gRf a0 39) (M17 a0 34 : Int32).toNatClampNeg) (0 : Int32).toNatClampNeg i1) a0 34 : Int32).toNatClampNeg) (1 : Int32).toNatClampNeg i2) (gRf (gRf a0 39) ((mU (mU M17 (gRf (gRf a0 39) (M17 a0 34 : Int32).toNatClampNeg) (0 : Int32).toNatClampNeg i1) (gRf (gRf a0 39) ((mU M17 (gRf (gRf a0 39) (M17 a0 34 : Int32).toNatClampNeg) (0 : Int32).toNatClampNeg i1) a0 34 : Int32).toNatClampNeg) (1 : Int32).toNatClampNeg i2) a0 34 : Int32).toNatClampNeg) (2 : Int32).toNatClampNeg i3) a0 34) + 1)) a0 34, (mU (mU (mU (mU M17 (gRf (gRf a0 39) (M17 a0 34 : Int32).toNatClampNeg) (0 : Int32).toNatClampNeg i1) (gRf (gRf a0 39) ((mU M17 (gRf (gRf a0 39) (M17 a0 34 : Int32).toNatClampNeg) (0 : Int32).toNatClampNeg i1) a0 34 : Int32).toNatClampNeg) (1 : Int32).toNatClampNeg i2) (gRf (gRf a0 39) ((mU (mU M17 (gRf (gRf a0 39) (M17 a0 34 : Int32).toNatClampNeg) (0 : Int32).toNatClampNeg i1) (gRf (gRf a0 39) ((mU M17 (gRf (gRf a0 39) (M17 a0 34 : Int32).toNatClampNeg) (0 : Int32).toNatClampNeg i1) a0 34 : Int32).toNatClampNeg) (1 : Int32).toNatClampNeg i2) a0 34 : Int32).toNatClampNeg) (2 : Int32).toNatClampNeg i3) a0 34 (((mU (mU (mU M17 (gRf (gRf a0 39) (M17 a0 34 : Int32).toNatClampNeg) (0 : Int32).toNatClampNeg i1) (gRf (gRf a0 39) ((mU M17 (gRf (gRf a0 39) (M17 a0 34 : Int32).toNatClampNeg) (0 : Int32).toNatClampNeg i1) a0 34 : Int32).toNatClampNeg) (1 : Int32).toNatClampNeg i2) (gRf (gRf a0 39) ((mU (mU M17 (gRf (gRf a0 39) (M17 a0 34 : Int32).toNatClampNeg) (0 : Int32).toNatClampNeg i1) (gRf (gRf a0 39) ((mU M17 (gRf (gRf a0 39) (M17 a0 34 : Int32).toNatClampNeg) (0 : Int32).toNatClampNeg i1) a0 34 : Int32).toNatClampNeg) (1 : Int32).toNatClampNeg i2) a0 34 : Int32).toNatClampNeg) (2 : Int32).toNatClampNeg i3) a0 34) + 1)))) else none) else none) else none) else none) else none) else none)) else (some (0, M17)))
def f_X11_paper_b39 (a0 : Nat) (i1 : Int32) (i2 : Int32) (i3 : Int32)  (s0 : Nat) (M : Mem) : Option (Int32 × Mem) := f_X11_paper_b44 a0 i1 i2 i3 s0 1 M
def f_X11_paper  (M : Mem) (a0 : Nat) (i1 : Int32) (i2 : Int32) (i3 : Int32) : Option (Int32 × Mem) := (f_X11_in (mU M a0 0 0) i1 0 999).bind fun q => match q with | (r1, M2) => (if r1 = 0 then (f_X11_paper_b39 a0 i1 i2 i3 a0 M2) else ((f_X11_in M2 i2 0 255).bind fun q => match q with | (r6, M7) => (if r6 = 0 then (f_X11_paper_b39 a0 i1 i2 i3 a0 M7) else ((f_X11_in M7 i3 0 255).bind fun q => match q with | (r11, M12) => (if r11 = 0 then (f_X11_paper_b39 a0 i1 i2 i3 a0 M12) else (f_X11_paper_b44 a0 i1 i2 i3 a0 0 M12))))))
set_option maxHeartbeats 4000000 in
set_option maxRecDepth 100000 in
theorem w_X11_paper_b44 {g : gT} {p : Program} {l : Launch} {e : Env} {s : State} {m : MethodId} {args : Array Value} {below : List Frame} {meth : Method} {c : Code} {z : Int32 × Mem} (F : Fx g p s m args c cX11_paper 4 uX11_paper RX11) (hr : meth.sig.returnType = (some .int)) (hlk : meth.locks = false)  {a0 : Nat} {i1 : Int32} {i2 : Int32} {i3 : Int32} (t0 : Ty g 11 a0)   (s0 : Nat) (s1 : Int32) (M : Mem) (ts0 : Ty g 11 s0) (h : f_X11_paper_b44 a0 i1 i2 i3 s0 s1 M = some z) : V g p l e ({ frames := 1, cells := 0, slots := 0, locals := 40 * 1 } : Room) s m args below meth c 4 0 0 (MQ below (gQ g (some (.int z.1)) z.2) args s 0 0 (gA g)) 44 [(0, .ref (gAd g a0)), (1, .int i1), (2, .int i2), (3, .int i3)] [.int s1, .ref (gAd g s0)] M := by
  unfold f_X11_paper_b44 at h
  refine v_iconst (v := 1) F dX11_paper_44 (by decide) ?_
  obtain ⟨⟨r16, M17⟩, hz18, h⟩ := bd_some h
  dsimp only at h
  refine v_callVi (As := [.int s1, .int 1]) (rest := []) F (c_X11_bad l F.2.2.1 ts0 hz18) (cwV 2 F.1.2.2.2.2 (gU_V ml_X11_176 im_yX11_bad se_yX11_bad ini_X11 cd_X11_bad) rfl rfl rfl (by decide +kernel) ⟨Nat.le_of_ble_eq_true rfl, Nat.le_of_ble_eq_true rfl⟩) ts0 (by decide) rfl rfl rfl (Nat.le_of_ble_eq_true rfl) dX11_paper_45 ⟨Nat.le_of_ble_eq_true rfl, Nat.le_of_ble_eq_true rfl⟩ ?_
  refine v_if_eq (tgt := 53) F dX11_paper_48 (by decide) (fun hc20 => ?_) (fun hc20 => ?_)
  · rw [if_pos hc20] at h
    refine v_aload_n F dX11_paper_53 rfl 0 rfl ?_
    refine v_getI (k := 34) F t0 (by decide) (inc inU_11) rfl rfl (by decide) (List.mem_cons_of_mem _ fl_X11_301) rfl dX11_paper_54 ?_
    refine v_bipush (v := 10) F dX11_paper_57 (by decide) ?_
    refine v_icmp_ne (tgt := 64) F dX11_paper_59 (by decide) (fun hc21 => ?_) (fun hc21 => ?_)
    · rw [if_neg hc21] at h
      refine v_aload_n F dX11_paper_64 rfl 0 rfl ?_
      refine v_getR (k := 39) (f := 16) F t0 (by decide) (inc inU_11) rfl rfl (by decide) (by decide) (List.mem_cons_of_mem _ fl_X11_77) rfl dX11_paper_65 (fun u22 => ?_)
      refine v_aload_n F dX11_paper_68 rfl 0 rfl ?_
      refine v_getI (k := 34) F t0 (by decide) (inc inU_11) rfl rfl (by decide) (List.mem_cons_of_mem _ fl_X11_301) rfl dX11_paper_69 ?_
      obtain ⟨hin23, h⟩ := gd_some h
      refine v_aald (ke := 12) (t0 := 4) F u22 (by decide) rfl rfl hin23 dX11_paper_72 (fun u24 => ?_)
      refine v_iconst (v := 0) F dX11_paper_73 (by decide) ?_
      refine v_iload_n F dX11_paper_74 rfl 1 rfl ?_
      obtain ⟨hin25, h⟩ := gd_some h
      refine v_iast F u24 hin25 dX11_paper_75 ?_
      refine v_aload_n F dX11_paper_76 rfl 0 rfl ?_
      refine v_getR (k := 39) (f := 16) F t0 (by decide) (inc inU_11) rfl rfl (by decide) (by decide) (List.mem_cons_of_mem _ fl_X11_77) rfl dX11_paper_77 (fun u26 => ?_)
      refine v_aload_n F dX11_paper_80 rfl 0 rfl ?_
      refine v_getI (k := 34) F t0 (by decide) (inc inU_11) rfl rfl (by decide) (List.mem_cons_of_mem _ fl_X11_301) rfl dX11_paper_81 ?_
      obtain ⟨hin27, h⟩ := gd_some h
      refine v_aald (ke := 12) (t0 := 4) F u26 (by decide) rfl rfl hin27 dX11_paper_84 (fun u28 => ?_)
      refine v_iconst (v := 1) F dX11_paper_85 (by decide) ?_
      refine v_iload_n F dX11_paper_86 rfl 2 rfl ?_
      obtain ⟨hin29, h⟩ := gd_some h
      refine v_iast F u28 hin29 dX11_paper_87 ?_
      refine v_aload_n F dX11_paper_88 rfl 0 rfl ?_
      refine v_getR (k := 39) (f := 16) F t0 (by decide) (inc inU_11) rfl rfl (by decide) (by decide) (List.mem_cons_of_mem _ fl_X11_77) rfl dX11_paper_89 (fun u30 => ?_)
      refine v_aload_n F dX11_paper_92 rfl 0 rfl ?_
      refine v_getI (k := 34) F t0 (by decide) (inc inU_11) rfl rfl (by decide) (List.mem_cons_of_mem _ fl_X11_301) rfl dX11_paper_93 ?_
      obtain ⟨hin31, h⟩ := gd_some h
      refine v_aald (ke := 12) (t0 := 4) F u30 (by decide) rfl rfl hin31 dX11_paper_96 (fun u32 => ?_)
      refine v_iconst (v := 2) F dX11_paper_97 (by decide) ?_
      refine v_iload_n F dX11_paper_98 rfl 3 rfl ?_
      obtain ⟨hin33, h⟩ := gd_some h
      refine v_iast F u32 hin33 dX11_paper_99 ?_
      refine v_aload_n F dX11_paper_100 rfl 0 rfl ?_
      refine v_dup F dX11_paper_101 rfl ?_
      refine v_getI (k := 34) F t0 (by decide) (inc inU_11) rfl rfl (by decide) (List.mem_cons_of_mem _ fl_X11_301) rfl dX11_paper_102 ?_
      refine v_iconst (v := 1) F dX11_paper_105 (by decide) ?_
      refine v_iadd F dX11_paper_106 ?_
      refine v_put (k := 34) (ty := .int) F t0 (by decide) (inc inU_11) tyX11 tyX11_ok nmX11 rfl rfl (by decide) (List.mem_cons_of_mem _ fl_X11_301) rfl rfl (by decide +kernel) rfl rfl dX11_paper_107 ?_
      refine v_aload_n F dX11_paper_110 rfl 0 rfl ?_
      refine v_getI (k := 34) F t0 (by decide) (inc inU_11) rfl rfl (by decide) (List.mem_cons_of_mem _ fl_X11_301) rfl dX11_paper_111 ?_
      cases h
      exact v_iret F hr rfl hlk dX11_paper_114
    · rw [if_pos hc21] at h
      refine v_iconst (v := (-1)) F dX11_paper_62 (by decide) ?_
      cases h
      exact v_iret F hr rfl hlk dX11_paper_63
  · rw [if_neg hc20] at h
    refine v_iconst (v := 0) F dX11_paper_51 (by decide) ?_
    cases h
    exact v_iret F hr rfl hlk dX11_paper_52
set_option maxHeartbeats 4000000 in
set_option maxRecDepth 100000 in
theorem w_X11_paper_b39 {g : gT} {p : Program} {l : Launch} {e : Env} {s : State} {m : MethodId} {args : Array Value} {below : List Frame} {meth : Method} {c : Code} {z : Int32 × Mem} (F : Fx g p s m args c cX11_paper 4 uX11_paper RX11) (hr : meth.sig.returnType = (some .int)) (hlk : meth.locks = false)  {a0 : Nat} {i1 : Int32} {i2 : Int32} {i3 : Int32} (t0 : Ty g 11 a0)   (s0 : Nat) (M : Mem) (ts0 : Ty g 11 s0) (h : f_X11_paper_b39 a0 i1 i2 i3 s0 M = some z) : V g p l e ({ frames := 1, cells := 0, slots := 0, locals := 40 * 1 } : Room) s m args below meth c 4 0 0 (MQ below (gQ g (some (.int z.1)) z.2) args s 0 0 (gA g)) 39 [(0, .ref (gAd g a0)), (1, .int i1), (2, .int i2), (3, .int i3)] [.ref (gAd g s0)] M := by
  unfold f_X11_paper_b39 at h
  refine v_iconst (v := 1) F dX11_paper_39 (by decide) ?_
  refine v_goto (tgt := 44) F dX11_paper_40 (by decide) ?_
  exact w_X11_paper_b44 F hr hlk t0 _ _ _ ts0 h
set_option maxHeartbeats 4000000 in
set_option maxRecDepth 100000 in
theorem c_X11_paper {g : gT} (l : Launch) (hok : gOK g)  {a0 : Nat} {i1 : Int32} {i2 : Int32} {i3 : Int32} {M : Mem} {z : Int32 × Mem}  (t0 : Ty g 11 a0) (h : f_X11_paper  M a0 i1 i2 i3 = some z) : Cn g l yX11_paper uX11_paper 1 [.ref (gAd g a0), .int i1, .int i2, .int i3] M (some (.int z.1)) z.2 := by
  refine Cn.of (cc := cX11_paper) (maxL := 4) (ret := (some .int)) hok (by decide) rfl (Nat.le_of_ble_eq_true rfl) (fun p e s m args below meth c F hr hlk => ?_)
  unfold f_X11_paper at h
  show V g p l e ({ frames := 1, cells := 0, slots := 0, locals := 40 * 1 } : Room) s m args below meth c 4 0 0 (MQ below (gQ g (some (.int z.1)) z.2) args s 0 0 (gA g)) 0 [(0, .ref (gAd g a0)), (1, .int i1), (2, .int i2), (3, .int i3)] [] M
  refine v_aload_n F dX11_paper_0 rfl 0 rfl ?_
  refine v_iconst (v := 0) F dX11_paper_1 (by decide) ?_
  refine v_put (k := 0) (ty := .int) F t0 (by decide) (inc inU_11) tyX11 tyX11_ok nmX11 rfl rfl (by decide) (List.mem_cons_of_mem _ fl_X11_83) rfl rfl (by decide +kernel) rfl rfl dX11_paper_2 ?_
  refine v_aload_n F dX11_paper_5 rfl 0 rfl ?_
  refine v_iload_n F dX11_paper_6 rfl 1 rfl ?_
  refine v_iconst (v := 0) F dX11_paper_7 (by decide) ?_
  refine v_sipush (v := 999) F dX11_paper_8 (by decide) ?_
  obtain ⟨⟨r1, M2⟩, hz3, h⟩ := bd_some h
  dsimp only at h
  refine v_callSi (As := [.int i1, .int 0, .int 999]) (rest := [.ref (gAd g a0)]) F (c_X11_in l F.2.2.1  hz3) (cwS 3 F.1.2.2.2.2 (gU_S ml_X11_172 st_yX11_in ini_X11 cd_X11_in) rfl rfl rfl (by decide +kernel) ⟨Nat.le_of_ble_eq_true rfl, Nat.le_of_ble_eq_true rfl⟩) rfl rfl (Nat.le_of_ble_eq_true rfl) dX11_paper_11 ⟨Nat.le_of_ble_eq_true rfl, Nat.le_of_ble_eq_true rfl⟩ ?_
  refine v_if_eq (tgt := 39) F dX11_paper_14 (by decide) (fun hc5 => ?_) (fun hc5 => ?_)
  · rw [if_pos hc5] at h
    exact w_X11_paper_b39 F hr hlk t0 _ _ t0 h
  · rw [if_neg hc5] at h
    refine v_iload_n F dX11_paper_17 rfl 2 rfl ?_
    refine v_iconst (v := 0) F dX11_paper_18 (by decide) ?_
    refine v_sipush (v := 255) F dX11_paper_19 (by decide) ?_
    obtain ⟨⟨r6, M7⟩, hz8, h⟩ := bd_some h
    dsimp only at h
    refine v_callSi (As := [.int i2, .int 0, .int 255]) (rest := [.ref (gAd g a0)]) F (c_X11_in l F.2.2.1  hz8) (cwS 3 F.1.2.2.2.2 (gU_S ml_X11_172 st_yX11_in ini_X11 cd_X11_in) rfl rfl rfl (by decide +kernel) ⟨Nat.le_of_ble_eq_true rfl, Nat.le_of_ble_eq_true rfl⟩) rfl rfl (Nat.le_of_ble_eq_true rfl) dX11_paper_22 ⟨Nat.le_of_ble_eq_true rfl, Nat.le_of_ble_eq_true rfl⟩ ?_
    refine v_if_eq (tgt := 39) F dX11_paper_25 (by decide) (fun hc10 => ?_) (fun hc10 => ?_)
    · rw [if_pos hc10] at h
      exact w_X11_paper_b39 F hr hlk t0 _ _ t0 h
    · rw [if_neg hc10] at h
      refine v_iload_n F dX11_paper_28 rfl 3 rfl ?_
      refine v_iconst (v := 0) F dX11_paper_29 (by decide) ?_
      refine v_sipush (v := 255) F dX11_paper_30 (by decide) ?_
      obtain ⟨⟨r11, M12⟩, hz13, h⟩ := bd_some h
      dsimp only at h
      refine v_callSi (As := [.int i3, .int 0, .int 255]) (rest := [.ref (gAd g a0)]) F (c_X11_in l F.2.2.1  hz13) (cwS 3 F.1.2.2.2.2 (gU_S ml_X11_172 st_yX11_in ini_X11 cd_X11_in) rfl rfl rfl (by decide +kernel) ⟨Nat.le_of_ble_eq_true rfl, Nat.le_of_ble_eq_true rfl⟩) rfl rfl (Nat.le_of_ble_eq_true rfl) dX11_paper_33 ⟨Nat.le_of_ble_eq_true rfl, Nat.le_of_ble_eq_true rfl⟩ ?_
      refine v_if_ne (tgt := 43) F dX11_paper_36 (by decide) (fun hc15 => ?_) (fun hc15 => ?_)
      · rw [if_neg hc15] at h
        refine v_iconst (v := 0) F dX11_paper_43 (by decide) ?_
        exact w_X11_paper_b44 F hr hlk t0 _ _ _ t0 h
      · rw [if_pos hc15] at h
        exact w_X11_paper_b39 F hr hlk t0 _ _ t0 h
def f_X11_knownOn_b63 (a0 : Nat) (i1 : Int32) (k4 : Int32 → Int32 → Mem → Option (Int32 × Mem)) (k13 : Int32 → Int32 → Int32 → Mem → Option (Int32 × Mem)) (x2 : Int32) (x3 : Int32) (x4 : Int32) (M : Mem) : Option (Int32 × Mem) := k13 x2 x3 (x4 + 1) M
def f_X11_knownOn_h13 (a0 : Nat) (i1 : Int32) (k4 : Int32 → Int32 → Mem → Option (Int32 × Mem)) : Nat → Int32 → Int32 → Int32 → Mem → Option (Int32 × Mem)
  | 0, _, _, _, _ => none
  | n + 1, x2, x3, x4, M => if (M a0 34) ≤ x4 then (k4 x2 (x3 + 1) M) else (if ¬ (x4 < 0 ∨ gN (gRf a0 39) ≤ x4.toNatClampNeg) then (if ¬ ((0 : Int32) < 0 ∨ gN (gRf (gRf a0 39) x4.toNatClampNeg) ≤ (0 : Int32).toNatClampNeg) then (if i1 < (M (gRf (gRf a0 39) x4.toNatClampNeg) (0 : Int32).toNatClampNeg) then (f_X11_knownOn_b63 a0 i1 k4 (f_X11_knownOn_h13 a0 i1 k4 n) x2 x3 x4 M) else (if ¬ (x4 < 0 ∨ gN (gRf a0 39) ≤ x4.toNatClampNeg) then (if ¬ ((2 : Int32) < 0 ∨ gN (gRf (gRf a0 39) x4.toNatClampNeg) ≤ (2 : Int32).toNatClampNeg) then (if ((M (gRf (gRf a0 39) x4.toNatClampNeg) (2 : Int32).toNatClampNeg) &&& (x2 ^^^ (-1))) = 0 then (if ¬ (x4 < 0 ∨ gN (gRf a0 39) ≤ x4.toNatClampNeg) then (if ¬ ((1 : Int32) < 0 ∨ gN (gRf (gRf a0 39) x4.toNatClampNeg) ≤ (1 : Int32).toNatClampNeg) then (f_X11_knownOn_b63 a0 i1 k4 (f_X11_knownOn_h13 a0 i1 k4 n) (x2 ||| (M (gRf (gRf a0 39) x4.toNatClampNeg) (1 : Int32).toNatClampNeg)) x3 x4 M) else none) else none) else (f_X11_knownOn_b63 a0 i1 k4 (f_X11_knownOn_h13 a0 i1 k4 n) x2 x3 x4 M)) else none) else none)) else none) else none)
def f_X11_knownOn_h4 (a0 : Nat) (i1 : Int32)  : Nat → Int32 → Int32 → Mem → Option (Int32 × Mem)
  | 0, _, _, _ => none
  | n + 1, x2, x3, M => if 10 ≤ x3 then (some (x2, M)) else (f_X11_knownOn_h13 a0 i1 (f_X11_knownOn_h4 a0 i1 n) FU x2 x3 0 M)
def f_X11_knownOn  (M : Mem) (a0 : Nat) (i1 : Int32) : Option (Int32 × Mem) := f_X11_knownOn_h4 a0 i1 FU 0 0 M
set_option maxHeartbeats 4000000 in
set_option maxRecDepth 100000 in
theorem w_X11_knownOn_b63 {g : gT} {p : Program} {l : Launch} {e : Env} {s : State} {m : MethodId} {args : Array Value} {below : List Frame} {meth : Method} {c : Code} {z : Int32 × Mem} (F : Fx g p s m args c cX11_knownOn 5 uX11_knownOn RX11) (hr : meth.sig.returnType = (some .int)) (hlk : meth.locks = false)  {a0 : Nat} {i1 : Int32} (t0 : Ty g 11 a0) {k4 : Int32 → Int32 → Mem → Option (Int32 × Mem)} {k13 : Int32 → Int32 → Int32 → Mem → Option (Int32 × Mem)} (hk4 : ∀ (x2 : Int32) (x3 : Int32) (M : Mem), k4 x2 x3 M = some z → V g p l e ({ frames := 0, cells := 0, slots := 0, locals := 40 * 0 } : Room) s m args below meth c 5 0 0 (MQ below (gQ g (some (.int z.1)) z.2) args s 0 0 (gA g)) 4 [(0, .ref (gAd g a0)), (1, .int i1), (2, .int x2), (3, .int x3)] [] M) (hk13 : ∀ (x2 : Int32) (x3 : Int32) (x4 : Int32) (M : Mem), k13 x2 x3 x4 M = some z → V g p l e ({ frames := 0, cells := 0, slots := 0, locals := 40 * 0 } : Room) s m args below meth c 5 0 0 (MQ below (gQ g (some (.int z.1)) z.2) args s 0 0 (gA g)) 13 [(0, .ref (gAd g a0)), (1, .int i1), (2, .int x2), (3, .int x3), (4, .int x4)] [] M) (x2 : Int32) (x3 : Int32) (x4 : Int32) (M : Mem)  (h : f_X11_knownOn_b63 a0 i1 k4 k13 x2 x3 x4 M = some z) : V g p l e ({ frames := 0, cells := 0, slots := 0, locals := 40 * 0 } : Room) s m args below meth c 5 0 0 (MQ below (gQ g (some (.int z.1)) z.2) args s 0 0 (gA g)) 63 [(0, .ref (gAd g a0)), (1, .int i1), (2, .int x2), (3, .int x3), (4, .int x4)] [] M := by
  unfold f_X11_knownOn_b63 at h
  refine v_iinc (v := x4 + 1) (lv' := [(4, .int (x4 + 1)), (0, .ref (gAd g a0)), (1, .int i1), (2, .int x2), (3, .int x3)]) F dX11_knownOn_63 (q := 4) rfl rfl (by decide) rfl ?_
  refine v_goto (tgt := 13) F dX11_knownOn_66 (by decide) ?_
  refine v_sub (fun ls h9 => lv_sub h9 [1, 2, 3, 4, 0] rfl) ?_
  exact hk13 _ _ _ _ h
set_option maxHeartbeats 4000000 in
set_option maxRecDepth 100000 in
theorem w_X11_knownOn_h13 {g : gT} {p : Program} {l : Launch} {e : Env} {s : State} {m : MethodId} {args : Array Value} {below : List Frame} {meth : Method} {c : Code} {z : Int32 × Mem} (F : Fx g p s m args c cX11_knownOn 5 uX11_knownOn RX11) (hr : meth.sig.returnType = (some .int)) (hlk : meth.locks = false)  {a0 : Nat} {i1 : Int32} (t0 : Ty g 11 a0) {k4 : Int32 → Int32 → Mem → Option (Int32 × Mem)} (hk4 : ∀ (x2 : Int32) (x3 : Int32) (M : Mem), k4 x2 x3 M = some z → V g p l e ({ frames := 0, cells := 0, slots := 0, locals := 40 * 0 } : Room) s m args below meth c 5 0 0 (MQ below (gQ g (some (.int z.1)) z.2) args s 0 0 (gA g)) 4 [(0, .ref (gAd g a0)), (1, .int i1), (2, .int x2), (3, .int x3)] [] M) : ∀ (n : Nat) (x2 : Int32) (x3 : Int32) (x4 : Int32) (M : Mem), f_X11_knownOn_h13 a0 i1 k4 n x2 x3 x4 M = some z → V g p l e ({ frames := 0, cells := 0, slots := 0, locals := 40 * 0 } : Room) s m args below meth c 5 0 0 (MQ below (gQ g (some (.int z.1)) z.2) args s 0 0 (gA g)) 13 [(0, .ref (gAd g a0)), (1, .int i1), (2, .int x2), (3, .int x3), (4, .int x4)] [] M := by
  intro n
  induction n with
  | zero => intro x2 x3 x4 M; intros; rename_i h; cases h
  | succ n ih =>
    intro x2 x3 x4 M h
    rw [f_X11_knownOn_h13] at h
    refine v_iload F dX11_knownOn_13 4 rfl ?_
    refine v_aload_n F dX11_knownOn_15 rfl 0 rfl ?_
    refine v_getI (k := 34) F t0 (by decide) (inc inU_11) rfl rfl (by decide) (List.mem_cons_of_mem _ fl_X11_301) rfl dX11_knownOn_16 ?_
    refine v_icmp_ge (tgt := 69) F dX11_knownOn_19 (by decide) (fun hc2 => ?_) (fun hc2 => ?_)
    · rw [if_pos hc2] at h
      refine v_iinc (v := x3 + 1) (lv' := [(3, .int (x3 + 1)), (0, .ref (gAd g a0)), (1, .int i1), (2, .int x2), (4, .int x4)]) F dX11_knownOn_69 (q := 3) rfl rfl (by decide) rfl ?_
      refine v_goto (tgt := 4) F dX11_knownOn_72 (by decide) ?_
      refine v_sub (fun ls h9 => lv_sub h9 [1, 2, 3, 0] rfl) ?_
      exact hk4 _ _ _ h
    · rw [if_neg hc2] at h
      refine v_aload_n F dX11_knownOn_22 rfl 0 rfl ?_
      refine v_getR (k := 39) (f := 16) F t0 (by decide) (inc inU_11) rfl rfl (by decide) (by decide) (List.mem_cons_of_mem _ fl_X11_77) rfl dX11_knownOn_23 (fun u3 => ?_)
      refine v_iload F dX11_knownOn_26 4 rfl ?_
      obtain ⟨hin4, h⟩ := gd_some h
      refine v_aald (ke := 12) (t0 := 4) F u3 (by decide) rfl rfl hin4 dX11_knownOn_28 (fun u5 => ?_)
      refine v_iconst (v := 0) F dX11_knownOn_29 (by decide) ?_
      obtain ⟨hin6, h⟩ := gd_some h
      refine v_iald F u5 hin6 dX11_knownOn_30 ?_
      refine v_iload_n F dX11_knownOn_31 rfl 1 rfl ?_
      refine v_icmp_gt (tgt := 63) F dX11_knownOn_32 (by decide) (fun hc7 => ?_) (fun hc7 => ?_)
      · rw [if_pos hc7] at h
        exact w_X11_knownOn_b63 F hr hlk t0 hk4 ih _ _ _ _ h
      · rw [if_neg hc7] at h
        refine v_aload_n F dX11_knownOn_35 rfl 0 rfl ?_
        refine v_getR (k := 39) (f := 16) F t0 (by decide) (inc inU_11) rfl rfl (by decide) (by decide) (List.mem_cons_of_mem _ fl_X11_77) rfl dX11_knownOn_36 (fun u8 => ?_)
        refine v_iload F dX11_knownOn_39 4 rfl ?_
        obtain ⟨hin9, h⟩ := gd_some h
        refine v_aald (ke := 12) (t0 := 4) F u8 (by decide) rfl rfl hin9 dX11_knownOn_41 (fun u10 => ?_)
        refine v_iconst (v := 2) F dX11_knownOn_42 (by decide) ?_
        obtain ⟨hin11, h⟩ := gd_some h
        refine v_iald F u10 hin11 dX11_knownOn_43 ?_
        refine v_iload_n F dX11_knownOn_44 rfl 2 rfl ?_
        refine v_iconst (v := (-1)) F dX11_knownOn_45 (by decide) ?_
        refine v_ixor F dX11_knownOn_46 ?_
        refine v_iand F dX11_knownOn_47 ?_
        refine v_if_ne (tgt := 63) F dX11_knownOn_48 (by decide) (fun hc12 => ?_) (fun hc12 => ?_)
        · rw [if_neg hc12] at h
          exact w_X11_knownOn_b63 F hr hlk t0 hk4 ih _ _ _ _ h
        · rw [if_pos hc12] at h
          refine v_iload_n F dX11_knownOn_51 rfl 2 rfl ?_
          refine v_aload_n F dX11_knownOn_52 rfl 0 rfl ?_
          refine v_getR (k := 39) (f := 16) F t0 (by decide) (inc inU_11) rfl rfl (by decide) (by decide) (List.mem_cons_of_mem _ fl_X11_77) rfl dX11_knownOn_53 (fun u13 => ?_)
          refine v_iload F dX11_knownOn_56 4 rfl ?_
          obtain ⟨hin14, h⟩ := gd_some h
          refine v_aald (ke := 12) (t0 := 4) F u13 (by decide) rfl rfl hin14 dX11_knownOn_58 (fun u15 => ?_)
          refine v_iconst (v := 1) F dX11_knownOn_59 (by decide) ?_
          obtain ⟨hin16, h⟩ := gd_some h
          refine v_iald F u15 hin16 dX11_knownOn_60 ?_
          refine v_ior F dX11_knownOn_61 ?_
          refine v_istore_n (lv' := [(2, .int (x2 ||| (M (gRf (gRf a0 39) x4.toNatClampNeg) (1 : Int32).toNatClampNeg))), (0, .ref (gAd g a0)), (1, .int i1), (3, .int x3), (4, .int x4)]) F dX11_knownOn_62 rfl (by decide) rfl ?_
          refine v_sub (fun ls h9 => lv_sub h9 [1, 2, 0, 3, 4] rfl) ?_
          exact w_X11_knownOn_b63 F hr hlk t0 hk4 ih _ _ _ _ h
set_option maxHeartbeats 4000000 in
set_option maxRecDepth 100000 in
theorem w_X11_knownOn_h4 {g : gT} {p : Program} {l : Launch} {e : Env} {s : State} {m : MethodId} {args : Array Value} {below : List Frame} {meth : Method} {c : Code} {z : Int32 × Mem} (F : Fx g p s m args c cX11_knownOn 5 uX11_knownOn RX11) (hr : meth.sig.returnType = (some .int)) (hlk : meth.locks = false)  {a0 : Nat} {i1 : Int32} (t0 : Ty g 11 a0)   : ∀ (n : Nat) (x2 : Int32) (x3 : Int32) (M : Mem), f_X11_knownOn_h4 a0 i1 n x2 x3 M = some z → V g p l e ({ frames := 0, cells := 0, slots := 0, locals := 40 * 0 } : Room) s m args below meth c 5 0 0 (MQ below (gQ g (some (.int z.1)) z.2) args s 0 0 (gA g)) 4 [(0, .ref (gAd g a0)), (1, .int i1), (2, .int x2), (3, .int x3)] [] M := by
  intro n
  induction n with
  | zero => intro x2 x3 M; intros; rename_i h; cases h
  | succ n ih =>
    intro x2 x3 M h
    rw [f_X11_knownOn_h4] at h
    refine v_iload_n F dX11_knownOn_4 rfl 3 rfl ?_
    refine v_bipush (v := 10) F dX11_knownOn_5 (by decide) ?_
    refine v_icmp_ge (tgt := 75) F dX11_knownOn_7 (by decide) (fun hc1 => ?_) (fun hc1 => ?_)
    · rw [if_pos hc1] at h
      refine v_iload_n F dX11_knownOn_75 rfl 2 rfl ?_
      cases h
      exact v_iret F hr rfl hlk dX11_knownOn_76
    · rw [if_neg hc1] at h
      refine v_iconst (v := 0) F dX11_knownOn_10 (by decide) ?_
      refine v_istore (lv' := [(4, .int 0), (0, .ref (gAd g a0)), (1, .int i1), (2, .int x2), (3, .int x3)]) F dX11_knownOn_11 (by decide) rfl ?_
      refine v_sub (fun ls h9 => lv_sub h9 [1, 2, 3, 4, 0] rfl) ?_
      exact w_X11_knownOn_h13 F hr hlk t0 ih _ _ _ _ _ h
set_option maxHeartbeats 4000000 in
set_option maxRecDepth 100000 in
theorem c_X11_knownOn {g : gT} (l : Launch) (hok : gOK g)  {a0 : Nat} {i1 : Int32} {M : Mem} {z : Int32 × Mem}  (t0 : Ty g 11 a0) (h : f_X11_knownOn  M a0 i1 = some z) : Cn g l yX11_knownOn uX11_knownOn 0 [.ref (gAd g a0), .int i1] M (some (.int z.1)) z.2 := by
  refine Cn.of (cc := cX11_knownOn) (maxL := 5) (ret := (some .int)) hok (by decide) rfl (Nat.le_of_ble_eq_true rfl) (fun p e s m args below meth c F hr hlk => ?_)
  unfold f_X11_knownOn at h
  show V g p l e ({ frames := 0, cells := 0, slots := 0, locals := 40 * 0 } : Room) s m args below meth c 5 0 0 (MQ below (gQ g (some (.int z.1)) z.2) args s 0 0 (gA g)) 0 [(0, .ref (gAd g a0)), (1, .int i1)] [] M
  refine v_iconst (v := 0) F dX11_knownOn_0 (by decide) ?_
  refine v_istore_n (lv' := [(2, .int 0), (0, .ref (gAd g a0)), (1, .int i1)]) F dX11_knownOn_1 rfl (by decide) rfl ?_
  refine v_iconst (v := 0) F dX11_knownOn_2 (by decide) ?_
  refine v_istore_n (lv' := [(3, .int 0), (2, .int 0), (0, .ref (gAd g a0)), (1, .int i1)]) F dX11_knownOn_3 rfl (by decide) rfl ?_
  refine v_sub (fun ls h9 => lv_sub h9 [2, 3, 1, 0] rfl) ?_
  exact w_X11_knownOn_h4 F hr hlk t0 _ _ _ _ h
def f_X11_known_b22 (a0 : Nat) (i1 : Int32)  (s0 : Nat) (s1 : Int32) (M : Mem) : Option (Int32 × Mem) := (f_X11_bad M s0 s1 1).bind fun q => match q with | (r6, M7) => (if r6 = 0 then ((f_X11_knownOn M7 a0 i1).bind fun q => match q with | (r11, M12) => (some (r11, M12))) else (some (0, M7)))
def f_X11_known  (M : Mem) (a0 : Nat) (i1 : Int32) : Option (Int32 × Mem) := (f_X11_in (mU M a0 0 0) i1 0 999).bind fun q => match q with | (r1, M2) => (if r1 = 0 then (f_X11_known_b22 a0 i1 a0 1 M2) else (f_X11_known_b22 a0 i1 a0 0 M2))
set_option maxHeartbeats 4000000 in
set_option maxRecDepth 100000 in
theorem w_X11_known_b22 {g : gT} {p : Program} {l : Launch} {e : Env} {s : State} {m : MethodId} {args : Array Value} {below : List Frame} {meth : Method} {c : Code} {z : Int32 × Mem} (F : Fx g p s m args c cX11_known 2 uX11_known RX11) (hr : meth.sig.returnType = (some .int)) (hlk : meth.locks = false)  {a0 : Nat} {i1 : Int32} (t0 : Ty g 11 a0)   (s0 : Nat) (s1 : Int32) (M : Mem) (ts0 : Ty g 11 s0) (h : f_X11_known_b22 a0 i1 s0 s1 M = some z) : V g p l e ({ frames := 1, cells := 0, slots := 0, locals := 40 * 1 } : Room) s m args below meth c 2 0 0 (MQ below (gQ g (some (.int z.1)) z.2) args s 0 0 (gA g)) 22 [(0, .ref (gAd g a0)), (1, .int i1)] [.int s1, .ref (gAd g s0)] M := by
  unfold f_X11_known_b22 at h
  refine v_iconst (v := 1) F dX11_known_22 (by decide) ?_
  obtain ⟨⟨r6, M7⟩, hz8, h⟩ := bd_some h
  dsimp only at h
  refine v_callVi (As := [.int s1, .int 1]) (rest := []) F (c_X11_bad l F.2.2.1 ts0 hz8) (cwV 2 F.1.2.2.2.2 (gU_V ml_X11_176 im_yX11_bad se_yX11_bad ini_X11 cd_X11_bad) rfl rfl rfl (by decide +kernel) ⟨Nat.le_of_ble_eq_true rfl, Nat.le_of_ble_eq_true rfl⟩) ts0 (by decide) rfl rfl rfl (Nat.le_of_ble_eq_true rfl) dX11_known_23 ⟨Nat.le_of_ble_eq_true rfl, Nat.le_of_ble_eq_true rfl⟩ ?_
  refine v_if_eq (tgt := 31) F dX11_known_26 (by decide) (fun hc10 => ?_) (fun hc10 => ?_)
  · rw [if_pos hc10] at h
    refine v_aload_n F dX11_known_31 rfl 0 rfl ?_
    refine v_iload_n F dX11_known_32 rfl 1 rfl ?_
    obtain ⟨⟨r11, M12⟩, hz13, h⟩ := bd_some h
    dsimp only at h
    refine v_callVi (As := [.int i1]) (rest := []) F (c_X11_knownOn l F.2.2.1 t0 hz13) (cwV 1 F.1.2.2.2.2 (gU_V ml_X11_304 im_yX11_knownOn se_yX11_knownOn ini_X11 cd_X11_knownOn) rfl rfl rfl (by decide +kernel) ⟨Nat.le_of_ble_eq_true rfl, Nat.le_of_ble_eq_true rfl⟩) t0 (by decide) rfl rfl rfl (Nat.le_of_ble_eq_true rfl) dX11_known_33 ⟨Nat.le_of_ble_eq_true rfl, Nat.le_of_ble_eq_true rfl⟩ ?_
    cases h
    exact v_iret F hr rfl hlk dX11_known_36
  · rw [if_neg hc10] at h
    refine v_iconst (v := 0) F dX11_known_29 (by decide) ?_
    cases h
    exact v_iret F hr rfl hlk dX11_known_30
set_option maxHeartbeats 4000000 in
set_option maxRecDepth 100000 in
theorem c_X11_known {g : gT} (l : Launch) (hok : gOK g)  {a0 : Nat} {i1 : Int32} {M : Mem} {z : Int32 × Mem}  (t0 : Ty g 11 a0) (h : f_X11_known  M a0 i1 = some z) : Cn g l yX11_known uX11_known 1 [.ref (gAd g a0), .int i1] M (some (.int z.1)) z.2 := by
  refine Cn.of (cc := cX11_known) (maxL := 2) (ret := (some .int)) hok (by decide) rfl (Nat.le_of_ble_eq_true rfl) (fun p e s m args below meth c F hr hlk => ?_)
  unfold f_X11_known at h
  show V g p l e ({ frames := 1, cells := 0, slots := 0, locals := 40 * 1 } : Room) s m args below meth c 2 0 0 (MQ below (gQ g (some (.int z.1)) z.2) args s 0 0 (gA g)) 0 [(0, .ref (gAd g a0)), (1, .int i1)] [] M
  refine v_aload_n F dX11_known_0 rfl 0 rfl ?_
  refine v_iconst (v := 0) F dX11_known_1 (by decide) ?_
  refine v_put (k := 0) (ty := .int) F t0 (by decide) (inc inU_11) tyX11 tyX11_ok nmX11 rfl rfl (by decide) (List.mem_cons_of_mem _ fl_X11_83) rfl rfl (by decide +kernel) rfl rfl dX11_known_2 ?_
  refine v_aload_n F dX11_known_5 rfl 0 rfl ?_
  refine v_iload_n F dX11_known_6 rfl 1 rfl ?_
  refine v_iconst (v := 0) F dX11_known_7 (by decide) ?_
  refine v_sipush (v := 999) F dX11_known_8 (by decide) ?_
  obtain ⟨⟨r1, M2⟩, hz3, h⟩ := bd_some h
  dsimp only at h
  refine v_callSi (As := [.int i1, .int 0, .int 999]) (rest := [.ref (gAd g a0)]) F (c_X11_in l F.2.2.1  hz3) (cwS 3 F.1.2.2.2.2 (gU_S ml_X11_172 st_yX11_in ini_X11 cd_X11_in) rfl rfl rfl (by decide +kernel) ⟨Nat.le_of_ble_eq_true rfl, Nat.le_of_ble_eq_true rfl⟩) rfl rfl (Nat.le_of_ble_eq_true rfl) dX11_known_11 ⟨Nat.le_of_ble_eq_true rfl, Nat.le_of_ble_eq_true rfl⟩ ?_
  refine v_if_ne (tgt := 21) F dX11_known_14 (by decide) (fun hc5 => ?_) (fun hc5 => ?_)
  · rw [if_neg hc5] at h
    refine v_iconst (v := 0) F dX11_known_21 (by decide) ?_
    exact w_X11_known_b22 F hr hlk t0 _ _ _ t0 h
  · rw [if_pos hc5] at h
    refine v_iconst (v := 1) F dX11_known_17 (by decide) ?_
    refine v_goto (tgt := 22) F dX11_known_18 (by decide) ?_
    exact w_X11_known_b22 F hr hlk t0 _ _ _ t0 h
def f_X11_could_h33 (a0 : Nat) (i1 : Int32)  : Nat → Int32 → Mem → Option (Int32 × Mem)
  | 0, _, _ => none
  | n + 1, x2, M => if 1000 ≤ x2 then (some ((-1), M)) else ((f_X11_knownOn M a0 x2).bind fun q => match q with | (r12, M13) => (if (i1 &&& (r12 ^^^ (-1))) = 0 then (some (x2, M13)) else ((f_X11_could_h33 a0 i1 n) (x2 + 1) M13)))
def f_X11_could_b22 (a0 : Nat) (i1 : Int32)  (s0 : Nat) (s1 : Int32) (M : Mem) : Option (Int32 × Mem) := (f_X11_bad M s0 s1 1).bind fun q => match q with | (r6, M7) => (if r6 = 0 then (f_X11_could_h33 a0 i1 FU 0 M7) else (some (0, M7)))
def f_X11_could  (M : Mem) (a0 : Nat) (i1 : Int32) : Option (Int32 × Mem) := (f_X11_in (mU M a0 0 0) i1 0 255).bind fun q => match q with | (r1, M2) => (if r1 = 0 then (f_X11_could_b22 a0 i1 a0 1 M2) else (f_X11_could_b22 a0 i1 a0 0 M2))
set_option maxHeartbeats 4000000 in
set_option maxRecDepth 100000 in
theorem w_X11_could_h33 {g : gT} {p : Program} {l : Launch} {e : Env} {s : State} {m : MethodId} {args : Array Value} {below : List Frame} {meth : Method} {c : Code} {z : Int32 × Mem} (F : Fx g p s m args c cX11_could 3 uX11_could RX11) (hr : meth.sig.returnType = (some .int)) (hlk : meth.locks = false)  {a0 : Nat} {i1 : Int32} (t0 : Ty g 11 a0)   : ∀ (n : Nat) (x2 : Int32) (M : Mem), f_X11_could_h33 a0 i1 n x2 M = some z → V g p l e ({ frames := 1, cells := 0, slots := 0, locals := 40 * 1 } : Room) s m args below meth c 3 0 0 (MQ below (gQ g (some (.int z.1)) z.2) args s 0 0 (gA g)) 33 [(0, .ref (gAd g a0)), (1, .int i1), (2, .int x2)] [] M := by
  intro n
  induction n with
  | zero => intro x2 M; intros; rename_i h; cases h
  | succ n ih =>
    intro x2 M h
    rw [f_X11_could_h33] at h
    refine v_iload_n F dX11_could_33 rfl 2 rfl ?_
    refine v_sipush (v := 1000) F dX11_could_34 (by decide) ?_
    refine v_icmp_ge (tgt := 60) F dX11_could_37 (by decide) (fun hc11 => ?_) (fun hc11 => ?_)
    · rw [if_pos hc11] at h
      refine v_iconst (v := (-1)) F dX11_could_60 (by decide) ?_
      cases h
      exact v_iret F hr rfl hlk dX11_could_61
    · rw [if_neg hc11] at h
      refine v_iload_n F dX11_could_40 rfl 1 rfl ?_
      refine v_aload_n F dX11_could_41 rfl 0 rfl ?_
      refine v_iload_n F dX11_could_42 rfl 2 rfl ?_
      obtain ⟨⟨r12, M13⟩, hz14, h⟩ := bd_some h
      dsimp only at h
      refine v_callVi (As := [.int x2]) (rest := [.int i1]) F (c_X11_knownOn l F.2.2.1 t0 hz14) (cwV 1 F.1.2.2.2.2 (gU_V ml_X11_304 im_yX11_knownOn se_yX11_knownOn ini_X11 cd_X11_knownOn) rfl rfl rfl (by decide +kernel) ⟨Nat.le_of_ble_eq_true rfl, Nat.le_of_ble_eq_true rfl⟩) t0 (by decide) rfl rfl rfl (Nat.le_of_ble_eq_true rfl) dX11_could_43 ⟨Nat.le_of_ble_eq_true rfl, Nat.le_of_ble_eq_true rfl⟩ ?_
      refine v_iconst (v := (-1)) F dX11_could_46 (by decide) ?_
      refine v_ixor F dX11_could_47 ?_
      refine v_iand F dX11_could_48 ?_
      refine v_if_ne (tgt := 54) F dX11_could_49 (by decide) (fun hc16 => ?_) (fun hc16 => ?_)
      · rw [if_neg hc16] at h
        refine v_iinc (v := x2 + 1) (lv' := [(2, .int (x2 + 1)), (0, .ref (gAd g a0)), (1, .int i1)]) F dX11_could_54 (q := 2) rfl rfl (by decide) rfl ?_
        refine v_goto (tgt := 33) F dX11_could_57 (by decide) ?_
        refine v_sub (fun ls h9 => lv_sub h9 [1, 2, 0] rfl) ?_
        exact ih _ _ h
      · rw [if_pos hc16] at h
        refine v_iload_n F dX11_could_52 rfl 2 rfl ?_
        cases h
        exact v_iret F hr rfl hlk dX11_could_53
set_option maxHeartbeats 4000000 in
set_option maxRecDepth 100000 in
theorem w_X11_could_b22 {g : gT} {p : Program} {l : Launch} {e : Env} {s : State} {m : MethodId} {args : Array Value} {below : List Frame} {meth : Method} {c : Code} {z : Int32 × Mem} (F : Fx g p s m args c cX11_could 3 uX11_could RX11) (hr : meth.sig.returnType = (some .int)) (hlk : meth.locks = false)  {a0 : Nat} {i1 : Int32} (t0 : Ty g 11 a0)   (s0 : Nat) (s1 : Int32) (M : Mem) (ts0 : Ty g 11 s0) (h : f_X11_could_b22 a0 i1 s0 s1 M = some z) : V g p l e ({ frames := 1, cells := 0, slots := 0, locals := 40 * 1 } : Room) s m args below meth c 3 0 0 (MQ below (gQ g (some (.int z.1)) z.2) args s 0 0 (gA g)) 22 [(0, .ref (gAd g a0)), (1, .int i1)] [.int s1, .ref (gAd g s0)] M := by
  unfold f_X11_could_b22 at h
  refine v_iconst (v := 1) F dX11_could_22 (by decide) ?_
  obtain ⟨⟨r6, M7⟩, hz8, h⟩ := bd_some h
  dsimp only at h
  refine v_callVi (As := [.int s1, .int 1]) (rest := []) F (c_X11_bad l F.2.2.1 ts0 hz8) (cwV 2 F.1.2.2.2.2 (gU_V ml_X11_176 im_yX11_bad se_yX11_bad ini_X11 cd_X11_bad) rfl rfl rfl (by decide +kernel) ⟨Nat.le_of_ble_eq_true rfl, Nat.le_of_ble_eq_true rfl⟩) ts0 (by decide) rfl rfl rfl (Nat.le_of_ble_eq_true rfl) dX11_could_23 ⟨Nat.le_of_ble_eq_true rfl, Nat.le_of_ble_eq_true rfl⟩ ?_
  refine v_if_eq (tgt := 31) F dX11_could_26 (by decide) (fun hc10 => ?_) (fun hc10 => ?_)
  · rw [if_pos hc10] at h
    refine v_iconst (v := 0) F dX11_could_31 (by decide) ?_
    refine v_istore_n (lv' := [(2, .int 0), (0, .ref (gAd g a0)), (1, .int i1)]) F dX11_could_32 rfl (by decide) rfl ?_
    refine v_sub (fun ls h9 => lv_sub h9 [1, 2, 0] rfl) ?_
    exact w_X11_could_h33 F hr hlk t0 _ _ _ h
  · rw [if_neg hc10] at h
    refine v_iconst (v := 0) F dX11_could_29 (by decide) ?_
    cases h
    exact v_iret F hr rfl hlk dX11_could_30
set_option maxHeartbeats 4000000 in
set_option maxRecDepth 100000 in
theorem c_X11_could {g : gT} (l : Launch) (hok : gOK g)  {a0 : Nat} {i1 : Int32} {M : Mem} {z : Int32 × Mem}  (t0 : Ty g 11 a0) (h : f_X11_could  M a0 i1 = some z) : Cn g l yX11_could uX11_could 1 [.ref (gAd g a0), .int i1] M (some (.int z.1)) z.2 := by
  refine Cn.of (cc := cX11_could) (maxL := 3) (ret := (some .int)) hok (by decide) rfl (Nat.le_of_ble_eq_true rfl) (fun p e s m args below meth c F hr hlk => ?_)
  unfold f_X11_could at h
  show V g p l e ({ frames := 1, cells := 0, slots := 0, locals := 40 * 1 } : Room) s m args below meth c 3 0 0 (MQ below (gQ g (some (.int z.1)) z.2) args s 0 0 (gA g)) 0 [(0, .ref (gAd g a0)), (1, .int i1)] [] M
  refine v_aload_n F dX11_could_0 rfl 0 rfl ?_
  refine v_iconst (v := 0) F dX11_could_1 (by decide) ?_
  refine v_put (k := 0) (ty := .int) F t0 (by decide) (inc inU_11) tyX11 tyX11_ok nmX11 rfl rfl (by decide) (List.mem_cons_of_mem _ fl_X11_83) rfl rfl (by decide +kernel) rfl rfl dX11_could_2 ?_
  refine v_aload_n F dX11_could_5 rfl 0 rfl ?_
  refine v_iload_n F dX11_could_6 rfl 1 rfl ?_
  refine v_iconst (v := 0) F dX11_could_7 (by decide) ?_
  refine v_sipush (v := 255) F dX11_could_8 (by decide) ?_
  obtain ⟨⟨r1, M2⟩, hz3, h⟩ := bd_some h
  dsimp only at h
  refine v_callSi (As := [.int i1, .int 0, .int 255]) (rest := [.ref (gAd g a0)]) F (c_X11_in l F.2.2.1  hz3) (cwS 3 F.1.2.2.2.2 (gU_S ml_X11_172 st_yX11_in ini_X11 cd_X11_in) rfl rfl rfl (by decide +kernel) ⟨Nat.le_of_ble_eq_true rfl, Nat.le_of_ble_eq_true rfl⟩) rfl rfl (Nat.le_of_ble_eq_true rfl) dX11_could_11 ⟨Nat.le_of_ble_eq_true rfl, Nat.le_of_ble_eq_true rfl⟩ ?_
  refine v_if_ne (tgt := 21) F dX11_could_14 (by decide) (fun hc5 => ?_) (fun hc5 => ?_)
  · rw [if_neg hc5] at h
    refine v_iconst (v := 0) F dX11_could_21 (by decide) ?_
    exact w_X11_could_b22 F hr hlk t0 _ _ _ t0 h
  · rw [if_pos hc5] at h
    refine v_iconst (v := 1) F dX11_could_17 (by decide) ?_
    refine v_goto (tgt := 22) F dX11_could_18 (by decide) ?_
    exact w_X11_could_b22 F hr hlk t0 _ _ _ t0 h
def f_X11_moves_b16 (a0 : Nat) (i1 : Int32) (i2 : Int32) (i3 : Int32)   (M : Mem) : Option (Int32 × Mem) := if ¬ (i1 < 0 ∨ gN (gRf a0 40) ≤ i1.toNatClampNeg) then (if ¬ ((((mU M a0 41 ((M a0 41) + 1)) a0 41) - 1) < 0 ∨ gN (gRf (gRf a0 40) i1.toNatClampNeg) ≤ (((mU M a0 41 ((M a0 41) + 1)) a0 41) - 1 : Int32).toNatClampNeg) then (some ((mU M a0 41 ((M a0 41) + 1)) (gRf (gRf a0 40) i1.toNatClampNeg) (((mU M a0 41 ((M a0 41) + 1)) a0 41) - 1 : Int32).toNatClampNeg, (mU M a0 41 ((M a0 41) + 1)))) else none) else none
def f_X11_moves  (M : Mem) (a0 : Nat) (i1 : Int32) (i2 : Int32) (i3 : Int32) : Option (Int32 × Mem) := if i3 = 0 then (if ¬ (i1 < 0 ∨ gN (gRf a0 40) ≤ i1.toNatClampNeg) then (if ¬ ((M a0 41) < 0 ∨ gN (gRf (gRf a0 40) i1.toNatClampNeg) ≤ (M a0 41 : Int32).toNatClampNeg) then (f_X11_moves_b16 a0 i1 i2 i3 (mU M (gRf (gRf a0 40) i1.toNatClampNeg) (M a0 41 : Int32).toNatClampNeg i2)) else none) else none) else (f_X11_moves_b16 a0 i1 i2 i3 M)
set_option maxHeartbeats 4000000 in
set_option maxRecDepth 100000 in
theorem w_X11_moves_b16 {g : gT} {p : Program} {l : Launch} {e : Env} {s : State} {m : MethodId} {args : Array Value} {below : List Frame} {meth : Method} {c : Code} {z : Int32 × Mem} (F : Fx g p s m args c cX11_moves 4 uX11_moves RX11) (hr : meth.sig.returnType = (some .int)) (hlk : meth.locks = false)  {a0 : Nat} {i1 : Int32} {i2 : Int32} {i3 : Int32} (t0 : Ty g 11 a0)    (M : Mem)  (h : f_X11_moves_b16 a0 i1 i2 i3 M = some z) : V g p l e ({ frames := 0, cells := 0, slots := 0, locals := 40 * 0 } : Room) s m args below meth c 4 0 0 (MQ below (gQ g (some (.int z.1)) z.2) args s 0 0 (gA g)) 16 [(0, .ref (gAd g a0)), (1, .int i1), (2, .int i2), (3, .int i3)] [] M := by
  unfold f_X11_moves_b16 at h
  refine v_aload_n F dX11_moves_16 rfl 0 rfl ?_
  refine v_dup F dX11_moves_17 rfl ?_
  refine v_getI (k := 41) F t0 (by decide) (inc inU_11) rfl rfl (by decide) (List.mem_cons_of_mem _ fl_X11_307) rfl dX11_moves_18 ?_
  refine v_iconst (v := 1) F dX11_moves_21 (by decide) ?_
  refine v_iadd F dX11_moves_22 ?_
  refine v_put (k := 41) (ty := .int) F t0 (by decide) (inc inU_11) tyX11 tyX11_ok nmX11 rfl rfl (by decide) (List.mem_cons_of_mem _ fl_X11_307) rfl rfl (by decide +kernel) rfl rfl dX11_moves_23 ?_
  refine v_aload_n F dX11_moves_26 rfl 0 rfl ?_
  refine v_getR (k := 40) (f := 16) F t0 (by decide) (inc inU_11) rfl rfl (by decide) (by decide) (List.mem_cons_of_mem _ fl_X11_80) rfl dX11_moves_27 (fun u6 => ?_)
  refine v_iload_n F dX11_moves_30 rfl 1 rfl ?_
  obtain ⟨hin7, h⟩ := gd_some h
  refine v_aald (ke := 12) (t0 := 4) F u6 (by decide) rfl rfl hin7 dX11_moves_31 (fun u8 => ?_)
  refine v_aload_n F dX11_moves_32 rfl 0 rfl ?_
  refine v_getI (k := 41) F t0 (by decide) (inc inU_11) rfl rfl (by decide) (List.mem_cons_of_mem _ fl_X11_307) rfl dX11_moves_33 ?_
  refine v_iconst (v := 1) F dX11_moves_36 (by decide) ?_
  refine v_isub F dX11_moves_37 ?_
  obtain ⟨hin9, h⟩ := gd_some h
  refine v_iald F u8 hin9 dX11_moves_38 ?_
  cases h
  exact v_iret F hr rfl hlk dX11_moves_39
set_option maxHeartbeats 4000000 in
set_option maxRecDepth 100000 in
theorem c_X11_moves {g : gT} (l : Launch) (hok : gOK g)  {a0 : Nat} {i1 : Int32} {i2 : Int32} {i3 : Int32} {M : Mem} {z : Int32 × Mem}  (t0 : Ty g 11 a0) (h : f_X11_moves  M a0 i1 i2 i3 = some z) : Cn g l yX11_moves uX11_moves 0 [.ref (gAd g a0), .int i1, .int i2, .int i3] M (some (.int z.1)) z.2 := by
  refine Cn.of (cc := cX11_moves) (maxL := 4) (ret := (some .int)) hok (by decide) rfl (Nat.le_of_ble_eq_true rfl) (fun p e s m args below meth c F hr hlk => ?_)
  unfold f_X11_moves at h
  show V g p l e ({ frames := 0, cells := 0, slots := 0, locals := 40 * 0 } : Room) s m args below meth c 4 0 0 (MQ below (gQ g (some (.int z.1)) z.2) args s 0 0 (gA g)) 0 [(0, .ref (gAd g a0)), (1, .int i1), (2, .int i2), (3, .int i3)] [] M
  refine v_iload_n F dX11_moves_0 rfl 3 rfl ?_
  refine v_if_ne (tgt := 16) F dX11_moves_1 (by decide) (fun hc1 => ?_) (fun hc1 => ?_)
  · rw [if_neg hc1] at h
    exact w_X11_moves_b16 F hr hlk t0 _ h
  · rw [if_pos hc1] at h
    refine v_aload_n F dX11_moves_4 rfl 0 rfl ?_
    refine v_getR (k := 40) (f := 16) F t0 (by decide) (inc inU_11) rfl rfl (by decide) (by decide) (List.mem_cons_of_mem _ fl_X11_80) rfl dX11_moves_5 (fun u2 => ?_)
    refine v_iload_n F dX11_moves_8 rfl 1 rfl ?_
    obtain ⟨hin3, h⟩ := gd_some h
    refine v_aald (ke := 12) (t0 := 4) F u2 (by decide) rfl rfl hin3 dX11_moves_9 (fun u4 => ?_)
    refine v_aload_n F dX11_moves_10 rfl 0 rfl ?_
    refine v_getI (k := 41) F t0 (by decide) (inc inU_11) rfl rfl (by decide) (List.mem_cons_of_mem _ fl_X11_307) rfl dX11_moves_11 ?_
    refine v_iload_n F dX11_moves_14 rfl 2 rfl ?_
    obtain ⟨hin5, h⟩ := gd_some h
    refine v_iast F u4 hin5 dX11_moves_15 ?_
    exact w_X11_moves_b16 F hr hlk t0 _ h
def f_X11_movesRow_h3 (a0 : Nat) (i1 : Int32) (a2 : Nat) (i3 : Int32)  : Nat → Int32 → Mem → Option (Int32 × Mem)
  | 0, _, _ => none
  | n + 1, x4, M => if (nI (gN a2)) ≤ x4 then (some (0, M)) else (if ¬ (x4 < 0 ∨ gN a2 ≤ x4.toNatClampNeg) then ((f_X11_moves M a0 i1 (M a2 x4.toNatClampNeg) i3).bind fun q => match q with | (r3, M4) => (if ¬ (x4 < 0 ∨ gN a2 ≤ x4.toNatClampNeg) then ((f_X11_movesRow_h3 a0 i1 a2 i3 n) (x4 + 1) (mU M4 a2 x4.toNatClampNeg r3)) else none)) else none)
def f_X11_movesRow  (M : Mem) (a0 : Nat) (i1 : Int32) (a2 : Nat) (i3 : Int32) : Option (Int32 × Mem) := f_X11_movesRow_h3 a0 i1 a2 i3 FU 0 M
set_option maxHeartbeats 4000000 in
set_option maxRecDepth 100000 in
theorem w_X11_movesRow_h3 {g : gT} {p : Program} {l : Launch} {e : Env} {s : State} {m : MethodId} {args : Array Value} {below : List Frame} {meth : Method} {c : Code} {z : Int32 × Mem} (F : Fx g p s m args c cX11_movesRow 5 uX11_movesRow RX11) (hr : meth.sig.returnType = none) (hlk : meth.locks = false)  {a0 : Nat} {i1 : Int32} {a2 : Nat} {i3 : Int32} (t0 : Ty g 11 a0) (t2 : Ty g 12 a2)   : ∀ (n : Nat) (x4 : Int32) (M : Mem), f_X11_movesRow_h3 a0 i1 a2 i3 n x4 M = some z → V g p l e ({ frames := 1, cells := 0, slots := 0, locals := 40 * 1 } : Room) s m args below meth c 5 0 0 (MQ below (gQ g none z.2) args s 0 0 (gA g)) 3 [(0, .ref (gAd g a0)), (1, .int i1), (2, .ref (gAd g a2)), (3, .int i3), (4, .int x4)] [] M := by
  intro n
  induction n with
  | zero => intro x4 M; intros; rename_i h; cases h
  | succ n ih =>
    intro x4 M h
    rw [f_X11_movesRow_h3] at h
    refine v_iload F dX11_movesRow_3 4 rfl ?_
    refine v_aload_n F dX11_movesRow_5 rfl 2 rfl ?_
    refine v_alen (t0 := 0) F t2 (by decide) rfl dX11_movesRow_6 ?_
    refine v_icmp_ge (tgt := 30) F dX11_movesRow_7 (by decide) (fun hc1 => ?_) (fun hc1 => ?_)
    · rw [if_pos hc1] at h
      cases h
      exact v_vret F hr hlk dX11_movesRow_30
    · rw [if_neg hc1] at h
      refine v_aload_n F dX11_movesRow_10 rfl 2 rfl ?_
      refine v_iload F dX11_movesRow_11 4 rfl ?_
      refine v_aload_n F dX11_movesRow_13 rfl 0 rfl ?_
      refine v_iload_n F dX11_movesRow_14 rfl 1 rfl ?_
      refine v_aload_n F dX11_movesRow_15 rfl 2 rfl ?_
      refine v_iload F dX11_movesRow_16 4 rfl ?_
      obtain ⟨hin2, h⟩ := gd_some h
      refine v_iald F t2 hin2 dX11_movesRow_18 ?_
      refine v_iload_n F dX11_movesRow_19 rfl 3 rfl ?_
      obtain ⟨⟨r3, M4⟩, hz5, h⟩ := bd_some h
      dsimp only at h
      refine v_callVi (As := [.int i1, .int (M a2 x4.toNatClampNeg), .int i3]) (rest := [.int x4, .ref (gAd g a2)]) F (c_X11_moves l F.2.2.1 t0 hz5) (cwV 3 F.1.2.2.2.2 (gU_V ml_X11_310 im_yX11_moves se_yX11_moves ini_X11 cd_X11_moves) rfl rfl rfl (by decide +kernel) ⟨Nat.le_of_ble_eq_true rfl, Nat.le_of_ble_eq_true rfl⟩) t0 (by decide) rfl rfl rfl (Nat.le_of_ble_eq_true rfl) dX11_movesRow_20 ⟨Nat.le_of_ble_eq_true rfl, Nat.le_of_ble_eq_true rfl⟩ ?_
      obtain ⟨hin7, h⟩ := gd_some h
      refine v_iast F t2 hin7 dX11_movesRow_23 ?_
      refine v_iinc (v := x4 + 1) (lv' := [(4, .int (x4 + 1)), (0, .ref (gAd g a0)), (1, .int i1), (2, .ref (gAd g a2)), (3, .int i3)]) F dX11_movesRow_24 (q := 4) rfl rfl (by decide) rfl ?_
      refine v_goto (tgt := 3) F dX11_movesRow_27 (by decide) ?_
      refine v_sub (fun ls h9 => lv_sub h9 [1, 2, 3, 4, 0] rfl) ?_
      exact ih _ _ h
set_option maxHeartbeats 4000000 in
set_option maxRecDepth 100000 in
theorem c_X11_movesRow {g : gT} (l : Launch) (hok : gOK g)  {a0 : Nat} {i1 : Int32} {a2 : Nat} {i3 : Int32} {M : Mem} {z : Int32 × Mem}  (t0 : Ty g 11 a0) (t2 : Ty g 12 a2) (h : f_X11_movesRow  M a0 i1 a2 i3 = some z) : Cn g l yX11_movesRow uX11_movesRow 1 [.ref (gAd g a0), .int i1, .ref (gAd g a2), .int i3] M none z.2 := by
  refine Cn.of (cc := cX11_movesRow) (maxL := 5) (ret := none) hok (by decide) rfl (Nat.le_of_ble_eq_true rfl) (fun p e s m args below meth c F hr hlk => ?_)
  unfold f_X11_movesRow at h
  show V g p l e ({ frames := 1, cells := 0, slots := 0, locals := 40 * 1 } : Room) s m args below meth c 5 0 0 (MQ below (gQ g none z.2) args s 0 0 (gA g)) 0 [(0, .ref (gAd g a0)), (1, .int i1), (2, .ref (gAd g a2)), (3, .int i3)] [] M
  refine v_iconst (v := 0) F dX11_movesRow_0 (by decide) ?_
  refine v_istore (lv' := [(4, .int 0), (0, .ref (gAd g a0)), (1, .int i1), (2, .ref (gAd g a2)), (3, .int i3)]) F dX11_movesRow_1 (by decide) rfl ?_
  refine v_sub (fun ls h9 => lv_sub h9 [1, 2, 3, 4, 0] rfl) ?_
  exact w_X11_movesRow_h3 F hr hlk t0 t2 _ _ _ h
def f_X11_movesAll_b176 (a0 : Nat) (i1 : Int32) (i2 : Int32) (k136 : Int32 → Mem → Option (Int32 × Mem)) (s0 : Nat) (s1 : Int32) (s2 : Int32) (x3 : Int32) (M : Mem) : Option (Int32 × Mem) := if ¬ (s1 < 0 ∨ gN s0 ≤ s1.toNatClampNeg) then (if vp_nar .boolean s2 = s2 then (k136 (x3 + 1) (mU M s0 s1.toNatClampNeg s2)) else none) else none
def f_X11_movesAll_b163 (a0 : Nat) (i1 : Int32) (i2 : Int32) (k136 : Int32 → Mem → Option (Int32 × Mem)) (s0 : Nat) (s1 : Int32) (s2 : Nat) (s3 : Int32) (s4 : Int32) (x3 : Int32) (M : Mem) : Option (Int32 × Mem) := (f_X11_moves M s2 s3 s4 i2).bind fun q => match q with | (r48, M49) => (if r48 = 1 then (f_X11_movesAll_b176 a0 i1 i2 k136 s0 s1 1 x3 M49) else (f_X11_movesAll_b176 a0 i1 i2 k136 s0 s1 0 x3 M49))
def f_X11_movesAll_h262 (a0 : Nat) (i1 : Int32) (i2 : Int32)  : Nat → Int32 → Mem → Option (Int32 × Mem)
  | 0, _, _ => none
  | n + 1, x3, M => if 10 ≤ x3 then (some (0, M)) else (if ¬ (x3 < 0 ∨ gN (gRf a0 39) ≤ x3.toNatClampNeg) then ((f_X11_movesRow M a0 i1 (gRf (gRf a0 39) x3.toNatClampNeg) i2).bind fun q => match q with | (r83, M84) => ((f_X11_movesAll_h262 a0 i1 i2 n) (x3 + 1) M84)) else none)
def f_X11_movesAll_h236 (a0 : Nat) (i1 : Int32) (i2 : Int32)  : Nat → Int32 → Mem → Option (Int32 × Mem)
  | 0, _, _ => none
  | n + 1, x3, M => if 6 ≤ x3 then (f_X11_movesAll_h262 a0 i1 i2 FU 0 M) else (if ¬ (x3 < 0 ∨ gN (gRf a0 38) ≤ x3.toNatClampNeg) then ((f_X11_movesRow M a0 i1 (gRf (gRf a0 38) x3.toNatClampNeg) i2).bind fun q => match q with | (r75, M76) => ((f_X11_movesAll_h236 a0 i1 i2 n) (x3 + 1) M76)) else none)
def f_X11_movesAll_h211 (a0 : Nat) (i1 : Int32) (i2 : Int32)  : Nat → Int32 → Mem → Option (Int32 × Mem)
  | 0, _, _ => none
  | n + 1, x3, M => if 5 ≤ x3 then (f_X11_movesAll_h236 a0 i1 i2 FU 0 M) else (if ¬ (x3 < 0 ∨ gN (gRf a0 37) ≤ x3.toNatClampNeg) then ((f_X11_movesRow M a0 i1 (gRf (gRf a0 37) x3.toNatClampNeg) i2).bind fun q => match q with | (r67, M68) => ((f_X11_movesAll_h211 a0 i1 i2 n) (x3 + 1) M68)) else none)
def f_X11_movesAll_h185 (a0 : Nat) (i1 : Int32) (i2 : Int32)  : Nat → Int32 → Mem → Option (Int32 × Mem)
  | 0, _, _ => none
  | n + 1, x3, M => if 20 ≤ x3 then (f_X11_movesAll_h211 a0 i1 i2 FU 0 M) else (if ¬ (x3 < 0 ∨ gN (gRf a0 36) ≤ x3.toNatClampNeg) then ((f_X11_movesRow M a0 i1 (gRf (gRf a0 36) x3.toNatClampNeg) i2).bind fun q => match q with | (r59, M60) => ((f_X11_movesAll_h185 a0 i1 i2 n) (x3 + 1) M60)) else none)
def f_X11_movesAll_h136 (a0 : Nat) (i1 : Int32) (i2 : Int32)  : Nat → Int32 → Mem → Option (Int32 × Mem)
  | 0, _, _ => none
  | n + 1, x3, M => if 8 ≤ x3 then (f_X11_movesAll_h185 a0 i1 i2 FU 0 M) else (if ¬ (x3 < 0 ∨ gN (gRf a0 25) ≤ x3.toNatClampNeg) then (if (M (gRf a0 25) x3.toNatClampNeg) = 0 then (f_X11_movesAll_b163 a0 i1 i2 (f_X11_movesAll_h136 a0 i1 i2 n) (gRf a0 25) x3 a0 i1 0 x3 M) else (f_X11_movesAll_b163 a0 i1 i2 (f_X11_movesAll_h136 a0 i1 i2 n) (gRf a0 25) x3 a0 i1 1 x3 M)) else none)
def f_X11_movesAll_h111 (a0 : Nat) (i1 : Int32) (i2 : Int32)  : Nat → Int32 → Mem → Option (Int32 × Mem)
  | 0, _, _ => none
  | n + 1, x3, M => if 4 ≤ x3 then (f_X11_movesAll_h136 a0 i1 i2 FU 0 M) else (if ¬ (x3 < 0 ∨ gN (gRf a0 22) ≤ x3.toNatClampNeg) then ((f_X11_movesRow M a0 i1 (gRf (gRf a0 22) x3.toNatClampNeg) i2).bind fun q => match q with | (r39, M40) => ((f_X11_movesAll_h111 a0 i1 i2 n) (x3 + 1) M40)) else none)
def f_X11_movesAll  (M : Mem) (a0 : Nat) (i1 : Int32) (i2 : Int32) : Option (Int32 × Mem) := (f_X11_moves (mU M a0 41 0) a0 i1 ((mU M a0 41 0) a0 19) i2).bind fun q => match q with | (r1, M2) => ((f_X11_moves (mU M2 a0 19 r1) a0 i1 ((mU M2 a0 19 r1) a0 20) i2).bind fun q => match q with | (r5, M6) => ((f_X11_moves (mU M6 a0 20 r5) a0 i1 ((mU M6 a0 20 r5) a0 31) i2).bind fun q => match q with | (r9, M10) => ((f_X11_moves (mU M10 a0 31 r9) a0 i1 ((mU M10 a0 31 r9) a0 32) i2).bind fun q => match q with | (r13, M14) => ((f_X11_moves (mU M14 a0 32 r13) a0 i1 ((mU M14 a0 32 r13) a0 33) i2).bind fun q => match q with | (r17, M18) => ((f_X11_moves (mU M18 a0 33 r17) a0 i1 ((mU M18 a0 33 r17) a0 34) i2).bind fun q => match q with | (r21, M22) => ((f_X11_movesRow (mU M22 a0 34 r21) a0 i1 (gRf a0 21) i2).bind fun q => match q with | (r26, M27) => ((f_X11_movesRow M27 a0 i1 (gRf a0 24) i2).bind fun q => match q with | (r31, M32) => (f_X11_movesAll_h111 a0 i1 i2 FU 0 M32))))))))
set_option maxHeartbeats 4000000 in
set_option maxRecDepth 100000 in
theorem w_X11_movesAll_b176 {g : gT} {p : Program} {l : Launch} {e : Env} {s : State} {m : MethodId} {args : Array Value} {below : List Frame} {meth : Method} {c : Code} {z : Int32 × Mem} (F : Fx g p s m args c cX11_movesAll 4 uX11_movesAll RX11) (hr : meth.sig.returnType = none) (hlk : meth.locks = false)  {a0 : Nat} {i1 : Int32} {i2 : Int32} (t0 : Ty g 11 a0) {k136 : Int32 → Mem → Option (Int32 × Mem)} (hk136 : ∀ (x3 : Int32) (M : Mem), k136 x3 M = some z → V g p l e ({ frames := 2, cells := 0, slots := 0, locals := 40 * 2 } : Room) s m args below meth c 4 0 0 (MQ below (gQ g none z.2) args s 0 0 (gA g)) 136 [(0, .ref (gAd g a0)), (1, .int i1), (2, .int i2), (3, .int x3)] [] M) (s0 : Nat) (s1 : Int32) (s2 : Int32) (x3 : Int32) (M : Mem) (ts0 : Ty g 13 s0) (h : f_X11_movesAll_b176 a0 i1 i2 k136 s0 s1 s2 x3 M = some z) : V g p l e ({ frames := 2, cells := 0, slots := 0, locals := 40 * 2 } : Room) s m args below meth c 4 0 0 (MQ below (gQ g none z.2) args s 0 0 (gA g)) 176 [(0, .ref (gAd g a0)), (1, .int i1), (2, .int i2), (3, .int x3)] [.int s2, .int s1, .ref (gAd g s0)] M := by
  unfold f_X11_movesAll_b176 at h
  obtain ⟨hin53, h⟩ := gd_some h
  by_cases hb54 : vp_nar .boolean s2 = s2
  rotate_left
  · rw [if_neg hb54] at h; cases h
  rw [if_pos hb54] at h
  refine v_zast F ts0 hin53 hb54 dX11_movesAll_176 ?_
  refine v_iinc (v := x3 + 1) (lv' := [(3, .int (x3 + 1)), (0, .ref (gAd g a0)), (1, .int i1), (2, .int i2)]) F dX11_movesAll_177 (q := 3) rfl rfl (by decide) rfl ?_
  refine v_goto (tgt := 136) F dX11_movesAll_180 (by decide) ?_
  refine v_sub (fun ls h9 => lv_sub h9 [1, 2, 3, 0] rfl) ?_
  exact hk136 _ _ h
set_option maxHeartbeats 4000000 in
set_option maxRecDepth 100000 in
theorem w_X11_movesAll_b163 {g : gT} {p : Program} {l : Launch} {e : Env} {s : State} {m : MethodId} {args : Array Value} {below : List Frame} {meth : Method} {c : Code} {z : Int32 × Mem} (F : Fx g p s m args c cX11_movesAll 4 uX11_movesAll RX11) (hr : meth.sig.returnType = none) (hlk : meth.locks = false)  {a0 : Nat} {i1 : Int32} {i2 : Int32} (t0 : Ty g 11 a0) {k136 : Int32 → Mem → Option (Int32 × Mem)} (hk136 : ∀ (x3 : Int32) (M : Mem), k136 x3 M = some z → V g p l e ({ frames := 2, cells := 0, slots := 0, locals := 40 * 2 } : Room) s m args below meth c 4 0 0 (MQ below (gQ g none z.2) args s 0 0 (gA g)) 136 [(0, .ref (gAd g a0)), (1, .int i1), (2, .int i2), (3, .int x3)] [] M) (s0 : Nat) (s1 : Int32) (s2 : Nat) (s3 : Int32) (s4 : Int32) (x3 : Int32) (M : Mem) (ts0 : Ty g 13 s0) (ts2 : Ty g 11 s2) (h : f_X11_movesAll_b163 a0 i1 i2 k136 s0 s1 s2 s3 s4 x3 M = some z) : V g p l e ({ frames := 2, cells := 0, slots := 0, locals := 40 * 2 } : Room) s m args below meth c 4 0 0 (MQ below (gQ g none z.2) args s 0 0 (gA g)) 163 [(0, .ref (gAd g a0)), (1, .int i1), (2, .int i2), (3, .int x3)] [.int s4, .int s3, .ref (gAd g s2), .int s1, .ref (gAd g s0)] M := by
  unfold f_X11_movesAll_b163 at h
  refine v_iload_n F dX11_movesAll_163 rfl 2 rfl ?_
  obtain ⟨⟨r48, M49⟩, hz50, h⟩ := bd_some h
  dsimp only at h
  refine v_callVi (As := [.int s3, .int s4, .int i2]) (rest := [.int s1, .ref (gAd g s0)]) F (c_X11_moves l F.2.2.1 ts2 hz50) (cwV 3 F.1.2.2.2.2 (gU_V ml_X11_310 im_yX11_moves se_yX11_moves ini_X11 cd_X11_moves) rfl rfl rfl (by decide +kernel) ⟨Nat.le_of_ble_eq_true rfl, Nat.le_of_ble_eq_true rfl⟩) ts2 (by decide) rfl rfl rfl (Nat.le_of_ble_eq_true rfl) dX11_movesAll_164 ⟨Nat.le_of_ble_eq_true rfl, Nat.le_of_ble_eq_true rfl⟩ ?_
  refine v_iconst (v := 1) F dX11_movesAll_167 (by decide) ?_
  refine v_icmp_ne (tgt := 175) F dX11_movesAll_168 (by decide) (fun hc52 => ?_) (fun hc52 => ?_)
  · rw [if_neg hc52] at h
    refine v_iconst (v := 0) F dX11_movesAll_175 (by decide) ?_
    exact w_X11_movesAll_b176 F hr hlk t0 hk136 _ _ _ _ _ ts0 h
  · rw [if_pos hc52] at h
    refine v_iconst (v := 1) F dX11_movesAll_171 (by decide) ?_
    refine v_goto (tgt := 176) F dX11_movesAll_172 (by decide) ?_
    exact w_X11_movesAll_b176 F hr hlk t0 hk136 _ _ _ _ _ ts0 h
set_option maxHeartbeats 4000000 in
set_option maxRecDepth 100000 in
theorem w_X11_movesAll_h262 {g : gT} {p : Program} {l : Launch} {e : Env} {s : State} {m : MethodId} {args : Array Value} {below : List Frame} {meth : Method} {c : Code} {z : Int32 × Mem} (F : Fx g p s m args c cX11_movesAll 4 uX11_movesAll RX11) (hr : meth.sig.returnType = none) (hlk : meth.locks = false)  {a0 : Nat} {i1 : Int32} {i2 : Int32} (t0 : Ty g 11 a0)   : ∀ (n : Nat) (x3 : Int32) (M : Mem), f_X11_movesAll_h262 a0 i1 i2 n x3 M = some z → V g p l e ({ frames := 2, cells := 0, slots := 0, locals := 40 * 2 } : Room) s m args below meth c 4 0 0 (MQ below (gQ g none z.2) args s 0 0 (gA g)) 262 [(0, .ref (gAd g a0)), (1, .int i1), (2, .int i2), (3, .int x3)] [] M := by
  intro n
  induction n with
  | zero => intro x3 M; intros; rename_i h; cases h
  | succ n ih =>
    intro x3 M h
    rw [f_X11_movesAll_h262] at h
    refine v_iload_n F dX11_movesAll_262 rfl 3 rfl ?_
    refine v_bipush (v := 10) F dX11_movesAll_263 (by decide) ?_
    refine v_icmp_ge (tgt := 286) F dX11_movesAll_265 (by decide) (fun hc79 => ?_) (fun hc79 => ?_)
    · rw [if_pos hc79] at h
      cases h
      exact v_vret F hr hlk dX11_movesAll_286
    · rw [if_neg hc79] at h
      refine v_aload_n F dX11_movesAll_268 rfl 0 rfl ?_
      refine v_iload_n F dX11_movesAll_269 rfl 1 rfl ?_
      refine v_aload_n F dX11_movesAll_270 rfl 0 rfl ?_
      refine v_getR (k := 39) (f := 16) F t0 (by decide) (inc inU_11) rfl rfl (by decide) (by decide) (List.mem_cons_of_mem _ fl_X11_77) rfl dX11_movesAll_271 (fun u80 => ?_)
      refine v_iload_n F dX11_movesAll_274 rfl 3 rfl ?_
      obtain ⟨hin81, h⟩ := gd_some h
      refine v_aald (ke := 12) (t0 := 4) F u80 (by decide) rfl rfl hin81 dX11_movesAll_275 (fun u82 => ?_)
      refine v_iload_n F dX11_movesAll_276 rfl 2 rfl ?_
      obtain ⟨⟨r83, M84⟩, hz85, h⟩ := bd_some h
      dsimp only at h
      refine v_callVv (As := [.int i1, .ref (gAd g (gRf (gRf a0 39) x3.toNatClampNeg)), .int i2]) (rest := []) F (c_X11_movesRow l F.2.2.1 t0 u82 hz85) (cwV 3 F.1.2.2.2.2 (gU_V ml_X11_314 im_yX11_movesRow se_yX11_movesRow ini_X11 cd_X11_movesRow) rfl rfl rfl (by decide +kernel) ⟨Nat.le_of_ble_eq_true rfl, Nat.le_of_ble_eq_true rfl⟩) t0 (by decide) rfl rfl rfl (Nat.le_of_ble_eq_true rfl) dX11_movesAll_277 ⟨Nat.le_of_ble_eq_true rfl, Nat.le_of_ble_eq_true rfl⟩ ?_
      refine v_iinc (v := x3 + 1) (lv' := [(3, .int (x3 + 1)), (0, .ref (gAd g a0)), (1, .int i1), (2, .int i2)]) F dX11_movesAll_280 (q := 3) rfl rfl (by decide) rfl ?_
      refine v_goto (tgt := 262) F dX11_movesAll_283 (by decide) ?_
      refine v_sub (fun ls h9 => lv_sub h9 [1, 2, 3, 0] rfl) ?_
      exact ih _ _ h
set_option maxHeartbeats 4000000 in
set_option maxRecDepth 100000 in
theorem w_X11_movesAll_h236 {g : gT} {p : Program} {l : Launch} {e : Env} {s : State} {m : MethodId} {args : Array Value} {below : List Frame} {meth : Method} {c : Code} {z : Int32 × Mem} (F : Fx g p s m args c cX11_movesAll 4 uX11_movesAll RX11) (hr : meth.sig.returnType = none) (hlk : meth.locks = false)  {a0 : Nat} {i1 : Int32} {i2 : Int32} (t0 : Ty g 11 a0)   : ∀ (n : Nat) (x3 : Int32) (M : Mem), f_X11_movesAll_h236 a0 i1 i2 n x3 M = some z → V g p l e ({ frames := 2, cells := 0, slots := 0, locals := 40 * 2 } : Room) s m args below meth c 4 0 0 (MQ below (gQ g none z.2) args s 0 0 (gA g)) 236 [(0, .ref (gAd g a0)), (1, .int i1), (2, .int i2), (3, .int x3)] [] M := by
  intro n
  induction n with
  | zero => intro x3 M; intros; rename_i h; cases h
  | succ n ih =>
    intro x3 M h
    rw [f_X11_movesAll_h236] at h
    refine v_iload_n F dX11_movesAll_236 rfl 3 rfl ?_
    refine v_bipush (v := 6) F dX11_movesAll_237 (by decide) ?_
    refine v_icmp_ge (tgt := 260) F dX11_movesAll_239 (by decide) (fun hc71 => ?_) (fun hc71 => ?_)
    · rw [if_pos hc71] at h
      refine v_iconst (v := 0) F dX11_movesAll_260 (by decide) ?_
      refine v_istore_n (lv' := [(3, .int 0), (0, .ref (gAd g a0)), (1, .int i1), (2, .int i2)]) F dX11_movesAll_261 rfl (by decide) rfl ?_
      refine v_sub (fun ls h9 => lv_sub h9 [1, 2, 3, 0] rfl) ?_
      exact w_X11_movesAll_h262 F hr hlk t0 _ _ _ h
    · rw [if_neg hc71] at h
      refine v_aload_n F dX11_movesAll_242 rfl 0 rfl ?_
      refine v_iload_n F dX11_movesAll_243 rfl 1 rfl ?_
      refine v_aload_n F dX11_movesAll_244 rfl 0 rfl ?_
      refine v_getR (k := 38) (f := 16) F t0 (by decide) (inc inU_11) rfl rfl (by decide) (by decide) (List.mem_cons_of_mem _ fl_X11_74) rfl dX11_movesAll_245 (fun u72 => ?_)
      refine v_iload_n F dX11_movesAll_248 rfl 3 rfl ?_
      obtain ⟨hin73, h⟩ := gd_some h
      refine v_aald (ke := 12) (t0 := 4) F u72 (by decide) rfl rfl hin73 dX11_movesAll_249 (fun u74 => ?_)
      refine v_iload_n F dX11_movesAll_250 rfl 2 rfl ?_
      obtain ⟨⟨r75, M76⟩, hz77, h⟩ := bd_some h
      dsimp only at h
      refine v_callVv (As := [.int i1, .ref (gAd g (gRf (gRf a0 38) x3.toNatClampNeg)), .int i2]) (rest := []) F (c_X11_movesRow l F.2.2.1 t0 u74 hz77) (cwV 3 F.1.2.2.2.2 (gU_V ml_X11_314 im_yX11_movesRow se_yX11_movesRow ini_X11 cd_X11_movesRow) rfl rfl rfl (by decide +kernel) ⟨Nat.le_of_ble_eq_true rfl, Nat.le_of_ble_eq_true rfl⟩) t0 (by decide) rfl rfl rfl (Nat.le_of_ble_eq_true rfl) dX11_movesAll_251 ⟨Nat.le_of_ble_eq_true rfl, Nat.le_of_ble_eq_true rfl⟩ ?_
      refine v_iinc (v := x3 + 1) (lv' := [(3, .int (x3 + 1)), (0, .ref (gAd g a0)), (1, .int i1), (2, .int i2)]) F dX11_movesAll_254 (q := 3) rfl rfl (by decide) rfl ?_
      refine v_goto (tgt := 236) F dX11_movesAll_257 (by decide) ?_
      refine v_sub (fun ls h9 => lv_sub h9 [1, 2, 3, 0] rfl) ?_
      exact ih _ _ h
set_option maxHeartbeats 4000000 in
set_option maxRecDepth 100000 in
theorem w_X11_movesAll_h211 {g : gT} {p : Program} {l : Launch} {e : Env} {s : State} {m : MethodId} {args : Array Value} {below : List Frame} {meth : Method} {c : Code} {z : Int32 × Mem} (F : Fx g p s m args c cX11_movesAll 4 uX11_movesAll RX11) (hr : meth.sig.returnType = none) (hlk : meth.locks = false)  {a0 : Nat} {i1 : Int32} {i2 : Int32} (t0 : Ty g 11 a0)   : ∀ (n : Nat) (x3 : Int32) (M : Mem), f_X11_movesAll_h211 a0 i1 i2 n x3 M = some z → V g p l e ({ frames := 2, cells := 0, slots := 0, locals := 40 * 2 } : Room) s m args below meth c 4 0 0 (MQ below (gQ g none z.2) args s 0 0 (gA g)) 211 [(0, .ref (gAd g a0)), (1, .int i1), (2, .int i2), (3, .int x3)] [] M := by
  intro n
  induction n with
  | zero => intro x3 M; intros; rename_i h; cases h
  | succ n ih =>
    intro x3 M h
    rw [f_X11_movesAll_h211] at h
    refine v_iload_n F dX11_movesAll_211 rfl 3 rfl ?_
    refine v_iconst (v := 5) F dX11_movesAll_212 (by decide) ?_
    refine v_icmp_ge (tgt := 234) F dX11_movesAll_213 (by decide) (fun hc63 => ?_) (fun hc63 => ?_)
    · rw [if_pos hc63] at h
      refine v_iconst (v := 0) F dX11_movesAll_234 (by decide) ?_
      refine v_istore_n (lv' := [(3, .int 0), (0, .ref (gAd g a0)), (1, .int i1), (2, .int i2)]) F dX11_movesAll_235 rfl (by decide) rfl ?_
      refine v_sub (fun ls h9 => lv_sub h9 [1, 2, 3, 0] rfl) ?_
      exact w_X11_movesAll_h236 F hr hlk t0 _ _ _ h
    · rw [if_neg hc63] at h
      refine v_aload_n F dX11_movesAll_216 rfl 0 rfl ?_
      refine v_iload_n F dX11_movesAll_217 rfl 1 rfl ?_
      refine v_aload_n F dX11_movesAll_218 rfl 0 rfl ?_
      refine v_getR (k := 37) (f := 16) F t0 (by decide) (inc inU_11) rfl rfl (by decide) (by decide) (List.mem_cons_of_mem _ fl_X11_71) rfl dX11_movesAll_219 (fun u64 => ?_)
      refine v_iload_n F dX11_movesAll_222 rfl 3 rfl ?_
      obtain ⟨hin65, h⟩ := gd_some h
      refine v_aald (ke := 12) (t0 := 4) F u64 (by decide) rfl rfl hin65 dX11_movesAll_223 (fun u66 => ?_)
      refine v_iload_n F dX11_movesAll_224 rfl 2 rfl ?_
      obtain ⟨⟨r67, M68⟩, hz69, h⟩ := bd_some h
      dsimp only at h
      refine v_callVv (As := [.int i1, .ref (gAd g (gRf (gRf a0 37) x3.toNatClampNeg)), .int i2]) (rest := []) F (c_X11_movesRow l F.2.2.1 t0 u66 hz69) (cwV 3 F.1.2.2.2.2 (gU_V ml_X11_314 im_yX11_movesRow se_yX11_movesRow ini_X11 cd_X11_movesRow) rfl rfl rfl (by decide +kernel) ⟨Nat.le_of_ble_eq_true rfl, Nat.le_of_ble_eq_true rfl⟩) t0 (by decide) rfl rfl rfl (Nat.le_of_ble_eq_true rfl) dX11_movesAll_225 ⟨Nat.le_of_ble_eq_true rfl, Nat.le_of_ble_eq_true rfl⟩ ?_
      refine v_iinc (v := x3 + 1) (lv' := [(3, .int (x3 + 1)), (0, .ref (gAd g a0)), (1, .int i1), (2, .int i2)]) F dX11_movesAll_228 (q := 3) rfl rfl (by decide) rfl ?_
      refine v_goto (tgt := 211) F dX11_movesAll_231 (by decide) ?_
      refine v_sub (fun ls h9 => lv_sub h9 [1, 2, 3, 0] rfl) ?_
      exact ih _ _ h
set_option maxHeartbeats 4000000 in
set_option maxRecDepth 100000 in
theorem w_X11_movesAll_h185 {g : gT} {p : Program} {l : Launch} {e : Env} {s : State} {m : MethodId} {args : Array Value} {below : List Frame} {meth : Method} {c : Code} {z : Int32 × Mem} (F : Fx g p s m args c cX11_movesAll 4 uX11_movesAll RX11) (hr : meth.sig.returnType = none) (hlk : meth.locks = false)  {a0 : Nat} {i1 : Int32} {i2 : Int32} (t0 : Ty g 11 a0)   : ∀ (n : Nat) (x3 : Int32) (M : Mem), f_X11_movesAll_h185 a0 i1 i2 n x3 M = some z → V g p l e ({ frames := 2, cells := 0, slots := 0, locals := 40 * 2 } : Room) s m args below meth c 4 0 0 (MQ below (gQ g none z.2) args s 0 0 (gA g)) 185 [(0, .ref (gAd g a0)), (1, .int i1), (2, .int i2), (3, .int x3)] [] M := by
  intro n
  induction n with
  | zero => intro x3 M; intros; rename_i h; cases h
  | succ n ih =>
    intro x3 M h
    rw [f_X11_movesAll_h185] at h
    refine v_iload_n F dX11_movesAll_185 rfl 3 rfl ?_
    refine v_bipush (v := 20) F dX11_movesAll_186 (by decide) ?_
    refine v_icmp_ge (tgt := 209) F dX11_movesAll_188 (by decide) (fun hc55 => ?_) (fun hc55 => ?_)
    · rw [if_pos hc55] at h
      refine v_iconst (v := 0) F dX11_movesAll_209 (by decide) ?_
      refine v_istore_n (lv' := [(3, .int 0), (0, .ref (gAd g a0)), (1, .int i1), (2, .int i2)]) F dX11_movesAll_210 rfl (by decide) rfl ?_
      refine v_sub (fun ls h9 => lv_sub h9 [1, 2, 3, 0] rfl) ?_
      exact w_X11_movesAll_h211 F hr hlk t0 _ _ _ h
    · rw [if_neg hc55] at h
      refine v_aload_n F dX11_movesAll_191 rfl 0 rfl ?_
      refine v_iload_n F dX11_movesAll_192 rfl 1 rfl ?_
      refine v_aload_n F dX11_movesAll_193 rfl 0 rfl ?_
      refine v_getR (k := 36) (f := 16) F t0 (by decide) (inc inU_11) rfl rfl (by decide) (by decide) (List.mem_cons_of_mem _ fl_X11_68) rfl dX11_movesAll_194 (fun u56 => ?_)
      refine v_iload_n F dX11_movesAll_197 rfl 3 rfl ?_
      obtain ⟨hin57, h⟩ := gd_some h
      refine v_aald (ke := 12) (t0 := 4) F u56 (by decide) rfl rfl hin57 dX11_movesAll_198 (fun u58 => ?_)
      refine v_iload_n F dX11_movesAll_199 rfl 2 rfl ?_
      obtain ⟨⟨r59, M60⟩, hz61, h⟩ := bd_some h
      dsimp only at h
      refine v_callVv (As := [.int i1, .ref (gAd g (gRf (gRf a0 36) x3.toNatClampNeg)), .int i2]) (rest := []) F (c_X11_movesRow l F.2.2.1 t0 u58 hz61) (cwV 3 F.1.2.2.2.2 (gU_V ml_X11_314 im_yX11_movesRow se_yX11_movesRow ini_X11 cd_X11_movesRow) rfl rfl rfl (by decide +kernel) ⟨Nat.le_of_ble_eq_true rfl, Nat.le_of_ble_eq_true rfl⟩) t0 (by decide) rfl rfl rfl (Nat.le_of_ble_eq_true rfl) dX11_movesAll_200 ⟨Nat.le_of_ble_eq_true rfl, Nat.le_of_ble_eq_true rfl⟩ ?_
      refine v_iinc (v := x3 + 1) (lv' := [(3, .int (x3 + 1)), (0, .ref (gAd g a0)), (1, .int i1), (2, .int i2)]) F dX11_movesAll_203 (q := 3) rfl rfl (by decide) rfl ?_
      refine v_goto (tgt := 185) F dX11_movesAll_206 (by decide) ?_
      refine v_sub (fun ls h9 => lv_sub h9 [1, 2, 3, 0] rfl) ?_
      exact ih _ _ h
set_option maxHeartbeats 4000000 in
set_option maxRecDepth 100000 in
theorem w_X11_movesAll_h136 {g : gT} {p : Program} {l : Launch} {e : Env} {s : State} {m : MethodId} {args : Array Value} {below : List Frame} {meth : Method} {c : Code} {z : Int32 × Mem} (F : Fx g p s m args c cX11_movesAll 4 uX11_movesAll RX11) (hr : meth.sig.returnType = none) (hlk : meth.locks = false)  {a0 : Nat} {i1 : Int32} {i2 : Int32} (t0 : Ty g 11 a0)   : ∀ (n : Nat) (x3 : Int32) (M : Mem), f_X11_movesAll_h136 a0 i1 i2 n x3 M = some z → V g p l e ({ frames := 2, cells := 0, slots := 0, locals := 40 * 2 } : Room) s m args below meth c 4 0 0 (MQ below (gQ g none z.2) args s 0 0 (gA g)) 136 [(0, .ref (gAd g a0)), (1, .int i1), (2, .int i2), (3, .int x3)] [] M := by
  intro n
  induction n with
  | zero => intro x3 M; intros; rename_i h; cases h
  | succ n ih =>
    intro x3 M h
    rw [f_X11_movesAll_h136] at h
    refine v_iload_n F dX11_movesAll_136 rfl 3 rfl ?_
    refine v_bipush (v := 8) F dX11_movesAll_137 (by decide) ?_
    refine v_icmp_ge (tgt := 183) F dX11_movesAll_139 (by decide) (fun hc43 => ?_) (fun hc43 => ?_)
    · rw [if_pos hc43] at h
      refine v_iconst (v := 0) F dX11_movesAll_183 (by decide) ?_
      refine v_istore_n (lv' := [(3, .int 0), (0, .ref (gAd g a0)), (1, .int i1), (2, .int i2)]) F dX11_movesAll_184 rfl (by decide) rfl ?_
      refine v_sub (fun ls h9 => lv_sub h9 [1, 2, 3, 0] rfl) ?_
      exact w_X11_movesAll_h185 F hr hlk t0 _ _ _ h
    · rw [if_neg hc43] at h
      refine v_aload_n F dX11_movesAll_142 rfl 0 rfl ?_
      refine v_getR (k := 25) (f := 13) F t0 (by decide) (inc inU_11) rfl rfl (by decide) (by decide) (List.mem_cons_of_mem _ fl_X11_52) rfl dX11_movesAll_143 (fun u44 => ?_)
      refine v_iload_n F dX11_movesAll_146 rfl 3 rfl ?_
      refine v_aload_n F dX11_movesAll_147 rfl 0 rfl ?_
      refine v_iload_n F dX11_movesAll_148 rfl 1 rfl ?_
      refine v_aload_n F dX11_movesAll_149 rfl 0 rfl ?_
      refine v_getR (k := 25) (f := 13) F t0 (by decide) (inc inU_11) rfl rfl (by decide) (by decide) (List.mem_cons_of_mem _ fl_X11_52) rfl dX11_movesAll_150 (fun u45 => ?_)
      refine v_iload_n F dX11_movesAll_153 rfl 3 rfl ?_
      obtain ⟨hin46, h⟩ := gd_some h
      refine v_zald F u45 hin46 dX11_movesAll_154 ?_
      refine v_if_eq (tgt := 162) F dX11_movesAll_155 (by decide) (fun hc47 => ?_) (fun hc47 => ?_)
      · rw [if_pos hc47] at h
        refine v_iconst (v := 0) F dX11_movesAll_162 (by decide) ?_
        exact w_X11_movesAll_b163 F hr hlk t0 ih _ _ _ _ _ _ _ u44 t0 h
      · rw [if_neg hc47] at h
        refine v_iconst (v := 1) F dX11_movesAll_158 (by decide) ?_
        refine v_goto (tgt := 163) F dX11_movesAll_159 (by decide) ?_
        exact w_X11_movesAll_b163 F hr hlk t0 ih _ _ _ _ _ _ _ u44 t0 h
set_option maxHeartbeats 4000000 in
set_option maxRecDepth 100000 in
theorem w_X11_movesAll_h111 {g : gT} {p : Program} {l : Launch} {e : Env} {s : State} {m : MethodId} {args : Array Value} {below : List Frame} {meth : Method} {c : Code} {z : Int32 × Mem} (F : Fx g p s m args c cX11_movesAll 4 uX11_movesAll RX11) (hr : meth.sig.returnType = none) (hlk : meth.locks = false)  {a0 : Nat} {i1 : Int32} {i2 : Int32} (t0 : Ty g 11 a0)   : ∀ (n : Nat) (x3 : Int32) (M : Mem), f_X11_movesAll_h111 a0 i1 i2 n x3 M = some z → V g p l e ({ frames := 2, cells := 0, slots := 0, locals := 40 * 2 } : Room) s m args below meth c 4 0 0 (MQ below (gQ g none z.2) args s 0 0 (gA g)) 111 [(0, .ref (gAd g a0)), (1, .int i1), (2, .int i2), (3, .int x3)] [] M := by
  intro n
  induction n with
  | zero => intro x3 M; intros; rename_i h; cases h
  | succ n ih =>
    intro x3 M h
    rw [f_X11_movesAll_h111] at h
    refine v_iload_n F dX11_movesAll_111 rfl 3 rfl ?_
    refine v_iconst (v := 4) F dX11_movesAll_112 (by decide) ?_
    refine v_icmp_ge (tgt := 134) F dX11_movesAll_113 (by decide) (fun hc35 => ?_) (fun hc35 => ?_)
    · rw [if_pos hc35] at h
      refine v_iconst (v := 0) F dX11_movesAll_134 (by decide) ?_
      refine v_istore_n (lv' := [(3, .int 0), (0, .ref (gAd g a0)), (1, .int i1), (2, .int i2)]) F dX11_movesAll_135 rfl (by decide) rfl ?_
      refine v_sub (fun ls h9 => lv_sub h9 [1, 2, 3, 0] rfl) ?_
      exact w_X11_movesAll_h136 F hr hlk t0 _ _ _ h
    · rw [if_neg hc35] at h
      refine v_aload_n F dX11_movesAll_116 rfl 0 rfl ?_
      refine v_iload_n F dX11_movesAll_117 rfl 1 rfl ?_
      refine v_aload_n F dX11_movesAll_118 rfl 0 rfl ?_
      refine v_getR (k := 22) (f := 16) F t0 (by decide) (inc inU_11) rfl rfl (by decide) (by decide) (List.mem_cons_of_mem _ fl_X11_43) rfl dX11_movesAll_119 (fun u36 => ?_)
      refine v_iload_n F dX11_movesAll_122 rfl 3 rfl ?_
      obtain ⟨hin37, h⟩ := gd_some h
      refine v_aald (ke := 12) (t0 := 4) F u36 (by decide) rfl rfl hin37 dX11_movesAll_123 (fun u38 => ?_)
      refine v_iload_n F dX11_movesAll_124 rfl 2 rfl ?_
      obtain ⟨⟨r39, M40⟩, hz41, h⟩ := bd_some h
      dsimp only at h
      refine v_callVv (As := [.int i1, .ref (gAd g (gRf (gRf a0 22) x3.toNatClampNeg)), .int i2]) (rest := []) F (c_X11_movesRow l F.2.2.1 t0 u38 hz41) (cwV 3 F.1.2.2.2.2 (gU_V ml_X11_314 im_yX11_movesRow se_yX11_movesRow ini_X11 cd_X11_movesRow) rfl rfl rfl (by decide +kernel) ⟨Nat.le_of_ble_eq_true rfl, Nat.le_of_ble_eq_true rfl⟩) t0 (by decide) rfl rfl rfl (Nat.le_of_ble_eq_true rfl) dX11_movesAll_125 ⟨Nat.le_of_ble_eq_true rfl, Nat.le_of_ble_eq_true rfl⟩ ?_
      refine v_iinc (v := x3 + 1) (lv' := [(3, .int (x3 + 1)), (0, .ref (gAd g a0)), (1, .int i1), (2, .int i2)]) F dX11_movesAll_128 (q := 3) rfl rfl (by decide) rfl ?_
      refine v_goto (tgt := 111) F dX11_movesAll_131 (by decide) ?_
      refine v_sub (fun ls h9 => lv_sub h9 [1, 2, 3, 0] rfl) ?_
      exact ih _ _ h
set_option maxHeartbeats 4000000 in
set_option maxRecDepth 100000 in
theorem c_X11_movesAll {g : gT} (l : Launch) (hok : gOK g)  {a0 : Nat} {i1 : Int32} {i2 : Int32} {M : Mem} {z : Int32 × Mem}  (t0 : Ty g 11 a0) (h : f_X11_movesAll  M a0 i1 i2 = some z) : Cn g l yX11_movesAll uX11_movesAll 2 [.ref (gAd g a0), .int i1, .int i2] M none z.2 := by
  refine Cn.of (cc := cX11_movesAll) (maxL := 4) (ret := none) hok (by decide) rfl (Nat.le_of_ble_eq_true rfl) (fun p e s m args below meth c F hr hlk => ?_)
  unfold f_X11_movesAll at h
  show V g p l e ({ frames := 2, cells := 0, slots := 0, locals := 40 * 2 } : Room) s m args below meth c 4 0 0 (MQ below (gQ g none z.2) args s 0 0 (gA g)) 0 [(0, .ref (gAd g a0)), (1, .int i1), (2, .int i2)] [] M
  refine v_aload_n F dX11_movesAll_0 rfl 0 rfl ?_
  refine v_iconst (v := 0) F dX11_movesAll_1 (by decide) ?_
  refine v_put (k := 41) (ty := .int) F t0 (by decide) (inc inU_11) tyX11 tyX11_ok nmX11 rfl rfl (by decide) (List.mem_cons_of_mem _ fl_X11_307) rfl rfl (by decide +kernel) rfl rfl dX11_movesAll_2 ?_
  refine v_aload_n F dX11_movesAll_5 rfl 0 rfl ?_
  refine v_aload_n F dX11_movesAll_6 rfl 0 rfl ?_
  refine v_iload_n F dX11_movesAll_7 rfl 1 rfl ?_
  refine v_aload_n F dX11_movesAll_8 rfl 0 rfl ?_
  refine v_getI (k := 19) F t0 (by decide) (inc inU_11) rfl rfl (by decide) (List.mem_cons_of_mem _ fl_X11_37) rfl dX11_movesAll_9 ?_
  refine v_iload_n F dX11_movesAll_12 rfl 2 rfl ?_
  obtain ⟨⟨r1, M2⟩, hz3, h⟩ := bd_some h
  dsimp only at h
  refine v_callVi (As := [.int i1, .int ((mU M a0 41 0) a0 19), .int i2]) (rest := [.ref (gAd g a0)]) F (c_X11_moves l F.2.2.1 t0 hz3) (cwV 3 F.1.2.2.2.2 (gU_V ml_X11_310 im_yX11_moves se_yX11_moves ini_X11 cd_X11_moves) rfl rfl rfl (by decide +kernel) ⟨Nat.le_of_ble_eq_true rfl, Nat.le_of_ble_eq_true rfl⟩) t0 (by decide) rfl rfl rfl (Nat.le_of_ble_eq_true rfl) dX11_movesAll_13 ⟨Nat.le_of_ble_eq_true rfl, Nat.le_of_ble_eq_true rfl⟩ ?_
  refine v_put (k := 19) (ty := .int) F t0 (by decide) (inc inU_11) tyX11 tyX11_ok nmX11 rfl rfl (by decide) (List.mem_cons_of_mem _ fl_X11_37) rfl rfl (by decide +kernel) rfl rfl dX11_movesAll_16 ?_
  refine v_aload_n F dX11_movesAll_19 rfl 0 rfl ?_
  refine v_aload_n F dX11_movesAll_20 rfl 0 rfl ?_
  refine v_iload_n F dX11_movesAll_21 rfl 1 rfl ?_
  refine v_aload_n F dX11_movesAll_22 rfl 0 rfl ?_
  refine v_getI (k := 20) F t0 (by decide) (inc inU_11) rfl rfl (by decide) (List.mem_cons_of_mem _ fl_X11_200) rfl dX11_movesAll_23 ?_
  refine v_iload_n F dX11_movesAll_26 rfl 2 rfl ?_
  obtain ⟨⟨r5, M6⟩, hz7, h⟩ := bd_some h
  dsimp only at h
  refine v_callVi (As := [.int i1, .int ((mU M2 a0 19 r1) a0 20), .int i2]) (rest := [.ref (gAd g a0)]) F (c_X11_moves l F.2.2.1 t0 hz7) (cwV 3 F.1.2.2.2.2 (gU_V ml_X11_310 im_yX11_moves se_yX11_moves ini_X11 cd_X11_moves) rfl rfl rfl (by decide +kernel) ⟨Nat.le_of_ble_eq_true rfl, Nat.le_of_ble_eq_true rfl⟩) t0 (by decide) rfl rfl rfl (Nat.le_of_ble_eq_true rfl) dX11_movesAll_27 ⟨Nat.le_of_ble_eq_true rfl, Nat.le_of_ble_eq_true rfl⟩ ?_
  refine v_put (k := 20) (ty := .int) F t0 (by decide) (inc inU_11) tyX11 tyX11_ok nmX11 rfl rfl (by decide) (List.mem_cons_of_mem _ fl_X11_200) rfl rfl (by decide +kernel) rfl rfl dX11_movesAll_30 ?_
  refine v_aload_n F dX11_movesAll_33 rfl 0 rfl ?_
  refine v_aload_n F dX11_movesAll_34 rfl 0 rfl ?_
  refine v_iload_n F dX11_movesAll_35 rfl 1 rfl ?_
  refine v_aload_n F dX11_movesAll_36 rfl 0 rfl ?_
  refine v_getI (k := 31) F t0 (by decide) (inc inU_11) rfl rfl (by decide) (List.mem_cons_of_mem _ fl_X11_279) rfl dX11_movesAll_37 ?_
  refine v_iload_n F dX11_movesAll_40 rfl 2 rfl ?_
  obtain ⟨⟨r9, M10⟩, hz11, h⟩ := bd_some h
  dsimp only at h
  refine v_callVi (As := [.int i1, .int ((mU M6 a0 20 r5) a0 31), .int i2]) (rest := [.ref (gAd g a0)]) F (c_X11_moves l F.2.2.1 t0 hz11) (cwV 3 F.1.2.2.2.2 (gU_V ml_X11_310 im_yX11_moves se_yX11_moves ini_X11 cd_X11_moves) rfl rfl rfl (by decide +kernel) ⟨Nat.le_of_ble_eq_true rfl, Nat.le_of_ble_eq_true rfl⟩) t0 (by decide) rfl rfl rfl (Nat.le_of_ble_eq_true rfl) dX11_movesAll_41 ⟨Nat.le_of_ble_eq_true rfl, Nat.le_of_ble_eq_true rfl⟩ ?_
  refine v_put (k := 31) (ty := .int) F t0 (by decide) (inc inU_11) tyX11 tyX11_ok nmX11 rfl rfl (by decide) (List.mem_cons_of_mem _ fl_X11_279) rfl rfl (by decide +kernel) rfl rfl dX11_movesAll_44 ?_
  refine v_aload_n F dX11_movesAll_47 rfl 0 rfl ?_
  refine v_aload_n F dX11_movesAll_48 rfl 0 rfl ?_
  refine v_iload_n F dX11_movesAll_49 rfl 1 rfl ?_
  refine v_aload_n F dX11_movesAll_50 rfl 0 rfl ?_
  refine v_getI (k := 32) F t0 (by decide) (inc inU_11) rfl rfl (by decide) (List.mem_cons_of_mem _ fl_X11_283) rfl dX11_movesAll_51 ?_
  refine v_iload_n F dX11_movesAll_54 rfl 2 rfl ?_
  obtain ⟨⟨r13, M14⟩, hz15, h⟩ := bd_some h
  dsimp only at h
  refine v_callVi (As := [.int i1, .int ((mU M10 a0 31 r9) a0 32), .int i2]) (rest := [.ref (gAd g a0)]) F (c_X11_moves l F.2.2.1 t0 hz15) (cwV 3 F.1.2.2.2.2 (gU_V ml_X11_310 im_yX11_moves se_yX11_moves ini_X11 cd_X11_moves) rfl rfl rfl (by decide +kernel) ⟨Nat.le_of_ble_eq_true rfl, Nat.le_of_ble_eq_true rfl⟩) t0 (by decide) rfl rfl rfl (Nat.le_of_ble_eq_true rfl) dX11_movesAll_55 ⟨Nat.le_of_ble_eq_true rfl, Nat.le_of_ble_eq_true rfl⟩ ?_
  refine v_put (k := 32) (ty := .int) F t0 (by decide) (inc inU_11) tyX11 tyX11_ok nmX11 rfl rfl (by decide) (List.mem_cons_of_mem _ fl_X11_283) rfl rfl (by decide +kernel) rfl rfl dX11_movesAll_58 ?_
  refine v_aload_n F dX11_movesAll_61 rfl 0 rfl ?_
  refine v_aload_n F dX11_movesAll_62 rfl 0 rfl ?_
  refine v_iload_n F dX11_movesAll_63 rfl 1 rfl ?_
  refine v_aload_n F dX11_movesAll_64 rfl 0 rfl ?_
  refine v_getI (k := 33) F t0 (by decide) (inc inU_11) rfl rfl (by decide) (List.mem_cons_of_mem _ fl_X11_295) rfl dX11_movesAll_65 ?_
  refine v_iload_n F dX11_movesAll_68 rfl 2 rfl ?_
  obtain ⟨⟨r17, M18⟩, hz19, h⟩ := bd_some h
  dsimp only at h
  refine v_callVi (As := [.int i1, .int ((mU M14 a0 32 r13) a0 33), .int i2]) (rest := [.ref (gAd g a0)]) F (c_X11_moves l F.2.2.1 t0 hz19) (cwV 3 F.1.2.2.2.2 (gU_V ml_X11_310 im_yX11_moves se_yX11_moves ini_X11 cd_X11_moves) rfl rfl rfl (by decide +kernel) ⟨Nat.le_of_ble_eq_true rfl, Nat.le_of_ble_eq_true rfl⟩) t0 (by decide) rfl rfl rfl (Nat.le_of_ble_eq_true rfl) dX11_movesAll_69 ⟨Nat.le_of_ble_eq_true rfl, Nat.le_of_ble_eq_true rfl⟩ ?_
  refine v_put (k := 33) (ty := .int) F t0 (by decide) (inc inU_11) tyX11 tyX11_ok nmX11 rfl rfl (by decide) (List.mem_cons_of_mem _ fl_X11_295) rfl rfl (by decide +kernel) rfl rfl dX11_movesAll_72 ?_
  refine v_aload_n F dX11_movesAll_75 rfl 0 rfl ?_
  refine v_aload_n F dX11_movesAll_76 rfl 0 rfl ?_
  refine v_iload_n F dX11_movesAll_77 rfl 1 rfl ?_
  refine v_aload_n F dX11_movesAll_78 rfl 0 rfl ?_
  refine v_getI (k := 34) F t0 (by decide) (inc inU_11) rfl rfl (by decide) (List.mem_cons_of_mem _ fl_X11_301) rfl dX11_movesAll_79 ?_
  refine v_iload_n F dX11_movesAll_82 rfl 2 rfl ?_
  obtain ⟨⟨r21, M22⟩, hz23, h⟩ := bd_some h
  dsimp only at h
  refine v_callVi (As := [.int i1, .int ((mU M18 a0 33 r17) a0 34), .int i2]) (rest := [.ref (gAd g a0)]) F (c_X11_moves l F.2.2.1 t0 hz23) (cwV 3 F.1.2.2.2.2 (gU_V ml_X11_310 im_yX11_moves se_yX11_moves ini_X11 cd_X11_moves) rfl rfl rfl (by decide +kernel) ⟨Nat.le_of_ble_eq_true rfl, Nat.le_of_ble_eq_true rfl⟩) t0 (by decide) rfl rfl rfl (Nat.le_of_ble_eq_true rfl) dX11_movesAll_83 ⟨Nat.le_of_ble_eq_true rfl, Nat.le_of_ble_eq_true rfl⟩ ?_
  refine v_put (k := 34) (ty := .int) F t0 (by decide) (inc inU_11) tyX11 tyX11_ok nmX11 rfl rfl (by decide) (List.mem_cons_of_mem _ fl_X11_301) rfl rfl (by decide +kernel) rfl rfl dX11_movesAll_86 ?_
  refine v_aload_n F dX11_movesAll_89 rfl 0 rfl ?_
  refine v_iload_n F dX11_movesAll_90 rfl 1 rfl ?_
  refine v_aload_n F dX11_movesAll_91 rfl 0 rfl ?_
  refine v_getR (k := 21) (f := 12) F t0 (by decide) (inc inU_11) rfl rfl (by decide) (by decide) (List.mem_cons_of_mem _ fl_X11_40) rfl dX11_movesAll_92 (fun u25 => ?_)
  refine v_iload_n F dX11_movesAll_95 rfl 2 rfl ?_
  obtain ⟨⟨r26, M27⟩, hz28, h⟩ := bd_some h
  dsimp only at h
  refine v_callVv (As := [.int i1, .ref (gAd g (gRf a0 21)), .int i2]) (rest := []) F (c_X11_movesRow l F.2.2.1 t0 u25 hz28) (cwV 3 F.1.2.2.2.2 (gU_V ml_X11_314 im_yX11_movesRow se_yX11_movesRow ini_X11 cd_X11_movesRow) rfl rfl rfl (by decide +kernel) ⟨Nat.le_of_ble_eq_true rfl, Nat.le_of_ble_eq_true rfl⟩) t0 (by decide) rfl rfl rfl (Nat.le_of_ble_eq_true rfl) dX11_movesAll_96 ⟨Nat.le_of_ble_eq_true rfl, Nat.le_of_ble_eq_true rfl⟩ ?_
  refine v_aload_n F dX11_movesAll_99 rfl 0 rfl ?_
  refine v_iload_n F dX11_movesAll_100 rfl 1 rfl ?_
  refine v_aload_n F dX11_movesAll_101 rfl 0 rfl ?_
  refine v_getR (k := 24) (f := 12) F t0 (by decide) (inc inU_11) rfl rfl (by decide) (by decide) (List.mem_cons_of_mem _ fl_X11_49) rfl dX11_movesAll_102 (fun u30 => ?_)
  refine v_iload_n F dX11_movesAll_105 rfl 2 rfl ?_
  obtain ⟨⟨r31, M32⟩, hz33, h⟩ := bd_some h
  dsimp only at h
  refine v_callVv (As := [.int i1, .ref (gAd g (gRf a0 24)), .int i2]) (rest := []) F (c_X11_movesRow l F.2.2.1 t0 u30 hz33) (cwV 3 F.1.2.2.2.2 (gU_V ml_X11_314 im_yX11_movesRow se_yX11_movesRow ini_X11 cd_X11_movesRow) rfl rfl rfl (by decide +kernel) ⟨Nat.le_of_ble_eq_true rfl, Nat.le_of_ble_eq_true rfl⟩) t0 (by decide) rfl rfl rfl (Nat.le_of_ble_eq_true rfl) dX11_movesAll_106 ⟨Nat.le_of_ble_eq_true rfl, Nat.le_of_ble_eq_true rfl⟩ ?_
  refine v_iconst (v := 0) F dX11_movesAll_109 (by decide) ?_
  refine v_istore_n (lv' := [(3, .int 0), (0, .ref (gAd g a0)), (1, .int i1), (2, .int i2)]) F dX11_movesAll_110 rfl (by decide) rfl ?_
  refine v_sub (fun ls h9 => lv_sub h9 [1, 2, 3, 0] rfl) ?_
  exact w_X11_movesAll_h111 F hr hlk t0 _ _ _ h
def f_X11_image  (M : Mem) (a0 : Nat) : Option (Int32 × Mem) := if ((mU M a0 0 0) a0 35) = 3 then (some ((-1), (mU M a0 0 0))) else ((f_X11_movesAll (mU M a0 0 0) a0 ((mU M a0 0 0) a0 35) 0).bind fun q => match q with | (r2, M3) => (some ((mU M3 a0 35 ((M3 a0 35) + 1)) a0 35, (mU M3 a0 35 ((M3 a0 35) + 1)))))
set_option maxHeartbeats 4000000 in
set_option maxRecDepth 100000 in
theorem c_X11_image {g : gT} (l : Launch) (hok : gOK g)  {a0 : Nat} {M : Mem} {z : Int32 × Mem}  (t0 : Ty g 11 a0) (h : f_X11_image  M a0 = some z) : Cn g l yX11_image uX11_image 3 [.ref (gAd g a0)] M (some (.int z.1)) z.2 := by
  refine Cn.of (cc := cX11_image) (maxL := 1) (ret := (some .int)) hok (by decide) rfl (Nat.le_of_ble_eq_true rfl) (fun p e s m args below meth c F hr hlk => ?_)
  unfold f_X11_image at h
  show V g p l e ({ frames := 3, cells := 0, slots := 0, locals := 40 * 3 } : Room) s m args below meth c 1 0 0 (MQ below (gQ g (some (.int z.1)) z.2) args s 0 0 (gA g)) 0 [(0, .ref (gAd g a0))] [] M
  refine v_aload_n F dX11_image_0 rfl 0 rfl ?_
  refine v_iconst (v := 0) F dX11_image_1 (by decide) ?_
  refine v_put (k := 0) (ty := .int) F t0 (by decide) (inc inU_11) tyX11 tyX11_ok nmX11 rfl rfl (by decide) (List.mem_cons_of_mem _ fl_X11_83) rfl rfl (by decide +kernel) rfl rfl dX11_image_2 ?_
  refine v_aload_n F dX11_image_5 rfl 0 rfl ?_
  refine v_getI (k := 35) F t0 (by decide) (inc inU_11) rfl rfl (by decide) (List.mem_cons_of_mem _ fl_X11_318) rfl dX11_image_6 ?_
  refine v_iconst (v := 3) F dX11_image_9 (by decide) ?_
  refine v_icmp_ne (tgt := 15) F dX11_image_10 (by decide) (fun hc1 => ?_) (fun hc1 => ?_)
  · rw [if_neg hc1] at h
    refine v_aload_n F dX11_image_15 rfl 0 rfl ?_
    refine v_aload_n F dX11_image_16 rfl 0 rfl ?_
    refine v_getI (k := 35) F t0 (by decide) (inc inU_11) rfl rfl (by decide) (List.mem_cons_of_mem _ fl_X11_318) rfl dX11_image_17 ?_
    refine v_iconst (v := 0) F dX11_image_20 (by decide) ?_
    obtain ⟨⟨r2, M3⟩, hz4, h⟩ := bd_some h
    dsimp only at h
    refine v_callVv (As := [.int ((mU M a0 0 0) a0 35), .int 0]) (rest := []) F (c_X11_movesAll l F.2.2.1 t0 hz4) (cwV 2 F.1.2.2.2.2 (gU_V ml_X11_321 im_yX11_movesAll se_yX11_movesAll ini_X11 cd_X11_movesAll) rfl rfl rfl (by decide +kernel) ⟨Nat.le_of_ble_eq_true rfl, Nat.le_of_ble_eq_true rfl⟩) t0 (by decide) rfl rfl rfl (Nat.le_of_ble_eq_true rfl) dX11_image_21 ⟨Nat.le_of_ble_eq_true rfl, Nat.le_of_ble_eq_true rfl⟩ ?_
    refine v_aload_n F dX11_image_24 rfl 0 rfl ?_
    refine v_dup F dX11_image_25 rfl ?_
    refine v_getI (k := 35) F t0 (by decide) (inc inU_11) rfl rfl (by decide) (List.mem_cons_of_mem _ fl_X11_318) rfl dX11_image_26 ?_
    refine v_iconst (v := 1) F dX11_image_29 (by decide) ?_
    refine v_iadd F dX11_image_30 ?_
    refine v_put (k := 35) (ty := .int) F t0 (by decide) (inc inU_11) tyX11 tyX11_ok nmX11 rfl rfl (by decide) (List.mem_cons_of_mem _ fl_X11_318) rfl rfl (by decide +kernel) rfl rfl dX11_image_31 ?_
    refine v_aload_n F dX11_image_34 rfl 0 rfl ?_
    refine v_getI (k := 35) F t0 (by decide) (inc inU_11) rfl rfl (by decide) (List.mem_cons_of_mem _ fl_X11_318) rfl dX11_image_35 ?_
    cases h
    exact v_iret F hr rfl hlk dX11_image_38
  · rw [if_pos hc1] at h
    refine v_iconst (v := (-1)) F dX11_image_13 (by decide) ?_
    cases h
    exact v_iret F hr rfl hlk dX11_image_14
def f_X11_restore  (M : Mem) (a0 : Nat) : Option (Int32 × Mem) := if ((mU M a0 0 0) a0 35) = 0 then (some ((-1), (mU M a0 0 0))) else ((f_X11_movesAll (mU (mU M a0 0 0) a0 35 (((mU M a0 0 0) a0 35) - 1)) a0 ((mU (mU M a0 0 0) a0 35 (((mU M a0 0 0) a0 35) - 1)) a0 35) 1).bind fun q => match q with | (r2, M3) => (some (M3 a0 35, M3)))
set_option maxHeartbeats 4000000 in
set_option maxRecDepth 100000 in
theorem c_X11_restore {g : gT} (l : Launch) (hok : gOK g)  {a0 : Nat} {M : Mem} {z : Int32 × Mem}  (t0 : Ty g 11 a0) (h : f_X11_restore  M a0 = some z) : Cn g l yX11_restore uX11_restore 3 [.ref (gAd g a0)] M (some (.int z.1)) z.2 := by
  refine Cn.of (cc := cX11_restore) (maxL := 1) (ret := (some .int)) hok (by decide) rfl (Nat.le_of_ble_eq_true rfl) (fun p e s m args below meth c F hr hlk => ?_)
  unfold f_X11_restore at h
  show V g p l e ({ frames := 3, cells := 0, slots := 0, locals := 40 * 3 } : Room) s m args below meth c 1 0 0 (MQ below (gQ g (some (.int z.1)) z.2) args s 0 0 (gA g)) 0 [(0, .ref (gAd g a0))] [] M
  refine v_aload_n F dX11_restore_0 rfl 0 rfl ?_
  refine v_iconst (v := 0) F dX11_restore_1 (by decide) ?_
  refine v_put (k := 0) (ty := .int) F t0 (by decide) (inc inU_11) tyX11 tyX11_ok nmX11 rfl rfl (by decide) (List.mem_cons_of_mem _ fl_X11_83) rfl rfl (by decide +kernel) rfl rfl dX11_restore_2 ?_
  refine v_aload_n F dX11_restore_5 rfl 0 rfl ?_
  refine v_getI (k := 35) F t0 (by decide) (inc inU_11) rfl rfl (by decide) (List.mem_cons_of_mem _ fl_X11_318) rfl dX11_restore_6 ?_
  refine v_if_ne (tgt := 14) F dX11_restore_9 (by decide) (fun hc1 => ?_) (fun hc1 => ?_)
  · rw [if_neg hc1] at h
    refine v_aload_n F dX11_restore_14 rfl 0 rfl ?_
    refine v_dup F dX11_restore_15 rfl ?_
    refine v_getI (k := 35) F t0 (by decide) (inc inU_11) rfl rfl (by decide) (List.mem_cons_of_mem _ fl_X11_318) rfl dX11_restore_16 ?_
    refine v_iconst (v := 1) F dX11_restore_19 (by decide) ?_
    refine v_isub F dX11_restore_20 ?_
    refine v_put (k := 35) (ty := .int) F t0 (by decide) (inc inU_11) tyX11 tyX11_ok nmX11 rfl rfl (by decide) (List.mem_cons_of_mem _ fl_X11_318) rfl rfl (by decide +kernel) rfl rfl dX11_restore_21 ?_
    refine v_aload_n F dX11_restore_24 rfl 0 rfl ?_
    refine v_aload_n F dX11_restore_25 rfl 0 rfl ?_
    refine v_getI (k := 35) F t0 (by decide) (inc inU_11) rfl rfl (by decide) (List.mem_cons_of_mem _ fl_X11_318) rfl dX11_restore_26 ?_
    refine v_iconst (v := 1) F dX11_restore_29 (by decide) ?_
    obtain ⟨⟨r2, M3⟩, hz4, h⟩ := bd_some h
    dsimp only at h
    refine v_callVv (As := [.int ((mU (mU M a0 0 0) a0 35 (((mU M a0 0 0) a0 35) - 1)) a0 35), .int 1]) (rest := []) F (c_X11_movesAll l F.2.2.1 t0 hz4) (cwV 2 F.1.2.2.2.2 (gU_V ml_X11_321 im_yX11_movesAll se_yX11_movesAll ini_X11 cd_X11_movesAll) rfl rfl rfl (by decide +kernel) ⟨Nat.le_of_ble_eq_true rfl, Nat.le_of_ble_eq_true rfl⟩) t0 (by decide) rfl rfl rfl (Nat.le_of_ble_eq_true rfl) dX11_restore_30 ⟨Nat.le_of_ble_eq_true rfl, Nat.le_of_ble_eq_true rfl⟩ ?_
    refine v_aload_n F dX11_restore_33 rfl 0 rfl ?_
    refine v_getI (k := 35) F t0 (by decide) (inc inU_11) rfl rfl (by decide) (List.mem_cons_of_mem _ fl_X11_318) rfl dX11_restore_34 ?_
    cases h
    exact v_iret F hr rfl hlk dX11_restore_37
  · rw [if_pos hc1] at h
    refine v_iconst (v := (-1)) F dX11_restore_12 (by decide) ?_
    cases h
    exact v_iret F hr rfl hlk dX11_restore_13
