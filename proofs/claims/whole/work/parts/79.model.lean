/-! The model's constructor. -/
theorem BldX.ltc {g0 g : gT} {b c : Nat} {U : List Nat} {S : List (Nat × Nat)} (h : BldX g0 g b c U S) : ∀ a ∈ gL g, a < c := fun a ha => by
  by_cases y : a < c
  · exact y
  · exact absurd ha (h.nin (by omega))
theorem row_step {M M1 : Mem} {x k : Nat} {v : Int32} {L : Nat → Int32} (h : M1 = mU M x k v) (hrow : M x = fun j => if j < k then L j else 0) (hv : L k = v) : M1 x = fun j => if j < k + 1 then L j else 0 := by
  subst h
  funext j
  rw [mU_at, hrow]
  by_cases z : j = k
  · rw [if_pos ⟨rfl, z⟩, if_pos (by omega), z, hv]
  · rw [if_neg (fun w => z w.2)]
    show (if j < k then L j else 0) = _
    by_cases w : j < k
    · rw [if_pos w, if_pos (by omega)]
    · rw [if_neg w, if_neg (by omega)]
theorem ml_X11_1 : Cond.methodLink RX11 1 objectInit ∈ uT := uM5 (List.mem_of_getElem? (i := 93) rfl) rfl
theorem cl_X11_20 : Cond.classLink RX11 20 "[[I" ∈ uT := uM5 (List.mem_of_getElem? (i := 94) rfl) rfl
theorem ac_bool : Cond.arrayClass .boolean ∈ uT := uM5 (List.mem_of_getElem? (i := 223) rfl) rfl
abbrev S11 : List (Nat × Nat × List (Option Nat)) := [(11, 42, [none, none, none, none, none, none, none, none, none, some 1, some 2, none, some 3, some 8, some 9, some 10, none, none, none, none, none, some 11, some 12, some 17, some 22, some 23, none, some 24, some 29, some 30, some 31, none, none, none, none, none, some 32, some 53, some 59, some 66, some 77, none]), (12, 300, []), (12, 400, []), (16, 4, [some 4, some 5, some 6, some 7]), (12, 400, []), (12, 400, []), (12, 400, []), (12, 400, []), (12, 4, []), (12, 120, []), (12, 9, []), (12, 10, []), (16, 4, [some 13, some 14, some 15, some 16]), (12, 8, []), (12, 8, []), (12, 8, []), (12, 8, []), (16, 4, [some 18, some 19, some 20, some 21]), (12, 8, []), (12, 8, []), (12, 8, []), (12, 8, []), (12, 8, []), (13, 8, []), (16, 4, [some 25, some 26, some 27, some 28]), (12, 8, []), (12, 8, []), (12, 8, []), (12, 8, []), (12, 8, []), (12, 10, []), (13, 8, []), (16, 20, [some 33, some 34, some 35, some 36, some 37, some 38, some 39, some 40, some 41, some 42, some 43, some 44, some 45, some 46, some 47, some 48, some 49, some 50, some 51, some 52]), (12, 4, []), (12, 4, []), (12, 4, []), (12, 4, []), (12, 4, []), (12, 4, []), (12, 4, []), (12, 4, []), (12, 4, []), (12, 4, []), (12, 4, []), (12, 4, []), (12, 4, []), (12, 4, []), (12, 4, []), (12, 4, []), (12, 4, []), (12, 4, []), (12, 4, []), (12, 4, []), (16, 5, [some 54, some 55, some 56, some 57, some 58]), (12, 3, []), (12, 3, []), (12, 3, []), (12, 3, []), (12, 3, []), (16, 6, [some 60, some 61, some 62, some 63, some 64, some 65]), (12, 11, []), (12, 11, []), (12, 11, []), (12, 11, []), (12, 11, []), (12, 11, []), (16, 10, [some 67, some 68, some 69, some 70, some 71, some 72, some 73, some 74, some 75, some 76]), (12, 3, []), (12, 3, []), (12, 3, []), (12, 3, []), (12, 3, []), (12, 3, []), (12, 3, []), (12, 3, []), (12, 3, []), (12, 3, []), (16, 3, [some 78, some 79, some 80]), (12, 320, []), (12, 320, []), (12, 320, [])]
abbrev uX11_init : List Cond := Cond.code yX11_init cX11_init 1 none :: uT
set_option maxHeartbeats 4000000 in
set_option maxRecDepth 100000 in
theorem w_X11_init_s7 {g g1 : gT} {p : Program} {l : Launch} {e : Env} {s : State} {m : MethodId} {args : Array Value} {below : List Frame} {meth : Method} {c9 : Code} {c h0a : Nat} {M21 : Mem} (F : Fx g p s m args c9 cX11_init 1 uX11_init RX11) (hO : Ov s) (hin : meth.name = "<init>") (hr : meth.sig.returnType = none) (hlk : meth.locks = false) (hS : shAt S11 c) (s0 : (shp c).1 = 11) (s1 : (shp c).2.1 = 42) (he0 : gAd g c = h0a) (hB : BldX g g1 c (c + 59) [] [(c, 37), (c, 36), (c, 30), (c, 29), (c, 28), (c, 27), (c, 25), (c, 24), (c, 23), (c, 22), (c, 21), (c, 15), (c, 14), (c, 13), (c, 12), (c, 10), (c, 9)]) (hF : Fx g1 p s m args c9 cX11_init 1 uX11_init RX11) (hZ38 : ∀ a, c + 59 ≤ a → M21 a = fun _ => 0) (hZ39 : ∀ a, c + 66 ≤ a → M21 a = fun _ => 0) (hZ40 : ∀ a, c + 77 ≤ a → M21 a = fun _ => 0) : V g1 p l e ({ frames := 1, cells := 80, slots := 3792, locals := 40 * 1 } : Room) s m args below meth c9 1 58 2717 (MQ below (gQI g c 81 M21) args s 80 3792 (gA g)) 259 [(0, .ref h0a)] [] M21 := by
  refine v_aload_n hF dX11_init_259 rfl 0 rfl ?_
  refine v_bipush (v := 6) hF dX11_init_260 (by decide) ?_
  refine v_bipush (v := 11) hF dX11_init_262 (by decide) ?_
  refine v_newM (b := c + 59) (N := 6) (K := 11) hF (List.mem_cons_of_mem _ cl_X11_20) hO.2.2 (List.mem_cons_of_mem _ ac_int) hB.ltc (hS.get (j := 59) rfl).1 (hS.get (j := 59) rfl).2.1 (hS.rows (off := 59) (N := 6) (K := 11) rfl (by decide +kernel)) hZ38 (by decide) (by decide) (by decide) (by decide) (by decide) (by decide) (Nat.le_of_ble_eq_true rfl) (Nat.le_of_ble_eq_true rfl) dX11_init_264 (fun q38 r38 hok38 => ?_)
  have B39 : BldX g (gNewM g1 (c + 59) 6 q38 r38) c (c + 66) [] [(c, 37), (c, 36), (c, 30), (c, 29), (c, 28), (c, 27), (c, 25), (c, 24), (c, 23), (c, 22), (c, 21), (c, 15), (c, 14), (c, 13), (c, 12), (c, 10), (c, 9)] := hB.newM hok38
  have F39 := B39.fx F
  refine v_fldR (k := 38) (x := c + 59) (ty := (.array (.array .int))) B39 F39 he0 (if_pos rfl) (by omega) (by omega) s0 s1 ((hS.get (j := 0) rfl).2.2 38) (by decide) (inc inU_11) tyX11 tyX11_ok nmX11 rfl (by decide) (List.mem_cons_of_mem _ fl_X11_74) rfl rfl hin rfl (by decide +kernel) rfl rfl dX11_init_268 (fun g39p B39p F39p ep39 => ?_)
  refine v_aload_n F39p dX11_init_271 rfl 0 rfl ?_
  refine v_bipush (v := 10) F39p dX11_init_272 (by decide) ?_
  refine v_iconst (v := 3) F39p dX11_init_274 (by decide) ?_
  refine v_newM (b := c + 66) (N := 10) (K := 3) F39p (List.mem_cons_of_mem _ cl_X11_20) hO.2.2 (List.mem_cons_of_mem _ ac_int) B39p.ltc (hS.get (j := 66) rfl).1 (hS.get (j := 66) rfl).2.1 (hS.rows (off := 66) (N := 10) (K := 3) rfl (by decide +kernel)) hZ39 (by decide) (by decide) (by decide) (by decide) (by decide) (by decide) (Nat.le_of_ble_eq_true rfl) (Nat.le_of_ble_eq_true rfl) dX11_init_275 (fun q39 r39 hok39 => ?_)
  have B40 : BldX g (gNewM g39p (c + 66) 10 q39 r39) c (c + 77) [] [(c, 38), (c, 37), (c, 36), (c, 30), (c, 29), (c, 28), (c, 27), (c, 25), (c, 24), (c, 23), (c, 22), (c, 21), (c, 15), (c, 14), (c, 13), (c, 12), (c, 10), (c, 9)] := B39p.newM hok39
  have F40 := B40.fx F
  refine v_fldR (k := 39) (x := c + 66) (ty := (.array (.array .int))) B40 F40 he0 (if_pos rfl) (by omega) (by omega) s0 s1 ((hS.get (j := 0) rfl).2.2 39) (by decide) (inc inU_11) tyX11 tyX11_ok nmX11 rfl (by decide) (List.mem_cons_of_mem _ fl_X11_77) rfl rfl hin rfl (by decide +kernel) rfl rfl dX11_init_279 (fun g40p B40p F40p ep40 => ?_)
  refine v_aload_n F40p dX11_init_282 rfl 0 rfl ?_
  refine v_iconst (v := 3) F40p dX11_init_283 (by decide) ?_
  refine v_sipush (v := 320) F40p dX11_init_284 (by decide) ?_
  refine v_newM (b := c + 77) (N := 3) (K := 320) F40p (List.mem_cons_of_mem _ cl_X11_20) hO.2.2 (List.mem_cons_of_mem _ ac_int) B40p.ltc (hS.get (j := 77) rfl).1 (hS.get (j := 77) rfl).2.1 (hS.rows (off := 77) (N := 3) (K := 320) rfl (by decide +kernel)) hZ40 (by decide) (by decide) (by decide) (by decide) (by decide) (by decide) (Nat.le_of_ble_eq_true rfl) (Nat.le_of_ble_eq_true rfl) dX11_init_287 (fun q40 r40 hok40 => ?_)
  have B41 : BldX g (gNewM g40p (c + 77) 3 q40 r40) c (c + 81) [] [(c, 39), (c, 38), (c, 37), (c, 36), (c, 30), (c, 29), (c, 28), (c, 27), (c, 25), (c, 24), (c, 23), (c, 22), (c, 21), (c, 15), (c, 14), (c, 13), (c, 12), (c, 10), (c, 9)] := B40p.newM hok40
  have F41 := B41.fx F
  refine v_fldR (k := 40) (x := c + 77) (ty := (.array (.array .int))) B41 F41 he0 (if_pos rfl) (by omega) (by omega) s0 s1 ((hS.get (j := 0) rfl).2.2 40) (by decide) (inc inU_11) tyX11 tyX11_ok nmX11 rfl (by decide) (List.mem_cons_of_mem _ fl_X11_80) rfl rfl hin rfl (by decide +kernel) rfl rfl dX11_init_291 (fun g41p B41p F41p ep41 => ?_)
  have hx := B41p.done (by rw [s0]; decide) (by rw [s0, s1]; rfl) (fun k9 f hf => by
    rw [s0] at hf
    match k9, hf with
    | 0, hf => cases hf; rw [if_pos rfl]; exact (hS.get (j := 0) rfl).2.2 0
    | 1, hf => cases hf; rw [if_pos rfl]; exact (hS.get (j := 0) rfl).2.2 1
    | 2, hf => cases hf; rw [if_pos rfl]; exact (hS.get (j := 0) rfl).2.2 2
    | 3, hf => cases hf; rw [if_pos rfl]; exact (hS.get (j := 0) rfl).2.2 3
    | 4, hf => cases hf; rw [if_pos rfl]; exact (hS.get (j := 0) rfl).2.2 4
    | 5, hf => cases hf; rw [if_pos rfl]; exact (hS.get (j := 0) rfl).2.2 5
    | 6, hf => cases hf; rw [if_pos rfl]; exact (hS.get (j := 0) rfl).2.2 6
    | 7, hf => cases hf; rw [if_pos rfl]; exact (hS.get (j := 0) rfl).2.2 7
    | 8, hf => cases hf; rw [if_pos rfl]; exact (hS.get (j := 0) rfl).2.2 8
    | 9, hf => cases hf; rw [if_neg (by decide)]; exact ⟨c + 1, (hS.get (j := 0) rfl).2.2 9, (List.mem_of_getElem? (i := 19) rfl), by omega, by omega, (hS.get (j := 1) rfl).1⟩
    | 10, hf => cases hf; rw [if_neg (by decide)]; exact ⟨c + 2, (hS.get (j := 0) rfl).2.2 10, (List.mem_of_getElem? (i := 18) rfl), by omega, by omega, (hS.get (j := 2) rfl).1⟩
    | 11, hf => cases hf; rw [if_pos rfl]; exact (hS.get (j := 0) rfl).2.2 11
    | 12, hf => cases hf; rw [if_neg (by decide)]; exact ⟨c + 3, (hS.get (j := 0) rfl).2.2 12, (List.mem_of_getElem? (i := 17) rfl), by omega, by omega, (hS.get (j := 3) rfl).1⟩
    | 13, hf => cases hf; rw [if_neg (by decide)]; exact ⟨c + 8, (hS.get (j := 0) rfl).2.2 13, (List.mem_of_getElem? (i := 16) rfl), by omega, by omega, (hS.get (j := 8) rfl).1⟩
    | 14, hf => cases hf; rw [if_neg (by decide)]; exact ⟨c + 9, (hS.get (j := 0) rfl).2.2 14, (List.mem_of_getElem? (i := 15) rfl), by omega, by omega, (hS.get (j := 9) rfl).1⟩
    | 15, hf => cases hf; rw [if_neg (by decide)]; exact ⟨c + 10, (hS.get (j := 0) rfl).2.2 15, (List.mem_of_getElem? (i := 14) rfl), by omega, by omega, (hS.get (j := 10) rfl).1⟩
    | 16, hf => cases hf; rw [if_pos rfl]; exact (hS.get (j := 0) rfl).2.2 16
    | 17, hf => cases hf; rw [if_pos rfl]; exact (hS.get (j := 0) rfl).2.2 17
    | 18, hf => cases hf; rw [if_pos rfl]; exact (hS.get (j := 0) rfl).2.2 18
    | 19, hf => cases hf; rw [if_pos rfl]; exact (hS.get (j := 0) rfl).2.2 19
    | 20, hf => cases hf; rw [if_pos rfl]; exact (hS.get (j := 0) rfl).2.2 20
    | 21, hf => cases hf; rw [if_neg (by decide)]; exact ⟨c + 11, (hS.get (j := 0) rfl).2.2 21, (List.mem_of_getElem? (i := 13) rfl), by omega, by omega, (hS.get (j := 11) rfl).1⟩
    | 22, hf => cases hf; rw [if_neg (by decide)]; exact ⟨c + 12, (hS.get (j := 0) rfl).2.2 22, (List.mem_of_getElem? (i := 12) rfl), by omega, by omega, (hS.get (j := 12) rfl).1⟩
    | 23, hf => cases hf; rw [if_neg (by decide)]; exact ⟨c + 17, (hS.get (j := 0) rfl).2.2 23, (List.mem_of_getElem? (i := 11) rfl), by omega, by omega, (hS.get (j := 17) rfl).1⟩
    | 24, hf => cases hf; rw [if_neg (by decide)]; exact ⟨c + 22, (hS.get (j := 0) rfl).2.2 24, (List.mem_of_getElem? (i := 10) rfl), by omega, by omega, (hS.get (j := 22) rfl).1⟩
    | 25, hf => cases hf; rw [if_neg (by decide)]; exact ⟨c + 23, (hS.get (j := 0) rfl).2.2 25, (List.mem_of_getElem? (i := 9) rfl), by omega, by omega, (hS.get (j := 23) rfl).1⟩
    | 26, hf => cases hf; rw [if_pos rfl]; exact (hS.get (j := 0) rfl).2.2 26
    | 27, hf => cases hf; rw [if_neg (by decide)]; exact ⟨c + 24, (hS.get (j := 0) rfl).2.2 27, (List.mem_of_getElem? (i := 8) rfl), by omega, by omega, (hS.get (j := 24) rfl).1⟩
    | 28, hf => cases hf; rw [if_neg (by decide)]; exact ⟨c + 29, (hS.get (j := 0) rfl).2.2 28, (List.mem_of_getElem? (i := 7) rfl), by omega, by omega, (hS.get (j := 29) rfl).1⟩
    | 29, hf => cases hf; rw [if_neg (by decide)]; exact ⟨c + 30, (hS.get (j := 0) rfl).2.2 29, (List.mem_of_getElem? (i := 6) rfl), by omega, by omega, (hS.get (j := 30) rfl).1⟩
    | 30, hf => cases hf; rw [if_neg (by decide)]; exact ⟨c + 31, (hS.get (j := 0) rfl).2.2 30, (List.mem_of_getElem? (i := 5) rfl), by omega, by omega, (hS.get (j := 31) rfl).1⟩
    | 31, hf => cases hf; rw [if_pos rfl]; exact (hS.get (j := 0) rfl).2.2 31
    | 32, hf => cases hf; rw [if_pos rfl]; exact (hS.get (j := 0) rfl).2.2 32
    | 33, hf => cases hf; rw [if_pos rfl]; exact (hS.get (j := 0) rfl).2.2 33
    | 34, hf => cases hf; rw [if_pos rfl]; exact (hS.get (j := 0) rfl).2.2 34
    | 35, hf => cases hf; rw [if_pos rfl]; exact (hS.get (j := 0) rfl).2.2 35
    | 36, hf => cases hf; rw [if_neg (by decide)]; exact ⟨c + 32, (hS.get (j := 0) rfl).2.2 36, (List.mem_of_getElem? (i := 4) rfl), by omega, by omega, (hS.get (j := 32) rfl).1⟩
    | 37, hf => cases hf; rw [if_neg (by decide)]; exact ⟨c + 53, (hS.get (j := 0) rfl).2.2 37, (List.mem_of_getElem? (i := 3) rfl), by omega, by omega, (hS.get (j := 53) rfl).1⟩
    | 38, hf => cases hf; rw [if_neg (by decide)]; exact ⟨c + 59, (hS.get (j := 0) rfl).2.2 38, (List.mem_of_getElem? (i := 2) rfl), by omega, by omega, (hS.get (j := 59) rfl).1⟩
    | 39, hf => cases hf; rw [if_neg (by decide)]; exact ⟨c + 66, (hS.get (j := 0) rfl).2.2 39, (List.mem_of_getElem? (i := 1) rfl), by omega, by omega, (hS.get (j := 66) rfl).1⟩
    | 40, hf => cases hf; rw [if_neg (by decide)]; exact ⟨c + 77, (hS.get (j := 0) rfl).2.2 40, (List.mem_of_getElem? (i := 0) rfl), by omega, by omega, (hS.get (j := 77) rfl).1⟩
    | 41, hf => cases hf; rw [if_pos rfl]; exact (hS.get (j := 0) rfl).2.2 41
    | k9 + 42, hf => cases hf) 81 rfl
  refine v_done (b := c) ?_
  exact v_vretI (F41p.grow rfl rfl rfl rfl hx.2.2.2.2.2.2.1) hx hr hlk dX11_init_294
set_option maxHeartbeats 4000000 in
set_option maxRecDepth 100000 in
theorem w_X11_init_s6 {g g1 : gT} {p : Program} {l : Launch} {e : Env} {s : State} {m : MethodId} {args : Array Value} {below : List Frame} {meth : Method} {c9 : Code} {c h0a : Nat} {M21 : Mem} (F : Fx g p s m args c9 cX11_init 1 uX11_init RX11) (hO : Ov s) (hin : meth.name = "<init>") (hr : meth.sig.returnType = none) (hlk : meth.locks = false) (hS : shAt S11 c) (s0 : (shp c).1 = 11) (s1 : (shp c).2.1 = 42) (he0 : gAd g c = h0a) (hB : BldX g g1 c (c + 32) [] [(c, 30), (c, 29), (c, 28), (c, 27), (c, 25), (c, 24), (c, 23), (c, 22), (c, 21), (c, 15), (c, 14), (c, 13), (c, 12), (c, 10), (c, 9)]) (hF : Fx g1 p s m args c9 cX11_init 1 uX11_init RX11) (hZ36 : ∀ a, c + 32 ≤ a → M21 a = fun _ => 0) (hZ37 : ∀ a, c + 53 ≤ a → M21 a = fun _ => 0) (hZ38 : ∀ a, c + 59 ≤ a → M21 a = fun _ => 0) (hZ39 : ∀ a, c + 66 ≤ a → M21 a = fun _ => 0) (hZ40 : ∀ a, c + 77 ≤ a → M21 a = fun _ => 0) : V g1 p l e ({ frames := 1, cells := 80, slots := 3792, locals := 40 * 1 } : Room) s m args below meth c9 1 31 2597 (MQ below (gQI g c 81 M21) args s 80 3792 (gA g)) 238 [(0, .ref h0a)] [] M21 := by
  refine v_aload_n hF dX11_init_238 rfl 0 rfl ?_
  refine v_bipush (v := 20) hF dX11_init_239 (by decide) ?_
  refine v_iconst (v := 4) hF dX11_init_241 (by decide) ?_
  refine v_newM (b := c + 32) (N := 20) (K := 4) hF (List.mem_cons_of_mem _ cl_X11_20) hO.2.2 (List.mem_cons_of_mem _ ac_int) hB.ltc (hS.get (j := 32) rfl).1 (hS.get (j := 32) rfl).2.1 (hS.rows (off := 32) (N := 20) (K := 4) rfl (by decide +kernel)) hZ36 (by decide) (by decide) (by decide) (by decide) (by decide) (by decide) (Nat.le_of_ble_eq_true rfl) (Nat.le_of_ble_eq_true rfl) dX11_init_242 (fun q36 r36 hok36 => ?_)
  have B37 : BldX g (gNewM g1 (c + 32) 20 q36 r36) c (c + 53) [] [(c, 30), (c, 29), (c, 28), (c, 27), (c, 25), (c, 24), (c, 23), (c, 22), (c, 21), (c, 15), (c, 14), (c, 13), (c, 12), (c, 10), (c, 9)] := hB.newM hok36
  have F37 := B37.fx F
  refine v_fldR (k := 36) (x := c + 32) (ty := (.array (.array .int))) B37 F37 he0 (if_pos rfl) (by omega) (by omega) s0 s1 ((hS.get (j := 0) rfl).2.2 36) (by decide) (inc inU_11) tyX11 tyX11_ok nmX11 rfl (by decide) (List.mem_cons_of_mem _ fl_X11_68) rfl rfl hin rfl (by decide +kernel) rfl rfl dX11_init_246 (fun g37p B37p F37p ep37 => ?_)
  refine v_aload_n F37p dX11_init_249 rfl 0 rfl ?_
  refine v_iconst (v := 5) F37p dX11_init_250 (by decide) ?_
  refine v_iconst (v := 3) F37p dX11_init_251 (by decide) ?_
  refine v_newM (b := c + 53) (N := 5) (K := 3) F37p (List.mem_cons_of_mem _ cl_X11_20) hO.2.2 (List.mem_cons_of_mem _ ac_int) B37p.ltc (hS.get (j := 53) rfl).1 (hS.get (j := 53) rfl).2.1 (hS.rows (off := 53) (N := 5) (K := 3) rfl (by decide +kernel)) hZ37 (by decide) (by decide) (by decide) (by decide) (by decide) (by decide) (Nat.le_of_ble_eq_true rfl) (Nat.le_of_ble_eq_true rfl) dX11_init_252 (fun q37 r37 hok37 => ?_)
  have B38 : BldX g (gNewM g37p (c + 53) 5 q37 r37) c (c + 59) [] [(c, 36), (c, 30), (c, 29), (c, 28), (c, 27), (c, 25), (c, 24), (c, 23), (c, 22), (c, 21), (c, 15), (c, 14), (c, 13), (c, 12), (c, 10), (c, 9)] := B37p.newM hok37
  have F38 := B38.fx F
  refine v_fldR (k := 37) (x := c + 53) (ty := (.array (.array .int))) B38 F38 he0 (if_pos rfl) (by omega) (by omega) s0 s1 ((hS.get (j := 0) rfl).2.2 37) (by decide) (inc inU_11) tyX11 tyX11_ok nmX11 rfl (by decide) (List.mem_cons_of_mem _ fl_X11_71) rfl rfl hin rfl (by decide +kernel) rfl rfl dX11_init_256 (fun g38p B38p F38p ep38 => ?_)
  exact w_X11_init_s7 F hO hin hr hlk hS s0 s1 he0 B38p F38p hZ38 hZ39 hZ40
set_option maxHeartbeats 4000000 in
set_option maxRecDepth 100000 in
theorem w_X11_init_s5 {g g1 : gT} {p : Program} {l : Launch} {e : Env} {s : State} {m : MethodId} {args : Array Value} {below : List Frame} {meth : Method} {c9 : Code} {c h0a : Nat} {M21 : Mem} (F : Fx g p s m args c9 cX11_init 1 uX11_init RX11) (hO : Ov s) (hin : meth.name = "<init>") (hr : meth.sig.returnType = none) (hlk : meth.locks = false) (hS : shAt S11 c) (s0 : (shp c).1 = 11) (s1 : (shp c).2.1 = 42) (he0 : gAd g c = h0a) (hB : BldX g g1 c (c + 23) [] [(c, 24), (c, 23), (c, 22), (c, 21), (c, 15), (c, 14), (c, 13), (c, 12), (c, 10), (c, 9)]) (hF : Fx g1 p s m args c9 cX11_init 1 uX11_init RX11) (hZ31 : ∀ a, c + 23 ≤ a → M21 a = fun _ => 0) (hZ32 : ∀ a, c + 24 ≤ a → M21 a = fun _ => 0) (hZ33 : ∀ a, c + 29 ≤ a → M21 a = fun _ => 0) (hZ34 : ∀ a, c + 30 ≤ a → M21 a = fun _ => 0) (hZ35 : ∀ a, c + 31 ≤ a → M21 a = fun _ => 0) (hZ36 : ∀ a, c + 32 ≤ a → M21 a = fun _ => 0) (hZ37 : ∀ a, c + 53 ≤ a → M21 a = fun _ => 0) (hZ38 : ∀ a, c + 59 ≤ a → M21 a = fun _ => 0) (hZ39 : ∀ a, c + 66 ≤ a → M21 a = fun _ => 0) (hZ40 : ∀ a, c + 77 ≤ a → M21 a = fun _ => 0) : V g1 p l e ({ frames := 1, cells := 80, slots := 3792, locals := 40 * 1 } : Room) s m args below meth c9 1 22 2527 (MQ below (gQI g c 81 M21) args s 80 3792 (gA g)) 195 [(0, .ref h0a)] [] M21 := by
  refine v_aload_n hF dX11_init_195 rfl 0 rfl ?_
  refine v_bipush (v := 8) hF dX11_init_196 (by decide) ?_
  refine v_newZ (b := c + 23) hF (List.mem_cons_of_mem _ ac_bool) (hB.nin (Nat.le_refl _)) (hS.get (j := 23) rfl).1 (by decide) (by rw [(hS.get (j := 23) rfl).2.1]; decide) (by rw [(hS.get (j := 23) rfl).2.1]; decide) (Nat.le_of_ble_eq_true rfl) (by rw [(hS.get (j := 23) rfl).2.1]; decide) dX11_init_198 (fun q31 hok31 => ?_)
  rw [mZ_id (hZ31 (c + 23) (Nat.le_refl _)), (hS.get (j := 23) rfl).2.1]
  have B32 : BldX g (gNewA g1 (c + 23) q31) c (c + 24) [] [(c, 24), (c, 23), (c, 22), (c, 21), (c, 15), (c, 14), (c, 13), (c, 12), (c, 10), (c, 9)] := hB.newA hok31
  have F32 := B32.fx F
  refine v_fldR (k := 25) (x := c + 23) (ty := (.array .boolean)) B32 F32 he0 (if_pos rfl) (by omega) (by omega) s0 s1 ((hS.get (j := 0) rfl).2.2 25) (by decide) (inc inU_11) tyX11 tyX11_ok nmX11 rfl (by decide) (List.mem_cons_of_mem _ fl_X11_52) rfl rfl hin rfl (by decide +kernel) rfl rfl dX11_init_200 (fun g32p B32p F32p ep32 => ?_)
  refine v_aload_n F32p dX11_init_203 rfl 0 rfl ?_
  refine v_iconst (v := 4) F32p dX11_init_204 (by decide) ?_
  refine v_bipush (v := 8) F32p dX11_init_205 (by decide) ?_
  refine v_newM (b := c + 24) (N := 4) (K := 8) F32p (List.mem_cons_of_mem _ cl_X11_20) hO.2.2 (List.mem_cons_of_mem _ ac_int) B32p.ltc (hS.get (j := 24) rfl).1 (hS.get (j := 24) rfl).2.1 (hS.rows (off := 24) (N := 4) (K := 8) rfl (by decide +kernel)) hZ32 (by decide) (by decide) (by decide) (by decide) (by decide) (by decide) (Nat.le_of_ble_eq_true rfl) (Nat.le_of_ble_eq_true rfl) dX11_init_207 (fun q32 r32 hok32 => ?_)
  have B33 : BldX g (gNewM g32p (c + 24) 4 q32 r32) c (c + 29) [] [(c, 25), (c, 24), (c, 23), (c, 22), (c, 21), (c, 15), (c, 14), (c, 13), (c, 12), (c, 10), (c, 9)] := B32p.newM hok32
  have F33 := B33.fx F
  refine v_fldR (k := 27) (x := c + 24) (ty := (.array (.array .int))) B33 F33 he0 (if_pos rfl) (by omega) (by omega) s0 s1 ((hS.get (j := 0) rfl).2.2 27) (by decide) (inc inU_11) tyX11 tyX11_ok nmX11 rfl (by decide) (List.mem_cons_of_mem _ fl_X11_56) rfl rfl hin rfl (by decide +kernel) rfl rfl dX11_init_211 (fun g33p B33p F33p ep33 => ?_)
  refine v_aload_n F33p dX11_init_214 rfl 0 rfl ?_
  refine v_bipush (v := 8) F33p dX11_init_215 (by decide) ?_
  refine v_newI (b := c + 29) F33p (List.mem_cons_of_mem _ ac_int) (B33p.nin (Nat.le_refl _)) (hS.get (j := 29) rfl).1 (by decide) (by rw [(hS.get (j := 29) rfl).2.1]; decide) (by rw [(hS.get (j := 29) rfl).2.1]; decide) (Nat.le_of_ble_eq_true rfl) (by rw [(hS.get (j := 29) rfl).2.1]; decide) dX11_init_217 (fun q33 hok33 => ?_)
  rw [mZ_id (hZ33 (c + 29) (Nat.le_refl _)), (hS.get (j := 29) rfl).2.1]
  have B34 : BldX g (gNewA g33p (c + 29) q33) c (c + 30) [] [(c, 27), (c, 25), (c, 24), (c, 23), (c, 22), (c, 21), (c, 15), (c, 14), (c, 13), (c, 12), (c, 10), (c, 9)] := B33p.newA hok33
  have F34 := B34.fx F
  refine v_fldR (k := 28) (x := c + 29) (ty := (.array .int)) B34 F34 he0 (if_pos rfl) (by omega) (by omega) s0 s1 ((hS.get (j := 0) rfl).2.2 28) (by decide) (inc inU_11) tyX11 tyX11_ok nmX11 rfl (by decide) (List.mem_cons_of_mem _ fl_X11_59) rfl rfl hin rfl (by decide +kernel) rfl rfl dX11_init_219 (fun g34p B34p F34p ep34 => ?_)
  refine v_aload_n F34p dX11_init_222 rfl 0 rfl ?_
  refine v_bipush (v := 10) F34p dX11_init_223 (by decide) ?_
  refine v_newI (b := c + 30) F34p (List.mem_cons_of_mem _ ac_int) (B34p.nin (Nat.le_refl _)) (hS.get (j := 30) rfl).1 (by decide) (by rw [(hS.get (j := 30) rfl).2.1]; decide) (by rw [(hS.get (j := 30) rfl).2.1]; decide) (Nat.le_of_ble_eq_true rfl) (by rw [(hS.get (j := 30) rfl).2.1]; decide) dX11_init_225 (fun q34 hok34 => ?_)
  rw [mZ_id (hZ34 (c + 30) (Nat.le_refl _)), (hS.get (j := 30) rfl).2.1]
  have B35 : BldX g (gNewA g34p (c + 30) q34) c (c + 31) [] [(c, 28), (c, 27), (c, 25), (c, 24), (c, 23), (c, 22), (c, 21), (c, 15), (c, 14), (c, 13), (c, 12), (c, 10), (c, 9)] := B34p.newA hok34
  have F35 := B35.fx F
  refine v_fldR (k := 29) (x := c + 30) (ty := (.array .int)) B35 F35 he0 (if_pos rfl) (by omega) (by omega) s0 s1 ((hS.get (j := 0) rfl).2.2 29) (by decide) (inc inU_11) tyX11 tyX11_ok nmX11 rfl (by decide) (List.mem_cons_of_mem _ fl_X11_62) rfl rfl hin rfl (by decide +kernel) rfl rfl dX11_init_227 (fun g35p B35p F35p ep35 => ?_)
  refine v_aload_n F35p dX11_init_230 rfl 0 rfl ?_
  refine v_bipush (v := 8) F35p dX11_init_231 (by decide) ?_
  refine v_newZ (b := c + 31) F35p (List.mem_cons_of_mem _ ac_bool) (B35p.nin (Nat.le_refl _)) (hS.get (j := 31) rfl).1 (by decide) (by rw [(hS.get (j := 31) rfl).2.1]; decide) (by rw [(hS.get (j := 31) rfl).2.1]; decide) (Nat.le_of_ble_eq_true rfl) (by rw [(hS.get (j := 31) rfl).2.1]; decide) dX11_init_233 (fun q35 hok35 => ?_)
  rw [mZ_id (hZ35 (c + 31) (Nat.le_refl _)), (hS.get (j := 31) rfl).2.1]
  have B36 : BldX g (gNewA g35p (c + 31) q35) c (c + 32) [] [(c, 29), (c, 28), (c, 27), (c, 25), (c, 24), (c, 23), (c, 22), (c, 21), (c, 15), (c, 14), (c, 13), (c, 12), (c, 10), (c, 9)] := B35p.newA hok35
  have F36 := B36.fx F
  refine v_fldR (k := 30) (x := c + 31) (ty := (.array .boolean)) B36 F36 he0 (if_pos rfl) (by omega) (by omega) s0 s1 ((hS.get (j := 0) rfl).2.2 30) (by decide) (inc inU_11) tyX11 tyX11_ok nmX11 rfl (by decide) (List.mem_cons_of_mem _ fl_X11_65) rfl rfl hin rfl (by decide +kernel) rfl rfl dX11_init_235 (fun g36p B36p F36p ep36 => ?_)
  exact w_X11_init_s6 F hO hin hr hlk hS s0 s1 he0 B36p F36p hZ36 hZ37 hZ38 hZ39 hZ40
set_option maxHeartbeats 4000000 in
set_option maxRecDepth 100000 in
theorem w_X11_init_s4 {g g1 : gT} {p : Program} {l : Launch} {e : Env} {s : State} {m : MethodId} {args : Array Value} {below : List Frame} {meth : Method} {c9 : Code} {c h0a : Nat} {M13 M14 M15 M16 M17 M18 M19 M20 M21 : Mem} (F : Fx g p s m args c9 cX11_init 1 uX11_init RX11) (hO : Ov s) (hin : meth.name = "<init>") (hr : meth.sig.returnType = none) (hlk : meth.locks = false) (hS : shAt S11 c) (s0 : (shp c).1 = 11) (s1 : (shp c).2.1 = 42) (he0 : gAd g c = h0a) (hB : BldX g g1 c (c + 22) [] [(c, 23), (c, 22), (c, 21), (c, 15), (c, 14), (c, 13), (c, 12), (c, 10), (c, 9)]) (hF : Fx g1 p s m args c9 cX11_init 1 uX11_init RX11) (hZ22 : ∀ a, c + 22 ≤ a → M13 a = fun _ => 0) (hM14 : M14 = mU M13 (c + 22) 0 (2)) (hM15 : M15 = mU M14 (c + 22) 1 (2)) (hM16 : M16 = mU M15 (c + 22) 2 (2)) (hM17 : M17 = mU M16 (c + 22) 3 (2)) (hM18 : M18 = mU M17 (c + 22) 4 (2)) (hM19 : M19 = mU M18 (c + 22) 5 (2)) (hM20 : M20 = mU M19 (c + 22) 6 (2)) (hM21 : M21 = mU M20 (c + 22) 7 (2)) (hZ31 : ∀ a, c + 23 ≤ a → M21 a = fun _ => 0) (hZ32 : ∀ a, c + 24 ≤ a → M21 a = fun _ => 0) (hZ33 : ∀ a, c + 29 ≤ a → M21 a = fun _ => 0) (hZ34 : ∀ a, c + 30 ≤ a → M21 a = fun _ => 0) (hZ35 : ∀ a, c + 31 ≤ a → M21 a = fun _ => 0) (hZ36 : ∀ a, c + 32 ≤ a → M21 a = fun _ => 0) (hZ37 : ∀ a, c + 53 ≤ a → M21 a = fun _ => 0) (hZ38 : ∀ a, c + 59 ≤ a → M21 a = fun _ => 0) (hZ39 : ∀ a, c + 66 ≤ a → M21 a = fun _ => 0) (hZ40 : ∀ a, c + 77 ≤ a → M21 a = fun _ => 0) : V g1 p l e ({ frames := 1, cells := 80, slots := 3792, locals := 40 * 1 } : Room) s m args below meth c9 1 21 2519 (MQ below (gQI g c 81 M21) args s 80 3792 (gA g)) 153 [(0, .ref h0a)] [] M13 := by
  refine v_aload_n hF dX11_init_153 rfl 0 rfl ?_
  refine v_bipush (v := 8) hF dX11_init_154 (by decide) ?_
  refine v_newI (b := c + 22) hF (List.mem_cons_of_mem _ ac_int) (hB.nin (Nat.le_refl _)) (hS.get (j := 22) rfl).1 (by decide) (by rw [(hS.get (j := 22) rfl).2.1]; decide) (by rw [(hS.get (j := 22) rfl).2.1]; decide) (Nat.le_of_ble_eq_true rfl) (by rw [(hS.get (j := 22) rfl).2.1]; decide) dX11_init_156 (fun q22 hok22 => ?_)
  rw [mZ_id (hZ22 (c + 22) (Nat.le_refl _)), (hS.get (j := 22) rfl).2.1]
  have B23 : BldX g (gNewA g1 (c + 22) q22) c (c + 23) [] [(c, 23), (c, 22), (c, 21), (c, 15), (c, 14), (c, 13), (c, 12), (c, 10), (c, 9)] := hB.newA hok22
  have F23 := B23.fx F
  refine v_dup F23 dX11_init_158 rfl ?_
  refine v_iconst (v := 0) F23 dX11_init_159 (by decide) ?_
  refine v_iconst (v := 2) F23 dX11_init_160 (by decide) ?_
  refine v_iastE (a := c + 22) (j := 0) F23 (B23.ty (by omega) (by omega) List.not_mem_nil (hS.get (j := 22) rfl).1) (if_pos rfl) (by decide) (by rw [show gN (c + 22) = 8 from (hS.get (j := 22) rfl).2.1]; exact (by decide : ¬ ((0 : Int32) < 0 ∨ 8 ≤ (0 : Int32).toNatClampNeg))) dX11_init_161 ?_
  rw [← hM14]
  refine v_dup F23 dX11_init_162 rfl ?_
  refine v_iconst (v := 1) F23 dX11_init_163 (by decide) ?_
  refine v_iconst (v := 2) F23 dX11_init_164 (by decide) ?_
  refine v_iastE (a := c + 22) (j := 1) F23 (B23.ty (by omega) (by omega) List.not_mem_nil (hS.get (j := 22) rfl).1) (if_pos rfl) (by decide) (by rw [show gN (c + 22) = 8 from (hS.get (j := 22) rfl).2.1]; exact (by decide : ¬ ((1 : Int32) < 0 ∨ 8 ≤ (1 : Int32).toNatClampNeg))) dX11_init_165 ?_
  rw [← hM15]
  refine v_dup F23 dX11_init_166 rfl ?_
  refine v_iconst (v := 2) F23 dX11_init_167 (by decide) ?_
  refine v_iconst (v := 2) F23 dX11_init_168 (by decide) ?_
  refine v_iastE (a := c + 22) (j := 2) F23 (B23.ty (by omega) (by omega) List.not_mem_nil (hS.get (j := 22) rfl).1) (if_pos rfl) (by decide) (by rw [show gN (c + 22) = 8 from (hS.get (j := 22) rfl).2.1]; exact (by decide : ¬ ((2 : Int32) < 0 ∨ 8 ≤ (2 : Int32).toNatClampNeg))) dX11_init_169 ?_
  rw [← hM16]
  refine v_dup F23 dX11_init_170 rfl ?_
  refine v_iconst (v := 3) F23 dX11_init_171 (by decide) ?_
  refine v_iconst (v := 2) F23 dX11_init_172 (by decide) ?_
  refine v_iastE (a := c + 22) (j := 3) F23 (B23.ty (by omega) (by omega) List.not_mem_nil (hS.get (j := 22) rfl).1) (if_pos rfl) (by decide) (by rw [show gN (c + 22) = 8 from (hS.get (j := 22) rfl).2.1]; exact (by decide : ¬ ((3 : Int32) < 0 ∨ 8 ≤ (3 : Int32).toNatClampNeg))) dX11_init_173 ?_
  rw [← hM17]
  refine v_dup F23 dX11_init_174 rfl ?_
  refine v_iconst (v := 4) F23 dX11_init_175 (by decide) ?_
  refine v_iconst (v := 2) F23 dX11_init_176 (by decide) ?_
  refine v_iastE (a := c + 22) (j := 4) F23 (B23.ty (by omega) (by omega) List.not_mem_nil (hS.get (j := 22) rfl).1) (if_pos rfl) (by decide) (by rw [show gN (c + 22) = 8 from (hS.get (j := 22) rfl).2.1]; exact (by decide : ¬ ((4 : Int32) < 0 ∨ 8 ≤ (4 : Int32).toNatClampNeg))) dX11_init_177 ?_
  rw [← hM18]
  refine v_dup F23 dX11_init_178 rfl ?_
  refine v_iconst (v := 5) F23 dX11_init_179 (by decide) ?_
  refine v_iconst (v := 2) F23 dX11_init_180 (by decide) ?_
  refine v_iastE (a := c + 22) (j := 5) F23 (B23.ty (by omega) (by omega) List.not_mem_nil (hS.get (j := 22) rfl).1) (if_pos rfl) (by decide) (by rw [show gN (c + 22) = 8 from (hS.get (j := 22) rfl).2.1]; exact (by decide : ¬ ((5 : Int32) < 0 ∨ 8 ≤ (5 : Int32).toNatClampNeg))) dX11_init_181 ?_
  rw [← hM19]
  refine v_dup F23 dX11_init_182 rfl ?_
  refine v_bipush (v := 6) F23 dX11_init_183 (by decide) ?_
  refine v_iconst (v := 2) F23 dX11_init_185 (by decide) ?_
  refine v_iastE (a := c + 22) (j := 6) F23 (B23.ty (by omega) (by omega) List.not_mem_nil (hS.get (j := 22) rfl).1) (if_pos rfl) (by decide) (by rw [show gN (c + 22) = 8 from (hS.get (j := 22) rfl).2.1]; exact (by decide : ¬ ((6 : Int32) < 0 ∨ 8 ≤ (6 : Int32).toNatClampNeg))) dX11_init_186 ?_
  rw [← hM20]
  refine v_dup F23 dX11_init_187 rfl ?_
  refine v_bipush (v := 7) F23 dX11_init_188 (by decide) ?_
  refine v_iconst (v := 2) F23 dX11_init_190 (by decide) ?_
  refine v_iastE (a := c + 22) (j := 7) F23 (B23.ty (by omega) (by omega) List.not_mem_nil (hS.get (j := 22) rfl).1) (if_pos rfl) (by decide) (by rw [show gN (c + 22) = 8 from (hS.get (j := 22) rfl).2.1]; exact (by decide : ¬ ((7 : Int32) < 0 ∨ 8 ≤ (7 : Int32).toNatClampNeg))) dX11_init_191 ?_
  rw [← hM21]
  refine v_fldR (k := 24) (x := c + 22) (ty := (.array .int)) B23 F23 he0 (if_pos rfl) (by omega) (by omega) s0 s1 ((hS.get (j := 0) rfl).2.2 24) (by decide) (inc inU_11) tyX11 tyX11_ok nmX11 rfl (by decide) (List.mem_cons_of_mem _ fl_X11_49) rfl rfl hin rfl (by decide +kernel) rfl rfl dX11_init_192 (fun g31p B31p F31p ep31 => ?_)
  exact w_X11_init_s5 F hO hin hr hlk hS s0 s1 he0 B31p F31p hZ31 hZ32 hZ33 hZ34 hZ35 hZ36 hZ37 hZ38 hZ39 hZ40
set_option maxHeartbeats 4000000 in
set_option maxRecDepth 100000 in
theorem w_X11_init_s3 {g g1 : gT} {p : Program} {l : Launch} {e : Env} {s : State} {m : MethodId} {args : Array Value} {below : List Frame} {meth : Method} {c9 : Code} {c h0a : Nat} {M13 M14 M15 M16 M17 M18 M19 M20 M21 : Mem} (F : Fx g p s m args c9 cX11_init 1 uX11_init RX11) (hO : Ov s) (hin : meth.name = "<init>") (hr : meth.sig.returnType = none) (hlk : meth.locks = false) (hS : shAt S11 c) (s0 : (shp c).1 = 11) (s1 : (shp c).2.1 = 42) (he0 : gAd g c = h0a) (hB : BldX g g1 c (c + 12) [] [(c, 21), (c, 15), (c, 14), (c, 13), (c, 12), (c, 10), (c, 9)]) (hF : Fx g1 p s m args c9 cX11_init 1 uX11_init RX11) (hZ20 : ∀ a, c + 12 ≤ a → M13 a = fun _ => 0) (hZ21 : ∀ a, c + 17 ≤ a → M13 a = fun _ => 0) (hZ22 : ∀ a, c + 22 ≤ a → M13 a = fun _ => 0) (hM14 : M14 = mU M13 (c + 22) 0 (2)) (hM15 : M15 = mU M14 (c + 22) 1 (2)) (hM16 : M16 = mU M15 (c + 22) 2 (2)) (hM17 : M17 = mU M16 (c + 22) 3 (2)) (hM18 : M18 = mU M17 (c + 22) 4 (2)) (hM19 : M19 = mU M18 (c + 22) 5 (2)) (hM20 : M20 = mU M19 (c + 22) 6 (2)) (hM21 : M21 = mU M20 (c + 22) 7 (2)) (hZ31 : ∀ a, c + 23 ≤ a → M21 a = fun _ => 0) (hZ32 : ∀ a, c + 24 ≤ a → M21 a = fun _ => 0) (hZ33 : ∀ a, c + 29 ≤ a → M21 a = fun _ => 0) (hZ34 : ∀ a, c + 30 ≤ a → M21 a = fun _ => 0) (hZ35 : ∀ a, c + 31 ≤ a → M21 a = fun _ => 0) (hZ36 : ∀ a, c + 32 ≤ a → M21 a = fun _ => 0) (hZ37 : ∀ a, c + 53 ≤ a → M21 a = fun _ => 0) (hZ38 : ∀ a, c + 59 ≤ a → M21 a = fun _ => 0) (hZ39 : ∀ a, c + 66 ≤ a → M21 a = fun _ => 0) (hZ40 : ∀ a, c + 77 ≤ a → M21 a = fun _ => 0) : V g1 p l e ({ frames := 1, cells := 80, slots := 3792, locals := 40 * 1 } : Room) s m args below meth c9 1 11 2447 (MQ below (gQI g c 81 M21) args s 80 3792 (gA g)) 131 [(0, .ref h0a)] [] M13 := by
  refine v_aload_n hF dX11_init_131 rfl 0 rfl ?_
  refine v_iconst (v := 4) hF dX11_init_132 (by decide) ?_
  refine v_bipush (v := 8) hF dX11_init_133 (by decide) ?_
  refine v_newM (b := c + 12) (N := 4) (K := 8) hF (List.mem_cons_of_mem _ cl_X11_20) hO.2.2 (List.mem_cons_of_mem _ ac_int) hB.ltc (hS.get (j := 12) rfl).1 (hS.get (j := 12) rfl).2.1 (hS.rows (off := 12) (N := 4) (K := 8) rfl (by decide +kernel)) hZ20 (by decide) (by decide) (by decide) (by decide) (by decide) (by decide) (Nat.le_of_ble_eq_true rfl) (Nat.le_of_ble_eq_true rfl) dX11_init_135 (fun q20 r20 hok20 => ?_)
  have B21 : BldX g (gNewM g1 (c + 12) 4 q20 r20) c (c + 17) [] [(c, 21), (c, 15), (c, 14), (c, 13), (c, 12), (c, 10), (c, 9)] := hB.newM hok20
  have F21 := B21.fx F
  refine v_fldR (k := 22) (x := c + 12) (ty := (.array (.array .int))) B21 F21 he0 (if_pos rfl) (by omega) (by omega) s0 s1 ((hS.get (j := 0) rfl).2.2 22) (by decide) (inc inU_11) tyX11 tyX11_ok nmX11 rfl (by decide) (List.mem_cons_of_mem _ fl_X11_43) rfl rfl hin rfl (by decide +kernel) rfl rfl dX11_init_139 (fun g21p B21p F21p ep21 => ?_)
  refine v_aload_n F21p dX11_init_142 rfl 0 rfl ?_
  refine v_iconst (v := 4) F21p dX11_init_143 (by decide) ?_
  refine v_bipush (v := 8) F21p dX11_init_144 (by decide) ?_
  refine v_newM (b := c + 17) (N := 4) (K := 8) F21p (List.mem_cons_of_mem _ cl_X11_20) hO.2.2 (List.mem_cons_of_mem _ ac_int) B21p.ltc (hS.get (j := 17) rfl).1 (hS.get (j := 17) rfl).2.1 (hS.rows (off := 17) (N := 4) (K := 8) rfl (by decide +kernel)) hZ21 (by decide) (by decide) (by decide) (by decide) (by decide) (by decide) (Nat.le_of_ble_eq_true rfl) (Nat.le_of_ble_eq_true rfl) dX11_init_146 (fun q21 r21 hok21 => ?_)
  have B22 : BldX g (gNewM g21p (c + 17) 4 q21 r21) c (c + 22) [] [(c, 22), (c, 21), (c, 15), (c, 14), (c, 13), (c, 12), (c, 10), (c, 9)] := B21p.newM hok21
  have F22 := B22.fx F
  refine v_fldR (k := 23) (x := c + 17) (ty := (.array (.array .int))) B22 F22 he0 (if_pos rfl) (by omega) (by omega) s0 s1 ((hS.get (j := 0) rfl).2.2 23) (by decide) (inc inU_11) tyX11 tyX11_ok nmX11 rfl (by decide) (List.mem_cons_of_mem _ fl_X11_46) rfl rfl hin rfl (by decide +kernel) rfl rfl dX11_init_150 (fun g22p B22p F22p ep22 => ?_)
  exact w_X11_init_s4 F hO hin hr hlk hS s0 s1 he0 B22p F22p hZ22 hM14 hM15 hM16 hM17 hM18 hM19 hM20 hM21 hZ31 hZ32 hZ33 hZ34 hZ35 hZ36 hZ37 hZ38 hZ39 hZ40
set_option maxHeartbeats 4000000 in
set_option maxRecDepth 100000 in
theorem w_X11_init_s2 {g g1 : gT} {p : Program} {l : Launch} {e : Env} {s : State} {m : MethodId} {args : Array Value} {below : List Frame} {meth : Method} {c9 : Code} {c h0a : Nat} {M03 M04 M05 M06 M07 M08 M09 M10 M11 M12 M13 M14 M15 M16 M17 M18 M19 M20 M21 : Mem} (F : Fx g p s m args c9 cX11_init 1 uX11_init RX11) (hO : Ov s) (hin : meth.name = "<init>") (hr : meth.sig.returnType = none) (hlk : meth.locks = false) (hS : shAt S11 c) (s0 : (shp c).1 = 11) (s1 : (shp c).2.1 = 42) (he0 : gAd g c = h0a) (hB : BldX g g1 c (c + 11) [] [(c, 15), (c, 14), (c, 13), (c, 12), (c, 10), (c, 9)]) (hF : Fx g1 p s m args c9 cX11_init 1 uX11_init RX11) (hZ9 : ∀ a, c + 11 ≤ a → M03 a = fun _ => 0) (hM04 : M04 = mU M03 (c + 11) 0 (4)) (hM05 : M05 = mU M04 (c + 11) 1 (20)) (hM06 : M06 = mU M05 (c + 11) 2 (10)) (hM07 : M07 = mU M06 (c + 11) 3 (5)) (hM08 : M08 = mU M07 (c + 11) 4 (2)) (hM09 : M09 = mU M08 (c + 11) 5 (8)) (hM10 : M10 = mU M09 (c + 11) 6 (0)) (hM11 : M11 = mU M10 (c + 11) 7 (300)) (hM12 : M12 = mU M11 (c + 11) 8 (30)) (hM13 : M13 = mU M12 (c + 11) 9 (0)) (hZ20 : ∀ a, c + 12 ≤ a → M13 a = fun _ => 0) (hZ21 : ∀ a, c + 17 ≤ a → M13 a = fun _ => 0) (hZ22 : ∀ a, c + 22 ≤ a → M13 a = fun _ => 0) (hM14 : M14 = mU M13 (c + 22) 0 (2)) (hM15 : M15 = mU M14 (c + 22) 1 (2)) (hM16 : M16 = mU M15 (c + 22) 2 (2)) (hM17 : M17 = mU M16 (c + 22) 3 (2)) (hM18 : M18 = mU M17 (c + 22) 4 (2)) (hM19 : M19 = mU M18 (c + 22) 5 (2)) (hM20 : M20 = mU M19 (c + 22) 6 (2)) (hM21 : M21 = mU M20 (c + 22) 7 (2)) (hZ31 : ∀ a, c + 23 ≤ a → M21 a = fun _ => 0) (hZ32 : ∀ a, c + 24 ≤ a → M21 a = fun _ => 0) (hZ33 : ∀ a, c + 29 ≤ a → M21 a = fun _ => 0) (hZ34 : ∀ a, c + 30 ≤ a → M21 a = fun _ => 0) (hZ35 : ∀ a, c + 31 ≤ a → M21 a = fun _ => 0) (hZ36 : ∀ a, c + 32 ≤ a → M21 a = fun _ => 0) (hZ37 : ∀ a, c + 53 ≤ a → M21 a = fun _ => 0) (hZ38 : ∀ a, c + 59 ≤ a → M21 a = fun _ => 0) (hZ39 : ∀ a, c + 66 ≤ a → M21 a = fun _ => 0) (hZ40 : ∀ a, c + 77 ≤ a → M21 a = fun _ => 0) : V g1 p l e ({ frames := 1, cells := 80, slots := 3792, locals := 40 * 1 } : Room) s m args below meth c9 1 10 2437 (MQ below (gQI g c 81 M21) args s 80 3792 (gA g)) 73 [(0, .ref h0a)] [] M03 := by
  refine v_aload_n hF dX11_init_73 rfl 0 rfl ?_
  refine v_bipush (v := 10) hF dX11_init_74 (by decide) ?_
  refine v_newI (b := c + 11) hF (List.mem_cons_of_mem _ ac_int) (hB.nin (Nat.le_refl _)) (hS.get (j := 11) rfl).1 (by decide) (by rw [(hS.get (j := 11) rfl).2.1]; decide) (by rw [(hS.get (j := 11) rfl).2.1]; decide) (Nat.le_of_ble_eq_true rfl) (by rw [(hS.get (j := 11) rfl).2.1]; decide) dX11_init_76 (fun q9 hok9 => ?_)
  rw [mZ_id (hZ9 (c + 11) (Nat.le_refl _)), (hS.get (j := 11) rfl).2.1]
  have B10 : BldX g (gNewA g1 (c + 11) q9) c (c + 12) [] [(c, 15), (c, 14), (c, 13), (c, 12), (c, 10), (c, 9)] := hB.newA hok9
  have F10 := B10.fx F
  refine v_dup F10 dX11_init_78 rfl ?_
  refine v_iconst (v := 0) F10 dX11_init_79 (by decide) ?_
  refine v_iconst (v := 4) F10 dX11_init_80 (by decide) ?_
  refine v_iastE (a := c + 11) (j := 0) F10 (B10.ty (by omega) (by omega) List.not_mem_nil (hS.get (j := 11) rfl).1) (if_pos rfl) (by decide) (by rw [show gN (c + 11) = 10 from (hS.get (j := 11) rfl).2.1]; exact (by decide : ¬ ((0 : Int32) < 0 ∨ 10 ≤ (0 : Int32).toNatClampNeg))) dX11_init_81 ?_
  rw [← hM04]
  refine v_dup F10 dX11_init_82 rfl ?_
  refine v_iconst (v := 1) F10 dX11_init_83 (by decide) ?_
  refine v_bipush (v := 20) F10 dX11_init_84 (by decide) ?_
  refine v_iastE (a := c + 11) (j := 1) F10 (B10.ty (by omega) (by omega) List.not_mem_nil (hS.get (j := 11) rfl).1) (if_pos rfl) (by decide) (by rw [show gN (c + 11) = 10 from (hS.get (j := 11) rfl).2.1]; exact (by decide : ¬ ((1 : Int32) < 0 ∨ 10 ≤ (1 : Int32).toNatClampNeg))) dX11_init_86 ?_
  rw [← hM05]
  refine v_dup F10 dX11_init_87 rfl ?_
  refine v_iconst (v := 2) F10 dX11_init_88 (by decide) ?_
  refine v_bipush (v := 10) F10 dX11_init_89 (by decide) ?_
  refine v_iastE (a := c + 11) (j := 2) F10 (B10.ty (by omega) (by omega) List.not_mem_nil (hS.get (j := 11) rfl).1) (if_pos rfl) (by decide) (by rw [show gN (c + 11) = 10 from (hS.get (j := 11) rfl).2.1]; exact (by decide : ¬ ((2 : Int32) < 0 ∨ 10 ≤ (2 : Int32).toNatClampNeg))) dX11_init_91 ?_
  rw [← hM06]
  refine v_dup F10 dX11_init_92 rfl ?_
  refine v_iconst (v := 3) F10 dX11_init_93 (by decide) ?_
  refine v_iconst (v := 5) F10 dX11_init_94 (by decide) ?_
  refine v_iastE (a := c + 11) (j := 3) F10 (B10.ty (by omega) (by omega) List.not_mem_nil (hS.get (j := 11) rfl).1) (if_pos rfl) (by decide) (by rw [show gN (c + 11) = 10 from (hS.get (j := 11) rfl).2.1]; exact (by decide : ¬ ((3 : Int32) < 0 ∨ 10 ≤ (3 : Int32).toNatClampNeg))) dX11_init_95 ?_
  rw [← hM07]
  refine v_dup F10 dX11_init_96 rfl ?_
  refine v_iconst (v := 4) F10 dX11_init_97 (by decide) ?_
  refine v_iconst (v := 2) F10 dX11_init_98 (by decide) ?_
  refine v_iastE (a := c + 11) (j := 4) F10 (B10.ty (by omega) (by omega) List.not_mem_nil (hS.get (j := 11) rfl).1) (if_pos rfl) (by decide) (by rw [show gN (c + 11) = 10 from (hS.get (j := 11) rfl).2.1]; exact (by decide : ¬ ((4 : Int32) < 0 ∨ 10 ≤ (4 : Int32).toNatClampNeg))) dX11_init_99 ?_
  rw [← hM08]
  refine v_dup F10 dX11_init_100 rfl ?_
  refine v_iconst (v := 5) F10 dX11_init_101 (by decide) ?_
  refine v_bipush (v := 8) F10 dX11_init_102 (by decide) ?_
  refine v_iastE (a := c + 11) (j := 5) F10 (B10.ty (by omega) (by omega) List.not_mem_nil (hS.get (j := 11) rfl).1) (if_pos rfl) (by decide) (by rw [show gN (c + 11) = 10 from (hS.get (j := 11) rfl).2.1]; exact (by decide : ¬ ((5 : Int32) < 0 ∨ 10 ≤ (5 : Int32).toNatClampNeg))) dX11_init_104 ?_
  rw [← hM09]
  refine v_dup F10 dX11_init_105 rfl ?_
  refine v_bipush (v := 6) F10 dX11_init_106 (by decide) ?_
  refine v_iconst (v := 0) F10 dX11_init_108 (by decide) ?_
  refine v_iastE (a := c + 11) (j := 6) F10 (B10.ty (by omega) (by omega) List.not_mem_nil (hS.get (j := 11) rfl).1) (if_pos rfl) (by decide) (by rw [show gN (c + 11) = 10 from (hS.get (j := 11) rfl).2.1]; exact (by decide : ¬ ((6 : Int32) < 0 ∨ 10 ≤ (6 : Int32).toNatClampNeg))) dX11_init_109 ?_
  rw [← hM10]
  refine v_dup F10 dX11_init_110 rfl ?_
  refine v_bipush (v := 7) F10 dX11_init_111 (by decide) ?_
  refine v_sipush (v := 300) F10 dX11_init_113 (by decide) ?_
  refine v_iastE (a := c + 11) (j := 7) F10 (B10.ty (by omega) (by omega) List.not_mem_nil (hS.get (j := 11) rfl).1) (if_pos rfl) (by decide) (by rw [show gN (c + 11) = 10 from (hS.get (j := 11) rfl).2.1]; exact (by decide : ¬ ((7 : Int32) < 0 ∨ 10 ≤ (7 : Int32).toNatClampNeg))) dX11_init_116 ?_
  rw [← hM11]
  refine v_dup F10 dX11_init_117 rfl ?_
  refine v_bipush (v := 8) F10 dX11_init_118 (by decide) ?_
  refine v_bipush (v := 30) F10 dX11_init_120 (by decide) ?_
  refine v_iastE (a := c + 11) (j := 8) F10 (B10.ty (by omega) (by omega) List.not_mem_nil (hS.get (j := 11) rfl).1) (if_pos rfl) (by decide) (by rw [show gN (c + 11) = 10 from (hS.get (j := 11) rfl).2.1]; exact (by decide : ¬ ((8 : Int32) < 0 ∨ 10 ≤ (8 : Int32).toNatClampNeg))) dX11_init_122 ?_
  rw [← hM12]
  refine v_dup F10 dX11_init_123 rfl ?_
  refine v_bipush (v := 9) F10 dX11_init_124 (by decide) ?_
  refine v_iconst (v := 0) F10 dX11_init_126 (by decide) ?_
  refine v_iastE (a := c + 11) (j := 9) F10 (B10.ty (by omega) (by omega) List.not_mem_nil (hS.get (j := 11) rfl).1) (if_pos rfl) (by decide) (by rw [show gN (c + 11) = 10 from (hS.get (j := 11) rfl).2.1]; exact (by decide : ¬ ((9 : Int32) < 0 ∨ 10 ≤ (9 : Int32).toNatClampNeg))) dX11_init_127 ?_
  rw [← hM13]
  refine v_fldR (k := 21) (x := c + 11) (ty := (.array .int)) B10 F10 he0 (if_pos rfl) (by omega) (by omega) s0 s1 ((hS.get (j := 0) rfl).2.2 21) (by decide) (inc inU_11) tyX11 tyX11_ok nmX11 rfl (by decide) (List.mem_cons_of_mem _ fl_X11_40) rfl rfl hin rfl (by decide +kernel) rfl rfl dX11_init_128 (fun g20p B20p F20p ep20 => ?_)
  exact w_X11_init_s3 F hO hin hr hlk hS s0 s1 he0 B20p F20p hZ20 hZ21 hZ22 hM14 hM15 hM16 hM17 hM18 hM19 hM20 hM21 hZ31 hZ32 hZ33 hZ34 hZ35 hZ36 hZ37 hZ38 hZ39 hZ40
set_option maxHeartbeats 4000000 in
set_option maxRecDepth 100000 in
theorem w_X11_init_s1 {g g1 : gT} {p : Program} {l : Launch} {e : Env} {s : State} {m : MethodId} {args : Array Value} {below : List Frame} {meth : Method} {c9 : Code} {c h0a : Nat} {M01 M02 M03 M04 M05 M06 M07 M08 M09 M10 M11 M12 M13 M14 M15 M16 M17 M18 M19 M20 M21 : Mem} (F : Fx g p s m args c9 cX11_init 1 uX11_init RX11) (hO : Ov s) (hin : meth.name = "<init>") (hr : meth.sig.returnType = none) (hlk : meth.locks = false) (hS : shAt S11 c) (s0 : (shp c).1 = 11) (s1 : (shp c).2.1 = 42) (he0 : gAd g c = h0a) (hB : BldX g g1 c (c + 10) [] [(c, 14), (c, 13), (c, 12), (c, 10), (c, 9)]) (hF : Fx g1 p s m args c9 cX11_init 1 uX11_init RX11) (hZ6 : ∀ a, c + 10 ≤ a → M01 a = fun _ => 0) (hM02 : M02 = mU M01 c 18 (100)) (hM03 : M03 = mU M02 c 19 (4)) (hZ9 : ∀ a, c + 11 ≤ a → M03 a = fun _ => 0) (hM04 : M04 = mU M03 (c + 11) 0 (4)) (hM05 : M05 = mU M04 (c + 11) 1 (20)) (hM06 : M06 = mU M05 (c + 11) 2 (10)) (hM07 : M07 = mU M06 (c + 11) 3 (5)) (hM08 : M08 = mU M07 (c + 11) 4 (2)) (hM09 : M09 = mU M08 (c + 11) 5 (8)) (hM10 : M10 = mU M09 (c + 11) 6 (0)) (hM11 : M11 = mU M10 (c + 11) 7 (300)) (hM12 : M12 = mU M11 (c + 11) 8 (30)) (hM13 : M13 = mU M12 (c + 11) 9 (0)) (hZ20 : ∀ a, c + 12 ≤ a → M13 a = fun _ => 0) (hZ21 : ∀ a, c + 17 ≤ a → M13 a = fun _ => 0) (hZ22 : ∀ a, c + 22 ≤ a → M13 a = fun _ => 0) (hM14 : M14 = mU M13 (c + 22) 0 (2)) (hM15 : M15 = mU M14 (c + 22) 1 (2)) (hM16 : M16 = mU M15 (c + 22) 2 (2)) (hM17 : M17 = mU M16 (c + 22) 3 (2)) (hM18 : M18 = mU M17 (c + 22) 4 (2)) (hM19 : M19 = mU M18 (c + 22) 5 (2)) (hM20 : M20 = mU M19 (c + 22) 6 (2)) (hM21 : M21 = mU M20 (c + 22) 7 (2)) (hZ31 : ∀ a, c + 23 ≤ a → M21 a = fun _ => 0) (hZ32 : ∀ a, c + 24 ≤ a → M21 a = fun _ => 0) (hZ33 : ∀ a, c + 29 ≤ a → M21 a = fun _ => 0) (hZ34 : ∀ a, c + 30 ≤ a → M21 a = fun _ => 0) (hZ35 : ∀ a, c + 31 ≤ a → M21 a = fun _ => 0) (hZ36 : ∀ a, c + 32 ≤ a → M21 a = fun _ => 0) (hZ37 : ∀ a, c + 53 ≤ a → M21 a = fun _ => 0) (hZ38 : ∀ a, c + 59 ≤ a → M21 a = fun _ => 0) (hZ39 : ∀ a, c + 66 ≤ a → M21 a = fun _ => 0) (hZ40 : ∀ a, c + 77 ≤ a → M21 a = fun _ => 0) : V g1 p l e ({ frames := 1, cells := 80, slots := 3792, locals := 40 * 1 } : Room) s m args below meth c9 1 9 2428 (MQ below (gQI g c 81 M21) args s 80 3792 (gA g)) 54 [(0, .ref h0a)] [] M01 := by
  refine v_aload_n hF dX11_init_54 rfl 0 rfl ?_
  refine v_bipush (v := 9) hF dX11_init_55 (by decide) ?_
  refine v_newI (b := c + 10) hF (List.mem_cons_of_mem _ ac_int) (hB.nin (Nat.le_refl _)) (hS.get (j := 10) rfl).1 (by decide) (by rw [(hS.get (j := 10) rfl).2.1]; decide) (by rw [(hS.get (j := 10) rfl).2.1]; decide) (Nat.le_of_ble_eq_true rfl) (by rw [(hS.get (j := 10) rfl).2.1]; decide) dX11_init_57 (fun q6 hok6 => ?_)
  rw [mZ_id (hZ6 (c + 10) (Nat.le_refl _)), (hS.get (j := 10) rfl).2.1]
  have B7 : BldX g (gNewA g1 (c + 10) q6) c (c + 11) [] [(c, 14), (c, 13), (c, 12), (c, 10), (c, 9)] := hB.newA hok6
  have F7 := B7.fx F
  refine v_fldR (k := 15) (x := c + 10) (ty := (.array .int)) B7 F7 he0 (if_pos rfl) (by omega) (by omega) s0 s1 ((hS.get (j := 0) rfl).2.2 15) (by decide) (inc inU_11) tyX11 tyX11_ok nmX11 rfl (by decide) (List.mem_cons_of_mem _ fl_X11_31) rfl rfl hin rfl (by decide +kernel) rfl rfl dX11_init_59 (fun g7p B7p F7p ep7 => ?_)
  refine v_aload_n F7p dX11_init_62 rfl 0 rfl ?_
  refine v_bipush (v := 100) F7p dX11_init_63 (by decide) ?_
  refine v_putU (k := 18) (ty := .int) F7p B7p.bin s0 s1 ((hS.get (j := 0) rfl).2.2 18) ((B7p.2.2.2.2.1 c B7p.2.2.1.2).1.trans he0) (by decide) (inc inU_11) tyX11 tyX11_ok nmX11 rfl (by decide) (List.mem_cons_of_mem _ fl_X11_34) rfl rfl (by decide +kernel) rfl rfl dX11_init_65 ?_
  rw [← hM02]
  refine v_aload_n F7p dX11_init_68 rfl 0 rfl ?_
  refine v_iconst (v := 4) F7p dX11_init_69 (by decide) ?_
  refine v_putU (k := 19) (ty := .int) F7p B7p.bin s0 s1 ((hS.get (j := 0) rfl).2.2 19) ((B7p.2.2.2.2.1 c B7p.2.2.1.2).1.trans he0) (by decide) (inc inU_11) tyX11 tyX11_ok nmX11 rfl (by decide) (List.mem_cons_of_mem _ fl_X11_37) rfl rfl (by decide +kernel) rfl rfl dX11_init_70 ?_
  rw [← hM03]
  exact w_X11_init_s2 F hO hin hr hlk hS s0 s1 he0 B7p F7p hZ9 hM04 hM05 hM06 hM07 hM08 hM09 hM10 hM11 hM12 hM13 hZ20 hZ21 hZ22 hM14 hM15 hM16 hM17 hM18 hM19 hM20 hM21 hZ31 hZ32 hZ33 hZ34 hZ35 hZ36 hZ37 hZ38 hZ39 hZ40
set_option maxHeartbeats 4000000 in
set_option maxRecDepth 100000 in
theorem w_X11_init_s0 {g g1 : gT} {p : Program} {l : Launch} {e : Env} {s : State} {m : MethodId} {args : Array Value} {below : List Frame} {meth : Method} {c9 : Code} {c h0a : Nat} {M01 M02 M03 M04 M05 M06 M07 M08 M09 M10 M11 M12 M13 M14 M15 M16 M17 M18 M19 M20 M21 : Mem} (F : Fx g p s m args c9 cX11_init 1 uX11_init RX11) (hO : Ov s) (hin : meth.name = "<init>") (hr : meth.sig.returnType = none) (hlk : meth.locks = false) (hS : shAt S11 c) (s0 : (shp c).1 = 11) (s1 : (shp c).2.1 = 42) (he0 : gAd g c = h0a) (hB : BldX g g1 c (c + 3) [] [(c, 10), (c, 9)]) (hF : Fx g1 p s m args c9 cX11_init 1 uX11_init RX11) (hZ3 : ∀ a, c + 3 ≤ a → M01 a = fun _ => 0) (hZ4 : ∀ a, c + 8 ≤ a → M01 a = fun _ => 0) (hZ5 : ∀ a, c + 9 ≤ a → M01 a = fun _ => 0) (hZ6 : ∀ a, c + 10 ≤ a → M01 a = fun _ => 0) (hM02 : M02 = mU M01 c 18 (100)) (hM03 : M03 = mU M02 c 19 (4)) (hZ9 : ∀ a, c + 11 ≤ a → M03 a = fun _ => 0) (hM04 : M04 = mU M03 (c + 11) 0 (4)) (hM05 : M05 = mU M04 (c + 11) 1 (20)) (hM06 : M06 = mU M05 (c + 11) 2 (10)) (hM07 : M07 = mU M06 (c + 11) 3 (5)) (hM08 : M08 = mU M07 (c + 11) 4 (2)) (hM09 : M09 = mU M08 (c + 11) 5 (8)) (hM10 : M10 = mU M09 (c + 11) 6 (0)) (hM11 : M11 = mU M10 (c + 11) 7 (300)) (hM12 : M12 = mU M11 (c + 11) 8 (30)) (hM13 : M13 = mU M12 (c + 11) 9 (0)) (hZ20 : ∀ a, c + 12 ≤ a → M13 a = fun _ => 0) (hZ21 : ∀ a, c + 17 ≤ a → M13 a = fun _ => 0) (hZ22 : ∀ a, c + 22 ≤ a → M13 a = fun _ => 0) (hM14 : M14 = mU M13 (c + 22) 0 (2)) (hM15 : M15 = mU M14 (c + 22) 1 (2)) (hM16 : M16 = mU M15 (c + 22) 2 (2)) (hM17 : M17 = mU M16 (c + 22) 3 (2)) (hM18 : M18 = mU M17 (c + 22) 4 (2)) (hM19 : M19 = mU M18 (c + 22) 5 (2)) (hM20 : M20 = mU M19 (c + 22) 6 (2)) (hM21 : M21 = mU M20 (c + 22) 7 (2)) (hZ31 : ∀ a, c + 23 ≤ a → M21 a = fun _ => 0) (hZ32 : ∀ a, c + 24 ≤ a → M21 a = fun _ => 0) (hZ33 : ∀ a, c + 29 ≤ a → M21 a = fun _ => 0) (hZ34 : ∀ a, c + 30 ≤ a → M21 a = fun _ => 0) (hZ35 : ∀ a, c + 31 ≤ a → M21 a = fun _ => 0) (hZ36 : ∀ a, c + 32 ≤ a → M21 a = fun _ => 0) (hZ37 : ∀ a, c + 53 ≤ a → M21 a = fun _ => 0) (hZ38 : ∀ a, c + 59 ≤ a → M21 a = fun _ => 0) (hZ39 : ∀ a, c + 66 ≤ a → M21 a = fun _ => 0) (hZ40 : ∀ a, c + 77 ≤ a → M21 a = fun _ => 0) : V g1 p l e ({ frames := 1, cells := 80, slots := 3792, locals := 40 * 1 } : Room) s m args below meth c9 1 2 700 (MQ below (gQI g c 81 M21) args s 80 3792 (gA g)) 27 [(0, .ref h0a)] [] M01 := by
  refine v_aload_n hF dX11_init_27 rfl 0 rfl ?_
  refine v_iconst (v := 4) hF dX11_init_28 (by decide) ?_
  refine v_sipush (v := 400) hF dX11_init_29 (by decide) ?_
  refine v_newM (b := c + 3) (N := 4) (K := 400) hF (List.mem_cons_of_mem _ cl_X11_20) hO.2.2 (List.mem_cons_of_mem _ ac_int) hB.ltc (hS.get (j := 3) rfl).1 (hS.get (j := 3) rfl).2.1 (hS.rows (off := 3) (N := 4) (K := 400) rfl (by decide +kernel)) hZ3 (by decide) (by decide) (by decide) (by decide) (by decide) (by decide) (Nat.le_of_ble_eq_true rfl) (Nat.le_of_ble_eq_true rfl) dX11_init_32 (fun q3 r3 hok3 => ?_)
  have B4 : BldX g (gNewM g1 (c + 3) 4 q3 r3) c (c + 8) [] [(c, 10), (c, 9)] := hB.newM hok3
  have F4 := B4.fx F
  refine v_fldR (k := 12) (x := c + 3) (ty := (.array (.array .int))) B4 F4 he0 (if_pos rfl) (by omega) (by omega) s0 s1 ((hS.get (j := 0) rfl).2.2 12) (by decide) (inc inU_11) tyX11 tyX11_ok nmX11 rfl (by decide) (List.mem_cons_of_mem _ fl_X11_22) rfl rfl hin rfl (by decide +kernel) rfl rfl dX11_init_36 (fun g4p B4p F4p ep4 => ?_)
  refine v_aload_n F4p dX11_init_39 rfl 0 rfl ?_
  refine v_iconst (v := 4) F4p dX11_init_40 (by decide) ?_
  refine v_newI (b := c + 8) F4p (List.mem_cons_of_mem _ ac_int) (B4p.nin (Nat.le_refl _)) (hS.get (j := 8) rfl).1 (by decide) (by rw [(hS.get (j := 8) rfl).2.1]; decide) (by rw [(hS.get (j := 8) rfl).2.1]; decide) (Nat.le_of_ble_eq_true rfl) (by rw [(hS.get (j := 8) rfl).2.1]; decide) dX11_init_41 (fun q4 hok4 => ?_)
  rw [mZ_id (hZ4 (c + 8) (Nat.le_refl _)), (hS.get (j := 8) rfl).2.1]
  have B5 : BldX g (gNewA g4p (c + 8) q4) c (c + 9) [] [(c, 12), (c, 10), (c, 9)] := B4p.newA hok4
  have F5 := B5.fx F
  refine v_fldR (k := 13) (x := c + 8) (ty := (.array .int)) B5 F5 he0 (if_pos rfl) (by omega) (by omega) s0 s1 ((hS.get (j := 0) rfl).2.2 13) (by decide) (inc inU_11) tyX11 tyX11_ok nmX11 rfl (by decide) (List.mem_cons_of_mem _ fl_X11_25) rfl rfl hin rfl (by decide +kernel) rfl rfl dX11_init_43 (fun g5p B5p F5p ep5 => ?_)
  refine v_aload_n F5p dX11_init_46 rfl 0 rfl ?_
  refine v_bipush (v := 120) F5p dX11_init_47 (by decide) ?_
  refine v_newI (b := c + 9) F5p (List.mem_cons_of_mem _ ac_int) (B5p.nin (Nat.le_refl _)) (hS.get (j := 9) rfl).1 (by decide) (by rw [(hS.get (j := 9) rfl).2.1]; decide) (by rw [(hS.get (j := 9) rfl).2.1]; decide) (Nat.le_of_ble_eq_true rfl) (by rw [(hS.get (j := 9) rfl).2.1]; decide) dX11_init_49 (fun q5 hok5 => ?_)
  rw [mZ_id (hZ5 (c + 9) (Nat.le_refl _)), (hS.get (j := 9) rfl).2.1]
  have B6 : BldX g (gNewA g5p (c + 9) q5) c (c + 10) [] [(c, 13), (c, 12), (c, 10), (c, 9)] := B5p.newA hok5
  have F6 := B6.fx F
  refine v_fldR (k := 14) (x := c + 9) (ty := (.array .int)) B6 F6 he0 (if_pos rfl) (by omega) (by omega) s0 s1 ((hS.get (j := 0) rfl).2.2 14) (by decide) (inc inU_11) tyX11 tyX11_ok nmX11 rfl (by decide) (List.mem_cons_of_mem _ fl_X11_28) rfl rfl hin rfl (by decide +kernel) rfl rfl dX11_init_51 (fun g6p B6p F6p ep6 => ?_)
  exact w_X11_init_s1 F hO hin hr hlk hS s0 s1 he0 B6p F6p hZ6 hM02 hM03 hZ9 hM04 hM05 hM06 hM07 hM08 hM09 hM10 hM11 hM12 hM13 hZ20 hZ21 hZ22 hM14 hM15 hM16 hM17 hM18 hM19 hM20 hM21 hZ31 hZ32 hZ33 hZ34 hZ35 hZ36 hZ37 hZ38 hZ39 hZ40
set_option maxHeartbeats 4000000 in
set_option maxRecDepth 100000 in
theorem mp_Model (l : Launch) : MkJ l yX11_init uX11_init 1 80 3792 81 S11 [] (fun c M' => M' c = (fun k => if k = 3 then -1 else if k = 18 then 100 else if k = 19 then 4 else 0) ∧ M' (c + 11) = (fun j => if j < 10 then nbF j else 0) ∧ M' (c + 22) = (fun j => if j < 8 then (fun _ => (2 : Int32)) j else 0) ∧ ∀ a, c < a → a < c + 81 → a ≠ c + 11 → a ≠ c + 22 → M' a = fun _ => 0) := by
  intro c M hS hZ
  have hZ0 : ∀ a, c + 1 ≤ a → M a = fun _ => 0 := fun a h => hZ a (by omega)
  obtain ⟨M01, hM01⟩ : ∃ X, X = mU M c 3 (-1) := ⟨_, rfl⟩
  have hZ1 : ∀ a, c + 1 ≤ a → M01 a = fun _ => 0 := fun a h => by rw [hM01, u_ne (by omega)]; exact hZ0 a (by omega)
  have hZ2 : ∀ a, c + 2 ≤ a → M01 a = fun _ => 0 := fun a h => hZ1 a (by omega)
  have hZ3 : ∀ a, c + 3 ≤ a → M01 a = fun _ => 0 := fun a h => hZ2 a (by omega)
  have hZ4 : ∀ a, c + 8 ≤ a → M01 a = fun _ => 0 := fun a h => hZ3 a (by omega)
  have hZ5 : ∀ a, c + 9 ≤ a → M01 a = fun _ => 0 := fun a h => hZ4 a (by omega)
  have hZ6 : ∀ a, c + 10 ≤ a → M01 a = fun _ => 0 := fun a h => hZ5 a (by omega)
  have hZ7 : ∀ a, c + 11 ≤ a → M01 a = fun _ => 0 := fun a h => hZ6 a (by omega)
  obtain ⟨M02, hM02⟩ : ∃ X, X = mU M01 c 18 (100) := ⟨_, rfl⟩
  have hZ8 : ∀ a, c + 11 ≤ a → M02 a = fun _ => 0 := fun a h => by rw [hM02, u_ne (by omega)]; exact hZ7 a (by omega)
  obtain ⟨M03, hM03⟩ : ∃ X, X = mU M02 c 19 (4) := ⟨_, rfl⟩
  have hZ9 : ∀ a, c + 11 ≤ a → M03 a = fun _ => 0 := fun a h => by rw [hM03, u_ne (by omega)]; exact hZ8 a (by omega)
  have hZ10 : ∀ a, c + 12 ≤ a → M03 a = fun _ => 0 := fun a h => hZ9 a (by omega)
  obtain ⟨M04, hM04⟩ : ∃ X, X = mU M03 (c + 11) 0 (4) := ⟨_, rfl⟩
  have hZ11 : ∀ a, c + 12 ≤ a → M04 a = fun _ => 0 := fun a h => by rw [hM04, u_ne (by omega)]; exact hZ10 a (by omega)
  obtain ⟨M05, hM05⟩ : ∃ X, X = mU M04 (c + 11) 1 (20) := ⟨_, rfl⟩
  have hZ12 : ∀ a, c + 12 ≤ a → M05 a = fun _ => 0 := fun a h => by rw [hM05, u_ne (by omega)]; exact hZ11 a (by omega)
  obtain ⟨M06, hM06⟩ : ∃ X, X = mU M05 (c + 11) 2 (10) := ⟨_, rfl⟩
  have hZ13 : ∀ a, c + 12 ≤ a → M06 a = fun _ => 0 := fun a h => by rw [hM06, u_ne (by omega)]; exact hZ12 a (by omega)
  obtain ⟨M07, hM07⟩ : ∃ X, X = mU M06 (c + 11) 3 (5) := ⟨_, rfl⟩
  have hZ14 : ∀ a, c + 12 ≤ a → M07 a = fun _ => 0 := fun a h => by rw [hM07, u_ne (by omega)]; exact hZ13 a (by omega)
  obtain ⟨M08, hM08⟩ : ∃ X, X = mU M07 (c + 11) 4 (2) := ⟨_, rfl⟩
  have hZ15 : ∀ a, c + 12 ≤ a → M08 a = fun _ => 0 := fun a h => by rw [hM08, u_ne (by omega)]; exact hZ14 a (by omega)
  obtain ⟨M09, hM09⟩ : ∃ X, X = mU M08 (c + 11) 5 (8) := ⟨_, rfl⟩
  have hZ16 : ∀ a, c + 12 ≤ a → M09 a = fun _ => 0 := fun a h => by rw [hM09, u_ne (by omega)]; exact hZ15 a (by omega)
  obtain ⟨M10, hM10⟩ : ∃ X, X = mU M09 (c + 11) 6 (0) := ⟨_, rfl⟩
  have hZ17 : ∀ a, c + 12 ≤ a → M10 a = fun _ => 0 := fun a h => by rw [hM10, u_ne (by omega)]; exact hZ16 a (by omega)
  obtain ⟨M11, hM11⟩ : ∃ X, X = mU M10 (c + 11) 7 (300) := ⟨_, rfl⟩
  have hZ18 : ∀ a, c + 12 ≤ a → M11 a = fun _ => 0 := fun a h => by rw [hM11, u_ne (by omega)]; exact hZ17 a (by omega)
  obtain ⟨M12, hM12⟩ : ∃ X, X = mU M11 (c + 11) 8 (30) := ⟨_, rfl⟩
  have hZ19 : ∀ a, c + 12 ≤ a → M12 a = fun _ => 0 := fun a h => by rw [hM12, u_ne (by omega)]; exact hZ18 a (by omega)
  obtain ⟨M13, hM13⟩ : ∃ X, X = mU M12 (c + 11) 9 (0) := ⟨_, rfl⟩
  have hZ20 : ∀ a, c + 12 ≤ a → M13 a = fun _ => 0 := fun a h => by rw [hM13, u_ne (by omega)]; exact hZ19 a (by omega)
  have hZ21 : ∀ a, c + 17 ≤ a → M13 a = fun _ => 0 := fun a h => hZ20 a (by omega)
  have hZ22 : ∀ a, c + 22 ≤ a → M13 a = fun _ => 0 := fun a h => hZ21 a (by omega)
  have hZ23 : ∀ a, c + 23 ≤ a → M13 a = fun _ => 0 := fun a h => hZ22 a (by omega)
  obtain ⟨M14, hM14⟩ : ∃ X, X = mU M13 (c + 22) 0 (2) := ⟨_, rfl⟩
  have hZ24 : ∀ a, c + 23 ≤ a → M14 a = fun _ => 0 := fun a h => by rw [hM14, u_ne (by omega)]; exact hZ23 a (by omega)
  obtain ⟨M15, hM15⟩ : ∃ X, X = mU M14 (c + 22) 1 (2) := ⟨_, rfl⟩
  have hZ25 : ∀ a, c + 23 ≤ a → M15 a = fun _ => 0 := fun a h => by rw [hM15, u_ne (by omega)]; exact hZ24 a (by omega)
  obtain ⟨M16, hM16⟩ : ∃ X, X = mU M15 (c + 22) 2 (2) := ⟨_, rfl⟩
  have hZ26 : ∀ a, c + 23 ≤ a → M16 a = fun _ => 0 := fun a h => by rw [hM16, u_ne (by omega)]; exact hZ25 a (by omega)
  obtain ⟨M17, hM17⟩ : ∃ X, X = mU M16 (c + 22) 3 (2) := ⟨_, rfl⟩
  have hZ27 : ∀ a, c + 23 ≤ a → M17 a = fun _ => 0 := fun a h => by rw [hM17, u_ne (by omega)]; exact hZ26 a (by omega)
  obtain ⟨M18, hM18⟩ : ∃ X, X = mU M17 (c + 22) 4 (2) := ⟨_, rfl⟩
  have hZ28 : ∀ a, c + 23 ≤ a → M18 a = fun _ => 0 := fun a h => by rw [hM18, u_ne (by omega)]; exact hZ27 a (by omega)
  obtain ⟨M19, hM19⟩ : ∃ X, X = mU M18 (c + 22) 5 (2) := ⟨_, rfl⟩
  have hZ29 : ∀ a, c + 23 ≤ a → M19 a = fun _ => 0 := fun a h => by rw [hM19, u_ne (by omega)]; exact hZ28 a (by omega)
  obtain ⟨M20, hM20⟩ : ∃ X, X = mU M19 (c + 22) 6 (2) := ⟨_, rfl⟩
  have hZ30 : ∀ a, c + 23 ≤ a → M20 a = fun _ => 0 := fun a h => by rw [hM20, u_ne (by omega)]; exact hZ29 a (by omega)
  obtain ⟨M21, hM21⟩ : ∃ X, X = mU M20 (c + 22) 7 (2) := ⟨_, rfl⟩
  have hZ31 : ∀ a, c + 23 ≤ a → M21 a = fun _ => 0 := fun a h => by rw [hM21, u_ne (by omega)]; exact hZ30 a (by omega)
  have hZ32 : ∀ a, c + 24 ≤ a → M21 a = fun _ => 0 := fun a h => hZ31 a (by omega)
  have hZ33 : ∀ a, c + 29 ≤ a → M21 a = fun _ => 0 := fun a h => hZ32 a (by omega)
  have hZ34 : ∀ a, c + 30 ≤ a → M21 a = fun _ => 0 := fun a h => hZ33 a (by omega)
  have hZ35 : ∀ a, c + 31 ≤ a → M21 a = fun _ => 0 := fun a h => hZ34 a (by omega)
  have hZ36 : ∀ a, c + 32 ≤ a → M21 a = fun _ => 0 := fun a h => hZ35 a (by omega)
  have hZ37 : ∀ a, c + 53 ≤ a → M21 a = fun _ => 0 := fun a h => hZ36 a (by omega)
  have hZ38 : ∀ a, c + 59 ≤ a → M21 a = fun _ => 0 := fun a h => hZ37 a (by omega)
  have hZ39 : ∀ a, c + 66 ≤ a → M21 a = fun _ => 0 := fun a h => hZ38 a (by omega)
  have hZ40 : ∀ a, c + 77 ≤ a → M21 a = fun _ => 0 := fun a h => hZ39 a (by omega)
  have hZ41 : ∀ a, c + 81 ≤ a → M21 a = fun _ => 0 := fun a h => hZ40 a (by omega)
  have ho : ∀ a, a ≠ c → a ≠ c + 11 → a ≠ c + 22 → M21 a = M a := fun a h1 h2 h3 => by
    rw [hM21, u_ne (by omega), hM20, u_ne (by omega), hM19, u_ne (by omega), hM18, u_ne (by omega), hM17, u_ne (by omega), hM16, u_ne (by omega), hM15, u_ne (by omega), hM14, u_ne (by omega), hM13, u_ne (by omega), hM12, u_ne (by omega), hM11, u_ne (by omega), hM10, u_ne (by omega), hM09, u_ne (by omega), hM08, u_ne (by omega), hM07, u_ne (by omega), hM06, u_ne (by omega), hM05, u_ne (by omega), hM04, u_ne (by omega), hM03, u_ne (by omega), hM02, u_ne (by omega), hM01, u_ne (by omega)]
  have hc : M21 c = M03 c := by rw [hM21, u_ne (by omega), hM20, u_ne (by omega), hM19, u_ne (by omega), hM18, u_ne (by omega), hM17, u_ne (by omega), hM16, u_ne (by omega), hM15, u_ne (by omega), hM14, u_ne (by omega), hM13, u_ne (by omega), hM12, u_ne (by omega), hM11, u_ne (by omega), hM10, u_ne (by omega), hM09, u_ne (by omega), hM08, u_ne (by omega), hM07, u_ne (by omega), hM06, u_ne (by omega), hM05, u_ne (by omega), hM04, u_ne (by omega)]
  have r0 : M03 (c + 11) = fun j => if j < 0 then nbF j else 0 := by rw [hM03, u_ne (by omega), hM02, u_ne (by omega), hM01, u_ne (by omega), hZ (c + 11) (by omega)]; rfl
  have r1 := row_step hM04 r0 (by decide)
  have r2 := row_step hM05 r1 (by decide)
  have r3 := row_step hM06 r2 (by decide)
  have r4 := row_step hM07 r3 (by decide)
  have r5 := row_step hM08 r4 (by decide)
  have r6 := row_step hM09 r5 (by decide)
  have r7 := row_step hM10 r6 (by decide)
  have r8 := row_step hM11 r7 (by decide)
  have r9 := row_step hM12 r8 (by decide)
  have r10 := row_step hM13 r9 (by decide)
  have hn : M21 (c + 11) = M13 (c + 11) := by rw [hM21, u_ne (by omega), hM20, u_ne (by omega), hM19, u_ne (by omega), hM18, u_ne (by omega), hM17, u_ne (by omega), hM16, u_ne (by omega), hM15, u_ne (by omega), hM14, u_ne (by omega)]
  have t0 : M13 (c + 22) = fun j => if j < 0 then (fun _ => (2 : Int32)) j else 0 := by rw [hM13, u_ne (by omega), hM12, u_ne (by omega), hM11, u_ne (by omega), hM10, u_ne (by omega), hM09, u_ne (by omega), hM08, u_ne (by omega), hM07, u_ne (by omega), hM06, u_ne (by omega), hM05, u_ne (by omega), hM04, u_ne (by omega), hM03, u_ne (by omega), hM02, u_ne (by omega), hM01, u_ne (by omega), hZ (c + 22) (by omega)]; rfl
  have t1 := row_step hM14 t0 rfl
  have t2 := row_step hM15 t1 rfl
  have t3 := row_step hM16 t2 rfl
  have t4 := row_step hM17 t3 rfl
  have t5 := row_step hM18 t4 rfl
  have t6 := row_step hM19 t5 rfl
  have t7 := row_step hM20 t6 rfl
  have t8 := row_step hM21 t7 rfl
  refine ⟨M21, ⟨?_, hn.trans r10, t8, fun a h1 h2 h3 h4 => (ho a (by omega) h3 h4).trans (hZ a (by omega))⟩, fun a h => ?_, fun g hok hcL hd hle => ?_⟩
  · rw [hc]
    funext k
    rw [hM03, mU_at, hM02, mU_at, hM01, mU_at, hZ c (Nat.le_refl c)]
    by_cases z1 : k = 19
    · subst z1; simp
    · rw [if_neg (fun w => z1 w.2)]
      by_cases z2 : k = 18
      · subst z2; simp
      · rw [if_neg (fun w => z2 w.2)]
        by_cases z3 : k = 3
        · subst z3; simp
        · rw [if_neg (fun w => z3 w.2), if_neg z3, if_neg z2, if_neg z1]
  · exact ho a (by omega) (by omega) (by omega)
  refine CnJ.of (cc := cX11_init) (maxL := 1) (ret := none) hok (by decide) rfl (Nat.le_of_ble_eq_true rfl) rfl (fun p e s m args below meth c9 F hO hr hlk hin => ?_)
  generalize he0 : gAd g c = h0a
  show V g p l e ({ frames := 1, cells := 80, slots := 3792, locals := 40 * 1 } : Room) s m args below meth c9 1 0 0 (MQ below (gQI g c 81 M21) args s 80 3792 (gA g)) 0 [(0, .ref h0a)] [] M
  have s0 : (shp c).1 = 11 := (hS.get (j := 0) rfl).1
  have s1 : (shp c).2.1 = 42 := (hS.get (j := 0) rfl).2.1
  have B0 := BldX.start hok hcL hd hle
  refine v_aload_n F dX11_init_0 rfl 0 rfl ?_
  refine v_objInit F (List.mem_cons_of_mem _ ml_X11_1) (List.mem_cons_of_mem _ im_obj) (List.mem_cons_of_mem _ cd_obj) dX11_init_1 (Nat.le_of_ble_eq_true rfl) (Nat.le_of_ble_eq_true rfl) ?_
  refine v_aload_n F dX11_init_4 rfl 0 rfl ?_
  refine v_iconst (v := -1) F dX11_init_5 (by decide) ?_
  refine v_putU (k := 3) (ty := .int) F B0.bin s0 s1 ((hS.get (j := 0) rfl).2.2 3) ((B0.2.2.2.2.1 c B0.2.2.1.2).1.trans he0) (by decide) (inc inU_11) tyX11 tyX11_ok nmX11 rfl (by decide) (List.mem_cons_of_mem _ fl_X11_9) rfl rfl (by decide +kernel) rfl rfl dX11_init_6 ?_
  rw [← hM01]
  refine v_aload_n F dX11_init_9 rfl 0 rfl ?_
  refine v_sipush (v := 300) F dX11_init_10 (by decide) ?_
  refine v_newI (b := c + 1) F (List.mem_cons_of_mem _ ac_int) (B0.nin (Nat.le_refl _)) (hS.get (j := 1) rfl).1 (by decide) (by rw [(hS.get (j := 1) rfl).2.1]; decide) (by rw [(hS.get (j := 1) rfl).2.1]; decide) (Nat.le_of_ble_eq_true rfl) (by rw [(hS.get (j := 1) rfl).2.1]; decide) dX11_init_13 (fun q1 hok1 => ?_)
  rw [mZ_id (hZ1 (c + 1) (Nat.le_refl _)), (hS.get (j := 1) rfl).2.1]
  have B2 : BldX g (gNewA g (c + 1) q1) c (c + 2) [] [] := B0.newA hok1
  have F2 := B2.fx F
  refine v_fldR (k := 9) (x := c + 1) (ty := (.array .int)) B2 F2 he0 (if_pos rfl) (by omega) (by omega) s0 s1 ((hS.get (j := 0) rfl).2.2 9) (by decide) (inc inU_11) tyX11 tyX11_ok nmX11 rfl (by decide) (List.mem_cons_of_mem _ fl_X11_13) rfl rfl hin rfl (by decide +kernel) rfl rfl dX11_init_15 (fun g2p B2p F2p ep2 => ?_)
  refine v_aload_n F2p dX11_init_18 rfl 0 rfl ?_
  refine v_sipush (v := 400) F2p dX11_init_19 (by decide) ?_
  refine v_newI (b := c + 2) F2p (List.mem_cons_of_mem _ ac_int) (B2p.nin (Nat.le_refl _)) (hS.get (j := 2) rfl).1 (by decide) (by rw [(hS.get (j := 2) rfl).2.1]; decide) (by rw [(hS.get (j := 2) rfl).2.1]; decide) (Nat.le_of_ble_eq_true rfl) (by rw [(hS.get (j := 2) rfl).2.1]; decide) dX11_init_22 (fun q2 hok2 => ?_)
  rw [mZ_id (hZ2 (c + 2) (Nat.le_refl _)), (hS.get (j := 2) rfl).2.1]
  have B3 : BldX g (gNewA g2p (c + 2) q2) c (c + 3) [] [(c, 9)] := B2p.newA hok2
  have F3 := B3.fx F
  refine v_fldR (k := 10) (x := c + 2) (ty := (.array .int)) B3 F3 he0 (if_pos rfl) (by omega) (by omega) s0 s1 ((hS.get (j := 0) rfl).2.2 10) (by decide) (inc inU_11) tyX11 tyX11_ok nmX11 rfl (by decide) (List.mem_cons_of_mem _ fl_X11_17) rfl rfl hin rfl (by decide +kernel) rfl rfl dX11_init_24 (fun g3p B3p F3p ep3 => ?_)
  exact w_X11_init_s0 F hO hin hr hlk hS s0 s1 he0 B3p F3p hZ3 hZ4 hZ5 hZ6 hM02 hM03 hZ9 hM04 hM05 hM06 hM07 hM08 hM09 hM10 hM11 hM12 hM13 hZ20 hZ21 hZ22 hM14 hM15 hM16 hM17 hM18 hM19 hM20 hM21 hZ31 hZ32 hZ33 hZ34 hZ35 hZ36 hZ37 hZ38 hZ39 hZ40
