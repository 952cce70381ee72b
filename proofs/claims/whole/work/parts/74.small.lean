/-! The small constructors. -/
theorem ml_X3_3 : Cond.methodLink RX3 3 objectInit ∈ uT := uM2 (List.mem_of_getElem? (i := 61) rfl) rfl
theorem cl_X3_9 : Cond.classLink RX3 9 "GallopRoads$Row" ∈ uT := uM2 (List.mem_of_getElem? (i := 62) rfl) rfl
theorem it_X8 : Cond.instantiable RX8 1 ∈ uT := uM1 (List.mem_of_getElem? (i := 33) rfl) rfl
theorem ml_X3_11 : Cond.methodLink RX3 11 yX8_init ∈ uT := uM2 (List.mem_of_getElem? (i := 63) rfl) rfl
theorem im_yX8_init : Cond.instanceMethod yX8_init ∈ uT := uM1 (List.mem_of_getElem? (i := 35) rfl) rfl
theorem cd_X8i : Cond.code yX8_init cX8_init 2 none ∈ uT := uM1 (List.mem_of_getElem? (i := 36) rfl) rfl
theorem ml_X9_3 : Cond.methodLink RX9 3 objectInit ∈ uT := uM1 (List.mem_of_getElem? (i := 59) rfl) rfl
theorem ml_X6_3 : Cond.methodLink RX6 3 objectInit ∈ uT := uM1 (List.mem_of_getElem? (i := 51) rfl) rfl
theorem cl_X6_9 : Cond.classLink RX6 9 "GallopRoads$Row" ∈ uT := uM1 (List.mem_of_getElem? (i := 52) rfl) rfl
theorem ml_X6_11 : Cond.methodLink RX6 11 yX8_init ∈ uT := uM1 (List.mem_of_getElem? (i := 53) rfl) rfl
theorem cl_X6_20 : Cond.classLink RX6 20 "GallopRoads$Tokens" ∈ uT := uM1 (List.mem_of_getElem? (i := 54) rfl) rfl
theorem it_X9 : Cond.instantiable RX9 4 ∈ uT := uM1 (List.mem_of_getElem? (i := 55) rfl) rfl
theorem cd_X9_init : Cond.code yX9_init cX9_init 1 none ∈ uT := uM1 (List.mem_of_getElem? (i := 58) rfl) rfl
theorem im_yX9_init : Cond.instanceMethod yX9_init ∈ uT := uM1 (List.mem_of_getElem? (i := 57) rfl) rfl
theorem ml_X2_3 : Cond.methodLink RX2 3 objectInit ∈ uT := uM1 (List.mem_of_getElem? (i := 190) rfl) rfl
theorem cl_X2_9 : Cond.classLink RX2 9 "GallopRoads$Row" ∈ uT := uM1 (List.mem_of_getElem? (i := 191) rfl) rfl
theorem ml_X2_13 : Cond.methodLink RX2 13 yX8_init ∈ uT := uM1 (List.mem_of_getElem? (i := 192) rfl) rfl
theorem ml_X4_1 : Cond.methodLink RX4 1 objectInit ∈ uT := uM1 (List.mem_of_getElem? (i := 215) rfl) rfl
theorem cl_X4_7 : Cond.classLink RX4 7 "GallopRoads$Row" ∈ uT := uM1 (List.mem_of_getElem? (i := 216) rfl) rfl
theorem ml_X4_11 : Cond.methodLink RX4 11 yX8_init ∈ uT := uM1 (List.mem_of_getElem? (i := 217) rfl) rfl
theorem ml_X0_1 : Cond.methodLink RX0 1 objectInit ∈ uT := uM1 (List.mem_of_getElem? (i := 237) rfl) rfl
theorem cl_X0_7 : Cond.classLink RX0 7 "GallopRoads$Row" ∈ uT := uM1 (List.mem_of_getElem? (i := 238) rfl) rfl
theorem ml_X0_11 : Cond.methodLink RX0 11 yX8_init ∈ uT := uM1 (List.mem_of_getElem? (i := 239) rfl) rfl
theorem ml_X5_3 : Cond.methodLink RX5 3 objectInit ∈ uT := uM2 (List.mem_of_getElem? (i := 16) rfl) rfl
theorem cl_X5_9 : Cond.classLink RX5 9 "GallopRoads$Row" ∈ uT := uM2 (List.mem_of_getElem? (i := 17) rfl) rfl
theorem ml_X5_13 : Cond.methodLink RX5 13 yX8_init ∈ uT := uM2 (List.mem_of_getElem? (i := 18) rfl) rfl
abbrev S3 : List (Nat × Nat × List (Option Nat)) := [(3, 5, [none, none, some 1, some 3, none]), (8, 1, [some 2]), (12, 300, []), (8, 1, [some 4]), (12, 300, [])]
abbrev uX3_init : List Cond := Cond.code yX3_init cX3_init 1 none :: uT
set_option maxHeartbeats 4000000 in
set_option maxRecDepth 100000 in
theorem mp_Law (l : Launch) : MkP l yX3_init uX3_init 2 4 602 5 S3 [] (PZ 5) := by
  intro c M hS hZ
  have hZ0 : ∀ a, c + 1 ≤ a → M a = fun _ => 0 := fun a h => hZ a (by omega)
  obtain ⟨M1, hP1, hr1, hc1⟩ := (mp_Row l (N := 300) (n := 300) rfl (by decide)) (c + 1) M (hS.sub (j := 1) (by decide +kernel)) (fun a h => hZ0 a h)
  have hM1 := (mp_eq hP1 hr1 (fun a h => hZ0 a h)).symm; subst hM1
  have hZ1 : ∀ a, c + 3 ≤ a → M a = fun _ => 0 := fun a h => hZ0 a (by omega)
  obtain ⟨M2, hP2, hr2, hc2⟩ := (mp_Row l (N := 300) (n := 300) rfl (by decide)) (c + 3) M (hS.sub (j := 3) (by decide +kernel)) (fun a h => hZ1 a h)
  have hM2 := (mp_eq hP2 hr2 (fun a h => hZ1 a h)).symm; subst hM2
  have hZ2 : ∀ a, c + 5 ≤ a → M a = fun _ => 0 := fun a h => hZ1 a (by omega)
  refine ⟨M, fun a h1 _ => hZ a h1, fun _ _ => rfl, fun g hok hcL hd hle => ?_⟩
  refine CnI.of (cc := cX3_init) (maxL := 1) (ret := none) hok (by decide) rfl (Nat.le_of_ble_eq_true rfl) rfl (fun p e s m args below meth c9 F hr hlk hin => ?_)
  generalize he0 : gAd g c = h0a
  show V g p l e ({ frames := 2, cells := 4, slots := 602, locals := 40 * 2 } : Room) s m args below meth c9 1 0 0 (MQ below (gQI g c 5 M) args s 4 602 (gA g)) 0 [(0, .ref h0a)] [] M
  have s0 : (shp c).1 = 3 := (hS.get (j := 0) rfl).1
  have s1 : (shp c).2.1 = 5 := (hS.get (j := 0) rfl).2.1
  have B0 := BldX.start hok hcL hd hle
  refine v_aload_n F dX3_init_0 rfl 0 rfl ?_
  refine v_objInit F (List.mem_cons_of_mem _ ml_X3_3) (List.mem_cons_of_mem _ im_obj) (List.mem_cons_of_mem _ cd_obj) dX3_init_1 (Nat.le_of_ble_eq_true rfl) (Nat.le_of_ble_eq_true rfl) ?_
  refine v_aload_n F dX3_init_4 rfl 0 rfl ?_
  refine v_newO (b := c + 1) (S := (rowS 300)) F (hS.sub (j := 1) (by decide +kernel)) rfl tyX8 tyX8_ok (inc inU_8) rfl (List.mem_cons_of_mem _ cl_X3_9) (List.mem_cons_of_mem _ it_X8) (List.mem_cons_of_mem _ ini_X8) (B0.nin (Nat.le_refl _)) (by decide) (by decide) (by intro j hj; rcases (show j = 0 by omega) with rfl <;> rfl) (Nat.le_of_ble_eq_true rfl) (Nat.le_of_ble_eq_true rfl) dX3_init_5 (fun q0 hok0 => ?_)
  rw [mZ_id (hZ0 (c + 1) (Nat.le_refl _))]
  have G0 := F.grow (g' := gNew g (c + 1) q0) rfl rfl rfl rfl hok0
  refine v_dup G0 dX3_init_8 rfl ?_
  refine v_sipush (v := 300) G0 dX3_init_9 (by decide) ?_
  refine v_made B0 hc1 (by decide) hok0 F (rest' := [.ref q0, .ref h0a]) (fun hM kk => v_callI (As := [.int 300]) (rest := [.ref q0, .ref h0a]) G0 hM (cwI 1 F.1.2.2.2.2 (gU_0 cd_X8i) rfl rfl rfl (F.1.2.2.2.2 _ (List.mem_cons_of_mem _ ini_X8)) (F.1.2.2.2.2 _ (List.mem_cons_of_mem _ ml_X3_11)) (F.1.2.2.2.2 _ (List.mem_cons_of_mem _ im_yX8_init)) rfl (by decide +kernel) ⟨Nat.le_of_ble_eq_true rfl, Nat.le_of_ble_eq_true rfl⟩) rfl (by rw [show gAd (gNew g (c + 1) q0) (c + 1) = q0 from if_pos rfl]; rfl) (Nat.le_of_ble_eq_true rfl) dX3_init_12 ⟨Nat.le_of_ble_eq_true rfl, Nat.le_of_ble_eq_true rfl⟩ kk) (fun g1 B1 F1 ea1 => ?_)
  have B1 : BldX g g1 c (c + 3) [] [] := B1
  refine v_fldR (k := 2) (x := c + 1) (ty := (.object "GallopRoads$Row")) B1 F1 he0 ea1 (by omega) (by omega) s0 s1 ((hS.get (j := 0) rfl).2.2 2) (by decide) (inc inU_3) tyX3 tyX3_ok nmX3 rfl (by decide) (List.mem_cons_of_mem _ fl_X3_14) rfl rfl hin rfl (by decide +kernel) rfl rfl dX3_init_15 (fun g1p B1p F1p _ => ?_)
  refine v_aload_n F1p dX3_init_18 rfl 0 rfl ?_
  refine v_newO (b := c + 3) (S := (rowS 300)) F1p (hS.sub (j := 3) (by decide +kernel)) rfl tyX8 tyX8_ok (inc inU_8) rfl (List.mem_cons_of_mem _ cl_X3_9) (List.mem_cons_of_mem _ it_X8) (List.mem_cons_of_mem _ ini_X8) (B1p.nin (Nat.le_refl _)) (by decide) (by decide) (by intro j hj; rcases (show j = 0 by omega) with rfl <;> rfl) (Nat.le_of_ble_eq_true rfl) (Nat.le_of_ble_eq_true rfl) dX3_init_19 (fun q1 hok1 => ?_)
  rw [mZ_id (hZ1 (c + 3) (Nat.le_refl _))]
  have G1 := F1p.grow (g' := gNew g1p (c + 3) q1) rfl rfl rfl rfl hok1
  refine v_dup G1 dX3_init_22 rfl ?_
  refine v_sipush (v := 300) G1 dX3_init_23 (by decide) ?_
  refine v_made B1p hc2 (by decide) hok1 F (rest' := [.ref q1, .ref h0a]) (fun hM kk => v_callI (As := [.int 300]) (rest := [.ref q1, .ref h0a]) G1 hM (cwI 1 F.1.2.2.2.2 (gU_0 cd_X8i) rfl rfl rfl (F.1.2.2.2.2 _ (List.mem_cons_of_mem _ ini_X8)) (F.1.2.2.2.2 _ (List.mem_cons_of_mem _ ml_X3_11)) (F.1.2.2.2.2 _ (List.mem_cons_of_mem _ im_yX8_init)) rfl (by decide +kernel) ⟨Nat.le_of_ble_eq_true rfl, Nat.le_of_ble_eq_true rfl⟩) rfl (by rw [show gAd (gNew g1p (c + 3) q1) (c + 3) = q1 from if_pos rfl]; rfl) (Nat.le_of_ble_eq_true rfl) dX3_init_26 ⟨Nat.le_of_ble_eq_true rfl, Nat.le_of_ble_eq_true rfl⟩ kk) (fun g2 B2 F2 ea2 => ?_)
  have B2 : BldX g g2 c (c + 5) [] [(c, 2)] := B2
  refine v_fldR (k := 3) (x := c + 3) (ty := (.object "GallopRoads$Row")) B2 F2 he0 ea2 (by omega) (by omega) s0 s1 ((hS.get (j := 0) rfl).2.2 3) (by decide) (inc inU_3) tyX3 tyX3_ok nmX3 rfl (by decide) (List.mem_cons_of_mem _ fl_X3_20) rfl rfl hin rfl (by decide +kernel) rfl rfl dX3_init_29 (fun g2p B2p F2p _ => ?_)
  have hx := B2p.done (by rw [s0]; decide) (by rw [s0, s1]; rfl) (fun k9 f hf => by
    rw [s0] at hf
    match k9, hf with
    | 0, hf => cases hf; rw [if_pos rfl]; exact (hS.get (j := 0) rfl).2.2 0
    | 1, hf => cases hf; rw [if_pos rfl]; exact (hS.get (j := 0) rfl).2.2 1
    | 2, hf => cases hf; rw [if_neg (by decide)]; exact ⟨c + 1, (hS.get (j := 0) rfl).2.2 2, (List.mem_of_getElem? (i := 1) rfl), by omega, by omega, (hS.get (j := 1) rfl).1⟩
    | 3, hf => cases hf; rw [if_neg (by decide)]; exact ⟨c + 3, (hS.get (j := 0) rfl).2.2 3, (List.mem_of_getElem? (i := 0) rfl), by omega, by omega, (hS.get (j := 3) rfl).1⟩
    | 4, hf => cases hf; rw [if_pos rfl]; exact (hS.get (j := 0) rfl).2.2 4
    | k9 + 5, hf => cases hf) 5 rfl
  refine v_done (b := c) ?_
  exact v_vretI (F2p.grow rfl rfl rfl rfl hx.2.2.2.2.2.2.1) hx hr hlk dX3_init_32
abbrev S9 : List (Nat × Nat × List (Option Nat)) := [(9, 4, [some 1, some 2, some 3, none]), (12, 301, []), (12, 301, []), (12, 301, [])]
abbrev uX9_init : List Cond := Cond.code yX9_init cX9_init 1 none :: uT
set_option maxHeartbeats 4000000 in
set_option maxRecDepth 100000 in
theorem mp_Tokens (l : Launch) : MkP l yX9_init uX9_init 1 3 903 4 S9 [] (PZ 4) := by
  intro c M hS hZ
  have hZ0 : ∀ a, c + 1 ≤ a → M a = fun _ => 0 := fun a h => hZ a (by omega)
  have hZ1 : ∀ a, c + 2 ≤ a → M a = fun _ => 0 := fun a h => hZ0 a (by omega)
  have hZ2 : ∀ a, c + 3 ≤ a → M a = fun _ => 0 := fun a h => hZ1 a (by omega)
  have hZ3 : ∀ a, c + 4 ≤ a → M a = fun _ => 0 := fun a h => hZ2 a (by omega)
  refine ⟨M, fun a h1 _ => hZ a h1, fun _ _ => rfl, fun g hok hcL hd hle => ?_⟩
  refine CnI.of (cc := cX9_init) (maxL := 1) (ret := none) hok (by decide) rfl (Nat.le_of_ble_eq_true rfl) rfl (fun p e s m args below meth c9 F hr hlk hin => ?_)
  generalize he0 : gAd g c = h0a
  show V g p l e ({ frames := 1, cells := 3, slots := 903, locals := 40 * 1 } : Room) s m args below meth c9 1 0 0 (MQ below (gQI g c 4 M) args s 3 903 (gA g)) 0 [(0, .ref h0a)] [] M
  have s0 : (shp c).1 = 9 := (hS.get (j := 0) rfl).1
  have s1 : (shp c).2.1 = 4 := (hS.get (j := 0) rfl).2.1
  have B0 := BldX.start hok hcL hd hle
  refine v_aload_n F dX9_init_0 rfl 0 rfl ?_
  refine v_objInit F (List.mem_cons_of_mem _ ml_X9_3) (List.mem_cons_of_mem _ im_obj) (List.mem_cons_of_mem _ cd_obj) dX9_init_1 (Nat.le_of_ble_eq_true rfl) (Nat.le_of_ble_eq_true rfl) ?_
  refine v_aload_n F dX9_init_4 rfl 0 rfl ?_
  refine v_sipush (v := 301) F dX9_init_5 (by decide) ?_
  refine v_newI (b := c + 1) F (List.mem_cons_of_mem _ ac_int) (B0.nin (Nat.le_refl _)) (hS.get (j := 1) rfl).1 (by decide) ((hS.get (j := 1) rfl).2.1.symm ▸ (by decide)) (by rw [(hS.get (j := 1) rfl).2.1]; decide) (Nat.le_of_ble_eq_true rfl) (by rw [(hS.get (j := 1) rfl).2.1]; decide) dX9_init_8 (fun q0 hok0 => ?_)
  rw [mZ_id (hZ0 (c + 1) (Nat.le_refl _)), (hS.get (j := 1) rfl).2.1]
  have B1 : BldX g (gNewA g (c + 1) q0) c (c + 2) [] [] := B0.newA hok0
  have F1 := B1.fx F
  refine v_fldR (k := 0) (x := c + 1) (ty := (.array .int)) B1 F1 he0 (if_pos rfl) (by omega) (by omega) s0 s1 ((hS.get (j := 0) rfl).2.2 0) (by decide) (inc inU_9) tyX9 tyX9_ok nmX9 rfl (by decide) (List.mem_cons_of_mem _ fl_X9_9) rfl rfl hin rfl (by decide +kernel) rfl rfl dX9_init_10 (fun g1p B1p F1p _ => ?_)
  refine v_aload_n F1p dX9_init_13 rfl 0 rfl ?_
  refine v_sipush (v := 301) F1p dX9_init_14 (by decide) ?_
  refine v_newI (b := c + 2) F1p (List.mem_cons_of_mem _ ac_int) (B1p.nin (Nat.le_refl _)) (hS.get (j := 2) rfl).1 (by decide) ((hS.get (j := 2) rfl).2.1.symm ▸ (by decide)) (by rw [(hS.get (j := 2) rfl).2.1]; decide) (Nat.le_of_ble_eq_true rfl) (by rw [(hS.get (j := 2) rfl).2.1]; decide) dX9_init_17 (fun q1 hok1 => ?_)
  rw [mZ_id (hZ1 (c + 2) (Nat.le_refl _)), (hS.get (j := 2) rfl).2.1]
  have B2 : BldX g (gNewA g1p (c + 2) q1) c (c + 3) [] [(c, 0)] := B1p.newA hok1
  have F2 := B2.fx F
  refine v_fldR (k := 1) (x := c + 2) (ty := (.array .int)) B2 F2 he0 (if_pos rfl) (by omega) (by omega) s0 s1 ((hS.get (j := 0) rfl).2.2 1) (by decide) (inc inU_9) tyX9 tyX9_ok nmX9 rfl (by decide) (List.mem_cons_of_mem _ fl_X9_15) rfl rfl hin rfl (by decide +kernel) rfl rfl dX9_init_19 (fun g2p B2p F2p _ => ?_)
  refine v_aload_n F2p dX9_init_22 rfl 0 rfl ?_
  refine v_sipush (v := 301) F2p dX9_init_23 (by decide) ?_
  refine v_newI (b := c + 3) F2p (List.mem_cons_of_mem _ ac_int) (B2p.nin (Nat.le_refl _)) (hS.get (j := 3) rfl).1 (by decide) ((hS.get (j := 3) rfl).2.1.symm ▸ (by decide)) (by rw [(hS.get (j := 3) rfl).2.1]; decide) (Nat.le_of_ble_eq_true rfl) (by rw [(hS.get (j := 3) rfl).2.1]; decide) dX9_init_26 (fun q2 hok2 => ?_)
  rw [mZ_id (hZ2 (c + 3) (Nat.le_refl _)), (hS.get (j := 3) rfl).2.1]
  have B3 : BldX g (gNewA g2p (c + 3) q2) c (c + 4) [] [(c, 1), (c, 0)] := B2p.newA hok2
  have F3 := B3.fx F
  refine v_fldR (k := 2) (x := c + 3) (ty := (.array .int)) B3 F3 he0 (if_pos rfl) (by omega) (by omega) s0 s1 ((hS.get (j := 0) rfl).2.2 2) (by decide) (inc inU_9) tyX9 tyX9_ok nmX9 rfl (by decide) (List.mem_cons_of_mem _ fl_X9_18) rfl rfl hin rfl (by decide +kernel) rfl rfl dX9_init_28 (fun g3p B3p F3p _ => ?_)
  have hx := B3p.done (by rw [s0]; decide) (by rw [s0, s1]; rfl) (fun k9 f hf => by
    rw [s0] at hf
    match k9, hf with
    | 0, hf => cases hf; rw [if_neg (by decide)]; exact ⟨c + 1, (hS.get (j := 0) rfl).2.2 0, (List.mem_of_getElem? (i := 2) rfl), by omega, by omega, (hS.get (j := 1) rfl).1⟩
    | 1, hf => cases hf; rw [if_neg (by decide)]; exact ⟨c + 2, (hS.get (j := 0) rfl).2.2 1, (List.mem_of_getElem? (i := 1) rfl), by omega, by omega, (hS.get (j := 2) rfl).1⟩
    | 2, hf => cases hf; rw [if_neg (by decide)]; exact ⟨c + 3, (hS.get (j := 0) rfl).2.2 2, (List.mem_of_getElem? (i := 0) rfl), by omega, by omega, (hS.get (j := 3) rfl).1⟩
    | 3, hf => cases hf; rw [if_pos rfl]; exact (hS.get (j := 0) rfl).2.2 3
    | k9 + 4, hf => cases hf) 4 rfl
  refine v_done (b := c) ?_
  exact v_vretI (F3p.grow rfl rfl rfl rfl hx.2.2.2.2.2.2.1) hx hr hlk dX9_init_31
abbrev S6 : List (Nat × Nat × List (Option Nat)) := [(6, 9, [some 1, none, none, none, some 3, none, none, none, none]), (8, 1, [some 2]), (12, 300, []), (9, 4, [some 4, some 5, some 6, none]), (12, 301, []), (12, 301, []), (12, 301, [])]
abbrev uX6_init : List Cond := Cond.code yX6_init cX6_init 1 none :: uT
set_option maxHeartbeats 4000000 in
set_option maxRecDepth 100000 in
theorem mp_Reader (l : Launch) : MkP l yX6_init uX6_init 2 6 1208 7 S6 [] (PZ 7) := by
  intro c M hS hZ
  have hZ0 : ∀ a, c + 1 ≤ a → M a = fun _ => 0 := fun a h => hZ a (by omega)
  obtain ⟨M1, hP1, hr1, hc1⟩ := (mp_Row l (N := 300) (n := 300) rfl (by decide)) (c + 1) M (hS.sub (j := 1) (by decide +kernel)) (fun a h => hZ0 a h)
  have hM1 := (mp_eq hP1 hr1 (fun a h => hZ0 a h)).symm; subst hM1
  have hZ1 : ∀ a, c + 3 ≤ a → M a = fun _ => 0 := fun a h => hZ0 a (by omega)
  obtain ⟨M2, hP2, hr2, hc2⟩ := (mp_Tokens l) (c + 3) M (hS.sub (j := 3) (by decide +kernel)) (fun a h => hZ1 a h)
  have hM2 := (mp_eq hP2 hr2 (fun a h => hZ1 a h)).symm; subst hM2
  have hZ2 : ∀ a, c + 7 ≤ a → M a = fun _ => 0 := fun a h => hZ1 a (by omega)
  refine ⟨M, fun a h1 _ => hZ a h1, fun _ _ => rfl, fun g hok hcL hd hle => ?_⟩
  refine CnI.of (cc := cX6_init) (maxL := 1) (ret := none) hok (by decide) rfl (Nat.le_of_ble_eq_true rfl) rfl (fun p e s m args below meth c9 F hr hlk hin => ?_)
  generalize he0 : gAd g c = h0a
  show V g p l e ({ frames := 2, cells := 6, slots := 1208, locals := 40 * 2 } : Room) s m args below meth c9 1 0 0 (MQ below (gQI g c 7 M) args s 6 1208 (gA g)) 0 [(0, .ref h0a)] [] M
  have s0 : (shp c).1 = 6 := (hS.get (j := 0) rfl).1
  have s1 : (shp c).2.1 = 9 := (hS.get (j := 0) rfl).2.1
  have B0 := BldX.start hok hcL hd hle
  refine v_aload_n F dX6_init_0 rfl 0 rfl ?_
  refine v_objInit F (List.mem_cons_of_mem _ ml_X6_3) (List.mem_cons_of_mem _ im_obj) (List.mem_cons_of_mem _ cd_obj) dX6_init_1 (Nat.le_of_ble_eq_true rfl) (Nat.le_of_ble_eq_true rfl) ?_
  refine v_aload_n F dX6_init_4 rfl 0 rfl ?_
  refine v_newO (b := c + 1) (S := (rowS 300)) F (hS.sub (j := 1) (by decide +kernel)) rfl tyX8 tyX8_ok (inc inU_8) rfl (List.mem_cons_of_mem _ cl_X6_9) (List.mem_cons_of_mem _ it_X8) (List.mem_cons_of_mem _ ini_X8) (B0.nin (Nat.le_refl _)) (by decide) (by decide) (by intro j hj; rcases (show j = 0 by omega) with rfl <;> rfl) (Nat.le_of_ble_eq_true rfl) (Nat.le_of_ble_eq_true rfl) dX6_init_5 (fun q0 hok0 => ?_)
  rw [mZ_id (hZ0 (c + 1) (Nat.le_refl _))]
  have G0 := F.grow (g' := gNew g (c + 1) q0) rfl rfl rfl rfl hok0
  refine v_dup G0 dX6_init_8 rfl ?_
  refine v_sipush (v := 300) G0 dX6_init_9 (by decide) ?_
  refine v_made B0 hc1 (by decide) hok0 F (rest' := [.ref q0, .ref h0a]) (fun hM kk => v_callI (As := [.int 300]) (rest := [.ref q0, .ref h0a]) G0 hM (cwI 1 F.1.2.2.2.2 (gU_0 cd_X8i) rfl rfl rfl (F.1.2.2.2.2 _ (List.mem_cons_of_mem _ ini_X8)) (F.1.2.2.2.2 _ (List.mem_cons_of_mem _ ml_X6_11)) (F.1.2.2.2.2 _ (List.mem_cons_of_mem _ im_yX8_init)) rfl (by decide +kernel) ⟨Nat.le_of_ble_eq_true rfl, Nat.le_of_ble_eq_true rfl⟩) rfl (by rw [show gAd (gNew g (c + 1) q0) (c + 1) = q0 from if_pos rfl]; rfl) (Nat.le_of_ble_eq_true rfl) dX6_init_12 ⟨Nat.le_of_ble_eq_true rfl, Nat.le_of_ble_eq_true rfl⟩ kk) (fun g1 B1 F1 ea1 => ?_)
  have B1 : BldX g g1 c (c + 3) [] [] := B1
  refine v_fldR (k := 0) (x := c + 1) (ty := (.object "GallopRoads$Row")) B1 F1 he0 ea1 (by omega) (by omega) s0 s1 ((hS.get (j := 0) rfl).2.2 0) (by decide) (inc inU_6) tyX6 tyX6_ok nmX6 rfl (by decide) (List.mem_cons_of_mem _ fl_X6_14) rfl rfl hin rfl (by decide +kernel) rfl rfl dX6_init_15 (fun g1p B1p F1p _ => ?_)
  refine v_aload_n F1p dX6_init_18 rfl 0 rfl ?_
  refine v_newO (b := c + 3) (S := S9) F1p (hS.sub (j := 3) (by decide +kernel)) rfl tyX9 tyX9_ok (inc inU_9) rfl (List.mem_cons_of_mem _ cl_X6_20) (List.mem_cons_of_mem _ it_X9) (List.mem_cons_of_mem _ ini_X9) (B1p.nin (Nat.le_refl _)) (by decide) (by decide) (by intro j hj; rcases (show j = 0 ∨ j = 1 ∨ j = 2 ∨ j = 3 by omega) with rfl | rfl | rfl | rfl <;> rfl) (Nat.le_of_ble_eq_true rfl) (Nat.le_of_ble_eq_true rfl) dX6_init_19 (fun q1 hok1 => ?_)
  rw [mZ_id (hZ1 (c + 3) (Nat.le_refl _))]
  have G1 := F1p.grow (g' := gNew g1p (c + 3) q1) rfl rfl rfl rfl hok1
  refine v_dup G1 dX6_init_22 rfl ?_
  refine v_made B1p hc2 (by decide) hok1 F (rest' := [.ref q1, .ref h0a]) (fun hM kk => v_callIN (As := []) (rest := [.ref q1, .ref h0a]) G1 hM ⟨va_cnB (host := RX10) 0 F.1.2.2.2.2 (gU_0 cd_X9_init) rfl rfl rfl (F.2.2.2.2.1 _ (by decide +kernel)) (F.1.2.2.2.2 _ (List.mem_cons_of_mem _ ini_X9)) (by decide +kernel) ⟨Nat.le_of_ble_eq_true rfl, Nat.le_of_ble_eq_true rfl⟩, rfl, F.1.2.2.2.2 _ (List.mem_cons_of_mem _ im_yX9_init)⟩ rfl (by rw [show gAd (gNew g1p (c + 3) q1) (c + 3) = q1 from if_pos rfl]; rfl) (Nat.le_of_ble_eq_true rfl) dX6_init_23 ⟨Nat.le_of_ble_eq_true rfl, Nat.le_of_ble_eq_true rfl⟩ kk) (fun g2 B2 F2 ea2 => ?_)
  have B2 : BldX g g2 c (c + 7) [] [(c, 0)] := B2
  refine v_fldR (k := 4) (x := c + 3) (ty := (.object "GallopRoads$Tokens")) B2 F2 he0 ea2 (by omega) (by omega) s0 s1 ((hS.get (j := 0) rfl).2.2 4) (by decide) (inc inU_6) tyX6 tyX6_ok nmX6 rfl (by decide) (List.mem_cons_of_mem _ fl_X6_23) rfl rfl hin rfl (by decide +kernel) rfl rfl dX6_init_26 (fun g2p B2p F2p _ => ?_)
  have hx := B2p.done (by rw [s0]; decide) (by rw [s0, s1]; rfl) (fun k9 f hf => by
    rw [s0] at hf
    match k9, hf with
    | 0, hf => cases hf; rw [if_neg (by decide)]; exact ⟨c + 1, (hS.get (j := 0) rfl).2.2 0, (List.mem_of_getElem? (i := 1) rfl), by omega, by omega, (hS.get (j := 1) rfl).1⟩
    | 1, hf => cases hf; rw [if_pos rfl]; exact (hS.get (j := 0) rfl).2.2 1
    | 2, hf => cases hf; rw [if_pos rfl]; exact (hS.get (j := 0) rfl).2.2 2
    | 3, hf => cases hf; rw [if_pos rfl]; exact (hS.get (j := 0) rfl).2.2 3
    | 4, hf => cases hf; rw [if_neg (by decide)]; exact ⟨c + 3, (hS.get (j := 0) rfl).2.2 4, (List.mem_of_getElem? (i := 0) rfl), by omega, by omega, (hS.get (j := 3) rfl).1⟩
    | 5, hf => cases hf; rw [if_pos rfl]; exact (hS.get (j := 0) rfl).2.2 5
    | 6, hf => cases hf; rw [if_pos rfl]; exact (hS.get (j := 0) rfl).2.2 6
    | 7, hf => cases hf; rw [if_pos rfl]; exact (hS.get (j := 0) rfl).2.2 7
    | 8, hf => cases hf; rw [if_pos rfl]; exact (hS.get (j := 0) rfl).2.2 8
    | k9 + 9, hf => cases hf) 7 rfl
  refine v_done (b := c) ?_
  exact v_vretI (F2p.grow rfl rfl rfl rfl hx.2.2.2.2.2.2.1) hx hr hlk dX6_init_29
abbrev S2 : List (Nat × Nat × List (Option Nat)) := [(2, 5, [none, some 1, some 3, some 5, some 7]), (8, 1, [some 2]), (12, 20, []), (8, 1, [some 4]), (12, 20, []), (8, 1, [some 6]), (12, 20, []), (8, 1, [some 8]), (12, 20, [])]
abbrev uX2_init : List Cond := Cond.code yX2_init cX2_init 1 none :: uT
set_option maxHeartbeats 4000000 in
set_option maxRecDepth 100000 in
theorem mp_Film (l : Launch) : MkP l yX2_init uX2_init 2 8 84 9 S2 [] (PZ 9) := by
  intro c M hS hZ
  have hZ0 : ∀ a, c + 1 ≤ a → M a = fun _ => 0 := fun a h => hZ a (by omega)
  obtain ⟨M1, hP1, hr1, hc1⟩ := (mp_Row l (N := 20) (n := 20) rfl (by decide)) (c + 1) M (hS.sub (j := 1) (by decide +kernel)) (fun a h => hZ0 a h)
  have hM1 := (mp_eq hP1 hr1 (fun a h => hZ0 a h)).symm; subst hM1
  have hZ1 : ∀ a, c + 3 ≤ a → M a = fun _ => 0 := fun a h => hZ0 a (by omega)
  obtain ⟨M2, hP2, hr2, hc2⟩ := (mp_Row l (N := 20) (n := 20) rfl (by decide)) (c + 3) M (hS.sub (j := 3) (by decide +kernel)) (fun a h => hZ1 a h)
  have hM2 := (mp_eq hP2 hr2 (fun a h => hZ1 a h)).symm; subst hM2
  have hZ2 : ∀ a, c + 5 ≤ a → M a = fun _ => 0 := fun a h => hZ1 a (by omega)
  obtain ⟨M3, hP3, hr3, hc3⟩ := (mp_Row l (N := 20) (n := 20) rfl (by decide)) (c + 5) M (hS.sub (j := 5) (by decide +kernel)) (fun a h => hZ2 a h)
  have hM3 := (mp_eq hP3 hr3 (fun a h => hZ2 a h)).symm; subst hM3
  have hZ3 : ∀ a, c + 7 ≤ a → M a = fun _ => 0 := fun a h => hZ2 a (by omega)
  obtain ⟨M4, hP4, hr4, hc4⟩ := (mp_Row l (N := 20) (n := 20) rfl (by decide)) (c + 7) M (hS.sub (j := 7) (by decide +kernel)) (fun a h => hZ3 a h)
  have hM4 := (mp_eq hP4 hr4 (fun a h => hZ3 a h)).symm; subst hM4
  have hZ4 : ∀ a, c + 9 ≤ a → M a = fun _ => 0 := fun a h => hZ3 a (by omega)
  refine ⟨M, fun a h1 _ => hZ a h1, fun _ _ => rfl, fun g hok hcL hd hle => ?_⟩
  refine CnI.of (cc := cX2_init) (maxL := 1) (ret := none) hok (by decide) rfl (Nat.le_of_ble_eq_true rfl) rfl (fun p e s m args below meth c9 F hr hlk hin => ?_)
  generalize he0 : gAd g c = h0a
  show V g p l e ({ frames := 2, cells := 8, slots := 84, locals := 40 * 2 } : Room) s m args below meth c9 1 0 0 (MQ below (gQI g c 9 M) args s 8 84 (gA g)) 0 [(0, .ref h0a)] [] M
  have s0 : (shp c).1 = 2 := (hS.get (j := 0) rfl).1
  have s1 : (shp c).2.1 = 5 := (hS.get (j := 0) rfl).2.1
  have B0 := BldX.start hok hcL hd hle
  refine v_aload_n F dX2_init_0 rfl 0 rfl ?_
  refine v_objInit F (List.mem_cons_of_mem _ ml_X2_3) (List.mem_cons_of_mem _ im_obj) (List.mem_cons_of_mem _ cd_obj) dX2_init_1 (Nat.le_of_ble_eq_true rfl) (Nat.le_of_ble_eq_true rfl) ?_
  refine v_aload_n F dX2_init_4 rfl 0 rfl ?_
  refine v_newO (b := c + 1) (S := (rowS 20)) F (hS.sub (j := 1) (by decide +kernel)) rfl tyX8 tyX8_ok (inc inU_8) rfl (List.mem_cons_of_mem _ cl_X2_9) (List.mem_cons_of_mem _ it_X8) (List.mem_cons_of_mem _ ini_X8) (B0.nin (Nat.le_refl _)) (by decide) (by decide) (by intro j hj; rcases (show j = 0 by omega) with rfl <;> rfl) (Nat.le_of_ble_eq_true rfl) (Nat.le_of_ble_eq_true rfl) dX2_init_5 (fun q0 hok0 => ?_)
  rw [mZ_id (hZ0 (c + 1) (Nat.le_refl _))]
  have G0 := F.grow (g' := gNew g (c + 1) q0) rfl rfl rfl rfl hok0
  refine v_dup G0 dX2_init_8 rfl ?_
  refine v_bipush (v := 20) G0 dX2_init_9 (by decide) ?_
  refine v_made B0 hc1 (by decide) hok0 F (rest' := [.ref q0, .ref h0a]) (fun hM kk => v_callI (As := [.int 20]) (rest := [.ref q0, .ref h0a]) G0 hM (cwI 1 F.1.2.2.2.2 (gU_0 cd_X8i) rfl rfl rfl (F.1.2.2.2.2 _ (List.mem_cons_of_mem _ ini_X8)) (F.1.2.2.2.2 _ (List.mem_cons_of_mem _ ml_X2_13)) (F.1.2.2.2.2 _ (List.mem_cons_of_mem _ im_yX8_init)) rfl (by decide +kernel) ⟨Nat.le_of_ble_eq_true rfl, Nat.le_of_ble_eq_true rfl⟩) rfl (by rw [show gAd (gNew g (c + 1) q0) (c + 1) = q0 from if_pos rfl]; rfl) (Nat.le_of_ble_eq_true rfl) dX2_init_11 ⟨Nat.le_of_ble_eq_true rfl, Nat.le_of_ble_eq_true rfl⟩ kk) (fun g1 B1 F1 ea1 => ?_)
  have B1 : BldX g g1 c (c + 3) [] [] := B1
  refine v_fldR (k := 1) (x := c + 1) (ty := (.object "GallopRoads$Row")) B1 F1 he0 ea1 (by omega) (by omega) s0 s1 ((hS.get (j := 0) rfl).2.2 1) (by decide) (inc inU_2) tyX2 tyX2_ok nmX2 rfl (by decide) (List.mem_cons_of_mem _ fl_X2_16) rfl rfl hin rfl (by decide +kernel) rfl rfl dX2_init_14 (fun g1p B1p F1p _ => ?_)
  refine v_aload_n F1p dX2_init_17 rfl 0 rfl ?_
  refine v_newO (b := c + 3) (S := (rowS 20)) F1p (hS.sub (j := 3) (by decide +kernel)) rfl tyX8 tyX8_ok (inc inU_8) rfl (List.mem_cons_of_mem _ cl_X2_9) (List.mem_cons_of_mem _ it_X8) (List.mem_cons_of_mem _ ini_X8) (B1p.nin (Nat.le_refl _)) (by decide) (by decide) (by intro j hj; rcases (show j = 0 by omega) with rfl <;> rfl) (Nat.le_of_ble_eq_true rfl) (Nat.le_of_ble_eq_true rfl) dX2_init_18 (fun q1 hok1 => ?_)
  rw [mZ_id (hZ1 (c + 3) (Nat.le_refl _))]
  have G1 := F1p.grow (g' := gNew g1p (c + 3) q1) rfl rfl rfl rfl hok1
  refine v_dup G1 dX2_init_21 rfl ?_
  refine v_bipush (v := 20) G1 dX2_init_22 (by decide) ?_
  refine v_made B1p hc2 (by decide) hok1 F (rest' := [.ref q1, .ref h0a]) (fun hM kk => v_callI (As := [.int 20]) (rest := [.ref q1, .ref h0a]) G1 hM (cwI 1 F.1.2.2.2.2 (gU_0 cd_X8i) rfl rfl rfl (F.1.2.2.2.2 _ (List.mem_cons_of_mem _ ini_X8)) (F.1.2.2.2.2 _ (List.mem_cons_of_mem _ ml_X2_13)) (F.1.2.2.2.2 _ (List.mem_cons_of_mem _ im_yX8_init)) rfl (by decide +kernel) ⟨Nat.le_of_ble_eq_true rfl, Nat.le_of_ble_eq_true rfl⟩) rfl (by rw [show gAd (gNew g1p (c + 3) q1) (c + 3) = q1 from if_pos rfl]; rfl) (Nat.le_of_ble_eq_true rfl) dX2_init_24 ⟨Nat.le_of_ble_eq_true rfl, Nat.le_of_ble_eq_true rfl⟩ kk) (fun g2 B2 F2 ea2 => ?_)
  have B2 : BldX g g2 c (c + 5) [] [(c, 1)] := B2
  refine v_fldR (k := 2) (x := c + 3) (ty := (.object "GallopRoads$Row")) B2 F2 he0 ea2 (by omega) (by omega) s0 s1 ((hS.get (j := 0) rfl).2.2 2) (by decide) (inc inU_2) tyX2 tyX2_ok nmX2 rfl (by decide) (List.mem_cons_of_mem _ fl_X2_20) rfl rfl hin rfl (by decide +kernel) rfl rfl dX2_init_27 (fun g2p B2p F2p _ => ?_)
  refine v_aload_n F2p dX2_init_30 rfl 0 rfl ?_
  refine v_newO (b := c + 5) (S := (rowS 20)) F2p (hS.sub (j := 5) (by decide +kernel)) rfl tyX8 tyX8_ok (inc inU_8) rfl (List.mem_cons_of_mem _ cl_X2_9) (List.mem_cons_of_mem _ it_X8) (List.mem_cons_of_mem _ ini_X8) (B2p.nin (Nat.le_refl _)) (by decide) (by decide) (by intro j hj; rcases (show j = 0 by omega) with rfl <;> rfl) (Nat.le_of_ble_eq_true rfl) (Nat.le_of_ble_eq_true rfl) dX2_init_31 (fun q2 hok2 => ?_)
  rw [mZ_id (hZ2 (c + 5) (Nat.le_refl _))]
  have G2 := F2p.grow (g' := gNew g2p (c + 5) q2) rfl rfl rfl rfl hok2
  refine v_dup G2 dX2_init_34 rfl ?_
  refine v_bipush (v := 20) G2 dX2_init_35 (by decide) ?_
  refine v_made B2p hc3 (by decide) hok2 F (rest' := [.ref q2, .ref h0a]) (fun hM kk => v_callI (As := [.int 20]) (rest := [.ref q2, .ref h0a]) G2 hM (cwI 1 F.1.2.2.2.2 (gU_0 cd_X8i) rfl rfl rfl (F.1.2.2.2.2 _ (List.mem_cons_of_mem _ ini_X8)) (F.1.2.2.2.2 _ (List.mem_cons_of_mem _ ml_X2_13)) (F.1.2.2.2.2 _ (List.mem_cons_of_mem _ im_yX8_init)) rfl (by decide +kernel) ⟨Nat.le_of_ble_eq_true rfl, Nat.le_of_ble_eq_true rfl⟩) rfl (by rw [show gAd (gNew g2p (c + 5) q2) (c + 5) = q2 from if_pos rfl]; rfl) (Nat.le_of_ble_eq_true rfl) dX2_init_37 ⟨Nat.le_of_ble_eq_true rfl, Nat.le_of_ble_eq_true rfl⟩ kk) (fun g3 B3 F3 ea3 => ?_)
  have B3 : BldX g g3 c (c + 7) [] [(c, 2), (c, 1)] := B3
  refine v_fldR (k := 3) (x := c + 5) (ty := (.object "GallopRoads$Row")) B3 F3 he0 ea3 (by omega) (by omega) s0 s1 ((hS.get (j := 0) rfl).2.2 3) (by decide) (inc inU_2) tyX2 tyX2_ok nmX2 rfl (by decide) (List.mem_cons_of_mem _ fl_X2_23) rfl rfl hin rfl (by decide +kernel) rfl rfl dX2_init_40 (fun g3p B3p F3p _ => ?_)
  refine v_aload_n F3p dX2_init_43 rfl 0 rfl ?_
  refine v_newO (b := c + 7) (S := (rowS 20)) F3p (hS.sub (j := 7) (by decide +kernel)) rfl tyX8 tyX8_ok (inc inU_8) rfl (List.mem_cons_of_mem _ cl_X2_9) (List.mem_cons_of_mem _ it_X8) (List.mem_cons_of_mem _ ini_X8) (B3p.nin (Nat.le_refl _)) (by decide) (by decide) (by intro j hj; rcases (show j = 0 by omega) with rfl <;> rfl) (Nat.le_of_ble_eq_true rfl) (Nat.le_of_ble_eq_true rfl) dX2_init_44 (fun q3 hok3 => ?_)
  rw [mZ_id (hZ3 (c + 7) (Nat.le_refl _))]
  have G3 := F3p.grow (g' := gNew g3p (c + 7) q3) rfl rfl rfl rfl hok3
  refine v_dup G3 dX2_init_47 rfl ?_
  refine v_bipush (v := 20) G3 dX2_init_48 (by decide) ?_
  refine v_made B3p hc4 (by decide) hok3 F (rest' := [.ref q3, .ref h0a]) (fun hM kk => v_callI (As := [.int 20]) (rest := [.ref q3, .ref h0a]) G3 hM (cwI 1 F.1.2.2.2.2 (gU_0 cd_X8i) rfl rfl rfl (F.1.2.2.2.2 _ (List.mem_cons_of_mem _ ini_X8)) (F.1.2.2.2.2 _ (List.mem_cons_of_mem _ ml_X2_13)) (F.1.2.2.2.2 _ (List.mem_cons_of_mem _ im_yX8_init)) rfl (by decide +kernel) ⟨Nat.le_of_ble_eq_true rfl, Nat.le_of_ble_eq_true rfl⟩) rfl (by rw [show gAd (gNew g3p (c + 7) q3) (c + 7) = q3 from if_pos rfl]; rfl) (Nat.le_of_ble_eq_true rfl) dX2_init_50 ⟨Nat.le_of_ble_eq_true rfl, Nat.le_of_ble_eq_true rfl⟩ kk) (fun g4 B4 F4 ea4 => ?_)
  have B4 : BldX g g4 c (c + 9) [] [(c, 3), (c, 2), (c, 1)] := B4
  refine v_fldR (k := 4) (x := c + 7) (ty := (.object "GallopRoads$Row")) B4 F4 he0 ea4 (by omega) (by omega) s0 s1 ((hS.get (j := 0) rfl).2.2 4) (by decide) (inc inU_2) tyX2 tyX2_ok nmX2 rfl (by decide) (List.mem_cons_of_mem _ fl_X2_26) rfl rfl hin rfl (by decide +kernel) rfl rfl dX2_init_53 (fun g4p B4p F4p _ => ?_)
  have hx := B4p.done (by rw [s0]; decide) (by rw [s0, s1]; rfl) (fun k9 f hf => by
    rw [s0] at hf
    match k9, hf with
    | 0, hf => cases hf; rw [if_pos rfl]; exact (hS.get (j := 0) rfl).2.2 0
    | 1, hf => cases hf; rw [if_neg (by decide)]; exact ⟨c + 1, (hS.get (j := 0) rfl).2.2 1, (List.mem_of_getElem? (i := 3) rfl), by omega, by omega, (hS.get (j := 1) rfl).1⟩
    | 2, hf => cases hf; rw [if_neg (by decide)]; exact ⟨c + 3, (hS.get (j := 0) rfl).2.2 2, (List.mem_of_getElem? (i := 2) rfl), by omega, by omega, (hS.get (j := 3) rfl).1⟩
    | 3, hf => cases hf; rw [if_neg (by decide)]; exact ⟨c + 5, (hS.get (j := 0) rfl).2.2 3, (List.mem_of_getElem? (i := 1) rfl), by omega, by omega, (hS.get (j := 5) rfl).1⟩
    | 4, hf => cases hf; rw [if_neg (by decide)]; exact ⟨c + 7, (hS.get (j := 0) rfl).2.2 4, (List.mem_of_getElem? (i := 0) rfl), by omega, by omega, (hS.get (j := 7) rfl).1⟩
    | k9 + 5, hf => cases hf) 9 rfl
  refine v_done (b := c) ?_
  exact v_vretI (F4p.grow rfl rfl rfl rfl hx.2.2.2.2.2.2.1) hx hr hlk dX2_init_56
abbrev S4 : List (Nat × Nat × List (Option Nat)) := [(4, 4, [none, some 1, some 3, some 5]), (8, 1, [some 2]), (12, 5, []), (8, 1, [some 4]), (12, 5, []), (8, 1, [some 6]), (12, 5, [])]
abbrev uX4_init : List Cond := Cond.code yX4_init cX4_init 1 none :: uT
set_option maxHeartbeats 4000000 in
set_option maxRecDepth 100000 in
theorem mp_Mends (l : Launch) : MkP l yX4_init uX4_init 2 6 18 7 S4 [] (PZ 7) := by
  intro c M hS hZ
  have hZ0 : ∀ a, c + 1 ≤ a → M a = fun _ => 0 := fun a h => hZ a (by omega)
  obtain ⟨M1, hP1, hr1, hc1⟩ := (mp_Row l (N := 5) (n := 5) rfl (by decide)) (c + 1) M (hS.sub (j := 1) (by decide +kernel)) (fun a h => hZ0 a h)
  have hM1 := (mp_eq hP1 hr1 (fun a h => hZ0 a h)).symm; subst hM1
  have hZ1 : ∀ a, c + 3 ≤ a → M a = fun _ => 0 := fun a h => hZ0 a (by omega)
  obtain ⟨M2, hP2, hr2, hc2⟩ := (mp_Row l (N := 5) (n := 5) rfl (by decide)) (c + 3) M (hS.sub (j := 3) (by decide +kernel)) (fun a h => hZ1 a h)
  have hM2 := (mp_eq hP2 hr2 (fun a h => hZ1 a h)).symm; subst hM2
  have hZ2 : ∀ a, c + 5 ≤ a → M a = fun _ => 0 := fun a h => hZ1 a (by omega)
  obtain ⟨M3, hP3, hr3, hc3⟩ := (mp_Row l (N := 5) (n := 5) rfl (by decide)) (c + 5) M (hS.sub (j := 5) (by decide +kernel)) (fun a h => hZ2 a h)
  have hM3 := (mp_eq hP3 hr3 (fun a h => hZ2 a h)).symm; subst hM3
  have hZ3 : ∀ a, c + 7 ≤ a → M a = fun _ => 0 := fun a h => hZ2 a (by omega)
  refine ⟨M, fun a h1 _ => hZ a h1, fun _ _ => rfl, fun g hok hcL hd hle => ?_⟩
  refine CnI.of (cc := cX4_init) (maxL := 1) (ret := none) hok (by decide) rfl (Nat.le_of_ble_eq_true rfl) rfl (fun p e s m args below meth c9 F hr hlk hin => ?_)
  generalize he0 : gAd g c = h0a
  show V g p l e ({ frames := 2, cells := 6, slots := 18, locals := 40 * 2 } : Room) s m args below meth c9 1 0 0 (MQ below (gQI g c 7 M) args s 6 18 (gA g)) 0 [(0, .ref h0a)] [] M
  have s0 : (shp c).1 = 4 := (hS.get (j := 0) rfl).1
  have s1 : (shp c).2.1 = 4 := (hS.get (j := 0) rfl).2.1
  have B0 := BldX.start hok hcL hd hle
  refine v_aload_n F dX4_init_0 rfl 0 rfl ?_
  refine v_objInit F (List.mem_cons_of_mem _ ml_X4_1) (List.mem_cons_of_mem _ im_obj) (List.mem_cons_of_mem _ cd_obj) dX4_init_1 (Nat.le_of_ble_eq_true rfl) (Nat.le_of_ble_eq_true rfl) ?_
  refine v_aload_n F dX4_init_4 rfl 0 rfl ?_
  refine v_newO (b := c + 1) (S := (rowS 5)) F (hS.sub (j := 1) (by decide +kernel)) rfl tyX8 tyX8_ok (inc inU_8) rfl (List.mem_cons_of_mem _ cl_X4_7) (List.mem_cons_of_mem _ it_X8) (List.mem_cons_of_mem _ ini_X8) (B0.nin (Nat.le_refl _)) (by decide) (by decide) (by intro j hj; rcases (show j = 0 by omega) with rfl <;> rfl) (Nat.le_of_ble_eq_true rfl) (Nat.le_of_ble_eq_true rfl) dX4_init_5 (fun q0 hok0 => ?_)
  rw [mZ_id (hZ0 (c + 1) (Nat.le_refl _))]
  have G0 := F.grow (g' := gNew g (c + 1) q0) rfl rfl rfl rfl hok0
  refine v_dup G0 dX4_init_8 rfl ?_
  refine v_iconst (v := 5) G0 dX4_init_9 (by decide) ?_
  refine v_made B0 hc1 (by decide) hok0 F (rest' := [.ref q0, .ref h0a]) (fun hM kk => v_callI (As := [.int 5]) (rest := [.ref q0, .ref h0a]) G0 hM (cwI 1 F.1.2.2.2.2 (gU_0 cd_X8i) rfl rfl rfl (F.1.2.2.2.2 _ (List.mem_cons_of_mem _ ini_X8)) (F.1.2.2.2.2 _ (List.mem_cons_of_mem _ ml_X4_11)) (F.1.2.2.2.2 _ (List.mem_cons_of_mem _ im_yX8_init)) rfl (by decide +kernel) ⟨Nat.le_of_ble_eq_true rfl, Nat.le_of_ble_eq_true rfl⟩) rfl (by rw [show gAd (gNew g (c + 1) q0) (c + 1) = q0 from if_pos rfl]; rfl) (Nat.le_of_ble_eq_true rfl) dX4_init_10 ⟨Nat.le_of_ble_eq_true rfl, Nat.le_of_ble_eq_true rfl⟩ kk) (fun g1 B1 F1 ea1 => ?_)
  have B1 : BldX g g1 c (c + 3) [] [] := B1
  refine v_fldR (k := 1) (x := c + 1) (ty := (.object "GallopRoads$Row")) B1 F1 he0 ea1 (by omega) (by omega) s0 s1 ((hS.get (j := 0) rfl).2.2 1) (by decide) (inc inU_4) tyX4 tyX4_ok nmX4 rfl (by decide) (List.mem_cons_of_mem _ fl_X4_14) rfl rfl hin rfl (by decide +kernel) rfl rfl dX4_init_13 (fun g1p B1p F1p _ => ?_)
  refine v_aload_n F1p dX4_init_16 rfl 0 rfl ?_
  refine v_newO (b := c + 3) (S := (rowS 5)) F1p (hS.sub (j := 3) (by decide +kernel)) rfl tyX8 tyX8_ok (inc inU_8) rfl (List.mem_cons_of_mem _ cl_X4_7) (List.mem_cons_of_mem _ it_X8) (List.mem_cons_of_mem _ ini_X8) (B1p.nin (Nat.le_refl _)) (by decide) (by decide) (by intro j hj; rcases (show j = 0 by omega) with rfl <;> rfl) (Nat.le_of_ble_eq_true rfl) (Nat.le_of_ble_eq_true rfl) dX4_init_17 (fun q1 hok1 => ?_)
  rw [mZ_id (hZ1 (c + 3) (Nat.le_refl _))]
  have G1 := F1p.grow (g' := gNew g1p (c + 3) q1) rfl rfl rfl rfl hok1
  refine v_dup G1 dX4_init_20 rfl ?_
  refine v_iconst (v := 5) G1 dX4_init_21 (by decide) ?_
  refine v_made B1p hc2 (by decide) hok1 F (rest' := [.ref q1, .ref h0a]) (fun hM kk => v_callI (As := [.int 5]) (rest := [.ref q1, .ref h0a]) G1 hM (cwI 1 F.1.2.2.2.2 (gU_0 cd_X8i) rfl rfl rfl (F.1.2.2.2.2 _ (List.mem_cons_of_mem _ ini_X8)) (F.1.2.2.2.2 _ (List.mem_cons_of_mem _ ml_X4_11)) (F.1.2.2.2.2 _ (List.mem_cons_of_mem _ im_yX8_init)) rfl (by decide +kernel) ⟨Nat.le_of_ble_eq_true rfl, Nat.le_of_ble_eq_true rfl⟩) rfl (by rw [show gAd (gNew g1p (c + 3) q1) (c + 3) = q1 from if_pos rfl]; rfl) (Nat.le_of_ble_eq_true rfl) dX4_init_22 ⟨Nat.le_of_ble_eq_true rfl, Nat.le_of_ble_eq_true rfl⟩ kk) (fun g2 B2 F2 ea2 => ?_)
  have B2 : BldX g g2 c (c + 5) [] [(c, 1)] := B2
  refine v_fldR (k := 2) (x := c + 3) (ty := (.object "GallopRoads$Row")) B2 F2 he0 ea2 (by omega) (by omega) s0 s1 ((hS.get (j := 0) rfl).2.2 2) (by decide) (inc inU_4) tyX4 tyX4_ok nmX4 rfl (by decide) (List.mem_cons_of_mem _ fl_X4_18) rfl rfl hin rfl (by decide +kernel) rfl rfl dX4_init_25 (fun g2p B2p F2p _ => ?_)
  refine v_aload_n F2p dX4_init_28 rfl 0 rfl ?_
  refine v_newO (b := c + 5) (S := (rowS 5)) F2p (hS.sub (j := 5) (by decide +kernel)) rfl tyX8 tyX8_ok (inc inU_8) rfl (List.mem_cons_of_mem _ cl_X4_7) (List.mem_cons_of_mem _ it_X8) (List.mem_cons_of_mem _ ini_X8) (B2p.nin (Nat.le_refl _)) (by decide) (by decide) (by intro j hj; rcases (show j = 0 by omega) with rfl <;> rfl) (Nat.le_of_ble_eq_true rfl) (Nat.le_of_ble_eq_true rfl) dX4_init_29 (fun q2 hok2 => ?_)
  rw [mZ_id (hZ2 (c + 5) (Nat.le_refl _))]
  have G2 := F2p.grow (g' := gNew g2p (c + 5) q2) rfl rfl rfl rfl hok2
  refine v_dup G2 dX4_init_32 rfl ?_
  refine v_iconst (v := 5) G2 dX4_init_33 (by decide) ?_
  refine v_made B2p hc3 (by decide) hok2 F (rest' := [.ref q2, .ref h0a]) (fun hM kk => v_callI (As := [.int 5]) (rest := [.ref q2, .ref h0a]) G2 hM (cwI 1 F.1.2.2.2.2 (gU_0 cd_X8i) rfl rfl rfl (F.1.2.2.2.2 _ (List.mem_cons_of_mem _ ini_X8)) (F.1.2.2.2.2 _ (List.mem_cons_of_mem _ ml_X4_11)) (F.1.2.2.2.2 _ (List.mem_cons_of_mem _ im_yX8_init)) rfl (by decide +kernel) ⟨Nat.le_of_ble_eq_true rfl, Nat.le_of_ble_eq_true rfl⟩) rfl (by rw [show gAd (gNew g2p (c + 5) q2) (c + 5) = q2 from if_pos rfl]; rfl) (Nat.le_of_ble_eq_true rfl) dX4_init_34 ⟨Nat.le_of_ble_eq_true rfl, Nat.le_of_ble_eq_true rfl⟩ kk) (fun g3 B3 F3 ea3 => ?_)
  have B3 : BldX g g3 c (c + 7) [] [(c, 2), (c, 1)] := B3
  refine v_fldR (k := 3) (x := c + 5) (ty := (.object "GallopRoads$Row")) B3 F3 he0 ea3 (by omega) (by omega) s0 s1 ((hS.get (j := 0) rfl).2.2 3) (by decide) (inc inU_4) tyX4 tyX4_ok nmX4 rfl (by decide) (List.mem_cons_of_mem _ fl_X4_21) rfl rfl hin rfl (by decide +kernel) rfl rfl dX4_init_37 (fun g3p B3p F3p _ => ?_)
  have hx := B3p.done (by rw [s0]; decide) (by rw [s0, s1]; rfl) (fun k9 f hf => by
    rw [s0] at hf
    match k9, hf with
    | 0, hf => cases hf; rw [if_pos rfl]; exact (hS.get (j := 0) rfl).2.2 0
    | 1, hf => cases hf; rw [if_neg (by decide)]; exact ⟨c + 1, (hS.get (j := 0) rfl).2.2 1, (List.mem_of_getElem? (i := 2) rfl), by omega, by omega, (hS.get (j := 1) rfl).1⟩
    | 2, hf => cases hf; rw [if_neg (by decide)]; exact ⟨c + 3, (hS.get (j := 0) rfl).2.2 2, (List.mem_of_getElem? (i := 1) rfl), by omega, by omega, (hS.get (j := 3) rfl).1⟩
    | 3, hf => cases hf; rw [if_neg (by decide)]; exact ⟨c + 5, (hS.get (j := 0) rfl).2.2 3, (List.mem_of_getElem? (i := 0) rfl), by omega, by omega, (hS.get (j := 5) rfl).1⟩
    | k9 + 4, hf => cases hf) 7 rfl
  refine v_done (b := c) ?_
  exact v_vretI (F3p.grow rfl rfl rfl rfl hx.2.2.2.2.2.2.1) hx hr hlk dX4_init_40
abbrev S0 : List (Nat × Nat × List (Option Nat)) := [(0, 3, [none, some 1, some 3]), (8, 1, [some 2]), (12, 6, []), (8, 1, [some 4]), (12, 60, [])]
abbrev uX0_init : List Cond := Cond.code yX0_init cX0_init 1 none :: uT
set_option maxHeartbeats 4000000 in
set_option maxRecDepth 100000 in
theorem mp_Bridges (l : Launch) : MkP l yX0_init uX0_init 2 4 68 5 S0 [] (PZ 5) := by
  intro c M hS hZ
  have hZ0 : ∀ a, c + 1 ≤ a → M a = fun _ => 0 := fun a h => hZ a (by omega)
  obtain ⟨M1, hP1, hr1, hc1⟩ := (mp_Row l (N := 6) (n := 6) rfl (by decide)) (c + 1) M (hS.sub (j := 1) (by decide +kernel)) (fun a h => hZ0 a h)
  have hM1 := (mp_eq hP1 hr1 (fun a h => hZ0 a h)).symm; subst hM1
  have hZ1 : ∀ a, c + 3 ≤ a → M a = fun _ => 0 := fun a h => hZ0 a (by omega)
  obtain ⟨M2, hP2, hr2, hc2⟩ := (mp_Row l (N := 60) (n := 60) rfl (by decide)) (c + 3) M (hS.sub (j := 3) (by decide +kernel)) (fun a h => hZ1 a h)
  have hM2 := (mp_eq hP2 hr2 (fun a h => hZ1 a h)).symm; subst hM2
  have hZ2 : ∀ a, c + 5 ≤ a → M a = fun _ => 0 := fun a h => hZ1 a (by omega)
  refine ⟨M, fun a h1 _ => hZ a h1, fun _ _ => rfl, fun g hok hcL hd hle => ?_⟩
  refine CnI.of (cc := cX0_init) (maxL := 1) (ret := none) hok (by decide) rfl (Nat.le_of_ble_eq_true rfl) rfl (fun p e s m args below meth c9 F hr hlk hin => ?_)
  generalize he0 : gAd g c = h0a
  show V g p l e ({ frames := 2, cells := 4, slots := 68, locals := 40 * 2 } : Room) s m args below meth c9 1 0 0 (MQ below (gQI g c 5 M) args s 4 68 (gA g)) 0 [(0, .ref h0a)] [] M
  have s0 : (shp c).1 = 0 := (hS.get (j := 0) rfl).1
  have s1 : (shp c).2.1 = 3 := (hS.get (j := 0) rfl).2.1
  have B0 := BldX.start hok hcL hd hle
  refine v_aload_n F dX0_init_0 rfl 0 rfl ?_
  refine v_objInit F (List.mem_cons_of_mem _ ml_X0_1) (List.mem_cons_of_mem _ im_obj) (List.mem_cons_of_mem _ cd_obj) dX0_init_1 (Nat.le_of_ble_eq_true rfl) (Nat.le_of_ble_eq_true rfl) ?_
  refine v_aload_n F dX0_init_4 rfl 0 rfl ?_
  refine v_newO (b := c + 1) (S := (rowS 6)) F (hS.sub (j := 1) (by decide +kernel)) rfl tyX8 tyX8_ok (inc inU_8) rfl (List.mem_cons_of_mem _ cl_X0_7) (List.mem_cons_of_mem _ it_X8) (List.mem_cons_of_mem _ ini_X8) (B0.nin (Nat.le_refl _)) (by decide) (by decide) (by intro j hj; rcases (show j = 0 by omega) with rfl <;> rfl) (Nat.le_of_ble_eq_true rfl) (Nat.le_of_ble_eq_true rfl) dX0_init_5 (fun q0 hok0 => ?_)
  rw [mZ_id (hZ0 (c + 1) (Nat.le_refl _))]
  have G0 := F.grow (g' := gNew g (c + 1) q0) rfl rfl rfl rfl hok0
  refine v_dup G0 dX0_init_8 rfl ?_
  refine v_bipush (v := 6) G0 dX0_init_9 (by decide) ?_
  refine v_made B0 hc1 (by decide) hok0 F (rest' := [.ref q0, .ref h0a]) (fun hM kk => v_callI (As := [.int 6]) (rest := [.ref q0, .ref h0a]) G0 hM (cwI 1 F.1.2.2.2.2 (gU_0 cd_X8i) rfl rfl rfl (F.1.2.2.2.2 _ (List.mem_cons_of_mem _ ini_X8)) (F.1.2.2.2.2 _ (List.mem_cons_of_mem _ ml_X0_11)) (F.1.2.2.2.2 _ (List.mem_cons_of_mem _ im_yX8_init)) rfl (by decide +kernel) ⟨Nat.le_of_ble_eq_true rfl, Nat.le_of_ble_eq_true rfl⟩) rfl (by rw [show gAd (gNew g (c + 1) q0) (c + 1) = q0 from if_pos rfl]; rfl) (Nat.le_of_ble_eq_true rfl) dX0_init_11 ⟨Nat.le_of_ble_eq_true rfl, Nat.le_of_ble_eq_true rfl⟩ kk) (fun g1 B1 F1 ea1 => ?_)
  have B1 : BldX g g1 c (c + 3) [] [] := B1
  refine v_fldR (k := 1) (x := c + 1) (ty := (.object "GallopRoads$Row")) B1 F1 he0 ea1 (by omega) (by omega) s0 s1 ((hS.get (j := 0) rfl).2.2 1) (by decide) (inc inU_0) tyX0 tyX0_ok nmX0 rfl (by decide) (List.mem_cons_of_mem _ fl_X0_14) rfl rfl hin rfl (by decide +kernel) rfl rfl dX0_init_14 (fun g1p B1p F1p _ => ?_)
  refine v_aload_n F1p dX0_init_17 rfl 0 rfl ?_
  refine v_newO (b := c + 3) (S := (rowS 60)) F1p (hS.sub (j := 3) (by decide +kernel)) rfl tyX8 tyX8_ok (inc inU_8) rfl (List.mem_cons_of_mem _ cl_X0_7) (List.mem_cons_of_mem _ it_X8) (List.mem_cons_of_mem _ ini_X8) (B1p.nin (Nat.le_refl _)) (by decide) (by decide) (by intro j hj; rcases (show j = 0 by omega) with rfl <;> rfl) (Nat.le_of_ble_eq_true rfl) (Nat.le_of_ble_eq_true rfl) dX0_init_18 (fun q1 hok1 => ?_)
  rw [mZ_id (hZ1 (c + 3) (Nat.le_refl _))]
  have G1 := F1p.grow (g' := gNew g1p (c + 3) q1) rfl rfl rfl rfl hok1
  refine v_dup G1 dX0_init_21 rfl ?_
  refine v_bipush (v := 60) G1 dX0_init_22 (by decide) ?_
  refine v_made B1p hc2 (by decide) hok1 F (rest' := [.ref q1, .ref h0a]) (fun hM kk => v_callI (As := [.int 60]) (rest := [.ref q1, .ref h0a]) G1 hM (cwI 1 F.1.2.2.2.2 (gU_0 cd_X8i) rfl rfl rfl (F.1.2.2.2.2 _ (List.mem_cons_of_mem _ ini_X8)) (F.1.2.2.2.2 _ (List.mem_cons_of_mem _ ml_X0_11)) (F.1.2.2.2.2 _ (List.mem_cons_of_mem _ im_yX8_init)) rfl (by decide +kernel) ⟨Nat.le_of_ble_eq_true rfl, Nat.le_of_ble_eq_true rfl⟩) rfl (by rw [show gAd (gNew g1p (c + 3) q1) (c + 3) = q1 from if_pos rfl]; rfl) (Nat.le_of_ble_eq_true rfl) dX0_init_24 ⟨Nat.le_of_ble_eq_true rfl, Nat.le_of_ble_eq_true rfl⟩ kk) (fun g2 B2 F2 ea2 => ?_)
  have B2 : BldX g g2 c (c + 5) [] [(c, 1)] := B2
  refine v_fldR (k := 2) (x := c + 3) (ty := (.object "GallopRoads$Row")) B2 F2 he0 ea2 (by omega) (by omega) s0 s1 ((hS.get (j := 0) rfl).2.2 2) (by decide) (inc inU_0) tyX0 tyX0_ok nmX0 rfl (by decide) (List.mem_cons_of_mem _ fl_X0_18) rfl rfl hin rfl (by decide +kernel) rfl rfl dX0_init_27 (fun g2p B2p F2p _ => ?_)
  have hx := B2p.done (by rw [s0]; decide) (by rw [s0, s1]; rfl) (fun k9 f hf => by
    rw [s0] at hf
    match k9, hf with
    | 0, hf => cases hf; rw [if_pos rfl]; exact (hS.get (j := 0) rfl).2.2 0
    | 1, hf => cases hf; rw [if_neg (by decide)]; exact ⟨c + 1, (hS.get (j := 0) rfl).2.2 1, (List.mem_of_getElem? (i := 1) rfl), by omega, by omega, (hS.get (j := 1) rfl).1⟩
    | 2, hf => cases hf; rw [if_neg (by decide)]; exact ⟨c + 3, (hS.get (j := 0) rfl).2.2 2, (List.mem_of_getElem? (i := 0) rfl), by omega, by omega, (hS.get (j := 3) rfl).1⟩
    | k9 + 3, hf => cases hf) 5 rfl
  refine v_done (b := c) ?_
  exact v_vretI (F2p.grow rfl rfl rfl rfl hx.2.2.2.2.2.2.1) hx hr hlk dX0_init_30
abbrev S5 : List (Nat × Nat × List (Option Nat)) := [(5, 4, [none, some 1, some 3, some 5]), (8, 1, [some 2]), (12, 10, []), (8, 1, [some 4]), (12, 10, []), (8, 1, [some 6]), (12, 10, [])]
abbrev uX5_init : List Cond := Cond.code yX5_init cX5_init 1 none :: uT
set_option maxHeartbeats 4000000 in
set_option maxRecDepth 100000 in
theorem mp_Papers (l : Launch) : MkP l yX5_init uX5_init 2 6 33 7 S5 [] (PZ 7) := by
  intro c M hS hZ
  have hZ0 : ∀ a, c + 1 ≤ a → M a = fun _ => 0 := fun a h => hZ a (by omega)
  obtain ⟨M1, hP1, hr1, hc1⟩ := (mp_Row l (N := 10) (n := 10) rfl (by decide)) (c + 1) M (hS.sub (j := 1) (by decide +kernel)) (fun a h => hZ0 a h)
  have hM1 := (mp_eq hP1 hr1 (fun a h => hZ0 a h)).symm; subst hM1
  have hZ1 : ∀ a, c + 3 ≤ a → M a = fun _ => 0 := fun a h => hZ0 a (by omega)
  obtain ⟨M2, hP2, hr2, hc2⟩ := (mp_Row l (N := 10) (n := 10) rfl (by decide)) (c + 3) M (hS.sub (j := 3) (by decide +kernel)) (fun a h => hZ1 a h)
  have hM2 := (mp_eq hP2 hr2 (fun a h => hZ1 a h)).symm; subst hM2
  have hZ2 : ∀ a, c + 5 ≤ a → M a = fun _ => 0 := fun a h => hZ1 a (by omega)
  obtain ⟨M3, hP3, hr3, hc3⟩ := (mp_Row l (N := 10) (n := 10) rfl (by decide)) (c + 5) M (hS.sub (j := 5) (by decide +kernel)) (fun a h => hZ2 a h)
  have hM3 := (mp_eq hP3 hr3 (fun a h => hZ2 a h)).symm; subst hM3
  have hZ3 : ∀ a, c + 7 ≤ a → M a = fun _ => 0 := fun a h => hZ2 a (by omega)
  refine ⟨M, fun a h1 _ => hZ a h1, fun _ _ => rfl, fun g hok hcL hd hle => ?_⟩
  refine CnI.of (cc := cX5_init) (maxL := 1) (ret := none) hok (by decide) rfl (Nat.le_of_ble_eq_true rfl) rfl (fun p e s m args below meth c9 F hr hlk hin => ?_)
  generalize he0 : gAd g c = h0a
  show V g p l e ({ frames := 2, cells := 6, slots := 33, locals := 40 * 2 } : Room) s m args below meth c9 1 0 0 (MQ below (gQI g c 7 M) args s 6 33 (gA g)) 0 [(0, .ref h0a)] [] M
  have s0 : (shp c).1 = 5 := (hS.get (j := 0) rfl).1
  have s1 : (shp c).2.1 = 4 := (hS.get (j := 0) rfl).2.1
  have B0 := BldX.start hok hcL hd hle
  refine v_aload_n F dX5_init_0 rfl 0 rfl ?_
  refine v_objInit F (List.mem_cons_of_mem _ ml_X5_3) (List.mem_cons_of_mem _ im_obj) (List.mem_cons_of_mem _ cd_obj) dX5_init_1 (Nat.le_of_ble_eq_true rfl) (Nat.le_of_ble_eq_true rfl) ?_
  refine v_aload_n F dX5_init_4 rfl 0 rfl ?_
  refine v_newO (b := c + 1) (S := (rowS 10)) F (hS.sub (j := 1) (by decide +kernel)) rfl tyX8 tyX8_ok (inc inU_8) rfl (List.mem_cons_of_mem _ cl_X5_9) (List.mem_cons_of_mem _ it_X8) (List.mem_cons_of_mem _ ini_X8) (B0.nin (Nat.le_refl _)) (by decide) (by decide) (by intro j hj; rcases (show j = 0 by omega) with rfl <;> rfl) (Nat.le_of_ble_eq_true rfl) (Nat.le_of_ble_eq_true rfl) dX5_init_5 (fun q0 hok0 => ?_)
  rw [mZ_id (hZ0 (c + 1) (Nat.le_refl _))]
  have G0 := F.grow (g' := gNew g (c + 1) q0) rfl rfl rfl rfl hok0
  refine v_dup G0 dX5_init_8 rfl ?_
  refine v_bipush (v := 10) G0 dX5_init_9 (by decide) ?_
  refine v_made B0 hc1 (by decide) hok0 F (rest' := [.ref q0, .ref h0a]) (fun hM kk => v_callI (As := [.int 10]) (rest := [.ref q0, .ref h0a]) G0 hM (cwI 1 F.1.2.2.2.2 (gU_0 cd_X8i) rfl rfl rfl (F.1.2.2.2.2 _ (List.mem_cons_of_mem _ ini_X8)) (F.1.2.2.2.2 _ (List.mem_cons_of_mem _ ml_X5_13)) (F.1.2.2.2.2 _ (List.mem_cons_of_mem _ im_yX8_init)) rfl (by decide +kernel) ⟨Nat.le_of_ble_eq_true rfl, Nat.le_of_ble_eq_true rfl⟩) rfl (by rw [show gAd (gNew g (c + 1) q0) (c + 1) = q0 from if_pos rfl]; rfl) (Nat.le_of_ble_eq_true rfl) dX5_init_11 ⟨Nat.le_of_ble_eq_true rfl, Nat.le_of_ble_eq_true rfl⟩ kk) (fun g1 B1 F1 ea1 => ?_)
  have B1 : BldX g g1 c (c + 3) [] [] := B1
  refine v_fldR (k := 1) (x := c + 1) (ty := (.object "GallopRoads$Row")) B1 F1 he0 ea1 (by omega) (by omega) s0 s1 ((hS.get (j := 0) rfl).2.2 1) (by decide) (inc inU_5) tyX5 tyX5_ok nmX5 rfl (by decide) (List.mem_cons_of_mem _ fl_X5_16) rfl rfl hin rfl (by decide +kernel) rfl rfl dX5_init_14 (fun g1p B1p F1p _ => ?_)
  refine v_aload_n F1p dX5_init_17 rfl 0 rfl ?_
  refine v_newO (b := c + 3) (S := (rowS 10)) F1p (hS.sub (j := 3) (by decide +kernel)) rfl tyX8 tyX8_ok (inc inU_8) rfl (List.mem_cons_of_mem _ cl_X5_9) (List.mem_cons_of_mem _ it_X8) (List.mem_cons_of_mem _ ini_X8) (B1p.nin (Nat.le_refl _)) (by decide) (by decide) (by intro j hj; rcases (show j = 0 by omega) with rfl <;> rfl) (Nat.le_of_ble_eq_true rfl) (Nat.le_of_ble_eq_true rfl) dX5_init_18 (fun q1 hok1 => ?_)
  rw [mZ_id (hZ1 (c + 3) (Nat.le_refl _))]
  have G1 := F1p.grow (g' := gNew g1p (c + 3) q1) rfl rfl rfl rfl hok1
  refine v_dup G1 dX5_init_21 rfl ?_
  refine v_bipush (v := 10) G1 dX5_init_22 (by decide) ?_
  refine v_made B1p hc2 (by decide) hok1 F (rest' := [.ref q1, .ref h0a]) (fun hM kk => v_callI (As := [.int 10]) (rest := [.ref q1, .ref h0a]) G1 hM (cwI 1 F.1.2.2.2.2 (gU_0 cd_X8i) rfl rfl rfl (F.1.2.2.2.2 _ (List.mem_cons_of_mem _ ini_X8)) (F.1.2.2.2.2 _ (List.mem_cons_of_mem _ ml_X5_13)) (F.1.2.2.2.2 _ (List.mem_cons_of_mem _ im_yX8_init)) rfl (by decide +kernel) ⟨Nat.le_of_ble_eq_true rfl, Nat.le_of_ble_eq_true rfl⟩) rfl (by rw [show gAd (gNew g1p (c + 3) q1) (c + 3) = q1 from if_pos rfl]; rfl) (Nat.le_of_ble_eq_true rfl) dX5_init_24 ⟨Nat.le_of_ble_eq_true rfl, Nat.le_of_ble_eq_true rfl⟩ kk) (fun g2 B2 F2 ea2 => ?_)
  have B2 : BldX g g2 c (c + 5) [] [(c, 1)] := B2
  refine v_fldR (k := 2) (x := c + 3) (ty := (.object "GallopRoads$Row")) B2 F2 he0 ea2 (by omega) (by omega) s0 s1 ((hS.get (j := 0) rfl).2.2 2) (by decide) (inc inU_5) tyX5 tyX5_ok nmX5 rfl (by decide) (List.mem_cons_of_mem _ fl_X5_20) rfl rfl hin rfl (by decide +kernel) rfl rfl dX5_init_27 (fun g2p B2p F2p _ => ?_)
  refine v_aload_n F2p dX5_init_30 rfl 0 rfl ?_
  refine v_newO (b := c + 5) (S := (rowS 10)) F2p (hS.sub (j := 5) (by decide +kernel)) rfl tyX8 tyX8_ok (inc inU_8) rfl (List.mem_cons_of_mem _ cl_X5_9) (List.mem_cons_of_mem _ it_X8) (List.mem_cons_of_mem _ ini_X8) (B2p.nin (Nat.le_refl _)) (by decide) (by decide) (by intro j hj; rcases (show j = 0 by omega) with rfl <;> rfl) (Nat.le_of_ble_eq_true rfl) (Nat.le_of_ble_eq_true rfl) dX5_init_31 (fun q2 hok2 => ?_)
  rw [mZ_id (hZ2 (c + 5) (Nat.le_refl _))]
  have G2 := F2p.grow (g' := gNew g2p (c + 5) q2) rfl rfl rfl rfl hok2
  refine v_dup G2 dX5_init_34 rfl ?_
  refine v_bipush (v := 10) G2 dX5_init_35 (by decide) ?_
  refine v_made B2p hc3 (by decide) hok2 F (rest' := [.ref q2, .ref h0a]) (fun hM kk => v_callI (As := [.int 10]) (rest := [.ref q2, .ref h0a]) G2 hM (cwI 1 F.1.2.2.2.2 (gU_0 cd_X8i) rfl rfl rfl (F.1.2.2.2.2 _ (List.mem_cons_of_mem _ ini_X8)) (F.1.2.2.2.2 _ (List.mem_cons_of_mem _ ml_X5_13)) (F.1.2.2.2.2 _ (List.mem_cons_of_mem _ im_yX8_init)) rfl (by decide +kernel) ⟨Nat.le_of_ble_eq_true rfl, Nat.le_of_ble_eq_true rfl⟩) rfl (by rw [show gAd (gNew g2p (c + 5) q2) (c + 5) = q2 from if_pos rfl]; rfl) (Nat.le_of_ble_eq_true rfl) dX5_init_37 ⟨Nat.le_of_ble_eq_true rfl, Nat.le_of_ble_eq_true rfl⟩ kk) (fun g3 B3 F3 ea3 => ?_)
  have B3 : BldX g g3 c (c + 7) [] [(c, 2), (c, 1)] := B3
  refine v_fldR (k := 3) (x := c + 5) (ty := (.object "GallopRoads$Row")) B3 F3 he0 ea3 (by omega) (by omega) s0 s1 ((hS.get (j := 0) rfl).2.2 3) (by decide) (inc inU_5) tyX5 tyX5_ok nmX5 rfl (by decide) (List.mem_cons_of_mem _ fl_X5_23) rfl rfl hin rfl (by decide +kernel) rfl rfl dX5_init_40 (fun g3p B3p F3p _ => ?_)
  have hx := B3p.done (by rw [s0]; decide) (by rw [s0, s1]; rfl) (fun k9 f hf => by
    rw [s0] at hf
    match k9, hf with
    | 0, hf => cases hf; rw [if_pos rfl]; exact (hS.get (j := 0) rfl).2.2 0
    | 1, hf => cases hf; rw [if_neg (by decide)]; exact ⟨c + 1, (hS.get (j := 0) rfl).2.2 1, (List.mem_of_getElem? (i := 2) rfl), by omega, by omega, (hS.get (j := 1) rfl).1⟩
    | 2, hf => cases hf; rw [if_neg (by decide)]; exact ⟨c + 3, (hS.get (j := 0) rfl).2.2 2, (List.mem_of_getElem? (i := 1) rfl), by omega, by omega, (hS.get (j := 3) rfl).1⟩
    | 3, hf => cases hf; rw [if_neg (by decide)]; exact ⟨c + 5, (hS.get (j := 0) rfl).2.2 3, (List.mem_of_getElem? (i := 0) rfl), by omega, by omega, (hS.get (j := 5) rfl).1⟩
    | k9 + 4, hf => cases hf) 7 rfl
  refine v_done (b := c) ?_
  exact v_vretI (F3p.grow rfl rfl rfl rfl hx.2.2.2.2.2.2.1) hx hr hlk dX5_init_43
