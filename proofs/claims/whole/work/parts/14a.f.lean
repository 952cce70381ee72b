def f_L_law  (M : Mem) (a0 : Nat) (i1 : Int32) (a2 : Nat) : Option ((Int32 ⊕ Nat) × Mem) := (f_X10_law M a0 i1).bind fun q => match q with | (.inl r1, M2) => (if ¬ ((0 : Int32) < 0 ∨ gN a2 ≤ (0 : Int32).toNatClampNeg) then (some (.inl 0, (mU M2 a2 (0 : Int32).toNatClampNeg r1))) else none) | (.inr j4, M2) => if j4 = 0 then (some (.inl 1, M2)) else (none)
set_option maxHeartbeats 4000000 in
set_option maxRecDepth 100000 in
theorem c_L_law {g : gT} (l : Launch) (hst : l.stackTraces = false) (hok : gOK g) {a0 : Nat} {i1 : Int32} {a2 : Nat} {M : Mem} {z : (Int32 ⊕ Nat) × Mem} (t0 : Ty g 10 a0) (t2 : Ty g 17 a2) (h : f_L_law M a0 i1 a2 = some z) : Cx g l yL_law uL_law 88 1 6 [.ref (gAd g a0), .int i1, .ref (gAd g a2)] M vI z := by
  refine Cx.ofW (cc := cL_law) (maxL := 4) (ret := (some .int)) (hh := [(0, 9, 12, 13)]) hok (by decide) rfl (Nat.le_of_ble_eq_true rfl) (fun p e s m args below meth c F hr hlk htab => ?_)
  unfold f_L_law at h
  show V g p l e ({ frames := 88, cells := 1, slots := 6, locals := 40 * 88 } : Room) s m args below meth c 4 0 0 (vx_MQ below (gQx g vI z) (gXx g z) args s 1 6 (gA g)) 0 [(0, .ref (gAd g a0)), (1, .int i1), (2, .ref (gAd g a2))] [] M
  refine v_aload_n F dL_law_0 rfl 2 rfl ?_
  refine v_iconst (v := 0) F dL_law_1 (by decide) ?_
  refine v_aload_n F dL_law_2 rfl 0 rfl ?_
  refine v_iload_n F dL_law_3 rfl 1 rfl ?_
  obtain ⟨⟨r1 | j4, M2⟩, hz3, h⟩ := bd_some h
  rotate_left
  · dsimp only at h
    refine v_callVxT (As := [.int i1]) (rest := [.int 0, .ref (gAd g a2)]) F (c_X10_law l hst F.2.2.1 t0 hz3) (cwV 1 F.1.2.2.2.2 (gU_V ml_L_7 im_yX10_law se_yX10_law ini_X10 cd_X10_law) rfl rfl rfl (by decide +kernel) ⟨Nat.le_of_ble_eq_true rfl, Nat.le_of_ble_eq_true rfl⟩) t0 (by decide) rfl rfl rfl (Nat.le_of_ble_eq_true rfl) dL_law_4 ⟨Nat.le_of_ble_eq_true rfl, Nat.le_of_ble_eq_true rfl⟩ ?_
    by_cases hj5 : j4 = 0
    · subst hj5
      rw [if_pos rfl] at h
      refine v_catch F (E := exN 0) (name := "java/lang/IllegalArgumentException") (tableOf []) ⟨0, 9, 12, 13⟩ (tableOf []) (htab.trans rfl) (fun z hz => by simp [tableOf] at hz) (by decide) (by decide) (List.mem_cons_of_mem _ cl_L_13) (by decide) rfl (fun q9 => ?_)
      refine v_astore_n (lv' := [(3, .ref (q9)), (0, .ref (gAd g a0)), (1, .int i1), (2, .ref (gAd g a2))]) F dL_law_12 rfl (by decide) rfl ?_
      refine v_iconst (v := 1) F dL_law_13 (by decide) ?_
      cases h
      refine v_iretX F hr rfl hlk dL_law_14 ?_ ?_ <;> decide
    rw [if_neg hj5] at h
    cases h
  dsimp only at h
  refine v_callVxi (As := [.int i1]) (rest := [.int 0, .ref (gAd g a2)]) F (c_X10_law l hst F.2.2.1 t0 hz3) (cwV 1 F.1.2.2.2.2 (gU_V ml_L_7 im_yX10_law se_yX10_law ini_X10 cd_X10_law) rfl rfl rfl (by decide +kernel) ⟨Nat.le_of_ble_eq_true rfl, Nat.le_of_ble_eq_true rfl⟩) t0 (by decide) rfl rfl rfl (Nat.le_of_ble_eq_true rfl) dL_law_4 ⟨Nat.le_of_ble_eq_true rfl, Nat.le_of_ble_eq_true rfl⟩ ?_
  refine v_i2l F dL_law_7 rfl ?_
  obtain ⟨hin6, h⟩ := gd_some h
  refine v_last F rfl t2 hin6 dL_law_8 ?_
  refine v_goto (tgt := 15) F dL_law_9 (by decide) ?_
  refine v_iconst (v := 0) F dL_law_15 (by decide) ?_
  cases h
  refine v_iretX F hr rfl hlk dL_law_16 ?_ ?_ <;> decide
def f_L_deck  (M : Mem) (a0 : Nat) (i1 : Int32) (a2 : Nat) : Option ((Int32 ⊕ Nat) × Mem) := (f_X10_deck M a0 i1).bind fun q => match q with | (.inl r1, M2) => (if ¬ ((0 : Int32) < 0 ∨ gN a2 ≤ (0 : Int32).toNatClampNeg) then (some (.inl 0, (mU M2 a2 (0 : Int32).toNatClampNeg r1))) else none) | (.inr j4, M2) => if j4 = 0 then (some (.inl 1, M2)) else (none)
set_option maxHeartbeats 4000000 in
set_option maxRecDepth 100000 in
theorem c_L_deck {g : gT} (l : Launch) (hst : l.stackTraces = false) (hok : gOK g) {a0 : Nat} {i1 : Int32} {a2 : Nat} {M : Mem} {z : (Int32 ⊕ Nat) × Mem} (t0 : Ty g 10 a0) (t2 : Ty g 17 a2) (h : f_L_deck M a0 i1 a2 = some z) : Cx g l yL_deck uL_deck 8 1 6 [.ref (gAd g a0), .int i1, .ref (gAd g a2)] M vI z := by
  refine Cx.ofW (cc := cL_deck) (maxL := 4) (ret := (some .int)) (hh := [(0, 9, 12, 13)]) hok (by decide) rfl (Nat.le_of_ble_eq_true rfl) (fun p e s m args below meth c F hr hlk htab => ?_)
  unfold f_L_deck at h
  show V g p l e ({ frames := 8, cells := 1, slots := 6, locals := 40 * 8 } : Room) s m args below meth c 4 0 0 (vx_MQ below (gQx g vI z) (gXx g z) args s 1 6 (gA g)) 0 [(0, .ref (gAd g a0)), (1, .int i1), (2, .ref (gAd g a2))] [] M
  refine v_aload_n F dL_deck_0 rfl 2 rfl ?_
  refine v_iconst (v := 0) F dL_deck_1 (by decide) ?_
  refine v_aload_n F dL_deck_2 rfl 0 rfl ?_
  refine v_iload_n F dL_deck_3 rfl 1 rfl ?_
  obtain ⟨⟨r1 | j4, M2⟩, hz3, h⟩ := bd_some h
  rotate_left
  · dsimp only at h
    refine v_callVxT (As := [.int i1]) (rest := [.int 0, .ref (gAd g a2)]) F (c_X10_deck l hst F.2.2.1 t0 hz3) (cwV 1 F.1.2.2.2.2 (gU_V ml_L_15 im_yX10_deck se_yX10_deck ini_X10 cd_X10_deck) rfl rfl rfl (by decide +kernel) ⟨Nat.le_of_ble_eq_true rfl, Nat.le_of_ble_eq_true rfl⟩) t0 (by decide) rfl rfl rfl (Nat.le_of_ble_eq_true rfl) dL_deck_4 ⟨Nat.le_of_ble_eq_true rfl, Nat.le_of_ble_eq_true rfl⟩ ?_
    by_cases hj5 : j4 = 0
    · subst hj5
      rw [if_pos rfl] at h
      refine v_catch F (E := exN 0) (name := "java/lang/IllegalArgumentException") (tableOf []) ⟨0, 9, 12, 13⟩ (tableOf []) (htab.trans rfl) (fun z hz => by simp [tableOf] at hz) (by decide) (by decide) (List.mem_cons_of_mem _ cl_L_13) (by decide) rfl (fun q9 => ?_)
      refine v_astore_n (lv' := [(3, .ref (q9)), (0, .ref (gAd g a0)), (1, .int i1), (2, .ref (gAd g a2))]) F dL_deck_12 rfl (by decide) rfl ?_
      refine v_iconst (v := 1) F dL_deck_13 (by decide) ?_
      cases h
      refine v_iretX F hr rfl hlk dL_deck_14 ?_ ?_ <;> decide
    rw [if_neg hj5] at h
    cases h
  dsimp only at h
  refine v_callVxi (As := [.int i1]) (rest := [.int 0, .ref (gAd g a2)]) F (c_X10_deck l hst F.2.2.1 t0 hz3) (cwV 1 F.1.2.2.2.2 (gU_V ml_L_15 im_yX10_deck se_yX10_deck ini_X10 cd_X10_deck) rfl rfl rfl (by decide +kernel) ⟨Nat.le_of_ble_eq_true rfl, Nat.le_of_ble_eq_true rfl⟩) t0 (by decide) rfl rfl rfl (Nat.le_of_ble_eq_true rfl) dL_deck_4 ⟨Nat.le_of_ble_eq_true rfl, Nat.le_of_ble_eq_true rfl⟩ ?_
  refine v_i2l F dL_deck_7 rfl ?_
  obtain ⟨hin6, h⟩ := gd_some h
  refine v_last F rfl t2 hin6 dL_deck_8 ?_
  refine v_goto (tgt := 15) F dL_deck_9 (by decide) ?_
  refine v_iconst (v := 0) F dL_deck_15 (by decide) ?_
  cases h
  refine v_iretX F hr rfl hlk dL_deck_16 ?_ ?_ <;> decide
def f_L_set  (M : Mem) (a0 : Nat) (i1 : Int32) (i2 : Int32) (a3 : Nat) : Option ((Int32 ⊕ Nat) × Mem) := (f_X10_set M a0 i1 i2).bind fun q => match q with | (.inl r1, M2) => (if ¬ ((0 : Int32) < 0 ∨ gN a3 ≤ (0 : Int32).toNatClampNeg) then (some (.inl 0, (mU M2 a3 (0 : Int32).toNatClampNeg r1))) else none) | (.inr j4, M2) => if j4 = 0 then (some (.inl 1, M2)) else (none)
set_option maxHeartbeats 4000000 in
set_option maxRecDepth 100000 in
theorem c_L_set {g : gT} (l : Launch) (hst : l.stackTraces = false) (hok : gOK g) {a0 : Nat} {i1 : Int32} {i2 : Int32} {a3 : Nat} {M : Mem} {z : (Int32 ⊕ Nat) × Mem} (t0 : Ty g 10 a0) (t3 : Ty g 17 a3) (h : f_L_set M a0 i1 i2 a3 = some z) : Cx g l yL_set uL_set 8 1 6 [.ref (gAd g a0), .int i1, .int i2, .ref (gAd g a3)] M vI z := by
  refine Cx.ofW (cc := cL_set) (maxL := 5) (ret := (some .int)) (hh := [(0, 10, 13, 13)]) hok (by decide) rfl (Nat.le_of_ble_eq_true rfl) (fun p e s m args below meth c F hr hlk htab => ?_)
  unfold f_L_set at h
  show V g p l e ({ frames := 8, cells := 1, slots := 6, locals := 40 * 8 } : Room) s m args below meth c 5 0 0 (vx_MQ below (gQx g vI z) (gXx g z) args s 1 6 (gA g)) 0 [(0, .ref (gAd g a0)), (1, .int i1), (2, .int i2), (3, .ref (gAd g a3))] [] M
  refine v_aload_n F dL_set_0 rfl 3 rfl ?_
  refine v_iconst (v := 0) F dL_set_1 (by decide) ?_
  refine v_aload_n F dL_set_2 rfl 0 rfl ?_
  refine v_iload_n F dL_set_3 rfl 1 rfl ?_
  refine v_iload_n F dL_set_4 rfl 2 rfl ?_
  obtain ⟨⟨r1 | j4, M2⟩, hz3, h⟩ := bd_some h
  rotate_left
  · dsimp only at h
    refine v_callVxT (As := [.int i1, .int i2]) (rest := [.int 0, .ref (gAd g a3)]) F (c_X10_set l hst F.2.2.1 t0 hz3) (cwV 2 F.1.2.2.2.2 (gU_V ml_L_18 im_yX10_set se_yX10_set ini_X10 cd_X10_set) rfl rfl rfl (by decide +kernel) ⟨Nat.le_of_ble_eq_true rfl, Nat.le_of_ble_eq_true rfl⟩) t0 (by decide) rfl rfl rfl (Nat.le_of_ble_eq_true rfl) dL_set_5 ⟨Nat.le_of_ble_eq_true rfl, Nat.le_of_ble_eq_true rfl⟩ ?_
    by_cases hj5 : j4 = 0
    · subst hj5
      rw [if_pos rfl] at h
      refine v_catch F (E := exN 0) (name := "java/lang/IllegalArgumentException") (tableOf []) ⟨0, 10, 13, 13⟩ (tableOf []) (htab.trans rfl) (fun z hz => by simp [tableOf] at hz) (by decide) (by decide) (List.mem_cons_of_mem _ cl_L_13) (by decide) rfl (fun q9 => ?_)
      refine v_astore (lv' := [(4, .ref (q9)), (0, .ref (gAd g a0)), (1, .int i1), (2, .int i2), (3, .ref (gAd g a3))]) F dL_set_13 (by decide) rfl ?_
      refine v_iconst (v := 1) F dL_set_15 (by decide) ?_
      cases h
      refine v_iretX F hr rfl hlk dL_set_16 ?_ ?_ <;> decide
    rw [if_neg hj5] at h
    cases h
  dsimp only at h
  refine v_callVxi (As := [.int i1, .int i2]) (rest := [.int 0, .ref (gAd g a3)]) F (c_X10_set l hst F.2.2.1 t0 hz3) (cwV 2 F.1.2.2.2.2 (gU_V ml_L_18 im_yX10_set se_yX10_set ini_X10 cd_X10_set) rfl rfl rfl (by decide +kernel) ⟨Nat.le_of_ble_eq_true rfl, Nat.le_of_ble_eq_true rfl⟩) t0 (by decide) rfl rfl rfl (Nat.le_of_ble_eq_true rfl) dL_set_5 ⟨Nat.le_of_ble_eq_true rfl, Nat.le_of_ble_eq_true rfl⟩ ?_
  refine v_i2l F dL_set_8 rfl ?_
  obtain ⟨hin6, h⟩ := gd_some h
  refine v_last F rfl t3 hin6 dL_set_9 ?_
  refine v_goto (tgt := 17) F dL_set_10 (by decide) ?_
  refine v_iconst (v := 0) F dL_set_17 (by decide) ?_
  cases h
  refine v_iretX F hr rfl hlk dL_set_18 ?_ ?_ <;> decide
def f_L_stay  (M : Mem) (a0 : Nat) (i1 : Int32) (i2 : Int32) (a3 : Nat) : Option ((Int32 ⊕ Nat) × Mem) := (f_X10_stay M a0 i1 i2).bind fun q => match q with | (.inl r1, M2) => (if ¬ ((0 : Int32) < 0 ∨ gN a3 ≤ (0 : Int32).toNatClampNeg) then (some (.inl 0, (mU M2 a3 (0 : Int32).toNatClampNeg r1))) else none) | (.inr j4, M2) => if j4 = 1 then (some (.inl 1, M2)) else (none)
set_option maxHeartbeats 4000000 in
set_option maxRecDepth 100000 in
theorem c_L_stay {g : gT} (l : Launch) (hst : l.stackTraces = false) (hok : gOK g) {a0 : Nat} {i1 : Int32} {i2 : Int32} {a3 : Nat} {M : Mem} {z : (Int32 ⊕ Nat) × Mem} (t0 : Ty g 10 a0) (t3 : Ty g 17 a3) (h : f_L_stay M a0 i1 i2 a3 = some z) : Cx g l yL_stay uL_stay 8 1 6 [.ref (gAd g a0), .int i1, .int i2, .ref (gAd g a3)] M vI z := by
  refine Cx.ofW (cc := cL_stay) (maxL := 5) (ret := (some .int)) (hh := [(0, 10, 13, 26)]) hok (by decide) rfl (Nat.le_of_ble_eq_true rfl) (fun p e s m args below meth c F hr hlk htab => ?_)
  unfold f_L_stay at h
  show V g p l e ({ frames := 8, cells := 1, slots := 6, locals := 40 * 8 } : Room) s m args below meth c 5 0 0 (vx_MQ below (gQx g vI z) (gXx g z) args s 1 6 (gA g)) 0 [(0, .ref (gAd g a0)), (1, .int i1), (2, .int i2), (3, .ref (gAd g a3))] [] M
  refine v_aload_n F dL_stay_0 rfl 3 rfl ?_
  refine v_iconst (v := 0) F dL_stay_1 (by decide) ?_
  refine v_aload_n F dL_stay_2 rfl 0 rfl ?_
  refine v_iload_n F dL_stay_3 rfl 1 rfl ?_
  refine v_iload_n F dL_stay_4 rfl 2 rfl ?_
  obtain ⟨⟨r1 | j4, M2⟩, hz3, h⟩ := bd_some h
  rotate_left
  · dsimp only at h
    refine v_callVxT (As := [.int i1, .int i2]) (rest := [.int 0, .ref (gAd g a3)]) F (c_X10_stay l hst F.2.2.1 t0 hz3) (cwV 2 F.1.2.2.2.2 (gU_V ml_L_22 im_yX10_stay se_yX10_stay ini_X10 cd_X10_stay) rfl rfl rfl (by decide +kernel) ⟨Nat.le_of_ble_eq_true rfl, Nat.le_of_ble_eq_true rfl⟩) t0 (by decide) rfl rfl rfl (Nat.le_of_ble_eq_true rfl) dL_stay_5 ⟨Nat.le_of_ble_eq_true rfl, Nat.le_of_ble_eq_true rfl⟩ ?_
    by_cases hj5 : j4 = 1
    · subst hj5
      rw [if_pos rfl] at h
      refine v_catch F (E := exN 1) (name := "java/util/NoSuchElementException") (tableOf []) ⟨0, 10, 13, 26⟩ (tableOf []) (htab.trans rfl) (fun z hz => by simp [tableOf] at hz) (by decide) (by decide) (List.mem_cons_of_mem _ cl_L_26) (by decide) rfl (fun q9 => ?_)
      refine v_astore (lv' := [(4, .ref (q9)), (0, .ref (gAd g a0)), (1, .int i1), (2, .int i2), (3, .ref (gAd g a3))]) F dL_stay_13 (by decide) rfl ?_
      refine v_iconst (v := 1) F dL_stay_15 (by decide) ?_
      cases h
      refine v_iretX F hr rfl hlk dL_stay_16 ?_ ?_ <;> decide
    rw [if_neg hj5] at h
    cases h
  dsimp only at h
  refine v_callVxi (As := [.int i1, .int i2]) (rest := [.int 0, .ref (gAd g a3)]) F (c_X10_stay l hst F.2.2.1 t0 hz3) (cwV 2 F.1.2.2.2.2 (gU_V ml_L_22 im_yX10_stay se_yX10_stay ini_X10 cd_X10_stay) rfl rfl rfl (by decide +kernel) ⟨Nat.le_of_ble_eq_true rfl, Nat.le_of_ble_eq_true rfl⟩) t0 (by decide) rfl rfl rfl (Nat.le_of_ble_eq_true rfl) dL_stay_5 ⟨Nat.le_of_ble_eq_true rfl, Nat.le_of_ble_eq_true rfl⟩ ?_
  refine v_i2l F dL_stay_8 rfl ?_
  obtain ⟨hin6, h⟩ := gd_some h
  refine v_last F rfl t3 hin6 dL_stay_9 ?_
  refine v_goto (tgt := 17) F dL_stay_10 (by decide) ?_
  refine v_iconst (v := 0) F dL_stay_17 (by decide) ?_
  cases h
  refine v_iretX F hr rfl hlk dL_stay_18 ?_ ?_ <;> decide
def f_L_shape  (M : Mem) (a0 : Nat) (i1 : Int32) (i2 : Int32) (i3 : Int32) (a4 : Nat) : Option ((Int32 ⊕ Nat) × Mem) := (f_X10_shape M a0 i1 i2 i3).bind fun q => match q with | (.inl r1, M2) => (if ¬ ((0 : Int32) < 0 ∨ gN a4 ≤ (0 : Int32).toNatClampNeg) then (some (.inl 0, (mU M2 a4 (0 : Int32).toNatClampNeg r1))) else none) | (.inr j4, M2) => if j4 = 0 then (some (.inl 1, M2)) else (none)
set_option maxHeartbeats 4000000 in
set_option maxRecDepth 100000 in
theorem c_L_shape {g : gT} (l : Launch) (hst : l.stackTraces = false) (hok : gOK g) {a0 : Nat} {i1 : Int32} {i2 : Int32} {i3 : Int32} {a4 : Nat} {M : Mem} {z : (Int32 ⊕ Nat) × Mem} (t0 : Ty g 10 a0) (t4 : Ty g 17 a4) (h : f_L_shape M a0 i1 i2 i3 a4 = some z) : Cx g l yL_shape uL_shape 9 2 12 [.ref (gAd g a0), .int i1, .int i2, .int i3, .ref (gAd g a4)] M vI z := by
  refine Cx.ofW (cc := cL_shape) (maxL := 6) (ret := (some .int)) (hh := [(0, 12, 15, 13)]) hok (by decide) rfl (Nat.le_of_ble_eq_true rfl) (fun p e s m args below meth c F hr hlk htab => ?_)
  unfold f_L_shape at h
  show V g p l e ({ frames := 9, cells := 2, slots := 12, locals := 40 * 9 } : Room) s m args below meth c 6 0 0 (vx_MQ below (gQx g vI z) (gXx g z) args s 2 12 (gA g)) 0 [(0, .ref (gAd g a0)), (1, .int i1), (2, .int i2), (3, .int i3), (4, .ref (gAd g a4))] [] M
  refine v_aload F dL_shape_0 4 rfl ?_
  refine v_iconst (v := 0) F dL_shape_2 (by decide) ?_
  refine v_aload_n F dL_shape_3 rfl 0 rfl ?_
  refine v_iload_n F dL_shape_4 rfl 1 rfl ?_
  refine v_iload_n F dL_shape_5 rfl 2 rfl ?_
  refine v_iload_n F dL_shape_6 rfl 3 rfl ?_
  obtain ⟨⟨r1 | j4, M2⟩, hz3, h⟩ := bd_some h
  rotate_left
  · dsimp only at h
    refine v_callVxT (As := [.int i1, .int i2, .int i3]) (rest := [.int 0, .ref (gAd g a4)]) F (c_X10_shape l hst F.2.2.1 t0 hz3) (cwV 3 F.1.2.2.2.2 (gU_V ml_L_28 im_yX10_shape se_yX10_shape ini_X10 cd_X10_shape) rfl rfl rfl (by decide +kernel) ⟨Nat.le_of_ble_eq_true rfl, Nat.le_of_ble_eq_true rfl⟩) t0 (by decide) rfl rfl rfl (Nat.le_of_ble_eq_true rfl) dL_shape_7 ⟨Nat.le_of_ble_eq_true rfl, Nat.le_of_ble_eq_true rfl⟩ ?_
    by_cases hj5 : j4 = 0
    · subst hj5
      rw [if_pos rfl] at h
      refine v_catch F (E := exN 0) (name := "java/lang/IllegalArgumentException") (tableOf []) ⟨0, 12, 15, 13⟩ (tableOf []) (htab.trans rfl) (fun z hz => by simp [tableOf] at hz) (by decide) (by decide) (List.mem_cons_of_mem _ cl_L_13) (by decide) rfl (fun q9 => ?_)
      refine v_astore (lv' := [(5, .ref (q9)), (0, .ref (gAd g a0)), (1, .int i1), (2, .int i2), (3, .int i3), (4, .ref (gAd g a4))]) F dL_shape_15 (by decide) rfl ?_
      refine v_iconst (v := 1) F dL_shape_17 (by decide) ?_
      cases h
      refine v_iretX F hr rfl hlk dL_shape_18 ?_ ?_ <;> decide
    rw [if_neg hj5] at h
    cases h
  dsimp only at h
  refine v_callVxi (As := [.int i1, .int i2, .int i3]) (rest := [.int 0, .ref (gAd g a4)]) F (c_X10_shape l hst F.2.2.1 t0 hz3) (cwV 3 F.1.2.2.2.2 (gU_V ml_L_28 im_yX10_shape se_yX10_shape ini_X10 cd_X10_shape) rfl rfl rfl (by decide +kernel) ⟨Nat.le_of_ble_eq_true rfl, Nat.le_of_ble_eq_true rfl⟩) t0 (by decide) rfl rfl rfl (Nat.le_of_ble_eq_true rfl) dL_shape_7 ⟨Nat.le_of_ble_eq_true rfl, Nat.le_of_ble_eq_true rfl⟩ ?_
  refine v_i2l F dL_shape_10 rfl ?_
  obtain ⟨hin6, h⟩ := gd_some h
  refine v_last F rfl t4 hin6 dL_shape_11 ?_
  refine v_goto (tgt := 19) F dL_shape_12 (by decide) ?_
  refine v_iconst (v := 0) F dL_shape_19 (by decide) ?_
  cases h
  refine v_iretX F hr rfl hlk dL_shape_20 ?_ ?_ <;> decide
def f_L_go  (M : Mem) (a0 : Nat) (i1 : Int32) (i2 : Int32) (i3 : Int32) (a4 : Nat) : Option ((Int32 ⊕ Nat) × Mem) := (f_X10_go M a0 i1 i2 i3).bind fun q => match q with | (.inl r1, M2) => (if ¬ ((0 : Int32) < 0 ∨ gN a4 ≤ (0 : Int32).toNatClampNeg) then (some (.inl 0, (mU M2 a4 (0 : Int32).toNatClampNeg r1))) else none) | (.inr j4, M2) => if j4 = 2 then (some (.inl 1, M2)) else (if j4 = 0 then (some (.inl 2, M2)) else (none))
set_option maxHeartbeats 4000000 in
set_option maxRecDepth 100000 in
theorem c_L_go {g : gT} (l : Launch) (hst : l.stackTraces = false) (hok : gOK g) {a0 : Nat} {i1 : Int32} {i2 : Int32} {i3 : Int32} {a4 : Nat} {M : Mem} {z : (Int32 ⊕ Nat) × Mem} (t0 : Ty g 10 a0) (t4 : Ty g 17 a4) (h : f_L_go M a0 i1 i2 i3 a4 = some z) : Cx g l yL_go uL_go 9 3 18 [.ref (gAd g a0), .int i1, .int i2, .int i3, .ref (gAd g a4)] M vI z := by
  refine Cx.ofW (cc := cL_go) (maxL := 6) (ret := (some .int)) (hh := [(0, 12, 15, 35), (0, 12, 19, 13)]) hok (by decide) rfl (Nat.le_of_ble_eq_true rfl) (fun p e s m args below meth c F hr hlk htab => ?_)
  unfold f_L_go at h
  show V g p l e ({ frames := 9, cells := 3, slots := 18, locals := 40 * 9 } : Room) s m args below meth c 6 0 0 (vx_MQ below (gQx g vI z) (gXx g z) args s 3 18 (gA g)) 0 [(0, .ref (gAd g a0)), (1, .int i1), (2, .int i2), (3, .int i3), (4, .ref (gAd g a4))] [] M
  refine v_aload F dL_go_0 4 rfl ?_
  refine v_iconst (v := 0) F dL_go_2 (by decide) ?_
  refine v_aload_n F dL_go_3 rfl 0 rfl ?_
  refine v_iload_n F dL_go_4 rfl 1 rfl ?_
  refine v_iload_n F dL_go_5 rfl 2 rfl ?_
  refine v_iload_n F dL_go_6 rfl 3 rfl ?_
  obtain ⟨⟨r1 | j4, M2⟩, hz3, h⟩ := bd_some h
  rotate_left
  · dsimp only at h
    refine v_callVxT (As := [.int i1, .int i2, .int i3]) (rest := [.int 0, .ref (gAd g a4)]) F (c_X10_go l hst F.2.2.1 t0 hz3) (cwV 3 F.1.2.2.2.2 (gU_V ml_L_32 im_yX10_go se_yX10_go ini_X10 cd_X10_go) rfl rfl rfl (by decide +kernel) ⟨Nat.le_of_ble_eq_true rfl, Nat.le_of_ble_eq_true rfl⟩) t0 (by decide) rfl rfl rfl (Nat.le_of_ble_eq_true rfl) dL_go_7 ⟨Nat.le_of_ble_eq_true rfl, Nat.le_of_ble_eq_true rfl⟩ ?_
    by_cases hj5 : j4 = 2
    · subst hj5
      rw [if_pos rfl] at h
      refine v_catch F (E := exN 2) (name := "java/lang/IndexOutOfBoundsException") (tableOf []) ⟨0, 12, 15, 35⟩ (tableOf [(0, 12, 19, 13)]) (htab.trans rfl) (fun z hz => by simp [tableOf] at hz) (by decide) (by decide) (List.mem_cons_of_mem _ cl_L_35) (by decide) rfl (fun q9 => ?_)
      refine v_astore (lv' := [(5, .ref (q9)), (0, .ref (gAd g a0)), (1, .int i1), (2, .int i2), (3, .int i3), (4, .ref (gAd g a4))]) F dL_go_15 (by decide) rfl ?_
      refine v_iconst (v := 1) F dL_go_17 (by decide) ?_
      cases h
      refine v_iretX F hr rfl hlk dL_go_18 ?_ ?_ <;> decide
    rw [if_neg hj5] at h
    by_cases hj6 : j4 = 0
    · subst hj6
      rw [if_pos rfl] at h
      refine v_catch F (E := exN 0) (name := "java/lang/IllegalArgumentException") (tableOf [(0, 12, 15, 35)]) ⟨0, 12, 19, 13⟩ (tableOf []) (htab.trans rfl) (fun z hz => by
          simp only [tableOf, List.map, List.mem_cons, List.not_mem_nil, or_false] at hz
          rcases hz with rfl
          · exact Or.inr ⟨by decide, "java/lang/IndexOutOfBoundsException", (List.mem_cons_of_mem _ cl_L_35), by decide, by decide⟩) (by decide) (by decide) (List.mem_cons_of_mem _ cl_L_13) (by decide) rfl (fun q9 => ?_)
      refine v_astore (lv' := [(5, .ref (q9)), (0, .ref (gAd g a0)), (1, .int i1), (2, .int i2), (3, .int i3), (4, .ref (gAd g a4))]) F dL_go_19 (by decide) rfl ?_
      refine v_iconst (v := 2) F dL_go_21 (by decide) ?_
      cases h
      refine v_iretX F hr rfl hlk dL_go_22 ?_ ?_ <;> decide
    rw [if_neg hj6] at h
    cases h
  dsimp only at h
  refine v_callVxi (As := [.int i1, .int i2, .int i3]) (rest := [.int 0, .ref (gAd g a4)]) F (c_X10_go l hst F.2.2.1 t0 hz3) (cwV 3 F.1.2.2.2.2 (gU_V ml_L_32 im_yX10_go se_yX10_go ini_X10 cd_X10_go) rfl rfl rfl (by decide +kernel) ⟨Nat.le_of_ble_eq_true rfl, Nat.le_of_ble_eq_true rfl⟩) t0 (by decide) rfl rfl rfl (Nat.le_of_ble_eq_true rfl) dL_go_7 ⟨Nat.le_of_ble_eq_true rfl, Nat.le_of_ble_eq_true rfl⟩ ?_
  refine v_i2l F dL_go_10 rfl ?_
  obtain ⟨hin7, h⟩ := gd_some h
  refine v_last F rfl t4 hin7 dL_go_11 ?_
  refine v_goto (tgt := 23) F dL_go_12 (by decide) ?_
  refine v_iconst (v := 0) F dL_go_23 (by decide) ?_
  cases h
  refine v_iretX F hr rfl hlk dL_go_24 ?_ ?_ <;> decide
def f_L_piece  (M : Mem) (a0 : Nat) (i1 : Int32) (i2 : Int32) (a3 : Nat) : Option ((Int32 ⊕ Nat) × Mem) := (f_X10_piece M a0 i1 i2).bind fun q => match q with | (.inl r1, M2) => (if ¬ ((0 : Int32) < 0 ∨ gN a3 ≤ (0 : Int32).toNatClampNeg) then (some (.inl 0, (mU M2 a3 (0 : Int32).toNatClampNeg r1))) else none) | (.inr j4, M2) => if j4 = 1 then (some (.inl 1, M2)) else (if j4 = 0 then (some (.inl 2, M2)) else (none))
set_option maxHeartbeats 4000000 in
set_option maxRecDepth 100000 in
theorem c_L_piece {g : gT} (l : Launch) (hst : l.stackTraces = false) (hok : gOK g) {a0 : Nat} {i1 : Int32} {i2 : Int32} {a3 : Nat} {M : Mem} {z : (Int32 ⊕ Nat) × Mem} (t0 : Ty g 10 a0) (t3 : Ty g 17 a3) (h : f_L_piece M a0 i1 i2 a3 = some z) : Cx g l yL_piece uL_piece 8 2 12 [.ref (gAd g a0), .int i1, .int i2, .ref (gAd g a3)] M vI z := by
  refine Cx.ofW (cc := cL_piece) (maxL := 5) (ret := (some .int)) (hh := [(0, 10, 13, 26), (0, 10, 17, 13)]) hok (by decide) rfl (Nat.le_of_ble_eq_true rfl) (fun p e s m args below meth c F hr hlk htab => ?_)
  unfold f_L_piece at h
  show V g p l e ({ frames := 8, cells := 2, slots := 12, locals := 40 * 8 } : Room) s m args below meth c 5 0 0 (vx_MQ below (gQx g vI z) (gXx g z) args s 2 12 (gA g)) 0 [(0, .ref (gAd g a0)), (1, .int i1), (2, .int i2), (3, .ref (gAd g a3))] [] M
  refine v_aload_n F dL_piece_0 rfl 3 rfl ?_
  refine v_iconst (v := 0) F dL_piece_1 (by decide) ?_
  refine v_aload_n F dL_piece_2 rfl 0 rfl ?_
  refine v_iload_n F dL_piece_3 rfl 1 rfl ?_
  refine v_iload_n F dL_piece_4 rfl 2 rfl ?_
  obtain ⟨⟨r1 | j4, M2⟩, hz3, h⟩ := bd_some h
  rotate_left
  · dsimp only at h
    refine v_callVxT (As := [.int i1, .int i2]) (rest := [.int 0, .ref (gAd g a3)]) F (c_X10_piece l hst F.2.2.1 t0 hz3) (cwV 2 F.1.2.2.2.2 (gU_V ml_L_37 im_yX10_piece se_yX10_piece ini_X10 cd_X10_piece) rfl rfl rfl (by decide +kernel) ⟨Nat.le_of_ble_eq_true rfl, Nat.le_of_ble_eq_true rfl⟩) t0 (by decide) rfl rfl rfl (Nat.le_of_ble_eq_true rfl) dL_piece_5 ⟨Nat.le_of_ble_eq_true rfl, Nat.le_of_ble_eq_true rfl⟩ ?_
    by_cases hj5 : j4 = 1
    · subst hj5
      rw [if_pos rfl] at h
      refine v_catch F (E := exN 1) (name := "java/util/NoSuchElementException") (tableOf []) ⟨0, 10, 13, 26⟩ (tableOf [(0, 10, 17, 13)]) (htab.trans rfl) (fun z hz => by simp [tableOf] at hz) (by decide) (by decide) (List.mem_cons_of_mem _ cl_L_26) (by decide) rfl (fun q9 => ?_)
      refine v_astore (lv' := [(4, .ref (q9)), (0, .ref (gAd g a0)), (1, .int i1), (2, .int i2), (3, .ref (gAd g a3))]) F dL_piece_13 (by decide) rfl ?_
      refine v_iconst (v := 1) F dL_piece_15 (by decide) ?_
      cases h
      refine v_iretX F hr rfl hlk dL_piece_16 ?_ ?_ <;> decide
    rw [if_neg hj5] at h
    by_cases hj6 : j4 = 0
    · subst hj6
      rw [if_pos rfl] at h
      refine v_catch F (E := exN 0) (name := "java/lang/IllegalArgumentException") (tableOf [(0, 10, 13, 26)]) ⟨0, 10, 17, 13⟩ (tableOf []) (htab.trans rfl) (fun z hz => by
          simp only [tableOf, List.map, List.mem_cons, List.not_mem_nil, or_false] at hz
          rcases hz with rfl
          · exact Or.inr ⟨by decide, "java/util/NoSuchElementException", (List.mem_cons_of_mem _ cl_L_26), by decide, by decide⟩) (by decide) (by decide) (List.mem_cons_of_mem _ cl_L_13) (by decide) rfl (fun q9 => ?_)
      refine v_astore (lv' := [(4, .ref (q9)), (0, .ref (gAd g a0)), (1, .int i1), (2, .int i2), (3, .ref (gAd g a3))]) F dL_piece_17 (by decide) rfl ?_
      refine v_iconst (v := 2) F dL_piece_19 (by decide) ?_
      cases h
      refine v_iretX F hr rfl hlk dL_piece_20 ?_ ?_ <;> decide
    rw [if_neg hj6] at h
    cases h
  dsimp only at h
  refine v_callVxi (As := [.int i1, .int i2]) (rest := [.int 0, .ref (gAd g a3)]) F (c_X10_piece l hst F.2.2.1 t0 hz3) (cwV 2 F.1.2.2.2.2 (gU_V ml_L_37 im_yX10_piece se_yX10_piece ini_X10 cd_X10_piece) rfl rfl rfl (by decide +kernel) ⟨Nat.le_of_ble_eq_true rfl, Nat.le_of_ble_eq_true rfl⟩) t0 (by decide) rfl rfl rfl (Nat.le_of_ble_eq_true rfl) dL_piece_5 ⟨Nat.le_of_ble_eq_true rfl, Nat.le_of_ble_eq_true rfl⟩ ?_
  refine v_i2l F dL_piece_8 rfl ?_
  obtain ⟨hin7, h⟩ := gd_some h
  refine v_last F rfl t3 hin7 dL_piece_9 ?_
  refine v_goto (tgt := 21) F dL_piece_10 (by decide) ?_
  refine v_iconst (v := 0) F dL_piece_21 (by decide) ?_
  cases h
  refine v_iretX F hr rfl hlk dL_piece_22 ?_ ?_ <;> decide
def f_L_push  (M : Mem) (a0 : Nat) (i1 : Int32) (i2 : Int32) (i3 : Int32) (i4 : Int32) (a5 : Nat) : Option ((Int32 ⊕ Nat) × Mem) := (f_X10_push M a0 i1 i2 i3 i4).bind fun q => match q with | (.inl r1, M2) => (if ¬ ((0 : Int32) < 0 ∨ gN a5 ≤ (0 : Int32).toNatClampNeg) then (some (.inl 0, (mU M2 a5 (0 : Int32).toNatClampNeg r1))) else none) | (.inr j4, M2) => if j4 = 2 then (some (.inl 1, M2)) else (if j4 = 1 then (some (.inl 2, M2)) else (if j4 = 0 then (some (.inl 3, M2)) else (none)))
set_option maxHeartbeats 4000000 in
set_option maxRecDepth 100000 in
theorem c_L_push {g : gT} (l : Launch) (hst : l.stackTraces = false) (hok : gOK g) {a0 : Nat} {i1 : Int32} {i2 : Int32} {i3 : Int32} {i4 : Int32} {a5 : Nat} {M : Mem} {z : (Int32 ⊕ Nat) × Mem} (t0 : Ty g 10 a0) (t5 : Ty g 17 a5) (h : f_L_push M a0 i1 i2 i3 i4 a5 = some z) : Cx g l yL_push uL_push 9 3 18 [.ref (gAd g a0), .int i1, .int i2, .int i3, .int i4, .ref (gAd g a5)] M vI z := by
  refine Cx.ofW (cc := cL_push) (maxL := 7) (ret := (some .int)) (hh := [(0, 14, 17, 35), (0, 14, 21, 26), (0, 14, 25, 13)]) hok (by decide) rfl (Nat.le_of_ble_eq_true rfl) (fun p e s m args below meth c F hr hlk htab => ?_)
  unfold f_L_push at h
  show V g p l e ({ frames := 9, cells := 3, slots := 18, locals := 40 * 9 } : Room) s m args below meth c 7 0 0 (vx_MQ below (gQx g vI z) (gXx g z) args s 3 18 (gA g)) 0 [(0, .ref (gAd g a0)), (1, .int i1), (2, .int i2), (3, .int i3), (4, .int i4), (5, .ref (gAd g a5))] [] M
  refine v_aload F dL_push_0 5 rfl ?_
  refine v_iconst (v := 0) F dL_push_2 (by decide) ?_
  refine v_aload_n F dL_push_3 rfl 0 rfl ?_
  refine v_iload_n F dL_push_4 rfl 1 rfl ?_
  refine v_iload_n F dL_push_5 rfl 2 rfl ?_
  refine v_iload_n F dL_push_6 rfl 3 rfl ?_
  refine v_iload F dL_push_7 4 rfl ?_
  obtain ⟨⟨r1 | j4, M2⟩, hz3, h⟩ := bd_some h
  rotate_left
  · dsimp only at h
    refine v_callVxT (As := [.int i1, .int i2, .int i3, .int i4]) (rest := [.int 0, .ref (gAd g a5)]) F (c_X10_push l hst F.2.2.1 t0 hz3) (cwV 4 F.1.2.2.2.2 (gU_V ml_L_40 im_yX10_push se_yX10_push ini_X10 cd_X10_push) rfl rfl rfl (by decide +kernel) ⟨Nat.le_of_ble_eq_true rfl, Nat.le_of_ble_eq_true rfl⟩) t0 (by decide) rfl rfl rfl (Nat.le_of_ble_eq_true rfl) dL_push_9 ⟨Nat.le_of_ble_eq_true rfl, Nat.le_of_ble_eq_true rfl⟩ ?_
    by_cases hj5 : j4 = 2
    · subst hj5
      rw [if_pos rfl] at h
      refine v_catch F (E := exN 2) (name := "java/lang/IndexOutOfBoundsException") (tableOf []) ⟨0, 14, 17, 35⟩ (tableOf [(0, 14, 21, 26), (0, 14, 25, 13)]) (htab.trans rfl) (fun z hz => by simp [tableOf] at hz) (by decide) (by decide) (List.mem_cons_of_mem _ cl_L_35) (by decide) rfl (fun q9 => ?_)
      refine v_astore (lv' := [(6, .ref (q9)), (0, .ref (gAd g a0)), (1, .int i1), (2, .int i2), (3, .int i3), (4, .int i4), (5, .ref (gAd g a5))]) F dL_push_17 (by decide) rfl ?_
      refine v_iconst (v := 1) F dL_push_19 (by decide) ?_
      cases h
      refine v_iretX F hr rfl hlk dL_push_20 ?_ ?_ <;> decide
    rw [if_neg hj5] at h
    by_cases hj6 : j4 = 1
    · subst hj6
      rw [if_pos rfl] at h
      refine v_catch F (E := exN 1) (name := "java/util/NoSuchElementException") (tableOf [(0, 14, 17, 35)]) ⟨0, 14, 21, 26⟩ (tableOf [(0, 14, 25, 13)]) (htab.trans rfl) (fun z hz => by
          simp only [tableOf, List.map, List.mem_cons, List.not_mem_nil, or_false] at hz
          rcases hz with rfl
          · exact Or.inr ⟨by decide, "java/lang/IndexOutOfBoundsException", (List.mem_cons_of_mem _ cl_L_35), by decide, by decide⟩) (by decide) (by decide) (List.mem_cons_of_mem _ cl_L_26) (by decide) rfl (fun q9 => ?_)
      refine v_astore (lv' := [(6, .ref (q9)), (0, .ref (gAd g a0)), (1, .int i1), (2, .int i2), (3, .int i3), (4, .int i4), (5, .ref (gAd g a5))]) F dL_push_21 (by decide) rfl ?_
      refine v_iconst (v := 2) F dL_push_23 (by decide) ?_
      cases h
      refine v_iretX F hr rfl hlk dL_push_24 ?_ ?_ <;> decide
    rw [if_neg hj6] at h
    by_cases hj7 : j4 = 0
    · subst hj7
      rw [if_pos rfl] at h
      refine v_catch F (E := exN 0) (name := "java/lang/IllegalArgumentException") (tableOf [(0, 14, 17, 35), (0, 14, 21, 26)]) ⟨0, 14, 25, 13⟩ (tableOf []) (htab.trans rfl) (fun z hz => by
          simp only [tableOf, List.map, List.mem_cons, List.not_mem_nil, or_false] at hz
          rcases hz with rfl | rfl
          · exact Or.inr ⟨by decide, "java/lang/IndexOutOfBoundsException", (List.mem_cons_of_mem _ cl_L_35), by decide, by decide⟩
          · exact Or.inr ⟨by decide, "java/util/NoSuchElementException", (List.mem_cons_of_mem _ cl_L_26), by decide, by decide⟩) (by decide) (by decide) (List.mem_cons_of_mem _ cl_L_13) (by decide) rfl (fun q9 => ?_)
      refine v_astore (lv' := [(6, .ref (q9)), (0, .ref (gAd g a0)), (1, .int i1), (2, .int i2), (3, .int i3), (4, .int i4), (5, .ref (gAd g a5))]) F dL_push_25 (by decide) rfl ?_
      refine v_iconst (v := 3) F dL_push_27 (by decide) ?_
      cases h
      refine v_iretX F hr rfl hlk dL_push_28 ?_ ?_ <;> decide
    rw [if_neg hj7] at h
    cases h
  dsimp only at h
  refine v_callVxi (As := [.int i1, .int i2, .int i3, .int i4]) (rest := [.int 0, .ref (gAd g a5)]) F (c_X10_push l hst F.2.2.1 t0 hz3) (cwV 4 F.1.2.2.2.2 (gU_V ml_L_40 im_yX10_push se_yX10_push ini_X10 cd_X10_push) rfl rfl rfl (by decide +kernel) ⟨Nat.le_of_ble_eq_true rfl, Nat.le_of_ble_eq_true rfl⟩) t0 (by decide) rfl rfl rfl (Nat.le_of_ble_eq_true rfl) dL_push_9 ⟨Nat.le_of_ble_eq_true rfl, Nat.le_of_ble_eq_true rfl⟩ ?_
  refine v_i2l F dL_push_12 rfl ?_
  obtain ⟨hin8, h⟩ := gd_some h
  refine v_last F rfl t5 hin8 dL_push_13 ?_
  refine v_goto (tgt := 29) F dL_push_14 (by decide) ?_
  refine v_iconst (v := 0) F dL_push_29 (by decide) ?_
  cases h
  refine v_iretX F hr rfl hlk dL_push_30 ?_ ?_ <;> decide
def f_L_grows  (M : Mem) (a0 : Nat) (i1 : Int32) (i2 : Int32) (i3 : Int32) (i4 : Int32) (a5 : Nat) : Option ((Int32 ⊕ Nat) × Mem) := (f_X10_grows M a0 i1 i2 i3 i4).bind fun q => match q with | (.inl r1, M2) => (if r1 = 0 then (if ¬ ((0 : Int32) < 0 ∨ gN a5 ≤ (0 : Int32).toNatClampNeg) then (some (.inl 0, (mU M2 a5 (0 : Int32).toNatClampNeg (0 : Int32)))) else none) else (if ¬ ((0 : Int32) < 0 ∨ gN a5 ≤ (0 : Int32).toNatClampNeg) then (some (.inl 0, (mU M2 a5 (0 : Int32).toNatClampNeg (1 : Int32)))) else none)) | (.inr j4, M2) => if j4 = 2 then (some (.inl 1, M2)) else (if j4 = 0 then (some (.inl 2, M2)) else (none))
set_option maxHeartbeats 4000000 in
set_option maxRecDepth 100000 in
theorem c_L_grows {g : gT} (l : Launch) (hst : l.stackTraces = false) (hok : gOK g) {a0 : Nat} {i1 : Int32} {i2 : Int32} {i3 : Int32} {i4 : Int32} {a5 : Nat} {M : Mem} {z : (Int32 ⊕ Nat) × Mem} (t0 : Ty g 10 a0) (t5 : Ty g 17 a5) (h : f_L_grows M a0 i1 i2 i3 i4 a5 = some z) : Cx g l yL_grows uL_grows 9 3 18 [.ref (gAd g a0), .int i1, .int i2, .int i3, .int i4, .ref (gAd g a5)] M vI z := by
  refine Cx.ofW (cc := cL_grows) (maxL := 7) (ret := (some .int)) (hh := [(0, 21, 24, 35), (0, 21, 28, 13)]) hok (by decide) rfl (Nat.le_of_ble_eq_true rfl) (fun p e s m args below meth c F hr hlk htab => ?_)
  unfold f_L_grows at h
  show V g p l e ({ frames := 9, cells := 3, slots := 18, locals := 40 * 9 } : Room) s m args below meth c 7 0 0 (vx_MQ below (gQx g vI z) (gXx g z) args s 3 18 (gA g)) 0 [(0, .ref (gAd g a0)), (1, .int i1), (2, .int i2), (3, .int i3), (4, .int i4), (5, .ref (gAd g a5))] [] M
  refine v_aload F dL_grows_0 5 rfl ?_
  refine v_iconst (v := 0) F dL_grows_2 (by decide) ?_
  refine v_aload_n F dL_grows_3 rfl 0 rfl ?_
  refine v_iload_n F dL_grows_4 rfl 1 rfl ?_
  refine v_iload_n F dL_grows_5 rfl 2 rfl ?_
  refine v_iload_n F dL_grows_6 rfl 3 rfl ?_
  refine v_iload F dL_grows_7 4 rfl ?_
  obtain ⟨⟨r1 | j4, M2⟩, hz3, h⟩ := bd_some h
  rotate_left
  · dsimp only at h
    refine v_callVxT (As := [.int i1, .int i2, .int i3, .int i4]) (rest := [.int 0, .ref (gAd g a5)]) F (c_X10_grows l hst F.2.2.1 t0 hz3) (cwV 4 F.1.2.2.2.2 (gU_V ml_L_44 im_yX10_grows se_yX10_grows ini_X10 cd_X10_grows) rfl rfl rfl (by decide +kernel) ⟨Nat.le_of_ble_eq_true rfl, Nat.le_of_ble_eq_true rfl⟩) t0 (by decide) rfl rfl rfl (Nat.le_of_ble_eq_true rfl) dL_grows_9 ⟨Nat.le_of_ble_eq_true rfl, Nat.le_of_ble_eq_true rfl⟩ ?_
    by_cases hj5 : j4 = 2
    · subst hj5
      rw [if_pos rfl] at h
      refine v_catch F (E := exN 2) (name := "java/lang/IndexOutOfBoundsException") (tableOf []) ⟨0, 21, 24, 35⟩ (tableOf [(0, 21, 28, 13)]) (htab.trans rfl) (fun z hz => by simp [tableOf] at hz) (by decide) (by decide) (List.mem_cons_of_mem _ cl_L_35) (by decide) rfl (fun q9 => ?_)
      refine v_astore (lv' := [(6, .ref (q9)), (0, .ref (gAd g a0)), (1, .int i1), (2, .int i2), (3, .int i3), (4, .int i4), (5, .ref (gAd g a5))]) F dL_grows_24 (by decide) rfl ?_
      refine v_iconst (v := 1) F dL_grows_26 (by decide) ?_
      cases h
      refine v_iretX F hr rfl hlk dL_grows_27 ?_ ?_ <;> decide
    rw [if_neg hj5] at h
    by_cases hj6 : j4 = 0
    · subst hj6
      rw [if_pos rfl] at h
      refine v_catch F (E := exN 0) (name := "java/lang/IllegalArgumentException") (tableOf [(0, 21, 24, 35)]) ⟨0, 21, 28, 13⟩ (tableOf []) (htab.trans rfl) (fun z hz => by
          simp only [tableOf, List.map, List.mem_cons, List.not_mem_nil, or_false] at hz
          rcases hz with rfl
          · exact Or.inr ⟨by decide, "java/lang/IndexOutOfBoundsException", (List.mem_cons_of_mem _ cl_L_35), by decide, by decide⟩) (by decide) (by decide) (List.mem_cons_of_mem _ cl_L_13) (by decide) rfl (fun q9 => ?_)
      refine v_astore (lv' := [(6, .ref (q9)), (0, .ref (gAd g a0)), (1, .int i1), (2, .int i2), (3, .int i3), (4, .int i4), (5, .ref (gAd g a5))]) F dL_grows_28 (by decide) rfl ?_
      refine v_iconst (v := 2) F dL_grows_30 (by decide) ?_
      cases h
      refine v_iretX F hr rfl hlk dL_grows_31 ?_ ?_ <;> decide
    rw [if_neg hj6] at h
    cases h
  dsimp only at h
  refine v_callVxi (As := [.int i1, .int i2, .int i3, .int i4]) (rest := [.int 0, .ref (gAd g a5)]) F (c_X10_grows l hst F.2.2.1 t0 hz3) (cwV 4 F.1.2.2.2.2 (gU_V ml_L_44 im_yX10_grows se_yX10_grows ini_X10 cd_X10_grows) rfl rfl rfl (by decide +kernel) ⟨Nat.le_of_ble_eq_true rfl, Nat.le_of_ble_eq_true rfl⟩) t0 (by decide) rfl rfl rfl (Nat.le_of_ble_eq_true rfl) dL_grows_9 ⟨Nat.le_of_ble_eq_true rfl, Nat.le_of_ble_eq_true rfl⟩ ?_
  refine v_if_eq (tgt := 19) F dL_grows_12 (by decide) (fun hc7 => ?_) (fun hc7 => ?_)
  · rw [if_pos hc7] at h
    refine v_lconst (v := (0 : Int32).toInt64) F dL_grows_19 (by decide) ?_
    obtain ⟨hin8, h⟩ := gd_some h
    refine v_last F rfl t5 hin8 dL_grows_20 ?_
    refine v_goto (tgt := 32) F dL_grows_21 (by decide) ?_
    refine v_iconst (v := 0) F dL_grows_32 (by decide) ?_
    cases h
    refine v_iretX F hr rfl hlk dL_grows_33 ?_ ?_ <;> decide
  · rw [if_neg hc7] at h
    refine v_lconst (v := (1 : Int32).toInt64) F dL_grows_15 (by decide) ?_
    refine v_goto (tgt := 20) F dL_grows_16 (by decide) ?_
    obtain ⟨hin9, h⟩ := gd_some h
    refine v_last F rfl t5 hin9 dL_grows_20 ?_
    refine v_goto (tgt := 32) F dL_grows_21 (by decide) ?_
    refine v_iconst (v := 0) F dL_grows_32 (by decide) ?_
    cases h
    refine v_iretX F hr rfl hlk dL_grows_33 ?_ ?_ <;> decide
def f_L_line  (M : Mem) (a0 : Nat) (i1 : Int32) (i2 : Int32) (i3 : Int32) (a4 : Nat) : Option ((Int32 ⊕ Nat) × Mem) := (f_X10_line M a0 i1 i2 i3).bind fun q => match q with | (.inl r1, M2) => (if ¬ ((0 : Int32) < 0 ∨ gN a4 ≤ (0 : Int32).toNatClampNeg) then (some (.inl 0, (mU M2 a4 (0 : Int32).toNatClampNeg r1))) else none) | (.inr j4, M2) => if j4 = 2 then (some (.inl 1, M2)) else (if j4 = 0 then (some (.inl 2, M2)) else (none))
set_option maxHeartbeats 4000000 in
set_option maxRecDepth 100000 in
theorem c_L_line {g : gT} (l : Launch) (hst : l.stackTraces = false) (hok : gOK g) {a0 : Nat} {i1 : Int32} {i2 : Int32} {i3 : Int32} {a4 : Nat} {M : Mem} {z : (Int32 ⊕ Nat) × Mem} (t0 : Ty g 10 a0) (t4 : Ty g 17 a4) (h : f_L_line M a0 i1 i2 i3 a4 = some z) : Cx g l yL_line uL_line 9 2 12 [.ref (gAd g a0), .int i1, .int i2, .int i3, .ref (gAd g a4)] M vI z := by
  refine Cx.ofW (cc := cL_line) (maxL := 6) (ret := (some .int)) (hh := [(0, 12, 15, 35), (0, 12, 19, 13)]) hok (by decide) rfl (Nat.le_of_ble_eq_true rfl) (fun p e s m args below meth c F hr hlk htab => ?_)
  unfold f_L_line at h
  show V g p l e ({ frames := 9, cells := 2, slots := 12, locals := 40 * 9 } : Room) s m args below meth c 6 0 0 (vx_MQ below (gQx g vI z) (gXx g z) args s 2 12 (gA g)) 0 [(0, .ref (gAd g a0)), (1, .int i1), (2, .int i2), (3, .int i3), (4, .ref (gAd g a4))] [] M
  refine v_aload F dL_line_0 4 rfl ?_
  refine v_iconst (v := 0) F dL_line_2 (by decide) ?_
  refine v_aload_n F dL_line_3 rfl 0 rfl ?_
  refine v_iload_n F dL_line_4 rfl 1 rfl ?_
  refine v_iload_n F dL_line_5 rfl 2 rfl ?_
  refine v_iload_n F dL_line_6 rfl 3 rfl ?_
  obtain ⟨⟨r1 | j4, M2⟩, hz3, h⟩ := bd_some h
  rotate_left
  · dsimp only at h
    refine v_callVxT (As := [.int i1, .int i2, .int i3]) (rest := [.int 0, .ref (gAd g a4)]) F (c_X10_line l hst F.2.2.1 t0 hz3) (cwV 3 F.1.2.2.2.2 (gU_V ml_L_48 im_yX10_line se_yX10_line ini_X10 cd_X10_line) rfl rfl rfl (by decide +kernel) ⟨Nat.le_of_ble_eq_true rfl, Nat.le_of_ble_eq_true rfl⟩) t0 (by decide) rfl rfl rfl (Nat.le_of_ble_eq_true rfl) dL_line_7 ⟨Nat.le_of_ble_eq_true rfl, Nat.le_of_ble_eq_true rfl⟩ ?_
    by_cases hj5 : j4 = 2
    · subst hj5
      rw [if_pos rfl] at h
      refine v_catch F (E := exN 2) (name := "java/lang/IndexOutOfBoundsException") (tableOf []) ⟨0, 12, 15, 35⟩ (tableOf [(0, 12, 19, 13)]) (htab.trans rfl) (fun z hz => by simp [tableOf] at hz) (by decide) (by decide) (List.mem_cons_of_mem _ cl_L_35) (by decide) rfl (fun q9 => ?_)
      refine v_astore (lv' := [(5, .ref (q9)), (0, .ref (gAd g a0)), (1, .int i1), (2, .int i2), (3, .int i3), (4, .ref (gAd g a4))]) F dL_line_15 (by decide) rfl ?_
      refine v_iconst (v := 1) F dL_line_17 (by decide) ?_
      cases h
      refine v_iretX F hr rfl hlk dL_line_18 ?_ ?_ <;> decide
    rw [if_neg hj5] at h
    by_cases hj6 : j4 = 0
    · subst hj6
      rw [if_pos rfl] at h
      refine v_catch F (E := exN 0) (name := "java/lang/IllegalArgumentException") (tableOf [(0, 12, 15, 35)]) ⟨0, 12, 19, 13⟩ (tableOf []) (htab.trans rfl) (fun z hz => by
          simp only [tableOf, List.map, List.mem_cons, List.not_mem_nil, or_false] at hz
          rcases hz with rfl
          · exact Or.inr ⟨by decide, "java/lang/IndexOutOfBoundsException", (List.mem_cons_of_mem _ cl_L_35), by decide, by decide⟩) (by decide) (by decide) (List.mem_cons_of_mem _ cl_L_13) (by decide) rfl (fun q9 => ?_)
      refine v_astore (lv' := [(5, .ref (q9)), (0, .ref (gAd g a0)), (1, .int i1), (2, .int i2), (3, .int i3), (4, .ref (gAd g a4))]) F dL_line_19 (by decide) rfl ?_
      refine v_iconst (v := 2) F dL_line_21 (by decide) ?_
      cases h
      refine v_iretX F hr rfl hlk dL_line_22 ?_ ?_ <;> decide
    rw [if_neg hj6] at h
    cases h
  dsimp only at h
  refine v_callVxi (As := [.int i1, .int i2, .int i3]) (rest := [.int 0, .ref (gAd g a4)]) F (c_X10_line l hst F.2.2.1 t0 hz3) (cwV 3 F.1.2.2.2.2 (gU_V ml_L_48 im_yX10_line se_yX10_line ini_X10 cd_X10_line) rfl rfl rfl (by decide +kernel) ⟨Nat.le_of_ble_eq_true rfl, Nat.le_of_ble_eq_true rfl⟩) t0 (by decide) rfl rfl rfl (Nat.le_of_ble_eq_true rfl) dL_line_7 ⟨Nat.le_of_ble_eq_true rfl, Nat.le_of_ble_eq_true rfl⟩ ?_
  refine v_i2l F dL_line_10 rfl ?_
  obtain ⟨hin7, h⟩ := gd_some h
  refine v_last F rfl t4 hin7 dL_line_11 ?_
  refine v_goto (tgt := 23) F dL_line_12 (by decide) ?_
  refine v_iconst (v := 0) F dL_line_23 (by decide) ?_
  cases h
  refine v_iretX F hr rfl hlk dL_line_24 ?_ ?_ <;> decide
def f_L_why  (M : Mem) (a0 : Nat) (i1 : Int32) (i2 : Int32) (i3 : Int32) (i4 : Int32) (a5 : Nat) : Option ((Int32 ⊕ Nat) × Mem) := (f_X10_why M a0 i1 i2 i3 i4).bind fun q => match q with | (.inl r1, M2) => (if ¬ ((0 : Int32) < 0 ∨ gN a5 ≤ (0 : Int32).toNatClampNeg) then (some (.inl 0, (mU M2 a5 (0 : Int32).toNatClampNeg r1))) else none) | (.inr j4, M2) => if j4 = 2 then (some (.inl 1, M2)) else (if j4 = 0 then (some (.inl 2, M2)) else (none))
set_option maxHeartbeats 4000000 in
set_option maxRecDepth 100000 in
theorem c_L_why {g : gT} (l : Launch) (hst : l.stackTraces = false) (hok : gOK g) {a0 : Nat} {i1 : Int32} {i2 : Int32} {i3 : Int32} {i4 : Int32} {a5 : Nat} {M : Mem} {z : (Int32 ⊕ Nat) × Mem} (t0 : Ty g 10 a0) (t5 : Ty g 17 a5) (h : f_L_why M a0 i1 i2 i3 i4 a5 = some z) : Cx g l yL_why uL_why 9 3 18 [.ref (gAd g a0), .int i1, .int i2, .int i3, .int i4, .ref (gAd g a5)] M vI z := by
  refine Cx.ofW (cc := cL_why) (maxL := 7) (ret := (some .int)) (hh := [(0, 14, 17, 35), (0, 14, 21, 13)]) hok (by decide) rfl (Nat.le_of_ble_eq_true rfl) (fun p e s m args below meth c F hr hlk htab => ?_)
  unfold f_L_why at h
  show V g p l e ({ frames := 9, cells := 3, slots := 18, locals := 40 * 9 } : Room) s m args below meth c 7 0 0 (vx_MQ below (gQx g vI z) (gXx g z) args s 3 18 (gA g)) 0 [(0, .ref (gAd g a0)), (1, .int i1), (2, .int i2), (3, .int i3), (4, .int i4), (5, .ref (gAd g a5))] [] M
  refine v_aload F dL_why_0 5 rfl ?_
  refine v_iconst (v := 0) F dL_why_2 (by decide) ?_
  refine v_aload_n F dL_why_3 rfl 0 rfl ?_
  refine v_iload_n F dL_why_4 rfl 1 rfl ?_
  refine v_iload_n F dL_why_5 rfl 2 rfl ?_
  refine v_iload_n F dL_why_6 rfl 3 rfl ?_
  refine v_iload F dL_why_7 4 rfl ?_
  obtain ⟨⟨r1 | j4, M2⟩, hz3, h⟩ := bd_some h
  rotate_left
  · dsimp only at h
    refine v_callVxT (As := [.int i1, .int i2, .int i3, .int i4]) (rest := [.int 0, .ref (gAd g a5)]) F (c_X10_why l hst F.2.2.1 t0 hz3) (cwV 4 F.1.2.2.2.2 (gU_V ml_L_51 im_yX10_why se_yX10_why ini_X10 cd_X10_why) rfl rfl rfl (by decide +kernel) ⟨Nat.le_of_ble_eq_true rfl, Nat.le_of_ble_eq_true rfl⟩) t0 (by decide) rfl rfl rfl (Nat.le_of_ble_eq_true rfl) dL_why_9 ⟨Nat.le_of_ble_eq_true rfl, Nat.le_of_ble_eq_true rfl⟩ ?_
    by_cases hj5 : j4 = 2
    · subst hj5
      rw [if_pos rfl] at h
      refine v_catch F (E := exN 2) (name := "java/lang/IndexOutOfBoundsException") (tableOf []) ⟨0, 14, 17, 35⟩ (tableOf [(0, 14, 21, 13)]) (htab.trans rfl) (fun z hz => by simp [tableOf] at hz) (by decide) (by decide) (List.mem_cons_of_mem _ cl_L_35) (by decide) rfl (fun q9 => ?_)
      refine v_astore (lv' := [(6, .ref (q9)), (0, .ref (gAd g a0)), (1, .int i1), (2, .int i2), (3, .int i3), (4, .int i4), (5, .ref (gAd g a5))]) F dL_why_17 (by decide) rfl ?_
      refine v_iconst (v := 1) F dL_why_19 (by decide) ?_
      cases h
      refine v_iretX F hr rfl hlk dL_why_20 ?_ ?_ <;> decide
    rw [if_neg hj5] at h
    by_cases hj6 : j4 = 0
    · subst hj6
      rw [if_pos rfl] at h
      refine v_catch F (E := exN 0) (name := "java/lang/IllegalArgumentException") (tableOf [(0, 14, 17, 35)]) ⟨0, 14, 21, 13⟩ (tableOf []) (htab.trans rfl) (fun z hz => by
          simp only [tableOf, List.map, List.mem_cons, List.not_mem_nil, or_false] at hz
          rcases hz with rfl
          · exact Or.inr ⟨by decide, "java/lang/IndexOutOfBoundsException", (List.mem_cons_of_mem _ cl_L_35), by decide, by decide⟩) (by decide) (by decide) (List.mem_cons_of_mem _ cl_L_13) (by decide) rfl (fun q9 => ?_)
      refine v_astore (lv' := [(6, .ref (q9)), (0, .ref (gAd g a0)), (1, .int i1), (2, .int i2), (3, .int i3), (4, .int i4), (5, .ref (gAd g a5))]) F dL_why_21 (by decide) rfl ?_
      refine v_iconst (v := 2) F dL_why_23 (by decide) ?_
      cases h
      refine v_iretX F hr rfl hlk dL_why_24 ?_ ?_ <;> decide
    rw [if_neg hj6] at h
    cases h
  dsimp only at h
  refine v_callVxi (As := [.int i1, .int i2, .int i3, .int i4]) (rest := [.int 0, .ref (gAd g a5)]) F (c_X10_why l hst F.2.2.1 t0 hz3) (cwV 4 F.1.2.2.2.2 (gU_V ml_L_51 im_yX10_why se_yX10_why ini_X10 cd_X10_why) rfl rfl rfl (by decide +kernel) ⟨Nat.le_of_ble_eq_true rfl, Nat.le_of_ble_eq_true rfl⟩) t0 (by decide) rfl rfl rfl (Nat.le_of_ble_eq_true rfl) dL_why_9 ⟨Nat.le_of_ble_eq_true rfl, Nat.le_of_ble_eq_true rfl⟩ ?_
  refine v_i2l F dL_why_12 rfl ?_
  obtain ⟨hin7, h⟩ := gd_some h
  refine v_last F rfl t5 hin7 dL_why_13 ?_
  refine v_goto (tgt := 25) F dL_why_14 (by decide) ?_
  refine v_iconst (v := 0) F dL_why_25 (by decide) ?_
  cases h
  refine v_iretX F hr rfl hlk dL_why_26 ?_ ?_ <;> decide
def f_L_first  (M : Mem) (a0 : Nat) (i1 : Int32) (i2 : Int32) (i3 : Int32) (i4 : Int32) (i5 : Int32) (a6 : Nat) : Option ((Int32 ⊕ Nat) × Mem) := (f_X10_first M a0 i1 i2 i3 i4 i5).bind fun q => match q with | (.inl r1, M2) => (if ¬ ((0 : Int32) < 0 ∨ gN a6 ≤ (0 : Int32).toNatClampNeg) then (some (.inl 0, (mU M2 a6 (0 : Int32).toNatClampNeg r1))) else none) | (.inr j4, M2) => if j4 = 2 then (some (.inl 1, M2)) else (if j4 = 0 then (some (.inl 2, M2)) else (none))
set_option maxHeartbeats 4000000 in
set_option maxRecDepth 100000 in
theorem c_L_first {g : gT} (l : Launch) (hst : l.stackTraces = false) (hok : gOK g) {a0 : Nat} {i1 : Int32} {i2 : Int32} {i3 : Int32} {i4 : Int32} {i5 : Int32} {a6 : Nat} {M : Mem} {z : (Int32 ⊕ Nat) × Mem} (t0 : Ty g 10 a0) (t6 : Ty g 17 a6) (h : f_L_first M a0 i1 i2 i3 i4 i5 a6 = some z) : Cx g l yL_first uL_first 9 3 18 [.ref (gAd g a0), .int i1, .int i2, .int i3, .int i4, .int i5, .ref (gAd g a6)] M vI z := by
  refine Cx.ofW (cc := cL_first) (maxL := 8) (ret := (some .int)) (hh := [(0, 16, 19, 35), (0, 16, 23, 13)]) hok (by decide) rfl (Nat.le_of_ble_eq_true rfl) (fun p e s m args below meth c F hr hlk htab => ?_)
  unfold f_L_first at h
  show V g p l e ({ frames := 9, cells := 3, slots := 18, locals := 40 * 9 } : Room) s m args below meth c 8 0 0 (vx_MQ below (gQx g vI z) (gXx g z) args s 3 18 (gA g)) 0 [(0, .ref (gAd g a0)), (1, .int i1), (2, .int i2), (3, .int i3), (4, .int i4), (5, .int i5), (6, .ref (gAd g a6))] [] M
  refine v_aload F dL_first_0 6 rfl ?_
  refine v_iconst (v := 0) F dL_first_2 (by decide) ?_
  refine v_aload_n F dL_first_3 rfl 0 rfl ?_
  refine v_iload_n F dL_first_4 rfl 1 rfl ?_
  refine v_iload_n F dL_first_5 rfl 2 rfl ?_
  refine v_iload_n F dL_first_6 rfl 3 rfl ?_
  refine v_iload F dL_first_7 4 rfl ?_
  refine v_iload F dL_first_9 5 rfl ?_
  obtain ⟨⟨r1 | j4, M2⟩, hz3, h⟩ := bd_some h
  rotate_left
  · dsimp only at h
    refine v_callVxT (As := [.int i1, .int i2, .int i3, .int i4, .int i5]) (rest := [.int 0, .ref (gAd g a6)]) F (c_X10_first l hst F.2.2.1 t0 hz3) (cwV 5 F.1.2.2.2.2 (gU_V ml_L_55 im_yX10_first se_yX10_first ini_X10 cd_X10_first) rfl rfl rfl (by decide +kernel) ⟨Nat.le_of_ble_eq_true rfl, Nat.le_of_ble_eq_true rfl⟩) t0 (by decide) rfl rfl rfl (Nat.le_of_ble_eq_true rfl) dL_first_11 ⟨Nat.le_of_ble_eq_true rfl, Nat.le_of_ble_eq_true rfl⟩ ?_
    by_cases hj5 : j4 = 2
    · subst hj5
      rw [if_pos rfl] at h
      refine v_catch F (E := exN 2) (name := "java/lang/IndexOutOfBoundsException") (tableOf []) ⟨0, 16, 19, 35⟩ (tableOf [(0, 16, 23, 13)]) (htab.trans rfl) (fun z hz => by simp [tableOf] at hz) (by decide) (by decide) (List.mem_cons_of_mem _ cl_L_35) (by decide) rfl (fun q9 => ?_)
      refine v_astore (lv' := [(7, .ref (q9)), (0, .ref (gAd g a0)), (1, .int i1), (2, .int i2), (3, .int i3), (4, .int i4), (5, .int i5), (6, .ref (gAd g a6))]) F dL_first_19 (by decide) rfl ?_
      refine v_iconst (v := 1) F dL_first_21 (by decide) ?_
      cases h
      refine v_iretX F hr rfl hlk dL_first_22 ?_ ?_ <;> decide
    rw [if_neg hj5] at h
    by_cases hj6 : j4 = 0
    · subst hj6
      rw [if_pos rfl] at h
      refine v_catch F (E := exN 0) (name := "java/lang/IllegalArgumentException") (tableOf [(0, 16, 19, 35)]) ⟨0, 16, 23, 13⟩ (tableOf []) (htab.trans rfl) (fun z hz => by
          simp only [tableOf, List.map, List.mem_cons, List.not_mem_nil, or_false] at hz
          rcases hz with rfl
          · exact Or.inr ⟨by decide, "java/lang/IndexOutOfBoundsException", (List.mem_cons_of_mem _ cl_L_35), by decide, by decide⟩) (by decide) (by decide) (List.mem_cons_of_mem _ cl_L_13) (by decide) rfl (fun q9 => ?_)
      refine v_astore (lv' := [(7, .ref (q9)), (0, .ref (gAd g a0)), (1, .int i1), (2, .int i2), (3, .int i3), (4, .int i4), (5, .int i5), (6, .ref (gAd g a6))]) F dL_first_23 (by decide) rfl ?_
      refine v_iconst (v := 2) F dL_first_25 (by decide) ?_
      cases h
      refine v_iretX F hr rfl hlk dL_first_26 ?_ ?_ <;> decide
    rw [if_neg hj6] at h
    cases h
  dsimp only at h
  refine v_callVxi (As := [.int i1, .int i2, .int i3, .int i4, .int i5]) (rest := [.int 0, .ref (gAd g a6)]) F (c_X10_first l hst F.2.2.1 t0 hz3) (cwV 5 F.1.2.2.2.2 (gU_V ml_L_55 im_yX10_first se_yX10_first ini_X10 cd_X10_first) rfl rfl rfl (by decide +kernel) ⟨Nat.le_of_ble_eq_true rfl, Nat.le_of_ble_eq_true rfl⟩) t0 (by decide) rfl rfl rfl (Nat.le_of_ble_eq_true rfl) dL_first_11 ⟨Nat.le_of_ble_eq_true rfl, Nat.le_of_ble_eq_true rfl⟩ ?_
  refine v_i2l F dL_first_14 rfl ?_
  obtain ⟨hin7, h⟩ := gd_some h
  refine v_last F rfl t6 hin7 dL_first_15 ?_
  refine v_goto (tgt := 27) F dL_first_16 (by decide) ?_
  refine v_iconst (v := 0) F dL_first_27 (by decide) ?_
  cases h
  refine v_iretX F hr rfl hlk dL_first_28 ?_ ?_ <;> decide
def f_L_where  (M : Mem) (a0 : Nat) (i1 : Int32) (i2 : Int32) (i3 : Int32) (i4 : Int32) (i5 : Int32) (a6 : Nat) : Option ((Int32 ⊕ Nat) × Mem) := (f_X10_where M a0 i1 i2 i3 i4 i5).bind fun q => match q with | (.inl r1, M2) => (if ¬ ((0 : Int32) < 0 ∨ gN a6 ≤ (0 : Int32).toNatClampNeg) then (some (.inl 0, (mU M2 a6 (0 : Int32).toNatClampNeg r1))) else none) | (.inr j4, M2) => if j4 = 2 then (some (.inl 1, M2)) else (if j4 = 0 then (some (.inl 2, M2)) else (none))
set_option maxHeartbeats 4000000 in
set_option maxRecDepth 100000 in
theorem c_L_where {g : gT} (l : Launch) (hst : l.stackTraces = false) (hok : gOK g) {a0 : Nat} {i1 : Int32} {i2 : Int32} {i3 : Int32} {i4 : Int32} {i5 : Int32} {a6 : Nat} {M : Mem} {z : (Int32 ⊕ Nat) × Mem} (t0 : Ty g 10 a0) (t6 : Ty g 17 a6) (h : f_L_where M a0 i1 i2 i3 i4 i5 a6 = some z) : Cx g l yL_where uL_where 9 3 18 [.ref (gAd g a0), .int i1, .int i2, .int i3, .int i4, .int i5, .ref (gAd g a6)] M vI z := by
  refine Cx.ofW (cc := cL_where) (maxL := 8) (ret := (some .int)) (hh := [(0, 16, 19, 35), (0, 16, 23, 13)]) hok (by decide) rfl (Nat.le_of_ble_eq_true rfl) (fun p e s m args below meth c F hr hlk htab => ?_)
  unfold f_L_where at h
  show V g p l e ({ frames := 9, cells := 3, slots := 18, locals := 40 * 9 } : Room) s m args below meth c 8 0 0 (vx_MQ below (gQx g vI z) (gXx g z) args s 3 18 (gA g)) 0 [(0, .ref (gAd g a0)), (1, .int i1), (2, .int i2), (3, .int i3), (4, .int i4), (5, .int i5), (6, .ref (gAd g a6))] [] M
  refine v_aload F dL_where_0 6 rfl ?_
  refine v_iconst (v := 0) F dL_where_2 (by decide) ?_
  refine v_aload_n F dL_where_3 rfl 0 rfl ?_
  refine v_iload_n F dL_where_4 rfl 1 rfl ?_
  refine v_iload_n F dL_where_5 rfl 2 rfl ?_
  refine v_iload_n F dL_where_6 rfl 3 rfl ?_
  refine v_iload F dL_where_7 4 rfl ?_
  refine v_iload F dL_where_9 5 rfl ?_
  obtain ⟨⟨r1 | j4, M2⟩, hz3, h⟩ := bd_some h
  rotate_left
  · dsimp only at h
    refine v_callVxT (As := [.int i1, .int i2, .int i3, .int i4, .int i5]) (rest := [.int 0, .ref (gAd g a6)]) F (c_X10_where l hst F.2.2.1 t0 hz3) (cwV 5 F.1.2.2.2.2 (gU_V ml_L_59 im_yX10_where se_yX10_where ini_X10 cd_X10_where) rfl rfl rfl (by decide +kernel) ⟨Nat.le_of_ble_eq_true rfl, Nat.le_of_ble_eq_true rfl⟩) t0 (by decide) rfl rfl rfl (Nat.le_of_ble_eq_true rfl) dL_where_11 ⟨Nat.le_of_ble_eq_true rfl, Nat.le_of_ble_eq_true rfl⟩ ?_
    by_cases hj5 : j4 = 2
    · subst hj5
      rw [if_pos rfl] at h
      refine v_catch F (E := exN 2) (name := "java/lang/IndexOutOfBoundsException") (tableOf []) ⟨0, 16, 19, 35⟩ (tableOf [(0, 16, 23, 13)]) (htab.trans rfl) (fun z hz => by simp [tableOf] at hz) (by decide) (by decide) (List.mem_cons_of_mem _ cl_L_35) (by decide) rfl (fun q9 => ?_)
      refine v_astore (lv' := [(7, .ref (q9)), (0, .ref (gAd g a0)), (1, .int i1), (2, .int i2), (3, .int i3), (4, .int i4), (5, .int i5), (6, .ref (gAd g a6))]) F dL_where_19 (by decide) rfl ?_
      refine v_iconst (v := 1) F dL_where_21 (by decide) ?_
      cases h
      refine v_iretX F hr rfl hlk dL_where_22 ?_ ?_ <;> decide
    rw [if_neg hj5] at h
    by_cases hj6 : j4 = 0
    · subst hj6
      rw [if_pos rfl] at h
      refine v_catch F (E := exN 0) (name := "java/lang/IllegalArgumentException") (tableOf [(0, 16, 19, 35)]) ⟨0, 16, 23, 13⟩ (tableOf []) (htab.trans rfl) (fun z hz => by
          simp only [tableOf, List.map, List.mem_cons, List.not_mem_nil, or_false] at hz
          rcases hz with rfl
          · exact Or.inr ⟨by decide, "java/lang/IndexOutOfBoundsException", (List.mem_cons_of_mem _ cl_L_35), by decide, by decide⟩) (by decide) (by decide) (List.mem_cons_of_mem _ cl_L_13) (by decide) rfl (fun q9 => ?_)
      refine v_astore (lv' := [(7, .ref (q9)), (0, .ref (gAd g a0)), (1, .int i1), (2, .int i2), (3, .int i3), (4, .int i4), (5, .int i5), (6, .ref (gAd g a6))]) F dL_where_23 (by decide) rfl ?_
      refine v_iconst (v := 2) F dL_where_25 (by decide) ?_
      cases h
      refine v_iretX F hr rfl hlk dL_where_26 ?_ ?_ <;> decide
    rw [if_neg hj6] at h
    cases h
  dsimp only at h
  refine v_callVxi (As := [.int i1, .int i2, .int i3, .int i4, .int i5]) (rest := [.int 0, .ref (gAd g a6)]) F (c_X10_where l hst F.2.2.1 t0 hz3) (cwV 5 F.1.2.2.2.2 (gU_V ml_L_59 im_yX10_where se_yX10_where ini_X10 cd_X10_where) rfl rfl rfl (by decide +kernel) ⟨Nat.le_of_ble_eq_true rfl, Nat.le_of_ble_eq_true rfl⟩) t0 (by decide) rfl rfl rfl (Nat.le_of_ble_eq_true rfl) dL_where_11 ⟨Nat.le_of_ble_eq_true rfl, Nat.le_of_ble_eq_true rfl⟩ ?_
  refine v_i2l F dL_where_14 rfl ?_
  obtain ⟨hin7, h⟩ := gd_some h
  refine v_last F rfl t6 hin7 dL_where_15 ?_
  refine v_goto (tgt := 27) F dL_where_16 (by decide) ?_
  refine v_iconst (v := 0) F dL_where_27 (by decide) ?_
  cases h
  refine v_iretX F hr rfl hlk dL_where_28 ?_ ?_ <;> decide
def f_L_slip  (M : Mem) (a0 : Nat) (i1 : Int32) (i2 : Int32) (i3 : Int32) (a4 : Nat) : Option ((Int32 ⊕ Nat) × Mem) := (f_X10_slip M a0 i1 i2 i3).bind fun q => match q with | (.inl r1, M2) => (if ¬ ((0 : Int32) < 0 ∨ gN a4 ≤ (0 : Int32).toNatClampNeg) then (some (.inl 0, (mU M2 a4 (0 : Int32).toNatClampNeg r1))) else none) | (.inr j4, M2) => if j4 = 2 then (some (.inl 1, M2)) else (if j4 = 0 then (some (.inl 2, M2)) else (none))
set_option maxHeartbeats 4000000 in
set_option maxRecDepth 100000 in
theorem c_L_slip {g : gT} (l : Launch) (hst : l.stackTraces = false) (hok : gOK g) {a0 : Nat} {i1 : Int32} {i2 : Int32} {i3 : Int32} {a4 : Nat} {M : Mem} {z : (Int32 ⊕ Nat) × Mem} (t0 : Ty g 10 a0) (t4 : Ty g 17 a4) (h : f_L_slip M a0 i1 i2 i3 a4 = some z) : Cx g l yL_slip uL_slip 9 3 18 [.ref (gAd g a0), .int i1, .int i2, .int i3, .ref (gAd g a4)] M vI z := by
  refine Cx.ofW (cc := cL_slip) (maxL := 6) (ret := (some .int)) (hh := [(0, 12, 15, 35), (0, 12, 19, 13)]) hok (by decide) rfl (Nat.le_of_ble_eq_true rfl) (fun p e s m args below meth c F hr hlk htab => ?_)
  unfold f_L_slip at h
  show V g p l e ({ frames := 9, cells := 3, slots := 18, locals := 40 * 9 } : Room) s m args below meth c 6 0 0 (vx_MQ below (gQx g vI z) (gXx g z) args s 3 18 (gA g)) 0 [(0, .ref (gAd g a0)), (1, .int i1), (2, .int i2), (3, .int i3), (4, .ref (gAd g a4))] [] M
  refine v_aload F dL_slip_0 4 rfl ?_
  refine v_iconst (v := 0) F dL_slip_2 (by decide) ?_
  refine v_aload_n F dL_slip_3 rfl 0 rfl ?_
  refine v_iload_n F dL_slip_4 rfl 1 rfl ?_
  refine v_iload_n F dL_slip_5 rfl 2 rfl ?_
  refine v_iload_n F dL_slip_6 rfl 3 rfl ?_
  obtain ⟨⟨r1 | j4, M2⟩, hz3, h⟩ := bd_some h
  rotate_left
  · dsimp only at h
    refine v_callVxT (As := [.int i1, .int i2, .int i3]) (rest := [.int 0, .ref (gAd g a4)]) F (c_X10_slip l hst F.2.2.1 t0 hz3) (cwV 3 F.1.2.2.2.2 (gU_V ml_L_62 im_yX10_slip se_yX10_slip ini_X10 cd_X10_slip) rfl rfl rfl (by decide +kernel) ⟨Nat.le_of_ble_eq_true rfl, Nat.le_of_ble_eq_true rfl⟩) t0 (by decide) rfl rfl rfl (Nat.le_of_ble_eq_true rfl) dL_slip_7 ⟨Nat.le_of_ble_eq_true rfl, Nat.le_of_ble_eq_true rfl⟩ ?_
    by_cases hj5 : j4 = 2
    · subst hj5
      rw [if_pos rfl] at h
      refine v_catch F (E := exN 2) (name := "java/lang/IndexOutOfBoundsException") (tableOf []) ⟨0, 12, 15, 35⟩ (tableOf [(0, 12, 19, 13)]) (htab.trans rfl) (fun z hz => by simp [tableOf] at hz) (by decide) (by decide) (List.mem_cons_of_mem _ cl_L_35) (by decide) rfl (fun q9 => ?_)
      refine v_astore (lv' := [(5, .ref (q9)), (0, .ref (gAd g a0)), (1, .int i1), (2, .int i2), (3, .int i3), (4, .ref (gAd g a4))]) F dL_slip_15 (by decide) rfl ?_
      refine v_iconst (v := 1) F dL_slip_17 (by decide) ?_
      cases h
      refine v_iretX F hr rfl hlk dL_slip_18 ?_ ?_ <;> decide
    rw [if_neg hj5] at h
    by_cases hj6 : j4 = 0
    · subst hj6
      rw [if_pos rfl] at h
      refine v_catch F (E := exN 0) (name := "java/lang/IllegalArgumentException") (tableOf [(0, 12, 15, 35)]) ⟨0, 12, 19, 13⟩ (tableOf []) (htab.trans rfl) (fun z hz => by
          simp only [tableOf, List.map, List.mem_cons, List.not_mem_nil, or_false] at hz
          rcases hz with rfl
          · exact Or.inr ⟨by decide, "java/lang/IndexOutOfBoundsException", (List.mem_cons_of_mem _ cl_L_35), by decide, by decide⟩) (by decide) (by decide) (List.mem_cons_of_mem _ cl_L_13) (by decide) rfl (fun q9 => ?_)
      refine v_astore (lv' := [(5, .ref (q9)), (0, .ref (gAd g a0)), (1, .int i1), (2, .int i2), (3, .int i3), (4, .ref (gAd g a4))]) F dL_slip_19 (by decide) rfl ?_
      refine v_iconst (v := 2) F dL_slip_21 (by decide) ?_
      cases h
      refine v_iretX F hr rfl hlk dL_slip_22 ?_ ?_ <;> decide
    rw [if_neg hj6] at h
    cases h
  dsimp only at h
  refine v_callVxi (As := [.int i1, .int i2, .int i3]) (rest := [.int 0, .ref (gAd g a4)]) F (c_X10_slip l hst F.2.2.1 t0 hz3) (cwV 3 F.1.2.2.2.2 (gU_V ml_L_62 im_yX10_slip se_yX10_slip ini_X10 cd_X10_slip) rfl rfl rfl (by decide +kernel) ⟨Nat.le_of_ble_eq_true rfl, Nat.le_of_ble_eq_true rfl⟩) t0 (by decide) rfl rfl rfl (Nat.le_of_ble_eq_true rfl) dL_slip_7 ⟨Nat.le_of_ble_eq_true rfl, Nat.le_of_ble_eq_true rfl⟩ ?_
  refine v_i2l F dL_slip_10 rfl ?_
  obtain ⟨hin7, h⟩ := gd_some h
  refine v_last F rfl t4 hin7 dL_slip_11 ?_
  refine v_goto (tgt := 23) F dL_slip_12 (by decide) ?_
  refine v_iconst (v := 0) F dL_slip_23 (by decide) ?_
  cases h
  refine v_iretX F hr rfl hlk dL_slip_24 ?_ ?_ <;> decide
def f_L_film  (M : Mem) (a0 : Nat) (i1 : Int32) (i2 : Int32) (i3 : Int32) (i4 : Int32) (a5 : Nat) : Option ((Int32 ⊕ Nat) × Mem) := (f_X10_film M a0 i1 i2 i3 i4).bind fun q => match q with | (.inl r1, M2) => (if ¬ ((0 : Int32) < 0 ∨ gN a5 ≤ (0 : Int32).toNatClampNeg) then (some (.inl 0, (mU M2 a5 (0 : Int32).toNatClampNeg r1))) else none) | (.inr j4, M2) => if j4 = 1 then (some (.inl 1, M2)) else (if j4 = 0 then (some (.inl 2, M2)) else (none))
set_option maxHeartbeats 4000000 in
set_option maxRecDepth 100000 in
theorem c_L_film {g : gT} (l : Launch) (hst : l.stackTraces = false) (hok : gOK g) {a0 : Nat} {i1 : Int32} {i2 : Int32} {i3 : Int32} {i4 : Int32} {a5 : Nat} {M : Mem} {z : (Int32 ⊕ Nat) × Mem} (t0 : Ty g 10 a0) (t5 : Ty g 17 a5) (h : f_L_film M a0 i1 i2 i3 i4 a5 = some z) : Cx g l yL_film uL_film 8 3 18 [.ref (gAd g a0), .int i1, .int i2, .int i3, .int i4, .ref (gAd g a5)] M vI z := by
  refine Cx.ofW (cc := cL_film) (maxL := 7) (ret := (some .int)) (hh := [(0, 14, 17, 26), (0, 14, 21, 13)]) hok (by decide) rfl (Nat.le_of_ble_eq_true rfl) (fun p e s m args below meth c F hr hlk htab => ?_)
  unfold f_L_film at h
  show V g p l e ({ frames := 8, cells := 3, slots := 18, locals := 40 * 8 } : Room) s m args below meth c 7 0 0 (vx_MQ below (gQx g vI z) (gXx g z) args s 3 18 (gA g)) 0 [(0, .ref (gAd g a0)), (1, .int i1), (2, .int i2), (3, .int i3), (4, .int i4), (5, .ref (gAd g a5))] [] M
  refine v_aload F dL_film_0 5 rfl ?_
  refine v_iconst (v := 0) F dL_film_2 (by decide) ?_
  refine v_aload_n F dL_film_3 rfl 0 rfl ?_
  refine v_iload_n F dL_film_4 rfl 1 rfl ?_
  refine v_iload_n F dL_film_5 rfl 2 rfl ?_
  refine v_iload_n F dL_film_6 rfl 3 rfl ?_
  refine v_iload F dL_film_7 4 rfl ?_
  obtain ⟨⟨r1 | j4, M2⟩, hz3, h⟩ := bd_some h
  rotate_left
  · dsimp only at h
    refine v_callVxT (As := [.int i1, .int i2, .int i3, .int i4]) (rest := [.int 0, .ref (gAd g a5)]) F (c_X10_film l hst F.2.2.1 t0 hz3) (cwV 4 F.1.2.2.2.2 (gU_V ml_L_65 im_yX10_film se_yX10_film ini_X10 cd_X10_film) rfl rfl rfl (by decide +kernel) ⟨Nat.le_of_ble_eq_true rfl, Nat.le_of_ble_eq_true rfl⟩) t0 (by decide) rfl rfl rfl (Nat.le_of_ble_eq_true rfl) dL_film_9 ⟨Nat.le_of_ble_eq_true rfl, Nat.le_of_ble_eq_true rfl⟩ ?_
    by_cases hj5 : j4 = 1
    · subst hj5
      rw [if_pos rfl] at h
      refine v_catch F (E := exN 1) (name := "java/util/NoSuchElementException") (tableOf []) ⟨0, 14, 17, 26⟩ (tableOf [(0, 14, 21, 13)]) (htab.trans rfl) (fun z hz => by simp [tableOf] at hz) (by decide) (by decide) (List.mem_cons_of_mem _ cl_L_26) (by decide) rfl (fun q9 => ?_)
      refine v_astore (lv' := [(6, .ref (q9)), (0, .ref (gAd g a0)), (1, .int i1), (2, .int i2), (3, .int i3), (4, .int i4), (5, .ref (gAd g a5))]) F dL_film_17 (by decide) rfl ?_
      refine v_iconst (v := 1) F dL_film_19 (by decide) ?_
      cases h
      refine v_iretX F hr rfl hlk dL_film_20 ?_ ?_ <;> decide
    rw [if_neg hj5] at h
    by_cases hj6 : j4 = 0
    · subst hj6
      rw [if_pos rfl] at h
      refine v_catch F (E := exN 0) (name := "java/lang/IllegalArgumentException") (tableOf [(0, 14, 17, 26)]) ⟨0, 14, 21, 13⟩ (tableOf []) (htab.trans rfl) (fun z hz => by
          simp only [tableOf, List.map, List.mem_cons, List.not_mem_nil, or_false] at hz
          rcases hz with rfl
          · exact Or.inr ⟨by decide, "java/util/NoSuchElementException", (List.mem_cons_of_mem _ cl_L_26), by decide, by decide⟩) (by decide) (by decide) (List.mem_cons_of_mem _ cl_L_13) (by decide) rfl (fun q9 => ?_)
      refine v_astore (lv' := [(6, .ref (q9)), (0, .ref (gAd g a0)), (1, .int i1), (2, .int i2), (3, .int i3), (4, .int i4), (5, .ref (gAd g a5))]) F dL_film_21 (by decide) rfl ?_
      refine v_iconst (v := 2) F dL_film_23 (by decide) ?_
      cases h
      refine v_iretX F hr rfl hlk dL_film_24 ?_ ?_ <;> decide
    rw [if_neg hj6] at h
    cases h
  dsimp only at h
  refine v_callVxi (As := [.int i1, .int i2, .int i3, .int i4]) (rest := [.int 0, .ref (gAd g a5)]) F (c_X10_film l hst F.2.2.1 t0 hz3) (cwV 4 F.1.2.2.2.2 (gU_V ml_L_65 im_yX10_film se_yX10_film ini_X10 cd_X10_film) rfl rfl rfl (by decide +kernel) ⟨Nat.le_of_ble_eq_true rfl, Nat.le_of_ble_eq_true rfl⟩) t0 (by decide) rfl rfl rfl (Nat.le_of_ble_eq_true rfl) dL_film_9 ⟨Nat.le_of_ble_eq_true rfl, Nat.le_of_ble_eq_true rfl⟩ ?_
  refine v_i2l F dL_film_12 rfl ?_
  obtain ⟨hin7, h⟩ := gd_some h
  refine v_last F rfl t5 hin7 dL_film_13 ?_
  refine v_goto (tgt := 25) F dL_film_14 (by decide) ?_
  refine v_iconst (v := 0) F dL_film_25 (by decide) ?_
  cases h
  refine v_iretX F hr rfl hlk dL_film_26 ?_ ?_ <;> decide
def f_L_barred  (M : Mem) (a0 : Nat) (i1 : Int32) (i2 : Int32) (i3 : Int32) (i4 : Int32) (i5 : Int32) (i6 : Int32) (a7 : Nat) : Option ((Int32 ⊕ Nat) × Mem) := (f_X10_barred M a0 i1 i2 i3 i4 i5 i6).bind fun q => match q with | (.inl r1, M2) => (if ¬ ((0 : Int32) < 0 ∨ gN a7 ≤ (0 : Int32).toNatClampNeg) then (some (.inl 0, (mU M2 a7 (0 : Int32).toNatClampNeg r1))) else none) | (.inr j4, M2) => if j4 = 2 then (some (.inl 1, M2)) else (if j4 = 0 then (some (.inl 2, M2)) else (none))
set_option maxHeartbeats 4000000 in
set_option maxRecDepth 100000 in
theorem c_L_barred {g : gT} (l : Launch) (hst : l.stackTraces = false) (hok : gOK g) {a0 : Nat} {i1 : Int32} {i2 : Int32} {i3 : Int32} {i4 : Int32} {i5 : Int32} {i6 : Int32} {a7 : Nat} {M : Mem} {z : (Int32 ⊕ Nat) × Mem} (t0 : Ty g 10 a0) (t7 : Ty g 17 a7) (h : f_L_barred M a0 i1 i2 i3 i4 i5 i6 a7 = some z) : Cx g l yL_barred uL_barred 9 4 24 [.ref (gAd g a0), .int i1, .int i2, .int i3, .int i4, .int i5, .int i6, .ref (gAd g a7)] M vI z := by
  refine Cx.ofW (cc := cL_barred) (maxL := 9) (ret := (some .int)) (hh := [(0, 18, 21, 35), (0, 18, 25, 13)]) hok (by decide) rfl (Nat.le_of_ble_eq_true rfl) (fun p e s m args below meth c F hr hlk htab => ?_)
  unfold f_L_barred at h
  show V g p l e ({ frames := 9, cells := 4, slots := 24, locals := 40 * 9 } : Room) s m args below meth c 9 0 0 (vx_MQ below (gQx g vI z) (gXx g z) args s 4 24 (gA g)) 0 [(0, .ref (gAd g a0)), (1, .int i1), (2, .int i2), (3, .int i3), (4, .int i4), (5, .int i5), (6, .int i6), (7, .ref (gAd g a7))] [] M
  refine v_aload F dL_barred_0 7 rfl ?_
  refine v_iconst (v := 0) F dL_barred_2 (by decide) ?_
  refine v_aload_n F dL_barred_3 rfl 0 rfl ?_
  refine v_iload_n F dL_barred_4 rfl 1 rfl ?_
  refine v_iload_n F dL_barred_5 rfl 2 rfl ?_
  refine v_iload_n F dL_barred_6 rfl 3 rfl ?_
  refine v_iload F dL_barred_7 4 rfl ?_
  refine v_iload F dL_barred_9 5 rfl ?_
  refine v_iload F dL_barred_11 6 rfl ?_
  obtain ⟨⟨r1 | j4, M2⟩, hz3, h⟩ := bd_some h
  rotate_left
  · dsimp only at h
    refine v_callVxT (As := [.int i1, .int i2, .int i3, .int i4, .int i5, .int i6]) (rest := [.int 0, .ref (gAd g a7)]) F (c_X10_barred l hst F.2.2.1 t0 hz3) (cwV 6 F.1.2.2.2.2 (gU_V ml_L_68 im_yX10_barred se_yX10_barred ini_X10 cd_X10_barred) rfl rfl rfl (by decide +kernel) ⟨Nat.le_of_ble_eq_true rfl, Nat.le_of_ble_eq_true rfl⟩) t0 (by decide) rfl rfl rfl (Nat.le_of_ble_eq_true rfl) dL_barred_13 ⟨Nat.le_of_ble_eq_true rfl, Nat.le_of_ble_eq_true rfl⟩ ?_
    by_cases hj5 : j4 = 2
    · subst hj5
      rw [if_pos rfl] at h
      refine v_catch F (E := exN 2) (name := "java/lang/IndexOutOfBoundsException") (tableOf []) ⟨0, 18, 21, 35⟩ (tableOf [(0, 18, 25, 13)]) (htab.trans rfl) (fun z hz => by simp [tableOf] at hz) (by decide) (by decide) (List.mem_cons_of_mem _ cl_L_35) (by decide) rfl (fun q9 => ?_)
      refine v_astore (lv' := [(8, .ref (q9)), (0, .ref (gAd g a0)), (1, .int i1), (2, .int i2), (3, .int i3), (4, .int i4), (5, .int i5), (6, .int i6), (7, .ref (gAd g a7))]) F dL_barred_21 (by decide) rfl ?_
      refine v_iconst (v := 1) F dL_barred_23 (by decide) ?_
      cases h
      refine v_iretX F hr rfl hlk dL_barred_24 ?_ ?_ <;> decide
    rw [if_neg hj5] at h
    by_cases hj6 : j4 = 0
    · subst hj6
      rw [if_pos rfl] at h
      refine v_catch F (E := exN 0) (name := "java/lang/IllegalArgumentException") (tableOf [(0, 18, 21, 35)]) ⟨0, 18, 25, 13⟩ (tableOf []) (htab.trans rfl) (fun z hz => by
          simp only [tableOf, List.map, List.mem_cons, List.not_mem_nil, or_false] at hz
          rcases hz with rfl
          · exact Or.inr ⟨by decide, "java/lang/IndexOutOfBoundsException", (List.mem_cons_of_mem _ cl_L_35), by decide, by decide⟩) (by decide) (by decide) (List.mem_cons_of_mem _ cl_L_13) (by decide) rfl (fun q9 => ?_)
      refine v_astore (lv' := [(8, .ref (q9)), (0, .ref (gAd g a0)), (1, .int i1), (2, .int i2), (3, .int i3), (4, .int i4), (5, .int i5), (6, .int i6), (7, .ref (gAd g a7))]) F dL_barred_25 (by decide) rfl ?_
      refine v_iconst (v := 2) F dL_barred_27 (by decide) ?_
      cases h
      refine v_iretX F hr rfl hlk dL_barred_28 ?_ ?_ <;> decide
    rw [if_neg hj6] at h
    cases h
  dsimp only at h
  refine v_callVxi (As := [.int i1, .int i2, .int i3, .int i4, .int i5, .int i6]) (rest := [.int 0, .ref (gAd g a7)]) F (c_X10_barred l hst F.2.2.1 t0 hz3) (cwV 6 F.1.2.2.2.2 (gU_V ml_L_68 im_yX10_barred se_yX10_barred ini_X10 cd_X10_barred) rfl rfl rfl (by decide +kernel) ⟨Nat.le_of_ble_eq_true rfl, Nat.le_of_ble_eq_true rfl⟩) t0 (by decide) rfl rfl rfl (Nat.le_of_ble_eq_true rfl) dL_barred_13 ⟨Nat.le_of_ble_eq_true rfl, Nat.le_of_ble_eq_true rfl⟩ ?_
  refine v_i2l F dL_barred_16 rfl ?_
  obtain ⟨hin7, h⟩ := gd_some h
  refine v_last F rfl t7 hin7 dL_barred_17 ?_
  refine v_goto (tgt := 29) F dL_barred_18 (by decide) ?_
  refine v_iconst (v := 0) F dL_barred_29 (by decide) ?_
  cases h
  refine v_iretX F hr rfl hlk dL_barred_30 ?_ ?_ <;> decide
def f_L_mend  (M : Mem) (a0 : Nat) (i1 : Int32) (i2 : Int32) (i3 : Int32) (a4 : Nat) : Option ((Int32 ⊕ Nat) × Mem) := (f_X10_mend M a0 i1 i2 i3).bind fun q => match q with | (.inl r1, M2) => (if ¬ ((0 : Int32) < 0 ∨ gN a4 ≤ (0 : Int32).toNatClampNeg) then (some (.inl 0, (mU M2 a4 (0 : Int32).toNatClampNeg r1))) else none) | (.inr j4, M2) => if j4 = 0 then (some (.inl 1, M2)) else (none)
set_option maxHeartbeats 4000000 in
set_option maxRecDepth 100000 in
theorem c_L_mend {g : gT} (l : Launch) (hst : l.stackTraces = false) (hok : gOK g) {a0 : Nat} {i1 : Int32} {i2 : Int32} {i3 : Int32} {a4 : Nat} {M : Mem} {z : (Int32 ⊕ Nat) × Mem} (t0 : Ty g 10 a0) (t4 : Ty g 17 a4) (h : f_L_mend M a0 i1 i2 i3 a4 = some z) : Cx g l yL_mend uL_mend 8 2 12 [.ref (gAd g a0), .int i1, .int i2, .int i3, .ref (gAd g a4)] M vI z := by
  refine Cx.ofW (cc := cL_mend) (maxL := 6) (ret := (some .int)) (hh := [(0, 12, 15, 13)]) hok (by decide) rfl (Nat.le_of_ble_eq_true rfl) (fun p e s m args below meth c F hr hlk htab => ?_)
  unfold f_L_mend at h
  show V g p l e ({ frames := 8, cells := 2, slots := 12, locals := 40 * 8 } : Room) s m args below meth c 6 0 0 (vx_MQ below (gQx g vI z) (gXx g z) args s 2 12 (gA g)) 0 [(0, .ref (gAd g a0)), (1, .int i1), (2, .int i2), (3, .int i3), (4, .ref (gAd g a4))] [] M
  refine v_aload F dL_mend_0 4 rfl ?_
  refine v_iconst (v := 0) F dL_mend_2 (by decide) ?_
  refine v_aload_n F dL_mend_3 rfl 0 rfl ?_
  refine v_iload_n F dL_mend_4 rfl 1 rfl ?_
  refine v_iload_n F dL_mend_5 rfl 2 rfl ?_
  refine v_iload_n F dL_mend_6 rfl 3 rfl ?_
  obtain ⟨⟨r1 | j4, M2⟩, hz3, h⟩ := bd_some h
  rotate_left
  · dsimp only at h
    refine v_callVxT (As := [.int i1, .int i2, .int i3]) (rest := [.int 0, .ref (gAd g a4)]) F (c_X10_mend l hst F.2.2.1 t0 hz3) (cwV 3 F.1.2.2.2.2 (gU_V ml_L_72 im_yX10_mend se_yX10_mend ini_X10 cd_X10_mend) rfl rfl rfl (by decide +kernel) ⟨Nat.le_of_ble_eq_true rfl, Nat.le_of_ble_eq_true rfl⟩) t0 (by decide) rfl rfl rfl (Nat.le_of_ble_eq_true rfl) dL_mend_7 ⟨Nat.le_of_ble_eq_true rfl, Nat.le_of_ble_eq_true rfl⟩ ?_
    by_cases hj5 : j4 = 0
    · subst hj5
      rw [if_pos rfl] at h
      refine v_catch F (E := exN 0) (name := "java/lang/IllegalArgumentException") (tableOf []) ⟨0, 12, 15, 13⟩ (tableOf []) (htab.trans rfl) (fun z hz => by simp [tableOf] at hz) (by decide) (by decide) (List.mem_cons_of_mem _ cl_L_13) (by decide) rfl (fun q9 => ?_)
      refine v_astore (lv' := [(5, .ref (q9)), (0, .ref (gAd g a0)), (1, .int i1), (2, .int i2), (3, .int i3), (4, .ref (gAd g a4))]) F dL_mend_15 (by decide) rfl ?_
      refine v_iconst (v := 1) F dL_mend_17 (by decide) ?_
      cases h
      refine v_iretX F hr rfl hlk dL_mend_18 ?_ ?_ <;> decide
    rw [if_neg hj5] at h
    cases h
  dsimp only at h
  refine v_callVxi (As := [.int i1, .int i2, .int i3]) (rest := [.int 0, .ref (gAd g a4)]) F (c_X10_mend l hst F.2.2.1 t0 hz3) (cwV 3 F.1.2.2.2.2 (gU_V ml_L_72 im_yX10_mend se_yX10_mend ini_X10 cd_X10_mend) rfl rfl rfl (by decide +kernel) ⟨Nat.le_of_ble_eq_true rfl, Nat.le_of_ble_eq_true rfl⟩) t0 (by decide) rfl rfl rfl (Nat.le_of_ble_eq_true rfl) dL_mend_7 ⟨Nat.le_of_ble_eq_true rfl, Nat.le_of_ble_eq_true rfl⟩ ?_
  refine v_i2l F dL_mend_10 rfl ?_
  obtain ⟨hin6, h⟩ := gd_some h
  refine v_last F rfl t4 hin6 dL_mend_11 ?_
  refine v_goto (tgt := 19) F dL_mend_12 (by decide) ?_
  refine v_iconst (v := 0) F dL_mend_19 (by decide) ?_
  cases h
  refine v_iretX F hr rfl hlk dL_mend_20 ?_ ?_ <;> decide
def f_L_calm  (M : Mem) (a0 : Nat) (i1 : Int32) (i2 : Int32) (a3 : Nat) : Option ((Int32 ⊕ Nat) × Mem) := (f_X10_calm M a0 i1 i2).bind fun q => match q with | (.inl r1, M2) => (if r1 = 0 then (if ¬ ((0 : Int32) < 0 ∨ gN a3 ≤ (0 : Int32).toNatClampNeg) then (some (.inl 0, (mU M2 a3 (0 : Int32).toNatClampNeg (0 : Int32)))) else none) else (if ¬ ((0 : Int32) < 0 ∨ gN a3 ≤ (0 : Int32).toNatClampNeg) then (some (.inl 0, (mU M2 a3 (0 : Int32).toNatClampNeg (1 : Int32)))) else none)) | (.inr j4, M2) => if j4 = 2 then (some (.inl 1, M2)) else (if j4 = 0 then (some (.inl 2, M2)) else (none))
set_option maxHeartbeats 4000000 in
set_option maxRecDepth 100000 in
theorem c_L_calm {g : gT} (l : Launch) (hst : l.stackTraces = false) (hok : gOK g) {a0 : Nat} {i1 : Int32} {i2 : Int32} {a3 : Nat} {M : Mem} {z : (Int32 ⊕ Nat) × Mem} (t0 : Ty g 10 a0) (t3 : Ty g 17 a3) (h : f_L_calm M a0 i1 i2 a3 = some z) : Cx g l yL_calm uL_calm 9 2 12 [.ref (gAd g a0), .int i1, .int i2, .ref (gAd g a3)] M vI z := by
  refine Cx.ofW (cc := cL_calm) (maxL := 5) (ret := (some .int)) (hh := [(0, 17, 20, 35), (0, 17, 24, 13)]) hok (by decide) rfl (Nat.le_of_ble_eq_true rfl) (fun p e s m args below meth c F hr hlk htab => ?_)
  unfold f_L_calm at h
  show V g p l e ({ frames := 9, cells := 2, slots := 12, locals := 40 * 9 } : Room) s m args below meth c 5 0 0 (vx_MQ below (gQx g vI z) (gXx g z) args s 2 12 (gA g)) 0 [(0, .ref (gAd g a0)), (1, .int i1), (2, .int i2), (3, .ref (gAd g a3))] [] M
  refine v_aload_n F dL_calm_0 rfl 3 rfl ?_
  refine v_iconst (v := 0) F dL_calm_1 (by decide) ?_
  refine v_aload_n F dL_calm_2 rfl 0 rfl ?_
  refine v_iload_n F dL_calm_3 rfl 1 rfl ?_
  refine v_iload_n F dL_calm_4 rfl 2 rfl ?_
  obtain ⟨⟨r1 | j4, M2⟩, hz3, h⟩ := bd_some h
  rotate_left
  · dsimp only at h
    refine v_callVxT (As := [.int i1, .int i2]) (rest := [.int 0, .ref (gAd g a3)]) F (c_X10_calm l hst F.2.2.1 t0 hz3) (cwV 2 F.1.2.2.2.2 (gU_V ml_L_75 im_yX10_calm se_yX10_calm ini_X10 cd_X10_calm) rfl rfl rfl (by decide +kernel) ⟨Nat.le_of_ble_eq_true rfl, Nat.le_of_ble_eq_true rfl⟩) t0 (by decide) rfl rfl rfl (Nat.le_of_ble_eq_true rfl) dL_calm_5 ⟨Nat.le_of_ble_eq_true rfl, Nat.le_of_ble_eq_true rfl⟩ ?_
    by_cases hj5 : j4 = 2
    · subst hj5
      rw [if_pos rfl] at h
      refine v_catch F (E := exN 2) (name := "java/lang/IndexOutOfBoundsException") (tableOf []) ⟨0, 17, 20, 35⟩ (tableOf [(0, 17, 24, 13)]) (htab.trans rfl) (fun z hz => by simp [tableOf] at hz) (by decide) (by decide) (List.mem_cons_of_mem _ cl_L_35) (by decide) rfl (fun q9 => ?_)
      refine v_astore (lv' := [(4, .ref (q9)), (0, .ref (gAd g a0)), (1, .int i1), (2, .int i2), (3, .ref (gAd g a3))]) F dL_calm_20 (by decide) rfl ?_
      refine v_iconst (v := 1) F dL_calm_22 (by decide) ?_
      cases h
      refine v_iretX F hr rfl hlk dL_calm_23 ?_ ?_ <;> decide
    rw [if_neg hj5] at h
    by_cases hj6 : j4 = 0
    · subst hj6
      rw [if_pos rfl] at h
      refine v_catch F (E := exN 0) (name := "java/lang/IllegalArgumentException") (tableOf [(0, 17, 20, 35)]) ⟨0, 17, 24, 13⟩ (tableOf []) (htab.trans rfl) (fun z hz => by
          simp only [tableOf, List.map, List.mem_cons, List.not_mem_nil, or_false] at hz
          rcases hz with rfl
          · exact Or.inr ⟨by decide, "java/lang/IndexOutOfBoundsException", (List.mem_cons_of_mem _ cl_L_35), by decide, by decide⟩) (by decide) (by decide) (List.mem_cons_of_mem _ cl_L_13) (by decide) rfl (fun q9 => ?_)
      refine v_astore (lv' := [(4, .ref (q9)), (0, .ref (gAd g a0)), (1, .int i1), (2, .int i2), (3, .ref (gAd g a3))]) F dL_calm_24 (by decide) rfl ?_
      refine v_iconst (v := 2) F dL_calm_26 (by decide) ?_
      cases h
      refine v_iretX F hr rfl hlk dL_calm_27 ?_ ?_ <;> decide
    rw [if_neg hj6] at h
    cases h
  dsimp only at h
  refine v_callVxi (As := [.int i1, .int i2]) (rest := [.int 0, .ref (gAd g a3)]) F (c_X10_calm l hst F.2.2.1 t0 hz3) (cwV 2 F.1.2.2.2.2 (gU_V ml_L_75 im_yX10_calm se_yX10_calm ini_X10 cd_X10_calm) rfl rfl rfl (by decide +kernel) ⟨Nat.le_of_ble_eq_true rfl, Nat.le_of_ble_eq_true rfl⟩) t0 (by decide) rfl rfl rfl (Nat.le_of_ble_eq_true rfl) dL_calm_5 ⟨Nat.le_of_ble_eq_true rfl, Nat.le_of_ble_eq_true rfl⟩ ?_
  refine v_if_eq (tgt := 15) F dL_calm_8 (by decide) (fun hc7 => ?_) (fun hc7 => ?_)
  · rw [if_pos hc7] at h
    refine v_lconst (v := (0 : Int32).toInt64) F dL_calm_15 (by decide) ?_
    obtain ⟨hin8, h⟩ := gd_some h
    refine v_last F rfl t3 hin8 dL_calm_16 ?_
    refine v_goto (tgt := 28) F dL_calm_17 (by decide) ?_
    refine v_iconst (v := 0) F dL_calm_28 (by decide) ?_
    cases h
    refine v_iretX F hr rfl hlk dL_calm_29 ?_ ?_ <;> decide
  · rw [if_neg hc7] at h
    refine v_lconst (v := (1 : Int32).toInt64) F dL_calm_11 (by decide) ?_
    refine v_goto (tgt := 16) F dL_calm_12 (by decide) ?_
    obtain ⟨hin9, h⟩ := gd_some h
    refine v_last F rfl t3 hin9 dL_calm_16 ?_
    refine v_goto (tgt := 28) F dL_calm_17 (by decide) ?_
    refine v_iconst (v := 0) F dL_calm_28 (by decide) ?_
    cases h
    refine v_iretX F hr rfl hlk dL_calm_29 ?_ ?_ <;> decide
def f_L_mended  (M : Mem) (a0 : Nat) (i1 : Int32) (i2 : Int32) (a3 : Nat) : Option ((Int32 ⊕ Nat) × Mem) := (f_X10_mended M a0 i1 i2).bind fun q => match q with | (.inl r1, M2) => (if ¬ ((0 : Int32) < 0 ∨ gN a3 ≤ (0 : Int32).toNatClampNeg) then (some (.inl 0, (mU M2 a3 (0 : Int32).toNatClampNeg r1))) else none) | (.inr j4, M2) => if j4 = 2 then (some (.inl 1, M2)) else (if j4 = 0 then (some (.inl 2, M2)) else (none))
set_option maxHeartbeats 4000000 in
set_option maxRecDepth 100000 in
theorem c_L_mended {g : gT} (l : Launch) (hst : l.stackTraces = false) (hok : gOK g) {a0 : Nat} {i1 : Int32} {i2 : Int32} {a3 : Nat} {M : Mem} {z : (Int32 ⊕ Nat) × Mem} (t0 : Ty g 10 a0) (t3 : Ty g 17 a3) (h : f_L_mended M a0 i1 i2 a3 = some z) : Cx g l yL_mended uL_mended 9 2 12 [.ref (gAd g a0), .int i1, .int i2, .ref (gAd g a3)] M vI z := by
  refine Cx.ofW (cc := cL_mended) (maxL := 5) (ret := (some .int)) (hh := [(0, 10, 13, 35), (0, 10, 17, 13)]) hok (by decide) rfl (Nat.le_of_ble_eq_true rfl) (fun p e s m args below meth c F hr hlk htab => ?_)
  unfold f_L_mended at h
  show V g p l e ({ frames := 9, cells := 2, slots := 12, locals := 40 * 9 } : Room) s m args below meth c 5 0 0 (vx_MQ below (gQx g vI z) (gXx g z) args s 2 12 (gA g)) 0 [(0, .ref (gAd g a0)), (1, .int i1), (2, .int i2), (3, .ref (gAd g a3))] [] M
  refine v_aload_n F dL_mended_0 rfl 3 rfl ?_
  refine v_iconst (v := 0) F dL_mended_1 (by decide) ?_
  refine v_aload_n F dL_mended_2 rfl 0 rfl ?_
  refine v_iload_n F dL_mended_3 rfl 1 rfl ?_
  refine v_iload_n F dL_mended_4 rfl 2 rfl ?_
  obtain ⟨⟨r1 | j4, M2⟩, hz3, h⟩ := bd_some h
  rotate_left
  · dsimp only at h
    refine v_callVxT (As := [.int i1, .int i2]) (rest := [.int 0, .ref (gAd g a3)]) F (c_X10_mended l hst F.2.2.1 t0 hz3) (cwV 2 F.1.2.2.2.2 (gU_V ml_L_79 im_yX10_mended se_yX10_mended ini_X10 cd_X10_mended) rfl rfl rfl (by decide +kernel) ⟨Nat.le_of_ble_eq_true rfl, Nat.le_of_ble_eq_true rfl⟩) t0 (by decide) rfl rfl rfl (Nat.le_of_ble_eq_true rfl) dL_mended_5 ⟨Nat.le_of_ble_eq_true rfl, Nat.le_of_ble_eq_true rfl⟩ ?_
    by_cases hj5 : j4 = 2
    · subst hj5
      rw [if_pos rfl] at h
      refine v_catch F (E := exN 2) (name := "java/lang/IndexOutOfBoundsException") (tableOf []) ⟨0, 10, 13, 35⟩ (tableOf [(0, 10, 17, 13)]) (htab.trans rfl) (fun z hz => by simp [tableOf] at hz) (by decide) (by decide) (List.mem_cons_of_mem _ cl_L_35) (by decide) rfl (fun q9 => ?_)
      refine v_astore (lv' := [(4, .ref (q9)), (0, .ref (gAd g a0)), (1, .int i1), (2, .int i2), (3, .ref (gAd g a3))]) F dL_mended_13 (by decide) rfl ?_
      refine v_iconst (v := 1) F dL_mended_15 (by decide) ?_
      cases h
      refine v_iretX F hr rfl hlk dL_mended_16 ?_ ?_ <;> decide
    rw [if_neg hj5] at h
    by_cases hj6 : j4 = 0
    · subst hj6
      rw [if_pos rfl] at h
      refine v_catch F (E := exN 0) (name := "java/lang/IllegalArgumentException") (tableOf [(0, 10, 13, 35)]) ⟨0, 10, 17, 13⟩ (tableOf []) (htab.trans rfl) (fun z hz => by
          simp only [tableOf, List.map, List.mem_cons, List.not_mem_nil, or_false] at hz
          rcases hz with rfl
          · exact Or.inr ⟨by decide, "java/lang/IndexOutOfBoundsException", (List.mem_cons_of_mem _ cl_L_35), by decide, by decide⟩) (by decide) (by decide) (List.mem_cons_of_mem _ cl_L_13) (by decide) rfl (fun q9 => ?_)
      refine v_astore (lv' := [(4, .ref (q9)), (0, .ref (gAd g a0)), (1, .int i1), (2, .int i2), (3, .ref (gAd g a3))]) F dL_mended_17 (by decide) rfl ?_
      refine v_iconst (v := 2) F dL_mended_19 (by decide) ?_
      cases h
      refine v_iretX F hr rfl hlk dL_mended_20 ?_ ?_ <;> decide
    rw [if_neg hj6] at h
    cases h
  dsimp only at h
  refine v_callVxi (As := [.int i1, .int i2]) (rest := [.int 0, .ref (gAd g a3)]) F (c_X10_mended l hst F.2.2.1 t0 hz3) (cwV 2 F.1.2.2.2.2 (gU_V ml_L_79 im_yX10_mended se_yX10_mended ini_X10 cd_X10_mended) rfl rfl rfl (by decide +kernel) ⟨Nat.le_of_ble_eq_true rfl, Nat.le_of_ble_eq_true rfl⟩) t0 (by decide) rfl rfl rfl (Nat.le_of_ble_eq_true rfl) dL_mended_5 ⟨Nat.le_of_ble_eq_true rfl, Nat.le_of_ble_eq_true rfl⟩ ?_
  refine v_i2l F dL_mended_8 rfl ?_
  obtain ⟨hin7, h⟩ := gd_some h
  refine v_last F rfl t3 hin7 dL_mended_9 ?_
  refine v_goto (tgt := 21) F dL_mended_10 (by decide) ?_
  refine v_iconst (v := 0) F dL_mended_21 (by decide) ?_
  cases h
  refine v_iretX F hr rfl hlk dL_mended_22 ?_ ?_ <;> decide
def f_L_week  (M : Mem) (a0 : Nat) (i1 : Int32) (i2 : Int32) (a3 : Nat) : Option ((Int32 ⊕ Nat) × Mem) := (f_X10_week M a0 i1 i2).bind fun q => match q with | (.inl r1, M2) => (if ¬ ((0 : Int32) < 0 ∨ gN a3 ≤ (0 : Int32).toNatClampNeg) then (some (.inl 0, (mU M2 a3 (0 : Int32).toNatClampNeg r1))) else none) | (.inr j4, M2) => if j4 = 2 then (some (.inl 1, M2)) else (if j4 = 0 then (some (.inl 2, M2)) else (none))
set_option maxHeartbeats 4000000 in
set_option maxRecDepth 100000 in
theorem c_L_week {g : gT} (l : Launch) (hst : l.stackTraces = false) (hok : gOK g) {a0 : Nat} {i1 : Int32} {i2 : Int32} {a3 : Nat} {M : Mem} {z : (Int32 ⊕ Nat) × Mem} (t0 : Ty g 10 a0) (t3 : Ty g 17 a3) (h : f_L_week M a0 i1 i2 a3 = some z) : Cx g l yL_week uL_week 8 2 12 [.ref (gAd g a0), .int i1, .int i2, .ref (gAd g a3)] M vI z := by
  refine Cx.ofW (cc := cL_week) (maxL := 5) (ret := (some .int)) (hh := [(0, 10, 13, 35), (0, 10, 17, 13)]) hok (by decide) rfl (Nat.le_of_ble_eq_true rfl) (fun p e s m args below meth c F hr hlk htab => ?_)
  unfold f_L_week at h
  show V g p l e ({ frames := 8, cells := 2, slots := 12, locals := 40 * 8 } : Room) s m args below meth c 5 0 0 (vx_MQ below (gQx g vI z) (gXx g z) args s 2 12 (gA g)) 0 [(0, .ref (gAd g a0)), (1, .int i1), (2, .int i2), (3, .ref (gAd g a3))] [] M
  refine v_aload_n F dL_week_0 rfl 3 rfl ?_
  refine v_iconst (v := 0) F dL_week_1 (by decide) ?_
  refine v_aload_n F dL_week_2 rfl 0 rfl ?_
  refine v_iload_n F dL_week_3 rfl 1 rfl ?_
  refine v_iload_n F dL_week_4 rfl 2 rfl ?_
  obtain ⟨⟨r1 | j4, M2⟩, hz3, h⟩ := bd_some h
  rotate_left
  · dsimp only at h
    refine v_callVxT (As := [.int i1, .int i2]) (rest := [.int 0, .ref (gAd g a3)]) F (c_X10_week l hst F.2.2.1 t0 hz3) (cwV 2 F.1.2.2.2.2 (gU_V ml_L_82 im_yX10_week se_yX10_week ini_X10 cd_X10_week) rfl rfl rfl (by decide +kernel) ⟨Nat.le_of_ble_eq_true rfl, Nat.le_of_ble_eq_true rfl⟩) t0 (by decide) rfl rfl rfl (Nat.le_of_ble_eq_true rfl) dL_week_5 ⟨Nat.le_of_ble_eq_true rfl, Nat.le_of_ble_eq_true rfl⟩ ?_
    by_cases hj5 : j4 = 2
    · subst hj5
      rw [if_pos rfl] at h
      refine v_catch F (E := exN 2) (name := "java/lang/IndexOutOfBoundsException") (tableOf []) ⟨0, 10, 13, 35⟩ (tableOf [(0, 10, 17, 13)]) (htab.trans rfl) (fun z hz => by simp [tableOf] at hz) (by decide) (by decide) (List.mem_cons_of_mem _ cl_L_35) (by decide) rfl (fun q9 => ?_)
      refine v_astore (lv' := [(4, .ref (q9)), (0, .ref (gAd g a0)), (1, .int i1), (2, .int i2), (3, .ref (gAd g a3))]) F dL_week_13 (by decide) rfl ?_
      refine v_iconst (v := 1) F dL_week_15 (by decide) ?_
      cases h
      refine v_iretX F hr rfl hlk dL_week_16 ?_ ?_ <;> decide
    rw [if_neg hj5] at h
    by_cases hj6 : j4 = 0
    · subst hj6
      rw [if_pos rfl] at h
      refine v_catch F (E := exN 0) (name := "java/lang/IllegalArgumentException") (tableOf [(0, 10, 13, 35)]) ⟨0, 10, 17, 13⟩ (tableOf []) (htab.trans rfl) (fun z hz => by
          simp only [tableOf, List.map, List.mem_cons, List.not_mem_nil, or_false] at hz
          rcases hz with rfl
          · exact Or.inr ⟨by decide, "java/lang/IndexOutOfBoundsException", (List.mem_cons_of_mem _ cl_L_35), by decide, by decide⟩) (by decide) (by decide) (List.mem_cons_of_mem _ cl_L_13) (by decide) rfl (fun q9 => ?_)
      refine v_astore (lv' := [(4, .ref (q9)), (0, .ref (gAd g a0)), (1, .int i1), (2, .int i2), (3, .ref (gAd g a3))]) F dL_week_17 (by decide) rfl ?_
      refine v_iconst (v := 2) F dL_week_19 (by decide) ?_
      cases h
      refine v_iretX F hr rfl hlk dL_week_20 ?_ ?_ <;> decide
    rw [if_neg hj6] at h
    cases h
  dsimp only at h
  refine v_callVxi (As := [.int i1, .int i2]) (rest := [.int 0, .ref (gAd g a3)]) F (c_X10_week l hst F.2.2.1 t0 hz3) (cwV 2 F.1.2.2.2.2 (gU_V ml_L_82 im_yX10_week se_yX10_week ini_X10 cd_X10_week) rfl rfl rfl (by decide +kernel) ⟨Nat.le_of_ble_eq_true rfl, Nat.le_of_ble_eq_true rfl⟩) t0 (by decide) rfl rfl rfl (Nat.le_of_ble_eq_true rfl) dL_week_5 ⟨Nat.le_of_ble_eq_true rfl, Nat.le_of_ble_eq_true rfl⟩ ?_
  refine v_i2l F dL_week_8 rfl ?_
  obtain ⟨hin7, h⟩ := gd_some h
  refine v_last F rfl t3 hin7 dL_week_9 ?_
  refine v_goto (tgt := 21) F dL_week_10 (by decide) ?_
  refine v_iconst (v := 0) F dL_week_21 (by decide) ?_
  cases h
  refine v_iretX F hr rfl hlk dL_week_22 ?_ ?_ <;> decide
def f_L_span  (M : Mem) (a0 : Nat) (i1 : Int32) (i2 : Int32) (i3 : Int32) (i4 : Int32) (i5 : Int32) (a6 : Nat) : Option ((Int32 ⊕ Nat) × Mem) := (f_X10_span M a0 i1 i2 i3 i4 i5).bind fun q => match q with | (.inl r1, M2) => (if ¬ ((0 : Int32) < 0 ∨ gN a6 ≤ (0 : Int32).toNatClampNeg) then (some (.inl 0, (mU M2 a6 (0 : Int32).toNatClampNeg r1))) else none) | (.inr j4, M2) => if j4 = 2 then (some (.inl 1, M2)) else (if j4 = 0 then (some (.inl 2, M2)) else (none))
set_option maxHeartbeats 4000000 in
set_option maxRecDepth 100000 in
theorem c_L_span {g : gT} (l : Launch) (hst : l.stackTraces = false) (hok : gOK g) {a0 : Nat} {i1 : Int32} {i2 : Int32} {i3 : Int32} {i4 : Int32} {i5 : Int32} {a6 : Nat} {M : Mem} {z : (Int32 ⊕ Nat) × Mem} (t0 : Ty g 10 a0) (t6 : Ty g 17 a6) (h : f_L_span M a0 i1 i2 i3 i4 i5 a6 = some z) : Cx g l yL_span uL_span 9 3 18 [.ref (gAd g a0), .int i1, .int i2, .int i3, .int i4, .int i5, .ref (gAd g a6)] M vI z := by
  refine Cx.ofW (cc := cL_span) (maxL := 8) (ret := (some .int)) (hh := [(0, 16, 19, 35), (0, 16, 23, 13)]) hok (by decide) rfl (Nat.le_of_ble_eq_true rfl) (fun p e s m args below meth c F hr hlk htab => ?_)
  unfold f_L_span at h
  show V g p l e ({ frames := 9, cells := 3, slots := 18, locals := 40 * 9 } : Room) s m args below meth c 8 0 0 (vx_MQ below (gQx g vI z) (gXx g z) args s 3 18 (gA g)) 0 [(0, .ref (gAd g a0)), (1, .int i1), (2, .int i2), (3, .int i3), (4, .int i4), (5, .int i5), (6, .ref (gAd g a6))] [] M
  refine v_aload F dL_span_0 6 rfl ?_
  refine v_iconst (v := 0) F dL_span_2 (by decide) ?_
  refine v_aload_n F dL_span_3 rfl 0 rfl ?_
  refine v_iload_n F dL_span_4 rfl 1 rfl ?_
  refine v_iload_n F dL_span_5 rfl 2 rfl ?_
  refine v_iload_n F dL_span_6 rfl 3 rfl ?_
  refine v_iload F dL_span_7 4 rfl ?_
  refine v_iload F dL_span_9 5 rfl ?_
  obtain ⟨⟨r1 | j4, M2⟩, hz3, h⟩ := bd_some h
  rotate_left
  · dsimp only at h
    refine v_callVxT (As := [.int i1, .int i2, .int i3, .int i4, .int i5]) (rest := [.int 0, .ref (gAd g a6)]) F (c_X10_span l hst F.2.2.1 t0 hz3) (cwV 5 F.1.2.2.2.2 (gU_V ml_L_85 im_yX10_span se_yX10_span ini_X10 cd_X10_span) rfl rfl rfl (by decide +kernel) ⟨Nat.le_of_ble_eq_true rfl, Nat.le_of_ble_eq_true rfl⟩) t0 (by decide) rfl rfl rfl (Nat.le_of_ble_eq_true rfl) dL_span_11 ⟨Nat.le_of_ble_eq_true rfl, Nat.le_of_ble_eq_true rfl⟩ ?_
    by_cases hj5 : j4 = 2
    · subst hj5
      rw [if_pos rfl] at h
      refine v_catch F (E := exN 2) (name := "java/lang/IndexOutOfBoundsException") (tableOf []) ⟨0, 16, 19, 35⟩ (tableOf [(0, 16, 23, 13)]) (htab.trans rfl) (fun z hz => by simp [tableOf] at hz) (by decide) (by decide) (List.mem_cons_of_mem _ cl_L_35) (by decide) rfl (fun q9 => ?_)
      refine v_astore (lv' := [(7, .ref (q9)), (0, .ref (gAd g a0)), (1, .int i1), (2, .int i2), (3, .int i3), (4, .int i4), (5, .int i5), (6, .ref (gAd g a6))]) F dL_span_19 (by decide) rfl ?_
      refine v_iconst (v := 1) F dL_span_21 (by decide) ?_
      cases h
      refine v_iretX F hr rfl hlk dL_span_22 ?_ ?_ <;> decide
    rw [if_neg hj5] at h
    by_cases hj6 : j4 = 0
    · subst hj6
      rw [if_pos rfl] at h
      refine v_catch F (E := exN 0) (name := "java/lang/IllegalArgumentException") (tableOf [(0, 16, 19, 35)]) ⟨0, 16, 23, 13⟩ (tableOf []) (htab.trans rfl) (fun z hz => by
          simp only [tableOf, List.map, List.mem_cons, List.not_mem_nil, or_false] at hz
          rcases hz with rfl
          · exact Or.inr ⟨by decide, "java/lang/IndexOutOfBoundsException", (List.mem_cons_of_mem _ cl_L_35), by decide, by decide⟩) (by decide) (by decide) (List.mem_cons_of_mem _ cl_L_13) (by decide) rfl (fun q9 => ?_)
      refine v_astore (lv' := [(7, .ref (q9)), (0, .ref (gAd g a0)), (1, .int i1), (2, .int i2), (3, .int i3), (4, .int i4), (5, .int i5), (6, .ref (gAd g a6))]) F dL_span_23 (by decide) rfl ?_
      refine v_iconst (v := 2) F dL_span_25 (by decide) ?_
      cases h
      refine v_iretX F hr rfl hlk dL_span_26 ?_ ?_ <;> decide
    rw [if_neg hj6] at h
    cases h
  dsimp only at h
  refine v_callVxi (As := [.int i1, .int i2, .int i3, .int i4, .int i5]) (rest := [.int 0, .ref (gAd g a6)]) F (c_X10_span l hst F.2.2.1 t0 hz3) (cwV 5 F.1.2.2.2.2 (gU_V ml_L_85 im_yX10_span se_yX10_span ini_X10 cd_X10_span) rfl rfl rfl (by decide +kernel) ⟨Nat.le_of_ble_eq_true rfl, Nat.le_of_ble_eq_true rfl⟩) t0 (by decide) rfl rfl rfl (Nat.le_of_ble_eq_true rfl) dL_span_11 ⟨Nat.le_of_ble_eq_true rfl, Nat.le_of_ble_eq_true rfl⟩ ?_
  refine v_i2l F dL_span_14 rfl ?_
  obtain ⟨hin7, h⟩ := gd_some h
  refine v_last F rfl t6 hin7 dL_span_15 ?_
  refine v_goto (tgt := 27) F dL_span_16 (by decide) ?_
  refine v_iconst (v := 0) F dL_span_27 (by decide) ?_
  cases h
  refine v_iretX F hr rfl hlk dL_span_28 ?_ ?_ <;> decide
def f_L_bridge  (M : Mem) (a0 : Nat) (i1 : Int32) (a2 : Nat) : Option ((Int32 ⊕ Nat) × Mem) := (f_X10_bridge M a0 i1).bind fun q => match q with | (.inl r1, M2) => (if ¬ ((0 : Int32) < 0 ∨ gN a2 ≤ (0 : Int32).toNatClampNeg) then (some (.inl 0, (mU M2 a2 (0 : Int32).toNatClampNeg r1))) else none) | (.inr j4, M2) => if j4 = 0 then (some (.inl 1, M2)) else (none)
set_option maxHeartbeats 4000000 in
set_option maxRecDepth 100000 in
theorem c_L_bridge {g : gT} (l : Launch) (hst : l.stackTraces = false) (hok : gOK g) {a0 : Nat} {i1 : Int32} {a2 : Nat} {M : Mem} {z : (Int32 ⊕ Nat) × Mem} (t0 : Ty g 10 a0) (t2 : Ty g 17 a2) (h : f_L_bridge M a0 i1 a2 = some z) : Cx g l yL_bridge uL_bridge 8 1 6 [.ref (gAd g a0), .int i1, .ref (gAd g a2)] M vI z := by
  refine Cx.ofW (cc := cL_bridge) (maxL := 4) (ret := (some .int)) (hh := [(0, 9, 12, 13)]) hok (by decide) rfl (Nat.le_of_ble_eq_true rfl) (fun p e s m args below meth c F hr hlk htab => ?_)
  unfold f_L_bridge at h
  show V g p l e ({ frames := 8, cells := 1, slots := 6, locals := 40 * 8 } : Room) s m args below meth c 4 0 0 (vx_MQ below (gQx g vI z) (gXx g z) args s 1 6 (gA g)) 0 [(0, .ref (gAd g a0)), (1, .int i1), (2, .ref (gAd g a2))] [] M
  refine v_aload_n F dL_bridge_0 rfl 2 rfl ?_
  refine v_iconst (v := 0) F dL_bridge_1 (by decide) ?_
  refine v_aload_n F dL_bridge_2 rfl 0 rfl ?_
  refine v_iload_n F dL_bridge_3 rfl 1 rfl ?_
  obtain ⟨⟨r1 | j4, M2⟩, hz3, h⟩ := bd_some h
  rotate_left
  · dsimp only at h
    refine v_callVxT (As := [.int i1]) (rest := [.int 0, .ref (gAd g a2)]) F (c_X10_bridge l hst F.2.2.1 t0 hz3) (cwV 1 F.1.2.2.2.2 (gU_V ml_L_88 im_yX10_bridge se_yX10_bridge ini_X10 cd_X10_bridge) rfl rfl rfl (by decide +kernel) ⟨Nat.le_of_ble_eq_true rfl, Nat.le_of_ble_eq_true rfl⟩) t0 (by decide) rfl rfl rfl (Nat.le_of_ble_eq_true rfl) dL_bridge_4 ⟨Nat.le_of_ble_eq_true rfl, Nat.le_of_ble_eq_true rfl⟩ ?_
    by_cases hj5 : j4 = 0
    · subst hj5
      rw [if_pos rfl] at h
      refine v_catch F (E := exN 0) (name := "java/lang/IllegalArgumentException") (tableOf []) ⟨0, 9, 12, 13⟩ (tableOf []) (htab.trans rfl) (fun z hz => by simp [tableOf] at hz) (by decide) (by decide) (List.mem_cons_of_mem _ cl_L_13) (by decide) rfl (fun q9 => ?_)
      refine v_astore_n (lv' := [(3, .ref (q9)), (0, .ref (gAd g a0)), (1, .int i1), (2, .ref (gAd g a2))]) F dL_bridge_12 rfl (by decide) rfl ?_
      refine v_iconst (v := 1) F dL_bridge_13 (by decide) ?_
      cases h
      refine v_iretX F hr rfl hlk dL_bridge_14 ?_ ?_ <;> decide
    rw [if_neg hj5] at h
    cases h
  dsimp only at h
  refine v_callVxi (As := [.int i1]) (rest := [.int 0, .ref (gAd g a2)]) F (c_X10_bridge l hst F.2.2.1 t0 hz3) (cwV 1 F.1.2.2.2.2 (gU_V ml_L_88 im_yX10_bridge se_yX10_bridge ini_X10 cd_X10_bridge) rfl rfl rfl (by decide +kernel) ⟨Nat.le_of_ble_eq_true rfl, Nat.le_of_ble_eq_true rfl⟩) t0 (by decide) rfl rfl rfl (Nat.le_of_ble_eq_true rfl) dL_bridge_4 ⟨Nat.le_of_ble_eq_true rfl, Nat.le_of_ble_eq_true rfl⟩ ?_
  refine v_i2l F dL_bridge_7 rfl ?_
  obtain ⟨hin6, h⟩ := gd_some h
  refine v_last F rfl t2 hin6 dL_bridge_8 ?_
  refine v_goto (tgt := 15) F dL_bridge_9 (by decide) ?_
  refine v_iconst (v := 0) F dL_bridge_15 (by decide) ?_
  cases h
  refine v_iretX F hr rfl hlk dL_bridge_16 ?_ ?_ <;> decide
def f_L_blows  (M : Mem) (a0 : Nat) (i1 : Int32) (i2 : Int32) (i3 : Int32) (a4 : Nat) : Option ((Int32 ⊕ Nat) × Mem) := (f_X10_blows M a0 i1 i2 i3).bind fun q => match q with | (.inl r1, M2) => (if ¬ ((0 : Int32) < 0 ∨ gN a4 ≤ (0 : Int32).toNatClampNeg) then (some (.inl 0, (mU M2 a4 (0 : Int32).toNatClampNeg r1))) else none) | (.inr j4, M2) => if j4 = 1 then (some (.inl 1, M2)) else (if j4 = 0 then (some (.inl 2, M2)) else (none))
set_option maxHeartbeats 4000000 in
set_option maxRecDepth 100000 in
theorem c_L_blows {g : gT} (l : Launch) (hst : l.stackTraces = false) (hok : gOK g) {a0 : Nat} {i1 : Int32} {i2 : Int32} {i3 : Int32} {a4 : Nat} {M : Mem} {z : (Int32 ⊕ Nat) × Mem} (t0 : Ty g 10 a0) (t4 : Ty g 17 a4) (h : f_L_blows M a0 i1 i2 i3 a4 = some z) : Cx g l yL_blows uL_blows 8 2 12 [.ref (gAd g a0), .int i1, .int i2, .int i3, .ref (gAd g a4)] M vI z := by
  refine Cx.ofW (cc := cL_blows) (maxL := 6) (ret := (some .int)) (hh := [(0, 12, 15, 26), (0, 12, 19, 13)]) hok (by decide) rfl (Nat.le_of_ble_eq_true rfl) (fun p e s m args below meth c F hr hlk htab => ?_)
  unfold f_L_blows at h
  show V g p l e ({ frames := 8, cells := 2, slots := 12, locals := 40 * 8 } : Room) s m args below meth c 6 0 0 (vx_MQ below (gQx g vI z) (gXx g z) args s 2 12 (gA g)) 0 [(0, .ref (gAd g a0)), (1, .int i1), (2, .int i2), (3, .int i3), (4, .ref (gAd g a4))] [] M
  refine v_aload F dL_blows_0 4 rfl ?_
  refine v_iconst (v := 0) F dL_blows_2 (by decide) ?_
  refine v_aload_n F dL_blows_3 rfl 0 rfl ?_
  refine v_iload_n F dL_blows_4 rfl 1 rfl ?_
  refine v_iload_n F dL_blows_5 rfl 2 rfl ?_
  refine v_iload_n F dL_blows_6 rfl 3 rfl ?_
  obtain ⟨⟨r1 | j4, M2⟩, hz3, h⟩ := bd_some h
  rotate_left
  · dsimp only at h
    refine v_callVxT (As := [.int i1, .int i2, .int i3]) (rest := [.int 0, .ref (gAd g a4)]) F (c_X10_blows l hst F.2.2.1 t0 hz3) (cwV 3 F.1.2.2.2.2 (gU_V ml_L_91 im_yX10_blows se_yX10_blows ini_X10 cd_X10_blows) rfl rfl rfl (by decide +kernel) ⟨Nat.le_of_ble_eq_true rfl, Nat.le_of_ble_eq_true rfl⟩) t0 (by decide) rfl rfl rfl (Nat.le_of_ble_eq_true rfl) dL_blows_7 ⟨Nat.le_of_ble_eq_true rfl, Nat.le_of_ble_eq_true rfl⟩ ?_
    by_cases hj5 : j4 = 1
    · subst hj5
      rw [if_pos rfl] at h
      refine v_catch F (E := exN 1) (name := "java/util/NoSuchElementException") (tableOf []) ⟨0, 12, 15, 26⟩ (tableOf [(0, 12, 19, 13)]) (htab.trans rfl) (fun z hz => by simp [tableOf] at hz) (by decide) (by decide) (List.mem_cons_of_mem _ cl_L_26) (by decide) rfl (fun q9 => ?_)
      refine v_astore (lv' := [(5, .ref (q9)), (0, .ref (gAd g a0)), (1, .int i1), (2, .int i2), (3, .int i3), (4, .ref (gAd g a4))]) F dL_blows_15 (by decide) rfl ?_
      refine v_iconst (v := 1) F dL_blows_17 (by decide) ?_
      cases h
      refine v_iretX F hr rfl hlk dL_blows_18 ?_ ?_ <;> decide
    rw [if_neg hj5] at h
    by_cases hj6 : j4 = 0
    · subst hj6
      rw [if_pos rfl] at h
      refine v_catch F (E := exN 0) (name := "java/lang/IllegalArgumentException") (tableOf [(0, 12, 15, 26)]) ⟨0, 12, 19, 13⟩ (tableOf []) (htab.trans rfl) (fun z hz => by
          simp only [tableOf, List.map, List.mem_cons, List.not_mem_nil, or_false] at hz
          rcases hz with rfl
          · exact Or.inr ⟨by decide, "java/util/NoSuchElementException", (List.mem_cons_of_mem _ cl_L_26), by decide, by decide⟩) (by decide) (by decide) (List.mem_cons_of_mem _ cl_L_13) (by decide) rfl (fun q9 => ?_)
      refine v_astore (lv' := [(5, .ref (q9)), (0, .ref (gAd g a0)), (1, .int i1), (2, .int i2), (3, .int i3), (4, .ref (gAd g a4))]) F dL_blows_19 (by decide) rfl ?_
      refine v_iconst (v := 2) F dL_blows_21 (by decide) ?_
      cases h
      refine v_iretX F hr rfl hlk dL_blows_22 ?_ ?_ <;> decide
    rw [if_neg hj6] at h
    cases h
  dsimp only at h
  refine v_callVxi (As := [.int i1, .int i2, .int i3]) (rest := [.int 0, .ref (gAd g a4)]) F (c_X10_blows l hst F.2.2.1 t0 hz3) (cwV 3 F.1.2.2.2.2 (gU_V ml_L_91 im_yX10_blows se_yX10_blows ini_X10 cd_X10_blows) rfl rfl rfl (by decide +kernel) ⟨Nat.le_of_ble_eq_true rfl, Nat.le_of_ble_eq_true rfl⟩) t0 (by decide) rfl rfl rfl (Nat.le_of_ble_eq_true rfl) dL_blows_7 ⟨Nat.le_of_ble_eq_true rfl, Nat.le_of_ble_eq_true rfl⟩ ?_
  refine v_i2l F dL_blows_10 rfl ?_
  obtain ⟨hin7, h⟩ := gd_some h
  refine v_last F rfl t4 hin7 dL_blows_11 ?_
  refine v_goto (tgt := 23) F dL_blows_12 (by decide) ?_
  refine v_iconst (v := 0) F dL_blows_23 (by decide) ?_
  cases h
  refine v_iretX F hr rfl hlk dL_blows_24 ?_ ?_ <;> decide
def f_L_hours  (M : Mem) (a0 : Nat) (i1 : Int32) (a2 : Nat) : Option ((Int32 ⊕ Nat) × Mem) := (f_X10_hours M a0 i1).bind fun q => match q with | (.inl r1, M2) => (if ¬ ((0 : Int32) < 0 ∨ gN a2 ≤ (0 : Int32).toNatClampNeg) then (some (.inl 0, (mU M2 a2 (0 : Int32).toNatClampNeg r1))) else none) | (.inr j4, M2) => if j4 = 1 then (some (.inl 1, M2)) else (none)
set_option maxHeartbeats 4000000 in
set_option maxRecDepth 100000 in
theorem c_L_hours {g : gT} (l : Launch) (hst : l.stackTraces = false) (hok : gOK g) {a0 : Nat} {i1 : Int32} {a2 : Nat} {M : Mem} {z : (Int32 ⊕ Nat) × Mem} (t0 : Ty g 10 a0) (t2 : Ty g 17 a2) (h : f_L_hours M a0 i1 a2 = some z) : Cx g l yL_hours uL_hours 8 1 6 [.ref (gAd g a0), .int i1, .ref (gAd g a2)] M vI z := by
  refine Cx.ofW (cc := cL_hours) (maxL := 4) (ret := (some .int)) (hh := [(0, 9, 12, 26)]) hok (by decide) rfl (Nat.le_of_ble_eq_true rfl) (fun p e s m args below meth c F hr hlk htab => ?_)
  unfold f_L_hours at h
  show V g p l e ({ frames := 8, cells := 1, slots := 6, locals := 40 * 8 } : Room) s m args below meth c 4 0 0 (vx_MQ below (gQx g vI z) (gXx g z) args s 1 6 (gA g)) 0 [(0, .ref (gAd g a0)), (1, .int i1), (2, .ref (gAd g a2))] [] M
  refine v_aload_n F dL_hours_0 rfl 2 rfl ?_
  refine v_iconst (v := 0) F dL_hours_1 (by decide) ?_
  refine v_aload_n F dL_hours_2 rfl 0 rfl ?_
  refine v_iload_n F dL_hours_3 rfl 1 rfl ?_
  obtain ⟨⟨r1 | j4, M2⟩, hz3, h⟩ := bd_some h
  rotate_left
  · dsimp only at h
    refine v_callVxT (As := [.int i1]) (rest := [.int 0, .ref (gAd g a2)]) F (c_X10_hours l hst F.2.2.1 t0 hz3) (cwV 1 F.1.2.2.2.2 (gU_V ml_L_94 im_yX10_hours se_yX10_hours ini_X10 cd_X10_hours) rfl rfl rfl (by decide +kernel) ⟨Nat.le_of_ble_eq_true rfl, Nat.le_of_ble_eq_true rfl⟩) t0 (by decide) rfl rfl rfl (Nat.le_of_ble_eq_true rfl) dL_hours_4 ⟨Nat.le_of_ble_eq_true rfl, Nat.le_of_ble_eq_true rfl⟩ ?_
    by_cases hj5 : j4 = 1
    · subst hj5
      rw [if_pos rfl] at h
      refine v_catch F (E := exN 1) (name := "java/util/NoSuchElementException") (tableOf []) ⟨0, 9, 12, 26⟩ (tableOf []) (htab.trans rfl) (fun z hz => by simp [tableOf] at hz) (by decide) (by decide) (List.mem_cons_of_mem _ cl_L_26) (by decide) rfl (fun q9 => ?_)
      refine v_astore_n (lv' := [(3, .ref (q9)), (0, .ref (gAd g a0)), (1, .int i1), (2, .ref (gAd g a2))]) F dL_hours_12 rfl (by decide) rfl ?_
      refine v_iconst (v := 1) F dL_hours_13 (by decide) ?_
      cases h
      refine v_iretX F hr rfl hlk dL_hours_14 ?_ ?_ <;> decide
    rw [if_neg hj5] at h
    cases h
  dsimp only at h
  refine v_callVxi (As := [.int i1]) (rest := [.int 0, .ref (gAd g a2)]) F (c_X10_hours l hst F.2.2.1 t0 hz3) (cwV 1 F.1.2.2.2.2 (gU_V ml_L_94 im_yX10_hours se_yX10_hours ini_X10 cd_X10_hours) rfl rfl rfl (by decide +kernel) ⟨Nat.le_of_ble_eq_true rfl, Nat.le_of_ble_eq_true rfl⟩) t0 (by decide) rfl rfl rfl (Nat.le_of_ble_eq_true rfl) dL_hours_4 ⟨Nat.le_of_ble_eq_true rfl, Nat.le_of_ble_eq_true rfl⟩ ?_
  refine v_i2l F dL_hours_7 rfl ?_
  obtain ⟨hin6, h⟩ := gd_some h
  refine v_last F rfl t2 hin6 dL_hours_8 ?_
  refine v_goto (tgt := 15) F dL_hours_9 (by decide) ?_
  refine v_iconst (v := 0) F dL_hours_15 (by decide) ?_
  cases h
  refine v_iretX F hr rfl hlk dL_hours_16 ?_ ?_ <;> decide
def f_L_paper  (M : Mem) (a0 : Nat) (i1 : Int32) (i2 : Int32) (i3 : Int32) (a4 : Nat) : Option ((Int32 ⊕ Nat) × Mem) := (f_X10_paper M a0 i1 i2 i3).bind fun q => match q with | (.inl r1, M2) => (if ¬ ((0 : Int32) < 0 ∨ gN a4 ≤ (0 : Int32).toNatClampNeg) then (some (.inl 0, (mU M2 a4 (0 : Int32).toNatClampNeg r1))) else none) | (.inr j4, M2) => if j4 = 0 then (some (.inl 1, M2)) else (none)
set_option maxHeartbeats 4000000 in
set_option maxRecDepth 100000 in
theorem c_L_paper {g : gT} (l : Launch) (hst : l.stackTraces = false) (hok : gOK g) {a0 : Nat} {i1 : Int32} {i2 : Int32} {i3 : Int32} {a4 : Nat} {M : Mem} {z : (Int32 ⊕ Nat) × Mem} (t0 : Ty g 10 a0) (t4 : Ty g 17 a4) (h : f_L_paper M a0 i1 i2 i3 a4 = some z) : Cx g l yL_paper uL_paper 8 1 6 [.ref (gAd g a0), .int i1, .int i2, .int i3, .ref (gAd g a4)] M vI z := by
  refine Cx.ofW (cc := cL_paper) (maxL := 6) (ret := (some .int)) (hh := [(0, 12, 15, 13)]) hok (by decide) rfl (Nat.le_of_ble_eq_true rfl) (fun p e s m args below meth c F hr hlk htab => ?_)
  unfold f_L_paper at h
  show V g p l e ({ frames := 8, cells := 1, slots := 6, locals := 40 * 8 } : Room) s m args below meth c 6 0 0 (vx_MQ below (gQx g vI z) (gXx g z) args s 1 6 (gA g)) 0 [(0, .ref (gAd g a0)), (1, .int i1), (2, .int i2), (3, .int i3), (4, .ref (gAd g a4))] [] M
  refine v_aload F dL_paper_0 4 rfl ?_
  refine v_iconst (v := 0) F dL_paper_2 (by decide) ?_
  refine v_aload_n F dL_paper_3 rfl 0 rfl ?_
  refine v_iload_n F dL_paper_4 rfl 1 rfl ?_
  refine v_iload_n F dL_paper_5 rfl 2 rfl ?_
  refine v_iload_n F dL_paper_6 rfl 3 rfl ?_
  obtain ⟨⟨r1 | j4, M2⟩, hz3, h⟩ := bd_some h
  rotate_left
  · dsimp only at h
    refine v_callVxT (As := [.int i1, .int i2, .int i3]) (rest := [.int 0, .ref (gAd g a4)]) F (c_X10_paper l hst F.2.2.1 t0 hz3) (cwV 3 F.1.2.2.2.2 (gU_V ml_L_97 im_yX10_paper se_yX10_paper ini_X10 cd_X10_paper) rfl rfl rfl (by decide +kernel) ⟨Nat.le_of_ble_eq_true rfl, Nat.le_of_ble_eq_true rfl⟩) t0 (by decide) rfl rfl rfl (Nat.le_of_ble_eq_true rfl) dL_paper_7 ⟨Nat.le_of_ble_eq_true rfl, Nat.le_of_ble_eq_true rfl⟩ ?_
    by_cases hj5 : j4 = 0
    · subst hj5
      rw [if_pos rfl] at h
      refine v_catch F (E := exN 0) (name := "java/lang/IllegalArgumentException") (tableOf []) ⟨0, 12, 15, 13⟩ (tableOf []) (htab.trans rfl) (fun z hz => by simp [tableOf] at hz) (by decide) (by decide) (List.mem_cons_of_mem _ cl_L_13) (by decide) rfl (fun q9 => ?_)
      refine v_astore (lv' := [(5, .ref (q9)), (0, .ref (gAd g a0)), (1, .int i1), (2, .int i2), (3, .int i3), (4, .ref (gAd g a4))]) F dL_paper_15 (by decide) rfl ?_
      refine v_iconst (v := 1) F dL_paper_17 (by decide) ?_
      cases h
      refine v_iretX F hr rfl hlk dL_paper_18 ?_ ?_ <;> decide
    rw [if_neg hj5] at h
    cases h
  dsimp only at h
  refine v_callVxi (As := [.int i1, .int i2, .int i3]) (rest := [.int 0, .ref (gAd g a4)]) F (c_X10_paper l hst F.2.2.1 t0 hz3) (cwV 3 F.1.2.2.2.2 (gU_V ml_L_97 im_yX10_paper se_yX10_paper ini_X10 cd_X10_paper) rfl rfl rfl (by decide +kernel) ⟨Nat.le_of_ble_eq_true rfl, Nat.le_of_ble_eq_true rfl⟩) t0 (by decide) rfl rfl rfl (Nat.le_of_ble_eq_true rfl) dL_paper_7 ⟨Nat.le_of_ble_eq_true rfl, Nat.le_of_ble_eq_true rfl⟩ ?_
  refine v_i2l F dL_paper_10 rfl ?_
  obtain ⟨hin6, h⟩ := gd_some h
  refine v_last F rfl t4 hin6 dL_paper_11 ?_
  refine v_goto (tgt := 19) F dL_paper_12 (by decide) ?_
  refine v_iconst (v := 0) F dL_paper_19 (by decide) ?_
  cases h
  refine v_iretX F hr rfl hlk dL_paper_20 ?_ ?_ <;> decide
def f_L_known  (M : Mem) (a0 : Nat) (i1 : Int32) (a2 : Nat) : Option ((Int32 ⊕ Nat) × Mem) := (f_X10_known M a0 i1).bind fun q => match q with | (.inl r1, M2) => (if ¬ ((0 : Int32) < 0 ∨ gN a2 ≤ (0 : Int32).toNatClampNeg) then (some (.inl 0, (mU M2 a2 (0 : Int32).toNatClampNeg r1))) else none) | (.inr j4, M2) => if j4 = 0 then (some (.inl 1, M2)) else (none)
set_option maxHeartbeats 4000000 in
set_option maxRecDepth 100000 in
theorem c_L_known {g : gT} (l : Launch) (hst : l.stackTraces = false) (hok : gOK g) {a0 : Nat} {i1 : Int32} {a2 : Nat} {M : Mem} {z : (Int32 ⊕ Nat) × Mem} (t0 : Ty g 10 a0) (t2 : Ty g 17 a2) (h : f_L_known M a0 i1 a2 = some z) : Cx g l yL_known uL_known 8 1 6 [.ref (gAd g a0), .int i1, .ref (gAd g a2)] M vI z := by
  refine Cx.ofW (cc := cL_known) (maxL := 4) (ret := (some .int)) (hh := [(0, 9, 12, 13)]) hok (by decide) rfl (Nat.le_of_ble_eq_true rfl) (fun p e s m args below meth c F hr hlk htab => ?_)
  unfold f_L_known at h
  show V g p l e ({ frames := 8, cells := 1, slots := 6, locals := 40 * 8 } : Room) s m args below meth c 4 0 0 (vx_MQ below (gQx g vI z) (gXx g z) args s 1 6 (gA g)) 0 [(0, .ref (gAd g a0)), (1, .int i1), (2, .ref (gAd g a2))] [] M
  refine v_aload_n F dL_known_0 rfl 2 rfl ?_
  refine v_iconst (v := 0) F dL_known_1 (by decide) ?_
  refine v_aload_n F dL_known_2 rfl 0 rfl ?_
  refine v_iload_n F dL_known_3 rfl 1 rfl ?_
  obtain ⟨⟨r1 | j4, M2⟩, hz3, h⟩ := bd_some h
  rotate_left
  · dsimp only at h
    refine v_callVxT (As := [.int i1]) (rest := [.int 0, .ref (gAd g a2)]) F (c_X10_known l hst F.2.2.1 t0 hz3) (cwV 1 F.1.2.2.2.2 (gU_V ml_L_100 im_yX10_known se_yX10_known ini_X10 cd_X10_known) rfl rfl rfl (by decide +kernel) ⟨Nat.le_of_ble_eq_true rfl, Nat.le_of_ble_eq_true rfl⟩) t0 (by decide) rfl rfl rfl (Nat.le_of_ble_eq_true rfl) dL_known_4 ⟨Nat.le_of_ble_eq_true rfl, Nat.le_of_ble_eq_true rfl⟩ ?_
    by_cases hj5 : j4 = 0
    · subst hj5
      rw [if_pos rfl] at h
      refine v_catch F (E := exN 0) (name := "java/lang/IllegalArgumentException") (tableOf []) ⟨0, 9, 12, 13⟩ (tableOf []) (htab.trans rfl) (fun z hz => by simp [tableOf] at hz) (by decide) (by decide) (List.mem_cons_of_mem _ cl_L_13) (by decide) rfl (fun q9 => ?_)
      refine v_astore_n (lv' := [(3, .ref (q9)), (0, .ref (gAd g a0)), (1, .int i1), (2, .ref (gAd g a2))]) F dL_known_12 rfl (by decide) rfl ?_
      refine v_iconst (v := 1) F dL_known_13 (by decide) ?_
      cases h
      refine v_iretX F hr rfl hlk dL_known_14 ?_ ?_ <;> decide
    rw [if_neg hj5] at h
    cases h
  dsimp only at h
  refine v_callVxi (As := [.int i1]) (rest := [.int 0, .ref (gAd g a2)]) F (c_X10_known l hst F.2.2.1 t0 hz3) (cwV 1 F.1.2.2.2.2 (gU_V ml_L_100 im_yX10_known se_yX10_known ini_X10 cd_X10_known) rfl rfl rfl (by decide +kernel) ⟨Nat.le_of_ble_eq_true rfl, Nat.le_of_ble_eq_true rfl⟩) t0 (by decide) rfl rfl rfl (Nat.le_of_ble_eq_true rfl) dL_known_4 ⟨Nat.le_of_ble_eq_true rfl, Nat.le_of_ble_eq_true rfl⟩ ?_
  refine v_i2l F dL_known_7 rfl ?_
  obtain ⟨hin6, h⟩ := gd_some h
  refine v_last F rfl t2 hin6 dL_known_8 ?_
  refine v_goto (tgt := 15) F dL_known_9 (by decide) ?_
  refine v_iconst (v := 0) F dL_known_15 (by decide) ?_
  cases h
  refine v_iretX F hr rfl hlk dL_known_16 ?_ ?_ <;> decide
def f_L_could  (M : Mem) (a0 : Nat) (i1 : Int32) (a2 : Nat) : Option ((Int32 ⊕ Nat) × Mem) := (f_X10_could M a0 i1).bind fun q => match q with | (.inl r1, M2) => (if ¬ ((0 : Int32) < 0 ∨ gN a2 ≤ (0 : Int32).toNatClampNeg) then (some (.inl 0, (mU M2 a2 (0 : Int32).toNatClampNeg r1))) else none) | (.inr j4, M2) => if j4 = 0 then (some (.inl 1, M2)) else (none)
set_option maxHeartbeats 4000000 in
set_option maxRecDepth 100000 in
theorem c_L_could {g : gT} (l : Launch) (hst : l.stackTraces = false) (hok : gOK g) {a0 : Nat} {i1 : Int32} {a2 : Nat} {M : Mem} {z : (Int32 ⊕ Nat) × Mem} (t0 : Ty g 10 a0) (t2 : Ty g 17 a2) (h : f_L_could M a0 i1 a2 = some z) : Cx g l yL_could uL_could 8 1 6 [.ref (gAd g a0), .int i1, .ref (gAd g a2)] M vI z := by
  refine Cx.ofW (cc := cL_could) (maxL := 4) (ret := (some .int)) (hh := [(0, 9, 12, 13)]) hok (by decide) rfl (Nat.le_of_ble_eq_true rfl) (fun p e s m args below meth c F hr hlk htab => ?_)
  unfold f_L_could at h
  show V g p l e ({ frames := 8, cells := 1, slots := 6, locals := 40 * 8 } : Room) s m args below meth c 4 0 0 (vx_MQ below (gQx g vI z) (gXx g z) args s 1 6 (gA g)) 0 [(0, .ref (gAd g a0)), (1, .int i1), (2, .ref (gAd g a2))] [] M
  refine v_aload_n F dL_could_0 rfl 2 rfl ?_
  refine v_iconst (v := 0) F dL_could_1 (by decide) ?_
  refine v_aload_n F dL_could_2 rfl 0 rfl ?_
  refine v_iload_n F dL_could_3 rfl 1 rfl ?_
  obtain ⟨⟨r1 | j4, M2⟩, hz3, h⟩ := bd_some h
  rotate_left
  · dsimp only at h
    refine v_callVxT (As := [.int i1]) (rest := [.int 0, .ref (gAd g a2)]) F (c_X10_could l hst F.2.2.1 t0 hz3) (cwV 1 F.1.2.2.2.2 (gU_V ml_L_103 im_yX10_could se_yX10_could ini_X10 cd_X10_could) rfl rfl rfl (by decide +kernel) ⟨Nat.le_of_ble_eq_true rfl, Nat.le_of_ble_eq_true rfl⟩) t0 (by decide) rfl rfl rfl (Nat.le_of_ble_eq_true rfl) dL_could_4 ⟨Nat.le_of_ble_eq_true rfl, Nat.le_of_ble_eq_true rfl⟩ ?_
    by_cases hj5 : j4 = 0
    · subst hj5
      rw [if_pos rfl] at h
      refine v_catch F (E := exN 0) (name := "java/lang/IllegalArgumentException") (tableOf []) ⟨0, 9, 12, 13⟩ (tableOf []) (htab.trans rfl) (fun z hz => by simp [tableOf] at hz) (by decide) (by decide) (List.mem_cons_of_mem _ cl_L_13) (by decide) rfl (fun q9 => ?_)
      refine v_astore_n (lv' := [(3, .ref (q9)), (0, .ref (gAd g a0)), (1, .int i1), (2, .ref (gAd g a2))]) F dL_could_12 rfl (by decide) rfl ?_
      refine v_iconst (v := 1) F dL_could_13 (by decide) ?_
      cases h
      refine v_iretX F hr rfl hlk dL_could_14 ?_ ?_ <;> decide
    rw [if_neg hj5] at h
    cases h
  dsimp only at h
  refine v_callVxi (As := [.int i1]) (rest := [.int 0, .ref (gAd g a2)]) F (c_X10_could l hst F.2.2.1 t0 hz3) (cwV 1 F.1.2.2.2.2 (gU_V ml_L_103 im_yX10_could se_yX10_could ini_X10 cd_X10_could) rfl rfl rfl (by decide +kernel) ⟨Nat.le_of_ble_eq_true rfl, Nat.le_of_ble_eq_true rfl⟩) t0 (by decide) rfl rfl rfl (Nat.le_of_ble_eq_true rfl) dL_could_4 ⟨Nat.le_of_ble_eq_true rfl, Nat.le_of_ble_eq_true rfl⟩ ?_
  refine v_i2l F dL_could_7 rfl ?_
  obtain ⟨hin6, h⟩ := gd_some h
  refine v_last F rfl t2 hin6 dL_could_8 ?_
  refine v_goto (tgt := 15) F dL_could_9 (by decide) ?_
  refine v_iconst (v := 0) F dL_could_15 (by decide) ?_
  cases h
  refine v_iretX F hr rfl hlk dL_could_16 ?_ ?_ <;> decide
def f_L_shut  (M : Mem) (a0 : Nat) (i1 : Int32) (i2 : Int32) (i3 : Int32) (i4 : Int32) (i5 : Int32) (i6 : Int32) (a7 : Nat) : Option ((Int32 ⊕ Nat) × Mem) := (f_X10_shut M a0 i1 i2 i3 i4 i5 i6).bind fun q => match q with | (.inl r1, M2) => (if ¬ ((0 : Int32) < 0 ∨ gN a7 ≤ (0 : Int32).toNatClampNeg) then (some (.inl 0, (mU M2 a7 (0 : Int32).toNatClampNeg r1))) else none) | (.inr j4, M2) => if j4 = 2 then (some (.inl 1, M2)) else (if j4 = 0 then (some (.inl 2, M2)) else (none))
set_option maxHeartbeats 4000000 in
set_option maxRecDepth 100000 in
theorem c_L_shut {g : gT} (l : Launch) (hst : l.stackTraces = false) (hok : gOK g) {a0 : Nat} {i1 : Int32} {i2 : Int32} {i3 : Int32} {i4 : Int32} {i5 : Int32} {i6 : Int32} {a7 : Nat} {M : Mem} {z : (Int32 ⊕ Nat) × Mem} (t0 : Ty g 10 a0) (t7 : Ty g 17 a7) (h : f_L_shut M a0 i1 i2 i3 i4 i5 i6 a7 = some z) : Cx g l yL_shut uL_shut 9 4 24 [.ref (gAd g a0), .int i1, .int i2, .int i3, .int i4, .int i5, .int i6, .ref (gAd g a7)] M vI z := by
  refine Cx.ofW (cc := cL_shut) (maxL := 9) (ret := (some .int)) (hh := [(0, 18, 21, 35), (0, 18, 25, 13)]) hok (by decide) rfl (Nat.le_of_ble_eq_true rfl) (fun p e s m args below meth c F hr hlk htab => ?_)
  unfold f_L_shut at h
  show V g p l e ({ frames := 9, cells := 4, slots := 24, locals := 40 * 9 } : Room) s m args below meth c 9 0 0 (vx_MQ below (gQx g vI z) (gXx g z) args s 4 24 (gA g)) 0 [(0, .ref (gAd g a0)), (1, .int i1), (2, .int i2), (3, .int i3), (4, .int i4), (5, .int i5), (6, .int i6), (7, .ref (gAd g a7))] [] M
  refine v_aload F dL_shut_0 7 rfl ?_
  refine v_iconst (v := 0) F dL_shut_2 (by decide) ?_
  refine v_aload_n F dL_shut_3 rfl 0 rfl ?_
  refine v_iload_n F dL_shut_4 rfl 1 rfl ?_
  refine v_iload_n F dL_shut_5 rfl 2 rfl ?_
  refine v_iload_n F dL_shut_6 rfl 3 rfl ?_
  refine v_iload F dL_shut_7 4 rfl ?_
  refine v_iload F dL_shut_9 5 rfl ?_
  refine v_iload F dL_shut_11 6 rfl ?_
  obtain ⟨⟨r1 | j4, M2⟩, hz3, h⟩ := bd_some h
  rotate_left
  · dsimp only at h
    refine v_callVxT (As := [.int i1, .int i2, .int i3, .int i4, .int i5, .int i6]) (rest := [.int 0, .ref (gAd g a7)]) F (c_X10_shut l hst F.2.2.1 t0 hz3) (cwV 6 F.1.2.2.2.2 (gU_V ml_L_106 im_yX10_shut se_yX10_shut ini_X10 cd_X10_shut) rfl rfl rfl (by decide +kernel) ⟨Nat.le_of_ble_eq_true rfl, Nat.le_of_ble_eq_true rfl⟩) t0 (by decide) rfl rfl rfl (Nat.le_of_ble_eq_true rfl) dL_shut_13 ⟨Nat.le_of_ble_eq_true rfl, Nat.le_of_ble_eq_true rfl⟩ ?_
    by_cases hj5 : j4 = 2
    · subst hj5
      rw [if_pos rfl] at h
      refine v_catch F (E := exN 2) (name := "java/lang/IndexOutOfBoundsException") (tableOf []) ⟨0, 18, 21, 35⟩ (tableOf [(0, 18, 25, 13)]) (htab.trans rfl) (fun z hz => by simp [tableOf] at hz) (by decide) (by decide) (List.mem_cons_of_mem _ cl_L_35) (by decide) rfl (fun q9 => ?_)
      refine v_astore (lv' := [(8, .ref (q9)), (0, .ref (gAd g a0)), (1, .int i1), (2, .int i2), (3, .int i3), (4, .int i4), (5, .int i5), (6, .int i6), (7, .ref (gAd g a7))]) F dL_shut_21 (by decide) rfl ?_
      refine v_iconst (v := 1) F dL_shut_23 (by decide) ?_
      cases h
      refine v_iretX F hr rfl hlk dL_shut_24 ?_ ?_ <;> decide
    rw [if_neg hj5] at h
    by_cases hj6 : j4 = 0
    · subst hj6
      rw [if_pos rfl] at h
      refine v_catch F (E := exN 0) (name := "java/lang/IllegalArgumentException") (tableOf [(0, 18, 21, 35)]) ⟨0, 18, 25, 13⟩ (tableOf []) (htab.trans rfl) (fun z hz => by
          simp only [tableOf, List.map, List.mem_cons, List.not_mem_nil, or_false] at hz
          rcases hz with rfl
          · exact Or.inr ⟨by decide, "java/lang/IndexOutOfBoundsException", (List.mem_cons_of_mem _ cl_L_35), by decide, by decide⟩) (by decide) (by decide) (List.mem_cons_of_mem _ cl_L_13) (by decide) rfl (fun q9 => ?_)
      refine v_astore (lv' := [(8, .ref (q9)), (0, .ref (gAd g a0)), (1, .int i1), (2, .int i2), (3, .int i3), (4, .int i4), (5, .int i5), (6, .int i6), (7, .ref (gAd g a7))]) F dL_shut_25 (by decide) rfl ?_
      refine v_iconst (v := 2) F dL_shut_27 (by decide) ?_
      cases h
      refine v_iretX F hr rfl hlk dL_shut_28 ?_ ?_ <;> decide
    rw [if_neg hj6] at h
    cases h
  dsimp only at h
  refine v_callVxi (As := [.int i1, .int i2, .int i3, .int i4, .int i5, .int i6]) (rest := [.int 0, .ref (gAd g a7)]) F (c_X10_shut l hst F.2.2.1 t0 hz3) (cwV 6 F.1.2.2.2.2 (gU_V ml_L_106 im_yX10_shut se_yX10_shut ini_X10 cd_X10_shut) rfl rfl rfl (by decide +kernel) ⟨Nat.le_of_ble_eq_true rfl, Nat.le_of_ble_eq_true rfl⟩) t0 (by decide) rfl rfl rfl (Nat.le_of_ble_eq_true rfl) dL_shut_13 ⟨Nat.le_of_ble_eq_true rfl, Nat.le_of_ble_eq_true rfl⟩ ?_
  refine v_i2l F dL_shut_16 rfl ?_
  obtain ⟨hin7, h⟩ := gd_some h
  refine v_last F rfl t7 hin7 dL_shut_17 ?_
  refine v_goto (tgt := 29) F dL_shut_18 (by decide) ?_
  refine v_iconst (v := 0) F dL_shut_29 (by decide) ?_
  cases h
  refine v_iretX F hr rfl hlk dL_shut_30 ?_ ?_ <;> decide
