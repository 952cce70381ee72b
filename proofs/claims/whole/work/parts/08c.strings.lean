abbrev uJ0_charAt_5068e : List Cond := Cond.code yJ0_charAt_5068e cJ0_charAt_5068e 2 (some .char) :: uT
abbrev uJ0_checkIndex_df160 : List Cond := Cond.code yJ0_checkIndex_df160 cJ0_checkIndex_df160 2 none :: uT
abbrev uJ0_coder_7d493 : List Cond := Cond.code yJ0_coder_7d493 cJ0_coder_7d493 1 (some .byte) :: uT
abbrev uJ0_isLatin1_aae02 : List Cond := Cond.code yJ0_isLatin1_aae02 cJ0_isLatin1_aae02 1 (some .boolean) :: uT
abbrev uJ0_length_8abf5 : List Cond := Cond.code yJ0_length_8abf5 cJ0_length_8abf5 1 (some .int) :: uT
abbrev uJ1_charAt_3b067 : List Cond := Cond.code yJ1_charAt_3b067 cJ1_charAt_3b067 2 (some .char) :: uT
abbrev uJ3_checkIndex_8e157 : List Cond := Cond.code yJ3_checkIndex_8e157 cJ3_checkIndex_8e157 3 (some .int) :: uT
/-! The one text that the class reads by signs: length() and charAt(k) of it, walked. -/
def wCh (i : Int32) : Int32 := (((wBy.getD i.toNatClampNeg 0) &&& 255).toUInt32 % 65536).toInt32
section STRINGS
variable {g : gT} {p : Program} {l : Launch} {e : Env} {R : Room} {s : State} {m : MethodId} {args : Array Value} {below : List Frame} {meth : Method} {c : Code} {nL cells slots : Nat} {Q : State → Prop}
variable {cc : ByteArray} {Ts : List Cond} {own : String} {pc : Nat} {lv : List (Nat × Value)} {rest : List Value} {M : Mem}
theorem v_getsA (F : Fx g p s m args c cc nL Ts own) {C n d : String} {v : Value} {index : Nat} (hZ : va_Z C n d v (gA g) s s.heap) (hlink : Cond.fieldLink own index C n d ∈ Ts) (hdg : decode cc pc = .ok (.getstatic index, 3)) (kk : V g p l e R s m args below meth c nL cells slots Q (pc + 3) lv (v :: rest) M) : V g p l e R s m args below meth c nL cells slots Q pc lv rest M := fun H locs ls hP hS hl => va_gets F.1.1 F.1.2.1 hZ hS F.1.2.2.2.1 (F.1.2.2.2.2 _ hlink) (fun _ h => h) hdg (kk H locs ls hP hS hl)
theorem v_ofld (F : Fx g p s m args c cc nL Ts own) {o n d : String} {v : Value} {index q : Nat} (hE : va_OF o n d v q (gA g) s s.heap) (hlink : Cond.fieldLink own index o n d ∈ Ts) (hdg : decode cc pc = .ok (.getfield index, 3)) (kk : V g p l e R s m args below meth c nL cells slots Q (pc + 3) lv (v :: rest) M) : V g p l e R s m args below meth c nL cells slots Q pc lv (.ref q :: rest) M := fun H locs ls hP hS hl => vk_getf F.1.1 F.1.2.1 hE hS F.1.2.2.2.1 (F.1.2.2.2.2 _ hlink) (fun _ h => h) hdg (kk H locs ls hP hS hl)
theorem v_btlen (F : Fx g p s m args c cc nL Ts own) {t N : Nat} {f : Nat → Value} {v : Int32} (hT : va_T .byte t N f (gA g) s s.heap) (hv : Int32.ofNat N = v) (hdg : decode cc pc = .ok (.arraylength, 1)) (kk : V g p l e R s m args below meth c nL cells slots Q (pc + 1) lv (.int v :: rest) M) : V g p l e R s m args below meth c nL cells slots Q pc lv (.ref t :: rest) M := fun H locs ls hP hS hl => va_tlen F.1.1 F.1.2.1 hT hS hv hdg (kk H locs ls hP hS hl)
theorem v_btld (F : Fx g p s m args c cc nL Ts own) {t N : Nat} {f : Nat → Value} {v : Value} {i : Int32} (hT : va_T .byte t N f (gA g) s s.heap) (hi : vp_in i N) (hv : f i.toNatClampNeg = v) (hdg : decode cc pc = .ok (.baload, 1)) (kk : V g p l e R s m args below meth c nL cells slots Q (pc + 1) lv (v :: rest) M) : V g p l e R s m args below meth c nL cells slots Q pc lv (.int i :: .ref t :: rest) M := fun H locs ls hP hS hl => va_tb F.1.1 F.1.2.1 hT hS hi hv hdg (kk H locs ls hP hS hl)
theorem v_i2c (F : Fx g p s m args c cc nL Ts own) {x v : Int32} (hdg : decode cc pc = .ok (.i2c, 1)) (hv : (x.toUInt32 % 65536).toInt32 = v) (k : V g p l e R s m args below meth c nL cells slots Q (pc + 1) lv (.int v :: rest) M) : V g p l e R s m args below meth c nL cells slots Q pc lv (.int x :: rest) M := fun H locs ls hP hS hl => lv_i2c F.1.1 F.1.2.1 hdg hv (k H locs ls hP hS hl)
theorem v_ldcS (F : Fx g p s m args c cc nL Ts own) {tx : String} {index q : Nat} (hZ : vk_R own index tx q s) (hdg : decode cc pc = .ok (.ldc index, 2)) (k : V g p l e R s m args below meth c nL cells slots Q (pc + 2) lv (.ref q :: rest) M) : V g p l e R s m args below meth c nL cells slots Q pc lv rest M := fun H locs ls hP hS hl => va_ldcS F.1.1 F.1.2.1 F.1.2.2.2.1 hZ hdg (k H locs ls hP hS hl)
theorem v_callVs (F : Fx g p s m args c cc nL Ts own) {y : MethodName} {ws : List Cond} {k maxL n index : Nat} {bytes : ByteArray} {ret : Option FieldType} {As : List Value} {r : Int32} {M' : Mem} (hM : Cn g l y ws k (.ref (gSx g 8) :: As) M (some (.int r)) M') (cw : CallW R s args own RJ0 index y bytes maxL ret ws ({ frames := k, cells := 0, slots := 0, locals := 40 * k } : Room) 0 0 n) (hn : As.length = n) {st : List Value} (hst : st = As.reverse ++ .ref (gSx g 8) :: rest) (hW : (rest.map fun v => v.category).sum ≤ 8) (hdg : decode cc pc = .ok (.invokevirtual index, 3)) (hf : cells ≤ R.cells ∧ slots ≤ R.slots) (kk : V g p l e R s m args below meth c nL cells slots Q (pc + 3) lv (.int r :: rest) M') : V g p l e R s m args below meth c nL cells slots Q pc lv st M := by
  intro H locs ls hP hS hl
  exact v_after (v := some (.int r)) (va_runV (As := As) (rest := rest) F.1 hM cw ⟨gI_blind, vk_recv F.2.2.2.2.2.2.2.2.2.2.2.1 (i := 0) (by decide) hS, fun U hU hW9 => ⟨rfl, gI_pre F hP hS hU hW9⟩⟩ rfl hn hl.1 hst (lv_room hW) hdg hf) hS hl kk
end STRINGS
set_option maxHeartbeats 4000000 in
set_option maxRecDepth 100000 in
theorem c_J0_coder {g : gT} (l : Launch) (hok : gOK g) (M : Mem) : Cn g l yJ0_coder_7d493 uJ0_coder_7d493 0 [.ref (gSx g 8)] M (some (.int 0)) M := by
  refine Cn.of (cc := cJ0_coder_7d493) (maxL := 1) (ret := (some .byte)) hok (by decide) rfl (Nat.le_of_ble_eq_true rfl) (fun p e s m args below meth c F hr hlk => ?_)
  show V g p l e ({ frames := 0, cells := 0, slots := 0, locals := 40 * 0 } : Room) s m args below meth c 1 0 0 (MQ below (gQ g (some (.int 0)) M) args s 0 0 (gA g)) 0 [(0, .ref (gSx g 8))] [] M
  refine v_getsA F F.2.2.2.2.2.2.2.2.2.2.2.2.1 (List.mem_cons_of_mem _ fl_J0_38) dJ0_coder_7d493_0 ?_
  refine v_if_eq (tgt := 13) F dJ0_coder_7d493_3 (by decide) (fun h => absurd h (by decide)) (fun _ => ?_)
  refine v_aload_n F dJ0_coder_7d493_6 rfl 0 rfl ?_
  refine v_ofld F (F.2.2.2.2.2.2.2.2.2.2.2.1.1 0 (by decide)).2.1 (List.mem_cons_of_mem _ fl_J0_15) dJ0_coder_7d493_7 ?_
  refine v_goto (tgt := 14) F dJ0_coder_7d493_10 (by decide) ?_
  exact v_iret F hr (by decide +kernel) hlk dJ0_coder_7d493_14
set_option maxHeartbeats 4000000 in
set_option maxRecDepth 100000 in
theorem c_J0_isLatin1 {g : gT} (l : Launch) (hok : gOK g) (M : Mem) : Cn g l yJ0_isLatin1_aae02 uJ0_isLatin1_aae02 0 [.ref (gSx g 8)] M (some (.int 1)) M := by
  refine Cn.of (cc := cJ0_isLatin1_aae02) (maxL := 1) (ret := (some .boolean)) hok (by decide) rfl (Nat.le_of_ble_eq_true rfl) (fun p e s m args below meth c F hr hlk => ?_)
  show V g p l e ({ frames := 0, cells := 0, slots := 0, locals := 40 * 0 } : Room) s m args below meth c 1 0 0 (MQ below (gQ g (some (.int 1)) M) args s 0 0 (gA g)) 0 [(0, .ref (gSx g 8))] [] M
  refine v_getsA F F.2.2.2.2.2.2.2.2.2.2.2.2.1 (List.mem_cons_of_mem _ fl_J0_38) dJ0_isLatin1_aae02_0 ?_
  refine v_if_eq (tgt := 17) F dJ0_isLatin1_aae02_3 (by decide) (fun h => absurd h (by decide)) (fun _ => ?_)
  refine v_aload_n F dJ0_isLatin1_aae02_6 rfl 0 rfl ?_
  refine v_ofld F (F.2.2.2.2.2.2.2.2.2.2.2.1.1 0 (by decide)).2.1 (List.mem_cons_of_mem _ fl_J0_15) dJ0_isLatin1_aae02_7 ?_
  refine v_if_ne (tgt := 17) F dJ0_isLatin1_aae02_10 (by decide) (fun h => absurd rfl h) (fun _ => ?_)
  refine v_iconst (v := 1) F dJ0_isLatin1_aae02_13 (by decide) ?_
  refine v_goto (tgt := 18) F dJ0_isLatin1_aae02_14 (by decide) ?_
  exact v_iret F hr narrow_b1 hlk dJ0_isLatin1_aae02_18
set_option maxHeartbeats 4000000 in
set_option maxRecDepth 100000 in
theorem c_J0_length {g : gT} (l : Launch) (hok : gOK g) (M : Mem) : Cn g l yJ0_length_8abf5 uJ0_length_8abf5 1 [.ref (gSx g 8)] M (some (.int 88)) M := by
  refine Cn.of (cc := cJ0_length_8abf5) (maxL := 1) (ret := (some .int)) hok (by decide) rfl (Nat.le_of_ble_eq_true rfl) (fun p e s m args below meth c F hr hlk => ?_)
  show V g p l e ({ frames := 1, cells := 0, slots := 0, locals := 40 * 1 } : Room) s m args below meth c 1 0 0 (MQ below (gQ g (some (.int 88)) M) args s 0 0 (gA g)) 0 [(0, .ref (gSx g 8))] [] M
  refine v_aload_n F dJ0_length_8abf5_0 rfl 0 rfl ?_
  refine v_ofld F (F.2.2.2.2.2.2.2.2.2.2.2.1.1 0 (by decide)).2.2.1 (List.mem_cons_of_mem _ fl_J0_9) dJ0_length_8abf5_1 ?_
  refine v_btlen (v := 88) F (F.2.2.2.2.2.2.2.2.2.2.2.1.1 0 (by decide)).2.2.2 rfl dJ0_length_8abf5_4 ?_
  refine v_aload_n F dJ0_length_8abf5_5 rfl 0 rfl ?_
  refine v_callVs (As := []) (rest := [.int 88]) F (c_J0_coder l F.2.2.1 M) (cwV 0 F.1.2.2.2.2 (gU_V ml_J0_335 im_yJ0_coder_7d493 se_yJ0_coder_7d493 ini_J0 cd_J0_coder_7d493) rfl rfl rfl (by decide +kernel) ⟨Nat.le_of_ble_eq_true rfl, Nat.le_of_ble_eq_true rfl⟩) rfl rfl (Nat.le_of_ble_eq_true rfl) dJ0_length_8abf5_6 ⟨Nat.le_of_ble_eq_true rfl, Nat.le_of_ble_eq_true rfl⟩ ?_
  refine v_ishr F dJ0_length_8abf5_9 ?_
  exact v_iret (x := 88) F hr rfl hlk dJ0_length_8abf5_10
theorem vp_lt88 {i : Int32} (h : vp_in i 88) : i < 88 := by
  have h1 := vp_in_iff.mp h
  rw [Int32.lt_iff_toInt_lt]
  exact h1.2
set_option maxHeartbeats 4000000 in
set_option maxRecDepth 100000 in
theorem c_J3_checkIndexN {g : gT} (l : Launch) (hok : gOK g) (M : Mem) {i : Int32} (hi : vp_in i 88) : Cn g l yJ3_checkIndex_8e157 uJ3_checkIndex_8e157 0 [.int i, .int 88, .null] M (some (.int i)) M := by
  refine Cn.of (cc := cJ3_checkIndex_8e157) (maxL := 3) (ret := (some .int)) hok (by decide) rfl (Nat.le_of_ble_eq_true rfl) (fun p e s m args below meth c F hr hlk => ?_)
  show V g p l e ({ frames := 0, cells := 0, slots := 0, locals := 40 * 0 } : Room) s m args below meth c 3 0 0 (MQ below (gQ g (some (.int i)) M) args s 0 0 (gA g)) 0 [(0, .int i), (1, .int 88), (2, .null)] [] M
  refine v_iload_n F dJ3_checkIndex_8e157_0 rfl 0 rfl ?_
  refine v_if_lt (tgt := 9) F dJ3_checkIndex_8e157_1 (by decide) (fun h => absurd h (fun q => hi (Or.inl q))) (fun _ => ?_)
  refine v_iload_n F dJ3_checkIndex_8e157_4 rfl 0 rfl ?_
  refine v_iload_n F dJ3_checkIndex_8e157_5 rfl 1 rfl ?_
  refine v_icmp_lt (tgt := 16) F dJ3_checkIndex_8e157_6 (by decide) (fun _ => ?_) (fun h => absurd (vp_lt88 hi) h)
  refine v_iload_n F dJ3_checkIndex_8e157_16 rfl 0 rfl ?_
  exact v_iret F hr rfl hlk dJ3_checkIndex_8e157_17
set_option maxHeartbeats 4000000 in
set_option maxRecDepth 100000 in
theorem c_J3_checkIndexR {g : gT} (l : Launch) (hok : gOK g) (M : Mem) {i : Int32} {t : Nat} (hi : vp_in i 88) : Cn g l yJ3_checkIndex_8e157 uJ3_checkIndex_8e157 0 [.int i, .int 88, .ref t] M (some (.int i)) M := by
  refine Cn.of (cc := cJ3_checkIndex_8e157) (maxL := 3) (ret := (some .int)) hok (by decide) rfl (Nat.le_of_ble_eq_true rfl) (fun p e s m args below meth c F hr hlk => ?_)
  show V g p l e ({ frames := 0, cells := 0, slots := 0, locals := 40 * 0 } : Room) s m args below meth c 3 0 0 (MQ below (gQ g (some (.int i)) M) args s 0 0 (gA g)) 0 [(0, .int i), (1, .int 88), (2, .ref t)] [] M
  refine v_iload_n F dJ3_checkIndex_8e157_0 rfl 0 rfl ?_
  refine v_if_lt (tgt := 9) F dJ3_checkIndex_8e157_1 (by decide) (fun h => absurd h (fun q => hi (Or.inl q))) (fun _ => ?_)
  refine v_iload_n F dJ3_checkIndex_8e157_4 rfl 0 rfl ?_
  refine v_iload_n F dJ3_checkIndex_8e157_5 rfl 1 rfl ?_
  refine v_icmp_lt (tgt := 16) F dJ3_checkIndex_8e157_6 (by decide) (fun _ => ?_) (fun h => absurd (vp_lt88 hi) h)
  refine v_iload_n F dJ3_checkIndex_8e157_16 rfl 0 rfl ?_
  exact v_iret F hr rfl hlk dJ3_checkIndex_8e157_17
set_option maxHeartbeats 4000000 in
set_option maxRecDepth 100000 in
theorem c_J0_checkIndex {g : gT} (l : Launch) (hok : gOK g) (M : Mem) {i : Int32} (hi : vp_in i 88) : Cn g l yJ0_checkIndex_df160 uJ0_checkIndex_df160 1 [.int i, .int 88] M none M := by
  refine Cn.of (cc := cJ0_checkIndex_df160) (maxL := 2) (ret := none) hok (by decide) rfl (Nat.le_of_ble_eq_true rfl) (fun p e s m args below meth c F hr hlk => ?_)
  show V g p l e ({ frames := 1, cells := 0, slots := 0, locals := 40 * 1 } : Room) s m args below meth c 2 0 0 (MQ below (gQ g none M) args s 0 0 (gA g)) 0 [(0, .int i), (1, .int 88)] [] M
  refine v_iload_n F dJ0_checkIndex_df160_0 rfl 0 rfl ?_
  refine v_iload_n F dJ0_checkIndex_df160_1 rfl 1 rfl ?_
  rcases F.2.2.2.2.2.2.2.2.2.2.2.2.2.1 with hz | ⟨t, hz⟩
  · refine v_getsA F hz (List.mem_cons_of_mem _ fl_J0_1053) dJ0_checkIndex_df160_2 ?_
    refine v_callSi (As := [.int i, .int 88, .null]) (rest := []) F (c_J3_checkIndexN l F.2.2.1 M hi) (va_cwS 3 F.1.2.2.2.2 (gU_S ml_J0_1059 st_yJ3_checkIndex_8e157 ini_J3 cd_J3_checkIndex_8e157) rfl rfl rfl (by decide +kernel) ⟨Nat.le_of_ble_eq_true rfl, Nat.le_of_ble_eq_true rfl⟩) rfl rfl (Nat.le_of_ble_eq_true rfl) dJ0_checkIndex_df160_5 ⟨Nat.le_of_ble_eq_true rfl, Nat.le_of_ble_eq_true rfl⟩ ?_
    refine v_pop F dJ0_checkIndex_df160_8 rfl ?_
    exact v_vret F hr hlk dJ0_checkIndex_df160_9
  · refine v_getsA F hz (List.mem_cons_of_mem _ fl_J0_1053) dJ0_checkIndex_df160_2 ?_
    refine v_callSi (As := [.int i, .int 88, .ref t]) (rest := []) F (c_J3_checkIndexR l F.2.2.1 M hi) (va_cwS 3 F.1.2.2.2.2 (gU_S ml_J0_1059 st_yJ3_checkIndex_8e157 ini_J3 cd_J3_checkIndex_8e157) rfl rfl rfl (by decide +kernel) ⟨Nat.le_of_ble_eq_true rfl, Nat.le_of_ble_eq_true rfl⟩) rfl rfl (Nat.le_of_ble_eq_true rfl) dJ0_checkIndex_df160_5 ⟨Nat.le_of_ble_eq_true rfl, Nat.le_of_ble_eq_true rfl⟩ ?_
    refine v_pop F dJ0_checkIndex_df160_8 rfl ?_
    exact v_vret F hr hlk dJ0_checkIndex_df160_9
set_option maxHeartbeats 4000000 in
set_option maxRecDepth 100000 in
theorem c_J1_charAt {g : gT} (l : Launch) (hok : gOK g) (M : Mem) {i : Int32} (hi : vp_in i 88) : Cn g l yJ1_charAt_3b067 uJ1_charAt_3b067 2 [.ref (gSx g 9), .int i] M (some (.int (wCh i))) M := by
  refine Cn.of (cc := cJ1_charAt_3b067) (maxL := 2) (ret := (some .char)) hok (by decide) rfl (Nat.le_of_ble_eq_true rfl) (fun p e s m args below meth c F hr hlk => ?_)
  show V g p l e ({ frames := 2, cells := 0, slots := 0, locals := 40 * 2 } : Room) s m args below meth c 2 0 0 (MQ below (gQ g (some (.int (wCh i))) M) args s 0 0 (gA g)) 0 [(0, .ref (gSx g 9)), (1, .int i)] [] M
  refine v_iload_n F dJ1_charAt_3b067_0 rfl 1 rfl ?_
  refine v_aload_n F dJ1_charAt_3b067_1 rfl 0 rfl ?_
  refine v_btlen (v := 88) F (F.2.2.2.2.2.2.2.2.2.2.2.1.1 0 (by decide)).2.2.2 rfl dJ1_charAt_3b067_2 ?_
  refine v_callSv (As := [.int i, .int 88]) (rest := []) F (c_J0_checkIndex l F.2.2.1 M hi) (va_cwS 2 F.1.2.2.2.2 (gU_S ml_J1_9 st_yJ0_checkIndex_df160 ini_J0 cd_J0_checkIndex_df160) rfl rfl rfl (by decide +kernel) ⟨Nat.le_of_ble_eq_true rfl, Nat.le_of_ble_eq_true rfl⟩) rfl rfl (Nat.le_of_ble_eq_true rfl) dJ1_charAt_3b067_3 ⟨Nat.le_of_ble_eq_true rfl, Nat.le_of_ble_eq_true rfl⟩ ?_
  refine v_aload_n F dJ1_charAt_3b067_6 rfl 0 rfl ?_
  refine v_iload_n F dJ1_charAt_3b067_7 rfl 1 rfl ?_
  refine v_btld F (F.2.2.2.2.2.2.2.2.2.2.2.1.1 0 (by decide)).2.2.2 hi rfl dJ1_charAt_3b067_8 ?_
  refine v_sipush (v := 255) F dJ1_charAt_3b067_9 (by decide) ?_
  refine v_iand F dJ1_charAt_3b067_12 ?_
  refine v_i2c (v := wCh i) F dJ1_charAt_3b067_13 rfl ?_
  exact v_iret F hr (pk_nc _) hlk dJ1_charAt_3b067_14
set_option maxHeartbeats 4000000 in
set_option maxRecDepth 100000 in
theorem c_J0_charAt {g : gT} (l : Launch) (hok : gOK g) (M : Mem) {i : Int32} (hi : vp_in i 88) : Cn g l yJ0_charAt_5068e uJ0_charAt_5068e 3 [.ref (gSx g 8), .int i] M (some (.int (wCh i))) M := by
  refine Cn.of (cc := cJ0_charAt_5068e) (maxL := 2) (ret := (some .char)) hok (by decide) rfl (Nat.le_of_ble_eq_true rfl) (fun p e s m args below meth c F hr hlk => ?_)
  show V g p l e ({ frames := 3, cells := 0, slots := 0, locals := 40 * 3 } : Room) s m args below meth c 2 0 0 (MQ below (gQ g (some (.int (wCh i))) M) args s 0 0 (gA g)) 0 [(0, .ref (gSx g 8)), (1, .int i)] [] M
  refine v_aload_n F dJ0_charAt_5068e_0 rfl 0 rfl ?_
  refine v_callVs (As := []) (rest := []) F (c_J0_isLatin1 l F.2.2.1 M) (cwV 0 F.1.2.2.2.2 (gU_V ml_J0_492 im_yJ0_isLatin1_aae02 se_yJ0_isLatin1_aae02 ini_J0 cd_J0_isLatin1_aae02) rfl rfl rfl (by decide +kernel) ⟨Nat.le_of_ble_eq_true rfl, Nat.le_of_ble_eq_true rfl⟩) rfl rfl (Nat.le_of_ble_eq_true rfl) dJ0_charAt_5068e_1 ⟨Nat.le_of_ble_eq_true rfl, Nat.le_of_ble_eq_true rfl⟩ ?_
  refine v_if_eq (tgt := 16) F dJ0_charAt_5068e_4 (by decide) (fun h => absurd h (by decide)) (fun _ => ?_)
  refine v_aload_n F dJ0_charAt_5068e_7 rfl 0 rfl ?_
  refine v_ofld F (F.2.2.2.2.2.2.2.2.2.2.2.1.1 0 (by decide)).2.2.1 (List.mem_cons_of_mem _ fl_J0_9) dJ0_charAt_5068e_8 ?_
  refine v_iload_n F dJ0_charAt_5068e_11 rfl 1 rfl ?_
  refine v_callSi (As := [.ref (gSx g 9), .int i]) (rest := []) F (c_J1_charAt l F.2.2.1 M hi) (va_cwS 2 F.1.2.2.2.2 (gU_S ml_J0_495 st_yJ1_charAt_3b067 ini_J1 cd_J1_charAt_3b067) rfl rfl rfl (by decide +kernel) ⟨Nat.le_of_ble_eq_true rfl, Nat.le_of_ble_eq_true rfl⟩) rfl rfl (Nat.le_of_ble_eq_true rfl) dJ0_charAt_5068e_12 ⟨Nat.le_of_ble_eq_true rfl, Nat.le_of_ble_eq_true rfl⟩ ?_
  exact v_iret F hr (pk_nc _) hlk dJ0_charAt_5068e_15
