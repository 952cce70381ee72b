/-! The deck's constructor, the road's. -/
theorem v_getsN {g : gT} {p : Program} {l : Launch} {e : Env} {R : Room} {s : State} {m : MethodId} {args : Array Value} {below : List Frame} {meth : Method} {c : Code} {nL cells slots : Nat} {Q : State → Prop} {cc : ByteArray} {Ts : List Cond} {own host : String} {pc : Nat} {lv : List (Nat × Value)} {rest : List Value} {M : Mem} (F : Fx g p s m args c cc nL Ts own) {nm : String} {f : Nat → Int32} {t index : Nat} (hZ : gSt (gA g) nm f t s s.heap) (hlink : va_Nw (.fieldLinkNest own index "GallopRoads" nm "[I" host) s) (hdg : decode cc pc = .ok (.getstatic index, 3)) (kk : V g p l e R s m args below meth c nL cells slots Q (pc + 3) lv (.ref t :: rest) M) : V g p l e R s m args below meth c nL cells slots Q pc lv rest M := fun H locs ls hP hS hl => va_getsN F.1.1 F.1.2.1 hZ.1 hS F.1.2.2.2.1 (va_Nw.use rfl hlink) (fun _ h => h) hdg (kk H locs ls hP hS hl)
theorem ml_X1_49 : Cond.methodLink RX1 49 yX1_lay ∈ uT := uM1 (List.mem_of_getElem? (i := 130) rfl) rfl
theorem cd_X1_init : Cond.code yX1_init cX1_init 2 none ∈ uT := uM1 (List.mem_of_getElem? (i := 120) rfl) rfl
theorem ml_X1_3 : Cond.methodLink RX1 3 objectInit ∈ uT := uM1 (List.mem_of_getElem? (i := 121) rfl) rfl
theorem cl_X1_9 : Cond.classLink RX1 9 "GallopRoads$Row" ∈ uT := uM1 (List.mem_of_getElem? (i := 122) rfl) rfl
theorem ml_X1_11 : Cond.methodLink RX1 11 yX8_init ∈ uT := uM1 (List.mem_of_getElem? (i := 123) rfl) rfl
theorem ml_X7_1 : Cond.methodLink RX7 1 objectInit ∈ uT := uM1 (List.mem_of_getElem? (i := 115) rfl) rfl
theorem cl_X7_7 : Cond.classLink RX7 7 "GallopRoads$Deck" ∈ uT := uM1 (List.mem_of_getElem? (i := 116) rfl) rfl
theorem it_X1 : Cond.instantiable RX1 10 ∈ uT := uM1 (List.mem_of_getElem? (i := 117) rfl) rfl
theorem ml_X7_9 : Cond.methodLink RX7 9 yX1_init ∈ uT := uM1 (List.mem_of_getElem? (i := 118) rfl) rfl
theorem im_yX1_init : Cond.instanceMethod yX1_init ∈ uT := uM1 (List.mem_of_getElem? (i := 119) rfl) rfl
theorem cl_X7_16 : Cond.classLink RX7 16 "GallopRoads$Film" ∈ uT := uM1 (List.mem_of_getElem? (i := 185) rfl) rfl
theorem it_X2 : Cond.instantiable RX2 5 ∈ uT := uM1 (List.mem_of_getElem? (i := 186) rfl) rfl
theorem cd_X2_init : Cond.code yX2_init cX2_init 1 none ∈ uT := uM1 (List.mem_of_getElem? (i := 189) rfl) rfl
theorem im_yX2_init : Cond.instanceMethod yX2_init ∈ uT := uM1 (List.mem_of_getElem? (i := 188) rfl) rfl
theorem cl_X7_23 : Cond.classLink RX7 23 "GallopRoads$Mends" ∈ uT := uM1 (List.mem_of_getElem? (i := 210) rfl) rfl
theorem it_X4 : Cond.instantiable RX4 4 ∈ uT := uM1 (List.mem_of_getElem? (i := 211) rfl) rfl
theorem cd_X4_init : Cond.code yX4_init cX4_init 1 none ∈ uT := uM1 (List.mem_of_getElem? (i := 214) rfl) rfl
theorem im_yX4_init : Cond.instanceMethod yX4_init ∈ uT := uM1 (List.mem_of_getElem? (i := 213) rfl) rfl
theorem cl_X7_30 : Cond.classLink RX7 30 "GallopRoads$Bridges" ∈ uT := uM1 (List.mem_of_getElem? (i := 232) rfl) rfl
theorem it_X0 : Cond.instantiable RX0 3 ∈ uT := uM1 (List.mem_of_getElem? (i := 233) rfl) rfl
theorem cd_X0_init : Cond.code yX0_init cX0_init 1 none ∈ uT := uM1 (List.mem_of_getElem? (i := 236) rfl) rfl
theorem im_yX0_init : Cond.instanceMethod yX0_init ∈ uT := uM1 (List.mem_of_getElem? (i := 235) rfl) rfl
theorem cl_X7_37 : Cond.classLink RX7 37 "GallopRoads$Papers" ∈ uT := uM2 (List.mem_of_getElem? (i := 11) rfl) rfl
theorem it_X5 : Cond.instantiable RX5 4 ∈ uT := uM2 (List.mem_of_getElem? (i := 12) rfl) rfl
theorem cd_X5_init : Cond.code yX5_init cX5_init 1 none ∈ uT := uM2 (List.mem_of_getElem? (i := 15) rfl) rfl
theorem im_yX5_init : Cond.instanceMethod yX5_init ∈ uT := uM2 (List.mem_of_getElem? (i := 14) rfl) rfl
abbrev S1 : List (Nat × Nat × List (Option Nat)) := [(1, 10, [none, none, some 1, some 3, some 5, some 7, some 9, some 11, some 13, some 15]), (8, 1, [some 2]), (12, 10, []), (8, 1, [some 4]), (12, 8, []), (8, 1, [some 6]), (12, 8, []), (8, 1, [some 8]), (12, 8, []), (8, 1, [some 10]), (12, 8, []), (8, 1, [some 12]), (12, 8, []), (8, 1, [some 14]), (12, 8, []), (8, 1, [some 16]), (12, 9, [])]
abbrev uX1_init : List Cond := Cond.code yX1_init cX1_init 2 none :: uT
def f_X1_init_h110 (a0 : Nat)  : Nat → Int32 → Mem → Option (Int32 × Mem)
  | 0, _, _ => none
  | n + 1, x1, M => if 10 ≤ x1 then ((f_X1_lay M a0 4).bind fun q => match q with | (r2, M3) => (some (0, M3))) else (if ¬ (x1 < 0 ∨ 10 ≤ x1.toNatClampNeg) then ((f_X8_put M (gRf a0 2) x1 (nbF x1.toNatClampNeg)).bind fun q => match q with | (r8, M9) => ((f_X1_init_h110 a0 n) (x1 + 1) M9)) else none)
def f_X1_init_b108 (a0 : Nat)   (M : Mem) : Option (Int32 × Mem) := f_X1_init_h110 a0 FU 0 M
set_option maxHeartbeats 4000000 in
set_option maxRecDepth 100000 in
theorem w_X1_init_h110 {g : gT} {p : Program} {l : Launch} {e : Env} {s : State} {m : MethodId} {args : Array Value} {below : List Frame} {meth : Method} {c : Code} {z : Int32 × Mem} (F : Fx g p s m args c cX1_init 2 uX1_init RX1) (hr : meth.sig.returnType = none) (hlk : meth.locks = false)  {a0 : Nat} (t0 : Ty g 1 a0)   : ∀ (n : Nat) (x1 : Int32) (M : Mem), f_X1_init_h110 a0 n x1 M = some z → V g p l e ({ frames := 3, cells := 16, slots := 75, locals := 40 * 3 } : Room) s m args below meth c 2 16 75 (MQ below (gQ g none z.2) args s 16 75 (gA g)) 110 [(0, .ref (gAd g a0)), (1, .int x1)] [] M := by
  intro n
  induction n with
  | zero => intro x1 M; intros; rename_i h; cases h
  | succ n ih =>
    intro x1 M h
    rw [f_X1_init_h110] at h
    refine v_iload_n F dX1_init_110 rfl 1 rfl ?_
    refine v_getsN (host := RX10) F F.2.2.2.2.2.2.1 (F.2.2.2.2.1 _ (by decide +kernel)) dX1_init_111 ?_
    refine v_stlen F F.2.2.2.2.2.2.1 dX1_init_114 ?_
    refine v_icmp_ge (tgt := 137) F dX1_init_115 (by decide) (fun hc1 => ?_) (fun hc1 => ?_)
    · rw [if_pos hc1] at h
      refine v_aload_n F dX1_init_137 rfl 0 rfl ?_
      refine v_iconst (v := 4) F dX1_init_138 (by decide) ?_
      obtain ⟨⟨r2, M3⟩, hz4, h⟩ := bd_some h
      dsimp only at h
      refine v_callVv (As := [.int 4]) (rest := []) F (c_X1_lay l F.2.2.1 t0 hz4) (cwV 1 F.1.2.2.2.2 (gU_V ml_X1_49 im_yX1_lay se_yX1_lay ini_X1 cd_X1_lay) rfl rfl rfl (by decide +kernel) ⟨Nat.le_of_ble_eq_true rfl, Nat.le_of_ble_eq_true rfl⟩) t0 (by decide) rfl rfl rfl (Nat.le_of_ble_eq_true rfl) dX1_init_139 ⟨Nat.le_of_ble_eq_true rfl, Nat.le_of_ble_eq_true rfl⟩ ?_
      cases h
      exact v_vret F hr hlk dX1_init_142
    · rw [if_neg hc1] at h
      refine v_aload_n F dX1_init_118 rfl 0 rfl ?_
      refine v_getR (k := 2) (f := 8) F t0 (by decide) (inc inU_1) rfl rfl (by decide) (by decide) (List.mem_cons_of_mem _ fl_X1_14) rfl dX1_init_119 (fun u6 => ?_)
      refine v_iload_n F dX1_init_122 rfl 1 rfl ?_
      refine v_getsN (host := RX10) F F.2.2.2.2.2.2.1 (F.2.2.2.2.1 _ (by decide +kernel)) dX1_init_123 ?_
      refine v_iload_n F dX1_init_126 rfl 1 rfl ?_
      obtain ⟨hin7, h⟩ := gd_some h
      refine v_stld F F.2.2.2.2.2.2.1 hin7 dX1_init_127 ?_
      obtain ⟨⟨r8, M9⟩, hz10, h⟩ := bd_some h
      dsimp only at h
      refine v_callVv (As := [.int x1, .int (nbF x1.toNatClampNeg)]) (rest := []) F (c_X8_put l F.2.2.1 u6 hz10) (cwV 2 F.1.2.2.2.2 (gU_V ml_X1_45 im_yX8_put se_yX8_put ini_X8 cd_X8_put) rfl rfl rfl (by decide +kernel) ⟨Nat.le_of_ble_eq_true rfl, Nat.le_of_ble_eq_true rfl⟩) u6 (by decide) rfl rfl rfl (Nat.le_of_ble_eq_true rfl) dX1_init_128 ⟨Nat.le_of_ble_eq_true rfl, Nat.le_of_ble_eq_true rfl⟩ ?_
      refine v_iinc (v := x1 + 1) (lv' := [(1, .int (x1 + 1)), (0, .ref (gAd g a0))]) F dX1_init_131 (q := 1) rfl rfl (by decide) rfl ?_
      refine v_goto (tgt := 110) F dX1_init_134 (by decide) ?_
      refine v_sub (fun ls h9 => lv_sub h9 [1, 0] rfl) ?_
      exact ih _ _ h
set_option maxHeartbeats 4000000 in
set_option maxRecDepth 100000 in
theorem w_X1_init_b108 {g : gT} {p : Program} {l : Launch} {e : Env} {s : State} {m : MethodId} {args : Array Value} {below : List Frame} {meth : Method} {c : Code} {z : Int32 × Mem} (F : Fx g p s m args c cX1_init 2 uX1_init RX1) (hr : meth.sig.returnType = none) (hlk : meth.locks = false)  {a0 : Nat} (t0 : Ty g 1 a0)    (M : Mem)  (h : f_X1_init_b108 a0 M = some z) : V g p l e ({ frames := 3, cells := 16, slots := 75, locals := 40 * 3 } : Room) s m args below meth c 2 16 75 (MQ below (gQ g none z.2) args s 16 75 (gA g)) 108 [(0, .ref (gAd g a0))] [] M := by
  unfold f_X1_init_b108 at h
  refine v_iconst (v := 0) F dX1_init_108 (by decide) ?_
  refine v_istore_n (lv' := [(1, .int 0), (0, .ref (gAd g a0))]) F dX1_init_109 rfl (by decide) rfl ?_
  refine v_sub (fun ls h9 => lv_sub h9 [1, 0] rfl) ?_
  exact w_X1_init_h110 F hr hlk t0 _ _ _ h
def D0 : Dk := sLay (fun o j => if o = 2 then nbF j else 0) 4
theorem dks_of {c : Nat} (hS : shAt S1 c) : DkS c := by
  intro j hj
  have ref : ∀ k r, (S1[0]?.map (fun e => e.2.2.getD k none)) = some (some r) → gRf c k = c + r := fun k r h => by
    have h1 := (hS.get (j := 0) rfl).2.2 k
    have h2 : (shp c).2.2 k = some (c + r) := by
      rw [show (shp c).2.2 k = (shp (c + 0)).2.2 k from rfl, h1]
      have h3 := Option.some.inj h
      rw [show ([none, none, some 1, some 3, some 5, some 7, some 9, some 11, some 13, some 15] : List (Option Nat)).getD k none = some r from h3]
      rfl
    unfold gRf
    rw [h2]; rfl
  have row : ∀ i r, (hi : S1[i]? = some (8, 1, [some r])) → gRf (c + i) 0 = c + r := fun i r hi => by
    have h1 := (hS.get hi).2.2 0
    unfold gRf
    rw [h1]; rfl
  have len : ∀ i n, (hi : S1[i]? = some (12, n, [])) → gN (c + i) = n := fun i n hi => (hS.get hi).2.1
  rcases (show j = 0 ∨ j = 1 ∨ j = 2 ∨ j = 3 ∨ j = 4 ∨ j = 5 ∨ j = 6 ∨ j = 7 by omega) with rfl | rfl | rfl | rfl | rfl | rfl | rfl | rfl
  · exact ⟨ref 2 1 rfl, row 1 2 rfl, len 2 10 rfl⟩
  · exact ⟨ref 3 3 rfl, row 3 4 rfl, len 4 8 rfl⟩
  · exact ⟨ref 4 5 rfl, row 5 6 rfl, len 6 8 rfl⟩
  · exact ⟨ref 5 7 rfl, row 7 8 rfl, len 8 8 rfl⟩
  · exact ⟨ref 6 9 rfl, row 9 10 rfl, len 10 8 rfl⟩
  · exact ⟨ref 7 11 rfl, row 11 12 rfl, len 12 8 rfl⟩
  · exact ⟨ref 8 13 rfl, row 13 14 rfl, len 14 8 rfl⟩
  · exact ⟨ref 9 15 rfl, row 15 16 rfl, len 16 9 rfl⟩
theorem dk_lay {c : Nat} {M : Mem} {D : Dk} (hs : DkS c) (h : RD M c D) (v : Int32) : tot (f_X1_lay M c v) (fun _ M' => RD M' c (sLay D v) ∧ ∀ b, (b < c ∨ c + 17 ≤ b) → M' b = M b) := by
  unfold f_X1_lay
  obtain ⟨M1, e1, hR1, hf1⟩ := r_still hs ((h.put 0 0 v).put 0 1 0)
  rw [show mU (mU M (c + 0) 0 v) (c + 0) 1 0 = mU (mU M c 0 v) c 1 0 from rfl] at e1 hf1
  rw [e1, Option.bind_some]
  show tot ((f_X8_fill M1 (gRf c (2 + 5)) 2).bind _) _
  rw [hs.fl (j := 5) (by decide), Option.bind_some]
  show tot ((f_X8_fill (mSet M1 (c + 12) 8 (fun _ => 2)) (gRf c (2 + 6)) 0).bind _) _
  rw [hs.fl (j := 6) (by decide), Option.bind_some]
  refine tot.ret ⟨((hR1.set 12 8 (fun _ => 2)).set 14 8 (fun _ => 0)).cg (fun o k hi => ?_), fun b hb => ?_⟩
  · unfold inD at hi
    rcases hi with ⟨rfl, hk⟩ | ⟨rfl, hk⟩ | ⟨rfl | rfl | rfl | rfl | rfl | rfl, hk⟩
    · have : k = 0 ∨ k = 1 := by omega
      rcases this with rfl | rfl <;> simp [mSet_at, mU_at, sLay]
    all_goals simp [mSet_at, mU_at, sLay, hk]
  · show mSet (mSet M1 (c + 12) 8 _) (c + 14) 8 _ b = M b
    rw [mSet_ne (by omega), mSet_ne (by omega), hf1 b hb, u_ne (by omega), u_ne (by omega)]
theorem dk_init {c : Nat} {M : Mem} (hs : DkS c) (hZ : ∀ a, c ≤ a → M a = fun _ => 0) : ∃ M', f_X1_init_b108 c M = some (0, M') ∧ RD M' c D0 ∧ ∀ b, (b < c ∨ c + 17 ≤ b) → M' b = M b := by
  have t : tot (f_X1_init_b108 c M) (fun r M' => r = 0 ∧ RD M' c D0 ∧ ∀ b, (b < c ∨ c + 17 ≤ b) → M' b = M b) := by
    unfold f_X1_init_b108
    refine tot.loopFU (σ := Int32 × Mem) (fun m s9 => f_X1_init_h110 c m s9.1 s9.2) 10 (fun k s9 => s9.1 = nI k ∧ RD s9.2 c (fun o j => if o = 2 ∧ j < k then nbF j else 0) ∧ ∀ b, (b < c ∨ c + 17 ≤ b) → s9.2 b = M b) _ (by omega) (0, M) ⟨rfl, fun o k hi => ?_, fun _ _ => rfl⟩ ?_ ?_
    · show M (c + o) k = if o = 2 ∧ k < 0 then nbF k else 0
      rw [hZ (c + o) (by omega), if_neg (by omega)]
    · rintro m k ⟨x, M1⟩ hk ⟨hx, a1, a2⟩ hnext
      dsimp only at hx a1 a2
      subst hx
      show tot (f_X1_init_h110 c (m + 1) (nI k) M1) _
      rw [f_X1_init_h110, if_neg (show ¬ (10 : Int32) ≤ nI k from i_nle (b := 10) hk (by omega)), if_pos (i_in (by omega) (by omega)), i_cl (by omega), q_put, Option.bind_some]
      dsimp only
      rw [hs.wr (j := 0) (by decide) (show k < dkN 0 from hk), nI_1]
      refine hnext (nI (k + 1), mU M1 (c + (2 + 2 * 0)) k (nbF k)) ⟨rfl, (a1.put 2 k (nbF k)).cg (fun o j _ => ?_), fun b hb => ?_⟩ <;> (try dsimp only)
      · rw [mU_at]
        by_cases hz : o = 2 ∧ j = k
        · rw [if_pos hz, if_pos (by omega), hz.2]
        · rw [if_neg hz]
          by_cases hz2 : o = 2 ∧ j < k
          · rw [if_pos hz2, if_pos (by omega)]
          · rw [if_neg hz2, if_neg (by omega)]
      · rw [u_ne (by omega)]; exact a2 b hb
    · rintro m ⟨x, M1⟩ ⟨hx, a1, a2⟩
      dsimp only at hx a1 a2
      subst hx
      show tot (f_X1_init_h110 c (m + 1) (nI 10) M1) _
      rw [f_X1_init_h110, if_pos (show (10 : Int32) ≤ nI 10 by decide)]
      refine (dk_lay hs a1 4).bd (fun r M2 h2 => tot.ret ⟨rfl, h2.1.cg (fun o k hi => ?_), fun b hb => (h2.2 b hb).trans (a2 b hb)⟩)
      unfold D0 sLay
      by_cases h0 : o = 0
      · rw [if_pos h0, if_pos h0]
      · rw [if_neg h0, if_neg h0]
        by_cases h2' : o = 2
        · have : k < 10 := by unfold inD at hi; omega
          rw [if_pos h2', if_pos h2']
          show (if (2 : Nat) = 2 ∧ k < 10 then nbF k else 0) = (if (2 : Nat) = 2 then nbF k else 0)
          rw [if_pos ⟨rfl, this⟩, if_pos rfl]
        · rw [if_neg h2', if_neg h2']
  obtain ⟨r, M', e, rfl, h1, h2⟩ := t
  exact ⟨M', e, h1, h2⟩
set_option maxHeartbeats 4000000 in
set_option maxRecDepth 100000 in
theorem mp_Deck (l : Launch) : MkP l yX1_init uX1_init 3 16 75 17 S1 [] (fun c M' => RD M' c D0) := by
  intro c M hS hZ
  have hZ0 : ∀ a, c + 1 ≤ a → M a = fun _ => 0 := fun a h => hZ a (by omega)
  obtain ⟨M1, hP1, hr1, hc1⟩ := (mp_Row l (N := 10) (n := 10) rfl (by decide)) (c + 1) M (hS.sub (j := 1) (by decide +kernel)) (fun a h => hZ0 a h)
  have hM1 := (mp_eq hP1 hr1 (fun a h => hZ0 a h)).symm; subst hM1
  have hZ1 : ∀ a, c + 3 ≤ a → M a = fun _ => 0 := fun a h => hZ0 a (by omega)
  obtain ⟨M2, hP2, hr2, hc2⟩ := (mp_Row l (N := 8) (n := 8) rfl (by decide)) (c + 3) M (hS.sub (j := 3) (by decide +kernel)) (fun a h => hZ1 a h)
  have hM2 := (mp_eq hP2 hr2 (fun a h => hZ1 a h)).symm; subst hM2
  have hZ2 : ∀ a, c + 5 ≤ a → M a = fun _ => 0 := fun a h => hZ1 a (by omega)
  obtain ⟨M3, hP3, hr3, hc3⟩ := (mp_Row l (N := 8) (n := 8) rfl (by decide)) (c + 5) M (hS.sub (j := 5) (by decide +kernel)) (fun a h => hZ2 a h)
  have hM3 := (mp_eq hP3 hr3 (fun a h => hZ2 a h)).symm; subst hM3
  have hZ3 : ∀ a, c + 7 ≤ a → M a = fun _ => 0 := fun a h => hZ2 a (by omega)
  obtain ⟨M4, hP4, hr4, hc4⟩ := (mp_Row l (N := 8) (n := 8) rfl (by decide)) (c + 7) M (hS.sub (j := 7) (by decide +kernel)) (fun a h => hZ3 a h)
  have hM4 := (mp_eq hP4 hr4 (fun a h => hZ3 a h)).symm; subst hM4
  have hZ4 : ∀ a, c + 9 ≤ a → M a = fun _ => 0 := fun a h => hZ3 a (by omega)
  obtain ⟨M5, hP5, hr5, hc5⟩ := (mp_Row l (N := 8) (n := 8) rfl (by decide)) (c + 9) M (hS.sub (j := 9) (by decide +kernel)) (fun a h => hZ4 a h)
  have hM5 := (mp_eq hP5 hr5 (fun a h => hZ4 a h)).symm; subst hM5
  have hZ5 : ∀ a, c + 11 ≤ a → M a = fun _ => 0 := fun a h => hZ4 a (by omega)
  obtain ⟨M6, hP6, hr6, hc6⟩ := (mp_Row l (N := 8) (n := 8) rfl (by decide)) (c + 11) M (hS.sub (j := 11) (by decide +kernel)) (fun a h => hZ5 a h)
  have hM6 := (mp_eq hP6 hr6 (fun a h => hZ5 a h)).symm; subst hM6
  have hZ6 : ∀ a, c + 13 ≤ a → M a = fun _ => 0 := fun a h => hZ5 a (by omega)
  obtain ⟨M7, hP7, hr7, hc7⟩ := (mp_Row l (N := 8) (n := 8) rfl (by decide)) (c + 13) M (hS.sub (j := 13) (by decide +kernel)) (fun a h => hZ6 a h)
  have hM7 := (mp_eq hP7 hr7 (fun a h => hZ6 a h)).symm; subst hM7
  have hZ7 : ∀ a, c + 15 ≤ a → M a = fun _ => 0 := fun a h => hZ6 a (by omega)
  obtain ⟨M8, hP8, hr8, hc8⟩ := (mp_Row l (N := 9) (n := 9) rfl (by decide)) (c + 15) M (hS.sub (j := 15) (by decide +kernel)) (fun a h => hZ7 a h)
  have hM8 := (mp_eq hP8 hr8 (fun a h => hZ7 a h)).symm; subst hM8
  have hZ8 : ∀ a, c + 17 ≤ a → M a = fun _ => 0 := fun a h => hZ7 a (by omega)
  obtain ⟨M9, e9, hR9, hf9⟩ := dk_init (dks_of hS) hZ
  refine ⟨M9, hR9, hf9, fun g hok hcL hd hle => ?_⟩
  refine CnI.of (cc := cX1_init) (maxL := 2) (ret := none) hok (by decide) rfl (Nat.le_of_ble_eq_true rfl) rfl (fun p e s m args below meth c9 F hr hlk hin => ?_)
  generalize he0 : gAd g c = h0a
  show V g p l e ({ frames := 3, cells := 16, slots := 75, locals := 40 * 3 } : Room) s m args below meth c9 2 0 0 (MQ below (gQI g c 17 M9) args s 16 75 (gA g)) 0 [(0, .ref h0a)] [] M
  have s0 : (shp c).1 = 1 := (hS.get (j := 0) rfl).1
  have s1 : (shp c).2.1 = 10 := (hS.get (j := 0) rfl).2.1
  have B0 := BldX.start hok hcL hd hle
  refine v_aload_n F dX1_init_0 rfl 0 rfl ?_
  refine v_objInit F (List.mem_cons_of_mem _ ml_X1_3) (List.mem_cons_of_mem _ im_obj) (List.mem_cons_of_mem _ cd_obj) dX1_init_1 (Nat.le_of_ble_eq_true rfl) (Nat.le_of_ble_eq_true rfl) ?_
  refine v_aload_n F dX1_init_4 rfl 0 rfl ?_
  refine v_newO (b := c + 1) (S := (rowS 10)) F (hS.sub (j := 1) (by decide +kernel)) rfl tyX8 tyX8_ok (inc inU_8) rfl (List.mem_cons_of_mem _ cl_X1_9) (List.mem_cons_of_mem _ it_X8) (List.mem_cons_of_mem _ ini_X8) (B0.nin (Nat.le_refl _)) (by decide) (by decide) (by intro j hj; rcases (show j = 0 by omega) with rfl <;> rfl) (Nat.le_of_ble_eq_true rfl) (Nat.le_of_ble_eq_true rfl) dX1_init_5 (fun q0 hok0 => ?_)
  rw [mZ_id (hZ0 (c + 1) (Nat.le_refl _))]
  have G0 := F.grow (g' := gNew g (c + 1) q0) rfl rfl rfl rfl hok0
  refine v_dup G0 dX1_init_8 rfl ?_
  refine v_bipush (v := 10) G0 dX1_init_9 (by decide) ?_
  refine v_made B0 hc1 (by decide) hok0 F (rest' := [.ref q0, .ref h0a]) (fun hM kk => v_callI (As := [.int 10]) (rest := [.ref q0, .ref h0a]) G0 hM (cwI 1 F.1.2.2.2.2 (gU_0 cd_X8i) rfl rfl rfl (F.1.2.2.2.2 _ (List.mem_cons_of_mem _ ini_X8)) (F.1.2.2.2.2 _ (List.mem_cons_of_mem _ ml_X1_11)) (F.1.2.2.2.2 _ (List.mem_cons_of_mem _ im_yX8_init)) rfl (by decide +kernel) ⟨Nat.le_of_ble_eq_true rfl, Nat.le_of_ble_eq_true rfl⟩) rfl (by rw [show gAd (gNew g (c + 1) q0) (c + 1) = q0 from if_pos rfl]; rfl) (Nat.le_of_ble_eq_true rfl) dX1_init_11 ⟨Nat.le_of_ble_eq_true rfl, Nat.le_of_ble_eq_true rfl⟩ kk) (fun g1 B1 F1 ea1 => ?_)
  have B1 : BldX g g1 c (c + 3) [] [] := B1
  refine v_fldR (k := 2) (x := c + 1) (ty := (.object "GallopRoads$Row")) B1 F1 he0 ea1 (by omega) (by omega) s0 s1 ((hS.get (j := 0) rfl).2.2 2) (by decide) (inc inU_1) tyX1 tyX1_ok nmX1 rfl (by decide) (List.mem_cons_of_mem _ fl_X1_14) rfl rfl hin rfl (by decide +kernel) rfl rfl dX1_init_14 (fun g1p B1p F1p _ => ?_)
  refine v_aload_n F1p dX1_init_17 rfl 0 rfl ?_
  refine v_newO (b := c + 3) (S := (rowS 8)) F1p (hS.sub (j := 3) (by decide +kernel)) rfl tyX8 tyX8_ok (inc inU_8) rfl (List.mem_cons_of_mem _ cl_X1_9) (List.mem_cons_of_mem _ it_X8) (List.mem_cons_of_mem _ ini_X8) (B1p.nin (Nat.le_refl _)) (by decide) (by decide) (by intro j hj; rcases (show j = 0 by omega) with rfl <;> rfl) (Nat.le_of_ble_eq_true rfl) (Nat.le_of_ble_eq_true rfl) dX1_init_18 (fun q1 hok1 => ?_)
  rw [mZ_id (hZ1 (c + 3) (Nat.le_refl _))]
  have G1 := F1p.grow (g' := gNew g1p (c + 3) q1) rfl rfl rfl rfl hok1
  refine v_dup G1 dX1_init_21 rfl ?_
  refine v_bipush (v := 8) G1 dX1_init_22 (by decide) ?_
  refine v_made B1p hc2 (by decide) hok1 F (rest' := [.ref q1, .ref h0a]) (fun hM kk => v_callI (As := [.int 8]) (rest := [.ref q1, .ref h0a]) G1 hM (cwI 1 F.1.2.2.2.2 (gU_0 cd_X8i) rfl rfl rfl (F.1.2.2.2.2 _ (List.mem_cons_of_mem _ ini_X8)) (F.1.2.2.2.2 _ (List.mem_cons_of_mem _ ml_X1_11)) (F.1.2.2.2.2 _ (List.mem_cons_of_mem _ im_yX8_init)) rfl (by decide +kernel) ⟨Nat.le_of_ble_eq_true rfl, Nat.le_of_ble_eq_true rfl⟩) rfl (by rw [show gAd (gNew g1p (c + 3) q1) (c + 3) = q1 from if_pos rfl]; rfl) (Nat.le_of_ble_eq_true rfl) dX1_init_24 ⟨Nat.le_of_ble_eq_true rfl, Nat.le_of_ble_eq_true rfl⟩ kk) (fun g2 B2 F2 ea2 => ?_)
  have B2 : BldX g g2 c (c + 5) [] [(c, 2)] := B2
  refine v_fldR (k := 3) (x := c + 3) (ty := (.object "GallopRoads$Row")) B2 F2 he0 ea2 (by omega) (by omega) s0 s1 ((hS.get (j := 0) rfl).2.2 3) (by decide) (inc inU_1) tyX1 tyX1_ok nmX1 rfl (by decide) (List.mem_cons_of_mem _ fl_X1_20) rfl rfl hin rfl (by decide +kernel) rfl rfl dX1_init_27 (fun g2p B2p F2p _ => ?_)
  refine v_aload_n F2p dX1_init_30 rfl 0 rfl ?_
  refine v_newO (b := c + 5) (S := (rowS 8)) F2p (hS.sub (j := 5) (by decide +kernel)) rfl tyX8 tyX8_ok (inc inU_8) rfl (List.mem_cons_of_mem _ cl_X1_9) (List.mem_cons_of_mem _ it_X8) (List.mem_cons_of_mem _ ini_X8) (B2p.nin (Nat.le_refl _)) (by decide) (by decide) (by intro j hj; rcases (show j = 0 by omega) with rfl <;> rfl) (Nat.le_of_ble_eq_true rfl) (Nat.le_of_ble_eq_true rfl) dX1_init_31 (fun q2 hok2 => ?_)
  rw [mZ_id (hZ2 (c + 5) (Nat.le_refl _))]
  have G2 := F2p.grow (g' := gNew g2p (c + 5) q2) rfl rfl rfl rfl hok2
  refine v_dup G2 dX1_init_34 rfl ?_
  refine v_bipush (v := 8) G2 dX1_init_35 (by decide) ?_
  refine v_made B2p hc3 (by decide) hok2 F (rest' := [.ref q2, .ref h0a]) (fun hM kk => v_callI (As := [.int 8]) (rest := [.ref q2, .ref h0a]) G2 hM (cwI 1 F.1.2.2.2.2 (gU_0 cd_X8i) rfl rfl rfl (F.1.2.2.2.2 _ (List.mem_cons_of_mem _ ini_X8)) (F.1.2.2.2.2 _ (List.mem_cons_of_mem _ ml_X1_11)) (F.1.2.2.2.2 _ (List.mem_cons_of_mem _ im_yX8_init)) rfl (by decide +kernel) ⟨Nat.le_of_ble_eq_true rfl, Nat.le_of_ble_eq_true rfl⟩) rfl (by rw [show gAd (gNew g2p (c + 5) q2) (c + 5) = q2 from if_pos rfl]; rfl) (Nat.le_of_ble_eq_true rfl) dX1_init_37 ⟨Nat.le_of_ble_eq_true rfl, Nat.le_of_ble_eq_true rfl⟩ kk) (fun g3 B3 F3 ea3 => ?_)
  have B3 : BldX g g3 c (c + 7) [] [(c, 3), (c, 2)] := B3
  refine v_fldR (k := 4) (x := c + 5) (ty := (.object "GallopRoads$Row")) B3 F3 he0 ea3 (by omega) (by omega) s0 s1 ((hS.get (j := 0) rfl).2.2 4) (by decide) (inc inU_1) tyX1 tyX1_ok nmX1 rfl (by decide) (List.mem_cons_of_mem _ fl_X1_23) rfl rfl hin rfl (by decide +kernel) rfl rfl dX1_init_40 (fun g3p B3p F3p _ => ?_)
  refine v_aload_n F3p dX1_init_43 rfl 0 rfl ?_
  refine v_newO (b := c + 7) (S := (rowS 8)) F3p (hS.sub (j := 7) (by decide +kernel)) rfl tyX8 tyX8_ok (inc inU_8) rfl (List.mem_cons_of_mem _ cl_X1_9) (List.mem_cons_of_mem _ it_X8) (List.mem_cons_of_mem _ ini_X8) (B3p.nin (Nat.le_refl _)) (by decide) (by decide) (by intro j hj; rcases (show j = 0 by omega) with rfl <;> rfl) (Nat.le_of_ble_eq_true rfl) (Nat.le_of_ble_eq_true rfl) dX1_init_44 (fun q3 hok3 => ?_)
  rw [mZ_id (hZ3 (c + 7) (Nat.le_refl _))]
  have G3 := F3p.grow (g' := gNew g3p (c + 7) q3) rfl rfl rfl rfl hok3
  refine v_dup G3 dX1_init_47 rfl ?_
  refine v_bipush (v := 8) G3 dX1_init_48 (by decide) ?_
  refine v_made B3p hc4 (by decide) hok3 F (rest' := [.ref q3, .ref h0a]) (fun hM kk => v_callI (As := [.int 8]) (rest := [.ref q3, .ref h0a]) G3 hM (cwI 1 F.1.2.2.2.2 (gU_0 cd_X8i) rfl rfl rfl (F.1.2.2.2.2 _ (List.mem_cons_of_mem _ ini_X8)) (F.1.2.2.2.2 _ (List.mem_cons_of_mem _ ml_X1_11)) (F.1.2.2.2.2 _ (List.mem_cons_of_mem _ im_yX8_init)) rfl (by decide +kernel) ⟨Nat.le_of_ble_eq_true rfl, Nat.le_of_ble_eq_true rfl⟩) rfl (by rw [show gAd (gNew g3p (c + 7) q3) (c + 7) = q3 from if_pos rfl]; rfl) (Nat.le_of_ble_eq_true rfl) dX1_init_50 ⟨Nat.le_of_ble_eq_true rfl, Nat.le_of_ble_eq_true rfl⟩ kk) (fun g4 B4 F4 ea4 => ?_)
  have B4 : BldX g g4 c (c + 9) [] [(c, 4), (c, 3), (c, 2)] := B4
  refine v_fldR (k := 5) (x := c + 7) (ty := (.object "GallopRoads$Row")) B4 F4 he0 ea4 (by omega) (by omega) s0 s1 ((hS.get (j := 0) rfl).2.2 5) (by decide) (inc inU_1) tyX1 tyX1_ok nmX1 rfl (by decide) (List.mem_cons_of_mem _ fl_X1_26) rfl rfl hin rfl (by decide +kernel) rfl rfl dX1_init_53 (fun g4p B4p F4p _ => ?_)
  refine v_aload_n F4p dX1_init_56 rfl 0 rfl ?_
  refine v_newO (b := c + 9) (S := (rowS 8)) F4p (hS.sub (j := 9) (by decide +kernel)) rfl tyX8 tyX8_ok (inc inU_8) rfl (List.mem_cons_of_mem _ cl_X1_9) (List.mem_cons_of_mem _ it_X8) (List.mem_cons_of_mem _ ini_X8) (B4p.nin (Nat.le_refl _)) (by decide) (by decide) (by intro j hj; rcases (show j = 0 by omega) with rfl <;> rfl) (Nat.le_of_ble_eq_true rfl) (Nat.le_of_ble_eq_true rfl) dX1_init_57 (fun q4 hok4 => ?_)
  rw [mZ_id (hZ4 (c + 9) (Nat.le_refl _))]
  have G4 := F4p.grow (g' := gNew g4p (c + 9) q4) rfl rfl rfl rfl hok4
  refine v_dup G4 dX1_init_60 rfl ?_
  refine v_bipush (v := 8) G4 dX1_init_61 (by decide) ?_
  refine v_made B4p hc5 (by decide) hok4 F (rest' := [.ref q4, .ref h0a]) (fun hM kk => v_callI (As := [.int 8]) (rest := [.ref q4, .ref h0a]) G4 hM (cwI 1 F.1.2.2.2.2 (gU_0 cd_X8i) rfl rfl rfl (F.1.2.2.2.2 _ (List.mem_cons_of_mem _ ini_X8)) (F.1.2.2.2.2 _ (List.mem_cons_of_mem _ ml_X1_11)) (F.1.2.2.2.2 _ (List.mem_cons_of_mem _ im_yX8_init)) rfl (by decide +kernel) ⟨Nat.le_of_ble_eq_true rfl, Nat.le_of_ble_eq_true rfl⟩) rfl (by rw [show gAd (gNew g4p (c + 9) q4) (c + 9) = q4 from if_pos rfl]; rfl) (Nat.le_of_ble_eq_true rfl) dX1_init_63 ⟨Nat.le_of_ble_eq_true rfl, Nat.le_of_ble_eq_true rfl⟩ kk) (fun g5 B5 F5 ea5 => ?_)
  have B5 : BldX g g5 c (c + 11) [] [(c, 5), (c, 4), (c, 3), (c, 2)] := B5
  refine v_fldR (k := 6) (x := c + 9) (ty := (.object "GallopRoads$Row")) B5 F5 he0 ea5 (by omega) (by omega) s0 s1 ((hS.get (j := 0) rfl).2.2 6) (by decide) (inc inU_1) tyX1 tyX1_ok nmX1 rfl (by decide) (List.mem_cons_of_mem _ fl_X1_29) rfl rfl hin rfl (by decide +kernel) rfl rfl dX1_init_66 (fun g5p B5p F5p _ => ?_)
  refine v_aload_n F5p dX1_init_69 rfl 0 rfl ?_
  refine v_newO (b := c + 11) (S := (rowS 8)) F5p (hS.sub (j := 11) (by decide +kernel)) rfl tyX8 tyX8_ok (inc inU_8) rfl (List.mem_cons_of_mem _ cl_X1_9) (List.mem_cons_of_mem _ it_X8) (List.mem_cons_of_mem _ ini_X8) (B5p.nin (Nat.le_refl _)) (by decide) (by decide) (by intro j hj; rcases (show j = 0 by omega) with rfl <;> rfl) (Nat.le_of_ble_eq_true rfl) (Nat.le_of_ble_eq_true rfl) dX1_init_70 (fun q5 hok5 => ?_)
  rw [mZ_id (hZ5 (c + 11) (Nat.le_refl _))]
  have G5 := F5p.grow (g' := gNew g5p (c + 11) q5) rfl rfl rfl rfl hok5
  refine v_dup G5 dX1_init_73 rfl ?_
  refine v_bipush (v := 8) G5 dX1_init_74 (by decide) ?_
  refine v_made B5p hc6 (by decide) hok5 F (rest' := [.ref q5, .ref h0a]) (fun hM kk => v_callI (As := [.int 8]) (rest := [.ref q5, .ref h0a]) G5 hM (cwI 1 F.1.2.2.2.2 (gU_0 cd_X8i) rfl rfl rfl (F.1.2.2.2.2 _ (List.mem_cons_of_mem _ ini_X8)) (F.1.2.2.2.2 _ (List.mem_cons_of_mem _ ml_X1_11)) (F.1.2.2.2.2 _ (List.mem_cons_of_mem _ im_yX8_init)) rfl (by decide +kernel) ⟨Nat.le_of_ble_eq_true rfl, Nat.le_of_ble_eq_true rfl⟩) rfl (by rw [show gAd (gNew g5p (c + 11) q5) (c + 11) = q5 from if_pos rfl]; rfl) (Nat.le_of_ble_eq_true rfl) dX1_init_76 ⟨Nat.le_of_ble_eq_true rfl, Nat.le_of_ble_eq_true rfl⟩ kk) (fun g6 B6 F6 ea6 => ?_)
  have B6 : BldX g g6 c (c + 13) [] [(c, 6), (c, 5), (c, 4), (c, 3), (c, 2)] := B6
  refine v_fldR (k := 7) (x := c + 11) (ty := (.object "GallopRoads$Row")) B6 F6 he0 ea6 (by omega) (by omega) s0 s1 ((hS.get (j := 0) rfl).2.2 7) (by decide) (inc inU_1) tyX1 tyX1_ok nmX1 rfl (by decide) (List.mem_cons_of_mem _ fl_X1_32) rfl rfl hin rfl (by decide +kernel) rfl rfl dX1_init_79 (fun g6p B6p F6p _ => ?_)
  refine v_aload_n F6p dX1_init_82 rfl 0 rfl ?_
  refine v_newO (b := c + 13) (S := (rowS 8)) F6p (hS.sub (j := 13) (by decide +kernel)) rfl tyX8 tyX8_ok (inc inU_8) rfl (List.mem_cons_of_mem _ cl_X1_9) (List.mem_cons_of_mem _ it_X8) (List.mem_cons_of_mem _ ini_X8) (B6p.nin (Nat.le_refl _)) (by decide) (by decide) (by intro j hj; rcases (show j = 0 by omega) with rfl <;> rfl) (Nat.le_of_ble_eq_true rfl) (Nat.le_of_ble_eq_true rfl) dX1_init_83 (fun q6 hok6 => ?_)
  rw [mZ_id (hZ6 (c + 13) (Nat.le_refl _))]
  have G6 := F6p.grow (g' := gNew g6p (c + 13) q6) rfl rfl rfl rfl hok6
  refine v_dup G6 dX1_init_86 rfl ?_
  refine v_bipush (v := 8) G6 dX1_init_87 (by decide) ?_
  refine v_made B6p hc7 (by decide) hok6 F (rest' := [.ref q6, .ref h0a]) (fun hM kk => v_callI (As := [.int 8]) (rest := [.ref q6, .ref h0a]) G6 hM (cwI 1 F.1.2.2.2.2 (gU_0 cd_X8i) rfl rfl rfl (F.1.2.2.2.2 _ (List.mem_cons_of_mem _ ini_X8)) (F.1.2.2.2.2 _ (List.mem_cons_of_mem _ ml_X1_11)) (F.1.2.2.2.2 _ (List.mem_cons_of_mem _ im_yX8_init)) rfl (by decide +kernel) ⟨Nat.le_of_ble_eq_true rfl, Nat.le_of_ble_eq_true rfl⟩) rfl (by rw [show gAd (gNew g6p (c + 13) q6) (c + 13) = q6 from if_pos rfl]; rfl) (Nat.le_of_ble_eq_true rfl) dX1_init_89 ⟨Nat.le_of_ble_eq_true rfl, Nat.le_of_ble_eq_true rfl⟩ kk) (fun g7 B7 F7 ea7 => ?_)
  have B7 : BldX g g7 c (c + 15) [] [(c, 7), (c, 6), (c, 5), (c, 4), (c, 3), (c, 2)] := B7
  refine v_fldR (k := 8) (x := c + 13) (ty := (.object "GallopRoads$Row")) B7 F7 he0 ea7 (by omega) (by omega) s0 s1 ((hS.get (j := 0) rfl).2.2 8) (by decide) (inc inU_1) tyX1 tyX1_ok nmX1 rfl (by decide) (List.mem_cons_of_mem _ fl_X1_35) rfl rfl hin rfl (by decide +kernel) rfl rfl dX1_init_92 (fun g7p B7p F7p _ => ?_)
  refine v_aload_n F7p dX1_init_95 rfl 0 rfl ?_
  refine v_newO (b := c + 15) (S := (rowS 9)) F7p (hS.sub (j := 15) (by decide +kernel)) rfl tyX8 tyX8_ok (inc inU_8) rfl (List.mem_cons_of_mem _ cl_X1_9) (List.mem_cons_of_mem _ it_X8) (List.mem_cons_of_mem _ ini_X8) (B7p.nin (Nat.le_refl _)) (by decide) (by decide) (by intro j hj; rcases (show j = 0 by omega) with rfl <;> rfl) (Nat.le_of_ble_eq_true rfl) (Nat.le_of_ble_eq_true rfl) dX1_init_96 (fun q7 hok7 => ?_)
  rw [mZ_id (hZ7 (c + 15) (Nat.le_refl _))]
  have G7 := F7p.grow (g' := gNew g7p (c + 15) q7) rfl rfl rfl rfl hok7
  refine v_dup G7 dX1_init_99 rfl ?_
  refine v_bipush (v := 9) G7 dX1_init_100 (by decide) ?_
  refine v_made B7p hc8 (by decide) hok7 F (rest' := [.ref q7, .ref h0a]) (fun hM kk => v_callI (As := [.int 9]) (rest := [.ref q7, .ref h0a]) G7 hM (cwI 1 F.1.2.2.2.2 (gU_0 cd_X8i) rfl rfl rfl (F.1.2.2.2.2 _ (List.mem_cons_of_mem _ ini_X8)) (F.1.2.2.2.2 _ (List.mem_cons_of_mem _ ml_X1_11)) (F.1.2.2.2.2 _ (List.mem_cons_of_mem _ im_yX8_init)) rfl (by decide +kernel) ⟨Nat.le_of_ble_eq_true rfl, Nat.le_of_ble_eq_true rfl⟩) rfl (by rw [show gAd (gNew g7p (c + 15) q7) (c + 15) = q7 from if_pos rfl]; rfl) (Nat.le_of_ble_eq_true rfl) dX1_init_102 ⟨Nat.le_of_ble_eq_true rfl, Nat.le_of_ble_eq_true rfl⟩ kk) (fun g8 B8 F8 ea8 => ?_)
  have B8 : BldX g g8 c (c + 17) [] [(c, 8), (c, 7), (c, 6), (c, 5), (c, 4), (c, 3), (c, 2)] := B8
  refine v_fldR (k := 9) (x := c + 15) (ty := (.object "GallopRoads$Row")) B8 F8 he0 ea8 (by omega) (by omega) s0 s1 ((hS.get (j := 0) rfl).2.2 9) (by decide) (inc inU_1) tyX1 tyX1_ok nmX1 rfl (by decide) (List.mem_cons_of_mem _ fl_X1_38) rfl rfl hin rfl (by decide +kernel) rfl rfl dX1_init_105 (fun g8p B8p F8p _ => ?_)
  have hx := B8p.done (by rw [s0]; decide) (by rw [s0, s1]; rfl) (fun k9 f hf => by
    rw [s0] at hf
    match k9, hf with
    | 0, hf => cases hf; rw [if_pos rfl]; exact (hS.get (j := 0) rfl).2.2 0
    | 1, hf => cases hf; rw [if_pos rfl]; exact (hS.get (j := 0) rfl).2.2 1
    | 2, hf => cases hf; rw [if_neg (by decide)]; exact ⟨c + 1, (hS.get (j := 0) rfl).2.2 2, (List.mem_of_getElem? (i := 7) rfl), by omega, by omega, (hS.get (j := 1) rfl).1⟩
    | 3, hf => cases hf; rw [if_neg (by decide)]; exact ⟨c + 3, (hS.get (j := 0) rfl).2.2 3, (List.mem_of_getElem? (i := 6) rfl), by omega, by omega, (hS.get (j := 3) rfl).1⟩
    | 4, hf => cases hf; rw [if_neg (by decide)]; exact ⟨c + 5, (hS.get (j := 0) rfl).2.2 4, (List.mem_of_getElem? (i := 5) rfl), by omega, by omega, (hS.get (j := 5) rfl).1⟩
    | 5, hf => cases hf; rw [if_neg (by decide)]; exact ⟨c + 7, (hS.get (j := 0) rfl).2.2 5, (List.mem_of_getElem? (i := 4) rfl), by omega, by omega, (hS.get (j := 7) rfl).1⟩
    | 6, hf => cases hf; rw [if_neg (by decide)]; exact ⟨c + 9, (hS.get (j := 0) rfl).2.2 6, (List.mem_of_getElem? (i := 3) rfl), by omega, by omega, (hS.get (j := 9) rfl).1⟩
    | 7, hf => cases hf; rw [if_neg (by decide)]; exact ⟨c + 11, (hS.get (j := 0) rfl).2.2 7, (List.mem_of_getElem? (i := 2) rfl), by omega, by omega, (hS.get (j := 11) rfl).1⟩
    | 8, hf => cases hf; rw [if_neg (by decide)]; exact ⟨c + 13, (hS.get (j := 0) rfl).2.2 8, (List.mem_of_getElem? (i := 1) rfl), by omega, by omega, (hS.get (j := 13) rfl).1⟩
    | 9, hf => cases hf; rw [if_neg (by decide)]; exact ⟨c + 15, (hS.get (j := 0) rfl).2.2 9, (List.mem_of_getElem? (i := 0) rfl), by omega, by omega, (hS.get (j := 15) rfl).1⟩
    | k9 + 10, hf => cases hf) 17 rfl
  refine v_done (b := c) ?_
  have FD := F8p.grow (g' := gDone g8p c) rfl rfl rfl rfl hx.2.2.2.2.2.2.1
  have had : gAd (gDone g8p c) c = h0a := (hx.2.2.2.2.2.1 c hcL).1.trans he0
  have hA : gA (gDone g8p c) = gA g := by unfold gA; rw [hx.2.2.1]
  have tD : Ty (gDone g8p c) 1 c := ⟨(hx.2.2.2.2.1 c).mpr (Or.inl hcL), s0, hx.2.2.2.2.2.2.2 c (Nat.le_refl c) (by omega)⟩
  rw [← had]
  intro H locs ls hP hS9 hl
  refine W.monoQ (fun t ht => ?_) (w_X1_init_b108 FD hr hlk tD M e9 H locs ls hP hS9 hl)
  rw [hA] at ht
  obtain ⟨o, h1, h2, ⟨⟨h3, h4⟩, h5⟩, h6⟩ := ht
  rw [hA] at h5
  exact ⟨o, h1, h2, ⟨⟨_, hx, h3, h4⟩, h5⟩, h6⟩
abbrev S7 : List (Nat × Nat × List (Option Nat)) := [(7, 5, [some 1, some 18, some 27, some 34, some 39]), (1, 10, [none, none, some 2, some 4, some 6, some 8, some 10, some 12, some 14, some 16]), (8, 1, [some 3]), (12, 10, []), (8, 1, [some 5]), (12, 8, []), (8, 1, [some 7]), (12, 8, []), (8, 1, [some 9]), (12, 8, []), (8, 1, [some 11]), (12, 8, []), (8, 1, [some 13]), (12, 8, []), (8, 1, [some 15]), (12, 8, []), (8, 1, [some 17]), (12, 9, []), (2, 5, [none, some 19, some 21, some 23, some 25]), (8, 1, [some 20]), (12, 20, []), (8, 1, [some 22]), (12, 20, []), (8, 1, [some 24]), (12, 20, []), (8, 1, [some 26]), (12, 20, []), (4, 4, [none, some 28, some 30, some 32]), (8, 1, [some 29]), (12, 5, []), (8, 1, [some 31]), (12, 5, []), (8, 1, [some 33]), (12, 5, []), (0, 3, [none, some 35, some 37]), (8, 1, [some 36]), (12, 6, []), (8, 1, [some 38]), (12, 60, []), (5, 4, [none, some 40, some 42, some 44]), (8, 1, [some 41]), (12, 10, []), (8, 1, [some 43]), (12, 10, []), (8, 1, [some 45]), (12, 10, [])]
abbrev uX7_init : List Cond := Cond.code yX7_init cX7_init 1 none :: uT
set_option maxHeartbeats 4000000 in
set_option maxRecDepth 100000 in
theorem mp_Road (l : Launch) : MkP l yX7_init uX7_init 4 45 304 46 S7 [] (fun c M' => RD M' (c + 1) D0 ∧ (∀ a, c + 18 ≤ a → M' a = fun _ => 0) ∧ M' c = fun _ => 0) := by
  intro c M hS hZ
  have hZ0 : ∀ a, c + 1 ≤ a → M a = fun _ => 0 := fun a h => hZ a (by omega)
  obtain ⟨M1, hP1, hr1, hc1⟩ := (mp_Deck l) (c + 1) M (hS.sub (j := 1) (by decide +kernel)) (fun a h => hZ0 a h)
  have hZ1 : ∀ a, c + 18 ≤ a → M1 a = fun _ => 0 := fun a h => by rw [hr1 a (Or.inr (by omega))]; exact hZ0 a (by omega)
  obtain ⟨M2, hP2, hr2, hc2⟩ := (mp_Film l) (c + 18) M1 (hS.sub (j := 18) (by decide +kernel)) (fun a h => hZ1 a h)
  have hM2 := (mp_eq hP2 hr2 (fun a h => hZ1 a h)).symm; subst hM2
  have hZ2 : ∀ a, c + 27 ≤ a → M1 a = fun _ => 0 := fun a h => hZ1 a (by omega)
  obtain ⟨M3, hP3, hr3, hc3⟩ := (mp_Mends l) (c + 27) M1 (hS.sub (j := 27) (by decide +kernel)) (fun a h => hZ2 a h)
  have hM3 := (mp_eq hP3 hr3 (fun a h => hZ2 a h)).symm; subst hM3
  have hZ3 : ∀ a, c + 34 ≤ a → M1 a = fun _ => 0 := fun a h => hZ2 a (by omega)
  obtain ⟨M4, hP4, hr4, hc4⟩ := (mp_Bridges l) (c + 34) M1 (hS.sub (j := 34) (by decide +kernel)) (fun a h => hZ3 a h)
  have hM4 := (mp_eq hP4 hr4 (fun a h => hZ3 a h)).symm; subst hM4
  have hZ4 : ∀ a, c + 39 ≤ a → M1 a = fun _ => 0 := fun a h => hZ3 a (by omega)
  obtain ⟨M5, hP5, hr5, hc5⟩ := (mp_Papers l) (c + 39) M1 (hS.sub (j := 39) (by decide +kernel)) (fun a h => hZ4 a h)
  have hM5 := (mp_eq hP5 hr5 (fun a h => hZ4 a h)).symm; subst hM5
  have hZ5 : ∀ a, c + 46 ≤ a → M1 a = fun _ => 0 := fun a h => hZ4 a (by omega)
  refine ⟨M1, ⟨hP1, fun a h => hZ1 a (by omega), by rw [hr1 c (Or.inl (by omega))]; exact hZ c (Nat.le_refl c)⟩, fun a h => hr1 a (by omega), fun g hok hcL hd hle => ?_⟩
  refine CnI.of (cc := cX7_init) (maxL := 1) (ret := none) hok (by decide) rfl (Nat.le_of_ble_eq_true rfl) rfl (fun p e s m args below meth c9 F hr hlk hin => ?_)
  generalize he0 : gAd g c = h0a
  show V g p l e ({ frames := 4, cells := 45, slots := 304, locals := 40 * 4 } : Room) s m args below meth c9 1 0 0 (MQ below (gQI g c 46 M1) args s 45 304 (gA g)) 0 [(0, .ref h0a)] [] M
  have s0 : (shp c).1 = 7 := (hS.get (j := 0) rfl).1
  have s1 : (shp c).2.1 = 5 := (hS.get (j := 0) rfl).2.1
  have B0 := BldX.start hok hcL hd hle
  refine v_aload_n F dX7_init_0 rfl 0 rfl ?_
  refine v_objInit F (List.mem_cons_of_mem _ ml_X7_1) (List.mem_cons_of_mem _ im_obj) (List.mem_cons_of_mem _ cd_obj) dX7_init_1 (Nat.le_of_ble_eq_true rfl) (Nat.le_of_ble_eq_true rfl) ?_
  refine v_aload_n F dX7_init_4 rfl 0 rfl ?_
  refine v_newO (b := c + 1) (S := S1) F (hS.sub (j := 1) (by decide +kernel)) rfl tyX1 tyX1_ok (inc inU_1) rfl (List.mem_cons_of_mem _ cl_X7_7) (List.mem_cons_of_mem _ it_X1) (List.mem_cons_of_mem _ ini_X1) (B0.nin (Nat.le_refl _)) (by decide) (by decide) (by intro j hj; rcases (show j = 0 ∨ j = 1 ∨ j = 2 ∨ j = 3 ∨ j = 4 ∨ j = 5 ∨ j = 6 ∨ j = 7 ∨ j = 8 ∨ j = 9 by omega) with rfl | rfl | rfl | rfl | rfl | rfl | rfl | rfl | rfl | rfl <;> rfl) (Nat.le_of_ble_eq_true rfl) (Nat.le_of_ble_eq_true rfl) dX7_init_5 (fun q0 hok0 => ?_)
  rw [mZ_id (hZ0 (c + 1) (Nat.le_refl _))]
  have G0 := F.grow (g' := gNew g (c + 1) q0) rfl rfl rfl rfl hok0
  refine v_dup G0 dX7_init_8 rfl ?_
  refine v_made B0 hc1 (by decide) hok0 F (rest' := [.ref q0, .ref h0a]) (fun hM kk => v_callI (As := []) (rest := [.ref q0, .ref h0a]) G0 hM (cwI 0 F.1.2.2.2.2 (gU_0 cd_X1_init) rfl rfl rfl (F.1.2.2.2.2 _ (List.mem_cons_of_mem _ ini_X1)) (F.1.2.2.2.2 _ (List.mem_cons_of_mem _ ml_X7_9)) (F.1.2.2.2.2 _ (List.mem_cons_of_mem _ im_yX1_init)) rfl (by decide +kernel) ⟨Nat.le_of_ble_eq_true rfl, Nat.le_of_ble_eq_true rfl⟩) rfl (by rw [show gAd (gNew g (c + 1) q0) (c + 1) = q0 from if_pos rfl]; rfl) (Nat.le_of_ble_eq_true rfl) dX7_init_9 ⟨Nat.le_of_ble_eq_true rfl, Nat.le_of_ble_eq_true rfl⟩ kk) (fun g1 B1 F1 ea1 => ?_)
  have B1 : BldX g g1 c (c + 18) [] [] := B1
  refine v_fldR (k := 0) (x := c + 1) (ty := (.object "GallopRoads$Deck")) B1 F1 he0 ea1 (by omega) (by omega) s0 s1 ((hS.get (j := 0) rfl).2.2 0) (by decide) (inc inU_7) tyX7 tyX7_ok nmX7 rfl (by decide) (List.mem_cons_of_mem _ fl_X7_10) rfl rfl hin rfl (by decide +kernel) rfl rfl dX7_init_12 (fun g1p B1p F1p _ => ?_)
  refine v_aload_n F1p dX7_init_15 rfl 0 rfl ?_
  refine v_newO (b := c + 18) (S := S2) F1p (hS.sub (j := 18) (by decide +kernel)) rfl tyX2 tyX2_ok (inc inU_2) rfl (List.mem_cons_of_mem _ cl_X7_16) (List.mem_cons_of_mem _ it_X2) (List.mem_cons_of_mem _ ini_X2) (B1p.nin (Nat.le_refl _)) (by decide) (by decide) (by intro j hj; rcases (show j = 0 ∨ j = 1 ∨ j = 2 ∨ j = 3 ∨ j = 4 by omega) with rfl | rfl | rfl | rfl | rfl <;> rfl) (Nat.le_of_ble_eq_true rfl) (Nat.le_of_ble_eq_true rfl) dX7_init_16 (fun q1 hok1 => ?_)
  rw [mZ_id (hZ1 (c + 18) (Nat.le_refl _))]
  have G1 := F1p.grow (g' := gNew g1p (c + 18) q1) rfl rfl rfl rfl hok1
  refine v_dup G1 dX7_init_19 rfl ?_
  refine v_made B1p hc2 (by decide) hok1 F (rest' := [.ref q1, .ref h0a]) (fun hM kk => v_callIN (As := []) (rest := [.ref q1, .ref h0a]) G1 hM ⟨va_cnB (host := RX10) 0 F.1.2.2.2.2 (gU_0 cd_X2_init) rfl rfl rfl (F.2.2.2.2.1 _ (by decide +kernel)) (F.1.2.2.2.2 _ (List.mem_cons_of_mem _ ini_X2)) (by decide +kernel) ⟨Nat.le_of_ble_eq_true rfl, Nat.le_of_ble_eq_true rfl⟩, rfl, F.1.2.2.2.2 _ (List.mem_cons_of_mem _ im_yX2_init)⟩ rfl (by rw [show gAd (gNew g1p (c + 18) q1) (c + 18) = q1 from if_pos rfl]; rfl) (Nat.le_of_ble_eq_true rfl) dX7_init_20 ⟨Nat.le_of_ble_eq_true rfl, Nat.le_of_ble_eq_true rfl⟩ kk) (fun g2 B2 F2 ea2 => ?_)
  have B2 : BldX g g2 c (c + 27) [] [(c, 0)] := B2
  refine v_fldR (k := 1) (x := c + 18) (ty := (.object "GallopRoads$Film")) B2 F2 he0 ea2 (by omega) (by omega) s0 s1 ((hS.get (j := 0) rfl).2.2 1) (by decide) (inc inU_7) tyX7 tyX7_ok nmX7 rfl (by decide) (List.mem_cons_of_mem _ fl_X7_19) rfl rfl hin rfl (by decide +kernel) rfl rfl dX7_init_23 (fun g2p B2p F2p _ => ?_)
  refine v_aload_n F2p dX7_init_26 rfl 0 rfl ?_
  refine v_newO (b := c + 27) (S := S4) F2p (hS.sub (j := 27) (by decide +kernel)) rfl tyX4 tyX4_ok (inc inU_4) rfl (List.mem_cons_of_mem _ cl_X7_23) (List.mem_cons_of_mem _ it_X4) (List.mem_cons_of_mem _ ini_X4) (B2p.nin (Nat.le_refl _)) (by decide) (by decide) (by intro j hj; rcases (show j = 0 ∨ j = 1 ∨ j = 2 ∨ j = 3 by omega) with rfl | rfl | rfl | rfl <;> rfl) (Nat.le_of_ble_eq_true rfl) (Nat.le_of_ble_eq_true rfl) dX7_init_27 (fun q2 hok2 => ?_)
  rw [mZ_id (hZ2 (c + 27) (Nat.le_refl _))]
  have G2 := F2p.grow (g' := gNew g2p (c + 27) q2) rfl rfl rfl rfl hok2
  refine v_dup G2 dX7_init_30 rfl ?_
  refine v_made B2p hc3 (by decide) hok2 F (rest' := [.ref q2, .ref h0a]) (fun hM kk => v_callIN (As := []) (rest := [.ref q2, .ref h0a]) G2 hM ⟨va_cnB (host := RX10) 0 F.1.2.2.2.2 (gU_0 cd_X4_init) rfl rfl rfl (F.2.2.2.2.1 _ (by decide +kernel)) (F.1.2.2.2.2 _ (List.mem_cons_of_mem _ ini_X4)) (by decide +kernel) ⟨Nat.le_of_ble_eq_true rfl, Nat.le_of_ble_eq_true rfl⟩, rfl, F.1.2.2.2.2 _ (List.mem_cons_of_mem _ im_yX4_init)⟩ rfl (by rw [show gAd (gNew g2p (c + 27) q2) (c + 27) = q2 from if_pos rfl]; rfl) (Nat.le_of_ble_eq_true rfl) dX7_init_31 ⟨Nat.le_of_ble_eq_true rfl, Nat.le_of_ble_eq_true rfl⟩ kk) (fun g3 B3 F3 ea3 => ?_)
  have B3 : BldX g g3 c (c + 34) [] [(c, 1), (c, 0)] := B3
  refine v_fldR (k := 2) (x := c + 27) (ty := (.object "GallopRoads$Mends")) B3 F3 he0 ea3 (by omega) (by omega) s0 s1 ((hS.get (j := 0) rfl).2.2 2) (by decide) (inc inU_7) tyX7 tyX7_ok nmX7 rfl (by decide) (List.mem_cons_of_mem _ fl_X7_26) rfl rfl hin rfl (by decide +kernel) rfl rfl dX7_init_34 (fun g3p B3p F3p _ => ?_)
  refine v_aload_n F3p dX7_init_37 rfl 0 rfl ?_
  refine v_newO (b := c + 34) (S := S0) F3p (hS.sub (j := 34) (by decide +kernel)) rfl tyX0 tyX0_ok (inc inU_0) rfl (List.mem_cons_of_mem _ cl_X7_30) (List.mem_cons_of_mem _ it_X0) (List.mem_cons_of_mem _ ini_X0) (B3p.nin (Nat.le_refl _)) (by decide) (by decide) (by intro j hj; rcases (show j = 0 ∨ j = 1 ∨ j = 2 by omega) with rfl | rfl | rfl <;> rfl) (Nat.le_of_ble_eq_true rfl) (Nat.le_of_ble_eq_true rfl) dX7_init_38 (fun q3 hok3 => ?_)
  rw [mZ_id (hZ3 (c + 34) (Nat.le_refl _))]
  have G3 := F3p.grow (g' := gNew g3p (c + 34) q3) rfl rfl rfl rfl hok3
  refine v_dup G3 dX7_init_41 rfl ?_
  refine v_made B3p hc4 (by decide) hok3 F (rest' := [.ref q3, .ref h0a]) (fun hM kk => v_callIN (As := []) (rest := [.ref q3, .ref h0a]) G3 hM ⟨va_cnB (host := RX10) 0 F.1.2.2.2.2 (gU_0 cd_X0_init) rfl rfl rfl (F.2.2.2.2.1 _ (by decide +kernel)) (F.1.2.2.2.2 _ (List.mem_cons_of_mem _ ini_X0)) (by decide +kernel) ⟨Nat.le_of_ble_eq_true rfl, Nat.le_of_ble_eq_true rfl⟩, rfl, F.1.2.2.2.2 _ (List.mem_cons_of_mem _ im_yX0_init)⟩ rfl (by rw [show gAd (gNew g3p (c + 34) q3) (c + 34) = q3 from if_pos rfl]; rfl) (Nat.le_of_ble_eq_true rfl) dX7_init_42 ⟨Nat.le_of_ble_eq_true rfl, Nat.le_of_ble_eq_true rfl⟩ kk) (fun g4 B4 F4 ea4 => ?_)
  have B4 : BldX g g4 c (c + 39) [] [(c, 2), (c, 1), (c, 0)] := B4
  refine v_fldR (k := 3) (x := c + 34) (ty := (.object "GallopRoads$Bridges")) B4 F4 he0 ea4 (by omega) (by omega) s0 s1 ((hS.get (j := 0) rfl).2.2 3) (by decide) (inc inU_7) tyX7 tyX7_ok nmX7 rfl (by decide) (List.mem_cons_of_mem _ fl_X7_33) rfl rfl hin rfl (by decide +kernel) rfl rfl dX7_init_45 (fun g4p B4p F4p _ => ?_)
  refine v_aload_n F4p dX7_init_48 rfl 0 rfl ?_
  refine v_newO (b := c + 39) (S := S5) F4p (hS.sub (j := 39) (by decide +kernel)) rfl tyX5 tyX5_ok (inc inU_5) rfl (List.mem_cons_of_mem _ cl_X7_37) (List.mem_cons_of_mem _ it_X5) (List.mem_cons_of_mem _ ini_X5) (B4p.nin (Nat.le_refl _)) (by decide) (by decide) (by intro j hj; rcases (show j = 0 ∨ j = 1 ∨ j = 2 ∨ j = 3 by omega) with rfl | rfl | rfl | rfl <;> rfl) (Nat.le_of_ble_eq_true rfl) (Nat.le_of_ble_eq_true rfl) dX7_init_49 (fun q4 hok4 => ?_)
  rw [mZ_id (hZ4 (c + 39) (Nat.le_refl _))]
  have G4 := F4p.grow (g' := gNew g4p (c + 39) q4) rfl rfl rfl rfl hok4
  refine v_dup G4 dX7_init_52 rfl ?_
  refine v_made B4p hc5 (by decide) hok4 F (rest' := [.ref q4, .ref h0a]) (fun hM kk => v_callIN (As := []) (rest := [.ref q4, .ref h0a]) G4 hM ⟨va_cnB (host := RX10) 0 F.1.2.2.2.2 (gU_0 cd_X5_init) rfl rfl rfl (F.2.2.2.2.1 _ (by decide +kernel)) (F.1.2.2.2.2 _ (List.mem_cons_of_mem _ ini_X5)) (by decide +kernel) ⟨Nat.le_of_ble_eq_true rfl, Nat.le_of_ble_eq_true rfl⟩, rfl, F.1.2.2.2.2 _ (List.mem_cons_of_mem _ im_yX5_init)⟩ rfl (by rw [show gAd (gNew g4p (c + 39) q4) (c + 39) = q4 from if_pos rfl]; rfl) (Nat.le_of_ble_eq_true rfl) dX7_init_53 ⟨Nat.le_of_ble_eq_true rfl, Nat.le_of_ble_eq_true rfl⟩ kk) (fun g5 B5 F5 ea5 => ?_)
  have B5 : BldX g g5 c (c + 46) [] [(c, 3), (c, 2), (c, 1), (c, 0)] := B5
  refine v_fldR (k := 4) (x := c + 39) (ty := (.object "GallopRoads$Papers")) B5 F5 he0 ea5 (by omega) (by omega) s0 s1 ((hS.get (j := 0) rfl).2.2 4) (by decide) (inc inU_7) tyX7 tyX7_ok nmX7 rfl (by decide) (List.mem_cons_of_mem _ fl_X7_40) rfl rfl hin rfl (by decide +kernel) rfl rfl dX7_init_56 (fun g5p B5p F5p _ => ?_)
  have hx := B5p.done (by rw [s0]; decide) (by rw [s0, s1]; rfl) (fun k9 f hf => by
    rw [s0] at hf
    match k9, hf with
    | 0, hf => cases hf; rw [if_neg (by decide)]; exact ⟨c + 1, (hS.get (j := 0) rfl).2.2 0, (List.mem_of_getElem? (i := 4) rfl), by omega, by omega, (hS.get (j := 1) rfl).1⟩
    | 1, hf => cases hf; rw [if_neg (by decide)]; exact ⟨c + 18, (hS.get (j := 0) rfl).2.2 1, (List.mem_of_getElem? (i := 3) rfl), by omega, by omega, (hS.get (j := 18) rfl).1⟩
    | 2, hf => cases hf; rw [if_neg (by decide)]; exact ⟨c + 27, (hS.get (j := 0) rfl).2.2 2, (List.mem_of_getElem? (i := 2) rfl), by omega, by omega, (hS.get (j := 27) rfl).1⟩
    | 3, hf => cases hf; rw [if_neg (by decide)]; exact ⟨c + 34, (hS.get (j := 0) rfl).2.2 3, (List.mem_of_getElem? (i := 1) rfl), by omega, by omega, (hS.get (j := 34) rfl).1⟩
    | 4, hf => cases hf; rw [if_neg (by decide)]; exact ⟨c + 39, (hS.get (j := 0) rfl).2.2 4, (List.mem_of_getElem? (i := 0) rfl), by omega, by omega, (hS.get (j := 39) rfl).1⟩
    | k9 + 5, hf => cases hf) 46 rfl
  refine v_done (b := c) ?_
  exact v_vretI (F5p.grow rfl rfl rfl rfl hx.2.2.2.2.2.2.1) hx hr hlk dX7_init_59
