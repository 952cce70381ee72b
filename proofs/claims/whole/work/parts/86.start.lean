/-! THE CLAIM OUT OF ONE WALK OF THE LAW'S BODY. Your part is whole_start (and what it stands on); all else here is the same for every law, but numbers. -/
def R_law : String := "GallopRoadsLaw"
def lw_P (b : Addr) (xs : List Int32) (args : Array Value) (s : State) : Prop := args = #[.ref b] ∧ s.IntsAt b xs ∧ xs.length ≤ 3584 ∧ (Jvm.Cond.and given_1 narrow_1).before args s = true
def lw_Q (_ : Array Value) (s : State) (o : Outcome) (t : State) : Prop := o = .returned (some (.int 1)) ∧ Framed s o t [] 601024 7293034
def lw_Z (below : List Frame) (a : Array Value) (s : State) : State → Prop := fun t => ∃ o, t.status = .running ∧ Ended t below o ∧ lw_Q a s o t
/-- the law's own end, with 1 on the stack, nothing written that was there before, its room as the claim has it -/
theorem lw_ret {p : Program} {l : Launch} {e : Env} {s : State} {m : MethodId} {below : List Frame} {meth : Method} {c : Code} {b : Nat} (hx : p.tables.exec = Jvm.exec) (hb : c.code = code) (hr : meth.sig.returnType = ret) (hlocks : meth.locks = false) {pc : Nat} {H : Heap} {ls : Array Slot} (hdg : decode code pc = .ok (.ireturn, 1)) : W p l e room_1 s m #[Value.ref b] below meth c H [] 601024 7293034 (lw_Z below #[Value.ref b] s) (F0 m pc ls [.int 1]) := by
  intro T hT X
  obtain ⟨fs, hret, hrun, hended, hW, hframe⟩ := X.leave (v := some (.int 1)) (hlocks := hlocks) (fun h => by rw [hr] at h; cases h)
  have hmeth' : T.vm.method? m = some meth := X.method'
  refine ⟨T.setFrames fs, ?_, .returned (some (.int 1)), hrun, hended, rfl, ⟨_, rfl⟩, hW, hframe⟩
  jvm_step X.here [X.here.top, hx, hb, hdg, hmeth', hr, ret, narrow_b1]
  (try refine ⟨rfl, ?_⟩); (try refine ⟨rfl, ?_⟩)
  first | (intro acts; rw [hret _ acts rfl rfl rfl]) | rw [hret _ _ rfl rfl rfl]
  exact Steps.refl _
/-- what holds at the law's entry: the machine, the code, the tables' words (any of lw_tbl by 'hts w (by decide +kernel)'), the script of L ints xs at the cell b, what the Statement gives of the start (any of its parts by flat_of_before) -/
def lw_At (p : Program) (s : State) (m : MethodId) (meth : Method) (c : Code) (b L : Nat) (xs : Nat → Int32) : Prop :=
  p.tables.exec = Jvm.exec ∧ c.code = code ∧ meth.sig.returnType = ret ∧ c.maxLocals = 7 ∧ s.vm.findClass R_law = some m.cls ∧ (∀ w ∈ lw_tbl, w.before #[Value.ref b] s = true) ∧ va_X b L xs s s.heap ∧ b < s.heap.size ∧ meth.locks = false ∧ (Jvm.Cond.and given_1 narrow_1).before #[Value.ref b] s = true
theorem nw_ad {g : gT} {b q : Nat} : gAd (gNew g b q) b = q := if_pos rfl
theorem nw_dn {g : gT} {b q : Nat} : gDn (gNew g b q) b = false := if_pos rfl
theorem nw_adx {g : gT} {a b q : Nat} (h : a ≠ b) : gAd (gNew g b q) a = gAd g a := if_neg h
theorem nw_dnx {g : gT} {a b q : Nat} (h : a ≠ b) : gDn (gNew g b q) a = gDn g a := if_neg h
theorem na_ad {g : gT} {b q : Nat} : gAd (gNewA g b q) b = q := if_pos rfl
theorem na_dn {g : gT} {b q : Nat} : gDn (gNewA g b q) b = true := if_pos rfl
theorem na_adx {g : gT} {a b q : Nat} (h : a ≠ b) : gAd (gNewA g b q) a = gAd g a := if_neg h
theorem na_dnx {g : gT} {a b q : Nat} (h : a ≠ b) : gDn (gNewA g b q) a = gDn g a := if_neg h
theorem cl_L_8 : Cond.classLink RL 8 "GallopRoads" ∈ uT := uM1 (List.mem_of_getElem? (i := 24) rfl) rfl
theorem cl_L_110 : Cond.classLink RL 110 "GallopRoadsModel" ∈ uT := uM5 (List.mem_of_getElem? (i := 88) rfl) rfl
theorem ac_long : Cond.arrayClass .long ∈ uT := uM7 (List.mem_of_getElem? (i := 89) rfl) rfl
theorem cd_X10_init : Cond.code yX10_init cX10_init 2 none ∈ uT := uM1 (List.mem_of_getElem? (i := 28) rfl) rfl
theorem cd_X11_init : Cond.code yX11_init cX11_init 1 none ∈ uT := uM5 (List.mem_of_getElem? (i := 92) rfl) rfl
theorem ml_L_109 : Cond.methodLink RL 109 yX10_init ∈ uT := uM1 (List.mem_of_getElem? (i := 26) rfl) rfl
theorem ml_L_112 : Cond.methodLink RL 112 yX11_init ∈ uT := uM5 (List.mem_of_getElem? (i := 90) rfl) rfl
theorem im_yX10_init : Cond.instanceMethod yX10_init ∈ uT := uM1 (List.mem_of_getElem? (i := 27) rfl) rfl
theorem im_yX11_init : Cond.instanceMethod yX11_init ∈ uT := uM5 (List.mem_of_getElem? (i := 91) rfl) rfl
theorem law_cmp {L n : Nat} (hL : L ≤ 3584) (hn : n ≤ 4000) (h : ¬ nI L - 7 < nI n) : n + 7 ≤ L := by
  by_cases h7 : 7 ≤ L
  · have e : nI L - 7 = nI (L - 7) := nI_sub h7
    rw [e] at h
    by_cases z : n + 7 ≤ L
    · exact z
    · exact absurd (nI_lt (by omega) (by omega)) h
  · exfalso
    apply h
    have h0 : nI L - 7 < 0 := by
      rcases (show L = 0 ∨ L = 1 ∨ L = 2 ∨ L = 3 ∨ L = 4 ∨ L = 5 ∨ L = 6 by omega) with rfl | rfl | rfl | rfl | rfl | rfl | rfl <;> decide
    exact Int32.lt_of_lt_of_le h0 (nI_pos' (by omega))
set_option maxHeartbeats 4000000 in
set_option maxRecDepth 100000 in
/-- at the loop's head, after i calls: class and model hold the same state; so to the end, with true -/
theorem law_loop {g : gT} {p : Program} {l : Launch} {e : Env} {s : State} {m : MethodId} {below : List Frame} {meth : Method} {c9 : Code} {b L : Nat} {xs : Nat → Int32} (F : Fx g p s m #[Value.ref b] c9 cL_law_ 7 uL_law_ RL) (hb : gB g = s.heap.size) (hst : l.stackTraces = false) (tX : Ty g 10 0) (tM : Ty g 11 250) (tO : Ty g 17 331) (h332 : 332 ∉ gL g) (h333 : 333 ∉ gL g) (hX : va_X b L xs s s.heap) (hbl : b < s.heap.size) (hL : L ≤ 3584) (hr : meth.sig.returnType = ret) (hlk : meth.locks = false) : ∀ (r i : Nat) (M : Mem) (st : St), Inv M st → L ≤ 7 * (i + r) → 7 * i ≤ L + 7 → V g p l e room_1 s m #[Value.ref b] below meth c9 7 (400 + 10 * i) (10000 + 60 * i) (lw_Z below #[Value.ref b] s) 23 [(4, .int (nI (7 * i))), (3, .ref (gAd g 331)), (2, .ref (gAd g 250)), (1, .ref (gAd g 0)), (0, .ref b)] [] M := by
  intro r
  induction r with
  | zero =>
    intro i M st hI hLr hi
    refine v_iload F dL_law__23 0 rfl ?_
    refine v_aload_n F dL_law__25 rfl 4 rfl ?_
    refine v_slen F hb hX hbl dL_law__26 ?_
    refine v_bipush (v := 7) F dL_law__27 (by decide) ?_
    refine v_isub F dL_law__29 ?_
    refine v_icmp_gt (tgt := 2645) F dL_law__30 (by decide) (fun _ => ?_) (fun hgo => ?_)
    · refine v_iconst (v := 1) F dL_law__2645 (by decide) ?_
      intro H locs ls hP hS hl
      refine va_forget (fun q hq => by have h9 := hS.2.2 q hq; unfold gA at h9; omega) ?_
      refine W.widen (k := 601024) (n := 7293034) (by omega) (by omega) ?_
      exact lw_ret F.1.1 F.1.2.1 hr hlk dL_law__2646
    · have hn := law_cmp hL (by omega) hgo
      omega
  | succ r ih =>
    intro i M st hI hLr hi
    refine v_iload F dL_law__23 0 rfl ?_
    refine v_aload_n F dL_law__25 rfl 4 rfl ?_
    refine v_slen F hb hX hbl dL_law__26 ?_
    refine v_bipush (v := 7) F dL_law__27 (by decide) ?_
    refine v_isub F dL_law__29 ?_
    refine v_icmp_gt (tgt := 2645) F dL_law__30 (by decide) (fun _ => ?_) (fun hgo => ?_)
    · refine v_iconst (v := 1) F dL_law__2645 (by decide) ?_
      intro H locs ls hP hS hl
      refine va_forget (fun q hq => by have h9 := hS.2.2 q hq; unfold gA at h9; omega) ?_
      refine W.widen (k := 601024) (n := 7293034) (by omega) (by omega) ?_
      exact lw_ret F.1.1 F.1.2.1 hr hlk dL_law__2646
    · have hn := law_cmp hL (by omega) hgo
      have next : ∀ M' st', Inv M' st' → V g p l e room_1 s m #[Value.ref b] below meth c9 7 (400 + 10 * i + 10) (10000 + 60 * i + 60) (lw_Z below #[Value.ref b] s) 2639 [(4, .int (nI (7 * i))), (3, .ref (gAd g 331)), (2, .ref (gAd g 250)), (1, .ref (gAd g 0)), (0, .ref b)] [] M' := by
        intro M' st' hI'
        refine v_iinc (v := nI (7 * (i + 1))) (lv' := [(4, .int (nI (7 * (i + 1)))), (3, .ref (gAd g 331)), (2, .ref (gAd g 250)), (1, .ref (gAd g 0)), (0, .ref b)]) F dL_law__2639 (q := 0) rfl ?_ (by decide) rfl ?_
        · rw [show Int32.ofInt 7 = nI 7 from by decide, nI_add]; exact congrArg nI (by omega)
        refine v_goto (tgt := 23) F dL_law__2642 (by decide) ?_
        have h9 := ih (i + 1) M' st' hI' (by omega) (by omega)
        rw [show 400 + 10 * (i + 1) = 400 + 10 * i + 10 by omega, show 10000 + 60 * (i + 1) = 10000 + 60 * i + 60 by omega] at h9
        exact h9
      refine v_aload_n F dL_law__33 rfl 4 rfl ?_
      refine v_iload F dL_law__34 0 rfl ?_
      refine v_sld F hb hX hbl (n := 7 * i) (by omega) (by omega) dL_law__36 ?_
      refine v_bipush (v := 63) F dL_law__37 (by decide) ?_
      refine v_iand F dL_law__39 ?_
      generalize xs (7 * i) &&& 63 = x
      by_cases h0 : x = 0
      · rw [h0]
        refine v_tableIn (tgt := 188) F dL_law__40 (by decide) (by decide) rfl (by decide) ?_
        exact lc_0 F hb hst tX tM tO h332 h333 hX hbl hn (by omega) hI (by omega) (by omega) next
      by_cases h1 : x = 1
      · rw [h1]
        refine v_tableIn (tgt := 261) F dL_law__40 (by decide) (by decide) rfl (by decide) ?_
        exact lc_1 F hb hst tX tM tO h332 h333 hX hbl hn (by omega) hI (by omega) (by omega) next
      by_cases h2 : x = 2
      · rw [h2]
        refine v_tableIn (tgt := 317) F dL_law__40 (by decide) (by decide) rfl (by decide) ?_
        exact lc_2 F hb hst tX tM tO h332 h333 hX hbl hn (by omega) hI (by omega) (by omega) next
      by_cases h3 : x = 3
      · rw [h3]
        refine v_tableIn (tgt := 330) F dL_law__40 (by decide) (by decide) rfl (by decide) ?_
        exact lc_3 F hb hst tX tM tO h332 h333 hX hbl hn (by omega) hI (by omega) (by omega) next
      by_cases h4 : x = 4
      · rw [h4]
        refine v_tableIn (tgt := 386) F dL_law__40 (by decide) (by decide) rfl (by decide) ?_
        exact lc_4 F hb hst tX tM tO h332 h333 hX hbl hn (by omega) hI (by omega) (by omega) next
      by_cases h5 : x = 5
      · rw [h5]
        refine v_tableIn (tgt := 454) F dL_law__40 (by decide) (by decide) rfl (by decide) ?_
        exact lc_5 F hb hst tX tM tO h332 h333 hX hbl hn (by omega) hI (by omega) (by omega) next
      by_cases h6 : x = 6
      · rw [h6]
        refine v_tableIn (tgt := 538) F dL_law__40 (by decide) (by decide) rfl (by decide) ?_
        exact lc_6 F hb hst tX tM tO h332 h333 hX hbl hn (by omega) hI (by omega) (by omega) next
      by_cases h7 : x = 7
      · rw [h7]
        refine v_tableIn (tgt := 618) F dL_law__40 (by decide) (by decide) rfl (by decide) ?_
        exact lc_7 F hb hst tX tM tO h332 h333 hX hbl hn (by omega) hI (by omega) (by omega) next
      by_cases h8 : x = 8
      · rw [h8]
        refine v_tableIn (tgt := 698) F dL_law__40 (by decide) (by decide) rfl (by decide) ?_
        exact lc_8 F hb hst tX tM tO h332 h333 hX hbl hn (by omega) hI (by omega) (by omega) next
      by_cases h9 : x = 9
      · rw [h9]
        refine v_tableIn (tgt := 766) F dL_law__40 (by decide) (by decide) rfl (by decide) ?_
        exact lc_9 F hb hst tX tM tO h332 h333 hX hbl hn (by omega) hI (by omega) (by omega) next
      by_cases h10 : x = 10
      · rw [h10]
        refine v_tableIn (tgt := 874) F dL_law__40 (by decide) (by decide) rfl (by decide) ?_
        exact lc_10 F hb hst tX tM tO h332 h333 hX hbl hn (by omega) hI (by omega) (by omega) next
      by_cases h11 : x = 11
      · rw [h11]
        refine v_tableIn (tgt := 973) F dL_law__40 (by decide) (by decide) rfl (by decide) ?_
        exact lc_11 F hb hst tX tM tO h332 h333 hX hbl hn (by omega) hI (by omega) (by omega) next
      by_cases h12 : x = 12
      · rw [h12]
        refine v_tableIn (tgt := 1053) F dL_law__40 (by decide) (by decide) rfl (by decide) ?_
        exact lc_12 F hb hst tX tM tO h332 h333 hX hbl hn (by omega) hI (by omega) (by omega) next
      by_cases h13 : x = 13
      · rw [h13]
        refine v_tableIn (tgt := 1145) F dL_law__40 (by decide) (by decide) rfl (by decide) ?_
        exact lc_13 F hb hst tX tM tO h332 h333 hX hbl hn (by omega) hI (by omega) (by omega) next
      by_cases h14 : x = 14
      · rw [h14]
        refine v_tableIn (tgt := 1265) F dL_law__40 (by decide) (by decide) rfl (by decide) ?_
        exact lc_14 F hb hst tX tM tO h332 h333 hX hbl hn (by omega) hI (by omega) (by omega) next
      by_cases h15 : x = 15
      · rw [h15]
        refine v_tableIn (tgt := 1385) F dL_law__40 (by decide) (by decide) rfl (by decide) ?_
        exact lc_15 F hb hst tX tM tO h332 h333 hX hbl hn (by omega) hI (by omega) (by omega) next
      by_cases h16 : x = 16
      · rw [h16]
        refine v_tableIn (tgt := 1465) F dL_law__40 (by decide) (by decide) rfl (by decide) ?_
        exact lc_16 F hb hst tX tM tO h332 h333 hX hbl hn (by omega) hI (by omega) (by omega) next
      by_cases h17 : x = 17
      · rw [h17]
        refine v_tableIn (tgt := 1557) F dL_law__40 (by decide) (by decide) rfl (by decide) ?_
        exact lc_17 F hb hst tX tM tO h332 h333 hX hbl hn (by omega) hI (by omega) (by omega) next
      by_cases h18 : x = 18
      · rw [h18]
        refine v_tableIn (tgt := 1675) F dL_law__40 (by decide) (by decide) rfl (by decide) ?_
        exact lc_18 F hb hst tX tM tO h332 h333 hX hbl hn (by omega) hI (by omega) (by omega) next
      by_cases h19 : x = 19
      · rw [h19]
        refine v_tableIn (tgt := 1755) F dL_law__40 (by decide) (by decide) rfl (by decide) ?_
        exact lc_19 F hb hst tX tM tO h332 h333 hX hbl hn (by omega) hI (by omega) (by omega) next
      by_cases h20 : x = 20
      · rw [h20]
        refine v_tableIn (tgt := 1830) F dL_law__40 (by decide) (by decide) rfl (by decide) ?_
        exact lc_20 F hb hst tX tM tO h332 h333 hX hbl hn (by omega) hI (by omega) (by omega) next
      by_cases h21 : x = 21
      · rw [h21]
        refine v_tableIn (tgt := 1898) F dL_law__40 (by decide) (by decide) rfl (by decide) ?_
        exact lc_21 F hb hst tX tM tO h332 h333 hX hbl hn (by omega) hI (by omega) (by omega) next
      by_cases h22 : x = 22
      · rw [h22]
        refine v_tableIn (tgt := 1966) F dL_law__40 (by decide) (by decide) rfl (by decide) ?_
        exact lc_22 F hb hst tX tM tO h332 h333 hX hbl hn (by omega) hI (by omega) (by omega) next
      by_cases h23 : x = 23
      · rw [h23]
        refine v_tableIn (tgt := 2086) F dL_law__40 (by decide) (by decide) rfl (by decide) ?_
        exact lc_23 F hb hst tX tM tO h332 h333 hX hbl hn (by omega) hI (by omega) (by omega) next
      by_cases h24 : x = 24
      · rw [h24]
        refine v_tableIn (tgt := 2142) F dL_law__40 (by decide) (by decide) rfl (by decide) ?_
        exact lc_24 F hb hst tX tM tO h332 h333 hX hbl hn (by omega) hI (by omega) (by omega) next
      by_cases h25 : x = 25
      · rw [h25]
        refine v_tableIn (tgt := 2222) F dL_law__40 (by decide) (by decide) rfl (by decide) ?_
        exact lc_25 F hb hst tX tM tO h332 h333 hX hbl hn (by omega) hI (by omega) (by omega) next
      by_cases h26 : x = 26
      · rw [h26]
        refine v_tableIn (tgt := 2278) F dL_law__40 (by decide) (by decide) rfl (by decide) ?_
        exact lc_26 F hb hst tX tM tO h332 h333 hX hbl hn (by omega) hI (by omega) (by omega) next
      by_cases h27 : x = 27
      · rw [h27]
        refine v_tableIn (tgt := 2358) F dL_law__40 (by decide) (by decide) rfl (by decide) ?_
        exact lc_27 F hb hst tX tM tO h332 h333 hX hbl hn (by omega) hI (by omega) (by omega) next
      by_cases h28 : x = 28
      · rw [h28]
        refine v_tableIn (tgt := 2414) F dL_law__40 (by decide) (by decide) rfl (by decide) ?_
        exact lc_28 F hb hst tX tM tO h332 h333 hX hbl hn (by omega) hI (by omega) (by omega) next
      by_cases h29 : x = 29
      · rw [h29]
        refine v_tableIn (tgt := 2470) F dL_law__40 (by decide) (by decide) rfl (by decide) ?_
        exact lc_29 F hb hst tX tM tO h332 h333 hX hbl hn (by omega) hI (by omega) (by omega) next
      by_cases h30 : x = 30
      · rw [h30]
        refine v_tableIn (tgt := 2588) F dL_law__40 (by decide) (by decide) rfl (by decide) ?_
        exact lc_30 F hb hst tX tM tO h332 h333 hX hbl hn (by omega) hI (by omega) (by omega) next
      by_cases h31 : x = 31
      · rw [h31]
        refine v_tableIn (tgt := 2601) F dL_law__40 (by decide) (by decide) rfl (by decide) ?_
        exact lc_31 F hb hst tX tM tO h332 h333 hX hbl hn (by omega) hI (by omega) (by omega) next
      by_cases h32 : x = 32
      · rw [h32]
        refine v_tableIn (tgt := 2614) F dL_law__40 (by decide) (by decide) rfl (by decide) ?_
        exact lc_32 F hb hst tX tM tO h332 h333 hX hbl hn (by omega) hI (by omega) (by omega) next
      refine v_tableOut (tgt := 2639) F dL_law__40 (sw_out 0 32 (by decide) (by decide) ?_) (by decide) ?_
      · intro j9 z1 z2
        obtain rfl | rfl | rfl | rfl | rfl | rfl | rfl | rfl | rfl | rfl | rfl | rfl | rfl | rfl | rfl | rfl | rfl | rfl | rfl | rfl | rfl | rfl | rfl | rfl | rfl | rfl | rfl | rfl | rfl | rfl | rfl | rfl | rfl : j9 = 0 ∨ j9 = 1 ∨ j9 = 2 ∨ j9 = 3 ∨ j9 = 4 ∨ j9 = 5 ∨ j9 = 6 ∨ j9 = 7 ∨ j9 = 8 ∨ j9 = 9 ∨ j9 = 10 ∨ j9 = 11 ∨ j9 = 12 ∨ j9 = 13 ∨ j9 = 14 ∨ j9 = 15 ∨ j9 = 16 ∨ j9 = 17 ∨ j9 = 18 ∨ j9 = 19 ∨ j9 = 20 ∨ j9 = 21 ∨ j9 = 22 ∨ j9 = 23 ∨ j9 = 24 ∨ j9 = 25 ∨ j9 = 26 ∨ j9 = 27 ∨ j9 = 28 ∨ j9 = 29 ∨ j9 = 30 ∨ j9 = 31 ∨ j9 = 32 := by omega
        · exact fun q => h0 (by rw [← Int32.toInt_inj]; exact q)
        · exact fun q => h1 (by rw [← Int32.toInt_inj]; exact q)
        · exact fun q => h2 (by rw [← Int32.toInt_inj]; exact q)
        · exact fun q => h3 (by rw [← Int32.toInt_inj]; exact q)
        · exact fun q => h4 (by rw [← Int32.toInt_inj]; exact q)
        · exact fun q => h5 (by rw [← Int32.toInt_inj]; exact q)
        · exact fun q => h6 (by rw [← Int32.toInt_inj]; exact q)
        · exact fun q => h7 (by rw [← Int32.toInt_inj]; exact q)
        · exact fun q => h8 (by rw [← Int32.toInt_inj]; exact q)
        · exact fun q => h9 (by rw [← Int32.toInt_inj]; exact q)
        · exact fun q => h10 (by rw [← Int32.toInt_inj]; exact q)
        · exact fun q => h11 (by rw [← Int32.toInt_inj]; exact q)
        · exact fun q => h12 (by rw [← Int32.toInt_inj]; exact q)
        · exact fun q => h13 (by rw [← Int32.toInt_inj]; exact q)
        · exact fun q => h14 (by rw [← Int32.toInt_inj]; exact q)
        · exact fun q => h15 (by rw [← Int32.toInt_inj]; exact q)
        · exact fun q => h16 (by rw [← Int32.toInt_inj]; exact q)
        · exact fun q => h17 (by rw [← Int32.toInt_inj]; exact q)
        · exact fun q => h18 (by rw [← Int32.toInt_inj]; exact q)
        · exact fun q => h19 (by rw [← Int32.toInt_inj]; exact q)
        · exact fun q => h20 (by rw [← Int32.toInt_inj]; exact q)
        · exact fun q => h21 (by rw [← Int32.toInt_inj]; exact q)
        · exact fun q => h22 (by rw [← Int32.toInt_inj]; exact q)
        · exact fun q => h23 (by rw [← Int32.toInt_inj]; exact q)
        · exact fun q => h24 (by rw [← Int32.toInt_inj]; exact q)
        · exact fun q => h25 (by rw [← Int32.toInt_inj]; exact q)
        · exact fun q => h26 (by rw [← Int32.toInt_inj]; exact q)
        · exact fun q => h27 (by rw [← Int32.toInt_inj]; exact q)
        · exact fun q => h28 (by rw [← Int32.toInt_inj]; exact q)
        · exact fun q => h29 (by rw [← Int32.toInt_inj]; exact q)
        · exact fun q => h30 (by rw [← Int32.toInt_inj]; exact q)
        · exact fun q => h31 (by rw [← Int32.toInt_inj]; exact q)
        · exact fun q => h32 (by rw [← Int32.toInt_inj]; exact q)
      refine v_widen (k := 400 + 10 * i + 10) (n := 10000 + 60 * i + 60) (by omega) (by omega) ?_
      exact next _ _ hI
theorem law_from {g : gT} {p : Program} {l : Launch} {e : Env} {s : State} {m : MethodId} {below : List Frame} {meth : Method} {c9 : Code} {b L : Nat} {xs : Nat → Int32} {qx qm qo : Nat} (ex : gAd g 0 = qx) (em : gAd g 250 = qm) (eo : gAd g 331 = qo) (F : Fx g p s m #[Value.ref b] c9 cL_law_ 7 uL_law_ RL) (hb : gB g = s.heap.size) (hst : l.stackTraces = false) (tX : Ty g 10 0) (tM : Ty g 11 250) (tO : Ty g 17 331) (h332 : 332 ∉ gL g) (h333 : 333 ∉ gL g) (hX : va_X b L xs s s.heap) (hbl : b < s.heap.size) (hL : L ≤ 3584) (hr : meth.sig.returnType = ret) (hlk : meth.locks = false) {M : Mem} {st : St} (hI : Inv M st) : V g p l e room_1 s m #[Value.ref b] below meth c9 7 400 10000 (lw_Z below #[Value.ref b] s) 23 [(4, .int 0), (3, .ref qo), (2, .ref qm), (1, .ref qx), (0, .ref b)] [] M := by
  subst ex; subst em; subst eo
  exact law_loop F hb hst tX tM tO h332 h333 hX hbl hL hr hlk L 0 M st hI (by omega) (by omega)
set_option maxHeartbeats 4000000 in
set_option maxRecDepth 100000 in
theorem whole_start {p : Program} {e : Env} {s : State} {m : MethodId} {below : List Frame} {meth : Method} {c : Code} (l : Launch) (hflags : l.flags = flags0) {b L : Nat} {xs : Nat → Int32} (hL : L ≤ 3584) (C0 : lw_At p s m meth c b L xs) : W p l e room_1 s m #[Value.ref b] below meth c s.heap [] 0 0 (lw_Z below #[Value.ref b] s) (entryFrame m ([Value.ref b] : List Value).toArray 7) := by
  obtain ⟨hx, hb, hr, hml, hown, hts, hX, hbl, hlocks, hgv⟩ := id C0
  obtain ⟨g, hgL, hgB, hK, hok, hgX, hO⟩ := g_start hts hgv
  have F : Fx g p s m #[Value.ref b] c cL_law_ 7 uL_law_ RL := ⟨⟨hx, hb, hml, hown, fun w hw => by
    rcases List.mem_cons.mp hw with h | h
    · rw [h]; exact hts _ (List.mem_filter.mp ini_X10).1
    · exact hts _ (List.mem_filter.mp h).1⟩, hK, hok, Nat.le_of_eq hgB, hgX⟩
  have hst : l.stackTraces = false := by
    unfold Launch.stackTraces
    rw [hflags]
    decide +kernel
  have hS0 : shAt S10 0 := by unfold shAt; decide +kernel
  have hS1 : shAt S11 250 := by unfold shAt; decide +kernel
  obtain ⟨M1, hP1, hf1, hc1⟩ := mp_Main l 0 (fun _ _ => 0) hS0 (fun _ _ => rfl)
  have hz1 : ∀ a, 250 ≤ a → M1 a = fun _ => 0 := fun a h => hf1 a (Or.inr (by omega))
  obtain ⟨M2, hP2, hf2, hc2⟩ := mp_Model l 250 M1 hS1 hz1
  have hI : Inv M2 s0 := inv_start hP1 hP2 (fun a h => hf2 a (Or.inl h))
  have hl := lv_entry ([.ref b]) (n := 7) (Nat.le_of_ble_eq_true rfl)
  rw [lg_entry_eq]
  generalize (lg_sl ([.ref b]) ++ List.replicate (7 - (lg_sl ([.ref b])).length) Slot.unset).toArray = ls at hl ⊢
  have hl : lv_has ls 7 [(0, .ref b)] := hl
  have key : V g p l e room_1 s m #[Value.ref b] below meth c 7 0 0 (lw_Z below #[Value.ref b] s) 0 [(0, .ref b)] [] (fun _ _ => 0) := by
    refine v_newO (b := 0) (S := S10) F hS0 rfl tyX10 tyX10_ok (inc inU_10) rfl (List.mem_cons_of_mem _ cl_L_8) (List.mem_cons_of_mem _ it_X10) (List.mem_cons_of_mem _ ini_X10) (by rw [hgL]; exact List.not_mem_nil) (by decide) (by decide) (by intro j hj; rcases (show j = 0 ∨ j = 1 ∨ j = 2 ∨ j = 3 ∨ j = 4 ∨ j = 5 ∨ j = 6 ∨ j = 7 ∨ j = 8 ∨ j = 9 ∨ j = 10 by omega) with rfl | rfl | rfl | rfl | rfl | rfl | rfl | rfl | rfl | rfl | rfl <;> rfl) (Nat.le_of_ble_eq_true rfl) (Nat.le_of_ble_eq_true rfl) dL_law__0 (fun q0 hok0 => ?_)
    rw [mZ_id rfl]
    have G0 := F.grow (g' := gNew g 0 q0) rfl rfl rfl rfl hok0
    have m0 : 0 ∈ gL (gNew g 0 q0) := List.mem_append_right _ (List.mem_singleton.mpr rfl)
    refine v_dup G0 dL_law__3 rfl ?_
    refine v_callJ (As := []) (rest := [.ref q0]) G0 hO (hc1 (gNew g 0 q0) hok0 m0 nw_dn (fun a ha => by
      rcases List.mem_append.mp ha with z | z
      · rw [hgL] at z; cases z
      · have := List.mem_singleton.mp z; omega)) (cwI 0 F.1.2.2.2.2 (gU_0 cd_X10_init) rfl rfl rfl (F.1.2.2.2.2 _ (List.mem_cons_of_mem _ ini_X10)) (F.1.2.2.2.2 _ (List.mem_cons_of_mem _ ml_L_109)) (F.1.2.2.2.2 _ (List.mem_cons_of_mem _ im_yX10_init)) rfl (by decide +kernel) ⟨Nat.le_of_ble_eq_true rfl, Nat.le_of_ble_eq_true rfl⟩) rfl (by rw [nw_ad]; rfl) (Nat.le_of_ble_eq_true rfl) dL_law__4 ⟨Nat.le_of_ble_eq_true rfl, Nat.le_of_ble_eq_true rfl⟩ (fun g1 hx1 => ?_)
    have F1 : Fx g1 p s m #[Value.ref b] c cL_law_ 7 uL_law_ RL := F.grow hx1.1 hx1.2.1 hx1.2.2.1 hx1.2.2.2.1 hx1.2.2.2.2.2.2.1
    have ad1 : gAd g1 0 = q0 := (hx1.2.2.2.2.2.1 0 m0).1.trans nw_ad
    have in1 : ∀ a, a ∈ gL g1 → a < 250 := fun a ha => by
      rcases (hx1.2.2.2.2.1 a).mp ha with z | z
      · rcases List.mem_append.mp z with z | z
        · rw [hgL] at z; cases z
        · have := List.mem_singleton.mp z; omega
      · omega
    have n1 : 0 ∈ gL g1 := (hx1.2.2.2.2.1 0).mpr (Or.inl m0)
    have dn1 : gDn g1 0 = true := hx1.2.2.2.2.2.2.2 0 (by omega) (by omega)
    refine v_astore_n (lv' := [(1, .ref q0), (0, .ref b)]) F1 dL_law__7 rfl (by decide) rfl ?_
    refine v_newO (b := 250) (S := S11) F1 hS1 rfl tyX11 tyX11_ok (inc inU_11) rfl (List.mem_cons_of_mem _ cl_L_110) (List.mem_cons_of_mem _ it_X11) (List.mem_cons_of_mem _ ini_X11) (fun h => by have := in1 250 h; omega) (by decide) (by decide) (by intro j hj; rcases (show j = 0 ∨ j = 1 ∨ j = 2 ∨ j = 3 ∨ j = 4 ∨ j = 5 ∨ j = 6 ∨ j = 7 ∨ j = 8 ∨ j = 9 ∨ j = 10 ∨ j = 11 ∨ j = 12 ∨ j = 13 ∨ j = 14 ∨ j = 15 ∨ j = 16 ∨ j = 17 ∨ j = 18 ∨ j = 19 ∨ j = 20 ∨ j = 21 ∨ j = 22 ∨ j = 23 ∨ j = 24 ∨ j = 25 ∨ j = 26 ∨ j = 27 ∨ j = 28 ∨ j = 29 ∨ j = 30 ∨ j = 31 ∨ j = 32 ∨ j = 33 ∨ j = 34 ∨ j = 35 ∨ j = 36 ∨ j = 37 ∨ j = 38 ∨ j = 39 ∨ j = 40 ∨ j = 41 by omega) with rfl | rfl | rfl | rfl | rfl | rfl | rfl | rfl | rfl | rfl | rfl | rfl | rfl | rfl | rfl | rfl | rfl | rfl | rfl | rfl | rfl | rfl | rfl | rfl | rfl | rfl | rfl | rfl | rfl | rfl | rfl | rfl | rfl | rfl | rfl | rfl | rfl | rfl | rfl | rfl | rfl | rfl <;> rfl) (Nat.le_of_ble_eq_true rfl) (Nat.le_of_ble_eq_true rfl) dL_law__8 (fun q1 hok1 => ?_)
    rw [mZ_id (hz1 250 (by omega))]
    have G1 := F1.grow (g' := gNew g1 250 q1) rfl rfl rfl rfl hok1
    have m1 : 250 ∈ gL (gNew g1 250 q1) := List.mem_append_right _ (List.mem_singleton.mpr rfl)
    refine v_dup G1 dL_law__11 rfl ?_
    refine v_callJ (As := []) (rest := [.ref q1]) G1 hO (hc2 (gNew g1 250 q1) hok1 m1 nw_dn (fun a ha => by
      rcases List.mem_append.mp ha with z | z
      · have := in1 a z; omega
      · have := List.mem_singleton.mp z; omega)) (cwI 0 F.1.2.2.2.2 (gU_0 cd_X11_init) rfl rfl rfl (F.1.2.2.2.2 _ (List.mem_cons_of_mem _ ini_X11)) (F.1.2.2.2.2 _ (List.mem_cons_of_mem _ ml_L_112)) (F.1.2.2.2.2 _ (List.mem_cons_of_mem _ im_yX11_init)) rfl (by decide +kernel) ⟨Nat.le_of_ble_eq_true rfl, Nat.le_of_ble_eq_true rfl⟩) rfl (by rw [nw_ad]; rfl) (Nat.le_of_ble_eq_true rfl) dL_law__12 ⟨Nat.le_of_ble_eq_true rfl, Nat.le_of_ble_eq_true rfl⟩ (fun g2 hx2 => ?_)
    have F2 : Fx g2 p s m #[Value.ref b] c cL_law_ 7 uL_law_ RL := F1.grow hx2.1 hx2.2.1 hx2.2.2.1 hx2.2.2.2.1 hx2.2.2.2.2.2.2.1
    have ad2 : gAd g2 250 = q1 := (hx2.2.2.2.2.2.1 250 m1).1.trans nw_ad
    have o2 := hx2.2.2.2.2.2.1 0 (List.mem_append_left _ n1)
    have ad2x : gAd g2 0 = q0 := o2.1.trans ((nw_adx (by decide)).trans ad1)
    have dn2x : gDn g2 0 = true := (o2.2 (by decide)).1.trans ((nw_dnx (by decide)).trans dn1)
    have dn2 : gDn g2 250 = true := hx2.2.2.2.2.2.2.2 250 (by omega) (by omega)
    have in2 : ∀ a, a ∈ gL g2 → a < 331 := fun a ha => by
      rcases (hx2.2.2.2.2.1 a).mp ha with z | z
      · rcases List.mem_append.mp z with z | z
        · have := in1 a z; omega
        · have := List.mem_singleton.mp z; omega
      · omega
    have n2x : 0 ∈ gL g2 := (hx2.2.2.2.2.1 0).mpr (Or.inl (List.mem_append_left _ n1))
    have n2 : 250 ∈ gL g2 := (hx2.2.2.2.2.1 250).mpr (Or.inl m1)
    refine v_astore_n (lv' := [(2, .ref q1), (1, .ref q0), (0, .ref b)]) F2 dL_law__15 rfl (by decide) rfl ?_
    refine v_iconst (v := 1) F2 dL_law__16 (by decide) ?_
    refine v_newLg (b := 331) F2 (List.mem_cons_of_mem _ ac_long) (fun h => by have := in2 331 h; omega) (by decide +kernel) (by decide) (by decide +kernel) (by decide +kernel) (Nat.le_of_ble_eq_true rfl) (by rw [show (shp 331).2.1 = 1 from gN_331]; decide) dL_law__17 (fun q2 hok2 => ?_)
    rw [mZ_id ((hf2 331 (Or.inr (by omega))).trans (hz1 331 (by omega)))]
    have F3 := F2.grow (g' := gNewA g2 331 q2) rfl rfl rfl rfl hok2
    refine v_astore_n (lv' := [(3, .ref q2), (2, .ref q1), (1, .ref q0), (0, .ref b)]) F3 dL_law__19 rfl (by decide) rfl ?_
    refine v_iconst (v := 0) F3 dL_law__20 (by decide) ?_
    refine v_istore (lv' := [(4, .int 0), (3, .ref q2), (2, .ref q1), (1, .ref q0), (0, .ref b)]) F3 dL_law__21 (by decide) rfl ?_
    rw [show (shp 331).2.1 = 1 from gN_331]
    refine v_widen (k := 400) (n := 10000) (by decide) (by decide) ?_
    refine law_from (g := gNewA g2 331 q2) ((na_adx (by decide)).trans ad2x) ((na_adx (by decide)).trans ad2) na_ad F3 ?_ hst ⟨List.mem_append_left _ n2x, by decide +kernel, (na_dnx (by decide)).trans dn2x⟩ ⟨List.mem_append_left _ n2, by decide +kernel, (na_dnx (by decide)).trans dn2⟩ ⟨List.mem_append_right _ (List.mem_singleton.mpr rfl), by decide +kernel, na_dn⟩ ?_ ?_ hX hbl hL hr hlocks hI
    · show gB g2 = s.heap.size
      rw [hx2.2.2.1]
      show gB g1 = s.heap.size
      rw [hx1.2.2.1]
      exact hgB
    · intro h
      rcases List.mem_append.mp h with z | z
      · have := in2 332 z; omega
      · have := List.mem_singleton.mp z; omega
    · intro h
      rcases List.mem_append.mp h with z | z
      · have := in2 333 z; omega
      · have := List.mem_singleton.mp z; omega
  refine key s.heap [] ls ?_ va_S.rf hl
  show va_P g.1 vwCl (gW g (fun _ _ => 0)) s.heap
  unfold gW
  rw [hgL]
  exact fun k q h => (nil_at h).elim
set_option maxHeartbeats 4000000 in
theorem lw_walk (l : Launch) (hflags : l.flags = flags0) (b : Addr) (xs : List Int32) : MetFree l x (headSpec (Jvm.Cond.code x code maxLocals ret :: tables_1) room_1) (lw_P b xs) (fun _ _ _ _ _ => True) lw_Q := by
  refine MetFree.of_bodyS (code := code) (maxLocals := maxLocals) (ret := ret) (by decide) ?_ ?_
  · intro args s m h hn
    obtain ⟨meth, c, h1, h2, h3, h4, h5, h6, -, -⟩ := Cond.code_spec hn (atoms_spec (ws := Jvm.Cond.code x code maxLocals ret :: tables_1) h _ List.mem_cons_self)
    exact ⟨meth, c, h1, h2, h3, h4, h5, h6⟩
  · intro p e s m args below meth c s₁ B hml0 hP _
    obtain ⟨rfl, hx, hbd, hgv⟩ := hP
    obtain ⟨scr, harrAt, hlist, hof, hsmall⟩ := hx
    obtain ⟨hcb, hkn, -, -⟩ := State.arrayAt?_spec harrAt
    have hown : s.vm.findClass R_law = some m.cls := findClass_of_methodNamed B.named
    have hts0 : ∀ c ∈ (Jvm.Cond.code x code maxLocals ret :: tables_1), c.before #[Value.ref b] s = true := atoms_spec (ws := Jvm.Cond.code x code maxLocals ret :: tables_1) B.pre
    have hts : ∀ w ∈ lw_tbl, w.before #[Value.ref b] s = true := k2_hts_sels lw_privs (fun w hw => hts0 w (List.mem_cons_of_mem _ hw)) lw_privs_ok
    have hml : c.maxLocals = 7 := B.maxLocals_eq (hts0 _ List.mem_cons_self)
    have X₀ : Stand p l e room_1 s m #[Value.ref b] below meth c s₁ [] 0 0 := Stand.of_body B
    have hh0 : s₁.heap = s.heap := by rw [B.state]; rfl
    have hsz : scr.slots.size = xs.length := by rw [← Array.length_toList, hlist, List.length_map]
    have hval : ∀ j : Nat, j < xs.length → scr.slots[j]? = some (.int (xs.getD j 0)) := fun j hj => by
      rw [← Array.getElem?_toList, hlist]
      simp [hj]
    have hbl : b < s.heap.size := (Array.getElem?_eq_some_iff.mp hcb).1
    have hX : va_X b xs.length (fun j => xs.getD j 0) s s.heap := ⟨scr, hcb, hof, hkn, hsz, hval⟩
    have K : W p l e room_1 s m #[Value.ref b] below meth c s₁.heap [] 0 0 (lw_Z below #[Value.ref b] s) (entryFrame m ([Value.ref b] : List Value).toArray 7) := by
      rw [hh0]
      exact whole_start l hflags hbd ⟨B.exec, B.bytes, B.returns, hml, hown, hts, hX, hbl, B.notSynchronized, hgv⟩
    obtain ⟨t, a1, o, b1, b2, b3⟩ := K s₁ rfl X₀
    exact ⟨t, o, a1, b1, b2, b3⟩
theorem lw_pre_spec {args : Array Value} {s : State} (h : (Jvm.Cond.and given_1 narrow_1).before args s = true) (hr : rest_1_c.before args s = true) : ∃ (b : Addr) (xs : List Int32), lw_P b xs args s := by
  have hs := flat_of_before _ h
  have hq := flat_of_before _ hr
  have hc : (Cond.count 1).before args s = true := hs _ (by decide +kernel)
  have harr : (Cond.arrayOf (.arg 0) .int).before args s = true := hs _ (by decide +kernel)
  have hle : (Cond.le (.length (.arg 0)) (.int 3584)).before args s = true := hs _ (by decide +kernel)
  have hlen : (Cond.isInt (.length (.arg 0))).before args s = true := hq _ (by decide +kernel)
  have hall : (Cond.all (.arg 0) (.isInt (.elem (.arg 0) (.index 0)))).before args s = true := hq _ (by decide +kernel)
  obtain ⟨b, xs, hb, hx⟩ := State.ints_of_pre rfl harr hlen hall
  have hsm : xs.length < 2 ^ 31 := hx.choose_spec.2.2.2
  have hev : (Term.length (.arg 0)).eval args s none [] s = some (.int xs.length.toInt32) := hx.length_eval hb
  have hv := Cond.le_ints hev (show (Term.int 3584).eval args s none [] s = some (.int 3584) from rfl)
  have hd : xs.length.toInt32 ≤ 3584 := by
    simpa [Cond.before, Cond.holds, hv] using hle
  have hN : xs.length ≤ 3584 := (Int32.ofNat_le_ofNat hsm (by decide)).mp (show Int32.ofNat xs.length ≤ Int32.ofNat 3584 from hd)
  exact ⟨b, xs, Cond.one_arg hc (show args[0]? = some (.ref b) from hb), hx, hN, h⟩
theorem lw_comes (l : Launch) (hflags : l.flags = flags0) : Comes l x (Jvm.Cond.code x code maxLocals ret :: tables_1) room_1 (fun tb e args s => Calls_1 tb e args s ∧ rest_1 tb e args s ∧ Pre_1 tb e args s)
    (fun _ _ args s o t => lw_Q args s o t) := by
  intro p e ha hc hk s m args below hf hfit hheap happ hpre
  obtain ⟨b, xs, hP⟩ := lw_pre_spec hpre.2.2 hpre.2.1
  obtain ⟨k, o, h1, h2, h3, hQ⟩ := lw_walk l hflags b xs p e ha hc hk s m args below hf ((Spec.applies_iff_loose hf).mp happ).1 hP trivial
  exact ⟨k, o, h1, h2, h3, hQ⟩
theorem lw_frame {s t : State} {o : Outcome} {args : Array Value} (h : Framed s o t [] 601024 7293034) :
    Framed s o t (fieldLocs frame_1_writes args s ++ arrayLocs frame_1_arrays args s ++ staticLocs frame_1_statics s) 601024 7293034 := h
theorem lw_limb (L : Cond) (hL : ∀ (args : Array Value) (s t : State), L.after args s (.returned (some (.int 1))) t = true) :
    ArmFor flags0 classFile x code maxLocals ret World_1 tables_1 room_1 Calls_1 rest_1 Pre_1
      (fun tb e a s o t => postC L tb e a s o t ∧ Framed s o t (fieldLocs frame_1_writes a s ++ arrayLocs frame_1_arrays a s ++ staticLocs frame_1_statics s) 601024 7293034) := by
  intro l hflags _ _ p e ha hc hk s m args below hf hfit hheap happ hpre
  obtain ⟨k, o, h1, h2, h3, rfl, hF⟩ := lw_comes l hflags p e ha hc hk s m args below hf hfit hheap happ hpre
  exact ⟨k, _, h1, h2, h3, hL args s _, lw_frame hF⟩
theorem i_vc : Claimed_1_1 ∧ Claimed_1_2 := ⟨lw_limb limb_1_1 (fun args s t => by simp [limb_1_1, Cond.after, Cond.holds, Cond.value]), lw_limb limb_1_2 (fun args s t => Cond.after_iff.mpr (by
  first | (rw [show limb_1_2 = Cond.eq .result (.int 1) from rfl, Cond.eq_ints (x := 1) (y := 1) rfl rfl]; simp; done) | (simp [limb_1_2, Cond.value, Term.eval]; done)))⟩
