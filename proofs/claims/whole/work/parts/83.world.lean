/-! The world at the law's entry. -/
theorem tM1 {w : Cond} (h : w ∈ tables_1_1) : w ∈ lw_tbl := List.mem_append_right _ (show w ∈ tables_1 from List.mem_append_left _ h)
theorem tM2 {w : Cond} (h : w ∈ tables_1_2) : w ∈ lw_tbl := List.mem_append_right _ (show w ∈ tables_1 from List.mem_append_right _ (List.mem_append_left _ h))
theorem tM3 {w : Cond} (h : w ∈ tables_1_3) : w ∈ lw_tbl := List.mem_append_right _ (show w ∈ tables_1 from List.mem_append_right _ (List.mem_append_right _ (List.mem_append_left _ h)))
theorem tM4 {w : Cond} (h : w ∈ tables_1_4) : w ∈ lw_tbl := List.mem_append_right _ (show w ∈ tables_1 from List.mem_append_right _ (List.mem_append_right _ (List.mem_append_right _ (List.mem_append_left _ h))))
theorem tM5 {w : Cond} (h : w ∈ tables_1_5) : w ∈ lw_tbl := List.mem_append_right _ (show w ∈ tables_1 from List.mem_append_right _ (List.mem_append_right _ (List.mem_append_right _ (List.mem_append_right _ (List.mem_append_left _ h)))))
theorem tM6 {w : Cond} (h : w ∈ tables_1_6) : w ∈ lw_tbl := List.mem_append_right _ (show w ∈ tables_1 from List.mem_append_right _ (List.mem_append_right _ (List.mem_append_right _ (List.mem_append_right _ (List.mem_append_right _ (List.mem_append_left _ h))))))
theorem tM7 {w : Cond} (h : w ∈ tables_1_7) : w ∈ lw_tbl := List.mem_append_right _ (show w ∈ tables_1 from List.mem_append_right _ (List.mem_append_right _ (List.mem_append_right _ (List.mem_append_right _ (List.mem_append_right _ (List.mem_append_right _ (h)))))))
section WORLD
variable {A : Nat → Prop} {s : State} {args : Array Value}
theorem st_row {nm : String} {f : Nat → Int32} (hl : (Cond.laysStatic "GallopRoads" nm "[I").before args s = true) (hini : (Cond.initialized "GallopRoads").before args s = true) (harr : (Cond.arrayOf (.static "GallopRoads" nm "[I") .int).before args s = true) (hlen : (Cond.eq (.length (.static "GallopRoads" nm "[I")) (.int (Int32.ofNat 10))).before args s = true) (hel : ∀ j : Nat, j < 10 → (Cond.eq (.elem (.static "GallopRoads" nm "[I") (.int (Int32.ofNat j))) (.int (f j))).before args s = true) (hA : ∀ a : Nat, a < s.heap.size → ¬ A a) : ∃ t, gSt A nm f t s s.heap := by
  obtain ⟨t, ht, hT⟩ := va_Tof (N := 10) (f := fun j => .int (f j)) (by decide) harr (va_eqt hlen) (fun j hj => va_eqt (hel j hj)) hA
  exact ⟨t, va_Zref hl hini ht hA, hT⟩
theorem str_ref {own tx : String} {k : Nat} (h1 : (Cond.stringRef own k tx).before args s = true) (hx : (Cond.exactly (.string own k) "java/lang/String").before args s = true) : ∃ a, vk_R own k tx a s := by
  obtain ⟨a, c, cA, kA, q1, -⟩ := Cond.exactly_spec (args := args) (first := s) (o := none) (s := s) (idx := []) (t := .string own k) (cls := "java/lang/String") hx
  have q2 : (Term.string own k).eval args s none [] s = some (.ref a) := q1
  exact ⟨a, vk_R.of h1 q2⟩
theorem arr_p {ty : FieldType} (h : (Cond.arrayClass ty).before args s = true) : ∃ c, ArrOfT s c ty ∧ s.vm.findClass ("[" ++ ty.toString) = some c := by
  obtain ⟨c, k, comp, h1, h2, h3⟩ := Cond.arrayClass_spec h
  exact ⟨c, fun N z => ⟨(fun k h => by cases h), k, h2, comp, h3⟩, h1⟩
theorem arr_o {C : String} (h : (Cond.arrayOver (.object C)).before args s = true) : ∃ c, ArrOfT s c (.object C) ∧ va_RA s c (.object C) := by
  obtain ⟨comp, c, k, h1, h2, h3, h4, h5⟩ := Cond.arrayOver_spec h
  exact ⟨c, fun N z => ⟨(fun k h => by cases h), k, h3, comp, h4⟩, k, comp, h3, h4, h1, h5⟩
theorem arr_a {t : FieldType} (h : (Cond.arrayOver (.array t)).before args s = true) : ∃ c, ArrOfT s c (.array t) ∧ va_RA s c (.array t) := by
  obtain ⟨comp, c, k, h1, h2, h3, h4⟩ := Cond.arrayOver_specA h
  exact ⟨c, fun N z => ⟨(fun k h => by cases h), k, h2, comp, h3⟩, h4⟩
end WORLD
theorem it_X10 : Cond.instantiable RX10 11 ∈ uT := uM1 (List.mem_of_getElem? (i := 25) rfl) rfl
theorem it_X11 : Cond.instantiable RX11 42 ∈ uT := uM5 (List.mem_of_getElem? (i := 89) rfl) rfl
theorem nw_mem : ∀ w ∈ gNW, w.onTables = true ∧ w ∈ lw_tbl := by decide +kernel
theorem bw_mem : ∀ w ∈ gBW, w.onTables = true ∧ w ∈ lw_tbl := by decide +kernel
theorem ex_mem : ∀ E ∈ gEX, Cond.castable E E ∈ lw_tbl := by decide +kernel
theorem nc_mem : ∀ E ∈ gEX, ∀ T ∈ gEX, E ≠ T → Cond.not (.castable E T) ∈ flatC (Jvm.Cond.and given_1 narrow_1) := by decide +kernel
theorem tok_mem : ∀ j, j < 88 → (flatC (Jvm.Cond.and given_1 narrow_1))[129 + j]? = some (Cond.eq (.elem (.field (.string "GallopRoads$Tokens" 57) "java/lang/String" "value" "[B") (.int (Int32.ofNat j))) (.int (wBy.getD j 0))) := by decide +kernel
set_option maxRecDepth 100000 in
theorem kn_start {s : State} {b : Nat} (hts : ∀ w ∈ lw_tbl, w.before #[Value.ref b] s = true) : ∃ D : va_G, ∀ (c : Nat) (q : vw_C), vwCl[c]? = some q → u_Kn s q.1 q.2.1 q.2.2 (D.1 c) (D.2 c) := by
  have hU : ∀ w ∈ uT, w.before #[Value.ref b] s = true := fun w h => hts w (List.mem_filter.mp h).1
  obtain ⟨c0, i0, h0⟩ := u_known (C := RX0) (T := TX0) (N := 3) (n := 3) hU inU_0 (hU _ it_X0)
  obtain ⟨c1, i1, h1⟩ := u_known (C := RX1) (T := TX1) (N := 10) (n := 10) hU inU_1 (hU _ it_X1)
  obtain ⟨c2, i2, h2⟩ := u_known (C := RX2) (T := TX2) (N := 5) (n := 5) hU inU_2 (hU _ it_X2)
  obtain ⟨c3, i3, h3⟩ := u_known (C := RX3) (T := TX3) (N := 5) (n := 5) hU inU_3 (hU _ it_X3)
  obtain ⟨c4, i4, h4⟩ := u_known (C := RX4) (T := TX4) (N := 4) (n := 4) hU inU_4 (hU _ it_X4)
  obtain ⟨c5, i5, h5⟩ := u_known (C := RX5) (T := TX5) (N := 4) (n := 4) hU inU_5 (hU _ it_X5)
  obtain ⟨c6, i6, h6⟩ := u_known (C := RX6) (T := TX6) (N := 9) (n := 9) hU inU_6 (hU _ it_X6)
  obtain ⟨c7, i7, h7⟩ := u_known (C := RX7) (T := TX7) (N := 5) (n := 5) hU inU_7 (hU _ it_X7)
  obtain ⟨c8, i8, h8⟩ := u_known (C := RX8) (T := TX8) (N := 1) (n := 1) hU inU_8 (hU _ it_X8)
  obtain ⟨c9, i9, h9⟩ := u_known (C := RX9) (T := TX9) (N := 4) (n := 4) hU inU_9 (hU _ it_X9)
  obtain ⟨c10, i10, h10⟩ := u_known (C := RX10) (T := TX10) (N := 11) (n := 11) hU inU_10 (hU _ it_X10)
  obtain ⟨c11, i11, h11⟩ := u_known (C := RX11) (T := TX11) (N := 42) (n := 42) hU inU_11 (hU _ it_X11)
  refine ⟨(fun k => if k = 1 then c1 else if k = 2 then c2 else if k = 3 then c3 else if k = 4 then c4 else if k = 5 then c5 else if k = 6 then c6 else if k = 7 then c7 else if k = 8 then c8 else if k = 9 then c9 else if k = 10 then c10 else if k = 11 then c11 else c0, fun k => if k = 1 then i1 else if k = 2 then i2 else if k = 3 then i3 else if k = 4 then i4 else if k = 5 then i5 else if k = 6 then i6 else if k = 7 then i7 else if k = 8 then i8 else if k = 9 then i9 else if k = 10 then i10 else if k = 11 then i11 else i0), fun c q hq => ?_⟩
  match c, hq with
  | 0, hq => cases hq; exact h0
  | 1, hq => cases hq; exact h1
  | 2, hq => cases hq; exact h2
  | 3, hq => cases hq; exact h3
  | 4, hq => cases hq; exact h4
  | 5, hq => cases hq; exact h5
  | 6, hq => cases hq; exact h6
  | 7, hq => cases hq; exact h7
  | 8, hq => cases hq; exact h8
  | 9, hq => cases hq; exact h9
  | 10, hq => cases hq; exact h10
  | 11, hq => cases hq; exact h11
  | k + 12, hq => simp [vwCl] at hq
set_option maxRecDepth 100000 in
set_option maxHeartbeats 4000000 in
/-- the pool at the entry: empty -/
theorem g_start {s : State} {b : Nat} (hts : ∀ w ∈ lw_tbl, w.before #[Value.ref b] s = true) (hgv : (Jvm.Cond.and given_1 narrow_1).before #[Value.ref b] s = true) : ∃ g : gT, gL g = [] ∧ gB g = s.heap.size ∧ va_K g.1 vwCl (gTy g) s ∧ gOK g ∧ gX g s s.heap ∧ Ov s := by
  have hfl := flat_of_before _ hgv
  have hA : ∀ a : Nat, a < s.heap.size → ¬ (fun q : Nat => s.heap.size ≤ q) a := fun a h => Nat.not_le.mpr h
  obtain ⟨D, hD⟩ := kn_start hts
  have hini := (hts (Cond.initialized "GallopRoads") (tM1 (List.mem_of_getElem? (i := 1) rfl)))
  obtain ⟨t0, ht0⟩ := st_row (nm := "NUMBERS_AT_FIRST") (f := nbF) (hts _ (tM1 (List.mem_of_getElem? (i := 125) rfl))) hini (hfl _ (List.mem_of_getElem? (i := 5) rfl)) (hfl _ (List.mem_of_getElem? (i := 6) rfl)) (fun j hj => by
    rcases (show j = 0 ∨ j = 1 ∨ j = 2 ∨ j = 3 ∨ j = 4 ∨ j = 5 ∨ j = 6 ∨ j = 7 ∨ j = 8 ∨ j = 9 by omega) with rfl | rfl | rfl | rfl | rfl | rfl | rfl | rfl | rfl | rfl
    · exact (hfl _ (List.mem_of_getElem? (i := 7) rfl))
    · exact (hfl _ (List.mem_of_getElem? (i := 8) rfl))
    · exact (hfl _ (List.mem_of_getElem? (i := 9) rfl))
    · exact (hfl _ (List.mem_of_getElem? (i := 10) rfl))
    · exact (hfl _ (List.mem_of_getElem? (i := 11) rfl))
    · exact (hfl _ (List.mem_of_getElem? (i := 12) rfl))
    · exact (hfl _ (List.mem_of_getElem? (i := 13) rfl))
    · exact (hfl _ (List.mem_of_getElem? (i := 14) rfl))
    · exact (hfl _ (List.mem_of_getElem? (i := 15) rfl))
    · exact (hfl _ (List.mem_of_getElem? (i := 16) rfl))) hA
  obtain ⟨t1, ht1⟩ := st_row (nm := "NUMBERS_LEAST") (f := nbL) (hts _ (tM3 (List.mem_of_getElem? (i := 169) rfl))) hini (hfl _ (List.mem_of_getElem? (i := 25) rfl)) (hfl _ (List.mem_of_getElem? (i := 26) rfl)) (fun j hj => by
    rcases (show j = 0 ∨ j = 1 ∨ j = 2 ∨ j = 3 ∨ j = 4 ∨ j = 5 ∨ j = 6 ∨ j = 7 ∨ j = 8 ∨ j = 9 by omega) with rfl | rfl | rfl | rfl | rfl | rfl | rfl | rfl | rfl | rfl
    · exact (hfl _ (List.mem_of_getElem? (i := 27) rfl))
    · exact (hfl _ (List.mem_of_getElem? (i := 28) rfl))
    · exact (hfl _ (List.mem_of_getElem? (i := 29) rfl))
    · exact (hfl _ (List.mem_of_getElem? (i := 30) rfl))
    · exact (hfl _ (List.mem_of_getElem? (i := 31) rfl))
    · exact (hfl _ (List.mem_of_getElem? (i := 32) rfl))
    · exact (hfl _ (List.mem_of_getElem? (i := 33) rfl))
    · exact (hfl _ (List.mem_of_getElem? (i := 34) rfl))
    · exact (hfl _ (List.mem_of_getElem? (i := 35) rfl))
    · exact (hfl _ (List.mem_of_getElem? (i := 36) rfl))) hA
  obtain ⟨t2, ht2⟩ := st_row (nm := "NUMBERS_MOST") (f := nbM) (hts _ (tM3 (List.mem_of_getElem? (i := 174) rfl))) hini (hfl _ (List.mem_of_getElem? (i := 38) rfl)) (hfl _ (List.mem_of_getElem? (i := 39) rfl)) (fun j hj => by
    rcases (show j = 0 ∨ j = 1 ∨ j = 2 ∨ j = 3 ∨ j = 4 ∨ j = 5 ∨ j = 6 ∨ j = 7 ∨ j = 8 ∨ j = 9 by omega) with rfl | rfl | rfl | rfl | rfl | rfl | rfl | rfl | rfl | rfl
    · exact (hfl _ (List.mem_of_getElem? (i := 40) rfl))
    · exact (hfl _ (List.mem_of_getElem? (i := 41) rfl))
    · exact (hfl _ (List.mem_of_getElem? (i := 42) rfl))
    · exact (hfl _ (List.mem_of_getElem? (i := 43) rfl))
    · exact (hfl _ (List.mem_of_getElem? (i := 44) rfl))
    · exact (hfl _ (List.mem_of_getElem? (i := 45) rfl))
    · exact (hfl _ (List.mem_of_getElem? (i := 46) rfl))
    · exact (hfl _ (List.mem_of_getElem? (i := 47) rfl))
    · exact (hfl _ (List.mem_of_getElem? (i := 48) rfl))
    · exact (hfl _ (List.mem_of_getElem? (i := 49) rfl))) hA
  obtain ⟨a3, ha3⟩ := str_ref (hts _ (tM4 (List.mem_of_getElem? (i := 66) rfl))) (hfl _ (List.mem_of_getElem? (i := 255) rfl))
  obtain ⟨a4, ha4⟩ := str_ref (hts _ (tM3 (List.mem_of_getElem? (i := 3) rfl))) (hfl _ (List.mem_of_getElem? (i := 92) rfl))
  obtain ⟨a5, ha5⟩ := str_ref (hts _ (tM3 (List.mem_of_getElem? (i := 196) rfl))) (hfl _ (List.mem_of_getElem? (i := 218) rfl))
  obtain ⟨a6, ha6⟩ := str_ref (hts _ (tM5 (List.mem_of_getElem? (i := 28) rfl))) (hfl _ (List.mem_of_getElem? (i := 287) rfl))
  obtain ⟨a7, ha7⟩ := str_ref (hts _ (tM4 (List.mem_of_getElem? (i := 6) rfl))) (hfl _ (List.mem_of_getElem? (i := 237) rfl))
  obtain ⟨adK, adV, hvS, hev⟩ := vk_Sof (args := #[Value.ref b]) (s := s) (N := 1) (tm := fun _ => .string "GallopRoads$Tokens" 57) (len := [88]) (byt := [wBy]) (A := fun q : Nat => s.heap.size ≤ q) (fun i hi => by rw [show i = 0 by omega]; decide) (fun i hi => (hfl _ (List.mem_of_getElem? (i := 125) rfl))) (fun i hi => (hfl _ (List.mem_of_getElem? (i := 126) rfl))) (fun i hi => (hfl _ (List.mem_of_getElem? (i := 127) rfl))) (fun i hi => by rw [show i = 0 by omega]; exact (hfl _ (List.mem_of_getElem? (i := 128) rfl))) (fun i hi j hj => by rw [show i = 0 by omega] at hj ⊢; exact hfl _ (List.mem_of_getElem? (tok_mem j hj))) (fun i j hi hj hij => absurd (show i = j by omega) hij) hA
  have ha8 : vk_R "GallopRoads$Tokens" 57 "wind tick height turn up spin side holes piece lift twist if or and not least most sign " (adK 0) s := vk_R.of (hts _ (tM3 (List.mem_of_getElem? (i := 55) rfl))) (hev 0 (by decide))
  have hS8 : vk_S 1 [88] [wBy] (fun _ => adK 0) (fun _ => adV 0) (fun q : Nat => s.heap.size ≤ q) s s.heap := ⟨fun i hi => by
    have h := hvS.1 0 (by decide)
    rw [show i = 0 by omega]; exact h, fun i j hi hj _ => by omega⟩
  have zU := vx_Zqof (A := fun q : Nat => s.heap.size ≤ q) (hts _ (tM2 (List.mem_of_getElem? (i := 229) rfl))) (hts _ (tM1 (List.mem_of_getElem? (i := 14) rfl))) (hfl _ (List.mem_of_getElem? (i := 17) rfl)) hA
  have zS := vx_Zqof (A := fun q : Nat => s.heap.size ≤ q) (hts _ (tM2 (List.mem_of_getElem? (i := 231) rfl))) (hts _ (tM1 (List.mem_of_getElem? (i := 14) rfl))) (hfl _ (List.mem_of_getElem? (i := 18) rfl)) hA
  have zC : va_Z "java/lang/String" "COMPACT_STRINGS" "Z" (.int 1) (fun q : Nat => s.heap.size ≤ q) s s.heap := va_Zof (hts _ (tM3 (List.mem_of_getElem? (i := 65) rfl))) (hts _ (tM1 (List.mem_of_getElem? (i := 18) rfl))) (va_eqi (hfl _ (List.mem_of_getElem? (i := 19) rfl))) hA
  have zP : va_Zq "jdk/internal/util/Preconditions" "SIOOBE_FORMATTER" "Ljava/util/function/BiFunction;" (fun q : Nat => s.heap.size ≤ q) s s.heap := va_Zqof (hts _ (tM3 (List.mem_of_getElem? (i := 81) rfl))) (hts _ (tM1 (List.mem_of_getElem? (i := 20) rfl))) (hfl _ (List.mem_of_getElem? (i := 20) rfl)) hA
  obtain ⟨c12, x12, y12⟩ := arr_p (ty := .int) (hts _ (tM1 (List.mem_of_getElem? (i := 45) rfl)))
  obtain ⟨c13, x13, y13⟩ := arr_p (ty := .boolean) (hts _ (tM5 (List.mem_of_getElem? (i := 223) rfl)))
  obtain ⟨c17, x17, y17⟩ := arr_p (ty := .long) (hts _ (tM7 (List.mem_of_getElem? (i := 89) rfl)))
  have o14 : (Cond.arrayOver (.object "GallopRoads$Law")).before #[Value.ref b] s = true := (hts _ (tM1 (List.mem_of_getElem? (i := 109) rfl)))
  have o15 : (Cond.arrayOver (.object "GallopRoads$Road")).before #[Value.ref b] s = true := (hts _ (tM2 (List.mem_of_getElem? (i := 54) rfl)))
  have o16 : (Cond.arrayOver (.array .int)).before #[Value.ref b] s = true := (hts _ (tM5 (List.mem_of_getElem? (i := 95) rfl)))
  obtain ⟨c14, x14, y14⟩ := arr_o o14
  obtain ⟨c15, x15, y15⟩ := arr_o o15
  obtain ⟨c16, x16, y16⟩ := arr_a o16
  refine ⟨(D, (fun k => if k = 12 then c12 else if k = 13 then c13 else if k = 14 then c14 else if k = 15 then c15 else if k = 16 then c16 else c17), [], (fun _ => 0), s.heap.size, (fun i => if i = 0 then t0 else if i = 1 then t1 else if i = 2 then t2 else if i = 3 then a3 else if i = 4 then a4 else if i = 5 then a5 else if i = 6 then a6 else if i = 7 then a7 else if i = 8 then adK 0 else adV 0), (fun _ _ => true), (fun _ => false)), rfl, rfl, ⟨hD, fun k q hq => ?_⟩, ⟨List.nodup_nil, fun a h => absurd h List.not_mem_nil, fun a h => absurd h List.not_mem_nil, fun a h => absurd h List.not_mem_nil, fun a h => absurd h List.not_mem_nil, fun a h => absurd h List.not_mem_nil⟩, ⟨fun w hw => va_Nw.of (nw_mem w hw).1 (hts w (nw_mem w hw).2), fun q hq => ?_, ht0, ht1, ht2, zU, zS, hS8, zC, zP, fun E hE => va_Nw.of rfl (hts _ (ex_mem E hE)), fun E hE T hT hne => va_Nc.of (hfl _ (nc_mem E hE T hT hne)), fun w hw => va_Nw.of (bw_mem w hw).1 (hts w (bw_mem w hw).2)⟩, va_AO.of o14, va_AO.of o15, va_AOA.of o16⟩
  · match k, hq with
    | 0, hq => cases hq; exact ⟨x12, y12⟩
    | 1, hq => cases hq; exact ⟨x13, y13⟩
    | 2, hq => cases hq; exact ⟨x14, y14⟩
    | 3, hq => cases hq; exact ⟨x15, y15⟩
    | 4, hq => cases hq; exact ⟨x16, y16⟩
    | 5, hq => cases hq; exact ⟨x17, y17⟩
    | k + 6, hq => exact (nil_at (i := k) hq).elim
  · simp only [gST, List.mem_cons, List.not_mem_nil, or_false] at hq
    rcases hq with rfl | rfl | rfl | rfl | rfl | rfl
    · exact ha3
    · exact ha4
    · exact ha5
    · exact ha6
    · exact ha7
    · exact ha8
