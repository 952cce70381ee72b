/-! One list of words for all methods: the good ones among the tables' words. -/
abbrev vwCl : List vw_C := [(RX0, TX0, 3), (RX1, TX1, 10), (RX2, TX2, 5), (RX3, TX3, 5), (RX4, TX4, 4), (RX5, TX5, 4), (RX6, TX6, 9), (RX7, TX7, 5), (RX8, TX8, 1), (RX9, TX9, 4), (RX10, TX10, 11), (RX11, TX11, 42)]
def exU : List String := ["java/lang/RuntimeException", "java/lang/Exception"]
def uT : List Cond := lw_tbl.filter goodWord
theorem uM {w : Cond} (h : w ∈ lw_tbl) (hg : goodWord w = true) : w ∈ uT := List.mem_filter.mpr ⟨h, hg⟩
theorem inc {A : List Cond} {c : Cond} (h : ∀ w ∈ A, w ∈ uT) : ∀ w ∈ A, w ∈ c :: uT := fun w hw => List.mem_cons_of_mem _ (h w hw)
theorem gU_1 {c0 w : Cond} (h : w ∈ uT) : w ∈ c0 :: uT ∧ ((w.onTables && w.keeps) = true ∨ ∃ ty, w = .arrayClass ty) := ⟨List.mem_cons_of_mem _ h, good_of_word (List.mem_filter.mp h).2⟩
theorem gU_0 {c0 c1 : Cond} (h : c1 ∈ uT) : GoodIn (c0 :: uT) (c1 :: uT) := fun w hw => (List.mem_cons.mp hw).elim (fun e => by rw [e]; exact gU_1 h) (fun h => gU_1 h)
theorem gU_V {c0 : Cond} {own C : String} {idx n : Nat} {y : MethodName} {b : ByteArray} {r : Option FieldType} (h1 : Cond.methodLink own idx y ∈ uT) (h2 : Cond.instanceMethod y ∈ uT) (h3 : Cond.selects C y y ∈ uT) (h4 : Cond.initialized C ∈ uT) (h5 : Cond.code y b n r ∈ uT) : GoodIn (c0 :: uT) (wsV own idx C y (Cond.code y b n r :: uT)) := by
  intro w hw
  unfold wsV at hw
  rcases List.mem_append.mp hw with h | h
  · simp only [List.mem_cons, List.not_mem_nil, or_false] at h
    rcases h with rfl | rfl | rfl | rfl
    · exact gU_1 h1
    · exact gU_1 h2
    · exact gU_1 h3
    · exact gU_1 h4
  · exact gU_0 h5 w h
theorem gU_S {c0 : Cond} {own : String} {idx n : Nat} {y : MethodName} {b : ByteArray} {r : Option FieldType} (h1 : Cond.methodLink own idx y ∈ uT) (h2 : Cond.static y ∈ uT) (h4 : Cond.initialized y.cls ∈ uT) (h5 : Cond.code y b n r ∈ uT) : GoodIn (c0 :: uT) (va_wsS own idx y (Cond.code y b n r :: uT)) := by
  intro w hw
  unfold va_wsS at hw
  rcases List.mem_append.mp hw with h | h
  · simp only [List.mem_cons, List.not_mem_nil, or_false] at h
    rcases h with rfl | rfl | rfl
    · exact gU_1 h1
    · exact gU_1 h2
    · exact gU_1 h4
  · exact gU_0 h5 w h
theorem uM1 {w : Cond} (h : w ∈ tables_1_1) (hg : goodWord w = true) : w ∈ uT := uM (List.mem_append_right _ (show w ∈ tables_1 from List.mem_append_left _ h)) hg
theorem uM2 {w : Cond} (h : w ∈ tables_1_2) (hg : goodWord w = true) : w ∈ uT := uM (List.mem_append_right _ (show w ∈ tables_1 from List.mem_append_right _ (List.mem_append_left _ h))) hg
theorem uM3 {w : Cond} (h : w ∈ tables_1_3) (hg : goodWord w = true) : w ∈ uT := uM (List.mem_append_right _ (show w ∈ tables_1 from List.mem_append_right _ (List.mem_append_right _ (List.mem_append_left _ h)))) hg
theorem uM4 {w : Cond} (h : w ∈ tables_1_4) (hg : goodWord w = true) : w ∈ uT := uM (List.mem_append_right _ (show w ∈ tables_1 from List.mem_append_right _ (List.mem_append_right _ (List.mem_append_right _ (List.mem_append_left _ h))))) hg
theorem uM5 {w : Cond} (h : w ∈ tables_1_5) (hg : goodWord w = true) : w ∈ uT := uM (List.mem_append_right _ (show w ∈ tables_1 from List.mem_append_right _ (List.mem_append_right _ (List.mem_append_right _ (List.mem_append_right _ (List.mem_append_left _ h)))))) hg
theorem uM6 {w : Cond} (h : w ∈ tables_1_6) (hg : goodWord w = true) : w ∈ uT := uM (List.mem_append_right _ (show w ∈ tables_1 from List.mem_append_right _ (List.mem_append_right _ (List.mem_append_right _ (List.mem_append_right _ (List.mem_append_right _ (List.mem_append_left _ h))))))) hg
theorem uM7 {w : Cond} (h : w ∈ tables_1_7) (hg : goodWord w = true) : w ∈ uT := uM (List.mem_append_right _ (show w ∈ tables_1 from List.mem_append_right _ (List.mem_append_right _ (List.mem_append_right _ (List.mem_append_right _ (List.mem_append_right _ (List.mem_append_right _ (h)))))))) hg
theorem uMp {w : Cond} (h : w ∈ k2_sels lw_privs) (hg : goodWord w = true) : w ∈ uT := uM (List.mem_append_left _ h) hg
theorem uP1 {q : MethodName × Nat} (h : q ∈ lw_privs_1) : q ∈ lw_privs := (show q ∈ lw_privs_1 ++ (lw_privs_2 ++ (lw_privs_3 ++ (lw_privs_4 ++ lw_privs_5))) from List.mem_append_left _ h)
theorem uP2 {q : MethodName × Nat} (h : q ∈ lw_privs_2) : q ∈ lw_privs := (show q ∈ lw_privs_1 ++ (lw_privs_2 ++ (lw_privs_3 ++ (lw_privs_4 ++ lw_privs_5))) from List.mem_append_right _ (List.mem_append_left _ h))
theorem uP3 {q : MethodName × Nat} (h : q ∈ lw_privs_3) : q ∈ lw_privs := (show q ∈ lw_privs_1 ++ (lw_privs_2 ++ (lw_privs_3 ++ (lw_privs_4 ++ lw_privs_5))) from List.mem_append_right _ (List.mem_append_right _ (List.mem_append_left _ h)))
theorem uP4 {q : MethodName × Nat} (h : q ∈ lw_privs_4) : q ∈ lw_privs := (show q ∈ lw_privs_1 ++ (lw_privs_2 ++ (lw_privs_3 ++ (lw_privs_4 ++ lw_privs_5))) from List.mem_append_right _ (List.mem_append_right _ (List.mem_append_right _ (List.mem_append_left _ h))))
theorem uP5 {q : MethodName × Nat} (h : q ∈ lw_privs_5) : q ∈ lw_privs := (show q ∈ lw_privs_1 ++ (lw_privs_2 ++ (lw_privs_3 ++ (lw_privs_4 ++ lw_privs_5))) from List.mem_append_right _ (List.mem_append_right _ (List.mem_append_right _ (List.mem_append_right _ (h)))))
theorem ly_0_0 : u_lay RX0 TX0 0 ∈ uT := uM2 (List.mem_of_getElem? (i := 4) rfl) rfl
theorem ly_0_1 : u_lay RX0 TX0 1 ∈ uT := uM2 (List.mem_of_getElem? (i := 6) rfl) rfl
theorem ly_0_2 : u_lay RX0 TX0 2 ∈ uT := uM2 (List.mem_of_getElem? (i := 8) rfl) rfl
theorem inU_0 : ∀ w ∈ u_ws RX0 TX0 3, w ∈ uT := by
  intro w hw
  obtain ⟨k, hk, rfl⟩ := List.mem_map.mp hw
  have h := List.mem_range.mp hk
  rcases (show k = 0 ∨ k = 1 ∨ k = 2 by omega) with rfl | rfl | rfl
  · exact ly_0_0
  · exact ly_0_1
  · exact ly_0_2
theorem ly_1_0 : u_lay RX1 TX1 0 ∈ uT := uM1 (List.mem_of_getElem? (i := 164) rfl) rfl
theorem ly_1_1 : u_lay RX1 TX1 1 ∈ uT := uM1 (List.mem_of_getElem? (i := 166) rfl) rfl
theorem ly_1_2 : u_lay RX1 TX1 2 ∈ uT := uM1 (List.mem_of_getElem? (i := 168) rfl) rfl
theorem ly_1_3 : u_lay RX1 TX1 3 ∈ uT := uM1 (List.mem_of_getElem? (i := 170) rfl) rfl
theorem ly_1_4 : u_lay RX1 TX1 4 ∈ uT := uM1 (List.mem_of_getElem? (i := 172) rfl) rfl
theorem ly_1_5 : u_lay RX1 TX1 5 ∈ uT := uM1 (List.mem_of_getElem? (i := 174) rfl) rfl
theorem ly_1_6 : u_lay RX1 TX1 6 ∈ uT := uM1 (List.mem_of_getElem? (i := 176) rfl) rfl
theorem ly_1_7 : u_lay RX1 TX1 7 ∈ uT := uM1 (List.mem_of_getElem? (i := 178) rfl) rfl
theorem ly_1_8 : u_lay RX1 TX1 8 ∈ uT := uM1 (List.mem_of_getElem? (i := 180) rfl) rfl
theorem ly_1_9 : u_lay RX1 TX1 9 ∈ uT := uM1 (List.mem_of_getElem? (i := 182) rfl) rfl
theorem inU_1 : ∀ w ∈ u_ws RX1 TX1 10, w ∈ uT := by
  intro w hw
  obtain ⟨k, hk, rfl⟩ := List.mem_map.mp hw
  have h := List.mem_range.mp hk
  rcases (show k = 0 ∨ k = 1 ∨ k = 2 ∨ k = 3 ∨ k = 4 ∨ k = 5 ∨ k = 6 ∨ k = 7 ∨ k = 8 ∨ k = 9 by omega) with rfl | rfl | rfl | rfl | rfl | rfl | rfl | rfl | rfl | rfl
  · exact ly_1_0
  · exact ly_1_1
  · exact ly_1_2
  · exact ly_1_3
  · exact ly_1_4
  · exact ly_1_5
  · exact ly_1_6
  · exact ly_1_7
  · exact ly_1_8
  · exact ly_1_9
theorem ly_2_0 : u_lay RX2 TX2 0 ∈ uT := uM1 (List.mem_of_getElem? (i := 199) rfl) rfl
theorem ly_2_1 : u_lay RX2 TX2 1 ∈ uT := uM1 (List.mem_of_getElem? (i := 201) rfl) rfl
theorem ly_2_2 : u_lay RX2 TX2 2 ∈ uT := uM1 (List.mem_of_getElem? (i := 203) rfl) rfl
theorem ly_2_3 : u_lay RX2 TX2 3 ∈ uT := uM1 (List.mem_of_getElem? (i := 205) rfl) rfl
theorem ly_2_4 : u_lay RX2 TX2 4 ∈ uT := uM1 (List.mem_of_getElem? (i := 207) rfl) rfl
theorem inU_2 : ∀ w ∈ u_ws RX2 TX2 5, w ∈ uT := by
  intro w hw
  obtain ⟨k, hk, rfl⟩ := List.mem_map.mp hw
  have h := List.mem_range.mp hk
  rcases (show k = 0 ∨ k = 1 ∨ k = 2 ∨ k = 3 ∨ k = 4 by omega) with rfl | rfl | rfl | rfl | rfl
  · exact ly_2_0
  · exact ly_2_1
  · exact ly_2_2
  · exact ly_2_3
  · exact ly_2_4
theorem ly_3_0 : u_lay RX3 TX3 0 ∈ uT := uM2 (List.mem_of_getElem? (i := 73) rfl) rfl
theorem ly_3_1 : u_lay RX3 TX3 1 ∈ uT := uM2 (List.mem_of_getElem? (i := 75) rfl) rfl
theorem ly_3_2 : u_lay RX3 TX3 2 ∈ uT := uM2 (List.mem_of_getElem? (i := 77) rfl) rfl
theorem ly_3_3 : u_lay RX3 TX3 3 ∈ uT := uM2 (List.mem_of_getElem? (i := 79) rfl) rfl
theorem ly_3_4 : u_lay RX3 TX3 4 ∈ uT := uM2 (List.mem_of_getElem? (i := 81) rfl) rfl
theorem inU_3 : ∀ w ∈ u_ws RX3 TX3 5, w ∈ uT := by
  intro w hw
  obtain ⟨k, hk, rfl⟩ := List.mem_map.mp hw
  have h := List.mem_range.mp hk
  rcases (show k = 0 ∨ k = 1 ∨ k = 2 ∨ k = 3 ∨ k = 4 by omega) with rfl | rfl | rfl | rfl | rfl
  · exact ly_3_0
  · exact ly_3_1
  · exact ly_3_2
  · exact ly_3_3
  · exact ly_3_4
theorem ly_4_0 : u_lay RX4 TX4 0 ∈ uT := uM1 (List.mem_of_getElem? (i := 223) rfl) rfl
theorem ly_4_1 : u_lay RX4 TX4 1 ∈ uT := uM1 (List.mem_of_getElem? (i := 225) rfl) rfl
theorem ly_4_2 : u_lay RX4 TX4 2 ∈ uT := uM1 (List.mem_of_getElem? (i := 227) rfl) rfl
theorem ly_4_3 : u_lay RX4 TX4 3 ∈ uT := uM1 (List.mem_of_getElem? (i := 229) rfl) rfl
theorem inU_4 : ∀ w ∈ u_ws RX4 TX4 4, w ∈ uT := by
  intro w hw
  obtain ⟨k, hk, rfl⟩ := List.mem_map.mp hw
  have h := List.mem_range.mp hk
  rcases (show k = 0 ∨ k = 1 ∨ k = 2 ∨ k = 3 by omega) with rfl | rfl | rfl | rfl
  · exact ly_4_0
  · exact ly_4_1
  · exact ly_4_2
  · exact ly_4_3
theorem ly_5_0 : u_lay RX5 TX5 0 ∈ uT := uM2 (List.mem_of_getElem? (i := 24) rfl) rfl
theorem ly_5_1 : u_lay RX5 TX5 1 ∈ uT := uM2 (List.mem_of_getElem? (i := 26) rfl) rfl
theorem ly_5_2 : u_lay RX5 TX5 2 ∈ uT := uM2 (List.mem_of_getElem? (i := 28) rfl) rfl
theorem ly_5_3 : u_lay RX5 TX5 3 ∈ uT := uM2 (List.mem_of_getElem? (i := 30) rfl) rfl
theorem inU_5 : ∀ w ∈ u_ws RX5 TX5 4, w ∈ uT := by
  intro w hw
  obtain ⟨k, hk, rfl⟩ := List.mem_map.mp hw
  have h := List.mem_range.mp hk
  rcases (show k = 0 ∨ k = 1 ∨ k = 2 ∨ k = 3 by omega) with rfl | rfl | rfl | rfl
  · exact ly_5_0
  · exact ly_5_1
  · exact ly_5_2
  · exact ly_5_3
theorem ly_6_0 : u_lay RX6 TX6 0 ∈ uT := uM1 (List.mem_of_getElem? (i := 89) rfl) rfl
theorem ly_6_1 : u_lay RX6 TX6 1 ∈ uT := uM1 (List.mem_of_getElem? (i := 91) rfl) rfl
theorem ly_6_2 : u_lay RX6 TX6 2 ∈ uT := uM1 (List.mem_of_getElem? (i := 93) rfl) rfl
theorem ly_6_3 : u_lay RX6 TX6 3 ∈ uT := uM1 (List.mem_of_getElem? (i := 95) rfl) rfl
theorem ly_6_4 : u_lay RX6 TX6 4 ∈ uT := uM1 (List.mem_of_getElem? (i := 97) rfl) rfl
theorem ly_6_5 : u_lay RX6 TX6 5 ∈ uT := uM1 (List.mem_of_getElem? (i := 99) rfl) rfl
theorem ly_6_6 : u_lay RX6 TX6 6 ∈ uT := uM1 (List.mem_of_getElem? (i := 101) rfl) rfl
theorem ly_6_7 : u_lay RX6 TX6 7 ∈ uT := uM1 (List.mem_of_getElem? (i := 103) rfl) rfl
theorem ly_6_8 : u_lay RX6 TX6 8 ∈ uT := uM1 (List.mem_of_getElem? (i := 105) rfl) rfl
theorem inU_6 : ∀ w ∈ u_ws RX6 TX6 9, w ∈ uT := by
  intro w hw
  obtain ⟨k, hk, rfl⟩ := List.mem_map.mp hw
  have h := List.mem_range.mp hk
  rcases (show k = 0 ∨ k = 1 ∨ k = 2 ∨ k = 3 ∨ k = 4 ∨ k = 5 ∨ k = 6 ∨ k = 7 ∨ k = 8 by omega) with rfl | rfl | rfl | rfl | rfl | rfl | rfl | rfl | rfl
  · exact ly_6_0
  · exact ly_6_1
  · exact ly_6_2
  · exact ly_6_3
  · exact ly_6_4
  · exact ly_6_5
  · exact ly_6_6
  · exact ly_6_7
  · exact ly_6_8
theorem ly_7_0 : u_lay RX7 TX7 0 ∈ uT := uM2 (List.mem_of_getElem? (i := 43) rfl) rfl
theorem ly_7_1 : u_lay RX7 TX7 1 ∈ uT := uM2 (List.mem_of_getElem? (i := 45) rfl) rfl
theorem ly_7_2 : u_lay RX7 TX7 2 ∈ uT := uM2 (List.mem_of_getElem? (i := 47) rfl) rfl
theorem ly_7_3 : u_lay RX7 TX7 3 ∈ uT := uM2 (List.mem_of_getElem? (i := 49) rfl) rfl
theorem ly_7_4 : u_lay RX7 TX7 4 ∈ uT := uM2 (List.mem_of_getElem? (i := 51) rfl) rfl
theorem inU_7 : ∀ w ∈ u_ws RX7 TX7 5, w ∈ uT := by
  intro w hw
  obtain ⟨k, hk, rfl⟩ := List.mem_map.mp hw
  have h := List.mem_range.mp hk
  rcases (show k = 0 ∨ k = 1 ∨ k = 2 ∨ k = 3 ∨ k = 4 by omega) with rfl | rfl | rfl | rfl | rfl
  · exact ly_7_0
  · exact ly_7_1
  · exact ly_7_2
  · exact ly_7_3
  · exact ly_7_4
theorem ly_8_0 : u_lay RX8 TX8 0 ∈ uT := uM1 (List.mem_of_getElem? (i := 42) rfl) rfl
theorem inU_8 : ∀ w ∈ u_ws RX8 TX8 1, w ∈ uT := by
  intro w hw
  obtain ⟨k, hk, rfl⟩ := List.mem_map.mp hw
  have h := List.mem_range.mp hk
  rcases (show k = 0 by omega) with rfl
  · exact ly_8_0
theorem ly_9_0 : u_lay RX9 TX9 0 ∈ uT := uM1 (List.mem_of_getElem? (i := 67) rfl) rfl
theorem ly_9_1 : u_lay RX9 TX9 1 ∈ uT := uM1 (List.mem_of_getElem? (i := 69) rfl) rfl
theorem ly_9_2 : u_lay RX9 TX9 2 ∈ uT := uM1 (List.mem_of_getElem? (i := 71) rfl) rfl
theorem ly_9_3 : u_lay RX9 TX9 3 ∈ uT := uM1 (List.mem_of_getElem? (i := 73) rfl) rfl
theorem inU_9 : ∀ w ∈ u_ws RX9 TX9 4, w ∈ uT := by
  intro w hw
  obtain ⟨k, hk, rfl⟩ := List.mem_map.mp hw
  have h := List.mem_range.mp hk
  rcases (show k = 0 ∨ k = 1 ∨ k = 2 ∨ k = 3 by omega) with rfl | rfl | rfl | rfl
  · exact ly_9_0
  · exact ly_9_1
  · exact ly_9_2
  · exact ly_9_3
theorem ly_10_0 : u_lay RX10 TX10 0 ∈ uT := uM2 (List.mem_of_getElem? (i := 95) rfl) rfl
theorem ly_10_1 : u_lay RX10 TX10 1 ∈ uT := uM2 (List.mem_of_getElem? (i := 97) rfl) rfl
theorem ly_10_2 : u_lay RX10 TX10 2 ∈ uT := uM2 (List.mem_of_getElem? (i := 99) rfl) rfl
theorem ly_10_3 : u_lay RX10 TX10 3 ∈ uT := uM2 (List.mem_of_getElem? (i := 101) rfl) rfl
theorem ly_10_4 : u_lay RX10 TX10 4 ∈ uT := uM2 (List.mem_of_getElem? (i := 103) rfl) rfl
theorem ly_10_5 : u_lay RX10 TX10 5 ∈ uT := uM2 (List.mem_of_getElem? (i := 105) rfl) rfl
theorem ly_10_6 : u_lay RX10 TX10 6 ∈ uT := uM2 (List.mem_of_getElem? (i := 107) rfl) rfl
theorem ly_10_7 : u_lay RX10 TX10 7 ∈ uT := uM2 (List.mem_of_getElem? (i := 109) rfl) rfl
theorem ly_10_8 : u_lay RX10 TX10 8 ∈ uT := uM2 (List.mem_of_getElem? (i := 111) rfl) rfl
theorem ly_10_9 : u_lay RX10 TX10 9 ∈ uT := uM2 (List.mem_of_getElem? (i := 113) rfl) rfl
theorem ly_10_10 : u_lay RX10 TX10 10 ∈ uT := uM2 (List.mem_of_getElem? (i := 115) rfl) rfl
theorem inU_10 : ∀ w ∈ u_ws RX10 TX10 11, w ∈ uT := by
  intro w hw
  obtain ⟨k, hk, rfl⟩ := List.mem_map.mp hw
  have h := List.mem_range.mp hk
  rcases (show k = 0 ∨ k = 1 ∨ k = 2 ∨ k = 3 ∨ k = 4 ∨ k = 5 ∨ k = 6 ∨ k = 7 ∨ k = 8 ∨ k = 9 ∨ k = 10 by omega) with rfl | rfl | rfl | rfl | rfl | rfl | rfl | rfl | rfl | rfl | rfl
  · exact ly_10_0
  · exact ly_10_1
  · exact ly_10_2
  · exact ly_10_3
  · exact ly_10_4
  · exact ly_10_5
  · exact ly_10_6
  · exact ly_10_7
  · exact ly_10_8
  · exact ly_10_9
  · exact ly_10_10
theorem ly_11_0 : u_lay RX11 TX11 0 ∈ uT := uM5 (List.mem_of_getElem? (i := 138) rfl) rfl
theorem ly_11_1 : u_lay RX11 TX11 1 ∈ uT := uM5 (List.mem_of_getElem? (i := 140) rfl) rfl
theorem ly_11_2 : u_lay RX11 TX11 2 ∈ uT := uM5 (List.mem_of_getElem? (i := 142) rfl) rfl
theorem ly_11_3 : u_lay RX11 TX11 3 ∈ uT := uM5 (List.mem_of_getElem? (i := 144) rfl) rfl
theorem ly_11_4 : u_lay RX11 TX11 4 ∈ uT := uM5 (List.mem_of_getElem? (i := 146) rfl) rfl
theorem ly_11_5 : u_lay RX11 TX11 5 ∈ uT := uM5 (List.mem_of_getElem? (i := 148) rfl) rfl
theorem ly_11_6 : u_lay RX11 TX11 6 ∈ uT := uM5 (List.mem_of_getElem? (i := 150) rfl) rfl
theorem ly_11_7 : u_lay RX11 TX11 7 ∈ uT := uM5 (List.mem_of_getElem? (i := 152) rfl) rfl
theorem ly_11_8 : u_lay RX11 TX11 8 ∈ uT := uM5 (List.mem_of_getElem? (i := 154) rfl) rfl
theorem ly_11_9 : u_lay RX11 TX11 9 ∈ uT := uM5 (List.mem_of_getElem? (i := 156) rfl) rfl
theorem ly_11_10 : u_lay RX11 TX11 10 ∈ uT := uM5 (List.mem_of_getElem? (i := 158) rfl) rfl
theorem ly_11_11 : u_lay RX11 TX11 11 ∈ uT := uM5 (List.mem_of_getElem? (i := 160) rfl) rfl
theorem ly_11_12 : u_lay RX11 TX11 12 ∈ uT := uM5 (List.mem_of_getElem? (i := 162) rfl) rfl
theorem ly_11_13 : u_lay RX11 TX11 13 ∈ uT := uM5 (List.mem_of_getElem? (i := 164) rfl) rfl
theorem ly_11_14 : u_lay RX11 TX11 14 ∈ uT := uM5 (List.mem_of_getElem? (i := 166) rfl) rfl
theorem ly_11_15 : u_lay RX11 TX11 15 ∈ uT := uM5 (List.mem_of_getElem? (i := 168) rfl) rfl
theorem ly_11_16 : u_lay RX11 TX11 16 ∈ uT := uM5 (List.mem_of_getElem? (i := 170) rfl) rfl
theorem ly_11_17 : u_lay RX11 TX11 17 ∈ uT := uM5 (List.mem_of_getElem? (i := 172) rfl) rfl
theorem ly_11_18 : u_lay RX11 TX11 18 ∈ uT := uM5 (List.mem_of_getElem? (i := 174) rfl) rfl
theorem ly_11_19 : u_lay RX11 TX11 19 ∈ uT := uM5 (List.mem_of_getElem? (i := 176) rfl) rfl
theorem ly_11_20 : u_lay RX11 TX11 20 ∈ uT := uM5 (List.mem_of_getElem? (i := 178) rfl) rfl
theorem ly_11_21 : u_lay RX11 TX11 21 ∈ uT := uM5 (List.mem_of_getElem? (i := 180) rfl) rfl
theorem ly_11_22 : u_lay RX11 TX11 22 ∈ uT := uM5 (List.mem_of_getElem? (i := 182) rfl) rfl
theorem ly_11_23 : u_lay RX11 TX11 23 ∈ uT := uM5 (List.mem_of_getElem? (i := 184) rfl) rfl
theorem ly_11_24 : u_lay RX11 TX11 24 ∈ uT := uM5 (List.mem_of_getElem? (i := 186) rfl) rfl
theorem ly_11_25 : u_lay RX11 TX11 25 ∈ uT := uM5 (List.mem_of_getElem? (i := 188) rfl) rfl
theorem ly_11_26 : u_lay RX11 TX11 26 ∈ uT := uM5 (List.mem_of_getElem? (i := 190) rfl) rfl
theorem ly_11_27 : u_lay RX11 TX11 27 ∈ uT := uM5 (List.mem_of_getElem? (i := 192) rfl) rfl
theorem ly_11_28 : u_lay RX11 TX11 28 ∈ uT := uM5 (List.mem_of_getElem? (i := 194) rfl) rfl
theorem ly_11_29 : u_lay RX11 TX11 29 ∈ uT := uM5 (List.mem_of_getElem? (i := 196) rfl) rfl
theorem ly_11_30 : u_lay RX11 TX11 30 ∈ uT := uM5 (List.mem_of_getElem? (i := 198) rfl) rfl
theorem ly_11_31 : u_lay RX11 TX11 31 ∈ uT := uM5 (List.mem_of_getElem? (i := 200) rfl) rfl
theorem ly_11_32 : u_lay RX11 TX11 32 ∈ uT := uM5 (List.mem_of_getElem? (i := 202) rfl) rfl
theorem ly_11_33 : u_lay RX11 TX11 33 ∈ uT := uM5 (List.mem_of_getElem? (i := 204) rfl) rfl
theorem ly_11_34 : u_lay RX11 TX11 34 ∈ uT := uM5 (List.mem_of_getElem? (i := 206) rfl) rfl
theorem ly_11_35 : u_lay RX11 TX11 35 ∈ uT := uM5 (List.mem_of_getElem? (i := 208) rfl) rfl
theorem ly_11_36 : u_lay RX11 TX11 36 ∈ uT := uM5 (List.mem_of_getElem? (i := 210) rfl) rfl
theorem ly_11_37 : u_lay RX11 TX11 37 ∈ uT := uM5 (List.mem_of_getElem? (i := 212) rfl) rfl
theorem ly_11_38 : u_lay RX11 TX11 38 ∈ uT := uM5 (List.mem_of_getElem? (i := 214) rfl) rfl
theorem ly_11_39 : u_lay RX11 TX11 39 ∈ uT := uM5 (List.mem_of_getElem? (i := 216) rfl) rfl
theorem ly_11_40 : u_lay RX11 TX11 40 ∈ uT := uM5 (List.mem_of_getElem? (i := 218) rfl) rfl
theorem ly_11_41 : u_lay RX11 TX11 41 ∈ uT := uM5 (List.mem_of_getElem? (i := 220) rfl) rfl
theorem inU_11 : ∀ w ∈ u_ws RX11 TX11 42, w ∈ uT := by
  intro w hw
  obtain ⟨k, hk, rfl⟩ := List.mem_map.mp hw
  have h := List.mem_range.mp hk
  rcases (show k = 0 ∨ k = 1 ∨ k = 2 ∨ k = 3 ∨ k = 4 ∨ k = 5 ∨ k = 6 ∨ k = 7 ∨ k = 8 ∨ k = 9 ∨ k = 10 ∨ k = 11 ∨ k = 12 ∨ k = 13 ∨ k = 14 ∨ k = 15 ∨ k = 16 ∨ k = 17 ∨ k = 18 ∨ k = 19 ∨ k = 20 ∨ k = 21 ∨ k = 22 ∨ k = 23 ∨ k = 24 ∨ k = 25 ∨ k = 26 ∨ k = 27 ∨ k = 28 ∨ k = 29 ∨ k = 30 ∨ k = 31 ∨ k = 32 ∨ k = 33 ∨ k = 34 ∨ k = 35 ∨ k = 36 ∨ k = 37 ∨ k = 38 ∨ k = 39 ∨ k = 40 ∨ k = 41 by omega) with rfl | rfl | rfl | rfl | rfl | rfl | rfl | rfl | rfl | rfl | rfl | rfl | rfl | rfl | rfl | rfl | rfl | rfl | rfl | rfl | rfl | rfl | rfl | rfl | rfl | rfl | rfl | rfl | rfl | rfl | rfl | rfl | rfl | rfl | rfl | rfl | rfl | rfl | rfl | rfl | rfl | rfl
  · exact ly_11_0
  · exact ly_11_1
  · exact ly_11_2
  · exact ly_11_3
  · exact ly_11_4
  · exact ly_11_5
  · exact ly_11_6
  · exact ly_11_7
  · exact ly_11_8
  · exact ly_11_9
  · exact ly_11_10
  · exact ly_11_11
  · exact ly_11_12
  · exact ly_11_13
  · exact ly_11_14
  · exact ly_11_15
  · exact ly_11_16
  · exact ly_11_17
  · exact ly_11_18
  · exact ly_11_19
  · exact ly_11_20
  · exact ly_11_21
  · exact ly_11_22
  · exact ly_11_23
  · exact ly_11_24
  · exact ly_11_25
  · exact ly_11_26
  · exact ly_11_27
  · exact ly_11_28
  · exact ly_11_29
  · exact ly_11_30
  · exact ly_11_31
  · exact ly_11_32
  · exact ly_11_33
  · exact ly_11_34
  · exact ly_11_35
  · exact ly_11_36
  · exact ly_11_37
  · exact ly_11_38
  · exact ly_11_39
  · exact ly_11_40
  · exact ly_11_41
theorem cd_J0_charAt_5068e : Cond.code yJ0_charAt_5068e cJ0_charAt_5068e 2 (some .char) ∈ uT := uM3 (List.mem_of_getElem? (i := 69) rfl) rfl
theorem cd_J0_length_8abf5 : Cond.code yJ0_length_8abf5 cJ0_length_8abf5 1 (some .int) ∈ uT := uM3 (List.mem_of_getElem? (i := 59) rfl) rfl
theorem cd_L_barred : Cond.codeWith yL_barred cL_barred 9 (some .int) [(0, 18, 21, 35), (0, 18, 25, 13)] ∈ uT := uM4 (List.mem_of_getElem? (i := 160) rfl) rfl
theorem cd_L_blows : Cond.codeWith yL_blows cL_blows 6 (some .int) [(0, 12, 15, 26), (0, 12, 19, 13)] ∈ uT := uM5 (List.mem_of_getElem? (i := 19) rfl) rfl
theorem cd_L_bridge : Cond.codeWith yL_bridge cL_bridge 4 (some .int) [(0, 9, 12, 13)] ∈ uT := uM5 (List.mem_of_getElem? (i := 7) rfl) rfl
theorem cd_L_calm : Cond.codeWith yL_calm cL_calm 5 (some .int) [(0, 17, 20, 35), (0, 17, 24, 13)] ∈ uT := uM4 (List.mem_of_getElem? (i := 187) rfl) rfl
theorem cd_L_could : Cond.codeWith yL_could cL_could 4 (some .int) [(0, 9, 12, 13)] ∈ uT := uM5 (List.mem_of_getElem? (i := 71) rfl) rfl
theorem cd_L_deck : Cond.codeWith yL_deck cL_deck 4 (some .int) [(0, 9, 12, 13)] ∈ uT := uM3 (List.mem_of_getElem? (i := 152) rfl) rfl
theorem cd_L_film : Cond.codeWith yL_film cL_film 7 (some .int) [(0, 14, 17, 26), (0, 14, 21, 13)] ∈ uT := uM4 (List.mem_of_getElem? (i := 146) rfl) rfl
theorem cd_L_first : Cond.codeWith yL_first cL_first 8 (some .int) [(0, 16, 19, 35), (0, 16, 23, 13)] ∈ uT := uM4 (List.mem_of_getElem? (i := 113) rfl) rfl
theorem cd_L_go : Cond.codeWith yL_go cL_go 6 (some .int) [(0, 12, 15, 35), (0, 12, 19, 13)] ∈ uT := uM3 (List.mem_of_getElem? (i := 227) rfl) rfl
theorem cd_L_grows : Cond.codeWith yL_grows cL_grows 7 (some .int) [(0, 21, 24, 35), (0, 21, 28, 13)] ∈ uT := uM4 (List.mem_of_getElem? (i := 78) rfl) rfl
theorem cd_L_hours : Cond.codeWith yL_hours cL_hours 4 (some .int) [(0, 9, 12, 26)] ∈ uT := uM5 (List.mem_of_getElem? (i := 36) rfl) rfl
theorem cd_L_known : Cond.codeWith yL_known cL_known 4 (some .int) [(0, 9, 12, 13)] ∈ uT := uM5 (List.mem_of_getElem? (i := 59) rfl) rfl
theorem cd_L_law : Cond.codeWith yL_law cL_law 4 (some .int) [(0, 9, 12, 13)] ∈ uT := uM2 (List.mem_of_getElem? (i := 193) rfl) rfl
theorem cd_L_line : Cond.codeWith yL_line cL_line 6 (some .int) [(0, 12, 15, 35), (0, 12, 19, 13)] ∈ uT := uM4 (List.mem_of_getElem? (i := 95) rfl) rfl
theorem cd_L_mend : Cond.codeWith yL_mend cL_mend 6 (some .int) [(0, 12, 15, 13)] ∈ uT := uM4 (List.mem_of_getElem? (i := 173) rfl) rfl
theorem cd_L_mended : Cond.codeWith yL_mended cL_mended 5 (some .int) [(0, 10, 13, 35), (0, 10, 17, 13)] ∈ uT := uM4 (List.mem_of_getElem? (i := 198) rfl) rfl
theorem cd_L_paper : Cond.codeWith yL_paper cL_paper 6 (some .int) [(0, 12, 15, 13)] ∈ uT := uM5 (List.mem_of_getElem? (i := 47) rfl) rfl
theorem cd_L_piece : Cond.codeWith yL_piece cL_piece 5 (some .int) [(0, 10, 13, 26), (0, 10, 17, 13)] ∈ uT := uM4 (List.mem_of_getElem? (i := 61) rfl) rfl
theorem cd_L_push : Cond.codeWith yL_push cL_push 7 (some .int) [(0, 14, 17, 35), (0, 14, 21, 26), (0, 14, 25, 13)] ∈ uT := uM4 (List.mem_of_getElem? (i := 69) rfl) rfl
theorem cd_L_set : Cond.codeWith yL_set cL_set 5 (some .int) [(0, 10, 13, 13)] ∈ uT := uM3 (List.mem_of_getElem? (i := 160) rfl) rfl
theorem cd_L_shape : Cond.codeWith yL_shape cL_shape 6 (some .int) [(0, 12, 15, 13)] ∈ uT := uM3 (List.mem_of_getElem? (i := 205) rfl) rfl
theorem cd_L_shut : Cond.codeWith yL_shut cL_shut 9 (some .int) [(0, 18, 21, 35), (0, 18, 25, 13)] ∈ uT := uM5 (List.mem_of_getElem? (i := 83) rfl) rfl
theorem cd_L_slip : Cond.codeWith yL_slip cL_slip 6 (some .int) [(0, 12, 15, 35), (0, 12, 19, 13)] ∈ uT := uM4 (List.mem_of_getElem? (i := 135) rfl) rfl
theorem cd_L_span : Cond.codeWith yL_span cL_span 8 (some .int) [(0, 16, 19, 35), (0, 16, 23, 13)] ∈ uT := uM4 (List.mem_of_getElem? (i := 237) rfl) rfl
theorem cd_L_stay : Cond.codeWith yL_stay cL_stay 5 (some .int) [(0, 10, 13, 26)] ∈ uT := uM3 (List.mem_of_getElem? (i := 177) rfl) rfl
theorem cd_L_week : Cond.codeWith yL_week cL_week 5 (some .int) [(0, 10, 13, 35), (0, 10, 17, 13)] ∈ uT := uM4 (List.mem_of_getElem? (i := 225) rfl) rfl
theorem cd_L_where : Cond.codeWith yL_where cL_where 8 (some .int) [(0, 16, 19, 35), (0, 16, 23, 13)] ∈ uT := uM4 (List.mem_of_getElem? (i := 128) rfl) rfl
theorem cd_L_why : Cond.codeWith yL_why cL_why 7 (some .int) [(0, 14, 17, 35), (0, 14, 21, 13)] ∈ uT := uM4 (List.mem_of_getElem? (i := 106) rfl) rfl
theorem cd_X0_add : Cond.code yX0_add cX0_add 3 (some .int) ∈ uT := uM5 (List.mem_of_getElem? (i := 15) rfl) rfl
theorem cd_X0_change : Cond.code yX0_change cX0_change 5 (some .int) ∈ uT := uM5 (List.mem_of_getElem? (i := 32) rfl) rfl
theorem cd_X0_copy : Cond.code yX0_copy cX0_copy 2 none ∈ uT := uM2 (List.mem_of_getElem? (i := 160) rfl) rfl
theorem cd_X0_hoursOf : Cond.code yX0_hoursOf cX0_hoursOf 4 (some .int) ∈ uT := uM5 (List.mem_of_getElem? (i := 44) rfl) rfl
theorem cd_X10_barred : Cond.code yX10_barred cX10_barred 11 (some .int) ∈ uT := uM4 (List.mem_of_getElem? (i := 164) rfl) rfl
theorem cd_X10_bestMend : Cond.code yX10_bestMend cX10_bestMend 7 (some .int) ∈ uT := uM4 (List.mem_of_getElem? (i := 233) rfl) rfl
theorem cd_X10_blows : Cond.code yX10_blows cX10_blows 4 (some .int) ∈ uT := uM5 (List.mem_of_getElem? (i := 23) rfl) rfl
theorem cd_X10_bounded : Cond.code yX10_bounded cX10_bounded 3 (some .int) ∈ uT := uM4 (List.mem_of_getElem? (i := 39) rfl) rfl
theorem cd_X10_bridge : Cond.code yX10_bridge cX10_bridge 2 (some .int) ∈ uT := uM5 (List.mem_of_getElem? (i := 11) rfl) rfl
theorem cd_X10_calm : Cond.code yX10_calm cX10_calm 4 (some .boolean) ∈ uT := uM4 (List.mem_of_getElem? (i := 191) rfl) rfl
theorem cd_X10_could : Cond.code yX10_could cX10_could 2 (some .int) ∈ uT := uM5 (List.mem_of_getElem? (i := 75) rfl) rfl
theorem cd_X10_count : Cond.code yX10_count cX10_count 2 (some .int) ∈ uT := uM2 (List.mem_of_getElem? (i := 174) rfl) rfl
theorem cd_X10_deck : Cond.code yX10_deck cX10_deck 3 (some .int) ∈ uT := uM3 (List.mem_of_getElem? (i := 156) rfl) rfl
theorem cd_X10_demand : Cond.code yX10_demand cX10_demand 1 none ∈ uT := uM2 (List.mem_of_getElem? (i := 201) rfl) rfl
theorem cd_X10_demandBridge : Cond.code yX10_demandBridge cX10_demandBridge 2 none ∈ uT := uM5 (List.mem_of_getElem? (i := 27) rfl) rfl
theorem cd_X10_demandPiece : Cond.code yX10_demandPiece cX10_demandPiece 2 none ∈ uT := uM3 (List.mem_of_getElem? (i := 186) rfl) rfl
theorem cd_X10_demandShape : Cond.code yX10_demandShape cX10_demandShape 2 none ∈ uT := uM3 (List.mem_of_getElem? (i := 212) rfl) rfl
theorem cd_X10_demandWind : Cond.code yX10_demandWind cX10_demandWind 1 none ∈ uT := uM4 (List.mem_of_getElem? (i := 15) rfl) rfl
theorem cd_X10_fault : Cond.code yX10_fault cX10_fault 1 (some .int) ∈ uT := uM2 (List.mem_of_getElem? (i := 130) rfl) rfl
theorem cd_X10_feed : Cond.code yX10_feed cX10_feed 6 (some .int) ∈ uT := uM2 (List.mem_of_getElem? (i := 121) rfl) rfl
theorem cd_X10_film : Cond.code yX10_film cX10_film 5 (some .int) ∈ uT := uM4 (List.mem_of_getElem? (i := 150) rfl) rfl
theorem cd_X10_first : Cond.code yX10_first cX10_first 7 (some .int) ∈ uT := uM4 (List.mem_of_getElem? (i := 117) rfl) rfl
theorem cd_X10_go : Cond.code yX10_go cX10_go 6 (some .int) ∈ uT := uM3 (List.mem_of_getElem? (i := 232) rfl) rfl
theorem cd_X10_grows : Cond.code yX10_grows cX10_grows 6 (some .boolean) ∈ uT := uM4 (List.mem_of_getElem? (i := 82) rfl) rfl
theorem cd_X10_hours : Cond.code yX10_hours cX10_hours 2 (some .int) ∈ uT := uM5 (List.mem_of_getElem? (i := 40) rfl) rfl
theorem cd_X10_image : Cond.code yX10_image cX10_image 2 (some .int) ∈ uT := uM2 (List.mem_of_getElem? (i := 134) rfl) rfl
theorem cd_X10_known : Cond.code yX10_known cX10_known 2 (some .int) ∈ uT := uM5 (List.mem_of_getElem? (i := 63) rfl) rfl
theorem cd_X10_law : Cond.code yX10_law cX10_law 3 (some .int) ∈ uT := uM2 (List.mem_of_getElem? (i := 198) rfl) rfl
theorem cd_X10_lawNumbered : Cond.code yX10_lawNumbered cX10_lawNumbered 3 (some (.object "GallopRoads$Law")) ∈ uT := uM3 (List.mem_of_getElem? (i := 236) rfl) rfl
theorem cd_X10_leastLine : Cond.code yX10_leastLine cX10_leastLine 2 (some .int) ∈ uT := uM5 (List.mem_of_getElem? (i := 4) rfl) rfl
theorem cd_X10_leastOf : Cond.code yX10_leastOf cX10_leastOf 1 (some .int) ∈ uT := uM3 (List.mem_of_getElem? (i := 167) rfl) rfl
theorem cd_X10_line : Cond.code yX10_line cX10_line 5 (some .int) ∈ uT := uM4 (List.mem_of_getElem? (i := 99) rfl) rfl
theorem cd_X10_lineBy : Cond.code yX10_lineBy cX10_lineBy 6 (some .int) ∈ uT := uM4 (List.mem_of_getElem? (i := 103) rfl) rfl
theorem cd_X10_mend : Cond.code yX10_mend cX10_mend 4 (some .int) ∈ uT := uM4 (List.mem_of_getElem? (i := 177) rfl) rfl
theorem cd_X10_mended : Cond.code yX10_mended cX10_mended 8 (some .int) ∈ uT := uM4 (List.mem_of_getElem? (i := 202) rfl) rfl
theorem cd_X10_mostOf : Cond.code yX10_mostOf cX10_mostOf 1 (some .int) ∈ uT := uM3 (List.mem_of_getElem? (i := 172) rfl) rfl
theorem cd_X10_paper : Cond.code yX10_paper cX10_paper 4 (some .int) ∈ uT := uM5 (List.mem_of_getElem? (i := 51) rfl) rfl
theorem cd_X10_piece : Cond.code yX10_piece cX10_piece 3 (some .int) ∈ uT := uM4 (List.mem_of_getElem? (i := 65) rfl) rfl
theorem cd_X10_push : Cond.code yX10_push cX10_push 6 (some .int) ∈ uT := uM4 (List.mem_of_getElem? (i := 73) rfl) rfl
theorem cd_X10_putOnTape : Cond.code yX10_putOnTape cX10_putOnTape 3 none ∈ uT := uM2 (List.mem_of_getElem? (i := 125) rfl) rfl
theorem cd_X10_restore : Cond.code yX10_restore cX10_restore 2 (some .int) ∈ uT := uM2 (List.mem_of_getElem? (i := 170) rfl) rfl
theorem cd_X10_runTillBroken : Cond.code yX10_runTillBroken cX10_runTillBroken 7 (some .int) ∈ uT := uM4 (List.mem_of_getElem? (i := 121) rfl) rfl
theorem cd_X10_set : Cond.code yX10_set cX10_set 4 (some .int) ∈ uT := uM3 (List.mem_of_getElem? (i := 164) rfl) rfl
theorem cd_X10_shape : Cond.code yX10_shape cX10_shape 4 (some .int) ∈ uT := uM3 (List.mem_of_getElem? (i := 209) rfl) rfl
theorem cd_X10_shut : Cond.code yX10_shut cX10_shut 9 (some .int) ∈ uT := uM5 (List.mem_of_getElem? (i := 87) rfl) rfl
theorem cd_X10_slip : Cond.code yX10_slip cX10_slip 7 (some .int) ∈ uT := uM4 (List.mem_of_getElem? (i := 139) rfl) rfl
theorem cd_X10_span : Cond.code yX10_span cX10_span 10 (some .int) ∈ uT := uM5 (List.mem_of_getElem? (i := 1) rfl) rfl
theorem cd_X10_stay : Cond.code yX10_stay cX10_stay 4 (some .int) ∈ uT := uM3 (List.mem_of_getElem? (i := 182) rfl) rfl
theorem cd_X10_trialGrows : Cond.code yX10_trialGrows cX10_trialGrows 10 (some .boolean) ∈ uT := uM4 (List.mem_of_getElem? (i := 87) rfl) rfl
theorem cd_X10_trialIsCalmUpTo : Cond.code yX10_trialIsCalmUpTo cX10_trialIsCalmUpTo 7 (some .int) ∈ uT := uM4 (List.mem_of_getElem? (i := 195) rfl) rfl
theorem cd_X10_week : Cond.code yX10_week cX10_week 7 (some .int) ∈ uT := uM4 (List.mem_of_getElem? (i := 229) rfl) rfl
theorem cd_X10_where : Cond.code yX10_where cX10_where 7 (some .int) ∈ uT := uM4 (List.mem_of_getElem? (i := 132) rfl) rfl
theorem cd_X10_why : Cond.code yX10_why cX10_why 8 (some .int) ∈ uT := uM4 (List.mem_of_getElem? (i := 110) rfl) rfl
theorem cd_X10_within : Cond.code yX10_within cX10_within 3 (some .boolean) ∈ uT := uM2 (List.mem_of_getElem? (i := 177) rfl) rfl
theorem cd_X11_amount : Cond.code yX11_amount cX11_amount 1 (some .int) ∈ uT := uM6 (List.mem_of_getElem? (i := 126) rfl) rfl
theorem cd_X11_ands : Cond.code yX11_ands cX11_ands 1 none ∈ uT := uM6 (List.mem_of_getElem? (i := 77) rfl) rfl
theorem cd_X11_asks : Cond.code yX11_asks cX11_asks 8 none ∈ uT := uM6 (List.mem_of_getElem? (i := 146) rfl) rfl
theorem cd_X11_bad : Cond.code yX11_bad cX11_bad 3 (some .boolean) ∈ uT := uM6 (List.mem_of_getElem? (i := 2) rfl) rfl
theorem cd_X11_badTrial : Cond.code yX11_badTrial cX11_badTrial 5 (some .boolean) ∈ uT := uM6 (List.mem_of_getElem? (i := 179) rfl) rfl
theorem cd_X11_barred : Cond.code yX11_barred cX11_barred 11 (some .int) ∈ uT := uM6 (List.mem_of_getElem? (i := 235) rfl) rfl
theorem cd_X11_begins : Cond.code yX11_begins cX11_begins 5 none ∈ uT := uM6 (List.mem_of_getElem? (i := 187) rfl) rfl
theorem cd_X11_beside : Cond.code yX11_beside cX11_beside 4 (some .int) ∈ uT := uM6 (List.mem_of_getElem? (i := 161) rfl) rfl
theorem cd_X11_blanks : Cond.code yX11_blanks cX11_blanks 1 none ∈ uT := uM6 (List.mem_of_getElem? (i := 6) rfl) rfl
theorem cd_X11_blows : Cond.code yX11_blows cX11_blows 5 (some .int) ∈ uT := uM7 (List.mem_of_getElem? (i := 40) rfl) rfl
theorem cd_X11_bridge : Cond.code yX11_bridge cX11_bridge 3 (some .int) ∈ uT := uM7 (List.mem_of_getElem? (i := 36) rfl) rfl
theorem cd_X11_byteAt : Cond.code yX11_byteAt cX11_byteAt 2 (some .int) ∈ uT := uM6 (List.mem_of_getElem? (i := 10) rfl) rfl
theorem cd_X11_calm : Cond.code yX11_calm cX11_calm 3 (some .boolean) ∈ uT := uM7 (List.mem_of_getElem? (i := 8) rfl) rfl
theorem cd_X11_calmTo : Cond.code yX11_calmTo cX11_calmTo 3 (some .int) ∈ uT := uM7 (List.mem_of_getElem? (i := 28) rfl) rfl
theorem cd_X11_clause : Cond.code yX11_clause cX11_clause 5 none ∈ uT := uM6 (List.mem_of_getElem? (i := 14) rfl) rfl
theorem cd_X11_could : Cond.code yX11_could cX11_could 3 (some .int) ∈ uT := uM7 (List.mem_of_getElem? (i := 64) rfl) rfl
theorem cd_X11_count : Cond.code yX11_count cX11_count 4 (some .int) ∈ uT := uM7 (List.mem_of_getElem? (i := 88) rfl) rfl
theorem cd_X11_deck : Cond.code yX11_deck cX11_deck 5 (some .int) ∈ uT := uM6 (List.mem_of_getElem? (i := 89) rfl) rfl
theorem cd_X11_fault : Cond.code yX11_fault cX11_fault 1 (some .int) ∈ uT := uM6 (List.mem_of_getElem? (i := 85) rfl) rfl
theorem cd_X11_feed : Cond.code yX11_feed cX11_feed 8 (some .int) ∈ uT := uM5 (List.mem_of_getElem? (i := 231) rfl) rfl
theorem cd_X11_film : Cond.code yX11_film cX11_film 5 (some .int) ∈ uT := uM6 (List.mem_of_getElem? (i := 231) rfl) rfl
theorem cd_X11_first : Cond.code yX11_first cX11_first 7 (some .int) ∈ uT := uM6 (List.mem_of_getElem? (i := 211) rfl) rfl
theorem cd_X11_firstOf : Cond.code yX11_firstOf cX11_firstOf 9 (some .int) ∈ uT := uM6 (List.mem_of_getElem? (i := 215) rfl) rfl
theorem cd_X11_go : Cond.code yX11_go cX11_go 5 (some .int) ∈ uT := uM6 (List.mem_of_getElem? (i := 130) rfl) rfl
theorem cd_X11_grows : Cond.code yX11_grows cX11_grows 5 (some .boolean) ∈ uT := uM6 (List.mem_of_getElem? (i := 175) rfl) rfl
theorem cd_X11_growsBy : Cond.code yX11_growsBy cX11_growsBy 10 (some .boolean) ∈ uT := uM6 (List.mem_of_getElem? (i := 183) rfl) rfl
theorem cd_X11_highest : Cond.code yX11_highest cX11_highest 1 (some .int) ∈ uT := uM6 (List.mem_of_getElem? (i := 99) rfl) rfl
theorem cd_X11_hours : Cond.code yX11_hours cX11_hours 4 (some .int) ∈ uT := uM7 (List.mem_of_getElem? (i := 48) rfl) rfl
theorem cd_X11_image : Cond.code yX11_image cX11_image 1 (some .int) ∈ uT := uM7 (List.mem_of_getElem? (i := 68) rfl) rfl
theorem cd_X11_in : Cond.code yX11_in cX11_in 3 (some .boolean) ∈ uT := uM5 (List.mem_of_getElem? (i := 238) rfl) rfl
theorem cd_X11_isBridge : Cond.code yX11_isBridge cX11_isBridge 2 (some .boolean) ∈ uT := uM7 (List.mem_of_getElem? (i := 44) rfl) rfl
theorem cd_X11_isCalm : Cond.code yX11_isCalm cX11_isCalm 5 (some .boolean) ∈ uT := uM7 (List.mem_of_getElem? (i := 12) rfl) rfl
theorem cd_X11_isDigit : Cond.code yX11_isDigit cX11_isDigit 1 (some .boolean) ∈ uT := uM6 (List.mem_of_getElem? (i := 48) rfl) rfl
theorem cd_X11_isLaw : Cond.code yX11_isLaw cX11_isLaw 2 (some .boolean) ∈ uT := uM6 (List.mem_of_getElem? (i := 134) rfl) rfl
theorem cd_X11_isPiece : Cond.code yX11_isPiece cX11_isPiece 2 (some .boolean) ∈ uT := uM6 (List.mem_of_getElem? (i := 108) rfl) rfl
theorem cd_X11_isShape : Cond.code yX11_isShape cX11_isShape 2 (some .boolean) ∈ uT := uM6 (List.mem_of_getElem? (i := 115) rfl) rfl
theorem cd_X11_isSo : Cond.code yX11_isSo cX11_isSo 3 (some .int) ∈ uT := uM6 (List.mem_of_getElem? (i := 219) rfl) rfl
theorem cd_X11_isWord : Cond.code yX11_isWord cX11_isWord 7 (some .boolean) ∈ uT := uM6 (List.mem_of_getElem? (i := 18) rfl) rfl
theorem cd_X11_known : Cond.code yX11_known cX11_known 2 (some .int) ∈ uT := uM7 (List.mem_of_getElem? (i := 56) rfl) rfl
theorem cd_X11_knownOn : Cond.code yX11_knownOn cX11_knownOn 5 (some .int) ∈ uT := uM7 (List.mem_of_getElem? (i := 60) rfl) rfl
theorem cd_X11_law : Cond.code yX11_law cX11_law 3 (some .int) ∈ uT := uM5 (List.mem_of_getElem? (i := 235) rfl) rfl
theorem cd_X11_lays : Cond.code yX11_lays cX11_lays 3 none ∈ uT := uM6 (List.mem_of_getElem? (i := 191) rfl) rfl
theorem cd_X11_laysBack : Cond.code yX11_laysBack cX11_laysBack 3 none ∈ uT := uM6 (List.mem_of_getElem? (i := 195) rfl) rfl
theorem cd_X11_line : Cond.code yX11_line cX11_line 4 (some .int) ∈ uT := uM6 (List.mem_of_getElem? (i := 199) rfl) rfl
theorem cd_X11_lineOf : Cond.code yX11_lineOf cX11_lineOf 5 (some .int) ∈ uT := uM6 (List.mem_of_getElem? (i := 203) rfl) rfl
theorem cd_X11_lowest : Cond.code yX11_lowest cX11_lowest 1 (some .int) ∈ uT := uM6 (List.mem_of_getElem? (i := 96) rfl) rfl
theorem cd_X11_makes : Cond.code yX11_makes cX11_makes 3 none ∈ uT := uM7 (List.mem_of_getElem? (i := 20) rfl) rfl
theorem cd_X11_mend : Cond.code yX11_mend cX11_mend 4 (some .int) ∈ uT := uM7 (List.mem_of_getElem? (i := 3) rfl) rfl
theorem cd_X11_mended : Cond.code yX11_mended cX11_mended 8 (some .int) ∈ uT := uM7 (List.mem_of_getElem? (i := 16) rfl) rfl
theorem cd_X11_moves : Cond.code yX11_moves cX11_moves 4 (some .int) ∈ uT := uM7 (List.mem_of_getElem? (i := 76) rfl) rfl
theorem cd_X11_movesAll : Cond.code yX11_movesAll cX11_movesAll 4 none ∈ uT := uM7 (List.mem_of_getElem? (i := 72) rfl) rfl
theorem cd_X11_movesRow : Cond.code yX11_movesRow cX11_movesRow 5 none ∈ uT := uM7 (List.mem_of_getElem? (i := 80) rfl) rfl
theorem cd_X11_nameHere : Cond.code yX11_nameHere cX11_nameHere 1 (some .int) ∈ uT := uM6 (List.mem_of_getElem? (i := 61) rfl) rfl
theorem cd_X11_numberHere : Cond.code yX11_numberHere cX11_numberHere 3 none ∈ uT := uM6 (List.mem_of_getElem? (i := 52) rfl) rfl
theorem cd_X11_opens : Cond.code yX11_opens cX11_opens 2 none ∈ uT := uM6 (List.mem_of_getElem? (i := 65) rfl) rfl
theorem cd_X11_ors : Cond.code yX11_ors cX11_ors 1 none ∈ uT := uM6 (List.mem_of_getElem? (i := 73) rfl) rfl
theorem cd_X11_paper : Cond.code yX11_paper cX11_paper 4 (some .int) ∈ uT := uM7 (List.mem_of_getElem? (i := 52) rfl) rfl
theorem cd_X11_piece : Cond.code yX11_piece cX11_piece 3 (some .int) ∈ uT := uM6 (List.mem_of_getElem? (i := 167) rfl) rfl
theorem cd_X11_product : Cond.code yX11_product cX11_product 2 none ∈ uT := uM6 (List.mem_of_getElem? (i := 41) rfl) rfl
theorem cd_X11_pulls : Cond.code yX11_pulls cX11_pulls 5 (some .int) ∈ uT := uM6 (List.mem_of_getElem? (i := 157) rfl) rfl
theorem cd_X11_push : Cond.code yX11_push cX11_push 5 (some .int) ∈ uT := uM6 (List.mem_of_getElem? (i := 171) rfl) rfl
theorem cd_X11_restore : Cond.code yX11_restore cX11_restore 1 (some .int) ∈ uT := uM7 (List.mem_of_getElem? (i := 84) rfl) rfl
theorem cd_X11_set : Cond.code yX11_set cX11_set 4 (some .int) ∈ uT := uM6 (List.mem_of_getElem? (i := 93) rfl) rfl
theorem cd_X11_shape : Cond.code yX11_shape cX11_shape 4 (some .int) ∈ uT := uM6 (List.mem_of_getElem? (i := 112) rfl) rfl
theorem cd_X11_shapes : Cond.code yX11_shapes cX11_shapes 6 none ∈ uT := uM6 (List.mem_of_getElem? (i := 119) rfl) rfl
theorem cd_X11_shut : Cond.code yX11_shut cX11_shut 9 (some .int) ∈ uT := uM6 (List.mem_of_getElem? (i := 239) rfl) rfl
theorem cd_X11_sign : Cond.code yX11_sign cX11_sign 2 none ∈ uT := uM6 (List.mem_of_getElem? (i := 69) rfl) rfl
theorem cd_X11_sizeOf : Cond.code yX11_sizeOf cX11_sizeOf 4 (some .int) ∈ uT := uM6 (List.mem_of_getElem? (i := 123) rfl) rfl
theorem cd_X11_skipWord : Cond.code yX11_skipWord cX11_skipWord 1 none ∈ uT := uM6 (List.mem_of_getElem? (i := 33) rfl) rfl
theorem cd_X11_span : Cond.code yX11_span cX11_span 9 (some .int) ∈ uT := uM7 (List.mem_of_getElem? (i := 32) rfl) rfl
theorem cd_X11_stay : Cond.code yX11_stay cX11_stay 4 (some .int) ∈ uT := uM6 (List.mem_of_getElem? (i := 104) rfl) rfl
theorem cd_X11_sum : Cond.code yX11_sum cX11_sum 2 none ∈ uT := uM6 (List.mem_of_getElem? (i := 37) rfl) rfl
theorem cd_X11_tells : Cond.code yX11_tells cX11_tells 2 none ∈ uT := uM6 (List.mem_of_getElem? (i := 57) rfl) rfl
theorem cd_X11_tellsNames : Cond.code yX11_tellsNames cX11_tellsNames 4 none ∈ uT := uM6 (List.mem_of_getElem? (i := 142) rfl) rfl
theorem cd_X11_test : Cond.code yX11_test cX11_test 2 none ∈ uT := uM6 (List.mem_of_getElem? (i := 81) rfl) rfl
theorem cd_X11_thrown : Cond.code yX11_thrown cX11_thrown 1 (some .int) ∈ uT := uM5 (List.mem_of_getElem? (i := 227) rfl) rfl
theorem cd_X11_tick : Cond.code yX11_tick cX11_tick 7 none ∈ uT := uM6 (List.mem_of_getElem? (i := 138) rfl) rfl
theorem cd_X11_unit : Cond.code yX11_unit cX11_unit 3 none ∈ uT := uM6 (List.mem_of_getElem? (i := 45) rfl) rfl
theorem cd_X11_where : Cond.code yX11_where cX11_where 7 (some .int) ∈ uT := uM6 (List.mem_of_getElem? (i := 223) rfl) rfl
theorem cd_X11_why : Cond.code yX11_why cX11_why 6 (some .int) ∈ uT := uM6 (List.mem_of_getElem? (i := 207) rfl) rfl
theorem cd_X11_within : Cond.code yX11_within cX11_within 3 (some .int) ∈ uT := uM6 (List.mem_of_getElem? (i := 153) rfl) rfl
theorem cd_X11_word : Cond.code yX11_word cX11_word 7 (some .int) ∈ uT := uM6 (List.mem_of_getElem? (i := 25) rfl) rfl
theorem cd_X11_wordHere : Cond.code yX11_wordHere cX11_wordHere 3 (some .int) ∈ uT := uM6 (List.mem_of_getElem? (i := 22) rfl) rfl
theorem cd_X11_worked : Cond.code yX11_worked cX11_worked 3 (some .int) ∈ uT := uM6 (List.mem_of_getElem? (i := 149) rfl) rfl
theorem cd_X11_wrong : Cond.code yX11_wrong cX11_wrong 3 none ∈ uT := uM6 (List.mem_of_getElem? (i := 29) rfl) rfl
theorem cd_X1_begin : Cond.code yX1_begin cX1_begin 5 none ∈ uT := uM4 (List.mem_of_getElem? (i := 91) rfl) rfl
theorem cd_X1_breakWhatGives : Cond.code yX1_breakWhatGives cX1_breakWhatGives 4 none ∈ uT := uM4 (List.mem_of_getElem? (i := 58) rfl) rfl
theorem cd_X1_broken : Cond.code yX1_broken cX1_broken 4 (some .int) ∈ uT := uM2 (List.mem_of_getElem? (i := 185) rfl) rfl
theorem cd_X1_change : Cond.code yX1_change cX1_change 3 none ∈ uT := uM4 (List.mem_of_getElem? (i := 219) rfl) rfl
theorem cd_X1_copy : Cond.code yX1_copy cX1_copy 2 none ∈ uT := uM2 (List.mem_of_getElem? (i := 142) rfl) rfl
theorem cd_X1_dropStays : Cond.code yX1_dropStays cX1_dropStays 1 none ∈ uT := uM4 (List.mem_of_getElem? (i := 143) rfl) rfl
theorem cd_X1_faster : Cond.code yX1_faster cX1_faster 5 (some .int) ∈ uT := uM4 (List.mem_of_getElem? (i := 49) rfl) rfl
theorem cd_X1_isBroken : Cond.code yX1_isBroken cX1_isBroken 3 (some .boolean) ∈ uT := uM2 (List.mem_of_getElem? (i := 189) rfl) rfl
theorem cd_X1_lay : Cond.code yX1_lay cX1_lay 2 none ∈ uT := uM1 (List.mem_of_getElem? (i := 133) rfl) rfl
theorem cd_X1_leastBroken : Cond.code yX1_leastBroken cX1_leastBroken 3 (some .int) ∈ uT := uM4 (List.mem_of_getElem? (i := 125) rfl) rfl
theorem cd_X1_namesOf : Cond.code yX1_namesOf cX1_namesOf 3 (some (.object "GallopRoads$Row")) ∈ uT := uM4 (List.mem_of_getElem? (i := 23) rfl) rfl
theorem cd_X1_pullOf : Cond.code yX1_pullOf cX1_pullOf 8 (some .int) ∈ uT := uM4 (List.mem_of_getElem? (i := 45) rfl) rfl
theorem cd_X1_reach : Cond.code yX1_reach cX1_reach 1 (some .int) ∈ uT := uM4 (List.mem_of_getElem? (i := 52) rfl) rfl
theorem cd_X1_size : Cond.code yX1_size cX1_size 5 (some .int) ∈ uT := uM3 (List.mem_of_getElem? (i := 221) rfl) rfl
theorem cd_X1_still : Cond.code yX1_still cX1_still 1 none ∈ uT := uM1 (List.mem_of_getElem? (i := 137) rfl) rfl
theorem cd_X1_takeShape : Cond.code yX1_takeShape cX1_takeShape 7 none ∈ uT := uM3 (List.mem_of_getElem? (i := 216) rfl) rfl
theorem cd_X1_tick : Cond.code yX1_tick cX1_tick 8 none ∈ uT := uM4 (List.mem_of_getElem? (i := 19) rfl) rfl
theorem cd_X2_add : Cond.code yX2_add cX2_add 5 (some .int) ∈ uT := uM4 (List.mem_of_getElem? (i := 156) rfl) rfl
theorem cd_X2_copy : Cond.code yX2_copy cX2_copy 2 none ∈ uT := uM2 (List.mem_of_getElem? (i := 150) rfl) rfl
theorem cd_X2_firstRowOff : Cond.code yX2_firstRowOff cX2_firstRowOff 8 (some .int) ∈ uT := uM4 (List.mem_of_getElem? (i := 168) rfl) rfl
theorem cd_X3_ofTwo : Cond.code yX3_ofTwo cX3_ofTwo 3 (some .int) ∈ uT := uM4 (List.mem_of_getElem? (i := 32) rfl) rfl
theorem cd_X3_take : Cond.code yX3_take cX3_take 3 none ∈ uT := uM3 (List.mem_of_getElem? (i := 148) rfl) rfl
theorem cd_X3_work : Cond.code yX3_work cX3_work 8 none ∈ uT := uM4 (List.mem_of_getElem? (i := 27) rfl) rfl
theorem cd_X4_add : Cond.code yX4_add cX4_add 4 (some .int) ∈ uT := uM4 (List.mem_of_getElem? (i := 183) rfl) rfl
theorem cd_X4_copy : Cond.code yX4_copy cX4_copy 2 none ∈ uT := uM2 (List.mem_of_getElem? (i := 155) rfl) rfl
theorem cd_X4_costOf : Cond.code yX4_costOf cX4_costOf 4 (some .int) ∈ uT := uM4 (List.mem_of_getElem? (i := 206) rfl) rfl
theorem cd_X4_make : Cond.code yX4_make cX4_make 3 none ∈ uT := uM4 (List.mem_of_getElem? (i := 215) rfl) rfl
theorem cd_X4_makeAll : Cond.code yX4_makeAll cX4_makeAll 4 none ∈ uT := uM4 (List.mem_of_getElem? (i := 211) rfl) rfl
theorem cd_X5_add : Cond.code yX5_add cX5_add 4 (some .int) ∈ uT := uM5 (List.mem_of_getElem? (i := 55) rfl) rfl
theorem cd_X5_copy : Cond.code yX5_copy cX5_copy 2 none ∈ uT := uM2 (List.mem_of_getElem? (i := 165) rfl) rfl
theorem cd_X5_firstDayOf : Cond.code yX5_firstDayOf cX5_firstDayOf 5 (some .int) ∈ uT := uM5 (List.mem_of_getElem? (i := 79) rfl) rfl
theorem cd_X5_knownOn : Cond.code yX5_knownOn cX5_knownOn 5 (some .int) ∈ uT := uM5 (List.mem_of_getElem? (i := 67) rfl) rfl
theorem cd_X6_comparison : Cond.code yX6_comparison cX6_comparison 3 none ∈ uT := uM3 (List.mem_of_getElem? (i := 144) rfl) rfl
theorem cd_X6_condition : Cond.code yX6_condition cX6_condition 5 none ∈ uT := uM3 (List.mem_of_getElem? (i := 140) rfl) rfl
theorem cd_X6_emit : Cond.code yX6_emit cX6_emit 2 none ∈ uT := uM3 (List.mem_of_getElem? (i := 127) rfl) rfl
theorem cd_X6_enters : Cond.code yX6_enters cX6_enters 3 (some .boolean) ∈ uT := uM3 (List.mem_of_getElem? (i := 132) rfl) rfl
theorem cd_X6_expect : Cond.code yX6_expect cX6_expect 2 none ∈ uT := uM3 (List.mem_of_getElem? (i := 136) rfl) rfl
theorem cd_X6_factor : Cond.code yX6_factor cX6_factor 3 none ∈ uT := uM3 (List.mem_of_getElem? (i := 123) rfl) rfl
theorem cd_X6_fail : Cond.code yX6_fail cX6_fail 2 none ∈ uT := uM3 (List.mem_of_getElem? (i := 115) rfl) rfl
theorem cd_X6_read : Cond.code yX6_read cX6_read 5 none ∈ uT := uM3 (List.mem_of_getElem? (i := 33) rfl) rfl
theorem cd_X6_step : Cond.code yX6_step cX6_step 1 none ∈ uT := uM3 (List.mem_of_getElem? (i := 111) rfl) rfl
theorem cd_X6_sum : Cond.code yX6_sum cX6_sum 6 none ∈ uT := uM3 (List.mem_of_getElem? (i := 119) rfl) rfl
theorem cd_X7_copy : Cond.code yX7_copy cX7_copy 2 none ∈ uT := uM2 (List.mem_of_getElem? (i := 138) rfl) rfl
theorem cd_X8_at : Cond.code yX8_at cX8_at 2 (some .int) ∈ uT := uM2 (List.mem_of_getElem? (i := 181) rfl) rfl
theorem cd_X8_copy : Cond.code yX8_copy cX8_copy 3 none ∈ uT := uM2 (List.mem_of_getElem? (i := 146) rfl) rfl
theorem cd_X8_fill : Cond.code yX8_fill cX8_fill 3 none ∈ uT := uM1 (List.mem_of_getElem? (i := 141) rfl) rfl
theorem cd_X8_put : Cond.code yX8_put cX8_put 3 none ∈ uT := uM1 (List.mem_of_getElem? (i := 129) rfl) rfl
theorem cd_X9_add : Cond.code yX9_add cX9_add 4 none ∈ uT := uM3 (List.mem_of_getElem? (i := 107) rfl) rfl
theorem cd_X9_isDigit : Cond.code yX9_isDigit cX9_isDigit 1 (some .boolean) ∈ uT := uM3 (List.mem_of_getElem? (i := 45) rfl) rfl
theorem cd_X9_isLetter : Cond.code yX9_isLetter cX9_isLetter 1 (some .boolean) ∈ uT := uM3 (List.mem_of_getElem? (i := 51) rfl) rfl
theorem cd_X9_scan : Cond.code yX9_scan cX9_scan 5 none ∈ uT := uM3 (List.mem_of_getElem? (i := 37) rfl) rfl
theorem cd_X9_scanOne : Cond.code yX9_scanOne cX9_scanOne 7 (some .int) ∈ uT := uM3 (List.mem_of_getElem? (i := 42) rfl) rfl
theorem cd_X9_wordAt : Cond.code yX9_wordAt cX9_wordAt 8 (some .int) ∈ uT := uM3 (List.mem_of_getElem? (i := 54) rfl) rfl
theorem cd_mabs : Cond.code Lib.Math.abs.name Lib.Math.abs.code 1 (some .int) ∈ uT := uM3 (List.mem_of_getElem? (i := 224) rfl) rfl
theorem cd_mmax : Cond.code Lib.Math.max.name Lib.Math.max.code 2 (some .int) ∈ uT := uM1 (List.mem_of_getElem? (i := 40) rfl) rfl
theorem cd_mmin : Cond.code Lib.Math.min.name Lib.Math.min.code 2 (some .int) ∈ uT := uM3 (List.mem_of_getElem? (i := 48) rfl) rfl
theorem cl_L_13 : Cond.classLink RL 13 "java/lang/IllegalArgumentException" ∈ uT := uM2 (List.mem_of_getElem? (i := 194) rfl) rfl
theorem cl_L_26 : Cond.classLink RL 26 "java/util/NoSuchElementException" ∈ uT := uM3 (List.mem_of_getElem? (i := 178) rfl) rfl
theorem cl_L_35 : Cond.classLink RL 35 "java/lang/IndexOutOfBoundsException" ∈ uT := uM3 (List.mem_of_getElem? (i := 228) rfl) rfl
theorem cl_X10_161 : Cond.classLink RX10 161 "java/lang/IllegalArgumentException" ∈ uT := uM2 (List.mem_of_getElem? (i := 202) rfl) rfl
theorem cl_X10_312 : Cond.classLink RX10 312 "java/util/NoSuchElementException" ∈ uT := uM3 (List.mem_of_getElem? (i := 187) rfl) rfl
theorem cl_X10_319 : Cond.classLink RX10 319 "java/lang/IndexOutOfBoundsException" ∈ uT := uM3 (List.mem_of_getElem? (i := 237) rfl) rfl
theorem cn_X10_205 : Cond.constant RX10 205 (-1000000) ∈ uT := uM4 (List.mem_of_getElem? (i := 151) rfl) rfl
theorem cn_X10_206 : Cond.constant RX10 206 (1000000) ∈ uT := uM4 (List.mem_of_getElem? (i := 152) rfl) rfl
theorem cn_X10_224 : Cond.constant RX10 224 (-999999) ∈ uT := uM4 (List.mem_of_getElem? (i := 178) rfl) rfl
theorem cn_X10_225 : Cond.constant RX10 225 (999999) ∈ uT := uM4 (List.mem_of_getElem? (i := 179) rfl) rfl
theorem cn_X11_112 : Cond.constant RX11 112 (100000) ∈ uT := uM6 (List.mem_of_getElem? (i := 53) rfl) rfl
theorem cn_X11_190 : Cond.constant RX11 190 (-100000) ∈ uT := uM6 (List.mem_of_getElem? (i := 150) rfl) rfl
theorem cn_X11_203 : Cond.constant RX11 203 (999999) ∈ uT := uM6 (List.mem_of_getElem? (i := 100) rfl) rfl
theorem cn_X11_240 : Cond.constant RX11 240 (-1000000) ∈ uT := uM6 (List.mem_of_getElem? (i := 162) rfl) rfl
theorem cn_X11_241 : Cond.constant RX11 241 (1000000) ∈ uT := uM6 (List.mem_of_getElem? (i := 163) rfl) rfl
theorem cn_X11_282 : Cond.constant RX11 282 (-999999) ∈ uT := uM7 (List.mem_of_getElem? (i := 4) rfl) rfl
theorem cn_X1_124 : Cond.constant RX1 124 (1000000) ∈ uT := uM4 (List.mem_of_getElem? (i := 53) rfl) rfl
theorem cn_X1_125 : Cond.constant RX1 125 (-1000000) ∈ uT := uM4 (List.mem_of_getElem? (i := 54) rfl) rfl
theorem cn_X3_43 : Cond.constant RX3 43 (-100000) ∈ uT := uM4 (List.mem_of_getElem? (i := 35) rfl) rfl
theorem cn_X3_44 : Cond.constant RX3 44 (100000) ∈ uT := uM4 (List.mem_of_getElem? (i := 36) rfl) rfl
theorem fl_X0_14 : Cond.fieldLink RX0 14 "GallopRoads$Bridges" "lines" "LGallopRoads$Row;" ∈ uT := uM2 (List.mem_of_getElem? (i := 2) rfl) rfl
theorem fl_X0_18 : Cond.fieldLink RX0 18 "GallopRoads$Bridges" "hours" "LGallopRoads$Row;" ∈ uT := uM2 (List.mem_of_getElem? (i := 3) rfl) rfl
theorem fl_X0_21 : Cond.fieldLink RX0 21 "GallopRoads$Bridges" "count" "I" ∈ uT := uM2 (List.mem_of_getElem? (i := 0) rfl) rfl
theorem fl_X10_109 : Cond.fieldLink RX10 109 "GallopRoads$Deck" "numbers" "LGallopRoads$Row;" ∈ uT := uM1 (List.mem_of_getElem? (i := 148) rfl) rfl
theorem fl_X10_122 : Cond.fieldLink RX10 122 "GallopRoads$Deck" "stays" "LGallopRoads$Row;" ∈ uT := uM1 (List.mem_of_getElem? (i := 160) rfl) rfl
theorem fl_X10_14 : Cond.fieldLink RX10 14 "GallopRoads" "tape" "LGallopRoads$Row;" ∈ uT := uM2 (List.mem_of_getElem? (i := 84) rfl) rfl
theorem fl_X10_146 : Cond.fieldLink RX10 146 "GallopRoads$Deck" "heights" "LGallopRoads$Row;" ∈ uT := uM1 (List.mem_of_getElem? (i := 151) rfl) rfl
theorem fl_X10_149 : Cond.fieldLink RX10 149 "GallopRoads$Deck" "turns" "LGallopRoads$Row;" ∈ uT := uM1 (List.mem_of_getElem? (i := 154) rfl) rfl
theorem fl_X10_152 : Cond.fieldLink RX10 152 "GallopRoads$Deck" "ups" "LGallopRoads$Row;" ∈ uT := uM1 (List.mem_of_getElem? (i := 156) rfl) rfl
theorem fl_X10_155 : Cond.fieldLink RX10 155 "GallopRoads$Deck" "spins" "LGallopRoads$Row;" ∈ uT := uM1 (List.mem_of_getElem? (i := 158) rfl) rfl
theorem fl_X10_158 : Cond.fieldLink RX10 158 "GallopRoads$Deck" "torn" "LGallopRoads$Row;" ∈ uT := uM1 (List.mem_of_getElem? (i := 162) rfl) rfl
theorem fl_X10_176 : Cond.fieldLink RX10 176 "GallopRoads$Law" "twist" "I" ∈ uT := uM2 (List.mem_of_getElem? (i := 68) rfl) rfl
theorem fl_X10_179 : Cond.fieldLink RX10 179 "GallopRoads$Law" "lift" "I" ∈ uT := uM2 (List.mem_of_getElem? (i := 65) rfl) rfl
theorem fl_X10_207 : Cond.fieldLink RX10 207 "GallopRoads$Road" "film" "LGallopRoads$Film;" ∈ uT := uM2 (List.mem_of_getElem? (i := 36) rfl) rfl
theorem fl_X10_21 : Cond.fieldLink RX10 21 "GallopRoads" "reader" "LGallopRoads$Reader;" ∈ uT := uM2 (List.mem_of_getElem? (i := 86) rfl) rfl
theorem fl_X10_226 : Cond.fieldLink RX10 226 "GallopRoads$Road" "mends" "LGallopRoads$Mends;" ∈ uT := uM2 (List.mem_of_getElem? (i := 38) rfl) rfl
theorem fl_X10_239 : Cond.fieldLink RX10 239 "GallopRoads$Mends" "count" "I" ∈ uT := uM1 (List.mem_of_getElem? (i := 219) rfl) rfl
theorem fl_X10_265 : Cond.fieldLink RX10 265 "GallopRoads$Road" "bridges" "LGallopRoads$Bridges;" ∈ uT := uM2 (List.mem_of_getElem? (i := 40) rfl) rfl
theorem fl_X10_27 : Cond.fieldLink RX10 27 "GallopRoads" "laws" "[LGallopRoads$Law;" ∈ uT := uM2 (List.mem_of_getElem? (i := 87) rfl) rfl
theorem fl_X10_282 : Cond.fieldLink RX10 282 "GallopRoads$Road" "papers" "LGallopRoads$Papers;" ∈ uT := uM2 (List.mem_of_getElem? (i := 42) rfl) rfl
theorem fl_X10_295 : Cond.fieldLink RX10 295 "GallopRoads" "imageCount" "I" ∈ uT := uM2 (List.mem_of_getElem? (i := 92) rfl) rfl
theorem fl_X10_301 : Cond.fieldLink RX10 301 "GallopRoads$Deck" "ticks" "I" ∈ uT := uM1 (List.mem_of_getElem? (i := 146) rfl) rfl
theorem fl_X10_304 : Cond.fieldLink RX10 304 "GallopRoads$Film" "count" "I" ∈ uT := uM1 (List.mem_of_getElem? (i := 194) rfl) rfl
theorem fl_X10_305 : Cond.fieldLink RX10 305 "GallopRoads$Bridges" "count" "I" ∈ uT := uM2 (List.mem_of_getElem? (i := 1) rfl) rfl
theorem fl_X10_306 : Cond.fieldLink RX10 306 "GallopRoads$Papers" "count" "I" ∈ uT := uM2 (List.mem_of_getElem? (i := 20) rfl) rfl
theorem fl_X10_31 : Cond.fieldLink RX10 31 "GallopRoads" "faultPlace" "I" ∈ uT := uM2 (List.mem_of_getElem? (i := 89) rfl) rfl
theorem fl_X10_327 : Cond.fieldLink RX10 327 "GallopRoads" "NUMBERS_LEAST" "[I" ∈ uT := uM3 (List.mem_of_getElem? (i := 168) rfl) rfl
theorem fl_X10_331 : Cond.fieldLink RX10 331 "GallopRoads" "NUMBERS_MOST" "[I" ∈ uT := uM3 (List.mem_of_getElem? (i := 173) rfl) rfl
theorem fl_X10_38 : Cond.fieldLink RX10 38 "GallopRoads" "road" "LGallopRoads$Road;" ∈ uT := uM2 (List.mem_of_getElem? (i := 90) rfl) rfl
theorem fl_X10_42 : Cond.fieldLink RX10 42 "GallopRoads" "images" "[LGallopRoads$Road;" ∈ uT := uM2 (List.mem_of_getElem? (i := 91) rfl) rfl
theorem fl_X10_49 : Cond.fieldLink RX10 49 "GallopRoads" "trial" "LGallopRoads$Deck;" ∈ uT := uM2 (List.mem_of_getElem? (i := 93) rfl) rfl
theorem fl_X10_53 : Cond.fieldLink RX10 53 "GallopRoads" "built" "LGallopRoads$Deck;" ∈ uT := uM2 (List.mem_of_getElem? (i := 94) rfl) rfl
theorem fl_X10_57 : Cond.fieldLink RX10 57 "GallopRoads" "tapeBytes" "I" ∈ uT := uM2 (List.mem_of_getElem? (i := 85) rfl) rfl
theorem fl_X10_71 : Cond.fieldLink RX10 71 "GallopRoads" "lawCount" "I" ∈ uT := uM2 (List.mem_of_getElem? (i := 88) rfl) rfl
theorem fl_X10_78 : Cond.fieldLink RX10 78 "GallopRoads$Reader" "fault" "I" ∈ uT := uM1 (List.mem_of_getElem? (i := 81) rfl) rfl
theorem fl_X10_81 : Cond.fieldLink RX10 81 "GallopRoads$Reader" "place" "I" ∈ uT := uM1 (List.mem_of_getElem? (i := 83) rfl) rfl
theorem fl_X10_84 : Cond.fieldLink RX10 84 "GallopRoads$Reader" "steps" "LGallopRoads$Row;" ∈ uT := uM1 (List.mem_of_getElem? (i := 77) rfl) rfl
theorem fl_X10_87 : Cond.fieldLink RX10 87 "GallopRoads$Reader" "length" "I" ∈ uT := uM1 (List.mem_of_getElem? (i := 79) rfl) rfl
theorem fl_X10_93 : Cond.fieldLink RX10 93 "GallopRoads$Road" "deck" "LGallopRoads$Deck;" ∈ uT := uM2 (List.mem_of_getElem? (i := 34) rfl) rfl
theorem fl_X10_96 : Cond.fieldLink RX10 96 "GallopRoads$Deck" "pieces" "I" ∈ uT := uM1 (List.mem_of_getElem? (i := 144) rfl) rfl
theorem fl_X11_102 : Cond.fieldLink RX11 102 "GallopRoadsModel" "faultAt" "I" ∈ uT := uM5 (List.mem_of_getElem? (i := 103) rfl) rfl
theorem fl_X11_105 : Cond.fieldLink RX11 105 "GallopRoadsModel" "codes" "I" ∈ uT := uM5 (List.mem_of_getElem? (i := 104) rfl) rfl
theorem fl_X11_13 : Cond.fieldLink RX11 13 "GallopRoadsModel" "fed" "[I" ∈ uT := uM5 (List.mem_of_getElem? (i := 105) rfl) rfl
theorem fl_X11_132 : Cond.fieldLink RX11 132 "GallopRoadsModel" "open" "I" ∈ uT := uM5 (List.mem_of_getElem? (i := 101) rfl) rfl
theorem fl_X11_17 : Cond.fieldLink RX11 17 "GallopRoadsModel" "code" "[I" ∈ uT := uM5 (List.mem_of_getElem? (i := 106) rfl) rfl
theorem fl_X11_180 : Cond.fieldLink RX11 180 "GallopRoadsModel" "laws" "I" ∈ uT := uM5 (List.mem_of_getElem? (i := 107) rfl) rfl
theorem fl_X11_194 : Cond.fieldLink RX11 194 "GallopRoadsModel" "lift" "I" ∈ uT := uM5 (List.mem_of_getElem? (i := 112) rfl) rfl
theorem fl_X11_197 : Cond.fieldLink RX11 197 "GallopRoadsModel" "twist" "I" ∈ uT := uM5 (List.mem_of_getElem? (i := 113) rfl) rfl
theorem fl_X11_200 : Cond.fieldLink RX11 200 "GallopRoadsModel" "ticks" "I" ∈ uT := uM5 (List.mem_of_getElem? (i := 116) rfl) rfl
theorem fl_X11_22 : Cond.fieldLink RX11 22 "GallopRoadsModel" "lawCode" "[[I" ∈ uT := uM5 (List.mem_of_getElem? (i := 108) rfl) rfl
theorem fl_X11_248 : Cond.fieldLink RX11 248 "GallopRoadsModel" "keptTicks" "I" ∈ uT := uM5 (List.mem_of_getElem? (i := 122) rfl) rfl
theorem fl_X11_25 : Cond.fieldLink RX11 25 "GallopRoadsModel" "lawCodes" "[I" ∈ uT := uM5 (List.mem_of_getElem? (i := 109) rfl) rfl
theorem fl_X11_279 : Cond.fieldLink RX11 279 "GallopRoadsModel" "films" "I" ∈ uT := uM5 (List.mem_of_getElem? (i := 127) rfl) rfl
theorem fl_X11_28 : Cond.fieldLink RX11 28 "GallopRoadsModel" "stack" "[I" ∈ uT := uM5 (List.mem_of_getElem? (i := 110) rfl) rfl
theorem fl_X11_283 : Cond.fieldLink RX11 283 "GallopRoadsModel" "mends" "I" ∈ uT := uM5 (List.mem_of_getElem? (i := 128) rfl) rfl
theorem fl_X11_295 : Cond.fieldLink RX11 295 "GallopRoadsModel" "bridges" "I" ∈ uT := uM5 (List.mem_of_getElem? (i := 129) rfl) rfl
theorem fl_X11_301 : Cond.fieldLink RX11 301 "GallopRoadsModel" "papers" "I" ∈ uT := uM5 (List.mem_of_getElem? (i := 130) rfl) rfl
theorem fl_X11_307 : Cond.fieldLink RX11 307 "GallopRoadsModel" "spot" "I" ∈ uT := uM5 (List.mem_of_getElem? (i := 137) rfl) rfl
theorem fl_X11_31 : Cond.fieldLink RX11 31 "GallopRoadsModel" "names" "[I" ∈ uT := uM5 (List.mem_of_getElem? (i := 111) rfl) rfl
theorem fl_X11_318 : Cond.fieldLink RX11 318 "GallopRoadsModel" "images" "I" ∈ uT := uM5 (List.mem_of_getElem? (i := 131) rfl) rfl
theorem fl_X11_34 : Cond.fieldLink RX11 34 "GallopRoadsModel" "hundredths" "I" ∈ uT := uM5 (List.mem_of_getElem? (i := 114) rfl) rfl
theorem fl_X11_37 : Cond.fieldLink RX11 37 "GallopRoadsModel" "pieces" "I" ∈ uT := uM5 (List.mem_of_getElem? (i := 115) rfl) rfl
theorem fl_X11_40 : Cond.fieldLink RX11 40 "GallopRoadsModel" "number" "[I" ∈ uT := uM5 (List.mem_of_getElem? (i := 117) rfl) rfl
theorem fl_X11_43 : Cond.fieldLink RX11 43 "GallopRoadsModel" "state" "[[I" ∈ uT := uM5 (List.mem_of_getElem? (i := 118) rfl) rfl
theorem fl_X11_46 : Cond.fieldLink RX11 46 "GallopRoadsModel" "then" "[[I" ∈ uT := uM5 (List.mem_of_getElem? (i := 119) rfl) rfl
theorem fl_X11_49 : Cond.fieldLink RX11 49 "GallopRoadsModel" "stays" "[I" ∈ uT := uM5 (List.mem_of_getElem? (i := 120) rfl) rfl
theorem fl_X11_52 : Cond.fieldLink RX11 52 "GallopRoadsModel" "torn" "[Z" ∈ uT := uM5 (List.mem_of_getElem? (i := 121) rfl) rfl
theorem fl_X11_56 : Cond.fieldLink RX11 56 "GallopRoadsModel" "keptState" "[[I" ∈ uT := uM5 (List.mem_of_getElem? (i := 123) rfl) rfl
theorem fl_X11_59 : Cond.fieldLink RX11 59 "GallopRoadsModel" "keptStays" "[I" ∈ uT := uM5 (List.mem_of_getElem? (i := 124) rfl) rfl
theorem fl_X11_62 : Cond.fieldLink RX11 62 "GallopRoadsModel" "keptNumber" "[I" ∈ uT := uM5 (List.mem_of_getElem? (i := 125) rfl) rfl
theorem fl_X11_65 : Cond.fieldLink RX11 65 "GallopRoadsModel" "keptTorn" "[Z" ∈ uT := uM5 (List.mem_of_getElem? (i := 126) rfl) rfl
theorem fl_X11_68 : Cond.fieldLink RX11 68 "GallopRoadsModel" "film" "[[I" ∈ uT := uM5 (List.mem_of_getElem? (i := 132) rfl) rfl
theorem fl_X11_71 : Cond.fieldLink RX11 71 "GallopRoadsModel" "mend" "[[I" ∈ uT := uM5 (List.mem_of_getElem? (i := 133) rfl) rfl
theorem fl_X11_74 : Cond.fieldLink RX11 74 "GallopRoadsModel" "bridge" "[[I" ∈ uT := uM5 (List.mem_of_getElem? (i := 134) rfl) rfl
theorem fl_X11_77 : Cond.fieldLink RX11 77 "GallopRoadsModel" "paper" "[[I" ∈ uT := uM5 (List.mem_of_getElem? (i := 135) rfl) rfl
theorem fl_X11_80 : Cond.fieldLink RX11 80 "GallopRoadsModel" "kept" "[[I" ∈ uT := uM5 (List.mem_of_getElem? (i := 136) rfl) rfl
theorem fl_X11_83 : Cond.fieldLink RX11 83 "GallopRoadsModel" "thrown" "I" ∈ uT := uM5 (List.mem_of_getElem? (i := 96) rfl) rfl
theorem fl_X11_86 : Cond.fieldLink RX11 86 "GallopRoadsModel" "tape" "I" ∈ uT := uM5 (List.mem_of_getElem? (i := 97) rfl) rfl
theorem fl_X11_89 : Cond.fieldLink RX11 89 "GallopRoadsModel" "size" "I" ∈ uT := uM5 (List.mem_of_getElem? (i := 98) rfl) rfl
theorem fl_X11_9 : Cond.fieldLink RX11 9 "GallopRoadsModel" "place" "I" ∈ uT := uM5 (List.mem_of_getElem? (i := 99) rfl) rfl
theorem fl_X11_92 : Cond.fieldLink RX11 92 "GallopRoadsModel" "at" "I" ∈ uT := uM5 (List.mem_of_getElem? (i := 100) rfl) rfl
theorem fl_X11_99 : Cond.fieldLink RX11 99 "GallopRoadsModel" "fault" "I" ∈ uT := uM5 (List.mem_of_getElem? (i := 102) rfl) rfl
theorem fl_X1_109 : Cond.fieldLink RX1 109 "GallopRoads$Law" "lift" "I" ∈ uT := uM2 (List.mem_of_getElem? (i := 66) rfl) rfl
theorem fl_X1_115 : Cond.fieldLink RX1 115 "GallopRoads$Law" "twist" "I" ∈ uT := uM2 (List.mem_of_getElem? (i := 69) rfl) rfl
theorem fl_X1_14 : Cond.fieldLink RX1 14 "GallopRoads$Deck" "numbers" "LGallopRoads$Row;" ∈ uT := uM1 (List.mem_of_getElem? (i := 147) rfl) rfl
theorem fl_X1_20 : Cond.fieldLink RX1 20 "GallopRoads$Deck" "heights" "LGallopRoads$Row;" ∈ uT := uM1 (List.mem_of_getElem? (i := 149) rfl) rfl
theorem fl_X1_23 : Cond.fieldLink RX1 23 "GallopRoads$Deck" "turns" "LGallopRoads$Row;" ∈ uT := uM1 (List.mem_of_getElem? (i := 152) rfl) rfl
theorem fl_X1_26 : Cond.fieldLink RX1 26 "GallopRoads$Deck" "ups" "LGallopRoads$Row;" ∈ uT := uM1 (List.mem_of_getElem? (i := 155) rfl) rfl
theorem fl_X1_29 : Cond.fieldLink RX1 29 "GallopRoads$Deck" "spins" "LGallopRoads$Row;" ∈ uT := uM1 (List.mem_of_getElem? (i := 157) rfl) rfl
theorem fl_X1_32 : Cond.fieldLink RX1 32 "GallopRoads$Deck" "stays" "LGallopRoads$Row;" ∈ uT := uM1 (List.mem_of_getElem? (i := 159) rfl) rfl
theorem fl_X1_35 : Cond.fieldLink RX1 35 "GallopRoads$Deck" "torn" "LGallopRoads$Row;" ∈ uT := uM1 (List.mem_of_getElem? (i := 161) rfl) rfl
theorem fl_X1_38 : Cond.fieldLink RX1 38 "GallopRoads$Deck" "names" "LGallopRoads$Row;" ∈ uT := uM1 (List.mem_of_getElem? (i := 163) rfl) rfl
theorem fl_X1_52 : Cond.fieldLink RX1 52 "GallopRoads$Deck" "pieces" "I" ∈ uT := uM1 (List.mem_of_getElem? (i := 142) rfl) rfl
theorem fl_X1_56 : Cond.fieldLink RX1 56 "GallopRoads$Deck" "ticks" "I" ∈ uT := uM1 (List.mem_of_getElem? (i := 145) rfl) rfl
theorem fl_X2_16 : Cond.fieldLink RX2 16 "GallopRoads$Film" "ticks" "LGallopRoads$Row;" ∈ uT := uM1 (List.mem_of_getElem? (i := 195) rfl) rfl
theorem fl_X2_20 : Cond.fieldLink RX2 20 "GallopRoads$Film" "pieces" "LGallopRoads$Row;" ∈ uT := uM1 (List.mem_of_getElem? (i := 196) rfl) rfl
theorem fl_X2_23 : Cond.fieldLink RX2 23 "GallopRoads$Film" "heights" "LGallopRoads$Row;" ∈ uT := uM1 (List.mem_of_getElem? (i := 197) rfl) rfl
theorem fl_X2_26 : Cond.fieldLink RX2 26 "GallopRoads$Film" "turns" "LGallopRoads$Row;" ∈ uT := uM1 (List.mem_of_getElem? (i := 198) rfl) rfl
theorem fl_X2_29 : Cond.fieldLink RX2 29 "GallopRoads$Film" "count" "I" ∈ uT := uM1 (List.mem_of_getElem? (i := 193) rfl) rfl
theorem fl_X2_41 : Cond.fieldLink RX2 41 "GallopRoads$Deck" "pieces" "I" ∈ uT := uM1 (List.mem_of_getElem? (i := 143) rfl) rfl
theorem fl_X2_45 : Cond.fieldLink RX2 45 "GallopRoads$Deck" "heights" "LGallopRoads$Row;" ∈ uT := uM1 (List.mem_of_getElem? (i := 150) rfl) rfl
theorem fl_X2_51 : Cond.fieldLink RX2 51 "GallopRoads$Deck" "turns" "LGallopRoads$Row;" ∈ uT := uM1 (List.mem_of_getElem? (i := 153) rfl) rfl
theorem fl_X3_14 : Cond.fieldLink RX3 14 "GallopRoads$Law" "steps" "LGallopRoads$Row;" ∈ uT := uM2 (List.mem_of_getElem? (i := 70) rfl) rfl
theorem fl_X3_20 : Cond.fieldLink RX3 20 "GallopRoads$Law" "stack" "LGallopRoads$Row;" ∈ uT := uM2 (List.mem_of_getElem? (i := 71) rfl) rfl
theorem fl_X3_27 : Cond.fieldLink RX3 27 "GallopRoads$Law" "length" "I" ∈ uT := uM2 (List.mem_of_getElem? (i := 72) rfl) rfl
theorem fl_X3_48 : Cond.fieldLink RX3 48 "GallopRoads$Law" "lift" "I" ∈ uT := uM2 (List.mem_of_getElem? (i := 64) rfl) rfl
theorem fl_X3_51 : Cond.fieldLink RX3 51 "GallopRoads$Law" "twist" "I" ∈ uT := uM2 (List.mem_of_getElem? (i := 67) rfl) rfl
theorem fl_X4_14 : Cond.fieldLink RX4 14 "GallopRoads$Mends" "numbers" "LGallopRoads$Row;" ∈ uT := uM1 (List.mem_of_getElem? (i := 220) rfl) rfl
theorem fl_X4_18 : Cond.fieldLink RX4 18 "GallopRoads$Mends" "more" "LGallopRoads$Row;" ∈ uT := uM1 (List.mem_of_getElem? (i := 221) rfl) rfl
theorem fl_X4_21 : Cond.fieldLink RX4 21 "GallopRoads$Mends" "costs" "LGallopRoads$Row;" ∈ uT := uM1 (List.mem_of_getElem? (i := 222) rfl) rfl
theorem fl_X4_24 : Cond.fieldLink RX4 24 "GallopRoads$Mends" "count" "I" ∈ uT := uM1 (List.mem_of_getElem? (i := 218) rfl) rfl
theorem fl_X5_16 : Cond.fieldLink RX5 16 "GallopRoads$Papers" "days" "LGallopRoads$Row;" ∈ uT := uM2 (List.mem_of_getElem? (i := 21) rfl) rfl
theorem fl_X5_20 : Cond.fieldLink RX5 20 "GallopRoads$Papers" "tells" "LGallopRoads$Row;" ∈ uT := uM2 (List.mem_of_getElem? (i := 22) rfl) rfl
theorem fl_X5_23 : Cond.fieldLink RX5 23 "GallopRoads$Papers" "rests" "LGallopRoads$Row;" ∈ uT := uM2 (List.mem_of_getElem? (i := 23) rfl) rfl
theorem fl_X5_26 : Cond.fieldLink RX5 26 "GallopRoads$Papers" "count" "I" ∈ uT := uM2 (List.mem_of_getElem? (i := 19) rfl) rfl
theorem fl_X6_14 : Cond.fieldLink RX6 14 "GallopRoads$Reader" "steps" "LGallopRoads$Row;" ∈ uT := uM1 (List.mem_of_getElem? (i := 76) rfl) rfl
theorem fl_X6_23 : Cond.fieldLink RX6 23 "GallopRoads$Reader" "tokens" "LGallopRoads$Tokens;" ∈ uT := uM1 (List.mem_of_getElem? (i := 84) rfl) rfl
theorem fl_X6_31 : Cond.fieldLink RX6 31 "GallopRoads$Reader" "length" "I" ∈ uT := uM1 (List.mem_of_getElem? (i := 78) rfl) rfl
theorem fl_X6_35 : Cond.fieldLink RX6 35 "GallopRoads$Reader" "fault" "I" ∈ uT := uM1 (List.mem_of_getElem? (i := 80) rfl) rfl
theorem fl_X6_38 : Cond.fieldLink RX6 38 "GallopRoads$Reader" "place" "I" ∈ uT := uM1 (List.mem_of_getElem? (i := 82) rfl) rfl
theorem fl_X6_41 : Cond.fieldLink RX6 41 "GallopRoads$Reader" "next" "I" ∈ uT := uM1 (List.mem_of_getElem? (i := 85) rfl) rfl
theorem fl_X6_47 : Cond.fieldLink RX6 47 "GallopRoads$Reader" "token" "I" ∈ uT := uM1 (List.mem_of_getElem? (i := 86) rfl) rfl
theorem fl_X6_68 : Cond.fieldLink RX6 68 "GallopRoads$Reader" "value" "I" ∈ uT := uM1 (List.mem_of_getElem? (i := 88) rfl) rfl
theorem fl_X6_78 : Cond.fieldLink RX6 78 "GallopRoads$Tokens" "kinds" "[I" ∈ uT := uM1 (List.mem_of_getElem? (i := 61) rfl) rfl
theorem fl_X6_82 : Cond.fieldLink RX6 82 "GallopRoads$Tokens" "starts" "[I" ∈ uT := uM1 (List.mem_of_getElem? (i := 63) rfl) rfl
theorem fl_X6_85 : Cond.fieldLink RX6 85 "GallopRoads$Reader" "start" "I" ∈ uT := uM1 (List.mem_of_getElem? (i := 87) rfl) rfl
theorem fl_X6_88 : Cond.fieldLink RX6 88 "GallopRoads$Tokens" "values" "[I" ∈ uT := uM1 (List.mem_of_getElem? (i := 65) rfl) rfl
theorem fl_X7_10 : Cond.fieldLink RX7 10 "GallopRoads$Road" "deck" "LGallopRoads$Deck;" ∈ uT := uM2 (List.mem_of_getElem? (i := 33) rfl) rfl
theorem fl_X7_19 : Cond.fieldLink RX7 19 "GallopRoads$Road" "film" "LGallopRoads$Film;" ∈ uT := uM2 (List.mem_of_getElem? (i := 35) rfl) rfl
theorem fl_X7_26 : Cond.fieldLink RX7 26 "GallopRoads$Road" "mends" "LGallopRoads$Mends;" ∈ uT := uM2 (List.mem_of_getElem? (i := 37) rfl) rfl
theorem fl_X7_33 : Cond.fieldLink RX7 33 "GallopRoads$Road" "bridges" "LGallopRoads$Bridges;" ∈ uT := uM2 (List.mem_of_getElem? (i := 39) rfl) rfl
theorem fl_X7_40 : Cond.fieldLink RX7 40 "GallopRoads$Road" "papers" "LGallopRoads$Papers;" ∈ uT := uM2 (List.mem_of_getElem? (i := 41) rfl) rfl
theorem fl_X8_13 : Cond.fieldLink RX8 13 "GallopRoads$Row" "cells" "[I" ∈ uT := uM1 (List.mem_of_getElem? (i := 41) rfl) rfl
theorem fl_X9_15 : Cond.fieldLink RX9 15 "GallopRoads$Tokens" "starts" "[I" ∈ uT := uM1 (List.mem_of_getElem? (i := 62) rfl) rfl
theorem fl_X9_18 : Cond.fieldLink RX9 18 "GallopRoads$Tokens" "values" "[I" ∈ uT := uM1 (List.mem_of_getElem? (i := 64) rfl) rfl
theorem fl_X9_21 : Cond.fieldLink RX9 21 "GallopRoads$Tokens" "count" "I" ∈ uT := uM1 (List.mem_of_getElem? (i := 66) rfl) rfl
theorem fl_X9_9 : Cond.fieldLink RX9 9 "GallopRoads$Tokens" "kinds" "[I" ∈ uT := uM1 (List.mem_of_getElem? (i := 60) rfl) rfl
theorem im_yJ0_charAt_5068e : Cond.instanceMethod yJ0_charAt_5068e ∈ uT := uM3 (List.mem_of_getElem? (i := 67) rfl) rfl
theorem im_yJ0_length_8abf5 : Cond.instanceMethod yJ0_length_8abf5 ∈ uT := uM3 (List.mem_of_getElem? (i := 57) rfl) rfl
theorem im_yX0_add : Cond.instanceMethod yX0_add ∈ uT := uM5 (List.mem_of_getElem? (i := 13) rfl) rfl
theorem im_yX0_change : Cond.instanceMethod yX0_change ∈ uT := uM5 (List.mem_of_getElem? (i := 30) rfl) rfl
theorem im_yX0_copy : Cond.instanceMethod yX0_copy ∈ uT := uM2 (List.mem_of_getElem? (i := 158) rfl) rfl
theorem im_yX0_hoursOf : Cond.instanceMethod yX0_hoursOf ∈ uT := uM5 (List.mem_of_getElem? (i := 42) rfl) rfl
theorem im_yX10_barred : Cond.instanceMethod yX10_barred ∈ uT := uM4 (List.mem_of_getElem? (i := 162) rfl) rfl
theorem im_yX10_bestMend : Cond.instanceMethod yX10_bestMend ∈ uT := uM4 (List.mem_of_getElem? (i := 232) rfl) rfl
theorem im_yX10_blows : Cond.instanceMethod yX10_blows ∈ uT := uM5 (List.mem_of_getElem? (i := 21) rfl) rfl
theorem im_yX10_bridge : Cond.instanceMethod yX10_bridge ∈ uT := uM5 (List.mem_of_getElem? (i := 9) rfl) rfl
theorem im_yX10_calm : Cond.instanceMethod yX10_calm ∈ uT := uM4 (List.mem_of_getElem? (i := 189) rfl) rfl
theorem im_yX10_could : Cond.instanceMethod yX10_could ∈ uT := uM5 (List.mem_of_getElem? (i := 73) rfl) rfl
theorem im_yX10_deck : Cond.instanceMethod yX10_deck ∈ uT := uM3 (List.mem_of_getElem? (i := 154) rfl) rfl
theorem im_yX10_demandBridge : Cond.instanceMethod yX10_demandBridge ∈ uT := uM5 (List.mem_of_getElem? (i := 26) rfl) rfl
theorem im_yX10_demandPiece : Cond.instanceMethod yX10_demandPiece ∈ uT := uM3 (List.mem_of_getElem? (i := 185) rfl) rfl
theorem im_yX10_film : Cond.instanceMethod yX10_film ∈ uT := uM4 (List.mem_of_getElem? (i := 148) rfl) rfl
theorem im_yX10_first : Cond.instanceMethod yX10_first ∈ uT := uM4 (List.mem_of_getElem? (i := 115) rfl) rfl
theorem im_yX10_go : Cond.instanceMethod yX10_go ∈ uT := uM3 (List.mem_of_getElem? (i := 230) rfl) rfl
theorem im_yX10_grows : Cond.instanceMethod yX10_grows ∈ uT := uM4 (List.mem_of_getElem? (i := 80) rfl) rfl
theorem im_yX10_hours : Cond.instanceMethod yX10_hours ∈ uT := uM5 (List.mem_of_getElem? (i := 38) rfl) rfl
theorem im_yX10_known : Cond.instanceMethod yX10_known ∈ uT := uM5 (List.mem_of_getElem? (i := 61) rfl) rfl
theorem im_yX10_law : Cond.instanceMethod yX10_law ∈ uT := uM2 (List.mem_of_getElem? (i := 196) rfl) rfl
theorem im_yX10_lawNumbered : Cond.instanceMethod yX10_lawNumbered ∈ uT := uM3 (List.mem_of_getElem? (i := 235) rfl) rfl
theorem im_yX10_line : Cond.instanceMethod yX10_line ∈ uT := uM4 (List.mem_of_getElem? (i := 97) rfl) rfl
theorem im_yX10_lineBy : Cond.instanceMethod yX10_lineBy ∈ uT := uM4 (List.mem_of_getElem? (i := 102) rfl) rfl
theorem im_yX10_mend : Cond.instanceMethod yX10_mend ∈ uT := uM4 (List.mem_of_getElem? (i := 175) rfl) rfl
theorem im_yX10_mended : Cond.instanceMethod yX10_mended ∈ uT := uM4 (List.mem_of_getElem? (i := 200) rfl) rfl
theorem im_yX10_paper : Cond.instanceMethod yX10_paper ∈ uT := uM5 (List.mem_of_getElem? (i := 49) rfl) rfl
theorem im_yX10_piece : Cond.instanceMethod yX10_piece ∈ uT := uM4 (List.mem_of_getElem? (i := 63) rfl) rfl
theorem im_yX10_push : Cond.instanceMethod yX10_push ∈ uT := uM4 (List.mem_of_getElem? (i := 71) rfl) rfl
theorem im_yX10_putOnTape : Cond.instanceMethod yX10_putOnTape ∈ uT := uM2 (List.mem_of_getElem? (i := 124) rfl) rfl
theorem im_yX10_runTillBroken : Cond.instanceMethod yX10_runTillBroken ∈ uT := uM4 (List.mem_of_getElem? (i := 120) rfl) rfl
theorem im_yX10_set : Cond.instanceMethod yX10_set ∈ uT := uM3 (List.mem_of_getElem? (i := 162) rfl) rfl
theorem im_yX10_shape : Cond.instanceMethod yX10_shape ∈ uT := uM3 (List.mem_of_getElem? (i := 207) rfl) rfl
theorem im_yX10_shut : Cond.instanceMethod yX10_shut ∈ uT := uM5 (List.mem_of_getElem? (i := 85) rfl) rfl
theorem im_yX10_slip : Cond.instanceMethod yX10_slip ∈ uT := uM4 (List.mem_of_getElem? (i := 137) rfl) rfl
theorem im_yX10_span : Cond.instanceMethod yX10_span ∈ uT := uM4 (List.mem_of_getElem? (i := 239) rfl) rfl
theorem im_yX10_stay : Cond.instanceMethod yX10_stay ∈ uT := uM3 (List.mem_of_getElem? (i := 180) rfl) rfl
theorem im_yX10_trialGrows : Cond.instanceMethod yX10_trialGrows ∈ uT := uM4 (List.mem_of_getElem? (i := 86) rfl) rfl
theorem im_yX10_trialIsCalmUpTo : Cond.instanceMethod yX10_trialIsCalmUpTo ∈ uT := uM4 (List.mem_of_getElem? (i := 194) rfl) rfl
theorem im_yX10_week : Cond.instanceMethod yX10_week ∈ uT := uM4 (List.mem_of_getElem? (i := 227) rfl) rfl
theorem im_yX10_where : Cond.instanceMethod yX10_where ∈ uT := uM4 (List.mem_of_getElem? (i := 130) rfl) rfl
theorem im_yX10_why : Cond.instanceMethod yX10_why ∈ uT := uM4 (List.mem_of_getElem? (i := 108) rfl) rfl
theorem im_yX11_ands : Cond.instanceMethod yX11_ands ∈ uT := uM6 (List.mem_of_getElem? (i := 76) rfl) rfl
theorem im_yX11_asks : Cond.instanceMethod yX11_asks ∈ uT := uM6 (List.mem_of_getElem? (i := 145) rfl) rfl
theorem im_yX11_bad : Cond.instanceMethod yX11_bad ∈ uT := uM6 (List.mem_of_getElem? (i := 1) rfl) rfl
theorem im_yX11_badTrial : Cond.instanceMethod yX11_badTrial ∈ uT := uM6 (List.mem_of_getElem? (i := 178) rfl) rfl
theorem im_yX11_begins : Cond.instanceMethod yX11_begins ∈ uT := uM6 (List.mem_of_getElem? (i := 186) rfl) rfl
theorem im_yX11_beside : Cond.instanceMethod yX11_beside ∈ uT := uM6 (List.mem_of_getElem? (i := 160) rfl) rfl
theorem im_yX11_blanks : Cond.instanceMethod yX11_blanks ∈ uT := uM6 (List.mem_of_getElem? (i := 5) rfl) rfl
theorem im_yX11_byteAt : Cond.instanceMethod yX11_byteAt ∈ uT := uM6 (List.mem_of_getElem? (i := 9) rfl) rfl
theorem im_yX11_clause : Cond.instanceMethod yX11_clause ∈ uT := uM6 (List.mem_of_getElem? (i := 13) rfl) rfl
theorem im_yX11_firstOf : Cond.instanceMethod yX11_firstOf ∈ uT := uM6 (List.mem_of_getElem? (i := 214) rfl) rfl
theorem im_yX11_growsBy : Cond.instanceMethod yX11_growsBy ∈ uT := uM6 (List.mem_of_getElem? (i := 182) rfl) rfl
theorem im_yX11_isBridge : Cond.instanceMethod yX11_isBridge ∈ uT := uM7 (List.mem_of_getElem? (i := 43) rfl) rfl
theorem im_yX11_isCalm : Cond.instanceMethod yX11_isCalm ∈ uT := uM7 (List.mem_of_getElem? (i := 11) rfl) rfl
theorem im_yX11_isLaw : Cond.instanceMethod yX11_isLaw ∈ uT := uM6 (List.mem_of_getElem? (i := 133) rfl) rfl
theorem im_yX11_isPiece : Cond.instanceMethod yX11_isPiece ∈ uT := uM6 (List.mem_of_getElem? (i := 107) rfl) rfl
theorem im_yX11_isSo : Cond.instanceMethod yX11_isSo ∈ uT := uM6 (List.mem_of_getElem? (i := 218) rfl) rfl
theorem im_yX11_isWord : Cond.instanceMethod yX11_isWord ∈ uT := uM6 (List.mem_of_getElem? (i := 17) rfl) rfl
theorem im_yX11_knownOn : Cond.instanceMethod yX11_knownOn ∈ uT := uM7 (List.mem_of_getElem? (i := 59) rfl) rfl
theorem im_yX11_lays : Cond.instanceMethod yX11_lays ∈ uT := uM6 (List.mem_of_getElem? (i := 190) rfl) rfl
theorem im_yX11_laysBack : Cond.instanceMethod yX11_laysBack ∈ uT := uM6 (List.mem_of_getElem? (i := 194) rfl) rfl
theorem im_yX11_lineOf : Cond.instanceMethod yX11_lineOf ∈ uT := uM6 (List.mem_of_getElem? (i := 202) rfl) rfl
theorem im_yX11_makes : Cond.instanceMethod yX11_makes ∈ uT := uM7 (List.mem_of_getElem? (i := 19) rfl) rfl
theorem im_yX11_moves : Cond.instanceMethod yX11_moves ∈ uT := uM7 (List.mem_of_getElem? (i := 75) rfl) rfl
theorem im_yX11_movesAll : Cond.instanceMethod yX11_movesAll ∈ uT := uM7 (List.mem_of_getElem? (i := 71) rfl) rfl
theorem im_yX11_movesRow : Cond.instanceMethod yX11_movesRow ∈ uT := uM7 (List.mem_of_getElem? (i := 79) rfl) rfl
theorem im_yX11_nameHere : Cond.instanceMethod yX11_nameHere ∈ uT := uM6 (List.mem_of_getElem? (i := 60) rfl) rfl
theorem im_yX11_numberHere : Cond.instanceMethod yX11_numberHere ∈ uT := uM6 (List.mem_of_getElem? (i := 51) rfl) rfl
theorem im_yX11_opens : Cond.instanceMethod yX11_opens ∈ uT := uM6 (List.mem_of_getElem? (i := 64) rfl) rfl
theorem im_yX11_ors : Cond.instanceMethod yX11_ors ∈ uT := uM6 (List.mem_of_getElem? (i := 72) rfl) rfl
theorem im_yX11_product : Cond.instanceMethod yX11_product ∈ uT := uM6 (List.mem_of_getElem? (i := 40) rfl) rfl
theorem im_yX11_pulls : Cond.instanceMethod yX11_pulls ∈ uT := uM6 (List.mem_of_getElem? (i := 156) rfl) rfl
theorem im_yX11_shapes : Cond.instanceMethod yX11_shapes ∈ uT := uM6 (List.mem_of_getElem? (i := 118) rfl) rfl
theorem im_yX11_sign : Cond.instanceMethod yX11_sign ∈ uT := uM6 (List.mem_of_getElem? (i := 68) rfl) rfl
theorem im_yX11_sizeOf : Cond.instanceMethod yX11_sizeOf ∈ uT := uM6 (List.mem_of_getElem? (i := 122) rfl) rfl
theorem im_yX11_skipWord : Cond.instanceMethod yX11_skipWord ∈ uT := uM6 (List.mem_of_getElem? (i := 32) rfl) rfl
theorem im_yX11_sum : Cond.instanceMethod yX11_sum ∈ uT := uM6 (List.mem_of_getElem? (i := 36) rfl) rfl
theorem im_yX11_tells : Cond.instanceMethod yX11_tells ∈ uT := uM6 (List.mem_of_getElem? (i := 56) rfl) rfl
theorem im_yX11_tellsNames : Cond.instanceMethod yX11_tellsNames ∈ uT := uM6 (List.mem_of_getElem? (i := 141) rfl) rfl
theorem im_yX11_test : Cond.instanceMethod yX11_test ∈ uT := uM6 (List.mem_of_getElem? (i := 80) rfl) rfl
theorem im_yX11_tick : Cond.instanceMethod yX11_tick ∈ uT := uM6 (List.mem_of_getElem? (i := 137) rfl) rfl
theorem im_yX11_unit : Cond.instanceMethod yX11_unit ∈ uT := uM6 (List.mem_of_getElem? (i := 44) rfl) rfl
theorem im_yX11_wordHere : Cond.instanceMethod yX11_wordHere ∈ uT := uM6 (List.mem_of_getElem? (i := 21) rfl) rfl
theorem im_yX11_wrong : Cond.instanceMethod yX11_wrong ∈ uT := uM6 (List.mem_of_getElem? (i := 28) rfl) rfl
theorem im_yX1_begin : Cond.instanceMethod yX1_begin ∈ uT := uM4 (List.mem_of_getElem? (i := 89) rfl) rfl
theorem im_yX1_breakWhatGives : Cond.instanceMethod yX1_breakWhatGives ∈ uT := uM4 (List.mem_of_getElem? (i := 57) rfl) rfl
theorem im_yX1_broken : Cond.instanceMethod yX1_broken ∈ uT := uM2 (List.mem_of_getElem? (i := 183) rfl) rfl
theorem im_yX1_change : Cond.instanceMethod yX1_change ∈ uT := uM4 (List.mem_of_getElem? (i := 217) rfl) rfl
theorem im_yX1_copy : Cond.instanceMethod yX1_copy ∈ uT := uM2 (List.mem_of_getElem? (i := 140) rfl) rfl
theorem im_yX1_dropStays : Cond.instanceMethod yX1_dropStays ∈ uT := uM4 (List.mem_of_getElem? (i := 141) rfl) rfl
theorem im_yX1_faster : Cond.instanceMethod yX1_faster ∈ uT := uM4 (List.mem_of_getElem? (i := 48) rfl) rfl
theorem im_yX1_isBroken : Cond.instanceMethod yX1_isBroken ∈ uT := uM2 (List.mem_of_getElem? (i := 188) rfl) rfl
theorem im_yX1_lay : Cond.instanceMethod yX1_lay ∈ uT := uM1 (List.mem_of_getElem? (i := 131) rfl) rfl
theorem im_yX1_leastBroken : Cond.instanceMethod yX1_leastBroken ∈ uT := uM4 (List.mem_of_getElem? (i := 123) rfl) rfl
theorem im_yX1_namesOf : Cond.instanceMethod yX1_namesOf ∈ uT := uM4 (List.mem_of_getElem? (i := 21) rfl) rfl
theorem im_yX1_pullOf : Cond.instanceMethod yX1_pullOf ∈ uT := uM4 (List.mem_of_getElem? (i := 44) rfl) rfl
theorem im_yX1_size : Cond.instanceMethod yX1_size ∈ uT := uM3 (List.mem_of_getElem? (i := 219) rfl) rfl
theorem im_yX1_still : Cond.instanceMethod yX1_still ∈ uT := uM1 (List.mem_of_getElem? (i := 136) rfl) rfl
theorem im_yX1_takeShape : Cond.instanceMethod yX1_takeShape ∈ uT := uM3 (List.mem_of_getElem? (i := 214) rfl) rfl
theorem im_yX1_tick : Cond.instanceMethod yX1_tick ∈ uT := uM4 (List.mem_of_getElem? (i := 17) rfl) rfl
theorem im_yX2_add : Cond.instanceMethod yX2_add ∈ uT := uM4 (List.mem_of_getElem? (i := 154) rfl) rfl
theorem im_yX2_copy : Cond.instanceMethod yX2_copy ∈ uT := uM2 (List.mem_of_getElem? (i := 148) rfl) rfl
theorem im_yX2_firstRowOff : Cond.instanceMethod yX2_firstRowOff ∈ uT := uM4 (List.mem_of_getElem? (i := 166) rfl) rfl
theorem im_yX3_take : Cond.instanceMethod yX3_take ∈ uT := uM3 (List.mem_of_getElem? (i := 146) rfl) rfl
theorem im_yX3_work : Cond.instanceMethod yX3_work ∈ uT := uM4 (List.mem_of_getElem? (i := 25) rfl) rfl
theorem im_yX4_add : Cond.instanceMethod yX4_add ∈ uT := uM4 (List.mem_of_getElem? (i := 181) rfl) rfl
theorem im_yX4_copy : Cond.instanceMethod yX4_copy ∈ uT := uM2 (List.mem_of_getElem? (i := 153) rfl) rfl
theorem im_yX4_costOf : Cond.instanceMethod yX4_costOf ∈ uT := uM4 (List.mem_of_getElem? (i := 204) rfl) rfl
theorem im_yX4_make : Cond.instanceMethod yX4_make ∈ uT := uM4 (List.mem_of_getElem? (i := 213) rfl) rfl
theorem im_yX4_makeAll : Cond.instanceMethod yX4_makeAll ∈ uT := uM4 (List.mem_of_getElem? (i := 209) rfl) rfl
theorem im_yX5_add : Cond.instanceMethod yX5_add ∈ uT := uM5 (List.mem_of_getElem? (i := 53) rfl) rfl
theorem im_yX5_copy : Cond.instanceMethod yX5_copy ∈ uT := uM2 (List.mem_of_getElem? (i := 163) rfl) rfl
theorem im_yX5_firstDayOf : Cond.instanceMethod yX5_firstDayOf ∈ uT := uM5 (List.mem_of_getElem? (i := 77) rfl) rfl
theorem im_yX5_knownOn : Cond.instanceMethod yX5_knownOn ∈ uT := uM5 (List.mem_of_getElem? (i := 65) rfl) rfl
theorem im_yX6_comparison : Cond.instanceMethod yX6_comparison ∈ uT := uM3 (List.mem_of_getElem? (i := 143) rfl) rfl
theorem im_yX6_condition : Cond.instanceMethod yX6_condition ∈ uT := uM3 (List.mem_of_getElem? (i := 139) rfl) rfl
theorem im_yX6_emit : Cond.instanceMethod yX6_emit ∈ uT := uM3 (List.mem_of_getElem? (i := 126) rfl) rfl
theorem im_yX6_enters : Cond.instanceMethod yX6_enters ∈ uT := uM3 (List.mem_of_getElem? (i := 131) rfl) rfl
theorem im_yX6_expect : Cond.instanceMethod yX6_expect ∈ uT := uM3 (List.mem_of_getElem? (i := 135) rfl) rfl
theorem im_yX6_factor : Cond.instanceMethod yX6_factor ∈ uT := uM3 (List.mem_of_getElem? (i := 122) rfl) rfl
theorem im_yX6_fail : Cond.instanceMethod yX6_fail ∈ uT := uM3 (List.mem_of_getElem? (i := 114) rfl) rfl
theorem im_yX6_read : Cond.instanceMethod yX6_read ∈ uT := uM3 (List.mem_of_getElem? (i := 31) rfl) rfl
theorem im_yX6_step : Cond.instanceMethod yX6_step ∈ uT := uM3 (List.mem_of_getElem? (i := 110) rfl) rfl
theorem im_yX6_sum : Cond.instanceMethod yX6_sum ∈ uT := uM3 (List.mem_of_getElem? (i := 118) rfl) rfl
theorem im_yX7_copy : Cond.instanceMethod yX7_copy ∈ uT := uM2 (List.mem_of_getElem? (i := 136) rfl) rfl
theorem im_yX8_at : Cond.instanceMethod yX8_at ∈ uT := uM2 (List.mem_of_getElem? (i := 179) rfl) rfl
theorem im_yX8_copy : Cond.instanceMethod yX8_copy ∈ uT := uM2 (List.mem_of_getElem? (i := 144) rfl) rfl
theorem im_yX8_fill : Cond.instanceMethod yX8_fill ∈ uT := uM1 (List.mem_of_getElem? (i := 139) rfl) rfl
theorem im_yX8_put : Cond.instanceMethod yX8_put ∈ uT := uM1 (List.mem_of_getElem? (i := 127) rfl) rfl
theorem im_yX9_add : Cond.instanceMethod yX9_add ∈ uT := uM3 (List.mem_of_getElem? (i := 106) rfl) rfl
theorem im_yX9_scan : Cond.instanceMethod yX9_scan ∈ uT := uM3 (List.mem_of_getElem? (i := 35) rfl) rfl
theorem im_yX9_scanOne : Cond.instanceMethod yX9_scanOne ∈ uT := uM3 (List.mem_of_getElem? (i := 41) rfl) rfl
theorem ini_E0 : Cond.initialized "java/lang/IllegalArgumentException" ∈ uT := uM1 (List.mem_of_getElem? (i := 17) rfl) rfl
theorem ini_E1 : Cond.initialized "java/util/NoSuchElementException" ∈ uT := uM1 (List.mem_of_getElem? (i := 22) rfl) rfl
theorem ini_E2 : Cond.initialized "java/lang/IndexOutOfBoundsException" ∈ uT := uM1 (List.mem_of_getElem? (i := 23) rfl) rfl
theorem ini_J0 : Cond.initialized RJ0 ∈ uT := uM1 (List.mem_of_getElem? (i := 18) rfl) rfl
theorem ini_Math : Cond.initialized "java/lang/Math" ∈ uT := uM1 (List.mem_of_getElem? (i := 3) rfl) rfl
theorem ini_X0 : Cond.initialized RX0 ∈ uT := uM1 (List.mem_of_getElem? (i := 10) rfl) rfl
theorem ini_X1 : Cond.initialized RX1 ∈ uT := uM1 (List.mem_of_getElem? (i := 7) rfl) rfl
theorem ini_X10 : Cond.initialized RX10 ∈ uT := uM1 (List.mem_of_getElem? (i := 1) rfl) rfl
theorem ini_X11 : Cond.initialized RX11 ∈ uT := uM1 (List.mem_of_getElem? (i := 13) rfl) rfl
theorem ini_X2 : Cond.initialized RX2 ∈ uT := uM1 (List.mem_of_getElem? (i := 8) rfl) rfl
theorem ini_X3 : Cond.initialized RX3 ∈ uT := uM1 (List.mem_of_getElem? (i := 12) rfl) rfl
theorem ini_X4 : Cond.initialized RX4 ∈ uT := uM1 (List.mem_of_getElem? (i := 9) rfl) rfl
theorem ini_X5 : Cond.initialized RX5 ∈ uT := uM1 (List.mem_of_getElem? (i := 11) rfl) rfl
theorem ini_X6 : Cond.initialized RX6 ∈ uT := uM1 (List.mem_of_getElem? (i := 4) rfl) rfl
theorem ini_X7 : Cond.initialized RX7 ∈ uT := uM1 (List.mem_of_getElem? (i := 6) rfl) rfl
theorem ini_X8 : Cond.initialized RX8 ∈ uT := uM1 (List.mem_of_getElem? (i := 2) rfl) rfl
theorem ini_X9 : Cond.initialized RX9 ∈ uT := uM1 (List.mem_of_getElem? (i := 5) rfl) rfl
theorem ml_L_100 : Cond.methodLink RL 100 yX10_known ∈ uT := uM5 (List.mem_of_getElem? (i := 60) rfl) rfl
theorem ml_L_103 : Cond.methodLink RL 103 yX10_could ∈ uT := uM5 (List.mem_of_getElem? (i := 72) rfl) rfl
theorem ml_L_106 : Cond.methodLink RL 106 yX10_shut ∈ uT := uM5 (List.mem_of_getElem? (i := 84) rfl) rfl
theorem ml_L_15 : Cond.methodLink RL 15 yX10_deck ∈ uT := uM3 (List.mem_of_getElem? (i := 153) rfl) rfl
theorem ml_L_18 : Cond.methodLink RL 18 yX10_set ∈ uT := uM3 (List.mem_of_getElem? (i := 161) rfl) rfl
theorem ml_L_22 : Cond.methodLink RL 22 yX10_stay ∈ uT := uM3 (List.mem_of_getElem? (i := 179) rfl) rfl
theorem ml_L_28 : Cond.methodLink RL 28 yX10_shape ∈ uT := uM3 (List.mem_of_getElem? (i := 206) rfl) rfl
theorem ml_L_32 : Cond.methodLink RL 32 yX10_go ∈ uT := uM3 (List.mem_of_getElem? (i := 229) rfl) rfl
theorem ml_L_37 : Cond.methodLink RL 37 yX10_piece ∈ uT := uM4 (List.mem_of_getElem? (i := 62) rfl) rfl
theorem ml_L_40 : Cond.methodLink RL 40 yX10_push ∈ uT := uM4 (List.mem_of_getElem? (i := 70) rfl) rfl
theorem ml_L_44 : Cond.methodLink RL 44 yX10_grows ∈ uT := uM4 (List.mem_of_getElem? (i := 79) rfl) rfl
theorem ml_L_48 : Cond.methodLink RL 48 yX10_line ∈ uT := uM4 (List.mem_of_getElem? (i := 96) rfl) rfl
theorem ml_L_51 : Cond.methodLink RL 51 yX10_why ∈ uT := uM4 (List.mem_of_getElem? (i := 107) rfl) rfl
theorem ml_L_55 : Cond.methodLink RL 55 yX10_first ∈ uT := uM4 (List.mem_of_getElem? (i := 114) rfl) rfl
theorem ml_L_59 : Cond.methodLink RL 59 yX10_where ∈ uT := uM4 (List.mem_of_getElem? (i := 129) rfl) rfl
theorem ml_L_62 : Cond.methodLink RL 62 yX10_slip ∈ uT := uM4 (List.mem_of_getElem? (i := 136) rfl) rfl
theorem ml_L_65 : Cond.methodLink RL 65 yX10_film ∈ uT := uM4 (List.mem_of_getElem? (i := 147) rfl) rfl
theorem ml_L_68 : Cond.methodLink RL 68 yX10_barred ∈ uT := uM4 (List.mem_of_getElem? (i := 161) rfl) rfl
theorem ml_L_7 : Cond.methodLink RL 7 yX10_law ∈ uT := uM2 (List.mem_of_getElem? (i := 195) rfl) rfl
theorem ml_L_72 : Cond.methodLink RL 72 yX10_mend ∈ uT := uM4 (List.mem_of_getElem? (i := 174) rfl) rfl
theorem ml_L_75 : Cond.methodLink RL 75 yX10_calm ∈ uT := uM4 (List.mem_of_getElem? (i := 188) rfl) rfl
theorem ml_L_79 : Cond.methodLink RL 79 yX10_mended ∈ uT := uM4 (List.mem_of_getElem? (i := 199) rfl) rfl
theorem ml_L_82 : Cond.methodLink RL 82 yX10_week ∈ uT := uM4 (List.mem_of_getElem? (i := 226) rfl) rfl
theorem ml_L_85 : Cond.methodLink RL 85 yX10_span ∈ uT := uM4 (List.mem_of_getElem? (i := 238) rfl) rfl
theorem ml_L_88 : Cond.methodLink RL 88 yX10_bridge ∈ uT := uM5 (List.mem_of_getElem? (i := 8) rfl) rfl
theorem ml_L_91 : Cond.methodLink RL 91 yX10_blows ∈ uT := uM5 (List.mem_of_getElem? (i := 20) rfl) rfl
theorem ml_L_94 : Cond.methodLink RL 94 yX10_hours ∈ uT := uM5 (List.mem_of_getElem? (i := 37) rfl) rfl
theorem ml_L_97 : Cond.methodLink RL 97 yX10_paper ∈ uT := uM5 (List.mem_of_getElem? (i := 48) rfl) rfl
theorem ml_X0_25 : Cond.methodLink RX0 25 yX8_put ∈ uT := uM5 (List.mem_of_getElem? (i := 16) rfl) rfl
theorem ml_X0_29 : Cond.methodLink RX0 29 yX8_at ∈ uT := uM5 (List.mem_of_getElem? (i := 33) rfl) rfl
theorem ml_X0_33 : Cond.methodLink RX0 33 yX8_copy ∈ uT := uM2 (List.mem_of_getElem? (i := 161) rfl) rfl
theorem ml_X10_102 : Cond.methodLink RX10 102 yX10_leastOf ∈ uT := uM3 (List.mem_of_getElem? (i := 165) rfl) rfl
theorem ml_X10_106 : Cond.methodLink RX10 106 yX10_mostOf ∈ uT := uM3 (List.mem_of_getElem? (i := 170) rfl) rfl
theorem ml_X10_112 : Cond.methodLink RX10 112 yX8_at ∈ uT := uM2 (List.mem_of_getElem? (i := 178) rfl) rfl
theorem ml_X10_115 : Cond.methodLink RX10 115 yX8_put ∈ uT := uM2 (List.mem_of_getElem? (i := 126) rfl) rfl
theorem ml_X10_119 : Cond.methodLink RX10 119 yX10_demandPiece ∈ uT := uM3 (List.mem_of_getElem? (i := 183) rfl) rfl
theorem ml_X10_125 : Cond.methodLink RX10 125 yX10_demandShape ∈ uT := uM3 (List.mem_of_getElem? (i := 210) rfl) rfl
theorem ml_X10_128 : Cond.methodLink RX10 128 yX1_takeShape ∈ uT := uM3 (List.mem_of_getElem? (i := 213) rfl) rfl
theorem ml_X10_132 : Cond.methodLink RX10 132 yX1_size ∈ uT := uM3 (List.mem_of_getElem? (i := 218) rfl) rfl
theorem ml_X10_135 : Cond.methodLink RX10 135 yX10_lawNumbered ∈ uT := uM3 (List.mem_of_getElem? (i := 233) rfl) rfl
theorem ml_X10_139 : Cond.methodLink RX10 139 yX10_demandWind ∈ uT := uM4 (List.mem_of_getElem? (i := 13) rfl) rfl
theorem ml_X10_142 : Cond.methodLink RX10 142 yX1_tick ∈ uT := uM4 (List.mem_of_getElem? (i := 16) rfl) rfl
theorem ml_X10_168 : Cond.methodLink RX10 168 yX1_namesOf ∈ uT := uM4 (List.mem_of_getElem? (i := 74) rfl) rfl
theorem ml_X10_172 : Cond.methodLink RX10 172 yX3_work ∈ uT := uM4 (List.mem_of_getElem? (i := 75) rfl) rfl
theorem ml_X10_182 : Cond.methodLink RX10 182 yX1_copy ∈ uT := uM4 (List.mem_of_getElem? (i := 83) rfl) rfl
theorem ml_X10_186 : Cond.methodLink RX10 186 yX10_trialGrows ∈ uT := uM4 (List.mem_of_getElem? (i := 84) rfl) rfl
theorem ml_X10_190 : Cond.methodLink RX10 190 yX10_lineBy ∈ uT := uM4 (List.mem_of_getElem? (i := 100) rfl) rfl
theorem ml_X10_194 : Cond.methodLink RX10 194 yX10_runTillBroken ∈ uT := uM4 (List.mem_of_getElem? (i := 118) rfl) rfl
theorem ml_X10_198 : Cond.methodLink RX10 198 yX1_leastBroken ∈ uT := uM4 (List.mem_of_getElem? (i := 122) rfl) rfl
theorem ml_X10_202 : Cond.methodLink RX10 202 yX1_dropStays ∈ uT := uM4 (List.mem_of_getElem? (i := 140) rfl) rfl
theorem ml_X10_211 : Cond.methodLink RX10 211 yX2_add ∈ uT := uM4 (List.mem_of_getElem? (i := 153) rfl) rfl
theorem ml_X10_217 : Cond.methodLink RX10 217 yX1_begin ∈ uT := uM4 (List.mem_of_getElem? (i := 88) rfl) rfl
theorem ml_X10_220 : Cond.methodLink RX10 220 yX2_firstRowOff ∈ uT := uM4 (List.mem_of_getElem? (i := 165) rfl) rfl
theorem ml_X10_230 : Cond.methodLink RX10 230 yX4_add ∈ uT := uM4 (List.mem_of_getElem? (i := 180) rfl) rfl
theorem ml_X10_235 : Cond.methodLink RX10 235 yX10_trialIsCalmUpTo ∈ uT := uM4 (List.mem_of_getElem? (i := 192) rfl) rfl
theorem ml_X10_242 : Cond.methodLink RX10 242 yX4_costOf ∈ uT := uM4 (List.mem_of_getElem? (i := 203) rfl) rfl
theorem ml_X10_245 : Cond.methodLink RX10 245 yX4_makeAll ∈ uT := uM4 (List.mem_of_getElem? (i := 208) rfl) rfl
theorem ml_X10_249 : Cond.methodLink RX10 249 yX10_bestMend ∈ uT := uM4 (List.mem_of_getElem? (i := 230) rfl) rfl
theorem ml_X10_253 : Cond.methodLink RX10 253 yX4_make ∈ uT := uM4 (List.mem_of_getElem? (i := 234) rfl) rfl
theorem ml_X10_256 : Cond.methodLink RX10 256 Lib.Math.max.name ∈ uT := uM4 (List.mem_of_getElem? (i := 41) rfl) rfl
theorem ml_X10_262 : Cond.methodLink RX10 262 yX10_leastLine ∈ uT := uM5 (List.mem_of_getElem? (i := 2) rfl) rfl
theorem ml_X10_269 : Cond.methodLink RX10 269 yX0_add ∈ uT := uM5 (List.mem_of_getElem? (i := 12) rfl) rfl
theorem ml_X10_273 : Cond.methodLink RX10 273 yX10_demandBridge ∈ uT := uM5 (List.mem_of_getElem? (i := 24) rfl) rfl
theorem ml_X10_276 : Cond.methodLink RX10 276 yX0_change ∈ uT := uM5 (List.mem_of_getElem? (i := 29) rfl) rfl
theorem ml_X10_279 : Cond.methodLink RX10 279 yX0_hoursOf ∈ uT := uM5 (List.mem_of_getElem? (i := 41) rfl) rfl
theorem ml_X10_286 : Cond.methodLink RX10 286 yX5_add ∈ uT := uM5 (List.mem_of_getElem? (i := 52) rfl) rfl
theorem ml_X10_289 : Cond.methodLink RX10 289 yX5_knownOn ∈ uT := uM5 (List.mem_of_getElem? (i := 64) rfl) rfl
theorem ml_X10_292 : Cond.methodLink RX10 292 yX5_firstDayOf ∈ uT := uM5 (List.mem_of_getElem? (i := 76) rfl) rfl
theorem ml_X10_298 : Cond.methodLink RX10 298 yX7_copy ∈ uT := uM2 (List.mem_of_getElem? (i := 135) rfl) rfl
theorem ml_X10_307 : Cond.methodLink RX10 307 yX1_broken ∈ uT := uM2 (List.mem_of_getElem? (i := 182) rfl) rfl
theorem ml_X10_324 : Cond.methodLink RX10 324 Lib.Math.min.name ∈ uT := uM4 (List.mem_of_getElem? (i := 40) rfl) rfl
theorem ml_X10_60 : Cond.methodLink RX10 60 yX10_putOnTape ∈ uT := uM2 (List.mem_of_getElem? (i := 122) rfl) rfl
theorem ml_X10_63 : Cond.methodLink RX10 63 yX10_within ∈ uT := uM2 (List.mem_of_getElem? (i := 175) rfl) rfl
theorem ml_X10_67 : Cond.methodLink RX10 67 yX10_demand ∈ uT := uM2 (List.mem_of_getElem? (i := 199) rfl) rfl
theorem ml_X10_74 : Cond.methodLink RX10 74 yX6_read ∈ uT := uM3 (List.mem_of_getElem? (i := 30) rfl) rfl
theorem ml_X10_90 : Cond.methodLink RX10 90 yX3_take ∈ uT := uM3 (List.mem_of_getElem? (i := 145) rfl) rfl
theorem ml_X10_99 : Cond.methodLink RX10 99 yX1_lay ∈ uT := uM3 (List.mem_of_getElem? (i := 157) rfl) rfl
theorem ml_X11_108 : Cond.methodLink RX11 108 yX11_isDigit ∈ uT := uM6 (List.mem_of_getElem? (i := 46) rfl) rfl
theorem ml_X11_113 : Cond.methodLink RX11 113 yX11_wrong ∈ uT := uM6 (List.mem_of_getElem? (i := 26) rfl) rfl
theorem ml_X11_117 : Cond.methodLink RX11 117 yX11_tells ∈ uT := uM6 (List.mem_of_getElem? (i := 54) rfl) rfl
theorem ml_X11_121 : Cond.methodLink RX11 121 yX11_blanks ∈ uT := uM6 (List.mem_of_getElem? (i := 3) rfl) rfl
theorem ml_X11_124 : Cond.methodLink RX11 124 yX11_wordHere ∈ uT := uM6 (List.mem_of_getElem? (i := 19) rfl) rfl
theorem ml_X11_128 : Cond.methodLink RX11 128 yX11_word ∈ uT := uM6 (List.mem_of_getElem? (i := 23) rfl) rfl
theorem ml_X11_135 : Cond.methodLink RX11 135 yX11_isWord ∈ uT := uM6 (List.mem_of_getElem? (i := 15) rfl) rfl
theorem ml_X11_139 : Cond.methodLink RX11 139 yX11_numberHere ∈ uT := uM6 (List.mem_of_getElem? (i := 49) rfl) rfl
theorem ml_X11_142 : Cond.methodLink RX11 142 yX11_nameHere ∈ uT := uM6 (List.mem_of_getElem? (i := 58) rfl) rfl
theorem ml_X11_145 : Cond.methodLink RX11 145 yX11_skipWord ∈ uT := uM6 (List.mem_of_getElem? (i := 30) rfl) rfl
theorem ml_X11_148 : Cond.methodLink RX11 148 yX11_opens ∈ uT := uM6 (List.mem_of_getElem? (i := 62) rfl) rfl
theorem ml_X11_151 : Cond.methodLink RX11 151 yX11_sum ∈ uT := uM6 (List.mem_of_getElem? (i := 34) rfl) rfl
theorem ml_X11_154 : Cond.methodLink RX11 154 yX11_sign ∈ uT := uM6 (List.mem_of_getElem? (i := 66) rfl) rfl
theorem ml_X11_157 : Cond.methodLink RX11 157 yX11_unit ∈ uT := uM6 (List.mem_of_getElem? (i := 42) rfl) rfl
theorem ml_X11_160 : Cond.methodLink RX11 160 yX11_product ∈ uT := uM6 (List.mem_of_getElem? (i := 38) rfl) rfl
theorem ml_X11_163 : Cond.methodLink RX11 163 yX11_test ∈ uT := uM6 (List.mem_of_getElem? (i := 78) rfl) rfl
theorem ml_X11_166 : Cond.methodLink RX11 166 yX11_ors ∈ uT := uM6 (List.mem_of_getElem? (i := 70) rfl) rfl
theorem ml_X11_169 : Cond.methodLink RX11 169 yX11_ands ∈ uT := uM6 (List.mem_of_getElem? (i := 74) rfl) rfl
theorem ml_X11_172 : Cond.methodLink RX11 172 yX11_in ∈ uT := uM5 (List.mem_of_getElem? (i := 236) rfl) rfl
theorem ml_X11_176 : Cond.methodLink RX11 176 yX11_bad ∈ uT := uM5 (List.mem_of_getElem? (i := 239) rfl) rfl
theorem ml_X11_183 : Cond.methodLink RX11 183 yX11_clause ∈ uT := uM6 (List.mem_of_getElem? (i := 11) rfl) rfl
theorem ml_X11_186 : Cond.methodLink RX11 186 yX11_worked ∈ uT := uM6 (List.mem_of_getElem? (i := 147) rfl) rfl
theorem ml_X11_191 : Cond.methodLink RX11 191 yX11_within ∈ uT := uM6 (List.mem_of_getElem? (i := 151) rfl) rfl
theorem ml_X11_204 : Cond.methodLink RX11 204 yX11_lowest ∈ uT := uM6 (List.mem_of_getElem? (i := 94) rfl) rfl
theorem ml_X11_207 : Cond.methodLink RX11 207 yX11_highest ∈ uT := uM6 (List.mem_of_getElem? (i := 97) rfl) rfl
theorem ml_X11_210 : Cond.methodLink RX11 210 yX11_isPiece ∈ uT := uM6 (List.mem_of_getElem? (i := 105) rfl) rfl
theorem ml_X11_213 : Cond.methodLink RX11 213 yX11_isShape ∈ uT := uM6 (List.mem_of_getElem? (i := 113) rfl) rfl
theorem ml_X11_217 : Cond.methodLink RX11 217 yX11_shapes ∈ uT := uM6 (List.mem_of_getElem? (i := 116) rfl) rfl
theorem ml_X11_221 : Cond.methodLink RX11 221 yX11_sizeOf ∈ uT := uM6 (List.mem_of_getElem? (i := 120) rfl) rfl
theorem ml_X11_224 : Cond.methodLink RX11 224 yX11_amount ∈ uT := uM6 (List.mem_of_getElem? (i := 124) rfl) rfl
theorem ml_X11_227 : Cond.methodLink RX11 227 yX11_beside ∈ uT := uM6 (List.mem_of_getElem? (i := 158) rfl) rfl
theorem ml_X11_230 : Cond.methodLink RX11 230 yX11_tellsNames ∈ uT := uM6 (List.mem_of_getElem? (i := 139) rfl) rfl
theorem ml_X11_233 : Cond.methodLink RX11 233 yX11_asks ∈ uT := uM6 (List.mem_of_getElem? (i := 143) rfl) rfl
theorem ml_X11_236 : Cond.methodLink RX11 236 yX11_pulls ∈ uT := uM6 (List.mem_of_getElem? (i := 154) rfl) rfl
theorem ml_X11_242 : Cond.methodLink RX11 242 yX11_isLaw ∈ uT := uM6 (List.mem_of_getElem? (i := 131) rfl) rfl
theorem ml_X11_245 : Cond.methodLink RX11 245 yX11_tick ∈ uT := uM6 (List.mem_of_getElem? (i := 135) rfl) rfl
theorem ml_X11_251 : Cond.methodLink RX11 251 yX11_lays ∈ uT := uM6 (List.mem_of_getElem? (i := 188) rfl) rfl
theorem ml_X11_254 : Cond.methodLink RX11 254 yX11_begins ∈ uT := uM6 (List.mem_of_getElem? (i := 184) rfl) rfl
theorem ml_X11_257 : Cond.methodLink RX11 257 yX11_laysBack ∈ uT := uM6 (List.mem_of_getElem? (i := 192) rfl) rfl
theorem ml_X11_260 : Cond.methodLink RX11 260 yX11_badTrial ∈ uT := uM6 (List.mem_of_getElem? (i := 176) rfl) rfl
theorem ml_X11_264 : Cond.methodLink RX11 264 yX11_growsBy ∈ uT := uM6 (List.mem_of_getElem? (i := 180) rfl) rfl
theorem ml_X11_268 : Cond.methodLink RX11 268 yX11_lineOf ∈ uT := uM6 (List.mem_of_getElem? (i := 200) rfl) rfl
theorem ml_X11_271 : Cond.methodLink RX11 271 yX11_isSo ∈ uT := uM6 (List.mem_of_getElem? (i := 216) rfl) rfl
theorem ml_X11_275 : Cond.methodLink RX11 275 yX11_firstOf ∈ uT := uM6 (List.mem_of_getElem? (i := 212) rfl) rfl
theorem ml_X11_286 : Cond.methodLink RX11 286 yX11_isCalm ∈ uT := uM7 (List.mem_of_getElem? (i := 9) rfl) rfl
theorem ml_X11_289 : Cond.methodLink RX11 289 yX11_makes ∈ uT := uM7 (List.mem_of_getElem? (i := 17) rfl) rfl
theorem ml_X11_298 : Cond.methodLink RX11 298 yX11_isBridge ∈ uT := uM7 (List.mem_of_getElem? (i := 41) rfl) rfl
theorem ml_X11_304 : Cond.methodLink RX11 304 yX11_knownOn ∈ uT := uM7 (List.mem_of_getElem? (i := 57) rfl) rfl
theorem ml_X11_310 : Cond.methodLink RX11 310 yX11_moves ∈ uT := uM7 (List.mem_of_getElem? (i := 73) rfl) rfl
theorem ml_X11_314 : Cond.methodLink RX11 314 yX11_movesRow ∈ uT := uM7 (List.mem_of_getElem? (i := 77) rfl) rfl
theorem ml_X11_321 : Cond.methodLink RX11 321 yX11_movesAll ∈ uT := uM7 (List.mem_of_getElem? (i := 69) rfl) rfl
theorem ml_X11_95 : Cond.methodLink RX11 95 yX11_byteAt ∈ uT := uM6 (List.mem_of_getElem? (i := 7) rfl) rfl
theorem ml_X1_100 : Cond.methodLink RX1 100 yX3_work ∈ uT := uM4 (List.mem_of_getElem? (i := 24) rfl) rfl
theorem ml_X1_105 : Cond.methodLink RX1 105 yX1_pullOf ∈ uT := uM4 (List.mem_of_getElem? (i := 42) rfl) rfl
theorem ml_X1_112 : Cond.methodLink RX1 112 yX1_faster ∈ uT := uM4 (List.mem_of_getElem? (i := 46) rfl) rfl
theorem ml_X1_118 : Cond.methodLink RX1 118 yX1_reach ∈ uT := uM4 (List.mem_of_getElem? (i := 50) rfl) rfl
theorem ml_X1_121 : Cond.methodLink RX1 121 yX1_breakWhatGives ∈ uT := uM4 (List.mem_of_getElem? (i := 55) rfl) rfl
theorem ml_X1_126 : Cond.methodLink RX1 126 yX1_isBroken ∈ uT := uM2 (List.mem_of_getElem? (i := 186) rfl) rfl
theorem ml_X1_45 : Cond.methodLink RX1 45 yX8_put ∈ uT := uM1 (List.mem_of_getElem? (i := 126) rfl) rfl
theorem ml_X1_59 : Cond.methodLink RX1 59 yX1_still ∈ uT := uM1 (List.mem_of_getElem? (i := 134) rfl) rfl
theorem ml_X1_62 : Cond.methodLink RX1 62 yX8_fill ∈ uT := uM1 (List.mem_of_getElem? (i := 138) rfl) rfl
theorem ml_X1_65 : Cond.methodLink RX1 65 yX8_copy ∈ uT := uM2 (List.mem_of_getElem? (i := 143) rfl) rfl
theorem ml_X1_69 : Cond.methodLink RX1 69 yX8_at ∈ uT := uM2 (List.mem_of_getElem? (i := 190) rfl) rfl
theorem ml_X1_73 : Cond.methodLink RX1 73 yX1_takeShape ∈ uT := uM4 (List.mem_of_getElem? (i := 92) rfl) rfl
theorem ml_X1_77 : Cond.methodLink RX1 77 Lib.Math.max.name ∈ uT := uM3 (List.mem_of_getElem? (i := 217) rfl) rfl
theorem ml_X1_83 : Cond.methodLink RX1 83 Lib.Math.abs.name ∈ uT := uM3 (List.mem_of_getElem? (i := 222) rfl) rfl
theorem ml_X1_96 : Cond.methodLink RX1 96 yX1_namesOf ∈ uT := uM4 (List.mem_of_getElem? (i := 20) rfl) rfl
theorem ml_X2_33 : Cond.methodLink RX2 33 yX8_put ∈ uT := uM4 (List.mem_of_getElem? (i := 157) rfl) rfl
theorem ml_X2_37 : Cond.methodLink RX2 37 yX8_at ∈ uT := uM4 (List.mem_of_getElem? (i := 169) rfl) rfl
theorem ml_X2_46 : Cond.methodLink RX2 46 Lib.Math.abs.name ∈ uT := uM4 (List.mem_of_getElem? (i := 170) rfl) rfl
theorem ml_X2_52 : Cond.methodLink RX2 52 yX8_copy ∈ uT := uM2 (List.mem_of_getElem? (i := 151) rfl) rfl
theorem ml_X3_23 : Cond.methodLink RX3 23 yX8_copy ∈ uT := uM3 (List.mem_of_getElem? (i := 149) rfl) rfl
theorem ml_X3_31 : Cond.methodLink RX3 31 yX8_at ∈ uT := uM4 (List.mem_of_getElem? (i := 28) rfl) rfl
theorem ml_X3_35 : Cond.methodLink RX3 35 yX8_put ∈ uT := uM4 (List.mem_of_getElem? (i := 29) rfl) rfl
theorem ml_X3_39 : Cond.methodLink RX3 39 yX3_ofTwo ∈ uT := uM4 (List.mem_of_getElem? (i := 30) rfl) rfl
theorem ml_X3_54 : Cond.methodLink RX3 54 Lib.Math.min.name ∈ uT := uM4 (List.mem_of_getElem? (i := 33) rfl) rfl
theorem ml_X3_60 : Cond.methodLink RX3 60 Lib.Math.max.name ∈ uT := uM4 (List.mem_of_getElem? (i := 34) rfl) rfl
theorem ml_X4_28 : Cond.methodLink RX4 28 yX8_put ∈ uT := uM4 (List.mem_of_getElem? (i := 184) rfl) rfl
theorem ml_X4_32 : Cond.methodLink RX4 32 yX8_at ∈ uT := uM4 (List.mem_of_getElem? (i := 207) rfl) rfl
theorem ml_X4_36 : Cond.methodLink RX4 36 yX1_change ∈ uT := uM4 (List.mem_of_getElem? (i := 216) rfl) rfl
theorem ml_X4_41 : Cond.methodLink RX4 41 yX4_make ∈ uT := uM4 (List.mem_of_getElem? (i := 212) rfl) rfl
theorem ml_X4_45 : Cond.methodLink RX4 45 yX8_copy ∈ uT := uM2 (List.mem_of_getElem? (i := 156) rfl) rfl
theorem ml_X5_30 : Cond.methodLink RX5 30 yX8_put ∈ uT := uM5 (List.mem_of_getElem? (i := 56) rfl) rfl
theorem ml_X5_34 : Cond.methodLink RX5 34 yX8_at ∈ uT := uM5 (List.mem_of_getElem? (i := 68) rfl) rfl
theorem ml_X5_38 : Cond.methodLink RX5 38 yX5_knownOn ∈ uT := uM5 (List.mem_of_getElem? (i := 80) rfl) rfl
theorem ml_X5_41 : Cond.methodLink RX5 41 yX8_copy ∈ uT := uM2 (List.mem_of_getElem? (i := 166) rfl) rfl
theorem ml_X6_27 : Cond.methodLink RX6 27 yX9_scan ∈ uT := uM3 (List.mem_of_getElem? (i := 34) rfl) rfl
theorem ml_X6_44 : Cond.methodLink RX6 44 yX6_step ∈ uT := uM3 (List.mem_of_getElem? (i := 108) rfl) rfl
theorem ml_X6_50 : Cond.methodLink RX6 50 yX6_fail ∈ uT := uM3 (List.mem_of_getElem? (i := 112) rfl) rfl
theorem ml_X6_53 : Cond.methodLink RX6 53 yX6_sum ∈ uT := uM3 (List.mem_of_getElem? (i := 116) rfl) rfl
theorem ml_X6_56 : Cond.methodLink RX6 56 yX6_condition ∈ uT := uM3 (List.mem_of_getElem? (i := 137) rfl) rfl
theorem ml_X6_59 : Cond.methodLink RX6 59 yX6_emit ∈ uT := uM3 (List.mem_of_getElem? (i := 124) rfl) rfl
theorem ml_X6_62 : Cond.methodLink RX6 62 yX6_expect ∈ uT := uM3 (List.mem_of_getElem? (i := 133) rfl) rfl
theorem ml_X6_65 : Cond.methodLink RX6 65 yX6_factor ∈ uT := uM3 (List.mem_of_getElem? (i := 120) rfl) rfl
theorem ml_X6_71 : Cond.methodLink RX6 71 yX6_enters ∈ uT := uM3 (List.mem_of_getElem? (i := 129) rfl) rfl
theorem ml_X6_75 : Cond.methodLink RX6 75 yX6_comparison ∈ uT := uM3 (List.mem_of_getElem? (i := 141) rfl) rfl
theorem ml_X6_91 : Cond.methodLink RX6 91 yX8_put ∈ uT := uM3 (List.mem_of_getElem? (i := 128) rfl) rfl
theorem ml_X7_44 : Cond.methodLink RX7 44 yX1_copy ∈ uT := uM2 (List.mem_of_getElem? (i := 139) rfl) rfl
theorem ml_X7_48 : Cond.methodLink RX7 48 yX2_copy ∈ uT := uM2 (List.mem_of_getElem? (i := 147) rfl) rfl
theorem ml_X7_51 : Cond.methodLink RX7 51 yX4_copy ∈ uT := uM2 (List.mem_of_getElem? (i := 152) rfl) rfl
theorem ml_X7_54 : Cond.methodLink RX7 54 yX0_copy ∈ uT := uM2 (List.mem_of_getElem? (i := 157) rfl) rfl
theorem ml_X7_57 : Cond.methodLink RX7 57 yX5_copy ∈ uT := uM2 (List.mem_of_getElem? (i := 162) rfl) rfl
theorem ml_X9_25 : Cond.methodLink RX9 25 yX8_at ∈ uT := uM3 (List.mem_of_getElem? (i := 38) rfl) rfl
theorem ml_X9_31 : Cond.methodLink RX9 31 yX9_scanOne ∈ uT := uM3 (List.mem_of_getElem? (i := 39) rfl) rfl
theorem ml_X9_35 : Cond.methodLink RX9 35 yX9_add ∈ uT := uM3 (List.mem_of_getElem? (i := 104) rfl) rfl
theorem ml_X9_39 : Cond.methodLink RX9 39 yX9_isDigit ∈ uT := uM3 (List.mem_of_getElem? (i := 43) rfl) rfl
theorem ml_X9_45 : Cond.methodLink RX9 45 Lib.Math.min.name ∈ uT := uM3 (List.mem_of_getElem? (i := 46) rfl) rfl
theorem ml_X9_51 : Cond.methodLink RX9 51 yX9_isLetter ∈ uT := uM3 (List.mem_of_getElem? (i := 49) rfl) rfl
theorem ml_X9_54 : Cond.methodLink RX9 54 yX9_wordAt ∈ uT := uM3 (List.mem_of_getElem? (i := 52) rfl) rfl
theorem ml_X9_59 : Cond.methodLink RX9 59 yJ0_length_8abf5 ∈ uT := uM3 (List.mem_of_getElem? (i := 56) rfl) rfl
theorem ml_X9_65 : Cond.methodLink RX9 65 yJ0_charAt_5068e ∈ uT := uM3 (List.mem_of_getElem? (i := 66) rfl) rfl
theorem se_yJ0_charAt_5068e : Cond.selects yJ0_charAt_5068e.cls yJ0_charAt_5068e yJ0_charAt_5068e ∈ uT := uM3 (List.mem_of_getElem? (i := 68) rfl) rfl
theorem se_yJ0_length_8abf5 : Cond.selects yJ0_length_8abf5.cls yJ0_length_8abf5 yJ0_length_8abf5 ∈ uT := uM3 (List.mem_of_getElem? (i := 58) rfl) rfl
theorem se_yX0_add : Cond.selects yX0_add.cls yX0_add yX0_add ∈ uT := uM5 (List.mem_of_getElem? (i := 14) rfl) rfl
theorem se_yX0_change : Cond.selects yX0_change.cls yX0_change yX0_change ∈ uT := uM5 (List.mem_of_getElem? (i := 31) rfl) rfl
theorem se_yX0_copy : Cond.selects yX0_copy.cls yX0_copy yX0_copy ∈ uT := uM2 (List.mem_of_getElem? (i := 159) rfl) rfl
theorem se_yX0_hoursOf : Cond.selects yX0_hoursOf.cls yX0_hoursOf yX0_hoursOf ∈ uT := uM5 (List.mem_of_getElem? (i := 43) rfl) rfl
theorem se_yX10_barred : Cond.selects yX10_barred.cls yX10_barred yX10_barred ∈ uT := uM4 (List.mem_of_getElem? (i := 163) rfl) rfl
theorem se_yX10_bestMend : Cond.selects yX10_bestMend.cls yX10_bestMend yX10_bestMend ∈ uT := uMp (List.mem_map.mpr ⟨_, uP2 (List.mem_of_getElem? (i := 8) rfl), rfl⟩) rfl
theorem se_yX10_blows : Cond.selects yX10_blows.cls yX10_blows yX10_blows ∈ uT := uM5 (List.mem_of_getElem? (i := 22) rfl) rfl
theorem se_yX10_bridge : Cond.selects yX10_bridge.cls yX10_bridge yX10_bridge ∈ uT := uM5 (List.mem_of_getElem? (i := 10) rfl) rfl
theorem se_yX10_calm : Cond.selects yX10_calm.cls yX10_calm yX10_calm ∈ uT := uM4 (List.mem_of_getElem? (i := 190) rfl) rfl
theorem se_yX10_could : Cond.selects yX10_could.cls yX10_could yX10_could ∈ uT := uM5 (List.mem_of_getElem? (i := 74) rfl) rfl
theorem se_yX10_deck : Cond.selects yX10_deck.cls yX10_deck yX10_deck ∈ uT := uM3 (List.mem_of_getElem? (i := 155) rfl) rfl
theorem se_yX10_demandBridge : Cond.selects yX10_demandBridge.cls yX10_demandBridge yX10_demandBridge ∈ uT := uMp (List.mem_map.mpr ⟨_, uP2 (List.mem_of_getElem? (i := 9) rfl), rfl⟩) rfl
theorem se_yX10_demandPiece : Cond.selects yX10_demandPiece.cls yX10_demandPiece yX10_demandPiece ∈ uT := uMp (List.mem_map.mpr ⟨_, uP1 (List.mem_of_getElem? (i := 15) rfl), rfl⟩) rfl
theorem se_yX10_film : Cond.selects yX10_film.cls yX10_film yX10_film ∈ uT := uM4 (List.mem_of_getElem? (i := 149) rfl) rfl
theorem se_yX10_first : Cond.selects yX10_first.cls yX10_first yX10_first ∈ uT := uM4 (List.mem_of_getElem? (i := 116) rfl) rfl
theorem se_yX10_go : Cond.selects yX10_go.cls yX10_go yX10_go ∈ uT := uM3 (List.mem_of_getElem? (i := 231) rfl) rfl
theorem se_yX10_grows : Cond.selects yX10_grows.cls yX10_grows yX10_grows ∈ uT := uM4 (List.mem_of_getElem? (i := 81) rfl) rfl
theorem se_yX10_hours : Cond.selects yX10_hours.cls yX10_hours yX10_hours ∈ uT := uM5 (List.mem_of_getElem? (i := 39) rfl) rfl
theorem se_yX10_known : Cond.selects yX10_known.cls yX10_known yX10_known ∈ uT := uM5 (List.mem_of_getElem? (i := 62) rfl) rfl
theorem se_yX10_law : Cond.selects yX10_law.cls yX10_law yX10_law ∈ uT := uM2 (List.mem_of_getElem? (i := 197) rfl) rfl
theorem se_yX10_lawNumbered : Cond.selects yX10_lawNumbered.cls yX10_lawNumbered yX10_lawNumbered ∈ uT := uMp (List.mem_map.mpr ⟨_, uP2 (List.mem_of_getElem? (i := 0) rfl), rfl⟩) rfl
theorem se_yX10_line : Cond.selects yX10_line.cls yX10_line yX10_line ∈ uT := uM4 (List.mem_of_getElem? (i := 98) rfl) rfl
theorem se_yX10_lineBy : Cond.selects yX10_lineBy.cls yX10_lineBy yX10_lineBy ∈ uT := uMp (List.mem_map.mpr ⟨_, uP2 (List.mem_of_getElem? (i := 5) rfl), rfl⟩) rfl
theorem se_yX10_mend : Cond.selects yX10_mend.cls yX10_mend yX10_mend ∈ uT := uM4 (List.mem_of_getElem? (i := 176) rfl) rfl
theorem se_yX10_mended : Cond.selects yX10_mended.cls yX10_mended yX10_mended ∈ uT := uM4 (List.mem_of_getElem? (i := 201) rfl) rfl
theorem se_yX10_paper : Cond.selects yX10_paper.cls yX10_paper yX10_paper ∈ uT := uM5 (List.mem_of_getElem? (i := 50) rfl) rfl
theorem se_yX10_piece : Cond.selects yX10_piece.cls yX10_piece yX10_piece ∈ uT := uM4 (List.mem_of_getElem? (i := 64) rfl) rfl
theorem se_yX10_push : Cond.selects yX10_push.cls yX10_push yX10_push ∈ uT := uM4 (List.mem_of_getElem? (i := 72) rfl) rfl
theorem se_yX10_putOnTape : Cond.selects yX10_putOnTape.cls yX10_putOnTape yX10_putOnTape ∈ uT := uMp (List.mem_map.mpr ⟨_, uP1 (List.mem_of_getElem? (i := 1) rfl), rfl⟩) rfl
theorem se_yX10_runTillBroken : Cond.selects yX10_runTillBroken.cls yX10_runTillBroken yX10_runTillBroken ∈ uT := uMp (List.mem_map.mpr ⟨_, uP2 (List.mem_of_getElem? (i := 6) rfl), rfl⟩) rfl
theorem se_yX10_set : Cond.selects yX10_set.cls yX10_set yX10_set ∈ uT := uM3 (List.mem_of_getElem? (i := 163) rfl) rfl
theorem se_yX10_shape : Cond.selects yX10_shape.cls yX10_shape yX10_shape ∈ uT := uM3 (List.mem_of_getElem? (i := 208) rfl) rfl
theorem se_yX10_shut : Cond.selects yX10_shut.cls yX10_shut yX10_shut ∈ uT := uM5 (List.mem_of_getElem? (i := 86) rfl) rfl
theorem se_yX10_slip : Cond.selects yX10_slip.cls yX10_slip yX10_slip ∈ uT := uM4 (List.mem_of_getElem? (i := 138) rfl) rfl
theorem se_yX10_span : Cond.selects yX10_span.cls yX10_span yX10_span ∈ uT := uM5 (List.mem_of_getElem? (i := 0) rfl) rfl
theorem se_yX10_stay : Cond.selects yX10_stay.cls yX10_stay yX10_stay ∈ uT := uM3 (List.mem_of_getElem? (i := 181) rfl) rfl
theorem se_yX10_trialGrows : Cond.selects yX10_trialGrows.cls yX10_trialGrows yX10_trialGrows ∈ uT := uMp (List.mem_map.mpr ⟨_, uP2 (List.mem_of_getElem? (i := 4) rfl), rfl⟩) rfl
theorem se_yX10_trialIsCalmUpTo : Cond.selects yX10_trialIsCalmUpTo.cls yX10_trialIsCalmUpTo yX10_trialIsCalmUpTo ∈ uT := uMp (List.mem_map.mpr ⟨_, uP2 (List.mem_of_getElem? (i := 7) rfl), rfl⟩) rfl
theorem se_yX10_week : Cond.selects yX10_week.cls yX10_week yX10_week ∈ uT := uM4 (List.mem_of_getElem? (i := 228) rfl) rfl
theorem se_yX10_where : Cond.selects yX10_where.cls yX10_where yX10_where ∈ uT := uM4 (List.mem_of_getElem? (i := 131) rfl) rfl
theorem se_yX10_why : Cond.selects yX10_why.cls yX10_why yX10_why ∈ uT := uM4 (List.mem_of_getElem? (i := 109) rfl) rfl
theorem se_yX11_ands : Cond.selects yX11_ands.cls yX11_ands yX11_ands ∈ uT := uMp (List.mem_map.mpr ⟨_, uP3 (List.mem_of_getElem? (i := 11) rfl), rfl⟩) rfl
theorem se_yX11_asks : Cond.selects yX11_asks.cls yX11_asks yX11_asks ∈ uT := uMp (List.mem_map.mpr ⟨_, uP4 (List.mem_of_getElem? (i := 3) rfl), rfl⟩) rfl
theorem se_yX11_bad : Cond.selects yX11_bad.cls yX11_bad yX11_bad ∈ uT := uMp (List.mem_map.mpr ⟨_, uP2 (List.mem_of_getElem? (i := 10) rfl), rfl⟩) rfl
theorem se_yX11_badTrial : Cond.selects yX11_badTrial.cls yX11_badTrial yX11_badTrial ∈ uT := uMp (List.mem_map.mpr ⟨_, uP4 (List.mem_of_getElem? (i := 6) rfl), rfl⟩) rfl
theorem se_yX11_begins : Cond.selects yX11_begins.cls yX11_begins yX11_begins ∈ uT := uMp (List.mem_map.mpr ⟨_, uP4 (List.mem_of_getElem? (i := 8) rfl), rfl⟩) rfl
theorem se_yX11_beside : Cond.selects yX11_beside.cls yX11_beside yX11_beside ∈ uT := uMp (List.mem_map.mpr ⟨_, uP4 (List.mem_of_getElem? (i := 5) rfl), rfl⟩) rfl
theorem se_yX11_blanks : Cond.selects yX11_blanks.cls yX11_blanks yX11_blanks ∈ uT := uMp (List.mem_map.mpr ⟨_, uP2 (List.mem_of_getElem? (i := 11) rfl), rfl⟩) rfl
theorem se_yX11_byteAt : Cond.selects yX11_byteAt.cls yX11_byteAt yX11_byteAt ∈ uT := uMp (List.mem_map.mpr ⟨_, uP2 (List.mem_of_getElem? (i := 12) rfl), rfl⟩) rfl
theorem se_yX11_clause : Cond.selects yX11_clause.cls yX11_clause yX11_clause ∈ uT := uMp (List.mem_map.mpr ⟨_, uP2 (List.mem_of_getElem? (i := 13) rfl), rfl⟩) rfl
theorem se_yX11_firstOf : Cond.selects yX11_firstOf.cls yX11_firstOf yX11_firstOf ∈ uT := uMp (List.mem_map.mpr ⟨_, uP4 (List.mem_of_getElem? (i := 12) rfl), rfl⟩) rfl
theorem se_yX11_growsBy : Cond.selects yX11_growsBy.cls yX11_growsBy yX11_growsBy ∈ uT := uMp (List.mem_map.mpr ⟨_, uP4 (List.mem_of_getElem? (i := 7) rfl), rfl⟩) rfl
theorem se_yX11_isBridge : Cond.selects yX11_isBridge.cls yX11_isBridge yX11_isBridge ∈ uT := uMp (List.mem_map.mpr ⟨_, uP5 (List.mem_of_getElem? (i := 1) rfl), rfl⟩) rfl
theorem se_yX11_isCalm : Cond.selects yX11_isCalm.cls yX11_isCalm yX11_isCalm ∈ uT := uMp (List.mem_map.mpr ⟨_, uP4 (List.mem_of_getElem? (i := 14) rfl), rfl⟩) rfl
theorem se_yX11_isLaw : Cond.selects yX11_isLaw.cls yX11_isLaw yX11_isLaw ∈ uT := uMp (List.mem_map.mpr ⟨_, uP4 (List.mem_of_getElem? (i := 0) rfl), rfl⟩) rfl
theorem se_yX11_isPiece : Cond.selects yX11_isPiece.cls yX11_isPiece yX11_isPiece ∈ uT := uMp (List.mem_map.mpr ⟨_, uP3 (List.mem_of_getElem? (i := 13) rfl), rfl⟩) rfl
theorem se_yX11_isSo : Cond.selects yX11_isSo.cls yX11_isSo yX11_isSo ∈ uT := uMp (List.mem_map.mpr ⟨_, uP4 (List.mem_of_getElem? (i := 13) rfl), rfl⟩) rfl
theorem se_yX11_isWord : Cond.selects yX11_isWord.cls yX11_isWord yX11_isWord ∈ uT := uMp (List.mem_map.mpr ⟨_, uP2 (List.mem_of_getElem? (i := 14) rfl), rfl⟩) rfl
theorem se_yX11_knownOn : Cond.selects yX11_knownOn.cls yX11_knownOn yX11_knownOn ∈ uT := uMp (List.mem_map.mpr ⟨_, uP5 (List.mem_of_getElem? (i := 2) rfl), rfl⟩) rfl
theorem se_yX11_lays : Cond.selects yX11_lays.cls yX11_lays yX11_lays ∈ uT := uMp (List.mem_map.mpr ⟨_, uP4 (List.mem_of_getElem? (i := 9) rfl), rfl⟩) rfl
theorem se_yX11_laysBack : Cond.selects yX11_laysBack.cls yX11_laysBack yX11_laysBack ∈ uT := uMp (List.mem_map.mpr ⟨_, uP4 (List.mem_of_getElem? (i := 10) rfl), rfl⟩) rfl
theorem se_yX11_lineOf : Cond.selects yX11_lineOf.cls yX11_lineOf yX11_lineOf ∈ uT := uMp (List.mem_map.mpr ⟨_, uP4 (List.mem_of_getElem? (i := 11) rfl), rfl⟩) rfl
theorem se_yX11_makes : Cond.selects yX11_makes.cls yX11_makes yX11_makes ∈ uT := uMp (List.mem_map.mpr ⟨_, uP4 (List.mem_of_getElem? (i := 15) rfl), rfl⟩) rfl
theorem se_yX11_moves : Cond.selects yX11_moves.cls yX11_moves yX11_moves ∈ uT := uMp (List.mem_map.mpr ⟨_, uP5 (List.mem_of_getElem? (i := 4) rfl), rfl⟩) rfl
theorem se_yX11_movesAll : Cond.selects yX11_movesAll.cls yX11_movesAll yX11_movesAll ∈ uT := uMp (List.mem_map.mpr ⟨_, uP5 (List.mem_of_getElem? (i := 3) rfl), rfl⟩) rfl
theorem se_yX11_movesRow : Cond.selects yX11_movesRow.cls yX11_movesRow yX11_movesRow ∈ uT := uMp (List.mem_map.mpr ⟨_, uP5 (List.mem_of_getElem? (i := 5) rfl), rfl⟩) rfl
theorem se_yX11_nameHere : Cond.selects yX11_nameHere.cls yX11_nameHere yX11_nameHere ∈ uT := uMp (List.mem_map.mpr ⟨_, uP3 (List.mem_of_getElem? (i := 7) rfl), rfl⟩) rfl
theorem se_yX11_numberHere : Cond.selects yX11_numberHere.cls yX11_numberHere yX11_numberHere ∈ uT := uMp (List.mem_map.mpr ⟨_, uP3 (List.mem_of_getElem? (i := 5) rfl), rfl⟩) rfl
theorem se_yX11_opens : Cond.selects yX11_opens.cls yX11_opens yX11_opens ∈ uT := uMp (List.mem_map.mpr ⟨_, uP3 (List.mem_of_getElem? (i := 8) rfl), rfl⟩) rfl
theorem se_yX11_ors : Cond.selects yX11_ors.cls yX11_ors yX11_ors ∈ uT := uMp (List.mem_map.mpr ⟨_, uP3 (List.mem_of_getElem? (i := 10) rfl), rfl⟩) rfl
theorem se_yX11_product : Cond.selects yX11_product.cls yX11_product yX11_product ∈ uT := uMp (List.mem_map.mpr ⟨_, uP3 (List.mem_of_getElem? (i := 3) rfl), rfl⟩) rfl
theorem se_yX11_pulls : Cond.selects yX11_pulls.cls yX11_pulls yX11_pulls ∈ uT := uMp (List.mem_map.mpr ⟨_, uP4 (List.mem_of_getElem? (i := 4) rfl), rfl⟩) rfl
theorem se_yX11_shapes : Cond.selects yX11_shapes.cls yX11_shapes yX11_shapes ∈ uT := uMp (List.mem_map.mpr ⟨_, uP3 (List.mem_of_getElem? (i := 14) rfl), rfl⟩) rfl
theorem se_yX11_sign : Cond.selects yX11_sign.cls yX11_sign yX11_sign ∈ uT := uMp (List.mem_map.mpr ⟨_, uP3 (List.mem_of_getElem? (i := 9) rfl), rfl⟩) rfl
theorem se_yX11_sizeOf : Cond.selects yX11_sizeOf.cls yX11_sizeOf yX11_sizeOf ∈ uT := uMp (List.mem_map.mpr ⟨_, uP3 (List.mem_of_getElem? (i := 15) rfl), rfl⟩) rfl
theorem se_yX11_skipWord : Cond.selects yX11_skipWord.cls yX11_skipWord yX11_skipWord ∈ uT := uMp (List.mem_map.mpr ⟨_, uP3 (List.mem_of_getElem? (i := 1) rfl), rfl⟩) rfl
theorem se_yX11_sum : Cond.selects yX11_sum.cls yX11_sum yX11_sum ∈ uT := uMp (List.mem_map.mpr ⟨_, uP3 (List.mem_of_getElem? (i := 2) rfl), rfl⟩) rfl
theorem se_yX11_tells : Cond.selects yX11_tells.cls yX11_tells yX11_tells ∈ uT := uMp (List.mem_map.mpr ⟨_, uP3 (List.mem_of_getElem? (i := 6) rfl), rfl⟩) rfl
theorem se_yX11_tellsNames : Cond.selects yX11_tellsNames.cls yX11_tellsNames yX11_tellsNames ∈ uT := uMp (List.mem_map.mpr ⟨_, uP4 (List.mem_of_getElem? (i := 2) rfl), rfl⟩) rfl
theorem se_yX11_test : Cond.selects yX11_test.cls yX11_test yX11_test ∈ uT := uMp (List.mem_map.mpr ⟨_, uP3 (List.mem_of_getElem? (i := 12) rfl), rfl⟩) rfl
theorem se_yX11_tick : Cond.selects yX11_tick.cls yX11_tick yX11_tick ∈ uT := uMp (List.mem_map.mpr ⟨_, uP4 (List.mem_of_getElem? (i := 1) rfl), rfl⟩) rfl
theorem se_yX11_unit : Cond.selects yX11_unit.cls yX11_unit yX11_unit ∈ uT := uMp (List.mem_map.mpr ⟨_, uP3 (List.mem_of_getElem? (i := 4) rfl), rfl⟩) rfl
theorem se_yX11_wordHere : Cond.selects yX11_wordHere.cls yX11_wordHere yX11_wordHere ∈ uT := uMp (List.mem_map.mpr ⟨_, uP2 (List.mem_of_getElem? (i := 15) rfl), rfl⟩) rfl
theorem se_yX11_wrong : Cond.selects yX11_wrong.cls yX11_wrong yX11_wrong ∈ uT := uMp (List.mem_map.mpr ⟨_, uP3 (List.mem_of_getElem? (i := 0) rfl), rfl⟩) rfl
theorem se_yX1_begin : Cond.selects yX1_begin.cls yX1_begin yX1_begin ∈ uT := uM4 (List.mem_of_getElem? (i := 90) rfl) rfl
theorem se_yX1_breakWhatGives : Cond.selects yX1_breakWhatGives.cls yX1_breakWhatGives yX1_breakWhatGives ∈ uT := uMp (List.mem_map.mpr ⟨_, uP2 (List.mem_of_getElem? (i := 3) rfl), rfl⟩) rfl
theorem se_yX1_broken : Cond.selects yX1_broken.cls yX1_broken yX1_broken ∈ uT := uM2 (List.mem_of_getElem? (i := 184) rfl) rfl
theorem se_yX1_change : Cond.selects yX1_change.cls yX1_change yX1_change ∈ uT := uM4 (List.mem_of_getElem? (i := 218) rfl) rfl
theorem se_yX1_copy : Cond.selects yX1_copy.cls yX1_copy yX1_copy ∈ uT := uM2 (List.mem_of_getElem? (i := 141) rfl) rfl
theorem se_yX1_dropStays : Cond.selects yX1_dropStays.cls yX1_dropStays yX1_dropStays ∈ uT := uM4 (List.mem_of_getElem? (i := 142) rfl) rfl
theorem se_yX1_faster : Cond.selects yX1_faster.cls yX1_faster yX1_faster ∈ uT := uMp (List.mem_map.mpr ⟨_, uP2 (List.mem_of_getElem? (i := 2) rfl), rfl⟩) rfl
theorem se_yX1_isBroken : Cond.selects yX1_isBroken.cls yX1_isBroken yX1_isBroken ∈ uT := uMp (List.mem_map.mpr ⟨_, uP1 (List.mem_of_getElem? (i := 2) rfl), rfl⟩) rfl
theorem se_yX1_lay : Cond.selects yX1_lay.cls yX1_lay yX1_lay ∈ uT := uM1 (List.mem_of_getElem? (i := 132) rfl) rfl
theorem se_yX1_leastBroken : Cond.selects yX1_leastBroken.cls yX1_leastBroken yX1_leastBroken ∈ uT := uM4 (List.mem_of_getElem? (i := 124) rfl) rfl
theorem se_yX1_namesOf : Cond.selects yX1_namesOf.cls yX1_namesOf yX1_namesOf ∈ uT := uM4 (List.mem_of_getElem? (i := 22) rfl) rfl
theorem se_yX1_pullOf : Cond.selects yX1_pullOf.cls yX1_pullOf yX1_pullOf ∈ uT := uMp (List.mem_map.mpr ⟨_, uP2 (List.mem_of_getElem? (i := 1) rfl), rfl⟩) rfl
theorem se_yX1_size : Cond.selects yX1_size.cls yX1_size yX1_size ∈ uT := uM3 (List.mem_of_getElem? (i := 220) rfl) rfl
theorem se_yX1_still : Cond.selects yX1_still.cls yX1_still yX1_still ∈ uT := uMp (List.mem_map.mpr ⟨_, uP1 (List.mem_of_getElem? (i := 0) rfl), rfl⟩) rfl
theorem se_yX1_takeShape : Cond.selects yX1_takeShape.cls yX1_takeShape yX1_takeShape ∈ uT := uM3 (List.mem_of_getElem? (i := 215) rfl) rfl
theorem se_yX1_tick : Cond.selects yX1_tick.cls yX1_tick yX1_tick ∈ uT := uM4 (List.mem_of_getElem? (i := 18) rfl) rfl
theorem se_yX2_add : Cond.selects yX2_add.cls yX2_add yX2_add ∈ uT := uM4 (List.mem_of_getElem? (i := 155) rfl) rfl
theorem se_yX2_copy : Cond.selects yX2_copy.cls yX2_copy yX2_copy ∈ uT := uM2 (List.mem_of_getElem? (i := 149) rfl) rfl
theorem se_yX2_firstRowOff : Cond.selects yX2_firstRowOff.cls yX2_firstRowOff yX2_firstRowOff ∈ uT := uM4 (List.mem_of_getElem? (i := 167) rfl) rfl
theorem se_yX3_take : Cond.selects yX3_take.cls yX3_take yX3_take ∈ uT := uM3 (List.mem_of_getElem? (i := 147) rfl) rfl
theorem se_yX3_work : Cond.selects yX3_work.cls yX3_work yX3_work ∈ uT := uM4 (List.mem_of_getElem? (i := 26) rfl) rfl
theorem se_yX4_add : Cond.selects yX4_add.cls yX4_add yX4_add ∈ uT := uM4 (List.mem_of_getElem? (i := 182) rfl) rfl
theorem se_yX4_copy : Cond.selects yX4_copy.cls yX4_copy yX4_copy ∈ uT := uM2 (List.mem_of_getElem? (i := 154) rfl) rfl
theorem se_yX4_costOf : Cond.selects yX4_costOf.cls yX4_costOf yX4_costOf ∈ uT := uM4 (List.mem_of_getElem? (i := 205) rfl) rfl
theorem se_yX4_make : Cond.selects yX4_make.cls yX4_make yX4_make ∈ uT := uM4 (List.mem_of_getElem? (i := 214) rfl) rfl
theorem se_yX4_makeAll : Cond.selects yX4_makeAll.cls yX4_makeAll yX4_makeAll ∈ uT := uM4 (List.mem_of_getElem? (i := 210) rfl) rfl
theorem se_yX5_add : Cond.selects yX5_add.cls yX5_add yX5_add ∈ uT := uM5 (List.mem_of_getElem? (i := 54) rfl) rfl
theorem se_yX5_copy : Cond.selects yX5_copy.cls yX5_copy yX5_copy ∈ uT := uM2 (List.mem_of_getElem? (i := 164) rfl) rfl
theorem se_yX5_firstDayOf : Cond.selects yX5_firstDayOf.cls yX5_firstDayOf yX5_firstDayOf ∈ uT := uM5 (List.mem_of_getElem? (i := 78) rfl) rfl
theorem se_yX5_knownOn : Cond.selects yX5_knownOn.cls yX5_knownOn yX5_knownOn ∈ uT := uM5 (List.mem_of_getElem? (i := 66) rfl) rfl
theorem se_yX6_comparison : Cond.selects yX6_comparison.cls yX6_comparison yX6_comparison ∈ uT := uMp (List.mem_map.mpr ⟨_, uP1 (List.mem_of_getElem? (i := 14) rfl), rfl⟩) rfl
theorem se_yX6_condition : Cond.selects yX6_condition.cls yX6_condition yX6_condition ∈ uT := uMp (List.mem_map.mpr ⟨_, uP1 (List.mem_of_getElem? (i := 13) rfl), rfl⟩) rfl
theorem se_yX6_emit : Cond.selects yX6_emit.cls yX6_emit yX6_emit ∈ uT := uMp (List.mem_map.mpr ⟨_, uP1 (List.mem_of_getElem? (i := 10) rfl), rfl⟩) rfl
theorem se_yX6_enters : Cond.selects yX6_enters.cls yX6_enters yX6_enters ∈ uT := uMp (List.mem_map.mpr ⟨_, uP1 (List.mem_of_getElem? (i := 11) rfl), rfl⟩) rfl
theorem se_yX6_expect : Cond.selects yX6_expect.cls yX6_expect yX6_expect ∈ uT := uMp (List.mem_map.mpr ⟨_, uP1 (List.mem_of_getElem? (i := 12) rfl), rfl⟩) rfl
theorem se_yX6_factor : Cond.selects yX6_factor.cls yX6_factor yX6_factor ∈ uT := uMp (List.mem_map.mpr ⟨_, uP1 (List.mem_of_getElem? (i := 9) rfl), rfl⟩) rfl
theorem se_yX6_fail : Cond.selects yX6_fail.cls yX6_fail yX6_fail ∈ uT := uMp (List.mem_map.mpr ⟨_, uP1 (List.mem_of_getElem? (i := 7) rfl), rfl⟩) rfl
theorem se_yX6_read : Cond.selects yX6_read.cls yX6_read yX6_read ∈ uT := uM3 (List.mem_of_getElem? (i := 32) rfl) rfl
theorem se_yX6_step : Cond.selects yX6_step.cls yX6_step yX6_step ∈ uT := uMp (List.mem_map.mpr ⟨_, uP1 (List.mem_of_getElem? (i := 6) rfl), rfl⟩) rfl
theorem se_yX6_sum : Cond.selects yX6_sum.cls yX6_sum yX6_sum ∈ uT := uMp (List.mem_map.mpr ⟨_, uP1 (List.mem_of_getElem? (i := 8) rfl), rfl⟩) rfl
theorem se_yX7_copy : Cond.selects yX7_copy.cls yX7_copy yX7_copy ∈ uT := uM2 (List.mem_of_getElem? (i := 137) rfl) rfl
theorem se_yX8_at : Cond.selects yX8_at.cls yX8_at yX8_at ∈ uT := uM2 (List.mem_of_getElem? (i := 180) rfl) rfl
theorem se_yX8_copy : Cond.selects yX8_copy.cls yX8_copy yX8_copy ∈ uT := uM2 (List.mem_of_getElem? (i := 145) rfl) rfl
theorem se_yX8_fill : Cond.selects yX8_fill.cls yX8_fill yX8_fill ∈ uT := uM1 (List.mem_of_getElem? (i := 140) rfl) rfl
theorem se_yX8_put : Cond.selects yX8_put.cls yX8_put yX8_put ∈ uT := uM1 (List.mem_of_getElem? (i := 128) rfl) rfl
theorem se_yX9_add : Cond.selects yX9_add.cls yX9_add yX9_add ∈ uT := uMp (List.mem_map.mpr ⟨_, uP1 (List.mem_of_getElem? (i := 5) rfl), rfl⟩) rfl
theorem se_yX9_scan : Cond.selects yX9_scan.cls yX9_scan yX9_scan ∈ uT := uM3 (List.mem_of_getElem? (i := 36) rfl) rfl
theorem se_yX9_scanOne : Cond.selects yX9_scanOne.cls yX9_scanOne yX9_scanOne ∈ uT := uMp (List.mem_map.mpr ⟨_, uP1 (List.mem_of_getElem? (i := 4) rfl), rfl⟩) rfl
theorem st_mabs : Cond.static Lib.Math.abs.name ∈ uT := uM3 (List.mem_of_getElem? (i := 223) rfl) rfl
theorem st_mmax : Cond.static Lib.Math.max.name ∈ uT := uM1 (List.mem_of_getElem? (i := 39) rfl) rfl
theorem st_mmin : Cond.static Lib.Math.min.name ∈ uT := uM3 (List.mem_of_getElem? (i := 47) rfl) rfl
theorem st_yX10_bounded : Cond.static yX10_bounded ∈ uT := uM4 (List.mem_of_getElem? (i := 38) rfl) rfl
theorem st_yX10_demand : Cond.static yX10_demand ∈ uT := uM2 (List.mem_of_getElem? (i := 200) rfl) rfl
theorem st_yX10_demandShape : Cond.static yX10_demandShape ∈ uT := uM3 (List.mem_of_getElem? (i := 211) rfl) rfl
theorem st_yX10_demandWind : Cond.static yX10_demandWind ∈ uT := uM4 (List.mem_of_getElem? (i := 14) rfl) rfl
theorem st_yX10_leastLine : Cond.static yX10_leastLine ∈ uT := uM5 (List.mem_of_getElem? (i := 3) rfl) rfl
theorem st_yX10_leastOf : Cond.static yX10_leastOf ∈ uT := uM3 (List.mem_of_getElem? (i := 166) rfl) rfl
theorem st_yX10_mostOf : Cond.static yX10_mostOf ∈ uT := uM3 (List.mem_of_getElem? (i := 171) rfl) rfl
theorem st_yX10_within : Cond.static yX10_within ∈ uT := uM2 (List.mem_of_getElem? (i := 176) rfl) rfl
theorem st_yX11_amount : Cond.static yX11_amount ∈ uT := uM6 (List.mem_of_getElem? (i := 125) rfl) rfl
theorem st_yX11_highest : Cond.static yX11_highest ∈ uT := uM6 (List.mem_of_getElem? (i := 98) rfl) rfl
theorem st_yX11_in : Cond.static yX11_in ∈ uT := uM5 (List.mem_of_getElem? (i := 237) rfl) rfl
theorem st_yX11_isDigit : Cond.static yX11_isDigit ∈ uT := uM6 (List.mem_of_getElem? (i := 47) rfl) rfl
theorem st_yX11_isShape : Cond.static yX11_isShape ∈ uT := uM6 (List.mem_of_getElem? (i := 114) rfl) rfl
theorem st_yX11_lowest : Cond.static yX11_lowest ∈ uT := uM6 (List.mem_of_getElem? (i := 95) rfl) rfl
theorem st_yX11_within : Cond.static yX11_within ∈ uT := uM6 (List.mem_of_getElem? (i := 152) rfl) rfl
theorem st_yX11_word : Cond.static yX11_word ∈ uT := uM6 (List.mem_of_getElem? (i := 24) rfl) rfl
theorem st_yX11_worked : Cond.static yX11_worked ∈ uT := uM6 (List.mem_of_getElem? (i := 148) rfl) rfl
theorem st_yX1_reach : Cond.static yX1_reach ∈ uT := uM4 (List.mem_of_getElem? (i := 51) rfl) rfl
theorem st_yX3_ofTwo : Cond.static yX3_ofTwo ∈ uT := uM4 (List.mem_of_getElem? (i := 31) rfl) rfl
theorem st_yX9_isDigit : Cond.static yX9_isDigit ∈ uT := uM3 (List.mem_of_getElem? (i := 44) rfl) rfl
theorem st_yX9_isLetter : Cond.static yX9_isLetter ∈ uT := uM3 (List.mem_of_getElem? (i := 50) rfl) rfl
theorem st_yX9_wordAt : Cond.static yX9_wordAt ∈ uT := uM3 (List.mem_of_getElem? (i := 53) rfl) rfl
theorem cd_J0_checkIndex_df160 : Cond.code yJ0_checkIndex_df160 cJ0_checkIndex_df160 2 none ∈ uT := uM3 (List.mem_of_getElem? (i := 79) rfl) rfl
theorem cd_J0_coder_7d493 : Cond.code yJ0_coder_7d493 cJ0_coder_7d493 1 (some .byte) ∈ uT := uM3 (List.mem_of_getElem? (i := 63) rfl) rfl
theorem cd_J0_isLatin1_aae02 : Cond.code yJ0_isLatin1_aae02 cJ0_isLatin1_aae02 1 (some .boolean) ∈ uT := uM3 (List.mem_of_getElem? (i := 73) rfl) rfl
theorem cd_J1_charAt_3b067 : Cond.code yJ1_charAt_3b067 cJ1_charAt_3b067 2 (some .char) ∈ uT := uM3 (List.mem_of_getElem? (i := 76) rfl) rfl
theorem cd_J3_checkIndex_8e157 : Cond.code yJ3_checkIndex_8e157 cJ3_checkIndex_8e157 3 (some .int) ∈ uT := uM3 (List.mem_of_getElem? (i := 84) rfl) rfl
theorem fl_J0_1053 : Cond.fieldLink RJ0 1053 "jdk/internal/util/Preconditions" "SIOOBE_FORMATTER" "Ljava/util/function/BiFunction;" ∈ uT := uM3 (List.mem_of_getElem? (i := 80) rfl) rfl
theorem fl_J0_15 : Cond.fieldLink RJ0 15 "java/lang/String" "coder" "B" ∈ uT := uM7 (List.mem_of_getElem? (i := 109) rfl) rfl
theorem fl_J0_38 : Cond.fieldLink RJ0 38 "java/lang/String" "COMPACT_STRINGS" "Z" ∈ uT := uM3 (List.mem_of_getElem? (i := 64) rfl) rfl
theorem fl_J0_9 : Cond.fieldLink RJ0 9 "java/lang/String" "value" "[B" ∈ uT := uM7 (List.mem_of_getElem? (i := 108) rfl) rfl
theorem im_yJ0_coder_7d493 : Cond.instanceMethod yJ0_coder_7d493 ∈ uT := uM3 (List.mem_of_getElem? (i := 61) rfl) rfl
theorem im_yJ0_isLatin1_aae02 : Cond.instanceMethod yJ0_isLatin1_aae02 ∈ uT := uM3 (List.mem_of_getElem? (i := 71) rfl) rfl
theorem ini_J1 : Cond.initialized RJ1 ∈ uT := uM1 (List.mem_of_getElem? (i := 19) rfl) rfl
theorem ini_J3 : Cond.initialized RJ3 ∈ uT := uM1 (List.mem_of_getElem? (i := 20) rfl) rfl
theorem ml_J0_1059 : Cond.methodLink RJ0 1059 yJ3_checkIndex_8e157 ∈ uT := uM3 (List.mem_of_getElem? (i := 82) rfl) rfl
theorem ml_J0_335 : Cond.methodLink RJ0 335 yJ0_coder_7d493 ∈ uT := uM3 (List.mem_of_getElem? (i := 60) rfl) rfl
theorem ml_J0_492 : Cond.methodLink RJ0 492 yJ0_isLatin1_aae02 ∈ uT := uM3 (List.mem_of_getElem? (i := 70) rfl) rfl
theorem ml_J0_495 : Cond.methodLink RJ0 495 yJ1_charAt_3b067 ∈ uT := uM3 (List.mem_of_getElem? (i := 74) rfl) rfl
theorem ml_J1_9 : Cond.methodLink RJ1 9 yJ0_checkIndex_df160 ∈ uT := uM3 (List.mem_of_getElem? (i := 77) rfl) rfl
theorem se_yJ0_coder_7d493 : Cond.selects yJ0_coder_7d493.cls yJ0_coder_7d493 yJ0_coder_7d493 ∈ uT := uM3 (List.mem_of_getElem? (i := 62) rfl) rfl
theorem se_yJ0_isLatin1_aae02 : Cond.selects yJ0_isLatin1_aae02.cls yJ0_isLatin1_aae02 yJ0_isLatin1_aae02 ∈ uT := uM3 (List.mem_of_getElem? (i := 72) rfl) rfl
theorem st_yJ0_checkIndex_df160 : Cond.static yJ0_checkIndex_df160 ∈ uT := uM3 (List.mem_of_getElem? (i := 78) rfl) rfl
theorem st_yJ1_charAt_3b067 : Cond.static yJ1_charAt_3b067 ∈ uT := uM3 (List.mem_of_getElem? (i := 75) rfl) rfl
theorem st_yJ3_checkIndex_8e157 : Cond.static yJ3_checkIndex_8e157 ∈ uT := uM3 (List.mem_of_getElem? (i := 83) rfl) rfl
