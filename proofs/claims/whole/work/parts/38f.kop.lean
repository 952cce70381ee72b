/-! Roads copied: image and restore; the tape fed. -/
def RwS (a o k r c n : Nat) : Prop := gRf (a + o) k = a + r ∧ gRf (a + r) 0 = a + c ∧ gN (a + c) = n
def Rd5 (a : Nat) : Prop := gRf a 0 = a + 1 ∧ gRf a 1 = a + 18 ∧ gRf a 2 = a + 27 ∧ gRf a 3 = a + 34 ∧ gRf a 4 = a + 39
def RdS (a : Nat) : Prop := Rd5 a ∧ DkS (a + 1) ∧
RwS a 18 1 19 20 20 ∧ RwS a 18 2 21 22 20 ∧ RwS a 18 3 23 24 20 ∧ RwS a 18 4 25 26 20 ∧ RwS a 27 1 28 29 5 ∧ RwS a 27 2 30 31 5 ∧ RwS a 27 3 32 33 5 ∧ RwS a 34 1 35 36 6 ∧ RwS a 34 2 37 38 60 ∧ RwS a 39 1 40 41 10 ∧ RwS a 39 2 42 43 10 ∧ RwS a 39 3 44 45 10
theorem rs_11 : RdS 11 := by unfold RdS Rd5 RwS DkS; decide +kernel
theorem rs_112 : RdS 112 := by unfold RdS Rd5 RwS DkS; decide +kernel
theorem rs_158 : RdS 158 := by unfold RdS Rd5 RwS DkS; decide +kernel
theorem rs_204 : RdS 204 := by unfold RdS Rd5 RwS DkS; decide +kernel
theorem q_copy {r r2 c c2 n : Nat} (h1 : gRf r 0 = c) (h2 : gN c = n) (h3 : gRf r2 0 = c2) (h4 : gN c2 = n) (hne : c2 ≠ c) (M : Mem) : f_X8_copy M r r2 = some (0, mSet M c n (M c2)) := by
  rw [p_copy (gN_lt _) (by rw [h1, h2, h3, h4]) (by rw [h1, h3]; exact hne), h1, h2, h3]
/-- so far as it is copied: below offset o -/
def CpT (M M' : Mem) (a b o : Nat) (R : Dk) : Prop := (∀ p k, p < o → inR p k → M' (a + p) k = R p k) ∧ ∀ q, (q < a ∨ a + 46 ≤ q) → M' q = M q
theorem CpT.set {M M' : Mem} {a b o n : Nat} {R : Dk} (h : CpT M M' a b o R) (hR : RR M b R) (hd : a + 46 ≤ b ∨ b + 46 ≤ a) {c : Nat} (hc : o ≤ c) (hc2 : c < 46) (hn : ∀ p k, o ≤ p → p < c + 1 → inR p k → p = c ∧ k < n) : CpT M (mSet M' (a + c) n (M' (b + c))) a b (c + 1) R := by
  refine ⟨fun p k hp hi => ?_, fun q hq => ?_⟩
  · rw [mSet_add]
    by_cases hz : o ≤ p
    · obtain ⟨rfl, hk⟩ := hn p k hz hp hi
      rw [if_pos ⟨rfl, hk⟩, h.2 (b + p) (by omega)]
      exact hR p k hi
    · rw [if_neg (by omega)]
      exact h.1 p k (by omega) hi
  · rw [mSet_ne (by omega)]
    exact h.2 q hq
theorem CpT.one {M M' : Mem} {a b o : Nat} {R : Dk} (h : CpT M M' a b o R) (hR : RR M b R) (hd : a + 46 ≤ b ∨ b + 46 ≤ a) {c : Nat} (hc : o ≤ c) (hc2 : c < 46) (hn : ∀ p k, o ≤ p → p < c + 1 → inR p k → p = c ∧ k = 0) : CpT M (mU M' (a + c) 0 (M' (b + c) 0)) a b (c + 1) R := by
  refine ⟨fun p k hp hi => ?_, fun q hq => ?_⟩
  · rw [mU_add]
    by_cases hz : o ≤ p
    · obtain ⟨rfl, hk⟩ := hn p k hz hp hi
      subst hk
      rw [if_pos ⟨rfl, rfl⟩, h.2 (b + p) (by omega)]
      exact hR p 0 hi
    · rw [if_neg (by omega)]
      exact h.1 p k (by omega) hi
  · rw [u_ne (by omega)]
    exact h.2 q hq
theorem CpT.sc {M M' : Mem} {a b o n : Nat} {R : Dk} (h : CpT M M' a b o R) (hR : RR M b R) (hd : a + 46 ≤ b ∨ b + 46 ≤ a) {c r r2 : Nat} (hc : o ≤ c) (hc2 : c < 46) (hn : ∀ p k, o ≤ p → p < c + 1 → inR p k → p = c ∧ k < n) (h1 : gRf r 0 = a + c ∧ gN (a + c) = n) (h2 : gRf r2 0 = b + c ∧ gN (b + c) = n) : tot (f_X8_copy M' r r2) (fun _ M2 => CpT M M2 a b (c + 1) R) :=
  tot.eq (q_copy h1.1 h1.2 h2.1 h2.2 (by omega) M') (tot.ret (h.set hR hd hc hc2 hn))
theorem hn_1 : ∀ p k, 17 ≤ p → p < 18 + 1 → inR p k → p = 18 ∧ k = 0 := by
  intro p k h1 h2 hi
  unfold inR at hi
  rcases hi with ⟨ho, h⟩ | ⟨ho, h⟩ | ⟨ho, h⟩ | ⟨ho, h⟩ | ⟨ho, h⟩ | ⟨ho, h⟩ | ⟨ho, h⟩ | ⟨ho, h⟩ | ⟨ho, h⟩ <;> omega
theorem hn_2 : ∀ p k, 19 ≤ p → p < 20 + 1 → inR p k → p = 20 ∧ k < 20 := by
  intro p k h1 h2 hi
  unfold inR at hi
  rcases hi with ⟨ho, h⟩ | ⟨ho, h⟩ | ⟨ho, h⟩ | ⟨ho, h⟩ | ⟨ho, h⟩ | ⟨ho, h⟩ | ⟨ho, h⟩ | ⟨ho, h⟩ | ⟨ho, h⟩ <;> omega
theorem hn_3 : ∀ p k, 21 ≤ p → p < 22 + 1 → inR p k → p = 22 ∧ k < 20 := by
  intro p k h1 h2 hi
  unfold inR at hi
  rcases hi with ⟨ho, h⟩ | ⟨ho, h⟩ | ⟨ho, h⟩ | ⟨ho, h⟩ | ⟨ho, h⟩ | ⟨ho, h⟩ | ⟨ho, h⟩ | ⟨ho, h⟩ | ⟨ho, h⟩ <;> omega
theorem hn_4 : ∀ p k, 23 ≤ p → p < 24 + 1 → inR p k → p = 24 ∧ k < 20 := by
  intro p k h1 h2 hi
  unfold inR at hi
  rcases hi with ⟨ho, h⟩ | ⟨ho, h⟩ | ⟨ho, h⟩ | ⟨ho, h⟩ | ⟨ho, h⟩ | ⟨ho, h⟩ | ⟨ho, h⟩ | ⟨ho, h⟩ | ⟨ho, h⟩ <;> omega
theorem hn_5 : ∀ p k, 25 ≤ p → p < 26 + 1 → inR p k → p = 26 ∧ k < 20 := by
  intro p k h1 h2 hi
  unfold inR at hi
  rcases hi with ⟨ho, h⟩ | ⟨ho, h⟩ | ⟨ho, h⟩ | ⟨ho, h⟩ | ⟨ho, h⟩ | ⟨ho, h⟩ | ⟨ho, h⟩ | ⟨ho, h⟩ | ⟨ho, h⟩ <;> omega
theorem hn_6 : ∀ p k, 27 ≤ p → p < 27 + 1 → inR p k → p = 27 ∧ k = 0 := by
  intro p k h1 h2 hi
  unfold inR at hi
  rcases hi with ⟨ho, h⟩ | ⟨ho, h⟩ | ⟨ho, h⟩ | ⟨ho, h⟩ | ⟨ho, h⟩ | ⟨ho, h⟩ | ⟨ho, h⟩ | ⟨ho, h⟩ | ⟨ho, h⟩ <;> omega
theorem hn_7 : ∀ p k, 28 ≤ p → p < 29 + 1 → inR p k → p = 29 ∧ k < 5 := by
  intro p k h1 h2 hi
  unfold inR at hi
  rcases hi with ⟨ho, h⟩ | ⟨ho, h⟩ | ⟨ho, h⟩ | ⟨ho, h⟩ | ⟨ho, h⟩ | ⟨ho, h⟩ | ⟨ho, h⟩ | ⟨ho, h⟩ | ⟨ho, h⟩ <;> omega
theorem hn_8 : ∀ p k, 30 ≤ p → p < 31 + 1 → inR p k → p = 31 ∧ k < 5 := by
  intro p k h1 h2 hi
  unfold inR at hi
  rcases hi with ⟨ho, h⟩ | ⟨ho, h⟩ | ⟨ho, h⟩ | ⟨ho, h⟩ | ⟨ho, h⟩ | ⟨ho, h⟩ | ⟨ho, h⟩ | ⟨ho, h⟩ | ⟨ho, h⟩ <;> omega
theorem hn_9 : ∀ p k, 32 ≤ p → p < 33 + 1 → inR p k → p = 33 ∧ k < 5 := by
  intro p k h1 h2 hi
  unfold inR at hi
  rcases hi with ⟨ho, h⟩ | ⟨ho, h⟩ | ⟨ho, h⟩ | ⟨ho, h⟩ | ⟨ho, h⟩ | ⟨ho, h⟩ | ⟨ho, h⟩ | ⟨ho, h⟩ | ⟨ho, h⟩ <;> omega
theorem hn_10 : ∀ p k, 34 ≤ p → p < 34 + 1 → inR p k → p = 34 ∧ k = 0 := by
  intro p k h1 h2 hi
  unfold inR at hi
  rcases hi with ⟨ho, h⟩ | ⟨ho, h⟩ | ⟨ho, h⟩ | ⟨ho, h⟩ | ⟨ho, h⟩ | ⟨ho, h⟩ | ⟨ho, h⟩ | ⟨ho, h⟩ | ⟨ho, h⟩ <;> omega
theorem hn_11 : ∀ p k, 35 ≤ p → p < 36 + 1 → inR p k → p = 36 ∧ k < 6 := by
  intro p k h1 h2 hi
  unfold inR at hi
  rcases hi with ⟨ho, h⟩ | ⟨ho, h⟩ | ⟨ho, h⟩ | ⟨ho, h⟩ | ⟨ho, h⟩ | ⟨ho, h⟩ | ⟨ho, h⟩ | ⟨ho, h⟩ | ⟨ho, h⟩ <;> omega
theorem hn_12 : ∀ p k, 37 ≤ p → p < 38 + 1 → inR p k → p = 38 ∧ k < 60 := by
  intro p k h1 h2 hi
  unfold inR at hi
  rcases hi with ⟨ho, h⟩ | ⟨ho, h⟩ | ⟨ho, h⟩ | ⟨ho, h⟩ | ⟨ho, h⟩ | ⟨ho, h⟩ | ⟨ho, h⟩ | ⟨ho, h⟩ | ⟨ho, h⟩ <;> omega
theorem hn_13 : ∀ p k, 39 ≤ p → p < 39 + 1 → inR p k → p = 39 ∧ k = 0 := by
  intro p k h1 h2 hi
  unfold inR at hi
  rcases hi with ⟨ho, h⟩ | ⟨ho, h⟩ | ⟨ho, h⟩ | ⟨ho, h⟩ | ⟨ho, h⟩ | ⟨ho, h⟩ | ⟨ho, h⟩ | ⟨ho, h⟩ | ⟨ho, h⟩ <;> omega
theorem hn_14 : ∀ p k, 40 ≤ p → p < 41 + 1 → inR p k → p = 41 ∧ k < 10 := by
  intro p k h1 h2 hi
  unfold inR at hi
  rcases hi with ⟨ho, h⟩ | ⟨ho, h⟩ | ⟨ho, h⟩ | ⟨ho, h⟩ | ⟨ho, h⟩ | ⟨ho, h⟩ | ⟨ho, h⟩ | ⟨ho, h⟩ | ⟨ho, h⟩ <;> omega
theorem hn_15 : ∀ p k, 42 ≤ p → p < 43 + 1 → inR p k → p = 43 ∧ k < 10 := by
  intro p k h1 h2 hi
  unfold inR at hi
  rcases hi with ⟨ho, h⟩ | ⟨ho, h⟩ | ⟨ho, h⟩ | ⟨ho, h⟩ | ⟨ho, h⟩ | ⟨ho, h⟩ | ⟨ho, h⟩ | ⟨ho, h⟩ | ⟨ho, h⟩ <;> omega
theorem hn_16 : ∀ p k, 44 ≤ p → p < 45 + 1 → inR p k → p = 45 ∧ k < 10 := by
  intro p k h1 h2 hi
  unfold inR at hi
  rcases hi with ⟨ho, h⟩ | ⟨ho, h⟩ | ⟨ho, h⟩ | ⟨ho, h⟩ | ⟨ho, h⟩ | ⟨ho, h⟩ | ⟨ho, h⟩ | ⟨ho, h⟩ | ⟨ho, h⟩ <;> omega
theorem r_road {a b : Nat} (ha : RdS a) (hb : RdS b) (hd : a + 46 ≤ b ∨ b + 46 ≤ a) {M : Mem} {R : Dk} (hR : RR M b R) : tot (f_X7_copy M a b) (fun _ M' => RR M' a R ∧ ∀ q, (q < a ∨ a + 46 ≤ q) → M' q = M q) := by
  obtain ⟨a9, ad, ar⟩ := ha
  obtain ⟨b9, bd, br⟩ := hb
  obtain ⟨ar0, ar1, ar2, ar3, ar4, ar5, ar6, ar7, ar8, ar9, ar10, ar11⟩ := ar
  obtain ⟨br0, br1, br2, br3, br4, br5, br6, br7, br8, br9, br10, br11⟩ := br
  have hRD : RD M (b + 1) (rD R) := hR.d rfl
  unfold f_X7_copy
  rw [a9.1, b9.1]
  refine tot.bd (r_copy ad bd (by omega) hRD) ?_
  rintro r M1 ⟨hD1, hf1⟩
  have t0 : CpT M M1 a b 17 R := by
    refine ⟨fun p k hp hi => ?_, fun q hq => hf1 q (by omega)⟩
    have h1 := inR_lo hi
    have h2 := hD1 (p - 1) k (inD_1 hi hp)
    rw [show a + 1 + (p - 1) = a + p by omega] at h2
    rw [h2]
    unfold rD
    rw [show 1 + (p - 1) = p by omega]
  show tot ((f_X2_copy M1 (gRf a 1) (gRf b 1)).bind _) _
  rw [a9.2.1, b9.2.1]
  have u1 := t0.one hR hd (c := 18) (Nat.le_of_ble_eq_true rfl) (Nat.le_of_ble_eq_true rfl) hn_1
  have v1 : tot (f_X2_copy M1 (a + 18) (b + 18)) (fun _ M' => CpT M M' a b 27 R) := by
    unfold f_X2_copy
    rw [ar0.1, br0.1]
    refine tot.bd (u1.sc hR hd (c := 20) (n := 20) (Nat.le_of_ble_eq_true rfl) (Nat.le_of_ble_eq_true rfl) hn_2 ar0.2 br0.2) ?_
    intro r2 N2 p2
    show tot ((f_X8_copy N2 (gRf (a + 18) 2) (gRf (b + 18) 2)).bind _) _
    rw [ar1.1, br1.1]
    refine tot.bd (p2.sc hR hd (c := 22) (n := 20) (Nat.le_of_ble_eq_true rfl) (Nat.le_of_ble_eq_true rfl) hn_3 ar1.2 br1.2) ?_
    intro r3 N3 p3
    show tot ((f_X8_copy N3 (gRf (a + 18) 3) (gRf (b + 18) 3)).bind _) _
    rw [ar2.1, br2.1]
    refine tot.bd (p3.sc hR hd (c := 24) (n := 20) (Nat.le_of_ble_eq_true rfl) (Nat.le_of_ble_eq_true rfl) hn_4 ar2.2 br2.2) ?_
    intro r4 N4 p4
    show tot ((f_X8_copy N4 (gRf (a + 18) 4) (gRf (b + 18) 4)).bind _) _
    rw [ar3.1, br3.1]
    refine tot.bd (p4.sc hR hd (c := 26) (n := 20) (Nat.le_of_ble_eq_true rfl) (Nat.le_of_ble_eq_true rfl) hn_5 ar3.2 br3.2) ?_
    intro r5 N5 p5
    exact tot.ret p5
  refine tot.bd v1 ?_
  intro s5 M2 t5
  show tot ((f_X4_copy M2 (gRf a 2) (gRf b 2)).bind _) _
  rw [a9.2.2.1, b9.2.2.1]
  have u6 := t5.one hR hd (c := 27) (Nat.le_of_ble_eq_true rfl) (Nat.le_of_ble_eq_true rfl) hn_6
  have v6 : tot (f_X4_copy M2 (a + 27) (b + 27)) (fun _ M' => CpT M M' a b 34 R) := by
    unfold f_X4_copy
    rw [ar4.1, br4.1]
    refine tot.bd (u6.sc hR hd (c := 29) (n := 5) (Nat.le_of_ble_eq_true rfl) (Nat.le_of_ble_eq_true rfl) hn_7 ar4.2 br4.2) ?_
    intro r7 N7 p7
    show tot ((f_X8_copy N7 (gRf (a + 27) 2) (gRf (b + 27) 2)).bind _) _
    rw [ar5.1, br5.1]
    refine tot.bd (p7.sc hR hd (c := 31) (n := 5) (Nat.le_of_ble_eq_true rfl) (Nat.le_of_ble_eq_true rfl) hn_8 ar5.2 br5.2) ?_
    intro r8 N8 p8
    show tot ((f_X8_copy N8 (gRf (a + 27) 3) (gRf (b + 27) 3)).bind _) _
    rw [ar6.1, br6.1]
    refine tot.bd (p8.sc hR hd (c := 33) (n := 5) (Nat.le_of_ble_eq_true rfl) (Nat.le_of_ble_eq_true rfl) hn_9 ar6.2 br6.2) ?_
    intro r9 N9 p9
    exact tot.ret p9
  refine tot.bd v6 ?_
  intro s9 M3 t9
  show tot ((f_X0_copy M3 (gRf a 3) (gRf b 3)).bind _) _
  rw [a9.2.2.2.1, b9.2.2.2.1]
  have u10 := t9.one hR hd (c := 34) (Nat.le_of_ble_eq_true rfl) (Nat.le_of_ble_eq_true rfl) hn_10
  have v10 : tot (f_X0_copy M3 (a + 34) (b + 34)) (fun _ M' => CpT M M' a b 39 R) := by
    unfold f_X0_copy
    rw [ar7.1, br7.1]
    refine tot.bd (u10.sc hR hd (c := 36) (n := 6) (Nat.le_of_ble_eq_true rfl) (Nat.le_of_ble_eq_true rfl) hn_11 ar7.2 br7.2) ?_
    intro r11 N11 p11
    show tot ((f_X8_copy N11 (gRf (a + 34) 2) (gRf (b + 34) 2)).bind _) _
    rw [ar8.1, br8.1]
    refine tot.bd (p11.sc hR hd (c := 38) (n := 60) (Nat.le_of_ble_eq_true rfl) (Nat.le_of_ble_eq_true rfl) hn_12 ar8.2 br8.2) ?_
    intro r12 N12 p12
    exact tot.ret p12
  refine tot.bd v10 ?_
  intro s12 M4 t12
  show tot ((f_X5_copy M4 (gRf a 4) (gRf b 4)).bind _) _
  rw [a9.2.2.2.2, b9.2.2.2.2]
  have u13 := t12.one hR hd (c := 39) (Nat.le_of_ble_eq_true rfl) (Nat.le_of_ble_eq_true rfl) hn_13
  have v13 : tot (f_X5_copy M4 (a + 39) (b + 39)) (fun _ M' => CpT M M' a b 46 R) := by
    unfold f_X5_copy
    rw [ar9.1, br9.1]
    refine tot.bd (u13.sc hR hd (c := 41) (n := 10) (Nat.le_of_ble_eq_true rfl) (Nat.le_of_ble_eq_true rfl) hn_14 ar9.2 br9.2) ?_
    intro r14 N14 p14
    show tot ((f_X8_copy N14 (gRf (a + 39) 2) (gRf (b + 39) 2)).bind _) _
    rw [ar10.1, br10.1]
    refine tot.bd (p14.sc hR hd (c := 43) (n := 10) (Nat.le_of_ble_eq_true rfl) (Nat.le_of_ble_eq_true rfl) hn_15 ar10.2 br10.2) ?_
    intro r15 N15 p15
    show tot ((f_X8_copy N15 (gRf (a + 39) 3) (gRf (b + 39) 3)).bind _) _
    rw [ar11.1, br11.1]
    refine tot.bd (p15.sc hR hd (c := 45) (n := 10) (Nat.le_of_ble_eq_true rfl) (Nat.le_of_ble_eq_true rfl) hn_16 ar11.2 br11.2) ?_
    intro r16 N16 p16
    exact tot.ret p16
  refine tot.bd v13 ?_
  intro s16 M5 t16
  exact tot.ret ⟨fun o k hi => t16.1 o k (inR_lo hi).2 hi, t16.2⟩
theorem k_fault {M : Mem} {s : St} (h : CS M s) : f_X10_fault M 0 = some (sPl s, M) := by
  unfold f_X10_fault
  rw [h.2.2.1]
theorem im_at : ∀ i, i < 3 → gRf 57 i = 112 + 46 * i := by decide +kernel
theorem im_rs : ∀ i, i < 3 → RdS (112 + 46 * i) := fun i hi => by
  have : i = 0 ∨ i = 1 ∨ i = 2 := by omega
  rcases this with rfl | rfl | rfl
  · exact rs_112
  · exact rs_158
  · exact rs_204
theorem g07 : gRf 0 7 = 57 := by decide +kernel
theorem gn57 : gN 57 = 3 := by decide +kernel
theorem k_image {M : Mem} {s : St} (h : CS M s) (ok : SOK s) : tot (f_X10_image M 0) (fun r M' => .inl r = (oImage s).1 ∧ CS M' (oImage s).2 ∧ Hi M M') := by
  have hi3 := ok.2.2.2.2.2.1
  unfold f_X10_image f_X10_image_b31 oImage
  rw [h.2.2.2.1, g07, gn57, if_neg (i_lt0 (by omega))]
  by_cases hl : (sIm s).length < 3
  · rw [if_neg (i_nle hl (by omega)), if_pos (i_in hl (by omega)), i_cl (by omega), im_at _ hl, g06, if_pos hl]
    refine tot.bd (r_road (im_rs _ hl) rs_11 (by omega) h.rr) ?_
    rintro r M1 ⟨hR, hf⟩
    have e8 : M1 0 8 = nI (sIm s).length := by rw [hf 0 (by omega)]; exact h.2.2.2.1
    refine tot.ret ⟨?_, ?_, fun b hb => ?_⟩
    · show Sum.inl (mU M1 0 8 (M1 0 8 + 1) 0 8) = _
      rw [mU_at, if_pos ⟨rfl, rfl⟩, e8, nI_1]
    · obtain ⟨c1, c2, c3, c4, c5, c6, c7, c8⟩ := h
      show CS (mU M1 0 8 (M1 0 8 + 1)) _
      rw [e8, nI_1]
      have hz : ∀ j, j ≠ 8 → mU M1 0 8 (nI ((sIm s).length + 1)) 0 j = M 0 j := fun j hj => by rw [mU_at, if_neg (by omega), hf 0 (by omega)]
      have hy : ∀ b, b ≠ 0 → mU M1 0 8 (nI ((sIm s).length + 1)) b = M1 b := fun b hb => u_ne hb
      refine ⟨by rw [hz 1 (by decide)]; exact c1, by rw [hz 4 (by decide)]; exact c2, by rw [hz 5 (by decide)]; exact c3, ?_, fun k hk => by rw [hy 2 (by decide), hf 2 (by omega)]; exact c5 k hk, fun i A hi => (c6 i A hi).fr ?_ ?_, c7.fr (fun b h1 h2 => by rw [hy b (by omega), hf b (by omega)]), fun i R hi => ?_⟩
      · rw [mU_at, if_pos ⟨rfl, rfl⟩]
        show _ = nI (sIm s ++ [sRd s]).length
        rw [List.length_append]
        rfl
      · have hi : (sLs s)[i]? = some A := hi
        have := (List.getElem?_eq_some_iff.mp hi).1
        have := ok.2.2.1
        rw [hy _ (by omega), hf _ (by omega)]
      · have hi : (sLs s)[i]? = some A := hi
        have := (List.getElem?_eq_some_iff.mp hi).1
        have := ok.2.2.1
        rw [hy _ (by omega), hf _ (by omega)]
      · have hi : (sIm s ++ [sRd s])[i]? = some R := hi
        by_cases hz2 : i < (sIm s).length
        · rw [List.getElem?_append_left hz2] at hi
          exact (c8 i R hi).fr (fun b h1 h2 => by rw [hy b (by omega), hf b (by omega)])
        · rw [List.getElem?_append_right (by omega)] at hi
          have hi2 := (List.getElem?_eq_some_iff.mp hi).1
          have hi2 : i - (sIm s).length < 1 := hi2
          have hi3 : i = (sIm s).length := by omega
          subst hi3
          rw [Nat.sub_self] at hi
          cases hi
          exact hR.fr (fun b h1 h2 => hy b (by omega))
    · show mU M1 0 8 _ b = M b
      rw [u_ne (by omega)]
      exact hf b (by omega)
  · rw [if_pos (i_le (by omega) (by omega)), if_neg hl]
    exact tot.ret ⟨rfl, h, fun _ _ => rfl⟩
theorem k_restore {M : Mem} {s : St} (h : CS M s) (ok : SOK s) : tot (f_X10_restore M 0) (fun r M' => .inl r = (oRestore s).1 ∧ CS M' (oRestore s).2 ∧ Hi M M') := by
  have hi3 := ok.2.2.2.2.2.1
  unfold f_X10_restore f_X10_restore_b33 oRestore
  rw [h.2.2.2.1, g07, gn57]
  by_cases hl : 0 < (sIm s).length
  · have hlt : (sIm s).length - 1 < 3 := by omega
    rw [if_neg (nI_nle hl (by omega)), if_neg (nI_nlt (by omega) (by omega)), i_prd hl, if_pos (i_in hlt (by omega)), i_cl (by omega), im_at _ hlt, g06, if_pos hl]
    have hget : (sIm s)[(sIm s).length - 1]? = some (((sIm s)[(sIm s).length - 1]?).getD (sRd s)) := by
      rw [List.getElem?_eq_getElem (show (sIm s).length - 1 < (sIm s).length by omega)]
      rfl
    refine tot.bd (r_road rs_11 (im_rs _ hlt) (by omega) (h.2.2.2.2.2.2.2 _ _ hget)) ?_
    rintro r M1 ⟨hR, hf⟩
    have e8 : M1 0 8 = nI (sIm s).length := by rw [hf 0 (by omega)]; exact h.2.2.2.1
    refine tot.ret ⟨?_, ?_, fun b hb => ?_⟩
    · show Sum.inl (mU M1 0 8 (M1 0 8 - 1) 0 8) = _
      rw [mU_at, if_pos ⟨rfl, rfl⟩, e8, i_prd hl]
    · obtain ⟨c1, c2, c3, c4, c5, c6, c7, c8⟩ := h
      show CS (mU M1 0 8 (M1 0 8 - 1)) _
      rw [e8, i_prd hl]
      have hz : ∀ j, j ≠ 8 → mU M1 0 8 (nI ((sIm s).length - 1)) 0 j = M 0 j := fun j hj => by rw [mU_at, if_neg (by omega), hf 0 (by omega)]
      have hy : ∀ b, b ≠ 0 → mU M1 0 8 (nI ((sIm s).length - 1)) b = M1 b := fun b hb => u_ne hb
      refine ⟨by rw [hz 1 (by decide)]; exact c1, by rw [hz 4 (by decide)]; exact c2, by rw [hz 5 (by decide)]; exact c3, ?_, fun k hk => by rw [hy 2 (by decide), hf 2 (by omega)]; exact c5 k hk, fun i A hi => (c6 i A hi).fr (by rw [hy _ (by omega), hf _ (by omega)]) (by rw [hy _ (by omega), hf _ (by omega)]), hR.fr (fun b h1 h2 => hy b (by omega)), fun i R hi => ?_⟩
      · rw [mU_at, if_pos ⟨rfl, rfl⟩]
        show _ = nI ((sIm s).take ((sIm s).length - 1)).length
        rw [List.length_take, Nat.min_eq_left (by omega)]
      · have hi : ((sIm s).take ((sIm s).length - 1))[i]? = some R := hi
        have hi2 := (List.getElem?_eq_some_iff.mp hi).1
        rw [List.length_take] at hi2
        rw [List.getElem?_take_of_lt (by omega)] at hi
        exact (c8 i R hi).fr (fun b h1 h2 => by rw [hy b (by omega), hf b (by omega)])
    · show mU M1 0 8 _ b = M b
      rw [u_ne (by omega)]
      exact hf b (by omega)
  · have hz : (sIm s).length = 0 := by omega
    rw [hz, if_pos (by decide), if_neg (by omega)]
    exact tot.ret ⟨rfl, h, fun _ _ => rfl⟩
