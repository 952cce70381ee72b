/-! The tape fed. -/
theorem lsb255 : ∀ i, i < 32 → 8 ≤ i → (255#32).getLsbD i = false := by decide
theorem byt_n (v : BitVec 32) (n : Nat) (hn : n ≤ 24) : (v >>> n) &&& 255#32 = (v.sshiftRight n) &&& 255#32 := by
  apply BitVec.eq_of_getLsbD_eq
  intro i hi
  rw [BitVec.getLsbD_and, BitVec.getLsbD_and, BitVec.getLsbD_ushiftRight, BitVec.getLsbD_sshiftRight]
  by_cases h8 : i < 8
  · have h1 : ¬ 32 ≤ i := by omega
    have h2 : n + i < 32 := by omega
    simp [h1, h2]
  · rw [lsb255 i hi (by omega), Bool.and_false, Bool.and_false]
theorem byt24 (v : Int32) : ((v.toUInt32 >>> ((24 : Int32).toUInt32 &&& Int32.toUInt32 31)).toInt32) &&& 255 = (v >>> (24 : Int32)) &&& 255 := Int32.toBitVec_inj.mp (byt_n v.toBitVec 24 (by decide))
theorem byt16 (v : Int32) : ((v.toUInt32 >>> ((16 : Int32).toUInt32 &&& Int32.toUInt32 31)).toInt32) &&& 255 = (v >>> (16 : Int32)) &&& 255 := Int32.toBitVec_inj.mp (byt_n v.toBitVec 16 (by decide))
theorem byt8 (v : Int32) : ((v.toUInt32 >>> ((8 : Int32).toUInt32 &&& Int32.toUInt32 31)).toInt32) &&& 255 = (v >>> (8 : Int32)) &&& 255 := Int32.toBitVec_inj.mp (byt_n v.toBitVec 8 (by decide))
theorem byt0 (v : Int32) : ((v.toUInt32 >>> ((0 : Int32).toUInt32 &&& Int32.toUInt32 31)).toInt32) &&& 255 = (v >>> (0 : Int32)) &&& 255 := Int32.toBitVec_inj.mp (byt_n v.toBitVec 0 (by decide))
theorem tp_w (M : Mem) {k : Nat} (hk : k < 300) (v : Int32) : rPut M (gRf 0 0) (nI k) v = mU M 2 k v := by
  have e1 : gRf (gRf 0 0) 0 = 2 := by decide +kernel
  have e2 : gN 2 = 300 := by decide +kernel
  rw [rPut_nI (by rw [e1, e2]; exact hk) (by rw [e1, e2]; omega), e1]
theorem tp_1 {M : Mem} {v x : Int32} {n t : Nat} (hx : ¬ x < 0) (ht : M 0 1 = nI t) (h3 : t < 300) : f_X10_putOnTape_h3 0 v (n + 1) x M = f_X10_putOnTape_h3 0 v n (x + (-8)) (mU (mU M 2 t (((v.toUInt32 >>> (x.toUInt32 &&& Int32.toUInt32 31)).toInt32) &&& 255)) 0 1 (nI (t + 1))) := by
  rw [f_X10_putOnTape_h3, if_neg hx, ht, q_put, Option.bind_some, tp_w M h3]
  show f_X10_putOnTape_h3 0 v n (x + (-8)) (mU (mU M 2 t _) 0 1 (mU M 2 t _ 0 1 + 1)) = _
  rw [u_ne (show (0 : Nat) ≠ 2 by decide), ht, nI_1]
theorem tp_put {M : Mem} {v : Int32} {t : Nat} (ht : M 0 1 = nI t) (h3 : t + 4 ≤ 300) : f_X10_putOnTape M 0 v = some (0, mU (mU (mU (mU (mU (mU (mU (mU M 2 t ((v >>> (24 : Int32)) &&& 255)) 0 1 (nI (t + 1))) 2 (t + 1) ((v >>> (16 : Int32)) &&& 255)) 0 1 (nI (t + 2))) 2 (t + 2) ((v >>> (8 : Int32)) &&& 255)) 0 1 (nI (t + 3))) 2 (t + 3) ((v >>> (0 : Int32)) &&& 255)) 0 1 (nI (t + 4))) := by
  unfold f_X10_putOnTape FU
  rw [tp_1 (n := 99999) (x := 24) (by decide) ht (by omega), show (24 : Int32) + (-8) = 16 by decide, byt24]
  rw [tp_1 (n := 99998) (x := 16) (t := t + 1) (by decide) (by rw [mU_at, if_pos ⟨rfl, rfl⟩]) (by omega), show (16 : Int32) + (-8) = 8 by decide, byt16]
  rw [tp_1 (n := 99997) (x := 8) (t := t + 2) (by decide) (by rw [mU_at, if_pos ⟨rfl, rfl⟩]) (by omega), show (8 : Int32) + (-8) = 0 by decide, byt8]
  rw [tp_1 (n := 99996) (x := 0) (t := t + 3) (by decide) (by rw [mU_at, if_pos ⟨rfl, rfl⟩]) (by omega), byt0]
  rw [f_X10_putOnTape_h3, if_pos (by decide)]
/-- what four bytes do to the cells of the tape -/
theorem tp_tot {M : Mem} {v : Int32} {t : Nat} {f : Nat → Int32} (ht : M 0 1 = nI t) (h3 : t + 4 ≤ 300) (hf : ∀ k, k < 300 → M 2 k = f k) : tot (f_X10_putOnTape M 0 v) (fun _ M' => M' 0 1 = nI (t + 4) ∧ (∀ k, k < 300 → M' 2 k = if t ≤ k ∧ k < t + 4 then sByt v (k - t) else f k) ∧ (∀ b, b ≠ 0 → b ≠ 2 → M' b = M b) ∧ ∀ j, j ≠ 1 → M' 0 j = M 0 j) := by
  refine tot.eq (tp_put ht h3) (tot.ret ⟨by rw [mU_at, if_pos ⟨rfl, rfl⟩], fun k hk => ?_, fun b h0 h2 => ?_, fun j hj => ?_⟩)
  · have e0 : t - t = 0 := by omega
    have e1 : t + 1 - t = 1 := by omega
    have e2 : t + 2 - t = 2 := by omega
    have e3 : t + 3 - t = 3 := by omega
    by_cases z0 : k = t
    · subst z0
      rw [if_pos (by omega), e0]
      simp [mU_at]; rfl
    by_cases z1 : k = t + 1
    · subst z1
      rw [if_pos (by omega), e1]
      simp [mU_at]; rfl
    by_cases z2 : k = t + 2
    · subst z2
      rw [if_pos (by omega), e2]
      simp [mU_at]; rfl
    by_cases z3 : k = t + 3
    · subst z3
      rw [if_pos (by omega), e3]
      simp [mU_at]
      show v &&& 255 = (v >>> (0 : Int32)) &&& 255
      simp
    rw [if_neg (by omega)]
    simp [mU_at, z0, z1, z2, z3, hf k hk]
  · rw [u_ne h0, u_ne h2, u_ne h0, u_ne h2, u_ne h0, u_ne h2, u_ne h0, u_ne h2]
  · simp [mU_at, hj]
theorem k_feed {M : Mem} {s : St} (h : CS M s) (ok : SOK s) (a b c d e : Int32) : tot (f_X10_feed M 0 a b c d e) (fun r M' => .inl r = (oFeed s a b c d e).1 ∧ CS M' (oFeed s a b c d e).2 ∧ Hi M M') := by
  have ht := h.1
  have h300 := ok.1
  unfold f_X10_feed oFeed
  have e20 : nI (sTb s) + 20 = nI (sTb s + 20) := nI_add _ 20
  rw [ht, e20]
  by_cases hl : sTb s + 20 ≤ 300
  · rw [if_pos (show nI (sTb s + 20) ≤ 300 from i_le (b := 300) hl (by omega)), if_pos hl]
    refine tot.bd (tp_tot ht (by omega) h.2.2.2.2.1) ?_
    rintro r1 M1 ⟨t1, f1, g1, j1⟩
    refine tot.bd (tp_tot t1 (by omega) f1) ?_
    rintro r2 M2 ⟨t2, f2, g2, j2⟩
    refine tot.bd (tp_tot t2 (by omega) f2) ?_
    rintro r3 M3 ⟨t3, f3, g3, j3⟩
    refine tot.bd (tp_tot t3 (by omega) f3) ?_
    rintro r4 M4 ⟨t4, f4, g4, j4⟩
    refine tot.bd (tp_tot t4 (by omega) f4) ?_
    rintro r5 M5 ⟨t5, f5, g5, j5⟩
    have hg : ∀ b, b ≠ 0 → b ≠ 2 → M5 b = M b := fun b h0 h2 => by rw [g5 b h0 h2, g4 b h0 h2, g3 b h0 h2, g2 b h0 h2, g1 b h0 h2]
    have hj : ∀ j, j ≠ 1 → M5 0 j = M 0 j := fun j z => by rw [j5 j z, j4 j z, j3 j z, j2 j z, j1 j z]
    have t5 : M5 0 1 = nI (sTb s + 20) := t5
    refine tot.ret ⟨congrArg Sum.inl t5, ?_, fun b hb => hg b (by omega) (by omega)⟩
    obtain ⟨c1, c2, c3, c4, c5, c6, c7, c8⟩ := h
    refine ⟨t5, by rw [hj 4 (by decide)]; exact c2, by rw [hj 5 (by decide)]; exact c3, by rw [hj 8 (by decide)]; exact c4, fun k hk => ?_, fun i A hi => (c6 i A hi).fr (by rw [hg _ (by omega) (by omega)]) (hg _ (by omega) (by omega)), c7.fr (fun b h1 h2 => hg b (by omega) (by omega)), fun i R hi => (c8 i R hi).fr (fun b h1 h2 => hg b (by omega) (by omega))⟩
    show M5 2 k = if sTb s ≤ k ∧ k < sTb s + 20 then sByt (sArg a b c d e (k - sTb s)) (k - sTb s) else sTf s k
    rw [f5 k hk]
    have hb4 : ∀ (v : Int32) (q p : Nat), q % 4 = p % 4 → sByt v q = sByt v p := fun v q p hqp => by unfold sByt; rw [hqp]
    by_cases z5 : sTb s + 16 ≤ k ∧ k < sTb s + 20
    · rw [if_pos (by omega), if_pos (by omega)]
      unfold sArg
      rw [if_neg (by omega), if_neg (by omega), if_neg (by omega), if_neg (by omega)]
      exact hb4 _ _ _ (by omega)
    rw [if_neg (by omega)]
    by_cases z4 : sTb s + 12 ≤ k ∧ k < sTb s + 16
    · rw [if_pos (by omega), if_pos (by omega)]
      unfold sArg
      rw [if_neg (by omega), if_neg (by omega), if_neg (by omega), if_pos (by omega)]
      exact hb4 _ _ _ (by omega)
    rw [if_neg (by omega)]
    by_cases z3 : sTb s + 8 ≤ k ∧ k < sTb s + 12
    · rw [if_pos (by omega), if_pos (by omega)]
      unfold sArg
      rw [if_neg (by omega), if_neg (by omega), if_pos (by omega)]
      exact hb4 _ _ _ (by omega)
    rw [if_neg (by omega)]
    by_cases z2 : sTb s + 4 ≤ k ∧ k < sTb s + 8
    · rw [if_pos (by omega), if_pos (by omega)]
      unfold sArg
      rw [if_neg (by omega), if_pos (by omega)]
      exact hb4 _ _ _ (by omega)
    rw [if_neg (by omega)]
    by_cases z1 : sTb s ≤ k ∧ k < sTb s + 4
    · rw [if_pos (by omega), if_pos (by omega)]
      unfold sArg
      rw [if_pos (by omega)]
    rw [if_neg (by omega), if_neg (by omega)]
  · rw [if_neg (show ¬ nI (sTb s + 20) ≤ 300 from i_nle (a := 300) (by omega) (by omega)), if_neg hl]
    exact tot.ret ⟨rfl, h, fun _ _ => rfl⟩
