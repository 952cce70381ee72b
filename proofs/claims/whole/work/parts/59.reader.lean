/-! The class's reader: its steps, against the parser. -/
theorem r_30 : gRf 3 0 = 4 := by decide +kernel
theorem r_40 : gRf 4 0 = 5 := by decide +kernel
theorem r_n5 : gN 5 = 300 := by decide +kernel
theorem r_34 : gRf 3 4 = 6 := by decide +kernel
theorem r_60 : gRf 6 0 = 7 := by decide +kernel
theorem r_61 : gRf 6 1 = 8 := by decide +kernel
theorem r_62 : gRf 6 2 = 9 := by decide +kernel
theorem r_n7 : gN 7 = 301 := by decide +kernel
theorem r_n8 : gN 8 = 301 := by decide +kernel
theorem r_n9 : gN 9 = 301 := by decide +kernel
def stt (f : Nat → Int32) (n : Nat) : Nat → Nat
  | 0 => sk f n 0
  | j + 1 => kN f n (stt f n j)
/-- the tokens lie in their rows -/
def TOK (f : Nat → Int32) (n J : Nat) (M : Mem) : Prop := (stt f n J = n ∧ J ≤ 300 ∧ n ≤ 300) ∧ ∀ j, j ≤ J → M 7 j = nI (kK f n (stt f n j)) ∧ M 8 j = nI (stt f n j) ∧ M 9 j = nI (kV f n (stt f n j))
def CDS (M : Mem) (C : List Int32) : Prop := M 3 1 = nI C.length ∧ C.length ≤ 300 ∧ ∀ k v, C[k]? = some v → M 5 k = v
/-- the reader stands at the token at p, without fault, and has told C -/
def RP (f : Nat → Int32) (n : Nat) (M : Mem) (p : Nat) (C : List Int32) : Prop := ∃ J j, TOK f n J M ∧ j ≤ J ∧ stt f n j = p ∧ (M 3 5 = nI j ∧ M 3 6 = nI (kK f n p) ∧ M 3 7 = nI p ∧ M 3 8 = nI (kV f n p)) ∧ M 3 2 = 0 ∧ CDS M C
def RF (M : Mem) (e : Nat × Nat) : Prop := (M 3 2 = nI e.1 ∧ 1 ≤ e.1 ∧ e.1 ≤ 3) ∧ M 3 3 = nI e.2 ∧ M 3 6 = 402
def HF (M M' : Mem) : Prop := ∀ b, b ≠ 3 → b ≠ 5 → M' b = M b
theorem HF.rf {M : Mem} : HF M M := fun _ _ _ => rfl
theorem HF.tr {M M' M'' : Mem} (h : HF M M') (h' : HF M' M'') : HF M M'' := fun b h1 h2 => (h' b h1 h2).trans (h b h1 h2)
theorem HF.u3 {M : Mem} {k : Nat} {v : Int32} : HF M (mU M 3 k v) := fun b h1 _ => u_ne h1
section READER
variable {f : Nat → Int32} {n : Nat} {M : Mem} {p : Nat} {C : List Int32}
theorem RP.tk (h : RP f n M p C) : M 3 6 = nI (kK f n p) := by obtain ⟨J, j, _, _, _, h4, _⟩ := h; exact h4.2.1
theorem RP.vl (h : RP f n M p C) : M 3 8 = nI (kV f n p) := by obtain ⟨J, j, _, _, _, h4, _⟩ := h; exact h4.2.2.2
theorem RP.le (h : RP f n M p C) : p ≤ n ∧ n ≤ 300 := by
  obtain ⟨J, j, h1, h2, h3, _⟩ := h
  refine ⟨?_, h1.1.2.2⟩
  rw [← h3]
  cases j with
  | zero => exact run_le isB f n _ 0 (by omega)
  | succ j => 
    show sk f n (kE f n (stt f n j)) ≤ n
    have hj : ∀ j, stt f n j ≤ n := fun j => by
      induction j with
      | zero => exact run_le isB f n _ 0 (by omega)
      | succ j ih =>
        show sk f n (kE f n (stt f n j)) ≤ n
        by_cases hz : stt f n j < n
        · exact (kN_gt hz).2
        · unfold kE
          rw [if_neg hz]
          exact run_le isB f n _ _ ih
    exact hj (j + 1)
theorem r_fail (h : RP f n M p C) {c : Nat} (h1 : 1 ≤ c) (h3 : c ≤ 3) : tot (f_X6_fail M 3 (nI c)) (fun _ M' => RF M' (c, p) ∧ HF M M') := by
  obtain ⟨J, j, _, _, _, h4, h5, _⟩ := h
  unfold f_X6_fail
  rw [if_pos h5]
  refine tot.ret ⟨⟨⟨?_, h1, h3⟩, ?_, ?_⟩, (HF.u3.tr HF.u3).tr HF.u3⟩
  · rw [mU_at, if_neg (by omega), mU_at, if_neg (by omega), mU_at, if_pos ⟨rfl, rfl⟩]
  · rw [mU_at, if_neg (by omega), mU_at, if_pos ⟨rfl, rfl⟩, mU_at, if_neg (by omega)]; exact h4.2.2.1
  · rw [mU_at, if_pos ⟨rfl, rfl⟩]
theorem RF.ne {e : Nat × Nat} (h : RF M e) : ¬ M 3 2 = 0 := by
  rw [h.1.1]
  exact fun z => absurd ((i_eq (a := e.1) (b := 0) (by have := h.1.2.2; omega) (by decide)).mp z) (by have := h.1.2.1; omega)
theorem r_fail2 {e : Nat × Nat} (h : RF M e) (c : Int32) : f_X6_fail M 3 c = some (0, M) := by
  unfold f_X6_fail
  rw [if_neg h.ne]
theorem emit_eq (c : Int32) : f_X6_emit M 3 c = some (0, mU (rPut M 4 (M 3 1) c) 3 1 (rPut M 4 (M 3 1) c 3 1 + 1)) := by
  unfold f_X6_emit
  rw [r_30, q_put, Option.bind_some]
theorem put_45 (i c : Int32) (b k : Nat) (hb : b ≠ 5) : rPut M 4 i c b k = M b k := by
  unfold rPut
  split
  · rw [r_40, u_ne hb]
  · rfl
theorem r_emit2 {e : Nat × Nat} (h : RF M e) (c : Int32) : tot (f_X6_emit M 3 c) (fun _ M' => RF M' e ∧ HF M M') := by
  rw [emit_eq]
  refine tot.ret ⟨⟨⟨?_, h.1.2⟩, ?_, ?_⟩, fun b h1 h2 => ?_⟩
  · rw [mU_at, if_neg (by omega), put_45 _ _ _ _ (by decide)]; exact h.1.1
  · rw [mU_at, if_neg (by omega), put_45 _ _ _ _ (by decide)]; exact h.2.1
  · rw [mU_at, if_neg (by omega), put_45 _ _ _ _ (by decide)]; exact h.2.2
  · rw [u_ne h1]; exact funext fun k => put_45 _ _ _ _ h2
theorem r_emit (h : RP f n M p C) (hC : C.length < 300) (c : Int32) : tot (f_X6_emit M 3 c) (fun _ M' => RP f n M' p (C ++ [c]) ∧ HF M M') := by
  obtain ⟨J, j, h1, h2, h3, h4, h5, h6⟩ := h
  rw [emit_eq, h6.1]
  have e : rPut M 4 (nI C.length) c = mU M 5 C.length c := by
    rw [rPut_nI (by rw [r_40, r_n5]; exact hC) (by rw [r_40, r_n5]; decide), r_40]
  rw [e]
  have e3 : ∀ k, k ≠ 1 → mU (mU M 5 C.length c) 3 1 (mU M 5 C.length c 3 1 + 1) 3 k = M 3 k := fun k hk => by
    rw [mU_at, if_neg (fun z => hk z.2), u_ne (by decide)]
  have eo : ∀ b, b ≠ 3 → b ≠ 5 → mU (mU M 5 C.length c) 3 1 (mU M 5 C.length c 3 1 + 1) b = M b := fun b b1 b2 => by rw [u_ne b1, u_ne b2]
  refine tot.ret ⟨⟨J, j, ⟨h1.1, fun i hi => ?_⟩, h2, h3, ?_, ?_, ?_, ?_, fun k v hk => ?_⟩, eo⟩
  · rw [eo 7 (by decide) (by decide), eo 8 (by decide) (by decide), eo 9 (by decide) (by decide)]; exact h1.2 i hi
  · rw [e3 5 (by decide), e3 6 (by decide), e3 7 (by decide), e3 8 (by decide)]; exact h4
  · rw [e3 2 (by decide)]; exact h5
  · rw [mU_at, if_pos ⟨rfl, rfl⟩, u_ne (by decide), h6.1, List.length_append]
    exact (nI_succ _).symm
  · rw [List.length_append]; simp only [List.length_cons, List.length_nil]; omega
  · rw [u_ne (by decide), mU_at]
    by_cases hz : k = C.length
    · rw [if_pos ⟨rfl, hz⟩]
      rw [hz, List.getElem?_append_right (Nat.le_refl _), Nat.sub_self] at hk
      cases hk; rfl
    · rw [if_neg (fun z => hz z.2)]
      have hlt := (List.getElem?_eq_some_iff.mp hk).1
      rw [List.length_append] at hlt
      simp only [List.length_cons, List.length_nil] at hlt
      rw [List.getElem?_append_left (by omega)] at hk
      exact h6.2.2 k v hk
end READER
