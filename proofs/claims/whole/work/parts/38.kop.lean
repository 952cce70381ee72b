/-! The class's calls, but feed, law, image, restore: what each answers and leaves. -/
def Hi (M M' : Mem) : Prop := ∀ b, 250 ≤ b → M' b = M b
/-- call f, on cells that hold s, comes to o -/
def KO (M : Mem) (f : Option ((Int32 ⊕ Nat) × Mem)) (o : An) : Prop := tot f (fun r M' => r = o.1 ∧ CS M' o.2 ∧ Hi M M')
theorem lw_all : ∀ i, i < 4 → LwS (92 + 5 * i) := fun i hi => by
  have : i = 0 ∨ i = 1 ∨ i = 2 ∨ i = 3 := by omega
  rcases this with rfl | rfl | rfl | rfl
  · exact lw_92
  · exact lw_97
  · exact lw_102
  · exact lw_107
theorem Fr.hi {i : Nat} {M M' : Mem} (hi : i < 4) (h : Fr (92 + 5 * i) M M') : Hi M M' := fun b hb => h b (by omega) (by omega)
theorem CS.go {M : Mem} {s : St} (h : CS M s) (ok : SOK s) {l : Int32} (hl : lOk s l = true) : ∃ i, i < 4 ∧ l = nI i ∧ (sLs s)[i]? = some (lw s l) ∧ LwS (92 + 5 * i) ∧ RLw M (92 + 5 * i) (lw s l) ∧ cTs (lw s l) [] = some [] := by
  obtain ⟨i, hi, rfl, hget, hA, hw⟩ := h.la hl ok
  have := ok.2.2.1
  exact ⟨i, by omega, rfl, hget, lw_all i (by omega), hA, hw⟩
theorem SOK.n {s : St} (ok : SOK s) : rD (sRd s) 0 0 = nI (pcs (sRd s)) ∧ 2 ≤ pcs (sRd s) ∧ pcs (sRd s) ≤ 8 := ok.2.2.2.2.1.1
theorem CS.d {M : Mem} {s : St} (h : CS M s) : RD M 12 (rD (sRd s)) := h.2.2.2.2.2.2.1.d rfl
theorem nar_b2 (b : Bool) : vp_nar .boolean (b2 b) = b2 b := by cases b <;> decide
section KOPS
variable {M : Mem} {s : St}
theorem k_grows (h : CS M s) (ok : SOK s) (l w kd j : Int32) : KO M (f_X10_grows M 0 l w kd j) (oGrows s l w kd j) := by
  unfold KO f_X10_grows oGrows
  by_cases hl : lOk s l = true
  · by_cases hw : dIn w 0 99 = true
    · by_cases hk : shOk kd j = true
      · simp only [q_law h ok, q_wind, q_shape, Option.bind_some, hl, hw, hk, Bool.and_self, ↓reduceIte, g09, g06, g11_0]
        obtain ⟨i, hi, rfl, hget, hL, hA, hwf⟩ := h.go ok hl
        obtain ⟨hn, h2, h8⟩ := ok.n
        rw [i_cl (by omega)]
        refine tot.bd (r_take (n := pcs (sRd s)) (by omega) hA h.d) ?_
        rintro r M1 ⟨_, hT1, hf1⟩
        refine tot.bd (r_grows hL (by omega) hT1 hwf hn h2 h8 kd j 100) ?_
        rintro r M2 ⟨rfl, hT2, hf2⟩
        show tot (if vp_nar .boolean (b2 _) = b2 _ then _ else _) _
        rw [if_pos (nar_b2 _)]
        exact tot.ret ⟨rfl, h.tr ok hget (hf1.tr hf2) hT2.2, (hf1.tr hf2).hi hi⟩
      · simp only [q_law h ok, q_wind, q_shape, Option.bind_some, hl, hw, hk, Bool.and_false, ↓reduceIte]
        exact tot.ret ⟨rfl, h, fun _ _ => rfl⟩
    · simp only [q_law h ok, q_wind, q_shape, Option.bind_some, hl, hw, Bool.false_and, ↓reduceIte]
      exact tot.ret ⟨rfl, h, fun _ _ => rfl⟩
  · simp only [q_law h ok, Option.bind_some, hl, ↓reduceIte]
    exact tot.ret ⟨rfl, h, fun _ _ => rfl⟩
end KOPS
