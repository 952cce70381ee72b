/-! Both sides of a call together: equal answers, and what both hold after it. -/
def Inv (M : Mem) (s : St) : Prop := CS M s ∧ MS M s ∧ SOK s
theorem CS.ex {M M' : Mem} {s : St} (h : CS M s) (ok : SOK s) (hf : ∀ b, b < 250 → M' b = M b) : CS M' s := h.fr ok (hf 0 (by omega)) (hf 2 (by omega)) (fun b _ hb => hf b (by omega)) (fun b _ hb => hf b hb) (fun i A hA => by
  have h1 : i < (sLs s).length := (List.getElem?_eq_some_iff.mp hA).1
  have h2 := ok.2.2.1
  exact (h.2.2.2.2.2.1 i A hA).fr (by rw [hf _ (by omega)]) (hf _ (by omega)))
theorem MS.ex {M M' : Mem} {s : St} (h : MS M s) (ok : SOK s) (hf : ∀ b, 250 ≤ b → b < 331 → M' b = M b) : MS M' s := h.fr ok (fun j _ => by rw [hf 250 (by omega) (by omega)]) (h.d.fr (by rw [hf 250 (by omega) (by omega)]) (by rw [hf 250 (by omega) (by omega)]) (fun b hb => hf b (by omega) (by omega))) (fun b hb hb2 => hf b (by omega) (by omega))
def cdO (cd : Nat → Int32) (o : Int32 ⊕ Nat) : Int32 := match o with | .inl _ => 0 | .inr j => cd j
def lvO (o : Int32 ⊕ Nat) (M : Mem) : Mem := match o with | .inl v => mU M 331 0 v | .inr _ => M
/-- wrapper and model: the wrapper's number is what the model threw, the answers are equal, s' is held after both -/
def Cmb (fL : Option ((Int32 ⊕ Nat) × Mem)) (fm : Mem → Option (Int32 × Mem)) (s' : St) : Prop := ∃ t M1 r M2, fL = some (.inl t, M1) ∧ fm M1 = some (r, M2) ∧ M2 250 0 = t ∧ (t = 0 → M2 331 0 = r) ∧ Inv M2 s'
def Cmd (fk : Option (Int32 × Mem)) (fm : Mem → Option (Int32 × Mem)) (s' : St) : Prop := ∃ r M1 M2, fk = some (r, M1) ∧ fm M1 = some (r, M2) ∧ Inv M2 s'
section CMB
variable {M : Mem} {s : St}
theorem cmb_of {o : An} {fk : Option ((Int32 ⊕ Nat) × Mem)} {fm : Mem → Option (Int32 × Mem)} {cd : Nat → Int32} {fL : Option ((Int32 ⊕ Nat) × Mem)} (hI : Inv M s) (hK : KO M fk o) (hm : ∀ M1, MS M1 s → tot (fm M1) (fun r M' => Rs cd o.1 r (M' 250 0) ∧ MS M' o.2 ∧ Lw M1 M')) (hz : SOK o.2) (hcd : ∀ j, cd j ≠ 0) (hL : ∀ M1, fk = some (o.1, M1) → fL = some (.inl (cdO cd o.1), lvO o.1 M1)) : Cmb fL fm o.2 := by
  obtain ⟨r, M1, e1, rfl, hC, hH⟩ := hK
  have hM1 : MS (lvO o.1 M1) s := hI.2.1.ex hI.2.2 (fun b h1 h2 => by
    rw [← hH b h1]
    unfold lvO
    cases o.1 with
    | inl v => exact u_ne (by omega)
    | inr j => rfl)
  obtain ⟨r2, M2, e2, hR, hMS, hW⟩ := hm _ hM1
  refine ⟨_, _, r2, M2, hL M1 e1, e2, ?_, fun ht => ?_, ?_, hMS, hz⟩
  · unfold Rs at hR
    unfold cdO
    cases ho : o.1 with
    | inl v => rw [ho] at hR; exact hR.1
    | inr j => rw [ho] at hR; exact hR
  · rw [hW 331 (Or.inr rfl)]
    unfold Rs at hR
    unfold cdO at ht
    cases ho : o.1 with
    | inl v =>
      rw [ho] at hR
      show mU M1 331 0 v 331 0 = r2
      rw [mU_at, if_pos ⟨rfl, rfl⟩]
      exact hR.2.symm
    | inr j => rw [ho] at ht; exact absurd ht (hcd j)
  · refine hC.ex hz (fun b hb => ?_)
    rw [hW b (Or.inl hb)]
    unfold lvO
    cases o.1 with
    | inl v => exact u_ne (by omega)
    | inr j => rfl
/-- as cmb_of, for answers 0 and 1 -/
def CmbB (fL : Option ((Int32 ⊕ Nat) × Mem)) (fm : Mem → Option (Int32 × Mem)) (s' : St) : Prop := ∃ t M1 r M2, fL = some (.inl t, M1) ∧ fm M1 = some (r, M2) ∧ M2 250 0 = t ∧ (t = 0 → M2 331 0 = r ∧ (r = 0 ∨ r = 1)) ∧ Inv M2 s'
theorem cmd_of {o : An} {fk : Option (Int32 × Mem)} {fm : Mem → Option (Int32 × Mem)} (hI : Inv M s) (hK : tot fk (fun r M' => .inl r = o.1 ∧ CS M' o.2 ∧ Hi M M')) (hm : ∀ M1, MS M1 s → tot (fm M1) (fun r M' => .inl r = o.1 ∧ MS M' o.2 ∧ Lo M1 M')) (hz : SOK o.2) : Cmd fk fm o.2 := by
  obtain ⟨r, M1, e1, hr, hC, hH⟩ := hK
  obtain ⟨r2, M2, e2, hr2, hMS, hW⟩ := hm _ (hI.2.1.ex hI.2.2 (fun b h1 h2 => hH b h1))
  have : r2 = r := by
    have h := hr2.trans hr.symm
    cases h; rfl
  subst this
  exact ⟨r2, M1, M2, e1, e2, hC.ex hz (fun b hb => hW b (Or.inl hb)), hMS, hz⟩
/-- the answer, or one of these -/
def Sh (J : List Nat) (o : An) : Prop := (∃ v, o.1 = .inl v) ∨ ∃ j ∈ J, o.1 = .inr j
def ShB (J : List Nat) (o : An) : Prop := (∃ b, o.1 = .inl (b2 b)) ∨ ∃ j ∈ J, o.1 = .inr j
def wA (j0 a : Nat) (f : Option ((Int32 ⊕ Nat) × Mem)) : Option ((Int32 ⊕ Nat) × Mem) := f.bind fun q => match q with | (.inl r1, M2) => (if ¬ ((0 : Int32) < 0 ∨ gN a ≤ (0 : Int32).toNatClampNeg) then (some (.inl 0, (mU M2 a (0 : Int32).toNatClampNeg r1))) else none) | (.inr j4, M2) => if j4 = j0 then (some (.inl 1, M2)) else (none)
def wB (j0 j1 a : Nat) (f : Option ((Int32 ⊕ Nat) × Mem)) : Option ((Int32 ⊕ Nat) × Mem) := f.bind fun q => match q with | (.inl r1, M2) => (if ¬ ((0 : Int32) < 0 ∨ gN a ≤ (0 : Int32).toNatClampNeg) then (some (.inl 0, (mU M2 a (0 : Int32).toNatClampNeg r1))) else none) | (.inr j4, M2) => if j4 = j0 then (some (.inl 1, M2)) else (if j4 = j1 then (some (.inl 2, M2)) else (none))
def wD (j0 j1 j2 a : Nat) (f : Option ((Int32 ⊕ Nat) × Mem)) : Option ((Int32 ⊕ Nat) × Mem) := f.bind fun q => match q with | (.inl r1, M2) => (if ¬ ((0 : Int32) < 0 ∨ gN a ≤ (0 : Int32).toNatClampNeg) then (some (.inl 0, (mU M2 a (0 : Int32).toNatClampNeg r1))) else none) | (.inr j4, M2) => if j4 = j0 then (some (.inl 1, M2)) else (if j4 = j1 then (some (.inl 2, M2)) else (if j4 = j2 then (some (.inl 3, M2)) else (none)))
def wG (j0 j1 a : Nat) (f : Option ((Int32 ⊕ Nat) × Mem)) : Option ((Int32 ⊕ Nat) × Mem) := f.bind fun q => match q with | (.inl r1, M2) => (if r1 = 0 then (if ¬ ((0 : Int32) < 0 ∨ gN a ≤ (0 : Int32).toNatClampNeg) then (some (.inl 0, (mU M2 a (0 : Int32).toNatClampNeg (0 : Int32)))) else none) else (if ¬ ((0 : Int32) < 0 ∨ gN a ≤ (0 : Int32).toNatClampNeg) then (some (.inl 0, (mU M2 a (0 : Int32).toNatClampNeg (1 : Int32)))) else none)) | (.inr j4, M2) => if j4 = j0 then (some (.inl 1, M2)) else (if j4 = j1 then (some (.inl 2, M2)) else (none))
theorem gN_331 : gN 331 = 1 := by decide +kernel
theorem out_in : ¬ ((0 : Int32) < 0 ∨ gN 331 ≤ (0 : Int32).toNatClampNeg) := by rw [gN_331]; decide
theorem out_if {M1 : Mem} {v : Int32} : (if ¬ ((0 : Int32) < 0 ∨ gN 331 ≤ (0 : Int32).toNatClampNeg) then (some ((.inl 0 : Int32 ⊕ Nat), (mU M1 331 (0 : Int32).toNatClampNeg v))) else none) = some (.inl 0, mU M1 331 0 v) := by
  rw [if_pos out_in]; rfl
theorem wA_of {o : An} {j0 : Nat} {fk : Option ((Int32 ⊕ Nat) × Mem)} (hs : Sh [j0] o) : ∀ M1, fk = some (o.1, M1) → wA j0 331 fk = some (.inl (cdO cdA o.1), lvO o.1 M1) := by
  intro M1 e
  rw [e]
  rcases hs with ⟨v, h⟩ | ⟨j, hj, h⟩
  · rw [h]
    exact out_if
  · rw [h]
    rw [List.mem_singleton] at hj
    subst hj
    exact if_pos rfl
theorem wB_of {o : An} {j0 j1 : Nat} {cd : Nat → Int32} {fk : Option ((Int32 ⊕ Nat) × Mem)} (hs : Sh [j0, j1] o) (h0 : cd j0 = 1) (h1 : cd j1 = 2) (hne : j1 ≠ j0) : ∀ M1, fk = some (o.1, M1) → wB j0 j1 331 fk = some (.inl (cdO cd o.1), lvO o.1 M1) := by
  intro M1 e
  rw [e]
  rcases hs with ⟨v, h⟩ | ⟨j, hj, h⟩
  · rw [h]
    exact out_if
  · rw [h]
    rw [List.mem_cons, List.mem_singleton] at hj
    unfold cdO lvO
    rcases hj with rfl | rfl
    · dsimp only
      rw [h0]; exact if_pos rfl
    · dsimp only
      rw [h1]; exact (if_neg hne).trans (if_pos rfl)
theorem wD_of {o : An} {fk : Option ((Int32 ⊕ Nat) × Mem)} (hs : Sh [2, 1, 0] o) : ∀ M1, fk = some (o.1, M1) → wD 2 1 0 331 fk = some (.inl (cdO cdD o.1), lvO o.1 M1) := by
  intro M1 e
  rw [e]
  rcases hs with ⟨v, h⟩ | ⟨j, hj, h⟩
  · rw [h]
    exact out_if
  · rw [h]
    simp only [List.mem_cons, List.not_mem_nil, or_false] at hj
    rcases hj with rfl | rfl | rfl <;> rfl
theorem cmbB_of {o : An} {J : List Nat} {fk : Option ((Int32 ⊕ Nat) × Mem)} {fm : Mem → Option (Int32 × Mem)} {cd : Nat → Int32} {fL : Option ((Int32 ⊕ Nat) × Mem)} (hI : Inv M s) (hK : KO M fk o) (hm : ∀ M1, MS M1 s → tot (fm M1) (fun r M' => Rs cd o.1 r (M' 250 0) ∧ MS M' o.2 ∧ Lw M1 M')) (hz : SOK o.2) (hcd : ∀ j, cd j ≠ 0) (hL : ∀ M1, fk = some (o.1, M1) → fL = some (.inl (cdO cd o.1), lvO o.1 M1)) (hs : ShB J o) : CmbB fL fm o.2 := by
  obtain ⟨r, M1, e1, rfl, hC, hH⟩ := hK
  have hM1 : MS (lvO o.1 M1) s := hI.2.1.ex hI.2.2 (fun b h1 h2 => by
    rw [← hH b h1]
    unfold lvO
    cases o.1 with
    | inl v => exact u_ne (by omega)
    | inr j => rfl)
  obtain ⟨r2, M2, e2, hR, hMS, hW⟩ := hm _ hM1
  refine ⟨_, _, r2, M2, hL M1 e1, e2, ?_, fun ht => ?_, ?_, hMS, hz⟩
  · unfold Rs at hR
    unfold cdO
    cases ho : o.1 with
    | inl v => rw [ho] at hR; exact hR.1
    | inr j => rw [ho] at hR; exact hR
  · rw [hW 331 (Or.inr rfl)]
    unfold Rs at hR
    unfold cdO at ht
    rcases hs with ⟨b, ho⟩ | ⟨j, hj, ho⟩
    · rw [ho] at hR ⊢
      refine ⟨?_, ?_⟩
      · show mU M1 331 0 (b2 b) 331 0 = r2
        rw [mU_at, if_pos ⟨rfl, rfl⟩]
        exact hR.2.symm
      · rw [hR.2]
        cases b with
        | true => exact Or.inr rfl
        | false => exact Or.inl rfl
    · rw [ho] at ht; exact absurd ht (hcd j)
  · refine hC.ex hz (fun b hb => ?_)
    rw [hW b (Or.inl hb)]
    unfold lvO
    cases o.1 with
    | inl v => exact u_ne (by omega)
    | inr j => rfl
theorem wG_of {o : An} {fk : Option ((Int32 ⊕ Nat) × Mem)} (hs : ShB [2, 0] o) : ∀ M1, fk = some (o.1, M1) → wG 2 0 331 fk = some (.inl (cdO cdB o.1), lvO o.1 M1) := by
  intro M1 e
  rw [e]
  rcases hs with ⟨b, h⟩ | ⟨j, hj, h⟩
  · rw [h]
    cases b with
    | true =>
      show (if b2 true = 0 then (if ¬ ((0 : Int32) < 0 ∨ gN 331 ≤ (0 : Int32).toNatClampNeg) then (some ((.inl 0 : Int32 ⊕ Nat), (mU M1 331 (0 : Int32).toNatClampNeg 0))) else none) else (if ¬ ((0 : Int32) < 0 ∨ gN 331 ≤ (0 : Int32).toNatClampNeg) then (some ((.inl 0 : Int32 ⊕ Nat), (mU M1 331 (0 : Int32).toNatClampNeg 1))) else none)) = _
      rw [if_neg (by decide)]
      exact out_if
    | false =>
      show (if b2 false = 0 then (if ¬ ((0 : Int32) < 0 ∨ gN 331 ≤ (0 : Int32).toNatClampNeg) then (some ((.inl 0 : Int32 ⊕ Nat), (mU M1 331 (0 : Int32).toNatClampNeg 0))) else none) else (if ¬ ((0 : Int32) < 0 ∨ gN 331 ≤ (0 : Int32).toNatClampNeg) then (some ((.inl 0 : Int32 ⊕ Nat), (mU M1 331 (0 : Int32).toNatClampNeg 1))) else none)) = _
      rw [if_pos (by decide)]
      exact out_if
  · rw [h]
    simp only [List.mem_cons, List.not_mem_nil, or_false] at hj
    rcases hj with rfl | rfl <;> rfl
theorem cdA_ne : ∀ j, cdA j ≠ 0 := fun j => by unfold cdA; decide
theorem cdB_ne : ∀ j, cdB j ≠ 0 := fun j => by unfold cdB; split <;> decide
theorem cdC_ne : ∀ j, cdC j ≠ 0 := fun j => by unfold cdC; split <;> decide
theorem cdD_ne : ∀ j, cdD j ≠ 0 := fun j => by unfold cdD; split; decide; split <;> decide
theorem sh_law (n : Int32) : Sh [0] (oLaw s n) := by
  unfold oLaw
  repeat' split
  all_goals first | exact Or.inl ⟨_, rfl⟩ | exact Or.inr ⟨_, by decide, rfl⟩
theorem cb_law (h : Inv M s) (n : Int32) : Cmb (f_L_law M 0 n 331) (fun M1 => f_X11_law M1 250 n) (oLaw s n).2 := cmb_of h (k_law h.1 h.2.2 n) (fun _ hM => (o_law hM h.2.2 n).mono (fun _ _ q => ⟨q.1, q.2.1, q.2.2.w⟩)) (z_law h.2.2 n) cdA_ne (wA_of (fk := f_X10_law M 0 n) (sh_law n))
theorem sh_deck (n : Int32) : Sh [0] (oDeck s n) := by
  unfold oDeck
  repeat' split
  all_goals first | exact Or.inl ⟨_, rfl⟩ | exact Or.inr ⟨_, by decide, rfl⟩
theorem cb_deck (h : Inv M s) (n : Int32) : Cmb (f_L_deck M 0 n 331) (fun M1 => f_X11_deck M1 250 n) (oDeck s n).2 := cmb_of h (k_deck h.1 h.2.2 n) (fun _ hM => (o_deck hM h.2.2 n).mono (fun _ _ q => ⟨q.1, q.2.1, q.2.2.w⟩)) (z_deck h.2.2 n) cdA_ne (wA_of (fk := f_X10_deck M 0 n) (sh_deck n))
theorem sh_set (x v : Int32) : Sh [0] (oSet s x v) := by
  unfold oSet
  repeat' split
  all_goals first | exact Or.inl ⟨_, rfl⟩ | exact Or.inr ⟨_, by decide, rfl⟩
theorem cb_set (h : Inv M s) (x v : Int32) : Cmb (f_L_set M 0 x v 331) (fun M1 => f_X11_set M1 250 x v) (oSet s x v).2 := cmb_of h (k_set h.1 h.2.2 x v) (fun _ hM => (o_set hM h.2.2 x v).mono (fun _ _ q => ⟨q.1, q.2.1, q.2.2.w⟩)) (z_set h.2.2 x v) cdA_ne (wA_of (fk := f_X10_set M 0 x v) (sh_set x v))
theorem sh_stay (p b : Int32) : Sh [1] (oStay s p b) := by
  unfold oStay
  repeat' split
  all_goals first | exact Or.inl ⟨_, rfl⟩ | exact Or.inr ⟨_, by decide, rfl⟩
theorem cb_stay (h : Inv M s) (p b : Int32) (hb : b = 0 ∨ b = 1) : Cmb (f_L_stay M 0 p b 331) (fun M1 => f_X11_stay M1 250 p b) (oStay s p b).2 := cmb_of h (k_stay h.1 h.2.2 p b) (fun _ hM => (o_stay hM h.2.2 p b hb).mono (fun _ _ q => ⟨q.1, q.2.1, q.2.2.w⟩)) (z_stay h.2.2 p b) cdA_ne (wA_of (fk := f_X10_stay M 0 p b) (sh_stay p b))
theorem sh_shape (kd j a : Int32) : Sh [0] (oShape s kd j a) := by
  unfold oShape
  repeat' split
  all_goals first | exact Or.inl ⟨_, rfl⟩ | exact Or.inr ⟨_, by decide, rfl⟩
theorem cb_shape (h : Inv M s) (kd j a : Int32) : Cmb (f_L_shape M 0 kd j a 331) (fun M1 => f_X11_shape M1 250 kd j a) (oShape s kd j a).2 := cmb_of h (k_shape h.1 h.2.2 kd j a) (fun _ hM => (o_shape hM h.2.2 kd j a).mono (fun _ _ q => ⟨q.1, q.2.1, q.2.2.w⟩)) (z_shape h.2.2 kd j a) cdA_ne (wA_of (fk := f_X10_shape M 0 kd j a) (sh_shape kd j a))
theorem sh_go (l w t : Int32) : Sh [2, 0] (oGo s l w t) := by
  unfold oGo
  repeat' split
  all_goals first | exact Or.inl ⟨_, rfl⟩ | exact Or.inr ⟨_, by decide, rfl⟩
theorem cb_go (h : Inv M s) (l w t : Int32) : Cmb (f_L_go M 0 l w t 331) (fun M1 => f_X11_go M1 250 l w t) (oGo s l w t).2 := cmb_of h (k_go h.1 h.2.2 l w t) (fun _ hM => (o_go hM h.2.2 l w t).mono (fun _ _ q => ⟨q.1, q.2.1, q.2.2.w⟩)) (z_go h.2.2 l w t) cdB_ne (wB_of (fk := f_X10_go M 0 l w t) (sh_go l w t) rfl rfl (by decide))
theorem sh_piece (p x : Int32) : Sh [1, 0] (oPiece s p x) := by
  unfold oPiece
  repeat' split
  all_goals first | exact Or.inl ⟨_, rfl⟩ | exact Or.inr ⟨_, by decide, rfl⟩
theorem zc_piece (ok : SOK s) (p x : Int32) : SOK (oPiece s p x).2 := by
  unfold oPiece
  repeat' split
  all_goals exact ok
theorem cb_piece (h : Inv M s) (p x : Int32) : Cmb (f_L_piece M 0 p x 331) (fun M1 => f_X11_piece M1 250 p x) (oPiece s p x).2 := cmb_of h (k_piece h.1 h.2.2 p x) (fun _ hM => (o_piece hM h.2.2 p x).mono (fun _ _ q => ⟨q.1, q.2.1, q.2.2.w⟩)) (zc_piece h.2.2 p x) cdC_ne (wB_of (fk := f_X10_piece M 0 p x) (sh_piece p x) rfl rfl (by decide))
theorem sh_push (l w p b : Int32) : Sh [2, 1, 0] (oPush s l w p b) := by
  unfold oPush
  repeat' split
  all_goals first | exact Or.inl ⟨_, rfl⟩ | exact Or.inr ⟨_, by decide, rfl⟩
theorem zc_push (ok : SOK s) (l w p b : Int32) : SOK (oPush s l w p b).2 := by
  unfold oPush
  repeat' split
  all_goals exact ok
theorem cb_push (h : Inv M s) (l w p b : Int32) : Cmb (f_L_push M 0 l w p b 331) (fun M1 => f_X11_push M1 250 l w p b) (oPush s l w p b).2 := cmb_of h (k_push h.1 h.2.2 l w p b) (fun _ hM => (o_push hM h.2.2 l w p b).mono (fun _ _ q => ⟨q.1, q.2.1, q.2.2.w⟩)) (zc_push h.2.2 l w p b) cdD_ne (wD_of (fk := f_X10_push M 0 l w p b) (sh_push l w p b))
theorem sh_grows (l w kd j : Int32) : ShB [2, 0] (oGrows s l w kd j) := by
  unfold oGrows
  repeat' split
  all_goals first | exact Or.inl ⟨_, rfl⟩ | exact Or.inr ⟨_, by decide, rfl⟩
theorem zc_grows (ok : SOK s) (l w kd j : Int32) : SOK (oGrows s l w kd j).2 := by
  unfold oGrows
  repeat' split
  all_goals exact ok
theorem cb_grows (h : Inv M s) (l w kd j : Int32) : CmbB (f_L_grows M 0 l w kd j 331) (fun M1 => f_X11_grows M1 250 l w kd j) (oGrows s l w kd j).2 := cmbB_of h (k_grows h.1 h.2.2 l w kd j) (fun _ hM => (o_grows hM h.2.2 l w kd j).mono (fun _ _ q => ⟨q.1, q.2.1, q.2.2.w⟩)) (zc_grows h.2.2 l w kd j) cdB_ne (wG_of (fk := f_X10_grows M 0 l w kd j) (sh_grows l w kd j)) (sh_grows l w kd j)
theorem sh_line (l kd j : Int32) : Sh [2, 0] (oLine s l kd j) := by
  unfold oLine
  repeat' split
  all_goals first | exact Or.inl ⟨_, rfl⟩ | exact Or.inr ⟨_, by decide, rfl⟩
theorem zc_line (ok : SOK s) (l kd j : Int32) : SOK (oLine s l kd j).2 := by
  unfold oLine
  repeat' split
  all_goals exact ok
theorem cb_line (h : Inv M s) (l kd j : Int32) : Cmb (f_L_line M 0 l kd j 331) (fun M1 => f_X11_line M1 250 l kd j) (oLine s l kd j).2 := cmb_of h (k_line h.1 h.2.2 l kd j) (fun _ hM => (o_line hM h.2.2 l kd j).mono (fun _ _ q => ⟨q.1, q.2.1, q.2.2.w⟩)) (zc_line h.2.2 l kd j) cdB_ne (wB_of (fk := f_X10_line M 0 l kd j) (sh_line l kd j) rfl rfl (by decide))
theorem sh_why (l w kd j : Int32) : Sh [2, 0] (oWhy s l w kd j) := by
  unfold oWhy
  repeat' split
  all_goals first | exact Or.inl ⟨_, rfl⟩ | exact Or.inr ⟨_, by decide, rfl⟩
theorem zc_why (ok : SOK s) (l w kd j : Int32) : SOK (oWhy s l w kd j).2 := by
  unfold oWhy
  repeat' split
  all_goals exact ok
theorem cb_why (h : Inv M s) (l w kd j : Int32) : Cmb (f_L_why M 0 l w kd j 331) (fun M1 => f_X11_why M1 250 l w kd j) (oWhy s l w kd j).2 := cmb_of h (k_why h.1 h.2.2 l w kd j) (fun _ hM => (o_why hM h.2.2 l w kd j).mono (fun _ _ q => ⟨q.1, q.2.1, q.2.2.w⟩)) (zc_why h.2.2 l w kd j) cdB_ne (wB_of (fk := f_X10_why M 0 l w kd j) (sh_why l w kd j) rfl rfl (by decide))
theorem sh_first (l w kd j b : Int32) : Sh [2, 0] (oFirst s l w kd j b) := by
  unfold oFirst
  repeat' split
  all_goals first | exact Or.inl ⟨_, rfl⟩ | exact Or.inr ⟨_, by decide, rfl⟩
theorem zc_first (ok : SOK s) (l w kd j b : Int32) : SOK (oFirst s l w kd j b).2 := by
  unfold oFirst
  repeat' split
  all_goals exact ok
theorem cb_first (h : Inv M s) (l w kd j b : Int32) : Cmb (f_L_first M 0 l w kd j b 331) (fun M1 => f_X11_first M1 250 l w kd j b) (oFirst s l w kd j b).2 := cmb_of h (k_first h.1 h.2.2 l w kd j b) (fun _ hM => (o_first hM h.2.2 l w kd j b).mono (fun _ _ q => ⟨q.1, q.2.1, q.2.2.w⟩)) (zc_first h.2.2 l w kd j b) cdB_ne (wB_of (fk := f_X10_first M 0 l w kd j b) (sh_first l w kd j b) rfl rfl (by decide))
theorem sh_where (l w kd j b : Int32) : Sh [2, 0] (oWhere s l w kd j b) := by
  unfold oWhere
  repeat' split
  all_goals first | exact Or.inl ⟨_, rfl⟩ | exact Or.inr ⟨_, by decide, rfl⟩
theorem zc_where (ok : SOK s) (l w kd j b : Int32) : SOK (oWhere s l w kd j b).2 := by
  unfold oWhere
  repeat' split
  all_goals exact ok
theorem cb_where (h : Inv M s) (l w kd j b : Int32) : Cmb (f_L_where M 0 l w kd j b 331) (fun M1 => f_X11_where M1 250 l w kd j b) (oWhere s l w kd j b).2 := cmb_of h (k_where h.1 h.2.2 l w kd j b) (fun _ hM => (o_where hM h.2.2 l w kd j b).mono (fun _ _ q => ⟨q.1, q.2.1, q.2.2.w⟩)) (zc_where h.2.2 l w kd j b) cdB_ne (wB_of (fk := f_X10_where M 0 l w kd j b) (sh_where l w kd j b) rfl rfl (by decide))
theorem sh_slip (l w j : Int32) : Sh [2, 0] (oSlip s l w j) := by
  unfold oSlip
  repeat' split
  all_goals first | exact Or.inl ⟨_, rfl⟩ | exact Or.inr ⟨_, by decide, rfl⟩
theorem zc_slip (ok : SOK s) (l w j : Int32) : SOK (oSlip s l w j).2 := by
  unfold oSlip
  repeat' split
  all_goals exact ok
theorem cb_slip (h : Inv M s) (l w j : Int32) : Cmb (f_L_slip M 0 l w j 331) (fun M1 => f_X11_slip M1 250 l w j) (oSlip s l w j).2 := cmb_of h (k_slip h.1 h.2.2 l w j) (fun _ hM => o_slip hM h.2.2 l w j) (zc_slip h.2.2 l w j) cdB_ne (wB_of (fk := f_X10_slip M 0 l w j) (sh_slip l w j) rfl rfl (by decide))
theorem sh_film (t p hh u : Int32) : Sh [1, 0] (oFilm s t p hh u) := by
  unfold oFilm
  repeat' split
  all_goals first | exact Or.inl ⟨_, rfl⟩ | exact Or.inr ⟨_, by decide, rfl⟩
theorem cb_film (h : Inv M s) (t p hh u : Int32) : Cmb (f_L_film M 0 t p hh u 331) (fun M1 => f_X11_film M1 250 t p hh u) (oFilm s t p hh u).2 := cmb_of h (k_film h.1 h.2.2 t p hh u) (fun _ hM => (o_film hM h.2.2 t p hh u).mono (fun _ _ q => ⟨q.1, q.2.1, q.2.2.w⟩)) (z_film h.2.2 t p hh u) cdC_ne (wB_of (fk := f_X10_film M 0 t p hh u) (sh_film t p hh u) rfl rfl (by decide))
theorem sh_barred (l w kd j a far : Int32) : Sh [2, 0] (oBarred s l w kd j a far) := by
  unfold oBarred
  repeat' split
  all_goals first | exact Or.inl ⟨_, rfl⟩ | exact Or.inr ⟨_, by decide, rfl⟩
theorem zc_barred (ok : SOK s) (l w kd j a far : Int32) : SOK (oBarred s l w kd j a far).2 := by
  unfold oBarred
  repeat' split
  all_goals exact ok
theorem cb_barred (h : Inv M s) (l w kd j a far : Int32) : Cmb (f_L_barred M 0 l w kd j a far 331) (fun M1 => f_X11_barred M1 250 l w kd j a far) (oBarred s l w kd j a far).2 := cmb_of h (k_barred h.1 h.2.2 l w kd j a far) (fun _ hM => (o_barred hM h.2.2 l w kd j a far).mono (fun _ _ q => ⟨q.1, q.2.1, q.2.2.w⟩)) (zc_barred h.2.2 l w kd j a far) cdB_ne (wB_of (fk := f_X10_barred M 0 l w kd j a far) (sh_barred l w kd j a far) rfl rfl (by decide))
theorem sh_mend (x v z : Int32) : Sh [0] (oMend s x v z) := by
  unfold oMend
  repeat' split
  all_goals first | exact Or.inl ⟨_, rfl⟩ | exact Or.inr ⟨_, by decide, rfl⟩
theorem cb_mend (h : Inv M s) (x v z : Int32) : Cmb (f_L_mend M 0 x v z 331) (fun M1 => f_X11_mend M1 250 x v z) (oMend s x v z).2 := cmb_of h (k_mend h.1 h.2.2 x v z) (fun _ hM => (o_mend hM h.2.2 x v z).mono (fun _ _ q => ⟨q.1, q.2.1, q.2.2.w⟩)) (z_mend h.2.2 x v z) cdA_ne (wA_of (fk := f_X10_mend M 0 x v z) (sh_mend x v z))
theorem sh_calm (l w : Int32) : ShB [2, 0] (oCalm s l w) := by
  unfold oCalm
  repeat' split
  all_goals first | exact Or.inl ⟨_, rfl⟩ | exact Or.inr ⟨_, by decide, rfl⟩
theorem zc_calm (ok : SOK s) (l w : Int32) : SOK (oCalm s l w).2 := by
  unfold oCalm
  repeat' split
  all_goals exact ok
theorem cb_calm (h : Inv M s) (l w : Int32) : CmbB (f_L_calm M 0 l w 331) (fun M1 => f_X11_calm M1 250 l w) (oCalm s l w).2 := cmbB_of h (k_calm h.1 h.2.2 l w) (fun _ hM => (o_calm hM h.2.2 l w).mono (fun _ _ q => ⟨q.1, q.2.1, q.2.2.w⟩)) (zc_calm h.2.2 l w) cdB_ne (wG_of (fk := f_X10_calm M 0 l w) (sh_calm l w)) (sh_calm l w)
theorem sh_mended (l w : Int32) : Sh [2, 0] (oMended s l w) := by
  unfold oMended
  repeat' split
  all_goals first | exact Or.inl ⟨_, rfl⟩ | exact Or.inr ⟨_, by decide, rfl⟩
theorem zc_mended (ok : SOK s) (l w : Int32) : SOK (oMended s l w).2 := by
  unfold oMended
  repeat' split
  all_goals exact ok
theorem cb_mended (h : Inv M s) (l w : Int32) : Cmb (f_L_mended M 0 l w 331) (fun M1 => f_X11_mended M1 250 l w) (oMended s l w).2 := cmb_of h (k_mended h.1 h.2.2 l w) (fun _ hM => (o_mended hM h.2.2 l w).mono (fun _ _ q => ⟨q.1, q.2.1, q.2.2.w⟩)) (zc_mended h.2.2 l w) cdB_ne (wB_of (fk := f_X10_mended M 0 l w) (sh_mended l w) rfl rfl (by decide))
theorem sh_week (l d : Int32) : Sh [2, 0] (oWeek s l d) := by
  unfold oWeek
  repeat' split
  all_goals first | exact Or.inl ⟨_, rfl⟩ | exact Or.inr ⟨_, by decide, rfl⟩
theorem zc_week (ok : SOK s) (l d : Int32) : SOK (oWeek s l d).2 := by
  unfold oWeek
  repeat' split
  all_goals exact ok
theorem cb_week (h : Inv M s) (l d : Int32) : Cmb (f_L_week M 0 l d 331) (fun M1 => f_X11_week M1 250 l d) (oWeek s l d).2 := cmb_of h (k_week h.1 h.2.2 l d) (fun _ hM => o_week hM h.2.2 l d) (zc_week h.2.2 l d) cdB_ne (wB_of (fk := f_X10_week M 0 l d) (sh_week l d) rfl rfl (by decide))
theorem sh_span (l kd j q b : Int32) : Sh [2, 0] (oSpan s l kd j q b) := by
  unfold oSpan
  repeat' split
  all_goals first | exact Or.inl ⟨_, rfl⟩ | exact Or.inr ⟨_, by decide, rfl⟩
theorem zc_span (ok : SOK s) (l kd j q b : Int32) : SOK (oSpan s l kd j q b).2 := by
  unfold oSpan
  repeat' split
  all_goals exact ok
theorem cb_span (h : Inv M s) (l kd j q b : Int32) : Cmb (f_L_span M 0 l kd j q b 331) (fun M1 => f_X11_span M1 250 l kd j q b) (oSpan s l kd j q b).2 := cmb_of h (k_span h.1 h.2.2 l kd j q b) (fun _ hM => (o_span hM h.2.2 l kd j q b).mono (fun _ _ q => ⟨q.1, q.2.1, q.2.2.w⟩)) (zc_span h.2.2 l kd j q b) cdB_ne (wB_of (fk := f_X10_span M 0 l kd j q b) (sh_span l kd j q b) rfl rfl (by decide))
theorem sh_bridge (x : Int32) : Sh [0] (oBridge s x) := by
  unfold oBridge
  repeat' split
  all_goals first | exact Or.inl ⟨_, rfl⟩ | exact Or.inr ⟨_, by decide, rfl⟩
theorem cb_bridge (h : Inv M s) (x : Int32) : Cmb (f_L_bridge M 0 x 331) (fun M1 => f_X11_bridge M1 250 x) (oBridge s x).2 := cmb_of h (k_bridge h.1 h.2.2 x) (fun _ hM => (o_bridge hM h.2.2 x).mono (fun _ _ q => ⟨q.1, q.2.1, q.2.2.w⟩)) (z_bridge h.2.2 x) cdA_ne (wA_of (fk := f_X10_bridge M 0 x) (sh_bridge x))
theorem sh_blows (b k v : Int32) : Sh [1, 0] (oBlows s b k v) := by
  unfold oBlows
  repeat' split
  all_goals first | exact Or.inl ⟨_, rfl⟩ | exact Or.inr ⟨_, by decide, rfl⟩
theorem cb_blows (h : Inv M s) (b k v : Int32) : Cmb (f_L_blows M 0 b k v 331) (fun M1 => f_X11_blows M1 250 b k v) (oBlows s b k v).2 := cmb_of h (k_blows h.1 h.2.2 b k v) (fun _ hM => (o_blows hM h.2.2 b k v).mono (fun _ _ q => ⟨q.1, q.2.1, q.2.2.w⟩)) (z_blows h.2.2 b k v) cdC_ne (wB_of (fk := f_X10_blows M 0 b k v) (sh_blows b k v) rfl rfl (by decide))
theorem sh_hours (b : Int32) : Sh [1] (oHours s b) := by
  unfold oHours
  repeat' split
  all_goals first | exact Or.inl ⟨_, rfl⟩ | exact Or.inr ⟨_, by decide, rfl⟩
theorem zc_hours (ok : SOK s) (b : Int32) : SOK (oHours s b).2 := by
  unfold oHours
  repeat' split
  all_goals exact ok
theorem cb_hours (h : Inv M s) (b : Int32) : Cmb (f_L_hours M 0 b 331) (fun M1 => f_X11_hours M1 250 b) (oHours s b).2 := cmb_of h (k_hours h.1 h.2.2 b) (fun _ hM => (o_hours hM h.2.2 b).mono (fun _ _ q => ⟨q.1, q.2.1, q.2.2.w⟩)) (zc_hours h.2.2 b) cdA_ne (wA_of (fk := f_X10_hours M 0 b) (sh_hours b))
theorem sh_paper (d x y : Int32) : Sh [0] (oPaper s d x y) := by
  unfold oPaper
  repeat' split
  all_goals first | exact Or.inl ⟨_, rfl⟩ | exact Or.inr ⟨_, by decide, rfl⟩
theorem cb_paper (h : Inv M s) (d x y : Int32) : Cmb (f_L_paper M 0 d x y 331) (fun M1 => f_X11_paper M1 250 d x y) (oPaper s d x y).2 := cmb_of h (k_paper h.1 h.2.2 d x y) (fun _ hM => (o_paper hM h.2.2 d x y).mono (fun _ _ q => ⟨q.1, q.2.1, q.2.2.w⟩)) (z_paper h.2.2 d x y) cdA_ne (wA_of (fk := f_X10_paper M 0 d x y) (sh_paper d x y))
theorem sh_known (d : Int32) : Sh [0] (oKnown s d) := by
  unfold oKnown
  repeat' split
  all_goals first | exact Or.inl ⟨_, rfl⟩ | exact Or.inr ⟨_, by decide, rfl⟩
theorem zc_known (ok : SOK s) (d : Int32) : SOK (oKnown s d).2 := by
  unfold oKnown
  repeat' split
  all_goals exact ok
theorem cb_known (h : Inv M s) (d : Int32) : Cmb (f_L_known M 0 d 331) (fun M1 => f_X11_known M1 250 d) (oKnown s d).2 := cmb_of h (k_known h.1 h.2.2 d) (fun _ hM => (o_known hM h.2.2 d).mono (fun _ _ q => ⟨q.1, q.2.1, q.2.2.w⟩)) (zc_known h.2.2 d) cdA_ne (wA_of (fk := f_X10_known M 0 d) (sh_known d))
theorem sh_could (x : Int32) : Sh [0] (oCould s x) := by
  unfold oCould
  repeat' split
  all_goals first | exact Or.inl ⟨_, rfl⟩ | exact Or.inr ⟨_, by decide, rfl⟩
theorem zc_could (ok : SOK s) (x : Int32) : SOK (oCould s x).2 := by
  unfold oCould
  repeat' split
  all_goals exact ok
theorem cb_could (h : Inv M s) (x : Int32) : Cmb (f_L_could M 0 x 331) (fun M1 => f_X11_could M1 250 x) (oCould s x).2 := cmb_of h (k_could h.1 h.2.2 x) (fun _ hM => (o_could hM h.2.2 x).mono (fun _ _ q => ⟨q.1, q.2.1, q.2.2.w⟩)) (zc_could h.2.2 x) cdA_ne (wA_of (fk := f_X10_could M 0 x) (sh_could x))
theorem sh_shut (l w kd j a ab : Int32) : Sh [2, 0] (oShut s l w kd j a ab) := by
  unfold oShut
  repeat' split
  all_goals first | exact Or.inl ⟨_, rfl⟩ | exact Or.inr ⟨_, by decide, rfl⟩
theorem zc_shut (ok : SOK s) (l w kd j a ab : Int32) : SOK (oShut s l w kd j a ab).2 := by
  unfold oShut
  repeat' split
  all_goals exact ok
theorem cb_shut (h : Inv M s) (l w kd j a ab : Int32) : Cmb (f_L_shut M 0 l w kd j a ab 331) (fun M1 => f_X11_shut M1 250 l w kd j a ab) (oShut s l w kd j a ab).2 := cmb_of h (k_shut h.1 h.2.2 l w kd j a ab) (fun _ hM => (o_shut hM h.2.2 l w kd j a ab).mono (fun _ _ q => ⟨q.1, q.2.1, q.2.2.w⟩)) (zc_shut h.2.2 l w kd j a ab) cdB_ne (wB_of (fk := f_X10_shut M 0 l w kd j a ab) (sh_shut l w kd j a ab) rfl rfl (by decide))
theorem zc_count (ok : SOK s) (x : Int32) : SOK (oCount s x).2 := ok
theorem cb_feed (h : Inv M s) (a b c d e : Int32) : Cmd (f_X10_feed M 0 a b c d e) (fun M1 => f_X11_feed M1 250 a b c d e) (oFeed s a b c d e).2 := cmd_of h (k_feed h.1 h.2.2 a b c d e) (fun _ hM => o_feed hM h.2.2 a b c d e) (z_feed h.2.2 a b c d e)
theorem cb_fault (h : Inv M s) : Cmd (f_X10_fault M 0) (fun M1 => f_X11_fault M1 250) s := cmd_of (o := oFault s) h ⟨_, M, k_fault h.1, rfl, h.1, fun _ _ => rfl⟩ (fun _ hM => by
  obtain ⟨M', e, h1, h2⟩ := o_fault hM h.2.2
  exact ⟨_, M', e, rfl, h1, h2⟩) h.2.2
theorem cb_image (h : Inv M s) : Cmd (f_X10_image M 0) (fun M1 => f_X11_image M1 250) (oImage s).2 := cmd_of h (k_image h.1 h.2.2) (fun _ hM => o_image hM h.2.2) (z_image h.2.2)
theorem cb_restore (h : Inv M s) : Cmd (f_X10_restore M 0) (fun M1 => f_X11_restore M1 250) (oRestore s).2 := cmd_of h (k_restore h.1 h.2.2) (fun _ hM => o_restore hM h.2.2) (z_restore h.2.2)
theorem cb_count (h : Inv M s) (x : Int32) : Cmd (f_X10_count M 0 x) (fun M1 => f_X11_count M1 250 x) s := cmd_of (o := oCount s x) h (k_count h.1 h.2.2 x) (fun _ hM => o_count hM h.2.2 x) h.2.2
end CMB
