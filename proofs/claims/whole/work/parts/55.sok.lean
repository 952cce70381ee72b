/-! Every call leaves a state within bounds. -/
def DKO (n : Nat) (D : Dk) : Prop := (D 0 0 = nI n ∧ 2 ≤ n ∧ n ≤ 8) ∧ (∀ k, k < 10 → sLst (nI k) ≤ D 2 k ∧ D 2 k ≤ sMst (nI k)) ∧ ((∀ k, k < 8 → D 12 k = 0 ∨ D 12 k = 1 ∨ D 12 k = 2) ∧ ∀ k, n ≤ k → k < 8 → D 12 k = 2) ∧ ((∀ k, k < 8 → D 14 k = 0 ∨ D 14 k = 1) ∧ ∀ k, n ≤ k + 1 → k < 8 → D 14 k = 0) ∧ ∀ k, n ≤ k → k < 8 → D 4 k = 0 ∧ D 6 k = 0 ∧ D 8 k = 0 ∧ D 10 k = 0
def FOK (R : Dk) : Prop := R 18 0 = nI (cfl R) ∧ cfl R ≤ 20 ∧ ∀ k, k < cfl R → ∃ q, q < 8 ∧ R 22 k = nI q
def NOK (R : Dk) : Prop := R 27 0 = nI (cmd R) ∧ cmd R ≤ 5 ∧ ∀ k, k < cmd R → ∃ q, q < 10 ∧ R 29 k = nI q
def BOK (R : Dk) : Prop := R 34 0 = nI (cbr R) ∧ cbr R ≤ 6
def POK (R : Dk) : Prop := R 39 0 = nI (cpa R) ∧ cpa R ≤ 10 ∧ ∀ k, k < cpa R → ∃ q, q < 1000 ∧ R 41 k = nI q
theorem ROK_of {R : Dk} (h1 : DKO (pcs R) (rD R)) (h2 : FOK R) (h3 : NOK R) (h4 : BOK R) (h5 : POK R) : ROK R := ⟨h1.1, h1.2.1, h1.2.2.1, h1.2.2.2.1, h1.2.2.2.2, h2, h3, h4, h5⟩
theorem ROK.p1 {R : Dk} (h : ROK R) : DKO (pcs R) (rD R) := ⟨h.1, h.2.1, h.2.2.1, h.2.2.2.1, h.2.2.2.2.1⟩
theorem ROK.p2 {R : Dk} (h : ROK R) : FOK R := h.2.2.2.2.2.1
theorem ROK.p3 {R : Dk} (h : ROK R) : NOK R := h.2.2.2.2.2.2.1
theorem ROK.p4 {R : Dk} (h : ROK R) : BOK R := h.2.2.2.2.2.2.2.1
theorem ROK.p5 {R : Dk} (h : ROK R) : POK R := h.2.2.2.2.2.2.2.2
theorem FOK.cg {R R' : Dk} (h : FOK R) (e1 : R' 18 = R 18) (e2 : R' 22 = R 22) : FOK R' := by
  unfold FOK cfl at *
  rw [e1, e2]; exact h
theorem NOK.cg {R R' : Dk} (h : NOK R) (e1 : R' 27 = R 27) (e2 : R' 29 = R 29) : NOK R' := by
  unfold NOK cmd at *
  rw [e1, e2]; exact h
theorem BOK.cg {R R' : Dk} (h : BOK R) (e1 : R' 34 = R 34) : BOK R' := by
  unfold BOK cbr at *
  rw [e1]; exact h
theorem POK.cg {R R' : Dk} (h : POK R) (e1 : R' 39 = R 39) (e2 : R' 41 = R 41) : POK R' := by
  unfold POK cpa at *
  rw [e1, e2]; exact h
theorem DKO.cg {n : Nat} {D D' : Dk} (h : DKO n D) (e : ∀ o, o < 16 → D' o = D o) : DKO n D' := by
  unfold DKO at *
  rw [e 0 (by decide), e 2 (by decide), e 4 (by decide), e 6 (by decide), e 8 (by decide), e 10 (by decide), e 12 (by decide), e 14 (by decide)]
  exact h
theorem ROK.p1cg {R R' : Dk} (h : ROK R) (e : ∀ o, o < 17 → R' o = R o) : DKO (pcs R') (rD R') := by
  have ep : pcs R' = pcs R := by unfold pcs; rw [e 1 (by decide)]
  rw [ep]
  exact h.p1.cg (fun o ho => e (1 + o) (by omega))
/-- with another deck -/
theorem ROK.deck {R D : Dk} {n : Nat} (h : ROK R) (hD : DKO n D) : ROK (rS R D) := by
  have ep : pcs (rS R D) = n := by
    show (D 0 0).toNatClampNeg = n
    rw [hD.1.1]; exact i_cl (by have := hD.1.2.2; omega)
  have e : ∀ o, 17 ≤ o → rS R D o = R o := fun o ho => funext fun k => by unfold rS; rw [if_neg (by omega)]
  refine ROK_of ?_ (h.p2.cg (e _ (by decide)) (e _ (by decide))) (h.p3.cg (e _ (by decide)) (e _ (by decide))) (h.p4.cg (e _ (by decide))) (h.p5.cg (e _ (by decide)) (e _ (by decide)))
  rw [ep]
  refine hD.cg (fun o ho => funext fun k => ?_)
  show rS R D (1 + o) k = D o k
  unfold rS
  rw [if_pos (by omega), Nat.add_sub_cancel_left]
theorem DKO.tick {A : List Nat} {w h : Int32} {n : Nat} {D : Dk} (ok : DKO n D) : DKO n (sTick A w h n D) := by
  obtain ⟨⟨hn, h2, h8⟩, hm, ⟨hst, hst2⟩, ⟨h14, h142⟩, hz⟩ := ok
  have hd : DOK n D := ⟨⟨hn, h2, h8⟩, ⟨(hm 0 (by omega)).1, Int32.le_trans (sLst_1 9 (by omega)).1 (hm 9 (by omega)).1⟩, ⟨hst, fun k h6 h7 => by rw [hst2 k h6 h7]; decide⟩, ⟨h14, h142⟩, hz⟩
  obtain ⟨g1, _, ⟨g3, _⟩, g4, g5⟩ := hd.tick (A := A) (w := w) (h := h)
  exact ⟨g1, fun k hk => by rw [tick_2]; exact hm k hk, ⟨g3, fun k h6 h7 => by rw [tick_hi h6 (by omega)]; exact hst2 k h6 h7⟩, g4, g5⟩
theorem DKO.run {A : List Nat} {w h : Int32} {n : Nat} {D : Dk} (ok : DKO n D) (t : Nat) : DKO n (sRun A w h n D t) := by
  induction t with
  | zero => exact ok
  | succ t ih => exact ih.tick
theorem DKO.sh {n : Nat} {D : Dk} (ok : DKO n D) (kd j a : Int32) : DKO n (sSh D n kd j a) := by
  obtain ⟨hn, hm, hst, h14, hz⟩ := ok
  have e : ∀ o, ¬ (o = 4 ∨ o = 6 ∨ o = 8 ∨ o = 10) → sSh D n kd j a o = D o := fun o ho => funext fun k => by unfold sSh; rw [if_neg ho]
  have z : ∀ o k, (o = 4 ∨ o = 6 ∨ o = 8 ∨ o = 10) → n ≤ k → sSh D n kd j a o k = 0 := fun o k ho hk => by unfold sSh; rw [if_pos ho, if_neg (by omega)]
  refine ⟨by rw [e 0 (by omega)]; exact hn, by rw [e 2 (by omega)]; exact hm, by rw [e 12 (by omega)]; exact hst, by rw [e 14 (by omega)]; exact h14, fun k h1 _ => ⟨z _ k (by omega) h1, z _ k (by omega) h1, z _ k (by omega) h1, z _ k (by omega) h1⟩⟩
theorem DKO.lay {n v : Nat} {D : Dk} (ok : DKO n D) (h2 : 2 ≤ v) (h8 : v ≤ 8) : DKO v (sLay D (nI v)) := ⟨⟨rfl, h2, h8⟩, ok.2.1, ⟨fun _ _ => Or.inr (Or.inr rfl), fun _ _ _ => rfl⟩, ⟨fun _ _ => Or.inl rfl, fun _ _ _ => rfl⟩, fun _ _ _ => ⟨rfl, rfl, rfl, rfl⟩⟩
/-! The state with another road. -/
theorem SOK.up {s : St} {R : Dk} (ok : SOK s) (h : ROK R) : SOK (upR s R) := ⟨ok.1, ok.2.1, ok.2.2.1, ok.2.2.2.1, h, ok.2.2.2.2.2.1, ok.2.2.2.2.2.2⟩
theorem SOK.rd {s : St} (ok : SOK s) : ROK (sRd s) := ok.2.2.2.2.1
theorem z_deck {s : St} (ok : SOK s) (v : Int32) : SOK (oDeck s v).2 := by
  unfold oDeck
  split
  · rename_i h
    have h1 := dIn_t.mp h
    obtain ⟨k, hk, rfl⟩ := i_of (n := 8) (fun z => h1.1 (Int32.lt_trans z (by decide))) (Int32.not_lt.mp h1.2) (by decide)
    refine ok.up (ok.rd.deck (ok.rd.p1.lay ?_ hk))
    by_cases h2 : 2 ≤ k
    · exact h2
    · exact absurd (nI_lt (a := k) (b := 2) (by omega) (by omega)) h1.1
  · exact ok
theorem z_shape {s : St} (ok : SOK s) (kd j a : Int32) : SOK (oShape s kd j a).2 := by
  unfold oShape
  split
  · exact ok.up (ok.rd.deck (ok.rd.p1.sh kd j a))
  · exact ok
theorem z_go {s : St} (ok : SOK s) (l w t : Int32) : SOK (oGo s l w t).2 := by
  unfold oGo
  split
  · split
    · exact ok.up (ok.rd.deck (ok.rd.p1.run _))
    · exact ok
  · exact ok
theorem z_set {s : St} (ok : SOK s) (x v : Int32) : SOK (oSet s x v).2 := by
  unfold oSet
  split
  · rename_i h
    simp only [Bool.and_eq_true] at h
    obtain ⟨k, hk, rfl⟩ := dIn_nI (n := 9) h.1 (by decide)
    have hv := dIn_t.mp h.2
    have e : ∀ o, o ≠ 3 → mU (sRd s) 3 (nI k).toNatClampNeg v o = sRd s o := fun o ho => u_ne ho
    have r := ok.rd
    refine ok.up ⟨?_, fun j hj => ?_, r.2.2.1, r.2.2.2.1, r.2.2.2.2.1, r.p2.cg (e _ (by decide)) (e _ (by decide)), r.p3.cg (e _ (by decide)) (e _ (by decide)), r.p4.cg (e _ (by decide)), r.p5.cg (e _ (by decide)) (e _ (by decide))⟩
    · exact r.1
    · rw [i_cl (by omega), mU_at]
      by_cases hz : j = k
      · subst hz
        rw [if_pos ⟨rfl, rfl⟩]
        exact ⟨Int32.not_lt.mp hv.1, Int32.not_lt.mp hv.2⟩
      · rw [if_neg (fun z => hz z.2)]
        exact r.2.1 j hj
  · exact ok
theorem stay_ok {R : Dk} (r : ROK R) {k : Nat} (hk : k < pcs R) {v : Int32} (hv : v = 0 ∨ v = 1 ∨ v = 2) : ROK (mU R 13 k v) := by
  have e : ∀ o, o ≠ 13 → mU R 13 k v o = R o := fun o ho => u_ne ho
  refine ⟨r.1, r.2.1, ⟨fun j hj => ?_, fun j h1 h2 => ?_⟩, r.2.2.2.1, r.2.2.2.2.1, r.p2.cg (e _ (by decide)) (e _ (by decide)), r.p3.cg (e _ (by decide)) (e _ (by decide)), r.p4.cg (e _ (by decide)), r.p5.cg (e _ (by decide)) (e _ (by decide))⟩
  · rw [mU_at]
    by_cases hz : j = k
    · rw [if_pos ⟨rfl, hz⟩]; exact hv
    · rw [if_neg (fun z => hz z.2)]; exact r.2.2.1.1 j hj
  · rw [mU_at, if_neg (fun z => ?_)]
    · exact r.2.2.1.2 j h1 h2
    · have h3 : pcs R ≤ j := h1
      omega
theorem z_stay {s : St} (ok : SOK s) (p b : Int32) : SOK (oStay s p b).2 := by
  unfold oStay
  split
  · rename_i h
    obtain ⟨k, hk, hk8, rfl⟩ := pcOk_of ok h
    rw [i_cl (by omega)]
    show SOK (if b = 0 then _ else _)
    split
    · exact ok.up (stay_ok ok.rd hk (Or.inl rfl))
    · split
      · exact ok.up (stay_ok ok.rd hk (Or.inr (Or.inr rfl)))
      · exact ok
  · exact ok
theorem z_film {s : St} (ok : SOK s) (t p hh u : Int32) : SOK (oFilm s t p hh u).2 := by
  unfold oFilm
  split
  · rename_i h
    obtain ⟨q, hq, hq8, rfl⟩ := pcOk_of ok h
    split
    · split
      · rename_i hc
        have r := ok.rd
        have e : ∀ o, (o ≠ 18 ∧ o ≠ 20 ∧ o ≠ 22 ∧ o ≠ 24 ∧ o ≠ 26) → sFilm (sRd s) (cfl (sRd s)) t (nI q) hh u o = sRd s o := fun o ho => by
          unfold sFilm
          rw [u_ne (by omega), u_ne (by omega), u_ne (by omega), u_ne (by omega), u_ne (by omega)]
        refine ok.up (ROK_of (r.p1cg (fun o ho => e o (by omega))) ?_ (r.p3.cg (e _ (by decide)) (e _ (by decide))) (r.p4.cg (e _ (by decide))) (r.p5.cg (e _ (by decide)) (e _ (by decide))))
        have h18 : sFilm (sRd s) (cfl (sRd s)) t (nI q) hh u 18 0 = nI (cfl (sRd s) + 1) := by
          unfold sFilm; rw [mU_at, if_pos ⟨rfl, rfl⟩]
        have hcf : cfl (sFilm (sRd s) (cfl (sRd s)) t (nI q) hh u) = cfl (sRd s) + 1 := by
          show (sFilm (sRd s) (cfl (sRd s)) t (nI q) hh u 18 0).toNatClampNeg = _
          rw [h18]; exact i_cl (by omega)
        refine ⟨by rw [hcf]; exact h18, by omega, fun k hk => ?_⟩
        rw [hcf] at hk
        have h22 : sFilm (sRd s) (cfl (sRd s)) t (nI q) hh u 22 k = if k = cfl (sRd s) then nI q else sRd s 22 k := by
          unfold sFilm
          rw [u_ne (by omega), u_ne (by omega), u_ne (by omega), mU_at]
          by_cases hz : k = cfl (sRd s)
          · rw [if_pos ⟨rfl, hz⟩, if_pos hz]
          · rw [if_neg (fun z => hz z.2), if_neg hz, u_ne (by omega)]
        rw [h22]
        by_cases hz : k = cfl (sRd s)
        · rw [if_pos hz]; exact ⟨q, hq8, rfl⟩
        · rw [if_neg hz]; exact r.p2.2.2 k (by omega)
      · exact ok
    · exact ok
  · exact ok
theorem z_mend {s : St} (ok : SOK s) (x v z : Int32) : SOK (oMend s x v z).2 := by
  unfold oMend
  split
  · rename_i h
    simp only [Bool.and_eq_true] at h
    obtain ⟨q, hq, rfl⟩ := dIn_nI (n := 9) h.1 (by decide)
    split
    · rename_i hc
      have r := ok.rd
      have e : ∀ o, (o ≠ 27 ∧ o ≠ 29 ∧ o ≠ 31 ∧ o ≠ 33) → sMend (sRd s) (cmd (sRd s)) (nI q) v z o = sRd s o := fun o ho => by
        unfold sMend
        rw [u_ne (by omega), u_ne (by omega), u_ne (by omega), u_ne (by omega)]
      refine ok.up (ROK_of (r.p1cg (fun o ho => e o (by omega))) (r.p2.cg (e _ (by decide)) (e _ (by decide))) ?_ (r.p4.cg (e _ (by decide))) (r.p5.cg (e _ (by decide)) (e _ (by decide))))
      have h18 : sMend (sRd s) (cmd (sRd s)) (nI q) v z 27 0 = nI (cmd (sRd s) + 1) := by
        unfold sMend; rw [mU_at, if_pos ⟨rfl, rfl⟩]
      have hcf : cmd (sMend (sRd s) (cmd (sRd s)) (nI q) v z) = cmd (sRd s) + 1 := by
        show (sMend (sRd s) (cmd (sRd s)) (nI q) v z 27 0).toNatClampNeg = _
        rw [h18]; exact i_cl (by omega)
      refine ⟨by rw [hcf]; exact h18, by omega, fun k hk => ?_⟩
      rw [hcf] at hk
      have h22 : sMend (sRd s) (cmd (sRd s)) (nI q) v z 29 k = if k = cmd (sRd s) then nI q else sRd s 29 k := by
        unfold sMend
        rw [u_ne (by omega), u_ne (by omega), u_ne (by omega), mU_at]
        by_cases hz : k = cmd (sRd s)
        · rw [if_pos ⟨rfl, hz⟩, if_pos hz]
        · rw [if_neg (fun z => hz z.2), if_neg hz]
      rw [h22]
      by_cases hz : k = cmd (sRd s)
      · rw [if_pos hz]; exact ⟨q, by omega, rfl⟩
      · rw [if_neg hz]; exact r.p3.2.2 k (by omega)
    · exact ok
  · exact ok
theorem z_paper {s : St} (ok : SOK s) (d x y : Int32) : SOK (oPaper s d x y).2 := by
  unfold oPaper
  split
  · rename_i h
    simp only [Bool.and_eq_true] at h
    obtain ⟨q, hq, rfl⟩ := dIn_nI (n := 999) h.1 (by decide)
    split
    · rename_i hc
      have r := ok.rd
      have e : ∀ o, (o ≠ 39 ∧ o ≠ 41 ∧ o ≠ 43 ∧ o ≠ 45) → sPaper (sRd s) (cpa (sRd s)) (nI q) x y o = sRd s o := fun o ho => by
        unfold sPaper
        rw [u_ne (by omega), u_ne (by omega), u_ne (by omega), u_ne (by omega)]
      refine ok.up (ROK_of (r.p1cg (fun o ho => e o (by omega))) (r.p2.cg (e _ (by decide)) (e _ (by decide))) (r.p3.cg (e _ (by decide)) (e _ (by decide))) (r.p4.cg (e _ (by decide))) ?_)
      have h18 : sPaper (sRd s) (cpa (sRd s)) (nI q) x y 39 0 = nI (cpa (sRd s) + 1) := by
        unfold sPaper; rw [mU_at, if_pos ⟨rfl, rfl⟩]
      have hcf : cpa (sPaper (sRd s) (cpa (sRd s)) (nI q) x y) = cpa (sRd s) + 1 := by
        show (sPaper (sRd s) (cpa (sRd s)) (nI q) x y 39 0).toNatClampNeg = _
        rw [h18]; exact i_cl (by omega)
      refine ⟨by rw [hcf]; exact h18, by omega, fun k hk => ?_⟩
      rw [hcf] at hk
      have h22 : sPaper (sRd s) (cpa (sRd s)) (nI q) x y 41 k = if k = cpa (sRd s) then nI q else sRd s 41 k := by
        unfold sPaper
        rw [u_ne (by omega), u_ne (by omega), u_ne (by omega), mU_at]
        by_cases hz : k = cpa (sRd s)
        · rw [if_pos ⟨rfl, hz⟩, if_pos hz]
        · rw [if_neg (fun z => hz z.2), if_neg hz]
      rw [h22]
      by_cases hz : k = cpa (sRd s)
      · rw [if_pos hz]; exact ⟨q, by omega, rfl⟩
      · rw [if_neg hz]; exact r.p5.2.2 k (by omega)
    · exact ok
  · exact ok
theorem z_blows {s : St} (ok : SOK s) (b k v : Int32) : SOK (oBlows s b k v).2 := by
  unfold oBlows
  split
  · split
    · have r := ok.rd
      have e : ∀ o, o ≠ 38 → mU (sRd s) 38 (10 * b.toNatClampNeg + k.toNatClampNeg) v o = sRd s o := fun o ho => u_ne ho
      exact ok.up (ROK_of (r.p1cg (fun o ho => e o (by omega))) (r.p2.cg (e _ (by decide)) (e _ (by decide))) (r.p3.cg (e _ (by decide)) (e _ (by decide))) (r.p4.cg (e _ (by decide))) (r.p5.cg (e _ (by decide)) (e _ (by decide))))
    · exact ok
  · exact ok
theorem z_bridge {s : St} (ok : SOK s) (x : Int32) : SOK (oBridge s x).2 := by
  unfold oBridge
  split
  · split
    · rename_i hc
      have r := ok.rd
      have e : ∀ o, (o ≠ 34 ∧ o ≠ 36 ∧ o ≠ 38) → sBridge (sRd s) (cbr (sRd s)) x o = sRd s o := fun o ho => by
        unfold sBridge
        rw [u_ne (by omega)]
        funext k
        rw [if_neg (by omega), u_ne (by omega)]
      refine ok.up (ROK_of (r.p1cg (fun o ho => e o (by omega))) (r.p2.cg (e _ (by decide)) (e _ (by decide))) (r.p3.cg (e _ (by decide)) (e _ (by decide))) ?_ (r.p5.cg (e _ (by decide)) (e _ (by decide))))
      have h18 : sBridge (sRd s) (cbr (sRd s)) x 34 0 = nI (cbr (sRd s) + 1) := by
        unfold sBridge; rw [mU_at, if_pos ⟨rfl, rfl⟩]
      have hcf : cbr (sBridge (sRd s) (cbr (sRd s)) x) = cbr (sRd s) + 1 := by
        show (sBridge (sRd s) (cbr (sRd s)) x 34 0).toNatClampNeg = _
        rw [h18]; exact i_cl (by omega)
      exact ⟨by rw [hcf]; exact h18, by omega⟩
    · exact ok
  · exact ok
theorem z_image {s : St} (ok : SOK s) : SOK (oImage s).2 := by
  unfold oImage
  split
  · rename_i h
    refine ⟨ok.1, ok.2.1, ok.2.2.1, ok.2.2.2.1, ok.rd, ?_, fun i R hi => ?_⟩
    · show (sIm s ++ [sRd s]).length ≤ 3
      rw [List.length_append]; simp only [List.length_cons, List.length_nil]; omega
    · have hi2 : (sIm s ++ [sRd s])[i]? = some R := hi
      by_cases hz : i < (sIm s).length
      · rw [List.getElem?_append_left hz] at hi2
        exact ok.2.2.2.2.2.2 i R hi2
      · rw [List.getElem?_append_right (by omega)] at hi2
        have : R = sRd s := by
          by_cases hy : i - (sIm s).length = 0
          · rw [hy] at hi2; cases hi2; rfl
          · rw [List.getElem?_eq_none (by simp; omega)] at hi2; cases hi2
        rw [this]; exact ok.rd
  · exact ok
theorem z_restore {s : St} (ok : SOK s) : SOK (oRestore s).2 := by
  unfold oRestore
  split
  · rename_i h
    refine ⟨ok.1, ok.2.1, ok.2.2.1, ok.2.2.2.1, ?_, ?_, fun i R hi => ?_⟩
    · show ROK (((sIm s)[(sIm s).length - 1]?).getD (sRd s))
      rw [List.getElem?_eq_getElem (show (sIm s).length - 1 < (sIm s).length by omega)]
      exact ok.2.2.2.2.2.2 _ _ (List.getElem?_eq_getElem (show (sIm s).length - 1 < (sIm s).length by omega))
    · show ((sIm s).take ((sIm s).length - 1)).length ≤ 3
      have := ok.2.2.2.2.2.1
      rw [List.length_take]; omega
    · have hi2 : ((sIm s).take ((sIm s).length - 1))[i]? = some R := hi
      rw [List.getElem?_take] at hi2
      split at hi2
      · exact ok.2.2.2.2.2.2 i R hi2
      · cases hi2
  · exact ok
theorem and_255 (x : Int32) : ∃ q, q < 256 ∧ x &&& 255 = nI q := by
  have h : ∀ v : BitVec 32, (v &&& 255#32).toNat < 256 := fun v => by
    rw [BitVec.toNat_and]
    exact Nat.lt_of_le_of_lt Nat.and_le_right (by decide)
  refine ⟨(x.toBitVec &&& 255#32).toNat, h _, ?_⟩
  apply Int32.toBitVec_inj.mp
  show x.toBitVec &&& 255#32 = BitVec.ofInt 32 ((x.toBitVec &&& 255#32).toNat : Int)
  rw [BitVec.ofInt_natCast, BitVec.ofNat_toNat, BitVec.setWidth_eq]
theorem z_feed {s : St} (ok : SOK s) (a b c d e : Int32) : SOK (oFeed s a b c d e).2 := by
  unfold oFeed
  split
  · rename_i h
    refine ⟨h, fun k hk => ?_, ok.2.2.1, ok.2.2.2.1, ok.rd, ok.2.2.2.2.2.1, ok.2.2.2.2.2.2⟩
    show ∃ q, q < 256 ∧ (if sTb s ≤ k ∧ k < sTb s + 20 then sByt (sArg a b c d e (k - sTb s)) (k - sTb s) else sTf s k) = nI q
    split
    · exact and_255 _
    · exact ok.2.1 k hk
  · exact ok
