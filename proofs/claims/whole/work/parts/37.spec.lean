/-! The state of both sides, as one value: how many bytes the tape has, the tape, the laws, the place of the fault, the road, the images; what each call answers (.inr 0, 1, 2: as exN) and leaves. -/
abbrev St : Type := Nat × (Nat → Int32) × List (List Nat) × Int32 × Dk × List Dk
abbrev An : Type := (Int32 ⊕ Nat) × St
def sTb (s : St) : Nat := s.1
def sTf (s : St) : Nat → Int32 := s.2.1
def sLs (s : St) : List (List Nat) := s.2.2.1
def sPl (s : St) : Int32 := s.2.2.2.1
def sRd (s : St) : Dk := s.2.2.2.2.1
def sIm (s : St) : List Dk := s.2.2.2.2.2
def upR (s : St) (R : Dk) : St := (sTb s, sTf s, sLs s, sPl s, R, sIm s)
def pcs (R : Dk) : Nat := (R 1 0).toNatClampNeg
def cfl (R : Dk) : Nat := (R 18 0).toNatClampNeg
def cmd (R : Dk) : Nat := (R 27 0).toNatClampNeg
def cbr (R : Dk) : Nat := (R 34 0).toNatClampNeg
def cpa (R : Dk) : Nat := (R 39 0).toNatClampNeg
def ROK (R : Dk) : Prop :=
  (R 1 0 = nI (pcs R) ∧ 2 ≤ pcs R ∧ pcs R ≤ 8) ∧
  (∀ k, k < 10 → sLst (nI k) ≤ R 3 k ∧ R 3 k ≤ sMst (nI k)) ∧
  ((∀ k, k < 8 → R 13 k = 0 ∨ R 13 k = 1 ∨ R 13 k = 2) ∧ ∀ k, pcs R ≤ k → k < 8 → R 13 k = 2) ∧
  ((∀ k, k < 8 → R 15 k = 0 ∨ R 15 k = 1) ∧ ∀ k, pcs R ≤ k + 1 → k < 8 → R 15 k = 0) ∧
  (∀ k, pcs R ≤ k → k < 8 → R 5 k = 0 ∧ R 7 k = 0 ∧ R 9 k = 0 ∧ R 11 k = 0) ∧
  (R 18 0 = nI (cfl R) ∧ cfl R ≤ 20 ∧ ∀ k, k < cfl R → ∃ q, q < 8 ∧ R 22 k = nI q) ∧
  (R 27 0 = nI (cmd R) ∧ cmd R ≤ 5 ∧ ∀ k, k < cmd R → ∃ q, q < 10 ∧ R 29 k = nI q) ∧
  (R 34 0 = nI (cbr R) ∧ cbr R ≤ 6) ∧
  (R 39 0 = nI (cpa R) ∧ cpa R ≤ 10 ∧ ∀ k, k < cpa R → ∃ q, q < 1000 ∧ R 41 k = nI q)
def SOK (s : St) : Prop := sTb s ≤ 300 ∧ (∀ k, k < 300 → ∃ q, q < 256 ∧ sTf s k = nI q) ∧ (sLs s).length ≤ 4 ∧ (∀ (i : Nat) (A : List Nat), (sLs s)[i]? = some A → cTs A [] = some [] ∧ A.length ≤ 300 ∧ ∀ c ∈ A, c < 20000) ∧ ROK (sRd s) ∧ (sIm s).length ≤ 3 ∧ ∀ (i : Nat) (R : Dk), (sIm s)[i]? = some R → ROK R
/-- the class's cells hold s -/
def CS (M : Mem) (s : St) : Prop := M 0 1 = nI (sTb s) ∧ M 0 4 = nI (sLs s).length ∧ M 0 5 = sPl s ∧ M 0 8 = nI (sIm s).length ∧ (∀ k, k < 300 → M 2 k = sTf s k) ∧ (∀ (i : Nat) (A : List Nat), (sLs s)[i]? = some A → RLw M (92 + 5 * i) A) ∧ RR M 11 (sRd s) ∧ ∀ (i : Nat) (R : Dk), (sIm s)[i]? = some R → RR M (112 + 46 * i) R
def dIn (v lo hi : Int32) : Bool := !(decide (v < lo)) && !(decide (hi < v))
def lOk (s : St) (l : Int32) : Bool := dIn l 0 (nI (sLs s).length - 1)
def lw (s : St) (l : Int32) : List Nat := ((sLs s)[l.toNatClampNeg]?).getD []
def shOk (kd j : Int32) : Bool := dIn kd 0 1 && dIn j 1 4
def pcOk (s : St) (p : Int32) : Bool := dIn p 0 (nI (pcs (sRd s)) - 1)
def brOk (s : St) (b : Int32) : Bool := dIn b 0 (nI (cbr (sRd s)) - 1)
def sByt (x : Int32) (j : Nat) : Int32 := (x >>> nI (24 - 8 * (j % 4))) &&& 255
def sArg (a b c d e : Int32) (j : Nat) : Int32 := if j < 4 then a else if j < 8 then b else if j < 12 then c else if j < 16 then d else e
def oFeed (s : St) (a b c d e : Int32) : An :=
  if sTb s + 20 ≤ 300 then (.inl (nI (sTb s + 20)), (sTb s + 20, (fun k => if sTb s ≤ k ∧ k < sTb s + 20 then sByt (sArg a b c d e (k - sTb s)) (k - sTb s) else sTf s k), sLs s, sPl s, sRd s, sIm s)) else (.inl (-1), s)
def oFault (s : St) : An := (.inl (sPl s), s)
def sLay (D : Dk) (v : Int32) : Dk := fun o k => if o = 0 then (if k = 0 then v else 0) else if o = 2 then D 2 k else if o = 12 then 2 else 0
def oDeck (s : St) (v : Int32) : An := if dIn v 2 8 = true then (.inl (sRd s 1 0), upR s (rS (sRd s) (sLay (rD (sRd s)) v))) else (.inr 0, s)
def oSet (s : St) (x v : Int32) : An := if (dIn x 0 9 && dIn v (sLst x) (sMst x)) = true then (.inl (sRd s 3 x.toNatClampNeg), upR s (mU (sRd s) 3 x.toNatClampNeg v)) else (.inr 0, s)
def oStay (s : St) (p b : Int32) : An := if pcOk s p = true then (.inl (sRd s 13 p.toNatClampNeg), if b = 0 then upR s (mU (sRd s) 13 p.toNatClampNeg 0) else if sRd s 13 p.toNatClampNeg = 0 then upR s (mU (sRd s) 13 p.toNatClampNeg 2) else s) else (.inr 1, s)
def oShape (s : St) (kd j a : Int32) : An := if (shOk kd j && dIn a 1 9999) = true then (.inl (sSize (sSh (rD (sRd s)) (pcs (sRd s)) kd j a) (pcs (sRd s)) kd), upR s (rS (sRd s) (sSh (rD (sRd s)) (pcs (sRd s)) kd j a))) else (.inr 0, s)
def oGo (s : St) (l w t : Int32) : An := if lOk s l = true then (if (dIn w 0 99 && dIn t 0 100) = true then (.inl (sSize (sRun (lw s l) w 100 (pcs (sRd s)) (rD (sRd s)) t.toNatClampNeg) (pcs (sRd s)) 1), upR s (rS (sRd s) (sRun (lw s l) w 100 (pcs (sRd s)) (rD (sRd s)) t.toNatClampNeg))) else (.inr 0, s)) else (.inr 2, s)
def oPiece (s : St) (p x : Int32) : An := if pcOk s p = true then (if dIn x 0 5 = true then (.inl (sRd s (5 + 2 * x.toNatClampNeg) p.toNatClampNeg), s) else (.inr 0, s)) else (.inr 1, s)
def oPush (s : St) (l w p b : Int32) : An := if lOk s l = true then (if pcOk s p = true then (if dIn w 0 99 = true then (.inl (if b = 0 then (sAsk (lw s l) (sNm (rD (sRd s)) w p.toNatClampNeg)).1 else (sAsk (lw s l) (sNm (rD (sRd s)) w p.toNatClampNeg)).2), s) else (.inr 0, s)) else (.inr 1, s)) else (.inr 2, s)
/-- a question of a law on the road as of a trial -/
def gr (s : St) (l w h kd j a : Int32) : Bool := sGrows (lw s l) w h (pcs (sRd s)) (rD (sRd s)) kd j a
def oGrows (s : St) (l w kd j : Int32) : An := if lOk s l = true then (if (dIn w 0 99 && shOk kd j) = true then (.inl (b2 (gr s l w 100 kd j 100)), s) else (.inr 0, s)) else (.inr 2, s)
def oLine (s : St) (l kd j : Int32) : An := if lOk s l = true then (if shOk kd j = true then (.inl (sLine (lw s l) 100 (pcs (sRd s)) (rD (sRd s)) kd j), s) else (.inr 0, s)) else (.inr 2, s)
def oWhy (s : St) (l w kd j : Int32) : An := if lOk s l = true then (if (dIn w 0 99 && shOk kd j) = true then (.inl (b2 (gr s l w 100 kd j 100 && gr s l w 100 kd j 200) + (if (gr s l w 100 kd j 1 && !(gr s l w 100 kd j 1000)) = true then 2 else 0)), s) else (.inr 0, s)) else (.inr 2, s)
def sTr (s : St) (l w kd j a : Int32) (t : Nat) : Dk := sRun (lw s l) w 100 (pcs (sRd s)) (sBeg (rD (sRd s)) (pcs (sRd s)) kd j a) t
def sBk (s : St) (l w kd j b : Int32) (t : Nat) : Int32 := sLeast (sTr s l w kd j 100 t) (pcs (sRd s)) b
def oFirst (s : St) (l w kd j b : Int32) : An := if lOk s l = true then (if (dIn w 0 99 && shOk kd j) = true then (.inl (fFst (fun t => !(decide (sBk s l w kd j b t = (-1)))) 60 1), s) else (.inr 0, s)) else (.inr 2, s)
def oWhere (s : St) (l w kd j b : Int32) : An := if lOk s l = true then (if (dIn w 0 99 && shOk kd j) = true then (.inl (fVal (sBk s l w kd j b) 60 1), s) else (.inr 0, s)) else (.inr 2, s)
def oSlip (s : St) (l w j : Int32) : An := if lOk s l = true then (if (dIn w 0 99 && shOk 1 j) = true then (.inl (b2 (gr s l w 100 1 j 100) + (if sGrows (lw s l) w 100 (pcs (sRd s)) (mSet (rD (sRd s)) 12 8 (fun _ => 0)) 1 j 100 = true then 2 else 0)), s) else (.inr 0, s)) else (.inr 2, s)
def oFilm (s : St) (t p hh u : Int32) : An := if pcOk s p = true then (if (dIn t 1 100 && (dIn hh (-1000000) 1000000 && dIn u (-1000000) 1000000)) = true then (if cfl (sRd s) < 20 then (.inl (nI (cfl (sRd s) + 1)), upR s (sFilm (sRd s) (cfl (sRd s)) t p hh u)) else (.inl (-1), s)) else (.inr 0, s)) else (.inr 1, s)
def sBar (f : Nat → Int32) : Nat → Int32
  | 0 => (-1)
  | t + 1 => if f (t + 1) = (-1) then sBar f t else if sBar f t = (-1) then f (t + 1) else if sBar f t ≤ f (t + 1) then sBar f t else f (t + 1)
def sRow (s : St) (l w kd j a far : Int32) (t : Nat) : Int32 := fFst (sOffR (sRd s) (sTr s l w kd j a t) (pcs (sRd s)) (nI t) far) (cfl (sRd s)) 0
def oBarred (s : St) (l w kd j a far : Int32) : An := if lOk s l = true then (if (dIn w 0 99 && (shOk kd j && (dIn a 1 9999 && dIn far 0 1000000))) = true then (.inl (sBar (sRow s l w kd j a far) 100), s) else (.inr 0, s)) else (.inr 2, s)
def oShut (s : St) (l w kd j a ab : Int32) : An := if lOk s l = true then (if (dIn w 0 99 && (shOk kd j && (dIn a 1 9999 && dIn ab 0 1000000))) = true then (.inl (fFst (fun t => decide (ab < sSize (sTr s l w kd j a t) (pcs (sRd s)) kd)) 100 1), s) else (.inr 0, s)) else (.inr 2, s)
def oMend (s : St) (x v z : Int32) : An := if (dIn x 0 9 && (dIn v (-999999) 999999 && dIn z 0 999)) = true then (if cmd (sRd s) < 5 then (.inl (nI (cmd (sRd s))), upR s (sMend (sRd s) (cmd (sRd s)) x v z)) else (.inl (-1), s)) else (.inr 0, s)
def oCalm (s : St) (l w : Int32) : An := if lOk s l = true then (if dIn w 0 99 = true then (.inl (b2 (sCalm (lw s l) w (pcs (sRd s)) (rD (sRd s)))), s) else (.inr 0, s)) else (.inr 2, s)
def sMnd (A : List Nat) (w : Int32) (R : Dk) : Nat → Int32 × Int32
  | 0 => ((-1), 0)
  | b + 1 => if (sMnd A w R b).1 = (-1) ∨ sCost R (nI b) (cmd R) < (sMnd A w R b).2 then (if sCalm A w (pcs R) (sMakes R (nI b) (rD R) (cmd R)) = true then (nI b, sCost R (nI b) (cmd R)) else sMnd A w R b) else sMnd A w R b
def oMended (s : St) (l w : Int32) : An := if lOk s l = true then (if dIn w 0 99 = true then (.inl (sMnd (lw s l) w (sRd s) (2 ^ cmd (sRd s))).1, s) else (.inr 0, s)) else (.inr 2, s)
def sCto (A : List Nat) (n : Nat) (D : Dk) : Int32 := fUp (fun i => sCalm A (nI i) n D) 13 0
/-- the best of the first k mends that are not made: which, and how far calm -/
def sBst (A : List Nat) (R D : Dk) (made : Int32) : Nat → Int32 × Int32
  | 0 => ((-1), (-1))
  | k + 1 => if sBit made k = 0 then (if (sBst A R D made k).1 = (-1) ∨ (sBst A R D made k).2 < sCto A (pcs R) (sMake R k D) then (nI k, sCto A (pcs R) (sMake R k D)) else sBst A R D made k) else sBst A R D made k
def sWk (A : List Nat) (R : Dk) : Nat → Int32 × Dk × Int32
  | 0 => (0, rD R, (-1))
  | d + 1 => ((sWk A R d).1 ||| (1 <<< ((sBst A R (sWk A R d).2.1 (sWk A R d).1 (cmd R)).1 &&& 31)), sMake R (sBst A R (sWk A R d).2.1 (sWk A R d).1 (cmd R)).1.toNatClampNeg (sWk A R d).2.1, (sBst A R (sWk A R d).2.1 (sWk A R d).1 (cmd R)).1)
def oWeek (s : St) (l d : Int32) : An := if lOk s l = true then (if ¬ d < 0 then (if d < nI (cmd (sRd s)) then (.inl (sWk (lw s l) (sRd s) (d.toNatClampNeg + 1)).2.2, s) else (.inl (-1), s)) else (.inr 0, s)) else (.inr 2, s)
def sMx2 (x y : Int32) : Int32 := if x < y then y else x
def sLl (x y : Int32) : Int32 := if x = (-1) then sMx2 x y else if y = (-1) then sMx2 x y else (if y < x then y else x)
def oSpan (s : St) (l kd j h b : Int32) : An := if lOk s l = true then (if (shOk kd j && dIn h 0 50) = true then (.inl (
    if b = 0 then sLl (sLine (lw s l) (100 - h) (pcs (sRd s)) (rD (sRd s)) kd j) (sLl (sLine (lw s l) 100 (pcs (sRd s)) (rD (sRd s)) kd j) (sLine (lw s l) (100 + h) (pcs (sRd s)) (rD (sRd s)) kd j))
    else sMx2 (sLine (lw s l) (100 - h) (pcs (sRd s)) (rD (sRd s)) kd j) (sMx2 (sLine (lw s l) 100 (pcs (sRd s)) (rD (sRd s)) kd j) (sLine (lw s l) (100 + h) (pcs (sRd s)) (rD (sRd s)) kd j))), s) else (.inr 0, s)) else (.inr 2, s)
def oBridge (s : St) (x : Int32) : An := if dIn x 0 60 = true then (if cbr (sRd s) < 6 then (.inl (nI (cbr (sRd s))), upR s (sBridge (sRd s) (cbr (sRd s)) x)) else (.inl (-1), s)) else (.inr 0, s)
def oBlows (s : St) (b k v : Int32) : An := if brOk s b = true then (if (dIn k 0 9 && dIn v 0 999) = true then (.inl (sRd s 38 (10 * b.toNatClampNeg + k.toNatClampNeg)), upR s (mU (sRd s) 38 (10 * b.toNatClampNeg + k.toNatClampNeg) v)) else (.inr 0, s)) else (.inr 1, s)
def oHours (s : St) (b : Int32) : An := if brOk s b = true then (.inl (sHours (sRd s) b.toNatClampNeg 10), s) else (.inr 1, s)
def oPaper (s : St) (d x y : Int32) : An := if (dIn d 0 999 && (dIn x 0 255 && dIn y 0 255)) = true then (if cpa (sRd s) < 10 then (.inl (nI (cpa (sRd s) + 1)), upR s (sPaper (sRd s) (cpa (sRd s)) d x y)) else (.inl (-1), s)) else (.inr 0, s)
def oKnown (s : St) (d : Int32) : An := if dIn d 0 999 = true then (.inl (sRnd (sRd s) d (cpa (sRd s)) (cpa (sRd s))), s) else (.inr 0, s)
def oCould (s : St) (x : Int32) : An := if dIn x 0 255 = true then (.inl (sCould (sRd s) x (cpa (sRd s))), s) else (.inr 0, s)
def oImage (s : St) : An := if (sIm s).length < 3 then (.inl (nI ((sIm s).length + 1)), (sTb s, sTf s, sLs s, sPl s, sRd s, sIm s ++ [sRd s])) else (.inl (-1), s)
def oRestore (s : St) : An := if 0 < (sIm s).length then (.inl (nI ((sIm s).length - 1)), (sTb s, sTf s, sLs s, sPl s, ((sIm s)[(sIm s).length - 1]?).getD (sRd s), (sIm s).take ((sIm s).length - 1))) else (.inl (-1), s)
def oCount (s : St) (x : Int32) : An := (.inl (
  if dIn x 20 29 = true then sRd s 3 (x - 20).toNatClampNeg else if x = 0 then sRd s 1 0 else if x = 1 then nI (sLs s).length else if x = 2 then sRd s 1 1 else if x = 3 then sRd s 18 0 else if x = 4 then sRd s 27 0 else if x = 5 then sRd s 34 0 else if x = 6 then sRd s 39 0
  else if x = 7 then nI (sIm s).length else if x = 8 then nI (sTb s) else if x = 9 then sCnt (sBrk (rD (sRd s)) 0) (pcs (sRd s)) else if x = 10 then sCnt (sBrk (rD (sRd s)) 1) (pcs (sRd s)) else (-1)), s)
/-! How the class's cells hold it. -/
theorem CS.fr {M M' : Mem} {s : St} (h : CS M s) (ok : SOK s) (h0 : M' 0 = M 0) (h2 : M' 2 = M 2) (hr : ∀ b, 11 < b → b < 57 → M' b = M b) (hi : ∀ b, 112 < b → b < 250 → M' b = M b) (hl : ∀ (i : Nat) (A : List Nat), (sLs s)[i]? = some A → RLw M' (92 + 5 * i) A) : CS M' s := by
  obtain ⟨a1, a2, a3, a4, a5, a6, a7, a8⟩ := h
  refine ⟨by rw [h0]; exact a1, by rw [h0]; exact a2, by rw [h0]; exact a3, by rw [h0]; exact a4, fun k hk => by rw [h2]; exact a5 k hk, hl, a7.fr hr, fun i R hR => (a8 i R hR).fr (fun b h1 h2 => hi b (by omega) ?_)⟩
  have := (List.getElem?_eq_some_iff.mp hR).1
  have := ok.2.2.2.2.2.1
  omega
theorem CS.la {M : Mem} {s : St} (h : CS M s) {l : Int32} (hl : lOk s l = true) (ok : SOK s) : ∃ i, i < (sLs s).length ∧ l = nI i ∧ (sLs s)[i]? = some (lw s l) ∧ RLw M (92 + 5 * i) (lw s l) ∧ cTs (lw s l) [] = some [] := by
  unfold lOk dIn at hl
  simp only [Bool.and_eq_true, Bool.not_eq_true', decide_eq_false_iff_not] at hl
  have h4 := ok.2.2.1
  have hne : 0 < (sLs s).length := by
    by_cases hz : 0 < (sLs s).length
    · exact hz
    · have hz2 : (sLs s).length = 0 := by omega
      rw [hz2] at hl
      obtain ⟨j, hj, rfl⟩ := nI_of hl.1
      exact absurd (nI_lt (a := 0) (b := 1) (by omega) (by omega)) (fun _ => hl.2 (by
        have : nI 0 - 1 = (-1 : Int32) := by decide
        rw [this]
        exact Int32.lt_of_lt_of_le (b := 0) (by decide) (Int32.not_lt.mp (nI_pos hj))))
  rw [i_prd hne] at hl
  obtain ⟨i, hi, rfl⟩ := i_of hl.1 (Int32.not_lt.mp hl.2) (by omega)
  have hget : (sLs s)[i]? = some (lw s (nI i)) := by
    unfold lw
    rw [i_cl (by omega), List.getElem?_eq_getElem (show i < (sLs s).length by omega)]
    rfl
  exact ⟨i, by omega, rfl, hget, h.2.2.2.2.2.1 i _ hget, (ok.2.2.2.1 i _ hget).1⟩
/-- behind what changes the trial deck and one law's numbers -/
theorem CS.tr {M M' : Mem} {s : St} (h : CS M s) (ok : SOK s) {i : Nat} {A : List Nat} (hi : (sLs s)[i]? = some A) (hf : Fr (92 + 5 * i) M M') (hA : RLw M' (92 + 5 * i) A) : CS M' s := by
  have hlen := (List.getElem?_eq_some_iff.mp hi).1
  have h4 := ok.2.2.1
  refine h.fr ok (hf 0 (by omega) (by omega)) (hf 2 (by omega) (by omega)) (fun b h1 h2 => hf b (by omega) (by omega)) (fun b h1 h2 => hf b (by omega) (by omega)) (fun j B hj => ?_)
  by_cases hji : j = i
  · subst hji
    rw [hi] at hj
    cases hj
    exact hA
  · have := (List.getElem?_eq_some_iff.mp hj).1
    exact (h.2.2.2.2.2.1 j B hj).fr (congrFun (hf _ (by omega) (by omega)) 4) (hf _ (by omega) (by omega))
theorem dIn_t {v lo hi : Int32} : dIn v lo hi = true ↔ ¬ v < lo ∧ ¬ hi < v := by
  unfold dIn
  simp only [Bool.and_eq_true, Bool.not_eq_true', decide_eq_false_iff_not]
theorem dIn_nI {v : Int32} {n : Nat} (h : dIn v 0 (nI n) = true) (hn : n < 100000) : ∃ k, k ≤ n ∧ v = nI k := i_of (dIn_t.mp h).1 (Int32.not_lt.mp (dIn_t.mp h).2) hn
theorem dIn_nI1 {v : Int32} {n : Nat} (h : dIn v 1 (nI n) = true) (hn : n < 100000) : ∃ k, 1 ≤ k ∧ k ≤ n ∧ v = nI k := by
  have h1 := dIn_t.mp h
  have h0 : ¬ v < 0 := fun z => h1.1 (Int32.lt_of_lt_of_le z (by decide))
  obtain ⟨k, hk, rfl⟩ := i_of h0 (Int32.not_lt.mp h1.2) hn
  refine ⟨k, ?_, hk, rfl⟩
  by_cases hz : 1 ≤ k
  · exact hz
  · have : k = 0 := by omega
    subst this
    exact absurd (show nI 0 < 1 by decide) h1.1
theorem pcOk_of {s : St} {p : Int32} (ok : SOK s) (h : pcOk s p = true) : ∃ k, k < pcs (sRd s) ∧ k < 8 ∧ p = nI k := by
  obtain ⟨h1, h2, h3⟩ := ok.2.2.2.2.1.1
  unfold pcOk at h
  rw [i_prd (by omega)] at h
  obtain ⟨k, hk, rfl⟩ := dIn_nI h (by omega)
  exact ⟨k, by omega, by omega, rfl⟩
theorem brOk_of {s : St} {b : Int32} (ok : SOK s) (h : brOk s b = true) : ∃ k, k < cbr (sRd s) ∧ k < 6 ∧ b = nI k := by
  obtain ⟨h1, h2⟩ := ok.2.2.2.2.1.2.2.2.2.2.2.2.1
  unfold brOk at h
  by_cases hz : 0 < cbr (sRd s)
  · rw [i_prd hz] at h
    obtain ⟨k, hk, rfl⟩ := dIn_nI h (by omega)
    exact ⟨k, by omega, by omega, rfl⟩
  · have hz2 : cbr (sRd s) = 0 := by omega
    rw [hz2] at h
    have h3 := dIn_t.mp h
    exfalso
    apply h3.2
    have : nI 0 - 1 = (-1 : Int32) := by decide
    rw [this]
    exact Int32.lt_of_lt_of_le (b := 0) (by decide) (Int32.not_lt.mp h3.1)
theorem q_in (M : Mem) (v lo hi : Int32) : f_X10_within M v lo hi = some (b2 (dIn v lo hi), M) := by
  unfold f_X10_within dIn
  by_cases h1 : v < lo
  · rw [if_pos h1, decide_eq_true h1]; rfl
  · rw [if_neg h1, decide_eq_false h1]
    by_cases h2 : hi < v
    · rw [if_pos h2, decide_eq_true h2]; rfl
    · rw [if_neg h2, decide_eq_false h2]; rfl
theorem q_dem (M : Mem) (b : Bool) : f_X10_demand M (b2 b) = some ((if b = true then .inl 0 else .inr 0), M) := by
  cases b <;> rfl
theorem q_wind (M : Mem) (w : Int32) : f_X10_demandWind M w = some ((if dIn w 0 99 = true then .inl 0 else .inr 0), M) := by
  unfold f_X10_demandWind
  rw [q_in, Option.bind_some]
  show ((f_X10_demand M (b2 (dIn w 0 99))).bind _) = _
  rw [q_dem, Option.bind_some]
  cases dIn w 0 99 <;> rfl
theorem q_shape (M : Mem) (kd j : Int32) : f_X10_demandShape M kd j = some ((if shOk kd j = true then .inl 0 else .inr 0), M) := by
  unfold f_X10_demandShape f_X10_demandShape_b22 f_X10_demandShape_b23 shOk
  rw [q_in, Option.bind_some]
  cases dIn kd 0 1 with
  | false => rfl
  | true =>
    show ((f_X10_within M j 1 4).bind _) = _
    rw [q_in, Option.bind_some]
    cases dIn j 1 4 <;> rfl
theorem q_law {M : Mem} {s : St} (h : CS M s) (ok : SOK s) (l : Int32) : f_X10_lawNumbered M 0 l = some ((if lOk s l = true then .inl (92 + 5 * l.toNatClampNeg) else .inr 2), M) := by
  have e3 : gRf 0 3 = 10 := by decide +kernel
  have e4 : gN 10 = 4 := by decide +kernel
  have e5 : ∀ i, i < 4 → gRf 10 i = 92 + 5 * i := by decide +kernel
  unfold f_X10_lawNumbered f_X10_lawNumbered_b30
  rw [h.2.1, e3, e4]
  have h4 := ok.2.2.1
  by_cases hl : lOk s l = true
  · obtain ⟨i, hi, rfl, _⟩ := h.la hl ok
    rw [if_neg (i_lt0 (by omega)), if_neg (i_nle hi (by omega)), if_neg (i_nle (by omega) (by omega)), if_pos (i_in (by omega) (by omega)), i_cl (by omega), e5 i (by omega), if_pos hl]
  · rw [if_neg hl]
    by_cases h0 : l < 0
    · rw [if_pos h0]
    · rw [if_neg h0]
      have h1 : nI (sLs s).length ≤ l := by
        obtain ⟨j, hj, rfl⟩ := nI_of h0
        rw [nI_leI (by omega) hj]
        by_cases hz : (sLs s).length ≤ j
        · exact hz
        · exfalso
          apply hl
          unfold lOk
          rw [i_prd (by omega)]
          exact dIn_t.mpr ⟨h0, nI_nlt (by omega) (by omega)⟩
      rw [if_pos h1]
theorem q_piece {M : Mem} {s : St} (h : CS M s) (ok : SOK s) (p : Int32) : f_X10_demandPiece M 0 p = some ((if pcOk s p = true then .inl 0 else .inr 1), M) := by
  unfold f_X10_demandPiece pcOk
  have e : M (gRf (gRf 0 6) 0) 0 = nI (pcs (sRd s)) := by
    rw [g06, g11_0]
    exact ((h.2.2.2.2.2.2.1.d rfl).p).trans ok.2.2.2.2.1.1.1
  rw [e, q_in, Option.bind_some]
  cases dIn p 0 (nI (pcs (sRd s)) - 1) <;> rfl
theorem q_bridge {M : Mem} {s : St} (h : CS M s) (ok : SOK s) (p : Int32) : f_X10_demandBridge M 0 p = some ((if brOk s p = true then .inl 0 else .inr 1), M) := by
  unfold f_X10_demandBridge brOk
  have e : M (gRf (gRf 0 6) 3) 0 = nI (cbr (sRd s)) := by
    rw [g06, g11_3]
    exact (h.2.2.2.2.2.2.1.k34).trans ok.2.2.2.2.1.2.2.2.2.2.2.2.1.1
  rw [e, q_in, Option.bind_some]
  cases dIn p 0 (nI (cbr (sRd s)) - 1) <;> rfl
