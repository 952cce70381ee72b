/-! A road: its deck, film, mends, bridges, papers, as numbers by offset; the class's road at cell a. -/
def inR (o k : Nat) : Prop := (o = 1 ∧ k < 2) ∨ (o = 3 ∧ k < 10) ∨ ((o = 5 ∨ o = 7 ∨ o = 9 ∨ o = 11 ∨ o = 13 ∨ o = 15) ∧ k < 8) ∨ ((o = 18 ∨ o = 27 ∨ o = 34 ∨ o = 39) ∧ k = 0) ∨ ((o = 20 ∨ o = 22 ∨ o = 24 ∨ o = 26) ∧ k < 20) ∨ ((o = 29 ∨ o = 31 ∨ o = 33) ∧ k < 5) ∨ (o = 36 ∧ k < 6) ∨ (o = 38 ∧ k < 60) ∨ ((o = 41 ∨ o = 43 ∨ o = 45) ∧ k < 10)
def RR (M : Mem) (a : Nat) (R : Dk) : Prop := ∀ o k, inR o k → M (a + o) k = R o k
def rD (R : Dk) : Dk := fun o => R (1 + o)
/-- the road with another deck -/
def rS (R D : Dk) : Dk := fun o k => if 1 ≤ o ∧ o < 17 then D (o - 1) k else R o k
theorem RR.put {M : Mem} {a : Nat} {R : Dk} (h : RR M a R) (o k : Nat) (v : Int32) : RR (mU M (a + o) k v) a (mU R o k v) := fun o2 k2 hi => by
  rw [mU_add, mU_at, h o2 k2 hi]
theorem RR.set {M : Mem} {a : Nat} {R : Dk} (h : RR M a R) (o n : Nat) (f : Nat → Int32) : RR (mSet M (a + o) n f) a (mSet R o n f) := fun o2 k2 hi => by
  rw [mSet_add, mSet_at, h o2 k2 hi]
theorem RR.cg {M : Mem} {a : Nat} {R R' : Dk} (h : RR M a R) (hf : ∀ o k, inR o k → R o k = R' o k) : RR M a R' := fun o k hi => (h o k hi).trans (hf o k hi)
theorem inR_1 {o k : Nat} (hi : inD o k) : inR (1 + o) k := by
  unfold inD at hi
  rcases hi with ⟨rfl, h⟩ | ⟨rfl, h⟩ | ⟨rfl | rfl | rfl | rfl | rfl | rfl, h⟩
  · exact Or.inl ⟨rfl, h⟩
  · exact Or.inr (Or.inl ⟨rfl, h⟩)
  · exact Or.inr (Or.inr (Or.inl ⟨Or.inl rfl, h⟩))
  · exact Or.inr (Or.inr (Or.inl ⟨Or.inr (Or.inl rfl), h⟩))
  · exact Or.inr (Or.inr (Or.inl ⟨Or.inr (Or.inr (Or.inl rfl)), h⟩))
  · exact Or.inr (Or.inr (Or.inl ⟨Or.inr (Or.inr (Or.inr (Or.inl rfl))), h⟩))
  · exact Or.inr (Or.inr (Or.inl ⟨Or.inr (Or.inr (Or.inr (Or.inr (Or.inl rfl)))), h⟩))
  · exact Or.inr (Or.inr (Or.inl ⟨Or.inr (Or.inr (Or.inr (Or.inr (Or.inr rfl)))), h⟩))
theorem inD_1 {o k : Nat} (hi : inR o k) (h1 : o < 17) : inD (o - 1) k := by
  unfold inR at hi
  rcases hi with ⟨rfl, h⟩ | ⟨rfl, h⟩ | ⟨rfl | rfl | rfl | rfl | rfl | rfl, h⟩ | ⟨ho, h⟩ | ⟨ho, h⟩ | ⟨ho, h⟩ | ⟨ho, h⟩ | ⟨ho, h⟩ | ⟨ho, h⟩
  · exact Or.inl ⟨rfl, h⟩
  · exact Or.inr (Or.inl ⟨rfl, h⟩)
  · exact Or.inr (Or.inr ⟨Or.inl rfl, h⟩)
  · exact Or.inr (Or.inr ⟨Or.inr (Or.inl rfl), h⟩)
  · exact Or.inr (Or.inr ⟨Or.inr (Or.inr (Or.inl rfl)), h⟩)
  · exact Or.inr (Or.inr ⟨Or.inr (Or.inr (Or.inr (Or.inl rfl))), h⟩)
  · exact Or.inr (Or.inr ⟨Or.inr (Or.inr (Or.inr (Or.inr (Or.inl rfl)))), h⟩)
  · exact Or.inr (Or.inr ⟨Or.inr (Or.inr (Or.inr (Or.inr (Or.inr rfl)))), h⟩)
  all_goals omega
theorem inR_lo {o k : Nat} (hi : inR o k) : 1 ≤ o ∧ o < 46 := by
  unfold inR at hi
  rcases hi with ⟨ho, h⟩ | ⟨ho, h⟩ | ⟨ho, h⟩ | ⟨ho, h⟩ | ⟨ho, h⟩ | ⟨ho, h⟩ | ⟨ho, h⟩ | ⟨ho, h⟩ | ⟨ho, h⟩ <;> omega
theorem inR_de {o k : Nat} (hi : inR o k) (h1 : ¬ o < 17) : 18 ≤ o := by
  unfold inR at hi
  rcases hi with ⟨ho, h⟩ | ⟨ho, h⟩ | ⟨ho, h⟩ | ⟨ho, h⟩ | ⟨ho, h⟩ | ⟨ho, h⟩ | ⟨ho, h⟩ | ⟨ho, h⟩ | ⟨ho, h⟩ <;> omega
theorem RR.fr {M M' : Mem} {a : Nat} {R : Dk} (h : RR M a R) (hf : ∀ b, a < b → b < a + 46 → M' b = M b) : RR M' a R := fun o k hi => by
  have := inR_lo hi
  rw [hf (a + o) (by omega) (by omega)]
  exact h o k hi
theorem RR.d {M : Mem} {R : Dk} {a b : Nat} (h : RR M a R) (hb : b = a + 1) : RD M b (rD R) := fun o k hi => by
  have e : b + o = a + (1 + o) := by omega
  rw [e]
  exact h (1 + o) k (inR_1 hi)
theorem RR.sd {M M' : Mem} {R D : Dk} {a b : Nat} (h : RR M a R) (hb : b = a + 1) (hD : RD M' b D) (hf : ∀ q, (q < b ∨ b + 17 ≤ q) → M' q = M q) : RR M' a (rS R D) := fun o k hi => by
  unfold rS
  by_cases ho : 1 ≤ o ∧ o < 17
  · rw [if_pos ho]
    have e : a + o = b + (o - 1) := by omega
    rw [e]
    exact hD (o - 1) k (inD_1 hi ho.2)
  · have h1 := inR_lo hi
    have h2 := inR_de hi (by omega)
    rw [if_neg ho, hf (a + o) (by omega)]
    exact h o k hi
theorem rS_rD (R D : Dk) : ∀ o k, inD o k → rD (rS R D) o k = D o k := fun o k hi => by
  unfold rD rS
  rw [if_pos (by unfold inD at hi; omega), Nat.add_sub_cancel_left]
theorem c29_1 : gRf (gRf 29 1) 0 = 31 := by decide +kernel
theorem n29_1 : gN 31 = 20 := by decide +kernel
theorem x29_1 (M : Mem) {k : Nat} (hk : k < 20) : rAt M (gRf 29 1) (nI k) = M 31 k := by rw [rAt_nI (by rw [c29_1, n29_1]; exact hk) (by rw [c29_1, n29_1]; omega), c29_1]
theorem y29_1 (M : Mem) {k : Nat} (hk : k < 20) (v : Int32) : rPut M (gRf 29 1) (nI k) v = mU M 31 k v := by rw [rPut_nI (by rw [c29_1, n29_1]; exact hk) (by rw [c29_1, n29_1]; omega), c29_1]
theorem c29_2 : gRf (gRf 29 2) 0 = 33 := by decide +kernel
theorem n29_2 : gN 33 = 20 := by decide +kernel
theorem x29_2 (M : Mem) {k : Nat} (hk : k < 20) : rAt M (gRf 29 2) (nI k) = M 33 k := by rw [rAt_nI (by rw [c29_2, n29_2]; exact hk) (by rw [c29_2, n29_2]; omega), c29_2]
theorem y29_2 (M : Mem) {k : Nat} (hk : k < 20) (v : Int32) : rPut M (gRf 29 2) (nI k) v = mU M 33 k v := by rw [rPut_nI (by rw [c29_2, n29_2]; exact hk) (by rw [c29_2, n29_2]; omega), c29_2]
theorem c29_3 : gRf (gRf 29 3) 0 = 35 := by decide +kernel
theorem n29_3 : gN 35 = 20 := by decide +kernel
theorem x29_3 (M : Mem) {k : Nat} (hk : k < 20) : rAt M (gRf 29 3) (nI k) = M 35 k := by rw [rAt_nI (by rw [c29_3, n29_3]; exact hk) (by rw [c29_3, n29_3]; omega), c29_3]
theorem y29_3 (M : Mem) {k : Nat} (hk : k < 20) (v : Int32) : rPut M (gRf 29 3) (nI k) v = mU M 35 k v := by rw [rPut_nI (by rw [c29_3, n29_3]; exact hk) (by rw [c29_3, n29_3]; omega), c29_3]
theorem c29_4 : gRf (gRf 29 4) 0 = 37 := by decide +kernel
theorem n29_4 : gN 37 = 20 := by decide +kernel
theorem x29_4 (M : Mem) {k : Nat} (hk : k < 20) : rAt M (gRf 29 4) (nI k) = M 37 k := by rw [rAt_nI (by rw [c29_4, n29_4]; exact hk) (by rw [c29_4, n29_4]; omega), c29_4]
theorem y29_4 (M : Mem) {k : Nat} (hk : k < 20) (v : Int32) : rPut M (gRf 29 4) (nI k) v = mU M 37 k v := by rw [rPut_nI (by rw [c29_4, n29_4]; exact hk) (by rw [c29_4, n29_4]; omega), c29_4]
theorem c38_1 : gRf (gRf 38 1) 0 = 40 := by decide +kernel
theorem n38_1 : gN 40 = 5 := by decide +kernel
theorem x38_1 (M : Mem) {k : Nat} (hk : k < 5) : rAt M (gRf 38 1) (nI k) = M 40 k := by rw [rAt_nI (by rw [c38_1, n38_1]; exact hk) (by rw [c38_1, n38_1]; omega), c38_1]
theorem y38_1 (M : Mem) {k : Nat} (hk : k < 5) (v : Int32) : rPut M (gRf 38 1) (nI k) v = mU M 40 k v := by rw [rPut_nI (by rw [c38_1, n38_1]; exact hk) (by rw [c38_1, n38_1]; omega), c38_1]
theorem c38_2 : gRf (gRf 38 2) 0 = 42 := by decide +kernel
theorem n38_2 : gN 42 = 5 := by decide +kernel
theorem x38_2 (M : Mem) {k : Nat} (hk : k < 5) : rAt M (gRf 38 2) (nI k) = M 42 k := by rw [rAt_nI (by rw [c38_2, n38_2]; exact hk) (by rw [c38_2, n38_2]; omega), c38_2]
theorem y38_2 (M : Mem) {k : Nat} (hk : k < 5) (v : Int32) : rPut M (gRf 38 2) (nI k) v = mU M 42 k v := by rw [rPut_nI (by rw [c38_2, n38_2]; exact hk) (by rw [c38_2, n38_2]; omega), c38_2]
theorem c38_3 : gRf (gRf 38 3) 0 = 44 := by decide +kernel
theorem n38_3 : gN 44 = 5 := by decide +kernel
theorem x38_3 (M : Mem) {k : Nat} (hk : k < 5) : rAt M (gRf 38 3) (nI k) = M 44 k := by rw [rAt_nI (by rw [c38_3, n38_3]; exact hk) (by rw [c38_3, n38_3]; omega), c38_3]
theorem y38_3 (M : Mem) {k : Nat} (hk : k < 5) (v : Int32) : rPut M (gRf 38 3) (nI k) v = mU M 44 k v := by rw [rPut_nI (by rw [c38_3, n38_3]; exact hk) (by rw [c38_3, n38_3]; omega), c38_3]
theorem c45_1 : gRf (gRf 45 1) 0 = 47 := by decide +kernel
theorem n45_1 : gN 47 = 6 := by decide +kernel
theorem x45_1 (M : Mem) {k : Nat} (hk : k < 6) : rAt M (gRf 45 1) (nI k) = M 47 k := by rw [rAt_nI (by rw [c45_1, n45_1]; exact hk) (by rw [c45_1, n45_1]; omega), c45_1]
theorem y45_1 (M : Mem) {k : Nat} (hk : k < 6) (v : Int32) : rPut M (gRf 45 1) (nI k) v = mU M 47 k v := by rw [rPut_nI (by rw [c45_1, n45_1]; exact hk) (by rw [c45_1, n45_1]; omega), c45_1]
theorem c45_2 : gRf (gRf 45 2) 0 = 49 := by decide +kernel
theorem n45_2 : gN 49 = 60 := by decide +kernel
theorem x45_2 (M : Mem) {k : Nat} (hk : k < 60) : rAt M (gRf 45 2) (nI k) = M 49 k := by rw [rAt_nI (by rw [c45_2, n45_2]; exact hk) (by rw [c45_2, n45_2]; omega), c45_2]
theorem y45_2 (M : Mem) {k : Nat} (hk : k < 60) (v : Int32) : rPut M (gRf 45 2) (nI k) v = mU M 49 k v := by rw [rPut_nI (by rw [c45_2, n45_2]; exact hk) (by rw [c45_2, n45_2]; omega), c45_2]
theorem c50_1 : gRf (gRf 50 1) 0 = 52 := by decide +kernel
theorem n50_1 : gN 52 = 10 := by decide +kernel
theorem x50_1 (M : Mem) {k : Nat} (hk : k < 10) : rAt M (gRf 50 1) (nI k) = M 52 k := by rw [rAt_nI (by rw [c50_1, n50_1]; exact hk) (by rw [c50_1, n50_1]; omega), c50_1]
theorem y50_1 (M : Mem) {k : Nat} (hk : k < 10) (v : Int32) : rPut M (gRf 50 1) (nI k) v = mU M 52 k v := by rw [rPut_nI (by rw [c50_1, n50_1]; exact hk) (by rw [c50_1, n50_1]; omega), c50_1]
theorem c50_2 : gRf (gRf 50 2) 0 = 54 := by decide +kernel
theorem n50_2 : gN 54 = 10 := by decide +kernel
theorem x50_2 (M : Mem) {k : Nat} (hk : k < 10) : rAt M (gRf 50 2) (nI k) = M 54 k := by rw [rAt_nI (by rw [c50_2, n50_2]; exact hk) (by rw [c50_2, n50_2]; omega), c50_2]
theorem y50_2 (M : Mem) {k : Nat} (hk : k < 10) (v : Int32) : rPut M (gRf 50 2) (nI k) v = mU M 54 k v := by rw [rPut_nI (by rw [c50_2, n50_2]; exact hk) (by rw [c50_2, n50_2]; omega), c50_2]
theorem c50_3 : gRf (gRf 50 3) 0 = 56 := by decide +kernel
theorem n50_3 : gN 56 = 10 := by decide +kernel
theorem x50_3 (M : Mem) {k : Nat} (hk : k < 10) : rAt M (gRf 50 3) (nI k) = M 56 k := by rw [rAt_nI (by rw [c50_3, n50_3]; exact hk) (by rw [c50_3, n50_3]; omega), c50_3]
theorem y50_3 (M : Mem) {k : Nat} (hk : k < 10) (v : Int32) : rPut M (gRf 50 3) (nI k) v = mU M 56 k v := by rw [rPut_nI (by rw [c50_3, n50_3]; exact hk) (by rw [c50_3, n50_3]; omega), c50_3]
theorem RR.k18 {M : Mem} {R : Dk} (h : RR M 11 R) : M 29 0 = R 18 0 := h 18 0 (by unfold inR; omega)
theorem RR.k27 {M : Mem} {R : Dk} (h : RR M 11 R) : M 38 0 = R 27 0 := h 27 0 (by unfold inR; omega)
theorem RR.k34 {M : Mem} {R : Dk} (h : RR M 11 R) : M 45 0 = R 34 0 := h 34 0 (by unfold inR; omega)
theorem RR.k39 {M : Mem} {R : Dk} (h : RR M 11 R) : M 50 0 = R 39 0 := h 39 0 (by unfold inR; omega)
theorem RR.k20 {M : Mem} {R : Dk} (h : RR M 11 R) {k : Nat} (hk : k < 20) : M 31 k = R 20 k := h 20 k (by unfold inR; omega)
theorem RR.k22 {M : Mem} {R : Dk} (h : RR M 11 R) {k : Nat} (hk : k < 20) : M 33 k = R 22 k := h 22 k (by unfold inR; omega)
theorem RR.k24 {M : Mem} {R : Dk} (h : RR M 11 R) {k : Nat} (hk : k < 20) : M 35 k = R 24 k := h 24 k (by unfold inR; omega)
theorem RR.k26 {M : Mem} {R : Dk} (h : RR M 11 R) {k : Nat} (hk : k < 20) : M 37 k = R 26 k := h 26 k (by unfold inR; omega)
theorem RR.k29 {M : Mem} {R : Dk} (h : RR M 11 R) {k : Nat} (hk : k < 5) : M 40 k = R 29 k := h 29 k (by unfold inR; omega)
theorem RR.k31 {M : Mem} {R : Dk} (h : RR M 11 R) {k : Nat} (hk : k < 5) : M 42 k = R 31 k := h 31 k (by unfold inR; omega)
theorem RR.k33 {M : Mem} {R : Dk} (h : RR M 11 R) {k : Nat} (hk : k < 5) : M 44 k = R 33 k := h 33 k (by unfold inR; omega)
theorem RR.k36 {M : Mem} {R : Dk} (h : RR M 11 R) {k : Nat} (hk : k < 6) : M 47 k = R 36 k := h 36 k (by unfold inR; omega)
theorem RR.k38 {M : Mem} {R : Dk} (h : RR M 11 R) {k : Nat} (hk : k < 60) : M 49 k = R 38 k := h 38 k (by unfold inR; omega)
theorem RR.k41 {M : Mem} {R : Dk} (h : RR M 11 R) {k : Nat} (hk : k < 10) : M 52 k = R 41 k := h 41 k (by unfold inR; omega)
theorem RR.k43 {M : Mem} {R : Dk} (h : RR M 11 R) {k : Nat} (hk : k < 10) : M 54 k = R 43 k := h 43 k (by unfold inR; omega)
theorem RR.k45 {M : Mem} {R : Dk} (h : RR M 11 R) {k : Nat} (hk : k < 10) : M 56 k = R 45 k := h 45 k (by unfold inR; omega)
def sFilm (R : Dk) (c : Nat) (t p hh u : Int32) : Dk := mU (mU (mU (mU (mU R 20 c t) 22 c p) 24 c hh) 26 c u) 18 0 (nI (c + 1))
def sMend (R : Dk) (c : Nat) (x y z : Int32) : Dk := mU (mU (mU (mU R 29 c x) 31 c y) 33 c z) 27 0 (nI (c + 1))
def sBridge (R : Dk) (c : Nat) (x : Int32) : Dk := mU (fun o k => if o = 38 ∧ 10 * c ≤ k ∧ k < 10 * c + 10 then 0 else mU R 36 c x o k) 34 0 (nI (c + 1))
def sPaper (R : Dk) (c : Nat) (x y z : Int32) : Dk := mU (mU (mU (mU R 41 c x) 43 c y) 45 c z) 39 0 (nI (c + 1))
def sHours (R : Dk) (b : Nat) : Nat → Int32
  | 0 => 0
  | k + 1 => if nI k * 6 < R 36 b then sHours R b k else sHours R b k + R 38 (10 * b + k)
def sBit (x : Int32) (k : Nat) : Int32 := (x >>> (nI k &&& 31)) &&& 1
def sCost (R : Dk) (x : Int32) : Nat → Int32
  | 0 => 0
  | k + 1 => sCost R x k + sBit x k * R 33 k
def sLst (x : Int32) : Int32 := if x = 0 then 1 else 0
def sMst (x : Int32) : Int32 := if x = 7 then 9999 else if x = 9 then 999999 else 99
def sBnd (v lo hi : Int32) : Int32 := if lo < (if v < hi then v else hi) then (if v < hi then v else hi) else lo
/-- mend k of road R made on deck D -/
def sMake (R : Dk) (k : Nat) (D : Dk) : Dk := mU D 2 (R 29 k).toNatClampNeg (sBnd (D 2 (R 29 k).toNatClampNeg + R 31 k) (sLst (R 29 k)) (sMst (R 29 k)))
def sMakes (R : Dk) (x : Int32) (D : Dk) : Nat → Dk
  | 0 => D
  | k + 1 => if sBit x k = 1 then sMake R k (sMakes R x D k) else sMakes R x D k
def sPst (R : Dk) (day : Int32) (k : Nat) (b : Int32) : Int32 := if day < R 41 k then b else if R 45 k &&& (b ^^^ (-1)) = 0 then b ||| R 43 k else b
def sPass (R : Dk) (day : Int32) : Nat → Int32 → Int32
  | 0, b => b
  | k + 1, b => sPst R day k (sPass R day k b)
def sRnd (R : Dk) (day : Int32) (c : Nat) : Nat → Int32
  | 0 => 0
  | r + 1 => sPass R day c (sRnd R day c r)
/-- row k of the film is off: its tick, and farther than told from D -/
def sOffR (R D : Dk) (n : Nat) (t far : Int32) (k : Nat) : Bool := decide (R 20 k = t ∧ ¬ nI n ≤ R 22 k ∧ (far < sAbs (R 24 k - D 4 (R 22 k).toNatClampNeg) ∨ ¬ sAbs (R 26 k - D 6 (R 22 k).toNatClampNeg) ≤ far))
section ROAD
variable {M : Mem} {R D T : Dk} {n c : Nat} {a : Nat}
theorem r_film (h : RR M 11 R) (hc : R 18 0 = nI c) (hc2 : c ≤ 20) (t p hh u : Int32) : tot (f_X2_add M 29 t p hh u) (fun r M' => (if c < 20 then r = nI (c + 1) ∧ RR M' 11 (sFilm R c t p hh u) else r = (-1) ∧ M' = M) ∧ ∀ b, (b < 29 ∨ 38 ≤ b) → M' b = M b) := by
  unfold f_X2_add
  rw [h.k18, hc]
  by_cases hl : c < 20
  · rw [if_pos (show nI c < 20 from nI_lt (b := 20) hl (by omega))]
    simp only [q_put, Option.bind_some, y29_1 _ hl, y29_2 _ hl, y29_3 _ hl, y29_4 _ hl, mU_at, h.k18, hc, nI_1, show ¬ (29 : Nat) = 31 by decide, show ¬ (29 : Nat) = 33 by decide, show ¬ (29 : Nat) = 35 by decide, show ¬ (29 : Nat) = 37 by decide, false_and, if_false]
    refine tot.ret ⟨?_, fun b hb => ?_⟩
    · rw [if_pos hl]
      refine ⟨by simp [mU_at], ?_⟩
      exact (((((h.put 20 c t).put 22 c p).put 24 c hh).put 26 c u).put 18 0 (nI (c + 1)))
    · rw [u_ne (by omega), u_ne (by omega), u_ne (by omega), u_ne (by omega), u_ne (by omega)]
  · rw [if_neg (show ¬ nI c < 20 from nI_nlt (b := 20) (by omega) (by omega))]
    refine tot.ret ⟨?_, fun b _ => rfl⟩
    rw [if_neg hl]
    exact ⟨rfl, rfl⟩
theorem r_mend (h : RR M 11 R) (hc : R 27 0 = nI c) (hc2 : c ≤ 5) (x y z : Int32) : tot (f_X4_add M 38 x y z) (fun r M' => (if c < 5 then r = nI c ∧ RR M' 11 (sMend R c x y z) else r = (-1) ∧ M' = M) ∧ ∀ b, (b < 38 ∨ 45 ≤ b) → M' b = M b) := by
  unfold f_X4_add
  rw [h.k27, hc]
  by_cases hl : c < 5
  · rw [if_pos (show nI c < 5 from nI_lt (b := 5) hl (by omega))]
    simp only [q_put, Option.bind_some, y38_1 _ hl, y38_2 _ hl, y38_3 _ hl, mU_at, h.k27, hc, nI_1, show ¬ (38 : Nat) = 40 by decide, show ¬ (38 : Nat) = 42 by decide, show ¬ (38 : Nat) = 44 by decide, false_and, if_false]
    refine tot.ret ⟨?_, fun b hb => ?_⟩
    · rw [if_pos hl]
      refine ⟨by simp [nI_pred], ?_⟩
      exact ((((h.put 29 c x).put 31 c y).put 33 c z).put 27 0 (nI (c + 1)))
    · rw [u_ne (by omega), u_ne (by omega), u_ne (by omega), u_ne (by omega)]
  · rw [if_neg (show ¬ nI c < 5 from nI_nlt (b := 5) (by omega) (by omega))]
    refine tot.ret ⟨?_, fun b _ => rfl⟩
    rw [if_neg hl]
    exact ⟨rfl, rfl⟩
theorem r_paper (h : RR M 11 R) (hc : R 39 0 = nI c) (hc2 : c ≤ 10) (x y z : Int32) : tot (f_X5_add M 50 x y z) (fun r M' => (if c < 10 then r = nI (c + 1) ∧ RR M' 11 (sPaper R c x y z) else r = (-1) ∧ M' = M) ∧ ∀ b, (b < 50 ∨ 57 ≤ b) → M' b = M b) := by
  unfold f_X5_add
  rw [h.k39, hc]
  by_cases hl : c < 10
  · rw [if_pos (show nI c < 10 from nI_lt (b := 10) hl (by omega))]
    simp only [q_put, Option.bind_some, y50_1 _ hl, y50_2 _ hl, y50_3 _ hl, mU_at, h.k39, hc, nI_1, show ¬ (50 : Nat) = 52 by decide, show ¬ (50 : Nat) = 54 by decide, show ¬ (50 : Nat) = 56 by decide, false_and, if_false]
    refine tot.ret ⟨?_, fun b hb => ?_⟩
    · rw [if_pos hl]
      refine ⟨by simp, ?_⟩
      exact ((((h.put 41 c x).put 43 c y).put 45 c z).put 39 0 (nI (c + 1)))
    · rw [u_ne (by omega), u_ne (by omega), u_ne (by omega), u_ne (by omega)]
  · rw [if_neg (show ¬ nI c < 10 from nI_nlt (b := 10) (by omega) (by omega))]
    refine tot.ret ⟨?_, fun b _ => rfl⟩
    rw [if_neg hl]
    exact ⟨rfl, rfl⟩
theorem i_mul (a b : Nat) : nI a * nI b = nI (a * b) := (Int32.ofNat_mul a b).symm
theorem i_10k (b k : Nat) : nI b * 10 + nI k = nI (10 * b + k) := by
  rw [show (10 : Int32) = nI 10 from rfl, i_mul, nI_add, Nat.mul_comm]
theorem r_bridge (h : RR M 11 R) (hc : R 34 0 = nI c) (hc2 : c ≤ 6) (x : Int32) : tot (f_X0_add M 45 x) (fun r M' => (if c < 6 then r = nI c ∧ RR M' 11 (sBridge R c x) else r = (-1) ∧ M' = M) ∧ ∀ b, (b < 45 ∨ 50 ≤ b) → M' b = M b) := by
  unfold f_X0_add
  rw [h.k34, hc]
  by_cases hl : c < 6
  · rw [if_pos (show nI c < 6 from nI_lt (b := 6) hl (by omega)), q_put, Option.bind_some, y45_1 _ hl]
    refine tot.loopFU (σ := Int32 × Mem) (fun m s => f_X0_add_h25 45 x m s.1 s.2) 10 (fun k s => s.1 = nI k ∧ RR s.2 11 (fun o j => if o = 38 ∧ 10 * c ≤ j ∧ j < 10 * c + k then 0 else mU R 36 c x o j) ∧ ∀ b, (b < 45 ∨ 50 ≤ b) → s.2 b = M b) _ (by omega) (0, mU M 47 c x) ⟨rfl, (h.put 36 c x).cg (fun o j _ => by rw [if_neg (by omega)]), fun b hb => u_ne (by omega)⟩ ?_ ?_
    · rintro m k ⟨y, M2⟩ hk ⟨hy, hR2, hf⟩ hnext
      dsimp only at hy hR2 hf
      subst hy
      show tot (f_X0_add_h25 45 x (m + 1) (nI k) M2) _
      have h34 : M2 45 0 = nI c := (hR2.k34).trans (by simp [mU_at, hc])
      rw [f_X0_add_h25, if_neg (show ¬ (10 : Int32) ≤ nI k from i_nle (b := 10) hk (by omega)), h34, i_10k, q_put, Option.bind_some, y45_2 _ (k := 10 * c + k) (by omega), nI_1]
      refine hnext (nI (k + 1), _) ⟨rfl, (hR2.put 38 (10 * c + k) 0).cg (fun o j _ => ?_), fun b hb => ?_⟩
      · rw [mU_at]
        by_cases hz : o = 38 ∧ j = 10 * c + k
        · rw [if_pos hz, if_pos (by omega)]
        · rw [if_neg hz]
          by_cases hz2 : o = 38 ∧ 10 * c ≤ j ∧ j < 10 * c + k
          · rw [if_pos hz2, if_pos (by omega)]
          · rw [if_neg hz2, if_neg (by omega)]
      · show mU M2 49 _ _ b = M b
        rw [u_ne (by omega)]
        exact hf b hb
    · rintro m ⟨y, M2⟩ ⟨hy, hR2, hf⟩
      dsimp only at hy hR2 hf
      subst hy
      show tot (f_X0_add_h25 45 x (m + 1) (nI 10) M2) _
      have h34 : M2 45 0 = nI c := (hR2.k34).trans (by simp [mU_at, hc])
      rw [f_X0_add_h25, if_pos (show (10 : Int32) ≤ nI 10 by decide), h34, nI_1]
      refine tot.ret ⟨?_, fun b hb => ?_⟩
      · rw [if_pos hl]
        refine ⟨by simp [mU_at, nI_pred], ?_⟩
        exact hR2.put 34 0 (nI (c + 1))
      · rw [u_ne (by omega)]
        exact hf b hb
  · rw [if_neg (show ¬ nI c < 6 from nI_nlt (b := 6) (by omega) (by omega))]
    refine tot.ret ⟨?_, fun b _ => rfl⟩
    rw [if_neg hl]
    exact ⟨rfl, rfl⟩
theorem r_blows (h : RR M 11 R) {b k : Nat} (hb : b < 6) (hk : k < 10) (v : Int32) : f_X0_change M 45 (nI b) (nI k) v = some (R 38 (10 * b + k), mU M 49 (10 * b + k) v) := by
  unfold f_X0_change
  simp only [q_at, q_put, Option.bind_some, i_10k, x45_2 _ (show 10 * b + k < 60 by omega), y45_2 _ (show 10 * b + k < 60 by omega), h.k38 (show 10 * b + k < 60 by omega)]
theorem r_hours (h : RR M 11 R) {b : Nat} (hb : b < 6) : f_X0_hoursOf M 45 (nI b) = some (sHours R b 10, M) := by
  unfold f_X0_hoursOf
  refine eq_loopFU (σ := Int32 × Int32) (fun m s => f_X0_hoursOf_h4 45 (nI b) m s.1 s.2 M) 10 (fun k => (sHours R b k, nI k)) (some (sHours R b 10, M)) (by omega) (fun m k hk => ?_) (fun m => ?_)
  · show f_X0_hoursOf_h4 45 (nI b) (m + 1) (sHours R b k) (nI k) M = f_X0_hoursOf_h4 45 (nI b) m (sHours R b (k + 1)) (nI (k + 1)) M
    rw [f_X0_hoursOf_h4, if_neg (show ¬ (10 : Int32) ≤ nI k from i_nle (b := 10) hk (by omega)), q_at, Option.bind_some, x45_1 _ hb, h.k36 hb]
    show (if nI k * 6 < R 36 b then _ else _) = f_X0_hoursOf_h4 45 (nI b) m (if nI k * 6 < R 36 b then sHours R b k else sHours R b k + R 38 (10 * b + k)) (nI (k + 1)) M
    unfold f_X0_hoursOf_b41
    rw [nI_1]
    by_cases hz : nI k * 6 < R 36 b
    · rw [if_pos hz, if_pos hz]
    · rw [if_neg hz, if_neg hz, q_at, Option.bind_some, i_10k, x45_2 _ (by omega), h.k38 (by omega)]
  · show f_X0_hoursOf_h4 45 (nI b) (m + 1) (sHours R b 10) (nI 10) M = _
    rw [f_X0_hoursOf_h4, if_pos (show (10 : Int32) ≤ nI 10 by decide)]
theorem r_cost (h : RR M 11 R) (hc : R 27 0 = nI c) (hc2 : c ≤ 5) (x : Int32) : f_X4_costOf M 38 x = some (sCost R x c, M) := by
  unfold f_X4_costOf
  refine eq_loopFU (σ := Int32 × Int32) (fun m s => f_X4_costOf_h4 38 x m s.1 s.2 M) c (fun k => (sCost R x k, nI k)) (some (sCost R x c, M)) (by omega) (fun m k hk => ?_) (fun m => ?_)
  · show f_X4_costOf_h4 38 x (m + 1) (sCost R x k) (nI k) M = f_X4_costOf_h4 38 x m (sCost R x k + sBit x k * R 33 k) (nI (k + 1)) M
    rw [f_X4_costOf_h4, h.k27, hc, if_neg (i_nle hk (by omega)), if_neg (show ¬ (5 : Int32) ≤ nI k from i_nle (b := 5) (by omega) (by omega)), q_at, Option.bind_some, x38_3 _ (k := k) (by omega), h.k33 (by omega), nI_1]
    rfl
  · show f_X4_costOf_h4 38 x (m + 1) (sCost R x c) (nI c) M = _
    rw [f_X4_costOf_h4, h.k27, hc, if_pos (i_le (Nat.le_refl _) (by omega))]
theorem r_lo : ∀ k, k < 10 → nbL k = sLst (nI k) := by decide +kernel
theorem r_hi : ∀ k, k < 10 → nbM k = sMst (nI k) := by decide +kernel
theorem q_lo (M : Mem) {k : Nat} (hk : k < 10) : f_X10_leastOf M (nI k) = some (sLst (nI k), M) := by
  unfold f_X10_leastOf
  rw [if_neg (i_lt0 (by omega)), if_neg (show ¬ (10 : Int32) ≤ nI k from i_nle (b := 10) hk (by omega)), if_pos (i_in hk (by omega)), i_cl (by omega), r_lo k hk]
theorem q_hi (M : Mem) {k : Nat} (hk : k < 10) : f_X10_mostOf M (nI k) = some (sMst (nI k), M) := by
  unfold f_X10_mostOf
  rw [if_neg (i_lt0 (by omega)), if_neg (show ¬ (10 : Int32) ≤ nI k from i_nle (b := 10) hk (by omega)), if_pos (i_in hk (by omega)), i_cl (by omega), r_hi k hk]
theorem r_change (hs : DkS a) (hD : RD M a D) {k : Nat} (hk : k < 10) (v : Int32) : f_X1_change M a (nI k) v = some (0, mU M (a + 2) k (sBnd (D 2 k + v) (sLst (nI k)) (sMst (nI k)))) := by
  unfold f_X1_change f_X10_bounded
  simp only [q_at, q_put, Option.bind_some, hD.a2 hs hk, q_lo _ hk, q_hi _ hk, hs.w2 _ hk]
  rfl
theorem r_make (hs : DkS a) (h : RR M 11 R) (hD : RD M a D) {k q : Nat} (hk : k < 5) (hq : R 29 k = nI q) (hq2 : q < 10) : ∃ M', f_X4_make M 38 (nI k) a = some (0, M') ∧ RD M' a (sMake R k D) ∧ ∀ b, (b < a ∨ a + 17 ≤ b) → M' b = M b := by
  refine ⟨_, by
    unfold f_X4_make
    simp only [q_at, Option.bind_some, x38_1 _ hk, x38_2 _ hk, h.k29 hk, h.k31 hk]
    rw [hq, r_change hs hD hq2, Option.bind_some], ?_, fun b hb => u_ne (by omega)⟩
  have e := hD.put 2 q (sBnd (D 2 q + R 31 k) (sLst (nI q)) (sMst (nI q)))
  unfold sMake
  rw [hq, i_cl (by omega)]
  exact e
theorem r_makes (hs : DkS a) (ha : a = 58 ∨ a = 75) (h : RR M 11 R) (hD : RD M a D) (hc : R 27 0 = nI c) (hc2 : c ≤ 5) (hq : ∀ k, k < c → ∃ q, q < 10 ∧ R 29 k = nI q) (x : Int32) : tot (f_X4_makeAll M 38 x a) (fun _ M' => RD M' a (sMakes R x D c) ∧ ∀ b, (b < a ∨ a + 17 ≤ b) → M' b = M b) := by
  unfold f_X4_makeAll
  refine tot.loopFU (σ := Int32 × Mem) (fun m s => f_X4_makeAll_h2 38 x a m s.1 s.2) c (fun k s => s.1 = nI k ∧ RD s.2 a (sMakes R x D k) ∧ ∀ b, (b < a ∨ a + 17 ≤ b) → s.2 b = M b) _ (by omega) (0, M) ⟨rfl, hD, fun _ _ => rfl⟩ ?_ ?_
  · rintro m k ⟨y, M2⟩ hk ⟨hy, hD2, hf⟩ hnext
    dsimp only at hy hD2 hf
    subst hy
    show tot (f_X4_makeAll_h2 38 x a (m + 1) (nI k) M2) _
    have h' : RR M2 11 R := h.fr (fun b h1 h2 => hf b (by omega))
    rw [f_X4_makeAll_h2, h'.k27, hc, if_neg (i_nle hk (by omega)), if_neg (show ¬ (5 : Int32) ≤ nI k from i_nle (b := 5) (by omega) (by omega))]
    unfold f_X4_makeAll_b30
    rw [nI_1]
    show tot (if sBit x k = 1 then _ else _) _
    by_cases hz : sBit x k = 1
    · obtain ⟨q, hq1, hq2⟩ := hq k hk
      obtain ⟨M3, e3, hD3, hf3⟩ := r_make hs h' hD2 (k := k) (by omega) hq2 hq1
      rw [if_pos hz, e3, Option.bind_some]
      refine hnext (nI (k + 1), M3) ⟨rfl, ?_, fun b hb => (hf3 b hb).trans (hf b hb)⟩
      unfold sMakes
      rw [if_pos hz]
      exact hD3
    · rw [if_neg hz]
      refine hnext (nI (k + 1), M2) ⟨rfl, ?_, hf⟩
      unfold sMakes
      rw [if_neg hz]
      exact hD2
  · rintro m ⟨y, M2⟩ ⟨hy, hD2, hf⟩
    dsimp only at hy hD2 hf
    subst hy
    show tot (f_X4_makeAll_h2 38 x a (m + 1) (nI c) M2) _
    have h' : RR M2 11 R := h.fr (fun b h1 h2 => hf b (by omega))
    rw [f_X4_makeAll_h2, h'.k27, hc, if_pos (i_le (Nat.le_refl _) (by omega))]
    exact tot.ret ⟨hD2, hf⟩
theorem r_pass (h : RR M 11 R) (hc : R 39 0 = nI c) (hc2 : c ≤ 10) (day : Int32) (k4 : Int32 → Int32 → Mem → Option (Int32 × Mem)) (b x : Int32) : f_X5_knownOn_h21 50 day k4 FU b x 0 M = k4 (sPass R day c b) (x + 1) M := by
  refine eq_loopFU (σ := Int32 × Int32) (fun m s => f_X5_knownOn_h21 50 day k4 m s.1 x s.2 M) c (fun k => (sPass R day k b, nI k)) (k4 (sPass R day c b) (x + 1) M) (by omega) (fun m k hk => ?_) (fun m => ?_)
  · show f_X5_knownOn_h21 50 day k4 (m + 1) (sPass R day k b) x (nI k) M = f_X5_knownOn_h21 50 day k4 m (sPst R day k (sPass R day k b)) x (nI (k + 1)) M
    rw [f_X5_knownOn_h21, h.k39, hc, if_neg (i_nle hk (by omega)), if_neg (show ¬ (10 : Int32) ≤ nI k from i_nle (b := 10) (by omega) (by omega)), q_at, Option.bind_some, x50_1 _ (k := k) (by omega), h.k41 (by omega)]
    unfold f_X5_knownOn_b78 sPst
    rw [nI_1]
    show (if day < R 41 k then _ else _) = _
    by_cases hz : day < R 41 k
    · rw [if_pos hz, if_pos hz]
    · rw [if_neg hz, if_neg hz, q_at, Option.bind_some, x50_3 _ (k := k) (by omega), h.k45 (by omega)]
      show (if R 45 k &&& (sPass R day k b ^^^ (-1)) = 0 then _ else _) = _
      by_cases hz : R 45 k &&& (sPass R day k b ^^^ (-1)) = 0
      · rw [if_pos hz, if_pos hz, q_at, Option.bind_some, x50_2 _ (k := k) (by omega), h.k43 (by omega)]
      · rw [if_neg hz, if_neg hz]
  · show f_X5_knownOn_h21 50 day k4 (m + 1) (sPass R day c b) x (nI c) M = _
    rw [f_X5_knownOn_h21, h.k39, hc, if_pos (i_le (Nat.le_refl _) (by omega))]
    rfl
theorem r_known (h : RR M 11 R) (hc : R 39 0 = nI c) (hc2 : c ≤ 10) (day : Int32) : f_X5_knownOn M 50 day = some (sRnd R day c c, M) := by
  unfold f_X5_knownOn
  refine eq_loopFU (σ := Int32 × Int32) (fun m s => f_X5_knownOn_h4 50 day m s.1 s.2 M) c (fun k => (sRnd R day c k, nI k)) (some (sRnd R day c c, M)) (by omega) (fun m k hk => ?_) (fun m => ?_)
  · show f_X5_knownOn_h4 50 day (m + 1) (sRnd R day c k) (nI k) M = f_X5_knownOn_h4 50 day m (sPass R day c (sRnd R day c k)) (nI (k + 1)) M
    rw [f_X5_knownOn_h4, h.k39, hc, if_neg (i_nle hk (by omega)), if_neg (show ¬ (10 : Int32) ≤ nI k from i_nle (b := 10) (by omega) (by omega)), r_pass h hc hc2, nI_1]
  · show f_X5_knownOn_h4 50 day (m + 1) (sRnd R day c c) (nI c) M = _
    rw [f_X5_knownOn_h4, h.k39, hc, if_pos (i_le (Nat.le_refl _) (by omega))]
/-- what firstDayOf comes to -/
def sDay (R : Dk) (x : Int32) (c : Nat) : Nat → Int32
  | 0 => (-1)
  | k + 1 => if (sDay R x c k = (-1) ∨ R 41 k < sDay R x c k) ∧ x &&& (sRnd R (R 41 k) c c ^^^ (-1)) = 0 then R 41 k else sDay R x c k
def sCould (R : Dk) (x : Int32) (c : Nat) : Int32 := if x &&& (sRnd R 0 c c ^^^ (-1)) = 0 then 0 else sDay R x c c
theorem r_could (h : RR M 11 R) (hc : R 39 0 = nI c) (hc2 : c ≤ 10) (x : Int32) : f_X5_firstDayOf M 50 x = some (sCould R x c, M) := by
  unfold f_X5_firstDayOf sCould
  rw [r_known h hc hc2, Option.bind_some]
  show (if x &&& (sRnd R 0 c c ^^^ (-1)) = 0 then _ else _) = _
  by_cases hz : x &&& (sRnd R 0 c c ^^^ (-1)) = 0
  · rw [if_pos hz, if_pos hz]
  · rw [if_neg hz, if_neg hz]
    refine eq_loopFU (σ := Int32 × Int32) (fun m s => f_X5_firstDayOf_h18 50 x m s.1 s.2 M) c (fun k => (sDay R x c k, nI k)) (some (sDay R x c c, M)) (by omega) (fun m k hk => ?_) (fun m => ?_)
    · show f_X5_firstDayOf_h18 50 x (m + 1) (sDay R x c k) (nI k) M = f_X5_firstDayOf_h18 50 x m (if (sDay R x c k = (-1) ∨ R 41 k < sDay R x c k) ∧ x &&& (sRnd R (R 41 k) c c ^^^ (-1)) = 0 then R 41 k else sDay R x c k) (nI (k + 1)) M
      have hb : f_X5_firstDayOf_b53 50 x (f_X5_firstDayOf_h18 50 x m) (sDay R x c k) (nI k) (R 41 k) M = f_X5_firstDayOf_h18 50 x m (if x &&& (sRnd R (R 41 k) c c ^^^ (-1)) = 0 then R 41 k else sDay R x c k) (nI (k + 1)) M := by
        unfold f_X5_firstDayOf_b53 f_X5_firstDayOf_b69
        rw [r_known h hc hc2, Option.bind_some, nI_1]
        show (if x &&& (sRnd R (R 41 k) c c ^^^ (-1)) = 0 then _ else _) = _
        split <;> rfl
      rw [f_X5_firstDayOf_h18, h.k39, hc, if_neg (i_nle hk (by omega)), if_neg (show ¬ (10 : Int32) ≤ nI k from i_nle (b := 10) (by omega) (by omega)), q_at, Option.bind_some, x50_1 _ (k := k) (by omega), h.k41 (by omega)]
      show (if sDay R x c k = (-1) then _ else _) = _
      by_cases h1 : sDay R x c k = (-1)
      · rw [if_pos h1, hb]
        simp only [h1, true_or, true_and]
      · rw [if_neg h1]
        by_cases h2 : sDay R x c k ≤ R 41 k
        · rw [if_pos h2, if_neg (fun z => z.1.elim h1 (fun q => Int32.not_lt.mpr h2 q))]
          unfold f_X5_firstDayOf_b69
          rw [nI_1]
        · rw [if_neg h2, hb]
          have h3 := Int32.not_le.mp h2
          simp only [h3, or_true, true_and]
    · show f_X5_firstDayOf_h18 50 x (m + 1) (sDay R x c c) (nI c) M = _
      rw [f_X5_firstDayOf_h18, h.k39, hc, if_pos (i_le (Nat.le_refl _) (by omega))]
theorem r_off (hs : DkS a) (h : RR M 11 R) (hD : RD M a D) (hn : D 0 0 = nI n) (h8 : n ≤ 8) (hc : R 18 0 = nI c) (hc2 : c ≤ 20) (hp : ∀ k, k < c → ∃ q, q < 8 ∧ R 22 k = nI q) (t far : Int32) : f_X2_firstRowOff M 29 t a far = some (fFst (sOffR R D n t far) c 0, M) := by
  unfold f_X2_firstRowOff
  have key : ∀ d k, k + d = c → ∀ m, d < m → f_X2_firstRowOff_h3 29 t a far m (nI k) M = some (fFst (sOffR R D n t far) d k, M) := by
    intro d
    induction d with
    | zero =>
      intro k hk m hm
      obtain ⟨m, rfl⟩ : ∃ q, m = q + 1 := ⟨m - 1, by omega⟩
      rw [f_X2_firstRowOff_h3, h.k18, hc, if_pos (i_le (by omega) (by omega))]
      rfl
    | succ d ih =>
      intro k hk m hm
      obtain ⟨m, rfl⟩ : ∃ q, m = q + 1 := ⟨m - 1, by omega⟩
      obtain ⟨q, hq, hp⟩ := hp k (by omega)
      have hi := ih (k + 1) (by omega) m (by omega)
      rw [f_X2_firstRowOff_h3, h.k18, hc, if_neg (i_nle (by omega) (by omega)), if_neg (show ¬ (20 : Int32) ≤ nI k from i_nle (b := 20) (by omega) (by omega)), q_at, Option.bind_some, x29_2 _ (k := k) (by omega), h.k22 (by omega), hp]
      show ((f_X8_at M (gRf 29 1) (nI k)).bind _) = _
      rw [q_at, Option.bind_some, x29_1 _ (k := k) (by omega), h.k20 (by omega)]
      unfold f_X2_firstRowOff_b115
      rw [nI_1]
      show (if R 20 k = t then _ else f_X2_firstRowOff_h3 29 t a far m (nI (k + 1)) M) = _
      rw [hi, show fFst (sOffR R D n t far) (d + 1) k = (if sOffR R D n t far k = true then nI k else fFst (sOffR R D n t far) d (k + 1)) from rfl]
      have hsame : ∀ b : Bool, b = sOffR R D n t far k → (if sOffR R D n t far k = true then nI k else fFst (sOffR R D n t far) d (k + 1)) = if b = true then nI k else fFst (sOffR R D n t far) d (k + 1) := fun b hb => by rw [hb]
      by_cases h1 : R 20 k = t
      · rw [if_pos h1, hD.p, hn]
        by_cases h2 : nI n ≤ nI q
        · rw [if_pos h2, hsame false (by unfold sOffR; rw [hp]; simp [h2]), if_neg (by decide)]
        · rw [if_neg h2, q_at, Option.bind_some, x29_3 _ (k := k) (by omega), h.k24 (by omega)]
          show ((f_X8_at M (gRf a 3) (nI q)).bind _) = _
          rw [q_at, Option.bind_some, hD.a3 hs hq]
          show ((f_X8_at M (gRf 29 4) (nI k)).bind _) = _
          rw [q_at, Option.bind_some, x29_4 _ (k := k) (by omega), h.k26 (by omega)]
          show ((f_X8_at M (gRf a 4) (nI q)).bind _) = _
          rw [q_at, Option.bind_some, hD.a4 hs hq]
          show (if far < sAbs (R 24 k - D 4 q) then _ else if sAbs (R 26 k - D 6 q) ≤ far then _ else _) = _
          by_cases h3 : far < sAbs (R 24 k - D 4 q)
          · rw [if_pos h3, hsame true (by unfold sOffR; rw [hp, i_cl (by omega)]; simp [h1, h2, h3]), if_pos (by rfl)]
          · rw [if_neg h3]
            by_cases h4 : sAbs (R 26 k - D 6 q) ≤ far
            · rw [if_pos h4, hi, hsame false (by unfold sOffR; rw [hp, i_cl (by omega)]; simp [h3, h4]), if_neg (by decide)]
            · rw [if_neg h4, hsame true (by unfold sOffR; rw [hp, i_cl (by omega)]; simp [h1, h2, h4]), if_pos (by rfl)]
      · rw [if_neg h1, hsame false (by unfold sOffR; simp [h1]), if_neg (by decide)]
  exact key c 0 (by omega) FU (by unfold FU; omega)
end ROAD
