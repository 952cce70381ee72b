/-! What is known: as many rounds as papers, or ten, come to the same; the days of papers are enough. -/
theorem sub_iff (a b : Int32) : a &&& (b ^^^ (-1)) = 0 ↔ a ||| b = b := by
  have e : ∀ i, i < 32 → (a &&& (b ^^^ (-1))).toBitVec.getLsbD i = (a.toBitVec.getLsbD i && !(b.toBitVec.getLsbD i)) := fun i hi => by
    rw [Int32.toBitVec_and, Int32.toBitVec_xor, show (-1 : Int32).toBitVec = BitVec.allOnes 32 by decide, BitVec.getLsbD_and, BitVec.getLsbD_xor, BitVec.getLsbD_allOnes]
    simp [hi]
  constructor
  · intro h
    apply Int32.toBitVec_inj.mp
    apply BitVec.eq_of_getLsbD_eq
    intro i hi
    have h1 := e i hi
    rw [h, show (0 : Int32).toBitVec = 0#32 by decide, BitVec.getLsbD_zero] at h1
    rw [Int32.toBitVec_or, BitVec.getLsbD_or]
    cases ha : a.toBitVec.getLsbD i with
    | false => rfl
    | true =>
      rw [ha] at h1
      cases hb : b.toBitVec.getLsbD i with
      | false => rw [hb] at h1; cases h1
      | true => rfl
  · intro h
    apply Int32.toBitVec_inj.mp
    apply BitVec.eq_of_getLsbD_eq
    intro i hi
    rw [e i hi, show (0 : Int32).toBitVec = 0#32 by decide, BitVec.getLsbD_zero]
    have h1 := congrArg (fun x : Int32 => x.toBitVec.getLsbD i) h
    simp only [Int32.toBitVec_or, BitVec.getLsbD_or] at h1
    cases ha : a.toBitVec.getLsbD i with
    | false => rfl
    | true =>
      rw [ha] at h1
      rw [← h1]; rfl
def bLe (a b : Int32) : Prop := a ||| b = b
theorem bLe.rf (a : Int32) : bLe a a := Int32.or_self
theorem bLe.tr {a b c : Int32} (h : bLe a b) (h' : bLe b c) : bLe a c := by
  unfold bLe at *
  rw [← h', ← Int32.or_assoc, h]
theorem bLe.l (a b : Int32) : bLe a (a ||| b) := by
  unfold bLe
  rw [← Int32.or_assoc, Int32.or_self]
theorem bLe.r (a b : Int32) : bLe b (a ||| b) := by
  rw [Int32.or_comm]
  exact bLe.l b a
section ROUNDS
variable {R : Dk} {day : Int32}
/-- paper k can be read by one who knows b -/
def pRd (R : Dk) (day : Int32) (b : Int32) (k : Nat) : Bool := decide (¬ day < R 41 k ∧ R 45 k &&& (b ^^^ (-1)) = 0)
theorem pRd_m {b b' : Int32} (h : bLe b b') {k : Nat} (hr : pRd R day b k = true) : pRd R day b' k = true := by
  unfold pRd at *
  have := of_decide_eq_true hr
  refine decide_eq_true ⟨this.1, ?_⟩
  exact (sub_iff _ _).mpr (bLe.tr ((sub_iff _ _).mp this.2) h)
theorem pst_rd (k : Nat) (b : Int32) : sPst R day k b = if pRd R day b k = true then b ||| R 43 k else b := by
  unfold sPst pRd
  by_cases h1 : day < R 41 k
  · rw [if_pos h1, if_neg]
    intro z
    exact (of_decide_eq_true z).1 h1
  · rw [if_neg h1]
    by_cases h2 : R 45 k &&& (b ^^^ (-1)) = 0
    · rw [if_pos h2, if_pos (decide_eq_true ⟨h1, h2⟩)]
    · rw [if_neg h2, if_neg]
      intro z
      exact h2 (of_decide_eq_true z).2
theorem pass_le (c : Nat) (b : Int32) : bLe b (sPass R day c b) := by
  induction c with
  | zero => exact bLe.rf b
  | succ c ih =>
    unfold sPass
    rw [pst_rd]
    split
    · exact ih.tr (bLe.l _ _)
    · exact ih
theorem pass_in {c : Nat} {b : Int32} {k : Nat} (hk : k < c) (hr : pRd R day b k = true) : bLe (R 43 k) (sPass R day c b) := by
  induction c with
  | zero => omega
  | succ c ih =>
    unfold sPass
    rw [pst_rd]
    by_cases hz : k = c
    · subst hz
      rw [if_pos (pRd_m (pass_le k b) hr)]
      exact bLe.r _ _
    · split
      · exact (ih (by omega)).tr (bLe.l _ _)
      · exact ih (by omega)
theorem pass_fix {c : Nat} {b : Int32} (h : ∀ k, k < c → pRd R day b k = true → bLe (R 43 k) b) : sPass R day c b = b := by
  induction c with
  | zero => rfl
  | succ c ih =>
    unfold sPass
    rw [ih (fun k hk => h k (by omega)), pst_rd]
    split
    · rename_i hz
      have := h c (by omega) hz
      unfold bLe at this
      rw [Int32.or_comm]
      exact this
    · rfl
def cntN (p : Nat → Bool) : Nat → Nat
  | 0 => 0
  | n + 1 => cntN p n + (if p n = true then 1 else 0)
theorem cntN_le (p : Nat → Bool) (n : Nat) : cntN p n ≤ n := by
  induction n with
  | zero => exact Nat.le_refl 0
  | succ n ih =>
    unfold cntN
    split <;> omega
theorem cntN_m {p q : Nat → Bool} (n : Nat) (h : ∀ k, k < n → p k = true → q k = true) : cntN p n ≤ cntN q n ∧ (cntN p n = cntN q n → ∀ k, k < n → q k = true → p k = true) := by
  induction n with
  | zero => exact ⟨Nat.le_refl 0, fun _ k hk => by omega⟩
  | succ n ih =>
    obtain ⟨h1, h2⟩ := ih (fun k hk => h k (by omega))
    unfold cntN
    cases hp : p n with
    | true =>
      have hq := h n (by omega) hp
      rw [hq, if_pos rfl]
      refine ⟨by omega, fun e k hk hqk => ?_⟩
      by_cases hz : k = n
      · rw [hz]; exact hp
      · exact h2 (by omega) k (by omega) hqk
    | false =>
      rw [if_neg (by decide)]
      cases hq : q n with
      | true => exact ⟨by rw [if_pos rfl]; omega, fun e => by rw [if_pos rfl] at e; omega⟩
      | false =>
        rw [if_neg (by decide)]
        refine ⟨by omega, fun e k hk hqk => ?_⟩
        by_cases hz : k = n
        · rw [hz, hq] at hqk; cases hqk
        · exact h2 (by omega) k (by omega) hqk
theorem cntN_0 {p : Nat → Bool} {n : Nat} (h : cntN p n = 0) : ∀ k, k < n → p k = false := by
  induction n with
  | zero => exact fun k hk => by omega
  | succ n ih =>
    unfold cntN at h
    intro k hk
    by_cases hz : k = n
    · rw [hz]
      cases hp : p n with
      | false => rfl
      | true => rw [hp, if_pos rfl] at h; omega
    · exact ih (by omega) k (by omega)
theorem rnd_s (c r : Nat) : sRnd R day c (r + 1) = sPass R day c (sRnd R day c r) := rfl
theorem rnd_cnt (c r : Nat) : sRnd R day c (r + 1) = sRnd R day c r ∨ r + 1 ≤ cntN (pRd R day (sRnd R day c r)) c := by
  induction r with
  | zero =>
    by_cases hz : cntN (pRd R day (sRnd R day c 0)) c = 0
    · left
      rw [rnd_s]
      exact pass_fix (fun k hk hr => by rw [cntN_0 hz k hk] at hr; cases hr)
    · right; omega
  | succ r ih =>
    rcases ih with h | h
    · left
      rw [rnd_s, h]
      rw [rnd_s] at h
      exact h
    · have hle : bLe (sRnd R day c r) (sRnd R day c (r + 1)) := pass_le c _
      obtain ⟨h1, h2⟩ := cntN_m (p := pRd R day (sRnd R day c r)) (q := pRd R day (sRnd R day c (r + 1))) c (fun k _ => pRd_m hle)
      by_cases hz : cntN (pRd R day (sRnd R day c r)) c = cntN (pRd R day (sRnd R day c (r + 1))) c
      · left
        rw [rnd_s c (r + 1)]
        exact pass_fix (fun k hk hr => pass_in hk (h2 hz k hk hr))
      · right; omega
theorem rnd_c {c : Nat} (d : Nat) : sRnd R day c (c + d) = sRnd R day c c := by
  have hfix : sPass R day c (sRnd R day c c) = sRnd R day c c := by
    rcases rnd_cnt (R := R) (day := day) c c with h | h
    · exact h
    · have := cntN_le (pRd R day (sRnd R day c c)) c
      omega
  induction d with
  | zero => rfl
  | succ d ih =>
    show sPass R day c (sRnd R day c (c + d)) = _
    rw [ih, hfix]
theorem rnd_10 {c : Nat} (hc : c ≤ 10) : sRnd R day c 10 = sRnd R day c c := by
  have := rnd_c (R := R) (day := day) (c := c) (10 - c)
  rw [show c + (10 - c) = 10 by omega] at this
  exact this
/-- days between which no paper comes are alike -/
theorem rnd_cg {c : Nat} {d1 d2 : Int32} (h : ∀ k, k < c → (d1 < R 41 k ↔ d2 < R 41 k)) (r : Nat) : sRnd R d1 c r = sRnd R d2 c r := by
  have hp : ∀ n, n ≤ c → ∀ b, sPass R d1 n b = sPass R d2 n b := by
    intro n
    induction n with
    | zero => exact fun _ _ => rfl
    | succ n ih =>
      intro hn b
      show sPst R d1 n (sPass R d1 n b) = sPst R d2 n (sPass R d2 n b)
      rw [ih (by omega) b]
      unfold sPst
      by_cases hz : d1 < R 41 n
      · rw [if_pos hz, if_pos ((h n (by omega)).mp hz)]
      · rw [if_neg hz, if_neg (fun z => hz ((h n (by omega)).mpr z))]
  induction r with
  | zero => rfl
  | succ r ih =>
    show sPass R d1 c (sRnd R d1 c r) = sPass R d2 c (sRnd R d2 c r)
    rw [ih, hp c (Nat.le_refl c)]
/-- told on day d -/
def pDay (R : Dk) (x : Int32) (c d : Nat) : Bool := decide (x &&& (sRnd R (nI d) c c ^^^ (-1)) = 0)
theorem day_c {x : Int32} {c : Nat} (hq : ∀ k, k < c → ∃ q, q < 1000 ∧ R 41 k = nI q) (k : Nat) (hk : k ≤ c) : (sDay R x c k = (-1) ∧ ∀ j, j < k → ∀ q, q < 1000 → R 41 j = nI q → pDay R x c q = false) ∨ ∃ j q, j < k ∧ q < 1000 ∧ R 41 j = nI q ∧ sDay R x c k = nI q ∧ pDay R x c q = true ∧ ∀ j', j' < k → ∀ q', q' < 1000 → R 41 j' = nI q' → pDay R x c q' = true → q ≤ q' := by
  induction k with
  | zero => exact Or.inl ⟨rfl, fun j hj => by omega⟩
  | succ k ih =>
    obtain ⟨q, hq1, hq2⟩ := hq k (by omega)
    have hs : sDay R x c (k + 1) = if (sDay R x c k = (-1) ∨ R 41 k < sDay R x c k) ∧ x &&& (sRnd R (R 41 k) c c ^^^ (-1)) = 0 then R 41 k else sDay R x c k := rfl
    rw [hq2] at hs
    have huniq : ∀ q', q' < 1000 → R 41 k = nI q' → q' = q := fun q' h1 h2 => by
      rw [hq2] at h2
      exact ((i_eq (by omega) (by omega)).mp h2).symm
    have hpd : (x &&& (sRnd R (nI q) c c ^^^ (-1)) = 0) ↔ pDay R x c q = true := by
      unfold pDay
      exact ⟨fun z => decide_eq_true z, fun z => of_decide_eq_true z⟩
    rcases ih (by omega) with ⟨h1, h2⟩ | ⟨j, q0, h1, h2, h3, h4, h5, h6⟩
    · by_cases hp : pDay R x c q = true
      · right
        rw [if_pos ⟨Or.inl h1, hpd.mpr hp⟩] at hs
        refine ⟨k, q, by omega, hq1, hq2, hs, hp, fun j' hj' q' hq' hr' hp' => ?_⟩
        by_cases hz : j' = k
        · rw [hz] at hr'
          have := huniq q' hq' hr'
          omega
        · rw [h2 j' (by omega) q' hq' hr'] at hp'; cases hp'
      · left
        rw [if_neg (fun z => hp (hpd.mp z.2))] at hs
        refine ⟨hs.trans h1, fun j hj q' hq' hr' => ?_⟩
        by_cases hz : j = k
        · rw [hz] at hr'
          rw [huniq q' hq' hr']
          cases he : pDay R x c q with
          | false => rfl
          | true => exact absurd he hp
        · exact h2 j (by omega) q' hq' hr'
    · right
      by_cases hp : pDay R x c q = true ∧ q < q0
      · have hlt : nI q < sDay R x c k := by rw [h4]; exact nI_lt hp.2 (by omega)
        rw [if_pos ⟨Or.inr hlt, hpd.mpr hp.1⟩] at hs
        refine ⟨k, q, by omega, hq1, hq2, hs, hp.1, fun j' hj' q' hq' hr' hp' => ?_⟩
        by_cases hz : j' = k
        · rw [hz] at hr'
          have := huniq q' hq' hr'
          omega
        · have := h6 j' (by omega) q' hq' hr' hp'
          omega
      · have hno : ¬ ((sDay R x c k = (-1) ∨ nI q < sDay R x c k) ∧ x &&& (sRnd R (nI q) c c ^^^ (-1)) = 0) := by
          rintro ⟨z1, z2⟩
          rcases z1 with z1 | z1
          · rw [h4] at z1
            exact absurd (show nI q0 < 0 by rw [z1]; decide) (i_lt0 (by omega))
          · rw [h4] at z1
            refine hp ⟨hpd.mp z2, ?_⟩
            exact (nI_ltI (by omega) (by omega)).mp z1
        rw [if_neg hno] at hs
        refine ⟨j, q0, by omega, h2, h3, hs.trans h4, h5, fun j' hj' q' hq' hr' hp' => ?_⟩
        by_cases hz : j' = k
        · rw [hz] at hr'
          have := huniq q' hq' hr'
          subst this
          by_cases h9 : q0 ≤ q'
          · exact h9
          · exact absurd ⟨hp', by omega⟩ hp
        · exact h6 j' (by omega) q' hq' hr' hp'
theorem could_eq {x : Int32} {c : Nat} (hq : ∀ k, k < c → ∃ q, q < 1000 ∧ R 41 k = nI q) : fFst (pDay R x c) 1000 0 = sCould R x c := by
  unfold sCould
  by_cases h0 : x &&& (sRnd R 0 c c ^^^ (-1)) = 0
  · rw [if_pos h0, fFst_hit (k := 0) (by omega) (fun i hi => by omega) (decide_eq_true h0)]
    rfl
  · rw [if_neg h0]
    have h00 : pDay R x c 0 = false := decide_eq_false h0
    -- a first day is a paper's
    have hstep : ∀ d, d + 1 < 1000 → pDay R x c d = false → pDay R x c (d + 1) = true → ∃ k, k < c ∧ R 41 k = nI (d + 1) := by
      intro d hd h1 h2
      by_cases hex : ∃ k, k < c ∧ R 41 k = nI (d + 1)
      · exact hex
      · exfalso
        have : sRnd R (nI d) c c = sRnd R (nI (d + 1)) c c := rnd_cg (fun k hk => by
          obtain ⟨q, hq1, hq2⟩ := hq k hk
          rw [hq2]
          have hne : q ≠ d + 1 := fun z => hex ⟨k, hk, by rw [hq2, z]⟩
          constructor
          · intro z
            have := (nI_ltI (by omega) (by omega)).mp z
            exact nI_lt (by omega) (by omega)
          · intro z
            have := (nI_ltI (by omega) (by omega)).mp z
            exact nI_lt (by omega) (by omega)) c
        unfold pDay at h1 h2
        rw [this] at h1
        rw [h1] at h2
        cases h2
    rcases day_c (R := R) (x := x) hq c (Nat.le_refl c) with ⟨h1, h2⟩ | ⟨j, q, h1, h2, h3, h4, h5, h6⟩
    · rw [h1]
      apply fFst_no
      intro d hd
      rw [Nat.zero_add]
      induction d with
      | zero => exact h00
      | succ d ih =>
        cases hp : pDay R x c (d + 1) with
        | false => rfl
        | true =>
          obtain ⟨k, hk, hk2⟩ := hstep d (by omega) (ih (by omega)) hp
          rw [h2 k hk (d + 1) (by omega) hk2] at hp
          cases hp
    · rw [h4]
      have hbelow : ∀ d, d < q → pDay R x c d = false := by
        intro d
        induction d with
        | zero => exact fun _ => h00
        | succ d ih =>
          intro hd
          cases hp : pDay R x c (d + 1) with
          | false => rfl
          | true =>
            obtain ⟨k, hk, hk2⟩ := hstep d (by omega) (ih (by omega)) hp
            have := h6 k hk (d + 1) (by omega) hk2 hp
            omega
      rw [fFst_hit (k := q) (by omega) (fun i hi => by rw [Nat.zero_add]; exact hbelow i hi) (by rw [Nat.zero_add]; exact h5), Nat.zero_add]
end ROUNDS
section MOPS
variable {M : Mem} {s : St}
theorem m_pass {R : Dk} (h : MR M R) {c : Nat} (hc : R 39 0 = nI c) (hc2 : c ≤ 10) (day : Int32) (k4 : Int32 → Int32 → Mem → Option (Int32 × Mem)) (b x : Int32) : f_X11_knownOn_h13 250 day k4 FU b x 0 M = k4 (sPass R day c b) (x + 1) M := by
  refine eq_loopFU (σ := Int32 × Int32) (fun m s => f_X11_knownOn_h13 250 day k4 m s.1 x s.2 M) c (fun k => (sPass R day k b, nI k)) (k4 (sPass R day c b) (x + 1) M) (by omega) (fun m k hk => ?_) (fun m => ?_)
  · show f_X11_knownOn_h13 250 day k4 (m + 1) (sPass R day k b) x (nI k) M = f_X11_knownOn_h13 250 day k4 m (sPst R day k (sPass R day k b)) x (nI (k + 1)) M
    have hk1 := i_lt0 (show k < 100000 by omega)
    have hk2 := i_cl (show k < 100000 by omega)
    have hk3 : ¬ 10 ≤ k := by omega
    have hk4 := i_nle hk (show c < 100000 by omega)
    have e34 : M 250 34 = nI c := h.2.1.2.2.2.trans hc
    obtain ⟨a1, a2, a3⟩ := h.2.2.2.2.2 k (by omega)
    rw [f_X11_knownOn_h13]
    unfold f_X11_knownOn_b63 sPst
    simp only [hk1, hk2, hk3, hk4, e34, m_39, l_316, r_316 k (by omega), l_317 k (by omega), ci_0, ci_1, ci_2, zi_0, zi_1, zi_2, Nat.reduceLeDiff, or_self, not_false_eq_true, ↓reduceIte, a1, a2, a3, nI_1]
    split
    · rfl
    · split <;> rfl
  · show f_X11_knownOn_h13 250 day k4 (m + 1) (sPass R day c b) x (nI c) M = _
    rw [f_X11_knownOn_h13, h.2.1.2.2.2.trans hc, if_pos (i_le (Nat.le_refl _) (by omega))]
theorem m_known {R : Dk} (h : MR M R) {c : Nat} (hc : R 39 0 = nI c) (hc2 : c ≤ 10) (day : Int32) : f_X11_knownOn M 250 day = some (sRnd R day c c, M) := by
  unfold f_X11_knownOn
  rw [← rnd_10 hc2]
  refine eq_loopFU (σ := Int32 × Int32) (fun m s => f_X11_knownOn_h4 250 day m s.1 s.2 M) 10 (fun k => (sRnd R day c k, nI k)) (some (sRnd R day c 10, M)) (by omega) (fun m k hk => ?_) (fun m => ?_)
  · show f_X11_knownOn_h4 250 day (m + 1) (sRnd R day c k) (nI k) M = f_X11_knownOn_h4 250 day m (sPass R day c (sRnd R day c k)) (nI (k + 1)) M
    rw [f_X11_knownOn_h4, if_neg (show ¬ (10 : Int32) ≤ nI k from i_nle (b := 10) (by omega) (by omega)), m_pass h hc hc2, nI_1]
  · show f_X11_knownOn_h4 250 day (m + 1) (sRnd R day c 10) (nI 10) M = _
    rw [f_X11_knownOn_h4, if_pos (show (10 : Int32) ≤ nI 10 by decide)]
theorem o_known (h : MS M s) (ok : SOK s) (d : Int32) : MO M (f_X11_known M 250 d) cdA (oKnown s d) := by
  unfold MO f_X11_known f_X11_known_b22 oKnown
  have h' := h.t0 ok 0
  rw [m_in, Option.bind_some]
  by_cases hl : dIn d 0 999 = true
  · obtain ⟨f1, f2, f3⟩ := ok.p
    simp only [hl, ↓reduceIte, Option.bind_some, bt_ne, m_bad0 (th0 M 0), m_known h'.2.2.2.1 f1 f2]
    exact tot.ret ⟨⟨th0 M 0, rfl⟩, h', lo_t0⟩
  · simp only [hl, ↓reduceIte, Option.bind_some, bf_eq, m_bad1 (th0 M 0) n1, n1]
    exact tot.ret ⟨th0 (mU M 250 0 0) 1, h'.t0 ok 1, lo_t0.tr lo_t0⟩
theorem o_could (h : MS M s) (ok : SOK s) (x : Int32) : MO M (f_X11_could M 250 x) cdA (oCould s x) := by
  unfold MO f_X11_could f_X11_could_b22 oCould
  have h' := h.t0 ok 0
  rw [m_in, Option.bind_some]
  by_cases hl : dIn x 0 255 = true
  · obtain ⟨f1, f2, f3⟩ := ok.p
    simp only [hl, ↓reduceIte, Option.bind_some, bt_ne, m_bad0 (th0 M 0)]
    have hz0 := th0 M 0
    generalize hM0 : mU M 250 0 0 = M0 at h' hz0
    have hlo0 : Lo M M0 := by rw [← hM0]; exact lo_t0
    have key : ∀ d k, k + d = 1000 → ∀ m, d < m → f_X11_could_h33 250 x m (nI k) M0 = some (fFst (pDay (sRd s) x (cpa (sRd s))) d k, M0) := by
      intro d
      induction d with
      | zero =>
        intro k hk m hm
        obtain ⟨m, rfl⟩ : ∃ q, m = q + 1 := ⟨m - 1, by omega⟩
        rw [f_X11_could_h33, if_pos (show (1000 : Int32) ≤ nI k from i_le (a := 1000) (by omega) (by omega))]
        rfl
      | succ d ih =>
        intro k hk m hm
        obtain ⟨m, rfl⟩ : ∃ q, m = q + 1 := ⟨m - 1, by omega⟩
        rw [f_X11_could_h33, if_neg (show ¬ (1000 : Int32) ≤ nI k from i_nle (b := 1000) (by omega) (by omega)), m_known h'.2.2.2.1 f1 f2, Option.bind_some]
        show (if x &&& (sRnd (sRd s) (nI k) (cpa (sRd s)) (cpa (sRd s)) ^^^ (-1)) = 0 then _ else _) = some ((if pDay (sRd s) x (cpa (sRd s)) k = true then nI k else fFst (pDay (sRd s) x (cpa (sRd s))) d (k + 1)), M0)
        by_cases hz : x &&& (sRnd (sRd s) (nI k) (cpa (sRd s)) (cpa (sRd s)) ^^^ (-1)) = 0
        · rw [if_pos hz, if_pos (show pDay (sRd s) x (cpa (sRd s)) k = true from decide_eq_true hz)]
        · rw [if_neg hz, if_neg (show ¬ pDay (sRd s) x (cpa (sRd s)) k = true from fun z => hz (of_decide_eq_true z)), nI_1]
          exact ih (k + 1) (by omega) m (by omega)
    have hk := key 1000 0 (by omega) FU (by unfold FU; omega)
    rw [could_eq f3] at hk
    refine tot.eq hk (tot.ret ⟨⟨hz0, rfl⟩, h', hlo0⟩)
  · simp only [hl, ↓reduceIte, Option.bind_some, bf_eq, m_bad1 (th0 M 0) n1, n1]
    exact tot.ret ⟨th0 (mU M 250 0 0) 1, h'.t0 ok 1, lo_t0.tr lo_t0⟩
end MOPS
