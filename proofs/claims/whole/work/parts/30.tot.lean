/-! The pure side: totals (a function of ours that answers, and what its answer and memory are), loops. -/
def tot {α : Type} (o : Option (α × Mem)) (Q : α → Mem → Prop) : Prop := ∃ r M, o = some (r, M) ∧ Q r M
theorem tot.ret {α : Type} {r : α} {M : Mem} {Q : α → Mem → Prop} (h : Q r M) : tot (some (r, M)) Q := ⟨r, M, rfl, h⟩
theorem tot.bd {α β : Type} {o : Option (α × Mem)} {k : α × Mem → Option (β × Mem)} {P : α → Mem → Prop} {Q : β → Mem → Prop} (h : tot o P) (hk : ∀ r M, P r M → tot (k (r, M)) Q) : tot (o.bind k) Q := by
  obtain ⟨r, M, e, h⟩ := h
  rw [e]
  exact hk r M h
theorem tot.mono {α : Type} {o : Option (α × Mem)} {P Q : α → Mem → Prop} (h : tot o P) (hk : ∀ r M, P r M → Q r M) : tot o Q := by
  obtain ⟨r, M, e, h⟩ := h
  exact ⟨r, M, e, hk r M h⟩
theorem tot.eq {α : Type} {o o' : Option (α × Mem)} {Q : α → Mem → Prop} (e : o = o') (h : tot o' Q) : tot o Q := e ▸ h
/-- a loop that counts from k to N: I is its invariant; what follows it, and what leaves it, is in hs and he -/
theorem tot.loop {σ β : Type} (F : Nat → σ → Option (β × Mem)) (N : Nat) (I : Nat → σ → Prop) (Q : β → Mem → Prop)
    (hs : ∀ n k s, k < N → I k s → (∀ s', I (k + 1) s' → tot (F n s') Q) → tot (F (n + 1) s) Q)
    (he : ∀ n s, I N s → tot (F (n + 1) s) Q) : ∀ d k, k + d = N → ∀ n s, d < n → I k s → tot (F n s) Q := by
  intro d
  induction d with
  | zero =>
    intro k hk n s hn hI
    obtain ⟨m, rfl⟩ : ∃ m, n = m + 1 := ⟨n - 1, by omega⟩
    have : k = N := by omega
    subst this
    exact he m s hI
  | succ d ih =>
    intro k hk n s hn hI
    obtain ⟨m, rfl⟩ : ∃ m, n = m + 1 := ⟨n - 1, by omega⟩
    exact hs m k s (by omega) hI (fun s' h' => ih (k + 1) (by omega) m s' (by omega) h')
theorem tot.loopFU {σ β : Type} (F : Nat → σ → Option (β × Mem)) (N : Nat) (I : Nat → σ → Prop) (Q : β → Mem → Prop) (hN : N < 50000) (s0 : σ) (h0 : I 0 s0)
    (hs : ∀ n k s, k < N → I k s → (∀ s', I (k + 1) s' → tot (F n s') Q) → tot (F (n + 1) s) Q)
    (he : ∀ n s, I N s → tot (F (n + 1) s) Q) : tot (F FU s0) Q := tot.loop F N I Q hs he N 0 (Nat.zero_add N) FU s0 (by unfold FU; omega) h0
/-- the same, with an equation for what the loop comes to -/
theorem eq_loop {σ β : Type} (F : Nat → σ → β) (N : Nat) (S : Nat → σ) (R : β) (hs : ∀ n k, k < N → F (n + 1) (S k) = F n (S (k + 1))) (he : ∀ n, F (n + 1) (S N) = R) : ∀ d k, k + d = N → ∀ n, d < n → F n (S k) = R := by
  intro d
  induction d with
  | zero =>
    intro k hk n hn
    obtain ⟨m, rfl⟩ : ∃ m, n = m + 1 := ⟨n - 1, by omega⟩
    have : k = N := by omega
    subst this
    exact he m
  | succ d ih =>
    intro k hk n hn
    obtain ⟨m, rfl⟩ : ∃ m, n = m + 1 := ⟨n - 1, by omega⟩
    rw [hs m k (by omega)]
    exact ih (k + 1) (by omega) m (by omega)
theorem eq_loopFU {σ β : Type} (F : Nat → σ → β) (N : Nat) (S : Nat → σ) (R : β) (hN : N < 50000) (hs : ∀ n k, k < N → F (n + 1) (S k) = F n (S (k + 1))) (he : ∀ n, F (n + 1) (S N) = R) : F FU (S 0) = R := eq_loop F N S R hs he N 0 (Nat.zero_add N) FU (by unfold FU; omega)
theorem gN_lt (a : Nat) : gN a < 100000 := by
  unfold gN shp
  cases h : shL[a]? with
  | none => exact Nat.le_of_ble_eq_true rfl
  | some e =>
    have hm := List.mem_of_getElem? h
    have hall : (shL.all fun e => Nat.blt e.2.1 100000) = true := by decide +kernel
    have := List.all_eq_true.mp hall e hm
    exact Nat.le_of_ble_eq_true this
theorem q_at (M : Mem) (r : Nat) (i : Int32) : f_X8_at M r i = some (rAt M r i, M) := p_at (by have := gN_lt (gRf r 0); omega)
theorem q_put (M : Mem) (r : Nat) (i v : Int32) : f_X8_put M r i v = some (0, rPut M r i v) := p_put (by have := gN_lt (gRf r 0); omega)
theorem q_fill (M : Mem) (r : Nat) (v : Int32) : f_X8_fill M r v = some (0, mSet M (gRf r 0) (gN (gRf r 0)) (fun _ => v)) := p_fill (gN_lt _)
theorem mU_add (M : Mem) (a o k : Nat) (v : Int32) (o2 k2 : Nat) : mU M (a + o) k v (a + o2) k2 = if o2 = o ∧ k2 = k then v else M (a + o2) k2 := by
  unfold mU
  simp only [Nat.add_left_cancel_iff]
theorem mSet_add (M : Mem) (a o n : Nat) (f : Nat → Int32) (o2 k2 : Nat) : mSet M (a + o) n f (a + o2) k2 = if o2 = o ∧ k2 < n then f k2 else M (a + o2) k2 := by
  unfold mSet
  simp only [Nat.add_left_cancel_iff]
theorem mU_at (M : Mem) (a k : Nat) (v : Int32) (b j : Nat) : mU M a k v b j = if b = a ∧ j = k then v else M b j := rfl
theorem mSet_at (M : Mem) (a n : Nat) (f : Nat → Int32) (b j : Nat) : mSet M a n f b j = if b = a ∧ j < n then f j else M b j := rfl
theorem i_lt0 {k : Nat} (h : k < 100000) : ¬ nI k < 0 := nI_pos (by omega)
theorem i_cl {k : Nat} (h : k < 100000) : (nI k).toNatClampNeg = k := nI_clamp (by omega)
theorem i_le {a b : Nat} (h : a ≤ b) (hb : b < 100000) : nI a ≤ nI b := nI_le h (by omega)
theorem i_nle {a b : Nat} (h : a < b) (hb : b < 100000) : ¬ nI b ≤ nI a := nI_ge h (by omega)
theorem i_in {k N : Nat} (h : k < N) (hN : N < 100000) : ¬ (nI k < 0 ∨ N ≤ (nI k).toNatClampNeg) := nI_in h (by omega)
/-- a number not below 0 and not above n is some nI k -/
theorem i_of {x : Int32} {n : Nat} (h0 : ¬ x < 0) (h1 : x ≤ nI n) (hn : n < 100000) : ∃ k, k ≤ n ∧ x = nI k := nI_of2 (M := nI n) (nI_toInt (by omega)) h0 h1
theorem i_eq {a b : Nat} (ha : a < 100000) (hb : b < 100000) : nI a = nI b ↔ a = b := nI_eq (by omega) (by omega)
theorem i_prd {k : Nat} (h : 0 < k) : nI k - 1 = nI (k - 1) := by
  obtain ⟨j, rfl⟩ : ∃ j, k = j + 1 := ⟨k - 1, by omega⟩
  exact nI_pred j
theorem u_ne {M : Mem} {a b k : Nat} {v : Int32} (h : b ≠ a) : mU M a k v b = M b := mU_ne M k v h
