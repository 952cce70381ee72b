/-! new int[n][k], new boolean[n], while a constructor runs. -/
theorem va_AOA.moved {ty : FieldType} {u U : State} (hvm : u.vm.Alike U.vm) (h : va_AOA ty u) : va_AOA ty U := by
  have h1 : (Cond.arrayOver (.array ty)).before #[] (u.setVm U.vm) = true := by rw [Cond.arrayOver_setVmC hvm]; exact h
  exact h1
/-- cell b at q over the N rows behind it, at r -/
def gNewM (g : gT) (b N q : Nat) (r : Nat → Nat) : gT := (g.1, g.2.1, (gL g ++ [b]) ++ (List.range N).map (fun i => b + 1 + i), (fun a => if a = b then q else if b < a ∧ a ≤ b + N then r (a - b - 1) else gAd g a), gB g, gSx g, (fun a k => if b ≤ a ∧ a ≤ b + N then false else gNul g a k), (fun a => if b ≤ a ∧ a ≤ b + N then true else gDn g a))
section NEWM
variable {g : gT} {b N q : Nat} {r : Nat → Nat} {M : Mem}
theorem nm_in (a : Nat) : a ∈ gL (gNewM g b N q r) ↔ a ∈ gL g ∨ (b ≤ a ∧ a ≤ b + N) := by
  show a ∈ (gL g ++ [b]) ++ (List.range N).map (fun i => b + 1 + i) ↔ _
  rw [List.mem_append, List.mem_append, List.mem_singleton, List.mem_map]
  constructor
  · rintro ((z | z) | ⟨i, hi, z⟩)
    · exact Or.inl z
    · exact Or.inr (by omega)
    · have := List.mem_range.mp hi
      exact Or.inr (by omega)
  · rintro (z | z)
    · exact Or.inl (Or.inl z)
    · by_cases y : a = b
      · exact Or.inl (Or.inr y)
      · exact Or.inr ⟨a - b - 1, List.mem_range.mpr (by omega), by omega⟩
theorem nm_old (hb : ∀ a ∈ gL g, a < b) {a : Nat} (ha : a ∈ gL g) : gAd (gNewM g b N q r) a = gAd g a ∧ gDn (gNewM g b N q r) a = gDn g a ∧ ∀ k, gNul (gNewM g b N q r) a k = gNul g a k := by
  have := hb a ha
  refine ⟨?_, ?_, fun k => ?_⟩
  · show (if a = b then q else if b < a ∧ a ≤ b + N then r (a - b - 1) else gAd g a) = _
    rw [if_neg (by omega), if_neg (by omega)]
  · show (if b ≤ a ∧ a ≤ b + N then true else gDn g a) = _
    rw [if_neg (by omega)]
  · show (if b ≤ a ∧ a ≤ b + N then false else gNul g a k) = _
    rw [if_neg (by omega)]
theorem nm_W {K : Nat} (hok : gOK g) (hb : ∀ a ∈ gL g, a < b) (hk : (shp b).1 = 16) (hN : (shp b).2.1 = N) (hR : ∀ i, i < N → (shp b).2.2 i = some (b + 1 + i) ∧ (shp (b + 1 + i)).1 = 12 ∧ (shp (b + 1 + i)).2.1 = K) (hZ : ∀ a, b ≤ a → M a = fun _ => 0) : gW (gNewM g b N q r) M = (gW g M ++ [(q, .inl (g.2.1 16, N, .inr (.inr (.inr (.inr (fun i => if i < N then some (r i) else none))))))]) ++ ((List.range N).map r).map (fun a => (a, .inl (g.2.1 12, K, .inl (fun _ => 0)))) := by
  unfold gW
  show ((gL g ++ [b]) ++ (List.range N).map (fun i => b + 1 + i)).map _ = _
  rw [List.map_append, List.map_append]
  congr 1
  · congr 1
    · apply List.map_congr_left
      intro a ha
      obtain ⟨h1, h2, h3⟩ := nm_old (N := N) (q := q) (r := r) hb ha
      rw [h1, gE_same (g := g) (g' := gNewM g b N q r) (M := M) (M' := M) rfl rfl h3 (fun k x hx hn => (nm_old hb (hok.2.2.2.2.2 a ha k x hx hn)).1)]
    · show [(gAd (gNewM g b N q r) b, gE (gNewM g b N q r) M b)] = _
      rw [gE_arr hk (by omega)]
      have e1 : gAd (gNewM g b N q r) b = q := if_pos rfl
      have e2 : gN b = N := hN
      rw [e1, e2]
      refine congrArg (fun f => [(q, (Sum.inl (g.2.1 16, N, Sum.inr (Sum.inr (Sum.inr (Sum.inr f)))) : va_E))]) (funext fun i => ?_)
      have e3 : gNul (gNewM g b N q r) b i = false := if_pos (by omega)
      rw [e3]
      by_cases hi : i < N
      · rw [(hR i hi).1, if_pos hi]
        show some (if b + 1 + i = b then q else if b < b + 1 + i ∧ b + 1 + i ≤ b + N then r (b + 1 + i - b - 1) else gAd g (b + 1 + i)) = some (r i)
        rw [if_neg (by omega), if_pos (by omega), show b + 1 + i - b - 1 = i by omega]
      · rw [if_neg hi]
        have h9 : (shp b).2.2 i = none := by
          have hsh : ∀ e ∈ shL, e.1 = 16 → e.2.2.length = e.2.1 := by decide +kernel
          unfold shp at hk hN ⊢
          cases he : shL[b]? with
          | none => rfl
          | some e =>
            rw [he] at hk hN
            have h1 := hsh e (List.mem_of_getElem? he) hk
            show e.2.2.getD i none = none
            rw [List.getD_eq_getElem?_getD, List.getElem?_eq_none (by have : e.2.1 = N := hN; omega)]; rfl
        rw [h9]; rfl
  · rw [List.map_map, List.map_map]
    apply List.map_congr_left
    intro i hi
    have hi2 := List.mem_range.mp hi
    obtain ⟨h1, h2, h3⟩ := hR i hi2
    show (gAd (gNewM g b N q r) (b + 1 + i), gE (gNewM g b N q r) M (b + 1 + i)) = (r i, _)
    have e1 : gAd (gNewM g b N q r) (b + 1 + i) = r i := by
      show (if b + 1 + i = b then q else if b < b + 1 + i ∧ b + 1 + i ≤ b + N then r (b + 1 + i - b - 1) else gAd g (b + 1 + i)) = _
      rw [if_neg (by omega), if_pos (by omega), show b + 1 + i - b - 1 = i by omega]
    rw [e1]
    congr 1
    unfold gE
    rw [h2, if_neg (by decide), if_pos (by decide), h3, hZ (b + 1 + i) (by omega)]
    rfl
theorem nm_ok {K : Nat} (hok : gOK g) (hb : ∀ a ∈ gL g, a < b) (hk : (shp b).1 = 16) (hN : (shp b).2.1 = N) (hR : ∀ i, i < N → (shp b).2.2 i = some (b + 1 + i) ∧ (shp (b + 1 + i)).1 = 12 ∧ (shp (b + 1 + i)).2.1 = K) (hZ : ∀ a, b ≤ a → M a = fun _ => 0) (hNs : N < 2147483648) (hKs : K < 2147483648) (hD : va_D (gA g) (gW (gNewM g b N q r) M)) : gOK (gNewM g b N q r) := by
  have hT : ∀ f x, Ty g f x → Ty (gNewM g b N q r) f x := fun f x h => ⟨(nm_in x).mpr (Or.inl h.1), h.2.1, by rw [(nm_old hb h.1).2.1]; exact h.2.2⟩
  have hsz : ∀ a, b ≤ a → a ≤ b + N → (shp a).2.1 < 2147483648 ∧ ((shp a).1 = 16 ∨ (shp a).1 = 12) := fun a h1 h2 => by
    by_cases y : a = b
    · rw [y, hN]; exact ⟨hNs, Or.inl hk⟩
    · obtain ⟨_, h3, h4⟩ := hR (a - b - 1) (by omega)
      rw [show b + 1 + (a - b - 1) = a by omega] at h3 h4
      rw [h4]; exact ⟨hKs, Or.inr h3⟩
  refine ⟨?_, ?_, ?_, ?_, ?_, ?_⟩
  · -- the addresses are apart: so the world says
    have e : (gL (gNewM g b N q r)).map (gAd (gNewM g b N q r)) = (gW (gNewM g b N q r) M).map Prod.fst := by
      unfold gW
      rw [List.map_map]; rfl
    rw [e]
    unfold List.Nodup
    rw [List.pairwise_iff_getElem]
    intro i j hi hj hij h
    rw [List.length_map] at hi hj
    rw [List.getElem_map, List.getElem_map] at h
    have := hD.1 i j _ _ (List.getElem?_eq_getElem hi) (List.getElem?_eq_getElem hj) h
    omega
  · intro a ha
    obtain ⟨j, hj, _⟩ := gW_at (g := gNewM g b N q r) (M := M) ha
    exact hD.2 j _ hj
  · intro a ha hd hk2
    rcases (nm_in a).mp ha with h | h
    · obtain ⟨h1, h2⟩ := hok.2.2.1 a h (by rw [← (nm_old (N := N) (q := q) (r := r) hb h).2.1]; exact hd) hk2
      refine ⟨h1, fun k f hf => ?_⟩
      have h3 := h2 k f hf
      by_cases h9 : f = 99
      · rw [if_pos h9] at h3 ⊢; exact h3
      · rw [if_neg h9] at h3 ⊢
        obtain ⟨x, hr, hn, hty⟩ := h3
        exact ⟨x, hr, by rw [(nm_old hb h).2.2]; exact hn, hT f x hty⟩
    · have := (hsz a h.1 h.2).2; omega
  · intro a ha hd k hk2
    rcases (nm_in a).mp ha with h | h
    · obtain ⟨h1, h2, h3⟩ := hok.2.2.2.1 a h (by rw [← (nm_old (N := N) (q := q) (r := r) hb h).2.1]; exact hd) k hk2
      have hnu := (nm_old (N := N) (q := q) (r := r) hb h).2.2 k
      refine ⟨fun z => ?_, fun z => ?_, fun z => ?_⟩
      · obtain ⟨x, hr, hn, hty⟩ := h1 z; exact ⟨x, hr, by rw [hnu]; exact hn, hT _ x hty⟩
      · obtain ⟨x, hr, hn, hty⟩ := h2 z; exact ⟨x, hr, by rw [hnu]; exact hn, hT _ x hty⟩
      · obtain ⟨x, hr, hn, hty⟩ := h3 z; exact ⟨x, hr, by rw [hnu]; exact hn, hT _ x hty⟩
    · have h9 := (hsz a h.1 h.2).2
      refine ⟨fun z => by omega, fun z => by omega, fun z => ?_⟩
      by_cases y : a = b
      · subst y
        rw [hN] at hk2
        obtain ⟨h1, h2, h3⟩ := hR k hk2
        refine ⟨a + 1 + k, h1, if_pos (by omega), (nm_in _).mpr (Or.inr (by omega)), h2, if_pos (by omega)⟩
      · obtain ⟨_, h3, _⟩ := hR (a - b - 1) (by omega)
        rw [show b + 1 + (a - b - 1) = a by omega] at h3
        omega
  · intro a ha
    rcases (nm_in a).mp ha with h | h
    · exact hok.2.2.2.2.1 a h
    · exact (hsz a h.1 h.2).1
  · intro a ha k x hx hn
    rcases (nm_in a).mp ha with h | h
    · exact (nm_in x).mpr (Or.inl (hok.2.2.2.2.2 a h k x hx (by rw [← (nm_old (N := N) (q := q) (r := r) hb h).2.2]; exact hn)))
    · by_cases y : a = b
      · subst y
        by_cases hk2 : k < N
        · rw [(hR k hk2).1] at hx
          cases hx
          exact (nm_in _).mpr (Or.inr (by omega))
        · exfalso
          have hsh : ∀ e ∈ shL, e.1 = 16 → e.2.2.length = e.2.1 := by decide +kernel
          unfold shp at hk hN hx
          cases he : shL[a]? with
          | none => rw [he] at hx; cases hx
          | some e =>
            rw [he] at hk hN hx
            have h1 := hsh e (List.mem_of_getElem? he) hk
            have h2 : e.2.2.getD k none = some x := hx
            have hN2 : e.2.1 = N := hN
            rw [List.getD_eq_getElem?_getD, List.getElem?_eq_none (by omega)] at h2
            cases h2
      · obtain ⟨_, h3, _⟩ := hR (a - b - 1) (by omega)
        rw [show b + 1 + (a - b - 1) = a by omega] at h3
        exact absurd hx (shp_int h3 k x)
end NEWM
theorem BldX.newM {g0 g : gT} {b c N q : Nat} {r : Nat → Nat} {U : List Nat} {S : List (Nat × Nat)} (h : BldX g0 g b c U S) (hok : gOK (gNewM g c N q r)) : BldX g0 (gNewM g c N q r) b (c + 1 + N) U S := by
  have hb := h.lt
  have hlt : ∀ a ∈ gL g, a < c := fun a ha => by
    by_cases y : a < c
    · exact y
    · exact absurd ha (h.nin (by omega))
  have hbin := h.bin
  obtain ⟨h1, h2, h3, h4, h5, h6, ⟨h7, h7'⟩, h8, h9⟩ := h
  refine ⟨h1, h2, ⟨by omega, h3.2⟩, fun a => ?_, fun a ha => ?_, hok, ⟨fun a q1 q2 => ?_, fun a ha => by have := h7' a ha; omega⟩, ?_, fun p hp => ?_⟩
  · rw [nm_in, h4 a]
    constructor
    · rintro ((z | z) | z)
      · exact Or.inl z
      · exact Or.inr (by omega)
      · exact Or.inr (by omega)
    · rintro (z | z)
      · exact Or.inl (Or.inl z)
      · by_cases y : a < c
        · exact Or.inl (Or.inr (by omega))
        · exact Or.inr (by omega)
  · obtain ⟨y1, y2, y3⟩ := nm_old (N := N) (q := q) (r := r) hlt ((h4 a).mpr (Or.inl ha))
    obtain ⟨w1, w2⟩ := h5 a ha
    exact ⟨y1.trans w1, fun hab => ⟨y2.trans (w2 hab).1, fun k => (y3 k).trans ((w2 hab).2 k)⟩⟩
  · by_cases y : a < c
    · rw [(nm_old (N := N) (q := q) (r := r) hlt ((h4 a).mpr (Or.inr ⟨q1, y⟩))).2.1]; exact h7 a q1 y
    · have e : gDn (gNewM g c N q r) a = true := if_pos (by omega)
      rw [e]
      exact ⟨fun _ z => by have := h7' a z; omega, fun _ => rfl⟩
  · rw [(nm_old hlt hbin).2.1]; exact h8
  · have h10 := h9 p hp
    have hpin : p.1 ∈ gL g := by
      by_cases y : p.1 = b
      · rw [y]; exact hbin
      · exact (h4 p.1).mpr (Or.inr (by omega))
    refine ⟨by omega, ?_⟩
    rw [(nm_old hlt hpin).2.2 p.2]; exact h10.2
section NEWMV
variable {g : gT} {p : Program} {l : Launch} {e : Env} {R : Room} {s : State} {m : MethodId} {args : Array Value} {below : List Frame} {meth : Method} {c : Code} {nL cells slots : Nat} {Q : State → Prop}
variable {cc : ByteArray} {Ts : List Cond} {own : String} {pc : Nat} {lv : List (Nat × Value)} {rest : List Value} {M : Mem}
theorem v_newM (F : Fx g p s m args c cc nL Ts own) {b N K index : Nat} {n k : Int32} (hclink : Cond.classLink own index "[[I" ∈ Ts) (hover : va_AOA .int s) (harr : Cond.arrayClass .int ∈ Ts) (hb : ∀ a ∈ gL g, a < b) (hk : (shp b).1 = 16) (hN : (shp b).2.1 = N) (hR : ∀ i, i < N → (shp b).2.2 i = some (b + 1 + i) ∧ (shp (b + 1 + i)).1 = 12 ∧ (shp (b + 1 + i)).2.1 = K) (hZ : ∀ a, b ≤ a → M a = fun _ => 0) (hn0 : ¬ n < 0) (hk0 : ¬ k < 0) (hnN : n.toNatClampNeg = N) (hkK : k.toNatClampNeg = K) (hNs : N < 100000) (hKs : K < 100000) (hcells : cells + (1 + N) ≤ R.cells) (hslots : slots + (N + N * K) ≤ R.slots) (hdg : decode cc pc = .ok (.multianewarray index 2, 4))
    (kk : ∀ q r, gOK (gNewM g b N q r) → V (gNewM g b N q r) p l e R s m args below meth c nL (cells + 1 + N) (slots + N + N * K) Q (pc + 4) lv (.ref q :: rest) M) : V g p l e R s m args below meth c nL cells slots Q pc lv (.int k :: .int n :: rest) M := by
  intro H locs ls hP hS hl
  have hcy : s.vm.findClass (FieldType.array .int).toString = some (g.2.1 12) := (F.2.1.2 0 (g.2.1 12, .int) rfl).2
  have hP0 : va_P g.1 vwCl (gW g M ++ va_pl [] (fun _ => .inl (g.2.1 12, K, .inl (fun _ => 0)))) H := by
    show va_P g.1 vwCl (gW g M ++ []) H
    rw [List.append_nil]; exact hP
  have hD0 : va_D (gA g) (gW g M ++ va_pl [] (fun _ => .inl (g.2.1 12, K, .inl (fun _ => 0)))) := by
    show va_D (gA g) (gW g M ++ [])
    rw [List.append_nil]; exact F.2.2.1.D M
  refine va_mna (z := (K, .inl (fun _ => 0))) (ty := .int) F.1.1 F.1.2.1 F.1.2.2.2.1 (F.1.2.2.2.2 _ hclink) hover (F.1.2.2.2.2 _ harr) hcy F.2.1 hP0 hD0 hS (gA_new F) hn0 hk0 hnN hkK (by omega) (by show K * 4 ≤ _; omega) (by omega) rfl rfl hcells hslots (fun c9 => arrV_new c9 K (.int 0)) hdg (fun q r cA H1 hr1 hr2 hK1 hP1 hD1 hS1 => ?_)
  have hcA : cA = g.2.1 16 := by
    have h1 := (hK1.2 6 (cA, .array .int) rfl).2
    have h2 := (F.2.1.2 4 (g.2.1 16, .array .int) rfl).2
    exact Option.some.inj (h1.symm.trans h2)
  subst hcA
  have hW := nm_W (q := q) (r := r) F.2.2.1 hb hk hN hR hZ
  have hpl : va_pl ([] ++ (List.range N).map r) (vr_up (fun _ => (.inl (g.2.1 12, K, .inl (fun _ => 0)) : va_E)) ((List.range N).map r) (.inl (g.2.1 12, K, .inl (fun _ => 0)))) = ((List.range N).map r).map (fun a => (a, .inl (g.2.1 12, K, .inl (fun _ => 0)))) := by
    unfold va_pl
    rw [List.nil_append]
    apply List.map_congr_left
    intro a ha
    rw [vr_up_in ha]
  rw [hpl, ← hW] at hP1 hD1
  have hok := nm_ok F.2.2.1 hb hk hN hR hZ (by omega) (by omega) hD1
  exact kk q r hok H1 locs ls hP1 hS1 hl
theorem shp_intZ {b : Nat} (hk : (shp b).1 = 13) : ∀ k r, ¬ (shp b).2.2 k = some r := by
  have h : ∀ e ∈ shL, e.1 = 13 → e.2.2 = [] := by decide +kernel
  intro k r hr
  unfold shp at hk hr
  cases he : shL[b]? with
  | none => rw [he] at hr; cases hr
  | some e =>
    rw [he] at hk hr
    have h1 := h e (List.mem_of_getElem? he) hk
    simp only [h1] at hr
    cases hr
theorem v_newZ (F : Fx g p s m args c cc nL Ts own) {b : Nat} {n : Int32} (harr : Cond.arrayClass .boolean ∈ Ts) (hb : b ∉ gL g) (hk : (shp b).1 = 13) (hn0 : ¬ n < 0) (hN : n.toNatClampNeg = (shp b).2.1) (hsz : (shp b).2.1 * 4 ≤ 536870912) (hcells : cells + 1 ≤ R.cells) (hslots : slots + (shp b).2.1 ≤ R.slots) (hdg : decode cc pc = .ok (.newarray .boolean, 2))
    (kk : ∀ q, gOK (gNewA g b q) → V (gNewA g b q) p l e R s m args below meth c nL (cells + 1) (slots + (shp b).2.1) Q (pc + 2) lv (.ref q :: rest) (mZ M b)) : V g p l e R s m args below meth c nL cells slots Q pc lv (.int n :: rest) M := by
  intro H locs ls hP hS hl
  refine va_newa (atype := .boolean) (ty := .boolean) (N' := (shp b).2.1) (a0 := ((shp b).2.1, .inl (fun _ => 0))) F.1.1 F.1.2.1 (F.1.2.2.2.2 _ harr) rfl F.2.1 hP (F.2.2.1.D M) hS (gA_new F) (fun _ => rfl) hn0 hN (by show (shp b).2.1 * 1 ≤ _; omega) hcells hslots hdg (fun q cA H1 hK1 hP1 hD1 hS1 => ?_)
  obtain ⟨f1, f2⟩ := fresh_of hD1
  have hcA : cA = g.2.1 13 := by
    have h1 := (hK1.2 6 (cA, .boolean) rfl).2
    have h2 := (F.2.1.2 1 (g.2.1 13, .boolean) rfl).2
    exact Option.some.inj (h1.symm.trans h2)
  subst hcA
  have hok : gOK (gNewA g b q) := gok_grow F.2.2.1 hb rfl rfl (fun a ha => if_neg (ne_of_in hb ha)) (if_pos rfl) (fun a ha => if_neg (ne_of_in hb ha)) (fun a ha k => if_neg (ne_of_in hb ha)) (fun a ha h => f1 (gAd g a, gE g M a) (List.mem_map.mpr ⟨a, ha, rfl⟩) h) f2 (by omega) (fun _ => by rw [hk]; decide) (fun k r hr => absurd hr (shp_intZ hk k r))
  have hE : gE (gNewA g b q) (mZ M b) b = .inl (g.2.1 13, (shp b).2.1, .inl (fun _ => 0)) := by
    unfold gE
    rw [hk, if_neg (by decide), if_pos (by decide)]
    refine congrArg (fun f => Sum.inl (g.2.1 13, (shp b).2.1, Sum.inl f)) (funext fun k => ?_)
    simp [mZ]
  have hW := gNewA_W (M' := mZ M b) (q := q) F.2.2.1 hb (fun a ha => mZ_ne ha)
  rw [hE] at hW
  refine kk q hok H1 locs ls ?_ hS1 hl
  show va_P g.1 vwCl (gW (gNewA g b q) (mZ M b)) H1
  rw [hW]; exact hP1
end NEWMV
