/-! making arrays of the known classes; the pages of the store -/
section SdAlloc
variable {p : Program} {l : Launch} {e : Env} {R : Room} {s : State} {m : MethodId} {args : Array Value} {below : List Frame} {meth : Method} {c : Code} {H : Heap} {locs : List Loc} {cells slots : Nat} {Q : State → Prop} {pc : Nat} {ls : Array Slot} {rest : List Value} {g : sdG} {cc : ByteArray} {A : Nat → Prop} {ws : va_W}
theorem sd_newI (hexec : p.tables.exec = Jvm.exec) (hb : c.code = cc) (harr : (Cond.arrayClass .int).before args s = true) (hK : sdK g s) (hP : sdP g ws H) (hD : va_D A ws) (hS : va_S A s.heap H locs) (hA : ∀ q, s.heap.size ≤ q → A q) {N : Nat} (hN : N < 2 ^ 24) (hcells : cells + 1 ≤ R.cells) (hslots : slots + N ≤ R.slots) (hdg : decode cc pc = .ok (.newarray .int, 2))
    (kk : ∀ (q : Nat) (H1 : Heap), sdP g (ws ++ [(q, .inl (gI g, N, .inl (fun _ => 0)))]) H1 → va_D A (ws ++ [(q, .inl (gI g, N, .inl (fun _ => 0)))]) → va_S A s.heap H1 locs → W p l e R s m args below meth c H1 locs (cells + 1) (slots + N) Q (F0 m (pc + 2) ls (.ref q :: rest))) : W p l e R s m args below meth c H locs cells slots Q (F0 m pc ls (.int (nI N) :: rest)) := by
  refine va_newa (atype := .int) (ty := .int) (a0 := (N, .inl (fun _ => 0))) hexec hb harr rfl hK hP hD hS hA (fun _ => rfl) (nI_pos (by omega)) (nI_clamp (by omega)) (by show N * 4 ≤ 536870912; omega) hcells hslots hdg (fun q cA H1 hK2 hP2 hD2 hS2 => ?_)
  have h1 : s.vm.findClass _ = some cA := (hK2.2 4 (cA, .int) rfl).2
  have h2 : s.vm.findClass _ = some (gI g) := (hK.2 1 (gI g, .int) rfl).2
  have e1 : cA = gI g := Option.some.inj (h1.symm.trans h2)
  subst e1
  exact kk q H1 hP2 hD2 hS2
theorem sd_newB (hexec : p.tables.exec = Jvm.exec) (hb : c.code = cc) (harr : (Cond.arrayClass .byte).before args s = true) (hK : sdK g s) (hP : sdP g ws H) (hD : va_D A ws) (hS : va_S A s.heap H locs) (hA : ∀ q, s.heap.size ≤ q → A q) {N : Nat} (hN : N < 2 ^ 24) (hcells : cells + 1 ≤ R.cells) (hslots : slots + N ≤ R.slots) (hdg : decode cc pc = .ok (.newarray .byte, 2))
    (kk : ∀ (q : Nat) (H1 : Heap), sdP g (ws ++ [(q, .inl (gB g, N, .inl (fun _ => 0)))]) H1 → va_D A (ws ++ [(q, .inl (gB g, N, .inl (fun _ => 0)))]) → va_S A s.heap H1 locs → W p l e R s m args below meth c H1 locs (cells + 1) (slots + N) Q (F0 m (pc + 2) ls (.ref q :: rest))) : W p l e R s m args below meth c H locs cells slots Q (F0 m pc ls (.int (nI N) :: rest)) := by
  refine va_newa (atype := .byte) (ty := .byte) (a0 := (N, .inl (fun _ => 0))) hexec hb harr rfl hK hP hD hS hA (fun _ => rfl) (nI_pos (by omega)) (nI_clamp (by omega)) (by show N * 1 ≤ 536870912; omega) hcells hslots hdg (fun q cA H1 hK2 hP2 hD2 hS2 => ?_)
  have h1 : s.vm.findClass _ = some cA := (hK2.2 4 (cA, .byte) rfl).2
  have h2 : s.vm.findClass _ = some (gB g) := (hK.2 0 (gB g, .byte) rfl).2
  have e1 : cA = gB g := Option.some.inj (h1.symm.trans h2)
  subst e1
  exact kk q H1 hP2 hD2 hS2
theorem sd_newC (hexec : p.tables.exec = Jvm.exec) (hb : c.code = cc) (harr : (Cond.arrayClass .char).before args s = true) (hK : sdK g s) (hP : sdP g ws H) (hD : va_D A ws) (hS : va_S A s.heap H locs) (hA : ∀ q, s.heap.size ≤ q → A q) {N : Nat} (hN : N < 2 ^ 24) (hcells : cells + 1 ≤ R.cells) (hslots : slots + N ≤ R.slots) (hdg : decode cc pc = .ok (.newarray .char, 2))
    (kk : ∀ (q : Nat) (H1 : Heap), sdP g (ws ++ [(q, .inl (gC g, N, .inl (fun _ => 0)))]) H1 → va_D A (ws ++ [(q, .inl (gC g, N, .inl (fun _ => 0)))]) → va_S A s.heap H1 locs → W p l e R s m args below meth c H1 locs (cells + 1) (slots + N) Q (F0 m (pc + 2) ls (.ref q :: rest))) : W p l e R s m args below meth c H locs cells slots Q (F0 m pc ls (.int (nI N) :: rest)) := by
  refine va_newa (atype := .char) (ty := .char) (a0 := (N, .inl (fun _ => 0))) hexec hb harr rfl hK hP hD hS hA (fun _ => rfl) (nI_pos (by omega)) (nI_clamp (by omega)) (by show N * 2 ≤ 536870912; omega) hcells hslots hdg (fun q cA H1 hK2 hP2 hD2 hS2 => ?_)
  have h1 : s.vm.findClass _ = some cA := (hK2.2 4 (cA, .char) rfl).2
  have h2 : s.vm.findClass _ = some (gC g) := (hK.2 3 (gC g, .char) rfl).2
  have e1 : cA = gC g := Option.some.inj (h1.symm.trans h2)
  subst e1
  exact kk q H1 hP2 hD2 hS2
theorem sd_newP (hexec : p.tables.exec = Jvm.exec) (hb : c.code = cc) {own : String} {index : Nat} (hown : s.vm.findClass own = some m.cls) (hclink : (Cond.classLink own index "SignDesk$Page").before args s = true) (hE : va_AO "SignDesk$Page" s) (hK : sdK g s) (hP : sdP g ws H) (hD : va_D A ws) (hS : va_S A s.heap H locs) (hA : ∀ q, s.heap.size ≤ q → A q) {N : Nat} (hN : N < 2 ^ 24) (hcells : cells + 1 ≤ R.cells) (hslots : slots + N ≤ R.slots) (hdg : decode cc pc = .ok (.anewarray index, 3))
    (kk : ∀ (q : Nat) (H1 : Heap), sdP g (ws ++ [(q, .inl (gP g, N, .inr (.inr (.inr (.inr (fun _ => none))))))]) H1 → va_D A (ws ++ [(q, .inl (gP g, N, .inr (.inr (.inr (.inr (fun _ => none))))))]) → va_S A s.heap H1 locs → W p l e R s m args below meth c H1 locs (cells + 1) (slots + N) Q (F0 m (pc + 3) ls (.ref q :: rest))) : W p l e R s m args below meth c H locs cells slots Q (F0 m pc ls (.int (nI N) :: rest)) := by
  refine va_newq hexec hb hown hclink hE hK hP hD hS hA (nI_pos (by omega)) (nI_clamp (by omega)) (by omega) hcells hslots hdg (fun q cA H1 hK2 hP2 hD2 hS2 => ?_)
  obtain ⟨_, _, _, _, _, h1⟩ := (hK2.2 4 (cA, .object "SignDesk$Page") rfl).2
  obtain ⟨_, _, _, _, _, h2⟩ := (hK.2 2 (gP g, .object "SignDesk$Page") rfl).2
  have e1 : cA = gP g := Option.some.inj (h1.symm.trans h2)
  subst e1
  exact kk q H1 hP2 hD2 hS2
end SdAlloc
/-- the store's pages: pf the row of pages, L and fE the cells of pages and rows, M the words, pg which pages are there -/
def memOK (g : sdG) (pf : Nat → Option Nat) (L : List Nat) (fE : Nat → va_E) (M : Nat → Int32) (pg : Nat → Bool) : Prop :=
  (∀ i, i < 128 → (pg i = false ∧ pf i = none ∧ ∀ j, j < 256 → M (256 * i + j) = 0) ∨ (pg i = true ∧ ∃ (a b : Nat) (h : Nat → Int32), pf i = some a ∧ a ∈ L ∧ b ∈ L ∧ fE a = .inr (1, [.ref b]) ∧ fE b = .inl (gI g, 256, .inl h) ∧ ∀ j, j < 256 → h j = M (256 * i + j))) ∧
  ∀ i i' a a' b, i < 128 → i' < 128 → pf i = some a → pf i' = some a' → fE a = .inr (1, [.ref b]) → fE a' = .inr (1, [.ref b]) → i = i'
theorem memOK_set {g : sdG} {pf : Nat → Option Nat} {L : List Nat} {fE : Nat → va_E} {M M' : Nat → Int32} {pg : Nat → Bool} {i a b : Nat} {h h' : Nat → Int32} (hM : memOK g pf L fE M pg) (hi : i < 128) (hp : pf i = some a) (hfa : fE a = .inr (1, [.ref b])) (hfb : fE b = .inl (gI g, 256, .inl h)) (h1 : ∀ j, j < 256 → h' j = M' (256 * i + j)) (h2 : ∀ x, x / 256 ≠ i → M' x = M x) : memOK g pf L (va_up fE b (.inl (gI g, 256, .inl h'))) M' pg := by
  obtain ⟨c1, c2⟩ := hM
  have hab : ∀ a' b', fE a' = .inr (1, [.ref b']) → a' ≠ b := fun a' b' q e => by rw [e, hfb] at q; cases q
  refine ⟨fun k hk => ?_, fun k k' x x' y hk hk' q1 q2 q3 q4 => ?_⟩
  · rcases c1 k hk with ⟨p1, p2, p3⟩ | ⟨p1, a1, b1, h3, p2, p3, p4, p5, p6, p7⟩
    · refine Or.inl ⟨p1, p2, fun j hj => ?_⟩
      rw [h2 _ (fun e => ?_)]
      · exact p3 j hj
      · have : k = i := by omega
        rw [this, hp] at p2; cases p2
    · refine Or.inr ⟨p1, a1, b1, ?_⟩
      by_cases q : k = i
      · subst q
        rw [hp] at p2; cases p2
        rw [hfa] at p5; cases p5
        exact ⟨h', hp, p3, p4, by rw [va_up_ne _ _ (hab _ _ hfa)]; exact hfa, va_up_self _ _ _, h1⟩
      · have hb1 : b1 ≠ b := fun e => q (c2 k i a1 a b hk hi p2 hp (e ▸ p5) hfa)
        refine ⟨h3, p2, p3, p4, by rw [va_up_ne _ _ (hab _ _ p5)]; exact p5, by rw [va_up_ne _ _ hb1]; exact p6, fun j hj => ?_⟩
        rw [h2 _ (by omega)]; exact p7 j hj
  · have e1 : x ≠ b := fun e => by rw [e, va_up_self] at q3; cases q3
    have e2 : x' ≠ b := fun e => by rw [e, va_up_self] at q4; cases q4
    rw [va_up_ne _ _ e1] at q3
    rw [va_up_ne _ _ e2] at q4
    exact c2 k k' x x' y hk hk' q1 q2 q3 q4
theorem memOK_new {g : sdG} {pf : Nat → Option Nat} {L : List Nat} {fE : Nat → va_E} {M M' : Nat → Int32} {pg : Nat → Bool} {i a b : Nat} {h' : Nat → Int32} (hM : memOK g pf L fE M pg) (hi : i < 128) (hp : pf i = none) (ha : a ∉ L) (hb : b ∉ L) (hab : a ≠ b) (h1 : ∀ j, j < 256 → h' j = M' (256 * i + j)) (h2 : ∀ x, x / 256 ≠ i → M' x = M x) : memOK g (va_up pf i (some a)) (L ++ [a] ++ [b]) (va_up (va_up fE a (.inr (1, [.ref b]))) b (.inl (gI g, 256, .inl h'))) M' (va_up pg i true) := by
  obtain ⟨c1, c2⟩ := hM
  have hL : ∀ x, x ∈ L → x ≠ a ∧ x ≠ b := fun x hx => ⟨fun e => ha (e ▸ hx), fun e => hb (e ▸ hx)⟩
  have hfL : ∀ x, x ∈ L → va_up (va_up fE a (.inr (1, [.ref b]))) b (.inl (gI g, 256, .inl h')) x = fE x := fun x hx => by
    rw [va_up_ne _ _ (hL x hx).2, va_up_ne _ _ (hL x hx).1]
  have hfa : va_up (va_up fE a (.inr (1, [.ref b]))) b (.inl (gI g, 256, .inl h')) a = .inr (1, [.ref b]) := by
    rw [va_up_ne _ _ hab, va_up_self]
  have hin : ∀ x, x ∈ L → x ∈ L ++ [a] ++ [b] := fun x hx => List.mem_append_left _ (List.mem_append_left _ hx)
  have old : ∀ k x, k < 128 → k ≠ i → pf k = some x → x ∈ L ∧ ∃ b1, b1 ∈ L ∧ fE x = .inr (1, [.ref b1]) := fun k x hk _ q => by
    rcases c1 k hk with ⟨_, p2, _⟩ | ⟨_, a1, b1, h3, p2, p3, p4, p5, _, _⟩
    · rw [p2] at q; cases q
    · rw [p2] at q; cases q; exact ⟨p3, b1, p4, p5⟩
  refine ⟨fun k hk => ?_, fun k k' x x' y hk hk' q1 q2 q3 q4 => ?_⟩
  · by_cases q : k = i
    · subst q
      exact Or.inr ⟨va_up_self _ _ _, a, b, h', va_up_self _ _ _, by simp, by simp, hfa, va_up_self _ _ _, h1⟩
    · rw [va_up_ne _ _ q, va_up_ne _ _ q]
      rcases c1 k hk with ⟨p1, p2, p3⟩ | ⟨p1, a1, b1, h3, p2, p3, p4, p5, p6, p7⟩
      · refine Or.inl ⟨p1, p2, fun j hj => ?_⟩
        rw [h2 _ (by omega)]; exact p3 j hj
      · refine Or.inr ⟨p1, a1, b1, h3, p2, hin _ p3, hin _ p4, by rw [hfL _ p3]; exact p5, by rw [hfL _ p4]; exact p6, fun j hj => ?_⟩
        rw [h2 _ (by omega)]; exact p7 j hj
  · by_cases e1 : k = i
    · by_cases e2 : k' = i
      · omega
      · exfalso
        rw [e1, va_up_self] at q1
        rw [va_up_ne _ _ e2] at q2
        obtain ⟨o1, b1, o2, o3⟩ := old k' x' hk' e2 q2
        cases q1
        rw [hfa] at q3; cases q3
        rw [hfL _ o1, o3] at q4; cases q4
        exact hb o2
    · by_cases e2 : k' = i
      · exfalso
        rw [e2, va_up_self] at q2
        rw [va_up_ne _ _ e1] at q1
        obtain ⟨o1, b1, o2, o3⟩ := old k x hk e1 q1
        cases q2
        rw [hfa] at q4; cases q4
        rw [hfL _ o1, o3] at q3; cases q3
        exact hb o2
      · rw [va_up_ne _ _ e1] at q1
        rw [va_up_ne _ _ e2] at q2
        obtain ⟨o1, _⟩ := old k x hk e1 q1
        obtain ⟨o2, _⟩ := old k' x' hk' e2 q2
        rw [hfL _ o1] at q3
        rw [hfL _ o2] at q4
        exact c2 k k' x x' y hk hk' q1 q2 q3 q4
theorem memOK_congr {g : sdG} {pf : Nat → Option Nat} {L : List Nat} {fE : Nat → va_E} {M M' : Nat → Int32} {pg : Nat → Bool} (hM : memOK g pf L fE M pg) (h : ∀ x, x < 32768 → M' x = M x) : memOK g pf L fE M' pg := by
  refine ⟨fun k hk => ?_, hM.2⟩
  rcases hM.1 k hk with ⟨p1, p2, p3⟩ | ⟨p1, a1, b1, h3, p2, p3, p4, p5, p6, p7⟩
  · exact Or.inl ⟨p1, p2, fun j hj => by rw [h _ (by omega)]; exact p3 j hj⟩
  · exact Or.inr ⟨p1, a1, b1, h3, p2, p3, p4, p5, p6, fun j hj => by rw [h _ (by omega)]; exact p7 j hj⟩
/-- two new cells go into the pool -/
theorem sd_pool2 {A : Nat → Prop} {X : va_W} {L : List Nat} {f : Nat → va_E} {a b : Nat} {ea eb : va_E} (hD : va_D A ((X ++ va_pl L f) ++ [(a, ea), (b, eb)])) : a ∉ L ∧ b ∉ L ∧ a ≠ b ∧ (X ++ va_pl L f) ++ [(a, ea), (b, eb)] = X ++ va_pl (L ++ [a] ++ [b]) (va_up (va_up f a ea) b eb) := by
  have hlen : ∀ k q, (X ++ va_pl L f)[k]? = some q → k < (X ++ va_pl L f).length ∧ ((X ++ va_pl L f) ++ [(a, ea), (b, eb)])[k]? = some q := fun k q h => by
    have h1 := (List.getElem?_eq_some_iff.mp h).1
    exact ⟨h1, by rw [List.getElem?_append_left h1]; exact h⟩
  have g1 : ((X ++ va_pl L f) ++ [(a, ea), (b, eb)])[(X ++ va_pl L f).length]? = some (a, ea) := by rw [List.getElem?_append_right (Nat.le_refl _), Nat.sub_self]; rfl
  have g2 : ((X ++ va_pl L f) ++ [(a, ea), (b, eb)])[(X ++ va_pl L f).length + 1]? = some (b, eb) := by rw [List.getElem?_append_right (by omega)]; simp
  have n1 : a ∉ L := fun h => by
    obtain ⟨k, hk⟩ := va_pl_get (X := X) (f := f) h
    obtain ⟨k1, k2⟩ := hlen k _ hk
    have := hD.1 _ _ _ _ k2 g1 rfl
    omega
  have n2 : b ∉ L := fun h => by
    obtain ⟨k, hk⟩ := va_pl_get (X := X) (f := f) h
    obtain ⟨k1, k2⟩ := hlen k _ hk
    have := hD.1 _ _ _ _ k2 g2 rfl
    omega
  have n3 : a ≠ b := fun h => by
    have := hD.1 _ _ _ _ g1 g2 h
    omega
  refine ⟨n1, n2, n3, ?_⟩
  rw [show [(a, ea), (b, eb)] = [(a, ea)] ++ [(b, eb)] from rfl, ← List.append_assoc, List.append_assoc X, va_pl_push n1, List.append_assoc X, va_pl_push (fun h => by
    rcases List.mem_append.mp h with q | q
    · exact n2 q
    · exact n3 (List.mem_singleton.mp q).symm)]
