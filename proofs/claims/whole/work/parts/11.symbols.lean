/-- the first place from i on, of k places, where P holds; i + k if there is none -/
noncomputable def ff (P : Nat → Prop) : Nat → Nat → Nat
  | 0, i => i
  | k + 1, i => @ite _ (P i) (Classical.propDecidable _) i (ff P k (i + 1))
theorem ff_eq {P : Nat → Prop} : ∀ (k i r : Nat), i ≤ r → r ≤ i + k → (∀ j, i ≤ j → j < r → ¬ P j) → (r < i + k → P r) → ff P k i = r := by
  intro k
  induction k with
  | zero => intro i r h1 h2 _ _; exact (show i = r by omega)
  | succ k ih =>
    intro i r h1 h2 h3 h4
    by_cases h : P i
    · have e : ff P (k + 1) i = i := @if_pos _ (Classical.propDecidable _) h _ _ _
      rw [e]
      rcases Nat.lt_or_ge i r with q | q
      · exact absurd h (h3 i (Nat.le_refl _) q)
      · omega
    · have e : ff P (k + 1) i = ff P k (i + 1) := @if_neg _ (Classical.propDecidable _) h _ _ _
      rw [e]
      rcases Nat.lt_or_ge i r with q | q
      · exact ih (i + 1) r q (by omega) (fun j h5 h6 => h3 j (by omega) h6) (fun h5 => h4 (by omega))
      · have : i = r := by omega
        subst this
        exact absurd (h4 (by omega)) h
theorem ff_spec {P : Nat → Prop} : ∀ (k i : Nat), i ≤ ff P k i ∧ ff P k i ≤ i + k ∧ (∀ j, i ≤ j → j < ff P k i → ¬ P j) ∧ (ff P k i < i + k → P (ff P k i)) := by
  intro k
  induction k with
  | zero => intro i; exact ⟨Nat.le_refl _, Nat.le_refl _, fun j h1 h2 => absurd h2 (by show ¬ j < i; omega), fun h => absurd h (Nat.lt_irrefl _)⟩
  | succ k ih =>
    intro i
    by_cases h : P i
    · have e : ff P (k + 1) i = i := @if_pos _ (Classical.propDecidable _) h _ _ _
      rw [e]
      exact ⟨Nat.le_refl _, by omega, fun j h1 h2 => absurd h2 (by omega), fun _ => h⟩
    · have e : ff P (k + 1) i = ff P k (i + 1) := @if_neg _ (Classical.propDecidable _) h _ _ _
      rw [e]
      obtain ⟨a1, a2, a3, a4⟩ := ih (i + 1)
      refine ⟨by omega, by omega, fun j h1 h2 => ?_, fun h5 => a4 (by omega)⟩
      rcases Nat.lt_or_ge i j with q | q
      · exact a3 j q h2
      · have : j = i := by omega
        subst this; exact h
def pushW (st : AS) (c y : Nat) : AS := ((wn st + 1, va_up (wc st) (wn st) c, va_up (wy st) (wn st) y), st.2)
def addS (st : AS) (a n v : Nat) : AS := (st.1, (sn st + 1, va_up (sa st) (sn st) a, va_up (sl st) (sn st) n, va_up (sv st) (sn st) v))
def tellS (st : AS) (s v : Nat) : AS := (st.1, (sn st, sa st, sl st, va_up (sv st) s v))
/-- what a word is while its symbol's number is untold -/
def encW (c y : Nat) : Nat := if y = 0 then c else 65535 + y
/-- the class's words hold the state -/
def PR (st : AS) (pw : Nat → Int32) : Prop := wn st ≤ 600 ∧ ∀ i, i < wn st → pw i = nI (encW (wc st i) (wy st i))
/-- three rows hold the symbols -/
def SR (st : AS) (s1 s2 s3 : Nat → Int32) : Prop := sn st ≤ 40 ∧ ∀ i, i < sn st → s1 i = nI (sa st i) ∧ s2 i = nI (sl st i) ∧ s3 i = nI (sv st i) - 1 ∧ sa st i + sl st i ≤ 2000 ∧ sv st i ≤ 700
/-- symbol i is written from a on, n signs -/
def smM (tx : Nat → Nat) (st : AS) (a n i : Nat) : Prop := sl st i = n ∧ ∀ j, j < n → tx (sa st i + j) = tx (a + j)
noncomputable def syO (tx : Nat → Nat) (st : AS) (a n : Nat) : Nat × AS :=
  if ff (smM tx st a n) (sn st) 0 < sn st then (ff (smM tx st a n) (sn st) 0 + 1, st) else if 40 ≤ sn st then (0, st) else (sn st + 1, addS st a n 0)
theorem syO_hit {tx : Nat → Nat} {st : AS} {a n k : Nat} (hk : k < sn st) (hm : smM tx st a n k) (hn : ∀ j, j < k → ¬ smM tx st a n j) : syO tx st a n = (k + 1, st) := by
  have e : ff (smM tx st a n) (sn st) 0 = k := ff_eq _ _ _ (Nat.zero_le _) (by omega) (fun j _ h => hn j h) (fun _ => hm)
  unfold syO
  rw [e, if_pos hk]
theorem syO_full {tx : Nat → Nat} {st : AS} {a n : Nat} (hn : ∀ j, j < sn st → ¬ smM tx st a n j) (h : 40 ≤ sn st) : syO tx st a n = (0, st) := by
  have e : ff (smM tx st a n) (sn st) 0 = sn st := ff_eq _ _ _ (Nat.zero_le _) (by omega) (fun j _ h => hn j h) (fun h => absurd h (by omega))
  unfold syO
  rw [e, if_neg (by omega), if_pos h]
theorem syO_new {tx : Nat → Nat} {st : AS} {a n : Nat} (hn : ∀ j, j < sn st → ¬ smM tx st a n j) (h : ¬ 40 ≤ sn st) : syO tx st a n = (sn st + 1, addS st a n 0) := by
  have e : ff (smM tx st a n) (sn st) 0 = sn st := ff_eq _ _ _ (Nat.zero_le _) (by omega) (fun j _ h => hn j h) (fun h => absurd h (by omega))
  unfold syO
  rw [e, if_neg (by omega), if_neg h]
theorem SR_add {st : AS} {s1 s2 s3 : Nat → Int32} {a n : Nat} (h : SR st s1 s2 s3) (h40 : sn st < 40) (hb : a + n ≤ 2000) : SR (addS st a n 0) (upd s1 (sn st) (nI a)) (upd s2 (sn st) (nI n)) (upd s3 (sn st) (-1)) := by
  refine ⟨(by show sn st + 1 ≤ 40; omega), fun i hi => ?_⟩
  have hi : i < sn st + 1 := hi
  show upd s1 (sn st) (nI a) i = nI (va_up (sa st) (sn st) a i) ∧ upd s2 (sn st) (nI n) i = nI (va_up (sl st) (sn st) n i) ∧ upd s3 (sn st) (-1) i = nI (va_up (sv st) (sn st) 0 i) - 1 ∧ va_up (sa st) (sn st) a i + va_up (sl st) (sn st) n i ≤ 2000 ∧ va_up (sv st) (sn st) 0 i ≤ 700
  rcases Nat.lt_or_ge i (sn st) with q | q
  · have hne : i ≠ sn st := by omega
    rw [pk_un hne, pk_un hne, pk_un hne, va_up_ne _ _ hne, va_up_ne _ _ hne, va_up_ne _ _ hne]
    exact h.2 i q
  · have : i = sn st := by omega
    subst this
    rw [pk_us, pk_us, pk_us, va_up_self, va_up_self, va_up_self]
    exact ⟨rfl, rfl, by decide, hb, by omega⟩
theorem SR_tell {st : AS} {s1 s2 s3 : Nat → Int32} {k v : Nat} (h : SR st s1 s2 s3) (hv : v ≤ 699) : SR (tellS st k (v + 1)) s1 s2 (upd s3 k (nI v)) := by
  refine ⟨h.1, fun i hi => ?_⟩
  obtain ⟨a1, a2, a3, a4, a5⟩ := h.2 i hi
  show s1 i = nI (sa st i) ∧ s2 i = nI (sl st i) ∧ upd s3 k (nI v) i = nI (va_up (sv st) k (v + 1) i) - 1 ∧ sa st i + sl st i ≤ 2000 ∧ va_up (sv st) k (v + 1) i ≤ 700
  by_cases hne : i = k
  · subst hne
    rw [pk_us, va_up_self]
    exact ⟨a1, a2, (nI_pred v).symm, a4, by omega⟩
  · rw [pk_un hne, va_up_ne _ _ hne]
    exact ⟨a1, a2, a3, a4, a5⟩
theorem m1_iff {k : Nat} (h : k < 2 ^ 30) : nI k - 1 = -1 ↔ k = 0 := by
  rw [← Int32.toInt_inj, show (1 : Int32) = nI 1 from rfl, pk_sub_toInt h (by omega)]
  show (k : Int) - 1 = -1 ↔ k = 0
  omega
theorem m1_lt {k : Nat} (h : k < 2 ^ 30) : nI k - 1 < 0 ↔ k = 0 := by
  rw [Int32.lt_iff_toInt_lt, show (1 : Int32) = nI 1 from rfl, pk_sub_toInt h (by omega)]
  show (k : Int) - 1 < 0 ↔ k = 0
  omega
set_option maxHeartbeats 4000000 in
set_option maxRecDepth 100000 in
/-- count -/
theorem c_Sym_count (l : Launch) (g : sdG) (q7 q1 q8 q9 q10 : Nat) (st : AS) (s1 s2 s3 : Nat → Int32) (hSR : SR st s1 s2 s3) : Met l y_Sym_count (.code y_Sym_count b_Sym_count 1 (some .int) :: sdT) ({ frames := 0, cells := 0, slots := 0, locals := 0 }) (va_Pc [.ref q7] (sdR g [(q7, .inr (5, [.ref q1, .ref q8, .ref q9, .ref q10, .int (nI (sn st))])), (q8, .inl (gI g, 40, .inl s1)), (q9, .inl (gI g, 40, .inl s2)), (q10, .inl (gI g, 40, .inl s3))])) (vp_Si (fun r => r = nI (sn st))) 0 0 (fun _ => False) := by
  refine Met.ofW (cc := b_Sym_count) (maxL := 1) (ret := (some .int)) (by decide) rfl ?_
  intro p ev s m args below meth c s₁ B hml hv
  obtain ⟨rfl, hP, hK, hE⟩ := hv
  have hx := B.exec
  have hb := B.bytes
  have hr := B.returns
  have hts := fun (w : Cond) (h : w ∈ sdT) => atoms_spec (ws := (.code y_Sym_count b_Sym_count 1 (some .int) :: sdT)) B.pre w (List.mem_cons_of_mem _ h)
  have hown : s.vm.findClass "SignDesk$Symbols" = some m.cls := findClass_of_methodNamed B.named
  have hlocks := B.notSynchronized
  have hF : ∀ a : Nat, a < s.heap.size → ¬ sdA g a → s.heap[a]? = s.heap[a]? := fun _ _ _ => rfl
  have hP : sdP g [(q7, .inr (5, [.ref q1, .ref q8, .ref q9, .ref q10, .int (nI (sn st))])), (q8, .inl (gI g, 40, .inl s1)), (q9, .inl (gI g, 40, .inl s2)), (q10, .inl (gI g, 40, .inl s3))] s.heap := hP
  have hl := lv_entry ([.ref q7]) (n := 1) (Nat.le_of_ble_eq_true rfl)
  rw [lg_entry_eq]
  generalize (lg_sl ([.ref q7]) ++ List.replicate (1 - (lg_sl ([.ref q7])).length) Slot.unset).toArray = ls at hl ⊢
  have hl : lv_has ls 1 [(0, .ref q7)] := hl
  have h40 := hSR.1
  refine lv_aload_n hx hb d_Sym_count_0 rfl (lv_at hl 0 rfl) ?_
  refine va_get (D := g.1) (ci := 5) (v := .int (nI (sn st))) (C := "SignDesk$Symbols") (T := F_Sym) (N := 5) hx hb hts in_Sym hown hK hP 0 rfl rfl 4 (by decide) (hts _ k_89) (fun _ h9 => h9) rfl d_Sym_count_1 ?_
  exact W.iret (v := (nI (sn st))) hx hb hr  (fun t ht hW => ⟨_, rfl, rfl, ht⟩) (fun _ h => by cases h) d_Sym_count_4
set_option maxHeartbeats 4000000 in
set_option maxRecDepth 100000 in
/-- numberOf -/
theorem c_Sym_numberOf (l : Launch) (g : sdG) (q7 q1 q8 q9 q10 : Nat) (st : AS) (s1 s2 s3 : Nat → Int32) (hSR : SR st s1 s2 s3) (k : Nat) (hk : k < sn st) : Met l y_Sym_numberOf (.code y_Sym_numberOf b_Sym_numberOf 2 (some .int) :: sdT) ({ frames := 0, cells := 0, slots := 0, locals := 0 }) (va_Pc [.ref q7, .int (nI k)] (sdR g [(q7, .inr (5, [.ref q1, .ref q8, .ref q9, .ref q10, .int (nI (sn st))])), (q8, .inl (gI g, 40, .inl s1)), (q9, .inl (gI g, 40, .inl s2)), (q10, .inl (gI g, 40, .inl s3))])) (vp_Si (fun r => r = nI (sv st k) - 1)) 0 0 (fun _ => False) := by
  refine Met.ofW (cc := b_Sym_numberOf) (maxL := 2) (ret := (some .int)) (by decide) rfl ?_
  intro p ev s m args below meth c s₁ B hml hv
  obtain ⟨rfl, hP, hK, hE⟩ := hv
  have hx := B.exec
  have hb := B.bytes
  have hr := B.returns
  have hts := fun (w : Cond) (h : w ∈ sdT) => atoms_spec (ws := (.code y_Sym_numberOf b_Sym_numberOf 2 (some .int) :: sdT)) B.pre w (List.mem_cons_of_mem _ h)
  have hown : s.vm.findClass "SignDesk$Symbols" = some m.cls := findClass_of_methodNamed B.named
  have hlocks := B.notSynchronized
  have hF : ∀ a : Nat, a < s.heap.size → ¬ sdA g a → s.heap[a]? = s.heap[a]? := fun _ _ _ => rfl
  have hP : sdP g [(q7, .inr (5, [.ref q1, .ref q8, .ref q9, .ref q10, .int (nI (sn st))])), (q8, .inl (gI g, 40, .inl s1)), (q9, .inl (gI g, 40, .inl s2)), (q10, .inl (gI g, 40, .inl s3))] s.heap := hP
  have hl := lv_entry ([.ref q7, .int (nI k)]) (n := 2) (Nat.le_of_ble_eq_true rfl)
  rw [lg_entry_eq]
  generalize (lg_sl ([.ref q7, .int (nI k)]) ++ List.replicate (2 - (lg_sl ([.ref q7, .int (nI k)])).length) Slot.unset).toArray = ls at hl ⊢
  have hl : lv_has ls 2 [(0, .ref q7), (1, .int (nI k))] := hl
  have h40 := hSR.1
  refine lv_iload_n hx hb d_Sym_numberOf_0 rfl (lv_at hl 1 rfl) ?_
  refine lv_if_lt (tgt := 21) hx hb d_Sym_numberOf_1 (by decide) (fun c1 => ?_) (fun c1 => ?_)
  · exact absurd c1 (nI_pos (by omega))
  · refine lv_iload_n hx hb d_Sym_numberOf_4 rfl (lv_at hl 1 rfl) ?_
    refine lv_aload_n hx hb d_Sym_numberOf_5 rfl (lv_at hl 0 rfl) ?_
    refine va_get (D := g.1) (ci := 5) (v := .int (nI (sn st))) (C := "SignDesk$Symbols") (T := F_Sym) (N := 5) hx hb hts in_Sym hown hK hP 0 rfl rfl 4 (by decide) (hts _ k_89) (fun _ h9 => h9) rfl d_Sym_numberOf_6 ?_
    refine lv_icmp_ge (tgt := 21) hx hb d_Sym_numberOf_9 (by decide) (fun c2 => ?_) (fun c2 => ?_)
    · have c2 := (nI_leI (by omega) (by omega)).mp c2
      exact absurd c2 (by omega)
    · have c2 := mt (nI_leI (by omega) (by omega)).mpr c2
      refine lv_aload_n hx hb d_Sym_numberOf_12 rfl (lv_at hl 0 rfl) ?_
      refine va_get (D := g.1) (ci := 5) (v := .ref q10) (C := "SignDesk$Symbols") (T := F_Sym) (N := 5) hx hb hts in_Sym hown hK hP 0 rfl rfl 3 (by decide) (hts _ k_88) (fun _ h9 => h9) rfl d_Sym_numberOf_13 ?_
      refine lv_iload_n hx hb d_Sym_numberOf_16 rfl (lv_at hl 1 rfl) ?_
      refine va_iald hx hb hK hP 3 1 rfl rfl (i := (nI k)) (vp_in_nI (by omega) (by omega)) d_Sym_numberOf_17 ?_
      refine lv_goto (tgt := 22) hx hb d_Sym_numberOf_18 (by decide) ?_
      exact W.iret (v := (s3 ((nI k)).toNatClampNeg)) hx hb hr  (fun t ht hW => ⟨_, rfl, by rw [nI_clamp (by omega)]; exact (hSR.2 k hk).2.2.1, ht⟩) (fun _ h => by cases h) d_Sym_numberOf_22
set_option maxHeartbeats 4000000 in
set_option maxRecDepth 100000 in
/-- clear -/
theorem c_Sym_clear (l : Launch) (g : sdG) (q7 q1 q8 q9 q10 : Nat) (cx : Int32) (s1 s2 s3 : Nat → Int32) (sz : Nat) : Met l y_Sym_clear (.code y_Sym_clear b_Sym_clear 1 none :: sdT) ({ frames := 0, cells := 0, slots := 0, locals := 0 }) (va_Pc [.ref q7] (sdU g [(q7, .inr (5, [.ref q1, .ref q8, .ref q9, .ref q10, .int cx])), (q8, .inl (gI g, 40, .inl s1)), (q9, .inl (gI g, 40, .inl s2)), (q10, .inl (gI g, 40, .inl s3))] sz)) (va_Qv (S := Unit) (fun _ => True) (fun u t => sdB g [(q7, .inr (5, [.ref q1, .ref q8, .ref q9, .ref q10, .int cx])), (q8, .inl (gI g, 40, .inl s1)), (q9, .inl (gI g, 40, .inl s2)), (q10, .inl (gI g, 40, .inl s3))] sz ((fun _ => [(q7, .inr (5, [.ref q1, .ref q8, .ref q9, .ref q10, .int (nI 0)])), (q8, .inl (gI g, 40, .inl s1)), (q9, .inl (gI g, 40, .inl s2)), (q10, .inl (gI g, 40, .inl s3))] : Unit → va_W) u) t) (va_A [(q7, .inr (5, [.ref q1, .ref q8, .ref q9, .ref q10, .int cx])), (q8, .inl (gI g, 40, .inl s1)), (q9, .inl (gI g, 40, .inl s2)), (q10, .inl (gI g, 40, .inl s3))] sz)) 0 0 (va_A [(q7, .inr (5, [.ref q1, .ref q8, .ref q9, .ref q10, .int cx])), (q8, .inl (gI g, 40, .inl s1)), (q9, .inl (gI g, 40, .inl s2)), (q10, .inl (gI g, 40, .inl s3))] sz) := by
  refine Met.ofW (cc := b_Sym_clear) (maxL := 1) (ret := none) (by decide) rfl ?_
  intro p ev s m args below meth c s₁ B hml hv
  obtain ⟨rfl, hsz, hP, hK, hE, hD0, hs0⟩ := hv
  have hx := B.exec
  have hb := B.bytes
  have hr := B.returns
  have hts := fun (w : Cond) (h : w ∈ sdT) => atoms_spec (ws := (.code y_Sym_clear b_Sym_clear 1 none :: sdT)) B.pre w (List.mem_cons_of_mem _ h)
  have hown : s.vm.findClass "SignDesk$Symbols" = some m.cls := findClass_of_methodNamed B.named
  have hlocks := B.notSynchronized
  subst hsz
  have hD := hD0.self (sz := s.heap.size)
  have hA0 : ∀ q : Nat, va_A [(q7, .inr (5, [.ref q1, .ref q8, .ref q9, .ref q10, .int cx])), (q8, .inl (gI g, 40, .inl s1)), (q9, .inl (gI g, 40, .inl s2)), (q10, .inl (gI g, 40, .inl s3))] s.heap.size q → gS g ≤ q := fun q h => h.elim (fun ⟨k, e, hk⟩ => hD0.2 k _ hk) (fun h => Nat.le_trans hs0 h)
  have hA : ∀ q : Nat, s.heap.size ≤ q → va_A [(q7, .inr (5, [.ref q1, .ref q8, .ref q9, .ref q10, .int cx])), (q8, .inl (gI g, 40, .inl s1)), (q9, .inl (gI g, 40, .inl s2)), (q10, .inl (gI g, 40, .inl s3))] s.heap.size q := fun q h => Or.inr h
  generalize hAe : va_A [(q7, .inr (5, [.ref q1, .ref q8, .ref q9, .ref q10, .int cx])), (q8, .inl (gI g, 40, .inl s1)), (q9, .inl (gI g, 40, .inl s2)), (q10, .inl (gI g, 40, .inl s3))] s.heap.size = A at hD hA0 hA ⊢
  have hS : va_S A s.heap s.heap [] := va_S.rf
  have hP : sdP g [(q7, .inr (5, [.ref q1, .ref q8, .ref q9, .ref q10, .int cx])), (q8, .inl (gI g, 40, .inl s1)), (q9, .inl (gI g, 40, .inl s2)), (q10, .inl (gI g, 40, .inl s3))] s.heap := hP
  have hl := lv_entry ([.ref q7]) (n := 1) (Nat.le_of_ble_eq_true rfl)
  rw [lg_entry_eq]
  generalize (lg_sl ([.ref q7]) ++ List.replicate (1 - (lg_sl ([.ref q7])).length) Slot.unset).toArray = ls at hl ⊢
  have hl : lv_has ls 1 [(0, .ref q7)] := hl
  refine lv_aload_n hx hb d_Sym_clear_0 rfl (lv_at hl 0 rfl) ?_
  refine lv_iconst (v := (nI 0)) hx hb d_Sym_clear_1 (by decide) ?_
  refine va_put (D := g.1) (ci := 5) (v := .int (nI 0)) (ty := .int) (C := "SignDesk$Symbols") (T := F_Sym) (N := 5) hx hb hts in_Sym t_Sym t_Sym_ok n_Sym hown hK hP hD hS 0 rfl rfl 4 (by decide) (hts _ k_89) (fun _ h9 => h9) rfl (by decide +kernel) rfl rfl (Nat.le_of_ble_eq_true rfl) d_Sym_clear_2 (fun H locs hP hD hS => ?_)
  have hP : sdP g [(q7, .inr (5, [.ref q1, .ref q8, .ref q9, .ref q10, .int (nI 0)])), (q8, .inl (gI g, 40, .inl s1)), (q9, .inl (gI g, 40, .inl s2)), (q10, .inl (gI g, 40, .inl s3))] H := hP
  have hD : va_D A [(q7, .inr (5, [.ref q1, .ref q8, .ref q9, .ref q10, .int (nI 0)])), (q8, .inl (gI g, 40, .inl s1)), (q9, .inl (gI g, 40, .inl s2)), (q10, .inl (gI g, 40, .inl s3))] := hD
  have hP9 := hP.sub (ws' := [(q7, .inr (5, [.ref q1, .ref q8, .ref q9, .ref q10, .int (nI 0)])), (q8, .inl (gI g, 40, .inl s1)), (q9, .inl (gI g, 40, .inl s2)), (q10, .inl (gI g, 40, .inl s3))]) [0, 1, 2, 3] rfl
  have hD9 := hD.sub (ws' := [(q7, .inr (5, [.ref q1, .ref q8, .ref q9, .ref q10, .int (nI 0)])), (q8, .inl (gI g, 40, .inl s1)), (q9, .inl (gI g, 40, .inl s2)), (q10, .inl (gI g, 40, .inl s3))]) [0, 1, 2, 3] (by decide) rfl
  exact W.vret hx hb hr (fun t ht hW => ⟨⟨(), rfl, trivial, by rw [ht]; exact hP9, by rw [hAe]; exact hD9⟩, hS.F ht⟩) hS.2.2 d_Sym_clear_5
set_option maxHeartbeats 4000000 in
set_option maxRecDepth 100000 in
/-- tell -/
theorem c_Sym_tell (l : Launch) (g : sdG) (q7 q1 q8 q9 q10 : Nat) (st : AS) (s1 s2 s3 : Nat → Int32) (hSR : SR st s1 s2 s3) (k x : Nat) (hk : k < sn st) (hx7 : x ≤ 699) (sz : Nat) : Met l y_Sym_tell (.code y_Sym_tell b_Sym_tell 3 (some .boolean) :: sdT) ({ frames := 0, cells := 0, slots := 0, locals := 0 }) (va_Pc [.ref q7, .int (nI k), .int (nI x)] (sdU g [(q7, .inr (5, [.ref q1, .ref q8, .ref q9, .ref q10, .int (nI (sn st))])), (q8, .inl (gI g, 40, .inl s1)), (q9, .inl (gI g, 40, .inl s2)), (q10, .inl (gI g, 40, .inl s3))] sz)) (va_Qi (S := AS × (Nat → Int32)) (fun r u => (¬ sv st k = 0 → r = nI 0 ∧ u.1 = st) ∧ (sv st k = 0 → r = nI 1 ∧ u.1 = tellS st k (x + 1)) ∧ SR u.1 s1 s2 u.2) (fun u t => sdB g [(q7, .inr (5, [.ref q1, .ref q8, .ref q9, .ref q10, .int (nI (sn st))])), (q8, .inl (gI g, 40, .inl s1)), (q9, .inl (gI g, 40, .inl s2)), (q10, .inl (gI g, 40, .inl s3))] sz ((fun u => [(q7, .inr (5, [.ref q1, .ref q8, .ref q9, .ref q10, .int (nI (sn u.1))])), (q8, .inl (gI g, 40, .inl s1)), (q9, .inl (gI g, 40, .inl s2)), (q10, .inl (gI g, 40, .inl u.2))] : AS × (Nat → Int32) → va_W) u) t) (va_A [(q7, .inr (5, [.ref q1, .ref q8, .ref q9, .ref q10, .int (nI (sn st))])), (q8, .inl (gI g, 40, .inl s1)), (q9, .inl (gI g, 40, .inl s2)), (q10, .inl (gI g, 40, .inl s3))] sz)) 0 0 (va_A [(q7, .inr (5, [.ref q1, .ref q8, .ref q9, .ref q10, .int (nI (sn st))])), (q8, .inl (gI g, 40, .inl s1)), (q9, .inl (gI g, 40, .inl s2)), (q10, .inl (gI g, 40, .inl s3))] sz) := by
  refine Met.ofW (cc := b_Sym_tell) (maxL := 3) (ret := (some .boolean)) (by decide) rfl ?_
  intro p ev s m args below meth c s₁ B hml hv
  obtain ⟨rfl, hsz, hP, hK, hE, hD0, hs0⟩ := hv
  have hx := B.exec
  have hb := B.bytes
  have hr := B.returns
  have hts := fun (w : Cond) (h : w ∈ sdT) => atoms_spec (ws := (.code y_Sym_tell b_Sym_tell 3 (some .boolean) :: sdT)) B.pre w (List.mem_cons_of_mem _ h)
  have hown : s.vm.findClass "SignDesk$Symbols" = some m.cls := findClass_of_methodNamed B.named
  have hlocks := B.notSynchronized
  subst hsz
  have hD := hD0.self (sz := s.heap.size)
  have hA0 : ∀ q : Nat, va_A [(q7, .inr (5, [.ref q1, .ref q8, .ref q9, .ref q10, .int (nI (sn st))])), (q8, .inl (gI g, 40, .inl s1)), (q9, .inl (gI g, 40, .inl s2)), (q10, .inl (gI g, 40, .inl s3))] s.heap.size q → gS g ≤ q := fun q h => h.elim (fun ⟨k, e, hk⟩ => hD0.2 k _ hk) (fun h => Nat.le_trans hs0 h)
  have hA : ∀ q : Nat, s.heap.size ≤ q → va_A [(q7, .inr (5, [.ref q1, .ref q8, .ref q9, .ref q10, .int (nI (sn st))])), (q8, .inl (gI g, 40, .inl s1)), (q9, .inl (gI g, 40, .inl s2)), (q10, .inl (gI g, 40, .inl s3))] s.heap.size q := fun q h => Or.inr h
  generalize hAe : va_A [(q7, .inr (5, [.ref q1, .ref q8, .ref q9, .ref q10, .int (nI (sn st))])), (q8, .inl (gI g, 40, .inl s1)), (q9, .inl (gI g, 40, .inl s2)), (q10, .inl (gI g, 40, .inl s3))] s.heap.size = A at hD hA0 hA ⊢
  have hS : va_S A s.heap s.heap [] := va_S.rf
  have hP : sdP g [(q7, .inr (5, [.ref q1, .ref q8, .ref q9, .ref q10, .int (nI (sn st))])), (q8, .inl (gI g, 40, .inl s1)), (q9, .inl (gI g, 40, .inl s2)), (q10, .inl (gI g, 40, .inl s3))] s.heap := hP
  have hl := lv_entry ([.ref q7, .int (nI k), .int (nI x)]) (n := 3) (Nat.le_of_ble_eq_true rfl)
  rw [lg_entry_eq]
  generalize (lg_sl ([.ref q7, .int (nI k), .int (nI x)]) ++ List.replicate (3 - (lg_sl ([.ref q7, .int (nI k), .int (nI x)])).length) Slot.unset).toArray = ls at hl ⊢
  have hl : lv_has ls 3 [(0, .ref q7), (1, .int (nI k)), (2, .int (nI x))] := hl
  have h40 := hSR.1
  refine lv_iload_n hx hb d_Sym_tell_0 rfl (lv_at hl 1 rfl) ?_
  refine lv_if_lt (tgt := 22) hx hb d_Sym_tell_1 (by decide) (fun c1 => ?_) (fun c1 => ?_)
  · exact absurd c1 (nI_pos (by omega))
  · refine lv_iload_n hx hb d_Sym_tell_4 rfl (lv_at hl 1 rfl) ?_
    refine lv_aload_n hx hb d_Sym_tell_5 rfl (lv_at hl 0 rfl) ?_
    refine va_get (D := g.1) (ci := 5) (v := .int (nI (sn st))) (C := "SignDesk$Symbols") (T := F_Sym) (N := 5) hx hb hts in_Sym hown hK hP 0 rfl rfl 4 (by decide) (hts _ k_89) (fun _ h9 => h9) rfl d_Sym_tell_6 ?_
    refine lv_icmp_ge (tgt := 22) hx hb d_Sym_tell_9 (by decide) (fun c2 => ?_) (fun c2 => ?_)
    · have c2 := (nI_leI (by omega) (by omega)).mp c2
      exact absurd c2 (by omega)
    · have c2 := mt (nI_leI (by omega) (by omega)).mpr c2
      refine lv_aload_n hx hb d_Sym_tell_12 rfl (lv_at hl 0 rfl) ?_
      refine va_get (D := g.1) (ci := 5) (v := .ref q10) (C := "SignDesk$Symbols") (T := F_Sym) (N := 5) hx hb hts in_Sym hown hK hP 0 rfl rfl 3 (by decide) (hts _ k_88) (fun _ h9 => h9) rfl d_Sym_tell_13 ?_
      refine lv_iload_n hx hb d_Sym_tell_16 rfl (lv_at hl 1 rfl) ?_
      refine va_iald hx hb hK hP 3 1 rfl rfl (i := (nI k)) (vp_in_nI (by omega) (by omega)) d_Sym_tell_17 ?_
      refine sd_topi (y := nI (sv st k) - 1) (by rw [nI_clamp (by omega)]; exact (hSR.2 k hk).2.2.1) ?_
      have h700 := (hSR.2 k hk).2.2.2.2
      refine lv_iconst (v := (-1)) hx hb d_Sym_tell_18 (by decide) ?_
      refine lv_icmp_eq (tgt := 24) hx hb d_Sym_tell_19 (by decide) (fun c3 => ?_) (fun c3 => ?_)
      · have c3 := (m1_iff (by omega)).mp c3
        refine lv_aload_n hx hb d_Sym_tell_24 rfl (lv_at hl 0 rfl) ?_
        refine va_get (D := g.1) (ci := 5) (v := .ref q10) (C := "SignDesk$Symbols") (T := F_Sym) (N := 5) hx hb hts in_Sym hown hK hP 0 rfl rfl 3 (by decide) (hts _ k_88) (fun _ h9 => h9) rfl d_Sym_tell_25 ?_
        refine lv_iload_n hx hb d_Sym_tell_28 rfl (lv_at hl 1 rfl) ?_
        refine lv_iload_n hx hb d_Sym_tell_29 rfl (lv_at hl 2 rfl) ?_
        refine va_iast hx hb hK hP hD hS 3 1 rfl rfl (i := (nI k)) (x := (nI x)) (vp_in_nI (by omega) (by omega)) d_Sym_tell_30 (fun H locs hP hD hS => ?_)
        have hP : sdP g [(q7, .inr (5, [.ref q1, .ref q8, .ref q9, .ref q10, .int (nI (sn st))])), (q8, .inl (gI g, 40, .inl s1)), (q9, .inl (gI g, 40, .inl s2)), (q10, .inl (gI g, 40, .inl (upd s3 ((nI k)).toNatClampNeg (nI x))))] H := hP
        have hD : va_D A [(q7, .inr (5, [.ref q1, .ref q8, .ref q9, .ref q10, .int (nI (sn st))])), (q8, .inl (gI g, 40, .inl s1)), (q9, .inl (gI g, 40, .inl s2)), (q10, .inl (gI g, 40, .inl (upd s3 ((nI k)).toNatClampNeg (nI x))))] := hD
        have eF : (upd s3 ((nI k)).toNatClampNeg (nI x)) = (upd s3 k (nI x)) := by rw [nI_clamp (by omega)]
        rw [eF] at hP hD
        refine lv_iconst (v := (nI 1)) hx hb d_Sym_tell_31 (by decide) ?_
        have hP9 := hP.sub (ws' := [(q7, .inr (5, [.ref q1, .ref q8, .ref q9, .ref q10, .int (nI (sn st))])), (q8, .inl (gI g, 40, .inl s1)), (q9, .inl (gI g, 40, .inl s2)), (q10, .inl (gI g, 40, .inl (upd s3 k (nI x))))]) [0, 1, 2, 3] rfl
        have hD9 := hD.sub (ws' := [(q7, .inr (5, [.ref q1, .ref q8, .ref q9, .ref q10, .int (nI (sn st))])), (q8, .inl (gI g, 40, .inl s1)), (q9, .inl (gI g, 40, .inl s2)), (q10, .inl (gI g, 40, .inl (upd s3 k (nI x))))]) [0, 1, 2, 3] (by decide) rfl
        exact W.zret (v := (nI 1)) hx hb hr (by first | rfl | decide | exact sb_nar) (fun t ht hW => ⟨⟨_, (tellS st k (x + 1), upd s3 k (nI x)), rfl, ⟨fun h => absurd h (fun h => h c3), fun _ => ⟨rfl, rfl⟩, SR_tell hSR hx7⟩, by rw [ht]; exact hP9, by rw [hAe]; exact hD9⟩, hS.F ht⟩) hS.2.2 d_Sym_tell_32
      · have c3 := mt (m1_iff (by omega)).mpr c3
        refine lv_iconst (v := (nI 0)) hx hb d_Sym_tell_22 (by decide) ?_
        have hP9 := hP.sub (ws' := [(q7, .inr (5, [.ref q1, .ref q8, .ref q9, .ref q10, .int (nI (sn st))])), (q8, .inl (gI g, 40, .inl s1)), (q9, .inl (gI g, 40, .inl s2)), (q10, .inl (gI g, 40, .inl s3))]) [0, 1, 2, 3] rfl
        have hD9 := hD.sub (ws' := [(q7, .inr (5, [.ref q1, .ref q8, .ref q9, .ref q10, .int (nI (sn st))])), (q8, .inl (gI g, 40, .inl s1)), (q9, .inl (gI g, 40, .inl s2)), (q10, .inl (gI g, 40, .inl s3))]) [0, 1, 2, 3] (by decide) rfl
        exact W.zret (v := (nI 0)) hx hb hr (by first | rfl | decide | exact sb_nar) (fun t ht hW => ⟨⟨_, (st, s3), rfl, ⟨fun h => ⟨rfl, rfl⟩, fun h => absurd h c3, hSR⟩, by rw [ht]; exact hP9, by rw [hAe]; exact hD9⟩, hS.F ht⟩) hS.2.2 d_Sym_tell_23
set_option maxHeartbeats 4000000 in
set_option maxRecDepth 100000 in
/-- symbolOf -/
theorem c_Sym_symbolOf (l : Launch) (g : sdG) (q7 q1 q8 q9 q10 q5 n : Nat) (f : Nat → Int32) (tx : Nat → Nat) (hT : TXok n f tx) (st : AS) (s1 s2 s3 : Nat → Int32) (hSR : SR st s1 s2 s3) (a z : Nat) (ha : a ≤ z) (hz : z ≤ 2000) (sz : Nat) : Met l y_Sym_symbolOf (.code y_Sym_symbolOf b_Sym_symbolOf 4 (some .int) :: sdT) ({ frames := 2, cells := 0, slots := 0, locals := 45 }) (va_Pc [.ref q7, .int (nI a), .int (nI z)] (sdU g [(q7, .inr (5, [.ref q1, .ref q8, .ref q9, .ref q10, .int (nI (sn st))])), (q8, .inl (gI g, 40, .inl s1)), (q9, .inl (gI g, 40, .inl s2)), (q10, .inl (gI g, 40, .inl s3)), (q1, .inr (6, [.ref q5, .int (nI n)])), (q5, .inl (gB g, 2000, .inl f))] sz)) (va_Qi (S := AS × (Nat → Int32) × (Nat → Int32) × (Nat → Int32)) (fun r u => (∃ c, syO tx st a (z - a) = (c, u.1) ∧ r = nI c - 1) ∧ SR u.1 u.2.1 u.2.2.1 u.2.2.2) (fun u t => sdB g [(q7, .inr (5, [.ref q1, .ref q8, .ref q9, .ref q10, .int (nI (sn st))])), (q8, .inl (gI g, 40, .inl s1)), (q9, .inl (gI g, 40, .inl s2)), (q10, .inl (gI g, 40, .inl s3)), (q1, .inr (6, [.ref q5, .int (nI n)])), (q5, .inl (gB g, 2000, .inl f))] sz ((fun u => [(q7, .inr (5, [.ref q1, .ref q8, .ref q9, .ref q10, .int (nI (sn u.1))])), (q8, .inl (gI g, 40, .inl u.2.1)), (q9, .inl (gI g, 40, .inl u.2.2.1)), (q10, .inl (gI g, 40, .inl u.2.2.2)), (q1, .inr (6, [.ref q5, .int (nI n)])), (q5, .inl (gB g, 2000, .inl f))] : AS × (Nat → Int32) × (Nat → Int32) × (Nat → Int32) → va_W) u) t) (va_A [(q7, .inr (5, [.ref q1, .ref q8, .ref q9, .ref q10, .int (nI (sn st))])), (q8, .inl (gI g, 40, .inl s1)), (q9, .inl (gI g, 40, .inl s2)), (q10, .inl (gI g, 40, .inl s3)), (q1, .inr (6, [.ref q5, .int (nI n)])), (q5, .inl (gB g, 2000, .inl f))] sz)) 0 0 (va_A [(q7, .inr (5, [.ref q1, .ref q8, .ref q9, .ref q10, .int (nI (sn st))])), (q8, .inl (gI g, 40, .inl s1)), (q9, .inl (gI g, 40, .inl s2)), (q10, .inl (gI g, 40, .inl s3)), (q1, .inr (6, [.ref q5, .int (nI n)])), (q5, .inl (gB g, 2000, .inl f))] sz) := by
  refine Met.ofW (cc := b_Sym_symbolOf) (maxL := 4) (ret := (some .int)) (by decide) rfl ?_
  intro p ev s m args below meth c s₁ B hml hv
  obtain ⟨rfl, hsz, hP, hK, hE, hD0, hs0⟩ := hv
  have hx := B.exec
  have hb := B.bytes
  have hr := B.returns
  have hts := fun (w : Cond) (h : w ∈ sdT) => atoms_spec (ws := (.code y_Sym_symbolOf b_Sym_symbolOf 4 (some .int) :: sdT)) B.pre w (List.mem_cons_of_mem _ h)
  have hown : s.vm.findClass "SignDesk$Symbols" = some m.cls := findClass_of_methodNamed B.named
  have hlocks := B.notSynchronized
  subst hsz
  have hD := hD0.self (sz := s.heap.size)
  have hA0 : ∀ q : Nat, va_A [(q7, .inr (5, [.ref q1, .ref q8, .ref q9, .ref q10, .int (nI (sn st))])), (q8, .inl (gI g, 40, .inl s1)), (q9, .inl (gI g, 40, .inl s2)), (q10, .inl (gI g, 40, .inl s3)), (q1, .inr (6, [.ref q5, .int (nI n)])), (q5, .inl (gB g, 2000, .inl f))] s.heap.size q → gS g ≤ q := fun q h => h.elim (fun ⟨k, e, hk⟩ => hD0.2 k _ hk) (fun h => Nat.le_trans hs0 h)
  have hA : ∀ q : Nat, s.heap.size ≤ q → va_A [(q7, .inr (5, [.ref q1, .ref q8, .ref q9, .ref q10, .int (nI (sn st))])), (q8, .inl (gI g, 40, .inl s1)), (q9, .inl (gI g, 40, .inl s2)), (q10, .inl (gI g, 40, .inl s3)), (q1, .inr (6, [.ref q5, .int (nI n)])), (q5, .inl (gB g, 2000, .inl f))] s.heap.size q := fun q h => Or.inr h
  generalize hAe : va_A [(q7, .inr (5, [.ref q1, .ref q8, .ref q9, .ref q10, .int (nI (sn st))])), (q8, .inl (gI g, 40, .inl s1)), (q9, .inl (gI g, 40, .inl s2)), (q10, .inl (gI g, 40, .inl s3)), (q1, .inr (6, [.ref q5, .int (nI n)])), (q5, .inl (gB g, 2000, .inl f))] s.heap.size = A at hD hA0 hA ⊢
  have hS : va_S A s.heap s.heap [] := va_S.rf
  have hP : sdP g [(q7, .inr (5, [.ref q1, .ref q8, .ref q9, .ref q10, .int (nI (sn st))])), (q8, .inl (gI g, 40, .inl s1)), (q9, .inl (gI g, 40, .inl s2)), (q10, .inl (gI g, 40, .inl s3)), (q1, .inr (6, [.ref q5, .int (nI n)])), (q5, .inl (gB g, 2000, .inl f))] s.heap := hP
  have hl := lv_entry ([.ref q7, .int (nI a), .int (nI z)]) (n := 4) (Nat.le_of_ble_eq_true rfl)
  rw [lg_entry_eq]
  generalize (lg_sl ([.ref q7, .int (nI a), .int (nI z)]) ++ List.replicate (4 - (lg_sl ([.ref q7, .int (nI a), .int (nI z)])).length) Slot.unset).toArray = ls at hl ⊢
  have hl : lv_has ls 4 [(0, .ref q7), (1, .int (nI a)), (2, .int (nI z))] := hl
  have h40 := hSR.1
  have hn := hT.1
  refine lv_iconst (v := (nI 0)) hx hb d_Sym_symbolOf_0 (by decide) ?_
  refine lv_istore_n (lv' := [(3, .int (nI 0)), (0, .ref q7), (1, .int (nI a)), (2, .int (nI z))]) hx hb d_Sym_symbolOf_1 rfl hl (by decide) rfl (fun ls hl => ?_)
  refine sd_loopr (fun (i : Nat) ls => lv_has ls 4 [(3, .int (nI i)), (0, .ref q7), (1, .int (nI a)), (2, .int (nI z))] ∧ (i ≤ sn st) ∧ (∀ j, j < i → ¬ smM tx st a (z - a) j)) (fun (i : Nat) => sn st - i) 2 [] (fun i ls hI ih => ?_) (0) ⟨lv_sub hl [0, 1, 2, 3] rfl, Nat.zero_le _, fun j h6 => absurd h6 (by omega)⟩
  obtain ⟨hl, h2, h3⟩ := hI
  refine lv_iload_n hx hb d_Sym_symbolOf_2 rfl (lv_at hl 0 rfl) ?_
  refine lv_aload_n hx hb d_Sym_symbolOf_3 rfl (lv_at hl 1 rfl) ?_
  refine va_get (D := g.1) (ci := 5) (v := .int (nI (sn st))) (C := "SignDesk$Symbols") (T := F_Sym) (N := 5) hx hb hts in_Sym hown hK hP 0 rfl rfl 4 (by decide) (hts _ k_89) (fun _ h9 => h9) rfl d_Sym_symbolOf_4 ?_
  refine lv_icmp_ge (tgt := 50) hx hb d_Sym_symbolOf_7 (by decide) (fun c1 => ?_) (fun c1 => ?_)
  · have c1 := (nI_leI (by omega) (by omega)).mp c1
    have e1 : i = sn st := by omega
    rw [e1] at h3
    refine lv_aload_n hx hb d_Sym_symbolOf_50 rfl (lv_at hl 1 rfl) ?_
    refine va_get (D := g.1) (ci := 5) (v := .int (nI (sn st))) (C := "SignDesk$Symbols") (T := F_Sym) (N := 5) hx hb hts in_Sym hown hK hP 0 rfl rfl 4 (by decide) (hts _ k_89) (fun _ h9 => h9) rfl d_Sym_symbolOf_51 ?_
    refine lv_bipush (v := (nI 40)) hx hb d_Sym_symbolOf_54 (by decide) ?_
    refine lv_icmp_lt (tgt := 61) hx hb d_Sym_symbolOf_56 (by decide) (fun c2 => ?_) (fun c2 => ?_)
    · have c2 := (nI_ltI (by omega) (by omega)).mp c2
      refine lv_aload_n hx hb d_Sym_symbolOf_61 rfl (lv_at hl 1 rfl) ?_
      refine va_get (D := g.1) (ci := 5) (v := .ref q8) (C := "SignDesk$Symbols") (T := F_Sym) (N := 5) hx hb hts in_Sym hown hK hP 0 rfl rfl 1 (by decide) (hts _ k_86) (fun _ h9 => h9) rfl d_Sym_symbolOf_62 ?_
      refine lv_aload_n hx hb d_Sym_symbolOf_65 rfl (lv_at hl 1 rfl) ?_
      refine va_get (D := g.1) (ci := 5) (v := .int (nI (sn st))) (C := "SignDesk$Symbols") (T := F_Sym) (N := 5) hx hb hts in_Sym hown hK hP 0 rfl rfl 4 (by decide) (hts _ k_89) (fun _ h9 => h9) rfl d_Sym_symbolOf_66 ?_
      refine lv_iload_n hx hb d_Sym_symbolOf_69 rfl (lv_at hl 2 rfl) ?_
      refine va_iast hx hb hK hP hD hS 1 1 rfl rfl (i := (nI (sn st))) (x := (nI a)) (vp_in_nI (by omega) (by omega)) d_Sym_symbolOf_70 (fun H locs hP hD hS => ?_)
      have hP : sdP g [(q7, .inr (5, [.ref q1, .ref q8, .ref q9, .ref q10, .int (nI (sn st))])), (q8, .inl (gI g, 40, .inl (upd s1 ((nI (sn st))).toNatClampNeg (nI a)))), (q9, .inl (gI g, 40, .inl s2)), (q10, .inl (gI g, 40, .inl s3)), (q1, .inr (6, [.ref q5, .int (nI n)])), (q5, .inl (gB g, 2000, .inl f))] H := hP
      have hD : va_D A [(q7, .inr (5, [.ref q1, .ref q8, .ref q9, .ref q10, .int (nI (sn st))])), (q8, .inl (gI g, 40, .inl (upd s1 ((nI (sn st))).toNatClampNeg (nI a)))), (q9, .inl (gI g, 40, .inl s2)), (q10, .inl (gI g, 40, .inl s3)), (q1, .inr (6, [.ref q5, .int (nI n)])), (q5, .inl (gB g, 2000, .inl f))] := hD
      have eF : (upd s1 ((nI (sn st))).toNatClampNeg (nI a)) = (upd s1 (sn st) (nI a)) := by rw [nI_clamp (by omega)]
      rw [eF] at hP hD
      refine lv_aload_n hx hb d_Sym_symbolOf_71 rfl (lv_at hl 1 rfl) ?_
      refine va_get (D := g.1) (ci := 5) (v := .ref q9) (C := "SignDesk$Symbols") (T := F_Sym) (N := 5) hx hb hts in_Sym hown hK hP 0 rfl rfl 2 (by decide) (hts _ k_87) (fun _ h9 => h9) rfl d_Sym_symbolOf_72 ?_
      refine lv_aload_n hx hb d_Sym_symbolOf_75 rfl (lv_at hl 1 rfl) ?_
      refine va_get (D := g.1) (ci := 5) (v := .int (nI (sn st))) (C := "SignDesk$Symbols") (T := F_Sym) (N := 5) hx hb hts in_Sym hown hK hP 0 rfl rfl 4 (by decide) (hts _ k_89) (fun _ h9 => h9) rfl d_Sym_symbolOf_76 ?_
      refine lv_iload_n hx hb d_Sym_symbolOf_79 rfl (lv_at hl 3 rfl) ?_
      refine lv_iload_n hx hb d_Sym_symbolOf_80 rfl (lv_at hl 2 rfl) ?_
      refine lv_isub hx hb d_Sym_symbolOf_81 ?_
      refine sd_topi (y := nI (z - a)) (pk_sub (by omega)) ?_
      refine va_iast hx hb hK hP hD hS 2 1 rfl rfl (i := (nI (sn st))) (x := (nI (z - a))) (vp_in_nI (by omega) (by omega)) d_Sym_symbolOf_82 (fun H locs hP hD hS => ?_)
      have hP : sdP g [(q7, .inr (5, [.ref q1, .ref q8, .ref q9, .ref q10, .int (nI (sn st))])), (q8, .inl (gI g, 40, .inl (upd s1 (sn st) (nI a)))), (q9, .inl (gI g, 40, .inl (upd s2 ((nI (sn st))).toNatClampNeg (nI (z - a))))), (q10, .inl (gI g, 40, .inl s3)), (q1, .inr (6, [.ref q5, .int (nI n)])), (q5, .inl (gB g, 2000, .inl f))] H := hP
      have hD : va_D A [(q7, .inr (5, [.ref q1, .ref q8, .ref q9, .ref q10, .int (nI (sn st))])), (q8, .inl (gI g, 40, .inl (upd s1 (sn st) (nI a)))), (q9, .inl (gI g, 40, .inl (upd s2 ((nI (sn st))).toNatClampNeg (nI (z - a))))), (q10, .inl (gI g, 40, .inl s3)), (q1, .inr (6, [.ref q5, .int (nI n)])), (q5, .inl (gB g, 2000, .inl f))] := hD
      have eF : (upd s2 ((nI (sn st))).toNatClampNeg (nI (z - a))) = (upd s2 (sn st) (nI (z - a))) := by rw [nI_clamp (by omega)]
      rw [eF] at hP hD
      refine lv_aload_n hx hb d_Sym_symbolOf_83 rfl (lv_at hl 1 rfl) ?_
      refine va_get (D := g.1) (ci := 5) (v := .ref q10) (C := "SignDesk$Symbols") (T := F_Sym) (N := 5) hx hb hts in_Sym hown hK hP 0 rfl rfl 3 (by decide) (hts _ k_88) (fun _ h9 => h9) rfl d_Sym_symbolOf_84 ?_
      refine lv_aload_n hx hb d_Sym_symbolOf_87 rfl (lv_at hl 1 rfl) ?_
      refine va_get (D := g.1) (ci := 5) (v := .int (nI (sn st))) (C := "SignDesk$Symbols") (T := F_Sym) (N := 5) hx hb hts in_Sym hown hK hP 0 rfl rfl 4 (by decide) (hts _ k_89) (fun _ h9 => h9) rfl d_Sym_symbolOf_88 ?_
      refine lv_iconst (v := (-1)) hx hb d_Sym_symbolOf_91 (by decide) ?_
      refine va_iast hx hb hK hP hD hS 3 1 rfl rfl (i := (nI (sn st))) (x := (-1)) (vp_in_nI (by omega) (by omega)) d_Sym_symbolOf_92 (fun H locs hP hD hS => ?_)
      have hP : sdP g [(q7, .inr (5, [.ref q1, .ref q8, .ref q9, .ref q10, .int (nI (sn st))])), (q8, .inl (gI g, 40, .inl (upd s1 (sn st) (nI a)))), (q9, .inl (gI g, 40, .inl (upd s2 (sn st) (nI (z - a))))), (q10, .inl (gI g, 40, .inl (upd s3 ((nI (sn st))).toNatClampNeg (-1)))), (q1, .inr (6, [.ref q5, .int (nI n)])), (q5, .inl (gB g, 2000, .inl f))] H := hP
      have hD : va_D A [(q7, .inr (5, [.ref q1, .ref q8, .ref q9, .ref q10, .int (nI (sn st))])), (q8, .inl (gI g, 40, .inl (upd s1 (sn st) (nI a)))), (q9, .inl (gI g, 40, .inl (upd s2 (sn st) (nI (z - a))))), (q10, .inl (gI g, 40, .inl (upd s3 ((nI (sn st))).toNatClampNeg (-1)))), (q1, .inr (6, [.ref q5, .int (nI n)])), (q5, .inl (gB g, 2000, .inl f))] := hD
      have eF : (upd s3 ((nI (sn st))).toNatClampNeg (-1)) = (upd s3 (sn st) (-1)) := by rw [nI_clamp (by omega)]
      rw [eF] at hP hD
      refine lv_aload_n hx hb d_Sym_symbolOf_93 rfl (lv_at hl 1 rfl) ?_
      refine lv_dup hx hb d_Sym_symbolOf_94 rfl ?_
      refine va_get (D := g.1) (ci := 5) (v := .int (nI (sn st))) (C := "SignDesk$Symbols") (T := F_Sym) (N := 5) hx hb hts in_Sym hown hK hP 0 rfl rfl 4 (by decide) (hts _ k_89) (fun _ h9 => h9) rfl d_Sym_symbolOf_95 ?_
      refine lv_iconst (v := (nI 1)) hx hb d_Sym_symbolOf_98 (by decide) ?_
      refine lv_iadd hx hb d_Sym_symbolOf_99 ?_
      refine sd_topi (y := nI ((sn st) + 1)) (nI_add _ _) ?_
      refine va_put (D := g.1) (ci := 5) (v := .int (nI ((sn st) + 1))) (ty := .int) (C := "SignDesk$Symbols") (T := F_Sym) (N := 5) hx hb hts in_Sym t_Sym t_Sym_ok n_Sym hown hK hP hD hS 0 rfl rfl 4 (by decide) (hts _ k_89) (fun _ h9 => h9) rfl (by decide +kernel) rfl rfl (Nat.le_of_ble_eq_true rfl) d_Sym_symbolOf_100 (fun H locs hP hD hS => ?_)
      have hP : sdP g [(q7, .inr (5, [.ref q1, .ref q8, .ref q9, .ref q10, .int (nI ((sn st) + 1))])), (q8, .inl (gI g, 40, .inl (upd s1 (sn st) (nI a)))), (q9, .inl (gI g, 40, .inl (upd s2 (sn st) (nI (z - a))))), (q10, .inl (gI g, 40, .inl (upd s3 (sn st) (-1)))), (q1, .inr (6, [.ref q5, .int (nI n)])), (q5, .inl (gB g, 2000, .inl f))] H := hP
      have hD : va_D A [(q7, .inr (5, [.ref q1, .ref q8, .ref q9, .ref q10, .int (nI ((sn st) + 1))])), (q8, .inl (gI g, 40, .inl (upd s1 (sn st) (nI a)))), (q9, .inl (gI g, 40, .inl (upd s2 (sn st) (nI (z - a))))), (q10, .inl (gI g, 40, .inl (upd s3 (sn st) (-1)))), (q1, .inr (6, [.ref q5, .int (nI n)])), (q5, .inl (gB g, 2000, .inl f))] := hD
      refine lv_aload_n hx hb d_Sym_symbolOf_103 rfl (lv_at hl 1 rfl) ?_
      refine va_get (D := g.1) (ci := 5) (v := .int (nI ((sn st) + 1))) (C := "SignDesk$Symbols") (T := F_Sym) (N := 5) hx hb hts in_Sym hown hK hP 0 rfl rfl 4 (by decide) (hts _ k_89) (fun _ h9 => h9) rfl d_Sym_symbolOf_104 ?_
      refine lv_iconst (v := (nI 1)) hx hb d_Sym_symbolOf_107 (by decide) ?_
      refine lv_isub hx hb d_Sym_symbolOf_108 ?_
      have hP9 := hP.sub (ws' := [(q7, .inr (5, [.ref q1, .ref q8, .ref q9, .ref q10, .int (nI ((sn st) + 1))])), (q8, .inl (gI g, 40, .inl (upd s1 (sn st) (nI a)))), (q9, .inl (gI g, 40, .inl (upd s2 (sn st) (nI (z - a))))), (q10, .inl (gI g, 40, .inl (upd s3 (sn st) (-1)))), (q1, .inr (6, [.ref q5, .int (nI n)])), (q5, .inl (gB g, 2000, .inl f))]) [0, 1, 2, 3, 4, 5] rfl
      have hD9 := hD.sub (ws' := [(q7, .inr (5, [.ref q1, .ref q8, .ref q9, .ref q10, .int (nI ((sn st) + 1))])), (q8, .inl (gI g, 40, .inl (upd s1 (sn st) (nI a)))), (q9, .inl (gI g, 40, .inl (upd s2 (sn st) (nI (z - a))))), (q10, .inl (gI g, 40, .inl (upd s3 (sn st) (-1)))), (q1, .inr (6, [.ref q5, .int (nI n)])), (q5, .inl (gB g, 2000, .inl f))]) [0, 1, 2, 3, 4, 5] (by decide) rfl
      exact W.iret (v := ((nI ((sn st) + 1)) - (nI 1))) hx hb hr (fun t ht hW => ⟨⟨_, (addS st a (z - a) 0, upd s1 (sn st) (nI a), upd s2 (sn st) (nI (z - a)), upd s3 (sn st) (-1)), rfl, ⟨⟨_, syO_new h3 (by omega), rfl⟩, SR_add hSR (by omega) (by omega)⟩, by rw [ht]; exact hP9, by rw [hAe]; exact hD9⟩, hS.F ht⟩) hS.2.2 d_Sym_symbolOf_109
    · have c2 := mt (nI_ltI (by omega) (by omega)).mpr c2
      refine lv_iconst (v := (-1)) hx hb d_Sym_symbolOf_59 (by decide) ?_
      have hP9 := hP.sub (ws' := [(q7, .inr (5, [.ref q1, .ref q8, .ref q9, .ref q10, .int (nI (sn st))])), (q8, .inl (gI g, 40, .inl s1)), (q9, .inl (gI g, 40, .inl s2)), (q10, .inl (gI g, 40, .inl s3)), (q1, .inr (6, [.ref q5, .int (nI n)])), (q5, .inl (gB g, 2000, .inl f))]) [0, 1, 2, 3, 4, 5] rfl
      have hD9 := hD.sub (ws' := [(q7, .inr (5, [.ref q1, .ref q8, .ref q9, .ref q10, .int (nI (sn st))])), (q8, .inl (gI g, 40, .inl s1)), (q9, .inl (gI g, 40, .inl s2)), (q10, .inl (gI g, 40, .inl s3)), (q1, .inr (6, [.ref q5, .int (nI n)])), (q5, .inl (gB g, 2000, .inl f))]) [0, 1, 2, 3, 4, 5] (by decide) rfl
      exact W.iret (v := (-1)) hx hb hr (fun t ht hW => ⟨⟨_, (st, s1, s2, s3), rfl, ⟨⟨_, syO_full h3 (by omega), by decide⟩, hSR⟩, by rw [ht]; exact hP9, by rw [hAe]; exact hD9⟩, hS.F ht⟩) hS.2.2 d_Sym_symbolOf_60
  · have c1 := mt (nI_leI (by omega) (by omega)).mpr c1
    have hi4 : i < sn st := by omega
    obtain ⟨a1, a2, a3, a4, a5⟩ := hSR.2 i hi4
    refine lv_aload_n hx hb d_Sym_symbolOf_10 rfl (lv_at hl 1 rfl) ?_
    refine va_get (D := g.1) (ci := 5) (v := .ref q9) (C := "SignDesk$Symbols") (T := F_Sym) (N := 5) hx hb hts in_Sym hown hK hP 0 rfl rfl 2 (by decide) (hts _ k_87) (fun _ h9 => h9) rfl d_Sym_symbolOf_11 ?_
    refine lv_iload_n hx hb d_Sym_symbolOf_14 rfl (lv_at hl 0 rfl) ?_
    refine va_iald hx hb hK hP 2 1 rfl rfl (i := (nI i)) (vp_in_nI (by omega) (by omega)) d_Sym_symbolOf_15 ?_
    refine sd_topi (y := nI (sl st i)) (by rw [nI_clamp (by omega)]; exact a2) ?_
    refine lv_iload_n hx hb d_Sym_symbolOf_16 rfl (lv_at hl 3 rfl) ?_
    refine lv_iload_n hx hb d_Sym_symbolOf_17 rfl (lv_at hl 2 rfl) ?_
    refine lv_isub hx hb d_Sym_symbolOf_18 ?_
    refine sd_topi (y := nI (z - a)) (pk_sub (by omega)) ?_
    refine lv_icmp_ne (tgt := 44) hx hb d_Sym_symbolOf_19 (by decide) (fun c3 => ?_) (fun c3 => ?_)
    · have c3 := mt (nI_eq (by omega) (by omega)).mpr c3
      refine lv_iinc (v := (nI (i + 1))) (lv' := [(3, .int (nI (i + 1))), (0, .ref q7), (1, .int (nI a)), (2, .int (nI z))]) hx hb d_Sym_symbolOf_44 hl (k := 0) rfl (nI_1 _) (by decide) rfl (fun ls hl => ?_)
      refine lv_goto (tgt := 2) hx hb d_Sym_symbolOf_47 (by decide) ?_
      exact ih (i + 1) _ ⟨lv_sub hl [0, 1, 2, 3] rfl, by omega, fun j h6 => by
          rcases Nat.lt_or_ge j i with q | q
          · exact h3 j q
          · have : j = i := by omega
            subst this; exact fun q => c3 q.1⟩ (show sn st - (i + 1) < sn st - i by omega)
    · have c3 := (nI_eq (by omega) (by omega)).mp c3
      refine lv_aload_n hx hb d_Sym_symbolOf_22 rfl (lv_at hl 1 rfl) ?_
      refine va_get (D := g.1) (ci := 5) (v := .ref q1) (C := "SignDesk$Symbols") (T := F_Sym) (N := 5) hx hb hts in_Sym hown hK hP 0 rfl rfl 0 (by decide) (hts _ k_85) (fun _ h9 => h9) rfl d_Sym_symbolOf_23 ?_
      refine lv_aload_n hx hb d_Sym_symbolOf_26 rfl (lv_at hl 1 rfl) ?_
      refine va_get (D := g.1) (ci := 5) (v := .ref q8) (C := "SignDesk$Symbols") (T := F_Sym) (N := 5) hx hb hts in_Sym hown hK hP 0 rfl rfl 1 (by decide) (hts _ k_86) (fun _ h9 => h9) rfl d_Sym_symbolOf_27 ?_
      refine lv_iload_n hx hb d_Sym_symbolOf_30 rfl (lv_at hl 0 rfl) ?_
      refine va_iald hx hb hK hP 1 1 rfl rfl (i := (nI i)) (vp_in_nI (by omega) (by omega)) d_Sym_symbolOf_31 ?_
      refine sd_topi (y := nI (sa st i)) (by rw [nI_clamp (by omega)]; exact a1) ?_
      refine lv_iload_n hx hb d_Sym_symbolOf_32 rfl (lv_at hl 2 rfl) ?_
      refine lv_iload_n hx hb d_Sym_symbolOf_33 rfl (lv_at hl 3 rfl) ?_
      refine lv_iload_n hx hb d_Sym_symbolOf_34 rfl (lv_at hl 2 rfl) ?_
      refine lv_isub hx hb d_Sym_symbolOf_35 ?_
      refine sd_topi (y := nI (z - a)) (pk_sub (by omega)) ?_
      refine sd_ri (va_runV (As := [.int (nI (sa st i)), .int (nI a), .int (nI (z - a))]) (rest := []) ⟨hx, hb, hml, hown, hts⟩ (c_Txt_isSame l g q1 q5 n f tx hT (sa st i) a (z - a) (by omega) (by omega) (by omega)) (cwV 3 hts (sd_gV k_316 k_317 k_318 k_24 k_319) rfl rfl rfl (by decide +kernel) ⟨Nat.le_of_ble_eq_true rfl, Nat.le_of_ble_eq_true rfl⟩) (sd_preV hK hE (sd_fr hS hA0) (hP.sub (ws' := [(q1, .inr (6, [.ref q5, .int (nI n)])), (q5, .inl (gB g, 2000, .inl f))]) [4, 5] rfl) rfl rfl) rfl rfl hl.1 rfl (lv_room (Nat.le_of_ble_eq_true rfl)) d_Sym_symbolOf_36 ⟨Nat.zero_le _, Nat.zero_le _⟩) (fun r4 er4 => ?_)
      subst er4
      refine lv_if_eq (tgt := 44) hx hb d_Sym_symbolOf_39 (by decide) (fun c5 => ?_) (fun c5 => ?_)
      · have c5 := sb_eq0.mp c5
        refine lv_iinc (v := (nI (i + 1))) (lv' := [(3, .int (nI (i + 1))), (0, .ref q7), (1, .int (nI a)), (2, .int (nI z))]) hx hb d_Sym_symbolOf_44 hl (k := 0) rfl (nI_1 _) (by decide) rfl (fun ls hl => ?_)
        refine lv_goto (tgt := 2) hx hb d_Sym_symbolOf_47 (by decide) ?_
        exact ih (i + 1) _ ⟨lv_sub hl [0, 1, 2, 3] rfl, by omega, fun j h6 => by
            rcases Nat.lt_or_ge j i with q | q
            · exact h3 j q
            · have : j = i := by omega
              subst this; exact fun q => c5 q.2⟩ (show sn st - (i + 1) < sn st - i by omega)
      · have c5 := sb_ne0.mp c5
        refine lv_iload_n hx hb d_Sym_symbolOf_42 rfl (lv_at hl 0 rfl) ?_
        have hP9 := hP.sub (ws' := [(q7, .inr (5, [.ref q1, .ref q8, .ref q9, .ref q10, .int (nI (sn st))])), (q8, .inl (gI g, 40, .inl s1)), (q9, .inl (gI g, 40, .inl s2)), (q10, .inl (gI g, 40, .inl s3)), (q1, .inr (6, [.ref q5, .int (nI n)])), (q5, .inl (gB g, 2000, .inl f))]) [0, 1, 2, 3, 4, 5] rfl
        have hD9 := hD.sub (ws' := [(q7, .inr (5, [.ref q1, .ref q8, .ref q9, .ref q10, .int (nI (sn st))])), (q8, .inl (gI g, 40, .inl s1)), (q9, .inl (gI g, 40, .inl s2)), (q10, .inl (gI g, 40, .inl s3)), (q1, .inr (6, [.ref q5, .int (nI n)])), (q5, .inl (gB g, 2000, .inl f))]) [0, 1, 2, 3, 4, 5] (by decide) rfl
        exact W.iret (v := (nI i)) hx hb hr (fun t ht hW => ⟨⟨_, (st, s1, s2, s3), rfl, ⟨⟨_, syO_hit hi4 ⟨c3, c5⟩ h3, (nI_pred _).symm⟩, hSR⟩, by rw [ht]; exact hP9, by rw [hAe]; exact hD9⟩, hS.F ht⟩) hS.2.2 d_Sym_symbolOf_43
