/-- the state of the reading: words (their codes, their symbols + 1, 0 without), symbols (where, how long, number + 1, 0 untold) -/
abbrev AS : Type := (Nat × (Nat → Nat) × (Nat → Nat)) × (Nat × (Nat → Nat) × (Nat → Nat) × (Nat → Nat))
abbrev wn (st : AS) : Nat := st.1.1
abbrev wc (st : AS) : Nat → Nat := st.1.2.1
abbrev wy (st : AS) : Nat → Nat := st.1.2.2
abbrev sn (st : AS) : Nat := st.2.1
abbrev sa (st : AS) : Nat → Nat := st.2.2.1
abbrev sl (st : AS) : Nat → Nat := st.2.2.2.1
abbrev sv (st : AS) : Nat → Nat := st.2.2.2.2
set_option maxHeartbeats 4000000 in
set_option maxRecDepth 100000 in
/-- size -/
theorem c_Prg_size (l : Launch) (g : sdG) (q2 q6 pn : Nat) (pw : Nat → Int32) (hp : pn ≤ 600) : Met l y_Prg_size (.code y_Prg_size b_Prg_size 1 (some .int) :: sdT) ({ frames := 0, cells := 0, slots := 0, locals := 0 }) (va_Pc [.ref q2] (sdR g [(q2, .inr (3, [.ref q6, .int (nI pn)])), (q6, .inl (gI g, 600, .inl pw))])) (vp_Si (fun r => r = nI pn)) 0 0 (fun _ => False) := by
  refine Met.ofW (cc := b_Prg_size) (maxL := 1) (ret := (some .int)) (by decide) rfl ?_
  intro p ev s m args below meth c s₁ B hml hv
  obtain ⟨rfl, hP, hK, hE⟩ := hv
  have hx := B.exec
  have hb := B.bytes
  have hr := B.returns
  have hts := fun (w : Cond) (h : w ∈ sdT) => atoms_spec (ws := (.code y_Prg_size b_Prg_size 1 (some .int) :: sdT)) B.pre w (List.mem_cons_of_mem _ h)
  have hown : s.vm.findClass "SignDesk$Program" = some m.cls := findClass_of_methodNamed B.named
  have hlocks := B.notSynchronized
  have hF : ∀ a : Nat, a < s.heap.size → ¬ sdA g a → s.heap[a]? = s.heap[a]? := fun _ _ _ => rfl
  have hP : sdP g [(q2, .inr (3, [.ref q6, .int (nI pn)])), (q6, .inl (gI g, 600, .inl pw))] s.heap := hP
  have hl := lv_entry ([.ref q2]) (n := 1) (Nat.le_of_ble_eq_true rfl)
  rw [lg_entry_eq]
  generalize (lg_sl ([.ref q2]) ++ List.replicate (1 - (lg_sl ([.ref q2])).length) Slot.unset).toArray = ls at hl ⊢
  have hl : lv_has ls 1 [(0, .ref q2)] := hl
  refine lv_aload_n hx hb d_Prg_size_0 rfl (lv_at hl 0 rfl) ?_
  refine va_get (D := g.1) (ci := 3) (v := .int (nI pn)) (C := "SignDesk$Program") (T := F_Prg) (N := 2) hx hb hts in_Prg hown hK hP 0 rfl rfl 1 (by decide) (hts _ k_66) (fun _ h9 => h9) rfl d_Prg_size_1 ?_
  exact W.iret (v := (nI pn)) hx hb hr  (fun t ht hW => ⟨_, rfl, rfl, ht⟩) (fun _ h => by cases h) d_Prg_size_4
set_option maxHeartbeats 4000000 in
set_option maxRecDepth 100000 in
/-- isFull -/
theorem c_Prg_isFull (l : Launch) (g : sdG) (q2 q6 pn : Nat) (pw : Nat → Int32) (hp : pn ≤ 600) : Met l y_Prg_isFull (.code y_Prg_isFull b_Prg_isFull 1 (some .boolean) :: sdT) ({ frames := 0, cells := 0, slots := 0, locals := 0 }) (va_Pc [.ref q2] (sdR g [(q2, .inr (3, [.ref q6, .int (nI pn)])), (q6, .inl (gI g, 600, .inl pw))])) (vp_Si (fun r => r = sb (600 ≤ pn))) 0 0 (fun _ => False) := by
  refine Met.ofW (cc := b_Prg_isFull) (maxL := 1) (ret := (some .boolean)) (by decide) rfl ?_
  intro p ev s m args below meth c s₁ B hml hv
  obtain ⟨rfl, hP, hK, hE⟩ := hv
  have hx := B.exec
  have hb := B.bytes
  have hr := B.returns
  have hts := fun (w : Cond) (h : w ∈ sdT) => atoms_spec (ws := (.code y_Prg_isFull b_Prg_isFull 1 (some .boolean) :: sdT)) B.pre w (List.mem_cons_of_mem _ h)
  have hown : s.vm.findClass "SignDesk$Program" = some m.cls := findClass_of_methodNamed B.named
  have hlocks := B.notSynchronized
  have hF : ∀ a : Nat, a < s.heap.size → ¬ sdA g a → s.heap[a]? = s.heap[a]? := fun _ _ _ => rfl
  have hP : sdP g [(q2, .inr (3, [.ref q6, .int (nI pn)])), (q6, .inl (gI g, 600, .inl pw))] s.heap := hP
  have hl := lv_entry ([.ref q2]) (n := 1) (Nat.le_of_ble_eq_true rfl)
  rw [lg_entry_eq]
  generalize (lg_sl ([.ref q2]) ++ List.replicate (1 - (lg_sl ([.ref q2])).length) Slot.unset).toArray = ls at hl ⊢
  have hl : lv_has ls 1 [(0, .ref q2)] := hl
  refine lv_aload_n hx hb d_Prg_isFull_0 rfl (lv_at hl 0 rfl) ?_
  refine va_get (D := g.1) (ci := 3) (v := .int (nI pn)) (C := "SignDesk$Program") (T := F_Prg) (N := 2) hx hb hts in_Prg hown hK hP 0 rfl rfl 1 (by decide) (hts _ k_66) (fun _ h9 => h9) rfl d_Prg_isFull_1 ?_
  refine lv_sipush (v := (nI 600)) hx hb d_Prg_isFull_4 (by decide) ?_
  refine lv_icmp_lt (tgt := 14) hx hb d_Prg_isFull_7 (by decide) (fun c1 => ?_) (fun c1 => ?_)
  · have c1 := (nI_ltI (by omega) (by omega)).mp c1
    refine lv_iconst (v := (nI 0)) hx hb d_Prg_isFull_14 (by decide) ?_
    exact W.zret (v := (nI 0)) hx hb hr (by first | rfl | decide | exact sb_nar) (fun t ht hW => ⟨_, rfl, (sb_f (by omega)).symm, ht⟩) (fun _ h => by cases h) d_Prg_isFull_15
  · have c1 := mt (nI_ltI (by omega) (by omega)).mpr c1
    refine lv_iconst (v := (nI 1)) hx hb d_Prg_isFull_10 (by decide) ?_
    refine lv_goto (tgt := 15) hx hb d_Prg_isFull_11 (by decide) ?_
    exact W.zret (v := (nI 1)) hx hb hr (by first | rfl | decide | exact sb_nar) (fun t ht hW => ⟨_, rfl, (sb_t (by omega)).symm, ht⟩) (fun _ h => by cases h) d_Prg_isFull_15
set_option maxHeartbeats 4000000 in
set_option maxRecDepth 100000 in
/-- wordAt -/
theorem c_Prg_wordAt (l : Launch) (g : sdG) (q2 q6 pn : Nat) (pw : Nat → Int32) (hp : pn ≤ 600) (x : Int32) : Met l y_Prg_wordAt (.code y_Prg_wordAt b_Prg_wordAt 2 (some .int) :: sdT) ({ frames := 0, cells := 0, slots := 0, locals := 0 }) (va_Pc [.ref q2, .int x] (sdR g [(q2, .inr (3, [.ref q6, .int (nI pn)])), (q6, .inl (gI g, 600, .inl pw))])) (vp_Si (fun r => (∀ j, j < pn → x = nI j → r = pw j) ∧ ((x < 0 ∨ nI pn ≤ x) → r = -1))) 0 0 (fun _ => False) := by
  refine Met.ofW (cc := b_Prg_wordAt) (maxL := 2) (ret := (some .int)) (by decide) rfl ?_
  intro p ev s m args below meth c s₁ B hml hv
  obtain ⟨rfl, hP, hK, hE⟩ := hv
  have hx := B.exec
  have hb := B.bytes
  have hr := B.returns
  have hts := fun (w : Cond) (h : w ∈ sdT) => atoms_spec (ws := (.code y_Prg_wordAt b_Prg_wordAt 2 (some .int) :: sdT)) B.pre w (List.mem_cons_of_mem _ h)
  have hown : s.vm.findClass "SignDesk$Program" = some m.cls := findClass_of_methodNamed B.named
  have hlocks := B.notSynchronized
  have hF : ∀ a : Nat, a < s.heap.size → ¬ sdA g a → s.heap[a]? = s.heap[a]? := fun _ _ _ => rfl
  have hP : sdP g [(q2, .inr (3, [.ref q6, .int (nI pn)])), (q6, .inl (gI g, 600, .inl pw))] s.heap := hP
  have hl := lv_entry ([.ref q2, .int x]) (n := 2) (Nat.le_of_ble_eq_true rfl)
  rw [lg_entry_eq]
  generalize (lg_sl ([.ref q2, .int x]) ++ List.replicate (2 - (lg_sl ([.ref q2, .int x])).length) Slot.unset).toArray = ls at hl ⊢
  have hl : lv_has ls 2 [(0, .ref q2), (1, .int x)] := hl
  refine lv_iload_n hx hb d_Prg_wordAt_0 rfl (lv_at hl 1 rfl) ?_
  refine lv_if_lt (tgt := 21) hx hb d_Prg_wordAt_1 (by decide) (fun c1 => ?_) (fun c1 => ?_)
  · refine lv_iconst (v := (-1)) hx hb d_Prg_wordAt_21 (by decide) ?_
    exact W.iret (v := (-1)) hx hb hr  (fun t ht hW => ⟨_, rfl, ⟨fun j hj e => absurd (e ▸ c1) (nI_pos (by omega)), fun _ => rfl⟩, ht⟩) (fun _ h => by cases h) d_Prg_wordAt_22
  · refine lv_iload_n hx hb d_Prg_wordAt_4 rfl (lv_at hl 1 rfl) ?_
    refine lv_aload_n hx hb d_Prg_wordAt_5 rfl (lv_at hl 0 rfl) ?_
    refine va_get (D := g.1) (ci := 3) (v := .int (nI pn)) (C := "SignDesk$Program") (T := F_Prg) (N := 2) hx hb hts in_Prg hown hK hP 0 rfl rfl 1 (by decide) (hts _ k_66) (fun _ h9 => h9) rfl d_Prg_wordAt_6 ?_
    refine lv_icmp_ge (tgt := 21) hx hb d_Prg_wordAt_9 (by decide) (fun c2 => ?_) (fun c2 => ?_)
    · refine lv_iconst (v := (-1)) hx hb d_Prg_wordAt_21 (by decide) ?_
      exact W.iret (v := (-1)) hx hb hr  (fun t ht hW => ⟨_, rfl, ⟨fun j hj e => absurd (e ▸ c2) (nI_ge hj (by omega)), fun _ => rfl⟩, ht⟩) (fun _ h => by cases h) d_Prg_wordAt_22
    · obtain ⟨j, hj, ej⟩ : ∃ j : Nat, j < pn ∧ x = nI j := by
        rcases pk_ix x (n := pn) (by omega) with h | h | h
        · exact absurd h c1
        · exact absurd h c2
        · exact h
      refine lv_aload_n hx hb d_Prg_wordAt_12 rfl (lv_at hl 0 rfl) ?_
      refine va_get (D := g.1) (ci := 3) (v := .ref q6) (C := "SignDesk$Program") (T := F_Prg) (N := 2) hx hb hts in_Prg hown hK hP 0 rfl rfl 0 (by decide) (hts _ k_65) (fun _ h9 => h9) rfl d_Prg_wordAt_13 ?_
      refine lv_iload_n hx hb d_Prg_wordAt_16 rfl (lv_at hl 1 rfl) ?_
      refine va_iald hx hb hK hP 1 1 rfl rfl (i := x) (by rw [ej]; exact vp_in_nI (by omega) (by omega)) d_Prg_wordAt_17 ?_
      refine lv_goto (tgt := 22) hx hb d_Prg_wordAt_18 (by decide) ?_
      exact W.iret (v := (pw (x).toNatClampNeg)) hx hb hr  (fun t ht hW => ⟨_, rfl, ⟨fun k hk e => by
          have : k = j := (nI_eq (by omega) (by omega)).mp (e.symm.trans ej)
          subst this; rw [ej, nI_clamp (by omega)], fun h => h.elim (fun h => absurd h c1) (fun h => absurd h c2)⟩, ht⟩) (fun _ h => by cases h) d_Prg_wordAt_22
set_option maxHeartbeats 4000000 in
set_option maxRecDepth 100000 in
/-- clear -/
theorem c_Prg_clear (l : Launch) (g : sdG) (q2 q6 : Nat) (px : Int32) (pw : Nat → Int32) (sz : Nat) : Met l y_Prg_clear (.code y_Prg_clear b_Prg_clear 1 none :: sdT) ({ frames := 0, cells := 0, slots := 0, locals := 0 }) (va_Pc [.ref q2] (sdU g [(q2, .inr (3, [.ref q6, .int px])), (q6, .inl (gI g, 600, .inl pw))] sz)) (va_Qv (S := Unit) (fun _ => True) (fun u t => sdB g [(q2, .inr (3, [.ref q6, .int px])), (q6, .inl (gI g, 600, .inl pw))] sz ((fun _ => [(q2, .inr (3, [.ref q6, .int (nI 0)])), (q6, .inl (gI g, 600, .inl pw))] : Unit → va_W) u) t) (va_A [(q2, .inr (3, [.ref q6, .int px])), (q6, .inl (gI g, 600, .inl pw))] sz)) 0 0 (va_A [(q2, .inr (3, [.ref q6, .int px])), (q6, .inl (gI g, 600, .inl pw))] sz) := by
  refine Met.ofW (cc := b_Prg_clear) (maxL := 1) (ret := none) (by decide) rfl ?_
  intro p ev s m args below meth c s₁ B hml hv
  obtain ⟨rfl, hsz, hP, hK, hE, hD0, hs0⟩ := hv
  have hx := B.exec
  have hb := B.bytes
  have hr := B.returns
  have hts := fun (w : Cond) (h : w ∈ sdT) => atoms_spec (ws := (.code y_Prg_clear b_Prg_clear 1 none :: sdT)) B.pre w (List.mem_cons_of_mem _ h)
  have hown : s.vm.findClass "SignDesk$Program" = some m.cls := findClass_of_methodNamed B.named
  have hlocks := B.notSynchronized
  subst hsz
  have hD := hD0.self (sz := s.heap.size)
  have hA0 : ∀ q : Nat, va_A [(q2, .inr (3, [.ref q6, .int px])), (q6, .inl (gI g, 600, .inl pw))] s.heap.size q → gS g ≤ q := fun q h => h.elim (fun ⟨k, e, hk⟩ => hD0.2 k _ hk) (fun h => Nat.le_trans hs0 h)
  have hA : ∀ q : Nat, s.heap.size ≤ q → va_A [(q2, .inr (3, [.ref q6, .int px])), (q6, .inl (gI g, 600, .inl pw))] s.heap.size q := fun q h => Or.inr h
  generalize hAe : va_A [(q2, .inr (3, [.ref q6, .int px])), (q6, .inl (gI g, 600, .inl pw))] s.heap.size = A at hD hA0 hA ⊢
  have hS : va_S A s.heap s.heap [] := va_S.rf
  have hP : sdP g [(q2, .inr (3, [.ref q6, .int px])), (q6, .inl (gI g, 600, .inl pw))] s.heap := hP
  have hl := lv_entry ([.ref q2]) (n := 1) (Nat.le_of_ble_eq_true rfl)
  rw [lg_entry_eq]
  generalize (lg_sl ([.ref q2]) ++ List.replicate (1 - (lg_sl ([.ref q2])).length) Slot.unset).toArray = ls at hl ⊢
  have hl : lv_has ls 1 [(0, .ref q2)] := hl
  refine lv_aload_n hx hb d_Prg_clear_0 rfl (lv_at hl 0 rfl) ?_
  refine lv_iconst (v := (nI 0)) hx hb d_Prg_clear_1 (by decide) ?_
  refine va_put (D := g.1) (ci := 3) (v := .int (nI 0)) (ty := .int) (C := "SignDesk$Program") (T := F_Prg) (N := 2) hx hb hts in_Prg t_Prg t_Prg_ok n_Prg hown hK hP hD hS 0 rfl rfl 1 (by decide) (hts _ k_66) (fun _ h9 => h9) rfl (by decide +kernel) rfl rfl (Nat.le_of_ble_eq_true rfl) d_Prg_clear_2 (fun H locs hP hD hS => ?_)
  have hP : sdP g [(q2, .inr (3, [.ref q6, .int (nI 0)])), (q6, .inl (gI g, 600, .inl pw))] H := hP
  have hD : va_D A [(q2, .inr (3, [.ref q6, .int (nI 0)])), (q6, .inl (gI g, 600, .inl pw))] := hD
  have hP9 := hP.sub (ws' := [(q2, .inr (3, [.ref q6, .int (nI 0)])), (q6, .inl (gI g, 600, .inl pw))]) [0, 1] rfl
  have hD9 := hD.sub (ws' := [(q2, .inr (3, [.ref q6, .int (nI 0)])), (q6, .inl (gI g, 600, .inl pw))]) [0, 1] (by decide) rfl
  exact W.vret hx hb hr (fun t ht hW => ⟨⟨(), rfl, trivial, by rw [ht]; exact hP9, by rw [hAe]; exact hD9⟩, hS.F ht⟩) hS.2.2 d_Prg_clear_5
set_option maxHeartbeats 4000000 in
set_option maxRecDepth 100000 in
/-- add -/
theorem c_Prg_add (l : Launch) (g : sdG) (q2 q6 pn : Nat) (pw : Nat → Int32) (hp : pn ≤ 600) (x : Int32) (hlt : pn < 600) (sz : Nat) : Met l y_Prg_add (.code y_Prg_add b_Prg_add 2 none :: sdT) ({ frames := 1, cells := 0, slots := 0, locals := 20 }) (va_Pc [.ref q2, .int x] (sdU g [(q2, .inr (3, [.ref q6, .int (nI pn)])), (q6, .inl (gI g, 600, .inl pw))] sz)) (va_Qv (S := Unit) (fun _ => True) (fun u t => sdB g [(q2, .inr (3, [.ref q6, .int (nI pn)])), (q6, .inl (gI g, 600, .inl pw))] sz ((fun _ => [(q2, .inr (3, [.ref q6, .int (nI (pn + 1))])), (q6, .inl (gI g, 600, .inl (upd pw pn x)))] : Unit → va_W) u) t) (va_A [(q2, .inr (3, [.ref q6, .int (nI pn)])), (q6, .inl (gI g, 600, .inl pw))] sz)) 0 0 (va_A [(q2, .inr (3, [.ref q6, .int (nI pn)])), (q6, .inl (gI g, 600, .inl pw))] sz) := by
  refine Met.ofW (cc := b_Prg_add) (maxL := 2) (ret := none) (by decide) rfl ?_
  intro p ev s m args below meth c s₁ B hml hv
  obtain ⟨rfl, hsz, hP, hK, hE, hD0, hs0⟩ := hv
  have hx := B.exec
  have hb := B.bytes
  have hr := B.returns
  have hts := fun (w : Cond) (h : w ∈ sdT) => atoms_spec (ws := (.code y_Prg_add b_Prg_add 2 none :: sdT)) B.pre w (List.mem_cons_of_mem _ h)
  have hown : s.vm.findClass "SignDesk$Program" = some m.cls := findClass_of_methodNamed B.named
  have hlocks := B.notSynchronized
  subst hsz
  have hD := hD0.self (sz := s.heap.size)
  have hA0 : ∀ q : Nat, va_A [(q2, .inr (3, [.ref q6, .int (nI pn)])), (q6, .inl (gI g, 600, .inl pw))] s.heap.size q → gS g ≤ q := fun q h => h.elim (fun ⟨k, e, hk⟩ => hD0.2 k _ hk) (fun h => Nat.le_trans hs0 h)
  have hA : ∀ q : Nat, s.heap.size ≤ q → va_A [(q2, .inr (3, [.ref q6, .int (nI pn)])), (q6, .inl (gI g, 600, .inl pw))] s.heap.size q := fun q h => Or.inr h
  generalize hAe : va_A [(q2, .inr (3, [.ref q6, .int (nI pn)])), (q6, .inl (gI g, 600, .inl pw))] s.heap.size = A at hD hA0 hA ⊢
  have hS : va_S A s.heap s.heap [] := va_S.rf
  have hP : sdP g [(q2, .inr (3, [.ref q6, .int (nI pn)])), (q6, .inl (gI g, 600, .inl pw))] s.heap := hP
  have hl := lv_entry ([.ref q2, .int x]) (n := 2) (Nat.le_of_ble_eq_true rfl)
  rw [lg_entry_eq]
  generalize (lg_sl ([.ref q2, .int x]) ++ List.replicate (2 - (lg_sl ([.ref q2, .int x])).length) Slot.unset).toArray = ls at hl ⊢
  have hl : lv_has ls 2 [(0, .ref q2), (1, .int x)] := hl
  refine lv_aload_n hx hb d_Prg_add_0 rfl (lv_at hl 0 rfl) ?_
  refine sd_ri (va_runV (As := []) (rest := []) ⟨hx, hb, hml, hown, hts⟩ (c_Prg_isFull l g q2 q6 pn pw hp) (cwV 0 hts (sd_gV k_325 k_309 k_310 k_25 k_311) rfl rfl rfl (by decide +kernel) ⟨Nat.le_of_ble_eq_true rfl, Nat.le_of_ble_eq_true rfl⟩) (sd_preV hK hE (sd_fr hS hA0) (hP.sub (ws' := [(q2, .inr (3, [.ref q6, .int (nI pn)])), (q6, .inl (gI g, 600, .inl pw))]) [0, 1] rfl) rfl rfl) rfl rfl hl.1 rfl (lv_room (Nat.le_of_ble_eq_true rfl)) d_Prg_add_1 ⟨Nat.zero_le _, Nat.zero_le _⟩) (fun r1 er1 => ?_)
  subst er1
  refine lv_if_ne (tgt := 27) hx hb d_Prg_add_4 (by decide) (fun c2 => ?_) (fun c2 => ?_)
  · have c2 := sb_ne0.mp c2
    exact absurd c2 (by omega)
  · have c2 := sb_eq0.mp c2
    refine lv_aload_n hx hb d_Prg_add_7 rfl (lv_at hl 0 rfl) ?_
    refine va_get (D := g.1) (ci := 3) (v := .ref q6) (C := "SignDesk$Program") (T := F_Prg) (N := 2) hx hb hts in_Prg hown hK hP 0 rfl rfl 0 (by decide) (hts _ k_65) (fun _ h9 => h9) rfl d_Prg_add_8 ?_
    refine lv_aload_n hx hb d_Prg_add_11 rfl (lv_at hl 0 rfl) ?_
    refine va_get (D := g.1) (ci := 3) (v := .int (nI pn)) (C := "SignDesk$Program") (T := F_Prg) (N := 2) hx hb hts in_Prg hown hK hP 0 rfl rfl 1 (by decide) (hts _ k_66) (fun _ h9 => h9) rfl d_Prg_add_12 ?_
    refine lv_iload_n hx hb d_Prg_add_15 rfl (lv_at hl 1 rfl) ?_
    refine va_iast hx hb hK hP hD hS 1 1 rfl rfl (i := (nI pn)) (x := x) (vp_in_nI (by omega) (by omega)) d_Prg_add_16 (fun H locs hP hD hS => ?_)
    have hP : sdP g [(q2, .inr (3, [.ref q6, .int (nI pn)])), (q6, .inl (gI g, 600, .inl (upd pw ((nI pn)).toNatClampNeg x)))] H := hP
    have hD : va_D A [(q2, .inr (3, [.ref q6, .int (nI pn)])), (q6, .inl (gI g, 600, .inl (upd pw ((nI pn)).toNatClampNeg x)))] := hD
    have eF : (upd pw ((nI pn)).toNatClampNeg x) = (upd pw pn x) := by rw [nI_clamp (by omega)]
    rw [eF] at hP hD
    refine lv_aload_n hx hb d_Prg_add_17 rfl (lv_at hl 0 rfl) ?_
    refine lv_dup hx hb d_Prg_add_18 rfl ?_
    refine va_get (D := g.1) (ci := 3) (v := .int (nI pn)) (C := "SignDesk$Program") (T := F_Prg) (N := 2) hx hb hts in_Prg hown hK hP 0 rfl rfl 1 (by decide) (hts _ k_66) (fun _ h9 => h9) rfl d_Prg_add_19 ?_
    refine lv_iconst (v := (nI 1)) hx hb d_Prg_add_22 (by decide) ?_
    refine lv_iadd hx hb d_Prg_add_23 ?_
    refine sd_topi (y := nI (pn + 1)) (nI_add _ _) ?_
    refine va_put (D := g.1) (ci := 3) (v := .int (nI (pn + 1))) (ty := .int) (C := "SignDesk$Program") (T := F_Prg) (N := 2) hx hb hts in_Prg t_Prg t_Prg_ok n_Prg hown hK hP hD hS 0 rfl rfl 1 (by decide) (hts _ k_66) (fun _ h9 => h9) rfl (by decide +kernel) rfl rfl (Nat.le_of_ble_eq_true rfl) d_Prg_add_24 (fun H locs hP hD hS => ?_)
    have hP : sdP g [(q2, .inr (3, [.ref q6, .int (nI (pn + 1))])), (q6, .inl (gI g, 600, .inl (upd pw pn x)))] H := hP
    have hD : va_D A [(q2, .inr (3, [.ref q6, .int (nI (pn + 1))])), (q6, .inl (gI g, 600, .inl (upd pw pn x)))] := hD
    have hP9 := hP.sub (ws' := [(q2, .inr (3, [.ref q6, .int (nI (pn + 1))])), (q6, .inl (gI g, 600, .inl (upd pw pn x)))]) [0, 1] rfl
    have hD9 := hD.sub (ws' := [(q2, .inr (3, [.ref q6, .int (nI (pn + 1))])), (q6, .inl (gI g, 600, .inl (upd pw pn x)))]) [0, 1] (by decide) rfl
    exact W.vret hx hb hr (fun t ht hW => ⟨⟨(), rfl, trivial, by rw [ht]; exact hP9, by rw [hAe]; exact hD9⟩, hS.F ht⟩) hS.2.2 d_Prg_add_27
set_option maxHeartbeats 4000000 in
set_option maxRecDepth 100000 in
/-- change -/
theorem c_Prg_change (l : Launch) (g : sdG) (q2 q6 pn : Nat) (pw : Nat → Int32) (hp : pn ≤ 600) (i : Nat) (x : Int32) (hlt : i < pn) (sz : Nat) : Met l y_Prg_change (.code y_Prg_change b_Prg_change 3 none :: sdT) ({ frames := 0, cells := 0, slots := 0, locals := 0 }) (va_Pc [.ref q2, .int (nI i), .int x] (sdU g [(q2, .inr (3, [.ref q6, .int (nI pn)])), (q6, .inl (gI g, 600, .inl pw))] sz)) (va_Qv (S := Unit) (fun _ => True) (fun u t => sdB g [(q2, .inr (3, [.ref q6, .int (nI pn)])), (q6, .inl (gI g, 600, .inl pw))] sz ((fun _ => [(q2, .inr (3, [.ref q6, .int (nI pn)])), (q6, .inl (gI g, 600, .inl (upd pw i x)))] : Unit → va_W) u) t) (va_A [(q2, .inr (3, [.ref q6, .int (nI pn)])), (q6, .inl (gI g, 600, .inl pw))] sz)) 0 0 (va_A [(q2, .inr (3, [.ref q6, .int (nI pn)])), (q6, .inl (gI g, 600, .inl pw))] sz) := by
  refine Met.ofW (cc := b_Prg_change) (maxL := 3) (ret := none) (by decide) rfl ?_
  intro p ev s m args below meth c s₁ B hml hv
  obtain ⟨rfl, hsz, hP, hK, hE, hD0, hs0⟩ := hv
  have hx := B.exec
  have hb := B.bytes
  have hr := B.returns
  have hts := fun (w : Cond) (h : w ∈ sdT) => atoms_spec (ws := (.code y_Prg_change b_Prg_change 3 none :: sdT)) B.pre w (List.mem_cons_of_mem _ h)
  have hown : s.vm.findClass "SignDesk$Program" = some m.cls := findClass_of_methodNamed B.named
  have hlocks := B.notSynchronized
  subst hsz
  have hD := hD0.self (sz := s.heap.size)
  have hA0 : ∀ q : Nat, va_A [(q2, .inr (3, [.ref q6, .int (nI pn)])), (q6, .inl (gI g, 600, .inl pw))] s.heap.size q → gS g ≤ q := fun q h => h.elim (fun ⟨k, e, hk⟩ => hD0.2 k _ hk) (fun h => Nat.le_trans hs0 h)
  have hA : ∀ q : Nat, s.heap.size ≤ q → va_A [(q2, .inr (3, [.ref q6, .int (nI pn)])), (q6, .inl (gI g, 600, .inl pw))] s.heap.size q := fun q h => Or.inr h
  generalize hAe : va_A [(q2, .inr (3, [.ref q6, .int (nI pn)])), (q6, .inl (gI g, 600, .inl pw))] s.heap.size = A at hD hA0 hA ⊢
  have hS : va_S A s.heap s.heap [] := va_S.rf
  have hP : sdP g [(q2, .inr (3, [.ref q6, .int (nI pn)])), (q6, .inl (gI g, 600, .inl pw))] s.heap := hP
  have hl := lv_entry ([.ref q2, .int (nI i), .int x]) (n := 3) (Nat.le_of_ble_eq_true rfl)
  rw [lg_entry_eq]
  generalize (lg_sl ([.ref q2, .int (nI i), .int x]) ++ List.replicate (3 - (lg_sl ([.ref q2, .int (nI i), .int x])).length) Slot.unset).toArray = ls at hl ⊢
  have hl : lv_has ls 3 [(0, .ref q2), (1, .int (nI i)), (2, .int x)] := hl
  refine lv_iload_n hx hb d_Prg_change_0 rfl (lv_at hl 1 rfl) ?_
  refine lv_if_lt (tgt := 19) hx hb d_Prg_change_1 (by decide) (fun c1 => ?_) (fun c1 => ?_)
  · exact absurd c1 (nI_pos (by omega))
  · refine lv_iload_n hx hb d_Prg_change_4 rfl (lv_at hl 1 rfl) ?_
    refine lv_aload_n hx hb d_Prg_change_5 rfl (lv_at hl 0 rfl) ?_
    refine va_get (D := g.1) (ci := 3) (v := .int (nI pn)) (C := "SignDesk$Program") (T := F_Prg) (N := 2) hx hb hts in_Prg hown hK hP 0 rfl rfl 1 (by decide) (hts _ k_66) (fun _ h9 => h9) rfl d_Prg_change_6 ?_
    refine lv_icmp_ge (tgt := 19) hx hb d_Prg_change_9 (by decide) (fun c2 => ?_) (fun c2 => ?_)
    · have c2 := (nI_leI (by omega) (by omega)).mp c2
      exact absurd c2 (by omega)
    · have c2 := mt (nI_leI (by omega) (by omega)).mpr c2
      refine lv_aload_n hx hb d_Prg_change_12 rfl (lv_at hl 0 rfl) ?_
      refine va_get (D := g.1) (ci := 3) (v := .ref q6) (C := "SignDesk$Program") (T := F_Prg) (N := 2) hx hb hts in_Prg hown hK hP 0 rfl rfl 0 (by decide) (hts _ k_65) (fun _ h9 => h9) rfl d_Prg_change_13 ?_
      refine lv_iload_n hx hb d_Prg_change_16 rfl (lv_at hl 1 rfl) ?_
      refine lv_iload_n hx hb d_Prg_change_17 rfl (lv_at hl 2 rfl) ?_
      refine va_iast hx hb hK hP hD hS 1 1 rfl rfl (i := (nI i)) (x := x) (vp_in_nI (by omega) (by omega)) d_Prg_change_18 (fun H locs hP hD hS => ?_)
      have hP : sdP g [(q2, .inr (3, [.ref q6, .int (nI pn)])), (q6, .inl (gI g, 600, .inl (upd pw ((nI i)).toNatClampNeg x)))] H := hP
      have hD : va_D A [(q2, .inr (3, [.ref q6, .int (nI pn)])), (q6, .inl (gI g, 600, .inl (upd pw ((nI i)).toNatClampNeg x)))] := hD
      have eF : (upd pw ((nI i)).toNatClampNeg x) = (upd pw i x) := by rw [nI_clamp (by omega)]
      rw [eF] at hP hD
      have hP9 := hP.sub (ws' := [(q2, .inr (3, [.ref q6, .int (nI pn)])), (q6, .inl (gI g, 600, .inl (upd pw i x)))]) [0, 1] rfl
      have hD9 := hD.sub (ws' := [(q2, .inr (3, [.ref q6, .int (nI pn)])), (q6, .inl (gI g, 600, .inl (upd pw i x)))]) [0, 1] (by decide) rfl
      exact W.vret hx hb hr (fun t ht hW => ⟨⟨(), rfl, trivial, by rw [ht]; exact hP9, by rw [hAe]; exact hD9⟩, hS.F ht⟩) hS.2.2 d_Prg_change_19
