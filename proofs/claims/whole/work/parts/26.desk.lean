set_option maxHeartbeats 4000000 in
set_option maxRecDepth 100000 in
/-- count() -/
theorem c_Sym_countX (l : Launch) (g : sdG) (q7 q1 q8 q9 q10 : Nat) (cx : Int32) : Met l y_Sym_count (.code y_Sym_count b_Sym_count 1 (some .int) :: sdT) ({ frames := 0, cells := 0, slots := 0, locals := 0 }) (va_Pc [.ref q7] (sdR g [(q7, .inr (5, [.ref q1, .ref q8, .ref q9, .ref q10, .int cx]))])) (vp_Si (fun r => r = cx)) 0 0 (fun _ => False) := by
  refine Met.ofW (cc := b_Sym_count) (maxL := 1) (ret := (some .int)) (by decide) rfl ?_
  intro p ev s m args below meth c s₁ B hml hv
  obtain ⟨rfl, hP, hK, hE⟩ := hv
  have hx := B.exec
  have hb := B.bytes
  have hr := B.returns
  have hts := fun (w : Cond) (h : w ∈ sdT) => atoms_spec (ws := (.code y_Sym_count b_Sym_count 1 (some .int) :: sdT)) B.pre w (List.mem_cons_of_mem _ h)
  have hown : s.vm.findClass "SignDesk$Symbols" = some m.cls := findClass_of_methodNamed B.named
  have hlocks := B.notSynchronized
  have hF : ∀ a : Nat, a < s.heap.size → ¬ sdA g a → s.heap[a]? = s.heap[a]? := fun _ _ _ => rfl
  have hP : sdP g [(q7, .inr (5, [.ref q1, .ref q8, .ref q9, .ref q10, .int cx]))] s.heap := hP
  have hl := lv_entry ([.ref q7]) (n := 1) (Nat.le_of_ble_eq_true rfl)
  rw [lg_entry_eq]
  generalize (lg_sl ([.ref q7]) ++ List.replicate (1 - (lg_sl ([.ref q7])).length) Slot.unset).toArray = ls at hl ⊢
  have hl : lv_has ls 1 [(0, .ref q7)] := hl
  refine lv_aload_n hx hb d_Sym_count_0 rfl (lv_at hl 0 rfl) ?_
  refine va_get (D := g.1) (ci := 5) (v := .int cx) (C := "SignDesk$Symbols") (T := F_Sym) (N := 5) hx hb hts in_Sym hown hK hP 0 rfl rfl 4 (by decide) (hts _ k_89) (fun _ h9 => h9) rfl d_Sym_count_1 ?_
  exact W.iret (v := cx) hx hb hr  (fun t ht hW => ⟨_, rfl, rfl, ht⟩) (fun _ h => by cases h) d_Sym_count_4
set_option maxHeartbeats 4000000 in
set_option maxRecDepth 100000 in
/-- faultPlace() -/
theorem c_Rdr_faultPlace (l : Launch) (g : sdG) (q3 q1 q2 q7 : Nat) (fp : Int32) : Met l y_Rdr_faultPlace (.code y_Rdr_faultPlace b_Rdr_faultPlace 1 (some .int) :: sdT) ({ frames := 0, cells := 0, slots := 0, locals := 0 }) (va_Pc [.ref q3] (sdR g [(q3, .inr (4, [.ref q1, .ref q2, .ref q7, .int fp]))])) (vp_Si (fun r => r = fp)) 0 0 (fun _ => False) := by
  refine Met.ofW (cc := b_Rdr_faultPlace) (maxL := 1) (ret := (some .int)) (by decide) rfl ?_
  intro p ev s m args below meth c s₁ B hml hv
  obtain ⟨rfl, hP, hK, hE⟩ := hv
  have hx := B.exec
  have hb := B.bytes
  have hr := B.returns
  have hts := fun (w : Cond) (h : w ∈ sdT) => atoms_spec (ws := (.code y_Rdr_faultPlace b_Rdr_faultPlace 1 (some .int) :: sdT)) B.pre w (List.mem_cons_of_mem _ h)
  have hown : s.vm.findClass "SignDesk$Reader" = some m.cls := findClass_of_methodNamed B.named
  have hlocks := B.notSynchronized
  have hF : ∀ a : Nat, a < s.heap.size → ¬ sdA g a → s.heap[a]? = s.heap[a]? := fun _ _ _ => rfl
  have hP : sdP g [(q3, .inr (4, [.ref q1, .ref q2, .ref q7, .int fp]))] s.heap := hP
  have hl := lv_entry ([.ref q3]) (n := 1) (Nat.le_of_ble_eq_true rfl)
  rw [lg_entry_eq]
  generalize (lg_sl ([.ref q3]) ++ List.replicate (1 - (lg_sl ([.ref q3])).length) Slot.unset).toArray = ls at hl ⊢
  have hl : lv_has ls 1 [(0, .ref q3)] := hl
  refine lv_aload_n hx hb d_Rdr_faultPlace_0 rfl (lv_at hl 0 rfl) ?_
  refine va_get (D := g.1) (ci := 4) (v := .int fp) (C := "SignDesk$Reader") (T := F_Rdr) (N := 4) hx hb hts in_Rdr hown hK hP 0 rfl rfl 3 (by decide) (hts _ k_104) (fun _ h9 => h9) rfl d_Rdr_faultPlace_1 ?_
  exact W.iret (v := fp) hx hb hr  (fun t ht hW => ⟨_, rfl, rfl, ht⟩) (fun _ h => by cases h) d_Rdr_faultPlace_4
set_option maxHeartbeats 4000000 in
set_option maxRecDepth 100000 in
/-- symbolCount() -/
theorem c_Rdr_symbolCount (l : Launch) (g : sdG) (q3 q1 q2 q7 q8 q9 q10 : Nat) (fp cx : Int32) : Met l y_Rdr_symbolCount (.code y_Rdr_symbolCount b_Rdr_symbolCount 1 (some .int) :: sdT) ({ frames := 1, cells := 0, slots := 0, locals := 20 }) (va_Pc [.ref q3] (sdR g [(q3, .inr (4, [.ref q1, .ref q2, .ref q7, .int fp])), (q7, .inr (5, [.ref q1, .ref q8, .ref q9, .ref q10, .int cx]))])) (vp_Si (fun r => r = cx)) 0 0 (fun _ => False) := by
  refine Met.ofW (cc := b_Rdr_symbolCount) (maxL := 1) (ret := (some .int)) (by decide) rfl ?_
  intro p ev s m args below meth c s₁ B hml hv
  obtain ⟨rfl, hP, hK, hE⟩ := hv
  have hx := B.exec
  have hb := B.bytes
  have hr := B.returns
  have hts := fun (w : Cond) (h : w ∈ sdT) => atoms_spec (ws := (.code y_Rdr_symbolCount b_Rdr_symbolCount 1 (some .int) :: sdT)) B.pre w (List.mem_cons_of_mem _ h)
  have hown : s.vm.findClass "SignDesk$Reader" = some m.cls := findClass_of_methodNamed B.named
  have hlocks := B.notSynchronized
  have hF : ∀ a : Nat, a < s.heap.size → ¬ sdA g a → s.heap[a]? = s.heap[a]? := fun _ _ _ => rfl
  have hP : sdP g [(q3, .inr (4, [.ref q1, .ref q2, .ref q7, .int fp])), (q7, .inr (5, [.ref q1, .ref q8, .ref q9, .ref q10, .int cx]))] s.heap := hP
  have hl := lv_entry ([.ref q3]) (n := 1) (Nat.le_of_ble_eq_true rfl)
  rw [lg_entry_eq]
  generalize (lg_sl ([.ref q3]) ++ List.replicate (1 - (lg_sl ([.ref q3])).length) Slot.unset).toArray = ls at hl ⊢
  have hl : lv_has ls 1 [(0, .ref q3)] := hl
  refine lv_aload_n hx hb d_Rdr_symbolCount_0 rfl (lv_at hl 0 rfl) ?_
  refine va_get (D := g.1) (ci := 4) (v := .ref q7) (C := "SignDesk$Reader") (T := F_Rdr) (N := 4) hx hb hts in_Rdr hown hK hP 0 rfl rfl 2 (by decide) (hts _ k_103) (fun _ h9 => h9) rfl d_Rdr_symbolCount_1 ?_
  refine sd_ri (va_runV (As := []) (rest := []) ⟨hx, hb, hml, hown, hts⟩ (c_Sym_countX l g q7 q1 q8 q9 q10 cx) (cwV 0 hts (sd_gV k_482 k_483 k_484 k_27 k_485) rfl rfl rfl (by decide +kernel) ⟨Nat.le_of_ble_eq_true rfl, Nat.le_of_ble_eq_true rfl⟩) (sd_preV hK hE hF (hP.sub (ws' := [(q7, .inr (5, [.ref q1, .ref q8, .ref q9, .ref q10, .int cx]))]) [1] rfl) rfl rfl) rfl rfl hl.1 rfl (lv_room (Nat.le_of_ble_eq_true rfl)) d_Rdr_symbolCount_4 ⟨Nat.zero_le _, Nat.zero_le _⟩) (fun r1 er1 => ?_)
  have er1 := er1.symm
  subst er1
  exact W.iret (v := (cx)) hx hb hr  (fun t ht hW => ⟨_, rfl, rfl, ht⟩) (fun _ h => by cases h) d_Rdr_symbolCount_7
set_option maxHeartbeats 4000000 in
set_option maxRecDepth 100000 in
/-- place() -/
theorem c_Dsk_place (l : Launch) (g : sdG) (q0 q1 q2 q3 qc q7 : Nat) (fp : Int32) : Met l y_Dsk_place (.code y_Dsk_place b_Dsk_place 1 (some .int) :: sdT) ({ frames := 1, cells := 0, slots := 0, locals := 20 }) (va_Pc [.ref q0] (sdR g [(q0, .inr (7, [.ref q1, .ref q2, .ref q3, .ref qc])), (q3, .inr (4, [.ref q1, .ref q2, .ref q7, .int fp]))])) (vp_Si (fun r => r = fp)) 0 0 (fun _ => False) := by
  refine Met.ofW (cc := b_Dsk_place) (maxL := 1) (ret := (some .int)) (by decide) rfl ?_
  intro p ev s m args below meth c s₁ B hml hv
  obtain ⟨rfl, hP, hK, hE⟩ := hv
  have hx := B.exec
  have hb := B.bytes
  have hr := B.returns
  have hts := fun (w : Cond) (h : w ∈ sdT) => atoms_spec (ws := (.code y_Dsk_place b_Dsk_place 1 (some .int) :: sdT)) B.pre w (List.mem_cons_of_mem _ h)
  have hown : s.vm.findClass "SignDesk" = some m.cls := findClass_of_methodNamed B.named
  have hlocks := B.notSynchronized
  have hF : ∀ a : Nat, a < s.heap.size → ¬ sdA g a → s.heap[a]? = s.heap[a]? := fun _ _ _ => rfl
  have hP : sdP g [(q0, .inr (7, [.ref q1, .ref q2, .ref q3, .ref qc])), (q3, .inr (4, [.ref q1, .ref q2, .ref q7, .int fp]))] s.heap := hP
  have hl := lv_entry ([.ref q0]) (n := 1) (Nat.le_of_ble_eq_true rfl)
  rw [lg_entry_eq]
  generalize (lg_sl ([.ref q0]) ++ List.replicate (1 - (lg_sl ([.ref q0])).length) Slot.unset).toArray = ls at hl ⊢
  have hl : lv_has ls 1 [(0, .ref q0)] := hl
  refine lv_aload_n hx hb d_Dsk_place_0 rfl (lv_at hl 0 rfl) ?_
  refine va_get (D := g.1) (ci := 7) (v := .ref q3) (C := "SignDesk") (T := F_Dsk) (N := 4) hx hb hts in_Dsk hown hK hP 0 rfl rfl 2 (by decide) (hts _ k_153) (fun _ h9 => h9) rfl d_Dsk_place_1 ?_
  refine sd_ri (va_runV (As := []) (rest := []) ⟨hx, hb, hml, hown, hts⟩ (c_Rdr_faultPlace l g q3 q1 q2 q7 fp) (cwV 0 hts (sd_gV k_394 k_395 k_396 k_26 k_397) rfl rfl rfl (by decide +kernel) ⟨Nat.le_of_ble_eq_true rfl, Nat.le_of_ble_eq_true rfl⟩) (sd_preV hK hE hF (hP.sub (ws' := [(q3, .inr (4, [.ref q1, .ref q2, .ref q7, .int fp]))]) [1] rfl) rfl rfl) rfl rfl hl.1 rfl (lv_room (Nat.le_of_ble_eq_true rfl)) d_Dsk_place_4 ⟨Nat.zero_le _, Nat.zero_le _⟩) (fun r1 er1 => ?_)
  have er1 := er1.symm
  subst er1
  exact W.iret (v := (fp)) hx hb hr  (fun t ht hW => ⟨_, rfl, rfl, ht⟩) (fun _ h => by cases h) d_Dsk_place_7
set_option maxHeartbeats 4000000 in
set_option maxRecDepth 100000 in
/-- code(x) -/
theorem c_Dsk_code (l : Launch) (g : sdG) (q0 q1 q2 q3 qc q6 wn9 : Nat) (pw : Nat → Int32) (hwn : wn9 ≤ 600) (x : Int32) : Met l y_Dsk_code (.code y_Dsk_code b_Dsk_code 2 (some .int) :: sdT) ({ frames := 1, cells := 0, slots := 0, locals := 21 }) (va_Pc [.ref q0, .int x] (sdR g [(q0, .inr (7, [.ref q1, .ref q2, .ref q3, .ref qc])), (q2, .inr (3, [.ref q6, .int (nI wn9)])), (q6, .inl (gI g, 600, .inl pw))])) (vp_Si (fun r => (∀ j, j < wn9 → x = nI j → r = pw j) ∧ ((x < 0 ∨ nI wn9 ≤ x) → r = -1))) 0 0 (fun _ => False) := by
  refine Met.ofW (cc := b_Dsk_code) (maxL := 2) (ret := (some .int)) (by decide) rfl ?_
  intro p ev s m args below meth c s₁ B hml hv
  obtain ⟨rfl, hP, hK, hE⟩ := hv
  have hx := B.exec
  have hb := B.bytes
  have hr := B.returns
  have hts := fun (w : Cond) (h : w ∈ sdT) => atoms_spec (ws := (.code y_Dsk_code b_Dsk_code 2 (some .int) :: sdT)) B.pre w (List.mem_cons_of_mem _ h)
  have hown : s.vm.findClass "SignDesk" = some m.cls := findClass_of_methodNamed B.named
  have hlocks := B.notSynchronized
  have hF : ∀ a : Nat, a < s.heap.size → ¬ sdA g a → s.heap[a]? = s.heap[a]? := fun _ _ _ => rfl
  have hP : sdP g [(q0, .inr (7, [.ref q1, .ref q2, .ref q3, .ref qc])), (q2, .inr (3, [.ref q6, .int (nI wn9)])), (q6, .inl (gI g, 600, .inl pw))] s.heap := hP
  have hl := lv_entry ([.ref q0, .int x]) (n := 2) (Nat.le_of_ble_eq_true rfl)
  rw [lg_entry_eq]
  generalize (lg_sl ([.ref q0, .int x]) ++ List.replicate (2 - (lg_sl ([.ref q0, .int x])).length) Slot.unset).toArray = ls at hl ⊢
  have hl : lv_has ls 2 [(0, .ref q0), (1, .int x)] := hl
  refine lv_aload_n hx hb d_Dsk_code_0 rfl (lv_at hl 0 rfl) ?_
  refine va_get (D := g.1) (ci := 7) (v := .ref q2) (C := "SignDesk") (T := F_Dsk) (N := 4) hx hb hts in_Dsk hown hK hP 0 rfl rfl 1 (by decide) (hts _ k_152) (fun _ h9 => h9) rfl d_Dsk_code_1 ?_
  refine lv_iload_n hx hb d_Dsk_code_4 rfl (lv_at hl 1 rfl) ?_
  refine sd_ri (va_runV (As := [.int x]) (rest := []) ⟨hx, hb, hml, hown, hts⟩ (c_Prg_wordAt l g q2 q6 wn9 pw hwn x) (cwV 1 hts (sd_gV k_402 k_364 k_365 k_25 k_366) rfl rfl rfl (by decide +kernel) ⟨Nat.le_of_ble_eq_true rfl, Nat.le_of_ble_eq_true rfl⟩) (sd_preV hK hE hF (hP.sub (ws' := [(q2, .inr (3, [.ref q6, .int (nI wn9)])), (q6, .inl (gI g, 600, .inl pw))]) [1, 2] rfl) rfl rfl) rfl rfl hl.1 rfl (lv_room (Nat.le_of_ble_eq_true rfl)) d_Dsk_code_5 ⟨Nat.zero_le _, Nat.zero_le _⟩) (fun r1 er1 => ?_)
  exact W.iret (v := r1) hx hb hr  (fun t ht hW => ⟨_, rfl, er1, ht⟩) (fun _ h => by cases h) d_Dsk_code_8
set_option maxHeartbeats 4000000 in
set_option maxRecDepth 100000 in
/-- put(v, x) -/
theorem c_Dsk_put (l : Launch) (g : sdG) (q0 q1 q2 q3 qc q5 n : Nat) (f : Nat → Int32) (tx : Nat → Nat) (hT : TXok n f tx) (v : Int64) (x : Int32) (sz : Nat) : Met l y_Dsk_put (.code y_Dsk_put b_Dsk_put 4 (some .boolean) :: sdT) ({ frames := 1, cells := 0, slots := 0, locals := 24 }) (va_Pc [.ref q0, .long v, .int x] (sdU g [(q0, .inr (7, [.ref q1, .ref q2, .ref q3, .ref qc])), (q1, .inr (6, [.ref q5, .int (nI n)])), (q5, .inl (gB g, 2000, .inl f))] sz)) (va_Qi (S := Nat × (Nat → Int32)) (fun r u => (∃ k, putOK x n k ∧ r = nI 1 ∧ u.1 = n + k ∧ TXok (n + k) u.2 (txA tx n v k)) ∨ ((¬ ∃ k, putOK x n k) ∧ r = nI 0 ∧ u.1 = n ∧ u.2 = f)) (fun u t => sdB g [(q0, .inr (7, [.ref q1, .ref q2, .ref q3, .ref qc])), (q1, .inr (6, [.ref q5, .int (nI n)])), (q5, .inl (gB g, 2000, .inl f))] sz ((fun u => [(q0, .inr (7, [.ref q1, .ref q2, .ref q3, .ref qc])), (q1, .inr (6, [.ref q5, .int (nI u.1)])), (q5, .inl (gB g, 2000, .inl u.2))] : Nat × (Nat → Int32) → va_W) u) t) (va_A [(q0, .inr (7, [.ref q1, .ref q2, .ref q3, .ref qc])), (q1, .inr (6, [.ref q5, .int (nI n)])), (q5, .inl (gB g, 2000, .inl f))] sz)) 0 0 (va_A [(q0, .inr (7, [.ref q1, .ref q2, .ref q3, .ref qc])), (q1, .inr (6, [.ref q5, .int (nI n)])), (q5, .inl (gB g, 2000, .inl f))] sz) := by
  refine Met.ofW (cc := b_Dsk_put) (maxL := 4) (ret := (some .boolean)) (by decide) rfl ?_
  intro p ev s m args below meth c s₁ B hml hv
  obtain ⟨rfl, hsz, hP, hK, hE, hD0, hs0⟩ := hv
  have hx := B.exec
  have hb := B.bytes
  have hr := B.returns
  have hts := fun (w : Cond) (h : w ∈ sdT) => atoms_spec (ws := (.code y_Dsk_put b_Dsk_put 4 (some .boolean) :: sdT)) B.pre w (List.mem_cons_of_mem _ h)
  have hown : s.vm.findClass "SignDesk" = some m.cls := findClass_of_methodNamed B.named
  have hlocks := B.notSynchronized
  subst hsz
  have hD := hD0.self (sz := s.heap.size)
  have hA0 : ∀ q : Nat, va_A [(q0, .inr (7, [.ref q1, .ref q2, .ref q3, .ref qc])), (q1, .inr (6, [.ref q5, .int (nI n)])), (q5, .inl (gB g, 2000, .inl f))] s.heap.size q → gS g ≤ q := fun q h => h.elim (fun ⟨k, e, hk⟩ => hD0.2 k _ hk) (fun h => Nat.le_trans hs0 h)
  have hA : ∀ q : Nat, s.heap.size ≤ q → va_A [(q0, .inr (7, [.ref q1, .ref q2, .ref q3, .ref qc])), (q1, .inr (6, [.ref q5, .int (nI n)])), (q5, .inl (gB g, 2000, .inl f))] s.heap.size q := fun q h => Or.inr h
  generalize hAe : va_A [(q0, .inr (7, [.ref q1, .ref q2, .ref q3, .ref qc])), (q1, .inr (6, [.ref q5, .int (nI n)])), (q5, .inl (gB g, 2000, .inl f))] s.heap.size = A at hD hA0 hA ⊢
  have hS : va_S A s.heap s.heap [] := va_S.rf
  have hP : sdP g [(q0, .inr (7, [.ref q1, .ref q2, .ref q3, .ref qc])), (q1, .inr (6, [.ref q5, .int (nI n)])), (q5, .inl (gB g, 2000, .inl f))] s.heap := hP
  have hl := lv_entry ([.ref q0, .long v, .int x]) (n := 4) (Nat.le_of_ble_eq_true rfl)
  rw [lg_entry_eq]
  generalize (lg_sl ([.ref q0, .long v, .int x]) ++ List.replicate (4 - (lg_sl ([.ref q0, .long v, .int x])).length) Slot.unset).toArray = ls at hl ⊢
  have hl : lv_has ls 4 [(0, .ref q0), (1, .long v), (3, .int x)] := hl
  refine lv_aload_n hx hb d_Dsk_put_0 rfl (lv_at hl 0 rfl) ?_
  refine va_get (D := g.1) (ci := 7) (v := .ref q1) (C := "SignDesk") (T := F_Dsk) (N := 4) hx hb hts in_Dsk hown hK hP 0 rfl rfl 0 (by decide) (hts _ k_151) (fun _ h9 => h9) rfl d_Dsk_put_1 ?_
  refine lv_lload_n hx hb d_Dsk_put_4 rfl (lv_at hl 1 rfl) ?_
  refine lv_iload_n hx hb d_Dsk_put_5 rfl (lv_at hl 2 rfl) ?_
  have hPc := hP.sub (ws' := [(q1, .inr (6, [.ref q5, .int (nI n)])), (q5, .inl (gB g, 2000, .inl f))]) [1, 2] rfl
  have hDc := hD.sub (ws' := [(q1, .inr (6, [.ref q5, .int (nI n)])), (q5, .inl (gB g, 2000, .inl f))]) [1, 2] (by decide) rfl
  have hFc := va_free (wc := [(q1, .inr (6, [.ref q5, .int (nI n)])), (q5, .inl (gB g, 2000, .inl f))]) hD hS hA [1, 2] rfl
  refine sd_ci (va_runV (As := [.long v, .int x]) (rest := []) ⟨hx, hb, hml, hown, hts⟩ (c_Txt_append l g q1 q5 n f tx hT v x s.heap.size) (cwV 2 hts (sd_gV k_168 k_169 k_170 k_24 k_171) rfl rfl rfl (by decide +kernel) ⟨Nat.le_of_ble_eq_true rfl, Nat.le_of_ble_eq_true rfl⟩) (sd_preVU hK hE hS hA0 hs0 hPc hDc rfl rfl) rfl rfl hl.1 rfl (lv_room (Nat.le_of_ble_eq_true rfl)) d_Dsk_put_6 ⟨Nat.zero_le _, Nat.zero_le _⟩) hS hFc (fun r1 u H1 locs hw hP1 hD1 hk1 hS => ?_)
  obtain ⟨n1, f1⟩ := u
  obtain ⟨hP, hD⟩ := va_join (wr := [(q0, .inr (7, [.ref q1, .ref q2, .ref q3, .ref qc]))]) (w1 := [(q1, .inr (6, [.ref q5, .int (nI n1)])), (q5, .inl (gB g, 2000, .inl f1))]) hP hD [1, 2] [0] rfl rfl (by decide) (by decide) hk1 hFc hP1 hD1
  clear hPc hDc hFc hk1 hP1 hD1
  generalize H1 = H at hP hS ⊢
  have hP : sdP g [(q0, .inr (7, [.ref q1, .ref q2, .ref q3, .ref qc])), (q1, .inr (6, [.ref q5, .int (nI n1)])), (q5, .inl (gB g, 2000, .inl f1))] H := hP
  have hD : va_D A [(q0, .inr (7, [.ref q1, .ref q2, .ref q3, .ref qc])), (q1, .inr (6, [.ref q5, .int (nI n1)])), (q5, .inl (gB g, 2000, .inl f1))] := hD
  have hnr : r1 = nI 0 ∨ r1 = nI 1 := hw.elim (fun ⟨k, h⟩ => Or.inr h.2.1) (fun h => Or.inl h.2.1)
  rcases hnr with hnr | hnr
  · subst hnr
    have hP9 := hP.sub (ws' := [(q0, .inr (7, [.ref q1, .ref q2, .ref q3, .ref qc])), (q1, .inr (6, [.ref q5, .int (nI n1)])), (q5, .inl (gB g, 2000, .inl f1))]) [0, 1, 2] rfl
    have hD9 := hD.sub (ws' := [(q0, .inr (7, [.ref q1, .ref q2, .ref q3, .ref qc])), (q1, .inr (6, [.ref q5, .int (nI n1)])), (q5, .inl (gB g, 2000, .inl f1))]) [0, 1, 2] (by decide) rfl
    exact W.zret (v := (nI 0)) hx hb hr (by first | rfl | decide | exact sb_nar) (fun t ht hW => ⟨⟨_, (n1, f1), rfl, hw, by rw [ht]; exact hP9, by rw [hAe]; exact hD9⟩, hS.F ht⟩) hS.2.2 d_Dsk_put_9
  · subst hnr
    have hP9 := hP.sub (ws' := [(q0, .inr (7, [.ref q1, .ref q2, .ref q3, .ref qc])), (q1, .inr (6, [.ref q5, .int (nI n1)])), (q5, .inl (gB g, 2000, .inl f1))]) [0, 1, 2] rfl
    have hD9 := hD.sub (ws' := [(q0, .inr (7, [.ref q1, .ref q2, .ref q3, .ref qc])), (q1, .inr (6, [.ref q5, .int (nI n1)])), (q5, .inl (gB g, 2000, .inl f1))]) [0, 1, 2] (by decide) rfl
    exact W.zret (v := (nI 1)) hx hb hr (by first | rfl | decide | exact sb_nar) (fun t ht hW => ⟨⟨_, (n1, f1), rfl, hw, by rw [ht]; exact hP9, by rw [hAe]; exact hD9⟩, hS.F ht⟩) hS.2.2 d_Dsk_put_9
set_option maxHeartbeats 4000000 in
set_option maxRecDepth 100000 in
/-- read() -/
theorem c_Dsk_read (l : Launch) (g : sdG) (q0 q1 q2 q3 qc q5 q6 q7 q8 q9 q10 qm qp n : Nat) (f : Nat → Int32) (tx : Nat → Nat) (hT : TXok n f tx) (px cx fp : Int32) (pw s1 s2 s3 : Nat → Int32) (a d nx9 dn : Int32) (pf : Nat → Option Nat) (L : List Nat) (fE : Nat → va_E) (M : Nat → Int32) (pg : Nat → Bool) (hM : memOK g pf L fE M pg) (sz : Nat) : Met l y_Dsk_read (.code y_Dsk_read b_Dsk_read 2 (some .int) :: sdT) ({ frames := 9, cells := 0, slots := 0, locals := 211 }) (va_Pc [.ref q0] (sdU g ([(q0, .inr (7, [.ref q1, .ref q2, .ref q3, .ref qc])), (q1, .inr (6, [.ref q5, .int (nI n)])), (q5, .inl (gB g, 2000, .inl f)), (q2, .inr (3, [.ref q6, .int px])), (q6, .inl (gI g, 600, .inl pw)), (q3, .inr (4, [.ref q1, .ref q2, .ref q7, .int fp])), (q7, .inr (5, [.ref q1, .ref q8, .ref q9, .ref q10, .int cx])), (q8, .inl (gI g, 40, .inl s1)), (q9, .inl (gI g, 40, .inl s2)), (q10, .inl (gI g, 40, .inl s3)), (qc, .inr (2, [.ref q2, .ref qm, .int a, .int d, .int nx9, .int dn])), (qm, .inr (0, [.ref qp])), (qp, .inl (gP g, 128, .inr (.inr (.inr (.inr pf)))))] ++ va_pl L fE) sz)) (va_Qi (S := Nat × (Nat → Int32) × Int32 × Nat × (Nat → Int32) × (Nat → Int32) × (Nat → Int32) × (Nat → va_E)) (fun r u => r = nI (asm tx n (n + 1) 0 0 E0).1 ∧ ((asm tx n (n + 1) 0 0 E0).1 = 0 → u.2.2.1 = -1 ∧ u.1 = wn (asm tx n (n + 1) 0 0 E0).2.2 ∧ u.2.2.2.1 = sn (asm tx n (n + 1) 0 0 E0).2.2 ∧ ∀ j, j < wn (asm tx n (n + 1) 0 0 E0).2.2 → u.2.1 j = nI (fin (asm tx n (n + 1) 0 0 E0).2.2 j)) ∧ (¬ (asm tx n (n + 1) 0 0 E0).1 = 0 → u.2.2.1 = nI (asm tx n (n + 1) 0 0 E0).2.1 ∧ u.1 = 0 ∧ u.2.2.2.1 = 0) ∧ memOK g pf L u.2.2.2.2.2.2.2 (fun _ => 0) pg) (fun u t => sdB g ([(q0, .inr (7, [.ref q1, .ref q2, .ref q3, .ref qc])), (q1, .inr (6, [.ref q5, .int (nI n)])), (q5, .inl (gB g, 2000, .inl f)), (q2, .inr (3, [.ref q6, .int px])), (q6, .inl (gI g, 600, .inl pw)), (q3, .inr (4, [.ref q1, .ref q2, .ref q7, .int fp])), (q7, .inr (5, [.ref q1, .ref q8, .ref q9, .ref q10, .int cx])), (q8, .inl (gI g, 40, .inl s1)), (q9, .inl (gI g, 40, .inl s2)), (q10, .inl (gI g, 40, .inl s3)), (qc, .inr (2, [.ref q2, .ref qm, .int a, .int d, .int nx9, .int dn])), (qm, .inr (0, [.ref qp])), (qp, .inl (gP g, 128, .inr (.inr (.inr (.inr pf)))))] ++ va_pl L fE) sz ((fun u => ([(q0, .inr (7, [.ref q1, .ref q2, .ref q3, .ref qc])), (q1, .inr (6, [.ref q5, .int (nI 0)])), (q5, .inl (gB g, 2000, .inl f)), (q2, .inr (3, [.ref q6, .int (nI u.1)])), (q6, .inl (gI g, 600, .inl u.2.1)), (q3, .inr (4, [.ref q1, .ref q2, .ref q7, .int u.2.2.1])), (q7, .inr (5, [.ref q1, .ref q8, .ref q9, .ref q10, .int (nI u.2.2.2.1)])), (q8, .inl (gI g, 40, .inl u.2.2.2.2.1)), (q9, .inl (gI g, 40, .inl u.2.2.2.2.2.1)), (q10, .inl (gI g, 40, .inl u.2.2.2.2.2.2.1)), (qc, .inr (2, [.ref q2, .ref qm, .int (nI 0), .int (nI 0), .int (nI 0), .int (nI 0)])), (qm, .inr (0, [.ref qp])), (qp, .inl (gP g, 128, .inr (.inr (.inr (.inr pf)))))] ++ va_pl L u.2.2.2.2.2.2.2) : Nat × (Nat → Int32) × Int32 × Nat × (Nat → Int32) × (Nat → Int32) × (Nat → Int32) × (Nat → va_E) → va_W) u) t) (va_A ([(q0, .inr (7, [.ref q1, .ref q2, .ref q3, .ref qc])), (q1, .inr (6, [.ref q5, .int (nI n)])), (q5, .inl (gB g, 2000, .inl f)), (q2, .inr (3, [.ref q6, .int px])), (q6, .inl (gI g, 600, .inl pw)), (q3, .inr (4, [.ref q1, .ref q2, .ref q7, .int fp])), (q7, .inr (5, [.ref q1, .ref q8, .ref q9, .ref q10, .int cx])), (q8, .inl (gI g, 40, .inl s1)), (q9, .inl (gI g, 40, .inl s2)), (q10, .inl (gI g, 40, .inl s3)), (qc, .inr (2, [.ref q2, .ref qm, .int a, .int d, .int nx9, .int dn])), (qm, .inr (0, [.ref qp])), (qp, .inl (gP g, 128, .inr (.inr (.inr (.inr pf)))))] ++ va_pl L fE) sz)) 0 0 (va_A ([(q0, .inr (7, [.ref q1, .ref q2, .ref q3, .ref qc])), (q1, .inr (6, [.ref q5, .int (nI n)])), (q5, .inl (gB g, 2000, .inl f)), (q2, .inr (3, [.ref q6, .int px])), (q6, .inl (gI g, 600, .inl pw)), (q3, .inr (4, [.ref q1, .ref q2, .ref q7, .int fp])), (q7, .inr (5, [.ref q1, .ref q8, .ref q9, .ref q10, .int cx])), (q8, .inl (gI g, 40, .inl s1)), (q9, .inl (gI g, 40, .inl s2)), (q10, .inl (gI g, 40, .inl s3)), (qc, .inr (2, [.ref q2, .ref qm, .int a, .int d, .int nx9, .int dn])), (qm, .inr (0, [.ref qp])), (qp, .inl (gP g, 128, .inr (.inr (.inr (.inr pf)))))] ++ va_pl L fE) sz) := by
  refine Met.ofW (cc := b_Dsk_read) (maxL := 2) (ret := (some .int)) (by decide) rfl ?_
  intro p ev s m args below meth c s₁ B hml hv
  obtain ⟨rfl, hsz, hP, hK, hE, hD0, hs0⟩ := hv
  have hx := B.exec
  have hb := B.bytes
  have hr := B.returns
  have hts := fun (w : Cond) (h : w ∈ sdT) => atoms_spec (ws := (.code y_Dsk_read b_Dsk_read 2 (some .int) :: sdT)) B.pre w (List.mem_cons_of_mem _ h)
  have hown : s.vm.findClass "SignDesk" = some m.cls := findClass_of_methodNamed B.named
  have hlocks := B.notSynchronized
  subst hsz
  have hD := hD0.self (sz := s.heap.size)
  have hA0 : ∀ q : Nat, va_A ([(q0, .inr (7, [.ref q1, .ref q2, .ref q3, .ref qc])), (q1, .inr (6, [.ref q5, .int (nI n)])), (q5, .inl (gB g, 2000, .inl f)), (q2, .inr (3, [.ref q6, .int px])), (q6, .inl (gI g, 600, .inl pw)), (q3, .inr (4, [.ref q1, .ref q2, .ref q7, .int fp])), (q7, .inr (5, [.ref q1, .ref q8, .ref q9, .ref q10, .int cx])), (q8, .inl (gI g, 40, .inl s1)), (q9, .inl (gI g, 40, .inl s2)), (q10, .inl (gI g, 40, .inl s3)), (qc, .inr (2, [.ref q2, .ref qm, .int a, .int d, .int nx9, .int dn])), (qm, .inr (0, [.ref qp])), (qp, .inl (gP g, 128, .inr (.inr (.inr (.inr pf)))))] ++ va_pl L fE) s.heap.size q → gS g ≤ q := fun q h => h.elim (fun ⟨k, e, hk⟩ => hD0.2 k _ hk) (fun h => Nat.le_trans hs0 h)
  have hA : ∀ q : Nat, s.heap.size ≤ q → va_A ([(q0, .inr (7, [.ref q1, .ref q2, .ref q3, .ref qc])), (q1, .inr (6, [.ref q5, .int (nI n)])), (q5, .inl (gB g, 2000, .inl f)), (q2, .inr (3, [.ref q6, .int px])), (q6, .inl (gI g, 600, .inl pw)), (q3, .inr (4, [.ref q1, .ref q2, .ref q7, .int fp])), (q7, .inr (5, [.ref q1, .ref q8, .ref q9, .ref q10, .int cx])), (q8, .inl (gI g, 40, .inl s1)), (q9, .inl (gI g, 40, .inl s2)), (q10, .inl (gI g, 40, .inl s3)), (qc, .inr (2, [.ref q2, .ref qm, .int a, .int d, .int nx9, .int dn])), (qm, .inr (0, [.ref qp])), (qp, .inl (gP g, 128, .inr (.inr (.inr (.inr pf)))))] ++ va_pl L fE) s.heap.size q := fun q h => Or.inr h
  generalize hAe : va_A ([(q0, .inr (7, [.ref q1, .ref q2, .ref q3, .ref qc])), (q1, .inr (6, [.ref q5, .int (nI n)])), (q5, .inl (gB g, 2000, .inl f)), (q2, .inr (3, [.ref q6, .int px])), (q6, .inl (gI g, 600, .inl pw)), (q3, .inr (4, [.ref q1, .ref q2, .ref q7, .int fp])), (q7, .inr (5, [.ref q1, .ref q8, .ref q9, .ref q10, .int cx])), (q8, .inl (gI g, 40, .inl s1)), (q9, .inl (gI g, 40, .inl s2)), (q10, .inl (gI g, 40, .inl s3)), (qc, .inr (2, [.ref q2, .ref qm, .int a, .int d, .int nx9, .int dn])), (qm, .inr (0, [.ref qp])), (qp, .inl (gP g, 128, .inr (.inr (.inr (.inr pf)))))] ++ va_pl L fE) s.heap.size = A at hD hA0 hA ⊢
  have hS : va_S A s.heap s.heap [] := va_S.rf
  have hP : sdP g ([(q0, .inr (7, [.ref q1, .ref q2, .ref q3, .ref qc])), (q1, .inr (6, [.ref q5, .int (nI n)])), (q5, .inl (gB g, 2000, .inl f)), (q2, .inr (3, [.ref q6, .int px])), (q6, .inl (gI g, 600, .inl pw)), (q3, .inr (4, [.ref q1, .ref q2, .ref q7, .int fp])), (q7, .inr (5, [.ref q1, .ref q8, .ref q9, .ref q10, .int cx])), (q8, .inl (gI g, 40, .inl s1)), (q9, .inl (gI g, 40, .inl s2)), (q10, .inl (gI g, 40, .inl s3)), (qc, .inr (2, [.ref q2, .ref qm, .int a, .int d, .int nx9, .int dn])), (qm, .inr (0, [.ref qp])), (qp, .inl (gP g, 128, .inr (.inr (.inr (.inr pf)))))] ++ va_pl L fE) s.heap := hP
  have hl := lv_entry ([.ref q0]) (n := 2) (Nat.le_of_ble_eq_true rfl)
  rw [lg_entry_eq]
  generalize (lg_sl ([.ref q0]) ++ List.replicate (2 - (lg_sl ([.ref q0])).length) Slot.unset).toArray = ls at hl ⊢
  have hl : lv_has ls 2 [(0, .ref q0)] := hl
  refine lv_aload_n hx hb d_Dsk_read_0 rfl (lv_at hl 0 rfl) ?_
  refine va_get (D := g.1) (ci := 7) (v := .ref q3) (C := "SignDesk") (T := F_Dsk) (N := 4) hx hb hts in_Dsk hown hK hP 0 rfl rfl 2 (by decide) (hts _ k_153) (fun _ h9 => h9) rfl d_Dsk_read_1 ?_
  have hPc := hP.sub (ws' := [(q3, .inr (4, [.ref q1, .ref q2, .ref q7, .int fp])), (q1, .inr (6, [.ref q5, .int (nI n)])), (q5, .inl (gB g, 2000, .inl f)), (q2, .inr (3, [.ref q6, .int px])), (q6, .inl (gI g, 600, .inl pw)), (q7, .inr (5, [.ref q1, .ref q8, .ref q9, .ref q10, .int cx])), (q8, .inl (gI g, 40, .inl s1)), (q9, .inl (gI g, 40, .inl s2)), (q10, .inl (gI g, 40, .inl s3))]) [5, 1, 2, 3, 4, 6, 7, 8, 9] rfl
  have hDc := hD.sub (ws' := [(q3, .inr (4, [.ref q1, .ref q2, .ref q7, .int fp])), (q1, .inr (6, [.ref q5, .int (nI n)])), (q5, .inl (gB g, 2000, .inl f)), (q2, .inr (3, [.ref q6, .int px])), (q6, .inl (gI g, 600, .inl pw)), (q7, .inr (5, [.ref q1, .ref q8, .ref q9, .ref q10, .int cx])), (q8, .inl (gI g, 40, .inl s1)), (q9, .inl (gI g, 40, .inl s2)), (q10, .inl (gI g, 40, .inl s3))]) [5, 1, 2, 3, 4, 6, 7, 8, 9] (by decide) rfl
  have hFc := va_free (wc := [(q3, .inr (4, [.ref q1, .ref q2, .ref q7, .int fp])), (q1, .inr (6, [.ref q5, .int (nI n)])), (q5, .inl (gB g, 2000, .inl f)), (q2, .inr (3, [.ref q6, .int px])), (q6, .inl (gI g, 600, .inl pw)), (q7, .inr (5, [.ref q1, .ref q8, .ref q9, .ref q10, .int cx])), (q8, .inl (gI g, 40, .inl s1)), (q9, .inl (gI g, 40, .inl s2)), (q10, .inl (gI g, 40, .inl s3))]) hD hS hA [5, 1, 2, 3, 4, 6, 7, 8, 9] rfl
  refine sd_ci (va_runV (As := []) (rest := []) ⟨hx, hb, hml, hown, hts⟩ (c_Rdr_assemble l g q3 q1 q2 q7 q5 q6 q8 q9 q10 n fp px cx f tx hT pw s1 s2 s3 s.heap.size) (cwV 0 hts (sd_gV k_176 k_177 k_178 k_26 k_179) rfl rfl rfl (by decide +kernel) ⟨Nat.le_of_ble_eq_true rfl, Nat.le_of_ble_eq_true rfl⟩) (sd_preVU hK hE hS hA0 hs0 hPc hDc rfl rfl) rfl rfl hl.1 rfl (lv_room (Nat.le_of_ble_eq_true rfl)) d_Dsk_read_4 ⟨Nat.zero_le _, Nat.zero_le _⟩) hS hFc (fun r1 u H1 locs hw hP1 hD1 hk1 hS => ?_)
  obtain ⟨w2, p2, f2, c2, t1, t2, t3⟩ := u
  obtain ⟨hP, hD⟩ := va_joinQ (wr := [(q0, .inr (7, [.ref q1, .ref q2, .ref q3, .ref qc])), (qc, .inr (2, [.ref q2, .ref qm, .int a, .int d, .int nx9, .int dn])), (qm, .inr (0, [.ref qp])), (qp, .inl (gP g, 128, .inr (.inr (.inr (.inr pf)))))]) (w1 := [(q3, .inr (4, [.ref q1, .ref q2, .ref q7, .int f2])), (q1, .inr (6, [.ref q5, .int (nI n)])), (q5, .inl (gB g, 2000, .inl f)), (q2, .inr (3, [.ref q6, .int (nI w2)])), (q6, .inl (gI g, 600, .inl p2)), (q7, .inr (5, [.ref q1, .ref q8, .ref q9, .ref q10, .int (nI c2)])), (q8, .inl (gI g, 40, .inl t1)), (q9, .inl (gI g, 40, .inl t2)), (q10, .inl (gI g, 40, .inl t3))]) hP hD [5, 1, 2, 3, 4, 6, 7, 8, 9] [0, 10, 11, 12] rfl rfl (by decide) (by decide) hk1 hFc hP1 hD1
  clear hPc hDc hFc hk1 hP1 hD1
  generalize H1 = H at hP hS ⊢
  have hP : sdP g ([(q0, .inr (7, [.ref q1, .ref q2, .ref q3, .ref qc])), (qc, .inr (2, [.ref q2, .ref qm, .int a, .int d, .int nx9, .int dn])), (qm, .inr (0, [.ref qp])), (qp, .inl (gP g, 128, .inr (.inr (.inr (.inr pf))))), (q3, .inr (4, [.ref q1, .ref q2, .ref q7, .int f2])), (q1, .inr (6, [.ref q5, .int (nI n)])), (q5, .inl (gB g, 2000, .inl f)), (q2, .inr (3, [.ref q6, .int (nI w2)])), (q6, .inl (gI g, 600, .inl p2)), (q7, .inr (5, [.ref q1, .ref q8, .ref q9, .ref q10, .int (nI c2)])), (q8, .inl (gI g, 40, .inl t1)), (q9, .inl (gI g, 40, .inl t2)), (q10, .inl (gI g, 40, .inl t3))] ++ va_pl L fE) H := hP
  have hD : va_D A ([(q0, .inr (7, [.ref q1, .ref q2, .ref q3, .ref qc])), (qc, .inr (2, [.ref q2, .ref qm, .int a, .int d, .int nx9, .int dn])), (qm, .inr (0, [.ref qp])), (qp, .inl (gP g, 128, .inr (.inr (.inr (.inr pf))))), (q3, .inr (4, [.ref q1, .ref q2, .ref q7, .int f2])), (q1, .inr (6, [.ref q5, .int (nI n)])), (q5, .inl (gB g, 2000, .inl f)), (q2, .inr (3, [.ref q6, .int (nI w2)])), (q6, .inl (gI g, 600, .inl p2)), (q7, .inr (5, [.ref q1, .ref q8, .ref q9, .ref q10, .int (nI c2)])), (q8, .inl (gI g, 40, .inl t1)), (q9, .inl (gI g, 40, .inl t2)), (q10, .inl (gI g, 40, .inl t3))] ++ va_pl L fE) := hD
  refine lv_istore_n (lv' := [(1, .int r1), (0, .ref q0)]) hx hb d_Dsk_read_7 rfl hl (by decide) rfl (fun ls hl => ?_)
  refine lv_aload_n hx hb d_Dsk_read_8 rfl (lv_at hl 1 rfl) ?_
  refine va_get (D := g.1) (ci := 7) (v := .ref q1) (C := "SignDesk") (T := F_Dsk) (N := 4) hx hb hts in_Dsk hown hK hP 0 rfl rfl 0 (by decide) (hts _ k_151) (fun _ h9 => h9) rfl d_Dsk_read_9 ?_
  have hPc := hP.sub (ws' := [(q1, .inr (6, [.ref q5, .int (nI n)])), (q5, .inl (gB g, 2000, .inl f))]) [5, 6] rfl
  have hDc := hD.sub (ws' := [(q1, .inr (6, [.ref q5, .int (nI n)])), (q5, .inl (gB g, 2000, .inl f))]) [5, 6] (by decide) rfl
  have hFc := va_free (wc := [(q1, .inr (6, [.ref q5, .int (nI n)])), (q5, .inl (gB g, 2000, .inl f))]) hD hS hA [5, 6] rfl
  refine sd_cv (va_runV (As := []) (rest := []) ⟨hx, hb, hml, hown, hts⟩ (c_Txt_clear l g q1 q5 n f H.size) (cwV 0 hts (sd_gV k_375 k_376 k_377 k_24 k_378) rfl rfl rfl (by decide +kernel) ⟨Nat.le_of_ble_eq_true rfl, Nat.le_of_ble_eq_true rfl⟩) (sd_preVU hK hE hS hA0 hs0 hPc hDc rfl rfl) rfl rfl hl.1 rfl (lv_room (Nat.le_of_ble_eq_true rfl)) d_Dsk_read_12 ⟨Nat.zero_le _, Nat.zero_le _⟩) hS hFc (fun u H1 locs hw2 hP1 hD1 hk1 hS => ?_)
  obtain ⟨hP, hD⟩ := va_joinQ (wr := [(q0, .inr (7, [.ref q1, .ref q2, .ref q3, .ref qc])), (qc, .inr (2, [.ref q2, .ref qm, .int a, .int d, .int nx9, .int dn])), (qm, .inr (0, [.ref qp])), (qp, .inl (gP g, 128, .inr (.inr (.inr (.inr pf))))), (q3, .inr (4, [.ref q1, .ref q2, .ref q7, .int f2])), (q2, .inr (3, [.ref q6, .int (nI w2)])), (q6, .inl (gI g, 600, .inl p2)), (q7, .inr (5, [.ref q1, .ref q8, .ref q9, .ref q10, .int (nI c2)])), (q8, .inl (gI g, 40, .inl t1)), (q9, .inl (gI g, 40, .inl t2)), (q10, .inl (gI g, 40, .inl t3))]) (w1 := [(q1, .inr (6, [.ref q5, .int (nI 0)])), (q5, .inl (gB g, 2000, .inl f))]) hP hD [5, 6] [0, 1, 2, 3, 4, 7, 8, 9, 10, 11, 12] rfl rfl (by decide) (by decide) hk1 hFc hP1 hD1
  clear hPc hDc hFc hk1 hP1 hD1
  generalize H1 = H at hP hS ⊢
  have hP : sdP g ([(q0, .inr (7, [.ref q1, .ref q2, .ref q3, .ref qc])), (qc, .inr (2, [.ref q2, .ref qm, .int a, .int d, .int nx9, .int dn])), (qm, .inr (0, [.ref qp])), (qp, .inl (gP g, 128, .inr (.inr (.inr (.inr pf))))), (q3, .inr (4, [.ref q1, .ref q2, .ref q7, .int f2])), (q2, .inr (3, [.ref q6, .int (nI w2)])), (q6, .inl (gI g, 600, .inl p2)), (q7, .inr (5, [.ref q1, .ref q8, .ref q9, .ref q10, .int (nI c2)])), (q8, .inl (gI g, 40, .inl t1)), (q9, .inl (gI g, 40, .inl t2)), (q10, .inl (gI g, 40, .inl t3)), (q1, .inr (6, [.ref q5, .int (nI 0)])), (q5, .inl (gB g, 2000, .inl f))] ++ va_pl L fE) H := hP
  have hD : va_D A ([(q0, .inr (7, [.ref q1, .ref q2, .ref q3, .ref qc])), (qc, .inr (2, [.ref q2, .ref qm, .int a, .int d, .int nx9, .int dn])), (qm, .inr (0, [.ref qp])), (qp, .inl (gP g, 128, .inr (.inr (.inr (.inr pf))))), (q3, .inr (4, [.ref q1, .ref q2, .ref q7, .int f2])), (q2, .inr (3, [.ref q6, .int (nI w2)])), (q6, .inl (gI g, 600, .inl p2)), (q7, .inr (5, [.ref q1, .ref q8, .ref q9, .ref q10, .int (nI c2)])), (q8, .inl (gI g, 40, .inl t1)), (q9, .inl (gI g, 40, .inl t2)), (q10, .inl (gI g, 40, .inl t3)), (q1, .inr (6, [.ref q5, .int (nI 0)])), (q5, .inl (gB g, 2000, .inl f))] ++ va_pl L fE) := hD
  refine lv_aload_n hx hb d_Dsk_read_15 rfl (lv_at hl 1 rfl) ?_
  refine va_get (D := g.1) (ci := 7) (v := .ref qc) (C := "SignDesk") (T := F_Dsk) (N := 4) hx hb hts in_Dsk hown hK hP 0 rfl rfl 3 (by decide) (hts _ k_154) (fun _ h9 => h9) rfl d_Dsk_read_16 ?_
  have hPc := hP.part (cx := [(qc, .inr (2, [.ref q2, .ref qm, .int a, .int d, .int nx9, .int dn])), (qm, .inr (0, [.ref qp])), (qp, .inl (gP g, 128, .inr (.inr (.inr (.inr pf)))))]) [1, 2, 3] rfl
  have hDc := hD.part (cx := [(qc, .inr (2, [.ref q2, .ref qm, .int a, .int d, .int nx9, .int dn])), (qm, .inr (0, [.ref qp])), (qp, .inl (gP g, 128, .inr (.inr (.inr (.inr pf)))))]) [1, 2, 3] (by decide) rfl
  have hFc := va_freeP (cx := [(qc, .inr (2, [.ref q2, .ref qm, .int a, .int d, .int nx9, .int dn])), (qm, .inr (0, [.ref qp])), (qp, .inl (gP g, 128, .inr (.inr (.inr (.inr pf)))))]) hD hS hA [1, 2, 3] rfl
  refine sd_cv (va_runV (As := []) (rest := []) ⟨hx, hb, hml, hown, hts⟩ (c_Prc_clear l g qc q2 qm qp a d nx9 dn pf L fE M pg hM H.size) (cwV 0 hts (sd_gV k_379 k_380 k_381 k_28 k_382) rfl rfl rfl (by decide +kernel) ⟨Nat.le_of_ble_eq_true rfl, Nat.le_of_ble_eq_true rfl⟩) (sd_preVU hK hE hS hA0 hs0 hPc hDc rfl rfl) rfl rfl hl.1 rfl (lv_room (Nat.le_of_ble_eq_true rfl)) d_Dsk_read_19 ⟨Nat.zero_le _, Nat.zero_le _⟩) hS hFc (fun f9 H1 locs hw3 hP1 hD1 hk1 hS => ?_)
  obtain ⟨hP, hD⟩ := va_joinP (wr := [(q0, .inr (7, [.ref q1, .ref q2, .ref q3, .ref qc])), (q3, .inr (4, [.ref q1, .ref q2, .ref q7, .int f2])), (q2, .inr (3, [.ref q6, .int (nI w2)])), (q6, .inl (gI g, 600, .inl p2)), (q7, .inr (5, [.ref q1, .ref q8, .ref q9, .ref q10, .int (nI c2)])), (q8, .inl (gI g, 40, .inl t1)), (q9, .inl (gI g, 40, .inl t2)), (q10, .inl (gI g, 40, .inl t3)), (q1, .inr (6, [.ref q5, .int (nI 0)])), (q5, .inl (gB g, 2000, .inl f))]) (rx := [(qc, .inr (2, [.ref q2, .ref qm, .int (nI 0), .int (nI 0), .int (nI 0), .int (nI 0)])), (qm, .inr (0, [.ref qp])), (qp, .inl (gP g, 128, .inr (.inr (.inr (.inr pf)))))]) (pl1 := va_pl L f9) hP hD [1, 2, 3] [0, 4, 5, 6, 7, 8, 9, 10, 11, 12] rfl rfl (by decide) (by decide) hk1 hFc hP1 hD1
  clear hPc hDc hFc hk1 hP1 hD1
  generalize H1 = H at hP hS ⊢
  have hP : sdP g ([(q0, .inr (7, [.ref q1, .ref q2, .ref q3, .ref qc])), (q3, .inr (4, [.ref q1, .ref q2, .ref q7, .int f2])), (q2, .inr (3, [.ref q6, .int (nI w2)])), (q6, .inl (gI g, 600, .inl p2)), (q7, .inr (5, [.ref q1, .ref q8, .ref q9, .ref q10, .int (nI c2)])), (q8, .inl (gI g, 40, .inl t1)), (q9, .inl (gI g, 40, .inl t2)), (q10, .inl (gI g, 40, .inl t3)), (q1, .inr (6, [.ref q5, .int (nI 0)])), (q5, .inl (gB g, 2000, .inl f)), (qc, .inr (2, [.ref q2, .ref qm, .int (nI 0), .int (nI 0), .int (nI 0), .int (nI 0)])), (qm, .inr (0, [.ref qp])), (qp, .inl (gP g, 128, .inr (.inr (.inr (.inr pf)))))] ++ va_pl L f9) H := hP
  have hD : va_D A ([(q0, .inr (7, [.ref q1, .ref q2, .ref q3, .ref qc])), (q3, .inr (4, [.ref q1, .ref q2, .ref q7, .int f2])), (q2, .inr (3, [.ref q6, .int (nI w2)])), (q6, .inl (gI g, 600, .inl p2)), (q7, .inr (5, [.ref q1, .ref q8, .ref q9, .ref q10, .int (nI c2)])), (q8, .inl (gI g, 40, .inl t1)), (q9, .inl (gI g, 40, .inl t2)), (q10, .inl (gI g, 40, .inl t3)), (q1, .inr (6, [.ref q5, .int (nI 0)])), (q5, .inl (gB g, 2000, .inl f)), (qc, .inr (2, [.ref q2, .ref qm, .int (nI 0), .int (nI 0), .int (nI 0), .int (nI 0)])), (qm, .inr (0, [.ref qp])), (qp, .inl (gP g, 128, .inr (.inr (.inr (.inr pf)))))] ++ va_pl L f9) := hD
  refine lv_iload_n hx hb d_Dsk_read_22 rfl (lv_at hl 0 rfl) ?_
  have hP9 := hP.part (cx := [(q0, .inr (7, [.ref q1, .ref q2, .ref q3, .ref qc])), (q1, .inr (6, [.ref q5, .int (nI 0)])), (q5, .inl (gB g, 2000, .inl f)), (q2, .inr (3, [.ref q6, .int (nI w2)])), (q6, .inl (gI g, 600, .inl p2)), (q3, .inr (4, [.ref q1, .ref q2, .ref q7, .int f2])), (q7, .inr (5, [.ref q1, .ref q8, .ref q9, .ref q10, .int (nI c2)])), (q8, .inl (gI g, 40, .inl t1)), (q9, .inl (gI g, 40, .inl t2)), (q10, .inl (gI g, 40, .inl t3)), (qc, .inr (2, [.ref q2, .ref qm, .int (nI 0), .int (nI 0), .int (nI 0), .int (nI 0)])), (qm, .inr (0, [.ref qp])), (qp, .inl (gP g, 128, .inr (.inr (.inr (.inr pf)))))]) [0, 8, 9, 2, 3, 1, 4, 5, 6, 7, 10, 11, 12] rfl
  have hD9 := hD.part (cx := [(q0, .inr (7, [.ref q1, .ref q2, .ref q3, .ref qc])), (q1, .inr (6, [.ref q5, .int (nI 0)])), (q5, .inl (gB g, 2000, .inl f)), (q2, .inr (3, [.ref q6, .int (nI w2)])), (q6, .inl (gI g, 600, .inl p2)), (q3, .inr (4, [.ref q1, .ref q2, .ref q7, .int f2])), (q7, .inr (5, [.ref q1, .ref q8, .ref q9, .ref q10, .int (nI c2)])), (q8, .inl (gI g, 40, .inl t1)), (q9, .inl (gI g, 40, .inl t2)), (q10, .inl (gI g, 40, .inl t3)), (qc, .inr (2, [.ref q2, .ref qm, .int (nI 0), .int (nI 0), .int (nI 0), .int (nI 0)])), (qm, .inr (0, [.ref qp])), (qp, .inl (gP g, 128, .inr (.inr (.inr (.inr pf)))))]) [0, 8, 9, 2, 3, 1, 4, 5, 6, 7, 10, 11, 12] (by decide) rfl
  exact W.iret (v := r1) hx hb hr (fun t ht hW => ⟨⟨_, (w2, p2, f2, c2, t1, t2, t3, f9), rfl, ⟨hw.1, hw.2.1, hw.2.2, hw3⟩, by rw [ht]; exact hP9, by rw [hAe]; exact hD9⟩, hS.F ht⟩) hS.2.2 d_Dsk_read_23
set_option maxHeartbeats 4000000 in
set_option maxRecDepth 100000 in
/-- go(x) -/
theorem c_Dsk_go (l : Launch) (g : sdG) (q0 q1 q2 q3 qc q6 qm qp wn9 : Nat) (pw : Nat → Int32) (cw : Nat → Nat) (hwn : wn9 ≤ 600) (hpw : ∀ i, i < wn9 → pw i = nI (cw i) ∧ cw i < 65536) (a d : Int32) (nx : Nat) (dn : Int32) (pf : Nat → Option Nat) (L : List Nat) (fE : Nat → va_E) (M : Nat → Int32) (pg : Nat → Bool) (hM : memOK g pf L fE M pg) (x : Int32) (hnx : nx < 40000) (mc ms : Nat) (hmc : ∀ N, N ≤ 2000 → x = nI N → 2 * (cntp (prun cw wn9 N (a, d, nx, M, pg)).2.2.2.2.2 - cntp pg) ≤ mc ∧ 257 * (cntp (prun cw wn9 N (a, d, nx, M, pg)).2.2.2.2.2 - cntp pg) ≤ ms) (sz : Nat) : Met l y_Dsk_go (.code y_Dsk_go b_Dsk_go 2 (some .int) :: sdT) ({ frames := 5, cells := mc, slots := ms, locals := 112 }) (va_Pc [.ref q0, .int x] (sdU g ([(q0, .inr (7, [.ref q1, .ref q2, .ref q3, .ref qc])), (qc, .inr (2, [.ref q2, .ref qm, .int a, .int d, .int (nI nx), .int dn])), (q2, .inr (3, [.ref q6, .int (nI wn9)])), (q6, .inl (gI g, 600, .inl pw)), (qm, .inr (0, [.ref qp])), (qp, .inl (gP g, 128, .inr (.inr (.inr (.inr pf)))))] ++ va_pl L fE) sz)) (va_Qi (S := Int32 × Int32 × Nat × Int32 × (Nat → Option Nat) × List Nat × (Nat → va_E)) (fun r u => (∃ N, N ≤ 2000 ∧ x = nI N ∧ ∃ c M1 pg1, prun cw wn9 N (a, d, nx, M, pg) = (c, u.1, u.2.1, u.2.2.1, M1, pg1) ∧ r = nI c ∧ u.2.2.2.1 = dn + nI c ∧ memOK g u.2.2.2.2.1 u.2.2.2.2.2.1 u.2.2.2.2.2.2 M1 pg1) ∨ ((¬ ∃ N, N ≤ 2000 ∧ x = nI N) ∧ r = -1 ∧ u = (a, d, nx, dn, pf, L, fE))) (fun u t => sdB g ([(q0, .inr (7, [.ref q1, .ref q2, .ref q3, .ref qc])), (qc, .inr (2, [.ref q2, .ref qm, .int a, .int d, .int (nI nx), .int dn])), (q2, .inr (3, [.ref q6, .int (nI wn9)])), (q6, .inl (gI g, 600, .inl pw)), (qm, .inr (0, [.ref qp])), (qp, .inl (gP g, 128, .inr (.inr (.inr (.inr pf)))))] ++ va_pl L fE) sz ((fun u => ([(q0, .inr (7, [.ref q1, .ref q2, .ref q3, .ref qc])), (qc, .inr (2, [.ref q2, .ref qm, .int u.1, .int u.2.1, .int (nI u.2.2.1), .int u.2.2.2.1])), (q2, .inr (3, [.ref q6, .int (nI wn9)])), (q6, .inl (gI g, 600, .inl pw)), (qm, .inr (0, [.ref qp])), (qp, .inl (gP g, 128, .inr (.inr (.inr (.inr u.2.2.2.2.1)))))] ++ va_pl u.2.2.2.2.2.1 u.2.2.2.2.2.2) : Int32 × Int32 × Nat × Int32 × (Nat → Option Nat) × List Nat × (Nat → va_E) → va_W) u) t) (va_A ([(q0, .inr (7, [.ref q1, .ref q2, .ref q3, .ref qc])), (qc, .inr (2, [.ref q2, .ref qm, .int a, .int d, .int (nI nx), .int dn])), (q2, .inr (3, [.ref q6, .int (nI wn9)])), (q6, .inl (gI g, 600, .inl pw)), (qm, .inr (0, [.ref qp])), (qp, .inl (gP g, 128, .inr (.inr (.inr (.inr pf)))))] ++ va_pl L fE) sz)) mc ms (va_A ([(q0, .inr (7, [.ref q1, .ref q2, .ref q3, .ref qc])), (qc, .inr (2, [.ref q2, .ref qm, .int a, .int d, .int (nI nx), .int dn])), (q2, .inr (3, [.ref q6, .int (nI wn9)])), (q6, .inl (gI g, 600, .inl pw)), (qm, .inr (0, [.ref qp])), (qp, .inl (gP g, 128, .inr (.inr (.inr (.inr pf)))))] ++ va_pl L fE) sz) := by
  refine Met.ofW (cc := b_Dsk_go) (maxL := 2) (ret := (some .int)) (by decide) rfl ?_
  intro p ev s m args below meth c s₁ B hml hv
  obtain ⟨rfl, hsz, hP, hK, hE, hD0, hs0⟩ := hv
  have hx := B.exec
  have hb := B.bytes
  have hr := B.returns
  have hts := fun (w : Cond) (h : w ∈ sdT) => atoms_spec (ws := (.code y_Dsk_go b_Dsk_go 2 (some .int) :: sdT)) B.pre w (List.mem_cons_of_mem _ h)
  have hown : s.vm.findClass "SignDesk" = some m.cls := findClass_of_methodNamed B.named
  have hlocks := B.notSynchronized
  subst hsz
  have hD := hD0.self (sz := s.heap.size)
  have hA0 : ∀ q : Nat, va_A ([(q0, .inr (7, [.ref q1, .ref q2, .ref q3, .ref qc])), (qc, .inr (2, [.ref q2, .ref qm, .int a, .int d, .int (nI nx), .int dn])), (q2, .inr (3, [.ref q6, .int (nI wn9)])), (q6, .inl (gI g, 600, .inl pw)), (qm, .inr (0, [.ref qp])), (qp, .inl (gP g, 128, .inr (.inr (.inr (.inr pf)))))] ++ va_pl L fE) s.heap.size q → gS g ≤ q := fun q h => h.elim (fun ⟨k, e, hk⟩ => hD0.2 k _ hk) (fun h => Nat.le_trans hs0 h)
  have hA : ∀ q : Nat, s.heap.size ≤ q → va_A ([(q0, .inr (7, [.ref q1, .ref q2, .ref q3, .ref qc])), (qc, .inr (2, [.ref q2, .ref qm, .int a, .int d, .int (nI nx), .int dn])), (q2, .inr (3, [.ref q6, .int (nI wn9)])), (q6, .inl (gI g, 600, .inl pw)), (qm, .inr (0, [.ref qp])), (qp, .inl (gP g, 128, .inr (.inr (.inr (.inr pf)))))] ++ va_pl L fE) s.heap.size q := fun q h => Or.inr h
  generalize hAe : va_A ([(q0, .inr (7, [.ref q1, .ref q2, .ref q3, .ref qc])), (qc, .inr (2, [.ref q2, .ref qm, .int a, .int d, .int (nI nx), .int dn])), (q2, .inr (3, [.ref q6, .int (nI wn9)])), (q6, .inl (gI g, 600, .inl pw)), (qm, .inr (0, [.ref qp])), (qp, .inl (gP g, 128, .inr (.inr (.inr (.inr pf)))))] ++ va_pl L fE) s.heap.size = A at hD hA0 hA ⊢
  have hS : va_S A s.heap s.heap [] := va_S.rf
  have hP : sdP g ([(q0, .inr (7, [.ref q1, .ref q2, .ref q3, .ref qc])), (qc, .inr (2, [.ref q2, .ref qm, .int a, .int d, .int (nI nx), .int dn])), (q2, .inr (3, [.ref q6, .int (nI wn9)])), (q6, .inl (gI g, 600, .inl pw)), (qm, .inr (0, [.ref qp])), (qp, .inl (gP g, 128, .inr (.inr (.inr (.inr pf)))))] ++ va_pl L fE) s.heap := hP
  have hl := lv_entry ([.ref q0, .int x]) (n := 2) (Nat.le_of_ble_eq_true rfl)
  rw [lg_entry_eq]
  generalize (lg_sl ([.ref q0, .int x]) ++ List.replicate (2 - (lg_sl ([.ref q0, .int x])).length) Slot.unset).toArray = ls at hl ⊢
  have hl : lv_has ls 2 [(0, .ref q0), (1, .int x)] := hl
  refine lv_iload_n hx hb d_Dsk_go_0 rfl (lv_at hl 1 rfl) ?_
  refine lv_if_lt (tgt := 11) hx hb d_Dsk_go_1 (by decide) (fun c1 => ?_) (fun c1 => ?_)
  · refine lv_iconst (v := (-1)) hx hb d_Dsk_go_11 (by decide) ?_
    have hP9 := hP.part (cx := [(q0, .inr (7, [.ref q1, .ref q2, .ref q3, .ref qc])), (qc, .inr (2, [.ref q2, .ref qm, .int a, .int d, .int (nI nx), .int dn])), (q2, .inr (3, [.ref q6, .int (nI wn9)])), (q6, .inl (gI g, 600, .inl pw)), (qm, .inr (0, [.ref qp])), (qp, .inl (gP g, 128, .inr (.inr (.inr (.inr pf)))))]) [0, 1, 2, 3, 4, 5] rfl
    have hD9 := hD.part (cx := [(q0, .inr (7, [.ref q1, .ref q2, .ref q3, .ref qc])), (qc, .inr (2, [.ref q2, .ref qm, .int a, .int d, .int (nI nx), .int dn])), (q2, .inr (3, [.ref q6, .int (nI wn9)])), (q6, .inl (gI g, 600, .inl pw)), (qm, .inr (0, [.ref qp])), (qp, .inl (gP g, 128, .inr (.inr (.inr (.inr pf)))))]) [0, 1, 2, 3, 4, 5] (by decide) rfl
    refine W.widen (k := mc) (n := ms) (Nat.zero_le _) (Nat.zero_le _) ?_
    exact W.iret (v := (-1)) hx hb hr (fun t ht hW => ⟨⟨_, (a, d, nx, dn, pf, L, fE), rfl, Or.inr ⟨fun ⟨N, h1, h2⟩ => by
        subst h2; exact absurd c1 (nI_pos (by omega)), rfl, rfl⟩, by rw [ht]; exact hP9, by rw [hAe]; exact hD9⟩, hS.F ht⟩) hS.2.2 d_Dsk_go_12
  · refine lv_iload_n hx hb d_Dsk_go_4 rfl (lv_at hl 1 rfl) ?_
    refine lv_sipush (v := (nI 2000)) hx hb d_Dsk_go_5 (by decide) ?_
    refine lv_icmp_le (tgt := 13) hx hb d_Dsk_go_8 (by decide) (fun c2 => ?_) (fun c2 => ?_)
    · obtain ⟨N, hN, rfl⟩ := nI_of2 (M := nI 2000) (n := 2000) (by decide) c1 c2
      have hmcN := hmc N hN rfl
      refine lv_aload_n hx hb d_Dsk_go_13 rfl (lv_at hl 0 rfl) ?_
      refine va_get (D := g.1) (ci := 7) (v := .ref qc) (C := "SignDesk") (T := F_Dsk) (N := 4) hx hb hts in_Dsk hown hK hP 0 rfl rfl 3 (by decide) (hts _ k_154) (fun _ h9 => h9) rfl d_Dsk_go_14 ?_
      refine lv_iload_n hx hb d_Dsk_go_17 rfl (lv_at hl 1 rfl) ?_
      have hPc := hP.part (cx := [(qc, .inr (2, [.ref q2, .ref qm, .int a, .int d, .int (nI nx), .int dn])), (q2, .inr (3, [.ref q6, .int (nI wn9)])), (q6, .inl (gI g, 600, .inl pw)), (qm, .inr (0, [.ref qp])), (qp, .inl (gP g, 128, .inr (.inr (.inr (.inr pf)))))]) [1, 2, 3, 4, 5] rfl
      have hDc := hD.part (cx := [(qc, .inr (2, [.ref q2, .ref qm, .int a, .int d, .int (nI nx), .int dn])), (q2, .inr (3, [.ref q6, .int (nI wn9)])), (q6, .inl (gI g, 600, .inl pw)), (qm, .inr (0, [.ref qp])), (qp, .inl (gP g, 128, .inr (.inr (.inr (.inr pf)))))]) [1, 2, 3, 4, 5] (by decide) rfl
      have hFc := va_freeP (cx := [(qc, .inr (2, [.ref q2, .ref qm, .int a, .int d, .int (nI nx), .int dn])), (q2, .inr (3, [.ref q6, .int (nI wn9)])), (q6, .inl (gI g, 600, .inl pw)), (qm, .inr (0, [.ref qp])), (qp, .inl (gP g, 128, .inr (.inr (.inr (.inr pf)))))]) hD hS hA [1, 2, 3, 4, 5] rfl
      refine sd_ci (va_runV (As := [.int (nI N)]) (rest := []) ⟨hx, hb, hml, hown, hts⟩ (c_Prc_run l g qc q2 qm qp q6 wn9 pw cw hwn hpw a d nx dn pf L fE M pg hM N hN hnx mc ms hmcN s.heap.size) (cwV 1 hts (sd_gV k_407 k_408 k_409 k_28 k_410) rfl rfl rfl (by decide +kernel) ⟨Nat.le_of_ble_eq_true rfl, Nat.le_of_ble_eq_true rfl⟩) (sd_preVU hK hE hS hA0 hs0 hPc hDc rfl rfl) rfl rfl hl.1 rfl (lv_room (Nat.le_of_ble_eq_true rfl)) d_Dsk_go_18 ⟨(by show 0 + mc ≤ mc; omega), (by show 0 + ms ≤ ms; omega)⟩) hS hFc (fun r3 u H1 locs hw hP1 hD1 hk1 hS => ?_)
      obtain ⟨a2, d2, n2, dn2, pf2, L2, f2⟩ := u
      obtain ⟨hP, hD⟩ := va_joinP (wr := [(q0, .inr (7, [.ref q1, .ref q2, .ref q3, .ref qc]))]) (rx := [(qc, .inr (2, [.ref q2, .ref qm, .int a2, .int d2, .int (nI n2), .int dn2])), (q2, .inr (3, [.ref q6, .int (nI wn9)])), (q6, .inl (gI g, 600, .inl pw)), (qm, .inr (0, [.ref qp])), (qp, .inl (gP g, 128, .inr (.inr (.inr (.inr pf2)))))]) (pl1 := va_pl L2 f2) hP hD [1, 2, 3, 4, 5] [0] rfl rfl (by decide) (by decide) hk1 hFc hP1 hD1
      clear hPc hDc hFc hk1 hP1 hD1
      generalize H1 = H at hP hS ⊢
      have hP : sdP g ([(q0, .inr (7, [.ref q1, .ref q2, .ref q3, .ref qc])), (qc, .inr (2, [.ref q2, .ref qm, .int a2, .int d2, .int (nI n2), .int dn2])), (q2, .inr (3, [.ref q6, .int (nI wn9)])), (q6, .inl (gI g, 600, .inl pw)), (qm, .inr (0, [.ref qp])), (qp, .inl (gP g, 128, .inr (.inr (.inr (.inr pf2)))))] ++ va_pl L2 f2) H := hP
      have hD : va_D A ([(q0, .inr (7, [.ref q1, .ref q2, .ref q3, .ref qc])), (qc, .inr (2, [.ref q2, .ref qm, .int a2, .int d2, .int (nI n2), .int dn2])), (q2, .inr (3, [.ref q6, .int (nI wn9)])), (q6, .inl (gI g, 600, .inl pw)), (qm, .inr (0, [.ref qp])), (qp, .inl (gP g, 128, .inr (.inr (.inr (.inr pf2)))))] ++ va_pl L2 f2) := hD
      have hP9 := hP.part (cx := [(q0, .inr (7, [.ref q1, .ref q2, .ref q3, .ref qc])), (qc, .inr (2, [.ref q2, .ref qm, .int a2, .int d2, .int (nI n2), .int dn2])), (q2, .inr (3, [.ref q6, .int (nI wn9)])), (q6, .inl (gI g, 600, .inl pw)), (qm, .inr (0, [.ref qp])), (qp, .inl (gP g, 128, .inr (.inr (.inr (.inr pf2)))))]) [0, 1, 2, 3, 4, 5] rfl
      have hD9 := hD.part (cx := [(q0, .inr (7, [.ref q1, .ref q2, .ref q3, .ref qc])), (qc, .inr (2, [.ref q2, .ref qm, .int a2, .int d2, .int (nI n2), .int dn2])), (q2, .inr (3, [.ref q6, .int (nI wn9)])), (q6, .inl (gI g, 600, .inl pw)), (qm, .inr (0, [.ref qp])), (qp, .inl (gP g, 128, .inr (.inr (.inr (.inr pf2)))))]) [0, 1, 2, 3, 4, 5] (by decide) rfl
      refine W.widen (k := mc) (n := ms) (by omega) (by omega) ?_
      exact W.iret (v := r3) hx hb hr (fun t ht hW => ⟨⟨_, (a2, d2, n2, dn2, pf2, L2, f2), rfl, Or.inl ⟨N, hN, rfl, hw⟩, by rw [ht]; exact hP9, by rw [hAe]; exact hD9⟩, hS.F ht⟩) hS.2.2 d_Dsk_go_21
    · refine lv_iconst (v := (-1)) hx hb d_Dsk_go_11 (by decide) ?_
      have hP9 := hP.part (cx := [(q0, .inr (7, [.ref q1, .ref q2, .ref q3, .ref qc])), (qc, .inr (2, [.ref q2, .ref qm, .int a, .int d, .int (nI nx), .int dn])), (q2, .inr (3, [.ref q6, .int (nI wn9)])), (q6, .inl (gI g, 600, .inl pw)), (qm, .inr (0, [.ref qp])), (qp, .inl (gP g, 128, .inr (.inr (.inr (.inr pf)))))]) [0, 1, 2, 3, 4, 5] rfl
      have hD9 := hD.part (cx := [(q0, .inr (7, [.ref q1, .ref q2, .ref q3, .ref qc])), (qc, .inr (2, [.ref q2, .ref qm, .int a, .int d, .int (nI nx), .int dn])), (q2, .inr (3, [.ref q6, .int (nI wn9)])), (q6, .inl (gI g, 600, .inl pw)), (qm, .inr (0, [.ref qp])), (qp, .inl (gP g, 128, .inr (.inr (.inr (.inr pf)))))]) [0, 1, 2, 3, 4, 5] (by decide) rfl
      refine W.widen (k := mc) (n := ms) (Nat.zero_le _) (Nat.zero_le _) ?_
      exact W.iret (v := (-1)) hx hb hr (fun t ht hW => ⟨⟨_, (a, d, nx, dn, pf, L, fE), rfl, Or.inr ⟨fun ⟨N, h1, h2⟩ => by
          subst h2; exact c2 (nI_le h1 (by decide)), rfl, rfl⟩, by rw [ht]; exact hP9, by rw [hAe]; exact hD9⟩, hS.F ht⟩) hS.2.2 d_Dsk_go_12
set_option maxHeartbeats 4000000 in
set_option maxRecDepth 100000 in
/-- set(x, v) -/
theorem c_Dsk_set (l : Launch) (g : sdG) (q0 q1 q2 q3 qc qm qp : Nat) (a d nx9 dn : Int32) (pf : Nat → Option Nat) (L : List Nat) (fE : Nat → va_E) (M : Nat → Int32) (pg : Nat → Bool) (hM : memOK g pf L fE M pg) (x v : Int32) (mc ms : Nat) (hmc : ∀ k, k < 32768 → x = nI k → pg (k / 256) = false → 2 ≤ mc ∧ 257 ≤ ms) (sz : Nat) : Met l y_Dsk_set (.code y_Dsk_set b_Dsk_set 3 (some .boolean) :: sdT) ({ frames := 3, cells := mc, slots := ms, locals := 64 }) (va_Pc [.ref q0, .int x, .int v] (sdU g ([(q0, .inr (7, [.ref q1, .ref q2, .ref q3, .ref qc])), (qc, .inr (2, [.ref q2, .ref qm, .int a, .int d, .int nx9, .int dn])), (qm, .inr (0, [.ref qp])), (qp, .inl (gP g, 128, .inr (.inr (.inr (.inr pf)))))] ++ va_pl L fE) sz)) (va_Qi (S := (Nat → Option Nat) × List Nat × (Nat → va_E)) (fun r u => (∃ k, k < 32768 ∧ x = nI k ∧ r = nI 1 ∧ memOK g u.1 u.2.1 u.2.2 (upd M k v.toInt16.toInt32) (va_up pg (k / 256) true)) ∨ (¬ inM x ∧ r = nI 0 ∧ u = (pf, L, fE))) (fun u t => sdB g ([(q0, .inr (7, [.ref q1, .ref q2, .ref q3, .ref qc])), (qc, .inr (2, [.ref q2, .ref qm, .int a, .int d, .int nx9, .int dn])), (qm, .inr (0, [.ref qp])), (qp, .inl (gP g, 128, .inr (.inr (.inr (.inr pf)))))] ++ va_pl L fE) sz ((fun u => ([(q0, .inr (7, [.ref q1, .ref q2, .ref q3, .ref qc])), (qc, .inr (2, [.ref q2, .ref qm, .int a, .int d, .int nx9, .int dn])), (qm, .inr (0, [.ref qp])), (qp, .inl (gP g, 128, .inr (.inr (.inr (.inr u.1)))))] ++ va_pl u.2.1 u.2.2) : (Nat → Option Nat) × List Nat × (Nat → va_E) → va_W) u) t) (va_A ([(q0, .inr (7, [.ref q1, .ref q2, .ref q3, .ref qc])), (qc, .inr (2, [.ref q2, .ref qm, .int a, .int d, .int nx9, .int dn])), (qm, .inr (0, [.ref qp])), (qp, .inl (gP g, 128, .inr (.inr (.inr (.inr pf)))))] ++ va_pl L fE) sz)) mc ms (va_A ([(q0, .inr (7, [.ref q1, .ref q2, .ref q3, .ref qc])), (qc, .inr (2, [.ref q2, .ref qm, .int a, .int d, .int nx9, .int dn])), (qm, .inr (0, [.ref qp])), (qp, .inl (gP g, 128, .inr (.inr (.inr (.inr pf)))))] ++ va_pl L fE) sz) := by
  refine Met.ofW (cc := b_Dsk_set) (maxL := 3) (ret := (some .boolean)) (by decide) rfl ?_
  intro p ev s m args below meth c s₁ B hml hv
  obtain ⟨rfl, hsz, hP, hK, hE, hD0, hs0⟩ := hv
  have hx := B.exec
  have hb := B.bytes
  have hr := B.returns
  have hts := fun (w : Cond) (h : w ∈ sdT) => atoms_spec (ws := (.code y_Dsk_set b_Dsk_set 3 (some .boolean) :: sdT)) B.pre w (List.mem_cons_of_mem _ h)
  have hown : s.vm.findClass "SignDesk" = some m.cls := findClass_of_methodNamed B.named
  have hlocks := B.notSynchronized
  subst hsz
  have hD := hD0.self (sz := s.heap.size)
  have hA0 : ∀ q : Nat, va_A ([(q0, .inr (7, [.ref q1, .ref q2, .ref q3, .ref qc])), (qc, .inr (2, [.ref q2, .ref qm, .int a, .int d, .int nx9, .int dn])), (qm, .inr (0, [.ref qp])), (qp, .inl (gP g, 128, .inr (.inr (.inr (.inr pf)))))] ++ va_pl L fE) s.heap.size q → gS g ≤ q := fun q h => h.elim (fun ⟨k, e, hk⟩ => hD0.2 k _ hk) (fun h => Nat.le_trans hs0 h)
  have hA : ∀ q : Nat, s.heap.size ≤ q → va_A ([(q0, .inr (7, [.ref q1, .ref q2, .ref q3, .ref qc])), (qc, .inr (2, [.ref q2, .ref qm, .int a, .int d, .int nx9, .int dn])), (qm, .inr (0, [.ref qp])), (qp, .inl (gP g, 128, .inr (.inr (.inr (.inr pf)))))] ++ va_pl L fE) s.heap.size q := fun q h => Or.inr h
  generalize hAe : va_A ([(q0, .inr (7, [.ref q1, .ref q2, .ref q3, .ref qc])), (qc, .inr (2, [.ref q2, .ref qm, .int a, .int d, .int nx9, .int dn])), (qm, .inr (0, [.ref qp])), (qp, .inl (gP g, 128, .inr (.inr (.inr (.inr pf)))))] ++ va_pl L fE) s.heap.size = A at hD hA0 hA ⊢
  have hS : va_S A s.heap s.heap [] := va_S.rf
  have hP : sdP g ([(q0, .inr (7, [.ref q1, .ref q2, .ref q3, .ref qc])), (qc, .inr (2, [.ref q2, .ref qm, .int a, .int d, .int nx9, .int dn])), (qm, .inr (0, [.ref qp])), (qp, .inl (gP g, 128, .inr (.inr (.inr (.inr pf)))))] ++ va_pl L fE) s.heap := hP
  have hl := lv_entry ([.ref q0, .int x, .int v]) (n := 3) (Nat.le_of_ble_eq_true rfl)
  rw [lg_entry_eq]
  generalize (lg_sl ([.ref q0, .int x, .int v]) ++ List.replicate (3 - (lg_sl ([.ref q0, .int x, .int v])).length) Slot.unset).toArray = ls at hl ⊢
  have hl : lv_has ls 3 [(0, .ref q0), (1, .int x), (2, .int v)] := hl
  refine lv_iload_n hx hb d_Dsk_set_0 rfl (lv_at hl 1 rfl) ?_
  refine sd_ri (va_runS (As := [.int x]) (rest := []) ⟨hx, hb, hml, hown, hts⟩ (c_Mem_holds l x) (va_cwS 1 hts (sd_gS k_445 k_421 k_29 k_422) rfl rfl rfl (by decide +kernel) ⟨Nat.le_of_ble_eq_true rfl, Nat.le_of_ble_eq_true rfl⟩) preEq rfl rfl hl.1 rfl (lv_room (Nat.le_of_ble_eq_true rfl)) d_Dsk_set_1 ⟨Nat.zero_le _, Nat.zero_le _⟩) (fun r1 er1 => ?_)
  subst er1
  refine lv_if_ne (tgt := 9) hx hb d_Dsk_set_4 (by decide) (fun c2 => ?_) (fun c2 => ?_)
  · have c2 := sb_ne0.mp c2
    obtain ⟨k, hk, rfl⟩ := inM_of c2
    refine lv_aload_n hx hb d_Dsk_set_9 rfl (lv_at hl 0 rfl) ?_
    refine va_get (D := g.1) (ci := 7) (v := .ref qc) (C := "SignDesk") (T := F_Dsk) (N := 4) hx hb hts in_Dsk hown hK hP 0 rfl rfl 3 (by decide) (hts _ k_154) (fun _ h9 => h9) rfl d_Dsk_set_10 ?_
    refine va_csr (va_Run.run (va_runV (As := []) (rest := []) ⟨hx, hb, hml, hown, hts⟩ (c_Prc_memory l g qc q2 qm a d nx9 dn) (cwV 0 hts (sd_gV k_446 k_447 k_448 k_28 k_449) rfl rfl rfl (by decide +kernel) ⟨Nat.le_of_ble_eq_true rfl, Nat.le_of_ble_eq_true rfl⟩) (sd_preV hK hE (sd_fr hS hA0) (hP.sub (ws' := [(qc, .inr (2, [.ref q2, .ref qm, .int a, .int d, .int nx9, .int dn]))]) [1] rfl) rfl rfl) rfl rfl hl.1 rfl (lv_room (Nat.le_of_ble_eq_true rfl)) d_Dsk_set_13 ⟨Nat.zero_le _, Nat.zero_le _⟩)) (fun _ _ => ?_)
    refine lv_iload_n hx hb d_Dsk_set_16 rfl (lv_at hl 1 rfl) ?_
    refine lv_iload_n hx hb d_Dsk_set_17 rfl (lv_at hl 2 rfl) ?_
    have hPc := hP.part (cx := [(qm, .inr (0, [.ref qp])), (qp, .inl (gP g, 128, .inr (.inr (.inr (.inr pf)))))]) [2, 3] rfl
    have hDc := hD.part (cx := [(qm, .inr (0, [.ref qp])), (qp, .inl (gP g, 128, .inr (.inr (.inr (.inr pf)))))]) [2, 3] (by decide) rfl
    have hFc := va_freeP (cx := [(qm, .inr (0, [.ref qp])), (qp, .inl (gP g, 128, .inr (.inr (.inr (.inr pf)))))]) hD hS hA [2, 3] rfl
    refine sd_cv (va_runV (As := [.int (nI k), .int v]) (rest := []) ⟨hx, hb, hml, hown, hts⟩ (c_Mem_write l g qm qp pf L fE M pg hM k hk v mc ms (hmc k hk rfl) s.heap.size) (cwV 2 hts (sd_gV k_450 k_428 k_429 k_29 k_430) rfl rfl rfl (by decide +kernel) ⟨Nat.le_of_ble_eq_true rfl, Nat.le_of_ble_eq_true rfl⟩) (sd_preVU hK hE hS hA0 hs0 hPc hDc rfl rfl) rfl rfl hl.1 rfl (lv_room (Nat.le_of_ble_eq_true rfl)) d_Dsk_set_18 ⟨(by show 0 + mc ≤ mc; omega), (by show 0 + ms ≤ ms; omega)⟩) hS hFc (fun u H1 locs hw hP1 hD1 hk1 hS => ?_)
    obtain ⟨pf2, L2, f2⟩ := u
    obtain ⟨hP, hD⟩ := va_joinP (wr := [(q0, .inr (7, [.ref q1, .ref q2, .ref q3, .ref qc])), (qc, .inr (2, [.ref q2, .ref qm, .int a, .int d, .int nx9, .int dn]))]) (rx := [(qm, .inr (0, [.ref qp])), (qp, .inl (gP g, 128, .inr (.inr (.inr (.inr pf2)))))]) (pl1 := va_pl L2 f2) hP hD [2, 3] [0, 1] rfl rfl (by decide) (by decide) hk1 hFc hP1 hD1
    clear hPc hDc hFc hk1 hP1 hD1
    generalize H1 = H at hP hS ⊢
    have hP : sdP g ([(q0, .inr (7, [.ref q1, .ref q2, .ref q3, .ref qc])), (qc, .inr (2, [.ref q2, .ref qm, .int a, .int d, .int nx9, .int dn])), (qm, .inr (0, [.ref qp])), (qp, .inl (gP g, 128, .inr (.inr (.inr (.inr pf2)))))] ++ va_pl L2 f2) H := hP
    have hD : va_D A ([(q0, .inr (7, [.ref q1, .ref q2, .ref q3, .ref qc])), (qc, .inr (2, [.ref q2, .ref qm, .int a, .int d, .int nx9, .int dn])), (qm, .inr (0, [.ref qp])), (qp, .inl (gP g, 128, .inr (.inr (.inr (.inr pf2)))))] ++ va_pl L2 f2) := hD
    refine lv_iconst (v := (nI 1)) hx hb d_Dsk_set_21 (by decide) ?_
    have hP9 := hP.part (cx := [(q0, .inr (7, [.ref q1, .ref q2, .ref q3, .ref qc])), (qc, .inr (2, [.ref q2, .ref qm, .int a, .int d, .int nx9, .int dn])), (qm, .inr (0, [.ref qp])), (qp, .inl (gP g, 128, .inr (.inr (.inr (.inr pf2)))))]) [0, 1, 2, 3] rfl
    have hD9 := hD.part (cx := [(q0, .inr (7, [.ref q1, .ref q2, .ref q3, .ref qc])), (qc, .inr (2, [.ref q2, .ref qm, .int a, .int d, .int nx9, .int dn])), (qm, .inr (0, [.ref qp])), (qp, .inl (gP g, 128, .inr (.inr (.inr (.inr pf2)))))]) [0, 1, 2, 3] (by decide) rfl
    refine W.widen (k := mc) (n := ms) (by omega) (by omega) ?_
    exact W.zret (v := (nI 1)) hx hb hr (by first | rfl | decide | exact sb_nar) (fun t ht hW => ⟨⟨_, (pf2, L2, f2), rfl, Or.inl ⟨k, hk, rfl, rfl, hw⟩, by rw [ht]; exact hP9, by rw [hAe]; exact hD9⟩, hS.F ht⟩) hS.2.2 d_Dsk_set_22
  · have c2 := sb_eq0.mp c2
    refine lv_iconst (v := (nI 0)) hx hb d_Dsk_set_7 (by decide) ?_
    have hP9 := hP.part (cx := [(q0, .inr (7, [.ref q1, .ref q2, .ref q3, .ref qc])), (qc, .inr (2, [.ref q2, .ref qm, .int a, .int d, .int nx9, .int dn])), (qm, .inr (0, [.ref qp])), (qp, .inl (gP g, 128, .inr (.inr (.inr (.inr pf)))))]) [0, 1, 2, 3] rfl
    have hD9 := hD.part (cx := [(q0, .inr (7, [.ref q1, .ref q2, .ref q3, .ref qc])), (qc, .inr (2, [.ref q2, .ref qm, .int a, .int d, .int nx9, .int dn])), (qm, .inr (0, [.ref qp])), (qp, .inl (gP g, 128, .inr (.inr (.inr (.inr pf)))))]) [0, 1, 2, 3] (by decide) rfl
    refine W.widen (k := mc) (n := ms) (Nat.zero_le _) (Nat.zero_le _) ?_
    exact W.zret (v := (nI 0)) hx hb hr (by first | rfl | decide | exact sb_nar) (fun t ht hW => ⟨⟨_, (pf, L, fE), rfl, Or.inr ⟨c2, rfl, rfl⟩, by rw [ht]; exact hP9, by rw [hAe]; exact hD9⟩, hS.F ht⟩) hS.2.2 d_Dsk_set_8
set_option maxHeartbeats 4000000 in
set_option maxRecDepth 100000 in
/-- store(x) -/
theorem c_Dsk_store (l : Launch) (g : sdG) (q0 q1 q2 q3 qc qm qp : Nat) (a d nx9 dn : Int32) (pf : Nat → Option Nat) (L : List Nat) (fE : Nat → va_E) (M : Nat → Int32) (pg : Nat → Bool) (hM : memOK g pf L fE M pg) (x : Int32) : Met l y_Dsk_store (.code y_Dsk_store b_Dsk_store 2 (some .int) :: sdT) ({ frames := 2, cells := 0, slots := 0, locals := 42 }) (va_Pc [.ref q0, .int x] (sdR g ([(q0, .inr (7, [.ref q1, .ref q2, .ref q3, .ref qc])), (qc, .inr (2, [.ref q2, .ref qm, .int a, .int d, .int nx9, .int dn])), (qm, .inr (0, [.ref qp])), (qp, .inl (gP g, 128, .inr (.inr (.inr (.inr pf)))))] ++ va_pl L fE))) (vp_Si (fun r => (∀ k, k < 32768 → x = nI k → r = M k) ∧ (¬ inM x → r = nI 100000))) 0 0 (fun _ => False) := by
  refine Met.ofW (cc := b_Dsk_store) (maxL := 2) (ret := (some .int)) (by decide) rfl ?_
  intro p ev s m args below meth c s₁ B hml hv
  obtain ⟨rfl, hP, hK, hE⟩ := hv
  have hx := B.exec
  have hb := B.bytes
  have hr := B.returns
  have hts := fun (w : Cond) (h : w ∈ sdT) => atoms_spec (ws := (.code y_Dsk_store b_Dsk_store 2 (some .int) :: sdT)) B.pre w (List.mem_cons_of_mem _ h)
  have hown : s.vm.findClass "SignDesk" = some m.cls := findClass_of_methodNamed B.named
  have hlocks := B.notSynchronized
  have hF : ∀ a : Nat, a < s.heap.size → ¬ sdA g a → s.heap[a]? = s.heap[a]? := fun _ _ _ => rfl
  have hP : sdP g ([(q0, .inr (7, [.ref q1, .ref q2, .ref q3, .ref qc])), (qc, .inr (2, [.ref q2, .ref qm, .int a, .int d, .int nx9, .int dn])), (qm, .inr (0, [.ref qp])), (qp, .inl (gP g, 128, .inr (.inr (.inr (.inr pf)))))] ++ va_pl L fE) s.heap := hP
  have hl := lv_entry ([.ref q0, .int x]) (n := 2) (Nat.le_of_ble_eq_true rfl)
  rw [lg_entry_eq]
  generalize (lg_sl ([.ref q0, .int x]) ++ List.replicate (2 - (lg_sl ([.ref q0, .int x])).length) Slot.unset).toArray = ls at hl ⊢
  have hl : lv_has ls 2 [(0, .ref q0), (1, .int x)] := hl
  refine lv_iload_n hx hb d_Dsk_store_0 rfl (lv_at hl 1 rfl) ?_
  refine sd_ri (va_runS (As := [.int x]) (rest := []) ⟨hx, hb, hml, hown, hts⟩ (c_Mem_holds l x) (va_cwS 1 hts (sd_gS k_445 k_421 k_29 k_422) rfl rfl rfl (by decide +kernel) ⟨Nat.le_of_ble_eq_true rfl, Nat.le_of_ble_eq_true rfl⟩) preEq rfl rfl hl.1 rfl (lv_room (Nat.le_of_ble_eq_true rfl)) d_Dsk_store_1 ⟨Nat.zero_le _, Nat.zero_le _⟩) (fun r1 er1 => ?_)
  subst er1
  refine lv_if_eq (tgt := 21) hx hb d_Dsk_store_4 (by decide) (fun c2 => ?_) (fun c2 => ?_)
  · have c2 := sb_eq0.mp c2
    refine lv_ldc (v := nI 100000) hx hb hown (hts _ k_456) d_Dsk_store_21 ?_
    exact W.iret (v := (nI 100000)) hx hb hr  (fun t ht hW => ⟨_, rfl, ⟨fun k hk e => absurd (e ▸ inM_nI hk) c2, fun _ => rfl⟩, ht⟩) (fun _ h => by cases h) d_Dsk_store_23
  · have c2 := sb_ne0.mp c2
    obtain ⟨k, hk, rfl⟩ := inM_of c2
    refine lv_aload_n hx hb d_Dsk_store_7 rfl (lv_at hl 0 rfl) ?_
    refine va_get (D := g.1) (ci := 7) (v := .ref qc) (C := "SignDesk") (T := F_Dsk) (N := 4) hx hb hts in_Dsk hown hK hP 0 rfl rfl 3 (by decide) (hts _ k_154) (fun _ h9 => h9) rfl d_Dsk_store_8 ?_
    refine va_csr (va_Run.run (va_runV (As := []) (rest := []) ⟨hx, hb, hml, hown, hts⟩ (c_Prc_memory l g qc q2 qm a d nx9 dn) (cwV 0 hts (sd_gV k_446 k_447 k_448 k_28 k_449) rfl rfl rfl (by decide +kernel) ⟨Nat.le_of_ble_eq_true rfl, Nat.le_of_ble_eq_true rfl⟩) (sd_preV hK hE hF (hP.sub (ws' := [(qc, .inr (2, [.ref q2, .ref qm, .int a, .int d, .int nx9, .int dn]))]) [1] rfl) rfl rfl) rfl rfl hl.1 rfl (lv_room (Nat.le_of_ble_eq_true rfl)) d_Dsk_store_11 ⟨Nat.zero_le _, Nat.zero_le _⟩)) (fun _ _ => ?_)
    refine lv_iload_n hx hb d_Dsk_store_14 rfl (lv_at hl 1 rfl) ?_
    refine sd_ri (va_runV (As := [.int (nI k)]) (rest := []) ⟨hx, hb, hml, hown, hts⟩ (c_Mem_wordAt l g qm qp pf L fE M pg hM k hk) (cwV 1 hts (sd_gV k_455 k_417 k_418 k_29 k_419) rfl rfl rfl (by decide +kernel) ⟨Nat.le_of_ble_eq_true rfl, Nat.le_of_ble_eq_true rfl⟩) (sd_preV hK hE hF (hP.part (cx := [(qm, .inr (0, [.ref qp])), (qp, .inl (gP g, 128, .inr (.inr (.inr (.inr pf)))))]) [2, 3] rfl) rfl rfl) rfl rfl hl.1 rfl (lv_room (Nat.le_of_ble_eq_true rfl)) d_Dsk_store_15 ⟨Nat.zero_le _, Nat.zero_le _⟩) (fun r3 er3 => ?_)
    subst er3
    refine lv_goto (tgt := 23) hx hb d_Dsk_store_18 (by decide) ?_
    exact W.iret (v := (M k)) hx hb hr  (fun t ht hW => ⟨_, rfl, ⟨fun j hj e => by
        have : j = k := (nI_eq (by omega) (by omega)).mp e.symm
        subst this; rfl, fun h => absurd c2 h⟩, ht⟩) (fun _ h => by cases h) d_Dsk_store_23
set_option maxHeartbeats 4000000 in
set_option maxRecDepth 100000 in
/-- register(x) -/
theorem c_Dsk_register (l : Launch) (g : sdG) (q0 q1 q2 q3 qc q5 q6 q7 q8 q9 q10 qm n wn9 : Nat) (f : Nat → Int32) (tx : Nat → Nat) (hT : TXok n f tx) (pw : Nat → Int32) (hwn : wn9 ≤ 600) (fp cx a d nx9 dn : Int32) (x : Int32) : Met l y_Dsk_register (.code y_Dsk_register b_Dsk_register 2 (some .int) :: sdT) ({ frames := 2, cells := 0, slots := 0, locals := 40 }) (va_Pc [.ref q0, .int x] (sdR g [(q0, .inr (7, [.ref q1, .ref q2, .ref q3, .ref qc])), (q1, .inr (6, [.ref q5, .int (nI n)])), (q5, .inl (gB g, 2000, .inl f)), (q2, .inr (3, [.ref q6, .int (nI wn9)])), (q6, .inl (gI g, 600, .inl pw)), (q3, .inr (4, [.ref q1, .ref q2, .ref q7, .int fp])), (q7, .inr (5, [.ref q1, .ref q8, .ref q9, .ref q10, .int cx])), (qc, .inr (2, [.ref q2, .ref qm, .int a, .int d, .int nx9, .int dn]))])) (vp_Si (fun r => (x = nI 0 → r = a) ∧ (x = nI 1 → r = d) ∧ (x = nI 2 → r = nx9) ∧ (x = nI 3 → r = nI wn9) ∧ (x = nI 4 → r = dn) ∧ (x = nI 5 → r = cx) ∧ (x = nI 6 → r = nI n) ∧ ((x < 0 ∨ nI 7 ≤ x) → r = nI 100000))) 0 0 (fun _ => False) := by
  refine Met.ofW (cc := b_Dsk_register) (maxL := 2) (ret := (some .int)) (by decide) rfl ?_
  intro p ev s m args below meth c s₁ B hml hv
  obtain ⟨rfl, hP, hK, hE⟩ := hv
  have hx := B.exec
  have hb := B.bytes
  have hr := B.returns
  have hts := fun (w : Cond) (h : w ∈ sdT) => atoms_spec (ws := (.code y_Dsk_register b_Dsk_register 2 (some .int) :: sdT)) B.pre w (List.mem_cons_of_mem _ h)
  have hown : s.vm.findClass "SignDesk" = some m.cls := findClass_of_methodNamed B.named
  have hlocks := B.notSynchronized
  have hF : ∀ a : Nat, a < s.heap.size → ¬ sdA g a → s.heap[a]? = s.heap[a]? := fun _ _ _ => rfl
  have hP : sdP g [(q0, .inr (7, [.ref q1, .ref q2, .ref q3, .ref qc])), (q1, .inr (6, [.ref q5, .int (nI n)])), (q5, .inl (gB g, 2000, .inl f)), (q2, .inr (3, [.ref q6, .int (nI wn9)])), (q6, .inl (gI g, 600, .inl pw)), (q3, .inr (4, [.ref q1, .ref q2, .ref q7, .int fp])), (q7, .inr (5, [.ref q1, .ref q8, .ref q9, .ref q10, .int cx])), (qc, .inr (2, [.ref q2, .ref qm, .int a, .int d, .int nx9, .int dn]))] s.heap := hP
  have hl := lv_entry ([.ref q0, .int x]) (n := 2) (Nat.le_of_ble_eq_true rfl)
  rw [lg_entry_eq]
  generalize (lg_sl ([.ref q0, .int x]) ++ List.replicate (2 - (lg_sl ([.ref q0, .int x])).length) Slot.unset).toArray = ls at hl ⊢
  have hl : lv_has ls 2 [(0, .ref q0), (1, .int x)] := hl
  refine lv_iload_n hx hb d_Dsk_register_0 rfl (lv_at hl 1 rfl) ?_
  rcases pk_ix x (n := 7) (by decide) with hq | hq | ⟨j, hj, rfl⟩
  · refine lv_tableOut (tgt := 100) hx hb d_Dsk_register_1 (Or.inl (by rw [Int32.lt_iff_toInt_lt] at hq; exact hq)) (by decide) ?_
    refine lv_ldc (v := nI 100000) hx hb hown (hts _ k_456) d_Dsk_register_100 ?_
    refine W.iret (v := nI 100000) hx hb hr (fun t ht hW => ⟨_, rfl, ?_, ht⟩) (fun _ h => by cases h) d_Dsk_register_102
    exact ⟨fun e => absurd e (by
        intro e; subst e; exact absurd hq (by decide)), fun e => absurd e (by
        intro e; subst e; exact absurd hq (by decide)), fun e => absurd e (by
        intro e; subst e; exact absurd hq (by decide)), fun e => absurd e (by
        intro e; subst e; exact absurd hq (by decide)), fun e => absurd e (by
        intro e; subst e; exact absurd hq (by decide)), fun e => absurd e (by
        intro e; subst e; exact absurd hq (by decide)), fun e => absurd e (by
        intro e; subst e; exact absurd hq (by decide)), fun _ => rfl⟩
  · refine lv_tableOut (tgt := 100) hx hb d_Dsk_register_1 (Or.inr (by rw [Int32.le_iff_toInt_le] at hq; exact Int.lt_of_lt_of_le (by decide) hq)) (by decide) ?_
    refine lv_ldc (v := nI 100000) hx hb hown (hts _ k_456) d_Dsk_register_100 ?_
    refine W.iret (v := nI 100000) hx hb hr (fun t ht hW => ⟨_, rfl, ?_, ht⟩) (fun _ h => by cases h) d_Dsk_register_102
    exact ⟨fun e => absurd e (by
        intro e; subst e; exact absurd hq (by decide)), fun e => absurd e (by
        intro e; subst e; exact absurd hq (by decide)), fun e => absurd e (by
        intro e; subst e; exact absurd hq (by decide)), fun e => absurd e (by
        intro e; subst e; exact absurd hq (by decide)), fun e => absurd e (by
        intro e; subst e; exact absurd hq (by decide)), fun e => absurd e (by
        intro e; subst e; exact absurd hq (by decide)), fun e => absurd e (by
        intro e; subst e; exact absurd hq (by decide)), fun _ => rfl⟩
  · rcases (show j = 0 ∨ j = 1 ∨ j = 2 ∨ j = 3 ∨ j = 4 ∨ j = 5 ∨ j = 6 by omega) with rfl | rfl | rfl | rfl | rfl | rfl | rfl
    · refine lv_tableIn (off := 43) (tgt := 44) hx hb d_Dsk_register_1 (by decide) (by decide) (by decide) (by decide) ?_
      refine lv_aload_n hx hb d_Dsk_register_44 rfl (lv_at hl 0 rfl) ?_
      refine va_get (D := g.1) (ci := 7) (v := .ref qc) (C := "SignDesk") (T := F_Dsk) (N := 4) hx hb hts in_Dsk hown hK hP 0 rfl rfl 3 (by decide) (hts _ k_154) (fun _ h9 => h9) rfl d_Dsk_register_45 ?_
      refine sd_ri (va_runV (As := []) (rest := []) ⟨hx, hb, hml, hown, hts⟩ (c_Prc_a l g qc q2 qm a d nx9 dn) (cwV 0 hts (sd_gV k_461 k_462 k_463 k_28 k_464) rfl rfl rfl (by decide +kernel) ⟨Nat.le_of_ble_eq_true rfl, Nat.le_of_ble_eq_true rfl⟩) (sd_preV hK hE hF (hP.sub (ws' := [(qc, .inr (2, [.ref q2, .ref qm, .int a, .int d, .int nx9, .int dn]))]) [7] rfl) rfl rfl) rfl rfl hl.1 rfl (lv_room (Nat.le_of_ble_eq_true rfl)) d_Dsk_register_48 ⟨Nat.zero_le _, Nat.zero_le _⟩) (fun r1 er1 => ?_)
      have er1 := er1.symm
      subst er1
      exact W.iret (v := (a)) hx hb hr (fun t ht hW => ⟨_, rfl, ⟨fun _ => rfl, fun e => absurd e (by decide), fun e => absurd e (by decide), fun e => absurd e (by decide), fun e => absurd e (by decide), fun e => absurd e (by decide), fun e => absurd e (by decide), fun h => absurd h (by decide)⟩, ht⟩) (fun _ h => by cases h) d_Dsk_register_51
    · refine lv_tableIn (off := 51) (tgt := 52) hx hb d_Dsk_register_1 (by decide) (by decide) (by decide) (by decide) ?_
      refine lv_aload_n hx hb d_Dsk_register_52 rfl (lv_at hl 0 rfl) ?_
      refine va_get (D := g.1) (ci := 7) (v := .ref qc) (C := "SignDesk") (T := F_Dsk) (N := 4) hx hb hts in_Dsk hown hK hP 0 rfl rfl 3 (by decide) (hts _ k_154) (fun _ h9 => h9) rfl d_Dsk_register_53 ?_
      refine sd_ri (va_runV (As := []) (rest := []) ⟨hx, hb, hml, hown, hts⟩ (c_Prc_d l g qc q2 qm a d nx9 dn) (cwV 0 hts (sd_gV k_465 k_466 k_467 k_28 k_468) rfl rfl rfl (by decide +kernel) ⟨Nat.le_of_ble_eq_true rfl, Nat.le_of_ble_eq_true rfl⟩) (sd_preV hK hE hF (hP.sub (ws' := [(qc, .inr (2, [.ref q2, .ref qm, .int a, .int d, .int nx9, .int dn]))]) [7] rfl) rfl rfl) rfl rfl hl.1 rfl (lv_room (Nat.le_of_ble_eq_true rfl)) d_Dsk_register_56 ⟨Nat.zero_le _, Nat.zero_le _⟩) (fun r1 er1 => ?_)
      have er1 := er1.symm
      subst er1
      exact W.iret (v := (d)) hx hb hr (fun t ht hW => ⟨_, rfl, ⟨fun e => absurd e (by decide), fun _ => rfl, fun e => absurd e (by decide), fun e => absurd e (by decide), fun e => absurd e (by decide), fun e => absurd e (by decide), fun e => absurd e (by decide), fun h => absurd h (by decide)⟩, ht⟩) (fun _ h => by cases h) d_Dsk_register_59
    · refine lv_tableIn (off := 59) (tgt := 60) hx hb d_Dsk_register_1 (by decide) (by decide) (by decide) (by decide) ?_
      refine lv_aload_n hx hb d_Dsk_register_60 rfl (lv_at hl 0 rfl) ?_
      refine va_get (D := g.1) (ci := 7) (v := .ref qc) (C := "SignDesk") (T := F_Dsk) (N := 4) hx hb hts in_Dsk hown hK hP 0 rfl rfl 3 (by decide) (hts _ k_154) (fun _ h9 => h9) rfl d_Dsk_register_61 ?_
      refine sd_ri (va_runV (As := []) (rest := []) ⟨hx, hb, hml, hown, hts⟩ (c_Prc_next l g qc q2 qm a d nx9 dn) (cwV 0 hts (sd_gV k_469 k_470 k_471 k_28 k_472) rfl rfl rfl (by decide +kernel) ⟨Nat.le_of_ble_eq_true rfl, Nat.le_of_ble_eq_true rfl⟩) (sd_preV hK hE hF (hP.sub (ws' := [(qc, .inr (2, [.ref q2, .ref qm, .int a, .int d, .int nx9, .int dn]))]) [7] rfl) rfl rfl) rfl rfl hl.1 rfl (lv_room (Nat.le_of_ble_eq_true rfl)) d_Dsk_register_64 ⟨Nat.zero_le _, Nat.zero_le _⟩) (fun r1 er1 => ?_)
      have er1 := er1.symm
      subst er1
      exact W.iret (v := (nx9)) hx hb hr (fun t ht hW => ⟨_, rfl, ⟨fun e => absurd e (by decide), fun e => absurd e (by decide), fun _ => rfl, fun e => absurd e (by decide), fun e => absurd e (by decide), fun e => absurd e (by decide), fun e => absurd e (by decide), fun h => absurd h (by decide)⟩, ht⟩) (fun _ h => by cases h) d_Dsk_register_67
    · refine lv_tableIn (off := 67) (tgt := 68) hx hb d_Dsk_register_1 (by decide) (by decide) (by decide) (by decide) ?_
      refine lv_aload_n hx hb d_Dsk_register_68 rfl (lv_at hl 0 rfl) ?_
      refine va_get (D := g.1) (ci := 7) (v := .ref q2) (C := "SignDesk") (T := F_Dsk) (N := 4) hx hb hts in_Dsk hown hK hP 0 rfl rfl 1 (by decide) (hts _ k_152) (fun _ h9 => h9) rfl d_Dsk_register_69 ?_
      refine sd_ri (va_runV (As := []) (rest := []) ⟨hx, hb, hml, hown, hts⟩ (c_Prg_size l g q2 q6 wn9 pw hwn) (cwV 0 hts (sd_gV k_473 k_331 k_332 k_25 k_333) rfl rfl rfl (by decide +kernel) ⟨Nat.le_of_ble_eq_true rfl, Nat.le_of_ble_eq_true rfl⟩) (sd_preV hK hE hF (hP.sub (ws' := [(q2, .inr (3, [.ref q6, .int (nI wn9)])), (q6, .inl (gI g, 600, .inl pw))]) [3, 4] rfl) rfl rfl) rfl rfl hl.1 rfl (lv_room (Nat.le_of_ble_eq_true rfl)) d_Dsk_register_72 ⟨Nat.zero_le _, Nat.zero_le _⟩) (fun r1 er1 => ?_)
      subst er1
      exact W.iret (v := (nI wn9)) hx hb hr (fun t ht hW => ⟨_, rfl, ⟨fun e => absurd e (by decide), fun e => absurd e (by decide), fun e => absurd e (by decide), fun _ => rfl, fun e => absurd e (by decide), fun e => absurd e (by decide), fun e => absurd e (by decide), fun h => absurd h (by decide)⟩, ht⟩) (fun _ h => by cases h) d_Dsk_register_75
    · refine lv_tableIn (off := 75) (tgt := 76) hx hb d_Dsk_register_1 (by decide) (by decide) (by decide) (by decide) ?_
      refine lv_aload_n hx hb d_Dsk_register_76 rfl (lv_at hl 0 rfl) ?_
      refine va_get (D := g.1) (ci := 7) (v := .ref qc) (C := "SignDesk") (T := F_Dsk) (N := 4) hx hb hts in_Dsk hown hK hP 0 rfl rfl 3 (by decide) (hts _ k_154) (fun _ h9 => h9) rfl d_Dsk_register_77 ?_
      refine sd_ri (va_runV (As := []) (rest := []) ⟨hx, hb, hml, hown, hts⟩ (c_Prc_done l g qc q2 qm a d nx9 dn) (cwV 0 hts (sd_gV k_474 k_475 k_476 k_28 k_477) rfl rfl rfl (by decide +kernel) ⟨Nat.le_of_ble_eq_true rfl, Nat.le_of_ble_eq_true rfl⟩) (sd_preV hK hE hF (hP.sub (ws' := [(qc, .inr (2, [.ref q2, .ref qm, .int a, .int d, .int nx9, .int dn]))]) [7] rfl) rfl rfl) rfl rfl hl.1 rfl (lv_room (Nat.le_of_ble_eq_true rfl)) d_Dsk_register_80 ⟨Nat.zero_le _, Nat.zero_le _⟩) (fun r1 er1 => ?_)
      have er1 := er1.symm
      subst er1
      exact W.iret (v := (dn)) hx hb hr (fun t ht hW => ⟨_, rfl, ⟨fun e => absurd e (by decide), fun e => absurd e (by decide), fun e => absurd e (by decide), fun e => absurd e (by decide), fun _ => rfl, fun e => absurd e (by decide), fun e => absurd e (by decide), fun h => absurd h (by decide)⟩, ht⟩) (fun _ h => by cases h) d_Dsk_register_83
    · refine lv_tableIn (off := 83) (tgt := 84) hx hb d_Dsk_register_1 (by decide) (by decide) (by decide) (by decide) ?_
      refine lv_aload_n hx hb d_Dsk_register_84 rfl (lv_at hl 0 rfl) ?_
      refine va_get (D := g.1) (ci := 7) (v := .ref q3) (C := "SignDesk") (T := F_Dsk) (N := 4) hx hb hts in_Dsk hown hK hP 0 rfl rfl 2 (by decide) (hts _ k_153) (fun _ h9 => h9) rfl d_Dsk_register_85 ?_
      refine sd_ri (va_runV (As := []) (rest := []) ⟨hx, hb, hml, hown, hts⟩ (c_Rdr_symbolCount l g q3 q1 q2 q7 q8 q9 q10 fp cx) (cwV 0 hts (sd_gV k_478 k_479 k_480 k_26 k_481) rfl rfl rfl (by decide +kernel) ⟨Nat.le_of_ble_eq_true rfl, Nat.le_of_ble_eq_true rfl⟩) (sd_preV hK hE hF (hP.sub (ws' := [(q3, .inr (4, [.ref q1, .ref q2, .ref q7, .int fp])), (q7, .inr (5, [.ref q1, .ref q8, .ref q9, .ref q10, .int cx]))]) [5, 6] rfl) rfl rfl) rfl rfl hl.1 rfl (lv_room (Nat.le_of_ble_eq_true rfl)) d_Dsk_register_88 ⟨Nat.zero_le _, Nat.zero_le _⟩) (fun r1 er1 => ?_)
      have er1 := er1.symm
      subst er1
      exact W.iret (v := (cx)) hx hb hr (fun t ht hW => ⟨_, rfl, ⟨fun e => absurd e (by decide), fun e => absurd e (by decide), fun e => absurd e (by decide), fun e => absurd e (by decide), fun e => absurd e (by decide), fun _ => rfl, fun e => absurd e (by decide), fun h => absurd h (by decide)⟩, ht⟩) (fun _ h => by cases h) d_Dsk_register_91
    · refine lv_tableIn (off := 91) (tgt := 92) hx hb d_Dsk_register_1 (by decide) (by decide) (by decide) (by decide) ?_
      refine lv_aload_n hx hb d_Dsk_register_92 rfl (lv_at hl 0 rfl) ?_
      refine va_get (D := g.1) (ci := 7) (v := .ref q1) (C := "SignDesk") (T := F_Dsk) (N := 4) hx hb hts in_Dsk hown hK hP 0 rfl rfl 0 (by decide) (hts _ k_151) (fun _ h9 => h9) rfl d_Dsk_register_93 ?_
      refine sd_ri (va_runV (As := []) (rest := []) ⟨hx, hb, hml, hown, hts⟩ (c_Txt_size l g q1 q5 n f tx hT) (cwV 0 hts (sd_gV k_486 k_193 k_194 k_24 k_195) rfl rfl rfl (by decide +kernel) ⟨Nat.le_of_ble_eq_true rfl, Nat.le_of_ble_eq_true rfl⟩) (sd_preV hK hE hF (hP.sub (ws' := [(q1, .inr (6, [.ref q5, .int (nI n)])), (q5, .inl (gB g, 2000, .inl f))]) [1, 2] rfl) rfl rfl) rfl rfl hl.1 rfl (lv_room (Nat.le_of_ble_eq_true rfl)) d_Dsk_register_96 ⟨Nat.zero_le _, Nat.zero_le _⟩) (fun r1 er1 => ?_)
      subst er1
      exact W.iret (v := (nI n)) hx hb hr (fun t ht hW => ⟨_, rfl, ⟨fun e => absurd e (by decide), fun e => absurd e (by decide), fun e => absurd e (by decide), fun e => absurd e (by decide), fun e => absurd e (by decide), fun e => absurd e (by decide), fun _ => rfl, fun h => absurd h (by decide)⟩, ht⟩) (fun _ h => by cases h) d_Dsk_register_99
