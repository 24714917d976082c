set_option maxHeartbeats 4000000 in
set_option maxRecDepth 100000 in
/-- Txt() -/
theorem c_Txt_init (l : Launch) (g : sdG) (qa : Nat) (sz : Nat) : Met l y_Txt_init (.code y_Txt_init b_Txt_init 1 none :: sdT) ({ frames := 1, cells := 1, slots := 2000, locals := 20 }) (va_Pc [.ref qa] (sdU g [(qa, .inr (6, [.null, .int 0]))] sz)) (va_Qv (S := Nat) (fun _ => True) (fun u t => sdB g [(qa, .inr (6, [.null, .int 0]))] sz ((fun u => [(qa, .inr (6, [.ref u, .int 0])), (u, .inl (gB g, 2000, .inl (fun _ => 0)))] : Nat → va_W) u) t) (va_A [(qa, .inr (6, [.null, .int 0]))] sz)) 1 2000 (va_A [(qa, .inr (6, [.null, .int 0]))] sz) := by
  refine Met.ofW (cc := b_Txt_init) (maxL := 1) (ret := none) (by decide) rfl ?_
  intro p ev s m args below meth c s₁ B hml hv
  obtain ⟨rfl, hsz, hP, hK, hE, hD0, hs0⟩ := hv
  have hx := B.exec
  have hb := B.bytes
  have hr := B.returns
  have hts := fun (w : Cond) (h : w ∈ sdT) => atoms_spec (ws := (.code y_Txt_init b_Txt_init 1 none :: sdT)) B.pre w (List.mem_cons_of_mem _ h)
  have hown : s.vm.findClass "SignDesk$Text" = some m.cls := findClass_of_methodNamed B.named
  have hlocks := B.notSynchronized
  have hin : meth.name = "<init>" := (name_of_methodNamed B.named B.method).1
  subst hsz
  have hD := hD0.self (sz := s.heap.size)
  have hA0 : ∀ q : Nat, va_A [(qa, .inr (6, [.null, .int 0]))] s.heap.size q → gS g ≤ q := fun q h => h.elim (fun ⟨k, e, hk⟩ => hD0.2 k _ hk) (fun h => Nat.le_trans hs0 h)
  have hA : ∀ q : Nat, s.heap.size ≤ q → va_A [(qa, .inr (6, [.null, .int 0]))] s.heap.size q := fun q h => Or.inr h
  generalize hAe : va_A [(qa, .inr (6, [.null, .int 0]))] s.heap.size = A at hD hA0 hA ⊢
  have hS : va_S A s.heap s.heap [] := va_S.rf
  have hP : sdP g [(qa, .inr (6, [.null, .int 0]))] s.heap := hP
  have hl := lv_entry ([.ref qa]) (n := 1) (Nat.le_of_ble_eq_true rfl)
  rw [lg_entry_eq]
  generalize (lg_sl ([.ref qa]) ++ List.replicate (1 - (lg_sl ([.ref qa])).length) Slot.unset).toArray = ls at hl ⊢
  have hl : lv_has ls 1 [(0, .ref qa)] := hl
  refine lv_aload_n hx hb d_Txt_init_0 rfl (lv_at hl 0 rfl) ?_
  refine W.objInit hx hb hown (hts _ k_50) (hts _ k_43) (hts _ k_44) rfl (by rw [hml]; exact hl.1) rfl d_Txt_init_1 (Nat.le_of_ble_eq_true rfl) (Nat.le_of_ble_eq_true rfl) ?_
  refine W.eq (g2 := F0 m 4 ls []) rfl ?_
  refine lv_aload_n hx hb d_Txt_init_4 rfl (lv_at hl 0 rfl) ?_
  refine lv_sipush (v := (nI 2000)) hx hb d_Txt_init_5 (by decide) ?_
  refine sd_newB hx hb (hts _ k_58) hK hP hD hS hA (N := 2000) (by decide) (Nat.le_of_ble_eq_true rfl) (Nat.le_of_ble_eq_true rfl) d_Txt_init_8 (fun qb H hP hD hS => ?_)
  have hP : sdP g [(qa, .inr (6, [.null, .int 0])), (qb, .inl (gB g, 2000, .inl (fun _ => 0)))] H := hP
  have hD : va_D A [(qa, .inr (6, [.null, .int 0])), (qb, .inl (gB g, 2000, .inl (fun _ => 0)))] := hD
  refine va_putF (D := g.1) (ci := 6) (v := .ref qb) (ty := .array .byte) (C := "SignDesk$Text") (T := F_Txt) (N := 2) hx hb hts in_Txt t_Txt t_Txt_ok n_Txt hown hK hP hD hS 0 rfl rfl 0 (by decide) (hts _ k_51) (fun _ h9 => h9) rfl hin rfl (by decide +kernel) rfl rfl (Nat.le_of_ble_eq_true rfl) d_Txt_init_10 (fun H locs hP hD hS => ?_)
  have hP : sdP g [(qa, .inr (6, [.ref qb, .int 0])), (qb, .inl (gB g, 2000, .inl (fun _ => 0)))] H := hP
  have hD : va_D A [(qa, .inr (6, [.ref qb, .int 0])), (qb, .inl (gB g, 2000, .inl (fun _ => 0)))] := hD
  have hP9 := hP.sub (ws' := [(qa, .inr (6, [.ref qb, .int 0])), (qb, .inl (gB g, 2000, .inl (fun _ => 0)))]) [0, 1] rfl
  have hD9 := hD.sub (ws' := [(qa, .inr (6, [.ref qb, .int 0])), (qb, .inl (gB g, 2000, .inl (fun _ => 0)))]) [0, 1] (by decide) rfl
  refine W.widen (k := 1) (n := 2000) (Nat.le_of_ble_eq_true rfl) (Nat.le_of_ble_eq_true rfl) ?_
  exact W.vret hx hb hr (fun t ht hW => ⟨⟨qb, rfl, trivial, by rw [ht]; exact hP9, by rw [hAe]; exact hD9⟩, hS.F ht⟩) hS.2.2 d_Txt_init_13
set_option maxHeartbeats 4000000 in
set_option maxRecDepth 100000 in
/-- Prg() -/
theorem c_Prg_init (l : Launch) (g : sdG) (qa : Nat) (sz : Nat) : Met l y_Prg_init (.code y_Prg_init b_Prg_init 1 none :: sdT) ({ frames := 1, cells := 1, slots := 600, locals := 20 }) (va_Pc [.ref qa] (sdU g [(qa, .inr (3, [.null, .int 0]))] sz)) (va_Qv (S := Nat) (fun _ => True) (fun u t => sdB g [(qa, .inr (3, [.null, .int 0]))] sz ((fun u => [(qa, .inr (3, [.ref u, .int 0])), (u, .inl (gI g, 600, .inl (fun _ => 0)))] : Nat → va_W) u) t) (va_A [(qa, .inr (3, [.null, .int 0]))] sz)) 1 600 (va_A [(qa, .inr (3, [.null, .int 0]))] sz) := by
  refine Met.ofW (cc := b_Prg_init) (maxL := 1) (ret := none) (by decide) rfl ?_
  intro p ev s m args below meth c s₁ B hml hv
  obtain ⟨rfl, hsz, hP, hK, hE, hD0, hs0⟩ := hv
  have hx := B.exec
  have hb := B.bytes
  have hr := B.returns
  have hts := fun (w : Cond) (h : w ∈ sdT) => atoms_spec (ws := (.code y_Prg_init b_Prg_init 1 none :: sdT)) B.pre w (List.mem_cons_of_mem _ h)
  have hown : s.vm.findClass "SignDesk$Program" = some m.cls := findClass_of_methodNamed B.named
  have hlocks := B.notSynchronized
  have hin : meth.name = "<init>" := (name_of_methodNamed B.named B.method).1
  subst hsz
  have hD := hD0.self (sz := s.heap.size)
  have hA0 : ∀ q : Nat, va_A [(qa, .inr (3, [.null, .int 0]))] s.heap.size q → gS g ≤ q := fun q h => h.elim (fun ⟨k, e, hk⟩ => hD0.2 k _ hk) (fun h => Nat.le_trans hs0 h)
  have hA : ∀ q : Nat, s.heap.size ≤ q → va_A [(qa, .inr (3, [.null, .int 0]))] s.heap.size q := fun q h => Or.inr h
  generalize hAe : va_A [(qa, .inr (3, [.null, .int 0]))] s.heap.size = A at hD hA0 hA ⊢
  have hS : va_S A s.heap s.heap [] := va_S.rf
  have hP : sdP g [(qa, .inr (3, [.null, .int 0]))] s.heap := hP
  have hl := lv_entry ([.ref qa]) (n := 1) (Nat.le_of_ble_eq_true rfl)
  rw [lg_entry_eq]
  generalize (lg_sl ([.ref qa]) ++ List.replicate (1 - (lg_sl ([.ref qa])).length) Slot.unset).toArray = ls at hl ⊢
  have hl : lv_has ls 1 [(0, .ref qa)] := hl
  refine lv_aload_n hx hb d_Prg_init_0 rfl (lv_at hl 0 rfl) ?_
  refine W.objInit hx hb hown (hts _ k_64) (hts _ k_43) (hts _ k_44) rfl (by rw [hml]; exact hl.1) rfl d_Prg_init_1 (Nat.le_of_ble_eq_true rfl) (Nat.le_of_ble_eq_true rfl) ?_
  refine W.eq (g2 := F0 m 4 ls []) rfl ?_
  refine lv_aload_n hx hb d_Prg_init_4 rfl (lv_at hl 0 rfl) ?_
  refine lv_sipush (v := (nI 600)) hx hb d_Prg_init_5 (by decide) ?_
  refine sd_newI hx hb (hts _ k_72) hK hP hD hS hA (N := 600) (by decide) (Nat.le_of_ble_eq_true rfl) (Nat.le_of_ble_eq_true rfl) d_Prg_init_8 (fun qb H hP hD hS => ?_)
  have hP : sdP g [(qa, .inr (3, [.null, .int 0])), (qb, .inl (gI g, 600, .inl (fun _ => 0)))] H := hP
  have hD : va_D A [(qa, .inr (3, [.null, .int 0])), (qb, .inl (gI g, 600, .inl (fun _ => 0)))] := hD
  refine va_putF (D := g.1) (ci := 3) (v := .ref qb) (ty := .array .int) (C := "SignDesk$Program") (T := F_Prg) (N := 2) hx hb hts in_Prg t_Prg t_Prg_ok n_Prg hown hK hP hD hS 0 rfl rfl 0 (by decide) (hts _ k_65) (fun _ h9 => h9) rfl hin rfl (by decide +kernel) rfl rfl (Nat.le_of_ble_eq_true rfl) d_Prg_init_10 (fun H locs hP hD hS => ?_)
  have hP : sdP g [(qa, .inr (3, [.ref qb, .int 0])), (qb, .inl (gI g, 600, .inl (fun _ => 0)))] H := hP
  have hD : va_D A [(qa, .inr (3, [.ref qb, .int 0])), (qb, .inl (gI g, 600, .inl (fun _ => 0)))] := hD
  have hP9 := hP.sub (ws' := [(qa, .inr (3, [.ref qb, .int 0])), (qb, .inl (gI g, 600, .inl (fun _ => 0)))]) [0, 1] rfl
  have hD9 := hD.sub (ws' := [(qa, .inr (3, [.ref qb, .int 0])), (qb, .inl (gI g, 600, .inl (fun _ => 0)))]) [0, 1] (by decide) rfl
  refine W.widen (k := 1) (n := 600) (Nat.le_of_ble_eq_true rfl) (Nat.le_of_ble_eq_true rfl) ?_
  exact W.vret hx hb hr (fun t ht hW => ⟨⟨qb, rfl, trivial, by rw [ht]; exact hP9, by rw [hAe]; exact hD9⟩, hS.F ht⟩) hS.2.2 d_Prg_init_13
set_option maxHeartbeats 4000000 in
set_option maxRecDepth 100000 in
/-- Symbols(text) -/
theorem c_Sym_init (l : Launch) (g : sdG) (qa q1 : Nat) (sz : Nat) : Met l y_Sym_init (.code y_Sym_init b_Sym_init 2 none :: sdT) ({ frames := 1, cells := 3, slots := 120, locals := 20 }) (va_Pc [.ref qa, .ref q1] (sdU g [(qa, .inr (5, [.null, .null, .null, .null, .int 0]))] sz)) (va_Qv (S := Nat × Nat × Nat) (fun _ => True) (fun u t => sdB g [(qa, .inr (5, [.null, .null, .null, .null, .int 0]))] sz ((fun u => [(qa, .inr (5, [.ref q1, .ref u.1, .ref u.2.1, .ref u.2.2, .int 0])), (u.1, .inl (gI g, 40, .inl (fun _ => 0))), (u.2.1, .inl (gI g, 40, .inl (fun _ => 0))), (u.2.2, .inl (gI g, 40, .inl (fun _ => 0)))] : Nat × Nat × Nat → va_W) u) t) (va_A [(qa, .inr (5, [.null, .null, .null, .null, .int 0]))] sz)) 3 120 (va_A [(qa, .inr (5, [.null, .null, .null, .null, .int 0]))] sz) := by
  refine Met.ofW (cc := b_Sym_init) (maxL := 2) (ret := none) (by decide) rfl ?_
  intro p ev s m args below meth c s₁ B hml hv
  obtain ⟨rfl, hsz, hP, hK, hE, hD0, hs0⟩ := hv
  have hx := B.exec
  have hb := B.bytes
  have hr := B.returns
  have hts := fun (w : Cond) (h : w ∈ sdT) => atoms_spec (ws := (.code y_Sym_init b_Sym_init 2 none :: sdT)) B.pre w (List.mem_cons_of_mem _ h)
  have hown : s.vm.findClass "SignDesk$Symbols" = some m.cls := findClass_of_methodNamed B.named
  have hlocks := B.notSynchronized
  have hin : meth.name = "<init>" := (name_of_methodNamed B.named B.method).1
  subst hsz
  have hD := hD0.self (sz := s.heap.size)
  have hA0 : ∀ q : Nat, va_A [(qa, .inr (5, [.null, .null, .null, .null, .int 0]))] s.heap.size q → gS g ≤ q := fun q h => h.elim (fun ⟨k, e, hk⟩ => hD0.2 k _ hk) (fun h => Nat.le_trans hs0 h)
  have hA : ∀ q : Nat, s.heap.size ≤ q → va_A [(qa, .inr (5, [.null, .null, .null, .null, .int 0]))] s.heap.size q := fun q h => Or.inr h
  generalize hAe : va_A [(qa, .inr (5, [.null, .null, .null, .null, .int 0]))] s.heap.size = A at hD hA0 hA ⊢
  have hS : va_S A s.heap s.heap [] := va_S.rf
  have hP : sdP g [(qa, .inr (5, [.null, .null, .null, .null, .int 0]))] s.heap := hP
  have hl := lv_entry ([.ref qa, .ref q1]) (n := 2) (Nat.le_of_ble_eq_true rfl)
  rw [lg_entry_eq]
  generalize (lg_sl ([.ref qa, .ref q1]) ++ List.replicate (2 - (lg_sl ([.ref qa, .ref q1])).length) Slot.unset).toArray = ls at hl ⊢
  have hl : lv_has ls 2 [(0, .ref qa), (1, .ref q1)] := hl
  refine lv_aload_n hx hb d_Sym_init_0 rfl (lv_at hl 0 rfl) ?_
  refine W.objInit hx hb hown (hts _ k_84) (hts _ k_43) (hts _ k_44) rfl (by rw [hml]; exact hl.1) rfl d_Sym_init_1 (Nat.le_of_ble_eq_true rfl) (Nat.le_of_ble_eq_true rfl) ?_
  refine W.eq (g2 := F0 m 4 ls []) rfl ?_
  refine lv_aload_n hx hb d_Sym_init_4 rfl (lv_at hl 0 rfl) ?_
  refine lv_bipush (v := (nI 40)) hx hb d_Sym_init_5 (by decide) ?_
  refine sd_newI hx hb (hts _ k_72) hK hP hD hS hA (N := 40) (by decide) (Nat.le_of_ble_eq_true rfl) (Nat.le_of_ble_eq_true rfl) d_Sym_init_7 (fun b1 H hP hD hS => ?_)
  have hP : sdP g [(qa, .inr (5, [.null, .null, .null, .null, .int 0])), (b1, .inl (gI g, 40, .inl (fun _ => 0)))] H := hP
  have hD : va_D A [(qa, .inr (5, [.null, .null, .null, .null, .int 0])), (b1, .inl (gI g, 40, .inl (fun _ => 0)))] := hD
  refine va_putF (D := g.1) (ci := 5) (v := .ref b1) (ty := .array .int) (C := "SignDesk$Symbols") (T := F_Sym) (N := 5) hx hb hts in_Sym t_Sym t_Sym_ok n_Sym hown hK hP hD hS 0 rfl rfl 1 (by decide) (hts _ k_86) (fun _ h9 => h9) rfl hin rfl (by decide +kernel) rfl rfl (Nat.le_of_ble_eq_true rfl) d_Sym_init_9 (fun H locs hP hD hS => ?_)
  have hP : sdP g [(qa, .inr (5, [.null, .ref b1, .null, .null, .int 0])), (b1, .inl (gI g, 40, .inl (fun _ => 0)))] H := hP
  have hD : va_D A [(qa, .inr (5, [.null, .ref b1, .null, .null, .int 0])), (b1, .inl (gI g, 40, .inl (fun _ => 0)))] := hD
  refine lv_aload_n hx hb d_Sym_init_12 rfl (lv_at hl 0 rfl) ?_
  refine lv_bipush (v := (nI 40)) hx hb d_Sym_init_13 (by decide) ?_
  refine sd_newI hx hb (hts _ k_72) hK hP hD hS hA (N := 40) (by decide) (Nat.le_of_ble_eq_true rfl) (Nat.le_of_ble_eq_true rfl) d_Sym_init_15 (fun b2 H hP hD hS => ?_)
  have hP : sdP g [(qa, .inr (5, [.null, .ref b1, .null, .null, .int 0])), (b1, .inl (gI g, 40, .inl (fun _ => 0))), (b2, .inl (gI g, 40, .inl (fun _ => 0)))] H := hP
  have hD : va_D A [(qa, .inr (5, [.null, .ref b1, .null, .null, .int 0])), (b1, .inl (gI g, 40, .inl (fun _ => 0))), (b2, .inl (gI g, 40, .inl (fun _ => 0)))] := hD
  refine va_putF (D := g.1) (ci := 5) (v := .ref b2) (ty := .array .int) (C := "SignDesk$Symbols") (T := F_Sym) (N := 5) hx hb hts in_Sym t_Sym t_Sym_ok n_Sym hown hK hP hD hS 0 rfl rfl 2 (by decide) (hts _ k_87) (fun _ h9 => h9) rfl hin rfl (by decide +kernel) rfl rfl (Nat.le_of_ble_eq_true rfl) d_Sym_init_17 (fun H locs hP hD hS => ?_)
  have hP : sdP g [(qa, .inr (5, [.null, .ref b1, .ref b2, .null, .int 0])), (b1, .inl (gI g, 40, .inl (fun _ => 0))), (b2, .inl (gI g, 40, .inl (fun _ => 0)))] H := hP
  have hD : va_D A [(qa, .inr (5, [.null, .ref b1, .ref b2, .null, .int 0])), (b1, .inl (gI g, 40, .inl (fun _ => 0))), (b2, .inl (gI g, 40, .inl (fun _ => 0)))] := hD
  refine lv_aload_n hx hb d_Sym_init_20 rfl (lv_at hl 0 rfl) ?_
  refine lv_bipush (v := (nI 40)) hx hb d_Sym_init_21 (by decide) ?_
  refine sd_newI hx hb (hts _ k_72) hK hP hD hS hA (N := 40) (by decide) (Nat.le_of_ble_eq_true rfl) (Nat.le_of_ble_eq_true rfl) d_Sym_init_23 (fun b3 H hP hD hS => ?_)
  have hP : sdP g [(qa, .inr (5, [.null, .ref b1, .ref b2, .null, .int 0])), (b1, .inl (gI g, 40, .inl (fun _ => 0))), (b2, .inl (gI g, 40, .inl (fun _ => 0))), (b3, .inl (gI g, 40, .inl (fun _ => 0)))] H := hP
  have hD : va_D A [(qa, .inr (5, [.null, .ref b1, .ref b2, .null, .int 0])), (b1, .inl (gI g, 40, .inl (fun _ => 0))), (b2, .inl (gI g, 40, .inl (fun _ => 0))), (b3, .inl (gI g, 40, .inl (fun _ => 0)))] := hD
  refine va_putF (D := g.1) (ci := 5) (v := .ref b3) (ty := .array .int) (C := "SignDesk$Symbols") (T := F_Sym) (N := 5) hx hb hts in_Sym t_Sym t_Sym_ok n_Sym hown hK hP hD hS 0 rfl rfl 3 (by decide) (hts _ k_88) (fun _ h9 => h9) rfl hin rfl (by decide +kernel) rfl rfl (Nat.le_of_ble_eq_true rfl) d_Sym_init_25 (fun H locs hP hD hS => ?_)
  have hP : sdP g [(qa, .inr (5, [.null, .ref b1, .ref b2, .ref b3, .int 0])), (b1, .inl (gI g, 40, .inl (fun _ => 0))), (b2, .inl (gI g, 40, .inl (fun _ => 0))), (b3, .inl (gI g, 40, .inl (fun _ => 0)))] H := hP
  have hD : va_D A [(qa, .inr (5, [.null, .ref b1, .ref b2, .ref b3, .int 0])), (b1, .inl (gI g, 40, .inl (fun _ => 0))), (b2, .inl (gI g, 40, .inl (fun _ => 0))), (b3, .inl (gI g, 40, .inl (fun _ => 0)))] := hD
  refine lv_aload_n hx hb d_Sym_init_28 rfl (lv_at hl 0 rfl) ?_
  refine lv_aload_n hx hb d_Sym_init_29 rfl (lv_at hl 1 rfl) ?_
  refine va_putF (D := g.1) (ci := 5) (v := .ref q1) (ty := .object "SignDesk$Text") (C := "SignDesk$Symbols") (T := F_Sym) (N := 5) hx hb hts in_Sym t_Sym t_Sym_ok n_Sym hown hK hP hD hS 0 rfl rfl 0 (by decide) (hts _ k_85) (fun _ h9 => h9) rfl hin rfl (by decide +kernel) rfl rfl (Nat.le_of_ble_eq_true rfl) d_Sym_init_30 (fun H locs hP hD hS => ?_)
  have hP : sdP g [(qa, .inr (5, [.ref q1, .ref b1, .ref b2, .ref b3, .int 0])), (b1, .inl (gI g, 40, .inl (fun _ => 0))), (b2, .inl (gI g, 40, .inl (fun _ => 0))), (b3, .inl (gI g, 40, .inl (fun _ => 0)))] H := hP
  have hD : va_D A [(qa, .inr (5, [.ref q1, .ref b1, .ref b2, .ref b3, .int 0])), (b1, .inl (gI g, 40, .inl (fun _ => 0))), (b2, .inl (gI g, 40, .inl (fun _ => 0))), (b3, .inl (gI g, 40, .inl (fun _ => 0)))] := hD
  have hP9 := hP.sub (ws' := [(qa, .inr (5, [.ref q1, .ref b1, .ref b2, .ref b3, .int 0])), (b1, .inl (gI g, 40, .inl (fun _ => 0))), (b2, .inl (gI g, 40, .inl (fun _ => 0))), (b3, .inl (gI g, 40, .inl (fun _ => 0)))]) [0, 1, 2, 3] rfl
  have hD9 := hD.sub (ws' := [(qa, .inr (5, [.ref q1, .ref b1, .ref b2, .ref b3, .int 0])), (b1, .inl (gI g, 40, .inl (fun _ => 0))), (b2, .inl (gI g, 40, .inl (fun _ => 0))), (b3, .inl (gI g, 40, .inl (fun _ => 0)))]) [0, 1, 2, 3] (by decide) rfl
  refine W.widen (k := 3) (n := 120) (Nat.le_of_ble_eq_true rfl) (Nat.le_of_ble_eq_true rfl) ?_
  exact W.vret hx hb hr (fun t ht hW => ⟨⟨(b1, b2, b3), rfl, trivial, by rw [ht]; exact hP9, by rw [hAe]; exact hD9⟩, hS.F ht⟩) hS.2.2 d_Sym_init_33
set_option maxHeartbeats 4000000 in
set_option maxRecDepth 100000 in
/-- Reader(text, program) -/
theorem c_Rdr_init (l : Launch) (g : sdG) (qa q1 q2 : Nat) (sz : Nat) : Met l y_Rdr_init (.code y_Rdr_init b_Rdr_init 3 none :: sdT) ({ frames := 2, cells := 4, slots := 125, locals := 41 }) (va_Pc [.ref qa, .ref q1, .ref q2] (sdU g [(qa, .inr (4, [.null, .null, .null, .int 0]))] sz)) (va_Qv (S := Nat × Nat × Nat × Nat) (fun _ => True) (fun u t => sdB g [(qa, .inr (4, [.null, .null, .null, .int 0]))] sz ((fun u => [(qa, .inr (4, [.ref q1, .ref q2, .ref u.1, .int (-1)])), (u.1, .inr (5, [.ref q1, .ref u.2.1, .ref u.2.2.1, .ref u.2.2.2, .int 0])), (u.2.1, .inl (gI g, 40, .inl (fun _ => 0))), (u.2.2.1, .inl (gI g, 40, .inl (fun _ => 0))), (u.2.2.2, .inl (gI g, 40, .inl (fun _ => 0)))] : Nat × Nat × Nat × Nat → va_W) u) t) (va_A [(qa, .inr (4, [.null, .null, .null, .int 0]))] sz)) 4 125 (va_A [(qa, .inr (4, [.null, .null, .null, .int 0]))] sz) := by
  refine Met.ofW (cc := b_Rdr_init) (maxL := 3) (ret := none) (by decide) rfl ?_
  intro p ev s m args below meth c s₁ B hml hv
  obtain ⟨rfl, hsz, hP, hK, hE, hD0, hs0⟩ := hv
  have hx := B.exec
  have hb := B.bytes
  have hr := B.returns
  have hts := fun (w : Cond) (h : w ∈ sdT) => atoms_spec (ws := (.code y_Rdr_init b_Rdr_init 3 none :: sdT)) B.pre w (List.mem_cons_of_mem _ h)
  have hown : s.vm.findClass "SignDesk$Reader" = some m.cls := findClass_of_methodNamed B.named
  have hlocks := B.notSynchronized
  have hin : meth.name = "<init>" := (name_of_methodNamed B.named B.method).1
  subst hsz
  have hD := hD0.self (sz := s.heap.size)
  have hA0 : ∀ q : Nat, va_A [(qa, .inr (4, [.null, .null, .null, .int 0]))] s.heap.size q → gS g ≤ q := fun q h => h.elim (fun ⟨k, e, hk⟩ => hD0.2 k _ hk) (fun h => Nat.le_trans hs0 h)
  have hA : ∀ q : Nat, s.heap.size ≤ q → va_A [(qa, .inr (4, [.null, .null, .null, .int 0]))] s.heap.size q := fun q h => Or.inr h
  generalize hAe : va_A [(qa, .inr (4, [.null, .null, .null, .int 0]))] s.heap.size = A at hD hA0 hA ⊢
  have hS : va_S A s.heap s.heap [] := va_S.rf
  have hP : sdP g [(qa, .inr (4, [.null, .null, .null, .int 0]))] s.heap := hP
  have hl := lv_entry ([.ref qa, .ref q1, .ref q2]) (n := 3) (Nat.le_of_ble_eq_true rfl)
  rw [lg_entry_eq]
  generalize (lg_sl ([.ref qa, .ref q1, .ref q2]) ++ List.replicate (3 - (lg_sl ([.ref qa, .ref q1, .ref q2])).length) Slot.unset).toArray = ls at hl ⊢
  have hl : lv_has ls 3 [(0, .ref qa), (1, .ref q1), (2, .ref q2)] := hl
  refine lv_aload_n hx hb d_Rdr_init_0 rfl (lv_at hl 0 rfl) ?_
  refine W.objInit hx hb hown (hts _ k_78) (hts _ k_43) (hts _ k_44) rfl (by rw [hml]; exact hl.1) rfl d_Rdr_init_1 (Nat.le_of_ble_eq_true rfl) (Nat.le_of_ble_eq_true rfl) ?_
  refine W.eq (g2 := F0 m 4 ls []) rfl ?_
  refine lv_aload_n hx hb d_Rdr_init_4 rfl (lv_at hl 0 rfl) ?_
  refine lv_iconst (v := (-1)) hx hb d_Rdr_init_5 (by decide) ?_
  refine va_put (D := g.1) (ci := 4) (v := .int (-1)) (ty := .int) (C := "SignDesk$Reader") (T := F_Rdr) (N := 4) hx hb hts in_Rdr t_Rdr t_Rdr_ok n_Rdr hown hK hP hD hS 0 rfl rfl 3 (by decide) (hts _ k_104) (fun _ h9 => h9) rfl (by decide +kernel) rfl rfl (Nat.le_of_ble_eq_true rfl) d_Rdr_init_6 (fun H locs hP hD hS => ?_)
  have hP : sdP g [(qa, .inr (4, [.null, .null, .null, .int (-1)]))] H := hP
  have hD : va_D A [(qa, .inr (4, [.null, .null, .null, .int (-1)]))] := hD
  refine lv_aload_n hx hb d_Rdr_init_9 rfl (lv_at hl 0 rfl) ?_
  refine lv_aload_n hx hb d_Rdr_init_10 rfl (lv_at hl 1 rfl) ?_
  refine va_putF (D := g.1) (ci := 4) (v := .ref q1) (ty := .object "SignDesk$Text") (C := "SignDesk$Reader") (T := F_Rdr) (N := 4) hx hb hts in_Rdr t_Rdr t_Rdr_ok n_Rdr hown hK hP hD hS 0 rfl rfl 0 (by decide) (hts _ k_101) (fun _ h9 => h9) rfl hin rfl (by decide +kernel) rfl rfl (Nat.le_of_ble_eq_true rfl) d_Rdr_init_11 (fun H locs hP hD hS => ?_)
  have hP : sdP g [(qa, .inr (4, [.ref q1, .null, .null, .int (-1)]))] H := hP
  have hD : va_D A [(qa, .inr (4, [.ref q1, .null, .null, .int (-1)]))] := hD
  refine lv_aload_n hx hb d_Rdr_init_14 rfl (lv_at hl 0 rfl) ?_
  refine lv_aload_n hx hb d_Rdr_init_15 rfl (lv_at hl 2 rfl) ?_
  refine va_putF (D := g.1) (ci := 4) (v := .ref q2) (ty := .object "SignDesk$Program") (C := "SignDesk$Reader") (T := F_Rdr) (N := 4) hx hb hts in_Rdr t_Rdr t_Rdr_ok n_Rdr hown hK hP hD hS 0 rfl rfl 1 (by decide) (hts _ k_102) (fun _ h9 => h9) rfl hin rfl (by decide +kernel) rfl rfl (Nat.le_of_ble_eq_true rfl) d_Rdr_init_16 (fun H locs hP hD hS => ?_)
  have hP : sdP g [(qa, .inr (4, [.ref q1, .ref q2, .null, .int (-1)]))] H := hP
  have hD : va_D A [(qa, .inr (4, [.ref q1, .ref q2, .null, .int (-1)]))] := hD
  refine lv_aload_n hx hb d_Rdr_init_19 rfl (lv_at hl 0 rfl) ?_
  refine va_new (ci := 5) (fs := [.null, .null, .null, .null, .int 0]) (C := "SignDesk$Symbols") (T := F_Sym) (N := 5) hx hb hts in_Sym t_Sym t_Sym_ok hown (hts _ k_79) (hts _ k_80) (hts _ k_27) hK hP hD hS hA rfl (fun j hj => by rcases (show j = 0 ∨ j = 1 ∨ j = 2 ∨ j = 3 ∨ j = 4 by omega) with rfl | rfl | rfl | rfl | rfl <;> rfl) (Nat.le_of_ble_eq_true rfl) (Nat.le_of_ble_eq_true rfl) d_Rdr_init_20 (fun q7 H hP hD hS => ?_)
  have hP : sdP g [(qa, .inr (4, [.ref q1, .ref q2, .null, .int (-1)])), (q7, .inr (5, [.null, .null, .null, .null, .int 0]))] H := hP
  have hD : va_D A [(qa, .inr (4, [.ref q1, .ref q2, .null, .int (-1)])), (q7, .inr (5, [.null, .null, .null, .null, .int 0]))] := hD
  refine lv_dup hx hb d_Rdr_init_23 rfl ?_
  refine lv_aload_n hx hb d_Rdr_init_24 rfl (lv_at hl 1 rfl) ?_
  have hPc := hP.sub (ws' := [(q7, .inr (5, [.null, .null, .null, .null, .int 0]))]) [1] rfl
  have hDc := hD.sub (ws' := [(q7, .inr (5, [.null, .null, .null, .null, .int 0]))]) [1] (by decide) rfl
  have hFc := va_free (wc := [(q7, .inr (5, [.null, .null, .null, .null, .int 0]))]) hD hS hA [1] rfl
  refine sd_cv (va_runI (As := [.ref q1]) (rest := [.ref q7, .ref qa]) ⟨hx, hb, hml, hown, hts⟩ (c_Sym_init l g q7 q1 H.size) (cwI 1 hts (sd_gC k_83) rfl rfl rfl (hts _ k_27) (hts _ k_81) (hts _ k_82) rfl (by decide +kernel) ⟨Nat.le_of_ble_eq_true rfl, Nat.le_of_ble_eq_true rfl⟩) (sd_preSU hK hE hS hA0 hs0 hPc hDc) rfl rfl hl.1 rfl (lv_room (Nat.le_of_ble_eq_true rfl)) d_Rdr_init_25 ⟨(Nat.le_of_ble_eq_true rfl), (Nat.le_of_ble_eq_true rfl)⟩) hS hFc (fun u H1 locs hw hP1 hD1 hk1 hS => ?_)
  obtain ⟨b1, b2, b3⟩ := u
  obtain ⟨hP, hD⟩ := va_join (wr := [(qa, .inr (4, [.ref q1, .ref q2, .null, .int (-1)]))]) (w1 := [(q7, .inr (5, [.ref q1, .ref b1, .ref b2, .ref b3, .int 0])), (b1, .inl (gI g, 40, .inl (fun _ => 0))), (b2, .inl (gI g, 40, .inl (fun _ => 0))), (b3, .inl (gI g, 40, .inl (fun _ => 0)))]) hP hD [1] [0] rfl rfl (by decide) (by decide) hk1 hFc hP1 hD1
  clear hPc hDc hFc hk1 hP1 hD1
  generalize H1 = H at hP hS ⊢
  have hP : sdP g [(qa, .inr (4, [.ref q1, .ref q2, .null, .int (-1)])), (q7, .inr (5, [.ref q1, .ref b1, .ref b2, .ref b3, .int 0])), (b1, .inl (gI g, 40, .inl (fun _ => 0))), (b2, .inl (gI g, 40, .inl (fun _ => 0))), (b3, .inl (gI g, 40, .inl (fun _ => 0)))] H := hP
  have hD : va_D A [(qa, .inr (4, [.ref q1, .ref q2, .null, .int (-1)])), (q7, .inr (5, [.ref q1, .ref b1, .ref b2, .ref b3, .int 0])), (b1, .inl (gI g, 40, .inl (fun _ => 0))), (b2, .inl (gI g, 40, .inl (fun _ => 0))), (b3, .inl (gI g, 40, .inl (fun _ => 0)))] := hD
  refine va_putF (D := g.1) (ci := 4) (v := .ref q7) (ty := .object "SignDesk$Symbols") (C := "SignDesk$Reader") (T := F_Rdr) (N := 4) hx hb hts in_Rdr t_Rdr t_Rdr_ok n_Rdr hown hK hP hD hS 0 rfl rfl 2 (by decide) (hts _ k_103) (fun _ h9 => h9) rfl hin rfl (by decide +kernel) rfl rfl (Nat.le_of_ble_eq_true rfl) d_Rdr_init_28 (fun H locs hP hD hS => ?_)
  have hP : sdP g [(qa, .inr (4, [.ref q1, .ref q2, .ref q7, .int (-1)])), (q7, .inr (5, [.ref q1, .ref b1, .ref b2, .ref b3, .int 0])), (b1, .inl (gI g, 40, .inl (fun _ => 0))), (b2, .inl (gI g, 40, .inl (fun _ => 0))), (b3, .inl (gI g, 40, .inl (fun _ => 0)))] H := hP
  have hD : va_D A [(qa, .inr (4, [.ref q1, .ref q2, .ref q7, .int (-1)])), (q7, .inr (5, [.ref q1, .ref b1, .ref b2, .ref b3, .int 0])), (b1, .inl (gI g, 40, .inl (fun _ => 0))), (b2, .inl (gI g, 40, .inl (fun _ => 0))), (b3, .inl (gI g, 40, .inl (fun _ => 0)))] := hD
  have hP9 := hP.sub (ws' := [(qa, .inr (4, [.ref q1, .ref q2, .ref q7, .int (-1)])), (q7, .inr (5, [.ref q1, .ref b1, .ref b2, .ref b3, .int 0])), (b1, .inl (gI g, 40, .inl (fun _ => 0))), (b2, .inl (gI g, 40, .inl (fun _ => 0))), (b3, .inl (gI g, 40, .inl (fun _ => 0)))]) [0, 1, 2, 3, 4] rfl
  have hD9 := hD.sub (ws' := [(qa, .inr (4, [.ref q1, .ref q2, .ref q7, .int (-1)])), (q7, .inr (5, [.ref q1, .ref b1, .ref b2, .ref b3, .int 0])), (b1, .inl (gI g, 40, .inl (fun _ => 0))), (b2, .inl (gI g, 40, .inl (fun _ => 0))), (b3, .inl (gI g, 40, .inl (fun _ => 0)))]) [0, 1, 2, 3, 4] (by decide) rfl
  refine W.widen (k := 4) (n := 125) (Nat.le_of_ble_eq_true rfl) (Nat.le_of_ble_eq_true rfl) ?_
  exact W.vret hx hb hr (fun t ht hW => ⟨⟨(q7, b1, b2, b3), rfl, trivial, by rw [ht]; exact hP9, by rw [hAe]; exact hD9⟩, hS.F ht⟩) hS.2.2 d_Rdr_init_31
set_option maxHeartbeats 4000000 in
set_option maxRecDepth 100000 in
/-- Processor(program) -/
theorem c_Prc_init (l : Launch) (g : sdG) (qa q2 : Nat) (sz : Nat) : Met l y_Prc_init (.code y_Prc_init b_Prc_init 2 none :: sdT) ({ frames := 2, cells := 2, slots := 129, locals := 40 }) (va_Pc [.ref qa, .ref q2] (sdU g [(qa, .inr (2, [.null, .null, .int 0, .int 0, .int 0, .int 0]))] sz)) (va_Qv (S := Nat × Nat) (fun _ => True) (fun u t => sdB g [(qa, .inr (2, [.null, .null, .int 0, .int 0, .int 0, .int 0]))] sz ((fun u => [(qa, .inr (2, [.ref q2, .ref u.1, .int 0, .int 0, .int 0, .int 0])), (u.1, .inr (0, [.ref u.2])), (u.2, .inl (gP g, 128, .inr (.inr (.inr (.inr (fun _ => none))))))] : Nat × Nat → va_W) u) t) (va_A [(qa, .inr (2, [.null, .null, .int 0, .int 0, .int 0, .int 0]))] sz)) 2 129 (va_A [(qa, .inr (2, [.null, .null, .int 0, .int 0, .int 0, .int 0]))] sz) := by
  refine Met.ofW (cc := b_Prc_init) (maxL := 2) (ret := none) (by decide) rfl ?_
  intro p ev s m args below meth c s₁ B hml hv
  obtain ⟨rfl, hsz, hP, hK, hE, hD0, hs0⟩ := hv
  have hx := B.exec
  have hb := B.bytes
  have hr := B.returns
  have hts := fun (w : Cond) (h : w ∈ sdT) => atoms_spec (ws := (.code y_Prc_init b_Prc_init 2 none :: sdT)) B.pre w (List.mem_cons_of_mem _ h)
  have hown : s.vm.findClass "SignDesk$Processor" = some m.cls := findClass_of_methodNamed B.named
  have hlocks := B.notSynchronized
  have hin : meth.name = "<init>" := (name_of_methodNamed B.named B.method).1
  subst hsz
  have hD := hD0.self (sz := s.heap.size)
  have hA0 : ∀ q : Nat, va_A [(qa, .inr (2, [.null, .null, .int 0, .int 0, .int 0, .int 0]))] s.heap.size q → gS g ≤ q := fun q h => h.elim (fun ⟨k, e, hk⟩ => hD0.2 k _ hk) (fun h => Nat.le_trans hs0 h)
  have hA : ∀ q : Nat, s.heap.size ≤ q → va_A [(qa, .inr (2, [.null, .null, .int 0, .int 0, .int 0, .int 0]))] s.heap.size q := fun q h => Or.inr h
  generalize hAe : va_A [(qa, .inr (2, [.null, .null, .int 0, .int 0, .int 0, .int 0]))] s.heap.size = A at hD hA0 hA ⊢
  have hS : va_S A s.heap s.heap [] := va_S.rf
  have hP : sdP g [(qa, .inr (2, [.null, .null, .int 0, .int 0, .int 0, .int 0]))] s.heap := hP
  have hl := lv_entry ([.ref qa, .ref q2]) (n := 2) (Nat.le_of_ble_eq_true rfl)
  rw [lg_entry_eq]
  generalize (lg_sl ([.ref qa, .ref q2]) ++ List.replicate (2 - (lg_sl ([.ref qa, .ref q2])).length) Slot.unset).toArray = ls at hl ⊢
  have hl : lv_has ls 2 [(0, .ref qa), (1, .ref q2)] := hl
  refine lv_aload_n hx hb d_Prc_init_0 rfl (lv_at hl 0 rfl) ?_
  refine W.objInit hx hb hown (hts _ k_119) (hts _ k_43) (hts _ k_44) rfl (by rw [hml]; exact hl.1) rfl d_Prc_init_1 (Nat.le_of_ble_eq_true rfl) (Nat.le_of_ble_eq_true rfl) ?_
  refine W.eq (g2 := F0 m 4 ls []) rfl ?_
  refine lv_aload_n hx hb d_Prc_init_4 rfl (lv_at hl 0 rfl) ?_
  refine lv_aload_n hx hb d_Prc_init_5 rfl (lv_at hl 1 rfl) ?_
  refine va_putF (D := g.1) (ci := 2) (v := .ref q2) (ty := .object "SignDesk$Program") (C := "SignDesk$Processor") (T := F_Prc) (N := 6) hx hb hts in_Prc t_Prc t_Prc_ok n_Prc hown hK hP hD hS 0 rfl rfl 0 (by decide) (hts _ k_132) (fun _ h9 => h9) rfl hin rfl (by decide +kernel) rfl rfl (Nat.le_of_ble_eq_true rfl) d_Prc_init_6 (fun H locs hP hD hS => ?_)
  have hP : sdP g [(qa, .inr (2, [.ref q2, .null, .int 0, .int 0, .int 0, .int 0]))] H := hP
  have hD : va_D A [(qa, .inr (2, [.ref q2, .null, .int 0, .int 0, .int 0, .int 0]))] := hD
  refine lv_aload_n hx hb d_Prc_init_9 rfl (lv_at hl 0 rfl) ?_
  refine va_new (ci := 0) (fs := [.null]) (C := "SignDesk$Memory") (T := F_Mem) (N := 1) hx hb hts in_Mem t_Mem t_Mem_ok hown (hts _ k_120) (hts _ k_121) (hts _ k_29) hK hP hD hS hA rfl (fun j hj => by rcases (show j = 0 by omega) with rfl <;> rfl) (Nat.le_of_ble_eq_true rfl) (Nat.le_of_ble_eq_true rfl) d_Prc_init_10 (fun qm H hP hD hS => ?_)
  have hP : sdP g [(qa, .inr (2, [.ref q2, .null, .int 0, .int 0, .int 0, .int 0])), (qm, .inr (0, [.null]))] H := hP
  have hD : va_D A [(qa, .inr (2, [.ref q2, .null, .int 0, .int 0, .int 0, .int 0])), (qm, .inr (0, [.null]))] := hD
  refine lv_dup hx hb d_Prc_init_13 rfl ?_
  have hPc := hP.sub (ws' := [(qm, .inr (0, [.null]))]) [1] rfl
  have hDc := hD.sub (ws' := [(qm, .inr (0, [.null]))]) [1] (by decide) rfl
  have hFc := va_free (wc := [(qm, .inr (0, [.null]))]) hD hS hA [1] rfl
  refine sd_cv (va_runIN (host := "SignDesk") (As := []) (rest := [.ref qm, .ref qa]) ⟨hx, hb, hml, hown, hts⟩ (c_Mem_init l g qm H.size) ⟨va_cnB 0 hts (sd_gC k_124) rfl rfl rfl hE.2.2.2.2.2.2.2.1.2.2.1 (hts _ k_29) (by decide +kernel) ⟨Nat.le_of_ble_eq_true rfl, Nat.le_of_ble_eq_true rfl⟩, rfl, hts _ k_123⟩ (sd_preSU hK hE hS hA0 hs0 hPc hDc) rfl rfl hl.1 rfl (lv_room (Nat.le_of_ble_eq_true rfl)) d_Prc_init_14 ⟨(Nat.le_of_ble_eq_true rfl), (Nat.le_of_ble_eq_true rfl)⟩) hS hFc (fun qp H1 locs hw hP1 hD1 hk1 hS => ?_)
  obtain ⟨hP, hD⟩ := va_join (wr := [(qa, .inr (2, [.ref q2, .null, .int 0, .int 0, .int 0, .int 0]))]) (w1 := [(qm, .inr (0, [.ref qp])), (qp, .inl (gP g, 128, .inr (.inr (.inr (.inr (fun _ => none))))))]) hP hD [1] [0] rfl rfl (by decide) (by decide) hk1 hFc hP1 hD1
  clear hPc hDc hFc hk1 hP1 hD1
  generalize H1 = H at hP hS ⊢
  have hP : sdP g [(qa, .inr (2, [.ref q2, .null, .int 0, .int 0, .int 0, .int 0])), (qm, .inr (0, [.ref qp])), (qp, .inl (gP g, 128, .inr (.inr (.inr (.inr (fun _ => none))))))] H := hP
  have hD : va_D A [(qa, .inr (2, [.ref q2, .null, .int 0, .int 0, .int 0, .int 0])), (qm, .inr (0, [.ref qp])), (qp, .inl (gP g, 128, .inr (.inr (.inr (.inr (fun _ => none))))))] := hD
  refine va_putF (D := g.1) (ci := 2) (v := .ref qm) (ty := .object "SignDesk$Memory") (C := "SignDesk$Processor") (T := F_Prc) (N := 6) hx hb hts in_Prc t_Prc t_Prc_ok n_Prc hown hK hP hD hS 0 rfl rfl 1 (by decide) (hts _ k_133) (fun _ h9 => h9) rfl hin rfl (by decide +kernel) rfl rfl (Nat.le_of_ble_eq_true rfl) d_Prc_init_17 (fun H locs hP hD hS => ?_)
  have hP : sdP g [(qa, .inr (2, [.ref q2, .ref qm, .int 0, .int 0, .int 0, .int 0])), (qm, .inr (0, [.ref qp])), (qp, .inl (gP g, 128, .inr (.inr (.inr (.inr (fun _ => none))))))] H := hP
  have hD : va_D A [(qa, .inr (2, [.ref q2, .ref qm, .int 0, .int 0, .int 0, .int 0])), (qm, .inr (0, [.ref qp])), (qp, .inl (gP g, 128, .inr (.inr (.inr (.inr (fun _ => none))))))] := hD
  have hP9 := hP.sub (ws' := [(qa, .inr (2, [.ref q2, .ref qm, .int 0, .int 0, .int 0, .int 0])), (qm, .inr (0, [.ref qp])), (qp, .inl (gP g, 128, .inr (.inr (.inr (.inr (fun _ => none))))))]) [0, 1, 2] rfl
  have hD9 := hD.sub (ws' := [(qa, .inr (2, [.ref q2, .ref qm, .int 0, .int 0, .int 0, .int 0])), (qm, .inr (0, [.ref qp])), (qp, .inl (gP g, 128, .inr (.inr (.inr (.inr (fun _ => none))))))]) [0, 1, 2] (by decide) rfl
  refine W.widen (k := 2) (n := 129) (Nat.le_of_ble_eq_true rfl) (Nat.le_of_ble_eq_true rfl) ?_
  exact W.vret hx hb hr (fun t ht hW => ⟨⟨(qm, qp), rfl, trivial, by rw [ht]; exact hP9, by rw [hAe]; exact hD9⟩, hS.F ht⟩) hS.2.2 d_Prc_init_20
set_option maxHeartbeats 4000000 in
set_option maxRecDepth 100000 in
/-- SignDesk() -/
theorem c_Dsk_init (l : Launch) (g : sdG) (q0 : Nat) (sz : Nat) : Met l y_Dsk_init (.code y_Dsk_init b_Dsk_init 1 none :: sdT) ({ frames := 3, cells := 12, slots := 2868, locals := 63 }) (va_Pc [.ref q0] (sdU g [(q0, .inr (7, [.null, .null, .null, .null]))] sz)) (va_Qv (S := Nat × Nat × Nat × Nat × Nat × Nat × Nat × Nat × Nat × Nat × Nat × Nat) (fun _ => True) (fun u t => sdB g [(q0, .inr (7, [.null, .null, .null, .null]))] sz ((fun u => [(q0, .inr (7, [.ref u.1, .ref u.2.2.1, .ref u.2.2.2.2.1, .ref u.2.2.2.2.2.2.2.2.2.1])), (u.1, .inr (6, [.ref u.2.1, .int 0])), (u.2.1, .inl (gB g, 2000, .inl (fun _ => 0))), (u.2.2.1, .inr (3, [.ref u.2.2.2.1, .int 0])), (u.2.2.2.1, .inl (gI g, 600, .inl (fun _ => 0))), (u.2.2.2.2.1, .inr (4, [.ref u.1, .ref u.2.2.1, .ref u.2.2.2.2.2.1, .int (-1)])), (u.2.2.2.2.2.1, .inr (5, [.ref u.1, .ref u.2.2.2.2.2.2.1, .ref u.2.2.2.2.2.2.2.1, .ref u.2.2.2.2.2.2.2.2.1, .int 0])), (u.2.2.2.2.2.2.1, .inl (gI g, 40, .inl (fun _ => 0))), (u.2.2.2.2.2.2.2.1, .inl (gI g, 40, .inl (fun _ => 0))), (u.2.2.2.2.2.2.2.2.1, .inl (gI g, 40, .inl (fun _ => 0))), (u.2.2.2.2.2.2.2.2.2.1, .inr (2, [.ref u.2.2.1, .ref u.2.2.2.2.2.2.2.2.2.2.1, .int 0, .int 0, .int 0, .int 0])), (u.2.2.2.2.2.2.2.2.2.2.1, .inr (0, [.ref u.2.2.2.2.2.2.2.2.2.2.2])), (u.2.2.2.2.2.2.2.2.2.2.2, .inl (gP g, 128, .inr (.inr (.inr (.inr (fun _ => none))))))] : Nat × Nat × Nat × Nat × Nat × Nat × Nat × Nat × Nat × Nat × Nat × Nat → va_W) u) t) (va_A [(q0, .inr (7, [.null, .null, .null, .null]))] sz)) 12 2868 (va_A [(q0, .inr (7, [.null, .null, .null, .null]))] sz) := by
  refine Met.ofW (cc := b_Dsk_init) (maxL := 1) (ret := none) (by decide) rfl ?_
  intro p ev s m args below meth c s₁ B hml hv
  obtain ⟨rfl, hsz, hP, hK, hE, hD0, hs0⟩ := hv
  have hx := B.exec
  have hb := B.bytes
  have hr := B.returns
  have hts := fun (w : Cond) (h : w ∈ sdT) => atoms_spec (ws := (.code y_Dsk_init b_Dsk_init 1 none :: sdT)) B.pre w (List.mem_cons_of_mem _ h)
  have hown : s.vm.findClass "SignDesk" = some m.cls := findClass_of_methodNamed B.named
  have hlocks := B.notSynchronized
  have hin : meth.name = "<init>" := (name_of_methodNamed B.named B.method).1
  subst hsz
  have hD := hD0.self (sz := s.heap.size)
  have hA0 : ∀ q : Nat, va_A [(q0, .inr (7, [.null, .null, .null, .null]))] s.heap.size q → gS g ≤ q := fun q h => h.elim (fun ⟨k, e, hk⟩ => hD0.2 k _ hk) (fun h => Nat.le_trans hs0 h)
  have hA : ∀ q : Nat, s.heap.size ≤ q → va_A [(q0, .inr (7, [.null, .null, .null, .null]))] s.heap.size q := fun q h => Or.inr h
  generalize hAe : va_A [(q0, .inr (7, [.null, .null, .null, .null]))] s.heap.size = A at hD hA0 hA ⊢
  have hS : va_S A s.heap s.heap [] := va_S.rf
  have hP : sdP g [(q0, .inr (7, [.null, .null, .null, .null]))] s.heap := hP
  have hl := lv_entry ([.ref q0]) (n := 1) (Nat.le_of_ble_eq_true rfl)
  rw [lg_entry_eq]
  generalize (lg_sl ([.ref q0]) ++ List.replicate (1 - (lg_sl ([.ref q0])).length) Slot.unset).toArray = ls at hl ⊢
  have hl : lv_has ls 1 [(0, .ref q0)] := hl
  refine lv_aload_n hx hb d_Dsk_init_0 rfl (lv_at hl 0 rfl) ?_
  refine W.objInit hx hb hown (hts _ k_42) (hts _ k_43) (hts _ k_44) rfl (by rw [hml]; exact hl.1) rfl d_Dsk_init_1 (Nat.le_of_ble_eq_true rfl) (Nat.le_of_ble_eq_true rfl) ?_
  refine W.eq (g2 := F0 m 4 ls []) rfl ?_
  refine lv_aload_n hx hb d_Dsk_init_4 rfl (lv_at hl 0 rfl) ?_
  refine va_new (ci := 6) (fs := [.null, .int 0]) (C := "SignDesk$Text") (T := F_Txt) (N := 2) hx hb hts in_Txt t_Txt t_Txt_ok hown (hts _ k_45) (hts _ k_46) (hts _ k_24) hK hP hD hS hA rfl (fun j hj => by rcases (show j = 0 ∨ j = 1 by omega) with rfl | rfl <;> rfl) (Nat.le_of_ble_eq_true rfl) (Nat.le_of_ble_eq_true rfl) d_Dsk_init_5 (fun q1 H hP hD hS => ?_)
  have hP : sdP g [(q0, .inr (7, [.null, .null, .null, .null])), (q1, .inr (6, [.null, .int 0]))] H := hP
  have hD : va_D A [(q0, .inr (7, [.null, .null, .null, .null])), (q1, .inr (6, [.null, .int 0]))] := hD
  refine lv_dup hx hb d_Dsk_init_8 rfl ?_
  have hPc := hP.sub (ws' := [(q1, .inr (6, [.null, .int 0]))]) [1] rfl
  have hDc := hD.sub (ws' := [(q1, .inr (6, [.null, .int 0]))]) [1] (by decide) rfl
  have hFc := va_free (wc := [(q1, .inr (6, [.null, .int 0]))]) hD hS hA [1] rfl
  refine sd_cv (va_runIN (host := "SignDesk") (As := []) (rest := [.ref q1, .ref q0]) ⟨hx, hb, hml, hown, hts⟩ (c_Txt_init l g q1 H.size) ⟨va_cnB 0 hts (sd_gC k_49) rfl rfl rfl hE.2.2.2.2.2.2.2.1.1 (hts _ k_24) (by decide +kernel) ⟨Nat.le_of_ble_eq_true rfl, Nat.le_of_ble_eq_true rfl⟩, rfl, hts _ k_48⟩ (sd_preSU hK hE hS hA0 hs0 hPc hDc) rfl rfl hl.1 rfl (lv_room (Nat.le_of_ble_eq_true rfl)) d_Dsk_init_9 ⟨(Nat.le_of_ble_eq_true rfl), (Nat.le_of_ble_eq_true rfl)⟩) hS hFc (fun q5 H1 locs hw hP1 hD1 hk1 hS => ?_)
  obtain ⟨hP, hD⟩ := va_join (wr := [(q0, .inr (7, [.null, .null, .null, .null]))]) (w1 := [(q1, .inr (6, [.ref q5, .int 0])), (q5, .inl (gB g, 2000, .inl (fun _ => 0)))]) hP hD [1] [0] rfl rfl (by decide) (by decide) hk1 hFc hP1 hD1
  clear hPc hDc hFc hk1 hP1 hD1
  generalize H1 = H at hP hS ⊢
  have hP : sdP g [(q0, .inr (7, [.null, .null, .null, .null])), (q1, .inr (6, [.ref q5, .int 0])), (q5, .inl (gB g, 2000, .inl (fun _ => 0)))] H := hP
  have hD : va_D A [(q0, .inr (7, [.null, .null, .null, .null])), (q1, .inr (6, [.ref q5, .int 0])), (q5, .inl (gB g, 2000, .inl (fun _ => 0)))] := hD
  refine va_putF (D := g.1) (ci := 7) (v := .ref q1) (ty := .object "SignDesk$Text") (C := "SignDesk") (T := F_Dsk) (N := 4) hx hb hts in_Dsk t_Dsk t_Dsk_ok n_Dsk hown hK hP hD hS 0 rfl rfl 0 (by decide) (hts _ k_151) (fun _ h9 => h9) rfl hin rfl (by decide +kernel) rfl rfl (Nat.le_of_ble_eq_true rfl) d_Dsk_init_12 (fun H locs hP hD hS => ?_)
  have hP : sdP g [(q0, .inr (7, [.ref q1, .null, .null, .null])), (q1, .inr (6, [.ref q5, .int 0])), (q5, .inl (gB g, 2000, .inl (fun _ => 0)))] H := hP
  have hD : va_D A [(q0, .inr (7, [.ref q1, .null, .null, .null])), (q1, .inr (6, [.ref q5, .int 0])), (q5, .inl (gB g, 2000, .inl (fun _ => 0)))] := hD
  refine lv_aload_n hx hb d_Dsk_init_15 rfl (lv_at hl 0 rfl) ?_
  refine va_new (ci := 3) (fs := [.null, .int 0]) (C := "SignDesk$Program") (T := F_Prg) (N := 2) hx hb hts in_Prg t_Prg t_Prg_ok hown (hts _ k_59) (hts _ k_60) (hts _ k_25) hK hP hD hS hA rfl (fun j hj => by rcases (show j = 0 ∨ j = 1 by omega) with rfl | rfl <;> rfl) (Nat.le_of_ble_eq_true rfl) (Nat.le_of_ble_eq_true rfl) d_Dsk_init_16 (fun q2 H hP hD hS => ?_)
  have hP : sdP g [(q0, .inr (7, [.ref q1, .null, .null, .null])), (q1, .inr (6, [.ref q5, .int 0])), (q5, .inl (gB g, 2000, .inl (fun _ => 0))), (q2, .inr (3, [.null, .int 0]))] H := hP
  have hD : va_D A [(q0, .inr (7, [.ref q1, .null, .null, .null])), (q1, .inr (6, [.ref q5, .int 0])), (q5, .inl (gB g, 2000, .inl (fun _ => 0))), (q2, .inr (3, [.null, .int 0]))] := hD
  refine lv_dup hx hb d_Dsk_init_19 rfl ?_
  have hPc := hP.sub (ws' := [(q2, .inr (3, [.null, .int 0]))]) [3] rfl
  have hDc := hD.sub (ws' := [(q2, .inr (3, [.null, .int 0]))]) [3] (by decide) rfl
  have hFc := va_free (wc := [(q2, .inr (3, [.null, .int 0]))]) hD hS hA [3] rfl
  refine sd_cv (va_runIN (host := "SignDesk") (As := []) (rest := [.ref q2, .ref q0]) ⟨hx, hb, hml, hown, hts⟩ (c_Prg_init l g q2 H.size) ⟨va_cnB 0 hts (sd_gC k_63) rfl rfl rfl hE.2.2.2.2.2.2.2.1.2.1 (hts _ k_25) (by decide +kernel) ⟨Nat.le_of_ble_eq_true rfl, Nat.le_of_ble_eq_true rfl⟩, rfl, hts _ k_62⟩ (sd_preSU hK hE hS hA0 hs0 hPc hDc) rfl rfl hl.1 rfl (lv_room (Nat.le_of_ble_eq_true rfl)) d_Dsk_init_20 ⟨(Nat.le_of_ble_eq_true rfl), (Nat.le_of_ble_eq_true rfl)⟩) hS hFc (fun q6 H1 locs hw hP1 hD1 hk1 hS => ?_)
  obtain ⟨hP, hD⟩ := va_join (wr := [(q0, .inr (7, [.ref q1, .null, .null, .null])), (q1, .inr (6, [.ref q5, .int 0])), (q5, .inl (gB g, 2000, .inl (fun _ => 0)))]) (w1 := [(q2, .inr (3, [.ref q6, .int 0])), (q6, .inl (gI g, 600, .inl (fun _ => 0)))]) hP hD [3] [0, 1, 2] rfl rfl (by decide) (by decide) hk1 hFc hP1 hD1
  clear hPc hDc hFc hk1 hP1 hD1
  generalize H1 = H at hP hS ⊢
  have hP : sdP g [(q0, .inr (7, [.ref q1, .null, .null, .null])), (q1, .inr (6, [.ref q5, .int 0])), (q5, .inl (gB g, 2000, .inl (fun _ => 0))), (q2, .inr (3, [.ref q6, .int 0])), (q6, .inl (gI g, 600, .inl (fun _ => 0)))] H := hP
  have hD : va_D A [(q0, .inr (7, [.ref q1, .null, .null, .null])), (q1, .inr (6, [.ref q5, .int 0])), (q5, .inl (gB g, 2000, .inl (fun _ => 0))), (q2, .inr (3, [.ref q6, .int 0])), (q6, .inl (gI g, 600, .inl (fun _ => 0)))] := hD
  refine va_putF (D := g.1) (ci := 7) (v := .ref q2) (ty := .object "SignDesk$Program") (C := "SignDesk") (T := F_Dsk) (N := 4) hx hb hts in_Dsk t_Dsk t_Dsk_ok n_Dsk hown hK hP hD hS 0 rfl rfl 1 (by decide) (hts _ k_152) (fun _ h9 => h9) rfl hin rfl (by decide +kernel) rfl rfl (Nat.le_of_ble_eq_true rfl) d_Dsk_init_23 (fun H locs hP hD hS => ?_)
  have hP : sdP g [(q0, .inr (7, [.ref q1, .ref q2, .null, .null])), (q1, .inr (6, [.ref q5, .int 0])), (q5, .inl (gB g, 2000, .inl (fun _ => 0))), (q2, .inr (3, [.ref q6, .int 0])), (q6, .inl (gI g, 600, .inl (fun _ => 0)))] H := hP
  have hD : va_D A [(q0, .inr (7, [.ref q1, .ref q2, .null, .null])), (q1, .inr (6, [.ref q5, .int 0])), (q5, .inl (gB g, 2000, .inl (fun _ => 0))), (q2, .inr (3, [.ref q6, .int 0])), (q6, .inl (gI g, 600, .inl (fun _ => 0)))] := hD
  refine lv_aload_n hx hb d_Dsk_init_26 rfl (lv_at hl 0 rfl) ?_
  refine va_new (ci := 4) (fs := [.null, .null, .null, .int 0]) (C := "SignDesk$Reader") (T := F_Rdr) (N := 4) hx hb hts in_Rdr t_Rdr t_Rdr_ok hown (hts _ k_73) (hts _ k_74) (hts _ k_26) hK hP hD hS hA rfl (fun j hj => by rcases (show j = 0 ∨ j = 1 ∨ j = 2 ∨ j = 3 by omega) with rfl | rfl | rfl | rfl <;> rfl) (Nat.le_of_ble_eq_true rfl) (Nat.le_of_ble_eq_true rfl) d_Dsk_init_27 (fun q3 H hP hD hS => ?_)
  have hP : sdP g [(q0, .inr (7, [.ref q1, .ref q2, .null, .null])), (q1, .inr (6, [.ref q5, .int 0])), (q5, .inl (gB g, 2000, .inl (fun _ => 0))), (q2, .inr (3, [.ref q6, .int 0])), (q6, .inl (gI g, 600, .inl (fun _ => 0))), (q3, .inr (4, [.null, .null, .null, .int 0]))] H := hP
  have hD : va_D A [(q0, .inr (7, [.ref q1, .ref q2, .null, .null])), (q1, .inr (6, [.ref q5, .int 0])), (q5, .inl (gB g, 2000, .inl (fun _ => 0))), (q2, .inr (3, [.ref q6, .int 0])), (q6, .inl (gI g, 600, .inl (fun _ => 0))), (q3, .inr (4, [.null, .null, .null, .int 0]))] := hD
  refine lv_dup hx hb d_Dsk_init_30 rfl ?_
  refine lv_aload_n hx hb d_Dsk_init_31 rfl (lv_at hl 0 rfl) ?_
  refine va_get (D := g.1) (ci := 7) (v := .ref q1) (C := "SignDesk") (T := F_Dsk) (N := 4) hx hb hts in_Dsk hown hK hP 0 rfl rfl 0 (by decide) (hts _ k_151) (fun _ h9 => h9) rfl d_Dsk_init_32 ?_
  refine lv_aload_n hx hb d_Dsk_init_35 rfl (lv_at hl 0 rfl) ?_
  refine va_get (D := g.1) (ci := 7) (v := .ref q2) (C := "SignDesk") (T := F_Dsk) (N := 4) hx hb hts in_Dsk hown hK hP 0 rfl rfl 1 (by decide) (hts _ k_152) (fun _ h9 => h9) rfl d_Dsk_init_36 ?_
  have hPc := hP.sub (ws' := [(q3, .inr (4, [.null, .null, .null, .int 0]))]) [5] rfl
  have hDc := hD.sub (ws' := [(q3, .inr (4, [.null, .null, .null, .int 0]))]) [5] (by decide) rfl
  have hFc := va_free (wc := [(q3, .inr (4, [.null, .null, .null, .int 0]))]) hD hS hA [5] rfl
  refine sd_cv (va_runI (As := [.ref q1, .ref q2]) (rest := [.ref q3, .ref q0]) ⟨hx, hb, hml, hown, hts⟩ (c_Rdr_init l g q3 q1 q2 H.size) (cwI 2 hts (sd_gC k_77) rfl rfl rfl (hts _ k_26) (hts _ k_75) (hts _ k_76) rfl (by decide +kernel) ⟨Nat.le_of_ble_eq_true rfl, Nat.le_of_ble_eq_true rfl⟩) (sd_preSU hK hE hS hA0 hs0 hPc hDc) rfl rfl hl.1 rfl (lv_room (Nat.le_of_ble_eq_true rfl)) d_Dsk_init_39 ⟨(Nat.le_of_ble_eq_true rfl), (Nat.le_of_ble_eq_true rfl)⟩) hS hFc (fun u H1 locs hw hP1 hD1 hk1 hS => ?_)
  obtain ⟨q7, q8, q9, q10⟩ := u
  obtain ⟨hP, hD⟩ := va_join (wr := [(q0, .inr (7, [.ref q1, .ref q2, .null, .null])), (q1, .inr (6, [.ref q5, .int 0])), (q5, .inl (gB g, 2000, .inl (fun _ => 0))), (q2, .inr (3, [.ref q6, .int 0])), (q6, .inl (gI g, 600, .inl (fun _ => 0)))]) (w1 := [(q3, .inr (4, [.ref q1, .ref q2, .ref q7, .int (-1)])), (q7, .inr (5, [.ref q1, .ref q8, .ref q9, .ref q10, .int 0])), (q8, .inl (gI g, 40, .inl (fun _ => 0))), (q9, .inl (gI g, 40, .inl (fun _ => 0))), (q10, .inl (gI g, 40, .inl (fun _ => 0)))]) hP hD [5] [0, 1, 2, 3, 4] rfl rfl (by decide) (by decide) hk1 hFc hP1 hD1
  clear hPc hDc hFc hk1 hP1 hD1
  generalize H1 = H at hP hS ⊢
  have hP : sdP g [(q0, .inr (7, [.ref q1, .ref q2, .null, .null])), (q1, .inr (6, [.ref q5, .int 0])), (q5, .inl (gB g, 2000, .inl (fun _ => 0))), (q2, .inr (3, [.ref q6, .int 0])), (q6, .inl (gI g, 600, .inl (fun _ => 0))), (q3, .inr (4, [.ref q1, .ref q2, .ref q7, .int (-1)])), (q7, .inr (5, [.ref q1, .ref q8, .ref q9, .ref q10, .int 0])), (q8, .inl (gI g, 40, .inl (fun _ => 0))), (q9, .inl (gI g, 40, .inl (fun _ => 0))), (q10, .inl (gI g, 40, .inl (fun _ => 0)))] H := hP
  have hD : va_D A [(q0, .inr (7, [.ref q1, .ref q2, .null, .null])), (q1, .inr (6, [.ref q5, .int 0])), (q5, .inl (gB g, 2000, .inl (fun _ => 0))), (q2, .inr (3, [.ref q6, .int 0])), (q6, .inl (gI g, 600, .inl (fun _ => 0))), (q3, .inr (4, [.ref q1, .ref q2, .ref q7, .int (-1)])), (q7, .inr (5, [.ref q1, .ref q8, .ref q9, .ref q10, .int 0])), (q8, .inl (gI g, 40, .inl (fun _ => 0))), (q9, .inl (gI g, 40, .inl (fun _ => 0))), (q10, .inl (gI g, 40, .inl (fun _ => 0)))] := hD
  refine va_putF (D := g.1) (ci := 7) (v := .ref q3) (ty := .object "SignDesk$Reader") (C := "SignDesk") (T := F_Dsk) (N := 4) hx hb hts in_Dsk t_Dsk t_Dsk_ok n_Dsk hown hK hP hD hS 0 rfl rfl 2 (by decide) (hts _ k_153) (fun _ h9 => h9) rfl hin rfl (by decide +kernel) rfl rfl (Nat.le_of_ble_eq_true rfl) d_Dsk_init_42 (fun H locs hP hD hS => ?_)
  have hP : sdP g [(q0, .inr (7, [.ref q1, .ref q2, .ref q3, .null])), (q1, .inr (6, [.ref q5, .int 0])), (q5, .inl (gB g, 2000, .inl (fun _ => 0))), (q2, .inr (3, [.ref q6, .int 0])), (q6, .inl (gI g, 600, .inl (fun _ => 0))), (q3, .inr (4, [.ref q1, .ref q2, .ref q7, .int (-1)])), (q7, .inr (5, [.ref q1, .ref q8, .ref q9, .ref q10, .int 0])), (q8, .inl (gI g, 40, .inl (fun _ => 0))), (q9, .inl (gI g, 40, .inl (fun _ => 0))), (q10, .inl (gI g, 40, .inl (fun _ => 0)))] H := hP
  have hD : va_D A [(q0, .inr (7, [.ref q1, .ref q2, .ref q3, .null])), (q1, .inr (6, [.ref q5, .int 0])), (q5, .inl (gB g, 2000, .inl (fun _ => 0))), (q2, .inr (3, [.ref q6, .int 0])), (q6, .inl (gI g, 600, .inl (fun _ => 0))), (q3, .inr (4, [.ref q1, .ref q2, .ref q7, .int (-1)])), (q7, .inr (5, [.ref q1, .ref q8, .ref q9, .ref q10, .int 0])), (q8, .inl (gI g, 40, .inl (fun _ => 0))), (q9, .inl (gI g, 40, .inl (fun _ => 0))), (q10, .inl (gI g, 40, .inl (fun _ => 0)))] := hD
  refine lv_aload_n hx hb d_Dsk_init_45 rfl (lv_at hl 0 rfl) ?_
  refine va_new (ci := 2) (fs := [.null, .null, .int 0, .int 0, .int 0, .int 0]) (C := "SignDesk$Processor") (T := F_Prc) (N := 6) hx hb hts in_Prc t_Prc t_Prc_ok hown (hts _ k_114) (hts _ k_115) (hts _ k_28) hK hP hD hS hA rfl (fun j hj => by rcases (show j = 0 ∨ j = 1 ∨ j = 2 ∨ j = 3 ∨ j = 4 ∨ j = 5 by omega) with rfl | rfl | rfl | rfl | rfl | rfl <;> rfl) (Nat.le_of_ble_eq_true rfl) (Nat.le_of_ble_eq_true rfl) d_Dsk_init_46 (fun qc H hP hD hS => ?_)
  have hP : sdP g [(q0, .inr (7, [.ref q1, .ref q2, .ref q3, .null])), (q1, .inr (6, [.ref q5, .int 0])), (q5, .inl (gB g, 2000, .inl (fun _ => 0))), (q2, .inr (3, [.ref q6, .int 0])), (q6, .inl (gI g, 600, .inl (fun _ => 0))), (q3, .inr (4, [.ref q1, .ref q2, .ref q7, .int (-1)])), (q7, .inr (5, [.ref q1, .ref q8, .ref q9, .ref q10, .int 0])), (q8, .inl (gI g, 40, .inl (fun _ => 0))), (q9, .inl (gI g, 40, .inl (fun _ => 0))), (q10, .inl (gI g, 40, .inl (fun _ => 0))), (qc, .inr (2, [.null, .null, .int 0, .int 0, .int 0, .int 0]))] H := hP
  have hD : va_D A [(q0, .inr (7, [.ref q1, .ref q2, .ref q3, .null])), (q1, .inr (6, [.ref q5, .int 0])), (q5, .inl (gB g, 2000, .inl (fun _ => 0))), (q2, .inr (3, [.ref q6, .int 0])), (q6, .inl (gI g, 600, .inl (fun _ => 0))), (q3, .inr (4, [.ref q1, .ref q2, .ref q7, .int (-1)])), (q7, .inr (5, [.ref q1, .ref q8, .ref q9, .ref q10, .int 0])), (q8, .inl (gI g, 40, .inl (fun _ => 0))), (q9, .inl (gI g, 40, .inl (fun _ => 0))), (q10, .inl (gI g, 40, .inl (fun _ => 0))), (qc, .inr (2, [.null, .null, .int 0, .int 0, .int 0, .int 0]))] := hD
  refine lv_dup hx hb d_Dsk_init_49 rfl ?_
  refine lv_aload_n hx hb d_Dsk_init_50 rfl (lv_at hl 0 rfl) ?_
  refine va_get (D := g.1) (ci := 7) (v := .ref q2) (C := "SignDesk") (T := F_Dsk) (N := 4) hx hb hts in_Dsk hown hK hP 0 rfl rfl 1 (by decide) (hts _ k_152) (fun _ h9 => h9) rfl d_Dsk_init_51 ?_
  have hPc := hP.sub (ws' := [(qc, .inr (2, [.null, .null, .int 0, .int 0, .int 0, .int 0]))]) [10] rfl
  have hDc := hD.sub (ws' := [(qc, .inr (2, [.null, .null, .int 0, .int 0, .int 0, .int 0]))]) [10] (by decide) rfl
  have hFc := va_free (wc := [(qc, .inr (2, [.null, .null, .int 0, .int 0, .int 0, .int 0]))]) hD hS hA [10] rfl
  refine sd_cv (va_runI (As := [.ref q2]) (rest := [.ref qc, .ref q0]) ⟨hx, hb, hml, hown, hts⟩ (c_Prc_init l g qc q2 H.size) (cwI 1 hts (sd_gC k_118) rfl rfl rfl (hts _ k_28) (hts _ k_116) (hts _ k_117) rfl (by decide +kernel) ⟨Nat.le_of_ble_eq_true rfl, Nat.le_of_ble_eq_true rfl⟩) (sd_preSU hK hE hS hA0 hs0 hPc hDc) rfl rfl hl.1 rfl (lv_room (Nat.le_of_ble_eq_true rfl)) d_Dsk_init_54 ⟨(Nat.le_of_ble_eq_true rfl), (Nat.le_of_ble_eq_true rfl)⟩) hS hFc (fun u H1 locs hw hP1 hD1 hk1 hS => ?_)
  obtain ⟨qm, qp⟩ := u
  obtain ⟨hP, hD⟩ := va_join (wr := [(q0, .inr (7, [.ref q1, .ref q2, .ref q3, .null])), (q1, .inr (6, [.ref q5, .int 0])), (q5, .inl (gB g, 2000, .inl (fun _ => 0))), (q2, .inr (3, [.ref q6, .int 0])), (q6, .inl (gI g, 600, .inl (fun _ => 0))), (q3, .inr (4, [.ref q1, .ref q2, .ref q7, .int (-1)])), (q7, .inr (5, [.ref q1, .ref q8, .ref q9, .ref q10, .int 0])), (q8, .inl (gI g, 40, .inl (fun _ => 0))), (q9, .inl (gI g, 40, .inl (fun _ => 0))), (q10, .inl (gI g, 40, .inl (fun _ => 0)))]) (w1 := [(qc, .inr (2, [.ref q2, .ref qm, .int 0, .int 0, .int 0, .int 0])), (qm, .inr (0, [.ref qp])), (qp, .inl (gP g, 128, .inr (.inr (.inr (.inr (fun _ => none))))))]) hP hD [10] [0, 1, 2, 3, 4, 5, 6, 7, 8, 9] rfl rfl (by decide) (by decide) hk1 hFc hP1 hD1
  clear hPc hDc hFc hk1 hP1 hD1
  generalize H1 = H at hP hS ⊢
  have hP : sdP g [(q0, .inr (7, [.ref q1, .ref q2, .ref q3, .null])), (q1, .inr (6, [.ref q5, .int 0])), (q5, .inl (gB g, 2000, .inl (fun _ => 0))), (q2, .inr (3, [.ref q6, .int 0])), (q6, .inl (gI g, 600, .inl (fun _ => 0))), (q3, .inr (4, [.ref q1, .ref q2, .ref q7, .int (-1)])), (q7, .inr (5, [.ref q1, .ref q8, .ref q9, .ref q10, .int 0])), (q8, .inl (gI g, 40, .inl (fun _ => 0))), (q9, .inl (gI g, 40, .inl (fun _ => 0))), (q10, .inl (gI g, 40, .inl (fun _ => 0))), (qc, .inr (2, [.ref q2, .ref qm, .int 0, .int 0, .int 0, .int 0])), (qm, .inr (0, [.ref qp])), (qp, .inl (gP g, 128, .inr (.inr (.inr (.inr (fun _ => none))))))] H := hP
  have hD : va_D A [(q0, .inr (7, [.ref q1, .ref q2, .ref q3, .null])), (q1, .inr (6, [.ref q5, .int 0])), (q5, .inl (gB g, 2000, .inl (fun _ => 0))), (q2, .inr (3, [.ref q6, .int 0])), (q6, .inl (gI g, 600, .inl (fun _ => 0))), (q3, .inr (4, [.ref q1, .ref q2, .ref q7, .int (-1)])), (q7, .inr (5, [.ref q1, .ref q8, .ref q9, .ref q10, .int 0])), (q8, .inl (gI g, 40, .inl (fun _ => 0))), (q9, .inl (gI g, 40, .inl (fun _ => 0))), (q10, .inl (gI g, 40, .inl (fun _ => 0))), (qc, .inr (2, [.ref q2, .ref qm, .int 0, .int 0, .int 0, .int 0])), (qm, .inr (0, [.ref qp])), (qp, .inl (gP g, 128, .inr (.inr (.inr (.inr (fun _ => none))))))] := hD
  refine va_putF (D := g.1) (ci := 7) (v := .ref qc) (ty := .object "SignDesk$Processor") (C := "SignDesk") (T := F_Dsk) (N := 4) hx hb hts in_Dsk t_Dsk t_Dsk_ok n_Dsk hown hK hP hD hS 0 rfl rfl 3 (by decide) (hts _ k_154) (fun _ h9 => h9) rfl hin rfl (by decide +kernel) rfl rfl (Nat.le_of_ble_eq_true rfl) d_Dsk_init_57 (fun H locs hP hD hS => ?_)
  have hP : sdP g [(q0, .inr (7, [.ref q1, .ref q2, .ref q3, .ref qc])), (q1, .inr (6, [.ref q5, .int 0])), (q5, .inl (gB g, 2000, .inl (fun _ => 0))), (q2, .inr (3, [.ref q6, .int 0])), (q6, .inl (gI g, 600, .inl (fun _ => 0))), (q3, .inr (4, [.ref q1, .ref q2, .ref q7, .int (-1)])), (q7, .inr (5, [.ref q1, .ref q8, .ref q9, .ref q10, .int 0])), (q8, .inl (gI g, 40, .inl (fun _ => 0))), (q9, .inl (gI g, 40, .inl (fun _ => 0))), (q10, .inl (gI g, 40, .inl (fun _ => 0))), (qc, .inr (2, [.ref q2, .ref qm, .int 0, .int 0, .int 0, .int 0])), (qm, .inr (0, [.ref qp])), (qp, .inl (gP g, 128, .inr (.inr (.inr (.inr (fun _ => none))))))] H := hP
  have hD : va_D A [(q0, .inr (7, [.ref q1, .ref q2, .ref q3, .ref qc])), (q1, .inr (6, [.ref q5, .int 0])), (q5, .inl (gB g, 2000, .inl (fun _ => 0))), (q2, .inr (3, [.ref q6, .int 0])), (q6, .inl (gI g, 600, .inl (fun _ => 0))), (q3, .inr (4, [.ref q1, .ref q2, .ref q7, .int (-1)])), (q7, .inr (5, [.ref q1, .ref q8, .ref q9, .ref q10, .int 0])), (q8, .inl (gI g, 40, .inl (fun _ => 0))), (q9, .inl (gI g, 40, .inl (fun _ => 0))), (q10, .inl (gI g, 40, .inl (fun _ => 0))), (qc, .inr (2, [.ref q2, .ref qm, .int 0, .int 0, .int 0, .int 0])), (qm, .inr (0, [.ref qp])), (qp, .inl (gP g, 128, .inr (.inr (.inr (.inr (fun _ => none))))))] := hD
  have hP9 := hP.sub (ws' := [(q0, .inr (7, [.ref q1, .ref q2, .ref q3, .ref qc])), (q1, .inr (6, [.ref q5, .int 0])), (q5, .inl (gB g, 2000, .inl (fun _ => 0))), (q2, .inr (3, [.ref q6, .int 0])), (q6, .inl (gI g, 600, .inl (fun _ => 0))), (q3, .inr (4, [.ref q1, .ref q2, .ref q7, .int (-1)])), (q7, .inr (5, [.ref q1, .ref q8, .ref q9, .ref q10, .int 0])), (q8, .inl (gI g, 40, .inl (fun _ => 0))), (q9, .inl (gI g, 40, .inl (fun _ => 0))), (q10, .inl (gI g, 40, .inl (fun _ => 0))), (qc, .inr (2, [.ref q2, .ref qm, .int 0, .int 0, .int 0, .int 0])), (qm, .inr (0, [.ref qp])), (qp, .inl (gP g, 128, .inr (.inr (.inr (.inr (fun _ => none))))))]) [0, 1, 2, 3, 4, 5, 6, 7, 8, 9, 10, 11, 12] rfl
  have hD9 := hD.sub (ws' := [(q0, .inr (7, [.ref q1, .ref q2, .ref q3, .ref qc])), (q1, .inr (6, [.ref q5, .int 0])), (q5, .inl (gB g, 2000, .inl (fun _ => 0))), (q2, .inr (3, [.ref q6, .int 0])), (q6, .inl (gI g, 600, .inl (fun _ => 0))), (q3, .inr (4, [.ref q1, .ref q2, .ref q7, .int (-1)])), (q7, .inr (5, [.ref q1, .ref q8, .ref q9, .ref q10, .int 0])), (q8, .inl (gI g, 40, .inl (fun _ => 0))), (q9, .inl (gI g, 40, .inl (fun _ => 0))), (q10, .inl (gI g, 40, .inl (fun _ => 0))), (qc, .inr (2, [.ref q2, .ref qm, .int 0, .int 0, .int 0, .int 0])), (qm, .inr (0, [.ref qp])), (qp, .inl (gP g, 128, .inr (.inr (.inr (.inr (fun _ => none))))))]) [0, 1, 2, 3, 4, 5, 6, 7, 8, 9, 10, 11, 12] (by decide) rfl
  refine W.widen (k := 12) (n := 2868) (Nat.le_of_ble_eq_true rfl) (Nat.le_of_ble_eq_true rfl) ?_
  exact W.vret hx hb hr (fun t ht hW => ⟨⟨(q1, q5, q2, q6, q3, q7, q8, q9, q10, qc, qm, qp), rfl, trivial, by rw [ht]; exact hP9, by rw [hAe]; exact hD9⟩, hS.F ht⟩) hS.2.2 d_Dsk_init_60
