theorem List.set_eq_self {α : Type} {l : List α} {k : Nat} {x : α} (h : l[k]? = some x) : l.set k x = l := by
  apply List.ext_getElem?
  intro i
  by_cases e : i = k
  · subst e; rw [h]; exact List.getElem?_set_self (List.getElem?_eq_some_iff.mp h).1
  · rw [List.getElem?_set_ne (fun q => e q.symm)]
set_option maxHeartbeats 4000000 in
set_option maxRecDepth 100000 in
/-- fill -/
theorem c_JA_fill (l : Launch) (g : sdG) (ws : va_W) (kb b n : Nat) (h : Nat → Int32) (hn : n < 2 ^ 30) (hk9 : ws[kb]? = some (b, .inl (gI g, n, .inl h))) (v : Int32) (sz : Nat) : Met l y_JA_fill (.code y_JA_fill b_JA_fill 4 none :: sdT) ({ frames := 0, cells := 0, slots := 0, locals := 0 }) (va_Pc [.ref b, .int v] (sdU g ws sz)) (va_Qv (S := Nat → Int32) (fun u => ∀ j, j < n → u j = v) (fun u t => sdB g ws sz ((fun u => ws.set kb (b, .inl (gI g, n, .inl u)) : (Nat → Int32) → va_W) u) t) (va_A ws sz)) 0 0 (va_A ws sz) := by
  refine va_MetF (cc := b_JA_fill) (maxL := 4) (ret := none) (by decide +kernel) rfl ?_
  intro p ev s m args below meth c s₁ B hml hv
  obtain ⟨rfl, hsz, hP, hK, hE, hD0, hs0⟩ := hv
  have hx := B.exec
  have hb := B.bytes
  have hr := B.returns
  have hts := fun (w : Cond) (h : w ∈ sdT) => atoms_spec (ws := (.code y_JA_fill b_JA_fill 4 none :: sdT)) B.pre w (List.mem_cons_of_mem _ h)
  have hown : s.vm.findClass "java/util/Arrays" = some m.cls := findClass_of_methodNamed B.named
  have hlocks := B.notSynchronized
  subst hsz
  have hD := hD0.self (sz := s.heap.size)
  have hA0 : ∀ q : Nat, va_A ws s.heap.size q → gS g ≤ q := fun q h => h.elim (fun ⟨k, e, hk⟩ => hD0.2 k _ hk) (fun h => Nat.le_trans hs0 h)
  have hA : ∀ q : Nat, s.heap.size ≤ q → va_A ws s.heap.size q := fun q h => Or.inr h
  generalize hAe : va_A ws s.heap.size = A at hD hA0 hA ⊢
  have hS : va_S A s.heap s.heap [] := va_S.rf
  have hP : sdP g ws s.heap := hP
  have hl := lv_entry ([.ref b, .int v]) (n := 4) (Nat.le_of_ble_eq_true rfl)
  rw [lg_entry_eq]
  generalize (lg_sl ([.ref b, .int v]) ++ List.replicate (4 - (lg_sl ([.ref b, .int v])).length) Slot.unset).toArray = ls at hl ⊢
  have hl : lv_has ls 4 [(0, .ref b), (1, .int v)] := hl
  refine lv_iconst (v := (nI 0)) hx hb d_JA_fill_0 (by decide) ?_
  refine lv_istore_n (lv' := [(2, .int (nI 0)), (0, .ref b), (1, .int v)]) hx hb d_JA_fill_1 rfl hl (by decide) rfl (fun ls hl => ?_)
  refine lv_aload_n hx hb d_JA_fill_2 rfl (lv_at hl 1 rfl) ?_
  refine va_alen hx hb hK hP kb 1 hk9 rfl (v := nI n) rfl d_JA_fill_3 ?_
  refine lv_istore_n (lv' := [(3, .int (nI n)), (2, .int (nI 0)), (0, .ref b), (1, .int v)]) hx hb d_JA_fill_4 rfl hl (by decide) rfl (fun ls hl => ?_)
  refine sd_loop (fun (x : Heap × List Loc × Array Slot × Nat × (Nat → Int32)) => match x with | (H, locs, ls, i, h1) => lv_has ls 4 [(2, .int (nI i)), (0, .ref b), (1, .int v), (3, .int (nI n))] ∧ sdP g (ws.set kb (b, .inl (gI g, n, .inl h1))) H ∧ va_D A (ws.set kb (b, .inl (gI g, n, .inl h1))) ∧ va_S A s.heap H locs ∧ i ≤ n ∧ ∀ j, j < i → h1 j = v) (fun (x : Heap × List Loc × Array Slot × Nat × (Nat → Int32)) => match x with | (H, locs, ls, i, h1) => n - i) (fun x => x.1) (fun x => x.2.1) (fun _ => 0) (fun _ => 0) (fun x => F0 m 5 x.2.2.1 []) (fun x hI ih => ?_) (s.heap, _, ls, 0, h) ⟨lv_sub hl [1, 2, 3, 0] rfl, by rw [List.set_eq_self hk9]; exact hP, by rw [List.set_eq_self hk9]; exact hD, hS, Nat.zero_le _, fun j hj => absurd hj (Nat.not_lt_zero j)⟩
  obtain ⟨H, locs, ls, i, h1⟩ := x
  obtain ⟨hl, hP, hD, hS, h2, h3⟩ := hI
  show W p l ev _ s m _ below meth c H locs 0 0 _ (F0 m 5 ls [])
  have hP : sdP g (ws.set kb (b, .inl (gI g, n, .inl h1))) H := hP
  have hD : va_D A (ws.set kb (b, .inl (gI g, n, .inl h1))) := hD
  have hk1 : (ws.set kb (b, .inl (gI g, n, .inl h1)))[kb]? = some (b, .inl (gI g, n, .inl h1)) := List.getElem?_set_self (List.getElem?_eq_some_iff.mp hk9).1
  refine lv_iload_n hx hb d_JA_fill_5 rfl (lv_at hl 0 rfl) ?_
  refine lv_iload_n hx hb d_JA_fill_6 rfl (lv_at hl 3 rfl) ?_
  refine lv_icmp_ge (tgt := 20) hx hb d_JA_fill_7 (by decide) (fun c1 => ?_) (fun c1 => ?_)
  · have c1 := (nI_leI (by omega) (by omega)).mp c1
    have e1 : i = n := by omega
    rw [e1] at h3
    exact W.vret hx hb hr (fun t ht hW => ⟨⟨h1, rfl, h3, by rw [ht]; exact hP, by rw [hAe]; exact hD⟩, hS.F ht⟩) hS.2.2 d_JA_fill_20
  · have c1 := mt (nI_leI (by omega) (by omega)).mpr c1
    refine lv_aload_n hx hb d_JA_fill_10 rfl (lv_at hl 1 rfl) ?_
    refine lv_iload_n hx hb d_JA_fill_11 rfl (lv_at hl 0 rfl) ?_
    refine lv_iload_n hx hb d_JA_fill_12 rfl (lv_at hl 2 rfl) ?_
    refine va_iast hx hb hK hP hD hS kb 1 hk1 rfl (i := nI i) (x := v) (vp_in_nI (by omega) (by omega)) d_JA_fill_13 (fun H locs hP hD hS => ?_)
    rw [List.set_set, nI_clamp (by omega)] at hP hD
    refine lv_iinc (v := (nI (i + 1))) (lv' := [(2, .int (nI (i + 1))), (0, .ref b), (1, .int v), (3, .int (nI n))]) hx hb d_JA_fill_14 hl (k := 0) rfl (nI_1 _) (by decide) rfl (fun ls hl => ?_)
    refine lv_goto (tgt := 5) hx hb d_JA_fill_17 (by decide) ?_
    exact ih (H, locs, ls, i + 1, upd h1 i v) ⟨lv_sub hl [0, 1, 2, 3] rfl, hP, hD, hS, by omega, fun j hj => by
        by_cases q : j = i
        · subst q; exact pk_us
        · rw [pk_un q]; exact h3 j (by omega)⟩ (show n - (i + 1) < n - i by omega)
set_option maxHeartbeats 4000000 in
set_option maxRecDepth 100000 in
/-- Page() -/
theorem c_Pag_init (l : Launch) (g : sdG) (qa : Nat) (sz : Nat) : Met l y_Pag_init (.code y_Pag_init b_Pag_init 1 none :: sdT) ({ frames := 1, cells := 1, slots := 256, locals := 20 }) (va_Pc [.ref qa] (sdU g [(qa, .inr (1, [.null]))] sz)) (va_Qv (S := Nat) (fun _ => True) (fun u t => sdB g [(qa, .inr (1, [.null]))] sz ((fun u => [(qa, .inr (1, [.ref u])), (u, .inl (gI g, 256, .inl (fun _ => 0)))] : Nat → va_W) u) t) (va_A [(qa, .inr (1, [.null]))] sz)) 1 256 (va_A [(qa, .inr (1, [.null]))] sz) := by
  refine Met.ofW (cc := b_Pag_init) (maxL := 1) (ret := none) (by decide) rfl ?_
  intro p ev s m args below meth c s₁ B hml hv
  obtain ⟨rfl, hsz, hP, hK, hE, hD0, hs0⟩ := hv
  have hx := B.exec
  have hb := B.bytes
  have hr := B.returns
  have hts := fun (w : Cond) (h : w ∈ sdT) => atoms_spec (ws := (.code y_Pag_init b_Pag_init 1 none :: sdT)) B.pre w (List.mem_cons_of_mem _ h)
  have hown : s.vm.findClass "SignDesk$Page" = some m.cls := findClass_of_methodNamed B.named
  have hlocks := B.notSynchronized
  have hin : meth.name = "<init>" := (name_of_methodNamed B.named B.method).1
  subst hsz
  have hD := hD0.self (sz := s.heap.size)
  have hA0 : ∀ q : Nat, va_A [(qa, .inr (1, [.null]))] s.heap.size q → gS g ≤ q := fun q h => h.elim (fun ⟨k, e, hk⟩ => hD0.2 k _ hk) (fun h => Nat.le_trans hs0 h)
  have hA : ∀ q : Nat, s.heap.size ≤ q → va_A [(qa, .inr (1, [.null]))] s.heap.size q := fun q h => Or.inr h
  generalize hAe : va_A [(qa, .inr (1, [.null]))] s.heap.size = A at hD hA0 hA ⊢
  have hS : va_S A s.heap s.heap [] := va_S.rf
  have hP : sdP g [(qa, .inr (1, [.null]))] s.heap := hP
  have hl := lv_entry ([.ref qa]) (n := 1) (Nat.le_of_ble_eq_true rfl)
  rw [lg_entry_eq]
  generalize (lg_sl ([.ref qa]) ++ List.replicate (1 - (lg_sl ([.ref qa])).length) Slot.unset).toArray = ls at hl ⊢
  have hl : lv_has ls 1 [(0, .ref qa)] := hl
  refine lv_aload_n hx hb d_Pag_init_0 rfl (lv_at hl 0 rfl) ?_
  refine W.objInit hx hb hown (hts _ k_435) (hts _ k_43) (hts _ k_44) rfl (by rw [hml]; exact hl.1) rfl d_Pag_init_1 (Nat.le_of_ble_eq_true rfl) (Nat.le_of_ble_eq_true rfl) ?_
  refine W.eq (g2 := F0 m 4 ls []) rfl ?_
  refine lv_aload_n hx hb d_Pag_init_4 rfl (lv_at hl 0 rfl) ?_
  refine lv_sipush (v := (nI 256)) hx hb d_Pag_init_5 (by decide) ?_
  refine sd_newI hx hb (hts _ k_72) hK hP hD hS hA (N := 256) (by decide) (Nat.le_of_ble_eq_true rfl) (Nat.le_of_ble_eq_true rfl) d_Pag_init_8 (fun qb H hP hD hS => ?_)
  have hP : sdP g [(qa, .inr (1, [.null])), (qb, .inl (gI g, 256, .inl (fun _ => 0)))] H := hP
  have hD : va_D A [(qa, .inr (1, [.null])), (qb, .inl (gI g, 256, .inl (fun _ => 0)))] := hD
  refine va_putF (D := g.1) (ci := 1) (v := .ref qb) (ty := .array .int) (C := "SignDesk$Page") (T := F_Pag) (N := 1) hx hb hts in_Pag t_Pag t_Pag_ok n_Pag hown hK hP hD hS 0 rfl rfl 0 (by decide) (hts _ k_436) (fun _ h9 => h9) rfl hin rfl (by decide +kernel) rfl rfl (Nat.le_of_ble_eq_true rfl) d_Pag_init_10 (fun H locs hP hD hS => ?_)
  have hP : sdP g [(qa, .inr (1, [.ref qb])), (qb, .inl (gI g, 256, .inl (fun _ => 0)))] H := hP
  have hD : va_D A [(qa, .inr (1, [.ref qb])), (qb, .inl (gI g, 256, .inl (fun _ => 0)))] := hD
  have hP9 := hP.sub (ws' := [(qa, .inr (1, [.ref qb])), (qb, .inl (gI g, 256, .inl (fun _ => 0)))]) [0, 1] rfl
  have hD9 := hD.sub (ws' := [(qa, .inr (1, [.ref qb])), (qb, .inl (gI g, 256, .inl (fun _ => 0)))]) [0, 1] (by decide) rfl
  exact W.vret hx hb hr (fun t ht hW => ⟨⟨qb, rfl, trivial, by rw [ht]; exact hP9, by rw [hAe]; exact hD9⟩, hS.F ht⟩) hS.2.2 d_Pag_init_13
set_option maxHeartbeats 4000000 in
set_option maxRecDepth 100000 in
/-- Memory() -/
theorem c_Mem_init (l : Launch) (g : sdG) (qm : Nat) (sz : Nat) : Met l y_Mem_init (.code y_Mem_init b_Mem_init 1 none :: sdT) ({ frames := 1, cells := 1, slots := 128, locals := 20 }) (va_Pc [.ref qm] (sdU g [(qm, .inr (0, [.null]))] sz)) (va_Qv (S := Nat) (fun _ => True) (fun u t => sdB g [(qm, .inr (0, [.null]))] sz ((fun u => [(qm, .inr (0, [.ref u])), (u, .inl (gP g, 128, .inr (.inr (.inr (.inr (fun _ => none))))))] : Nat → va_W) u) t) (va_A [(qm, .inr (0, [.null]))] sz)) 1 128 (va_A [(qm, .inr (0, [.null]))] sz) := by
  refine Met.ofW (cc := b_Mem_init) (maxL := 1) (ret := none) (by decide) rfl ?_
  intro p ev s m args below meth c s₁ B hml hv
  obtain ⟨rfl, hsz, hP, hK, hE, hD0, hs0⟩ := hv
  have hx := B.exec
  have hb := B.bytes
  have hr := B.returns
  have hts := fun (w : Cond) (h : w ∈ sdT) => atoms_spec (ws := (.code y_Mem_init b_Mem_init 1 none :: sdT)) B.pre w (List.mem_cons_of_mem _ h)
  have hown : s.vm.findClass "SignDesk$Memory" = some m.cls := findClass_of_methodNamed B.named
  have hlocks := B.notSynchronized
  have hin : meth.name = "<init>" := (name_of_methodNamed B.named B.method).1
  subst hsz
  have hD := hD0.self (sz := s.heap.size)
  have hA0 : ∀ q : Nat, va_A [(qm, .inr (0, [.null]))] s.heap.size q → gS g ≤ q := fun q h => h.elim (fun ⟨k, e, hk⟩ => hD0.2 k _ hk) (fun h => Nat.le_trans hs0 h)
  have hA : ∀ q : Nat, s.heap.size ≤ q → va_A [(qm, .inr (0, [.null]))] s.heap.size q := fun q h => Or.inr h
  generalize hAe : va_A [(qm, .inr (0, [.null]))] s.heap.size = A at hD hA0 hA ⊢
  have hS : va_S A s.heap s.heap [] := va_S.rf
  have hP : sdP g [(qm, .inr (0, [.null]))] s.heap := hP
  have hl := lv_entry ([.ref qm]) (n := 1) (Nat.le_of_ble_eq_true rfl)
  rw [lg_entry_eq]
  generalize (lg_sl ([.ref qm]) ++ List.replicate (1 - (lg_sl ([.ref qm])).length) Slot.unset).toArray = ls at hl ⊢
  have hl : lv_has ls 1 [(0, .ref qm)] := hl
  refine lv_aload_n hx hb d_Mem_init_0 rfl (lv_at hl 0 rfl) ?_
  refine W.objInit hx hb hown (hts _ k_125) (hts _ k_43) (hts _ k_44) rfl (by rw [hml]; exact hl.1) rfl d_Mem_init_1 (Nat.le_of_ble_eq_true rfl) (Nat.le_of_ble_eq_true rfl) ?_
  refine W.eq (g2 := F0 m 4 ls []) rfl ?_
  refine lv_aload_n hx hb d_Mem_init_4 rfl (lv_at hl 0 rfl) ?_
  refine lv_sipush (v := (nI 128)) hx hb d_Mem_init_5 (by decide) ?_
  refine sd_newP hx hb hown (hts _ k_126) hE.2.2.2.2.2.2.2.2 hK hP hD hS hA (N := 128) (by decide) (Nat.le_of_ble_eq_true rfl) (Nat.le_of_ble_eq_true rfl) d_Mem_init_8 (fun qp H hP hD hS => ?_)
  have hP : sdP g [(qm, .inr (0, [.null])), (qp, .inl (gP g, 128, .inr (.inr (.inr (.inr (fun _ => none))))))] H := hP
  have hD : va_D A [(qm, .inr (0, [.null])), (qp, .inl (gP g, 128, .inr (.inr (.inr (.inr (fun _ => none))))))] := hD
  refine va_putF (D := g.1) (ci := 0) (v := .ref qp) (ty := .array (.object "SignDesk$Page")) (C := "SignDesk$Memory") (T := F_Mem) (N := 1) hx hb hts in_Mem t_Mem t_Mem_ok n_Mem hown hK hP hD hS 0 rfl rfl 0 (by decide) (hts _ k_128) (fun _ h9 => h9) rfl hin rfl (by decide +kernel) rfl rfl (Nat.le_of_ble_eq_true rfl) d_Mem_init_11 (fun H locs hP hD hS => ?_)
  have hP : sdP g [(qm, .inr (0, [.ref qp])), (qp, .inl (gP g, 128, .inr (.inr (.inr (.inr (fun _ => none))))))] H := hP
  have hD : va_D A [(qm, .inr (0, [.ref qp])), (qp, .inl (gP g, 128, .inr (.inr (.inr (.inr (fun _ => none))))))] := hD
  have hP9 := hP.sub (ws' := [(qm, .inr (0, [.ref qp])), (qp, .inl (gP g, 128, .inr (.inr (.inr (.inr (fun _ => none))))))]) [0, 1] rfl
  have hD9 := hD.sub (ws' := [(qm, .inr (0, [.ref qp])), (qp, .inl (gP g, 128, .inr (.inr (.inr (.inr (fun _ => none))))))]) [0, 1] (by decide) rfl
  exact W.vret hx hb hr (fun t ht hW => ⟨⟨qp, rfl, trivial, by rw [ht]; exact hP9, by rw [hAe]; exact hD9⟩, hS.F ht⟩) hS.2.2 d_Mem_init_14
def inM (x : Int32) : Prop := ¬ x < 0 ∧ ¬ nI 32768 ≤ x
theorem inM_nI {x : Nat} (h : x < 32768) : inM (nI x) := ⟨nI_pos (by omega), nI_ge h (by decide)⟩
theorem inM_of {x : Int32} (h : inM x) : ∃ k : Nat, k < 32768 ∧ x = nI k := by
  rcases pk_ix x (n := 32768) (by decide) with q | q | q
  · exact absurd q h.1
  · exact absurd q h.2
  · exact q
set_option maxHeartbeats 4000000 in
set_option maxRecDepth 100000 in
/-- holds(x) -/
theorem c_Mem_holds (l : Launch) (x : Int32) : Met l y_Mem_holds (.code y_Mem_holds b_Mem_holds 1 (some .boolean) :: sdT) ({ frames := 0, cells := 0, slots := 0, locals := 0 }) (fun v _ => v = ([.int x] : List Value).toArray) (vp_Si (fun r => r = sb (inM x))) 0 0 (fun _ => False) := by
  refine Met.ofW (cc := b_Mem_holds) (maxL := 1) (ret := (some .boolean)) (by decide) rfl ?_
  intro p e s m args below meth c s₁ B hml hv
  subst hv
  have hx := B.exec
  have hb := B.bytes
  have hr := B.returns
  have hts := fun (w : Cond) (h : w ∈ sdT) => atoms_spec (ws := (.code y_Mem_holds b_Mem_holds 1 (some .boolean) :: sdT)) B.pre w (List.mem_cons_of_mem _ h)
  have hown : s.vm.findClass "SignDesk$Memory" = some m.cls := findClass_of_methodNamed B.named
  have hlocks := B.notSynchronized
  have hl := lv_entry ([.int x]) (n := 1) (Nat.le_of_ble_eq_true rfl)
  rw [lg_entry_eq]
  generalize (lg_sl ([.int x]) ++ List.replicate (1 - (lg_sl ([.int x])).length) Slot.unset).toArray = ls at hl ⊢
  have hl : lv_has ls 1 [(0, .int x)] := hl
  refine lv_iload_n hx hb d_Mem_holds_0 rfl (lv_at hl 0 rfl) ?_
  refine lv_if_lt (tgt := 14) hx hb d_Mem_holds_1 (by decide) (fun c1 => ?_) (fun c1 => ?_)
  · refine lv_iconst (v := (nI 0)) hx hb d_Mem_holds_14 (by decide) ?_
    exact W.zret (v := (nI 0)) hx hb hr (by first | rfl | decide | exact sb_nar) (fun t ht hW => ⟨_, rfl, (sb_f (fun q => q.1 c1)).symm, ht⟩) (fun _ h => by cases h) d_Mem_holds_15
  · refine lv_iload_n hx hb d_Mem_holds_4 rfl (lv_at hl 0 rfl) ?_
    refine lv_ldc (v := nI 32768) hx hb hown (hts _ k_423) d_Mem_holds_5 ?_
    refine lv_icmp_ge (tgt := 14) hx hb d_Mem_holds_7 (by decide) (fun c2 => ?_) (fun c2 => ?_)
    · refine lv_iconst (v := (nI 0)) hx hb d_Mem_holds_14 (by decide) ?_
      exact W.zret (v := (nI 0)) hx hb hr (by first | rfl | decide | exact sb_nar) (fun t ht hW => ⟨_, rfl, (sb_f (fun q => q.2 c2)).symm, ht⟩) (fun _ h => by cases h) d_Mem_holds_15
    · refine lv_iconst (v := (nI 1)) hx hb d_Mem_holds_10 (by decide) ?_
      refine lv_goto (tgt := 15) hx hb d_Mem_holds_11 (by decide) ?_
      exact W.zret (v := (nI 1)) hx hb hr (by first | rfl | decide | exact sb_nar) (fun t ht hW => ⟨_, rfl, (sb_t ⟨c1, c2⟩).symm, ht⟩) (fun _ h => by cases h) d_Mem_holds_15
set_option maxHeartbeats 4000000 in
set_option maxRecDepth 100000 in
/-- wordAt(x) -/
theorem c_Mem_wordAt (l : Launch) (g : sdG) (qm qp : Nat) (pf : Nat → Option Nat) (L : List Nat) (fE : Nat → va_E) (M : Nat → Int32) (pg : Nat → Bool) (hM : memOK g pf L fE M pg) (x : Nat) (hx9 : x < 32768) : Met l y_Mem_wordAt (.code y_Mem_wordAt b_Mem_wordAt 3 (some .int) :: sdT) ({ frames := 1, cells := 0, slots := 0, locals := 20 }) (va_Pc [.ref qm, .int (nI x)] (sdR g ([(qm, .inr (0, [.ref qp])), (qp, .inl (gP g, 128, .inr (.inr (.inr (.inr pf)))))] ++ va_pl L fE))) (vp_Si (fun r => r = M x)) 0 0 (fun _ => False) := by
  refine Met.ofW (cc := b_Mem_wordAt) (maxL := 3) (ret := (some .int)) (by decide) rfl ?_
  intro p ev s m args below meth c s₁ B hml hv
  obtain ⟨rfl, hP, hK, hE⟩ := hv
  have hx := B.exec
  have hb := B.bytes
  have hr := B.returns
  have hts := fun (w : Cond) (h : w ∈ sdT) => atoms_spec (ws := (.code y_Mem_wordAt b_Mem_wordAt 3 (some .int) :: sdT)) B.pre w (List.mem_cons_of_mem _ h)
  have hown : s.vm.findClass "SignDesk$Memory" = some m.cls := findClass_of_methodNamed B.named
  have hlocks := B.notSynchronized
  have hF : ∀ a : Nat, a < s.heap.size → ¬ sdA g a → s.heap[a]? = s.heap[a]? := fun _ _ _ => rfl
  have hP : sdP g ([(qm, .inr (0, [.ref qp])), (qp, .inl (gP g, 128, .inr (.inr (.inr (.inr pf)))))] ++ va_pl L fE) s.heap := hP
  have hl := lv_entry ([.ref qm, .int (nI x)]) (n := 3) (Nat.le_of_ble_eq_true rfl)
  rw [lg_entry_eq]
  generalize (lg_sl ([.ref qm, .int (nI x)]) ++ List.replicate (3 - (lg_sl ([.ref qm, .int (nI x)])).length) Slot.unset).toArray = ls at hl ⊢
  have hl : lv_has ls 3 [(0, .ref qm), (1, .int (nI x))] := hl
  refine lv_iload_n hx hb d_Mem_wordAt_0 rfl (lv_at hl 1 rfl) ?_
  refine sd_ri (va_runS (As := [.int (nI x)]) (rest := []) ⟨hx, hb, hml, hown, hts⟩ (c_Mem_holds l (nI x)) (va_cwS 1 hts (sd_gS k_420 k_421 k_29 k_422) rfl rfl rfl (by decide +kernel) ⟨Nat.le_of_ble_eq_true rfl, Nat.le_of_ble_eq_true rfl⟩) preEq rfl rfl hl.1 rfl (lv_room (Nat.le_of_ble_eq_true rfl)) d_Mem_wordAt_1 ⟨Nat.zero_le _, Nat.zero_le _⟩) (fun r1 er1 => ?_)
  subst er1
  refine lv_if_ne (tgt := 9) hx hb d_Mem_wordAt_4 (by decide) (fun c2 => ?_) (fun c2 => ?_)
  · have c2 := sb_ne0.mp c2
    refine lv_aload_n hx hb d_Mem_wordAt_9 rfl (lv_at hl 0 rfl) ?_
    refine va_get (D := g.1) (ci := 0) (v := .ref qp) (C := "SignDesk$Memory") (T := F_Mem) (N := 1) hx hb hts in_Mem hown hK hP 0 rfl rfl 0 (by decide) (hts _ k_128) (fun _ h9 => h9) rfl d_Mem_wordAt_10 ?_
    refine lv_iload_n hx hb d_Mem_wordAt_13 rfl (lv_at hl 1 rfl) ?_
    refine lv_sipush (v := (nI 256)) hx hb d_Mem_wordAt_14 (by decide) ?_
    refine lv_idiv hx hb d_Mem_wordAt_17 (by decide) ?_
    refine sd_topi (y := nI (x / 256)) (pk_div (by omega) (by decide) (by decide)) ?_
    refine va_aldq hx hb hK hP 1 2 rfl rfl (i := nI (x / 256)) (vp_in_nI (by omega) (by decide)) d_Mem_wordAt_18 ?_
    rw [nI_clamp (by omega)]
    rcases hM.1 (x / 256) (by omega) with ⟨hp1, hp2, hp3⟩ | ⟨hp1, a9, b9, h9, hp2, ha9, hb9, hfa, hfb, hh9⟩
    · rw [hp2]
      refine lv_astore_nN (lv' := [(2, .null), (0, .ref qm), (1, .int (nI x))]) hx hb d_Mem_wordAt_19 rfl hl (by decide) rfl (fun ls hl => ?_)
      refine lv_aload_nN hx hb d_Mem_wordAt_20 rfl (lv_at hl 0 rfl) ?_
      refine lv_ifnonnullN hx hb d_Mem_wordAt_21 ?_
      refine lv_iconst (v := (nI 0)) hx hb d_Mem_wordAt_24 (by decide) ?_
      refine lv_goto (tgt := 38) hx hb d_Mem_wordAt_25 (by decide) ?_
      exact W.iret (v := (nI 0)) hx hb hr  (fun t ht hW => ⟨_, rfl, by
          have e1 := hp3 (x % 256) (by omega)
          rw [Nat.div_add_mod] at e1; exact e1.symm, ht⟩) (fun _ h => by cases h) d_Mem_wordAt_38
    · rw [hp2]
      refine lv_astore_n (lv' := [(2, .ref a9), (0, .ref qm), (1, .int (nI x))]) hx hb d_Mem_wordAt_19 rfl hl (by decide) rfl (fun ls hl => ?_)
      refine lv_aload_n hx hb d_Mem_wordAt_20 rfl (lv_at hl 0 rfl) ?_
      refine lv_ifnonnull (tgt := 28) hx hb d_Mem_wordAt_21 (by decide) ?_
      refine lv_aload_n hx hb d_Mem_wordAt_28 rfl (lv_at hl 0 rfl) ?_
      obtain ⟨ka, hka⟩ := va_pl_get (X := [(qm, .inr (0, [.ref qp])), (qp, .inl (gP g, 128, .inr (.inr (.inr (.inr pf)))))]) (f := fE) ha9
      rw [hfa] at hka
      obtain ⟨kb, hkb⟩ := va_pl_get (X := [(qm, .inr (0, [.ref qp])), (qp, .inl (gP g, 128, .inr (.inr (.inr (.inr pf)))))]) (f := fE) hb9
      rw [hfb] at hkb
      refine va_getN (C := "SignDesk$Page") (T := F_Pag) (N := 1) (ci := 1) hx hb hts in_Pag hown hK hP ka hka rfl 0 (by decide) (va_Nw.use rfl hE.2.2.2.2.2.2.2.1.2.2.2.2) (fun _ h9 => h9) (v := .ref b9) rfl d_Mem_wordAt_29 ?_
      refine lv_iload_n hx hb d_Mem_wordAt_32 rfl (lv_at hl 2 rfl) ?_
      refine lv_sipush (v := (nI 256)) hx hb d_Mem_wordAt_33 (by decide) ?_
      refine lv_irem hx hb d_Mem_wordAt_36 (by decide) ?_
      refine sd_topi (y := nI (x % 256)) (pk_rem (by omega) (by decide) (by decide)) ?_
      refine va_iald hx hb hK hP kb 1 hkb rfl (i := nI (x % 256)) (vp_in_nI (by omega) (by decide)) d_Mem_wordAt_37 ?_
      exact W.iret (v := (h9 (nI (x % 256)).toNatClampNeg)) hx hb hr  (fun t ht hW => ⟨_, rfl, by
          rw [nI_clamp (by omega), hh9 _ (by omega), Nat.div_add_mod], ht⟩) (fun _ h => by cases h) d_Mem_wordAt_38
  · have c2 := sb_eq0.mp c2
    exact absurd (inM_nI hx9) c2
theorem memSet {g : sdG} {pf : Nat → Option Nat} {L : List Nat} {fE : Nat → va_E} {M : Nat → Int32} {pg : Nat → Bool} {x a b : Nat} {h : Nat → Int32} {v : Int32} (hM : memOK g pf L fE M pg) (hx : x < 32768) (hpg : pg (x / 256) = true) (hp : pf (x / 256) = some a) (hfa : fE a = .inr (1, [.ref b])) (hfb : fE b = .inl (gI g, 256, .inl h)) (hh : ∀ j, j < 256 → h j = M (256 * (x / 256) + j)) : memOK g pf L (va_up fE b (.inl (gI g, 256, .inl (upd h (x % 256) v)))) (upd M x v) (va_up pg (x / 256) true) := by
  have e : va_up pg (x / 256) true = pg := by
    funext k
    by_cases q : k = x / 256
    · subst q; rw [va_up_self, hpg]
    · rw [va_up_ne _ _ q]
  rw [e]
  refine memOK_set hM (by omega) hp hfa hfb (fun j hj => ?_) (fun y hy => pk_un (fun q => hy (by rw [q])))
  by_cases q : j = x % 256
  · subst q; rw [pk_us, Nat.div_add_mod, pk_us]
  · rw [pk_un q, pk_un (by omega)]; exact hh j hj
theorem memNew {g : sdG} {pf : Nat → Option Nat} {L : List Nat} {fE : Nat → va_E} {M : Nat → Int32} {pg : Nat → Bool} {x a b : Nat} {v : Int32} (hM : memOK g pf L fE M pg) (hx : x < 32768) (hp : pf (x / 256) = none) (hz : ∀ j, j < 256 → M (256 * (x / 256) + j) = 0) (n1 : a ∉ L) (n2 : b ∉ L) (n3 : a ≠ b) : memOK g (va_up pf (x / 256) (some a)) (L ++ [a] ++ [b]) (va_up (va_up fE a (.inr (1, [.ref b]))) b (.inl (gI g, 256, .inl (upd (fun _ => 0) (x % 256) v)))) (upd M x v) (va_up pg (x / 256) true) := by
  refine memOK_new hM (by omega) hp n1 n2 n3 (fun j hj => ?_) (fun y hy => pk_un (fun q => hy (by rw [q])))
  by_cases q : j = x % 256
  · subst q; rw [pk_us, Nat.div_add_mod, pk_us]
  · rw [pk_un q, pk_un (by omega)]; exact (hz j hj).symm
set_option maxHeartbeats 4000000 in
set_option maxRecDepth 100000 in
/-- write(x, v) -/
theorem c_Mem_write (l : Launch) (g : sdG) (qm qp : Nat) (pf : Nat → Option Nat) (L : List Nat) (fE : Nat → va_E) (M : Nat → Int32) (pg : Nat → Bool) (hM : memOK g pf L fE M pg) (x : Nat) (hx9 : x < 32768) (v : Int32) (mc ms : Nat) (hmc : pg (x / 256) = false → 2 ≤ mc ∧ 257 ≤ ms) (sz : Nat) : Met l y_Mem_write (.code y_Mem_write b_Mem_write 5 none :: sdT) ({ frames := 2, cells := mc, slots := ms, locals := 40 }) (va_Pc [.ref qm, .int (nI x), .int v] (sdU g ([(qm, .inr (0, [.ref qp])), (qp, .inl (gP g, 128, .inr (.inr (.inr (.inr pf)))))] ++ va_pl L fE) sz)) (va_Qv (S := (Nat → Option Nat) × List Nat × (Nat → va_E)) (fun u => memOK g u.1 u.2.1 u.2.2 (upd M x (v.toInt16.toInt32)) (va_up pg (x / 256) true)) (fun u t => sdB g ([(qm, .inr (0, [.ref qp])), (qp, .inl (gP g, 128, .inr (.inr (.inr (.inr pf)))))] ++ va_pl L fE) sz ((fun u => ([(qm, .inr (0, [.ref qp])), (qp, .inl (gP g, 128, .inr (.inr (.inr (.inr u.1)))))] ++ va_pl u.2.1 u.2.2) : (Nat → Option Nat) × List Nat × (Nat → va_E) → va_W) u) t) (va_A ([(qm, .inr (0, [.ref qp])), (qp, .inl (gP g, 128, .inr (.inr (.inr (.inr pf)))))] ++ va_pl L fE) sz)) mc ms (va_A ([(qm, .inr (0, [.ref qp])), (qp, .inl (gP g, 128, .inr (.inr (.inr (.inr pf)))))] ++ va_pl L fE) sz) := by
  refine Met.ofW (cc := b_Mem_write) (maxL := 5) (ret := none) (by decide) rfl ?_
  intro p ev s m args below meth c s₁ B hml hv
  obtain ⟨rfl, hsz, hP, hK, hE, hD0, hs0⟩ := hv
  have hx := B.exec
  have hb := B.bytes
  have hr := B.returns
  have hts := fun (w : Cond) (h : w ∈ sdT) => atoms_spec (ws := (.code y_Mem_write b_Mem_write 5 none :: sdT)) B.pre w (List.mem_cons_of_mem _ h)
  have hown : s.vm.findClass "SignDesk$Memory" = some m.cls := findClass_of_methodNamed B.named
  have hlocks := B.notSynchronized
  subst hsz
  have hD := hD0.self (sz := s.heap.size)
  have hA0 : ∀ q : Nat, va_A ([(qm, .inr (0, [.ref qp])), (qp, .inl (gP g, 128, .inr (.inr (.inr (.inr pf)))))] ++ va_pl L fE) s.heap.size q → gS g ≤ q := fun q h => h.elim (fun ⟨k, e, hk⟩ => hD0.2 k _ hk) (fun h => Nat.le_trans hs0 h)
  have hA : ∀ q : Nat, s.heap.size ≤ q → va_A ([(qm, .inr (0, [.ref qp])), (qp, .inl (gP g, 128, .inr (.inr (.inr (.inr pf)))))] ++ va_pl L fE) s.heap.size q := fun q h => Or.inr h
  generalize hAe : va_A ([(qm, .inr (0, [.ref qp])), (qp, .inl (gP g, 128, .inr (.inr (.inr (.inr pf)))))] ++ va_pl L fE) s.heap.size = A at hD hA0 hA ⊢
  have hS : va_S A s.heap s.heap [] := va_S.rf
  have hP : sdP g ([(qm, .inr (0, [.ref qp])), (qp, .inl (gP g, 128, .inr (.inr (.inr (.inr pf)))))] ++ va_pl L fE) s.heap := hP
  have hl := lv_entry ([.ref qm, .int (nI x), .int v]) (n := 5) (Nat.le_of_ble_eq_true rfl)
  rw [lg_entry_eq]
  generalize (lg_sl ([.ref qm, .int (nI x), .int v]) ++ List.replicate (5 - (lg_sl ([.ref qm, .int (nI x), .int v])).length) Slot.unset).toArray = ls at hl ⊢
  have hl : lv_has ls 5 [(0, .ref qm), (1, .int (nI x)), (2, .int v)] := hl
  refine lv_iload_n hx hb d_Mem_write_0 rfl (lv_at hl 1 rfl) ?_
  refine sd_ri (va_runS (As := [.int (nI x)]) (rest := []) ⟨hx, hb, hml, hown, hts⟩ (c_Mem_holds l (nI x)) (va_cwS 1 hts (sd_gS k_420 k_421 k_29 k_422) rfl rfl rfl (by decide +kernel) ⟨Nat.le_of_ble_eq_true rfl, Nat.le_of_ble_eq_true rfl⟩) preEq rfl rfl hl.1 rfl (lv_room (Nat.le_of_ble_eq_true rfl)) d_Mem_write_1 ⟨Nat.zero_le _, Nat.zero_le _⟩) (fun r1 er1 => ?_)
  subst er1
  refine lv_if_ne (tgt := 8) hx hb d_Mem_write_4 (by decide) (fun c2 => ?_) (fun c2 => ?_)
  · have c2 := sb_ne0.mp c2
    refine lv_iload_n hx hb d_Mem_write_8 rfl (lv_at hl 1 rfl) ?_
    refine lv_sipush (v := (nI 256)) hx hb d_Mem_write_9 (by decide) ?_
    refine lv_idiv hx hb d_Mem_write_12 (by decide) ?_
    refine sd_topi (y := nI (x / 256)) (pk_div (by omega) (by decide) (by decide)) ?_
    refine lv_istore_n (lv' := [(3, .int (nI (x / 256))), (0, .ref qm), (1, .int (nI x)), (2, .int v)]) hx hb d_Mem_write_13 rfl hl (by decide) rfl (fun ls hl => ?_)
    refine lv_aload_n hx hb d_Mem_write_14 rfl (lv_at hl 1 rfl) ?_
    refine va_get (D := g.1) (ci := 0) (v := .ref qp) (C := "SignDesk$Memory") (T := F_Mem) (N := 1) hx hb hts in_Mem hown hK hP 0 rfl rfl 0 (by decide) (hts _ k_128) (fun _ h9 => h9) rfl d_Mem_write_15 ?_
    refine lv_iload_n hx hb d_Mem_write_18 rfl (lv_at hl 0 rfl) ?_
    refine va_aldq hx hb hK hP 1 2 rfl rfl (i := nI (x / 256)) (vp_in_nI (by omega) (by decide)) d_Mem_write_19 ?_
    rw [nI_clamp (by omega)]
    rcases hM.1 (x / 256) (by omega) with ⟨hp1, hp2, hp3⟩ | ⟨hp1, a9, b9, h9, hp2, ha9, hb9, hfa, hfb, hh9⟩
    · rw [hp2]
      refine lv_astoreN (lv' := [(4, .null), (3, .int (nI (x / 256))), (0, .ref qm), (1, .int (nI x)), (2, .int v)]) hx hb d_Mem_write_20 hl (by decide) rfl (fun ls hl => ?_)
      refine lv_aloadN hx hb d_Mem_write_22 (lv_at hl 0 rfl) ?_
      have hroom := hmc hp1
      refine lv_ifnonnullN hx hb d_Mem_write_24 ?_
      refine va_new (ci := 1) (fs := [.null]) (C := "SignDesk$Page") (T := F_Pag) (N := 1) hx hb hts in_Pag t_Pag t_Pag_ok hown (hts _ k_126) (hts _ k_431) (hts _ k_36) hK hP hD hS hA rfl (fun j hj => by rcases (show j = 0 by omega) with rfl <;> rfl) (show 0 + 1 ≤ mc by omega) (show 0 + 1 ≤ ms by omega) d_Mem_write_27 (fun qn H hP hD hS => ?_)
      have hP := hP.swap
      have hD := hD.swap
      have hP : sdP g ([(qm, .inr (0, [.ref qp])), (qp, .inl (gP g, 128, .inr (.inr (.inr (.inr pf))))), (qn, .inr (1, [.null]))] ++ va_pl L fE) H := hP
      have hD : va_D A ([(qm, .inr (0, [.ref qp])), (qp, .inl (gP g, 128, .inr (.inr (.inr (.inr pf))))), (qn, .inr (1, [.null]))] ++ va_pl L fE) := hD
      refine lv_dup hx hb d_Mem_write_30 rfl ?_
      have hPc := hP.sub (ws' := [(qn, .inr (1, [.null]))]) [2] rfl
      have hDc := hD.sub (ws' := [(qn, .inr (1, [.null]))]) [2] (by decide) rfl
      have hFc := va_free (wc := [(qn, .inr (1, [.null]))]) hD hS hA [2] rfl
      refine sd_cv (va_runIN (host := "SignDesk") (As := []) (rest := [.ref qn]) ⟨hx, hb, hml, hown, hts⟩ (c_Pag_init l g qn H.size) ⟨va_cnB 0 hts (sd_gC k_434) rfl rfl rfl hE.2.2.2.2.2.2.2.1.2.2.2.1 (hts _ k_36) (by decide +kernel) ⟨Nat.le_of_ble_eq_true rfl, Nat.le_of_ble_eq_true rfl⟩, rfl, hts _ k_433⟩ (sd_preSU hK hE hS hA0 hs0 hPc hDc) rfl rfl hl.1 rfl (lv_room (Nat.le_of_ble_eq_true rfl)) d_Mem_write_31 ⟨(show 0 + 1 + 1 ≤ mc by omega), (show 0 + 1 + 256 ≤ ms by omega)⟩) hS hFc (fun qb H1 locs hw hP1 hD1 hk1 hS => ?_)
      obtain ⟨hP, hD⟩ := va_joinQ (wr := [(qm, .inr (0, [.ref qp])), (qp, .inl (gP g, 128, .inr (.inr (.inr (.inr pf)))))]) (w1 := [(qn, .inr (1, [.ref qb])), (qb, .inl (gI g, 256, .inl (fun _ => 0)))]) hP hD [2] [0, 1] rfl rfl (by decide) (by decide) hk1 hFc hP1 hD1
      clear hPc hDc hFc hk1 hP1 hD1
      generalize H1 = H at hP hS ⊢
      have hP : sdP g ([(qm, .inr (0, [.ref qp])), (qp, .inl (gP g, 128, .inr (.inr (.inr (.inr pf))))), (qn, .inr (1, [.ref qb])), (qb, .inl (gI g, 256, .inl (fun _ => 0)))] ++ va_pl L fE) H := hP
      have hD : va_D A ([(qm, .inr (0, [.ref qp])), (qp, .inl (gP g, 128, .inr (.inr (.inr (.inr pf))))), (qn, .inr (1, [.ref qb])), (qb, .inl (gI g, 256, .inl (fun _ => 0)))] ++ va_pl L fE) := hD
      refine lv_astore (lv' := [(4, .ref qn), (3, .int (nI (x / 256))), (0, .ref qm), (1, .int (nI x)), (2, .int v)]) hx hb d_Mem_write_34 hl (by decide) rfl (fun ls hl => ?_)
      refine lv_aload_n hx hb d_Mem_write_36 rfl (lv_at hl 2 rfl) ?_
      refine va_get (D := g.1) (ci := 0) (v := .ref qp) (C := "SignDesk$Memory") (T := F_Mem) (N := 1) hx hb hts in_Mem hown hK hP 0 rfl rfl 0 (by decide) (hts _ k_128) (fun _ h9 => h9) rfl d_Mem_write_37 ?_
      refine lv_iload_n hx hb d_Mem_write_40 rfl (lv_at hl 1 rfl) ?_
      refine lv_aload hx hb d_Mem_write_41 (lv_at hl 0 rfl) ?_
      refine va_astq hx hb hK hP hD hS 1 2 2 1 rfl rfl rfl rfl (i := nI (x / 256)) (vp_in_nI (by omega) (by decide)) d_Mem_write_43 (fun H locs hP hD hS => ?_)
      rw [nI_clamp (by omega)] at hP hD
      have hP : sdP g ([(qm, .inr (0, [.ref qp])), (qp, .inl (gP g, 128, .inr (.inr (.inr (.inr (va_up pf (x / 256) (some qn))))))), (qn, .inr (1, [.ref qb])), (qb, .inl (gI g, 256, .inl (fun _ => 0)))] ++ va_pl L fE) H := hP
      have hD : va_D A ([(qm, .inr (0, [.ref qp])), (qp, .inl (gP g, 128, .inr (.inr (.inr (.inr (va_up pf (x / 256) (some qn))))))), (qn, .inr (1, [.ref qb])), (qb, .inl (gI g, 256, .inl (fun _ => 0)))] ++ va_pl L fE) := hD
      refine lv_aload hx hb d_Mem_write_44 (lv_at hl 0 rfl) ?_
      refine va_getN (C := "SignDesk$Page") (T := F_Pag) (N := 1) (ci := 1) hx hb hts in_Pag hown hK hP 2 rfl rfl 0 (by decide) (va_Nw.use rfl hE.2.2.2.2.2.2.2.1.2.2.2.2) (fun _ h9 => h9) (v := .ref qb) rfl d_Mem_write_46 ?_
      refine lv_iload_n hx hb d_Mem_write_49 rfl (lv_at hl 3 rfl) ?_
      refine lv_sipush (v := (nI 256)) hx hb d_Mem_write_50 (by decide) ?_
      refine lv_irem hx hb d_Mem_write_53 (by decide) ?_
      refine sd_topi (y := nI (x % 256)) (pk_rem (by omega) (by decide) (by decide)) ?_
      refine lv_iload_n hx hb d_Mem_write_54 rfl (lv_at hl 4 rfl) ?_
      refine lv_i2s hx hb d_Mem_write_55 rfl ?_
      refine va_iast hx hb hK hP hD hS 3 1 rfl rfl (i := (nI (x % 256))) (x := ((v).toInt16.toInt32)) (vp_in_nI (by omega) (by decide)) d_Mem_write_56 (fun H locs hP hD hS => ?_)
      have hP : sdP g ([(qm, .inr (0, [.ref qp])), (qp, .inl (gP g, 128, .inr (.inr (.inr (.inr (va_up pf (x / 256) (some qn))))))), (qn, .inr (1, [.ref qb])), (qb, .inl (gI g, 256, .inl (upd (fun _ => 0) ((nI (x % 256))).toNatClampNeg ((v).toInt16.toInt32))))] ++ va_pl L fE) H := hP
      have hD : va_D A ([(qm, .inr (0, [.ref qp])), (qp, .inl (gP g, 128, .inr (.inr (.inr (.inr (va_up pf (x / 256) (some qn))))))), (qn, .inr (1, [.ref qb])), (qb, .inl (gI g, 256, .inl (upd (fun _ => 0) ((nI (x % 256))).toNatClampNeg ((v).toInt16.toInt32))))] ++ va_pl L fE) := hD
      have eF : (upd (fun _ => 0) ((nI (x % 256))).toNatClampNeg ((v).toInt16.toInt32)) = (upd (fun _ => 0) (x % 256) (v.toInt16.toInt32)) := by rw [nI_clamp (by omega)]
      rw [eF] at hP hD
      have hP : sdP g (([(qm, .inr (0, [.ref qp])), (qp, .inl (gP g, 128, .inr (.inr (.inr (.inr (va_up pf (x / 256) (some qn)))))))] ++ [(qn, .inr (1, [.ref qb])), (qb, .inl (gI g, 256, .inl (upd (fun _ => 0) (x % 256) (v.toInt16.toInt32))))]) ++ va_pl L fE) H := hP
      have hD : va_D A (([(qm, .inr (0, [.ref qp])), (qp, .inl (gP g, 128, .inr (.inr (.inr (.inr (va_up pf (x / 256) (some qn)))))))] ++ [(qn, .inr (1, [.ref qb])), (qb, .inl (gI g, 256, .inl (upd (fun _ => 0) (x % 256) (v.toInt16.toInt32))))]) ++ va_pl L fE) := hD
      have hP := hP.swap
      have hD := hD.swap
      obtain ⟨n1, n2, n3, e9⟩ := sd_pool2 hD
      rw [e9] at hP hD
      have hP : sdP g ([(qm, .inr (0, [.ref qp])), (qp, .inl (gP g, 128, .inr (.inr (.inr (.inr (va_up pf (x / 256) (some qn)))))))] ++ va_pl (L ++ [qn] ++ [qb]) (va_up (va_up fE qn (.inr (1, [.ref qb]))) qb (.inl (gI g, 256, .inl (upd (fun _ => 0) (x % 256) (v.toInt16.toInt32)))))) H := hP
      have hD : va_D A ([(qm, .inr (0, [.ref qp])), (qp, .inl (gP g, 128, .inr (.inr (.inr (.inr (va_up pf (x / 256) (some qn)))))))] ++ va_pl (L ++ [qn] ++ [qb]) (va_up (va_up fE qn (.inr (1, [.ref qb]))) qb (.inl (gI g, 256, .inl (upd (fun _ => 0) (x % 256) (v.toInt16.toInt32)))))) := hD
      have hP9 := hP.part (cx := [(qm, .inr (0, [.ref qp])), (qp, .inl (gP g, 128, .inr (.inr (.inr (.inr (va_up pf (x / 256) (some qn)))))))]) [0, 1] rfl
      have hD9 := hD.part (cx := [(qm, .inr (0, [.ref qp])), (qp, .inl (gP g, 128, .inr (.inr (.inr (.inr (va_up pf (x / 256) (some qn)))))))]) [0, 1] (by decide) rfl
      refine W.widen (k := mc) (n := ms) (by omega) (by omega) ?_
      exact W.vret hx hb hr (fun t ht hW => ⟨⟨(va_up pf (x / 256) (some qn), L ++ [qn] ++ [qb], va_up (va_up fE qn (.inr (1, [.ref qb]))) qb (.inl (gI g, 256, .inl (upd (fun _ => 0) (x % 256) (v.toInt16.toInt32))))), rfl, memNew hM hx9 hp2 hp3 n1 n2 n3, by rw [ht]; exact hP9, by rw [hAe]; exact hD9⟩, hS.F ht⟩) hS.2.2 d_Mem_write_57
    · rw [hp2]
      refine lv_astore (lv' := [(4, .ref a9), (3, .int (nI (x / 256))), (0, .ref qm), (1, .int (nI x)), (2, .int v)]) hx hb d_Mem_write_20 hl (by decide) rfl (fun ls hl => ?_)
      refine lv_aload hx hb d_Mem_write_22 (lv_at hl 0 rfl) ?_
      refine lv_ifnonnull (tgt := 44) hx hb d_Mem_write_24 (by decide) ?_
      refine lv_aload hx hb d_Mem_write_44 (lv_at hl 0 rfl) ?_
      obtain ⟨ka, hka⟩ := va_pl_get (X := [(qm, .inr (0, [.ref qp])), (qp, .inl (gP g, 128, .inr (.inr (.inr (.inr pf)))))]) (f := fE) ha9
      rw [hfa] at hka
      obtain ⟨kb, hkb⟩ := va_pl_get (X := [(qm, .inr (0, [.ref qp])), (qp, .inl (gP g, 128, .inr (.inr (.inr (.inr pf)))))]) (f := fE) hb9
      have hks := fun e9 => va_pl_set (e := e9) hD hb9 hkb
      rw [hfb] at hkb
      refine va_getN (C := "SignDesk$Page") (T := F_Pag) (N := 1) (ci := 1) hx hb hts in_Pag hown hK hP ka hka rfl 0 (by decide) (va_Nw.use rfl hE.2.2.2.2.2.2.2.1.2.2.2.2) (fun _ h9 => h9) (v := .ref b9) rfl d_Mem_write_46 ?_
      refine lv_iload_n hx hb d_Mem_write_49 rfl (lv_at hl 3 rfl) ?_
      refine lv_sipush (v := (nI 256)) hx hb d_Mem_write_50 (by decide) ?_
      refine lv_irem hx hb d_Mem_write_53 (by decide) ?_
      refine sd_topi (y := nI (x % 256)) (pk_rem (by omega) (by decide) (by decide)) ?_
      refine lv_iload_n hx hb d_Mem_write_54 rfl (lv_at hl 4 rfl) ?_
      refine lv_i2s hx hb d_Mem_write_55 rfl ?_
      refine va_iast hx hb hK hP hD hS kb 1 hkb rfl (i := nI (x % 256)) (x := v.toInt16.toInt32) (vp_in_nI (by omega) (by decide)) d_Mem_write_56 (fun H locs hP hD hS => ?_)
      rw [nI_clamp (by omega), hks] at hP hD
      have hP : sdP g ([(qm, .inr (0, [.ref qp])), (qp, .inl (gP g, 128, .inr (.inr (.inr (.inr pf)))))] ++ va_pl L (va_up fE b9 (.inl (gI g, 256, .inl (upd h9 (x % 256) (v.toInt16.toInt32)))))) H := hP
      have hD : va_D A ([(qm, .inr (0, [.ref qp])), (qp, .inl (gP g, 128, .inr (.inr (.inr (.inr pf)))))] ++ va_pl L (va_up fE b9 (.inl (gI g, 256, .inl (upd h9 (x % 256) (v.toInt16.toInt32)))))) := hD
      have hP9 := hP.part (cx := [(qm, .inr (0, [.ref qp])), (qp, .inl (gP g, 128, .inr (.inr (.inr (.inr pf)))))]) [0, 1] rfl
      have hD9 := hD.part (cx := [(qm, .inr (0, [.ref qp])), (qp, .inl (gP g, 128, .inr (.inr (.inr (.inr pf)))))]) [0, 1] (by decide) rfl
      refine W.widen (k := mc) (n := ms) (Nat.zero_le _) (Nat.zero_le _) ?_
      exact W.vret hx hb hr (fun t ht hW => ⟨⟨(pf, L, va_up fE b9 (.inl (gI g, 256, .inl (upd h9 (x % 256) (v.toInt16.toInt32))))), rfl, memSet hM hx9 hp1 hp2 hfa hfb hh9, by rw [ht]; exact hP9, by rw [hAe]; exact hD9⟩, hS.F ht⟩) hS.2.2 d_Mem_write_57
  · have c2 := sb_eq0.mp c2
    exact absurd (inM_nI hx9) c2
