set_option maxHeartbeats 4000000 in
set_option maxRecDepth 100000 in
/-- forget() -/
theorem c_Rdr_forget (l : Launch) (g : sdG) (q3 q1 q2 q7 q6 q8 q9 q10 : Nat) (fp px cx : Int32) (pw s1 s2 s3 : Nat → Int32) (sz : Nat) : Met l y_Rdr_forget (.code y_Rdr_forget b_Rdr_forget 1 none :: sdT) ({ frames := 1, cells := 0, slots := 0, locals := 20 }) (va_Pc [.ref q3] (sdU g [(q3, .inr (4, [.ref q1, .ref q2, .ref q7, .int fp])), (q2, .inr (3, [.ref q6, .int px])), (q6, .inl (gI g, 600, .inl pw)), (q7, .inr (5, [.ref q1, .ref q8, .ref q9, .ref q10, .int cx])), (q8, .inl (gI g, 40, .inl s1)), (q9, .inl (gI g, 40, .inl s2)), (q10, .inl (gI g, 40, .inl s3))] sz)) (va_Qv (S := Unit) (fun _ => True) (fun u t => sdB g [(q3, .inr (4, [.ref q1, .ref q2, .ref q7, .int fp])), (q2, .inr (3, [.ref q6, .int px])), (q6, .inl (gI g, 600, .inl pw)), (q7, .inr (5, [.ref q1, .ref q8, .ref q9, .ref q10, .int cx])), (q8, .inl (gI g, 40, .inl s1)), (q9, .inl (gI g, 40, .inl s2)), (q10, .inl (gI g, 40, .inl s3))] sz ((fun _ => [(q3, .inr (4, [.ref q1, .ref q2, .ref q7, .int fp])), (q2, .inr (3, [.ref q6, .int (nI 0)])), (q6, .inl (gI g, 600, .inl pw)), (q7, .inr (5, [.ref q1, .ref q8, .ref q9, .ref q10, .int (nI 0)])), (q8, .inl (gI g, 40, .inl s1)), (q9, .inl (gI g, 40, .inl s2)), (q10, .inl (gI g, 40, .inl s3))] : Unit → va_W) u) t) (va_A [(q3, .inr (4, [.ref q1, .ref q2, .ref q7, .int fp])), (q2, .inr (3, [.ref q6, .int px])), (q6, .inl (gI g, 600, .inl pw)), (q7, .inr (5, [.ref q1, .ref q8, .ref q9, .ref q10, .int cx])), (q8, .inl (gI g, 40, .inl s1)), (q9, .inl (gI g, 40, .inl s2)), (q10, .inl (gI g, 40, .inl s3))] sz)) 0 0 (va_A [(q3, .inr (4, [.ref q1, .ref q2, .ref q7, .int fp])), (q2, .inr (3, [.ref q6, .int px])), (q6, .inl (gI g, 600, .inl pw)), (q7, .inr (5, [.ref q1, .ref q8, .ref q9, .ref q10, .int cx])), (q8, .inl (gI g, 40, .inl s1)), (q9, .inl (gI g, 40, .inl s2)), (q10, .inl (gI g, 40, .inl s3))] sz) := by
  refine Met.ofW (cc := b_Rdr_forget) (maxL := 1) (ret := none) (by decide) rfl ?_
  intro p ev s m args below meth c s₁ B hml hv
  obtain ⟨rfl, hsz, hP, hK, hE, hD0, hs0⟩ := hv
  have hx := B.exec
  have hb := B.bytes
  have hr := B.returns
  have hts := fun (w : Cond) (h : w ∈ sdT) => atoms_spec (ws := (.code y_Rdr_forget b_Rdr_forget 1 none :: sdT)) B.pre w (List.mem_cons_of_mem _ h)
  have hown : s.vm.findClass "SignDesk$Reader" = some m.cls := findClass_of_methodNamed B.named
  have hlocks := B.notSynchronized
  subst hsz
  have hD := hD0.self (sz := s.heap.size)
  have hA0 : ∀ q : Nat, va_A [(q3, .inr (4, [.ref q1, .ref q2, .ref q7, .int fp])), (q2, .inr (3, [.ref q6, .int px])), (q6, .inl (gI g, 600, .inl pw)), (q7, .inr (5, [.ref q1, .ref q8, .ref q9, .ref q10, .int cx])), (q8, .inl (gI g, 40, .inl s1)), (q9, .inl (gI g, 40, .inl s2)), (q10, .inl (gI g, 40, .inl s3))] s.heap.size q → gS g ≤ q := fun q h => h.elim (fun ⟨k, e, hk⟩ => hD0.2 k _ hk) (fun h => Nat.le_trans hs0 h)
  have hA : ∀ q : Nat, s.heap.size ≤ q → va_A [(q3, .inr (4, [.ref q1, .ref q2, .ref q7, .int fp])), (q2, .inr (3, [.ref q6, .int px])), (q6, .inl (gI g, 600, .inl pw)), (q7, .inr (5, [.ref q1, .ref q8, .ref q9, .ref q10, .int cx])), (q8, .inl (gI g, 40, .inl s1)), (q9, .inl (gI g, 40, .inl s2)), (q10, .inl (gI g, 40, .inl s3))] s.heap.size q := fun q h => Or.inr h
  generalize hAe : va_A [(q3, .inr (4, [.ref q1, .ref q2, .ref q7, .int fp])), (q2, .inr (3, [.ref q6, .int px])), (q6, .inl (gI g, 600, .inl pw)), (q7, .inr (5, [.ref q1, .ref q8, .ref q9, .ref q10, .int cx])), (q8, .inl (gI g, 40, .inl s1)), (q9, .inl (gI g, 40, .inl s2)), (q10, .inl (gI g, 40, .inl s3))] s.heap.size = A at hD hA0 hA ⊢
  have hS : va_S A s.heap s.heap [] := va_S.rf
  have hP : sdP g [(q3, .inr (4, [.ref q1, .ref q2, .ref q7, .int fp])), (q2, .inr (3, [.ref q6, .int px])), (q6, .inl (gI g, 600, .inl pw)), (q7, .inr (5, [.ref q1, .ref q8, .ref q9, .ref q10, .int cx])), (q8, .inl (gI g, 40, .inl s1)), (q9, .inl (gI g, 40, .inl s2)), (q10, .inl (gI g, 40, .inl s3))] s.heap := hP
  have hl := lv_entry ([.ref q3]) (n := 1) (Nat.le_of_ble_eq_true rfl)
  rw [lg_entry_eq]
  generalize (lg_sl ([.ref q3]) ++ List.replicate (1 - (lg_sl ([.ref q3])).length) Slot.unset).toArray = ls at hl ⊢
  have hl : lv_has ls 1 [(0, .ref q3)] := hl
  refine lv_aload_n hx hb d_Rdr_forget_0 rfl (lv_at hl 0 rfl) ?_
  refine va_get (D := g.1) (ci := 4) (v := .ref q2) (C := "SignDesk$Reader") (T := F_Rdr) (N := 4) hx hb hts in_Rdr hown hK hP 0 rfl rfl 1 (by decide) (hts _ k_102) (fun _ h9 => h9) rfl d_Rdr_forget_1 ?_
  have hPc := hP.sub (ws' := [(q2, .inr (3, [.ref q6, .int px])), (q6, .inl (gI g, 600, .inl pw))]) [1, 2] rfl
  have hDc := hD.sub (ws' := [(q2, .inr (3, [.ref q6, .int px])), (q6, .inl (gI g, 600, .inl pw))]) [1, 2] (by decide) rfl
  have hFc := va_free (wc := [(q2, .inr (3, [.ref q6, .int px])), (q6, .inl (gI g, 600, .inl pw))]) hD hS hA [1, 2] rfl
  refine sd_cv (va_runV (As := []) (rest := []) ⟨hx, hb, hml, hown, hts⟩ (c_Prg_clear l g q2 q6 px pw s.heap.size) (cwV 0 hts (sd_gV k_184 k_185 k_186 k_25 k_187) rfl rfl rfl (by decide +kernel) ⟨Nat.le_of_ble_eq_true rfl, Nat.le_of_ble_eq_true rfl⟩) (sd_preVU hK hE hS hA0 hs0 hPc hDc rfl rfl) rfl rfl hl.1 rfl (lv_room (Nat.le_of_ble_eq_true rfl)) d_Rdr_forget_4 ⟨Nat.zero_le _, Nat.zero_le _⟩) hS hFc (fun u H1 locs hw hP1 hD1 hk1 hS => ?_)
  obtain ⟨hP, hD⟩ := va_join (wr := [(q3, .inr (4, [.ref q1, .ref q2, .ref q7, .int fp])), (q7, .inr (5, [.ref q1, .ref q8, .ref q9, .ref q10, .int cx])), (q8, .inl (gI g, 40, .inl s1)), (q9, .inl (gI g, 40, .inl s2)), (q10, .inl (gI g, 40, .inl s3))]) (w1 := [(q2, .inr (3, [.ref q6, .int (nI 0)])), (q6, .inl (gI g, 600, .inl pw))]) hP hD [1, 2] [0, 3, 4, 5, 6] rfl rfl (by decide) (by decide) hk1 hFc hP1 hD1
  clear hPc hDc hFc hk1 hP1 hD1
  generalize H1 = H at hP hS ⊢
  have hP : sdP g [(q3, .inr (4, [.ref q1, .ref q2, .ref q7, .int fp])), (q7, .inr (5, [.ref q1, .ref q8, .ref q9, .ref q10, .int cx])), (q8, .inl (gI g, 40, .inl s1)), (q9, .inl (gI g, 40, .inl s2)), (q10, .inl (gI g, 40, .inl s3)), (q2, .inr (3, [.ref q6, .int (nI 0)])), (q6, .inl (gI g, 600, .inl pw))] H := hP
  have hD : va_D A [(q3, .inr (4, [.ref q1, .ref q2, .ref q7, .int fp])), (q7, .inr (5, [.ref q1, .ref q8, .ref q9, .ref q10, .int cx])), (q8, .inl (gI g, 40, .inl s1)), (q9, .inl (gI g, 40, .inl s2)), (q10, .inl (gI g, 40, .inl s3)), (q2, .inr (3, [.ref q6, .int (nI 0)])), (q6, .inl (gI g, 600, .inl pw))] := hD
  refine lv_aload_n hx hb d_Rdr_forget_7 rfl (lv_at hl 0 rfl) ?_
  refine va_get (D := g.1) (ci := 4) (v := .ref q7) (C := "SignDesk$Reader") (T := F_Rdr) (N := 4) hx hb hts in_Rdr hown hK hP 0 rfl rfl 2 (by decide) (hts _ k_103) (fun _ h9 => h9) rfl d_Rdr_forget_8 ?_
  have hPc := hP.sub (ws' := [(q7, .inr (5, [.ref q1, .ref q8, .ref q9, .ref q10, .int cx])), (q8, .inl (gI g, 40, .inl s1)), (q9, .inl (gI g, 40, .inl s2)), (q10, .inl (gI g, 40, .inl s3))]) [1, 2, 3, 4] rfl
  have hDc := hD.sub (ws' := [(q7, .inr (5, [.ref q1, .ref q8, .ref q9, .ref q10, .int cx])), (q8, .inl (gI g, 40, .inl s1)), (q9, .inl (gI g, 40, .inl s2)), (q10, .inl (gI g, 40, .inl s3))]) [1, 2, 3, 4] (by decide) rfl
  have hFc := va_free (wc := [(q7, .inr (5, [.ref q1, .ref q8, .ref q9, .ref q10, .int cx])), (q8, .inl (gI g, 40, .inl s1)), (q9, .inl (gI g, 40, .inl s2)), (q10, .inl (gI g, 40, .inl s3))]) hD hS hA [1, 2, 3, 4] rfl
  refine sd_cv (va_runV (As := []) (rest := []) ⟨hx, hb, hml, hown, hts⟩ (c_Sym_clear l g q7 q1 q8 q9 q10 cx s1 s2 s3 H.size) (cwV 0 hts (sd_gV k_188 k_189 k_190 k_27 k_191) rfl rfl rfl (by decide +kernel) ⟨Nat.le_of_ble_eq_true rfl, Nat.le_of_ble_eq_true rfl⟩) (sd_preVU hK hE hS hA0 hs0 hPc hDc rfl rfl) rfl rfl hl.1 rfl (lv_room (Nat.le_of_ble_eq_true rfl)) d_Rdr_forget_11 ⟨Nat.zero_le _, Nat.zero_le _⟩) hS hFc (fun u H1 locs hw hP1 hD1 hk1 hS => ?_)
  obtain ⟨hP, hD⟩ := va_join (wr := [(q3, .inr (4, [.ref q1, .ref q2, .ref q7, .int fp])), (q2, .inr (3, [.ref q6, .int (nI 0)])), (q6, .inl (gI g, 600, .inl pw))]) (w1 := [(q7, .inr (5, [.ref q1, .ref q8, .ref q9, .ref q10, .int (nI 0)])), (q8, .inl (gI g, 40, .inl s1)), (q9, .inl (gI g, 40, .inl s2)), (q10, .inl (gI g, 40, .inl s3))]) hP hD [1, 2, 3, 4] [0, 5, 6] rfl rfl (by decide) (by decide) hk1 hFc hP1 hD1
  clear hPc hDc hFc hk1 hP1 hD1
  generalize H1 = H at hP hS ⊢
  have hP : sdP g [(q3, .inr (4, [.ref q1, .ref q2, .ref q7, .int fp])), (q2, .inr (3, [.ref q6, .int (nI 0)])), (q6, .inl (gI g, 600, .inl pw)), (q7, .inr (5, [.ref q1, .ref q8, .ref q9, .ref q10, .int (nI 0)])), (q8, .inl (gI g, 40, .inl s1)), (q9, .inl (gI g, 40, .inl s2)), (q10, .inl (gI g, 40, .inl s3))] H := hP
  have hD : va_D A [(q3, .inr (4, [.ref q1, .ref q2, .ref q7, .int fp])), (q2, .inr (3, [.ref q6, .int (nI 0)])), (q6, .inl (gI g, 600, .inl pw)), (q7, .inr (5, [.ref q1, .ref q8, .ref q9, .ref q10, .int (nI 0)])), (q8, .inl (gI g, 40, .inl s1)), (q9, .inl (gI g, 40, .inl s2)), (q10, .inl (gI g, 40, .inl s3))] := hD
  have hP9 := hP.sub (ws' := [(q3, .inr (4, [.ref q1, .ref q2, .ref q7, .int fp])), (q2, .inr (3, [.ref q6, .int (nI 0)])), (q6, .inl (gI g, 600, .inl pw)), (q7, .inr (5, [.ref q1, .ref q8, .ref q9, .ref q10, .int (nI 0)])), (q8, .inl (gI g, 40, .inl s1)), (q9, .inl (gI g, 40, .inl s2)), (q10, .inl (gI g, 40, .inl s3))]) [0, 1, 2, 3, 4, 5, 6] rfl
  have hD9 := hD.sub (ws' := [(q3, .inr (4, [.ref q1, .ref q2, .ref q7, .int fp])), (q2, .inr (3, [.ref q6, .int (nI 0)])), (q6, .inl (gI g, 600, .inl pw)), (q7, .inr (5, [.ref q1, .ref q8, .ref q9, .ref q10, .int (nI 0)])), (q8, .inl (gI g, 40, .inl s1)), (q9, .inl (gI g, 40, .inl s2)), (q10, .inl (gI g, 40, .inl s3))]) [0, 1, 2, 3, 4, 5, 6] (by decide) rfl
  exact W.vret hx hb hr (fun t ht hW => ⟨⟨(), rfl, trivial, by rw [ht]; exact hP9, by rw [hAe]; exact hD9⟩, hS.F ht⟩) hS.2.2 d_Rdr_forget_14
set_option maxHeartbeats 4000000 in
set_option maxRecDepth 100000 in
/-- fillInSymbols() -/
theorem c_Rdr_fillInSymbols (l : Launch) (g : sdG) (q3 q1 q2 q7 q6 q8 q9 q10 : Nat) (fp : Int32) (st : AS) (pw s1 s2 s3 : Nat → Int32) (hPR : PR st pw) (hSR : SR st s1 s2 s3) (hA1 : AInv st) (sz : Nat) : Met l y_Rdr_fillInSymbols (.code y_Rdr_fillInSymbols b_Rdr_fillInSymbols 4 none :: sdT) ({ frames := 1, cells := 0, slots := 0, locals := 22 }) (va_Pc [.ref q3] (sdU g [(q3, .inr (4, [.ref q1, .ref q2, .ref q7, .int fp])), (q2, .inr (3, [.ref q6, .int (nI (wn st))])), (q6, .inl (gI g, 600, .inl pw)), (q7, .inr (5, [.ref q1, .ref q8, .ref q9, .ref q10, .int (nI (sn st))])), (q8, .inl (gI g, 40, .inl s1)), (q9, .inl (gI g, 40, .inl s2)), (q10, .inl (gI g, 40, .inl s3))] sz)) (va_Qv (S := (Nat → Int32) × (Nat → Int32)) (fun u => ∀ j, j < wn st → u.1 j = nI (fin st j)) (fun u t => sdB g [(q3, .inr (4, [.ref q1, .ref q2, .ref q7, .int fp])), (q2, .inr (3, [.ref q6, .int (nI (wn st))])), (q6, .inl (gI g, 600, .inl pw)), (q7, .inr (5, [.ref q1, .ref q8, .ref q9, .ref q10, .int (nI (sn st))])), (q8, .inl (gI g, 40, .inl s1)), (q9, .inl (gI g, 40, .inl s2)), (q10, .inl (gI g, 40, .inl s3))] sz ((fun u => [(q3, .inr (4, [.ref q1, .ref q2, .ref q7, .int fp])), (q2, .inr (3, [.ref q6, .int (nI (wn st))])), (q6, .inl (gI g, 600, .inl u.1)), (q7, .inr (5, [.ref q1, .ref q8, .ref q9, .ref q10, .int (nI (sn st))])), (q8, .inl (gI g, 40, .inl s1)), (q9, .inl (gI g, 40, .inl s2)), (q10, .inl (gI g, 40, .inl u.2))] : (Nat → Int32) × (Nat → Int32) → va_W) u) t) (va_A [(q3, .inr (4, [.ref q1, .ref q2, .ref q7, .int fp])), (q2, .inr (3, [.ref q6, .int (nI (wn st))])), (q6, .inl (gI g, 600, .inl pw)), (q7, .inr (5, [.ref q1, .ref q8, .ref q9, .ref q10, .int (nI (sn st))])), (q8, .inl (gI g, 40, .inl s1)), (q9, .inl (gI g, 40, .inl s2)), (q10, .inl (gI g, 40, .inl s3))] sz)) 0 0 (va_A [(q3, .inr (4, [.ref q1, .ref q2, .ref q7, .int fp])), (q2, .inr (3, [.ref q6, .int (nI (wn st))])), (q6, .inl (gI g, 600, .inl pw)), (q7, .inr (5, [.ref q1, .ref q8, .ref q9, .ref q10, .int (nI (sn st))])), (q8, .inl (gI g, 40, .inl s1)), (q9, .inl (gI g, 40, .inl s2)), (q10, .inl (gI g, 40, .inl s3))] sz) := by
  refine Met.ofW (cc := b_Rdr_fillInSymbols) (maxL := 4) (ret := none) (by decide) rfl ?_
  intro p ev s m args below meth c s₁ B hml hv
  obtain ⟨rfl, hsz, hP, hK, hE, hD0, hs0⟩ := hv
  have hx := B.exec
  have hb := B.bytes
  have hr := B.returns
  have hts := fun (w : Cond) (h : w ∈ sdT) => atoms_spec (ws := (.code y_Rdr_fillInSymbols b_Rdr_fillInSymbols 4 none :: sdT)) B.pre w (List.mem_cons_of_mem _ h)
  have hown : s.vm.findClass "SignDesk$Reader" = some m.cls := findClass_of_methodNamed B.named
  have hlocks := B.notSynchronized
  subst hsz
  have hD := hD0.self (sz := s.heap.size)
  have hA0 : ∀ q : Nat, va_A [(q3, .inr (4, [.ref q1, .ref q2, .ref q7, .int fp])), (q2, .inr (3, [.ref q6, .int (nI (wn st))])), (q6, .inl (gI g, 600, .inl pw)), (q7, .inr (5, [.ref q1, .ref q8, .ref q9, .ref q10, .int (nI (sn st))])), (q8, .inl (gI g, 40, .inl s1)), (q9, .inl (gI g, 40, .inl s2)), (q10, .inl (gI g, 40, .inl s3))] s.heap.size q → gS g ≤ q := fun q h => h.elim (fun ⟨k, e, hk⟩ => hD0.2 k _ hk) (fun h => Nat.le_trans hs0 h)
  have hA : ∀ q : Nat, s.heap.size ≤ q → va_A [(q3, .inr (4, [.ref q1, .ref q2, .ref q7, .int fp])), (q2, .inr (3, [.ref q6, .int (nI (wn st))])), (q6, .inl (gI g, 600, .inl pw)), (q7, .inr (5, [.ref q1, .ref q8, .ref q9, .ref q10, .int (nI (sn st))])), (q8, .inl (gI g, 40, .inl s1)), (q9, .inl (gI g, 40, .inl s2)), (q10, .inl (gI g, 40, .inl s3))] s.heap.size q := fun q h => Or.inr h
  generalize hAe : va_A [(q3, .inr (4, [.ref q1, .ref q2, .ref q7, .int fp])), (q2, .inr (3, [.ref q6, .int (nI (wn st))])), (q6, .inl (gI g, 600, .inl pw)), (q7, .inr (5, [.ref q1, .ref q8, .ref q9, .ref q10, .int (nI (sn st))])), (q8, .inl (gI g, 40, .inl s1)), (q9, .inl (gI g, 40, .inl s2)), (q10, .inl (gI g, 40, .inl s3))] s.heap.size = A at hD hA0 hA ⊢
  have hS : va_S A s.heap s.heap [] := va_S.rf
  have hP : sdP g [(q3, .inr (4, [.ref q1, .ref q2, .ref q7, .int fp])), (q2, .inr (3, [.ref q6, .int (nI (wn st))])), (q6, .inl (gI g, 600, .inl pw)), (q7, .inr (5, [.ref q1, .ref q8, .ref q9, .ref q10, .int (nI (sn st))])), (q8, .inl (gI g, 40, .inl s1)), (q9, .inl (gI g, 40, .inl s2)), (q10, .inl (gI g, 40, .inl s3))] s.heap := hP
  have hl := lv_entry ([.ref q3]) (n := 4) (Nat.le_of_ble_eq_true rfl)
  rw [lg_entry_eq]
  generalize (lg_sl ([.ref q3]) ++ List.replicate (4 - (lg_sl ([.ref q3])).length) Slot.unset).toArray = ls at hl ⊢
  have hl : lv_has ls 4 [(0, .ref q3)] := hl
  have h600 := hPR.1
  have h40 := hSR.1
  refine lv_bipush (v := (nI 16)) hx hb d_Rdr_fillInSymbols_0 (by decide) ?_
  refine lv_istore_n (lv' := [(1, .int (nI 16)), (0, .ref q3)]) hx hb d_Rdr_fillInSymbols_2 rfl hl (by decide) rfl (fun ls hl => ?_)
  refine lv_iconst (v := (nI 0)) hx hb d_Rdr_fillInSymbols_3 (by decide) ?_
  refine lv_istore_n (lv' := [(2, .int (nI 0)), (1, .int (nI 16)), (0, .ref q3)]) hx hb d_Rdr_fillInSymbols_4 rfl hl (by decide) rfl (fun ls hl => ?_)
  refine sd_loop (fun (x : Heap × List Loc × Array Slot × Nat × Nat × (Nat → Int32) × (Nat → Int32) × (Nat → Nat)) => match x with | (H, locs, ls, i, T, pw1, s31, vT) => lv_has ls 4 [(0, .ref q3), (1, .int (nI (16 + cnt0 st T))), (2, .int (nI i))] ∧ sdP g [(q3, .inr (4, [.ref q1, .ref q2, .ref q7, .int fp])), (q2, .inr (3, [.ref q6, .int (nI (wn st))])), (q6, .inl (gI g, 600, .inl pw1)), (q7, .inr (5, [.ref q1, .ref q8, .ref q9, .ref q10, .int (nI (sn st))])), (q8, .inl (gI g, 40, .inl s1)), (q9, .inl (gI g, 40, .inl s2)), (q10, .inl (gI g, 40, .inl s31))] H ∧ va_D A [(q3, .inr (4, [.ref q1, .ref q2, .ref q7, .int fp])), (q2, .inr (3, [.ref q6, .int (nI (wn st))])), (q6, .inl (gI g, 600, .inl pw1)), (q7, .inr (5, [.ref q1, .ref q8, .ref q9, .ref q10, .int (nI (sn st))])), (q8, .inl (gI g, 40, .inl s1)), (q9, .inl (gI g, 40, .inl s2)), (q10, .inl (gI g, 40, .inl s31))] ∧ va_S A s.heap H locs ∧ (i ≤ wn st) ∧ (T ≤ sn st) ∧ (∀ j, j < i → pw1 j = nI (fin st j)) ∧ (∀ j, i ≤ j → j < wn st → pw1 j = nI (encW (wc st j) (wy st j))) ∧ (SR (mkS st vT) s1 s2 s31) ∧ (svI st T vT) ∧ (∀ w, w < i → ¬ wy st w = 0 → sv st (wy st w - 1) = 0 → wy st w - 1 < T)) (fun (x : Heap × List Loc × Array Slot × Nat × Nat × (Nat → Int32) × (Nat → Int32) × (Nat → Nat)) => match x with | (H, locs, ls, i, T, pw1, s31, vT) => wn st - i) (fun x => x.1) (fun x => x.2.1) (fun (x : Heap × List Loc × Array Slot × Nat × Nat × (Nat → Int32) × (Nat → Int32) × (Nat → Nat)) => match x with | (H, locs, ls, i, T, pw1, s31, vT) => 0) (fun (x : Heap × List Loc × Array Slot × Nat × Nat × (Nat → Int32) × (Nat → Int32) × (Nat → Nat)) => match x with | (H, locs, ls, i, T, pw1, s31, vT) => 0) (fun x => F0 m 5 x.2.2.1 []) (fun x hI ih => ?_) (s.heap, _, ls, 0, 0, pw, s3, sv st) ⟨lv_sub hl [2, 1, 0] rfl, hP.sub [0, 1, 2, 3, 4, 5, 6] rfl, hD.sub [0, 1, 2, 3, 4, 5, 6] (by decide) rfl, hS, Nat.zero_le _, Nat.zero_le _, fun j h => absurd h (Nat.not_lt_zero j), fun j _ h => hPR.2 j h, hSR, fun t ht => by
      by_cases q : sv st t = 0
      · rw [if_pos q, if_neg (Nat.not_lt_zero t), q]
      · rw [if_neg q], fun w h => absurd h (Nat.not_lt_zero w)⟩
  obtain ⟨H, locs, ls, i, T, pw1, s31, vT⟩ := x
  obtain ⟨hl, hP, hD, hS, h1, h2, h3, h4, h5, h6, h7⟩ := hI
  show W p l ev _ s m _ below meth c H locs (0) (0) _ (F0 m 5 ls [])
  have hP : sdP g [(q3, .inr (4, [.ref q1, .ref q2, .ref q7, .int fp])), (q2, .inr (3, [.ref q6, .int (nI (wn st))])), (q6, .inl (gI g, 600, .inl pw1)), (q7, .inr (5, [.ref q1, .ref q8, .ref q9, .ref q10, .int (nI (sn st))])), (q8, .inl (gI g, 40, .inl s1)), (q9, .inl (gI g, 40, .inl s2)), (q10, .inl (gI g, 40, .inl s31))] H := hP
  have hD : va_D A [(q3, .inr (4, [.ref q1, .ref q2, .ref q7, .int fp])), (q2, .inr (3, [.ref q6, .int (nI (wn st))])), (q6, .inl (gI g, 600, .inl pw1)), (q7, .inr (5, [.ref q1, .ref q8, .ref q9, .ref q10, .int (nI (sn st))])), (q8, .inl (gI g, 40, .inl s1)), (q9, .inl (gI g, 40, .inl s2)), (q10, .inl (gI g, 40, .inl s31))] := hD
  refine lv_iload_n hx hb d_Rdr_fillInSymbols_5 rfl (lv_at hl 2 rfl) ?_
  refine lv_aload_n hx hb d_Rdr_fillInSymbols_6 rfl (lv_at hl 0 rfl) ?_
  refine va_get (D := g.1) (ci := 4) (v := .ref q2) (C := "SignDesk$Reader") (T := F_Rdr) (N := 4) hx hb hts in_Rdr hown hK hP 0 rfl rfl 1 (by decide) (hts _ k_102) (fun _ h9 => h9) rfl d_Rdr_fillInSymbols_7 ?_
  refine sd_ri (va_runV (As := []) (rest := [.int (nI i)]) ⟨hx, hb, hml, hown, hts⟩ (c_Prg_size l g q2 q6 (wn st) pw1 h600) (cwV 0 hts (sd_gV k_330 k_331 k_332 k_25 k_333) rfl rfl rfl (by decide +kernel) ⟨Nat.le_of_ble_eq_true rfl, Nat.le_of_ble_eq_true rfl⟩) (sd_preV hK hE (sd_fr hS hA0) (hP.sub (ws' := [(q2, .inr (3, [.ref q6, .int (nI (wn st))])), (q6, .inl (gI g, 600, .inl pw1))]) [1, 2] rfl) rfl rfl) rfl rfl hl.1 rfl (lv_room (Nat.le_of_ble_eq_true rfl)) d_Rdr_fillInSymbols_10 ⟨Nat.zero_le _, Nat.zero_le _⟩) (fun r1 er1 => ?_)
  subst er1
  refine lv_icmp_ge (tgt := 69) hx hb d_Rdr_fillInSymbols_13 (by decide) (fun c2 => ?_) (fun c2 => ?_)
  · have c2 := (nI_leI (by omega) (by omega)).mp c2
    have e1 : i = wn st := by omega
    rw [e1] at h3
    have hP9 := hP.sub (ws' := [(q3, .inr (4, [.ref q1, .ref q2, .ref q7, .int fp])), (q2, .inr (3, [.ref q6, .int (nI (wn st))])), (q6, .inl (gI g, 600, .inl pw1)), (q7, .inr (5, [.ref q1, .ref q8, .ref q9, .ref q10, .int (nI (sn st))])), (q8, .inl (gI g, 40, .inl s1)), (q9, .inl (gI g, 40, .inl s2)), (q10, .inl (gI g, 40, .inl s31))]) [0, 1, 2, 3, 4, 5, 6] rfl
    have hD9 := hD.sub (ws' := [(q3, .inr (4, [.ref q1, .ref q2, .ref q7, .int fp])), (q2, .inr (3, [.ref q6, .int (nI (wn st))])), (q6, .inl (gI g, 600, .inl pw1)), (q7, .inr (5, [.ref q1, .ref q8, .ref q9, .ref q10, .int (nI (sn st))])), (q8, .inl (gI g, 40, .inl s1)), (q9, .inl (gI g, 40, .inl s2)), (q10, .inl (gI g, 40, .inl s31))]) [0, 1, 2, 3, 4, 5, 6] (by decide) rfl
    exact W.vret hx hb hr (fun t ht hW => ⟨⟨(pw1, s31), rfl, h3, by rw [ht]; exact hP9, by rw [hAe]; exact hD9⟩, hS.F ht⟩) hS.2.2 d_Rdr_fillInSymbols_69
  · have c2 := mt (nI_leI (by omega) (by omega)).mpr c2
    have hi : i < wn st := by omega
    obtain ⟨hwc, hwy⟩ := hA1.2.2.1 i hi
    refine lv_aload_n hx hb d_Rdr_fillInSymbols_16 rfl (lv_at hl 0 rfl) ?_
    refine va_get (D := g.1) (ci := 4) (v := .ref q2) (C := "SignDesk$Reader") (T := F_Rdr) (N := 4) hx hb hts in_Rdr hown hK hP 0 rfl rfl 1 (by decide) (hts _ k_102) (fun _ h9 => h9) rfl d_Rdr_fillInSymbols_17 ?_
    refine lv_iload_n hx hb d_Rdr_fillInSymbols_20 rfl (lv_at hl 2 rfl) ?_
    refine sd_ri (va_runV (As := [.int (nI i)]) (rest := []) ⟨hx, hb, hml, hown, hts⟩ (c_Prg_wordAt l g q2 q6 (wn st) pw1 h600 (nI i)) (cwV 1 hts (sd_gV k_363 k_364 k_365 k_25 k_366) rfl rfl rfl (by decide +kernel) ⟨Nat.le_of_ble_eq_true rfl, Nat.le_of_ble_eq_true rfl⟩) (sd_preV hK hE (sd_fr hS hA0) (hP.sub (ws' := [(q2, .inr (3, [.ref q6, .int (nI (wn st))])), (q6, .inl (gI g, 600, .inl pw1))]) [1, 2] rfl) rfl rfl) rfl rfl hl.1 rfl (lv_room (Nat.le_of_ble_eq_true rfl)) d_Rdr_fillInSymbols_21 ⟨Nat.zero_le _, Nat.zero_le _⟩) (fun r3 er3 => ?_)
    have e2 := (er3.1 i hi rfl).trans (h4 i (Nat.le_refl _) hi)
    clear er3
    subst e2
    refine lv_ldc (v := nI 65536) hx hb hown (hts _ k_320) d_Rdr_fillInSymbols_24 ?_
    refine lv_isub hx hb d_Rdr_fillInSymbols_26 ?_
    by_cases hy : wy st i = 0
    · have e3 : encW (wc st i) (wy st i) = wc st i := by rw [encW, if_pos hy]
      rw [e3]
      refine lv_istore_n (lv' := [(3, .int (nI (wc st i) - nI 65536)), (0, .ref q3), (1, .int (nI (16 + cnt0 st T))), (2, .int (nI i))]) hx hb d_Rdr_fillInSymbols_27 rfl hl (by decide) rfl (fun ls hl => ?_)
      refine lv_iload_n hx hb d_Rdr_fillInSymbols_28 rfl (lv_at hl 0 rfl) ?_
      refine lv_if_lt (tgt := 63) hx hb d_Rdr_fillInSymbols_29 (by decide) (fun c4 => ?_) (fun c4 => ?_)
      · refine lv_iinc (v := (nI (i + 1))) (lv' := [(2, .int (nI (i + 1))), (3, .int (nI (wc st i) - nI 65536)), (0, .ref q3), (1, .int (nI (16 + cnt0 st T)))]) hx hb d_Rdr_fillInSymbols_63 hl (k := 3) rfl (nI_1 _) (by decide) rfl (fun ls hl => ?_)
        refine lv_goto (tgt := 5) hx hb d_Rdr_fillInSymbols_66 (by decide) ?_
        exact ih (H, locs, ls, i + 1, T, pw1, s31, vT) ⟨lv_sub hl [2, 3, 0] rfl, hP.sub [0, 1, 2, 3, 4, 5, 6] rfl, hD.sub [0, 1, 2, 3, 4, 5, 6] (by decide) rfl, hS, by omega, h2, fun j hj => by
            rcases Nat.lt_or_ge j i with q | q
            · exact h3 j q
            · have : j = i := by omega
              subst this; rw [h4 j (Nat.le_refl _) hi, e3, fin, if_pos hy], fun j h8 h9 => h4 j (by omega) h9, h5, h6, fun w hw h8 h9 => by
            rcases Nat.lt_or_ge w i with q | q
            · exact h7 w q h8 h9
            · have : w = i := by omega
              subst this; exact absurd hy h8⟩ (show wn st - (i + 1) < wn st - i by omega)
      · exact absurd ((sd_subLt (k := 0) (by omega) (by omega) (by omega)).mpr (by omega)) c4
    · have e3 : encW (wc st i) (wy st i) = 65535 + wy st i := by rw [encW, if_neg (by omega)]
      rw [e3]
      refine sd_topi (y := nI (wy st i - 1)) (by rw [pk_sub (by omega)]; exact congrArg nI (by omega)) ?_
      obtain ⟨k, hk⟩ : ∃ k, wy st i = k + 1 := ⟨wy st i - 1, by omega⟩
      refine sd_topi (y := nI k) (by rw [hk]; rfl) ?_
      have hks : k < sn st := by omega
      have hcT := cnt0_le st T
      refine lv_istore_n (lv' := [(3, .int (nI k)), (0, .ref q3), (1, .int (nI (16 + cnt0 st T))), (2, .int (nI i))]) hx hb d_Rdr_fillInSymbols_27 rfl hl (by decide) rfl (fun ls hl => ?_)
      refine lv_iload_n hx hb d_Rdr_fillInSymbols_28 rfl (lv_at hl 0 rfl) ?_
      refine lv_if_lt (tgt := 63) hx hb d_Rdr_fillInSymbols_29 (by decide) (fun c5 => ?_) (fun c5 => ?_)
      · exact absurd c5 (nI_pos (by omega))
      · refine lv_aload_n hx hb d_Rdr_fillInSymbols_32 rfl (lv_at hl 1 rfl) ?_
        refine va_get (D := g.1) (ci := 4) (v := .ref q7) (C := "SignDesk$Reader") (T := F_Rdr) (N := 4) hx hb hts in_Rdr hown hK hP 0 rfl rfl 2 (by decide) (hts _ k_103) (fun _ h9 => h9) rfl d_Rdr_fillInSymbols_33 ?_
        refine lv_iload_n hx hb d_Rdr_fillInSymbols_36 rfl (lv_at hl 0 rfl) ?_
        refine lv_iload_n hx hb d_Rdr_fillInSymbols_37 rfl (lv_at hl 2 rfl) ?_
        have hPc := hP.sub (ws' := [(q7, .inr (5, [.ref q1, .ref q8, .ref q9, .ref q10, .int (nI (sn st))])), (q8, .inl (gI g, 40, .inl s1)), (q9, .inl (gI g, 40, .inl s2)), (q10, .inl (gI g, 40, .inl s31))]) [3, 4, 5, 6] rfl
        have hDc := hD.sub (ws' := [(q7, .inr (5, [.ref q1, .ref q8, .ref q9, .ref q10, .int (nI (sn st))])), (q8, .inl (gI g, 40, .inl s1)), (q9, .inl (gI g, 40, .inl s2)), (q10, .inl (gI g, 40, .inl s31))]) [3, 4, 5, 6] (by decide) rfl
        have hFc := va_free (wc := [(q7, .inr (5, [.ref q1, .ref q8, .ref q9, .ref q10, .int (nI (sn st))])), (q8, .inl (gI g, 40, .inl s1)), (q9, .inl (gI g, 40, .inl s2)), (q10, .inl (gI g, 40, .inl s31))]) hD hS hA [3, 4, 5, 6] rfl
        refine sd_ci (va_runV (As := [.int (nI k), .int (nI (16 + cnt0 st T))]) (rest := []) ⟨hx, hb, hml, hown, hts⟩ (c_Sym_tell l g q7 q1 q8 q9 q10 (mkS st vT) s1 s2 s31 h5 k (16 + cnt0 st T) hks (by omega) H.size) (cwV 2 hts (sd_gV k_334 k_335 k_336 k_27 k_337) rfl rfl rfl (by decide +kernel) ⟨Nat.le_of_ble_eq_true rfl, Nat.le_of_ble_eq_true rfl⟩) (sd_preVU hK hE hS hA0 hs0 hPc hDc rfl rfl) rfl rfl hl.1 rfl (lv_room (Nat.le_of_ble_eq_true rfl)) d_Rdr_fillInSymbols_38 ⟨Nat.zero_le _, Nat.zero_le _⟩) hS hFc (fun r6 u H1 locs hw hP1 hD1 hk1 hS => ?_)
        obtain ⟨st2, s32⟩ := u
        obtain ⟨hP, hD⟩ := va_join (wr := [(q3, .inr (4, [.ref q1, .ref q2, .ref q7, .int fp])), (q2, .inr (3, [.ref q6, .int (nI (wn st))])), (q6, .inl (gI g, 600, .inl pw1))]) (w1 := [(q7, .inr (5, [.ref q1, .ref q8, .ref q9, .ref q10, .int (nI (sn st2))])), (q8, .inl (gI g, 40, .inl s1)), (q9, .inl (gI g, 40, .inl s2)), (q10, .inl (gI g, 40, .inl s32))]) hP hD [3, 4, 5, 6] [0, 1, 2] rfl rfl (by decide) (by decide) hk1 hFc hP1 hD1
        clear hPc hDc hFc hk1 hP1 hD1
        generalize H1 = H at hP hS ⊢
        have hP : sdP g [(q3, .inr (4, [.ref q1, .ref q2, .ref q7, .int fp])), (q2, .inr (3, [.ref q6, .int (nI (wn st))])), (q6, .inl (gI g, 600, .inl pw1)), (q7, .inr (5, [.ref q1, .ref q8, .ref q9, .ref q10, .int (nI (sn st2))])), (q8, .inl (gI g, 40, .inl s1)), (q9, .inl (gI g, 40, .inl s2)), (q10, .inl (gI g, 40, .inl s32))] H := hP
        have hD : va_D A [(q3, .inr (4, [.ref q1, .ref q2, .ref q7, .int fp])), (q2, .inr (3, [.ref q6, .int (nI (wn st))])), (q6, .inl (gI g, 600, .inl pw1)), (q7, .inr (5, [.ref q1, .ref q8, .ref q9, .ref q10, .int (nI (sn st2))])), (q8, .inl (gI g, 40, .inl s1)), (q9, .inl (gI g, 40, .inl s2)), (q10, .inl (gI g, 40, .inl s32))] := hD
        obtain ⟨hw1, hw2, hw3⟩ := hw
        have hw3 : SR st2 s1 s2 s32 := hw3
        by_cases hz : vT k = 0
        · have hw2 := hw2 hz
          obtain ⟨hsz, hTs, hcs, h6b⟩ := svI_step h6 hks hz (fill_key hA1 hi hk h7)
          obtain rfl : st2 = mkS st (va_up vT k (16 + cnt0 st T + 1)) := hw2.2
          obtain rfl := hw2.1
          refine lv_if_eq (tgt := 47) hx hb d_Rdr_fillInSymbols_41 (by decide) (fun c7 => ?_) (fun c7 => ?_)
          · exact absurd c7 (by decide)
          · refine lv_iinc (v := (nI ((16 + cnt0 st T) + 1))) (lv' := [(1, .int (nI ((16 + cnt0 st T) + 1))), (3, .int (nI k)), (0, .ref q3), (2, .int (nI i))]) hx hb d_Rdr_fillInSymbols_44 hl (k := 2) rfl (nI_1 _) (by decide) rfl (fun ls hl => ?_)
            refine lv_aload_n hx hb d_Rdr_fillInSymbols_47 rfl (lv_at hl 2 rfl) ?_
            refine va_get (D := g.1) (ci := 4) (v := .ref q2) (C := "SignDesk$Reader") (T := F_Rdr) (N := 4) hx hb hts in_Rdr hown hK hP 0 rfl rfl 1 (by decide) (hts _ k_102) (fun _ h9 => h9) rfl d_Rdr_fillInSymbols_48 ?_
            refine lv_iload_n hx hb d_Rdr_fillInSymbols_51 rfl (lv_at hl 3 rfl) ?_
            refine lv_aload_n hx hb d_Rdr_fillInSymbols_52 rfl (lv_at hl 2 rfl) ?_
            refine va_get (D := g.1) (ci := 4) (v := .ref q7) (C := "SignDesk$Reader") (T := F_Rdr) (N := 4) hx hb hts in_Rdr hown hK hP 0 rfl rfl 2 (by decide) (hts _ k_103) (fun _ h9 => h9) rfl d_Rdr_fillInSymbols_53 ?_
            refine lv_iload_n hx hb d_Rdr_fillInSymbols_56 rfl (lv_at hl 1 rfl) ?_
            refine sd_ri (va_runV (As := [.int (nI k)]) (rest := [.int (nI i), .ref q2]) ⟨hx, hb, hml, hown, hts⟩ (c_Sym_numberOf l g q7 q1 q8 q9 q10 (mkS st (va_up vT k (16 + cnt0 st T + 1))) s1 s2 s32 hw3 k hks) (cwV 1 hts (sd_gV k_367 k_368 k_369 k_27 k_370) rfl rfl rfl (by decide +kernel) ⟨Nat.le_of_ble_eq_true rfl, Nat.le_of_ble_eq_true rfl⟩) (sd_preV hK hE (sd_fr hS hA0) (hP.sub (ws' := [(q7, .inr (5, [.ref q1, .ref q8, .ref q9, .ref q10, .int (nI (sn (mkS st (va_up vT k (16 + cnt0 st T + 1)))))])), (q8, .inl (gI g, 40, .inl s1)), (q9, .inl (gI g, 40, .inl s2)), (q10, .inl (gI g, 40, .inl s32))]) [3, 4, 5, 6] rfl) rfl rfl) rfl rfl hl.1 rfl (lv_room (Nat.le_of_ble_eq_true rfl)) d_Rdr_fillInSymbols_57 ⟨Nat.zero_le _, Nat.zero_le _⟩) (fun r8 er8 => ?_)
            subst er8
            refine sd_topi (y := nI (sF st k)) (svI_F h6b hks (by show ¬ va_up vT k (16 + cnt0 st T + 1) k = 0; rw [va_up_self]; omega)) ?_
            have hPc := hP.sub (ws' := [(q2, .inr (3, [.ref q6, .int (nI (wn st))])), (q6, .inl (gI g, 600, .inl pw1))]) [1, 2] rfl
            have hDc := hD.sub (ws' := [(q2, .inr (3, [.ref q6, .int (nI (wn st))])), (q6, .inl (gI g, 600, .inl pw1))]) [1, 2] (by decide) rfl
            have hFc := va_free (wc := [(q2, .inr (3, [.ref q6, .int (nI (wn st))])), (q6, .inl (gI g, 600, .inl pw1))]) hD hS hA [1, 2] rfl
            refine sd_cv (va_runV (As := [.int (nI i), .int (nI (sF st k))]) (rest := []) ⟨hx, hb, hml, hown, hts⟩ (c_Prg_change l g q2 q6 (wn st) pw1 h600 i (nI (sF st k)) hi H.size) (cwV 2 hts (sd_gV k_371 k_372 k_373 k_25 k_374) rfl rfl rfl (by decide +kernel) ⟨Nat.le_of_ble_eq_true rfl, Nat.le_of_ble_eq_true rfl⟩) (sd_preVU hK hE hS hA0 hs0 hPc hDc rfl rfl) rfl rfl hl.1 rfl (lv_room (Nat.le_of_ble_eq_true rfl)) d_Rdr_fillInSymbols_60 ⟨Nat.zero_le _, Nat.zero_le _⟩) hS hFc (fun u H1 locs hw9 hP1 hD1 hk1 hS => ?_)
            obtain ⟨hP, hD⟩ := va_join (wr := [(q3, .inr (4, [.ref q1, .ref q2, .ref q7, .int fp])), (q7, .inr (5, [.ref q1, .ref q8, .ref q9, .ref q10, .int (nI (sn (mkS st (va_up vT k (16 + cnt0 st T + 1)))))])), (q8, .inl (gI g, 40, .inl s1)), (q9, .inl (gI g, 40, .inl s2)), (q10, .inl (gI g, 40, .inl s32))]) (w1 := [(q2, .inr (3, [.ref q6, .int (nI (wn st))])), (q6, .inl (gI g, 600, .inl (upd pw1 i (nI (sF st k)))))]) hP hD [1, 2] [0, 3, 4, 5, 6] rfl rfl (by decide) (by decide) hk1 hFc hP1 hD1
            clear hPc hDc hFc hk1 hP1 hD1
            generalize H1 = H at hP hS ⊢
            have hP : sdP g [(q3, .inr (4, [.ref q1, .ref q2, .ref q7, .int fp])), (q7, .inr (5, [.ref q1, .ref q8, .ref q9, .ref q10, .int (nI (sn (mkS st (va_up vT k (16 + cnt0 st T + 1)))))])), (q8, .inl (gI g, 40, .inl s1)), (q9, .inl (gI g, 40, .inl s2)), (q10, .inl (gI g, 40, .inl s32)), (q2, .inr (3, [.ref q6, .int (nI (wn st))])), (q6, .inl (gI g, 600, .inl (upd pw1 i (nI (sF st k)))))] H := hP
            have hD : va_D A [(q3, .inr (4, [.ref q1, .ref q2, .ref q7, .int fp])), (q7, .inr (5, [.ref q1, .ref q8, .ref q9, .ref q10, .int (nI (sn (mkS st (va_up vT k (16 + cnt0 st T + 1)))))])), (q8, .inl (gI g, 40, .inl s1)), (q9, .inl (gI g, 40, .inl s2)), (q10, .inl (gI g, 40, .inl s32)), (q2, .inr (3, [.ref q6, .int (nI (wn st))])), (q6, .inl (gI g, 600, .inl (upd pw1 i (nI (sF st k)))))] := hD
            refine lv_iinc (v := (nI (i + 1))) (lv' := [(2, .int (nI (i + 1))), (1, .int (nI ((16 + cnt0 st T) + 1))), (3, .int (nI k)), (0, .ref q3)]) hx hb d_Rdr_fillInSymbols_63 hl (k := 3) rfl (nI_1 _) (by decide) rfl (fun ls hl => ?_)
            refine lv_goto (tgt := 5) hx hb d_Rdr_fillInSymbols_66 (by decide) ?_
            exact ih (H, locs, ls, i + 1, (k + 1), upd pw1 i (nI (sF st k)), s32, (va_up vT k (16 + cnt0 st T + 1))) ⟨by
                have e9 : 16 + cnt0 st (k + 1) = 16 + cnt0 st T + 1 := by
                  show 16 + (cnt0 st k + (if sv st k = 0 then 1 else 0)) = _
                  rw [if_pos hsz, hcs]; omega
                rw [e9]
                exact lv_sub hl [3, 1, 0] rfl, hP.sub [0, 5, 6, 1, 2, 3, 4] rfl, hD.sub [0, 5, 6, 1, 2, 3, 4] (by decide) rfl, hS, by omega, hks, fun j hj => by
                by_cases q : j = i
                · subst q; rw [pk_us, fin, if_neg (by omega), hk]; rfl
                · rw [pk_un q]; exact h3 j (by omega), fun j h8 h9 => by rw [pk_un (by omega)]; exact h4 j (by omega) h9, hw3, h6b, fun w hw h8 h9 => by
                rcases Nat.lt_or_ge w i with q | q
                · have := h7 w q h8 h9; omega
                · have : w = i := by omega
                  subst this
                  have e8 : wy st w - 1 = k := by omega
                  rw [e8] at h9 ⊢
                  omega⟩ (show wn st - (i + 1) < wn st - i by omega)
        · have hw1 := hw1 hz
          obtain rfl : mkS st vT = st2 := hw1.2.symm
          obtain rfl := hw1.1
          refine lv_if_eq (tgt := 47) hx hb d_Rdr_fillInSymbols_41 (by decide) (fun c10 => ?_) (fun c10 => ?_)
          · refine lv_aload_n hx hb d_Rdr_fillInSymbols_47 rfl (lv_at hl 1 rfl) ?_
            refine va_get (D := g.1) (ci := 4) (v := .ref q2) (C := "SignDesk$Reader") (T := F_Rdr) (N := 4) hx hb hts in_Rdr hown hK hP 0 rfl rfl 1 (by decide) (hts _ k_102) (fun _ h9 => h9) rfl d_Rdr_fillInSymbols_48 ?_
            refine lv_iload_n hx hb d_Rdr_fillInSymbols_51 rfl (lv_at hl 3 rfl) ?_
            refine lv_aload_n hx hb d_Rdr_fillInSymbols_52 rfl (lv_at hl 1 rfl) ?_
            refine va_get (D := g.1) (ci := 4) (v := .ref q7) (C := "SignDesk$Reader") (T := F_Rdr) (N := 4) hx hb hts in_Rdr hown hK hP 0 rfl rfl 2 (by decide) (hts _ k_103) (fun _ h9 => h9) rfl d_Rdr_fillInSymbols_53 ?_
            refine lv_iload_n hx hb d_Rdr_fillInSymbols_56 rfl (lv_at hl 0 rfl) ?_
            refine sd_ri (va_runV (As := [.int (nI k)]) (rest := [.int (nI i), .ref q2]) ⟨hx, hb, hml, hown, hts⟩ (c_Sym_numberOf l g q7 q1 q8 q9 q10 (mkS st vT) s1 s2 s32 hw3 k hks) (cwV 1 hts (sd_gV k_367 k_368 k_369 k_27 k_370) rfl rfl rfl (by decide +kernel) ⟨Nat.le_of_ble_eq_true rfl, Nat.le_of_ble_eq_true rfl⟩) (sd_preV hK hE (sd_fr hS hA0) (hP.sub (ws' := [(q7, .inr (5, [.ref q1, .ref q8, .ref q9, .ref q10, .int (nI (sn (mkS st vT)))])), (q8, .inl (gI g, 40, .inl s1)), (q9, .inl (gI g, 40, .inl s2)), (q10, .inl (gI g, 40, .inl s32))]) [3, 4, 5, 6] rfl) rfl rfl) rfl rfl hl.1 rfl (lv_room (Nat.le_of_ble_eq_true rfl)) d_Rdr_fillInSymbols_57 ⟨Nat.zero_le _, Nat.zero_le _⟩) (fun r11 er11 => ?_)
            subst er11
            refine sd_topi (y := nI (sF st k)) (svI_F h6 hks (hz)) ?_
            have hPc := hP.sub (ws' := [(q2, .inr (3, [.ref q6, .int (nI (wn st))])), (q6, .inl (gI g, 600, .inl pw1))]) [1, 2] rfl
            have hDc := hD.sub (ws' := [(q2, .inr (3, [.ref q6, .int (nI (wn st))])), (q6, .inl (gI g, 600, .inl pw1))]) [1, 2] (by decide) rfl
            have hFc := va_free (wc := [(q2, .inr (3, [.ref q6, .int (nI (wn st))])), (q6, .inl (gI g, 600, .inl pw1))]) hD hS hA [1, 2] rfl
            refine sd_cv (va_runV (As := [.int (nI i), .int (nI (sF st k))]) (rest := []) ⟨hx, hb, hml, hown, hts⟩ (c_Prg_change l g q2 q6 (wn st) pw1 h600 i (nI (sF st k)) hi H.size) (cwV 2 hts (sd_gV k_371 k_372 k_373 k_25 k_374) rfl rfl rfl (by decide +kernel) ⟨Nat.le_of_ble_eq_true rfl, Nat.le_of_ble_eq_true rfl⟩) (sd_preVU hK hE hS hA0 hs0 hPc hDc rfl rfl) rfl rfl hl.1 rfl (lv_room (Nat.le_of_ble_eq_true rfl)) d_Rdr_fillInSymbols_60 ⟨Nat.zero_le _, Nat.zero_le _⟩) hS hFc (fun u H1 locs hw9 hP1 hD1 hk1 hS => ?_)
            obtain ⟨hP, hD⟩ := va_join (wr := [(q3, .inr (4, [.ref q1, .ref q2, .ref q7, .int fp])), (q7, .inr (5, [.ref q1, .ref q8, .ref q9, .ref q10, .int (nI (sn (mkS st vT)))])), (q8, .inl (gI g, 40, .inl s1)), (q9, .inl (gI g, 40, .inl s2)), (q10, .inl (gI g, 40, .inl s32))]) (w1 := [(q2, .inr (3, [.ref q6, .int (nI (wn st))])), (q6, .inl (gI g, 600, .inl (upd pw1 i (nI (sF st k)))))]) hP hD [1, 2] [0, 3, 4, 5, 6] rfl rfl (by decide) (by decide) hk1 hFc hP1 hD1
            clear hPc hDc hFc hk1 hP1 hD1
            generalize H1 = H at hP hS ⊢
            have hP : sdP g [(q3, .inr (4, [.ref q1, .ref q2, .ref q7, .int fp])), (q7, .inr (5, [.ref q1, .ref q8, .ref q9, .ref q10, .int (nI (sn (mkS st vT)))])), (q8, .inl (gI g, 40, .inl s1)), (q9, .inl (gI g, 40, .inl s2)), (q10, .inl (gI g, 40, .inl s32)), (q2, .inr (3, [.ref q6, .int (nI (wn st))])), (q6, .inl (gI g, 600, .inl (upd pw1 i (nI (sF st k)))))] H := hP
            have hD : va_D A [(q3, .inr (4, [.ref q1, .ref q2, .ref q7, .int fp])), (q7, .inr (5, [.ref q1, .ref q8, .ref q9, .ref q10, .int (nI (sn (mkS st vT)))])), (q8, .inl (gI g, 40, .inl s1)), (q9, .inl (gI g, 40, .inl s2)), (q10, .inl (gI g, 40, .inl s32)), (q2, .inr (3, [.ref q6, .int (nI (wn st))])), (q6, .inl (gI g, 600, .inl (upd pw1 i (nI (sF st k)))))] := hD
            refine lv_iinc (v := (nI (i + 1))) (lv' := [(2, .int (nI (i + 1))), (3, .int (nI k)), (0, .ref q3), (1, .int (nI (16 + cnt0 st T)))]) hx hb d_Rdr_fillInSymbols_63 hl (k := 3) rfl (nI_1 _) (by decide) rfl (fun ls hl => ?_)
            refine lv_goto (tgt := 5) hx hb d_Rdr_fillInSymbols_66 (by decide) ?_
            exact ih (H, locs, ls, i + 1, T, upd pw1 i (nI (sF st k)), s32, vT) ⟨lv_sub hl [2, 3, 0] rfl, hP.sub [0, 5, 6, 1, 2, 3, 4] rfl, hD.sub [0, 5, 6, 1, 2, 3, 4] (by decide) rfl, hS, by omega, h2, fun j hj => by
                by_cases q : j = i
                · subst q; rw [pk_us, fin, if_neg (by omega), hk]; rfl
                · rw [pk_un q]; exact h3 j (by omega), fun j h8 h9 => by rw [pk_un (by omega)]; exact h4 j (by omega) h9, hw3, h6, fun w hw h8 h9 => by
                rcases Nat.lt_or_ge w i with q | q
                · have := h7 w q h8 h9; omega
                · have : w = i := by omega
                  subst this
                  have e8 : wy st w - 1 = k := by omega
                  rw [e8] at h9 ⊢
                  have e9 := h6 k hks
                  rw [if_pos h9] at e9
                  rcases Nat.lt_or_ge k T with q2 | q2
                  · exact q2
                  · rw [if_neg (by omega)] at e9; exact absurd e9 hz⟩ (show wn st - (i + 1) < wn st - i by omega)
          · exact absurd rfl c10
