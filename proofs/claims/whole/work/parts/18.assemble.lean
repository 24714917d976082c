set_option maxHeartbeats 4000000 in
set_option maxRecDepth 100000 in
/-- assemble() -/
theorem c_Rdr_assemble (l : Launch) (g : sdG) (q3 q1 q2 q7 q5 q6 q8 q9 q10 n : Nat) (fp px cx : Int32) (f : Nat → Int32) (tx : Nat → Nat) (hT : TXok n f tx) (pw s1 s2 s3 : Nat → Int32) (sz : Nat) : Met l y_Rdr_assemble (.code y_Rdr_assemble b_Rdr_assemble 5 (some .int) :: sdT) ({ frames := 8, cells := 0, slots := 0, locals := 187 }) (va_Pc [.ref q3] (sdU g [(q3, .inr (4, [.ref q1, .ref q2, .ref q7, .int fp])), (q1, .inr (6, [.ref q5, .int (nI n)])), (q5, .inl (gB g, 2000, .inl f)), (q2, .inr (3, [.ref q6, .int px])), (q6, .inl (gI g, 600, .inl pw)), (q7, .inr (5, [.ref q1, .ref q8, .ref q9, .ref q10, .int cx])), (q8, .inl (gI g, 40, .inl s1)), (q9, .inl (gI g, 40, .inl s2)), (q10, .inl (gI g, 40, .inl s3))] sz)) (va_Qi (S := Nat × (Nat → Int32) × Int32 × Nat × (Nat → Int32) × (Nat → Int32) × (Nat → Int32)) (fun r u => r = nI (asm tx n (n + 1) 0 0 E0).1 ∧ ((asm tx n (n + 1) 0 0 E0).1 = 0 → u.2.2.1 = -1 ∧ u.1 = wn (asm tx n (n + 1) 0 0 E0).2.2 ∧ u.2.2.2.1 = sn (asm tx n (n + 1) 0 0 E0).2.2 ∧ ∀ j, j < wn (asm tx n (n + 1) 0 0 E0).2.2 → u.2.1 j = nI (fin (asm tx n (n + 1) 0 0 E0).2.2 j)) ∧ (¬ (asm tx n (n + 1) 0 0 E0).1 = 0 → u.2.2.1 = nI (asm tx n (n + 1) 0 0 E0).2.1 ∧ u.1 = 0 ∧ u.2.2.2.1 = 0)) (fun u t => sdB g [(q3, .inr (4, [.ref q1, .ref q2, .ref q7, .int fp])), (q1, .inr (6, [.ref q5, .int (nI n)])), (q5, .inl (gB g, 2000, .inl f)), (q2, .inr (3, [.ref q6, .int px])), (q6, .inl (gI g, 600, .inl pw)), (q7, .inr (5, [.ref q1, .ref q8, .ref q9, .ref q10, .int cx])), (q8, .inl (gI g, 40, .inl s1)), (q9, .inl (gI g, 40, .inl s2)), (q10, .inl (gI g, 40, .inl s3))] sz ((fun u => [(q3, .inr (4, [.ref q1, .ref q2, .ref q7, .int u.2.2.1])), (q1, .inr (6, [.ref q5, .int (nI n)])), (q5, .inl (gB g, 2000, .inl f)), (q2, .inr (3, [.ref q6, .int (nI u.1)])), (q6, .inl (gI g, 600, .inl u.2.1)), (q7, .inr (5, [.ref q1, .ref q8, .ref q9, .ref q10, .int (nI u.2.2.2.1)])), (q8, .inl (gI g, 40, .inl u.2.2.2.2.1)), (q9, .inl (gI g, 40, .inl u.2.2.2.2.2.1)), (q10, .inl (gI g, 40, .inl u.2.2.2.2.2.2))] : Nat × (Nat → Int32) × Int32 × Nat × (Nat → Int32) × (Nat → Int32) × (Nat → Int32) → va_W) u) t) (va_A [(q3, .inr (4, [.ref q1, .ref q2, .ref q7, .int fp])), (q1, .inr (6, [.ref q5, .int (nI n)])), (q5, .inl (gB g, 2000, .inl f)), (q2, .inr (3, [.ref q6, .int px])), (q6, .inl (gI g, 600, .inl pw)), (q7, .inr (5, [.ref q1, .ref q8, .ref q9, .ref q10, .int cx])), (q8, .inl (gI g, 40, .inl s1)), (q9, .inl (gI g, 40, .inl s2)), (q10, .inl (gI g, 40, .inl s3))] sz)) 0 0 (va_A [(q3, .inr (4, [.ref q1, .ref q2, .ref q7, .int fp])), (q1, .inr (6, [.ref q5, .int (nI n)])), (q5, .inl (gB g, 2000, .inl f)), (q2, .inr (3, [.ref q6, .int px])), (q6, .inl (gI g, 600, .inl pw)), (q7, .inr (5, [.ref q1, .ref q8, .ref q9, .ref q10, .int cx])), (q8, .inl (gI g, 40, .inl s1)), (q9, .inl (gI g, 40, .inl s2)), (q10, .inl (gI g, 40, .inl s3))] sz) := by
  refine Met.ofW (cc := b_Rdr_assemble) (maxL := 5) (ret := (some .int)) (by decide) rfl ?_
  intro p ev s m args below meth c s₁ B hml hv
  obtain ⟨rfl, hsz, hP, hK, hE, hD0, hs0⟩ := hv
  have hx := B.exec
  have hb := B.bytes
  have hr := B.returns
  have hts := fun (w : Cond) (h : w ∈ sdT) => atoms_spec (ws := (.code y_Rdr_assemble b_Rdr_assemble 5 (some .int) :: sdT)) B.pre w (List.mem_cons_of_mem _ h)
  have hown : s.vm.findClass "SignDesk$Reader" = some m.cls := findClass_of_methodNamed B.named
  have hlocks := B.notSynchronized
  subst hsz
  have hD := hD0.self (sz := s.heap.size)
  have hA0 : ∀ q : Nat, va_A [(q3, .inr (4, [.ref q1, .ref q2, .ref q7, .int fp])), (q1, .inr (6, [.ref q5, .int (nI n)])), (q5, .inl (gB g, 2000, .inl f)), (q2, .inr (3, [.ref q6, .int px])), (q6, .inl (gI g, 600, .inl pw)), (q7, .inr (5, [.ref q1, .ref q8, .ref q9, .ref q10, .int cx])), (q8, .inl (gI g, 40, .inl s1)), (q9, .inl (gI g, 40, .inl s2)), (q10, .inl (gI g, 40, .inl s3))] s.heap.size q → gS g ≤ q := fun q h => h.elim (fun ⟨k, e, hk⟩ => hD0.2 k _ hk) (fun h => Nat.le_trans hs0 h)
  have hA : ∀ q : Nat, s.heap.size ≤ q → va_A [(q3, .inr (4, [.ref q1, .ref q2, .ref q7, .int fp])), (q1, .inr (6, [.ref q5, .int (nI n)])), (q5, .inl (gB g, 2000, .inl f)), (q2, .inr (3, [.ref q6, .int px])), (q6, .inl (gI g, 600, .inl pw)), (q7, .inr (5, [.ref q1, .ref q8, .ref q9, .ref q10, .int cx])), (q8, .inl (gI g, 40, .inl s1)), (q9, .inl (gI g, 40, .inl s2)), (q10, .inl (gI g, 40, .inl s3))] s.heap.size q := fun q h => Or.inr h
  generalize hAe : va_A [(q3, .inr (4, [.ref q1, .ref q2, .ref q7, .int fp])), (q1, .inr (6, [.ref q5, .int (nI n)])), (q5, .inl (gB g, 2000, .inl f)), (q2, .inr (3, [.ref q6, .int px])), (q6, .inl (gI g, 600, .inl pw)), (q7, .inr (5, [.ref q1, .ref q8, .ref q9, .ref q10, .int cx])), (q8, .inl (gI g, 40, .inl s1)), (q9, .inl (gI g, 40, .inl s2)), (q10, .inl (gI g, 40, .inl s3))] s.heap.size = A at hD hA0 hA ⊢
  have hS : va_S A s.heap s.heap [] := va_S.rf
  have hP : sdP g [(q3, .inr (4, [.ref q1, .ref q2, .ref q7, .int fp])), (q1, .inr (6, [.ref q5, .int (nI n)])), (q5, .inl (gB g, 2000, .inl f)), (q2, .inr (3, [.ref q6, .int px])), (q6, .inl (gI g, 600, .inl pw)), (q7, .inr (5, [.ref q1, .ref q8, .ref q9, .ref q10, .int cx])), (q8, .inl (gI g, 40, .inl s1)), (q9, .inl (gI g, 40, .inl s2)), (q10, .inl (gI g, 40, .inl s3))] s.heap := hP
  have hl := lv_entry ([.ref q3]) (n := 5) (Nat.le_of_ble_eq_true rfl)
  rw [lg_entry_eq]
  generalize (lg_sl ([.ref q3]) ++ List.replicate (5 - (lg_sl ([.ref q3])).length) Slot.unset).toArray = ls at hl ⊢
  have hl : lv_has ls 5 [(0, .ref q3)] := hl
  have hn := hT.1
  have hb8 := hT.2.1
  refine lv_aload_n hx hb d_Rdr_assemble_0 rfl (lv_at hl 0 rfl) ?_
  have hPc := hP.sub (ws' := [(q3, .inr (4, [.ref q1, .ref q2, .ref q7, .int fp])), (q2, .inr (3, [.ref q6, .int px])), (q6, .inl (gI g, 600, .inl pw)), (q7, .inr (5, [.ref q1, .ref q8, .ref q9, .ref q10, .int cx])), (q8, .inl (gI g, 40, .inl s1)), (q9, .inl (gI g, 40, .inl s2)), (q10, .inl (gI g, 40, .inl s3))]) [0, 3, 4, 5, 6, 7, 8] rfl
  have hDc := hD.sub (ws' := [(q3, .inr (4, [.ref q1, .ref q2, .ref q7, .int fp])), (q2, .inr (3, [.ref q6, .int px])), (q6, .inl (gI g, 600, .inl pw)), (q7, .inr (5, [.ref q1, .ref q8, .ref q9, .ref q10, .int cx])), (q8, .inl (gI g, 40, .inl s1)), (q9, .inl (gI g, 40, .inl s2)), (q10, .inl (gI g, 40, .inl s3))]) [0, 3, 4, 5, 6, 7, 8] (by decide) rfl
  have hFc := va_free (wc := [(q3, .inr (4, [.ref q1, .ref q2, .ref q7, .int fp])), (q2, .inr (3, [.ref q6, .int px])), (q6, .inl (gI g, 600, .inl pw)), (q7, .inr (5, [.ref q1, .ref q8, .ref q9, .ref q10, .int cx])), (q8, .inl (gI g, 40, .inl s1)), (q9, .inl (gI g, 40, .inl s2)), (q10, .inl (gI g, 40, .inl s3))]) hD hS hA [0, 3, 4, 5, 6, 7, 8] rfl
  refine sd_cv (va_runV (As := []) (rest := []) ⟨hx, hb, hml, hown, hts⟩ (c_Rdr_forget l g q3 q1 q2 q7 q6 q8 q9 q10 fp px cx pw s1 s2 s3 s.heap.size) (cwV 0 hts (sd_gV k_180 k_182 k_0 k_26 k_183) rfl rfl rfl (by decide +kernel) ⟨Nat.le_of_ble_eq_true rfl, Nat.le_of_ble_eq_true rfl⟩) (sd_preVU hK hE hS hA0 hs0 hPc hDc rfl rfl) rfl rfl hl.1 rfl (lv_room (Nat.le_of_ble_eq_true rfl)) d_Rdr_assemble_1 ⟨Nat.zero_le _, Nat.zero_le _⟩) hS hFc (fun u H1 locs hw hP1 hD1 hk1 hS => ?_)
  obtain ⟨hP, hD⟩ := va_join (wr := [(q1, .inr (6, [.ref q5, .int (nI n)])), (q5, .inl (gB g, 2000, .inl f))]) (w1 := [(q3, .inr (4, [.ref q1, .ref q2, .ref q7, .int fp])), (q2, .inr (3, [.ref q6, .int (nI 0)])), (q6, .inl (gI g, 600, .inl pw)), (q7, .inr (5, [.ref q1, .ref q8, .ref q9, .ref q10, .int (nI 0)])), (q8, .inl (gI g, 40, .inl s1)), (q9, .inl (gI g, 40, .inl s2)), (q10, .inl (gI g, 40, .inl s3))]) hP hD [0, 3, 4, 5, 6, 7, 8] [1, 2] rfl rfl (by decide) (by decide) hk1 hFc hP1 hD1
  clear hPc hDc hFc hk1 hP1 hD1
  generalize H1 = H at hP hS ⊢
  have hP : sdP g [(q1, .inr (6, [.ref q5, .int (nI n)])), (q5, .inl (gB g, 2000, .inl f)), (q3, .inr (4, [.ref q1, .ref q2, .ref q7, .int fp])), (q2, .inr (3, [.ref q6, .int (nI 0)])), (q6, .inl (gI g, 600, .inl pw)), (q7, .inr (5, [.ref q1, .ref q8, .ref q9, .ref q10, .int (nI 0)])), (q8, .inl (gI g, 40, .inl s1)), (q9, .inl (gI g, 40, .inl s2)), (q10, .inl (gI g, 40, .inl s3))] H := hP
  have hD : va_D A [(q1, .inr (6, [.ref q5, .int (nI n)])), (q5, .inl (gB g, 2000, .inl f)), (q3, .inr (4, [.ref q1, .ref q2, .ref q7, .int fp])), (q2, .inr (3, [.ref q6, .int (nI 0)])), (q6, .inl (gI g, 600, .inl pw)), (q7, .inr (5, [.ref q1, .ref q8, .ref q9, .ref q10, .int (nI 0)])), (q8, .inl (gI g, 40, .inl s1)), (q9, .inl (gI g, 40, .inl s2)), (q10, .inl (gI g, 40, .inl s3))] := hD
  refine lv_aload_n hx hb d_Rdr_assemble_4 rfl (lv_at hl 0 rfl) ?_
  refine lv_iconst (v := (-1)) hx hb d_Rdr_assemble_5 (by decide) ?_
  refine va_put (D := g.1) (ci := 4) (v := .int (-1)) (ty := .int) (C := "SignDesk$Reader") (T := F_Rdr) (N := 4) hx hb hts in_Rdr t_Rdr t_Rdr_ok n_Rdr hown hK hP hD hS 2 rfl rfl 3 (by decide) (hts _ k_104) (fun _ h9 => h9) rfl (by decide +kernel) rfl rfl (Nat.le_of_ble_eq_true rfl) d_Rdr_assemble_6 (fun H locs hP hD hS => ?_)
  have hP : sdP g [(q1, .inr (6, [.ref q5, .int (nI n)])), (q5, .inl (gB g, 2000, .inl f)), (q3, .inr (4, [.ref q1, .ref q2, .ref q7, .int (-1)])), (q2, .inr (3, [.ref q6, .int (nI 0)])), (q6, .inl (gI g, 600, .inl pw)), (q7, .inr (5, [.ref q1, .ref q8, .ref q9, .ref q10, .int (nI 0)])), (q8, .inl (gI g, 40, .inl s1)), (q9, .inl (gI g, 40, .inl s2)), (q10, .inl (gI g, 40, .inl s3))] H := hP
  have hD : va_D A [(q1, .inr (6, [.ref q5, .int (nI n)])), (q5, .inl (gB g, 2000, .inl f)), (q3, .inr (4, [.ref q1, .ref q2, .ref q7, .int (-1)])), (q2, .inr (3, [.ref q6, .int (nI 0)])), (q6, .inl (gI g, 600, .inl pw)), (q7, .inr (5, [.ref q1, .ref q8, .ref q9, .ref q10, .int (nI 0)])), (q8, .inl (gI g, 40, .inl s1)), (q9, .inl (gI g, 40, .inl s2)), (q10, .inl (gI g, 40, .inl s3))] := hD
  refine lv_iconst (v := (nI 0)) hx hb d_Rdr_assemble_9 (by decide) ?_
  refine lv_istore_n (lv' := [(1, .int (nI 0)), (0, .ref q3)]) hx hb d_Rdr_assemble_10 rfl hl (by decide) rfl (fun ls hl => ?_)
  refine lv_iconst (v := (nI 0)) hx hb d_Rdr_assemble_11 (by decide) ?_
  refine lv_istore_n (lv' := [(2, .int (nI 0)), (1, .int (nI 0)), (0, .ref q3)]) hx hb d_Rdr_assemble_12 rfl hl (by decide) rfl (fun ls hl => ?_)
  refine lv_iconst (v := (nI 0)) hx hb d_Rdr_assemble_13 (by decide) ?_
  refine lv_istore_n (lv' := [(3, .int (nI 0)), (2, .int (nI 0)), (1, .int (nI 0)), (0, .ref q3)]) hx hb d_Rdr_assemble_14 rfl hl (by decide) rfl (fun ls hl => ?_)
  refine lv_iconst (v := (nI 0)) hx hb d_Rdr_assemble_15 (by decide) ?_
  refine lv_istore (lv' := [(4, .int (nI 0)), (3, .int (nI 0)), (2, .int (nI 0)), (1, .int (nI 0)), (0, .ref q3)]) hx hb d_Rdr_assemble_16 hl (by decide) rfl (fun ls hl => ?_)
  refine sd_loop (fun (x : Heap × List Loc × Array Slot × Nat × Nat × Nat × Nat × Int32 × AS × (Nat → Int32) × (Nat → Int32) × (Nat → Int32) × (Nat → Int32)) => match x with | (H, locs, ls, i, bh, h9, cc, fp1, st, pw1, t1, t2, t3) => lv_has ls 5 [(4, .int (nI i)), (3, .int (nI bh)), (2, .int (nI h9)), (1, .int (nI cc)), (0, .ref q3)] ∧ sdP g [(q3, .inr (4, [.ref q1, .ref q2, .ref q7, .int fp1])), (q1, .inr (6, [.ref q5, .int (nI n)])), (q5, .inl (gB g, 2000, .inl f)), (q2, .inr (3, [.ref q6, .int (nI (wn st))])), (q6, .inl (gI g, 600, .inl pw1)), (q7, .inr (5, [.ref q1, .ref q8, .ref q9, .ref q10, .int (nI (sn st))])), (q8, .inl (gI g, 40, .inl t1)), (q9, .inl (gI g, 40, .inl t2)), (q10, .inl (gI g, 40, .inl t3))] H ∧ va_D A [(q3, .inr (4, [.ref q1, .ref q2, .ref q7, .int fp1])), (q1, .inr (6, [.ref q5, .int (nI n)])), (q5, .inl (gB g, 2000, .inl f)), (q2, .inr (3, [.ref q6, .int (nI (wn st))])), (q6, .inl (gI g, 600, .inl pw1)), (q7, .inr (5, [.ref q1, .ref q8, .ref q9, .ref q10, .int (nI (sn st))])), (q8, .inl (gI g, 40, .inl t1)), (q9, .inl (gI g, 40, .inl t2)), (q10, .inl (gI g, 40, .inl t3))] ∧ va_S A s.heap H locs ∧ (i ≤ n) ∧ (bh ≤ n) ∧ (PR st pw1) ∧ (SR st t1 t2 t3) ∧ (cc ≤ 3) ∧ (h9 ≤ 1) ∧ ((cc = 0 ∧ fp1 = -1 ∧ ∃ f0, n - (if i < bh then bh else i) < f0 ∧ asm tx n (n + 1) 0 0 E0 = asm tx n f0 (if i < bh then bh else i) h9 st) ∨ (¬ cc = 0 ∧ ∃ k, fp1 = nI k ∧ asm tx n (n + 1) 0 0 E0 = (cc, k, st)))) (fun (x : Heap × List Loc × Array Slot × Nat × Nat × Nat × Nat × Int32 × AS × (Nat → Int32) × (Nat → Int32) × (Nat → Int32) × (Nat → Int32)) => match x with | (H, locs, ls, i, bh, h9, cc, fp1, st, pw1, t1, t2, t3) => n - i) (fun x => x.1) (fun x => x.2.1) (fun (x : Heap × List Loc × Array Slot × Nat × Nat × Nat × Nat × Int32 × AS × (Nat → Int32) × (Nat → Int32) × (Nat → Int32) × (Nat → Int32)) => match x with | (H, locs, ls, i, bh, h9, cc, fp1, st, pw1, t1, t2, t3) => 0) (fun (x : Heap × List Loc × Array Slot × Nat × Nat × Nat × Nat × Int32 × AS × (Nat → Int32) × (Nat → Int32) × (Nat → Int32) × (Nat → Int32)) => match x with | (H, locs, ls, i, bh, h9, cc, fp1, st, pw1, t1, t2, t3) => 0) (fun x => F0 m 18 x.2.2.1 []) (fun x hI ih => ?_) (H, _, ls, 0, 0, 0, 0, -1, E0, pw, s1, s2, s3) ⟨lv_sub hl [0, 1, 2, 3, 4] rfl, hP.sub [2, 0, 1, 3, 4, 5, 6, 7, 8] rfl, hD.sub [2, 0, 1, 3, 4, 5, 6, 7, 8] (by decide) rfl, hS, Nat.zero_le _, Nat.zero_le _, PR_E0 _, SR_E0 _ _ _, by decide, by decide, Or.inl ⟨rfl, rfl, n + 1, by simp, rfl⟩⟩
  obtain ⟨H, locs, ls, i, bh, h9, cc, fp1, st, pw1, t1, t2, t3⟩ := x
  obtain ⟨hl, hP, hD, hS, h1, h2, hPR, hSR, hc3, hh1, hR⟩ := hI
  show W p l ev _ s m _ below meth c H locs (0) (0) _ (F0 m 18 ls [])
  have hP : sdP g [(q3, .inr (4, [.ref q1, .ref q2, .ref q7, .int fp1])), (q1, .inr (6, [.ref q5, .int (nI n)])), (q5, .inl (gB g, 2000, .inl f)), (q2, .inr (3, [.ref q6, .int (nI (wn st))])), (q6, .inl (gI g, 600, .inl pw1)), (q7, .inr (5, [.ref q1, .ref q8, .ref q9, .ref q10, .int (nI (sn st))])), (q8, .inl (gI g, 40, .inl t1)), (q9, .inl (gI g, 40, .inl t2)), (q10, .inl (gI g, 40, .inl t3))] H := hP
  have hD : va_D A [(q3, .inr (4, [.ref q1, .ref q2, .ref q7, .int fp1])), (q1, .inr (6, [.ref q5, .int (nI n)])), (q5, .inl (gB g, 2000, .inl f)), (q2, .inr (3, [.ref q6, .int (nI (wn st))])), (q6, .inl (gI g, 600, .inl pw1)), (q7, .inr (5, [.ref q1, .ref q8, .ref q9, .ref q10, .int (nI (sn st))])), (q8, .inl (gI g, 40, .inl t1)), (q9, .inl (gI g, 40, .inl t2)), (q10, .inl (gI g, 40, .inl t3))] := hD
  refine lv_iload hx hb d_Rdr_assemble_18 (lv_at hl 0 rfl) ?_
  refine lv_aload_n hx hb d_Rdr_assemble_20 rfl (lv_at hl 4 rfl) ?_
  refine va_get (D := g.1) (ci := 4) (v := .ref q1) (C := "SignDesk$Reader") (T := F_Rdr) (N := 4) hx hb hts in_Rdr hown hK hP 0 rfl rfl 0 (by decide) (hts _ k_101) (fun _ h9 => h9) rfl d_Rdr_assemble_21 ?_
  refine sd_ri (va_runV (As := []) (rest := [.int (nI i)]) ⟨hx, hb, hml, hown, hts⟩ (c_Txt_size l g q1 q5 n f tx hT) (cwV 0 hts (sd_gV k_192 k_193 k_194 k_24 k_195) rfl rfl rfl (by decide +kernel) ⟨Nat.le_of_ble_eq_true rfl, Nat.le_of_ble_eq_true rfl⟩) (sd_preV hK hE (sd_fr hS hA0) (hP.sub (ws' := [(q1, .inr (6, [.ref q5, .int (nI n)])), (q5, .inl (gB g, 2000, .inl f))]) [1, 2] rfl) rfl rfl) rfl rfl hl.1 rfl (lv_room (Nat.le_of_ble_eq_true rfl)) d_Rdr_assemble_24 ⟨Nat.zero_le _, Nat.zero_le _⟩) (fun r2 er2 => ?_)
  subst er2
  refine lv_icmp_ge (tgt := 145) hx hb d_Rdr_assemble_27 (by decide) (fun c3 => ?_) (fun c3 => ?_)
  · have c3 := (nI_leI (by omega) (by omega)).mp c3
    rcases hR with ⟨hc0, hfp, f0, hf0, hRes⟩ | ⟨hc0, k, hfp, hRes⟩
    · have eP : (if i < bh then bh else i) = n := by split <;> omega
      rw [eP] at hRes
      have hRes := hRes.trans (asm_end (Nat.le_refl n))
      refine lv_iload_n hx hb d_Rdr_assemble_145 rfl (lv_at hl 3 rfl) ?_
      refine lv_if_ne (tgt := 156) hx hb d_Rdr_assemble_146 (by decide) (fun c4 => ?_) (fun c4 => ?_)
      · have c4 := mt (nI_eq (b := 0) (by omega) (by omega)).mpr c4
        exact absurd hc0 c4
      · have c4 := (nI_eq (b := 0) (by omega) (by omega)).mp c4
        have hAI : AInv st := by
          have h := asm_inv (tx := tx) (n := n) (n + 1) 0 0 E0 AInv_E0 (by rw [hRes])
          rw [hRes] at h; exact h
        refine lv_aload_n hx hb d_Rdr_assemble_149 rfl (lv_at hl 4 rfl) ?_
        have hPc := hP.sub (ws' := [(q3, .inr (4, [.ref q1, .ref q2, .ref q7, .int fp1])), (q2, .inr (3, [.ref q6, .int (nI (wn st))])), (q6, .inl (gI g, 600, .inl pw1)), (q7, .inr (5, [.ref q1, .ref q8, .ref q9, .ref q10, .int (nI (sn st))])), (q8, .inl (gI g, 40, .inl t1)), (q9, .inl (gI g, 40, .inl t2)), (q10, .inl (gI g, 40, .inl t3))]) [0, 3, 4, 5, 6, 7, 8] rfl
        have hDc := hD.sub (ws' := [(q3, .inr (4, [.ref q1, .ref q2, .ref q7, .int fp1])), (q2, .inr (3, [.ref q6, .int (nI (wn st))])), (q6, .inl (gI g, 600, .inl pw1)), (q7, .inr (5, [.ref q1, .ref q8, .ref q9, .ref q10, .int (nI (sn st))])), (q8, .inl (gI g, 40, .inl t1)), (q9, .inl (gI g, 40, .inl t2)), (q10, .inl (gI g, 40, .inl t3))]) [0, 3, 4, 5, 6, 7, 8] (by decide) rfl
        have hFc := va_free (wc := [(q3, .inr (4, [.ref q1, .ref q2, .ref q7, .int fp1])), (q2, .inr (3, [.ref q6, .int (nI (wn st))])), (q6, .inl (gI g, 600, .inl pw1)), (q7, .inr (5, [.ref q1, .ref q8, .ref q9, .ref q10, .int (nI (sn st))])), (q8, .inl (gI g, 40, .inl t1)), (q9, .inl (gI g, 40, .inl t2)), (q10, .inl (gI g, 40, .inl t3))]) hD hS hA [0, 3, 4, 5, 6, 7, 8] rfl
        refine sd_cv (va_runV (As := []) (rest := []) ⟨hx, hb, hml, hown, hts⟩ (c_Rdr_fillInSymbols l g q3 q1 q2 q7 q6 q8 q9 q10 fp1 st pw1 t1 t2 t3 hPR hSR hAI H.size) (cwV 0 hts (sd_gV k_359 k_361 k_7 k_26 k_362) rfl rfl rfl (by decide +kernel) ⟨Nat.le_of_ble_eq_true rfl, Nat.le_of_ble_eq_true rfl⟩) (sd_preVU hK hE hS hA0 hs0 hPc hDc rfl rfl) rfl rfl hl.1 rfl (lv_room (Nat.le_of_ble_eq_true rfl)) d_Rdr_assemble_150 ⟨Nat.zero_le _, Nat.zero_le _⟩) hS hFc (fun u H1 locs hw hP1 hD1 hk1 hS => ?_)
        obtain ⟨pw2, t4⟩ := u
        obtain ⟨hP, hD⟩ := va_join (wr := [(q1, .inr (6, [.ref q5, .int (nI n)])), (q5, .inl (gB g, 2000, .inl f))]) (w1 := [(q3, .inr (4, [.ref q1, .ref q2, .ref q7, .int fp1])), (q2, .inr (3, [.ref q6, .int (nI (wn st))])), (q6, .inl (gI g, 600, .inl pw2)), (q7, .inr (5, [.ref q1, .ref q8, .ref q9, .ref q10, .int (nI (sn st))])), (q8, .inl (gI g, 40, .inl t1)), (q9, .inl (gI g, 40, .inl t2)), (q10, .inl (gI g, 40, .inl t4))]) hP hD [0, 3, 4, 5, 6, 7, 8] [1, 2] rfl rfl (by decide) (by decide) hk1 hFc hP1 hD1
        clear hPc hDc hFc hk1 hP1 hD1
        generalize H1 = H at hP hS ⊢
        have hP : sdP g [(q1, .inr (6, [.ref q5, .int (nI n)])), (q5, .inl (gB g, 2000, .inl f)), (q3, .inr (4, [.ref q1, .ref q2, .ref q7, .int fp1])), (q2, .inr (3, [.ref q6, .int (nI (wn st))])), (q6, .inl (gI g, 600, .inl pw2)), (q7, .inr (5, [.ref q1, .ref q8, .ref q9, .ref q10, .int (nI (sn st))])), (q8, .inl (gI g, 40, .inl t1)), (q9, .inl (gI g, 40, .inl t2)), (q10, .inl (gI g, 40, .inl t4))] H := hP
        have hD : va_D A [(q1, .inr (6, [.ref q5, .int (nI n)])), (q5, .inl (gB g, 2000, .inl f)), (q3, .inr (4, [.ref q1, .ref q2, .ref q7, .int fp1])), (q2, .inr (3, [.ref q6, .int (nI (wn st))])), (q6, .inl (gI g, 600, .inl pw2)), (q7, .inr (5, [.ref q1, .ref q8, .ref q9, .ref q10, .int (nI (sn st))])), (q8, .inl (gI g, 40, .inl t1)), (q9, .inl (gI g, 40, .inl t2)), (q10, .inl (gI g, 40, .inl t4))] := hD
        refine lv_goto (tgt := 160) hx hb d_Rdr_assemble_153 (by decide) ?_
        refine lv_iload_n hx hb d_Rdr_assemble_160 rfl (lv_at hl 3 rfl) ?_
        have hP9 := hP.sub (ws' := [(q3, .inr (4, [.ref q1, .ref q2, .ref q7, .int fp1])), (q1, .inr (6, [.ref q5, .int (nI n)])), (q5, .inl (gB g, 2000, .inl f)), (q2, .inr (3, [.ref q6, .int (nI (wn st))])), (q6, .inl (gI g, 600, .inl pw2)), (q7, .inr (5, [.ref q1, .ref q8, .ref q9, .ref q10, .int (nI (sn st))])), (q8, .inl (gI g, 40, .inl t1)), (q9, .inl (gI g, 40, .inl t2)), (q10, .inl (gI g, 40, .inl t4))]) [2, 0, 1, 3, 4, 5, 6, 7, 8] rfl
        have hD9 := hD.sub (ws' := [(q3, .inr (4, [.ref q1, .ref q2, .ref q7, .int fp1])), (q1, .inr (6, [.ref q5, .int (nI n)])), (q5, .inl (gB g, 2000, .inl f)), (q2, .inr (3, [.ref q6, .int (nI (wn st))])), (q6, .inl (gI g, 600, .inl pw2)), (q7, .inr (5, [.ref q1, .ref q8, .ref q9, .ref q10, .int (nI (sn st))])), (q8, .inl (gI g, 40, .inl t1)), (q9, .inl (gI g, 40, .inl t2)), (q10, .inl (gI g, 40, .inl t4))]) [2, 0, 1, 3, 4, 5, 6, 7, 8] (by decide) rfl
        exact W.iret (v := (nI cc)) hx hb hr (fun t ht hW => ⟨⟨_, (wn st, pw2, fp1, sn st, t1, t2, t4), rfl, by
            rw [hRes]
            exact ⟨by rw [hc0], fun _ => ⟨hfp, rfl, rfl, hw⟩, fun h => absurd rfl h⟩, by rw [ht]; exact hP9, by rw [hAe]; exact hD9⟩, hS.F ht⟩) hS.2.2 d_Rdr_assemble_161
    · refine lv_iload_n hx hb d_Rdr_assemble_145 rfl (lv_at hl 3 rfl) ?_
      refine lv_if_ne (tgt := 156) hx hb d_Rdr_assemble_146 (by decide) (fun c6 => ?_) (fun c6 => ?_)
      · have c6 := mt (nI_eq (b := 0) (by omega) (by omega)).mpr c6
        refine lv_aload_n hx hb d_Rdr_assemble_156 rfl (lv_at hl 4 rfl) ?_
        have hPc := hP.sub (ws' := [(q3, .inr (4, [.ref q1, .ref q2, .ref q7, .int fp1])), (q2, .inr (3, [.ref q6, .int (nI (wn st))])), (q6, .inl (gI g, 600, .inl pw1)), (q7, .inr (5, [.ref q1, .ref q8, .ref q9, .ref q10, .int (nI (sn st))])), (q8, .inl (gI g, 40, .inl t1)), (q9, .inl (gI g, 40, .inl t2)), (q10, .inl (gI g, 40, .inl t3))]) [0, 3, 4, 5, 6, 7, 8] rfl
        have hDc := hD.sub (ws' := [(q3, .inr (4, [.ref q1, .ref q2, .ref q7, .int fp1])), (q2, .inr (3, [.ref q6, .int (nI (wn st))])), (q6, .inl (gI g, 600, .inl pw1)), (q7, .inr (5, [.ref q1, .ref q8, .ref q9, .ref q10, .int (nI (sn st))])), (q8, .inl (gI g, 40, .inl t1)), (q9, .inl (gI g, 40, .inl t2)), (q10, .inl (gI g, 40, .inl t3))]) [0, 3, 4, 5, 6, 7, 8] (by decide) rfl
        have hFc := va_free (wc := [(q3, .inr (4, [.ref q1, .ref q2, .ref q7, .int fp1])), (q2, .inr (3, [.ref q6, .int (nI (wn st))])), (q6, .inl (gI g, 600, .inl pw1)), (q7, .inr (5, [.ref q1, .ref q8, .ref q9, .ref q10, .int (nI (sn st))])), (q8, .inl (gI g, 40, .inl t1)), (q9, .inl (gI g, 40, .inl t2)), (q10, .inl (gI g, 40, .inl t3))]) hD hS hA [0, 3, 4, 5, 6, 7, 8] rfl
        refine sd_cv (va_runV (As := []) (rest := []) ⟨hx, hb, hml, hown, hts⟩ (c_Rdr_forget l g q3 q1 q2 q7 q6 q8 q9 q10 fp1 (nI (wn st)) (nI (sn st)) pw1 t1 t2 t3 H.size) (cwV 0 hts (sd_gV k_180 k_182 k_0 k_26 k_183) rfl rfl rfl (by decide +kernel) ⟨Nat.le_of_ble_eq_true rfl, Nat.le_of_ble_eq_true rfl⟩) (sd_preVU hK hE hS hA0 hs0 hPc hDc rfl rfl) rfl rfl hl.1 rfl (lv_room (Nat.le_of_ble_eq_true rfl)) d_Rdr_assemble_157 ⟨Nat.zero_le _, Nat.zero_le _⟩) hS hFc (fun u H1 locs hw hP1 hD1 hk1 hS => ?_)
        obtain ⟨hP, hD⟩ := va_join (wr := [(q1, .inr (6, [.ref q5, .int (nI n)])), (q5, .inl (gB g, 2000, .inl f))]) (w1 := [(q3, .inr (4, [.ref q1, .ref q2, .ref q7, .int fp1])), (q2, .inr (3, [.ref q6, .int (nI 0)])), (q6, .inl (gI g, 600, .inl pw1)), (q7, .inr (5, [.ref q1, .ref q8, .ref q9, .ref q10, .int (nI 0)])), (q8, .inl (gI g, 40, .inl t1)), (q9, .inl (gI g, 40, .inl t2)), (q10, .inl (gI g, 40, .inl t3))]) hP hD [0, 3, 4, 5, 6, 7, 8] [1, 2] rfl rfl (by decide) (by decide) hk1 hFc hP1 hD1
        clear hPc hDc hFc hk1 hP1 hD1
        generalize H1 = H at hP hS ⊢
        have hP : sdP g [(q1, .inr (6, [.ref q5, .int (nI n)])), (q5, .inl (gB g, 2000, .inl f)), (q3, .inr (4, [.ref q1, .ref q2, .ref q7, .int fp1])), (q2, .inr (3, [.ref q6, .int (nI 0)])), (q6, .inl (gI g, 600, .inl pw1)), (q7, .inr (5, [.ref q1, .ref q8, .ref q9, .ref q10, .int (nI 0)])), (q8, .inl (gI g, 40, .inl t1)), (q9, .inl (gI g, 40, .inl t2)), (q10, .inl (gI g, 40, .inl t3))] H := hP
        have hD : va_D A [(q1, .inr (6, [.ref q5, .int (nI n)])), (q5, .inl (gB g, 2000, .inl f)), (q3, .inr (4, [.ref q1, .ref q2, .ref q7, .int fp1])), (q2, .inr (3, [.ref q6, .int (nI 0)])), (q6, .inl (gI g, 600, .inl pw1)), (q7, .inr (5, [.ref q1, .ref q8, .ref q9, .ref q10, .int (nI 0)])), (q8, .inl (gI g, 40, .inl t1)), (q9, .inl (gI g, 40, .inl t2)), (q10, .inl (gI g, 40, .inl t3))] := hD
        refine lv_iload_n hx hb d_Rdr_assemble_160 rfl (lv_at hl 3 rfl) ?_
        have hP9 := hP.sub (ws' := [(q3, .inr (4, [.ref q1, .ref q2, .ref q7, .int fp1])), (q1, .inr (6, [.ref q5, .int (nI n)])), (q5, .inl (gB g, 2000, .inl f)), (q2, .inr (3, [.ref q6, .int (nI 0)])), (q6, .inl (gI g, 600, .inl pw1)), (q7, .inr (5, [.ref q1, .ref q8, .ref q9, .ref q10, .int (nI 0)])), (q8, .inl (gI g, 40, .inl t1)), (q9, .inl (gI g, 40, .inl t2)), (q10, .inl (gI g, 40, .inl t3))]) [2, 0, 1, 3, 4, 5, 6, 7, 8] rfl
        have hD9 := hD.sub (ws' := [(q3, .inr (4, [.ref q1, .ref q2, .ref q7, .int fp1])), (q1, .inr (6, [.ref q5, .int (nI n)])), (q5, .inl (gB g, 2000, .inl f)), (q2, .inr (3, [.ref q6, .int (nI 0)])), (q6, .inl (gI g, 600, .inl pw1)), (q7, .inr (5, [.ref q1, .ref q8, .ref q9, .ref q10, .int (nI 0)])), (q8, .inl (gI g, 40, .inl t1)), (q9, .inl (gI g, 40, .inl t2)), (q10, .inl (gI g, 40, .inl t3))]) [2, 0, 1, 3, 4, 5, 6, 7, 8] (by decide) rfl
        exact W.iret (v := (nI cc)) hx hb hr (fun t ht hW => ⟨⟨_, (0, pw1, fp1, 0, t1, t2, t3), rfl, by
            rw [hRes]
            exact ⟨rfl, fun h => absurd h hc0, fun _ => ⟨hfp, rfl, rfl⟩⟩, by rw [ht]; exact hP9, by rw [hAe]; exact hD9⟩, hS.F ht⟩) hS.2.2 d_Rdr_assemble_161
      · have c6 := (nI_eq (b := 0) (by omega) (by omega)).mp c6
        exact absurd c6 hc0
  · have c3 := mt (nI_leI (by omega) (by omega)).mpr c3
    have hi : i < n := by omega
    refine lv_iload_n hx hb d_Rdr_assemble_30 rfl (lv_at hl 3 rfl) ?_
    refine lv_if_ne (tgt := 145) hx hb d_Rdr_assemble_31 (by decide) (fun c8 => ?_) (fun c8 => ?_)
    · have c8 := mt (nI_eq (b := 0) (by omega) (by omega)).mpr c8
      obtain ⟨k, hfp, hRes⟩ : ∃ k, fp1 = nI k ∧ asm tx n (n + 1) 0 0 E0 = (cc, k, st) := hR.elim (fun h => absurd h.1 c8) (fun h => h.2)
      have hc0 := c8
      refine lv_iload_n hx hb d_Rdr_assemble_145 rfl (lv_at hl 3 rfl) ?_
      refine lv_if_ne (tgt := 156) hx hb d_Rdr_assemble_146 (by decide) (fun c9 => ?_) (fun c9 => ?_)
      · have c9 := mt (nI_eq (b := 0) (by omega) (by omega)).mpr c9
        refine lv_aload_n hx hb d_Rdr_assemble_156 rfl (lv_at hl 4 rfl) ?_
        have hPc := hP.sub (ws' := [(q3, .inr (4, [.ref q1, .ref q2, .ref q7, .int fp1])), (q2, .inr (3, [.ref q6, .int (nI (wn st))])), (q6, .inl (gI g, 600, .inl pw1)), (q7, .inr (5, [.ref q1, .ref q8, .ref q9, .ref q10, .int (nI (sn st))])), (q8, .inl (gI g, 40, .inl t1)), (q9, .inl (gI g, 40, .inl t2)), (q10, .inl (gI g, 40, .inl t3))]) [0, 3, 4, 5, 6, 7, 8] rfl
        have hDc := hD.sub (ws' := [(q3, .inr (4, [.ref q1, .ref q2, .ref q7, .int fp1])), (q2, .inr (3, [.ref q6, .int (nI (wn st))])), (q6, .inl (gI g, 600, .inl pw1)), (q7, .inr (5, [.ref q1, .ref q8, .ref q9, .ref q10, .int (nI (sn st))])), (q8, .inl (gI g, 40, .inl t1)), (q9, .inl (gI g, 40, .inl t2)), (q10, .inl (gI g, 40, .inl t3))]) [0, 3, 4, 5, 6, 7, 8] (by decide) rfl
        have hFc := va_free (wc := [(q3, .inr (4, [.ref q1, .ref q2, .ref q7, .int fp1])), (q2, .inr (3, [.ref q6, .int (nI (wn st))])), (q6, .inl (gI g, 600, .inl pw1)), (q7, .inr (5, [.ref q1, .ref q8, .ref q9, .ref q10, .int (nI (sn st))])), (q8, .inl (gI g, 40, .inl t1)), (q9, .inl (gI g, 40, .inl t2)), (q10, .inl (gI g, 40, .inl t3))]) hD hS hA [0, 3, 4, 5, 6, 7, 8] rfl
        refine sd_cv (va_runV (As := []) (rest := []) ⟨hx, hb, hml, hown, hts⟩ (c_Rdr_forget l g q3 q1 q2 q7 q6 q8 q9 q10 fp1 (nI (wn st)) (nI (sn st)) pw1 t1 t2 t3 H.size) (cwV 0 hts (sd_gV k_180 k_182 k_0 k_26 k_183) rfl rfl rfl (by decide +kernel) ⟨Nat.le_of_ble_eq_true rfl, Nat.le_of_ble_eq_true rfl⟩) (sd_preVU hK hE hS hA0 hs0 hPc hDc rfl rfl) rfl rfl hl.1 rfl (lv_room (Nat.le_of_ble_eq_true rfl)) d_Rdr_assemble_157 ⟨Nat.zero_le _, Nat.zero_le _⟩) hS hFc (fun u H1 locs hw hP1 hD1 hk1 hS => ?_)
        obtain ⟨hP, hD⟩ := va_join (wr := [(q1, .inr (6, [.ref q5, .int (nI n)])), (q5, .inl (gB g, 2000, .inl f))]) (w1 := [(q3, .inr (4, [.ref q1, .ref q2, .ref q7, .int fp1])), (q2, .inr (3, [.ref q6, .int (nI 0)])), (q6, .inl (gI g, 600, .inl pw1)), (q7, .inr (5, [.ref q1, .ref q8, .ref q9, .ref q10, .int (nI 0)])), (q8, .inl (gI g, 40, .inl t1)), (q9, .inl (gI g, 40, .inl t2)), (q10, .inl (gI g, 40, .inl t3))]) hP hD [0, 3, 4, 5, 6, 7, 8] [1, 2] rfl rfl (by decide) (by decide) hk1 hFc hP1 hD1
        clear hPc hDc hFc hk1 hP1 hD1
        generalize H1 = H at hP hS ⊢
        have hP : sdP g [(q1, .inr (6, [.ref q5, .int (nI n)])), (q5, .inl (gB g, 2000, .inl f)), (q3, .inr (4, [.ref q1, .ref q2, .ref q7, .int fp1])), (q2, .inr (3, [.ref q6, .int (nI 0)])), (q6, .inl (gI g, 600, .inl pw1)), (q7, .inr (5, [.ref q1, .ref q8, .ref q9, .ref q10, .int (nI 0)])), (q8, .inl (gI g, 40, .inl t1)), (q9, .inl (gI g, 40, .inl t2)), (q10, .inl (gI g, 40, .inl t3))] H := hP
        have hD : va_D A [(q1, .inr (6, [.ref q5, .int (nI n)])), (q5, .inl (gB g, 2000, .inl f)), (q3, .inr (4, [.ref q1, .ref q2, .ref q7, .int fp1])), (q2, .inr (3, [.ref q6, .int (nI 0)])), (q6, .inl (gI g, 600, .inl pw1)), (q7, .inr (5, [.ref q1, .ref q8, .ref q9, .ref q10, .int (nI 0)])), (q8, .inl (gI g, 40, .inl t1)), (q9, .inl (gI g, 40, .inl t2)), (q10, .inl (gI g, 40, .inl t3))] := hD
        refine lv_iload_n hx hb d_Rdr_assemble_160 rfl (lv_at hl 3 rfl) ?_
        have hP9 := hP.sub (ws' := [(q3, .inr (4, [.ref q1, .ref q2, .ref q7, .int fp1])), (q1, .inr (6, [.ref q5, .int (nI n)])), (q5, .inl (gB g, 2000, .inl f)), (q2, .inr (3, [.ref q6, .int (nI 0)])), (q6, .inl (gI g, 600, .inl pw1)), (q7, .inr (5, [.ref q1, .ref q8, .ref q9, .ref q10, .int (nI 0)])), (q8, .inl (gI g, 40, .inl t1)), (q9, .inl (gI g, 40, .inl t2)), (q10, .inl (gI g, 40, .inl t3))]) [2, 0, 1, 3, 4, 5, 6, 7, 8] rfl
        have hD9 := hD.sub (ws' := [(q3, .inr (4, [.ref q1, .ref q2, .ref q7, .int fp1])), (q1, .inr (6, [.ref q5, .int (nI n)])), (q5, .inl (gB g, 2000, .inl f)), (q2, .inr (3, [.ref q6, .int (nI 0)])), (q6, .inl (gI g, 600, .inl pw1)), (q7, .inr (5, [.ref q1, .ref q8, .ref q9, .ref q10, .int (nI 0)])), (q8, .inl (gI g, 40, .inl t1)), (q9, .inl (gI g, 40, .inl t2)), (q10, .inl (gI g, 40, .inl t3))]) [2, 0, 1, 3, 4, 5, 6, 7, 8] (by decide) rfl
        exact W.iret (v := (nI cc)) hx hb hr (fun t ht hW => ⟨⟨_, (0, pw1, fp1, 0, t1, t2, t3), rfl, by
            rw [hRes]
            exact ⟨rfl, fun h => absurd h hc0, fun _ => ⟨hfp, rfl, rfl⟩⟩, by rw [ht]; exact hP9, by rw [hAe]; exact hD9⟩, hS.F ht⟩) hS.2.2 d_Rdr_assemble_161
      · have c9 := (nI_eq (b := 0) (by omega) (by omega)).mp c9
        exact absurd c9 hc0
    · have c8 := (nI_eq (b := 0) (by omega) (by omega)).mp c8
      obtain ⟨hfp, f0, hf0, hRes⟩ := hR.elim (fun h => h.2) (fun h => absurd c8 h.1)
      have hc0 : cc = 0 := c8
      refine lv_iload hx hb d_Rdr_assemble_34 (lv_at hl 0 rfl) ?_
      refine lv_iload_n hx hb d_Rdr_assemble_36 rfl (lv_at hl 1 rfl) ?_
      refine lv_icmp_lt (tgt := 139) hx hb d_Rdr_assemble_37 (by decide) (fun c11 => ?_) (fun c11 => ?_)
      · have c11 := (nI_ltI (by omega) (by omega)).mp c11
        refine lv_iinc (v := (nI (i + 1))) (lv' := [(4, .int (nI (i + 1))), (3, .int (nI bh)), (2, .int (nI h9)), (1, .int (nI cc)), (0, .ref q3)]) hx hb d_Rdr_assemble_139 hl (k := 0) rfl (nI_1 _) (by decide) rfl (fun ls hl => ?_)
        refine lv_goto (tgt := 18) hx hb d_Rdr_assemble_142 (by decide) ?_
        exact ih (H, locs, ls, i + 1, bh, h9, cc, fp1, st, pw1, t1, t2, t3) ⟨lv_sub hl [0, 1, 2, 3, 4] rfl, hP.sub [0, 1, 2, 3, 4, 5, 6, 7, 8] rfl, hD.sub [0, 1, 2, 3, 4, 5, 6, 7, 8] (by decide) rfl, hS, by omega, h2, hPR, hSR, hc3, hh1, Or.inl ⟨hc0, hfp, f0, by
            have e9 : (if i + 1 < bh then bh else i + 1) = (if i < bh then bh else i) := by rw [if_pos c11]; split <;> omega
            rw [e9]; exact ⟨hf0, hRes⟩⟩⟩ (show n - (i + 1) < n - i by omega)
      · have c11 := mt (nI_ltI (by omega) (by omega)).mpr c11
        have eP : (if i < bh then bh else i) = i := if_neg c11
        rw [eP] at hf0 hRes
        obtain ⟨f1, rfl⟩ : ∃ f1, f0 = f1 + 1 := ⟨f0 - 1, by omega⟩
        refine lv_aload_n hx hb d_Rdr_assemble_40 rfl (lv_at hl 4 rfl) ?_
        refine va_get (D := g.1) (ci := 4) (v := .ref q1) (C := "SignDesk$Reader") (T := F_Rdr) (N := 4) hx hb hts in_Rdr hown hK hP 0 rfl rfl 0 (by decide) (hts _ k_101) (fun _ h9 => h9) rfl d_Rdr_assemble_41 ?_
        refine lv_iload hx hb d_Rdr_assemble_44 (lv_at hl 0 rfl) ?_
        refine sd_ri (va_runV (As := [.int (nI i)]) (rest := []) ⟨hx, hb, hml, hown, hts⟩ (c_Txt_isBlank l g q1 q5 n f tx hT i (by omega)) (cwV 1 hts (sd_gV k_196 k_197 k_198 k_24 k_199) rfl rfl rfl (by decide +kernel) ⟨Nat.le_of_ble_eq_true rfl, Nat.le_of_ble_eq_true rfl⟩) (sd_preV hK hE (sd_fr hS hA0) (hP.sub (ws' := [(q1, .inr (6, [.ref q5, .int (nI n)])), (q5, .inl (gB g, 2000, .inl f))]) [1, 2] rfl) rfl rfl) rfl rfl hl.1 rfl (lv_room (Nat.le_of_ble_eq_true rfl)) d_Rdr_assemble_46 ⟨Nat.zero_le _, Nat.zero_le _⟩) (fun r12 er12 => ?_)
        subst er12
        refine lv_if_eq (tgt := 55) hx hb d_Rdr_assemble_49 (by decide) (fun c13 => ?_) (fun c13 => ?_)
        · have c13 := sb_eq0.mp c13
          refine lv_aload_n hx hb d_Rdr_assemble_55 rfl (lv_at hl 4 rfl) ?_
          refine va_get (D := g.1) (ci := 4) (v := .ref q1) (C := "SignDesk$Reader") (T := F_Rdr) (N := 4) hx hb hts in_Rdr hown hK hP 0 rfl rfl 0 (by decide) (hts _ k_101) (fun _ h9 => h9) rfl d_Rdr_assemble_56 ?_
          refine lv_iload hx hb d_Rdr_assemble_59 (lv_at hl 0 rfl) ?_
          refine sd_ri (va_runV (As := [.int (nI i)]) (rest := []) ⟨hx, hb, hml, hown, hts⟩ (c_Txt_isLineEnd l g q1 q5 n f tx hT i (by omega)) (cwV 1 hts (sd_gV k_204 k_205 k_206 k_24 k_207) rfl rfl rfl (by decide +kernel) ⟨Nat.le_of_ble_eq_true rfl, Nat.le_of_ble_eq_true rfl⟩) (sd_preV hK hE (sd_fr hS hA0) (hP.sub (ws' := [(q1, .inr (6, [.ref q5, .int (nI n)])), (q5, .inl (gB g, 2000, .inl f))]) [1, 2] rfl) rfl rfl) rfl rfl hl.1 rfl (lv_room (Nat.le_of_ble_eq_true rfl)) d_Rdr_assemble_61 ⟨Nat.zero_le _, Nat.zero_le _⟩) (fun r14 er14 => ?_)
          subst er14
          refine lv_if_eq (tgt := 72) hx hb d_Rdr_assemble_64 (by decide) (fun c15 => ?_) (fun c15 => ?_)
          · have c15 := sb_eq0.mp c15
            refine lv_aload_n hx hb d_Rdr_assemble_72 rfl (lv_at hl 4 rfl) ?_
            refine va_get (D := g.1) (ci := 4) (v := .ref q1) (C := "SignDesk$Reader") (T := F_Rdr) (N := 4) hx hb hts in_Rdr hown hK hP 0 rfl rfl 0 (by decide) (hts _ k_101) (fun _ h9 => h9) rfl d_Rdr_assemble_73 ?_
            refine lv_iload hx hb d_Rdr_assemble_76 (lv_at hl 0 rfl) ?_
            refine sd_ri (va_runV (As := [.int (nI i)]) (rest := []) ⟨hx, hb, hml, hown, hts⟩ (c_Txt_isComment l g q1 q5 n f tx hT i (by omega)) (cwV 1 hts (sd_gV k_208 k_209 k_210 k_24 k_211) rfl rfl rfl (by decide +kernel) ⟨Nat.le_of_ble_eq_true rfl, Nat.le_of_ble_eq_true rfl⟩) (sd_preV hK hE (sd_fr hS hA0) (hP.sub (ws' := [(q1, .inr (6, [.ref q5, .int (nI n)])), (q5, .inl (gB g, 2000, .inl f))]) [1, 2] rfl) rfl rfl) rfl rfl hl.1 rfl (lv_room (Nat.le_of_ble_eq_true rfl)) d_Rdr_assemble_78 ⟨Nat.zero_le _, Nat.zero_le _⟩) (fun r16 er16 => ?_)
            subst er16
            refine lv_if_eq (tgt := 97) hx hb d_Rdr_assemble_81 (by decide) (fun c17 => ?_) (fun c17 => ?_)
            · have c17 := sb_eq0.mp c17
              have hns : ¬ isSt tx i := fun q => q.elim c15 (fun q => q.elim c13 c17)
              refine lv_aload_n hx hb d_Rdr_assemble_97 rfl (lv_at hl 4 rfl) ?_
              refine va_get (D := g.1) (ci := 4) (v := .ref q1) (C := "SignDesk$Reader") (T := F_Rdr) (N := 4) hx hb hts in_Rdr hown hK hP 0 rfl rfl 0 (by decide) (hts _ k_101) (fun _ h9 => h9) rfl d_Rdr_assemble_98 ?_
              refine lv_iload hx hb d_Rdr_assemble_101 (lv_at hl 0 rfl) ?_
              refine sd_ri (va_runV (As := [.int (nI i)]) (rest := []) ⟨hx, hb, hml, hown, hts⟩ (c_Txt_endOfInstruction l g q1 q5 n f tx hT i (by omega)) (cwV 1 hts (sd_gV k_217 k_218 k_219 k_24 k_220) rfl rfl rfl (by decide +kernel) ⟨Nat.le_of_ble_eq_true rfl, Nat.le_of_ble_eq_true rfl⟩) (sd_preV hK hE (sd_fr hS hA0) (hP.sub (ws' := [(q1, .inr (6, [.ref q5, .int (nI n)])), (q5, .inl (gB g, 2000, .inl f))]) [1, 2] rfl) rfl rfl) rfl rfl hl.1 rfl (lv_room (Nat.le_of_ble_eq_true rfl)) d_Rdr_assemble_103 ⟨Nat.zero_le _, Nat.zero_le _⟩) (fun r18 er18 => ?_)
              obtain ⟨z9, rfl, k1, k2, k3, k4⟩ := er18
              have k5 : i < z9 := by
                rcases Nat.lt_or_ge i z9 with q | q
                · exact q
                · have : z9 = i := by omega
                  subst this; exact absurd k4 hns
              refine lv_istore_n (lv' := [(3, .int (nI z9)), (4, .int (nI i)), (2, .int (nI h9)), (1, .int (nI cc)), (0, .ref q3)]) hx hb d_Rdr_assemble_106 rfl hl (by decide) rfl (fun ls hl => ?_)
              refine lv_iload_n hx hb d_Rdr_assemble_107 rfl (lv_at hl 2 rfl) ?_
              refine lv_if_eq (tgt := 115) hx hb d_Rdr_assemble_108 (by decide) (fun c19 => ?_) (fun c19 => ?_)
              · have c19 := (nI_eq (b := 0) (by omega) (by omega)).mp c19
                have hh0 : h9 = 0 := c19
                refine lv_aload_n hx hb d_Rdr_assemble_115 rfl (lv_at hl 4 rfl) ?_
                refine lv_iload hx hb d_Rdr_assemble_116 (lv_at hl 1 rfl) ?_
                refine lv_iload_n hx hb d_Rdr_assemble_118 rfl (lv_at hl 0 rfl) ?_
                have hPc := hP.sub (ws' := [(q3, .inr (4, [.ref q1, .ref q2, .ref q7, .int fp1])), (q1, .inr (6, [.ref q5, .int (nI n)])), (q5, .inl (gB g, 2000, .inl f)), (q2, .inr (3, [.ref q6, .int (nI (wn st))])), (q6, .inl (gI g, 600, .inl pw1)), (q7, .inr (5, [.ref q1, .ref q8, .ref q9, .ref q10, .int (nI (sn st))])), (q8, .inl (gI g, 40, .inl t1)), (q9, .inl (gI g, 40, .inl t2)), (q10, .inl (gI g, 40, .inl t3))]) [0, 1, 2, 3, 4, 5, 6, 7, 8] rfl
                have hDc := hD.sub (ws' := [(q3, .inr (4, [.ref q1, .ref q2, .ref q7, .int fp1])), (q1, .inr (6, [.ref q5, .int (nI n)])), (q5, .inl (gB g, 2000, .inl f)), (q2, .inr (3, [.ref q6, .int (nI (wn st))])), (q6, .inl (gI g, 600, .inl pw1)), (q7, .inr (5, [.ref q1, .ref q8, .ref q9, .ref q10, .int (nI (sn st))])), (q8, .inl (gI g, 40, .inl t1)), (q9, .inl (gI g, 40, .inl t2)), (q10, .inl (gI g, 40, .inl t3))]) [0, 1, 2, 3, 4, 5, 6, 7, 8] (by decide) rfl
                have hFc := va_free (wc := [(q3, .inr (4, [.ref q1, .ref q2, .ref q7, .int fp1])), (q1, .inr (6, [.ref q5, .int (nI n)])), (q5, .inl (gB g, 2000, .inl f)), (q2, .inr (3, [.ref q6, .int (nI (wn st))])), (q6, .inl (gI g, 600, .inl pw1)), (q7, .inr (5, [.ref q1, .ref q8, .ref q9, .ref q10, .int (nI (sn st))])), (q8, .inl (gI g, 40, .inl t1)), (q9, .inl (gI g, 40, .inl t2)), (q10, .inl (gI g, 40, .inl t3))]) hD hS hA [0, 1, 2, 3, 4, 5, 6, 7, 8] rfl
                refine sd_ci (va_runV (As := [.int (nI i), .int (nI z9)]) (rest := []) ⟨hx, hb, hml, hown, hts⟩ (c_Rdr_take l g q3 q1 q2 q7 q5 q6 q8 q9 q10 n fp1 f tx hT st pw1 t1 t2 t3 hPR hSR i z9 k5 (by omega) H.size) (cwV 2 hts (sd_gV k_223 k_225 k_1 k_26 k_226) rfl rfl rfl (by decide +kernel) ⟨Nat.le_of_ble_eq_true rfl, Nat.le_of_ble_eq_true rfl⟩) (sd_preVU hK hE hS hA0 hs0 hPc hDc rfl rfl) rfl rfl hl.1 rfl (lv_room (Nat.le_of_ble_eq_true rfl)) d_Rdr_assemble_119 ⟨Nat.zero_le _, Nat.zero_le _⟩) hS hFc (fun r20 u H1 locs hw hP1 hD1 hk1 hS => ?_)
                obtain ⟨st1, p1, u1, u2, u3⟩ := u
                obtain ⟨hP, hD⟩ := va_join (wr := []) (w1 := [(q3, .inr (4, [.ref q1, .ref q2, .ref q7, .int fp1])), (q1, .inr (6, [.ref q5, .int (nI n)])), (q5, .inl (gB g, 2000, .inl f)), (q2, .inr (3, [.ref q6, .int (nI (wn st1))])), (q6, .inl (gI g, 600, .inl p1)), (q7, .inr (5, [.ref q1, .ref q8, .ref q9, .ref q10, .int (nI (sn st1))])), (q8, .inl (gI g, 40, .inl u1)), (q9, .inl (gI g, 40, .inl u2)), (q10, .inl (gI g, 40, .inl u3))]) hP hD [0, 1, 2, 3, 4, 5, 6, 7, 8] [] rfl rfl (by decide) (by decide) hk1 hFc hP1 hD1
                clear hPc hDc hFc hk1 hP1 hD1
                generalize H1 = H at hP hS ⊢
                have hP : sdP g [(q3, .inr (4, [.ref q1, .ref q2, .ref q7, .int fp1])), (q1, .inr (6, [.ref q5, .int (nI n)])), (q5, .inl (gB g, 2000, .inl f)), (q2, .inr (3, [.ref q6, .int (nI (wn st1))])), (q6, .inl (gI g, 600, .inl p1)), (q7, .inr (5, [.ref q1, .ref q8, .ref q9, .ref q10, .int (nI (sn st1))])), (q8, .inl (gI g, 40, .inl u1)), (q9, .inl (gI g, 40, .inl u2)), (q10, .inl (gI g, 40, .inl u3))] H := hP
                have hD : va_D A [(q3, .inr (4, [.ref q1, .ref q2, .ref q7, .int fp1])), (q1, .inr (6, [.ref q5, .int (nI n)])), (q5, .inl (gB g, 2000, .inl f)), (q2, .inr (3, [.ref q6, .int (nI (wn st1))])), (q6, .inl (gI g, 600, .inl p1)), (q7, .inr (5, [.ref q1, .ref q8, .ref q9, .ref q10, .int (nI (sn st1))])), (q8, .inl (gI g, 40, .inl u1)), (q9, .inl (gI g, 40, .inl u2)), (q10, .inl (gI g, 40, .inl u3))] := hD
                obtain ⟨⟨c9, hc9, er20⟩, hPR1, hSR1⟩ := hw
                subst er20
                have hc9 : spTake tx i z9 st = (c9, st1) := hc9
                have hPR1 : PR st1 p1 := hPR1
                have hSR1 : SR st1 u1 u2 u3 := hSR1
                have hc93 : c9 ≤ 3 := by have h := spTake_3 (tx := tx) (a := i) (e := z9) (st := st); rw [hc9] at h; exact h
                rw [hh0] at hRes
                have hRes := hRes.trans (asm_take (f := f1) hi hns k1 k2 k3 k4 hc9)
                refine lv_istore_n (lv' := [(1, .int (nI c9)), (3, .int (nI z9)), (4, .int (nI i)), (2, .int (nI h9)), (0, .ref q3)]) hx hb d_Rdr_assemble_122 rfl hl (by decide) rfl (fun ls hl => ?_)
                refine lv_aload_n hx hb d_Rdr_assemble_123 rfl (lv_at hl 4 rfl) ?_
                refine lv_iload_n hx hb d_Rdr_assemble_124 rfl (lv_at hl 0 rfl) ?_
                refine lv_if_ne (tgt := 132) hx hb d_Rdr_assemble_125 (by decide) (fun c21 => ?_) (fun c21 => ?_)
                · have c21 := mt (nI_eq (b := 0) (by omega) (by omega)).mpr c21
                  rw [if_neg c21] at hRes
                  refine lv_iload hx hb d_Rdr_assemble_132 (lv_at hl 2 rfl) ?_
                  refine va_put (D := g.1) (ci := 4) (v := .int (nI i)) (ty := .int) (C := "SignDesk$Reader") (T := F_Rdr) (N := 4) hx hb hts in_Rdr t_Rdr t_Rdr_ok n_Rdr hown hK hP hD hS 0 rfl rfl 3 (by decide) (hts _ k_104) (fun _ h9 => h9) rfl (by decide +kernel) rfl rfl (Nat.le_of_ble_eq_true rfl) d_Rdr_assemble_134 (fun H locs hP hD hS => ?_)
                  have hP : sdP g [(q3, .inr (4, [.ref q1, .ref q2, .ref q7, .int (nI i)])), (q1, .inr (6, [.ref q5, .int (nI n)])), (q5, .inl (gB g, 2000, .inl f)), (q2, .inr (3, [.ref q6, .int (nI (wn st1))])), (q6, .inl (gI g, 600, .inl p1)), (q7, .inr (5, [.ref q1, .ref q8, .ref q9, .ref q10, .int (nI (sn st1))])), (q8, .inl (gI g, 40, .inl u1)), (q9, .inl (gI g, 40, .inl u2)), (q10, .inl (gI g, 40, .inl u3))] H := hP
                  have hD : va_D A [(q3, .inr (4, [.ref q1, .ref q2, .ref q7, .int (nI i)])), (q1, .inr (6, [.ref q5, .int (nI n)])), (q5, .inl (gB g, 2000, .inl f)), (q2, .inr (3, [.ref q6, .int (nI (wn st1))])), (q6, .inl (gI g, 600, .inl p1)), (q7, .inr (5, [.ref q1, .ref q8, .ref q9, .ref q10, .int (nI (sn st1))])), (q8, .inl (gI g, 40, .inl u1)), (q9, .inl (gI g, 40, .inl u2)), (q10, .inl (gI g, 40, .inl u3))] := hD
                  refine lv_iconst (v := (nI 1)) hx hb d_Rdr_assemble_137 (by decide) ?_
                  refine lv_istore_n (lv' := [(2, .int (nI 1)), (1, .int (nI c9)), (3, .int (nI z9)), (4, .int (nI i)), (0, .ref q3)]) hx hb d_Rdr_assemble_138 rfl hl (by decide) rfl (fun ls hl => ?_)
                  refine lv_iinc (v := (nI (i + 1))) (lv' := [(4, .int (nI (i + 1))), (2, .int (nI 1)), (1, .int (nI c9)), (3, .int (nI z9)), (0, .ref q3)]) hx hb d_Rdr_assemble_139 hl (k := 3) rfl (nI_1 _) (by decide) rfl (fun ls hl => ?_)
                  refine lv_goto (tgt := 18) hx hb d_Rdr_assemble_142 (by decide) ?_
                  exact ih (H, locs, ls, i + 1, z9, 1, c9, nI i, st1, p1, u1, u2, u3) ⟨lv_sub hl [0, 3, 1, 2, 4] rfl, hP.sub [0, 1, 2, 3, 4, 5, 6, 7, 8] rfl, hD.sub [0, 1, 2, 3, 4, 5, 6, 7, 8] (by decide) rfl, hS, by omega, k2, hPR1, hSR1, hc93, by decide, Or.inr ⟨c21, i, rfl, hRes⟩⟩ (show n - (i + 1) < n - i by omega)
                · have c21 := (nI_eq (b := 0) (by omega) (by omega)).mp c21
                  rw [if_pos c21] at hRes
                  refine lv_iconst (v := (-1)) hx hb d_Rdr_assemble_128 (by decide) ?_
                  refine lv_goto (tgt := 134) hx hb d_Rdr_assemble_129 (by decide) ?_
                  refine va_put (D := g.1) (ci := 4) (v := .int (-1)) (ty := .int) (C := "SignDesk$Reader") (T := F_Rdr) (N := 4) hx hb hts in_Rdr t_Rdr t_Rdr_ok n_Rdr hown hK hP hD hS 0 rfl rfl 3 (by decide) (hts _ k_104) (fun _ h9 => h9) rfl (by decide +kernel) rfl rfl (Nat.le_of_ble_eq_true rfl) d_Rdr_assemble_134 (fun H locs hP hD hS => ?_)
                  have hP : sdP g [(q3, .inr (4, [.ref q1, .ref q2, .ref q7, .int (-1)])), (q1, .inr (6, [.ref q5, .int (nI n)])), (q5, .inl (gB g, 2000, .inl f)), (q2, .inr (3, [.ref q6, .int (nI (wn st1))])), (q6, .inl (gI g, 600, .inl p1)), (q7, .inr (5, [.ref q1, .ref q8, .ref q9, .ref q10, .int (nI (sn st1))])), (q8, .inl (gI g, 40, .inl u1)), (q9, .inl (gI g, 40, .inl u2)), (q10, .inl (gI g, 40, .inl u3))] H := hP
                  have hD : va_D A [(q3, .inr (4, [.ref q1, .ref q2, .ref q7, .int (-1)])), (q1, .inr (6, [.ref q5, .int (nI n)])), (q5, .inl (gB g, 2000, .inl f)), (q2, .inr (3, [.ref q6, .int (nI (wn st1))])), (q6, .inl (gI g, 600, .inl p1)), (q7, .inr (5, [.ref q1, .ref q8, .ref q9, .ref q10, .int (nI (sn st1))])), (q8, .inl (gI g, 40, .inl u1)), (q9, .inl (gI g, 40, .inl u2)), (q10, .inl (gI g, 40, .inl u3))] := hD
                  refine lv_iconst (v := (nI 1)) hx hb d_Rdr_assemble_137 (by decide) ?_
                  refine lv_istore_n (lv' := [(2, .int (nI 1)), (1, .int (nI c9)), (3, .int (nI z9)), (4, .int (nI i)), (0, .ref q3)]) hx hb d_Rdr_assemble_138 rfl hl (by decide) rfl (fun ls hl => ?_)
                  refine lv_iinc (v := (nI (i + 1))) (lv' := [(4, .int (nI (i + 1))), (2, .int (nI 1)), (1, .int (nI c9)), (3, .int (nI z9)), (0, .ref q3)]) hx hb d_Rdr_assemble_139 hl (k := 3) rfl (nI_1 _) (by decide) rfl (fun ls hl => ?_)
                  refine lv_goto (tgt := 18) hx hb d_Rdr_assemble_142 (by decide) ?_
                  exact ih (H, locs, ls, i + 1, z9, 1, c9, -1, st1, p1, u1, u2, u3) ⟨lv_sub hl [0, 3, 1, 2, 4] rfl, hP.sub [0, 1, 2, 3, 4, 5, 6, 7, 8] rfl, hD.sub [0, 1, 2, 3, 4, 5, 6, 7, 8] (by decide) rfl, hS, by omega, k2, hPR1, hSR1, hc93, by decide, Or.inl ⟨c21, rfl, f1, by
                      have e9 : (if i + 1 < z9 then z9 else i + 1) = z9 := by split <;> omega
                      rw [e9]; exact ⟨by omega, hRes⟩⟩⟩ (show n - (i + 1) < n - i by omega)
              · have c19 := mt (nI_eq (b := 0) (by omega) (by omega)).mpr c19
                have hRes := hRes.trans (asm_had (f := f1) hi hns c19)
                refine lv_iconst (v := (nI 1)) hx hb d_Rdr_assemble_111 (by decide) ?_
                refine lv_goto (tgt := 122) hx hb d_Rdr_assemble_112 (by decide) ?_
                refine lv_istore_n (lv' := [(1, .int (nI 1)), (3, .int (nI z9)), (4, .int (nI i)), (2, .int (nI h9)), (0, .ref q3)]) hx hb d_Rdr_assemble_122 rfl hl (by decide) rfl (fun ls hl => ?_)
                refine lv_aload_n hx hb d_Rdr_assemble_123 rfl (lv_at hl 4 rfl) ?_
                refine lv_iload_n hx hb d_Rdr_assemble_124 rfl (lv_at hl 0 rfl) ?_
                refine lv_if_ne (tgt := 132) hx hb d_Rdr_assemble_125 (by decide) (fun c22 => ?_) (fun c22 => ?_)
                · refine lv_iload hx hb d_Rdr_assemble_132 (lv_at hl 2 rfl) ?_
                  refine va_put (D := g.1) (ci := 4) (v := .int (nI i)) (ty := .int) (C := "SignDesk$Reader") (T := F_Rdr) (N := 4) hx hb hts in_Rdr t_Rdr t_Rdr_ok n_Rdr hown hK hP hD hS 0 rfl rfl 3 (by decide) (hts _ k_104) (fun _ h9 => h9) rfl (by decide +kernel) rfl rfl (Nat.le_of_ble_eq_true rfl) d_Rdr_assemble_134 (fun H locs hP hD hS => ?_)
                  have hP : sdP g [(q3, .inr (4, [.ref q1, .ref q2, .ref q7, .int (nI i)])), (q1, .inr (6, [.ref q5, .int (nI n)])), (q5, .inl (gB g, 2000, .inl f)), (q2, .inr (3, [.ref q6, .int (nI (wn st))])), (q6, .inl (gI g, 600, .inl pw1)), (q7, .inr (5, [.ref q1, .ref q8, .ref q9, .ref q10, .int (nI (sn st))])), (q8, .inl (gI g, 40, .inl t1)), (q9, .inl (gI g, 40, .inl t2)), (q10, .inl (gI g, 40, .inl t3))] H := hP
                  have hD : va_D A [(q3, .inr (4, [.ref q1, .ref q2, .ref q7, .int (nI i)])), (q1, .inr (6, [.ref q5, .int (nI n)])), (q5, .inl (gB g, 2000, .inl f)), (q2, .inr (3, [.ref q6, .int (nI (wn st))])), (q6, .inl (gI g, 600, .inl pw1)), (q7, .inr (5, [.ref q1, .ref q8, .ref q9, .ref q10, .int (nI (sn st))])), (q8, .inl (gI g, 40, .inl t1)), (q9, .inl (gI g, 40, .inl t2)), (q10, .inl (gI g, 40, .inl t3))] := hD
                  refine lv_iconst (v := (nI 1)) hx hb d_Rdr_assemble_137 (by decide) ?_
                  refine lv_istore_n (lv' := [(2, .int (nI 1)), (1, .int (nI 1)), (3, .int (nI z9)), (4, .int (nI i)), (0, .ref q3)]) hx hb d_Rdr_assemble_138 rfl hl (by decide) rfl (fun ls hl => ?_)
                  refine lv_iinc (v := (nI (i + 1))) (lv' := [(4, .int (nI (i + 1))), (2, .int (nI 1)), (1, .int (nI 1)), (3, .int (nI z9)), (0, .ref q3)]) hx hb d_Rdr_assemble_139 hl (k := 3) rfl (nI_1 _) (by decide) rfl (fun ls hl => ?_)
                  refine lv_goto (tgt := 18) hx hb d_Rdr_assemble_142 (by decide) ?_
                  exact ih (H, locs, ls, i + 1, z9, 1, 1, nI i, st, pw1, t1, t2, t3) ⟨lv_sub hl [0, 3, 1, 2, 4] rfl, hP.sub [0, 1, 2, 3, 4, 5, 6, 7, 8] rfl, hD.sub [0, 1, 2, 3, 4, 5, 6, 7, 8] (by decide) rfl, hS, by omega, k2, hPR, hSR, by decide, by decide, Or.inr ⟨by decide, i, rfl, hRes⟩⟩ (show n - (i + 1) < n - i by omega)
                · exact absurd c22 (by decide)
            · have c17 := sb_ne0.mp c17
              refine lv_aload_n hx hb d_Rdr_assemble_84 rfl (lv_at hl 4 rfl) ?_
              refine va_get (D := g.1) (ci := 4) (v := .ref q1) (C := "SignDesk$Reader") (T := F_Rdr) (N := 4) hx hb hts in_Rdr hown hK hP 0 rfl rfl 0 (by decide) (hts _ k_101) (fun _ h9 => h9) rfl d_Rdr_assemble_85 ?_
              refine lv_iload hx hb d_Rdr_assemble_88 (lv_at hl 0 rfl) ?_
              refine sd_ri (va_runV (As := [.int (nI i)]) (rest := []) ⟨hx, hb, hml, hown, hts⟩ (c_Txt_endOfLine l g q1 q5 n f tx hT i (by omega)) (cwV 1 hts (sd_gV k_212 k_213 k_214 k_24 k_215) rfl rfl rfl (by decide +kernel) ⟨Nat.le_of_ble_eq_true rfl, Nat.le_of_ble_eq_true rfl⟩) (sd_preV hK hE (sd_fr hS hA0) (hP.sub (ws' := [(q1, .inr (6, [.ref q5, .int (nI n)])), (q5, .inl (gB g, 2000, .inl f))]) [1, 2] rfl) rfl rfl) rfl rfl hl.1 rfl (lv_room (Nat.le_of_ble_eq_true rfl)) d_Rdr_assemble_90 ⟨Nat.zero_le _, Nat.zero_le _⟩) (fun r23 er23 => ?_)
              obtain ⟨z9, rfl, k1, k2, k3, k4⟩ := er23
              have k5 : i < z9 := by
                rcases Nat.lt_or_ge i z9 with q | q
                · exact q
                · have : z9 = i := by omega
                  subst this; exact absurd k4 c15
              refine lv_istore_n (lv' := [(3, .int (nI z9)), (4, .int (nI i)), (2, .int (nI h9)), (1, .int (nI cc)), (0, .ref q3)]) hx hb d_Rdr_assemble_93 rfl hl (by decide) rfl (fun ls hl => ?_)
              refine lv_goto (tgt := 139) hx hb d_Rdr_assemble_94 (by decide) ?_
              refine lv_iinc (v := (nI (i + 1))) (lv' := [(4, .int (nI (i + 1))), (3, .int (nI z9)), (2, .int (nI h9)), (1, .int (nI cc)), (0, .ref q3)]) hx hb d_Rdr_assemble_139 hl (k := 1) rfl (nI_1 _) (by decide) rfl (fun ls hl => ?_)
              refine lv_goto (tgt := 18) hx hb d_Rdr_assemble_142 (by decide) ?_
              exact ih (H, locs, ls, i + 1, z9, h9, cc, fp1, st, pw1, t1, t2, t3) ⟨lv_sub hl [0, 1, 2, 3, 4] rfl, hP.sub [0, 1, 2, 3, 4, 5, 6, 7, 8] rfl, hD.sub [0, 1, 2, 3, 4, 5, 6, 7, 8] (by decide) rfl, hS, by omega, k2, hPR, hSR, hc3, hh1, Or.inl ⟨hc0, hfp, f1, by
                  have e9 : (if i + 1 < z9 then z9 else i + 1) = z9 := by split <;> omega
                  rw [e9]; exact ⟨by omega, hRes.trans (asm_cm hi c17 k1 k2 k3 k4)⟩⟩⟩ (show n - (i + 1) < n - i by omega)
          · have c15 := sb_ne0.mp c15
            refine lv_iconst (v := (nI 0)) hx hb d_Rdr_assemble_67 (by decide) ?_
            refine lv_istore_n (lv' := [(2, .int (nI 0)), (4, .int (nI i)), (3, .int (nI bh)), (1, .int (nI cc)), (0, .ref q3)]) hx hb d_Rdr_assemble_68 rfl hl (by decide) rfl (fun ls hl => ?_)
            refine lv_goto (tgt := 139) hx hb d_Rdr_assemble_69 (by decide) ?_
            refine lv_iinc (v := (nI (i + 1))) (lv' := [(4, .int (nI (i + 1))), (2, .int (nI 0)), (3, .int (nI bh)), (1, .int (nI cc)), (0, .ref q3)]) hx hb d_Rdr_assemble_139 hl (k := 1) rfl (nI_1 _) (by decide) rfl (fun ls hl => ?_)
            refine lv_goto (tgt := 18) hx hb d_Rdr_assemble_142 (by decide) ?_
            exact ih (H, locs, ls, i + 1, bh, 0, cc, fp1, st, pw1, t1, t2, t3) ⟨lv_sub hl [0, 2, 1, 3, 4] rfl, hP.sub [0, 1, 2, 3, 4, 5, 6, 7, 8] rfl, hD.sub [0, 1, 2, 3, 4, 5, 6, 7, 8] (by decide) rfl, hS, by omega, h2, hPR, hSR, hc3, by omega, Or.inl ⟨hc0, hfp, f1, by
                have e9 : (if i + 1 < bh then bh else i + 1) = i + 1 := if_neg (by omega)
                rw [e9]; exact ⟨by omega, hRes.trans (asm_nl hi c15)⟩⟩⟩ (show n - (i + 1) < n - i by omega)
        · have c13 := sb_ne0.mp c13
          refine lv_goto (tgt := 139) hx hb d_Rdr_assemble_52 (by decide) ?_
          refine lv_iinc (v := (nI (i + 1))) (lv' := [(4, .int (nI (i + 1))), (3, .int (nI bh)), (2, .int (nI h9)), (1, .int (nI cc)), (0, .ref q3)]) hx hb d_Rdr_assemble_139 hl (k := 0) rfl (nI_1 _) (by decide) rfl (fun ls hl => ?_)
          refine lv_goto (tgt := 18) hx hb d_Rdr_assemble_142 (by decide) ?_
          exact ih (H, locs, ls, i + 1, bh, h9, cc, fp1, st, pw1, t1, t2, t3) ⟨lv_sub hl [0, 1, 2, 3, 4] rfl, hP.sub [0, 1, 2, 3, 4, 5, 6, 7, 8] rfl, hD.sub [0, 1, 2, 3, 4, 5, 6, 7, 8] (by decide) rfl, hS, by omega, h2, hPR, hSR, hc3, hh1, Or.inl ⟨hc0, hfp, f1, by
              have e9 : (if i + 1 < bh then bh else i + 1) = i + 1 := if_neg (by omega)
              rw [e9]; exact ⟨by omega, hRes.trans (asm_bl hi c13)⟩⟩⟩ (show n - (i + 1) < n - i by omega)
