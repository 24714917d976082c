theorem alu_63 (b x y : Int32) : alu (b &&& nI 63) x y = alu b x y := by
  have h : ∀ m : Int32, nI 63 &&& m = m → b &&& nI 63 &&& m = b &&& m := fun m hm => by rw [Int32.and_assoc, hm]
  unfold alu aluN aluT aluZ
  rw [h (nI 1) (by decide), h (nI 2) (by decide), h (nI 4) (by decide), h (nI 8) (by decide), h (nI 16) (by decide), h (nI 32) (by decide)]
set_option maxHeartbeats 4000000 in
set_option maxRecDepth 100000 in
/-- oneCode() -/
theorem c_Mod_oneCode (l : Launch) (g : sdG) (m0 mtt mcd mat msz mvl mcs mmm mkn mjp mds : Nat) (tk9 sz9 pl9 sy9 : Int32) (wn9 : Nat) (cdf : Nat → Int32) (cwf : Nat → Nat) (hwn : wn9 ≤ 600) (hpw : ∀ i, i < wn9 → cdf i = nI (cwf i) ∧ cwf i < 65536) (ra rd : Int32) (nx : Nat) (dn : Int32) (M : Nat → Int32) (hlt : nx < wn9) (sz : Nat) : Met l y_Mod_oneCode (.code y_Mod_oneCode b_Mod_oneCode 5 none :: sdT) ({ frames := 1, cells := 0, slots := 0, locals := 25 }) (va_Pc [.ref m0] (sdU g [(m0, .inr (8, [.ref mtt, .int tk9, .int sz9, .int pl9, .int (nI wn9), .ref mcd, .int sy9, .ref mat, .ref msz, .ref mvl, .ref mcs, .ref mmm, .int ra, .int rd, .int (nI nx), .int dn, .ref mkn, .ref mjp, .ref mds])), (mcd, .inl (gI g, 600, .inl cdf)), (mmm, .inl (gI g, 32768, .inl M))] sz)) (va_Qv (S := Int32 × Int32 × Nat × (Nat → Int32)) (fun u => ∀ pg, ∃ pg1, pstep (cwf nx) (ra, rd, nx, M, pg) = (u.1, u.2.1, u.2.2.1, u.2.2.2, pg1)) (fun u t => sdB g [(m0, .inr (8, [.ref mtt, .int tk9, .int sz9, .int pl9, .int (nI wn9), .ref mcd, .int sy9, .ref mat, .ref msz, .ref mvl, .ref mcs, .ref mmm, .int ra, .int rd, .int (nI nx), .int dn, .ref mkn, .ref mjp, .ref mds])), (mcd, .inl (gI g, 600, .inl cdf)), (mmm, .inl (gI g, 32768, .inl M))] sz ((fun u => [(m0, .inr (8, [.ref mtt, .int tk9, .int sz9, .int pl9, .int (nI wn9), .ref mcd, .int sy9, .ref mat, .ref msz, .ref mvl, .ref mcs, .ref mmm, .int u.1, .int u.2.1, .int (nI u.2.2.1), .int (dn + nI 1), .ref mkn, .ref mjp, .ref mds])), (mcd, .inl (gI g, 600, .inl cdf)), (mmm, .inl (gI g, 32768, .inl u.2.2.2))] : Int32 × Int32 × Nat × (Nat → Int32) → va_W) u) t) (va_A [(m0, .inr (8, [.ref mtt, .int tk9, .int sz9, .int pl9, .int (nI wn9), .ref mcd, .int sy9, .ref mat, .ref msz, .ref mvl, .ref mcs, .ref mmm, .int ra, .int rd, .int (nI nx), .int dn, .ref mkn, .ref mjp, .ref mds])), (mcd, .inl (gI g, 600, .inl cdf)), (mmm, .inl (gI g, 32768, .inl M))] sz)) 0 0 (va_A [(m0, .inr (8, [.ref mtt, .int tk9, .int sz9, .int pl9, .int (nI wn9), .ref mcd, .int sy9, .ref mat, .ref msz, .ref mvl, .ref mcs, .ref mmm, .int ra, .int rd, .int (nI nx), .int dn, .ref mkn, .ref mjp, .ref mds])), (mcd, .inl (gI g, 600, .inl cdf)), (mmm, .inl (gI g, 32768, .inl M))] sz) := by
  refine Met.ofW (cc := b_Mod_oneCode) (maxL := 5) (ret := none) (by decide) rfl ?_
  intro p ev s m args below meth c s₁ B hml hv
  obtain ⟨rfl, hsz, hP, hK, hE, hD0, hs0⟩ := hv
  have hx := B.exec
  have hb := B.bytes
  have hr := B.returns
  have hts := fun (w : Cond) (h : w ∈ sdT) => atoms_spec (ws := (.code y_Mod_oneCode b_Mod_oneCode 5 none :: sdT)) B.pre w (List.mem_cons_of_mem _ h)
  have hown : s.vm.findClass "SignDeskModel" = some m.cls := findClass_of_methodNamed B.named
  have hlocks := B.notSynchronized
  subst hsz
  have hD := hD0.self (sz := s.heap.size)
  have hA0 : ∀ q : Nat, va_A [(m0, .inr (8, [.ref mtt, .int tk9, .int sz9, .int pl9, .int (nI wn9), .ref mcd, .int sy9, .ref mat, .ref msz, .ref mvl, .ref mcs, .ref mmm, .int ra, .int rd, .int (nI nx), .int dn, .ref mkn, .ref mjp, .ref mds])), (mcd, .inl (gI g, 600, .inl cdf)), (mmm, .inl (gI g, 32768, .inl M))] s.heap.size q → gS g ≤ q := fun q h => h.elim (fun ⟨k, e, hk⟩ => hD0.2 k _ hk) (fun h => Nat.le_trans hs0 h)
  have hA : ∀ q : Nat, s.heap.size ≤ q → va_A [(m0, .inr (8, [.ref mtt, .int tk9, .int sz9, .int pl9, .int (nI wn9), .ref mcd, .int sy9, .ref mat, .ref msz, .ref mvl, .ref mcs, .ref mmm, .int ra, .int rd, .int (nI nx), .int dn, .ref mkn, .ref mjp, .ref mds])), (mcd, .inl (gI g, 600, .inl cdf)), (mmm, .inl (gI g, 32768, .inl M))] s.heap.size q := fun q h => Or.inr h
  generalize hAe : va_A [(m0, .inr (8, [.ref mtt, .int tk9, .int sz9, .int pl9, .int (nI wn9), .ref mcd, .int sy9, .ref mat, .ref msz, .ref mvl, .ref mcs, .ref mmm, .int ra, .int rd, .int (nI nx), .int dn, .ref mkn, .ref mjp, .ref mds])), (mcd, .inl (gI g, 600, .inl cdf)), (mmm, .inl (gI g, 32768, .inl M))] s.heap.size = A at hD hA0 hA ⊢
  have hS : va_S A s.heap s.heap [] := va_S.rf
  have hP : sdP g [(m0, .inr (8, [.ref mtt, .int tk9, .int sz9, .int pl9, .int (nI wn9), .ref mcd, .int sy9, .ref mat, .ref msz, .ref mvl, .ref mcs, .ref mmm, .int ra, .int rd, .int (nI nx), .int dn, .ref mkn, .ref mjp, .ref mds])), (mcd, .inl (gI g, 600, .inl cdf)), (mmm, .inl (gI g, 32768, .inl M))] s.heap := hP
  have hl := lv_entry ([.ref m0]) (n := 5) (Nat.le_of_ble_eq_true rfl)
  rw [lg_entry_eq]
  generalize (lg_sl ([.ref m0]) ++ List.replicate (5 - (lg_sl ([.ref m0])).length) Slot.unset).toArray = ls at hl ⊢
  have hl : lv_has ls 5 [(0, .ref m0)] := hl
  have h15 := ad15_lt ra
  obtain ⟨hp1, hp2⟩ := hpw nx hlt
  refine lv_aload_n hx hb d_Mod_oneCode_0 rfl (lv_at hl 0 rfl) ?_
  refine va_get (D := g.1) (ci := 8) (v := .ref mcd) (C := "SignDeskModel") (T := F_Mod) (N := 19) hx hb hts in_Mod hown hK hP 0 rfl rfl 5 (by decide) (hts _ k_499) (fun _ h9 => h9) rfl d_Mod_oneCode_1 ?_
  refine lv_aload_n hx hb d_Mod_oneCode_4 rfl (lv_at hl 0 rfl) ?_
  refine va_get (D := g.1) (ci := 8) (v := .int (nI nx)) (C := "SignDeskModel") (T := F_Mod) (N := 19) hx hb hts in_Mod hown hK hP 0 rfl rfl 14 (by decide) (hts _ k_508) (fun _ h9 => h9) rfl d_Mod_oneCode_5 ?_
  refine va_iald hx hb hK hP 1 1 rfl rfl (i := (nI nx)) (vp_in_nI (by omega) (by omega)) d_Mod_oneCode_8 ?_
  refine sd_topi (y := nI (cwf nx)) (by rw [nI_clamp (by omega)]; exact hp1) ?_
  refine lv_istore_n (lv' := [(1, .int (nI (cwf nx))), (0, .ref m0)]) hx hb d_Mod_oneCode_9 rfl hl (by decide) rfl (fun ls hl => ?_)
  refine lv_aload_n hx hb d_Mod_oneCode_10 rfl (lv_at hl 1 rfl) ?_
  refine lv_aload_n hx hb d_Mod_oneCode_11 rfl (lv_at hl 1 rfl) ?_
  refine va_get (D := g.1) (ci := 8) (v := .int (nI nx)) (C := "SignDeskModel") (T := F_Mod) (N := 19) hx hb hts in_Mod hown hK hP 0 rfl rfl 14 (by decide) (hts _ k_508) (fun _ h9 => h9) rfl d_Mod_oneCode_12 ?_
  refine lv_iconst (v := (nI 1)) hx hb d_Mod_oneCode_15 (by decide) ?_
  refine lv_iadd hx hb d_Mod_oneCode_16 ?_
  refine sd_topi (y := nI (nx + 1)) (nI_add _ _) ?_
  refine va_put (D := g.1) (ci := 8) (v := .int (nI (nx + 1))) (ty := .int) (C := "SignDeskModel") (T := F_Mod) (N := 19) hx hb hts in_Mod t_Mod t_Mod_ok n_Mod hown hK hP hD hS 0 rfl rfl 14 (by decide) (hts _ k_508) (fun _ h9 => h9) rfl (by decide +kernel) rfl rfl (Nat.le_of_ble_eq_true rfl) d_Mod_oneCode_17 (fun H locs hP hD hS => ?_)
  have hP : sdP g [(m0, .inr (8, [.ref mtt, .int tk9, .int sz9, .int pl9, .int (nI wn9), .ref mcd, .int sy9, .ref mat, .ref msz, .ref mvl, .ref mcs, .ref mmm, .int ra, .int rd, .int (nI (nx + 1)), .int dn, .ref mkn, .ref mjp, .ref mds])), (mcd, .inl (gI g, 600, .inl cdf)), (mmm, .inl (gI g, 32768, .inl M))] H := hP
  have hD : va_D A [(m0, .inr (8, [.ref mtt, .int tk9, .int sz9, .int pl9, .int (nI wn9), .ref mcd, .int sy9, .ref mat, .ref msz, .ref mvl, .ref mcs, .ref mmm, .int ra, .int rd, .int (nI (nx + 1)), .int dn, .ref mkn, .ref mjp, .ref mds])), (mcd, .inl (gI g, 600, .inl cdf)), (mmm, .inl (gI g, 32768, .inl M))] := hD
  refine lv_aload_n hx hb d_Mod_oneCode_20 rfl (lv_at hl 1 rfl) ?_
  refine lv_aload_n hx hb d_Mod_oneCode_21 rfl (lv_at hl 1 rfl) ?_
  refine va_get (D := g.1) (ci := 8) (v := .int dn) (C := "SignDeskModel") (T := F_Mod) (N := 19) hx hb hts in_Mod hown hK hP 0 rfl rfl 15 (by decide) (hts _ k_509) (fun _ h9 => h9) rfl d_Mod_oneCode_22 ?_
  refine lv_iconst (v := (nI 1)) hx hb d_Mod_oneCode_25 (by decide) ?_
  refine lv_iadd hx hb d_Mod_oneCode_26 ?_
  refine va_put (D := g.1) (ci := 8) (v := .int (dn + (nI 1))) (ty := .int) (C := "SignDeskModel") (T := F_Mod) (N := 19) hx hb hts in_Mod t_Mod t_Mod_ok n_Mod hown hK hP hD hS 0 rfl rfl 15 (by decide) (hts _ k_509) (fun _ h9 => h9) rfl (by decide +kernel) rfl rfl (Nat.le_of_ble_eq_true rfl) d_Mod_oneCode_27 (fun H locs hP hD hS => ?_)
  have hP : sdP g [(m0, .inr (8, [.ref mtt, .int tk9, .int sz9, .int pl9, .int (nI wn9), .ref mcd, .int sy9, .ref mat, .ref msz, .ref mvl, .ref mcs, .ref mmm, .int ra, .int rd, .int (nI (nx + 1)), .int (dn + (nI 1)), .ref mkn, .ref mjp, .ref mds])), (mcd, .inl (gI g, 600, .inl cdf)), (mmm, .inl (gI g, 32768, .inl M))] H := hP
  have hD : va_D A [(m0, .inr (8, [.ref mtt, .int tk9, .int sz9, .int pl9, .int (nI wn9), .ref mcd, .int sy9, .ref mat, .ref msz, .ref mvl, .ref mcs, .ref mmm, .int ra, .int rd, .int (nI (nx + 1)), .int (dn + (nI 1)), .ref mkn, .ref mjp, .ref mds])), (mcd, .inl (gI g, 600, .inl cdf)), (mmm, .inl (gI g, 32768, .inl M))] := hD
  refine lv_iload_n hx hb d_Mod_oneCode_30 rfl (lv_at hl 0 rfl) ?_
  refine lv_ldc (v := nI 32768) hx hb hown (hts _ k_493) d_Mod_oneCode_31 ?_
  refine lv_icmp_ge (tgt := 42) hx hb d_Mod_oneCode_33 (by decide) (fun c1 => ?_) (fun c1 => ?_)
  · have c1 := (nI_leI (by omega) (by omega)).mp c1
    refine lv_aload_n hx hb d_Mod_oneCode_42 rfl (lv_at hl 1 rfl) ?_
    refine va_get (D := g.1) (ci := 8) (v := .int ra) (C := "SignDeskModel") (T := F_Mod) (N := 19) hx hb hts in_Mod hown hK hP 0 rfl rfl 12 (by decide) (hts _ k_506) (fun _ h9 => h9) rfl d_Mod_oneCode_43 ?_
    refine lv_sipush (v := (nI 32767)) hx hb d_Mod_oneCode_46 (by decide) ?_
    refine lv_iand hx hb d_Mod_oneCode_49 ?_
    refine sd_topi (y := nI (ad15 ra)) (ad15_ok ra) ?_
    refine lv_istore_n (lv' := [(2, .int (nI (ad15 ra))), (1, .int (nI (cwf nx))), (0, .ref m0)]) hx hb d_Mod_oneCode_50 rfl hl (by decide) rfl (fun ls hl => ?_)
    refine lv_iload_n hx hb d_Mod_oneCode_51 rfl (lv_at hl 1 rfl) ?_
    refine lv_bipush (v := (nI 6)) hx hb d_Mod_oneCode_52 (by decide) ?_
    refine lv_ishr hx hb d_Mod_oneCode_54 ?_
    refine lv_bipush (v := (nI 63)) hx hb d_Mod_oneCode_55 (by decide) ?_
    refine lv_iand hx hb d_Mod_oneCode_57 ?_
    refine lv_aload_n hx hb d_Mod_oneCode_58 rfl (lv_at hl 2 rfl) ?_
    refine va_get (D := g.1) (ci := 8) (v := .int rd) (C := "SignDeskModel") (T := F_Mod) (N := 19) hx hb hts in_Mod hown hK hP 0 rfl rfl 13 (by decide) (hts _ k_507) (fun _ h9 => h9) rfl d_Mod_oneCode_59 ?_
    refine lv_iload_n hx hb d_Mod_oneCode_62 rfl (lv_at hl 1 rfl) ?_
    refine lv_sipush (v := (nI 4096)) hx hb d_Mod_oneCode_63 (by decide) ?_
    refine lv_iand hx hb d_Mod_oneCode_66 ?_
    refine sd_cutv (ls := ls) (fun z => z = pY (cwf nx) ra M) 83 [.int rd, .int (((nI (cwf nx)) >>> ((nI 6) &&& 31)) &&& (nI 63))] (fun z9 ez9 => ?_) (fun kJ => ?_)
    · subst ez9
      refine sd_ri (va_runS (As := [.int (((nI (cwf nx)) >>> ((nI 6) &&& 31)) &&& (nI 63)), .int rd, .int (pY (cwf nx) ra M)]) (rest := []) ⟨hx, hb, hml, hown, hts⟩ (c_Mod_unit l (nI (cwf nx) >>> (nI 6 &&& 31) &&& nI 63) rd (pY (cwf nx) ra M)) (va_cwS 3 hts (sd_gS k_641 k_642 k_30 k_643) rfl rfl rfl (by decide +kernel) ⟨Nat.le_of_ble_eq_true rfl, Nat.le_of_ble_eq_true rfl⟩) preEq rfl rfl hl.1 rfl (lv_room (Nat.le_of_ble_eq_true rfl)) d_Mod_oneCode_83 ⟨Nat.zero_le _, Nat.zero_le _⟩) (fun r2 er2 => ?_)
      subst er2
      refine sd_topi (y := pR (cwf nx) ra rd M) (alu_63 _ _ _) ?_
      refine lv_istore_n (lv' := [(3, .int (pR (cwf nx) ra rd M)), (2, .int (nI (ad15 ra))), (1, .int (nI (cwf nx))), (0, .ref m0)]) hx hb d_Mod_oneCode_86 rfl hl (by decide) rfl (fun ls hl => ?_)
      refine lv_iload_n hx hb d_Mod_oneCode_87 rfl (lv_at hl 2 rfl) ?_
      refine lv_bipush (v := (nI 8)) hx hb d_Mod_oneCode_88 (by decide) ?_
      refine lv_iand hx hb d_Mod_oneCode_90 ?_
      refine sd_cut (fun (x : Heap × List Loc × (Nat → Int32)) => match x with | (H, locs, M1) => sdP g [(m0, .inr (8, [.ref mtt, .int tk9, .int sz9, .int pl9, .int (nI wn9), .ref mcd, .int sy9, .ref mat, .ref msz, .ref mvl, .ref mcs, .ref mmm, .int ra, .int rd, .int (nI (nx + 1)), .int (dn + nI 1), .ref mkn, .ref mjp, .ref mds])), (mcd, .inl (gI g, 600, .inl cdf)), (mmm, .inl (gI g, 32768, .inl M1))] H ∧ va_D A [(m0, .inr (8, [.ref mtt, .int tk9, .int sz9, .int pl9, .int (nI wn9), .ref mcd, .int sy9, .ref mat, .ref msz, .ref mvl, .ref mcs, .ref mmm, .int ra, .int rd, .int (nI (nx + 1)), .int (dn + nI 1), .ref mkn, .ref mjp, .ref mds])), (mcd, .inl (gI g, 600, .inl cdf)), (mmm, .inl (gI g, 32768, .inl M1))] ∧ va_S A s.heap H locs ∧ (M1 = pM (cwf nx) ra (pR (cwf nx) ra rd M) M)) (fun x => x.1) (fun x => x.2.1) (fun _ => 0) (fun _ => 0) (fun _ => F0 m 101 ls []) (fun x hI => ?_) (fun kJ => ?_)
      · obtain ⟨H, locs, M1⟩ := x
        obtain ⟨hP, hD, hS, eM1⟩ := hI
        show W p l ev _ s m _ below meth c H locs 0 0 _ (F0 m 101 ls [])
        have hP : sdP g [(m0, .inr (8, [.ref mtt, .int tk9, .int sz9, .int pl9, .int (nI wn9), .ref mcd, .int sy9, .ref mat, .ref msz, .ref mvl, .ref mcs, .ref mmm, .int ra, .int rd, .int (nI (nx + 1)), .int (dn + nI 1), .ref mkn, .ref mjp, .ref mds])), (mcd, .inl (gI g, 600, .inl cdf)), (mmm, .inl (gI g, 32768, .inl M1))] H := hP
        have hD : va_D A [(m0, .inr (8, [.ref mtt, .int tk9, .int sz9, .int pl9, .int (nI wn9), .ref mcd, .int sy9, .ref mat, .ref msz, .ref mvl, .ref mcs, .ref mmm, .int ra, .int rd, .int (nI (nx + 1)), .int (dn + nI 1), .ref mkn, .ref mjp, .ref mds])), (mcd, .inl (gI g, 600, .inl cdf)), (mmm, .inl (gI g, 32768, .inl M1))] := hD
        refine lv_iload_n hx hb d_Mod_oneCode_101 rfl (lv_at hl 2 rfl) ?_
        refine lv_bipush (v := (nI 32)) hx hb d_Mod_oneCode_102 (by decide) ?_
        refine lv_iand hx hb d_Mod_oneCode_104 ?_
        refine sd_cut (fun (x : Heap × List Loc × Int32) => match x with | (H, locs, a1) => sdP g [(m0, .inr (8, [.ref mtt, .int tk9, .int sz9, .int pl9, .int (nI wn9), .ref mcd, .int sy9, .ref mat, .ref msz, .ref mvl, .ref mcs, .ref mmm, .int a1, .int rd, .int (nI (nx + 1)), .int (dn + nI 1), .ref mkn, .ref mjp, .ref mds])), (mcd, .inl (gI g, 600, .inl cdf)), (mmm, .inl (gI g, 32768, .inl M1))] H ∧ va_D A [(m0, .inr (8, [.ref mtt, .int tk9, .int sz9, .int pl9, .int (nI wn9), .ref mcd, .int sy9, .ref mat, .ref msz, .ref mvl, .ref mcs, .ref mmm, .int a1, .int rd, .int (nI (nx + 1)), .int (dn + nI 1), .ref mkn, .ref mjp, .ref mds])), (mcd, .inl (gI g, 600, .inl cdf)), (mmm, .inl (gI g, 32768, .inl M1))] ∧ va_S A s.heap H locs ∧ (a1 = if nI (cwf nx) &&& nI 32 = 0 then ra else (pR (cwf nx) ra rd M))) (fun x => x.1) (fun x => x.2.1) (fun _ => 0) (fun _ => 0) (fun _ => F0 m 113 ls []) (fun x hI => ?_) (fun kJ => ?_)
        · obtain ⟨H, locs, a1⟩ := x
          obtain ⟨hP, hD, hS, ea1⟩ := hI
          show W p l ev _ s m _ below meth c H locs 0 0 _ (F0 m 113 ls [])
          have hP : sdP g [(m0, .inr (8, [.ref mtt, .int tk9, .int sz9, .int pl9, .int (nI wn9), .ref mcd, .int sy9, .ref mat, .ref msz, .ref mvl, .ref mcs, .ref mmm, .int a1, .int rd, .int (nI (nx + 1)), .int (dn + nI 1), .ref mkn, .ref mjp, .ref mds])), (mcd, .inl (gI g, 600, .inl cdf)), (mmm, .inl (gI g, 32768, .inl M1))] H := hP
          have hD : va_D A [(m0, .inr (8, [.ref mtt, .int tk9, .int sz9, .int pl9, .int (nI wn9), .ref mcd, .int sy9, .ref mat, .ref msz, .ref mvl, .ref mcs, .ref mmm, .int a1, .int rd, .int (nI (nx + 1)), .int (dn + nI 1), .ref mkn, .ref mjp, .ref mds])), (mcd, .inl (gI g, 600, .inl cdf)), (mmm, .inl (gI g, 32768, .inl M1))] := hD
          refine lv_iload_n hx hb d_Mod_oneCode_113 rfl (lv_at hl 2 rfl) ?_
          refine lv_bipush (v := (nI 16)) hx hb d_Mod_oneCode_114 (by decide) ?_
          refine lv_iand hx hb d_Mod_oneCode_116 ?_
          refine sd_cut (fun (x : Heap × List Loc × Int32) => match x with | (H, locs, d1) => sdP g [(m0, .inr (8, [.ref mtt, .int tk9, .int sz9, .int pl9, .int (nI wn9), .ref mcd, .int sy9, .ref mat, .ref msz, .ref mvl, .ref mcs, .ref mmm, .int a1, .int d1, .int (nI (nx + 1)), .int (dn + nI 1), .ref mkn, .ref mjp, .ref mds])), (mcd, .inl (gI g, 600, .inl cdf)), (mmm, .inl (gI g, 32768, .inl M1))] H ∧ va_D A [(m0, .inr (8, [.ref mtt, .int tk9, .int sz9, .int pl9, .int (nI wn9), .ref mcd, .int sy9, .ref mat, .ref msz, .ref mvl, .ref mcs, .ref mmm, .int a1, .int d1, .int (nI (nx + 1)), .int (dn + nI 1), .ref mkn, .ref mjp, .ref mds])), (mcd, .inl (gI g, 600, .inl cdf)), (mmm, .inl (gI g, 32768, .inl M1))] ∧ va_S A s.heap H locs ∧ (d1 = if nI (cwf nx) &&& nI 16 = 0 then rd else (pR (cwf nx) ra rd M))) (fun x => x.1) (fun x => x.2.1) (fun _ => 0) (fun _ => 0) (fun _ => F0 m 125 ls []) (fun x hI => ?_) (fun kJ => ?_)
          · obtain ⟨H, locs, d1⟩ := x
            obtain ⟨hP, hD, hS, ed1⟩ := hI
            show W p l ev _ s m _ below meth c H locs 0 0 _ (F0 m 125 ls [])
            have hP : sdP g [(m0, .inr (8, [.ref mtt, .int tk9, .int sz9, .int pl9, .int (nI wn9), .ref mcd, .int sy9, .ref mat, .ref msz, .ref mvl, .ref mcs, .ref mmm, .int a1, .int d1, .int (nI (nx + 1)), .int (dn + nI 1), .ref mkn, .ref mjp, .ref mds])), (mcd, .inl (gI g, 600, .inl cdf)), (mmm, .inl (gI g, 32768, .inl M1))] H := hP
            have hD : va_D A [(m0, .inr (8, [.ref mtt, .int tk9, .int sz9, .int pl9, .int (nI wn9), .ref mcd, .int sy9, .ref mat, .ref msz, .ref mvl, .ref mcs, .ref mmm, .int a1, .int d1, .int (nI (nx + 1)), .int (dn + nI 1), .ref mkn, .ref mjp, .ref mds])), (mcd, .inl (gI g, 600, .inl cdf)), (mmm, .inl (gI g, 32768, .inl M1))] := hD
            refine lv_iload_n hx hb d_Mod_oneCode_125 rfl (lv_at hl 0 rfl) ?_
            refine sd_cutv (ls := ls) (fun z => z = pS (pR (cwf nx) ra rd M)) 142 [] (fun z9 ez9 => ?_) (fun kJ => ?_)
            · subst ez9
              refine lv_istore (lv' := [(4, .int (pS (pR (cwf nx) ra rd M))), (3, .int (pR (cwf nx) ra rd M)), (2, .int (nI (ad15 ra))), (1, .int (nI (cwf nx))), (0, .ref m0)]) hx hb d_Mod_oneCode_142 hl (by decide) rfl (fun ls hl => ?_)
              refine lv_iload_n hx hb d_Mod_oneCode_144 rfl (lv_at hl 3 rfl) ?_
              refine lv_iload hx hb d_Mod_oneCode_145 (lv_at hl 0 rfl) ?_
              refine lv_iand hx hb d_Mod_oneCode_147 ?_
              refine lv_if_eq (tgt := 156) hx hb d_Mod_oneCode_148 (by decide) (fun c3 => ?_) (fun c3 => ?_)
              · have hP9 := hP.sub (ws' := [(m0, .inr (8, [.ref mtt, .int tk9, .int sz9, .int pl9, .int (nI wn9), .ref mcd, .int sy9, .ref mat, .ref msz, .ref mvl, .ref mcs, .ref mmm, .int a1, .int d1, .int (nI (nx + 1)), .int (dn + nI 1), .ref mkn, .ref mjp, .ref mds])), (mcd, .inl (gI g, 600, .inl cdf)), (mmm, .inl (gI g, 32768, .inl M1))]) [0, 1, 2] rfl
                have hD9 := hD.sub (ws' := [(m0, .inr (8, [.ref mtt, .int tk9, .int sz9, .int pl9, .int (nI wn9), .ref mcd, .int sy9, .ref mat, .ref msz, .ref mvl, .ref mcs, .ref mmm, .int a1, .int d1, .int (nI (nx + 1)), .int (dn + nI 1), .ref mkn, .ref mjp, .ref mds])), (mcd, .inl (gI g, 600, .inl cdf)), (mmm, .inl (gI g, 32768, .inl M1))]) [0, 1, 2] (by decide) rfl
                exact W.vret hx hb hr (fun t ht hW => ⟨⟨(a1, d1, nx + 1, M1), rfl, fun pg => ⟨pG (cwf nx) ra pg, by rw [pstep, if_neg (by omega), eM1, ea1, ed1, pN, if_pos c3]⟩, by rw [ht]; exact hP9, by rw [hAe]; exact hD9⟩, hS.F ht⟩) hS.2.2 d_Mod_oneCode_156
              · refine lv_aload_n hx hb d_Mod_oneCode_151 rfl (lv_at hl 4 rfl) ?_
                refine lv_iload_n hx hb d_Mod_oneCode_152 rfl (lv_at hl 2 rfl) ?_
                refine va_put (D := g.1) (ci := 8) (v := .int (nI (ad15 ra))) (ty := .int) (C := "SignDeskModel") (T := F_Mod) (N := 19) hx hb hts in_Mod t_Mod t_Mod_ok n_Mod hown hK hP hD hS 0 rfl rfl 14 (by decide) (hts _ k_508) (fun _ h9 => h9) rfl (by decide +kernel) rfl rfl (Nat.le_of_ble_eq_true rfl) d_Mod_oneCode_153 (fun H locs hP hD hS => ?_)
                have hP : sdP g [(m0, .inr (8, [.ref mtt, .int tk9, .int sz9, .int pl9, .int (nI wn9), .ref mcd, .int sy9, .ref mat, .ref msz, .ref mvl, .ref mcs, .ref mmm, .int a1, .int d1, .int (nI (ad15 ra)), .int (dn + nI 1), .ref mkn, .ref mjp, .ref mds])), (mcd, .inl (gI g, 600, .inl cdf)), (mmm, .inl (gI g, 32768, .inl M1))] H := hP
                have hD : va_D A [(m0, .inr (8, [.ref mtt, .int tk9, .int sz9, .int pl9, .int (nI wn9), .ref mcd, .int sy9, .ref mat, .ref msz, .ref mvl, .ref mcs, .ref mmm, .int a1, .int d1, .int (nI (ad15 ra)), .int (dn + nI 1), .ref mkn, .ref mjp, .ref mds])), (mcd, .inl (gI g, 600, .inl cdf)), (mmm, .inl (gI g, 32768, .inl M1))] := hD
                have hP9 := hP.sub (ws' := [(m0, .inr (8, [.ref mtt, .int tk9, .int sz9, .int pl9, .int (nI wn9), .ref mcd, .int sy9, .ref mat, .ref msz, .ref mvl, .ref mcs, .ref mmm, .int a1, .int d1, .int (nI (ad15 ra)), .int (dn + nI 1), .ref mkn, .ref mjp, .ref mds])), (mcd, .inl (gI g, 600, .inl cdf)), (mmm, .inl (gI g, 32768, .inl M1))]) [0, 1, 2] rfl
                have hD9 := hD.sub (ws' := [(m0, .inr (8, [.ref mtt, .int tk9, .int sz9, .int pl9, .int (nI wn9), .ref mcd, .int sy9, .ref mat, .ref msz, .ref mvl, .ref mcs, .ref mmm, .int a1, .int d1, .int (nI (ad15 ra)), .int (dn + nI 1), .ref mkn, .ref mjp, .ref mds])), (mcd, .inl (gI g, 600, .inl cdf)), (mmm, .inl (gI g, 32768, .inl M1))]) [0, 1, 2] (by decide) rfl
                exact W.vret hx hb hr (fun t ht hW => ⟨⟨(a1, d1, ad15 ra, M1), rfl, fun pg => ⟨pG (cwf nx) ra pg, by rw [pstep, if_neg (by omega), eM1, ea1, ed1, pN, if_neg c3]⟩, by rw [ht]; exact hP9, by rw [hAe]; exact hD9⟩, hS.F ht⟩) hS.2.2 d_Mod_oneCode_156
            · refine lv_if_le (tgt := 133) hx hb d_Mod_oneCode_126 (by decide) (fun c3 => ?_) (fun c3 => ?_)
              · refine lv_iload_n hx hb d_Mod_oneCode_133 rfl (lv_at hl 0 rfl) ?_
                refine lv_if_ne (tgt := 141) hx hb d_Mod_oneCode_134 (by decide) (fun c4 => ?_) (fun c4 => ?_)
                · refine lv_iconst (v := (nI 4)) hx hb d_Mod_oneCode_141 (by decide) ?_
                  exact kJ _ (by rw [pS, if_pos c3, if_neg c4])
                · refine lv_iconst (v := (nI 2)) hx hb d_Mod_oneCode_137 (by decide) ?_
                  refine lv_goto (tgt := 142) hx hb d_Mod_oneCode_138 (by decide) ?_
                  exact kJ _ (by rw [pS, if_pos c3, if_pos c4])
              · refine lv_iconst (v := (nI 1)) hx hb d_Mod_oneCode_129 (by decide) ?_
                refine lv_goto (tgt := 142) hx hb d_Mod_oneCode_130 (by decide) ?_
                exact kJ _ (by rw [pS, if_neg c3])
          · refine lv_if_eq (tgt := 125) hx hb d_Mod_oneCode_117 (by decide) (fun c3 => ?_) (fun c3 => ?_)
            · exact kJ (H, _, rd) ⟨hP.sub [0, 1, 2] rfl, hD.sub [0, 1, 2] (by decide) rfl, hS, (if_pos c3).symm⟩
            · refine lv_aload_n hx hb d_Mod_oneCode_120 rfl (lv_at hl 3 rfl) ?_
              refine lv_iload_n hx hb d_Mod_oneCode_121 rfl (lv_at hl 0 rfl) ?_
              refine va_put (D := g.1) (ci := 8) (v := .int (pR (cwf nx) ra rd M)) (ty := .int) (C := "SignDeskModel") (T := F_Mod) (N := 19) hx hb hts in_Mod t_Mod t_Mod_ok n_Mod hown hK hP hD hS 0 rfl rfl 13 (by decide) (hts _ k_507) (fun _ h9 => h9) rfl (by decide +kernel) rfl rfl (Nat.le_of_ble_eq_true rfl) d_Mod_oneCode_122 (fun H locs hP hD hS => ?_)
              have hP : sdP g [(m0, .inr (8, [.ref mtt, .int tk9, .int sz9, .int pl9, .int (nI wn9), .ref mcd, .int sy9, .ref mat, .ref msz, .ref mvl, .ref mcs, .ref mmm, .int a1, .int (pR (cwf nx) ra rd M), .int (nI (nx + 1)), .int (dn + nI 1), .ref mkn, .ref mjp, .ref mds])), (mcd, .inl (gI g, 600, .inl cdf)), (mmm, .inl (gI g, 32768, .inl M1))] H := hP
              have hD : va_D A [(m0, .inr (8, [.ref mtt, .int tk9, .int sz9, .int pl9, .int (nI wn9), .ref mcd, .int sy9, .ref mat, .ref msz, .ref mvl, .ref mcs, .ref mmm, .int a1, .int (pR (cwf nx) ra rd M), .int (nI (nx + 1)), .int (dn + nI 1), .ref mkn, .ref mjp, .ref mds])), (mcd, .inl (gI g, 600, .inl cdf)), (mmm, .inl (gI g, 32768, .inl M1))] := hD
              exact kJ (H, _, (pR (cwf nx) ra rd M)) ⟨hP.sub [0, 1, 2] rfl, hD.sub [0, 1, 2] (by decide) rfl, hS, (if_neg c3).symm⟩
        · refine lv_if_eq (tgt := 113) hx hb d_Mod_oneCode_105 (by decide) (fun c3 => ?_) (fun c3 => ?_)
          · exact kJ (H, _, ra) ⟨hP.sub [0, 1, 2] rfl, hD.sub [0, 1, 2] (by decide) rfl, hS, (if_pos c3).symm⟩
          · refine lv_aload_n hx hb d_Mod_oneCode_108 rfl (lv_at hl 3 rfl) ?_
            refine lv_iload_n hx hb d_Mod_oneCode_109 rfl (lv_at hl 0 rfl) ?_
            refine va_put (D := g.1) (ci := 8) (v := .int (pR (cwf nx) ra rd M)) (ty := .int) (C := "SignDeskModel") (T := F_Mod) (N := 19) hx hb hts in_Mod t_Mod t_Mod_ok n_Mod hown hK hP hD hS 0 rfl rfl 12 (by decide) (hts _ k_506) (fun _ h9 => h9) rfl (by decide +kernel) rfl rfl (Nat.le_of_ble_eq_true rfl) d_Mod_oneCode_110 (fun H locs hP hD hS => ?_)
            have hP : sdP g [(m0, .inr (8, [.ref mtt, .int tk9, .int sz9, .int pl9, .int (nI wn9), .ref mcd, .int sy9, .ref mat, .ref msz, .ref mvl, .ref mcs, .ref mmm, .int (pR (cwf nx) ra rd M), .int rd, .int (nI (nx + 1)), .int (dn + nI 1), .ref mkn, .ref mjp, .ref mds])), (mcd, .inl (gI g, 600, .inl cdf)), (mmm, .inl (gI g, 32768, .inl M1))] H := hP
            have hD : va_D A [(m0, .inr (8, [.ref mtt, .int tk9, .int sz9, .int pl9, .int (nI wn9), .ref mcd, .int sy9, .ref mat, .ref msz, .ref mvl, .ref mcs, .ref mmm, .int (pR (cwf nx) ra rd M), .int rd, .int (nI (nx + 1)), .int (dn + nI 1), .ref mkn, .ref mjp, .ref mds])), (mcd, .inl (gI g, 600, .inl cdf)), (mmm, .inl (gI g, 32768, .inl M1))] := hD
            exact kJ (H, _, (pR (cwf nx) ra rd M)) ⟨hP.sub [0, 1, 2] rfl, hD.sub [0, 1, 2] (by decide) rfl, hS, (if_neg c3).symm⟩
      · refine lv_if_eq (tgt := 101) hx hb d_Mod_oneCode_91 (by decide) (fun c3 => ?_) (fun c3 => ?_)
        · exact kJ (H, _, M) ⟨hP.sub [0, 1, 2] rfl, hD.sub [0, 1, 2] (by decide) rfl, hS, (if_pos c3).symm⟩
        · refine lv_aload_n hx hb d_Mod_oneCode_94 rfl (lv_at hl 3 rfl) ?_
          refine va_get (D := g.1) (ci := 8) (v := .ref mmm) (C := "SignDeskModel") (T := F_Mod) (N := 19) hx hb hts in_Mod hown hK hP 0 rfl rfl 11 (by decide) (hts _ k_505) (fun _ h9 => h9) rfl d_Mod_oneCode_95 ?_
          refine lv_iload_n hx hb d_Mod_oneCode_98 rfl (lv_at hl 1 rfl) ?_
          refine lv_iload_n hx hb d_Mod_oneCode_99 rfl (lv_at hl 0 rfl) ?_
          refine va_iast hx hb hK hP hD hS 2 1 rfl rfl (i := (nI (ad15 ra))) (x := (pR (cwf nx) ra rd M)) (vp_in_nI (by omega) (by omega)) d_Mod_oneCode_100 (fun H locs hP hD hS => ?_)
          have hP : sdP g [(m0, .inr (8, [.ref mtt, .int tk9, .int sz9, .int pl9, .int (nI wn9), .ref mcd, .int sy9, .ref mat, .ref msz, .ref mvl, .ref mcs, .ref mmm, .int ra, .int rd, .int (nI (nx + 1)), .int (dn + (nI 1)), .ref mkn, .ref mjp, .ref mds])), (mcd, .inl (gI g, 600, .inl cdf)), (mmm, .inl (gI g, 32768, .inl (upd M ((nI (ad15 ra))).toNatClampNeg (pR (cwf nx) ra rd M))))] H := hP
          have hD : va_D A [(m0, .inr (8, [.ref mtt, .int tk9, .int sz9, .int pl9, .int (nI wn9), .ref mcd, .int sy9, .ref mat, .ref msz, .ref mvl, .ref mcs, .ref mmm, .int ra, .int rd, .int (nI (nx + 1)), .int (dn + (nI 1)), .ref mkn, .ref mjp, .ref mds])), (mcd, .inl (gI g, 600, .inl cdf)), (mmm, .inl (gI g, 32768, .inl (upd M ((nI (ad15 ra))).toNatClampNeg (pR (cwf nx) ra rd M))))] := hD
          have eF : (upd M ((nI (ad15 ra))).toNatClampNeg (pR (cwf nx) ra rd M)) = (upd M (ad15 ra) (pR (cwf nx) ra rd M)) := by rw [nI_clamp (by omega)]
          rw [eF] at hP hD
          exact kJ (H, _, upd M (ad15 ra) (pR (cwf nx) ra rd M)) ⟨hP.sub [0, 1, 2] rfl, hD.sub [0, 1, 2] (by decide) rfl, hS, (if_neg c3).symm⟩
    · refine lv_if_ne (tgt := 77) hx hb d_Mod_oneCode_67 (by decide) (fun c2 => ?_) (fun c2 => ?_)
      · refine lv_aload_n hx hb d_Mod_oneCode_77 rfl (lv_at hl 2 rfl) ?_
        refine va_get (D := g.1) (ci := 8) (v := .ref mmm) (C := "SignDeskModel") (T := F_Mod) (N := 19) hx hb hts in_Mod hown hK hP 0 rfl rfl 11 (by decide) (hts _ k_505) (fun _ h9 => h9) rfl d_Mod_oneCode_78 ?_
        refine lv_iload_n hx hb d_Mod_oneCode_81 rfl (lv_at hl 0 rfl) ?_
        refine va_iald hx hb hK hP 2 1 rfl rfl (i := (nI (ad15 ra))) (vp_in_nI (by omega) (by omega)) d_Mod_oneCode_82 ?_
        refine sd_topi (y := M (ad15 ra)) (by rw [nI_clamp (by omega)]) ?_
        exact kJ _ ((if_neg c2).symm)
      · refine lv_aload_n hx hb d_Mod_oneCode_70 rfl (lv_at hl 2 rfl) ?_
        refine va_get (D := g.1) (ci := 8) (v := .int ra) (C := "SignDeskModel") (T := F_Mod) (N := 19) hx hb hts in_Mod hown hK hP 0 rfl rfl 12 (by decide) (hts _ k_506) (fun _ h9 => h9) rfl d_Mod_oneCode_71 ?_
        refine lv_goto (tgt := 83) hx hb d_Mod_oneCode_74 (by decide) ?_
        exact kJ _ ((if_pos c2).symm)
  · have c1 := mt (nI_leI (by omega) (by omega)).mpr c1
    refine lv_aload_n hx hb d_Mod_oneCode_36 rfl (lv_at hl 1 rfl) ?_
    refine lv_iload_n hx hb d_Mod_oneCode_37 rfl (lv_at hl 0 rfl) ?_
    refine va_put (D := g.1) (ci := 8) (v := .int (nI (cwf nx))) (ty := .int) (C := "SignDeskModel") (T := F_Mod) (N := 19) hx hb hts in_Mod t_Mod t_Mod_ok n_Mod hown hK hP hD hS 0 rfl rfl 12 (by decide) (hts _ k_506) (fun _ h9 => h9) rfl (by decide +kernel) rfl rfl (Nat.le_of_ble_eq_true rfl) d_Mod_oneCode_38 (fun H locs hP hD hS => ?_)
    have hP : sdP g [(m0, .inr (8, [.ref mtt, .int tk9, .int sz9, .int pl9, .int (nI wn9), .ref mcd, .int sy9, .ref mat, .ref msz, .ref mvl, .ref mcs, .ref mmm, .int (nI (cwf nx)), .int rd, .int (nI (nx + 1)), .int (dn + (nI 1)), .ref mkn, .ref mjp, .ref mds])), (mcd, .inl (gI g, 600, .inl cdf)), (mmm, .inl (gI g, 32768, .inl M))] H := hP
    have hD : va_D A [(m0, .inr (8, [.ref mtt, .int tk9, .int sz9, .int pl9, .int (nI wn9), .ref mcd, .int sy9, .ref mat, .ref msz, .ref mvl, .ref mcs, .ref mmm, .int (nI (cwf nx)), .int rd, .int (nI (nx + 1)), .int (dn + (nI 1)), .ref mkn, .ref mjp, .ref mds])), (mcd, .inl (gI g, 600, .inl cdf)), (mmm, .inl (gI g, 32768, .inl M))] := hD
    have hP9 := hP.sub (ws' := [(m0, .inr (8, [.ref mtt, .int tk9, .int sz9, .int pl9, .int (nI wn9), .ref mcd, .int sy9, .ref mat, .ref msz, .ref mvl, .ref mcs, .ref mmm, .int (nI (cwf nx)), .int rd, .int (nI (nx + 1)), .int (dn + (nI 1)), .ref mkn, .ref mjp, .ref mds])), (mcd, .inl (gI g, 600, .inl cdf)), (mmm, .inl (gI g, 32768, .inl M))]) [0, 1, 2] rfl
    have hD9 := hD.sub (ws' := [(m0, .inr (8, [.ref mtt, .int tk9, .int sz9, .int pl9, .int (nI wn9), .ref mcd, .int sy9, .ref mat, .ref msz, .ref mvl, .ref mcs, .ref mmm, .int (nI (cwf nx)), .int rd, .int (nI (nx + 1)), .int (dn + (nI 1)), .ref mkn, .ref mjp, .ref mds])), (mcd, .inl (gI g, 600, .inl cdf)), (mmm, .inl (gI g, 32768, .inl M))]) [0, 1, 2] (by decide) rfl
    exact W.vret hx hb hr (fun t ht hW => ⟨⟨(nI (cwf nx), rd, nx + 1, M), rfl, fun pg => ⟨_, by rw [pstep, if_pos (by omega)]⟩, by rw [ht]; exact hP9, by rw [hAe]; exact hD9⟩, hS.F ht⟩) hS.2.2 d_Mod_oneCode_41
set_option maxHeartbeats 4000000 in
set_option maxRecDepth 100000 in
/-- go(x) -/
theorem c_Mod_go (l : Launch) (g : sdG) (m0 mtt mcd mat msz mvl mcs mmm mkn mjp mds : Nat) (tk9 sz9 pl9 sy9 : Int32) (wn9 : Nat) (cdf : Nat → Int32) (cwf : Nat → Nat) (hwn : wn9 ≤ 600) (hpw : ∀ i, i < wn9 → cdf i = nI (cwf i) ∧ cwf i < 65536) (ra rd : Int32) (nx : Nat) (dn : Int32) (M : Nat → Int32) (x : Int32) (hnx : nx < 40000) (sz : Nat) : Met l y_Mod_go (.code y_Mod_go b_Mod_go 3 (some .int) :: sdT) ({ frames := 2, cells := 0, slots := 0, locals := 49 }) (va_Pc [.ref m0, .int x] (sdU g [(m0, .inr (8, [.ref mtt, .int tk9, .int sz9, .int pl9, .int (nI wn9), .ref mcd, .int sy9, .ref mat, .ref msz, .ref mvl, .ref mcs, .ref mmm, .int ra, .int rd, .int (nI nx), .int dn, .ref mkn, .ref mjp, .ref mds])), (mcd, .inl (gI g, 600, .inl cdf)), (mmm, .inl (gI g, 32768, .inl M))] sz)) (va_Qi (S := Int32 × Int32 × Nat × Int32 × (Nat → Int32)) (fun r u => (∃ N, N ≤ 2000 ∧ x = nI N ∧ ∃ c, r = nI c ∧ u.2.2.2.1 = dn + nI c ∧ ∀ pg, ∃ pg1, prun cwf wn9 N (ra, rd, nx, M, pg) = (c, u.1, u.2.1, u.2.2.1, u.2.2.2.2, pg1)) ∨ ((¬ ∃ N, N ≤ 2000 ∧ x = nI N) ∧ r = -1 ∧ u = (ra, rd, nx, dn, M))) (fun u t => sdB g [(m0, .inr (8, [.ref mtt, .int tk9, .int sz9, .int pl9, .int (nI wn9), .ref mcd, .int sy9, .ref mat, .ref msz, .ref mvl, .ref mcs, .ref mmm, .int ra, .int rd, .int (nI nx), .int dn, .ref mkn, .ref mjp, .ref mds])), (mcd, .inl (gI g, 600, .inl cdf)), (mmm, .inl (gI g, 32768, .inl M))] sz ((fun u => [(m0, .inr (8, [.ref mtt, .int tk9, .int sz9, .int pl9, .int (nI wn9), .ref mcd, .int sy9, .ref mat, .ref msz, .ref mvl, .ref mcs, .ref mmm, .int u.1, .int u.2.1, .int (nI u.2.2.1), .int u.2.2.2.1, .ref mkn, .ref mjp, .ref mds])), (mcd, .inl (gI g, 600, .inl cdf)), (mmm, .inl (gI g, 32768, .inl u.2.2.2.2))] : Int32 × Int32 × Nat × Int32 × (Nat → Int32) → va_W) u) t) (va_A [(m0, .inr (8, [.ref mtt, .int tk9, .int sz9, .int pl9, .int (nI wn9), .ref mcd, .int sy9, .ref mat, .ref msz, .ref mvl, .ref mcs, .ref mmm, .int ra, .int rd, .int (nI nx), .int dn, .ref mkn, .ref mjp, .ref mds])), (mcd, .inl (gI g, 600, .inl cdf)), (mmm, .inl (gI g, 32768, .inl M))] sz)) 0 0 (va_A [(m0, .inr (8, [.ref mtt, .int tk9, .int sz9, .int pl9, .int (nI wn9), .ref mcd, .int sy9, .ref mat, .ref msz, .ref mvl, .ref mcs, .ref mmm, .int ra, .int rd, .int (nI nx), .int dn, .ref mkn, .ref mjp, .ref mds])), (mcd, .inl (gI g, 600, .inl cdf)), (mmm, .inl (gI g, 32768, .inl M))] sz) := by
  refine Met.ofW (cc := b_Mod_go) (maxL := 3) (ret := (some .int)) (by decide) rfl ?_
  intro p ev s m args below meth c s₁ B hml hv
  obtain ⟨rfl, hsz, hP, hK, hE, hD0, hs0⟩ := hv
  have hx := B.exec
  have hb := B.bytes
  have hr := B.returns
  have hts := fun (w : Cond) (h : w ∈ sdT) => atoms_spec (ws := (.code y_Mod_go b_Mod_go 3 (some .int) :: sdT)) B.pre w (List.mem_cons_of_mem _ h)
  have hown : s.vm.findClass "SignDeskModel" = some m.cls := findClass_of_methodNamed B.named
  have hlocks := B.notSynchronized
  subst hsz
  have hD := hD0.self (sz := s.heap.size)
  have hA0 : ∀ q : Nat, va_A [(m0, .inr (8, [.ref mtt, .int tk9, .int sz9, .int pl9, .int (nI wn9), .ref mcd, .int sy9, .ref mat, .ref msz, .ref mvl, .ref mcs, .ref mmm, .int ra, .int rd, .int (nI nx), .int dn, .ref mkn, .ref mjp, .ref mds])), (mcd, .inl (gI g, 600, .inl cdf)), (mmm, .inl (gI g, 32768, .inl M))] s.heap.size q → gS g ≤ q := fun q h => h.elim (fun ⟨k, e, hk⟩ => hD0.2 k _ hk) (fun h => Nat.le_trans hs0 h)
  have hA : ∀ q : Nat, s.heap.size ≤ q → va_A [(m0, .inr (8, [.ref mtt, .int tk9, .int sz9, .int pl9, .int (nI wn9), .ref mcd, .int sy9, .ref mat, .ref msz, .ref mvl, .ref mcs, .ref mmm, .int ra, .int rd, .int (nI nx), .int dn, .ref mkn, .ref mjp, .ref mds])), (mcd, .inl (gI g, 600, .inl cdf)), (mmm, .inl (gI g, 32768, .inl M))] s.heap.size q := fun q h => Or.inr h
  generalize hAe : va_A [(m0, .inr (8, [.ref mtt, .int tk9, .int sz9, .int pl9, .int (nI wn9), .ref mcd, .int sy9, .ref mat, .ref msz, .ref mvl, .ref mcs, .ref mmm, .int ra, .int rd, .int (nI nx), .int dn, .ref mkn, .ref mjp, .ref mds])), (mcd, .inl (gI g, 600, .inl cdf)), (mmm, .inl (gI g, 32768, .inl M))] s.heap.size = A at hD hA0 hA ⊢
  have hS : va_S A s.heap s.heap [] := va_S.rf
  have hP : sdP g [(m0, .inr (8, [.ref mtt, .int tk9, .int sz9, .int pl9, .int (nI wn9), .ref mcd, .int sy9, .ref mat, .ref msz, .ref mvl, .ref mcs, .ref mmm, .int ra, .int rd, .int (nI nx), .int dn, .ref mkn, .ref mjp, .ref mds])), (mcd, .inl (gI g, 600, .inl cdf)), (mmm, .inl (gI g, 32768, .inl M))] s.heap := hP
  have hl := lv_entry ([.ref m0, .int x]) (n := 3) (Nat.le_of_ble_eq_true rfl)
  rw [lg_entry_eq]
  generalize (lg_sl ([.ref m0, .int x]) ++ List.replicate (3 - (lg_sl ([.ref m0, .int x])).length) Slot.unset).toArray = ls at hl ⊢
  have hl : lv_has ls 3 [(0, .ref m0), (1, .int x)] := hl
  refine lv_iload_n hx hb d_Mod_go_0 rfl (lv_at hl 1 rfl) ?_
  refine lv_if_lt (tgt := 11) hx hb d_Mod_go_1 (by decide) (fun c1 => ?_) (fun c1 => ?_)
  · refine lv_iconst (v := (-1)) hx hb d_Mod_go_11 (by decide) ?_
    have hP9 := hP.sub (ws' := [(m0, .inr (8, [.ref mtt, .int tk9, .int sz9, .int pl9, .int (nI wn9), .ref mcd, .int sy9, .ref mat, .ref msz, .ref mvl, .ref mcs, .ref mmm, .int ra, .int rd, .int (nI nx), .int dn, .ref mkn, .ref mjp, .ref mds])), (mcd, .inl (gI g, 600, .inl cdf)), (mmm, .inl (gI g, 32768, .inl M))]) [0, 1, 2] rfl
    have hD9 := hD.sub (ws' := [(m0, .inr (8, [.ref mtt, .int tk9, .int sz9, .int pl9, .int (nI wn9), .ref mcd, .int sy9, .ref mat, .ref msz, .ref mvl, .ref mcs, .ref mmm, .int ra, .int rd, .int (nI nx), .int dn, .ref mkn, .ref mjp, .ref mds])), (mcd, .inl (gI g, 600, .inl cdf)), (mmm, .inl (gI g, 32768, .inl M))]) [0, 1, 2] (by decide) rfl
    exact W.iret (v := (-1)) hx hb hr (fun t ht hW => ⟨⟨_, (ra, rd, nx, dn, M), rfl, Or.inr ⟨fun ⟨N, h1, h2⟩ => by
        subst h2; exact absurd c1 (nI_pos (by omega)), rfl, rfl⟩, by rw [ht]; exact hP9, by rw [hAe]; exact hD9⟩, hS.F ht⟩) hS.2.2 d_Mod_go_12
  · refine lv_iload_n hx hb d_Mod_go_4 rfl (lv_at hl 1 rfl) ?_
    refine lv_sipush (v := (nI 2000)) hx hb d_Mod_go_5 (by decide) ?_
    refine lv_icmp_le (tgt := 13) hx hb d_Mod_go_8 (by decide) (fun c2 => ?_) (fun c2 => ?_)
    · obtain ⟨N, hN, rfl⟩ := nI_of2 (M := nI 2000) (n := 2000) (by decide) c1 c2
      refine lv_iconst (v := (nI 0)) hx hb d_Mod_go_13 (by decide) ?_
      refine lv_istore_n (lv' := [(2, .int (nI 0)), (0, .ref m0), (1, .int (nI N))]) hx hb d_Mod_go_14 rfl hl (by decide) rfl (fun ls hl => ?_)
      refine sd_loop (fun (x : Heap × List Loc × Array Slot × Nat × Int32 × Int32 × Nat × Int32 × (Nat → Int32)) => match x with | (H, locs, ls, i, a1, d1, n1, dn1, M1) => lv_has ls 3 [(2, .int (nI i)), (0, .ref m0), (1, .int (nI N))] ∧ sdP g [(m0, .inr (8, [.ref mtt, .int tk9, .int sz9, .int pl9, .int (nI wn9), .ref mcd, .int sy9, .ref mat, .ref msz, .ref mvl, .ref mcs, .ref mmm, .int a1, .int d1, .int (nI n1), .int dn1, .ref mkn, .ref mjp, .ref mds])), (mcd, .inl (gI g, 600, .inl cdf)), (mmm, .inl (gI g, 32768, .inl M1))] H ∧ va_D A [(m0, .inr (8, [.ref mtt, .int tk9, .int sz9, .int pl9, .int (nI wn9), .ref mcd, .int sy9, .ref mat, .ref msz, .ref mvl, .ref mcs, .ref mmm, .int a1, .int d1, .int (nI n1), .int dn1, .ref mkn, .ref mjp, .ref mds])), (mcd, .inl (gI g, 600, .inl cdf)), (mmm, .inl (gI g, 32768, .inl M1))] ∧ va_S A s.heap H locs ∧ (i ≤ N) ∧ (∀ pg, ∃ pg1, prun cwf wn9 N (ra, rd, nx, M, pg) = ((prun cwf wn9 (N - i) (a1, d1, n1, M1, pg1)).1 + i, (prun cwf wn9 (N - i) (a1, d1, n1, M1, pg1)).2)) ∧ (dn1 = dn + nI i) ∧ (n1 < 40000)) (fun (x : Heap × List Loc × Array Slot × Nat × Int32 × Int32 × Nat × Int32 × (Nat → Int32)) => match x with | (H, locs, ls, i, a1, d1, n1, dn1, M1) => N - i) (fun x => x.1) (fun x => x.2.1) (fun (x : Heap × List Loc × Array Slot × Nat × Int32 × Int32 × Nat × Int32 × (Nat → Int32)) => match x with | (H, locs, ls, i, a1, d1, n1, dn1, M1) => 0) (fun (x : Heap × List Loc × Array Slot × Nat × Int32 × Int32 × Nat × Int32 × (Nat → Int32)) => match x with | (H, locs, ls, i, a1, d1, n1, dn1, M1) => 0) (fun x => F0 m 15 x.2.2.1 []) (fun x hI ih => ?_) (s.heap, _, ls, 0, ra, rd, nx, dn, M) ⟨lv_sub hl [0, 1, 2] rfl, hP.sub [0, 1, 2] rfl, hD.sub [0, 1, 2] (by decide) rfl, hS, Nat.zero_le _, fun pg => ⟨pg, rfl⟩, by rw [nI_0, Int32.add_zero], hnx⟩
      obtain ⟨H, locs, ls, i, a1, d1, n1, dn1, M1⟩ := x
      obtain ⟨hl, hP, hD, hS, h1, h2, h3, h6⟩ := hI
      show W p l ev _ s m _ below meth c H locs (0) (0) _ (F0 m 15 ls [])
      have hP : sdP g [(m0, .inr (8, [.ref mtt, .int tk9, .int sz9, .int pl9, .int (nI wn9), .ref mcd, .int sy9, .ref mat, .ref msz, .ref mvl, .ref mcs, .ref mmm, .int a1, .int d1, .int (nI n1), .int dn1, .ref mkn, .ref mjp, .ref mds])), (mcd, .inl (gI g, 600, .inl cdf)), (mmm, .inl (gI g, 32768, .inl M1))] H := hP
      have hD : va_D A [(m0, .inr (8, [.ref mtt, .int tk9, .int sz9, .int pl9, .int (nI wn9), .ref mcd, .int sy9, .ref mat, .ref msz, .ref mvl, .ref mcs, .ref mmm, .int a1, .int d1, .int (nI n1), .int dn1, .ref mkn, .ref mjp, .ref mds])), (mcd, .inl (gI g, 600, .inl cdf)), (mmm, .inl (gI g, 32768, .inl M1))] := hD
      refine lv_iload_n hx hb d_Mod_go_15 rfl (lv_at hl 0 rfl) ?_
      refine lv_iload_n hx hb d_Mod_go_16 rfl (lv_at hl 2 rfl) ?_
      refine lv_icmp_ge (tgt := 42) hx hb d_Mod_go_17 (by decide) (fun c3 => ?_) (fun c3 => ?_)
      · have c3 := (nI_leI (by omega) (by omega)).mp c3
        have e1 : i = N := by omega
        refine lv_iload_n hx hb d_Mod_go_42 rfl (lv_at hl 0 rfl) ?_
        have hP9 := hP.sub (ws' := [(m0, .inr (8, [.ref mtt, .int tk9, .int sz9, .int pl9, .int (nI wn9), .ref mcd, .int sy9, .ref mat, .ref msz, .ref mvl, .ref mcs, .ref mmm, .int a1, .int d1, .int (nI n1), .int dn1, .ref mkn, .ref mjp, .ref mds])), (mcd, .inl (gI g, 600, .inl cdf)), (mmm, .inl (gI g, 32768, .inl M1))]) [0, 1, 2] rfl
        have hD9 := hD.sub (ws' := [(m0, .inr (8, [.ref mtt, .int tk9, .int sz9, .int pl9, .int (nI wn9), .ref mcd, .int sy9, .ref mat, .ref msz, .ref mvl, .ref mcs, .ref mmm, .int a1, .int d1, .int (nI n1), .int dn1, .ref mkn, .ref mjp, .ref mds])), (mcd, .inl (gI g, 600, .inl cdf)), (mmm, .inl (gI g, 32768, .inl M1))]) [0, 1, 2] (by decide) rfl
        exact W.iret (v := (nI i)) hx hb hr (fun t ht hW => ⟨⟨_, (a1, d1, n1, dn1, M1), rfl, Or.inl ⟨N, hN, rfl, i, rfl, h3, fun pg => by
            obtain ⟨pg1, h9⟩ := h2 pg
            exact ⟨pg1, by rw [h9]; rw [e1, Nat.sub_self]; show (0 + N, _) = _; rw [Nat.zero_add]; rfl⟩⟩, by rw [ht]; exact hP9, by rw [hAe]; exact hD9⟩, hS.F ht⟩) hS.2.2 d_Mod_go_43
      · have c3 := mt (nI_leI (by omega) (by omega)).mpr c3
        refine lv_aload_n hx hb d_Mod_go_20 rfl (lv_at hl 1 rfl) ?_
        refine va_get (D := g.1) (ci := 8) (v := .int (nI n1)) (C := "SignDeskModel") (T := F_Mod) (N := 19) hx hb hts in_Mod hown hK hP 0 rfl rfl 14 (by decide) (hts _ k_508) (fun _ h9 => h9) rfl d_Mod_go_21 ?_
        refine lv_aload_n hx hb d_Mod_go_24 rfl (lv_at hl 1 rfl) ?_
        refine va_get (D := g.1) (ci := 8) (v := .int (nI wn9)) (C := "SignDeskModel") (T := F_Mod) (N := 19) hx hb hts in_Mod hown hK hP 0 rfl rfl 4 (by decide) (hts _ k_498) (fun _ h9 => h9) rfl d_Mod_go_25 ?_
        refine lv_icmp_ge (tgt := 42) hx hb d_Mod_go_28 (by decide) (fun c4 => ?_) (fun c4 => ?_)
        · have c4 := (nI_leI (by omega) (by omega)).mp c4
          refine lv_iload_n hx hb d_Mod_go_42 rfl (lv_at hl 0 rfl) ?_
          have hP9 := hP.sub (ws' := [(m0, .inr (8, [.ref mtt, .int tk9, .int sz9, .int pl9, .int (nI wn9), .ref mcd, .int sy9, .ref mat, .ref msz, .ref mvl, .ref mcs, .ref mmm, .int a1, .int d1, .int (nI n1), .int dn1, .ref mkn, .ref mjp, .ref mds])), (mcd, .inl (gI g, 600, .inl cdf)), (mmm, .inl (gI g, 32768, .inl M1))]) [0, 1, 2] rfl
          have hD9 := hD.sub (ws' := [(m0, .inr (8, [.ref mtt, .int tk9, .int sz9, .int pl9, .int (nI wn9), .ref mcd, .int sy9, .ref mat, .ref msz, .ref mvl, .ref mcs, .ref mmm, .int a1, .int d1, .int (nI n1), .int dn1, .ref mkn, .ref mjp, .ref mds])), (mcd, .inl (gI g, 600, .inl cdf)), (mmm, .inl (gI g, 32768, .inl M1))]) [0, 1, 2] (by decide) rfl
          exact W.iret (v := (nI i)) hx hb hr (fun t ht hW => ⟨⟨_, (a1, d1, n1, dn1, M1), rfl, Or.inl ⟨N, hN, rfl, i, rfl, h3, fun pg => by
              obtain ⟨pg1, h9⟩ := h2 pg
              exact ⟨pg1, by rw [h9]; rw [show N - i = (N - (i + 1)) + 1 by omega, prun, if_neg (by show ¬ n1 < wn9; omega), Nat.zero_add]⟩⟩, by rw [ht]; exact hP9, by rw [hAe]; exact hD9⟩, hS.F ht⟩) hS.2.2 d_Mod_go_43
        · have c4 := mt (nI_leI (by omega) (by omega)).mpr c4
          have hlt : n1 < wn9 := by omega
          refine lv_aload_n hx hb d_Mod_go_31 rfl (lv_at hl 1 rfl) ?_
          have hPc := hP.sub (ws' := [(m0, .inr (8, [.ref mtt, .int tk9, .int sz9, .int pl9, .int (nI wn9), .ref mcd, .int sy9, .ref mat, .ref msz, .ref mvl, .ref mcs, .ref mmm, .int a1, .int d1, .int (nI n1), .int dn1, .ref mkn, .ref mjp, .ref mds])), (mcd, .inl (gI g, 600, .inl cdf)), (mmm, .inl (gI g, 32768, .inl M1))]) [0, 1, 2] rfl
          have hDc := hD.sub (ws' := [(m0, .inr (8, [.ref mtt, .int tk9, .int sz9, .int pl9, .int (nI wn9), .ref mcd, .int sy9, .ref mat, .ref msz, .ref mvl, .ref mcs, .ref mmm, .int a1, .int d1, .int (nI n1), .int dn1, .ref mkn, .ref mjp, .ref mds])), (mcd, .inl (gI g, 600, .inl cdf)), (mmm, .inl (gI g, 32768, .inl M1))]) [0, 1, 2] (by decide) rfl
          have hFc := va_free (wc := [(m0, .inr (8, [.ref mtt, .int tk9, .int sz9, .int pl9, .int (nI wn9), .ref mcd, .int sy9, .ref mat, .ref msz, .ref mvl, .ref mcs, .ref mmm, .int a1, .int d1, .int (nI n1), .int dn1, .ref mkn, .ref mjp, .ref mds])), (mcd, .inl (gI g, 600, .inl cdf)), (mmm, .inl (gI g, 32768, .inl M1))]) hD hS hA [0, 1, 2] rfl
          refine sd_cv (va_runV (As := []) (rest := []) ⟨hx, hb, hml, hown, hts⟩ (c_Mod_oneCode l g m0 mtt mcd mat msz mvl mcs mmm mkn mjp mds tk9 sz9 pl9 sy9 wn9 cdf cwf hwn hpw a1 d1 n1 dn1 M1 hlt H.size) (cwV 0 hts (sd_gV k_637 k_639 k_21 k_30 k_640) rfl rfl rfl (by decide +kernel) ⟨Nat.le_of_ble_eq_true rfl, Nat.le_of_ble_eq_true rfl⟩) (sd_preVU hK hE hS hA0 hs0 hPc hDc rfl rfl) rfl rfl hl.1 rfl (lv_room (Nat.le_of_ble_eq_true rfl)) d_Mod_go_32 ⟨Nat.zero_le _, Nat.zero_le _⟩) hS hFc (fun u H1 locs hw hP1 hD1 hk1 hS => ?_)
          obtain ⟨a2, d2, n2, M2⟩ := u
          obtain ⟨hP, hD⟩ := va_join (wr := []) (w1 := [(m0, .inr (8, [.ref mtt, .int tk9, .int sz9, .int pl9, .int (nI wn9), .ref mcd, .int sy9, .ref mat, .ref msz, .ref mvl, .ref mcs, .ref mmm, .int a2, .int d2, .int (nI n2), .int (dn1 + nI 1), .ref mkn, .ref mjp, .ref mds])), (mcd, .inl (gI g, 600, .inl cdf)), (mmm, .inl (gI g, 32768, .inl M2))]) hP hD [0, 1, 2] [] rfl rfl (by decide) (by decide) hk1 hFc hP1 hD1
          clear hPc hDc hFc hk1 hP1 hD1
          generalize H1 = H at hP hS ⊢
          have hP : sdP g [(m0, .inr (8, [.ref mtt, .int tk9, .int sz9, .int pl9, .int (nI wn9), .ref mcd, .int sy9, .ref mat, .ref msz, .ref mvl, .ref mcs, .ref mmm, .int a2, .int d2, .int (nI n2), .int (dn1 + nI 1), .ref mkn, .ref mjp, .ref mds])), (mcd, .inl (gI g, 600, .inl cdf)), (mmm, .inl (gI g, 32768, .inl M2))] H := hP
          have hD : va_D A [(m0, .inr (8, [.ref mtt, .int tk9, .int sz9, .int pl9, .int (nI wn9), .ref mcd, .int sy9, .ref mat, .ref msz, .ref mvl, .ref mcs, .ref mmm, .int a2, .int d2, .int (nI n2), .int (dn1 + nI 1), .ref mkn, .ref mjp, .ref mds])), (mcd, .inl (gI g, 600, .inl cdf)), (mmm, .inl (gI g, 32768, .inl M2))] := hD
          have hw : ∀ pg, ∃ pg1, pstep (cwf n1) (a1, d1, n1, M1, pg) = (a2, d2, n2, M2, pg1) := hw
          refine lv_iload_n hx hb d_Mod_go_35 rfl (lv_at hl 0 rfl) ?_
          refine lv_iconst (v := (nI 1)) hx hb d_Mod_go_36 (by decide) ?_
          refine lv_iadd hx hb d_Mod_go_37 ?_
          refine sd_topi (y := nI (i + 1)) (nI_add _ _) ?_
          refine lv_istore_n (lv' := [(2, .int (nI (i + 1))), (0, .ref m0), (1, .int (nI N))]) hx hb d_Mod_go_38 rfl hl (by decide) rfl (fun ls hl => ?_)
          refine lv_goto (tgt := 15) hx hb d_Mod_go_39 (by decide) ?_
          exact ih (H, locs, ls, i + 1, a2, d2, n2, dn1 + nI 1, M2) ⟨lv_sub hl [0, 1, 2] rfl, hP.sub [0, 1, 2] rfl, hD.sub [0, 1, 2] (by decide) rfl, hS, by omega, fun pg => by
              obtain ⟨pg1, h9⟩ := h2 pg
              obtain ⟨pg2, h8⟩ := hw pg1
              exact ⟨pg2, by rw [h9, show N - i = (N - (i + 1)) + 1 by omega, prun, if_pos hlt, h8, Nat.add_assoc, Nat.add_comm 1 i]⟩, by rw [h3, Int32.add_assoc, nI_add], by
              obtain ⟨pg1, h8⟩ := hw (fun _ => false)
              have e9 : n2 = (pstep (cwf n1) (a1, d1, n1, M1, fun _ => false)).2.2.1 := by rw [h8]
              rw [e9, pstep]
              split
              · show n1 + 1 < 40000; omega
              · show pN (cwf n1) a1 _ n1 < 40000
                unfold pN
                split
                · omega
                · have := ad15_lt a1; omega⟩ (show N - (i + 1) < N - i by omega)
    · refine lv_iconst (v := (-1)) hx hb d_Mod_go_11 (by decide) ?_
      have hP9 := hP.sub (ws' := [(m0, .inr (8, [.ref mtt, .int tk9, .int sz9, .int pl9, .int (nI wn9), .ref mcd, .int sy9, .ref mat, .ref msz, .ref mvl, .ref mcs, .ref mmm, .int ra, .int rd, .int (nI nx), .int dn, .ref mkn, .ref mjp, .ref mds])), (mcd, .inl (gI g, 600, .inl cdf)), (mmm, .inl (gI g, 32768, .inl M))]) [0, 1, 2] rfl
      have hD9 := hD.sub (ws' := [(m0, .inr (8, [.ref mtt, .int tk9, .int sz9, .int pl9, .int (nI wn9), .ref mcd, .int sy9, .ref mat, .ref msz, .ref mvl, .ref mcs, .ref mmm, .int ra, .int rd, .int (nI nx), .int dn, .ref mkn, .ref mjp, .ref mds])), (mcd, .inl (gI g, 600, .inl cdf)), (mmm, .inl (gI g, 32768, .inl M))]) [0, 1, 2] (by decide) rfl
      exact W.iret (v := (-1)) hx hb hr (fun t ht hW => ⟨⟨_, (ra, rd, nx, dn, M), rfl, Or.inr ⟨fun ⟨N, h1, h2⟩ => by
          subst h2; exact c2 (nI_le h1 (by decide)), rfl, rfl⟩, by rw [ht]; exact hP9, by rw [hAe]; exact hD9⟩, hS.F ht⟩) hS.2.2 d_Mod_go_12
set_option maxHeartbeats 4000000 in
set_option maxRecDepth 100000 in
/-- resetProcessor() -/
theorem c_Mod_resetProcessor (l : Launch) (g : sdG) (m0 mtt mcd mat msz mvl mcs mmm mkn mjp mds : Nat) (tk9 sz9 pl9 wd9 sy9 ra rd nx9 dn : Int32) (M : Nat → Int32) (sz : Nat) : Met l y_Mod_resetProcessor (.code y_Mod_resetProcessor b_Mod_resetProcessor 2 none :: sdT) ({ frames := 0, cells := 0, slots := 0, locals := 0 }) (va_Pc [.ref m0] (sdU g [(m0, .inr (8, [.ref mtt, .int tk9, .int sz9, .int pl9, .int wd9, .ref mcd, .int sy9, .ref mat, .ref msz, .ref mvl, .ref mcs, .ref mmm, .int ra, .int rd, .int nx9, .int dn, .ref mkn, .ref mjp, .ref mds])), (mmm, .inl (gI g, 32768, .inl M))] sz)) (va_Qv (S := (Nat → Int32)) (fun u => ∀ j, j < 32768 → u j = 0) (fun u t => sdB g [(m0, .inr (8, [.ref mtt, .int tk9, .int sz9, .int pl9, .int wd9, .ref mcd, .int sy9, .ref mat, .ref msz, .ref mvl, .ref mcs, .ref mmm, .int ra, .int rd, .int nx9, .int dn, .ref mkn, .ref mjp, .ref mds])), (mmm, .inl (gI g, 32768, .inl M))] sz ((fun u => [(m0, .inr (8, [.ref mtt, .int tk9, .int sz9, .int pl9, .int (nI 0), .ref mcd, .int (nI 0), .ref mat, .ref msz, .ref mvl, .ref mcs, .ref mmm, .int (nI 0), .int (nI 0), .int (nI 0), .int (nI 0), .ref mkn, .ref mjp, .ref mds])), (mmm, .inl (gI g, 32768, .inl u))] : (Nat → Int32) → va_W) u) t) (va_A [(m0, .inr (8, [.ref mtt, .int tk9, .int sz9, .int pl9, .int wd9, .ref mcd, .int sy9, .ref mat, .ref msz, .ref mvl, .ref mcs, .ref mmm, .int ra, .int rd, .int nx9, .int dn, .ref mkn, .ref mjp, .ref mds])), (mmm, .inl (gI g, 32768, .inl M))] sz)) 0 0 (va_A [(m0, .inr (8, [.ref mtt, .int tk9, .int sz9, .int pl9, .int wd9, .ref mcd, .int sy9, .ref mat, .ref msz, .ref mvl, .ref mcs, .ref mmm, .int ra, .int rd, .int nx9, .int dn, .ref mkn, .ref mjp, .ref mds])), (mmm, .inl (gI g, 32768, .inl M))] sz) := by
  refine Met.ofW (cc := b_Mod_resetProcessor) (maxL := 2) (ret := none) (by decide) rfl ?_
  intro p ev s m args below meth c s₁ B hml hv
  obtain ⟨rfl, hsz, hP, hK, hE, hD0, hs0⟩ := hv
  have hx := B.exec
  have hb := B.bytes
  have hr := B.returns
  have hts := fun (w : Cond) (h : w ∈ sdT) => atoms_spec (ws := (.code y_Mod_resetProcessor b_Mod_resetProcessor 2 none :: sdT)) B.pre w (List.mem_cons_of_mem _ h)
  have hown : s.vm.findClass "SignDeskModel" = some m.cls := findClass_of_methodNamed B.named
  have hlocks := B.notSynchronized
  subst hsz
  have hD := hD0.self (sz := s.heap.size)
  have hA0 : ∀ q : Nat, va_A [(m0, .inr (8, [.ref mtt, .int tk9, .int sz9, .int pl9, .int wd9, .ref mcd, .int sy9, .ref mat, .ref msz, .ref mvl, .ref mcs, .ref mmm, .int ra, .int rd, .int nx9, .int dn, .ref mkn, .ref mjp, .ref mds])), (mmm, .inl (gI g, 32768, .inl M))] s.heap.size q → gS g ≤ q := fun q h => h.elim (fun ⟨k, e, hk⟩ => hD0.2 k _ hk) (fun h => Nat.le_trans hs0 h)
  have hA : ∀ q : Nat, s.heap.size ≤ q → va_A [(m0, .inr (8, [.ref mtt, .int tk9, .int sz9, .int pl9, .int wd9, .ref mcd, .int sy9, .ref mat, .ref msz, .ref mvl, .ref mcs, .ref mmm, .int ra, .int rd, .int nx9, .int dn, .ref mkn, .ref mjp, .ref mds])), (mmm, .inl (gI g, 32768, .inl M))] s.heap.size q := fun q h => Or.inr h
  generalize hAe : va_A [(m0, .inr (8, [.ref mtt, .int tk9, .int sz9, .int pl9, .int wd9, .ref mcd, .int sy9, .ref mat, .ref msz, .ref mvl, .ref mcs, .ref mmm, .int ra, .int rd, .int nx9, .int dn, .ref mkn, .ref mjp, .ref mds])), (mmm, .inl (gI g, 32768, .inl M))] s.heap.size = A at hD hA0 hA ⊢
  have hS : va_S A s.heap s.heap [] := va_S.rf
  have hP : sdP g [(m0, .inr (8, [.ref mtt, .int tk9, .int sz9, .int pl9, .int wd9, .ref mcd, .int sy9, .ref mat, .ref msz, .ref mvl, .ref mcs, .ref mmm, .int ra, .int rd, .int nx9, .int dn, .ref mkn, .ref mjp, .ref mds])), (mmm, .inl (gI g, 32768, .inl M))] s.heap := hP
  have hl := lv_entry ([.ref m0]) (n := 2) (Nat.le_of_ble_eq_true rfl)
  rw [lg_entry_eq]
  generalize (lg_sl ([.ref m0]) ++ List.replicate (2 - (lg_sl ([.ref m0])).length) Slot.unset).toArray = ls at hl ⊢
  have hl : lv_has ls 2 [(0, .ref m0)] := hl
  refine lv_iconst (v := (nI 0)) hx hb d_Mod_resetProcessor_0 (by decide) ?_
  refine lv_istore_n (lv' := [(1, .int (nI 0)), (0, .ref m0)]) hx hb d_Mod_resetProcessor_1 rfl hl (by decide) rfl (fun ls hl => ?_)
  refine sd_loop (fun (x : Heap × List Loc × Array Slot × Nat × (Nat → Int32)) => match x with | (H, locs, ls, i, M1) => lv_has ls 2 [(1, .int (nI i)), (0, .ref m0)] ∧ sdP g [(m0, .inr (8, [.ref mtt, .int tk9, .int sz9, .int pl9, .int wd9, .ref mcd, .int sy9, .ref mat, .ref msz, .ref mvl, .ref mcs, .ref mmm, .int ra, .int rd, .int nx9, .int dn, .ref mkn, .ref mjp, .ref mds])), (mmm, .inl (gI g, 32768, .inl M1))] H ∧ va_D A [(m0, .inr (8, [.ref mtt, .int tk9, .int sz9, .int pl9, .int wd9, .ref mcd, .int sy9, .ref mat, .ref msz, .ref mvl, .ref mcs, .ref mmm, .int ra, .int rd, .int nx9, .int dn, .ref mkn, .ref mjp, .ref mds])), (mmm, .inl (gI g, 32768, .inl M1))] ∧ va_S A s.heap H locs ∧ (i ≤ 32768) ∧ (∀ j, j < i → M1 j = 0)) (fun (x : Heap × List Loc × Array Slot × Nat × (Nat → Int32)) => match x with | (H, locs, ls, i, M1) => 32768 - i) (fun x => x.1) (fun x => x.2.1) (fun (x : Heap × List Loc × Array Slot × Nat × (Nat → Int32)) => match x with | (H, locs, ls, i, M1) => 0) (fun (x : Heap × List Loc × Array Slot × Nat × (Nat → Int32)) => match x with | (H, locs, ls, i, M1) => 0) (fun x => F0 m 2 x.2.2.1 []) (fun x hI ih => ?_) (s.heap, _, ls, 0, M) ⟨lv_sub hl [0, 1] rfl, hP.sub [0, 1] rfl, hD.sub [0, 1] (by decide) rfl, hS, Nat.zero_le _, fun j h => absurd h (Nat.not_lt_zero j)⟩
  obtain ⟨H, locs, ls, i, M1⟩ := x
  obtain ⟨hl, hP, hD, hS, h1, h2⟩ := hI
  show W p l ev _ s m _ below meth c H locs (0) (0) _ (F0 m 2 ls [])
  have hP : sdP g [(m0, .inr (8, [.ref mtt, .int tk9, .int sz9, .int pl9, .int wd9, .ref mcd, .int sy9, .ref mat, .ref msz, .ref mvl, .ref mcs, .ref mmm, .int ra, .int rd, .int nx9, .int dn, .ref mkn, .ref mjp, .ref mds])), (mmm, .inl (gI g, 32768, .inl M1))] H := hP
  have hD : va_D A [(m0, .inr (8, [.ref mtt, .int tk9, .int sz9, .int pl9, .int wd9, .ref mcd, .int sy9, .ref mat, .ref msz, .ref mvl, .ref mcs, .ref mmm, .int ra, .int rd, .int nx9, .int dn, .ref mkn, .ref mjp, .ref mds])), (mmm, .inl (gI g, 32768, .inl M1))] := hD
  refine lv_iload_n hx hb d_Mod_resetProcessor_2 rfl (lv_at hl 0 rfl) ?_
  refine lv_ldc (v := nI 32768) hx hb hown (hts _ k_493) d_Mod_resetProcessor_3 ?_
  refine lv_icmp_ge (tgt := 21) hx hb d_Mod_resetProcessor_5 (by decide) (fun c1 => ?_) (fun c1 => ?_)
  · have c1 := (nI_leI (by omega) (by omega)).mp c1
    have e1 : i = 32768 := by omega
    rw [e1] at h2
    refine lv_aload_n hx hb d_Mod_resetProcessor_21 rfl (lv_at hl 1 rfl) ?_
    refine lv_iconst (v := (nI 0)) hx hb d_Mod_resetProcessor_22 (by decide) ?_
    refine va_put (D := g.1) (ci := 8) (v := .int (nI 0)) (ty := .int) (C := "SignDeskModel") (T := F_Mod) (N := 19) hx hb hts in_Mod t_Mod t_Mod_ok n_Mod hown hK hP hD hS 0 rfl rfl 12 (by decide) (hts _ k_506) (fun _ h9 => h9) rfl (by decide +kernel) rfl rfl (Nat.le_of_ble_eq_true rfl) d_Mod_resetProcessor_23 (fun H locs hP hD hS => ?_)
    have hP : sdP g [(m0, .inr (8, [.ref mtt, .int tk9, .int sz9, .int pl9, .int wd9, .ref mcd, .int sy9, .ref mat, .ref msz, .ref mvl, .ref mcs, .ref mmm, .int (nI 0), .int rd, .int nx9, .int dn, .ref mkn, .ref mjp, .ref mds])), (mmm, .inl (gI g, 32768, .inl M1))] H := hP
    have hD : va_D A [(m0, .inr (8, [.ref mtt, .int tk9, .int sz9, .int pl9, .int wd9, .ref mcd, .int sy9, .ref mat, .ref msz, .ref mvl, .ref mcs, .ref mmm, .int (nI 0), .int rd, .int nx9, .int dn, .ref mkn, .ref mjp, .ref mds])), (mmm, .inl (gI g, 32768, .inl M1))] := hD
    refine lv_aload_n hx hb d_Mod_resetProcessor_26 rfl (lv_at hl 1 rfl) ?_
    refine lv_iconst (v := (nI 0)) hx hb d_Mod_resetProcessor_27 (by decide) ?_
    refine va_put (D := g.1) (ci := 8) (v := .int (nI 0)) (ty := .int) (C := "SignDeskModel") (T := F_Mod) (N := 19) hx hb hts in_Mod t_Mod t_Mod_ok n_Mod hown hK hP hD hS 0 rfl rfl 13 (by decide) (hts _ k_507) (fun _ h9 => h9) rfl (by decide +kernel) rfl rfl (Nat.le_of_ble_eq_true rfl) d_Mod_resetProcessor_28 (fun H locs hP hD hS => ?_)
    have hP : sdP g [(m0, .inr (8, [.ref mtt, .int tk9, .int sz9, .int pl9, .int wd9, .ref mcd, .int sy9, .ref mat, .ref msz, .ref mvl, .ref mcs, .ref mmm, .int (nI 0), .int (nI 0), .int nx9, .int dn, .ref mkn, .ref mjp, .ref mds])), (mmm, .inl (gI g, 32768, .inl M1))] H := hP
    have hD : va_D A [(m0, .inr (8, [.ref mtt, .int tk9, .int sz9, .int pl9, .int wd9, .ref mcd, .int sy9, .ref mat, .ref msz, .ref mvl, .ref mcs, .ref mmm, .int (nI 0), .int (nI 0), .int nx9, .int dn, .ref mkn, .ref mjp, .ref mds])), (mmm, .inl (gI g, 32768, .inl M1))] := hD
    refine lv_aload_n hx hb d_Mod_resetProcessor_31 rfl (lv_at hl 1 rfl) ?_
    refine lv_iconst (v := (nI 0)) hx hb d_Mod_resetProcessor_32 (by decide) ?_
    refine va_put (D := g.1) (ci := 8) (v := .int (nI 0)) (ty := .int) (C := "SignDeskModel") (T := F_Mod) (N := 19) hx hb hts in_Mod t_Mod t_Mod_ok n_Mod hown hK hP hD hS 0 rfl rfl 14 (by decide) (hts _ k_508) (fun _ h9 => h9) rfl (by decide +kernel) rfl rfl (Nat.le_of_ble_eq_true rfl) d_Mod_resetProcessor_33 (fun H locs hP hD hS => ?_)
    have hP : sdP g [(m0, .inr (8, [.ref mtt, .int tk9, .int sz9, .int pl9, .int wd9, .ref mcd, .int sy9, .ref mat, .ref msz, .ref mvl, .ref mcs, .ref mmm, .int (nI 0), .int (nI 0), .int (nI 0), .int dn, .ref mkn, .ref mjp, .ref mds])), (mmm, .inl (gI g, 32768, .inl M1))] H := hP
    have hD : va_D A [(m0, .inr (8, [.ref mtt, .int tk9, .int sz9, .int pl9, .int wd9, .ref mcd, .int sy9, .ref mat, .ref msz, .ref mvl, .ref mcs, .ref mmm, .int (nI 0), .int (nI 0), .int (nI 0), .int dn, .ref mkn, .ref mjp, .ref mds])), (mmm, .inl (gI g, 32768, .inl M1))] := hD
    refine lv_aload_n hx hb d_Mod_resetProcessor_36 rfl (lv_at hl 1 rfl) ?_
    refine lv_iconst (v := (nI 0)) hx hb d_Mod_resetProcessor_37 (by decide) ?_
    refine va_put (D := g.1) (ci := 8) (v := .int (nI 0)) (ty := .int) (C := "SignDeskModel") (T := F_Mod) (N := 19) hx hb hts in_Mod t_Mod t_Mod_ok n_Mod hown hK hP hD hS 0 rfl rfl 15 (by decide) (hts _ k_509) (fun _ h9 => h9) rfl (by decide +kernel) rfl rfl (Nat.le_of_ble_eq_true rfl) d_Mod_resetProcessor_38 (fun H locs hP hD hS => ?_)
    have hP : sdP g [(m0, .inr (8, [.ref mtt, .int tk9, .int sz9, .int pl9, .int wd9, .ref mcd, .int sy9, .ref mat, .ref msz, .ref mvl, .ref mcs, .ref mmm, .int (nI 0), .int (nI 0), .int (nI 0), .int (nI 0), .ref mkn, .ref mjp, .ref mds])), (mmm, .inl (gI g, 32768, .inl M1))] H := hP
    have hD : va_D A [(m0, .inr (8, [.ref mtt, .int tk9, .int sz9, .int pl9, .int wd9, .ref mcd, .int sy9, .ref mat, .ref msz, .ref mvl, .ref mcs, .ref mmm, .int (nI 0), .int (nI 0), .int (nI 0), .int (nI 0), .ref mkn, .ref mjp, .ref mds])), (mmm, .inl (gI g, 32768, .inl M1))] := hD
    refine lv_aload_n hx hb d_Mod_resetProcessor_41 rfl (lv_at hl 1 rfl) ?_
    refine lv_iconst (v := (nI 0)) hx hb d_Mod_resetProcessor_42 (by decide) ?_
    refine va_put (D := g.1) (ci := 8) (v := .int (nI 0)) (ty := .int) (C := "SignDeskModel") (T := F_Mod) (N := 19) hx hb hts in_Mod t_Mod t_Mod_ok n_Mod hown hK hP hD hS 0 rfl rfl 4 (by decide) (hts _ k_498) (fun _ h9 => h9) rfl (by decide +kernel) rfl rfl (Nat.le_of_ble_eq_true rfl) d_Mod_resetProcessor_43 (fun H locs hP hD hS => ?_)
    have hP : sdP g [(m0, .inr (8, [.ref mtt, .int tk9, .int sz9, .int pl9, .int (nI 0), .ref mcd, .int sy9, .ref mat, .ref msz, .ref mvl, .ref mcs, .ref mmm, .int (nI 0), .int (nI 0), .int (nI 0), .int (nI 0), .ref mkn, .ref mjp, .ref mds])), (mmm, .inl (gI g, 32768, .inl M1))] H := hP
    have hD : va_D A [(m0, .inr (8, [.ref mtt, .int tk9, .int sz9, .int pl9, .int (nI 0), .ref mcd, .int sy9, .ref mat, .ref msz, .ref mvl, .ref mcs, .ref mmm, .int (nI 0), .int (nI 0), .int (nI 0), .int (nI 0), .ref mkn, .ref mjp, .ref mds])), (mmm, .inl (gI g, 32768, .inl M1))] := hD
    refine lv_aload_n hx hb d_Mod_resetProcessor_46 rfl (lv_at hl 1 rfl) ?_
    refine lv_iconst (v := (nI 0)) hx hb d_Mod_resetProcessor_47 (by decide) ?_
    refine va_put (D := g.1) (ci := 8) (v := .int (nI 0)) (ty := .int) (C := "SignDeskModel") (T := F_Mod) (N := 19) hx hb hts in_Mod t_Mod t_Mod_ok n_Mod hown hK hP hD hS 0 rfl rfl 6 (by decide) (hts _ k_500) (fun _ h9 => h9) rfl (by decide +kernel) rfl rfl (Nat.le_of_ble_eq_true rfl) d_Mod_resetProcessor_48 (fun H locs hP hD hS => ?_)
    have hP : sdP g [(m0, .inr (8, [.ref mtt, .int tk9, .int sz9, .int pl9, .int (nI 0), .ref mcd, .int (nI 0), .ref mat, .ref msz, .ref mvl, .ref mcs, .ref mmm, .int (nI 0), .int (nI 0), .int (nI 0), .int (nI 0), .ref mkn, .ref mjp, .ref mds])), (mmm, .inl (gI g, 32768, .inl M1))] H := hP
    have hD : va_D A [(m0, .inr (8, [.ref mtt, .int tk9, .int sz9, .int pl9, .int (nI 0), .ref mcd, .int (nI 0), .ref mat, .ref msz, .ref mvl, .ref mcs, .ref mmm, .int (nI 0), .int (nI 0), .int (nI 0), .int (nI 0), .ref mkn, .ref mjp, .ref mds])), (mmm, .inl (gI g, 32768, .inl M1))] := hD
    have hP9 := hP.sub (ws' := [(m0, .inr (8, [.ref mtt, .int tk9, .int sz9, .int pl9, .int (nI 0), .ref mcd, .int (nI 0), .ref mat, .ref msz, .ref mvl, .ref mcs, .ref mmm, .int (nI 0), .int (nI 0), .int (nI 0), .int (nI 0), .ref mkn, .ref mjp, .ref mds])), (mmm, .inl (gI g, 32768, .inl M1))]) [0, 1] rfl
    have hD9 := hD.sub (ws' := [(m0, .inr (8, [.ref mtt, .int tk9, .int sz9, .int pl9, .int (nI 0), .ref mcd, .int (nI 0), .ref mat, .ref msz, .ref mvl, .ref mcs, .ref mmm, .int (nI 0), .int (nI 0), .int (nI 0), .int (nI 0), .ref mkn, .ref mjp, .ref mds])), (mmm, .inl (gI g, 32768, .inl M1))]) [0, 1] (by decide) rfl
    exact W.vret hx hb hr (fun t ht hW => ⟨⟨M1, rfl, h2, by rw [ht]; exact hP9, by rw [hAe]; exact hD9⟩, hS.F ht⟩) hS.2.2 d_Mod_resetProcessor_51
  · have c1 := mt (nI_leI (by omega) (by omega)).mpr c1
    refine lv_aload_n hx hb d_Mod_resetProcessor_8 rfl (lv_at hl 1 rfl) ?_
    refine va_get (D := g.1) (ci := 8) (v := .ref mmm) (C := "SignDeskModel") (T := F_Mod) (N := 19) hx hb hts in_Mod hown hK hP 0 rfl rfl 11 (by decide) (hts _ k_505) (fun _ h9 => h9) rfl d_Mod_resetProcessor_9 ?_
    refine lv_iload_n hx hb d_Mod_resetProcessor_12 rfl (lv_at hl 0 rfl) ?_
    refine lv_iconst (v := (nI 0)) hx hb d_Mod_resetProcessor_13 (by decide) ?_
    refine va_iast hx hb hK hP hD hS 1 1 rfl rfl (i := (nI i)) (x := (nI 0)) (vp_in_nI (by omega) (by omega)) d_Mod_resetProcessor_14 (fun H locs hP hD hS => ?_)
    have hP : sdP g [(m0, .inr (8, [.ref mtt, .int tk9, .int sz9, .int pl9, .int wd9, .ref mcd, .int sy9, .ref mat, .ref msz, .ref mvl, .ref mcs, .ref mmm, .int ra, .int rd, .int nx9, .int dn, .ref mkn, .ref mjp, .ref mds])), (mmm, .inl (gI g, 32768, .inl (upd M1 ((nI i)).toNatClampNeg (nI 0))))] H := hP
    have hD : va_D A [(m0, .inr (8, [.ref mtt, .int tk9, .int sz9, .int pl9, .int wd9, .ref mcd, .int sy9, .ref mat, .ref msz, .ref mvl, .ref mcs, .ref mmm, .int ra, .int rd, .int nx9, .int dn, .ref mkn, .ref mjp, .ref mds])), (mmm, .inl (gI g, 32768, .inl (upd M1 ((nI i)).toNatClampNeg (nI 0))))] := hD
    have eF : (upd M1 ((nI i)).toNatClampNeg (nI 0)) = (upd M1 i (nI 0)) := by rw [nI_clamp (by omega)]
    rw [eF] at hP hD
    refine lv_iinc (v := (nI (i + 1))) (lv' := [(1, .int (nI (i + 1))), (0, .ref m0)]) hx hb d_Mod_resetProcessor_15 hl (k := 0) rfl (nI_1 _) (by decide) rfl (fun ls hl => ?_)
    refine lv_goto (tgt := 2) hx hb d_Mod_resetProcessor_18 (by decide) ?_
    exact ih (H, locs, ls, i + 1, upd M1 i (nI 0)) ⟨lv_sub hl [0, 1] rfl, hP.sub [0, 1] rfl, hD.sub [0, 1] (by decide) rfl, hS, by omega, fun j hj => by
        by_cases q : j = i
        · subst q; rw [pk_us]; rfl
        · rw [pk_un q]; exact h2 j (by omega)⟩ (show 32768 - (i + 1) < 32768 - i by omega)
