set_option maxHeartbeats 4000000 in
set_option maxRecDepth 100000 in
/-- run(N) -/
theorem c_Prc_run (l : Launch) (g : sdG) (qc q2 qm qp q6 wn9 : Nat) (pw : Nat → Int32) (cw : Nat → Nat) (hwn : wn9 ≤ 600) (hpw : ∀ i, i < wn9 → pw i = nI (cw i) ∧ cw i < 65536) (a d : Int32) (nx : Nat) (dn : Int32) (pf : Nat → Option Nat) (L : List Nat) (fE : Nat → va_E) (M : Nat → Int32) (pg : Nat → Bool) (hM : memOK g pf L fE M pg) (N : Nat) (hN : N ≤ 2000) (hnx : nx < 40000) (mc ms : Nat) (hmc : 2 * (cntp (prun cw wn9 N (a, d, nx, M, pg)).2.2.2.2.2 - cntp pg) ≤ mc ∧ 257 * (cntp (prun cw wn9 N (a, d, nx, M, pg)).2.2.2.2.2 - cntp pg) ≤ ms) (sz : Nat) : Met l y_Prc_run (.code y_Prc_run b_Prc_run 4 (some .int) :: sdT) ({ frames := 4, cells := mc, slots := ms, locals := 89 }) (va_Pc [.ref qc, .int (nI N)] (sdU g ([(qc, .inr (2, [.ref q2, .ref qm, .int a, .int d, .int (nI nx), .int dn])), (q2, .inr (3, [.ref q6, .int (nI wn9)])), (q6, .inl (gI g, 600, .inl pw)), (qm, .inr (0, [.ref qp])), (qp, .inl (gP g, 128, .inr (.inr (.inr (.inr pf)))))] ++ va_pl L fE) sz)) (va_Qi (S := Int32 × Int32 × Nat × Int32 × (Nat → Option Nat) × List Nat × (Nat → va_E)) (fun r u => ∃ c M1 pg1, prun cw wn9 N (a, d, nx, M, pg) = (c, u.1, u.2.1, u.2.2.1, M1, pg1) ∧ r = nI c ∧ u.2.2.2.1 = dn + nI c ∧ memOK g u.2.2.2.2.1 u.2.2.2.2.2.1 u.2.2.2.2.2.2 M1 pg1) (fun u t => sdB g ([(qc, .inr (2, [.ref q2, .ref qm, .int a, .int d, .int (nI nx), .int dn])), (q2, .inr (3, [.ref q6, .int (nI wn9)])), (q6, .inl (gI g, 600, .inl pw)), (qm, .inr (0, [.ref qp])), (qp, .inl (gP g, 128, .inr (.inr (.inr (.inr pf)))))] ++ va_pl L fE) sz ((fun u => ([(qc, .inr (2, [.ref q2, .ref qm, .int u.1, .int u.2.1, .int (nI u.2.2.1), .int u.2.2.2.1])), (q2, .inr (3, [.ref q6, .int (nI wn9)])), (q6, .inl (gI g, 600, .inl pw)), (qm, .inr (0, [.ref qp])), (qp, .inl (gP g, 128, .inr (.inr (.inr (.inr u.2.2.2.2.1)))))] ++ va_pl u.2.2.2.2.2.1 u.2.2.2.2.2.2) : Int32 × Int32 × Nat × Int32 × (Nat → Option Nat) × List Nat × (Nat → va_E) → va_W) u) t) (va_A ([(qc, .inr (2, [.ref q2, .ref qm, .int a, .int d, .int (nI nx), .int dn])), (q2, .inr (3, [.ref q6, .int (nI wn9)])), (q6, .inl (gI g, 600, .inl pw)), (qm, .inr (0, [.ref qp])), (qp, .inl (gP g, 128, .inr (.inr (.inr (.inr pf)))))] ++ va_pl L fE) sz)) mc ms (va_A ([(qc, .inr (2, [.ref q2, .ref qm, .int a, .int d, .int (nI nx), .int dn])), (q2, .inr (3, [.ref q6, .int (nI wn9)])), (q6, .inl (gI g, 600, .inl pw)), (qm, .inr (0, [.ref qp])), (qp, .inl (gP g, 128, .inr (.inr (.inr (.inr pf)))))] ++ va_pl L fE) sz) := by
  refine Met.ofW (cc := b_Prc_run) (maxL := 4) (ret := (some .int)) (by decide) rfl ?_
  intro p ev s m args below meth c s₁ B hml hv
  obtain ⟨rfl, hsz, hP, hK, hE, hD0, hs0⟩ := hv
  have hx := B.exec
  have hb := B.bytes
  have hr := B.returns
  have hts := fun (w : Cond) (h : w ∈ sdT) => atoms_spec (ws := (.code y_Prc_run b_Prc_run 4 (some .int) :: sdT)) B.pre w (List.mem_cons_of_mem _ h)
  have hown : s.vm.findClass "SignDesk$Processor" = some m.cls := findClass_of_methodNamed B.named
  have hlocks := B.notSynchronized
  subst hsz
  have hD := hD0.self (sz := s.heap.size)
  have hA0 : ∀ q : Nat, va_A ([(qc, .inr (2, [.ref q2, .ref qm, .int a, .int d, .int (nI nx), .int dn])), (q2, .inr (3, [.ref q6, .int (nI wn9)])), (q6, .inl (gI g, 600, .inl pw)), (qm, .inr (0, [.ref qp])), (qp, .inl (gP g, 128, .inr (.inr (.inr (.inr pf)))))] ++ va_pl L fE) s.heap.size q → gS g ≤ q := fun q h => h.elim (fun ⟨k, e, hk⟩ => hD0.2 k _ hk) (fun h => Nat.le_trans hs0 h)
  have hA : ∀ q : Nat, s.heap.size ≤ q → va_A ([(qc, .inr (2, [.ref q2, .ref qm, .int a, .int d, .int (nI nx), .int dn])), (q2, .inr (3, [.ref q6, .int (nI wn9)])), (q6, .inl (gI g, 600, .inl pw)), (qm, .inr (0, [.ref qp])), (qp, .inl (gP g, 128, .inr (.inr (.inr (.inr pf)))))] ++ va_pl L fE) s.heap.size q := fun q h => Or.inr h
  generalize hAe : va_A ([(qc, .inr (2, [.ref q2, .ref qm, .int a, .int d, .int (nI nx), .int dn])), (q2, .inr (3, [.ref q6, .int (nI wn9)])), (q6, .inl (gI g, 600, .inl pw)), (qm, .inr (0, [.ref qp])), (qp, .inl (gP g, 128, .inr (.inr (.inr (.inr pf)))))] ++ va_pl L fE) s.heap.size = A at hD hA0 hA ⊢
  have hS : va_S A s.heap s.heap [] := va_S.rf
  have hP : sdP g ([(qc, .inr (2, [.ref q2, .ref qm, .int a, .int d, .int (nI nx), .int dn])), (q2, .inr (3, [.ref q6, .int (nI wn9)])), (q6, .inl (gI g, 600, .inl pw)), (qm, .inr (0, [.ref qp])), (qp, .inl (gP g, 128, .inr (.inr (.inr (.inr pf)))))] ++ va_pl L fE) s.heap := hP
  have hl := lv_entry ([.ref qc, .int (nI N)]) (n := 4) (Nat.le_of_ble_eq_true rfl)
  rw [lg_entry_eq]
  generalize (lg_sl ([.ref qc, .int (nI N)]) ++ List.replicate (4 - (lg_sl ([.ref qc, .int (nI N)])).length) Slot.unset).toArray = ls at hl ⊢
  have hl : lv_has ls 4 [(0, .ref qc), (1, .int (nI N))] := hl
  refine lv_iconst (v := (nI 0)) hx hb d_Prc_run_0 (by decide) ?_
  refine lv_istore_n (lv' := [(2, .int (nI 0)), (0, .ref qc), (1, .int (nI N))]) hx hb d_Prc_run_1 rfl hl (by decide) rfl (fun ls hl => ?_)
  refine W.widen (k := 2 * (cntp pg - cntp pg)) (n := 257 * (cntp pg - cntp pg)) (Nat.zero_le _) (Nat.zero_le _) ?_
  refine sd_loop (fun (x : Heap × List Loc × Array Slot × Nat × Int32 × Int32 × Nat × Int32 × (Nat → Int32) × (Nat → Bool) × (Nat → Option Nat) × List Nat × (Nat → va_E)) => match x with | (H, locs, ls, i, a1, d1, n1, dn1, M1, pg1, pf1, L1, f1) => lv_has ls 4 [(2, .int (nI i)), (0, .ref qc), (1, .int (nI N))] ∧ sdP g ([(qc, .inr (2, [.ref q2, .ref qm, .int a1, .int d1, .int (nI n1), .int dn1])), (q2, .inr (3, [.ref q6, .int (nI wn9)])), (q6, .inl (gI g, 600, .inl pw)), (qm, .inr (0, [.ref qp])), (qp, .inl (gP g, 128, .inr (.inr (.inr (.inr pf1)))))] ++ va_pl L1 f1) H ∧ va_D A ([(qc, .inr (2, [.ref q2, .ref qm, .int a1, .int d1, .int (nI n1), .int dn1])), (q2, .inr (3, [.ref q6, .int (nI wn9)])), (q6, .inl (gI g, 600, .inl pw)), (qm, .inr (0, [.ref qp])), (qp, .inl (gP g, 128, .inr (.inr (.inr (.inr pf1)))))] ++ va_pl L1 f1) ∧ va_S A s.heap H locs ∧ (i ≤ N) ∧ (prun cw wn9 N (a, d, nx, M, pg) = ((prun cw wn9 (N - i) (a1, d1, n1, M1, pg1)).1 + i, (prun cw wn9 (N - i) (a1, d1, n1, M1, pg1)).2)) ∧ (dn1 = dn + nI i) ∧ (memOK g pf1 L1 f1 M1 pg1) ∧ (cntp pg ≤ cntp pg1) ∧ (n1 < 40000)) (fun (x : Heap × List Loc × Array Slot × Nat × Int32 × Int32 × Nat × Int32 × (Nat → Int32) × (Nat → Bool) × (Nat → Option Nat) × List Nat × (Nat → va_E)) => match x with | (H, locs, ls, i, a1, d1, n1, dn1, M1, pg1, pf1, L1, f1) => N - i) (fun x => x.1) (fun x => x.2.1) (fun (x : Heap × List Loc × Array Slot × Nat × Int32 × Int32 × Nat × Int32 × (Nat → Int32) × (Nat → Bool) × (Nat → Option Nat) × List Nat × (Nat → va_E)) => match x with | (H, locs, ls, i, a1, d1, n1, dn1, M1, pg1, pf1, L1, f1) => 2 * (cntp pg1 - cntp pg)) (fun (x : Heap × List Loc × Array Slot × Nat × Int32 × Int32 × Nat × Int32 × (Nat → Int32) × (Nat → Bool) × (Nat → Option Nat) × List Nat × (Nat → va_E)) => match x with | (H, locs, ls, i, a1, d1, n1, dn1, M1, pg1, pf1, L1, f1) => 257 * (cntp pg1 - cntp pg)) (fun x => F0 m 2 x.2.2.1 []) (fun x hI ih => ?_) (s.heap, _, ls, 0, a, d, nx, dn, M, pg, pf, L, fE) ⟨lv_sub hl [0, 1, 2] rfl, hP.part [0, 1, 2, 3, 4] rfl, hD.part [0, 1, 2, 3, 4] (by decide) rfl, hS, Nat.zero_le _, rfl, by rw [nI_0, Int32.add_zero], hM, Nat.le_refl _, hnx⟩
  obtain ⟨H, locs, ls, i, a1, d1, n1, dn1, M1, pg1, pf1, L1, f1⟩ := x
  obtain ⟨hl, hP, hD, hS, h1, h2, h3, h4, h5, h6⟩ := hI
  show W p l ev _ s m _ below meth c H locs (2 * (cntp pg1 - cntp pg)) (257 * (cntp pg1 - cntp pg)) _ (F0 m 2 ls [])
  have hP : sdP g ([(qc, .inr (2, [.ref q2, .ref qm, .int a1, .int d1, .int (nI n1), .int dn1])), (q2, .inr (3, [.ref q6, .int (nI wn9)])), (q6, .inl (gI g, 600, .inl pw)), (qm, .inr (0, [.ref qp])), (qp, .inl (gP g, 128, .inr (.inr (.inr (.inr pf1)))))] ++ va_pl L1 f1) H := hP
  have hD : va_D A ([(qc, .inr (2, [.ref q2, .ref qm, .int a1, .int d1, .int (nI n1), .int dn1])), (q2, .inr (3, [.ref q6, .int (nI wn9)])), (q6, .inl (gI g, 600, .inl pw)), (qm, .inr (0, [.ref qp])), (qp, .inl (gP g, 128, .inr (.inr (.inr (.inr pf1)))))] ++ va_pl L1 f1) := hD
  have hcl := cntp_le pg1
  refine lv_iload_n hx hb d_Prc_run_2 rfl (lv_at hl 0 rfl) ?_
  refine lv_iload_n hx hb d_Prc_run_3 rfl (lv_at hl 2 rfl) ?_
  refine lv_icmp_ge (tgt := 46) hx hb d_Prc_run_4 (by decide) (fun c1 => ?_) (fun c1 => ?_)
  · have c1 := (nI_leI (by omega) (by omega)).mp c1
    have e1 : i = N := by omega
    subst e1
    rw [Nat.sub_self] at h2
    have h2 : prun cw wn9 i (a, d, nx, M, pg) = (0 + i, (a1, d1, n1, M1, pg1)) := h2
    rw [Nat.zero_add] at h2
    rw [h2] at hmc
    have hmc1 : 2 * (cntp pg1 - cntp pg) ≤ mc := hmc.1
    have hmc2 : 257 * (cntp pg1 - cntp pg) ≤ ms := hmc.2
    refine lv_iload_n hx hb d_Prc_run_46 rfl (lv_at hl 2 rfl) ?_
    have hP9 := hP.part (cx := [(qc, .inr (2, [.ref q2, .ref qm, .int a1, .int d1, .int (nI n1), .int dn1])), (q2, .inr (3, [.ref q6, .int (nI wn9)])), (q6, .inl (gI g, 600, .inl pw)), (qm, .inr (0, [.ref qp])), (qp, .inl (gP g, 128, .inr (.inr (.inr (.inr pf1)))))]) [0, 1, 2, 3, 4] rfl
    have hD9 := hD.part (cx := [(qc, .inr (2, [.ref q2, .ref qm, .int a1, .int d1, .int (nI n1), .int dn1])), (q2, .inr (3, [.ref q6, .int (nI wn9)])), (q6, .inl (gI g, 600, .inl pw)), (qm, .inr (0, [.ref qp])), (qp, .inl (gP g, 128, .inr (.inr (.inr (.inr pf1)))))]) [0, 1, 2, 3, 4] (by decide) rfl
    refine W.widen (k := mc) (n := ms) (by omega) (by omega) ?_
    exact W.iret (v := (nI i)) hx hb hr (fun t ht hW => ⟨⟨_, (a1, d1, n1, dn1, pf1, L1, f1), rfl, ⟨i, M1, pg1, h2, rfl, h3, h4⟩, by rw [ht]; exact hP9, by rw [hAe]; exact hD9⟩, hS.F ht⟩) hS.2.2 d_Prc_run_47
  · have c1 := mt (nI_leI (by omega) (by omega)).mpr c1
    refine lv_aload_n hx hb d_Prc_run_7 rfl (lv_at hl 1 rfl) ?_
    refine va_get (D := g.1) (ci := 2) (v := .ref q2) (C := "SignDesk$Processor") (T := F_Prc) (N := 6) hx hb hts in_Prc hown hK hP 0 rfl rfl 0 (by decide) (hts _ k_132) (fun _ h9 => h9) rfl d_Prc_run_8 ?_
    refine lv_aload_n hx hb d_Prc_run_11 rfl (lv_at hl 1 rfl) ?_
    refine va_get (D := g.1) (ci := 2) (v := .int (nI n1)) (C := "SignDesk$Processor") (T := F_Prc) (N := 6) hx hb hts in_Prc hown hK hP 0 rfl rfl 4 (by decide) (hts _ k_136) (fun _ h9 => h9) rfl d_Prc_run_12 ?_
    have hm0 := prun_mono cw wn9 (N - i) (a1, d1, n1, M1, pg1)
    have hF0 : (prun cw wn9 N (a, d, nx, M, pg)).2 = (prun cw wn9 (N - i) (a1, d1, n1, M1, pg1)).2 := by rw [h2]
    rw [← hF0] at hm0
    have hm0 : cntp pg1 ≤ _ := hm0
    have hmc1 := hmc.1
    have hmc2 := hmc.2
    refine sd_ri (va_runV (As := [.int (nI n1)]) (rest := []) ⟨hx, hb, hml, hown, hts⟩ (c_Prg_wordAt l g q2 q6 wn9 pw hwn (nI n1)) (cwV 1 hts (sd_gV k_411 k_364 k_365 k_25 k_366) rfl rfl rfl (by decide +kernel) ⟨Nat.le_of_ble_eq_true rfl, Nat.le_of_ble_eq_true rfl⟩) (sd_preV hK hE (sd_fr hS hA0) (hP.sub (ws' := [(q2, .inr (3, [.ref q6, .int (nI wn9)])), (q6, .inl (gI g, 600, .inl pw))]) [1, 2] rfl) rfl rfl) rfl rfl hl.1 rfl (lv_room (Nat.le_of_ble_eq_true rfl)) d_Prc_run_15 ⟨(by show _ + 0 ≤ mc; omega), (by show _ + 0 ≤ ms; omega)⟩) (fun r2 er2 => ?_)
    refine lv_istore_n (lv' := [(3, .int r2), (2, .int (nI i)), (0, .ref qc), (1, .int (nI N))]) hx hb d_Prc_run_18 rfl hl (by decide) rfl (fun ls hl => ?_)
    refine lv_iload_n hx hb d_Prc_run_19 rfl (lv_at hl 0 rfl) ?_
    refine lv_if_ge (tgt := 25) hx hb d_Prc_run_20 (by decide) (fun c3 => ?_) (fun c3 => ?_)
    · have hlt : n1 < wn9 := by
        rcases Nat.lt_or_ge n1 wn9 with q | q
        · exact q
        · have := er2.2 (Or.inr (nI_le q (by omega))); rw [this] at c3; exact absurd c3 (by decide)
      obtain ⟨hp1, hp2⟩ := hpw n1 hlt
      have er9 := (er2.1 n1 hlt rfl).trans hp1
      clear er2
      subst er9
      have hst : prun cw wn9 (N - i) (a1, d1, n1, M1, pg1) = ((prun cw wn9 (N - (i + 1)) (pstep (cw n1) (a1, d1, n1, M1, pg1))).1 + 1, (prun cw wn9 (N - (i + 1)) (pstep (cw n1) (a1, d1, n1, M1, pg1))).2) := by
        rw [show N - i = (N - (i + 1)) + 1 by omega, prun, if_pos hlt]
      have hm1 := pstep_mono (cw n1) (a1, d1, n1, M1, pg1)
      have hm2 := prun_mono cw wn9 (N - (i + 1)) (pstep (cw n1) (a1, d1, n1, M1, pg1))
      have hF1 : (prun cw wn9 N (a, d, nx, M, pg)).2 = (prun cw wn9 (N - (i + 1)) (pstep (cw n1) (a1, d1, n1, M1, pg1))).2 := by rw [h2, hst]
      rw [← hF1] at hm2
      have hm1 : cntp pg1 ≤ cntp (pstep (cw n1) (a1, d1, n1, M1, pg1)).2.2.2.2 := hm1
      generalize hpg2 : (pstep (cw n1) (a1, d1, n1, M1, pg1)).2.2.2.2 = pg2 at hm1 hm2
      have hmc1 := hmc.1
      have hmc2 := hmc.2
      refine lv_aload_n hx hb d_Prc_run_25 rfl (lv_at hl 2 rfl) ?_
      refine lv_iload_n hx hb d_Prc_run_26 rfl (lv_at hl 0 rfl) ?_
      have hPc := hP.part (cx := [(qc, .inr (2, [.ref q2, .ref qm, .int a1, .int d1, .int (nI n1), .int dn1])), (qm, .inr (0, [.ref qp])), (qp, .inl (gP g, 128, .inr (.inr (.inr (.inr pf1)))))]) [0, 3, 4] rfl
      have hDc := hD.part (cx := [(qc, .inr (2, [.ref q2, .ref qm, .int a1, .int d1, .int (nI n1), .int dn1])), (qm, .inr (0, [.ref qp])), (qp, .inl (gP g, 128, .inr (.inr (.inr (.inr pf1)))))]) [0, 3, 4] (by decide) rfl
      have hFc := va_freeP (cx := [(qc, .inr (2, [.ref q2, .ref qm, .int a1, .int d1, .int (nI n1), .int dn1])), (qm, .inr (0, [.ref qp])), (qp, .inl (gP g, 128, .inr (.inr (.inr (.inr pf1)))))]) hD hS hA [0, 3, 4] rfl
      refine sd_cv (va_runV (As := [.int (nI (cw n1))]) (rest := []) ⟨hx, hb, hml, hown, hts⟩ (c_Prc_perform l g qc q2 qm qp a1 d1 n1 dn1 pf1 L1 f1 M1 pg1 h4 (cw n1) hp2 (2 * (cntp pg2 - cntp pg1)) (257 * (cntp pg2 - cntp pg1)) (fun h7 h8 h9 => by
          have e9 : cntp pg2 = cntp pg1 + 1 := by
            rw [← hpg2, pstep, if_neg h7]
            show cntp (pG (cw n1) a1 pg1) = _
            rw [pG, if_neg h8, cntp_up (by have := ad15_lt a1; omega), h9]; rfl
          omega) H.size) (cwV 1 hts (sd_gV k_412 k_414 k_8 k_28 k_415) rfl rfl rfl (by decide +kernel) ⟨Nat.le_of_ble_eq_true rfl, Nat.le_of_ble_eq_true rfl⟩) (sd_preVU hK hE hS hA0 hs0 hPc hDc rfl rfl) rfl rfl hl.1 rfl (lv_room (Nat.le_of_ble_eq_true rfl)) d_Prc_run_27 ⟨(by show _ ≤ mc; omega), (by show _ ≤ ms; omega)⟩) hS hFc (fun u H1 locs hw hP1 hD1 hk1 hS => ?_)
      obtain ⟨a2, d2, n2, pf2, L2, f2⟩ := u
      obtain ⟨hP, hD⟩ := va_joinP (wr := [(q2, .inr (3, [.ref q6, .int (nI wn9)])), (q6, .inl (gI g, 600, .inl pw))]) (rx := [(qc, .inr (2, [.ref q2, .ref qm, .int a2, .int d2, .int (nI n2), .int dn1])), (qm, .inr (0, [.ref qp])), (qp, .inl (gP g, 128, .inr (.inr (.inr (.inr pf2)))))]) (pl1 := va_pl L2 f2) hP hD [0, 3, 4] [1, 2] rfl rfl (by decide) (by decide) hk1 hFc hP1 hD1
      clear hPc hDc hFc hk1 hP1 hD1
      generalize H1 = H at hP hS ⊢
      have hP : sdP g ([(q2, .inr (3, [.ref q6, .int (nI wn9)])), (q6, .inl (gI g, 600, .inl pw)), (qc, .inr (2, [.ref q2, .ref qm, .int a2, .int d2, .int (nI n2), .int dn1])), (qm, .inr (0, [.ref qp])), (qp, .inl (gP g, 128, .inr (.inr (.inr (.inr pf2)))))] ++ va_pl L2 f2) H := hP
      have hD : va_D A ([(q2, .inr (3, [.ref q6, .int (nI wn9)])), (q6, .inl (gI g, 600, .inl pw)), (qc, .inr (2, [.ref q2, .ref qm, .int a2, .int d2, .int (nI n2), .int dn1])), (qm, .inr (0, [.ref qp])), (qp, .inl (gP g, 128, .inr (.inr (.inr (.inr pf2)))))] ++ va_pl L2 f2) := hD
      obtain ⟨M2, pg2b, hps, hM2⟩ := hw
      have hps : pstep (cw n1) (a1, d1, n1, M1, pg1) = (a2, d2, n2, M2, pg2b) := hps
      obtain rfl : pg2b = pg2 := by rw [← hpg2, hps]
      have hM2 : memOK g pf2 L2 f2 M2 pg2b := hM2
      refine lv_aload_n hx hb d_Prc_run_30 rfl (lv_at hl 2 rfl) ?_
      refine lv_dup hx hb d_Prc_run_31 rfl ?_
      refine va_get (D := g.1) (ci := 2) (v := .int dn1) (C := "SignDesk$Processor") (T := F_Prc) (N := 6) hx hb hts in_Prc hown hK hP 2 rfl rfl 5 (by decide) (hts _ k_137) (fun _ h9 => h9) rfl d_Prc_run_32 ?_
      refine lv_iconst (v := (nI 1)) hx hb d_Prc_run_35 (by decide) ?_
      refine lv_iadd hx hb d_Prc_run_36 ?_
      refine va_put (D := g.1) (ci := 2) (v := .int (dn1 + (nI 1))) (ty := .int) (C := "SignDesk$Processor") (T := F_Prc) (N := 6) hx hb hts in_Prc t_Prc t_Prc_ok n_Prc hown hK hP hD hS 2 rfl rfl 5 (by decide) (hts _ k_137) (fun _ h9 => h9) rfl (by decide +kernel) rfl rfl (Nat.le_of_ble_eq_true rfl) d_Prc_run_37 (fun H locs hP hD hS => ?_)
      have hP : sdP g ([(q2, .inr (3, [.ref q6, .int (nI wn9)])), (q6, .inl (gI g, 600, .inl pw)), (qc, .inr (2, [.ref q2, .ref qm, .int a2, .int d2, .int (nI n2), .int (dn1 + (nI 1))])), (qm, .inr (0, [.ref qp])), (qp, .inl (gP g, 128, .inr (.inr (.inr (.inr pf2)))))] ++ va_pl L2 f2) H := hP
      have hD : va_D A ([(q2, .inr (3, [.ref q6, .int (nI wn9)])), (q6, .inl (gI g, 600, .inl pw)), (qc, .inr (2, [.ref q2, .ref qm, .int a2, .int d2, .int (nI n2), .int (dn1 + (nI 1))])), (qm, .inr (0, [.ref qp])), (qp, .inl (gP g, 128, .inr (.inr (.inr (.inr pf2)))))] ++ va_pl L2 f2) := hD
      refine lv_iinc (v := (nI (i + 1))) (lv' := [(2, .int (nI (i + 1))), (3, .int (nI (cw n1))), (0, .ref qc), (1, .int (nI N))]) hx hb d_Prc_run_40 hl (k := 1) rfl (nI_1 _) (by decide) rfl (fun ls hl => ?_)
      refine lv_goto (tgt := 2) hx hb d_Prc_run_43 (by decide) ?_
      refine W.widen (k := 2 * (cntp pg2b - cntp pg)) (n := 257 * (cntp pg2b - cntp pg)) (by omega) (by omega) ?_
      exact ih (H, locs, ls, i + 1, a2, d2, n2, dn1 + nI 1, M2, pg2b, pf2, L2, f2) ⟨lv_sub hl [0, 2, 3] rfl, hP.part [2, 0, 1, 3, 4] rfl, hD.part [2, 0, 1, 3, 4] (by decide) rfl, hS, by omega, by rw [h2, hst, hps, Nat.add_assoc, Nat.add_comm 1 i], by rw [h3, Int32.add_assoc, nI_add], hM2, by omega, by
          have e9 : n2 = (pstep (cw n1) (a1, d1, n1, M1, pg1)).2.2.1 := by rw [hps]
          rw [e9, pstep]
          split
          · show n1 + 1 < 40000; omega
          · show pN (cw n1) a1 _ n1 < 40000
            unfold pN
            split
            · omega
            · have := ad15_lt a1; omega⟩ (show N - (i + 1) < N - i by omega)
    · have hge : ¬ n1 < wn9 := fun q => c3 (by
        obtain ⟨hp1, hp2⟩ := hpw n1 q
        rw [(er2.1 n1 q rfl).trans hp1]; exact nI_pos' (by omega))
      have h2 : prun cw wn9 N (a, d, nx, M, pg) = (i, (a1, d1, n1, M1, pg1)) := by
        rw [h2, show N - i = (N - (i + 1)) + 1 by omega, prun, if_neg hge, Nat.zero_add]
      rw [h2] at hmc
      have hmc1 : 2 * (cntp pg1 - cntp pg) ≤ mc := hmc.1
      have hmc2 : 257 * (cntp pg1 - cntp pg) ≤ ms := hmc.2
      refine lv_iload_n hx hb d_Prc_run_23 rfl (lv_at hl 1 rfl) ?_
      have hP9 := hP.part (cx := [(qc, .inr (2, [.ref q2, .ref qm, .int a1, .int d1, .int (nI n1), .int dn1])), (q2, .inr (3, [.ref q6, .int (nI wn9)])), (q6, .inl (gI g, 600, .inl pw)), (qm, .inr (0, [.ref qp])), (qp, .inl (gP g, 128, .inr (.inr (.inr (.inr pf1)))))]) [0, 1, 2, 3, 4] rfl
      have hD9 := hD.part (cx := [(qc, .inr (2, [.ref q2, .ref qm, .int a1, .int d1, .int (nI n1), .int dn1])), (q2, .inr (3, [.ref q6, .int (nI wn9)])), (q6, .inl (gI g, 600, .inl pw)), (qm, .inr (0, [.ref qp])), (qp, .inl (gP g, 128, .inr (.inr (.inr (.inr pf1)))))]) [0, 1, 2, 3, 4] (by decide) rfl
      refine W.widen (k := mc) (n := ms) (by omega) (by omega) ?_
      exact W.iret (v := (nI i)) hx hb hr (fun t ht hW => ⟨⟨_, (a1, d1, n1, dn1, pf1, L1, f1), rfl, ⟨i, M1, pg1, h2, rfl, h3, h4⟩, by rw [ht]; exact hP9, by rw [hAe]; exact hD9⟩, hS.F ht⟩) hS.2.2 d_Prc_run_24
set_option maxHeartbeats 4000000 in
set_option maxRecDepth 100000 in
/-- clear() -/
theorem c_Prc_clear (l : Launch) (g : sdG) (qc q2 qm qp : Nat) (a d : Int32) (nx9 : Int32) (dn : Int32) (pf : Nat → Option Nat) (L : List Nat) (fE : Nat → va_E) (M : Nat → Int32) (pg : Nat → Bool) (hM : memOK g pf L fE M pg) (sz : Nat) : Met l y_Prc_clear (.code y_Prc_clear b_Prc_clear 1 none :: sdT) ({ frames := 2, cells := 0, slots := 0, locals := 45 }) (va_Pc [.ref qc] (sdU g ([(qc, .inr (2, [.ref q2, .ref qm, .int a, .int d, .int nx9, .int dn])), (qm, .inr (0, [.ref qp])), (qp, .inl (gP g, 128, .inr (.inr (.inr (.inr pf)))))] ++ va_pl L fE) sz)) (va_Qv (S := (Nat → va_E)) (fun u => memOK g pf L u (fun _ => 0) pg) (fun u t => sdB g ([(qc, .inr (2, [.ref q2, .ref qm, .int a, .int d, .int nx9, .int dn])), (qm, .inr (0, [.ref qp])), (qp, .inl (gP g, 128, .inr (.inr (.inr (.inr pf)))))] ++ va_pl L fE) sz ((fun u => ([(qc, .inr (2, [.ref q2, .ref qm, .int (nI 0), .int (nI 0), .int (nI 0), .int (nI 0)])), (qm, .inr (0, [.ref qp])), (qp, .inl (gP g, 128, .inr (.inr (.inr (.inr pf)))))] ++ va_pl L u) : (Nat → va_E) → va_W) u) t) (va_A ([(qc, .inr (2, [.ref q2, .ref qm, .int a, .int d, .int nx9, .int dn])), (qm, .inr (0, [.ref qp])), (qp, .inl (gP g, 128, .inr (.inr (.inr (.inr pf)))))] ++ va_pl L fE) sz)) 0 0 (va_A ([(qc, .inr (2, [.ref q2, .ref qm, .int a, .int d, .int nx9, .int dn])), (qm, .inr (0, [.ref qp])), (qp, .inl (gP g, 128, .inr (.inr (.inr (.inr pf)))))] ++ va_pl L fE) sz) := by
  refine Met.ofW (cc := b_Prc_clear) (maxL := 1) (ret := none) (by decide) rfl ?_
  intro p ev s m args below meth c s₁ B hml hv
  obtain ⟨rfl, hsz, hP, hK, hE, hD0, hs0⟩ := hv
  have hx := B.exec
  have hb := B.bytes
  have hr := B.returns
  have hts := fun (w : Cond) (h : w ∈ sdT) => atoms_spec (ws := (.code y_Prc_clear b_Prc_clear 1 none :: sdT)) B.pre w (List.mem_cons_of_mem _ h)
  have hown : s.vm.findClass "SignDesk$Processor" = some m.cls := findClass_of_methodNamed B.named
  have hlocks := B.notSynchronized
  subst hsz
  have hD := hD0.self (sz := s.heap.size)
  have hA0 : ∀ q : Nat, va_A ([(qc, .inr (2, [.ref q2, .ref qm, .int a, .int d, .int nx9, .int dn])), (qm, .inr (0, [.ref qp])), (qp, .inl (gP g, 128, .inr (.inr (.inr (.inr pf)))))] ++ va_pl L fE) s.heap.size q → gS g ≤ q := fun q h => h.elim (fun ⟨k, e, hk⟩ => hD0.2 k _ hk) (fun h => Nat.le_trans hs0 h)
  have hA : ∀ q : Nat, s.heap.size ≤ q → va_A ([(qc, .inr (2, [.ref q2, .ref qm, .int a, .int d, .int nx9, .int dn])), (qm, .inr (0, [.ref qp])), (qp, .inl (gP g, 128, .inr (.inr (.inr (.inr pf)))))] ++ va_pl L fE) s.heap.size q := fun q h => Or.inr h
  generalize hAe : va_A ([(qc, .inr (2, [.ref q2, .ref qm, .int a, .int d, .int nx9, .int dn])), (qm, .inr (0, [.ref qp])), (qp, .inl (gP g, 128, .inr (.inr (.inr (.inr pf)))))] ++ va_pl L fE) s.heap.size = A at hD hA0 hA ⊢
  have hS : va_S A s.heap s.heap [] := va_S.rf
  have hP : sdP g ([(qc, .inr (2, [.ref q2, .ref qm, .int a, .int d, .int nx9, .int dn])), (qm, .inr (0, [.ref qp])), (qp, .inl (gP g, 128, .inr (.inr (.inr (.inr pf)))))] ++ va_pl L fE) s.heap := hP
  have hl := lv_entry ([.ref qc]) (n := 1) (Nat.le_of_ble_eq_true rfl)
  rw [lg_entry_eq]
  generalize (lg_sl ([.ref qc]) ++ List.replicate (1 - (lg_sl ([.ref qc])).length) Slot.unset).toArray = ls at hl ⊢
  have hl : lv_has ls 1 [(0, .ref qc)] := hl
  refine lv_aload_n hx hb d_Prc_clear_0 rfl (lv_at hl 0 rfl) ?_
  refine va_get (D := g.1) (ci := 2) (v := .ref qm) (C := "SignDesk$Processor") (T := F_Prc) (N := 6) hx hb hts in_Prc hown hK hP 0 rfl rfl 1 (by decide) (hts _ k_133) (fun _ h9 => h9) rfl d_Prc_clear_1 ?_
  have hPc := hP.part (cx := [(qm, .inr (0, [.ref qp])), (qp, .inl (gP g, 128, .inr (.inr (.inr (.inr pf)))))]) [1, 2] rfl
  have hDc := hD.part (cx := [(qm, .inr (0, [.ref qp])), (qp, .inl (gP g, 128, .inr (.inr (.inr (.inr pf)))))]) [1, 2] (by decide) rfl
  have hFc := va_freeP (cx := [(qm, .inr (0, [.ref qp])), (qp, .inl (gP g, 128, .inr (.inr (.inr (.inr pf)))))]) hD hS hA [1, 2] rfl
  refine sd_cv (va_runV (As := []) (rest := []) ⟨hx, hb, hml, hown, hts⟩ (c_Mem_clear l g qm qp pf L fE M pg hM s.heap.size) (cwV 0 hts (sd_gV k_383 k_384 k_385 k_29 k_386) rfl rfl rfl (by decide +kernel) ⟨Nat.le_of_ble_eq_true rfl, Nat.le_of_ble_eq_true rfl⟩) (sd_preVU hK hE hS hA0 hs0 hPc hDc rfl rfl) rfl rfl hl.1 rfl (lv_room (Nat.le_of_ble_eq_true rfl)) d_Prc_clear_4 ⟨Nat.zero_le _, Nat.zero_le _⟩) hS hFc (fun u H1 locs hw hP1 hD1 hk1 hS => ?_)
  obtain ⟨hP, hD⟩ := va_joinP (wr := [(qc, .inr (2, [.ref q2, .ref qm, .int a, .int d, .int nx9, .int dn]))]) (rx := [(qm, .inr (0, [.ref qp])), (qp, .inl (gP g, 128, .inr (.inr (.inr (.inr pf)))))]) (pl1 := va_pl L u) hP hD [1, 2] [0] rfl rfl (by decide) (by decide) hk1 hFc hP1 hD1
  clear hPc hDc hFc hk1 hP1 hD1
  generalize H1 = H at hP hS ⊢
  have hP : sdP g ([(qc, .inr (2, [.ref q2, .ref qm, .int a, .int d, .int nx9, .int dn])), (qm, .inr (0, [.ref qp])), (qp, .inl (gP g, 128, .inr (.inr (.inr (.inr pf)))))] ++ va_pl L u) H := hP
  have hD : va_D A ([(qc, .inr (2, [.ref q2, .ref qm, .int a, .int d, .int nx9, .int dn])), (qm, .inr (0, [.ref qp])), (qp, .inl (gP g, 128, .inr (.inr (.inr (.inr pf)))))] ++ va_pl L u) := hD
  refine lv_aload_n hx hb d_Prc_clear_7 rfl (lv_at hl 0 rfl) ?_
  refine lv_iconst (v := (nI 0)) hx hb d_Prc_clear_8 (by decide) ?_
  refine va_put (D := g.1) (ci := 2) (v := .int (nI 0)) (ty := .int) (C := "SignDesk$Processor") (T := F_Prc) (N := 6) hx hb hts in_Prc t_Prc t_Prc_ok n_Prc hown hK hP hD hS 0 rfl rfl 2 (by decide) (hts _ k_134) (fun _ h9 => h9) rfl (by decide +kernel) rfl rfl (Nat.le_of_ble_eq_true rfl) d_Prc_clear_9 (fun H locs hP hD hS => ?_)
  have hP : sdP g ([(qc, .inr (2, [.ref q2, .ref qm, .int (nI 0), .int d, .int nx9, .int dn])), (qm, .inr (0, [.ref qp])), (qp, .inl (gP g, 128, .inr (.inr (.inr (.inr pf)))))] ++ va_pl L u) H := hP
  have hD : va_D A ([(qc, .inr (2, [.ref q2, .ref qm, .int (nI 0), .int d, .int nx9, .int dn])), (qm, .inr (0, [.ref qp])), (qp, .inl (gP g, 128, .inr (.inr (.inr (.inr pf)))))] ++ va_pl L u) := hD
  refine lv_aload_n hx hb d_Prc_clear_12 rfl (lv_at hl 0 rfl) ?_
  refine lv_iconst (v := (nI 0)) hx hb d_Prc_clear_13 (by decide) ?_
  refine va_put (D := g.1) (ci := 2) (v := .int (nI 0)) (ty := .int) (C := "SignDesk$Processor") (T := F_Prc) (N := 6) hx hb hts in_Prc t_Prc t_Prc_ok n_Prc hown hK hP hD hS 0 rfl rfl 3 (by decide) (hts _ k_135) (fun _ h9 => h9) rfl (by decide +kernel) rfl rfl (Nat.le_of_ble_eq_true rfl) d_Prc_clear_14 (fun H locs hP hD hS => ?_)
  have hP : sdP g ([(qc, .inr (2, [.ref q2, .ref qm, .int (nI 0), .int (nI 0), .int nx9, .int dn])), (qm, .inr (0, [.ref qp])), (qp, .inl (gP g, 128, .inr (.inr (.inr (.inr pf)))))] ++ va_pl L u) H := hP
  have hD : va_D A ([(qc, .inr (2, [.ref q2, .ref qm, .int (nI 0), .int (nI 0), .int nx9, .int dn])), (qm, .inr (0, [.ref qp])), (qp, .inl (gP g, 128, .inr (.inr (.inr (.inr pf)))))] ++ va_pl L u) := hD
  refine lv_aload_n hx hb d_Prc_clear_17 rfl (lv_at hl 0 rfl) ?_
  refine lv_iconst (v := (nI 0)) hx hb d_Prc_clear_18 (by decide) ?_
  refine va_put (D := g.1) (ci := 2) (v := .int (nI 0)) (ty := .int) (C := "SignDesk$Processor") (T := F_Prc) (N := 6) hx hb hts in_Prc t_Prc t_Prc_ok n_Prc hown hK hP hD hS 0 rfl rfl 4 (by decide) (hts _ k_136) (fun _ h9 => h9) rfl (by decide +kernel) rfl rfl (Nat.le_of_ble_eq_true rfl) d_Prc_clear_19 (fun H locs hP hD hS => ?_)
  have hP : sdP g ([(qc, .inr (2, [.ref q2, .ref qm, .int (nI 0), .int (nI 0), .int (nI 0), .int dn])), (qm, .inr (0, [.ref qp])), (qp, .inl (gP g, 128, .inr (.inr (.inr (.inr pf)))))] ++ va_pl L u) H := hP
  have hD : va_D A ([(qc, .inr (2, [.ref q2, .ref qm, .int (nI 0), .int (nI 0), .int (nI 0), .int dn])), (qm, .inr (0, [.ref qp])), (qp, .inl (gP g, 128, .inr (.inr (.inr (.inr pf)))))] ++ va_pl L u) := hD
  refine lv_aload_n hx hb d_Prc_clear_22 rfl (lv_at hl 0 rfl) ?_
  refine lv_iconst (v := (nI 0)) hx hb d_Prc_clear_23 (by decide) ?_
  refine va_put (D := g.1) (ci := 2) (v := .int (nI 0)) (ty := .int) (C := "SignDesk$Processor") (T := F_Prc) (N := 6) hx hb hts in_Prc t_Prc t_Prc_ok n_Prc hown hK hP hD hS 0 rfl rfl 5 (by decide) (hts _ k_137) (fun _ h9 => h9) rfl (by decide +kernel) rfl rfl (Nat.le_of_ble_eq_true rfl) d_Prc_clear_24 (fun H locs hP hD hS => ?_)
  have hP : sdP g ([(qc, .inr (2, [.ref q2, .ref qm, .int (nI 0), .int (nI 0), .int (nI 0), .int (nI 0)])), (qm, .inr (0, [.ref qp])), (qp, .inl (gP g, 128, .inr (.inr (.inr (.inr pf)))))] ++ va_pl L u) H := hP
  have hD : va_D A ([(qc, .inr (2, [.ref q2, .ref qm, .int (nI 0), .int (nI 0), .int (nI 0), .int (nI 0)])), (qm, .inr (0, [.ref qp])), (qp, .inl (gP g, 128, .inr (.inr (.inr (.inr pf)))))] ++ va_pl L u) := hD
  have hP9 := hP.part (cx := [(qc, .inr (2, [.ref q2, .ref qm, .int (nI 0), .int (nI 0), .int (nI 0), .int (nI 0)])), (qm, .inr (0, [.ref qp])), (qp, .inl (gP g, 128, .inr (.inr (.inr (.inr pf)))))]) [0, 1, 2] rfl
  have hD9 := hD.part (cx := [(qc, .inr (2, [.ref q2, .ref qm, .int (nI 0), .int (nI 0), .int (nI 0), .int (nI 0)])), (qm, .inr (0, [.ref qp])), (qp, .inl (gP g, 128, .inr (.inr (.inr (.inr pf)))))]) [0, 1, 2] (by decide) rfl
  exact W.vret hx hb hr (fun t ht hW => ⟨⟨u, rfl, hw, by rw [ht]; exact hP9, by rw [hAe]; exact hD9⟩, hS.F ht⟩) hS.2.2 d_Prc_clear_27
set_option maxHeartbeats 4000000 in
set_option maxRecDepth 100000 in
/-- memory() -/
theorem c_Prc_memory (l : Launch) (g : sdG) (qc q2 qm : Nat) (a d nx9 dn : Int32) : Met l y_Prc_memory (.code y_Prc_memory b_Prc_memory 1 (some (.object "SignDesk$Memory")) :: sdT) ({ frames := 0, cells := 0, slots := 0, locals := 0 }) (va_Pc [.ref qc] (sdR g [(qc, .inr (2, [.ref q2, .ref qm, .int a, .int d, .int nx9, .int dn]))])) (va_Sr (fun _ => True) (fun _ => .ref qm)) 0 0 (fun _ => False) := by
  refine Met.ofW (cc := b_Prc_memory) (maxL := 1) (ret := (some (.object "SignDesk$Memory"))) (by decide) rfl ?_
  intro p ev s m args below meth c s₁ B hml hv
  obtain ⟨rfl, hP, hK, hE⟩ := hv
  have hx := B.exec
  have hb := B.bytes
  have hr := B.returns
  have hts := fun (w : Cond) (h : w ∈ sdT) => atoms_spec (ws := (.code y_Prc_memory b_Prc_memory 1 (some (.object "SignDesk$Memory")) :: sdT)) B.pre w (List.mem_cons_of_mem _ h)
  have hown : s.vm.findClass "SignDesk$Processor" = some m.cls := findClass_of_methodNamed B.named
  have hlocks := B.notSynchronized
  have hF : ∀ a : Nat, a < s.heap.size → ¬ sdA g a → s.heap[a]? = s.heap[a]? := fun _ _ _ => rfl
  have hP : sdP g [(qc, .inr (2, [.ref q2, .ref qm, .int a, .int d, .int nx9, .int dn]))] s.heap := hP
  have hl := lv_entry ([.ref qc]) (n := 1) (Nat.le_of_ble_eq_true rfl)
  rw [lg_entry_eq]
  generalize (lg_sl ([.ref qc]) ++ List.replicate (1 - (lg_sl ([.ref qc])).length) Slot.unset).toArray = ls at hl ⊢
  have hl : lv_has ls 1 [(0, .ref qc)] := hl
  refine lv_aload_n hx hb d_Prc_memory_0 rfl (lv_at hl 0 rfl) ?_
  refine va_get (D := g.1) (ci := 2) (v := .ref qm) (C := "SignDesk$Processor") (T := F_Prc) (N := 6) hx hb hts in_Prc hown hK hP 0 rfl rfl 1 (by decide) (hts _ k_133) (fun _ h9 => h9) rfl d_Prc_memory_1 ?_
  exact W.aret hx hb hr (Or.inl ⟨_, rfl⟩) (Or.inr ⟨qm, rfl⟩) (fun t ht hW => ⟨0, rfl, trivial, ht⟩) (fun _ h => by cases h) d_Prc_memory_4
