set_option maxHeartbeats 4000000 in
set_option maxRecDepth 100000 in
/-- label(a, c) -/
theorem c_Mod_label (l : Launch) (g : sdG) (m0 mtt mcd mat msz mvl mcs mmm mkn mjp mds : Nat) (tk9 sz9 pl9 ra rd nx9 dn : Int32) (kf : Nat → Int32) (hRk : rowOK 32 kf (sd_k7.map Prod.fst)) (n : Nat) (tf : Nat → Int32) (tx : Nat → Nat) (hT : MTok n tf tx) (st : AS) (cdf csf s1 s2 s3 : Nat → Int32) (hMP : MPR st cdf csf) (hSR : SR st s1 s2 s3) (hSB : SB n st) (a cn : Nat) (hc1 : 1 ≤ cn) (hac : a + cn ≤ n) (htk : ∀ j, a ≤ j → j < a + cn → ¬ tx j = 32) (sz : Nat) : Met l y_Mod_label (.code y_Mod_label b_Mod_label 4 (some .int) :: sdT) ({ frames := 4, cells := 0, slots := 0, locals := 84 }) (va_Pc [.ref m0, .int (nI a), .int (nI cn)] (sdU g [(m0, .inr (8, [.ref mtt, .int tk9, .int sz9, .int pl9, .int (nI (wn st)), .ref mcd, .int (nI (sn st)), .ref mat, .ref msz, .ref mvl, .ref mcs, .ref mmm, .int ra, .int rd, .int nx9, .int dn, .ref mkn, .ref mjp, .ref mds])), (mtt, .inl (gI g, 2000, .inl tf)), (mcd, .inl (gI g, 600, .inl cdf)), (mat, .inl (gI g, 40, .inl s1)), (msz, .inl (gI g, 40, .inl s2)), (mvl, .inl (gI g, 40, .inl s3)), (mcs, .inl (gI g, 600, .inl csf)), (mkn, .inl (gC g, 32, .inl kf))] sz)) (va_Qi (S := AS × (Nat → Int32) × (Nat → Int32) × (Nat → Int32) × (Nat → Int32) × (Nat → Int32)) (fun r u => (∃ c, spLabel tx (a + 1) (a + cn - 1) st = (c, u.1) ∧ r = nI c) ∧ MPR u.1 u.2.1 u.2.2.1 ∧ SR u.1 u.2.2.2.1 u.2.2.2.2.1 u.2.2.2.2.2 ∧ SB n u.1) (fun u t => sdB g [(m0, .inr (8, [.ref mtt, .int tk9, .int sz9, .int pl9, .int (nI (wn st)), .ref mcd, .int (nI (sn st)), .ref mat, .ref msz, .ref mvl, .ref mcs, .ref mmm, .int ra, .int rd, .int nx9, .int dn, .ref mkn, .ref mjp, .ref mds])), (mtt, .inl (gI g, 2000, .inl tf)), (mcd, .inl (gI g, 600, .inl cdf)), (mat, .inl (gI g, 40, .inl s1)), (msz, .inl (gI g, 40, .inl s2)), (mvl, .inl (gI g, 40, .inl s3)), (mcs, .inl (gI g, 600, .inl csf)), (mkn, .inl (gC g, 32, .inl kf))] sz ((fun u => [(m0, .inr (8, [.ref mtt, .int tk9, .int sz9, .int pl9, .int (nI (wn u.1)), .ref mcd, .int (nI (sn u.1)), .ref mat, .ref msz, .ref mvl, .ref mcs, .ref mmm, .int ra, .int rd, .int nx9, .int dn, .ref mkn, .ref mjp, .ref mds])), (mtt, .inl (gI g, 2000, .inl tf)), (mcd, .inl (gI g, 600, .inl u.2.1)), (mat, .inl (gI g, 40, .inl u.2.2.2.1)), (msz, .inl (gI g, 40, .inl u.2.2.2.2.1)), (mvl, .inl (gI g, 40, .inl u.2.2.2.2.2)), (mcs, .inl (gI g, 600, .inl u.2.2.1)), (mkn, .inl (gC g, 32, .inl kf))] : AS × (Nat → Int32) × (Nat → Int32) × (Nat → Int32) × (Nat → Int32) × (Nat → Int32) → va_W) u) t) (va_A [(m0, .inr (8, [.ref mtt, .int tk9, .int sz9, .int pl9, .int (nI (wn st)), .ref mcd, .int (nI (sn st)), .ref mat, .ref msz, .ref mvl, .ref mcs, .ref mmm, .int ra, .int rd, .int nx9, .int dn, .ref mkn, .ref mjp, .ref mds])), (mtt, .inl (gI g, 2000, .inl tf)), (mcd, .inl (gI g, 600, .inl cdf)), (mat, .inl (gI g, 40, .inl s1)), (msz, .inl (gI g, 40, .inl s2)), (mvl, .inl (gI g, 40, .inl s3)), (mcs, .inl (gI g, 600, .inl csf)), (mkn, .inl (gC g, 32, .inl kf))] sz)) 0 0 (va_A [(m0, .inr (8, [.ref mtt, .int tk9, .int sz9, .int pl9, .int (nI (wn st)), .ref mcd, .int (nI (sn st)), .ref mat, .ref msz, .ref mvl, .ref mcs, .ref mmm, .int ra, .int rd, .int nx9, .int dn, .ref mkn, .ref mjp, .ref mds])), (mtt, .inl (gI g, 2000, .inl tf)), (mcd, .inl (gI g, 600, .inl cdf)), (mat, .inl (gI g, 40, .inl s1)), (msz, .inl (gI g, 40, .inl s2)), (mvl, .inl (gI g, 40, .inl s3)), (mcs, .inl (gI g, 600, .inl csf)), (mkn, .inl (gC g, 32, .inl kf))] sz) := by
  refine Met.ofW (cc := b_Mod_label) (maxL := 4) (ret := (some .int)) (by decide) rfl ?_
  intro p ev s m args below meth c s₁ B hml hv
  obtain ⟨rfl, hsz, hP, hK, hE, hD0, hs0⟩ := hv
  have hx := B.exec
  have hb := B.bytes
  have hr := B.returns
  have hts := fun (w : Cond) (h : w ∈ sdT) => atoms_spec (ws := (.code y_Mod_label b_Mod_label 4 (some .int) :: sdT)) B.pre w (List.mem_cons_of_mem _ h)
  have hown : s.vm.findClass "SignDeskModel" = some m.cls := findClass_of_methodNamed B.named
  have hlocks := B.notSynchronized
  subst hsz
  have hD := hD0.self (sz := s.heap.size)
  have hA0 : ∀ q : Nat, va_A [(m0, .inr (8, [.ref mtt, .int tk9, .int sz9, .int pl9, .int (nI (wn st)), .ref mcd, .int (nI (sn st)), .ref mat, .ref msz, .ref mvl, .ref mcs, .ref mmm, .int ra, .int rd, .int nx9, .int dn, .ref mkn, .ref mjp, .ref mds])), (mtt, .inl (gI g, 2000, .inl tf)), (mcd, .inl (gI g, 600, .inl cdf)), (mat, .inl (gI g, 40, .inl s1)), (msz, .inl (gI g, 40, .inl s2)), (mvl, .inl (gI g, 40, .inl s3)), (mcs, .inl (gI g, 600, .inl csf)), (mkn, .inl (gC g, 32, .inl kf))] s.heap.size q → gS g ≤ q := fun q h => h.elim (fun ⟨k, e, hk⟩ => hD0.2 k _ hk) (fun h => Nat.le_trans hs0 h)
  have hA : ∀ q : Nat, s.heap.size ≤ q → va_A [(m0, .inr (8, [.ref mtt, .int tk9, .int sz9, .int pl9, .int (nI (wn st)), .ref mcd, .int (nI (sn st)), .ref mat, .ref msz, .ref mvl, .ref mcs, .ref mmm, .int ra, .int rd, .int nx9, .int dn, .ref mkn, .ref mjp, .ref mds])), (mtt, .inl (gI g, 2000, .inl tf)), (mcd, .inl (gI g, 600, .inl cdf)), (mat, .inl (gI g, 40, .inl s1)), (msz, .inl (gI g, 40, .inl s2)), (mvl, .inl (gI g, 40, .inl s3)), (mcs, .inl (gI g, 600, .inl csf)), (mkn, .inl (gC g, 32, .inl kf))] s.heap.size q := fun q h => Or.inr h
  generalize hAe : va_A [(m0, .inr (8, [.ref mtt, .int tk9, .int sz9, .int pl9, .int (nI (wn st)), .ref mcd, .int (nI (sn st)), .ref mat, .ref msz, .ref mvl, .ref mcs, .ref mmm, .int ra, .int rd, .int nx9, .int dn, .ref mkn, .ref mjp, .ref mds])), (mtt, .inl (gI g, 2000, .inl tf)), (mcd, .inl (gI g, 600, .inl cdf)), (mat, .inl (gI g, 40, .inl s1)), (msz, .inl (gI g, 40, .inl s2)), (mvl, .inl (gI g, 40, .inl s3)), (mcs, .inl (gI g, 600, .inl csf)), (mkn, .inl (gC g, 32, .inl kf))] s.heap.size = A at hD hA0 hA ⊢
  have hS : va_S A s.heap s.heap [] := va_S.rf
  have hP : sdP g [(m0, .inr (8, [.ref mtt, .int tk9, .int sz9, .int pl9, .int (nI (wn st)), .ref mcd, .int (nI (sn st)), .ref mat, .ref msz, .ref mvl, .ref mcs, .ref mmm, .int ra, .int rd, .int nx9, .int dn, .ref mkn, .ref mjp, .ref mds])), (mtt, .inl (gI g, 2000, .inl tf)), (mcd, .inl (gI g, 600, .inl cdf)), (mat, .inl (gI g, 40, .inl s1)), (msz, .inl (gI g, 40, .inl s2)), (mvl, .inl (gI g, 40, .inl s3)), (mcs, .inl (gI g, 600, .inl csf)), (mkn, .inl (gC g, 32, .inl kf))] s.heap := hP
  have hl := lv_entry ([.ref m0, .int (nI a), .int (nI cn)]) (n := 4) (Nat.le_of_ble_eq_true rfl)
  rw [lg_entry_eq]
  generalize (lg_sl ([.ref m0, .int (nI a), .int (nI cn)]) ++ List.replicate (4 - (lg_sl ([.ref m0, .int (nI a), .int (nI cn)])).length) Slot.unset).toArray = ls at hl ⊢
  have hl : lv_has ls 4 [(0, .ref m0), (1, .int (nI a)), (2, .int (nI cn))] := hl
  have hn := hT.1
  have hb8 := hT.2.1
  have h40 := hSR.1
  have h600 := hMP.1
  refine lv_iload_n hx hb d_Mod_label_0 rfl (lv_at hl 2 rfl) ?_
  refine lv_iconst (v := (nI 3)) hx hb d_Mod_label_1 (by decide) ?_
  refine lv_icmp_lt (tgt := 33) hx hb d_Mod_label_2 (by decide) (fun c1 => ?_) (fun c1 => ?_)
  · have c1 := (nI_ltI (by omega) (by omega)).mp c1
    refine lv_iconst (v := (nI 1)) hx hb d_Mod_label_33 (by decide) ?_
    have hP9 := hP.sub (ws' := [(m0, .inr (8, [.ref mtt, .int tk9, .int sz9, .int pl9, .int (nI (wn st)), .ref mcd, .int (nI (sn st)), .ref mat, .ref msz, .ref mvl, .ref mcs, .ref mmm, .int ra, .int rd, .int nx9, .int dn, .ref mkn, .ref mjp, .ref mds])), (mtt, .inl (gI g, 2000, .inl tf)), (mcd, .inl (gI g, 600, .inl cdf)), (mat, .inl (gI g, 40, .inl s1)), (msz, .inl (gI g, 40, .inl s2)), (mvl, .inl (gI g, 40, .inl s3)), (mcs, .inl (gI g, 600, .inl csf)), (mkn, .inl (gC g, 32, .inl kf))]) [0, 1, 2, 3, 4, 5, 6, 7] rfl
    have hD9 := hD.sub (ws' := [(m0, .inr (8, [.ref mtt, .int tk9, .int sz9, .int pl9, .int (nI (wn st)), .ref mcd, .int (nI (sn st)), .ref mat, .ref msz, .ref mvl, .ref mcs, .ref mmm, .int ra, .int rd, .int nx9, .int dn, .ref mkn, .ref mjp, .ref mds])), (mtt, .inl (gI g, 2000, .inl tf)), (mcd, .inl (gI g, 600, .inl cdf)), (mat, .inl (gI g, 40, .inl s1)), (msz, .inl (gI g, 40, .inl s2)), (mvl, .inl (gI g, 40, .inl s3)), (mcs, .inl (gI g, 600, .inl csf)), (mkn, .inl (gC g, 32, .inl kf))]) [0, 1, 2, 3, 4, 5, 6, 7] (by decide) rfl
    exact W.iret (v := (nI 1)) hx hb hr (fun t ht hW => ⟨⟨_, (st, cdf, csf, s1, s2, s3), rfl, ⟨⟨1, by rw [spLabel, cl_f (fun q => absurd q.1.1 (by omega))], rfl⟩, hMP, hSR, hSB⟩, by rw [ht]; exact hP9, by rw [hAe]; exact hD9⟩, hS.F ht⟩) hS.2.2 d_Mod_label_34
  · have c1 := mt (nI_ltI (by omega) (by omega)).mpr c1
    have hz1 : a + cn - 1 - (a + 1) = cn - 2 := by omega
    have hz2 : a + 1 + (cn - 2) = a + cn - 1 := by omega
    refine lv_aload_n hx hb d_Mod_label_5 rfl (lv_at hl 0 rfl) ?_
    refine va_get (D := g.1) (ci := 8) (v := .ref mtt) (C := "SignDeskModel") (T := F_Mod) (N := 19) hx hb hts in_Mod hown hK hP 0 rfl rfl 0 (by decide) (hts _ k_494) (fun _ h9 => h9) rfl d_Mod_label_6 ?_
    refine lv_iload_n hx hb d_Mod_label_9 rfl (lv_at hl 1 rfl) ?_
    refine lv_iload_n hx hb d_Mod_label_10 rfl (lv_at hl 2 rfl) ?_
    refine lv_iadd hx hb d_Mod_label_11 ?_
    refine sd_topi (y := nI (a + cn)) (nI_add _ _) ?_
    refine lv_iconst (v := (nI 1)) hx hb d_Mod_label_12 (by decide) ?_
    refine lv_isub hx hb d_Mod_label_13 ?_
    refine sd_topi (y := nI (a + cn - 1)) (pk_sub (by omega)) ?_
    refine va_iald hx hb hK hP 1 1 rfl rfl (i := (nI (a + cn - 1))) (vp_in_nI (by omega) (by omega)) d_Mod_label_14 ?_
    refine sd_topi (y := nI (tx (a + cn - 1))) (by rw [nI_clamp (by omega)]; exact hT.2.2.1 _ (by omega)) ?_
    have hb8i := hb8 (a + cn - 1)
    refine lv_bipush (v := (nI 41)) hx hb d_Mod_label_15 (by decide) ?_
    refine lv_icmp_ne (tgt := 33) hx hb d_Mod_label_17 (by decide) (fun c2 => ?_) (fun c2 => ?_)
    · have c2 := mt (nI_eq (by omega) (by omega)).mpr c2
      refine lv_iconst (v := (nI 1)) hx hb d_Mod_label_33 (by decide) ?_
      have hP9 := hP.sub (ws' := [(m0, .inr (8, [.ref mtt, .int tk9, .int sz9, .int pl9, .int (nI (wn st)), .ref mcd, .int (nI (sn st)), .ref mat, .ref msz, .ref mvl, .ref mcs, .ref mmm, .int ra, .int rd, .int nx9, .int dn, .ref mkn, .ref mjp, .ref mds])), (mtt, .inl (gI g, 2000, .inl tf)), (mcd, .inl (gI g, 600, .inl cdf)), (mat, .inl (gI g, 40, .inl s1)), (msz, .inl (gI g, 40, .inl s2)), (mvl, .inl (gI g, 40, .inl s3)), (mcs, .inl (gI g, 600, .inl csf)), (mkn, .inl (gC g, 32, .inl kf))]) [0, 1, 2, 3, 4, 5, 6, 7] rfl
      have hD9 := hD.sub (ws' := [(m0, .inr (8, [.ref mtt, .int tk9, .int sz9, .int pl9, .int (nI (wn st)), .ref mcd, .int (nI (sn st)), .ref mat, .ref msz, .ref mvl, .ref mcs, .ref mmm, .int ra, .int rd, .int nx9, .int dn, .ref mkn, .ref mjp, .ref mds])), (mtt, .inl (gI g, 2000, .inl tf)), (mcd, .inl (gI g, 600, .inl cdf)), (mat, .inl (gI g, 40, .inl s1)), (msz, .inl (gI g, 40, .inl s2)), (mvl, .inl (gI g, 40, .inl s3)), (mcs, .inl (gI g, 600, .inl csf)), (mkn, .inl (gC g, 32, .inl kf))]) [0, 1, 2, 3, 4, 5, 6, 7] (by decide) rfl
      exact W.iret (v := (nI 1)) hx hb hr (fun t ht hW => ⟨⟨_, (st, cdf, csf, s1, s2, s3), rfl, ⟨⟨1, by rw [spLabel, cl_f (fun q => c2 q.2)], rfl⟩, hMP, hSR, hSB⟩, by rw [ht]; exact hP9, by rw [hAe]; exact hD9⟩, hS.F ht⟩) hS.2.2 d_Mod_label_34
    · have c2 := (nI_eq (by omega) (by omega)).mp c2
      refine lv_aload_n hx hb d_Mod_label_20 rfl (lv_at hl 0 rfl) ?_
      refine lv_iload_n hx hb d_Mod_label_21 rfl (lv_at hl 1 rfl) ?_
      refine lv_iconst (v := (nI 1)) hx hb d_Mod_label_22 (by decide) ?_
      refine lv_iadd hx hb d_Mod_label_23 ?_
      refine sd_topi (y := nI (a + 1)) (nI_add _ _) ?_
      refine lv_iload_n hx hb d_Mod_label_24 rfl (lv_at hl 2 rfl) ?_
      refine lv_iconst (v := (nI 2)) hx hb d_Mod_label_25 (by decide) ?_
      refine lv_isub hx hb d_Mod_label_26 ?_
      refine sd_topi (y := nI (cn - 2)) (pk_sub (by omega)) ?_
      refine sd_ri (va_runV (As := [.int (nI (a + 1)), .int (nI (cn - 2))]) (rest := []) ⟨hx, hb, hml, hown, hts⟩ (c_Mod_isSymbol l g m0 mtt mcd mat msz mvl mcs mmm mkn mjp mds tk9 sz9 pl9 (nI (wn st)) (nI (sn st)) ra rd nx9 dn n tf tx hT (a + 1) (cn - 2) (by omega) (by omega) (fun _ => by omega)) (cwV 2 hts (sd_gV k_584 k_586 k_13 k_30 k_587) rfl rfl rfl (by decide +kernel) ⟨Nat.le_of_ble_eq_true rfl, Nat.le_of_ble_eq_true rfl⟩) (sd_preV hK hE (sd_fr hS hA0) (hP.sub (ws' := [(m0, .inr (8, [.ref mtt, .int tk9, .int sz9, .int pl9, .int (nI (wn st)), .ref mcd, .int (nI (sn st)), .ref mat, .ref msz, .ref mvl, .ref mcs, .ref mmm, .int ra, .int rd, .int nx9, .int dn, .ref mkn, .ref mjp, .ref mds])), (mtt, .inl (gI g, 2000, .inl tf))]) [0, 1] rfl) rfl rfl) rfl rfl hl.1 rfl (lv_room (Nat.le_of_ble_eq_true rfl)) d_Mod_label_27 ⟨Nat.zero_le _, Nat.zero_le _⟩) (fun r3 er3 => ?_)
      subst er3
      refine lv_if_ne (tgt := 35) hx hb d_Mod_label_30 (by decide) (fun c4 => ?_) (fun c4 => ?_)
      · have c4 := sb_ne0.mp c4
        have hL : syP tx (a + 1) (a + cn - 1) ∧ tx (a + cn - 1) = 41 := ⟨by rw [hz2] at c4; exact c4, c2⟩
        refine lv_aload_n hx hb d_Mod_label_35 rfl (lv_at hl 0 rfl) ?_
        refine lv_iload_n hx hb d_Mod_label_36 rfl (lv_at hl 1 rfl) ?_
        refine lv_iconst (v := (nI 1)) hx hb d_Mod_label_37 (by decide) ?_
        refine lv_iadd hx hb d_Mod_label_38 ?_
        refine sd_topi (y := nI (a + 1)) (nI_add _ _) ?_
        refine lv_iload_n hx hb d_Mod_label_39 rfl (lv_at hl 2 rfl) ?_
        refine lv_iconst (v := (nI 2)) hx hb d_Mod_label_40 (by decide) ?_
        refine lv_isub hx hb d_Mod_label_41 ?_
        refine sd_topi (y := nI (cn - 2)) (pk_sub (by omega)) ?_
        refine sd_ri (va_runV (As := [.int (nI (a + 1)), .int (nI (cn - 2))]) (rest := []) ⟨hx, hb, hml, hown, hts⟩ (c_Mod_knownOf l g m0 mtt mcd mat msz mvl mcs mmm mkn mjp mds tk9 sz9 pl9 (nI (wn st)) (nI (sn st)) ra rd nx9 dn kf hRk n tf tx hT (a + 1) (cn - 2) (by omega) (by omega) (fun j h5 h6 => htk j (by omega) (by omega))) (cwV 2 hts (sd_gV k_600 k_602 k_14 k_30 k_603) rfl rfl rfl (by decide +kernel) ⟨Nat.le_of_ble_eq_true rfl, Nat.le_of_ble_eq_true rfl⟩) (sd_preV hK hE (sd_fr hS hA0) (hP.sub (ws' := [(m0, .inr (8, [.ref mtt, .int tk9, .int sz9, .int pl9, .int (nI (wn st)), .ref mcd, .int (nI (sn st)), .ref mat, .ref msz, .ref mvl, .ref mcs, .ref mmm, .int ra, .int rd, .int nx9, .int dn, .ref mkn, .ref mjp, .ref mds])), (mtt, .inl (gI g, 2000, .inl tf)), (mkn, .inl (gC g, 32, .inl kf))]) [0, 1, 7] rfl) rfl rfl) rfl rfl hl.1 rfl (lv_room (Nat.le_of_ble_eq_true rfl)) d_Mod_label_42 ⟨Nat.zero_le _, Nat.zero_le _⟩) (fun r5 er5 => ?_)
        subst er5
        refine sd_topi (y := nI (knK tx (a + 1) (a + cn - 1)) - 1) (by rw [hz2]) ?_
        have hkn := knK_le (tx := tx) (a := a + 1) (z := a + cn - 1)
        refine lv_iconst (v := (-1)) hx hb d_Mod_label_45 (by decide) ?_
        refine lv_icmp_eq (tgt := 51) hx hb d_Mod_label_46 (by decide) (fun c6 => ?_) (fun c6 => ?_)
        · have hk0 : knK tx (a + 1) (a + cn - 1) = 0 := (m1_iff (by omega)).mp c6
          refine lv_aload_n hx hb d_Mod_label_51 rfl (lv_at hl 0 rfl) ?_
          refine lv_iload_n hx hb d_Mod_label_52 rfl (lv_at hl 1 rfl) ?_
          refine lv_iconst (v := (nI 1)) hx hb d_Mod_label_53 (by decide) ?_
          refine lv_iadd hx hb d_Mod_label_54 ?_
          refine sd_topi (y := nI (a + 1)) (nI_add _ _) ?_
          refine lv_iload_n hx hb d_Mod_label_55 rfl (lv_at hl 2 rfl) ?_
          refine lv_iconst (v := (nI 2)) hx hb d_Mod_label_56 (by decide) ?_
          refine lv_isub hx hb d_Mod_label_57 ?_
          refine sd_topi (y := nI (cn - 2)) (pk_sub (by omega)) ?_
          have hPc := hP.sub (ws' := [(m0, .inr (8, [.ref mtt, .int tk9, .int sz9, .int pl9, .int (nI (wn st)), .ref mcd, .int (nI (sn st)), .ref mat, .ref msz, .ref mvl, .ref mcs, .ref mmm, .int ra, .int rd, .int nx9, .int dn, .ref mkn, .ref mjp, .ref mds])), (mtt, .inl (gI g, 2000, .inl tf)), (mat, .inl (gI g, 40, .inl s1)), (msz, .inl (gI g, 40, .inl s2)), (mvl, .inl (gI g, 40, .inl s3))]) [0, 1, 3, 4, 5] rfl
          have hDc := hD.sub (ws' := [(m0, .inr (8, [.ref mtt, .int tk9, .int sz9, .int pl9, .int (nI (wn st)), .ref mcd, .int (nI (sn st)), .ref mat, .ref msz, .ref mvl, .ref mcs, .ref mmm, .int ra, .int rd, .int nx9, .int dn, .ref mkn, .ref mjp, .ref mds])), (mtt, .inl (gI g, 2000, .inl tf)), (mat, .inl (gI g, 40, .inl s1)), (msz, .inl (gI g, 40, .inl s2)), (mvl, .inl (gI g, 40, .inl s3))]) [0, 1, 3, 4, 5] (by decide) rfl
          have hFc := va_free (wc := [(m0, .inr (8, [.ref mtt, .int tk9, .int sz9, .int pl9, .int (nI (wn st)), .ref mcd, .int (nI (sn st)), .ref mat, .ref msz, .ref mvl, .ref mcs, .ref mmm, .int ra, .int rd, .int nx9, .int dn, .ref mkn, .ref mjp, .ref mds])), (mtt, .inl (gI g, 2000, .inl tf)), (mat, .inl (gI g, 40, .inl s1)), (msz, .inl (gI g, 40, .inl s2)), (mvl, .inl (gI g, 40, .inl s3))]) hD hS hA [0, 1, 3, 4, 5] rfl
          refine sd_ci (va_runV (As := [.int (nI (a + 1)), .int (nI (cn - 2))]) (rest := []) ⟨hx, hb, hml, hown, hts⟩ (c_Mod_symbolOf l g m0 mtt mcd mat msz mvl mcs mmm mkn mjp mds tk9 sz9 pl9 (nI (wn st)) ra rd nx9 dn n tf tx hT st s1 s2 s3 hSR hSB (a + 1) (cn - 2) (by omega) (by omega) s.heap.size) (cwV 2 hts (sd_gV k_608 k_610 k_16 k_30 k_611) rfl rfl rfl (by decide +kernel) ⟨Nat.le_of_ble_eq_true rfl, Nat.le_of_ble_eq_true rfl⟩) (sd_preVU hK hE hS hA0 hs0 hPc hDc rfl rfl) rfl rfl hl.1 rfl (lv_room (Nat.le_of_ble_eq_true rfl)) d_Mod_label_58 ⟨Nat.zero_le _, Nat.zero_le _⟩) hS hFc (fun r7 u H1 locs hw hP1 hD1 hk1 hS => ?_)
          obtain ⟨st1, t1, t2, t3⟩ := u
          obtain ⟨hP, hD⟩ := va_join (wr := [(mcd, .inl (gI g, 600, .inl cdf)), (mcs, .inl (gI g, 600, .inl csf)), (mkn, .inl (gC g, 32, .inl kf))]) (w1 := [(m0, .inr (8, [.ref mtt, .int tk9, .int sz9, .int pl9, .int (nI (wn st)), .ref mcd, .int (nI (sn st1)), .ref mat, .ref msz, .ref mvl, .ref mcs, .ref mmm, .int ra, .int rd, .int nx9, .int dn, .ref mkn, .ref mjp, .ref mds])), (mtt, .inl (gI g, 2000, .inl tf)), (mat, .inl (gI g, 40, .inl t1)), (msz, .inl (gI g, 40, .inl t2)), (mvl, .inl (gI g, 40, .inl t3))]) hP hD [0, 1, 3, 4, 5] [2, 6, 7] rfl rfl (by decide) (by decide) hk1 hFc hP1 hD1
          clear hPc hDc hFc hk1 hP1 hD1
          generalize H1 = H at hP hS ⊢
          have hP : sdP g [(mcd, .inl (gI g, 600, .inl cdf)), (mcs, .inl (gI g, 600, .inl csf)), (mkn, .inl (gC g, 32, .inl kf)), (m0, .inr (8, [.ref mtt, .int tk9, .int sz9, .int pl9, .int (nI (wn st)), .ref mcd, .int (nI (sn st1)), .ref mat, .ref msz, .ref mvl, .ref mcs, .ref mmm, .int ra, .int rd, .int nx9, .int dn, .ref mkn, .ref mjp, .ref mds])), (mtt, .inl (gI g, 2000, .inl tf)), (mat, .inl (gI g, 40, .inl t1)), (msz, .inl (gI g, 40, .inl t2)), (mvl, .inl (gI g, 40, .inl t3))] H := hP
          have hD : va_D A [(mcd, .inl (gI g, 600, .inl cdf)), (mcs, .inl (gI g, 600, .inl csf)), (mkn, .inl (gC g, 32, .inl kf)), (m0, .inr (8, [.ref mtt, .int tk9, .int sz9, .int pl9, .int (nI (wn st)), .ref mcd, .int (nI (sn st1)), .ref mat, .ref msz, .ref mvl, .ref mcs, .ref mmm, .int ra, .int rd, .int nx9, .int dn, .ref mkn, .ref mjp, .ref mds])), (mtt, .inl (gI g, 2000, .inl tf)), (mat, .inl (gI g, 40, .inl t1)), (msz, .inl (gI g, 40, .inl t2)), (mvl, .inl (gI g, 40, .inl t3))] := hD
          obtain ⟨⟨cs, hsy, er7⟩, hSR1⟩ := hw
          have hsy : syO tx st (a + 1) (cn - 2) = (cs, st1) := hsy
          have hSR1 : SR st1 t1 t2 t3 := hSR1
          have hst1 : st1.1 = st.1 := by have h := syO_fst (tx := tx) (st := st) (a := a + 1) (n := cn - 2); rw [hsy] at h; exact h
          have hcs := syO_le (tx := tx) (a := a + 1) (n := cn - 2) h40
          rw [hsy] at hcs
          have hcs1 : cs ≤ sn st1 := hcs.1
          have hcs2 : sn st1 ≤ 40 := hcs.2
          have hSB1 : SB n st1 := by have h := SB_O (tx := tx) (a := a + 1) (c := cn - 2) hSB (by omega); rw [hsy] at h; exact h
          subst er7
          have hwn1 : wn st1 = wn st := by show st1.1.1 = st.1.1; rw [hst1]
          have hP : sdP g [(mcd, .inl (gI g, 600, .inl cdf)), (mcs, .inl (gI g, 600, .inl csf)), (mkn, .inl (gC g, 32, .inl kf)), (m0, .inr (8, [.ref mtt, .int tk9, .int sz9, .int pl9, .int (nI (wn st1)), .ref mcd, .int (nI (sn st1)), .ref mat, .ref msz, .ref mvl, .ref mcs, .ref mmm, .int ra, .int rd, .int nx9, .int dn, .ref mkn, .ref mjp, .ref mds])), (mtt, .inl (gI g, 2000, .inl tf)), (mat, .inl (gI g, 40, .inl t1)), (msz, .inl (gI g, 40, .inl t2)), (mvl, .inl (gI g, 40, .inl t3))] H := by rw [hwn1]; exact hP
          have hD : va_D A [(mcd, .inl (gI g, 600, .inl cdf)), (mcs, .inl (gI g, 600, .inl csf)), (mkn, .inl (gC g, 32, .inl kf)), (m0, .inr (8, [.ref mtt, .int tk9, .int sz9, .int pl9, .int (nI (wn st1)), .ref mcd, .int (nI (sn st1)), .ref mat, .ref msz, .ref mvl, .ref mcs, .ref mmm, .int ra, .int rd, .int nx9, .int dn, .ref mkn, .ref mjp, .ref mds])), (mtt, .inl (gI g, 2000, .inl tf)), (mat, .inl (gI g, 40, .inl t1)), (msz, .inl (gI g, 40, .inl t2)), (mvl, .inl (gI g, 40, .inl t3))] := by rw [hwn1]; exact hD
          refine lv_istore_n (lv' := [(3, .int (nI cs - 1)), (0, .ref m0), (1, .int (nI a)), (2, .int (nI cn))]) hx hb d_Mod_label_61 rfl hl (by decide) rfl (fun ls hl => ?_)
          refine lv_iload_n hx hb d_Mod_label_62 rfl (lv_at hl 0 rfl) ?_
          refine lv_iconst (v := (-1)) hx hb d_Mod_label_63 (by decide) ?_
          refine lv_icmp_ne (tgt := 69) hx hb d_Mod_label_64 (by decide) (fun c8 => ?_) (fun c8 => ?_)
          · have hc0 : ¬ cs = 0 := fun q => c8 (by rw [q]; decide)
            have ecs : nI cs - 1 = nI (cs - 1) := m1_up hc0
            obtain ⟨b1, b2, b3, b4, b5⟩ := hSR1.2 (cs - 1) (by omega)
            refine lv_aload_n hx hb d_Mod_label_69 rfl (lv_at hl 1 rfl) ?_
            refine va_get (D := g.1) (ci := 8) (v := .ref mvl) (C := "SignDeskModel") (T := F_Mod) (N := 19) hx hb hts in_Mod hown hK hP 3 rfl rfl 9 (by decide) (hts _ k_503) (fun _ h9 => h9) rfl d_Mod_label_70 ?_
            refine lv_iload_n hx hb d_Mod_label_73 rfl (lv_at hl 0 rfl) ?_
            refine sd_topi (y := nI (cs - 1)) (ecs) ?_
            refine va_iald hx hb hK hP 7 1 rfl rfl (i := (nI (cs - 1))) (vp_in_nI (by omega) (by omega)) d_Mod_label_74 ?_
            refine sd_topi (y := nI (sv st1 (cs - 1)) - 1) (by rw [nI_clamp (by omega)]; exact b3) ?_
            refine lv_iconst (v := (-1)) hx hb d_Mod_label_75 (by decide) ?_
            refine lv_icmp_eq (tgt := 81) hx hb d_Mod_label_76 (by decide) (fun c9 => ?_) (fun c9 => ?_)
            · have hv0 : sv st1 (cs - 1) = 0 := (m1_iff (by omega)).mp c9
              refine lv_aload_n hx hb d_Mod_label_81 rfl (lv_at hl 1 rfl) ?_
              refine va_get (D := g.1) (ci := 8) (v := .ref mvl) (C := "SignDeskModel") (T := F_Mod) (N := 19) hx hb hts in_Mod hown hK hP 3 rfl rfl 9 (by decide) (hts _ k_503) (fun _ h9 => h9) rfl d_Mod_label_82 ?_
              refine lv_iload_n hx hb d_Mod_label_85 rfl (lv_at hl 0 rfl) ?_
              refine sd_topi (y := nI (cs - 1)) (ecs) ?_
              refine lv_aload_n hx hb d_Mod_label_86 rfl (lv_at hl 1 rfl) ?_
              refine va_get (D := g.1) (ci := 8) (v := .int (nI (wn st1))) (C := "SignDeskModel") (T := F_Mod) (N := 19) hx hb hts in_Mod hown hK hP 3 rfl rfl 4 (by decide) (hts _ k_498) (fun _ h9 => h9) rfl d_Mod_label_87 ?_
              refine sd_topi (y := nI (wn st)) (by rw [hwn1]) ?_
              refine va_iast hx hb hK hP hD hS 7 1 rfl rfl (i := (nI (cs - 1))) (x := (nI (wn st))) (vp_in_nI (by omega) (by omega)) d_Mod_label_90 (fun H locs hP hD hS => ?_)
              have hP : sdP g [(mcd, .inl (gI g, 600, .inl cdf)), (mcs, .inl (gI g, 600, .inl csf)), (mkn, .inl (gC g, 32, .inl kf)), (m0, .inr (8, [.ref mtt, .int tk9, .int sz9, .int pl9, .int (nI (wn st1)), .ref mcd, .int (nI (sn st1)), .ref mat, .ref msz, .ref mvl, .ref mcs, .ref mmm, .int ra, .int rd, .int nx9, .int dn, .ref mkn, .ref mjp, .ref mds])), (mtt, .inl (gI g, 2000, .inl tf)), (mat, .inl (gI g, 40, .inl t1)), (msz, .inl (gI g, 40, .inl t2)), (mvl, .inl (gI g, 40, .inl (upd t3 ((nI (cs - 1))).toNatClampNeg (nI (wn st)))))] H := hP
              have hD : va_D A [(mcd, .inl (gI g, 600, .inl cdf)), (mcs, .inl (gI g, 600, .inl csf)), (mkn, .inl (gC g, 32, .inl kf)), (m0, .inr (8, [.ref mtt, .int tk9, .int sz9, .int pl9, .int (nI (wn st1)), .ref mcd, .int (nI (sn st1)), .ref mat, .ref msz, .ref mvl, .ref mcs, .ref mmm, .int ra, .int rd, .int nx9, .int dn, .ref mkn, .ref mjp, .ref mds])), (mtt, .inl (gI g, 2000, .inl tf)), (mat, .inl (gI g, 40, .inl t1)), (msz, .inl (gI g, 40, .inl t2)), (mvl, .inl (gI g, 40, .inl (upd t3 ((nI (cs - 1))).toNatClampNeg (nI (wn st)))))] := hD
              have eF : (upd t3 ((nI (cs - 1))).toNatClampNeg (nI (wn st))) = (upd t3 (cs - 1) (nI (wn st))) := by rw [nI_clamp (by omega)]
              rw [eF] at hP hD
              refine lv_iconst (v := (nI 0)) hx hb d_Mod_label_91 (by decide) ?_
              have hP9 := hP.sub (ws' := [(m0, .inr (8, [.ref mtt, .int tk9, .int sz9, .int pl9, .int (nI (wn st1)), .ref mcd, .int (nI (sn st1)), .ref mat, .ref msz, .ref mvl, .ref mcs, .ref mmm, .int ra, .int rd, .int nx9, .int dn, .ref mkn, .ref mjp, .ref mds])), (mtt, .inl (gI g, 2000, .inl tf)), (mcd, .inl (gI g, 600, .inl cdf)), (mat, .inl (gI g, 40, .inl t1)), (msz, .inl (gI g, 40, .inl t2)), (mvl, .inl (gI g, 40, .inl (upd t3 (cs - 1) (nI (wn st))))), (mcs, .inl (gI g, 600, .inl csf)), (mkn, .inl (gC g, 32, .inl kf))]) [3, 4, 0, 5, 6, 7, 1, 2] rfl
              have hD9 := hD.sub (ws' := [(m0, .inr (8, [.ref mtt, .int tk9, .int sz9, .int pl9, .int (nI (wn st1)), .ref mcd, .int (nI (sn st1)), .ref mat, .ref msz, .ref mvl, .ref mcs, .ref mmm, .int ra, .int rd, .int nx9, .int dn, .ref mkn, .ref mjp, .ref mds])), (mtt, .inl (gI g, 2000, .inl tf)), (mcd, .inl (gI g, 600, .inl cdf)), (mat, .inl (gI g, 40, .inl t1)), (msz, .inl (gI g, 40, .inl t2)), (mvl, .inl (gI g, 40, .inl (upd t3 (cs - 1) (nI (wn st))))), (mcs, .inl (gI g, 600, .inl csf)), (mkn, .inl (gC g, 32, .inl kf))]) [3, 4, 0, 5, 6, 7, 1, 2] (by decide) rfl
              exact W.iret (v := (nI 0)) hx hb hr (fun t ht hW => ⟨⟨_, (tellS st1 (cs - 1) (wn st + 1), cdf, csf, t1, t2, upd t3 (cs - 1) (nI (wn st))), rfl, ⟨⟨0, by rw [spLabel, cl_t hL, if_pos hk0, hz1, hsy, if_neg hc0, if_pos hv0], rfl⟩, MPR_of hMP hst1, SR_tell hSR1 (by omega), hSB1⟩, by rw [ht]; exact hP9, by rw [hAe]; exact hD9⟩, hS.F ht⟩) hS.2.2 d_Mod_label_92
            · have hv0 : ¬ sv st1 (cs - 1) = 0 := fun q => c9 (by rw [q]; decide)
              refine lv_iconst (v := (nI 3)) hx hb d_Mod_label_79 (by decide) ?_
              have hP9 := hP.sub (ws' := [(m0, .inr (8, [.ref mtt, .int tk9, .int sz9, .int pl9, .int (nI (wn st1)), .ref mcd, .int (nI (sn st1)), .ref mat, .ref msz, .ref mvl, .ref mcs, .ref mmm, .int ra, .int rd, .int nx9, .int dn, .ref mkn, .ref mjp, .ref mds])), (mtt, .inl (gI g, 2000, .inl tf)), (mcd, .inl (gI g, 600, .inl cdf)), (mat, .inl (gI g, 40, .inl t1)), (msz, .inl (gI g, 40, .inl t2)), (mvl, .inl (gI g, 40, .inl t3)), (mcs, .inl (gI g, 600, .inl csf)), (mkn, .inl (gC g, 32, .inl kf))]) [3, 4, 0, 5, 6, 7, 1, 2] rfl
              have hD9 := hD.sub (ws' := [(m0, .inr (8, [.ref mtt, .int tk9, .int sz9, .int pl9, .int (nI (wn st1)), .ref mcd, .int (nI (sn st1)), .ref mat, .ref msz, .ref mvl, .ref mcs, .ref mmm, .int ra, .int rd, .int nx9, .int dn, .ref mkn, .ref mjp, .ref mds])), (mtt, .inl (gI g, 2000, .inl tf)), (mcd, .inl (gI g, 600, .inl cdf)), (mat, .inl (gI g, 40, .inl t1)), (msz, .inl (gI g, 40, .inl t2)), (mvl, .inl (gI g, 40, .inl t3)), (mcs, .inl (gI g, 600, .inl csf)), (mkn, .inl (gC g, 32, .inl kf))]) [3, 4, 0, 5, 6, 7, 1, 2] (by decide) rfl
              exact W.iret (v := (nI 3)) hx hb hr (fun t ht hW => ⟨⟨_, (st1, cdf, csf, t1, t2, t3), rfl, ⟨⟨3, by rw [spLabel, cl_t hL, if_pos hk0, hz1, hsy, if_neg hc0, if_neg hv0], rfl⟩, MPR_of hMP hst1, hSR1, hSB1⟩, by rw [ht]; exact hP9, by rw [hAe]; exact hD9⟩, hS.F ht⟩) hS.2.2 d_Mod_label_80
          · have hc0 : cs = 0 := (m1_iff (by omega)).mp c8
            refine lv_iconst (v := (nI 2)) hx hb d_Mod_label_67 (by decide) ?_
            have hP9 := hP.sub (ws' := [(m0, .inr (8, [.ref mtt, .int tk9, .int sz9, .int pl9, .int (nI (wn st1)), .ref mcd, .int (nI (sn st1)), .ref mat, .ref msz, .ref mvl, .ref mcs, .ref mmm, .int ra, .int rd, .int nx9, .int dn, .ref mkn, .ref mjp, .ref mds])), (mtt, .inl (gI g, 2000, .inl tf)), (mcd, .inl (gI g, 600, .inl cdf)), (mat, .inl (gI g, 40, .inl t1)), (msz, .inl (gI g, 40, .inl t2)), (mvl, .inl (gI g, 40, .inl t3)), (mcs, .inl (gI g, 600, .inl csf)), (mkn, .inl (gC g, 32, .inl kf))]) [3, 4, 0, 5, 6, 7, 1, 2] rfl
            have hD9 := hD.sub (ws' := [(m0, .inr (8, [.ref mtt, .int tk9, .int sz9, .int pl9, .int (nI (wn st1)), .ref mcd, .int (nI (sn st1)), .ref mat, .ref msz, .ref mvl, .ref mcs, .ref mmm, .int ra, .int rd, .int nx9, .int dn, .ref mkn, .ref mjp, .ref mds])), (mtt, .inl (gI g, 2000, .inl tf)), (mcd, .inl (gI g, 600, .inl cdf)), (mat, .inl (gI g, 40, .inl t1)), (msz, .inl (gI g, 40, .inl t2)), (mvl, .inl (gI g, 40, .inl t3)), (mcs, .inl (gI g, 600, .inl csf)), (mkn, .inl (gC g, 32, .inl kf))]) [3, 4, 0, 5, 6, 7, 1, 2] (by decide) rfl
            exact W.iret (v := (nI 2)) hx hb hr (fun t ht hW => ⟨⟨_, (st1, cdf, csf, t1, t2, t3), rfl, ⟨⟨2, by rw [spLabel, cl_t hL, if_pos hk0, hz1, hsy, if_pos hc0], rfl⟩, MPR_of hMP hst1, hSR1, hSB1⟩, by rw [ht]; exact hP9, by rw [hAe]; exact hD9⟩, hS.F ht⟩) hS.2.2 d_Mod_label_68
        · have hk0 : ¬ knK tx (a + 1) (a + cn - 1) = 0 := fun q => c6 (by rw [q]; decide)
          refine lv_iconst (v := (nI 3)) hx hb d_Mod_label_49 (by decide) ?_
          have hP9 := hP.sub (ws' := [(m0, .inr (8, [.ref mtt, .int tk9, .int sz9, .int pl9, .int (nI (wn st)), .ref mcd, .int (nI (sn st)), .ref mat, .ref msz, .ref mvl, .ref mcs, .ref mmm, .int ra, .int rd, .int nx9, .int dn, .ref mkn, .ref mjp, .ref mds])), (mtt, .inl (gI g, 2000, .inl tf)), (mcd, .inl (gI g, 600, .inl cdf)), (mat, .inl (gI g, 40, .inl s1)), (msz, .inl (gI g, 40, .inl s2)), (mvl, .inl (gI g, 40, .inl s3)), (mcs, .inl (gI g, 600, .inl csf)), (mkn, .inl (gC g, 32, .inl kf))]) [0, 1, 2, 3, 4, 5, 6, 7] rfl
          have hD9 := hD.sub (ws' := [(m0, .inr (8, [.ref mtt, .int tk9, .int sz9, .int pl9, .int (nI (wn st)), .ref mcd, .int (nI (sn st)), .ref mat, .ref msz, .ref mvl, .ref mcs, .ref mmm, .int ra, .int rd, .int nx9, .int dn, .ref mkn, .ref mjp, .ref mds])), (mtt, .inl (gI g, 2000, .inl tf)), (mcd, .inl (gI g, 600, .inl cdf)), (mat, .inl (gI g, 40, .inl s1)), (msz, .inl (gI g, 40, .inl s2)), (mvl, .inl (gI g, 40, .inl s3)), (mcs, .inl (gI g, 600, .inl csf)), (mkn, .inl (gC g, 32, .inl kf))]) [0, 1, 2, 3, 4, 5, 6, 7] (by decide) rfl
          exact W.iret (v := (nI 3)) hx hb hr (fun t ht hW => ⟨⟨_, (st, cdf, csf, s1, s2, s3), rfl, ⟨⟨3, by rw [spLabel, cl_t hL, if_neg hk0], rfl⟩, hMP, hSR, hSB⟩, by rw [ht]; exact hP9, by rw [hAe]; exact hD9⟩, hS.F ht⟩) hS.2.2 d_Mod_label_50
      · have c4 := sb_eq0.mp c4
        refine lv_iconst (v := (nI 1)) hx hb d_Mod_label_33 (by decide) ?_
        have hP9 := hP.sub (ws' := [(m0, .inr (8, [.ref mtt, .int tk9, .int sz9, .int pl9, .int (nI (wn st)), .ref mcd, .int (nI (sn st)), .ref mat, .ref msz, .ref mvl, .ref mcs, .ref mmm, .int ra, .int rd, .int nx9, .int dn, .ref mkn, .ref mjp, .ref mds])), (mtt, .inl (gI g, 2000, .inl tf)), (mcd, .inl (gI g, 600, .inl cdf)), (mat, .inl (gI g, 40, .inl s1)), (msz, .inl (gI g, 40, .inl s2)), (mvl, .inl (gI g, 40, .inl s3)), (mcs, .inl (gI g, 600, .inl csf)), (mkn, .inl (gC g, 32, .inl kf))]) [0, 1, 2, 3, 4, 5, 6, 7] rfl
        have hD9 := hD.sub (ws' := [(m0, .inr (8, [.ref mtt, .int tk9, .int sz9, .int pl9, .int (nI (wn st)), .ref mcd, .int (nI (sn st)), .ref mat, .ref msz, .ref mvl, .ref mcs, .ref mmm, .int ra, .int rd, .int nx9, .int dn, .ref mkn, .ref mjp, .ref mds])), (mtt, .inl (gI g, 2000, .inl tf)), (mcd, .inl (gI g, 600, .inl cdf)), (mat, .inl (gI g, 40, .inl s1)), (msz, .inl (gI g, 40, .inl s2)), (mvl, .inl (gI g, 40, .inl s3)), (mcs, .inl (gI g, 600, .inl csf)), (mkn, .inl (gC g, 32, .inl kf))]) [0, 1, 2, 3, 4, 5, 6, 7] (by decide) rfl
        exact W.iret (v := (nI 1)) hx hb hr (fun t ht hW => ⟨⟨_, (st, cdf, csf, s1, s2, s3), rfl, ⟨⟨1, by rw [spLabel, cl_f (fun q => c4 (by rw [hz2]; exact q.1))], rfl⟩, hMP, hSR, hSB⟩, by rw [ht]; exact hP9, by rw [hAe]; exact hD9⟩, hS.F ht⟩) hS.2.2 d_Mod_label_34
