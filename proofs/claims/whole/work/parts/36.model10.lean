set_option maxHeartbeats 4000000 in
set_option maxRecDepth 100000 in
/-- instruction(a, c, second) -/
theorem c_Mod_instruction (l : Launch) (g : sdG) (m0 mtt mcd mat msz mvl mcs mmm mkn mjp mds : Nat) (tk9 sz9 pl9 ra rd nx9 dn : Int32) (kf : Nat → Int32) (hRk : rowOK 32 kf (sd_k7.map Prod.fst)) (jf : Nat → Int32) (hRj : rowOK 28 jf (sd_jump.map Prod.fst)) (df : Nat → Int32) (hRd : rowOK 19 df (sd_dest.map Prod.fst)) (n : Nat) (tf : Nat → Int32) (tx : Nat → Nat) (hT : MTok n tf tx) (st : AS) (cdf csf s1 s2 s3 : Nat → Int32) (hMP : MPR st cdf csf) (hSR : SR st s1 s2 s3) (hSB : SB n st) (a cn h9 : Nat) (hh1 : h9 ≤ 1) (hc1 : 1 ≤ cn) (hac : a + cn ≤ n) (htk : ∀ j, a ≤ j → j < a + cn → ¬ tx j = 32) (sz : Nat) : Met l y_Mod_instruction (.code y_Mod_instruction b_Mod_instruction 4 (some .int) :: sdT) ({ frames := 5, cells := 0, slots := 0, locals := 109 }) (va_Pc [.ref m0, .int (nI a), .int (nI cn), .int (nI h9)] (sdU g [(m0, .inr (8, [.ref mtt, .int tk9, .int sz9, .int pl9, .int (nI (wn st)), .ref mcd, .int (nI (sn st)), .ref mat, .ref msz, .ref mvl, .ref mcs, .ref mmm, .int ra, .int rd, .int nx9, .int dn, .ref mkn, .ref mjp, .ref mds])), (mtt, .inl (gI g, 2000, .inl tf)), (mcd, .inl (gI g, 600, .inl cdf)), (mat, .inl (gI g, 40, .inl s1)), (msz, .inl (gI g, 40, .inl s2)), (mvl, .inl (gI g, 40, .inl s3)), (mcs, .inl (gI g, 600, .inl csf)), (mkn, .inl (gC g, 32, .inl kf)), (mjp, .inl (gC g, 28, .inl jf)), (mds, .inl (gC g, 19, .inl df))] sz)) (va_Qi (S := AS × (Nat → Int32) × (Nat → Int32) × (Nat → Int32) × (Nat → Int32) × (Nat → Int32)) (fun r u => (¬ h9 = 0 → r = nI 1 ∧ u.1 = st) ∧ (h9 = 0 → ∃ c, spTake tx a (a + cn) st = (c, u.1) ∧ r = nI c) ∧ MPR u.1 u.2.1 u.2.2.1 ∧ SR u.1 u.2.2.2.1 u.2.2.2.2.1 u.2.2.2.2.2 ∧ SB n u.1) (fun u t => sdB g [(m0, .inr (8, [.ref mtt, .int tk9, .int sz9, .int pl9, .int (nI (wn st)), .ref mcd, .int (nI (sn st)), .ref mat, .ref msz, .ref mvl, .ref mcs, .ref mmm, .int ra, .int rd, .int nx9, .int dn, .ref mkn, .ref mjp, .ref mds])), (mtt, .inl (gI g, 2000, .inl tf)), (mcd, .inl (gI g, 600, .inl cdf)), (mat, .inl (gI g, 40, .inl s1)), (msz, .inl (gI g, 40, .inl s2)), (mvl, .inl (gI g, 40, .inl s3)), (mcs, .inl (gI g, 600, .inl csf)), (mkn, .inl (gC g, 32, .inl kf)), (mjp, .inl (gC g, 28, .inl jf)), (mds, .inl (gC g, 19, .inl df))] sz ((fun u => [(m0, .inr (8, [.ref mtt, .int tk9, .int sz9, .int pl9, .int (nI (wn u.1)), .ref mcd, .int (nI (sn u.1)), .ref mat, .ref msz, .ref mvl, .ref mcs, .ref mmm, .int ra, .int rd, .int nx9, .int dn, .ref mkn, .ref mjp, .ref mds])), (mtt, .inl (gI g, 2000, .inl tf)), (mcd, .inl (gI g, 600, .inl u.2.1)), (mat, .inl (gI g, 40, .inl u.2.2.2.1)), (msz, .inl (gI g, 40, .inl u.2.2.2.2.1)), (mvl, .inl (gI g, 40, .inl u.2.2.2.2.2)), (mcs, .inl (gI g, 600, .inl u.2.2.1)), (mkn, .inl (gC g, 32, .inl kf)), (mjp, .inl (gC g, 28, .inl jf)), (mds, .inl (gC g, 19, .inl df))] : AS × (Nat → Int32) × (Nat → Int32) × (Nat → Int32) × (Nat → Int32) × (Nat → Int32) → va_W) u) t) (va_A [(m0, .inr (8, [.ref mtt, .int tk9, .int sz9, .int pl9, .int (nI (wn st)), .ref mcd, .int (nI (sn st)), .ref mat, .ref msz, .ref mvl, .ref mcs, .ref mmm, .int ra, .int rd, .int nx9, .int dn, .ref mkn, .ref mjp, .ref mds])), (mtt, .inl (gI g, 2000, .inl tf)), (mcd, .inl (gI g, 600, .inl cdf)), (mat, .inl (gI g, 40, .inl s1)), (msz, .inl (gI g, 40, .inl s2)), (mvl, .inl (gI g, 40, .inl s3)), (mcs, .inl (gI g, 600, .inl csf)), (mkn, .inl (gC g, 32, .inl kf)), (mjp, .inl (gC g, 28, .inl jf)), (mds, .inl (gC g, 19, .inl df))] sz)) 0 0 (va_A [(m0, .inr (8, [.ref mtt, .int tk9, .int sz9, .int pl9, .int (nI (wn st)), .ref mcd, .int (nI (sn st)), .ref mat, .ref msz, .ref mvl, .ref mcs, .ref mmm, .int ra, .int rd, .int nx9, .int dn, .ref mkn, .ref mjp, .ref mds])), (mtt, .inl (gI g, 2000, .inl tf)), (mcd, .inl (gI g, 600, .inl cdf)), (mat, .inl (gI g, 40, .inl s1)), (msz, .inl (gI g, 40, .inl s2)), (mvl, .inl (gI g, 40, .inl s3)), (mcs, .inl (gI g, 600, .inl csf)), (mkn, .inl (gC g, 32, .inl kf)), (mjp, .inl (gC g, 28, .inl jf)), (mds, .inl (gC g, 19, .inl df))] sz) := by
  refine Met.ofW (cc := b_Mod_instruction) (maxL := 4) (ret := (some .int)) (by decide) rfl ?_
  intro p ev s m args below meth c s₁ B hml hv
  obtain ⟨rfl, hsz, hP, hK, hE, hD0, hs0⟩ := hv
  have hx := B.exec
  have hb := B.bytes
  have hr := B.returns
  have hts := fun (w : Cond) (h : w ∈ sdT) => atoms_spec (ws := (.code y_Mod_instruction b_Mod_instruction 4 (some .int) :: sdT)) B.pre w (List.mem_cons_of_mem _ h)
  have hown : s.vm.findClass "SignDeskModel" = some m.cls := findClass_of_methodNamed B.named
  have hlocks := B.notSynchronized
  subst hsz
  have hD := hD0.self (sz := s.heap.size)
  have hA0 : ∀ q : Nat, va_A [(m0, .inr (8, [.ref mtt, .int tk9, .int sz9, .int pl9, .int (nI (wn st)), .ref mcd, .int (nI (sn st)), .ref mat, .ref msz, .ref mvl, .ref mcs, .ref mmm, .int ra, .int rd, .int nx9, .int dn, .ref mkn, .ref mjp, .ref mds])), (mtt, .inl (gI g, 2000, .inl tf)), (mcd, .inl (gI g, 600, .inl cdf)), (mat, .inl (gI g, 40, .inl s1)), (msz, .inl (gI g, 40, .inl s2)), (mvl, .inl (gI g, 40, .inl s3)), (mcs, .inl (gI g, 600, .inl csf)), (mkn, .inl (gC g, 32, .inl kf)), (mjp, .inl (gC g, 28, .inl jf)), (mds, .inl (gC g, 19, .inl df))] s.heap.size q → gS g ≤ q := fun q h => h.elim (fun ⟨k, e, hk⟩ => hD0.2 k _ hk) (fun h => Nat.le_trans hs0 h)
  have hA : ∀ q : Nat, s.heap.size ≤ q → va_A [(m0, .inr (8, [.ref mtt, .int tk9, .int sz9, .int pl9, .int (nI (wn st)), .ref mcd, .int (nI (sn st)), .ref mat, .ref msz, .ref mvl, .ref mcs, .ref mmm, .int ra, .int rd, .int nx9, .int dn, .ref mkn, .ref mjp, .ref mds])), (mtt, .inl (gI g, 2000, .inl tf)), (mcd, .inl (gI g, 600, .inl cdf)), (mat, .inl (gI g, 40, .inl s1)), (msz, .inl (gI g, 40, .inl s2)), (mvl, .inl (gI g, 40, .inl s3)), (mcs, .inl (gI g, 600, .inl csf)), (mkn, .inl (gC g, 32, .inl kf)), (mjp, .inl (gC g, 28, .inl jf)), (mds, .inl (gC g, 19, .inl df))] s.heap.size q := fun q h => Or.inr h
  generalize hAe : va_A [(m0, .inr (8, [.ref mtt, .int tk9, .int sz9, .int pl9, .int (nI (wn st)), .ref mcd, .int (nI (sn st)), .ref mat, .ref msz, .ref mvl, .ref mcs, .ref mmm, .int ra, .int rd, .int nx9, .int dn, .ref mkn, .ref mjp, .ref mds])), (mtt, .inl (gI g, 2000, .inl tf)), (mcd, .inl (gI g, 600, .inl cdf)), (mat, .inl (gI g, 40, .inl s1)), (msz, .inl (gI g, 40, .inl s2)), (mvl, .inl (gI g, 40, .inl s3)), (mcs, .inl (gI g, 600, .inl csf)), (mkn, .inl (gC g, 32, .inl kf)), (mjp, .inl (gC g, 28, .inl jf)), (mds, .inl (gC g, 19, .inl df))] s.heap.size = A at hD hA0 hA ⊢
  have hS : va_S A s.heap s.heap [] := va_S.rf
  have hP : sdP g [(m0, .inr (8, [.ref mtt, .int tk9, .int sz9, .int pl9, .int (nI (wn st)), .ref mcd, .int (nI (sn st)), .ref mat, .ref msz, .ref mvl, .ref mcs, .ref mmm, .int ra, .int rd, .int nx9, .int dn, .ref mkn, .ref mjp, .ref mds])), (mtt, .inl (gI g, 2000, .inl tf)), (mcd, .inl (gI g, 600, .inl cdf)), (mat, .inl (gI g, 40, .inl s1)), (msz, .inl (gI g, 40, .inl s2)), (mvl, .inl (gI g, 40, .inl s3)), (mcs, .inl (gI g, 600, .inl csf)), (mkn, .inl (gC g, 32, .inl kf)), (mjp, .inl (gC g, 28, .inl jf)), (mds, .inl (gC g, 19, .inl df))] s.heap := hP
  have hl := lv_entry ([.ref m0, .int (nI a), .int (nI cn), .int (nI h9)]) (n := 4) (Nat.le_of_ble_eq_true rfl)
  rw [lg_entry_eq]
  generalize (lg_sl ([.ref m0, .int (nI a), .int (nI cn), .int (nI h9)]) ++ List.replicate (4 - (lg_sl ([.ref m0, .int (nI a), .int (nI cn), .int (nI h9)])).length) Slot.unset).toArray = ls at hl ⊢
  have hl : lv_has ls 4 [(0, .ref m0), (1, .int (nI a)), (2, .int (nI cn)), (3, .int (nI h9))] := hl
  have hn := hT.1
  have hb8 := hT.2.1
  have h40 := hSR.1
  have h600 := hMP.1
  refine lv_iload_n hx hb d_Mod_instruction_0 rfl (lv_at hl 3 rfl) ?_
  refine lv_if_eq (tgt := 6) hx hb d_Mod_instruction_1 (by decide) (fun c1 => ?_) (fun c1 => ?_)
  · have c1 := (nI_eq (b := 0) (by omega) (by omega)).mp c1
    have hh0 : h9 = 0 := c1
    refine lv_aload_n hx hb d_Mod_instruction_6 rfl (lv_at hl 0 rfl) ?_
    refine va_get (D := g.1) (ci := 8) (v := .ref mtt) (C := "SignDeskModel") (T := F_Mod) (N := 19) hx hb hts in_Mod hown hK hP 0 rfl rfl 0 (by decide) (hts _ k_494) (fun _ h9 => h9) rfl d_Mod_instruction_7 ?_
    refine lv_iload_n hx hb d_Mod_instruction_10 rfl (lv_at hl 1 rfl) ?_
    refine va_iald hx hb hK hP 1 1 rfl rfl (i := (nI a)) (vp_in_nI (by omega) (by omega)) d_Mod_instruction_11 ?_
    refine sd_topi (y := nI (tx (a))) (by rw [nI_clamp (by omega)]; exact hT.2.2.1 _ (by omega)) ?_
    have hb8i := hb8 (a)
    have hb8a := hb8 a
    refine lv_bipush (v := (nI 40)) hx hb d_Mod_instruction_12 (by decide) ?_
    refine lv_icmp_ne (tgt := 24) hx hb d_Mod_instruction_14 (by decide) (fun c2 => ?_) (fun c2 => ?_)
    · have c2 := mt (nI_eq (by omega) (by omega)).mpr c2
      refine lv_aload_n hx hb d_Mod_instruction_24 rfl (lv_at hl 0 rfl) ?_
      refine va_get (D := g.1) (ci := 8) (v := .ref mtt) (C := "SignDeskModel") (T := F_Mod) (N := 19) hx hb hts in_Mod hown hK hP 0 rfl rfl 0 (by decide) (hts _ k_494) (fun _ h9 => h9) rfl d_Mod_instruction_25 ?_
      refine lv_iload_n hx hb d_Mod_instruction_28 rfl (lv_at hl 1 rfl) ?_
      refine va_iald hx hb hK hP 1 1 rfl rfl (i := (nI a)) (vp_in_nI (by omega) (by omega)) d_Mod_instruction_29 ?_
      refine sd_topi (y := nI (tx (a))) (by rw [nI_clamp (by omega)]; exact hT.2.2.1 _ (by omega)) ?_
      have hb8i := hb8 (a)
      refine lv_bipush (v := (nI 64)) hx hb d_Mod_instruction_30 (by decide) ?_
      refine lv_icmp_ne (tgt := 48) hx hb d_Mod_instruction_32 (by decide) (fun c3 => ?_) (fun c3 => ?_)
      · have c3 := mt (nI_eq (by omega) (by omega)).mpr c3
        refine lv_aload_n hx hb d_Mod_instruction_48 rfl (lv_at hl 0 rfl) ?_
        refine lv_iload_n hx hb d_Mod_instruction_49 rfl (lv_at hl 1 rfl) ?_
        refine lv_iload_n hx hb d_Mod_instruction_50 rfl (lv_at hl 2 rfl) ?_
        have hPc := hP.sub (ws' := [(m0, .inr (8, [.ref mtt, .int tk9, .int sz9, .int pl9, .int (nI (wn st)), .ref mcd, .int (nI (sn st)), .ref mat, .ref msz, .ref mvl, .ref mcs, .ref mmm, .int ra, .int rd, .int nx9, .int dn, .ref mkn, .ref mjp, .ref mds])), (mtt, .inl (gI g, 2000, .inl tf)), (mcd, .inl (gI g, 600, .inl cdf)), (mat, .inl (gI g, 40, .inl s1)), (msz, .inl (gI g, 40, .inl s2)), (mvl, .inl (gI g, 40, .inl s3)), (mcs, .inl (gI g, 600, .inl csf)), (mkn, .inl (gC g, 32, .inl kf)), (mjp, .inl (gC g, 28, .inl jf)), (mds, .inl (gC g, 19, .inl df))]) [0, 1, 2, 3, 4, 5, 6, 7, 8, 9] rfl
        have hDc := hD.sub (ws' := [(m0, .inr (8, [.ref mtt, .int tk9, .int sz9, .int pl9, .int (nI (wn st)), .ref mcd, .int (nI (sn st)), .ref mat, .ref msz, .ref mvl, .ref mcs, .ref mmm, .int ra, .int rd, .int nx9, .int dn, .ref mkn, .ref mjp, .ref mds])), (mtt, .inl (gI g, 2000, .inl tf)), (mcd, .inl (gI g, 600, .inl cdf)), (mat, .inl (gI g, 40, .inl s1)), (msz, .inl (gI g, 40, .inl s2)), (mvl, .inl (gI g, 40, .inl s3)), (mcs, .inl (gI g, 600, .inl csf)), (mkn, .inl (gC g, 32, .inl kf)), (mjp, .inl (gC g, 28, .inl jf)), (mds, .inl (gC g, 19, .inl df))]) [0, 1, 2, 3, 4, 5, 6, 7, 8, 9] (by decide) rfl
        have hFc := va_free (wc := [(m0, .inr (8, [.ref mtt, .int tk9, .int sz9, .int pl9, .int (nI (wn st)), .ref mcd, .int (nI (sn st)), .ref mat, .ref msz, .ref mvl, .ref mcs, .ref mmm, .int ra, .int rd, .int nx9, .int dn, .ref mkn, .ref mjp, .ref mds])), (mtt, .inl (gI g, 2000, .inl tf)), (mcd, .inl (gI g, 600, .inl cdf)), (mat, .inl (gI g, 40, .inl s1)), (msz, .inl (gI g, 40, .inl s2)), (mvl, .inl (gI g, 40, .inl s3)), (mcs, .inl (gI g, 600, .inl csf)), (mkn, .inl (gC g, 32, .inl kf)), (mjp, .inl (gC g, 28, .inl jf)), (mds, .inl (gC g, 19, .inl df))]) hD hS hA [0, 1, 2, 3, 4, 5, 6, 7, 8, 9] rfl
        refine sd_ci (va_runV (As := [.int (nI a), .int (nI cn)]) (rest := []) ⟨hx, hb, hml, hown, hts⟩ (c_Mod_computes l g m0 mtt mcd mat msz mvl mcs mmm mkn mjp mds tk9 sz9 pl9 ra rd nx9 dn kf hRk jf hRj df hRd n tf tx hT st cdf csf s1 s2 s3 hMP hSR hSB a cn hc1 hac htk s.heap.size) (cwV 2 hts (sd_gV k_616 k_618 k_18 k_30 k_619) rfl rfl rfl (by decide +kernel) ⟨Nat.le_of_ble_eq_true rfl, Nat.le_of_ble_eq_true rfl⟩) (sd_preVU hK hE hS hA0 hs0 hPc hDc rfl rfl) rfl rfl hl.1 rfl (lv_room (Nat.le_of_ble_eq_true rfl)) d_Mod_instruction_51 ⟨Nat.zero_le _, Nat.zero_le _⟩) hS hFc (fun r4 u H1 locs hw hP1 hD1 hk1 hS => ?_)
        obtain ⟨st1, c1, y1, t1, t2, t3⟩ := u
        obtain ⟨hP, hD⟩ := va_join (wr := []) (w1 := [(m0, .inr (8, [.ref mtt, .int tk9, .int sz9, .int pl9, .int (nI (wn st1)), .ref mcd, .int (nI (sn st1)), .ref mat, .ref msz, .ref mvl, .ref mcs, .ref mmm, .int ra, .int rd, .int nx9, .int dn, .ref mkn, .ref mjp, .ref mds])), (mtt, .inl (gI g, 2000, .inl tf)), (mcd, .inl (gI g, 600, .inl c1)), (mat, .inl (gI g, 40, .inl t1)), (msz, .inl (gI g, 40, .inl t2)), (mvl, .inl (gI g, 40, .inl t3)), (mcs, .inl (gI g, 600, .inl y1)), (mkn, .inl (gC g, 32, .inl kf)), (mjp, .inl (gC g, 28, .inl jf)), (mds, .inl (gC g, 19, .inl df))]) hP hD [0, 1, 2, 3, 4, 5, 6, 7, 8, 9] [] rfl rfl (by decide) (by decide) hk1 hFc hP1 hD1
        clear hPc hDc hFc hk1 hP1 hD1
        generalize H1 = H at hP hS ⊢
        have hP : sdP g [(m0, .inr (8, [.ref mtt, .int tk9, .int sz9, .int pl9, .int (nI (wn st1)), .ref mcd, .int (nI (sn st1)), .ref mat, .ref msz, .ref mvl, .ref mcs, .ref mmm, .int ra, .int rd, .int nx9, .int dn, .ref mkn, .ref mjp, .ref mds])), (mtt, .inl (gI g, 2000, .inl tf)), (mcd, .inl (gI g, 600, .inl c1)), (mat, .inl (gI g, 40, .inl t1)), (msz, .inl (gI g, 40, .inl t2)), (mvl, .inl (gI g, 40, .inl t3)), (mcs, .inl (gI g, 600, .inl y1)), (mkn, .inl (gC g, 32, .inl kf)), (mjp, .inl (gC g, 28, .inl jf)), (mds, .inl (gC g, 19, .inl df))] H := hP
        have hD : va_D A [(m0, .inr (8, [.ref mtt, .int tk9, .int sz9, .int pl9, .int (nI (wn st1)), .ref mcd, .int (nI (sn st1)), .ref mat, .ref msz, .ref mvl, .ref mcs, .ref mmm, .int ra, .int rd, .int nx9, .int dn, .ref mkn, .ref mjp, .ref mds])), (mtt, .inl (gI g, 2000, .inl tf)), (mcd, .inl (gI g, 600, .inl c1)), (mat, .inl (gI g, 40, .inl t1)), (msz, .inl (gI g, 40, .inl t2)), (mvl, .inl (gI g, 40, .inl t3)), (mcs, .inl (gI g, 600, .inl y1)), (mkn, .inl (gC g, 32, .inl kf)), (mjp, .inl (gC g, 28, .inl jf)), (mds, .inl (gC g, 19, .inl df))] := hD
        obtain ⟨⟨c8, hc8, er4⟩, hMP1, hSR1, hSB1⟩ := hw
        subst er4
        have hP9 := hP.sub (ws' := [(m0, .inr (8, [.ref mtt, .int tk9, .int sz9, .int pl9, .int (nI (wn st1)), .ref mcd, .int (nI (sn st1)), .ref mat, .ref msz, .ref mvl, .ref mcs, .ref mmm, .int ra, .int rd, .int nx9, .int dn, .ref mkn, .ref mjp, .ref mds])), (mtt, .inl (gI g, 2000, .inl tf)), (mcd, .inl (gI g, 600, .inl c1)), (mat, .inl (gI g, 40, .inl t1)), (msz, .inl (gI g, 40, .inl t2)), (mvl, .inl (gI g, 40, .inl t3)), (mcs, .inl (gI g, 600, .inl y1)), (mkn, .inl (gC g, 32, .inl kf)), (mjp, .inl (gC g, 28, .inl jf)), (mds, .inl (gC g, 19, .inl df))]) [0, 1, 2, 3, 4, 5, 6, 7, 8, 9] rfl
        have hD9 := hD.sub (ws' := [(m0, .inr (8, [.ref mtt, .int tk9, .int sz9, .int pl9, .int (nI (wn st1)), .ref mcd, .int (nI (sn st1)), .ref mat, .ref msz, .ref mvl, .ref mcs, .ref mmm, .int ra, .int rd, .int nx9, .int dn, .ref mkn, .ref mjp, .ref mds])), (mtt, .inl (gI g, 2000, .inl tf)), (mcd, .inl (gI g, 600, .inl c1)), (mat, .inl (gI g, 40, .inl t1)), (msz, .inl (gI g, 40, .inl t2)), (mvl, .inl (gI g, 40, .inl t3)), (mcs, .inl (gI g, 600, .inl y1)), (mkn, .inl (gC g, 32, .inl kf)), (mjp, .inl (gC g, 28, .inl jf)), (mds, .inl (gC g, 19, .inl df))]) [0, 1, 2, 3, 4, 5, 6, 7, 8, 9] (by decide) rfl
        exact W.iret (v := (nI c8)) hx hb hr (fun t ht hW => ⟨⟨_, (st1, c1, y1, t1, t2, t3), rfl, ⟨fun h => absurd hh0 h, fun _ => ⟨c8, by rw [spTake, if_neg c3, if_neg c2]; exact hc8, rfl⟩, hMP1, hSR1, hSB1⟩, by rw [ht]; exact hP9, by rw [hAe]; exact hD9⟩, hS.F ht⟩) hS.2.2 d_Mod_instruction_54
      · have c3 := (nI_eq (by omega) (by omega)).mp c3
        refine lv_aload_n hx hb d_Mod_instruction_35 rfl (lv_at hl 0 rfl) ?_
        refine lv_iload_n hx hb d_Mod_instruction_36 rfl (lv_at hl 1 rfl) ?_
        refine lv_iconst (v := (nI 1)) hx hb d_Mod_instruction_37 (by decide) ?_
        refine lv_iadd hx hb d_Mod_instruction_38 ?_
        refine sd_topi (y := nI (a + 1)) (nI_add _ _) ?_
        refine lv_iload_n hx hb d_Mod_instruction_39 rfl (lv_at hl 2 rfl) ?_
        refine lv_iconst (v := (nI 1)) hx hb d_Mod_instruction_40 (by decide) ?_
        refine lv_isub hx hb d_Mod_instruction_41 ?_
        refine sd_topi (y := nI (cn - 1)) (pk_sub (by omega)) ?_
        have hPc := hP.sub (ws' := [(m0, .inr (8, [.ref mtt, .int tk9, .int sz9, .int pl9, .int (nI (wn st)), .ref mcd, .int (nI (sn st)), .ref mat, .ref msz, .ref mvl, .ref mcs, .ref mmm, .int ra, .int rd, .int nx9, .int dn, .ref mkn, .ref mjp, .ref mds])), (mtt, .inl (gI g, 2000, .inl tf)), (mcd, .inl (gI g, 600, .inl cdf)), (mat, .inl (gI g, 40, .inl s1)), (msz, .inl (gI g, 40, .inl s2)), (mvl, .inl (gI g, 40, .inl s3)), (mcs, .inl (gI g, 600, .inl csf)), (mkn, .inl (gC g, 32, .inl kf))]) [0, 1, 2, 3, 4, 5, 6, 7] rfl
        have hDc := hD.sub (ws' := [(m0, .inr (8, [.ref mtt, .int tk9, .int sz9, .int pl9, .int (nI (wn st)), .ref mcd, .int (nI (sn st)), .ref mat, .ref msz, .ref mvl, .ref mcs, .ref mmm, .int ra, .int rd, .int nx9, .int dn, .ref mkn, .ref mjp, .ref mds])), (mtt, .inl (gI g, 2000, .inl tf)), (mcd, .inl (gI g, 600, .inl cdf)), (mat, .inl (gI g, 40, .inl s1)), (msz, .inl (gI g, 40, .inl s2)), (mvl, .inl (gI g, 40, .inl s3)), (mcs, .inl (gI g, 600, .inl csf)), (mkn, .inl (gC g, 32, .inl kf))]) [0, 1, 2, 3, 4, 5, 6, 7] (by decide) rfl
        have hFc := va_free (wc := [(m0, .inr (8, [.ref mtt, .int tk9, .int sz9, .int pl9, .int (nI (wn st)), .ref mcd, .int (nI (sn st)), .ref mat, .ref msz, .ref mvl, .ref mcs, .ref mmm, .int ra, .int rd, .int nx9, .int dn, .ref mkn, .ref mjp, .ref mds])), (mtt, .inl (gI g, 2000, .inl tf)), (mcd, .inl (gI g, 600, .inl cdf)), (mat, .inl (gI g, 40, .inl s1)), (msz, .inl (gI g, 40, .inl s2)), (mvl, .inl (gI g, 40, .inl s3)), (mcs, .inl (gI g, 600, .inl csf)), (mkn, .inl (gC g, 32, .inl kf))]) hD hS hA [0, 1, 2, 3, 4, 5, 6, 7] rfl
        refine sd_ci (va_runV (As := [.int (nI (a + 1)), .int (nI (cn - 1))]) (rest := []) ⟨hx, hb, hml, hown, hts⟩ (c_Mod_address l g m0 mtt mcd mat msz mvl mcs mmm mkn mjp mds tk9 sz9 pl9 ra rd nx9 dn kf hRk n tf tx hT st cdf csf s1 s2 s3 hMP hSR hSB (a + 1) (cn - 1) (by omega) (fun j h5 h6 => htk j (by omega) (by omega)) s.heap.size) (cwV 2 hts (sd_gV k_612 k_614 k_17 k_30 k_615) rfl rfl rfl (by decide +kernel) ⟨Nat.le_of_ble_eq_true rfl, Nat.le_of_ble_eq_true rfl⟩) (sd_preVU hK hE hS hA0 hs0 hPc hDc rfl rfl) rfl rfl hl.1 rfl (lv_room (Nat.le_of_ble_eq_true rfl)) d_Mod_instruction_42 ⟨Nat.zero_le _, Nat.zero_le _⟩) hS hFc (fun r5 u H1 locs hw hP1 hD1 hk1 hS => ?_)
        obtain ⟨st1, c1, y1, t1, t2, t3⟩ := u
        obtain ⟨hP, hD⟩ := va_join (wr := [(mjp, .inl (gC g, 28, .inl jf)), (mds, .inl (gC g, 19, .inl df))]) (w1 := [(m0, .inr (8, [.ref mtt, .int tk9, .int sz9, .int pl9, .int (nI (wn st1)), .ref mcd, .int (nI (sn st1)), .ref mat, .ref msz, .ref mvl, .ref mcs, .ref mmm, .int ra, .int rd, .int nx9, .int dn, .ref mkn, .ref mjp, .ref mds])), (mtt, .inl (gI g, 2000, .inl tf)), (mcd, .inl (gI g, 600, .inl c1)), (mat, .inl (gI g, 40, .inl t1)), (msz, .inl (gI g, 40, .inl t2)), (mvl, .inl (gI g, 40, .inl t3)), (mcs, .inl (gI g, 600, .inl y1)), (mkn, .inl (gC g, 32, .inl kf))]) hP hD [0, 1, 2, 3, 4, 5, 6, 7] [8, 9] rfl rfl (by decide) (by decide) hk1 hFc hP1 hD1
        clear hPc hDc hFc hk1 hP1 hD1
        generalize H1 = H at hP hS ⊢
        have hP : sdP g [(mjp, .inl (gC g, 28, .inl jf)), (mds, .inl (gC g, 19, .inl df)), (m0, .inr (8, [.ref mtt, .int tk9, .int sz9, .int pl9, .int (nI (wn st1)), .ref mcd, .int (nI (sn st1)), .ref mat, .ref msz, .ref mvl, .ref mcs, .ref mmm, .int ra, .int rd, .int nx9, .int dn, .ref mkn, .ref mjp, .ref mds])), (mtt, .inl (gI g, 2000, .inl tf)), (mcd, .inl (gI g, 600, .inl c1)), (mat, .inl (gI g, 40, .inl t1)), (msz, .inl (gI g, 40, .inl t2)), (mvl, .inl (gI g, 40, .inl t3)), (mcs, .inl (gI g, 600, .inl y1)), (mkn, .inl (gC g, 32, .inl kf))] H := hP
        have hD : va_D A [(mjp, .inl (gC g, 28, .inl jf)), (mds, .inl (gC g, 19, .inl df)), (m0, .inr (8, [.ref mtt, .int tk9, .int sz9, .int pl9, .int (nI (wn st1)), .ref mcd, .int (nI (sn st1)), .ref mat, .ref msz, .ref mvl, .ref mcs, .ref mmm, .int ra, .int rd, .int nx9, .int dn, .ref mkn, .ref mjp, .ref mds])), (mtt, .inl (gI g, 2000, .inl tf)), (mcd, .inl (gI g, 600, .inl c1)), (mat, .inl (gI g, 40, .inl t1)), (msz, .inl (gI g, 40, .inl t2)), (mvl, .inl (gI g, 40, .inl t3)), (mcs, .inl (gI g, 600, .inl y1)), (mkn, .inl (gC g, 32, .inl kf))] := hD
        obtain ⟨⟨c8, hc8, er5⟩, hMP1, hSR1, hSB1⟩ := hw
        subst er5
        refine lv_goto (tgt := 54) hx hb d_Mod_instruction_45 (by decide) ?_
        have hP9 := hP.sub (ws' := [(m0, .inr (8, [.ref mtt, .int tk9, .int sz9, .int pl9, .int (nI (wn st1)), .ref mcd, .int (nI (sn st1)), .ref mat, .ref msz, .ref mvl, .ref mcs, .ref mmm, .int ra, .int rd, .int nx9, .int dn, .ref mkn, .ref mjp, .ref mds])), (mtt, .inl (gI g, 2000, .inl tf)), (mcd, .inl (gI g, 600, .inl c1)), (mat, .inl (gI g, 40, .inl t1)), (msz, .inl (gI g, 40, .inl t2)), (mvl, .inl (gI g, 40, .inl t3)), (mcs, .inl (gI g, 600, .inl y1)), (mkn, .inl (gC g, 32, .inl kf)), (mjp, .inl (gC g, 28, .inl jf)), (mds, .inl (gC g, 19, .inl df))]) [2, 3, 4, 5, 6, 7, 8, 9, 0, 1] rfl
        have hD9 := hD.sub (ws' := [(m0, .inr (8, [.ref mtt, .int tk9, .int sz9, .int pl9, .int (nI (wn st1)), .ref mcd, .int (nI (sn st1)), .ref mat, .ref msz, .ref mvl, .ref mcs, .ref mmm, .int ra, .int rd, .int nx9, .int dn, .ref mkn, .ref mjp, .ref mds])), (mtt, .inl (gI g, 2000, .inl tf)), (mcd, .inl (gI g, 600, .inl c1)), (mat, .inl (gI g, 40, .inl t1)), (msz, .inl (gI g, 40, .inl t2)), (mvl, .inl (gI g, 40, .inl t3)), (mcs, .inl (gI g, 600, .inl y1)), (mkn, .inl (gC g, 32, .inl kf)), (mjp, .inl (gC g, 28, .inl jf)), (mds, .inl (gC g, 19, .inl df))]) [2, 3, 4, 5, 6, 7, 8, 9, 0, 1] (by decide) rfl
        exact W.iret (v := (nI c8)) hx hb hr (fun t ht hW => ⟨⟨_, (st1, c1, y1, t1, t2, t3), rfl, ⟨fun h => absurd hh0 h, fun _ => ⟨c8, by rw [spTake, if_pos c3]; rw [show a + 1 + (cn - 1) = a + cn by omega] at hc8; exact hc8, rfl⟩, hMP1, hSR1, hSB1⟩, by rw [ht]; exact hP9, by rw [hAe]; exact hD9⟩, hS.F ht⟩) hS.2.2 d_Mod_instruction_54
    · have c2 := (nI_eq (by omega) (by omega)).mp c2
      refine lv_aload_n hx hb d_Mod_instruction_17 rfl (lv_at hl 0 rfl) ?_
      refine lv_iload_n hx hb d_Mod_instruction_18 rfl (lv_at hl 1 rfl) ?_
      refine lv_iload_n hx hb d_Mod_instruction_19 rfl (lv_at hl 2 rfl) ?_
      have hPc := hP.sub (ws' := [(m0, .inr (8, [.ref mtt, .int tk9, .int sz9, .int pl9, .int (nI (wn st)), .ref mcd, .int (nI (sn st)), .ref mat, .ref msz, .ref mvl, .ref mcs, .ref mmm, .int ra, .int rd, .int nx9, .int dn, .ref mkn, .ref mjp, .ref mds])), (mtt, .inl (gI g, 2000, .inl tf)), (mcd, .inl (gI g, 600, .inl cdf)), (mat, .inl (gI g, 40, .inl s1)), (msz, .inl (gI g, 40, .inl s2)), (mvl, .inl (gI g, 40, .inl s3)), (mcs, .inl (gI g, 600, .inl csf)), (mkn, .inl (gC g, 32, .inl kf))]) [0, 1, 2, 3, 4, 5, 6, 7] rfl
      have hDc := hD.sub (ws' := [(m0, .inr (8, [.ref mtt, .int tk9, .int sz9, .int pl9, .int (nI (wn st)), .ref mcd, .int (nI (sn st)), .ref mat, .ref msz, .ref mvl, .ref mcs, .ref mmm, .int ra, .int rd, .int nx9, .int dn, .ref mkn, .ref mjp, .ref mds])), (mtt, .inl (gI g, 2000, .inl tf)), (mcd, .inl (gI g, 600, .inl cdf)), (mat, .inl (gI g, 40, .inl s1)), (msz, .inl (gI g, 40, .inl s2)), (mvl, .inl (gI g, 40, .inl s3)), (mcs, .inl (gI g, 600, .inl csf)), (mkn, .inl (gC g, 32, .inl kf))]) [0, 1, 2, 3, 4, 5, 6, 7] (by decide) rfl
      have hFc := va_free (wc := [(m0, .inr (8, [.ref mtt, .int tk9, .int sz9, .int pl9, .int (nI (wn st)), .ref mcd, .int (nI (sn st)), .ref mat, .ref msz, .ref mvl, .ref mcs, .ref mmm, .int ra, .int rd, .int nx9, .int dn, .ref mkn, .ref mjp, .ref mds])), (mtt, .inl (gI g, 2000, .inl tf)), (mcd, .inl (gI g, 600, .inl cdf)), (mat, .inl (gI g, 40, .inl s1)), (msz, .inl (gI g, 40, .inl s2)), (mvl, .inl (gI g, 40, .inl s3)), (mcs, .inl (gI g, 600, .inl csf)), (mkn, .inl (gC g, 32, .inl kf))]) hD hS hA [0, 1, 2, 3, 4, 5, 6, 7] rfl
      refine sd_ci (va_runV (As := [.int (nI a), .int (nI cn)]) (rest := []) ⟨hx, hb, hml, hown, hts⟩ (c_Mod_label l g m0 mtt mcd mat msz mvl mcs mmm mkn mjp mds tk9 sz9 pl9 ra rd nx9 dn kf hRk n tf tx hT st cdf csf s1 s2 s3 hMP hSR hSB a cn hc1 hac htk s.heap.size) (cwV 2 hts (sd_gV k_580 k_582 k_12 k_30 k_583) rfl rfl rfl (by decide +kernel) ⟨Nat.le_of_ble_eq_true rfl, Nat.le_of_ble_eq_true rfl⟩) (sd_preVU hK hE hS hA0 hs0 hPc hDc rfl rfl) rfl rfl hl.1 rfl (lv_room (Nat.le_of_ble_eq_true rfl)) d_Mod_instruction_20 ⟨Nat.zero_le _, Nat.zero_le _⟩) hS hFc (fun r6 u H1 locs hw hP1 hD1 hk1 hS => ?_)
      obtain ⟨st1, c1, y1, t1, t2, t3⟩ := u
      obtain ⟨hP, hD⟩ := va_join (wr := [(mjp, .inl (gC g, 28, .inl jf)), (mds, .inl (gC g, 19, .inl df))]) (w1 := [(m0, .inr (8, [.ref mtt, .int tk9, .int sz9, .int pl9, .int (nI (wn st1)), .ref mcd, .int (nI (sn st1)), .ref mat, .ref msz, .ref mvl, .ref mcs, .ref mmm, .int ra, .int rd, .int nx9, .int dn, .ref mkn, .ref mjp, .ref mds])), (mtt, .inl (gI g, 2000, .inl tf)), (mcd, .inl (gI g, 600, .inl c1)), (mat, .inl (gI g, 40, .inl t1)), (msz, .inl (gI g, 40, .inl t2)), (mvl, .inl (gI g, 40, .inl t3)), (mcs, .inl (gI g, 600, .inl y1)), (mkn, .inl (gC g, 32, .inl kf))]) hP hD [0, 1, 2, 3, 4, 5, 6, 7] [8, 9] rfl rfl (by decide) (by decide) hk1 hFc hP1 hD1
      clear hPc hDc hFc hk1 hP1 hD1
      generalize H1 = H at hP hS ⊢
      have hP : sdP g [(mjp, .inl (gC g, 28, .inl jf)), (mds, .inl (gC g, 19, .inl df)), (m0, .inr (8, [.ref mtt, .int tk9, .int sz9, .int pl9, .int (nI (wn st1)), .ref mcd, .int (nI (sn st1)), .ref mat, .ref msz, .ref mvl, .ref mcs, .ref mmm, .int ra, .int rd, .int nx9, .int dn, .ref mkn, .ref mjp, .ref mds])), (mtt, .inl (gI g, 2000, .inl tf)), (mcd, .inl (gI g, 600, .inl c1)), (mat, .inl (gI g, 40, .inl t1)), (msz, .inl (gI g, 40, .inl t2)), (mvl, .inl (gI g, 40, .inl t3)), (mcs, .inl (gI g, 600, .inl y1)), (mkn, .inl (gC g, 32, .inl kf))] H := hP
      have hD : va_D A [(mjp, .inl (gC g, 28, .inl jf)), (mds, .inl (gC g, 19, .inl df)), (m0, .inr (8, [.ref mtt, .int tk9, .int sz9, .int pl9, .int (nI (wn st1)), .ref mcd, .int (nI (sn st1)), .ref mat, .ref msz, .ref mvl, .ref mcs, .ref mmm, .int ra, .int rd, .int nx9, .int dn, .ref mkn, .ref mjp, .ref mds])), (mtt, .inl (gI g, 2000, .inl tf)), (mcd, .inl (gI g, 600, .inl c1)), (mat, .inl (gI g, 40, .inl t1)), (msz, .inl (gI g, 40, .inl t2)), (mvl, .inl (gI g, 40, .inl t3)), (mcs, .inl (gI g, 600, .inl y1)), (mkn, .inl (gC g, 32, .inl kf))] := hD
      obtain ⟨⟨c8, hc8, er6⟩, hMP1, hSR1, hSB1⟩ := hw
      subst er6
      have hP9 := hP.sub (ws' := [(m0, .inr (8, [.ref mtt, .int tk9, .int sz9, .int pl9, .int (nI (wn st1)), .ref mcd, .int (nI (sn st1)), .ref mat, .ref msz, .ref mvl, .ref mcs, .ref mmm, .int ra, .int rd, .int nx9, .int dn, .ref mkn, .ref mjp, .ref mds])), (mtt, .inl (gI g, 2000, .inl tf)), (mcd, .inl (gI g, 600, .inl c1)), (mat, .inl (gI g, 40, .inl t1)), (msz, .inl (gI g, 40, .inl t2)), (mvl, .inl (gI g, 40, .inl t3)), (mcs, .inl (gI g, 600, .inl y1)), (mkn, .inl (gC g, 32, .inl kf)), (mjp, .inl (gC g, 28, .inl jf)), (mds, .inl (gC g, 19, .inl df))]) [2, 3, 4, 5, 6, 7, 8, 9, 0, 1] rfl
      have hD9 := hD.sub (ws' := [(m0, .inr (8, [.ref mtt, .int tk9, .int sz9, .int pl9, .int (nI (wn st1)), .ref mcd, .int (nI (sn st1)), .ref mat, .ref msz, .ref mvl, .ref mcs, .ref mmm, .int ra, .int rd, .int nx9, .int dn, .ref mkn, .ref mjp, .ref mds])), (mtt, .inl (gI g, 2000, .inl tf)), (mcd, .inl (gI g, 600, .inl c1)), (mat, .inl (gI g, 40, .inl t1)), (msz, .inl (gI g, 40, .inl t2)), (mvl, .inl (gI g, 40, .inl t3)), (mcs, .inl (gI g, 600, .inl y1)), (mkn, .inl (gC g, 32, .inl kf)), (mjp, .inl (gC g, 28, .inl jf)), (mds, .inl (gC g, 19, .inl df))]) [2, 3, 4, 5, 6, 7, 8, 9, 0, 1] (by decide) rfl
      exact W.iret (v := (nI c8)) hx hb hr (fun t ht hW => ⟨⟨_, (st1, c1, y1, t1, t2, t3), rfl, ⟨fun h => absurd hh0 h, fun _ => ⟨c8, by rw [spTake, if_neg (by omega), if_pos c2]; exact hc8, rfl⟩, hMP1, hSR1, hSB1⟩, by rw [ht]; exact hP9, by rw [hAe]; exact hD9⟩, hS.F ht⟩) hS.2.2 d_Mod_instruction_23
  · have c1 := mt (nI_eq (b := 0) (by omega) (by omega)).mpr c1
    refine lv_iconst (v := (nI 1)) hx hb d_Mod_instruction_4 (by decide) ?_
    have hP9 := hP.sub (ws' := [(m0, .inr (8, [.ref mtt, .int tk9, .int sz9, .int pl9, .int (nI (wn st)), .ref mcd, .int (nI (sn st)), .ref mat, .ref msz, .ref mvl, .ref mcs, .ref mmm, .int ra, .int rd, .int nx9, .int dn, .ref mkn, .ref mjp, .ref mds])), (mtt, .inl (gI g, 2000, .inl tf)), (mcd, .inl (gI g, 600, .inl cdf)), (mat, .inl (gI g, 40, .inl s1)), (msz, .inl (gI g, 40, .inl s2)), (mvl, .inl (gI g, 40, .inl s3)), (mcs, .inl (gI g, 600, .inl csf)), (mkn, .inl (gC g, 32, .inl kf)), (mjp, .inl (gC g, 28, .inl jf)), (mds, .inl (gC g, 19, .inl df))]) [0, 1, 2, 3, 4, 5, 6, 7, 8, 9] rfl
    have hD9 := hD.sub (ws' := [(m0, .inr (8, [.ref mtt, .int tk9, .int sz9, .int pl9, .int (nI (wn st)), .ref mcd, .int (nI (sn st)), .ref mat, .ref msz, .ref mvl, .ref mcs, .ref mmm, .int ra, .int rd, .int nx9, .int dn, .ref mkn, .ref mjp, .ref mds])), (mtt, .inl (gI g, 2000, .inl tf)), (mcd, .inl (gI g, 600, .inl cdf)), (mat, .inl (gI g, 40, .inl s1)), (msz, .inl (gI g, 40, .inl s2)), (mvl, .inl (gI g, 40, .inl s3)), (mcs, .inl (gI g, 600, .inl csf)), (mkn, .inl (gC g, 32, .inl kf)), (mjp, .inl (gC g, 28, .inl jf)), (mds, .inl (gC g, 19, .inl df))]) [0, 1, 2, 3, 4, 5, 6, 7, 8, 9] (by decide) rfl
    exact W.iret (v := (nI 1)) hx hb hr (fun t ht hW => ⟨⟨_, (st, cdf, csf, s1, s2, s3), rfl, ⟨fun _ => ⟨rfl, rfl⟩, fun h => absurd h c1, hMP, hSR, hSB⟩, by rw [ht]; exact hP9, by rw [hAe]; exact hD9⟩, hS.F ht⟩) hS.2.2 d_Mod_instruction_5
theorem sv_F {st : AS} {t : Nat} (h : ¬ sv st t = 0) : nI (sv st t) - 1 = nI (sF st t) := by rw [m1_up h, sF, if_neg h]
theorem MPR_E0 (a b : Nat → Int32) : MPR E0 a b := ⟨Nat.zero_le _, fun _ h => absurd h (Nat.not_lt_zero _)⟩
theorem SB_E0 (n : Nat) : SB n E0 := fun _ h => absurd h (Nat.not_lt_zero _)
set_option maxHeartbeats 4000000 in
set_option maxRecDepth 100000 in
/-- read() -/
theorem c_Mod_read (l : Launch) (g : sdG) (m0 mtt mcd mat msz mvl mcs mmm mkn mjp mds : Nat) (sz9 pl9 wd9 sy9 ra rd nx9 dn : Int32) (kf : Nat → Int32) (hRk : rowOK 32 kf (sd_k7.map Prod.fst)) (jf : Nat → Int32) (hRj : rowOK 28 jf (sd_jump.map Prod.fst)) (df : Nat → Int32) (hRd : rowOK 19 df (sd_dest.map Prod.fst)) (n : Nat) (tf : Nat → Int32) (tx : Nat → Nat) (hT : MTok n tf tx) (cdf csf s1 s2 s3 M : Nat → Int32) (sz : Nat) : Met l y_Mod_read (.code y_Mod_read b_Mod_read 6 (some .int) :: sdT) ({ frames := 6, cells := 0, slots := 0, locals := 132 }) (va_Pc [.ref m0] (sdU g [(m0, .inr (8, [.ref mtt, .int (nI n), .int sz9, .int pl9, .int wd9, .ref mcd, .int sy9, .ref mat, .ref msz, .ref mvl, .ref mcs, .ref mmm, .int ra, .int rd, .int nx9, .int dn, .ref mkn, .ref mjp, .ref mds])), (mtt, .inl (gI g, 2000, .inl tf)), (mcd, .inl (gI g, 600, .inl cdf)), (mat, .inl (gI g, 40, .inl s1)), (msz, .inl (gI g, 40, .inl s2)), (mvl, .inl (gI g, 40, .inl s3)), (mcs, .inl (gI g, 600, .inl csf)), (mkn, .inl (gC g, 32, .inl kf)), (mjp, .inl (gC g, 28, .inl jf)), (mds, .inl (gC g, 19, .inl df)), (mmm, .inl (gI g, 32768, .inl M))] sz)) (va_Qi (S := Nat × (Nat → Int32) × Int32 × Nat × (Nat → Int32) × (Nat → Int32) × (Nat → Int32) × (Nat → Int32) × (Nat → Int32)) (fun r u => r = nI (asm tx n (n + 1) 0 0 E0).1 ∧ ((asm tx n (n + 1) 0 0 E0).1 = 0 → u.2.2.1 = -1 ∧ u.1 = wn (asm tx n (n + 1) 0 0 E0).2.2 ∧ u.2.2.2.1 = sn (asm tx n (n + 1) 0 0 E0).2.2 ∧ ∀ j, j < wn (asm tx n (n + 1) 0 0 E0).2.2 → u.2.1 j = nI (fin (asm tx n (n + 1) 0 0 E0).2.2 j)) ∧ (¬ (asm tx n (n + 1) 0 0 E0).1 = 0 → u.2.2.1 = nI (asm tx n (n + 1) 0 0 E0).2.1 ∧ u.1 = 0 ∧ u.2.2.2.1 = 0) ∧ ∀ j, j < 32768 → u.2.2.2.2.2.2.2.2 j = 0) (fun u t => sdB g [(m0, .inr (8, [.ref mtt, .int (nI n), .int sz9, .int pl9, .int wd9, .ref mcd, .int sy9, .ref mat, .ref msz, .ref mvl, .ref mcs, .ref mmm, .int ra, .int rd, .int nx9, .int dn, .ref mkn, .ref mjp, .ref mds])), (mtt, .inl (gI g, 2000, .inl tf)), (mcd, .inl (gI g, 600, .inl cdf)), (mat, .inl (gI g, 40, .inl s1)), (msz, .inl (gI g, 40, .inl s2)), (mvl, .inl (gI g, 40, .inl s3)), (mcs, .inl (gI g, 600, .inl csf)), (mkn, .inl (gC g, 32, .inl kf)), (mjp, .inl (gC g, 28, .inl jf)), (mds, .inl (gC g, 19, .inl df)), (mmm, .inl (gI g, 32768, .inl M))] sz ((fun u => [(m0, .inr (8, [.ref mtt, .int (nI 0), .int (nI n), .int u.2.2.1, .int (nI u.1), .ref mcd, .int (nI u.2.2.2.1), .ref mat, .ref msz, .ref mvl, .ref mcs, .ref mmm, .int (nI 0), .int (nI 0), .int (nI 0), .int (nI 0), .ref mkn, .ref mjp, .ref mds])), (mtt, .inl (gI g, 2000, .inl tf)), (mcd, .inl (gI g, 600, .inl u.2.1)), (mat, .inl (gI g, 40, .inl u.2.2.2.2.2.1)), (msz, .inl (gI g, 40, .inl u.2.2.2.2.2.2.1)), (mvl, .inl (gI g, 40, .inl u.2.2.2.2.2.2.2.1)), (mcs, .inl (gI g, 600, .inl u.2.2.2.2.1)), (mkn, .inl (gC g, 32, .inl kf)), (mjp, .inl (gC g, 28, .inl jf)), (mds, .inl (gC g, 19, .inl df)), (mmm, .inl (gI g, 32768, .inl u.2.2.2.2.2.2.2.2))] : Nat × (Nat → Int32) × Int32 × Nat × (Nat → Int32) × (Nat → Int32) × (Nat → Int32) × (Nat → Int32) × (Nat → Int32) → va_W) u) t) (va_A [(m0, .inr (8, [.ref mtt, .int (nI n), .int sz9, .int pl9, .int wd9, .ref mcd, .int sy9, .ref mat, .ref msz, .ref mvl, .ref mcs, .ref mmm, .int ra, .int rd, .int nx9, .int dn, .ref mkn, .ref mjp, .ref mds])), (mtt, .inl (gI g, 2000, .inl tf)), (mcd, .inl (gI g, 600, .inl cdf)), (mat, .inl (gI g, 40, .inl s1)), (msz, .inl (gI g, 40, .inl s2)), (mvl, .inl (gI g, 40, .inl s3)), (mcs, .inl (gI g, 600, .inl csf)), (mkn, .inl (gC g, 32, .inl kf)), (mjp, .inl (gC g, 28, .inl jf)), (mds, .inl (gC g, 19, .inl df)), (mmm, .inl (gI g, 32768, .inl M))] sz)) 0 0 (va_A [(m0, .inr (8, [.ref mtt, .int (nI n), .int sz9, .int pl9, .int wd9, .ref mcd, .int sy9, .ref mat, .ref msz, .ref mvl, .ref mcs, .ref mmm, .int ra, .int rd, .int nx9, .int dn, .ref mkn, .ref mjp, .ref mds])), (mtt, .inl (gI g, 2000, .inl tf)), (mcd, .inl (gI g, 600, .inl cdf)), (mat, .inl (gI g, 40, .inl s1)), (msz, .inl (gI g, 40, .inl s2)), (mvl, .inl (gI g, 40, .inl s3)), (mcs, .inl (gI g, 600, .inl csf)), (mkn, .inl (gC g, 32, .inl kf)), (mjp, .inl (gC g, 28, .inl jf)), (mds, .inl (gC g, 19, .inl df)), (mmm, .inl (gI g, 32768, .inl M))] sz) := by
  refine Met.ofW (cc := b_Mod_read) (maxL := 6) (ret := (some .int)) (by decide) rfl ?_
  intro p ev s m args below meth c s₁ B hml hv
  obtain ⟨rfl, hsz, hP, hK, hE, hD0, hs0⟩ := hv
  have hx := B.exec
  have hb := B.bytes
  have hr := B.returns
  have hts := fun (w : Cond) (h : w ∈ sdT) => atoms_spec (ws := (.code y_Mod_read b_Mod_read 6 (some .int) :: sdT)) B.pre w (List.mem_cons_of_mem _ h)
  have hown : s.vm.findClass "SignDeskModel" = some m.cls := findClass_of_methodNamed B.named
  have hlocks := B.notSynchronized
  subst hsz
  have hD := hD0.self (sz := s.heap.size)
  have hA0 : ∀ q : Nat, va_A [(m0, .inr (8, [.ref mtt, .int (nI n), .int sz9, .int pl9, .int wd9, .ref mcd, .int sy9, .ref mat, .ref msz, .ref mvl, .ref mcs, .ref mmm, .int ra, .int rd, .int nx9, .int dn, .ref mkn, .ref mjp, .ref mds])), (mtt, .inl (gI g, 2000, .inl tf)), (mcd, .inl (gI g, 600, .inl cdf)), (mat, .inl (gI g, 40, .inl s1)), (msz, .inl (gI g, 40, .inl s2)), (mvl, .inl (gI g, 40, .inl s3)), (mcs, .inl (gI g, 600, .inl csf)), (mkn, .inl (gC g, 32, .inl kf)), (mjp, .inl (gC g, 28, .inl jf)), (mds, .inl (gC g, 19, .inl df)), (mmm, .inl (gI g, 32768, .inl M))] s.heap.size q → gS g ≤ q := fun q h => h.elim (fun ⟨k, e, hk⟩ => hD0.2 k _ hk) (fun h => Nat.le_trans hs0 h)
  have hA : ∀ q : Nat, s.heap.size ≤ q → va_A [(m0, .inr (8, [.ref mtt, .int (nI n), .int sz9, .int pl9, .int wd9, .ref mcd, .int sy9, .ref mat, .ref msz, .ref mvl, .ref mcs, .ref mmm, .int ra, .int rd, .int nx9, .int dn, .ref mkn, .ref mjp, .ref mds])), (mtt, .inl (gI g, 2000, .inl tf)), (mcd, .inl (gI g, 600, .inl cdf)), (mat, .inl (gI g, 40, .inl s1)), (msz, .inl (gI g, 40, .inl s2)), (mvl, .inl (gI g, 40, .inl s3)), (mcs, .inl (gI g, 600, .inl csf)), (mkn, .inl (gC g, 32, .inl kf)), (mjp, .inl (gC g, 28, .inl jf)), (mds, .inl (gC g, 19, .inl df)), (mmm, .inl (gI g, 32768, .inl M))] s.heap.size q := fun q h => Or.inr h
  generalize hAe : va_A [(m0, .inr (8, [.ref mtt, .int (nI n), .int sz9, .int pl9, .int wd9, .ref mcd, .int sy9, .ref mat, .ref msz, .ref mvl, .ref mcs, .ref mmm, .int ra, .int rd, .int nx9, .int dn, .ref mkn, .ref mjp, .ref mds])), (mtt, .inl (gI g, 2000, .inl tf)), (mcd, .inl (gI g, 600, .inl cdf)), (mat, .inl (gI g, 40, .inl s1)), (msz, .inl (gI g, 40, .inl s2)), (mvl, .inl (gI g, 40, .inl s3)), (mcs, .inl (gI g, 600, .inl csf)), (mkn, .inl (gC g, 32, .inl kf)), (mjp, .inl (gC g, 28, .inl jf)), (mds, .inl (gC g, 19, .inl df)), (mmm, .inl (gI g, 32768, .inl M))] s.heap.size = A at hD hA0 hA ⊢
  have hS : va_S A s.heap s.heap [] := va_S.rf
  have hP : sdP g [(m0, .inr (8, [.ref mtt, .int (nI n), .int sz9, .int pl9, .int wd9, .ref mcd, .int sy9, .ref mat, .ref msz, .ref mvl, .ref mcs, .ref mmm, .int ra, .int rd, .int nx9, .int dn, .ref mkn, .ref mjp, .ref mds])), (mtt, .inl (gI g, 2000, .inl tf)), (mcd, .inl (gI g, 600, .inl cdf)), (mat, .inl (gI g, 40, .inl s1)), (msz, .inl (gI g, 40, .inl s2)), (mvl, .inl (gI g, 40, .inl s3)), (mcs, .inl (gI g, 600, .inl csf)), (mkn, .inl (gC g, 32, .inl kf)), (mjp, .inl (gC g, 28, .inl jf)), (mds, .inl (gC g, 19, .inl df)), (mmm, .inl (gI g, 32768, .inl M))] s.heap := hP
  have hl := lv_entry ([.ref m0]) (n := 6) (Nat.le_of_ble_eq_true rfl)
  rw [lg_entry_eq]
  generalize (lg_sl ([.ref m0]) ++ List.replicate (6 - (lg_sl ([.ref m0])).length) Slot.unset).toArray = ls at hl ⊢
  have hl : lv_has ls 6 [(0, .ref m0)] := hl
  have hn := hT.1
  have hb8 := hT.2.1
  refine lv_aload_n hx hb d_Mod_read_0 rfl (lv_at hl 0 rfl) ?_
  refine lv_aload_n hx hb d_Mod_read_1 rfl (lv_at hl 0 rfl) ?_
  refine va_get (D := g.1) (ci := 8) (v := .int (nI n)) (C := "SignDeskModel") (T := F_Mod) (N := 19) hx hb hts in_Mod hown hK hP 0 rfl rfl 1 (by decide) (hts _ k_495) (fun _ h9 => h9) rfl d_Mod_read_2 ?_
  refine va_put (D := g.1) (ci := 8) (v := .int (nI n)) (ty := .int) (C := "SignDeskModel") (T := F_Mod) (N := 19) hx hb hts in_Mod t_Mod t_Mod_ok n_Mod hown hK hP hD hS 0 rfl rfl 2 (by decide) (hts _ k_496) (fun _ h9 => h9) rfl (by decide +kernel) rfl rfl (Nat.le_of_ble_eq_true rfl) d_Mod_read_5 (fun H locs hP hD hS => ?_)
  have hP : sdP g [(m0, .inr (8, [.ref mtt, .int (nI n), .int (nI n), .int pl9, .int wd9, .ref mcd, .int sy9, .ref mat, .ref msz, .ref mvl, .ref mcs, .ref mmm, .int ra, .int rd, .int nx9, .int dn, .ref mkn, .ref mjp, .ref mds])), (mtt, .inl (gI g, 2000, .inl tf)), (mcd, .inl (gI g, 600, .inl cdf)), (mat, .inl (gI g, 40, .inl s1)), (msz, .inl (gI g, 40, .inl s2)), (mvl, .inl (gI g, 40, .inl s3)), (mcs, .inl (gI g, 600, .inl csf)), (mkn, .inl (gC g, 32, .inl kf)), (mjp, .inl (gC g, 28, .inl jf)), (mds, .inl (gC g, 19, .inl df)), (mmm, .inl (gI g, 32768, .inl M))] H := hP
  have hD : va_D A [(m0, .inr (8, [.ref mtt, .int (nI n), .int (nI n), .int pl9, .int wd9, .ref mcd, .int sy9, .ref mat, .ref msz, .ref mvl, .ref mcs, .ref mmm, .int ra, .int rd, .int nx9, .int dn, .ref mkn, .ref mjp, .ref mds])), (mtt, .inl (gI g, 2000, .inl tf)), (mcd, .inl (gI g, 600, .inl cdf)), (mat, .inl (gI g, 40, .inl s1)), (msz, .inl (gI g, 40, .inl s2)), (mvl, .inl (gI g, 40, .inl s3)), (mcs, .inl (gI g, 600, .inl csf)), (mkn, .inl (gC g, 32, .inl kf)), (mjp, .inl (gC g, 28, .inl jf)), (mds, .inl (gC g, 19, .inl df)), (mmm, .inl (gI g, 32768, .inl M))] := hD
  refine lv_aload_n hx hb d_Mod_read_8 rfl (lv_at hl 0 rfl) ?_
  refine lv_iconst (v := (nI 0)) hx hb d_Mod_read_9 (by decide) ?_
  refine va_put (D := g.1) (ci := 8) (v := .int (nI 0)) (ty := .int) (C := "SignDeskModel") (T := F_Mod) (N := 19) hx hb hts in_Mod t_Mod t_Mod_ok n_Mod hown hK hP hD hS 0 rfl rfl 1 (by decide) (hts _ k_495) (fun _ h9 => h9) rfl (by decide +kernel) rfl rfl (Nat.le_of_ble_eq_true rfl) d_Mod_read_10 (fun H locs hP hD hS => ?_)
  have hP : sdP g [(m0, .inr (8, [.ref mtt, .int (nI 0), .int (nI n), .int pl9, .int wd9, .ref mcd, .int sy9, .ref mat, .ref msz, .ref mvl, .ref mcs, .ref mmm, .int ra, .int rd, .int nx9, .int dn, .ref mkn, .ref mjp, .ref mds])), (mtt, .inl (gI g, 2000, .inl tf)), (mcd, .inl (gI g, 600, .inl cdf)), (mat, .inl (gI g, 40, .inl s1)), (msz, .inl (gI g, 40, .inl s2)), (mvl, .inl (gI g, 40, .inl s3)), (mcs, .inl (gI g, 600, .inl csf)), (mkn, .inl (gC g, 32, .inl kf)), (mjp, .inl (gC g, 28, .inl jf)), (mds, .inl (gC g, 19, .inl df)), (mmm, .inl (gI g, 32768, .inl M))] H := hP
  have hD : va_D A [(m0, .inr (8, [.ref mtt, .int (nI 0), .int (nI n), .int pl9, .int wd9, .ref mcd, .int sy9, .ref mat, .ref msz, .ref mvl, .ref mcs, .ref mmm, .int ra, .int rd, .int nx9, .int dn, .ref mkn, .ref mjp, .ref mds])), (mtt, .inl (gI g, 2000, .inl tf)), (mcd, .inl (gI g, 600, .inl cdf)), (mat, .inl (gI g, 40, .inl s1)), (msz, .inl (gI g, 40, .inl s2)), (mvl, .inl (gI g, 40, .inl s3)), (mcs, .inl (gI g, 600, .inl csf)), (mkn, .inl (gC g, 32, .inl kf)), (mjp, .inl (gC g, 28, .inl jf)), (mds, .inl (gC g, 19, .inl df)), (mmm, .inl (gI g, 32768, .inl M))] := hD
  refine lv_aload_n hx hb d_Mod_read_13 rfl (lv_at hl 0 rfl) ?_
  have hPc := hP.sub (ws' := [(m0, .inr (8, [.ref mtt, .int (nI 0), .int (nI n), .int pl9, .int wd9, .ref mcd, .int sy9, .ref mat, .ref msz, .ref mvl, .ref mcs, .ref mmm, .int ra, .int rd, .int nx9, .int dn, .ref mkn, .ref mjp, .ref mds])), (mmm, .inl (gI g, 32768, .inl M))]) [0, 10] rfl
  have hDc := hD.sub (ws' := [(m0, .inr (8, [.ref mtt, .int (nI 0), .int (nI n), .int pl9, .int wd9, .ref mcd, .int sy9, .ref mat, .ref msz, .ref mvl, .ref mcs, .ref mmm, .int ra, .int rd, .int nx9, .int dn, .ref mkn, .ref mjp, .ref mds])), (mmm, .inl (gI g, 32768, .inl M))]) [0, 10] (by decide) rfl
  have hFc := va_free (wc := [(m0, .inr (8, [.ref mtt, .int (nI 0), .int (nI n), .int pl9, .int wd9, .ref mcd, .int sy9, .ref mat, .ref msz, .ref mvl, .ref mcs, .ref mmm, .int ra, .int rd, .int nx9, .int dn, .ref mkn, .ref mjp, .ref mds])), (mmm, .inl (gI g, 32768, .inl M))]) hD hS hA [0, 10] rfl
  refine sd_cv (va_runV (As := []) (rest := []) ⟨hx, hb, hml, hown, hts⟩ (c_Mod_resetProcessor l g m0 mtt mcd mat msz mvl mcs mmm mkn mjp mds (nI 0) (nI n) pl9 wd9 sy9 ra rd nx9 dn M H.size) (cwV 0 hts (sd_gV k_565 k_567 k_9 k_30 k_568) rfl rfl rfl (by decide +kernel) ⟨Nat.le_of_ble_eq_true rfl, Nat.le_of_ble_eq_true rfl⟩) (sd_preVU hK hE hS hA0 hs0 hPc hDc rfl rfl) rfl rfl hl.1 rfl (lv_room (Nat.le_of_ble_eq_true rfl)) d_Mod_read_14 ⟨Nat.zero_le _, Nat.zero_le _⟩) hS hFc (fun M0 H1 locs hM0 hP1 hD1 hk1 hS => ?_)
  obtain ⟨hP, hD⟩ := va_join (wr := [(mtt, .inl (gI g, 2000, .inl tf)), (mcd, .inl (gI g, 600, .inl cdf)), (mat, .inl (gI g, 40, .inl s1)), (msz, .inl (gI g, 40, .inl s2)), (mvl, .inl (gI g, 40, .inl s3)), (mcs, .inl (gI g, 600, .inl csf)), (mkn, .inl (gC g, 32, .inl kf)), (mjp, .inl (gC g, 28, .inl jf)), (mds, .inl (gC g, 19, .inl df))]) (w1 := [(m0, .inr (8, [.ref mtt, .int (nI 0), .int (nI n), .int pl9, .int (nI 0), .ref mcd, .int (nI 0), .ref mat, .ref msz, .ref mvl, .ref mcs, .ref mmm, .int (nI 0), .int (nI 0), .int (nI 0), .int (nI 0), .ref mkn, .ref mjp, .ref mds])), (mmm, .inl (gI g, 32768, .inl M0))]) hP hD [0, 10] [1, 2, 3, 4, 5, 6, 7, 8, 9] rfl rfl (by decide) (by decide) hk1 hFc hP1 hD1
  clear hPc hDc hFc hk1 hP1 hD1
  generalize H1 = H at hP hS ⊢
  have hP : sdP g [(mtt, .inl (gI g, 2000, .inl tf)), (mcd, .inl (gI g, 600, .inl cdf)), (mat, .inl (gI g, 40, .inl s1)), (msz, .inl (gI g, 40, .inl s2)), (mvl, .inl (gI g, 40, .inl s3)), (mcs, .inl (gI g, 600, .inl csf)), (mkn, .inl (gC g, 32, .inl kf)), (mjp, .inl (gC g, 28, .inl jf)), (mds, .inl (gC g, 19, .inl df)), (m0, .inr (8, [.ref mtt, .int (nI 0), .int (nI n), .int pl9, .int (nI 0), .ref mcd, .int (nI 0), .ref mat, .ref msz, .ref mvl, .ref mcs, .ref mmm, .int (nI 0), .int (nI 0), .int (nI 0), .int (nI 0), .ref mkn, .ref mjp, .ref mds])), (mmm, .inl (gI g, 32768, .inl M0))] H := hP
  have hD : va_D A [(mtt, .inl (gI g, 2000, .inl tf)), (mcd, .inl (gI g, 600, .inl cdf)), (mat, .inl (gI g, 40, .inl s1)), (msz, .inl (gI g, 40, .inl s2)), (mvl, .inl (gI g, 40, .inl s3)), (mcs, .inl (gI g, 600, .inl csf)), (mkn, .inl (gC g, 32, .inl kf)), (mjp, .inl (gC g, 28, .inl jf)), (mds, .inl (gC g, 19, .inl df)), (m0, .inr (8, [.ref mtt, .int (nI 0), .int (nI n), .int pl9, .int (nI 0), .ref mcd, .int (nI 0), .ref mat, .ref msz, .ref mvl, .ref mcs, .ref mmm, .int (nI 0), .int (nI 0), .int (nI 0), .int (nI 0), .ref mkn, .ref mjp, .ref mds])), (mmm, .inl (gI g, 32768, .inl M0))] := hD
  refine lv_aload_n hx hb d_Mod_read_17 rfl (lv_at hl 0 rfl) ?_
  refine lv_iconst (v := (-1)) hx hb d_Mod_read_18 (by decide) ?_
  refine va_put (D := g.1) (ci := 8) (v := .int (-1)) (ty := .int) (C := "SignDeskModel") (T := F_Mod) (N := 19) hx hb hts in_Mod t_Mod t_Mod_ok n_Mod hown hK hP hD hS 9 rfl rfl 3 (by decide) (hts _ k_497) (fun _ h9 => h9) rfl (by decide +kernel) rfl rfl (Nat.le_of_ble_eq_true rfl) d_Mod_read_19 (fun H locs hP hD hS => ?_)
  have hP : sdP g [(mtt, .inl (gI g, 2000, .inl tf)), (mcd, .inl (gI g, 600, .inl cdf)), (mat, .inl (gI g, 40, .inl s1)), (msz, .inl (gI g, 40, .inl s2)), (mvl, .inl (gI g, 40, .inl s3)), (mcs, .inl (gI g, 600, .inl csf)), (mkn, .inl (gC g, 32, .inl kf)), (mjp, .inl (gC g, 28, .inl jf)), (mds, .inl (gC g, 19, .inl df)), (m0, .inr (8, [.ref mtt, .int (nI 0), .int (nI n), .int (-1), .int (nI 0), .ref mcd, .int (nI 0), .ref mat, .ref msz, .ref mvl, .ref mcs, .ref mmm, .int (nI 0), .int (nI 0), .int (nI 0), .int (nI 0), .ref mkn, .ref mjp, .ref mds])), (mmm, .inl (gI g, 32768, .inl M0))] H := hP
  have hD : va_D A [(mtt, .inl (gI g, 2000, .inl tf)), (mcd, .inl (gI g, 600, .inl cdf)), (mat, .inl (gI g, 40, .inl s1)), (msz, .inl (gI g, 40, .inl s2)), (mvl, .inl (gI g, 40, .inl s3)), (mcs, .inl (gI g, 600, .inl csf)), (mkn, .inl (gC g, 32, .inl kf)), (mjp, .inl (gC g, 28, .inl jf)), (mds, .inl (gC g, 19, .inl df)), (m0, .inr (8, [.ref mtt, .int (nI 0), .int (nI n), .int (-1), .int (nI 0), .ref mcd, .int (nI 0), .ref mat, .ref msz, .ref mvl, .ref mcs, .ref mmm, .int (nI 0), .int (nI 0), .int (nI 0), .int (nI 0), .ref mkn, .ref mjp, .ref mds])), (mmm, .inl (gI g, 32768, .inl M0))] := hD
  refine lv_iconst (v := (nI 0)) hx hb d_Mod_read_22 (by decide) ?_
  refine lv_istore_n (lv' := [(1, .int (nI 0)), (0, .ref m0)]) hx hb d_Mod_read_23 rfl hl (by decide) rfl (fun ls hl => ?_)
  refine lv_iconst (v := (nI 0)) hx hb d_Mod_read_24 (by decide) ?_
  refine lv_istore_n (lv' := [(2, .int (nI 0)), (1, .int (nI 0)), (0, .ref m0)]) hx hb d_Mod_read_25 rfl hl (by decide) rfl (fun ls hl => ?_)
  refine sd_loop (fun (x : Heap × List Loc × Array Slot × Nat × Nat × AS × (Nat → Int32) × (Nat → Int32) × (Nat → Int32) × (Nat → Int32) × (Nat → Int32)) => match x with | (H, locs, ls, k, h9, st, c1, y1, t1, t2, t3) => lv_has ls 6 [(2, .int (nI k)), (1, .int (nI h9)), (0, .ref m0)] ∧ sdP g [(m0, .inr (8, [.ref mtt, .int (nI 0), .int (nI n), .int (-1), .int (nI (wn st)), .ref mcd, .int (nI (sn st)), .ref mat, .ref msz, .ref mvl, .ref mcs, .ref mmm, .int (nI 0), .int (nI 0), .int (nI 0), .int (nI 0), .ref mkn, .ref mjp, .ref mds])), (mtt, .inl (gI g, 2000, .inl tf)), (mcd, .inl (gI g, 600, .inl c1)), (mat, .inl (gI g, 40, .inl t1)), (msz, .inl (gI g, 40, .inl t2)), (mvl, .inl (gI g, 40, .inl t3)), (mcs, .inl (gI g, 600, .inl y1)), (mkn, .inl (gC g, 32, .inl kf)), (mjp, .inl (gC g, 28, .inl jf)), (mds, .inl (gC g, 19, .inl df)), (mmm, .inl (gI g, 32768, .inl M0))] H ∧ va_D A [(m0, .inr (8, [.ref mtt, .int (nI 0), .int (nI n), .int (-1), .int (nI (wn st)), .ref mcd, .int (nI (sn st)), .ref mat, .ref msz, .ref mvl, .ref mcs, .ref mmm, .int (nI 0), .int (nI 0), .int (nI 0), .int (nI 0), .ref mkn, .ref mjp, .ref mds])), (mtt, .inl (gI g, 2000, .inl tf)), (mcd, .inl (gI g, 600, .inl c1)), (mat, .inl (gI g, 40, .inl t1)), (msz, .inl (gI g, 40, .inl t2)), (mvl, .inl (gI g, 40, .inl t3)), (mcs, .inl (gI g, 600, .inl y1)), (mkn, .inl (gC g, 32, .inl kf)), (mjp, .inl (gC g, 28, .inl jf)), (mds, .inl (gC g, 19, .inl df)), (mmm, .inl (gI g, 32768, .inl M0))] ∧ va_S A s.heap H locs ∧ (k ≤ n) ∧ (h9 ≤ 1) ∧ (MPR st c1 y1) ∧ (SR st t1 t2 t3) ∧ (SB n st) ∧ (∃ f0, n - k < f0 ∧ asm tx n (n + 1) 0 0 E0 = asm tx n f0 k h9 st)) (fun (x : Heap × List Loc × Array Slot × Nat × Nat × AS × (Nat → Int32) × (Nat → Int32) × (Nat → Int32) × (Nat → Int32) × (Nat → Int32)) => match x with | (H, locs, ls, k, h9, st, c1, y1, t1, t2, t3) => n - k) (fun x => x.1) (fun x => x.2.1) (fun (x : Heap × List Loc × Array Slot × Nat × Nat × AS × (Nat → Int32) × (Nat → Int32) × (Nat → Int32) × (Nat → Int32) × (Nat → Int32)) => match x with | (H, locs, ls, k, h9, st, c1, y1, t1, t2, t3) => 0) (fun (x : Heap × List Loc × Array Slot × Nat × Nat × AS × (Nat → Int32) × (Nat → Int32) × (Nat → Int32) × (Nat → Int32) × (Nat → Int32)) => match x with | (H, locs, ls, k, h9, st, c1, y1, t1, t2, t3) => 0) (fun x => F0 m 26 x.2.2.1 []) (fun x hI ih => ?_) (H, _, ls, 0, 0, E0, cdf, csf, s1, s2, s3) ⟨lv_sub hl [0, 1, 2] rfl, hP.sub [9, 0, 1, 2, 3, 4, 5, 6, 7, 8, 10] rfl, hD.sub [9, 0, 1, 2, 3, 4, 5, 6, 7, 8, 10] (by decide) rfl, hS, Nat.zero_le _, Nat.zero_le _, MPR_E0 _ _, SR_E0 _ _ _, SB_E0 n, ⟨n + 1, by omega, rfl⟩⟩
  obtain ⟨H, locs, ls, k, h9, st, c1, y1, t1, t2, t3⟩ := x
  obtain ⟨hl, hP, hD, hS, h1, hh1, hMP, hSR, hSB, hR⟩ := hI
  show W p l ev _ s m _ below meth c H locs (0) (0) _ (F0 m 26 ls [])
  have hP : sdP g [(m0, .inr (8, [.ref mtt, .int (nI 0), .int (nI n), .int (-1), .int (nI (wn st)), .ref mcd, .int (nI (sn st)), .ref mat, .ref msz, .ref mvl, .ref mcs, .ref mmm, .int (nI 0), .int (nI 0), .int (nI 0), .int (nI 0), .ref mkn, .ref mjp, .ref mds])), (mtt, .inl (gI g, 2000, .inl tf)), (mcd, .inl (gI g, 600, .inl c1)), (mat, .inl (gI g, 40, .inl t1)), (msz, .inl (gI g, 40, .inl t2)), (mvl, .inl (gI g, 40, .inl t3)), (mcs, .inl (gI g, 600, .inl y1)), (mkn, .inl (gC g, 32, .inl kf)), (mjp, .inl (gC g, 28, .inl jf)), (mds, .inl (gC g, 19, .inl df)), (mmm, .inl (gI g, 32768, .inl M0))] H := hP
  have hD : va_D A [(m0, .inr (8, [.ref mtt, .int (nI 0), .int (nI n), .int (-1), .int (nI (wn st)), .ref mcd, .int (nI (sn st)), .ref mat, .ref msz, .ref mvl, .ref mcs, .ref mmm, .int (nI 0), .int (nI 0), .int (nI 0), .int (nI 0), .ref mkn, .ref mjp, .ref mds])), (mtt, .inl (gI g, 2000, .inl tf)), (mcd, .inl (gI g, 600, .inl c1)), (mat, .inl (gI g, 40, .inl t1)), (msz, .inl (gI g, 40, .inl t2)), (mvl, .inl (gI g, 40, .inl t3)), (mcs, .inl (gI g, 600, .inl y1)), (mkn, .inl (gC g, 32, .inl kf)), (mjp, .inl (gC g, 28, .inl jf)), (mds, .inl (gC g, 19, .inl df)), (mmm, .inl (gI g, 32768, .inl M0))] := hD
  refine lv_iload_n hx hb d_Mod_read_26 rfl (lv_at hl 0 rfl) ?_
  refine lv_aload_n hx hb d_Mod_read_27 rfl (lv_at hl 2 rfl) ?_
  refine va_get (D := g.1) (ci := 8) (v := .int (nI n)) (C := "SignDeskModel") (T := F_Mod) (N := 19) hx hb hts in_Mod hown hK hP 0 rfl rfl 2 (by decide) (hts _ k_496) (fun _ h9 => h9) rfl d_Mod_read_28 ?_
  refine lv_icmp_ge (tgt := 215) hx hb d_Mod_read_31 (by decide) (fun c2 => ?_) (fun c2 => ?_)
  · have c2 := (nI_leI (by omega) (by omega)).mp c2
    have ek : k = n := by omega
    obtain ⟨f0, hf0, hRes⟩ := hR
    rw [ek] at hRes
    have hRes := hRes.trans (asm_end (Nat.le_refl n))
    have hAI : AInv st := by
      have h := asm_inv (tx := tx) (n := n) (n + 1) 0 0 E0 AInv_E0 (by rw [hRes])
      rw [hRes] at h; exact h
    have h40 := hSR.1
    have h600 := hMP.1
    refine lv_bipush (v := (nI 16)) hx hb d_Mod_read_215 (by decide) ?_
    refine lv_istore_n (lv' := [(3, .int (nI 16)), (2, .int (nI k)), (1, .int (nI h9)), (0, .ref m0)]) hx hb d_Mod_read_217 rfl hl (by decide) rfl (fun ls hl => ?_)
    refine lv_iconst (v := (nI 0)) hx hb d_Mod_read_218 (by decide) ?_
    refine lv_istore (lv' := [(4, .int (nI 0)), (3, .int (nI 16)), (2, .int (nI k)), (1, .int (nI h9)), (0, .ref m0)]) hx hb d_Mod_read_219 hl (by decide) rfl (fun ls hl => ?_)
    refine sd_loop (fun (x : Heap × List Loc × Array Slot × Nat × (Nat → Int32)) => match x with | (H, locs, ls, i, v1) => lv_has ls 6 [(4, .int (nI i)), (3, .int (nI (16 + cnt0 st i))), (0, .ref m0)] ∧ sdP g [(m0, .inr (8, [.ref mtt, .int (nI 0), .int (nI n), .int (-1), .int (nI (wn st)), .ref mcd, .int (nI (sn st)), .ref mat, .ref msz, .ref mvl, .ref mcs, .ref mmm, .int (nI 0), .int (nI 0), .int (nI 0), .int (nI 0), .ref mkn, .ref mjp, .ref mds])), (mtt, .inl (gI g, 2000, .inl tf)), (mcd, .inl (gI g, 600, .inl c1)), (mat, .inl (gI g, 40, .inl t1)), (msz, .inl (gI g, 40, .inl t2)), (mvl, .inl (gI g, 40, .inl v1)), (mcs, .inl (gI g, 600, .inl y1)), (mkn, .inl (gC g, 32, .inl kf)), (mjp, .inl (gC g, 28, .inl jf)), (mds, .inl (gC g, 19, .inl df)), (mmm, .inl (gI g, 32768, .inl M0))] H ∧ va_D A [(m0, .inr (8, [.ref mtt, .int (nI 0), .int (nI n), .int (-1), .int (nI (wn st)), .ref mcd, .int (nI (sn st)), .ref mat, .ref msz, .ref mvl, .ref mcs, .ref mmm, .int (nI 0), .int (nI 0), .int (nI 0), .int (nI 0), .ref mkn, .ref mjp, .ref mds])), (mtt, .inl (gI g, 2000, .inl tf)), (mcd, .inl (gI g, 600, .inl c1)), (mat, .inl (gI g, 40, .inl t1)), (msz, .inl (gI g, 40, .inl t2)), (mvl, .inl (gI g, 40, .inl v1)), (mcs, .inl (gI g, 600, .inl y1)), (mkn, .inl (gC g, 32, .inl kf)), (mjp, .inl (gC g, 28, .inl jf)), (mds, .inl (gC g, 19, .inl df)), (mmm, .inl (gI g, 32768, .inl M0))] ∧ va_S A s.heap H locs ∧ (i ≤ sn st) ∧ (∀ t, t < i → v1 t = nI (sF st t)) ∧ (∀ t, i ≤ t → t < sn st → v1 t = nI (sv st t) - 1)) (fun (x : Heap × List Loc × Array Slot × Nat × (Nat → Int32)) => match x with | (H, locs, ls, i, v1) => sn st - i) (fun x => x.1) (fun x => x.2.1) (fun (x : Heap × List Loc × Array Slot × Nat × (Nat → Int32)) => match x with | (H, locs, ls, i, v1) => 0) (fun (x : Heap × List Loc × Array Slot × Nat × (Nat → Int32)) => match x with | (H, locs, ls, i, v1) => 0) (fun x => F0 m 221 x.2.2.1 []) (fun x hI ih => ?_) (H, _, ls, 0, t3) ⟨lv_sub hl [0, 1, 4] rfl, hP.sub [0, 1, 2, 3, 4, 5, 6, 7, 8, 9, 10] rfl, hD.sub [0, 1, 2, 3, 4, 5, 6, 7, 8, 9, 10] (by decide) rfl, hS, Nat.zero_le _, fun t h => absurd h (Nat.not_lt_zero t), fun t _ h => (hSR.2 t h).2.2.1⟩
    obtain ⟨H, locs, ls, i, v1⟩ := x
    obtain ⟨hl, hP, hD, hS, p1, p2, p3⟩ := hI
    show W p l ev _ s m _ below meth c H locs (0) (0) _ (F0 m 221 ls [])
    have hP : sdP g [(m0, .inr (8, [.ref mtt, .int (nI 0), .int (nI n), .int (-1), .int (nI (wn st)), .ref mcd, .int (nI (sn st)), .ref mat, .ref msz, .ref mvl, .ref mcs, .ref mmm, .int (nI 0), .int (nI 0), .int (nI 0), .int (nI 0), .ref mkn, .ref mjp, .ref mds])), (mtt, .inl (gI g, 2000, .inl tf)), (mcd, .inl (gI g, 600, .inl c1)), (mat, .inl (gI g, 40, .inl t1)), (msz, .inl (gI g, 40, .inl t2)), (mvl, .inl (gI g, 40, .inl v1)), (mcs, .inl (gI g, 600, .inl y1)), (mkn, .inl (gC g, 32, .inl kf)), (mjp, .inl (gC g, 28, .inl jf)), (mds, .inl (gC g, 19, .inl df)), (mmm, .inl (gI g, 32768, .inl M0))] H := hP
    have hD : va_D A [(m0, .inr (8, [.ref mtt, .int (nI 0), .int (nI n), .int (-1), .int (nI (wn st)), .ref mcd, .int (nI (sn st)), .ref mat, .ref msz, .ref mvl, .ref mcs, .ref mmm, .int (nI 0), .int (nI 0), .int (nI 0), .int (nI 0), .ref mkn, .ref mjp, .ref mds])), (mtt, .inl (gI g, 2000, .inl tf)), (mcd, .inl (gI g, 600, .inl c1)), (mat, .inl (gI g, 40, .inl t1)), (msz, .inl (gI g, 40, .inl t2)), (mvl, .inl (gI g, 40, .inl v1)), (mcs, .inl (gI g, 600, .inl y1)), (mkn, .inl (gC g, 32, .inl kf)), (mjp, .inl (gC g, 28, .inl jf)), (mds, .inl (gC g, 19, .inl df)), (mmm, .inl (gI g, 32768, .inl M0))] := hD
    refine lv_iload hx hb d_Mod_read_221 (lv_at hl 0 rfl) ?_
    refine lv_aload_n hx hb d_Mod_read_223 rfl (lv_at hl 2 rfl) ?_
    refine va_get (D := g.1) (ci := 8) (v := .int (nI (sn st))) (C := "SignDeskModel") (T := F_Mod) (N := 19) hx hb hts in_Mod hown hK hP 0 rfl rfl 6 (by decide) (hts _ k_500) (fun _ h9 => h9) rfl d_Mod_read_224 ?_
    refine lv_icmp_ge (tgt := 262) hx hb d_Mod_read_227 (by decide) (fun c3 => ?_) (fun c3 => ?_)
    · have c3 := (nI_leI (by omega) (by omega)).mp c3
      have ei : i = sn st := by omega
      rw [ei] at p2
      refine lv_iconst (v := (nI 0)) hx hb d_Mod_read_262 (by decide) ?_
      refine lv_istore (lv' := [(4, .int (nI 0)), (3, .int (nI (16 + cnt0 st i))), (0, .ref m0)]) hx hb d_Mod_read_263 hl (by decide) rfl (fun ls hl => ?_)
      refine sd_loop (fun (x : Heap × List Loc × Array Slot × Nat × (Nat → Int32)) => match x with | (H, locs, ls, i2, d1) => lv_has ls 6 [(4, .int (nI i2)), (0, .ref m0)] ∧ sdP g [(m0, .inr (8, [.ref mtt, .int (nI 0), .int (nI n), .int (-1), .int (nI (wn st)), .ref mcd, .int (nI (sn st)), .ref mat, .ref msz, .ref mvl, .ref mcs, .ref mmm, .int (nI 0), .int (nI 0), .int (nI 0), .int (nI 0), .ref mkn, .ref mjp, .ref mds])), (mtt, .inl (gI g, 2000, .inl tf)), (mcd, .inl (gI g, 600, .inl d1)), (mat, .inl (gI g, 40, .inl t1)), (msz, .inl (gI g, 40, .inl t2)), (mvl, .inl (gI g, 40, .inl v1)), (mcs, .inl (gI g, 600, .inl y1)), (mkn, .inl (gC g, 32, .inl kf)), (mjp, .inl (gC g, 28, .inl jf)), (mds, .inl (gC g, 19, .inl df)), (mmm, .inl (gI g, 32768, .inl M0))] H ∧ va_D A [(m0, .inr (8, [.ref mtt, .int (nI 0), .int (nI n), .int (-1), .int (nI (wn st)), .ref mcd, .int (nI (sn st)), .ref mat, .ref msz, .ref mvl, .ref mcs, .ref mmm, .int (nI 0), .int (nI 0), .int (nI 0), .int (nI 0), .ref mkn, .ref mjp, .ref mds])), (mtt, .inl (gI g, 2000, .inl tf)), (mcd, .inl (gI g, 600, .inl d1)), (mat, .inl (gI g, 40, .inl t1)), (msz, .inl (gI g, 40, .inl t2)), (mvl, .inl (gI g, 40, .inl v1)), (mcs, .inl (gI g, 600, .inl y1)), (mkn, .inl (gC g, 32, .inl kf)), (mjp, .inl (gC g, 28, .inl jf)), (mds, .inl (gC g, 19, .inl df)), (mmm, .inl (gI g, 32768, .inl M0))] ∧ va_S A s.heap H locs ∧ (i2 ≤ wn st) ∧ (∀ j, j < i2 → d1 j = nI (fin st j)) ∧ (∀ j, i2 ≤ j → j < wn st → d1 j = nI (wc st j))) (fun (x : Heap × List Loc × Array Slot × Nat × (Nat → Int32)) => match x with | (H, locs, ls, i2, d1) => wn st - i2) (fun x => x.1) (fun x => x.2.1) (fun (x : Heap × List Loc × Array Slot × Nat × (Nat → Int32)) => match x with | (H, locs, ls, i2, d1) => 0) (fun (x : Heap × List Loc × Array Slot × Nat × (Nat → Int32)) => match x with | (H, locs, ls, i2, d1) => 0) (fun x => F0 m 265 x.2.2.1 []) (fun x hI ih => ?_) (H, _, ls, 0, c1) ⟨lv_sub hl [0, 2] rfl, hP.sub [0, 1, 2, 3, 4, 5, 6, 7, 8, 9, 10] rfl, hD.sub [0, 1, 2, 3, 4, 5, 6, 7, 8, 9, 10] (by decide) rfl, hS, Nat.zero_le _, fun j h => absurd h (Nat.not_lt_zero j), fun j _ h => (hMP.2 j h).1⟩
      obtain ⟨H, locs, ls, i2, d1⟩ := x
      obtain ⟨hl, hP, hD, hS, r1, r2, r3⟩ := hI
      show W p l ev _ s m _ below meth c H locs (0) (0) _ (F0 m 265 ls [])
      have hP : sdP g [(m0, .inr (8, [.ref mtt, .int (nI 0), .int (nI n), .int (-1), .int (nI (wn st)), .ref mcd, .int (nI (sn st)), .ref mat, .ref msz, .ref mvl, .ref mcs, .ref mmm, .int (nI 0), .int (nI 0), .int (nI 0), .int (nI 0), .ref mkn, .ref mjp, .ref mds])), (mtt, .inl (gI g, 2000, .inl tf)), (mcd, .inl (gI g, 600, .inl d1)), (mat, .inl (gI g, 40, .inl t1)), (msz, .inl (gI g, 40, .inl t2)), (mvl, .inl (gI g, 40, .inl v1)), (mcs, .inl (gI g, 600, .inl y1)), (mkn, .inl (gC g, 32, .inl kf)), (mjp, .inl (gC g, 28, .inl jf)), (mds, .inl (gC g, 19, .inl df)), (mmm, .inl (gI g, 32768, .inl M0))] H := hP
      have hD : va_D A [(m0, .inr (8, [.ref mtt, .int (nI 0), .int (nI n), .int (-1), .int (nI (wn st)), .ref mcd, .int (nI (sn st)), .ref mat, .ref msz, .ref mvl, .ref mcs, .ref mmm, .int (nI 0), .int (nI 0), .int (nI 0), .int (nI 0), .ref mkn, .ref mjp, .ref mds])), (mtt, .inl (gI g, 2000, .inl tf)), (mcd, .inl (gI g, 600, .inl d1)), (mat, .inl (gI g, 40, .inl t1)), (msz, .inl (gI g, 40, .inl t2)), (mvl, .inl (gI g, 40, .inl v1)), (mcs, .inl (gI g, 600, .inl y1)), (mkn, .inl (gC g, 32, .inl kf)), (mjp, .inl (gC g, 28, .inl jf)), (mds, .inl (gC g, 19, .inl df)), (mmm, .inl (gI g, 32768, .inl M0))] := hD
      refine lv_iload hx hb d_Mod_read_265 (lv_at hl 0 rfl) ?_
      refine lv_aload_n hx hb d_Mod_read_267 rfl (lv_at hl 1 rfl) ?_
      refine va_get (D := g.1) (ci := 8) (v := .int (nI (wn st))) (C := "SignDeskModel") (T := F_Mod) (N := 19) hx hb hts in_Mod hown hK hP 0 rfl rfl 4 (by decide) (hts _ k_498) (fun _ h9 => h9) rfl d_Mod_read_268 ?_
      refine lv_icmp_ge (tgt := 320) hx hb d_Mod_read_271 (by decide) (fun c4 => ?_) (fun c4 => ?_)
      · have c4 := (nI_leI (by omega) (by omega)).mp c4
        have e2 : i2 = wn st := by omega
        rw [e2] at r2
        refine lv_iconst (v := (nI 0)) hx hb d_Mod_read_320 (by decide) ?_
        have hP9 := hP.sub (ws' := [(m0, .inr (8, [.ref mtt, .int (nI 0), .int (nI n), .int (-1), .int (nI (wn st)), .ref mcd, .int (nI (sn st)), .ref mat, .ref msz, .ref mvl, .ref mcs, .ref mmm, .int (nI 0), .int (nI 0), .int (nI 0), .int (nI 0), .ref mkn, .ref mjp, .ref mds])), (mtt, .inl (gI g, 2000, .inl tf)), (mcd, .inl (gI g, 600, .inl d1)), (mat, .inl (gI g, 40, .inl t1)), (msz, .inl (gI g, 40, .inl t2)), (mvl, .inl (gI g, 40, .inl v1)), (mcs, .inl (gI g, 600, .inl y1)), (mkn, .inl (gC g, 32, .inl kf)), (mjp, .inl (gC g, 28, .inl jf)), (mds, .inl (gC g, 19, .inl df)), (mmm, .inl (gI g, 32768, .inl M0))]) [0, 1, 2, 3, 4, 5, 6, 7, 8, 9, 10] rfl
        have hD9 := hD.sub (ws' := [(m0, .inr (8, [.ref mtt, .int (nI 0), .int (nI n), .int (-1), .int (nI (wn st)), .ref mcd, .int (nI (sn st)), .ref mat, .ref msz, .ref mvl, .ref mcs, .ref mmm, .int (nI 0), .int (nI 0), .int (nI 0), .int (nI 0), .ref mkn, .ref mjp, .ref mds])), (mtt, .inl (gI g, 2000, .inl tf)), (mcd, .inl (gI g, 600, .inl d1)), (mat, .inl (gI g, 40, .inl t1)), (msz, .inl (gI g, 40, .inl t2)), (mvl, .inl (gI g, 40, .inl v1)), (mcs, .inl (gI g, 600, .inl y1)), (mkn, .inl (gC g, 32, .inl kf)), (mjp, .inl (gC g, 28, .inl jf)), (mds, .inl (gC g, 19, .inl df)), (mmm, .inl (gI g, 32768, .inl M0))]) [0, 1, 2, 3, 4, 5, 6, 7, 8, 9, 10] (by decide) rfl
        exact W.iret (v := (nI 0)) hx hb hr (fun t ht hW => ⟨⟨_, (wn st, d1, -1, sn st, y1, t1, t2, v1, M0), rfl, by
            rw [hRes]
            exact ⟨rfl, fun _ => ⟨rfl, rfl, rfl, r2⟩, fun h => absurd rfl h, hM0⟩, by rw [ht]; exact hP9, by rw [hAe]; exact hD9⟩, hS.F ht⟩) hS.2.2 d_Mod_read_321
      · have c4 := mt (nI_leI (by omega) (by omega)).mpr c4
        have hi2 : i2 < wn st := by omega
        obtain ⟨hwc, hwy⟩ := hAI.2.2.1 i2 hi2
        refine lv_aload_n hx hb d_Mod_read_274 rfl (lv_at hl 1 rfl) ?_
        refine va_get (D := g.1) (ci := 8) (v := .ref mcd) (C := "SignDeskModel") (T := F_Mod) (N := 19) hx hb hts in_Mod hown hK hP 0 rfl rfl 5 (by decide) (hts _ k_499) (fun _ h9 => h9) rfl d_Mod_read_275 ?_
        refine lv_iload hx hb d_Mod_read_278 (lv_at hl 0 rfl) ?_
        refine lv_aload_n hx hb d_Mod_read_280 rfl (lv_at hl 1 rfl) ?_
        refine va_get (D := g.1) (ci := 8) (v := .ref mcs) (C := "SignDeskModel") (T := F_Mod) (N := 19) hx hb hts in_Mod hown hK hP 0 rfl rfl 10 (by decide) (hts _ k_504) (fun _ h9 => h9) rfl d_Mod_read_281 ?_
        refine lv_iload hx hb d_Mod_read_284 (lv_at hl 0 rfl) ?_
        refine va_iald hx hb hK hP 6 1 rfl rfl (i := (nI i2)) (vp_in_nI (by omega) (by omega)) d_Mod_read_286 ?_
        refine sd_topi (y := nI (wy st i2) - 1) (by rw [nI_clamp (by omega)]; exact (hMP.2 i2 hi2).2) ?_
        refine lv_iconst (v := (-1)) hx hb d_Mod_read_287 (by decide) ?_
        refine lv_icmp_ne (tgt := 301) hx hb d_Mod_read_288 (by decide) (fun c5 => ?_) (fun c5 => ?_)
        · have hy0 : ¬ wy st i2 = 0 := fun q => c5 (by rw [q]; decide)
          refine lv_aload_n hx hb d_Mod_read_301 rfl (lv_at hl 1 rfl) ?_
          refine va_get (D := g.1) (ci := 8) (v := .ref mvl) (C := "SignDeskModel") (T := F_Mod) (N := 19) hx hb hts in_Mod hown hK hP 0 rfl rfl 9 (by decide) (hts _ k_503) (fun _ h9 => h9) rfl d_Mod_read_302 ?_
          refine lv_aload_n hx hb d_Mod_read_305 rfl (lv_at hl 1 rfl) ?_
          refine va_get (D := g.1) (ci := 8) (v := .ref mcs) (C := "SignDeskModel") (T := F_Mod) (N := 19) hx hb hts in_Mod hown hK hP 0 rfl rfl 10 (by decide) (hts _ k_504) (fun _ h9 => h9) rfl d_Mod_read_306 ?_
          refine lv_iload hx hb d_Mod_read_309 (lv_at hl 0 rfl) ?_
          refine va_iald hx hb hK hP 6 1 rfl rfl (i := (nI i2)) (vp_in_nI (by omega) (by omega)) d_Mod_read_311 ?_
          refine sd_topi (y := nI (wy st i2 - 1)) (by rw [nI_clamp (by omega), (hMP.2 i2 hi2).2]; exact m1_up hy0) ?_
          refine va_iald hx hb hK hP 5 1 rfl rfl (i := (nI (wy st i2 - 1))) (vp_in_nI (by omega) (by omega)) d_Mod_read_312 ?_
          refine sd_topi (y := nI (sF st (wy st i2 - 1))) (by rw [nI_clamp (by omega)]; exact p2 _ (by omega)) ?_
          refine va_iast hx hb hK hP hD hS 2 1 rfl rfl (i := (nI i2)) (x := (nI (sF st (wy st i2 - 1)))) (vp_in_nI (by omega) (by omega)) d_Mod_read_313 (fun H locs hP hD hS => ?_)
          have hP : sdP g [(m0, .inr (8, [.ref mtt, .int (nI 0), .int (nI n), .int (-1), .int (nI (wn st)), .ref mcd, .int (nI (sn st)), .ref mat, .ref msz, .ref mvl, .ref mcs, .ref mmm, .int (nI 0), .int (nI 0), .int (nI 0), .int (nI 0), .ref mkn, .ref mjp, .ref mds])), (mtt, .inl (gI g, 2000, .inl tf)), (mcd, .inl (gI g, 600, .inl (upd d1 ((nI i2)).toNatClampNeg (nI (sF st (wy st i2 - 1)))))), (mat, .inl (gI g, 40, .inl t1)), (msz, .inl (gI g, 40, .inl t2)), (mvl, .inl (gI g, 40, .inl v1)), (mcs, .inl (gI g, 600, .inl y1)), (mkn, .inl (gC g, 32, .inl kf)), (mjp, .inl (gC g, 28, .inl jf)), (mds, .inl (gC g, 19, .inl df)), (mmm, .inl (gI g, 32768, .inl M0))] H := hP
          have hD : va_D A [(m0, .inr (8, [.ref mtt, .int (nI 0), .int (nI n), .int (-1), .int (nI (wn st)), .ref mcd, .int (nI (sn st)), .ref mat, .ref msz, .ref mvl, .ref mcs, .ref mmm, .int (nI 0), .int (nI 0), .int (nI 0), .int (nI 0), .ref mkn, .ref mjp, .ref mds])), (mtt, .inl (gI g, 2000, .inl tf)), (mcd, .inl (gI g, 600, .inl (upd d1 ((nI i2)).toNatClampNeg (nI (sF st (wy st i2 - 1)))))), (mat, .inl (gI g, 40, .inl t1)), (msz, .inl (gI g, 40, .inl t2)), (mvl, .inl (gI g, 40, .inl v1)), (mcs, .inl (gI g, 600, .inl y1)), (mkn, .inl (gC g, 32, .inl kf)), (mjp, .inl (gC g, 28, .inl jf)), (mds, .inl (gC g, 19, .inl df)), (mmm, .inl (gI g, 32768, .inl M0))] := hD
          have eF : (upd d1 ((nI i2)).toNatClampNeg (nI (sF st (wy st i2 - 1)))) = (upd d1 i2 (nI (fin st i2))) := by rw [nI_clamp (by omega), fin, if_neg hy0]
          rw [eF] at hP hD
          refine lv_iinc (v := (nI (i2 + 1))) (lv' := [(4, .int (nI (i2 + 1))), (0, .ref m0)]) hx hb d_Mod_read_314 hl (k := 0) rfl (nI_1 _) (by decide) rfl (fun ls hl => ?_)
          refine lv_goto (tgt := 265) hx hb d_Mod_read_317 (by decide) ?_
          exact ih (H, locs, ls, i2 + 1, upd d1 i2 (nI (fin st i2))) ⟨lv_sub hl [0, 1] rfl, hP.sub [0, 1, 2, 3, 4, 5, 6, 7, 8, 9, 10] rfl, hD.sub [0, 1, 2, 3, 4, 5, 6, 7, 8, 9, 10] (by decide) rfl, hS, by omega, fun j hj => by
              by_cases q : j = i2
              · subst q; exact pk_us
              · rw [pk_un q]; exact r2 j (by omega), fun j h5 h6 => by rw [pk_un (by omega)]; exact r3 j (by omega) h6⟩ (show wn st - (i2 + 1) < wn st - i2 by omega)
        · have hy0 : wy st i2 = 0 := (m1_iff (by omega)).mp c5
          refine lv_aload_n hx hb d_Mod_read_291 rfl (lv_at hl 1 rfl) ?_
          refine va_get (D := g.1) (ci := 8) (v := .ref mcd) (C := "SignDeskModel") (T := F_Mod) (N := 19) hx hb hts in_Mod hown hK hP 0 rfl rfl 5 (by decide) (hts _ k_499) (fun _ h9 => h9) rfl d_Mod_read_292 ?_
          refine lv_iload hx hb d_Mod_read_295 (lv_at hl 0 rfl) ?_
          refine va_iald hx hb hK hP 2 1 rfl rfl (i := (nI i2)) (vp_in_nI (by omega) (by omega)) d_Mod_read_297 ?_
          refine sd_topi (y := nI (wc st i2)) (by rw [nI_clamp (by omega)]; exact r3 i2 (Nat.le_refl _) hi2) ?_
          refine lv_goto (tgt := 313) hx hb d_Mod_read_298 (by decide) ?_
          refine va_iast hx hb hK hP hD hS 2 1 rfl rfl (i := (nI i2)) (x := (nI (wc st i2))) (vp_in_nI (by omega) (by omega)) d_Mod_read_313 (fun H locs hP hD hS => ?_)
          have hP : sdP g [(m0, .inr (8, [.ref mtt, .int (nI 0), .int (nI n), .int (-1), .int (nI (wn st)), .ref mcd, .int (nI (sn st)), .ref mat, .ref msz, .ref mvl, .ref mcs, .ref mmm, .int (nI 0), .int (nI 0), .int (nI 0), .int (nI 0), .ref mkn, .ref mjp, .ref mds])), (mtt, .inl (gI g, 2000, .inl tf)), (mcd, .inl (gI g, 600, .inl (upd d1 ((nI i2)).toNatClampNeg (nI (wc st i2))))), (mat, .inl (gI g, 40, .inl t1)), (msz, .inl (gI g, 40, .inl t2)), (mvl, .inl (gI g, 40, .inl v1)), (mcs, .inl (gI g, 600, .inl y1)), (mkn, .inl (gC g, 32, .inl kf)), (mjp, .inl (gC g, 28, .inl jf)), (mds, .inl (gC g, 19, .inl df)), (mmm, .inl (gI g, 32768, .inl M0))] H := hP
          have hD : va_D A [(m0, .inr (8, [.ref mtt, .int (nI 0), .int (nI n), .int (-1), .int (nI (wn st)), .ref mcd, .int (nI (sn st)), .ref mat, .ref msz, .ref mvl, .ref mcs, .ref mmm, .int (nI 0), .int (nI 0), .int (nI 0), .int (nI 0), .ref mkn, .ref mjp, .ref mds])), (mtt, .inl (gI g, 2000, .inl tf)), (mcd, .inl (gI g, 600, .inl (upd d1 ((nI i2)).toNatClampNeg (nI (wc st i2))))), (mat, .inl (gI g, 40, .inl t1)), (msz, .inl (gI g, 40, .inl t2)), (mvl, .inl (gI g, 40, .inl v1)), (mcs, .inl (gI g, 600, .inl y1)), (mkn, .inl (gC g, 32, .inl kf)), (mjp, .inl (gC g, 28, .inl jf)), (mds, .inl (gC g, 19, .inl df)), (mmm, .inl (gI g, 32768, .inl M0))] := hD
          have eF : (upd d1 ((nI i2)).toNatClampNeg (nI (wc st i2))) = (upd d1 i2 (nI (fin st i2))) := by rw [nI_clamp (by omega), fin, if_pos hy0]
          rw [eF] at hP hD
          refine lv_iinc (v := (nI (i2 + 1))) (lv' := [(4, .int (nI (i2 + 1))), (0, .ref m0)]) hx hb d_Mod_read_314 hl (k := 0) rfl (nI_1 _) (by decide) rfl (fun ls hl => ?_)
          refine lv_goto (tgt := 265) hx hb d_Mod_read_317 (by decide) ?_
          exact ih (H, locs, ls, i2 + 1, upd d1 i2 (nI (fin st i2))) ⟨lv_sub hl [0, 1] rfl, hP.sub [0, 1, 2, 3, 4, 5, 6, 7, 8, 9, 10] rfl, hD.sub [0, 1, 2, 3, 4, 5, 6, 7, 8, 9, 10] (by decide) rfl, hS, by omega, fun j hj => by
              by_cases q : j = i2
              · subst q; exact pk_us
              · rw [pk_un q]; exact r2 j (by omega), fun j h5 h6 => by rw [pk_un (by omega)]; exact r3 j (by omega) h6⟩ (show wn st - (i2 + 1) < wn st - i2 by omega)
    · have c3 := mt (nI_leI (by omega) (by omega)).mpr c3
      have hi : i < sn st := by omega
      have h700 := (hSR.2 i hi).2.2.2.2
      have hcn := cnt0_le st i
      refine lv_aload_n hx hb d_Mod_read_230 rfl (lv_at hl 2 rfl) ?_
      refine va_get (D := g.1) (ci := 8) (v := .ref mvl) (C := "SignDeskModel") (T := F_Mod) (N := 19) hx hb hts in_Mod hown hK hP 0 rfl rfl 9 (by decide) (hts _ k_503) (fun _ h9 => h9) rfl d_Mod_read_231 ?_
      refine lv_iload hx hb d_Mod_read_234 (lv_at hl 0 rfl) ?_
      refine va_iald hx hb hK hP 5 1 rfl rfl (i := (nI i)) (vp_in_nI (by omega) (by omega)) d_Mod_read_236 ?_
      refine sd_topi (y := nI (sv st i) - 1) (by rw [nI_clamp (by omega)]; exact p3 i (Nat.le_refl _) hi) ?_
      refine lv_iconst (v := (-1)) hx hb d_Mod_read_237 (by decide) ?_
      refine lv_icmp_eq (tgt := 244) hx hb d_Mod_read_238 (by decide) (fun c6 => ?_) (fun c6 => ?_)
      · have hv0 : sv st i = 0 := (m1_iff (by omega)).mp c6
        refine lv_aload_n hx hb d_Mod_read_244 rfl (lv_at hl 2 rfl) ?_
        refine va_get (D := g.1) (ci := 8) (v := .ref mvl) (C := "SignDeskModel") (T := F_Mod) (N := 19) hx hb hts in_Mod hown hK hP 0 rfl rfl 9 (by decide) (hts _ k_503) (fun _ h9 => h9) rfl d_Mod_read_245 ?_
        refine lv_iload hx hb d_Mod_read_248 (lv_at hl 0 rfl) ?_
        refine lv_iload_n hx hb d_Mod_read_250 rfl (lv_at hl 1 rfl) ?_
        refine va_iast hx hb hK hP hD hS 5 1 rfl rfl (i := (nI i)) (x := (nI (16 + cnt0 st i))) (vp_in_nI (by omega) (by omega)) d_Mod_read_251 (fun H locs hP hD hS => ?_)
        have hP : sdP g [(m0, .inr (8, [.ref mtt, .int (nI 0), .int (nI n), .int (-1), .int (nI (wn st)), .ref mcd, .int (nI (sn st)), .ref mat, .ref msz, .ref mvl, .ref mcs, .ref mmm, .int (nI 0), .int (nI 0), .int (nI 0), .int (nI 0), .ref mkn, .ref mjp, .ref mds])), (mtt, .inl (gI g, 2000, .inl tf)), (mcd, .inl (gI g, 600, .inl c1)), (mat, .inl (gI g, 40, .inl t1)), (msz, .inl (gI g, 40, .inl t2)), (mvl, .inl (gI g, 40, .inl (upd v1 ((nI i)).toNatClampNeg (nI (16 + cnt0 st i))))), (mcs, .inl (gI g, 600, .inl y1)), (mkn, .inl (gC g, 32, .inl kf)), (mjp, .inl (gC g, 28, .inl jf)), (mds, .inl (gC g, 19, .inl df)), (mmm, .inl (gI g, 32768, .inl M0))] H := hP
        have hD : va_D A [(m0, .inr (8, [.ref mtt, .int (nI 0), .int (nI n), .int (-1), .int (nI (wn st)), .ref mcd, .int (nI (sn st)), .ref mat, .ref msz, .ref mvl, .ref mcs, .ref mmm, .int (nI 0), .int (nI 0), .int (nI 0), .int (nI 0), .ref mkn, .ref mjp, .ref mds])), (mtt, .inl (gI g, 2000, .inl tf)), (mcd, .inl (gI g, 600, .inl c1)), (mat, .inl (gI g, 40, .inl t1)), (msz, .inl (gI g, 40, .inl t2)), (mvl, .inl (gI g, 40, .inl (upd v1 ((nI i)).toNatClampNeg (nI (16 + cnt0 st i))))), (mcs, .inl (gI g, 600, .inl y1)), (mkn, .inl (gC g, 32, .inl kf)), (mjp, .inl (gC g, 28, .inl jf)), (mds, .inl (gC g, 19, .inl df)), (mmm, .inl (gI g, 32768, .inl M0))] := hD
        have eF : (upd v1 ((nI i)).toNatClampNeg (nI (16 + cnt0 st i))) = (upd v1 i (nI (16 + cnt0 st i))) := by rw [nI_clamp (by omega)]
        rw [eF] at hP hD
        refine lv_iload_n hx hb d_Mod_read_252 rfl (lv_at hl 1 rfl) ?_
        refine lv_iconst (v := (nI 1)) hx hb d_Mod_read_253 (by decide) ?_
        refine lv_iadd hx hb d_Mod_read_254 ?_
        refine sd_topi (y := nI ((16 + cnt0 st i) + 1)) (nI_add _ _) ?_
        refine lv_istore_n (lv' := [(3, .int (nI ((16 + cnt0 st i) + 1))), (4, .int (nI i)), (0, .ref m0)]) hx hb d_Mod_read_255 rfl hl (by decide) rfl (fun ls hl => ?_)
        refine lv_iinc (v := (nI (i + 1))) (lv' := [(4, .int (nI (i + 1))), (3, .int (nI ((16 + cnt0 st i) + 1))), (0, .ref m0)]) hx hb d_Mod_read_256 hl (k := 1) rfl (nI_1 _) (by decide) rfl (fun ls hl => ?_)
        refine lv_goto (tgt := 221) hx hb d_Mod_read_259 (by decide) ?_
        exact ih (H, locs, ls, i + 1, upd v1 i (nI (16 + cnt0 st i))) ⟨by
            have e9 : 16 + cnt0 st (i + 1) = 16 + cnt0 st i + 1 := by
              show 16 + (cnt0 st i + (if sv st i = 0 then 1 else 0)) = _
              rw [if_pos hv0]; omega
            rw [e9]
            exact lv_sub hl [0, 1, 2] rfl, hP.sub [0, 1, 2, 3, 4, 5, 6, 7, 8, 9, 10] rfl, hD.sub [0, 1, 2, 3, 4, 5, 6, 7, 8, 9, 10] (by decide) rfl, hS, by omega, fun t ht => by
            by_cases q : t = i
            · subst q; rw [pk_us, sF, if_pos hv0]
            · rw [pk_un q]; exact p2 t (by omega), fun t h5 h6 => by rw [pk_un (by omega)]; exact p3 t (by omega) h6⟩ (show sn st - (i + 1) < sn st - i by omega)
      · have hv0 : ¬ sv st i = 0 := fun q => c6 (by rw [q]; decide)
        refine lv_goto (tgt := 256) hx hb d_Mod_read_241 (by decide) ?_
        refine lv_iinc (v := (nI (i + 1))) (lv' := [(4, .int (nI (i + 1))), (3, .int (nI (16 + cnt0 st i))), (0, .ref m0)]) hx hb d_Mod_read_256 hl (k := 0) rfl (nI_1 _) (by decide) rfl (fun ls hl => ?_)
        refine lv_goto (tgt := 221) hx hb d_Mod_read_259 (by decide) ?_
        exact ih (H, locs, ls, i + 1, v1) ⟨by
            have e9 : 16 + cnt0 st (i + 1) = 16 + cnt0 st i := by
              show 16 + (cnt0 st i + (if sv st i = 0 then 1 else 0)) = _
              rw [if_neg hv0]; omega
            rw [e9]
            exact lv_sub hl [0, 1, 2] rfl, hP.sub [0, 1, 2, 3, 4, 5, 6, 7, 8, 9, 10] rfl, hD.sub [0, 1, 2, 3, 4, 5, 6, 7, 8, 9, 10] (by decide) rfl, hS, by omega, fun t ht => by
            by_cases q : t = i
            · subst q; rw [p3 t (Nat.le_refl _) hi]; exact sv_F hv0
            · exact p2 t (by omega), fun t h5 h6 => p3 t (by omega) h6⟩ (show sn st - (i + 1) < sn st - i by omega)
  · have c2 := mt (nI_leI (by omega) (by omega)).mpr c2
    have hk : k < n := by omega
    obtain ⟨f0, hf0, hRes⟩ := hR
    obtain ⟨f1, rfl⟩ : ∃ f1, f0 = f1 + 1 := ⟨f0 - 1, by omega⟩
    refine lv_aload_n hx hb d_Mod_read_34 rfl (lv_at hl 2 rfl) ?_
    refine va_get (D := g.1) (ci := 8) (v := .ref mtt) (C := "SignDeskModel") (T := F_Mod) (N := 19) hx hb hts in_Mod hown hK hP 0 rfl rfl 0 (by decide) (hts _ k_494) (fun _ h9 => h9) rfl d_Mod_read_35 ?_
    refine lv_iload_n hx hb d_Mod_read_38 rfl (lv_at hl 0 rfl) ?_
    refine va_iald hx hb hK hP 1 1 rfl rfl (i := (nI k)) (vp_in_nI (by omega) (by omega)) d_Mod_read_39 ?_
    refine sd_topi (y := nI (tx (k))) (by rw [nI_clamp (by omega)]; exact hT.2.2.1 _ (by omega)) ?_
    have hb8i := hb8 (k)
    refine lv_istore_n (lv' := [(3, .int (nI (tx (k)))), (2, .int (nI k)), (1, .int (nI h9)), (0, .ref m0)]) hx hb d_Mod_read_40 rfl hl (by decide) rfl (fun ls hl => ?_)
    refine lv_iload_n hx hb d_Mod_read_41 rfl (lv_at hl 0 rfl) ?_
    refine lv_bipush (v := (nI 10)) hx hb d_Mod_read_42 (by decide) ?_
    refine lv_icmp_ne (tgt := 49) hx hb d_Mod_read_44 (by decide) (fun c7 => ?_) (fun c7 => ?_)
    · have c7 := mt (nI_eq (by omega) (by omega)).mpr c7
      refine lv_iload_n hx hb d_Mod_read_49 rfl (lv_at hl 0 rfl) ?_
      refine lv_bipush (v := (nI 10)) hx hb d_Mod_read_50 (by decide) ?_
      refine lv_icmp_eq (tgt := 62) hx hb d_Mod_read_52 (by decide) (fun c8 => ?_) (fun c8 => ?_)
      · have c8 := (nI_eq (by omega) (by omega)).mp c8
        exact absurd c8 c7
      · have c8 := mt (nI_eq (by omega) (by omega)).mpr c8
        refine lv_iload_n hx hb d_Mod_read_55 rfl (lv_at hl 0 rfl) ?_
        refine sd_ri (va_runS (As := [.int (nI (tx (k)))]) (rest := []) ⟨hx, hb, hml, hown, hts⟩ (c_Mod_isBlank l (tx k) (hb8 k)) (va_cwS 1 hts (sd_gS k_569 k_570 k_30 k_571) rfl rfl rfl (by decide +kernel) ⟨Nat.le_of_ble_eq_true rfl, Nat.le_of_ble_eq_true rfl⟩) preEq rfl rfl hl.1 rfl (lv_room (Nat.le_of_ble_eq_true rfl)) d_Mod_read_56 ⟨Nat.zero_le _, Nat.zero_le _⟩) (fun r9 er9 => ?_)
        subst er9
        refine lv_if_eq (tgt := 69) hx hb d_Mod_read_59 (by decide) (fun c10 => ?_) (fun c10 => ?_)
        · have c10 := sb_eq0.mp c10
          refine lv_iload_n hx hb d_Mod_read_69 rfl (lv_at hl 1 rfl) ?_
          refine lv_istore (lv' := [(4, .int (nI k)), (3, .int (nI (tx (k)))), (2, .int (nI k)), (1, .int (nI h9)), (0, .ref m0)]) hx hb d_Mod_read_70 hl (by decide) rfl (fun ls hl => ?_)
          refine sd_cutl (fun (e9 : Nat) ls => lv_has ls 6 [(4, .int (nI e9)), (2, .int (nI k)), (1, .int (nI h9)), (0, .ref m0)] ∧ k ≤ e9 ∧ e9 ≤ n ∧ (∀ j, k ≤ j → j < e9 → ¬ isSt tx j) ∧ isSt tx e9) 140 (fun _ => []) (fun e9 ls hI => ?_) (fun kJ => ?_)
          · obtain ⟨hl, k1, k2, k3, k4⟩ := hI
            refine lv_iload hx hb d_Mod_read_140 (lv_at hl 0 rfl) ?_
            refine lv_iload_n hx hb d_Mod_read_142 rfl (lv_at hl 1 rfl) ?_
            refine lv_icmp_ne (tgt := 172) hx hb d_Mod_read_143 (by decide) (fun c11 => ?_) (fun c11 => ?_)
            · have c11 := mt (nI_eq (by omega) (by omega)).mpr c11
              have hke : k < e9 := by omega
              have hns : ¬ isSt tx k := k3 k (Nat.le_refl _) hke
              refine lv_aload_n hx hb d_Mod_read_172 rfl (lv_at hl 3 rfl) ?_
              refine lv_iload_n hx hb d_Mod_read_173 rfl (lv_at hl 1 rfl) ?_
              refine lv_iload hx hb d_Mod_read_174 (lv_at hl 0 rfl) ?_
              refine lv_iload_n hx hb d_Mod_read_176 rfl (lv_at hl 1 rfl) ?_
              refine lv_isub hx hb d_Mod_read_177 ?_
              refine sd_topi (y := nI (e9 - k)) (pk_sub (by omega)) ?_
              refine lv_iload_n hx hb d_Mod_read_178 rfl (lv_at hl 2 rfl) ?_
              have hPc := hP.sub (ws' := [(m0, .inr (8, [.ref mtt, .int (nI 0), .int (nI n), .int (-1), .int (nI (wn st)), .ref mcd, .int (nI (sn st)), .ref mat, .ref msz, .ref mvl, .ref mcs, .ref mmm, .int (nI 0), .int (nI 0), .int (nI 0), .int (nI 0), .ref mkn, .ref mjp, .ref mds])), (mtt, .inl (gI g, 2000, .inl tf)), (mcd, .inl (gI g, 600, .inl c1)), (mat, .inl (gI g, 40, .inl t1)), (msz, .inl (gI g, 40, .inl t2)), (mvl, .inl (gI g, 40, .inl t3)), (mcs, .inl (gI g, 600, .inl y1)), (mkn, .inl (gC g, 32, .inl kf)), (mjp, .inl (gC g, 28, .inl jf)), (mds, .inl (gC g, 19, .inl df))]) [0, 1, 2, 3, 4, 5, 6, 7, 8, 9] rfl
              have hDc := hD.sub (ws' := [(m0, .inr (8, [.ref mtt, .int (nI 0), .int (nI n), .int (-1), .int (nI (wn st)), .ref mcd, .int (nI (sn st)), .ref mat, .ref msz, .ref mvl, .ref mcs, .ref mmm, .int (nI 0), .int (nI 0), .int (nI 0), .int (nI 0), .ref mkn, .ref mjp, .ref mds])), (mtt, .inl (gI g, 2000, .inl tf)), (mcd, .inl (gI g, 600, .inl c1)), (mat, .inl (gI g, 40, .inl t1)), (msz, .inl (gI g, 40, .inl t2)), (mvl, .inl (gI g, 40, .inl t3)), (mcs, .inl (gI g, 600, .inl y1)), (mkn, .inl (gC g, 32, .inl kf)), (mjp, .inl (gC g, 28, .inl jf)), (mds, .inl (gC g, 19, .inl df))]) [0, 1, 2, 3, 4, 5, 6, 7, 8, 9] (by decide) rfl
              have hFc := va_free (wc := [(m0, .inr (8, [.ref mtt, .int (nI 0), .int (nI n), .int (-1), .int (nI (wn st)), .ref mcd, .int (nI (sn st)), .ref mat, .ref msz, .ref mvl, .ref mcs, .ref mmm, .int (nI 0), .int (nI 0), .int (nI 0), .int (nI 0), .ref mkn, .ref mjp, .ref mds])), (mtt, .inl (gI g, 2000, .inl tf)), (mcd, .inl (gI g, 600, .inl c1)), (mat, .inl (gI g, 40, .inl t1)), (msz, .inl (gI g, 40, .inl t2)), (mvl, .inl (gI g, 40, .inl t3)), (mcs, .inl (gI g, 600, .inl y1)), (mkn, .inl (gC g, 32, .inl kf)), (mjp, .inl (gC g, 28, .inl jf)), (mds, .inl (gC g, 19, .inl df))]) hD hS hA [0, 1, 2, 3, 4, 5, 6, 7, 8, 9] rfl
              refine sd_ci (va_runV (As := [.int (nI k), .int (nI (e9 - k)), .int (nI h9)]) (rest := []) ⟨hx, hb, hml, hown, hts⟩ (c_Mod_instruction l g m0 mtt mcd mat msz mvl mcs mmm mkn mjp mds (nI 0) (nI n) (-1) (nI 0) (nI 0) (nI 0) (nI 0) kf hRk jf hRj df hRd n tf tx hT st c1 y1 t1 t2 t3 hMP hSR hSB k (e9 - k) h9 hh1 (by omega) (by omega) (fun j h5 h6 h7 => k3 j h5 (by omega) (Or.inr (Or.inl (Or.inr (Or.inr h7))))) H.size) (cwV 3 hts (sd_gV k_576 k_578 k_11 k_30 k_579) rfl rfl rfl (by decide +kernel) ⟨Nat.le_of_ble_eq_true rfl, Nat.le_of_ble_eq_true rfl⟩) (sd_preVU hK hE hS hA0 hs0 hPc hDc rfl rfl) rfl rfl hl.1 rfl (lv_room (Nat.le_of_ble_eq_true rfl)) d_Mod_read_179 ⟨Nat.zero_le _, Nat.zero_le _⟩) hS hFc (fun r12 u H1 locs hw hP1 hD1 hk1 hS => ?_)
              obtain ⟨st2, c2, y2, u1, u2, u3⟩ := u
              obtain ⟨hP, hD⟩ := va_join (wr := [(mmm, .inl (gI g, 32768, .inl M0))]) (w1 := [(m0, .inr (8, [.ref mtt, .int (nI 0), .int (nI n), .int (-1), .int (nI (wn st2)), .ref mcd, .int (nI (sn st2)), .ref mat, .ref msz, .ref mvl, .ref mcs, .ref mmm, .int (nI 0), .int (nI 0), .int (nI 0), .int (nI 0), .ref mkn, .ref mjp, .ref mds])), (mtt, .inl (gI g, 2000, .inl tf)), (mcd, .inl (gI g, 600, .inl c2)), (mat, .inl (gI g, 40, .inl u1)), (msz, .inl (gI g, 40, .inl u2)), (mvl, .inl (gI g, 40, .inl u3)), (mcs, .inl (gI g, 600, .inl y2)), (mkn, .inl (gC g, 32, .inl kf)), (mjp, .inl (gC g, 28, .inl jf)), (mds, .inl (gC g, 19, .inl df))]) hP hD [0, 1, 2, 3, 4, 5, 6, 7, 8, 9] [10] rfl rfl (by decide) (by decide) hk1 hFc hP1 hD1
              clear hPc hDc hFc hk1 hP1 hD1
              generalize H1 = H at hP hS ⊢
              have hP : sdP g [(mmm, .inl (gI g, 32768, .inl M0)), (m0, .inr (8, [.ref mtt, .int (nI 0), .int (nI n), .int (-1), .int (nI (wn st2)), .ref mcd, .int (nI (sn st2)), .ref mat, .ref msz, .ref mvl, .ref mcs, .ref mmm, .int (nI 0), .int (nI 0), .int (nI 0), .int (nI 0), .ref mkn, .ref mjp, .ref mds])), (mtt, .inl (gI g, 2000, .inl tf)), (mcd, .inl (gI g, 600, .inl c2)), (mat, .inl (gI g, 40, .inl u1)), (msz, .inl (gI g, 40, .inl u2)), (mvl, .inl (gI g, 40, .inl u3)), (mcs, .inl (gI g, 600, .inl y2)), (mkn, .inl (gC g, 32, .inl kf)), (mjp, .inl (gC g, 28, .inl jf)), (mds, .inl (gC g, 19, .inl df))] H := hP
              have hD : va_D A [(mmm, .inl (gI g, 32768, .inl M0)), (m0, .inr (8, [.ref mtt, .int (nI 0), .int (nI n), .int (-1), .int (nI (wn st2)), .ref mcd, .int (nI (sn st2)), .ref mat, .ref msz, .ref mvl, .ref mcs, .ref mmm, .int (nI 0), .int (nI 0), .int (nI 0), .int (nI 0), .ref mkn, .ref mjp, .ref mds])), (mtt, .inl (gI g, 2000, .inl tf)), (mcd, .inl (gI g, 600, .inl c2)), (mat, .inl (gI g, 40, .inl u1)), (msz, .inl (gI g, 40, .inl u2)), (mvl, .inl (gI g, 40, .inl u3)), (mcs, .inl (gI g, 600, .inl y2)), (mkn, .inl (gC g, 32, .inl kf)), (mjp, .inl (gC g, 28, .inl jf)), (mds, .inl (gC g, 19, .inl df))] := hD
              obtain ⟨hw1, hw2, hMP2, hSR2, hSB2⟩ := hw
              have hMP2 : MPR st2 c2 y2 := hMP2
              have hSR2 : SR st2 u1 u2 u3 := hSR2
              have hSB2 : SB n st2 := hSB2
              by_cases hh : h9 = 0
              · obtain ⟨c8, hc8, rfl⟩ := hw2 hh
                have hc8 : spTake tx k (k + (e9 - k)) st = (c8, st2) := hc8
                rw [show k + (e9 - k) = e9 by omega] at hc8
                have hc83 : c8 ≤ 3 := by have h := spTake_3 (tx := tx) (a := k) (e := e9) (st := st); rw [hc8] at h; exact h
                rw [hh] at hRes
                have hRes := hRes.trans (asm_take (f := f1) hk hns k1 k2 k3 k4 hc8)
                refine lv_istore (lv' := [(5, .int (nI c8)), (4, .int (nI e9)), (2, .int (nI k)), (1, .int (nI h9)), (0, .ref m0)]) hx hb d_Mod_read_182 hl (by decide) rfl (fun ls hl => ?_)
                refine lv_iload hx hb d_Mod_read_184 (lv_at hl 0 rfl) ?_
                refine lv_if_le (tgt := 207) hx hb d_Mod_read_186 (by decide) (fun c13 => ?_) (fun c13 => ?_)
                · have hc0 : c8 = 0 := by have := (nI_leI (b := 0) (by omega) (by omega)).mp c13; omega
                  rw [if_pos hc0] at hRes
                  refine lv_iconst (v := (nI 1)) hx hb d_Mod_read_207 (by decide) ?_
                  refine lv_istore_n (lv' := [(1, .int (nI 1)), (5, .int (nI c8)), (4, .int (nI e9)), (2, .int (nI k)), (0, .ref m0)]) hx hb d_Mod_read_208 rfl hl (by decide) rfl (fun ls hl => ?_)
                  refine lv_iload hx hb d_Mod_read_209 (lv_at hl 2 rfl) ?_
                  refine lv_istore_n (lv' := [(2, .int (nI e9)), (1, .int (nI 1)), (5, .int (nI c8)), (4, .int (nI e9)), (0, .ref m0)]) hx hb d_Mod_read_211 rfl hl (by decide) rfl (fun ls hl => ?_)
                  refine lv_goto (tgt := 26) hx hb d_Mod_read_212 (by decide) ?_
                  exact ih (H, locs, ls, e9, 1, st2, c2, y2, u1, u2, u3) ⟨lv_sub hl [0, 1, 4] rfl, hP.sub [1, 2, 3, 4, 5, 6, 7, 8, 9, 10, 0] rfl, hD.sub [1, 2, 3, 4, 5, 6, 7, 8, 9, 10, 0] (by decide) rfl, hS, k2, Nat.le_refl _, hMP2, hSR2, hSB2, ⟨f1, by omega, hRes⟩⟩ (show n - e9 < n - k by omega)
                · have hc0 : ¬ c8 = 0 := fun q => c13 (by rw [q]; decide)
                  rw [if_neg hc0] at hRes
                  refine lv_aload_n hx hb d_Mod_read_189 rfl (lv_at hl 4 rfl) ?_
                  refine lv_iload_n hx hb d_Mod_read_190 rfl (lv_at hl 2 rfl) ?_
                  refine va_put (D := g.1) (ci := 8) (v := .int (nI k)) (ty := .int) (C := "SignDeskModel") (T := F_Mod) (N := 19) hx hb hts in_Mod t_Mod t_Mod_ok n_Mod hown hK hP hD hS 1 rfl rfl 3 (by decide) (hts _ k_497) (fun _ h9 => h9) rfl (by decide +kernel) rfl rfl (Nat.le_of_ble_eq_true rfl) d_Mod_read_191 (fun H locs hP hD hS => ?_)
                  have hP : sdP g [(mmm, .inl (gI g, 32768, .inl M0)), (m0, .inr (8, [.ref mtt, .int (nI 0), .int (nI n), .int (nI k), .int (nI (wn st2)), .ref mcd, .int (nI (sn st2)), .ref mat, .ref msz, .ref mvl, .ref mcs, .ref mmm, .int (nI 0), .int (nI 0), .int (nI 0), .int (nI 0), .ref mkn, .ref mjp, .ref mds])), (mtt, .inl (gI g, 2000, .inl tf)), (mcd, .inl (gI g, 600, .inl c2)), (mat, .inl (gI g, 40, .inl u1)), (msz, .inl (gI g, 40, .inl u2)), (mvl, .inl (gI g, 40, .inl u3)), (mcs, .inl (gI g, 600, .inl y2)), (mkn, .inl (gC g, 32, .inl kf)), (mjp, .inl (gC g, 28, .inl jf)), (mds, .inl (gC g, 19, .inl df))] H := hP
                  have hD : va_D A [(mmm, .inl (gI g, 32768, .inl M0)), (m0, .inr (8, [.ref mtt, .int (nI 0), .int (nI n), .int (nI k), .int (nI (wn st2)), .ref mcd, .int (nI (sn st2)), .ref mat, .ref msz, .ref mvl, .ref mcs, .ref mmm, .int (nI 0), .int (nI 0), .int (nI 0), .int (nI 0), .ref mkn, .ref mjp, .ref mds])), (mtt, .inl (gI g, 2000, .inl tf)), (mcd, .inl (gI g, 600, .inl c2)), (mat, .inl (gI g, 40, .inl u1)), (msz, .inl (gI g, 40, .inl u2)), (mvl, .inl (gI g, 40, .inl u3)), (mcs, .inl (gI g, 600, .inl y2)), (mkn, .inl (gC g, 32, .inl kf)), (mjp, .inl (gC g, 28, .inl jf)), (mds, .inl (gC g, 19, .inl df))] := hD
                  refine lv_aload_n hx hb d_Mod_read_194 rfl (lv_at hl 4 rfl) ?_
                  refine lv_iconst (v := (nI 0)) hx hb d_Mod_read_195 (by decide) ?_
                  refine va_put (D := g.1) (ci := 8) (v := .int (nI 0)) (ty := .int) (C := "SignDeskModel") (T := F_Mod) (N := 19) hx hb hts in_Mod t_Mod t_Mod_ok n_Mod hown hK hP hD hS 1 rfl rfl 4 (by decide) (hts _ k_498) (fun _ h9 => h9) rfl (by decide +kernel) rfl rfl (Nat.le_of_ble_eq_true rfl) d_Mod_read_196 (fun H locs hP hD hS => ?_)
                  have hP : sdP g [(mmm, .inl (gI g, 32768, .inl M0)), (m0, .inr (8, [.ref mtt, .int (nI 0), .int (nI n), .int (nI k), .int (nI 0), .ref mcd, .int (nI (sn st2)), .ref mat, .ref msz, .ref mvl, .ref mcs, .ref mmm, .int (nI 0), .int (nI 0), .int (nI 0), .int (nI 0), .ref mkn, .ref mjp, .ref mds])), (mtt, .inl (gI g, 2000, .inl tf)), (mcd, .inl (gI g, 600, .inl c2)), (mat, .inl (gI g, 40, .inl u1)), (msz, .inl (gI g, 40, .inl u2)), (mvl, .inl (gI g, 40, .inl u3)), (mcs, .inl (gI g, 600, .inl y2)), (mkn, .inl (gC g, 32, .inl kf)), (mjp, .inl (gC g, 28, .inl jf)), (mds, .inl (gC g, 19, .inl df))] H := hP
                  have hD : va_D A [(mmm, .inl (gI g, 32768, .inl M0)), (m0, .inr (8, [.ref mtt, .int (nI 0), .int (nI n), .int (nI k), .int (nI 0), .ref mcd, .int (nI (sn st2)), .ref mat, .ref msz, .ref mvl, .ref mcs, .ref mmm, .int (nI 0), .int (nI 0), .int (nI 0), .int (nI 0), .ref mkn, .ref mjp, .ref mds])), (mtt, .inl (gI g, 2000, .inl tf)), (mcd, .inl (gI g, 600, .inl c2)), (mat, .inl (gI g, 40, .inl u1)), (msz, .inl (gI g, 40, .inl u2)), (mvl, .inl (gI g, 40, .inl u3)), (mcs, .inl (gI g, 600, .inl y2)), (mkn, .inl (gC g, 32, .inl kf)), (mjp, .inl (gC g, 28, .inl jf)), (mds, .inl (gC g, 19, .inl df))] := hD
                  refine lv_aload_n hx hb d_Mod_read_199 rfl (lv_at hl 4 rfl) ?_
                  refine lv_iconst (v := (nI 0)) hx hb d_Mod_read_200 (by decide) ?_
                  refine va_put (D := g.1) (ci := 8) (v := .int (nI 0)) (ty := .int) (C := "SignDeskModel") (T := F_Mod) (N := 19) hx hb hts in_Mod t_Mod t_Mod_ok n_Mod hown hK hP hD hS 1 rfl rfl 6 (by decide) (hts _ k_500) (fun _ h9 => h9) rfl (by decide +kernel) rfl rfl (Nat.le_of_ble_eq_true rfl) d_Mod_read_201 (fun H locs hP hD hS => ?_)
                  have hP : sdP g [(mmm, .inl (gI g, 32768, .inl M0)), (m0, .inr (8, [.ref mtt, .int (nI 0), .int (nI n), .int (nI k), .int (nI 0), .ref mcd, .int (nI 0), .ref mat, .ref msz, .ref mvl, .ref mcs, .ref mmm, .int (nI 0), .int (nI 0), .int (nI 0), .int (nI 0), .ref mkn, .ref mjp, .ref mds])), (mtt, .inl (gI g, 2000, .inl tf)), (mcd, .inl (gI g, 600, .inl c2)), (mat, .inl (gI g, 40, .inl u1)), (msz, .inl (gI g, 40, .inl u2)), (mvl, .inl (gI g, 40, .inl u3)), (mcs, .inl (gI g, 600, .inl y2)), (mkn, .inl (gC g, 32, .inl kf)), (mjp, .inl (gC g, 28, .inl jf)), (mds, .inl (gC g, 19, .inl df))] H := hP
                  have hD : va_D A [(mmm, .inl (gI g, 32768, .inl M0)), (m0, .inr (8, [.ref mtt, .int (nI 0), .int (nI n), .int (nI k), .int (nI 0), .ref mcd, .int (nI 0), .ref mat, .ref msz, .ref mvl, .ref mcs, .ref mmm, .int (nI 0), .int (nI 0), .int (nI 0), .int (nI 0), .ref mkn, .ref mjp, .ref mds])), (mtt, .inl (gI g, 2000, .inl tf)), (mcd, .inl (gI g, 600, .inl c2)), (mat, .inl (gI g, 40, .inl u1)), (msz, .inl (gI g, 40, .inl u2)), (mvl, .inl (gI g, 40, .inl u3)), (mcs, .inl (gI g, 600, .inl y2)), (mkn, .inl (gC g, 32, .inl kf)), (mjp, .inl (gC g, 28, .inl jf)), (mds, .inl (gC g, 19, .inl df))] := hD
                  refine lv_iload hx hb d_Mod_read_204 (lv_at hl 0 rfl) ?_
                  have hP9 := hP.sub (ws' := [(m0, .inr (8, [.ref mtt, .int (nI 0), .int (nI n), .int (nI k), .int (nI 0), .ref mcd, .int (nI 0), .ref mat, .ref msz, .ref mvl, .ref mcs, .ref mmm, .int (nI 0), .int (nI 0), .int (nI 0), .int (nI 0), .ref mkn, .ref mjp, .ref mds])), (mtt, .inl (gI g, 2000, .inl tf)), (mcd, .inl (gI g, 600, .inl c2)), (mat, .inl (gI g, 40, .inl u1)), (msz, .inl (gI g, 40, .inl u2)), (mvl, .inl (gI g, 40, .inl u3)), (mcs, .inl (gI g, 600, .inl y2)), (mkn, .inl (gC g, 32, .inl kf)), (mjp, .inl (gC g, 28, .inl jf)), (mds, .inl (gC g, 19, .inl df)), (mmm, .inl (gI g, 32768, .inl M0))]) [1, 2, 3, 4, 5, 6, 7, 8, 9, 10, 0] rfl
                  have hD9 := hD.sub (ws' := [(m0, .inr (8, [.ref mtt, .int (nI 0), .int (nI n), .int (nI k), .int (nI 0), .ref mcd, .int (nI 0), .ref mat, .ref msz, .ref mvl, .ref mcs, .ref mmm, .int (nI 0), .int (nI 0), .int (nI 0), .int (nI 0), .ref mkn, .ref mjp, .ref mds])), (mtt, .inl (gI g, 2000, .inl tf)), (mcd, .inl (gI g, 600, .inl c2)), (mat, .inl (gI g, 40, .inl u1)), (msz, .inl (gI g, 40, .inl u2)), (mvl, .inl (gI g, 40, .inl u3)), (mcs, .inl (gI g, 600, .inl y2)), (mkn, .inl (gC g, 32, .inl kf)), (mjp, .inl (gC g, 28, .inl jf)), (mds, .inl (gC g, 19, .inl df)), (mmm, .inl (gI g, 32768, .inl M0))]) [1, 2, 3, 4, 5, 6, 7, 8, 9, 10, 0] (by decide) rfl
                  exact W.iret (v := (nI c8)) hx hb hr (fun t ht hW => ⟨⟨_, (0, c2, nI k, 0, y2, u1, u2, u3, M0), rfl, by
                      rw [hRes]
                      exact ⟨rfl, fun h => absurd h (hc0), fun _ => ⟨rfl, rfl, rfl⟩, hM0⟩, by rw [ht]; exact hP9, by rw [hAe]; exact hD9⟩, hS.F ht⟩) hS.2.2 d_Mod_read_206
              · obtain rfl := (hw1 hh).1
                have hRes := hRes.trans (asm_had (f := f1) hk hns hh)
                refine lv_istore (lv' := [(5, .int (nI 1)), (4, .int (nI e9)), (2, .int (nI k)), (1, .int (nI h9)), (0, .ref m0)]) hx hb d_Mod_read_182 hl (by decide) rfl (fun ls hl => ?_)
                refine lv_iload hx hb d_Mod_read_184 (lv_at hl 0 rfl) ?_
                refine lv_if_le (tgt := 207) hx hb d_Mod_read_186 (by decide) (fun c14 => ?_) (fun c14 => ?_)
                · exact absurd c14 (by decide)
                · refine lv_aload_n hx hb d_Mod_read_189 rfl (lv_at hl 4 rfl) ?_
                  refine lv_iload_n hx hb d_Mod_read_190 rfl (lv_at hl 2 rfl) ?_
                  refine va_put (D := g.1) (ci := 8) (v := .int (nI k)) (ty := .int) (C := "SignDeskModel") (T := F_Mod) (N := 19) hx hb hts in_Mod t_Mod t_Mod_ok n_Mod hown hK hP hD hS 1 rfl rfl 3 (by decide) (hts _ k_497) (fun _ h9 => h9) rfl (by decide +kernel) rfl rfl (Nat.le_of_ble_eq_true rfl) d_Mod_read_191 (fun H locs hP hD hS => ?_)
                  have hP : sdP g [(mmm, .inl (gI g, 32768, .inl M0)), (m0, .inr (8, [.ref mtt, .int (nI 0), .int (nI n), .int (nI k), .int (nI (wn st2)), .ref mcd, .int (nI (sn st2)), .ref mat, .ref msz, .ref mvl, .ref mcs, .ref mmm, .int (nI 0), .int (nI 0), .int (nI 0), .int (nI 0), .ref mkn, .ref mjp, .ref mds])), (mtt, .inl (gI g, 2000, .inl tf)), (mcd, .inl (gI g, 600, .inl c2)), (mat, .inl (gI g, 40, .inl u1)), (msz, .inl (gI g, 40, .inl u2)), (mvl, .inl (gI g, 40, .inl u3)), (mcs, .inl (gI g, 600, .inl y2)), (mkn, .inl (gC g, 32, .inl kf)), (mjp, .inl (gC g, 28, .inl jf)), (mds, .inl (gC g, 19, .inl df))] H := hP
                  have hD : va_D A [(mmm, .inl (gI g, 32768, .inl M0)), (m0, .inr (8, [.ref mtt, .int (nI 0), .int (nI n), .int (nI k), .int (nI (wn st2)), .ref mcd, .int (nI (sn st2)), .ref mat, .ref msz, .ref mvl, .ref mcs, .ref mmm, .int (nI 0), .int (nI 0), .int (nI 0), .int (nI 0), .ref mkn, .ref mjp, .ref mds])), (mtt, .inl (gI g, 2000, .inl tf)), (mcd, .inl (gI g, 600, .inl c2)), (mat, .inl (gI g, 40, .inl u1)), (msz, .inl (gI g, 40, .inl u2)), (mvl, .inl (gI g, 40, .inl u3)), (mcs, .inl (gI g, 600, .inl y2)), (mkn, .inl (gC g, 32, .inl kf)), (mjp, .inl (gC g, 28, .inl jf)), (mds, .inl (gC g, 19, .inl df))] := hD
                  refine lv_aload_n hx hb d_Mod_read_194 rfl (lv_at hl 4 rfl) ?_
                  refine lv_iconst (v := (nI 0)) hx hb d_Mod_read_195 (by decide) ?_
                  refine va_put (D := g.1) (ci := 8) (v := .int (nI 0)) (ty := .int) (C := "SignDeskModel") (T := F_Mod) (N := 19) hx hb hts in_Mod t_Mod t_Mod_ok n_Mod hown hK hP hD hS 1 rfl rfl 4 (by decide) (hts _ k_498) (fun _ h9 => h9) rfl (by decide +kernel) rfl rfl (Nat.le_of_ble_eq_true rfl) d_Mod_read_196 (fun H locs hP hD hS => ?_)
                  have hP : sdP g [(mmm, .inl (gI g, 32768, .inl M0)), (m0, .inr (8, [.ref mtt, .int (nI 0), .int (nI n), .int (nI k), .int (nI 0), .ref mcd, .int (nI (sn st2)), .ref mat, .ref msz, .ref mvl, .ref mcs, .ref mmm, .int (nI 0), .int (nI 0), .int (nI 0), .int (nI 0), .ref mkn, .ref mjp, .ref mds])), (mtt, .inl (gI g, 2000, .inl tf)), (mcd, .inl (gI g, 600, .inl c2)), (mat, .inl (gI g, 40, .inl u1)), (msz, .inl (gI g, 40, .inl u2)), (mvl, .inl (gI g, 40, .inl u3)), (mcs, .inl (gI g, 600, .inl y2)), (mkn, .inl (gC g, 32, .inl kf)), (mjp, .inl (gC g, 28, .inl jf)), (mds, .inl (gC g, 19, .inl df))] H := hP
                  have hD : va_D A [(mmm, .inl (gI g, 32768, .inl M0)), (m0, .inr (8, [.ref mtt, .int (nI 0), .int (nI n), .int (nI k), .int (nI 0), .ref mcd, .int (nI (sn st2)), .ref mat, .ref msz, .ref mvl, .ref mcs, .ref mmm, .int (nI 0), .int (nI 0), .int (nI 0), .int (nI 0), .ref mkn, .ref mjp, .ref mds])), (mtt, .inl (gI g, 2000, .inl tf)), (mcd, .inl (gI g, 600, .inl c2)), (mat, .inl (gI g, 40, .inl u1)), (msz, .inl (gI g, 40, .inl u2)), (mvl, .inl (gI g, 40, .inl u3)), (mcs, .inl (gI g, 600, .inl y2)), (mkn, .inl (gC g, 32, .inl kf)), (mjp, .inl (gC g, 28, .inl jf)), (mds, .inl (gC g, 19, .inl df))] := hD
                  refine lv_aload_n hx hb d_Mod_read_199 rfl (lv_at hl 4 rfl) ?_
                  refine lv_iconst (v := (nI 0)) hx hb d_Mod_read_200 (by decide) ?_
                  refine va_put (D := g.1) (ci := 8) (v := .int (nI 0)) (ty := .int) (C := "SignDeskModel") (T := F_Mod) (N := 19) hx hb hts in_Mod t_Mod t_Mod_ok n_Mod hown hK hP hD hS 1 rfl rfl 6 (by decide) (hts _ k_500) (fun _ h9 => h9) rfl (by decide +kernel) rfl rfl (Nat.le_of_ble_eq_true rfl) d_Mod_read_201 (fun H locs hP hD hS => ?_)
                  have hP : sdP g [(mmm, .inl (gI g, 32768, .inl M0)), (m0, .inr (8, [.ref mtt, .int (nI 0), .int (nI n), .int (nI k), .int (nI 0), .ref mcd, .int (nI 0), .ref mat, .ref msz, .ref mvl, .ref mcs, .ref mmm, .int (nI 0), .int (nI 0), .int (nI 0), .int (nI 0), .ref mkn, .ref mjp, .ref mds])), (mtt, .inl (gI g, 2000, .inl tf)), (mcd, .inl (gI g, 600, .inl c2)), (mat, .inl (gI g, 40, .inl u1)), (msz, .inl (gI g, 40, .inl u2)), (mvl, .inl (gI g, 40, .inl u3)), (mcs, .inl (gI g, 600, .inl y2)), (mkn, .inl (gC g, 32, .inl kf)), (mjp, .inl (gC g, 28, .inl jf)), (mds, .inl (gC g, 19, .inl df))] H := hP
                  have hD : va_D A [(mmm, .inl (gI g, 32768, .inl M0)), (m0, .inr (8, [.ref mtt, .int (nI 0), .int (nI n), .int (nI k), .int (nI 0), .ref mcd, .int (nI 0), .ref mat, .ref msz, .ref mvl, .ref mcs, .ref mmm, .int (nI 0), .int (nI 0), .int (nI 0), .int (nI 0), .ref mkn, .ref mjp, .ref mds])), (mtt, .inl (gI g, 2000, .inl tf)), (mcd, .inl (gI g, 600, .inl c2)), (mat, .inl (gI g, 40, .inl u1)), (msz, .inl (gI g, 40, .inl u2)), (mvl, .inl (gI g, 40, .inl u3)), (mcs, .inl (gI g, 600, .inl y2)), (mkn, .inl (gC g, 32, .inl kf)), (mjp, .inl (gC g, 28, .inl jf)), (mds, .inl (gC g, 19, .inl df))] := hD
                  refine lv_iload hx hb d_Mod_read_204 (lv_at hl 0 rfl) ?_
                  have hP9 := hP.sub (ws' := [(m0, .inr (8, [.ref mtt, .int (nI 0), .int (nI n), .int (nI k), .int (nI 0), .ref mcd, .int (nI 0), .ref mat, .ref msz, .ref mvl, .ref mcs, .ref mmm, .int (nI 0), .int (nI 0), .int (nI 0), .int (nI 0), .ref mkn, .ref mjp, .ref mds])), (mtt, .inl (gI g, 2000, .inl tf)), (mcd, .inl (gI g, 600, .inl c2)), (mat, .inl (gI g, 40, .inl u1)), (msz, .inl (gI g, 40, .inl u2)), (mvl, .inl (gI g, 40, .inl u3)), (mcs, .inl (gI g, 600, .inl y2)), (mkn, .inl (gC g, 32, .inl kf)), (mjp, .inl (gC g, 28, .inl jf)), (mds, .inl (gC g, 19, .inl df)), (mmm, .inl (gI g, 32768, .inl M0))]) [1, 2, 3, 4, 5, 6, 7, 8, 9, 10, 0] rfl
                  have hD9 := hD.sub (ws' := [(m0, .inr (8, [.ref mtt, .int (nI 0), .int (nI n), .int (nI k), .int (nI 0), .ref mcd, .int (nI 0), .ref mat, .ref msz, .ref mvl, .ref mcs, .ref mmm, .int (nI 0), .int (nI 0), .int (nI 0), .int (nI 0), .ref mkn, .ref mjp, .ref mds])), (mtt, .inl (gI g, 2000, .inl tf)), (mcd, .inl (gI g, 600, .inl c2)), (mat, .inl (gI g, 40, .inl u1)), (msz, .inl (gI g, 40, .inl u2)), (mvl, .inl (gI g, 40, .inl u3)), (mcs, .inl (gI g, 600, .inl y2)), (mkn, .inl (gC g, 32, .inl kf)), (mjp, .inl (gC g, 28, .inl jf)), (mds, .inl (gC g, 19, .inl df)), (mmm, .inl (gI g, 32768, .inl M0))]) [1, 2, 3, 4, 5, 6, 7, 8, 9, 10, 0] (by decide) rfl
                  exact W.iret (v := (nI 1)) hx hb hr (fun t ht hW => ⟨⟨_, (0, c2, nI k, 0, y2, u1, u2, u3, M0), rfl, by
                      rw [hRes]
                      exact ⟨rfl, fun h => absurd h (show ¬ (1 : Nat) = 0 by decide), fun _ => ⟨rfl, rfl, rfl⟩, hM0⟩, by rw [ht]; exact hP9, by rw [hAe]; exact hD9⟩, hS.F ht⟩) hS.2.2 d_Mod_read_206
            · have c11 := (nI_eq (by omega) (by omega)).mp c11
              rw [c11] at k4
              have hcm : tx k = 47 ∧ tx (k + 1) = 47 := k4.elim (fun q => absurd q c7) (fun q => q.elim (fun q => absurd q c10) (fun q => q))
              refine sd_loopr (fun (z9 : Nat) ls => lv_has ls 6 [(2, .int (nI z9)), (1, .int (nI h9)), (0, .ref m0)] ∧ (k ≤ z9) ∧ (z9 ≤ n) ∧ (∀ j, k ≤ j → j < z9 → ¬ tx j = 10)) (fun (z9 : Nat) => n - z9) 146 [] (fun z9 ls hI ih3 => ?_) (k) ⟨lv_sub hl [1, 2, 3] rfl, Nat.le_refl _, h1, fun j h5 h6 => absurd h6 (by omega)⟩
              obtain ⟨hl, q1, q2, q3⟩ := hI
              refine lv_iload_n hx hb d_Mod_read_146 rfl (lv_at hl 0 rfl) ?_
              refine lv_aload_n hx hb d_Mod_read_147 rfl (lv_at hl 2 rfl) ?_
              refine va_get (D := g.1) (ci := 8) (v := .int (nI n)) (C := "SignDeskModel") (T := F_Mod) (N := 19) hx hb hts in_Mod hown hK hP 0 rfl rfl 2 (by decide) (hts _ k_496) (fun _ h9 => h9) rfl d_Mod_read_148 ?_
              refine lv_icmp_ge (tgt := 26) hx hb d_Mod_read_151 (by decide) (fun c15 => ?_) (fun c15 => ?_)
              · have c15 := (nI_leI (by omega) (by omega)).mp c15
                have ez : z9 = n := by omega
                have hz10 : tx z9 = 10 := by rw [ez]; exact hT.2.2.2 _ (Nat.le_refl _)
                have hkz : k < z9 := by
                  rcases Nat.lt_or_ge k z9 with q | q
                  · exact q
                  · have : z9 = k := by omega
                    rw [this] at hz10; exact absurd hz10 c7
                exact ih (H, locs, ls, z9, h9, st, c1, y1, t1, t2, t3) ⟨lv_sub hl [0, 1, 2] rfl, hP.sub [0, 1, 2, 3, 4, 5, 6, 7, 8, 9, 10] rfl, hD.sub [0, 1, 2, 3, 4, 5, 6, 7, 8, 9, 10] (by decide) rfl, hS, q2, hh1, hMP, hSR, hSB, ⟨f1, by omega, hRes.trans (asm_cm hk hcm q1 q2 q3 hz10)⟩⟩ (show n - z9 < n - k by omega)
              · have c15 := mt (nI_leI (by omega) (by omega)).mpr c15
                have hz9 : z9 < n := by omega
                refine lv_aload_n hx hb d_Mod_read_154 rfl (lv_at hl 2 rfl) ?_
                refine va_get (D := g.1) (ci := 8) (v := .ref mtt) (C := "SignDeskModel") (T := F_Mod) (N := 19) hx hb hts in_Mod hown hK hP 0 rfl rfl 0 (by decide) (hts _ k_494) (fun _ h9 => h9) rfl d_Mod_read_155 ?_
                refine lv_iload_n hx hb d_Mod_read_158 rfl (lv_at hl 0 rfl) ?_
                refine va_iald hx hb hK hP 1 1 rfl rfl (i := (nI z9)) (vp_in_nI (by omega) (by omega)) d_Mod_read_159 ?_
                refine sd_topi (y := nI (tx (z9))) (by rw [nI_clamp (by omega)]; exact hT.2.2.1 _ (by omega)) ?_
                have hb8i := hb8 (z9)
                have hb8z := hb8 z9
                refine lv_bipush (v := (nI 10)) hx hb d_Mod_read_160 (by decide) ?_
                refine lv_icmp_eq (tgt := 26) hx hb d_Mod_read_162 (by decide) (fun c16 => ?_) (fun c16 => ?_)
                · have c16 := (nI_eq (by omega) (by omega)).mp c16
                  have hz10 : tx z9 = 10 := c16
                  have hkz : k < z9 := by
                    rcases Nat.lt_or_ge k z9 with q | q
                    · exact q
                    · have : z9 = k := by omega
                      rw [this] at hz10; exact absurd hz10 c7
                  exact ih (H, locs, ls, z9, h9, st, c1, y1, t1, t2, t3) ⟨lv_sub hl [0, 1, 2] rfl, hP.sub [0, 1, 2, 3, 4, 5, 6, 7, 8, 9, 10] rfl, hD.sub [0, 1, 2, 3, 4, 5, 6, 7, 8, 9, 10] (by decide) rfl, hS, q2, hh1, hMP, hSR, hSB, ⟨f1, by omega, hRes.trans (asm_cm hk hcm q1 q2 q3 hz10)⟩⟩ (show n - z9 < n - k by omega)
                · have c16 := mt (nI_eq (by omega) (by omega)).mpr c16
                  refine lv_iload_n hx hb d_Mod_read_165 rfl (lv_at hl 0 rfl) ?_
                  refine lv_iconst (v := (nI 1)) hx hb d_Mod_read_166 (by decide) ?_
                  refine lv_iadd hx hb d_Mod_read_167 ?_
                  refine sd_topi (y := nI (z9 + 1)) (nI_add _ _) ?_
                  refine lv_istore_n (lv' := [(2, .int (nI (z9 + 1))), (1, .int (nI h9)), (0, .ref m0)]) hx hb d_Mod_read_168 rfl hl (by decide) rfl (fun ls hl => ?_)
                  refine lv_goto (tgt := 146) hx hb d_Mod_read_169 (by decide) ?_
                  exact ih3 (z9 + 1) _ ⟨lv_sub hl [0, 1, 2] rfl, by omega, by omega, fun j h5 h6 => by
                      rcases Nat.lt_or_ge j z9 with q | q
                      · exact q3 j h5 q
                      · have : j = z9 := by omega
                        subst this; exact c16⟩ (show n - (z9 + 1) < n - z9 by omega)
          · refine sd_loopr (fun (e9 : Nat) ls => lv_has ls 6 [(4, .int (nI e9)), (2, .int (nI k)), (1, .int (nI h9)), (0, .ref m0)] ∧ (k ≤ e9) ∧ (e9 ≤ n) ∧ (∀ j, k ≤ j → j < e9 → ¬ isSt tx j)) (fun (e9 : Nat) => n - e9) 72 [] (fun e9 ls hI ih2 => ?_) (k) ⟨lv_sub hl [0, 2, 3, 4] rfl, Nat.le_refl _, h1, fun j h5 h6 => absurd h6 (by omega)⟩
            obtain ⟨hl, k1, k2, k3⟩ := hI
            refine lv_iload hx hb d_Mod_read_72 (lv_at hl 0 rfl) ?_
            refine lv_aload_n hx hb d_Mod_read_74 rfl (lv_at hl 3 rfl) ?_
            refine va_get (D := g.1) (ci := 8) (v := .int (nI n)) (C := "SignDeskModel") (T := F_Mod) (N := 19) hx hb hts in_Mod hown hK hP 0 rfl rfl 2 (by decide) (hts _ k_496) (fun _ h9 => h9) rfl d_Mod_read_75 ?_
            refine lv_icmp_ge (tgt := 140) hx hb d_Mod_read_78 (by decide) (fun c11 => ?_) (fun c11 => ?_)
            · have c11 := (nI_leI (by omega) (by omega)).mp c11
              have ee : e9 = n := by omega
              exact kJ e9 _ ⟨lv_sub hl [0, 1, 2, 3] rfl, k1, k2, k3, Or.inl (by rw [ee]; exact hT.2.2.2 _ (Nat.le_refl _))⟩
            · have c11 := mt (nI_leI (by omega) (by omega)).mpr c11
              have he : e9 < n := by omega
              refine lv_aload_n hx hb d_Mod_read_81 rfl (lv_at hl 3 rfl) ?_
              refine va_get (D := g.1) (ci := 8) (v := .ref mtt) (C := "SignDeskModel") (T := F_Mod) (N := 19) hx hb hts in_Mod hown hK hP 0 rfl rfl 0 (by decide) (hts _ k_494) (fun _ h9 => h9) rfl d_Mod_read_82 ?_
              refine lv_iload hx hb d_Mod_read_85 (lv_at hl 0 rfl) ?_
              refine va_iald hx hb hK hP 1 1 rfl rfl (i := (nI e9)) (vp_in_nI (by omega) (by omega)) d_Mod_read_87 ?_
              refine sd_topi (y := nI (tx (e9))) (by rw [nI_clamp (by omega)]; exact hT.2.2.1 _ (by omega)) ?_
              have hb8i := hb8 (e9)
              have hb8e := hb8 e9
              refine lv_bipush (v := (nI 10)) hx hb d_Mod_read_88 (by decide) ?_
              refine lv_icmp_eq (tgt := 140) hx hb d_Mod_read_90 (by decide) (fun c12 => ?_) (fun c12 => ?_)
              · have c12 := (nI_eq (by omega) (by omega)).mp c12
                exact kJ e9 _ ⟨lv_sub hl [0, 1, 2, 3] rfl, k1, k2, k3, Or.inl c12⟩
              · have c12 := mt (nI_eq (by omega) (by omega)).mpr c12
                refine lv_aload_n hx hb d_Mod_read_93 rfl (lv_at hl 3 rfl) ?_
                refine va_get (D := g.1) (ci := 8) (v := .ref mtt) (C := "SignDeskModel") (T := F_Mod) (N := 19) hx hb hts in_Mod hown hK hP 0 rfl rfl 0 (by decide) (hts _ k_494) (fun _ h9 => h9) rfl d_Mod_read_94 ?_
                refine lv_iload hx hb d_Mod_read_97 (lv_at hl 0 rfl) ?_
                refine va_iald hx hb hK hP 1 1 rfl rfl (i := (nI e9)) (vp_in_nI (by omega) (by omega)) d_Mod_read_99 ?_
                refine sd_topi (y := nI (tx (e9))) (by rw [nI_clamp (by omega)]; exact hT.2.2.1 _ (by omega)) ?_
                have hb8i := hb8 (e9)
                refine sd_ri (va_runS (As := [.int (nI (tx (e9)))]) (rest := []) ⟨hx, hb, hml, hown, hts⟩ (c_Mod_isBlank l (tx e9) (hb8 e9)) (va_cwS 1 hts (sd_gS k_569 k_570 k_30 k_571) rfl rfl rfl (by decide +kernel) ⟨Nat.le_of_ble_eq_true rfl, Nat.le_of_ble_eq_true rfl⟩) preEq rfl rfl hl.1 rfl (lv_room (Nat.le_of_ble_eq_true rfl)) d_Mod_read_100 ⟨Nat.zero_le _, Nat.zero_le _⟩) (fun r13 er13 => ?_)
                subst er13
                refine lv_if_ne (tgt := 140) hx hb d_Mod_read_103 (by decide) (fun c14 => ?_) (fun c14 => ?_)
                · have c14 := sb_ne0.mp c14
                  exact kJ e9 _ ⟨lv_sub hl [0, 1, 2, 3] rfl, k1, k2, k3, Or.inr (Or.inl c14)⟩
                · have c14 := sb_eq0.mp c14
                  refine lv_aload_n hx hb d_Mod_read_106 rfl (lv_at hl 3 rfl) ?_
                  refine va_get (D := g.1) (ci := 8) (v := .ref mtt) (C := "SignDeskModel") (T := F_Mod) (N := 19) hx hb hts in_Mod hown hK hP 0 rfl rfl 0 (by decide) (hts _ k_494) (fun _ h9 => h9) rfl d_Mod_read_107 ?_
                  refine lv_iload hx hb d_Mod_read_110 (lv_at hl 0 rfl) ?_
                  refine va_iald hx hb hK hP 1 1 rfl rfl (i := (nI e9)) (vp_in_nI (by omega) (by omega)) d_Mod_read_112 ?_
                  refine sd_topi (y := nI (tx (e9))) (by rw [nI_clamp (by omega)]; exact hT.2.2.1 _ (by omega)) ?_
                  have hb8i := hb8 (e9)
                  refine lv_bipush (v := (nI 47)) hx hb d_Mod_read_113 (by decide) ?_
                  refine lv_icmp_ne (tgt := 131) hx hb d_Mod_read_115 (by decide) (fun c15 => ?_) (fun c15 => ?_)
                  · have c15 := mt (nI_eq (by omega) (by omega)).mpr c15
                    refine lv_iload hx hb d_Mod_read_131 (lv_at hl 0 rfl) ?_
                    refine lv_iconst (v := (nI 1)) hx hb d_Mod_read_133 (by decide) ?_
                    refine lv_iadd hx hb d_Mod_read_134 ?_
                    refine sd_topi (y := nI (e9 + 1)) (nI_add _ _) ?_
                    refine lv_istore (lv' := [(4, .int (nI (e9 + 1))), (2, .int (nI k)), (1, .int (nI h9)), (0, .ref m0)]) hx hb d_Mod_read_135 hl (by decide) rfl (fun ls hl => ?_)
                    refine lv_goto (tgt := 72) hx hb d_Mod_read_137 (by decide) ?_
                    exact ih2 (e9 + 1) _ ⟨lv_sub hl [0, 1, 2, 3] rfl, by omega, by omega, fun j h5 h6 => by
                        rcases Nat.lt_or_ge j e9 with q | q
                        · exact k3 j h5 q
                        · have : j = e9 := by omega
                          subst this; exact fun q9 => q9.elim c12 (fun q9 => q9.elim c14 (fun q9 => c15 q9.1))⟩ (show n - (e9 + 1) < n - e9 by omega)
                  · have c15 := (nI_eq (by omega) (by omega)).mp c15
                    refine lv_aload_n hx hb d_Mod_read_118 rfl (lv_at hl 3 rfl) ?_
                    refine lv_iload hx hb d_Mod_read_119 (lv_at hl 0 rfl) ?_
                    refine lv_iconst (v := (nI 1)) hx hb d_Mod_read_121 (by decide) ?_
                    refine lv_iadd hx hb d_Mod_read_122 ?_
                    refine sd_topi (y := nI (e9 + 1)) (nI_add _ _) ?_
                    refine sd_ri (va_runV (As := [.int (nI (e9 + 1))]) (rest := []) ⟨hx, hb, hml, hown, hts⟩ (c_Mod_at l g m0 mtt mcd mat msz mvl mcs mmm mkn mjp mds (nI 0) (-1) (nI (wn st)) (nI (sn st)) (nI 0) (nI 0) (nI 0) (nI 0) n tf tx hT (e9 + 1) (by omega)) (cwV 1 hts (sd_gV k_572 k_574 k_10 k_30 k_575) rfl rfl rfl (by decide +kernel) ⟨Nat.le_of_ble_eq_true rfl, Nat.le_of_ble_eq_true rfl⟩) (sd_preV hK hE (sd_fr hS hA0) (hP.sub (ws' := [(m0, .inr (8, [.ref mtt, .int (nI 0), .int (nI n), .int (-1), .int (nI (wn st)), .ref mcd, .int (nI (sn st)), .ref mat, .ref msz, .ref mvl, .ref mcs, .ref mmm, .int (nI 0), .int (nI 0), .int (nI 0), .int (nI 0), .ref mkn, .ref mjp, .ref mds])), (mtt, .inl (gI g, 2000, .inl tf))]) [0, 1] rfl) rfl rfl) rfl rfl hl.1 rfl (lv_room (Nat.le_of_ble_eq_true rfl)) d_Mod_read_123 ⟨Nat.zero_le _, Nat.zero_le _⟩) (fun r16 er16 => ?_)
                    have hb8f := hb8 (e9 + 1)
                    by_cases hi9 : e9 + 1 < n
                    · obtain rfl := er16.1 hi9
                      refine lv_bipush (v := (nI 47)) hx hb d_Mod_read_126 (by decide) ?_
                      refine lv_icmp_eq (tgt := 140) hx hb d_Mod_read_128 (by decide) (fun c17 => ?_) (fun c17 => ?_)
                      · have c17 := (nI_eq (by omega) (by omega)).mp c17
                        exact kJ e9 _ ⟨lv_sub hl [0, 1, 2, 3] rfl, k1, k2, k3, Or.inr (Or.inr ⟨c15, c17⟩)⟩
                      · have c17 := mt (nI_eq (by omega) (by omega)).mpr c17
                        refine lv_iload hx hb d_Mod_read_131 (lv_at hl 0 rfl) ?_
                        refine lv_iconst (v := (nI 1)) hx hb d_Mod_read_133 (by decide) ?_
                        refine lv_iadd hx hb d_Mod_read_134 ?_
                        refine sd_topi (y := nI (e9 + 1)) (nI_add _ _) ?_
                        refine lv_istore (lv' := [(4, .int (nI (e9 + 1))), (2, .int (nI k)), (1, .int (nI h9)), (0, .ref m0)]) hx hb d_Mod_read_135 hl (by decide) rfl (fun ls hl => ?_)
                        refine lv_goto (tgt := 72) hx hb d_Mod_read_137 (by decide) ?_
                        exact ih2 (e9 + 1) _ ⟨lv_sub hl [0, 1, 2, 3] rfl, by omega, by omega, fun j h5 h6 => by
                            rcases Nat.lt_or_ge j e9 with q | q
                            · exact k3 j h5 q
                            · have : j = e9 := by omega
                              subst this; exact fun q9 => q9.elim c12 (fun q9 => q9.elim c14 (fun q9 => c17 q9.2))⟩ (show n - (e9 + 1) < n - e9 by omega)
                    · obtain rfl := er16.2 hi9
                      have hx9 : tx (e9 + 1) = 10 := hT.2.2.2 _ (by omega)
                      refine lv_bipush (v := (nI 47)) hx hb d_Mod_read_126 (by decide) ?_
                      refine lv_icmp_eq (tgt := 140) hx hb d_Mod_read_128 (by decide) (fun c18 => ?_) (fun c18 => ?_)
                      · exact absurd c18 (by decide)
                      · refine lv_iload hx hb d_Mod_read_131 (lv_at hl 0 rfl) ?_
                        refine lv_iconst (v := (nI 1)) hx hb d_Mod_read_133 (by decide) ?_
                        refine lv_iadd hx hb d_Mod_read_134 ?_
                        refine sd_topi (y := nI (e9 + 1)) (nI_add _ _) ?_
                        refine lv_istore (lv' := [(4, .int (nI (e9 + 1))), (2, .int (nI k)), (1, .int (nI h9)), (0, .ref m0)]) hx hb d_Mod_read_135 hl (by decide) rfl (fun ls hl => ?_)
                        refine lv_goto (tgt := 72) hx hb d_Mod_read_137 (by decide) ?_
                        exact ih2 (e9 + 1) _ ⟨lv_sub hl [0, 1, 2, 3] rfl, by omega, by omega, fun j h5 h6 => by
                            rcases Nat.lt_or_ge j e9 with q | q
                            · exact k3 j h5 q
                            · have : j = e9 := by omega
                              subst this; exact fun q9 => q9.elim c12 (fun q9 => q9.elim c14 (fun q9 => absurd q9.2 (by omega)))⟩ (show n - (e9 + 1) < n - e9 by omega)
        · have c10 := sb_ne0.mp c10
          refine lv_iload_n hx hb d_Mod_read_62 rfl (lv_at hl 1 rfl) ?_
          refine lv_iconst (v := (nI 1)) hx hb d_Mod_read_63 (by decide) ?_
          refine lv_iadd hx hb d_Mod_read_64 ?_
          refine sd_topi (y := nI (k + 1)) (nI_add _ _) ?_
          refine lv_istore_n (lv' := [(2, .int (nI (k + 1))), (3, .int (nI (tx (k)))), (1, .int (nI h9)), (0, .ref m0)]) hx hb d_Mod_read_65 rfl hl (by decide) rfl (fun ls hl => ?_)
          refine lv_goto (tgt := 26) hx hb d_Mod_read_66 (by decide) ?_
          exact ih (H, locs, ls, k + 1, h9, st, c1, y1, t1, t2, t3) ⟨lv_sub hl [0, 2, 3] rfl, hP.sub [0, 1, 2, 3, 4, 5, 6, 7, 8, 9, 10] rfl, hD.sub [0, 1, 2, 3, 4, 5, 6, 7, 8, 9, 10] (by decide) rfl, hS, by omega, by omega, hMP, hSR, hSB, ⟨f1, by omega, hRes.trans (asm_bl hk c10)⟩⟩ (show n - (k + 1) < n - k by omega)
    · have c7 := (nI_eq (by omega) (by omega)).mp c7
      refine lv_iconst (v := (nI 0)) hx hb d_Mod_read_47 (by decide) ?_
      refine lv_istore_n (lv' := [(1, .int (nI 0)), (3, .int (nI (tx (k)))), (2, .int (nI k)), (0, .ref m0)]) hx hb d_Mod_read_48 rfl hl (by decide) rfl (fun ls hl => ?_)
      refine lv_iload_n hx hb d_Mod_read_49 rfl (lv_at hl 1 rfl) ?_
      refine lv_bipush (v := (nI 10)) hx hb d_Mod_read_50 (by decide) ?_
      refine lv_icmp_eq (tgt := 62) hx hb d_Mod_read_52 (by decide) (fun c19 => ?_) (fun c19 => ?_)
      · have c19 := (nI_eq (by omega) (by omega)).mp c19
        refine lv_iload_n hx hb d_Mod_read_62 rfl (lv_at hl 2 rfl) ?_
        refine lv_iconst (v := (nI 1)) hx hb d_Mod_read_63 (by decide) ?_
        refine lv_iadd hx hb d_Mod_read_64 ?_
        refine sd_topi (y := nI (k + 1)) (nI_add _ _) ?_
        refine lv_istore_n (lv' := [(2, .int (nI (k + 1))), (1, .int (nI 0)), (3, .int (nI (tx (k)))), (0, .ref m0)]) hx hb d_Mod_read_65 rfl hl (by decide) rfl (fun ls hl => ?_)
        refine lv_goto (tgt := 26) hx hb d_Mod_read_66 (by decide) ?_
        exact ih (H, locs, ls, k + 1, 0, st, c1, y1, t1, t2, t3) ⟨lv_sub hl [0, 1, 3] rfl, hP.sub [0, 1, 2, 3, 4, 5, 6, 7, 8, 9, 10] rfl, hD.sub [0, 1, 2, 3, 4, 5, 6, 7, 8, 9, 10] (by decide) rfl, hS, by omega, by omega, hMP, hSR, hSB, ⟨f1, by omega, hRes.trans (asm_nl hk c7)⟩⟩ (show n - (k + 1) < n - k by omega)
      · have c19 := mt (nI_eq (by omega) (by omega)).mpr c19
        exact absurd c7 c19
