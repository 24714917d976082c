set_option maxHeartbeats 4000000 in
set_option maxRecDepth 100000 in
/-- takeAddress -/
theorem c_Rdr_takeAddress (l : Launch) (g : sdG) (q3 q1 q2 q7 q5 q6 q8 q9 q10 n : Nat) (fp : Int32) (f : Nat → Int32) (tx : Nat → Nat) (hT : TXok n f tx) (st : AS) (pw s1 s2 s3 : Nat → Int32) (hPR : PR st pw) (hSR : SR st s1 s2 s3) (a z : Nat) (ha : a ≤ z) (hz : z ≤ 2000) (sz : Nat) : Met l y_Rdr_takeAddress (.code y_Rdr_takeAddress b_Rdr_takeAddress 6 (some .int) :: sdT) ({ frames := 6, cells := 0, slots := 0, locals := 134 }) (va_Pc [.ref q3, .int (nI a), .int (nI z)] (sdU g [(q3, .inr (4, [.ref q1, .ref q2, .ref q7, .int fp])), (q1, .inr (6, [.ref q5, .int (nI n)])), (q5, .inl (gB g, 2000, .inl f)), (q2, .inr (3, [.ref q6, .int (nI (wn st))])), (q6, .inl (gI g, 600, .inl pw)), (q7, .inr (5, [.ref q1, .ref q8, .ref q9, .ref q10, .int (nI (sn st))])), (q8, .inl (gI g, 40, .inl s1)), (q9, .inl (gI g, 40, .inl s2)), (q10, .inl (gI g, 40, .inl s3))] sz)) (va_Qi (S := AS × (Nat → Int32) × (Nat → Int32) × (Nat → Int32) × (Nat → Int32)) (fun r u => (∃ c, spAddr tx a z st = (c, u.1) ∧ r = nI c) ∧ PR u.1 u.2.1 ∧ SR u.1 u.2.2.1 u.2.2.2.1 u.2.2.2.2) (fun u t => sdB g [(q3, .inr (4, [.ref q1, .ref q2, .ref q7, .int fp])), (q1, .inr (6, [.ref q5, .int (nI n)])), (q5, .inl (gB g, 2000, .inl f)), (q2, .inr (3, [.ref q6, .int (nI (wn st))])), (q6, .inl (gI g, 600, .inl pw)), (q7, .inr (5, [.ref q1, .ref q8, .ref q9, .ref q10, .int (nI (sn st))])), (q8, .inl (gI g, 40, .inl s1)), (q9, .inl (gI g, 40, .inl s2)), (q10, .inl (gI g, 40, .inl s3))] sz ((fun u => [(q3, .inr (4, [.ref q1, .ref q2, .ref q7, .int fp])), (q1, .inr (6, [.ref q5, .int (nI n)])), (q5, .inl (gB g, 2000, .inl f)), (q2, .inr (3, [.ref q6, .int (nI (wn u.1))])), (q6, .inl (gI g, 600, .inl u.2.1)), (q7, .inr (5, [.ref q1, .ref q8, .ref q9, .ref q10, .int (nI (sn u.1))])), (q8, .inl (gI g, 40, .inl u.2.2.1)), (q9, .inl (gI g, 40, .inl u.2.2.2.1)), (q10, .inl (gI g, 40, .inl u.2.2.2.2))] : AS × (Nat → Int32) × (Nat → Int32) × (Nat → Int32) × (Nat → Int32) → va_W) u) t) (va_A [(q3, .inr (4, [.ref q1, .ref q2, .ref q7, .int fp])), (q1, .inr (6, [.ref q5, .int (nI n)])), (q5, .inl (gB g, 2000, .inl f)), (q2, .inr (3, [.ref q6, .int (nI (wn st))])), (q6, .inl (gI g, 600, .inl pw)), (q7, .inr (5, [.ref q1, .ref q8, .ref q9, .ref q10, .int (nI (sn st))])), (q8, .inl (gI g, 40, .inl s1)), (q9, .inl (gI g, 40, .inl s2)), (q10, .inl (gI g, 40, .inl s3))] sz)) 0 0 (va_A [(q3, .inr (4, [.ref q1, .ref q2, .ref q7, .int fp])), (q1, .inr (6, [.ref q5, .int (nI n)])), (q5, .inl (gB g, 2000, .inl f)), (q2, .inr (3, [.ref q6, .int (nI (wn st))])), (q6, .inl (gI g, 600, .inl pw)), (q7, .inr (5, [.ref q1, .ref q8, .ref q9, .ref q10, .int (nI (sn st))])), (q8, .inl (gI g, 40, .inl s1)), (q9, .inl (gI g, 40, .inl s2)), (q10, .inl (gI g, 40, .inl s3))] sz) := by
  refine Met.ofW (cc := b_Rdr_takeAddress) (maxL := 6) (ret := (some .int)) (by decide) rfl ?_
  intro p ev s m args below meth c s₁ B hml hv
  obtain ⟨rfl, hsz, hP, hK, hE, hD0, hs0⟩ := hv
  have hx := B.exec
  have hb := B.bytes
  have hr := B.returns
  have hts := fun (w : Cond) (h : w ∈ sdT) => atoms_spec (ws := (.code y_Rdr_takeAddress b_Rdr_takeAddress 6 (some .int) :: sdT)) B.pre w (List.mem_cons_of_mem _ h)
  have hown : s.vm.findClass "SignDesk$Reader" = some m.cls := findClass_of_methodNamed B.named
  have hlocks := B.notSynchronized
  subst hsz
  have hD := hD0.self (sz := s.heap.size)
  have hA0 : ∀ q : Nat, va_A [(q3, .inr (4, [.ref q1, .ref q2, .ref q7, .int fp])), (q1, .inr (6, [.ref q5, .int (nI n)])), (q5, .inl (gB g, 2000, .inl f)), (q2, .inr (3, [.ref q6, .int (nI (wn st))])), (q6, .inl (gI g, 600, .inl pw)), (q7, .inr (5, [.ref q1, .ref q8, .ref q9, .ref q10, .int (nI (sn st))])), (q8, .inl (gI g, 40, .inl s1)), (q9, .inl (gI g, 40, .inl s2)), (q10, .inl (gI g, 40, .inl s3))] s.heap.size q → gS g ≤ q := fun q h => h.elim (fun ⟨k, e, hk⟩ => hD0.2 k _ hk) (fun h => Nat.le_trans hs0 h)
  have hA : ∀ q : Nat, s.heap.size ≤ q → va_A [(q3, .inr (4, [.ref q1, .ref q2, .ref q7, .int fp])), (q1, .inr (6, [.ref q5, .int (nI n)])), (q5, .inl (gB g, 2000, .inl f)), (q2, .inr (3, [.ref q6, .int (nI (wn st))])), (q6, .inl (gI g, 600, .inl pw)), (q7, .inr (5, [.ref q1, .ref q8, .ref q9, .ref q10, .int (nI (sn st))])), (q8, .inl (gI g, 40, .inl s1)), (q9, .inl (gI g, 40, .inl s2)), (q10, .inl (gI g, 40, .inl s3))] s.heap.size q := fun q h => Or.inr h
  generalize hAe : va_A [(q3, .inr (4, [.ref q1, .ref q2, .ref q7, .int fp])), (q1, .inr (6, [.ref q5, .int (nI n)])), (q5, .inl (gB g, 2000, .inl f)), (q2, .inr (3, [.ref q6, .int (nI (wn st))])), (q6, .inl (gI g, 600, .inl pw)), (q7, .inr (5, [.ref q1, .ref q8, .ref q9, .ref q10, .int (nI (sn st))])), (q8, .inl (gI g, 40, .inl s1)), (q9, .inl (gI g, 40, .inl s2)), (q10, .inl (gI g, 40, .inl s3))] s.heap.size = A at hD hA0 hA ⊢
  have hS : va_S A s.heap s.heap [] := va_S.rf
  have hP : sdP g [(q3, .inr (4, [.ref q1, .ref q2, .ref q7, .int fp])), (q1, .inr (6, [.ref q5, .int (nI n)])), (q5, .inl (gB g, 2000, .inl f)), (q2, .inr (3, [.ref q6, .int (nI (wn st))])), (q6, .inl (gI g, 600, .inl pw)), (q7, .inr (5, [.ref q1, .ref q8, .ref q9, .ref q10, .int (nI (sn st))])), (q8, .inl (gI g, 40, .inl s1)), (q9, .inl (gI g, 40, .inl s2)), (q10, .inl (gI g, 40, .inl s3))] s.heap := hP
  have hl := lv_entry ([.ref q3, .int (nI a), .int (nI z)]) (n := 6) (Nat.le_of_ble_eq_true rfl)
  rw [lg_entry_eq]
  generalize (lg_sl ([.ref q3, .int (nI a), .int (nI z)]) ++ List.replicate (6 - (lg_sl ([.ref q3, .int (nI a), .int (nI z)])).length) Slot.unset).toArray = ls at hl ⊢
  have hl : lv_has ls 6 [(0, .ref q3), (1, .int (nI a)), (2, .int (nI z))] := hl
  have hn := hT.1
  have hb8 := hT.2.1
  have h40 := hSR.1
  have h600 := hPR.1
  refine lv_aload_n hx hb d_Rdr_takeAddress_0 rfl (lv_at hl 0 rfl) ?_
  refine va_get (D := g.1) (ci := 4) (v := .ref q1) (C := "SignDesk$Reader") (T := F_Rdr) (N := 4) hx hb hts in_Rdr hown hK hP 0 rfl rfl 0 (by decide) (hts _ k_101) (fun _ h9 => h9) rfl d_Rdr_takeAddress_1 ?_
  refine lv_iload_n hx hb d_Rdr_takeAddress_4 rfl (lv_at hl 1 rfl) ?_
  refine lv_iload_n hx hb d_Rdr_takeAddress_5 rfl (lv_at hl 2 rfl) ?_
  refine sd_ri (va_runV (As := [.int (nI a), .int (nI z)]) (rest := []) ⟨hx, hb, hml, hown, hts⟩ (c_Txt_isSymbol l g q1 q5 n f tx hT (a) (z) (by omega) (by omega)) (cwV 2 hts (sd_gV k_232 k_233 k_234 k_24 k_235) rfl rfl rfl (by decide +kernel) ⟨Nat.le_of_ble_eq_true rfl, Nat.le_of_ble_eq_true rfl⟩) (sd_preV hK hE (sd_fr hS hA0) (hP.sub (ws' := [(q1, .inr (6, [.ref q5, .int (nI n)])), (q5, .inl (gB g, 2000, .inl f))]) [1, 2] rfl) rfl rfl) rfl rfl hl.1 rfl (lv_room (Nat.le_of_ble_eq_true rfl)) d_Rdr_takeAddress_6 ⟨Nat.zero_le _, Nat.zero_le _⟩) (fun r1 er1 => ?_)
  subst er1
  refine lv_istore_n (lv' := [(3, .int (sb (syP tx (a) (z)))), (0, .ref q3), (1, .int (nI a)), (2, .int (nI z))]) hx hb d_Rdr_takeAddress_9 rfl hl (by decide) rfl (fun ls hl => ?_)
  refine lv_iload_n hx hb d_Rdr_takeAddress_10 rfl (lv_at hl 0 rfl) ?_
  refine lv_if_eq (tgt := 23) hx hb d_Rdr_takeAddress_11 (by decide) (fun c2 => ?_) (fun c2 => ?_)
  · have c2 := sb_eq0.mp c2
    refine lv_aload_n hx hb d_Rdr_takeAddress_23 rfl (lv_at hl 1 rfl) ?_
    refine va_get (D := g.1) (ci := 4) (v := .ref q1) (C := "SignDesk$Reader") (T := F_Rdr) (N := 4) hx hb hts in_Rdr hown hK hP 0 rfl rfl 0 (by decide) (hts _ k_101) (fun _ h9 => h9) rfl d_Rdr_takeAddress_24 ?_
    refine lv_iload_n hx hb d_Rdr_takeAddress_27 rfl (lv_at hl 2 rfl) ?_
    refine lv_iload_n hx hb d_Rdr_takeAddress_28 rfl (lv_at hl 3 rfl) ?_
    refine sd_ri (va_runV (As := [.int (nI a), .int (nI z)]) (rest := []) ⟨hx, hb, hml, hown, hts⟩ (c_Txt_number l g q1 q5 n f tx hT a z (by omega) (by omega)) (cwV 2 hts (sd_gV k_304 k_305 k_306 k_24 k_307) rfl rfl rfl (by decide +kernel) ⟨Nat.le_of_ble_eq_true rfl, Nat.le_of_ble_eq_true rfl⟩) (sd_preV hK hE (sd_fr hS hA0) (hP.sub (ws' := [(q1, .inr (6, [.ref q5, .int (nI n)])), (q5, .inl (gB g, 2000, .inl f))]) [1, 2] rfl) rfl rfl) rfl rfl hl.1 rfl (lv_room (Nat.le_of_ble_eq_true rfl)) d_Rdr_takeAddress_29 ⟨Nat.zero_le _, Nat.zero_le _⟩) (fun r3 er3 => ?_)
    rcases er3 with ⟨hnu, rfl⟩ | ⟨hnu, rfl⟩
    · have hnu : nuP tx a z := hnu
      have hnv : nV tx a (z - a) ≤ 32767 := hnu.2.2.2
      refine lv_istore (lv' := [(4, .int (nI (nV tx a (z - a)))), (3, .int (sb (syP tx (a) (z)))), (0, .ref q3), (1, .int (nI a)), (2, .int (nI z))]) hx hb d_Rdr_takeAddress_32 hl (by decide) rfl (fun ls hl => ?_)
      refine lv_iload_n hx hb d_Rdr_takeAddress_34 rfl (lv_at hl 1 rfl) ?_
      refine lv_if_ne (tgt := 45) hx hb d_Rdr_takeAddress_35 (by decide) (fun c4 => ?_) (fun c4 => ?_)
      · have c4 := sb_ne0.mp c4
        exact absurd c4 c2
      · have c4 := sb_eq0.mp c4
        refine lv_iload hx hb d_Rdr_takeAddress_38 (lv_at hl 0 rfl) ?_
        refine lv_if_ge (tgt := 45) hx hb d_Rdr_takeAddress_40 (by decide) (fun c5 => ?_) (fun c5 => ?_)
        · refine lv_aload_n hx hb d_Rdr_takeAddress_45 rfl (lv_at hl 2 rfl) ?_
          refine va_get (D := g.1) (ci := 4) (v := .ref q2) (C := "SignDesk$Reader") (T := F_Rdr) (N := 4) hx hb hts in_Rdr hown hK hP 0 rfl rfl 1 (by decide) (hts _ k_102) (fun _ h9 => h9) rfl d_Rdr_takeAddress_46 ?_
          refine sd_ri (va_runV (As := []) (rest := []) ⟨hx, hb, hml, hown, hts⟩ (c_Prg_isFull l g q2 q6 (wn st) pw hPR.1) (cwV 0 hts (sd_gV k_308 k_309 k_310 k_25 k_311) rfl rfl rfl (by decide +kernel) ⟨Nat.le_of_ble_eq_true rfl, Nat.le_of_ble_eq_true rfl⟩) (sd_preV hK hE (sd_fr hS hA0) (hP.sub (ws' := [(q2, .inr (3, [.ref q6, .int (nI (wn st))])), (q6, .inl (gI g, 600, .inl pw))]) [3, 4] rfl) rfl rfl) rfl rfl hl.1 rfl (lv_room (Nat.le_of_ble_eq_true rfl)) d_Rdr_takeAddress_49 ⟨Nat.zero_le _, Nat.zero_le _⟩) (fun r6 er6 => ?_)
          subst er6
          refine lv_if_eq (tgt := 57) hx hb d_Rdr_takeAddress_52 (by decide) (fun c7 => ?_) (fun c7 => ?_)
          · have c7 := sb_eq0.mp c7
            refine lv_iload hx hb d_Rdr_takeAddress_57 (lv_at hl 0 rfl) ?_
            refine lv_if_ge (tgt := 87) hx hb d_Rdr_takeAddress_59 (by decide) (fun c8 => ?_) (fun c8 => ?_)
            · refine lv_aload_n hx hb d_Rdr_takeAddress_87 rfl (lv_at hl 2 rfl) ?_
              refine va_get (D := g.1) (ci := 4) (v := .ref q2) (C := "SignDesk$Reader") (T := F_Rdr) (N := 4) hx hb hts in_Rdr hown hK hP 0 rfl rfl 1 (by decide) (hts _ k_102) (fun _ h9 => h9) rfl d_Rdr_takeAddress_88 ?_
              refine lv_iload hx hb d_Rdr_takeAddress_91 (lv_at hl 0 rfl) ?_
              have hPc := hP.sub (ws' := [(q2, .inr (3, [.ref q6, .int (nI (wn st))])), (q6, .inl (gI g, 600, .inl pw))]) [3, 4] rfl
              have hDc := hD.sub (ws' := [(q2, .inr (3, [.ref q6, .int (nI (wn st))])), (q6, .inl (gI g, 600, .inl pw))]) [3, 4] (by decide) rfl
              have hFc := va_free (wc := [(q2, .inr (3, [.ref q6, .int (nI (wn st))])), (q6, .inl (gI g, 600, .inl pw))]) hD hS hA [3, 4] rfl
              refine sd_cv (va_runV (As := [.int (nI (nV tx a (z - a)))]) (rest := []) ⟨hx, hb, hml, hown, hts⟩ (c_Prg_add l g q2 q6 (wn st) pw hPR.1 (nI (nV tx a (z - a))) (by omega) s.heap.size) (cwV 1 hts (sd_gV k_321 k_322 k_323 k_25 k_324) rfl rfl rfl (by decide +kernel) ⟨Nat.le_of_ble_eq_true rfl, Nat.le_of_ble_eq_true rfl⟩) (sd_preVU hK hE hS hA0 hs0 hPc hDc rfl rfl) rfl rfl hl.1 rfl (lv_room (Nat.le_of_ble_eq_true rfl)) d_Rdr_takeAddress_93 ⟨Nat.zero_le _, Nat.zero_le _⟩) hS hFc (fun u H1 locs hw hP1 hD1 hk1 hS => ?_)
              obtain ⟨hP, hD⟩ := va_join (wr := [(q3, .inr (4, [.ref q1, .ref q2, .ref q7, .int fp])), (q1, .inr (6, [.ref q5, .int (nI n)])), (q5, .inl (gB g, 2000, .inl f)), (q7, .inr (5, [.ref q1, .ref q8, .ref q9, .ref q10, .int (nI (sn st))])), (q8, .inl (gI g, 40, .inl s1)), (q9, .inl (gI g, 40, .inl s2)), (q10, .inl (gI g, 40, .inl s3))]) (w1 := [(q2, .inr (3, [.ref q6, .int (nI (wn st + 1))])), (q6, .inl (gI g, 600, .inl (upd pw (wn st) (nI (nV tx a (z - a))))))]) hP hD [3, 4] [0, 1, 2, 5, 6, 7, 8] rfl rfl (by decide) (by decide) hk1 hFc hP1 hD1
              clear hPc hDc hFc hk1 hP1 hD1
              generalize H1 = H at hP hS ⊢
              have hP : sdP g [(q3, .inr (4, [.ref q1, .ref q2, .ref q7, .int fp])), (q1, .inr (6, [.ref q5, .int (nI n)])), (q5, .inl (gB g, 2000, .inl f)), (q7, .inr (5, [.ref q1, .ref q8, .ref q9, .ref q10, .int (nI (sn st))])), (q8, .inl (gI g, 40, .inl s1)), (q9, .inl (gI g, 40, .inl s2)), (q10, .inl (gI g, 40, .inl s3)), (q2, .inr (3, [.ref q6, .int (nI (wn st + 1))])), (q6, .inl (gI g, 600, .inl (upd pw (wn st) (nI (nV tx a (z - a))))))] H := hP
              have hD : va_D A [(q3, .inr (4, [.ref q1, .ref q2, .ref q7, .int fp])), (q1, .inr (6, [.ref q5, .int (nI n)])), (q5, .inl (gB g, 2000, .inl f)), (q7, .inr (5, [.ref q1, .ref q8, .ref q9, .ref q10, .int (nI (sn st))])), (q8, .inl (gI g, 40, .inl s1)), (q9, .inl (gI g, 40, .inl s2)), (q10, .inl (gI g, 40, .inl s3)), (q2, .inr (3, [.ref q6, .int (nI (wn st + 1))])), (q6, .inl (gI g, 600, .inl (upd pw (wn st) (nI (nV tx a (z - a))))))] := hD
              refine lv_iconst (v := (nI 0)) hx hb d_Rdr_takeAddress_96 (by decide) ?_
              have hP9 := hP.sub (ws' := [(q3, .inr (4, [.ref q1, .ref q2, .ref q7, .int fp])), (q1, .inr (6, [.ref q5, .int (nI n)])), (q5, .inl (gB g, 2000, .inl f)), (q2, .inr (3, [.ref q6, .int (nI (wn st + 1))])), (q6, .inl (gI g, 600, .inl (upd pw (wn st) (nI (nV tx a (z - a)))))), (q7, .inr (5, [.ref q1, .ref q8, .ref q9, .ref q10, .int (nI (sn st))])), (q8, .inl (gI g, 40, .inl s1)), (q9, .inl (gI g, 40, .inl s2)), (q10, .inl (gI g, 40, .inl s3))]) [0, 1, 2, 7, 8, 3, 4, 5, 6] rfl
              have hD9 := hD.sub (ws' := [(q3, .inr (4, [.ref q1, .ref q2, .ref q7, .int fp])), (q1, .inr (6, [.ref q5, .int (nI n)])), (q5, .inl (gB g, 2000, .inl f)), (q2, .inr (3, [.ref q6, .int (nI (wn st + 1))])), (q6, .inl (gI g, 600, .inl (upd pw (wn st) (nI (nV tx a (z - a)))))), (q7, .inr (5, [.ref q1, .ref q8, .ref q9, .ref q10, .int (nI (sn st))])), (q8, .inl (gI g, 40, .inl s1)), (q9, .inl (gI g, 40, .inl s2)), (q10, .inl (gI g, 40, .inl s3))]) [0, 1, 2, 7, 8, 3, 4, 5, 6] (by decide) rfl
              exact W.iret (v := (nI 0)) hx hb hr (fun t ht hW => ⟨⟨_, (pushW st (nV tx a (z - a)) 0, upd pw (wn st) (nI (nV tx a (z - a))), s1, s2, s3), rfl, ⟨⟨0, by rw [spAddr, cl_f c2, cl_t hnu, if_neg c7], rfl⟩, PR_push (y := 0) hPR (by omega), hSR⟩, by rw [ht]; exact hP9, by rw [hAe]; exact hD9⟩, hS.F ht⟩) hS.2.2 d_Rdr_takeAddress_97
            · exact absurd (nI_pos' (by omega)) c8
          · have c7 := sb_ne0.mp c7
            refine lv_iconst (v := (nI 2)) hx hb d_Rdr_takeAddress_55 (by decide) ?_
            have hP9 := hP.sub (ws' := [(q3, .inr (4, [.ref q1, .ref q2, .ref q7, .int fp])), (q1, .inr (6, [.ref q5, .int (nI n)])), (q5, .inl (gB g, 2000, .inl f)), (q2, .inr (3, [.ref q6, .int (nI (wn st))])), (q6, .inl (gI g, 600, .inl pw)), (q7, .inr (5, [.ref q1, .ref q8, .ref q9, .ref q10, .int (nI (sn st))])), (q8, .inl (gI g, 40, .inl s1)), (q9, .inl (gI g, 40, .inl s2)), (q10, .inl (gI g, 40, .inl s3))]) [0, 1, 2, 3, 4, 5, 6, 7, 8] rfl
            have hD9 := hD.sub (ws' := [(q3, .inr (4, [.ref q1, .ref q2, .ref q7, .int fp])), (q1, .inr (6, [.ref q5, .int (nI n)])), (q5, .inl (gB g, 2000, .inl f)), (q2, .inr (3, [.ref q6, .int (nI (wn st))])), (q6, .inl (gI g, 600, .inl pw)), (q7, .inr (5, [.ref q1, .ref q8, .ref q9, .ref q10, .int (nI (sn st))])), (q8, .inl (gI g, 40, .inl s1)), (q9, .inl (gI g, 40, .inl s2)), (q10, .inl (gI g, 40, .inl s3))]) [0, 1, 2, 3, 4, 5, 6, 7, 8] (by decide) rfl
            exact W.iret (v := (nI 2)) hx hb hr (fun t ht hW => ⟨⟨_, (st, pw, s1, s2, s3), rfl, ⟨⟨2, by rw [spAddr, cl_f c2, cl_t hnu, if_pos c7], rfl⟩, hPR, hSR⟩, by rw [ht]; exact hP9, by rw [hAe]; exact hD9⟩, hS.F ht⟩) hS.2.2 d_Rdr_takeAddress_56
        · exact absurd (nI_pos' (by omega)) c5
    · have hnu : ¬ nuP tx a z := hnu
      refine lv_istore (lv' := [(4, .int (-1)), (3, .int (sb (syP tx (a) (z)))), (0, .ref q3), (1, .int (nI a)), (2, .int (nI z))]) hx hb d_Rdr_takeAddress_32 hl (by decide) rfl (fun ls hl => ?_)
      refine lv_iload_n hx hb d_Rdr_takeAddress_34 rfl (lv_at hl 1 rfl) ?_
      refine lv_if_ne (tgt := 45) hx hb d_Rdr_takeAddress_35 (by decide) (fun c10 => ?_) (fun c10 => ?_)
      · have c10 := sb_ne0.mp c10
        exact absurd c10 c2
      · have c10 := sb_eq0.mp c10
        refine lv_iload hx hb d_Rdr_takeAddress_38 (lv_at hl 0 rfl) ?_
        refine lv_if_ge (tgt := 45) hx hb d_Rdr_takeAddress_40 (by decide) (fun c11 => ?_) (fun c11 => ?_)
        · exact absurd c11 (by decide)
        · refine lv_iconst (v := (nI 1)) hx hb d_Rdr_takeAddress_43 (by decide) ?_
          have hP9 := hP.sub (ws' := [(q3, .inr (4, [.ref q1, .ref q2, .ref q7, .int fp])), (q1, .inr (6, [.ref q5, .int (nI n)])), (q5, .inl (gB g, 2000, .inl f)), (q2, .inr (3, [.ref q6, .int (nI (wn st))])), (q6, .inl (gI g, 600, .inl pw)), (q7, .inr (5, [.ref q1, .ref q8, .ref q9, .ref q10, .int (nI (sn st))])), (q8, .inl (gI g, 40, .inl s1)), (q9, .inl (gI g, 40, .inl s2)), (q10, .inl (gI g, 40, .inl s3))]) [0, 1, 2, 3, 4, 5, 6, 7, 8] rfl
          have hD9 := hD.sub (ws' := [(q3, .inr (4, [.ref q1, .ref q2, .ref q7, .int fp])), (q1, .inr (6, [.ref q5, .int (nI n)])), (q5, .inl (gB g, 2000, .inl f)), (q2, .inr (3, [.ref q6, .int (nI (wn st))])), (q6, .inl (gI g, 600, .inl pw)), (q7, .inr (5, [.ref q1, .ref q8, .ref q9, .ref q10, .int (nI (sn st))])), (q8, .inl (gI g, 40, .inl s1)), (q9, .inl (gI g, 40, .inl s2)), (q10, .inl (gI g, 40, .inl s3))]) [0, 1, 2, 3, 4, 5, 6, 7, 8] (by decide) rfl
          exact W.iret (v := (nI 1)) hx hb hr (fun t ht hW => ⟨⟨_, (st, pw, s1, s2, s3), rfl, ⟨⟨1, by rw [spAddr, cl_f c2, cl_f hnu], rfl⟩, hPR, hSR⟩, by rw [ht]; exact hP9, by rw [hAe]; exact hD9⟩, hS.F ht⟩) hS.2.2 d_Rdr_takeAddress_44
  · have c2 := sb_ne0.mp c2
    refine lv_aload_n hx hb d_Rdr_takeAddress_14 rfl (lv_at hl 1 rfl) ?_
    refine lv_iload_n hx hb d_Rdr_takeAddress_15 rfl (lv_at hl 2 rfl) ?_
    refine lv_iload_n hx hb d_Rdr_takeAddress_16 rfl (lv_at hl 3 rfl) ?_
    refine sd_ri (va_runV (As := [.int (nI a), .int (nI z)]) (rest := []) ⟨hx, hb, hml, hown, hts⟩ (c_Rdr_knownNumber l g q3 q1 q2 q7 q5 n fp f tx hT (a) (z) (by omega) (by omega)) (cwV 2 hts (sd_gV k_242 k_244 k_3 k_26 k_245) rfl rfl rfl (by decide +kernel) ⟨Nat.le_of_ble_eq_true rfl, Nat.le_of_ble_eq_true rfl⟩) (sd_preV hK hE (sd_fr hS hA0) (hP.sub (ws' := [(q3, .inr (4, [.ref q1, .ref q2, .ref q7, .int fp])), (q1, .inr (6, [.ref q5, .int (nI n)])), (q5, .inl (gB g, 2000, .inl f))]) [0, 1, 2] rfl) rfl rfl) rfl rfl hl.1 rfl (lv_room (Nat.le_of_ble_eq_true rfl)) d_Rdr_takeAddress_17 ⟨Nat.zero_le _, Nat.zero_le _⟩) (fun r12 er12 => ?_)
    subst er12
    have hkn := knK_le (tx := tx) (a := a) (z := z)
    refine lv_goto (tgt := 32) hx hb d_Rdr_takeAddress_20 (by decide) ?_
    refine lv_istore (lv' := [(4, .int (nI (knK tx (a) (z)) - 1)), (3, .int (sb (syP tx (a) (z)))), (0, .ref q3), (1, .int (nI a)), (2, .int (nI z))]) hx hb d_Rdr_takeAddress_32 hl (by decide) rfl (fun ls hl => ?_)
    refine lv_iload_n hx hb d_Rdr_takeAddress_34 rfl (lv_at hl 1 rfl) ?_
    refine lv_if_ne (tgt := 45) hx hb d_Rdr_takeAddress_35 (by decide) (fun c13 => ?_) (fun c13 => ?_)
    · have c13 := sb_ne0.mp c13
      refine lv_aload_n hx hb d_Rdr_takeAddress_45 rfl (lv_at hl 2 rfl) ?_
      refine va_get (D := g.1) (ci := 4) (v := .ref q2) (C := "SignDesk$Reader") (T := F_Rdr) (N := 4) hx hb hts in_Rdr hown hK hP 0 rfl rfl 1 (by decide) (hts _ k_102) (fun _ h9 => h9) rfl d_Rdr_takeAddress_46 ?_
      refine sd_ri (va_runV (As := []) (rest := []) ⟨hx, hb, hml, hown, hts⟩ (c_Prg_isFull l g q2 q6 (wn st) pw hPR.1) (cwV 0 hts (sd_gV k_308 k_309 k_310 k_25 k_311) rfl rfl rfl (by decide +kernel) ⟨Nat.le_of_ble_eq_true rfl, Nat.le_of_ble_eq_true rfl⟩) (sd_preV hK hE (sd_fr hS hA0) (hP.sub (ws' := [(q2, .inr (3, [.ref q6, .int (nI (wn st))])), (q6, .inl (gI g, 600, .inl pw))]) [3, 4] rfl) rfl rfl) rfl rfl hl.1 rfl (lv_room (Nat.le_of_ble_eq_true rfl)) d_Rdr_takeAddress_49 ⟨Nat.zero_le _, Nat.zero_le _⟩) (fun r14 er14 => ?_)
      subst er14
      refine lv_if_eq (tgt := 57) hx hb d_Rdr_takeAddress_52 (by decide) (fun c15 => ?_) (fun c15 => ?_)
      · have c15 := sb_eq0.mp c15
        refine lv_iload hx hb d_Rdr_takeAddress_57 (lv_at hl 0 rfl) ?_
        refine lv_if_ge (tgt := 87) hx hb d_Rdr_takeAddress_59 (by decide) (fun c16 => ?_) (fun c16 => ?_)
        · have hk0 : ¬ knK tx a z = 0 := fun q => absurd c16 (by rw [q]; decide)
          have ek : nI (knK tx a z) - 1 = nI (knK tx a z - 1) := m1_up hk0
          refine lv_aload_n hx hb d_Rdr_takeAddress_87 rfl (lv_at hl 2 rfl) ?_
          refine va_get (D := g.1) (ci := 4) (v := .ref q2) (C := "SignDesk$Reader") (T := F_Rdr) (N := 4) hx hb hts in_Rdr hown hK hP 0 rfl rfl 1 (by decide) (hts _ k_102) (fun _ h9 => h9) rfl d_Rdr_takeAddress_88 ?_
          refine lv_iload hx hb d_Rdr_takeAddress_91 (lv_at hl 0 rfl) ?_
          refine sd_topi (y := nI (knK tx a z - 1)) (ek) ?_
          have hPc := hP.sub (ws' := [(q2, .inr (3, [.ref q6, .int (nI (wn st))])), (q6, .inl (gI g, 600, .inl pw))]) [3, 4] rfl
          have hDc := hD.sub (ws' := [(q2, .inr (3, [.ref q6, .int (nI (wn st))])), (q6, .inl (gI g, 600, .inl pw))]) [3, 4] (by decide) rfl
          have hFc := va_free (wc := [(q2, .inr (3, [.ref q6, .int (nI (wn st))])), (q6, .inl (gI g, 600, .inl pw))]) hD hS hA [3, 4] rfl
          refine sd_cv (va_runV (As := [.int (nI (knK tx a z - 1))]) (rest := []) ⟨hx, hb, hml, hown, hts⟩ (c_Prg_add l g q2 q6 (wn st) pw hPR.1 (nI (knK tx a z - 1)) (by omega) s.heap.size) (cwV 1 hts (sd_gV k_321 k_322 k_323 k_25 k_324) rfl rfl rfl (by decide +kernel) ⟨Nat.le_of_ble_eq_true rfl, Nat.le_of_ble_eq_true rfl⟩) (sd_preVU hK hE hS hA0 hs0 hPc hDc rfl rfl) rfl rfl hl.1 rfl (lv_room (Nat.le_of_ble_eq_true rfl)) d_Rdr_takeAddress_93 ⟨Nat.zero_le _, Nat.zero_le _⟩) hS hFc (fun u H1 locs hw hP1 hD1 hk1 hS => ?_)
          obtain ⟨hP, hD⟩ := va_join (wr := [(q3, .inr (4, [.ref q1, .ref q2, .ref q7, .int fp])), (q1, .inr (6, [.ref q5, .int (nI n)])), (q5, .inl (gB g, 2000, .inl f)), (q7, .inr (5, [.ref q1, .ref q8, .ref q9, .ref q10, .int (nI (sn st))])), (q8, .inl (gI g, 40, .inl s1)), (q9, .inl (gI g, 40, .inl s2)), (q10, .inl (gI g, 40, .inl s3))]) (w1 := [(q2, .inr (3, [.ref q6, .int (nI (wn st + 1))])), (q6, .inl (gI g, 600, .inl (upd pw (wn st) (nI (knK tx a z - 1)))))]) hP hD [3, 4] [0, 1, 2, 5, 6, 7, 8] rfl rfl (by decide) (by decide) hk1 hFc hP1 hD1
          clear hPc hDc hFc hk1 hP1 hD1
          generalize H1 = H at hP hS ⊢
          have hP : sdP g [(q3, .inr (4, [.ref q1, .ref q2, .ref q7, .int fp])), (q1, .inr (6, [.ref q5, .int (nI n)])), (q5, .inl (gB g, 2000, .inl f)), (q7, .inr (5, [.ref q1, .ref q8, .ref q9, .ref q10, .int (nI (sn st))])), (q8, .inl (gI g, 40, .inl s1)), (q9, .inl (gI g, 40, .inl s2)), (q10, .inl (gI g, 40, .inl s3)), (q2, .inr (3, [.ref q6, .int (nI (wn st + 1))])), (q6, .inl (gI g, 600, .inl (upd pw (wn st) (nI (knK tx a z - 1)))))] H := hP
          have hD : va_D A [(q3, .inr (4, [.ref q1, .ref q2, .ref q7, .int fp])), (q1, .inr (6, [.ref q5, .int (nI n)])), (q5, .inl (gB g, 2000, .inl f)), (q7, .inr (5, [.ref q1, .ref q8, .ref q9, .ref q10, .int (nI (sn st))])), (q8, .inl (gI g, 40, .inl s1)), (q9, .inl (gI g, 40, .inl s2)), (q10, .inl (gI g, 40, .inl s3)), (q2, .inr (3, [.ref q6, .int (nI (wn st + 1))])), (q6, .inl (gI g, 600, .inl (upd pw (wn st) (nI (knK tx a z - 1)))))] := hD
          refine lv_iconst (v := (nI 0)) hx hb d_Rdr_takeAddress_96 (by decide) ?_
          have hP9 := hP.sub (ws' := [(q3, .inr (4, [.ref q1, .ref q2, .ref q7, .int fp])), (q1, .inr (6, [.ref q5, .int (nI n)])), (q5, .inl (gB g, 2000, .inl f)), (q2, .inr (3, [.ref q6, .int (nI (wn st + 1))])), (q6, .inl (gI g, 600, .inl (upd pw (wn st) (nI (knK tx a z - 1))))), (q7, .inr (5, [.ref q1, .ref q8, .ref q9, .ref q10, .int (nI (sn st))])), (q8, .inl (gI g, 40, .inl s1)), (q9, .inl (gI g, 40, .inl s2)), (q10, .inl (gI g, 40, .inl s3))]) [0, 1, 2, 7, 8, 3, 4, 5, 6] rfl
          have hD9 := hD.sub (ws' := [(q3, .inr (4, [.ref q1, .ref q2, .ref q7, .int fp])), (q1, .inr (6, [.ref q5, .int (nI n)])), (q5, .inl (gB g, 2000, .inl f)), (q2, .inr (3, [.ref q6, .int (nI (wn st + 1))])), (q6, .inl (gI g, 600, .inl (upd pw (wn st) (nI (knK tx a z - 1))))), (q7, .inr (5, [.ref q1, .ref q8, .ref q9, .ref q10, .int (nI (sn st))])), (q8, .inl (gI g, 40, .inl s1)), (q9, .inl (gI g, 40, .inl s2)), (q10, .inl (gI g, 40, .inl s3))]) [0, 1, 2, 7, 8, 3, 4, 5, 6] (by decide) rfl
          exact W.iret (v := (nI 0)) hx hb hr (fun t ht hW => ⟨⟨_, (pushW st (knK tx a z - 1) 0, upd pw (wn st) (nI (knK tx a z - 1)), s1, s2, s3), rfl, ⟨⟨0, by rw [spAddr, cl_t c2, if_neg c15, if_neg hk0], rfl⟩, PR_push (y := 0) hPR (by omega), hSR⟩, by rw [ht]; exact hP9, by rw [hAe]; exact hD9⟩, hS.F ht⟩) hS.2.2 d_Rdr_takeAddress_97
        · have hk0 : knK tx a z = 0 := (m1_lt (by omega)).mp (Int32.not_le.mp c16)
          refine lv_aload_n hx hb d_Rdr_takeAddress_62 rfl (lv_at hl 2 rfl) ?_
          refine va_get (D := g.1) (ci := 4) (v := .ref q7) (C := "SignDesk$Reader") (T := F_Rdr) (N := 4) hx hb hts in_Rdr hown hK hP 0 rfl rfl 2 (by decide) (hts _ k_103) (fun _ h9 => h9) rfl d_Rdr_takeAddress_63 ?_
          refine lv_iload_n hx hb d_Rdr_takeAddress_66 rfl (lv_at hl 3 rfl) ?_
          refine lv_iload_n hx hb d_Rdr_takeAddress_67 rfl (lv_at hl 4 rfl) ?_
          have hPc := hP.sub (ws' := [(q7, .inr (5, [.ref q1, .ref q8, .ref q9, .ref q10, .int (nI (sn st))])), (q8, .inl (gI g, 40, .inl s1)), (q9, .inl (gI g, 40, .inl s2)), (q10, .inl (gI g, 40, .inl s3)), (q1, .inr (6, [.ref q5, .int (nI n)])), (q5, .inl (gB g, 2000, .inl f))]) [5, 6, 7, 8, 1, 2] rfl
          have hDc := hD.sub (ws' := [(q7, .inr (5, [.ref q1, .ref q8, .ref q9, .ref q10, .int (nI (sn st))])), (q8, .inl (gI g, 40, .inl s1)), (q9, .inl (gI g, 40, .inl s2)), (q10, .inl (gI g, 40, .inl s3)), (q1, .inr (6, [.ref q5, .int (nI n)])), (q5, .inl (gB g, 2000, .inl f))]) [5, 6, 7, 8, 1, 2] (by decide) rfl
          have hFc := va_free (wc := [(q7, .inr (5, [.ref q1, .ref q8, .ref q9, .ref q10, .int (nI (sn st))])), (q8, .inl (gI g, 40, .inl s1)), (q9, .inl (gI g, 40, .inl s2)), (q10, .inl (gI g, 40, .inl s3)), (q1, .inr (6, [.ref q5, .int (nI n)])), (q5, .inl (gB g, 2000, .inl f))]) hD hS hA [5, 6, 7, 8, 1, 2] rfl
          refine sd_ci (va_runV (As := [.int (nI a), .int (nI z)]) (rest := []) ⟨hx, hb, hml, hown, hts⟩ (c_Sym_symbolOf l g q7 q1 q8 q9 q10 q5 n f tx hT st s1 s2 s3 hSR (a) (z) (by omega) (by omega) s.heap.size) (cwV 2 hts (sd_gV k_312 k_313 k_314 k_27 k_315) rfl rfl rfl (by decide +kernel) ⟨Nat.le_of_ble_eq_true rfl, Nat.le_of_ble_eq_true rfl⟩) (sd_preVU hK hE hS hA0 hs0 hPc hDc rfl rfl) rfl rfl hl.1 rfl (lv_room (Nat.le_of_ble_eq_true rfl)) d_Rdr_takeAddress_68 ⟨Nat.zero_le _, Nat.zero_le _⟩) hS hFc (fun r18 u H1 locs hw hP1 hD1 hk1 hS => ?_)
          obtain ⟨st1, t1, t2, t3⟩ := u
          obtain ⟨hP, hD⟩ := va_join (wr := [(q3, .inr (4, [.ref q1, .ref q2, .ref q7, .int fp])), (q2, .inr (3, [.ref q6, .int (nI (wn st))])), (q6, .inl (gI g, 600, .inl pw))]) (w1 := [(q7, .inr (5, [.ref q1, .ref q8, .ref q9, .ref q10, .int (nI (sn st1))])), (q8, .inl (gI g, 40, .inl t1)), (q9, .inl (gI g, 40, .inl t2)), (q10, .inl (gI g, 40, .inl t3)), (q1, .inr (6, [.ref q5, .int (nI n)])), (q5, .inl (gB g, 2000, .inl f))]) hP hD [5, 6, 7, 8, 1, 2] [0, 3, 4] rfl rfl (by decide) (by decide) hk1 hFc hP1 hD1
          clear hPc hDc hFc hk1 hP1 hD1
          generalize H1 = H at hP hS ⊢
          have hP : sdP g [(q3, .inr (4, [.ref q1, .ref q2, .ref q7, .int fp])), (q2, .inr (3, [.ref q6, .int (nI (wn st))])), (q6, .inl (gI g, 600, .inl pw)), (q7, .inr (5, [.ref q1, .ref q8, .ref q9, .ref q10, .int (nI (sn st1))])), (q8, .inl (gI g, 40, .inl t1)), (q9, .inl (gI g, 40, .inl t2)), (q10, .inl (gI g, 40, .inl t3)), (q1, .inr (6, [.ref q5, .int (nI n)])), (q5, .inl (gB g, 2000, .inl f))] H := hP
          have hD : va_D A [(q3, .inr (4, [.ref q1, .ref q2, .ref q7, .int fp])), (q2, .inr (3, [.ref q6, .int (nI (wn st))])), (q6, .inl (gI g, 600, .inl pw)), (q7, .inr (5, [.ref q1, .ref q8, .ref q9, .ref q10, .int (nI (sn st1))])), (q8, .inl (gI g, 40, .inl t1)), (q9, .inl (gI g, 40, .inl t2)), (q10, .inl (gI g, 40, .inl t3)), (q1, .inr (6, [.ref q5, .int (nI n)])), (q5, .inl (gB g, 2000, .inl f))] := hD
          obtain ⟨⟨cs, hsy, er18⟩, hSR1⟩ := hw
          have hsy : syO tx st (a) (z - (a)) = (cs, st1) := hsy
          have hSR1 : SR st1 t1 t2 t3 := hSR1
          have hst1 : st1.1 = st.1 := by have h := syO_fst (tx := tx) (st := st) (a := a) (n := z - (a)); rw [hsy] at h; exact h
          have hcs := syO_le (tx := tx) (a := a) (n := z - (a)) h40
          rw [hsy] at hcs
          have hcs1 : cs ≤ sn st1 := hcs.1
          have hcs2 : sn st1 ≤ 40 := hcs.2
          subst er18
          have hwn1 : wn st1 = wn st := by show st1.1.1 = st.1.1; rw [hst1]
          have hP : sdP g [(q3, .inr (4, [.ref q1, .ref q2, .ref q7, .int fp])), (q2, .inr (3, [.ref q6, .int (nI (wn st1))])), (q6, .inl (gI g, 600, .inl pw)), (q7, .inr (5, [.ref q1, .ref q8, .ref q9, .ref q10, .int (nI (sn st1))])), (q8, .inl (gI g, 40, .inl t1)), (q9, .inl (gI g, 40, .inl t2)), (q10, .inl (gI g, 40, .inl t3)), (q1, .inr (6, [.ref q5, .int (nI n)])), (q5, .inl (gB g, 2000, .inl f))] H := by rw [hwn1]; exact hP
          have hD : va_D A [(q3, .inr (4, [.ref q1, .ref q2, .ref q7, .int fp])), (q2, .inr (3, [.ref q6, .int (nI (wn st1))])), (q6, .inl (gI g, 600, .inl pw)), (q7, .inr (5, [.ref q1, .ref q8, .ref q9, .ref q10, .int (nI (sn st1))])), (q8, .inl (gI g, 40, .inl t1)), (q9, .inl (gI g, 40, .inl t2)), (q10, .inl (gI g, 40, .inl t3)), (q1, .inr (6, [.ref q5, .int (nI n)])), (q5, .inl (gB g, 2000, .inl f))] := by rw [hwn1]; exact hD
          refine lv_istore (lv' := [(5, .int (nI cs - 1)), (4, .int (nI (knK tx (a) (z)) - 1)), (3, .int (sb (syP tx (a) (z)))), (0, .ref q3), (1, .int (nI a)), (2, .int (nI z))]) hx hb d_Rdr_takeAddress_71 hl (by decide) rfl (fun ls hl => ?_)
          refine lv_iload hx hb d_Rdr_takeAddress_73 (lv_at hl 0 rfl) ?_
          refine lv_if_ge (tgt := 80) hx hb d_Rdr_takeAddress_75 (by decide) (fun c19 => ?_) (fun c19 => ?_)
          · have hc0 : ¬ cs = 0 := fun q => absurd c19 (by rw [q]; decide)
            refine lv_ldc (v := nI 65536) hx hb hown (hts _ k_320) d_Rdr_takeAddress_80 ?_
            refine lv_iload hx hb d_Rdr_takeAddress_82 (lv_at hl 0 rfl) ?_
            refine lv_iadd hx hb d_Rdr_takeAddress_84 ?_
            refine sd_topi (y := nI (encW 0 cs)) (by rw [m1_up hc0, nI_add, encW, if_neg hc0]; congr 1; omega) ?_
            refine lv_istore (lv' := [(4, .int (nI (encW 0 cs))), (5, .int (nI cs - 1)), (3, .int (sb (syP tx (a) (z)))), (0, .ref q3), (1, .int (nI a)), (2, .int (nI z))]) hx hb d_Rdr_takeAddress_85 hl (by decide) rfl (fun ls hl => ?_)
            refine lv_aload_n hx hb d_Rdr_takeAddress_87 rfl (lv_at hl 3 rfl) ?_
            refine va_get (D := g.1) (ci := 4) (v := .ref q2) (C := "SignDesk$Reader") (T := F_Rdr) (N := 4) hx hb hts in_Rdr hown hK hP 0 rfl rfl 1 (by decide) (hts _ k_102) (fun _ h9 => h9) rfl d_Rdr_takeAddress_88 ?_
            refine lv_iload hx hb d_Rdr_takeAddress_91 (lv_at hl 0 rfl) ?_
            have hPc := hP.sub (ws' := [(q2, .inr (3, [.ref q6, .int (nI (wn st1))])), (q6, .inl (gI g, 600, .inl pw))]) [1, 2] rfl
            have hDc := hD.sub (ws' := [(q2, .inr (3, [.ref q6, .int (nI (wn st1))])), (q6, .inl (gI g, 600, .inl pw))]) [1, 2] (by decide) rfl
            have hFc := va_free (wc := [(q2, .inr (3, [.ref q6, .int (nI (wn st1))])), (q6, .inl (gI g, 600, .inl pw))]) hD hS hA [1, 2] rfl
            refine sd_cv (va_runV (As := [.int (nI (encW 0 cs))]) (rest := []) ⟨hx, hb, hml, hown, hts⟩ (c_Prg_add l g q2 q6 (wn st1) pw (by rw [hwn1]; exact hPR.1) (nI (encW 0 cs)) (by rw [hwn1]; omega) H.size) (cwV 1 hts (sd_gV k_321 k_322 k_323 k_25 k_324) rfl rfl rfl (by decide +kernel) ⟨Nat.le_of_ble_eq_true rfl, Nat.le_of_ble_eq_true rfl⟩) (sd_preVU hK hE hS hA0 hs0 hPc hDc rfl rfl) rfl rfl hl.1 rfl (lv_room (Nat.le_of_ble_eq_true rfl)) d_Rdr_takeAddress_93 ⟨Nat.zero_le _, Nat.zero_le _⟩) hS hFc (fun u H1 locs hw hP1 hD1 hk1 hS => ?_)
            obtain ⟨hP, hD⟩ := va_join (wr := [(q3, .inr (4, [.ref q1, .ref q2, .ref q7, .int fp])), (q7, .inr (5, [.ref q1, .ref q8, .ref q9, .ref q10, .int (nI (sn st1))])), (q8, .inl (gI g, 40, .inl t1)), (q9, .inl (gI g, 40, .inl t2)), (q10, .inl (gI g, 40, .inl t3)), (q1, .inr (6, [.ref q5, .int (nI n)])), (q5, .inl (gB g, 2000, .inl f))]) (w1 := [(q2, .inr (3, [.ref q6, .int (nI (wn st1 + 1))])), (q6, .inl (gI g, 600, .inl (upd pw (wn st1) (nI (encW 0 cs)))))]) hP hD [1, 2] [0, 3, 4, 5, 6, 7, 8] rfl rfl (by decide) (by decide) hk1 hFc hP1 hD1
            clear hPc hDc hFc hk1 hP1 hD1
            generalize H1 = H at hP hS ⊢
            have hP : sdP g [(q3, .inr (4, [.ref q1, .ref q2, .ref q7, .int fp])), (q7, .inr (5, [.ref q1, .ref q8, .ref q9, .ref q10, .int (nI (sn st1))])), (q8, .inl (gI g, 40, .inl t1)), (q9, .inl (gI g, 40, .inl t2)), (q10, .inl (gI g, 40, .inl t3)), (q1, .inr (6, [.ref q5, .int (nI n)])), (q5, .inl (gB g, 2000, .inl f)), (q2, .inr (3, [.ref q6, .int (nI (wn st1 + 1))])), (q6, .inl (gI g, 600, .inl (upd pw (wn st1) (nI (encW 0 cs)))))] H := hP
            have hD : va_D A [(q3, .inr (4, [.ref q1, .ref q2, .ref q7, .int fp])), (q7, .inr (5, [.ref q1, .ref q8, .ref q9, .ref q10, .int (nI (sn st1))])), (q8, .inl (gI g, 40, .inl t1)), (q9, .inl (gI g, 40, .inl t2)), (q10, .inl (gI g, 40, .inl t3)), (q1, .inr (6, [.ref q5, .int (nI n)])), (q5, .inl (gB g, 2000, .inl f)), (q2, .inr (3, [.ref q6, .int (nI (wn st1 + 1))])), (q6, .inl (gI g, 600, .inl (upd pw (wn st1) (nI (encW 0 cs)))))] := hD
            refine lv_iconst (v := (nI 0)) hx hb d_Rdr_takeAddress_96 (by decide) ?_
            have hP9 := hP.sub (ws' := [(q3, .inr (4, [.ref q1, .ref q2, .ref q7, .int fp])), (q1, .inr (6, [.ref q5, .int (nI n)])), (q5, .inl (gB g, 2000, .inl f)), (q2, .inr (3, [.ref q6, .int (nI (wn st1 + 1))])), (q6, .inl (gI g, 600, .inl (upd pw (wn st1) (nI (encW 0 cs))))), (q7, .inr (5, [.ref q1, .ref q8, .ref q9, .ref q10, .int (nI (sn st1))])), (q8, .inl (gI g, 40, .inl t1)), (q9, .inl (gI g, 40, .inl t2)), (q10, .inl (gI g, 40, .inl t3))]) [0, 5, 6, 7, 8, 1, 2, 3, 4] rfl
            have hD9 := hD.sub (ws' := [(q3, .inr (4, [.ref q1, .ref q2, .ref q7, .int fp])), (q1, .inr (6, [.ref q5, .int (nI n)])), (q5, .inl (gB g, 2000, .inl f)), (q2, .inr (3, [.ref q6, .int (nI (wn st1 + 1))])), (q6, .inl (gI g, 600, .inl (upd pw (wn st1) (nI (encW 0 cs))))), (q7, .inr (5, [.ref q1, .ref q8, .ref q9, .ref q10, .int (nI (sn st1))])), (q8, .inl (gI g, 40, .inl t1)), (q9, .inl (gI g, 40, .inl t2)), (q10, .inl (gI g, 40, .inl t3))]) [0, 5, 6, 7, 8, 1, 2, 3, 4] (by decide) rfl
            exact W.iret (v := (nI 0)) hx hb hr (fun t ht hW => ⟨⟨_, (pushW st1 0 cs, upd pw (wn st1) (nI (encW 0 cs)), t1, t2, t3), rfl, ⟨⟨0, by rw [spAddr, cl_t c2, if_neg c15, if_pos hk0, hsy, if_neg hc0], rfl⟩, PR_push (PR_of hPR hst1) (by rw [hwn1]; omega), hSR1⟩, by rw [ht]; exact hP9, by rw [hAe]; exact hD9⟩, hS.F ht⟩) hS.2.2 d_Rdr_takeAddress_97
          · have hc0 : cs = 0 := (m1_lt (by omega)).mp (Int32.not_le.mp c19)
            refine lv_iconst (v := (nI 2)) hx hb d_Rdr_takeAddress_78 (by decide) ?_
            have hP9 := hP.sub (ws' := [(q3, .inr (4, [.ref q1, .ref q2, .ref q7, .int fp])), (q1, .inr (6, [.ref q5, .int (nI n)])), (q5, .inl (gB g, 2000, .inl f)), (q2, .inr (3, [.ref q6, .int (nI (wn st1))])), (q6, .inl (gI g, 600, .inl pw)), (q7, .inr (5, [.ref q1, .ref q8, .ref q9, .ref q10, .int (nI (sn st1))])), (q8, .inl (gI g, 40, .inl t1)), (q9, .inl (gI g, 40, .inl t2)), (q10, .inl (gI g, 40, .inl t3))]) [0, 7, 8, 1, 2, 3, 4, 5, 6] rfl
            have hD9 := hD.sub (ws' := [(q3, .inr (4, [.ref q1, .ref q2, .ref q7, .int fp])), (q1, .inr (6, [.ref q5, .int (nI n)])), (q5, .inl (gB g, 2000, .inl f)), (q2, .inr (3, [.ref q6, .int (nI (wn st1))])), (q6, .inl (gI g, 600, .inl pw)), (q7, .inr (5, [.ref q1, .ref q8, .ref q9, .ref q10, .int (nI (sn st1))])), (q8, .inl (gI g, 40, .inl t1)), (q9, .inl (gI g, 40, .inl t2)), (q10, .inl (gI g, 40, .inl t3))]) [0, 7, 8, 1, 2, 3, 4, 5, 6] (by decide) rfl
            exact W.iret (v := (nI 2)) hx hb hr (fun t ht hW => ⟨⟨_, (st1, pw, t1, t2, t3), rfl, ⟨⟨2, by rw [spAddr, cl_t c2, if_neg c15, if_pos hk0, hsy, if_pos hc0], rfl⟩, PR_of hPR hst1, hSR1⟩, by rw [ht]; exact hP9, by rw [hAe]; exact hD9⟩, hS.F ht⟩) hS.2.2 d_Rdr_takeAddress_79
      · have c15 := sb_ne0.mp c15
        refine lv_iconst (v := (nI 2)) hx hb d_Rdr_takeAddress_55 (by decide) ?_
        have hP9 := hP.sub (ws' := [(q3, .inr (4, [.ref q1, .ref q2, .ref q7, .int fp])), (q1, .inr (6, [.ref q5, .int (nI n)])), (q5, .inl (gB g, 2000, .inl f)), (q2, .inr (3, [.ref q6, .int (nI (wn st))])), (q6, .inl (gI g, 600, .inl pw)), (q7, .inr (5, [.ref q1, .ref q8, .ref q9, .ref q10, .int (nI (sn st))])), (q8, .inl (gI g, 40, .inl s1)), (q9, .inl (gI g, 40, .inl s2)), (q10, .inl (gI g, 40, .inl s3))]) [0, 1, 2, 3, 4, 5, 6, 7, 8] rfl
        have hD9 := hD.sub (ws' := [(q3, .inr (4, [.ref q1, .ref q2, .ref q7, .int fp])), (q1, .inr (6, [.ref q5, .int (nI n)])), (q5, .inl (gB g, 2000, .inl f)), (q2, .inr (3, [.ref q6, .int (nI (wn st))])), (q6, .inl (gI g, 600, .inl pw)), (q7, .inr (5, [.ref q1, .ref q8, .ref q9, .ref q10, .int (nI (sn st))])), (q8, .inl (gI g, 40, .inl s1)), (q9, .inl (gI g, 40, .inl s2)), (q10, .inl (gI g, 40, .inl s3))]) [0, 1, 2, 3, 4, 5, 6, 7, 8] (by decide) rfl
        exact W.iret (v := (nI 2)) hx hb hr (fun t ht hW => ⟨⟨_, (st, pw, s1, s2, s3), rfl, ⟨⟨2, by rw [spAddr, cl_t c2, if_pos c15], rfl⟩, hPR, hSR⟩, by rw [ht]; exact hP9, by rw [hAe]; exact hD9⟩, hS.F ht⟩) hS.2.2 d_Rdr_takeAddress_56
    · have c13 := sb_eq0.mp c13
      exact absurd c2 c13
set_option maxHeartbeats 4000000 in
set_option maxRecDepth 100000 in
/-- takeLabel -/
theorem c_Rdr_takeLabel (l : Launch) (g : sdG) (q3 q1 q2 q7 q5 q6 q8 q9 q10 n : Nat) (fp : Int32) (f : Nat → Int32) (tx : Nat → Nat) (hT : TXok n f tx) (st : AS) (pw s1 s2 s3 : Nat → Int32) (hPR : PR st pw) (hSR : SR st s1 s2 s3) (a z : Nat) (ha : a ≤ 2000) (hz : z ≤ 2000) (sz : Nat) : Met l y_Rdr_takeLabel (.code y_Rdr_takeLabel b_Rdr_takeLabel 4 (some .int) :: sdT) ({ frames := 6, cells := 0, slots := 0, locals := 134 }) (va_Pc [.ref q3, .int (nI a), .int (nI z)] (sdU g [(q3, .inr (4, [.ref q1, .ref q2, .ref q7, .int fp])), (q1, .inr (6, [.ref q5, .int (nI n)])), (q5, .inl (gB g, 2000, .inl f)), (q2, .inr (3, [.ref q6, .int (nI (wn st))])), (q6, .inl (gI g, 600, .inl pw)), (q7, .inr (5, [.ref q1, .ref q8, .ref q9, .ref q10, .int (nI (sn st))])), (q8, .inl (gI g, 40, .inl s1)), (q9, .inl (gI g, 40, .inl s2)), (q10, .inl (gI g, 40, .inl s3))] sz)) (va_Qi (S := AS × (Nat → Int32) × (Nat → Int32) × (Nat → Int32) × (Nat → Int32)) (fun r u => (∃ c, spLabel tx a z st = (c, u.1) ∧ r = nI c) ∧ PR u.1 u.2.1 ∧ SR u.1 u.2.2.1 u.2.2.2.1 u.2.2.2.2) (fun u t => sdB g [(q3, .inr (4, [.ref q1, .ref q2, .ref q7, .int fp])), (q1, .inr (6, [.ref q5, .int (nI n)])), (q5, .inl (gB g, 2000, .inl f)), (q2, .inr (3, [.ref q6, .int (nI (wn st))])), (q6, .inl (gI g, 600, .inl pw)), (q7, .inr (5, [.ref q1, .ref q8, .ref q9, .ref q10, .int (nI (sn st))])), (q8, .inl (gI g, 40, .inl s1)), (q9, .inl (gI g, 40, .inl s2)), (q10, .inl (gI g, 40, .inl s3))] sz ((fun u => [(q3, .inr (4, [.ref q1, .ref q2, .ref q7, .int fp])), (q1, .inr (6, [.ref q5, .int (nI n)])), (q5, .inl (gB g, 2000, .inl f)), (q2, .inr (3, [.ref q6, .int (nI (wn u.1))])), (q6, .inl (gI g, 600, .inl u.2.1)), (q7, .inr (5, [.ref q1, .ref q8, .ref q9, .ref q10, .int (nI (sn u.1))])), (q8, .inl (gI g, 40, .inl u.2.2.1)), (q9, .inl (gI g, 40, .inl u.2.2.2.1)), (q10, .inl (gI g, 40, .inl u.2.2.2.2))] : AS × (Nat → Int32) × (Nat → Int32) × (Nat → Int32) × (Nat → Int32) → va_W) u) t) (va_A [(q3, .inr (4, [.ref q1, .ref q2, .ref q7, .int fp])), (q1, .inr (6, [.ref q5, .int (nI n)])), (q5, .inl (gB g, 2000, .inl f)), (q2, .inr (3, [.ref q6, .int (nI (wn st))])), (q6, .inl (gI g, 600, .inl pw)), (q7, .inr (5, [.ref q1, .ref q8, .ref q9, .ref q10, .int (nI (sn st))])), (q8, .inl (gI g, 40, .inl s1)), (q9, .inl (gI g, 40, .inl s2)), (q10, .inl (gI g, 40, .inl s3))] sz)) 0 0 (va_A [(q3, .inr (4, [.ref q1, .ref q2, .ref q7, .int fp])), (q1, .inr (6, [.ref q5, .int (nI n)])), (q5, .inl (gB g, 2000, .inl f)), (q2, .inr (3, [.ref q6, .int (nI (wn st))])), (q6, .inl (gI g, 600, .inl pw)), (q7, .inr (5, [.ref q1, .ref q8, .ref q9, .ref q10, .int (nI (sn st))])), (q8, .inl (gI g, 40, .inl s1)), (q9, .inl (gI g, 40, .inl s2)), (q10, .inl (gI g, 40, .inl s3))] sz) := by
  refine Met.ofW (cc := b_Rdr_takeLabel) (maxL := 4) (ret := (some .int)) (by decide) rfl ?_
  intro p ev s m args below meth c s₁ B hml hv
  obtain ⟨rfl, hsz, hP, hK, hE, hD0, hs0⟩ := hv
  have hx := B.exec
  have hb := B.bytes
  have hr := B.returns
  have hts := fun (w : Cond) (h : w ∈ sdT) => atoms_spec (ws := (.code y_Rdr_takeLabel b_Rdr_takeLabel 4 (some .int) :: sdT)) B.pre w (List.mem_cons_of_mem _ h)
  have hown : s.vm.findClass "SignDesk$Reader" = some m.cls := findClass_of_methodNamed B.named
  have hlocks := B.notSynchronized
  subst hsz
  have hD := hD0.self (sz := s.heap.size)
  have hA0 : ∀ q : Nat, va_A [(q3, .inr (4, [.ref q1, .ref q2, .ref q7, .int fp])), (q1, .inr (6, [.ref q5, .int (nI n)])), (q5, .inl (gB g, 2000, .inl f)), (q2, .inr (3, [.ref q6, .int (nI (wn st))])), (q6, .inl (gI g, 600, .inl pw)), (q7, .inr (5, [.ref q1, .ref q8, .ref q9, .ref q10, .int (nI (sn st))])), (q8, .inl (gI g, 40, .inl s1)), (q9, .inl (gI g, 40, .inl s2)), (q10, .inl (gI g, 40, .inl s3))] s.heap.size q → gS g ≤ q := fun q h => h.elim (fun ⟨k, e, hk⟩ => hD0.2 k _ hk) (fun h => Nat.le_trans hs0 h)
  have hA : ∀ q : Nat, s.heap.size ≤ q → va_A [(q3, .inr (4, [.ref q1, .ref q2, .ref q7, .int fp])), (q1, .inr (6, [.ref q5, .int (nI n)])), (q5, .inl (gB g, 2000, .inl f)), (q2, .inr (3, [.ref q6, .int (nI (wn st))])), (q6, .inl (gI g, 600, .inl pw)), (q7, .inr (5, [.ref q1, .ref q8, .ref q9, .ref q10, .int (nI (sn st))])), (q8, .inl (gI g, 40, .inl s1)), (q9, .inl (gI g, 40, .inl s2)), (q10, .inl (gI g, 40, .inl s3))] s.heap.size q := fun q h => Or.inr h
  generalize hAe : va_A [(q3, .inr (4, [.ref q1, .ref q2, .ref q7, .int fp])), (q1, .inr (6, [.ref q5, .int (nI n)])), (q5, .inl (gB g, 2000, .inl f)), (q2, .inr (3, [.ref q6, .int (nI (wn st))])), (q6, .inl (gI g, 600, .inl pw)), (q7, .inr (5, [.ref q1, .ref q8, .ref q9, .ref q10, .int (nI (sn st))])), (q8, .inl (gI g, 40, .inl s1)), (q9, .inl (gI g, 40, .inl s2)), (q10, .inl (gI g, 40, .inl s3))] s.heap.size = A at hD hA0 hA ⊢
  have hS : va_S A s.heap s.heap [] := va_S.rf
  have hP : sdP g [(q3, .inr (4, [.ref q1, .ref q2, .ref q7, .int fp])), (q1, .inr (6, [.ref q5, .int (nI n)])), (q5, .inl (gB g, 2000, .inl f)), (q2, .inr (3, [.ref q6, .int (nI (wn st))])), (q6, .inl (gI g, 600, .inl pw)), (q7, .inr (5, [.ref q1, .ref q8, .ref q9, .ref q10, .int (nI (sn st))])), (q8, .inl (gI g, 40, .inl s1)), (q9, .inl (gI g, 40, .inl s2)), (q10, .inl (gI g, 40, .inl s3))] s.heap := hP
  have hl := lv_entry ([.ref q3, .int (nI a), .int (nI z)]) (n := 4) (Nat.le_of_ble_eq_true rfl)
  rw [lg_entry_eq]
  generalize (lg_sl ([.ref q3, .int (nI a), .int (nI z)]) ++ List.replicate (4 - (lg_sl ([.ref q3, .int (nI a), .int (nI z)])).length) Slot.unset).toArray = ls at hl ⊢
  have hl : lv_has ls 4 [(0, .ref q3), (1, .int (nI a)), (2, .int (nI z))] := hl
  have hn := hT.1
  have hb8 := hT.2.1
  have h40 := hSR.1
  have h600 := hPR.1
  refine lv_aload_n hx hb d_Rdr_takeLabel_0 rfl (lv_at hl 0 rfl) ?_
  refine va_get (D := g.1) (ci := 4) (v := .ref q1) (C := "SignDesk$Reader") (T := F_Rdr) (N := 4) hx hb hts in_Rdr hown hK hP 0 rfl rfl 0 (by decide) (hts _ k_101) (fun _ h9 => h9) rfl d_Rdr_takeLabel_1 ?_
  refine lv_iload_n hx hb d_Rdr_takeLabel_4 rfl (lv_at hl 1 rfl) ?_
  refine lv_iload_n hx hb d_Rdr_takeLabel_5 rfl (lv_at hl 2 rfl) ?_
  refine sd_ri (va_runV (As := [.int (nI a), .int (nI z)]) (rest := []) ⟨hx, hb, hml, hown, hts⟩ (c_Txt_isSymbol l g q1 q5 n f tx hT (a) (z) (by omega) (by omega)) (cwV 2 hts (sd_gV k_232 k_233 k_234 k_24 k_235) rfl rfl rfl (by decide +kernel) ⟨Nat.le_of_ble_eq_true rfl, Nat.le_of_ble_eq_true rfl⟩) (sd_preV hK hE (sd_fr hS hA0) (hP.sub (ws' := [(q1, .inr (6, [.ref q5, .int (nI n)])), (q5, .inl (gB g, 2000, .inl f))]) [1, 2] rfl) rfl rfl) rfl rfl hl.1 rfl (lv_room (Nat.le_of_ble_eq_true rfl)) d_Rdr_takeLabel_6 ⟨Nat.zero_le _, Nat.zero_le _⟩) (fun r1 er1 => ?_)
  subst er1
  refine lv_if_eq (tgt := 25) hx hb d_Rdr_takeLabel_9 (by decide) (fun c2 => ?_) (fun c2 => ?_)
  · have c2 := sb_eq0.mp c2
    refine lv_iconst (v := (nI 1)) hx hb d_Rdr_takeLabel_25 (by decide) ?_
    have hP9 := hP.sub (ws' := [(q3, .inr (4, [.ref q1, .ref q2, .ref q7, .int fp])), (q1, .inr (6, [.ref q5, .int (nI n)])), (q5, .inl (gB g, 2000, .inl f)), (q2, .inr (3, [.ref q6, .int (nI (wn st))])), (q6, .inl (gI g, 600, .inl pw)), (q7, .inr (5, [.ref q1, .ref q8, .ref q9, .ref q10, .int (nI (sn st))])), (q8, .inl (gI g, 40, .inl s1)), (q9, .inl (gI g, 40, .inl s2)), (q10, .inl (gI g, 40, .inl s3))]) [0, 1, 2, 3, 4, 5, 6, 7, 8] rfl
    have hD9 := hD.sub (ws' := [(q3, .inr (4, [.ref q1, .ref q2, .ref q7, .int fp])), (q1, .inr (6, [.ref q5, .int (nI n)])), (q5, .inl (gB g, 2000, .inl f)), (q2, .inr (3, [.ref q6, .int (nI (wn st))])), (q6, .inl (gI g, 600, .inl pw)), (q7, .inr (5, [.ref q1, .ref q8, .ref q9, .ref q10, .int (nI (sn st))])), (q8, .inl (gI g, 40, .inl s1)), (q9, .inl (gI g, 40, .inl s2)), (q10, .inl (gI g, 40, .inl s3))]) [0, 1, 2, 3, 4, 5, 6, 7, 8] (by decide) rfl
    exact W.iret (v := (nI 1)) hx hb hr (fun t ht hW => ⟨⟨_, (st, pw, s1, s2, s3), rfl, ⟨⟨1, by rw [spLabel, cl_f (fun q => c2 q.1)], rfl⟩, hPR, hSR⟩, by rw [ht]; exact hP9, by rw [hAe]; exact hD9⟩, hS.F ht⟩) hS.2.2 d_Rdr_takeLabel_26
  · have c2 := sb_ne0.mp c2
    have haz : a < z := c2.1
    refine lv_aload_n hx hb d_Rdr_takeLabel_12 rfl (lv_at hl 0 rfl) ?_
    refine va_get (D := g.1) (ci := 4) (v := .ref q1) (C := "SignDesk$Reader") (T := F_Rdr) (N := 4) hx hb hts in_Rdr hown hK hP 0 rfl rfl 0 (by decide) (hts _ k_101) (fun _ h9 => h9) rfl d_Rdr_takeLabel_13 ?_
    refine lv_iload_n hx hb d_Rdr_takeLabel_16 rfl (lv_at hl 2 rfl) ?_
    refine sd_ri (va_runV (As := [.int (nI z)]) (rest := []) ⟨hx, hb, hml, hown, hts⟩ (c_Txt_byteAt l g q1 q5 n f tx hT z (by omega)) (cwV 1 hts (sd_gV k_227 k_201 k_202 k_24 k_203) rfl rfl rfl (by decide +kernel) ⟨Nat.le_of_ble_eq_true rfl, Nat.le_of_ble_eq_true rfl⟩) (sd_preV hK hE (sd_fr hS hA0) (hP.sub (ws' := [(q1, .inr (6, [.ref q5, .int (nI n)])), (q5, .inl (gB g, 2000, .inl f))]) [1, 2] rfl) rfl rfl) rfl rfl hl.1 rfl (lv_room (Nat.le_of_ble_eq_true rfl)) d_Rdr_takeLabel_17 ⟨Nat.zero_le _, Nat.zero_le _⟩) (fun r3 er3 => ?_)
    subst er3
    have hb8z := hb8 z
    refine lv_bipush (v := (nI 41)) hx hb d_Rdr_takeLabel_20 (by decide) ?_
    refine lv_icmp_eq (tgt := 27) hx hb d_Rdr_takeLabel_22 (by decide) (fun c4 => ?_) (fun c4 => ?_)
    · have c4 := (nI_eq (by omega) (by omega)).mp c4
      refine lv_aload_n hx hb d_Rdr_takeLabel_27 rfl (lv_at hl 0 rfl) ?_
      refine lv_iload_n hx hb d_Rdr_takeLabel_28 rfl (lv_at hl 1 rfl) ?_
      refine lv_iload_n hx hb d_Rdr_takeLabel_29 rfl (lv_at hl 2 rfl) ?_
      refine sd_ri (va_runV (As := [.int (nI a), .int (nI z)]) (rest := []) ⟨hx, hb, hml, hown, hts⟩ (c_Rdr_knownNumber l g q3 q1 q2 q7 q5 n fp f tx hT (a) (z) (by omega) (by omega)) (cwV 2 hts (sd_gV k_242 k_244 k_3 k_26 k_245) rfl rfl rfl (by decide +kernel) ⟨Nat.le_of_ble_eq_true rfl, Nat.le_of_ble_eq_true rfl⟩) (sd_preV hK hE (sd_fr hS hA0) (hP.sub (ws' := [(q3, .inr (4, [.ref q1, .ref q2, .ref q7, .int fp])), (q1, .inr (6, [.ref q5, .int (nI n)])), (q5, .inl (gB g, 2000, .inl f))]) [0, 1, 2] rfl) rfl rfl) rfl rfl hl.1 rfl (lv_room (Nat.le_of_ble_eq_true rfl)) d_Rdr_takeLabel_30 ⟨Nat.zero_le _, Nat.zero_le _⟩) (fun r5 er5 => ?_)
      subst er5
      have hkn := knK_le (tx := tx) (a := a) (z := z)
      refine lv_if_lt (tgt := 38) hx hb d_Rdr_takeLabel_33 (by decide) (fun c6 => ?_) (fun c6 => ?_)
      · have hk0 : knK tx a z = 0 := (m1_lt (by omega)).mp c6
        refine lv_aload_n hx hb d_Rdr_takeLabel_38 rfl (lv_at hl 0 rfl) ?_
        refine va_get (D := g.1) (ci := 4) (v := .ref q7) (C := "SignDesk$Reader") (T := F_Rdr) (N := 4) hx hb hts in_Rdr hown hK hP 0 rfl rfl 2 (by decide) (hts _ k_103) (fun _ h9 => h9) rfl d_Rdr_takeLabel_39 ?_
        refine lv_iload_n hx hb d_Rdr_takeLabel_42 rfl (lv_at hl 1 rfl) ?_
        refine lv_iload_n hx hb d_Rdr_takeLabel_43 rfl (lv_at hl 2 rfl) ?_
        have hPc := hP.sub (ws' := [(q7, .inr (5, [.ref q1, .ref q8, .ref q9, .ref q10, .int (nI (sn st))])), (q8, .inl (gI g, 40, .inl s1)), (q9, .inl (gI g, 40, .inl s2)), (q10, .inl (gI g, 40, .inl s3)), (q1, .inr (6, [.ref q5, .int (nI n)])), (q5, .inl (gB g, 2000, .inl f))]) [5, 6, 7, 8, 1, 2] rfl
        have hDc := hD.sub (ws' := [(q7, .inr (5, [.ref q1, .ref q8, .ref q9, .ref q10, .int (nI (sn st))])), (q8, .inl (gI g, 40, .inl s1)), (q9, .inl (gI g, 40, .inl s2)), (q10, .inl (gI g, 40, .inl s3)), (q1, .inr (6, [.ref q5, .int (nI n)])), (q5, .inl (gB g, 2000, .inl f))]) [5, 6, 7, 8, 1, 2] (by decide) rfl
        have hFc := va_free (wc := [(q7, .inr (5, [.ref q1, .ref q8, .ref q9, .ref q10, .int (nI (sn st))])), (q8, .inl (gI g, 40, .inl s1)), (q9, .inl (gI g, 40, .inl s2)), (q10, .inl (gI g, 40, .inl s3)), (q1, .inr (6, [.ref q5, .int (nI n)])), (q5, .inl (gB g, 2000, .inl f))]) hD hS hA [5, 6, 7, 8, 1, 2] rfl
        refine sd_ci (va_runV (As := [.int (nI a), .int (nI z)]) (rest := []) ⟨hx, hb, hml, hown, hts⟩ (c_Sym_symbolOf l g q7 q1 q8 q9 q10 q5 n f tx hT st s1 s2 s3 hSR (a) (z) (by omega) (by omega) s.heap.size) (cwV 2 hts (sd_gV k_312 k_313 k_314 k_27 k_315) rfl rfl rfl (by decide +kernel) ⟨Nat.le_of_ble_eq_true rfl, Nat.le_of_ble_eq_true rfl⟩) (sd_preVU hK hE hS hA0 hs0 hPc hDc rfl rfl) rfl rfl hl.1 rfl (lv_room (Nat.le_of_ble_eq_true rfl)) d_Rdr_takeLabel_44 ⟨Nat.zero_le _, Nat.zero_le _⟩) hS hFc (fun r7 u H1 locs hw hP1 hD1 hk1 hS => ?_)
        obtain ⟨st1, t1, t2, t3⟩ := u
        obtain ⟨hP, hD⟩ := va_join (wr := [(q3, .inr (4, [.ref q1, .ref q2, .ref q7, .int fp])), (q2, .inr (3, [.ref q6, .int (nI (wn st))])), (q6, .inl (gI g, 600, .inl pw))]) (w1 := [(q7, .inr (5, [.ref q1, .ref q8, .ref q9, .ref q10, .int (nI (sn st1))])), (q8, .inl (gI g, 40, .inl t1)), (q9, .inl (gI g, 40, .inl t2)), (q10, .inl (gI g, 40, .inl t3)), (q1, .inr (6, [.ref q5, .int (nI n)])), (q5, .inl (gB g, 2000, .inl f))]) hP hD [5, 6, 7, 8, 1, 2] [0, 3, 4] rfl rfl (by decide) (by decide) hk1 hFc hP1 hD1
        clear hPc hDc hFc hk1 hP1 hD1
        generalize H1 = H at hP hS ⊢
        have hP : sdP g [(q3, .inr (4, [.ref q1, .ref q2, .ref q7, .int fp])), (q2, .inr (3, [.ref q6, .int (nI (wn st))])), (q6, .inl (gI g, 600, .inl pw)), (q7, .inr (5, [.ref q1, .ref q8, .ref q9, .ref q10, .int (nI (sn st1))])), (q8, .inl (gI g, 40, .inl t1)), (q9, .inl (gI g, 40, .inl t2)), (q10, .inl (gI g, 40, .inl t3)), (q1, .inr (6, [.ref q5, .int (nI n)])), (q5, .inl (gB g, 2000, .inl f))] H := hP
        have hD : va_D A [(q3, .inr (4, [.ref q1, .ref q2, .ref q7, .int fp])), (q2, .inr (3, [.ref q6, .int (nI (wn st))])), (q6, .inl (gI g, 600, .inl pw)), (q7, .inr (5, [.ref q1, .ref q8, .ref q9, .ref q10, .int (nI (sn st1))])), (q8, .inl (gI g, 40, .inl t1)), (q9, .inl (gI g, 40, .inl t2)), (q10, .inl (gI g, 40, .inl t3)), (q1, .inr (6, [.ref q5, .int (nI n)])), (q5, .inl (gB g, 2000, .inl f))] := hD
        obtain ⟨⟨cs, hsy, er7⟩, hSR1⟩ := hw
        have hsy : syO tx st (a) (z - (a)) = (cs, st1) := hsy
        have hSR1 : SR st1 t1 t2 t3 := hSR1
        have hst1 : st1.1 = st.1 := by have h := syO_fst (tx := tx) (st := st) (a := a) (n := z - (a)); rw [hsy] at h; exact h
        have hcs := syO_le (tx := tx) (a := a) (n := z - (a)) h40
        rw [hsy] at hcs
        have hcs1 : cs ≤ sn st1 := hcs.1
        have hcs2 : sn st1 ≤ 40 := hcs.2
        subst er7
        have hwn1 : wn st1 = wn st := by show st1.1.1 = st.1.1; rw [hst1]
        have hP : sdP g [(q3, .inr (4, [.ref q1, .ref q2, .ref q7, .int fp])), (q2, .inr (3, [.ref q6, .int (nI (wn st1))])), (q6, .inl (gI g, 600, .inl pw)), (q7, .inr (5, [.ref q1, .ref q8, .ref q9, .ref q10, .int (nI (sn st1))])), (q8, .inl (gI g, 40, .inl t1)), (q9, .inl (gI g, 40, .inl t2)), (q10, .inl (gI g, 40, .inl t3)), (q1, .inr (6, [.ref q5, .int (nI n)])), (q5, .inl (gB g, 2000, .inl f))] H := by rw [hwn1]; exact hP
        have hD : va_D A [(q3, .inr (4, [.ref q1, .ref q2, .ref q7, .int fp])), (q2, .inr (3, [.ref q6, .int (nI (wn st1))])), (q6, .inl (gI g, 600, .inl pw)), (q7, .inr (5, [.ref q1, .ref q8, .ref q9, .ref q10, .int (nI (sn st1))])), (q8, .inl (gI g, 40, .inl t1)), (q9, .inl (gI g, 40, .inl t2)), (q10, .inl (gI g, 40, .inl t3)), (q1, .inr (6, [.ref q5, .int (nI n)])), (q5, .inl (gB g, 2000, .inl f))] := by rw [hwn1]; exact hD
        refine lv_istore_n (lv' := [(3, .int (nI cs - 1)), (0, .ref q3), (1, .int (nI a)), (2, .int (nI z))]) hx hb d_Rdr_takeLabel_47 rfl hl (by decide) rfl (fun ls hl => ?_)
        refine lv_iload_n hx hb d_Rdr_takeLabel_48 rfl (lv_at hl 0 rfl) ?_
        refine lv_if_ge (tgt := 54) hx hb d_Rdr_takeLabel_49 (by decide) (fun c8 => ?_) (fun c8 => ?_)
        · have hc0 : ¬ cs = 0 := fun q => absurd c8 (by rw [q]; decide)
          refine lv_aload_n hx hb d_Rdr_takeLabel_54 rfl (lv_at hl 1 rfl) ?_
          refine va_get (D := g.1) (ci := 4) (v := .ref q7) (C := "SignDesk$Reader") (T := F_Rdr) (N := 4) hx hb hts in_Rdr hown hK hP 0 rfl rfl 2 (by decide) (hts _ k_103) (fun _ h9 => h9) rfl d_Rdr_takeLabel_55 ?_
          refine lv_iload_n hx hb d_Rdr_takeLabel_58 rfl (lv_at hl 0 rfl) ?_
          refine sd_topi (y := nI (cs - 1)) (m1_up hc0) ?_
          refine lv_aload_n hx hb d_Rdr_takeLabel_59 rfl (lv_at hl 1 rfl) ?_
          refine va_get (D := g.1) (ci := 4) (v := .ref q2) (C := "SignDesk$Reader") (T := F_Rdr) (N := 4) hx hb hts in_Rdr hown hK hP 0 rfl rfl 1 (by decide) (hts _ k_102) (fun _ h9 => h9) rfl d_Rdr_takeLabel_60 ?_
          refine sd_ri (va_runV (As := []) (rest := [.int (nI (cs - 1)), .ref q7]) ⟨hx, hb, hml, hown, hts⟩ (c_Prg_size l g q2 q6 (wn st1) pw (by rw [hwn1]; exact hPR.1)) (cwV 0 hts (sd_gV k_330 k_331 k_332 k_25 k_333) rfl rfl rfl (by decide +kernel) ⟨Nat.le_of_ble_eq_true rfl, Nat.le_of_ble_eq_true rfl⟩) (sd_preV hK hE (sd_fr hS hA0) (hP.sub (ws' := [(q2, .inr (3, [.ref q6, .int (nI (wn st1))])), (q6, .inl (gI g, 600, .inl pw))]) [1, 2] rfl) rfl rfl) rfl rfl hl.1 rfl (lv_room (Nat.le_of_ble_eq_true rfl)) d_Rdr_takeLabel_63 ⟨Nat.zero_le _, Nat.zero_le _⟩) (fun r9 er9 => ?_)
          subst er9
          refine sd_topi (y := nI (wn st)) (by rw [hwn1]) ?_
          have hPc := hP.sub (ws' := [(q7, .inr (5, [.ref q1, .ref q8, .ref q9, .ref q10, .int (nI (sn st1))])), (q8, .inl (gI g, 40, .inl t1)), (q9, .inl (gI g, 40, .inl t2)), (q10, .inl (gI g, 40, .inl t3))]) [3, 4, 5, 6] rfl
          have hDc := hD.sub (ws' := [(q7, .inr (5, [.ref q1, .ref q8, .ref q9, .ref q10, .int (nI (sn st1))])), (q8, .inl (gI g, 40, .inl t1)), (q9, .inl (gI g, 40, .inl t2)), (q10, .inl (gI g, 40, .inl t3))]) [3, 4, 5, 6] (by decide) rfl
          have hFc := va_free (wc := [(q7, .inr (5, [.ref q1, .ref q8, .ref q9, .ref q10, .int (nI (sn st1))])), (q8, .inl (gI g, 40, .inl t1)), (q9, .inl (gI g, 40, .inl t2)), (q10, .inl (gI g, 40, .inl t3))]) hD hS hA [3, 4, 5, 6] rfl
          refine sd_ci (va_runV (As := [.int (nI (cs - 1)), .int (nI (wn st))]) (rest := []) ⟨hx, hb, hml, hown, hts⟩ (c_Sym_tell l g q7 q1 q8 q9 q10 st1 t1 t2 t3 hSR1 (cs - 1) (wn st) (by omega) (by omega) H.size) (cwV 2 hts (sd_gV k_334 k_335 k_336 k_27 k_337) rfl rfl rfl (by decide +kernel) ⟨Nat.le_of_ble_eq_true rfl, Nat.le_of_ble_eq_true rfl⟩) (sd_preVU hK hE hS hA0 hs0 hPc hDc rfl rfl) rfl rfl hl.1 rfl (lv_room (Nat.le_of_ble_eq_true rfl)) d_Rdr_takeLabel_66 ⟨Nat.zero_le _, Nat.zero_le _⟩) hS hFc (fun r10 u H1 locs hw2 hP1 hD1 hk1 hS => ?_)
          obtain ⟨st2, t4⟩ := u
          obtain ⟨hP, hD⟩ := va_join (wr := [(q3, .inr (4, [.ref q1, .ref q2, .ref q7, .int fp])), (q2, .inr (3, [.ref q6, .int (nI (wn st1))])), (q6, .inl (gI g, 600, .inl pw)), (q1, .inr (6, [.ref q5, .int (nI n)])), (q5, .inl (gB g, 2000, .inl f))]) (w1 := [(q7, .inr (5, [.ref q1, .ref q8, .ref q9, .ref q10, .int (nI (sn st2))])), (q8, .inl (gI g, 40, .inl t1)), (q9, .inl (gI g, 40, .inl t2)), (q10, .inl (gI g, 40, .inl t4))]) hP hD [3, 4, 5, 6] [0, 1, 2, 7, 8] rfl rfl (by decide) (by decide) hk1 hFc hP1 hD1
          clear hPc hDc hFc hk1 hP1 hD1
          generalize H1 = H at hP hS ⊢
          have hP : sdP g [(q3, .inr (4, [.ref q1, .ref q2, .ref q7, .int fp])), (q2, .inr (3, [.ref q6, .int (nI (wn st1))])), (q6, .inl (gI g, 600, .inl pw)), (q1, .inr (6, [.ref q5, .int (nI n)])), (q5, .inl (gB g, 2000, .inl f)), (q7, .inr (5, [.ref q1, .ref q8, .ref q9, .ref q10, .int (nI (sn st2))])), (q8, .inl (gI g, 40, .inl t1)), (q9, .inl (gI g, 40, .inl t2)), (q10, .inl (gI g, 40, .inl t4))] H := hP
          have hD : va_D A [(q3, .inr (4, [.ref q1, .ref q2, .ref q7, .int fp])), (q2, .inr (3, [.ref q6, .int (nI (wn st1))])), (q6, .inl (gI g, 600, .inl pw)), (q1, .inr (6, [.ref q5, .int (nI n)])), (q5, .inl (gB g, 2000, .inl f)), (q7, .inr (5, [.ref q1, .ref q8, .ref q9, .ref q10, .int (nI (sn st2))])), (q8, .inl (gI g, 40, .inl t1)), (q9, .inl (gI g, 40, .inl t2)), (q10, .inl (gI g, 40, .inl t4))] := hD
          obtain ⟨hw3, hw4, hSR2⟩ := hw2
          have hSR2 : SR st2 t1 t2 t4 := hSR2
          have hP : sdP g [(q3, .inr (4, [.ref q1, .ref q2, .ref q7, .int fp])), (q2, .inr (3, [.ref q6, .int (nI (wn st1))])), (q6, .inl (gI g, 600, .inl pw)), (q1, .inr (6, [.ref q5, .int (nI n)])), (q5, .inl (gB g, 2000, .inl f)), (q7, .inr (5, [.ref q1, .ref q8, .ref q9, .ref q10, .int (nI (sn st2))])), (q8, .inl (gI g, 40, .inl t1)), (q9, .inl (gI g, 40, .inl t2)), (q10, .inl (gI g, 40, .inl t4))] H := hP
          refine lv_if_eq (tgt := 76) hx hb d_Rdr_takeLabel_69 (by decide) (fun c11 => ?_) (fun c11 => ?_)
          · have hne : ¬ sv st1 (cs - 1) = 0 := fun q => by rw [(hw4 q).1] at c11; exact absurd c11 (by decide)
            obtain rfl : st1 = st2 := (hw3 hne).2.symm
            refine lv_iconst (v := (nI 3)) hx hb d_Rdr_takeLabel_76 (by decide) ?_
            have hP9 := hP.sub (ws' := [(q3, .inr (4, [.ref q1, .ref q2, .ref q7, .int fp])), (q1, .inr (6, [.ref q5, .int (nI n)])), (q5, .inl (gB g, 2000, .inl f)), (q2, .inr (3, [.ref q6, .int (nI (wn st1))])), (q6, .inl (gI g, 600, .inl pw)), (q7, .inr (5, [.ref q1, .ref q8, .ref q9, .ref q10, .int (nI (sn st1))])), (q8, .inl (gI g, 40, .inl t1)), (q9, .inl (gI g, 40, .inl t2)), (q10, .inl (gI g, 40, .inl t4))]) [0, 3, 4, 1, 2, 5, 6, 7, 8] rfl
            have hD9 := hD.sub (ws' := [(q3, .inr (4, [.ref q1, .ref q2, .ref q7, .int fp])), (q1, .inr (6, [.ref q5, .int (nI n)])), (q5, .inl (gB g, 2000, .inl f)), (q2, .inr (3, [.ref q6, .int (nI (wn st1))])), (q6, .inl (gI g, 600, .inl pw)), (q7, .inr (5, [.ref q1, .ref q8, .ref q9, .ref q10, .int (nI (sn st1))])), (q8, .inl (gI g, 40, .inl t1)), (q9, .inl (gI g, 40, .inl t2)), (q10, .inl (gI g, 40, .inl t4))]) [0, 3, 4, 1, 2, 5, 6, 7, 8] (by decide) rfl
            exact W.iret (v := (nI 3)) hx hb hr (fun t ht hW => ⟨⟨_, (st1, pw, t1, t2, t4), rfl, ⟨⟨3, by rw [spLabel, cl_t ⟨c2, c4⟩, if_pos hk0, hsy, if_neg hc0, if_neg hne], rfl⟩, PR_of hPR hst1, hSR2⟩, by rw [ht]; exact hP9, by rw [hAe]; exact hD9⟩, hS.F ht⟩) hS.2.2 d_Rdr_takeLabel_77
          · have hne : sv st1 (cs - 1) = 0 := Classical.byContradiction fun q => c11 (by rw [(hw3 q).1]; rfl)
            obtain rfl : st2 = tellS st1 (cs - 1) (wn st + 1) := (hw4 hne).2
            refine lv_iconst (v := (nI 0)) hx hb d_Rdr_takeLabel_72 (by decide) ?_
            refine lv_goto (tgt := 77) hx hb d_Rdr_takeLabel_73 (by decide) ?_
            have hP9 := hP.sub (ws' := [(q3, .inr (4, [.ref q1, .ref q2, .ref q7, .int fp])), (q1, .inr (6, [.ref q5, .int (nI n)])), (q5, .inl (gB g, 2000, .inl f)), (q2, .inr (3, [.ref q6, .int (nI (wn st1))])), (q6, .inl (gI g, 600, .inl pw)), (q7, .inr (5, [.ref q1, .ref q8, .ref q9, .ref q10, .int (nI (sn (tellS st1 (cs - 1) (wn st + 1))))])), (q8, .inl (gI g, 40, .inl t1)), (q9, .inl (gI g, 40, .inl t2)), (q10, .inl (gI g, 40, .inl t4))]) [0, 3, 4, 1, 2, 5, 6, 7, 8] rfl
            have hD9 := hD.sub (ws' := [(q3, .inr (4, [.ref q1, .ref q2, .ref q7, .int fp])), (q1, .inr (6, [.ref q5, .int (nI n)])), (q5, .inl (gB g, 2000, .inl f)), (q2, .inr (3, [.ref q6, .int (nI (wn st1))])), (q6, .inl (gI g, 600, .inl pw)), (q7, .inr (5, [.ref q1, .ref q8, .ref q9, .ref q10, .int (nI (sn (tellS st1 (cs - 1) (wn st + 1))))])), (q8, .inl (gI g, 40, .inl t1)), (q9, .inl (gI g, 40, .inl t2)), (q10, .inl (gI g, 40, .inl t4))]) [0, 3, 4, 1, 2, 5, 6, 7, 8] (by decide) rfl
            exact W.iret (v := (nI 0)) hx hb hr (fun t ht hW => ⟨⟨_, (tellS st1 (cs - 1) (wn st + 1), pw, t1, t2, t4), rfl, ⟨⟨0, by rw [spLabel, cl_t ⟨c2, c4⟩, if_pos hk0, hsy, if_neg hc0, if_pos hne], rfl⟩, PR_of hPR hst1, hSR2⟩, by rw [ht]; exact hP9, by rw [hAe]; exact hD9⟩, hS.F ht⟩) hS.2.2 d_Rdr_takeLabel_77
        · have hc0 : cs = 0 := (m1_lt (by omega)).mp (Int32.not_le.mp c8)
          refine lv_iconst (v := (nI 2)) hx hb d_Rdr_takeLabel_52 (by decide) ?_
          have hP9 := hP.sub (ws' := [(q3, .inr (4, [.ref q1, .ref q2, .ref q7, .int fp])), (q1, .inr (6, [.ref q5, .int (nI n)])), (q5, .inl (gB g, 2000, .inl f)), (q2, .inr (3, [.ref q6, .int (nI (wn st1))])), (q6, .inl (gI g, 600, .inl pw)), (q7, .inr (5, [.ref q1, .ref q8, .ref q9, .ref q10, .int (nI (sn st1))])), (q8, .inl (gI g, 40, .inl t1)), (q9, .inl (gI g, 40, .inl t2)), (q10, .inl (gI g, 40, .inl t3))]) [0, 7, 8, 1, 2, 3, 4, 5, 6] rfl
          have hD9 := hD.sub (ws' := [(q3, .inr (4, [.ref q1, .ref q2, .ref q7, .int fp])), (q1, .inr (6, [.ref q5, .int (nI n)])), (q5, .inl (gB g, 2000, .inl f)), (q2, .inr (3, [.ref q6, .int (nI (wn st1))])), (q6, .inl (gI g, 600, .inl pw)), (q7, .inr (5, [.ref q1, .ref q8, .ref q9, .ref q10, .int (nI (sn st1))])), (q8, .inl (gI g, 40, .inl t1)), (q9, .inl (gI g, 40, .inl t2)), (q10, .inl (gI g, 40, .inl t3))]) [0, 7, 8, 1, 2, 3, 4, 5, 6] (by decide) rfl
          exact W.iret (v := (nI 2)) hx hb hr (fun t ht hW => ⟨⟨_, (st1, pw, t1, t2, t3), rfl, ⟨⟨2, by rw [spLabel, cl_t ⟨c2, c4⟩, if_pos hk0, hsy, if_pos hc0], rfl⟩, PR_of hPR hst1, hSR1⟩, by rw [ht]; exact hP9, by rw [hAe]; exact hD9⟩, hS.F ht⟩) hS.2.2 d_Rdr_takeLabel_53
      · have hk0 : ¬ knK tx a z = 0 := fun q => c6 (by rw [q]; decide)
        refine lv_iconst (v := (nI 3)) hx hb d_Rdr_takeLabel_36 (by decide) ?_
        have hP9 := hP.sub (ws' := [(q3, .inr (4, [.ref q1, .ref q2, .ref q7, .int fp])), (q1, .inr (6, [.ref q5, .int (nI n)])), (q5, .inl (gB g, 2000, .inl f)), (q2, .inr (3, [.ref q6, .int (nI (wn st))])), (q6, .inl (gI g, 600, .inl pw)), (q7, .inr (5, [.ref q1, .ref q8, .ref q9, .ref q10, .int (nI (sn st))])), (q8, .inl (gI g, 40, .inl s1)), (q9, .inl (gI g, 40, .inl s2)), (q10, .inl (gI g, 40, .inl s3))]) [0, 1, 2, 3, 4, 5, 6, 7, 8] rfl
        have hD9 := hD.sub (ws' := [(q3, .inr (4, [.ref q1, .ref q2, .ref q7, .int fp])), (q1, .inr (6, [.ref q5, .int (nI n)])), (q5, .inl (gB g, 2000, .inl f)), (q2, .inr (3, [.ref q6, .int (nI (wn st))])), (q6, .inl (gI g, 600, .inl pw)), (q7, .inr (5, [.ref q1, .ref q8, .ref q9, .ref q10, .int (nI (sn st))])), (q8, .inl (gI g, 40, .inl s1)), (q9, .inl (gI g, 40, .inl s2)), (q10, .inl (gI g, 40, .inl s3))]) [0, 1, 2, 3, 4, 5, 6, 7, 8] (by decide) rfl
        exact W.iret (v := (nI 3)) hx hb hr (fun t ht hW => ⟨⟨_, (st, pw, s1, s2, s3), rfl, ⟨⟨3, by rw [spLabel, cl_t ⟨c2, c4⟩, if_neg hk0], rfl⟩, hPR, hSR⟩, by rw [ht]; exact hP9, by rw [hAe]; exact hD9⟩, hS.F ht⟩) hS.2.2 d_Rdr_takeLabel_37
    · have c4 := mt (nI_eq (by omega) (by omega)).mpr c4
      refine lv_iconst (v := (nI 1)) hx hb d_Rdr_takeLabel_25 (by decide) ?_
      have hP9 := hP.sub (ws' := [(q3, .inr (4, [.ref q1, .ref q2, .ref q7, .int fp])), (q1, .inr (6, [.ref q5, .int (nI n)])), (q5, .inl (gB g, 2000, .inl f)), (q2, .inr (3, [.ref q6, .int (nI (wn st))])), (q6, .inl (gI g, 600, .inl pw)), (q7, .inr (5, [.ref q1, .ref q8, .ref q9, .ref q10, .int (nI (sn st))])), (q8, .inl (gI g, 40, .inl s1)), (q9, .inl (gI g, 40, .inl s2)), (q10, .inl (gI g, 40, .inl s3))]) [0, 1, 2, 3, 4, 5, 6, 7, 8] rfl
      have hD9 := hD.sub (ws' := [(q3, .inr (4, [.ref q1, .ref q2, .ref q7, .int fp])), (q1, .inr (6, [.ref q5, .int (nI n)])), (q5, .inl (gB g, 2000, .inl f)), (q2, .inr (3, [.ref q6, .int (nI (wn st))])), (q6, .inl (gI g, 600, .inl pw)), (q7, .inr (5, [.ref q1, .ref q8, .ref q9, .ref q10, .int (nI (sn st))])), (q8, .inl (gI g, 40, .inl s1)), (q9, .inl (gI g, 40, .inl s2)), (q10, .inl (gI g, 40, .inl s3))]) [0, 1, 2, 3, 4, 5, 6, 7, 8] (by decide) rfl
      exact W.iret (v := (nI 1)) hx hb hr (fun t ht hW => ⟨⟨_, (st, pw, s1, s2, s3), rfl, ⟨⟨1, by rw [spLabel, cl_f (fun q => c4 q.2)], rfl⟩, hPR, hSR⟩, by rw [ht]; exact hP9, by rw [hAe]; exact hD9⟩, hS.F ht⟩) hS.2.2 d_Rdr_takeLabel_26
