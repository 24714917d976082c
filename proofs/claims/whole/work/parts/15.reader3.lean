set_option maxHeartbeats 4000000 in
set_option maxRecDepth 100000 in
/-- takeOther -/
theorem c_Rdr_takeOther (l : Launch) (g : sdG) (q3 q1 q2 q7 q5 q6 q8 q9 q10 n : Nat) (fp : Int32) (f : Nat → Int32) (tx : Nat → Nat) (hT : TXok n f tx) (st : AS) (pw s1 s2a s3 : Nat → Int32) (hPR : PR st pw) (hSR : SR st s1 s2a s3) (a e : Nat) (ha : a < e) (hz : e ≤ 2000) (sz : Nat) : Met l y_Rdr_takeOther (.code y_Rdr_takeOther b_Rdr_takeOther 10 (some .int) :: sdT) ({ frames := 6, cells := 0, slots := 0, locals := 135 }) (va_Pc [.ref q3, .int (nI a), .int (nI e)] (sdU g [(q3, .inr (4, [.ref q1, .ref q2, .ref q7, .int fp])), (q1, .inr (6, [.ref q5, .int (nI n)])), (q5, .inl (gB g, 2000, .inl f)), (q2, .inr (3, [.ref q6, .int (nI (wn st))])), (q6, .inl (gI g, 600, .inl pw)), (q7, .inr (5, [.ref q1, .ref q8, .ref q9, .ref q10, .int (nI (sn st))])), (q8, .inl (gI g, 40, .inl s1)), (q9, .inl (gI g, 40, .inl s2a)), (q10, .inl (gI g, 40, .inl s3))] sz)) (va_Qi (S := AS × (Nat → Int32) × (Nat → Int32) × (Nat → Int32) × (Nat → Int32)) (fun r u => (∃ c, spOther tx a e st = (c, u.1) ∧ r = nI c) ∧ PR u.1 u.2.1 ∧ SR u.1 u.2.2.1 u.2.2.2.1 u.2.2.2.2) (fun u t => sdB g [(q3, .inr (4, [.ref q1, .ref q2, .ref q7, .int fp])), (q1, .inr (6, [.ref q5, .int (nI n)])), (q5, .inl (gB g, 2000, .inl f)), (q2, .inr (3, [.ref q6, .int (nI (wn st))])), (q6, .inl (gI g, 600, .inl pw)), (q7, .inr (5, [.ref q1, .ref q8, .ref q9, .ref q10, .int (nI (sn st))])), (q8, .inl (gI g, 40, .inl s1)), (q9, .inl (gI g, 40, .inl s2a)), (q10, .inl (gI g, 40, .inl s3))] sz ((fun u => [(q3, .inr (4, [.ref q1, .ref q2, .ref q7, .int fp])), (q1, .inr (6, [.ref q5, .int (nI n)])), (q5, .inl (gB g, 2000, .inl f)), (q2, .inr (3, [.ref q6, .int (nI (wn u.1))])), (q6, .inl (gI g, 600, .inl u.2.1)), (q7, .inr (5, [.ref q1, .ref q8, .ref q9, .ref q10, .int (nI (sn u.1))])), (q8, .inl (gI g, 40, .inl u.2.2.1)), (q9, .inl (gI g, 40, .inl u.2.2.2.1)), (q10, .inl (gI g, 40, .inl u.2.2.2.2))] : AS × (Nat → Int32) × (Nat → Int32) × (Nat → Int32) × (Nat → Int32) → va_W) u) t) (va_A [(q3, .inr (4, [.ref q1, .ref q2, .ref q7, .int fp])), (q1, .inr (6, [.ref q5, .int (nI n)])), (q5, .inl (gB g, 2000, .inl f)), (q2, .inr (3, [.ref q6, .int (nI (wn st))])), (q6, .inl (gI g, 600, .inl pw)), (q7, .inr (5, [.ref q1, .ref q8, .ref q9, .ref q10, .int (nI (sn st))])), (q8, .inl (gI g, 40, .inl s1)), (q9, .inl (gI g, 40, .inl s2a)), (q10, .inl (gI g, 40, .inl s3))] sz)) 0 0 (va_A [(q3, .inr (4, [.ref q1, .ref q2, .ref q7, .int fp])), (q1, .inr (6, [.ref q5, .int (nI n)])), (q5, .inl (gB g, 2000, .inl f)), (q2, .inr (3, [.ref q6, .int (nI (wn st))])), (q6, .inl (gI g, 600, .inl pw)), (q7, .inr (5, [.ref q1, .ref q8, .ref q9, .ref q10, .int (nI (sn st))])), (q8, .inl (gI g, 40, .inl s1)), (q9, .inl (gI g, 40, .inl s2a)), (q10, .inl (gI g, 40, .inl s3))] sz) := by
  refine Met.ofW (cc := b_Rdr_takeOther) (maxL := 10) (ret := (some .int)) (by decide) rfl ?_
  intro p ev s m args below meth c s₁ B hml hv
  obtain ⟨rfl, hsz, hP, hK, hE, hD0, hs0⟩ := hv
  have hx := B.exec
  have hb := B.bytes
  have hr := B.returns
  have hts := fun (w : Cond) (h : w ∈ sdT) => atoms_spec (ws := (.code y_Rdr_takeOther b_Rdr_takeOther 10 (some .int) :: sdT)) B.pre w (List.mem_cons_of_mem _ h)
  have hown : s.vm.findClass "SignDesk$Reader" = some m.cls := findClass_of_methodNamed B.named
  have hlocks := B.notSynchronized
  subst hsz
  have hD := hD0.self (sz := s.heap.size)
  have hA0 : ∀ q : Nat, va_A [(q3, .inr (4, [.ref q1, .ref q2, .ref q7, .int fp])), (q1, .inr (6, [.ref q5, .int (nI n)])), (q5, .inl (gB g, 2000, .inl f)), (q2, .inr (3, [.ref q6, .int (nI (wn st))])), (q6, .inl (gI g, 600, .inl pw)), (q7, .inr (5, [.ref q1, .ref q8, .ref q9, .ref q10, .int (nI (sn st))])), (q8, .inl (gI g, 40, .inl s1)), (q9, .inl (gI g, 40, .inl s2a)), (q10, .inl (gI g, 40, .inl s3))] s.heap.size q → gS g ≤ q := fun q h => h.elim (fun ⟨k, e, hk⟩ => hD0.2 k _ hk) (fun h => Nat.le_trans hs0 h)
  have hA : ∀ q : Nat, s.heap.size ≤ q → va_A [(q3, .inr (4, [.ref q1, .ref q2, .ref q7, .int fp])), (q1, .inr (6, [.ref q5, .int (nI n)])), (q5, .inl (gB g, 2000, .inl f)), (q2, .inr (3, [.ref q6, .int (nI (wn st))])), (q6, .inl (gI g, 600, .inl pw)), (q7, .inr (5, [.ref q1, .ref q8, .ref q9, .ref q10, .int (nI (sn st))])), (q8, .inl (gI g, 40, .inl s1)), (q9, .inl (gI g, 40, .inl s2a)), (q10, .inl (gI g, 40, .inl s3))] s.heap.size q := fun q h => Or.inr h
  generalize hAe : va_A [(q3, .inr (4, [.ref q1, .ref q2, .ref q7, .int fp])), (q1, .inr (6, [.ref q5, .int (nI n)])), (q5, .inl (gB g, 2000, .inl f)), (q2, .inr (3, [.ref q6, .int (nI (wn st))])), (q6, .inl (gI g, 600, .inl pw)), (q7, .inr (5, [.ref q1, .ref q8, .ref q9, .ref q10, .int (nI (sn st))])), (q8, .inl (gI g, 40, .inl s1)), (q9, .inl (gI g, 40, .inl s2a)), (q10, .inl (gI g, 40, .inl s3))] s.heap.size = A at hD hA0 hA ⊢
  have hS : va_S A s.heap s.heap [] := va_S.rf
  have hP : sdP g [(q3, .inr (4, [.ref q1, .ref q2, .ref q7, .int fp])), (q1, .inr (6, [.ref q5, .int (nI n)])), (q5, .inl (gB g, 2000, .inl f)), (q2, .inr (3, [.ref q6, .int (nI (wn st))])), (q6, .inl (gI g, 600, .inl pw)), (q7, .inr (5, [.ref q1, .ref q8, .ref q9, .ref q10, .int (nI (sn st))])), (q8, .inl (gI g, 40, .inl s1)), (q9, .inl (gI g, 40, .inl s2a)), (q10, .inl (gI g, 40, .inl s3))] s.heap := hP
  have hl := lv_entry ([.ref q3, .int (nI a), .int (nI e)]) (n := 10) (Nat.le_of_ble_eq_true rfl)
  rw [lg_entry_eq]
  generalize (lg_sl ([.ref q3, .int (nI a), .int (nI e)]) ++ List.replicate (10 - (lg_sl ([.ref q3, .int (nI a), .int (nI e)])).length) Slot.unset).toArray = ls at hl ⊢
  have hl : lv_has ls 10 [(0, .ref q3), (1, .int (nI a)), (2, .int (nI e))] := hl
  have hn := hT.1
  have hb8 := hT.2.1
  have h40 := hSR.1
  have h600 := hPR.1
  refine lv_aload_n hx hb d_Rdr_takeOther_0 rfl (lv_at hl 0 rfl) ?_
  refine va_get (D := g.1) (ci := 4) (v := .ref q1) (C := "SignDesk$Reader") (T := F_Rdr) (N := 4) hx hb hts in_Rdr hown hK hP 0 rfl rfl 0 (by decide) (hts _ k_101) (fun _ h9 => h9) rfl d_Rdr_takeOther_1 ?_
  refine lv_bipush (v := (nI 61)) hx hb d_Rdr_takeOther_4 (by decide) ?_
  refine lv_iload_n hx hb d_Rdr_takeOther_6 rfl (lv_at hl 1 rfl) ?_
  refine lv_iload_n hx hb d_Rdr_takeOther_7 rfl (lv_at hl 2 rfl) ?_
  refine sd_ri (va_runV (As := [.int (nI 61), .int (nI a), .int (nI e)]) (rest := []) ⟨hx, hb, hml, hown, hts⟩ (c_Txt_find l g q1 q5 n f tx hT 61 a e (by decide) (by omega) (by omega)) (cwV 3 hts (sd_gV k_342 k_343 k_344 k_24 k_345) rfl rfl rfl (by decide +kernel) ⟨Nat.le_of_ble_eq_true rfl, Nat.le_of_ble_eq_true rfl⟩) (sd_preV hK hE (sd_fr hS hA0) (hP.sub (ws' := [(q1, .inr (6, [.ref q5, .int (nI n)])), (q5, .inl (gB g, 2000, .inl f))]) [1, 2] rfl) rfl rfl) rfl rfl hl.1 rfl (lv_room (Nat.le_of_ble_eq_true rfl)) d_Rdr_takeOther_8 ⟨Nat.zero_le _, Nat.zero_le _⟩) (fun r1 er1 => ?_)
  rcases er1 with ⟨q, rfl, hq1, hq2, hq3, hq4⟩ | ⟨hq4, rfl⟩
  · have hq : oF tx 61 a e = q := ff_eq _ _ _ hq1 (by omega) hq4 (fun _ => hq3)
    refine lv_istore_n (lv' := [(3, .int (nI q)), (0, .ref q3), (1, .int (nI a)), (2, .int (nI e))]) hx hb d_Rdr_takeOther_11 rfl hl (by decide) rfl (fun ls hl => ?_)
    refine lv_aload_n hx hb d_Rdr_takeOther_12 rfl (lv_at hl 1 rfl) ?_
    refine va_get (D := g.1) (ci := 4) (v := .ref q1) (C := "SignDesk$Reader") (T := F_Rdr) (N := 4) hx hb hts in_Rdr hown hK hP 0 rfl rfl 0 (by decide) (hts _ k_101) (fun _ h9 => h9) rfl d_Rdr_takeOther_13 ?_
    refine lv_bipush (v := (nI 59)) hx hb d_Rdr_takeOther_16 (by decide) ?_
    refine lv_iload_n hx hb d_Rdr_takeOther_18 rfl (lv_at hl 2 rfl) ?_
    refine lv_iload_n hx hb d_Rdr_takeOther_19 rfl (lv_at hl 3 rfl) ?_
    refine sd_ri (va_runV (As := [.int (nI 59), .int (nI a), .int (nI e)]) (rest := []) ⟨hx, hb, hml, hown, hts⟩ (c_Txt_find l g q1 q5 n f tx hT 59 a e (by decide) (by omega) (by omega)) (cwV 3 hts (sd_gV k_342 k_343 k_344 k_24 k_345) rfl rfl rfl (by decide +kernel) ⟨Nat.le_of_ble_eq_true rfl, Nat.le_of_ble_eq_true rfl⟩) (sd_preV hK hE (sd_fr hS hA0) (hP.sub (ws' := [(q1, .inr (6, [.ref q5, .int (nI n)])), (q5, .inl (gB g, 2000, .inl f))]) [1, 2] rfl) rfl rfl) rfl rfl hl.1 rfl (lv_room (Nat.le_of_ble_eq_true rfl)) d_Rdr_takeOther_20 ⟨Nat.zero_le _, Nat.zero_le _⟩) (fun r2 er2 => ?_)
    rcases er2 with ⟨s2, rfl, hs1, hs2, hs3, hs4⟩ | ⟨hs4, rfl⟩
    · have hs : oF tx 59 a e = s2 := ff_eq _ _ _ hs1 (by omega) hs4 (fun _ => hs3)
      have hG := spOther_g (tx := tx) (st := st) (D := (lk (nmM tx a q) sd_dest)) (J := (lk (nmM tx (s2 + 1) e) sd_jump)) (ca := (q + 1)) hq hs (if_pos hq2).symm (if_pos hq2).symm (if_pos hs2).symm rfl
      have hDl : (lk (nmM tx a q) sd_dest) ≤ 7 := lk_le sd_dest_lt
      have hJl : (lk (nmM tx (s2 + 1) e) sd_jump) ≤ 7 := lk_le sd_jump_lt
      have hCl : (lk (nmM tx (q + 1) s2) sd_comp) ≤ 8129 := lk_le sd_comp_lt
      refine lv_istore (lv' := [(4, .int (nI s2)), (3, .int (nI q)), (0, .ref q3), (1, .int (nI a)), (2, .int (nI e))]) hx hb d_Rdr_takeOther_23 hl (by decide) rfl (fun ls hl => ?_)
      refine lv_iload_n hx hb d_Rdr_takeOther_25 rfl (lv_at hl 1 rfl) ?_
      refine lv_if_ge (tgt := 33) hx hb d_Rdr_takeOther_26 (by decide) (fun c3 => ?_) (fun c3 => ?_)
      · refine lv_iconst (v := (nI 1)) hx hb d_Rdr_takeOther_33 (by decide) ?_
        refine lv_aload_n hx hb d_Rdr_takeOther_34 rfl (lv_at hl 2 rfl) ?_
        refine va_get (D := g.1) (ci := 4) (v := .ref q1) (C := "SignDesk$Reader") (T := F_Rdr) (N := 4) hx hb hts in_Rdr hown hK hP 0 rfl rfl 0 (by decide) (hts _ k_101) (fun _ h9 => h9) rfl d_Rdr_takeOther_35 ?_
        refine va_ldcS hx hb hown hE.2.2.2.2.2.2.1.2.1 d_Rdr_takeOther_38 ?_
        refine lv_iload_n hx hb d_Rdr_takeOther_40 rfl (lv_at hl 3 rfl) ?_
        refine lv_iload_n hx hb d_Rdr_takeOther_41 rfl (lv_at hl 1 rfl) ?_
        refine sd_ri (va_runV (As := [.ref (gk g 1), .int (nI a), .int (nI q)]) (rest := [.int (nI 1)]) ⟨hx, hb, hml, hown, hts⟩ (c_Txt_nameAmong l g q1 q5 n f tx hT 1 (by decide) (a) (q) (by omega) (by omega)) (cwV 3 hts (sd_gV k_249 k_250 k_251 k_24 k_252) rfl rfl rfl (by decide +kernel) ⟨Nat.le_of_ble_eq_true rfl, Nat.le_of_ble_eq_true rfl⟩) (sd_preV hK hE (sd_fr hS hA0) (hP.sub (ws' := [(q1, .inr (6, [.ref q5, .int (nI n)])), (q5, .inl (gB g, 2000, .inl f))]) [1, 2] rfl) rfl rfl) rfl rfl hl.1 rfl (lv_room (Nat.le_of_ble_eq_true rfl)) d_Rdr_takeOther_42 ⟨Nat.zero_le _, Nat.zero_le _⟩) (fun r4 er4 => ?_)
        subst er4
        refine lv_iadd hx hb d_Rdr_takeOther_45 ?_
        refine sd_topi (y := nI (lk (nmM tx a q) sd_dest)) (sd_dsP) ?_
        refine lv_istore (lv' := [(5, .int (nI (lk (nmM tx a q) sd_dest))), (4, .int (nI s2)), (3, .int (nI q)), (0, .ref q3), (1, .int (nI a)), (2, .int (nI e))]) hx hb d_Rdr_takeOther_46 hl (by decide) rfl (fun ls hl => ?_)
        refine lv_iload hx hb d_Rdr_takeOther_48 (lv_at hl 1 rfl) ?_
        refine lv_if_ge (tgt := 57) hx hb d_Rdr_takeOther_50 (by decide) (fun c5 => ?_) (fun c5 => ?_)
        · refine lv_iconst (v := (nI 1)) hx hb d_Rdr_takeOther_57 (by decide) ?_
          refine lv_aload_n hx hb d_Rdr_takeOther_58 rfl (lv_at hl 3 rfl) ?_
          refine va_get (D := g.1) (ci := 4) (v := .ref q1) (C := "SignDesk$Reader") (T := F_Rdr) (N := 4) hx hb hts in_Rdr hown hK hP 0 rfl rfl 0 (by decide) (hts _ k_101) (fun _ h9 => h9) rfl d_Rdr_takeOther_59 ?_
          refine va_ldcS hx hb hown hE.2.2.2.2.2.2.1.2.2.1 d_Rdr_takeOther_62 ?_
          refine lv_iload hx hb d_Rdr_takeOther_64 (lv_at hl 1 rfl) ?_
          refine lv_iconst (v := (nI 1)) hx hb d_Rdr_takeOther_66 (by decide) ?_
          refine lv_iadd hx hb d_Rdr_takeOther_67 ?_
          refine sd_topi (y := nI (s2 + 1)) (nI_add _ _) ?_
          refine lv_iload_n hx hb d_Rdr_takeOther_68 rfl (lv_at hl 5 rfl) ?_
          refine sd_ri (va_runV (As := [.ref (gk g 2), .int (nI (s2 + 1)), .int (nI e)]) (rest := [.int (nI 1)]) ⟨hx, hb, hml, hown, hts⟩ (c_Txt_nameAmong l g q1 q5 n f tx hT 2 (by decide) (s2 + 1) (e) (by omega) (by omega)) (cwV 3 hts (sd_gV k_249 k_250 k_251 k_24 k_252) rfl rfl rfl (by decide +kernel) ⟨Nat.le_of_ble_eq_true rfl, Nat.le_of_ble_eq_true rfl⟩) (sd_preV hK hE (sd_fr hS hA0) (hP.sub (ws' := [(q1, .inr (6, [.ref q5, .int (nI n)])), (q5, .inl (gB g, 2000, .inl f))]) [1, 2] rfl) rfl rfl) rfl rfl hl.1 rfl (lv_room (Nat.le_of_ble_eq_true rfl)) d_Rdr_takeOther_69 ⟨Nat.zero_le _, Nat.zero_le _⟩) (fun r6 er6 => ?_)
          subst er6
          refine lv_iadd hx hb d_Rdr_takeOther_72 ?_
          refine sd_topi (y := nI (lk (nmM tx (s2 + 1) e) sd_jump)) (sd_jpP) ?_
          refine lv_istore (lv' := [(6, .int (nI (lk (nmM tx (s2 + 1) e) sd_jump))), (5, .int (nI (lk (nmM tx a q) sd_dest))), (4, .int (nI s2)), (3, .int (nI q)), (0, .ref q3), (1, .int (nI a)), (2, .int (nI e))]) hx hb d_Rdr_takeOther_73 hl (by decide) rfl (fun ls hl => ?_)
          refine lv_aload_n hx hb d_Rdr_takeOther_75 rfl (lv_at hl 4 rfl) ?_
          refine lv_iload_n hx hb d_Rdr_takeOther_76 rfl (lv_at hl 3 rfl) ?_
          refine lv_if_ge (tgt := 84) hx hb d_Rdr_takeOther_77 (by decide) (fun c7 => ?_) (fun c7 => ?_)
          · refine lv_iload_n hx hb d_Rdr_takeOther_84 rfl (lv_at hl 3 rfl) ?_
            refine lv_iconst (v := (nI 1)) hx hb d_Rdr_takeOther_85 (by decide) ?_
            refine lv_iadd hx hb d_Rdr_takeOther_86 ?_
            refine sd_topi (y := nI (q + 1)) (nI_add _ _) ?_
            refine lv_iload hx hb d_Rdr_takeOther_87 (lv_at hl 2 rfl) ?_
            refine lv_if_ge (tgt := 96) hx hb d_Rdr_takeOther_89 (by decide) (fun c8 => ?_) (fun c8 => ?_)
            · refine lv_iload hx hb d_Rdr_takeOther_96 (lv_at hl 2 rfl) ?_
              refine sd_ri (va_runV (As := [.int (nI (q + 1)), .int (nI s2)]) (rest := []) ⟨hx, hb, hml, hown, hts⟩ (c_Rdr_compBits l g q3 q1 q2 q7 q5 n fp f tx hT (q + 1) s2 (by omega) (by omega)) (cwV 2 hts (sd_gV k_348 k_350 k_6 k_26 k_351) rfl rfl rfl (by decide +kernel) ⟨Nat.le_of_ble_eq_true rfl, Nat.le_of_ble_eq_true rfl⟩) (sd_preV hK hE (sd_fr hS hA0) (hP.sub (ws' := [(q3, .inr (4, [.ref q1, .ref q2, .ref q7, .int fp])), (q1, .inr (6, [.ref q5, .int (nI n)])), (q5, .inl (gB g, 2000, .inl f))]) [0, 1, 2] rfl) rfl rfl) rfl rfl hl.1 rfl (lv_room (Nat.le_of_ble_eq_true rfl)) d_Rdr_takeOther_98 ⟨Nat.zero_le _, Nat.zero_le _⟩) (fun r9 er9 => ?_)
              subst er9
              refine lv_istore (lv' := [(7, .int (nI (lk (nmM tx (q + 1) s2) sd_comp) - 1)), (6, .int (nI (lk (nmM tx (s2 + 1) e) sd_jump))), (5, .int (nI (lk (nmM tx a q) sd_dest))), (4, .int (nI s2)), (3, .int (nI q)), (0, .ref q3), (1, .int (nI a)), (2, .int (nI e))]) hx hb d_Rdr_takeOther_101 hl (by decide) rfl (fun ls hl => ?_)
              refine lv_iload_n hx hb d_Rdr_takeOther_103 rfl (lv_at hl 4 rfl) ?_
              refine lv_if_lt (tgt := 116) hx hb d_Rdr_takeOther_104 (by decide) (fun c10 => ?_) (fun c10 => ?_)
              · exact absurd c10 (nI_pos (by omega))
              · refine lv_iload hx hb d_Rdr_takeOther_107 (lv_at hl 2 rfl) ?_
                refine lv_if_ne (tgt := 116) hx hb d_Rdr_takeOther_109 (by decide) (fun c11 => ?_) (fun c11 => ?_)
                · have hdw := mt (nI_eq (b := 0) (by omega) (by omega)).mpr c11
                  refine lv_iconst (v := (nI 0)) hx hb d_Rdr_takeOther_116 (by decide) ?_
                  refine lv_istore (lv' := [(8, .int (nI 0)), (7, .int (nI (lk (nmM tx (q + 1) s2) sd_comp) - 1)), (6, .int (nI (lk (nmM tx (s2 + 1) e) sd_jump))), (5, .int (nI (lk (nmM tx a q) sd_dest))), (4, .int (nI s2)), (3, .int (nI q)), (0, .ref q3), (1, .int (nI a)), (2, .int (nI e))]) hx hb d_Rdr_takeOther_117 hl (by decide) rfl (fun ls hl => ?_)
                  refine lv_iload hx hb d_Rdr_takeOther_119 (lv_at hl 4 rfl) ?_
                  refine lv_if_lt (tgt := 133) hx hb d_Rdr_takeOther_121 (by decide) (fun c12 => ?_) (fun c12 => ?_)
                  · exact absurd c12 (nI_pos (by omega))
                  · refine lv_iload hx hb d_Rdr_takeOther_124 (lv_at hl 2 rfl) ?_
                    refine lv_if_ne (tgt := 133) hx hb d_Rdr_takeOther_126 (by decide) (fun c14 => ?_) (fun c14 => ?_)
                    · have hjw := mt (nI_eq (b := 0) (by omega) (by omega)).mpr c14
                      refine lv_iconst (v := (nI 0)) hx hb d_Rdr_takeOther_133 (by decide) ?_
                      refine lv_istore (lv' := [(9, .int (nI 0)), (8, .int (nI 0)), (7, .int (nI (lk (nmM tx (q + 1) s2) sd_comp) - 1)), (6, .int (nI (lk (nmM tx (s2 + 1) e) sd_jump))), (5, .int (nI (lk (nmM tx a q) sd_dest))), (4, .int (nI s2)), (3, .int (nI q)), (0, .ref q3), (1, .int (nI a)), (2, .int (nI e))]) hx hb d_Rdr_takeOther_134 hl (by decide) rfl (fun ls hl => ?_)
                      refine lv_iload hx hb d_Rdr_takeOther_136 (lv_at hl 1 rfl) ?_
                      refine lv_if_ne (tgt := 151) hx hb d_Rdr_takeOther_138 (by decide) (fun c15 => ?_) (fun c15 => ?_)
                      · exact absurd rfl c15
                      · refine lv_iload hx hb d_Rdr_takeOther_141 (lv_at hl 0 rfl) ?_
                        refine lv_if_ne (tgt := 151) hx hb d_Rdr_takeOther_143 (by decide) (fun c16 => ?_) (fun c16 => ?_)
                        · exact absurd rfl c16
                        · refine lv_iload hx hb d_Rdr_takeOther_146 (lv_at hl 2 rfl) ?_
                          refine lv_if_ge (tgt := 153) hx hb d_Rdr_takeOther_148 (by decide) (fun c17 => ?_) (fun c17 => ?_)
                          · have hc0 : ¬ (lk (nmM tx (q + 1) s2) sd_comp) = 0 := fun q => absurd c17 (by rw [q]; decide)
                            have hok : ¬ ((q < e ∧ (lk (nmM tx a q) sd_dest) = 0) ∨ (s2 < e ∧ (lk (nmM tx (s2 + 1) e) sd_jump) = 0) ∨ (lk (nmM tx (q + 1) s2) sd_comp) = 0) := by
                              rintro (h | h | h)
                              · exact hdw h.2
                              · exact hjw h.2
                              · exact hc0 h
                            refine lv_aload_n hx hb d_Rdr_takeOther_153 rfl (lv_at hl 7 rfl) ?_
                            refine va_get (D := g.1) (ci := 4) (v := .ref q2) (C := "SignDesk$Reader") (T := F_Rdr) (N := 4) hx hb hts in_Rdr hown hK hP 0 rfl rfl 1 (by decide) (hts _ k_102) (fun _ h9 => h9) rfl d_Rdr_takeOther_154 ?_
                            refine sd_ri (va_runV (As := []) (rest := []) ⟨hx, hb, hml, hown, hts⟩ (c_Prg_isFull l g q2 q6 (wn st) pw hPR.1) (cwV 0 hts (sd_gV k_308 k_309 k_310 k_25 k_311) rfl rfl rfl (by decide +kernel) ⟨Nat.le_of_ble_eq_true rfl, Nat.le_of_ble_eq_true rfl⟩) (sd_preV hK hE (sd_fr hS hA0) (hP.sub (ws' := [(q2, .inr (3, [.ref q6, .int (nI (wn st))])), (q6, .inl (gI g, 600, .inl pw))]) [3, 4] rfl) rfl rfl) rfl rfl hl.1 rfl (lv_room (Nat.le_of_ble_eq_true rfl)) d_Rdr_takeOther_157 ⟨Nat.zero_le _, Nat.zero_le _⟩) (fun r18 er18 => ?_)
                            subst er18
                            refine lv_if_eq (tgt := 165) hx hb d_Rdr_takeOther_160 (by decide) (fun c19 => ?_) (fun c19 => ?_)
                            · have c19 := sb_eq0.mp c19
                              refine lv_aload_n hx hb d_Rdr_takeOther_165 rfl (lv_at hl 7 rfl) ?_
                              refine va_get (D := g.1) (ci := 4) (v := .ref q2) (C := "SignDesk$Reader") (T := F_Rdr) (N := 4) hx hb hts in_Rdr hown hK hP 0 rfl rfl 1 (by decide) (hts _ k_102) (fun _ h9 => h9) rfl d_Rdr_takeOther_166 ?_
                              refine lv_ldc (v := nI 57344) hx hb hown (hts _ k_358) d_Rdr_takeOther_169 ?_
                              refine lv_iload hx hb d_Rdr_takeOther_171 (lv_at hl 2 rfl) ?_
                              refine sd_topi (y := nI ((lk (nmM tx (q + 1) s2) sd_comp) - 1)) (m1_up hc0) ?_
                              refine lv_iadd hx hb d_Rdr_takeOther_173 ?_
                              refine sd_topi (y := nI (57344 + ((lk (nmM tx (q + 1) s2) sd_comp) - 1))) (nI_add _ _) ?_
                              refine lv_bipush (v := (nI 8)) hx hb d_Rdr_takeOther_174 (by decide) ?_
                              refine lv_iload hx hb d_Rdr_takeOther_176 (lv_at hl 4 rfl) ?_
                              refine lv_imul hx hb d_Rdr_takeOther_178 ?_
                              refine sd_topi (y := nI (8 * (lk (nmM tx a q) sd_dest))) (pk_mul _ _) ?_
                              refine lv_iadd hx hb d_Rdr_takeOther_179 ?_
                              refine sd_topi (y := nI ((57344 + ((lk (nmM tx (q + 1) s2) sd_comp) - 1)) + (8 * (lk (nmM tx a q) sd_dest)))) (nI_add _ _) ?_
                              refine lv_iload hx hb d_Rdr_takeOther_180 (lv_at hl 3 rfl) ?_
                              refine lv_iadd hx hb d_Rdr_takeOther_182 ?_
                              refine sd_topi (y := nI (((57344 + ((lk (nmM tx (q + 1) s2) sd_comp) - 1)) + (8 * (lk (nmM tx a q) sd_dest))) + (lk (nmM tx (s2 + 1) e) sd_jump))) (nI_add _ _) ?_
                              refine sd_topi (y := nI (57344 + ((lk (nmM tx (q + 1) s2) sd_comp) - 1) + 8 * (lk (nmM tx a q) sd_dest) + (lk (nmM tx (s2 + 1) e) sd_jump))) (congrArg nI (by omega)) ?_
                              have hPc := hP.sub (ws' := [(q2, .inr (3, [.ref q6, .int (nI (wn st))])), (q6, .inl (gI g, 600, .inl pw))]) [3, 4] rfl
                              have hDc := hD.sub (ws' := [(q2, .inr (3, [.ref q6, .int (nI (wn st))])), (q6, .inl (gI g, 600, .inl pw))]) [3, 4] (by decide) rfl
                              have hFc := va_free (wc := [(q2, .inr (3, [.ref q6, .int (nI (wn st))])), (q6, .inl (gI g, 600, .inl pw))]) hD hS hA [3, 4] rfl
                              refine sd_cv (va_runV (As := [.int (nI (57344 + ((lk (nmM tx (q + 1) s2) sd_comp) - 1) + 8 * (lk (nmM tx a q) sd_dest) + (lk (nmM tx (s2 + 1) e) sd_jump)))]) (rest := []) ⟨hx, hb, hml, hown, hts⟩ (c_Prg_add l g q2 q6 (wn st) pw hPR.1 (nI (57344 + ((lk (nmM tx (q + 1) s2) sd_comp) - 1) + 8 * (lk (nmM tx a q) sd_dest) + (lk (nmM tx (s2 + 1) e) sd_jump))) (by omega) s.heap.size) (cwV 1 hts (sd_gV k_321 k_322 k_323 k_25 k_324) rfl rfl rfl (by decide +kernel) ⟨Nat.le_of_ble_eq_true rfl, Nat.le_of_ble_eq_true rfl⟩) (sd_preVU hK hE hS hA0 hs0 hPc hDc rfl rfl) rfl rfl hl.1 rfl (lv_room (Nat.le_of_ble_eq_true rfl)) d_Rdr_takeOther_183 ⟨Nat.zero_le _, Nat.zero_le _⟩) hS hFc (fun u H1 locs hw hP1 hD1 hk1 hS => ?_)
                              obtain ⟨hP, hD⟩ := va_join (wr := [(q3, .inr (4, [.ref q1, .ref q2, .ref q7, .int fp])), (q1, .inr (6, [.ref q5, .int (nI n)])), (q5, .inl (gB g, 2000, .inl f)), (q7, .inr (5, [.ref q1, .ref q8, .ref q9, .ref q10, .int (nI (sn st))])), (q8, .inl (gI g, 40, .inl s1)), (q9, .inl (gI g, 40, .inl s2a)), (q10, .inl (gI g, 40, .inl s3))]) (w1 := [(q2, .inr (3, [.ref q6, .int (nI (wn st + 1))])), (q6, .inl (gI g, 600, .inl (upd pw (wn st) (nI (57344 + ((lk (nmM tx (q + 1) s2) sd_comp) - 1) + 8 * (lk (nmM tx a q) sd_dest) + (lk (nmM tx (s2 + 1) e) sd_jump))))))]) hP hD [3, 4] [0, 1, 2, 5, 6, 7, 8] rfl rfl (by decide) (by decide) hk1 hFc hP1 hD1
                              clear hPc hDc hFc hk1 hP1 hD1
                              generalize H1 = H at hP hS ⊢
                              have hP : sdP g [(q3, .inr (4, [.ref q1, .ref q2, .ref q7, .int fp])), (q1, .inr (6, [.ref q5, .int (nI n)])), (q5, .inl (gB g, 2000, .inl f)), (q7, .inr (5, [.ref q1, .ref q8, .ref q9, .ref q10, .int (nI (sn st))])), (q8, .inl (gI g, 40, .inl s1)), (q9, .inl (gI g, 40, .inl s2a)), (q10, .inl (gI g, 40, .inl s3)), (q2, .inr (3, [.ref q6, .int (nI (wn st + 1))])), (q6, .inl (gI g, 600, .inl (upd pw (wn st) (nI (57344 + ((lk (nmM tx (q + 1) s2) sd_comp) - 1) + 8 * (lk (nmM tx a q) sd_dest) + (lk (nmM tx (s2 + 1) e) sd_jump))))))] H := hP
                              have hD : va_D A [(q3, .inr (4, [.ref q1, .ref q2, .ref q7, .int fp])), (q1, .inr (6, [.ref q5, .int (nI n)])), (q5, .inl (gB g, 2000, .inl f)), (q7, .inr (5, [.ref q1, .ref q8, .ref q9, .ref q10, .int (nI (sn st))])), (q8, .inl (gI g, 40, .inl s1)), (q9, .inl (gI g, 40, .inl s2a)), (q10, .inl (gI g, 40, .inl s3)), (q2, .inr (3, [.ref q6, .int (nI (wn st + 1))])), (q6, .inl (gI g, 600, .inl (upd pw (wn st) (nI (57344 + ((lk (nmM tx (q + 1) s2) sd_comp) - 1) + 8 * (lk (nmM tx a q) sd_dest) + (lk (nmM tx (s2 + 1) e) sd_jump))))))] := hD
                              refine lv_iconst (v := (nI 0)) hx hb d_Rdr_takeOther_186 (by decide) ?_
                              have hP9 := hP.sub (ws' := [(q3, .inr (4, [.ref q1, .ref q2, .ref q7, .int fp])), (q1, .inr (6, [.ref q5, .int (nI n)])), (q5, .inl (gB g, 2000, .inl f)), (q2, .inr (3, [.ref q6, .int (nI (wn st + 1))])), (q6, .inl (gI g, 600, .inl (upd pw (wn st) (nI (57344 + ((lk (nmM tx (q + 1) s2) sd_comp) - 1) + 8 * (lk (nmM tx a q) sd_dest) + (lk (nmM tx (s2 + 1) e) sd_jump)))))), (q7, .inr (5, [.ref q1, .ref q8, .ref q9, .ref q10, .int (nI (sn st))])), (q8, .inl (gI g, 40, .inl s1)), (q9, .inl (gI g, 40, .inl s2a)), (q10, .inl (gI g, 40, .inl s3))]) [0, 1, 2, 7, 8, 3, 4, 5, 6] rfl
                              have hD9 := hD.sub (ws' := [(q3, .inr (4, [.ref q1, .ref q2, .ref q7, .int fp])), (q1, .inr (6, [.ref q5, .int (nI n)])), (q5, .inl (gB g, 2000, .inl f)), (q2, .inr (3, [.ref q6, .int (nI (wn st + 1))])), (q6, .inl (gI g, 600, .inl (upd pw (wn st) (nI (57344 + ((lk (nmM tx (q + 1) s2) sd_comp) - 1) + 8 * (lk (nmM tx a q) sd_dest) + (lk (nmM tx (s2 + 1) e) sd_jump)))))), (q7, .inr (5, [.ref q1, .ref q8, .ref q9, .ref q10, .int (nI (sn st))])), (q8, .inl (gI g, 40, .inl s1)), (q9, .inl (gI g, 40, .inl s2a)), (q10, .inl (gI g, 40, .inl s3))]) [0, 1, 2, 7, 8, 3, 4, 5, 6] (by decide) rfl
                              exact W.iret (v := (nI 0)) hx hb hr (fun t ht hW => ⟨⟨_, (pushW st (57344 + ((lk (nmM tx (q + 1) s2) sd_comp) - 1) + 8 * (lk (nmM tx a q) sd_dest) + (lk (nmM tx (s2 + 1) e) sd_jump)) 0, upd pw (wn st) (nI (57344 + ((lk (nmM tx (q + 1) s2) sd_comp) - 1) + 8 * (lk (nmM tx a q) sd_dest) + (lk (nmM tx (s2 + 1) e) sd_jump))), s1, s2a, s3), rfl, ⟨⟨0, by rw [hG, if_neg hok, if_neg c19], rfl⟩, PR_push (y := 0) hPR (by omega), hSR⟩, by rw [ht]; exact hP9, by rw [hAe]; exact hD9⟩, hS.F ht⟩) hS.2.2 d_Rdr_takeOther_187
                            · have c19 := sb_ne0.mp c19
                              refine lv_iconst (v := (nI 2)) hx hb d_Rdr_takeOther_163 (by decide) ?_
                              have hP9 := hP.sub (ws' := [(q3, .inr (4, [.ref q1, .ref q2, .ref q7, .int fp])), (q1, .inr (6, [.ref q5, .int (nI n)])), (q5, .inl (gB g, 2000, .inl f)), (q2, .inr (3, [.ref q6, .int (nI (wn st))])), (q6, .inl (gI g, 600, .inl pw)), (q7, .inr (5, [.ref q1, .ref q8, .ref q9, .ref q10, .int (nI (sn st))])), (q8, .inl (gI g, 40, .inl s1)), (q9, .inl (gI g, 40, .inl s2a)), (q10, .inl (gI g, 40, .inl s3))]) [0, 1, 2, 3, 4, 5, 6, 7, 8] rfl
                              have hD9 := hD.sub (ws' := [(q3, .inr (4, [.ref q1, .ref q2, .ref q7, .int fp])), (q1, .inr (6, [.ref q5, .int (nI n)])), (q5, .inl (gB g, 2000, .inl f)), (q2, .inr (3, [.ref q6, .int (nI (wn st))])), (q6, .inl (gI g, 600, .inl pw)), (q7, .inr (5, [.ref q1, .ref q8, .ref q9, .ref q10, .int (nI (sn st))])), (q8, .inl (gI g, 40, .inl s1)), (q9, .inl (gI g, 40, .inl s2a)), (q10, .inl (gI g, 40, .inl s3))]) [0, 1, 2, 3, 4, 5, 6, 7, 8] (by decide) rfl
                              exact W.iret (v := (nI 2)) hx hb hr (fun t ht hW => ⟨⟨_, (st, pw, s1, s2a, s3), rfl, ⟨⟨2, by rw [hG, if_neg hok, if_pos c19], rfl⟩, hPR, hSR⟩, by rw [ht]; exact hP9, by rw [hAe]; exact hD9⟩, hS.F ht⟩) hS.2.2 d_Rdr_takeOther_164
                          · have hc0 : (lk (nmM tx (q + 1) s2) sd_comp) = 0 := (m1_lt (by omega)).mp (Int32.not_le.mp c17)
                            refine lv_iconst (v := (nI 1)) hx hb d_Rdr_takeOther_151 (by decide) ?_
                            have hP9 := hP.sub (ws' := [(q3, .inr (4, [.ref q1, .ref q2, .ref q7, .int fp])), (q1, .inr (6, [.ref q5, .int (nI n)])), (q5, .inl (gB g, 2000, .inl f)), (q2, .inr (3, [.ref q6, .int (nI (wn st))])), (q6, .inl (gI g, 600, .inl pw)), (q7, .inr (5, [.ref q1, .ref q8, .ref q9, .ref q10, .int (nI (sn st))])), (q8, .inl (gI g, 40, .inl s1)), (q9, .inl (gI g, 40, .inl s2a)), (q10, .inl (gI g, 40, .inl s3))]) [0, 1, 2, 3, 4, 5, 6, 7, 8] rfl
                            have hD9 := hD.sub (ws' := [(q3, .inr (4, [.ref q1, .ref q2, .ref q7, .int fp])), (q1, .inr (6, [.ref q5, .int (nI n)])), (q5, .inl (gB g, 2000, .inl f)), (q2, .inr (3, [.ref q6, .int (nI (wn st))])), (q6, .inl (gI g, 600, .inl pw)), (q7, .inr (5, [.ref q1, .ref q8, .ref q9, .ref q10, .int (nI (sn st))])), (q8, .inl (gI g, 40, .inl s1)), (q9, .inl (gI g, 40, .inl s2a)), (q10, .inl (gI g, 40, .inl s3))]) [0, 1, 2, 3, 4, 5, 6, 7, 8] (by decide) rfl
                            exact W.iret (v := (nI 1)) hx hb hr (fun t ht hW => ⟨⟨_, (st, pw, s1, s2a, s3), rfl, ⟨⟨1, by rw [hG, if_pos (Or.inr (Or.inr hc0))], rfl⟩, hPR, hSR⟩, by rw [ht]; exact hP9, by rw [hAe]; exact hD9⟩, hS.F ht⟩) hS.2.2 d_Rdr_takeOther_152
                    · have hjw := (nI_eq (b := 0) (by omega) (by omega)).mp c14
                      refine lv_iconst (v := (nI 1)) hx hb d_Rdr_takeOther_129 (by decide) ?_
                      refine lv_goto (tgt := 134) hx hb d_Rdr_takeOther_130 (by decide) ?_
                      refine lv_istore (lv' := [(9, .int (nI 1)), (8, .int (nI 0)), (7, .int (nI (lk (nmM tx (q + 1) s2) sd_comp) - 1)), (6, .int (nI (lk (nmM tx (s2 + 1) e) sd_jump))), (5, .int (nI (lk (nmM tx a q) sd_dest))), (4, .int (nI s2)), (3, .int (nI q)), (0, .ref q3), (1, .int (nI a)), (2, .int (nI e))]) hx hb d_Rdr_takeOther_134 hl (by decide) rfl (fun ls hl => ?_)
                      refine lv_iload hx hb d_Rdr_takeOther_136 (lv_at hl 1 rfl) ?_
                      refine lv_if_ne (tgt := 151) hx hb d_Rdr_takeOther_138 (by decide) (fun c21 => ?_) (fun c21 => ?_)
                      · exact absurd rfl c21
                      · refine lv_iload hx hb d_Rdr_takeOther_141 (lv_at hl 0 rfl) ?_
                        refine lv_if_ne (tgt := 151) hx hb d_Rdr_takeOther_143 (by decide) (fun c22 => ?_) (fun c22 => ?_)
                        · refine lv_iconst (v := (nI 1)) hx hb d_Rdr_takeOther_151 (by decide) ?_
                          have hP9 := hP.sub (ws' := [(q3, .inr (4, [.ref q1, .ref q2, .ref q7, .int fp])), (q1, .inr (6, [.ref q5, .int (nI n)])), (q5, .inl (gB g, 2000, .inl f)), (q2, .inr (3, [.ref q6, .int (nI (wn st))])), (q6, .inl (gI g, 600, .inl pw)), (q7, .inr (5, [.ref q1, .ref q8, .ref q9, .ref q10, .int (nI (sn st))])), (q8, .inl (gI g, 40, .inl s1)), (q9, .inl (gI g, 40, .inl s2a)), (q10, .inl (gI g, 40, .inl s3))]) [0, 1, 2, 3, 4, 5, 6, 7, 8] rfl
                          have hD9 := hD.sub (ws' := [(q3, .inr (4, [.ref q1, .ref q2, .ref q7, .int fp])), (q1, .inr (6, [.ref q5, .int (nI n)])), (q5, .inl (gB g, 2000, .inl f)), (q2, .inr (3, [.ref q6, .int (nI (wn st))])), (q6, .inl (gI g, 600, .inl pw)), (q7, .inr (5, [.ref q1, .ref q8, .ref q9, .ref q10, .int (nI (sn st))])), (q8, .inl (gI g, 40, .inl s1)), (q9, .inl (gI g, 40, .inl s2a)), (q10, .inl (gI g, 40, .inl s3))]) [0, 1, 2, 3, 4, 5, 6, 7, 8] (by decide) rfl
                          exact W.iret (v := (nI 1)) hx hb hr (fun t ht hW => ⟨⟨_, (st, pw, s1, s2a, s3), rfl, ⟨⟨1, by rw [hG, if_pos (Or.inr (Or.inl ⟨hs2, hjw⟩))], rfl⟩, hPR, hSR⟩, by rw [ht]; exact hP9, by rw [hAe]; exact hD9⟩, hS.F ht⟩) hS.2.2 d_Rdr_takeOther_152
                        · exact absurd c22 (by decide)
                · have hdw := (nI_eq (b := 0) (by omega) (by omega)).mp c11
                  refine lv_iconst (v := (nI 1)) hx hb d_Rdr_takeOther_112 (by decide) ?_
                  refine lv_goto (tgt := 117) hx hb d_Rdr_takeOther_113 (by decide) ?_
                  refine lv_istore (lv' := [(8, .int (nI 1)), (7, .int (nI (lk (nmM tx (q + 1) s2) sd_comp) - 1)), (6, .int (nI (lk (nmM tx (s2 + 1) e) sd_jump))), (5, .int (nI (lk (nmM tx a q) sd_dest))), (4, .int (nI s2)), (3, .int (nI q)), (0, .ref q3), (1, .int (nI a)), (2, .int (nI e))]) hx hb d_Rdr_takeOther_117 hl (by decide) rfl (fun ls hl => ?_)
                  refine lv_iload hx hb d_Rdr_takeOther_119 (lv_at hl 4 rfl) ?_
                  refine lv_if_lt (tgt := 133) hx hb d_Rdr_takeOther_121 (by decide) (fun c23 => ?_) (fun c23 => ?_)
                  · exact absurd c23 (nI_pos (by omega))
                  · refine lv_iload hx hb d_Rdr_takeOther_124 (lv_at hl 2 rfl) ?_
                    refine lv_if_ne (tgt := 133) hx hb d_Rdr_takeOther_126 (by decide) (fun c25 => ?_) (fun c25 => ?_)
                    · have hjw := mt (nI_eq (b := 0) (by omega) (by omega)).mpr c25
                      refine lv_iconst (v := (nI 0)) hx hb d_Rdr_takeOther_133 (by decide) ?_
                      refine lv_istore (lv' := [(9, .int (nI 0)), (8, .int (nI 1)), (7, .int (nI (lk (nmM tx (q + 1) s2) sd_comp) - 1)), (6, .int (nI (lk (nmM tx (s2 + 1) e) sd_jump))), (5, .int (nI (lk (nmM tx a q) sd_dest))), (4, .int (nI s2)), (3, .int (nI q)), (0, .ref q3), (1, .int (nI a)), (2, .int (nI e))]) hx hb d_Rdr_takeOther_134 hl (by decide) rfl (fun ls hl => ?_)
                      refine lv_iload hx hb d_Rdr_takeOther_136 (lv_at hl 1 rfl) ?_
                      refine lv_if_ne (tgt := 151) hx hb d_Rdr_takeOther_138 (by decide) (fun c26 => ?_) (fun c26 => ?_)
                      · refine lv_iconst (v := (nI 1)) hx hb d_Rdr_takeOther_151 (by decide) ?_
                        have hP9 := hP.sub (ws' := [(q3, .inr (4, [.ref q1, .ref q2, .ref q7, .int fp])), (q1, .inr (6, [.ref q5, .int (nI n)])), (q5, .inl (gB g, 2000, .inl f)), (q2, .inr (3, [.ref q6, .int (nI (wn st))])), (q6, .inl (gI g, 600, .inl pw)), (q7, .inr (5, [.ref q1, .ref q8, .ref q9, .ref q10, .int (nI (sn st))])), (q8, .inl (gI g, 40, .inl s1)), (q9, .inl (gI g, 40, .inl s2a)), (q10, .inl (gI g, 40, .inl s3))]) [0, 1, 2, 3, 4, 5, 6, 7, 8] rfl
                        have hD9 := hD.sub (ws' := [(q3, .inr (4, [.ref q1, .ref q2, .ref q7, .int fp])), (q1, .inr (6, [.ref q5, .int (nI n)])), (q5, .inl (gB g, 2000, .inl f)), (q2, .inr (3, [.ref q6, .int (nI (wn st))])), (q6, .inl (gI g, 600, .inl pw)), (q7, .inr (5, [.ref q1, .ref q8, .ref q9, .ref q10, .int (nI (sn st))])), (q8, .inl (gI g, 40, .inl s1)), (q9, .inl (gI g, 40, .inl s2a)), (q10, .inl (gI g, 40, .inl s3))]) [0, 1, 2, 3, 4, 5, 6, 7, 8] (by decide) rfl
                        exact W.iret (v := (nI 1)) hx hb hr (fun t ht hW => ⟨⟨_, (st, pw, s1, s2a, s3), rfl, ⟨⟨1, by rw [hG, if_pos (Or.inl ⟨hq2, hdw⟩)], rfl⟩, hPR, hSR⟩, by rw [ht]; exact hP9, by rw [hAe]; exact hD9⟩, hS.F ht⟩) hS.2.2 d_Rdr_takeOther_152
                      · exact absurd c26 (by decide)
                    · have hjw := (nI_eq (b := 0) (by omega) (by omega)).mp c25
                      refine lv_iconst (v := (nI 1)) hx hb d_Rdr_takeOther_129 (by decide) ?_
                      refine lv_goto (tgt := 134) hx hb d_Rdr_takeOther_130 (by decide) ?_
                      refine lv_istore (lv' := [(9, .int (nI 1)), (8, .int (nI 1)), (7, .int (nI (lk (nmM tx (q + 1) s2) sd_comp) - 1)), (6, .int (nI (lk (nmM tx (s2 + 1) e) sd_jump))), (5, .int (nI (lk (nmM tx a q) sd_dest))), (4, .int (nI s2)), (3, .int (nI q)), (0, .ref q3), (1, .int (nI a)), (2, .int (nI e))]) hx hb d_Rdr_takeOther_134 hl (by decide) rfl (fun ls hl => ?_)
                      refine lv_iload hx hb d_Rdr_takeOther_136 (lv_at hl 1 rfl) ?_
                      refine lv_if_ne (tgt := 151) hx hb d_Rdr_takeOther_138 (by decide) (fun c27 => ?_) (fun c27 => ?_)
                      · refine lv_iconst (v := (nI 1)) hx hb d_Rdr_takeOther_151 (by decide) ?_
                        have hP9 := hP.sub (ws' := [(q3, .inr (4, [.ref q1, .ref q2, .ref q7, .int fp])), (q1, .inr (6, [.ref q5, .int (nI n)])), (q5, .inl (gB g, 2000, .inl f)), (q2, .inr (3, [.ref q6, .int (nI (wn st))])), (q6, .inl (gI g, 600, .inl pw)), (q7, .inr (5, [.ref q1, .ref q8, .ref q9, .ref q10, .int (nI (sn st))])), (q8, .inl (gI g, 40, .inl s1)), (q9, .inl (gI g, 40, .inl s2a)), (q10, .inl (gI g, 40, .inl s3))]) [0, 1, 2, 3, 4, 5, 6, 7, 8] rfl
                        have hD9 := hD.sub (ws' := [(q3, .inr (4, [.ref q1, .ref q2, .ref q7, .int fp])), (q1, .inr (6, [.ref q5, .int (nI n)])), (q5, .inl (gB g, 2000, .inl f)), (q2, .inr (3, [.ref q6, .int (nI (wn st))])), (q6, .inl (gI g, 600, .inl pw)), (q7, .inr (5, [.ref q1, .ref q8, .ref q9, .ref q10, .int (nI (sn st))])), (q8, .inl (gI g, 40, .inl s1)), (q9, .inl (gI g, 40, .inl s2a)), (q10, .inl (gI g, 40, .inl s3))]) [0, 1, 2, 3, 4, 5, 6, 7, 8] (by decide) rfl
                        exact W.iret (v := (nI 1)) hx hb hr (fun t ht hW => ⟨⟨_, (st, pw, s1, s2a, s3), rfl, ⟨⟨1, by rw [hG, if_pos (Or.inl ⟨hq2, hdw⟩)], rfl⟩, hPR, hSR⟩, by rw [ht]; exact hP9, by rw [hAe]; exact hD9⟩, hS.F ht⟩) hS.2.2 d_Rdr_takeOther_152
                      · exact absurd c27 (by decide)
            · exact absurd (nI_pos' (by omega)) c8
          · exact absurd (nI_pos' (by omega)) c7
        · exact absurd (nI_pos' (by omega)) c5
      · exact absurd (nI_pos' (by omega)) c3
    · have hs : oF tx 59 a e = e := ff_eq _ _ _ (by omega) (by omega) hs4 (fun h => absurd h (by omega))
      have hG := spOther_g (tx := tx) (st := st) (D := (lk (nmM tx a q) sd_dest)) (J := 0) (ca := (q + 1)) hq hs (if_pos hq2).symm (if_pos hq2).symm (if_neg (Nat.lt_irrefl e)).symm rfl
      have hDl : (lk (nmM tx a q) sd_dest) ≤ 7 := lk_le sd_dest_lt
      have hJl : 0 ≤ 7 := by decide
      have hCl : (lk (nmM tx (q + 1) e) sd_comp) ≤ 8129 := lk_le sd_comp_lt
      refine lv_istore (lv' := [(4, .int (-1)), (3, .int (nI q)), (0, .ref q3), (1, .int (nI a)), (2, .int (nI e))]) hx hb d_Rdr_takeOther_23 hl (by decide) rfl (fun ls hl => ?_)
      refine lv_iload_n hx hb d_Rdr_takeOther_25 rfl (lv_at hl 1 rfl) ?_
      refine lv_if_ge (tgt := 33) hx hb d_Rdr_takeOther_26 (by decide) (fun c28 => ?_) (fun c28 => ?_)
      · refine lv_iconst (v := (nI 1)) hx hb d_Rdr_takeOther_33 (by decide) ?_
        refine lv_aload_n hx hb d_Rdr_takeOther_34 rfl (lv_at hl 2 rfl) ?_
        refine va_get (D := g.1) (ci := 4) (v := .ref q1) (C := "SignDesk$Reader") (T := F_Rdr) (N := 4) hx hb hts in_Rdr hown hK hP 0 rfl rfl 0 (by decide) (hts _ k_101) (fun _ h9 => h9) rfl d_Rdr_takeOther_35 ?_
        refine va_ldcS hx hb hown hE.2.2.2.2.2.2.1.2.1 d_Rdr_takeOther_38 ?_
        refine lv_iload_n hx hb d_Rdr_takeOther_40 rfl (lv_at hl 3 rfl) ?_
        refine lv_iload_n hx hb d_Rdr_takeOther_41 rfl (lv_at hl 1 rfl) ?_
        refine sd_ri (va_runV (As := [.ref (gk g 1), .int (nI a), .int (nI q)]) (rest := [.int (nI 1)]) ⟨hx, hb, hml, hown, hts⟩ (c_Txt_nameAmong l g q1 q5 n f tx hT 1 (by decide) (a) (q) (by omega) (by omega)) (cwV 3 hts (sd_gV k_249 k_250 k_251 k_24 k_252) rfl rfl rfl (by decide +kernel) ⟨Nat.le_of_ble_eq_true rfl, Nat.le_of_ble_eq_true rfl⟩) (sd_preV hK hE (sd_fr hS hA0) (hP.sub (ws' := [(q1, .inr (6, [.ref q5, .int (nI n)])), (q5, .inl (gB g, 2000, .inl f))]) [1, 2] rfl) rfl rfl) rfl rfl hl.1 rfl (lv_room (Nat.le_of_ble_eq_true rfl)) d_Rdr_takeOther_42 ⟨Nat.zero_le _, Nat.zero_le _⟩) (fun r29 er29 => ?_)
        subst er29
        refine lv_iadd hx hb d_Rdr_takeOther_45 ?_
        refine sd_topi (y := nI (lk (nmM tx a q) sd_dest)) (sd_dsP) ?_
        refine lv_istore (lv' := [(5, .int (nI (lk (nmM tx a q) sd_dest))), (4, .int (-1)), (3, .int (nI q)), (0, .ref q3), (1, .int (nI a)), (2, .int (nI e))]) hx hb d_Rdr_takeOther_46 hl (by decide) rfl (fun ls hl => ?_)
        refine lv_iload hx hb d_Rdr_takeOther_48 (lv_at hl 1 rfl) ?_
        refine lv_if_ge (tgt := 57) hx hb d_Rdr_takeOther_50 (by decide) (fun c30 => ?_) (fun c30 => ?_)
        · exact absurd c30 (by decide)
        · refine lv_iconst (v := (nI 0)) hx hb d_Rdr_takeOther_53 (by decide) ?_
          refine lv_goto (tgt := 73) hx hb d_Rdr_takeOther_54 (by decide) ?_
          refine lv_istore (lv' := [(6, .int (nI 0)), (5, .int (nI (lk (nmM tx a q) sd_dest))), (4, .int (-1)), (3, .int (nI q)), (0, .ref q3), (1, .int (nI a)), (2, .int (nI e))]) hx hb d_Rdr_takeOther_73 hl (by decide) rfl (fun ls hl => ?_)
          refine lv_aload_n hx hb d_Rdr_takeOther_75 rfl (lv_at hl 4 rfl) ?_
          refine lv_iload_n hx hb d_Rdr_takeOther_76 rfl (lv_at hl 3 rfl) ?_
          refine lv_if_ge (tgt := 84) hx hb d_Rdr_takeOther_77 (by decide) (fun c31 => ?_) (fun c31 => ?_)
          · refine lv_iload_n hx hb d_Rdr_takeOther_84 rfl (lv_at hl 3 rfl) ?_
            refine lv_iconst (v := (nI 1)) hx hb d_Rdr_takeOther_85 (by decide) ?_
            refine lv_iadd hx hb d_Rdr_takeOther_86 ?_
            refine sd_topi (y := nI (q + 1)) (nI_add _ _) ?_
            refine lv_iload hx hb d_Rdr_takeOther_87 (lv_at hl 2 rfl) ?_
            refine lv_if_ge (tgt := 96) hx hb d_Rdr_takeOther_89 (by decide) (fun c32 => ?_) (fun c32 => ?_)
            · exact absurd c32 (by decide)
            · refine lv_iload_n hx hb d_Rdr_takeOther_92 rfl (lv_at hl 6 rfl) ?_
              refine lv_goto (tgt := 98) hx hb d_Rdr_takeOther_93 (by decide) ?_
              refine sd_ri (va_runV (As := [.int (nI (q + 1)), .int (nI e)]) (rest := []) ⟨hx, hb, hml, hown, hts⟩ (c_Rdr_compBits l g q3 q1 q2 q7 q5 n fp f tx hT (q + 1) e (by omega) (by omega)) (cwV 2 hts (sd_gV k_348 k_350 k_6 k_26 k_351) rfl rfl rfl (by decide +kernel) ⟨Nat.le_of_ble_eq_true rfl, Nat.le_of_ble_eq_true rfl⟩) (sd_preV hK hE (sd_fr hS hA0) (hP.sub (ws' := [(q3, .inr (4, [.ref q1, .ref q2, .ref q7, .int fp])), (q1, .inr (6, [.ref q5, .int (nI n)])), (q5, .inl (gB g, 2000, .inl f))]) [0, 1, 2] rfl) rfl rfl) rfl rfl hl.1 rfl (lv_room (Nat.le_of_ble_eq_true rfl)) d_Rdr_takeOther_98 ⟨Nat.zero_le _, Nat.zero_le _⟩) (fun r33 er33 => ?_)
              subst er33
              refine lv_istore (lv' := [(7, .int (nI (lk (nmM tx (q + 1) e) sd_comp) - 1)), (6, .int (nI 0)), (5, .int (nI (lk (nmM tx a q) sd_dest))), (4, .int (-1)), (3, .int (nI q)), (0, .ref q3), (1, .int (nI a)), (2, .int (nI e))]) hx hb d_Rdr_takeOther_101 hl (by decide) rfl (fun ls hl => ?_)
              refine lv_iload_n hx hb d_Rdr_takeOther_103 rfl (lv_at hl 4 rfl) ?_
              refine lv_if_lt (tgt := 116) hx hb d_Rdr_takeOther_104 (by decide) (fun c34 => ?_) (fun c34 => ?_)
              · exact absurd c34 (nI_pos (by omega))
              · refine lv_iload hx hb d_Rdr_takeOther_107 (lv_at hl 2 rfl) ?_
                refine lv_if_ne (tgt := 116) hx hb d_Rdr_takeOther_109 (by decide) (fun c35 => ?_) (fun c35 => ?_)
                · have hdw := mt (nI_eq (b := 0) (by omega) (by omega)).mpr c35
                  refine lv_iconst (v := (nI 0)) hx hb d_Rdr_takeOther_116 (by decide) ?_
                  refine lv_istore (lv' := [(8, .int (nI 0)), (7, .int (nI (lk (nmM tx (q + 1) e) sd_comp) - 1)), (6, .int (nI 0)), (5, .int (nI (lk (nmM tx a q) sd_dest))), (4, .int (-1)), (3, .int (nI q)), (0, .ref q3), (1, .int (nI a)), (2, .int (nI e))]) hx hb d_Rdr_takeOther_117 hl (by decide) rfl (fun ls hl => ?_)
                  refine lv_iload hx hb d_Rdr_takeOther_119 (lv_at hl 4 rfl) ?_
                  refine lv_if_lt (tgt := 133) hx hb d_Rdr_takeOther_121 (by decide) (fun c36 => ?_) (fun c36 => ?_)
                  · refine lv_iconst (v := (nI 0)) hx hb d_Rdr_takeOther_133 (by decide) ?_
                    refine lv_istore (lv' := [(9, .int (nI 0)), (8, .int (nI 0)), (7, .int (nI (lk (nmM tx (q + 1) e) sd_comp) - 1)), (6, .int (nI 0)), (5, .int (nI (lk (nmM tx a q) sd_dest))), (4, .int (-1)), (3, .int (nI q)), (0, .ref q3), (1, .int (nI a)), (2, .int (nI e))]) hx hb d_Rdr_takeOther_134 hl (by decide) rfl (fun ls hl => ?_)
                    refine lv_iload hx hb d_Rdr_takeOther_136 (lv_at hl 1 rfl) ?_
                    refine lv_if_ne (tgt := 151) hx hb d_Rdr_takeOther_138 (by decide) (fun c37 => ?_) (fun c37 => ?_)
                    · exact absurd rfl c37
                    · refine lv_iload hx hb d_Rdr_takeOther_141 (lv_at hl 0 rfl) ?_
                      refine lv_if_ne (tgt := 151) hx hb d_Rdr_takeOther_143 (by decide) (fun c38 => ?_) (fun c38 => ?_)
                      · exact absurd rfl c38
                      · refine lv_iload hx hb d_Rdr_takeOther_146 (lv_at hl 2 rfl) ?_
                        refine lv_if_ge (tgt := 153) hx hb d_Rdr_takeOther_148 (by decide) (fun c39 => ?_) (fun c39 => ?_)
                        · have hc0 : ¬ (lk (nmM tx (q + 1) e) sd_comp) = 0 := fun q => absurd c39 (by rw [q]; decide)
                          have hok : ¬ ((q < e ∧ (lk (nmM tx a q) sd_dest) = 0) ∨ (e < e ∧ 0 = 0) ∨ (lk (nmM tx (q + 1) e) sd_comp) = 0) := by
                            rintro (h | h | h)
                            · exact hdw h.2
                            · exact absurd h.1 (Nat.lt_irrefl e)
                            · exact hc0 h
                          refine lv_aload_n hx hb d_Rdr_takeOther_153 rfl (lv_at hl 7 rfl) ?_
                          refine va_get (D := g.1) (ci := 4) (v := .ref q2) (C := "SignDesk$Reader") (T := F_Rdr) (N := 4) hx hb hts in_Rdr hown hK hP 0 rfl rfl 1 (by decide) (hts _ k_102) (fun _ h9 => h9) rfl d_Rdr_takeOther_154 ?_
                          refine sd_ri (va_runV (As := []) (rest := []) ⟨hx, hb, hml, hown, hts⟩ (c_Prg_isFull l g q2 q6 (wn st) pw hPR.1) (cwV 0 hts (sd_gV k_308 k_309 k_310 k_25 k_311) rfl rfl rfl (by decide +kernel) ⟨Nat.le_of_ble_eq_true rfl, Nat.le_of_ble_eq_true rfl⟩) (sd_preV hK hE (sd_fr hS hA0) (hP.sub (ws' := [(q2, .inr (3, [.ref q6, .int (nI (wn st))])), (q6, .inl (gI g, 600, .inl pw))]) [3, 4] rfl) rfl rfl) rfl rfl hl.1 rfl (lv_room (Nat.le_of_ble_eq_true rfl)) d_Rdr_takeOther_157 ⟨Nat.zero_le _, Nat.zero_le _⟩) (fun r40 er40 => ?_)
                          subst er40
                          refine lv_if_eq (tgt := 165) hx hb d_Rdr_takeOther_160 (by decide) (fun c41 => ?_) (fun c41 => ?_)
                          · have c41 := sb_eq0.mp c41
                            refine lv_aload_n hx hb d_Rdr_takeOther_165 rfl (lv_at hl 7 rfl) ?_
                            refine va_get (D := g.1) (ci := 4) (v := .ref q2) (C := "SignDesk$Reader") (T := F_Rdr) (N := 4) hx hb hts in_Rdr hown hK hP 0 rfl rfl 1 (by decide) (hts _ k_102) (fun _ h9 => h9) rfl d_Rdr_takeOther_166 ?_
                            refine lv_ldc (v := nI 57344) hx hb hown (hts _ k_358) d_Rdr_takeOther_169 ?_
                            refine lv_iload hx hb d_Rdr_takeOther_171 (lv_at hl 2 rfl) ?_
                            refine sd_topi (y := nI ((lk (nmM tx (q + 1) e) sd_comp) - 1)) (m1_up hc0) ?_
                            refine lv_iadd hx hb d_Rdr_takeOther_173 ?_
                            refine sd_topi (y := nI (57344 + ((lk (nmM tx (q + 1) e) sd_comp) - 1))) (nI_add _ _) ?_
                            refine lv_bipush (v := (nI 8)) hx hb d_Rdr_takeOther_174 (by decide) ?_
                            refine lv_iload hx hb d_Rdr_takeOther_176 (lv_at hl 4 rfl) ?_
                            refine lv_imul hx hb d_Rdr_takeOther_178 ?_
                            refine sd_topi (y := nI (8 * (lk (nmM tx a q) sd_dest))) (pk_mul _ _) ?_
                            refine lv_iadd hx hb d_Rdr_takeOther_179 ?_
                            refine sd_topi (y := nI ((57344 + ((lk (nmM tx (q + 1) e) sd_comp) - 1)) + (8 * (lk (nmM tx a q) sd_dest)))) (nI_add _ _) ?_
                            refine lv_iload hx hb d_Rdr_takeOther_180 (lv_at hl 3 rfl) ?_
                            refine lv_iadd hx hb d_Rdr_takeOther_182 ?_
                            refine sd_topi (y := nI (((57344 + ((lk (nmM tx (q + 1) e) sd_comp) - 1)) + (8 * (lk (nmM tx a q) sd_dest))) + 0)) (nI_add _ _) ?_
                            refine sd_topi (y := nI (57344 + ((lk (nmM tx (q + 1) e) sd_comp) - 1) + 8 * (lk (nmM tx a q) sd_dest) + 0)) (congrArg nI (by omega)) ?_
                            have hPc := hP.sub (ws' := [(q2, .inr (3, [.ref q6, .int (nI (wn st))])), (q6, .inl (gI g, 600, .inl pw))]) [3, 4] rfl
                            have hDc := hD.sub (ws' := [(q2, .inr (3, [.ref q6, .int (nI (wn st))])), (q6, .inl (gI g, 600, .inl pw))]) [3, 4] (by decide) rfl
                            have hFc := va_free (wc := [(q2, .inr (3, [.ref q6, .int (nI (wn st))])), (q6, .inl (gI g, 600, .inl pw))]) hD hS hA [3, 4] rfl
                            refine sd_cv (va_runV (As := [.int (nI (57344 + ((lk (nmM tx (q + 1) e) sd_comp) - 1) + 8 * (lk (nmM tx a q) sd_dest) + 0))]) (rest := []) ⟨hx, hb, hml, hown, hts⟩ (c_Prg_add l g q2 q6 (wn st) pw hPR.1 (nI (57344 + ((lk (nmM tx (q + 1) e) sd_comp) - 1) + 8 * (lk (nmM tx a q) sd_dest) + 0)) (by omega) s.heap.size) (cwV 1 hts (sd_gV k_321 k_322 k_323 k_25 k_324) rfl rfl rfl (by decide +kernel) ⟨Nat.le_of_ble_eq_true rfl, Nat.le_of_ble_eq_true rfl⟩) (sd_preVU hK hE hS hA0 hs0 hPc hDc rfl rfl) rfl rfl hl.1 rfl (lv_room (Nat.le_of_ble_eq_true rfl)) d_Rdr_takeOther_183 ⟨Nat.zero_le _, Nat.zero_le _⟩) hS hFc (fun u H1 locs hw hP1 hD1 hk1 hS => ?_)
                            obtain ⟨hP, hD⟩ := va_join (wr := [(q3, .inr (4, [.ref q1, .ref q2, .ref q7, .int fp])), (q1, .inr (6, [.ref q5, .int (nI n)])), (q5, .inl (gB g, 2000, .inl f)), (q7, .inr (5, [.ref q1, .ref q8, .ref q9, .ref q10, .int (nI (sn st))])), (q8, .inl (gI g, 40, .inl s1)), (q9, .inl (gI g, 40, .inl s2a)), (q10, .inl (gI g, 40, .inl s3))]) (w1 := [(q2, .inr (3, [.ref q6, .int (nI (wn st + 1))])), (q6, .inl (gI g, 600, .inl (upd pw (wn st) (nI (57344 + ((lk (nmM tx (q + 1) e) sd_comp) - 1) + 8 * (lk (nmM tx a q) sd_dest) + 0)))))]) hP hD [3, 4] [0, 1, 2, 5, 6, 7, 8] rfl rfl (by decide) (by decide) hk1 hFc hP1 hD1
                            clear hPc hDc hFc hk1 hP1 hD1
                            generalize H1 = H at hP hS ⊢
                            have hP : sdP g [(q3, .inr (4, [.ref q1, .ref q2, .ref q7, .int fp])), (q1, .inr (6, [.ref q5, .int (nI n)])), (q5, .inl (gB g, 2000, .inl f)), (q7, .inr (5, [.ref q1, .ref q8, .ref q9, .ref q10, .int (nI (sn st))])), (q8, .inl (gI g, 40, .inl s1)), (q9, .inl (gI g, 40, .inl s2a)), (q10, .inl (gI g, 40, .inl s3)), (q2, .inr (3, [.ref q6, .int (nI (wn st + 1))])), (q6, .inl (gI g, 600, .inl (upd pw (wn st) (nI (57344 + ((lk (nmM tx (q + 1) e) sd_comp) - 1) + 8 * (lk (nmM tx a q) sd_dest) + 0)))))] H := hP
                            have hD : va_D A [(q3, .inr (4, [.ref q1, .ref q2, .ref q7, .int fp])), (q1, .inr (6, [.ref q5, .int (nI n)])), (q5, .inl (gB g, 2000, .inl f)), (q7, .inr (5, [.ref q1, .ref q8, .ref q9, .ref q10, .int (nI (sn st))])), (q8, .inl (gI g, 40, .inl s1)), (q9, .inl (gI g, 40, .inl s2a)), (q10, .inl (gI g, 40, .inl s3)), (q2, .inr (3, [.ref q6, .int (nI (wn st + 1))])), (q6, .inl (gI g, 600, .inl (upd pw (wn st) (nI (57344 + ((lk (nmM tx (q + 1) e) sd_comp) - 1) + 8 * (lk (nmM tx a q) sd_dest) + 0)))))] := hD
                            refine lv_iconst (v := (nI 0)) hx hb d_Rdr_takeOther_186 (by decide) ?_
                            have hP9 := hP.sub (ws' := [(q3, .inr (4, [.ref q1, .ref q2, .ref q7, .int fp])), (q1, .inr (6, [.ref q5, .int (nI n)])), (q5, .inl (gB g, 2000, .inl f)), (q2, .inr (3, [.ref q6, .int (nI (wn st + 1))])), (q6, .inl (gI g, 600, .inl (upd pw (wn st) (nI (57344 + ((lk (nmM tx (q + 1) e) sd_comp) - 1) + 8 * (lk (nmM tx a q) sd_dest) + 0))))), (q7, .inr (5, [.ref q1, .ref q8, .ref q9, .ref q10, .int (nI (sn st))])), (q8, .inl (gI g, 40, .inl s1)), (q9, .inl (gI g, 40, .inl s2a)), (q10, .inl (gI g, 40, .inl s3))]) [0, 1, 2, 7, 8, 3, 4, 5, 6] rfl
                            have hD9 := hD.sub (ws' := [(q3, .inr (4, [.ref q1, .ref q2, .ref q7, .int fp])), (q1, .inr (6, [.ref q5, .int (nI n)])), (q5, .inl (gB g, 2000, .inl f)), (q2, .inr (3, [.ref q6, .int (nI (wn st + 1))])), (q6, .inl (gI g, 600, .inl (upd pw (wn st) (nI (57344 + ((lk (nmM tx (q + 1) e) sd_comp) - 1) + 8 * (lk (nmM tx a q) sd_dest) + 0))))), (q7, .inr (5, [.ref q1, .ref q8, .ref q9, .ref q10, .int (nI (sn st))])), (q8, .inl (gI g, 40, .inl s1)), (q9, .inl (gI g, 40, .inl s2a)), (q10, .inl (gI g, 40, .inl s3))]) [0, 1, 2, 7, 8, 3, 4, 5, 6] (by decide) rfl
                            exact W.iret (v := (nI 0)) hx hb hr (fun t ht hW => ⟨⟨_, (pushW st (57344 + ((lk (nmM tx (q + 1) e) sd_comp) - 1) + 8 * (lk (nmM tx a q) sd_dest) + 0) 0, upd pw (wn st) (nI (57344 + ((lk (nmM tx (q + 1) e) sd_comp) - 1) + 8 * (lk (nmM tx a q) sd_dest) + 0)), s1, s2a, s3), rfl, ⟨⟨0, by rw [hG, if_neg hok, if_neg c41], rfl⟩, PR_push (y := 0) hPR (by omega), hSR⟩, by rw [ht]; exact hP9, by rw [hAe]; exact hD9⟩, hS.F ht⟩) hS.2.2 d_Rdr_takeOther_187
                          · have c41 := sb_ne0.mp c41
                            refine lv_iconst (v := (nI 2)) hx hb d_Rdr_takeOther_163 (by decide) ?_
                            have hP9 := hP.sub (ws' := [(q3, .inr (4, [.ref q1, .ref q2, .ref q7, .int fp])), (q1, .inr (6, [.ref q5, .int (nI n)])), (q5, .inl (gB g, 2000, .inl f)), (q2, .inr (3, [.ref q6, .int (nI (wn st))])), (q6, .inl (gI g, 600, .inl pw)), (q7, .inr (5, [.ref q1, .ref q8, .ref q9, .ref q10, .int (nI (sn st))])), (q8, .inl (gI g, 40, .inl s1)), (q9, .inl (gI g, 40, .inl s2a)), (q10, .inl (gI g, 40, .inl s3))]) [0, 1, 2, 3, 4, 5, 6, 7, 8] rfl
                            have hD9 := hD.sub (ws' := [(q3, .inr (4, [.ref q1, .ref q2, .ref q7, .int fp])), (q1, .inr (6, [.ref q5, .int (nI n)])), (q5, .inl (gB g, 2000, .inl f)), (q2, .inr (3, [.ref q6, .int (nI (wn st))])), (q6, .inl (gI g, 600, .inl pw)), (q7, .inr (5, [.ref q1, .ref q8, .ref q9, .ref q10, .int (nI (sn st))])), (q8, .inl (gI g, 40, .inl s1)), (q9, .inl (gI g, 40, .inl s2a)), (q10, .inl (gI g, 40, .inl s3))]) [0, 1, 2, 3, 4, 5, 6, 7, 8] (by decide) rfl
                            exact W.iret (v := (nI 2)) hx hb hr (fun t ht hW => ⟨⟨_, (st, pw, s1, s2a, s3), rfl, ⟨⟨2, by rw [hG, if_neg hok, if_pos c41], rfl⟩, hPR, hSR⟩, by rw [ht]; exact hP9, by rw [hAe]; exact hD9⟩, hS.F ht⟩) hS.2.2 d_Rdr_takeOther_164
                        · have hc0 : (lk (nmM tx (q + 1) e) sd_comp) = 0 := (m1_lt (by omega)).mp (Int32.not_le.mp c39)
                          refine lv_iconst (v := (nI 1)) hx hb d_Rdr_takeOther_151 (by decide) ?_
                          have hP9 := hP.sub (ws' := [(q3, .inr (4, [.ref q1, .ref q2, .ref q7, .int fp])), (q1, .inr (6, [.ref q5, .int (nI n)])), (q5, .inl (gB g, 2000, .inl f)), (q2, .inr (3, [.ref q6, .int (nI (wn st))])), (q6, .inl (gI g, 600, .inl pw)), (q7, .inr (5, [.ref q1, .ref q8, .ref q9, .ref q10, .int (nI (sn st))])), (q8, .inl (gI g, 40, .inl s1)), (q9, .inl (gI g, 40, .inl s2a)), (q10, .inl (gI g, 40, .inl s3))]) [0, 1, 2, 3, 4, 5, 6, 7, 8] rfl
                          have hD9 := hD.sub (ws' := [(q3, .inr (4, [.ref q1, .ref q2, .ref q7, .int fp])), (q1, .inr (6, [.ref q5, .int (nI n)])), (q5, .inl (gB g, 2000, .inl f)), (q2, .inr (3, [.ref q6, .int (nI (wn st))])), (q6, .inl (gI g, 600, .inl pw)), (q7, .inr (5, [.ref q1, .ref q8, .ref q9, .ref q10, .int (nI (sn st))])), (q8, .inl (gI g, 40, .inl s1)), (q9, .inl (gI g, 40, .inl s2a)), (q10, .inl (gI g, 40, .inl s3))]) [0, 1, 2, 3, 4, 5, 6, 7, 8] (by decide) rfl
                          exact W.iret (v := (nI 1)) hx hb hr (fun t ht hW => ⟨⟨_, (st, pw, s1, s2a, s3), rfl, ⟨⟨1, by rw [hG, if_pos (Or.inr (Or.inr hc0))], rfl⟩, hPR, hSR⟩, by rw [ht]; exact hP9, by rw [hAe]; exact hD9⟩, hS.F ht⟩) hS.2.2 d_Rdr_takeOther_152
                  · exact absurd (by decide) c36
                · have hdw := (nI_eq (b := 0) (by omega) (by omega)).mp c35
                  refine lv_iconst (v := (nI 1)) hx hb d_Rdr_takeOther_112 (by decide) ?_
                  refine lv_goto (tgt := 117) hx hb d_Rdr_takeOther_113 (by decide) ?_
                  refine lv_istore (lv' := [(8, .int (nI 1)), (7, .int (nI (lk (nmM tx (q + 1) e) sd_comp) - 1)), (6, .int (nI 0)), (5, .int (nI (lk (nmM tx a q) sd_dest))), (4, .int (-1)), (3, .int (nI q)), (0, .ref q3), (1, .int (nI a)), (2, .int (nI e))]) hx hb d_Rdr_takeOther_117 hl (by decide) rfl (fun ls hl => ?_)
                  refine lv_iload hx hb d_Rdr_takeOther_119 (lv_at hl 4 rfl) ?_
                  refine lv_if_lt (tgt := 133) hx hb d_Rdr_takeOther_121 (by decide) (fun c43 => ?_) (fun c43 => ?_)
                  · refine lv_iconst (v := (nI 0)) hx hb d_Rdr_takeOther_133 (by decide) ?_
                    refine lv_istore (lv' := [(9, .int (nI 0)), (8, .int (nI 1)), (7, .int (nI (lk (nmM tx (q + 1) e) sd_comp) - 1)), (6, .int (nI 0)), (5, .int (nI (lk (nmM tx a q) sd_dest))), (4, .int (-1)), (3, .int (nI q)), (0, .ref q3), (1, .int (nI a)), (2, .int (nI e))]) hx hb d_Rdr_takeOther_134 hl (by decide) rfl (fun ls hl => ?_)
                    refine lv_iload hx hb d_Rdr_takeOther_136 (lv_at hl 1 rfl) ?_
                    refine lv_if_ne (tgt := 151) hx hb d_Rdr_takeOther_138 (by decide) (fun c44 => ?_) (fun c44 => ?_)
                    · refine lv_iconst (v := (nI 1)) hx hb d_Rdr_takeOther_151 (by decide) ?_
                      have hP9 := hP.sub (ws' := [(q3, .inr (4, [.ref q1, .ref q2, .ref q7, .int fp])), (q1, .inr (6, [.ref q5, .int (nI n)])), (q5, .inl (gB g, 2000, .inl f)), (q2, .inr (3, [.ref q6, .int (nI (wn st))])), (q6, .inl (gI g, 600, .inl pw)), (q7, .inr (5, [.ref q1, .ref q8, .ref q9, .ref q10, .int (nI (sn st))])), (q8, .inl (gI g, 40, .inl s1)), (q9, .inl (gI g, 40, .inl s2a)), (q10, .inl (gI g, 40, .inl s3))]) [0, 1, 2, 3, 4, 5, 6, 7, 8] rfl
                      have hD9 := hD.sub (ws' := [(q3, .inr (4, [.ref q1, .ref q2, .ref q7, .int fp])), (q1, .inr (6, [.ref q5, .int (nI n)])), (q5, .inl (gB g, 2000, .inl f)), (q2, .inr (3, [.ref q6, .int (nI (wn st))])), (q6, .inl (gI g, 600, .inl pw)), (q7, .inr (5, [.ref q1, .ref q8, .ref q9, .ref q10, .int (nI (sn st))])), (q8, .inl (gI g, 40, .inl s1)), (q9, .inl (gI g, 40, .inl s2a)), (q10, .inl (gI g, 40, .inl s3))]) [0, 1, 2, 3, 4, 5, 6, 7, 8] (by decide) rfl
                      exact W.iret (v := (nI 1)) hx hb hr (fun t ht hW => ⟨⟨_, (st, pw, s1, s2a, s3), rfl, ⟨⟨1, by rw [hG, if_pos (Or.inl ⟨hq2, hdw⟩)], rfl⟩, hPR, hSR⟩, by rw [ht]; exact hP9, by rw [hAe]; exact hD9⟩, hS.F ht⟩) hS.2.2 d_Rdr_takeOther_152
                    · exact absurd c44 (by decide)
                  · exact absurd (by decide) c43
          · exact absurd (nI_pos' (by omega)) c31
      · exact absurd (nI_pos' (by omega)) c28
  · have hq : oF tx 61 a e = e := ff_eq _ _ _ (by omega) (by omega) hq4 (fun h => absurd h (by omega))
    refine lv_istore_n (lv' := [(3, .int (-1)), (0, .ref q3), (1, .int (nI a)), (2, .int (nI e))]) hx hb d_Rdr_takeOther_11 rfl hl (by decide) rfl (fun ls hl => ?_)
    refine lv_aload_n hx hb d_Rdr_takeOther_12 rfl (lv_at hl 1 rfl) ?_
    refine va_get (D := g.1) (ci := 4) (v := .ref q1) (C := "SignDesk$Reader") (T := F_Rdr) (N := 4) hx hb hts in_Rdr hown hK hP 0 rfl rfl 0 (by decide) (hts _ k_101) (fun _ h9 => h9) rfl d_Rdr_takeOther_13 ?_
    refine lv_bipush (v := (nI 59)) hx hb d_Rdr_takeOther_16 (by decide) ?_
    refine lv_iload_n hx hb d_Rdr_takeOther_18 rfl (lv_at hl 2 rfl) ?_
    refine lv_iload_n hx hb d_Rdr_takeOther_19 rfl (lv_at hl 3 rfl) ?_
    refine sd_ri (va_runV (As := [.int (nI 59), .int (nI a), .int (nI e)]) (rest := []) ⟨hx, hb, hml, hown, hts⟩ (c_Txt_find l g q1 q5 n f tx hT 59 a e (by decide) (by omega) (by omega)) (cwV 3 hts (sd_gV k_342 k_343 k_344 k_24 k_345) rfl rfl rfl (by decide +kernel) ⟨Nat.le_of_ble_eq_true rfl, Nat.le_of_ble_eq_true rfl⟩) (sd_preV hK hE (sd_fr hS hA0) (hP.sub (ws' := [(q1, .inr (6, [.ref q5, .int (nI n)])), (q5, .inl (gB g, 2000, .inl f))]) [1, 2] rfl) rfl rfl) rfl rfl hl.1 rfl (lv_room (Nat.le_of_ble_eq_true rfl)) d_Rdr_takeOther_20 ⟨Nat.zero_le _, Nat.zero_le _⟩) (fun r45 er45 => ?_)
    rcases er45 with ⟨s2, rfl, hs1, hs2, hs3, hs4⟩ | ⟨hs4, rfl⟩
    · have hs : oF tx 59 a e = s2 := ff_eq _ _ _ hs1 (by omega) hs4 (fun _ => hs3)
      have hG := spOther_g (tx := tx) (st := st) (D := 0) (J := (lk (nmM tx (s2 + 1) e) sd_jump)) (ca := a) hq hs (if_neg (Nat.lt_irrefl e)).symm (if_neg (Nat.lt_irrefl e)).symm (if_pos hs2).symm rfl
      have hDl : 0 ≤ 7 := by decide
      have hJl : (lk (nmM tx (s2 + 1) e) sd_jump) ≤ 7 := lk_le sd_jump_lt
      have hCl : (lk (nmM tx a s2) sd_comp) ≤ 8129 := lk_le sd_comp_lt
      refine lv_istore (lv' := [(4, .int (nI s2)), (3, .int (-1)), (0, .ref q3), (1, .int (nI a)), (2, .int (nI e))]) hx hb d_Rdr_takeOther_23 hl (by decide) rfl (fun ls hl => ?_)
      refine lv_iload_n hx hb d_Rdr_takeOther_25 rfl (lv_at hl 1 rfl) ?_
      refine lv_if_ge (tgt := 33) hx hb d_Rdr_takeOther_26 (by decide) (fun c46 => ?_) (fun c46 => ?_)
      · exact absurd c46 (by decide)
      · refine lv_iconst (v := (nI 0)) hx hb d_Rdr_takeOther_29 (by decide) ?_
        refine lv_goto (tgt := 46) hx hb d_Rdr_takeOther_30 (by decide) ?_
        refine lv_istore (lv' := [(5, .int (nI 0)), (4, .int (nI s2)), (3, .int (-1)), (0, .ref q3), (1, .int (nI a)), (2, .int (nI e))]) hx hb d_Rdr_takeOther_46 hl (by decide) rfl (fun ls hl => ?_)
        refine lv_iload hx hb d_Rdr_takeOther_48 (lv_at hl 1 rfl) ?_
        refine lv_if_ge (tgt := 57) hx hb d_Rdr_takeOther_50 (by decide) (fun c47 => ?_) (fun c47 => ?_)
        · refine lv_iconst (v := (nI 1)) hx hb d_Rdr_takeOther_57 (by decide) ?_
          refine lv_aload_n hx hb d_Rdr_takeOther_58 rfl (lv_at hl 3 rfl) ?_
          refine va_get (D := g.1) (ci := 4) (v := .ref q1) (C := "SignDesk$Reader") (T := F_Rdr) (N := 4) hx hb hts in_Rdr hown hK hP 0 rfl rfl 0 (by decide) (hts _ k_101) (fun _ h9 => h9) rfl d_Rdr_takeOther_59 ?_
          refine va_ldcS hx hb hown hE.2.2.2.2.2.2.1.2.2.1 d_Rdr_takeOther_62 ?_
          refine lv_iload hx hb d_Rdr_takeOther_64 (lv_at hl 1 rfl) ?_
          refine lv_iconst (v := (nI 1)) hx hb d_Rdr_takeOther_66 (by decide) ?_
          refine lv_iadd hx hb d_Rdr_takeOther_67 ?_
          refine sd_topi (y := nI (s2 + 1)) (nI_add _ _) ?_
          refine lv_iload_n hx hb d_Rdr_takeOther_68 rfl (lv_at hl 5 rfl) ?_
          refine sd_ri (va_runV (As := [.ref (gk g 2), .int (nI (s2 + 1)), .int (nI e)]) (rest := [.int (nI 1)]) ⟨hx, hb, hml, hown, hts⟩ (c_Txt_nameAmong l g q1 q5 n f tx hT 2 (by decide) (s2 + 1) (e) (by omega) (by omega)) (cwV 3 hts (sd_gV k_249 k_250 k_251 k_24 k_252) rfl rfl rfl (by decide +kernel) ⟨Nat.le_of_ble_eq_true rfl, Nat.le_of_ble_eq_true rfl⟩) (sd_preV hK hE (sd_fr hS hA0) (hP.sub (ws' := [(q1, .inr (6, [.ref q5, .int (nI n)])), (q5, .inl (gB g, 2000, .inl f))]) [1, 2] rfl) rfl rfl) rfl rfl hl.1 rfl (lv_room (Nat.le_of_ble_eq_true rfl)) d_Rdr_takeOther_69 ⟨Nat.zero_le _, Nat.zero_le _⟩) (fun r48 er48 => ?_)
          subst er48
          refine lv_iadd hx hb d_Rdr_takeOther_72 ?_
          refine sd_topi (y := nI (lk (nmM tx (s2 + 1) e) sd_jump)) (sd_jpP) ?_
          refine lv_istore (lv' := [(6, .int (nI (lk (nmM tx (s2 + 1) e) sd_jump))), (5, .int (nI 0)), (4, .int (nI s2)), (3, .int (-1)), (0, .ref q3), (1, .int (nI a)), (2, .int (nI e))]) hx hb d_Rdr_takeOther_73 hl (by decide) rfl (fun ls hl => ?_)
          refine lv_aload_n hx hb d_Rdr_takeOther_75 rfl (lv_at hl 4 rfl) ?_
          refine lv_iload_n hx hb d_Rdr_takeOther_76 rfl (lv_at hl 3 rfl) ?_
          refine lv_if_ge (tgt := 84) hx hb d_Rdr_takeOther_77 (by decide) (fun c49 => ?_) (fun c49 => ?_)
          · exact absurd c49 (by decide)
          · refine lv_iload_n hx hb d_Rdr_takeOther_80 rfl (lv_at hl 5 rfl) ?_
            refine lv_goto (tgt := 87) hx hb d_Rdr_takeOther_81 (by decide) ?_
            refine lv_iload hx hb d_Rdr_takeOther_87 (lv_at hl 2 rfl) ?_
            refine lv_if_ge (tgt := 96) hx hb d_Rdr_takeOther_89 (by decide) (fun c50 => ?_) (fun c50 => ?_)
            · refine lv_iload hx hb d_Rdr_takeOther_96 (lv_at hl 2 rfl) ?_
              refine sd_ri (va_runV (As := [.int (nI a), .int (nI s2)]) (rest := []) ⟨hx, hb, hml, hown, hts⟩ (c_Rdr_compBits l g q3 q1 q2 q7 q5 n fp f tx hT a s2 (by omega) (by omega)) (cwV 2 hts (sd_gV k_348 k_350 k_6 k_26 k_351) rfl rfl rfl (by decide +kernel) ⟨Nat.le_of_ble_eq_true rfl, Nat.le_of_ble_eq_true rfl⟩) (sd_preV hK hE (sd_fr hS hA0) (hP.sub (ws' := [(q3, .inr (4, [.ref q1, .ref q2, .ref q7, .int fp])), (q1, .inr (6, [.ref q5, .int (nI n)])), (q5, .inl (gB g, 2000, .inl f))]) [0, 1, 2] rfl) rfl rfl) rfl rfl hl.1 rfl (lv_room (Nat.le_of_ble_eq_true rfl)) d_Rdr_takeOther_98 ⟨Nat.zero_le _, Nat.zero_le _⟩) (fun r51 er51 => ?_)
              subst er51
              refine lv_istore (lv' := [(7, .int (nI (lk (nmM tx a s2) sd_comp) - 1)), (6, .int (nI (lk (nmM tx (s2 + 1) e) sd_jump))), (5, .int (nI 0)), (4, .int (nI s2)), (3, .int (-1)), (0, .ref q3), (1, .int (nI a)), (2, .int (nI e))]) hx hb d_Rdr_takeOther_101 hl (by decide) rfl (fun ls hl => ?_)
              refine lv_iload_n hx hb d_Rdr_takeOther_103 rfl (lv_at hl 4 rfl) ?_
              refine lv_if_lt (tgt := 116) hx hb d_Rdr_takeOther_104 (by decide) (fun c52 => ?_) (fun c52 => ?_)
              · refine lv_iconst (v := (nI 0)) hx hb d_Rdr_takeOther_116 (by decide) ?_
                refine lv_istore (lv' := [(8, .int (nI 0)), (7, .int (nI (lk (nmM tx a s2) sd_comp) - 1)), (6, .int (nI (lk (nmM tx (s2 + 1) e) sd_jump))), (5, .int (nI 0)), (4, .int (nI s2)), (3, .int (-1)), (0, .ref q3), (1, .int (nI a)), (2, .int (nI e))]) hx hb d_Rdr_takeOther_117 hl (by decide) rfl (fun ls hl => ?_)
                refine lv_iload hx hb d_Rdr_takeOther_119 (lv_at hl 4 rfl) ?_
                refine lv_if_lt (tgt := 133) hx hb d_Rdr_takeOther_121 (by decide) (fun c53 => ?_) (fun c53 => ?_)
                · exact absurd c53 (nI_pos (by omega))
                · refine lv_iload hx hb d_Rdr_takeOther_124 (lv_at hl 2 rfl) ?_
                  refine lv_if_ne (tgt := 133) hx hb d_Rdr_takeOther_126 (by decide) (fun c55 => ?_) (fun c55 => ?_)
                  · have hjw := mt (nI_eq (b := 0) (by omega) (by omega)).mpr c55
                    refine lv_iconst (v := (nI 0)) hx hb d_Rdr_takeOther_133 (by decide) ?_
                    refine lv_istore (lv' := [(9, .int (nI 0)), (8, .int (nI 0)), (7, .int (nI (lk (nmM tx a s2) sd_comp) - 1)), (6, .int (nI (lk (nmM tx (s2 + 1) e) sd_jump))), (5, .int (nI 0)), (4, .int (nI s2)), (3, .int (-1)), (0, .ref q3), (1, .int (nI a)), (2, .int (nI e))]) hx hb d_Rdr_takeOther_134 hl (by decide) rfl (fun ls hl => ?_)
                    refine lv_iload hx hb d_Rdr_takeOther_136 (lv_at hl 1 rfl) ?_
                    refine lv_if_ne (tgt := 151) hx hb d_Rdr_takeOther_138 (by decide) (fun c56 => ?_) (fun c56 => ?_)
                    · exact absurd rfl c56
                    · refine lv_iload hx hb d_Rdr_takeOther_141 (lv_at hl 0 rfl) ?_
                      refine lv_if_ne (tgt := 151) hx hb d_Rdr_takeOther_143 (by decide) (fun c57 => ?_) (fun c57 => ?_)
                      · exact absurd rfl c57
                      · refine lv_iload hx hb d_Rdr_takeOther_146 (lv_at hl 2 rfl) ?_
                        refine lv_if_ge (tgt := 153) hx hb d_Rdr_takeOther_148 (by decide) (fun c58 => ?_) (fun c58 => ?_)
                        · have hc0 : ¬ (lk (nmM tx a s2) sd_comp) = 0 := fun q => absurd c58 (by rw [q]; decide)
                          have hok : ¬ ((e < e ∧ 0 = 0) ∨ (s2 < e ∧ (lk (nmM tx (s2 + 1) e) sd_jump) = 0) ∨ (lk (nmM tx a s2) sd_comp) = 0) := by
                            rintro (h | h | h)
                            · exact absurd h.1 (Nat.lt_irrefl e)
                            · exact hjw h.2
                            · exact hc0 h
                          refine lv_aload_n hx hb d_Rdr_takeOther_153 rfl (lv_at hl 7 rfl) ?_
                          refine va_get (D := g.1) (ci := 4) (v := .ref q2) (C := "SignDesk$Reader") (T := F_Rdr) (N := 4) hx hb hts in_Rdr hown hK hP 0 rfl rfl 1 (by decide) (hts _ k_102) (fun _ h9 => h9) rfl d_Rdr_takeOther_154 ?_
                          refine sd_ri (va_runV (As := []) (rest := []) ⟨hx, hb, hml, hown, hts⟩ (c_Prg_isFull l g q2 q6 (wn st) pw hPR.1) (cwV 0 hts (sd_gV k_308 k_309 k_310 k_25 k_311) rfl rfl rfl (by decide +kernel) ⟨Nat.le_of_ble_eq_true rfl, Nat.le_of_ble_eq_true rfl⟩) (sd_preV hK hE (sd_fr hS hA0) (hP.sub (ws' := [(q2, .inr (3, [.ref q6, .int (nI (wn st))])), (q6, .inl (gI g, 600, .inl pw))]) [3, 4] rfl) rfl rfl) rfl rfl hl.1 rfl (lv_room (Nat.le_of_ble_eq_true rfl)) d_Rdr_takeOther_157 ⟨Nat.zero_le _, Nat.zero_le _⟩) (fun r59 er59 => ?_)
                          subst er59
                          refine lv_if_eq (tgt := 165) hx hb d_Rdr_takeOther_160 (by decide) (fun c60 => ?_) (fun c60 => ?_)
                          · have c60 := sb_eq0.mp c60
                            refine lv_aload_n hx hb d_Rdr_takeOther_165 rfl (lv_at hl 7 rfl) ?_
                            refine va_get (D := g.1) (ci := 4) (v := .ref q2) (C := "SignDesk$Reader") (T := F_Rdr) (N := 4) hx hb hts in_Rdr hown hK hP 0 rfl rfl 1 (by decide) (hts _ k_102) (fun _ h9 => h9) rfl d_Rdr_takeOther_166 ?_
                            refine lv_ldc (v := nI 57344) hx hb hown (hts _ k_358) d_Rdr_takeOther_169 ?_
                            refine lv_iload hx hb d_Rdr_takeOther_171 (lv_at hl 2 rfl) ?_
                            refine sd_topi (y := nI ((lk (nmM tx a s2) sd_comp) - 1)) (m1_up hc0) ?_
                            refine lv_iadd hx hb d_Rdr_takeOther_173 ?_
                            refine sd_topi (y := nI (57344 + ((lk (nmM tx a s2) sd_comp) - 1))) (nI_add _ _) ?_
                            refine lv_bipush (v := (nI 8)) hx hb d_Rdr_takeOther_174 (by decide) ?_
                            refine lv_iload hx hb d_Rdr_takeOther_176 (lv_at hl 4 rfl) ?_
                            refine lv_imul hx hb d_Rdr_takeOther_178 ?_
                            refine sd_topi (y := nI (8 * 0)) (pk_mul _ _) ?_
                            refine lv_iadd hx hb d_Rdr_takeOther_179 ?_
                            refine sd_topi (y := nI ((57344 + ((lk (nmM tx a s2) sd_comp) - 1)) + (8 * 0))) (nI_add _ _) ?_
                            refine lv_iload hx hb d_Rdr_takeOther_180 (lv_at hl 3 rfl) ?_
                            refine lv_iadd hx hb d_Rdr_takeOther_182 ?_
                            refine sd_topi (y := nI (((57344 + ((lk (nmM tx a s2) sd_comp) - 1)) + (8 * 0)) + (lk (nmM tx (s2 + 1) e) sd_jump))) (nI_add _ _) ?_
                            refine sd_topi (y := nI (57344 + ((lk (nmM tx a s2) sd_comp) - 1) + 8 * 0 + (lk (nmM tx (s2 + 1) e) sd_jump))) (congrArg nI (by omega)) ?_
                            have hPc := hP.sub (ws' := [(q2, .inr (3, [.ref q6, .int (nI (wn st))])), (q6, .inl (gI g, 600, .inl pw))]) [3, 4] rfl
                            have hDc := hD.sub (ws' := [(q2, .inr (3, [.ref q6, .int (nI (wn st))])), (q6, .inl (gI g, 600, .inl pw))]) [3, 4] (by decide) rfl
                            have hFc := va_free (wc := [(q2, .inr (3, [.ref q6, .int (nI (wn st))])), (q6, .inl (gI g, 600, .inl pw))]) hD hS hA [3, 4] rfl
                            refine sd_cv (va_runV (As := [.int (nI (57344 + ((lk (nmM tx a s2) sd_comp) - 1) + 8 * 0 + (lk (nmM tx (s2 + 1) e) sd_jump)))]) (rest := []) ⟨hx, hb, hml, hown, hts⟩ (c_Prg_add l g q2 q6 (wn st) pw hPR.1 (nI (57344 + ((lk (nmM tx a s2) sd_comp) - 1) + 8 * 0 + (lk (nmM tx (s2 + 1) e) sd_jump))) (by omega) s.heap.size) (cwV 1 hts (sd_gV k_321 k_322 k_323 k_25 k_324) rfl rfl rfl (by decide +kernel) ⟨Nat.le_of_ble_eq_true rfl, Nat.le_of_ble_eq_true rfl⟩) (sd_preVU hK hE hS hA0 hs0 hPc hDc rfl rfl) rfl rfl hl.1 rfl (lv_room (Nat.le_of_ble_eq_true rfl)) d_Rdr_takeOther_183 ⟨Nat.zero_le _, Nat.zero_le _⟩) hS hFc (fun u H1 locs hw hP1 hD1 hk1 hS => ?_)
                            obtain ⟨hP, hD⟩ := va_join (wr := [(q3, .inr (4, [.ref q1, .ref q2, .ref q7, .int fp])), (q1, .inr (6, [.ref q5, .int (nI n)])), (q5, .inl (gB g, 2000, .inl f)), (q7, .inr (5, [.ref q1, .ref q8, .ref q9, .ref q10, .int (nI (sn st))])), (q8, .inl (gI g, 40, .inl s1)), (q9, .inl (gI g, 40, .inl s2a)), (q10, .inl (gI g, 40, .inl s3))]) (w1 := [(q2, .inr (3, [.ref q6, .int (nI (wn st + 1))])), (q6, .inl (gI g, 600, .inl (upd pw (wn st) (nI (57344 + ((lk (nmM tx a s2) sd_comp) - 1) + 8 * 0 + (lk (nmM tx (s2 + 1) e) sd_jump))))))]) hP hD [3, 4] [0, 1, 2, 5, 6, 7, 8] rfl rfl (by decide) (by decide) hk1 hFc hP1 hD1
                            clear hPc hDc hFc hk1 hP1 hD1
                            generalize H1 = H at hP hS ⊢
                            have hP : sdP g [(q3, .inr (4, [.ref q1, .ref q2, .ref q7, .int fp])), (q1, .inr (6, [.ref q5, .int (nI n)])), (q5, .inl (gB g, 2000, .inl f)), (q7, .inr (5, [.ref q1, .ref q8, .ref q9, .ref q10, .int (nI (sn st))])), (q8, .inl (gI g, 40, .inl s1)), (q9, .inl (gI g, 40, .inl s2a)), (q10, .inl (gI g, 40, .inl s3)), (q2, .inr (3, [.ref q6, .int (nI (wn st + 1))])), (q6, .inl (gI g, 600, .inl (upd pw (wn st) (nI (57344 + ((lk (nmM tx a s2) sd_comp) - 1) + 8 * 0 + (lk (nmM tx (s2 + 1) e) sd_jump))))))] H := hP
                            have hD : va_D A [(q3, .inr (4, [.ref q1, .ref q2, .ref q7, .int fp])), (q1, .inr (6, [.ref q5, .int (nI n)])), (q5, .inl (gB g, 2000, .inl f)), (q7, .inr (5, [.ref q1, .ref q8, .ref q9, .ref q10, .int (nI (sn st))])), (q8, .inl (gI g, 40, .inl s1)), (q9, .inl (gI g, 40, .inl s2a)), (q10, .inl (gI g, 40, .inl s3)), (q2, .inr (3, [.ref q6, .int (nI (wn st + 1))])), (q6, .inl (gI g, 600, .inl (upd pw (wn st) (nI (57344 + ((lk (nmM tx a s2) sd_comp) - 1) + 8 * 0 + (lk (nmM tx (s2 + 1) e) sd_jump))))))] := hD
                            refine lv_iconst (v := (nI 0)) hx hb d_Rdr_takeOther_186 (by decide) ?_
                            have hP9 := hP.sub (ws' := [(q3, .inr (4, [.ref q1, .ref q2, .ref q7, .int fp])), (q1, .inr (6, [.ref q5, .int (nI n)])), (q5, .inl (gB g, 2000, .inl f)), (q2, .inr (3, [.ref q6, .int (nI (wn st + 1))])), (q6, .inl (gI g, 600, .inl (upd pw (wn st) (nI (57344 + ((lk (nmM tx a s2) sd_comp) - 1) + 8 * 0 + (lk (nmM tx (s2 + 1) e) sd_jump)))))), (q7, .inr (5, [.ref q1, .ref q8, .ref q9, .ref q10, .int (nI (sn st))])), (q8, .inl (gI g, 40, .inl s1)), (q9, .inl (gI g, 40, .inl s2a)), (q10, .inl (gI g, 40, .inl s3))]) [0, 1, 2, 7, 8, 3, 4, 5, 6] rfl
                            have hD9 := hD.sub (ws' := [(q3, .inr (4, [.ref q1, .ref q2, .ref q7, .int fp])), (q1, .inr (6, [.ref q5, .int (nI n)])), (q5, .inl (gB g, 2000, .inl f)), (q2, .inr (3, [.ref q6, .int (nI (wn st + 1))])), (q6, .inl (gI g, 600, .inl (upd pw (wn st) (nI (57344 + ((lk (nmM tx a s2) sd_comp) - 1) + 8 * 0 + (lk (nmM tx (s2 + 1) e) sd_jump)))))), (q7, .inr (5, [.ref q1, .ref q8, .ref q9, .ref q10, .int (nI (sn st))])), (q8, .inl (gI g, 40, .inl s1)), (q9, .inl (gI g, 40, .inl s2a)), (q10, .inl (gI g, 40, .inl s3))]) [0, 1, 2, 7, 8, 3, 4, 5, 6] (by decide) rfl
                            exact W.iret (v := (nI 0)) hx hb hr (fun t ht hW => ⟨⟨_, (pushW st (57344 + ((lk (nmM tx a s2) sd_comp) - 1) + 8 * 0 + (lk (nmM tx (s2 + 1) e) sd_jump)) 0, upd pw (wn st) (nI (57344 + ((lk (nmM tx a s2) sd_comp) - 1) + 8 * 0 + (lk (nmM tx (s2 + 1) e) sd_jump))), s1, s2a, s3), rfl, ⟨⟨0, by rw [hG, if_neg hok, if_neg c60], rfl⟩, PR_push (y := 0) hPR (by omega), hSR⟩, by rw [ht]; exact hP9, by rw [hAe]; exact hD9⟩, hS.F ht⟩) hS.2.2 d_Rdr_takeOther_187
                          · have c60 := sb_ne0.mp c60
                            refine lv_iconst (v := (nI 2)) hx hb d_Rdr_takeOther_163 (by decide) ?_
                            have hP9 := hP.sub (ws' := [(q3, .inr (4, [.ref q1, .ref q2, .ref q7, .int fp])), (q1, .inr (6, [.ref q5, .int (nI n)])), (q5, .inl (gB g, 2000, .inl f)), (q2, .inr (3, [.ref q6, .int (nI (wn st))])), (q6, .inl (gI g, 600, .inl pw)), (q7, .inr (5, [.ref q1, .ref q8, .ref q9, .ref q10, .int (nI (sn st))])), (q8, .inl (gI g, 40, .inl s1)), (q9, .inl (gI g, 40, .inl s2a)), (q10, .inl (gI g, 40, .inl s3))]) [0, 1, 2, 3, 4, 5, 6, 7, 8] rfl
                            have hD9 := hD.sub (ws' := [(q3, .inr (4, [.ref q1, .ref q2, .ref q7, .int fp])), (q1, .inr (6, [.ref q5, .int (nI n)])), (q5, .inl (gB g, 2000, .inl f)), (q2, .inr (3, [.ref q6, .int (nI (wn st))])), (q6, .inl (gI g, 600, .inl pw)), (q7, .inr (5, [.ref q1, .ref q8, .ref q9, .ref q10, .int (nI (sn st))])), (q8, .inl (gI g, 40, .inl s1)), (q9, .inl (gI g, 40, .inl s2a)), (q10, .inl (gI g, 40, .inl s3))]) [0, 1, 2, 3, 4, 5, 6, 7, 8] (by decide) rfl
                            exact W.iret (v := (nI 2)) hx hb hr (fun t ht hW => ⟨⟨_, (st, pw, s1, s2a, s3), rfl, ⟨⟨2, by rw [hG, if_neg hok, if_pos c60], rfl⟩, hPR, hSR⟩, by rw [ht]; exact hP9, by rw [hAe]; exact hD9⟩, hS.F ht⟩) hS.2.2 d_Rdr_takeOther_164
                        · have hc0 : (lk (nmM tx a s2) sd_comp) = 0 := (m1_lt (by omega)).mp (Int32.not_le.mp c58)
                          refine lv_iconst (v := (nI 1)) hx hb d_Rdr_takeOther_151 (by decide) ?_
                          have hP9 := hP.sub (ws' := [(q3, .inr (4, [.ref q1, .ref q2, .ref q7, .int fp])), (q1, .inr (6, [.ref q5, .int (nI n)])), (q5, .inl (gB g, 2000, .inl f)), (q2, .inr (3, [.ref q6, .int (nI (wn st))])), (q6, .inl (gI g, 600, .inl pw)), (q7, .inr (5, [.ref q1, .ref q8, .ref q9, .ref q10, .int (nI (sn st))])), (q8, .inl (gI g, 40, .inl s1)), (q9, .inl (gI g, 40, .inl s2a)), (q10, .inl (gI g, 40, .inl s3))]) [0, 1, 2, 3, 4, 5, 6, 7, 8] rfl
                          have hD9 := hD.sub (ws' := [(q3, .inr (4, [.ref q1, .ref q2, .ref q7, .int fp])), (q1, .inr (6, [.ref q5, .int (nI n)])), (q5, .inl (gB g, 2000, .inl f)), (q2, .inr (3, [.ref q6, .int (nI (wn st))])), (q6, .inl (gI g, 600, .inl pw)), (q7, .inr (5, [.ref q1, .ref q8, .ref q9, .ref q10, .int (nI (sn st))])), (q8, .inl (gI g, 40, .inl s1)), (q9, .inl (gI g, 40, .inl s2a)), (q10, .inl (gI g, 40, .inl s3))]) [0, 1, 2, 3, 4, 5, 6, 7, 8] (by decide) rfl
                          exact W.iret (v := (nI 1)) hx hb hr (fun t ht hW => ⟨⟨_, (st, pw, s1, s2a, s3), rfl, ⟨⟨1, by rw [hG, if_pos (Or.inr (Or.inr hc0))], rfl⟩, hPR, hSR⟩, by rw [ht]; exact hP9, by rw [hAe]; exact hD9⟩, hS.F ht⟩) hS.2.2 d_Rdr_takeOther_152
                  · have hjw := (nI_eq (b := 0) (by omega) (by omega)).mp c55
                    refine lv_iconst (v := (nI 1)) hx hb d_Rdr_takeOther_129 (by decide) ?_
                    refine lv_goto (tgt := 134) hx hb d_Rdr_takeOther_130 (by decide) ?_
                    refine lv_istore (lv' := [(9, .int (nI 1)), (8, .int (nI 0)), (7, .int (nI (lk (nmM tx a s2) sd_comp) - 1)), (6, .int (nI (lk (nmM tx (s2 + 1) e) sd_jump))), (5, .int (nI 0)), (4, .int (nI s2)), (3, .int (-1)), (0, .ref q3), (1, .int (nI a)), (2, .int (nI e))]) hx hb d_Rdr_takeOther_134 hl (by decide) rfl (fun ls hl => ?_)
                    refine lv_iload hx hb d_Rdr_takeOther_136 (lv_at hl 1 rfl) ?_
                    refine lv_if_ne (tgt := 151) hx hb d_Rdr_takeOther_138 (by decide) (fun c62 => ?_) (fun c62 => ?_)
                    · exact absurd rfl c62
                    · refine lv_iload hx hb d_Rdr_takeOther_141 (lv_at hl 0 rfl) ?_
                      refine lv_if_ne (tgt := 151) hx hb d_Rdr_takeOther_143 (by decide) (fun c63 => ?_) (fun c63 => ?_)
                      · refine lv_iconst (v := (nI 1)) hx hb d_Rdr_takeOther_151 (by decide) ?_
                        have hP9 := hP.sub (ws' := [(q3, .inr (4, [.ref q1, .ref q2, .ref q7, .int fp])), (q1, .inr (6, [.ref q5, .int (nI n)])), (q5, .inl (gB g, 2000, .inl f)), (q2, .inr (3, [.ref q6, .int (nI (wn st))])), (q6, .inl (gI g, 600, .inl pw)), (q7, .inr (5, [.ref q1, .ref q8, .ref q9, .ref q10, .int (nI (sn st))])), (q8, .inl (gI g, 40, .inl s1)), (q9, .inl (gI g, 40, .inl s2a)), (q10, .inl (gI g, 40, .inl s3))]) [0, 1, 2, 3, 4, 5, 6, 7, 8] rfl
                        have hD9 := hD.sub (ws' := [(q3, .inr (4, [.ref q1, .ref q2, .ref q7, .int fp])), (q1, .inr (6, [.ref q5, .int (nI n)])), (q5, .inl (gB g, 2000, .inl f)), (q2, .inr (3, [.ref q6, .int (nI (wn st))])), (q6, .inl (gI g, 600, .inl pw)), (q7, .inr (5, [.ref q1, .ref q8, .ref q9, .ref q10, .int (nI (sn st))])), (q8, .inl (gI g, 40, .inl s1)), (q9, .inl (gI g, 40, .inl s2a)), (q10, .inl (gI g, 40, .inl s3))]) [0, 1, 2, 3, 4, 5, 6, 7, 8] (by decide) rfl
                        exact W.iret (v := (nI 1)) hx hb hr (fun t ht hW => ⟨⟨_, (st, pw, s1, s2a, s3), rfl, ⟨⟨1, by rw [hG, if_pos (Or.inr (Or.inl ⟨hs2, hjw⟩))], rfl⟩, hPR, hSR⟩, by rw [ht]; exact hP9, by rw [hAe]; exact hD9⟩, hS.F ht⟩) hS.2.2 d_Rdr_takeOther_152
                      · exact absurd c63 (by decide)
              · exact absurd (by decide) c52
            · exact absurd (nI_pos' (by omega)) c50
        · exact absurd (nI_pos' (by omega)) c47
    · have hs : oF tx 59 a e = e := ff_eq _ _ _ (by omega) (by omega) hs4 (fun h => absurd h (by omega))
      have hG := spOther_g (tx := tx) (st := st) (D := 0) (J := 0) (ca := a) hq hs (if_neg (Nat.lt_irrefl e)).symm (if_neg (Nat.lt_irrefl e)).symm (if_neg (Nat.lt_irrefl e)).symm rfl
      have hDl : 0 ≤ 7 := by decide
      have hJl : 0 ≤ 7 := by decide
      have hCl : (lk (nmM tx a e) sd_comp) ≤ 8129 := lk_le sd_comp_lt
      refine lv_istore (lv' := [(4, .int (-1)), (3, .int (-1)), (0, .ref q3), (1, .int (nI a)), (2, .int (nI e))]) hx hb d_Rdr_takeOther_23 hl (by decide) rfl (fun ls hl => ?_)
      refine lv_iload_n hx hb d_Rdr_takeOther_25 rfl (lv_at hl 1 rfl) ?_
      refine lv_if_ge (tgt := 33) hx hb d_Rdr_takeOther_26 (by decide) (fun c64 => ?_) (fun c64 => ?_)
      · exact absurd c64 (by decide)
      · refine lv_iconst (v := (nI 0)) hx hb d_Rdr_takeOther_29 (by decide) ?_
        refine lv_goto (tgt := 46) hx hb d_Rdr_takeOther_30 (by decide) ?_
        refine lv_istore (lv' := [(5, .int (nI 0)), (4, .int (-1)), (3, .int (-1)), (0, .ref q3), (1, .int (nI a)), (2, .int (nI e))]) hx hb d_Rdr_takeOther_46 hl (by decide) rfl (fun ls hl => ?_)
        refine lv_iload hx hb d_Rdr_takeOther_48 (lv_at hl 1 rfl) ?_
        refine lv_if_ge (tgt := 57) hx hb d_Rdr_takeOther_50 (by decide) (fun c65 => ?_) (fun c65 => ?_)
        · exact absurd c65 (by decide)
        · refine lv_iconst (v := (nI 0)) hx hb d_Rdr_takeOther_53 (by decide) ?_
          refine lv_goto (tgt := 73) hx hb d_Rdr_takeOther_54 (by decide) ?_
          refine lv_istore (lv' := [(6, .int (nI 0)), (5, .int (nI 0)), (4, .int (-1)), (3, .int (-1)), (0, .ref q3), (1, .int (nI a)), (2, .int (nI e))]) hx hb d_Rdr_takeOther_73 hl (by decide) rfl (fun ls hl => ?_)
          refine lv_aload_n hx hb d_Rdr_takeOther_75 rfl (lv_at hl 4 rfl) ?_
          refine lv_iload_n hx hb d_Rdr_takeOther_76 rfl (lv_at hl 3 rfl) ?_
          refine lv_if_ge (tgt := 84) hx hb d_Rdr_takeOther_77 (by decide) (fun c66 => ?_) (fun c66 => ?_)
          · exact absurd c66 (by decide)
          · refine lv_iload_n hx hb d_Rdr_takeOther_80 rfl (lv_at hl 5 rfl) ?_
            refine lv_goto (tgt := 87) hx hb d_Rdr_takeOther_81 (by decide) ?_
            refine lv_iload hx hb d_Rdr_takeOther_87 (lv_at hl 2 rfl) ?_
            refine lv_if_ge (tgt := 96) hx hb d_Rdr_takeOther_89 (by decide) (fun c67 => ?_) (fun c67 => ?_)
            · exact absurd c67 (by decide)
            · refine lv_iload_n hx hb d_Rdr_takeOther_92 rfl (lv_at hl 6 rfl) ?_
              refine lv_goto (tgt := 98) hx hb d_Rdr_takeOther_93 (by decide) ?_
              refine sd_ri (va_runV (As := [.int (nI a), .int (nI e)]) (rest := []) ⟨hx, hb, hml, hown, hts⟩ (c_Rdr_compBits l g q3 q1 q2 q7 q5 n fp f tx hT a e (by omega) (by omega)) (cwV 2 hts (sd_gV k_348 k_350 k_6 k_26 k_351) rfl rfl rfl (by decide +kernel) ⟨Nat.le_of_ble_eq_true rfl, Nat.le_of_ble_eq_true rfl⟩) (sd_preV hK hE (sd_fr hS hA0) (hP.sub (ws' := [(q3, .inr (4, [.ref q1, .ref q2, .ref q7, .int fp])), (q1, .inr (6, [.ref q5, .int (nI n)])), (q5, .inl (gB g, 2000, .inl f))]) [0, 1, 2] rfl) rfl rfl) rfl rfl hl.1 rfl (lv_room (Nat.le_of_ble_eq_true rfl)) d_Rdr_takeOther_98 ⟨Nat.zero_le _, Nat.zero_le _⟩) (fun r68 er68 => ?_)
              subst er68
              refine lv_istore (lv' := [(7, .int (nI (lk (nmM tx a e) sd_comp) - 1)), (6, .int (nI 0)), (5, .int (nI 0)), (4, .int (-1)), (3, .int (-1)), (0, .ref q3), (1, .int (nI a)), (2, .int (nI e))]) hx hb d_Rdr_takeOther_101 hl (by decide) rfl (fun ls hl => ?_)
              refine lv_iload_n hx hb d_Rdr_takeOther_103 rfl (lv_at hl 4 rfl) ?_
              refine lv_if_lt (tgt := 116) hx hb d_Rdr_takeOther_104 (by decide) (fun c69 => ?_) (fun c69 => ?_)
              · refine lv_iconst (v := (nI 0)) hx hb d_Rdr_takeOther_116 (by decide) ?_
                refine lv_istore (lv' := [(8, .int (nI 0)), (7, .int (nI (lk (nmM tx a e) sd_comp) - 1)), (6, .int (nI 0)), (5, .int (nI 0)), (4, .int (-1)), (3, .int (-1)), (0, .ref q3), (1, .int (nI a)), (2, .int (nI e))]) hx hb d_Rdr_takeOther_117 hl (by decide) rfl (fun ls hl => ?_)
                refine lv_iload hx hb d_Rdr_takeOther_119 (lv_at hl 4 rfl) ?_
                refine lv_if_lt (tgt := 133) hx hb d_Rdr_takeOther_121 (by decide) (fun c70 => ?_) (fun c70 => ?_)
                · refine lv_iconst (v := (nI 0)) hx hb d_Rdr_takeOther_133 (by decide) ?_
                  refine lv_istore (lv' := [(9, .int (nI 0)), (8, .int (nI 0)), (7, .int (nI (lk (nmM tx a e) sd_comp) - 1)), (6, .int (nI 0)), (5, .int (nI 0)), (4, .int (-1)), (3, .int (-1)), (0, .ref q3), (1, .int (nI a)), (2, .int (nI e))]) hx hb d_Rdr_takeOther_134 hl (by decide) rfl (fun ls hl => ?_)
                  refine lv_iload hx hb d_Rdr_takeOther_136 (lv_at hl 1 rfl) ?_
                  refine lv_if_ne (tgt := 151) hx hb d_Rdr_takeOther_138 (by decide) (fun c71 => ?_) (fun c71 => ?_)
                  · exact absurd rfl c71
                  · refine lv_iload hx hb d_Rdr_takeOther_141 (lv_at hl 0 rfl) ?_
                    refine lv_if_ne (tgt := 151) hx hb d_Rdr_takeOther_143 (by decide) (fun c72 => ?_) (fun c72 => ?_)
                    · exact absurd rfl c72
                    · refine lv_iload hx hb d_Rdr_takeOther_146 (lv_at hl 2 rfl) ?_
                      refine lv_if_ge (tgt := 153) hx hb d_Rdr_takeOther_148 (by decide) (fun c73 => ?_) (fun c73 => ?_)
                      · have hc0 : ¬ (lk (nmM tx a e) sd_comp) = 0 := fun q => absurd c73 (by rw [q]; decide)
                        have hok : ¬ ((e < e ∧ 0 = 0) ∨ (e < e ∧ 0 = 0) ∨ (lk (nmM tx a e) sd_comp) = 0) := by
                          rintro (h | h | h)
                          · exact absurd h.1 (Nat.lt_irrefl e)
                          · exact absurd h.1 (Nat.lt_irrefl e)
                          · exact hc0 h
                        refine lv_aload_n hx hb d_Rdr_takeOther_153 rfl (lv_at hl 7 rfl) ?_
                        refine va_get (D := g.1) (ci := 4) (v := .ref q2) (C := "SignDesk$Reader") (T := F_Rdr) (N := 4) hx hb hts in_Rdr hown hK hP 0 rfl rfl 1 (by decide) (hts _ k_102) (fun _ h9 => h9) rfl d_Rdr_takeOther_154 ?_
                        refine sd_ri (va_runV (As := []) (rest := []) ⟨hx, hb, hml, hown, hts⟩ (c_Prg_isFull l g q2 q6 (wn st) pw hPR.1) (cwV 0 hts (sd_gV k_308 k_309 k_310 k_25 k_311) rfl rfl rfl (by decide +kernel) ⟨Nat.le_of_ble_eq_true rfl, Nat.le_of_ble_eq_true rfl⟩) (sd_preV hK hE (sd_fr hS hA0) (hP.sub (ws' := [(q2, .inr (3, [.ref q6, .int (nI (wn st))])), (q6, .inl (gI g, 600, .inl pw))]) [3, 4] rfl) rfl rfl) rfl rfl hl.1 rfl (lv_room (Nat.le_of_ble_eq_true rfl)) d_Rdr_takeOther_157 ⟨Nat.zero_le _, Nat.zero_le _⟩) (fun r74 er74 => ?_)
                        subst er74
                        refine lv_if_eq (tgt := 165) hx hb d_Rdr_takeOther_160 (by decide) (fun c75 => ?_) (fun c75 => ?_)
                        · have c75 := sb_eq0.mp c75
                          refine lv_aload_n hx hb d_Rdr_takeOther_165 rfl (lv_at hl 7 rfl) ?_
                          refine va_get (D := g.1) (ci := 4) (v := .ref q2) (C := "SignDesk$Reader") (T := F_Rdr) (N := 4) hx hb hts in_Rdr hown hK hP 0 rfl rfl 1 (by decide) (hts _ k_102) (fun _ h9 => h9) rfl d_Rdr_takeOther_166 ?_
                          refine lv_ldc (v := nI 57344) hx hb hown (hts _ k_358) d_Rdr_takeOther_169 ?_
                          refine lv_iload hx hb d_Rdr_takeOther_171 (lv_at hl 2 rfl) ?_
                          refine sd_topi (y := nI ((lk (nmM tx a e) sd_comp) - 1)) (m1_up hc0) ?_
                          refine lv_iadd hx hb d_Rdr_takeOther_173 ?_
                          refine sd_topi (y := nI (57344 + ((lk (nmM tx a e) sd_comp) - 1))) (nI_add _ _) ?_
                          refine lv_bipush (v := (nI 8)) hx hb d_Rdr_takeOther_174 (by decide) ?_
                          refine lv_iload hx hb d_Rdr_takeOther_176 (lv_at hl 4 rfl) ?_
                          refine lv_imul hx hb d_Rdr_takeOther_178 ?_
                          refine sd_topi (y := nI (8 * 0)) (pk_mul _ _) ?_
                          refine lv_iadd hx hb d_Rdr_takeOther_179 ?_
                          refine sd_topi (y := nI ((57344 + ((lk (nmM tx a e) sd_comp) - 1)) + (8 * 0))) (nI_add _ _) ?_
                          refine lv_iload hx hb d_Rdr_takeOther_180 (lv_at hl 3 rfl) ?_
                          refine lv_iadd hx hb d_Rdr_takeOther_182 ?_
                          refine sd_topi (y := nI (((57344 + ((lk (nmM tx a e) sd_comp) - 1)) + (8 * 0)) + 0)) (nI_add _ _) ?_
                          refine sd_topi (y := nI (57344 + ((lk (nmM tx a e) sd_comp) - 1) + 8 * 0 + 0)) (congrArg nI (by omega)) ?_
                          have hPc := hP.sub (ws' := [(q2, .inr (3, [.ref q6, .int (nI (wn st))])), (q6, .inl (gI g, 600, .inl pw))]) [3, 4] rfl
                          have hDc := hD.sub (ws' := [(q2, .inr (3, [.ref q6, .int (nI (wn st))])), (q6, .inl (gI g, 600, .inl pw))]) [3, 4] (by decide) rfl
                          have hFc := va_free (wc := [(q2, .inr (3, [.ref q6, .int (nI (wn st))])), (q6, .inl (gI g, 600, .inl pw))]) hD hS hA [3, 4] rfl
                          refine sd_cv (va_runV (As := [.int (nI (57344 + ((lk (nmM tx a e) sd_comp) - 1) + 8 * 0 + 0))]) (rest := []) ⟨hx, hb, hml, hown, hts⟩ (c_Prg_add l g q2 q6 (wn st) pw hPR.1 (nI (57344 + ((lk (nmM tx a e) sd_comp) - 1) + 8 * 0 + 0)) (by omega) s.heap.size) (cwV 1 hts (sd_gV k_321 k_322 k_323 k_25 k_324) rfl rfl rfl (by decide +kernel) ⟨Nat.le_of_ble_eq_true rfl, Nat.le_of_ble_eq_true rfl⟩) (sd_preVU hK hE hS hA0 hs0 hPc hDc rfl rfl) rfl rfl hl.1 rfl (lv_room (Nat.le_of_ble_eq_true rfl)) d_Rdr_takeOther_183 ⟨Nat.zero_le _, Nat.zero_le _⟩) hS hFc (fun u H1 locs hw hP1 hD1 hk1 hS => ?_)
                          obtain ⟨hP, hD⟩ := va_join (wr := [(q3, .inr (4, [.ref q1, .ref q2, .ref q7, .int fp])), (q1, .inr (6, [.ref q5, .int (nI n)])), (q5, .inl (gB g, 2000, .inl f)), (q7, .inr (5, [.ref q1, .ref q8, .ref q9, .ref q10, .int (nI (sn st))])), (q8, .inl (gI g, 40, .inl s1)), (q9, .inl (gI g, 40, .inl s2a)), (q10, .inl (gI g, 40, .inl s3))]) (w1 := [(q2, .inr (3, [.ref q6, .int (nI (wn st + 1))])), (q6, .inl (gI g, 600, .inl (upd pw (wn st) (nI (57344 + ((lk (nmM tx a e) sd_comp) - 1) + 8 * 0 + 0)))))]) hP hD [3, 4] [0, 1, 2, 5, 6, 7, 8] rfl rfl (by decide) (by decide) hk1 hFc hP1 hD1
                          clear hPc hDc hFc hk1 hP1 hD1
                          generalize H1 = H at hP hS ⊢
                          have hP : sdP g [(q3, .inr (4, [.ref q1, .ref q2, .ref q7, .int fp])), (q1, .inr (6, [.ref q5, .int (nI n)])), (q5, .inl (gB g, 2000, .inl f)), (q7, .inr (5, [.ref q1, .ref q8, .ref q9, .ref q10, .int (nI (sn st))])), (q8, .inl (gI g, 40, .inl s1)), (q9, .inl (gI g, 40, .inl s2a)), (q10, .inl (gI g, 40, .inl s3)), (q2, .inr (3, [.ref q6, .int (nI (wn st + 1))])), (q6, .inl (gI g, 600, .inl (upd pw (wn st) (nI (57344 + ((lk (nmM tx a e) sd_comp) - 1) + 8 * 0 + 0)))))] H := hP
                          have hD : va_D A [(q3, .inr (4, [.ref q1, .ref q2, .ref q7, .int fp])), (q1, .inr (6, [.ref q5, .int (nI n)])), (q5, .inl (gB g, 2000, .inl f)), (q7, .inr (5, [.ref q1, .ref q8, .ref q9, .ref q10, .int (nI (sn st))])), (q8, .inl (gI g, 40, .inl s1)), (q9, .inl (gI g, 40, .inl s2a)), (q10, .inl (gI g, 40, .inl s3)), (q2, .inr (3, [.ref q6, .int (nI (wn st + 1))])), (q6, .inl (gI g, 600, .inl (upd pw (wn st) (nI (57344 + ((lk (nmM tx a e) sd_comp) - 1) + 8 * 0 + 0)))))] := hD
                          refine lv_iconst (v := (nI 0)) hx hb d_Rdr_takeOther_186 (by decide) ?_
                          have hP9 := hP.sub (ws' := [(q3, .inr (4, [.ref q1, .ref q2, .ref q7, .int fp])), (q1, .inr (6, [.ref q5, .int (nI n)])), (q5, .inl (gB g, 2000, .inl f)), (q2, .inr (3, [.ref q6, .int (nI (wn st + 1))])), (q6, .inl (gI g, 600, .inl (upd pw (wn st) (nI (57344 + ((lk (nmM tx a e) sd_comp) - 1) + 8 * 0 + 0))))), (q7, .inr (5, [.ref q1, .ref q8, .ref q9, .ref q10, .int (nI (sn st))])), (q8, .inl (gI g, 40, .inl s1)), (q9, .inl (gI g, 40, .inl s2a)), (q10, .inl (gI g, 40, .inl s3))]) [0, 1, 2, 7, 8, 3, 4, 5, 6] rfl
                          have hD9 := hD.sub (ws' := [(q3, .inr (4, [.ref q1, .ref q2, .ref q7, .int fp])), (q1, .inr (6, [.ref q5, .int (nI n)])), (q5, .inl (gB g, 2000, .inl f)), (q2, .inr (3, [.ref q6, .int (nI (wn st + 1))])), (q6, .inl (gI g, 600, .inl (upd pw (wn st) (nI (57344 + ((lk (nmM tx a e) sd_comp) - 1) + 8 * 0 + 0))))), (q7, .inr (5, [.ref q1, .ref q8, .ref q9, .ref q10, .int (nI (sn st))])), (q8, .inl (gI g, 40, .inl s1)), (q9, .inl (gI g, 40, .inl s2a)), (q10, .inl (gI g, 40, .inl s3))]) [0, 1, 2, 7, 8, 3, 4, 5, 6] (by decide) rfl
                          exact W.iret (v := (nI 0)) hx hb hr (fun t ht hW => ⟨⟨_, (pushW st (57344 + ((lk (nmM tx a e) sd_comp) - 1) + 8 * 0 + 0) 0, upd pw (wn st) (nI (57344 + ((lk (nmM tx a e) sd_comp) - 1) + 8 * 0 + 0)), s1, s2a, s3), rfl, ⟨⟨0, by rw [hG, if_neg hok, if_neg c75], rfl⟩, PR_push (y := 0) hPR (by omega), hSR⟩, by rw [ht]; exact hP9, by rw [hAe]; exact hD9⟩, hS.F ht⟩) hS.2.2 d_Rdr_takeOther_187
                        · have c75 := sb_ne0.mp c75
                          refine lv_iconst (v := (nI 2)) hx hb d_Rdr_takeOther_163 (by decide) ?_
                          have hP9 := hP.sub (ws' := [(q3, .inr (4, [.ref q1, .ref q2, .ref q7, .int fp])), (q1, .inr (6, [.ref q5, .int (nI n)])), (q5, .inl (gB g, 2000, .inl f)), (q2, .inr (3, [.ref q6, .int (nI (wn st))])), (q6, .inl (gI g, 600, .inl pw)), (q7, .inr (5, [.ref q1, .ref q8, .ref q9, .ref q10, .int (nI (sn st))])), (q8, .inl (gI g, 40, .inl s1)), (q9, .inl (gI g, 40, .inl s2a)), (q10, .inl (gI g, 40, .inl s3))]) [0, 1, 2, 3, 4, 5, 6, 7, 8] rfl
                          have hD9 := hD.sub (ws' := [(q3, .inr (4, [.ref q1, .ref q2, .ref q7, .int fp])), (q1, .inr (6, [.ref q5, .int (nI n)])), (q5, .inl (gB g, 2000, .inl f)), (q2, .inr (3, [.ref q6, .int (nI (wn st))])), (q6, .inl (gI g, 600, .inl pw)), (q7, .inr (5, [.ref q1, .ref q8, .ref q9, .ref q10, .int (nI (sn st))])), (q8, .inl (gI g, 40, .inl s1)), (q9, .inl (gI g, 40, .inl s2a)), (q10, .inl (gI g, 40, .inl s3))]) [0, 1, 2, 3, 4, 5, 6, 7, 8] (by decide) rfl
                          exact W.iret (v := (nI 2)) hx hb hr (fun t ht hW => ⟨⟨_, (st, pw, s1, s2a, s3), rfl, ⟨⟨2, by rw [hG, if_neg hok, if_pos c75], rfl⟩, hPR, hSR⟩, by rw [ht]; exact hP9, by rw [hAe]; exact hD9⟩, hS.F ht⟩) hS.2.2 d_Rdr_takeOther_164
                      · have hc0 : (lk (nmM tx a e) sd_comp) = 0 := (m1_lt (by omega)).mp (Int32.not_le.mp c73)
                        refine lv_iconst (v := (nI 1)) hx hb d_Rdr_takeOther_151 (by decide) ?_
                        have hP9 := hP.sub (ws' := [(q3, .inr (4, [.ref q1, .ref q2, .ref q7, .int fp])), (q1, .inr (6, [.ref q5, .int (nI n)])), (q5, .inl (gB g, 2000, .inl f)), (q2, .inr (3, [.ref q6, .int (nI (wn st))])), (q6, .inl (gI g, 600, .inl pw)), (q7, .inr (5, [.ref q1, .ref q8, .ref q9, .ref q10, .int (nI (sn st))])), (q8, .inl (gI g, 40, .inl s1)), (q9, .inl (gI g, 40, .inl s2a)), (q10, .inl (gI g, 40, .inl s3))]) [0, 1, 2, 3, 4, 5, 6, 7, 8] rfl
                        have hD9 := hD.sub (ws' := [(q3, .inr (4, [.ref q1, .ref q2, .ref q7, .int fp])), (q1, .inr (6, [.ref q5, .int (nI n)])), (q5, .inl (gB g, 2000, .inl f)), (q2, .inr (3, [.ref q6, .int (nI (wn st))])), (q6, .inl (gI g, 600, .inl pw)), (q7, .inr (5, [.ref q1, .ref q8, .ref q9, .ref q10, .int (nI (sn st))])), (q8, .inl (gI g, 40, .inl s1)), (q9, .inl (gI g, 40, .inl s2a)), (q10, .inl (gI g, 40, .inl s3))]) [0, 1, 2, 3, 4, 5, 6, 7, 8] (by decide) rfl
                        exact W.iret (v := (nI 1)) hx hb hr (fun t ht hW => ⟨⟨_, (st, pw, s1, s2a, s3), rfl, ⟨⟨1, by rw [hG, if_pos (Or.inr (Or.inr hc0))], rfl⟩, hPR, hSR⟩, by rw [ht]; exact hP9, by rw [hAe]; exact hD9⟩, hS.F ht⟩) hS.2.2 d_Rdr_takeOther_152
                · exact absurd (by decide) c70
              · exact absurd (by decide) c69
set_option maxHeartbeats 4000000 in
set_option maxRecDepth 100000 in
/-- take -/
theorem c_Rdr_take (l : Launch) (g : sdG) (q3 q1 q2 q7 q5 q6 q8 q9 q10 n : Nat) (fp : Int32) (f : Nat → Int32) (tx : Nat → Nat) (hT : TXok n f tx) (st : AS) (pw s1 s2 s3 : Nat → Int32) (hPR : PR st pw) (hSR : SR st s1 s2 s3) (a e : Nat) (ha : a < e) (hz : e ≤ 2000) (sz : Nat) : Met l y_Rdr_take (.code y_Rdr_take b_Rdr_take 4 (some .int) :: sdT) ({ frames := 7, cells := 0, slots := 0, locals := 164 }) (va_Pc [.ref q3, .int (nI a), .int (nI e)] (sdU g [(q3, .inr (4, [.ref q1, .ref q2, .ref q7, .int fp])), (q1, .inr (6, [.ref q5, .int (nI n)])), (q5, .inl (gB g, 2000, .inl f)), (q2, .inr (3, [.ref q6, .int (nI (wn st))])), (q6, .inl (gI g, 600, .inl pw)), (q7, .inr (5, [.ref q1, .ref q8, .ref q9, .ref q10, .int (nI (sn st))])), (q8, .inl (gI g, 40, .inl s1)), (q9, .inl (gI g, 40, .inl s2)), (q10, .inl (gI g, 40, .inl s3))] sz)) (va_Qi (S := AS × (Nat → Int32) × (Nat → Int32) × (Nat → Int32) × (Nat → Int32)) (fun r u => (∃ c, spTake tx a e st = (c, u.1) ∧ r = nI c) ∧ PR u.1 u.2.1 ∧ SR u.1 u.2.2.1 u.2.2.2.1 u.2.2.2.2) (fun u t => sdB g [(q3, .inr (4, [.ref q1, .ref q2, .ref q7, .int fp])), (q1, .inr (6, [.ref q5, .int (nI n)])), (q5, .inl (gB g, 2000, .inl f)), (q2, .inr (3, [.ref q6, .int (nI (wn st))])), (q6, .inl (gI g, 600, .inl pw)), (q7, .inr (5, [.ref q1, .ref q8, .ref q9, .ref q10, .int (nI (sn st))])), (q8, .inl (gI g, 40, .inl s1)), (q9, .inl (gI g, 40, .inl s2)), (q10, .inl (gI g, 40, .inl s3))] sz ((fun u => [(q3, .inr (4, [.ref q1, .ref q2, .ref q7, .int fp])), (q1, .inr (6, [.ref q5, .int (nI n)])), (q5, .inl (gB g, 2000, .inl f)), (q2, .inr (3, [.ref q6, .int (nI (wn u.1))])), (q6, .inl (gI g, 600, .inl u.2.1)), (q7, .inr (5, [.ref q1, .ref q8, .ref q9, .ref q10, .int (nI (sn u.1))])), (q8, .inl (gI g, 40, .inl u.2.2.1)), (q9, .inl (gI g, 40, .inl u.2.2.2.1)), (q10, .inl (gI g, 40, .inl u.2.2.2.2))] : AS × (Nat → Int32) × (Nat → Int32) × (Nat → Int32) × (Nat → Int32) → va_W) u) t) (va_A [(q3, .inr (4, [.ref q1, .ref q2, .ref q7, .int fp])), (q1, .inr (6, [.ref q5, .int (nI n)])), (q5, .inl (gB g, 2000, .inl f)), (q2, .inr (3, [.ref q6, .int (nI (wn st))])), (q6, .inl (gI g, 600, .inl pw)), (q7, .inr (5, [.ref q1, .ref q8, .ref q9, .ref q10, .int (nI (sn st))])), (q8, .inl (gI g, 40, .inl s1)), (q9, .inl (gI g, 40, .inl s2)), (q10, .inl (gI g, 40, .inl s3))] sz)) 0 0 (va_A [(q3, .inr (4, [.ref q1, .ref q2, .ref q7, .int fp])), (q1, .inr (6, [.ref q5, .int (nI n)])), (q5, .inl (gB g, 2000, .inl f)), (q2, .inr (3, [.ref q6, .int (nI (wn st))])), (q6, .inl (gI g, 600, .inl pw)), (q7, .inr (5, [.ref q1, .ref q8, .ref q9, .ref q10, .int (nI (sn st))])), (q8, .inl (gI g, 40, .inl s1)), (q9, .inl (gI g, 40, .inl s2)), (q10, .inl (gI g, 40, .inl s3))] sz) := by
  refine Met.ofW (cc := b_Rdr_take) (maxL := 4) (ret := (some .int)) (by decide) rfl ?_
  intro p ev s m args below meth c s₁ B hml hv
  obtain ⟨rfl, hsz, hP, hK, hE, hD0, hs0⟩ := hv
  have hx := B.exec
  have hb := B.bytes
  have hr := B.returns
  have hts := fun (w : Cond) (h : w ∈ sdT) => atoms_spec (ws := (.code y_Rdr_take b_Rdr_take 4 (some .int) :: sdT)) B.pre w (List.mem_cons_of_mem _ h)
  have hown : s.vm.findClass "SignDesk$Reader" = some m.cls := findClass_of_methodNamed B.named
  have hlocks := B.notSynchronized
  subst hsz
  have hD := hD0.self (sz := s.heap.size)
  have hA0 : ∀ q : Nat, va_A [(q3, .inr (4, [.ref q1, .ref q2, .ref q7, .int fp])), (q1, .inr (6, [.ref q5, .int (nI n)])), (q5, .inl (gB g, 2000, .inl f)), (q2, .inr (3, [.ref q6, .int (nI (wn st))])), (q6, .inl (gI g, 600, .inl pw)), (q7, .inr (5, [.ref q1, .ref q8, .ref q9, .ref q10, .int (nI (sn st))])), (q8, .inl (gI g, 40, .inl s1)), (q9, .inl (gI g, 40, .inl s2)), (q10, .inl (gI g, 40, .inl s3))] s.heap.size q → gS g ≤ q := fun q h => h.elim (fun ⟨k, e, hk⟩ => hD0.2 k _ hk) (fun h => Nat.le_trans hs0 h)
  have hA : ∀ q : Nat, s.heap.size ≤ q → va_A [(q3, .inr (4, [.ref q1, .ref q2, .ref q7, .int fp])), (q1, .inr (6, [.ref q5, .int (nI n)])), (q5, .inl (gB g, 2000, .inl f)), (q2, .inr (3, [.ref q6, .int (nI (wn st))])), (q6, .inl (gI g, 600, .inl pw)), (q7, .inr (5, [.ref q1, .ref q8, .ref q9, .ref q10, .int (nI (sn st))])), (q8, .inl (gI g, 40, .inl s1)), (q9, .inl (gI g, 40, .inl s2)), (q10, .inl (gI g, 40, .inl s3))] s.heap.size q := fun q h => Or.inr h
  generalize hAe : va_A [(q3, .inr (4, [.ref q1, .ref q2, .ref q7, .int fp])), (q1, .inr (6, [.ref q5, .int (nI n)])), (q5, .inl (gB g, 2000, .inl f)), (q2, .inr (3, [.ref q6, .int (nI (wn st))])), (q6, .inl (gI g, 600, .inl pw)), (q7, .inr (5, [.ref q1, .ref q8, .ref q9, .ref q10, .int (nI (sn st))])), (q8, .inl (gI g, 40, .inl s1)), (q9, .inl (gI g, 40, .inl s2)), (q10, .inl (gI g, 40, .inl s3))] s.heap.size = A at hD hA0 hA ⊢
  have hS : va_S A s.heap s.heap [] := va_S.rf
  have hP : sdP g [(q3, .inr (4, [.ref q1, .ref q2, .ref q7, .int fp])), (q1, .inr (6, [.ref q5, .int (nI n)])), (q5, .inl (gB g, 2000, .inl f)), (q2, .inr (3, [.ref q6, .int (nI (wn st))])), (q6, .inl (gI g, 600, .inl pw)), (q7, .inr (5, [.ref q1, .ref q8, .ref q9, .ref q10, .int (nI (sn st))])), (q8, .inl (gI g, 40, .inl s1)), (q9, .inl (gI g, 40, .inl s2)), (q10, .inl (gI g, 40, .inl s3))] s.heap := hP
  have hl := lv_entry ([.ref q3, .int (nI a), .int (nI e)]) (n := 4) (Nat.le_of_ble_eq_true rfl)
  rw [lg_entry_eq]
  generalize (lg_sl ([.ref q3, .int (nI a), .int (nI e)]) ++ List.replicate (4 - (lg_sl ([.ref q3, .int (nI a), .int (nI e)])).length) Slot.unset).toArray = ls at hl ⊢
  have hl : lv_has ls 4 [(0, .ref q3), (1, .int (nI a)), (2, .int (nI e))] := hl
  have hn := hT.1
  have hb8 := hT.2.1
  have h40 := hSR.1
  have h600 := hPR.1
  refine lv_aload_n hx hb d_Rdr_take_0 rfl (lv_at hl 0 rfl) ?_
  refine va_get (D := g.1) (ci := 4) (v := .ref q1) (C := "SignDesk$Reader") (T := F_Rdr) (N := 4) hx hb hts in_Rdr hown hK hP 0 rfl rfl 0 (by decide) (hts _ k_101) (fun _ h9 => h9) rfl d_Rdr_take_1 ?_
  refine lv_iload_n hx hb d_Rdr_take_4 rfl (lv_at hl 1 rfl) ?_
  refine sd_ri (va_runV (As := [.int (nI a)]) (rest := []) ⟨hx, hb, hml, hown, hts⟩ (c_Txt_byteAt l g q1 q5 n f tx hT a (by omega)) (cwV 1 hts (sd_gV k_227 k_201 k_202 k_24 k_203) rfl rfl rfl (by decide +kernel) ⟨Nat.le_of_ble_eq_true rfl, Nat.le_of_ble_eq_true rfl⟩) (sd_preV hK hE (sd_fr hS hA0) (hP.sub (ws' := [(q1, .inr (6, [.ref q5, .int (nI n)])), (q5, .inl (gB g, 2000, .inl f))]) [1, 2] rfl) rfl rfl) rfl rfl hl.1 rfl (lv_room (Nat.le_of_ble_eq_true rfl)) d_Rdr_take_5 ⟨Nat.zero_le _, Nat.zero_le _⟩) (fun r1 er1 => ?_)
  subst er1
  have hb8a := hb8 a
  refine lv_istore_n (lv' := [(3, .int (nI (tx a))), (0, .ref q3), (1, .int (nI a)), (2, .int (nI e))]) hx hb d_Rdr_take_8 rfl hl (by decide) rfl (fun ls hl => ?_)
  refine lv_iload_n hx hb d_Rdr_take_9 rfl (lv_at hl 0 rfl) ?_
  refine lv_bipush (v := (nI 64)) hx hb d_Rdr_take_10 (by decide) ?_
  refine lv_icmp_ne (tgt := 24) hx hb d_Rdr_take_12 (by decide) (fun c2 => ?_) (fun c2 => ?_)
  · have c2 := mt (nI_eq (by omega) (by omega)).mpr c2
    refine lv_iload_n hx hb d_Rdr_take_24 rfl (lv_at hl 0 rfl) ?_
    refine lv_bipush (v := (nI 40)) hx hb d_Rdr_take_25 (by decide) ?_
    refine lv_icmp_ne (tgt := 41) hx hb d_Rdr_take_27 (by decide) (fun c3 => ?_) (fun c3 => ?_)
    · have c3 := mt (nI_eq (by omega) (by omega)).mpr c3
      refine lv_aload_n hx hb d_Rdr_take_41 rfl (lv_at hl 1 rfl) ?_
      refine lv_iload_n hx hb d_Rdr_take_42 rfl (lv_at hl 2 rfl) ?_
      refine lv_iload_n hx hb d_Rdr_take_43 rfl (lv_at hl 3 rfl) ?_
      have hPc := hP.sub (ws' := [(q3, .inr (4, [.ref q1, .ref q2, .ref q7, .int fp])), (q1, .inr (6, [.ref q5, .int (nI n)])), (q5, .inl (gB g, 2000, .inl f)), (q2, .inr (3, [.ref q6, .int (nI (wn st))])), (q6, .inl (gI g, 600, .inl pw)), (q7, .inr (5, [.ref q1, .ref q8, .ref q9, .ref q10, .int (nI (sn st))])), (q8, .inl (gI g, 40, .inl s1)), (q9, .inl (gI g, 40, .inl s2)), (q10, .inl (gI g, 40, .inl s3))]) [0, 1, 2, 3, 4, 5, 6, 7, 8] rfl
      have hDc := hD.sub (ws' := [(q3, .inr (4, [.ref q1, .ref q2, .ref q7, .int fp])), (q1, .inr (6, [.ref q5, .int (nI n)])), (q5, .inl (gB g, 2000, .inl f)), (q2, .inr (3, [.ref q6, .int (nI (wn st))])), (q6, .inl (gI g, 600, .inl pw)), (q7, .inr (5, [.ref q1, .ref q8, .ref q9, .ref q10, .int (nI (sn st))])), (q8, .inl (gI g, 40, .inl s1)), (q9, .inl (gI g, 40, .inl s2)), (q10, .inl (gI g, 40, .inl s3))]) [0, 1, 2, 3, 4, 5, 6, 7, 8] (by decide) rfl
      have hFc := va_free (wc := [(q3, .inr (4, [.ref q1, .ref q2, .ref q7, .int fp])), (q1, .inr (6, [.ref q5, .int (nI n)])), (q5, .inl (gB g, 2000, .inl f)), (q2, .inr (3, [.ref q6, .int (nI (wn st))])), (q6, .inl (gI g, 600, .inl pw)), (q7, .inr (5, [.ref q1, .ref q8, .ref q9, .ref q10, .int (nI (sn st))])), (q8, .inl (gI g, 40, .inl s1)), (q9, .inl (gI g, 40, .inl s2)), (q10, .inl (gI g, 40, .inl s3))]) hD hS hA [0, 1, 2, 3, 4, 5, 6, 7, 8] rfl
      refine sd_ci (va_runV (As := [.int (nI a), .int (nI e)]) (rest := []) ⟨hx, hb, hml, hown, hts⟩ (c_Rdr_takeOther l g q3 q1 q2 q7 q5 q6 q8 q9 q10 n fp f tx hT st pw s1 s2 s3 hPR hSR a e (by omega) (by omega) s.heap.size) (cwV 2 hts (sd_gV k_338 k_340 k_5 k_26 k_341) rfl rfl rfl (by decide +kernel) ⟨Nat.le_of_ble_eq_true rfl, Nat.le_of_ble_eq_true rfl⟩) (sd_preVU hK hE hS hA0 hs0 hPc hDc rfl rfl) rfl rfl hl.1 rfl (lv_room (Nat.le_of_ble_eq_true rfl)) d_Rdr_take_44 ⟨Nat.zero_le _, Nat.zero_le _⟩) hS hFc (fun r4 u H1 locs hw hP1 hD1 hk1 hS => ?_)
      obtain ⟨st1, p1, t1, t2, t3⟩ := u
      obtain ⟨hP, hD⟩ := va_join (wr := []) (w1 := [(q3, .inr (4, [.ref q1, .ref q2, .ref q7, .int fp])), (q1, .inr (6, [.ref q5, .int (nI n)])), (q5, .inl (gB g, 2000, .inl f)), (q2, .inr (3, [.ref q6, .int (nI (wn st1))])), (q6, .inl (gI g, 600, .inl p1)), (q7, .inr (5, [.ref q1, .ref q8, .ref q9, .ref q10, .int (nI (sn st1))])), (q8, .inl (gI g, 40, .inl t1)), (q9, .inl (gI g, 40, .inl t2)), (q10, .inl (gI g, 40, .inl t3))]) hP hD [0, 1, 2, 3, 4, 5, 6, 7, 8] [] rfl rfl (by decide) (by decide) hk1 hFc hP1 hD1
      clear hPc hDc hFc hk1 hP1 hD1
      generalize H1 = H at hP hS ⊢
      have hP : sdP g [(q3, .inr (4, [.ref q1, .ref q2, .ref q7, .int fp])), (q1, .inr (6, [.ref q5, .int (nI n)])), (q5, .inl (gB g, 2000, .inl f)), (q2, .inr (3, [.ref q6, .int (nI (wn st1))])), (q6, .inl (gI g, 600, .inl p1)), (q7, .inr (5, [.ref q1, .ref q8, .ref q9, .ref q10, .int (nI (sn st1))])), (q8, .inl (gI g, 40, .inl t1)), (q9, .inl (gI g, 40, .inl t2)), (q10, .inl (gI g, 40, .inl t3))] H := hP
      have hD : va_D A [(q3, .inr (4, [.ref q1, .ref q2, .ref q7, .int fp])), (q1, .inr (6, [.ref q5, .int (nI n)])), (q5, .inl (gB g, 2000, .inl f)), (q2, .inr (3, [.ref q6, .int (nI (wn st1))])), (q6, .inl (gI g, 600, .inl p1)), (q7, .inr (5, [.ref q1, .ref q8, .ref q9, .ref q10, .int (nI (sn st1))])), (q8, .inl (gI g, 40, .inl t1)), (q9, .inl (gI g, 40, .inl t2)), (q10, .inl (gI g, 40, .inl t3))] := hD
      obtain ⟨⟨c9, hc9, er4⟩, hPR1, hSR1⟩ := hw
      subst er4
      have hP9 := hP.sub (ws' := [(q3, .inr (4, [.ref q1, .ref q2, .ref q7, .int fp])), (q1, .inr (6, [.ref q5, .int (nI n)])), (q5, .inl (gB g, 2000, .inl f)), (q2, .inr (3, [.ref q6, .int (nI (wn st1))])), (q6, .inl (gI g, 600, .inl p1)), (q7, .inr (5, [.ref q1, .ref q8, .ref q9, .ref q10, .int (nI (sn st1))])), (q8, .inl (gI g, 40, .inl t1)), (q9, .inl (gI g, 40, .inl t2)), (q10, .inl (gI g, 40, .inl t3))]) [0, 1, 2, 3, 4, 5, 6, 7, 8] rfl
      have hD9 := hD.sub (ws' := [(q3, .inr (4, [.ref q1, .ref q2, .ref q7, .int fp])), (q1, .inr (6, [.ref q5, .int (nI n)])), (q5, .inl (gB g, 2000, .inl f)), (q2, .inr (3, [.ref q6, .int (nI (wn st1))])), (q6, .inl (gI g, 600, .inl p1)), (q7, .inr (5, [.ref q1, .ref q8, .ref q9, .ref q10, .int (nI (sn st1))])), (q8, .inl (gI g, 40, .inl t1)), (q9, .inl (gI g, 40, .inl t2)), (q10, .inl (gI g, 40, .inl t3))]) [0, 1, 2, 3, 4, 5, 6, 7, 8] (by decide) rfl
      exact W.iret (v := (nI c9)) hx hb hr (fun t ht hW => ⟨⟨_, (st1, p1, t1, t2, t3), rfl, ⟨⟨c9, by rw [spTake, if_neg c2, if_neg c3]; exact hc9, rfl⟩, hPR1, hSR1⟩, by rw [ht]; exact hP9, by rw [hAe]; exact hD9⟩, hS.F ht⟩) hS.2.2 d_Rdr_take_47
    · have c3 := (nI_eq (by omega) (by omega)).mp c3
      refine lv_aload_n hx hb d_Rdr_take_30 rfl (lv_at hl 1 rfl) ?_
      refine lv_iload_n hx hb d_Rdr_take_31 rfl (lv_at hl 2 rfl) ?_
      refine lv_iconst (v := (nI 1)) hx hb d_Rdr_take_32 (by decide) ?_
      refine lv_iadd hx hb d_Rdr_take_33 ?_
      refine sd_topi (y := nI (a + 1)) (nI_add _ _) ?_
      refine lv_iload_n hx hb d_Rdr_take_34 rfl (lv_at hl 3 rfl) ?_
      refine lv_iconst (v := (nI 1)) hx hb d_Rdr_take_35 (by decide) ?_
      refine lv_isub hx hb d_Rdr_take_36 ?_
      refine sd_topi (y := nI (e - 1)) (pk_sub (by omega)) ?_
      have hPc := hP.sub (ws' := [(q3, .inr (4, [.ref q1, .ref q2, .ref q7, .int fp])), (q1, .inr (6, [.ref q5, .int (nI n)])), (q5, .inl (gB g, 2000, .inl f)), (q2, .inr (3, [.ref q6, .int (nI (wn st))])), (q6, .inl (gI g, 600, .inl pw)), (q7, .inr (5, [.ref q1, .ref q8, .ref q9, .ref q10, .int (nI (sn st))])), (q8, .inl (gI g, 40, .inl s1)), (q9, .inl (gI g, 40, .inl s2)), (q10, .inl (gI g, 40, .inl s3))]) [0, 1, 2, 3, 4, 5, 6, 7, 8] rfl
      have hDc := hD.sub (ws' := [(q3, .inr (4, [.ref q1, .ref q2, .ref q7, .int fp])), (q1, .inr (6, [.ref q5, .int (nI n)])), (q5, .inl (gB g, 2000, .inl f)), (q2, .inr (3, [.ref q6, .int (nI (wn st))])), (q6, .inl (gI g, 600, .inl pw)), (q7, .inr (5, [.ref q1, .ref q8, .ref q9, .ref q10, .int (nI (sn st))])), (q8, .inl (gI g, 40, .inl s1)), (q9, .inl (gI g, 40, .inl s2)), (q10, .inl (gI g, 40, .inl s3))]) [0, 1, 2, 3, 4, 5, 6, 7, 8] (by decide) rfl
      have hFc := va_free (wc := [(q3, .inr (4, [.ref q1, .ref q2, .ref q7, .int fp])), (q1, .inr (6, [.ref q5, .int (nI n)])), (q5, .inl (gB g, 2000, .inl f)), (q2, .inr (3, [.ref q6, .int (nI (wn st))])), (q6, .inl (gI g, 600, .inl pw)), (q7, .inr (5, [.ref q1, .ref q8, .ref q9, .ref q10, .int (nI (sn st))])), (q8, .inl (gI g, 40, .inl s1)), (q9, .inl (gI g, 40, .inl s2)), (q10, .inl (gI g, 40, .inl s3))]) hD hS hA [0, 1, 2, 3, 4, 5, 6, 7, 8] rfl
      refine sd_ci (va_runV (As := [.int (nI (a + 1)), .int (nI (e - 1))]) (rest := []) ⟨hx, hb, hml, hown, hts⟩ (c_Rdr_takeLabel l g q3 q1 q2 q7 q5 q6 q8 q9 q10 n fp f tx hT st pw s1 s2 s3 hPR hSR (a + 1) (e - 1) (by omega) (by omega) s.heap.size) (cwV 2 hts (sd_gV k_326 k_328 k_4 k_26 k_329) rfl rfl rfl (by decide +kernel) ⟨Nat.le_of_ble_eq_true rfl, Nat.le_of_ble_eq_true rfl⟩) (sd_preVU hK hE hS hA0 hs0 hPc hDc rfl rfl) rfl rfl hl.1 rfl (lv_room (Nat.le_of_ble_eq_true rfl)) d_Rdr_take_37 ⟨Nat.zero_le _, Nat.zero_le _⟩) hS hFc (fun r5 u H1 locs hw hP1 hD1 hk1 hS => ?_)
      obtain ⟨st1, p1, t1, t2, t3⟩ := u
      obtain ⟨hP, hD⟩ := va_join (wr := []) (w1 := [(q3, .inr (4, [.ref q1, .ref q2, .ref q7, .int fp])), (q1, .inr (6, [.ref q5, .int (nI n)])), (q5, .inl (gB g, 2000, .inl f)), (q2, .inr (3, [.ref q6, .int (nI (wn st1))])), (q6, .inl (gI g, 600, .inl p1)), (q7, .inr (5, [.ref q1, .ref q8, .ref q9, .ref q10, .int (nI (sn st1))])), (q8, .inl (gI g, 40, .inl t1)), (q9, .inl (gI g, 40, .inl t2)), (q10, .inl (gI g, 40, .inl t3))]) hP hD [0, 1, 2, 3, 4, 5, 6, 7, 8] [] rfl rfl (by decide) (by decide) hk1 hFc hP1 hD1
      clear hPc hDc hFc hk1 hP1 hD1
      generalize H1 = H at hP hS ⊢
      have hP : sdP g [(q3, .inr (4, [.ref q1, .ref q2, .ref q7, .int fp])), (q1, .inr (6, [.ref q5, .int (nI n)])), (q5, .inl (gB g, 2000, .inl f)), (q2, .inr (3, [.ref q6, .int (nI (wn st1))])), (q6, .inl (gI g, 600, .inl p1)), (q7, .inr (5, [.ref q1, .ref q8, .ref q9, .ref q10, .int (nI (sn st1))])), (q8, .inl (gI g, 40, .inl t1)), (q9, .inl (gI g, 40, .inl t2)), (q10, .inl (gI g, 40, .inl t3))] H := hP
      have hD : va_D A [(q3, .inr (4, [.ref q1, .ref q2, .ref q7, .int fp])), (q1, .inr (6, [.ref q5, .int (nI n)])), (q5, .inl (gB g, 2000, .inl f)), (q2, .inr (3, [.ref q6, .int (nI (wn st1))])), (q6, .inl (gI g, 600, .inl p1)), (q7, .inr (5, [.ref q1, .ref q8, .ref q9, .ref q10, .int (nI (sn st1))])), (q8, .inl (gI g, 40, .inl t1)), (q9, .inl (gI g, 40, .inl t2)), (q10, .inl (gI g, 40, .inl t3))] := hD
      obtain ⟨⟨c9, hc9, er5⟩, hPR1, hSR1⟩ := hw
      subst er5
      have hP9 := hP.sub (ws' := [(q3, .inr (4, [.ref q1, .ref q2, .ref q7, .int fp])), (q1, .inr (6, [.ref q5, .int (nI n)])), (q5, .inl (gB g, 2000, .inl f)), (q2, .inr (3, [.ref q6, .int (nI (wn st1))])), (q6, .inl (gI g, 600, .inl p1)), (q7, .inr (5, [.ref q1, .ref q8, .ref q9, .ref q10, .int (nI (sn st1))])), (q8, .inl (gI g, 40, .inl t1)), (q9, .inl (gI g, 40, .inl t2)), (q10, .inl (gI g, 40, .inl t3))]) [0, 1, 2, 3, 4, 5, 6, 7, 8] rfl
      have hD9 := hD.sub (ws' := [(q3, .inr (4, [.ref q1, .ref q2, .ref q7, .int fp])), (q1, .inr (6, [.ref q5, .int (nI n)])), (q5, .inl (gB g, 2000, .inl f)), (q2, .inr (3, [.ref q6, .int (nI (wn st1))])), (q6, .inl (gI g, 600, .inl p1)), (q7, .inr (5, [.ref q1, .ref q8, .ref q9, .ref q10, .int (nI (sn st1))])), (q8, .inl (gI g, 40, .inl t1)), (q9, .inl (gI g, 40, .inl t2)), (q10, .inl (gI g, 40, .inl t3))]) [0, 1, 2, 3, 4, 5, 6, 7, 8] (by decide) rfl
      exact W.iret (v := (nI c9)) hx hb hr (fun t ht hW => ⟨⟨_, (st1, p1, t1, t2, t3), rfl, ⟨⟨c9, by rw [spTake, if_neg c2, if_pos c3]; exact hc9, rfl⟩, hPR1, hSR1⟩, by rw [ht]; exact hP9, by rw [hAe]; exact hD9⟩, hS.F ht⟩) hS.2.2 d_Rdr_take_40
  · have c2 := (nI_eq (by omega) (by omega)).mp c2
    refine lv_aload_n hx hb d_Rdr_take_15 rfl (lv_at hl 1 rfl) ?_
    refine lv_iload_n hx hb d_Rdr_take_16 rfl (lv_at hl 2 rfl) ?_
    refine lv_iconst (v := (nI 1)) hx hb d_Rdr_take_17 (by decide) ?_
    refine lv_iadd hx hb d_Rdr_take_18 ?_
    refine sd_topi (y := nI (a + 1)) (nI_add _ _) ?_
    refine lv_iload_n hx hb d_Rdr_take_19 rfl (lv_at hl 3 rfl) ?_
    have hPc := hP.sub (ws' := [(q3, .inr (4, [.ref q1, .ref q2, .ref q7, .int fp])), (q1, .inr (6, [.ref q5, .int (nI n)])), (q5, .inl (gB g, 2000, .inl f)), (q2, .inr (3, [.ref q6, .int (nI (wn st))])), (q6, .inl (gI g, 600, .inl pw)), (q7, .inr (5, [.ref q1, .ref q8, .ref q9, .ref q10, .int (nI (sn st))])), (q8, .inl (gI g, 40, .inl s1)), (q9, .inl (gI g, 40, .inl s2)), (q10, .inl (gI g, 40, .inl s3))]) [0, 1, 2, 3, 4, 5, 6, 7, 8] rfl
    have hDc := hD.sub (ws' := [(q3, .inr (4, [.ref q1, .ref q2, .ref q7, .int fp])), (q1, .inr (6, [.ref q5, .int (nI n)])), (q5, .inl (gB g, 2000, .inl f)), (q2, .inr (3, [.ref q6, .int (nI (wn st))])), (q6, .inl (gI g, 600, .inl pw)), (q7, .inr (5, [.ref q1, .ref q8, .ref q9, .ref q10, .int (nI (sn st))])), (q8, .inl (gI g, 40, .inl s1)), (q9, .inl (gI g, 40, .inl s2)), (q10, .inl (gI g, 40, .inl s3))]) [0, 1, 2, 3, 4, 5, 6, 7, 8] (by decide) rfl
    have hFc := va_free (wc := [(q3, .inr (4, [.ref q1, .ref q2, .ref q7, .int fp])), (q1, .inr (6, [.ref q5, .int (nI n)])), (q5, .inl (gB g, 2000, .inl f)), (q2, .inr (3, [.ref q6, .int (nI (wn st))])), (q6, .inl (gI g, 600, .inl pw)), (q7, .inr (5, [.ref q1, .ref q8, .ref q9, .ref q10, .int (nI (sn st))])), (q8, .inl (gI g, 40, .inl s1)), (q9, .inl (gI g, 40, .inl s2)), (q10, .inl (gI g, 40, .inl s3))]) hD hS hA [0, 1, 2, 3, 4, 5, 6, 7, 8] rfl
    refine sd_ci (va_runV (As := [.int (nI (a + 1)), .int (nI e)]) (rest := []) ⟨hx, hb, hml, hown, hts⟩ (c_Rdr_takeAddress l g q3 q1 q2 q7 q5 q6 q8 q9 q10 n fp f tx hT st pw s1 s2 s3 hPR hSR (a + 1) e (by omega) (by omega) s.heap.size) (cwV 2 hts (sd_gV k_228 k_230 k_2 k_26 k_231) rfl rfl rfl (by decide +kernel) ⟨Nat.le_of_ble_eq_true rfl, Nat.le_of_ble_eq_true rfl⟩) (sd_preVU hK hE hS hA0 hs0 hPc hDc rfl rfl) rfl rfl hl.1 rfl (lv_room (Nat.le_of_ble_eq_true rfl)) d_Rdr_take_20 ⟨Nat.zero_le _, Nat.zero_le _⟩) hS hFc (fun r6 u H1 locs hw hP1 hD1 hk1 hS => ?_)
    obtain ⟨st1, p1, t1, t2, t3⟩ := u
    obtain ⟨hP, hD⟩ := va_join (wr := []) (w1 := [(q3, .inr (4, [.ref q1, .ref q2, .ref q7, .int fp])), (q1, .inr (6, [.ref q5, .int (nI n)])), (q5, .inl (gB g, 2000, .inl f)), (q2, .inr (3, [.ref q6, .int (nI (wn st1))])), (q6, .inl (gI g, 600, .inl p1)), (q7, .inr (5, [.ref q1, .ref q8, .ref q9, .ref q10, .int (nI (sn st1))])), (q8, .inl (gI g, 40, .inl t1)), (q9, .inl (gI g, 40, .inl t2)), (q10, .inl (gI g, 40, .inl t3))]) hP hD [0, 1, 2, 3, 4, 5, 6, 7, 8] [] rfl rfl (by decide) (by decide) hk1 hFc hP1 hD1
    clear hPc hDc hFc hk1 hP1 hD1
    generalize H1 = H at hP hS ⊢
    have hP : sdP g [(q3, .inr (4, [.ref q1, .ref q2, .ref q7, .int fp])), (q1, .inr (6, [.ref q5, .int (nI n)])), (q5, .inl (gB g, 2000, .inl f)), (q2, .inr (3, [.ref q6, .int (nI (wn st1))])), (q6, .inl (gI g, 600, .inl p1)), (q7, .inr (5, [.ref q1, .ref q8, .ref q9, .ref q10, .int (nI (sn st1))])), (q8, .inl (gI g, 40, .inl t1)), (q9, .inl (gI g, 40, .inl t2)), (q10, .inl (gI g, 40, .inl t3))] H := hP
    have hD : va_D A [(q3, .inr (4, [.ref q1, .ref q2, .ref q7, .int fp])), (q1, .inr (6, [.ref q5, .int (nI n)])), (q5, .inl (gB g, 2000, .inl f)), (q2, .inr (3, [.ref q6, .int (nI (wn st1))])), (q6, .inl (gI g, 600, .inl p1)), (q7, .inr (5, [.ref q1, .ref q8, .ref q9, .ref q10, .int (nI (sn st1))])), (q8, .inl (gI g, 40, .inl t1)), (q9, .inl (gI g, 40, .inl t2)), (q10, .inl (gI g, 40, .inl t3))] := hD
    obtain ⟨⟨c9, hc9, er6⟩, hPR1, hSR1⟩ := hw
    subst er6
    have hP9 := hP.sub (ws' := [(q3, .inr (4, [.ref q1, .ref q2, .ref q7, .int fp])), (q1, .inr (6, [.ref q5, .int (nI n)])), (q5, .inl (gB g, 2000, .inl f)), (q2, .inr (3, [.ref q6, .int (nI (wn st1))])), (q6, .inl (gI g, 600, .inl p1)), (q7, .inr (5, [.ref q1, .ref q8, .ref q9, .ref q10, .int (nI (sn st1))])), (q8, .inl (gI g, 40, .inl t1)), (q9, .inl (gI g, 40, .inl t2)), (q10, .inl (gI g, 40, .inl t3))]) [0, 1, 2, 3, 4, 5, 6, 7, 8] rfl
    have hD9 := hD.sub (ws' := [(q3, .inr (4, [.ref q1, .ref q2, .ref q7, .int fp])), (q1, .inr (6, [.ref q5, .int (nI n)])), (q5, .inl (gB g, 2000, .inl f)), (q2, .inr (3, [.ref q6, .int (nI (wn st1))])), (q6, .inl (gI g, 600, .inl p1)), (q7, .inr (5, [.ref q1, .ref q8, .ref q9, .ref q10, .int (nI (sn st1))])), (q8, .inl (gI g, 40, .inl t1)), (q9, .inl (gI g, 40, .inl t2)), (q10, .inl (gI g, 40, .inl t3))]) [0, 1, 2, 3, 4, 5, 6, 7, 8] (by decide) rfl
    exact W.iret (v := (nI c9)) hx hb hr (fun t ht hW => ⟨⟨_, (st1, p1, t1, t2, t3), rfl, ⟨⟨c9, by rw [spTake, if_pos c2]; exact hc9, rfl⟩, hPR1, hSR1⟩, by rw [ht]; exact hP9, by rw [hAe]; exact hD9⟩, hS.F ht⟩) hS.2.2 d_Rdr_take_23
