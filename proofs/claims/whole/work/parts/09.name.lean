set_option maxHeartbeats 4000000 in
set_option maxRecDepth 100000 in
/-- nameAmong(names, a, z) -/
theorem c_Txt_nameAmong (l : Launch) (g : sdG) (q1 q5 n : Nat) (f : Nat → Int32) (tx : Nat → Nat) (hT : TXok n f tx) (k : Nat) (hk : k < 5) (a z : Nat) (ha : a ≤ 2001) (hz : z ≤ 2001) : Met l y_Txt_nameAmong (.code y_Txt_nameAmong b_Txt_nameAmong 8 (some .int) :: sdT) ({ frames := 4, cells := 0, slots := 0, locals := 85 }) (va_Pc [.ref q1, .ref (gk g k), .int (nI a), .int (nI z)] (sdR g [(q1, .inr (6, [.ref q5, .int (nI n)])), (q5, .inl (gB g, 2000, .inl f))])) (vp_Si (fun r => r = nmF (nmM tx a z) (sd_nm.getD k []) 0)) 0 0 (fun _ => False) := by
  refine Met.ofW (cc := b_Txt_nameAmong) (maxL := 8) (ret := (some .int)) (by decide) rfl ?_
  intro p e s m args below meth c s₁ B hml hv
  obtain ⟨rfl, hP, hK, hE⟩ := hv
  have hx := B.exec
  have hb := B.bytes
  have hr := B.returns
  have hts := fun (w : Cond) (h : w ∈ sdT) => atoms_spec (ws := (.code y_Txt_nameAmong b_Txt_nameAmong 8 (some .int) :: sdT)) B.pre w (List.mem_cons_of_mem _ h)
  have hown : s.vm.findClass "SignDesk$Text" = some m.cls := findClass_of_methodNamed B.named
  have hlocks := B.notSynchronized
  have hF : ∀ a : Nat, a < s.heap.size → ¬ sdA g a → s.heap[a]? = s.heap[a]? := fun _ _ _ => rfl
  have hP : sdP g [(q1, .inr (6, [.ref q5, .int (nI n)])), (q5, .inl (gB g, 2000, .inl f))] s.heap := hP
  have hl := lv_entry ([.ref q1, .ref (gk g k), .int (nI a), .int (nI z)]) (n := 8) (Nat.le_of_ble_eq_true rfl)
  rw [lg_entry_eq]
  generalize (lg_sl ([.ref q1, .ref (gk g k), .int (nI a), .int (nI z)]) ++ List.replicate (8 - (lg_sl ([.ref q1, .ref (gk g k), .int (nI a), .int (nI z)])).length) Slot.unset).toArray = ls at hl ⊢
  have hl : lv_has ls 8 [(0, .ref q1), (1, .ref (gk g k)), (2, .int (nI a)), (3, .int (nI z))] := hl
  have hn := hT.1
  have hb8 := hT.2.1
  have hln := sd_ln_ok k hk
  obtain ⟨hn1, hn2, hn3⟩ := sd_nm_ok k hk
  obtain ⟨w0, rest0, hnm⟩ : ∃ w0 rest0, sd_nm.getD k [] = w0 :: rest0 := by
    cases h : sd_nm.getD k [] with
    | nil => exact absurd h hn2
    | cons x y => exact ⟨x, y, rfl⟩
  rw [hnm] at hn1 hn3
  have hno : ∀ v, v ∈ w0 :: rest0 → ∀ c, c ∈ v → ¬ c = 32 := by
    intro v hv c hc e
    have h1 := List.all_eq_true.mp (List.all_eq_true.mp hn3 v hv) c hc
    rw [e] at h1
    exact absurd h1 (by decide)
  refine lv_iconst (v := (nI 0)) hx hb d_Txt_nameAmong_0 (by decide) ?_
  refine lv_istore (lv' := [(4, .int (nI 0)), (0, .ref q1), (1, .ref (gk g k)), (2, .int (nI a)), (3, .int (nI z))]) hx hb d_Txt_nameAmong_1 hl (by decide) rfl (fun ls hl => ?_)
  refine lv_iconst (v := (nI 0)) hx hb d_Txt_nameAmong_3 (by decide) ?_
  refine lv_istore (lv' := [(5, .int (nI 0)), (4, .int (nI 0)), (0, .ref q1), (1, .ref (gk g k)), (2, .int (nI a)), (3, .int (nI z))]) hx hb d_Txt_nameAmong_4 hl (by decide) rfl (fun ls hl => ?_)
  refine lv_iconst (v := (nI 1)) hx hb d_Txt_nameAmong_6 (by decide) ?_
  refine lv_istore (lv' := [(6, .int (nI 1)), (5, .int (nI 0)), (4, .int (nI 0)), (0, .ref q1), (1, .ref (gk g k)), (2, .int (nI a)), (3, .int (nI z))]) hx hb d_Txt_nameAmong_7 hl (by decide) rfl (fun ls hl => ?_)
  refine lv_iconst (v := (nI 0)) hx hb d_Txt_nameAmong_9 (by decide) ?_
  refine lv_istore (lv' := [(7, .int (nI 0)), (6, .int (nI 1)), (5, .int (nI 0)), (4, .int (nI 0)), (0, .ref q1), (1, .ref (gk g k)), (2, .int (nI a)), (3, .int (nI z))]) hx hb d_Txt_nameAmong_10 hl (by decide) rfl (fun ls hl => ?_)
  refine sd_loopr (fun (x : Nat × Nat × List Nat × List (List Nat) × Nat) ls => match x with | (nm, st, w, rest, j) => lv_has ls 8 [(7, .int (nI (st + j))), (6, .int (sb (∀ t, t < j → w.getD t 0 = tx (a + t)))), (5, .int (nI st)), (4, .int (nI nm)), (0, .ref q1), (1, .ref (gk g k)), (2, .int (nI a)), (3, .int (nI z))] ∧ ((sd_bn.getD k []).drop st = nmStr (w :: rest)) ∧ (j ≤ w.length) ∧ (∀ v, v ∈ w :: rest → ∀ c, c ∈ v → ¬ c = 32) ∧ (nmF (nmM tx a z) (sd_nm.getD k []) 0 = nmF (nmM tx a z) (w :: rest) nm) ∧ (nm ≤ st) ∧ (st + (nmStr (w :: rest)).length = sd_len.getD k 0)) (fun (x : Nat × Nat × List Nat × List (List Nat) × Nat) => match x with | (nm, st, w, rest, j) => sd_len.getD k 0 + 1 - (st + j)) 12 [] (fun x ls hI ih => ?_) (0, 0, w0, rest0, 0) ⟨by
      have e1 : sb (∀ t, t < 0 → w0.getD t 0 = tx (a + t)) = nI 1 := sb_t (fun t h => absurd h (Nat.not_lt_zero t))
      show lv_has _ _ [(7, .int (nI (0 + 0))), (6, .int (sb (∀ t, t < 0 → w0.getD t 0 = tx (a + t)))), _, _, _, _, _, _]
      rw [e1]
      exact lv_sub hl [0, 1, 2, 3, 4, 5, 6, 7] rfl, hn1.symm, Nat.zero_le _, hno, by rw [hnm], Nat.le_refl _, by rw [hn1, Nat.zero_add]; exact hln.1.symm⟩
  obtain ⟨nm, st, w, rest, j⟩ := x
  obtain ⟨hl, h1, h2, h3, h4, h5, h6⟩ := hI
  have hwl := nmS_len (w := w) (rest := rest)
  refine lv_iload hx hb d_Txt_nameAmong_12 (lv_at hl 0 rfl) ?_
  refine lv_aload_n hx hb d_Txt_nameAmong_14 rfl (lv_at hl 5 rfl) ?_
  refine sd_ri (va_runV (As := []) (rest := [.int (nI (st + j))]) ⟨hx, hb, hml, hown, hts⟩ (c_JS_length l g k hk) (cwV 0 hts (sd_gV k_253 k_254 k_255 k_31 k_256) rfl rfl rfl (by decide +kernel) ⟨Nat.le_of_ble_eq_true rfl, Nat.le_of_ble_eq_true rfl⟩) (sd_preStr hK hE hF hk) rfl rfl hl.1 rfl (lv_room (Nat.le_of_ble_eq_true rfl)) d_Txt_nameAmong_15 ⟨Nat.zero_le _, Nat.zero_le _⟩) (fun r1 er1 => ?_)
  subst er1
  refine lv_icmp_gt (tgt := 104) hx hb d_Txt_nameAmong_18 (by decide) (fun c2 => ?_) (fun c2 => ?_)
  · have c2 := (nI_ltI (by omega) (by omega)).mp c2
    exact absurd c2 (by omega)
  · have c2 := mt (nI_ltI (by omega) (by omega)).mpr c2
    refine lv_iload hx hb d_Txt_nameAmong_21 (lv_at hl 0 rfl) ?_
    refine lv_aload_n hx hb d_Txt_nameAmong_23 rfl (lv_at hl 5 rfl) ?_
    refine sd_ri (va_runV (As := []) (rest := [.int (nI (st + j))]) ⟨hx, hb, hml, hown, hts⟩ (c_JS_length l g k hk) (cwV 0 hts (sd_gV k_253 k_254 k_255 k_31 k_256) rfl rfl rfl (by decide +kernel) ⟨Nat.le_of_ble_eq_true rfl, Nat.le_of_ble_eq_true rfl⟩) (sd_preStr hK hE hF hk) rfl rfl hl.1 rfl (lv_room (Nat.le_of_ble_eq_true rfl)) d_Txt_nameAmong_24 ⟨Nat.zero_le _, Nat.zero_le _⟩) (fun r3 er3 => ?_)
    subst er3
    refine lv_icmp_eq (tgt := 41) hx hb d_Txt_nameAmong_27 (by decide) (fun c4 => ?_) (fun c4 => ?_)
    · have c4 := (nI_eq (by omega) (by omega)).mp c4
      have hrest : rest = [] := by
        cases rest with
        | nil => rfl
        | cons x y => rw [nmS_len2] at h6; omega
      subst hrest
      rw [nmS_len1] at h6
      have hj : j = w.length := by omega
      refine lv_iload hx hb d_Txt_nameAmong_41 (lv_at hl 1 rfl) ?_
      refine lv_if_eq (tgt := 60) hx hb d_Txt_nameAmong_43 (by decide) (fun c5 => ?_) (fun c5 => ?_)
      · have c5 := sb_eq0.mp c5
        refine lv_iinc (v := (nI (nm + 1))) (lv' := [(4, .int (nI (nm + 1))), (7, .int (nI (st + j))), (6, .int (sb (∀ t, t < j → w.getD t 0 = tx (a + t)))), (5, .int (nI st)), (0, .ref q1), (1, .ref (gk g k)), (2, .int (nI a)), (3, .int (nI z))]) hx hb d_Txt_nameAmong_60 hl (k := 3) rfl (nI_1 _) (by decide) rfl (fun ls hl => ?_)
        refine lv_iload hx hb d_Txt_nameAmong_63 (lv_at hl 1 rfl) ?_
        refine lv_iconst (v := (nI 1)) hx hb d_Txt_nameAmong_65 (by decide) ?_
        refine lv_iadd hx hb d_Txt_nameAmong_66 ?_
        refine sd_topi (y := nI ((st + j) + 1)) (nI_add _ _) ?_
        refine lv_istore (lv' := [(5, .int (nI ((st + j) + 1))), (4, .int (nI (nm + 1))), (7, .int (nI (st + j))), (6, .int (sb (∀ t, t < j → w.getD t 0 = tx (a + t)))), (0, .ref q1), (1, .ref (gk g k)), (2, .int (nI a)), (3, .int (nI z))]) hx hb d_Txt_nameAmong_67 hl (by decide) rfl (fun ls hl => ?_)
        refine lv_iconst (v := (nI 1)) hx hb d_Txt_nameAmong_69 (by decide) ?_
        refine lv_istore (lv' := [(6, .int (nI 1)), (5, .int (nI ((st + j) + 1))), (4, .int (nI (nm + 1))), (7, .int (nI (st + j))), (0, .ref q1), (1, .ref (gk g k)), (2, .int (nI a)), (3, .int (nI z))]) hx hb d_Txt_nameAmong_70 hl (by decide) rfl (fun ls hl => ?_)
        have hM : ¬ nmM tx a z w := fun q => c5 (fun t ht => q.2 t (by omega))
        have h4 := h4.trans (nmF_f hM)
        refine lv_goto (tgt := 98) hx hb d_Txt_nameAmong_72 (by decide) ?_
        refine lv_iinc (v := (nI ((st + j) + 1))) (lv' := [(7, .int (nI ((st + j) + 1))), (6, .int (nI 1)), (5, .int (nI ((st + j) + 1))), (4, .int (nI (nm + 1))), (0, .ref q1), (1, .ref (gk g k)), (2, .int (nI a)), (3, .int (nI z))]) hx hb d_Txt_nameAmong_98 hl (k := 3) rfl (nI_1 _) (by decide) rfl (fun ls hl => ?_)
        refine lv_goto (tgt := 12) hx hb d_Txt_nameAmong_101 (by decide) ?_
        refine lv_iload hx hb d_Txt_nameAmong_12 (lv_at hl 0 rfl) ?_
        refine lv_aload_n hx hb d_Txt_nameAmong_14 rfl (lv_at hl 5 rfl) ?_
        refine sd_ri (va_runV (As := []) (rest := [.int (nI ((st + j) + 1))]) ⟨hx, hb, hml, hown, hts⟩ (c_JS_length l g k hk) (cwV 0 hts (sd_gV k_253 k_254 k_255 k_31 k_256) rfl rfl rfl (by decide +kernel) ⟨Nat.le_of_ble_eq_true rfl, Nat.le_of_ble_eq_true rfl⟩) (sd_preStr hK hE hF hk) rfl rfl hl.1 rfl (lv_room (Nat.le_of_ble_eq_true rfl)) d_Txt_nameAmong_15 ⟨Nat.zero_le _, Nat.zero_le _⟩) (fun r6 er6 => ?_)
        subst er6
        refine lv_icmp_gt (tgt := 104) hx hb d_Txt_nameAmong_18 (by decide) (fun c7 => ?_) (fun c7 => ?_)
        · have c7 := (nI_ltI (by omega) (by omega)).mp c7
          refine lv_iconst (v := (-1)) hx hb d_Txt_nameAmong_104 (by decide) ?_
          exact W.iret (v := (-1)) hx hb hr  (fun t ht hW => ⟨_, rfl, h4.symm, ht⟩) (fun _ h => by cases h) d_Txt_nameAmong_105
        · have c7 := mt (nI_ltI (by omega) (by omega)).mpr c7
          exact absurd c7 (by omega)
      · have c5 := sb_ne0.mp c5
        refine lv_iload hx hb d_Txt_nameAmong_46 (lv_at hl 0 rfl) ?_
        refine lv_iload hx hb d_Txt_nameAmong_48 (lv_at hl 2 rfl) ?_
        refine lv_isub hx hb d_Txt_nameAmong_50 ?_
        refine sd_topi (y := nI j) (by rw [pk_sub (by omega)]; congr 1; omega) ?_
        refine lv_iload_n hx hb d_Txt_nameAmong_51 rfl (lv_at hl 7 rfl) ?_
        refine lv_iload_n hx hb d_Txt_nameAmong_52 rfl (lv_at hl 6 rfl) ?_
        refine lv_isub hx hb d_Txt_nameAmong_53 ?_
        refine lv_icmp_ne (tgt := 60) hx hb d_Txt_nameAmong_54 (by decide) (fun c8 => ?_) (fun c8 => ?_)
        · have c8 := mt (sd_subEq (by omega) (by omega) (by omega)).mpr c8
          refine lv_iinc (v := (nI (nm + 1))) (lv' := [(4, .int (nI (nm + 1))), (7, .int (nI (st + j))), (6, .int (sb (∀ t, t < j → w.getD t 0 = tx (a + t)))), (5, .int (nI st)), (0, .ref q1), (1, .ref (gk g k)), (2, .int (nI a)), (3, .int (nI z))]) hx hb d_Txt_nameAmong_60 hl (k := 3) rfl (nI_1 _) (by decide) rfl (fun ls hl => ?_)
          refine lv_iload hx hb d_Txt_nameAmong_63 (lv_at hl 1 rfl) ?_
          refine lv_iconst (v := (nI 1)) hx hb d_Txt_nameAmong_65 (by decide) ?_
          refine lv_iadd hx hb d_Txt_nameAmong_66 ?_
          refine sd_topi (y := nI ((st + j) + 1)) (nI_add _ _) ?_
          refine lv_istore (lv' := [(5, .int (nI ((st + j) + 1))), (4, .int (nI (nm + 1))), (7, .int (nI (st + j))), (6, .int (sb (∀ t, t < j → w.getD t 0 = tx (a + t)))), (0, .ref q1), (1, .ref (gk g k)), (2, .int (nI a)), (3, .int (nI z))]) hx hb d_Txt_nameAmong_67 hl (by decide) rfl (fun ls hl => ?_)
          refine lv_iconst (v := (nI 1)) hx hb d_Txt_nameAmong_69 (by decide) ?_
          refine lv_istore (lv' := [(6, .int (nI 1)), (5, .int (nI ((st + j) + 1))), (4, .int (nI (nm + 1))), (7, .int (nI (st + j))), (0, .ref q1), (1, .ref (gk g k)), (2, .int (nI a)), (3, .int (nI z))]) hx hb d_Txt_nameAmong_70 hl (by decide) rfl (fun ls hl => ?_)
          have hM : ¬ nmM tx a z w := fun q => c8 (by rw [hj]; exact q.1)
          have h4 := h4.trans (nmF_f hM)
          refine lv_goto (tgt := 98) hx hb d_Txt_nameAmong_72 (by decide) ?_
          refine lv_iinc (v := (nI ((st + j) + 1))) (lv' := [(7, .int (nI ((st + j) + 1))), (6, .int (nI 1)), (5, .int (nI ((st + j) + 1))), (4, .int (nI (nm + 1))), (0, .ref q1), (1, .ref (gk g k)), (2, .int (nI a)), (3, .int (nI z))]) hx hb d_Txt_nameAmong_98 hl (k := 3) rfl (nI_1 _) (by decide) rfl (fun ls hl => ?_)
          refine lv_goto (tgt := 12) hx hb d_Txt_nameAmong_101 (by decide) ?_
          refine lv_iload hx hb d_Txt_nameAmong_12 (lv_at hl 0 rfl) ?_
          refine lv_aload_n hx hb d_Txt_nameAmong_14 rfl (lv_at hl 5 rfl) ?_
          refine sd_ri (va_runV (As := []) (rest := [.int (nI ((st + j) + 1))]) ⟨hx, hb, hml, hown, hts⟩ (c_JS_length l g k hk) (cwV 0 hts (sd_gV k_253 k_254 k_255 k_31 k_256) rfl rfl rfl (by decide +kernel) ⟨Nat.le_of_ble_eq_true rfl, Nat.le_of_ble_eq_true rfl⟩) (sd_preStr hK hE hF hk) rfl rfl hl.1 rfl (lv_room (Nat.le_of_ble_eq_true rfl)) d_Txt_nameAmong_15 ⟨Nat.zero_le _, Nat.zero_le _⟩) (fun r9 er9 => ?_)
          subst er9
          refine lv_icmp_gt (tgt := 104) hx hb d_Txt_nameAmong_18 (by decide) (fun c10 => ?_) (fun c10 => ?_)
          · have c10 := (nI_ltI (by omega) (by omega)).mp c10
            refine lv_iconst (v := (-1)) hx hb d_Txt_nameAmong_104 (by decide) ?_
            exact W.iret (v := (-1)) hx hb hr  (fun t ht hW => ⟨_, rfl, h4.symm, ht⟩) (fun _ h => by cases h) d_Txt_nameAmong_105
          · have c10 := mt (nI_ltI (by omega) (by omega)).mpr c10
            exact absurd c10 (by omega)
        · have c8 := (sd_subEq (by omega) (by omega) (by omega)).mp c8
          refine lv_iload hx hb d_Txt_nameAmong_57 (lv_at hl 3 rfl) ?_
          exact W.iret (v := (nI nm)) hx hb hr  (fun t ht hW => ⟨_, rfl, by rw [h4]; exact (nmF_t ⟨by omega, fun t ht => c5 t (by omega)⟩).symm, ht⟩) (fun _ h => by cases h) d_Txt_nameAmong_59
    · have c4 := mt (nI_eq (by omega) (by omega)).mpr c4
      refine lv_aload_n hx hb d_Txt_nameAmong_30 rfl (lv_at hl 5 rfl) ?_
      refine lv_iload hx hb d_Txt_nameAmong_31 (lv_at hl 0 rfl) ?_
      refine sd_ri (va_runV (As := [.int (nI (st + j))]) (rest := []) ⟨hx, hb, hml, hown, hts⟩ (c_JS_charAt l g k hk (st + j) (by omega)) (cwV 1 hts (sd_gV k_263 k_264 k_265 k_31 k_266) rfl rfl rfl (by decide +kernel) ⟨Nat.le_of_ble_eq_true rfl, Nat.le_of_ble_eq_true rfl⟩) (sd_preStr hK hE hF hk) rfl rfl hl.1 rfl (lv_room (Nat.le_of_ble_eq_true rfl)) d_Txt_nameAmong_33 ⟨Nat.zero_le _, Nat.zero_le _⟩) (fun r11 er11 => ?_)
      subst er11
      have hc8 := (sd_cn_ok k hk (st + j) (by omega)).2.1
      refine lv_bipush (v := (nI 32)) hx hb d_Txt_nameAmong_36 (by decide) ?_
      have hcj : sd_cn k (st + j) = (nmStr (w :: rest)).getD j 0 := nmS_at h1
      refine lv_icmp_ne (tgt := 75) hx hb d_Txt_nameAmong_38 (by decide) (fun c12 => ?_) (fun c12 => ?_)
      · have c12 := mt (nI_eq (by omega) (by omega)).mpr c12
        have hj : j < w.length := by
          rcases Nat.lt_or_ge j w.length with q | q
          · exact q
          · have e1 : j = w.length := by omega
            cases rest with
            | nil => rw [nmS_len1] at h6; omega
            | cons x y => rw [e1, nmS_sep] at hcj; exact absurd (e1 ▸ hcj) c12
        rw [nmS_in hj] at hcj
        refine lv_aload_n hx hb d_Txt_nameAmong_75 rfl (lv_at hl 5 rfl) ?_
        refine lv_iload hx hb d_Txt_nameAmong_76 (lv_at hl 0 rfl) ?_
        refine sd_ri (va_runV (As := [.int (nI (st + j))]) (rest := []) ⟨hx, hb, hml, hown, hts⟩ (c_JS_charAt l g k hk (st + j) (by omega)) (cwV 1 hts (sd_gV k_263 k_264 k_265 k_31 k_266) rfl rfl rfl (by decide +kernel) ⟨Nat.le_of_ble_eq_true rfl, Nat.le_of_ble_eq_true rfl⟩) (sd_preStr hK hE hF hk) rfl rfl hl.1 rfl (lv_room (Nat.le_of_ble_eq_true rfl)) d_Txt_nameAmong_78 ⟨Nat.zero_le _, Nat.zero_le _⟩) (fun r13 er13 => ?_)
        subst er13
        have hc8 := (sd_cn_ok k hk (st + j) (by omega)).2.1
        refine lv_aload_n hx hb d_Txt_nameAmong_81 rfl (lv_at hl 4 rfl) ?_
        refine lv_iload_n hx hb d_Txt_nameAmong_82 rfl (lv_at hl 6 rfl) ?_
        refine lv_iload hx hb d_Txt_nameAmong_83 (lv_at hl 0 rfl) ?_
        refine lv_iadd hx hb d_Txt_nameAmong_85 ?_
        refine sd_topi (y := nI (a + (st + j))) (nI_add _ _) ?_
        refine lv_iload hx hb d_Txt_nameAmong_86 (lv_at hl 2 rfl) ?_
        refine lv_isub hx hb d_Txt_nameAmong_88 ?_
        refine sd_topi (y := nI (a + j)) (by rw [pk_sub (by omega)]; congr 1; omega) ?_
        refine sd_ri (va_runV (As := [.int (nI (a + j))]) (rest := [.int (nI (sd_cn k (st + j)))]) ⟨hx, hb, hml, hown, hts⟩ (c_Txt_byteAt l g q1 q5 n f tx hT (a + j) (by omega)) (cwV 1 hts (sd_gV k_200 k_201 k_202 k_24 k_203) rfl rfl rfl (by decide +kernel) ⟨Nat.le_of_ble_eq_true rfl, Nat.le_of_ble_eq_true rfl⟩) (sd_preV hK hE hF (hP.sub (ws' := [(q1, .inr (6, [.ref q5, .int (nI n)])), (q5, .inl (gB g, 2000, .inl f))]) [0, 1] rfl) rfl rfl) rfl rfl hl.1 rfl (lv_room (Nat.le_of_ble_eq_true rfl)) d_Txt_nameAmong_89 ⟨Nat.zero_le _, Nat.zero_le _⟩) (fun r14 er14 => ?_)
        subst er14
        have hb8i := hb8 (a + j)
        refine lv_icmp_eq (tgt := 98) hx hb d_Txt_nameAmong_92 (by decide) (fun c15 => ?_) (fun c15 => ?_)
        · have c15 := (nI_eq (by omega) (by omega)).mp c15
          refine lv_iinc (v := (nI ((st + j) + 1))) (lv' := [(7, .int (nI ((st + j) + 1))), (6, .int (sb (∀ t, t < j → w.getD t 0 = tx (a + t)))), (5, .int (nI st)), (4, .int (nI nm)), (0, .ref q1), (1, .ref (gk g k)), (2, .int (nI a)), (3, .int (nI z))]) hx hb d_Txt_nameAmong_98 hl (k := 0) rfl (nI_1 _) (by decide) rfl (fun ls hl => ?_)
          refine lv_goto (tgt := 12) hx hb d_Txt_nameAmong_101 (by decide) ?_
          exact ih (nm, st, w, rest, j + 1) _ ⟨by
              have e1 : sb (∀ t, t < j + 1 → w.getD t 0 = tx (a + t)) = sb (∀ t, t < j → w.getD t 0 = tx (a + t)) := sb_congr ⟨fun q t ht => q t (by omega), fun q t ht => by
                rcases Nat.lt_or_ge t j with y | y
                · exact q t y
                · have : t = j := by omega
                  subst this; rw [← hcj]; exact c15⟩
              show lv_has _ _ [(7, .int (nI (st + (j + 1)))), (6, .int (sb (∀ t, t < j + 1 → w.getD t 0 = tx (a + t)))), _, _, _, _, _, _]
              rw [e1]
              exact lv_sub hl [0, 1, 2, 3, 4, 5, 6, 7] rfl, h1, by omega, h3, h4, h5, h6⟩ (show sd_len.getD k 0 + 1 - (st + (j + 1)) < sd_len.getD k 0 + 1 - (st + j) by omega)
        · have c15 := mt (nI_eq (by omega) (by omega)).mpr c15
          refine lv_iconst (v := (nI 0)) hx hb d_Txt_nameAmong_95 (by decide) ?_
          refine lv_istore (lv' := [(6, .int (nI 0)), (7, .int (nI (st + j))), (5, .int (nI st)), (4, .int (nI nm)), (0, .ref q1), (1, .ref (gk g k)), (2, .int (nI a)), (3, .int (nI z))]) hx hb d_Txt_nameAmong_96 hl (by decide) rfl (fun ls hl => ?_)
          refine lv_iinc (v := (nI ((st + j) + 1))) (lv' := [(7, .int (nI ((st + j) + 1))), (6, .int (nI 0)), (5, .int (nI st)), (4, .int (nI nm)), (0, .ref q1), (1, .ref (gk g k)), (2, .int (nI a)), (3, .int (nI z))]) hx hb d_Txt_nameAmong_98 hl (k := 1) rfl (nI_1 _) (by decide) rfl (fun ls hl => ?_)
          refine lv_goto (tgt := 12) hx hb d_Txt_nameAmong_101 (by decide) ?_
          exact ih (nm, st, w, rest, j + 1) _ ⟨by
              have e1 : sb (∀ t, t < j + 1 → w.getD t 0 = tx (a + t)) = nI 0 := sb_f (fun q => c15 (hcj.trans (q j (by omega))))
              show lv_has _ _ [(7, .int (nI (st + (j + 1)))), (6, .int (sb (∀ t, t < j + 1 → w.getD t 0 = tx (a + t)))), _, _, _, _, _, _]
              rw [e1]
              exact lv_sub hl [0, 1, 2, 3, 4, 5, 6, 7] rfl, h1, by omega, h3, h4, h5, h6⟩ (show sd_len.getD k 0 + 1 - (st + (j + 1)) < sd_len.getD k 0 + 1 - (st + j) by omega)
      · have c12 := (nI_eq (by omega) (by omega)).mp c12
        have hj : j = w.length := by
          rcases Nat.lt_or_ge j w.length with q | q
          · rw [nmS_in q] at hcj
            exact absurd (hcj.symm.trans c12) (h3 w List.mem_cons_self _ (by
              rw [List.getD_eq_getElem?_getD, List.getElem?_eq_getElem q]; exact List.getElem_mem q))
          · omega
        obtain ⟨w2, ws, rfl⟩ : ∃ w2 ws, rest = w2 :: ws := by
          cases rest with
          | nil => rw [nmS_len1] at h6; omega
          | cons x y => exact ⟨x, y, rfl⟩
        refine lv_iload hx hb d_Txt_nameAmong_41 (lv_at hl 1 rfl) ?_
        refine lv_if_eq (tgt := 60) hx hb d_Txt_nameAmong_43 (by decide) (fun c16 => ?_) (fun c16 => ?_)
        · have c16 := sb_eq0.mp c16
          refine lv_iinc (v := (nI (nm + 1))) (lv' := [(4, .int (nI (nm + 1))), (7, .int (nI (st + j))), (6, .int (sb (∀ t, t < j → w.getD t 0 = tx (a + t)))), (5, .int (nI st)), (0, .ref q1), (1, .ref (gk g k)), (2, .int (nI a)), (3, .int (nI z))]) hx hb d_Txt_nameAmong_60 hl (k := 3) rfl (nI_1 _) (by decide) rfl (fun ls hl => ?_)
          refine lv_iload hx hb d_Txt_nameAmong_63 (lv_at hl 1 rfl) ?_
          refine lv_iconst (v := (nI 1)) hx hb d_Txt_nameAmong_65 (by decide) ?_
          refine lv_iadd hx hb d_Txt_nameAmong_66 ?_
          refine sd_topi (y := nI ((st + j) + 1)) (nI_add _ _) ?_
          refine lv_istore (lv' := [(5, .int (nI ((st + j) + 1))), (4, .int (nI (nm + 1))), (7, .int (nI (st + j))), (6, .int (sb (∀ t, t < j → w.getD t 0 = tx (a + t)))), (0, .ref q1), (1, .ref (gk g k)), (2, .int (nI a)), (3, .int (nI z))]) hx hb d_Txt_nameAmong_67 hl (by decide) rfl (fun ls hl => ?_)
          refine lv_iconst (v := (nI 1)) hx hb d_Txt_nameAmong_69 (by decide) ?_
          refine lv_istore (lv' := [(6, .int (nI 1)), (5, .int (nI ((st + j) + 1))), (4, .int (nI (nm + 1))), (7, .int (nI (st + j))), (0, .ref q1), (1, .ref (gk g k)), (2, .int (nI a)), (3, .int (nI z))]) hx hb d_Txt_nameAmong_70 hl (by decide) rfl (fun ls hl => ?_)
          have hM : ¬ nmM tx a z w := fun q => c16 (fun t ht => q.2 t (by omega))
          have h4 := h4.trans (nmF_f hM)
          refine lv_goto (tgt := 98) hx hb d_Txt_nameAmong_72 (by decide) ?_
          refine lv_iinc (v := (nI ((st + j) + 1))) (lv' := [(7, .int (nI ((st + j) + 1))), (6, .int (nI 1)), (5, .int (nI ((st + j) + 1))), (4, .int (nI (nm + 1))), (0, .ref q1), (1, .ref (gk g k)), (2, .int (nI a)), (3, .int (nI z))]) hx hb d_Txt_nameAmong_98 hl (k := 3) rfl (nI_1 _) (by decide) rfl (fun ls hl => ?_)
          refine lv_goto (tgt := 12) hx hb d_Txt_nameAmong_101 (by decide) ?_
          exact ih (nm + 1, st + j + 1, w2, ws, 0) _ ⟨by
              have e1 : sb (∀ t, t < 0 → w2.getD t 0 = tx (a + t)) = nI 1 := sb_t (fun t h => absurd h (Nat.not_lt_zero t))
              show lv_has _ _ [(7, .int (nI (st + j + 1 + 0))), (6, .int (sb (∀ t, t < 0 → w2.getD t 0 = tx (a + t)))), _, _, _, _, _, _]
              rw [e1]
              exact lv_sub hl [0, 1, 2, 3, 4, 5, 6, 7] rfl, by
              rw [hj, Nat.add_assoc, ← List.drop_drop, h1]; exact nmS_drop, Nat.zero_le _, fun v hv => h3 v (List.mem_cons_of_mem _ hv), h4, by omega, by rw [nmS_len2] at h6; omega⟩ (show sd_len.getD k 0 + 1 - (st + j + 1 + 0) < sd_len.getD k 0 + 1 - (st + j) by omega)
        · have c16 := sb_ne0.mp c16
          refine lv_iload hx hb d_Txt_nameAmong_46 (lv_at hl 0 rfl) ?_
          refine lv_iload hx hb d_Txt_nameAmong_48 (lv_at hl 2 rfl) ?_
          refine lv_isub hx hb d_Txt_nameAmong_50 ?_
          refine sd_topi (y := nI j) (by rw [pk_sub (by omega)]; congr 1; omega) ?_
          refine lv_iload_n hx hb d_Txt_nameAmong_51 rfl (lv_at hl 7 rfl) ?_
          refine lv_iload_n hx hb d_Txt_nameAmong_52 rfl (lv_at hl 6 rfl) ?_
          refine lv_isub hx hb d_Txt_nameAmong_53 ?_
          refine lv_icmp_ne (tgt := 60) hx hb d_Txt_nameAmong_54 (by decide) (fun c17 => ?_) (fun c17 => ?_)
          · have c17 := mt (sd_subEq (by omega) (by omega) (by omega)).mpr c17
            refine lv_iinc (v := (nI (nm + 1))) (lv' := [(4, .int (nI (nm + 1))), (7, .int (nI (st + j))), (6, .int (sb (∀ t, t < j → w.getD t 0 = tx (a + t)))), (5, .int (nI st)), (0, .ref q1), (1, .ref (gk g k)), (2, .int (nI a)), (3, .int (nI z))]) hx hb d_Txt_nameAmong_60 hl (k := 3) rfl (nI_1 _) (by decide) rfl (fun ls hl => ?_)
            refine lv_iload hx hb d_Txt_nameAmong_63 (lv_at hl 1 rfl) ?_
            refine lv_iconst (v := (nI 1)) hx hb d_Txt_nameAmong_65 (by decide) ?_
            refine lv_iadd hx hb d_Txt_nameAmong_66 ?_
            refine sd_topi (y := nI ((st + j) + 1)) (nI_add _ _) ?_
            refine lv_istore (lv' := [(5, .int (nI ((st + j) + 1))), (4, .int (nI (nm + 1))), (7, .int (nI (st + j))), (6, .int (sb (∀ t, t < j → w.getD t 0 = tx (a + t)))), (0, .ref q1), (1, .ref (gk g k)), (2, .int (nI a)), (3, .int (nI z))]) hx hb d_Txt_nameAmong_67 hl (by decide) rfl (fun ls hl => ?_)
            refine lv_iconst (v := (nI 1)) hx hb d_Txt_nameAmong_69 (by decide) ?_
            refine lv_istore (lv' := [(6, .int (nI 1)), (5, .int (nI ((st + j) + 1))), (4, .int (nI (nm + 1))), (7, .int (nI (st + j))), (0, .ref q1), (1, .ref (gk g k)), (2, .int (nI a)), (3, .int (nI z))]) hx hb d_Txt_nameAmong_70 hl (by decide) rfl (fun ls hl => ?_)
            have hM : ¬ nmM tx a z w := fun q => c17 (by rw [hj]; exact q.1)
            have h4 := h4.trans (nmF_f hM)
            refine lv_goto (tgt := 98) hx hb d_Txt_nameAmong_72 (by decide) ?_
            refine lv_iinc (v := (nI ((st + j) + 1))) (lv' := [(7, .int (nI ((st + j) + 1))), (6, .int (nI 1)), (5, .int (nI ((st + j) + 1))), (4, .int (nI (nm + 1))), (0, .ref q1), (1, .ref (gk g k)), (2, .int (nI a)), (3, .int (nI z))]) hx hb d_Txt_nameAmong_98 hl (k := 3) rfl (nI_1 _) (by decide) rfl (fun ls hl => ?_)
            refine lv_goto (tgt := 12) hx hb d_Txt_nameAmong_101 (by decide) ?_
            exact ih (nm + 1, st + j + 1, w2, ws, 0) _ ⟨by
                have e1 : sb (∀ t, t < 0 → w2.getD t 0 = tx (a + t)) = nI 1 := sb_t (fun t h => absurd h (Nat.not_lt_zero t))
                show lv_has _ _ [(7, .int (nI (st + j + 1 + 0))), (6, .int (sb (∀ t, t < 0 → w2.getD t 0 = tx (a + t)))), _, _, _, _, _, _]
                rw [e1]
                exact lv_sub hl [0, 1, 2, 3, 4, 5, 6, 7] rfl, by
                rw [hj, Nat.add_assoc, ← List.drop_drop, h1]; exact nmS_drop, Nat.zero_le _, fun v hv => h3 v (List.mem_cons_of_mem _ hv), h4, by omega, by rw [nmS_len2] at h6; omega⟩ (show sd_len.getD k 0 + 1 - (st + j + 1 + 0) < sd_len.getD k 0 + 1 - (st + j) by omega)
          · have c17 := (sd_subEq (by omega) (by omega) (by omega)).mp c17
            refine lv_iload hx hb d_Txt_nameAmong_57 (lv_at hl 3 rfl) ?_
            exact W.iret (v := (nI nm)) hx hb hr  (fun t ht hW => ⟨_, rfl, by rw [h4]; exact (nmF_t ⟨by omega, fun t ht => c16 t (by omega)⟩).symm, ht⟩) (fun _ h => by cases h) d_Txt_nameAmong_59
