def sd_k7 : List (List Nat × Nat) := [([83, 80], 0), ([76, 67, 76], 1), ([65, 82, 71], 2), ([84, 72, 73, 83], 3), ([84, 72, 65, 84], 4), ([83, 67, 82, 69, 69, 78], 16384), ([75, 66, 68], 24576)]
theorem sd_k7_in : ∀ p, p ∈ sd_k7 → p ∈ sd_known := by decide +kernel
theorem sd_known_fun : ∀ p, p ∈ sd_known → ∀ q, q ∈ sd_known → p.1 = q.1 → p.2 = q.2 := by decide +kernel
theorem sd_k7_v : ∀ j, j < 5 → (sd_k7.getD j ([], 0)).2 = j := by decide +kernel
theorem sd_R1 : ∀ v, v < 10 → ([82, 48 + v], v) ∈ sd_known := by decide +kernel
theorem sd_R2 : ∀ v, v < 6 → ([82, 49, 48 + v], 10 + v) ∈ sd_known := by decide +kernel
theorem sd_known_all : sd_known.all (fun p => sd_k7.contains p || (List.range 10).any (fun v => p.1 == [82, 48 + v]) || (List.range 6).any (fun v => p.1 == [82, 49, 48 + v])) = true := by decide +kernel
theorem sd_known_cases {p : List Nat × Nat} (hp : p ∈ sd_known) : p ∈ sd_k7 ∨ (∃ v, v < 10 ∧ p.1 = [82, 48 + v]) ∨ (∃ v, v < 6 ∧ p.1 = [82, 49, 48 + v]) := by
  have h := List.all_eq_true.mp sd_known_all p hp
  simp only [Bool.or_eq_true, List.contains_iff_mem, List.any_eq_true, List.mem_range, beq_iff_eq] at h
  rcases h with (h | ⟨v, h1, h2⟩) | ⟨v, h1, h2⟩
  · exact Or.inl h
  · exact Or.inr (Or.inl ⟨v, h1, h2⟩)
  · exact Or.inr (Or.inr ⟨v, h1, h2⟩)
theorem knK_of {tx : Nat → Nat} {a z : Nat} {p : List Nat × Nat} (hp : p ∈ sd_known) (hM : nmM tx a z p.1) : knK tx a z = p.2 + 1 :=
  lk_some hp hM (fun q hq hMq => sd_known_fun q hq p hp (nmM_inj hMq hM))
theorem lk_zero {M : List Nat → Prop} {ps : List (List Nat × Nat)} (h : lk M ps = 0) : ∀ p, p ∈ ps → ¬ M p.1 := by
  induction ps with
  | nil => intro p hp; cases hp
  | cons x ps ih =>
    intro p hp q
    by_cases e : M x.1
    · rw [lk_t e] at h; omega
    · rw [lk_f e] at h
      rcases List.mem_cons.mp hp with r | r
      · exact e (r ▸ q)
      · exact ih h p r q
theorem knK_none {tx : Nat → Nat} {a c : Nat} (h7 : lk (nmM tx a (a + c)) sd_k7 = 0) (hA : ¬ (c = 2 ∧ tx a = 82 ∧ 48 ≤ tx (a + 1) ∧ tx (a + 1) ≤ 57)) (hB : ¬ (c = 3 ∧ tx a = 82 ∧ tx (a + 1) = 49 ∧ 48 ≤ tx (a + 2) ∧ tx (a + 2) ≤ 53)) : knK tx a (a + c) = 0 := by
  refine lk_none (fun p hp hM => ?_)
  rcases sd_known_cases hp with h | ⟨v, h1, h2⟩ | ⟨v, h1, h2⟩
  · exact lk_zero h7 p h hM
  · rw [h2] at hM
    have e0 : 82 = tx (a + 0) := hM.2 0 (show 0 < 2 by decide)
    have e1 : 48 + v = tx (a + 1) := hM.2 1 (show 1 < 2 by decide)
    have e2 : a + 2 = a + c := hM.1
    exact hA ⟨by omega, e0.symm, by omega, by omega⟩
  · rw [h2] at hM
    have e0 : 82 = tx (a + 0) := hM.2 0 (show 0 < 3 by decide)
    have e1 : 49 = tx (a + 1) := hM.2 1 (show 1 < 3 by decide)
    have e3 : 48 + v = tx (a + 2) := hM.2 2 (show 2 < 3 by decide)
    have e2 : a + 3 = a + c := hM.1
    exact hB ⟨by omega, e0.symm, e1.symm, by omega, by omega⟩
theorem sd_dest_ne : ∀ p, p ∈ sd_dest → 1 ≤ p.1.length := by decide +kernel
theorem sd_jump_3 : ∀ p, p ∈ sd_jump → p.1.length = 3 := by decide +kernel
set_option maxHeartbeats 4000000 in
set_option maxRecDepth 100000 in
/-- knownOf(a, c) -/
theorem c_Mod_knownOf (l : Launch) (g : sdG) (m0 mtt mcd mat msz mvl mcs mmm mkn mjp mds : Nat) (tk9 sz9 pl9 wd9 sy9 ra rd nx9 dn : Int32) (kf : Nat → Int32) (hRk : rowOK 32 kf (sd_k7.map Prod.fst)) (n : Nat) (tf : Nat → Int32) (tx : Nat → Nat) (hT : MTok n tf tx) (a cn : Nat) (hc1 : 1 ≤ cn) (hac : a + cn ≤ n) (htk : ∀ j, a ≤ j → j < a + cn → ¬ tx j = 32) : Met l y_Mod_knownOf (.code y_Mod_knownOf b_Mod_knownOf 5 (some .int) :: sdT) ({ frames := 1, cells := 0, slots := 0, locals := 26 }) (va_Pc [.ref m0, .int (nI a), .int (nI cn)] (sdR g [(m0, .inr (8, [.ref mtt, .int tk9, .int sz9, .int pl9, .int wd9, .ref mcd, .int sy9, .ref mat, .ref msz, .ref mvl, .ref mcs, .ref mmm, .int ra, .int rd, .int nx9, .int dn, .ref mkn, .ref mjp, .ref mds])), (mtt, .inl (gI g, 2000, .inl tf)), (mkn, .inl (gC g, 32, .inl kf))])) (vp_Si (fun r => r = nI (knK tx a (a + cn)) - 1)) 0 0 (fun _ => False) := by
  refine Met.ofW (cc := b_Mod_knownOf) (maxL := 5) (ret := (some .int)) (by decide) rfl ?_
  intro p ev s m args below meth c s₁ B hml hv
  obtain ⟨rfl, hP, hK, hE⟩ := hv
  have hx := B.exec
  have hb := B.bytes
  have hr := B.returns
  have hts := fun (w : Cond) (h : w ∈ sdT) => atoms_spec (ws := (.code y_Mod_knownOf b_Mod_knownOf 5 (some .int) :: sdT)) B.pre w (List.mem_cons_of_mem _ h)
  have hown : s.vm.findClass "SignDeskModel" = some m.cls := findClass_of_methodNamed B.named
  have hlocks := B.notSynchronized
  have hF : ∀ a : Nat, a < s.heap.size → ¬ sdA g a → s.heap[a]? = s.heap[a]? := fun _ _ _ => rfl
  have hP : sdP g [(m0, .inr (8, [.ref mtt, .int tk9, .int sz9, .int pl9, .int wd9, .ref mcd, .int sy9, .ref mat, .ref msz, .ref mvl, .ref mcs, .ref mmm, .int ra, .int rd, .int nx9, .int dn, .ref mkn, .ref mjp, .ref mds])), (mtt, .inl (gI g, 2000, .inl tf)), (mkn, .inl (gC g, 32, .inl kf))] s.heap := hP
  have hl := lv_entry ([.ref m0, .int (nI a), .int (nI cn)]) (n := 5) (Nat.le_of_ble_eq_true rfl)
  rw [lg_entry_eq]
  generalize (lg_sl ([.ref m0, .int (nI a), .int (nI cn)]) ++ List.replicate (5 - (lg_sl ([.ref m0, .int (nI a), .int (nI cn)])).length) Slot.unset).toArray = ls at hl ⊢
  have hl : lv_has ls 5 [(0, .ref m0), (1, .int (nI a)), (2, .int (nI cn))] := hl
  have hn := hT.1
  have hb8 := hT.2.1
  refine lv_aload_n hx hb d_Mod_knownOf_0 rfl (lv_at hl 0 rfl) ?_
  refine lv_aload_n hx hb d_Mod_knownOf_1 rfl (lv_at hl 0 rfl) ?_
  refine va_get (D := g.1) (ci := 8) (v := .ref mkn) (C := "SignDeskModel") (T := F_Mod) (N := 19) hx hb hts in_Mod hown hK hP 0 rfl rfl 16 (by decide) (hts _ k_510) (fun _ h9 => h9) rfl d_Mod_knownOf_2 ?_
  refine lv_iload_n hx hb d_Mod_knownOf_5 rfl (lv_at hl 1 rfl) ?_
  refine lv_iload_n hx hb d_Mod_knownOf_6 rfl (lv_at hl 2 rfl) ?_
  refine sd_ri (va_runV (As := [.ref mkn, .int (nI a), .int (nI cn)]) (rest := []) ⟨hx, hb, hml, hown, hts⟩ (c_Mod_wordOf l g m0 mtt mcd mat msz mvl mcs mmm mkn mjp mds tk9 sz9 pl9 wd9 sy9 ra rd nx9 dn mkn 32 kf (sd_k7.map Prod.fst) hRk n tf tx hT a cn hac htk) (cwV 3 hts (sd_gV k_604 k_606 k_15 k_30 k_607) rfl rfl rfl (by decide +kernel) ⟨Nat.le_of_ble_eq_true rfl, Nat.le_of_ble_eq_true rfl⟩) (sd_preV hK hE hF (hP.sub (ws' := [(m0, .inr (8, [.ref mtt, .int tk9, .int sz9, .int pl9, .int wd9, .ref mcd, .int sy9, .ref mat, .ref msz, .ref mvl, .ref mcs, .ref mmm, .int ra, .int rd, .int nx9, .int dn, .ref mkn, .ref mjp, .ref mds])), (mtt, .inl (gI g, 2000, .inl tf)), (mkn, .inl (gC g, 32, .inl kf))]) [0, 1, 2] rfl) rfl rfl) rfl rfl hl.1 rfl (lv_room (Nat.le_of_ble_eq_true rfl)) d_Mod_knownOf_7 ⟨Nat.zero_le _, Nat.zero_le _⟩) (fun r1 er1 => ?_)
  subst er1
  rcases nmF_lk (M := (nmM tx a (a + cn))) sd_k7 0 with ⟨e1, e2⟩ | ⟨j, hj, e1, e2⟩
  · refine sd_topi (y := -1) (e1) ?_
    refine lv_istore_n (lv' := [(3, .int (-1)), (0, .ref m0), (1, .int (nI a)), (2, .int (nI cn))]) hx hb d_Mod_knownOf_10 rfl hl (by decide) rfl (fun ls hl => ?_)
    refine lv_iload_n hx hb d_Mod_knownOf_11 rfl (lv_at hl 0 rfl) ?_
    refine lv_if_lt (tgt := 39) hx hb d_Mod_knownOf_12 (by decide) (fun c2 => ?_) (fun c2 => ?_)
    · refine lv_aload_n hx hb d_Mod_knownOf_39 rfl (lv_at hl 1 rfl) ?_
      refine va_get (D := g.1) (ci := 8) (v := .ref mtt) (C := "SignDeskModel") (T := F_Mod) (N := 19) hx hb hts in_Mod hown hK hP 0 rfl rfl 0 (by decide) (hts _ k_494) (fun _ h9 => h9) rfl d_Mod_knownOf_40 ?_
      refine lv_iload_n hx hb d_Mod_knownOf_43 rfl (lv_at hl 2 rfl) ?_
      refine va_iald hx hb hK hP 1 1 rfl rfl (i := (nI a)) (vp_in_nI (by omega) (by omega)) d_Mod_knownOf_44 ?_
      refine sd_topi (y := nI (tx (a))) (by rw [nI_clamp (by omega)]; exact hT.2.2.1 _ (by omega)) ?_
      have hb8i := hb8 (a)
      refine lv_bipush (v := (nI 82)) hx hb d_Mod_knownOf_45 (by decide) ?_
      refine lv_icmp_ne (tgt := 93) hx hb d_Mod_knownOf_47 (by decide) (fun c3 => ?_) (fun c3 => ?_)
      · have c3 := mt (nI_eq (by omega) (by omega)).mpr c3
        refine lv_iconst (v := (-1)) hx hb d_Mod_knownOf_93 (by decide) ?_
        exact W.iret (v := (-1)) hx hb hr  (fun t ht hW => ⟨_, rfl, by rw [knK_none e2 (by omega) (by omega)]; decide, ht⟩) (fun _ h => by cases h) d_Mod_knownOf_94
      · have c3 := (nI_eq (by omega) (by omega)).mp c3
        refine lv_iload_n hx hb d_Mod_knownOf_50 rfl (lv_at hl 3 rfl) ?_
        refine lv_iconst (v := (nI 2)) hx hb d_Mod_knownOf_51 (by decide) ?_
        refine lv_icmp_lt (tgt := 93) hx hb d_Mod_knownOf_52 (by decide) (fun c4 => ?_) (fun c4 => ?_)
        · have c4 := (nI_ltI (by omega) (by omega)).mp c4
          refine lv_iconst (v := (-1)) hx hb d_Mod_knownOf_93 (by decide) ?_
          exact W.iret (v := (-1)) hx hb hr  (fun t ht hW => ⟨_, rfl, by rw [knK_none e2 (by omega) (by omega)]; decide, ht⟩) (fun _ h => by cases h) d_Mod_knownOf_94
        · have c4 := mt (nI_ltI (by omega) (by omega)).mpr c4
          refine lv_iload_n hx hb d_Mod_knownOf_55 rfl (lv_at hl 3 rfl) ?_
          refine lv_iconst (v := (nI 3)) hx hb d_Mod_knownOf_56 (by decide) ?_
          refine lv_icmp_gt (tgt := 93) hx hb d_Mod_knownOf_57 (by decide) (fun c5 => ?_) (fun c5 => ?_)
          · have c5 := (nI_ltI (by omega) (by omega)).mp c5
            refine lv_iconst (v := (-1)) hx hb d_Mod_knownOf_93 (by decide) ?_
            exact W.iret (v := (-1)) hx hb hr  (fun t ht hW => ⟨_, rfl, by rw [knK_none e2 (by omega) (by omega)]; decide, ht⟩) (fun _ h => by cases h) d_Mod_knownOf_94
          · have c5 := mt (nI_ltI (by omega) (by omega)).mpr c5
            refine lv_aload_n hx hb d_Mod_knownOf_60 rfl (lv_at hl 1 rfl) ?_
            refine va_get (D := g.1) (ci := 8) (v := .ref mtt) (C := "SignDeskModel") (T := F_Mod) (N := 19) hx hb hts in_Mod hown hK hP 0 rfl rfl 0 (by decide) (hts _ k_494) (fun _ h9 => h9) rfl d_Mod_knownOf_61 ?_
            refine lv_iload_n hx hb d_Mod_knownOf_64 rfl (lv_at hl 2 rfl) ?_
            refine lv_iconst (v := (nI 1)) hx hb d_Mod_knownOf_65 (by decide) ?_
            refine lv_iadd hx hb d_Mod_knownOf_66 ?_
            refine sd_topi (y := nI (a + 1)) (nI_add _ _) ?_
            refine va_iald hx hb hK hP 1 1 rfl rfl (i := (nI (a + 1))) (vp_in_nI (by omega) (by omega)) d_Mod_knownOf_67 ?_
            refine sd_topi (y := nI (tx (a + 1))) (by rw [nI_clamp (by omega)]; exact hT.2.2.1 _ (by omega)) ?_
            have hb8i := hb8 (a + 1)
            refine sd_ri (va_runS (As := [.int (nI (tx (a + 1)))]) (rest := []) ⟨hx, hb, hml, hown, hts⟩ (c_Mod_isDigit l (tx (a + 1)) (hb8 _)) (va_cwS 1 hts (sd_gS k_588 k_589 k_30 k_590) rfl rfl rfl (by decide +kernel) ⟨Nat.le_of_ble_eq_true rfl, Nat.le_of_ble_eq_true rfl⟩) preEq rfl rfl hl.1 rfl (lv_room (Nat.le_of_ble_eq_true rfl)) d_Mod_knownOf_68 ⟨Nat.zero_le _, Nat.zero_le _⟩) (fun r6 er6 => ?_)
            subst er6
            have hb81 := hb8 (a + 1)
            refine lv_if_eq (tgt := 93) hx hb d_Mod_knownOf_71 (by decide) (fun c7 => ?_) (fun c7 => ?_)
            · have c7 := sb_eq0.mp c7
              refine lv_iconst (v := (-1)) hx hb d_Mod_knownOf_93 (by decide) ?_
              exact W.iret (v := (-1)) hx hb hr  (fun t ht hW => ⟨_, rfl, by rw [knK_none e2 (by omega) (by omega)]; decide, ht⟩) (fun _ h => by cases h) d_Mod_knownOf_94
            · have c7 := sb_ne0.mp c7
              refine lv_iload_n hx hb d_Mod_knownOf_74 rfl (lv_at hl 3 rfl) ?_
              refine lv_iconst (v := (nI 3)) hx hb d_Mod_knownOf_75 (by decide) ?_
              refine lv_icmp_ne (tgt := 95) hx hb d_Mod_knownOf_76 (by decide) (fun c8 => ?_) (fun c8 => ?_)
              · have c8 := mt (nI_eq (by omega) (by omega)).mpr c8
                refine lv_iload_n hx hb d_Mod_knownOf_95 rfl (lv_at hl 3 rfl) ?_
                refine lv_iconst (v := (nI 2)) hx hb d_Mod_knownOf_96 (by decide) ?_
                refine lv_icmp_ne (tgt := 114) hx hb d_Mod_knownOf_97 (by decide) (fun c9 => ?_) (fun c9 => ?_)
                · have c9 := mt (nI_eq (by omega) (by omega)).mpr c9
                  exact absurd (show cn = 2 by omega) c9
                · have c9 := (nI_eq (by omega) (by omega)).mp c9
                  refine lv_aload_n hx hb d_Mod_knownOf_100 rfl (lv_at hl 1 rfl) ?_
                  refine va_get (D := g.1) (ci := 8) (v := .ref mtt) (C := "SignDeskModel") (T := F_Mod) (N := 19) hx hb hts in_Mod hown hK hP 0 rfl rfl 0 (by decide) (hts _ k_494) (fun _ h9 => h9) rfl d_Mod_knownOf_101 ?_
                  refine lv_iload_n hx hb d_Mod_knownOf_104 rfl (lv_at hl 2 rfl) ?_
                  refine lv_iconst (v := (nI 1)) hx hb d_Mod_knownOf_105 (by decide) ?_
                  refine lv_iadd hx hb d_Mod_knownOf_106 ?_
                  refine sd_topi (y := nI (a + 1)) (nI_add _ _) ?_
                  refine va_iald hx hb hK hP 1 1 rfl rfl (i := (nI (a + 1))) (vp_in_nI (by omega) (by omega)) d_Mod_knownOf_107 ?_
                  refine sd_topi (y := nI (tx (a + 1))) (by rw [nI_clamp (by omega)]; exact hT.2.2.1 _ (by omega)) ?_
                  have hb8i := hb8 (a + 1)
                  refine lv_bipush (v := (nI 48)) hx hb d_Mod_knownOf_108 (by decide) ?_
                  refine lv_isub hx hb d_Mod_knownOf_110 ?_
                  refine sd_topi (y := nI (tx (a + 1) - 48)) (pk_sub (by omega)) ?_
                  refine lv_goto (tgt := 140) hx hb d_Mod_knownOf_111 (by decide) ?_
                  refine lv_istore (lv' := [(4, .int (nI (tx (a + 1) - 48))), (3, .int (-1)), (0, .ref m0), (1, .int (nI a)), (2, .int (nI cn))]) hx hb d_Mod_knownOf_140 hl (by decide) rfl (fun ls hl => ?_)
                  refine lv_iload_n hx hb d_Mod_knownOf_142 rfl (lv_at hl 4 rfl) ?_
                  refine lv_iconst (v := (nI 3)) hx hb d_Mod_knownOf_143 (by decide) ?_
                  refine lv_icmp_ne (tgt := 160) hx hb d_Mod_knownOf_144 (by decide) (fun c10 => ?_) (fun c10 => ?_)
                  · have c10 := mt (nI_eq (by omega) (by omega)).mpr c10
                    refine lv_iload hx hb d_Mod_knownOf_160 (lv_at hl 0 rfl) ?_
                    refine lv_bipush (v := (nI 15)) hx hb d_Mod_knownOf_162 (by decide) ?_
                    refine lv_icmp_le (tgt := 171) hx hb d_Mod_knownOf_164 (by decide) (fun c11 => ?_) (fun c11 => ?_)
                    · have c11 := (nI_leI (by omega) (by omega)).mp c11
                      refine lv_iload hx hb d_Mod_knownOf_171 (lv_at hl 0 rfl) ?_
                      exact W.iret (v := (nI (tx (a + 1) - 48))) hx hb hr  (fun t ht hW => ⟨_, rfl, by
                          rw [knK_of (sd_R1 (tx (a + 1) - 48) (by omega)) ⟨by show a + 2 = a + cn; omega, fun t ht => by
                            rcases (show t = 0 ∨ t = 1 by have : t < 2 := ht; omega) with rfl | rfl
                            · show 82 = tx a; omega
                            · show 48 + (tx (a + 1) - 48) = tx (a + 1); omega⟩, nI_pred], ht⟩) (fun _ h => by cases h) d_Mod_knownOf_173
                    · have c11 := mt (nI_leI (by omega) (by omega)).mpr c11
                      exact absurd c11 (by omega)
                  · have c10 := (nI_eq (by omega) (by omega)).mp c10
                    exact absurd c10 (by omega)
              · have c8 := (nI_eq (by omega) (by omega)).mp c8
                refine lv_aload_n hx hb d_Mod_knownOf_79 rfl (lv_at hl 1 rfl) ?_
                refine va_get (D := g.1) (ci := 8) (v := .ref mtt) (C := "SignDeskModel") (T := F_Mod) (N := 19) hx hb hts in_Mod hown hK hP 0 rfl rfl 0 (by decide) (hts _ k_494) (fun _ h9 => h9) rfl d_Mod_knownOf_80 ?_
                refine lv_iload_n hx hb d_Mod_knownOf_83 rfl (lv_at hl 2 rfl) ?_
                refine lv_iconst (v := (nI 2)) hx hb d_Mod_knownOf_84 (by decide) ?_
                refine lv_iadd hx hb d_Mod_knownOf_85 ?_
                refine sd_topi (y := nI (a + 2)) (nI_add _ _) ?_
                refine va_iald hx hb hK hP 1 1 rfl rfl (i := (nI (a + 2))) (vp_in_nI (by omega) (by omega)) d_Mod_knownOf_86 ?_
                refine sd_topi (y := nI (tx (a + 2))) (by rw [nI_clamp (by omega)]; exact hT.2.2.1 _ (by omega)) ?_
                have hb8i := hb8 (a + 2)
                refine sd_ri (va_runS (As := [.int (nI (tx (a + 2)))]) (rest := []) ⟨hx, hb, hml, hown, hts⟩ (c_Mod_isDigit l (tx (a + 2)) (hb8 _)) (va_cwS 1 hts (sd_gS k_588 k_589 k_30 k_590) rfl rfl rfl (by decide +kernel) ⟨Nat.le_of_ble_eq_true rfl, Nat.le_of_ble_eq_true rfl⟩) preEq rfl rfl hl.1 rfl (lv_room (Nat.le_of_ble_eq_true rfl)) d_Mod_knownOf_87 ⟨Nat.zero_le _, Nat.zero_le _⟩) (fun r12 er12 => ?_)
                subst er12
                have hb82 := hb8 (a + 2)
                refine lv_if_ne (tgt := 95) hx hb d_Mod_knownOf_90 (by decide) (fun c13 => ?_) (fun c13 => ?_)
                · have c13 := sb_ne0.mp c13
                  refine lv_iload_n hx hb d_Mod_knownOf_95 rfl (lv_at hl 3 rfl) ?_
                  refine lv_iconst (v := (nI 2)) hx hb d_Mod_knownOf_96 (by decide) ?_
                  refine lv_icmp_ne (tgt := 114) hx hb d_Mod_knownOf_97 (by decide) (fun c14 => ?_) (fun c14 => ?_)
                  · have c14 := mt (nI_eq (by omega) (by omega)).mpr c14
                    refine lv_bipush (v := (nI 10)) hx hb d_Mod_knownOf_114 (by decide) ?_
                    refine lv_aload_n hx hb d_Mod_knownOf_116 rfl (lv_at hl 1 rfl) ?_
                    refine va_get (D := g.1) (ci := 8) (v := .ref mtt) (C := "SignDeskModel") (T := F_Mod) (N := 19) hx hb hts in_Mod hown hK hP 0 rfl rfl 0 (by decide) (hts _ k_494) (fun _ h9 => h9) rfl d_Mod_knownOf_117 ?_
                    refine lv_iload_n hx hb d_Mod_knownOf_120 rfl (lv_at hl 2 rfl) ?_
                    refine lv_iconst (v := (nI 1)) hx hb d_Mod_knownOf_121 (by decide) ?_
                    refine lv_iadd hx hb d_Mod_knownOf_122 ?_
                    refine sd_topi (y := nI (a + 1)) (nI_add _ _) ?_
                    refine va_iald hx hb hK hP 1 1 rfl rfl (i := (nI (a + 1))) (vp_in_nI (by omega) (by omega)) d_Mod_knownOf_123 ?_
                    refine sd_topi (y := nI (tx (a + 1))) (by rw [nI_clamp (by omega)]; exact hT.2.2.1 _ (by omega)) ?_
                    have hb8i := hb8 (a + 1)
                    refine lv_bipush (v := (nI 48)) hx hb d_Mod_knownOf_124 (by decide) ?_
                    refine lv_isub hx hb d_Mod_knownOf_126 ?_
                    refine sd_topi (y := nI (tx (a + 1) - 48)) (pk_sub (by omega)) ?_
                    refine lv_imul hx hb d_Mod_knownOf_127 ?_
                    refine sd_topi (y := nI (10 * (tx (a + 1) - 48))) (pk_mul _ _) ?_
                    refine lv_aload_n hx hb d_Mod_knownOf_128 rfl (lv_at hl 1 rfl) ?_
                    refine va_get (D := g.1) (ci := 8) (v := .ref mtt) (C := "SignDeskModel") (T := F_Mod) (N := 19) hx hb hts in_Mod hown hK hP 0 rfl rfl 0 (by decide) (hts _ k_494) (fun _ h9 => h9) rfl d_Mod_knownOf_129 ?_
                    refine lv_iload_n hx hb d_Mod_knownOf_132 rfl (lv_at hl 2 rfl) ?_
                    refine lv_iconst (v := (nI 2)) hx hb d_Mod_knownOf_133 (by decide) ?_
                    refine lv_iadd hx hb d_Mod_knownOf_134 ?_
                    refine sd_topi (y := nI (a + 2)) (nI_add _ _) ?_
                    refine va_iald hx hb hK hP 1 1 rfl rfl (i := (nI (a + 2))) (vp_in_nI (by omega) (by omega)) d_Mod_knownOf_135 ?_
                    refine sd_topi (y := nI (tx (a + 2))) (by rw [nI_clamp (by omega)]; exact hT.2.2.1 _ (by omega)) ?_
                    have hb8i := hb8 (a + 2)
                    refine lv_iadd hx hb d_Mod_knownOf_136 ?_
                    refine sd_topi (y := nI ((10 * (tx (a + 1) - 48)) + (tx (a + 2)))) (nI_add _ _) ?_
                    refine lv_bipush (v := (nI 48)) hx hb d_Mod_knownOf_137 (by decide) ?_
                    refine lv_isub hx hb d_Mod_knownOf_139 ?_
                    refine sd_topi (y := nI (10 * (tx (a + 1) - 48) + tx (a + 2) - 48)) (pk_sub (by omega)) ?_
                    refine lv_istore (lv' := [(4, .int (nI (10 * (tx (a + 1) - 48) + tx (a + 2) - 48))), (3, .int (-1)), (0, .ref m0), (1, .int (nI a)), (2, .int (nI cn))]) hx hb d_Mod_knownOf_140 hl (by decide) rfl (fun ls hl => ?_)
                    refine lv_iload_n hx hb d_Mod_knownOf_142 rfl (lv_at hl 4 rfl) ?_
                    refine lv_iconst (v := (nI 3)) hx hb d_Mod_knownOf_143 (by decide) ?_
                    refine lv_icmp_ne (tgt := 160) hx hb d_Mod_knownOf_144 (by decide) (fun c15 => ?_) (fun c15 => ?_)
                    · have c15 := mt (nI_eq (by omega) (by omega)).mpr c15
                      exact absurd c8 c15
                    · have c15 := (nI_eq (by omega) (by omega)).mp c15
                      refine lv_aload_n hx hb d_Mod_knownOf_147 rfl (lv_at hl 2 rfl) ?_
                      refine va_get (D := g.1) (ci := 8) (v := .ref mtt) (C := "SignDeskModel") (T := F_Mod) (N := 19) hx hb hts in_Mod hown hK hP 0 rfl rfl 0 (by decide) (hts _ k_494) (fun _ h9 => h9) rfl d_Mod_knownOf_148 ?_
                      refine lv_iload_n hx hb d_Mod_knownOf_151 rfl (lv_at hl 3 rfl) ?_
                      refine lv_iconst (v := (nI 1)) hx hb d_Mod_knownOf_152 (by decide) ?_
                      refine lv_iadd hx hb d_Mod_knownOf_153 ?_
                      refine sd_topi (y := nI (a + 1)) (nI_add _ _) ?_
                      refine va_iald hx hb hK hP 1 1 rfl rfl (i := (nI (a + 1))) (vp_in_nI (by omega) (by omega)) d_Mod_knownOf_154 ?_
                      refine sd_topi (y := nI (tx (a + 1))) (by rw [nI_clamp (by omega)]; exact hT.2.2.1 _ (by omega)) ?_
                      have hb8i := hb8 (a + 1)
                      refine lv_bipush (v := (nI 49)) hx hb d_Mod_knownOf_155 (by decide) ?_
                      refine lv_icmp_ne (tgt := 167) hx hb d_Mod_knownOf_157 (by decide) (fun c16 => ?_) (fun c16 => ?_)
                      · have c16 := mt (nI_eq (by omega) (by omega)).mpr c16
                        refine lv_iconst (v := (-1)) hx hb d_Mod_knownOf_167 (by decide) ?_
                        refine lv_goto (tgt := 173) hx hb d_Mod_knownOf_168 (by decide) ?_
                        exact W.iret (v := (-1)) hx hb hr  (fun t ht hW => ⟨_, rfl, by rw [knK_none e2 (by omega) (by omega)]; decide, ht⟩) (fun _ h => by cases h) d_Mod_knownOf_173
                      · have c16 := (nI_eq (by omega) (by omega)).mp c16
                        refine lv_iload hx hb d_Mod_knownOf_160 (lv_at hl 0 rfl) ?_
                        refine lv_bipush (v := (nI 15)) hx hb d_Mod_knownOf_162 (by decide) ?_
                        refine lv_icmp_le (tgt := 171) hx hb d_Mod_knownOf_164 (by decide) (fun c17 => ?_) (fun c17 => ?_)
                        · have c17 := (nI_leI (by omega) (by omega)).mp c17
                          refine lv_iload hx hb d_Mod_knownOf_171 (lv_at hl 0 rfl) ?_
                          exact W.iret (v := (nI (10 * (tx (a + 1) - 48) + tx (a + 2) - 48))) hx hb hr  (fun t ht hW => ⟨_, rfl, by
                              rw [knK_of (sd_R2 (tx (a + 2) - 48) (by omega)) ⟨by show a + 3 = a + cn; omega, fun t ht => by
                                rcases (show t = 0 ∨ t = 1 ∨ t = 2 by have : t < 3 := ht; omega) with rfl | rfl | rfl
                                · show 82 = tx a; omega
                                · show 49 = tx (a + 1); omega
                                · show 48 + (tx (a + 2) - 48) = tx (a + 2); omega⟩, nI_pred]; exact congrArg nI (by omega), ht⟩) (fun _ h => by cases h) d_Mod_knownOf_173
                        · have c17 := mt (nI_leI (by omega) (by omega)).mpr c17
                          refine lv_iconst (v := (-1)) hx hb d_Mod_knownOf_167 (by decide) ?_
                          refine lv_goto (tgt := 173) hx hb d_Mod_knownOf_168 (by decide) ?_
                          exact W.iret (v := (-1)) hx hb hr  (fun t ht hW => ⟨_, rfl, by rw [knK_none e2 (by omega) (by omega)]; decide, ht⟩) (fun _ h => by cases h) d_Mod_knownOf_173
                  · have c14 := (nI_eq (by omega) (by omega)).mp c14
                    exact absurd c14 (by omega)
                · have c13 := sb_eq0.mp c13
                  refine lv_iconst (v := (-1)) hx hb d_Mod_knownOf_93 (by decide) ?_
                  exact W.iret (v := (-1)) hx hb hr  (fun t ht hW => ⟨_, rfl, by rw [knK_none e2 (by omega) (by omega)]; decide, ht⟩) (fun _ h => by cases h) d_Mod_knownOf_94
    · exact absurd (by decide) c2
  · have hj : j < 7 := hj
    rw [Nat.zero_add] at e1
    obtain ⟨p9, hp9, hM9, e3⟩ := lk_ex (M := (nmM tx a (a + cn))) (ps := sd_k7) (by omega)
    have hkn : knK tx a (a + cn) = (sd_k7.getD j ([], 0)).2 + 1 := by rw [knK_of (sd_k7_in p9 hp9) hM9]; omega
    refine sd_topi (y := nI j) (e1) ?_
    refine lv_istore_n (lv' := [(3, .int (nI j)), (0, .ref m0), (1, .int (nI a)), (2, .int (nI cn))]) hx hb d_Mod_knownOf_10 rfl hl (by decide) rfl (fun ls hl => ?_)
    refine lv_iload_n hx hb d_Mod_knownOf_11 rfl (lv_at hl 0 rfl) ?_
    refine lv_if_lt (tgt := 39) hx hb d_Mod_knownOf_12 (by decide) (fun c18 => ?_) (fun c18 => ?_)
    · exact absurd c18 (nI_pos (by omega))
    · refine lv_iload_n hx hb d_Mod_knownOf_15 rfl (lv_at hl 0 rfl) ?_
      refine lv_iconst (v := (nI 5)) hx hb d_Mod_knownOf_16 (by decide) ?_
      refine lv_icmp_ge (tgt := 24) hx hb d_Mod_knownOf_17 (by decide) (fun c19 => ?_) (fun c19 => ?_)
      · have c19 := (nI_leI (by omega) (by omega)).mp c19
        refine lv_iload_n hx hb d_Mod_knownOf_24 rfl (lv_at hl 0 rfl) ?_
        refine lv_iconst (v := (nI 5)) hx hb d_Mod_knownOf_25 (by decide) ?_
        refine lv_icmp_ne (tgt := 35) hx hb d_Mod_knownOf_26 (by decide) (fun c20 => ?_) (fun c20 => ?_)
        · have c20 := mt (nI_eq (by omega) (by omega)).mpr c20
          have e6 : j = 6 := by omega
          subst e6
          refine lv_sipush (v := (nI 24576)) hx hb d_Mod_knownOf_35 (by decide) ?_
          exact W.iret (v := (nI 24576)) hx hb hr  (fun t ht hW => ⟨_, rfl, by rw [hkn, nI_pred]; rfl, ht⟩) (fun _ h => by cases h) d_Mod_knownOf_38
        · have c20 := (nI_eq (by omega) (by omega)).mp c20
          subst c20
          refine lv_sipush (v := (nI 16384)) hx hb d_Mod_knownOf_29 (by decide) ?_
          refine lv_goto (tgt := 38) hx hb d_Mod_knownOf_32 (by decide) ?_
          exact W.iret (v := (nI 16384)) hx hb hr  (fun t ht hW => ⟨_, rfl, by rw [hkn, nI_pred]; rfl, ht⟩) (fun _ h => by cases h) d_Mod_knownOf_38
      · have c19 := mt (nI_leI (by omega) (by omega)).mpr c19
        refine lv_iload_n hx hb d_Mod_knownOf_20 rfl (lv_at hl 0 rfl) ?_
        refine lv_goto (tgt := 38) hx hb d_Mod_knownOf_21 (by decide) ?_
        exact W.iret (v := (nI j)) hx hb hr  (fun t ht hW => ⟨_, rfl, by rw [hkn, nI_pred, sd_k7_v j (by omega)], ht⟩) (fun _ h => by cases h) d_Mod_knownOf_38
set_option maxHeartbeats 4000000 in
set_option maxRecDepth 100000 in
/-- destOf(a, c) -/
theorem c_Mod_destOf (l : Launch) (g : sdG) (m0 mtt mcd mat msz mvl mcs mmm mkn mjp mds : Nat) (tk9 sz9 pl9 wd9 sy9 ra rd nx9 dn : Int32) (df : Nat → Int32) (hRd : rowOK 19 df (sd_dest.map Prod.fst)) (n : Nat) (tf : Nat → Int32) (tx : Nat → Nat) (hT : MTok n tf tx) (a cn : Nat) (hac : a + cn ≤ n) (htk : ∀ j, a ≤ j → j < a + cn → ¬ tx j = 32) : Met l y_Mod_destOf (.code y_Mod_destOf b_Mod_destOf 4 (some .int) :: sdT) ({ frames := 1, cells := 0, slots := 0, locals := 26 }) (va_Pc [.ref m0, .int (nI a), .int (nI cn)] (sdR g [(m0, .inr (8, [.ref mtt, .int tk9, .int sz9, .int pl9, .int wd9, .ref mcd, .int sy9, .ref mat, .ref msz, .ref mvl, .ref mcs, .ref mmm, .int ra, .int rd, .int nx9, .int dn, .ref mkn, .ref mjp, .ref mds])), (mtt, .inl (gI g, 2000, .inl tf)), (mds, .inl (gC g, 19, .inl df))])) (vp_Si (fun r => (lk (nmM tx a (a + cn)) sd_dest = 0 → r = -1) ∧ (¬ lk (nmM tx a (a + cn)) sd_dest = 0 → r = nI (8 * lk (nmM tx a (a + cn)) sd_dest)))) 0 0 (fun _ => False) := by
  refine Met.ofW (cc := b_Mod_destOf) (maxL := 4) (ret := (some .int)) (by decide) rfl ?_
  intro p ev s m args below meth c s₁ B hml hv
  obtain ⟨rfl, hP, hK, hE⟩ := hv
  have hx := B.exec
  have hb := B.bytes
  have hr := B.returns
  have hts := fun (w : Cond) (h : w ∈ sdT) => atoms_spec (ws := (.code y_Mod_destOf b_Mod_destOf 4 (some .int) :: sdT)) B.pre w (List.mem_cons_of_mem _ h)
  have hown : s.vm.findClass "SignDeskModel" = some m.cls := findClass_of_methodNamed B.named
  have hlocks := B.notSynchronized
  have hF : ∀ a : Nat, a < s.heap.size → ¬ sdA g a → s.heap[a]? = s.heap[a]? := fun _ _ _ => rfl
  have hP : sdP g [(m0, .inr (8, [.ref mtt, .int tk9, .int sz9, .int pl9, .int wd9, .ref mcd, .int sy9, .ref mat, .ref msz, .ref mvl, .ref mcs, .ref mmm, .int ra, .int rd, .int nx9, .int dn, .ref mkn, .ref mjp, .ref mds])), (mtt, .inl (gI g, 2000, .inl tf)), (mds, .inl (gC g, 19, .inl df))] s.heap := hP
  have hl := lv_entry ([.ref m0, .int (nI a), .int (nI cn)]) (n := 4) (Nat.le_of_ble_eq_true rfl)
  rw [lg_entry_eq]
  generalize (lg_sl ([.ref m0, .int (nI a), .int (nI cn)]) ++ List.replicate (4 - (lg_sl ([.ref m0, .int (nI a), .int (nI cn)])).length) Slot.unset).toArray = ls at hl ⊢
  have hl : lv_has ls 4 [(0, .ref m0), (1, .int (nI a)), (2, .int (nI cn))] := hl
  have hn := hT.1
  have hb8 := hT.2.1
  refine lv_aload_n hx hb d_Mod_destOf_0 rfl (lv_at hl 0 rfl) ?_
  refine lv_aload_n hx hb d_Mod_destOf_1 rfl (lv_at hl 0 rfl) ?_
  refine va_get (D := g.1) (ci := 8) (v := .ref mds) (C := "SignDeskModel") (T := F_Mod) (N := 19) hx hb hts in_Mod hown hK hP 0 rfl rfl 18 (by decide) (hts _ k_512) (fun _ h9 => h9) rfl d_Mod_destOf_2 ?_
  refine lv_iload_n hx hb d_Mod_destOf_5 rfl (lv_at hl 1 rfl) ?_
  refine lv_iload_n hx hb d_Mod_destOf_6 rfl (lv_at hl 2 rfl) ?_
  refine sd_ri (va_runV (As := [.ref mds, .int (nI a), .int (nI cn)]) (rest := []) ⟨hx, hb, hml, hown, hts⟩ (c_Mod_wordOf l g m0 mtt mcd mat msz mvl mcs mmm mkn mjp mds tk9 sz9 pl9 wd9 sy9 ra rd nx9 dn mds 19 df (sd_dest.map Prod.fst) hRd n tf tx hT a cn hac htk) (cwV 3 hts (sd_gV k_604 k_606 k_15 k_30 k_607) rfl rfl rfl (by decide +kernel) ⟨Nat.le_of_ble_eq_true rfl, Nat.le_of_ble_eq_true rfl⟩) (sd_preV hK hE hF (hP.sub (ws' := [(m0, .inr (8, [.ref mtt, .int tk9, .int sz9, .int pl9, .int wd9, .ref mcd, .int sy9, .ref mat, .ref msz, .ref mvl, .ref mcs, .ref mmm, .int ra, .int rd, .int nx9, .int dn, .ref mkn, .ref mjp, .ref mds])), (mtt, .inl (gI g, 2000, .inl tf)), (mds, .inl (gC g, 19, .inl df))]) [0, 1, 2] rfl) rfl rfl) rfl rfl hl.1 rfl (lv_room (Nat.le_of_ble_eq_true rfl)) d_Mod_destOf_7 ⟨Nat.zero_le _, Nat.zero_le _⟩) (fun r1 er1 => ?_)
  subst er1
  rcases nmF_lk (M := (nmM tx a (a + cn))) sd_dest 0 with ⟨e1, e2⟩ | ⟨j, hj, e1, e2⟩
  · refine sd_topi (y := -1) (e1) ?_
    refine lv_istore_n (lv' := [(3, .int (-1)), (0, .ref m0), (1, .int (nI a)), (2, .int (nI cn))]) hx hb d_Mod_destOf_10 rfl hl (by decide) rfl (fun ls hl => ?_)
    refine lv_iload_n hx hb d_Mod_destOf_11 rfl (lv_at hl 0 rfl) ?_
    refine lv_if_lt (tgt := 19) hx hb d_Mod_destOf_12 (by decide) (fun c2 => ?_) (fun c2 => ?_)
    · refine lv_iconst (v := (-1)) hx hb d_Mod_destOf_19 (by decide) ?_
      refine lv_goto (tgt := 29) hx hb d_Mod_destOf_20 (by decide) ?_
      exact W.iret (v := (-1)) hx hb hr  (fun t ht hW => ⟨_, rfl, ⟨fun _ => rfl, fun h => absurd e2 h⟩, ht⟩) (fun _ h => by cases h) d_Mod_destOf_29
    · exact absurd (by decide) c2
  · have hj : j < 7 := hj
    rw [Nat.zero_add] at e1
    rw [sd_dest_ix j hj] at e2
    refine sd_topi (y := nI j) (e1) ?_
    refine lv_istore_n (lv' := [(3, .int (nI j)), (0, .ref m0), (1, .int (nI a)), (2, .int (nI cn))]) hx hb d_Mod_destOf_10 rfl hl (by decide) rfl (fun ls hl => ?_)
    refine lv_iload_n hx hb d_Mod_destOf_11 rfl (lv_at hl 0 rfl) ?_
    refine lv_if_lt (tgt := 19) hx hb d_Mod_destOf_12 (by decide) (fun c3 => ?_) (fun c3 => ?_)
    · exact absurd c3 (nI_pos (by omega))
    · refine lv_iload_n hx hb d_Mod_destOf_15 rfl (lv_at hl 3 rfl) ?_
      refine lv_if_ne (tgt := 23) hx hb d_Mod_destOf_16 (by decide) (fun c4 => ?_) (fun c4 => ?_)
      · have c4 := mt (nI_eq (b := 0) (by omega) (by omega)).mpr c4
        refine lv_bipush (v := (nI 8)) hx hb d_Mod_destOf_23 (by decide) ?_
        refine lv_iload_n hx hb d_Mod_destOf_25 rfl (lv_at hl 0 rfl) ?_
        refine lv_iconst (v := (nI 1)) hx hb d_Mod_destOf_26 (by decide) ?_
        refine lv_iadd hx hb d_Mod_destOf_27 ?_
        refine sd_topi (y := nI (j + 1)) (nI_add _ _) ?_
        refine lv_imul hx hb d_Mod_destOf_28 ?_
        refine sd_topi (y := nI (8 * (j + 1))) (pk_mul _ _) ?_
        exact W.iret (v := (nI (8 * (j + 1)))) hx hb hr  (fun t ht hW => ⟨_, rfl, ⟨fun h => absurd h (by omega), fun _ => by rw [e2]⟩, ht⟩) (fun _ h => by cases h) d_Mod_destOf_29
      · have c4 := (nI_eq (b := 0) (by omega) (by omega)).mp c4
        obtain ⟨p9, hp9, hM9, e3⟩ := lk_ex (M := (nmM tx a (a + cn))) (ps := sd_dest) (by omega)
        have h1 := sd_dest_ne p9 hp9
        have h2 := hM9.1
        exact absurd h2 (by omega)
