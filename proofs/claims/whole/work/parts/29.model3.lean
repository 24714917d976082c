/-- names, each with a blank behind it -/
def nmT : List (List Nat) → List Nat
  | [] => []
  | w :: ws => w ++ 32 :: nmT ws
theorem nmT_in {w : List Nat} {ws : List (List Nat)} {j : Nat} (h : j < w.length) : (nmT (w :: ws)).getD j 0 = w.getD j 0 := by
  show (w ++ 32 :: nmT ws).getD j 0 = _
  simp [List.getElem?_append_left h]
theorem nmT_sep {w : List Nat} {ws : List (List Nat)} : (nmT (w :: ws)).getD w.length 0 = 32 := by
  show (w ++ 32 :: nmT ws).getD w.length 0 = _
  simp
theorem nmT_drop {w : List Nat} {ws : List (List Nat)} : (nmT (w :: ws)).drop (w.length + 1) = nmT ws := by
  show (w ++ 32 :: nmT ws).drop (w.length + 1) = _
  rw [List.drop_append]
  simp
theorem nmT_len {w : List Nat} {ws : List (List Nat)} : (nmT (w :: ws)).length = w.length + 1 + (nmT ws).length := by
  show (w ++ 32 :: nmT ws).length = _
  simp; omega
/-- a row of signs holds the names -/
def rowOK (N : Nat) (rf : Nat → Int32) (ns : List (List Nat)) : Prop := N < 2 ^ 20 ∧ (nmT ns).length = N ∧ (∀ i, i < N → rf i = nI ((nmT ns).getD i 0)) ∧ ∀ w, w ∈ ns → ∀ c, c ∈ w → ¬ c = 32 ∧ c < 256
theorem gd_mem {w : List Nat} {j : Nat} (h : j < w.length) : w.getD j 0 ∈ w := by
  rw [List.getD_eq_getElem?_getD, List.getElem?_eq_getElem h]; exact List.getElem_mem h
set_option maxHeartbeats 4000000 in
set_option maxRecDepth 100000 in
/-- wordOf(row, a, c) -/
theorem c_Mod_wordOf (l : Launch) (g : sdG) (m0 mtt mcd mat msz mvl mcs mmm mkn mjp mds : Nat) (tk9 sz9 pl9 wd9 sy9 ra rd nx9 dn : Int32) (qr N : Nat) (rf : Nat → Int32) (ns : List (List Nat)) (hR : rowOK N rf ns) (n : Nat) (tf : Nat → Int32) (tx : Nat → Nat) (hT : MTok n tf tx) (a c9 : Nat) (hac : a + c9 ≤ n) (htk : ∀ j, a ≤ j → j < a + c9 → ¬ tx j = 32) : Met l y_Mod_wordOf (.code y_Mod_wordOf b_Mod_wordOf 7 (some .int) :: sdT) ({ frames := 0, cells := 0, slots := 0, locals := 0 }) (va_Pc [.ref m0, .ref qr, .int (nI a), .int (nI c9)] (sdR g [(m0, .inr (8, [.ref mtt, .int tk9, .int sz9, .int pl9, .int wd9, .ref mcd, .int sy9, .ref mat, .ref msz, .ref mvl, .ref mcs, .ref mmm, .int ra, .int rd, .int nx9, .int dn, .ref mkn, .ref mjp, .ref mds])), (mtt, .inl (gI g, 2000, .inl tf)), (qr, .inl (gC g, N, .inl rf))])) (vp_Si (fun r => r = nmF (nmM tx a (a + c9)) ns 0)) 0 0 (fun _ => False) := by
  refine Met.ofW (cc := b_Mod_wordOf) (maxL := 7) (ret := (some .int)) (by decide) rfl ?_
  intro p ev s m args below meth c s₁ B hml hv
  obtain ⟨rfl, hP, hK, hE⟩ := hv
  have hx := B.exec
  have hb := B.bytes
  have hr := B.returns
  have hts := fun (w : Cond) (h : w ∈ sdT) => atoms_spec (ws := (.code y_Mod_wordOf b_Mod_wordOf 7 (some .int) :: sdT)) B.pre w (List.mem_cons_of_mem _ h)
  have hown : s.vm.findClass "SignDeskModel" = some m.cls := findClass_of_methodNamed B.named
  have hlocks := B.notSynchronized
  have hF : ∀ a : Nat, a < s.heap.size → ¬ sdA g a → s.heap[a]? = s.heap[a]? := fun _ _ _ => rfl
  have hP : sdP g [(m0, .inr (8, [.ref mtt, .int tk9, .int sz9, .int pl9, .int wd9, .ref mcd, .int sy9, .ref mat, .ref msz, .ref mvl, .ref mcs, .ref mmm, .int ra, .int rd, .int nx9, .int dn, .ref mkn, .ref mjp, .ref mds])), (mtt, .inl (gI g, 2000, .inl tf)), (qr, .inl (gC g, N, .inl rf))] s.heap := hP
  have hl := lv_entry ([.ref m0, .ref qr, .int (nI a), .int (nI c9)]) (n := 7) (Nat.le_of_ble_eq_true rfl)
  rw [lg_entry_eq]
  generalize (lg_sl ([.ref m0, .ref qr, .int (nI a), .int (nI c9)]) ++ List.replicate (7 - (lg_sl ([.ref m0, .ref qr, .int (nI a), .int (nI c9)])).length) Slot.unset).toArray = ls at hl ⊢
  have hl : lv_has ls 7 [(0, .ref m0), (1, .ref qr), (2, .int (nI a)), (3, .int (nI c9))] := hl
  have hn := hT.1
  have hb8 := hT.2.1
  obtain ⟨hN, hlen, hrf, hno⟩ := hR
  refine lv_iconst (v := (nI 0)) hx hb d_Mod_wordOf_0 (by decide) ?_
  refine lv_istore (lv' := [(4, .int (nI 0)), (0, .ref m0), (1, .ref qr), (2, .int (nI a)), (3, .int (nI c9))]) hx hb d_Mod_wordOf_1 hl (by decide) rfl (fun ls hl => ?_)
  refine lv_iconst (v := (nI 0)) hx hb d_Mod_wordOf_3 (by decide) ?_
  refine lv_istore (lv' := [(5, .int (nI 0)), (4, .int (nI 0)), (0, .ref m0), (1, .ref qr), (2, .int (nI a)), (3, .int (nI c9))]) hx hb d_Mod_wordOf_4 hl (by decide) rfl (fun ls hl => ?_)
  refine sd_loopr (fun (x : Nat × Nat × List (List Nat)) ls => match x with | (kp, wi, n1) => lv_has ls 7 [(5, .int (nI kp)), (4, .int (nI wi)), (0, .ref m0), (1, .ref qr), (2, .int (nI a)), (3, .int (nI c9))] ∧ ((nmT ns).drop kp = nmT n1) ∧ (kp + (nmT n1).length = N) ∧ (nmF (nmM tx a (a + c9)) ns 0 = nmF (nmM tx a (a + c9)) n1 wi) ∧ (∀ w, w ∈ n1 → w ∈ ns) ∧ (wi ≤ kp)) (fun (x : Nat × Nat × List (List Nat)) => match x with | (kp, wi, n1) => N - kp) 6 [] (fun x ls hI ih => ?_) (0, 0, ns) ⟨lv_sub hl [0, 1, 2, 3, 4, 5] rfl, rfl, by rw [Nat.zero_add]; exact hlen, rfl, fun _ h => h, Nat.le_refl _⟩
  obtain ⟨kp, wi, n1⟩ := x
  obtain ⟨hl, h1, h2, h3, h4, h5⟩ := hI
  refine lv_iload hx hb d_Mod_wordOf_6 (lv_at hl 0 rfl) ?_
  refine lv_aload_n hx hb d_Mod_wordOf_8 rfl (lv_at hl 3 rfl) ?_
  refine va_alen hx hb hK hP 2 3 rfl rfl (v := nI (N)) rfl d_Mod_wordOf_9 ?_
  refine lv_icmp_ge (tgt := 104) hx hb d_Mod_wordOf_10 (by decide) (fun c1 => ?_) (fun c1 => ?_)
  · have c1 := (nI_leI (by omega) (by omega)).mp c1
    have e1 : n1 = [] := by
      cases n1 with
      | nil => rfl
      | cons x y => rw [nmT_len] at h2; omega
    subst e1
    refine lv_iconst (v := (-1)) hx hb d_Mod_wordOf_104 (by decide) ?_
    exact W.iret (v := (-1)) hx hb hr  (fun t ht hW => ⟨_, rfl, h3.symm, ht⟩) (fun _ h => by cases h) d_Mod_wordOf_105
  · have c1 := mt (nI_leI (by omega) (by omega)).mpr c1
    obtain ⟨w9, ws9, rfl⟩ : ∃ x y, n1 = x :: y := by
      cases n1 with
      | nil => exact absurd h2 (by show ¬ kp + 0 = N; omega)
      | cons x y => exact ⟨x, y, rfl⟩
    have h2b := h2
    rw [nmT_len] at h2b
    have hrow : ∀ j, j ≤ w9.length → rf (kp + j) = nI ((nmT (w9 :: ws9)).getD j 0) := fun j hj => by
      rw [hrf _ (by omega), nmS_at h1]
    have hch : ∀ j, j < w9.length → ¬ w9.getD j 0 = 32 ∧ w9.getD j 0 < 256 := fun j hj => hno w9 (h4 w9 List.mem_cons_self) _ (gd_mem hj)
    refine lv_iconst (v := (nI 0)) hx hb d_Mod_wordOf_13 (by decide) ?_
    refine lv_istore (lv' := [(6, .int (nI 0)), (5, .int (nI kp)), (4, .int (nI wi)), (0, .ref m0), (1, .ref qr), (2, .int (nI a)), (3, .int (nI c9))]) hx hb d_Mod_wordOf_14 hl (by decide) rfl (fun ls hl => ?_)
    refine sd_loopr (fun (i : Nat) ls => lv_has ls 7 [(6, .int (nI i)), (5, .int (nI kp)), (4, .int (nI wi)), (0, .ref m0), (1, .ref qr), (2, .int (nI a)), (3, .int (nI c9))] ∧ (i ≤ c9) ∧ (i ≤ w9.length) ∧ (∀ t, t < i → w9.getD t 0 = tx (a + t))) (fun (i : Nat) => c9 - i) 16 [] (fun i ls hI ih2 => ?_) (0) ⟨lv_sub hl [0, 1, 2, 3, 4, 5, 6] rfl, Nat.zero_le _, Nat.zero_le _, fun t h => absurd h (Nat.not_lt_zero t)⟩
    obtain ⟨hl, k1, k2, k3⟩ := hI
    refine lv_iload hx hb d_Mod_wordOf_16 (lv_at hl 0 rfl) ?_
    refine lv_iload_n hx hb d_Mod_wordOf_18 rfl (lv_at hl 6 rfl) ?_
    refine lv_icmp_ge (tgt := 50) hx hb d_Mod_wordOf_19 (by decide) (fun c2 => ?_) (fun c2 => ?_)
    · have c2 := (nI_leI (by omega) (by omega)).mp c2
      have ei : i = c9 := by omega
      refine lv_iload hx hb d_Mod_wordOf_50 (lv_at hl 0 rfl) ?_
      refine lv_iload_n hx hb d_Mod_wordOf_52 rfl (lv_at hl 6 rfl) ?_
      refine lv_icmp_ne (tgt := 71) hx hb d_Mod_wordOf_53 (by decide) (fun c3 => ?_) (fun c3 => ?_)
      · have c3 := mt (nI_eq (by omega) (by omega)).mpr c3
        exact absurd ei c3
      · have c3 := (nI_eq (by omega) (by omega)).mp c3
        refine lv_aload_n hx hb d_Mod_wordOf_56 rfl (lv_at hl 4 rfl) ?_
        refine lv_iload hx hb d_Mod_wordOf_57 (lv_at hl 1 rfl) ?_
        refine lv_iload hx hb d_Mod_wordOf_59 (lv_at hl 0 rfl) ?_
        refine lv_iadd hx hb d_Mod_wordOf_61 ?_
        refine sd_topi (y := nI (kp + i)) (nI_add _ _) ?_
        refine va_cald hx hb hK hP 2 3 rfl rfl (i := (nI (kp + i))) (vp_in_nI (by omega) (by omega)) d_Mod_wordOf_62 ?_
        refine sd_topi (y := nI ((nmT (w9 :: ws9)).getD i 0)) (by rw [nI_clamp (by omega)]; exact hrow i k2) ?_
        have hc256 : (nmT (w9 :: ws9)).getD i 0 < 256 := by
          rcases Nat.lt_or_ge i w9.length with q | q
          · rw [nmT_in q]; exact (hch i q).2
          · have : i = w9.length := by omega
            subst this; rw [nmT_sep]; decide
        refine lv_bipush (v := (nI 32)) hx hb d_Mod_wordOf_63 (by decide) ?_
        refine lv_icmp_ne (tgt := 71) hx hb d_Mod_wordOf_65 (by decide) (fun c4 => ?_) (fun c4 => ?_)
        · have c4 := mt (nI_eq (by omega) (by omega)).mpr c4
          have hM := (show ¬ nmM tx a (a + c9) w9 from fun q => by
              have e9 : i = w9.length := by have := q.1; omega
              subst e9; exact c4 nmT_sep)
          refine sd_loopr (fun (j : Nat) ls => lv_has ls 7 [(5, .int (nI (kp + j))), (4, .int (nI wi)), (0, .ref m0), (1, .ref qr), (2, .int (nI a)), (3, .int (nI c9))] ∧ (j ≤ w9.length)) (fun (j : Nat) => w9.length - j) 71 [] (fun j ls hI ih3 => ?_) (0) ⟨lv_sub hl [1, 2, 3, 4, 5, 6] rfl, Nat.zero_le _⟩
          obtain ⟨hl, p1⟩ := hI
          refine lv_aload_n hx hb d_Mod_wordOf_71 rfl (lv_at hl 3 rfl) ?_
          refine lv_iload hx hb d_Mod_wordOf_72 (lv_at hl 0 rfl) ?_
          refine va_cald hx hb hK hP 2 3 rfl rfl (i := (nI (kp + j))) (vp_in_nI (by omega) (by omega)) d_Mod_wordOf_74 ?_
          refine sd_topi (y := nI ((nmT (w9 :: ws9)).getD j 0)) (by rw [nI_clamp (by omega)]; exact hrow j p1) ?_
          have hc256 : (nmT (w9 :: ws9)).getD j 0 < 256 := by
            rcases Nat.lt_or_ge j w9.length with q | q
            · rw [nmT_in q]; exact (hch j q).2
            · have : j = w9.length := by omega
              subst this; rw [nmT_sep]; decide
          refine lv_bipush (v := (nI 32)) hx hb d_Mod_wordOf_75 (by decide) ?_
          refine lv_icmp_eq (tgt := 89) hx hb d_Mod_wordOf_77 (by decide) (fun c5 => ?_) (fun c5 => ?_)
          · have c5 := (nI_eq (by omega) (by omega)).mp c5
            have ej : j = w9.length := by
              rcases Nat.lt_or_ge j w9.length with q | q
              · rw [nmT_in q] at c5; exact absurd c5 (hch j q).1
              · omega
            refine lv_iload hx hb d_Mod_wordOf_89 (lv_at hl 0 rfl) ?_
            refine lv_iconst (v := (nI 1)) hx hb d_Mod_wordOf_91 (by decide) ?_
            refine lv_iadd hx hb d_Mod_wordOf_92 ?_
            refine sd_topi (y := nI ((kp + j) + 1)) (nI_add _ _) ?_
            refine lv_istore (lv' := [(5, .int (nI ((kp + j) + 1))), (4, .int (nI wi)), (0, .ref m0), (1, .ref qr), (2, .int (nI a)), (3, .int (nI c9))]) hx hb d_Mod_wordOf_93 hl (by decide) rfl (fun ls hl => ?_)
            refine lv_iload hx hb d_Mod_wordOf_95 (lv_at hl 1 rfl) ?_
            refine lv_iconst (v := (nI 1)) hx hb d_Mod_wordOf_97 (by decide) ?_
            refine lv_iadd hx hb d_Mod_wordOf_98 ?_
            refine sd_topi (y := nI (wi + 1)) (nI_add _ _) ?_
            refine lv_istore (lv' := [(4, .int (nI (wi + 1))), (5, .int (nI ((kp + j) + 1))), (0, .ref m0), (1, .ref qr), (2, .int (nI a)), (3, .int (nI c9))]) hx hb d_Mod_wordOf_99 hl (by decide) rfl (fun ls hl => ?_)
            refine lv_goto (tgt := 6) hx hb d_Mod_wordOf_101 (by decide) ?_
            exact ih (kp + j + 1, wi + 1, ws9) _ ⟨lv_sub hl [1, 0, 2, 3, 4, 5] rfl, by rw [ej, Nat.add_assoc, ← List.drop_drop, h1]; exact nmT_drop, by omega, h3.trans (nmF_f hM), fun w h => h4 w (List.mem_cons_of_mem _ h), by omega⟩ (show N - (kp + j + 1) < N - kp by omega)
          · have c5 := mt (nI_eq (by omega) (by omega)).mpr c5
            have hj : j < w9.length := by
              rcases Nat.lt_or_ge j w9.length with q | q
              · exact q
              · have : j = w9.length := by omega
                subst this; exact absurd nmT_sep c5
            refine lv_iload hx hb d_Mod_wordOf_80 (lv_at hl 0 rfl) ?_
            refine lv_iconst (v := (nI 1)) hx hb d_Mod_wordOf_82 (by decide) ?_
            refine lv_iadd hx hb d_Mod_wordOf_83 ?_
            refine sd_topi (y := nI ((kp + j) + 1)) (nI_add _ _) ?_
            refine lv_istore (lv' := [(5, .int (nI ((kp + j) + 1))), (4, .int (nI wi)), (0, .ref m0), (1, .ref qr), (2, .int (nI a)), (3, .int (nI c9))]) hx hb d_Mod_wordOf_84 hl (by decide) rfl (fun ls hl => ?_)
            refine lv_goto (tgt := 71) hx hb d_Mod_wordOf_86 (by decide) ?_
            exact ih3 (j + 1) _ ⟨lv_sub hl [0, 1, 2, 3, 4, 5] rfl, by omega⟩ (show w9.length - (j + 1) < w9.length - j by omega)
        · have c4 := (nI_eq (by omega) (by omega)).mp c4
          have ew : i = w9.length := by
            rcases Nat.lt_or_ge i w9.length with q | q
            · rw [nmT_in q] at c4; exact absurd c4 (hch i q).1
            · omega
          refine lv_iload hx hb d_Mod_wordOf_68 (lv_at hl 2 rfl) ?_
          exact W.iret (v := (nI wi)) hx hb hr  (fun t ht hW => ⟨_, rfl, by rw [h3]; exact (nmF_t ⟨by omega, fun t ht => k3 t (by omega)⟩).symm, ht⟩) (fun _ h => by cases h) d_Mod_wordOf_70
    · have c2 := mt (nI_leI (by omega) (by omega)).mpr c2
      refine lv_aload_n hx hb d_Mod_wordOf_22 rfl (lv_at hl 4 rfl) ?_
      refine lv_iload hx hb d_Mod_wordOf_23 (lv_at hl 1 rfl) ?_
      refine lv_iload hx hb d_Mod_wordOf_25 (lv_at hl 0 rfl) ?_
      refine lv_iadd hx hb d_Mod_wordOf_27 ?_
      refine sd_topi (y := nI (kp + i)) (nI_add _ _) ?_
      refine va_cald hx hb hK hP 2 3 rfl rfl (i := (nI (kp + i))) (vp_in_nI (by omega) (by omega)) d_Mod_wordOf_28 ?_
      refine sd_topi (y := nI ((nmT (w9 :: ws9)).getD i 0)) (by rw [nI_clamp (by omega)]; exact hrow i k2) ?_
      have hc256 : (nmT (w9 :: ws9)).getD i 0 < 256 := by
        rcases Nat.lt_or_ge i w9.length with q | q
        · rw [nmT_in q]; exact (hch i q).2
        · have : i = w9.length := by omega
          subst this; rw [nmT_sep]; decide
      refine lv_aload_n hx hb d_Mod_wordOf_29 rfl (lv_at hl 3 rfl) ?_
      refine va_get (D := g.1) (ci := 8) (v := .ref mtt) (C := "SignDeskModel") (T := F_Mod) (N := 19) hx hb hts in_Mod hown hK hP 0 rfl rfl 0 (by decide) (hts _ k_494) (fun _ h9 => h9) rfl d_Mod_wordOf_30 ?_
      refine lv_iload_n hx hb d_Mod_wordOf_33 rfl (lv_at hl 5 rfl) ?_
      refine lv_iload hx hb d_Mod_wordOf_34 (lv_at hl 0 rfl) ?_
      refine lv_iadd hx hb d_Mod_wordOf_36 ?_
      refine sd_topi (y := nI (a + i)) (nI_add _ _) ?_
      refine va_iald hx hb hK hP 1 1 rfl rfl (i := (nI (a + i))) (vp_in_nI (by omega) (by omega)) d_Mod_wordOf_37 ?_
      refine sd_topi (y := nI (tx (a + i))) (by rw [nI_clamp (by omega)]; exact hT.2.2.1 _ (by omega)) ?_
      have hb8i := hb8 (a + i)
      refine lv_icmp_ne (tgt := 50) hx hb d_Mod_wordOf_38 (by decide) (fun c6 => ?_) (fun c6 => ?_)
      · have c6 := mt (nI_eq (by omega) (by omega)).mpr c6
        refine lv_iload hx hb d_Mod_wordOf_50 (lv_at hl 0 rfl) ?_
        refine lv_iload_n hx hb d_Mod_wordOf_52 rfl (lv_at hl 6 rfl) ?_
        refine lv_icmp_ne (tgt := 71) hx hb d_Mod_wordOf_53 (by decide) (fun c7 => ?_) (fun c7 => ?_)
        · have c7 := mt (nI_eq (by omega) (by omega)).mpr c7
          have hM := (show ¬ nmM tx a (a + c9) w9 from fun q => by
              have e9 : i < w9.length := by have := q.1; omega
              rw [nmT_in e9] at c6; exact c6 (q.2 i e9))
          refine sd_loopr (fun (j : Nat) ls => lv_has ls 7 [(5, .int (nI (kp + j))), (4, .int (nI wi)), (0, .ref m0), (1, .ref qr), (2, .int (nI a)), (3, .int (nI c9))] ∧ (j ≤ w9.length)) (fun (j : Nat) => w9.length - j) 71 [] (fun j ls hI ih3 => ?_) (0) ⟨lv_sub hl [1, 2, 3, 4, 5, 6] rfl, Nat.zero_le _⟩
          obtain ⟨hl, p1⟩ := hI
          refine lv_aload_n hx hb d_Mod_wordOf_71 rfl (lv_at hl 3 rfl) ?_
          refine lv_iload hx hb d_Mod_wordOf_72 (lv_at hl 0 rfl) ?_
          refine va_cald hx hb hK hP 2 3 rfl rfl (i := (nI (kp + j))) (vp_in_nI (by omega) (by omega)) d_Mod_wordOf_74 ?_
          refine sd_topi (y := nI ((nmT (w9 :: ws9)).getD j 0)) (by rw [nI_clamp (by omega)]; exact hrow j p1) ?_
          have hc256 : (nmT (w9 :: ws9)).getD j 0 < 256 := by
            rcases Nat.lt_or_ge j w9.length with q | q
            · rw [nmT_in q]; exact (hch j q).2
            · have : j = w9.length := by omega
              subst this; rw [nmT_sep]; decide
          refine lv_bipush (v := (nI 32)) hx hb d_Mod_wordOf_75 (by decide) ?_
          refine lv_icmp_eq (tgt := 89) hx hb d_Mod_wordOf_77 (by decide) (fun c8 => ?_) (fun c8 => ?_)
          · have c8 := (nI_eq (by omega) (by omega)).mp c8
            have ej : j = w9.length := by
              rcases Nat.lt_or_ge j w9.length with q | q
              · rw [nmT_in q] at c8; exact absurd c8 (hch j q).1
              · omega
            refine lv_iload hx hb d_Mod_wordOf_89 (lv_at hl 0 rfl) ?_
            refine lv_iconst (v := (nI 1)) hx hb d_Mod_wordOf_91 (by decide) ?_
            refine lv_iadd hx hb d_Mod_wordOf_92 ?_
            refine sd_topi (y := nI ((kp + j) + 1)) (nI_add _ _) ?_
            refine lv_istore (lv' := [(5, .int (nI ((kp + j) + 1))), (4, .int (nI wi)), (0, .ref m0), (1, .ref qr), (2, .int (nI a)), (3, .int (nI c9))]) hx hb d_Mod_wordOf_93 hl (by decide) rfl (fun ls hl => ?_)
            refine lv_iload hx hb d_Mod_wordOf_95 (lv_at hl 1 rfl) ?_
            refine lv_iconst (v := (nI 1)) hx hb d_Mod_wordOf_97 (by decide) ?_
            refine lv_iadd hx hb d_Mod_wordOf_98 ?_
            refine sd_topi (y := nI (wi + 1)) (nI_add _ _) ?_
            refine lv_istore (lv' := [(4, .int (nI (wi + 1))), (5, .int (nI ((kp + j) + 1))), (0, .ref m0), (1, .ref qr), (2, .int (nI a)), (3, .int (nI c9))]) hx hb d_Mod_wordOf_99 hl (by decide) rfl (fun ls hl => ?_)
            refine lv_goto (tgt := 6) hx hb d_Mod_wordOf_101 (by decide) ?_
            exact ih (kp + j + 1, wi + 1, ws9) _ ⟨lv_sub hl [1, 0, 2, 3, 4, 5] rfl, by rw [ej, Nat.add_assoc, ← List.drop_drop, h1]; exact nmT_drop, by omega, h3.trans (nmF_f hM), fun w h => h4 w (List.mem_cons_of_mem _ h), by omega⟩ (show N - (kp + j + 1) < N - kp by omega)
          · have c8 := mt (nI_eq (by omega) (by omega)).mpr c8
            have hj : j < w9.length := by
              rcases Nat.lt_or_ge j w9.length with q | q
              · exact q
              · have : j = w9.length := by omega
                subst this; exact absurd nmT_sep c8
            refine lv_iload hx hb d_Mod_wordOf_80 (lv_at hl 0 rfl) ?_
            refine lv_iconst (v := (nI 1)) hx hb d_Mod_wordOf_82 (by decide) ?_
            refine lv_iadd hx hb d_Mod_wordOf_83 ?_
            refine sd_topi (y := nI ((kp + j) + 1)) (nI_add _ _) ?_
            refine lv_istore (lv' := [(5, .int (nI ((kp + j) + 1))), (4, .int (nI wi)), (0, .ref m0), (1, .ref qr), (2, .int (nI a)), (3, .int (nI c9))]) hx hb d_Mod_wordOf_84 hl (by decide) rfl (fun ls hl => ?_)
            refine lv_goto (tgt := 71) hx hb d_Mod_wordOf_86 (by decide) ?_
            exact ih3 (j + 1) _ ⟨lv_sub hl [0, 1, 2, 3, 4, 5] rfl, by omega⟩ (show w9.length - (j + 1) < w9.length - j by omega)
        · have c7 := (nI_eq (by omega) (by omega)).mp c7
          exact absurd c7 (by omega)
      · have c6 := (nI_eq (by omega) (by omega)).mp c6
        have ew : i < w9.length := by
          rcases Nat.lt_or_ge i w9.length with q | q
          · exact q
          · have e9 : i = w9.length := by omega
            rw [e9, nmT_sep] at c6; exact absurd (e9 ▸ c6.symm) (htk (a + i) (by omega) (by omega))
        rw [nmT_in ew] at c6
        refine lv_iload hx hb d_Mod_wordOf_41 (lv_at hl 0 rfl) ?_
        refine lv_iconst (v := (nI 1)) hx hb d_Mod_wordOf_43 (by decide) ?_
        refine lv_iadd hx hb d_Mod_wordOf_44 ?_
        refine sd_topi (y := nI (i + 1)) (nI_add _ _) ?_
        refine lv_istore (lv' := [(6, .int (nI (i + 1))), (5, .int (nI kp)), (4, .int (nI wi)), (0, .ref m0), (1, .ref qr), (2, .int (nI a)), (3, .int (nI c9))]) hx hb d_Mod_wordOf_45 hl (by decide) rfl (fun ls hl => ?_)
        refine lv_goto (tgt := 16) hx hb d_Mod_wordOf_47 (by decide) ?_
        exact ih2 (i + 1) _ ⟨lv_sub hl [0, 1, 2, 3, 4, 5, 6] rfl, by omega, by omega, fun t ht => by
            rcases Nat.lt_or_ge t i with q | q
            · exact k3 t q
            · have : t = i := by omega
              subst this; exact c6⟩ (show c9 - (i + 1) < c9 - i by omega)
set_option maxHeartbeats 4000000 in
set_option maxRecDepth 100000 in
/-- symbolOf(a, c) -/
theorem c_Mod_symbolOf (l : Launch) (g : sdG) (m0 mtt mcd mat msz mvl mcs mmm mkn mjp mds : Nat) (tk9 sz9 pl9 wd9 ra rd nx9 dn : Int32) (n : Nat) (tf : Nat → Int32) (tx : Nat → Nat) (hT : MTok n tf tx) (st : AS) (s1 s2 s3 : Nat → Int32) (hSR : SR st s1 s2 s3) (hSB : ∀ i, i < sn st → sa st i + sl st i ≤ n) (a c9 : Nat) (hc1 : 1 ≤ c9) (hac : a + c9 ≤ n) (sz : Nat) : Met l y_Mod_symbolOf (.code y_Mod_symbolOf b_Mod_symbolOf 5 (some .int) :: sdT) ({ frames := 0, cells := 0, slots := 0, locals := 0 }) (va_Pc [.ref m0, .int (nI a), .int (nI c9)] (sdU g [(m0, .inr (8, [.ref mtt, .int tk9, .int sz9, .int pl9, .int wd9, .ref mcd, .int (nI (sn st)), .ref mat, .ref msz, .ref mvl, .ref mcs, .ref mmm, .int ra, .int rd, .int nx9, .int dn, .ref mkn, .ref mjp, .ref mds])), (mtt, .inl (gI g, 2000, .inl tf)), (mat, .inl (gI g, 40, .inl s1)), (msz, .inl (gI g, 40, .inl s2)), (mvl, .inl (gI g, 40, .inl s3))] sz)) (va_Qi (S := AS × (Nat → Int32) × (Nat → Int32) × (Nat → Int32)) (fun r u => (∃ c, syO tx st a c9 = (c, u.1) ∧ r = nI c - 1) ∧ SR u.1 u.2.1 u.2.2.1 u.2.2.2) (fun u t => sdB g [(m0, .inr (8, [.ref mtt, .int tk9, .int sz9, .int pl9, .int wd9, .ref mcd, .int (nI (sn st)), .ref mat, .ref msz, .ref mvl, .ref mcs, .ref mmm, .int ra, .int rd, .int nx9, .int dn, .ref mkn, .ref mjp, .ref mds])), (mtt, .inl (gI g, 2000, .inl tf)), (mat, .inl (gI g, 40, .inl s1)), (msz, .inl (gI g, 40, .inl s2)), (mvl, .inl (gI g, 40, .inl s3))] sz ((fun u => [(m0, .inr (8, [.ref mtt, .int tk9, .int sz9, .int pl9, .int wd9, .ref mcd, .int (nI (sn u.1)), .ref mat, .ref msz, .ref mvl, .ref mcs, .ref mmm, .int ra, .int rd, .int nx9, .int dn, .ref mkn, .ref mjp, .ref mds])), (mtt, .inl (gI g, 2000, .inl tf)), (mat, .inl (gI g, 40, .inl u.2.1)), (msz, .inl (gI g, 40, .inl u.2.2.1)), (mvl, .inl (gI g, 40, .inl u.2.2.2))] : AS × (Nat → Int32) × (Nat → Int32) × (Nat → Int32) → va_W) u) t) (va_A [(m0, .inr (8, [.ref mtt, .int tk9, .int sz9, .int pl9, .int wd9, .ref mcd, .int (nI (sn st)), .ref mat, .ref msz, .ref mvl, .ref mcs, .ref mmm, .int ra, .int rd, .int nx9, .int dn, .ref mkn, .ref mjp, .ref mds])), (mtt, .inl (gI g, 2000, .inl tf)), (mat, .inl (gI g, 40, .inl s1)), (msz, .inl (gI g, 40, .inl s2)), (mvl, .inl (gI g, 40, .inl s3))] sz)) 0 0 (va_A [(m0, .inr (8, [.ref mtt, .int tk9, .int sz9, .int pl9, .int wd9, .ref mcd, .int (nI (sn st)), .ref mat, .ref msz, .ref mvl, .ref mcs, .ref mmm, .int ra, .int rd, .int nx9, .int dn, .ref mkn, .ref mjp, .ref mds])), (mtt, .inl (gI g, 2000, .inl tf)), (mat, .inl (gI g, 40, .inl s1)), (msz, .inl (gI g, 40, .inl s2)), (mvl, .inl (gI g, 40, .inl s3))] sz) := by
  refine Met.ofW (cc := b_Mod_symbolOf) (maxL := 5) (ret := (some .int)) (by decide) rfl ?_
  intro p ev s m args below meth c s₁ B hml hv
  obtain ⟨rfl, hsz, hP, hK, hE, hD0, hs0⟩ := hv
  have hx := B.exec
  have hb := B.bytes
  have hr := B.returns
  have hts := fun (w : Cond) (h : w ∈ sdT) => atoms_spec (ws := (.code y_Mod_symbolOf b_Mod_symbolOf 5 (some .int) :: sdT)) B.pre w (List.mem_cons_of_mem _ h)
  have hown : s.vm.findClass "SignDeskModel" = some m.cls := findClass_of_methodNamed B.named
  have hlocks := B.notSynchronized
  subst hsz
  have hD := hD0.self (sz := s.heap.size)
  have hA0 : ∀ q : Nat, va_A [(m0, .inr (8, [.ref mtt, .int tk9, .int sz9, .int pl9, .int wd9, .ref mcd, .int (nI (sn st)), .ref mat, .ref msz, .ref mvl, .ref mcs, .ref mmm, .int ra, .int rd, .int nx9, .int dn, .ref mkn, .ref mjp, .ref mds])), (mtt, .inl (gI g, 2000, .inl tf)), (mat, .inl (gI g, 40, .inl s1)), (msz, .inl (gI g, 40, .inl s2)), (mvl, .inl (gI g, 40, .inl s3))] s.heap.size q → gS g ≤ q := fun q h => h.elim (fun ⟨k, e, hk⟩ => hD0.2 k _ hk) (fun h => Nat.le_trans hs0 h)
  have hA : ∀ q : Nat, s.heap.size ≤ q → va_A [(m0, .inr (8, [.ref mtt, .int tk9, .int sz9, .int pl9, .int wd9, .ref mcd, .int (nI (sn st)), .ref mat, .ref msz, .ref mvl, .ref mcs, .ref mmm, .int ra, .int rd, .int nx9, .int dn, .ref mkn, .ref mjp, .ref mds])), (mtt, .inl (gI g, 2000, .inl tf)), (mat, .inl (gI g, 40, .inl s1)), (msz, .inl (gI g, 40, .inl s2)), (mvl, .inl (gI g, 40, .inl s3))] s.heap.size q := fun q h => Or.inr h
  generalize hAe : va_A [(m0, .inr (8, [.ref mtt, .int tk9, .int sz9, .int pl9, .int wd9, .ref mcd, .int (nI (sn st)), .ref mat, .ref msz, .ref mvl, .ref mcs, .ref mmm, .int ra, .int rd, .int nx9, .int dn, .ref mkn, .ref mjp, .ref mds])), (mtt, .inl (gI g, 2000, .inl tf)), (mat, .inl (gI g, 40, .inl s1)), (msz, .inl (gI g, 40, .inl s2)), (mvl, .inl (gI g, 40, .inl s3))] s.heap.size = A at hD hA0 hA ⊢
  have hS : va_S A s.heap s.heap [] := va_S.rf
  have hP : sdP g [(m0, .inr (8, [.ref mtt, .int tk9, .int sz9, .int pl9, .int wd9, .ref mcd, .int (nI (sn st)), .ref mat, .ref msz, .ref mvl, .ref mcs, .ref mmm, .int ra, .int rd, .int nx9, .int dn, .ref mkn, .ref mjp, .ref mds])), (mtt, .inl (gI g, 2000, .inl tf)), (mat, .inl (gI g, 40, .inl s1)), (msz, .inl (gI g, 40, .inl s2)), (mvl, .inl (gI g, 40, .inl s3))] s.heap := hP
  have hl := lv_entry ([.ref m0, .int (nI a), .int (nI c9)]) (n := 5) (Nat.le_of_ble_eq_true rfl)
  rw [lg_entry_eq]
  generalize (lg_sl ([.ref m0, .int (nI a), .int (nI c9)]) ++ List.replicate (5 - (lg_sl ([.ref m0, .int (nI a), .int (nI c9)])).length) Slot.unset).toArray = ls at hl ⊢
  have hl : lv_has ls 5 [(0, .ref m0), (1, .int (nI a)), (2, .int (nI c9))] := hl
  have hn := hT.1
  have hb8 := hT.2.1
  have h40 := hSR.1
  refine lv_iconst (v := (nI 0)) hx hb d_Mod_symbolOf_0 (by decide) ?_
  refine lv_istore_n (lv' := [(3, .int (nI 0)), (0, .ref m0), (1, .int (nI a)), (2, .int (nI c9))]) hx hb d_Mod_symbolOf_1 rfl hl (by decide) rfl (fun ls hl => ?_)
  refine sd_loopr (fun (i : Nat) ls => lv_has ls 5 [(3, .int (nI i)), (0, .ref m0), (1, .int (nI a)), (2, .int (nI c9))] ∧ (i ≤ sn st) ∧ (∀ j, j < i → ¬ smM tx st a c9 j)) (fun (i : Nat) => sn st - i) 2 [] (fun i ls hI ih => ?_) (0) ⟨lv_sub hl [0, 1, 2, 3] rfl, Nat.zero_le _, fun j h6 => absurd h6 (by omega)⟩
  obtain ⟨hl, h2, h3⟩ := hI
  refine lv_iload_n hx hb d_Mod_symbolOf_2 rfl (lv_at hl 0 rfl) ?_
  refine lv_aload_n hx hb d_Mod_symbolOf_3 rfl (lv_at hl 1 rfl) ?_
  refine va_get (D := g.1) (ci := 8) (v := .int (nI (sn st))) (C := "SignDeskModel") (T := F_Mod) (N := 19) hx hb hts in_Mod hown hK hP 0 rfl rfl 6 (by decide) (hts _ k_500) (fun _ h9 => h9) rfl d_Mod_symbolOf_4 ?_
  refine lv_icmp_ge (tgt := 78) hx hb d_Mod_symbolOf_7 (by decide) (fun c1 => ?_) (fun c1 => ?_)
  · have c1 := (nI_leI (by omega) (by omega)).mp c1
    have e1 : i = sn st := by omega
    rw [e1] at h3
    refine lv_aload_n hx hb d_Mod_symbolOf_78 rfl (lv_at hl 1 rfl) ?_
    refine va_get (D := g.1) (ci := 8) (v := .int (nI (sn st))) (C := "SignDeskModel") (T := F_Mod) (N := 19) hx hb hts in_Mod hown hK hP 0 rfl rfl 6 (by decide) (hts _ k_500) (fun _ h9 => h9) rfl d_Mod_symbolOf_79 ?_
    refine lv_bipush (v := (nI 40)) hx hb d_Mod_symbolOf_82 (by decide) ?_
    refine lv_icmp_ne (tgt := 89) hx hb d_Mod_symbolOf_84 (by decide) (fun c2 => ?_) (fun c2 => ?_)
    · have c2 := mt (nI_eq (by omega) (by omega)).mpr c2
      refine lv_aload_n hx hb d_Mod_symbolOf_89 rfl (lv_at hl 1 rfl) ?_
      refine va_get (D := g.1) (ci := 8) (v := .ref mat) (C := "SignDeskModel") (T := F_Mod) (N := 19) hx hb hts in_Mod hown hK hP 0 rfl rfl 7 (by decide) (hts _ k_501) (fun _ h9 => h9) rfl d_Mod_symbolOf_90 ?_
      refine lv_aload_n hx hb d_Mod_symbolOf_93 rfl (lv_at hl 1 rfl) ?_
      refine va_get (D := g.1) (ci := 8) (v := .int (nI (sn st))) (C := "SignDeskModel") (T := F_Mod) (N := 19) hx hb hts in_Mod hown hK hP 0 rfl rfl 6 (by decide) (hts _ k_500) (fun _ h9 => h9) rfl d_Mod_symbolOf_94 ?_
      refine lv_iload_n hx hb d_Mod_symbolOf_97 rfl (lv_at hl 2 rfl) ?_
      refine va_iast hx hb hK hP hD hS 2 1 rfl rfl (i := (nI (sn st))) (x := (nI a)) (vp_in_nI (by omega) (by omega)) d_Mod_symbolOf_98 (fun H locs hP hD hS => ?_)
      have hP : sdP g [(m0, .inr (8, [.ref mtt, .int tk9, .int sz9, .int pl9, .int wd9, .ref mcd, .int (nI (sn st)), .ref mat, .ref msz, .ref mvl, .ref mcs, .ref mmm, .int ra, .int rd, .int nx9, .int dn, .ref mkn, .ref mjp, .ref mds])), (mtt, .inl (gI g, 2000, .inl tf)), (mat, .inl (gI g, 40, .inl (upd s1 ((nI (sn st))).toNatClampNeg (nI a)))), (msz, .inl (gI g, 40, .inl s2)), (mvl, .inl (gI g, 40, .inl s3))] H := hP
      have hD : va_D A [(m0, .inr (8, [.ref mtt, .int tk9, .int sz9, .int pl9, .int wd9, .ref mcd, .int (nI (sn st)), .ref mat, .ref msz, .ref mvl, .ref mcs, .ref mmm, .int ra, .int rd, .int nx9, .int dn, .ref mkn, .ref mjp, .ref mds])), (mtt, .inl (gI g, 2000, .inl tf)), (mat, .inl (gI g, 40, .inl (upd s1 ((nI (sn st))).toNatClampNeg (nI a)))), (msz, .inl (gI g, 40, .inl s2)), (mvl, .inl (gI g, 40, .inl s3))] := hD
      have eF : (upd s1 ((nI (sn st))).toNatClampNeg (nI a)) = (upd s1 (sn st) (nI a)) := by rw [nI_clamp (by omega)]
      rw [eF] at hP hD
      refine lv_aload_n hx hb d_Mod_symbolOf_99 rfl (lv_at hl 1 rfl) ?_
      refine va_get (D := g.1) (ci := 8) (v := .ref msz) (C := "SignDeskModel") (T := F_Mod) (N := 19) hx hb hts in_Mod hown hK hP 0 rfl rfl 8 (by decide) (hts _ k_502) (fun _ h9 => h9) rfl d_Mod_symbolOf_100 ?_
      refine lv_aload_n hx hb d_Mod_symbolOf_103 rfl (lv_at hl 1 rfl) ?_
      refine va_get (D := g.1) (ci := 8) (v := .int (nI (sn st))) (C := "SignDeskModel") (T := F_Mod) (N := 19) hx hb hts in_Mod hown hK hP 0 rfl rfl 6 (by decide) (hts _ k_500) (fun _ h9 => h9) rfl d_Mod_symbolOf_104 ?_
      refine lv_iload_n hx hb d_Mod_symbolOf_107 rfl (lv_at hl 3 rfl) ?_
      refine va_iast hx hb hK hP hD hS 3 1 rfl rfl (i := (nI (sn st))) (x := (nI c9)) (vp_in_nI (by omega) (by omega)) d_Mod_symbolOf_108 (fun H locs hP hD hS => ?_)
      have hP : sdP g [(m0, .inr (8, [.ref mtt, .int tk9, .int sz9, .int pl9, .int wd9, .ref mcd, .int (nI (sn st)), .ref mat, .ref msz, .ref mvl, .ref mcs, .ref mmm, .int ra, .int rd, .int nx9, .int dn, .ref mkn, .ref mjp, .ref mds])), (mtt, .inl (gI g, 2000, .inl tf)), (mat, .inl (gI g, 40, .inl (upd s1 (sn st) (nI a)))), (msz, .inl (gI g, 40, .inl (upd s2 ((nI (sn st))).toNatClampNeg (nI c9)))), (mvl, .inl (gI g, 40, .inl s3))] H := hP
      have hD : va_D A [(m0, .inr (8, [.ref mtt, .int tk9, .int sz9, .int pl9, .int wd9, .ref mcd, .int (nI (sn st)), .ref mat, .ref msz, .ref mvl, .ref mcs, .ref mmm, .int ra, .int rd, .int nx9, .int dn, .ref mkn, .ref mjp, .ref mds])), (mtt, .inl (gI g, 2000, .inl tf)), (mat, .inl (gI g, 40, .inl (upd s1 (sn st) (nI a)))), (msz, .inl (gI g, 40, .inl (upd s2 ((nI (sn st))).toNatClampNeg (nI c9)))), (mvl, .inl (gI g, 40, .inl s3))] := hD
      have eF : (upd s2 ((nI (sn st))).toNatClampNeg (nI c9)) = (upd s2 (sn st) (nI c9)) := by rw [nI_clamp (by omega)]
      rw [eF] at hP hD
      refine lv_aload_n hx hb d_Mod_symbolOf_109 rfl (lv_at hl 1 rfl) ?_
      refine va_get (D := g.1) (ci := 8) (v := .ref mvl) (C := "SignDeskModel") (T := F_Mod) (N := 19) hx hb hts in_Mod hown hK hP 0 rfl rfl 9 (by decide) (hts _ k_503) (fun _ h9 => h9) rfl d_Mod_symbolOf_110 ?_
      refine lv_aload_n hx hb d_Mod_symbolOf_113 rfl (lv_at hl 1 rfl) ?_
      refine va_get (D := g.1) (ci := 8) (v := .int (nI (sn st))) (C := "SignDeskModel") (T := F_Mod) (N := 19) hx hb hts in_Mod hown hK hP 0 rfl rfl 6 (by decide) (hts _ k_500) (fun _ h9 => h9) rfl d_Mod_symbolOf_114 ?_
      refine lv_iconst (v := (-1)) hx hb d_Mod_symbolOf_117 (by decide) ?_
      refine va_iast hx hb hK hP hD hS 4 1 rfl rfl (i := (nI (sn st))) (x := (-1)) (vp_in_nI (by omega) (by omega)) d_Mod_symbolOf_118 (fun H locs hP hD hS => ?_)
      have hP : sdP g [(m0, .inr (8, [.ref mtt, .int tk9, .int sz9, .int pl9, .int wd9, .ref mcd, .int (nI (sn st)), .ref mat, .ref msz, .ref mvl, .ref mcs, .ref mmm, .int ra, .int rd, .int nx9, .int dn, .ref mkn, .ref mjp, .ref mds])), (mtt, .inl (gI g, 2000, .inl tf)), (mat, .inl (gI g, 40, .inl (upd s1 (sn st) (nI a)))), (msz, .inl (gI g, 40, .inl (upd s2 (sn st) (nI c9)))), (mvl, .inl (gI g, 40, .inl (upd s3 ((nI (sn st))).toNatClampNeg (-1))))] H := hP
      have hD : va_D A [(m0, .inr (8, [.ref mtt, .int tk9, .int sz9, .int pl9, .int wd9, .ref mcd, .int (nI (sn st)), .ref mat, .ref msz, .ref mvl, .ref mcs, .ref mmm, .int ra, .int rd, .int nx9, .int dn, .ref mkn, .ref mjp, .ref mds])), (mtt, .inl (gI g, 2000, .inl tf)), (mat, .inl (gI g, 40, .inl (upd s1 (sn st) (nI a)))), (msz, .inl (gI g, 40, .inl (upd s2 (sn st) (nI c9)))), (mvl, .inl (gI g, 40, .inl (upd s3 ((nI (sn st))).toNatClampNeg (-1))))] := hD
      have eF : (upd s3 ((nI (sn st))).toNatClampNeg (-1)) = (upd s3 (sn st) (-1)) := by rw [nI_clamp (by omega)]
      rw [eF] at hP hD
      refine lv_aload_n hx hb d_Mod_symbolOf_119 rfl (lv_at hl 1 rfl) ?_
      refine lv_aload_n hx hb d_Mod_symbolOf_120 rfl (lv_at hl 1 rfl) ?_
      refine va_get (D := g.1) (ci := 8) (v := .int (nI (sn st))) (C := "SignDeskModel") (T := F_Mod) (N := 19) hx hb hts in_Mod hown hK hP 0 rfl rfl 6 (by decide) (hts _ k_500) (fun _ h9 => h9) rfl d_Mod_symbolOf_121 ?_
      refine lv_iconst (v := (nI 1)) hx hb d_Mod_symbolOf_124 (by decide) ?_
      refine lv_iadd hx hb d_Mod_symbolOf_125 ?_
      refine sd_topi (y := nI ((sn st) + 1)) (nI_add _ _) ?_
      refine va_put (D := g.1) (ci := 8) (v := .int (nI ((sn st) + 1))) (ty := .int) (C := "SignDeskModel") (T := F_Mod) (N := 19) hx hb hts in_Mod t_Mod t_Mod_ok n_Mod hown hK hP hD hS 0 rfl rfl 6 (by decide) (hts _ k_500) (fun _ h9 => h9) rfl (by decide +kernel) rfl rfl (Nat.le_of_ble_eq_true rfl) d_Mod_symbolOf_126 (fun H locs hP hD hS => ?_)
      have hP : sdP g [(m0, .inr (8, [.ref mtt, .int tk9, .int sz9, .int pl9, .int wd9, .ref mcd, .int (nI ((sn st) + 1)), .ref mat, .ref msz, .ref mvl, .ref mcs, .ref mmm, .int ra, .int rd, .int nx9, .int dn, .ref mkn, .ref mjp, .ref mds])), (mtt, .inl (gI g, 2000, .inl tf)), (mat, .inl (gI g, 40, .inl (upd s1 (sn st) (nI a)))), (msz, .inl (gI g, 40, .inl (upd s2 (sn st) (nI c9)))), (mvl, .inl (gI g, 40, .inl (upd s3 (sn st) (-1))))] H := hP
      have hD : va_D A [(m0, .inr (8, [.ref mtt, .int tk9, .int sz9, .int pl9, .int wd9, .ref mcd, .int (nI ((sn st) + 1)), .ref mat, .ref msz, .ref mvl, .ref mcs, .ref mmm, .int ra, .int rd, .int nx9, .int dn, .ref mkn, .ref mjp, .ref mds])), (mtt, .inl (gI g, 2000, .inl tf)), (mat, .inl (gI g, 40, .inl (upd s1 (sn st) (nI a)))), (msz, .inl (gI g, 40, .inl (upd s2 (sn st) (nI c9)))), (mvl, .inl (gI g, 40, .inl (upd s3 (sn st) (-1))))] := hD
      refine lv_aload_n hx hb d_Mod_symbolOf_129 rfl (lv_at hl 1 rfl) ?_
      refine va_get (D := g.1) (ci := 8) (v := .int (nI ((sn st) + 1))) (C := "SignDeskModel") (T := F_Mod) (N := 19) hx hb hts in_Mod hown hK hP 0 rfl rfl 6 (by decide) (hts _ k_500) (fun _ h9 => h9) rfl d_Mod_symbolOf_130 ?_
      refine lv_iconst (v := (nI 1)) hx hb d_Mod_symbolOf_133 (by decide) ?_
      refine lv_isub hx hb d_Mod_symbolOf_134 ?_
      have hP9 := hP.sub (ws' := [(m0, .inr (8, [.ref mtt, .int tk9, .int sz9, .int pl9, .int wd9, .ref mcd, .int (nI ((sn st) + 1)), .ref mat, .ref msz, .ref mvl, .ref mcs, .ref mmm, .int ra, .int rd, .int nx9, .int dn, .ref mkn, .ref mjp, .ref mds])), (mtt, .inl (gI g, 2000, .inl tf)), (mat, .inl (gI g, 40, .inl (upd s1 (sn st) (nI a)))), (msz, .inl (gI g, 40, .inl (upd s2 (sn st) (nI c9)))), (mvl, .inl (gI g, 40, .inl (upd s3 (sn st) (-1))))]) [0, 1, 2, 3, 4] rfl
      have hD9 := hD.sub (ws' := [(m0, .inr (8, [.ref mtt, .int tk9, .int sz9, .int pl9, .int wd9, .ref mcd, .int (nI ((sn st) + 1)), .ref mat, .ref msz, .ref mvl, .ref mcs, .ref mmm, .int ra, .int rd, .int nx9, .int dn, .ref mkn, .ref mjp, .ref mds])), (mtt, .inl (gI g, 2000, .inl tf)), (mat, .inl (gI g, 40, .inl (upd s1 (sn st) (nI a)))), (msz, .inl (gI g, 40, .inl (upd s2 (sn st) (nI c9)))), (mvl, .inl (gI g, 40, .inl (upd s3 (sn st) (-1))))]) [0, 1, 2, 3, 4] (by decide) rfl
      exact W.iret (v := ((nI ((sn st) + 1)) - (nI 1))) hx hb hr (fun t ht hW => ⟨⟨_, (addS st a c9 0, upd s1 (sn st) (nI a), upd s2 (sn st) (nI c9), upd s3 (sn st) (-1)), rfl, ⟨⟨_, syO_new h3 (by omega), rfl⟩, SR_add hSR (by omega) (by omega)⟩, by rw [ht]; exact hP9, by rw [hAe]; exact hD9⟩, hS.F ht⟩) hS.2.2 d_Mod_symbolOf_135
    · have c2 := (nI_eq (by omega) (by omega)).mp c2
      refine lv_iconst (v := (-1)) hx hb d_Mod_symbolOf_87 (by decide) ?_
      have hP9 := hP.sub (ws' := [(m0, .inr (8, [.ref mtt, .int tk9, .int sz9, .int pl9, .int wd9, .ref mcd, .int (nI (sn st)), .ref mat, .ref msz, .ref mvl, .ref mcs, .ref mmm, .int ra, .int rd, .int nx9, .int dn, .ref mkn, .ref mjp, .ref mds])), (mtt, .inl (gI g, 2000, .inl tf)), (mat, .inl (gI g, 40, .inl s1)), (msz, .inl (gI g, 40, .inl s2)), (mvl, .inl (gI g, 40, .inl s3))]) [0, 1, 2, 3, 4] rfl
      have hD9 := hD.sub (ws' := [(m0, .inr (8, [.ref mtt, .int tk9, .int sz9, .int pl9, .int wd9, .ref mcd, .int (nI (sn st)), .ref mat, .ref msz, .ref mvl, .ref mcs, .ref mmm, .int ra, .int rd, .int nx9, .int dn, .ref mkn, .ref mjp, .ref mds])), (mtt, .inl (gI g, 2000, .inl tf)), (mat, .inl (gI g, 40, .inl s1)), (msz, .inl (gI g, 40, .inl s2)), (mvl, .inl (gI g, 40, .inl s3))]) [0, 1, 2, 3, 4] (by decide) rfl
      exact W.iret (v := (-1)) hx hb hr (fun t ht hW => ⟨⟨_, (st, s1, s2, s3), rfl, ⟨⟨_, syO_full h3 (by omega), by decide⟩, hSR⟩, by rw [ht]; exact hP9, by rw [hAe]; exact hD9⟩, hS.F ht⟩) hS.2.2 d_Mod_symbolOf_88
  · have c1 := mt (nI_leI (by omega) (by omega)).mpr c1
    have hi4 : i < sn st := by omega
    obtain ⟨a1, a2, a3, a4, a5⟩ := hSR.2 i hi4
    have a6 := hSB i hi4
    refine lv_iconst (v := (nI 0)) hx hb d_Mod_symbolOf_10 (by decide) ?_
    refine lv_istore (lv' := [(4, .int (nI 0)), (3, .int (nI i)), (0, .ref m0), (1, .int (nI a)), (2, .int (nI c9))]) hx hb d_Mod_symbolOf_11 hl (by decide) rfl (fun ls hl => ?_)
    refine sd_loopr (fun (k : Nat) ls => lv_has ls 5 [(4, .int (nI k)), (3, .int (nI i)), (0, .ref m0), (1, .int (nI a)), (2, .int (nI c9))] ∧ (k ≤ c9) ∧ (0 < k → sl st i = c9) ∧ (∀ j, j < k → tx (sa st i + j) = tx (a + j))) (fun (k : Nat) => c9 - k) 13 [] (fun k ls hI ih2 => ?_) (0) ⟨lv_sub hl [0, 1, 2, 3, 4] rfl, Nat.zero_le _, fun h => absurd h (Nat.lt_irrefl 0), fun j h => absurd h (Nat.not_lt_zero j)⟩
    obtain ⟨hl, k1, k2, k3⟩ := hI
    refine lv_iload hx hb d_Mod_symbolOf_13 (lv_at hl 0 rfl) ?_
    refine lv_iload_n hx hb d_Mod_symbolOf_15 rfl (lv_at hl 4 rfl) ?_
    refine lv_icmp_ge (tgt := 64) hx hb d_Mod_symbolOf_16 (by decide) (fun c3 => ?_) (fun c3 => ?_)
    · have c3 := (nI_leI (by omega) (by omega)).mp c3
      have ek : k = c9 := by omega
      refine lv_iload hx hb d_Mod_symbolOf_64 (lv_at hl 0 rfl) ?_
      refine lv_iload_n hx hb d_Mod_symbolOf_66 rfl (lv_at hl 4 rfl) ?_
      refine lv_icmp_ne (tgt := 72) hx hb d_Mod_symbolOf_67 (by decide) (fun c4 => ?_) (fun c4 => ?_)
      · have c4 := mt (nI_eq (by omega) (by omega)).mpr c4
        exact absurd ek c4
      · have c4 := (nI_eq (by omega) (by omega)).mp c4
        refine lv_iload_n hx hb d_Mod_symbolOf_70 rfl (lv_at hl 1 rfl) ?_
        have hP9 := hP.sub (ws' := [(m0, .inr (8, [.ref mtt, .int tk9, .int sz9, .int pl9, .int wd9, .ref mcd, .int (nI (sn st)), .ref mat, .ref msz, .ref mvl, .ref mcs, .ref mmm, .int ra, .int rd, .int nx9, .int dn, .ref mkn, .ref mjp, .ref mds])), (mtt, .inl (gI g, 2000, .inl tf)), (mat, .inl (gI g, 40, .inl s1)), (msz, .inl (gI g, 40, .inl s2)), (mvl, .inl (gI g, 40, .inl s3))]) [0, 1, 2, 3, 4] rfl
        have hD9 := hD.sub (ws' := [(m0, .inr (8, [.ref mtt, .int tk9, .int sz9, .int pl9, .int wd9, .ref mcd, .int (nI (sn st)), .ref mat, .ref msz, .ref mvl, .ref mcs, .ref mmm, .int ra, .int rd, .int nx9, .int dn, .ref mkn, .ref mjp, .ref mds])), (mtt, .inl (gI g, 2000, .inl tf)), (mat, .inl (gI g, 40, .inl s1)), (msz, .inl (gI g, 40, .inl s2)), (mvl, .inl (gI g, 40, .inl s3))]) [0, 1, 2, 3, 4] (by decide) rfl
        exact W.iret (v := (nI i)) hx hb hr (fun t ht hW => ⟨⟨_, (st, s1, s2, s3), rfl, ⟨⟨_, syO_hit hi4 ⟨k2 (by omega), fun j hj => k3 j (by omega)⟩ h3, (nI_pred _).symm⟩, hSR⟩, by rw [ht]; exact hP9, by rw [hAe]; exact hD9⟩, hS.F ht⟩) hS.2.2 d_Mod_symbolOf_71
    · have c3 := mt (nI_leI (by omega) (by omega)).mpr c3
      refine lv_aload_n hx hb d_Mod_symbolOf_19 rfl (lv_at hl 2 rfl) ?_
      refine va_get (D := g.1) (ci := 8) (v := .ref msz) (C := "SignDeskModel") (T := F_Mod) (N := 19) hx hb hts in_Mod hown hK hP 0 rfl rfl 8 (by decide) (hts _ k_502) (fun _ h9 => h9) rfl d_Mod_symbolOf_20 ?_
      refine lv_iload_n hx hb d_Mod_symbolOf_23 rfl (lv_at hl 1 rfl) ?_
      refine va_iald hx hb hK hP 3 1 rfl rfl (i := (nI i)) (vp_in_nI (by omega) (by omega)) d_Mod_symbolOf_24 ?_
      refine sd_topi (y := nI (sl st i)) (by rw [nI_clamp (by omega)]; exact a2) ?_
      refine lv_iload_n hx hb d_Mod_symbolOf_25 rfl (lv_at hl 4 rfl) ?_
      refine lv_icmp_ne (tgt := 64) hx hb d_Mod_symbolOf_26 (by decide) (fun c5 => ?_) (fun c5 => ?_)
      · have c5 := mt (nI_eq (by omega) (by omega)).mpr c5
        refine lv_iload hx hb d_Mod_symbolOf_64 (lv_at hl 0 rfl) ?_
        refine lv_iload_n hx hb d_Mod_symbolOf_66 rfl (lv_at hl 4 rfl) ?_
        refine lv_icmp_ne (tgt := 72) hx hb d_Mod_symbolOf_67 (by decide) (fun c6 => ?_) (fun c6 => ?_)
        · have c6 := mt (nI_eq (by omega) (by omega)).mpr c6
          refine lv_iinc (v := (nI (i + 1))) (lv' := [(3, .int (nI (i + 1))), (4, .int (nI k)), (0, .ref m0), (1, .int (nI a)), (2, .int (nI c9))]) hx hb d_Mod_symbolOf_72 hl (k := 1) rfl (nI_1 _) (by decide) rfl (fun ls hl => ?_)
          refine lv_goto (tgt := 2) hx hb d_Mod_symbolOf_75 (by decide) ?_
          exact ih (i + 1) _ ⟨lv_sub hl [0, 2, 3, 4] rfl, by omega, fun j h6 => by
              rcases Nat.lt_or_ge j i with q | q
              · exact h3 j q
              · have : j = i := by omega
                subst this; exact fun q => c5 q.1⟩ (show sn st - (i + 1) < sn st - i by omega)
        · have c6 := (nI_eq (by omega) (by omega)).mp c6
          exact absurd c6 (by omega)
      · have c5 := (nI_eq (by omega) (by omega)).mp c5
        refine lv_aload_n hx hb d_Mod_symbolOf_29 rfl (lv_at hl 2 rfl) ?_
        refine va_get (D := g.1) (ci := 8) (v := .ref mtt) (C := "SignDeskModel") (T := F_Mod) (N := 19) hx hb hts in_Mod hown hK hP 0 rfl rfl 0 (by decide) (hts _ k_494) (fun _ h9 => h9) rfl d_Mod_symbolOf_30 ?_
        refine lv_aload_n hx hb d_Mod_symbolOf_33 rfl (lv_at hl 2 rfl) ?_
        refine va_get (D := g.1) (ci := 8) (v := .ref mat) (C := "SignDeskModel") (T := F_Mod) (N := 19) hx hb hts in_Mod hown hK hP 0 rfl rfl 7 (by decide) (hts _ k_501) (fun _ h9 => h9) rfl d_Mod_symbolOf_34 ?_
        refine lv_iload_n hx hb d_Mod_symbolOf_37 rfl (lv_at hl 1 rfl) ?_
        refine va_iald hx hb hK hP 2 1 rfl rfl (i := (nI i)) (vp_in_nI (by omega) (by omega)) d_Mod_symbolOf_38 ?_
        refine sd_topi (y := nI (sa st i)) (by rw [nI_clamp (by omega)]; exact a1) ?_
        refine lv_iload hx hb d_Mod_symbolOf_39 (lv_at hl 0 rfl) ?_
        refine lv_iadd hx hb d_Mod_symbolOf_41 ?_
        refine sd_topi (y := nI ((sa st i) + k)) (nI_add _ _) ?_
        refine va_iald hx hb hK hP 1 1 rfl rfl (i := (nI ((sa st i) + k))) (vp_in_nI (by omega) (by omega)) d_Mod_symbolOf_42 ?_
        refine sd_topi (y := nI (tx (sa st i + k))) (by rw [nI_clamp (by omega)]; exact hT.2.2.1 _ (by omega)) ?_
        have hb8i := hb8 (sa st i + k)
        refine lv_aload_n hx hb d_Mod_symbolOf_43 rfl (lv_at hl 2 rfl) ?_
        refine va_get (D := g.1) (ci := 8) (v := .ref mtt) (C := "SignDeskModel") (T := F_Mod) (N := 19) hx hb hts in_Mod hown hK hP 0 rfl rfl 0 (by decide) (hts _ k_494) (fun _ h9 => h9) rfl d_Mod_symbolOf_44 ?_
        refine lv_iload_n hx hb d_Mod_symbolOf_47 rfl (lv_at hl 3 rfl) ?_
        refine lv_iload hx hb d_Mod_symbolOf_48 (lv_at hl 0 rfl) ?_
        refine lv_iadd hx hb d_Mod_symbolOf_50 ?_
        refine sd_topi (y := nI (a + k)) (nI_add _ _) ?_
        have hb8j := hb8 (a + k)
        refine va_iald hx hb hK hP 1 1 rfl rfl (i := (nI (a + k))) (vp_in_nI (by omega) (by omega)) d_Mod_symbolOf_51 ?_
        refine sd_topi (y := nI (tx (a + k))) (by rw [nI_clamp (by omega)]; exact hT.2.2.1 _ (by omega)) ?_
        have hb8i := hb8 (a + k)
        have hb8k := hb8 (sa st i + k)
        refine lv_icmp_ne (tgt := 64) hx hb d_Mod_symbolOf_52 (by decide) (fun c7 => ?_) (fun c7 => ?_)
        · have c7 := mt (nI_eq (by omega) (by omega)).mpr c7
          refine lv_iload hx hb d_Mod_symbolOf_64 (lv_at hl 0 rfl) ?_
          refine lv_iload_n hx hb d_Mod_symbolOf_66 rfl (lv_at hl 4 rfl) ?_
          refine lv_icmp_ne (tgt := 72) hx hb d_Mod_symbolOf_67 (by decide) (fun c8 => ?_) (fun c8 => ?_)
          · have c8 := mt (nI_eq (by omega) (by omega)).mpr c8
            refine lv_iinc (v := (nI (i + 1))) (lv' := [(3, .int (nI (i + 1))), (4, .int (nI k)), (0, .ref m0), (1, .int (nI a)), (2, .int (nI c9))]) hx hb d_Mod_symbolOf_72 hl (k := 1) rfl (nI_1 _) (by decide) rfl (fun ls hl => ?_)
            refine lv_goto (tgt := 2) hx hb d_Mod_symbolOf_75 (by decide) ?_
            exact ih (i + 1) _ ⟨lv_sub hl [0, 2, 3, 4] rfl, by omega, fun j h6 => by
                rcases Nat.lt_or_ge j i with q | q
                · exact h3 j q
                · have : j = i := by omega
                  subst this; exact fun q => c7 (q.2 k (by omega))⟩ (show sn st - (i + 1) < sn st - i by omega)
          · have c8 := (nI_eq (by omega) (by omega)).mp c8
            exact absurd c8 (by omega)
        · have c7 := (nI_eq (by omega) (by omega)).mp c7
          refine lv_iload hx hb d_Mod_symbolOf_55 (lv_at hl 0 rfl) ?_
          refine lv_iconst (v := (nI 1)) hx hb d_Mod_symbolOf_57 (by decide) ?_
          refine lv_iadd hx hb d_Mod_symbolOf_58 ?_
          refine sd_topi (y := nI (k + 1)) (nI_add _ _) ?_
          refine lv_istore (lv' := [(4, .int (nI (k + 1))), (3, .int (nI i)), (0, .ref m0), (1, .int (nI a)), (2, .int (nI c9))]) hx hb d_Mod_symbolOf_59 hl (by decide) rfl (fun ls hl => ?_)
          refine lv_goto (tgt := 13) hx hb d_Mod_symbolOf_61 (by decide) ?_
          exact ih2 (k + 1) _ ⟨lv_sub hl [0, 1, 2, 3, 4] rfl, by omega, fun _ => c5, fun j hj => by
              rcases Nat.lt_or_ge j k with q | q
              · exact k3 j q
              · have : j = k := by omega
                subst this; exact c7⟩ (show c9 - (k + 1) < c9 - k by omega)
