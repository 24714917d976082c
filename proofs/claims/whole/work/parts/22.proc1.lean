set_option maxHeartbeats 4000000 in
set_option maxRecDepth 100000 in
/-- clear() -/
theorem c_Mem_clear (l : Launch) (g : sdG) (qm qp : Nat) (pf : Nat → Option Nat) (L : List Nat) (fE : Nat → va_E) (M : Nat → Int32) (pg : Nat → Bool) (hM : memOK g pf L fE M pg) (sz : Nat) : Met l y_Mem_clear (.code y_Mem_clear b_Mem_clear 3 none :: sdT) ({ frames := 1, cells := 0, slots := 0, locals := 23 }) (va_Pc [.ref qm] (sdU g ([(qm, .inr (0, [.ref qp])), (qp, .inl (gP g, 128, .inr (.inr (.inr (.inr pf)))))] ++ va_pl L fE) sz)) (va_Qv (S := (Nat → va_E)) (fun u => memOK g pf L u (fun _ => 0) pg) (fun u t => sdB g ([(qm, .inr (0, [.ref qp])), (qp, .inl (gP g, 128, .inr (.inr (.inr (.inr pf)))))] ++ va_pl L fE) sz ((fun u => ([(qm, .inr (0, [.ref qp])), (qp, .inl (gP g, 128, .inr (.inr (.inr (.inr pf)))))] ++ va_pl L u) : (Nat → va_E) → va_W) u) t) (va_A ([(qm, .inr (0, [.ref qp])), (qp, .inl (gP g, 128, .inr (.inr (.inr (.inr pf)))))] ++ va_pl L fE) sz)) 0 0 (va_A ([(qm, .inr (0, [.ref qp])), (qp, .inl (gP g, 128, .inr (.inr (.inr (.inr pf)))))] ++ va_pl L fE) sz) := by
  refine Met.ofW (cc := b_Mem_clear) (maxL := 3) (ret := none) (by decide) rfl ?_
  intro p ev s m args below meth c s₁ B hml hv
  obtain ⟨rfl, hsz, hP, hK, hE, hD0, hs0⟩ := hv
  have hx := B.exec
  have hb := B.bytes
  have hr := B.returns
  have hts := fun (w : Cond) (h : w ∈ sdT) => atoms_spec (ws := (.code y_Mem_clear b_Mem_clear 3 none :: sdT)) B.pre w (List.mem_cons_of_mem _ h)
  have hown : s.vm.findClass "SignDesk$Memory" = some m.cls := findClass_of_methodNamed B.named
  have hlocks := B.notSynchronized
  subst hsz
  have hD := hD0.self (sz := s.heap.size)
  have hA0 : ∀ q : Nat, va_A ([(qm, .inr (0, [.ref qp])), (qp, .inl (gP g, 128, .inr (.inr (.inr (.inr pf)))))] ++ va_pl L fE) s.heap.size q → gS g ≤ q := fun q h => h.elim (fun ⟨k, e, hk⟩ => hD0.2 k _ hk) (fun h => Nat.le_trans hs0 h)
  have hA : ∀ q : Nat, s.heap.size ≤ q → va_A ([(qm, .inr (0, [.ref qp])), (qp, .inl (gP g, 128, .inr (.inr (.inr (.inr pf)))))] ++ va_pl L fE) s.heap.size q := fun q h => Or.inr h
  generalize hAe : va_A ([(qm, .inr (0, [.ref qp])), (qp, .inl (gP g, 128, .inr (.inr (.inr (.inr pf)))))] ++ va_pl L fE) s.heap.size = A at hD hA0 hA ⊢
  have hS : va_S A s.heap s.heap [] := va_S.rf
  have hP : sdP g ([(qm, .inr (0, [.ref qp])), (qp, .inl (gP g, 128, .inr (.inr (.inr (.inr pf)))))] ++ va_pl L fE) s.heap := hP
  have hl := lv_entry ([.ref qm]) (n := 3) (Nat.le_of_ble_eq_true rfl)
  rw [lg_entry_eq]
  generalize (lg_sl ([.ref qm]) ++ List.replicate (3 - (lg_sl ([.ref qm])).length) Slot.unset).toArray = ls at hl ⊢
  have hl : lv_has ls 3 [(0, .ref qm)] := hl
  refine lv_iconst (v := (nI 0)) hx hb d_Mem_clear_0 (by decide) ?_
  refine lv_istore_n (lv' := [(1, .int (nI 0)), (0, .ref qm)]) hx hb d_Mem_clear_1 rfl hl (by decide) rfl (fun ls hl => ?_)
  refine sd_loop (fun (x : Heap × List Loc × Array Slot × Nat × (Nat → va_E)) => match x with | (H, locs, ls, i, f1) => lv_has ls 3 [(1, .int (nI i)), (0, .ref qm)] ∧ sdP g ([(qm, .inr (0, [.ref qp])), (qp, .inl (gP g, 128, .inr (.inr (.inr (.inr pf)))))] ++ va_pl L f1) H ∧ va_D A ([(qm, .inr (0, [.ref qp])), (qp, .inl (gP g, 128, .inr (.inr (.inr (.inr pf)))))] ++ va_pl L f1) ∧ va_S A s.heap H locs ∧ (i ≤ 128) ∧ (memOK g pf L f1 (fun x => if x < 256 * i then 0 else M x) pg)) (fun (x : Heap × List Loc × Array Slot × Nat × (Nat → va_E)) => match x with | (H, locs, ls, i, f1) => 128 - i) (fun x => x.1) (fun x => x.2.1) (fun (x : Heap × List Loc × Array Slot × Nat × (Nat → va_E)) => match x with | (H, locs, ls, i, f1) => 0) (fun (x : Heap × List Loc × Array Slot × Nat × (Nat → va_E)) => match x with | (H, locs, ls, i, f1) => 0) (fun x => F0 m 2 x.2.2.1 []) (fun x hI ih => ?_) (s.heap, _, ls, 0, fE) ⟨lv_sub hl [0, 1] rfl, hP.part [0, 1] rfl, hD.part [0, 1] (by decide) rfl, hS, Nat.zero_le _, memOK_congr hM (fun x _ => by rw [if_neg (by omega)])⟩
  obtain ⟨H, locs, ls, i, f1⟩ := x
  obtain ⟨hl, hP, hD, hS, h1, hM1⟩ := hI
  show W p l ev _ s m _ below meth c H locs (0) (0) _ (F0 m 2 ls [])
  have hP : sdP g ([(qm, .inr (0, [.ref qp])), (qp, .inl (gP g, 128, .inr (.inr (.inr (.inr pf)))))] ++ va_pl L f1) H := hP
  have hD : va_D A ([(qm, .inr (0, [.ref qp])), (qp, .inl (gP g, 128, .inr (.inr (.inr (.inr pf)))))] ++ va_pl L f1) := hD
  refine lv_iload_n hx hb d_Mem_clear_2 rfl (lv_at hl 0 rfl) ?_
  refine lv_sipush (v := (nI 128)) hx hb d_Mem_clear_3 (by decide) ?_
  refine lv_icmp_ge (tgt := 34) hx hb d_Mem_clear_6 (by decide) (fun c1 => ?_) (fun c1 => ?_)
  · have c1 := (nI_leI (by omega) (by omega)).mp c1
    have e1 : i = 128 := by omega
    subst e1
    have hP9 := hP.part (cx := [(qm, .inr (0, [.ref qp])), (qp, .inl (gP g, 128, .inr (.inr (.inr (.inr pf)))))]) [0, 1] rfl
    have hD9 := hD.part (cx := [(qm, .inr (0, [.ref qp])), (qp, .inl (gP g, 128, .inr (.inr (.inr (.inr pf)))))]) [0, 1] (by decide) rfl
    exact W.vret hx hb hr (fun t ht hW => ⟨⟨f1, rfl, memOK_congr hM1 (fun x hx => by rw [if_pos hx]), by rw [ht]; exact hP9, by rw [hAe]; exact hD9⟩, hS.F ht⟩) hS.2.2 d_Mem_clear_34
  · have c1 := mt (nI_leI (by omega) (by omega)).mpr c1
    refine lv_aload_n hx hb d_Mem_clear_9 rfl (lv_at hl 1 rfl) ?_
    refine va_get (D := g.1) (ci := 0) (v := .ref qp) (C := "SignDesk$Memory") (T := F_Mem) (N := 1) hx hb hts in_Mem hown hK hP 0 rfl rfl 0 (by decide) (hts _ k_128) (fun _ h9 => h9) rfl d_Mem_clear_10 ?_
    refine lv_iload_n hx hb d_Mem_clear_13 rfl (lv_at hl 0 rfl) ?_
    refine va_aldq hx hb hK hP 1 2 rfl rfl (i := nI i) (vp_in_nI (by omega) (by decide)) d_Mem_clear_14 ?_
    rw [nI_clamp (by omega)]
    rcases hM1.1 i (by omega) with ⟨hp1, hp2, hp3⟩ | ⟨hp1, a9, b9, h9, hp2, ha9, hb9, hfa, hfb, hh9⟩
    · rw [hp2]
      refine lv_astore_nN (lv' := [(2, .null), (1, .int (nI i)), (0, .ref qm)]) hx hb d_Mem_clear_15 rfl hl (by decide) rfl (fun ls hl => ?_)
      refine lv_aload_nN hx hb d_Mem_clear_16 rfl (lv_at hl 0 rfl) ?_
      refine lv_ifnullN (tgt := 28) hx hb d_Mem_clear_17 (by decide) ?_
      refine lv_iinc (v := (nI (i + 1))) (lv' := [(1, .int (nI (i + 1))), (2, .null), (0, .ref qm)]) hx hb d_Mem_clear_28 hl (k := 1) rfl (nI_1 _) (by decide) rfl (fun ls hl => ?_)
      refine lv_goto (tgt := 2) hx hb d_Mem_clear_31 (by decide) ?_
      exact ih (H, locs, ls, i + 1, f1) ⟨lv_sub hl [0, 2] rfl, hP.part [0, 1] rfl, hD.part [0, 1] (by decide) rfl, hS, by omega, memOK_congr hM1 (fun x hx => by
          by_cases q : x < 256 * i
          · rw [if_pos q, if_pos (by omega)]
          · rw [if_neg q]
            by_cases q2 : x < 256 * (i + 1)
            · have h9 := hp3 (x - 256 * i) (by omega)
              rw [show 256 * i + (x - 256 * i) = x by omega] at h9
              dsimp only at h9
              rw [if_neg q] at h9
              rw [if_pos q2, h9]
            · rw [if_neg q2])⟩ (show 128 - (i + 1) < 128 - i by omega)
    · rw [hp2]
      refine lv_astore_n (lv' := [(2, .ref a9), (1, .int (nI i)), (0, .ref qm)]) hx hb d_Mem_clear_15 rfl hl (by decide) rfl (fun ls hl => ?_)
      refine lv_aload_n hx hb d_Mem_clear_16 rfl (lv_at hl 0 rfl) ?_
      refine lv_ifnull hx hb d_Mem_clear_17 ?_
      refine lv_aload_n hx hb d_Mem_clear_20 rfl (lv_at hl 0 rfl) ?_
      obtain ⟨ka, hka⟩ := va_pl_get (X := [(qm, .inr (0, [.ref qp])), (qp, .inl (gP g, 128, .inr (.inr (.inr (.inr pf)))))]) (f := f1) ha9
      rw [hfa] at hka
      obtain ⟨kb, hkb⟩ := va_pl_get (X := [(qm, .inr (0, [.ref qp])), (qp, .inl (gP g, 128, .inr (.inr (.inr (.inr pf)))))]) (f := f1) hb9
      have hks := fun e9 => va_pl_set (e := e9) hD hb9 hkb
      rw [hfb] at hkb
      refine va_getN (C := "SignDesk$Page") (T := F_Pag) (N := 1) (ci := 1) hx hb hts in_Pag hown hK hP ka hka rfl 0 (by decide) (va_Nw.use rfl hE.2.2.2.2.2.2.2.1.2.2.2.2) (fun _ h9 => h9) (v := .ref b9) rfl d_Mem_clear_21 ?_
      refine lv_iconst (v := (nI 0)) hx hb d_Mem_clear_24 (by decide) ?_
      have hFc := va_freeP (cx := [(qm, .inr (0, [.ref qp])), (qp, .inl (gP g, 128, .inr (.inr (.inr (.inr pf)))))]) hD hS hA [0, 1] rfl
      refine sd_cv (va_runS (As := [.ref b9, .int (nI 0)]) (rest := []) ⟨hx, hb, hml, hown, hts⟩ (c_JA_fill l g ([(qm, .inr (0, [.ref qp])), (qp, .inl (gP g, 128, .inr (.inr (.inr (.inr pf)))))] ++ va_pl L f1) kb b9 256 h9 (by decide) hkb (nI 0) H.size) (va_cwS 2 hts (sd_gS k_387 k_388 k_35 k_389) rfl rfl rfl (by decide +kernel) ⟨Nat.le_of_ble_eq_true rfl, Nat.le_of_ble_eq_true rfl⟩) (sd_preSU hK hE hS hA0 hs0 hP hD) rfl rfl hl.1 rfl (lv_room (Nat.le_of_ble_eq_true rfl)) d_Mem_clear_25 ⟨Nat.zero_le _, Nat.zero_le _⟩) hS hFc (fun u H1 locs hw hP1 hD1 hk1 hS => ?_)
      rw [hks] at hP1 hD1
      have hP := hP1
      have hD := hD1.weaken (B := A) (fun _ _ _ h => hFc _ h)
      clear hP1 hD1 hk1 hFc
      generalize H1 = H at hP hS ⊢
      have hP : sdP g ([(qm, .inr (0, [.ref qp])), (qp, .inl (gP g, 128, .inr (.inr (.inr (.inr pf)))))] ++ va_pl L (va_up f1 b9 (.inl (gI g, 256, .inl u)))) H := hP
      have hD : va_D A ([(qm, .inr (0, [.ref qp])), (qp, .inl (gP g, 128, .inr (.inr (.inr (.inr pf)))))] ++ va_pl L (va_up f1 b9 (.inl (gI g, 256, .inl u)))) := hD
      refine lv_iinc (v := (nI (i + 1))) (lv' := [(1, .int (nI (i + 1))), (2, .ref a9), (0, .ref qm)]) hx hb d_Mem_clear_28 hl (k := 1) rfl (nI_1 _) (by decide) rfl (fun ls hl => ?_)
      refine lv_goto (tgt := 2) hx hb d_Mem_clear_31 (by decide) ?_
      exact ih (H, locs, ls, i + 1, va_up f1 b9 (.inl (gI g, 256, .inl u))) ⟨lv_sub hl [0, 2] rfl, hP.part [0, 1] rfl, hD.part [0, 1] (by decide) rfl, hS, by omega, memOK_set hM1 (by omega) hp2 hfa hfb (fun j hj => by rw [hw j hj, if_pos (by omega)]; rfl) (fun x hx => by
          by_cases q : x < 256 * i
          · rw [if_pos q, if_pos (by omega)]
          · rw [if_neg q, if_neg (by omega)])⟩ (show 128 - (i + 1) < 128 - i by omega)
def aluZ (b m v : Int32) : Int32 := if b &&& m = 0 then v else nI 0
def aluN (b m v : Int32) : Int32 := if b &&& m = 0 then v else v ^^^ (-1)
def aluT (b l r : Int32) : Int32 := if b &&& nI 2 = 0 then l &&& r else l + r
def alu (b x y : Int32) : Int32 := (aluN b (nI 1) (aluT b (aluN b (nI 16) (aluZ b (nI 32) x)) (aluN b (nI 4) (aluZ b (nI 8) y)))).toInt16.toInt32
set_option maxHeartbeats 4000000 in
set_option maxRecDepth 100000 in
/-- compute(b, x, y) -/
theorem c_Prc_compute (l : Launch) (b x y : Int32) : Met l y_Prc_compute (.code y_Prc_compute b_Prc_compute 6 (some .int) :: sdT) ({ frames := 0, cells := 0, slots := 0, locals := 0 }) (fun v _ => v = ([.int b, .int x, .int y] : List Value).toArray) (vp_Si (fun r => r = alu b x y)) 0 0 (fun _ => False) := by
  refine Met.ofW (cc := b_Prc_compute) (maxL := 6) (ret := (some .int)) (by decide) rfl ?_
  intro p e s m args below meth c s₁ B hml hv
  subst hv
  have hx := B.exec
  have hb := B.bytes
  have hr := B.returns
  have hts := fun (w : Cond) (h : w ∈ sdT) => atoms_spec (ws := (.code y_Prc_compute b_Prc_compute 6 (some .int) :: sdT)) B.pre w (List.mem_cons_of_mem _ h)
  have hown : s.vm.findClass "SignDesk$Processor" = some m.cls := findClass_of_methodNamed B.named
  have hlocks := B.notSynchronized
  have hl := lv_entry ([.int b, .int x, .int y]) (n := 6) (Nat.le_of_ble_eq_true rfl)
  rw [lg_entry_eq]
  generalize (lg_sl ([.int b, .int x, .int y]) ++ List.replicate (6 - (lg_sl ([.int b, .int x, .int y])).length) Slot.unset).toArray = ls at hl ⊢
  have hl : lv_has ls 6 [(0, .int b), (1, .int x), (2, .int y)] := hl
  refine lv_iload_n hx hb d_Prc_compute_0 rfl (lv_at hl 0 rfl) ?_
  refine lv_bipush (v := (nI 32)) hx hb d_Prc_compute_1 (by decide) ?_
  refine lv_iand hx hb d_Prc_compute_3 ?_
  refine sd_cutv (ls := ls) (fun z => z = aluZ b (nI 32) x) 12 [] (fun z9 ez9 => ?_) (fun kJ => ?_)
  · subst ez9
    refine lv_istore_n (lv' := [(3, .int (aluZ b (nI 32) x)), (0, .int b), (1, .int x), (2, .int y)]) hx hb d_Prc_compute_12 rfl hl (by decide) rfl (fun ls hl => ?_)
    refine lv_iload_n hx hb d_Prc_compute_13 rfl (lv_at hl 1 rfl) ?_
    refine lv_bipush (v := (nI 16)) hx hb d_Prc_compute_14 (by decide) ?_
    refine lv_iand hx hb d_Prc_compute_16 ?_
    refine sd_cutv (ls := ls) (fun z => z = aluN b (nI 16) (aluZ b (nI 32) x)) 27 [] (fun z9 ez9 => ?_) (fun kJ => ?_)
    · subst ez9
      refine lv_istore_n (lv' := [(3, .int (aluN b (nI 16) (aluZ b (nI 32) x))), (0, .int b), (1, .int x), (2, .int y)]) hx hb d_Prc_compute_27 rfl hl (by decide) rfl (fun ls hl => ?_)
      refine lv_iload_n hx hb d_Prc_compute_28 rfl (lv_at hl 1 rfl) ?_
      refine lv_bipush (v := (nI 8)) hx hb d_Prc_compute_29 (by decide) ?_
      refine lv_iand hx hb d_Prc_compute_31 ?_
      refine sd_cutv (ls := ls) (fun z => z = aluZ b (nI 8) y) 40 [] (fun z9 ez9 => ?_) (fun kJ => ?_)
      · subst ez9
        refine lv_istore (lv' := [(4, .int (aluZ b (nI 8) y)), (3, .int (aluN b (nI 16) (aluZ b (nI 32) x))), (0, .int b), (1, .int x), (2, .int y)]) hx hb d_Prc_compute_40 hl (by decide) rfl (fun ls hl => ?_)
        refine lv_iload_n hx hb d_Prc_compute_42 rfl (lv_at hl 2 rfl) ?_
        refine lv_iconst (v := (nI 4)) hx hb d_Prc_compute_43 (by decide) ?_
        refine lv_iand hx hb d_Prc_compute_44 ?_
        refine sd_cutv (ls := ls) (fun z => z = aluN b (nI 4) (aluZ b (nI 8) y)) 57 [] (fun z9 ez9 => ?_) (fun kJ => ?_)
        · subst ez9
          refine lv_istore (lv' := [(4, .int (aluN b (nI 4) (aluZ b (nI 8) y))), (3, .int (aluN b (nI 16) (aluZ b (nI 32) x))), (0, .int b), (1, .int x), (2, .int y)]) hx hb d_Prc_compute_57 hl (by decide) rfl (fun ls hl => ?_)
          refine lv_iload_n hx hb d_Prc_compute_59 rfl (lv_at hl 2 rfl) ?_
          refine lv_iconst (v := (nI 2)) hx hb d_Prc_compute_60 (by decide) ?_
          refine lv_iand hx hb d_Prc_compute_61 ?_
          refine sd_cutv (ls := ls) (fun z => z = aluT b (aluN b (nI 16) (aluZ b (nI 32) x)) (aluN b (nI 4) (aluZ b (nI 8) y))) 76 [] (fun z9 ez9 => ?_) (fun kJ => ?_)
          · subst ez9
            refine lv_istore (lv' := [(5, .int (aluT b (aluN b (nI 16) (aluZ b (nI 32) x)) (aluN b (nI 4) (aluZ b (nI 8) y)))), (4, .int (aluN b (nI 4) (aluZ b (nI 8) y))), (3, .int (aluN b (nI 16) (aluZ b (nI 32) x))), (0, .int b), (1, .int x), (2, .int y)]) hx hb d_Prc_compute_76 hl (by decide) rfl (fun ls hl => ?_)
            refine lv_iload_n hx hb d_Prc_compute_78 rfl (lv_at hl 3 rfl) ?_
            refine lv_iconst (v := (nI 1)) hx hb d_Prc_compute_79 (by decide) ?_
            refine lv_iand hx hb d_Prc_compute_80 ?_
            refine sd_cutv (ls := ls) (fun z => z = aluN b (nI 1) (aluT b (aluN b (nI 16) (aluZ b (nI 32) x)) (aluN b (nI 4) (aluZ b (nI 8) y)))) 93 [] (fun z9 ez9 => ?_) (fun kJ => ?_)
            · subst ez9
              refine lv_i2s hx hb d_Prc_compute_93 rfl ?_
              exact W.iret (v := (((aluN b (nI 1) (aluT b (aluN b (nI 16) (aluZ b (nI 32) x)) (aluN b (nI 4) (aluZ b (nI 8) y))))).toInt16.toInt32)) hx hb hr  (fun t ht hW => ⟨_, rfl, rfl, ht⟩) (fun _ h => by cases h) d_Prc_compute_94
            · refine lv_if_eq (tgt := 91) hx hb d_Prc_compute_81 (by decide) (fun c1 => ?_) (fun c1 => ?_)
              · refine lv_iload hx hb d_Prc_compute_91 (lv_at hl 0 rfl) ?_
                exact kJ _ ((if_pos c1).symm)
              · refine lv_iload hx hb d_Prc_compute_84 (lv_at hl 0 rfl) ?_
                refine lv_iconst (v := (-1)) hx hb d_Prc_compute_86 (by decide) ?_
                refine lv_ixor hx hb d_Prc_compute_87 ?_
                refine lv_goto (tgt := 93) hx hb d_Prc_compute_88 (by decide) ?_
                exact kJ _ ((if_neg c1).symm)
          · refine lv_if_eq (tgt := 72) hx hb d_Prc_compute_62 (by decide) (fun c1 => ?_) (fun c1 => ?_)
            · refine lv_iload_n hx hb d_Prc_compute_72 rfl (lv_at hl 1 rfl) ?_
              refine lv_iload hx hb d_Prc_compute_73 (lv_at hl 0 rfl) ?_
              refine lv_iand hx hb d_Prc_compute_75 ?_
              exact kJ _ ((if_pos c1).symm)
            · refine lv_iload_n hx hb d_Prc_compute_65 rfl (lv_at hl 1 rfl) ?_
              refine lv_iload hx hb d_Prc_compute_66 (lv_at hl 0 rfl) ?_
              refine lv_iadd hx hb d_Prc_compute_68 ?_
              refine lv_goto (tgt := 76) hx hb d_Prc_compute_69 (by decide) ?_
              exact kJ _ ((if_neg c1).symm)
        · refine lv_if_eq (tgt := 55) hx hb d_Prc_compute_45 (by decide) (fun c1 => ?_) (fun c1 => ?_)
          · refine lv_iload hx hb d_Prc_compute_55 (lv_at hl 0 rfl) ?_
            exact kJ _ ((if_pos c1).symm)
          · refine lv_iload hx hb d_Prc_compute_48 (lv_at hl 0 rfl) ?_
            refine lv_iconst (v := (-1)) hx hb d_Prc_compute_50 (by decide) ?_
            refine lv_ixor hx hb d_Prc_compute_51 ?_
            refine lv_goto (tgt := 57) hx hb d_Prc_compute_52 (by decide) ?_
            exact kJ _ ((if_neg c1).symm)
      · refine lv_if_eq (tgt := 39) hx hb d_Prc_compute_32 (by decide) (fun c1 => ?_) (fun c1 => ?_)
        · refine lv_iload_n hx hb d_Prc_compute_39 rfl (lv_at hl 3 rfl) ?_
          exact kJ _ ((if_pos c1).symm)
        · refine lv_iconst (v := (nI 0)) hx hb d_Prc_compute_35 (by decide) ?_
          refine lv_goto (tgt := 40) hx hb d_Prc_compute_36 (by decide) ?_
          exact kJ _ ((if_neg c1).symm)
    · refine lv_if_eq (tgt := 26) hx hb d_Prc_compute_17 (by decide) (fun c1 => ?_) (fun c1 => ?_)
      · refine lv_iload_n hx hb d_Prc_compute_26 rfl (lv_at hl 0 rfl) ?_
        exact kJ _ ((if_pos c1).symm)
      · refine lv_iload_n hx hb d_Prc_compute_20 rfl (lv_at hl 0 rfl) ?_
        refine lv_iconst (v := (-1)) hx hb d_Prc_compute_21 (by decide) ?_
        refine lv_ixor hx hb d_Prc_compute_22 ?_
        refine lv_goto (tgt := 27) hx hb d_Prc_compute_23 (by decide) ?_
        exact kJ _ ((if_neg c1).symm)
  · refine lv_if_eq (tgt := 11) hx hb d_Prc_compute_4 (by decide) (fun c1 => ?_) (fun c1 => ?_)
    · refine lv_iload_n hx hb d_Prc_compute_11 rfl (lv_at hl 1 rfl) ?_
      exact kJ _ ((if_pos c1).symm)
    · refine lv_iconst (v := (nI 0)) hx hb d_Prc_compute_7 (by decide) ?_
      refine lv_goto (tgt := 12) hx hb d_Prc_compute_8 (by decide) ?_
      exact kJ _ ((if_neg c1).symm)
