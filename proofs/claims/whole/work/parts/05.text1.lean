set_option maxHeartbeats 4000000 in
set_option maxRecDepth 100000 in
/-- size() -/
theorem c_Txt_size (l : Launch) (g : sdG) (q1 q5 n : Nat) (f : Nat → Int32) (tx : Nat → Nat) (hT : TXok n f tx) : Met l y_Txt_size (.code y_Txt_size b_Txt_size 1 (some .int) :: sdT) ({ frames := 0, cells := 0, slots := 0, locals := 0 }) (va_Pc [.ref q1] (sdR g [(q1, .inr (6, [.ref q5, .int (nI n)])), (q5, .inl (gB g, 2000, .inl f))])) (vp_Si (fun r => r = nI n)) 0 0 (fun _ => False) := by
  refine Met.ofW (cc := b_Txt_size) (maxL := 1) (ret := (some .int)) (by decide) rfl ?_
  intro p ev s m args below meth c s₁ B hml hv
  obtain ⟨rfl, hP, hK, hE⟩ := hv
  have hx := B.exec
  have hb := B.bytes
  have hr := B.returns
  have hts := fun (w : Cond) (h : w ∈ sdT) => atoms_spec (ws := (.code y_Txt_size b_Txt_size 1 (some .int) :: sdT)) B.pre w (List.mem_cons_of_mem _ h)
  have hown : s.vm.findClass "SignDesk$Text" = some m.cls := findClass_of_methodNamed B.named
  have hlocks := B.notSynchronized
  have hF : ∀ a : Nat, a < s.heap.size → ¬ sdA g a → s.heap[a]? = s.heap[a]? := fun _ _ _ => rfl
  have hP : sdP g [(q1, .inr (6, [.ref q5, .int (nI n)])), (q5, .inl (gB g, 2000, .inl f))] s.heap := hP
  have hl := lv_entry ([.ref q1]) (n := 1) (Nat.le_of_ble_eq_true rfl)
  rw [lg_entry_eq]
  generalize (lg_sl ([.ref q1]) ++ List.replicate (1 - (lg_sl ([.ref q1])).length) Slot.unset).toArray = ls at hl ⊢
  have hl : lv_has ls 1 [(0, .ref q1)] := hl
  have hn := hT.1
  have hb8 := hT.2.1
  refine lv_aload_n hx hb d_Txt_size_0 rfl (lv_at hl 0 rfl) ?_
  refine va_get (D := g.1) (ci := 6) (v := .int (nI n)) (C := "SignDesk$Text") (T := F_Txt) (N := 2) hx hb hts in_Txt hown hK hP 0 rfl rfl 1 (by decide) (hts _ k_52) (fun _ h9 => h9) rfl d_Txt_size_1 ?_
  exact W.iret (v := (nI n)) hx hb hr  (fun t ht hW => ⟨_, rfl, rfl, ht⟩) (fun _ h => by cases h) d_Txt_size_4
set_option maxHeartbeats 4000000 in
set_option maxRecDepth 100000 in
/-- byteAt(i) -/
theorem c_Txt_byteAt (l : Launch) (g : sdG) (q1 q5 n : Nat) (f : Nat → Int32) (tx : Nat → Nat) (hT : TXok n f tx) (i : Nat) (hi : i < 2 ^ 31) : Met l y_Txt_byteAt (.code y_Txt_byteAt b_Txt_byteAt 2 (some .int) :: sdT) ({ frames := 0, cells := 0, slots := 0, locals := 0 }) (va_Pc [.ref q1, .int (nI i)] (sdR g [(q1, .inr (6, [.ref q5, .int (nI n)])), (q5, .inl (gB g, 2000, .inl f))])) (vp_Si (fun r => r = nI (tx i))) 0 0 (fun _ => False) := by
  refine Met.ofW (cc := b_Txt_byteAt) (maxL := 2) (ret := (some .int)) (by decide) rfl ?_
  intro p ev s m args below meth c s₁ B hml hv
  obtain ⟨rfl, hP, hK, hE⟩ := hv
  have hx := B.exec
  have hb := B.bytes
  have hr := B.returns
  have hts := fun (w : Cond) (h : w ∈ sdT) => atoms_spec (ws := (.code y_Txt_byteAt b_Txt_byteAt 2 (some .int) :: sdT)) B.pre w (List.mem_cons_of_mem _ h)
  have hown : s.vm.findClass "SignDesk$Text" = some m.cls := findClass_of_methodNamed B.named
  have hlocks := B.notSynchronized
  have hF : ∀ a : Nat, a < s.heap.size → ¬ sdA g a → s.heap[a]? = s.heap[a]? := fun _ _ _ => rfl
  have hP : sdP g [(q1, .inr (6, [.ref q5, .int (nI n)])), (q5, .inl (gB g, 2000, .inl f))] s.heap := hP
  have hl := lv_entry ([.ref q1, .int (nI i)]) (n := 2) (Nat.le_of_ble_eq_true rfl)
  rw [lg_entry_eq]
  generalize (lg_sl ([.ref q1, .int (nI i)]) ++ List.replicate (2 - (lg_sl ([.ref q1, .int (nI i)])).length) Slot.unset).toArray = ls at hl ⊢
  have hl : lv_has ls 2 [(0, .ref q1), (1, .int (nI i))] := hl
  have hn := hT.1
  have hb8 := hT.2.1
  refine lv_iload_n hx hb d_Txt_byteAt_0 rfl (lv_at hl 1 rfl) ?_
  refine lv_if_lt (tgt := 25) hx hb d_Txt_byteAt_1 (by decide) (fun c1 => ?_) (fun c1 => ?_)
  · exact absurd c1 (nI_pos (by omega))
  · refine lv_iload_n hx hb d_Txt_byteAt_4 rfl (lv_at hl 1 rfl) ?_
    refine lv_aload_n hx hb d_Txt_byteAt_5 rfl (lv_at hl 0 rfl) ?_
    refine va_get (D := g.1) (ci := 6) (v := .int (nI n)) (C := "SignDesk$Text") (T := F_Txt) (N := 2) hx hb hts in_Txt hown hK hP 0 rfl rfl 1 (by decide) (hts _ k_52) (fun _ h9 => h9) rfl d_Txt_byteAt_6 ?_
    refine lv_icmp_ge (tgt := 25) hx hb d_Txt_byteAt_9 (by decide) (fun c2 => ?_) (fun c2 => ?_)
    · have c2 := (nI_leI (by omega) (by omega)).mp c2
      refine lv_bipush (v := (nI 10)) hx hb d_Txt_byteAt_25 (by decide) ?_
      exact W.iret (v := (nI 10)) hx hb hr  (fun t ht hW => ⟨_, rfl, by rw [hT.2.2.2 i c2], ht⟩) (fun _ h => by cases h) d_Txt_byteAt_27
    · have c2 := mt (nI_leI (by omega) (by omega)).mpr c2
      have hi2 : i < n := by omega
      refine lv_aload_n hx hb d_Txt_byteAt_12 rfl (lv_at hl 0 rfl) ?_
      refine va_get (D := g.1) (ci := 6) (v := .ref q5) (C := "SignDesk$Text") (T := F_Txt) (N := 2) hx hb hts in_Txt hown hK hP 0 rfl rfl 0 (by decide) (hts _ k_51) (fun _ h9 => h9) rfl d_Txt_byteAt_13 ?_
      refine lv_iload_n hx hb d_Txt_byteAt_16 rfl (lv_at hl 1 rfl) ?_
      refine va_bald hx hb hK hP 1 0 rfl rfl (i := (nI i)) (vp_in_nI (by omega) (by omega)) d_Txt_byteAt_17 ?_
      refine lv_sipush (v := (nI 255)) hx hb d_Txt_byteAt_18 (by decide) ?_
      refine lv_iand hx hb d_Txt_byteAt_21 ?_
      refine lv_goto (tgt := 27) hx hb d_Txt_byteAt_22 (by decide) ?_
      exact W.iret (v := ((f ((nI i)).toNatClampNeg) &&& (nI 255))) hx hb hr  (fun t ht hW => ⟨_, rfl, by rw [nI_clamp (by omega)]; exact hT.2.2.1 i hi2, ht⟩) (fun _ h => by cases h) d_Txt_byteAt_27
set_option maxHeartbeats 4000000 in
set_option maxRecDepth 100000 in
/-- isLineEnd(i) -/
theorem c_Txt_isLineEnd (l : Launch) (g : sdG) (q1 q5 n : Nat) (f : Nat → Int32) (tx : Nat → Nat) (hT : TXok n f tx) (i : Nat) (hi : i < 2 ^ 30) : Met l y_Txt_isLineEnd (.code y_Txt_isLineEnd b_Txt_isLineEnd 2 (some .boolean) :: sdT) ({ frames := 1, cells := 0, slots := 0, locals := 21 }) (va_Pc [.ref q1, .int (nI i)] (sdR g [(q1, .inr (6, [.ref q5, .int (nI n)])), (q5, .inl (gB g, 2000, .inl f))])) (vp_Si (fun r => r = sb (tx i = 10))) 0 0 (fun _ => False) := by
  refine Met.ofW (cc := b_Txt_isLineEnd) (maxL := 2) (ret := (some .boolean)) (by decide) rfl ?_
  intro p ev s m args below meth c s₁ B hml hv
  obtain ⟨rfl, hP, hK, hE⟩ := hv
  have hx := B.exec
  have hb := B.bytes
  have hr := B.returns
  have hts := fun (w : Cond) (h : w ∈ sdT) => atoms_spec (ws := (.code y_Txt_isLineEnd b_Txt_isLineEnd 2 (some .boolean) :: sdT)) B.pre w (List.mem_cons_of_mem _ h)
  have hown : s.vm.findClass "SignDesk$Text" = some m.cls := findClass_of_methodNamed B.named
  have hlocks := B.notSynchronized
  have hF : ∀ a : Nat, a < s.heap.size → ¬ sdA g a → s.heap[a]? = s.heap[a]? := fun _ _ _ => rfl
  have hP : sdP g [(q1, .inr (6, [.ref q5, .int (nI n)])), (q5, .inl (gB g, 2000, .inl f))] s.heap := hP
  have hl := lv_entry ([.ref q1, .int (nI i)]) (n := 2) (Nat.le_of_ble_eq_true rfl)
  rw [lg_entry_eq]
  generalize (lg_sl ([.ref q1, .int (nI i)]) ++ List.replicate (2 - (lg_sl ([.ref q1, .int (nI i)])).length) Slot.unset).toArray = ls at hl ⊢
  have hl : lv_has ls 2 [(0, .ref q1), (1, .int (nI i))] := hl
  have hn := hT.1
  have hb8 := hT.2.1
  refine lv_aload_n hx hb d_Txt_isLineEnd_0 rfl (lv_at hl 0 rfl) ?_
  refine lv_iload_n hx hb d_Txt_isLineEnd_1 rfl (lv_at hl 1 rfl) ?_
  refine sd_ri (va_runV (As := [.int (nI i)]) (rest := []) ⟨hx, hb, hml, hown, hts⟩ (c_Txt_byteAt l g q1 q5 n f tx hT (i) (by omega)) (cwV 1 hts (sd_gV k_200 k_201 k_202 k_24 k_203) rfl rfl rfl (by decide +kernel) ⟨Nat.le_of_ble_eq_true rfl, Nat.le_of_ble_eq_true rfl⟩) (sd_preV hK hE hF (hP.sub (ws' := [(q1, .inr (6, [.ref q5, .int (nI n)])), (q5, .inl (gB g, 2000, .inl f))]) [0, 1] rfl) rfl rfl) rfl rfl hl.1 rfl (lv_room (Nat.le_of_ble_eq_true rfl)) d_Txt_isLineEnd_2 ⟨Nat.zero_le _, Nat.zero_le _⟩) (fun r1 er1 => ?_)
  subst er1
  have hb8i := hb8 (i)
  refine lv_bipush (v := (nI 10)) hx hb d_Txt_isLineEnd_5 (by decide) ?_
  refine lv_icmp_ne (tgt := 14) hx hb d_Txt_isLineEnd_7 (by decide) (fun c2 => ?_) (fun c2 => ?_)
  · have c2 := mt (nI_eq (by omega) (by omega)).mpr c2
    refine lv_iconst (v := (nI 0)) hx hb d_Txt_isLineEnd_14 (by decide) ?_
    exact W.zret (v := (nI 0)) hx hb hr (by first | rfl | decide | exact sb_nar) (fun t ht hW => ⟨_, rfl, (sb_f c2).symm, ht⟩) (fun _ h => by cases h) d_Txt_isLineEnd_15
  · have c2 := (nI_eq (by omega) (by omega)).mp c2
    refine lv_iconst (v := (nI 1)) hx hb d_Txt_isLineEnd_10 (by decide) ?_
    refine lv_goto (tgt := 15) hx hb d_Txt_isLineEnd_11 (by decide) ?_
    exact W.zret (v := (nI 1)) hx hb hr (by first | rfl | decide | exact sb_nar) (fun t ht hW => ⟨_, rfl, (sb_t c2).symm, ht⟩) (fun _ h => by cases h) d_Txt_isLineEnd_15
set_option maxHeartbeats 4000000 in
set_option maxRecDepth 100000 in
/-- isBlank(i) -/
theorem c_Txt_isBlank (l : Launch) (g : sdG) (q1 q5 n : Nat) (f : Nat → Int32) (tx : Nat → Nat) (hT : TXok n f tx) (i : Nat) (hi : i < 2 ^ 30) : Met l y_Txt_isBlank (.code y_Txt_isBlank b_Txt_isBlank 3 (some .boolean) :: sdT) ({ frames := 1, cells := 0, slots := 0, locals := 21 }) (va_Pc [.ref q1, .int (nI i)] (sdR g [(q1, .inr (6, [.ref q5, .int (nI n)])), (q5, .inl (gB g, 2000, .inl f))])) (vp_Si (fun r => r = sb (tx i = 9 ∨ tx i = 13 ∨ tx i = 32))) 0 0 (fun _ => False) := by
  refine Met.ofW (cc := b_Txt_isBlank) (maxL := 3) (ret := (some .boolean)) (by decide) rfl ?_
  intro p ev s m args below meth c s₁ B hml hv
  obtain ⟨rfl, hP, hK, hE⟩ := hv
  have hx := B.exec
  have hb := B.bytes
  have hr := B.returns
  have hts := fun (w : Cond) (h : w ∈ sdT) => atoms_spec (ws := (.code y_Txt_isBlank b_Txt_isBlank 3 (some .boolean) :: sdT)) B.pre w (List.mem_cons_of_mem _ h)
  have hown : s.vm.findClass "SignDesk$Text" = some m.cls := findClass_of_methodNamed B.named
  have hlocks := B.notSynchronized
  have hF : ∀ a : Nat, a < s.heap.size → ¬ sdA g a → s.heap[a]? = s.heap[a]? := fun _ _ _ => rfl
  have hP : sdP g [(q1, .inr (6, [.ref q5, .int (nI n)])), (q5, .inl (gB g, 2000, .inl f))] s.heap := hP
  have hl := lv_entry ([.ref q1, .int (nI i)]) (n := 3) (Nat.le_of_ble_eq_true rfl)
  rw [lg_entry_eq]
  generalize (lg_sl ([.ref q1, .int (nI i)]) ++ List.replicate (3 - (lg_sl ([.ref q1, .int (nI i)])).length) Slot.unset).toArray = ls at hl ⊢
  have hl : lv_has ls 3 [(0, .ref q1), (1, .int (nI i))] := hl
  have hn := hT.1
  have hb8 := hT.2.1
  refine lv_aload_n hx hb d_Txt_isBlank_0 rfl (lv_at hl 0 rfl) ?_
  refine lv_iload_n hx hb d_Txt_isBlank_1 rfl (lv_at hl 1 rfl) ?_
  refine sd_ri (va_runV (As := [.int (nI i)]) (rest := []) ⟨hx, hb, hml, hown, hts⟩ (c_Txt_byteAt l g q1 q5 n f tx hT (i) (by omega)) (cwV 1 hts (sd_gV k_200 k_201 k_202 k_24 k_203) rfl rfl rfl (by decide +kernel) ⟨Nat.le_of_ble_eq_true rfl, Nat.le_of_ble_eq_true rfl⟩) (sd_preV hK hE hF (hP.sub (ws' := [(q1, .inr (6, [.ref q5, .int (nI n)])), (q5, .inl (gB g, 2000, .inl f))]) [0, 1] rfl) rfl rfl) rfl rfl hl.1 rfl (lv_room (Nat.le_of_ble_eq_true rfl)) d_Txt_isBlank_2 ⟨Nat.zero_le _, Nat.zero_le _⟩) (fun r1 er1 => ?_)
  subst er1
  have hb8i := hb8 (i)
  refine lv_istore_n (lv' := [(2, .int (nI (tx (i)))), (0, .ref q1), (1, .int (nI i))]) hx hb d_Txt_isBlank_5 rfl hl (by decide) rfl (fun ls hl => ?_)
  refine lv_iload_n hx hb d_Txt_isBlank_6 rfl (lv_at hl 0 rfl) ?_
  refine lv_bipush (v := (nI 9)) hx hb d_Txt_isBlank_7 (by decide) ?_
  refine lv_icmp_eq (tgt := 24) hx hb d_Txt_isBlank_9 (by decide) (fun c2 => ?_) (fun c2 => ?_)
  · have c2 := (nI_eq (by omega) (by omega)).mp c2
    refine lv_iconst (v := (nI 1)) hx hb d_Txt_isBlank_24 (by decide) ?_
    refine lv_goto (tgt := 29) hx hb d_Txt_isBlank_25 (by decide) ?_
    exact W.zret (v := (nI 1)) hx hb hr (by first | rfl | decide | exact sb_nar) (fun t ht hW => ⟨_, rfl, (sb_t (by omega)).symm, ht⟩) (fun _ h => by cases h) d_Txt_isBlank_29
  · have c2 := mt (nI_eq (by omega) (by omega)).mpr c2
    refine lv_iload_n hx hb d_Txt_isBlank_12 rfl (lv_at hl 0 rfl) ?_
    refine lv_bipush (v := (nI 13)) hx hb d_Txt_isBlank_13 (by decide) ?_
    refine lv_icmp_eq (tgt := 24) hx hb d_Txt_isBlank_15 (by decide) (fun c3 => ?_) (fun c3 => ?_)
    · have c3 := (nI_eq (by omega) (by omega)).mp c3
      refine lv_iconst (v := (nI 1)) hx hb d_Txt_isBlank_24 (by decide) ?_
      refine lv_goto (tgt := 29) hx hb d_Txt_isBlank_25 (by decide) ?_
      exact W.zret (v := (nI 1)) hx hb hr (by first | rfl | decide | exact sb_nar) (fun t ht hW => ⟨_, rfl, (sb_t (by omega)).symm, ht⟩) (fun _ h => by cases h) d_Txt_isBlank_29
    · have c3 := mt (nI_eq (by omega) (by omega)).mpr c3
      refine lv_iload_n hx hb d_Txt_isBlank_18 rfl (lv_at hl 0 rfl) ?_
      refine lv_bipush (v := (nI 32)) hx hb d_Txt_isBlank_19 (by decide) ?_
      refine lv_icmp_ne (tgt := 28) hx hb d_Txt_isBlank_21 (by decide) (fun c4 => ?_) (fun c4 => ?_)
      · have c4 := mt (nI_eq (by omega) (by omega)).mpr c4
        refine lv_iconst (v := (nI 0)) hx hb d_Txt_isBlank_28 (by decide) ?_
        exact W.zret (v := (nI 0)) hx hb hr (by first | rfl | decide | exact sb_nar) (fun t ht hW => ⟨_, rfl, (sb_f (by omega)).symm, ht⟩) (fun _ h => by cases h) d_Txt_isBlank_29
      · have c4 := (nI_eq (by omega) (by omega)).mp c4
        refine lv_iconst (v := (nI 1)) hx hb d_Txt_isBlank_24 (by decide) ?_
        refine lv_goto (tgt := 29) hx hb d_Txt_isBlank_25 (by decide) ?_
        exact W.zret (v := (nI 1)) hx hb hr (by first | rfl | decide | exact sb_nar) (fun t ht hW => ⟨_, rfl, (sb_t (by omega)).symm, ht⟩) (fun _ h => by cases h) d_Txt_isBlank_29
set_option maxHeartbeats 4000000 in
set_option maxRecDepth 100000 in
/-- isComment(i) -/
theorem c_Txt_isComment (l : Launch) (g : sdG) (q1 q5 n : Nat) (f : Nat → Int32) (tx : Nat → Nat) (hT : TXok n f tx) (i : Nat) (hi : i < 2 ^ 30) : Met l y_Txt_isComment (.code y_Txt_isComment b_Txt_isComment 2 (some .boolean) :: sdT) ({ frames := 1, cells := 0, slots := 0, locals := 21 }) (va_Pc [.ref q1, .int (nI i)] (sdR g [(q1, .inr (6, [.ref q5, .int (nI n)])), (q5, .inl (gB g, 2000, .inl f))])) (vp_Si (fun r => r = sb (tx i = 47 ∧ tx (i + 1) = 47))) 0 0 (fun _ => False) := by
  refine Met.ofW (cc := b_Txt_isComment) (maxL := 2) (ret := (some .boolean)) (by decide) rfl ?_
  intro p ev s m args below meth c s₁ B hml hv
  obtain ⟨rfl, hP, hK, hE⟩ := hv
  have hx := B.exec
  have hb := B.bytes
  have hr := B.returns
  have hts := fun (w : Cond) (h : w ∈ sdT) => atoms_spec (ws := (.code y_Txt_isComment b_Txt_isComment 2 (some .boolean) :: sdT)) B.pre w (List.mem_cons_of_mem _ h)
  have hown : s.vm.findClass "SignDesk$Text" = some m.cls := findClass_of_methodNamed B.named
  have hlocks := B.notSynchronized
  have hF : ∀ a : Nat, a < s.heap.size → ¬ sdA g a → s.heap[a]? = s.heap[a]? := fun _ _ _ => rfl
  have hP : sdP g [(q1, .inr (6, [.ref q5, .int (nI n)])), (q5, .inl (gB g, 2000, .inl f))] s.heap := hP
  have hl := lv_entry ([.ref q1, .int (nI i)]) (n := 2) (Nat.le_of_ble_eq_true rfl)
  rw [lg_entry_eq]
  generalize (lg_sl ([.ref q1, .int (nI i)]) ++ List.replicate (2 - (lg_sl ([.ref q1, .int (nI i)])).length) Slot.unset).toArray = ls at hl ⊢
  have hl : lv_has ls 2 [(0, .ref q1), (1, .int (nI i))] := hl
  have hn := hT.1
  have hb8 := hT.2.1
  refine lv_aload_n hx hb d_Txt_isComment_0 rfl (lv_at hl 0 rfl) ?_
  refine lv_iload_n hx hb d_Txt_isComment_1 rfl (lv_at hl 1 rfl) ?_
  refine sd_ri (va_runV (As := [.int (nI i)]) (rest := []) ⟨hx, hb, hml, hown, hts⟩ (c_Txt_byteAt l g q1 q5 n f tx hT (i) (by omega)) (cwV 1 hts (sd_gV k_200 k_201 k_202 k_24 k_203) rfl rfl rfl (by decide +kernel) ⟨Nat.le_of_ble_eq_true rfl, Nat.le_of_ble_eq_true rfl⟩) (sd_preV hK hE hF (hP.sub (ws' := [(q1, .inr (6, [.ref q5, .int (nI n)])), (q5, .inl (gB g, 2000, .inl f))]) [0, 1] rfl) rfl rfl) rfl rfl hl.1 rfl (lv_room (Nat.le_of_ble_eq_true rfl)) d_Txt_isComment_2 ⟨Nat.zero_le _, Nat.zero_le _⟩) (fun r1 er1 => ?_)
  subst er1
  have hb8i := hb8 (i)
  refine lv_bipush (v := (nI 47)) hx hb d_Txt_isComment_5 (by decide) ?_
  refine lv_icmp_ne (tgt := 26) hx hb d_Txt_isComment_7 (by decide) (fun c2 => ?_) (fun c2 => ?_)
  · have c2 := mt (nI_eq (by omega) (by omega)).mpr c2
    refine lv_iconst (v := (nI 0)) hx hb d_Txt_isComment_26 (by decide) ?_
    exact W.zret (v := (nI 0)) hx hb hr (by first | rfl | decide | exact sb_nar) (fun t ht hW => ⟨_, rfl, (sb_f (by omega)).symm, ht⟩) (fun _ h => by cases h) d_Txt_isComment_27
  · have c2 := (nI_eq (by omega) (by omega)).mp c2
    refine lv_aload_n hx hb d_Txt_isComment_10 rfl (lv_at hl 0 rfl) ?_
    refine lv_iload_n hx hb d_Txt_isComment_11 rfl (lv_at hl 1 rfl) ?_
    refine lv_iconst (v := (nI 1)) hx hb d_Txt_isComment_12 (by decide) ?_
    refine lv_iadd hx hb d_Txt_isComment_13 ?_
    refine sd_topi (y := nI (i + 1)) (nI_add _ _) ?_
    refine sd_ri (va_runV (As := [.int (nI (i + 1))]) (rest := []) ⟨hx, hb, hml, hown, hts⟩ (c_Txt_byteAt l g q1 q5 n f tx hT (i + 1) (by omega)) (cwV 1 hts (sd_gV k_200 k_201 k_202 k_24 k_203) rfl rfl rfl (by decide +kernel) ⟨Nat.le_of_ble_eq_true rfl, Nat.le_of_ble_eq_true rfl⟩) (sd_preV hK hE hF (hP.sub (ws' := [(q1, .inr (6, [.ref q5, .int (nI n)])), (q5, .inl (gB g, 2000, .inl f))]) [0, 1] rfl) rfl rfl) rfl rfl hl.1 rfl (lv_room (Nat.le_of_ble_eq_true rfl)) d_Txt_isComment_14 ⟨Nat.zero_le _, Nat.zero_le _⟩) (fun r3 er3 => ?_)
    subst er3
    have hb8i := hb8 (i + 1)
    refine lv_bipush (v := (nI 47)) hx hb d_Txt_isComment_17 (by decide) ?_
    refine lv_icmp_ne (tgt := 26) hx hb d_Txt_isComment_19 (by decide) (fun c4 => ?_) (fun c4 => ?_)
    · have c4 := mt (nI_eq (by omega) (by omega)).mpr c4
      refine lv_iconst (v := (nI 0)) hx hb d_Txt_isComment_26 (by decide) ?_
      exact W.zret (v := (nI 0)) hx hb hr (by first | rfl | decide | exact sb_nar) (fun t ht hW => ⟨_, rfl, (sb_f (by omega)).symm, ht⟩) (fun _ h => by cases h) d_Txt_isComment_27
    · have c4 := (nI_eq (by omega) (by omega)).mp c4
      refine lv_iconst (v := (nI 1)) hx hb d_Txt_isComment_22 (by decide) ?_
      refine lv_goto (tgt := 27) hx hb d_Txt_isComment_23 (by decide) ?_
      exact W.zret (v := (nI 1)) hx hb hr (by first | rfl | decide | exact sb_nar) (fun t ht hW => ⟨_, rfl, (sb_t (by omega)).symm, ht⟩) (fun _ h => by cases h) d_Txt_isComment_27
set_option maxHeartbeats 4000000 in
set_option maxRecDepth 100000 in
/-- isDigit(c) -/
theorem c_Txt_isDigit (l : Launch) (k : Nat) (hk : k < 256) : Met l y_Txt_isDigit (.code y_Txt_isDigit b_Txt_isDigit 1 (some .boolean) :: sdT) ({ frames := 0, cells := 0, slots := 0, locals := 0 }) (fun v _ => v = ([.int (nI k)] : List Value).toArray) (vp_Si (fun r => r = sb (48 ≤ k ∧ k ≤ 57))) 0 0 (fun _ => False) := by
  refine Met.ofW (cc := b_Txt_isDigit) (maxL := 1) (ret := (some .boolean)) (by decide) rfl ?_
  intro p e s m args below meth c s₁ B hml hv
  subst hv
  have hx := B.exec
  have hb := B.bytes
  have hr := B.returns
  have hts := fun (w : Cond) (h : w ∈ sdT) => atoms_spec (ws := (.code y_Txt_isDigit b_Txt_isDigit 1 (some .boolean) :: sdT)) B.pre w (List.mem_cons_of_mem _ h)
  have hown : s.vm.findClass "SignDesk$Text" = some m.cls := findClass_of_methodNamed B.named
  have hlocks := B.notSynchronized
  have hl := lv_entry ([.int (nI k)]) (n := 1) (Nat.le_of_ble_eq_true rfl)
  rw [lg_entry_eq]
  generalize (lg_sl ([.int (nI k)]) ++ List.replicate (1 - (lg_sl ([.int (nI k)])).length) Slot.unset).toArray = ls at hl ⊢
  have hl : lv_has ls 1 [(0, .int (nI k))] := hl
  refine lv_iload_n hx hb d_Txt_isDigit_0 rfl (lv_at hl 0 rfl) ?_
  refine lv_bipush (v := (nI 48)) hx hb d_Txt_isDigit_1 (by decide) ?_
  refine lv_icmp_lt (tgt := 16) hx hb d_Txt_isDigit_3 (by decide) (fun c1 => ?_) (fun c1 => ?_)
  · have c1 := (nI_ltI (by omega) (by omega)).mp c1
    refine lv_iconst (v := (nI 0)) hx hb d_Txt_isDigit_16 (by decide) ?_
    exact W.zret (v := (nI 0)) hx hb hr (by first | rfl | decide | exact sb_nar) (fun t ht hW => ⟨_, rfl, (sb_f (by omega)).symm, ht⟩) (fun _ h => by cases h) d_Txt_isDigit_17
  · have c1 := mt (nI_ltI (by omega) (by omega)).mpr c1
    refine lv_iload_n hx hb d_Txt_isDigit_6 rfl (lv_at hl 0 rfl) ?_
    refine lv_bipush (v := (nI 57)) hx hb d_Txt_isDigit_7 (by decide) ?_
    refine lv_icmp_gt (tgt := 16) hx hb d_Txt_isDigit_9 (by decide) (fun c2 => ?_) (fun c2 => ?_)
    · have c2 := (nI_ltI (by omega) (by omega)).mp c2
      refine lv_iconst (v := (nI 0)) hx hb d_Txt_isDigit_16 (by decide) ?_
      exact W.zret (v := (nI 0)) hx hb hr (by first | rfl | decide | exact sb_nar) (fun t ht hW => ⟨_, rfl, (sb_f (by omega)).symm, ht⟩) (fun _ h => by cases h) d_Txt_isDigit_17
    · have c2 := mt (nI_ltI (by omega) (by omega)).mpr c2
      refine lv_iconst (v := (nI 1)) hx hb d_Txt_isDigit_12 (by decide) ?_
      refine lv_goto (tgt := 17) hx hb d_Txt_isDigit_13 (by decide) ?_
      exact W.zret (v := (nI 1)) hx hb hr (by first | rfl | decide | exact sb_nar) (fun t ht hW => ⟨_, rfl, (sb_t (by omega)).symm, ht⟩) (fun _ h => by cases h) d_Txt_isDigit_17
