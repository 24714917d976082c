set_option maxHeartbeats 4000000 in
set_option maxRecDepth 100000 in
/-- isDigit -/
theorem c_Mod_isDigit (l : Launch) (k : Nat) (hk : k < 256) : Met l y_Mod_isDigit (.code y_Mod_isDigit b_Mod_isDigit 1 (some .boolean) :: sdT) ({ frames := 0, cells := 0, slots := 0, locals := 0 }) (fun v _ => v = ([.int (nI k)] : List Value).toArray) (vp_Si (fun r => r = sb (48 ≤ k ∧ k ≤ 57))) 0 0 (fun _ => False) := by
  refine Met.ofW (cc := b_Mod_isDigit) (maxL := 1) (ret := (some .boolean)) (by decide) rfl ?_
  intro p e s m args below meth c s₁ B hml hv
  subst hv
  have hx := B.exec
  have hb := B.bytes
  have hr := B.returns
  have hts := fun (w : Cond) (h : w ∈ sdT) => atoms_spec (ws := (.code y_Mod_isDigit b_Mod_isDigit 1 (some .boolean) :: sdT)) B.pre w (List.mem_cons_of_mem _ h)
  have hown : s.vm.findClass "SignDeskModel" = some m.cls := findClass_of_methodNamed B.named
  have hlocks := B.notSynchronized
  have hl := lv_entry ([.int (nI k)]) (n := 1) (Nat.le_of_ble_eq_true rfl)
  rw [lg_entry_eq]
  generalize (lg_sl ([.int (nI k)]) ++ List.replicate (1 - (lg_sl ([.int (nI k)])).length) Slot.unset).toArray = ls at hl ⊢
  have hl : lv_has ls 1 [(0, .int (nI k))] := hl
  refine lv_iload_n hx hb d_Mod_isDigit_0 rfl (lv_at hl 0 rfl) ?_
  refine lv_bipush (v := (nI 48)) hx hb d_Mod_isDigit_1 (by decide) ?_
  refine lv_icmp_lt (tgt := 16) hx hb d_Mod_isDigit_3 (by decide) (fun c1 => ?_) (fun c1 => ?_)
  · have c1 := (nI_ltI (by omega) (by omega)).mp c1
    refine lv_iconst (v := (nI 0)) hx hb d_Mod_isDigit_16 (by decide) ?_
    exact W.zret (v := (nI 0)) hx hb hr (by first | rfl | decide | exact sb_nar) (fun t ht hW => ⟨_, rfl, (sb_f (by omega)).symm, ht⟩) (fun _ h => by cases h) d_Mod_isDigit_17
  · have c1 := mt (nI_ltI (by omega) (by omega)).mpr c1
    refine lv_iload_n hx hb d_Mod_isDigit_6 rfl (lv_at hl 0 rfl) ?_
    refine lv_bipush (v := (nI 57)) hx hb d_Mod_isDigit_7 (by decide) ?_
    refine lv_icmp_gt (tgt := 16) hx hb d_Mod_isDigit_9 (by decide) (fun c2 => ?_) (fun c2 => ?_)
    · have c2 := (nI_ltI (by omega) (by omega)).mp c2
      refine lv_iconst (v := (nI 0)) hx hb d_Mod_isDigit_16 (by decide) ?_
      exact W.zret (v := (nI 0)) hx hb hr (by first | rfl | decide | exact sb_nar) (fun t ht hW => ⟨_, rfl, (sb_f (by omega)).symm, ht⟩) (fun _ h => by cases h) d_Mod_isDigit_17
    · have c2 := mt (nI_ltI (by omega) (by omega)).mpr c2
      refine lv_iconst (v := (nI 1)) hx hb d_Mod_isDigit_12 (by decide) ?_
      refine lv_goto (tgt := 17) hx hb d_Mod_isDigit_13 (by decide) ?_
      exact W.zret (v := (nI 1)) hx hb hr (by first | rfl | decide | exact sb_nar) (fun t ht hW => ⟨_, rfl, (sb_t (by omega)).symm, ht⟩) (fun _ h => by cases h) d_Mod_isDigit_17
set_option maxHeartbeats 4000000 in
set_option maxRecDepth 100000 in
/-- isLetter -/
theorem c_Mod_isLetter (l : Launch) (k : Nat) (hk : k < 256) : Met l y_Mod_isLetter (.code y_Mod_isLetter b_Mod_isLetter 1 (some .boolean) :: sdT) ({ frames := 0, cells := 0, slots := 0, locals := 0 }) (fun v _ => v = ([.int (nI k)] : List Value).toArray) (vp_Si (fun r => r = sb ((97 ≤ k ∧ k ≤ 122) ∨ (65 ≤ k ∧ k ≤ 90)))) 0 0 (fun _ => False) := by
  refine Met.ofW (cc := b_Mod_isLetter) (maxL := 1) (ret := (some .boolean)) (by decide) rfl ?_
  intro p e s m args below meth c s₁ B hml hv
  subst hv
  have hx := B.exec
  have hb := B.bytes
  have hr := B.returns
  have hts := fun (w : Cond) (h : w ∈ sdT) => atoms_spec (ws := (.code y_Mod_isLetter b_Mod_isLetter 1 (some .boolean) :: sdT)) B.pre w (List.mem_cons_of_mem _ h)
  have hown : s.vm.findClass "SignDeskModel" = some m.cls := findClass_of_methodNamed B.named
  have hlocks := B.notSynchronized
  have hl := lv_entry ([.int (nI k)]) (n := 1) (Nat.le_of_ble_eq_true rfl)
  rw [lg_entry_eq]
  generalize (lg_sl ([.int (nI k)]) ++ List.replicate (1 - (lg_sl ([.int (nI k)])).length) Slot.unset).toArray = ls at hl ⊢
  have hl : lv_has ls 1 [(0, .int (nI k))] := hl
  refine lv_iload_n hx hb d_Mod_isLetter_0 rfl (lv_at hl 0 rfl) ?_
  refine lv_bipush (v := (nI 97)) hx hb d_Mod_isLetter_1 (by decide) ?_
  refine lv_icmp_lt (tgt := 12) hx hb d_Mod_isLetter_3 (by decide) (fun c1 => ?_) (fun c1 => ?_)
  · have c1 := (nI_ltI (by omega) (by omega)).mp c1
    refine lv_iload_n hx hb d_Mod_isLetter_12 rfl (lv_at hl 0 rfl) ?_
    refine lv_bipush (v := (nI 65)) hx hb d_Mod_isLetter_13 (by decide) ?_
    refine lv_icmp_lt (tgt := 28) hx hb d_Mod_isLetter_15 (by decide) (fun c2 => ?_) (fun c2 => ?_)
    · have c2 := (nI_ltI (by omega) (by omega)).mp c2
      refine lv_iconst (v := (nI 0)) hx hb d_Mod_isLetter_28 (by decide) ?_
      exact W.zret (v := (nI 0)) hx hb hr (by first | rfl | decide | exact sb_nar) (fun t ht hW => ⟨_, rfl, (sb_f (by omega)).symm, ht⟩) (fun _ h => by cases h) d_Mod_isLetter_29
    · have c2 := mt (nI_ltI (by omega) (by omega)).mpr c2
      refine lv_iload_n hx hb d_Mod_isLetter_18 rfl (lv_at hl 0 rfl) ?_
      refine lv_bipush (v := (nI 90)) hx hb d_Mod_isLetter_19 (by decide) ?_
      refine lv_icmp_gt (tgt := 28) hx hb d_Mod_isLetter_21 (by decide) (fun c3 => ?_) (fun c3 => ?_)
      · have c3 := (nI_ltI (by omega) (by omega)).mp c3
        refine lv_iconst (v := (nI 0)) hx hb d_Mod_isLetter_28 (by decide) ?_
        exact W.zret (v := (nI 0)) hx hb hr (by first | rfl | decide | exact sb_nar) (fun t ht hW => ⟨_, rfl, (sb_f (by omega)).symm, ht⟩) (fun _ h => by cases h) d_Mod_isLetter_29
      · have c3 := mt (nI_ltI (by omega) (by omega)).mpr c3
        refine lv_iconst (v := (nI 1)) hx hb d_Mod_isLetter_24 (by decide) ?_
        refine lv_goto (tgt := 29) hx hb d_Mod_isLetter_25 (by decide) ?_
        exact W.zret (v := (nI 1)) hx hb hr (by first | rfl | decide | exact sb_nar) (fun t ht hW => ⟨_, rfl, (sb_t (by omega)).symm, ht⟩) (fun _ h => by cases h) d_Mod_isLetter_29
  · have c1 := mt (nI_ltI (by omega) (by omega)).mpr c1
    refine lv_iload_n hx hb d_Mod_isLetter_6 rfl (lv_at hl 0 rfl) ?_
    refine lv_bipush (v := (nI 122)) hx hb d_Mod_isLetter_7 (by decide) ?_
    refine lv_icmp_le (tgt := 24) hx hb d_Mod_isLetter_9 (by decide) (fun c4 => ?_) (fun c4 => ?_)
    · have c4 := (nI_leI (by omega) (by omega)).mp c4
      refine lv_iconst (v := (nI 1)) hx hb d_Mod_isLetter_24 (by decide) ?_
      refine lv_goto (tgt := 29) hx hb d_Mod_isLetter_25 (by decide) ?_
      exact W.zret (v := (nI 1)) hx hb hr (by first | rfl | decide | exact sb_nar) (fun t ht hW => ⟨_, rfl, (sb_t (by omega)).symm, ht⟩) (fun _ h => by cases h) d_Mod_isLetter_29
    · have c4 := mt (nI_leI (by omega) (by omega)).mpr c4
      refine lv_iload_n hx hb d_Mod_isLetter_12 rfl (lv_at hl 0 rfl) ?_
      refine lv_bipush (v := (nI 65)) hx hb d_Mod_isLetter_13 (by decide) ?_
      refine lv_icmp_lt (tgt := 28) hx hb d_Mod_isLetter_15 (by decide) (fun c5 => ?_) (fun c5 => ?_)
      · have c5 := (nI_ltI (by omega) (by omega)).mp c5
        refine lv_iconst (v := (nI 0)) hx hb d_Mod_isLetter_28 (by decide) ?_
        exact W.zret (v := (nI 0)) hx hb hr (by first | rfl | decide | exact sb_nar) (fun t ht hW => ⟨_, rfl, (sb_f (by omega)).symm, ht⟩) (fun _ h => by cases h) d_Mod_isLetter_29
      · have c5 := mt (nI_ltI (by omega) (by omega)).mpr c5
        refine lv_iload_n hx hb d_Mod_isLetter_18 rfl (lv_at hl 0 rfl) ?_
        refine lv_bipush (v := (nI 90)) hx hb d_Mod_isLetter_19 (by decide) ?_
        refine lv_icmp_gt (tgt := 28) hx hb d_Mod_isLetter_21 (by decide) (fun c6 => ?_) (fun c6 => ?_)
        · have c6 := (nI_ltI (by omega) (by omega)).mp c6
          refine lv_iconst (v := (nI 0)) hx hb d_Mod_isLetter_28 (by decide) ?_
          exact W.zret (v := (nI 0)) hx hb hr (by first | rfl | decide | exact sb_nar) (fun t ht hW => ⟨_, rfl, (sb_f (by omega)).symm, ht⟩) (fun _ h => by cases h) d_Mod_isLetter_29
        · have c6 := mt (nI_ltI (by omega) (by omega)).mpr c6
          refine lv_iconst (v := (nI 1)) hx hb d_Mod_isLetter_24 (by decide) ?_
          refine lv_goto (tgt := 29) hx hb d_Mod_isLetter_25 (by decide) ?_
          exact W.zret (v := (nI 1)) hx hb hr (by first | rfl | decide | exact sb_nar) (fun t ht hW => ⟨_, rfl, (sb_t (by omega)).symm, ht⟩) (fun _ h => by cases h) d_Mod_isLetter_29
set_option maxHeartbeats 4000000 in
set_option maxRecDepth 100000 in
/-- isWordByte -/
theorem c_Mod_isWordByte (l : Launch) (k : Nat) (hk : k < 256) : Met l y_Mod_isWordByte (.code y_Mod_isWordByte b_Mod_isWordByte 1 (some .boolean) :: sdT) ({ frames := 1, cells := 0, slots := 0, locals := 20 }) (fun v _ => v = ([.int (nI k)] : List Value).toArray) (vp_Si (fun r => r = sb (((97 ≤ k ∧ k ≤ 122) ∨ (65 ≤ k ∧ k ≤ 90)) ∨ (48 ≤ k ∧ k ≤ 57) ∨ k = 95))) 0 0 (fun _ => False) := by
  refine Met.ofW (cc := b_Mod_isWordByte) (maxL := 1) (ret := (some .boolean)) (by decide) rfl ?_
  intro p e s m args below meth c s₁ B hml hv
  subst hv
  have hx := B.exec
  have hb := B.bytes
  have hr := B.returns
  have hts := fun (w : Cond) (h : w ∈ sdT) => atoms_spec (ws := (.code y_Mod_isWordByte b_Mod_isWordByte 1 (some .boolean) :: sdT)) B.pre w (List.mem_cons_of_mem _ h)
  have hown : s.vm.findClass "SignDeskModel" = some m.cls := findClass_of_methodNamed B.named
  have hlocks := B.notSynchronized
  have hl := lv_entry ([.int (nI k)]) (n := 1) (Nat.le_of_ble_eq_true rfl)
  rw [lg_entry_eq]
  generalize (lg_sl ([.int (nI k)]) ++ List.replicate (1 - (lg_sl ([.int (nI k)])).length) Slot.unset).toArray = ls at hl ⊢
  have hl : lv_has ls 1 [(0, .int (nI k))] := hl
  refine lv_iload_n hx hb d_Mod_isWordByte_0 rfl (lv_at hl 0 rfl) ?_
  refine sd_ri (va_runS (As := [.int (nI k)]) (rest := []) ⟨hx, hb, hml, hown, hts⟩ (c_Mod_isLetter l k hk) (va_cwS 1 hts (sd_gS k_597 k_598 k_30 k_599) rfl rfl rfl (by decide +kernel) ⟨Nat.le_of_ble_eq_true rfl, Nat.le_of_ble_eq_true rfl⟩) preEq rfl rfl hl.1 rfl (lv_room (Nat.le_of_ble_eq_true rfl)) d_Mod_isWordByte_1 ⟨Nat.zero_le _, Nat.zero_le _⟩) (fun r1 er1 => ?_)
  subst er1
  refine lv_if_ne (tgt := 20) hx hb d_Mod_isWordByte_4 (by decide) (fun c2 => ?_) (fun c2 => ?_)
  · have c2 := sb_ne0.mp c2
    refine lv_iconst (v := (nI 1)) hx hb d_Mod_isWordByte_20 (by decide) ?_
    refine lv_goto (tgt := 25) hx hb d_Mod_isWordByte_21 (by decide) ?_
    exact W.zret (v := (nI 1)) hx hb hr (by first | rfl | decide | exact sb_nar) (fun t ht hW => ⟨_, rfl, (sb_t (by omega)).symm, ht⟩) (fun _ h => by cases h) d_Mod_isWordByte_25
  · have c2 := sb_eq0.mp c2
    refine lv_iload_n hx hb d_Mod_isWordByte_7 rfl (lv_at hl 0 rfl) ?_
    refine sd_ri (va_runS (As := [.int (nI k)]) (rest := []) ⟨hx, hb, hml, hown, hts⟩ (c_Mod_isDigit l k hk) (va_cwS 1 hts (sd_gS k_588 k_589 k_30 k_590) rfl rfl rfl (by decide +kernel) ⟨Nat.le_of_ble_eq_true rfl, Nat.le_of_ble_eq_true rfl⟩) preEq rfl rfl hl.1 rfl (lv_room (Nat.le_of_ble_eq_true rfl)) d_Mod_isWordByte_8 ⟨Nat.zero_le _, Nat.zero_le _⟩) (fun r3 er3 => ?_)
    subst er3
    refine lv_if_ne (tgt := 20) hx hb d_Mod_isWordByte_11 (by decide) (fun c4 => ?_) (fun c4 => ?_)
    · have c4 := sb_ne0.mp c4
      refine lv_iconst (v := (nI 1)) hx hb d_Mod_isWordByte_20 (by decide) ?_
      refine lv_goto (tgt := 25) hx hb d_Mod_isWordByte_21 (by decide) ?_
      exact W.zret (v := (nI 1)) hx hb hr (by first | rfl | decide | exact sb_nar) (fun t ht hW => ⟨_, rfl, (sb_t (by omega)).symm, ht⟩) (fun _ h => by cases h) d_Mod_isWordByte_25
    · have c4 := sb_eq0.mp c4
      refine lv_iload_n hx hb d_Mod_isWordByte_14 rfl (lv_at hl 0 rfl) ?_
      refine lv_bipush (v := (nI 95)) hx hb d_Mod_isWordByte_15 (by decide) ?_
      refine lv_icmp_ne (tgt := 24) hx hb d_Mod_isWordByte_17 (by decide) (fun c5 => ?_) (fun c5 => ?_)
      · have c5 := mt (nI_eq (by omega) (by omega)).mpr c5
        refine lv_iconst (v := (nI 0)) hx hb d_Mod_isWordByte_24 (by decide) ?_
        exact W.zret (v := (nI 0)) hx hb hr (by first | rfl | decide | exact sb_nar) (fun t ht hW => ⟨_, rfl, (sb_f (by omega)).symm, ht⟩) (fun _ h => by cases h) d_Mod_isWordByte_25
      · have c5 := (nI_eq (by omega) (by omega)).mp c5
        refine lv_iconst (v := (nI 1)) hx hb d_Mod_isWordByte_20 (by decide) ?_
        refine lv_goto (tgt := 25) hx hb d_Mod_isWordByte_21 (by decide) ?_
        exact W.zret (v := (nI 1)) hx hb hr (by first | rfl | decide | exact sb_nar) (fun t ht hW => ⟨_, rfl, (sb_t (by omega)).symm, ht⟩) (fun _ h => by cases h) d_Mod_isWordByte_25
set_option maxHeartbeats 4000000 in
set_option maxRecDepth 100000 in
/-- isSymbolByte -/
theorem c_Mod_isSymbolByte (l : Launch) (k : Nat) (hk : k < 256) : Met l y_Mod_isSymbolByte (.code y_Mod_isSymbolByte b_Mod_isSymbolByte 1 (some .boolean) :: sdT) ({ frames := 2, cells := 0, slots := 0, locals := 40 }) (fun v _ => v = ([.int (nI k)] : List Value).toArray) (vp_Si (fun r => r = sb (isSy k))) 0 0 (fun _ => False) := by
  refine Met.ofW (cc := b_Mod_isSymbolByte) (maxL := 1) (ret := (some .boolean)) (by decide) rfl ?_
  intro p e s m args below meth c s₁ B hml hv
  subst hv
  have hx := B.exec
  have hb := B.bytes
  have hr := B.returns
  have hts := fun (w : Cond) (h : w ∈ sdT) => atoms_spec (ws := (.code y_Mod_isSymbolByte b_Mod_isSymbolByte 1 (some .boolean) :: sdT)) B.pre w (List.mem_cons_of_mem _ h)
  have hown : s.vm.findClass "SignDeskModel" = some m.cls := findClass_of_methodNamed B.named
  have hlocks := B.notSynchronized
  have hl := lv_entry ([.int (nI k)]) (n := 1) (Nat.le_of_ble_eq_true rfl)
  rw [lg_entry_eq]
  generalize (lg_sl ([.int (nI k)]) ++ List.replicate (1 - (lg_sl ([.int (nI k)])).length) Slot.unset).toArray = ls at hl ⊢
  have hl : lv_has ls 1 [(0, .int (nI k))] := hl
  refine lv_iload_n hx hb d_Mod_isSymbolByte_0 rfl (lv_at hl 0 rfl) ?_
  refine sd_ri (va_runS (As := [.int (nI k)]) (rest := []) ⟨hx, hb, hml, hown, hts⟩ (c_Mod_isWordByte l k hk) (va_cwS 1 hts (sd_gS k_594 k_595 k_30 k_596) rfl rfl rfl (by decide +kernel) ⟨Nat.le_of_ble_eq_true rfl, Nat.le_of_ble_eq_true rfl⟩) preEq rfl rfl hl.1 rfl (lv_room (Nat.le_of_ble_eq_true rfl)) d_Mod_isSymbolByte_1 ⟨Nat.zero_le _, Nat.zero_le _⟩) (fun r1 er1 => ?_)
  subst er1
  refine lv_if_ne (tgt := 25) hx hb d_Mod_isSymbolByte_4 (by decide) (fun c2 => ?_) (fun c2 => ?_)
  · have c2 := sb_ne0.mp c2
    refine lv_iconst (v := (nI 1)) hx hb d_Mod_isSymbolByte_25 (by decide) ?_
    refine lv_goto (tgt := 30) hx hb d_Mod_isSymbolByte_26 (by decide) ?_
    exact W.zret (v := (nI 1)) hx hb hr (by first | rfl | decide | exact sb_nar) (fun t ht hW => ⟨_, rfl, (sb_t (by unfold isSy; omega)).symm, ht⟩) (fun _ h => by cases h) d_Mod_isSymbolByte_30
  · have c2 := sb_eq0.mp c2
    refine lv_iload_n hx hb d_Mod_isSymbolByte_7 rfl (lv_at hl 0 rfl) ?_
    refine lv_bipush (v := (nI 46)) hx hb d_Mod_isSymbolByte_8 (by decide) ?_
    refine lv_icmp_eq (tgt := 25) hx hb d_Mod_isSymbolByte_10 (by decide) (fun c3 => ?_) (fun c3 => ?_)
    · have c3 := (nI_eq (by omega) (by omega)).mp c3
      refine lv_iconst (v := (nI 1)) hx hb d_Mod_isSymbolByte_25 (by decide) ?_
      refine lv_goto (tgt := 30) hx hb d_Mod_isSymbolByte_26 (by decide) ?_
      exact W.zret (v := (nI 1)) hx hb hr (by first | rfl | decide | exact sb_nar) (fun t ht hW => ⟨_, rfl, (sb_t (by unfold isSy; omega)).symm, ht⟩) (fun _ h => by cases h) d_Mod_isSymbolByte_30
    · have c3 := mt (nI_eq (by omega) (by omega)).mpr c3
      refine lv_iload_n hx hb d_Mod_isSymbolByte_13 rfl (lv_at hl 0 rfl) ?_
      refine lv_bipush (v := (nI 36)) hx hb d_Mod_isSymbolByte_14 (by decide) ?_
      refine lv_icmp_eq (tgt := 25) hx hb d_Mod_isSymbolByte_16 (by decide) (fun c4 => ?_) (fun c4 => ?_)
      · have c4 := (nI_eq (by omega) (by omega)).mp c4
        refine lv_iconst (v := (nI 1)) hx hb d_Mod_isSymbolByte_25 (by decide) ?_
        refine lv_goto (tgt := 30) hx hb d_Mod_isSymbolByte_26 (by decide) ?_
        exact W.zret (v := (nI 1)) hx hb hr (by first | rfl | decide | exact sb_nar) (fun t ht hW => ⟨_, rfl, (sb_t (by unfold isSy; omega)).symm, ht⟩) (fun _ h => by cases h) d_Mod_isSymbolByte_30
      · have c4 := mt (nI_eq (by omega) (by omega)).mpr c4
        refine lv_iload_n hx hb d_Mod_isSymbolByte_19 rfl (lv_at hl 0 rfl) ?_
        refine lv_bipush (v := (nI 58)) hx hb d_Mod_isSymbolByte_20 (by decide) ?_
        refine lv_icmp_ne (tgt := 29) hx hb d_Mod_isSymbolByte_22 (by decide) (fun c5 => ?_) (fun c5 => ?_)
        · have c5 := mt (nI_eq (by omega) (by omega)).mpr c5
          refine lv_iconst (v := (nI 0)) hx hb d_Mod_isSymbolByte_29 (by decide) ?_
          exact W.zret (v := (nI 0)) hx hb hr (by first | rfl | decide | exact sb_nar) (fun t ht hW => ⟨_, rfl, (sb_f (by unfold isSy; omega)).symm, ht⟩) (fun _ h => by cases h) d_Mod_isSymbolByte_30
        · have c5 := (nI_eq (by omega) (by omega)).mp c5
          refine lv_iconst (v := (nI 1)) hx hb d_Mod_isSymbolByte_25 (by decide) ?_
          refine lv_goto (tgt := 30) hx hb d_Mod_isSymbolByte_26 (by decide) ?_
          exact W.zret (v := (nI 1)) hx hb hr (by first | rfl | decide | exact sb_nar) (fun t ht hW => ⟨_, rfl, (sb_t (by unfold isSy; omega)).symm, ht⟩) (fun _ h => by cases h) d_Mod_isSymbolByte_30
set_option maxHeartbeats 4000000 in
set_option maxRecDepth 100000 in
/-- isBlank -/
theorem c_Mod_isBlank (l : Launch) (k : Nat) (hk : k < 256) : Met l y_Mod_isBlank (.code y_Mod_isBlank b_Mod_isBlank 1 (some .boolean) :: sdT) ({ frames := 0, cells := 0, slots := 0, locals := 0 }) (fun v _ => v = ([.int (nI k)] : List Value).toArray) (vp_Si (fun r => r = sb (k = 9 ∨ k = 13 ∨ k = 32))) 0 0 (fun _ => False) := by
  refine Met.ofW (cc := b_Mod_isBlank) (maxL := 1) (ret := (some .boolean)) (by decide) rfl ?_
  intro p e s m args below meth c s₁ B hml hv
  subst hv
  have hx := B.exec
  have hb := B.bytes
  have hr := B.returns
  have hts := fun (w : Cond) (h : w ∈ sdT) => atoms_spec (ws := (.code y_Mod_isBlank b_Mod_isBlank 1 (some .boolean) :: sdT)) B.pre w (List.mem_cons_of_mem _ h)
  have hown : s.vm.findClass "SignDeskModel" = some m.cls := findClass_of_methodNamed B.named
  have hlocks := B.notSynchronized
  have hl := lv_entry ([.int (nI k)]) (n := 1) (Nat.le_of_ble_eq_true rfl)
  rw [lg_entry_eq]
  generalize (lg_sl ([.int (nI k)]) ++ List.replicate (1 - (lg_sl ([.int (nI k)])).length) Slot.unset).toArray = ls at hl ⊢
  have hl : lv_has ls 1 [(0, .int (nI k))] := hl
  refine lv_iload_n hx hb d_Mod_isBlank_0 rfl (lv_at hl 0 rfl) ?_
  refine lv_bipush (v := (nI 9)) hx hb d_Mod_isBlank_1 (by decide) ?_
  refine lv_icmp_eq (tgt := 18) hx hb d_Mod_isBlank_3 (by decide) (fun c1 => ?_) (fun c1 => ?_)
  · have c1 := (nI_eq (by omega) (by omega)).mp c1
    refine lv_iconst (v := (nI 1)) hx hb d_Mod_isBlank_18 (by decide) ?_
    refine lv_goto (tgt := 23) hx hb d_Mod_isBlank_19 (by decide) ?_
    exact W.zret (v := (nI 1)) hx hb hr (by first | rfl | decide | exact sb_nar) (fun t ht hW => ⟨_, rfl, (sb_t (by omega)).symm, ht⟩) (fun _ h => by cases h) d_Mod_isBlank_23
  · have c1 := mt (nI_eq (by omega) (by omega)).mpr c1
    refine lv_iload_n hx hb d_Mod_isBlank_6 rfl (lv_at hl 0 rfl) ?_
    refine lv_bipush (v := (nI 13)) hx hb d_Mod_isBlank_7 (by decide) ?_
    refine lv_icmp_eq (tgt := 18) hx hb d_Mod_isBlank_9 (by decide) (fun c2 => ?_) (fun c2 => ?_)
    · have c2 := (nI_eq (by omega) (by omega)).mp c2
      refine lv_iconst (v := (nI 1)) hx hb d_Mod_isBlank_18 (by decide) ?_
      refine lv_goto (tgt := 23) hx hb d_Mod_isBlank_19 (by decide) ?_
      exact W.zret (v := (nI 1)) hx hb hr (by first | rfl | decide | exact sb_nar) (fun t ht hW => ⟨_, rfl, (sb_t (by omega)).symm, ht⟩) (fun _ h => by cases h) d_Mod_isBlank_23
    · have c2 := mt (nI_eq (by omega) (by omega)).mpr c2
      refine lv_iload_n hx hb d_Mod_isBlank_12 rfl (lv_at hl 0 rfl) ?_
      refine lv_bipush (v := (nI 32)) hx hb d_Mod_isBlank_13 (by decide) ?_
      refine lv_icmp_ne (tgt := 22) hx hb d_Mod_isBlank_15 (by decide) (fun c3 => ?_) (fun c3 => ?_)
      · have c3 := mt (nI_eq (by omega) (by omega)).mpr c3
        refine lv_iconst (v := (nI 0)) hx hb d_Mod_isBlank_22 (by decide) ?_
        exact W.zret (v := (nI 0)) hx hb hr (by first | rfl | decide | exact sb_nar) (fun t ht hW => ⟨_, rfl, (sb_f (by omega)).symm, ht⟩) (fun _ h => by cases h) d_Mod_isBlank_23
      · have c3 := (nI_eq (by omega) (by omega)).mp c3
        refine lv_iconst (v := (nI 1)) hx hb d_Mod_isBlank_18 (by decide) ?_
        refine lv_goto (tgt := 23) hx hb d_Mod_isBlank_19 (by decide) ?_
        exact W.zret (v := (nI 1)) hx hb hr (by first | rfl | decide | exact sb_nar) (fun t ht hW => ⟨_, rfl, (sb_t (by omega)).symm, ht⟩) (fun _ h => by cases h) d_Mod_isBlank_23
set_option maxHeartbeats 4000000 in
set_option maxRecDepth 100000 in
/-- unit -/
theorem c_Mod_unit (l : Launch) (b x y : Int32) : Met l y_Mod_unit (.code y_Mod_unit b_Mod_unit 6 (some .int) :: sdT) ({ frames := 0, cells := 0, slots := 0, locals := 0 }) (fun v _ => v = ([.int b, .int x, .int y] : List Value).toArray) (vp_Si (fun r => r = alu b x y)) 0 0 (fun _ => False) := by
  refine Met.ofW (cc := b_Mod_unit) (maxL := 6) (ret := (some .int)) (by decide) rfl ?_
  intro p e s m args below meth c s₁ B hml hv
  subst hv
  have hx := B.exec
  have hb := B.bytes
  have hr := B.returns
  have hts := fun (w : Cond) (h : w ∈ sdT) => atoms_spec (ws := (.code y_Mod_unit b_Mod_unit 6 (some .int) :: sdT)) B.pre w (List.mem_cons_of_mem _ h)
  have hown : s.vm.findClass "SignDeskModel" = some m.cls := findClass_of_methodNamed B.named
  have hlocks := B.notSynchronized
  have hl := lv_entry ([.int b, .int x, .int y]) (n := 6) (Nat.le_of_ble_eq_true rfl)
  rw [lg_entry_eq]
  generalize (lg_sl ([.int b, .int x, .int y]) ++ List.replicate (6 - (lg_sl ([.int b, .int x, .int y])).length) Slot.unset).toArray = ls at hl ⊢
  have hl : lv_has ls 6 [(0, .int b), (1, .int x), (2, .int y)] := hl
  refine lv_iload_n hx hb d_Mod_unit_0 rfl (lv_at hl 0 rfl) ?_
  refine lv_bipush (v := (nI 32)) hx hb d_Mod_unit_1 (by decide) ?_
  refine lv_iand hx hb d_Mod_unit_3 ?_
  refine sd_cutv (ls := ls) (fun z => z = aluZ b (nI 32) x) 12 [] (fun z9 ez9 => ?_) (fun kJ => ?_)
  · subst ez9
    refine lv_istore_n (lv' := [(3, .int (aluZ b (nI 32) x)), (0, .int b), (1, .int x), (2, .int y)]) hx hb d_Mod_unit_12 rfl hl (by decide) rfl (fun ls hl => ?_)
    refine lv_iload_n hx hb d_Mod_unit_13 rfl (lv_at hl 1 rfl) ?_
    refine lv_bipush (v := (nI 16)) hx hb d_Mod_unit_14 (by decide) ?_
    refine lv_iand hx hb d_Mod_unit_16 ?_
    refine sd_cutv (ls := ls) (fun z => z = aluN b (nI 16) (aluZ b (nI 32) x)) 27 [] (fun z9 ez9 => ?_) (fun kJ => ?_)
    · subst ez9
      refine lv_istore_n (lv' := [(3, .int (aluN b (nI 16) (aluZ b (nI 32) x))), (0, .int b), (1, .int x), (2, .int y)]) hx hb d_Mod_unit_27 rfl hl (by decide) rfl (fun ls hl => ?_)
      refine lv_iload_n hx hb d_Mod_unit_28 rfl (lv_at hl 1 rfl) ?_
      refine lv_bipush (v := (nI 8)) hx hb d_Mod_unit_29 (by decide) ?_
      refine lv_iand hx hb d_Mod_unit_31 ?_
      refine sd_cutv (ls := ls) (fun z => z = aluZ b (nI 8) y) 40 [] (fun z9 ez9 => ?_) (fun kJ => ?_)
      · subst ez9
        refine lv_istore (lv' := [(4, .int (aluZ b (nI 8) y)), (3, .int (aluN b (nI 16) (aluZ b (nI 32) x))), (0, .int b), (1, .int x), (2, .int y)]) hx hb d_Mod_unit_40 hl (by decide) rfl (fun ls hl => ?_)
        refine lv_iload_n hx hb d_Mod_unit_42 rfl (lv_at hl 2 rfl) ?_
        refine lv_iconst (v := (nI 4)) hx hb d_Mod_unit_43 (by decide) ?_
        refine lv_iand hx hb d_Mod_unit_44 ?_
        refine sd_cutv (ls := ls) (fun z => z = aluN b (nI 4) (aluZ b (nI 8) y)) 57 [] (fun z9 ez9 => ?_) (fun kJ => ?_)
        · subst ez9
          refine lv_istore (lv' := [(4, .int (aluN b (nI 4) (aluZ b (nI 8) y))), (3, .int (aluN b (nI 16) (aluZ b (nI 32) x))), (0, .int b), (1, .int x), (2, .int y)]) hx hb d_Mod_unit_57 hl (by decide) rfl (fun ls hl => ?_)
          refine lv_iload_n hx hb d_Mod_unit_59 rfl (lv_at hl 2 rfl) ?_
          refine lv_iconst (v := (nI 2)) hx hb d_Mod_unit_60 (by decide) ?_
          refine lv_iand hx hb d_Mod_unit_61 ?_
          refine sd_cutv (ls := ls) (fun z => z = aluT b (aluN b (nI 16) (aluZ b (nI 32) x)) (aluN b (nI 4) (aluZ b (nI 8) y))) 76 [] (fun z9 ez9 => ?_) (fun kJ => ?_)
          · subst ez9
            refine lv_istore (lv' := [(5, .int (aluT b (aluN b (nI 16) (aluZ b (nI 32) x)) (aluN b (nI 4) (aluZ b (nI 8) y)))), (4, .int (aluN b (nI 4) (aluZ b (nI 8) y))), (3, .int (aluN b (nI 16) (aluZ b (nI 32) x))), (0, .int b), (1, .int x), (2, .int y)]) hx hb d_Mod_unit_76 hl (by decide) rfl (fun ls hl => ?_)
            refine lv_iload_n hx hb d_Mod_unit_78 rfl (lv_at hl 3 rfl) ?_
            refine lv_iconst (v := (nI 1)) hx hb d_Mod_unit_79 (by decide) ?_
            refine lv_iand hx hb d_Mod_unit_80 ?_
            refine sd_cutv (ls := ls) (fun z => z = aluN b (nI 1) (aluT b (aluN b (nI 16) (aluZ b (nI 32) x)) (aluN b (nI 4) (aluZ b (nI 8) y)))) 93 [] (fun z9 ez9 => ?_) (fun kJ => ?_)
            · subst ez9
              refine lv_i2s hx hb d_Mod_unit_93 rfl ?_
              exact W.iret (v := (((aluN b (nI 1) (aluT b (aluN b (nI 16) (aluZ b (nI 32) x)) (aluN b (nI 4) (aluZ b (nI 8) y))))).toInt16.toInt32)) hx hb hr  (fun t ht hW => ⟨_, rfl, rfl, ht⟩) (fun _ h => by cases h) d_Mod_unit_94
            · refine lv_if_ne (tgt := 89) hx hb d_Mod_unit_81 (by decide) (fun c1 => ?_) (fun c1 => ?_)
              · refine lv_iload hx hb d_Mod_unit_89 (lv_at hl 0 rfl) ?_
                refine lv_iconst (v := (-1)) hx hb d_Mod_unit_91 (by decide) ?_
                refine lv_ixor hx hb d_Mod_unit_92 ?_
                exact kJ _ ((if_neg c1).symm)
              · refine lv_iload hx hb d_Mod_unit_84 (lv_at hl 0 rfl) ?_
                refine lv_goto (tgt := 93) hx hb d_Mod_unit_86 (by decide) ?_
                exact kJ _ ((if_pos c1).symm)
          · refine lv_if_ne (tgt := 72) hx hb d_Mod_unit_62 (by decide) (fun c1 => ?_) (fun c1 => ?_)
            · refine lv_iload_n hx hb d_Mod_unit_72 rfl (lv_at hl 1 rfl) ?_
              refine lv_iload hx hb d_Mod_unit_73 (lv_at hl 0 rfl) ?_
              refine lv_iadd hx hb d_Mod_unit_75 ?_
              exact kJ _ ((if_neg c1).symm)
            · refine lv_iload_n hx hb d_Mod_unit_65 rfl (lv_at hl 1 rfl) ?_
              refine lv_iload hx hb d_Mod_unit_66 (lv_at hl 0 rfl) ?_
              refine lv_iand hx hb d_Mod_unit_68 ?_
              refine lv_goto (tgt := 76) hx hb d_Mod_unit_69 (by decide) ?_
              exact kJ _ ((if_pos c1).symm)
        · refine lv_if_ne (tgt := 53) hx hb d_Mod_unit_45 (by decide) (fun c1 => ?_) (fun c1 => ?_)
          · refine lv_iload hx hb d_Mod_unit_53 (lv_at hl 0 rfl) ?_
            refine lv_iconst (v := (-1)) hx hb d_Mod_unit_55 (by decide) ?_
            refine lv_ixor hx hb d_Mod_unit_56 ?_
            exact kJ _ ((if_neg c1).symm)
          · refine lv_iload hx hb d_Mod_unit_48 (lv_at hl 0 rfl) ?_
            refine lv_goto (tgt := 57) hx hb d_Mod_unit_50 (by decide) ?_
            exact kJ _ ((if_pos c1).symm)
      · refine lv_if_ne (tgt := 39) hx hb d_Mod_unit_32 (by decide) (fun c1 => ?_) (fun c1 => ?_)
        · refine lv_iconst (v := (nI 0)) hx hb d_Mod_unit_39 (by decide) ?_
          exact kJ _ ((if_neg c1).symm)
        · refine lv_iload_n hx hb d_Mod_unit_35 rfl (lv_at hl 3 rfl) ?_
          refine lv_goto (tgt := 40) hx hb d_Mod_unit_36 (by decide) ?_
          exact kJ _ ((if_pos c1).symm)
    · refine lv_if_ne (tgt := 24) hx hb d_Mod_unit_17 (by decide) (fun c1 => ?_) (fun c1 => ?_)
      · refine lv_iload_n hx hb d_Mod_unit_24 rfl (lv_at hl 0 rfl) ?_
        refine lv_iconst (v := (-1)) hx hb d_Mod_unit_25 (by decide) ?_
        refine lv_ixor hx hb d_Mod_unit_26 ?_
        exact kJ _ ((if_neg c1).symm)
      · refine lv_iload_n hx hb d_Mod_unit_20 rfl (lv_at hl 0 rfl) ?_
        refine lv_goto (tgt := 27) hx hb d_Mod_unit_21 (by decide) ?_
        exact kJ _ ((if_pos c1).symm)
  · refine lv_if_ne (tgt := 11) hx hb d_Mod_unit_4 (by decide) (fun c1 => ?_) (fun c1 => ?_)
    · refine lv_iconst (v := (nI 0)) hx hb d_Mod_unit_11 (by decide) ?_
      exact kJ _ ((if_neg c1).symm)
    · refine lv_iload_n hx hb d_Mod_unit_7 rfl (lv_at hl 1 rfl) ?_
      refine lv_goto (tgt := 12) hx hb d_Mod_unit_8 (by decide) ?_
      exact kJ _ ((if_pos c1).symm)
set_option maxHeartbeats 4000000 in
set_option maxRecDepth 100000 in
/-- place -/
theorem c_Mod_place (l : Launch) (g : sdG) (m0 mtt mcd mat msz mvl mcs mmm mkn mjp mds : Nat) (tk9 sz9 pl9 wd9 sy9 ra rd nx9 dn : Int32) : Met l y_Mod_place (.code y_Mod_place b_Mod_place 1 (some .int) :: sdT) ({ frames := 0, cells := 0, slots := 0, locals := 0 }) (va_Pc [.ref m0] (sdR g [(m0, .inr (8, [.ref mtt, .int tk9, .int sz9, .int pl9, .int wd9, .ref mcd, .int sy9, .ref mat, .ref msz, .ref mvl, .ref mcs, .ref mmm, .int ra, .int rd, .int nx9, .int dn, .ref mkn, .ref mjp, .ref mds]))])) (vp_Si (fun r => r = pl9)) 0 0 (fun _ => False) := by
  refine Met.ofW (cc := b_Mod_place) (maxL := 1) (ret := (some .int)) (by decide) rfl ?_
  intro p ev s m args below meth c s₁ B hml hv
  obtain ⟨rfl, hP, hK, hE⟩ := hv
  have hx := B.exec
  have hb := B.bytes
  have hr := B.returns
  have hts := fun (w : Cond) (h : w ∈ sdT) => atoms_spec (ws := (.code y_Mod_place b_Mod_place 1 (some .int) :: sdT)) B.pre w (List.mem_cons_of_mem _ h)
  have hown : s.vm.findClass "SignDeskModel" = some m.cls := findClass_of_methodNamed B.named
  have hlocks := B.notSynchronized
  have hF : ∀ a : Nat, a < s.heap.size → ¬ sdA g a → s.heap[a]? = s.heap[a]? := fun _ _ _ => rfl
  have hP : sdP g [(m0, .inr (8, [.ref mtt, .int tk9, .int sz9, .int pl9, .int wd9, .ref mcd, .int sy9, .ref mat, .ref msz, .ref mvl, .ref mcs, .ref mmm, .int ra, .int rd, .int nx9, .int dn, .ref mkn, .ref mjp, .ref mds]))] s.heap := hP
  have hl := lv_entry ([.ref m0]) (n := 1) (Nat.le_of_ble_eq_true rfl)
  rw [lg_entry_eq]
  generalize (lg_sl ([.ref m0]) ++ List.replicate (1 - (lg_sl ([.ref m0])).length) Slot.unset).toArray = ls at hl ⊢
  have hl : lv_has ls 1 [(0, .ref m0)] := hl
  refine lv_aload_n hx hb d_Mod_place_0 rfl (lv_at hl 0 rfl) ?_
  refine va_get (D := g.1) (ci := 8) (v := .int pl9) (C := "SignDeskModel") (T := F_Mod) (N := 19) hx hb hts in_Mod hown hK hP 0 rfl rfl 3 (by decide) (hts _ k_497) (fun _ h9 => h9) rfl d_Mod_place_1 ?_
  exact W.iret (v := pl9) hx hb hr  (fun t ht hW => ⟨_, rfl, rfl, ht⟩) (fun _ h => by cases h) d_Mod_place_4
/-- the model's text -/
def MTok (n : Nat) (t : Nat → Int32) (tx : Nat → Nat) : Prop := n ≤ 2000 ∧ (∀ i, tx i < 256) ∧ (∀ i, i < n → t i = nI (tx i)) ∧ (∀ i, n ≤ i → tx i = 10)
set_option maxHeartbeats 4000000 in
set_option maxRecDepth 100000 in
/-- at -/
theorem c_Mod_at (l : Launch) (g : sdG) (m0 mtt mcd mat msz mvl mcs mmm mkn mjp mds : Nat) (tk9 pl9 wd9 sy9 ra rd nx9 dn : Int32) (n : Nat) (t : Nat → Int32) (tx : Nat → Nat) (hT : MTok n t tx) (i : Nat) (hi : i < 2 ^ 30) : Met l y_Mod_at (.code y_Mod_at b_Mod_at 2 (some .int) :: sdT) ({ frames := 0, cells := 0, slots := 0, locals := 0 }) (va_Pc [.ref m0, .int (nI i)] (sdR g [(m0, .inr (8, [.ref mtt, .int tk9, .int (nI n), .int pl9, .int wd9, .ref mcd, .int sy9, .ref mat, .ref msz, .ref mvl, .ref mcs, .ref mmm, .int ra, .int rd, .int nx9, .int dn, .ref mkn, .ref mjp, .ref mds])), (mtt, .inl (gI g, 2000, .inl t))])) (vp_Si (fun r => (i < n → r = nI (tx i)) ∧ (¬ i < n → r = -1))) 0 0 (fun _ => False) := by
  refine Met.ofW (cc := b_Mod_at) (maxL := 2) (ret := (some .int)) (by decide) rfl ?_
  intro p ev s m args below meth c s₁ B hml hv
  obtain ⟨rfl, hP, hK, hE⟩ := hv
  have hx := B.exec
  have hb := B.bytes
  have hr := B.returns
  have hts := fun (w : Cond) (h : w ∈ sdT) => atoms_spec (ws := (.code y_Mod_at b_Mod_at 2 (some .int) :: sdT)) B.pre w (List.mem_cons_of_mem _ h)
  have hown : s.vm.findClass "SignDeskModel" = some m.cls := findClass_of_methodNamed B.named
  have hlocks := B.notSynchronized
  have hF : ∀ a : Nat, a < s.heap.size → ¬ sdA g a → s.heap[a]? = s.heap[a]? := fun _ _ _ => rfl
  have hP : sdP g [(m0, .inr (8, [.ref mtt, .int tk9, .int (nI n), .int pl9, .int wd9, .ref mcd, .int sy9, .ref mat, .ref msz, .ref mvl, .ref mcs, .ref mmm, .int ra, .int rd, .int nx9, .int dn, .ref mkn, .ref mjp, .ref mds])), (mtt, .inl (gI g, 2000, .inl t))] s.heap := hP
  have hl := lv_entry ([.ref m0, .int (nI i)]) (n := 2) (Nat.le_of_ble_eq_true rfl)
  rw [lg_entry_eq]
  generalize (lg_sl ([.ref m0, .int (nI i)]) ++ List.replicate (2 - (lg_sl ([.ref m0, .int (nI i)])).length) Slot.unset).toArray = ls at hl ⊢
  have hl : lv_has ls 2 [(0, .ref m0), (1, .int (nI i))] := hl
  have hn := hT.1
  refine lv_iload_n hx hb d_Mod_at_0 rfl (lv_at hl 1 rfl) ?_
  refine lv_aload_n hx hb d_Mod_at_1 rfl (lv_at hl 0 rfl) ?_
  refine va_get (D := g.1) (ci := 8) (v := .int (nI n)) (C := "SignDeskModel") (T := F_Mod) (N := 19) hx hb hts in_Mod hown hK hP 0 rfl rfl 2 (by decide) (hts _ k_496) (fun _ h9 => h9) rfl d_Mod_at_2 ?_
  refine lv_icmp_ge (tgt := 17) hx hb d_Mod_at_5 (by decide) (fun c1 => ?_) (fun c1 => ?_)
  · have c1 := (nI_leI (by omega) (by omega)).mp c1
    refine lv_iconst (v := (-1)) hx hb d_Mod_at_17 (by decide) ?_
    exact W.iret (v := (-1)) hx hb hr  (fun t ht hW => ⟨_, rfl, ⟨fun h => absurd h (by omega), fun _ => rfl⟩, ht⟩) (fun _ h => by cases h) d_Mod_at_18
  · have c1 := mt (nI_leI (by omega) (by omega)).mpr c1
    have hi2 : i < n := by omega
    refine lv_aload_n hx hb d_Mod_at_8 rfl (lv_at hl 0 rfl) ?_
    refine va_get (D := g.1) (ci := 8) (v := .ref mtt) (C := "SignDeskModel") (T := F_Mod) (N := 19) hx hb hts in_Mod hown hK hP 0 rfl rfl 0 (by decide) (hts _ k_494) (fun _ h9 => h9) rfl d_Mod_at_9 ?_
    refine lv_iload_n hx hb d_Mod_at_12 rfl (lv_at hl 1 rfl) ?_
    refine va_iald hx hb hK hP 1 1 rfl rfl (i := (nI i)) (vp_in_nI (by omega) (by omega)) d_Mod_at_13 ?_
    refine sd_topi (y := nI (tx i)) (by rw [nI_clamp (by omega)]; exact hT.2.2.1 i hi2) ?_
    refine lv_goto (tgt := 18) hx hb d_Mod_at_14 (by decide) ?_
    exact W.iret (v := (nI (tx i))) hx hb hr  (fun t ht hW => ⟨_, rfl, ⟨fun _ => rfl, fun h => absurd hi2 h⟩, ht⟩) (fun _ h => by cases h) d_Mod_at_18
set_option maxHeartbeats 4000000 in
set_option maxRecDepth 100000 in
/-- code -/
theorem c_Mod_code (l : Launch) (g : sdG) (m0 mtt mcd mat msz mvl mcs mmm mkn mjp mds : Nat) (tk9 sz9 pl9 sy9 ra rd nx9 dn : Int32) (wn9 : Nat) (cdf : Nat → Int32) (hwn : wn9 ≤ 600) (x : Int32) : Met l y_Mod_code (.code y_Mod_code b_Mod_code 2 (some .int) :: sdT) ({ frames := 0, cells := 0, slots := 0, locals := 0 }) (va_Pc [.ref m0, .int x] (sdR g [(m0, .inr (8, [.ref mtt, .int tk9, .int sz9, .int pl9, .int (nI wn9), .ref mcd, .int sy9, .ref mat, .ref msz, .ref mvl, .ref mcs, .ref mmm, .int ra, .int rd, .int nx9, .int dn, .ref mkn, .ref mjp, .ref mds])), (mcd, .inl (gI g, 600, .inl cdf))])) (vp_Si (fun r => (∀ j, j < wn9 → x = nI j → r = cdf j) ∧ ((x < 0 ∨ nI wn9 ≤ x) → r = -1))) 0 0 (fun _ => False) := by
  refine Met.ofW (cc := b_Mod_code) (maxL := 2) (ret := (some .int)) (by decide) rfl ?_
  intro p ev s m args below meth c s₁ B hml hv
  obtain ⟨rfl, hP, hK, hE⟩ := hv
  have hx := B.exec
  have hb := B.bytes
  have hr := B.returns
  have hts := fun (w : Cond) (h : w ∈ sdT) => atoms_spec (ws := (.code y_Mod_code b_Mod_code 2 (some .int) :: sdT)) B.pre w (List.mem_cons_of_mem _ h)
  have hown : s.vm.findClass "SignDeskModel" = some m.cls := findClass_of_methodNamed B.named
  have hlocks := B.notSynchronized
  have hF : ∀ a : Nat, a < s.heap.size → ¬ sdA g a → s.heap[a]? = s.heap[a]? := fun _ _ _ => rfl
  have hP : sdP g [(m0, .inr (8, [.ref mtt, .int tk9, .int sz9, .int pl9, .int (nI wn9), .ref mcd, .int sy9, .ref mat, .ref msz, .ref mvl, .ref mcs, .ref mmm, .int ra, .int rd, .int nx9, .int dn, .ref mkn, .ref mjp, .ref mds])), (mcd, .inl (gI g, 600, .inl cdf))] s.heap := hP
  have hl := lv_entry ([.ref m0, .int x]) (n := 2) (Nat.le_of_ble_eq_true rfl)
  rw [lg_entry_eq]
  generalize (lg_sl ([.ref m0, .int x]) ++ List.replicate (2 - (lg_sl ([.ref m0, .int x])).length) Slot.unset).toArray = ls at hl ⊢
  have hl : lv_has ls 2 [(0, .ref m0), (1, .int x)] := hl
  refine lv_iload_n hx hb d_Mod_code_0 rfl (lv_at hl 1 rfl) ?_
  refine lv_if_lt (tgt := 12) hx hb d_Mod_code_1 (by decide) (fun c1 => ?_) (fun c1 => ?_)
  · refine lv_iconst (v := (-1)) hx hb d_Mod_code_12 (by decide) ?_
    refine lv_goto (tgt := 22) hx hb d_Mod_code_13 (by decide) ?_
    exact W.iret (v := (-1)) hx hb hr  (fun t ht hW => ⟨_, rfl, ⟨fun j hj e => absurd (e ▸ c1) (nI_pos (by omega)), fun _ => rfl⟩, ht⟩) (fun _ h => by cases h) d_Mod_code_22
  · refine lv_iload_n hx hb d_Mod_code_4 rfl (lv_at hl 1 rfl) ?_
    refine lv_aload_n hx hb d_Mod_code_5 rfl (lv_at hl 0 rfl) ?_
    refine va_get (D := g.1) (ci := 8) (v := .int (nI wn9)) (C := "SignDeskModel") (T := F_Mod) (N := 19) hx hb hts in_Mod hown hK hP 0 rfl rfl 4 (by decide) (hts _ k_498) (fun _ h9 => h9) rfl d_Mod_code_6 ?_
    refine lv_icmp_lt (tgt := 16) hx hb d_Mod_code_9 (by decide) (fun c2 => ?_) (fun c2 => ?_)
    · obtain ⟨j, hj, ej⟩ : ∃ j : Nat, j < wn9 ∧ x = nI j := by
        rcases pk_ix x (n := wn9) (by omega) with h | h | h
        · exact absurd h c1
        · exact absurd c2 (Int32.not_lt.mpr h)
        · exact h
      refine lv_aload_n hx hb d_Mod_code_16 rfl (lv_at hl 0 rfl) ?_
      refine va_get (D := g.1) (ci := 8) (v := .ref mcd) (C := "SignDeskModel") (T := F_Mod) (N := 19) hx hb hts in_Mod hown hK hP 0 rfl rfl 5 (by decide) (hts _ k_499) (fun _ h9 => h9) rfl d_Mod_code_17 ?_
      refine lv_iload_n hx hb d_Mod_code_20 rfl (lv_at hl 1 rfl) ?_
      refine va_iald hx hb hK hP 1 1 rfl rfl (i := x) (by rw [ej]; exact vp_in_nI (by omega) (by omega)) d_Mod_code_21 ?_
      exact W.iret (v := (cdf (x).toNatClampNeg)) hx hb hr  (fun t ht hW => ⟨_, rfl, ⟨fun k hk e => by
          have : k = j := (nI_eq (by omega) (by omega)).mp (e.symm.trans ej)
          subst this; rw [ej, nI_clamp (by omega)], fun h => h.elim (fun h => absurd h c1) (fun h => absurd c2 (Int32.not_lt.mpr h))⟩, ht⟩) (fun _ h => by cases h) d_Mod_code_22
    · refine lv_iconst (v := (-1)) hx hb d_Mod_code_12 (by decide) ?_
      refine lv_goto (tgt := 22) hx hb d_Mod_code_13 (by decide) ?_
      exact W.iret (v := (-1)) hx hb hr  (fun t ht hW => ⟨_, rfl, ⟨fun j hj e => absurd (e ▸ nI_lt hj (by omega)) c2, fun _ => rfl⟩, ht⟩) (fun _ h => by cases h) d_Mod_code_22
theorem inM_le {x : Int32} (h0 : ¬ x < 0) (h : x ≤ nI 32767) : inM x := ⟨h0, fun q => by
  have h1 := Int32.le_trans q h
  exact absurd h1 (by decide)⟩
theorem inM_gt {x : Int32} (h : inM x) : x ≤ nI 32767 := by
  obtain ⟨k, hk, rfl⟩ := inM_of h
  exact nI_le (by omega) (by decide)
set_option maxHeartbeats 4000000 in
set_option maxRecDepth 100000 in
/-- store -/
theorem c_Mod_store (l : Launch) (g : sdG) (m0 mtt mcd mat msz mvl mcs mmm mkn mjp mds : Nat) (tk9 sz9 pl9 wd9 sy9 ra rd nx9 dn : Int32) (M : Nat → Int32) (x : Int32) : Met l y_Mod_store (.code y_Mod_store b_Mod_store 2 (some .int) :: sdT) ({ frames := 0, cells := 0, slots := 0, locals := 0 }) (va_Pc [.ref m0, .int x] (sdR g [(m0, .inr (8, [.ref mtt, .int tk9, .int sz9, .int pl9, .int wd9, .ref mcd, .int sy9, .ref mat, .ref msz, .ref mvl, .ref mcs, .ref mmm, .int ra, .int rd, .int nx9, .int dn, .ref mkn, .ref mjp, .ref mds])), (mmm, .inl (gI g, 32768, .inl M))])) (vp_Si (fun r => (∀ k, k < 32768 → x = nI k → r = M k) ∧ (¬ inM x → r = nI 100000))) 0 0 (fun _ => False) := by
  refine Met.ofW (cc := b_Mod_store) (maxL := 2) (ret := (some .int)) (by decide) rfl ?_
  intro p ev s m args below meth c s₁ B hml hv
  obtain ⟨rfl, hP, hK, hE⟩ := hv
  have hx := B.exec
  have hb := B.bytes
  have hr := B.returns
  have hts := fun (w : Cond) (h : w ∈ sdT) => atoms_spec (ws := (.code y_Mod_store b_Mod_store 2 (some .int) :: sdT)) B.pre w (List.mem_cons_of_mem _ h)
  have hown : s.vm.findClass "SignDeskModel" = some m.cls := findClass_of_methodNamed B.named
  have hlocks := B.notSynchronized
  have hF : ∀ a : Nat, a < s.heap.size → ¬ sdA g a → s.heap[a]? = s.heap[a]? := fun _ _ _ => rfl
  have hP : sdP g [(m0, .inr (8, [.ref mtt, .int tk9, .int sz9, .int pl9, .int wd9, .ref mcd, .int sy9, .ref mat, .ref msz, .ref mvl, .ref mcs, .ref mmm, .int ra, .int rd, .int nx9, .int dn, .ref mkn, .ref mjp, .ref mds])), (mmm, .inl (gI g, 32768, .inl M))] s.heap := hP
  have hl := lv_entry ([.ref m0, .int x]) (n := 2) (Nat.le_of_ble_eq_true rfl)
  rw [lg_entry_eq]
  generalize (lg_sl ([.ref m0, .int x]) ++ List.replicate (2 - (lg_sl ([.ref m0, .int x])).length) Slot.unset).toArray = ls at hl ⊢
  have hl : lv_has ls 2 [(0, .ref m0), (1, .int x)] := hl
  refine lv_iload_n hx hb d_Mod_store_0 rfl (lv_at hl 1 rfl) ?_
  refine lv_if_lt (tgt := 11) hx hb d_Mod_store_1 (by decide) (fun c1 => ?_) (fun c1 => ?_)
  · refine lv_ldc (v := nI 100000) hx hb hown (hts _ k_652) d_Mod_store_11 ?_
    refine lv_goto (tgt := 22) hx hb d_Mod_store_13 (by decide) ?_
    exact W.iret (v := (nI 100000)) hx hb hr  (fun t ht hW => ⟨_, rfl, ⟨fun k hk e => absurd (e ▸ inM_nI hk) (fun q => q.1 c1), fun _ => rfl⟩, ht⟩) (fun _ h => by cases h) d_Mod_store_22
  · refine lv_iload_n hx hb d_Mod_store_4 rfl (lv_at hl 1 rfl) ?_
    refine lv_sipush (v := (nI 32767)) hx hb d_Mod_store_5 (by decide) ?_
    refine lv_icmp_le (tgt := 16) hx hb d_Mod_store_8 (by decide) (fun c2 => ?_) (fun c2 => ?_)
    · have hM9 := inM_le c1 c2
      obtain ⟨k, hk, rfl⟩ := inM_of hM9
      refine lv_aload_n hx hb d_Mod_store_16 rfl (lv_at hl 0 rfl) ?_
      refine va_get (D := g.1) (ci := 8) (v := .ref mmm) (C := "SignDeskModel") (T := F_Mod) (N := 19) hx hb hts in_Mod hown hK hP 0 rfl rfl 11 (by decide) (hts _ k_505) (fun _ h9 => h9) rfl d_Mod_store_17 ?_
      refine lv_iload_n hx hb d_Mod_store_20 rfl (lv_at hl 1 rfl) ?_
      refine va_iald hx hb hK hP 1 1 rfl rfl (i := (nI k)) (vp_in_nI hk (by decide)) d_Mod_store_21 ?_
      exact W.iret (v := (M ((nI k)).toNatClampNeg)) hx hb hr  (fun t ht hW => ⟨_, rfl, ⟨fun j hj e => by
          have : j = k := (nI_eq (by omega) (by omega)).mp e.symm
          subst this; rw [nI_clamp (by omega)], fun h => absurd hM9 h⟩, ht⟩) (fun _ h => by cases h) d_Mod_store_22
    · refine lv_ldc (v := nI 100000) hx hb hown (hts _ k_652) d_Mod_store_11 ?_
      refine lv_goto (tgt := 22) hx hb d_Mod_store_13 (by decide) ?_
      exact W.iret (v := (nI 100000)) hx hb hr  (fun t ht hW => ⟨_, rfl, ⟨fun k hk e => absurd (e ▸ inM_nI hk) (fun q => c2 (inM_gt q)), fun _ => rfl⟩, ht⟩) (fun _ h => by cases h) d_Mod_store_22
set_option maxHeartbeats 4000000 in
set_option maxRecDepth 100000 in
/-- set -/
theorem c_Mod_set (l : Launch) (g : sdG) (m0 mtt mcd mat msz mvl mcs mmm mkn mjp mds : Nat) (tk9 sz9 pl9 wd9 sy9 ra rd nx9 dn : Int32) (M : Nat → Int32) (x v : Int32) (sz : Nat) : Met l y_Mod_set (.code y_Mod_set b_Mod_set 3 (some .boolean) :: sdT) ({ frames := 0, cells := 0, slots := 0, locals := 0 }) (va_Pc [.ref m0, .int x, .int v] (sdU g [(m0, .inr (8, [.ref mtt, .int tk9, .int sz9, .int pl9, .int wd9, .ref mcd, .int sy9, .ref mat, .ref msz, .ref mvl, .ref mcs, .ref mmm, .int ra, .int rd, .int nx9, .int dn, .ref mkn, .ref mjp, .ref mds])), (mmm, .inl (gI g, 32768, .inl M))] sz)) (va_Qi (S := (Nat → Int32)) (fun r u => (∃ k, k < 32768 ∧ x = nI k ∧ r = nI 1 ∧ u = upd M k v.toInt16.toInt32) ∨ (¬ inM x ∧ r = nI 0 ∧ u = M)) (fun u t => sdB g [(m0, .inr (8, [.ref mtt, .int tk9, .int sz9, .int pl9, .int wd9, .ref mcd, .int sy9, .ref mat, .ref msz, .ref mvl, .ref mcs, .ref mmm, .int ra, .int rd, .int nx9, .int dn, .ref mkn, .ref mjp, .ref mds])), (mmm, .inl (gI g, 32768, .inl M))] sz ((fun u => [(m0, .inr (8, [.ref mtt, .int tk9, .int sz9, .int pl9, .int wd9, .ref mcd, .int sy9, .ref mat, .ref msz, .ref mvl, .ref mcs, .ref mmm, .int ra, .int rd, .int nx9, .int dn, .ref mkn, .ref mjp, .ref mds])), (mmm, .inl (gI g, 32768, .inl u))] : (Nat → Int32) → va_W) u) t) (va_A [(m0, .inr (8, [.ref mtt, .int tk9, .int sz9, .int pl9, .int wd9, .ref mcd, .int sy9, .ref mat, .ref msz, .ref mvl, .ref mcs, .ref mmm, .int ra, .int rd, .int nx9, .int dn, .ref mkn, .ref mjp, .ref mds])), (mmm, .inl (gI g, 32768, .inl M))] sz)) 0 0 (va_A [(m0, .inr (8, [.ref mtt, .int tk9, .int sz9, .int pl9, .int wd9, .ref mcd, .int sy9, .ref mat, .ref msz, .ref mvl, .ref mcs, .ref mmm, .int ra, .int rd, .int nx9, .int dn, .ref mkn, .ref mjp, .ref mds])), (mmm, .inl (gI g, 32768, .inl M))] sz) := by
  refine Met.ofW (cc := b_Mod_set) (maxL := 3) (ret := (some .boolean)) (by decide) rfl ?_
  intro p ev s m args below meth c s₁ B hml hv
  obtain ⟨rfl, hsz, hP, hK, hE, hD0, hs0⟩ := hv
  have hx := B.exec
  have hb := B.bytes
  have hr := B.returns
  have hts := fun (w : Cond) (h : w ∈ sdT) => atoms_spec (ws := (.code y_Mod_set b_Mod_set 3 (some .boolean) :: sdT)) B.pre w (List.mem_cons_of_mem _ h)
  have hown : s.vm.findClass "SignDeskModel" = some m.cls := findClass_of_methodNamed B.named
  have hlocks := B.notSynchronized
  subst hsz
  have hD := hD0.self (sz := s.heap.size)
  have hA0 : ∀ q : Nat, va_A [(m0, .inr (8, [.ref mtt, .int tk9, .int sz9, .int pl9, .int wd9, .ref mcd, .int sy9, .ref mat, .ref msz, .ref mvl, .ref mcs, .ref mmm, .int ra, .int rd, .int nx9, .int dn, .ref mkn, .ref mjp, .ref mds])), (mmm, .inl (gI g, 32768, .inl M))] s.heap.size q → gS g ≤ q := fun q h => h.elim (fun ⟨k, e, hk⟩ => hD0.2 k _ hk) (fun h => Nat.le_trans hs0 h)
  have hA : ∀ q : Nat, s.heap.size ≤ q → va_A [(m0, .inr (8, [.ref mtt, .int tk9, .int sz9, .int pl9, .int wd9, .ref mcd, .int sy9, .ref mat, .ref msz, .ref mvl, .ref mcs, .ref mmm, .int ra, .int rd, .int nx9, .int dn, .ref mkn, .ref mjp, .ref mds])), (mmm, .inl (gI g, 32768, .inl M))] s.heap.size q := fun q h => Or.inr h
  generalize hAe : va_A [(m0, .inr (8, [.ref mtt, .int tk9, .int sz9, .int pl9, .int wd9, .ref mcd, .int sy9, .ref mat, .ref msz, .ref mvl, .ref mcs, .ref mmm, .int ra, .int rd, .int nx9, .int dn, .ref mkn, .ref mjp, .ref mds])), (mmm, .inl (gI g, 32768, .inl M))] s.heap.size = A at hD hA0 hA ⊢
  have hS : va_S A s.heap s.heap [] := va_S.rf
  have hP : sdP g [(m0, .inr (8, [.ref mtt, .int tk9, .int sz9, .int pl9, .int wd9, .ref mcd, .int sy9, .ref mat, .ref msz, .ref mvl, .ref mcs, .ref mmm, .int ra, .int rd, .int nx9, .int dn, .ref mkn, .ref mjp, .ref mds])), (mmm, .inl (gI g, 32768, .inl M))] s.heap := hP
  have hl := lv_entry ([.ref m0, .int x, .int v]) (n := 3) (Nat.le_of_ble_eq_true rfl)
  rw [lg_entry_eq]
  generalize (lg_sl ([.ref m0, .int x, .int v]) ++ List.replicate (3 - (lg_sl ([.ref m0, .int x, .int v])).length) Slot.unset).toArray = ls at hl ⊢
  have hl : lv_has ls 3 [(0, .ref m0), (1, .int x), (2, .int v)] := hl
  refine lv_iload_n hx hb d_Mod_set_0 rfl (lv_at hl 1 rfl) ?_
  refine lv_if_lt (tgt := 11) hx hb d_Mod_set_1 (by decide) (fun c1 => ?_) (fun c1 => ?_)
  · refine lv_iconst (v := (nI 0)) hx hb d_Mod_set_11 (by decide) ?_
    have hP9 := hP.sub (ws' := [(m0, .inr (8, [.ref mtt, .int tk9, .int sz9, .int pl9, .int wd9, .ref mcd, .int sy9, .ref mat, .ref msz, .ref mvl, .ref mcs, .ref mmm, .int ra, .int rd, .int nx9, .int dn, .ref mkn, .ref mjp, .ref mds])), (mmm, .inl (gI g, 32768, .inl M))]) [0, 1] rfl
    have hD9 := hD.sub (ws' := [(m0, .inr (8, [.ref mtt, .int tk9, .int sz9, .int pl9, .int wd9, .ref mcd, .int sy9, .ref mat, .ref msz, .ref mvl, .ref mcs, .ref mmm, .int ra, .int rd, .int nx9, .int dn, .ref mkn, .ref mjp, .ref mds])), (mmm, .inl (gI g, 32768, .inl M))]) [0, 1] (by decide) rfl
    exact W.zret (v := (nI 0)) hx hb hr (by first | rfl | decide | exact sb_nar) (fun t ht hW => ⟨⟨_, M, rfl, Or.inr ⟨fun q => q.1 c1, rfl, rfl⟩, by rw [ht]; exact hP9, by rw [hAe]; exact hD9⟩, hS.F ht⟩) hS.2.2 d_Mod_set_12
  · refine lv_iload_n hx hb d_Mod_set_4 rfl (lv_at hl 1 rfl) ?_
    refine lv_sipush (v := (nI 32767)) hx hb d_Mod_set_5 (by decide) ?_
    refine lv_icmp_le (tgt := 13) hx hb d_Mod_set_8 (by decide) (fun c2 => ?_) (fun c2 => ?_)
    · have hM9 := inM_le c1 c2
      obtain ⟨k, hk, rfl⟩ := inM_of hM9
      refine lv_aload_n hx hb d_Mod_set_13 rfl (lv_at hl 0 rfl) ?_
      refine va_get (D := g.1) (ci := 8) (v := .ref mmm) (C := "SignDeskModel") (T := F_Mod) (N := 19) hx hb hts in_Mod hown hK hP 0 rfl rfl 11 (by decide) (hts _ k_505) (fun _ h9 => h9) rfl d_Mod_set_14 ?_
      refine lv_iload_n hx hb d_Mod_set_17 rfl (lv_at hl 1 rfl) ?_
      refine lv_iload_n hx hb d_Mod_set_18 rfl (lv_at hl 2 rfl) ?_
      refine lv_i2s hx hb d_Mod_set_19 rfl ?_
      refine va_iast hx hb hK hP hD hS 1 1 rfl rfl (i := (nI k)) (x := ((v).toInt16.toInt32)) (vp_in_nI hk (by decide)) d_Mod_set_20 (fun H locs hP hD hS => ?_)
      have hP : sdP g [(m0, .inr (8, [.ref mtt, .int tk9, .int sz9, .int pl9, .int wd9, .ref mcd, .int sy9, .ref mat, .ref msz, .ref mvl, .ref mcs, .ref mmm, .int ra, .int rd, .int nx9, .int dn, .ref mkn, .ref mjp, .ref mds])), (mmm, .inl (gI g, 32768, .inl (upd M ((nI k)).toNatClampNeg ((v).toInt16.toInt32))))] H := hP
      have hD : va_D A [(m0, .inr (8, [.ref mtt, .int tk9, .int sz9, .int pl9, .int wd9, .ref mcd, .int sy9, .ref mat, .ref msz, .ref mvl, .ref mcs, .ref mmm, .int ra, .int rd, .int nx9, .int dn, .ref mkn, .ref mjp, .ref mds])), (mmm, .inl (gI g, 32768, .inl (upd M ((nI k)).toNatClampNeg ((v).toInt16.toInt32))))] := hD
      have eF : (upd M ((nI k)).toNatClampNeg ((v).toInt16.toInt32)) = (upd M k v.toInt16.toInt32) := by rw [nI_clamp (by omega)]
      rw [eF] at hP hD
      refine lv_iconst (v := (nI 1)) hx hb d_Mod_set_21 (by decide) ?_
      have hP9 := hP.sub (ws' := [(m0, .inr (8, [.ref mtt, .int tk9, .int sz9, .int pl9, .int wd9, .ref mcd, .int sy9, .ref mat, .ref msz, .ref mvl, .ref mcs, .ref mmm, .int ra, .int rd, .int nx9, .int dn, .ref mkn, .ref mjp, .ref mds])), (mmm, .inl (gI g, 32768, .inl (upd M k v.toInt16.toInt32)))]) [0, 1] rfl
      have hD9 := hD.sub (ws' := [(m0, .inr (8, [.ref mtt, .int tk9, .int sz9, .int pl9, .int wd9, .ref mcd, .int sy9, .ref mat, .ref msz, .ref mvl, .ref mcs, .ref mmm, .int ra, .int rd, .int nx9, .int dn, .ref mkn, .ref mjp, .ref mds])), (mmm, .inl (gI g, 32768, .inl (upd M k v.toInt16.toInt32)))]) [0, 1] (by decide) rfl
      exact W.zret (v := (nI 1)) hx hb hr (by first | rfl | decide | exact sb_nar) (fun t ht hW => ⟨⟨_, upd M k v.toInt16.toInt32, rfl, Or.inl ⟨k, hk, rfl, rfl, rfl⟩, by rw [ht]; exact hP9, by rw [hAe]; exact hD9⟩, hS.F ht⟩) hS.2.2 d_Mod_set_22
    · refine lv_iconst (v := (nI 0)) hx hb d_Mod_set_11 (by decide) ?_
      have hP9 := hP.sub (ws' := [(m0, .inr (8, [.ref mtt, .int tk9, .int sz9, .int pl9, .int wd9, .ref mcd, .int sy9, .ref mat, .ref msz, .ref mvl, .ref mcs, .ref mmm, .int ra, .int rd, .int nx9, .int dn, .ref mkn, .ref mjp, .ref mds])), (mmm, .inl (gI g, 32768, .inl M))]) [0, 1] rfl
      have hD9 := hD.sub (ws' := [(m0, .inr (8, [.ref mtt, .int tk9, .int sz9, .int pl9, .int wd9, .ref mcd, .int sy9, .ref mat, .ref msz, .ref mvl, .ref mcs, .ref mmm, .int ra, .int rd, .int nx9, .int dn, .ref mkn, .ref mjp, .ref mds])), (mmm, .inl (gI g, 32768, .inl M))]) [0, 1] (by decide) rfl
      exact W.zret (v := (nI 0)) hx hb hr (by first | rfl | decide | exact sb_nar) (fun t ht hW => ⟨⟨_, M, rfl, Or.inr ⟨fun q => c2 (inM_gt q), rfl, rfl⟩, by rw [ht]; exact hP9, by rw [hAe]; exact hD9⟩, hS.F ht⟩) hS.2.2 d_Mod_set_12
set_option maxHeartbeats 4000000 in
set_option maxRecDepth 100000 in
/-- register(x) -/
theorem c_Mod_register (l : Launch) (g : sdG) (m0 mtt mcd mat msz mvl mcs mmm mkn mjp mds : Nat) (tk9 sz9 pl9 wd9 sy9 ra rd nx9 dn : Int32) (x : Int32) : Met l y_Mod_register (.code y_Mod_register b_Mod_register 2 (some .int) :: sdT) ({ frames := 0, cells := 0, slots := 0, locals := 0 }) (va_Pc [.ref m0, .int x] (sdR g [(m0, .inr (8, [.ref mtt, .int tk9, .int sz9, .int pl9, .int wd9, .ref mcd, .int sy9, .ref mat, .ref msz, .ref mvl, .ref mcs, .ref mmm, .int ra, .int rd, .int nx9, .int dn, .ref mkn, .ref mjp, .ref mds]))])) (vp_Si (fun r => (x = nI 0 → r = ra) ∧ (x = nI 1 → r = rd) ∧ (x = nI 2 → r = nx9) ∧ (x = nI 3 → r = wd9) ∧ (x = nI 4 → r = dn) ∧ (x = nI 5 → r = sy9) ∧ (x = nI 6 → r = tk9) ∧ ((x < 0 ∨ nI 7 ≤ x) → r = nI 100000))) 0 0 (fun _ => False) := by
  refine Met.ofW (cc := b_Mod_register) (maxL := 2) (ret := (some .int)) (by decide) rfl ?_
  intro p ev s m args below meth c s₁ B hml hv
  obtain ⟨rfl, hP, hK, hE⟩ := hv
  have hx := B.exec
  have hb := B.bytes
  have hr := B.returns
  have hts := fun (w : Cond) (h : w ∈ sdT) => atoms_spec (ws := (.code y_Mod_register b_Mod_register 2 (some .int) :: sdT)) B.pre w (List.mem_cons_of_mem _ h)
  have hown : s.vm.findClass "SignDeskModel" = some m.cls := findClass_of_methodNamed B.named
  have hlocks := B.notSynchronized
  have hF : ∀ a : Nat, a < s.heap.size → ¬ sdA g a → s.heap[a]? = s.heap[a]? := fun _ _ _ => rfl
  have hP : sdP g [(m0, .inr (8, [.ref mtt, .int tk9, .int sz9, .int pl9, .int wd9, .ref mcd, .int sy9, .ref mat, .ref msz, .ref mvl, .ref mcs, .ref mmm, .int ra, .int rd, .int nx9, .int dn, .ref mkn, .ref mjp, .ref mds]))] s.heap := hP
  have hl := lv_entry ([.ref m0, .int x]) (n := 2) (Nat.le_of_ble_eq_true rfl)
  rw [lg_entry_eq]
  generalize (lg_sl ([.ref m0, .int x]) ++ List.replicate (2 - (lg_sl ([.ref m0, .int x])).length) Slot.unset).toArray = ls at hl ⊢
  have hl : lv_has ls 2 [(0, .ref m0), (1, .int x)] := hl
  refine lv_iload_n hx hb d_Mod_register_0 rfl (lv_at hl 1 rfl) ?_
  rcases pk_ix x (n := 7) (by decide) with hq | hq | ⟨j, hj, rfl⟩
  · refine lv_tableOut (tgt := 79) hx hb d_Mod_register_1 (Or.inl (by rw [Int32.lt_iff_toInt_lt] at hq; exact hq)) (by decide) ?_
    refine lv_ldc (v := nI 100000) hx hb hown (hts _ k_652) d_Mod_register_79 ?_
    refine W.iret (v := nI 100000) hx hb hr (fun t ht hW => ⟨_, rfl, ?_, ht⟩) (fun _ h => by cases h) d_Mod_register_81
    exact ⟨fun e => absurd e (by
        intro e; subst e; exact absurd hq (by decide)), fun e => absurd e (by
        intro e; subst e; exact absurd hq (by decide)), fun e => absurd e (by
        intro e; subst e; exact absurd hq (by decide)), fun e => absurd e (by
        intro e; subst e; exact absurd hq (by decide)), fun e => absurd e (by
        intro e; subst e; exact absurd hq (by decide)), fun e => absurd e (by
        intro e; subst e; exact absurd hq (by decide)), fun e => absurd e (by
        intro e; subst e; exact absurd hq (by decide)), fun _ => rfl⟩
  · refine lv_tableOut (tgt := 79) hx hb d_Mod_register_1 (Or.inr (by rw [Int32.le_iff_toInt_le] at hq; exact Int.lt_of_lt_of_le (by decide) hq)) (by decide) ?_
    refine lv_ldc (v := nI 100000) hx hb hown (hts _ k_652) d_Mod_register_79 ?_
    refine W.iret (v := nI 100000) hx hb hr (fun t ht hW => ⟨_, rfl, ?_, ht⟩) (fun _ h => by cases h) d_Mod_register_81
    exact ⟨fun e => absurd e (by
        intro e; subst e; exact absurd hq (by decide)), fun e => absurd e (by
        intro e; subst e; exact absurd hq (by decide)), fun e => absurd e (by
        intro e; subst e; exact absurd hq (by decide)), fun e => absurd e (by
        intro e; subst e; exact absurd hq (by decide)), fun e => absurd e (by
        intro e; subst e; exact absurd hq (by decide)), fun e => absurd e (by
        intro e; subst e; exact absurd hq (by decide)), fun e => absurd e (by
        intro e; subst e; exact absurd hq (by decide)), fun _ => rfl⟩
  · rcases (show j = 0 ∨ j = 1 ∨ j = 2 ∨ j = 3 ∨ j = 4 ∨ j = 5 ∨ j = 6 by omega) with rfl | rfl | rfl | rfl | rfl | rfl | rfl
    · refine lv_tableIn (off := 43) (tgt := 44) hx hb d_Mod_register_1 (by decide) (by decide) (by decide) (by decide) ?_
      refine lv_aload_n hx hb d_Mod_register_44 rfl (lv_at hl 0 rfl) ?_
      refine va_get (D := g.1) (ci := 8) (v := .int ra) (C := "SignDeskModel") (T := F_Mod) (N := 19) hx hb hts in_Mod hown hK hP 0 rfl rfl 12 (by decide) (hts _ k_506) (fun _ h9 => h9) rfl d_Mod_register_45 ?_
      exact W.iret (v := ra) hx hb hr (fun t ht hW => ⟨_, rfl, ⟨fun _ => rfl, fun e => absurd e (by decide), fun e => absurd e (by decide), fun e => absurd e (by decide), fun e => absurd e (by decide), fun e => absurd e (by decide), fun e => absurd e (by decide), fun h => absurd h (by decide)⟩, ht⟩) (fun _ h => by cases h) d_Mod_register_48
    · refine lv_tableIn (off := 48) (tgt := 49) hx hb d_Mod_register_1 (by decide) (by decide) (by decide) (by decide) ?_
      refine lv_aload_n hx hb d_Mod_register_49 rfl (lv_at hl 0 rfl) ?_
      refine va_get (D := g.1) (ci := 8) (v := .int rd) (C := "SignDeskModel") (T := F_Mod) (N := 19) hx hb hts in_Mod hown hK hP 0 rfl rfl 13 (by decide) (hts _ k_507) (fun _ h9 => h9) rfl d_Mod_register_50 ?_
      exact W.iret (v := rd) hx hb hr (fun t ht hW => ⟨_, rfl, ⟨fun e => absurd e (by decide), fun _ => rfl, fun e => absurd e (by decide), fun e => absurd e (by decide), fun e => absurd e (by decide), fun e => absurd e (by decide), fun e => absurd e (by decide), fun h => absurd h (by decide)⟩, ht⟩) (fun _ h => by cases h) d_Mod_register_53
    · refine lv_tableIn (off := 53) (tgt := 54) hx hb d_Mod_register_1 (by decide) (by decide) (by decide) (by decide) ?_
      refine lv_aload_n hx hb d_Mod_register_54 rfl (lv_at hl 0 rfl) ?_
      refine va_get (D := g.1) (ci := 8) (v := .int nx9) (C := "SignDeskModel") (T := F_Mod) (N := 19) hx hb hts in_Mod hown hK hP 0 rfl rfl 14 (by decide) (hts _ k_508) (fun _ h9 => h9) rfl d_Mod_register_55 ?_
      exact W.iret (v := nx9) hx hb hr (fun t ht hW => ⟨_, rfl, ⟨fun e => absurd e (by decide), fun e => absurd e (by decide), fun _ => rfl, fun e => absurd e (by decide), fun e => absurd e (by decide), fun e => absurd e (by decide), fun e => absurd e (by decide), fun h => absurd h (by decide)⟩, ht⟩) (fun _ h => by cases h) d_Mod_register_58
    · refine lv_tableIn (off := 58) (tgt := 59) hx hb d_Mod_register_1 (by decide) (by decide) (by decide) (by decide) ?_
      refine lv_aload_n hx hb d_Mod_register_59 rfl (lv_at hl 0 rfl) ?_
      refine va_get (D := g.1) (ci := 8) (v := .int wd9) (C := "SignDeskModel") (T := F_Mod) (N := 19) hx hb hts in_Mod hown hK hP 0 rfl rfl 4 (by decide) (hts _ k_498) (fun _ h9 => h9) rfl d_Mod_register_60 ?_
      exact W.iret (v := wd9) hx hb hr (fun t ht hW => ⟨_, rfl, ⟨fun e => absurd e (by decide), fun e => absurd e (by decide), fun e => absurd e (by decide), fun _ => rfl, fun e => absurd e (by decide), fun e => absurd e (by decide), fun e => absurd e (by decide), fun h => absurd h (by decide)⟩, ht⟩) (fun _ h => by cases h) d_Mod_register_63
    · refine lv_tableIn (off := 63) (tgt := 64) hx hb d_Mod_register_1 (by decide) (by decide) (by decide) (by decide) ?_
      refine lv_aload_n hx hb d_Mod_register_64 rfl (lv_at hl 0 rfl) ?_
      refine va_get (D := g.1) (ci := 8) (v := .int dn) (C := "SignDeskModel") (T := F_Mod) (N := 19) hx hb hts in_Mod hown hK hP 0 rfl rfl 15 (by decide) (hts _ k_509) (fun _ h9 => h9) rfl d_Mod_register_65 ?_
      exact W.iret (v := dn) hx hb hr (fun t ht hW => ⟨_, rfl, ⟨fun e => absurd e (by decide), fun e => absurd e (by decide), fun e => absurd e (by decide), fun e => absurd e (by decide), fun _ => rfl, fun e => absurd e (by decide), fun e => absurd e (by decide), fun h => absurd h (by decide)⟩, ht⟩) (fun _ h => by cases h) d_Mod_register_68
    · refine lv_tableIn (off := 68) (tgt := 69) hx hb d_Mod_register_1 (by decide) (by decide) (by decide) (by decide) ?_
      refine lv_aload_n hx hb d_Mod_register_69 rfl (lv_at hl 0 rfl) ?_
      refine va_get (D := g.1) (ci := 8) (v := .int sy9) (C := "SignDeskModel") (T := F_Mod) (N := 19) hx hb hts in_Mod hown hK hP 0 rfl rfl 6 (by decide) (hts _ k_500) (fun _ h9 => h9) rfl d_Mod_register_70 ?_
      exact W.iret (v := sy9) hx hb hr (fun t ht hW => ⟨_, rfl, ⟨fun e => absurd e (by decide), fun e => absurd e (by decide), fun e => absurd e (by decide), fun e => absurd e (by decide), fun e => absurd e (by decide), fun _ => rfl, fun e => absurd e (by decide), fun h => absurd h (by decide)⟩, ht⟩) (fun _ h => by cases h) d_Mod_register_73
    · refine lv_tableIn (off := 73) (tgt := 74) hx hb d_Mod_register_1 (by decide) (by decide) (by decide) (by decide) ?_
      refine lv_aload_n hx hb d_Mod_register_74 rfl (lv_at hl 0 rfl) ?_
      refine va_get (D := g.1) (ci := 8) (v := .int tk9) (C := "SignDeskModel") (T := F_Mod) (N := 19) hx hb hts in_Mod hown hK hP 0 rfl rfl 1 (by decide) (hts _ k_495) (fun _ h9 => h9) rfl d_Mod_register_75 ?_
      exact W.iret (v := tk9) hx hb hr (fun t ht hW => ⟨_, rfl, ⟨fun e => absurd e (by decide), fun e => absurd e (by decide), fun e => absurd e (by decide), fun e => absurd e (by decide), fun e => absurd e (by decide), fun e => absurd e (by decide), fun _ => rfl, fun h => absurd h (by decide)⟩, ht⟩) (fun _ h => by cases h) d_Mod_register_78
