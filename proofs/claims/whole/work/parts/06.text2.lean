/-- a digit -/
def isDg (k : Nat) : Prop := 48 ≤ k ∧ k ≤ 57
/-- a sign of symbols -/
def isSy (k : Nat) : Prop := (65 ≤ k ∧ k ≤ 90) ∨ (97 ≤ k ∧ k ≤ 122) ∨ (48 ≤ k ∧ k ≤ 57) ∨ k = 95 ∨ k = 46 ∨ k = 36 ∨ k = 58
/-- where an instruction ends -/
def isSt (tx : Nat → Nat) (i : Nat) : Prop := tx i = 10 ∨ (tx i = 9 ∨ tx i = 13 ∨ tx i = 32) ∨ (tx i = 47 ∧ tx (i + 1) = 47)
set_option maxHeartbeats 4000000 in
set_option maxRecDepth 100000 in
/-- isSymbolSign(c) -/
theorem c_Txt_isSymbolSign (l : Launch) (k : Nat) (hk : k < 256) : Met l y_Txt_isSymbolSign (.code y_Txt_isSymbolSign b_Txt_isSymbolSign 1 (some .boolean) :: sdT) ({ frames := 1, cells := 0, slots := 0, locals := 20 }) (fun v _ => v = ([.int (nI k)] : List Value).toArray) (vp_Si (fun r => r = sb (isSy k))) 0 0 (fun _ => False) := by
  refine Met.ofW (cc := b_Txt_isSymbolSign) (maxL := 1) (ret := (some .boolean)) (by decide) rfl ?_
  intro p e s m args below meth c s₁ B hml hv
  subst hv
  have hx := B.exec
  have hb := B.bytes
  have hr := B.returns
  have hts := fun (w : Cond) (h : w ∈ sdT) => atoms_spec (ws := (.code y_Txt_isSymbolSign b_Txt_isSymbolSign 1 (some .boolean) :: sdT)) B.pre w (List.mem_cons_of_mem _ h)
  have hown : s.vm.findClass "SignDesk$Text" = some m.cls := findClass_of_methodNamed B.named
  have hlocks := B.notSynchronized
  have hl := lv_entry ([.int (nI k)]) (n := 1) (Nat.le_of_ble_eq_true rfl)
  rw [lg_entry_eq]
  generalize (lg_sl ([.int (nI k)]) ++ List.replicate (1 - (lg_sl ([.int (nI k)])).length) Slot.unset).toArray = ls at hl ⊢
  have hl : lv_has ls 1 [(0, .int (nI k))] := hl
  refine lv_iload_n hx hb d_Txt_isSymbolSign_0 rfl (lv_at hl 0 rfl) ?_
  refine lv_bipush (v := (nI 65)) hx hb d_Txt_isSymbolSign_1 (by decide) ?_
  refine lv_icmp_lt (tgt := 12) hx hb d_Txt_isSymbolSign_3 (by decide) (fun c1 => ?_) (fun c1 => ?_)
  · have c1 := (nI_ltI (by omega) (by omega)).mp c1
    refine lv_iload_n hx hb d_Txt_isSymbolSign_12 rfl (lv_at hl 0 rfl) ?_
    refine lv_bipush (v := (nI 97)) hx hb d_Txt_isSymbolSign_13 (by decide) ?_
    refine lv_icmp_lt (tgt := 24) hx hb d_Txt_isSymbolSign_15 (by decide) (fun c2 => ?_) (fun c2 => ?_)
    · have c2 := (nI_ltI (by omega) (by omega)).mp c2
      refine lv_iload_n hx hb d_Txt_isSymbolSign_24 rfl (lv_at hl 0 rfl) ?_
      refine sd_ri (va_runS (As := [.int (nI k)]) (rest := []) ⟨hx, hb, hml, hown, hts⟩ (c_Txt_isDigit l k hk) (va_cwS 1 hts (sd_gS k_236 k_237 k_24 k_238) rfl rfl rfl (by decide +kernel) ⟨Nat.le_of_ble_eq_true rfl, Nat.le_of_ble_eq_true rfl⟩) preEq rfl rfl hl.1 rfl (lv_room (Nat.le_of_ble_eq_true rfl)) d_Txt_isSymbolSign_25 ⟨Nat.zero_le _, Nat.zero_le _⟩) (fun r3 er3 => ?_)
      subst er3
      refine lv_if_ne (tgt := 55) hx hb d_Txt_isSymbolSign_28 (by decide) (fun c4 => ?_) (fun c4 => ?_)
      · have c4 := sb_ne0.mp c4
        refine lv_iconst (v := (nI 1)) hx hb d_Txt_isSymbolSign_55 (by decide) ?_
        refine lv_goto (tgt := 60) hx hb d_Txt_isSymbolSign_56 (by decide) ?_
        exact W.zret (v := (nI 1)) hx hb hr (by first | rfl | decide | exact sb_nar) (fun t ht hW => ⟨_, rfl, (sb_t (by unfold isSy; omega)).symm, ht⟩) (fun _ h => by cases h) d_Txt_isSymbolSign_60
      · have c4 := sb_eq0.mp c4
        refine lv_iload_n hx hb d_Txt_isSymbolSign_31 rfl (lv_at hl 0 rfl) ?_
        refine lv_bipush (v := (nI 95)) hx hb d_Txt_isSymbolSign_32 (by decide) ?_
        refine lv_icmp_eq (tgt := 55) hx hb d_Txt_isSymbolSign_34 (by decide) (fun c5 => ?_) (fun c5 => ?_)
        · have c5 := (nI_eq (by omega) (by omega)).mp c5
          refine lv_iconst (v := (nI 1)) hx hb d_Txt_isSymbolSign_55 (by decide) ?_
          refine lv_goto (tgt := 60) hx hb d_Txt_isSymbolSign_56 (by decide) ?_
          exact W.zret (v := (nI 1)) hx hb hr (by first | rfl | decide | exact sb_nar) (fun t ht hW => ⟨_, rfl, (sb_t (by unfold isSy; omega)).symm, ht⟩) (fun _ h => by cases h) d_Txt_isSymbolSign_60
        · have c5 := mt (nI_eq (by omega) (by omega)).mpr c5
          refine lv_iload_n hx hb d_Txt_isSymbolSign_37 rfl (lv_at hl 0 rfl) ?_
          refine lv_bipush (v := (nI 46)) hx hb d_Txt_isSymbolSign_38 (by decide) ?_
          refine lv_icmp_eq (tgt := 55) hx hb d_Txt_isSymbolSign_40 (by decide) (fun c6 => ?_) (fun c6 => ?_)
          · have c6 := (nI_eq (by omega) (by omega)).mp c6
            refine lv_iconst (v := (nI 1)) hx hb d_Txt_isSymbolSign_55 (by decide) ?_
            refine lv_goto (tgt := 60) hx hb d_Txt_isSymbolSign_56 (by decide) ?_
            exact W.zret (v := (nI 1)) hx hb hr (by first | rfl | decide | exact sb_nar) (fun t ht hW => ⟨_, rfl, (sb_t (by unfold isSy; omega)).symm, ht⟩) (fun _ h => by cases h) d_Txt_isSymbolSign_60
          · have c6 := mt (nI_eq (by omega) (by omega)).mpr c6
            refine lv_iload_n hx hb d_Txt_isSymbolSign_43 rfl (lv_at hl 0 rfl) ?_
            refine lv_bipush (v := (nI 36)) hx hb d_Txt_isSymbolSign_44 (by decide) ?_
            refine lv_icmp_eq (tgt := 55) hx hb d_Txt_isSymbolSign_46 (by decide) (fun c7 => ?_) (fun c7 => ?_)
            · have c7 := (nI_eq (by omega) (by omega)).mp c7
              refine lv_iconst (v := (nI 1)) hx hb d_Txt_isSymbolSign_55 (by decide) ?_
              refine lv_goto (tgt := 60) hx hb d_Txt_isSymbolSign_56 (by decide) ?_
              exact W.zret (v := (nI 1)) hx hb hr (by first | rfl | decide | exact sb_nar) (fun t ht hW => ⟨_, rfl, (sb_t (by unfold isSy; omega)).symm, ht⟩) (fun _ h => by cases h) d_Txt_isSymbolSign_60
            · have c7 := mt (nI_eq (by omega) (by omega)).mpr c7
              refine lv_iload_n hx hb d_Txt_isSymbolSign_49 rfl (lv_at hl 0 rfl) ?_
              refine lv_bipush (v := (nI 58)) hx hb d_Txt_isSymbolSign_50 (by decide) ?_
              refine lv_icmp_ne (tgt := 59) hx hb d_Txt_isSymbolSign_52 (by decide) (fun c8 => ?_) (fun c8 => ?_)
              · have c8 := mt (nI_eq (by omega) (by omega)).mpr c8
                refine lv_iconst (v := (nI 0)) hx hb d_Txt_isSymbolSign_59 (by decide) ?_
                exact W.zret (v := (nI 0)) hx hb hr (by first | rfl | decide | exact sb_nar) (fun t ht hW => ⟨_, rfl, (sb_f (by unfold isSy; omega)).symm, ht⟩) (fun _ h => by cases h) d_Txt_isSymbolSign_60
              · have c8 := (nI_eq (by omega) (by omega)).mp c8
                refine lv_iconst (v := (nI 1)) hx hb d_Txt_isSymbolSign_55 (by decide) ?_
                refine lv_goto (tgt := 60) hx hb d_Txt_isSymbolSign_56 (by decide) ?_
                exact W.zret (v := (nI 1)) hx hb hr (by first | rfl | decide | exact sb_nar) (fun t ht hW => ⟨_, rfl, (sb_t (by unfold isSy; omega)).symm, ht⟩) (fun _ h => by cases h) d_Txt_isSymbolSign_60
    · have c2 := mt (nI_ltI (by omega) (by omega)).mpr c2
      refine lv_iload_n hx hb d_Txt_isSymbolSign_18 rfl (lv_at hl 0 rfl) ?_
      refine lv_bipush (v := (nI 122)) hx hb d_Txt_isSymbolSign_19 (by decide) ?_
      refine lv_icmp_le (tgt := 55) hx hb d_Txt_isSymbolSign_21 (by decide) (fun c9 => ?_) (fun c9 => ?_)
      · have c9 := (nI_leI (by omega) (by omega)).mp c9
        refine lv_iconst (v := (nI 1)) hx hb d_Txt_isSymbolSign_55 (by decide) ?_
        refine lv_goto (tgt := 60) hx hb d_Txt_isSymbolSign_56 (by decide) ?_
        exact W.zret (v := (nI 1)) hx hb hr (by first | rfl | decide | exact sb_nar) (fun t ht hW => ⟨_, rfl, (sb_t (by unfold isSy; omega)).symm, ht⟩) (fun _ h => by cases h) d_Txt_isSymbolSign_60
      · have c9 := mt (nI_leI (by omega) (by omega)).mpr c9
        refine lv_iload_n hx hb d_Txt_isSymbolSign_24 rfl (lv_at hl 0 rfl) ?_
        refine sd_ri (va_runS (As := [.int (nI k)]) (rest := []) ⟨hx, hb, hml, hown, hts⟩ (c_Txt_isDigit l k hk) (va_cwS 1 hts (sd_gS k_236 k_237 k_24 k_238) rfl rfl rfl (by decide +kernel) ⟨Nat.le_of_ble_eq_true rfl, Nat.le_of_ble_eq_true rfl⟩) preEq rfl rfl hl.1 rfl (lv_room (Nat.le_of_ble_eq_true rfl)) d_Txt_isSymbolSign_25 ⟨Nat.zero_le _, Nat.zero_le _⟩) (fun r10 er10 => ?_)
        subst er10
        refine lv_if_ne (tgt := 55) hx hb d_Txt_isSymbolSign_28 (by decide) (fun c11 => ?_) (fun c11 => ?_)
        · have c11 := sb_ne0.mp c11
          refine lv_iconst (v := (nI 1)) hx hb d_Txt_isSymbolSign_55 (by decide) ?_
          refine lv_goto (tgt := 60) hx hb d_Txt_isSymbolSign_56 (by decide) ?_
          exact W.zret (v := (nI 1)) hx hb hr (by first | rfl | decide | exact sb_nar) (fun t ht hW => ⟨_, rfl, (sb_t (by unfold isSy; omega)).symm, ht⟩) (fun _ h => by cases h) d_Txt_isSymbolSign_60
        · have c11 := sb_eq0.mp c11
          refine lv_iload_n hx hb d_Txt_isSymbolSign_31 rfl (lv_at hl 0 rfl) ?_
          refine lv_bipush (v := (nI 95)) hx hb d_Txt_isSymbolSign_32 (by decide) ?_
          refine lv_icmp_eq (tgt := 55) hx hb d_Txt_isSymbolSign_34 (by decide) (fun c12 => ?_) (fun c12 => ?_)
          · have c12 := (nI_eq (by omega) (by omega)).mp c12
            refine lv_iconst (v := (nI 1)) hx hb d_Txt_isSymbolSign_55 (by decide) ?_
            refine lv_goto (tgt := 60) hx hb d_Txt_isSymbolSign_56 (by decide) ?_
            exact W.zret (v := (nI 1)) hx hb hr (by first | rfl | decide | exact sb_nar) (fun t ht hW => ⟨_, rfl, (sb_t (by unfold isSy; omega)).symm, ht⟩) (fun _ h => by cases h) d_Txt_isSymbolSign_60
          · have c12 := mt (nI_eq (by omega) (by omega)).mpr c12
            refine lv_iload_n hx hb d_Txt_isSymbolSign_37 rfl (lv_at hl 0 rfl) ?_
            refine lv_bipush (v := (nI 46)) hx hb d_Txt_isSymbolSign_38 (by decide) ?_
            refine lv_icmp_eq (tgt := 55) hx hb d_Txt_isSymbolSign_40 (by decide) (fun c13 => ?_) (fun c13 => ?_)
            · have c13 := (nI_eq (by omega) (by omega)).mp c13
              refine lv_iconst (v := (nI 1)) hx hb d_Txt_isSymbolSign_55 (by decide) ?_
              refine lv_goto (tgt := 60) hx hb d_Txt_isSymbolSign_56 (by decide) ?_
              exact W.zret (v := (nI 1)) hx hb hr (by first | rfl | decide | exact sb_nar) (fun t ht hW => ⟨_, rfl, (sb_t (by unfold isSy; omega)).symm, ht⟩) (fun _ h => by cases h) d_Txt_isSymbolSign_60
            · have c13 := mt (nI_eq (by omega) (by omega)).mpr c13
              refine lv_iload_n hx hb d_Txt_isSymbolSign_43 rfl (lv_at hl 0 rfl) ?_
              refine lv_bipush (v := (nI 36)) hx hb d_Txt_isSymbolSign_44 (by decide) ?_
              refine lv_icmp_eq (tgt := 55) hx hb d_Txt_isSymbolSign_46 (by decide) (fun c14 => ?_) (fun c14 => ?_)
              · have c14 := (nI_eq (by omega) (by omega)).mp c14
                refine lv_iconst (v := (nI 1)) hx hb d_Txt_isSymbolSign_55 (by decide) ?_
                refine lv_goto (tgt := 60) hx hb d_Txt_isSymbolSign_56 (by decide) ?_
                exact W.zret (v := (nI 1)) hx hb hr (by first | rfl | decide | exact sb_nar) (fun t ht hW => ⟨_, rfl, (sb_t (by unfold isSy; omega)).symm, ht⟩) (fun _ h => by cases h) d_Txt_isSymbolSign_60
              · have c14 := mt (nI_eq (by omega) (by omega)).mpr c14
                refine lv_iload_n hx hb d_Txt_isSymbolSign_49 rfl (lv_at hl 0 rfl) ?_
                refine lv_bipush (v := (nI 58)) hx hb d_Txt_isSymbolSign_50 (by decide) ?_
                refine lv_icmp_ne (tgt := 59) hx hb d_Txt_isSymbolSign_52 (by decide) (fun c15 => ?_) (fun c15 => ?_)
                · have c15 := mt (nI_eq (by omega) (by omega)).mpr c15
                  refine lv_iconst (v := (nI 0)) hx hb d_Txt_isSymbolSign_59 (by decide) ?_
                  exact W.zret (v := (nI 0)) hx hb hr (by first | rfl | decide | exact sb_nar) (fun t ht hW => ⟨_, rfl, (sb_f (by unfold isSy; omega)).symm, ht⟩) (fun _ h => by cases h) d_Txt_isSymbolSign_60
                · have c15 := (nI_eq (by omega) (by omega)).mp c15
                  refine lv_iconst (v := (nI 1)) hx hb d_Txt_isSymbolSign_55 (by decide) ?_
                  refine lv_goto (tgt := 60) hx hb d_Txt_isSymbolSign_56 (by decide) ?_
                  exact W.zret (v := (nI 1)) hx hb hr (by first | rfl | decide | exact sb_nar) (fun t ht hW => ⟨_, rfl, (sb_t (by unfold isSy; omega)).symm, ht⟩) (fun _ h => by cases h) d_Txt_isSymbolSign_60
  · have c1 := mt (nI_ltI (by omega) (by omega)).mpr c1
    refine lv_iload_n hx hb d_Txt_isSymbolSign_6 rfl (lv_at hl 0 rfl) ?_
    refine lv_bipush (v := (nI 90)) hx hb d_Txt_isSymbolSign_7 (by decide) ?_
    refine lv_icmp_le (tgt := 55) hx hb d_Txt_isSymbolSign_9 (by decide) (fun c16 => ?_) (fun c16 => ?_)
    · have c16 := (nI_leI (by omega) (by omega)).mp c16
      refine lv_iconst (v := (nI 1)) hx hb d_Txt_isSymbolSign_55 (by decide) ?_
      refine lv_goto (tgt := 60) hx hb d_Txt_isSymbolSign_56 (by decide) ?_
      exact W.zret (v := (nI 1)) hx hb hr (by first | rfl | decide | exact sb_nar) (fun t ht hW => ⟨_, rfl, (sb_t (by unfold isSy; omega)).symm, ht⟩) (fun _ h => by cases h) d_Txt_isSymbolSign_60
    · have c16 := mt (nI_leI (by omega) (by omega)).mpr c16
      refine lv_iload_n hx hb d_Txt_isSymbolSign_12 rfl (lv_at hl 0 rfl) ?_
      refine lv_bipush (v := (nI 97)) hx hb d_Txt_isSymbolSign_13 (by decide) ?_
      refine lv_icmp_lt (tgt := 24) hx hb d_Txt_isSymbolSign_15 (by decide) (fun c17 => ?_) (fun c17 => ?_)
      · have c17 := (nI_ltI (by omega) (by omega)).mp c17
        refine lv_iload_n hx hb d_Txt_isSymbolSign_24 rfl (lv_at hl 0 rfl) ?_
        refine sd_ri (va_runS (As := [.int (nI k)]) (rest := []) ⟨hx, hb, hml, hown, hts⟩ (c_Txt_isDigit l k hk) (va_cwS 1 hts (sd_gS k_236 k_237 k_24 k_238) rfl rfl rfl (by decide +kernel) ⟨Nat.le_of_ble_eq_true rfl, Nat.le_of_ble_eq_true rfl⟩) preEq rfl rfl hl.1 rfl (lv_room (Nat.le_of_ble_eq_true rfl)) d_Txt_isSymbolSign_25 ⟨Nat.zero_le _, Nat.zero_le _⟩) (fun r18 er18 => ?_)
        subst er18
        refine lv_if_ne (tgt := 55) hx hb d_Txt_isSymbolSign_28 (by decide) (fun c19 => ?_) (fun c19 => ?_)
        · have c19 := sb_ne0.mp c19
          refine lv_iconst (v := (nI 1)) hx hb d_Txt_isSymbolSign_55 (by decide) ?_
          refine lv_goto (tgt := 60) hx hb d_Txt_isSymbolSign_56 (by decide) ?_
          exact W.zret (v := (nI 1)) hx hb hr (by first | rfl | decide | exact sb_nar) (fun t ht hW => ⟨_, rfl, (sb_t (by unfold isSy; omega)).symm, ht⟩) (fun _ h => by cases h) d_Txt_isSymbolSign_60
        · have c19 := sb_eq0.mp c19
          refine lv_iload_n hx hb d_Txt_isSymbolSign_31 rfl (lv_at hl 0 rfl) ?_
          refine lv_bipush (v := (nI 95)) hx hb d_Txt_isSymbolSign_32 (by decide) ?_
          refine lv_icmp_eq (tgt := 55) hx hb d_Txt_isSymbolSign_34 (by decide) (fun c20 => ?_) (fun c20 => ?_)
          · have c20 := (nI_eq (by omega) (by omega)).mp c20
            refine lv_iconst (v := (nI 1)) hx hb d_Txt_isSymbolSign_55 (by decide) ?_
            refine lv_goto (tgt := 60) hx hb d_Txt_isSymbolSign_56 (by decide) ?_
            exact W.zret (v := (nI 1)) hx hb hr (by first | rfl | decide | exact sb_nar) (fun t ht hW => ⟨_, rfl, (sb_t (by unfold isSy; omega)).symm, ht⟩) (fun _ h => by cases h) d_Txt_isSymbolSign_60
          · have c20 := mt (nI_eq (by omega) (by omega)).mpr c20
            refine lv_iload_n hx hb d_Txt_isSymbolSign_37 rfl (lv_at hl 0 rfl) ?_
            refine lv_bipush (v := (nI 46)) hx hb d_Txt_isSymbolSign_38 (by decide) ?_
            refine lv_icmp_eq (tgt := 55) hx hb d_Txt_isSymbolSign_40 (by decide) (fun c21 => ?_) (fun c21 => ?_)
            · have c21 := (nI_eq (by omega) (by omega)).mp c21
              refine lv_iconst (v := (nI 1)) hx hb d_Txt_isSymbolSign_55 (by decide) ?_
              refine lv_goto (tgt := 60) hx hb d_Txt_isSymbolSign_56 (by decide) ?_
              exact W.zret (v := (nI 1)) hx hb hr (by first | rfl | decide | exact sb_nar) (fun t ht hW => ⟨_, rfl, (sb_t (by unfold isSy; omega)).symm, ht⟩) (fun _ h => by cases h) d_Txt_isSymbolSign_60
            · have c21 := mt (nI_eq (by omega) (by omega)).mpr c21
              refine lv_iload_n hx hb d_Txt_isSymbolSign_43 rfl (lv_at hl 0 rfl) ?_
              refine lv_bipush (v := (nI 36)) hx hb d_Txt_isSymbolSign_44 (by decide) ?_
              refine lv_icmp_eq (tgt := 55) hx hb d_Txt_isSymbolSign_46 (by decide) (fun c22 => ?_) (fun c22 => ?_)
              · have c22 := (nI_eq (by omega) (by omega)).mp c22
                refine lv_iconst (v := (nI 1)) hx hb d_Txt_isSymbolSign_55 (by decide) ?_
                refine lv_goto (tgt := 60) hx hb d_Txt_isSymbolSign_56 (by decide) ?_
                exact W.zret (v := (nI 1)) hx hb hr (by first | rfl | decide | exact sb_nar) (fun t ht hW => ⟨_, rfl, (sb_t (by unfold isSy; omega)).symm, ht⟩) (fun _ h => by cases h) d_Txt_isSymbolSign_60
              · have c22 := mt (nI_eq (by omega) (by omega)).mpr c22
                refine lv_iload_n hx hb d_Txt_isSymbolSign_49 rfl (lv_at hl 0 rfl) ?_
                refine lv_bipush (v := (nI 58)) hx hb d_Txt_isSymbolSign_50 (by decide) ?_
                refine lv_icmp_ne (tgt := 59) hx hb d_Txt_isSymbolSign_52 (by decide) (fun c23 => ?_) (fun c23 => ?_)
                · have c23 := mt (nI_eq (by omega) (by omega)).mpr c23
                  refine lv_iconst (v := (nI 0)) hx hb d_Txt_isSymbolSign_59 (by decide) ?_
                  exact W.zret (v := (nI 0)) hx hb hr (by first | rfl | decide | exact sb_nar) (fun t ht hW => ⟨_, rfl, (sb_f (by unfold isSy; omega)).symm, ht⟩) (fun _ h => by cases h) d_Txt_isSymbolSign_60
                · have c23 := (nI_eq (by omega) (by omega)).mp c23
                  refine lv_iconst (v := (nI 1)) hx hb d_Txt_isSymbolSign_55 (by decide) ?_
                  refine lv_goto (tgt := 60) hx hb d_Txt_isSymbolSign_56 (by decide) ?_
                  exact W.zret (v := (nI 1)) hx hb hr (by first | rfl | decide | exact sb_nar) (fun t ht hW => ⟨_, rfl, (sb_t (by unfold isSy; omega)).symm, ht⟩) (fun _ h => by cases h) d_Txt_isSymbolSign_60
      · have c17 := mt (nI_ltI (by omega) (by omega)).mpr c17
        refine lv_iload_n hx hb d_Txt_isSymbolSign_18 rfl (lv_at hl 0 rfl) ?_
        refine lv_bipush (v := (nI 122)) hx hb d_Txt_isSymbolSign_19 (by decide) ?_
        refine lv_icmp_le (tgt := 55) hx hb d_Txt_isSymbolSign_21 (by decide) (fun c24 => ?_) (fun c24 => ?_)
        · have c24 := (nI_leI (by omega) (by omega)).mp c24
          refine lv_iconst (v := (nI 1)) hx hb d_Txt_isSymbolSign_55 (by decide) ?_
          refine lv_goto (tgt := 60) hx hb d_Txt_isSymbolSign_56 (by decide) ?_
          exact W.zret (v := (nI 1)) hx hb hr (by first | rfl | decide | exact sb_nar) (fun t ht hW => ⟨_, rfl, (sb_t (by unfold isSy; omega)).symm, ht⟩) (fun _ h => by cases h) d_Txt_isSymbolSign_60
        · have c24 := mt (nI_leI (by omega) (by omega)).mpr c24
          refine lv_iload_n hx hb d_Txt_isSymbolSign_24 rfl (lv_at hl 0 rfl) ?_
          refine sd_ri (va_runS (As := [.int (nI k)]) (rest := []) ⟨hx, hb, hml, hown, hts⟩ (c_Txt_isDigit l k hk) (va_cwS 1 hts (sd_gS k_236 k_237 k_24 k_238) rfl rfl rfl (by decide +kernel) ⟨Nat.le_of_ble_eq_true rfl, Nat.le_of_ble_eq_true rfl⟩) preEq rfl rfl hl.1 rfl (lv_room (Nat.le_of_ble_eq_true rfl)) d_Txt_isSymbolSign_25 ⟨Nat.zero_le _, Nat.zero_le _⟩) (fun r25 er25 => ?_)
          subst er25
          refine lv_if_ne (tgt := 55) hx hb d_Txt_isSymbolSign_28 (by decide) (fun c26 => ?_) (fun c26 => ?_)
          · have c26 := sb_ne0.mp c26
            refine lv_iconst (v := (nI 1)) hx hb d_Txt_isSymbolSign_55 (by decide) ?_
            refine lv_goto (tgt := 60) hx hb d_Txt_isSymbolSign_56 (by decide) ?_
            exact W.zret (v := (nI 1)) hx hb hr (by first | rfl | decide | exact sb_nar) (fun t ht hW => ⟨_, rfl, (sb_t (by unfold isSy; omega)).symm, ht⟩) (fun _ h => by cases h) d_Txt_isSymbolSign_60
          · have c26 := sb_eq0.mp c26
            refine lv_iload_n hx hb d_Txt_isSymbolSign_31 rfl (lv_at hl 0 rfl) ?_
            refine lv_bipush (v := (nI 95)) hx hb d_Txt_isSymbolSign_32 (by decide) ?_
            refine lv_icmp_eq (tgt := 55) hx hb d_Txt_isSymbolSign_34 (by decide) (fun c27 => ?_) (fun c27 => ?_)
            · have c27 := (nI_eq (by omega) (by omega)).mp c27
              refine lv_iconst (v := (nI 1)) hx hb d_Txt_isSymbolSign_55 (by decide) ?_
              refine lv_goto (tgt := 60) hx hb d_Txt_isSymbolSign_56 (by decide) ?_
              exact W.zret (v := (nI 1)) hx hb hr (by first | rfl | decide | exact sb_nar) (fun t ht hW => ⟨_, rfl, (sb_t (by unfold isSy; omega)).symm, ht⟩) (fun _ h => by cases h) d_Txt_isSymbolSign_60
            · have c27 := mt (nI_eq (by omega) (by omega)).mpr c27
              refine lv_iload_n hx hb d_Txt_isSymbolSign_37 rfl (lv_at hl 0 rfl) ?_
              refine lv_bipush (v := (nI 46)) hx hb d_Txt_isSymbolSign_38 (by decide) ?_
              refine lv_icmp_eq (tgt := 55) hx hb d_Txt_isSymbolSign_40 (by decide) (fun c28 => ?_) (fun c28 => ?_)
              · have c28 := (nI_eq (by omega) (by omega)).mp c28
                refine lv_iconst (v := (nI 1)) hx hb d_Txt_isSymbolSign_55 (by decide) ?_
                refine lv_goto (tgt := 60) hx hb d_Txt_isSymbolSign_56 (by decide) ?_
                exact W.zret (v := (nI 1)) hx hb hr (by first | rfl | decide | exact sb_nar) (fun t ht hW => ⟨_, rfl, (sb_t (by unfold isSy; omega)).symm, ht⟩) (fun _ h => by cases h) d_Txt_isSymbolSign_60
              · have c28 := mt (nI_eq (by omega) (by omega)).mpr c28
                refine lv_iload_n hx hb d_Txt_isSymbolSign_43 rfl (lv_at hl 0 rfl) ?_
                refine lv_bipush (v := (nI 36)) hx hb d_Txt_isSymbolSign_44 (by decide) ?_
                refine lv_icmp_eq (tgt := 55) hx hb d_Txt_isSymbolSign_46 (by decide) (fun c29 => ?_) (fun c29 => ?_)
                · have c29 := (nI_eq (by omega) (by omega)).mp c29
                  refine lv_iconst (v := (nI 1)) hx hb d_Txt_isSymbolSign_55 (by decide) ?_
                  refine lv_goto (tgt := 60) hx hb d_Txt_isSymbolSign_56 (by decide) ?_
                  exact W.zret (v := (nI 1)) hx hb hr (by first | rfl | decide | exact sb_nar) (fun t ht hW => ⟨_, rfl, (sb_t (by unfold isSy; omega)).symm, ht⟩) (fun _ h => by cases h) d_Txt_isSymbolSign_60
                · have c29 := mt (nI_eq (by omega) (by omega)).mpr c29
                  refine lv_iload_n hx hb d_Txt_isSymbolSign_49 rfl (lv_at hl 0 rfl) ?_
                  refine lv_bipush (v := (nI 58)) hx hb d_Txt_isSymbolSign_50 (by decide) ?_
                  refine lv_icmp_ne (tgt := 59) hx hb d_Txt_isSymbolSign_52 (by decide) (fun c30 => ?_) (fun c30 => ?_)
                  · have c30 := mt (nI_eq (by omega) (by omega)).mpr c30
                    refine lv_iconst (v := (nI 0)) hx hb d_Txt_isSymbolSign_59 (by decide) ?_
                    exact W.zret (v := (nI 0)) hx hb hr (by first | rfl | decide | exact sb_nar) (fun t ht hW => ⟨_, rfl, (sb_f (by unfold isSy; omega)).symm, ht⟩) (fun _ h => by cases h) d_Txt_isSymbolSign_60
                  · have c30 := (nI_eq (by omega) (by omega)).mp c30
                    refine lv_iconst (v := (nI 1)) hx hb d_Txt_isSymbolSign_55 (by decide) ?_
                    refine lv_goto (tgt := 60) hx hb d_Txt_isSymbolSign_56 (by decide) ?_
                    exact W.zret (v := (nI 1)) hx hb hr (by first | rfl | decide | exact sb_nar) (fun t ht hW => ⟨_, rfl, (sb_t (by unfold isSy; omega)).symm, ht⟩) (fun _ h => by cases h) d_Txt_isSymbolSign_60
set_option maxHeartbeats 4000000 in
set_option maxRecDepth 100000 in
/-- endOfLine(a) -/
theorem c_Txt_endOfLine (l : Launch) (g : sdG) (q1 q5 n : Nat) (f : Nat → Int32) (tx : Nat → Nat) (hT : TXok n f tx) (a : Nat) (hi : a ≤ n) : Met l y_Txt_endOfLine (.code y_Txt_endOfLine b_Txt_endOfLine 3 (some .int) :: sdT) ({ frames := 2, cells := 0, slots := 0, locals := 42 }) (va_Pc [.ref q1, .int (nI a)] (sdR g [(q1, .inr (6, [.ref q5, .int (nI n)])), (q5, .inl (gB g, 2000, .inl f))])) (vp_Si (fun r => ∃ z, r = nI z ∧ a ≤ z ∧ z ≤ n ∧ (∀ j, a ≤ j → j < z → ¬ (tx j = 10)) ∧ tx z = 10)) 0 0 (fun _ => False) := by
  refine Met.ofW (cc := b_Txt_endOfLine) (maxL := 3) (ret := (some .int)) (by decide) rfl ?_
  intro p e s m args below meth c s₁ B hml hv
  obtain ⟨rfl, hP, hK, hE⟩ := hv
  have hx := B.exec
  have hb := B.bytes
  have hr := B.returns
  have hts := fun (w : Cond) (h : w ∈ sdT) => atoms_spec (ws := (.code y_Txt_endOfLine b_Txt_endOfLine 3 (some .int) :: sdT)) B.pre w (List.mem_cons_of_mem _ h)
  have hown : s.vm.findClass "SignDesk$Text" = some m.cls := findClass_of_methodNamed B.named
  have hlocks := B.notSynchronized
  have hF : ∀ a : Nat, a < s.heap.size → ¬ sdA g a → s.heap[a]? = s.heap[a]? := fun _ _ _ => rfl
  have hP : sdP g [(q1, .inr (6, [.ref q5, .int (nI n)])), (q5, .inl (gB g, 2000, .inl f))] s.heap := hP
  have hl := lv_entry ([.ref q1, .int (nI a)]) (n := 3) (Nat.le_of_ble_eq_true rfl)
  rw [lg_entry_eq]
  generalize (lg_sl ([.ref q1, .int (nI a)]) ++ List.replicate (3 - (lg_sl ([.ref q1, .int (nI a)])).length) Slot.unset).toArray = ls at hl ⊢
  have hl : lv_has ls 3 [(0, .ref q1), (1, .int (nI a))] := hl
  have hn := hT.1
  have hb8 := hT.2.1
  refine lv_iload_n hx hb d_Txt_endOfLine_0 rfl (lv_at hl 1 rfl) ?_
  refine lv_istore_n (lv' := [(2, .int (nI a)), (0, .ref q1), (1, .int (nI a))]) hx hb d_Txt_endOfLine_1 rfl hl (by decide) rfl (fun ls hl => ?_)
  refine sd_loopr (fun (i : Nat) ls => lv_has ls 3 [(2, .int (nI i)), (0, .ref q1), (1, .int (nI a))] ∧ (a ≤ i) ∧ (i ≤ n) ∧ (∀ j, a ≤ j → j < i → ¬ (tx j = 10))) (fun (i : Nat) => n - i) 2 [] (fun i ls hI ih => ?_) (a) ⟨lv_sub hl [0, 1, 2] rfl, Nat.le_refl _, hi, fun j h5 h6 => absurd h6 (by omega)⟩
  obtain ⟨hl, h1, h2, h3⟩ := hI
  refine lv_iload_n hx hb d_Txt_endOfLine_2 rfl (lv_at hl 0 rfl) ?_
  refine lv_aload_n hx hb d_Txt_endOfLine_3 rfl (lv_at hl 1 rfl) ?_
  refine va_get (D := g.1) (ci := 6) (v := .int (nI n)) (C := "SignDesk$Text") (T := F_Txt) (N := 2) hx hb hts in_Txt hown hK hP 0 rfl rfl 1 (by decide) (hts _ k_52) (fun _ h9 => h9) rfl d_Txt_endOfLine_4 ?_
  refine lv_icmp_ge (tgt := 26) hx hb d_Txt_endOfLine_7 (by decide) (fun c1 => ?_) (fun c1 => ?_)
  · have c1 := (nI_leI (by omega) (by omega)).mp c1
    have e1 : n = i := by omega
    subst e1
    refine lv_aload_n hx hb d_Txt_endOfLine_26 rfl (lv_at hl 1 rfl) ?_
    refine va_get (D := g.1) (ci := 6) (v := .int (nI n)) (C := "SignDesk$Text") (T := F_Txt) (N := 2) hx hb hts in_Txt hown hK hP 0 rfl rfl 1 (by decide) (hts _ k_52) (fun _ h9 => h9) rfl d_Txt_endOfLine_27 ?_
    exact W.iret (v := (nI n)) hx hb hr  (fun t ht hW => ⟨_, rfl, ⟨_, rfl, h1, h2, h3, hT.2.2.2 _ (Nat.le_refl _)⟩, ht⟩) (fun _ h => by cases h) d_Txt_endOfLine_30
  · have c1 := mt (nI_leI (by omega) (by omega)).mpr c1
    have h4 : i < n := by omega
    refine lv_aload_n hx hb d_Txt_endOfLine_10 rfl (lv_at hl 1 rfl) ?_
    refine lv_iload_n hx hb d_Txt_endOfLine_11 rfl (lv_at hl 0 rfl) ?_
    refine sd_ri (va_runV (As := [.int (nI i)]) (rest := []) ⟨hx, hb, hml, hown, hts⟩ (c_Txt_isLineEnd l g q1 q5 n f tx hT i (by omega)) (cwV 1 hts (sd_gV k_216 k_205 k_206 k_24 k_207) rfl rfl rfl (by decide +kernel) ⟨Nat.le_of_ble_eq_true rfl, Nat.le_of_ble_eq_true rfl⟩) (sd_preV hK hE hF (hP.sub (ws' := [(q1, .inr (6, [.ref q5, .int (nI n)])), (q5, .inl (gB g, 2000, .inl f))]) [0, 1] rfl) rfl rfl) rfl rfl hl.1 rfl (lv_room (Nat.le_of_ble_eq_true rfl)) d_Txt_endOfLine_12 ⟨Nat.zero_le _, Nat.zero_le _⟩) (fun r2 er2 => ?_)
    subst er2
    refine lv_if_eq (tgt := 20) hx hb d_Txt_endOfLine_15 (by decide) (fun c3 => ?_) (fun c3 => ?_)
    · have c3 := sb_eq0.mp c3
      refine lv_iinc (v := (nI (i + 1))) (lv' := [(2, .int (nI (i + 1))), (0, .ref q1), (1, .int (nI a))]) hx hb d_Txt_endOfLine_20 hl (k := 0) rfl (nI_1 _) (by decide) rfl (fun ls hl => ?_)
      refine lv_goto (tgt := 2) hx hb d_Txt_endOfLine_23 (by decide) ?_
      exact ih (i + 1) _ ⟨lv_sub hl [0, 1, 2] rfl, by omega, by omega, fun j h5 h6 => by
          rcases Nat.lt_or_ge j i with q | q
          · exact h3 j h5 q
          · have : j = i := by omega
            subst this; exact c3⟩ (show n - (i + 1) < n - i by omega)
    · have c3 := sb_ne0.mp c3
      refine lv_iload_n hx hb d_Txt_endOfLine_18 rfl (lv_at hl 0 rfl) ?_
      exact W.iret (v := (nI i)) hx hb hr  (fun t ht hW => ⟨_, rfl, ⟨_, rfl, h1, h2, h3, c3⟩, ht⟩) (fun _ h => by cases h) d_Txt_endOfLine_19
set_option maxHeartbeats 4000000 in
set_option maxRecDepth 100000 in
/-- endOfInstruction(a) -/
theorem c_Txt_endOfInstruction (l : Launch) (g : sdG) (q1 q5 n : Nat) (f : Nat → Int32) (tx : Nat → Nat) (hT : TXok n f tx) (a : Nat) (hi : a ≤ n) : Met l y_Txt_endOfInstruction (.code y_Txt_endOfInstruction b_Txt_endOfInstruction 3 (some .int) :: sdT) ({ frames := 2, cells := 0, slots := 0, locals := 43 }) (va_Pc [.ref q1, .int (nI a)] (sdR g [(q1, .inr (6, [.ref q5, .int (nI n)])), (q5, .inl (gB g, 2000, .inl f))])) (vp_Si (fun r => ∃ z, r = nI z ∧ a ≤ z ∧ z ≤ n ∧ (∀ j, a ≤ j → j < z → ¬ (isSt tx j)) ∧ isSt tx z)) 0 0 (fun _ => False) := by
  refine Met.ofW (cc := b_Txt_endOfInstruction) (maxL := 3) (ret := (some .int)) (by decide) rfl ?_
  intro p e s m args below meth c s₁ B hml hv
  obtain ⟨rfl, hP, hK, hE⟩ := hv
  have hx := B.exec
  have hb := B.bytes
  have hr := B.returns
  have hts := fun (w : Cond) (h : w ∈ sdT) => atoms_spec (ws := (.code y_Txt_endOfInstruction b_Txt_endOfInstruction 3 (some .int) :: sdT)) B.pre w (List.mem_cons_of_mem _ h)
  have hown : s.vm.findClass "SignDesk$Text" = some m.cls := findClass_of_methodNamed B.named
  have hlocks := B.notSynchronized
  have hF : ∀ a : Nat, a < s.heap.size → ¬ sdA g a → s.heap[a]? = s.heap[a]? := fun _ _ _ => rfl
  have hP : sdP g [(q1, .inr (6, [.ref q5, .int (nI n)])), (q5, .inl (gB g, 2000, .inl f))] s.heap := hP
  have hl := lv_entry ([.ref q1, .int (nI a)]) (n := 3) (Nat.le_of_ble_eq_true rfl)
  rw [lg_entry_eq]
  generalize (lg_sl ([.ref q1, .int (nI a)]) ++ List.replicate (3 - (lg_sl ([.ref q1, .int (nI a)])).length) Slot.unset).toArray = ls at hl ⊢
  have hl : lv_has ls 3 [(0, .ref q1), (1, .int (nI a))] := hl
  have hn := hT.1
  have hb8 := hT.2.1
  refine lv_iload_n hx hb d_Txt_endOfInstruction_0 rfl (lv_at hl 1 rfl) ?_
  refine lv_istore_n (lv' := [(2, .int (nI a)), (0, .ref q1), (1, .int (nI a))]) hx hb d_Txt_endOfInstruction_1 rfl hl (by decide) rfl (fun ls hl => ?_)
  refine sd_loopr (fun (i : Nat) ls => lv_has ls 3 [(2, .int (nI i)), (0, .ref q1), (1, .int (nI a))] ∧ (a ≤ i) ∧ (i ≤ n) ∧ (∀ j, a ≤ j → j < i → ¬ (isSt tx j))) (fun (i : Nat) => n - i) 2 [] (fun i ls hI ih => ?_) (a) ⟨lv_sub hl [0, 1, 2] rfl, Nat.le_refl _, hi, fun j h5 h6 => absurd h6 (by omega)⟩
  obtain ⟨hl, h1, h2, h3⟩ := hI
  refine lv_iload_n hx hb d_Txt_endOfInstruction_2 rfl (lv_at hl 0 rfl) ?_
  refine lv_aload_n hx hb d_Txt_endOfInstruction_3 rfl (lv_at hl 1 rfl) ?_
  refine va_get (D := g.1) (ci := 6) (v := .int (nI n)) (C := "SignDesk$Text") (T := F_Txt) (N := 2) hx hb hts in_Txt hown hK hP 0 rfl rfl 1 (by decide) (hts _ k_52) (fun _ h9 => h9) rfl d_Txt_endOfInstruction_4 ?_
  refine lv_icmp_ge (tgt := 42) hx hb d_Txt_endOfInstruction_7 (by decide) (fun c1 => ?_) (fun c1 => ?_)
  · have c1 := (nI_leI (by omega) (by omega)).mp c1
    have e1 : n = i := by omega
    subst e1
    refine lv_aload_n hx hb d_Txt_endOfInstruction_42 rfl (lv_at hl 1 rfl) ?_
    refine va_get (D := g.1) (ci := 6) (v := .int (nI n)) (C := "SignDesk$Text") (T := F_Txt) (N := 2) hx hb hts in_Txt hown hK hP 0 rfl rfl 1 (by decide) (hts _ k_52) (fun _ h9 => h9) rfl d_Txt_endOfInstruction_43 ?_
    exact W.iret (v := (nI n)) hx hb hr  (fun t ht hW => ⟨_, rfl, ⟨_, rfl, h1, h2, h3, Or.inl (hT.2.2.2 _ (Nat.le_refl _))⟩, ht⟩) (fun _ h => by cases h) d_Txt_endOfInstruction_46
  · have c1 := mt (nI_leI (by omega) (by omega)).mpr c1
    have h4 : i < n := by omega
    refine lv_aload_n hx hb d_Txt_endOfInstruction_10 rfl (lv_at hl 1 rfl) ?_
    refine lv_iload_n hx hb d_Txt_endOfInstruction_11 rfl (lv_at hl 0 rfl) ?_
    refine sd_ri (va_runV (As := [.int (nI i)]) (rest := []) ⟨hx, hb, hml, hown, hts⟩ (c_Txt_isLineEnd l g q1 q5 n f tx hT i (by omega)) (cwV 1 hts (sd_gV k_216 k_205 k_206 k_24 k_207) rfl rfl rfl (by decide +kernel) ⟨Nat.le_of_ble_eq_true rfl, Nat.le_of_ble_eq_true rfl⟩) (sd_preV hK hE hF (hP.sub (ws' := [(q1, .inr (6, [.ref q5, .int (nI n)])), (q5, .inl (gB g, 2000, .inl f))]) [0, 1] rfl) rfl rfl) rfl rfl hl.1 rfl (lv_room (Nat.le_of_ble_eq_true rfl)) d_Txt_endOfInstruction_12 ⟨Nat.zero_le _, Nat.zero_le _⟩) (fun r2 er2 => ?_)
    subst er2
    refine lv_if_ne (tgt := 34) hx hb d_Txt_endOfInstruction_15 (by decide) (fun c3 => ?_) (fun c3 => ?_)
    · have c3 := sb_ne0.mp c3
      refine lv_iload_n hx hb d_Txt_endOfInstruction_34 rfl (lv_at hl 0 rfl) ?_
      exact W.iret (v := (nI i)) hx hb hr  (fun t ht hW => ⟨_, rfl, ⟨_, rfl, h1, h2, h3, Or.inl c3⟩, ht⟩) (fun _ h => by cases h) d_Txt_endOfInstruction_35
    · have c3 := sb_eq0.mp c3
      refine lv_aload_n hx hb d_Txt_endOfInstruction_18 rfl (lv_at hl 1 rfl) ?_
      refine lv_iload_n hx hb d_Txt_endOfInstruction_19 rfl (lv_at hl 0 rfl) ?_
      refine sd_ri (va_runV (As := [.int (nI i)]) (rest := []) ⟨hx, hb, hml, hown, hts⟩ (c_Txt_isBlank l g q1 q5 n f tx hT i (by omega)) (cwV 1 hts (sd_gV k_221 k_197 k_198 k_24 k_199) rfl rfl rfl (by decide +kernel) ⟨Nat.le_of_ble_eq_true rfl, Nat.le_of_ble_eq_true rfl⟩) (sd_preV hK hE hF (hP.sub (ws' := [(q1, .inr (6, [.ref q5, .int (nI n)])), (q5, .inl (gB g, 2000, .inl f))]) [0, 1] rfl) rfl rfl) rfl rfl hl.1 rfl (lv_room (Nat.le_of_ble_eq_true rfl)) d_Txt_endOfInstruction_20 ⟨Nat.zero_le _, Nat.zero_le _⟩) (fun r4 er4 => ?_)
      subst er4
      refine lv_if_ne (tgt := 34) hx hb d_Txt_endOfInstruction_23 (by decide) (fun c5 => ?_) (fun c5 => ?_)
      · have c5 := sb_ne0.mp c5
        refine lv_iload_n hx hb d_Txt_endOfInstruction_34 rfl (lv_at hl 0 rfl) ?_
        exact W.iret (v := (nI i)) hx hb hr  (fun t ht hW => ⟨_, rfl, ⟨_, rfl, h1, h2, h3, Or.inr (Or.inl c5)⟩, ht⟩) (fun _ h => by cases h) d_Txt_endOfInstruction_35
      · have c5 := sb_eq0.mp c5
        refine lv_aload_n hx hb d_Txt_endOfInstruction_26 rfl (lv_at hl 1 rfl) ?_
        refine lv_iload_n hx hb d_Txt_endOfInstruction_27 rfl (lv_at hl 0 rfl) ?_
        refine sd_ri (va_runV (As := [.int (nI i)]) (rest := []) ⟨hx, hb, hml, hown, hts⟩ (c_Txt_isComment l g q1 q5 n f tx hT i (by omega)) (cwV 1 hts (sd_gV k_222 k_209 k_210 k_24 k_211) rfl rfl rfl (by decide +kernel) ⟨Nat.le_of_ble_eq_true rfl, Nat.le_of_ble_eq_true rfl⟩) (sd_preV hK hE hF (hP.sub (ws' := [(q1, .inr (6, [.ref q5, .int (nI n)])), (q5, .inl (gB g, 2000, .inl f))]) [0, 1] rfl) rfl rfl) rfl rfl hl.1 rfl (lv_room (Nat.le_of_ble_eq_true rfl)) d_Txt_endOfInstruction_28 ⟨Nat.zero_le _, Nat.zero_le _⟩) (fun r6 er6 => ?_)
        subst er6
        refine lv_if_eq (tgt := 36) hx hb d_Txt_endOfInstruction_31 (by decide) (fun c7 => ?_) (fun c7 => ?_)
        · have c7 := sb_eq0.mp c7
          refine lv_iinc (v := (nI (i + 1))) (lv' := [(2, .int (nI (i + 1))), (0, .ref q1), (1, .int (nI a))]) hx hb d_Txt_endOfInstruction_36 hl (k := 0) rfl (nI_1 _) (by decide) rfl (fun ls hl => ?_)
          refine lv_goto (tgt := 2) hx hb d_Txt_endOfInstruction_39 (by decide) ?_
          exact ih (i + 1) _ ⟨lv_sub hl [0, 1, 2] rfl, by omega, by omega, fun j h5 h6 => by
              rcases Nat.lt_or_ge j i with q | q
              · exact h3 j h5 q
              · have : j = i := by omega
                subst this; exact fun z => z.elim c3 (fun z => z.elim c5 c7)⟩ (show n - (i + 1) < n - i by omega)
        · have c7 := sb_ne0.mp c7
          refine lv_iload_n hx hb d_Txt_endOfInstruction_34 rfl (lv_at hl 0 rfl) ?_
          exact W.iret (v := (nI i)) hx hb hr  (fun t ht hW => ⟨_, rfl, ⟨_, rfl, h1, h2, h3, Or.inr (Or.inr c7)⟩, ht⟩) (fun _ h => by cases h) d_Txt_endOfInstruction_35
set_option maxHeartbeats 4000000 in
set_option maxRecDepth 100000 in
/-- find(sign, a, z) -/
theorem c_Txt_find (l : Launch) (g : sdG) (q1 q5 n : Nat) (f : Nat → Int32) (tx : Nat → Nat) (hT : TXok n f tx) (sg a z : Nat) (hs : sg < 256) (hi : a ≤ z) (hz : z ≤ 2000) : Met l y_Txt_find (.code y_Txt_find b_Txt_find 5 (some .int) :: sdT) ({ frames := 1, cells := 0, slots := 0, locals := 21 }) (va_Pc [.ref q1, .int (nI sg), .int (nI a), .int (nI z)] (sdR g [(q1, .inr (6, [.ref q5, .int (nI n)])), (q5, .inl (gB g, 2000, .inl f))])) (vp_Si (fun r => (∃ k, r = nI k ∧ a ≤ k ∧ k < z ∧ tx k = sg ∧ ∀ j, a ≤ j → j < k → ¬ tx j = sg) ∨ ((∀ j, a ≤ j → j < z → ¬ tx j = sg) ∧ r = -1))) 0 0 (fun _ => False) := by
  refine Met.ofW (cc := b_Txt_find) (maxL := 5) (ret := (some .int)) (by decide) rfl ?_
  intro p e s m args below meth c s₁ B hml hv
  obtain ⟨rfl, hP, hK, hE⟩ := hv
  have hx := B.exec
  have hb := B.bytes
  have hr := B.returns
  have hts := fun (w : Cond) (h : w ∈ sdT) => atoms_spec (ws := (.code y_Txt_find b_Txt_find 5 (some .int) :: sdT)) B.pre w (List.mem_cons_of_mem _ h)
  have hown : s.vm.findClass "SignDesk$Text" = some m.cls := findClass_of_methodNamed B.named
  have hlocks := B.notSynchronized
  have hF : ∀ a : Nat, a < s.heap.size → ¬ sdA g a → s.heap[a]? = s.heap[a]? := fun _ _ _ => rfl
  have hP : sdP g [(q1, .inr (6, [.ref q5, .int (nI n)])), (q5, .inl (gB g, 2000, .inl f))] s.heap := hP
  have hl := lv_entry ([.ref q1, .int (nI sg), .int (nI a), .int (nI z)]) (n := 5) (Nat.le_of_ble_eq_true rfl)
  rw [lg_entry_eq]
  generalize (lg_sl ([.ref q1, .int (nI sg), .int (nI a), .int (nI z)]) ++ List.replicate (5 - (lg_sl ([.ref q1, .int (nI sg), .int (nI a), .int (nI z)])).length) Slot.unset).toArray = ls at hl ⊢
  have hl : lv_has ls 5 [(0, .ref q1), (1, .int (nI sg)), (2, .int (nI a)), (3, .int (nI z))] := hl
  have hn := hT.1
  have hb8 := hT.2.1
  refine lv_iload_n hx hb d_Txt_find_0 rfl (lv_at hl 2 rfl) ?_
  refine lv_istore (lv' := [(4, .int (nI a)), (0, .ref q1), (1, .int (nI sg)), (2, .int (nI a)), (3, .int (nI z))]) hx hb d_Txt_find_1 hl (by decide) rfl (fun ls hl => ?_)
  refine sd_loopr (fun (i : Nat) ls => lv_has ls 5 [(4, .int (nI i)), (0, .ref q1), (1, .int (nI sg)), (2, .int (nI a)), (3, .int (nI z))] ∧ (a ≤ i) ∧ (i ≤ z) ∧ (∀ j, a ≤ j → j < i → ¬ tx j = sg)) (fun (i : Nat) => z - i) 3 [] (fun i ls hI ih => ?_) (a) ⟨lv_sub hl [0, 1, 2, 3, 4] rfl, Nat.le_refl _, hi, fun j h5 h6 => absurd h6 (by omega)⟩
  obtain ⟨hl, h1, h2, h3⟩ := hI
  refine lv_iload hx hb d_Txt_find_3 (lv_at hl 0 rfl) ?_
  refine lv_iload_n hx hb d_Txt_find_5 rfl (lv_at hl 4 rfl) ?_
  refine lv_icmp_ge (tgt := 28) hx hb d_Txt_find_6 (by decide) (fun c1 => ?_) (fun c1 => ?_)
  · have c1 := (nI_leI (by omega) (by omega)).mp c1
    have e1 : z = i := by omega
    subst e1
    refine lv_iconst (v := (-1)) hx hb d_Txt_find_28 (by decide) ?_
    exact W.iret (v := (-1)) hx hb hr  (fun t ht hW => ⟨_, rfl, Or.inr ⟨h3, rfl⟩, ht⟩) (fun _ h => by cases h) d_Txt_find_29
  · have c1 := mt (nI_leI (by omega) (by omega)).mpr c1
    refine lv_aload_n hx hb d_Txt_find_9 rfl (lv_at hl 1 rfl) ?_
    refine lv_iload hx hb d_Txt_find_10 (lv_at hl 0 rfl) ?_
    refine sd_ri (va_runV (As := [.int (nI i)]) (rest := []) ⟨hx, hb, hml, hown, hts⟩ (c_Txt_byteAt l g q1 q5 n f tx hT (i) (by omega)) (cwV 1 hts (sd_gV k_200 k_201 k_202 k_24 k_203) rfl rfl rfl (by decide +kernel) ⟨Nat.le_of_ble_eq_true rfl, Nat.le_of_ble_eq_true rfl⟩) (sd_preV hK hE hF (hP.sub (ws' := [(q1, .inr (6, [.ref q5, .int (nI n)])), (q5, .inl (gB g, 2000, .inl f))]) [0, 1] rfl) rfl rfl) rfl rfl hl.1 rfl (lv_room (Nat.le_of_ble_eq_true rfl)) d_Txt_find_12 ⟨Nat.zero_le _, Nat.zero_le _⟩) (fun r2 er2 => ?_)
    subst er2
    have hb8i := hb8 (i)
    refine lv_iload_n hx hb d_Txt_find_15 rfl (lv_at hl 2 rfl) ?_
    refine lv_icmp_ne (tgt := 22) hx hb d_Txt_find_16 (by decide) (fun c3 => ?_) (fun c3 => ?_)
    · have c3 := mt (nI_eq (by omega) (by omega)).mpr c3
      refine lv_iinc (v := (nI (i + 1))) (lv' := [(4, .int (nI (i + 1))), (0, .ref q1), (1, .int (nI sg)), (2, .int (nI a)), (3, .int (nI z))]) hx hb d_Txt_find_22 hl (k := 0) rfl (nI_1 _) (by decide) rfl (fun ls hl => ?_)
      refine lv_goto (tgt := 3) hx hb d_Txt_find_25 (by decide) ?_
      exact ih (i + 1) _ ⟨lv_sub hl [0, 1, 2, 3, 4] rfl, by omega, by omega, fun j h5 h6 => by
          rcases Nat.lt_or_ge j i with q | q
          · exact h3 j h5 q
          · have : j = i := by omega
            subst this; exact c3⟩ (show z - (i + 1) < z - i by omega)
    · have c3 := (nI_eq (by omega) (by omega)).mp c3
      refine lv_iload hx hb d_Txt_find_19 (lv_at hl 0 rfl) ?_
      exact W.iret (v := (nI i)) hx hb hr  (fun t ht hW => ⟨_, rfl, Or.inl ⟨_, rfl, h1, by omega, c3, h3⟩, ht⟩) (fun _ h => by cases h) d_Txt_find_21
set_option maxHeartbeats 4000000 in
set_option maxRecDepth 100000 in
/-- isSame(a, z, k) -/
theorem c_Txt_isSame (l : Launch) (g : sdG) (q1 q5 n : Nat) (f : Nat → Int32) (tx : Nat → Nat) (hT : TXok n f tx) (a z k : Nat) (ha : a ≤ 2000) (hz : z ≤ 2000) (hk : k ≤ 2000) : Met l y_Txt_isSame (.code y_Txt_isSame b_Txt_isSame 5 (some .boolean) :: sdT) ({ frames := 1, cells := 0, slots := 0, locals := 21 }) (va_Pc [.ref q1, .int (nI a), .int (nI z), .int (nI k)] (sdR g [(q1, .inr (6, [.ref q5, .int (nI n)])), (q5, .inl (gB g, 2000, .inl f))])) (vp_Si (fun r => r = sb (∀ j, j < k → tx (a + j) = tx (z + j)))) 0 0 (fun _ => False) := by
  refine Met.ofW (cc := b_Txt_isSame) (maxL := 5) (ret := (some .boolean)) (by decide) rfl ?_
  intro p e s m args below meth c s₁ B hml hv
  obtain ⟨rfl, hP, hK, hE⟩ := hv
  have hx := B.exec
  have hb := B.bytes
  have hr := B.returns
  have hts := fun (w : Cond) (h : w ∈ sdT) => atoms_spec (ws := (.code y_Txt_isSame b_Txt_isSame 5 (some .boolean) :: sdT)) B.pre w (List.mem_cons_of_mem _ h)
  have hown : s.vm.findClass "SignDesk$Text" = some m.cls := findClass_of_methodNamed B.named
  have hlocks := B.notSynchronized
  have hF : ∀ a : Nat, a < s.heap.size → ¬ sdA g a → s.heap[a]? = s.heap[a]? := fun _ _ _ => rfl
  have hP : sdP g [(q1, .inr (6, [.ref q5, .int (nI n)])), (q5, .inl (gB g, 2000, .inl f))] s.heap := hP
  have hl := lv_entry ([.ref q1, .int (nI a), .int (nI z), .int (nI k)]) (n := 5) (Nat.le_of_ble_eq_true rfl)
  rw [lg_entry_eq]
  generalize (lg_sl ([.ref q1, .int (nI a), .int (nI z), .int (nI k)]) ++ List.replicate (5 - (lg_sl ([.ref q1, .int (nI a), .int (nI z), .int (nI k)])).length) Slot.unset).toArray = ls at hl ⊢
  have hl : lv_has ls 5 [(0, .ref q1), (1, .int (nI a)), (2, .int (nI z)), (3, .int (nI k))] := hl
  have hn := hT.1
  have hb8 := hT.2.1
  refine lv_iconst (v := (nI 0)) hx hb d_Txt_isSame_0 (by decide) ?_
  refine lv_istore (lv' := [(4, .int (nI 0)), (0, .ref q1), (1, .int (nI a)), (2, .int (nI z)), (3, .int (nI k))]) hx hb d_Txt_isSame_1 hl (by decide) rfl (fun ls hl => ?_)
  refine sd_loopr (fun (i : Nat) ls => lv_has ls 5 [(4, .int (nI i)), (0, .ref q1), (1, .int (nI a)), (2, .int (nI z)), (3, .int (nI k))] ∧ (i ≤ k) ∧ (∀ j, j < i → tx (a + j) = tx (z + j))) (fun (i : Nat) => k - i) 3 [] (fun i ls hI ih => ?_) (0) ⟨lv_sub hl [0, 1, 2, 3, 4] rfl, Nat.zero_le _, fun j h6 => absurd h6 (by omega)⟩
  obtain ⟨hl, h2, h3⟩ := hI
  refine lv_iload hx hb d_Txt_isSame_3 (lv_at hl 0 rfl) ?_
  refine lv_iload_n hx hb d_Txt_isSame_5 rfl (lv_at hl 4 rfl) ?_
  refine lv_icmp_ge (tgt := 36) hx hb d_Txt_isSame_6 (by decide) (fun c1 => ?_) (fun c1 => ?_)
  · have c1 := (nI_leI (by omega) (by omega)).mp c1
    have e1 : k = i := by omega
    subst e1
    refine lv_iconst (v := (nI 1)) hx hb d_Txt_isSame_36 (by decide) ?_
    exact W.zret (v := (nI 1)) hx hb hr (by first | rfl | decide | exact sb_nar) (fun t ht hW => ⟨_, rfl, (sb_t h3).symm, ht⟩) (fun _ h => by cases h) d_Txt_isSame_37
  · have c1 := mt (nI_leI (by omega) (by omega)).mpr c1
    refine lv_aload_n hx hb d_Txt_isSame_9 rfl (lv_at hl 1 rfl) ?_
    refine lv_iload_n hx hb d_Txt_isSame_10 rfl (lv_at hl 2 rfl) ?_
    refine lv_iload hx hb d_Txt_isSame_11 (lv_at hl 0 rfl) ?_
    refine lv_iadd hx hb d_Txt_isSame_13 ?_
    refine sd_topi (y := nI (a + i)) (nI_add _ _) ?_
    refine sd_ri (va_runV (As := [.int (nI (a + i))]) (rest := []) ⟨hx, hb, hml, hown, hts⟩ (c_Txt_byteAt l g q1 q5 n f tx hT (a + i) (by omega)) (cwV 1 hts (sd_gV k_200 k_201 k_202 k_24 k_203) rfl rfl rfl (by decide +kernel) ⟨Nat.le_of_ble_eq_true rfl, Nat.le_of_ble_eq_true rfl⟩) (sd_preV hK hE hF (hP.sub (ws' := [(q1, .inr (6, [.ref q5, .int (nI n)])), (q5, .inl (gB g, 2000, .inl f))]) [0, 1] rfl) rfl rfl) rfl rfl hl.1 rfl (lv_room (Nat.le_of_ble_eq_true rfl)) d_Txt_isSame_14 ⟨Nat.zero_le _, Nat.zero_le _⟩) (fun r2 er2 => ?_)
    subst er2
    have hb8i := hb8 (a + i)
    refine lv_aload_n hx hb d_Txt_isSame_17 rfl (lv_at hl 1 rfl) ?_
    refine lv_iload_n hx hb d_Txt_isSame_18 rfl (lv_at hl 3 rfl) ?_
    refine lv_iload hx hb d_Txt_isSame_19 (lv_at hl 0 rfl) ?_
    refine lv_iadd hx hb d_Txt_isSame_21 ?_
    refine sd_topi (y := nI (z + i)) (nI_add _ _) ?_
    refine sd_ri (va_runV (As := [.int (nI (z + i))]) (rest := [.int (nI (tx (a + i)))]) ⟨hx, hb, hml, hown, hts⟩ (c_Txt_byteAt l g q1 q5 n f tx hT (z + i) (by omega)) (cwV 1 hts (sd_gV k_200 k_201 k_202 k_24 k_203) rfl rfl rfl (by decide +kernel) ⟨Nat.le_of_ble_eq_true rfl, Nat.le_of_ble_eq_true rfl⟩) (sd_preV hK hE hF (hP.sub (ws' := [(q1, .inr (6, [.ref q5, .int (nI n)])), (q5, .inl (gB g, 2000, .inl f))]) [0, 1] rfl) rfl rfl) rfl rfl hl.1 rfl (lv_room (Nat.le_of_ble_eq_true rfl)) d_Txt_isSame_22 ⟨Nat.zero_le _, Nat.zero_le _⟩) (fun r3 er3 => ?_)
    subst er3
    have hb8i := hb8 (z + i)
    refine lv_icmp_eq (tgt := 30) hx hb d_Txt_isSame_25 (by decide) (fun c4 => ?_) (fun c4 => ?_)
    · have c4 := (nI_eq (by omega) (by omega)).mp c4
      refine lv_iinc (v := (nI (i + 1))) (lv' := [(4, .int (nI (i + 1))), (0, .ref q1), (1, .int (nI a)), (2, .int (nI z)), (3, .int (nI k))]) hx hb d_Txt_isSame_30 hl (k := 0) rfl (nI_1 _) (by decide) rfl (fun ls hl => ?_)
      refine lv_goto (tgt := 3) hx hb d_Txt_isSame_33 (by decide) ?_
      exact ih (i + 1) _ ⟨lv_sub hl [0, 1, 2, 3, 4] rfl, by omega, fun j h6 => by
          rcases Nat.lt_or_ge j i with q | q
          · exact h3 j q
          · have : j = i := by omega
            subst this; exact c4⟩ (show k - (i + 1) < k - i by omega)
    · have c4 := mt (nI_eq (by omega) (by omega)).mpr c4
      refine lv_iconst (v := (nI 0)) hx hb d_Txt_isSame_28 (by decide) ?_
      exact W.zret (v := (nI 0)) hx hb hr (by first | rfl | decide | exact sb_nar) (fun t ht hW => ⟨_, rfl, (sb_f (fun q => c4 (q i (by omega)))).symm, ht⟩) (fun _ h => by cases h) d_Txt_isSame_29
