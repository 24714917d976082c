/-- the number that k signs from a on write -/
def nV (tx : Nat → Nat) (a : Nat) : Nat → Nat
  | 0 => 0
  | k + 1 => 10 * nV tx a k + (tx (a + k) - 48)
theorem sd_subLt {z a k : Nat} (hz : z < 2 ^ 30) (ha : a < 2 ^ 30) (hk : k < 2 ^ 30) : nI z - nI a < nI k ↔ z < a + k := by
  rw [Int32.lt_iff_toInt_lt, pk_sub_toInt hz ha, nI_toInt (by omega)]; omega
theorem sd_subGt {z a k : Nat} (hz : z < 2 ^ 30) (ha : a < 2 ^ 30) (hk : k < 2 ^ 30) : nI k < nI z - nI a ↔ a + k < z := by
  rw [Int32.lt_iff_toInt_lt, pk_sub_toInt hz ha, nI_toInt (by omega)]; omega
theorem sd_subLe {z a k : Nat} (hz : z < 2 ^ 30) (ha : a < 2 ^ 30) (hk : k < 2 ^ 30) : nI z - nI a ≤ nI k ↔ z ≤ a + k := by
  rw [Int32.le_iff_toInt_le, pk_sub_toInt hz ha, nI_toInt (by omega)]; omega
theorem sd_subEq {z a k : Nat} (hz : z < 2 ^ 30) (ha : a < 2 ^ 30) (hk : k < 2 ^ 30) : nI k = nI z - nI a ↔ a + k = z := by
  rw [← Int32.toInt_inj, pk_sub_toInt hz ha, nI_toInt (by omega)]; omega
theorem nV_lt {tx : Nat → Nat} {a k : Nat} (h : ∀ j, a ≤ j → j < a + k → isDg (tx j)) : nV tx a k < 10 ^ k := by
  induction k with
  | zero => exact Nat.one_pos
  | succ k ih =>
    have h1 := ih (fun j h5 h6 => h j h5 (by omega))
    have h2 : isDg (tx (a + k)) := h (a + k) (by omega) (by omega)
    have h3 : tx (a + k) - 48 ≤ 9 := by unfold isDg at h2; omega
    show 10 * nV tx a k + (tx (a + k) - 48) < 10 ^ k * 10
    omega
set_option maxHeartbeats 4000000 in
set_option maxRecDepth 100000 in
/-- isSymbol(a, z) -/
theorem c_Txt_isSymbol (l : Launch) (g : sdG) (q1 q5 n : Nat) (f : Nat → Int32) (tx : Nat → Nat) (hT : TXok n f tx) (a z : Nat) (ha : a ≤ 2001) (hz : z ≤ 2001) : Met l y_Txt_isSymbol (.code y_Txt_isSymbol b_Txt_isSymbol 4 (some .boolean) :: sdT) ({ frames := 2, cells := 0, slots := 0, locals := 40 }) (va_Pc [.ref q1, .int (nI a), .int (nI z)] (sdR g [(q1, .inr (6, [.ref q5, .int (nI n)])), (q5, .inl (gB g, 2000, .inl f))])) (vp_Si (fun r => r = sb (a < z ∧ z ≤ a + 16 ∧ ¬ isDg (tx a) ∧ ∀ j, a ≤ j → j < z → isSy (tx j)))) 0 0 (fun _ => False) := by
  refine Met.ofW (cc := b_Txt_isSymbol) (maxL := 4) (ret := (some .boolean)) (by decide) rfl ?_
  intro p e s m args below meth c s₁ B hml hv
  obtain ⟨rfl, hP, hK, hE⟩ := hv
  have hx := B.exec
  have hb := B.bytes
  have hr := B.returns
  have hts := fun (w : Cond) (h : w ∈ sdT) => atoms_spec (ws := (.code y_Txt_isSymbol b_Txt_isSymbol 4 (some .boolean) :: sdT)) B.pre w (List.mem_cons_of_mem _ h)
  have hown : s.vm.findClass "SignDesk$Text" = some m.cls := findClass_of_methodNamed B.named
  have hlocks := B.notSynchronized
  have hF : ∀ a : Nat, a < s.heap.size → ¬ sdA g a → s.heap[a]? = s.heap[a]? := fun _ _ _ => rfl
  have hP : sdP g [(q1, .inr (6, [.ref q5, .int (nI n)])), (q5, .inl (gB g, 2000, .inl f))] s.heap := hP
  have hl := lv_entry ([.ref q1, .int (nI a), .int (nI z)]) (n := 4) (Nat.le_of_ble_eq_true rfl)
  rw [lg_entry_eq]
  generalize (lg_sl ([.ref q1, .int (nI a), .int (nI z)]) ++ List.replicate (4 - (lg_sl ([.ref q1, .int (nI a), .int (nI z)])).length) Slot.unset).toArray = ls at hl ⊢
  have hl : lv_has ls 4 [(0, .ref q1), (1, .int (nI a)), (2, .int (nI z))] := hl
  have hn := hT.1
  have hb8 := hT.2.1
  refine lv_iload_n hx hb d_Txt_isSymbol_0 rfl (lv_at hl 2 rfl) ?_
  refine lv_iload_n hx hb d_Txt_isSymbol_1 rfl (lv_at hl 1 rfl) ?_
  refine lv_isub hx hb d_Txt_isSymbol_2 ?_
  refine lv_iconst (v := (nI 1)) hx hb d_Txt_isSymbol_3 (by decide) ?_
  refine lv_icmp_lt (tgt := 26) hx hb d_Txt_isSymbol_4 (by decide) (fun c1 => ?_) (fun c1 => ?_)
  · have c1 := (sd_subLt (by omega) (by omega) (by omega)).mp c1
    refine lv_iconst (v := (nI 0)) hx hb d_Txt_isSymbol_26 (by decide) ?_
    exact W.zret (v := (nI 0)) hx hb hr (by first | rfl | decide | exact sb_nar) (fun t ht hW => ⟨_, rfl, (sb_f (fun q => absurd q.1 (by omega))).symm, ht⟩) (fun _ h => by cases h) d_Txt_isSymbol_27
  · have c1 := mt (sd_subLt (by omega) (by omega) (by omega)).mpr c1
    refine lv_iload_n hx hb d_Txt_isSymbol_7 rfl (lv_at hl 2 rfl) ?_
    refine lv_iload_n hx hb d_Txt_isSymbol_8 rfl (lv_at hl 1 rfl) ?_
    refine lv_isub hx hb d_Txt_isSymbol_9 ?_
    refine lv_bipush (v := (nI 16)) hx hb d_Txt_isSymbol_10 (by decide) ?_
    refine lv_icmp_gt (tgt := 26) hx hb d_Txt_isSymbol_12 (by decide) (fun c2 => ?_) (fun c2 => ?_)
    · have c2 := (sd_subGt (by omega) (by omega) (by omega)).mp c2
      refine lv_iconst (v := (nI 0)) hx hb d_Txt_isSymbol_26 (by decide) ?_
      exact W.zret (v := (nI 0)) hx hb hr (by first | rfl | decide | exact sb_nar) (fun t ht hW => ⟨_, rfl, (sb_f (fun q => absurd q.2.1 (by omega))).symm, ht⟩) (fun _ h => by cases h) d_Txt_isSymbol_27
    · have c2 := mt (sd_subGt (by omega) (by omega) (by omega)).mpr c2
      refine lv_aload_n hx hb d_Txt_isSymbol_15 rfl (lv_at hl 0 rfl) ?_
      refine lv_iload_n hx hb d_Txt_isSymbol_16 rfl (lv_at hl 1 rfl) ?_
      refine sd_ri (va_runV (As := [.int (nI a)]) (rest := []) ⟨hx, hb, hml, hown, hts⟩ (c_Txt_byteAt l g q1 q5 n f tx hT (a) (by omega)) (cwV 1 hts (sd_gV k_200 k_201 k_202 k_24 k_203) rfl rfl rfl (by decide +kernel) ⟨Nat.le_of_ble_eq_true rfl, Nat.le_of_ble_eq_true rfl⟩) (sd_preV hK hE hF (hP.sub (ws' := [(q1, .inr (6, [.ref q5, .int (nI n)])), (q5, .inl (gB g, 2000, .inl f))]) [0, 1] rfl) rfl rfl) rfl rfl hl.1 rfl (lv_room (Nat.le_of_ble_eq_true rfl)) d_Txt_isSymbol_17 ⟨Nat.zero_le _, Nat.zero_le _⟩) (fun r3 er3 => ?_)
      subst er3
      have hb8i := hb8 (a)
      refine sd_ri (va_runS (As := [.int (nI (tx (a)))]) (rest := []) ⟨hx, hb, hml, hown, hts⟩ (c_Txt_isDigit l (tx a) (hb8 a)) (va_cwS 1 hts (sd_gS k_236 k_237 k_24 k_238) rfl rfl rfl (by decide +kernel) ⟨Nat.le_of_ble_eq_true rfl, Nat.le_of_ble_eq_true rfl⟩) preEq rfl rfl hl.1 rfl (lv_room (Nat.le_of_ble_eq_true rfl)) d_Txt_isSymbol_20 ⟨Nat.zero_le _, Nat.zero_le _⟩) (fun r4 er4 => ?_)
      subst er4
      refine lv_if_eq (tgt := 28) hx hb d_Txt_isSymbol_23 (by decide) (fun c5 => ?_) (fun c5 => ?_)
      · have c5 := sb_eq0.mp c5
        refine lv_iload_n hx hb d_Txt_isSymbol_28 rfl (lv_at hl 1 rfl) ?_
        refine lv_istore_n (lv' := [(3, .int (nI a)), (0, .ref q1), (1, .int (nI a)), (2, .int (nI z))]) hx hb d_Txt_isSymbol_29 rfl hl (by decide) rfl (fun ls hl => ?_)
        refine sd_loopr (fun (i : Nat) ls => lv_has ls 4 [(3, .int (nI i)), (0, .ref q1), (1, .int (nI a)), (2, .int (nI z))] ∧ (a ≤ i) ∧ (i ≤ z) ∧ (∀ j, a ≤ j → j < i → isSy (tx j))) (fun (i : Nat) => z - i) 30 [] (fun i ls hI ih => ?_) (a) ⟨lv_sub hl [0, 1, 2, 3] rfl, Nat.le_refl _, by omega, fun j h5 h6 => absurd h6 (by omega)⟩
        obtain ⟨hl, h1, h2, h3⟩ := hI
        refine lv_iload_n hx hb d_Txt_isSymbol_30 rfl (lv_at hl 0 rfl) ?_
        refine lv_iload_n hx hb d_Txt_isSymbol_31 rfl (lv_at hl 3 rfl) ?_
        refine lv_icmp_ge (tgt := 54) hx hb d_Txt_isSymbol_32 (by decide) (fun c6 => ?_) (fun c6 => ?_)
        · have c6 := (nI_leI (by omega) (by omega)).mp c6
          have e1 : z = i := by omega
          subst e1
          refine lv_iconst (v := (nI 1)) hx hb d_Txt_isSymbol_54 (by decide) ?_
          exact W.zret (v := (nI 1)) hx hb hr (by first | rfl | decide | exact sb_nar) (fun t ht hW => ⟨_, rfl, (sb_t ⟨by omega, by omega, c5, h3⟩).symm, ht⟩) (fun _ h => by cases h) d_Txt_isSymbol_55
        · have c6 := mt (nI_leI (by omega) (by omega)).mpr c6
          refine lv_aload_n hx hb d_Txt_isSymbol_35 rfl (lv_at hl 1 rfl) ?_
          refine lv_iload_n hx hb d_Txt_isSymbol_36 rfl (lv_at hl 0 rfl) ?_
          refine sd_ri (va_runV (As := [.int (nI i)]) (rest := []) ⟨hx, hb, hml, hown, hts⟩ (c_Txt_byteAt l g q1 q5 n f tx hT (i) (by omega)) (cwV 1 hts (sd_gV k_200 k_201 k_202 k_24 k_203) rfl rfl rfl (by decide +kernel) ⟨Nat.le_of_ble_eq_true rfl, Nat.le_of_ble_eq_true rfl⟩) (sd_preV hK hE hF (hP.sub (ws' := [(q1, .inr (6, [.ref q5, .int (nI n)])), (q5, .inl (gB g, 2000, .inl f))]) [0, 1] rfl) rfl rfl) rfl rfl hl.1 rfl (lv_room (Nat.le_of_ble_eq_true rfl)) d_Txt_isSymbol_37 ⟨Nat.zero_le _, Nat.zero_le _⟩) (fun r7 er7 => ?_)
          subst er7
          have hb8i := hb8 (i)
          refine sd_ri (va_runS (As := [.int (nI (tx (i)))]) (rest := []) ⟨hx, hb, hml, hown, hts⟩ (c_Txt_isSymbolSign l (tx i) (hb8 i)) (va_cwS 1 hts (sd_gS k_239 k_240 k_24 k_241) rfl rfl rfl (by decide +kernel) ⟨Nat.le_of_ble_eq_true rfl, Nat.le_of_ble_eq_true rfl⟩) preEq rfl rfl hl.1 rfl (lv_room (Nat.le_of_ble_eq_true rfl)) d_Txt_isSymbol_40 ⟨Nat.zero_le _, Nat.zero_le _⟩) (fun r8 er8 => ?_)
          subst er8
          refine lv_if_ne (tgt := 48) hx hb d_Txt_isSymbol_43 (by decide) (fun c9 => ?_) (fun c9 => ?_)
          · have c9 := sb_ne0.mp c9
            refine lv_iinc (v := (nI (i + 1))) (lv' := [(3, .int (nI (i + 1))), (0, .ref q1), (1, .int (nI a)), (2, .int (nI z))]) hx hb d_Txt_isSymbol_48 hl (k := 0) rfl (nI_1 _) (by decide) rfl (fun ls hl => ?_)
            refine lv_goto (tgt := 30) hx hb d_Txt_isSymbol_51 (by decide) ?_
            exact ih (i + 1) _ ⟨lv_sub hl [0, 1, 2, 3] rfl, by omega, by omega, fun j h5 h6 => by
                rcases Nat.lt_or_ge j i with q | q
                · exact h3 j h5 q
                · have : j = i := by omega
                  subst this; exact c9⟩ (show z - (i + 1) < z - i by omega)
          · have c9 := sb_eq0.mp c9
            refine lv_iconst (v := (nI 0)) hx hb d_Txt_isSymbol_46 (by decide) ?_
            exact W.zret (v := (nI 0)) hx hb hr (by first | rfl | decide | exact sb_nar) (fun t ht hW => ⟨_, rfl, (sb_f (fun q => c9 (q.2.2.2 i h1 (by omega)))).symm, ht⟩) (fun _ h => by cases h) d_Txt_isSymbol_47
      · have c5 := sb_ne0.mp c5
        refine lv_iconst (v := (nI 0)) hx hb d_Txt_isSymbol_26 (by decide) ?_
        exact W.zret (v := (nI 0)) hx hb hr (by first | rfl | decide | exact sb_nar) (fun t ht hW => ⟨_, rfl, (sb_f (fun q => q.2.2.1 c5)).symm, ht⟩) (fun _ h => by cases h) d_Txt_isSymbol_27
set_option maxHeartbeats 4000000 in
set_option maxRecDepth 100000 in
/-- number(a, z) -/
theorem c_Txt_number (l : Launch) (g : sdG) (q1 q5 n : Nat) (f : Nat → Int32) (tx : Nat → Nat) (hT : TXok n f tx) (a z : Nat) (ha : a ≤ 2001) (hz : z ≤ 2001) : Met l y_Txt_number (.code y_Txt_number b_Txt_number 5 (some .int) :: sdT) ({ frames := 1, cells := 0, slots := 0, locals := 21 }) (va_Pc [.ref q1, .int (nI a), .int (nI z)] (sdR g [(q1, .inr (6, [.ref q5, .int (nI n)])), (q5, .inl (gB g, 2000, .inl f))])) (vp_Si (fun r => ((a < z ∧ z ≤ a + 5 ∧ (∀ j, a ≤ j → j < z → isDg (tx j)) ∧ nV tx a (z - a) ≤ 32767) ∧ r = nI (nV tx a (z - a))) ∨ (¬ (a < z ∧ z ≤ a + 5 ∧ (∀ j, a ≤ j → j < z → isDg (tx j)) ∧ nV tx a (z - a) ≤ 32767) ∧ r = -1))) 0 0 (fun _ => False) := by
  refine Met.ofW (cc := b_Txt_number) (maxL := 5) (ret := (some .int)) (by decide) rfl ?_
  intro p e s m args below meth c s₁ B hml hv
  obtain ⟨rfl, hP, hK, hE⟩ := hv
  have hx := B.exec
  have hb := B.bytes
  have hr := B.returns
  have hts := fun (w : Cond) (h : w ∈ sdT) => atoms_spec (ws := (.code y_Txt_number b_Txt_number 5 (some .int) :: sdT)) B.pre w (List.mem_cons_of_mem _ h)
  have hown : s.vm.findClass "SignDesk$Text" = some m.cls := findClass_of_methodNamed B.named
  have hlocks := B.notSynchronized
  have hF : ∀ a : Nat, a < s.heap.size → ¬ sdA g a → s.heap[a]? = s.heap[a]? := fun _ _ _ => rfl
  have hP : sdP g [(q1, .inr (6, [.ref q5, .int (nI n)])), (q5, .inl (gB g, 2000, .inl f))] s.heap := hP
  have hl := lv_entry ([.ref q1, .int (nI a), .int (nI z)]) (n := 5) (Nat.le_of_ble_eq_true rfl)
  rw [lg_entry_eq]
  generalize (lg_sl ([.ref q1, .int (nI a), .int (nI z)]) ++ List.replicate (5 - (lg_sl ([.ref q1, .int (nI a), .int (nI z)])).length) Slot.unset).toArray = ls at hl ⊢
  have hl : lv_has ls 5 [(0, .ref q1), (1, .int (nI a)), (2, .int (nI z))] := hl
  have hn := hT.1
  have hb8 := hT.2.1
  refine lv_iload_n hx hb d_Txt_number_0 rfl (lv_at hl 2 rfl) ?_
  refine lv_iload_n hx hb d_Txt_number_1 rfl (lv_at hl 1 rfl) ?_
  refine lv_isub hx hb d_Txt_number_2 ?_
  refine lv_iconst (v := (nI 1)) hx hb d_Txt_number_3 (by decide) ?_
  refine lv_icmp_lt (tgt := 14) hx hb d_Txt_number_4 (by decide) (fun c1 => ?_) (fun c1 => ?_)
  · have c1 := (sd_subLt (by omega) (by omega) (by omega)).mp c1
    refine lv_iconst (v := (-1)) hx hb d_Txt_number_14 (by decide) ?_
    exact W.iret (v := (-1)) hx hb hr  (fun t ht hW => ⟨_, rfl, Or.inr ⟨fun q => absurd q.1 (by omega), rfl⟩, ht⟩) (fun _ h => by cases h) d_Txt_number_15
  · have c1 := mt (sd_subLt (by omega) (by omega) (by omega)).mpr c1
    refine lv_iload_n hx hb d_Txt_number_7 rfl (lv_at hl 2 rfl) ?_
    refine lv_iload_n hx hb d_Txt_number_8 rfl (lv_at hl 1 rfl) ?_
    refine lv_isub hx hb d_Txt_number_9 ?_
    refine lv_iconst (v := (nI 5)) hx hb d_Txt_number_10 (by decide) ?_
    refine lv_icmp_le (tgt := 16) hx hb d_Txt_number_11 (by decide) (fun c2 => ?_) (fun c2 => ?_)
    · have c2 := (sd_subLe (by omega) (by omega) (by omega)).mp c2
      refine lv_iconst (v := (nI 0)) hx hb d_Txt_number_16 (by decide) ?_
      refine lv_istore_n (lv' := [(3, .int (nI 0)), (0, .ref q1), (1, .int (nI a)), (2, .int (nI z))]) hx hb d_Txt_number_17 rfl hl (by decide) rfl (fun ls hl => ?_)
      refine lv_iload_n hx hb d_Txt_number_18 rfl (lv_at hl 2 rfl) ?_
      refine lv_istore (lv' := [(4, .int (nI a)), (3, .int (nI 0)), (0, .ref q1), (1, .int (nI a)), (2, .int (nI z))]) hx hb d_Txt_number_19 hl (by decide) rfl (fun ls hl => ?_)
      refine sd_loopr (fun (i : Nat) ls => lv_has ls 5 [(4, .int (nI i)), (3, .int (nI (nV tx a (i - a)))), (0, .ref q1), (1, .int (nI a)), (2, .int (nI z))] ∧ (a ≤ i) ∧ (i ≤ z) ∧ (∀ j, a ≤ j → j < i → isDg (tx j))) (fun (i : Nat) => z - i) 21 [] (fun i ls hI ih => ?_) (a) ⟨by rw [Nat.sub_self]; exact lv_sub hl [0, 1, 2, 3, 4] rfl, Nat.le_refl _, by omega, fun j h5 h6 => absurd h6 (by omega)⟩
      obtain ⟨hl, h1, h2, h3⟩ := hI
      have h4 : nV tx a (i - a) < 10 ^ (i - a) := nV_lt (fun j h5 h6 => h3 j h5 (by omega))
      refine lv_iload hx hb d_Txt_number_21 (lv_at hl 0 rfl) ?_
      refine lv_iload_n hx hb d_Txt_number_23 rfl (lv_at hl 4 rfl) ?_
      refine lv_icmp_ge (tgt := 62) hx hb d_Txt_number_24 (by decide) (fun c3 => ?_) (fun c3 => ?_)
      · have c3 := (nI_leI (by omega) (by omega)).mp c3
        have e1 : z = i := by omega
        subst e1
        have h5 : (10 : Nat) ^ (z - a) ≤ 10 ^ 5 := Nat.pow_le_pow_right (by decide) (by omega)
        refine lv_iload_n hx hb d_Txt_number_62 rfl (lv_at hl 1 rfl) ?_
        refine lv_sipush (v := (nI 32767)) hx hb d_Txt_number_63 (by decide) ?_
        refine lv_icmp_gt (tgt := 73) hx hb d_Txt_number_66 (by decide) (fun c4 => ?_) (fun c4 => ?_)
        · have c4 := (nI_ltI (by omega) (by omega)).mp c4
          refine lv_iconst (v := (-1)) hx hb d_Txt_number_73 (by decide) ?_
          exact W.iret (v := (-1)) hx hb hr  (fun t ht hW => ⟨_, rfl, Or.inr ⟨fun q => absurd q.2.2.2 (by omega), rfl⟩, ht⟩) (fun _ h => by cases h) d_Txt_number_74
        · have c4 := mt (nI_ltI (by omega) (by omega)).mpr c4
          refine lv_iload_n hx hb d_Txt_number_69 rfl (lv_at hl 1 rfl) ?_
          refine lv_goto (tgt := 74) hx hb d_Txt_number_70 (by decide) ?_
          exact W.iret (v := (nI (nV tx a (z - a)))) hx hb hr  (fun t ht hW => ⟨_, rfl, Or.inl ⟨⟨by omega, by omega, h3, by omega⟩, rfl⟩, ht⟩) (fun _ h => by cases h) d_Txt_number_74
      · have c3 := mt (nI_leI (by omega) (by omega)).mpr c3
        have h5 : (10 : Nat) ^ (i - a) ≤ 10 ^ 4 := Nat.pow_le_pow_right (by decide) (by omega)
        refine lv_aload_n hx hb d_Txt_number_27 rfl (lv_at hl 2 rfl) ?_
        refine lv_iload hx hb d_Txt_number_28 (lv_at hl 0 rfl) ?_
        refine sd_ri (va_runV (As := [.int (nI i)]) (rest := []) ⟨hx, hb, hml, hown, hts⟩ (c_Txt_byteAt l g q1 q5 n f tx hT (i) (by omega)) (cwV 1 hts (sd_gV k_200 k_201 k_202 k_24 k_203) rfl rfl rfl (by decide +kernel) ⟨Nat.le_of_ble_eq_true rfl, Nat.le_of_ble_eq_true rfl⟩) (sd_preV hK hE hF (hP.sub (ws' := [(q1, .inr (6, [.ref q5, .int (nI n)])), (q5, .inl (gB g, 2000, .inl f))]) [0, 1] rfl) rfl rfl) rfl rfl hl.1 rfl (lv_room (Nat.le_of_ble_eq_true rfl)) d_Txt_number_30 ⟨Nat.zero_le _, Nat.zero_le _⟩) (fun r5 er5 => ?_)
        subst er5
        have hb8i := hb8 (i)
        refine sd_ri (va_runS (As := [.int (nI (tx (i)))]) (rest := []) ⟨hx, hb, hml, hown, hts⟩ (c_Txt_isDigit l (tx i) (hb8 i)) (va_cwS 1 hts (sd_gS k_236 k_237 k_24 k_238) rfl rfl rfl (by decide +kernel) ⟨Nat.le_of_ble_eq_true rfl, Nat.le_of_ble_eq_true rfl⟩) preEq rfl rfl hl.1 rfl (lv_room (Nat.le_of_ble_eq_true rfl)) d_Txt_number_33 ⟨Nat.zero_le _, Nat.zero_le _⟩) (fun r6 er6 => ?_)
        subst er6
        refine lv_if_ne (tgt := 41) hx hb d_Txt_number_36 (by decide) (fun c7 => ?_) (fun c7 => ?_)
        · have c7 := sb_ne0.mp c7
          refine lv_bipush (v := (nI 10)) hx hb d_Txt_number_41 (by decide) ?_
          refine lv_iload_n hx hb d_Txt_number_43 rfl (lv_at hl 1 rfl) ?_
          refine lv_imul hx hb d_Txt_number_44 ?_
          refine sd_topi (y := nI (10 * (nV tx a (i - a)))) (pk_mul _ _) ?_
          refine lv_aload_n hx hb d_Txt_number_45 rfl (lv_at hl 2 rfl) ?_
          refine lv_iload hx hb d_Txt_number_46 (lv_at hl 0 rfl) ?_
          refine sd_ri (va_runV (As := [.int (nI i)]) (rest := [.int (nI (10 * (nV tx a (i - a))))]) ⟨hx, hb, hml, hown, hts⟩ (c_Txt_byteAt l g q1 q5 n f tx hT (i) (by omega)) (cwV 1 hts (sd_gV k_200 k_201 k_202 k_24 k_203) rfl rfl rfl (by decide +kernel) ⟨Nat.le_of_ble_eq_true rfl, Nat.le_of_ble_eq_true rfl⟩) (sd_preV hK hE hF (hP.sub (ws' := [(q1, .inr (6, [.ref q5, .int (nI n)])), (q5, .inl (gB g, 2000, .inl f))]) [0, 1] rfl) rfl rfl) rfl rfl hl.1 rfl (lv_room (Nat.le_of_ble_eq_true rfl)) d_Txt_number_48 ⟨Nat.zero_le _, Nat.zero_le _⟩) (fun r8 er8 => ?_)
          subst er8
          have hb8i := hb8 (i)
          refine lv_iadd hx hb d_Txt_number_51 ?_
          refine sd_topi (y := nI ((10 * (nV tx a (i - a))) + (tx (i)))) (nI_add _ _) ?_
          refine lv_bipush (v := (nI 48)) hx hb d_Txt_number_52 (by decide) ?_
          refine lv_isub hx hb d_Txt_number_54 ?_
          refine sd_topi (y := nI (nV tx a (i + 1 - a))) (by
              rw [pk_sub (by omega)]
              have e2 : i + 1 - a = (i - a) + 1 := by omega
              have e3 : a + (i - a) = i := by omega
              rw [e2, nV, e3]
              congr 1
              omega) ?_
          refine lv_istore_n (lv' := [(3, .int (nI (nV tx a (i + 1 - a)))), (4, .int (nI i)), (0, .ref q1), (1, .int (nI a)), (2, .int (nI z))]) hx hb d_Txt_number_55 rfl hl (by decide) rfl (fun ls hl => ?_)
          refine lv_iinc (v := (nI (i + 1))) (lv' := [(4, .int (nI (i + 1))), (3, .int (nI (nV tx a (i + 1 - a)))), (0, .ref q1), (1, .int (nI a)), (2, .int (nI z))]) hx hb d_Txt_number_56 hl (k := 1) rfl (nI_1 _) (by decide) rfl (fun ls hl => ?_)
          refine lv_goto (tgt := 21) hx hb d_Txt_number_59 (by decide) ?_
          exact ih (i + 1) _ ⟨lv_sub hl [0, 1, 2, 3, 4] rfl, by omega, by omega, fun j h5 h6 => by
              rcases Nat.lt_or_ge j i with q | q
              · exact h3 j h5 q
              · have : j = i := by omega
                subst this; exact c7⟩ (show z - (i + 1) < z - i by omega)
        · have c7 := sb_eq0.mp c7
          refine lv_iconst (v := (-1)) hx hb d_Txt_number_39 (by decide) ?_
          exact W.iret (v := (-1)) hx hb hr  (fun t ht hW => ⟨_, rfl, Or.inr ⟨fun q => c7 (q.2.2.1 i h1 (by omega)), rfl⟩, ht⟩) (fun _ h => by cases h) d_Txt_number_40
    · have c2 := mt (sd_subLe (by omega) (by omega) (by omega)).mpr c2
      refine lv_iconst (v := (-1)) hx hb d_Txt_number_14 (by decide) ?_
      exact W.iret (v := (-1)) hx hb hr  (fun t ht hW => ⟨_, rfl, Or.inr ⟨fun q => absurd q.2.1 (by omega), rfl⟩, ht⟩) (fun _ h => by cases h) d_Txt_number_15
