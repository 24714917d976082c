/-- the literals as numbers, and the names in them -/
def sd_bn : List (List Nat) := [[82, 48, 32, 82, 49, 32, 82, 50, 32, 82, 51, 32, 82, 52, 32, 82, 53, 32, 82, 54, 32, 82, 55, 32, 82, 56, 32, 82, 57, 32, 82, 49, 48, 32, 82, 49, 49, 32, 82, 49, 50, 32, 82, 49, 51, 32, 82, 49, 52, 32, 82, 49, 53, 32, 83, 80, 32, 76, 67, 76, 32, 65, 82, 71, 32, 84, 72, 73, 83, 32, 84, 72, 65, 84, 32, 83, 67, 82, 69, 69, 78, 32, 75, 66, 68], [77, 32, 68, 32, 77, 68, 32, 65, 32, 65, 77, 32, 65, 68, 32, 65, 77, 68], [74, 71, 84, 32, 74, 69, 81, 32, 74, 71, 69, 32, 74, 76, 84, 32, 74, 78, 69, 32, 74, 76, 69, 32, 74, 77, 80], [48, 32, 49, 32, 45, 49, 32, 68, 32, 65, 32, 33, 68, 32, 33, 65, 32, 45, 68, 32, 45, 65, 32, 68, 43, 49, 32, 65, 43, 49, 32, 68, 45, 49, 32, 65, 45, 49, 32, 68, 43, 65, 32, 68, 45, 65, 32, 65, 45, 68, 32, 68, 38, 65, 32, 68, 124, 65], [77, 32, 33, 77, 32, 45, 77, 32, 77, 43, 49, 32, 77, 45, 49, 32, 68, 43, 77, 32, 68, 45, 77, 32, 77, 45, 68, 32, 68, 38, 77, 32, 68, 124, 77]]
def sd_nm : List (List (List Nat)) := [[[82, 48], [82, 49], [82, 50], [82, 51], [82, 52], [82, 53], [82, 54], [82, 55], [82, 56], [82, 57], [82, 49, 48], [82, 49, 49], [82, 49, 50], [82, 49, 51], [82, 49, 52], [82, 49, 53], [83, 80], [76, 67, 76], [65, 82, 71], [84, 72, 73, 83], [84, 72, 65, 84], [83, 67, 82, 69, 69, 78], [75, 66, 68]], [[77], [68], [77, 68], [65], [65, 77], [65, 68], [65, 77, 68]], [[74, 71, 84], [74, 69, 81], [74, 71, 69], [74, 76, 84], [74, 78, 69], [74, 76, 69], [74, 77, 80]], [[48], [49], [45, 49], [68], [65], [33, 68], [33, 65], [45, 68], [45, 65], [68, 43, 49], [65, 43, 49], [68, 45, 49], [65, 45, 49], [68, 43, 65], [68, 45, 65], [65, 45, 68], [68, 38, 65], [68, 124, 65]], [[77], [33, 77], [45, 77], [77, 43, 49], [77, 45, 49], [68, 43, 77], [68, 45, 77], [77, 45, 68], [68, 38, 77], [68, 124, 77]]]
def sd_cn (k i : Nat) : Nat := (sd_bn.getD k []).getD i 0
theorem sd_cn_ok : ∀ k, k < 5 → ∀ i, i < sd_len.getD k 0 → ((((sd_byt.getD k []).getD i 0) &&& 255).toUInt32 % 65536).toInt32 = nI (sd_cn k i) ∧ sd_cn k i < 256 ∧ narrow .char (.int (nI (sd_cn k i))) = .int (nI (sd_cn k i)) := by decide +kernel
theorem sd_ln_ok : ∀ k, k < 5 → sd_len.getD k 0 = (sd_bn.getD k []).length ∧ sd_len.getD k 0 < 100 := by decide +kernel
/-- names with one blank between any two -/
def nmStr : List (List Nat) → List Nat
  | [] => []
  | [w] => w
  | w :: w2 :: ws => w ++ 32 :: nmStr (w2 :: ws)
theorem sd_nm_ok : ∀ k, k < 5 → nmStr (sd_nm.getD k []) = sd_bn.getD k [] ∧ sd_nm.getD k [] ≠ [] ∧ (sd_nm.getD k []).all (fun w => w.all (fun c => c != 32)) = true := by decide +kernel
/-- the first of the names that M holds of: its number; -1 if there is none -/
noncomputable def nmF (M : List Nat → Prop) : List (List Nat) → Nat → Int32
  | [], _ => -1
  | w :: ws, k => @ite _ (M w) (Classical.propDecidable _) (nI k) (nmF M ws (k + 1))
theorem nmF_t {M : List Nat → Prop} {w : List Nat} {ws : List (List Nat)} {k : Nat} (h : M w) : nmF M (w :: ws) k = nI k := @if_pos _ (Classical.propDecidable _) h _ _ _
theorem nmF_f {M : List Nat → Prop} {w : List Nat} {ws : List (List Nat)} {k : Nat} (h : ¬ M w) : nmF M (w :: ws) k = nmF M ws (k + 1) := @if_neg _ (Classical.propDecidable _) h _ _ _
/-- the signs from a to z are the name w -/
def nmM (tx : Nat → Nat) (a z : Nat) (w : List Nat) : Prop := a + w.length = z ∧ ∀ t, t < w.length → w.getD t 0 = tx (a + t)
theorem nmS_in {w : List Nat} {rest : List (List Nat)} {j : Nat} (h : j < w.length) : (nmStr (w :: rest)).getD j 0 = w.getD j 0 := by
  cases rest with
  | nil => rfl
  | cons w2 ws => simp [nmStr, List.getElem?_append_left h]
theorem nmS_sep {w w2 : List Nat} {ws : List (List Nat)} : (nmStr (w :: w2 :: ws)).getD w.length 0 = 32 := by simp [nmStr]
theorem nmS_drop {w w2 : List Nat} {ws : List (List Nat)} : (nmStr (w :: w2 :: ws)).drop (w.length + 1) = nmStr (w2 :: ws) := by
  show (w ++ 32 :: nmStr (w2 :: ws)).drop (w.length + 1) = _
  rw [List.drop_append]
  simp
theorem nmS_len1 {w : List Nat} : (nmStr [w]).length = w.length := rfl
theorem nmS_len2 {w w2 : List Nat} {ws : List (List Nat)} : (nmStr (w :: w2 :: ws)).length = w.length + 1 + (nmStr (w2 :: ws)).length := by
  show (w ++ 32 :: nmStr (w2 :: ws)).length = _
  simp; omega
theorem nmS_len {w : List Nat} {rest : List (List Nat)} : w.length ≤ (nmStr (w :: rest)).length := by
  cases rest with
  | nil => exact Nat.le_refl _
  | cons w2 ws => rw [nmS_len2]; omega
theorem nmS_at {B : List Nat} {st j : Nat} {l : List Nat} (h : B.drop st = l) : B.getD (st + j) 0 = l.getD j 0 := by
  rw [← h]; simp
set_option maxHeartbeats 4000000 in
set_option maxRecDepth 100000 in
/-- coder() of a literal -/
theorem c_JS_coder (l : Launch) (g : sdG) (k : Nat) (hk : k < 5) : Met l y_JS_coder (.code y_JS_coder b_JS_coder 1 (some .byte) :: sdT) ({ frames := 0, cells := 0, slots := 0, locals := 0 }) (va_Pc [.ref (gk g k)] (sdR g [])) (vp_Si (fun r => r = 0)) 0 0 (fun _ => False) := by
  refine va_MetF (cc := b_JS_coder) (maxL := 1) (ret := (some .byte)) (by decide +kernel) rfl ?_
  intro p e s m args below meth c s₁ B hml hv
  obtain ⟨rfl, hP, hK, hE⟩ := hv
  have hx := B.exec
  have hb := B.bytes
  have hr := B.returns
  have hts := fun (w : Cond) (h : w ∈ sdT) => atoms_spec (ws := (.code y_JS_coder b_JS_coder 1 (some .byte) :: sdT)) B.pre w (List.mem_cons_of_mem _ h)
  have hown : s.vm.findClass "java/lang/String" = some m.cls := findClass_of_methodNamed B.named
  have hlocks := B.notSynchronized
  have hF : ∀ a : Nat, a < s.heap.size → ¬ sdA g a → s.heap[a]? = s.heap[a]? := fun _ _ _ => rfl
  have hP : sdP g [] s.heap := hP
  have hl := lv_entry ([.ref (gk g k)]) (n := 1) (Nat.le_of_ble_eq_true rfl)
  rw [lg_entry_eq]
  generalize (lg_sl ([.ref (gk g k)]) ++ List.replicate (1 - (lg_sl ([.ref (gk g k)])).length) Slot.unset).toArray = ls at hl ⊢
  have hl : lv_has ls 1 [(0, .ref (gk g k))] := hl
  have hS0 : va_S (sdA g) s.heap s.heap [] := va_S.rf
  refine va_gets hx hb (v := .int 1) hE.1 hS0 hown (hts _ k_261) (fun _ h9 => h9) d_JS_coder_0 ?_
  refine lv_if_eq (tgt := 13) hx hb d_JS_coder_3 (by decide) (fun c1 => ?_) (fun c1 => ?_)
  · exact absurd c1 (by decide)
  · refine lv_aload_n hx hb d_JS_coder_6 rfl (lv_at hl 0 rfl) ?_
    refine vk_getf hx hb (v := .int 0) (hE.2.2.2.2.2.1.1 k hk).2.1 hS0 hown (hts _ k_659) (fun _ h9 => h9) d_JS_coder_7 ?_
    refine lv_goto (tgt := 14) hx hb d_JS_coder_10 (by decide) ?_
    exact W.zret (v := 0) hx hb hr (by first | rfl | decide | exact (sd_cn_ok k hk i hi).2.2) (fun t ht hW => ⟨_, rfl, rfl, ht⟩) (fun _ h => by cases h) d_JS_coder_14
set_option maxHeartbeats 4000000 in
set_option maxRecDepth 100000 in
/-- isLatin1() of a literal -/
theorem c_JS_isLatin1 (l : Launch) (g : sdG) (k : Nat) (hk : k < 5) : Met l y_JS_isLatin1 (.code y_JS_isLatin1 b_JS_isLatin1 1 (some .boolean) :: sdT) ({ frames := 0, cells := 0, slots := 0, locals := 0 }) (va_Pc [.ref (gk g k)] (sdR g [])) (vp_Si (fun r => r = 1)) 0 0 (fun _ => False) := by
  refine va_MetF (cc := b_JS_isLatin1) (maxL := 1) (ret := (some .boolean)) (by decide +kernel) rfl ?_
  intro p e s m args below meth c s₁ B hml hv
  obtain ⟨rfl, hP, hK, hE⟩ := hv
  have hx := B.exec
  have hb := B.bytes
  have hr := B.returns
  have hts := fun (w : Cond) (h : w ∈ sdT) => atoms_spec (ws := (.code y_JS_isLatin1 b_JS_isLatin1 1 (some .boolean) :: sdT)) B.pre w (List.mem_cons_of_mem _ h)
  have hown : s.vm.findClass "java/lang/String" = some m.cls := findClass_of_methodNamed B.named
  have hlocks := B.notSynchronized
  have hF : ∀ a : Nat, a < s.heap.size → ¬ sdA g a → s.heap[a]? = s.heap[a]? := fun _ _ _ => rfl
  have hP : sdP g [] s.heap := hP
  have hl := lv_entry ([.ref (gk g k)]) (n := 1) (Nat.le_of_ble_eq_true rfl)
  rw [lg_entry_eq]
  generalize (lg_sl ([.ref (gk g k)]) ++ List.replicate (1 - (lg_sl ([.ref (gk g k)])).length) Slot.unset).toArray = ls at hl ⊢
  have hl : lv_has ls 1 [(0, .ref (gk g k))] := hl
  have hS0 : va_S (sdA g) s.heap s.heap [] := va_S.rf
  refine va_gets hx hb (v := .int 1) hE.1 hS0 hown (hts _ k_261) (fun _ h9 => h9) d_JS_isLatin1_0 ?_
  refine lv_if_eq (tgt := 17) hx hb d_JS_isLatin1_3 (by decide) (fun c1 => ?_) (fun c1 => ?_)
  · exact absurd c1 (by decide)
  · refine lv_aload_n hx hb d_JS_isLatin1_6 rfl (lv_at hl 0 rfl) ?_
    refine vk_getf hx hb (v := .int 0) (hE.2.2.2.2.2.1.1 k hk).2.1 hS0 hown (hts _ k_659) (fun _ h9 => h9) d_JS_isLatin1_7 ?_
    refine lv_if_ne (tgt := 17) hx hb d_JS_isLatin1_10 (by decide) (fun c2 => ?_) (fun c2 => ?_)
    · exact absurd rfl c2
    · refine lv_iconst (v := (nI 1)) hx hb d_JS_isLatin1_13 (by decide) ?_
      refine lv_goto (tgt := 18) hx hb d_JS_isLatin1_14 (by decide) ?_
      exact W.zret (v := (nI 1)) hx hb hr (by first | rfl | decide | exact (sd_cn_ok k hk i hi).2.2) (fun t ht hW => ⟨_, rfl, rfl, ht⟩) (fun _ h => by cases h) d_JS_isLatin1_18
set_option maxHeartbeats 4000000 in
set_option maxRecDepth 100000 in
/-- length() of a literal -/
theorem c_JS_length (l : Launch) (g : sdG) (k : Nat) (hk : k < 5) : Met l y_JS_length (.code y_JS_length b_JS_length 1 (some .int) :: sdT) ({ frames := 1, cells := 0, slots := 0, locals := 20 }) (va_Pc [.ref (gk g k)] (sdR g [])) (vp_Si (fun r => r = nI (sd_len.getD k 0))) 0 0 (fun _ => False) := by
  refine va_MetF (cc := b_JS_length) (maxL := 1) (ret := (some .int)) (by decide +kernel) rfl ?_
  intro p e s m args below meth c s₁ B hml hv
  obtain ⟨rfl, hP, hK, hE⟩ := hv
  have hx := B.exec
  have hb := B.bytes
  have hr := B.returns
  have hts := fun (w : Cond) (h : w ∈ sdT) => atoms_spec (ws := (.code y_JS_length b_JS_length 1 (some .int) :: sdT)) B.pre w (List.mem_cons_of_mem _ h)
  have hown : s.vm.findClass "java/lang/String" = some m.cls := findClass_of_methodNamed B.named
  have hlocks := B.notSynchronized
  have hF : ∀ a : Nat, a < s.heap.size → ¬ sdA g a → s.heap[a]? = s.heap[a]? := fun _ _ _ => rfl
  have hP : sdP g [] s.heap := hP
  have hl := lv_entry ([.ref (gk g k)]) (n := 1) (Nat.le_of_ble_eq_true rfl)
  rw [lg_entry_eq]
  generalize (lg_sl ([.ref (gk g k)]) ++ List.replicate (1 - (lg_sl ([.ref (gk g k)])).length) Slot.unset).toArray = ls at hl ⊢
  have hl : lv_has ls 1 [(0, .ref (gk g k))] := hl
  have hS0 : va_S (sdA g) s.heap s.heap [] := va_S.rf
  refine lv_aload_n hx hb d_JS_length_0 rfl (lv_at hl 0 rfl) ?_
  refine vk_getf hx hb (v := .ref (gv g k)) (hE.2.2.2.2.2.1.1 k hk).2.2.1 hS0 hown (hts _ k_658) (fun _ h9 => h9) d_JS_length_1 ?_
  refine va_tlen hx hb (hE.2.2.2.2.2.1.1 k hk).2.2.2 hS0 (v := nI (sd_len.getD k 0)) rfl d_JS_length_4 ?_
  refine lv_aload_n hx hb d_JS_length_5 rfl (lv_at hl 0 rfl) ?_
  refine sd_ri (va_runV (As := []) (rest := [.int (nI (sd_len.getD k 0))]) ⟨hx, hb, hml, hown, hts⟩ (c_JS_coder l g k hk) (cwV 0 hts (sd_gV k_257 k_258 k_259 k_31 k_260) rfl rfl rfl (by decide +kernel) ⟨Nat.le_of_ble_eq_true rfl, Nat.le_of_ble_eq_true rfl⟩) (sd_preStr hK hE hF hk) rfl rfl hl.1 rfl (lv_room (Nat.le_of_ble_eq_true rfl)) d_JS_length_6 ⟨Nat.zero_le _, Nat.zero_le _⟩) (fun r1 er1 => ?_)
  subst er1
  refine lv_ishr hx hb d_JS_length_9 ?_
  refine sd_topi (y := nI (sd_len.getD k 0)) (sb_shr0 _) ?_
  exact W.iret (v := (nI (sd_len.getD k 0))) hx hb hr (fun t ht hW => ⟨_, rfl, rfl, ht⟩) (fun _ h => by cases h) d_JS_length_10
set_option maxHeartbeats 4000000 in
set_option maxRecDepth 100000 in
/-- checkIndex(i, L, f) -/
theorem c_JP_ci0 (l : Launch) (i L : Nat) (hi : i < L) (hL : L < 2 ^ 31) : Met l y_JP_checkIndex (.code y_JP_checkIndex b_JP_checkIndex 3 (some .int) :: sdT) ({ frames := 0, cells := 0, slots := 0, locals := 0 }) (fun v _ => v = ([.int (nI i), .int (nI L), .null] : List Value).toArray) (vp_Si (fun r => True)) 0 0 (fun _ => False) := by
  refine va_MetF (cc := b_JP_checkIndex) (maxL := 3) (ret := (some .int)) (by decide +kernel) rfl ?_
  intro p e s m args below meth c s₁ B hml hv
  subst hv
  have hx := B.exec
  have hb := B.bytes
  have hr := B.returns
  have hlocks := B.notSynchronized
  have hl := lv_entry ([.int (nI i), .int (nI L), .null]) (n := 3) (Nat.le_of_ble_eq_true rfl)
  rw [lg_entry_eq]
  generalize (lg_sl ([.int (nI i), .int (nI L), .null]) ++ List.replicate (3 - (lg_sl ([.int (nI i), .int (nI L), .null])).length) Slot.unset).toArray = ls at hl ⊢
  have hl : lv_has ls 3 [(0, .int (nI i)), (1, .int (nI L)), (2, .null)] := hl
  refine lv_iload_n hx hb d_JP_checkIndex_0 rfl (lv_at hl 0 rfl) ?_
  refine lv_if_lt (tgt := 9) hx hb d_JP_checkIndex_1 (by decide) (fun c1 => ?_) (fun c1 => ?_)
  · exact absurd c1 (nI_pos (by omega))
  · refine lv_iload_n hx hb d_JP_checkIndex_4 rfl (lv_at hl 0 rfl) ?_
    refine lv_iload_n hx hb d_JP_checkIndex_5 rfl (lv_at hl 1 rfl) ?_
    refine lv_icmp_lt (tgt := 16) hx hb d_JP_checkIndex_6 (by decide) (fun c2 => ?_) (fun c2 => ?_)
    · refine lv_iload_n hx hb d_JP_checkIndex_16 rfl (lv_at hl 0 rfl) ?_
      exact W.iret (v := (nI i)) hx hb hr (fun t ht hW => ⟨_, rfl, trivial, ht⟩) (fun _ h => by cases h) d_JP_checkIndex_17
    · exact absurd (nI_lt hi hL) c2
set_option maxHeartbeats 4000000 in
set_option maxRecDepth 100000 in
/-- checkIndex(i, L, f) -/
theorem c_JP_ci1 (l : Launch) (t0 : Nat) (i L : Nat) (hi : i < L) (hL : L < 2 ^ 31) : Met l y_JP_checkIndex (.code y_JP_checkIndex b_JP_checkIndex 3 (some .int) :: sdT) ({ frames := 0, cells := 0, slots := 0, locals := 0 }) (fun v _ => v = ([.int (nI i), .int (nI L), .ref t0] : List Value).toArray) (vp_Si (fun r => True)) 0 0 (fun _ => False) := by
  refine va_MetF (cc := b_JP_checkIndex) (maxL := 3) (ret := (some .int)) (by decide +kernel) rfl ?_
  intro p e s m args below meth c s₁ B hml hv
  subst hv
  have hx := B.exec
  have hb := B.bytes
  have hr := B.returns
  have hlocks := B.notSynchronized
  have hl := lv_entry ([.int (nI i), .int (nI L), .ref t0]) (n := 3) (Nat.le_of_ble_eq_true rfl)
  rw [lg_entry_eq]
  generalize (lg_sl ([.int (nI i), .int (nI L), .ref t0]) ++ List.replicate (3 - (lg_sl ([.int (nI i), .int (nI L), .ref t0])).length) Slot.unset).toArray = ls at hl ⊢
  have hl : lv_has ls 3 [(0, .int (nI i)), (1, .int (nI L)), (2, .ref t0)] := hl
  refine lv_iload_n hx hb d_JP_checkIndex_0 rfl (lv_at hl 0 rfl) ?_
  refine lv_if_lt (tgt := 9) hx hb d_JP_checkIndex_1 (by decide) (fun c1 => ?_) (fun c1 => ?_)
  · exact absurd c1 (nI_pos (by omega))
  · refine lv_iload_n hx hb d_JP_checkIndex_4 rfl (lv_at hl 0 rfl) ?_
    refine lv_iload_n hx hb d_JP_checkIndex_5 rfl (lv_at hl 1 rfl) ?_
    refine lv_icmp_lt (tgt := 16) hx hb d_JP_checkIndex_6 (by decide) (fun c2 => ?_) (fun c2 => ?_)
    · refine lv_iload_n hx hb d_JP_checkIndex_16 rfl (lv_at hl 0 rfl) ?_
      exact W.iret (v := (nI i)) hx hb hr (fun t ht hW => ⟨_, rfl, trivial, ht⟩) (fun _ h => by cases h) d_JP_checkIndex_17
    · exact absurd (nI_lt hi hL) c2
set_option maxHeartbeats 4000000 in
set_option maxRecDepth 100000 in
/-- checkIndex(i, L) -/
theorem c_JS_checkIndex (l : Launch) (g : sdG) (i L : Nat) (hi : i < L) (hL : L < 2 ^ 31) : Met l y_JS_checkIndex (.code y_JS_checkIndex b_JS_checkIndex 2 none :: sdT) ({ frames := 1, cells := 0, slots := 0, locals := 22 }) (va_Pc [.int (nI i), .int (nI L)] (sdR g [])) (va_Sv (fun _ => True)) 0 0 (fun _ => False) := by
  refine va_MetF (cc := b_JS_checkIndex) (maxL := 2) (ret := none) (by decide +kernel) rfl ?_
  intro p e s m args below meth c s₁ B hml hv
  obtain ⟨rfl, hP, hK, hE⟩ := hv
  have hx := B.exec
  have hb := B.bytes
  have hr := B.returns
  have hts := fun (w : Cond) (h : w ∈ sdT) => atoms_spec (ws := (.code y_JS_checkIndex b_JS_checkIndex 2 none :: sdT)) B.pre w (List.mem_cons_of_mem _ h)
  have hown : s.vm.findClass "java/lang/String" = some m.cls := findClass_of_methodNamed B.named
  have hlocks := B.notSynchronized
  have hF : ∀ a : Nat, a < s.heap.size → ¬ sdA g a → s.heap[a]? = s.heap[a]? := fun _ _ _ => rfl
  have hP : sdP g [] s.heap := hP
  have hl := lv_entry ([.int (nI i), .int (nI L)]) (n := 2) (Nat.le_of_ble_eq_true rfl)
  rw [lg_entry_eq]
  generalize (lg_sl ([.int (nI i), .int (nI L)]) ++ List.replicate (2 - (lg_sl ([.int (nI i), .int (nI L)])).length) Slot.unset).toArray = ls at hl ⊢
  have hl : lv_has ls 2 [(0, .int (nI i)), (1, .int (nI L))] := hl
  have hS0 : va_S (sdA g) s.heap s.heap [] := va_S.rf
  refine lv_iload_n hx hb d_JS_checkIndex_0 rfl (lv_at hl 0 rfl) ?_
  refine lv_iload_n hx hb d_JS_checkIndex_1 rfl (lv_at hl 1 rfl) ?_
  rcases hE.2.1 with hZ | ⟨t0, hZ⟩
  · refine va_gets hx hb (v := .null) hZ hS0 hown (hts _ k_277) (fun _ h9 => h9) d_JS_checkIndex_2 ?_
    refine sd_ri (va_runS (As := [.int (nI i), .int (nI L), .null]) (rest := []) ⟨hx, hb, hml, hown, hts⟩ (c_JP_ci0 l i L hi hL) (va_cwS 3 hts (sd_gS k_279 k_280 k_33 k_281) rfl rfl rfl (by decide +kernel) ⟨Nat.le_of_ble_eq_true rfl, Nat.le_of_ble_eq_true rfl⟩) preEq rfl rfl hl.1 rfl (lv_room (Nat.le_of_ble_eq_true rfl)) d_JS_checkIndex_5 ⟨Nat.zero_le _, Nat.zero_le _⟩) (fun r1 er1 => ?_)
    refine lv_pop hx hb d_JS_checkIndex_8 rfl ?_
    exact W.vret hx hb hr (fun t ht hW => ⟨rfl, trivial, ht⟩) (fun _ h => by cases h) d_JS_checkIndex_9
  · refine va_gets hx hb (v := .ref t0) hZ hS0 hown (hts _ k_277) (fun _ h9 => h9) d_JS_checkIndex_2 ?_
    refine sd_ri (va_runS (As := [.int (nI i), .int (nI L), .ref t0]) (rest := []) ⟨hx, hb, hml, hown, hts⟩ (c_JP_ci1 l t0 i L hi hL) (va_cwS 3 hts (sd_gS k_279 k_280 k_33 k_281) rfl rfl rfl (by decide +kernel) ⟨Nat.le_of_ble_eq_true rfl, Nat.le_of_ble_eq_true rfl⟩) preEq rfl rfl hl.1 rfl (lv_room (Nat.le_of_ble_eq_true rfl)) d_JS_checkIndex_5 ⟨Nat.zero_le _, Nat.zero_le _⟩) (fun r2 er2 => ?_)
    refine lv_pop hx hb d_JS_checkIndex_8 rfl ?_
    exact W.vret hx hb hr (fun t ht hW => ⟨rfl, trivial, ht⟩) (fun _ h => by cases h) d_JS_checkIndex_9
set_option maxHeartbeats 4000000 in
set_option maxRecDepth 100000 in
/-- charAt(value, i) -/
theorem c_JL_charAt (l : Launch) (g : sdG) (k : Nat) (hk : k < 5) (i : Nat) (hi : i < sd_len.getD k 0) : Met l y_JL_charAt (.code y_JL_charAt b_JL_charAt 2 (some .char) :: sdT) ({ frames := 2, cells := 0, slots := 0, locals := 43 }) (va_Pc [.ref (gv g k), .int (nI i)] (sdR g [])) (vp_Si (fun r => r = nI (sd_cn k i))) 0 0 (fun _ => False) := by
  refine va_MetF (cc := b_JL_charAt) (maxL := 2) (ret := (some .char)) (by decide +kernel) rfl ?_
  intro p e s m args below meth c s₁ B hml hv
  obtain ⟨rfl, hP, hK, hE⟩ := hv
  have hx := B.exec
  have hb := B.bytes
  have hr := B.returns
  have hts := fun (w : Cond) (h : w ∈ sdT) => atoms_spec (ws := (.code y_JL_charAt b_JL_charAt 2 (some .char) :: sdT)) B.pre w (List.mem_cons_of_mem _ h)
  have hown : s.vm.findClass "java/lang/StringLatin1" = some m.cls := findClass_of_methodNamed B.named
  have hlocks := B.notSynchronized
  have hF : ∀ a : Nat, a < s.heap.size → ¬ sdA g a → s.heap[a]? = s.heap[a]? := fun _ _ _ => rfl
  have hP : sdP g [] s.heap := hP
  have hl := lv_entry ([.ref (gv g k), .int (nI i)]) (n := 2) (Nat.le_of_ble_eq_true rfl)
  rw [lg_entry_eq]
  generalize (lg_sl ([.ref (gv g k), .int (nI i)]) ++ List.replicate (2 - (lg_sl ([.ref (gv g k), .int (nI i)])).length) Slot.unset).toArray = ls at hl ⊢
  have hl : lv_has ls 2 [(0, .ref (gv g k)), (1, .int (nI i))] := hl
  have hS0 : va_S (sdA g) s.heap s.heap [] := va_S.rf
  have hln := (sd_ln_ok k hk).2
  refine lv_iload_n hx hb d_JL_charAt_0 rfl (lv_at hl 1 rfl) ?_
  refine lv_aload_n hx hb d_JL_charAt_1 rfl (lv_at hl 0 rfl) ?_
  refine va_tlen hx hb (hE.2.2.2.2.2.1.1 k hk).2.2.2 hS0 (v := nI (sd_len.getD k 0)) rfl d_JL_charAt_2 ?_
  refine sd_rv (va_runS (As := [.int (nI i), .int (nI (sd_len.getD k 0))]) (rest := []) ⟨hx, hb, hml, hown, hts⟩ (c_JS_checkIndex l g i (sd_len.getD k 0) hi (by omega)) (va_cwS 2 hts (sd_gS k_274 k_275 k_31 k_276) rfl rfl rfl (by decide +kernel) ⟨Nat.le_of_ble_eq_true rfl, Nat.le_of_ble_eq_true rfl⟩) (sd_preS hK hE hF (hP.sub (ws' := []) [] rfl)) rfl rfl hl.1 rfl (lv_room (Nat.le_of_ble_eq_true rfl)) d_JL_charAt_3 ⟨Nat.zero_le _, Nat.zero_le _⟩) ?_
  refine lv_aload_n hx hb d_JL_charAt_6 rfl (lv_at hl 0 rfl) ?_
  refine lv_iload_n hx hb d_JL_charAt_7 rfl (lv_at hl 1 rfl) ?_
  refine va_tb hx hb (hE.2.2.2.2.2.1.1 k hk).2.2.2 hS0 (i := nI i) (vp_in_nI hi (by omega)) (v := .int ((sd_byt.getD k []).getD i 0)) (by rw [nI_clamp (by omega)]) d_JL_charAt_8 ?_
  refine lv_sipush (v := (nI 255)) hx hb d_JL_charAt_9 (by decide) ?_
  refine lv_iand hx hb d_JL_charAt_12 ?_
  refine lv_i2c hx hb d_JL_charAt_13 rfl ?_
  refine sd_topi (y := nI (sd_cn k i)) ((sd_cn_ok k hk i hi).1) ?_
  exact W.zret (v := (nI (sd_cn k i))) hx hb hr (by first | rfl | decide | exact (sd_cn_ok k hk i hi).2.2) (fun t ht hW => ⟨_, rfl, rfl, ht⟩) (fun _ h => by cases h) d_JL_charAt_14
set_option maxHeartbeats 4000000 in
set_option maxRecDepth 100000 in
/-- charAt(i) of a literal -/
theorem c_JS_charAt (l : Launch) (g : sdG) (k : Nat) (hk : k < 5) (i : Nat) (hi : i < sd_len.getD k 0) : Met l y_JS_charAt (.code y_JS_charAt b_JS_charAt 2 (some .char) :: sdT) ({ frames := 3, cells := 0, slots := 0, locals := 64 }) (va_Pc [.ref (gk g k), .int (nI i)] (sdR g [])) (vp_Si (fun r => r = nI (sd_cn k i))) 0 0 (fun _ => False) := by
  refine va_MetF (cc := b_JS_charAt) (maxL := 2) (ret := (some .char)) (by decide +kernel) rfl ?_
  intro p e s m args below meth c s₁ B hml hv
  obtain ⟨rfl, hP, hK, hE⟩ := hv
  have hx := B.exec
  have hb := B.bytes
  have hr := B.returns
  have hts := fun (w : Cond) (h : w ∈ sdT) => atoms_spec (ws := (.code y_JS_charAt b_JS_charAt 2 (some .char) :: sdT)) B.pre w (List.mem_cons_of_mem _ h)
  have hown : s.vm.findClass "java/lang/String" = some m.cls := findClass_of_methodNamed B.named
  have hlocks := B.notSynchronized
  have hF : ∀ a : Nat, a < s.heap.size → ¬ sdA g a → s.heap[a]? = s.heap[a]? := fun _ _ _ => rfl
  have hP : sdP g [] s.heap := hP
  have hl := lv_entry ([.ref (gk g k), .int (nI i)]) (n := 2) (Nat.le_of_ble_eq_true rfl)
  rw [lg_entry_eq]
  generalize (lg_sl ([.ref (gk g k), .int (nI i)]) ++ List.replicate (2 - (lg_sl ([.ref (gk g k), .int (nI i)])).length) Slot.unset).toArray = ls at hl ⊢
  have hl : lv_has ls 2 [(0, .ref (gk g k)), (1, .int (nI i))] := hl
  have hS0 : va_S (sdA g) s.heap s.heap [] := va_S.rf
  refine lv_aload_n hx hb d_JS_charAt_0 rfl (lv_at hl 0 rfl) ?_
  refine sd_ri (va_runV (As := []) (rest := []) ⟨hx, hb, hml, hown, hts⟩ (c_JS_isLatin1 l g k hk) (cwV 0 hts (sd_gV k_267 k_268 k_269 k_31 k_270) rfl rfl rfl (by decide +kernel) ⟨Nat.le_of_ble_eq_true rfl, Nat.le_of_ble_eq_true rfl⟩) (sd_preStr hK hE hF hk) rfl rfl hl.1 rfl (lv_room (Nat.le_of_ble_eq_true rfl)) d_JS_charAt_1 ⟨Nat.zero_le _, Nat.zero_le _⟩) (fun r1 er1 => ?_)
  subst er1
  refine lv_if_eq (tgt := 16) hx hb d_JS_charAt_4 (by decide) (fun c2 => ?_) (fun c2 => ?_)
  · exact absurd c2 (by decide)
  · refine lv_aload_n hx hb d_JS_charAt_7 rfl (lv_at hl 0 rfl) ?_
    refine vk_getf hx hb (v := .ref (gv g k)) (hE.2.2.2.2.2.1.1 k hk).2.2.1 hS0 hown (hts _ k_658) (fun _ h9 => h9) d_JS_charAt_8 ?_
    refine lv_iload_n hx hb d_JS_charAt_11 rfl (lv_at hl 1 rfl) ?_
    refine sd_ri (va_runS (As := [.ref (gv g k), .int (nI i)]) (rest := []) ⟨hx, hb, hml, hown, hts⟩ (c_JL_charAt l g k hk i hi) (va_cwS 2 hts (sd_gS k_271 k_272 k_32 k_273) rfl rfl rfl (by decide +kernel) ⟨Nat.le_of_ble_eq_true rfl, Nat.le_of_ble_eq_true rfl⟩) (sd_preS hK hE hF (hP.sub (ws' := []) [] rfl)) rfl rfl hl.1 rfl (lv_room (Nat.le_of_ble_eq_true rfl)) d_JS_charAt_12 ⟨Nat.zero_le _, Nat.zero_le _⟩) (fun r3 er3 => ?_)
    subst er3
    exact W.zret (v := (nI (sd_cn k i))) hx hb hr (by first | rfl | decide | exact (sd_cn_ok k hk i hi).2.2) (fun t ht hW => ⟨_, rfl, rfl, ht⟩) (fun _ h => by cases h) d_JS_charAt_15
