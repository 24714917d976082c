theorem sd_knP {M : List Nat → Prop} {r : Int32} (h : (∀ j, j < 23 → nmF M (sd_nm.getD 0 []) 0 = nI j → r = sd_KN.getD j 0) ∧ (nmF M (sd_nm.getD 0 []) 0 < 0 → r = -1)) : r = nI (lk M sd_known) - 1 := by
  rw [sd_nm_k.1] at h
  rcases nmF_lk (M := M) sd_known 0 with ⟨e1, e2⟩ | ⟨j, hj, e1, e2⟩
  · rw [e2, h.2 (by rw [e1]; decide)]; decide
  · have hj : j < 23 := hj
    rw [Nat.zero_add] at e1
    rw [e2, nI_pred, h.1 j hj e1]
    exact sd_KN_ok j hj
theorem sd_cAP {M : List Nat → Prop} {r : Int32} (h : (∀ j, j < 18 → nmF M (sd_nm.getD 3 []) 0 = nI j → r = sd_BA.getD j 0) ∧ (nmF M (sd_nm.getD 3 []) 0 < 0 → r = -1)) : (r < 0 → lk M sd_cA = 0) ∧ (¬ r < 0 → nI 64 * r = nI (lk M sd_cA) - 1 ∧ ¬ lk M sd_cA = 0) := by
  rw [sd_nm_k.2.2.2.1] at h
  rcases nmF_lk (M := M) sd_cA 0 with ⟨e1, e2⟩ | ⟨j, hj, e1, e2⟩
  · refine ⟨fun _ => e2, fun h0 => absurd ?_ h0⟩
    rw [h.2 (by rw [e1]; decide)]; decide
  · have hj : j < 18 := hj
    rw [Nat.zero_add] at e1
    have e3 := h.1 j hj e1
    refine ⟨fun h0 => absurd (e3 ▸ h0) (sd_BA_ok j hj).2, fun _ => ⟨?_, by omega⟩⟩
    rw [e2, nI_pred, e3]
    exact (sd_BA_ok j hj).1
theorem sd_cMP {M : List Nat → Prop} {r : Int32} (h : (∀ j, j < 10 → nmF M (sd_nm.getD 4 []) 0 = nI j → r = sd_BM.getD j 0) ∧ (nmF M (sd_nm.getD 4 []) 0 < 0 → r = -1)) : (r < 0 → lk M sd_cM = 0) ∧ (¬ r < 0 → nI 4096 + nI 64 * r = nI (lk M sd_cM) - 1 ∧ ¬ lk M sd_cM = 0) := by
  rw [sd_nm_k.2.2.2.2] at h
  rcases nmF_lk (M := M) sd_cM 0 with ⟨e1, e2⟩ | ⟨j, hj, e1, e2⟩
  · refine ⟨fun _ => e2, fun h0 => absurd ?_ h0⟩
    rw [h.2 (by rw [e1]; decide)]; decide
  · have hj : j < 10 := hj
    rw [Nat.zero_add] at e1
    have e3 := h.1 j hj e1
    refine ⟨fun h0 => absurd (e3 ▸ h0) (sd_BM_ok j hj).2, fun _ => ⟨?_, by omega⟩⟩
    rw [e2, nI_pred, e3]
    exact (sd_BM_ok j hj).1
theorem sd_dsP {M : List Nat → Prop} : nI 1 + nmF M (sd_nm.getD 1 []) 0 = nI (lk M sd_dest) := by
  rw [sd_nm_k.2.1]
  rcases nmF_lk (M := M) sd_dest 0 with ⟨e1, e2⟩ | ⟨j, hj, e1, e2⟩
  · rw [e1, e2]; decide
  · have hj : j < 7 := hj
    rw [e1, e2, sd_dest_ix j hj, nI_add]; congr 1; omega
theorem sd_jpP {M : List Nat → Prop} : nI 1 + nmF M (sd_nm.getD 2 []) 0 = nI (lk M sd_jump) := by
  rw [sd_nm_k.2.2.1]
  rcases nmF_lk (M := M) sd_jump 0 with ⟨e1, e2⟩ | ⟨j, hj, e1, e2⟩
  · rw [e1, e2]; decide
  · have hj : j < 7 := hj
    rw [e1, e2, sd_jump_ix j hj, nI_add]; congr 1; omega
theorem m1_up {k : Nat} (h : ¬ k = 0) : nI k - 1 = nI (k - 1) := by
  obtain ⟨j, rfl⟩ : ∃ j, k = j + 1 := ⟨k - 1, by omega⟩
  rw [nI_pred]; rfl
theorem knK_le {tx : Nat → Nat} {a z : Nat} : knK tx a z ≤ 24577 := lk_le sd_known_lt
theorem spOther_g {tx : Nat → Nat} {a e q s ca D J C : Nat} {st : AS} (hq : oF tx 61 a e = q) (hs : oF tx 59 a e = s) (hca : ca = if q < e then q + 1 else a) (hD : D = if q < e then lk (nmM tx a q) sd_dest else 0) (hJ : J = if s < e then lk (nmM tx (s + 1) e) sd_jump else 0) (hC : C = lk (nmM tx ca s) sd_comp) :
    spOther tx a e st = if (q < e ∧ D = 0) ∨ (s < e ∧ J = 0) ∨ C = 0 then (1, st) else if 600 ≤ wn st then (2, st) else (0, pushW st (57344 + (C - 1) + 8 * D + J) 0) := by
  subst hq hs hca hC
  have h1 : (oF tx 61 a e < e ∧ D = 0) ↔ (oF tx 61 a e < e ∧ oD tx a e = 0) := by
    refine and_congr_right fun h => ?_
    rw [hD, if_pos h]; rfl
  have h2 : (oF tx 59 a e < e ∧ J = 0) ↔ (oF tx 59 a e < e ∧ oJ tx a e = 0) := by
    refine and_congr_right fun h => ?_
    rw [hJ, if_pos h]; rfl
  unfold spOther
  simp only [h1, h2]
  rw [hD, hJ]
  rfl
set_option maxHeartbeats 4000000 in
set_option maxRecDepth 100000 in
/-- numberIn -/
theorem c_Rdr_numberIn1 (l : Launch) (g : sdG) (x : Int32) : Met l y_Rdr_numberIn (.code y_Rdr_numberIn b_Rdr_numberIn 2 (some .int) :: sdT) ({ frames := 0, cells := 0, slots := 0, locals := 0 }) (va_Pc [.ref (gt1 g), .int x] (sdR g [])) (vp_Si (fun r => (∀ j, j < 23 → x = nI j → r = sd_KN.getD j 0) ∧ (x < 0 → r = -1))) 0 0 (fun _ => False) := by
  refine Met.ofW (cc := b_Rdr_numberIn) (maxL := 2) (ret := (some .int)) (by decide) rfl ?_
  intro p ev s m args below meth c s₁ B hml hv
  obtain ⟨rfl, hP, hK, hE⟩ := hv
  have hx := B.exec
  have hb := B.bytes
  have hr := B.returns
  have hts := fun (w : Cond) (h : w ∈ sdT) => atoms_spec (ws := (.code y_Rdr_numberIn b_Rdr_numberIn 2 (some .int) :: sdT)) B.pre w (List.mem_cons_of_mem _ h)
  have hown : s.vm.findClass "SignDesk$Reader" = some m.cls := findClass_of_methodNamed B.named
  have hlocks := B.notSynchronized
  have hF : ∀ a : Nat, a < s.heap.size → ¬ sdA g a → s.heap[a]? = s.heap[a]? := fun _ _ _ => rfl
  have hP : sdP g [] s.heap := hP
  have hl := lv_entry ([.ref (gt1 g), .int x]) (n := 2) (Nat.le_of_ble_eq_true rfl)
  rw [lg_entry_eq]
  generalize (lg_sl ([.ref (gt1 g), .int x]) ++ List.replicate (2 - (lg_sl ([.ref (gt1 g), .int x])).length) Slot.unset).toArray = ls at hl ⊢
  have hl : lv_has ls 2 [(0, .ref (gt1 g)), (1, .int x)] := hl
  have hS0 : va_S (sdA g) s.heap s.heap [] := va_S.rf
  refine lv_iload_n hx hb d_Rdr_numberIn_0 rfl (lv_at hl 1 rfl) ?_
  refine lv_if_lt (tgt := 16) hx hb d_Rdr_numberIn_1 (by decide) (fun c1 => ?_) (fun c1 => ?_)
  · refine lv_iconst (v := (-1)) hx hb d_Rdr_numberIn_16 (by decide) ?_
    exact W.iret (v := (-1)) hx hb hr  (fun t ht hW => ⟨_, rfl, ⟨fun j hj e => absurd (e ▸ c1) (nI_pos (by omega)), fun _ => rfl⟩, ht⟩) (fun _ h => by cases h) d_Rdr_numberIn_17
  · refine lv_iload_n hx hb d_Rdr_numberIn_4 rfl (lv_at hl 1 rfl) ?_
    refine lv_aload_n hx hb d_Rdr_numberIn_5 rfl (lv_at hl 0 rfl) ?_
    refine va_tlen hx hb hE.2.2.1.2 hS0 (v := nI 23) rfl d_Rdr_numberIn_6 ?_
    refine lv_icmp_ge (tgt := 16) hx hb d_Rdr_numberIn_7 (by decide) (fun c2 => ?_) (fun c2 => ?_)
    · refine lv_iconst (v := (-1)) hx hb d_Rdr_numberIn_16 (by decide) ?_
      exact W.iret (v := (-1)) hx hb hr  (fun t ht hW => ⟨_, rfl, ⟨fun j hj e => absurd (e ▸ c2) (nI_ge hj (by decide)), fun _ => rfl⟩, ht⟩) (fun _ h => by cases h) d_Rdr_numberIn_17
    · obtain ⟨j, hj, ej⟩ : ∃ j : Nat, j < 23 ∧ x = nI j := by
        rcases pk_ix x (n := 23) (by decide) with h | h | h
        · exact absurd h c1
        · exact absurd h c2
        · exact h
      refine lv_aload_n hx hb d_Rdr_numberIn_10 rfl (lv_at hl 0 rfl) ?_
      refine lv_iload_n hx hb d_Rdr_numberIn_11 rfl (lv_at hl 1 rfl) ?_
      refine va_ti hx hb hE.2.2.1.2 hS0 (i := x) (by rw [ej]; exact vp_in_nI hj (by decide)) (v := .int (sd_KN.getD j 0)) (by rw [ej, nI_clamp (by omega)]) d_Rdr_numberIn_12 ?_
      refine lv_goto (tgt := 17) hx hb d_Rdr_numberIn_13 (by decide) ?_
      exact W.iret (v := (sd_KN.getD j 0)) hx hb hr  (fun t ht hW => ⟨_, rfl, ⟨fun k hk e => by
          have : k = j := (nI_eq (by omega) (by omega)).mp (e.symm.trans ej)
          subst this; rfl, fun h => absurd h c1⟩, ht⟩) (fun _ h => by cases h) d_Rdr_numberIn_17
set_option maxHeartbeats 4000000 in
set_option maxRecDepth 100000 in
/-- numberIn -/
theorem c_Rdr_numberIn2 (l : Launch) (g : sdG) (x : Int32) : Met l y_Rdr_numberIn (.code y_Rdr_numberIn b_Rdr_numberIn 2 (some .int) :: sdT) ({ frames := 0, cells := 0, slots := 0, locals := 0 }) (va_Pc [.ref (gt2 g), .int x] (sdR g [])) (vp_Si (fun r => (∀ j, j < 18 → x = nI j → r = sd_BA.getD j 0) ∧ (x < 0 → r = -1))) 0 0 (fun _ => False) := by
  refine Met.ofW (cc := b_Rdr_numberIn) (maxL := 2) (ret := (some .int)) (by decide) rfl ?_
  intro p ev s m args below meth c s₁ B hml hv
  obtain ⟨rfl, hP, hK, hE⟩ := hv
  have hx := B.exec
  have hb := B.bytes
  have hr := B.returns
  have hts := fun (w : Cond) (h : w ∈ sdT) => atoms_spec (ws := (.code y_Rdr_numberIn b_Rdr_numberIn 2 (some .int) :: sdT)) B.pre w (List.mem_cons_of_mem _ h)
  have hown : s.vm.findClass "SignDesk$Reader" = some m.cls := findClass_of_methodNamed B.named
  have hlocks := B.notSynchronized
  have hF : ∀ a : Nat, a < s.heap.size → ¬ sdA g a → s.heap[a]? = s.heap[a]? := fun _ _ _ => rfl
  have hP : sdP g [] s.heap := hP
  have hl := lv_entry ([.ref (gt2 g), .int x]) (n := 2) (Nat.le_of_ble_eq_true rfl)
  rw [lg_entry_eq]
  generalize (lg_sl ([.ref (gt2 g), .int x]) ++ List.replicate (2 - (lg_sl ([.ref (gt2 g), .int x])).length) Slot.unset).toArray = ls at hl ⊢
  have hl : lv_has ls 2 [(0, .ref (gt2 g)), (1, .int x)] := hl
  have hS0 : va_S (sdA g) s.heap s.heap [] := va_S.rf
  refine lv_iload_n hx hb d_Rdr_numberIn_0 rfl (lv_at hl 1 rfl) ?_
  refine lv_if_lt (tgt := 16) hx hb d_Rdr_numberIn_1 (by decide) (fun c1 => ?_) (fun c1 => ?_)
  · refine lv_iconst (v := (-1)) hx hb d_Rdr_numberIn_16 (by decide) ?_
    exact W.iret (v := (-1)) hx hb hr  (fun t ht hW => ⟨_, rfl, ⟨fun j hj e => absurd (e ▸ c1) (nI_pos (by omega)), fun _ => rfl⟩, ht⟩) (fun _ h => by cases h) d_Rdr_numberIn_17
  · refine lv_iload_n hx hb d_Rdr_numberIn_4 rfl (lv_at hl 1 rfl) ?_
    refine lv_aload_n hx hb d_Rdr_numberIn_5 rfl (lv_at hl 0 rfl) ?_
    refine va_tlen hx hb hE.2.2.2.1.2 hS0 (v := nI 18) rfl d_Rdr_numberIn_6 ?_
    refine lv_icmp_ge (tgt := 16) hx hb d_Rdr_numberIn_7 (by decide) (fun c2 => ?_) (fun c2 => ?_)
    · refine lv_iconst (v := (-1)) hx hb d_Rdr_numberIn_16 (by decide) ?_
      exact W.iret (v := (-1)) hx hb hr  (fun t ht hW => ⟨_, rfl, ⟨fun j hj e => absurd (e ▸ c2) (nI_ge hj (by decide)), fun _ => rfl⟩, ht⟩) (fun _ h => by cases h) d_Rdr_numberIn_17
    · obtain ⟨j, hj, ej⟩ : ∃ j : Nat, j < 18 ∧ x = nI j := by
        rcases pk_ix x (n := 18) (by decide) with h | h | h
        · exact absurd h c1
        · exact absurd h c2
        · exact h
      refine lv_aload_n hx hb d_Rdr_numberIn_10 rfl (lv_at hl 0 rfl) ?_
      refine lv_iload_n hx hb d_Rdr_numberIn_11 rfl (lv_at hl 1 rfl) ?_
      refine va_ti hx hb hE.2.2.2.1.2 hS0 (i := x) (by rw [ej]; exact vp_in_nI hj (by decide)) (v := .int (sd_BA.getD j 0)) (by rw [ej, nI_clamp (by omega)]) d_Rdr_numberIn_12 ?_
      refine lv_goto (tgt := 17) hx hb d_Rdr_numberIn_13 (by decide) ?_
      exact W.iret (v := (sd_BA.getD j 0)) hx hb hr  (fun t ht hW => ⟨_, rfl, ⟨fun k hk e => by
          have : k = j := (nI_eq (by omega) (by omega)).mp (e.symm.trans ej)
          subst this; rfl, fun h => absurd h c1⟩, ht⟩) (fun _ h => by cases h) d_Rdr_numberIn_17
set_option maxHeartbeats 4000000 in
set_option maxRecDepth 100000 in
/-- numberIn -/
theorem c_Rdr_numberIn3 (l : Launch) (g : sdG) (x : Int32) : Met l y_Rdr_numberIn (.code y_Rdr_numberIn b_Rdr_numberIn 2 (some .int) :: sdT) ({ frames := 0, cells := 0, slots := 0, locals := 0 }) (va_Pc [.ref (gt3 g), .int x] (sdR g [])) (vp_Si (fun r => (∀ j, j < 10 → x = nI j → r = sd_BM.getD j 0) ∧ (x < 0 → r = -1))) 0 0 (fun _ => False) := by
  refine Met.ofW (cc := b_Rdr_numberIn) (maxL := 2) (ret := (some .int)) (by decide) rfl ?_
  intro p ev s m args below meth c s₁ B hml hv
  obtain ⟨rfl, hP, hK, hE⟩ := hv
  have hx := B.exec
  have hb := B.bytes
  have hr := B.returns
  have hts := fun (w : Cond) (h : w ∈ sdT) => atoms_spec (ws := (.code y_Rdr_numberIn b_Rdr_numberIn 2 (some .int) :: sdT)) B.pre w (List.mem_cons_of_mem _ h)
  have hown : s.vm.findClass "SignDesk$Reader" = some m.cls := findClass_of_methodNamed B.named
  have hlocks := B.notSynchronized
  have hF : ∀ a : Nat, a < s.heap.size → ¬ sdA g a → s.heap[a]? = s.heap[a]? := fun _ _ _ => rfl
  have hP : sdP g [] s.heap := hP
  have hl := lv_entry ([.ref (gt3 g), .int x]) (n := 2) (Nat.le_of_ble_eq_true rfl)
  rw [lg_entry_eq]
  generalize (lg_sl ([.ref (gt3 g), .int x]) ++ List.replicate (2 - (lg_sl ([.ref (gt3 g), .int x])).length) Slot.unset).toArray = ls at hl ⊢
  have hl : lv_has ls 2 [(0, .ref (gt3 g)), (1, .int x)] := hl
  have hS0 : va_S (sdA g) s.heap s.heap [] := va_S.rf
  refine lv_iload_n hx hb d_Rdr_numberIn_0 rfl (lv_at hl 1 rfl) ?_
  refine lv_if_lt (tgt := 16) hx hb d_Rdr_numberIn_1 (by decide) (fun c1 => ?_) (fun c1 => ?_)
  · refine lv_iconst (v := (-1)) hx hb d_Rdr_numberIn_16 (by decide) ?_
    exact W.iret (v := (-1)) hx hb hr  (fun t ht hW => ⟨_, rfl, ⟨fun j hj e => absurd (e ▸ c1) (nI_pos (by omega)), fun _ => rfl⟩, ht⟩) (fun _ h => by cases h) d_Rdr_numberIn_17
  · refine lv_iload_n hx hb d_Rdr_numberIn_4 rfl (lv_at hl 1 rfl) ?_
    refine lv_aload_n hx hb d_Rdr_numberIn_5 rfl (lv_at hl 0 rfl) ?_
    refine va_tlen hx hb hE.2.2.2.2.1.2 hS0 (v := nI 10) rfl d_Rdr_numberIn_6 ?_
    refine lv_icmp_ge (tgt := 16) hx hb d_Rdr_numberIn_7 (by decide) (fun c2 => ?_) (fun c2 => ?_)
    · refine lv_iconst (v := (-1)) hx hb d_Rdr_numberIn_16 (by decide) ?_
      exact W.iret (v := (-1)) hx hb hr  (fun t ht hW => ⟨_, rfl, ⟨fun j hj e => absurd (e ▸ c2) (nI_ge hj (by decide)), fun _ => rfl⟩, ht⟩) (fun _ h => by cases h) d_Rdr_numberIn_17
    · obtain ⟨j, hj, ej⟩ : ∃ j : Nat, j < 10 ∧ x = nI j := by
        rcases pk_ix x (n := 10) (by decide) with h | h | h
        · exact absurd h c1
        · exact absurd h c2
        · exact h
      refine lv_aload_n hx hb d_Rdr_numberIn_10 rfl (lv_at hl 0 rfl) ?_
      refine lv_iload_n hx hb d_Rdr_numberIn_11 rfl (lv_at hl 1 rfl) ?_
      refine va_ti hx hb hE.2.2.2.2.1.2 hS0 (i := x) (by rw [ej]; exact vp_in_nI hj (by decide)) (v := .int (sd_BM.getD j 0)) (by rw [ej, nI_clamp (by omega)]) d_Rdr_numberIn_12 ?_
      refine lv_goto (tgt := 17) hx hb d_Rdr_numberIn_13 (by decide) ?_
      exact W.iret (v := (sd_BM.getD j 0)) hx hb hr  (fun t ht hW => ⟨_, rfl, ⟨fun k hk e => by
          have : k = j := (nI_eq (by omega) (by omega)).mp (e.symm.trans ej)
          subst this; rfl, fun h => absurd h c1⟩, ht⟩) (fun _ h => by cases h) d_Rdr_numberIn_17
set_option maxHeartbeats 4000000 in
set_option maxRecDepth 100000 in
/-- knownNumber -/
theorem c_Rdr_knownNumber (l : Launch) (g : sdG) (q3 q1 q2 q7 q5 n : Nat) (fp : Int32) (f : Nat → Int32) (tx : Nat → Nat) (hT : TXok n f tx) (a z : Nat) (ha : a ≤ 2001) (hz : z ≤ 2001) : Met l y_Rdr_knownNumber (.code y_Rdr_knownNumber b_Rdr_knownNumber 3 (some .int) :: sdT) ({ frames := 5, cells := 0, slots := 0, locals := 112 }) (va_Pc [.ref q3, .int (nI a), .int (nI z)] (sdR g [(q3, .inr (4, [.ref q1, .ref q2, .ref q7, .int fp])), (q1, .inr (6, [.ref q5, .int (nI n)])), (q5, .inl (gB g, 2000, .inl f))])) (vp_Si (fun r => r = nI (knK tx a z) - 1)) 0 0 (fun _ => False) := by
  refine Met.ofW (cc := b_Rdr_knownNumber) (maxL := 3) (ret := (some .int)) (by decide) rfl ?_
  intro p ev s m args below meth c s₁ B hml hv
  obtain ⟨rfl, hP, hK, hE⟩ := hv
  have hx := B.exec
  have hb := B.bytes
  have hr := B.returns
  have hts := fun (w : Cond) (h : w ∈ sdT) => atoms_spec (ws := (.code y_Rdr_knownNumber b_Rdr_knownNumber 3 (some .int) :: sdT)) B.pre w (List.mem_cons_of_mem _ h)
  have hown : s.vm.findClass "SignDesk$Reader" = some m.cls := findClass_of_methodNamed B.named
  have hlocks := B.notSynchronized
  have hF : ∀ a : Nat, a < s.heap.size → ¬ sdA g a → s.heap[a]? = s.heap[a]? := fun _ _ _ => rfl
  have hP : sdP g [(q3, .inr (4, [.ref q1, .ref q2, .ref q7, .int fp])), (q1, .inr (6, [.ref q5, .int (nI n)])), (q5, .inl (gB g, 2000, .inl f))] s.heap := hP
  have hl := lv_entry ([.ref q3, .int (nI a), .int (nI z)]) (n := 3) (Nat.le_of_ble_eq_true rfl)
  rw [lg_entry_eq]
  generalize (lg_sl ([.ref q3, .int (nI a), .int (nI z)]) ++ List.replicate (3 - (lg_sl ([.ref q3, .int (nI a), .int (nI z)])).length) Slot.unset).toArray = ls at hl ⊢
  have hl : lv_has ls 3 [(0, .ref q3), (1, .int (nI a)), (2, .int (nI z))] := hl
  have hS0 : va_S (sdA g) s.heap s.heap [] := va_S.rf
  have hn := hT.1
  refine va_gets hx hb (v := .ref (gt1 g)) hE.2.2.1.1 hS0 hown (hts _ k_246) (fun _ h9 => h9) d_Rdr_knownNumber_0 ?_
  refine lv_aload_n hx hb d_Rdr_knownNumber_3 rfl (lv_at hl 0 rfl) ?_
  refine va_get (D := g.1) (ci := 4) (v := .ref q1) (C := "SignDesk$Reader") (T := F_Rdr) (N := 4) hx hb hts in_Rdr hown hK hP 0 rfl rfl 0 (by decide) (hts _ k_101) (fun _ h9 => h9) rfl d_Rdr_knownNumber_4 ?_
  refine va_ldcS hx hb hown hE.2.2.2.2.2.2.1.1 d_Rdr_knownNumber_7 ?_
  refine lv_iload_n hx hb d_Rdr_knownNumber_9 rfl (lv_at hl 1 rfl) ?_
  refine lv_iload_n hx hb d_Rdr_knownNumber_10 rfl (lv_at hl 2 rfl) ?_
  refine sd_ri (va_runV (As := [.ref (gk g 0), .int (nI a), .int (nI z)]) (rest := [.ref (gt1 g)]) ⟨hx, hb, hml, hown, hts⟩ (c_Txt_nameAmong l g q1 q5 n f tx hT 0 (by decide) (a) (z) (by omega) (by omega)) (cwV 3 hts (sd_gV k_249 k_250 k_251 k_24 k_252) rfl rfl rfl (by decide +kernel) ⟨Nat.le_of_ble_eq_true rfl, Nat.le_of_ble_eq_true rfl⟩) (sd_preV hK hE hF (hP.sub (ws' := [(q1, .inr (6, [.ref q5, .int (nI n)])), (q5, .inl (gB g, 2000, .inl f))]) [1, 2] rfl) rfl rfl) rfl rfl hl.1 rfl (lv_room (Nat.le_of_ble_eq_true rfl)) d_Rdr_knownNumber_11 ⟨Nat.zero_le _, Nat.zero_le _⟩) (fun r1 er1 => ?_)
  subst er1
  refine sd_ri (va_runS (As := [.ref (gt1 g), .int (nmF (nmM tx (a) (z)) (sd_nm.getD 0 []) 0)]) (rest := []) ⟨hx, hb, hml, hown, hts⟩ (c_Rdr_numberIn1 l g (nmF (nmM tx a z) (sd_nm.getD 0 []) 0)) (va_cwS 2 hts (sd_gS k_301 k_302 k_26 k_303) rfl rfl rfl (by decide +kernel) ⟨Nat.le_of_ble_eq_true rfl, Nat.le_of_ble_eq_true rfl⟩) (sd_preS hK hE hF (hP.sub (ws' := []) [] rfl)) rfl rfl hl.1 rfl (lv_room (Nat.le_of_ble_eq_true rfl)) d_Rdr_knownNumber_14 ⟨Nat.zero_le _, Nat.zero_le _⟩) (fun r2 er2 => ?_)
  exact W.iret (v := r2) hx hb hr  (fun t ht hW => ⟨_, rfl, sd_knP er2, ht⟩) (fun _ h => by cases h) d_Rdr_knownNumber_17
set_option maxHeartbeats 4000000 in
set_option maxRecDepth 100000 in
/-- compBits -/
theorem c_Rdr_compBits (l : Launch) (g : sdG) (q3 q1 q2 q7 q5 n : Nat) (fp : Int32) (f : Nat → Int32) (tx : Nat → Nat) (hT : TXok n f tx) (a z : Nat) (ha : a ≤ 2001) (hz : z ≤ 2001) : Met l y_Rdr_compBits (.code y_Rdr_compBits b_Rdr_compBits 4 (some .int) :: sdT) ({ frames := 5, cells := 0, slots := 0, locals := 112 }) (va_Pc [.ref q3, .int (nI a), .int (nI z)] (sdR g [(q3, .inr (4, [.ref q1, .ref q2, .ref q7, .int fp])), (q1, .inr (6, [.ref q5, .int (nI n)])), (q5, .inl (gB g, 2000, .inl f))])) (vp_Si (fun r => r = nI (lk (nmM tx a z) sd_comp) - 1)) 0 0 (fun _ => False) := by
  refine Met.ofW (cc := b_Rdr_compBits) (maxL := 4) (ret := (some .int)) (by decide) rfl ?_
  intro p ev s m args below meth c s₁ B hml hv
  obtain ⟨rfl, hP, hK, hE⟩ := hv
  have hx := B.exec
  have hb := B.bytes
  have hr := B.returns
  have hts := fun (w : Cond) (h : w ∈ sdT) => atoms_spec (ws := (.code y_Rdr_compBits b_Rdr_compBits 4 (some .int) :: sdT)) B.pre w (List.mem_cons_of_mem _ h)
  have hown : s.vm.findClass "SignDesk$Reader" = some m.cls := findClass_of_methodNamed B.named
  have hlocks := B.notSynchronized
  have hF : ∀ a : Nat, a < s.heap.size → ¬ sdA g a → s.heap[a]? = s.heap[a]? := fun _ _ _ => rfl
  have hP : sdP g [(q3, .inr (4, [.ref q1, .ref q2, .ref q7, .int fp])), (q1, .inr (6, [.ref q5, .int (nI n)])), (q5, .inl (gB g, 2000, .inl f))] s.heap := hP
  have hl := lv_entry ([.ref q3, .int (nI a), .int (nI z)]) (n := 4) (Nat.le_of_ble_eq_true rfl)
  rw [lg_entry_eq]
  generalize (lg_sl ([.ref q3, .int (nI a), .int (nI z)]) ++ List.replicate (4 - (lg_sl ([.ref q3, .int (nI a), .int (nI z)])).length) Slot.unset).toArray = ls at hl ⊢
  have hl : lv_has ls 4 [(0, .ref q3), (1, .int (nI a)), (2, .int (nI z))] := hl
  have hS0 : va_S (sdA g) s.heap s.heap [] := va_S.rf
  have hn := hT.1
  refine va_gets hx hb (v := .ref (gt2 g)) hE.2.2.2.1.1 hS0 hown (hts _ k_352) (fun _ h9 => h9) d_Rdr_compBits_0 ?_
  refine lv_aload_n hx hb d_Rdr_compBits_3 rfl (lv_at hl 0 rfl) ?_
  refine va_get (D := g.1) (ci := 4) (v := .ref q1) (C := "SignDesk$Reader") (T := F_Rdr) (N := 4) hx hb hts in_Rdr hown hK hP 0 rfl rfl 0 (by decide) (hts _ k_101) (fun _ h9 => h9) rfl d_Rdr_compBits_4 ?_
  refine va_ldcS hx hb hown hE.2.2.2.2.2.2.1.2.2.2.1 d_Rdr_compBits_7 ?_
  refine lv_iload_n hx hb d_Rdr_compBits_9 rfl (lv_at hl 1 rfl) ?_
  refine lv_iload_n hx hb d_Rdr_compBits_10 rfl (lv_at hl 2 rfl) ?_
  refine sd_ri (va_runV (As := [.ref (gk g 3), .int (nI a), .int (nI z)]) (rest := [.ref (gt2 g)]) ⟨hx, hb, hml, hown, hts⟩ (c_Txt_nameAmong l g q1 q5 n f tx hT 3 (by decide) (a) (z) (by omega) (by omega)) (cwV 3 hts (sd_gV k_249 k_250 k_251 k_24 k_252) rfl rfl rfl (by decide +kernel) ⟨Nat.le_of_ble_eq_true rfl, Nat.le_of_ble_eq_true rfl⟩) (sd_preV hK hE hF (hP.sub (ws' := [(q1, .inr (6, [.ref q5, .int (nI n)])), (q5, .inl (gB g, 2000, .inl f))]) [1, 2] rfl) rfl rfl) rfl rfl hl.1 rfl (lv_room (Nat.le_of_ble_eq_true rfl)) d_Rdr_compBits_11 ⟨Nat.zero_le _, Nat.zero_le _⟩) (fun r1 er1 => ?_)
  subst er1
  refine sd_ri (va_runS (As := [.ref (gt2 g), .int (nmF (nmM tx (a) (z)) (sd_nm.getD 3 []) 0)]) (rest := []) ⟨hx, hb, hml, hown, hts⟩ (c_Rdr_numberIn2 l g (nmF (nmM tx a z) (sd_nm.getD 3 []) 0)) (va_cwS 2 hts (sd_gS k_301 k_302 k_26 k_303) rfl rfl rfl (by decide +kernel) ⟨Nat.le_of_ble_eq_true rfl, Nat.le_of_ble_eq_true rfl⟩) (sd_preS hK hE hF (hP.sub (ws' := []) [] rfl)) rfl rfl hl.1 rfl (lv_room (Nat.le_of_ble_eq_true rfl)) d_Rdr_compBits_14 ⟨Nat.zero_le _, Nat.zero_le _⟩) (fun r2 er2 => ?_)
  have hA1 := sd_cAP er2
  refine lv_istore_n (lv' := [(3, .int r2), (0, .ref q3), (1, .int (nI a)), (2, .int (nI z))]) hx hb d_Rdr_compBits_17 rfl hl (by decide) rfl (fun ls hl => ?_)
  refine lv_iload_n hx hb d_Rdr_compBits_18 rfl (lv_at hl 0 rfl) ?_
  refine lv_if_lt (tgt := 27) hx hb d_Rdr_compBits_19 (by decide) (fun c3 => ?_) (fun c3 => ?_)
  · have e0 := hA1.1 c3
    refine va_gets hx hb (v := .ref (gt3 g)) hE.2.2.2.2.1.1 hS0 hown (hts _ k_355) (fun _ h9 => h9) d_Rdr_compBits_27 ?_
    refine lv_aload_n hx hb d_Rdr_compBits_30 rfl (lv_at hl 1 rfl) ?_
    refine va_get (D := g.1) (ci := 4) (v := .ref q1) (C := "SignDesk$Reader") (T := F_Rdr) (N := 4) hx hb hts in_Rdr hown hK hP 0 rfl rfl 0 (by decide) (hts _ k_101) (fun _ h9 => h9) rfl d_Rdr_compBits_31 ?_
    refine va_ldcS hx hb hown hE.2.2.2.2.2.2.1.2.2.2.2 d_Rdr_compBits_34 ?_
    refine lv_iload_n hx hb d_Rdr_compBits_36 rfl (lv_at hl 2 rfl) ?_
    refine lv_iload_n hx hb d_Rdr_compBits_37 rfl (lv_at hl 3 rfl) ?_
    refine sd_ri (va_runV (As := [.ref (gk g 4), .int (nI a), .int (nI z)]) (rest := [.ref (gt3 g)]) ⟨hx, hb, hml, hown, hts⟩ (c_Txt_nameAmong l g q1 q5 n f tx hT 4 (by decide) (a) (z) (by omega) (by omega)) (cwV 3 hts (sd_gV k_249 k_250 k_251 k_24 k_252) rfl rfl rfl (by decide +kernel) ⟨Nat.le_of_ble_eq_true rfl, Nat.le_of_ble_eq_true rfl⟩) (sd_preV hK hE hF (hP.sub (ws' := [(q1, .inr (6, [.ref q5, .int (nI n)])), (q5, .inl (gB g, 2000, .inl f))]) [1, 2] rfl) rfl rfl) rfl rfl hl.1 rfl (lv_room (Nat.le_of_ble_eq_true rfl)) d_Rdr_compBits_38 ⟨Nat.zero_le _, Nat.zero_le _⟩) (fun r4 er4 => ?_)
    subst er4
    refine sd_ri (va_runS (As := [.ref (gt3 g), .int (nmF (nmM tx (a) (z)) (sd_nm.getD 4 []) 0)]) (rest := []) ⟨hx, hb, hml, hown, hts⟩ (c_Rdr_numberIn3 l g (nmF (nmM tx a z) (sd_nm.getD 4 []) 0)) (va_cwS 2 hts (sd_gS k_301 k_302 k_26 k_303) rfl rfl rfl (by decide +kernel) ⟨Nat.le_of_ble_eq_true rfl, Nat.le_of_ble_eq_true rfl⟩) (sd_preS hK hE hF (hP.sub (ws' := []) [] rfl)) rfl rfl hl.1 rfl (lv_room (Nat.le_of_ble_eq_true rfl)) d_Rdr_compBits_41 ⟨Nat.zero_le _, Nat.zero_le _⟩) (fun r5 er5 => ?_)
    have hM1 := sd_cMP er5
    refine lv_istore_n (lv' := [(3, .int r5), (0, .ref q3), (1, .int (nI a)), (2, .int (nI z))]) hx hb d_Rdr_compBits_44 rfl hl (by decide) rfl (fun ls hl => ?_)
    refine lv_iload_n hx hb d_Rdr_compBits_45 rfl (lv_at hl 0 rfl) ?_
    refine lv_if_lt (tgt := 60) hx hb d_Rdr_compBits_46 (by decide) (fun c6 => ?_) (fun c6 => ?_)
    · refine lv_iconst (v := (-1)) hx hb d_Rdr_compBits_60 (by decide) ?_
      exact W.iret (v := (-1)) hx hb hr  (fun t ht hW => ⟨_, rfl, by
          have e1 : lk (nmM tx a z) sd_comp = 0 := by rw [sd_comp, lk_app, if_pos e0]; exact hM1.1 c6
          rw [e1]; decide, ht⟩) (fun _ h => by cases h) d_Rdr_compBits_61
    · refine lv_sipush (v := (nI 4096)) hx hb d_Rdr_compBits_49 (by decide) ?_
      refine lv_bipush (v := (nI 64)) hx hb d_Rdr_compBits_52 (by decide) ?_
      refine lv_iload_n hx hb d_Rdr_compBits_54 rfl (lv_at hl 0 rfl) ?_
      refine lv_imul hx hb d_Rdr_compBits_55 ?_
      refine lv_iadd hx hb d_Rdr_compBits_56 ?_
      refine lv_goto (tgt := 61) hx hb d_Rdr_compBits_57 (by decide) ?_
      exact W.iret (v := ((nI 4096) + ((nI 64) * r5))) hx hb hr  (fun t ht hW => ⟨_, rfl, by
          have e1 : lk (nmM tx a z) sd_comp = lk (nmM tx a z) sd_cM := by rw [sd_comp, lk_app, if_pos e0]
          rw [e1]; exact (hM1.2 c6).1, ht⟩) (fun _ h => by cases h) d_Rdr_compBits_61
  · refine lv_bipush (v := (nI 64)) hx hb d_Rdr_compBits_22 (by decide) ?_
    refine lv_iload_n hx hb d_Rdr_compBits_24 rfl (lv_at hl 0 rfl) ?_
    refine lv_imul hx hb d_Rdr_compBits_25 ?_
    exact W.iret (v := ((nI 64) * r2)) hx hb hr  (fun t ht hW => ⟨_, rfl, by
        have e1 : lk (nmM tx a z) sd_comp = lk (nmM tx a z) sd_cA := by rw [sd_comp, lk_app, if_neg (hA1.2 c3).2]
        rw [e1]; exact (hA1.2 c3).1, ht⟩) (fun _ h => by cases h) d_Rdr_compBits_26
