def cq1 (c A : Nat) : Int32 := if c = 1 then (if A = 48 then nI 42 else if A = 49 then nI 63 else if A = 68 then nI 12 else if A = 65 then nI 48 else -1) else -1
def cq2 (c A B : Nat) (z : Int32) : Int32 := if c = 2 ∧ A = 45 then (if B = 49 then nI 58 else if B = 68 then nI 15 else if B = 65 then nI 51 else -1) else z
def cq3 (c A B : Nat) (z : Int32) : Int32 := if c = 2 ∧ A = 33 then (if B = 68 then nI 13 else if B = 65 then nI 49 else -1) else z
def cq4 (c A B C : Nat) (z : Int32) : Int32 := if c = 3 ∧ A = 68 ∧ C = 49 then (if B = 43 then nI 31 else if B = 45 then nI 14 else -1) else z
def cq5 (c A B C : Nat) (z : Int32) : Int32 := if c = 3 ∧ A = 65 ∧ C = 49 then (if B = 43 then nI 55 else if B = 45 then nI 50 else -1) else z
def cq6 (c A B C : Nat) (z : Int32) : Int32 := if c = 3 ∧ A = 68 ∧ C = 65 then (if B = 43 then nI 2 else if B = 45 then nI 19 else if B = 38 then nI 0 else if B = 124 then nI 21 else -1) else z
def cq7 (c A B C : Nat) (z : Int32) : Int32 := if c = 3 ∧ A = 65 ∧ C = 68 then (if B = 45 then nI 7 else -1) else z
def cqM (x : Nat) : Nat := if x = 77 then 65 else x
def cqF (c A B C : Nat) : Int32 := cq7 c A B C (cq6 c A B C (cq5 c A B C (cq4 c A B C (cq3 c A B (cq2 c A B (cq1 c A))))))
def cmpV (c A B C : Nat) : Int32 := if cqF c (cqM A) (cqM B) (cqM C) = -1 then -1 else cqF c (cqM A) (cqM B) (cqM C) + nI (if A = 77 ∨ B = 77 ∨ C = 77 then 64 else 0)
theorem cmpV_fw : ∀ p, p ∈ sd_comp → ¬ cmpV p.1.length (p.1.getD 0 0) (p.1.getD 1 0) (p.1.getD 2 0) = -1 ∧ nI 64 * cmpV p.1.length (p.1.getD 0 0) (p.1.getD 1 0) (p.1.getD 2 0) = nI p.2 := by decide +kernel
theorem cmpV_1 : ∀ A, A ∈ [48, 49, 68, 65, 77] → sd_comp.any (fun p => p.1 == [A]) = true := by decide +kernel
theorem cmpV_2 : ∀ A, A ∈ [45, 33] → ∀ B, B ∈ [49, 68, 65, 77] → ¬ cmpV 2 A B 0 = -1 → sd_comp.any (fun p => p.1 == [A, B]) = true := by decide +kernel
theorem cmpV_3 : ∀ A, A ∈ [68, 65, 77] → ∀ B, B ∈ [43, 45, 38, 124] → ∀ C, C ∈ [49, 65, 77, 68] → ¬ cmpV 3 A B C = -1 → sd_comp.any (fun p => p.1 == [A, B, C]) = true := by decide +kernel
theorem cqF_no {c A B C : Nat} (h1 : ¬ c = 1) (h2 : ¬ c = 2) (h3 : ¬ c = 3) : cqF c A B C = -1 := by
  simp [cqF, cq1, cq2, cq3, cq4, cq5, cq6, cq7, h1, h2, h3]
theorem cmpV_bk {c A B C : Nat} (hB : c ≤ 1 → B = 0) (hC : c ≤ 2 → C = 0) (h : ¬ cmpV c A B C = -1) : ∃ p, p ∈ sd_comp ∧ p.1.length = c ∧ p.1.getD 0 0 = A ∧ p.1.getD 1 0 = B ∧ p.1.getD 2 0 = C := by
  have hF : ¬ cqF c (cqM A) (cqM B) (cqM C) = -1 := fun q => h (by rw [cmpV, if_pos q])
  have any : ∀ l : List Nat, sd_comp.any (fun p => p.1 == l) = true → ∃ p, p ∈ sd_comp ∧ p.1 = l := fun l hl => by
    obtain ⟨p, hp, e⟩ := List.any_eq_true.mp hl
    exact ⟨p, hp, by simpa using e⟩
  by_cases c1 : c = 1
  · subst c1
    have b0 := hB (by omega); have c0 := hC (by omega)
    subst b0; subst c0
    have hA : A ∈ [48, 49, 68, 65, 77] := by
      apply Classical.byContradiction
      intro q
      simp only [List.mem_cons, List.not_mem_nil, or_false, not_or] at q
      obtain ⟨q1, q2, q3, q4, q5⟩ := q
      exact hF (by simp [cqF, cq1, cq2, cq3, cq4, cq5, cq6, cq7, cqM, q1, q2, q3, q4, q5])
    obtain ⟨p, hp, e⟩ := any _ (cmpV_1 A hA)
    exact ⟨p, hp, by rw [e]; rfl, by rw [e]; rfl, by rw [e]; rfl, by rw [e]; rfl⟩
  · by_cases c2 : c = 2
    · subst c2
      have c0 := hC (by omega)
      subst c0
      have hA : A ∈ [45, 33] := by
        apply Classical.byContradiction
        intro q
        simp only [List.mem_cons, List.not_mem_nil, or_false, not_or] at q
        obtain ⟨q1, q2⟩ := q
        have e1 : ¬ cqM A = 45 := by unfold cqM; split <;> omega
        have e2 : ¬ cqM A = 33 := by unfold cqM; split <;> omega
        exact hF (by simp [cqF, cq1, cq2, cq3, cq4, cq5, cq6, cq7, e1, e2])
      have hB2 : B ∈ [49, 68, 65, 77] := by
        apply Classical.byContradiction
        intro q
        simp only [List.mem_cons, List.not_mem_nil, or_false, not_or] at q
        obtain ⟨q1, q2, q3, q4⟩ := q
        exact hF (by simp [cqF, cq1, cq2, cq3, cq4, cq5, cq6, cq7, show cqM B = B from if_neg q4, q1, q2, q3])
      obtain ⟨p, hp, e⟩ := any _ (cmpV_2 A hA B hB2 h)
      exact ⟨p, hp, by rw [e]; rfl, by rw [e]; rfl, by rw [e]; rfl, by rw [e]; rfl⟩
    · by_cases c3 : c = 3
      · subst c3
        have hA : A ∈ [68, 65, 77] := by
          apply Classical.byContradiction
          intro q
          simp only [List.mem_cons, List.not_mem_nil, or_false, not_or] at q
          obtain ⟨q1, q2, q3⟩ := q
          exact hF (by simp [cqF, cq1, cq2, cq3, cq4, cq5, cq6, cq7, show cqM A = A from if_neg q3, q1, q2])
        have hB2 : B ∈ [43, 45, 38, 124] := by
          apply Classical.byContradiction
          intro q
          simp only [List.mem_cons, List.not_mem_nil, or_false, not_or] at q
          obtain ⟨q1, q2, q3, q4⟩ := q
          have e1 : ¬ cqM B = 43 := by unfold cqM; split <;> omega
          have e2 : ¬ cqM B = 45 := by unfold cqM; split <;> omega
          have e3 : ¬ cqM B = 38 := by unfold cqM; split <;> omega
          have e4 : ¬ cqM B = 124 := by unfold cqM; split <;> omega
          exact hF (by simp [cqF, cq1, cq2, cq3, cq4, cq5, cq6, cq7, e1, e2, e3, e4])
        have hC2 : C ∈ [49, 65, 77, 68] := by
          apply Classical.byContradiction
          intro q
          simp only [List.mem_cons, List.not_mem_nil, or_false, not_or] at q
          obtain ⟨q1, q2, q3, q4⟩ := q
          exact hF (by simp [cqF, cq1, cq2, cq3, cq4, cq5, cq6, cq7, show cqM C = C from if_neg q3, q1, q2, q4])
        obtain ⟨p, hp, e⟩ := any _ (cmpV_3 A hA B hB2 C hC2 h)
        exact ⟨p, hp, by rw [e]; rfl, by rw [e]; rfl, by rw [e]; rfl, by rw [e]; rfl⟩
      · exact absurd (cqF_no c1 c2 c3) hF
theorem nmM_inj {tx : Nat → Nat} {a z : Nat} {w w' : List Nat} (h : nmM tx a z w) (h' : nmM tx a z w') : w = w' := by
  have hl : w.length = w'.length := by have := h.1; have := h'.1; omega
  apply List.ext_getElem hl
  intro i h1 h2
  have e1 := h.2 i h1
  have e2 := h'.2 i h2
  rw [List.getD_eq_getElem?_getD, List.getElem?_eq_getElem h1] at e1
  rw [List.getD_eq_getElem?_getD, List.getElem?_eq_getElem h2] at e2
  exact e1.trans e2.symm
theorem sd_comp_fun : ∀ p, p ∈ sd_comp → ∀ q, q ∈ sd_comp → p.1 = q.1 → p.2 = q.2 := by decide +kernel
theorem sd_comp_3 : ∀ p, p ∈ sd_comp → 1 ≤ p.1.length ∧ p.1.length ≤ 3 := by decide +kernel
theorem lk_ex {M : List Nat → Prop} {ps : List (List Nat × Nat)} (h : ¬ lk M ps = 0) : ∃ p, p ∈ ps ∧ M p.1 ∧ lk M ps = p.2 + 1 := by
  induction ps with
  | nil => exact absurd rfl h
  | cons p ps ih =>
    by_cases q : M p.1
    · exact ⟨p, List.mem_cons_self, q, lk_t q⟩
    · rw [lk_f q] at h ⊢
      obtain ⟨x, h1, h2, h3⟩ := ih h
      exact ⟨x, List.mem_cons_of_mem _ h1, h2, h3⟩
/-- the comp, as the model finds it, is the table's -/
theorem cmpV_lk {tx : Nat → Nat} {a c : Nat} : (lk (nmM tx a (a + c)) sd_comp = 0 → cmpV c (if c ≤ 0 then 0 else tx a) (if c ≤ 1 then 0 else tx (a + 1)) (if c ≤ 2 then 0 else tx (a + 2)) = -1) ∧ (¬ lk (nmM tx a (a + c)) sd_comp = 0 → ¬ cmpV c (if c ≤ 0 then 0 else tx a) (if c ≤ 1 then 0 else tx (a + 1)) (if c ≤ 2 then 0 else tx (a + 2)) = -1 ∧ nI 64 * cmpV c (if c ≤ 0 then 0 else tx a) (if c ≤ 1 then 0 else tx (a + 1)) (if c ≤ 2 then 0 else tx (a + 2)) = nI (lk (nmM tx a (a + c)) sd_comp - 1)) := by
  have val : ∀ w : List Nat, w.length ≤ 3 → nmM tx a (a + c) w → w.length = c ∧ w.getD 0 0 = (if c ≤ 0 then 0 else tx a) ∧ w.getD 1 0 = (if c ≤ 1 then 0 else tx (a + 1)) ∧ w.getD 2 0 = (if c ≤ 2 then 0 else tx (a + 2)) := fun w h3 hM => by
    have hl : w.length = c := by have := hM.1; omega
    refine ⟨hl, ?_, ?_, ?_⟩
    · split
      · rw [List.getD_eq_getElem?_getD, List.getElem?_eq_none (by omega)]; rfl
      · exact hM.2 0 (by omega)
    · split
      · rw [List.getD_eq_getElem?_getD, List.getElem?_eq_none (by omega)]; rfl
      · exact hM.2 1 (by omega)
    · split
      · rw [List.getD_eq_getElem?_getD, List.getElem?_eq_none (by omega)]; rfl
      · exact hM.2 2 (by omega)
  refine ⟨fun h0 => Classical.byContradiction fun hn => ?_, fun hn => ?_⟩
  · obtain ⟨p, hp, e1, e2, e3, e4⟩ := cmpV_bk (fun q => if_pos q) (fun q => if_pos q) hn
    have h3 := sd_comp_3 p hp
    have hM : nmM tx a (a + c) p.1 := ⟨by omega, fun t ht => by
      rcases (show t = 0 ∨ t = 1 ∨ t = 2 by omega) with rfl | rfl | rfl
      · rw [e2, if_neg (by omega)]; rfl
      · rw [e3, if_neg (by omega)]
      · rw [e4, if_neg (by omega)]⟩
    have := lk_some hp hM (fun q hq hMq => (sd_comp_fun q hq p hp (nmM_inj hMq hM)))
    omega
  · obtain ⟨p, hp, hM, e⟩ := lk_ex hn
    obtain ⟨v1, v2, v3, v4⟩ := val p.1 (sd_comp_3 p hp).2 hM
    have f := cmpV_fw p hp
    rw [v1, v2, v3, v4] at f
    rw [e]
    exact ⟨f.1, f.2⟩
set_option maxHeartbeats 4000000 in
set_option maxRecDepth 100000 in
/-- compOf(a, c) -/
theorem c_Mod_compOf (l : Launch) (g : sdG) (m0 mtt mcd mat msz mvl mcs mmm mkn mjp mds : Nat) (tk9 sz9 pl9 wd9 sy9 ra rd nx9 dn : Int32) (n : Nat) (tf : Nat → Int32) (tx : Nat → Nat) (hT : MTok n tf tx) (a c9 : Nat) (hac : a + c9 ≤ n) : Met l y_Mod_compOf (.code y_Mod_compOf b_Mod_compOf 8 (some .int) :: sdT) ({ frames := 0, cells := 0, slots := 0, locals := 0 }) (va_Pc [.ref m0, .int (nI a), .int (nI c9)] (sdR g [(m0, .inr (8, [.ref mtt, .int tk9, .int sz9, .int pl9, .int wd9, .ref mcd, .int sy9, .ref mat, .ref msz, .ref mvl, .ref mcs, .ref mmm, .int ra, .int rd, .int nx9, .int dn, .ref mkn, .ref mjp, .ref mds])), (mtt, .inl (gI g, 2000, .inl tf))])) (vp_Si (fun r => r = cmpV c9 (if c9 ≤ 0 then 0 else tx a) (if c9 ≤ 1 then 0 else tx (a + 1)) (if c9 ≤ 2 then 0 else tx (a + 2)))) 0 0 (fun _ => False) := by
  refine Met.ofW (cc := b_Mod_compOf) (maxL := 8) (ret := (some .int)) (by decide) rfl ?_
  intro p ev s m args below meth c s₁ B hml hv
  obtain ⟨rfl, hP, hK, hE⟩ := hv
  have hx := B.exec
  have hb := B.bytes
  have hr := B.returns
  have hts := fun (w : Cond) (h : w ∈ sdT) => atoms_spec (ws := (.code y_Mod_compOf b_Mod_compOf 8 (some .int) :: sdT)) B.pre w (List.mem_cons_of_mem _ h)
  have hown : s.vm.findClass "SignDeskModel" = some m.cls := findClass_of_methodNamed B.named
  have hlocks := B.notSynchronized
  have hF : ∀ a : Nat, a < s.heap.size → ¬ sdA g a → s.heap[a]? = s.heap[a]? := fun _ _ _ => rfl
  have hP : sdP g [(m0, .inr (8, [.ref mtt, .int tk9, .int sz9, .int pl9, .int wd9, .ref mcd, .int sy9, .ref mat, .ref msz, .ref mvl, .ref mcs, .ref mmm, .int ra, .int rd, .int nx9, .int dn, .ref mkn, .ref mjp, .ref mds])), (mtt, .inl (gI g, 2000, .inl tf))] s.heap := hP
  have hl := lv_entry ([.ref m0, .int (nI a), .int (nI c9)]) (n := 8) (Nat.le_of_ble_eq_true rfl)
  rw [lg_entry_eq]
  generalize (lg_sl ([.ref m0, .int (nI a), .int (nI c9)]) ++ List.replicate (8 - (lg_sl ([.ref m0, .int (nI a), .int (nI c9)])).length) Slot.unset).toArray = ls at hl ⊢
  have hl : lv_has ls 8 [(0, .ref m0), (1, .int (nI a)), (2, .int (nI c9))] := hl
  have hn := hT.1
  have hb8 := hT.2.1
  refine lv_iload_n hx hb d_Mod_compOf_0 rfl (lv_at hl 2 rfl) ?_
  refine sd_cutv (ls := ls) (fun z => z = nI (if c9 ≤ 0 then 0 else tx a)) 14 [] (fun z9 ez9 => ?_) (fun kJ => ?_)
  · subst ez9
    obtain ⟨A, hA⟩ : ∃ z, z = (if c9 ≤ 0 then 0 else tx a) := ⟨_, rfl⟩
    refine sd_topi (y := nI A) (by rw [hA]) ?_
    have hA9 : A < 256 := by
      rw [hA]
      split
      · omega
      · first | exact hb8 _ | omega
    refine lv_istore_n (lv' := [(3, .int (nI A)), (0, .ref m0), (1, .int (nI a)), (2, .int (nI c9))]) hx hb d_Mod_compOf_14 rfl hl (by decide) rfl (fun ls hl => ?_)
    refine lv_iload_n hx hb d_Mod_compOf_15 rfl (lv_at hl 3 rfl) ?_
    refine lv_iconst (v := (nI 1)) hx hb d_Mod_compOf_16 (by decide) ?_
    refine sd_cutv (ls := ls) (fun z => z = nI (if c9 ≤ 1 then 0 else tx (a + 1))) 32 [] (fun z9 ez9 => ?_) (fun kJ => ?_)
    · subst ez9
      obtain ⟨B0, hB0⟩ : ∃ z, z = (if c9 ≤ 1 then 0 else tx (a + 1)) := ⟨_, rfl⟩
      refine sd_topi (y := nI B0) (by rw [hB0]) ?_
      have hB09 : B0 < 256 := by
        rw [hB0]
        split
        · omega
        · first | exact hb8 _ | omega
      refine lv_istore (lv' := [(4, .int (nI B0)), (3, .int (nI A)), (0, .ref m0), (1, .int (nI a)), (2, .int (nI c9))]) hx hb d_Mod_compOf_32 hl (by decide) rfl (fun ls hl => ?_)
      refine lv_iload_n hx hb d_Mod_compOf_34 rfl (lv_at hl 4 rfl) ?_
      refine lv_iconst (v := (nI 2)) hx hb d_Mod_compOf_35 (by decide) ?_
      refine sd_cutv (ls := ls) (fun z => z = nI (if c9 ≤ 2 then 0 else tx (a + 2))) 51 [] (fun z9 ez9 => ?_) (fun kJ => ?_)
      · subst ez9
        obtain ⟨C0, hC0⟩ : ∃ z, z = (if c9 ≤ 2 then 0 else tx (a + 2)) := ⟨_, rfl⟩
        refine sd_topi (y := nI C0) (by rw [hC0]) ?_
        have hC09 : C0 < 256 := by
          rw [hC0]
          split
          · omega
          · first | exact hb8 _ | omega
        refine lv_istore (lv' := [(5, .int (nI C0)), (4, .int (nI B0)), (3, .int (nI A)), (0, .ref m0), (1, .int (nI a)), (2, .int (nI c9))]) hx hb d_Mod_compOf_51 hl (by decide) rfl (fun ls hl => ?_)
        refine lv_iload_n hx hb d_Mod_compOf_53 rfl (lv_at hl 2 rfl) ?_
        refine lv_bipush (v := (nI 77)) hx hb d_Mod_compOf_54 (by decide) ?_
        refine sd_cutv (ls := ls) (fun z => z = nI (if A = 77 ∨ B0 = 77 ∨ C0 = 77 then 64 else 0)) 79 [] (fun z9 ez9 => ?_) (fun kJ => ?_)
        · subst ez9
          refine lv_istore (lv' := [(6, .int (nI (if A = 77 ∨ B0 = 77 ∨ C0 = 77 then 64 else 0))), (5, .int (nI C0)), (4, .int (nI B0)), (3, .int (nI A)), (0, .ref m0), (1, .int (nI a)), (2, .int (nI c9))]) hx hb d_Mod_compOf_79 hl (by decide) rfl (fun ls hl => ?_)
          refine lv_iload_n hx hb d_Mod_compOf_81 rfl (lv_at hl 3 rfl) ?_
          refine lv_bipush (v := (nI 77)) hx hb d_Mod_compOf_82 (by decide) ?_
          refine sd_cutv (ls := ls) (fun z => z = nI (if A = 77 then 65 else A)) 93 [] (fun z9 ez9 => ?_) (fun kJ => ?_)
          · subst ez9
            refine sd_topi (y := nI (cqM A)) (rfl) ?_
            have hA1 : cqM A < 256 := by unfold cqM; split <;> omega
            refine lv_istore_n (lv' := [(3, .int (nI (cqM A))), (6, .int (nI (if A = 77 ∨ B0 = 77 ∨ C0 = 77 then 64 else 0))), (5, .int (nI C0)), (4, .int (nI B0)), (0, .ref m0), (1, .int (nI a)), (2, .int (nI c9))]) hx hb d_Mod_compOf_93 rfl hl (by decide) rfl (fun ls hl => ?_)
            refine lv_iload hx hb d_Mod_compOf_94 (lv_at hl 3 rfl) ?_
            refine lv_bipush (v := (nI 77)) hx hb d_Mod_compOf_96 (by decide) ?_
            refine sd_cutv (ls := ls) (fun z => z = nI (if B0 = 77 then 65 else B0)) 108 [] (fun z9 ez9 => ?_) (fun kJ => ?_)
            · subst ez9
              refine sd_topi (y := nI (cqM B0)) (rfl) ?_
              have hB1 : cqM B0 < 256 := by unfold cqM; split <;> omega
              refine lv_istore (lv' := [(4, .int (nI (cqM B0))), (3, .int (nI (cqM A))), (6, .int (nI (if A = 77 ∨ B0 = 77 ∨ C0 = 77 then 64 else 0))), (5, .int (nI C0)), (0, .ref m0), (1, .int (nI a)), (2, .int (nI c9))]) hx hb d_Mod_compOf_108 hl (by decide) rfl (fun ls hl => ?_)
              refine lv_iload hx hb d_Mod_compOf_110 (lv_at hl 3 rfl) ?_
              refine lv_bipush (v := (nI 77)) hx hb d_Mod_compOf_112 (by decide) ?_
              refine sd_cutv (ls := ls) (fun z => z = nI (if C0 = 77 then 65 else C0)) 124 [] (fun z9 ez9 => ?_) (fun kJ => ?_)
              · subst ez9
                refine sd_topi (y := nI (cqM C0)) (rfl) ?_
                have hC1 : cqM C0 < 256 := by unfold cqM; split <;> omega
                refine lv_istore (lv' := [(5, .int (nI (cqM C0))), (4, .int (nI (cqM B0))), (3, .int (nI (cqM A))), (6, .int (nI (if A = 77 ∨ B0 = 77 ∨ C0 = 77 then 64 else 0))), (0, .ref m0), (1, .int (nI a)), (2, .int (nI c9))]) hx hb d_Mod_compOf_124 hl (by decide) rfl (fun ls hl => ?_)
                refine lv_iconst (v := (-1)) hx hb d_Mod_compOf_126 (by decide) ?_
                refine lv_istore (lv' := [(7, .int (-1)), (5, .int (nI (cqM C0))), (4, .int (nI (cqM B0))), (3, .int (nI (cqM A))), (6, .int (nI (if A = 77 ∨ B0 = 77 ∨ C0 = 77 then 64 else 0))), (0, .ref m0), (1, .int (nI a)), (2, .int (nI c9))]) hx hb d_Mod_compOf_127 hl (by decide) rfl (fun ls hl => ?_)
                refine lv_iload_n hx hb d_Mod_compOf_129 rfl (lv_at hl 7 rfl) ?_
                refine lv_iconst (v := (nI 1)) hx hb d_Mod_compOf_130 (by decide) ?_
                refine sd_cutl (fun (z1 : Int32) ls => lv_has ls 8 [(0, .ref m0), (1, .int (nI a)), (2, .int (nI c9)), (3, .int (nI (cqM A))), (4, .int (nI (cqM B0))), (5, .int (nI (cqM C0))), (6, .int (nI (if A = 77 ∨ B0 = 77 ∨ C0 = 77 then 64 else 0))), (7, .int z1)] ∧ z1 = cq1 c9 (cqM A)) 181 (fun _ => []) (fun z1 ls hI => ?_) (fun kJ => ?_)
                · obtain ⟨hl, ez1⟩ := hI
                  refine lv_iload_n hx hb d_Mod_compOf_181 rfl (lv_at hl 2 rfl) ?_
                  refine lv_iconst (v := (nI 2)) hx hb d_Mod_compOf_182 (by decide) ?_
                  refine sd_cutl (fun (z2 : Int32) ls => lv_has ls 8 [(0, .ref m0), (1, .int (nI a)), (2, .int (nI c9)), (3, .int (nI (cqM A))), (4, .int (nI (cqM B0))), (5, .int (nI (cqM C0))), (6, .int (nI (if A = 77 ∨ B0 = 77 ∨ C0 = 77 then 64 else 0))), (7, .int z2)] ∧ z2 = cq2 c9 (cqM A) (cqM B0) z1) 231 (fun _ => []) (fun z2 ls hI => ?_) (fun kJ => ?_)
                  · obtain ⟨hl, ez2⟩ := hI
                    refine lv_iload_n hx hb d_Mod_compOf_231 rfl (lv_at hl 2 rfl) ?_
                    refine lv_iconst (v := (nI 2)) hx hb d_Mod_compOf_232 (by decide) ?_
                    refine sd_cutl (fun (z3 : Int32) ls => lv_has ls 8 [(0, .ref m0), (1, .int (nI a)), (2, .int (nI c9)), (3, .int (nI (cqM A))), (4, .int (nI (cqM B0))), (5, .int (nI (cqM C0))), (6, .int (nI (if A = 77 ∨ B0 = 77 ∨ C0 = 77 then 64 else 0))), (7, .int z3)] ∧ z3 = cq3 c9 (cqM A) (cqM B0) z2) 269 (fun _ => []) (fun z3 ls hI => ?_) (fun kJ => ?_)
                    · obtain ⟨hl, ez3⟩ := hI
                      refine lv_iload_n hx hb d_Mod_compOf_269 rfl (lv_at hl 2 rfl) ?_
                      refine lv_iconst (v := (nI 3)) hx hb d_Mod_compOf_270 (by decide) ?_
                      refine sd_cutl (fun (z4 : Int32) ls => lv_has ls 8 [(0, .ref m0), (1, .int (nI a)), (2, .int (nI c9)), (3, .int (nI (cqM A))), (4, .int (nI (cqM B0))), (5, .int (nI (cqM C0))), (6, .int (nI (if A = 77 ∨ B0 = 77 ∨ C0 = 77 then 64 else 0))), (7, .int z4)] ∧ z4 = cq4 c9 (cqM A) (cqM B0) (cqM C0) z3) 314 (fun _ => []) (fun z4 ls hI => ?_) (fun kJ => ?_)
                      · obtain ⟨hl, ez4⟩ := hI
                        refine lv_iload_n hx hb d_Mod_compOf_314 rfl (lv_at hl 2 rfl) ?_
                        refine lv_iconst (v := (nI 3)) hx hb d_Mod_compOf_315 (by decide) ?_
                        refine sd_cutl (fun (z5 : Int32) ls => lv_has ls 8 [(0, .ref m0), (1, .int (nI a)), (2, .int (nI c9)), (3, .int (nI (cqM A))), (4, .int (nI (cqM B0))), (5, .int (nI (cqM C0))), (6, .int (nI (if A = 77 ∨ B0 = 77 ∨ C0 = 77 then 64 else 0))), (7, .int z5)] ∧ z5 = cq5 c9 (cqM A) (cqM B0) (cqM C0) z4) 359 (fun _ => []) (fun z5 ls hI => ?_) (fun kJ => ?_)
                        · obtain ⟨hl, ez5⟩ := hI
                          refine lv_iload_n hx hb d_Mod_compOf_359 rfl (lv_at hl 2 rfl) ?_
                          refine lv_iconst (v := (nI 3)) hx hb d_Mod_compOf_360 (by decide) ?_
                          refine sd_cutl (fun (z6 : Int32) ls => lv_has ls 8 [(0, .ref m0), (1, .int (nI a)), (2, .int (nI c9)), (3, .int (nI (cqM A))), (4, .int (nI (cqM B0))), (5, .int (nI (cqM C0))), (6, .int (nI (if A = 77 ∨ B0 = 77 ∨ C0 = 77 then 64 else 0))), (7, .int z6)] ∧ z6 = cq6 c9 (cqM A) (cqM B0) (cqM C0) z5) 426 (fun _ => []) (fun z6 ls hI => ?_) (fun kJ => ?_)
                          · obtain ⟨hl, ez6⟩ := hI
                            refine lv_iload_n hx hb d_Mod_compOf_426 rfl (lv_at hl 2 rfl) ?_
                            refine lv_iconst (v := (nI 3)) hx hb d_Mod_compOf_427 (by decide) ?_
                            refine sd_cutl (fun (z7 : Int32) ls => lv_has ls 8 [(0, .ref m0), (1, .int (nI a)), (2, .int (nI c9)), (3, .int (nI (cqM A))), (4, .int (nI (cqM B0))), (5, .int (nI (cqM C0))), (6, .int (nI (if A = 77 ∨ B0 = 77 ∨ C0 = 77 then 64 else 0))), (7, .int z7)] ∧ z7 = cq7 c9 (cqM A) (cqM B0) (cqM C0) z6) 459 (fun _ => []) (fun z7 ls hI => ?_) (fun kJ => ?_)
                            · obtain ⟨hl, ez7⟩ := hI
                              have eF : z7 = cqF c9 (cqM A) (cqM B0) (cqM C0) := by rw [ez7, ez6, ez5, ez4, ez3, ez2, ez1]; rfl
                              refine lv_iload hx hb d_Mod_compOf_459 (lv_at hl 7 rfl) ?_
                              refine lv_iconst (v := (-1)) hx hb d_Mod_compOf_461 (by decide) ?_
                              refine lv_icmp_ne (tgt := 469) hx hb d_Mod_compOf_462 (by decide) (fun c1 => ?_) (fun c1 => ?_)
                              · refine lv_iload hx hb d_Mod_compOf_469 (lv_at hl 7 rfl) ?_
                                refine lv_iload hx hb d_Mod_compOf_471 (lv_at hl 6 rfl) ?_
                                refine lv_iadd hx hb d_Mod_compOf_473 ?_
                                exact W.iret (v := (z7 + (nI (if A = 77 ∨ B0 = 77 ∨ C0 = 77 then 64 else 0)))) hx hb hr  (fun t ht hW => ⟨_, rfl, by
                                    rw [← hA, ← hB0, ← hC0, cmpV, ← eF, if_neg c1], ht⟩) (fun _ h => by cases h) d_Mod_compOf_474
                              · refine lv_iconst (v := (-1)) hx hb d_Mod_compOf_465 (by decide) ?_
                                refine lv_goto (tgt := 474) hx hb d_Mod_compOf_466 (by decide) ?_
                                exact W.iret (v := (-1)) hx hb hr  (fun t ht hW => ⟨_, rfl, by
                                    rw [← hA, ← hB0, ← hC0, cmpV, ← eF, if_pos c1], ht⟩) (fun _ h => by cases h) d_Mod_compOf_474
                            · refine lv_icmp_ne (tgt := 459) hx hb d_Mod_compOf_428 (by decide) (fun c1 => ?_) (fun c1 => ?_)
                              · have c1 := mt (nI_eq (by omega) (by omega)).mpr c1
                                exact kJ (z6) _ ⟨lv_sub hl [0, 1, 2, 3, 4, 5, 6, 7] rfl, by simp [cq7, c1]⟩
                              · have c1 := (nI_eq (by omega) (by omega)).mp c1
                                refine lv_iload_n hx hb d_Mod_compOf_431 rfl (lv_at hl 3 rfl) ?_
                                refine lv_bipush (v := (nI 65)) hx hb d_Mod_compOf_432 (by decide) ?_
                                refine lv_icmp_ne (tgt := 459) hx hb d_Mod_compOf_434 (by decide) (fun c2 => ?_) (fun c2 => ?_)
                                · have c2 := mt (nI_eq (by omega) (by omega)).mpr c2
                                  exact kJ (z6) _ ⟨lv_sub hl [0, 1, 2, 3, 4, 5, 6, 7] rfl, by simp [cq7, c1, c2]⟩
                                · have c2 := (nI_eq (by omega) (by omega)).mp c2
                                  refine lv_iload hx hb d_Mod_compOf_437 (lv_at hl 5 rfl) ?_
                                  refine lv_bipush (v := (nI 68)) hx hb d_Mod_compOf_439 (by decide) ?_
                                  refine lv_icmp_ne (tgt := 459) hx hb d_Mod_compOf_441 (by decide) (fun c3 => ?_) (fun c3 => ?_)
                                  · have c3 := mt (nI_eq (by omega) (by omega)).mpr c3
                                    exact kJ (z6) _ ⟨lv_sub hl [0, 1, 2, 3, 4, 5, 6, 7] rfl, by simp [cq7, c1, c2, c3]⟩
                                  · have c3 := (nI_eq (by omega) (by omega)).mp c3
                                    refine lv_iload hx hb d_Mod_compOf_444 (lv_at hl 4 rfl) ?_
                                    refine lv_bipush (v := (nI 45)) hx hb d_Mod_compOf_446 (by decide) ?_
                                    refine lv_icmp_ne (tgt := 456) hx hb d_Mod_compOf_448 (by decide) (fun c4 => ?_) (fun c4 => ?_)
                                    · have c4 := mt (nI_eq (by omega) (by omega)).mpr c4
                                      refine lv_iconst (v := (-1)) hx hb d_Mod_compOf_456 (by decide) ?_
                                      refine lv_istore (lv' := [(7, .int (-1)), (0, .ref m0), (1, .int (nI a)), (2, .int (nI c9)), (3, .int (nI (cqM A))), (4, .int (nI (cqM B0))), (5, .int (nI (cqM C0))), (6, .int (nI (if A = 77 ∨ B0 = 77 ∨ C0 = 77 then 64 else 0)))]) hx hb d_Mod_compOf_457 hl (by decide) rfl (fun ls hl => ?_)
                                      exact kJ ((-1)) _ ⟨lv_sub hl [1, 2, 3, 4, 5, 6, 7, 0] rfl, by simp [cq7, c1, c2, c3, c4]⟩
                                    · have c4 := (nI_eq (by omega) (by omega)).mp c4
                                      refine lv_bipush (v := (nI 7)) hx hb d_Mod_compOf_451 (by decide) ?_
                                      refine lv_goto (tgt := 457) hx hb d_Mod_compOf_453 (by decide) ?_
                                      refine lv_istore (lv' := [(7, .int (nI 7)), (0, .ref m0), (1, .int (nI a)), (2, .int (nI c9)), (3, .int (nI (cqM A))), (4, .int (nI (cqM B0))), (5, .int (nI (cqM C0))), (6, .int (nI (if A = 77 ∨ B0 = 77 ∨ C0 = 77 then 64 else 0)))]) hx hb d_Mod_compOf_457 hl (by decide) rfl (fun ls hl => ?_)
                                      exact kJ ((nI 7)) _ ⟨lv_sub hl [1, 2, 3, 4, 5, 6, 7, 0] rfl, by simp [cq7, c1, c2, c3, c4]⟩
                          · refine lv_icmp_ne (tgt := 426) hx hb d_Mod_compOf_361 (by decide) (fun c1 => ?_) (fun c1 => ?_)
                            · have c1 := mt (nI_eq (by omega) (by omega)).mpr c1
                              exact kJ (z5) _ ⟨lv_sub hl [0, 1, 2, 3, 4, 5, 6, 7] rfl, by simp [cq6, c1]⟩
                            · have c1 := (nI_eq (by omega) (by omega)).mp c1
                              refine lv_iload_n hx hb d_Mod_compOf_364 rfl (lv_at hl 3 rfl) ?_
                              refine lv_bipush (v := (nI 68)) hx hb d_Mod_compOf_365 (by decide) ?_
                              refine lv_icmp_ne (tgt := 426) hx hb d_Mod_compOf_367 (by decide) (fun c2 => ?_) (fun c2 => ?_)
                              · have c2 := mt (nI_eq (by omega) (by omega)).mpr c2
                                exact kJ (z5) _ ⟨lv_sub hl [0, 1, 2, 3, 4, 5, 6, 7] rfl, by simp [cq6, c1, c2]⟩
                              · have c2 := (nI_eq (by omega) (by omega)).mp c2
                                refine lv_iload hx hb d_Mod_compOf_370 (lv_at hl 5 rfl) ?_
                                refine lv_bipush (v := (nI 65)) hx hb d_Mod_compOf_372 (by decide) ?_
                                refine lv_icmp_ne (tgt := 426) hx hb d_Mod_compOf_374 (by decide) (fun c3 => ?_) (fun c3 => ?_)
                                · have c3 := mt (nI_eq (by omega) (by omega)).mpr c3
                                  exact kJ (z5) _ ⟨lv_sub hl [0, 1, 2, 3, 4, 5, 6, 7] rfl, by simp [cq6, c1, c2, c3]⟩
                                · have c3 := (nI_eq (by omega) (by omega)).mp c3
                                  refine lv_iload hx hb d_Mod_compOf_377 (lv_at hl 4 rfl) ?_
                                  refine lv_bipush (v := (nI 43)) hx hb d_Mod_compOf_379 (by decide) ?_
                                  refine lv_icmp_ne (tgt := 388) hx hb d_Mod_compOf_381 (by decide) (fun c4 => ?_) (fun c4 => ?_)
                                  · have c4 := mt (nI_eq (by omega) (by omega)).mpr c4
                                    refine lv_iload hx hb d_Mod_compOf_388 (lv_at hl 4 rfl) ?_
                                    refine lv_bipush (v := (nI 45)) hx hb d_Mod_compOf_390 (by decide) ?_
                                    refine lv_icmp_ne (tgt := 400) hx hb d_Mod_compOf_392 (by decide) (fun c5 => ?_) (fun c5 => ?_)
                                    · have c5 := mt (nI_eq (by omega) (by omega)).mpr c5
                                      refine lv_iload hx hb d_Mod_compOf_400 (lv_at hl 4 rfl) ?_
                                      refine lv_bipush (v := (nI 38)) hx hb d_Mod_compOf_402 (by decide) ?_
                                      refine lv_icmp_ne (tgt := 411) hx hb d_Mod_compOf_404 (by decide) (fun c6 => ?_) (fun c6 => ?_)
                                      · have c6 := mt (nI_eq (by omega) (by omega)).mpr c6
                                        refine lv_iload hx hb d_Mod_compOf_411 (lv_at hl 4 rfl) ?_
                                        refine lv_bipush (v := (nI 124)) hx hb d_Mod_compOf_413 (by decide) ?_
                                        refine lv_icmp_ne (tgt := 423) hx hb d_Mod_compOf_415 (by decide) (fun c7 => ?_) (fun c7 => ?_)
                                        · have c7 := mt (nI_eq (by omega) (by omega)).mpr c7
                                          refine lv_iconst (v := (-1)) hx hb d_Mod_compOf_423 (by decide) ?_
                                          refine lv_istore (lv' := [(7, .int (-1)), (0, .ref m0), (1, .int (nI a)), (2, .int (nI c9)), (3, .int (nI (cqM A))), (4, .int (nI (cqM B0))), (5, .int (nI (cqM C0))), (6, .int (nI (if A = 77 ∨ B0 = 77 ∨ C0 = 77 then 64 else 0)))]) hx hb d_Mod_compOf_424 hl (by decide) rfl (fun ls hl => ?_)
                                          exact kJ ((-1)) _ ⟨lv_sub hl [1, 2, 3, 4, 5, 6, 7, 0] rfl, by simp [cq6, c1, c2, c3, c4, c5, c6, c7]⟩
                                        · have c7 := (nI_eq (by omega) (by omega)).mp c7
                                          refine lv_bipush (v := (nI 21)) hx hb d_Mod_compOf_418 (by decide) ?_
                                          refine lv_goto (tgt := 424) hx hb d_Mod_compOf_420 (by decide) ?_
                                          refine lv_istore (lv' := [(7, .int (nI 21)), (0, .ref m0), (1, .int (nI a)), (2, .int (nI c9)), (3, .int (nI (cqM A))), (4, .int (nI (cqM B0))), (5, .int (nI (cqM C0))), (6, .int (nI (if A = 77 ∨ B0 = 77 ∨ C0 = 77 then 64 else 0)))]) hx hb d_Mod_compOf_424 hl (by decide) rfl (fun ls hl => ?_)
                                          exact kJ ((nI 21)) _ ⟨lv_sub hl [1, 2, 3, 4, 5, 6, 7, 0] rfl, by simp [cq6, c1, c2, c3, c4, c5, c6, c7]⟩
                                      · have c6 := (nI_eq (by omega) (by omega)).mp c6
                                        refine lv_iconst (v := (nI 0)) hx hb d_Mod_compOf_407 (by decide) ?_
                                        refine lv_goto (tgt := 424) hx hb d_Mod_compOf_408 (by decide) ?_
                                        refine lv_istore (lv' := [(7, .int (nI 0)), (0, .ref m0), (1, .int (nI a)), (2, .int (nI c9)), (3, .int (nI (cqM A))), (4, .int (nI (cqM B0))), (5, .int (nI (cqM C0))), (6, .int (nI (if A = 77 ∨ B0 = 77 ∨ C0 = 77 then 64 else 0)))]) hx hb d_Mod_compOf_424 hl (by decide) rfl (fun ls hl => ?_)
                                        exact kJ ((nI 0)) _ ⟨lv_sub hl [1, 2, 3, 4, 5, 6, 7, 0] rfl, by simp [cq6, c1, c2, c3, c4, c5, c6]⟩
                                    · have c5 := (nI_eq (by omega) (by omega)).mp c5
                                      refine lv_bipush (v := (nI 19)) hx hb d_Mod_compOf_395 (by decide) ?_
                                      refine lv_goto (tgt := 424) hx hb d_Mod_compOf_397 (by decide) ?_
                                      refine lv_istore (lv' := [(7, .int (nI 19)), (0, .ref m0), (1, .int (nI a)), (2, .int (nI c9)), (3, .int (nI (cqM A))), (4, .int (nI (cqM B0))), (5, .int (nI (cqM C0))), (6, .int (nI (if A = 77 ∨ B0 = 77 ∨ C0 = 77 then 64 else 0)))]) hx hb d_Mod_compOf_424 hl (by decide) rfl (fun ls hl => ?_)
                                      exact kJ ((nI 19)) _ ⟨lv_sub hl [1, 2, 3, 4, 5, 6, 7, 0] rfl, by simp [cq6, c1, c2, c3, c4, c5]⟩
                                  · have c4 := (nI_eq (by omega) (by omega)).mp c4
                                    refine lv_iconst (v := (nI 2)) hx hb d_Mod_compOf_384 (by decide) ?_
                                    refine lv_goto (tgt := 424) hx hb d_Mod_compOf_385 (by decide) ?_
                                    refine lv_istore (lv' := [(7, .int (nI 2)), (0, .ref m0), (1, .int (nI a)), (2, .int (nI c9)), (3, .int (nI (cqM A))), (4, .int (nI (cqM B0))), (5, .int (nI (cqM C0))), (6, .int (nI (if A = 77 ∨ B0 = 77 ∨ C0 = 77 then 64 else 0)))]) hx hb d_Mod_compOf_424 hl (by decide) rfl (fun ls hl => ?_)
                                    exact kJ ((nI 2)) _ ⟨lv_sub hl [1, 2, 3, 4, 5, 6, 7, 0] rfl, by simp [cq6, c1, c2, c3, c4]⟩
                        · refine lv_icmp_ne (tgt := 359) hx hb d_Mod_compOf_316 (by decide) (fun c1 => ?_) (fun c1 => ?_)
                          · have c1 := mt (nI_eq (by omega) (by omega)).mpr c1
                            exact kJ (z4) _ ⟨lv_sub hl [0, 1, 2, 3, 4, 5, 6, 7] rfl, by simp [cq5, c1]⟩
                          · have c1 := (nI_eq (by omega) (by omega)).mp c1
                            refine lv_iload_n hx hb d_Mod_compOf_319 rfl (lv_at hl 3 rfl) ?_
                            refine lv_bipush (v := (nI 65)) hx hb d_Mod_compOf_320 (by decide) ?_
                            refine lv_icmp_ne (tgt := 359) hx hb d_Mod_compOf_322 (by decide) (fun c2 => ?_) (fun c2 => ?_)
                            · have c2 := mt (nI_eq (by omega) (by omega)).mpr c2
                              exact kJ (z4) _ ⟨lv_sub hl [0, 1, 2, 3, 4, 5, 6, 7] rfl, by simp [cq5, c1, c2]⟩
                            · have c2 := (nI_eq (by omega) (by omega)).mp c2
                              refine lv_iload hx hb d_Mod_compOf_325 (lv_at hl 5 rfl) ?_
                              refine lv_bipush (v := (nI 49)) hx hb d_Mod_compOf_327 (by decide) ?_
                              refine lv_icmp_ne (tgt := 359) hx hb d_Mod_compOf_329 (by decide) (fun c3 => ?_) (fun c3 => ?_)
                              · have c3 := mt (nI_eq (by omega) (by omega)).mpr c3
                                exact kJ (z4) _ ⟨lv_sub hl [0, 1, 2, 3, 4, 5, 6, 7] rfl, by simp [cq5, c1, c2, c3]⟩
                              · have c3 := (nI_eq (by omega) (by omega)).mp c3
                                refine lv_iload hx hb d_Mod_compOf_332 (lv_at hl 4 rfl) ?_
                                refine lv_bipush (v := (nI 43)) hx hb d_Mod_compOf_334 (by decide) ?_
                                refine lv_icmp_ne (tgt := 344) hx hb d_Mod_compOf_336 (by decide) (fun c4 => ?_) (fun c4 => ?_)
                                · have c4 := mt (nI_eq (by omega) (by omega)).mpr c4
                                  refine lv_iload hx hb d_Mod_compOf_344 (lv_at hl 4 rfl) ?_
                                  refine lv_bipush (v := (nI 45)) hx hb d_Mod_compOf_346 (by decide) ?_
                                  refine lv_icmp_ne (tgt := 356) hx hb d_Mod_compOf_348 (by decide) (fun c5 => ?_) (fun c5 => ?_)
                                  · have c5 := mt (nI_eq (by omega) (by omega)).mpr c5
                                    refine lv_iconst (v := (-1)) hx hb d_Mod_compOf_356 (by decide) ?_
                                    refine lv_istore (lv' := [(7, .int (-1)), (0, .ref m0), (1, .int (nI a)), (2, .int (nI c9)), (3, .int (nI (cqM A))), (4, .int (nI (cqM B0))), (5, .int (nI (cqM C0))), (6, .int (nI (if A = 77 ∨ B0 = 77 ∨ C0 = 77 then 64 else 0)))]) hx hb d_Mod_compOf_357 hl (by decide) rfl (fun ls hl => ?_)
                                    exact kJ ((-1)) _ ⟨lv_sub hl [1, 2, 3, 4, 5, 6, 7, 0] rfl, by simp [cq5, c1, c2, c3, c4, c5]⟩
                                  · have c5 := (nI_eq (by omega) (by omega)).mp c5
                                    refine lv_bipush (v := (nI 50)) hx hb d_Mod_compOf_351 (by decide) ?_
                                    refine lv_goto (tgt := 357) hx hb d_Mod_compOf_353 (by decide) ?_
                                    refine lv_istore (lv' := [(7, .int (nI 50)), (0, .ref m0), (1, .int (nI a)), (2, .int (nI c9)), (3, .int (nI (cqM A))), (4, .int (nI (cqM B0))), (5, .int (nI (cqM C0))), (6, .int (nI (if A = 77 ∨ B0 = 77 ∨ C0 = 77 then 64 else 0)))]) hx hb d_Mod_compOf_357 hl (by decide) rfl (fun ls hl => ?_)
                                    exact kJ ((nI 50)) _ ⟨lv_sub hl [1, 2, 3, 4, 5, 6, 7, 0] rfl, by simp [cq5, c1, c2, c3, c4, c5]⟩
                                · have c4 := (nI_eq (by omega) (by omega)).mp c4
                                  refine lv_bipush (v := (nI 55)) hx hb d_Mod_compOf_339 (by decide) ?_
                                  refine lv_goto (tgt := 357) hx hb d_Mod_compOf_341 (by decide) ?_
                                  refine lv_istore (lv' := [(7, .int (nI 55)), (0, .ref m0), (1, .int (nI a)), (2, .int (nI c9)), (3, .int (nI (cqM A))), (4, .int (nI (cqM B0))), (5, .int (nI (cqM C0))), (6, .int (nI (if A = 77 ∨ B0 = 77 ∨ C0 = 77 then 64 else 0)))]) hx hb d_Mod_compOf_357 hl (by decide) rfl (fun ls hl => ?_)
                                  exact kJ ((nI 55)) _ ⟨lv_sub hl [1, 2, 3, 4, 5, 6, 7, 0] rfl, by simp [cq5, c1, c2, c3, c4]⟩
                      · refine lv_icmp_ne (tgt := 314) hx hb d_Mod_compOf_271 (by decide) (fun c1 => ?_) (fun c1 => ?_)
                        · have c1 := mt (nI_eq (by omega) (by omega)).mpr c1
                          exact kJ (z3) _ ⟨lv_sub hl [0, 1, 2, 3, 4, 5, 6, 7] rfl, by simp [cq4, c1]⟩
                        · have c1 := (nI_eq (by omega) (by omega)).mp c1
                          refine lv_iload_n hx hb d_Mod_compOf_274 rfl (lv_at hl 3 rfl) ?_
                          refine lv_bipush (v := (nI 68)) hx hb d_Mod_compOf_275 (by decide) ?_
                          refine lv_icmp_ne (tgt := 314) hx hb d_Mod_compOf_277 (by decide) (fun c2 => ?_) (fun c2 => ?_)
                          · have c2 := mt (nI_eq (by omega) (by omega)).mpr c2
                            exact kJ (z3) _ ⟨lv_sub hl [0, 1, 2, 3, 4, 5, 6, 7] rfl, by simp [cq4, c1, c2]⟩
                          · have c2 := (nI_eq (by omega) (by omega)).mp c2
                            refine lv_iload hx hb d_Mod_compOf_280 (lv_at hl 5 rfl) ?_
                            refine lv_bipush (v := (nI 49)) hx hb d_Mod_compOf_282 (by decide) ?_
                            refine lv_icmp_ne (tgt := 314) hx hb d_Mod_compOf_284 (by decide) (fun c3 => ?_) (fun c3 => ?_)
                            · have c3 := mt (nI_eq (by omega) (by omega)).mpr c3
                              exact kJ (z3) _ ⟨lv_sub hl [0, 1, 2, 3, 4, 5, 6, 7] rfl, by simp [cq4, c1, c2, c3]⟩
                            · have c3 := (nI_eq (by omega) (by omega)).mp c3
                              refine lv_iload hx hb d_Mod_compOf_287 (lv_at hl 4 rfl) ?_
                              refine lv_bipush (v := (nI 43)) hx hb d_Mod_compOf_289 (by decide) ?_
                              refine lv_icmp_ne (tgt := 299) hx hb d_Mod_compOf_291 (by decide) (fun c4 => ?_) (fun c4 => ?_)
                              · have c4 := mt (nI_eq (by omega) (by omega)).mpr c4
                                refine lv_iload hx hb d_Mod_compOf_299 (lv_at hl 4 rfl) ?_
                                refine lv_bipush (v := (nI 45)) hx hb d_Mod_compOf_301 (by decide) ?_
                                refine lv_icmp_ne (tgt := 311) hx hb d_Mod_compOf_303 (by decide) (fun c5 => ?_) (fun c5 => ?_)
                                · have c5 := mt (nI_eq (by omega) (by omega)).mpr c5
                                  refine lv_iconst (v := (-1)) hx hb d_Mod_compOf_311 (by decide) ?_
                                  refine lv_istore (lv' := [(7, .int (-1)), (0, .ref m0), (1, .int (nI a)), (2, .int (nI c9)), (3, .int (nI (cqM A))), (4, .int (nI (cqM B0))), (5, .int (nI (cqM C0))), (6, .int (nI (if A = 77 ∨ B0 = 77 ∨ C0 = 77 then 64 else 0)))]) hx hb d_Mod_compOf_312 hl (by decide) rfl (fun ls hl => ?_)
                                  exact kJ ((-1)) _ ⟨lv_sub hl [1, 2, 3, 4, 5, 6, 7, 0] rfl, by simp [cq4, c1, c2, c3, c4, c5]⟩
                                · have c5 := (nI_eq (by omega) (by omega)).mp c5
                                  refine lv_bipush (v := (nI 14)) hx hb d_Mod_compOf_306 (by decide) ?_
                                  refine lv_goto (tgt := 312) hx hb d_Mod_compOf_308 (by decide) ?_
                                  refine lv_istore (lv' := [(7, .int (nI 14)), (0, .ref m0), (1, .int (nI a)), (2, .int (nI c9)), (3, .int (nI (cqM A))), (4, .int (nI (cqM B0))), (5, .int (nI (cqM C0))), (6, .int (nI (if A = 77 ∨ B0 = 77 ∨ C0 = 77 then 64 else 0)))]) hx hb d_Mod_compOf_312 hl (by decide) rfl (fun ls hl => ?_)
                                  exact kJ ((nI 14)) _ ⟨lv_sub hl [1, 2, 3, 4, 5, 6, 7, 0] rfl, by simp [cq4, c1, c2, c3, c4, c5]⟩
                              · have c4 := (nI_eq (by omega) (by omega)).mp c4
                                refine lv_bipush (v := (nI 31)) hx hb d_Mod_compOf_294 (by decide) ?_
                                refine lv_goto (tgt := 312) hx hb d_Mod_compOf_296 (by decide) ?_
                                refine lv_istore (lv' := [(7, .int (nI 31)), (0, .ref m0), (1, .int (nI a)), (2, .int (nI c9)), (3, .int (nI (cqM A))), (4, .int (nI (cqM B0))), (5, .int (nI (cqM C0))), (6, .int (nI (if A = 77 ∨ B0 = 77 ∨ C0 = 77 then 64 else 0)))]) hx hb d_Mod_compOf_312 hl (by decide) rfl (fun ls hl => ?_)
                                exact kJ ((nI 31)) _ ⟨lv_sub hl [1, 2, 3, 4, 5, 6, 7, 0] rfl, by simp [cq4, c1, c2, c3, c4]⟩
                    · refine lv_icmp_ne (tgt := 269) hx hb d_Mod_compOf_233 (by decide) (fun c1 => ?_) (fun c1 => ?_)
                      · have c1 := mt (nI_eq (by omega) (by omega)).mpr c1
                        exact kJ (z2) _ ⟨lv_sub hl [0, 1, 2, 3, 4, 5, 6, 7] rfl, by simp [cq3, c1]⟩
                      · have c1 := (nI_eq (by omega) (by omega)).mp c1
                        refine lv_iload_n hx hb d_Mod_compOf_236 rfl (lv_at hl 3 rfl) ?_
                        refine lv_bipush (v := (nI 33)) hx hb d_Mod_compOf_237 (by decide) ?_
                        refine lv_icmp_ne (tgt := 269) hx hb d_Mod_compOf_239 (by decide) (fun c2 => ?_) (fun c2 => ?_)
                        · have c2 := mt (nI_eq (by omega) (by omega)).mpr c2
                          exact kJ (z2) _ ⟨lv_sub hl [0, 1, 2, 3, 4, 5, 6, 7] rfl, by simp [cq3, c1, c2]⟩
                        · have c2 := (nI_eq (by omega) (by omega)).mp c2
                          refine lv_iload hx hb d_Mod_compOf_242 (lv_at hl 4 rfl) ?_
                          refine lv_bipush (v := (nI 68)) hx hb d_Mod_compOf_244 (by decide) ?_
                          refine lv_icmp_ne (tgt := 254) hx hb d_Mod_compOf_246 (by decide) (fun c3 => ?_) (fun c3 => ?_)
                          · have c3 := mt (nI_eq (by omega) (by omega)).mpr c3
                            refine lv_iload hx hb d_Mod_compOf_254 (lv_at hl 4 rfl) ?_
                            refine lv_bipush (v := (nI 65)) hx hb d_Mod_compOf_256 (by decide) ?_
                            refine lv_icmp_ne (tgt := 266) hx hb d_Mod_compOf_258 (by decide) (fun c4 => ?_) (fun c4 => ?_)
                            · have c4 := mt (nI_eq (by omega) (by omega)).mpr c4
                              refine lv_iconst (v := (-1)) hx hb d_Mod_compOf_266 (by decide) ?_
                              refine lv_istore (lv' := [(7, .int (-1)), (0, .ref m0), (1, .int (nI a)), (2, .int (nI c9)), (3, .int (nI (cqM A))), (4, .int (nI (cqM B0))), (5, .int (nI (cqM C0))), (6, .int (nI (if A = 77 ∨ B0 = 77 ∨ C0 = 77 then 64 else 0)))]) hx hb d_Mod_compOf_267 hl (by decide) rfl (fun ls hl => ?_)
                              exact kJ ((-1)) _ ⟨lv_sub hl [1, 2, 3, 4, 5, 6, 7, 0] rfl, by simp [cq3, c1, c2, c3, c4]⟩
                            · have c4 := (nI_eq (by omega) (by omega)).mp c4
                              refine lv_bipush (v := (nI 49)) hx hb d_Mod_compOf_261 (by decide) ?_
                              refine lv_goto (tgt := 267) hx hb d_Mod_compOf_263 (by decide) ?_
                              refine lv_istore (lv' := [(7, .int (nI 49)), (0, .ref m0), (1, .int (nI a)), (2, .int (nI c9)), (3, .int (nI (cqM A))), (4, .int (nI (cqM B0))), (5, .int (nI (cqM C0))), (6, .int (nI (if A = 77 ∨ B0 = 77 ∨ C0 = 77 then 64 else 0)))]) hx hb d_Mod_compOf_267 hl (by decide) rfl (fun ls hl => ?_)
                              exact kJ ((nI 49)) _ ⟨lv_sub hl [1, 2, 3, 4, 5, 6, 7, 0] rfl, by simp [cq3, c1, c2, c3, c4]⟩
                          · have c3 := (nI_eq (by omega) (by omega)).mp c3
                            refine lv_bipush (v := (nI 13)) hx hb d_Mod_compOf_249 (by decide) ?_
                            refine lv_goto (tgt := 267) hx hb d_Mod_compOf_251 (by decide) ?_
                            refine lv_istore (lv' := [(7, .int (nI 13)), (0, .ref m0), (1, .int (nI a)), (2, .int (nI c9)), (3, .int (nI (cqM A))), (4, .int (nI (cqM B0))), (5, .int (nI (cqM C0))), (6, .int (nI (if A = 77 ∨ B0 = 77 ∨ C0 = 77 then 64 else 0)))]) hx hb d_Mod_compOf_267 hl (by decide) rfl (fun ls hl => ?_)
                            exact kJ ((nI 13)) _ ⟨lv_sub hl [1, 2, 3, 4, 5, 6, 7, 0] rfl, by simp [cq3, c1, c2, c3]⟩
                  · refine lv_icmp_ne (tgt := 231) hx hb d_Mod_compOf_183 (by decide) (fun c1 => ?_) (fun c1 => ?_)
                    · have c1 := mt (nI_eq (by omega) (by omega)).mpr c1
                      exact kJ (z1) _ ⟨lv_sub hl [0, 1, 2, 3, 4, 5, 6, 7] rfl, by simp [cq2, c1]⟩
                    · have c1 := (nI_eq (by omega) (by omega)).mp c1
                      refine lv_iload_n hx hb d_Mod_compOf_186 rfl (lv_at hl 3 rfl) ?_
                      refine lv_bipush (v := (nI 45)) hx hb d_Mod_compOf_187 (by decide) ?_
                      refine lv_icmp_ne (tgt := 231) hx hb d_Mod_compOf_189 (by decide) (fun c2 => ?_) (fun c2 => ?_)
                      · have c2 := mt (nI_eq (by omega) (by omega)).mpr c2
                        exact kJ (z1) _ ⟨lv_sub hl [0, 1, 2, 3, 4, 5, 6, 7] rfl, by simp [cq2, c1, c2]⟩
                      · have c2 := (nI_eq (by omega) (by omega)).mp c2
                        refine lv_iload hx hb d_Mod_compOf_192 (lv_at hl 4 rfl) ?_
                        refine lv_bipush (v := (nI 49)) hx hb d_Mod_compOf_194 (by decide) ?_
                        refine lv_icmp_ne (tgt := 204) hx hb d_Mod_compOf_196 (by decide) (fun c3 => ?_) (fun c3 => ?_)
                        · have c3 := mt (nI_eq (by omega) (by omega)).mpr c3
                          refine lv_iload hx hb d_Mod_compOf_204 (lv_at hl 4 rfl) ?_
                          refine lv_bipush (v := (nI 68)) hx hb d_Mod_compOf_206 (by decide) ?_
                          refine lv_icmp_ne (tgt := 216) hx hb d_Mod_compOf_208 (by decide) (fun c4 => ?_) (fun c4 => ?_)
                          · have c4 := mt (nI_eq (by omega) (by omega)).mpr c4
                            refine lv_iload hx hb d_Mod_compOf_216 (lv_at hl 4 rfl) ?_
                            refine lv_bipush (v := (nI 65)) hx hb d_Mod_compOf_218 (by decide) ?_
                            refine lv_icmp_ne (tgt := 228) hx hb d_Mod_compOf_220 (by decide) (fun c5 => ?_) (fun c5 => ?_)
                            · have c5 := mt (nI_eq (by omega) (by omega)).mpr c5
                              refine lv_iconst (v := (-1)) hx hb d_Mod_compOf_228 (by decide) ?_
                              refine lv_istore (lv' := [(7, .int (-1)), (0, .ref m0), (1, .int (nI a)), (2, .int (nI c9)), (3, .int (nI (cqM A))), (4, .int (nI (cqM B0))), (5, .int (nI (cqM C0))), (6, .int (nI (if A = 77 ∨ B0 = 77 ∨ C0 = 77 then 64 else 0)))]) hx hb d_Mod_compOf_229 hl (by decide) rfl (fun ls hl => ?_)
                              exact kJ ((-1)) _ ⟨lv_sub hl [1, 2, 3, 4, 5, 6, 7, 0] rfl, by simp [cq2, c1, c2, c3, c4, c5]⟩
                            · have c5 := (nI_eq (by omega) (by omega)).mp c5
                              refine lv_bipush (v := (nI 51)) hx hb d_Mod_compOf_223 (by decide) ?_
                              refine lv_goto (tgt := 229) hx hb d_Mod_compOf_225 (by decide) ?_
                              refine lv_istore (lv' := [(7, .int (nI 51)), (0, .ref m0), (1, .int (nI a)), (2, .int (nI c9)), (3, .int (nI (cqM A))), (4, .int (nI (cqM B0))), (5, .int (nI (cqM C0))), (6, .int (nI (if A = 77 ∨ B0 = 77 ∨ C0 = 77 then 64 else 0)))]) hx hb d_Mod_compOf_229 hl (by decide) rfl (fun ls hl => ?_)
                              exact kJ ((nI 51)) _ ⟨lv_sub hl [1, 2, 3, 4, 5, 6, 7, 0] rfl, by simp [cq2, c1, c2, c3, c4, c5]⟩
                          · have c4 := (nI_eq (by omega) (by omega)).mp c4
                            refine lv_bipush (v := (nI 15)) hx hb d_Mod_compOf_211 (by decide) ?_
                            refine lv_goto (tgt := 229) hx hb d_Mod_compOf_213 (by decide) ?_
                            refine lv_istore (lv' := [(7, .int (nI 15)), (0, .ref m0), (1, .int (nI a)), (2, .int (nI c9)), (3, .int (nI (cqM A))), (4, .int (nI (cqM B0))), (5, .int (nI (cqM C0))), (6, .int (nI (if A = 77 ∨ B0 = 77 ∨ C0 = 77 then 64 else 0)))]) hx hb d_Mod_compOf_229 hl (by decide) rfl (fun ls hl => ?_)
                            exact kJ ((nI 15)) _ ⟨lv_sub hl [1, 2, 3, 4, 5, 6, 7, 0] rfl, by simp [cq2, c1, c2, c3, c4]⟩
                        · have c3 := (nI_eq (by omega) (by omega)).mp c3
                          refine lv_bipush (v := (nI 58)) hx hb d_Mod_compOf_199 (by decide) ?_
                          refine lv_goto (tgt := 229) hx hb d_Mod_compOf_201 (by decide) ?_
                          refine lv_istore (lv' := [(7, .int (nI 58)), (0, .ref m0), (1, .int (nI a)), (2, .int (nI c9)), (3, .int (nI (cqM A))), (4, .int (nI (cqM B0))), (5, .int (nI (cqM C0))), (6, .int (nI (if A = 77 ∨ B0 = 77 ∨ C0 = 77 then 64 else 0)))]) hx hb d_Mod_compOf_229 hl (by decide) rfl (fun ls hl => ?_)
                          exact kJ ((nI 58)) _ ⟨lv_sub hl [1, 2, 3, 4, 5, 6, 7, 0] rfl, by simp [cq2, c1, c2, c3]⟩
                · refine lv_icmp_ne (tgt := 181) hx hb d_Mod_compOf_131 (by decide) (fun c1 => ?_) (fun c1 => ?_)
                  · have c1 := mt (nI_eq (by omega) (by omega)).mpr c1
                    exact kJ ((-1)) _ ⟨lv_sub hl [5, 6, 7, 3, 2, 1, 4, 0] rfl, by simp [cq1, c1]⟩
                  · have c1 := (nI_eq (by omega) (by omega)).mp c1
                    refine lv_iload_n hx hb d_Mod_compOf_134 rfl (lv_at hl 3 rfl) ?_
                    refine lv_bipush (v := (nI 48)) hx hb d_Mod_compOf_135 (by decide) ?_
                    refine lv_icmp_ne (tgt := 145) hx hb d_Mod_compOf_137 (by decide) (fun c2 => ?_) (fun c2 => ?_)
                    · have c2 := mt (nI_eq (by omega) (by omega)).mpr c2
                      refine lv_iload_n hx hb d_Mod_compOf_145 rfl (lv_at hl 3 rfl) ?_
                      refine lv_bipush (v := (nI 49)) hx hb d_Mod_compOf_146 (by decide) ?_
                      refine lv_icmp_ne (tgt := 156) hx hb d_Mod_compOf_148 (by decide) (fun c3 => ?_) (fun c3 => ?_)
                      · have c3 := mt (nI_eq (by omega) (by omega)).mpr c3
                        refine lv_iload_n hx hb d_Mod_compOf_156 rfl (lv_at hl 3 rfl) ?_
                        refine lv_bipush (v := (nI 68)) hx hb d_Mod_compOf_157 (by decide) ?_
                        refine lv_icmp_ne (tgt := 167) hx hb d_Mod_compOf_159 (by decide) (fun c4 => ?_) (fun c4 => ?_)
                        · have c4 := mt (nI_eq (by omega) (by omega)).mpr c4
                          refine lv_iload_n hx hb d_Mod_compOf_167 rfl (lv_at hl 3 rfl) ?_
                          refine lv_bipush (v := (nI 65)) hx hb d_Mod_compOf_168 (by decide) ?_
                          refine lv_icmp_ne (tgt := 178) hx hb d_Mod_compOf_170 (by decide) (fun c5 => ?_) (fun c5 => ?_)
                          · have c5 := mt (nI_eq (by omega) (by omega)).mpr c5
                            refine lv_iconst (v := (-1)) hx hb d_Mod_compOf_178 (by decide) ?_
                            refine lv_istore (lv' := [(7, .int (-1)), (5, .int (nI (cqM C0))), (4, .int (nI (cqM B0))), (3, .int (nI (cqM A))), (6, .int (nI (if A = 77 ∨ B0 = 77 ∨ C0 = 77 then 64 else 0))), (0, .ref m0), (1, .int (nI a)), (2, .int (nI c9))]) hx hb d_Mod_compOf_179 hl (by decide) rfl (fun ls hl => ?_)
                            exact kJ ((-1)) _ ⟨lv_sub hl [5, 6, 7, 3, 2, 1, 4, 0] rfl, by simp [cq1, c1, c2, c3, c4, c5]⟩
                          · have c5 := (nI_eq (by omega) (by omega)).mp c5
                            refine lv_bipush (v := (nI 48)) hx hb d_Mod_compOf_173 (by decide) ?_
                            refine lv_goto (tgt := 179) hx hb d_Mod_compOf_175 (by decide) ?_
                            refine lv_istore (lv' := [(7, .int (nI 48)), (5, .int (nI (cqM C0))), (4, .int (nI (cqM B0))), (3, .int (nI (cqM A))), (6, .int (nI (if A = 77 ∨ B0 = 77 ∨ C0 = 77 then 64 else 0))), (0, .ref m0), (1, .int (nI a)), (2, .int (nI c9))]) hx hb d_Mod_compOf_179 hl (by decide) rfl (fun ls hl => ?_)
                            exact kJ ((nI 48)) _ ⟨lv_sub hl [5, 6, 7, 3, 2, 1, 4, 0] rfl, by simp [cq1, c1, c2, c3, c4, c5]⟩
                        · have c4 := (nI_eq (by omega) (by omega)).mp c4
                          refine lv_bipush (v := (nI 12)) hx hb d_Mod_compOf_162 (by decide) ?_
                          refine lv_goto (tgt := 179) hx hb d_Mod_compOf_164 (by decide) ?_
                          refine lv_istore (lv' := [(7, .int (nI 12)), (5, .int (nI (cqM C0))), (4, .int (nI (cqM B0))), (3, .int (nI (cqM A))), (6, .int (nI (if A = 77 ∨ B0 = 77 ∨ C0 = 77 then 64 else 0))), (0, .ref m0), (1, .int (nI a)), (2, .int (nI c9))]) hx hb d_Mod_compOf_179 hl (by decide) rfl (fun ls hl => ?_)
                          exact kJ ((nI 12)) _ ⟨lv_sub hl [5, 6, 7, 3, 2, 1, 4, 0] rfl, by simp [cq1, c1, c2, c3, c4]⟩
                      · have c3 := (nI_eq (by omega) (by omega)).mp c3
                        refine lv_bipush (v := (nI 63)) hx hb d_Mod_compOf_151 (by decide) ?_
                        refine lv_goto (tgt := 179) hx hb d_Mod_compOf_153 (by decide) ?_
                        refine lv_istore (lv' := [(7, .int (nI 63)), (5, .int (nI (cqM C0))), (4, .int (nI (cqM B0))), (3, .int (nI (cqM A))), (6, .int (nI (if A = 77 ∨ B0 = 77 ∨ C0 = 77 then 64 else 0))), (0, .ref m0), (1, .int (nI a)), (2, .int (nI c9))]) hx hb d_Mod_compOf_179 hl (by decide) rfl (fun ls hl => ?_)
                        exact kJ ((nI 63)) _ ⟨lv_sub hl [5, 6, 7, 3, 2, 1, 4, 0] rfl, by simp [cq1, c1, c2, c3]⟩
                    · have c2 := (nI_eq (by omega) (by omega)).mp c2
                      refine lv_bipush (v := (nI 42)) hx hb d_Mod_compOf_140 (by decide) ?_
                      refine lv_goto (tgt := 179) hx hb d_Mod_compOf_142 (by decide) ?_
                      refine lv_istore (lv' := [(7, .int (nI 42)), (5, .int (nI (cqM C0))), (4, .int (nI (cqM B0))), (3, .int (nI (cqM A))), (6, .int (nI (if A = 77 ∨ B0 = 77 ∨ C0 = 77 then 64 else 0))), (0, .ref m0), (1, .int (nI a)), (2, .int (nI c9))]) hx hb d_Mod_compOf_179 hl (by decide) rfl (fun ls hl => ?_)
                      exact kJ ((nI 42)) _ ⟨lv_sub hl [5, 6, 7, 3, 2, 1, 4, 0] rfl, by simp [cq1, c1, c2]⟩
              · refine lv_icmp_ne (tgt := 122) hx hb d_Mod_compOf_114 (by decide) (fun c1 => ?_) (fun c1 => ?_)
                · have c1 := mt (nI_eq (by omega) (by omega)).mpr c1
                  refine lv_iload hx hb d_Mod_compOf_122 (lv_at hl 3 rfl) ?_
                  exact kJ _ (congrArg nI (if_neg c1).symm)
                · have c1 := (nI_eq (by omega) (by omega)).mp c1
                  refine lv_bipush (v := (nI 65)) hx hb d_Mod_compOf_117 (by decide) ?_
                  refine lv_goto (tgt := 124) hx hb d_Mod_compOf_119 (by decide) ?_
                  exact kJ _ (congrArg nI (if_pos c1).symm)
            · refine lv_icmp_ne (tgt := 106) hx hb d_Mod_compOf_98 (by decide) (fun c1 => ?_) (fun c1 => ?_)
              · have c1 := mt (nI_eq (by omega) (by omega)).mpr c1
                refine lv_iload hx hb d_Mod_compOf_106 (lv_at hl 3 rfl) ?_
                exact kJ _ (congrArg nI (if_neg c1).symm)
              · have c1 := (nI_eq (by omega) (by omega)).mp c1
                refine lv_bipush (v := (nI 65)) hx hb d_Mod_compOf_101 (by decide) ?_
                refine lv_goto (tgt := 108) hx hb d_Mod_compOf_103 (by decide) ?_
                exact kJ _ (congrArg nI (if_pos c1).symm)
          · refine lv_icmp_ne (tgt := 92) hx hb d_Mod_compOf_84 (by decide) (fun c1 => ?_) (fun c1 => ?_)
            · have c1 := mt (nI_eq (by omega) (by omega)).mpr c1
              refine lv_iload_n hx hb d_Mod_compOf_92 rfl (lv_at hl 3 rfl) ?_
              exact kJ _ (congrArg nI (if_neg c1).symm)
            · have c1 := (nI_eq (by omega) (by omega)).mp c1
              refine lv_bipush (v := (nI 65)) hx hb d_Mod_compOf_87 (by decide) ?_
              refine lv_goto (tgt := 93) hx hb d_Mod_compOf_89 (by decide) ?_
              exact kJ _ (congrArg nI (if_pos c1).symm)
        · refine lv_icmp_eq (tgt := 73) hx hb d_Mod_compOf_56 (by decide) (fun c1 => ?_) (fun c1 => ?_)
          · have c1 := (nI_eq (by omega) (by omega)).mp c1
            refine lv_bipush (v := (nI 64)) hx hb d_Mod_compOf_73 (by decide) ?_
            refine lv_goto (tgt := 79) hx hb d_Mod_compOf_75 (by decide) ?_
            exact kJ _ (congrArg nI (if_pos (by omega)).symm)
          · have c1 := mt (nI_eq (by omega) (by omega)).mpr c1
            refine lv_iload hx hb d_Mod_compOf_59 (lv_at hl 1 rfl) ?_
            refine lv_bipush (v := (nI 77)) hx hb d_Mod_compOf_61 (by decide) ?_
            refine lv_icmp_eq (tgt := 73) hx hb d_Mod_compOf_63 (by decide) (fun c2 => ?_) (fun c2 => ?_)
            · have c2 := (nI_eq (by omega) (by omega)).mp c2
              refine lv_bipush (v := (nI 64)) hx hb d_Mod_compOf_73 (by decide) ?_
              refine lv_goto (tgt := 79) hx hb d_Mod_compOf_75 (by decide) ?_
              exact kJ _ (congrArg nI (if_pos (by omega)).symm)
            · have c2 := mt (nI_eq (by omega) (by omega)).mpr c2
              refine lv_iload hx hb d_Mod_compOf_66 (lv_at hl 0 rfl) ?_
              refine lv_bipush (v := (nI 77)) hx hb d_Mod_compOf_68 (by decide) ?_
              refine lv_icmp_ne (tgt := 78) hx hb d_Mod_compOf_70 (by decide) (fun c3 => ?_) (fun c3 => ?_)
              · have c3 := mt (nI_eq (by omega) (by omega)).mpr c3
                refine lv_iconst (v := (nI 0)) hx hb d_Mod_compOf_78 (by decide) ?_
                exact kJ _ (congrArg nI (if_neg (by omega)).symm)
              · have c3 := (nI_eq (by omega) (by omega)).mp c3
                refine lv_bipush (v := (nI 64)) hx hb d_Mod_compOf_73 (by decide) ?_
                refine lv_goto (tgt := 79) hx hb d_Mod_compOf_75 (by decide) ?_
                exact kJ _ (congrArg nI (if_pos (by omega)).symm)
      · refine lv_icmp_le (tgt := 50) hx hb d_Mod_compOf_36 (by decide) (fun c1 => ?_) (fun c1 => ?_)
        · have c1 := (nI_leI (b := 2) (by omega) (by omega)).mp c1
          refine lv_iconst (v := (nI 0)) hx hb d_Mod_compOf_50 (by decide) ?_
          exact kJ _ (congrArg nI (if_pos c1).symm)
        · have c1 := mt (nI_leI (b := 2) (by omega) (by omega)).mpr c1
          refine lv_aload_n hx hb d_Mod_compOf_39 rfl (lv_at hl 2 rfl) ?_
          refine va_get (D := g.1) (ci := 8) (v := .ref mtt) (C := "SignDeskModel") (T := F_Mod) (N := 19) hx hb hts in_Mod hown hK hP 0 rfl rfl 0 (by decide) (hts _ k_494) (fun _ h9 => h9) rfl d_Mod_compOf_40 ?_
          refine lv_iload_n hx hb d_Mod_compOf_43 rfl (lv_at hl 3 rfl) ?_
          refine lv_iconst (v := (nI 2)) hx hb d_Mod_compOf_44 (by decide) ?_
          refine lv_iadd hx hb d_Mod_compOf_45 ?_
          refine sd_topi (y := nI (a + 2)) (nI_add _ _) ?_
          refine va_iald hx hb hK hP 1 1 rfl rfl (i := (nI (a + 2))) (vp_in_nI (by omega) (by omega)) d_Mod_compOf_46 ?_
          refine sd_topi (y := nI (tx (a + 2))) (by rw [nI_clamp (by omega)]; exact hT.2.2.1 _ (by omega)) ?_
          have hb8i := hb8 (a + 2)
          refine lv_goto (tgt := 51) hx hb d_Mod_compOf_47 (by decide) ?_
          exact kJ _ (congrArg nI (if_neg c1).symm)
    · refine lv_icmp_le (tgt := 31) hx hb d_Mod_compOf_17 (by decide) (fun c1 => ?_) (fun c1 => ?_)
      · have c1 := (nI_leI (b := 1) (by omega) (by omega)).mp c1
        refine lv_iconst (v := (nI 0)) hx hb d_Mod_compOf_31 (by decide) ?_
        exact kJ _ (congrArg nI (if_pos c1).symm)
      · have c1 := mt (nI_leI (b := 1) (by omega) (by omega)).mpr c1
        refine lv_aload_n hx hb d_Mod_compOf_20 rfl (lv_at hl 1 rfl) ?_
        refine va_get (D := g.1) (ci := 8) (v := .ref mtt) (C := "SignDeskModel") (T := F_Mod) (N := 19) hx hb hts in_Mod hown hK hP 0 rfl rfl 0 (by decide) (hts _ k_494) (fun _ h9 => h9) rfl d_Mod_compOf_21 ?_
        refine lv_iload_n hx hb d_Mod_compOf_24 rfl (lv_at hl 2 rfl) ?_
        refine lv_iconst (v := (nI 1)) hx hb d_Mod_compOf_25 (by decide) ?_
        refine lv_iadd hx hb d_Mod_compOf_26 ?_
        refine sd_topi (y := nI (a + 1)) (nI_add _ _) ?_
        refine va_iald hx hb hK hP 1 1 rfl rfl (i := (nI (a + 1))) (vp_in_nI (by omega) (by omega)) d_Mod_compOf_27 ?_
        refine sd_topi (y := nI (tx (a + 1))) (by rw [nI_clamp (by omega)]; exact hT.2.2.1 _ (by omega)) ?_
        have hb8i := hb8 (a + 1)
        refine lv_goto (tgt := 32) hx hb d_Mod_compOf_28 (by decide) ?_
        exact kJ _ (congrArg nI (if_neg c1).symm)
  · refine lv_if_le (tgt := 13) hx hb d_Mod_compOf_1 (by decide) (fun c1 => ?_) (fun c1 => ?_)
    · have c1 := (nI_leI (b := 0) (by omega) (by omega)).mp c1
      refine lv_iconst (v := (nI 0)) hx hb d_Mod_compOf_13 (by decide) ?_
      exact kJ _ (congrArg nI (if_pos c1).symm)
    · have c1 := mt (nI_leI (b := 0) (by omega) (by omega)).mpr c1
      refine lv_aload_n hx hb d_Mod_compOf_4 rfl (lv_at hl 0 rfl) ?_
      refine va_get (D := g.1) (ci := 8) (v := .ref mtt) (C := "SignDeskModel") (T := F_Mod) (N := 19) hx hb hts in_Mod hown hK hP 0 rfl rfl 0 (by decide) (hts _ k_494) (fun _ h9 => h9) rfl d_Mod_compOf_5 ?_
      refine lv_iload_n hx hb d_Mod_compOf_8 rfl (lv_at hl 1 rfl) ?_
      refine va_iald hx hb hK hP 1 1 rfl rfl (i := (nI a)) (vp_in_nI (by omega) (by omega)) d_Mod_compOf_9 ?_
      refine sd_topi (y := nI (tx (a))) (by rw [nI_clamp (by omega)]; exact hT.2.2.1 _ (by omega)) ?_
      have hb8i := hb8 (a)
      refine lv_goto (tgt := 14) hx hb d_Mod_compOf_10 (by decide) ?_
      exact kJ _ (congrArg nI (if_neg c1).symm)
