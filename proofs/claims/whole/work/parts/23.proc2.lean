def ad15 (a : Int32) : Nat := a.toBitVec.toNat % 2 ^ 15
theorem ad15_lt (a : Int32) : ad15 a < 32768 := Nat.mod_lt _ (by decide)
theorem ad15_ok (a : Int32) : a &&& nI 32767 = nI (ad15 a) := pk_and a 15 (by decide)
theorem alu_short (b x y : Int32) : (alu b x y).toInt16.toInt32 = alu b x y := by unfold alu; simp
/-- the processor: A, D, the next instruction, the store, which pages are there -/
abbrev PS : Type := Int32 × Int32 × Nat × (Nat → Int32) × (Nat → Bool)
def pY (wd : Nat) (a : Int32) (M : Nat → Int32) : Int32 := if nI wd &&& nI 4096 = 0 then a else M (ad15 a)
def pR (wd : Nat) (a d : Int32) (M : Nat → Int32) : Int32 := alu (nI wd >>> (nI 6 &&& 31)) d (pY wd a M)
def pS (r : Int32) : Int32 := if r ≤ 0 then (if r = 0 then nI 2 else nI 4) else nI 1
def pN (wd : Nat) (a r : Int32) (nx : Nat) : Nat := if nI wd &&& pS r = 0 then nx + 1 else ad15 a
def pM (wd : Nat) (a r : Int32) (M : Nat → Int32) : Nat → Int32 := if nI wd &&& nI 8 = 0 then M else upd M (ad15 a) r
def pG (wd : Nat) (a : Int32) (pg : Nat → Bool) : Nat → Bool := if nI wd &&& nI 8 = 0 then pg else va_up pg (ad15 a / 256) true
def pstep (wd : Nat) (ps : PS) : PS :=
  if wd ≤ 32767 then (nI wd, ps.2.1, ps.2.2.1 + 1, ps.2.2.2.1, ps.2.2.2.2)
  else (if nI wd &&& nI 32 = 0 then ps.1 else pR wd ps.1 ps.2.1 ps.2.2.2.1, if nI wd &&& nI 16 = 0 then ps.2.1 else pR wd ps.1 ps.2.1 ps.2.2.2.1, pN wd ps.1 (pR wd ps.1 ps.2.1 ps.2.2.2.1) ps.2.2.1, pM wd ps.1 (pR wd ps.1 ps.2.1 ps.2.2.2.1) ps.2.2.2.1, pG wd ps.1 ps.2.2.2.2)
def cntpN (pg : Nat → Bool) : Nat → Nat
  | 0 => 0
  | k + 1 => cntpN pg k + if pg k = true then 1 else 0
/-- how many pages are there -/
def cntp (pg : Nat → Bool) : Nat := cntpN pg 128
theorem cntpN_le (pg : Nat → Bool) (n : Nat) : cntpN pg n ≤ n := by
  induction n with
  | zero => exact Nat.le_refl _
  | succ n ih => show cntpN pg n + (if pg n = true then 1 else 0) ≤ n + 1; split <;> omega
theorem cntpN_out {pg : Nat → Bool} {k : Nat} : ∀ n, n ≤ k → cntpN (va_up pg k true) n = cntpN pg n := by
  intro n
  induction n with
  | zero => intro _; rfl
  | succ n ih =>
    intro h
    show cntpN (va_up pg k true) n + (if va_up pg k true n = true then 1 else 0) = cntpN pg n + (if pg n = true then 1 else 0)
    rw [ih (by omega), va_up_ne _ _ (by omega)]
theorem cntpN_up {pg : Nat → Bool} {k : Nat} : ∀ n, k < n → cntpN (va_up pg k true) n = cntpN pg n + (if pg k = true then 0 else 1) := by
  intro n
  induction n with
  | zero => intro h; exact absurd h (Nat.not_lt_zero k)
  | succ n ih =>
    intro h
    show cntpN (va_up pg k true) n + (if va_up pg k true n = true then 1 else 0) = cntpN pg n + (if pg n = true then 1 else 0) + _
    by_cases e : n = k
    · subst e
      rw [cntpN_out n (Nat.le_refl _), va_up_self]
      by_cases q : pg n = true
      · simp [q]
      · simp [q]
    · rw [ih (by omega), va_up_ne _ _ e]; omega
theorem cntp_up {pg : Nat → Bool} {k : Nat} (hk : k < 128) : cntp (va_up pg k true) = cntp pg + (if pg k = true then 0 else 1) := cntpN_up 128 hk
theorem cntp_le (pg : Nat → Bool) : cntp pg ≤ 128 := cntpN_le pg 128
theorem pG_mono (wd : Nat) (a : Int32) (pg : Nat → Bool) : cntp pg ≤ cntp (pG wd a pg) := by
  unfold pG
  split
  · exact Nat.le_refl _
  · rw [cntp_up (by have := ad15_lt a; omega)]; omega
theorem pstep_mono (wd : Nat) (ps : PS) : cntp ps.2.2.2.2 ≤ cntp (pstep wd ps).2.2.2.2 := by
  unfold pstep
  split
  · exact Nat.le_refl _
  · exact pG_mono _ _ _
def prun (cw : Nat → Nat) (wn : Nat) : Nat → PS → Nat × PS
  | 0, ps => (0, ps)
  | k + 1, ps => if ps.2.2.1 < wn then ((prun cw wn k (pstep (cw ps.2.2.1) ps)).1 + 1, (prun cw wn k (pstep (cw ps.2.2.1) ps)).2) else (0, ps)
theorem prun_mono (cw : Nat → Nat) (wn : Nat) : ∀ (k : Nat) (ps : PS), cntp ps.2.2.2.2 ≤ cntp (prun cw wn k ps).2.2.2.2.2 := by
  intro k
  induction k with
  | zero => intro ps; exact Nat.le_refl _
  | succ k ih =>
    intro ps
    unfold prun
    split
    · exact Nat.le_trans (pstep_mono _ ps) (ih _)
    · exact Nat.le_refl _
set_option maxHeartbeats 4000000 in
set_option maxRecDepth 100000 in
/-- a -/
theorem c_Prc_a (l : Launch) (g : sdG) (qc q2 qm : Nat) (a d nx9 dn : Int32) : Met l y_Prc_a (.code y_Prc_a b_Prc_a 1 (some .int) :: sdT) ({ frames := 0, cells := 0, slots := 0, locals := 0 }) (va_Pc [.ref qc] (sdR g [(qc, .inr (2, [.ref q2, .ref qm, .int a, .int d, .int nx9, .int dn]))])) (vp_Si (fun r => r = a)) 0 0 (fun _ => False) := by
  refine Met.ofW (cc := b_Prc_a) (maxL := 1) (ret := (some .int)) (by decide) rfl ?_
  intro p ev s m args below meth c s₁ B hml hv
  obtain ⟨rfl, hP, hK, hE⟩ := hv
  have hx := B.exec
  have hb := B.bytes
  have hr := B.returns
  have hts := fun (w : Cond) (h : w ∈ sdT) => atoms_spec (ws := (.code y_Prc_a b_Prc_a 1 (some .int) :: sdT)) B.pre w (List.mem_cons_of_mem _ h)
  have hown : s.vm.findClass "SignDesk$Processor" = some m.cls := findClass_of_methodNamed B.named
  have hlocks := B.notSynchronized
  have hF : ∀ a : Nat, a < s.heap.size → ¬ sdA g a → s.heap[a]? = s.heap[a]? := fun _ _ _ => rfl
  have hP : sdP g [(qc, .inr (2, [.ref q2, .ref qm, .int a, .int d, .int nx9, .int dn]))] s.heap := hP
  have hl := lv_entry ([.ref qc]) (n := 1) (Nat.le_of_ble_eq_true rfl)
  rw [lg_entry_eq]
  generalize (lg_sl ([.ref qc]) ++ List.replicate (1 - (lg_sl ([.ref qc])).length) Slot.unset).toArray = ls at hl ⊢
  have hl : lv_has ls 1 [(0, .ref qc)] := hl
  refine lv_aload_n hx hb d_Prc_a_0 rfl (lv_at hl 0 rfl) ?_
  refine va_get (D := g.1) (ci := 2) (v := .int a) (C := "SignDesk$Processor") (T := F_Prc) (N := 6) hx hb hts in_Prc hown hK hP 0 rfl rfl 2 (by decide) (hts _ k_134) (fun _ h9 => h9) rfl d_Prc_a_1 ?_
  exact W.iret (v := a) hx hb hr  (fun t ht hW => ⟨_, rfl, rfl, ht⟩) (fun _ h => by cases h) d_Prc_a_4
set_option maxHeartbeats 4000000 in
set_option maxRecDepth 100000 in
/-- d -/
theorem c_Prc_d (l : Launch) (g : sdG) (qc q2 qm : Nat) (a d nx9 dn : Int32) : Met l y_Prc_d (.code y_Prc_d b_Prc_d 1 (some .int) :: sdT) ({ frames := 0, cells := 0, slots := 0, locals := 0 }) (va_Pc [.ref qc] (sdR g [(qc, .inr (2, [.ref q2, .ref qm, .int a, .int d, .int nx9, .int dn]))])) (vp_Si (fun r => r = d)) 0 0 (fun _ => False) := by
  refine Met.ofW (cc := b_Prc_d) (maxL := 1) (ret := (some .int)) (by decide) rfl ?_
  intro p ev s m args below meth c s₁ B hml hv
  obtain ⟨rfl, hP, hK, hE⟩ := hv
  have hx := B.exec
  have hb := B.bytes
  have hr := B.returns
  have hts := fun (w : Cond) (h : w ∈ sdT) => atoms_spec (ws := (.code y_Prc_d b_Prc_d 1 (some .int) :: sdT)) B.pre w (List.mem_cons_of_mem _ h)
  have hown : s.vm.findClass "SignDesk$Processor" = some m.cls := findClass_of_methodNamed B.named
  have hlocks := B.notSynchronized
  have hF : ∀ a : Nat, a < s.heap.size → ¬ sdA g a → s.heap[a]? = s.heap[a]? := fun _ _ _ => rfl
  have hP : sdP g [(qc, .inr (2, [.ref q2, .ref qm, .int a, .int d, .int nx9, .int dn]))] s.heap := hP
  have hl := lv_entry ([.ref qc]) (n := 1) (Nat.le_of_ble_eq_true rfl)
  rw [lg_entry_eq]
  generalize (lg_sl ([.ref qc]) ++ List.replicate (1 - (lg_sl ([.ref qc])).length) Slot.unset).toArray = ls at hl ⊢
  have hl : lv_has ls 1 [(0, .ref qc)] := hl
  refine lv_aload_n hx hb d_Prc_d_0 rfl (lv_at hl 0 rfl) ?_
  refine va_get (D := g.1) (ci := 2) (v := .int d) (C := "SignDesk$Processor") (T := F_Prc) (N := 6) hx hb hts in_Prc hown hK hP 0 rfl rfl 3 (by decide) (hts _ k_135) (fun _ h9 => h9) rfl d_Prc_d_1 ?_
  exact W.iret (v := d) hx hb hr  (fun t ht hW => ⟨_, rfl, rfl, ht⟩) (fun _ h => by cases h) d_Prc_d_4
set_option maxHeartbeats 4000000 in
set_option maxRecDepth 100000 in
/-- next -/
theorem c_Prc_next (l : Launch) (g : sdG) (qc q2 qm : Nat) (a d nx9 dn : Int32) : Met l y_Prc_next (.code y_Prc_next b_Prc_next 1 (some .int) :: sdT) ({ frames := 0, cells := 0, slots := 0, locals := 0 }) (va_Pc [.ref qc] (sdR g [(qc, .inr (2, [.ref q2, .ref qm, .int a, .int d, .int nx9, .int dn]))])) (vp_Si (fun r => r = nx9)) 0 0 (fun _ => False) := by
  refine Met.ofW (cc := b_Prc_next) (maxL := 1) (ret := (some .int)) (by decide) rfl ?_
  intro p ev s m args below meth c s₁ B hml hv
  obtain ⟨rfl, hP, hK, hE⟩ := hv
  have hx := B.exec
  have hb := B.bytes
  have hr := B.returns
  have hts := fun (w : Cond) (h : w ∈ sdT) => atoms_spec (ws := (.code y_Prc_next b_Prc_next 1 (some .int) :: sdT)) B.pre w (List.mem_cons_of_mem _ h)
  have hown : s.vm.findClass "SignDesk$Processor" = some m.cls := findClass_of_methodNamed B.named
  have hlocks := B.notSynchronized
  have hF : ∀ a : Nat, a < s.heap.size → ¬ sdA g a → s.heap[a]? = s.heap[a]? := fun _ _ _ => rfl
  have hP : sdP g [(qc, .inr (2, [.ref q2, .ref qm, .int a, .int d, .int nx9, .int dn]))] s.heap := hP
  have hl := lv_entry ([.ref qc]) (n := 1) (Nat.le_of_ble_eq_true rfl)
  rw [lg_entry_eq]
  generalize (lg_sl ([.ref qc]) ++ List.replicate (1 - (lg_sl ([.ref qc])).length) Slot.unset).toArray = ls at hl ⊢
  have hl : lv_has ls 1 [(0, .ref qc)] := hl
  refine lv_aload_n hx hb d_Prc_next_0 rfl (lv_at hl 0 rfl) ?_
  refine va_get (D := g.1) (ci := 2) (v := .int nx9) (C := "SignDesk$Processor") (T := F_Prc) (N := 6) hx hb hts in_Prc hown hK hP 0 rfl rfl 4 (by decide) (hts _ k_136) (fun _ h9 => h9) rfl d_Prc_next_1 ?_
  exact W.iret (v := nx9) hx hb hr  (fun t ht hW => ⟨_, rfl, rfl, ht⟩) (fun _ h => by cases h) d_Prc_next_4
set_option maxHeartbeats 4000000 in
set_option maxRecDepth 100000 in
/-- done -/
theorem c_Prc_done (l : Launch) (g : sdG) (qc q2 qm : Nat) (a d nx9 dn : Int32) : Met l y_Prc_done (.code y_Prc_done b_Prc_done 1 (some .int) :: sdT) ({ frames := 0, cells := 0, slots := 0, locals := 0 }) (va_Pc [.ref qc] (sdR g [(qc, .inr (2, [.ref q2, .ref qm, .int a, .int d, .int nx9, .int dn]))])) (vp_Si (fun r => r = dn)) 0 0 (fun _ => False) := by
  refine Met.ofW (cc := b_Prc_done) (maxL := 1) (ret := (some .int)) (by decide) rfl ?_
  intro p ev s m args below meth c s₁ B hml hv
  obtain ⟨rfl, hP, hK, hE⟩ := hv
  have hx := B.exec
  have hb := B.bytes
  have hr := B.returns
  have hts := fun (w : Cond) (h : w ∈ sdT) => atoms_spec (ws := (.code y_Prc_done b_Prc_done 1 (some .int) :: sdT)) B.pre w (List.mem_cons_of_mem _ h)
  have hown : s.vm.findClass "SignDesk$Processor" = some m.cls := findClass_of_methodNamed B.named
  have hlocks := B.notSynchronized
  have hF : ∀ a : Nat, a < s.heap.size → ¬ sdA g a → s.heap[a]? = s.heap[a]? := fun _ _ _ => rfl
  have hP : sdP g [(qc, .inr (2, [.ref q2, .ref qm, .int a, .int d, .int nx9, .int dn]))] s.heap := hP
  have hl := lv_entry ([.ref qc]) (n := 1) (Nat.le_of_ble_eq_true rfl)
  rw [lg_entry_eq]
  generalize (lg_sl ([.ref qc]) ++ List.replicate (1 - (lg_sl ([.ref qc])).length) Slot.unset).toArray = ls at hl ⊢
  have hl : lv_has ls 1 [(0, .ref qc)] := hl
  refine lv_aload_n hx hb d_Prc_done_0 rfl (lv_at hl 0 rfl) ?_
  refine va_get (D := g.1) (ci := 2) (v := .int dn) (C := "SignDesk$Processor") (T := F_Prc) (N := 6) hx hb hts in_Prc hown hK hP 0 rfl rfl 5 (by decide) (hts _ k_137) (fun _ h9 => h9) rfl d_Prc_done_1 ?_
  exact W.iret (v := dn) hx hb hr  (fun t ht hW => ⟨_, rfl, rfl, ht⟩) (fun _ h => by cases h) d_Prc_done_4
set_option maxHeartbeats 4000000 in
set_option maxRecDepth 100000 in
/-- perform(word) -/
theorem c_Prc_perform (l : Launch) (g : sdG) (qc q2 qm qp : Nat) (a d : Int32) (nx : Nat) (dn : Int32) (pf : Nat → Option Nat) (L : List Nat) (fE : Nat → va_E) (M : Nat → Int32) (pg : Nat → Bool) (hM : memOK g pf L fE M pg) (wd : Nat) (hwd : wd < 65536) (mc ms : Nat) (hmc : ¬ wd ≤ 32767 → ¬ nI wd &&& nI 8 = 0 → pg (ad15 a / 256) = false → 2 ≤ mc ∧ 257 ≤ ms) (sz : Nat) : Met l y_Prc_perform (.code y_Prc_perform b_Prc_perform 6 none :: sdT) ({ frames := 3, cells := mc, slots := ms, locals := 64 }) (va_Pc [.ref qc, .int (nI wd)] (sdU g ([(qc, .inr (2, [.ref q2, .ref qm, .int a, .int d, .int (nI nx), .int dn])), (qm, .inr (0, [.ref qp])), (qp, .inl (gP g, 128, .inr (.inr (.inr (.inr pf)))))] ++ va_pl L fE) sz)) (va_Qv (S := Int32 × Int32 × Nat × (Nat → Option Nat) × List Nat × (Nat → va_E)) (fun u => ∃ M1 pg1, pstep wd (a, d, nx, M, pg) = (u.1, u.2.1, u.2.2.1, M1, pg1) ∧ memOK g u.2.2.2.1 u.2.2.2.2.1 u.2.2.2.2.2 M1 pg1) (fun u t => sdB g ([(qc, .inr (2, [.ref q2, .ref qm, .int a, .int d, .int (nI nx), .int dn])), (qm, .inr (0, [.ref qp])), (qp, .inl (gP g, 128, .inr (.inr (.inr (.inr pf)))))] ++ va_pl L fE) sz ((fun u => ([(qc, .inr (2, [.ref q2, .ref qm, .int u.1, .int u.2.1, .int (nI u.2.2.1), .int dn])), (qm, .inr (0, [.ref qp])), (qp, .inl (gP g, 128, .inr (.inr (.inr (.inr u.2.2.2.1)))))] ++ va_pl u.2.2.2.2.1 u.2.2.2.2.2) : Int32 × Int32 × Nat × (Nat → Option Nat) × List Nat × (Nat → va_E) → va_W) u) t) (va_A ([(qc, .inr (2, [.ref q2, .ref qm, .int a, .int d, .int (nI nx), .int dn])), (qm, .inr (0, [.ref qp])), (qp, .inl (gP g, 128, .inr (.inr (.inr (.inr pf)))))] ++ va_pl L fE) sz)) mc ms (va_A ([(qc, .inr (2, [.ref q2, .ref qm, .int a, .int d, .int (nI nx), .int dn])), (qm, .inr (0, [.ref qp])), (qp, .inl (gP g, 128, .inr (.inr (.inr (.inr pf)))))] ++ va_pl L fE) sz) := by
  refine Met.ofW (cc := b_Prc_perform) (maxL := 6) (ret := none) (by decide) rfl ?_
  intro p ev s m args below meth c s₁ B hml hv
  obtain ⟨rfl, hsz, hP, hK, hE, hD0, hs0⟩ := hv
  have hx := B.exec
  have hb := B.bytes
  have hr := B.returns
  have hts := fun (w : Cond) (h : w ∈ sdT) => atoms_spec (ws := (.code y_Prc_perform b_Prc_perform 6 none :: sdT)) B.pre w (List.mem_cons_of_mem _ h)
  have hown : s.vm.findClass "SignDesk$Processor" = some m.cls := findClass_of_methodNamed B.named
  have hlocks := B.notSynchronized
  subst hsz
  have hD := hD0.self (sz := s.heap.size)
  have hA0 : ∀ q : Nat, va_A ([(qc, .inr (2, [.ref q2, .ref qm, .int a, .int d, .int (nI nx), .int dn])), (qm, .inr (0, [.ref qp])), (qp, .inl (gP g, 128, .inr (.inr (.inr (.inr pf)))))] ++ va_pl L fE) s.heap.size q → gS g ≤ q := fun q h => h.elim (fun ⟨k, e, hk⟩ => hD0.2 k _ hk) (fun h => Nat.le_trans hs0 h)
  have hA : ∀ q : Nat, s.heap.size ≤ q → va_A ([(qc, .inr (2, [.ref q2, .ref qm, .int a, .int d, .int (nI nx), .int dn])), (qm, .inr (0, [.ref qp])), (qp, .inl (gP g, 128, .inr (.inr (.inr (.inr pf)))))] ++ va_pl L fE) s.heap.size q := fun q h => Or.inr h
  generalize hAe : va_A ([(qc, .inr (2, [.ref q2, .ref qm, .int a, .int d, .int (nI nx), .int dn])), (qm, .inr (0, [.ref qp])), (qp, .inl (gP g, 128, .inr (.inr (.inr (.inr pf)))))] ++ va_pl L fE) s.heap.size = A at hD hA0 hA ⊢
  have hS : va_S A s.heap s.heap [] := va_S.rf
  have hP : sdP g ([(qc, .inr (2, [.ref q2, .ref qm, .int a, .int d, .int (nI nx), .int dn])), (qm, .inr (0, [.ref qp])), (qp, .inl (gP g, 128, .inr (.inr (.inr (.inr pf)))))] ++ va_pl L fE) s.heap := hP
  have hl := lv_entry ([.ref qc, .int (nI wd)]) (n := 6) (Nat.le_of_ble_eq_true rfl)
  rw [lg_entry_eq]
  generalize (lg_sl ([.ref qc, .int (nI wd)]) ++ List.replicate (6 - (lg_sl ([.ref qc, .int (nI wd)])).length) Slot.unset).toArray = ls at hl ⊢
  have hl : lv_has ls 6 [(0, .ref qc), (1, .int (nI wd))] := hl
  have h15 := ad15_lt a
  refine lv_iload_n hx hb d_Prc_perform_0 rfl (lv_at hl 1 rfl) ?_
  refine lv_sipush (v := (nI 32767)) hx hb d_Prc_perform_1 (by decide) ?_
  refine lv_icmp_gt (tgt := 23) hx hb d_Prc_perform_4 (by decide) (fun c1 => ?_) (fun c1 => ?_)
  · have c1 := (nI_ltI (by omega) (by omega)).mp c1
    refine lv_aload_n hx hb d_Prc_perform_23 rfl (lv_at hl 0 rfl) ?_
    refine va_get (D := g.1) (ci := 2) (v := .int a) (C := "SignDesk$Processor") (T := F_Prc) (N := 6) hx hb hts in_Prc hown hK hP 0 rfl rfl 2 (by decide) (hts _ k_134) (fun _ h9 => h9) rfl d_Prc_perform_24 ?_
    refine lv_sipush (v := (nI 32767)) hx hb d_Prc_perform_27 (by decide) ?_
    refine lv_iand hx hb d_Prc_perform_30 ?_
    refine sd_topi (y := nI (ad15 a)) (ad15_ok a) ?_
    refine lv_istore_n (lv' := [(2, .int (nI (ad15 a))), (0, .ref qc), (1, .int (nI wd))]) hx hb d_Prc_perform_31 rfl hl (by decide) rfl (fun ls hl => ?_)
    refine lv_iload_n hx hb d_Prc_perform_32 rfl (lv_at hl 2 rfl) ?_
    refine lv_sipush (v := (nI 4096)) hx hb d_Prc_perform_33 (by decide) ?_
    refine lv_iand hx hb d_Prc_perform_36 ?_
    refine sd_cutv (ls := ls) (fun z => z = pY wd a M) 55 [] (fun z9 ez9 => ?_) (fun kJ => ?_)
    · subst ez9
      refine lv_istore_n (lv' := [(3, .int (pY wd a M)), (2, .int (nI (ad15 a))), (0, .ref qc), (1, .int (nI wd))]) hx hb d_Prc_perform_55 rfl hl (by decide) rfl (fun ls hl => ?_)
      refine lv_iload_n hx hb d_Prc_perform_56 rfl (lv_at hl 3 rfl) ?_
      refine lv_bipush (v := (nI 6)) hx hb d_Prc_perform_57 (by decide) ?_
      refine lv_ishr hx hb d_Prc_perform_59 ?_
      refine lv_aload_n hx hb d_Prc_perform_60 rfl (lv_at hl 2 rfl) ?_
      refine va_get (D := g.1) (ci := 2) (v := .int d) (C := "SignDesk$Processor") (T := F_Prc) (N := 6) hx hb hts in_Prc hown hK hP 0 rfl rfl 3 (by decide) (hts _ k_135) (fun _ h9 => h9) rfl d_Prc_perform_61 ?_
      refine lv_iload_n hx hb d_Prc_perform_64 rfl (lv_at hl 0 rfl) ?_
      refine sd_ri (va_runS (As := [.int ((nI wd) >>> ((nI 6) &&& 31)), .int d, .int (pY wd a M)]) (rest := []) ⟨hx, hb, hml, hown, hts⟩ (c_Prc_compute l (nI wd >>> (nI 6 &&& 31)) d (pY wd a M)) (va_cwS 3 hts (sd_gS k_424 k_425 k_28 k_426) rfl rfl rfl (by decide +kernel) ⟨Nat.le_of_ble_eq_true rfl, Nat.le_of_ble_eq_true rfl⟩) preEq rfl rfl hl.1 rfl (lv_room (Nat.le_of_ble_eq_true rfl)) d_Prc_perform_65 ⟨Nat.zero_le _, Nat.zero_le _⟩) (fun r2 er2 => ?_)
      subst er2
      refine sd_topi (y := pR wd a d M) (rfl) ?_
      refine lv_istore (lv' := [(4, .int (pR wd a d M)), (3, .int (pY wd a M)), (2, .int (nI (ad15 a))), (0, .ref qc), (1, .int (nI wd))]) hx hb d_Prc_perform_68 hl (by decide) rfl (fun ls hl => ?_)
      refine lv_iload_n hx hb d_Prc_perform_70 rfl (lv_at hl 4 rfl) ?_
      refine lv_bipush (v := (nI 8)) hx hb d_Prc_perform_71 (by decide) ?_
      refine lv_iand hx hb d_Prc_perform_73 ?_
      refine sd_cut (fun (x : Heap × List Loc × (Nat → Option Nat) × List Nat × (Nat → va_E)) => match x with | (H, locs, pf1, L1, f1) => sdP g ([(qc, .inr (2, [.ref q2, .ref qm, .int a, .int d, .int (nI nx), .int dn])), (qm, .inr (0, [.ref qp])), (qp, .inl (gP g, 128, .inr (.inr (.inr (.inr pf1)))))] ++ va_pl L1 f1) H ∧ va_D A ([(qc, .inr (2, [.ref q2, .ref qm, .int a, .int d, .int (nI nx), .int dn])), (qm, .inr (0, [.ref qp])), (qp, .inl (gP g, 128, .inr (.inr (.inr (.inr pf1)))))] ++ va_pl L1 f1) ∧ va_S A s.heap H locs ∧ (memOK g pf1 L1 f1 (pM wd a (pR wd a d M) M) (pG wd a pg))) (fun x => x.1) (fun x => x.2.1) (fun _ => mc) (fun _ => ms) (fun _ => F0 m 87 ls []) (fun x hI => ?_) (fun kJ => ?_)
      · obtain ⟨H, locs, pf1, L1, f1⟩ := x
        obtain ⟨hP, hD, hS, hM1⟩ := hI
        show W p l ev _ s m _ below meth c H locs mc ms _ (F0 m 87 ls [])
        have hP : sdP g ([(qc, .inr (2, [.ref q2, .ref qm, .int a, .int d, .int (nI nx), .int dn])), (qm, .inr (0, [.ref qp])), (qp, .inl (gP g, 128, .inr (.inr (.inr (.inr pf1)))))] ++ va_pl L1 f1) H := hP
        have hD : va_D A ([(qc, .inr (2, [.ref q2, .ref qm, .int a, .int d, .int (nI nx), .int dn])), (qm, .inr (0, [.ref qp])), (qp, .inl (gP g, 128, .inr (.inr (.inr (.inr pf1)))))] ++ va_pl L1 f1) := hD
        refine lv_iload_n hx hb d_Prc_perform_87 rfl (lv_at hl 4 rfl) ?_
        refine lv_bipush (v := (nI 32)) hx hb d_Prc_perform_88 (by decide) ?_
        refine lv_iand hx hb d_Prc_perform_90 ?_
        refine sd_cut (fun (x : Heap × List Loc × Int32) => match x with | (H, locs, a1) => sdP g ([(qc, .inr (2, [.ref q2, .ref qm, .int a1, .int d, .int (nI nx), .int dn])), (qm, .inr (0, [.ref qp])), (qp, .inl (gP g, 128, .inr (.inr (.inr (.inr pf1)))))] ++ va_pl L1 f1) H ∧ va_D A ([(qc, .inr (2, [.ref q2, .ref qm, .int a1, .int d, .int (nI nx), .int dn])), (qm, .inr (0, [.ref qp])), (qp, .inl (gP g, 128, .inr (.inr (.inr (.inr pf1)))))] ++ va_pl L1 f1) ∧ va_S A s.heap H locs ∧ (a1 = if nI wd &&& nI 32 = 0 then a else (pR wd a d M))) (fun x => x.1) (fun x => x.2.1) (fun _ => mc) (fun _ => ms) (fun _ => F0 m 100 ls []) (fun x hI => ?_) (fun kJ => ?_)
        · obtain ⟨H, locs, a1⟩ := x
          obtain ⟨hP, hD, hS, ea1⟩ := hI
          show W p l ev _ s m _ below meth c H locs mc ms _ (F0 m 100 ls [])
          have hP : sdP g ([(qc, .inr (2, [.ref q2, .ref qm, .int a1, .int d, .int (nI nx), .int dn])), (qm, .inr (0, [.ref qp])), (qp, .inl (gP g, 128, .inr (.inr (.inr (.inr pf1)))))] ++ va_pl L1 f1) H := hP
          have hD : va_D A ([(qc, .inr (2, [.ref q2, .ref qm, .int a1, .int d, .int (nI nx), .int dn])), (qm, .inr (0, [.ref qp])), (qp, .inl (gP g, 128, .inr (.inr (.inr (.inr pf1)))))] ++ va_pl L1 f1) := hD
          refine lv_iload_n hx hb d_Prc_perform_100 rfl (lv_at hl 4 rfl) ?_
          refine lv_bipush (v := (nI 16)) hx hb d_Prc_perform_101 (by decide) ?_
          refine lv_iand hx hb d_Prc_perform_103 ?_
          refine sd_cut (fun (x : Heap × List Loc × Int32) => match x with | (H, locs, d1) => sdP g ([(qc, .inr (2, [.ref q2, .ref qm, .int a1, .int d1, .int (nI nx), .int dn])), (qm, .inr (0, [.ref qp])), (qp, .inl (gP g, 128, .inr (.inr (.inr (.inr pf1)))))] ++ va_pl L1 f1) H ∧ va_D A ([(qc, .inr (2, [.ref q2, .ref qm, .int a1, .int d1, .int (nI nx), .int dn])), (qm, .inr (0, [.ref qp])), (qp, .inl (gP g, 128, .inr (.inr (.inr (.inr pf1)))))] ++ va_pl L1 f1) ∧ va_S A s.heap H locs ∧ (d1 = if nI wd &&& nI 16 = 0 then d else (pR wd a d M))) (fun x => x.1) (fun x => x.2.1) (fun _ => mc) (fun _ => ms) (fun _ => F0 m 113 ls []) (fun x hI => ?_) (fun kJ => ?_)
          · obtain ⟨H, locs, d1⟩ := x
            obtain ⟨hP, hD, hS, ed1⟩ := hI
            show W p l ev _ s m _ below meth c H locs mc ms _ (F0 m 113 ls [])
            have hP : sdP g ([(qc, .inr (2, [.ref q2, .ref qm, .int a1, .int d1, .int (nI nx), .int dn])), (qm, .inr (0, [.ref qp])), (qp, .inl (gP g, 128, .inr (.inr (.inr (.inr pf1)))))] ++ va_pl L1 f1) H := hP
            have hD : va_D A ([(qc, .inr (2, [.ref q2, .ref qm, .int a1, .int d1, .int (nI nx), .int dn])), (qm, .inr (0, [.ref qp])), (qp, .inl (gP g, 128, .inr (.inr (.inr (.inr pf1)))))] ++ va_pl L1 f1) := hD
            refine lv_iload hx hb d_Prc_perform_113 (lv_at hl 0 rfl) ?_
            refine sd_cutv (ls := ls) (fun z => z = pS (pR wd a d M)) 132 [] (fun z9 ez9 => ?_) (fun kJ => ?_)
            · subst ez9
              refine lv_istore (lv' := [(5, .int (pS (pR wd a d M))), (4, .int (pR wd a d M)), (3, .int (pY wd a M)), (2, .int (nI (ad15 a))), (0, .ref qc), (1, .int (nI wd))]) hx hb d_Prc_perform_132 hl (by decide) rfl (fun ls hl => ?_)
              refine lv_aload_n hx hb d_Prc_perform_134 rfl (lv_at hl 4 rfl) ?_
              refine lv_iload_n hx hb d_Prc_perform_135 rfl (lv_at hl 5 rfl) ?_
              refine lv_iload hx hb d_Prc_perform_136 (lv_at hl 0 rfl) ?_
              refine lv_iand hx hb d_Prc_perform_138 ?_
              refine sd_cutv (ls := ls) (fun z => z = nI (pN wd a (pR wd a d M) nx)) 152 [.ref qc] (fun z9 ez9 => ?_) (fun kJ => ?_)
              · subst ez9
                refine va_put (D := g.1) (ci := 2) (v := .int (nI (pN wd a (pR wd a d M) nx))) (ty := .int) (C := "SignDesk$Processor") (T := F_Prc) (N := 6) hx hb hts in_Prc t_Prc t_Prc_ok n_Prc hown hK hP hD hS 0 rfl rfl 4 (by decide) (hts _ k_136) (fun _ h9 => h9) rfl (by decide +kernel) rfl rfl (Nat.le_of_ble_eq_true rfl) d_Prc_perform_152 (fun H locs hP hD hS => ?_)
                have hP : sdP g ([(qc, .inr (2, [.ref q2, .ref qm, .int a1, .int d1, .int (nI (pN wd a (pR wd a d M) nx)), .int dn])), (qm, .inr (0, [.ref qp])), (qp, .inl (gP g, 128, .inr (.inr (.inr (.inr pf1)))))] ++ va_pl L1 f1) H := hP
                have hD : va_D A ([(qc, .inr (2, [.ref q2, .ref qm, .int a1, .int d1, .int (nI (pN wd a (pR wd a d M) nx)), .int dn])), (qm, .inr (0, [.ref qp])), (qp, .inl (gP g, 128, .inr (.inr (.inr (.inr pf1)))))] ++ va_pl L1 f1) := hD
                have hP9 := hP.part (cx := [(qc, .inr (2, [.ref q2, .ref qm, .int a1, .int d1, .int (nI (pN wd a (pR wd a d M) nx)), .int dn])), (qm, .inr (0, [.ref qp])), (qp, .inl (gP g, 128, .inr (.inr (.inr (.inr pf1)))))]) [0, 1, 2] rfl
                have hD9 := hD.part (cx := [(qc, .inr (2, [.ref q2, .ref qm, .int a1, .int d1, .int (nI (pN wd a (pR wd a d M) nx)), .int dn])), (qm, .inr (0, [.ref qp])), (qp, .inl (gP g, 128, .inr (.inr (.inr (.inr pf1)))))]) [0, 1, 2] (by decide) rfl
                exact W.vret hx hb hr (fun t ht hW => ⟨⟨(a1, d1, pN wd a (pR wd a d M) nx, pf1, L1, f1), rfl, ⟨pM wd a (pR wd a d M) M, pG wd a pg, by rw [pstep, if_neg (by omega), ea1, ed1], hM1⟩, by rw [ht]; exact hP9, by rw [hAe]; exact hD9⟩, hS.F ht⟩) hS.2.2 d_Prc_perform_155
              · refine lv_if_eq (tgt := 146) hx hb d_Prc_perform_139 (by decide) (fun c3 => ?_) (fun c3 => ?_)
                · refine lv_aload_n hx hb d_Prc_perform_146 rfl (lv_at hl 4 rfl) ?_
                  refine va_get (D := g.1) (ci := 2) (v := .int (nI nx)) (C := "SignDesk$Processor") (T := F_Prc) (N := 6) hx hb hts in_Prc hown hK hP 0 rfl rfl 4 (by decide) (hts _ k_136) (fun _ h9 => h9) rfl d_Prc_perform_147 ?_
                  refine lv_iconst (v := (nI 1)) hx hb d_Prc_perform_150 (by decide) ?_
                  refine lv_iadd hx hb d_Prc_perform_151 ?_
                  refine sd_topi (y := nI (nx + 1)) (nI_add _ _) ?_
                  exact kJ _ (congrArg nI (if_pos c3).symm)
                · refine lv_iload_n hx hb d_Prc_perform_142 rfl (lv_at hl 3 rfl) ?_
                  refine lv_goto (tgt := 152) hx hb d_Prc_perform_143 (by decide) ?_
                  exact kJ _ (congrArg nI (if_neg c3).symm)
            · refine lv_if_le (tgt := 122) hx hb d_Prc_perform_115 (by decide) (fun c3 => ?_) (fun c3 => ?_)
              · refine lv_iload hx hb d_Prc_perform_122 (lv_at hl 0 rfl) ?_
                refine lv_if_ne (tgt := 131) hx hb d_Prc_perform_124 (by decide) (fun c4 => ?_) (fun c4 => ?_)
                · refine lv_iconst (v := (nI 4)) hx hb d_Prc_perform_131 (by decide) ?_
                  exact kJ _ (by rw [pS, if_pos c3, if_neg c4])
                · refine lv_iconst (v := (nI 2)) hx hb d_Prc_perform_127 (by decide) ?_
                  refine lv_goto (tgt := 132) hx hb d_Prc_perform_128 (by decide) ?_
                  exact kJ _ (by rw [pS, if_pos c3, if_pos c4])
              · refine lv_iconst (v := (nI 1)) hx hb d_Prc_perform_118 (by decide) ?_
                refine lv_goto (tgt := 132) hx hb d_Prc_perform_119 (by decide) ?_
                exact kJ _ (by rw [pS, if_neg c3])
          · refine lv_if_eq (tgt := 113) hx hb d_Prc_perform_104 (by decide) (fun c3 => ?_) (fun c3 => ?_)
            · refine W.widen (k := mc) (n := ms) (by omega) (by omega) ?_
              exact kJ (H, _, d) ⟨hP.part [0, 1, 2] rfl, hD.part [0, 1, 2] (by decide) rfl, hS, (if_pos c3).symm⟩
            · refine lv_aload_n hx hb d_Prc_perform_107 rfl (lv_at hl 3 rfl) ?_
              refine lv_iload hx hb d_Prc_perform_108 (lv_at hl 0 rfl) ?_
              refine va_put (D := g.1) (ci := 2) (v := .int (pR wd a d M)) (ty := .int) (C := "SignDesk$Processor") (T := F_Prc) (N := 6) hx hb hts in_Prc t_Prc t_Prc_ok n_Prc hown hK hP hD hS 0 rfl rfl 3 (by decide) (hts _ k_135) (fun _ h9 => h9) rfl (by decide +kernel) rfl rfl (Nat.le_of_ble_eq_true rfl) d_Prc_perform_110 (fun H locs hP hD hS => ?_)
              have hP : sdP g ([(qc, .inr (2, [.ref q2, .ref qm, .int a1, .int (pR wd a d M), .int (nI nx), .int dn])), (qm, .inr (0, [.ref qp])), (qp, .inl (gP g, 128, .inr (.inr (.inr (.inr pf1)))))] ++ va_pl L1 f1) H := hP
              have hD : va_D A ([(qc, .inr (2, [.ref q2, .ref qm, .int a1, .int (pR wd a d M), .int (nI nx), .int dn])), (qm, .inr (0, [.ref qp])), (qp, .inl (gP g, 128, .inr (.inr (.inr (.inr pf1)))))] ++ va_pl L1 f1) := hD
              refine W.widen (k := mc) (n := ms) (by omega) (by omega) ?_
              exact kJ (H, _, (pR wd a d M)) ⟨hP.part [0, 1, 2] rfl, hD.part [0, 1, 2] (by decide) rfl, hS, (if_neg c3).symm⟩
        · refine lv_if_eq (tgt := 100) hx hb d_Prc_perform_91 (by decide) (fun c3 => ?_) (fun c3 => ?_)
          · refine W.widen (k := mc) (n := ms) (by omega) (by omega) ?_
            exact kJ (H, _, a) ⟨hP.part [0, 1, 2] rfl, hD.part [0, 1, 2] (by decide) rfl, hS, (if_pos c3).symm⟩
          · refine lv_aload_n hx hb d_Prc_perform_94 rfl (lv_at hl 3 rfl) ?_
            refine lv_iload hx hb d_Prc_perform_95 (lv_at hl 0 rfl) ?_
            refine va_put (D := g.1) (ci := 2) (v := .int (pR wd a d M)) (ty := .int) (C := "SignDesk$Processor") (T := F_Prc) (N := 6) hx hb hts in_Prc t_Prc t_Prc_ok n_Prc hown hK hP hD hS 0 rfl rfl 2 (by decide) (hts _ k_134) (fun _ h9 => h9) rfl (by decide +kernel) rfl rfl (Nat.le_of_ble_eq_true rfl) d_Prc_perform_97 (fun H locs hP hD hS => ?_)
            have hP : sdP g ([(qc, .inr (2, [.ref q2, .ref qm, .int (pR wd a d M), .int d, .int (nI nx), .int dn])), (qm, .inr (0, [.ref qp])), (qp, .inl (gP g, 128, .inr (.inr (.inr (.inr pf1)))))] ++ va_pl L1 f1) H := hP
            have hD : va_D A ([(qc, .inr (2, [.ref q2, .ref qm, .int (pR wd a d M), .int d, .int (nI nx), .int dn])), (qm, .inr (0, [.ref qp])), (qp, .inl (gP g, 128, .inr (.inr (.inr (.inr pf1)))))] ++ va_pl L1 f1) := hD
            refine W.widen (k := mc) (n := ms) (by omega) (by omega) ?_
            exact kJ (H, _, (pR wd a d M)) ⟨hP.part [0, 1, 2] rfl, hD.part [0, 1, 2] (by decide) rfl, hS, (if_neg c3).symm⟩
      · refine lv_if_eq (tgt := 87) hx hb d_Prc_perform_74 (by decide) (fun c3 => ?_) (fun c3 => ?_)
        · refine W.widen (k := mc) (n := ms) (by omega) (by omega) ?_
          exact kJ (s.heap, _, pf, L, fE) ⟨hP.part [0, 1, 2] rfl, hD.part [0, 1, 2] (by decide) rfl, hS, by rw [pM, pG, if_pos c3, if_pos c3]; exact hM⟩
        · refine lv_aload_n hx hb d_Prc_perform_77 rfl (lv_at hl 3 rfl) ?_
          refine va_get (D := g.1) (ci := 2) (v := .ref qm) (C := "SignDesk$Processor") (T := F_Prc) (N := 6) hx hb hts in_Prc hown hK hP 0 rfl rfl 1 (by decide) (hts _ k_133) (fun _ h9 => h9) rfl d_Prc_perform_78 ?_
          refine lv_iload_n hx hb d_Prc_perform_81 rfl (lv_at hl 2 rfl) ?_
          refine lv_iload hx hb d_Prc_perform_82 (lv_at hl 0 rfl) ?_
          have hPc := hP.part (cx := [(qm, .inr (0, [.ref qp])), (qp, .inl (gP g, 128, .inr (.inr (.inr (.inr pf)))))]) [1, 2] rfl
          have hDc := hD.part (cx := [(qm, .inr (0, [.ref qp])), (qp, .inl (gP g, 128, .inr (.inr (.inr (.inr pf)))))]) [1, 2] (by decide) rfl
          have hFc := va_freeP (cx := [(qm, .inr (0, [.ref qp])), (qp, .inl (gP g, 128, .inr (.inr (.inr (.inr pf)))))]) hD hS hA [1, 2] rfl
          refine sd_cv (va_runV (As := [.int (nI (ad15 a)), .int (pR wd a d M)]) (rest := []) ⟨hx, hb, hml, hown, hts⟩ (c_Mem_write l g qm qp pf L fE M pg hM (ad15 a) h15 (pR wd a d M) mc ms (fun h => hmc (by omega) c3 h) s.heap.size) (cwV 2 hts (sd_gV k_427 k_428 k_429 k_29 k_430) rfl rfl rfl (by decide +kernel) ⟨Nat.le_of_ble_eq_true rfl, Nat.le_of_ble_eq_true rfl⟩) (sd_preVU hK hE hS hA0 hs0 hPc hDc rfl rfl) rfl rfl hl.1 rfl (lv_room (Nat.le_of_ble_eq_true rfl)) d_Prc_perform_84 ⟨(by show 0 + mc ≤ mc; omega), (by show 0 + ms ≤ ms; omega)⟩) hS hFc (fun u H1 locs hw hP1 hD1 hk1 hS => ?_)
          obtain ⟨pf1, L1, f1⟩ := u
          obtain ⟨hP, hD⟩ := va_joinP (wr := [(qc, .inr (2, [.ref q2, .ref qm, .int a, .int d, .int (nI nx), .int dn]))]) (rx := [(qm, .inr (0, [.ref qp])), (qp, .inl (gP g, 128, .inr (.inr (.inr (.inr pf1)))))]) (pl1 := va_pl L1 f1) hP hD [1, 2] [0] rfl rfl (by decide) (by decide) hk1 hFc hP1 hD1
          clear hPc hDc hFc hk1 hP1 hD1
          generalize H1 = H at hP hS ⊢
          have hP : sdP g ([(qc, .inr (2, [.ref q2, .ref qm, .int a, .int d, .int (nI nx), .int dn])), (qm, .inr (0, [.ref qp])), (qp, .inl (gP g, 128, .inr (.inr (.inr (.inr pf1)))))] ++ va_pl L1 f1) H := hP
          have hD : va_D A ([(qc, .inr (2, [.ref q2, .ref qm, .int a, .int d, .int (nI nx), .int dn])), (qm, .inr (0, [.ref qp])), (qp, .inl (gP g, 128, .inr (.inr (.inr (.inr pf1)))))] ++ va_pl L1 f1) := hD
          have hw : memOK g pf1 L1 f1 (upd M (ad15 a) ((pR wd a d M).toInt16.toInt32)) (va_up pg (ad15 a / 256) true) := hw
          rw [pR, alu_short] at hw
          refine W.widen (k := mc) (n := ms) (by omega) (by omega) ?_
          exact kJ (H, _, pf1, L1, f1) ⟨hP.part [0, 1, 2] rfl, hD.part [0, 1, 2] (by decide) rfl, hS, by rw [pM, pG, if_neg c3, if_neg c3]; exact hw⟩
    · refine lv_if_eq (tgt := 51) hx hb d_Prc_perform_37 (by decide) (fun c2 => ?_) (fun c2 => ?_)
      · refine lv_aload_n hx hb d_Prc_perform_51 rfl (lv_at hl 1 rfl) ?_
        refine va_get (D := g.1) (ci := 2) (v := .int a) (C := "SignDesk$Processor") (T := F_Prc) (N := 6) hx hb hts in_Prc hown hK hP 0 rfl rfl 2 (by decide) (hts _ k_134) (fun _ h9 => h9) rfl d_Prc_perform_52 ?_
        exact kJ _ ((if_pos c2).symm)
      · refine lv_aload_n hx hb d_Prc_perform_40 rfl (lv_at hl 1 rfl) ?_
        refine va_get (D := g.1) (ci := 2) (v := .ref qm) (C := "SignDesk$Processor") (T := F_Prc) (N := 6) hx hb hts in_Prc hown hK hP 0 rfl rfl 1 (by decide) (hts _ k_133) (fun _ h9 => h9) rfl d_Prc_perform_41 ?_
        refine lv_iload_n hx hb d_Prc_perform_44 rfl (lv_at hl 0 rfl) ?_
        refine sd_ri (va_runV (As := [.int (nI (ad15 a))]) (rest := []) ⟨hx, hb, hml, hown, hts⟩ (c_Mem_wordAt l g qm qp pf L fE M pg hM (ad15 a) h15) (cwV 1 hts (sd_gV k_416 k_417 k_418 k_29 k_419) rfl rfl rfl (by decide +kernel) ⟨Nat.le_of_ble_eq_true rfl, Nat.le_of_ble_eq_true rfl⟩) (sd_preV hK hE (sd_fr hS hA0) (hP.part (cx := [(qm, .inr (0, [.ref qp])), (qp, .inl (gP g, 128, .inr (.inr (.inr (.inr pf)))))]) [1, 2] rfl) rfl rfl) rfl rfl hl.1 rfl (lv_room (Nat.le_of_ble_eq_true rfl)) d_Prc_perform_45 ⟨Nat.zero_le _, Nat.zero_le _⟩) (fun r3 er3 => ?_)
        subst er3
        refine lv_goto (tgt := 55) hx hb d_Prc_perform_48 (by decide) ?_
        exact kJ _ ((if_neg c2).symm)
  · have c1 := mt (nI_ltI (by omega) (by omega)).mpr c1
    refine lv_aload_n hx hb d_Prc_perform_7 rfl (lv_at hl 0 rfl) ?_
    refine lv_iload_n hx hb d_Prc_perform_8 rfl (lv_at hl 1 rfl) ?_
    refine va_put (D := g.1) (ci := 2) (v := .int (nI wd)) (ty := .int) (C := "SignDesk$Processor") (T := F_Prc) (N := 6) hx hb hts in_Prc t_Prc t_Prc_ok n_Prc hown hK hP hD hS 0 rfl rfl 2 (by decide) (hts _ k_134) (fun _ h9 => h9) rfl (by decide +kernel) rfl rfl (Nat.le_of_ble_eq_true rfl) d_Prc_perform_9 (fun H locs hP hD hS => ?_)
    have hP : sdP g ([(qc, .inr (2, [.ref q2, .ref qm, .int (nI wd), .int d, .int (nI nx), .int dn])), (qm, .inr (0, [.ref qp])), (qp, .inl (gP g, 128, .inr (.inr (.inr (.inr pf)))))] ++ va_pl L fE) H := hP
    have hD : va_D A ([(qc, .inr (2, [.ref q2, .ref qm, .int (nI wd), .int d, .int (nI nx), .int dn])), (qm, .inr (0, [.ref qp])), (qp, .inl (gP g, 128, .inr (.inr (.inr (.inr pf)))))] ++ va_pl L fE) := hD
    refine lv_aload_n hx hb d_Prc_perform_12 rfl (lv_at hl 0 rfl) ?_
    refine lv_dup hx hb d_Prc_perform_13 rfl ?_
    refine va_get (D := g.1) (ci := 2) (v := .int (nI nx)) (C := "SignDesk$Processor") (T := F_Prc) (N := 6) hx hb hts in_Prc hown hK hP 0 rfl rfl 4 (by decide) (hts _ k_136) (fun _ h9 => h9) rfl d_Prc_perform_14 ?_
    refine lv_iconst (v := (nI 1)) hx hb d_Prc_perform_17 (by decide) ?_
    refine lv_iadd hx hb d_Prc_perform_18 ?_
    refine sd_topi (y := nI (nx + 1)) (nI_add _ _) ?_
    refine va_put (D := g.1) (ci := 2) (v := .int (nI (nx + 1))) (ty := .int) (C := "SignDesk$Processor") (T := F_Prc) (N := 6) hx hb hts in_Prc t_Prc t_Prc_ok n_Prc hown hK hP hD hS 0 rfl rfl 4 (by decide) (hts _ k_136) (fun _ h9 => h9) rfl (by decide +kernel) rfl rfl (Nat.le_of_ble_eq_true rfl) d_Prc_perform_19 (fun H locs hP hD hS => ?_)
    have hP : sdP g ([(qc, .inr (2, [.ref q2, .ref qm, .int (nI wd), .int d, .int (nI (nx + 1)), .int dn])), (qm, .inr (0, [.ref qp])), (qp, .inl (gP g, 128, .inr (.inr (.inr (.inr pf)))))] ++ va_pl L fE) H := hP
    have hD : va_D A ([(qc, .inr (2, [.ref q2, .ref qm, .int (nI wd), .int d, .int (nI (nx + 1)), .int dn])), (qm, .inr (0, [.ref qp])), (qp, .inl (gP g, 128, .inr (.inr (.inr (.inr pf)))))] ++ va_pl L fE) := hD
    have hP9 := hP.part (cx := [(qc, .inr (2, [.ref q2, .ref qm, .int (nI wd), .int d, .int (nI (nx + 1)), .int dn])), (qm, .inr (0, [.ref qp])), (qp, .inl (gP g, 128, .inr (.inr (.inr (.inr pf)))))]) [0, 1, 2] rfl
    have hD9 := hD.part (cx := [(qc, .inr (2, [.ref q2, .ref qm, .int (nI wd), .int d, .int (nI (nx + 1)), .int dn])), (qm, .inr (0, [.ref qp])), (qp, .inl (gP g, 128, .inr (.inr (.inr (.inr pf)))))]) [0, 1, 2] (by decide) rfl
    refine W.widen (k := mc) (n := ms) (Nat.zero_le _) (Nat.zero_le _) ?_
    exact W.vret hx hb hr (fun t ht hW => ⟨⟨(nI wd, d, nx + 1, pf, L, fE), rfl, ⟨M, pg, by rw [pstep, if_pos (by omega)], hM⟩, by rw [ht]; exact hP9, by rw [hAe]; exact hD9⟩, hS.F ht⟩) hS.2.2 d_Prc_perform_22
