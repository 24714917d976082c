set_option maxHeartbeats 16000000 in
set_option maxRecDepth 100000 in
/-- from the entry, for every script of at most 2048 ints, the law comes to its end with true -/
theorem whole_start {p : Program} {ev : Env} {s : State} {m : MethodId} {below : List Frame} {meth : Method} {c : Code} (l : Launch) {b L : Nat} {xs : Nat → Int32} (hL : L ≤ 2048) (C0 : lw_At p s m meth c b L xs) : W p l ev room_1 s m #[Value.ref b] below meth c s.heap [] 0 0 (lw_Z below #[Value.ref b] s) (entryFrame m ([Value.ref b] : List Value).toArray 4) := by
  obtain ⟨hx, hb, hr, hml, hown, hts0, hX, hbl, hlocks, hgv⟩ := id C0
  have hts : ∀ w ∈ sdT, w.before #[Value.ref b] s = true := fun w h => hts0 w (sd_all h)
  have hown : s.vm.findClass "SignDeskLaw" = some m.cls := hown
  obtain ⟨g, hgs, hK, hE⟩ := law_g hts0 hgv
  have hA0 : ∀ q, (fun q : Nat => s.heap.size ≤ q) q → gS g ≤ q := fun q h => by rw [hgs]; exact h
  have hA : ∀ q : Nat, s.heap.size ≤ q → (fun q : Nat => s.heap.size ≤ q) q := fun _ h => h
  have hs0 : gS g ≤ s.heap.size := by rw [hgs]; exact Nat.le_refl _
  have hS : va_S (fun q : Nat => s.heap.size ≤ q) s.heap s.heap [] := va_S.rf
  have hP : sdP g [] s.heap := fun k q h => by simp at h
  have hD : va_D (fun q : Nat => s.heap.size ≤ q) [] := ⟨fun i j p q h => by simp at h, fun k q h => by simp at h⟩
  have hl := lv_entry ([.ref b]) (n := 4) (Nat.le_of_ble_eq_true rfl)
  rw [lg_entry_eq]
  generalize (lg_sl ([.ref b]) ++ List.replicate (4 - (lg_sl ([.ref b])).length) Slot.unset).toArray = ls at hl ⊢
  have hl : lv_has ls 4 [(0, .ref b)] := hl
  refine va_new (ci := 7) (fs := [.null, .null, .null, .null]) (C := "SignDesk") (T := F_Dsk) (N := 4) hx hb hts in_Dsk t_Dsk t_Dsk_ok hown (hts _ k_37) (hts _ k_38) (hts _ k_23) hK hP hD hS hA rfl (fun j hj => by rcases (show j = 0 ∨ j = 1 ∨ j = 2 ∨ j = 3 by omega) with rfl | rfl | rfl | rfl <;> rfl) (Nat.le_of_ble_eq_true rfl) (Nat.le_of_ble_eq_true rfl) d_Law_0 (fun q0 H hP hD hS => ?_)
  have hP : sdP g [(q0, .inr (7, [.null, .null, .null, .null]))] H := hP
  have hD : va_D (fun q : Nat => s.heap.size ≤ q) [(q0, .inr (7, [.null, .null, .null, .null]))] := hD
  refine lv_dup hx hb d_Law_3 rfl ?_
  have hPc := hP.sub (ws' := [(q0, .inr (7, [.null, .null, .null, .null]))]) [0] rfl
  have hDc := hD.sub (ws' := [(q0, .inr (7, [.null, .null, .null, .null]))]) [0] (by decide) rfl
  have hFc := va_free (wc := [(q0, .inr (7, [.null, .null, .null, .null]))]) hD hS hA [0] rfl
  refine sd_cv (va_runI (As := []) (rest := [.ref q0]) ⟨hx, hb, hml, hown, hts⟩ (c_Dsk_init l g q0 H.size) (cwI 0 hts (sd_gC k_41) rfl rfl rfl (hts _ k_23) (hts _ k_39) (hts _ k_40) rfl (by decide +kernel) ⟨Nat.le_of_ble_eq_true rfl, Nat.le_of_ble_eq_true rfl⟩) (sd_preSU hK hE hS hA0 hs0 hPc hDc) rfl rfl hl.1 rfl (lv_room (Nat.le_of_ble_eq_true rfl)) d_Law_4 ⟨(Nat.le_of_ble_eq_true rfl), (Nat.le_of_ble_eq_true rfl)⟩) hS hFc (fun u H1 locs hw hP1 hD1 hk1 hS => ?_)
  obtain ⟨q1, q5, q2, q6, q3, q7, q8, q9, q10, qc, qm, qp⟩ := u
  obtain ⟨hP, hD⟩ := va_join (wr := []) (w1 := [(q0, .inr (7, [.ref q1, .ref q2, .ref q3, .ref qc])), (q1, .inr (6, [.ref q5, .int 0])), (q5, .inl (gB g, 2000, .inl (fun _ => 0))), (q2, .inr (3, [.ref q6, .int 0])), (q6, .inl (gI g, 600, .inl (fun _ => 0))), (q3, .inr (4, [.ref q1, .ref q2, .ref q7, .int (-1)])), (q7, .inr (5, [.ref q1, .ref q8, .ref q9, .ref q10, .int 0])), (q8, .inl (gI g, 40, .inl (fun _ => 0))), (q9, .inl (gI g, 40, .inl (fun _ => 0))), (q10, .inl (gI g, 40, .inl (fun _ => 0))), (qc, .inr (2, [.ref q2, .ref qm, .int 0, .int 0, .int 0, .int 0])), (qm, .inr (0, [.ref qp])), (qp, .inl (gP g, 128, .inr (.inr (.inr (.inr (fun _ => none))))))]) hP hD [0] [] rfl rfl (by decide) (by decide) hk1 hFc hP1 hD1
  clear hPc hDc hFc hk1 hP1 hD1
  generalize H1 = H at hP hS ⊢
  have hP : sdP g [(q0, .inr (7, [.ref q1, .ref q2, .ref q3, .ref qc])), (q1, .inr (6, [.ref q5, .int 0])), (q5, .inl (gB g, 2000, .inl (fun _ => 0))), (q2, .inr (3, [.ref q6, .int 0])), (q6, .inl (gI g, 600, .inl (fun _ => 0))), (q3, .inr (4, [.ref q1, .ref q2, .ref q7, .int (-1)])), (q7, .inr (5, [.ref q1, .ref q8, .ref q9, .ref q10, .int 0])), (q8, .inl (gI g, 40, .inl (fun _ => 0))), (q9, .inl (gI g, 40, .inl (fun _ => 0))), (q10, .inl (gI g, 40, .inl (fun _ => 0))), (qc, .inr (2, [.ref q2, .ref qm, .int 0, .int 0, .int 0, .int 0])), (qm, .inr (0, [.ref qp])), (qp, .inl (gP g, 128, .inr (.inr (.inr (.inr (fun _ => none))))))] H := hP
  have hD : va_D (fun q : Nat => s.heap.size ≤ q) [(q0, .inr (7, [.ref q1, .ref q2, .ref q3, .ref qc])), (q1, .inr (6, [.ref q5, .int 0])), (q5, .inl (gB g, 2000, .inl (fun _ => 0))), (q2, .inr (3, [.ref q6, .int 0])), (q6, .inl (gI g, 600, .inl (fun _ => 0))), (q3, .inr (4, [.ref q1, .ref q2, .ref q7, .int (-1)])), (q7, .inr (5, [.ref q1, .ref q8, .ref q9, .ref q10, .int 0])), (q8, .inl (gI g, 40, .inl (fun _ => 0))), (q9, .inl (gI g, 40, .inl (fun _ => 0))), (q10, .inl (gI g, 40, .inl (fun _ => 0))), (qc, .inr (2, [.ref q2, .ref qm, .int 0, .int 0, .int 0, .int 0])), (qm, .inr (0, [.ref qp])), (qp, .inl (gP g, 128, .inr (.inr (.inr (.inr (fun _ => none))))))] := hD
  refine lv_astore_n (lv' := [(1, .ref q0), (0, .ref b)]) hx hb d_Law_7 rfl hl (by decide) rfl (fun ls hl => ?_)
  refine va_new (ci := 8) (fs := [.null, .int 0, .int 0, .int 0, .int 0, .null, .int 0, .null, .null, .null, .null, .null, .int 0, .int 0, .int 0, .int 0, .null, .null, .null]) (C := "SignDeskModel") (T := F_Mod) (N := 19) hx hb hts in_Mod t_Mod t_Mod_ok hown (hts _ k_487) (hts _ k_488) (hts _ k_30) hK hP hD hS hA rfl (fun j hj => by rcases (show j = 0 ∨ j = 1 ∨ j = 2 ∨ j = 3 ∨ j = 4 ∨ j = 5 ∨ j = 6 ∨ j = 7 ∨ j = 8 ∨ j = 9 ∨ j = 10 ∨ j = 11 ∨ j = 12 ∨ j = 13 ∨ j = 14 ∨ j = 15 ∨ j = 16 ∨ j = 17 ∨ j = 18 by omega) with rfl | rfl | rfl | rfl | rfl | rfl | rfl | rfl | rfl | rfl | rfl | rfl | rfl | rfl | rfl | rfl | rfl | rfl | rfl <;> rfl) (Nat.le_of_ble_eq_true rfl) (Nat.le_of_ble_eq_true rfl) d_Law_8 (fun m0 H hP hD hS => ?_)
  have hP : sdP g [(q0, .inr (7, [.ref q1, .ref q2, .ref q3, .ref qc])), (q1, .inr (6, [.ref q5, .int 0])), (q5, .inl (gB g, 2000, .inl (fun _ => 0))), (q2, .inr (3, [.ref q6, .int 0])), (q6, .inl (gI g, 600, .inl (fun _ => 0))), (q3, .inr (4, [.ref q1, .ref q2, .ref q7, .int (-1)])), (q7, .inr (5, [.ref q1, .ref q8, .ref q9, .ref q10, .int 0])), (q8, .inl (gI g, 40, .inl (fun _ => 0))), (q9, .inl (gI g, 40, .inl (fun _ => 0))), (q10, .inl (gI g, 40, .inl (fun _ => 0))), (qc, .inr (2, [.ref q2, .ref qm, .int 0, .int 0, .int 0, .int 0])), (qm, .inr (0, [.ref qp])), (qp, .inl (gP g, 128, .inr (.inr (.inr (.inr (fun _ => none)))))), (m0, .inr (8, [.null, .int 0, .int 0, .int 0, .int 0, .null, .int 0, .null, .null, .null, .null, .null, .int 0, .int 0, .int 0, .int 0, .null, .null, .null]))] H := hP
  have hD : va_D (fun q : Nat => s.heap.size ≤ q) [(q0, .inr (7, [.ref q1, .ref q2, .ref q3, .ref qc])), (q1, .inr (6, [.ref q5, .int 0])), (q5, .inl (gB g, 2000, .inl (fun _ => 0))), (q2, .inr (3, [.ref q6, .int 0])), (q6, .inl (gI g, 600, .inl (fun _ => 0))), (q3, .inr (4, [.ref q1, .ref q2, .ref q7, .int (-1)])), (q7, .inr (5, [.ref q1, .ref q8, .ref q9, .ref q10, .int 0])), (q8, .inl (gI g, 40, .inl (fun _ => 0))), (q9, .inl (gI g, 40, .inl (fun _ => 0))), (q10, .inl (gI g, 40, .inl (fun _ => 0))), (qc, .inr (2, [.ref q2, .ref qm, .int 0, .int 0, .int 0, .int 0])), (qm, .inr (0, [.ref qp])), (qp, .inl (gP g, 128, .inr (.inr (.inr (.inr (fun _ => none)))))), (m0, .inr (8, [.null, .int 0, .int 0, .int 0, .int 0, .null, .int 0, .null, .null, .null, .null, .null, .int 0, .int 0, .int 0, .int 0, .null, .null, .null]))] := hD
  refine lv_dup hx hb d_Law_11 rfl ?_
  have hPc := hP.sub (ws' := [(m0, .inr (8, [.null, .int 0, .int 0, .int 0, .int 0, .null, .int 0, .null, .null, .null, .null, .null, .int 0, .int 0, .int 0, .int 0, .null, .null, .null]))]) [13] rfl
  have hDc := hD.sub (ws' := [(m0, .inr (8, [.null, .int 0, .int 0, .int 0, .int 0, .null, .int 0, .null, .null, .null, .null, .null, .int 0, .int 0, .int 0, .int 0, .null, .null, .null]))]) [13] (by decide) rfl
  have hFc := va_free (wc := [(m0, .inr (8, [.null, .int 0, .int 0, .int 0, .int 0, .null, .int 0, .null, .null, .null, .null, .null, .int 0, .int 0, .int 0, .int 0, .null, .null, .null]))]) hD hS hA [13] rfl
  refine sd_cv (va_runI (As := []) (rest := [.ref m0]) ⟨hx, hb, hml, hown, hts⟩ (c_Mod_init l g m0 H.size) (cwI 0 hts (sd_gC k_491) rfl rfl rfl (hts _ k_30) (hts _ k_489) (hts _ k_490) rfl (by decide +kernel) ⟨Nat.le_of_ble_eq_true rfl, Nat.le_of_ble_eq_true rfl⟩) (sd_preSU hK hE hS hA0 hs0 hPc hDc) rfl rfl hl.1 rfl (lv_room (Nat.le_of_ble_eq_true rfl)) d_Law_12 ⟨(Nat.le_of_ble_eq_true rfl), (Nat.le_of_ble_eq_true rfl)⟩) hS hFc (fun u H1 locs hw hP1 hD1 hk1 hS => ?_)
  obtain ⟨mtt, mcd, mat, msz, mvl, mcs, mmm, mkn, mjp, mds⟩ := u
  obtain ⟨hP, hD⟩ := va_join (wr := [(q0, .inr (7, [.ref q1, .ref q2, .ref q3, .ref qc])), (q1, .inr (6, [.ref q5, .int 0])), (q5, .inl (gB g, 2000, .inl (fun _ => 0))), (q2, .inr (3, [.ref q6, .int 0])), (q6, .inl (gI g, 600, .inl (fun _ => 0))), (q3, .inr (4, [.ref q1, .ref q2, .ref q7, .int (-1)])), (q7, .inr (5, [.ref q1, .ref q8, .ref q9, .ref q10, .int 0])), (q8, .inl (gI g, 40, .inl (fun _ => 0))), (q9, .inl (gI g, 40, .inl (fun _ => 0))), (q10, .inl (gI g, 40, .inl (fun _ => 0))), (qc, .inr (2, [.ref q2, .ref qm, .int 0, .int 0, .int 0, .int 0])), (qm, .inr (0, [.ref qp])), (qp, .inl (gP g, 128, .inr (.inr (.inr (.inr (fun _ => none))))))]) (w1 := [(m0, .inr (8, [.ref mtt, .int 0, .int 0, .int (-1), .int 0, .ref mcd, .int 0, .ref mat, .ref msz, .ref mvl, .ref mcs, .ref mmm, .int 0, .int 0, .int 0, .int 0, .ref mkn, .ref mjp, .ref mds])), (mtt, .inl (gI g, 2000, .inl (fun _ => 0))), (mcd, .inl (gI g, 600, .inl (fun _ => 0))), (mat, .inl (gI g, 40, .inl (fun _ => 0))), (msz, .inl (gI g, 40, .inl (fun _ => 0))), (mvl, .inl (gI g, 40, .inl (fun _ => 0))), (mcs, .inl (gI g, 600, .inl (fun _ => 0))), (mmm, .inl (gI g, 32768, .inl (fun _ => 0))), (mkn, .inl (gC g, 32, .inl (kx k7L 32))), (mjp, .inl (gC g, 28, .inl (kx jmL 28))), (mds, .inl (gC g, 19, .inl (kx dsL 19)))]) hP hD [13] [0, 1, 2, 3, 4, 5, 6, 7, 8, 9, 10, 11, 12] rfl rfl (by decide) (by decide) hk1 hFc hP1 hD1
  clear hPc hDc hFc hk1 hP1 hD1
  generalize H1 = H at hP hS ⊢
  have hP : sdP g [(q0, .inr (7, [.ref q1, .ref q2, .ref q3, .ref qc])), (q1, .inr (6, [.ref q5, .int 0])), (q5, .inl (gB g, 2000, .inl (fun _ => 0))), (q2, .inr (3, [.ref q6, .int 0])), (q6, .inl (gI g, 600, .inl (fun _ => 0))), (q3, .inr (4, [.ref q1, .ref q2, .ref q7, .int (-1)])), (q7, .inr (5, [.ref q1, .ref q8, .ref q9, .ref q10, .int 0])), (q8, .inl (gI g, 40, .inl (fun _ => 0))), (q9, .inl (gI g, 40, .inl (fun _ => 0))), (q10, .inl (gI g, 40, .inl (fun _ => 0))), (qc, .inr (2, [.ref q2, .ref qm, .int 0, .int 0, .int 0, .int 0])), (qm, .inr (0, [.ref qp])), (qp, .inl (gP g, 128, .inr (.inr (.inr (.inr (fun _ => none)))))), (m0, .inr (8, [.ref mtt, .int 0, .int 0, .int (-1), .int 0, .ref mcd, .int 0, .ref mat, .ref msz, .ref mvl, .ref mcs, .ref mmm, .int 0, .int 0, .int 0, .int 0, .ref mkn, .ref mjp, .ref mds])), (mtt, .inl (gI g, 2000, .inl (fun _ => 0))), (mcd, .inl (gI g, 600, .inl (fun _ => 0))), (mat, .inl (gI g, 40, .inl (fun _ => 0))), (msz, .inl (gI g, 40, .inl (fun _ => 0))), (mvl, .inl (gI g, 40, .inl (fun _ => 0))), (mcs, .inl (gI g, 600, .inl (fun _ => 0))), (mmm, .inl (gI g, 32768, .inl (fun _ => 0))), (mkn, .inl (gC g, 32, .inl (kx k7L 32))), (mjp, .inl (gC g, 28, .inl (kx jmL 28))), (mds, .inl (gC g, 19, .inl (kx dsL 19)))] H := hP
  have hD : va_D (fun q : Nat => s.heap.size ≤ q) [(q0, .inr (7, [.ref q1, .ref q2, .ref q3, .ref qc])), (q1, .inr (6, [.ref q5, .int 0])), (q5, .inl (gB g, 2000, .inl (fun _ => 0))), (q2, .inr (3, [.ref q6, .int 0])), (q6, .inl (gI g, 600, .inl (fun _ => 0))), (q3, .inr (4, [.ref q1, .ref q2, .ref q7, .int (-1)])), (q7, .inr (5, [.ref q1, .ref q8, .ref q9, .ref q10, .int 0])), (q8, .inl (gI g, 40, .inl (fun _ => 0))), (q9, .inl (gI g, 40, .inl (fun _ => 0))), (q10, .inl (gI g, 40, .inl (fun _ => 0))), (qc, .inr (2, [.ref q2, .ref qm, .int 0, .int 0, .int 0, .int 0])), (qm, .inr (0, [.ref qp])), (qp, .inl (gP g, 128, .inr (.inr (.inr (.inr (fun _ => none)))))), (m0, .inr (8, [.ref mtt, .int 0, .int 0, .int (-1), .int 0, .ref mcd, .int 0, .ref mat, .ref msz, .ref mvl, .ref mcs, .ref mmm, .int 0, .int 0, .int 0, .int 0, .ref mkn, .ref mjp, .ref mds])), (mtt, .inl (gI g, 2000, .inl (fun _ => 0))), (mcd, .inl (gI g, 600, .inl (fun _ => 0))), (mat, .inl (gI g, 40, .inl (fun _ => 0))), (msz, .inl (gI g, 40, .inl (fun _ => 0))), (mvl, .inl (gI g, 40, .inl (fun _ => 0))), (mcs, .inl (gI g, 600, .inl (fun _ => 0))), (mmm, .inl (gI g, 32768, .inl (fun _ => 0))), (mkn, .inl (gC g, 32, .inl (kx k7L 32))), (mjp, .inl (gC g, 28, .inl (kx jmL 28))), (mds, .inl (gC g, 19, .inl (kx dsL 19)))] := hD
  refine lv_astore_n (lv' := [(2, .ref m0), (1, .ref q0), (0, .ref b)]) hx hb d_Law_15 rfl hl (by decide) rfl (fun ls hl => ?_)
  refine lv_iconst (v := (nI 0)) hx hb d_Law_16 (by decide) ?_
  refine lv_istore_n (lv' := [(3, .int (nI 0)), (2, .ref m0), (1, .ref q0), (0, .ref b)]) hx hb d_Law_17 rfl hl (by decide) rfl (fun ls hl => ?_)
  refine W.widen (k := 24) (n := 39058) (by decide) (by decide) ?_
  exact law_loop l g hL C0 hgs hK hE q0 q1 q5 q2 q6 q3 q7 q8 q9 q10 qc qm qp m0 mtt mcd mat msz mvl mcs mkn mjp mds mmm H _ ls (lv_sub hl [0, 1, 2, 3] rfl) (hP.sub [0, 1, 2, 3, 4, 5, 6, 7, 8, 9, 10, 11, 12, 13, 14, 15, 16, 17, 18, 19, 21, 22, 23, 20] rfl) (hD.sub [0, 1, 2, 3, 4, 5, 6, 7, 8, 9, 10, 11, 12, 13, 14, 15, 16, 17, 18, 19, 21, 22, 23, 20] (by decide) rfl) hS
set_option maxHeartbeats 4000000 in
theorem lw_walk (l : Launch) (b : Addr) (xs : List Int32) : MetFree l x (headSpec (Jvm.Cond.code x code maxLocals ret :: tables_1) room_1) (lw_P b xs) (fun _ _ _ _ _ => True) lw_Q := by
  refine MetFree.of_bodyS (code := code) (maxLocals := maxLocals) (ret := ret) (by decide) ?_ ?_
  · intro args s m h hn
    obtain ⟨meth, c, h1, h2, h3, h4, h5, h6, -, -⟩ := Cond.code_spec hn (atoms_spec (ws := Jvm.Cond.code x code maxLocals ret :: tables_1) h _ List.mem_cons_self)
    exact ⟨meth, c, h1, h2, h3, h4, h5, h6⟩
  · intro p e s m args below meth c s₁ B hml0 hP _
    obtain ⟨rfl, hx, hbd, hgv⟩ := hP
    obtain ⟨scr, harrAt, hlist, hof, hsmall⟩ := hx
    obtain ⟨hcb, hkn, -, -⟩ := State.arrayAt?_spec harrAt
    have hown : s.vm.findClass R_law = some m.cls := findClass_of_methodNamed B.named
    have hts0 : ∀ c ∈ (Jvm.Cond.code x code maxLocals ret :: tables_1), c.before #[Value.ref b] s = true := atoms_spec (ws := Jvm.Cond.code x code maxLocals ret :: tables_1) B.pre
    have hts : ∀ w ∈ lw_tbl, w.before #[Value.ref b] s = true := k2_hts_sels lw_privs (fun w hw => hts0 w (List.mem_cons_of_mem _ hw)) lw_privs_ok
    have hml : c.maxLocals = 4 := B.maxLocals_eq (hts0 _ List.mem_cons_self)
    have X₀ : Stand p l e room_1 s m #[Value.ref b] below meth c s₁ [] 0 0 := Stand.of_body B
    have hh0 : s₁.heap = s.heap := by rw [B.state]; rfl
    have hsz : scr.slots.size = xs.length := by rw [← Array.length_toList, hlist, List.length_map]
    have hval : ∀ j : Nat, j < xs.length → scr.slots[j]? = some (.int (xs.getD j 0)) := fun j hj => by
      rw [← Array.getElem?_toList, hlist]
      simp [hj]
    have hbl : b < s.heap.size := (Array.getElem?_eq_some_iff.mp hcb).1
    have hX : va_X b xs.length (fun j => xs.getD j 0) s s.heap := ⟨scr, hcb, hof, hkn, hsz, hval⟩
    have K : W p l e room_1 s m #[Value.ref b] below meth c s₁.heap [] 0 0 (lw_Z below #[Value.ref b] s) (entryFrame m ([Value.ref b] : List Value).toArray 4) := by
      rw [hh0]
      exact whole_start l hbd ⟨B.exec, B.bytes, B.returns, hml, hown, hts, hX, hbl, B.notSynchronized, hgv⟩
    obtain ⟨t, a1, o, b1, b2, b3⟩ := K s₁ rfl X₀
    exact ⟨t, o, a1, b1, b2, b3⟩
theorem lw_pre_spec {args : Array Value} {s : State} (h : (Jvm.Cond.and given_1 narrow_1).before args s = true) (hr : rest_1_c.before args s = true) : ∃ (b : Addr) (xs : List Int32), lw_P b xs args s := by
  have hs := flat_of_before _ h
  have hq := flat_of_before _ hr
  have hc : (Cond.count 1).before args s = true := hs _ (by decide +kernel)
  have harr : (Cond.arrayOf (.arg 0) .int).before args s = true := hs _ (by decide +kernel)
  have hle : (Cond.le (.length (.arg 0)) (.int 2048)).before args s = true := hs _ (by decide +kernel)
  have hlen : (Cond.isInt (.length (.arg 0))).before args s = true := hq _ (by decide +kernel)
  have hall : (Cond.all (.arg 0) (.isInt (.elem (.arg 0) (.index 0)))).before args s = true := hq _ (by decide +kernel)
  obtain ⟨b, xs, hb, hx⟩ := State.ints_of_pre rfl harr hlen hall
  have hsm : xs.length < 2 ^ 31 := hx.choose_spec.2.2.2
  have hev : (Term.length (.arg 0)).eval args s none [] s = some (.int xs.length.toInt32) := hx.length_eval hb
  have hv := Cond.le_ints hev (show (Term.int 2048).eval args s none [] s = some (.int 2048) from rfl)
  have hd : xs.length.toInt32 ≤ 2048 := by
    simpa [Cond.before, Cond.holds, hv] using hle
  have hN : xs.length ≤ 2048 := (Int32.ofNat_le_ofNat hsm (by decide)).mp (show Int32.ofNat xs.length ≤ Int32.ofNat 2048 from hd)
  exact ⟨b, xs, Cond.one_arg hc (show args[0]? = some (.ref b) from hb), hx, hN, h⟩
theorem lw_comes (l : Launch) : Comes l x (Jvm.Cond.code x code maxLocals ret :: tables_1) room_1 (fun tb e args s => Calls_1 tb e args s ∧ rest_1 tb e args s ∧ Pre_1 tb e args s)
    (fun _ _ args s o t => lw_Q args s o t) := by
  intro p e ha hc hk s m args below hf hfit hheap happ hpre
  obtain ⟨b, xs, hP⟩ := lw_pre_spec hpre.2.2 hpre.2.1
  obtain ⟨k, o, h1, h2, h3, hQ⟩ := lw_walk l b xs p e ha hc hk s m args below hf ((Spec.applies_iff_loose hf).mp happ).1 hP trivial
  exact ⟨k, o, h1, h2, h3, hQ⟩
theorem lw_frame {s t : State} {o : Outcome} {args : Array Value} (h : Framed s o t [] 600000 7302250) :
    Framed s o t (fieldLocs frame_1_writes args s ++ arrayLocs frame_1_arrays args s ++ staticLocs frame_1_statics s) 600000 7302250 := h
theorem lw_limb (L : Cond) (hL : ∀ (args : Array Value) (s t : State), L.after args s (.returned (some (.int 1))) t = true) :
    ArmFor flags0 classFile x code maxLocals ret World_1 tables_1 room_1 Calls_1 rest_1 Pre_1
      (fun tb e a s o t => postC L tb e a s o t ∧ Framed s o t (fieldLocs frame_1_writes a s ++ arrayLocs frame_1_arrays a s ++ staticLocs frame_1_statics s) 600000 7302250) := by
  intro l _ _ _ p e ha hc hk s m args below hf hfit hheap happ hpre
  obtain ⟨k, o, h1, h2, h3, rfl, hF⟩ := lw_comes l p e ha hc hk s m args below hf hfit hheap happ hpre
  exact ⟨k, _, h1, h2, h3, hL args s _, lw_frame hF⟩
theorem i_vc : Claimed_1_1 ∧ Claimed_1_2 := ⟨lw_limb limb_1_1 (fun args s t => by simp [limb_1_1, Cond.after, Cond.holds, Cond.value]), lw_limb limb_1_2 (fun args s t => Cond.after_iff.mpr (by
  first | (rw [show limb_1_2 = Cond.eq .result (.int 1) from rfl, Cond.eq_ints (x := 1) (y := 1) rfl rfl]; simp; done) | (simp [limb_1_2, Cond.value, Term.eval]; done)))⟩
