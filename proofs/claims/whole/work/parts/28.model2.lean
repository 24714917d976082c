theorem wb_c : ∀ k, k < 64 → ((nI k).toInt64 &&& 63) = lN k := by decide +kernel
theorem wb_sm : ∀ k, k < 64 → (BitVec.ofNat 64 k).smod 64 = BitVec.ofNat 64 k := by decide +kernel
theorem lN_bv (n : Nat) : (lN n).toBitVec = BitVec.ofNat 64 n := rfl
theorem tb_A (v : Int64) {s : Nat} (hs : s ≤ 56) : (v >>> ((nI s).toInt64 &&& 63)).toInt32 &&& nI 255 = nI (tb v s) := by
  rw [show nI 255 = (255 : Int32) from rfl, pk_and _ 8 (by decide)]
  congr 1
  have e0 : (v >>> ((nI s).toInt64 &&& 63)).toBitVec = v.toBitVec.sshiftRight s := by
    rw [wb_c s (by omega)]
    show v.toBitVec.sshiftRight ((lN s).toBitVec.smod 64).toNat = _
    rw [lN_bv, wb_sm s (by omega)]
    congr 1
    rw [BitVec.toNat_ofNat]; omega
  rw [Int64.toBitVec_toInt32, BitVec.signExtend_eq_setWidth_of_le _ (by decide), BitVec.toNat_setWidth, e0, tb]
  have e1 : uN v = v.toBitVec.toNat := rfl
  rw [e1]
  have e2 : (v.toBitVec.sshiftRight s).toNat % 2 ^ 8 = v.toBitVec.toNat / 2 ^ s % 2 ^ 8 := by
    apply Nat.eq_of_testBit_eq
    intro i
    rw [Nat.testBit_mod_two_pow, Nat.testBit_mod_two_pow, Nat.testBit_div_two_pow]
    by_cases hi : i < 8
    · simp only [hi, decide_true, Bool.true_and]
      rw [BitVec.testBit_toNat, BitVec.testBit_toNat, BitVec.getLsbD_sshiftRight]
      simp [show s + i < 64 by omega, show ¬ 64 ≤ i by omega]
      congr 1; omega
    · simp [hi]
  omega
set_option maxHeartbeats 4000000 in
set_option maxRecDepth 100000 in
/-- put -/
theorem c_Mod_put (l : Launch) (g : sdG) (m0 mtt mcd mat msz mvl mcs mmm mkn mjp mds : Nat) (sz9 pl9 wd9 sy9 ra rd nx9 dn : Int32) (n : Nat) (tf : Nat → Int32) (tx : Nat → Nat) (hn : n ≤ 2000) (hT : ∀ i, i < n → tf i = nI (tx i)) (v : Int64) (x : Int32) (sz : Nat) : Met l y_Mod_put (.code y_Mod_put b_Mod_put 5 (some .boolean) :: sdT) ({ frames := 0, cells := 0, slots := 0, locals := 0 }) (va_Pc [.ref m0, .long v, .int x] (sdU g [(m0, .inr (8, [.ref mtt, .int (nI n), .int sz9, .int pl9, .int wd9, .ref mcd, .int sy9, .ref mat, .ref msz, .ref mvl, .ref mcs, .ref mmm, .int ra, .int rd, .int nx9, .int dn, .ref mkn, .ref mjp, .ref mds])), (mtt, .inl (gI g, 2000, .inl tf))] sz)) (va_Qi (S := Nat × (Nat → Int32)) (fun r u => (∃ k, putOK x n k ∧ r = nI 1 ∧ u.1 = n + k ∧ ∀ i, i < n + k → u.2 i = nI (txA tx n v k i)) ∨ ((¬ ∃ k, putOK x n k) ∧ r = nI 0 ∧ u.1 = n ∧ u.2 = tf)) (fun u t => sdB g [(m0, .inr (8, [.ref mtt, .int (nI n), .int sz9, .int pl9, .int wd9, .ref mcd, .int sy9, .ref mat, .ref msz, .ref mvl, .ref mcs, .ref mmm, .int ra, .int rd, .int nx9, .int dn, .ref mkn, .ref mjp, .ref mds])), (mtt, .inl (gI g, 2000, .inl tf))] sz ((fun u => [(m0, .inr (8, [.ref mtt, .int (nI u.1), .int sz9, .int pl9, .int wd9, .ref mcd, .int sy9, .ref mat, .ref msz, .ref mvl, .ref mcs, .ref mmm, .int ra, .int rd, .int nx9, .int dn, .ref mkn, .ref mjp, .ref mds])), (mtt, .inl (gI g, 2000, .inl u.2))] : Nat × (Nat → Int32) → va_W) u) t) (va_A [(m0, .inr (8, [.ref mtt, .int (nI n), .int sz9, .int pl9, .int wd9, .ref mcd, .int sy9, .ref mat, .ref msz, .ref mvl, .ref mcs, .ref mmm, .int ra, .int rd, .int nx9, .int dn, .ref mkn, .ref mjp, .ref mds])), (mtt, .inl (gI g, 2000, .inl tf))] sz)) 0 0 (va_A [(m0, .inr (8, [.ref mtt, .int (nI n), .int sz9, .int pl9, .int wd9, .ref mcd, .int sy9, .ref mat, .ref msz, .ref mvl, .ref mcs, .ref mmm, .int ra, .int rd, .int nx9, .int dn, .ref mkn, .ref mjp, .ref mds])), (mtt, .inl (gI g, 2000, .inl tf))] sz) := by
  refine Met.ofW (cc := b_Mod_put) (maxL := 5) (ret := (some .boolean)) (by decide) rfl ?_
  intro p ev s m args below meth c s₁ B hml hv
  obtain ⟨rfl, hsz, hP, hK, hE, hD0, hs0⟩ := hv
  have hx := B.exec
  have hb := B.bytes
  have hr := B.returns
  have hts := fun (w : Cond) (h : w ∈ sdT) => atoms_spec (ws := (.code y_Mod_put b_Mod_put 5 (some .boolean) :: sdT)) B.pre w (List.mem_cons_of_mem _ h)
  have hown : s.vm.findClass "SignDeskModel" = some m.cls := findClass_of_methodNamed B.named
  have hlocks := B.notSynchronized
  subst hsz
  have hD := hD0.self (sz := s.heap.size)
  have hA0 : ∀ q : Nat, va_A [(m0, .inr (8, [.ref mtt, .int (nI n), .int sz9, .int pl9, .int wd9, .ref mcd, .int sy9, .ref mat, .ref msz, .ref mvl, .ref mcs, .ref mmm, .int ra, .int rd, .int nx9, .int dn, .ref mkn, .ref mjp, .ref mds])), (mtt, .inl (gI g, 2000, .inl tf))] s.heap.size q → gS g ≤ q := fun q h => h.elim (fun ⟨k, e, hk⟩ => hD0.2 k _ hk) (fun h => Nat.le_trans hs0 h)
  have hA : ∀ q : Nat, s.heap.size ≤ q → va_A [(m0, .inr (8, [.ref mtt, .int (nI n), .int sz9, .int pl9, .int wd9, .ref mcd, .int sy9, .ref mat, .ref msz, .ref mvl, .ref mcs, .ref mmm, .int ra, .int rd, .int nx9, .int dn, .ref mkn, .ref mjp, .ref mds])), (mtt, .inl (gI g, 2000, .inl tf))] s.heap.size q := fun q h => Or.inr h
  generalize hAe : va_A [(m0, .inr (8, [.ref mtt, .int (nI n), .int sz9, .int pl9, .int wd9, .ref mcd, .int sy9, .ref mat, .ref msz, .ref mvl, .ref mcs, .ref mmm, .int ra, .int rd, .int nx9, .int dn, .ref mkn, .ref mjp, .ref mds])), (mtt, .inl (gI g, 2000, .inl tf))] s.heap.size = A at hD hA0 hA ⊢
  have hS : va_S A s.heap s.heap [] := va_S.rf
  have hP : sdP g [(m0, .inr (8, [.ref mtt, .int (nI n), .int sz9, .int pl9, .int wd9, .ref mcd, .int sy9, .ref mat, .ref msz, .ref mvl, .ref mcs, .ref mmm, .int ra, .int rd, .int nx9, .int dn, .ref mkn, .ref mjp, .ref mds])), (mtt, .inl (gI g, 2000, .inl tf))] s.heap := hP
  have hl := lv_entry ([.ref m0, .long v, .int x]) (n := 5) (Nat.le_of_ble_eq_true rfl)
  rw [lg_entry_eq]
  generalize (lg_sl ([.ref m0, .long v, .int x]) ++ List.replicate (5 - (lg_sl ([.ref m0, .long v, .int x])).length) Slot.unset).toArray = ls at hl ⊢
  have hl : lv_has ls 5 [(0, .ref m0), (1, .long v), (3, .int x)] := hl
  refine lv_iload_n hx hb d_Mod_put_0 rfl (lv_at hl 2 rfl) ?_
  refine lv_iconst (v := (nI 1)) hx hb d_Mod_put_1 (by decide) ?_
  refine lv_icmp_lt (tgt := 23) hx hb d_Mod_put_2 (by decide) (fun c1 => ?_) (fun c1 => ?_)
  · refine lv_iconst (v := (nI 0)) hx hb d_Mod_put_23 (by decide) ?_
    have hP9 := hP.sub (ws' := [(m0, .inr (8, [.ref mtt, .int (nI n), .int sz9, .int pl9, .int wd9, .ref mcd, .int sy9, .ref mat, .ref msz, .ref mvl, .ref mcs, .ref mmm, .int ra, .int rd, .int nx9, .int dn, .ref mkn, .ref mjp, .ref mds])), (mtt, .inl (gI g, 2000, .inl tf))]) [0, 1] rfl
    have hD9 := hD.sub (ws' := [(m0, .inr (8, [.ref mtt, .int (nI n), .int sz9, .int pl9, .int wd9, .ref mcd, .int sy9, .ref mat, .ref msz, .ref mvl, .ref mcs, .ref mmm, .int ra, .int rd, .int nx9, .int dn, .ref mkn, .ref mjp, .ref mds])), (mtt, .inl (gI g, 2000, .inl tf))]) [0, 1] (by decide) rfl
    exact W.zret (v := (nI 0)) hx hb hr (by first | rfl | decide | exact sb_nar) (fun t ht hW => ⟨⟨_, (n, tf), rfl, Or.inr ⟨fun ⟨k, h1, h2, h3, h4⟩ => by
        subst h1; exact absurd c1 (nI_nlt (by omega) (by omega)), rfl, rfl, rfl⟩, by rw [ht]; exact hP9, by rw [hAe]; exact hD9⟩, hS.F ht⟩) hS.2.2 d_Mod_put_24
  · refine lv_iload_n hx hb d_Mod_put_5 rfl (lv_at hl 2 rfl) ?_
    refine lv_bipush (v := (nI 8)) hx hb d_Mod_put_6 (by decide) ?_
    refine lv_icmp_gt (tgt := 23) hx hb d_Mod_put_8 (by decide) (fun c2 => ?_) (fun c2 => ?_)
    · refine lv_iconst (v := (nI 0)) hx hb d_Mod_put_23 (by decide) ?_
      have hP9 := hP.sub (ws' := [(m0, .inr (8, [.ref mtt, .int (nI n), .int sz9, .int pl9, .int wd9, .ref mcd, .int sy9, .ref mat, .ref msz, .ref mvl, .ref mcs, .ref mmm, .int ra, .int rd, .int nx9, .int dn, .ref mkn, .ref mjp, .ref mds])), (mtt, .inl (gI g, 2000, .inl tf))]) [0, 1] rfl
      have hD9 := hD.sub (ws' := [(m0, .inr (8, [.ref mtt, .int (nI n), .int sz9, .int pl9, .int wd9, .ref mcd, .int sy9, .ref mat, .ref msz, .ref mvl, .ref mcs, .ref mmm, .int ra, .int rd, .int nx9, .int dn, .ref mkn, .ref mjp, .ref mds])), (mtt, .inl (gI g, 2000, .inl tf))]) [0, 1] (by decide) rfl
      exact W.zret (v := (nI 0)) hx hb hr (by first | rfl | decide | exact sb_nar) (fun t ht hW => ⟨⟨_, (n, tf), rfl, Or.inr ⟨fun ⟨k, h1, h2, h3, h4⟩ => by
          subst h1; exact absurd c2 (nI_nlt (by omega) (by omega)), rfl, rfl, rfl⟩, by rw [ht]; exact hP9, by rw [hAe]; exact hD9⟩, hS.F ht⟩) hS.2.2 d_Mod_put_24
    · obtain ⟨k, hk, rfl⟩ := nI_of (x := x) (fun q => c1 (Int32.lt_of_lt_of_le q (by decide)))
      have hk1 := mt (nI_ltI (b := 1) (by omega) (by omega)).mpr c1
      have hk8 := mt (nI_ltI (a := 8) (by omega) (by omega)).mpr c2
      refine lv_aload_n hx hb d_Mod_put_11 rfl (lv_at hl 0 rfl) ?_
      refine va_get (D := g.1) (ci := 8) (v := .int (nI n)) (C := "SignDeskModel") (T := F_Mod) (N := 19) hx hb hts in_Mod hown hK hP 0 rfl rfl 1 (by decide) (hts _ k_495) (fun _ h9 => h9) rfl d_Mod_put_12 ?_
      refine lv_iload_n hx hb d_Mod_put_15 rfl (lv_at hl 2 rfl) ?_
      refine lv_iadd hx hb d_Mod_put_16 ?_
      refine sd_topi (y := nI (n + k)) (nI_add _ _) ?_
      refine lv_sipush (v := (nI 2000)) hx hb d_Mod_put_17 (by decide) ?_
      refine lv_icmp_le (tgt := 25) hx hb d_Mod_put_20 (by decide) (fun c3 => ?_) (fun c3 => ?_)
      · have c3 := (nI_leI (by omega) (by omega)).mp c3
        refine lv_iload_n hx hb d_Mod_put_25 rfl (lv_at hl 2 rfl) ?_
        refine lv_iconst (v := (nI 1)) hx hb d_Mod_put_26 (by decide) ?_
        refine lv_isub hx hb d_Mod_put_27 ?_
        refine lv_istore (lv' := [(4, .int ((nI k) - (nI 1))), (0, .ref m0), (1, .long v), (3, .int (nI k))]) hx hb d_Mod_put_28 hl (by decide) rfl (fun ls hl => ?_)
        refine sd_loop (fun (x : Heap × List Loc × Array Slot × Nat × (Nat → Int32)) => match x with | (H, locs, ls, j, t1) => lv_has ls 5 [(4, .int (nI (k - j) - 1)), (0, .ref m0), (1, .long v), (3, .int (nI k))] ∧ sdP g [(m0, .inr (8, [.ref mtt, .int (nI (n + j)), .int sz9, .int pl9, .int wd9, .ref mcd, .int sy9, .ref mat, .ref msz, .ref mvl, .ref mcs, .ref mmm, .int ra, .int rd, .int nx9, .int dn, .ref mkn, .ref mjp, .ref mds])), (mtt, .inl (gI g, 2000, .inl t1))] H ∧ va_D A [(m0, .inr (8, [.ref mtt, .int (nI (n + j)), .int sz9, .int pl9, .int wd9, .ref mcd, .int sy9, .ref mat, .ref msz, .ref mvl, .ref mcs, .ref mmm, .int ra, .int rd, .int nx9, .int dn, .ref mkn, .ref mjp, .ref mds])), (mtt, .inl (gI g, 2000, .inl t1))] ∧ va_S A s.heap H locs ∧ (j ≤ k) ∧ (∀ i, i < n → t1 i = tf i) ∧ (∀ i, i < j → t1 (n + i) = nI (tb v (8 * (k - 1 - i))))) (fun (x : Heap × List Loc × Array Slot × Nat × (Nat → Int32)) => match x with | (H, locs, ls, j, t1) => k - j) (fun x => x.1) (fun x => x.2.1) (fun (x : Heap × List Loc × Array Slot × Nat × (Nat → Int32)) => match x with | (H, locs, ls, j, t1) => 0) (fun (x : Heap × List Loc × Array Slot × Nat × (Nat → Int32)) => match x with | (H, locs, ls, j, t1) => 0) (fun x => F0 m 30 x.2.2.1 []) (fun x hI ih => ?_) (s.heap, _, ls, 0, tf) ⟨lv_sub hl [0, 1, 2, 3] rfl, hP.sub [0, 1] rfl, hD.sub [0, 1] (by decide) rfl, hS, Nat.zero_le _, fun _ _ => rfl, fun i h => absurd h (Nat.not_lt_zero i)⟩
        obtain ⟨H, locs, ls, j, t1⟩ := x
        obtain ⟨hl, hP, hD, hS, h1, h2, h3⟩ := hI
        show W p l ev _ s m _ below meth c H locs (0) (0) _ (F0 m 30 ls [])
        have hP : sdP g [(m0, .inr (8, [.ref mtt, .int (nI (n + j)), .int sz9, .int pl9, .int wd9, .ref mcd, .int sy9, .ref mat, .ref msz, .ref mvl, .ref mcs, .ref mmm, .int ra, .int rd, .int nx9, .int dn, .ref mkn, .ref mjp, .ref mds])), (mtt, .inl (gI g, 2000, .inl t1))] H := hP
        have hD : va_D A [(m0, .inr (8, [.ref mtt, .int (nI (n + j)), .int sz9, .int pl9, .int wd9, .ref mcd, .int sy9, .ref mat, .ref msz, .ref mvl, .ref mcs, .ref mmm, .int ra, .int rd, .int nx9, .int dn, .ref mkn, .ref mjp, .ref mds])), (mtt, .inl (gI g, 2000, .inl t1))] := hD
        refine lv_iload hx hb d_Mod_put_30 (lv_at hl 0 rfl) ?_
        refine lv_if_lt (tgt := 72) hx hb d_Mod_put_32 (by decide) (fun c4 => ?_) (fun c4 => ?_)
        · have e1 : j = k := by have := (m1_lt (by omega)).mp c4; omega
          subst e1
          refine lv_iconst (v := (nI 1)) hx hb d_Mod_put_72 (by decide) ?_
          have hP9 := hP.sub (ws' := [(m0, .inr (8, [.ref mtt, .int (nI (n + j)), .int sz9, .int pl9, .int wd9, .ref mcd, .int sy9, .ref mat, .ref msz, .ref mvl, .ref mcs, .ref mmm, .int ra, .int rd, .int nx9, .int dn, .ref mkn, .ref mjp, .ref mds])), (mtt, .inl (gI g, 2000, .inl t1))]) [0, 1] rfl
          have hD9 := hD.sub (ws' := [(m0, .inr (8, [.ref mtt, .int (nI (n + j)), .int sz9, .int pl9, .int wd9, .ref mcd, .int sy9, .ref mat, .ref msz, .ref mvl, .ref mcs, .ref mmm, .int ra, .int rd, .int nx9, .int dn, .ref mkn, .ref mjp, .ref mds])), (mtt, .inl (gI g, 2000, .inl t1))]) [0, 1] (by decide) rfl
          exact W.zret (v := (nI 1)) hx hb hr (by first | rfl | decide | exact sb_nar) (fun t ht hW => ⟨⟨_, (n + j, t1), rfl, Or.inl ⟨j, ⟨rfl, by omega, by omega, by omega⟩, rfl, rfl, fun i hi => by
              show t1 i = nI (txA tx n v j i)
              unfold txA
              by_cases q : i < n
              · rw [if_pos q, h2 i q]; exact hT i q
              · rw [if_neg q, if_pos hi]
                have := h3 (i - n) (by omega)
                rw [show n + (i - n) = i by omega] at this
                exact this⟩, by rw [ht]; exact hP9, by rw [hAe]; exact hD9⟩, hS.F ht⟩) hS.2.2 d_Mod_put_73
        · have hj : j < k := by
            rcases Nat.lt_or_ge j k with q | q
            · exact q
            · exact absurd ((m1_lt (by omega)).mpr (by omega)) c4
          refine lv_aload_n hx hb d_Mod_put_35 rfl (lv_at hl 1 rfl) ?_
          refine va_get (D := g.1) (ci := 8) (v := .ref mtt) (C := "SignDeskModel") (T := F_Mod) (N := 19) hx hb hts in_Mod hown hK hP 0 rfl rfl 0 (by decide) (hts _ k_494) (fun _ h9 => h9) rfl d_Mod_put_36 ?_
          refine lv_aload_n hx hb d_Mod_put_39 rfl (lv_at hl 1 rfl) ?_
          refine va_get (D := g.1) (ci := 8) (v := .int (nI (n + j))) (C := "SignDeskModel") (T := F_Mod) (N := 19) hx hb hts in_Mod hown hK hP 0 rfl rfl 1 (by decide) (hts _ k_495) (fun _ h9 => h9) rfl d_Mod_put_40 ?_
          refine lv_lload_n hx hb d_Mod_put_43 rfl (lv_at hl 2 rfl) ?_
          refine lv_bipush (v := (nI 8)) hx hb d_Mod_put_44 (by decide) ?_
          refine lv_iload hx hb d_Mod_put_46 (lv_at hl 0 rfl) ?_
          refine sd_topi (y := nI (k - 1 - j)) (by rw [m1_up (by omega)]; congr 1; omega) ?_
          refine lv_imul hx hb d_Mod_put_48 ?_
          refine sd_topi (y := nI (8 * (k - 1 - j))) (pk_mul _ _) ?_
          refine lv_lshr hx hb d_Mod_put_49 rfl ?_
          refine lv_l2i hx hb d_Mod_put_50 rfl ?_
          refine lv_sipush (v := (nI 255)) hx hb d_Mod_put_51 (by decide) ?_
          refine lv_iand hx hb d_Mod_put_54 ?_
          refine sd_topi (y := nI (tb v (8 * (k - 1 - j)))) (tb_A v (by omega)) ?_
          refine va_iast hx hb hK hP hD hS 1 1 rfl rfl (i := (nI (n + j))) (x := (nI (tb v (8 * (k - 1 - j))))) (vp_in_nI (by omega) (by omega)) d_Mod_put_55 (fun H locs hP hD hS => ?_)
          have hP : sdP g [(m0, .inr (8, [.ref mtt, .int (nI (n + j)), .int sz9, .int pl9, .int wd9, .ref mcd, .int sy9, .ref mat, .ref msz, .ref mvl, .ref mcs, .ref mmm, .int ra, .int rd, .int nx9, .int dn, .ref mkn, .ref mjp, .ref mds])), (mtt, .inl (gI g, 2000, .inl (upd t1 ((nI (n + j))).toNatClampNeg (nI (tb v (8 * (k - 1 - j)))))))] H := hP
          have hD : va_D A [(m0, .inr (8, [.ref mtt, .int (nI (n + j)), .int sz9, .int pl9, .int wd9, .ref mcd, .int sy9, .ref mat, .ref msz, .ref mvl, .ref mcs, .ref mmm, .int ra, .int rd, .int nx9, .int dn, .ref mkn, .ref mjp, .ref mds])), (mtt, .inl (gI g, 2000, .inl (upd t1 ((nI (n + j))).toNatClampNeg (nI (tb v (8 * (k - 1 - j)))))))] := hD
          have eF : (upd t1 ((nI (n + j))).toNatClampNeg (nI (tb v (8 * (k - 1 - j))))) = (upd t1 (n + j) (nI (tb v (8 * (k - 1 - j))))) := by rw [nI_clamp (by omega)]
          rw [eF] at hP hD
          refine lv_aload_n hx hb d_Mod_put_56 rfl (lv_at hl 1 rfl) ?_
          refine lv_aload_n hx hb d_Mod_put_57 rfl (lv_at hl 1 rfl) ?_
          refine va_get (D := g.1) (ci := 8) (v := .int (nI (n + j))) (C := "SignDeskModel") (T := F_Mod) (N := 19) hx hb hts in_Mod hown hK hP 0 rfl rfl 1 (by decide) (hts _ k_495) (fun _ h9 => h9) rfl d_Mod_put_58 ?_
          refine lv_iconst (v := (nI 1)) hx hb d_Mod_put_61 (by decide) ?_
          refine lv_iadd hx hb d_Mod_put_62 ?_
          refine sd_topi (y := nI ((n + j) + 1)) (nI_add _ _) ?_
          refine va_put (D := g.1) (ci := 8) (v := .int (nI ((n + j) + 1))) (ty := .int) (C := "SignDeskModel") (T := F_Mod) (N := 19) hx hb hts in_Mod t_Mod t_Mod_ok n_Mod hown hK hP hD hS 0 rfl rfl 1 (by decide) (hts _ k_495) (fun _ h9 => h9) rfl (by decide +kernel) rfl rfl (Nat.le_of_ble_eq_true rfl) d_Mod_put_63 (fun H locs hP hD hS => ?_)
          have hP : sdP g [(m0, .inr (8, [.ref mtt, .int (nI ((n + j) + 1)), .int sz9, .int pl9, .int wd9, .ref mcd, .int sy9, .ref mat, .ref msz, .ref mvl, .ref mcs, .ref mmm, .int ra, .int rd, .int nx9, .int dn, .ref mkn, .ref mjp, .ref mds])), (mtt, .inl (gI g, 2000, .inl (upd t1 (n + j) (nI (tb v (8 * (k - 1 - j)))))))] H := hP
          have hD : va_D A [(m0, .inr (8, [.ref mtt, .int (nI ((n + j) + 1)), .int sz9, .int pl9, .int wd9, .ref mcd, .int sy9, .ref mat, .ref msz, .ref mvl, .ref mcs, .ref mmm, .int ra, .int rd, .int nx9, .int dn, .ref mkn, .ref mjp, .ref mds])), (mtt, .inl (gI g, 2000, .inl (upd t1 (n + j) (nI (tb v (8 * (k - 1 - j)))))))] := hD
          refine lv_iinc (v := ((nI (k - j) - 1) + -1)) (lv' := [(4, .int ((nI (k - j) - 1) + -1)), (0, .ref m0), (1, .long v), (3, .int (nI k))]) hx hb d_Mod_put_66 hl (k := 0) rfl (rfl) (by decide) rfl (fun ls hl => ?_)
          refine lv_goto (tgt := 30) hx hb d_Mod_put_69 (by decide) ?_
          exact ih (H, locs, ls, j + 1, upd t1 (n + j) (nI (tb v (8 * (k - 1 - j))))) ⟨by
              have e9 : nI (k - (j + 1)) - 1 = nI (k - j) - 1 + -1 := by
                rw [m1_up (show ¬ k - j = 0 by omega), show k - j - 1 = k - (j + 1) by omega, Int32.sub_eq_add_neg]
              rw [e9]
              exact lv_sub hl [0, 1, 2, 3] rfl, hP.sub [0, 1] rfl, hD.sub [0, 1] (by decide) rfl, hS, by omega, fun i hi => by rw [pk_un (by omega)]; exact h2 i hi, fun i hi => by
              by_cases q : i = j
              · subst q; exact pk_us
              · rw [pk_un (by omega)]; exact h3 i (by omega)⟩ (show k - (j + 1) < k - j by omega)
      · have c3 := mt (nI_leI (by omega) (by omega)).mpr c3
        refine lv_iconst (v := (nI 0)) hx hb d_Mod_put_23 (by decide) ?_
        have hP9 := hP.sub (ws' := [(m0, .inr (8, [.ref mtt, .int (nI n), .int sz9, .int pl9, .int wd9, .ref mcd, .int sy9, .ref mat, .ref msz, .ref mvl, .ref mcs, .ref mmm, .int ra, .int rd, .int nx9, .int dn, .ref mkn, .ref mjp, .ref mds])), (mtt, .inl (gI g, 2000, .inl tf))]) [0, 1] rfl
        have hD9 := hD.sub (ws' := [(m0, .inr (8, [.ref mtt, .int (nI n), .int sz9, .int pl9, .int wd9, .ref mcd, .int sy9, .ref mat, .ref msz, .ref mvl, .ref mcs, .ref mmm, .int ra, .int rd, .int nx9, .int dn, .ref mkn, .ref mjp, .ref mds])), (mtt, .inl (gI g, 2000, .inl tf))]) [0, 1] (by decide) rfl
        exact W.zret (v := (nI 0)) hx hb hr (by first | rfl | decide | exact sb_nar) (fun t ht hW => ⟨⟨_, (n, tf), rfl, Or.inr ⟨fun ⟨k2, h1, h2, h3, h4⟩ => by
            have : k = k2 := (nI_eq (by omega) (by omega)).mp h1
            omega, rfl, rfl, rfl⟩, by rw [ht]; exact hP9, by rw [hAe]; exact hD9⟩, hS.F ht⟩) hS.2.2 d_Mod_put_24
set_option maxHeartbeats 4000000 in
set_option maxRecDepth 100000 in
/-- isSymbol -/
theorem c_Mod_isSymbol (l : Launch) (g : sdG) (m0 mtt mcd mat msz mvl mcs mmm mkn mjp mds : Nat) (tk9 sz9 pl9 wd9 sy9 ra rd nx9 dn : Int32) (n : Nat) (tf : Nat → Int32) (tx : Nat → Nat) (hT : MTok n tf tx) (a c9 : Nat) (ha : a ≤ 2001) (hc2 : c9 ≤ 2001) (hc9 : 1 ≤ c9 → a + c9 ≤ n) : Met l y_Mod_isSymbol (.code y_Mod_isSymbol b_Mod_isSymbol 5 (some .boolean) :: sdT) ({ frames := 3, cells := 0, slots := 0, locals := 60 }) (va_Pc [.ref m0, .int (nI a), .int (nI c9)] (sdR g [(m0, .inr (8, [.ref mtt, .int tk9, .int sz9, .int pl9, .int wd9, .ref mcd, .int sy9, .ref mat, .ref msz, .ref mvl, .ref mcs, .ref mmm, .int ra, .int rd, .int nx9, .int dn, .ref mkn, .ref mjp, .ref mds])), (mtt, .inl (gI g, 2000, .inl tf))])) (vp_Si (fun r => r = sb (syP tx a (a + c9)))) 0 0 (fun _ => False) := by
  refine Met.ofW (cc := b_Mod_isSymbol) (maxL := 5) (ret := (some .boolean)) (by decide) rfl ?_
  intro p ev s m args below meth c s₁ B hml hv
  obtain ⟨rfl, hP, hK, hE⟩ := hv
  have hx := B.exec
  have hb := B.bytes
  have hr := B.returns
  have hts := fun (w : Cond) (h : w ∈ sdT) => atoms_spec (ws := (.code y_Mod_isSymbol b_Mod_isSymbol 5 (some .boolean) :: sdT)) B.pre w (List.mem_cons_of_mem _ h)
  have hown : s.vm.findClass "SignDeskModel" = some m.cls := findClass_of_methodNamed B.named
  have hlocks := B.notSynchronized
  have hF : ∀ a : Nat, a < s.heap.size → ¬ sdA g a → s.heap[a]? = s.heap[a]? := fun _ _ _ => rfl
  have hP : sdP g [(m0, .inr (8, [.ref mtt, .int tk9, .int sz9, .int pl9, .int wd9, .ref mcd, .int sy9, .ref mat, .ref msz, .ref mvl, .ref mcs, .ref mmm, .int ra, .int rd, .int nx9, .int dn, .ref mkn, .ref mjp, .ref mds])), (mtt, .inl (gI g, 2000, .inl tf))] s.heap := hP
  have hl := lv_entry ([.ref m0, .int (nI a), .int (nI c9)]) (n := 5) (Nat.le_of_ble_eq_true rfl)
  rw [lg_entry_eq]
  generalize (lg_sl ([.ref m0, .int (nI a), .int (nI c9)]) ++ List.replicate (5 - (lg_sl ([.ref m0, .int (nI a), .int (nI c9)])).length) Slot.unset).toArray = ls at hl ⊢
  have hl : lv_has ls 5 [(0, .ref m0), (1, .int (nI a)), (2, .int (nI c9))] := hl
  have hn := hT.1
  have hb8 := hT.2.1
  refine lv_iload_n hx hb d_Mod_isSymbol_0 rfl (lv_at hl 2 rfl) ?_
  refine lv_iconst (v := (nI 1)) hx hb d_Mod_isSymbol_1 (by decide) ?_
  refine lv_icmp_lt (tgt := 23) hx hb d_Mod_isSymbol_2 (by decide) (fun c1 => ?_) (fun c1 => ?_)
  · have c1 := (nI_ltI (by omega) (by omega)).mp c1
    refine lv_iconst (v := (nI 0)) hx hb d_Mod_isSymbol_23 (by decide) ?_
    exact W.zret (v := (nI 0)) hx hb hr (by first | rfl | decide | exact sb_nar) (fun t ht hW => ⟨_, rfl, (sb_f (fun q => absurd q.1 (by omega))).symm, ht⟩) (fun _ h => by cases h) d_Mod_isSymbol_24
  · have c1 := mt (nI_ltI (by omega) (by omega)).mpr c1
    refine lv_iload_n hx hb d_Mod_isSymbol_5 rfl (lv_at hl 2 rfl) ?_
    refine lv_bipush (v := (nI 16)) hx hb d_Mod_isSymbol_6 (by decide) ?_
    refine lv_icmp_gt (tgt := 23) hx hb d_Mod_isSymbol_8 (by decide) (fun c2 => ?_) (fun c2 => ?_)
    · have c2 := (nI_ltI (by omega) (by omega)).mp c2
      refine lv_iconst (v := (nI 0)) hx hb d_Mod_isSymbol_23 (by decide) ?_
      exact W.zret (v := (nI 0)) hx hb hr (by first | rfl | decide | exact sb_nar) (fun t ht hW => ⟨_, rfl, (sb_f (fun q => absurd q.2.1 (by omega))).symm, ht⟩) (fun _ h => by cases h) d_Mod_isSymbol_24
    · have c2 := mt (nI_ltI (by omega) (by omega)).mpr c2
      have hac := hc9 (by omega)
      refine lv_aload_n hx hb d_Mod_isSymbol_11 rfl (lv_at hl 0 rfl) ?_
      refine va_get (D := g.1) (ci := 8) (v := .ref mtt) (C := "SignDeskModel") (T := F_Mod) (N := 19) hx hb hts in_Mod hown hK hP 0 rfl rfl 0 (by decide) (hts _ k_494) (fun _ h9 => h9) rfl d_Mod_isSymbol_12 ?_
      refine lv_iload_n hx hb d_Mod_isSymbol_15 rfl (lv_at hl 1 rfl) ?_
      refine va_iald hx hb hK hP 1 1 rfl rfl (i := (nI a)) (vp_in_nI (by omega) (by omega)) d_Mod_isSymbol_16 ?_
      refine sd_topi (y := nI (tx (a))) (by rw [nI_clamp (by omega)]; exact hT.2.2.1 _ (by omega)) ?_
      have hb8i := hb8 (a)
      refine sd_ri (va_runS (As := [.int (nI (tx (a)))]) (rest := []) ⟨hx, hb, hml, hown, hts⟩ (c_Mod_isDigit l (tx a) (hb8 a)) (va_cwS 1 hts (sd_gS k_588 k_589 k_30 k_590) rfl rfl rfl (by decide +kernel) ⟨Nat.le_of_ble_eq_true rfl, Nat.le_of_ble_eq_true rfl⟩) preEq rfl rfl hl.1 rfl (lv_room (Nat.le_of_ble_eq_true rfl)) d_Mod_isSymbol_17 ⟨Nat.zero_le _, Nat.zero_le _⟩) (fun r3 er3 => ?_)
      subst er3
      refine lv_if_eq (tgt := 25) hx hb d_Mod_isSymbol_20 (by decide) (fun c4 => ?_) (fun c4 => ?_)
      · have c4 := sb_eq0.mp c4
        refine lv_iconst (v := (nI 1)) hx hb d_Mod_isSymbol_25 (by decide) ?_
        refine lv_istore_n (lv' := [(3, .int (nI 1)), (0, .ref m0), (1, .int (nI a)), (2, .int (nI c9))]) hx hb d_Mod_isSymbol_26 rfl hl (by decide) rfl (fun ls hl => ?_)
        refine lv_iconst (v := (nI 0)) hx hb d_Mod_isSymbol_27 (by decide) ?_
        refine lv_istore (lv' := [(4, .int (nI 0)), (3, .int (nI 1)), (0, .ref m0), (1, .int (nI a)), (2, .int (nI c9))]) hx hb d_Mod_isSymbol_28 hl (by decide) rfl (fun ls hl => ?_)
        refine sd_loopr (fun (i : Nat) ls => lv_has ls 5 [(4, .int (nI i)), (3, .int (sb (∀ j, j < i → isSy (tx (a + j))))), (0, .ref m0), (1, .int (nI a)), (2, .int (nI c9))] ∧ (i ≤ c9)) (fun (i : Nat) => c9 - i) 30 [] (fun i ls hI ih => ?_) (0) ⟨by
            have e1 : sb (∀ j, j < 0 → isSy (tx (a + j))) = nI 1 := sb_t (fun j h => absurd h (Nat.not_lt_zero j))
            rw [e1]
            exact lv_sub hl [0, 1, 2, 3, 4] rfl, Nat.zero_le _⟩
        obtain ⟨hl, h2⟩ := hI
        refine lv_iload hx hb d_Mod_isSymbol_30 (lv_at hl 0 rfl) ?_
        refine lv_iload_n hx hb d_Mod_isSymbol_32 rfl (lv_at hl 4 rfl) ?_
        refine lv_icmp_ge (tgt := 67) hx hb d_Mod_isSymbol_33 (by decide) (fun c5 => ?_) (fun c5 => ?_)
        · have c5 := (nI_leI (by omega) (by omega)).mp c5
          have e1 : i = c9 := by omega
          subst e1
          refine lv_iload_n hx hb d_Mod_isSymbol_67 rfl (lv_at hl 1 rfl) ?_
          exact W.zret (v := (sb (∀ j, j < i → isSy (tx (a + j))))) hx hb hr (sb_nar)  (fun t ht hW => ⟨_, rfl, sb_congr ⟨fun q => ⟨by omega, by omega, c4, fun j h5 h6 => by have := q (j - a) (by omega); rw [show a + (j - a) = j by omega] at this; exact this⟩, fun q j hj => q.2.2.2 (a + j) (by omega) (by omega)⟩, ht⟩) (fun _ h => by cases h) d_Mod_isSymbol_68
        · have c5 := mt (nI_leI (by omega) (by omega)).mpr c5
          refine lv_iload_n hx hb d_Mod_isSymbol_36 rfl (lv_at hl 1 rfl) ?_
          refine lv_if_eq (tgt := 59) hx hb d_Mod_isSymbol_37 (by decide) (fun c6 => ?_) (fun c6 => ?_)
          · have c6 := sb_eq0.mp c6
            refine lv_iconst (v := (nI 0)) hx hb d_Mod_isSymbol_59 (by decide) ?_
            refine lv_istore_n (lv' := [(3, .int (nI 0)), (4, .int (nI i)), (0, .ref m0), (1, .int (nI a)), (2, .int (nI c9))]) hx hb d_Mod_isSymbol_60 rfl hl (by decide) rfl (fun ls hl => ?_)
            refine lv_iinc (v := (nI (i + 1))) (lv' := [(4, .int (nI (i + 1))), (3, .int (nI 0)), (0, .ref m0), (1, .int (nI a)), (2, .int (nI c9))]) hx hb d_Mod_isSymbol_61 hl (k := 1) rfl (nI_1 _) (by decide) rfl (fun ls hl => ?_)
            refine lv_goto (tgt := 30) hx hb d_Mod_isSymbol_64 (by decide) ?_
            exact ih (i + 1) _ ⟨by
                have e1 : sb (∀ j, j < i + 1 → isSy (tx (a + j))) = nI 0 := sb_f (fun q => c6 (fun j hj => q j (by omega)))
                rw [e1]
                exact lv_sub hl [0, 1, 2, 3, 4] rfl, by omega⟩ (show c9 - (i + 1) < c9 - i by omega)
          · have c6 := sb_ne0.mp c6
            refine lv_aload_n hx hb d_Mod_isSymbol_40 rfl (lv_at hl 2 rfl) ?_
            refine va_get (D := g.1) (ci := 8) (v := .ref mtt) (C := "SignDeskModel") (T := F_Mod) (N := 19) hx hb hts in_Mod hown hK hP 0 rfl rfl 0 (by decide) (hts _ k_494) (fun _ h9 => h9) rfl d_Mod_isSymbol_41 ?_
            refine lv_iload_n hx hb d_Mod_isSymbol_44 rfl (lv_at hl 3 rfl) ?_
            refine lv_iload hx hb d_Mod_isSymbol_45 (lv_at hl 0 rfl) ?_
            refine lv_iadd hx hb d_Mod_isSymbol_47 ?_
            refine sd_topi (y := nI (a + i)) (nI_add _ _) ?_
            refine va_iald hx hb hK hP 1 1 rfl rfl (i := (nI (a + i))) (vp_in_nI (by omega) (by omega)) d_Mod_isSymbol_48 ?_
            refine sd_topi (y := nI (tx (a + i))) (by rw [nI_clamp (by omega)]; exact hT.2.2.1 _ (by omega)) ?_
            have hb8i := hb8 (a + i)
            refine sd_ri (va_runS (As := [.int (nI (tx (a + i)))]) (rest := []) ⟨hx, hb, hml, hown, hts⟩ (c_Mod_isSymbolByte l (tx (a + i)) (hb8 _)) (va_cwS 1 hts (sd_gS k_591 k_592 k_30 k_593) rfl rfl rfl (by decide +kernel) ⟨Nat.le_of_ble_eq_true rfl, Nat.le_of_ble_eq_true rfl⟩) preEq rfl rfl hl.1 rfl (lv_room (Nat.le_of_ble_eq_true rfl)) d_Mod_isSymbol_49 ⟨Nat.zero_le _, Nat.zero_le _⟩) (fun r7 er7 => ?_)
            subst er7
            refine lv_if_eq (tgt := 59) hx hb d_Mod_isSymbol_52 (by decide) (fun c8 => ?_) (fun c8 => ?_)
            · have c8 := sb_eq0.mp c8
              refine lv_iconst (v := (nI 0)) hx hb d_Mod_isSymbol_59 (by decide) ?_
              refine lv_istore_n (lv' := [(3, .int (nI 0)), (4, .int (nI i)), (0, .ref m0), (1, .int (nI a)), (2, .int (nI c9))]) hx hb d_Mod_isSymbol_60 rfl hl (by decide) rfl (fun ls hl => ?_)
              refine lv_iinc (v := (nI (i + 1))) (lv' := [(4, .int (nI (i + 1))), (3, .int (nI 0)), (0, .ref m0), (1, .int (nI a)), (2, .int (nI c9))]) hx hb d_Mod_isSymbol_61 hl (k := 1) rfl (nI_1 _) (by decide) rfl (fun ls hl => ?_)
              refine lv_goto (tgt := 30) hx hb d_Mod_isSymbol_64 (by decide) ?_
              exact ih (i + 1) _ ⟨by
                  have e1 : sb (∀ j, j < i + 1 → isSy (tx (a + j))) = nI 0 := sb_f (fun q => c8 (q i (by omega)))
                  rw [e1]
                  exact lv_sub hl [0, 1, 2, 3, 4] rfl, by omega⟩ (show c9 - (i + 1) < c9 - i by omega)
            · have c8 := sb_ne0.mp c8
              refine lv_iconst (v := (nI 1)) hx hb d_Mod_isSymbol_55 (by decide) ?_
              refine lv_goto (tgt := 60) hx hb d_Mod_isSymbol_56 (by decide) ?_
              refine lv_istore_n (lv' := [(3, .int (nI 1)), (4, .int (nI i)), (0, .ref m0), (1, .int (nI a)), (2, .int (nI c9))]) hx hb d_Mod_isSymbol_60 rfl hl (by decide) rfl (fun ls hl => ?_)
              refine lv_iinc (v := (nI (i + 1))) (lv' := [(4, .int (nI (i + 1))), (3, .int (nI 1)), (0, .ref m0), (1, .int (nI a)), (2, .int (nI c9))]) hx hb d_Mod_isSymbol_61 hl (k := 1) rfl (nI_1 _) (by decide) rfl (fun ls hl => ?_)
              refine lv_goto (tgt := 30) hx hb d_Mod_isSymbol_64 (by decide) ?_
              exact ih (i + 1) _ ⟨by
                  have e1 : sb (∀ j, j < i + 1 → isSy (tx (a + j))) = nI 1 := sb_t (fun j hj => by
                    rcases Nat.lt_or_ge j i with q | q
                    · exact c6 j q
                    · have : j = i := by omega
                      subst this; exact c8)
                  rw [e1]
                  exact lv_sub hl [0, 1, 2, 3, 4] rfl, by omega⟩ (show c9 - (i + 1) < c9 - i by omega)
      · have c4 := sb_ne0.mp c4
        refine lv_iconst (v := (nI 0)) hx hb d_Mod_isSymbol_23 (by decide) ?_
        exact W.zret (v := (nI 0)) hx hb hr (by first | rfl | decide | exact sb_nar) (fun t ht hW => ⟨_, rfl, (sb_f (fun q => q.2.2.1 c4)).symm, ht⟩) (fun _ h => by cases h) d_Mod_isSymbol_24
