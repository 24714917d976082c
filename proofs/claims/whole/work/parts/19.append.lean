theorem bp_b (x : Int32) : x.toInt8.toInt32 &&& 255 = x &&& 255 := by
  apply Int32.toBitVec_inj.mp
  rw [Int32.toBitVec_and, Int32.toBitVec_and, Int8.toBitVec_toInt32, Int32.toBitVec_toInt8]
  apply BitVec.eq_of_getLsbD_eq
  intro i hi
  rw [BitVec.getLsbD_and, BitVec.getLsbD_and]
  have hm : ∀ i < 32, 8 ≤ i → (255 : Int32).toBitVec.getLsbD i = false := by decide
  rcases Nat.lt_or_ge i 8 with z | z
  · rw [BitVec.getLsbD_signExtend, BitVec.getLsbD_signExtend, if_pos z, if_pos hi]
    simp only [z, hi, decide_true, Bool.true_and]
  · rw [hm i hi z]; simp
def uN (x : Int64) : Nat := x.toUInt64.toNat
theorem uN_shr (x : Int64) (s : UInt64) : uN (x.toUInt64 >>> s).toInt64 = uN x / 2 ^ (s.toNat % 64) := by
  show (x.toUInt64 >>> s).toNat = _
  rw [UInt64.toNat_shiftRight, Nat.shiftRight_eq_div_pow]
  rfl
theorem uN_sk (x : Int64) {k : Nat} (hk : k < 64) : uN (x.toUInt64 >>> ((nI k).toInt64.toUInt64 &&& Int64.toUInt64 63)).toInt64 = uN x / 2 ^ k := by
  have h : ((nI k).toInt64.toUInt64 &&& Int64.toUInt64 63).toNat % 64 = k := by
    rw [nI_l (by omega), UInt64.toNat_and]
    have e : (lN k).toUInt64.toNat = k % 2 ^ 64 := rfl
    have e2 : (Int64.toUInt64 63).toNat = 2 ^ 6 - 1 := by decide
    rw [e, e2, Nat.and_two_pow_sub_one_eq_mod]
    omega
  rw [uN_shr, h]
/-- byte s of a long -/
def tb (v : Int64) (s : Nat) : Nat := uN v / 2 ^ s % 256
theorem tb_lt (v : Int64) (s : Nat) : tb v s < 256 := Nat.mod_lt _ (by decide)
theorem tb_L (v : Int64) {s : Nat} (hs : s < 64) : ((v.toUInt64 >>> ((nI s).toInt64.toUInt64 &&& Int64.toUInt64 63)).toInt64.toInt32).toInt8.toInt32 &&& 255 = nI (tb v s) := by
  rw [bp_b, pk_and _ 8 (by decide)]
  congr 1
  have e := uN_sk v hs
  generalize (v.toUInt64 >>> ((nI s).toInt64.toUInt64 &&& Int64.toUInt64 63)).toInt64 = y at e
  have e2 : y.toInt32.toBitVec.toNat = uN y % 2 ^ 32 := by
    rw [Int64.toBitVec_toInt32, BitVec.signExtend_eq_setWidth_of_le _ (by decide), BitVec.toNat_setWidth]; rfl
  rw [e2, e, tb]
  omega
/-- a put's text -/
def txA (tx : Nat → Nat) (n : Nat) (v : Int64) (k : Nat) : Nat → Nat := fun i => if i < n then tx i else if i < n + k then tb v (8 * (k - 1 - (i - n))) else 10
def putOK (x : Int32) (n k : Nat) : Prop := x = nI k ∧ 1 ≤ k ∧ k ≤ 8 ∧ n + k ≤ 2000
theorem TX_put {n k : Nat} {f f1 : Nat → Int32} {tx : Nat → Nat} {v : Int64} (hT : TXok n f tx) (hk : n + k ≤ 2000) (h1 : ∀ i, i < n → f1 i = f i) (h2 : ∀ i, i < k → f1 (n + i) &&& 255 = nI (tb v (8 * (k - 1 - i)))) : TXok (n + k) f1 (txA tx n v k) := by
  refine ⟨hk, fun i => ?_, fun i hi => ?_, fun i hi => ?_⟩
  · unfold txA
    split
    · exact hT.2.1 i
    · split
      · exact tb_lt _ _
      · decide
  · unfold txA
    by_cases q : i < n
    · rw [if_pos q, h1 i q]; exact hT.2.2.1 i q
    · rw [if_neg q, if_pos hi]
      have := h2 (i - n) (by omega)
      rw [show n + (i - n) = i by omega] at this
      exact this
  · unfold txA
    rw [if_neg (by omega), if_neg (by omega)]
set_option maxHeartbeats 4000000 in
set_option maxRecDepth 100000 in
/-- clear() -/
theorem c_Txt_clear (l : Launch) (g : sdG) (q1 q5 n : Nat) (f : Nat → Int32) (sz : Nat) : Met l y_Txt_clear (.code y_Txt_clear b_Txt_clear 1 none :: sdT) ({ frames := 0, cells := 0, slots := 0, locals := 0 }) (va_Pc [.ref q1] (sdU g [(q1, .inr (6, [.ref q5, .int (nI n)])), (q5, .inl (gB g, 2000, .inl f))] sz)) (va_Qv (S := Unit) (fun _ => True) (fun u t => sdB g [(q1, .inr (6, [.ref q5, .int (nI n)])), (q5, .inl (gB g, 2000, .inl f))] sz ((fun _ => [(q1, .inr (6, [.ref q5, .int (nI 0)])), (q5, .inl (gB g, 2000, .inl f))] : Unit → va_W) u) t) (va_A [(q1, .inr (6, [.ref q5, .int (nI n)])), (q5, .inl (gB g, 2000, .inl f))] sz)) 0 0 (va_A [(q1, .inr (6, [.ref q5, .int (nI n)])), (q5, .inl (gB g, 2000, .inl f))] sz) := by
  refine Met.ofW (cc := b_Txt_clear) (maxL := 1) (ret := none) (by decide) rfl ?_
  intro p ev s m args below meth c s₁ B hml hv
  obtain ⟨rfl, hsz, hP, hK, hE, hD0, hs0⟩ := hv
  have hx := B.exec
  have hb := B.bytes
  have hr := B.returns
  have hts := fun (w : Cond) (h : w ∈ sdT) => atoms_spec (ws := (.code y_Txt_clear b_Txt_clear 1 none :: sdT)) B.pre w (List.mem_cons_of_mem _ h)
  have hown : s.vm.findClass "SignDesk$Text" = some m.cls := findClass_of_methodNamed B.named
  have hlocks := B.notSynchronized
  subst hsz
  have hD := hD0.self (sz := s.heap.size)
  have hA0 : ∀ q : Nat, va_A [(q1, .inr (6, [.ref q5, .int (nI n)])), (q5, .inl (gB g, 2000, .inl f))] s.heap.size q → gS g ≤ q := fun q h => h.elim (fun ⟨k, e, hk⟩ => hD0.2 k _ hk) (fun h => Nat.le_trans hs0 h)
  have hA : ∀ q : Nat, s.heap.size ≤ q → va_A [(q1, .inr (6, [.ref q5, .int (nI n)])), (q5, .inl (gB g, 2000, .inl f))] s.heap.size q := fun q h => Or.inr h
  generalize hAe : va_A [(q1, .inr (6, [.ref q5, .int (nI n)])), (q5, .inl (gB g, 2000, .inl f))] s.heap.size = A at hD hA0 hA ⊢
  have hS : va_S A s.heap s.heap [] := va_S.rf
  have hP : sdP g [(q1, .inr (6, [.ref q5, .int (nI n)])), (q5, .inl (gB g, 2000, .inl f))] s.heap := hP
  have hl := lv_entry ([.ref q1]) (n := 1) (Nat.le_of_ble_eq_true rfl)
  rw [lg_entry_eq]
  generalize (lg_sl ([.ref q1]) ++ List.replicate (1 - (lg_sl ([.ref q1])).length) Slot.unset).toArray = ls at hl ⊢
  have hl : lv_has ls 1 [(0, .ref q1)] := hl
  refine lv_aload_n hx hb d_Txt_clear_0 rfl (lv_at hl 0 rfl) ?_
  refine lv_iconst (v := (nI 0)) hx hb d_Txt_clear_1 (by decide) ?_
  refine va_put (D := g.1) (ci := 6) (v := .int (nI 0)) (ty := .int) (C := "SignDesk$Text") (T := F_Txt) (N := 2) hx hb hts in_Txt t_Txt t_Txt_ok n_Txt hown hK hP hD hS 0 rfl rfl 1 (by decide) (hts _ k_52) (fun _ h9 => h9) rfl (by decide +kernel) rfl rfl (Nat.le_of_ble_eq_true rfl) d_Txt_clear_2 (fun H locs hP hD hS => ?_)
  have hP : sdP g [(q1, .inr (6, [.ref q5, .int (nI 0)])), (q5, .inl (gB g, 2000, .inl f))] H := hP
  have hD : va_D A [(q1, .inr (6, [.ref q5, .int (nI 0)])), (q5, .inl (gB g, 2000, .inl f))] := hD
  have hP9 := hP.sub (ws' := [(q1, .inr (6, [.ref q5, .int (nI 0)])), (q5, .inl (gB g, 2000, .inl f))]) [0, 1] rfl
  have hD9 := hD.sub (ws' := [(q1, .inr (6, [.ref q5, .int (nI 0)])), (q5, .inl (gB g, 2000, .inl f))]) [0, 1] (by decide) rfl
  exact W.vret hx hb hr (fun t ht hW => ⟨⟨(), rfl, trivial, by rw [ht]; exact hP9, by rw [hAe]; exact hD9⟩, hS.F ht⟩) hS.2.2 d_Txt_clear_5
set_option maxHeartbeats 4000000 in
set_option maxRecDepth 100000 in
/-- append(v, x) -/
theorem c_Txt_append (l : Launch) (g : sdG) (q1 q5 n : Nat) (f : Nat → Int32) (tx : Nat → Nat) (hT : TXok n f tx) (v : Int64) (x : Int32) (sz : Nat) : Met l y_Txt_append (.code y_Txt_append b_Txt_append 5 (some .boolean) :: sdT) ({ frames := 0, cells := 0, slots := 0, locals := 0 }) (va_Pc [.ref q1, .long v, .int x] (sdU g [(q1, .inr (6, [.ref q5, .int (nI n)])), (q5, .inl (gB g, 2000, .inl f))] sz)) (va_Qi (S := Nat × (Nat → Int32)) (fun r u => (∃ k, putOK x n k ∧ r = nI 1 ∧ u.1 = n + k ∧ TXok (n + k) u.2 (txA tx n v k)) ∨ ((¬ ∃ k, putOK x n k) ∧ r = nI 0 ∧ u.1 = n ∧ u.2 = f)) (fun u t => sdB g [(q1, .inr (6, [.ref q5, .int (nI n)])), (q5, .inl (gB g, 2000, .inl f))] sz ((fun u => [(q1, .inr (6, [.ref q5, .int (nI u.1)])), (q5, .inl (gB g, 2000, .inl u.2))] : Nat × (Nat → Int32) → va_W) u) t) (va_A [(q1, .inr (6, [.ref q5, .int (nI n)])), (q5, .inl (gB g, 2000, .inl f))] sz)) 0 0 (va_A [(q1, .inr (6, [.ref q5, .int (nI n)])), (q5, .inl (gB g, 2000, .inl f))] sz) := by
  refine Met.ofW (cc := b_Txt_append) (maxL := 5) (ret := (some .boolean)) (by decide) rfl ?_
  intro p ev s m args below meth c s₁ B hml hv
  obtain ⟨rfl, hsz, hP, hK, hE, hD0, hs0⟩ := hv
  have hx := B.exec
  have hb := B.bytes
  have hr := B.returns
  have hts := fun (w : Cond) (h : w ∈ sdT) => atoms_spec (ws := (.code y_Txt_append b_Txt_append 5 (some .boolean) :: sdT)) B.pre w (List.mem_cons_of_mem _ h)
  have hown : s.vm.findClass "SignDesk$Text" = some m.cls := findClass_of_methodNamed B.named
  have hlocks := B.notSynchronized
  subst hsz
  have hD := hD0.self (sz := s.heap.size)
  have hA0 : ∀ q : Nat, va_A [(q1, .inr (6, [.ref q5, .int (nI n)])), (q5, .inl (gB g, 2000, .inl f))] s.heap.size q → gS g ≤ q := fun q h => h.elim (fun ⟨k, e, hk⟩ => hD0.2 k _ hk) (fun h => Nat.le_trans hs0 h)
  have hA : ∀ q : Nat, s.heap.size ≤ q → va_A [(q1, .inr (6, [.ref q5, .int (nI n)])), (q5, .inl (gB g, 2000, .inl f))] s.heap.size q := fun q h => Or.inr h
  generalize hAe : va_A [(q1, .inr (6, [.ref q5, .int (nI n)])), (q5, .inl (gB g, 2000, .inl f))] s.heap.size = A at hD hA0 hA ⊢
  have hS : va_S A s.heap s.heap [] := va_S.rf
  have hP : sdP g [(q1, .inr (6, [.ref q5, .int (nI n)])), (q5, .inl (gB g, 2000, .inl f))] s.heap := hP
  have hl := lv_entry ([.ref q1, .long v, .int x]) (n := 5) (Nat.le_of_ble_eq_true rfl)
  rw [lg_entry_eq]
  generalize (lg_sl ([.ref q1, .long v, .int x]) ++ List.replicate (5 - (lg_sl ([.ref q1, .long v, .int x])).length) Slot.unset).toArray = ls at hl ⊢
  have hl : lv_has ls 5 [(0, .ref q1), (1, .long v), (3, .int x)] := hl
  have hn := hT.1
  refine lv_iload_n hx hb d_Txt_append_0 rfl (lv_at hl 2 rfl) ?_
  refine lv_iconst (v := (nI 1)) hx hb d_Txt_append_1 (by decide) ?_
  refine lv_icmp_lt (tgt := 23) hx hb d_Txt_append_2 (by decide) (fun c1 => ?_) (fun c1 => ?_)
  · refine lv_iconst (v := (nI 0)) hx hb d_Txt_append_23 (by decide) ?_
    have hP9 := hP.sub (ws' := [(q1, .inr (6, [.ref q5, .int (nI n)])), (q5, .inl (gB g, 2000, .inl f))]) [0, 1] rfl
    have hD9 := hD.sub (ws' := [(q1, .inr (6, [.ref q5, .int (nI n)])), (q5, .inl (gB g, 2000, .inl f))]) [0, 1] (by decide) rfl
    exact W.zret (v := (nI 0)) hx hb hr (by first | rfl | decide | exact sb_nar) (fun t ht hW => ⟨⟨_, (n, f), rfl, Or.inr ⟨fun ⟨k, h1, h2, h3, h4⟩ => by
        subst h1; exact absurd c1 (nI_nlt (by omega) (by omega)), rfl, rfl, rfl⟩, by rw [ht]; exact hP9, by rw [hAe]; exact hD9⟩, hS.F ht⟩) hS.2.2 d_Txt_append_24
  · refine lv_iload_n hx hb d_Txt_append_5 rfl (lv_at hl 2 rfl) ?_
    refine lv_bipush (v := (nI 8)) hx hb d_Txt_append_6 (by decide) ?_
    refine lv_icmp_gt (tgt := 23) hx hb d_Txt_append_8 (by decide) (fun c2 => ?_) (fun c2 => ?_)
    · refine lv_iconst (v := (nI 0)) hx hb d_Txt_append_23 (by decide) ?_
      have hP9 := hP.sub (ws' := [(q1, .inr (6, [.ref q5, .int (nI n)])), (q5, .inl (gB g, 2000, .inl f))]) [0, 1] rfl
      have hD9 := hD.sub (ws' := [(q1, .inr (6, [.ref q5, .int (nI n)])), (q5, .inl (gB g, 2000, .inl f))]) [0, 1] (by decide) rfl
      exact W.zret (v := (nI 0)) hx hb hr (by first | rfl | decide | exact sb_nar) (fun t ht hW => ⟨⟨_, (n, f), rfl, Or.inr ⟨fun ⟨k, h1, h2, h3, h4⟩ => by
          subst h1; exact absurd c2 (nI_nlt (by omega) (by omega)), rfl, rfl, rfl⟩, by rw [ht]; exact hP9, by rw [hAe]; exact hD9⟩, hS.F ht⟩) hS.2.2 d_Txt_append_24
    · refine lv_iload_n hx hb d_Txt_append_11 rfl (lv_at hl 2 rfl) ?_
      refine lv_sipush (v := (nI 2000)) hx hb d_Txt_append_12 (by decide) ?_
      refine lv_aload_n hx hb d_Txt_append_15 rfl (lv_at hl 0 rfl) ?_
      refine va_get (D := g.1) (ci := 6) (v := .int (nI n)) (C := "SignDesk$Text") (T := F_Txt) (N := 2) hx hb hts in_Txt hown hK hP 0 rfl rfl 1 (by decide) (hts _ k_52) (fun _ h9 => h9) rfl d_Txt_append_16 ?_
      refine lv_isub hx hb d_Txt_append_19 ?_
      refine sd_topi (y := nI (2000 - n)) (pk_sub (by omega)) ?_
      refine lv_icmp_le (tgt := 25) hx hb d_Txt_append_20 (by decide) (fun c3 => ?_) (fun c3 => ?_)
      · obtain ⟨k, hk, rfl⟩ := nI_of (x := x) (fun q => c1 (Int32.lt_of_lt_of_le q (by decide)))
        have hk1 := mt (nI_ltI (b := 1) (by omega) (by omega)).mpr c1
        have hk8 := mt (nI_ltI (a := 8) (by omega) (by omega)).mpr c2
        have hk2 := (nI_leI (by omega) (by omega)).mp c3
        refine lv_iconst (v := (nI 0)) hx hb d_Txt_append_25 (by decide) ?_
        refine lv_istore (lv' := [(4, .int (nI 0)), (0, .ref q1), (1, .long v), (3, .int (nI k))]) hx hb d_Txt_append_26 hl (by decide) rfl (fun ls hl => ?_)
        refine sd_loop (fun (x : Heap × List Loc × Array Slot × Nat × (Nat → Int32)) => match x with | (H, locs, ls, j, f1) => lv_has ls 5 [(4, .int (nI j)), (0, .ref q1), (1, .long v), (3, .int (nI k))] ∧ sdP g [(q1, .inr (6, [.ref q5, .int (nI n)])), (q5, .inl (gB g, 2000, .inl f1))] H ∧ va_D A [(q1, .inr (6, [.ref q5, .int (nI n)])), (q5, .inl (gB g, 2000, .inl f1))] ∧ va_S A s.heap H locs ∧ (j ≤ k) ∧ (∀ i, i < n → f1 i = f i) ∧ (∀ i, i < j → f1 (n + i) &&& 255 = nI (tb v (8 * (k - 1 - i))))) (fun (x : Heap × List Loc × Array Slot × Nat × (Nat → Int32)) => match x with | (H, locs, ls, j, f1) => k - j) (fun x => x.1) (fun x => x.2.1) (fun (x : Heap × List Loc × Array Slot × Nat × (Nat → Int32)) => match x with | (H, locs, ls, j, f1) => 0) (fun (x : Heap × List Loc × Array Slot × Nat × (Nat → Int32)) => match x with | (H, locs, ls, j, f1) => 0) (fun x => F0 m 28 x.2.2.1 []) (fun x hI ih => ?_) (s.heap, _, ls, 0, f) ⟨lv_sub hl [0, 1, 2, 3] rfl, hP.sub [0, 1] rfl, hD.sub [0, 1] (by decide) rfl, hS, Nat.zero_le _, fun _ _ => rfl, fun i h => absurd h (Nat.not_lt_zero i)⟩
        obtain ⟨H, locs, ls, j, f1⟩ := x
        obtain ⟨hl, hP, hD, hS, h1, h2, h3⟩ := hI
        show W p l ev _ s m _ below meth c H locs (0) (0) _ (F0 m 28 ls [])
        have hP : sdP g [(q1, .inr (6, [.ref q5, .int (nI n)])), (q5, .inl (gB g, 2000, .inl f1))] H := hP
        have hD : va_D A [(q1, .inr (6, [.ref q5, .int (nI n)])), (q5, .inl (gB g, 2000, .inl f1))] := hD
        refine lv_iload hx hb d_Txt_append_28 (lv_at hl 0 rfl) ?_
        refine lv_iload_n hx hb d_Txt_append_30 rfl (lv_at hl 3 rfl) ?_
        refine lv_icmp_ge (tgt := 65) hx hb d_Txt_append_31 (by decide) (fun c4 => ?_) (fun c4 => ?_)
        · have c4 := (nI_leI (by omega) (by omega)).mp c4
          have e1 : j = k := by omega
          rw [e1] at h3
          refine lv_aload_n hx hb d_Txt_append_65 rfl (lv_at hl 1 rfl) ?_
          refine lv_dup hx hb d_Txt_append_66 rfl ?_
          refine va_get (D := g.1) (ci := 6) (v := .int (nI n)) (C := "SignDesk$Text") (T := F_Txt) (N := 2) hx hb hts in_Txt hown hK hP 0 rfl rfl 1 (by decide) (hts _ k_52) (fun _ h9 => h9) rfl d_Txt_append_67 ?_
          refine lv_iload_n hx hb d_Txt_append_70 rfl (lv_at hl 3 rfl) ?_
          refine lv_iadd hx hb d_Txt_append_71 ?_
          refine sd_topi (y := nI (n + k)) (nI_add _ _) ?_
          refine va_put (D := g.1) (ci := 6) (v := .int (nI (n + k))) (ty := .int) (C := "SignDesk$Text") (T := F_Txt) (N := 2) hx hb hts in_Txt t_Txt t_Txt_ok n_Txt hown hK hP hD hS 0 rfl rfl 1 (by decide) (hts _ k_52) (fun _ h9 => h9) rfl (by decide +kernel) rfl rfl (Nat.le_of_ble_eq_true rfl) d_Txt_append_72 (fun H locs hP hD hS => ?_)
          have hP : sdP g [(q1, .inr (6, [.ref q5, .int (nI (n + k))])), (q5, .inl (gB g, 2000, .inl f1))] H := hP
          have hD : va_D A [(q1, .inr (6, [.ref q5, .int (nI (n + k))])), (q5, .inl (gB g, 2000, .inl f1))] := hD
          refine lv_iconst (v := (nI 1)) hx hb d_Txt_append_75 (by decide) ?_
          have hP9 := hP.sub (ws' := [(q1, .inr (6, [.ref q5, .int (nI (n + k))])), (q5, .inl (gB g, 2000, .inl f1))]) [0, 1] rfl
          have hD9 := hD.sub (ws' := [(q1, .inr (6, [.ref q5, .int (nI (n + k))])), (q5, .inl (gB g, 2000, .inl f1))]) [0, 1] (by decide) rfl
          exact W.zret (v := (nI 1)) hx hb hr (by first | rfl | decide | exact sb_nar) (fun t ht hW => ⟨⟨_, (n + k, f1), rfl, Or.inl ⟨k, ⟨rfl, by omega, by omega, by omega⟩, rfl, rfl, TX_put hT (by omega) h2 h3⟩, by rw [ht]; exact hP9, by rw [hAe]; exact hD9⟩, hS.F ht⟩) hS.2.2 d_Txt_append_76
        · have c4 := mt (nI_leI (by omega) (by omega)).mpr c4
          refine lv_aload_n hx hb d_Txt_append_34 rfl (lv_at hl 1 rfl) ?_
          refine va_get (D := g.1) (ci := 6) (v := .ref q5) (C := "SignDesk$Text") (T := F_Txt) (N := 2) hx hb hts in_Txt hown hK hP 0 rfl rfl 0 (by decide) (hts _ k_51) (fun _ h9 => h9) rfl d_Txt_append_35 ?_
          refine lv_aload_n hx hb d_Txt_append_38 rfl (lv_at hl 1 rfl) ?_
          refine va_get (D := g.1) (ci := 6) (v := .int (nI n)) (C := "SignDesk$Text") (T := F_Txt) (N := 2) hx hb hts in_Txt hown hK hP 0 rfl rfl 1 (by decide) (hts _ k_52) (fun _ h9 => h9) rfl d_Txt_append_39 ?_
          refine lv_iload hx hb d_Txt_append_42 (lv_at hl 0 rfl) ?_
          refine lv_iadd hx hb d_Txt_append_44 ?_
          refine sd_topi (y := nI (n + j)) (nI_add _ _) ?_
          refine lv_lload_n hx hb d_Txt_append_45 rfl (lv_at hl 2 rfl) ?_
          refine lv_bipush (v := (nI 8)) hx hb d_Txt_append_46 (by decide) ?_
          refine lv_iload_n hx hb d_Txt_append_48 rfl (lv_at hl 3 rfl) ?_
          refine lv_iconst (v := (nI 1)) hx hb d_Txt_append_49 (by decide) ?_
          refine lv_isub hx hb d_Txt_append_50 ?_
          refine sd_topi (y := nI (k - 1)) (pk_sub (by omega)) ?_
          refine lv_iload hx hb d_Txt_append_51 (lv_at hl 0 rfl) ?_
          refine lv_isub hx hb d_Txt_append_53 ?_
          refine sd_topi (y := nI (k - 1 - j)) (pk_sub (by omega)) ?_
          refine lv_imul hx hb d_Txt_append_54 ?_
          refine sd_topi (y := nI (8 * (k - 1 - j))) (pk_mul _ _) ?_
          refine lv_lushr hx hb d_Txt_append_55 rfl ?_
          refine lv_l2i hx hb d_Txt_append_56 rfl ?_
          refine lv_i2b hx hb d_Txt_append_57 rfl ?_
          refine va_bast hx hb hK hP hD hS 1 0 rfl rfl (i := (nI (n + j))) (x := (((((((v).toUInt64 >>> (((nI (8 * (k - 1 - j)))).toInt64.toUInt64 &&& Int64.toUInt64 63)).toInt64)).toInt32)).toInt8.toInt32)) (vp_in_nI (by omega) (by omega)) d_Txt_append_58 (fun H locs hP hD hS => ?_)
          have hP : sdP g [(q1, .inr (6, [.ref q5, .int (nI n)])), (q5, .inl (gB g, 2000, .inl (upd f1 ((nI (n + j))).toNatClampNeg (vp_nar .byte (((((((v).toUInt64 >>> (((nI (8 * (k - 1 - j)))).toInt64.toUInt64 &&& Int64.toUInt64 63)).toInt64)).toInt32)).toInt8.toInt32)))))] H := hP
          have hD : va_D A [(q1, .inr (6, [.ref q5, .int (nI n)])), (q5, .inl (gB g, 2000, .inl (upd f1 ((nI (n + j))).toNatClampNeg (vp_nar .byte (((((((v).toUInt64 >>> (((nI (8 * (k - 1 - j)))).toInt64.toUInt64 &&& Int64.toUInt64 63)).toInt64)).toInt32)).toInt8.toInt32)))))] := hD
          have eF : (upd f1 ((nI (n + j))).toNatClampNeg (vp_nar .byte (((((((v).toUInt64 >>> (((nI (8 * (k - 1 - j)))).toInt64.toUInt64 &&& Int64.toUInt64 63)).toInt64)).toInt32)).toInt8.toInt32))) = (upd f1 (n + j) ((v.toUInt64 >>> ((nI (8 * (k - 1 - j))).toInt64.toUInt64 &&& Int64.toUInt64 63)).toInt64.toInt32).toInt8.toInt32) := by rw [nI_clamp (by omega), pk_vb]
          rw [eF] at hP hD
          refine lv_iinc (v := (nI (j + 1))) (lv' := [(4, .int (nI (j + 1))), (0, .ref q1), (1, .long v), (3, .int (nI k))]) hx hb d_Txt_append_59 hl (k := 0) rfl (nI_1 _) (by decide) rfl (fun ls hl => ?_)
          refine lv_goto (tgt := 28) hx hb d_Txt_append_62 (by decide) ?_
          exact ih (H, locs, ls, j + 1, upd f1 (n + j) ((v.toUInt64 >>> ((nI (8 * (k - 1 - j))).toInt64.toUInt64 &&& Int64.toUInt64 63)).toInt64.toInt32).toInt8.toInt32) ⟨lv_sub hl [0, 1, 2, 3] rfl, hP.sub [0, 1] rfl, hD.sub [0, 1] (by decide) rfl, hS, by omega, fun i hi => by rw [pk_un (by omega)]; exact h2 i hi, fun i hi => by
              by_cases q : i = j
              · subst q; rw [pk_us]; exact tb_L v (by omega)
              · rw [pk_un (by omega)]; exact h3 i (by omega)⟩ (show k - (j + 1) < k - j by omega)
      · refine lv_iconst (v := (nI 0)) hx hb d_Txt_append_23 (by decide) ?_
        have hP9 := hP.sub (ws' := [(q1, .inr (6, [.ref q5, .int (nI n)])), (q5, .inl (gB g, 2000, .inl f))]) [0, 1] rfl
        have hD9 := hD.sub (ws' := [(q1, .inr (6, [.ref q5, .int (nI n)])), (q5, .inl (gB g, 2000, .inl f))]) [0, 1] (by decide) rfl
        exact W.zret (v := (nI 0)) hx hb hr (by first | rfl | decide | exact sb_nar) (fun t ht hW => ⟨⟨_, (n, f), rfl, Or.inr ⟨fun ⟨k, h1, h2, h3, h4⟩ => by
            subst h1; exact c3 (nI_le (by omega) (by omega)), rfl, rfl, rfl⟩, by rw [ht]; exact hP9, by rw [hAe]; exact hD9⟩, hS.F ht⟩) hS.2.2 d_Txt_append_24
