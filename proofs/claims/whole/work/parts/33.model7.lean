/-- the model's words hold the state -/
def MPR (st : AS) (cdf csf : Nat → Int32) : Prop := wn st ≤ 600 ∧ ∀ i, i < wn st → cdf i = nI (wc st i) ∧ csf i = nI (wy st i) - 1
/-- the symbols lie in the text -/
def SB (n : Nat) (st : AS) : Prop := ∀ i, i < sn st → sa st i + sl st i ≤ n
theorem MPR_push {st : AS} {cdf csf : Nat → Int32} {c y : Nat} (h : MPR st cdf csf) (hlt : wn st < 600) : MPR (pushW st c y) (upd cdf (wn st) (nI c)) (upd csf (wn st) (nI y - 1)) := by
  refine ⟨(by show wn st + 1 ≤ 600; omega), fun i hi => ?_⟩
  have hi : i < wn st + 1 := hi
  show upd cdf (wn st) (nI c) i = nI (va_up (wc st) (wn st) c i) ∧ upd csf (wn st) (nI y - 1) i = nI (va_up (wy st) (wn st) y i) - 1
  by_cases e : i = wn st
  · subst e; rw [pk_us, pk_us, va_up_self, va_up_self]; exact ⟨rfl, rfl⟩
  · rw [pk_un e, pk_un e, va_up_ne _ _ e, va_up_ne _ _ e]; exact h.2 i (by omega)
theorem MPR_of {st st' : AS} {cdf csf : Nat → Int32} (h : MPR st cdf csf) (e : st'.1 = st.1) : MPR st' cdf csf := by
  obtain ⟨a, b⟩ := st'
  have e : a = st.1 := e
  subst e
  exact h
theorem MPR_cs {st : AS} {cdf csf : Nat → Int32} {x : Int32} (h : MPR st cdf csf) : MPR st cdf (upd csf (wn st) x) := ⟨h.1, fun i hi => by rw [pk_un (by omega)]; exact h.2 i hi⟩
theorem SB_O {n : Nat} {tx : Nat → Nat} {st : AS} {a c : Nat} (h : SB n st) (hac : a + c ≤ n) : SB n (syO tx st a c).2 := by
  rcases syO_cases (tx := tx) (st := st) (a := a) (n := c) with ⟨k, hk, e1⟩ | e1 | ⟨hk, e1⟩
  · rw [e1]; exact h
  · rw [e1]; exact h
  · rw [e1]
    intro i hi
    have hi : i < sn st + 1 := hi
    show va_up (sa st) (sn st) a i + va_up (sl st) (sn st) c i ≤ n
    by_cases e : i = sn st
    · subst e; rw [va_up_self, va_up_self]; exact hac
    · rw [va_up_ne _ _ e, va_up_ne _ _ e]; exact h i (by omega)
theorem nI_m1 {k : Nat} (h : k < 2 ^ 30) : ¬ nI k = -1 := fun q => by
  have := congrArg Int32.toInt q
  rw [nI_toInt (by omega)] at this
  have h2 : (-1 : Int32).toInt = -1 := by decide
  rw [h2] at this
  omega
set_option maxHeartbeats 4000000 in
set_option maxRecDepth 100000 in
/-- address(a, c) -/
theorem c_Mod_address (l : Launch) (g : sdG) (m0 mtt mcd mat msz mvl mcs mmm mkn mjp mds : Nat) (tk9 sz9 pl9 ra rd nx9 dn : Int32) (kf : Nat → Int32) (hRk : rowOK 32 kf (sd_k7.map Prod.fst)) (n : Nat) (tf : Nat → Int32) (tx : Nat → Nat) (hT : MTok n tf tx) (st : AS) (cdf csf s1 s2 s3 : Nat → Int32) (hMP : MPR st cdf csf) (hSR : SR st s1 s2 s3) (hSB : SB n st) (a cn : Nat) (hac : a + cn ≤ n) (htk : ∀ j, a ≤ j → j < a + cn → ¬ tx j = 32) (sz : Nat) : Met l y_Mod_address (.code y_Mod_address b_Mod_address 6 (some .int) :: sdT) ({ frames := 4, cells := 0, slots := 0, locals := 84 }) (va_Pc [.ref m0, .int (nI a), .int (nI cn)] (sdU g [(m0, .inr (8, [.ref mtt, .int tk9, .int sz9, .int pl9, .int (nI (wn st)), .ref mcd, .int (nI (sn st)), .ref mat, .ref msz, .ref mvl, .ref mcs, .ref mmm, .int ra, .int rd, .int nx9, .int dn, .ref mkn, .ref mjp, .ref mds])), (mtt, .inl (gI g, 2000, .inl tf)), (mcd, .inl (gI g, 600, .inl cdf)), (mat, .inl (gI g, 40, .inl s1)), (msz, .inl (gI g, 40, .inl s2)), (mvl, .inl (gI g, 40, .inl s3)), (mcs, .inl (gI g, 600, .inl csf)), (mkn, .inl (gC g, 32, .inl kf))] sz)) (va_Qi (S := AS × (Nat → Int32) × (Nat → Int32) × (Nat → Int32) × (Nat → Int32) × (Nat → Int32)) (fun r u => (∃ c, spAddr tx a (a + cn) st = (c, u.1) ∧ r = nI c) ∧ MPR u.1 u.2.1 u.2.2.1 ∧ SR u.1 u.2.2.2.1 u.2.2.2.2.1 u.2.2.2.2.2 ∧ SB n u.1) (fun u t => sdB g [(m0, .inr (8, [.ref mtt, .int tk9, .int sz9, .int pl9, .int (nI (wn st)), .ref mcd, .int (nI (sn st)), .ref mat, .ref msz, .ref mvl, .ref mcs, .ref mmm, .int ra, .int rd, .int nx9, .int dn, .ref mkn, .ref mjp, .ref mds])), (mtt, .inl (gI g, 2000, .inl tf)), (mcd, .inl (gI g, 600, .inl cdf)), (mat, .inl (gI g, 40, .inl s1)), (msz, .inl (gI g, 40, .inl s2)), (mvl, .inl (gI g, 40, .inl s3)), (mcs, .inl (gI g, 600, .inl csf)), (mkn, .inl (gC g, 32, .inl kf))] sz ((fun u => [(m0, .inr (8, [.ref mtt, .int tk9, .int sz9, .int pl9, .int (nI (wn u.1)), .ref mcd, .int (nI (sn u.1)), .ref mat, .ref msz, .ref mvl, .ref mcs, .ref mmm, .int ra, .int rd, .int nx9, .int dn, .ref mkn, .ref mjp, .ref mds])), (mtt, .inl (gI g, 2000, .inl tf)), (mcd, .inl (gI g, 600, .inl u.2.1)), (mat, .inl (gI g, 40, .inl u.2.2.2.1)), (msz, .inl (gI g, 40, .inl u.2.2.2.2.1)), (mvl, .inl (gI g, 40, .inl u.2.2.2.2.2)), (mcs, .inl (gI g, 600, .inl u.2.2.1)), (mkn, .inl (gC g, 32, .inl kf))] : AS × (Nat → Int32) × (Nat → Int32) × (Nat → Int32) × (Nat → Int32) × (Nat → Int32) → va_W) u) t) (va_A [(m0, .inr (8, [.ref mtt, .int tk9, .int sz9, .int pl9, .int (nI (wn st)), .ref mcd, .int (nI (sn st)), .ref mat, .ref msz, .ref mvl, .ref mcs, .ref mmm, .int ra, .int rd, .int nx9, .int dn, .ref mkn, .ref mjp, .ref mds])), (mtt, .inl (gI g, 2000, .inl tf)), (mcd, .inl (gI g, 600, .inl cdf)), (mat, .inl (gI g, 40, .inl s1)), (msz, .inl (gI g, 40, .inl s2)), (mvl, .inl (gI g, 40, .inl s3)), (mcs, .inl (gI g, 600, .inl csf)), (mkn, .inl (gC g, 32, .inl kf))] sz)) 0 0 (va_A [(m0, .inr (8, [.ref mtt, .int tk9, .int sz9, .int pl9, .int (nI (wn st)), .ref mcd, .int (nI (sn st)), .ref mat, .ref msz, .ref mvl, .ref mcs, .ref mmm, .int ra, .int rd, .int nx9, .int dn, .ref mkn, .ref mjp, .ref mds])), (mtt, .inl (gI g, 2000, .inl tf)), (mcd, .inl (gI g, 600, .inl cdf)), (mat, .inl (gI g, 40, .inl s1)), (msz, .inl (gI g, 40, .inl s2)), (mvl, .inl (gI g, 40, .inl s3)), (mcs, .inl (gI g, 600, .inl csf)), (mkn, .inl (gC g, 32, .inl kf))] sz) := by
  refine Met.ofW (cc := b_Mod_address) (maxL := 6) (ret := (some .int)) (by decide) rfl ?_
  intro p ev s m args below meth c s₁ B hml hv
  obtain ⟨rfl, hsz, hP, hK, hE, hD0, hs0⟩ := hv
  have hx := B.exec
  have hb := B.bytes
  have hr := B.returns
  have hts := fun (w : Cond) (h : w ∈ sdT) => atoms_spec (ws := (.code y_Mod_address b_Mod_address 6 (some .int) :: sdT)) B.pre w (List.mem_cons_of_mem _ h)
  have hown : s.vm.findClass "SignDeskModel" = some m.cls := findClass_of_methodNamed B.named
  have hlocks := B.notSynchronized
  subst hsz
  have hD := hD0.self (sz := s.heap.size)
  have hA0 : ∀ q : Nat, va_A [(m0, .inr (8, [.ref mtt, .int tk9, .int sz9, .int pl9, .int (nI (wn st)), .ref mcd, .int (nI (sn st)), .ref mat, .ref msz, .ref mvl, .ref mcs, .ref mmm, .int ra, .int rd, .int nx9, .int dn, .ref mkn, .ref mjp, .ref mds])), (mtt, .inl (gI g, 2000, .inl tf)), (mcd, .inl (gI g, 600, .inl cdf)), (mat, .inl (gI g, 40, .inl s1)), (msz, .inl (gI g, 40, .inl s2)), (mvl, .inl (gI g, 40, .inl s3)), (mcs, .inl (gI g, 600, .inl csf)), (mkn, .inl (gC g, 32, .inl kf))] s.heap.size q → gS g ≤ q := fun q h => h.elim (fun ⟨k, e, hk⟩ => hD0.2 k _ hk) (fun h => Nat.le_trans hs0 h)
  have hA : ∀ q : Nat, s.heap.size ≤ q → va_A [(m0, .inr (8, [.ref mtt, .int tk9, .int sz9, .int pl9, .int (nI (wn st)), .ref mcd, .int (nI (sn st)), .ref mat, .ref msz, .ref mvl, .ref mcs, .ref mmm, .int ra, .int rd, .int nx9, .int dn, .ref mkn, .ref mjp, .ref mds])), (mtt, .inl (gI g, 2000, .inl tf)), (mcd, .inl (gI g, 600, .inl cdf)), (mat, .inl (gI g, 40, .inl s1)), (msz, .inl (gI g, 40, .inl s2)), (mvl, .inl (gI g, 40, .inl s3)), (mcs, .inl (gI g, 600, .inl csf)), (mkn, .inl (gC g, 32, .inl kf))] s.heap.size q := fun q h => Or.inr h
  generalize hAe : va_A [(m0, .inr (8, [.ref mtt, .int tk9, .int sz9, .int pl9, .int (nI (wn st)), .ref mcd, .int (nI (sn st)), .ref mat, .ref msz, .ref mvl, .ref mcs, .ref mmm, .int ra, .int rd, .int nx9, .int dn, .ref mkn, .ref mjp, .ref mds])), (mtt, .inl (gI g, 2000, .inl tf)), (mcd, .inl (gI g, 600, .inl cdf)), (mat, .inl (gI g, 40, .inl s1)), (msz, .inl (gI g, 40, .inl s2)), (mvl, .inl (gI g, 40, .inl s3)), (mcs, .inl (gI g, 600, .inl csf)), (mkn, .inl (gC g, 32, .inl kf))] s.heap.size = A at hD hA0 hA ⊢
  have hS : va_S A s.heap s.heap [] := va_S.rf
  have hP : sdP g [(m0, .inr (8, [.ref mtt, .int tk9, .int sz9, .int pl9, .int (nI (wn st)), .ref mcd, .int (nI (sn st)), .ref mat, .ref msz, .ref mvl, .ref mcs, .ref mmm, .int ra, .int rd, .int nx9, .int dn, .ref mkn, .ref mjp, .ref mds])), (mtt, .inl (gI g, 2000, .inl tf)), (mcd, .inl (gI g, 600, .inl cdf)), (mat, .inl (gI g, 40, .inl s1)), (msz, .inl (gI g, 40, .inl s2)), (mvl, .inl (gI g, 40, .inl s3)), (mcs, .inl (gI g, 600, .inl csf)), (mkn, .inl (gC g, 32, .inl kf))] s.heap := hP
  have hl := lv_entry ([.ref m0, .int (nI a), .int (nI cn)]) (n := 6) (Nat.le_of_ble_eq_true rfl)
  rw [lg_entry_eq]
  generalize (lg_sl ([.ref m0, .int (nI a), .int (nI cn)]) ++ List.replicate (6 - (lg_sl ([.ref m0, .int (nI a), .int (nI cn)])).length) Slot.unset).toArray = ls at hl ⊢
  have hl : lv_has ls 6 [(0, .ref m0), (1, .int (nI a)), (2, .int (nI cn))] := hl
  have hn := hT.1
  have hb8 := hT.2.1
  have h40 := hSR.1
  have h600 := hMP.1
  refine lv_iload_n hx hb d_Mod_address_0 rfl (lv_at hl 2 rfl) ?_
  refine lv_if_le (tgt := 13) hx hb d_Mod_address_1 (by decide) (fun c1 => ?_) (fun c1 => ?_)
  · have h0 : cn = 0 := by have := (nI_leI (b := 0) (by omega) (by omega)).mp c1; omega
    refine lv_iconst (v := (nI 0)) hx hb d_Mod_address_13 (by decide) ?_
    refine lv_istore_n (lv' := [(3, .int (nI 0)), (0, .ref m0), (1, .int (nI a)), (2, .int (nI cn))]) hx hb d_Mod_address_14 rfl hl (by decide) rfl (fun ls hl => ?_)
    refine lv_iconst (v := (nI 0)) hx hb d_Mod_address_15 (by decide) ?_
    refine lv_istore (lv' := [(4, .int (nI 0)), (3, .int (nI 0)), (0, .ref m0), (1, .int (nI a)), (2, .int (nI cn))]) hx hb d_Mod_address_16 hl (by decide) rfl (fun ls hl => ?_)
    refine lv_iconst (v := (nI 0)) hx hb d_Mod_address_18 (by decide) ?_
    refine lv_istore (lv' := [(5, .int (nI 0)), (4, .int (nI 0)), (3, .int (nI 0)), (0, .ref m0), (1, .int (nI a)), (2, .int (nI cn))]) hx hb d_Mod_address_19 hl (by decide) rfl (fun ls hl => ?_)
    refine sd_loopr (fun (x : Nat × Int32 × Int32) ls => match x with | (k, d3, v9) => lv_has ls 6 [(5, .int (nI k)), (3, .int d3), (4, .int v9), (0, .ref m0), (1, .int (nI a)), (2, .int (nI cn))] ∧ (k ≤ cn) ∧ ((d3 = nI 1 ∧ 0 < cn ∧ cn ≤ 5 ∧ (∀ j, j < k → isDg (tx (a + j))) ∧ v9 = nI (nV tx a k)) ∨ (d3 = nI 0 ∧ ¬ (0 < cn ∧ cn ≤ 5 ∧ ∀ j, j < cn → isDg (tx (a + j)))))) (fun (x : Nat × Int32 × Int32) => match x with | (k, d3, v9) => cn - k) 21 [] (fun x ls hI ih => ?_) (0, nI 0, nI 0) ⟨lv_sub hl [0, 2, 1, 3, 4, 5] rfl, Nat.zero_le _, Or.inr ⟨rfl, fun q => absurd q.1 (by omega)⟩⟩
    obtain ⟨k, d3, v9⟩ := x
    obtain ⟨hl, h1, h2⟩ := hI
    refine lv_iload hx hb d_Mod_address_21 (lv_at hl 0 rfl) ?_
    refine lv_iload_n hx hb d_Mod_address_23 rfl (lv_at hl 5 rfl) ?_
    refine lv_icmp_ge (tgt := 70) hx hb d_Mod_address_24 (by decide) (fun c2 => ?_) (fun c2 => ?_)
    · have c2 := (nI_leI (by omega) (by omega)).mp c2
      rcases h2 with h2 | h2
      · have ek : k = cn := by omega
        subst ek
        obtain ⟨rfl, g1, g2, g3, rfl⟩ := h2
        refine lv_iload_n hx hb d_Mod_address_70 rfl (lv_at hl 1 rfl) ?_
        have g4 : nV tx a k < 10 ^ k := nV_lt (fun j h5 h6 => by have := g3 (j - a) (by omega); rw [show a + (j - a) = j by omega] at this; exact this)
        have g5 : (10 : Nat) ^ k ≤ 10 ^ 5 := Nat.pow_le_pow_right (by decide) (by omega)
        have hns : ¬ syP tx a (a + k) := fun q => q.2.2.1 (g3 0 (by omega))
        have hzz : a + k - a = k := by omega
        refine lv_if_eq (tgt := 82) hx hb d_Mod_address_71 (by decide) (fun c3 => ?_) (fun c3 => ?_)
        · exact absurd c3 (by decide)
        · refine lv_iload hx hb d_Mod_address_74 (lv_at hl 2 rfl) ?_
          refine lv_sipush (v := (nI 32767)) hx hb d_Mod_address_76 (by decide) ?_
          refine lv_icmp_gt (tgt := 95) hx hb d_Mod_address_79 (by decide) (fun c4 => ?_) (fun c4 => ?_)
          · have c4 := (nI_ltI (by omega) (by omega)).mp c4
            refine lv_iconst (v := (nI 1)) hx hb d_Mod_address_95 (by decide) ?_
            have hP9 := hP.sub (ws' := [(m0, .inr (8, [.ref mtt, .int tk9, .int sz9, .int pl9, .int (nI (wn st)), .ref mcd, .int (nI (sn st)), .ref mat, .ref msz, .ref mvl, .ref mcs, .ref mmm, .int ra, .int rd, .int nx9, .int dn, .ref mkn, .ref mjp, .ref mds])), (mtt, .inl (gI g, 2000, .inl tf)), (mcd, .inl (gI g, 600, .inl cdf)), (mat, .inl (gI g, 40, .inl s1)), (msz, .inl (gI g, 40, .inl s2)), (mvl, .inl (gI g, 40, .inl s3)), (mcs, .inl (gI g, 600, .inl csf)), (mkn, .inl (gC g, 32, .inl kf))]) [0, 1, 2, 3, 4, 5, 6, 7] rfl
            have hD9 := hD.sub (ws' := [(m0, .inr (8, [.ref mtt, .int tk9, .int sz9, .int pl9, .int (nI (wn st)), .ref mcd, .int (nI (sn st)), .ref mat, .ref msz, .ref mvl, .ref mcs, .ref mmm, .int ra, .int rd, .int nx9, .int dn, .ref mkn, .ref mjp, .ref mds])), (mtt, .inl (gI g, 2000, .inl tf)), (mcd, .inl (gI g, 600, .inl cdf)), (mat, .inl (gI g, 40, .inl s1)), (msz, .inl (gI g, 40, .inl s2)), (mvl, .inl (gI g, 40, .inl s3)), (mcs, .inl (gI g, 600, .inl csf)), (mkn, .inl (gC g, 32, .inl kf))]) [0, 1, 2, 3, 4, 5, 6, 7] (by decide) rfl
            exact W.iret (v := (nI 1)) hx hb hr (fun t ht hW => ⟨⟨_, (st, cdf, csf, s1, s2, s3), rfl, ⟨⟨1, by rw [spAddr, cl_f hns, cl_f (fun q => absurd q.2.2.2 (by rw [hzz]; omega))], rfl⟩, hMP, hSR, hSB⟩, by rw [ht]; exact hP9, by rw [hAe]; exact hD9⟩, hS.F ht⟩) hS.2.2 d_Mod_address_96
          · have c4 := mt (nI_ltI (by omega) (by omega)).mpr c4
            have hnu : nuP tx a (a + k) := ⟨by omega, by omega, fun j h5 h6 => by have := g3 (j - a) (by omega); rw [show a + (j - a) = j by omega] at this; exact this, by rw [hzz]; omega⟩
            refine lv_iload_n hx hb d_Mod_address_82 rfl (lv_at hl 1 rfl) ?_
            refine lv_if_ne (tgt := 97) hx hb d_Mod_address_83 (by decide) (fun c5 => ?_) (fun c5 => ?_)
            · refine lv_aload_n hx hb d_Mod_address_97 rfl (lv_at hl 3 rfl) ?_
              refine va_get (D := g.1) (ci := 8) (v := .int (nI (wn st))) (C := "SignDeskModel") (T := F_Mod) (N := 19) hx hb hts in_Mod hown hK hP 0 rfl rfl 4 (by decide) (hts _ k_498) (fun _ h9 => h9) rfl d_Mod_address_98 ?_
              refine lv_sipush (v := (nI 600)) hx hb d_Mod_address_101 (by decide) ?_
              refine lv_icmp_ne (tgt := 109) hx hb d_Mod_address_104 (by decide) (fun c6 => ?_) (fun c6 => ?_)
              · have c6 := mt (nI_eq (by omega) (by omega)).mpr c6
                refine lv_aload_n hx hb d_Mod_address_109 rfl (lv_at hl 3 rfl) ?_
                refine va_get (D := g.1) (ci := 8) (v := .ref mcs) (C := "SignDeskModel") (T := F_Mod) (N := 19) hx hb hts in_Mod hown hK hP 0 rfl rfl 10 (by decide) (hts _ k_504) (fun _ h9 => h9) rfl d_Mod_address_110 ?_
                refine lv_aload_n hx hb d_Mod_address_113 rfl (lv_at hl 3 rfl) ?_
                refine va_get (D := g.1) (ci := 8) (v := .int (nI (wn st))) (C := "SignDeskModel") (T := F_Mod) (N := 19) hx hb hts in_Mod hown hK hP 0 rfl rfl 4 (by decide) (hts _ k_498) (fun _ h9 => h9) rfl d_Mod_address_114 ?_
                refine lv_iconst (v := (-1)) hx hb d_Mod_address_117 (by decide) ?_
                refine va_iast hx hb hK hP hD hS 6 1 rfl rfl (i := (nI (wn st))) (x := (-1)) (vp_in_nI (by omega) (by omega)) d_Mod_address_118 (fun H locs hP hD hS => ?_)
                have hP : sdP g [(m0, .inr (8, [.ref mtt, .int tk9, .int sz9, .int pl9, .int (nI (wn st)), .ref mcd, .int (nI (sn st)), .ref mat, .ref msz, .ref mvl, .ref mcs, .ref mmm, .int ra, .int rd, .int nx9, .int dn, .ref mkn, .ref mjp, .ref mds])), (mtt, .inl (gI g, 2000, .inl tf)), (mcd, .inl (gI g, 600, .inl cdf)), (mat, .inl (gI g, 40, .inl s1)), (msz, .inl (gI g, 40, .inl s2)), (mvl, .inl (gI g, 40, .inl s3)), (mcs, .inl (gI g, 600, .inl (upd csf ((nI (wn st))).toNatClampNeg (-1)))), (mkn, .inl (gC g, 32, .inl kf))] H := hP
                have hD : va_D A [(m0, .inr (8, [.ref mtt, .int tk9, .int sz9, .int pl9, .int (nI (wn st)), .ref mcd, .int (nI (sn st)), .ref mat, .ref msz, .ref mvl, .ref mcs, .ref mmm, .int ra, .int rd, .int nx9, .int dn, .ref mkn, .ref mjp, .ref mds])), (mtt, .inl (gI g, 2000, .inl tf)), (mcd, .inl (gI g, 600, .inl cdf)), (mat, .inl (gI g, 40, .inl s1)), (msz, .inl (gI g, 40, .inl s2)), (mvl, .inl (gI g, 40, .inl s3)), (mcs, .inl (gI g, 600, .inl (upd csf ((nI (wn st))).toNatClampNeg (-1)))), (mkn, .inl (gC g, 32, .inl kf))] := hD
                have eF : (upd csf ((nI (wn st))).toNatClampNeg (-1)) = (upd csf (wn st) (-1)) := by rw [nI_clamp (by omega)]
                rw [eF] at hP hD
                refine lv_iload_n hx hb d_Mod_address_119 rfl (lv_at hl 1 rfl) ?_
                refine lv_if_eq (tgt := 128) hx hb d_Mod_address_120 (by decide) (fun c7 => ?_) (fun c7 => ?_)
                · exact absurd c7 (by decide)
                · refine lv_iload hx hb d_Mod_address_123 (lv_at hl 2 rfl) ?_
                  refine lv_goto (tgt := 134) hx hb d_Mod_address_125 (by decide) ?_
                  refine lv_istore (lv' := [(5, .int (nI (nV tx a k))), (3, .int (nI 1)), (4, .int (nI (nV tx a k))), (0, .ref m0), (1, .int (nI a)), (2, .int (nI k))]) hx hb d_Mod_address_134 hl (by decide) rfl (fun ls hl => ?_)
                  refine lv_iload hx hb d_Mod_address_136 (lv_at hl 0 rfl) ?_
                  refine lv_iconst (v := (-1)) hx hb d_Mod_address_138 (by decide) ?_
                  refine lv_icmp_ne (tgt := 172) hx hb d_Mod_address_139 (by decide) (fun c8 => ?_) (fun c8 => ?_)
                  · refine lv_aload_n hx hb d_Mod_address_172 rfl (lv_at hl 3 rfl) ?_
                    refine va_get (D := g.1) (ci := 8) (v := .ref mcd) (C := "SignDeskModel") (T := F_Mod) (N := 19) hx hb hts in_Mod hown hK hP 0 rfl rfl 5 (by decide) (hts _ k_499) (fun _ h9 => h9) rfl d_Mod_address_173 ?_
                    refine lv_aload_n hx hb d_Mod_address_176 rfl (lv_at hl 3 rfl) ?_
                    refine va_get (D := g.1) (ci := 8) (v := .int (nI (wn st))) (C := "SignDeskModel") (T := F_Mod) (N := 19) hx hb hts in_Mod hown hK hP 0 rfl rfl 4 (by decide) (hts _ k_498) (fun _ h9 => h9) rfl d_Mod_address_177 ?_
                    refine lv_iload hx hb d_Mod_address_180 (lv_at hl 0 rfl) ?_
                    refine lv_iconst (v := (-1)) hx hb d_Mod_address_182 (by decide) ?_
                    refine lv_icmp_ne (tgt := 190) hx hb d_Mod_address_183 (by decide) (fun c9 => ?_) (fun c9 => ?_)
                    · refine lv_iload hx hb d_Mod_address_190 (lv_at hl 0 rfl) ?_
                      refine va_iast hx hb hK hP hD hS 2 1 rfl rfl (i := (nI (wn st))) (x := (nI (nV tx a k))) (vp_in_nI (by omega) (by omega)) d_Mod_address_192 (fun H locs hP hD hS => ?_)
                      have hP : sdP g [(m0, .inr (8, [.ref mtt, .int tk9, .int sz9, .int pl9, .int (nI (wn st)), .ref mcd, .int (nI (sn st)), .ref mat, .ref msz, .ref mvl, .ref mcs, .ref mmm, .int ra, .int rd, .int nx9, .int dn, .ref mkn, .ref mjp, .ref mds])), (mtt, .inl (gI g, 2000, .inl tf)), (mcd, .inl (gI g, 600, .inl (upd cdf ((nI (wn st))).toNatClampNeg (nI (nV tx a k))))), (mat, .inl (gI g, 40, .inl s1)), (msz, .inl (gI g, 40, .inl s2)), (mvl, .inl (gI g, 40, .inl s3)), (mcs, .inl (gI g, 600, .inl (upd csf (wn st) (-1)))), (mkn, .inl (gC g, 32, .inl kf))] H := hP
                      have hD : va_D A [(m0, .inr (8, [.ref mtt, .int tk9, .int sz9, .int pl9, .int (nI (wn st)), .ref mcd, .int (nI (sn st)), .ref mat, .ref msz, .ref mvl, .ref mcs, .ref mmm, .int ra, .int rd, .int nx9, .int dn, .ref mkn, .ref mjp, .ref mds])), (mtt, .inl (gI g, 2000, .inl tf)), (mcd, .inl (gI g, 600, .inl (upd cdf ((nI (wn st))).toNatClampNeg (nI (nV tx a k))))), (mat, .inl (gI g, 40, .inl s1)), (msz, .inl (gI g, 40, .inl s2)), (mvl, .inl (gI g, 40, .inl s3)), (mcs, .inl (gI g, 600, .inl (upd csf (wn st) (-1)))), (mkn, .inl (gC g, 32, .inl kf))] := hD
                      have eF : (upd cdf ((nI (wn st))).toNatClampNeg (nI (nV tx a k))) = (upd cdf (wn st) (nI (nV tx a k))) := by rw [nI_clamp (by omega)]
                      rw [eF] at hP hD
                      refine lv_aload_n hx hb d_Mod_address_193 rfl (lv_at hl 3 rfl) ?_
                      refine lv_aload_n hx hb d_Mod_address_194 rfl (lv_at hl 3 rfl) ?_
                      refine va_get (D := g.1) (ci := 8) (v := .int (nI (wn st))) (C := "SignDeskModel") (T := F_Mod) (N := 19) hx hb hts in_Mod hown hK hP 0 rfl rfl 4 (by decide) (hts _ k_498) (fun _ h9 => h9) rfl d_Mod_address_195 ?_
                      refine lv_iconst (v := (nI 1)) hx hb d_Mod_address_198 (by decide) ?_
                      refine lv_iadd hx hb d_Mod_address_199 ?_
                      refine sd_topi (y := nI ((wn st) + 1)) (nI_add _ _) ?_
                      refine va_put (D := g.1) (ci := 8) (v := .int (nI ((wn st) + 1))) (ty := .int) (C := "SignDeskModel") (T := F_Mod) (N := 19) hx hb hts in_Mod t_Mod t_Mod_ok n_Mod hown hK hP hD hS 0 rfl rfl 4 (by decide) (hts _ k_498) (fun _ h9 => h9) rfl (by decide +kernel) rfl rfl (Nat.le_of_ble_eq_true rfl) d_Mod_address_200 (fun H locs hP hD hS => ?_)
                      have hP : sdP g [(m0, .inr (8, [.ref mtt, .int tk9, .int sz9, .int pl9, .int (nI ((wn st) + 1)), .ref mcd, .int (nI (sn st)), .ref mat, .ref msz, .ref mvl, .ref mcs, .ref mmm, .int ra, .int rd, .int nx9, .int dn, .ref mkn, .ref mjp, .ref mds])), (mtt, .inl (gI g, 2000, .inl tf)), (mcd, .inl (gI g, 600, .inl (upd cdf (wn st) (nI (nV tx a k))))), (mat, .inl (gI g, 40, .inl s1)), (msz, .inl (gI g, 40, .inl s2)), (mvl, .inl (gI g, 40, .inl s3)), (mcs, .inl (gI g, 600, .inl (upd csf (wn st) (-1)))), (mkn, .inl (gC g, 32, .inl kf))] H := hP
                      have hD : va_D A [(m0, .inr (8, [.ref mtt, .int tk9, .int sz9, .int pl9, .int (nI ((wn st) + 1)), .ref mcd, .int (nI (sn st)), .ref mat, .ref msz, .ref mvl, .ref mcs, .ref mmm, .int ra, .int rd, .int nx9, .int dn, .ref mkn, .ref mjp, .ref mds])), (mtt, .inl (gI g, 2000, .inl tf)), (mcd, .inl (gI g, 600, .inl (upd cdf (wn st) (nI (nV tx a k))))), (mat, .inl (gI g, 40, .inl s1)), (msz, .inl (gI g, 40, .inl s2)), (mvl, .inl (gI g, 40, .inl s3)), (mcs, .inl (gI g, 600, .inl (upd csf (wn st) (-1)))), (mkn, .inl (gC g, 32, .inl kf))] := hD
                      refine lv_iconst (v := (nI 0)) hx hb d_Mod_address_203 (by decide) ?_
                      have hP9 := hP.sub (ws' := [(m0, .inr (8, [.ref mtt, .int tk9, .int sz9, .int pl9, .int (nI ((wn st) + 1)), .ref mcd, .int (nI (sn st)), .ref mat, .ref msz, .ref mvl, .ref mcs, .ref mmm, .int ra, .int rd, .int nx9, .int dn, .ref mkn, .ref mjp, .ref mds])), (mtt, .inl (gI g, 2000, .inl tf)), (mcd, .inl (gI g, 600, .inl (upd cdf (wn st) (nI (nV tx a k))))), (mat, .inl (gI g, 40, .inl s1)), (msz, .inl (gI g, 40, .inl s2)), (mvl, .inl (gI g, 40, .inl s3)), (mcs, .inl (gI g, 600, .inl (upd csf (wn st) (-1)))), (mkn, .inl (gC g, 32, .inl kf))]) [0, 1, 2, 3, 4, 5, 6, 7] rfl
                      have hD9 := hD.sub (ws' := [(m0, .inr (8, [.ref mtt, .int tk9, .int sz9, .int pl9, .int (nI ((wn st) + 1)), .ref mcd, .int (nI (sn st)), .ref mat, .ref msz, .ref mvl, .ref mcs, .ref mmm, .int ra, .int rd, .int nx9, .int dn, .ref mkn, .ref mjp, .ref mds])), (mtt, .inl (gI g, 2000, .inl tf)), (mcd, .inl (gI g, 600, .inl (upd cdf (wn st) (nI (nV tx a k))))), (mat, .inl (gI g, 40, .inl s1)), (msz, .inl (gI g, 40, .inl s2)), (mvl, .inl (gI g, 40, .inl s3)), (mcs, .inl (gI g, 600, .inl (upd csf (wn st) (-1)))), (mkn, .inl (gC g, 32, .inl kf))]) [0, 1, 2, 3, 4, 5, 6, 7] (by decide) rfl
                      exact W.iret (v := (nI 0)) hx hb hr (fun t ht hW => ⟨⟨_, (pushW st (nV tx a k) 0, upd cdf (wn st) (nI (nV tx a k)), upd csf (wn st) (-1), s1, s2, s3), rfl, ⟨⟨0, by rw [spAddr, cl_f hns, cl_t hnu, if_neg (by omega), hzz], rfl⟩, MPR_push (y := 0) hMP (by omega), hSR, hSB⟩, by rw [ht]; exact hP9, by rw [hAe]; exact hD9⟩, hS.F ht⟩) hS.2.2 d_Mod_address_204
                    · exact absurd c9 (nI_m1 (by omega))
                  · exact absurd c8 (nI_m1 (by omega))
              · have c6 := (nI_eq (by omega) (by omega)).mp c6
                refine lv_iconst (v := (nI 2)) hx hb d_Mod_address_107 (by decide) ?_
                have hP9 := hP.sub (ws' := [(m0, .inr (8, [.ref mtt, .int tk9, .int sz9, .int pl9, .int (nI (wn st)), .ref mcd, .int (nI (sn st)), .ref mat, .ref msz, .ref mvl, .ref mcs, .ref mmm, .int ra, .int rd, .int nx9, .int dn, .ref mkn, .ref mjp, .ref mds])), (mtt, .inl (gI g, 2000, .inl tf)), (mcd, .inl (gI g, 600, .inl cdf)), (mat, .inl (gI g, 40, .inl s1)), (msz, .inl (gI g, 40, .inl s2)), (mvl, .inl (gI g, 40, .inl s3)), (mcs, .inl (gI g, 600, .inl csf)), (mkn, .inl (gC g, 32, .inl kf))]) [0, 1, 2, 3, 4, 5, 6, 7] rfl
                have hD9 := hD.sub (ws' := [(m0, .inr (8, [.ref mtt, .int tk9, .int sz9, .int pl9, .int (nI (wn st)), .ref mcd, .int (nI (sn st)), .ref mat, .ref msz, .ref mvl, .ref mcs, .ref mmm, .int ra, .int rd, .int nx9, .int dn, .ref mkn, .ref mjp, .ref mds])), (mtt, .inl (gI g, 2000, .inl tf)), (mcd, .inl (gI g, 600, .inl cdf)), (mat, .inl (gI g, 40, .inl s1)), (msz, .inl (gI g, 40, .inl s2)), (mvl, .inl (gI g, 40, .inl s3)), (mcs, .inl (gI g, 600, .inl csf)), (mkn, .inl (gC g, 32, .inl kf))]) [0, 1, 2, 3, 4, 5, 6, 7] (by decide) rfl
                exact W.iret (v := (nI 2)) hx hb hr (fun t ht hW => ⟨⟨_, (st, cdf, csf, s1, s2, s3), rfl, ⟨⟨2, by rw [spAddr, cl_f hns, cl_t hnu, if_pos (by omega)], rfl⟩, hMP, hSR, hSB⟩, by rw [ht]; exact hP9, by rw [hAe]; exact hD9⟩, hS.F ht⟩) hS.2.2 d_Mod_address_108
            · exact absurd c5 (by decide)
      · obtain ⟨rfl, g0⟩ := h2
        refine lv_iload_n hx hb d_Mod_address_70 rfl (lv_at hl 1 rfl) ?_
        have hnn : ¬ nuP tx a (a + cn) := fun q => g0 ⟨by have := q.1; omega, by have := q.2.1; omega, fun j hj => q.2.2.1 (a + j) (by omega) (by omega)⟩
        have hzz : a + cn - a = cn := by omega
        refine lv_if_eq (tgt := 82) hx hb d_Mod_address_71 (by decide) (fun c10 => ?_) (fun c10 => ?_)
        · refine lv_iload_n hx hb d_Mod_address_82 rfl (lv_at hl 1 rfl) ?_
          refine lv_if_ne (tgt := 97) hx hb d_Mod_address_83 (by decide) (fun c11 => ?_) (fun c11 => ?_)
          · exact absurd rfl c11
          · refine lv_aload_n hx hb d_Mod_address_86 rfl (lv_at hl 3 rfl) ?_
            refine lv_iload_n hx hb d_Mod_address_87 rfl (lv_at hl 4 rfl) ?_
            refine lv_iload_n hx hb d_Mod_address_88 rfl (lv_at hl 5 rfl) ?_
            refine sd_ri (va_runV (As := [.int (nI a), .int (nI cn)]) (rest := []) ⟨hx, hb, hml, hown, hts⟩ (c_Mod_isSymbol l g m0 mtt mcd mat msz mvl mcs mmm mkn mjp mds tk9 sz9 pl9 (nI (wn st)) (nI (sn st)) ra rd nx9 dn n tf tx hT a cn (by omega) (by omega) (fun _ => hac)) (cwV 2 hts (sd_gV k_584 k_586 k_13 k_30 k_587) rfl rfl rfl (by decide +kernel) ⟨Nat.le_of_ble_eq_true rfl, Nat.le_of_ble_eq_true rfl⟩) (sd_preV hK hE (sd_fr hS hA0) (hP.sub (ws' := [(m0, .inr (8, [.ref mtt, .int tk9, .int sz9, .int pl9, .int (nI (wn st)), .ref mcd, .int (nI (sn st)), .ref mat, .ref msz, .ref mvl, .ref mcs, .ref mmm, .int ra, .int rd, .int nx9, .int dn, .ref mkn, .ref mjp, .ref mds])), (mtt, .inl (gI g, 2000, .inl tf))]) [0, 1] rfl) rfl rfl) rfl rfl hl.1 rfl (lv_room (Nat.le_of_ble_eq_true rfl)) d_Mod_address_89 ⟨Nat.zero_le _, Nat.zero_le _⟩) (fun r12 er12 => ?_)
            subst er12
            refine lv_if_ne (tgt := 97) hx hb d_Mod_address_92 (by decide) (fun c13 => ?_) (fun c13 => ?_)
            · have c13 := sb_ne0.mp c13
              have hc1 : 1 ≤ cn := by have := c13.1; omega
              refine lv_aload_n hx hb d_Mod_address_97 rfl (lv_at hl 3 rfl) ?_
              refine va_get (D := g.1) (ci := 8) (v := .int (nI (wn st))) (C := "SignDeskModel") (T := F_Mod) (N := 19) hx hb hts in_Mod hown hK hP 0 rfl rfl 4 (by decide) (hts _ k_498) (fun _ h9 => h9) rfl d_Mod_address_98 ?_
              refine lv_sipush (v := (nI 600)) hx hb d_Mod_address_101 (by decide) ?_
              refine lv_icmp_ne (tgt := 109) hx hb d_Mod_address_104 (by decide) (fun c14 => ?_) (fun c14 => ?_)
              · have c14 := mt (nI_eq (by omega) (by omega)).mpr c14
                refine lv_aload_n hx hb d_Mod_address_109 rfl (lv_at hl 3 rfl) ?_
                refine va_get (D := g.1) (ci := 8) (v := .ref mcs) (C := "SignDeskModel") (T := F_Mod) (N := 19) hx hb hts in_Mod hown hK hP 0 rfl rfl 10 (by decide) (hts _ k_504) (fun _ h9 => h9) rfl d_Mod_address_110 ?_
                refine lv_aload_n hx hb d_Mod_address_113 rfl (lv_at hl 3 rfl) ?_
                refine va_get (D := g.1) (ci := 8) (v := .int (nI (wn st))) (C := "SignDeskModel") (T := F_Mod) (N := 19) hx hb hts in_Mod hown hK hP 0 rfl rfl 4 (by decide) (hts _ k_498) (fun _ h9 => h9) rfl d_Mod_address_114 ?_
                refine lv_iconst (v := (-1)) hx hb d_Mod_address_117 (by decide) ?_
                refine va_iast hx hb hK hP hD hS 6 1 rfl rfl (i := (nI (wn st))) (x := (-1)) (vp_in_nI (by omega) (by omega)) d_Mod_address_118 (fun H locs hP hD hS => ?_)
                have hP : sdP g [(m0, .inr (8, [.ref mtt, .int tk9, .int sz9, .int pl9, .int (nI (wn st)), .ref mcd, .int (nI (sn st)), .ref mat, .ref msz, .ref mvl, .ref mcs, .ref mmm, .int ra, .int rd, .int nx9, .int dn, .ref mkn, .ref mjp, .ref mds])), (mtt, .inl (gI g, 2000, .inl tf)), (mcd, .inl (gI g, 600, .inl cdf)), (mat, .inl (gI g, 40, .inl s1)), (msz, .inl (gI g, 40, .inl s2)), (mvl, .inl (gI g, 40, .inl s3)), (mcs, .inl (gI g, 600, .inl (upd csf ((nI (wn st))).toNatClampNeg (-1)))), (mkn, .inl (gC g, 32, .inl kf))] H := hP
                have hD : va_D A [(m0, .inr (8, [.ref mtt, .int tk9, .int sz9, .int pl9, .int (nI (wn st)), .ref mcd, .int (nI (sn st)), .ref mat, .ref msz, .ref mvl, .ref mcs, .ref mmm, .int ra, .int rd, .int nx9, .int dn, .ref mkn, .ref mjp, .ref mds])), (mtt, .inl (gI g, 2000, .inl tf)), (mcd, .inl (gI g, 600, .inl cdf)), (mat, .inl (gI g, 40, .inl s1)), (msz, .inl (gI g, 40, .inl s2)), (mvl, .inl (gI g, 40, .inl s3)), (mcs, .inl (gI g, 600, .inl (upd csf ((nI (wn st))).toNatClampNeg (-1)))), (mkn, .inl (gC g, 32, .inl kf))] := hD
                have eF : (upd csf ((nI (wn st))).toNatClampNeg (-1)) = (upd csf (wn st) (-1)) := by rw [nI_clamp (by omega)]
                rw [eF] at hP hD
                refine lv_iload_n hx hb d_Mod_address_119 rfl (lv_at hl 1 rfl) ?_
                refine lv_if_eq (tgt := 128) hx hb d_Mod_address_120 (by decide) (fun c15 => ?_) (fun c15 => ?_)
                · refine lv_aload_n hx hb d_Mod_address_128 rfl (lv_at hl 3 rfl) ?_
                  refine lv_iload_n hx hb d_Mod_address_129 rfl (lv_at hl 4 rfl) ?_
                  refine lv_iload_n hx hb d_Mod_address_130 rfl (lv_at hl 5 rfl) ?_
                  refine sd_ri (va_runV (As := [.int (nI a), .int (nI cn)]) (rest := []) ⟨hx, hb, hml, hown, hts⟩ (c_Mod_knownOf l g m0 mtt mcd mat msz mvl mcs mmm mkn mjp mds tk9 sz9 pl9 (nI (wn st)) (nI (sn st)) ra rd nx9 dn kf hRk n tf tx hT a cn hc1 hac htk) (cwV 2 hts (sd_gV k_600 k_602 k_14 k_30 k_603) rfl rfl rfl (by decide +kernel) ⟨Nat.le_of_ble_eq_true rfl, Nat.le_of_ble_eq_true rfl⟩) (sd_preV hK hE (sd_fr hS hA0) (hP.sub (ws' := [(m0, .inr (8, [.ref mtt, .int tk9, .int sz9, .int pl9, .int (nI (wn st)), .ref mcd, .int (nI (sn st)), .ref mat, .ref msz, .ref mvl, .ref mcs, .ref mmm, .int ra, .int rd, .int nx9, .int dn, .ref mkn, .ref mjp, .ref mds])), (mtt, .inl (gI g, 2000, .inl tf)), (mkn, .inl (gC g, 32, .inl kf))]) [0, 1, 7] rfl) rfl rfl) rfl rfl hl.1 rfl (lv_room (Nat.le_of_ble_eq_true rfl)) d_Mod_address_131 ⟨Nat.zero_le _, Nat.zero_le _⟩) (fun r16 er16 => ?_)
                  subst er16
                  have hkn := knK_le (tx := tx) (a := a) (z := a + cn)
                  refine lv_istore (lv' := [(5, .int (nI (knK tx a (a + cn)) - 1)), (3, .int (nI 0)), (4, .int v9), (0, .ref m0), (1, .int (nI a)), (2, .int (nI cn))]) hx hb d_Mod_address_134 hl (by decide) rfl (fun ls hl => ?_)
                  refine lv_iload hx hb d_Mod_address_136 (lv_at hl 0 rfl) ?_
                  refine lv_iconst (v := (-1)) hx hb d_Mod_address_138 (by decide) ?_
                  refine lv_icmp_ne (tgt := 172) hx hb d_Mod_address_139 (by decide) (fun c17 => ?_) (fun c17 => ?_)
                  · have hk0 : ¬ knK tx a (a + cn) = 0 := fun q => c17 (by rw [q]; decide)
                    refine lv_aload_n hx hb d_Mod_address_172 rfl (lv_at hl 3 rfl) ?_
                    refine va_get (D := g.1) (ci := 8) (v := .ref mcd) (C := "SignDeskModel") (T := F_Mod) (N := 19) hx hb hts in_Mod hown hK hP 0 rfl rfl 5 (by decide) (hts _ k_499) (fun _ h9 => h9) rfl d_Mod_address_173 ?_
                    refine lv_aload_n hx hb d_Mod_address_176 rfl (lv_at hl 3 rfl) ?_
                    refine va_get (D := g.1) (ci := 8) (v := .int (nI (wn st))) (C := "SignDeskModel") (T := F_Mod) (N := 19) hx hb hts in_Mod hown hK hP 0 rfl rfl 4 (by decide) (hts _ k_498) (fun _ h9 => h9) rfl d_Mod_address_177 ?_
                    refine lv_iload hx hb d_Mod_address_180 (lv_at hl 0 rfl) ?_
                    refine lv_iconst (v := (-1)) hx hb d_Mod_address_182 (by decide) ?_
                    refine lv_icmp_ne (tgt := 190) hx hb d_Mod_address_183 (by decide) (fun c18 => ?_) (fun c18 => ?_)
                    · refine lv_iload hx hb d_Mod_address_190 (lv_at hl 0 rfl) ?_
                      refine sd_topi (y := nI (knK tx a (a + cn) - 1)) (m1_up hk0) ?_
                      refine va_iast hx hb hK hP hD hS 2 1 rfl rfl (i := (nI (wn st))) (x := (nI (knK tx a (a + cn) - 1))) (vp_in_nI (by omega) (by omega)) d_Mod_address_192 (fun H locs hP hD hS => ?_)
                      have hP : sdP g [(m0, .inr (8, [.ref mtt, .int tk9, .int sz9, .int pl9, .int (nI (wn st)), .ref mcd, .int (nI (sn st)), .ref mat, .ref msz, .ref mvl, .ref mcs, .ref mmm, .int ra, .int rd, .int nx9, .int dn, .ref mkn, .ref mjp, .ref mds])), (mtt, .inl (gI g, 2000, .inl tf)), (mcd, .inl (gI g, 600, .inl (upd cdf ((nI (wn st))).toNatClampNeg (nI (knK tx a (a + cn) - 1))))), (mat, .inl (gI g, 40, .inl s1)), (msz, .inl (gI g, 40, .inl s2)), (mvl, .inl (gI g, 40, .inl s3)), (mcs, .inl (gI g, 600, .inl (upd csf (wn st) (-1)))), (mkn, .inl (gC g, 32, .inl kf))] H := hP
                      have hD : va_D A [(m0, .inr (8, [.ref mtt, .int tk9, .int sz9, .int pl9, .int (nI (wn st)), .ref mcd, .int (nI (sn st)), .ref mat, .ref msz, .ref mvl, .ref mcs, .ref mmm, .int ra, .int rd, .int nx9, .int dn, .ref mkn, .ref mjp, .ref mds])), (mtt, .inl (gI g, 2000, .inl tf)), (mcd, .inl (gI g, 600, .inl (upd cdf ((nI (wn st))).toNatClampNeg (nI (knK tx a (a + cn) - 1))))), (mat, .inl (gI g, 40, .inl s1)), (msz, .inl (gI g, 40, .inl s2)), (mvl, .inl (gI g, 40, .inl s3)), (mcs, .inl (gI g, 600, .inl (upd csf (wn st) (-1)))), (mkn, .inl (gC g, 32, .inl kf))] := hD
                      have eF : (upd cdf ((nI (wn st))).toNatClampNeg (nI (knK tx a (a + cn) - 1))) = (upd cdf (wn st) (nI (knK tx a (a + cn) - 1))) := by rw [nI_clamp (by omega)]
                      rw [eF] at hP hD
                      refine lv_aload_n hx hb d_Mod_address_193 rfl (lv_at hl 3 rfl) ?_
                      refine lv_aload_n hx hb d_Mod_address_194 rfl (lv_at hl 3 rfl) ?_
                      refine va_get (D := g.1) (ci := 8) (v := .int (nI (wn st))) (C := "SignDeskModel") (T := F_Mod) (N := 19) hx hb hts in_Mod hown hK hP 0 rfl rfl 4 (by decide) (hts _ k_498) (fun _ h9 => h9) rfl d_Mod_address_195 ?_
                      refine lv_iconst (v := (nI 1)) hx hb d_Mod_address_198 (by decide) ?_
                      refine lv_iadd hx hb d_Mod_address_199 ?_
                      refine sd_topi (y := nI ((wn st) + 1)) (nI_add _ _) ?_
                      refine va_put (D := g.1) (ci := 8) (v := .int (nI ((wn st) + 1))) (ty := .int) (C := "SignDeskModel") (T := F_Mod) (N := 19) hx hb hts in_Mod t_Mod t_Mod_ok n_Mod hown hK hP hD hS 0 rfl rfl 4 (by decide) (hts _ k_498) (fun _ h9 => h9) rfl (by decide +kernel) rfl rfl (Nat.le_of_ble_eq_true rfl) d_Mod_address_200 (fun H locs hP hD hS => ?_)
                      have hP : sdP g [(m0, .inr (8, [.ref mtt, .int tk9, .int sz9, .int pl9, .int (nI ((wn st) + 1)), .ref mcd, .int (nI (sn st)), .ref mat, .ref msz, .ref mvl, .ref mcs, .ref mmm, .int ra, .int rd, .int nx9, .int dn, .ref mkn, .ref mjp, .ref mds])), (mtt, .inl (gI g, 2000, .inl tf)), (mcd, .inl (gI g, 600, .inl (upd cdf (wn st) (nI (knK tx a (a + cn) - 1))))), (mat, .inl (gI g, 40, .inl s1)), (msz, .inl (gI g, 40, .inl s2)), (mvl, .inl (gI g, 40, .inl s3)), (mcs, .inl (gI g, 600, .inl (upd csf (wn st) (-1)))), (mkn, .inl (gC g, 32, .inl kf))] H := hP
                      have hD : va_D A [(m0, .inr (8, [.ref mtt, .int tk9, .int sz9, .int pl9, .int (nI ((wn st) + 1)), .ref mcd, .int (nI (sn st)), .ref mat, .ref msz, .ref mvl, .ref mcs, .ref mmm, .int ra, .int rd, .int nx9, .int dn, .ref mkn, .ref mjp, .ref mds])), (mtt, .inl (gI g, 2000, .inl tf)), (mcd, .inl (gI g, 600, .inl (upd cdf (wn st) (nI (knK tx a (a + cn) - 1))))), (mat, .inl (gI g, 40, .inl s1)), (msz, .inl (gI g, 40, .inl s2)), (mvl, .inl (gI g, 40, .inl s3)), (mcs, .inl (gI g, 600, .inl (upd csf (wn st) (-1)))), (mkn, .inl (gC g, 32, .inl kf))] := hD
                      refine lv_iconst (v := (nI 0)) hx hb d_Mod_address_203 (by decide) ?_
                      have hP9 := hP.sub (ws' := [(m0, .inr (8, [.ref mtt, .int tk9, .int sz9, .int pl9, .int (nI ((wn st) + 1)), .ref mcd, .int (nI (sn st)), .ref mat, .ref msz, .ref mvl, .ref mcs, .ref mmm, .int ra, .int rd, .int nx9, .int dn, .ref mkn, .ref mjp, .ref mds])), (mtt, .inl (gI g, 2000, .inl tf)), (mcd, .inl (gI g, 600, .inl (upd cdf (wn st) (nI (knK tx a (a + cn) - 1))))), (mat, .inl (gI g, 40, .inl s1)), (msz, .inl (gI g, 40, .inl s2)), (mvl, .inl (gI g, 40, .inl s3)), (mcs, .inl (gI g, 600, .inl (upd csf (wn st) (-1)))), (mkn, .inl (gC g, 32, .inl kf))]) [0, 1, 2, 3, 4, 5, 6, 7] rfl
                      have hD9 := hD.sub (ws' := [(m0, .inr (8, [.ref mtt, .int tk9, .int sz9, .int pl9, .int (nI ((wn st) + 1)), .ref mcd, .int (nI (sn st)), .ref mat, .ref msz, .ref mvl, .ref mcs, .ref mmm, .int ra, .int rd, .int nx9, .int dn, .ref mkn, .ref mjp, .ref mds])), (mtt, .inl (gI g, 2000, .inl tf)), (mcd, .inl (gI g, 600, .inl (upd cdf (wn st) (nI (knK tx a (a + cn) - 1))))), (mat, .inl (gI g, 40, .inl s1)), (msz, .inl (gI g, 40, .inl s2)), (mvl, .inl (gI g, 40, .inl s3)), (mcs, .inl (gI g, 600, .inl (upd csf (wn st) (-1)))), (mkn, .inl (gC g, 32, .inl kf))]) [0, 1, 2, 3, 4, 5, 6, 7] (by decide) rfl
                      exact W.iret (v := (nI 0)) hx hb hr (fun t ht hW => ⟨⟨_, (pushW st (knK tx a (a + cn) - 1) 0, upd cdf (wn st) (nI (knK tx a (a + cn) - 1)), upd csf (wn st) (-1), s1, s2, s3), rfl, ⟨⟨0, by rw [spAddr, cl_t c13, if_neg (by omega), if_neg hk0], rfl⟩, MPR_push (y := 0) hMP (by omega), hSR, hSB⟩, by rw [ht]; exact hP9, by rw [hAe]; exact hD9⟩, hS.F ht⟩) hS.2.2 d_Mod_address_204
                    · exact absurd c18 c17
                  · have hk0 : knK tx a (a + cn) = 0 := (m1_iff (by omega)).mp c17
                    refine lv_aload_n hx hb d_Mod_address_142 rfl (lv_at hl 3 rfl) ?_
                    refine va_get (D := g.1) (ci := 8) (v := .ref mcs) (C := "SignDeskModel") (T := F_Mod) (N := 19) hx hb hts in_Mod hown hK hP 0 rfl rfl 10 (by decide) (hts _ k_504) (fun _ h9 => h9) rfl d_Mod_address_143 ?_
                    refine lv_aload_n hx hb d_Mod_address_146 rfl (lv_at hl 3 rfl) ?_
                    refine va_get (D := g.1) (ci := 8) (v := .int (nI (wn st))) (C := "SignDeskModel") (T := F_Mod) (N := 19) hx hb hts in_Mod hown hK hP 0 rfl rfl 4 (by decide) (hts _ k_498) (fun _ h9 => h9) rfl d_Mod_address_147 ?_
                    refine lv_aload_n hx hb d_Mod_address_150 rfl (lv_at hl 3 rfl) ?_
                    refine lv_iload_n hx hb d_Mod_address_151 rfl (lv_at hl 4 rfl) ?_
                    refine lv_iload_n hx hb d_Mod_address_152 rfl (lv_at hl 5 rfl) ?_
                    have hPc := hP.sub (ws' := [(m0, .inr (8, [.ref mtt, .int tk9, .int sz9, .int pl9, .int (nI (wn st)), .ref mcd, .int (nI (sn st)), .ref mat, .ref msz, .ref mvl, .ref mcs, .ref mmm, .int ra, .int rd, .int nx9, .int dn, .ref mkn, .ref mjp, .ref mds])), (mtt, .inl (gI g, 2000, .inl tf)), (mat, .inl (gI g, 40, .inl s1)), (msz, .inl (gI g, 40, .inl s2)), (mvl, .inl (gI g, 40, .inl s3))]) [0, 1, 3, 4, 5] rfl
                    have hDc := hD.sub (ws' := [(m0, .inr (8, [.ref mtt, .int tk9, .int sz9, .int pl9, .int (nI (wn st)), .ref mcd, .int (nI (sn st)), .ref mat, .ref msz, .ref mvl, .ref mcs, .ref mmm, .int ra, .int rd, .int nx9, .int dn, .ref mkn, .ref mjp, .ref mds])), (mtt, .inl (gI g, 2000, .inl tf)), (mat, .inl (gI g, 40, .inl s1)), (msz, .inl (gI g, 40, .inl s2)), (mvl, .inl (gI g, 40, .inl s3))]) [0, 1, 3, 4, 5] (by decide) rfl
                    have hFc := va_free (wc := [(m0, .inr (8, [.ref mtt, .int tk9, .int sz9, .int pl9, .int (nI (wn st)), .ref mcd, .int (nI (sn st)), .ref mat, .ref msz, .ref mvl, .ref mcs, .ref mmm, .int ra, .int rd, .int nx9, .int dn, .ref mkn, .ref mjp, .ref mds])), (mtt, .inl (gI g, 2000, .inl tf)), (mat, .inl (gI g, 40, .inl s1)), (msz, .inl (gI g, 40, .inl s2)), (mvl, .inl (gI g, 40, .inl s3))]) hD hS hA [0, 1, 3, 4, 5] rfl
                    refine sd_ci (va_runV (As := [.int (nI a), .int (nI cn)]) (rest := [.int (nI (wn st)), .ref mcs]) ⟨hx, hb, hml, hown, hts⟩ (c_Mod_symbolOf l g m0 mtt mcd mat msz mvl mcs mmm mkn mjp mds tk9 sz9 pl9 (nI (wn st)) ra rd nx9 dn n tf tx hT st s1 s2 s3 hSR hSB (a) (cn) (hc1) (by omega) H.size) (cwV 2 hts (sd_gV k_608 k_610 k_16 k_30 k_611) rfl rfl rfl (by decide +kernel) ⟨Nat.le_of_ble_eq_true rfl, Nat.le_of_ble_eq_true rfl⟩) (sd_preVU hK hE hS hA0 hs0 hPc hDc rfl rfl) rfl rfl hl.1 rfl (lv_room (Nat.le_of_ble_eq_true rfl)) d_Mod_address_153 ⟨Nat.zero_le _, Nat.zero_le _⟩) hS hFc (fun r19 u H1 locs hw hP1 hD1 hk1 hS => ?_)
                    obtain ⟨st1, t1, t2, t3⟩ := u
                    obtain ⟨hP, hD⟩ := va_join (wr := [(mcd, .inl (gI g, 600, .inl cdf)), (mcs, .inl (gI g, 600, .inl (upd csf (wn st) (-1)))), (mkn, .inl (gC g, 32, .inl kf))]) (w1 := [(m0, .inr (8, [.ref mtt, .int tk9, .int sz9, .int pl9, .int (nI (wn st)), .ref mcd, .int (nI (sn st1)), .ref mat, .ref msz, .ref mvl, .ref mcs, .ref mmm, .int ra, .int rd, .int nx9, .int dn, .ref mkn, .ref mjp, .ref mds])), (mtt, .inl (gI g, 2000, .inl tf)), (mat, .inl (gI g, 40, .inl t1)), (msz, .inl (gI g, 40, .inl t2)), (mvl, .inl (gI g, 40, .inl t3))]) hP hD [0, 1, 3, 4, 5] [2, 6, 7] rfl rfl (by decide) (by decide) hk1 hFc hP1 hD1
                    clear hPc hDc hFc hk1 hP1 hD1
                    generalize H1 = H at hP hS ⊢
                    have hP : sdP g [(mcd, .inl (gI g, 600, .inl cdf)), (mcs, .inl (gI g, 600, .inl (upd csf (wn st) (-1)))), (mkn, .inl (gC g, 32, .inl kf)), (m0, .inr (8, [.ref mtt, .int tk9, .int sz9, .int pl9, .int (nI (wn st)), .ref mcd, .int (nI (sn st1)), .ref mat, .ref msz, .ref mvl, .ref mcs, .ref mmm, .int ra, .int rd, .int nx9, .int dn, .ref mkn, .ref mjp, .ref mds])), (mtt, .inl (gI g, 2000, .inl tf)), (mat, .inl (gI g, 40, .inl t1)), (msz, .inl (gI g, 40, .inl t2)), (mvl, .inl (gI g, 40, .inl t3))] H := hP
                    have hD : va_D A [(mcd, .inl (gI g, 600, .inl cdf)), (mcs, .inl (gI g, 600, .inl (upd csf (wn st) (-1)))), (mkn, .inl (gC g, 32, .inl kf)), (m0, .inr (8, [.ref mtt, .int tk9, .int sz9, .int pl9, .int (nI (wn st)), .ref mcd, .int (nI (sn st1)), .ref mat, .ref msz, .ref mvl, .ref mcs, .ref mmm, .int ra, .int rd, .int nx9, .int dn, .ref mkn, .ref mjp, .ref mds])), (mtt, .inl (gI g, 2000, .inl tf)), (mat, .inl (gI g, 40, .inl t1)), (msz, .inl (gI g, 40, .inl t2)), (mvl, .inl (gI g, 40, .inl t3))] := hD
                    obtain ⟨⟨cs, hsy, er19⟩, hSR1⟩ := hw
                    have hsy : syO tx st (a) (cn) = (cs, st1) := hsy
                    have hSR1 : SR st1 t1 t2 t3 := hSR1
                    have hst1 : st1.1 = st.1 := by have h := syO_fst (tx := tx) (st := st) (a := a) (n := cn); rw [hsy] at h; exact h
                    have hcs := syO_le (tx := tx) (a := a) (n := cn) h40
                    rw [hsy] at hcs
                    have hcs1 : cs ≤ sn st1 := hcs.1
                    have hcs2 : sn st1 ≤ 40 := hcs.2
                    have hSB1 : SB n st1 := by have h := SB_O (tx := tx) (a := a) (c := cn) hSB (by omega); rw [hsy] at h; exact h
                    subst er19
                    have hwn1 : wn st1 = wn st := by show st1.1.1 = st.1.1; rw [hst1]
                    refine va_iast hx hb hK hP hD hS 1 1 rfl rfl (i := (nI (wn st))) (x := (nI cs - 1)) (vp_in_nI (by omega) (by omega)) d_Mod_address_156 (fun H locs hP hD hS => ?_)
                    have hP : sdP g [(mcd, .inl (gI g, 600, .inl cdf)), (mcs, .inl (gI g, 600, .inl (upd (upd csf (wn st) (-1)) ((nI (wn st))).toNatClampNeg (nI cs - 1)))), (mkn, .inl (gC g, 32, .inl kf)), (m0, .inr (8, [.ref mtt, .int tk9, .int sz9, .int pl9, .int (nI (wn st)), .ref mcd, .int (nI (sn st1)), .ref mat, .ref msz, .ref mvl, .ref mcs, .ref mmm, .int ra, .int rd, .int nx9, .int dn, .ref mkn, .ref mjp, .ref mds])), (mtt, .inl (gI g, 2000, .inl tf)), (mat, .inl (gI g, 40, .inl t1)), (msz, .inl (gI g, 40, .inl t2)), (mvl, .inl (gI g, 40, .inl t3))] H := hP
                    have hD : va_D A [(mcd, .inl (gI g, 600, .inl cdf)), (mcs, .inl (gI g, 600, .inl (upd (upd csf (wn st) (-1)) ((nI (wn st))).toNatClampNeg (nI cs - 1)))), (mkn, .inl (gC g, 32, .inl kf)), (m0, .inr (8, [.ref mtt, .int tk9, .int sz9, .int pl9, .int (nI (wn st)), .ref mcd, .int (nI (sn st1)), .ref mat, .ref msz, .ref mvl, .ref mcs, .ref mmm, .int ra, .int rd, .int nx9, .int dn, .ref mkn, .ref mjp, .ref mds])), (mtt, .inl (gI g, 2000, .inl tf)), (mat, .inl (gI g, 40, .inl t1)), (msz, .inl (gI g, 40, .inl t2)), (mvl, .inl (gI g, 40, .inl t3))] := hD
                    have eF : (upd (upd csf (wn st) (-1)) ((nI (wn st))).toNatClampNeg (nI cs - 1)) = (upd csf (wn st) (nI cs - 1)) := by
                        rw [nI_clamp (by omega)]
                        funext j
                        by_cases q : j = wn st
                        · subst q; rw [pk_us, pk_us]
                        · rw [pk_un q, pk_un q, pk_un q]
                    rw [eF] at hP hD
                    refine lv_aload_n hx hb d_Mod_address_157 rfl (lv_at hl 3 rfl) ?_
                    refine va_get (D := g.1) (ci := 8) (v := .ref mcs) (C := "SignDeskModel") (T := F_Mod) (N := 19) hx hb hts in_Mod hown hK hP 3 rfl rfl 10 (by decide) (hts _ k_504) (fun _ h9 => h9) rfl d_Mod_address_158 ?_
                    refine lv_aload_n hx hb d_Mod_address_161 rfl (lv_at hl 3 rfl) ?_
                    refine va_get (D := g.1) (ci := 8) (v := .int (nI (wn st))) (C := "SignDeskModel") (T := F_Mod) (N := 19) hx hb hts in_Mod hown hK hP 3 rfl rfl 4 (by decide) (hts _ k_498) (fun _ h9 => h9) rfl d_Mod_address_162 ?_
                    refine va_iald hx hb hK hP 1 1 rfl rfl (i := (nI (wn st))) (vp_in_nI (by omega) (by omega)) d_Mod_address_165 ?_
                    refine sd_topi (y := nI cs - 1) (by rw [nI_clamp (by omega)]; exact pk_us) ?_
                    refine lv_iconst (v := (-1)) hx hb d_Mod_address_166 (by decide) ?_
                    refine lv_icmp_ne (tgt := 172) hx hb d_Mod_address_167 (by decide) (fun c20 => ?_) (fun c20 => ?_)
                    · have hc0 : ¬ cs = 0 := fun q => c20 (by rw [q]; decide)
                      refine lv_aload_n hx hb d_Mod_address_172 rfl (lv_at hl 3 rfl) ?_
                      refine va_get (D := g.1) (ci := 8) (v := .ref mcd) (C := "SignDeskModel") (T := F_Mod) (N := 19) hx hb hts in_Mod hown hK hP 3 rfl rfl 5 (by decide) (hts _ k_499) (fun _ h9 => h9) rfl d_Mod_address_173 ?_
                      refine lv_aload_n hx hb d_Mod_address_176 rfl (lv_at hl 3 rfl) ?_
                      refine va_get (D := g.1) (ci := 8) (v := .int (nI (wn st))) (C := "SignDeskModel") (T := F_Mod) (N := 19) hx hb hts in_Mod hown hK hP 3 rfl rfl 4 (by decide) (hts _ k_498) (fun _ h9 => h9) rfl d_Mod_address_177 ?_
                      refine lv_iload hx hb d_Mod_address_180 (lv_at hl 0 rfl) ?_
                      refine lv_iconst (v := (-1)) hx hb d_Mod_address_182 (by decide) ?_
                      refine lv_icmp_ne (tgt := 190) hx hb d_Mod_address_183 (by decide) (fun c21 => ?_) (fun c21 => ?_)
                      · exact absurd c17 c21
                      · refine lv_iconst (v := (nI 0)) hx hb d_Mod_address_186 (by decide) ?_
                        refine lv_goto (tgt := 192) hx hb d_Mod_address_187 (by decide) ?_
                        refine va_iast hx hb hK hP hD hS 0 1 rfl rfl (i := (nI (wn st))) (x := (nI 0)) (vp_in_nI (by omega) (by omega)) d_Mod_address_192 (fun H locs hP hD hS => ?_)
                        have hP : sdP g [(mcd, .inl (gI g, 600, .inl (upd cdf ((nI (wn st))).toNatClampNeg (nI 0)))), (mcs, .inl (gI g, 600, .inl (upd csf (wn st) (nI cs - 1)))), (mkn, .inl (gC g, 32, .inl kf)), (m0, .inr (8, [.ref mtt, .int tk9, .int sz9, .int pl9, .int (nI (wn st)), .ref mcd, .int (nI (sn st1)), .ref mat, .ref msz, .ref mvl, .ref mcs, .ref mmm, .int ra, .int rd, .int nx9, .int dn, .ref mkn, .ref mjp, .ref mds])), (mtt, .inl (gI g, 2000, .inl tf)), (mat, .inl (gI g, 40, .inl t1)), (msz, .inl (gI g, 40, .inl t2)), (mvl, .inl (gI g, 40, .inl t3))] H := hP
                        have hD : va_D A [(mcd, .inl (gI g, 600, .inl (upd cdf ((nI (wn st))).toNatClampNeg (nI 0)))), (mcs, .inl (gI g, 600, .inl (upd csf (wn st) (nI cs - 1)))), (mkn, .inl (gC g, 32, .inl kf)), (m0, .inr (8, [.ref mtt, .int tk9, .int sz9, .int pl9, .int (nI (wn st)), .ref mcd, .int (nI (sn st1)), .ref mat, .ref msz, .ref mvl, .ref mcs, .ref mmm, .int ra, .int rd, .int nx9, .int dn, .ref mkn, .ref mjp, .ref mds])), (mtt, .inl (gI g, 2000, .inl tf)), (mat, .inl (gI g, 40, .inl t1)), (msz, .inl (gI g, 40, .inl t2)), (mvl, .inl (gI g, 40, .inl t3))] := hD
                        have eF : (upd cdf ((nI (wn st))).toNatClampNeg (nI 0)) = (upd cdf (wn st) (nI 0)) := by rw [nI_clamp (by omega)]
                        rw [eF] at hP hD
                        refine lv_aload_n hx hb d_Mod_address_193 rfl (lv_at hl 3 rfl) ?_
                        refine lv_aload_n hx hb d_Mod_address_194 rfl (lv_at hl 3 rfl) ?_
                        refine va_get (D := g.1) (ci := 8) (v := .int (nI (wn st))) (C := "SignDeskModel") (T := F_Mod) (N := 19) hx hb hts in_Mod hown hK hP 3 rfl rfl 4 (by decide) (hts _ k_498) (fun _ h9 => h9) rfl d_Mod_address_195 ?_
                        refine lv_iconst (v := (nI 1)) hx hb d_Mod_address_198 (by decide) ?_
                        refine lv_iadd hx hb d_Mod_address_199 ?_
                        refine sd_topi (y := nI ((wn st) + 1)) (nI_add _ _) ?_
                        refine va_put (D := g.1) (ci := 8) (v := .int (nI ((wn st) + 1))) (ty := .int) (C := "SignDeskModel") (T := F_Mod) (N := 19) hx hb hts in_Mod t_Mod t_Mod_ok n_Mod hown hK hP hD hS 3 rfl rfl 4 (by decide) (hts _ k_498) (fun _ h9 => h9) rfl (by decide +kernel) rfl rfl (Nat.le_of_ble_eq_true rfl) d_Mod_address_200 (fun H locs hP hD hS => ?_)
                        have hP : sdP g [(mcd, .inl (gI g, 600, .inl (upd cdf (wn st) (nI 0)))), (mcs, .inl (gI g, 600, .inl (upd csf (wn st) (nI cs - 1)))), (mkn, .inl (gC g, 32, .inl kf)), (m0, .inr (8, [.ref mtt, .int tk9, .int sz9, .int pl9, .int (nI ((wn st) + 1)), .ref mcd, .int (nI (sn st1)), .ref mat, .ref msz, .ref mvl, .ref mcs, .ref mmm, .int ra, .int rd, .int nx9, .int dn, .ref mkn, .ref mjp, .ref mds])), (mtt, .inl (gI g, 2000, .inl tf)), (mat, .inl (gI g, 40, .inl t1)), (msz, .inl (gI g, 40, .inl t2)), (mvl, .inl (gI g, 40, .inl t3))] H := hP
                        have hD : va_D A [(mcd, .inl (gI g, 600, .inl (upd cdf (wn st) (nI 0)))), (mcs, .inl (gI g, 600, .inl (upd csf (wn st) (nI cs - 1)))), (mkn, .inl (gC g, 32, .inl kf)), (m0, .inr (8, [.ref mtt, .int tk9, .int sz9, .int pl9, .int (nI ((wn st) + 1)), .ref mcd, .int (nI (sn st1)), .ref mat, .ref msz, .ref mvl, .ref mcs, .ref mmm, .int ra, .int rd, .int nx9, .int dn, .ref mkn, .ref mjp, .ref mds])), (mtt, .inl (gI g, 2000, .inl tf)), (mat, .inl (gI g, 40, .inl t1)), (msz, .inl (gI g, 40, .inl t2)), (mvl, .inl (gI g, 40, .inl t3))] := hD
                        refine lv_iconst (v := (nI 0)) hx hb d_Mod_address_203 (by decide) ?_
                        have hMP1 : MPR (pushW st1 0 cs) (upd cdf (wn st) (nI 0)) (upd csf (wn st) (nI cs - 1)) := by
                          have h := MPR_push (c := 0) (y := cs) (MPR_of hMP hst1) (by omega)
                          rw [hwn1] at h; exact h
                        have hP : sdP g [(mcd, .inl (gI g, 600, .inl (upd cdf (wn st) (nI 0)))), (mcs, .inl (gI g, 600, .inl (upd csf (wn st) (nI cs - 1)))), (mkn, .inl (gC g, 32, .inl kf)), (m0, .inr (8, [.ref mtt, .int tk9, .int sz9, .int pl9, .int (nI (wn st1 + 1)), .ref mcd, .int (nI (sn st1)), .ref mat, .ref msz, .ref mvl, .ref mcs, .ref mmm, .int ra, .int rd, .int nx9, .int dn, .ref mkn, .ref mjp, .ref mds])), (mtt, .inl (gI g, 2000, .inl tf)), (mat, .inl (gI g, 40, .inl t1)), (msz, .inl (gI g, 40, .inl t2)), (mvl, .inl (gI g, 40, .inl t3))] H := by rw [hwn1]; exact hP
                        have hD : va_D A [(mcd, .inl (gI g, 600, .inl (upd cdf (wn st) (nI 0)))), (mcs, .inl (gI g, 600, .inl (upd csf (wn st) (nI cs - 1)))), (mkn, .inl (gC g, 32, .inl kf)), (m0, .inr (8, [.ref mtt, .int tk9, .int sz9, .int pl9, .int (nI (wn st1 + 1)), .ref mcd, .int (nI (sn st1)), .ref mat, .ref msz, .ref mvl, .ref mcs, .ref mmm, .int ra, .int rd, .int nx9, .int dn, .ref mkn, .ref mjp, .ref mds])), (mtt, .inl (gI g, 2000, .inl tf)), (mat, .inl (gI g, 40, .inl t1)), (msz, .inl (gI g, 40, .inl t2)), (mvl, .inl (gI g, 40, .inl t3))] := by rw [hwn1]; exact hD
                        have hP9 := hP.sub (ws' := [(m0, .inr (8, [.ref mtt, .int tk9, .int sz9, .int pl9, .int (nI (wn st1 + 1)), .ref mcd, .int (nI (sn st1)), .ref mat, .ref msz, .ref mvl, .ref mcs, .ref mmm, .int ra, .int rd, .int nx9, .int dn, .ref mkn, .ref mjp, .ref mds])), (mtt, .inl (gI g, 2000, .inl tf)), (mcd, .inl (gI g, 600, .inl (upd cdf (wn st) (nI 0)))), (mat, .inl (gI g, 40, .inl t1)), (msz, .inl (gI g, 40, .inl t2)), (mvl, .inl (gI g, 40, .inl t3)), (mcs, .inl (gI g, 600, .inl (upd csf (wn st) (nI cs - 1)))), (mkn, .inl (gC g, 32, .inl kf))]) [3, 4, 0, 5, 6, 7, 1, 2] rfl
                        have hD9 := hD.sub (ws' := [(m0, .inr (8, [.ref mtt, .int tk9, .int sz9, .int pl9, .int (nI (wn st1 + 1)), .ref mcd, .int (nI (sn st1)), .ref mat, .ref msz, .ref mvl, .ref mcs, .ref mmm, .int ra, .int rd, .int nx9, .int dn, .ref mkn, .ref mjp, .ref mds])), (mtt, .inl (gI g, 2000, .inl tf)), (mcd, .inl (gI g, 600, .inl (upd cdf (wn st) (nI 0)))), (mat, .inl (gI g, 40, .inl t1)), (msz, .inl (gI g, 40, .inl t2)), (mvl, .inl (gI g, 40, .inl t3)), (mcs, .inl (gI g, 600, .inl (upd csf (wn st) (nI cs - 1)))), (mkn, .inl (gC g, 32, .inl kf))]) [3, 4, 0, 5, 6, 7, 1, 2] (by decide) rfl
                        exact W.iret (v := (nI 0)) hx hb hr (fun t ht hW => ⟨⟨_, (pushW st1 0 cs, upd cdf (wn st) (nI 0), upd csf (wn st) (nI cs - 1), t1, t2, t3), rfl, ⟨⟨0, by rw [spAddr, cl_t c13, if_neg (by omega), if_pos hk0, hzz, hsy, if_neg hc0], rfl⟩, hMP1, hSR1, hSB1⟩, by rw [ht]; exact hP9, by rw [hAe]; exact hD9⟩, hS.F ht⟩) hS.2.2 d_Mod_address_204
                    · have hc0 : cs = 0 := (m1_iff (by omega)).mp c20
                      have hP : sdP g [(mcd, .inl (gI g, 600, .inl cdf)), (mcs, .inl (gI g, 600, .inl (upd csf (wn st) (nI cs - 1)))), (mkn, .inl (gC g, 32, .inl kf)), (m0, .inr (8, [.ref mtt, .int tk9, .int sz9, .int pl9, .int (nI (wn st1)), .ref mcd, .int (nI (sn st1)), .ref mat, .ref msz, .ref mvl, .ref mcs, .ref mmm, .int ra, .int rd, .int nx9, .int dn, .ref mkn, .ref mjp, .ref mds])), (mtt, .inl (gI g, 2000, .inl tf)), (mat, .inl (gI g, 40, .inl t1)), (msz, .inl (gI g, 40, .inl t2)), (mvl, .inl (gI g, 40, .inl t3))] H := by rw [hwn1]; exact hP
                      have hD : va_D A [(mcd, .inl (gI g, 600, .inl cdf)), (mcs, .inl (gI g, 600, .inl (upd csf (wn st) (nI cs - 1)))), (mkn, .inl (gC g, 32, .inl kf)), (m0, .inr (8, [.ref mtt, .int tk9, .int sz9, .int pl9, .int (nI (wn st1)), .ref mcd, .int (nI (sn st1)), .ref mat, .ref msz, .ref mvl, .ref mcs, .ref mmm, .int ra, .int rd, .int nx9, .int dn, .ref mkn, .ref mjp, .ref mds])), (mtt, .inl (gI g, 2000, .inl tf)), (mat, .inl (gI g, 40, .inl t1)), (msz, .inl (gI g, 40, .inl t2)), (mvl, .inl (gI g, 40, .inl t3))] := by rw [hwn1]; exact hD
                      refine lv_iconst (v := (nI 2)) hx hb d_Mod_address_170 (by decide) ?_
                      have hP9 := hP.sub (ws' := [(m0, .inr (8, [.ref mtt, .int tk9, .int sz9, .int pl9, .int (nI (wn st1)), .ref mcd, .int (nI (sn st1)), .ref mat, .ref msz, .ref mvl, .ref mcs, .ref mmm, .int ra, .int rd, .int nx9, .int dn, .ref mkn, .ref mjp, .ref mds])), (mtt, .inl (gI g, 2000, .inl tf)), (mcd, .inl (gI g, 600, .inl cdf)), (mat, .inl (gI g, 40, .inl t1)), (msz, .inl (gI g, 40, .inl t2)), (mvl, .inl (gI g, 40, .inl t3)), (mcs, .inl (gI g, 600, .inl (upd csf (wn st) (nI cs - 1)))), (mkn, .inl (gC g, 32, .inl kf))]) [3, 4, 0, 5, 6, 7, 1, 2] rfl
                      have hD9 := hD.sub (ws' := [(m0, .inr (8, [.ref mtt, .int tk9, .int sz9, .int pl9, .int (nI (wn st1)), .ref mcd, .int (nI (sn st1)), .ref mat, .ref msz, .ref mvl, .ref mcs, .ref mmm, .int ra, .int rd, .int nx9, .int dn, .ref mkn, .ref mjp, .ref mds])), (mtt, .inl (gI g, 2000, .inl tf)), (mcd, .inl (gI g, 600, .inl cdf)), (mat, .inl (gI g, 40, .inl t1)), (msz, .inl (gI g, 40, .inl t2)), (mvl, .inl (gI g, 40, .inl t3)), (mcs, .inl (gI g, 600, .inl (upd csf (wn st) (nI cs - 1)))), (mkn, .inl (gC g, 32, .inl kf))]) [3, 4, 0, 5, 6, 7, 1, 2] (by decide) rfl
                      exact W.iret (v := (nI 2)) hx hb hr (fun t ht hW => ⟨⟨_, (st1, cdf, upd csf (wn st) (nI cs - 1), t1, t2, t3), rfl, ⟨⟨2, by rw [spAddr, cl_t c13, if_neg (by omega), if_pos hk0, hzz, hsy, if_pos hc0], rfl⟩, MPR_of (MPR_cs hMP) hst1, hSR1, hSB1⟩, by rw [ht]; exact hP9, by rw [hAe]; exact hD9⟩, hS.F ht⟩) hS.2.2 d_Mod_address_171
                · exact absurd rfl c15
              · have c14 := (nI_eq (by omega) (by omega)).mp c14
                refine lv_iconst (v := (nI 2)) hx hb d_Mod_address_107 (by decide) ?_
                have hP9 := hP.sub (ws' := [(m0, .inr (8, [.ref mtt, .int tk9, .int sz9, .int pl9, .int (nI (wn st)), .ref mcd, .int (nI (sn st)), .ref mat, .ref msz, .ref mvl, .ref mcs, .ref mmm, .int ra, .int rd, .int nx9, .int dn, .ref mkn, .ref mjp, .ref mds])), (mtt, .inl (gI g, 2000, .inl tf)), (mcd, .inl (gI g, 600, .inl cdf)), (mat, .inl (gI g, 40, .inl s1)), (msz, .inl (gI g, 40, .inl s2)), (mvl, .inl (gI g, 40, .inl s3)), (mcs, .inl (gI g, 600, .inl csf)), (mkn, .inl (gC g, 32, .inl kf))]) [0, 1, 2, 3, 4, 5, 6, 7] rfl
                have hD9 := hD.sub (ws' := [(m0, .inr (8, [.ref mtt, .int tk9, .int sz9, .int pl9, .int (nI (wn st)), .ref mcd, .int (nI (sn st)), .ref mat, .ref msz, .ref mvl, .ref mcs, .ref mmm, .int ra, .int rd, .int nx9, .int dn, .ref mkn, .ref mjp, .ref mds])), (mtt, .inl (gI g, 2000, .inl tf)), (mcd, .inl (gI g, 600, .inl cdf)), (mat, .inl (gI g, 40, .inl s1)), (msz, .inl (gI g, 40, .inl s2)), (mvl, .inl (gI g, 40, .inl s3)), (mcs, .inl (gI g, 600, .inl csf)), (mkn, .inl (gC g, 32, .inl kf))]) [0, 1, 2, 3, 4, 5, 6, 7] (by decide) rfl
                exact W.iret (v := (nI 2)) hx hb hr (fun t ht hW => ⟨⟨_, (st, cdf, csf, s1, s2, s3), rfl, ⟨⟨2, by rw [spAddr, cl_t c13, if_pos (by omega)], rfl⟩, hMP, hSR, hSB⟩, by rw [ht]; exact hP9, by rw [hAe]; exact hD9⟩, hS.F ht⟩) hS.2.2 d_Mod_address_108
            · have c13 := sb_eq0.mp c13
              refine lv_iconst (v := (nI 1)) hx hb d_Mod_address_95 (by decide) ?_
              have hP9 := hP.sub (ws' := [(m0, .inr (8, [.ref mtt, .int tk9, .int sz9, .int pl9, .int (nI (wn st)), .ref mcd, .int (nI (sn st)), .ref mat, .ref msz, .ref mvl, .ref mcs, .ref mmm, .int ra, .int rd, .int nx9, .int dn, .ref mkn, .ref mjp, .ref mds])), (mtt, .inl (gI g, 2000, .inl tf)), (mcd, .inl (gI g, 600, .inl cdf)), (mat, .inl (gI g, 40, .inl s1)), (msz, .inl (gI g, 40, .inl s2)), (mvl, .inl (gI g, 40, .inl s3)), (mcs, .inl (gI g, 600, .inl csf)), (mkn, .inl (gC g, 32, .inl kf))]) [0, 1, 2, 3, 4, 5, 6, 7] rfl
              have hD9 := hD.sub (ws' := [(m0, .inr (8, [.ref mtt, .int tk9, .int sz9, .int pl9, .int (nI (wn st)), .ref mcd, .int (nI (sn st)), .ref mat, .ref msz, .ref mvl, .ref mcs, .ref mmm, .int ra, .int rd, .int nx9, .int dn, .ref mkn, .ref mjp, .ref mds])), (mtt, .inl (gI g, 2000, .inl tf)), (mcd, .inl (gI g, 600, .inl cdf)), (mat, .inl (gI g, 40, .inl s1)), (msz, .inl (gI g, 40, .inl s2)), (mvl, .inl (gI g, 40, .inl s3)), (mcs, .inl (gI g, 600, .inl csf)), (mkn, .inl (gC g, 32, .inl kf))]) [0, 1, 2, 3, 4, 5, 6, 7] (by decide) rfl
              exact W.iret (v := (nI 1)) hx hb hr (fun t ht hW => ⟨⟨_, (st, cdf, csf, s1, s2, s3), rfl, ⟨⟨1, by rw [spAddr, cl_f c13, cl_f hnn], rfl⟩, hMP, hSR, hSB⟩, by rw [ht]; exact hP9, by rw [hAe]; exact hD9⟩, hS.F ht⟩) hS.2.2 d_Mod_address_96
        · exact absurd rfl c10
    · have c2 := mt (nI_leI (by omega) (by omega)).mpr c2
      rcases h2 with h2 | h2
      · obtain ⟨rfl, g1, g2, g3, rfl⟩ := h2
        have g4 : nV tx a k < 10 ^ k := nV_lt (fun j h5 h6 => by have := g3 (j - a) (by omega); rw [show a + (j - a) = j by omega] at this; exact this)
        have g5 : (10 : Nat) ^ k ≤ 10 ^ 4 := Nat.pow_le_pow_right (by decide) (by omega)
        refine lv_iload_n hx hb d_Mod_address_27 rfl (lv_at hl 1 rfl) ?_
        refine lv_if_eq (tgt := 70) hx hb d_Mod_address_28 (by decide) (fun c22 => ?_) (fun c22 => ?_)
        · exact absurd c22 (by decide)
        · refine lv_aload_n hx hb d_Mod_address_31 rfl (lv_at hl 3 rfl) ?_
          refine va_get (D := g.1) (ci := 8) (v := .ref mtt) (C := "SignDeskModel") (T := F_Mod) (N := 19) hx hb hts in_Mod hown hK hP 0 rfl rfl 0 (by decide) (hts _ k_494) (fun _ h9 => h9) rfl d_Mod_address_32 ?_
          refine lv_iload_n hx hb d_Mod_address_35 rfl (lv_at hl 4 rfl) ?_
          refine lv_iload hx hb d_Mod_address_36 (lv_at hl 0 rfl) ?_
          refine lv_iadd hx hb d_Mod_address_38 ?_
          refine sd_topi (y := nI (a + k)) (nI_add _ _) ?_
          refine va_iald hx hb hK hP 1 1 rfl rfl (i := (nI (a + k))) (vp_in_nI (by omega) (by omega)) d_Mod_address_39 ?_
          refine sd_topi (y := nI (tx (a + k))) (by rw [nI_clamp (by omega)]; exact hT.2.2.1 _ (by omega)) ?_
          have hb8i := hb8 (a + k)
          refine sd_ri (va_runS (As := [.int (nI (tx (a + k)))]) (rest := []) ⟨hx, hb, hml, hown, hts⟩ (c_Mod_isDigit l (tx (a + k)) (hb8 _)) (va_cwS 1 hts (sd_gS k_588 k_589 k_30 k_590) rfl rfl rfl (by decide +kernel) ⟨Nat.le_of_ble_eq_true rfl, Nat.le_of_ble_eq_true rfl⟩) preEq rfl rfl hl.1 rfl (lv_room (Nat.le_of_ble_eq_true rfl)) d_Mod_address_40 ⟨Nat.zero_le _, Nat.zero_le _⟩) (fun r23 er23 => ?_)
          subst er23
          have hb8k := hb8 (a + k)
          refine lv_istore_n (lv' := [(3, .int (sb (48 ≤ tx (a + k) ∧ tx (a + k) ≤ 57))), (5, .int (nI k)), (4, .int (nI (nV tx a k))), (0, .ref m0), (1, .int (nI a)), (2, .int (nI cn))]) hx hb d_Mod_address_43 rfl hl (by decide) rfl (fun ls hl => ?_)
          refine lv_bipush (v := (nI 10)) hx hb d_Mod_address_44 (by decide) ?_
          refine lv_iload hx hb d_Mod_address_46 (lv_at hl 2 rfl) ?_
          refine lv_imul hx hb d_Mod_address_48 ?_
          refine sd_topi (y := nI (10 * (nV tx a k))) (pk_mul _ _) ?_
          refine lv_aload_n hx hb d_Mod_address_49 rfl (lv_at hl 3 rfl) ?_
          refine va_get (D := g.1) (ci := 8) (v := .ref mtt) (C := "SignDeskModel") (T := F_Mod) (N := 19) hx hb hts in_Mod hown hK hP 0 rfl rfl 0 (by decide) (hts _ k_494) (fun _ h9 => h9) rfl d_Mod_address_50 ?_
          refine lv_iload_n hx hb d_Mod_address_53 rfl (lv_at hl 4 rfl) ?_
          refine lv_iload hx hb d_Mod_address_54 (lv_at hl 1 rfl) ?_
          refine lv_iadd hx hb d_Mod_address_56 ?_
          refine sd_topi (y := nI (a + k)) (nI_add _ _) ?_
          refine va_iald hx hb hK hP 1 1 rfl rfl (i := (nI (a + k))) (vp_in_nI (by omega) (by omega)) d_Mod_address_57 ?_
          refine sd_topi (y := nI (tx (a + k))) (by rw [nI_clamp (by omega)]; exact hT.2.2.1 _ (by omega)) ?_
          have hb8i := hb8 (a + k)
          refine lv_iadd hx hb d_Mod_address_58 ?_
          refine sd_topi (y := nI ((10 * (nV tx a k)) + (tx (a + k)))) (nI_add _ _) ?_
          refine lv_bipush (v := (nI 48)) hx hb d_Mod_address_59 (by decide) ?_
          by_cases hdg : 48 ≤ tx (a + k) ∧ tx (a + k) ≤ 57
          · refine lv_isub hx hb d_Mod_address_61 ?_
            refine sd_topi (y := nI (nV tx a (k + 1))) (by rw [pk_sub (by omega)]; exact congrArg nI (by show _ = 10 * nV tx a k + (tx (a + k) - 48); omega)) ?_
            refine lv_istore (lv' := [(4, .int (nI (nV tx a (k + 1)))), (3, .int (sb (48 ≤ tx (a + k) ∧ tx (a + k) ≤ 57))), (5, .int (nI k)), (0, .ref m0), (1, .int (nI a)), (2, .int (nI cn))]) hx hb d_Mod_address_62 hl (by decide) rfl (fun ls hl => ?_)
            refine lv_iinc (v := (nI (k + 1))) (lv' := [(5, .int (nI (k + 1))), (4, .int (nI (nV tx a (k + 1)))), (3, .int (sb (48 ≤ tx (a + k) ∧ tx (a + k) ≤ 57))), (0, .ref m0), (1, .int (nI a)), (2, .int (nI cn))]) hx hb d_Mod_address_64 hl (k := 2) rfl (nI_1 _) (by decide) rfl (fun ls hl => ?_)
            refine lv_goto (tgt := 21) hx hb d_Mod_address_67 (by decide) ?_
            exact ih (k + 1, nI 1, nI (nV tx a (k + 1))) _ ⟨by
                have e9 : sb (48 ≤ tx (a + k) ∧ tx (a + k) ≤ 57) = nI 1 := sb_t hdg
                rw [e9] at hl
                exact lv_sub hl [0, 2, 1, 3, 4, 5] rfl, by omega, Or.inl ⟨rfl, g1, g2, fun j hj => by
                rcases Nat.lt_or_ge j k with q | q
                · exact g3 j q
                · have : j = k := by omega
                  subst this; exact hdg, rfl⟩⟩ (show cn - (k + 1) < cn - k by omega)
          · refine lv_isub hx hb d_Mod_address_61 ?_
            refine lv_istore (lv' := [(4, .int ((nI ((10 * (nV tx a k)) + (tx (a + k)))) - (nI 48))), (3, .int (sb (48 ≤ tx (a + k) ∧ tx (a + k) ≤ 57))), (5, .int (nI k)), (0, .ref m0), (1, .int (nI a)), (2, .int (nI cn))]) hx hb d_Mod_address_62 hl (by decide) rfl (fun ls hl => ?_)
            refine lv_iinc (v := (nI (k + 1))) (lv' := [(5, .int (nI (k + 1))), (4, .int ((nI ((10 * (nV tx a k)) + (tx (a + k)))) - (nI 48))), (3, .int (sb (48 ≤ tx (a + k) ∧ tx (a + k) ≤ 57))), (0, .ref m0), (1, .int (nI a)), (2, .int (nI cn))]) hx hb d_Mod_address_64 hl (k := 2) rfl (nI_1 _) (by decide) rfl (fun ls hl => ?_)
            refine lv_goto (tgt := 21) hx hb d_Mod_address_67 (by decide) ?_
            exact ih (k + 1, nI 0, _) _ ⟨by
                have e9 : sb (48 ≤ tx (a + k) ∧ tx (a + k) ≤ 57) = nI 0 := sb_f hdg
                rw [e9] at hl
                exact lv_sub hl [0, 2, 1, 3, 4, 5] rfl, by omega, Or.inr ⟨rfl, fun q => hdg (q.2.2 k (by omega))⟩⟩ (show cn - (k + 1) < cn - k by omega)
      · obtain ⟨rfl, g0⟩ := h2
        refine lv_iload_n hx hb d_Mod_address_27 rfl (lv_at hl 1 rfl) ?_
        refine lv_if_eq (tgt := 70) hx hb d_Mod_address_28 (by decide) (fun c24 => ?_) (fun c24 => ?_)
        · refine lv_iload_n hx hb d_Mod_address_70 rfl (lv_at hl 1 rfl) ?_
          have hnn : ¬ nuP tx a (a + cn) := fun q => g0 ⟨by have := q.1; omega, by have := q.2.1; omega, fun j hj => q.2.2.1 (a + j) (by omega) (by omega)⟩
          have hzz : a + cn - a = cn := by omega
          refine lv_if_eq (tgt := 82) hx hb d_Mod_address_71 (by decide) (fun c25 => ?_) (fun c25 => ?_)
          · refine lv_iload_n hx hb d_Mod_address_82 rfl (lv_at hl 1 rfl) ?_
            refine lv_if_ne (tgt := 97) hx hb d_Mod_address_83 (by decide) (fun c26 => ?_) (fun c26 => ?_)
            · exact absurd rfl c26
            · refine lv_aload_n hx hb d_Mod_address_86 rfl (lv_at hl 3 rfl) ?_
              refine lv_iload_n hx hb d_Mod_address_87 rfl (lv_at hl 4 rfl) ?_
              refine lv_iload_n hx hb d_Mod_address_88 rfl (lv_at hl 5 rfl) ?_
              refine sd_ri (va_runV (As := [.int (nI a), .int (nI cn)]) (rest := []) ⟨hx, hb, hml, hown, hts⟩ (c_Mod_isSymbol l g m0 mtt mcd mat msz mvl mcs mmm mkn mjp mds tk9 sz9 pl9 (nI (wn st)) (nI (sn st)) ra rd nx9 dn n tf tx hT a cn (by omega) (by omega) (fun _ => hac)) (cwV 2 hts (sd_gV k_584 k_586 k_13 k_30 k_587) rfl rfl rfl (by decide +kernel) ⟨Nat.le_of_ble_eq_true rfl, Nat.le_of_ble_eq_true rfl⟩) (sd_preV hK hE (sd_fr hS hA0) (hP.sub (ws' := [(m0, .inr (8, [.ref mtt, .int tk9, .int sz9, .int pl9, .int (nI (wn st)), .ref mcd, .int (nI (sn st)), .ref mat, .ref msz, .ref mvl, .ref mcs, .ref mmm, .int ra, .int rd, .int nx9, .int dn, .ref mkn, .ref mjp, .ref mds])), (mtt, .inl (gI g, 2000, .inl tf))]) [0, 1] rfl) rfl rfl) rfl rfl hl.1 rfl (lv_room (Nat.le_of_ble_eq_true rfl)) d_Mod_address_89 ⟨Nat.zero_le _, Nat.zero_le _⟩) (fun r27 er27 => ?_)
              subst er27
              refine lv_if_ne (tgt := 97) hx hb d_Mod_address_92 (by decide) (fun c28 => ?_) (fun c28 => ?_)
              · have c28 := sb_ne0.mp c28
                have hc1 : 1 ≤ cn := by have := c28.1; omega
                refine lv_aload_n hx hb d_Mod_address_97 rfl (lv_at hl 3 rfl) ?_
                refine va_get (D := g.1) (ci := 8) (v := .int (nI (wn st))) (C := "SignDeskModel") (T := F_Mod) (N := 19) hx hb hts in_Mod hown hK hP 0 rfl rfl 4 (by decide) (hts _ k_498) (fun _ h9 => h9) rfl d_Mod_address_98 ?_
                refine lv_sipush (v := (nI 600)) hx hb d_Mod_address_101 (by decide) ?_
                refine lv_icmp_ne (tgt := 109) hx hb d_Mod_address_104 (by decide) (fun c29 => ?_) (fun c29 => ?_)
                · have c29 := mt (nI_eq (by omega) (by omega)).mpr c29
                  refine lv_aload_n hx hb d_Mod_address_109 rfl (lv_at hl 3 rfl) ?_
                  refine va_get (D := g.1) (ci := 8) (v := .ref mcs) (C := "SignDeskModel") (T := F_Mod) (N := 19) hx hb hts in_Mod hown hK hP 0 rfl rfl 10 (by decide) (hts _ k_504) (fun _ h9 => h9) rfl d_Mod_address_110 ?_
                  refine lv_aload_n hx hb d_Mod_address_113 rfl (lv_at hl 3 rfl) ?_
                  refine va_get (D := g.1) (ci := 8) (v := .int (nI (wn st))) (C := "SignDeskModel") (T := F_Mod) (N := 19) hx hb hts in_Mod hown hK hP 0 rfl rfl 4 (by decide) (hts _ k_498) (fun _ h9 => h9) rfl d_Mod_address_114 ?_
                  refine lv_iconst (v := (-1)) hx hb d_Mod_address_117 (by decide) ?_
                  refine va_iast hx hb hK hP hD hS 6 1 rfl rfl (i := (nI (wn st))) (x := (-1)) (vp_in_nI (by omega) (by omega)) d_Mod_address_118 (fun H locs hP hD hS => ?_)
                  have hP : sdP g [(m0, .inr (8, [.ref mtt, .int tk9, .int sz9, .int pl9, .int (nI (wn st)), .ref mcd, .int (nI (sn st)), .ref mat, .ref msz, .ref mvl, .ref mcs, .ref mmm, .int ra, .int rd, .int nx9, .int dn, .ref mkn, .ref mjp, .ref mds])), (mtt, .inl (gI g, 2000, .inl tf)), (mcd, .inl (gI g, 600, .inl cdf)), (mat, .inl (gI g, 40, .inl s1)), (msz, .inl (gI g, 40, .inl s2)), (mvl, .inl (gI g, 40, .inl s3)), (mcs, .inl (gI g, 600, .inl (upd csf ((nI (wn st))).toNatClampNeg (-1)))), (mkn, .inl (gC g, 32, .inl kf))] H := hP
                  have hD : va_D A [(m0, .inr (8, [.ref mtt, .int tk9, .int sz9, .int pl9, .int (nI (wn st)), .ref mcd, .int (nI (sn st)), .ref mat, .ref msz, .ref mvl, .ref mcs, .ref mmm, .int ra, .int rd, .int nx9, .int dn, .ref mkn, .ref mjp, .ref mds])), (mtt, .inl (gI g, 2000, .inl tf)), (mcd, .inl (gI g, 600, .inl cdf)), (mat, .inl (gI g, 40, .inl s1)), (msz, .inl (gI g, 40, .inl s2)), (mvl, .inl (gI g, 40, .inl s3)), (mcs, .inl (gI g, 600, .inl (upd csf ((nI (wn st))).toNatClampNeg (-1)))), (mkn, .inl (gC g, 32, .inl kf))] := hD
                  have eF : (upd csf ((nI (wn st))).toNatClampNeg (-1)) = (upd csf (wn st) (-1)) := by rw [nI_clamp (by omega)]
                  rw [eF] at hP hD
                  refine lv_iload_n hx hb d_Mod_address_119 rfl (lv_at hl 1 rfl) ?_
                  refine lv_if_eq (tgt := 128) hx hb d_Mod_address_120 (by decide) (fun c30 => ?_) (fun c30 => ?_)
                  · refine lv_aload_n hx hb d_Mod_address_128 rfl (lv_at hl 3 rfl) ?_
                    refine lv_iload_n hx hb d_Mod_address_129 rfl (lv_at hl 4 rfl) ?_
                    refine lv_iload_n hx hb d_Mod_address_130 rfl (lv_at hl 5 rfl) ?_
                    refine sd_ri (va_runV (As := [.int (nI a), .int (nI cn)]) (rest := []) ⟨hx, hb, hml, hown, hts⟩ (c_Mod_knownOf l g m0 mtt mcd mat msz mvl mcs mmm mkn mjp mds tk9 sz9 pl9 (nI (wn st)) (nI (sn st)) ra rd nx9 dn kf hRk n tf tx hT a cn hc1 hac htk) (cwV 2 hts (sd_gV k_600 k_602 k_14 k_30 k_603) rfl rfl rfl (by decide +kernel) ⟨Nat.le_of_ble_eq_true rfl, Nat.le_of_ble_eq_true rfl⟩) (sd_preV hK hE (sd_fr hS hA0) (hP.sub (ws' := [(m0, .inr (8, [.ref mtt, .int tk9, .int sz9, .int pl9, .int (nI (wn st)), .ref mcd, .int (nI (sn st)), .ref mat, .ref msz, .ref mvl, .ref mcs, .ref mmm, .int ra, .int rd, .int nx9, .int dn, .ref mkn, .ref mjp, .ref mds])), (mtt, .inl (gI g, 2000, .inl tf)), (mkn, .inl (gC g, 32, .inl kf))]) [0, 1, 7] rfl) rfl rfl) rfl rfl hl.1 rfl (lv_room (Nat.le_of_ble_eq_true rfl)) d_Mod_address_131 ⟨Nat.zero_le _, Nat.zero_le _⟩) (fun r31 er31 => ?_)
                    subst er31
                    have hkn := knK_le (tx := tx) (a := a) (z := a + cn)
                    refine lv_istore (lv' := [(5, .int (nI (knK tx a (a + cn)) - 1)), (3, .int (nI 0)), (4, .int v9), (0, .ref m0), (1, .int (nI a)), (2, .int (nI cn))]) hx hb d_Mod_address_134 hl (by decide) rfl (fun ls hl => ?_)
                    refine lv_iload hx hb d_Mod_address_136 (lv_at hl 0 rfl) ?_
                    refine lv_iconst (v := (-1)) hx hb d_Mod_address_138 (by decide) ?_
                    refine lv_icmp_ne (tgt := 172) hx hb d_Mod_address_139 (by decide) (fun c32 => ?_) (fun c32 => ?_)
                    · have hk0 : ¬ knK tx a (a + cn) = 0 := fun q => c32 (by rw [q]; decide)
                      refine lv_aload_n hx hb d_Mod_address_172 rfl (lv_at hl 3 rfl) ?_
                      refine va_get (D := g.1) (ci := 8) (v := .ref mcd) (C := "SignDeskModel") (T := F_Mod) (N := 19) hx hb hts in_Mod hown hK hP 0 rfl rfl 5 (by decide) (hts _ k_499) (fun _ h9 => h9) rfl d_Mod_address_173 ?_
                      refine lv_aload_n hx hb d_Mod_address_176 rfl (lv_at hl 3 rfl) ?_
                      refine va_get (D := g.1) (ci := 8) (v := .int (nI (wn st))) (C := "SignDeskModel") (T := F_Mod) (N := 19) hx hb hts in_Mod hown hK hP 0 rfl rfl 4 (by decide) (hts _ k_498) (fun _ h9 => h9) rfl d_Mod_address_177 ?_
                      refine lv_iload hx hb d_Mod_address_180 (lv_at hl 0 rfl) ?_
                      refine lv_iconst (v := (-1)) hx hb d_Mod_address_182 (by decide) ?_
                      refine lv_icmp_ne (tgt := 190) hx hb d_Mod_address_183 (by decide) (fun c33 => ?_) (fun c33 => ?_)
                      · refine lv_iload hx hb d_Mod_address_190 (lv_at hl 0 rfl) ?_
                        refine sd_topi (y := nI (knK tx a (a + cn) - 1)) (m1_up hk0) ?_
                        refine va_iast hx hb hK hP hD hS 2 1 rfl rfl (i := (nI (wn st))) (x := (nI (knK tx a (a + cn) - 1))) (vp_in_nI (by omega) (by omega)) d_Mod_address_192 (fun H locs hP hD hS => ?_)
                        have hP : sdP g [(m0, .inr (8, [.ref mtt, .int tk9, .int sz9, .int pl9, .int (nI (wn st)), .ref mcd, .int (nI (sn st)), .ref mat, .ref msz, .ref mvl, .ref mcs, .ref mmm, .int ra, .int rd, .int nx9, .int dn, .ref mkn, .ref mjp, .ref mds])), (mtt, .inl (gI g, 2000, .inl tf)), (mcd, .inl (gI g, 600, .inl (upd cdf ((nI (wn st))).toNatClampNeg (nI (knK tx a (a + cn) - 1))))), (mat, .inl (gI g, 40, .inl s1)), (msz, .inl (gI g, 40, .inl s2)), (mvl, .inl (gI g, 40, .inl s3)), (mcs, .inl (gI g, 600, .inl (upd csf (wn st) (-1)))), (mkn, .inl (gC g, 32, .inl kf))] H := hP
                        have hD : va_D A [(m0, .inr (8, [.ref mtt, .int tk9, .int sz9, .int pl9, .int (nI (wn st)), .ref mcd, .int (nI (sn st)), .ref mat, .ref msz, .ref mvl, .ref mcs, .ref mmm, .int ra, .int rd, .int nx9, .int dn, .ref mkn, .ref mjp, .ref mds])), (mtt, .inl (gI g, 2000, .inl tf)), (mcd, .inl (gI g, 600, .inl (upd cdf ((nI (wn st))).toNatClampNeg (nI (knK tx a (a + cn) - 1))))), (mat, .inl (gI g, 40, .inl s1)), (msz, .inl (gI g, 40, .inl s2)), (mvl, .inl (gI g, 40, .inl s3)), (mcs, .inl (gI g, 600, .inl (upd csf (wn st) (-1)))), (mkn, .inl (gC g, 32, .inl kf))] := hD
                        have eF : (upd cdf ((nI (wn st))).toNatClampNeg (nI (knK tx a (a + cn) - 1))) = (upd cdf (wn st) (nI (knK tx a (a + cn) - 1))) := by rw [nI_clamp (by omega)]
                        rw [eF] at hP hD
                        refine lv_aload_n hx hb d_Mod_address_193 rfl (lv_at hl 3 rfl) ?_
                        refine lv_aload_n hx hb d_Mod_address_194 rfl (lv_at hl 3 rfl) ?_
                        refine va_get (D := g.1) (ci := 8) (v := .int (nI (wn st))) (C := "SignDeskModel") (T := F_Mod) (N := 19) hx hb hts in_Mod hown hK hP 0 rfl rfl 4 (by decide) (hts _ k_498) (fun _ h9 => h9) rfl d_Mod_address_195 ?_
                        refine lv_iconst (v := (nI 1)) hx hb d_Mod_address_198 (by decide) ?_
                        refine lv_iadd hx hb d_Mod_address_199 ?_
                        refine sd_topi (y := nI ((wn st) + 1)) (nI_add _ _) ?_
                        refine va_put (D := g.1) (ci := 8) (v := .int (nI ((wn st) + 1))) (ty := .int) (C := "SignDeskModel") (T := F_Mod) (N := 19) hx hb hts in_Mod t_Mod t_Mod_ok n_Mod hown hK hP hD hS 0 rfl rfl 4 (by decide) (hts _ k_498) (fun _ h9 => h9) rfl (by decide +kernel) rfl rfl (Nat.le_of_ble_eq_true rfl) d_Mod_address_200 (fun H locs hP hD hS => ?_)
                        have hP : sdP g [(m0, .inr (8, [.ref mtt, .int tk9, .int sz9, .int pl9, .int (nI ((wn st) + 1)), .ref mcd, .int (nI (sn st)), .ref mat, .ref msz, .ref mvl, .ref mcs, .ref mmm, .int ra, .int rd, .int nx9, .int dn, .ref mkn, .ref mjp, .ref mds])), (mtt, .inl (gI g, 2000, .inl tf)), (mcd, .inl (gI g, 600, .inl (upd cdf (wn st) (nI (knK tx a (a + cn) - 1))))), (mat, .inl (gI g, 40, .inl s1)), (msz, .inl (gI g, 40, .inl s2)), (mvl, .inl (gI g, 40, .inl s3)), (mcs, .inl (gI g, 600, .inl (upd csf (wn st) (-1)))), (mkn, .inl (gC g, 32, .inl kf))] H := hP
                        have hD : va_D A [(m0, .inr (8, [.ref mtt, .int tk9, .int sz9, .int pl9, .int (nI ((wn st) + 1)), .ref mcd, .int (nI (sn st)), .ref mat, .ref msz, .ref mvl, .ref mcs, .ref mmm, .int ra, .int rd, .int nx9, .int dn, .ref mkn, .ref mjp, .ref mds])), (mtt, .inl (gI g, 2000, .inl tf)), (mcd, .inl (gI g, 600, .inl (upd cdf (wn st) (nI (knK tx a (a + cn) - 1))))), (mat, .inl (gI g, 40, .inl s1)), (msz, .inl (gI g, 40, .inl s2)), (mvl, .inl (gI g, 40, .inl s3)), (mcs, .inl (gI g, 600, .inl (upd csf (wn st) (-1)))), (mkn, .inl (gC g, 32, .inl kf))] := hD
                        refine lv_iconst (v := (nI 0)) hx hb d_Mod_address_203 (by decide) ?_
                        have hP9 := hP.sub (ws' := [(m0, .inr (8, [.ref mtt, .int tk9, .int sz9, .int pl9, .int (nI ((wn st) + 1)), .ref mcd, .int (nI (sn st)), .ref mat, .ref msz, .ref mvl, .ref mcs, .ref mmm, .int ra, .int rd, .int nx9, .int dn, .ref mkn, .ref mjp, .ref mds])), (mtt, .inl (gI g, 2000, .inl tf)), (mcd, .inl (gI g, 600, .inl (upd cdf (wn st) (nI (knK tx a (a + cn) - 1))))), (mat, .inl (gI g, 40, .inl s1)), (msz, .inl (gI g, 40, .inl s2)), (mvl, .inl (gI g, 40, .inl s3)), (mcs, .inl (gI g, 600, .inl (upd csf (wn st) (-1)))), (mkn, .inl (gC g, 32, .inl kf))]) [0, 1, 2, 3, 4, 5, 6, 7] rfl
                        have hD9 := hD.sub (ws' := [(m0, .inr (8, [.ref mtt, .int tk9, .int sz9, .int pl9, .int (nI ((wn st) + 1)), .ref mcd, .int (nI (sn st)), .ref mat, .ref msz, .ref mvl, .ref mcs, .ref mmm, .int ra, .int rd, .int nx9, .int dn, .ref mkn, .ref mjp, .ref mds])), (mtt, .inl (gI g, 2000, .inl tf)), (mcd, .inl (gI g, 600, .inl (upd cdf (wn st) (nI (knK tx a (a + cn) - 1))))), (mat, .inl (gI g, 40, .inl s1)), (msz, .inl (gI g, 40, .inl s2)), (mvl, .inl (gI g, 40, .inl s3)), (mcs, .inl (gI g, 600, .inl (upd csf (wn st) (-1)))), (mkn, .inl (gC g, 32, .inl kf))]) [0, 1, 2, 3, 4, 5, 6, 7] (by decide) rfl
                        exact W.iret (v := (nI 0)) hx hb hr (fun t ht hW => ⟨⟨_, (pushW st (knK tx a (a + cn) - 1) 0, upd cdf (wn st) (nI (knK tx a (a + cn) - 1)), upd csf (wn st) (-1), s1, s2, s3), rfl, ⟨⟨0, by rw [spAddr, cl_t c28, if_neg (by omega), if_neg hk0], rfl⟩, MPR_push (y := 0) hMP (by omega), hSR, hSB⟩, by rw [ht]; exact hP9, by rw [hAe]; exact hD9⟩, hS.F ht⟩) hS.2.2 d_Mod_address_204
                      · exact absurd c33 c32
                    · have hk0 : knK tx a (a + cn) = 0 := (m1_iff (by omega)).mp c32
                      refine lv_aload_n hx hb d_Mod_address_142 rfl (lv_at hl 3 rfl) ?_
                      refine va_get (D := g.1) (ci := 8) (v := .ref mcs) (C := "SignDeskModel") (T := F_Mod) (N := 19) hx hb hts in_Mod hown hK hP 0 rfl rfl 10 (by decide) (hts _ k_504) (fun _ h9 => h9) rfl d_Mod_address_143 ?_
                      refine lv_aload_n hx hb d_Mod_address_146 rfl (lv_at hl 3 rfl) ?_
                      refine va_get (D := g.1) (ci := 8) (v := .int (nI (wn st))) (C := "SignDeskModel") (T := F_Mod) (N := 19) hx hb hts in_Mod hown hK hP 0 rfl rfl 4 (by decide) (hts _ k_498) (fun _ h9 => h9) rfl d_Mod_address_147 ?_
                      refine lv_aload_n hx hb d_Mod_address_150 rfl (lv_at hl 3 rfl) ?_
                      refine lv_iload_n hx hb d_Mod_address_151 rfl (lv_at hl 4 rfl) ?_
                      refine lv_iload_n hx hb d_Mod_address_152 rfl (lv_at hl 5 rfl) ?_
                      have hPc := hP.sub (ws' := [(m0, .inr (8, [.ref mtt, .int tk9, .int sz9, .int pl9, .int (nI (wn st)), .ref mcd, .int (nI (sn st)), .ref mat, .ref msz, .ref mvl, .ref mcs, .ref mmm, .int ra, .int rd, .int nx9, .int dn, .ref mkn, .ref mjp, .ref mds])), (mtt, .inl (gI g, 2000, .inl tf)), (mat, .inl (gI g, 40, .inl s1)), (msz, .inl (gI g, 40, .inl s2)), (mvl, .inl (gI g, 40, .inl s3))]) [0, 1, 3, 4, 5] rfl
                      have hDc := hD.sub (ws' := [(m0, .inr (8, [.ref mtt, .int tk9, .int sz9, .int pl9, .int (nI (wn st)), .ref mcd, .int (nI (sn st)), .ref mat, .ref msz, .ref mvl, .ref mcs, .ref mmm, .int ra, .int rd, .int nx9, .int dn, .ref mkn, .ref mjp, .ref mds])), (mtt, .inl (gI g, 2000, .inl tf)), (mat, .inl (gI g, 40, .inl s1)), (msz, .inl (gI g, 40, .inl s2)), (mvl, .inl (gI g, 40, .inl s3))]) [0, 1, 3, 4, 5] (by decide) rfl
                      have hFc := va_free (wc := [(m0, .inr (8, [.ref mtt, .int tk9, .int sz9, .int pl9, .int (nI (wn st)), .ref mcd, .int (nI (sn st)), .ref mat, .ref msz, .ref mvl, .ref mcs, .ref mmm, .int ra, .int rd, .int nx9, .int dn, .ref mkn, .ref mjp, .ref mds])), (mtt, .inl (gI g, 2000, .inl tf)), (mat, .inl (gI g, 40, .inl s1)), (msz, .inl (gI g, 40, .inl s2)), (mvl, .inl (gI g, 40, .inl s3))]) hD hS hA [0, 1, 3, 4, 5] rfl
                      refine sd_ci (va_runV (As := [.int (nI a), .int (nI cn)]) (rest := [.int (nI (wn st)), .ref mcs]) ⟨hx, hb, hml, hown, hts⟩ (c_Mod_symbolOf l g m0 mtt mcd mat msz mvl mcs mmm mkn mjp mds tk9 sz9 pl9 (nI (wn st)) ra rd nx9 dn n tf tx hT st s1 s2 s3 hSR hSB (a) (cn) (hc1) (by omega) H.size) (cwV 2 hts (sd_gV k_608 k_610 k_16 k_30 k_611) rfl rfl rfl (by decide +kernel) ⟨Nat.le_of_ble_eq_true rfl, Nat.le_of_ble_eq_true rfl⟩) (sd_preVU hK hE hS hA0 hs0 hPc hDc rfl rfl) rfl rfl hl.1 rfl (lv_room (Nat.le_of_ble_eq_true rfl)) d_Mod_address_153 ⟨Nat.zero_le _, Nat.zero_le _⟩) hS hFc (fun r34 u H1 locs hw hP1 hD1 hk1 hS => ?_)
                      obtain ⟨st1, t1, t2, t3⟩ := u
                      obtain ⟨hP, hD⟩ := va_join (wr := [(mcd, .inl (gI g, 600, .inl cdf)), (mcs, .inl (gI g, 600, .inl (upd csf (wn st) (-1)))), (mkn, .inl (gC g, 32, .inl kf))]) (w1 := [(m0, .inr (8, [.ref mtt, .int tk9, .int sz9, .int pl9, .int (nI (wn st)), .ref mcd, .int (nI (sn st1)), .ref mat, .ref msz, .ref mvl, .ref mcs, .ref mmm, .int ra, .int rd, .int nx9, .int dn, .ref mkn, .ref mjp, .ref mds])), (mtt, .inl (gI g, 2000, .inl tf)), (mat, .inl (gI g, 40, .inl t1)), (msz, .inl (gI g, 40, .inl t2)), (mvl, .inl (gI g, 40, .inl t3))]) hP hD [0, 1, 3, 4, 5] [2, 6, 7] rfl rfl (by decide) (by decide) hk1 hFc hP1 hD1
                      clear hPc hDc hFc hk1 hP1 hD1
                      generalize H1 = H at hP hS ⊢
                      have hP : sdP g [(mcd, .inl (gI g, 600, .inl cdf)), (mcs, .inl (gI g, 600, .inl (upd csf (wn st) (-1)))), (mkn, .inl (gC g, 32, .inl kf)), (m0, .inr (8, [.ref mtt, .int tk9, .int sz9, .int pl9, .int (nI (wn st)), .ref mcd, .int (nI (sn st1)), .ref mat, .ref msz, .ref mvl, .ref mcs, .ref mmm, .int ra, .int rd, .int nx9, .int dn, .ref mkn, .ref mjp, .ref mds])), (mtt, .inl (gI g, 2000, .inl tf)), (mat, .inl (gI g, 40, .inl t1)), (msz, .inl (gI g, 40, .inl t2)), (mvl, .inl (gI g, 40, .inl t3))] H := hP
                      have hD : va_D A [(mcd, .inl (gI g, 600, .inl cdf)), (mcs, .inl (gI g, 600, .inl (upd csf (wn st) (-1)))), (mkn, .inl (gC g, 32, .inl kf)), (m0, .inr (8, [.ref mtt, .int tk9, .int sz9, .int pl9, .int (nI (wn st)), .ref mcd, .int (nI (sn st1)), .ref mat, .ref msz, .ref mvl, .ref mcs, .ref mmm, .int ra, .int rd, .int nx9, .int dn, .ref mkn, .ref mjp, .ref mds])), (mtt, .inl (gI g, 2000, .inl tf)), (mat, .inl (gI g, 40, .inl t1)), (msz, .inl (gI g, 40, .inl t2)), (mvl, .inl (gI g, 40, .inl t3))] := hD
                      obtain ⟨⟨cs, hsy, er34⟩, hSR1⟩ := hw
                      have hsy : syO tx st (a) (cn) = (cs, st1) := hsy
                      have hSR1 : SR st1 t1 t2 t3 := hSR1
                      have hst1 : st1.1 = st.1 := by have h := syO_fst (tx := tx) (st := st) (a := a) (n := cn); rw [hsy] at h; exact h
                      have hcs := syO_le (tx := tx) (a := a) (n := cn) h40
                      rw [hsy] at hcs
                      have hcs1 : cs ≤ sn st1 := hcs.1
                      have hcs2 : sn st1 ≤ 40 := hcs.2
                      have hSB1 : SB n st1 := by have h := SB_O (tx := tx) (a := a) (c := cn) hSB (by omega); rw [hsy] at h; exact h
                      subst er34
                      have hwn1 : wn st1 = wn st := by show st1.1.1 = st.1.1; rw [hst1]
                      refine va_iast hx hb hK hP hD hS 1 1 rfl rfl (i := (nI (wn st))) (x := (nI cs - 1)) (vp_in_nI (by omega) (by omega)) d_Mod_address_156 (fun H locs hP hD hS => ?_)
                      have hP : sdP g [(mcd, .inl (gI g, 600, .inl cdf)), (mcs, .inl (gI g, 600, .inl (upd (upd csf (wn st) (-1)) ((nI (wn st))).toNatClampNeg (nI cs - 1)))), (mkn, .inl (gC g, 32, .inl kf)), (m0, .inr (8, [.ref mtt, .int tk9, .int sz9, .int pl9, .int (nI (wn st)), .ref mcd, .int (nI (sn st1)), .ref mat, .ref msz, .ref mvl, .ref mcs, .ref mmm, .int ra, .int rd, .int nx9, .int dn, .ref mkn, .ref mjp, .ref mds])), (mtt, .inl (gI g, 2000, .inl tf)), (mat, .inl (gI g, 40, .inl t1)), (msz, .inl (gI g, 40, .inl t2)), (mvl, .inl (gI g, 40, .inl t3))] H := hP
                      have hD : va_D A [(mcd, .inl (gI g, 600, .inl cdf)), (mcs, .inl (gI g, 600, .inl (upd (upd csf (wn st) (-1)) ((nI (wn st))).toNatClampNeg (nI cs - 1)))), (mkn, .inl (gC g, 32, .inl kf)), (m0, .inr (8, [.ref mtt, .int tk9, .int sz9, .int pl9, .int (nI (wn st)), .ref mcd, .int (nI (sn st1)), .ref mat, .ref msz, .ref mvl, .ref mcs, .ref mmm, .int ra, .int rd, .int nx9, .int dn, .ref mkn, .ref mjp, .ref mds])), (mtt, .inl (gI g, 2000, .inl tf)), (mat, .inl (gI g, 40, .inl t1)), (msz, .inl (gI g, 40, .inl t2)), (mvl, .inl (gI g, 40, .inl t3))] := hD
                      have eF : (upd (upd csf (wn st) (-1)) ((nI (wn st))).toNatClampNeg (nI cs - 1)) = (upd csf (wn st) (nI cs - 1)) := by
                          rw [nI_clamp (by omega)]
                          funext j
                          by_cases q : j = wn st
                          · subst q; rw [pk_us, pk_us]
                          · rw [pk_un q, pk_un q, pk_un q]
                      rw [eF] at hP hD
                      refine lv_aload_n hx hb d_Mod_address_157 rfl (lv_at hl 3 rfl) ?_
                      refine va_get (D := g.1) (ci := 8) (v := .ref mcs) (C := "SignDeskModel") (T := F_Mod) (N := 19) hx hb hts in_Mod hown hK hP 3 rfl rfl 10 (by decide) (hts _ k_504) (fun _ h9 => h9) rfl d_Mod_address_158 ?_
                      refine lv_aload_n hx hb d_Mod_address_161 rfl (lv_at hl 3 rfl) ?_
                      refine va_get (D := g.1) (ci := 8) (v := .int (nI (wn st))) (C := "SignDeskModel") (T := F_Mod) (N := 19) hx hb hts in_Mod hown hK hP 3 rfl rfl 4 (by decide) (hts _ k_498) (fun _ h9 => h9) rfl d_Mod_address_162 ?_
                      refine va_iald hx hb hK hP 1 1 rfl rfl (i := (nI (wn st))) (vp_in_nI (by omega) (by omega)) d_Mod_address_165 ?_
                      refine sd_topi (y := nI cs - 1) (by rw [nI_clamp (by omega)]; exact pk_us) ?_
                      refine lv_iconst (v := (-1)) hx hb d_Mod_address_166 (by decide) ?_
                      refine lv_icmp_ne (tgt := 172) hx hb d_Mod_address_167 (by decide) (fun c35 => ?_) (fun c35 => ?_)
                      · have hc0 : ¬ cs = 0 := fun q => c35 (by rw [q]; decide)
                        refine lv_aload_n hx hb d_Mod_address_172 rfl (lv_at hl 3 rfl) ?_
                        refine va_get (D := g.1) (ci := 8) (v := .ref mcd) (C := "SignDeskModel") (T := F_Mod) (N := 19) hx hb hts in_Mod hown hK hP 3 rfl rfl 5 (by decide) (hts _ k_499) (fun _ h9 => h9) rfl d_Mod_address_173 ?_
                        refine lv_aload_n hx hb d_Mod_address_176 rfl (lv_at hl 3 rfl) ?_
                        refine va_get (D := g.1) (ci := 8) (v := .int (nI (wn st))) (C := "SignDeskModel") (T := F_Mod) (N := 19) hx hb hts in_Mod hown hK hP 3 rfl rfl 4 (by decide) (hts _ k_498) (fun _ h9 => h9) rfl d_Mod_address_177 ?_
                        refine lv_iload hx hb d_Mod_address_180 (lv_at hl 0 rfl) ?_
                        refine lv_iconst (v := (-1)) hx hb d_Mod_address_182 (by decide) ?_
                        refine lv_icmp_ne (tgt := 190) hx hb d_Mod_address_183 (by decide) (fun c36 => ?_) (fun c36 => ?_)
                        · exact absurd c32 c36
                        · refine lv_iconst (v := (nI 0)) hx hb d_Mod_address_186 (by decide) ?_
                          refine lv_goto (tgt := 192) hx hb d_Mod_address_187 (by decide) ?_
                          refine va_iast hx hb hK hP hD hS 0 1 rfl rfl (i := (nI (wn st))) (x := (nI 0)) (vp_in_nI (by omega) (by omega)) d_Mod_address_192 (fun H locs hP hD hS => ?_)
                          have hP : sdP g [(mcd, .inl (gI g, 600, .inl (upd cdf ((nI (wn st))).toNatClampNeg (nI 0)))), (mcs, .inl (gI g, 600, .inl (upd csf (wn st) (nI cs - 1)))), (mkn, .inl (gC g, 32, .inl kf)), (m0, .inr (8, [.ref mtt, .int tk9, .int sz9, .int pl9, .int (nI (wn st)), .ref mcd, .int (nI (sn st1)), .ref mat, .ref msz, .ref mvl, .ref mcs, .ref mmm, .int ra, .int rd, .int nx9, .int dn, .ref mkn, .ref mjp, .ref mds])), (mtt, .inl (gI g, 2000, .inl tf)), (mat, .inl (gI g, 40, .inl t1)), (msz, .inl (gI g, 40, .inl t2)), (mvl, .inl (gI g, 40, .inl t3))] H := hP
                          have hD : va_D A [(mcd, .inl (gI g, 600, .inl (upd cdf ((nI (wn st))).toNatClampNeg (nI 0)))), (mcs, .inl (gI g, 600, .inl (upd csf (wn st) (nI cs - 1)))), (mkn, .inl (gC g, 32, .inl kf)), (m0, .inr (8, [.ref mtt, .int tk9, .int sz9, .int pl9, .int (nI (wn st)), .ref mcd, .int (nI (sn st1)), .ref mat, .ref msz, .ref mvl, .ref mcs, .ref mmm, .int ra, .int rd, .int nx9, .int dn, .ref mkn, .ref mjp, .ref mds])), (mtt, .inl (gI g, 2000, .inl tf)), (mat, .inl (gI g, 40, .inl t1)), (msz, .inl (gI g, 40, .inl t2)), (mvl, .inl (gI g, 40, .inl t3))] := hD
                          have eF : (upd cdf ((nI (wn st))).toNatClampNeg (nI 0)) = (upd cdf (wn st) (nI 0)) := by rw [nI_clamp (by omega)]
                          rw [eF] at hP hD
                          refine lv_aload_n hx hb d_Mod_address_193 rfl (lv_at hl 3 rfl) ?_
                          refine lv_aload_n hx hb d_Mod_address_194 rfl (lv_at hl 3 rfl) ?_
                          refine va_get (D := g.1) (ci := 8) (v := .int (nI (wn st))) (C := "SignDeskModel") (T := F_Mod) (N := 19) hx hb hts in_Mod hown hK hP 3 rfl rfl 4 (by decide) (hts _ k_498) (fun _ h9 => h9) rfl d_Mod_address_195 ?_
                          refine lv_iconst (v := (nI 1)) hx hb d_Mod_address_198 (by decide) ?_
                          refine lv_iadd hx hb d_Mod_address_199 ?_
                          refine sd_topi (y := nI ((wn st) + 1)) (nI_add _ _) ?_
                          refine va_put (D := g.1) (ci := 8) (v := .int (nI ((wn st) + 1))) (ty := .int) (C := "SignDeskModel") (T := F_Mod) (N := 19) hx hb hts in_Mod t_Mod t_Mod_ok n_Mod hown hK hP hD hS 3 rfl rfl 4 (by decide) (hts _ k_498) (fun _ h9 => h9) rfl (by decide +kernel) rfl rfl (Nat.le_of_ble_eq_true rfl) d_Mod_address_200 (fun H locs hP hD hS => ?_)
                          have hP : sdP g [(mcd, .inl (gI g, 600, .inl (upd cdf (wn st) (nI 0)))), (mcs, .inl (gI g, 600, .inl (upd csf (wn st) (nI cs - 1)))), (mkn, .inl (gC g, 32, .inl kf)), (m0, .inr (8, [.ref mtt, .int tk9, .int sz9, .int pl9, .int (nI ((wn st) + 1)), .ref mcd, .int (nI (sn st1)), .ref mat, .ref msz, .ref mvl, .ref mcs, .ref mmm, .int ra, .int rd, .int nx9, .int dn, .ref mkn, .ref mjp, .ref mds])), (mtt, .inl (gI g, 2000, .inl tf)), (mat, .inl (gI g, 40, .inl t1)), (msz, .inl (gI g, 40, .inl t2)), (mvl, .inl (gI g, 40, .inl t3))] H := hP
                          have hD : va_D A [(mcd, .inl (gI g, 600, .inl (upd cdf (wn st) (nI 0)))), (mcs, .inl (gI g, 600, .inl (upd csf (wn st) (nI cs - 1)))), (mkn, .inl (gC g, 32, .inl kf)), (m0, .inr (8, [.ref mtt, .int tk9, .int sz9, .int pl9, .int (nI ((wn st) + 1)), .ref mcd, .int (nI (sn st1)), .ref mat, .ref msz, .ref mvl, .ref mcs, .ref mmm, .int ra, .int rd, .int nx9, .int dn, .ref mkn, .ref mjp, .ref mds])), (mtt, .inl (gI g, 2000, .inl tf)), (mat, .inl (gI g, 40, .inl t1)), (msz, .inl (gI g, 40, .inl t2)), (mvl, .inl (gI g, 40, .inl t3))] := hD
                          refine lv_iconst (v := (nI 0)) hx hb d_Mod_address_203 (by decide) ?_
                          have hMP1 : MPR (pushW st1 0 cs) (upd cdf (wn st) (nI 0)) (upd csf (wn st) (nI cs - 1)) := by
                            have h := MPR_push (c := 0) (y := cs) (MPR_of hMP hst1) (by omega)
                            rw [hwn1] at h; exact h
                          have hP : sdP g [(mcd, .inl (gI g, 600, .inl (upd cdf (wn st) (nI 0)))), (mcs, .inl (gI g, 600, .inl (upd csf (wn st) (nI cs - 1)))), (mkn, .inl (gC g, 32, .inl kf)), (m0, .inr (8, [.ref mtt, .int tk9, .int sz9, .int pl9, .int (nI (wn st1 + 1)), .ref mcd, .int (nI (sn st1)), .ref mat, .ref msz, .ref mvl, .ref mcs, .ref mmm, .int ra, .int rd, .int nx9, .int dn, .ref mkn, .ref mjp, .ref mds])), (mtt, .inl (gI g, 2000, .inl tf)), (mat, .inl (gI g, 40, .inl t1)), (msz, .inl (gI g, 40, .inl t2)), (mvl, .inl (gI g, 40, .inl t3))] H := by rw [hwn1]; exact hP
                          have hD : va_D A [(mcd, .inl (gI g, 600, .inl (upd cdf (wn st) (nI 0)))), (mcs, .inl (gI g, 600, .inl (upd csf (wn st) (nI cs - 1)))), (mkn, .inl (gC g, 32, .inl kf)), (m0, .inr (8, [.ref mtt, .int tk9, .int sz9, .int pl9, .int (nI (wn st1 + 1)), .ref mcd, .int (nI (sn st1)), .ref mat, .ref msz, .ref mvl, .ref mcs, .ref mmm, .int ra, .int rd, .int nx9, .int dn, .ref mkn, .ref mjp, .ref mds])), (mtt, .inl (gI g, 2000, .inl tf)), (mat, .inl (gI g, 40, .inl t1)), (msz, .inl (gI g, 40, .inl t2)), (mvl, .inl (gI g, 40, .inl t3))] := by rw [hwn1]; exact hD
                          have hP9 := hP.sub (ws' := [(m0, .inr (8, [.ref mtt, .int tk9, .int sz9, .int pl9, .int (nI (wn st1 + 1)), .ref mcd, .int (nI (sn st1)), .ref mat, .ref msz, .ref mvl, .ref mcs, .ref mmm, .int ra, .int rd, .int nx9, .int dn, .ref mkn, .ref mjp, .ref mds])), (mtt, .inl (gI g, 2000, .inl tf)), (mcd, .inl (gI g, 600, .inl (upd cdf (wn st) (nI 0)))), (mat, .inl (gI g, 40, .inl t1)), (msz, .inl (gI g, 40, .inl t2)), (mvl, .inl (gI g, 40, .inl t3)), (mcs, .inl (gI g, 600, .inl (upd csf (wn st) (nI cs - 1)))), (mkn, .inl (gC g, 32, .inl kf))]) [3, 4, 0, 5, 6, 7, 1, 2] rfl
                          have hD9 := hD.sub (ws' := [(m0, .inr (8, [.ref mtt, .int tk9, .int sz9, .int pl9, .int (nI (wn st1 + 1)), .ref mcd, .int (nI (sn st1)), .ref mat, .ref msz, .ref mvl, .ref mcs, .ref mmm, .int ra, .int rd, .int nx9, .int dn, .ref mkn, .ref mjp, .ref mds])), (mtt, .inl (gI g, 2000, .inl tf)), (mcd, .inl (gI g, 600, .inl (upd cdf (wn st) (nI 0)))), (mat, .inl (gI g, 40, .inl t1)), (msz, .inl (gI g, 40, .inl t2)), (mvl, .inl (gI g, 40, .inl t3)), (mcs, .inl (gI g, 600, .inl (upd csf (wn st) (nI cs - 1)))), (mkn, .inl (gC g, 32, .inl kf))]) [3, 4, 0, 5, 6, 7, 1, 2] (by decide) rfl
                          exact W.iret (v := (nI 0)) hx hb hr (fun t ht hW => ⟨⟨_, (pushW st1 0 cs, upd cdf (wn st) (nI 0), upd csf (wn st) (nI cs - 1), t1, t2, t3), rfl, ⟨⟨0, by rw [spAddr, cl_t c28, if_neg (by omega), if_pos hk0, hzz, hsy, if_neg hc0], rfl⟩, hMP1, hSR1, hSB1⟩, by rw [ht]; exact hP9, by rw [hAe]; exact hD9⟩, hS.F ht⟩) hS.2.2 d_Mod_address_204
                      · have hc0 : cs = 0 := (m1_iff (by omega)).mp c35
                        have hP : sdP g [(mcd, .inl (gI g, 600, .inl cdf)), (mcs, .inl (gI g, 600, .inl (upd csf (wn st) (nI cs - 1)))), (mkn, .inl (gC g, 32, .inl kf)), (m0, .inr (8, [.ref mtt, .int tk9, .int sz9, .int pl9, .int (nI (wn st1)), .ref mcd, .int (nI (sn st1)), .ref mat, .ref msz, .ref mvl, .ref mcs, .ref mmm, .int ra, .int rd, .int nx9, .int dn, .ref mkn, .ref mjp, .ref mds])), (mtt, .inl (gI g, 2000, .inl tf)), (mat, .inl (gI g, 40, .inl t1)), (msz, .inl (gI g, 40, .inl t2)), (mvl, .inl (gI g, 40, .inl t3))] H := by rw [hwn1]; exact hP
                        have hD : va_D A [(mcd, .inl (gI g, 600, .inl cdf)), (mcs, .inl (gI g, 600, .inl (upd csf (wn st) (nI cs - 1)))), (mkn, .inl (gC g, 32, .inl kf)), (m0, .inr (8, [.ref mtt, .int tk9, .int sz9, .int pl9, .int (nI (wn st1)), .ref mcd, .int (nI (sn st1)), .ref mat, .ref msz, .ref mvl, .ref mcs, .ref mmm, .int ra, .int rd, .int nx9, .int dn, .ref mkn, .ref mjp, .ref mds])), (mtt, .inl (gI g, 2000, .inl tf)), (mat, .inl (gI g, 40, .inl t1)), (msz, .inl (gI g, 40, .inl t2)), (mvl, .inl (gI g, 40, .inl t3))] := by rw [hwn1]; exact hD
                        refine lv_iconst (v := (nI 2)) hx hb d_Mod_address_170 (by decide) ?_
                        have hP9 := hP.sub (ws' := [(m0, .inr (8, [.ref mtt, .int tk9, .int sz9, .int pl9, .int (nI (wn st1)), .ref mcd, .int (nI (sn st1)), .ref mat, .ref msz, .ref mvl, .ref mcs, .ref mmm, .int ra, .int rd, .int nx9, .int dn, .ref mkn, .ref mjp, .ref mds])), (mtt, .inl (gI g, 2000, .inl tf)), (mcd, .inl (gI g, 600, .inl cdf)), (mat, .inl (gI g, 40, .inl t1)), (msz, .inl (gI g, 40, .inl t2)), (mvl, .inl (gI g, 40, .inl t3)), (mcs, .inl (gI g, 600, .inl (upd csf (wn st) (nI cs - 1)))), (mkn, .inl (gC g, 32, .inl kf))]) [3, 4, 0, 5, 6, 7, 1, 2] rfl
                        have hD9 := hD.sub (ws' := [(m0, .inr (8, [.ref mtt, .int tk9, .int sz9, .int pl9, .int (nI (wn st1)), .ref mcd, .int (nI (sn st1)), .ref mat, .ref msz, .ref mvl, .ref mcs, .ref mmm, .int ra, .int rd, .int nx9, .int dn, .ref mkn, .ref mjp, .ref mds])), (mtt, .inl (gI g, 2000, .inl tf)), (mcd, .inl (gI g, 600, .inl cdf)), (mat, .inl (gI g, 40, .inl t1)), (msz, .inl (gI g, 40, .inl t2)), (mvl, .inl (gI g, 40, .inl t3)), (mcs, .inl (gI g, 600, .inl (upd csf (wn st) (nI cs - 1)))), (mkn, .inl (gC g, 32, .inl kf))]) [3, 4, 0, 5, 6, 7, 1, 2] (by decide) rfl
                        exact W.iret (v := (nI 2)) hx hb hr (fun t ht hW => ⟨⟨_, (st1, cdf, upd csf (wn st) (nI cs - 1), t1, t2, t3), rfl, ⟨⟨2, by rw [spAddr, cl_t c28, if_neg (by omega), if_pos hk0, hzz, hsy, if_pos hc0], rfl⟩, MPR_of (MPR_cs hMP) hst1, hSR1, hSB1⟩, by rw [ht]; exact hP9, by rw [hAe]; exact hD9⟩, hS.F ht⟩) hS.2.2 d_Mod_address_171
                  · exact absurd rfl c30
                · have c29 := (nI_eq (by omega) (by omega)).mp c29
                  refine lv_iconst (v := (nI 2)) hx hb d_Mod_address_107 (by decide) ?_
                  have hP9 := hP.sub (ws' := [(m0, .inr (8, [.ref mtt, .int tk9, .int sz9, .int pl9, .int (nI (wn st)), .ref mcd, .int (nI (sn st)), .ref mat, .ref msz, .ref mvl, .ref mcs, .ref mmm, .int ra, .int rd, .int nx9, .int dn, .ref mkn, .ref mjp, .ref mds])), (mtt, .inl (gI g, 2000, .inl tf)), (mcd, .inl (gI g, 600, .inl cdf)), (mat, .inl (gI g, 40, .inl s1)), (msz, .inl (gI g, 40, .inl s2)), (mvl, .inl (gI g, 40, .inl s3)), (mcs, .inl (gI g, 600, .inl csf)), (mkn, .inl (gC g, 32, .inl kf))]) [0, 1, 2, 3, 4, 5, 6, 7] rfl
                  have hD9 := hD.sub (ws' := [(m0, .inr (8, [.ref mtt, .int tk9, .int sz9, .int pl9, .int (nI (wn st)), .ref mcd, .int (nI (sn st)), .ref mat, .ref msz, .ref mvl, .ref mcs, .ref mmm, .int ra, .int rd, .int nx9, .int dn, .ref mkn, .ref mjp, .ref mds])), (mtt, .inl (gI g, 2000, .inl tf)), (mcd, .inl (gI g, 600, .inl cdf)), (mat, .inl (gI g, 40, .inl s1)), (msz, .inl (gI g, 40, .inl s2)), (mvl, .inl (gI g, 40, .inl s3)), (mcs, .inl (gI g, 600, .inl csf)), (mkn, .inl (gC g, 32, .inl kf))]) [0, 1, 2, 3, 4, 5, 6, 7] (by decide) rfl
                  exact W.iret (v := (nI 2)) hx hb hr (fun t ht hW => ⟨⟨_, (st, cdf, csf, s1, s2, s3), rfl, ⟨⟨2, by rw [spAddr, cl_t c28, if_pos (by omega)], rfl⟩, hMP, hSR, hSB⟩, by rw [ht]; exact hP9, by rw [hAe]; exact hD9⟩, hS.F ht⟩) hS.2.2 d_Mod_address_108
              · have c28 := sb_eq0.mp c28
                refine lv_iconst (v := (nI 1)) hx hb d_Mod_address_95 (by decide) ?_
                have hP9 := hP.sub (ws' := [(m0, .inr (8, [.ref mtt, .int tk9, .int sz9, .int pl9, .int (nI (wn st)), .ref mcd, .int (nI (sn st)), .ref mat, .ref msz, .ref mvl, .ref mcs, .ref mmm, .int ra, .int rd, .int nx9, .int dn, .ref mkn, .ref mjp, .ref mds])), (mtt, .inl (gI g, 2000, .inl tf)), (mcd, .inl (gI g, 600, .inl cdf)), (mat, .inl (gI g, 40, .inl s1)), (msz, .inl (gI g, 40, .inl s2)), (mvl, .inl (gI g, 40, .inl s3)), (mcs, .inl (gI g, 600, .inl csf)), (mkn, .inl (gC g, 32, .inl kf))]) [0, 1, 2, 3, 4, 5, 6, 7] rfl
                have hD9 := hD.sub (ws' := [(m0, .inr (8, [.ref mtt, .int tk9, .int sz9, .int pl9, .int (nI (wn st)), .ref mcd, .int (nI (sn st)), .ref mat, .ref msz, .ref mvl, .ref mcs, .ref mmm, .int ra, .int rd, .int nx9, .int dn, .ref mkn, .ref mjp, .ref mds])), (mtt, .inl (gI g, 2000, .inl tf)), (mcd, .inl (gI g, 600, .inl cdf)), (mat, .inl (gI g, 40, .inl s1)), (msz, .inl (gI g, 40, .inl s2)), (mvl, .inl (gI g, 40, .inl s3)), (mcs, .inl (gI g, 600, .inl csf)), (mkn, .inl (gC g, 32, .inl kf))]) [0, 1, 2, 3, 4, 5, 6, 7] (by decide) rfl
                exact W.iret (v := (nI 1)) hx hb hr (fun t ht hW => ⟨⟨_, (st, cdf, csf, s1, s2, s3), rfl, ⟨⟨1, by rw [spAddr, cl_f c28, cl_f hnn], rfl⟩, hMP, hSR, hSB⟩, by rw [ht]; exact hP9, by rw [hAe]; exact hD9⟩, hS.F ht⟩) hS.2.2 d_Mod_address_96
          · exact absurd rfl c25
        · exact absurd rfl c24
  · have h0 : 0 < cn := by have := mt (nI_leI (b := 0) (by omega) (by omega)).mpr c1; omega
    refine lv_iload_n hx hb d_Mod_address_4 rfl (lv_at hl 2 rfl) ?_
    refine lv_iconst (v := (nI 5)) hx hb d_Mod_address_5 (by decide) ?_
    refine lv_icmp_gt (tgt := 13) hx hb d_Mod_address_6 (by decide) (fun c37 => ?_) (fun c37 => ?_)
    · have c37 := (nI_ltI (by omega) (by omega)).mp c37
      refine lv_iconst (v := (nI 0)) hx hb d_Mod_address_13 (by decide) ?_
      refine lv_istore_n (lv' := [(3, .int (nI 0)), (0, .ref m0), (1, .int (nI a)), (2, .int (nI cn))]) hx hb d_Mod_address_14 rfl hl (by decide) rfl (fun ls hl => ?_)
      refine lv_iconst (v := (nI 0)) hx hb d_Mod_address_15 (by decide) ?_
      refine lv_istore (lv' := [(4, .int (nI 0)), (3, .int (nI 0)), (0, .ref m0), (1, .int (nI a)), (2, .int (nI cn))]) hx hb d_Mod_address_16 hl (by decide) rfl (fun ls hl => ?_)
      refine lv_iconst (v := (nI 0)) hx hb d_Mod_address_18 (by decide) ?_
      refine lv_istore (lv' := [(5, .int (nI 0)), (4, .int (nI 0)), (3, .int (nI 0)), (0, .ref m0), (1, .int (nI a)), (2, .int (nI cn))]) hx hb d_Mod_address_19 hl (by decide) rfl (fun ls hl => ?_)
      refine sd_loopr (fun (x : Nat × Int32 × Int32) ls => match x with | (k, d3, v9) => lv_has ls 6 [(5, .int (nI k)), (3, .int d3), (4, .int v9), (0, .ref m0), (1, .int (nI a)), (2, .int (nI cn))] ∧ (k ≤ cn) ∧ ((d3 = nI 1 ∧ 0 < cn ∧ cn ≤ 5 ∧ (∀ j, j < k → isDg (tx (a + j))) ∧ v9 = nI (nV tx a k)) ∨ (d3 = nI 0 ∧ ¬ (0 < cn ∧ cn ≤ 5 ∧ ∀ j, j < cn → isDg (tx (a + j)))))) (fun (x : Nat × Int32 × Int32) => match x with | (k, d3, v9) => cn - k) 21 [] (fun x ls hI ih => ?_) (0, nI 0, nI 0) ⟨lv_sub hl [0, 2, 1, 3, 4, 5] rfl, Nat.zero_le _, Or.inr ⟨rfl, fun q => absurd q.2.1 (by omega)⟩⟩
      obtain ⟨k, d3, v9⟩ := x
      obtain ⟨hl, h1, h2⟩ := hI
      refine lv_iload hx hb d_Mod_address_21 (lv_at hl 0 rfl) ?_
      refine lv_iload_n hx hb d_Mod_address_23 rfl (lv_at hl 5 rfl) ?_
      refine lv_icmp_ge (tgt := 70) hx hb d_Mod_address_24 (by decide) (fun c38 => ?_) (fun c38 => ?_)
      · have c38 := (nI_leI (by omega) (by omega)).mp c38
        rcases h2 with h2 | h2
        · have ek : k = cn := by omega
          subst ek
          obtain ⟨rfl, g1, g2, g3, rfl⟩ := h2
          refine lv_iload_n hx hb d_Mod_address_70 rfl (lv_at hl 1 rfl) ?_
          have g4 : nV tx a k < 10 ^ k := nV_lt (fun j h5 h6 => by have := g3 (j - a) (by omega); rw [show a + (j - a) = j by omega] at this; exact this)
          have g5 : (10 : Nat) ^ k ≤ 10 ^ 5 := Nat.pow_le_pow_right (by decide) (by omega)
          have hns : ¬ syP tx a (a + k) := fun q => q.2.2.1 (g3 0 (by omega))
          have hzz : a + k - a = k := by omega
          refine lv_if_eq (tgt := 82) hx hb d_Mod_address_71 (by decide) (fun c39 => ?_) (fun c39 => ?_)
          · exact absurd c39 (by decide)
          · refine lv_iload hx hb d_Mod_address_74 (lv_at hl 2 rfl) ?_
            refine lv_sipush (v := (nI 32767)) hx hb d_Mod_address_76 (by decide) ?_
            refine lv_icmp_gt (tgt := 95) hx hb d_Mod_address_79 (by decide) (fun c40 => ?_) (fun c40 => ?_)
            · have c40 := (nI_ltI (by omega) (by omega)).mp c40
              refine lv_iconst (v := (nI 1)) hx hb d_Mod_address_95 (by decide) ?_
              have hP9 := hP.sub (ws' := [(m0, .inr (8, [.ref mtt, .int tk9, .int sz9, .int pl9, .int (nI (wn st)), .ref mcd, .int (nI (sn st)), .ref mat, .ref msz, .ref mvl, .ref mcs, .ref mmm, .int ra, .int rd, .int nx9, .int dn, .ref mkn, .ref mjp, .ref mds])), (mtt, .inl (gI g, 2000, .inl tf)), (mcd, .inl (gI g, 600, .inl cdf)), (mat, .inl (gI g, 40, .inl s1)), (msz, .inl (gI g, 40, .inl s2)), (mvl, .inl (gI g, 40, .inl s3)), (mcs, .inl (gI g, 600, .inl csf)), (mkn, .inl (gC g, 32, .inl kf))]) [0, 1, 2, 3, 4, 5, 6, 7] rfl
              have hD9 := hD.sub (ws' := [(m0, .inr (8, [.ref mtt, .int tk9, .int sz9, .int pl9, .int (nI (wn st)), .ref mcd, .int (nI (sn st)), .ref mat, .ref msz, .ref mvl, .ref mcs, .ref mmm, .int ra, .int rd, .int nx9, .int dn, .ref mkn, .ref mjp, .ref mds])), (mtt, .inl (gI g, 2000, .inl tf)), (mcd, .inl (gI g, 600, .inl cdf)), (mat, .inl (gI g, 40, .inl s1)), (msz, .inl (gI g, 40, .inl s2)), (mvl, .inl (gI g, 40, .inl s3)), (mcs, .inl (gI g, 600, .inl csf)), (mkn, .inl (gC g, 32, .inl kf))]) [0, 1, 2, 3, 4, 5, 6, 7] (by decide) rfl
              exact W.iret (v := (nI 1)) hx hb hr (fun t ht hW => ⟨⟨_, (st, cdf, csf, s1, s2, s3), rfl, ⟨⟨1, by rw [spAddr, cl_f hns, cl_f (fun q => absurd q.2.2.2 (by rw [hzz]; omega))], rfl⟩, hMP, hSR, hSB⟩, by rw [ht]; exact hP9, by rw [hAe]; exact hD9⟩, hS.F ht⟩) hS.2.2 d_Mod_address_96
            · have c40 := mt (nI_ltI (by omega) (by omega)).mpr c40
              have hnu : nuP tx a (a + k) := ⟨by omega, by omega, fun j h5 h6 => by have := g3 (j - a) (by omega); rw [show a + (j - a) = j by omega] at this; exact this, by rw [hzz]; omega⟩
              refine lv_iload_n hx hb d_Mod_address_82 rfl (lv_at hl 1 rfl) ?_
              refine lv_if_ne (tgt := 97) hx hb d_Mod_address_83 (by decide) (fun c41 => ?_) (fun c41 => ?_)
              · refine lv_aload_n hx hb d_Mod_address_97 rfl (lv_at hl 3 rfl) ?_
                refine va_get (D := g.1) (ci := 8) (v := .int (nI (wn st))) (C := "SignDeskModel") (T := F_Mod) (N := 19) hx hb hts in_Mod hown hK hP 0 rfl rfl 4 (by decide) (hts _ k_498) (fun _ h9 => h9) rfl d_Mod_address_98 ?_
                refine lv_sipush (v := (nI 600)) hx hb d_Mod_address_101 (by decide) ?_
                refine lv_icmp_ne (tgt := 109) hx hb d_Mod_address_104 (by decide) (fun c42 => ?_) (fun c42 => ?_)
                · have c42 := mt (nI_eq (by omega) (by omega)).mpr c42
                  refine lv_aload_n hx hb d_Mod_address_109 rfl (lv_at hl 3 rfl) ?_
                  refine va_get (D := g.1) (ci := 8) (v := .ref mcs) (C := "SignDeskModel") (T := F_Mod) (N := 19) hx hb hts in_Mod hown hK hP 0 rfl rfl 10 (by decide) (hts _ k_504) (fun _ h9 => h9) rfl d_Mod_address_110 ?_
                  refine lv_aload_n hx hb d_Mod_address_113 rfl (lv_at hl 3 rfl) ?_
                  refine va_get (D := g.1) (ci := 8) (v := .int (nI (wn st))) (C := "SignDeskModel") (T := F_Mod) (N := 19) hx hb hts in_Mod hown hK hP 0 rfl rfl 4 (by decide) (hts _ k_498) (fun _ h9 => h9) rfl d_Mod_address_114 ?_
                  refine lv_iconst (v := (-1)) hx hb d_Mod_address_117 (by decide) ?_
                  refine va_iast hx hb hK hP hD hS 6 1 rfl rfl (i := (nI (wn st))) (x := (-1)) (vp_in_nI (by omega) (by omega)) d_Mod_address_118 (fun H locs hP hD hS => ?_)
                  have hP : sdP g [(m0, .inr (8, [.ref mtt, .int tk9, .int sz9, .int pl9, .int (nI (wn st)), .ref mcd, .int (nI (sn st)), .ref mat, .ref msz, .ref mvl, .ref mcs, .ref mmm, .int ra, .int rd, .int nx9, .int dn, .ref mkn, .ref mjp, .ref mds])), (mtt, .inl (gI g, 2000, .inl tf)), (mcd, .inl (gI g, 600, .inl cdf)), (mat, .inl (gI g, 40, .inl s1)), (msz, .inl (gI g, 40, .inl s2)), (mvl, .inl (gI g, 40, .inl s3)), (mcs, .inl (gI g, 600, .inl (upd csf ((nI (wn st))).toNatClampNeg (-1)))), (mkn, .inl (gC g, 32, .inl kf))] H := hP
                  have hD : va_D A [(m0, .inr (8, [.ref mtt, .int tk9, .int sz9, .int pl9, .int (nI (wn st)), .ref mcd, .int (nI (sn st)), .ref mat, .ref msz, .ref mvl, .ref mcs, .ref mmm, .int ra, .int rd, .int nx9, .int dn, .ref mkn, .ref mjp, .ref mds])), (mtt, .inl (gI g, 2000, .inl tf)), (mcd, .inl (gI g, 600, .inl cdf)), (mat, .inl (gI g, 40, .inl s1)), (msz, .inl (gI g, 40, .inl s2)), (mvl, .inl (gI g, 40, .inl s3)), (mcs, .inl (gI g, 600, .inl (upd csf ((nI (wn st))).toNatClampNeg (-1)))), (mkn, .inl (gC g, 32, .inl kf))] := hD
                  have eF : (upd csf ((nI (wn st))).toNatClampNeg (-1)) = (upd csf (wn st) (-1)) := by rw [nI_clamp (by omega)]
                  rw [eF] at hP hD
                  refine lv_iload_n hx hb d_Mod_address_119 rfl (lv_at hl 1 rfl) ?_
                  refine lv_if_eq (tgt := 128) hx hb d_Mod_address_120 (by decide) (fun c43 => ?_) (fun c43 => ?_)
                  · exact absurd c43 (by decide)
                  · refine lv_iload hx hb d_Mod_address_123 (lv_at hl 2 rfl) ?_
                    refine lv_goto (tgt := 134) hx hb d_Mod_address_125 (by decide) ?_
                    refine lv_istore (lv' := [(5, .int (nI (nV tx a k))), (3, .int (nI 1)), (4, .int (nI (nV tx a k))), (0, .ref m0), (1, .int (nI a)), (2, .int (nI k))]) hx hb d_Mod_address_134 hl (by decide) rfl (fun ls hl => ?_)
                    refine lv_iload hx hb d_Mod_address_136 (lv_at hl 0 rfl) ?_
                    refine lv_iconst (v := (-1)) hx hb d_Mod_address_138 (by decide) ?_
                    refine lv_icmp_ne (tgt := 172) hx hb d_Mod_address_139 (by decide) (fun c44 => ?_) (fun c44 => ?_)
                    · refine lv_aload_n hx hb d_Mod_address_172 rfl (lv_at hl 3 rfl) ?_
                      refine va_get (D := g.1) (ci := 8) (v := .ref mcd) (C := "SignDeskModel") (T := F_Mod) (N := 19) hx hb hts in_Mod hown hK hP 0 rfl rfl 5 (by decide) (hts _ k_499) (fun _ h9 => h9) rfl d_Mod_address_173 ?_
                      refine lv_aload_n hx hb d_Mod_address_176 rfl (lv_at hl 3 rfl) ?_
                      refine va_get (D := g.1) (ci := 8) (v := .int (nI (wn st))) (C := "SignDeskModel") (T := F_Mod) (N := 19) hx hb hts in_Mod hown hK hP 0 rfl rfl 4 (by decide) (hts _ k_498) (fun _ h9 => h9) rfl d_Mod_address_177 ?_
                      refine lv_iload hx hb d_Mod_address_180 (lv_at hl 0 rfl) ?_
                      refine lv_iconst (v := (-1)) hx hb d_Mod_address_182 (by decide) ?_
                      refine lv_icmp_ne (tgt := 190) hx hb d_Mod_address_183 (by decide) (fun c45 => ?_) (fun c45 => ?_)
                      · refine lv_iload hx hb d_Mod_address_190 (lv_at hl 0 rfl) ?_
                        refine va_iast hx hb hK hP hD hS 2 1 rfl rfl (i := (nI (wn st))) (x := (nI (nV tx a k))) (vp_in_nI (by omega) (by omega)) d_Mod_address_192 (fun H locs hP hD hS => ?_)
                        have hP : sdP g [(m0, .inr (8, [.ref mtt, .int tk9, .int sz9, .int pl9, .int (nI (wn st)), .ref mcd, .int (nI (sn st)), .ref mat, .ref msz, .ref mvl, .ref mcs, .ref mmm, .int ra, .int rd, .int nx9, .int dn, .ref mkn, .ref mjp, .ref mds])), (mtt, .inl (gI g, 2000, .inl tf)), (mcd, .inl (gI g, 600, .inl (upd cdf ((nI (wn st))).toNatClampNeg (nI (nV tx a k))))), (mat, .inl (gI g, 40, .inl s1)), (msz, .inl (gI g, 40, .inl s2)), (mvl, .inl (gI g, 40, .inl s3)), (mcs, .inl (gI g, 600, .inl (upd csf (wn st) (-1)))), (mkn, .inl (gC g, 32, .inl kf))] H := hP
                        have hD : va_D A [(m0, .inr (8, [.ref mtt, .int tk9, .int sz9, .int pl9, .int (nI (wn st)), .ref mcd, .int (nI (sn st)), .ref mat, .ref msz, .ref mvl, .ref mcs, .ref mmm, .int ra, .int rd, .int nx9, .int dn, .ref mkn, .ref mjp, .ref mds])), (mtt, .inl (gI g, 2000, .inl tf)), (mcd, .inl (gI g, 600, .inl (upd cdf ((nI (wn st))).toNatClampNeg (nI (nV tx a k))))), (mat, .inl (gI g, 40, .inl s1)), (msz, .inl (gI g, 40, .inl s2)), (mvl, .inl (gI g, 40, .inl s3)), (mcs, .inl (gI g, 600, .inl (upd csf (wn st) (-1)))), (mkn, .inl (gC g, 32, .inl kf))] := hD
                        have eF : (upd cdf ((nI (wn st))).toNatClampNeg (nI (nV tx a k))) = (upd cdf (wn st) (nI (nV tx a k))) := by rw [nI_clamp (by omega)]
                        rw [eF] at hP hD
                        refine lv_aload_n hx hb d_Mod_address_193 rfl (lv_at hl 3 rfl) ?_
                        refine lv_aload_n hx hb d_Mod_address_194 rfl (lv_at hl 3 rfl) ?_
                        refine va_get (D := g.1) (ci := 8) (v := .int (nI (wn st))) (C := "SignDeskModel") (T := F_Mod) (N := 19) hx hb hts in_Mod hown hK hP 0 rfl rfl 4 (by decide) (hts _ k_498) (fun _ h9 => h9) rfl d_Mod_address_195 ?_
                        refine lv_iconst (v := (nI 1)) hx hb d_Mod_address_198 (by decide) ?_
                        refine lv_iadd hx hb d_Mod_address_199 ?_
                        refine sd_topi (y := nI ((wn st) + 1)) (nI_add _ _) ?_
                        refine va_put (D := g.1) (ci := 8) (v := .int (nI ((wn st) + 1))) (ty := .int) (C := "SignDeskModel") (T := F_Mod) (N := 19) hx hb hts in_Mod t_Mod t_Mod_ok n_Mod hown hK hP hD hS 0 rfl rfl 4 (by decide) (hts _ k_498) (fun _ h9 => h9) rfl (by decide +kernel) rfl rfl (Nat.le_of_ble_eq_true rfl) d_Mod_address_200 (fun H locs hP hD hS => ?_)
                        have hP : sdP g [(m0, .inr (8, [.ref mtt, .int tk9, .int sz9, .int pl9, .int (nI ((wn st) + 1)), .ref mcd, .int (nI (sn st)), .ref mat, .ref msz, .ref mvl, .ref mcs, .ref mmm, .int ra, .int rd, .int nx9, .int dn, .ref mkn, .ref mjp, .ref mds])), (mtt, .inl (gI g, 2000, .inl tf)), (mcd, .inl (gI g, 600, .inl (upd cdf (wn st) (nI (nV tx a k))))), (mat, .inl (gI g, 40, .inl s1)), (msz, .inl (gI g, 40, .inl s2)), (mvl, .inl (gI g, 40, .inl s3)), (mcs, .inl (gI g, 600, .inl (upd csf (wn st) (-1)))), (mkn, .inl (gC g, 32, .inl kf))] H := hP
                        have hD : va_D A [(m0, .inr (8, [.ref mtt, .int tk9, .int sz9, .int pl9, .int (nI ((wn st) + 1)), .ref mcd, .int (nI (sn st)), .ref mat, .ref msz, .ref mvl, .ref mcs, .ref mmm, .int ra, .int rd, .int nx9, .int dn, .ref mkn, .ref mjp, .ref mds])), (mtt, .inl (gI g, 2000, .inl tf)), (mcd, .inl (gI g, 600, .inl (upd cdf (wn st) (nI (nV tx a k))))), (mat, .inl (gI g, 40, .inl s1)), (msz, .inl (gI g, 40, .inl s2)), (mvl, .inl (gI g, 40, .inl s3)), (mcs, .inl (gI g, 600, .inl (upd csf (wn st) (-1)))), (mkn, .inl (gC g, 32, .inl kf))] := hD
                        refine lv_iconst (v := (nI 0)) hx hb d_Mod_address_203 (by decide) ?_
                        have hP9 := hP.sub (ws' := [(m0, .inr (8, [.ref mtt, .int tk9, .int sz9, .int pl9, .int (nI ((wn st) + 1)), .ref mcd, .int (nI (sn st)), .ref mat, .ref msz, .ref mvl, .ref mcs, .ref mmm, .int ra, .int rd, .int nx9, .int dn, .ref mkn, .ref mjp, .ref mds])), (mtt, .inl (gI g, 2000, .inl tf)), (mcd, .inl (gI g, 600, .inl (upd cdf (wn st) (nI (nV tx a k))))), (mat, .inl (gI g, 40, .inl s1)), (msz, .inl (gI g, 40, .inl s2)), (mvl, .inl (gI g, 40, .inl s3)), (mcs, .inl (gI g, 600, .inl (upd csf (wn st) (-1)))), (mkn, .inl (gC g, 32, .inl kf))]) [0, 1, 2, 3, 4, 5, 6, 7] rfl
                        have hD9 := hD.sub (ws' := [(m0, .inr (8, [.ref mtt, .int tk9, .int sz9, .int pl9, .int (nI ((wn st) + 1)), .ref mcd, .int (nI (sn st)), .ref mat, .ref msz, .ref mvl, .ref mcs, .ref mmm, .int ra, .int rd, .int nx9, .int dn, .ref mkn, .ref mjp, .ref mds])), (mtt, .inl (gI g, 2000, .inl tf)), (mcd, .inl (gI g, 600, .inl (upd cdf (wn st) (nI (nV tx a k))))), (mat, .inl (gI g, 40, .inl s1)), (msz, .inl (gI g, 40, .inl s2)), (mvl, .inl (gI g, 40, .inl s3)), (mcs, .inl (gI g, 600, .inl (upd csf (wn st) (-1)))), (mkn, .inl (gC g, 32, .inl kf))]) [0, 1, 2, 3, 4, 5, 6, 7] (by decide) rfl
                        exact W.iret (v := (nI 0)) hx hb hr (fun t ht hW => ⟨⟨_, (pushW st (nV tx a k) 0, upd cdf (wn st) (nI (nV tx a k)), upd csf (wn st) (-1), s1, s2, s3), rfl, ⟨⟨0, by rw [spAddr, cl_f hns, cl_t hnu, if_neg (by omega), hzz], rfl⟩, MPR_push (y := 0) hMP (by omega), hSR, hSB⟩, by rw [ht]; exact hP9, by rw [hAe]; exact hD9⟩, hS.F ht⟩) hS.2.2 d_Mod_address_204
                      · exact absurd c45 (nI_m1 (by omega))
                    · exact absurd c44 (nI_m1 (by omega))
                · have c42 := (nI_eq (by omega) (by omega)).mp c42
                  refine lv_iconst (v := (nI 2)) hx hb d_Mod_address_107 (by decide) ?_
                  have hP9 := hP.sub (ws' := [(m0, .inr (8, [.ref mtt, .int tk9, .int sz9, .int pl9, .int (nI (wn st)), .ref mcd, .int (nI (sn st)), .ref mat, .ref msz, .ref mvl, .ref mcs, .ref mmm, .int ra, .int rd, .int nx9, .int dn, .ref mkn, .ref mjp, .ref mds])), (mtt, .inl (gI g, 2000, .inl tf)), (mcd, .inl (gI g, 600, .inl cdf)), (mat, .inl (gI g, 40, .inl s1)), (msz, .inl (gI g, 40, .inl s2)), (mvl, .inl (gI g, 40, .inl s3)), (mcs, .inl (gI g, 600, .inl csf)), (mkn, .inl (gC g, 32, .inl kf))]) [0, 1, 2, 3, 4, 5, 6, 7] rfl
                  have hD9 := hD.sub (ws' := [(m0, .inr (8, [.ref mtt, .int tk9, .int sz9, .int pl9, .int (nI (wn st)), .ref mcd, .int (nI (sn st)), .ref mat, .ref msz, .ref mvl, .ref mcs, .ref mmm, .int ra, .int rd, .int nx9, .int dn, .ref mkn, .ref mjp, .ref mds])), (mtt, .inl (gI g, 2000, .inl tf)), (mcd, .inl (gI g, 600, .inl cdf)), (mat, .inl (gI g, 40, .inl s1)), (msz, .inl (gI g, 40, .inl s2)), (mvl, .inl (gI g, 40, .inl s3)), (mcs, .inl (gI g, 600, .inl csf)), (mkn, .inl (gC g, 32, .inl kf))]) [0, 1, 2, 3, 4, 5, 6, 7] (by decide) rfl
                  exact W.iret (v := (nI 2)) hx hb hr (fun t ht hW => ⟨⟨_, (st, cdf, csf, s1, s2, s3), rfl, ⟨⟨2, by rw [spAddr, cl_f hns, cl_t hnu, if_pos (by omega)], rfl⟩, hMP, hSR, hSB⟩, by rw [ht]; exact hP9, by rw [hAe]; exact hD9⟩, hS.F ht⟩) hS.2.2 d_Mod_address_108
              · exact absurd c41 (by decide)
        · obtain ⟨rfl, g0⟩ := h2
          refine lv_iload_n hx hb d_Mod_address_70 rfl (lv_at hl 1 rfl) ?_
          have hnn : ¬ nuP tx a (a + cn) := fun q => g0 ⟨by have := q.1; omega, by have := q.2.1; omega, fun j hj => q.2.2.1 (a + j) (by omega) (by omega)⟩
          have hzz : a + cn - a = cn := by omega
          refine lv_if_eq (tgt := 82) hx hb d_Mod_address_71 (by decide) (fun c46 => ?_) (fun c46 => ?_)
          · refine lv_iload_n hx hb d_Mod_address_82 rfl (lv_at hl 1 rfl) ?_
            refine lv_if_ne (tgt := 97) hx hb d_Mod_address_83 (by decide) (fun c47 => ?_) (fun c47 => ?_)
            · exact absurd rfl c47
            · refine lv_aload_n hx hb d_Mod_address_86 rfl (lv_at hl 3 rfl) ?_
              refine lv_iload_n hx hb d_Mod_address_87 rfl (lv_at hl 4 rfl) ?_
              refine lv_iload_n hx hb d_Mod_address_88 rfl (lv_at hl 5 rfl) ?_
              refine sd_ri (va_runV (As := [.int (nI a), .int (nI cn)]) (rest := []) ⟨hx, hb, hml, hown, hts⟩ (c_Mod_isSymbol l g m0 mtt mcd mat msz mvl mcs mmm mkn mjp mds tk9 sz9 pl9 (nI (wn st)) (nI (sn st)) ra rd nx9 dn n tf tx hT a cn (by omega) (by omega) (fun _ => hac)) (cwV 2 hts (sd_gV k_584 k_586 k_13 k_30 k_587) rfl rfl rfl (by decide +kernel) ⟨Nat.le_of_ble_eq_true rfl, Nat.le_of_ble_eq_true rfl⟩) (sd_preV hK hE (sd_fr hS hA0) (hP.sub (ws' := [(m0, .inr (8, [.ref mtt, .int tk9, .int sz9, .int pl9, .int (nI (wn st)), .ref mcd, .int (nI (sn st)), .ref mat, .ref msz, .ref mvl, .ref mcs, .ref mmm, .int ra, .int rd, .int nx9, .int dn, .ref mkn, .ref mjp, .ref mds])), (mtt, .inl (gI g, 2000, .inl tf))]) [0, 1] rfl) rfl rfl) rfl rfl hl.1 rfl (lv_room (Nat.le_of_ble_eq_true rfl)) d_Mod_address_89 ⟨Nat.zero_le _, Nat.zero_le _⟩) (fun r48 er48 => ?_)
              subst er48
              refine lv_if_ne (tgt := 97) hx hb d_Mod_address_92 (by decide) (fun c49 => ?_) (fun c49 => ?_)
              · have c49 := sb_ne0.mp c49
                have hc1 : 1 ≤ cn := by have := c49.1; omega
                refine lv_aload_n hx hb d_Mod_address_97 rfl (lv_at hl 3 rfl) ?_
                refine va_get (D := g.1) (ci := 8) (v := .int (nI (wn st))) (C := "SignDeskModel") (T := F_Mod) (N := 19) hx hb hts in_Mod hown hK hP 0 rfl rfl 4 (by decide) (hts _ k_498) (fun _ h9 => h9) rfl d_Mod_address_98 ?_
                refine lv_sipush (v := (nI 600)) hx hb d_Mod_address_101 (by decide) ?_
                refine lv_icmp_ne (tgt := 109) hx hb d_Mod_address_104 (by decide) (fun c50 => ?_) (fun c50 => ?_)
                · have c50 := mt (nI_eq (by omega) (by omega)).mpr c50
                  refine lv_aload_n hx hb d_Mod_address_109 rfl (lv_at hl 3 rfl) ?_
                  refine va_get (D := g.1) (ci := 8) (v := .ref mcs) (C := "SignDeskModel") (T := F_Mod) (N := 19) hx hb hts in_Mod hown hK hP 0 rfl rfl 10 (by decide) (hts _ k_504) (fun _ h9 => h9) rfl d_Mod_address_110 ?_
                  refine lv_aload_n hx hb d_Mod_address_113 rfl (lv_at hl 3 rfl) ?_
                  refine va_get (D := g.1) (ci := 8) (v := .int (nI (wn st))) (C := "SignDeskModel") (T := F_Mod) (N := 19) hx hb hts in_Mod hown hK hP 0 rfl rfl 4 (by decide) (hts _ k_498) (fun _ h9 => h9) rfl d_Mod_address_114 ?_
                  refine lv_iconst (v := (-1)) hx hb d_Mod_address_117 (by decide) ?_
                  refine va_iast hx hb hK hP hD hS 6 1 rfl rfl (i := (nI (wn st))) (x := (-1)) (vp_in_nI (by omega) (by omega)) d_Mod_address_118 (fun H locs hP hD hS => ?_)
                  have hP : sdP g [(m0, .inr (8, [.ref mtt, .int tk9, .int sz9, .int pl9, .int (nI (wn st)), .ref mcd, .int (nI (sn st)), .ref mat, .ref msz, .ref mvl, .ref mcs, .ref mmm, .int ra, .int rd, .int nx9, .int dn, .ref mkn, .ref mjp, .ref mds])), (mtt, .inl (gI g, 2000, .inl tf)), (mcd, .inl (gI g, 600, .inl cdf)), (mat, .inl (gI g, 40, .inl s1)), (msz, .inl (gI g, 40, .inl s2)), (mvl, .inl (gI g, 40, .inl s3)), (mcs, .inl (gI g, 600, .inl (upd csf ((nI (wn st))).toNatClampNeg (-1)))), (mkn, .inl (gC g, 32, .inl kf))] H := hP
                  have hD : va_D A [(m0, .inr (8, [.ref mtt, .int tk9, .int sz9, .int pl9, .int (nI (wn st)), .ref mcd, .int (nI (sn st)), .ref mat, .ref msz, .ref mvl, .ref mcs, .ref mmm, .int ra, .int rd, .int nx9, .int dn, .ref mkn, .ref mjp, .ref mds])), (mtt, .inl (gI g, 2000, .inl tf)), (mcd, .inl (gI g, 600, .inl cdf)), (mat, .inl (gI g, 40, .inl s1)), (msz, .inl (gI g, 40, .inl s2)), (mvl, .inl (gI g, 40, .inl s3)), (mcs, .inl (gI g, 600, .inl (upd csf ((nI (wn st))).toNatClampNeg (-1)))), (mkn, .inl (gC g, 32, .inl kf))] := hD
                  have eF : (upd csf ((nI (wn st))).toNatClampNeg (-1)) = (upd csf (wn st) (-1)) := by rw [nI_clamp (by omega)]
                  rw [eF] at hP hD
                  refine lv_iload_n hx hb d_Mod_address_119 rfl (lv_at hl 1 rfl) ?_
                  refine lv_if_eq (tgt := 128) hx hb d_Mod_address_120 (by decide) (fun c51 => ?_) (fun c51 => ?_)
                  · refine lv_aload_n hx hb d_Mod_address_128 rfl (lv_at hl 3 rfl) ?_
                    refine lv_iload_n hx hb d_Mod_address_129 rfl (lv_at hl 4 rfl) ?_
                    refine lv_iload_n hx hb d_Mod_address_130 rfl (lv_at hl 5 rfl) ?_
                    refine sd_ri (va_runV (As := [.int (nI a), .int (nI cn)]) (rest := []) ⟨hx, hb, hml, hown, hts⟩ (c_Mod_knownOf l g m0 mtt mcd mat msz mvl mcs mmm mkn mjp mds tk9 sz9 pl9 (nI (wn st)) (nI (sn st)) ra rd nx9 dn kf hRk n tf tx hT a cn hc1 hac htk) (cwV 2 hts (sd_gV k_600 k_602 k_14 k_30 k_603) rfl rfl rfl (by decide +kernel) ⟨Nat.le_of_ble_eq_true rfl, Nat.le_of_ble_eq_true rfl⟩) (sd_preV hK hE (sd_fr hS hA0) (hP.sub (ws' := [(m0, .inr (8, [.ref mtt, .int tk9, .int sz9, .int pl9, .int (nI (wn st)), .ref mcd, .int (nI (sn st)), .ref mat, .ref msz, .ref mvl, .ref mcs, .ref mmm, .int ra, .int rd, .int nx9, .int dn, .ref mkn, .ref mjp, .ref mds])), (mtt, .inl (gI g, 2000, .inl tf)), (mkn, .inl (gC g, 32, .inl kf))]) [0, 1, 7] rfl) rfl rfl) rfl rfl hl.1 rfl (lv_room (Nat.le_of_ble_eq_true rfl)) d_Mod_address_131 ⟨Nat.zero_le _, Nat.zero_le _⟩) (fun r52 er52 => ?_)
                    subst er52
                    have hkn := knK_le (tx := tx) (a := a) (z := a + cn)
                    refine lv_istore (lv' := [(5, .int (nI (knK tx a (a + cn)) - 1)), (3, .int (nI 0)), (4, .int v9), (0, .ref m0), (1, .int (nI a)), (2, .int (nI cn))]) hx hb d_Mod_address_134 hl (by decide) rfl (fun ls hl => ?_)
                    refine lv_iload hx hb d_Mod_address_136 (lv_at hl 0 rfl) ?_
                    refine lv_iconst (v := (-1)) hx hb d_Mod_address_138 (by decide) ?_
                    refine lv_icmp_ne (tgt := 172) hx hb d_Mod_address_139 (by decide) (fun c53 => ?_) (fun c53 => ?_)
                    · have hk0 : ¬ knK tx a (a + cn) = 0 := fun q => c53 (by rw [q]; decide)
                      refine lv_aload_n hx hb d_Mod_address_172 rfl (lv_at hl 3 rfl) ?_
                      refine va_get (D := g.1) (ci := 8) (v := .ref mcd) (C := "SignDeskModel") (T := F_Mod) (N := 19) hx hb hts in_Mod hown hK hP 0 rfl rfl 5 (by decide) (hts _ k_499) (fun _ h9 => h9) rfl d_Mod_address_173 ?_
                      refine lv_aload_n hx hb d_Mod_address_176 rfl (lv_at hl 3 rfl) ?_
                      refine va_get (D := g.1) (ci := 8) (v := .int (nI (wn st))) (C := "SignDeskModel") (T := F_Mod) (N := 19) hx hb hts in_Mod hown hK hP 0 rfl rfl 4 (by decide) (hts _ k_498) (fun _ h9 => h9) rfl d_Mod_address_177 ?_
                      refine lv_iload hx hb d_Mod_address_180 (lv_at hl 0 rfl) ?_
                      refine lv_iconst (v := (-1)) hx hb d_Mod_address_182 (by decide) ?_
                      refine lv_icmp_ne (tgt := 190) hx hb d_Mod_address_183 (by decide) (fun c54 => ?_) (fun c54 => ?_)
                      · refine lv_iload hx hb d_Mod_address_190 (lv_at hl 0 rfl) ?_
                        refine sd_topi (y := nI (knK tx a (a + cn) - 1)) (m1_up hk0) ?_
                        refine va_iast hx hb hK hP hD hS 2 1 rfl rfl (i := (nI (wn st))) (x := (nI (knK tx a (a + cn) - 1))) (vp_in_nI (by omega) (by omega)) d_Mod_address_192 (fun H locs hP hD hS => ?_)
                        have hP : sdP g [(m0, .inr (8, [.ref mtt, .int tk9, .int sz9, .int pl9, .int (nI (wn st)), .ref mcd, .int (nI (sn st)), .ref mat, .ref msz, .ref mvl, .ref mcs, .ref mmm, .int ra, .int rd, .int nx9, .int dn, .ref mkn, .ref mjp, .ref mds])), (mtt, .inl (gI g, 2000, .inl tf)), (mcd, .inl (gI g, 600, .inl (upd cdf ((nI (wn st))).toNatClampNeg (nI (knK tx a (a + cn) - 1))))), (mat, .inl (gI g, 40, .inl s1)), (msz, .inl (gI g, 40, .inl s2)), (mvl, .inl (gI g, 40, .inl s3)), (mcs, .inl (gI g, 600, .inl (upd csf (wn st) (-1)))), (mkn, .inl (gC g, 32, .inl kf))] H := hP
                        have hD : va_D A [(m0, .inr (8, [.ref mtt, .int tk9, .int sz9, .int pl9, .int (nI (wn st)), .ref mcd, .int (nI (sn st)), .ref mat, .ref msz, .ref mvl, .ref mcs, .ref mmm, .int ra, .int rd, .int nx9, .int dn, .ref mkn, .ref mjp, .ref mds])), (mtt, .inl (gI g, 2000, .inl tf)), (mcd, .inl (gI g, 600, .inl (upd cdf ((nI (wn st))).toNatClampNeg (nI (knK tx a (a + cn) - 1))))), (mat, .inl (gI g, 40, .inl s1)), (msz, .inl (gI g, 40, .inl s2)), (mvl, .inl (gI g, 40, .inl s3)), (mcs, .inl (gI g, 600, .inl (upd csf (wn st) (-1)))), (mkn, .inl (gC g, 32, .inl kf))] := hD
                        have eF : (upd cdf ((nI (wn st))).toNatClampNeg (nI (knK tx a (a + cn) - 1))) = (upd cdf (wn st) (nI (knK tx a (a + cn) - 1))) := by rw [nI_clamp (by omega)]
                        rw [eF] at hP hD
                        refine lv_aload_n hx hb d_Mod_address_193 rfl (lv_at hl 3 rfl) ?_
                        refine lv_aload_n hx hb d_Mod_address_194 rfl (lv_at hl 3 rfl) ?_
                        refine va_get (D := g.1) (ci := 8) (v := .int (nI (wn st))) (C := "SignDeskModel") (T := F_Mod) (N := 19) hx hb hts in_Mod hown hK hP 0 rfl rfl 4 (by decide) (hts _ k_498) (fun _ h9 => h9) rfl d_Mod_address_195 ?_
                        refine lv_iconst (v := (nI 1)) hx hb d_Mod_address_198 (by decide) ?_
                        refine lv_iadd hx hb d_Mod_address_199 ?_
                        refine sd_topi (y := nI ((wn st) + 1)) (nI_add _ _) ?_
                        refine va_put (D := g.1) (ci := 8) (v := .int (nI ((wn st) + 1))) (ty := .int) (C := "SignDeskModel") (T := F_Mod) (N := 19) hx hb hts in_Mod t_Mod t_Mod_ok n_Mod hown hK hP hD hS 0 rfl rfl 4 (by decide) (hts _ k_498) (fun _ h9 => h9) rfl (by decide +kernel) rfl rfl (Nat.le_of_ble_eq_true rfl) d_Mod_address_200 (fun H locs hP hD hS => ?_)
                        have hP : sdP g [(m0, .inr (8, [.ref mtt, .int tk9, .int sz9, .int pl9, .int (nI ((wn st) + 1)), .ref mcd, .int (nI (sn st)), .ref mat, .ref msz, .ref mvl, .ref mcs, .ref mmm, .int ra, .int rd, .int nx9, .int dn, .ref mkn, .ref mjp, .ref mds])), (mtt, .inl (gI g, 2000, .inl tf)), (mcd, .inl (gI g, 600, .inl (upd cdf (wn st) (nI (knK tx a (a + cn) - 1))))), (mat, .inl (gI g, 40, .inl s1)), (msz, .inl (gI g, 40, .inl s2)), (mvl, .inl (gI g, 40, .inl s3)), (mcs, .inl (gI g, 600, .inl (upd csf (wn st) (-1)))), (mkn, .inl (gC g, 32, .inl kf))] H := hP
                        have hD : va_D A [(m0, .inr (8, [.ref mtt, .int tk9, .int sz9, .int pl9, .int (nI ((wn st) + 1)), .ref mcd, .int (nI (sn st)), .ref mat, .ref msz, .ref mvl, .ref mcs, .ref mmm, .int ra, .int rd, .int nx9, .int dn, .ref mkn, .ref mjp, .ref mds])), (mtt, .inl (gI g, 2000, .inl tf)), (mcd, .inl (gI g, 600, .inl (upd cdf (wn st) (nI (knK tx a (a + cn) - 1))))), (mat, .inl (gI g, 40, .inl s1)), (msz, .inl (gI g, 40, .inl s2)), (mvl, .inl (gI g, 40, .inl s3)), (mcs, .inl (gI g, 600, .inl (upd csf (wn st) (-1)))), (mkn, .inl (gC g, 32, .inl kf))] := hD
                        refine lv_iconst (v := (nI 0)) hx hb d_Mod_address_203 (by decide) ?_
                        have hP9 := hP.sub (ws' := [(m0, .inr (8, [.ref mtt, .int tk9, .int sz9, .int pl9, .int (nI ((wn st) + 1)), .ref mcd, .int (nI (sn st)), .ref mat, .ref msz, .ref mvl, .ref mcs, .ref mmm, .int ra, .int rd, .int nx9, .int dn, .ref mkn, .ref mjp, .ref mds])), (mtt, .inl (gI g, 2000, .inl tf)), (mcd, .inl (gI g, 600, .inl (upd cdf (wn st) (nI (knK tx a (a + cn) - 1))))), (mat, .inl (gI g, 40, .inl s1)), (msz, .inl (gI g, 40, .inl s2)), (mvl, .inl (gI g, 40, .inl s3)), (mcs, .inl (gI g, 600, .inl (upd csf (wn st) (-1)))), (mkn, .inl (gC g, 32, .inl kf))]) [0, 1, 2, 3, 4, 5, 6, 7] rfl
                        have hD9 := hD.sub (ws' := [(m0, .inr (8, [.ref mtt, .int tk9, .int sz9, .int pl9, .int (nI ((wn st) + 1)), .ref mcd, .int (nI (sn st)), .ref mat, .ref msz, .ref mvl, .ref mcs, .ref mmm, .int ra, .int rd, .int nx9, .int dn, .ref mkn, .ref mjp, .ref mds])), (mtt, .inl (gI g, 2000, .inl tf)), (mcd, .inl (gI g, 600, .inl (upd cdf (wn st) (nI (knK tx a (a + cn) - 1))))), (mat, .inl (gI g, 40, .inl s1)), (msz, .inl (gI g, 40, .inl s2)), (mvl, .inl (gI g, 40, .inl s3)), (mcs, .inl (gI g, 600, .inl (upd csf (wn st) (-1)))), (mkn, .inl (gC g, 32, .inl kf))]) [0, 1, 2, 3, 4, 5, 6, 7] (by decide) rfl
                        exact W.iret (v := (nI 0)) hx hb hr (fun t ht hW => ⟨⟨_, (pushW st (knK tx a (a + cn) - 1) 0, upd cdf (wn st) (nI (knK tx a (a + cn) - 1)), upd csf (wn st) (-1), s1, s2, s3), rfl, ⟨⟨0, by rw [spAddr, cl_t c49, if_neg (by omega), if_neg hk0], rfl⟩, MPR_push (y := 0) hMP (by omega), hSR, hSB⟩, by rw [ht]; exact hP9, by rw [hAe]; exact hD9⟩, hS.F ht⟩) hS.2.2 d_Mod_address_204
                      · exact absurd c54 c53
                    · have hk0 : knK tx a (a + cn) = 0 := (m1_iff (by omega)).mp c53
                      refine lv_aload_n hx hb d_Mod_address_142 rfl (lv_at hl 3 rfl) ?_
                      refine va_get (D := g.1) (ci := 8) (v := .ref mcs) (C := "SignDeskModel") (T := F_Mod) (N := 19) hx hb hts in_Mod hown hK hP 0 rfl rfl 10 (by decide) (hts _ k_504) (fun _ h9 => h9) rfl d_Mod_address_143 ?_
                      refine lv_aload_n hx hb d_Mod_address_146 rfl (lv_at hl 3 rfl) ?_
                      refine va_get (D := g.1) (ci := 8) (v := .int (nI (wn st))) (C := "SignDeskModel") (T := F_Mod) (N := 19) hx hb hts in_Mod hown hK hP 0 rfl rfl 4 (by decide) (hts _ k_498) (fun _ h9 => h9) rfl d_Mod_address_147 ?_
                      refine lv_aload_n hx hb d_Mod_address_150 rfl (lv_at hl 3 rfl) ?_
                      refine lv_iload_n hx hb d_Mod_address_151 rfl (lv_at hl 4 rfl) ?_
                      refine lv_iload_n hx hb d_Mod_address_152 rfl (lv_at hl 5 rfl) ?_
                      have hPc := hP.sub (ws' := [(m0, .inr (8, [.ref mtt, .int tk9, .int sz9, .int pl9, .int (nI (wn st)), .ref mcd, .int (nI (sn st)), .ref mat, .ref msz, .ref mvl, .ref mcs, .ref mmm, .int ra, .int rd, .int nx9, .int dn, .ref mkn, .ref mjp, .ref mds])), (mtt, .inl (gI g, 2000, .inl tf)), (mat, .inl (gI g, 40, .inl s1)), (msz, .inl (gI g, 40, .inl s2)), (mvl, .inl (gI g, 40, .inl s3))]) [0, 1, 3, 4, 5] rfl
                      have hDc := hD.sub (ws' := [(m0, .inr (8, [.ref mtt, .int tk9, .int sz9, .int pl9, .int (nI (wn st)), .ref mcd, .int (nI (sn st)), .ref mat, .ref msz, .ref mvl, .ref mcs, .ref mmm, .int ra, .int rd, .int nx9, .int dn, .ref mkn, .ref mjp, .ref mds])), (mtt, .inl (gI g, 2000, .inl tf)), (mat, .inl (gI g, 40, .inl s1)), (msz, .inl (gI g, 40, .inl s2)), (mvl, .inl (gI g, 40, .inl s3))]) [0, 1, 3, 4, 5] (by decide) rfl
                      have hFc := va_free (wc := [(m0, .inr (8, [.ref mtt, .int tk9, .int sz9, .int pl9, .int (nI (wn st)), .ref mcd, .int (nI (sn st)), .ref mat, .ref msz, .ref mvl, .ref mcs, .ref mmm, .int ra, .int rd, .int nx9, .int dn, .ref mkn, .ref mjp, .ref mds])), (mtt, .inl (gI g, 2000, .inl tf)), (mat, .inl (gI g, 40, .inl s1)), (msz, .inl (gI g, 40, .inl s2)), (mvl, .inl (gI g, 40, .inl s3))]) hD hS hA [0, 1, 3, 4, 5] rfl
                      refine sd_ci (va_runV (As := [.int (nI a), .int (nI cn)]) (rest := [.int (nI (wn st)), .ref mcs]) ⟨hx, hb, hml, hown, hts⟩ (c_Mod_symbolOf l g m0 mtt mcd mat msz mvl mcs mmm mkn mjp mds tk9 sz9 pl9 (nI (wn st)) ra rd nx9 dn n tf tx hT st s1 s2 s3 hSR hSB (a) (cn) (hc1) (by omega) H.size) (cwV 2 hts (sd_gV k_608 k_610 k_16 k_30 k_611) rfl rfl rfl (by decide +kernel) ⟨Nat.le_of_ble_eq_true rfl, Nat.le_of_ble_eq_true rfl⟩) (sd_preVU hK hE hS hA0 hs0 hPc hDc rfl rfl) rfl rfl hl.1 rfl (lv_room (Nat.le_of_ble_eq_true rfl)) d_Mod_address_153 ⟨Nat.zero_le _, Nat.zero_le _⟩) hS hFc (fun r55 u H1 locs hw hP1 hD1 hk1 hS => ?_)
                      obtain ⟨st1, t1, t2, t3⟩ := u
                      obtain ⟨hP, hD⟩ := va_join (wr := [(mcd, .inl (gI g, 600, .inl cdf)), (mcs, .inl (gI g, 600, .inl (upd csf (wn st) (-1)))), (mkn, .inl (gC g, 32, .inl kf))]) (w1 := [(m0, .inr (8, [.ref mtt, .int tk9, .int sz9, .int pl9, .int (nI (wn st)), .ref mcd, .int (nI (sn st1)), .ref mat, .ref msz, .ref mvl, .ref mcs, .ref mmm, .int ra, .int rd, .int nx9, .int dn, .ref mkn, .ref mjp, .ref mds])), (mtt, .inl (gI g, 2000, .inl tf)), (mat, .inl (gI g, 40, .inl t1)), (msz, .inl (gI g, 40, .inl t2)), (mvl, .inl (gI g, 40, .inl t3))]) hP hD [0, 1, 3, 4, 5] [2, 6, 7] rfl rfl (by decide) (by decide) hk1 hFc hP1 hD1
                      clear hPc hDc hFc hk1 hP1 hD1
                      generalize H1 = H at hP hS ⊢
                      have hP : sdP g [(mcd, .inl (gI g, 600, .inl cdf)), (mcs, .inl (gI g, 600, .inl (upd csf (wn st) (-1)))), (mkn, .inl (gC g, 32, .inl kf)), (m0, .inr (8, [.ref mtt, .int tk9, .int sz9, .int pl9, .int (nI (wn st)), .ref mcd, .int (nI (sn st1)), .ref mat, .ref msz, .ref mvl, .ref mcs, .ref mmm, .int ra, .int rd, .int nx9, .int dn, .ref mkn, .ref mjp, .ref mds])), (mtt, .inl (gI g, 2000, .inl tf)), (mat, .inl (gI g, 40, .inl t1)), (msz, .inl (gI g, 40, .inl t2)), (mvl, .inl (gI g, 40, .inl t3))] H := hP
                      have hD : va_D A [(mcd, .inl (gI g, 600, .inl cdf)), (mcs, .inl (gI g, 600, .inl (upd csf (wn st) (-1)))), (mkn, .inl (gC g, 32, .inl kf)), (m0, .inr (8, [.ref mtt, .int tk9, .int sz9, .int pl9, .int (nI (wn st)), .ref mcd, .int (nI (sn st1)), .ref mat, .ref msz, .ref mvl, .ref mcs, .ref mmm, .int ra, .int rd, .int nx9, .int dn, .ref mkn, .ref mjp, .ref mds])), (mtt, .inl (gI g, 2000, .inl tf)), (mat, .inl (gI g, 40, .inl t1)), (msz, .inl (gI g, 40, .inl t2)), (mvl, .inl (gI g, 40, .inl t3))] := hD
                      obtain ⟨⟨cs, hsy, er55⟩, hSR1⟩ := hw
                      have hsy : syO tx st (a) (cn) = (cs, st1) := hsy
                      have hSR1 : SR st1 t1 t2 t3 := hSR1
                      have hst1 : st1.1 = st.1 := by have h := syO_fst (tx := tx) (st := st) (a := a) (n := cn); rw [hsy] at h; exact h
                      have hcs := syO_le (tx := tx) (a := a) (n := cn) h40
                      rw [hsy] at hcs
                      have hcs1 : cs ≤ sn st1 := hcs.1
                      have hcs2 : sn st1 ≤ 40 := hcs.2
                      have hSB1 : SB n st1 := by have h := SB_O (tx := tx) (a := a) (c := cn) hSB (by omega); rw [hsy] at h; exact h
                      subst er55
                      have hwn1 : wn st1 = wn st := by show st1.1.1 = st.1.1; rw [hst1]
                      refine va_iast hx hb hK hP hD hS 1 1 rfl rfl (i := (nI (wn st))) (x := (nI cs - 1)) (vp_in_nI (by omega) (by omega)) d_Mod_address_156 (fun H locs hP hD hS => ?_)
                      have hP : sdP g [(mcd, .inl (gI g, 600, .inl cdf)), (mcs, .inl (gI g, 600, .inl (upd (upd csf (wn st) (-1)) ((nI (wn st))).toNatClampNeg (nI cs - 1)))), (mkn, .inl (gC g, 32, .inl kf)), (m0, .inr (8, [.ref mtt, .int tk9, .int sz9, .int pl9, .int (nI (wn st)), .ref mcd, .int (nI (sn st1)), .ref mat, .ref msz, .ref mvl, .ref mcs, .ref mmm, .int ra, .int rd, .int nx9, .int dn, .ref mkn, .ref mjp, .ref mds])), (mtt, .inl (gI g, 2000, .inl tf)), (mat, .inl (gI g, 40, .inl t1)), (msz, .inl (gI g, 40, .inl t2)), (mvl, .inl (gI g, 40, .inl t3))] H := hP
                      have hD : va_D A [(mcd, .inl (gI g, 600, .inl cdf)), (mcs, .inl (gI g, 600, .inl (upd (upd csf (wn st) (-1)) ((nI (wn st))).toNatClampNeg (nI cs - 1)))), (mkn, .inl (gC g, 32, .inl kf)), (m0, .inr (8, [.ref mtt, .int tk9, .int sz9, .int pl9, .int (nI (wn st)), .ref mcd, .int (nI (sn st1)), .ref mat, .ref msz, .ref mvl, .ref mcs, .ref mmm, .int ra, .int rd, .int nx9, .int dn, .ref mkn, .ref mjp, .ref mds])), (mtt, .inl (gI g, 2000, .inl tf)), (mat, .inl (gI g, 40, .inl t1)), (msz, .inl (gI g, 40, .inl t2)), (mvl, .inl (gI g, 40, .inl t3))] := hD
                      have eF : (upd (upd csf (wn st) (-1)) ((nI (wn st))).toNatClampNeg (nI cs - 1)) = (upd csf (wn st) (nI cs - 1)) := by
                          rw [nI_clamp (by omega)]
                          funext j
                          by_cases q : j = wn st
                          · subst q; rw [pk_us, pk_us]
                          · rw [pk_un q, pk_un q, pk_un q]
                      rw [eF] at hP hD
                      refine lv_aload_n hx hb d_Mod_address_157 rfl (lv_at hl 3 rfl) ?_
                      refine va_get (D := g.1) (ci := 8) (v := .ref mcs) (C := "SignDeskModel") (T := F_Mod) (N := 19) hx hb hts in_Mod hown hK hP 3 rfl rfl 10 (by decide) (hts _ k_504) (fun _ h9 => h9) rfl d_Mod_address_158 ?_
                      refine lv_aload_n hx hb d_Mod_address_161 rfl (lv_at hl 3 rfl) ?_
                      refine va_get (D := g.1) (ci := 8) (v := .int (nI (wn st))) (C := "SignDeskModel") (T := F_Mod) (N := 19) hx hb hts in_Mod hown hK hP 3 rfl rfl 4 (by decide) (hts _ k_498) (fun _ h9 => h9) rfl d_Mod_address_162 ?_
                      refine va_iald hx hb hK hP 1 1 rfl rfl (i := (nI (wn st))) (vp_in_nI (by omega) (by omega)) d_Mod_address_165 ?_
                      refine sd_topi (y := nI cs - 1) (by rw [nI_clamp (by omega)]; exact pk_us) ?_
                      refine lv_iconst (v := (-1)) hx hb d_Mod_address_166 (by decide) ?_
                      refine lv_icmp_ne (tgt := 172) hx hb d_Mod_address_167 (by decide) (fun c56 => ?_) (fun c56 => ?_)
                      · have hc0 : ¬ cs = 0 := fun q => c56 (by rw [q]; decide)
                        refine lv_aload_n hx hb d_Mod_address_172 rfl (lv_at hl 3 rfl) ?_
                        refine va_get (D := g.1) (ci := 8) (v := .ref mcd) (C := "SignDeskModel") (T := F_Mod) (N := 19) hx hb hts in_Mod hown hK hP 3 rfl rfl 5 (by decide) (hts _ k_499) (fun _ h9 => h9) rfl d_Mod_address_173 ?_
                        refine lv_aload_n hx hb d_Mod_address_176 rfl (lv_at hl 3 rfl) ?_
                        refine va_get (D := g.1) (ci := 8) (v := .int (nI (wn st))) (C := "SignDeskModel") (T := F_Mod) (N := 19) hx hb hts in_Mod hown hK hP 3 rfl rfl 4 (by decide) (hts _ k_498) (fun _ h9 => h9) rfl d_Mod_address_177 ?_
                        refine lv_iload hx hb d_Mod_address_180 (lv_at hl 0 rfl) ?_
                        refine lv_iconst (v := (-1)) hx hb d_Mod_address_182 (by decide) ?_
                        refine lv_icmp_ne (tgt := 190) hx hb d_Mod_address_183 (by decide) (fun c57 => ?_) (fun c57 => ?_)
                        · exact absurd c53 c57
                        · refine lv_iconst (v := (nI 0)) hx hb d_Mod_address_186 (by decide) ?_
                          refine lv_goto (tgt := 192) hx hb d_Mod_address_187 (by decide) ?_
                          refine va_iast hx hb hK hP hD hS 0 1 rfl rfl (i := (nI (wn st))) (x := (nI 0)) (vp_in_nI (by omega) (by omega)) d_Mod_address_192 (fun H locs hP hD hS => ?_)
                          have hP : sdP g [(mcd, .inl (gI g, 600, .inl (upd cdf ((nI (wn st))).toNatClampNeg (nI 0)))), (mcs, .inl (gI g, 600, .inl (upd csf (wn st) (nI cs - 1)))), (mkn, .inl (gC g, 32, .inl kf)), (m0, .inr (8, [.ref mtt, .int tk9, .int sz9, .int pl9, .int (nI (wn st)), .ref mcd, .int (nI (sn st1)), .ref mat, .ref msz, .ref mvl, .ref mcs, .ref mmm, .int ra, .int rd, .int nx9, .int dn, .ref mkn, .ref mjp, .ref mds])), (mtt, .inl (gI g, 2000, .inl tf)), (mat, .inl (gI g, 40, .inl t1)), (msz, .inl (gI g, 40, .inl t2)), (mvl, .inl (gI g, 40, .inl t3))] H := hP
                          have hD : va_D A [(mcd, .inl (gI g, 600, .inl (upd cdf ((nI (wn st))).toNatClampNeg (nI 0)))), (mcs, .inl (gI g, 600, .inl (upd csf (wn st) (nI cs - 1)))), (mkn, .inl (gC g, 32, .inl kf)), (m0, .inr (8, [.ref mtt, .int tk9, .int sz9, .int pl9, .int (nI (wn st)), .ref mcd, .int (nI (sn st1)), .ref mat, .ref msz, .ref mvl, .ref mcs, .ref mmm, .int ra, .int rd, .int nx9, .int dn, .ref mkn, .ref mjp, .ref mds])), (mtt, .inl (gI g, 2000, .inl tf)), (mat, .inl (gI g, 40, .inl t1)), (msz, .inl (gI g, 40, .inl t2)), (mvl, .inl (gI g, 40, .inl t3))] := hD
                          have eF : (upd cdf ((nI (wn st))).toNatClampNeg (nI 0)) = (upd cdf (wn st) (nI 0)) := by rw [nI_clamp (by omega)]
                          rw [eF] at hP hD
                          refine lv_aload_n hx hb d_Mod_address_193 rfl (lv_at hl 3 rfl) ?_
                          refine lv_aload_n hx hb d_Mod_address_194 rfl (lv_at hl 3 rfl) ?_
                          refine va_get (D := g.1) (ci := 8) (v := .int (nI (wn st))) (C := "SignDeskModel") (T := F_Mod) (N := 19) hx hb hts in_Mod hown hK hP 3 rfl rfl 4 (by decide) (hts _ k_498) (fun _ h9 => h9) rfl d_Mod_address_195 ?_
                          refine lv_iconst (v := (nI 1)) hx hb d_Mod_address_198 (by decide) ?_
                          refine lv_iadd hx hb d_Mod_address_199 ?_
                          refine sd_topi (y := nI ((wn st) + 1)) (nI_add _ _) ?_
                          refine va_put (D := g.1) (ci := 8) (v := .int (nI ((wn st) + 1))) (ty := .int) (C := "SignDeskModel") (T := F_Mod) (N := 19) hx hb hts in_Mod t_Mod t_Mod_ok n_Mod hown hK hP hD hS 3 rfl rfl 4 (by decide) (hts _ k_498) (fun _ h9 => h9) rfl (by decide +kernel) rfl rfl (Nat.le_of_ble_eq_true rfl) d_Mod_address_200 (fun H locs hP hD hS => ?_)
                          have hP : sdP g [(mcd, .inl (gI g, 600, .inl (upd cdf (wn st) (nI 0)))), (mcs, .inl (gI g, 600, .inl (upd csf (wn st) (nI cs - 1)))), (mkn, .inl (gC g, 32, .inl kf)), (m0, .inr (8, [.ref mtt, .int tk9, .int sz9, .int pl9, .int (nI ((wn st) + 1)), .ref mcd, .int (nI (sn st1)), .ref mat, .ref msz, .ref mvl, .ref mcs, .ref mmm, .int ra, .int rd, .int nx9, .int dn, .ref mkn, .ref mjp, .ref mds])), (mtt, .inl (gI g, 2000, .inl tf)), (mat, .inl (gI g, 40, .inl t1)), (msz, .inl (gI g, 40, .inl t2)), (mvl, .inl (gI g, 40, .inl t3))] H := hP
                          have hD : va_D A [(mcd, .inl (gI g, 600, .inl (upd cdf (wn st) (nI 0)))), (mcs, .inl (gI g, 600, .inl (upd csf (wn st) (nI cs - 1)))), (mkn, .inl (gC g, 32, .inl kf)), (m0, .inr (8, [.ref mtt, .int tk9, .int sz9, .int pl9, .int (nI ((wn st) + 1)), .ref mcd, .int (nI (sn st1)), .ref mat, .ref msz, .ref mvl, .ref mcs, .ref mmm, .int ra, .int rd, .int nx9, .int dn, .ref mkn, .ref mjp, .ref mds])), (mtt, .inl (gI g, 2000, .inl tf)), (mat, .inl (gI g, 40, .inl t1)), (msz, .inl (gI g, 40, .inl t2)), (mvl, .inl (gI g, 40, .inl t3))] := hD
                          refine lv_iconst (v := (nI 0)) hx hb d_Mod_address_203 (by decide) ?_
                          have hMP1 : MPR (pushW st1 0 cs) (upd cdf (wn st) (nI 0)) (upd csf (wn st) (nI cs - 1)) := by
                            have h := MPR_push (c := 0) (y := cs) (MPR_of hMP hst1) (by omega)
                            rw [hwn1] at h; exact h
                          have hP : sdP g [(mcd, .inl (gI g, 600, .inl (upd cdf (wn st) (nI 0)))), (mcs, .inl (gI g, 600, .inl (upd csf (wn st) (nI cs - 1)))), (mkn, .inl (gC g, 32, .inl kf)), (m0, .inr (8, [.ref mtt, .int tk9, .int sz9, .int pl9, .int (nI (wn st1 + 1)), .ref mcd, .int (nI (sn st1)), .ref mat, .ref msz, .ref mvl, .ref mcs, .ref mmm, .int ra, .int rd, .int nx9, .int dn, .ref mkn, .ref mjp, .ref mds])), (mtt, .inl (gI g, 2000, .inl tf)), (mat, .inl (gI g, 40, .inl t1)), (msz, .inl (gI g, 40, .inl t2)), (mvl, .inl (gI g, 40, .inl t3))] H := by rw [hwn1]; exact hP
                          have hD : va_D A [(mcd, .inl (gI g, 600, .inl (upd cdf (wn st) (nI 0)))), (mcs, .inl (gI g, 600, .inl (upd csf (wn st) (nI cs - 1)))), (mkn, .inl (gC g, 32, .inl kf)), (m0, .inr (8, [.ref mtt, .int tk9, .int sz9, .int pl9, .int (nI (wn st1 + 1)), .ref mcd, .int (nI (sn st1)), .ref mat, .ref msz, .ref mvl, .ref mcs, .ref mmm, .int ra, .int rd, .int nx9, .int dn, .ref mkn, .ref mjp, .ref mds])), (mtt, .inl (gI g, 2000, .inl tf)), (mat, .inl (gI g, 40, .inl t1)), (msz, .inl (gI g, 40, .inl t2)), (mvl, .inl (gI g, 40, .inl t3))] := by rw [hwn1]; exact hD
                          have hP9 := hP.sub (ws' := [(m0, .inr (8, [.ref mtt, .int tk9, .int sz9, .int pl9, .int (nI (wn st1 + 1)), .ref mcd, .int (nI (sn st1)), .ref mat, .ref msz, .ref mvl, .ref mcs, .ref mmm, .int ra, .int rd, .int nx9, .int dn, .ref mkn, .ref mjp, .ref mds])), (mtt, .inl (gI g, 2000, .inl tf)), (mcd, .inl (gI g, 600, .inl (upd cdf (wn st) (nI 0)))), (mat, .inl (gI g, 40, .inl t1)), (msz, .inl (gI g, 40, .inl t2)), (mvl, .inl (gI g, 40, .inl t3)), (mcs, .inl (gI g, 600, .inl (upd csf (wn st) (nI cs - 1)))), (mkn, .inl (gC g, 32, .inl kf))]) [3, 4, 0, 5, 6, 7, 1, 2] rfl
                          have hD9 := hD.sub (ws' := [(m0, .inr (8, [.ref mtt, .int tk9, .int sz9, .int pl9, .int (nI (wn st1 + 1)), .ref mcd, .int (nI (sn st1)), .ref mat, .ref msz, .ref mvl, .ref mcs, .ref mmm, .int ra, .int rd, .int nx9, .int dn, .ref mkn, .ref mjp, .ref mds])), (mtt, .inl (gI g, 2000, .inl tf)), (mcd, .inl (gI g, 600, .inl (upd cdf (wn st) (nI 0)))), (mat, .inl (gI g, 40, .inl t1)), (msz, .inl (gI g, 40, .inl t2)), (mvl, .inl (gI g, 40, .inl t3)), (mcs, .inl (gI g, 600, .inl (upd csf (wn st) (nI cs - 1)))), (mkn, .inl (gC g, 32, .inl kf))]) [3, 4, 0, 5, 6, 7, 1, 2] (by decide) rfl
                          exact W.iret (v := (nI 0)) hx hb hr (fun t ht hW => ⟨⟨_, (pushW st1 0 cs, upd cdf (wn st) (nI 0), upd csf (wn st) (nI cs - 1), t1, t2, t3), rfl, ⟨⟨0, by rw [spAddr, cl_t c49, if_neg (by omega), if_pos hk0, hzz, hsy, if_neg hc0], rfl⟩, hMP1, hSR1, hSB1⟩, by rw [ht]; exact hP9, by rw [hAe]; exact hD9⟩, hS.F ht⟩) hS.2.2 d_Mod_address_204
                      · have hc0 : cs = 0 := (m1_iff (by omega)).mp c56
                        have hP : sdP g [(mcd, .inl (gI g, 600, .inl cdf)), (mcs, .inl (gI g, 600, .inl (upd csf (wn st) (nI cs - 1)))), (mkn, .inl (gC g, 32, .inl kf)), (m0, .inr (8, [.ref mtt, .int tk9, .int sz9, .int pl9, .int (nI (wn st1)), .ref mcd, .int (nI (sn st1)), .ref mat, .ref msz, .ref mvl, .ref mcs, .ref mmm, .int ra, .int rd, .int nx9, .int dn, .ref mkn, .ref mjp, .ref mds])), (mtt, .inl (gI g, 2000, .inl tf)), (mat, .inl (gI g, 40, .inl t1)), (msz, .inl (gI g, 40, .inl t2)), (mvl, .inl (gI g, 40, .inl t3))] H := by rw [hwn1]; exact hP
                        have hD : va_D A [(mcd, .inl (gI g, 600, .inl cdf)), (mcs, .inl (gI g, 600, .inl (upd csf (wn st) (nI cs - 1)))), (mkn, .inl (gC g, 32, .inl kf)), (m0, .inr (8, [.ref mtt, .int tk9, .int sz9, .int pl9, .int (nI (wn st1)), .ref mcd, .int (nI (sn st1)), .ref mat, .ref msz, .ref mvl, .ref mcs, .ref mmm, .int ra, .int rd, .int nx9, .int dn, .ref mkn, .ref mjp, .ref mds])), (mtt, .inl (gI g, 2000, .inl tf)), (mat, .inl (gI g, 40, .inl t1)), (msz, .inl (gI g, 40, .inl t2)), (mvl, .inl (gI g, 40, .inl t3))] := by rw [hwn1]; exact hD
                        refine lv_iconst (v := (nI 2)) hx hb d_Mod_address_170 (by decide) ?_
                        have hP9 := hP.sub (ws' := [(m0, .inr (8, [.ref mtt, .int tk9, .int sz9, .int pl9, .int (nI (wn st1)), .ref mcd, .int (nI (sn st1)), .ref mat, .ref msz, .ref mvl, .ref mcs, .ref mmm, .int ra, .int rd, .int nx9, .int dn, .ref mkn, .ref mjp, .ref mds])), (mtt, .inl (gI g, 2000, .inl tf)), (mcd, .inl (gI g, 600, .inl cdf)), (mat, .inl (gI g, 40, .inl t1)), (msz, .inl (gI g, 40, .inl t2)), (mvl, .inl (gI g, 40, .inl t3)), (mcs, .inl (gI g, 600, .inl (upd csf (wn st) (nI cs - 1)))), (mkn, .inl (gC g, 32, .inl kf))]) [3, 4, 0, 5, 6, 7, 1, 2] rfl
                        have hD9 := hD.sub (ws' := [(m0, .inr (8, [.ref mtt, .int tk9, .int sz9, .int pl9, .int (nI (wn st1)), .ref mcd, .int (nI (sn st1)), .ref mat, .ref msz, .ref mvl, .ref mcs, .ref mmm, .int ra, .int rd, .int nx9, .int dn, .ref mkn, .ref mjp, .ref mds])), (mtt, .inl (gI g, 2000, .inl tf)), (mcd, .inl (gI g, 600, .inl cdf)), (mat, .inl (gI g, 40, .inl t1)), (msz, .inl (gI g, 40, .inl t2)), (mvl, .inl (gI g, 40, .inl t3)), (mcs, .inl (gI g, 600, .inl (upd csf (wn st) (nI cs - 1)))), (mkn, .inl (gC g, 32, .inl kf))]) [3, 4, 0, 5, 6, 7, 1, 2] (by decide) rfl
                        exact W.iret (v := (nI 2)) hx hb hr (fun t ht hW => ⟨⟨_, (st1, cdf, upd csf (wn st) (nI cs - 1), t1, t2, t3), rfl, ⟨⟨2, by rw [spAddr, cl_t c49, if_neg (by omega), if_pos hk0, hzz, hsy, if_pos hc0], rfl⟩, MPR_of (MPR_cs hMP) hst1, hSR1, hSB1⟩, by rw [ht]; exact hP9, by rw [hAe]; exact hD9⟩, hS.F ht⟩) hS.2.2 d_Mod_address_171
                  · exact absurd rfl c51
                · have c50 := (nI_eq (by omega) (by omega)).mp c50
                  refine lv_iconst (v := (nI 2)) hx hb d_Mod_address_107 (by decide) ?_
                  have hP9 := hP.sub (ws' := [(m0, .inr (8, [.ref mtt, .int tk9, .int sz9, .int pl9, .int (nI (wn st)), .ref mcd, .int (nI (sn st)), .ref mat, .ref msz, .ref mvl, .ref mcs, .ref mmm, .int ra, .int rd, .int nx9, .int dn, .ref mkn, .ref mjp, .ref mds])), (mtt, .inl (gI g, 2000, .inl tf)), (mcd, .inl (gI g, 600, .inl cdf)), (mat, .inl (gI g, 40, .inl s1)), (msz, .inl (gI g, 40, .inl s2)), (mvl, .inl (gI g, 40, .inl s3)), (mcs, .inl (gI g, 600, .inl csf)), (mkn, .inl (gC g, 32, .inl kf))]) [0, 1, 2, 3, 4, 5, 6, 7] rfl
                  have hD9 := hD.sub (ws' := [(m0, .inr (8, [.ref mtt, .int tk9, .int sz9, .int pl9, .int (nI (wn st)), .ref mcd, .int (nI (sn st)), .ref mat, .ref msz, .ref mvl, .ref mcs, .ref mmm, .int ra, .int rd, .int nx9, .int dn, .ref mkn, .ref mjp, .ref mds])), (mtt, .inl (gI g, 2000, .inl tf)), (mcd, .inl (gI g, 600, .inl cdf)), (mat, .inl (gI g, 40, .inl s1)), (msz, .inl (gI g, 40, .inl s2)), (mvl, .inl (gI g, 40, .inl s3)), (mcs, .inl (gI g, 600, .inl csf)), (mkn, .inl (gC g, 32, .inl kf))]) [0, 1, 2, 3, 4, 5, 6, 7] (by decide) rfl
                  exact W.iret (v := (nI 2)) hx hb hr (fun t ht hW => ⟨⟨_, (st, cdf, csf, s1, s2, s3), rfl, ⟨⟨2, by rw [spAddr, cl_t c49, if_pos (by omega)], rfl⟩, hMP, hSR, hSB⟩, by rw [ht]; exact hP9, by rw [hAe]; exact hD9⟩, hS.F ht⟩) hS.2.2 d_Mod_address_108
              · have c49 := sb_eq0.mp c49
                refine lv_iconst (v := (nI 1)) hx hb d_Mod_address_95 (by decide) ?_
                have hP9 := hP.sub (ws' := [(m0, .inr (8, [.ref mtt, .int tk9, .int sz9, .int pl9, .int (nI (wn st)), .ref mcd, .int (nI (sn st)), .ref mat, .ref msz, .ref mvl, .ref mcs, .ref mmm, .int ra, .int rd, .int nx9, .int dn, .ref mkn, .ref mjp, .ref mds])), (mtt, .inl (gI g, 2000, .inl tf)), (mcd, .inl (gI g, 600, .inl cdf)), (mat, .inl (gI g, 40, .inl s1)), (msz, .inl (gI g, 40, .inl s2)), (mvl, .inl (gI g, 40, .inl s3)), (mcs, .inl (gI g, 600, .inl csf)), (mkn, .inl (gC g, 32, .inl kf))]) [0, 1, 2, 3, 4, 5, 6, 7] rfl
                have hD9 := hD.sub (ws' := [(m0, .inr (8, [.ref mtt, .int tk9, .int sz9, .int pl9, .int (nI (wn st)), .ref mcd, .int (nI (sn st)), .ref mat, .ref msz, .ref mvl, .ref mcs, .ref mmm, .int ra, .int rd, .int nx9, .int dn, .ref mkn, .ref mjp, .ref mds])), (mtt, .inl (gI g, 2000, .inl tf)), (mcd, .inl (gI g, 600, .inl cdf)), (mat, .inl (gI g, 40, .inl s1)), (msz, .inl (gI g, 40, .inl s2)), (mvl, .inl (gI g, 40, .inl s3)), (mcs, .inl (gI g, 600, .inl csf)), (mkn, .inl (gC g, 32, .inl kf))]) [0, 1, 2, 3, 4, 5, 6, 7] (by decide) rfl
                exact W.iret (v := (nI 1)) hx hb hr (fun t ht hW => ⟨⟨_, (st, cdf, csf, s1, s2, s3), rfl, ⟨⟨1, by rw [spAddr, cl_f c49, cl_f hnn], rfl⟩, hMP, hSR, hSB⟩, by rw [ht]; exact hP9, by rw [hAe]; exact hD9⟩, hS.F ht⟩) hS.2.2 d_Mod_address_96
          · exact absurd rfl c46
      · have c38 := mt (nI_leI (by omega) (by omega)).mpr c38
        rcases h2 with h2 | h2
        · obtain ⟨rfl, g1, g2, g3, rfl⟩ := h2
          have g4 : nV tx a k < 10 ^ k := nV_lt (fun j h5 h6 => by have := g3 (j - a) (by omega); rw [show a + (j - a) = j by omega] at this; exact this)
          have g5 : (10 : Nat) ^ k ≤ 10 ^ 4 := Nat.pow_le_pow_right (by decide) (by omega)
          refine lv_iload_n hx hb d_Mod_address_27 rfl (lv_at hl 1 rfl) ?_
          refine lv_if_eq (tgt := 70) hx hb d_Mod_address_28 (by decide) (fun c58 => ?_) (fun c58 => ?_)
          · exact absurd c58 (by decide)
          · refine lv_aload_n hx hb d_Mod_address_31 rfl (lv_at hl 3 rfl) ?_
            refine va_get (D := g.1) (ci := 8) (v := .ref mtt) (C := "SignDeskModel") (T := F_Mod) (N := 19) hx hb hts in_Mod hown hK hP 0 rfl rfl 0 (by decide) (hts _ k_494) (fun _ h9 => h9) rfl d_Mod_address_32 ?_
            refine lv_iload_n hx hb d_Mod_address_35 rfl (lv_at hl 4 rfl) ?_
            refine lv_iload hx hb d_Mod_address_36 (lv_at hl 0 rfl) ?_
            refine lv_iadd hx hb d_Mod_address_38 ?_
            refine sd_topi (y := nI (a + k)) (nI_add _ _) ?_
            refine va_iald hx hb hK hP 1 1 rfl rfl (i := (nI (a + k))) (vp_in_nI (by omega) (by omega)) d_Mod_address_39 ?_
            refine sd_topi (y := nI (tx (a + k))) (by rw [nI_clamp (by omega)]; exact hT.2.2.1 _ (by omega)) ?_
            have hb8i := hb8 (a + k)
            refine sd_ri (va_runS (As := [.int (nI (tx (a + k)))]) (rest := []) ⟨hx, hb, hml, hown, hts⟩ (c_Mod_isDigit l (tx (a + k)) (hb8 _)) (va_cwS 1 hts (sd_gS k_588 k_589 k_30 k_590) rfl rfl rfl (by decide +kernel) ⟨Nat.le_of_ble_eq_true rfl, Nat.le_of_ble_eq_true rfl⟩) preEq rfl rfl hl.1 rfl (lv_room (Nat.le_of_ble_eq_true rfl)) d_Mod_address_40 ⟨Nat.zero_le _, Nat.zero_le _⟩) (fun r59 er59 => ?_)
            subst er59
            have hb8k := hb8 (a + k)
            refine lv_istore_n (lv' := [(3, .int (sb (48 ≤ tx (a + k) ∧ tx (a + k) ≤ 57))), (5, .int (nI k)), (4, .int (nI (nV tx a k))), (0, .ref m0), (1, .int (nI a)), (2, .int (nI cn))]) hx hb d_Mod_address_43 rfl hl (by decide) rfl (fun ls hl => ?_)
            refine lv_bipush (v := (nI 10)) hx hb d_Mod_address_44 (by decide) ?_
            refine lv_iload hx hb d_Mod_address_46 (lv_at hl 2 rfl) ?_
            refine lv_imul hx hb d_Mod_address_48 ?_
            refine sd_topi (y := nI (10 * (nV tx a k))) (pk_mul _ _) ?_
            refine lv_aload_n hx hb d_Mod_address_49 rfl (lv_at hl 3 rfl) ?_
            refine va_get (D := g.1) (ci := 8) (v := .ref mtt) (C := "SignDeskModel") (T := F_Mod) (N := 19) hx hb hts in_Mod hown hK hP 0 rfl rfl 0 (by decide) (hts _ k_494) (fun _ h9 => h9) rfl d_Mod_address_50 ?_
            refine lv_iload_n hx hb d_Mod_address_53 rfl (lv_at hl 4 rfl) ?_
            refine lv_iload hx hb d_Mod_address_54 (lv_at hl 1 rfl) ?_
            refine lv_iadd hx hb d_Mod_address_56 ?_
            refine sd_topi (y := nI (a + k)) (nI_add _ _) ?_
            refine va_iald hx hb hK hP 1 1 rfl rfl (i := (nI (a + k))) (vp_in_nI (by omega) (by omega)) d_Mod_address_57 ?_
            refine sd_topi (y := nI (tx (a + k))) (by rw [nI_clamp (by omega)]; exact hT.2.2.1 _ (by omega)) ?_
            have hb8i := hb8 (a + k)
            refine lv_iadd hx hb d_Mod_address_58 ?_
            refine sd_topi (y := nI ((10 * (nV tx a k)) + (tx (a + k)))) (nI_add _ _) ?_
            refine lv_bipush (v := (nI 48)) hx hb d_Mod_address_59 (by decide) ?_
            by_cases hdg : 48 ≤ tx (a + k) ∧ tx (a + k) ≤ 57
            · refine lv_isub hx hb d_Mod_address_61 ?_
              refine sd_topi (y := nI (nV tx a (k + 1))) (by rw [pk_sub (by omega)]; exact congrArg nI (by show _ = 10 * nV tx a k + (tx (a + k) - 48); omega)) ?_
              refine lv_istore (lv' := [(4, .int (nI (nV tx a (k + 1)))), (3, .int (sb (48 ≤ tx (a + k) ∧ tx (a + k) ≤ 57))), (5, .int (nI k)), (0, .ref m0), (1, .int (nI a)), (2, .int (nI cn))]) hx hb d_Mod_address_62 hl (by decide) rfl (fun ls hl => ?_)
              refine lv_iinc (v := (nI (k + 1))) (lv' := [(5, .int (nI (k + 1))), (4, .int (nI (nV tx a (k + 1)))), (3, .int (sb (48 ≤ tx (a + k) ∧ tx (a + k) ≤ 57))), (0, .ref m0), (1, .int (nI a)), (2, .int (nI cn))]) hx hb d_Mod_address_64 hl (k := 2) rfl (nI_1 _) (by decide) rfl (fun ls hl => ?_)
              refine lv_goto (tgt := 21) hx hb d_Mod_address_67 (by decide) ?_
              exact ih (k + 1, nI 1, nI (nV tx a (k + 1))) _ ⟨by
                  have e9 : sb (48 ≤ tx (a + k) ∧ tx (a + k) ≤ 57) = nI 1 := sb_t hdg
                  rw [e9] at hl
                  exact lv_sub hl [0, 2, 1, 3, 4, 5] rfl, by omega, Or.inl ⟨rfl, g1, g2, fun j hj => by
                  rcases Nat.lt_or_ge j k with q | q
                  · exact g3 j q
                  · have : j = k := by omega
                    subst this; exact hdg, rfl⟩⟩ (show cn - (k + 1) < cn - k by omega)
            · refine lv_isub hx hb d_Mod_address_61 ?_
              refine lv_istore (lv' := [(4, .int ((nI ((10 * (nV tx a k)) + (tx (a + k)))) - (nI 48))), (3, .int (sb (48 ≤ tx (a + k) ∧ tx (a + k) ≤ 57))), (5, .int (nI k)), (0, .ref m0), (1, .int (nI a)), (2, .int (nI cn))]) hx hb d_Mod_address_62 hl (by decide) rfl (fun ls hl => ?_)
              refine lv_iinc (v := (nI (k + 1))) (lv' := [(5, .int (nI (k + 1))), (4, .int ((nI ((10 * (nV tx a k)) + (tx (a + k)))) - (nI 48))), (3, .int (sb (48 ≤ tx (a + k) ∧ tx (a + k) ≤ 57))), (0, .ref m0), (1, .int (nI a)), (2, .int (nI cn))]) hx hb d_Mod_address_64 hl (k := 2) rfl (nI_1 _) (by decide) rfl (fun ls hl => ?_)
              refine lv_goto (tgt := 21) hx hb d_Mod_address_67 (by decide) ?_
              exact ih (k + 1, nI 0, _) _ ⟨by
                  have e9 : sb (48 ≤ tx (a + k) ∧ tx (a + k) ≤ 57) = nI 0 := sb_f hdg
                  rw [e9] at hl
                  exact lv_sub hl [0, 2, 1, 3, 4, 5] rfl, by omega, Or.inr ⟨rfl, fun q => hdg (q.2.2 k (by omega))⟩⟩ (show cn - (k + 1) < cn - k by omega)
        · obtain ⟨rfl, g0⟩ := h2
          refine lv_iload_n hx hb d_Mod_address_27 rfl (lv_at hl 1 rfl) ?_
          refine lv_if_eq (tgt := 70) hx hb d_Mod_address_28 (by decide) (fun c60 => ?_) (fun c60 => ?_)
          · refine lv_iload_n hx hb d_Mod_address_70 rfl (lv_at hl 1 rfl) ?_
            have hnn : ¬ nuP tx a (a + cn) := fun q => g0 ⟨by have := q.1; omega, by have := q.2.1; omega, fun j hj => q.2.2.1 (a + j) (by omega) (by omega)⟩
            have hzz : a + cn - a = cn := by omega
            refine lv_if_eq (tgt := 82) hx hb d_Mod_address_71 (by decide) (fun c61 => ?_) (fun c61 => ?_)
            · refine lv_iload_n hx hb d_Mod_address_82 rfl (lv_at hl 1 rfl) ?_
              refine lv_if_ne (tgt := 97) hx hb d_Mod_address_83 (by decide) (fun c62 => ?_) (fun c62 => ?_)
              · exact absurd rfl c62
              · refine lv_aload_n hx hb d_Mod_address_86 rfl (lv_at hl 3 rfl) ?_
                refine lv_iload_n hx hb d_Mod_address_87 rfl (lv_at hl 4 rfl) ?_
                refine lv_iload_n hx hb d_Mod_address_88 rfl (lv_at hl 5 rfl) ?_
                refine sd_ri (va_runV (As := [.int (nI a), .int (nI cn)]) (rest := []) ⟨hx, hb, hml, hown, hts⟩ (c_Mod_isSymbol l g m0 mtt mcd mat msz mvl mcs mmm mkn mjp mds tk9 sz9 pl9 (nI (wn st)) (nI (sn st)) ra rd nx9 dn n tf tx hT a cn (by omega) (by omega) (fun _ => hac)) (cwV 2 hts (sd_gV k_584 k_586 k_13 k_30 k_587) rfl rfl rfl (by decide +kernel) ⟨Nat.le_of_ble_eq_true rfl, Nat.le_of_ble_eq_true rfl⟩) (sd_preV hK hE (sd_fr hS hA0) (hP.sub (ws' := [(m0, .inr (8, [.ref mtt, .int tk9, .int sz9, .int pl9, .int (nI (wn st)), .ref mcd, .int (nI (sn st)), .ref mat, .ref msz, .ref mvl, .ref mcs, .ref mmm, .int ra, .int rd, .int nx9, .int dn, .ref mkn, .ref mjp, .ref mds])), (mtt, .inl (gI g, 2000, .inl tf))]) [0, 1] rfl) rfl rfl) rfl rfl hl.1 rfl (lv_room (Nat.le_of_ble_eq_true rfl)) d_Mod_address_89 ⟨Nat.zero_le _, Nat.zero_le _⟩) (fun r63 er63 => ?_)
                subst er63
                refine lv_if_ne (tgt := 97) hx hb d_Mod_address_92 (by decide) (fun c64 => ?_) (fun c64 => ?_)
                · have c64 := sb_ne0.mp c64
                  have hc1 : 1 ≤ cn := by have := c64.1; omega
                  refine lv_aload_n hx hb d_Mod_address_97 rfl (lv_at hl 3 rfl) ?_
                  refine va_get (D := g.1) (ci := 8) (v := .int (nI (wn st))) (C := "SignDeskModel") (T := F_Mod) (N := 19) hx hb hts in_Mod hown hK hP 0 rfl rfl 4 (by decide) (hts _ k_498) (fun _ h9 => h9) rfl d_Mod_address_98 ?_
                  refine lv_sipush (v := (nI 600)) hx hb d_Mod_address_101 (by decide) ?_
                  refine lv_icmp_ne (tgt := 109) hx hb d_Mod_address_104 (by decide) (fun c65 => ?_) (fun c65 => ?_)
                  · have c65 := mt (nI_eq (by omega) (by omega)).mpr c65
                    refine lv_aload_n hx hb d_Mod_address_109 rfl (lv_at hl 3 rfl) ?_
                    refine va_get (D := g.1) (ci := 8) (v := .ref mcs) (C := "SignDeskModel") (T := F_Mod) (N := 19) hx hb hts in_Mod hown hK hP 0 rfl rfl 10 (by decide) (hts _ k_504) (fun _ h9 => h9) rfl d_Mod_address_110 ?_
                    refine lv_aload_n hx hb d_Mod_address_113 rfl (lv_at hl 3 rfl) ?_
                    refine va_get (D := g.1) (ci := 8) (v := .int (nI (wn st))) (C := "SignDeskModel") (T := F_Mod) (N := 19) hx hb hts in_Mod hown hK hP 0 rfl rfl 4 (by decide) (hts _ k_498) (fun _ h9 => h9) rfl d_Mod_address_114 ?_
                    refine lv_iconst (v := (-1)) hx hb d_Mod_address_117 (by decide) ?_
                    refine va_iast hx hb hK hP hD hS 6 1 rfl rfl (i := (nI (wn st))) (x := (-1)) (vp_in_nI (by omega) (by omega)) d_Mod_address_118 (fun H locs hP hD hS => ?_)
                    have hP : sdP g [(m0, .inr (8, [.ref mtt, .int tk9, .int sz9, .int pl9, .int (nI (wn st)), .ref mcd, .int (nI (sn st)), .ref mat, .ref msz, .ref mvl, .ref mcs, .ref mmm, .int ra, .int rd, .int nx9, .int dn, .ref mkn, .ref mjp, .ref mds])), (mtt, .inl (gI g, 2000, .inl tf)), (mcd, .inl (gI g, 600, .inl cdf)), (mat, .inl (gI g, 40, .inl s1)), (msz, .inl (gI g, 40, .inl s2)), (mvl, .inl (gI g, 40, .inl s3)), (mcs, .inl (gI g, 600, .inl (upd csf ((nI (wn st))).toNatClampNeg (-1)))), (mkn, .inl (gC g, 32, .inl kf))] H := hP
                    have hD : va_D A [(m0, .inr (8, [.ref mtt, .int tk9, .int sz9, .int pl9, .int (nI (wn st)), .ref mcd, .int (nI (sn st)), .ref mat, .ref msz, .ref mvl, .ref mcs, .ref mmm, .int ra, .int rd, .int nx9, .int dn, .ref mkn, .ref mjp, .ref mds])), (mtt, .inl (gI g, 2000, .inl tf)), (mcd, .inl (gI g, 600, .inl cdf)), (mat, .inl (gI g, 40, .inl s1)), (msz, .inl (gI g, 40, .inl s2)), (mvl, .inl (gI g, 40, .inl s3)), (mcs, .inl (gI g, 600, .inl (upd csf ((nI (wn st))).toNatClampNeg (-1)))), (mkn, .inl (gC g, 32, .inl kf))] := hD
                    have eF : (upd csf ((nI (wn st))).toNatClampNeg (-1)) = (upd csf (wn st) (-1)) := by rw [nI_clamp (by omega)]
                    rw [eF] at hP hD
                    refine lv_iload_n hx hb d_Mod_address_119 rfl (lv_at hl 1 rfl) ?_
                    refine lv_if_eq (tgt := 128) hx hb d_Mod_address_120 (by decide) (fun c66 => ?_) (fun c66 => ?_)
                    · refine lv_aload_n hx hb d_Mod_address_128 rfl (lv_at hl 3 rfl) ?_
                      refine lv_iload_n hx hb d_Mod_address_129 rfl (lv_at hl 4 rfl) ?_
                      refine lv_iload_n hx hb d_Mod_address_130 rfl (lv_at hl 5 rfl) ?_
                      refine sd_ri (va_runV (As := [.int (nI a), .int (nI cn)]) (rest := []) ⟨hx, hb, hml, hown, hts⟩ (c_Mod_knownOf l g m0 mtt mcd mat msz mvl mcs mmm mkn mjp mds tk9 sz9 pl9 (nI (wn st)) (nI (sn st)) ra rd nx9 dn kf hRk n tf tx hT a cn hc1 hac htk) (cwV 2 hts (sd_gV k_600 k_602 k_14 k_30 k_603) rfl rfl rfl (by decide +kernel) ⟨Nat.le_of_ble_eq_true rfl, Nat.le_of_ble_eq_true rfl⟩) (sd_preV hK hE (sd_fr hS hA0) (hP.sub (ws' := [(m0, .inr (8, [.ref mtt, .int tk9, .int sz9, .int pl9, .int (nI (wn st)), .ref mcd, .int (nI (sn st)), .ref mat, .ref msz, .ref mvl, .ref mcs, .ref mmm, .int ra, .int rd, .int nx9, .int dn, .ref mkn, .ref mjp, .ref mds])), (mtt, .inl (gI g, 2000, .inl tf)), (mkn, .inl (gC g, 32, .inl kf))]) [0, 1, 7] rfl) rfl rfl) rfl rfl hl.1 rfl (lv_room (Nat.le_of_ble_eq_true rfl)) d_Mod_address_131 ⟨Nat.zero_le _, Nat.zero_le _⟩) (fun r67 er67 => ?_)
                      subst er67
                      have hkn := knK_le (tx := tx) (a := a) (z := a + cn)
                      refine lv_istore (lv' := [(5, .int (nI (knK tx a (a + cn)) - 1)), (3, .int (nI 0)), (4, .int v9), (0, .ref m0), (1, .int (nI a)), (2, .int (nI cn))]) hx hb d_Mod_address_134 hl (by decide) rfl (fun ls hl => ?_)
                      refine lv_iload hx hb d_Mod_address_136 (lv_at hl 0 rfl) ?_
                      refine lv_iconst (v := (-1)) hx hb d_Mod_address_138 (by decide) ?_
                      refine lv_icmp_ne (tgt := 172) hx hb d_Mod_address_139 (by decide) (fun c68 => ?_) (fun c68 => ?_)
                      · have hk0 : ¬ knK tx a (a + cn) = 0 := fun q => c68 (by rw [q]; decide)
                        refine lv_aload_n hx hb d_Mod_address_172 rfl (lv_at hl 3 rfl) ?_
                        refine va_get (D := g.1) (ci := 8) (v := .ref mcd) (C := "SignDeskModel") (T := F_Mod) (N := 19) hx hb hts in_Mod hown hK hP 0 rfl rfl 5 (by decide) (hts _ k_499) (fun _ h9 => h9) rfl d_Mod_address_173 ?_
                        refine lv_aload_n hx hb d_Mod_address_176 rfl (lv_at hl 3 rfl) ?_
                        refine va_get (D := g.1) (ci := 8) (v := .int (nI (wn st))) (C := "SignDeskModel") (T := F_Mod) (N := 19) hx hb hts in_Mod hown hK hP 0 rfl rfl 4 (by decide) (hts _ k_498) (fun _ h9 => h9) rfl d_Mod_address_177 ?_
                        refine lv_iload hx hb d_Mod_address_180 (lv_at hl 0 rfl) ?_
                        refine lv_iconst (v := (-1)) hx hb d_Mod_address_182 (by decide) ?_
                        refine lv_icmp_ne (tgt := 190) hx hb d_Mod_address_183 (by decide) (fun c69 => ?_) (fun c69 => ?_)
                        · refine lv_iload hx hb d_Mod_address_190 (lv_at hl 0 rfl) ?_
                          refine sd_topi (y := nI (knK tx a (a + cn) - 1)) (m1_up hk0) ?_
                          refine va_iast hx hb hK hP hD hS 2 1 rfl rfl (i := (nI (wn st))) (x := (nI (knK tx a (a + cn) - 1))) (vp_in_nI (by omega) (by omega)) d_Mod_address_192 (fun H locs hP hD hS => ?_)
                          have hP : sdP g [(m0, .inr (8, [.ref mtt, .int tk9, .int sz9, .int pl9, .int (nI (wn st)), .ref mcd, .int (nI (sn st)), .ref mat, .ref msz, .ref mvl, .ref mcs, .ref mmm, .int ra, .int rd, .int nx9, .int dn, .ref mkn, .ref mjp, .ref mds])), (mtt, .inl (gI g, 2000, .inl tf)), (mcd, .inl (gI g, 600, .inl (upd cdf ((nI (wn st))).toNatClampNeg (nI (knK tx a (a + cn) - 1))))), (mat, .inl (gI g, 40, .inl s1)), (msz, .inl (gI g, 40, .inl s2)), (mvl, .inl (gI g, 40, .inl s3)), (mcs, .inl (gI g, 600, .inl (upd csf (wn st) (-1)))), (mkn, .inl (gC g, 32, .inl kf))] H := hP
                          have hD : va_D A [(m0, .inr (8, [.ref mtt, .int tk9, .int sz9, .int pl9, .int (nI (wn st)), .ref mcd, .int (nI (sn st)), .ref mat, .ref msz, .ref mvl, .ref mcs, .ref mmm, .int ra, .int rd, .int nx9, .int dn, .ref mkn, .ref mjp, .ref mds])), (mtt, .inl (gI g, 2000, .inl tf)), (mcd, .inl (gI g, 600, .inl (upd cdf ((nI (wn st))).toNatClampNeg (nI (knK tx a (a + cn) - 1))))), (mat, .inl (gI g, 40, .inl s1)), (msz, .inl (gI g, 40, .inl s2)), (mvl, .inl (gI g, 40, .inl s3)), (mcs, .inl (gI g, 600, .inl (upd csf (wn st) (-1)))), (mkn, .inl (gC g, 32, .inl kf))] := hD
                          have eF : (upd cdf ((nI (wn st))).toNatClampNeg (nI (knK tx a (a + cn) - 1))) = (upd cdf (wn st) (nI (knK tx a (a + cn) - 1))) := by rw [nI_clamp (by omega)]
                          rw [eF] at hP hD
                          refine lv_aload_n hx hb d_Mod_address_193 rfl (lv_at hl 3 rfl) ?_
                          refine lv_aload_n hx hb d_Mod_address_194 rfl (lv_at hl 3 rfl) ?_
                          refine va_get (D := g.1) (ci := 8) (v := .int (nI (wn st))) (C := "SignDeskModel") (T := F_Mod) (N := 19) hx hb hts in_Mod hown hK hP 0 rfl rfl 4 (by decide) (hts _ k_498) (fun _ h9 => h9) rfl d_Mod_address_195 ?_
                          refine lv_iconst (v := (nI 1)) hx hb d_Mod_address_198 (by decide) ?_
                          refine lv_iadd hx hb d_Mod_address_199 ?_
                          refine sd_topi (y := nI ((wn st) + 1)) (nI_add _ _) ?_
                          refine va_put (D := g.1) (ci := 8) (v := .int (nI ((wn st) + 1))) (ty := .int) (C := "SignDeskModel") (T := F_Mod) (N := 19) hx hb hts in_Mod t_Mod t_Mod_ok n_Mod hown hK hP hD hS 0 rfl rfl 4 (by decide) (hts _ k_498) (fun _ h9 => h9) rfl (by decide +kernel) rfl rfl (Nat.le_of_ble_eq_true rfl) d_Mod_address_200 (fun H locs hP hD hS => ?_)
                          have hP : sdP g [(m0, .inr (8, [.ref mtt, .int tk9, .int sz9, .int pl9, .int (nI ((wn st) + 1)), .ref mcd, .int (nI (sn st)), .ref mat, .ref msz, .ref mvl, .ref mcs, .ref mmm, .int ra, .int rd, .int nx9, .int dn, .ref mkn, .ref mjp, .ref mds])), (mtt, .inl (gI g, 2000, .inl tf)), (mcd, .inl (gI g, 600, .inl (upd cdf (wn st) (nI (knK tx a (a + cn) - 1))))), (mat, .inl (gI g, 40, .inl s1)), (msz, .inl (gI g, 40, .inl s2)), (mvl, .inl (gI g, 40, .inl s3)), (mcs, .inl (gI g, 600, .inl (upd csf (wn st) (-1)))), (mkn, .inl (gC g, 32, .inl kf))] H := hP
                          have hD : va_D A [(m0, .inr (8, [.ref mtt, .int tk9, .int sz9, .int pl9, .int (nI ((wn st) + 1)), .ref mcd, .int (nI (sn st)), .ref mat, .ref msz, .ref mvl, .ref mcs, .ref mmm, .int ra, .int rd, .int nx9, .int dn, .ref mkn, .ref mjp, .ref mds])), (mtt, .inl (gI g, 2000, .inl tf)), (mcd, .inl (gI g, 600, .inl (upd cdf (wn st) (nI (knK tx a (a + cn) - 1))))), (mat, .inl (gI g, 40, .inl s1)), (msz, .inl (gI g, 40, .inl s2)), (mvl, .inl (gI g, 40, .inl s3)), (mcs, .inl (gI g, 600, .inl (upd csf (wn st) (-1)))), (mkn, .inl (gC g, 32, .inl kf))] := hD
                          refine lv_iconst (v := (nI 0)) hx hb d_Mod_address_203 (by decide) ?_
                          have hP9 := hP.sub (ws' := [(m0, .inr (8, [.ref mtt, .int tk9, .int sz9, .int pl9, .int (nI ((wn st) + 1)), .ref mcd, .int (nI (sn st)), .ref mat, .ref msz, .ref mvl, .ref mcs, .ref mmm, .int ra, .int rd, .int nx9, .int dn, .ref mkn, .ref mjp, .ref mds])), (mtt, .inl (gI g, 2000, .inl tf)), (mcd, .inl (gI g, 600, .inl (upd cdf (wn st) (nI (knK tx a (a + cn) - 1))))), (mat, .inl (gI g, 40, .inl s1)), (msz, .inl (gI g, 40, .inl s2)), (mvl, .inl (gI g, 40, .inl s3)), (mcs, .inl (gI g, 600, .inl (upd csf (wn st) (-1)))), (mkn, .inl (gC g, 32, .inl kf))]) [0, 1, 2, 3, 4, 5, 6, 7] rfl
                          have hD9 := hD.sub (ws' := [(m0, .inr (8, [.ref mtt, .int tk9, .int sz9, .int pl9, .int (nI ((wn st) + 1)), .ref mcd, .int (nI (sn st)), .ref mat, .ref msz, .ref mvl, .ref mcs, .ref mmm, .int ra, .int rd, .int nx9, .int dn, .ref mkn, .ref mjp, .ref mds])), (mtt, .inl (gI g, 2000, .inl tf)), (mcd, .inl (gI g, 600, .inl (upd cdf (wn st) (nI (knK tx a (a + cn) - 1))))), (mat, .inl (gI g, 40, .inl s1)), (msz, .inl (gI g, 40, .inl s2)), (mvl, .inl (gI g, 40, .inl s3)), (mcs, .inl (gI g, 600, .inl (upd csf (wn st) (-1)))), (mkn, .inl (gC g, 32, .inl kf))]) [0, 1, 2, 3, 4, 5, 6, 7] (by decide) rfl
                          exact W.iret (v := (nI 0)) hx hb hr (fun t ht hW => ⟨⟨_, (pushW st (knK tx a (a + cn) - 1) 0, upd cdf (wn st) (nI (knK tx a (a + cn) - 1)), upd csf (wn st) (-1), s1, s2, s3), rfl, ⟨⟨0, by rw [spAddr, cl_t c64, if_neg (by omega), if_neg hk0], rfl⟩, MPR_push (y := 0) hMP (by omega), hSR, hSB⟩, by rw [ht]; exact hP9, by rw [hAe]; exact hD9⟩, hS.F ht⟩) hS.2.2 d_Mod_address_204
                        · exact absurd c69 c68
                      · have hk0 : knK tx a (a + cn) = 0 := (m1_iff (by omega)).mp c68
                        refine lv_aload_n hx hb d_Mod_address_142 rfl (lv_at hl 3 rfl) ?_
                        refine va_get (D := g.1) (ci := 8) (v := .ref mcs) (C := "SignDeskModel") (T := F_Mod) (N := 19) hx hb hts in_Mod hown hK hP 0 rfl rfl 10 (by decide) (hts _ k_504) (fun _ h9 => h9) rfl d_Mod_address_143 ?_
                        refine lv_aload_n hx hb d_Mod_address_146 rfl (lv_at hl 3 rfl) ?_
                        refine va_get (D := g.1) (ci := 8) (v := .int (nI (wn st))) (C := "SignDeskModel") (T := F_Mod) (N := 19) hx hb hts in_Mod hown hK hP 0 rfl rfl 4 (by decide) (hts _ k_498) (fun _ h9 => h9) rfl d_Mod_address_147 ?_
                        refine lv_aload_n hx hb d_Mod_address_150 rfl (lv_at hl 3 rfl) ?_
                        refine lv_iload_n hx hb d_Mod_address_151 rfl (lv_at hl 4 rfl) ?_
                        refine lv_iload_n hx hb d_Mod_address_152 rfl (lv_at hl 5 rfl) ?_
                        have hPc := hP.sub (ws' := [(m0, .inr (8, [.ref mtt, .int tk9, .int sz9, .int pl9, .int (nI (wn st)), .ref mcd, .int (nI (sn st)), .ref mat, .ref msz, .ref mvl, .ref mcs, .ref mmm, .int ra, .int rd, .int nx9, .int dn, .ref mkn, .ref mjp, .ref mds])), (mtt, .inl (gI g, 2000, .inl tf)), (mat, .inl (gI g, 40, .inl s1)), (msz, .inl (gI g, 40, .inl s2)), (mvl, .inl (gI g, 40, .inl s3))]) [0, 1, 3, 4, 5] rfl
                        have hDc := hD.sub (ws' := [(m0, .inr (8, [.ref mtt, .int tk9, .int sz9, .int pl9, .int (nI (wn st)), .ref mcd, .int (nI (sn st)), .ref mat, .ref msz, .ref mvl, .ref mcs, .ref mmm, .int ra, .int rd, .int nx9, .int dn, .ref mkn, .ref mjp, .ref mds])), (mtt, .inl (gI g, 2000, .inl tf)), (mat, .inl (gI g, 40, .inl s1)), (msz, .inl (gI g, 40, .inl s2)), (mvl, .inl (gI g, 40, .inl s3))]) [0, 1, 3, 4, 5] (by decide) rfl
                        have hFc := va_free (wc := [(m0, .inr (8, [.ref mtt, .int tk9, .int sz9, .int pl9, .int (nI (wn st)), .ref mcd, .int (nI (sn st)), .ref mat, .ref msz, .ref mvl, .ref mcs, .ref mmm, .int ra, .int rd, .int nx9, .int dn, .ref mkn, .ref mjp, .ref mds])), (mtt, .inl (gI g, 2000, .inl tf)), (mat, .inl (gI g, 40, .inl s1)), (msz, .inl (gI g, 40, .inl s2)), (mvl, .inl (gI g, 40, .inl s3))]) hD hS hA [0, 1, 3, 4, 5] rfl
                        refine sd_ci (va_runV (As := [.int (nI a), .int (nI cn)]) (rest := [.int (nI (wn st)), .ref mcs]) ⟨hx, hb, hml, hown, hts⟩ (c_Mod_symbolOf l g m0 mtt mcd mat msz mvl mcs mmm mkn mjp mds tk9 sz9 pl9 (nI (wn st)) ra rd nx9 dn n tf tx hT st s1 s2 s3 hSR hSB (a) (cn) (hc1) (by omega) H.size) (cwV 2 hts (sd_gV k_608 k_610 k_16 k_30 k_611) rfl rfl rfl (by decide +kernel) ⟨Nat.le_of_ble_eq_true rfl, Nat.le_of_ble_eq_true rfl⟩) (sd_preVU hK hE hS hA0 hs0 hPc hDc rfl rfl) rfl rfl hl.1 rfl (lv_room (Nat.le_of_ble_eq_true rfl)) d_Mod_address_153 ⟨Nat.zero_le _, Nat.zero_le _⟩) hS hFc (fun r70 u H1 locs hw hP1 hD1 hk1 hS => ?_)
                        obtain ⟨st1, t1, t2, t3⟩ := u
                        obtain ⟨hP, hD⟩ := va_join (wr := [(mcd, .inl (gI g, 600, .inl cdf)), (mcs, .inl (gI g, 600, .inl (upd csf (wn st) (-1)))), (mkn, .inl (gC g, 32, .inl kf))]) (w1 := [(m0, .inr (8, [.ref mtt, .int tk9, .int sz9, .int pl9, .int (nI (wn st)), .ref mcd, .int (nI (sn st1)), .ref mat, .ref msz, .ref mvl, .ref mcs, .ref mmm, .int ra, .int rd, .int nx9, .int dn, .ref mkn, .ref mjp, .ref mds])), (mtt, .inl (gI g, 2000, .inl tf)), (mat, .inl (gI g, 40, .inl t1)), (msz, .inl (gI g, 40, .inl t2)), (mvl, .inl (gI g, 40, .inl t3))]) hP hD [0, 1, 3, 4, 5] [2, 6, 7] rfl rfl (by decide) (by decide) hk1 hFc hP1 hD1
                        clear hPc hDc hFc hk1 hP1 hD1
                        generalize H1 = H at hP hS ⊢
                        have hP : sdP g [(mcd, .inl (gI g, 600, .inl cdf)), (mcs, .inl (gI g, 600, .inl (upd csf (wn st) (-1)))), (mkn, .inl (gC g, 32, .inl kf)), (m0, .inr (8, [.ref mtt, .int tk9, .int sz9, .int pl9, .int (nI (wn st)), .ref mcd, .int (nI (sn st1)), .ref mat, .ref msz, .ref mvl, .ref mcs, .ref mmm, .int ra, .int rd, .int nx9, .int dn, .ref mkn, .ref mjp, .ref mds])), (mtt, .inl (gI g, 2000, .inl tf)), (mat, .inl (gI g, 40, .inl t1)), (msz, .inl (gI g, 40, .inl t2)), (mvl, .inl (gI g, 40, .inl t3))] H := hP
                        have hD : va_D A [(mcd, .inl (gI g, 600, .inl cdf)), (mcs, .inl (gI g, 600, .inl (upd csf (wn st) (-1)))), (mkn, .inl (gC g, 32, .inl kf)), (m0, .inr (8, [.ref mtt, .int tk9, .int sz9, .int pl9, .int (nI (wn st)), .ref mcd, .int (nI (sn st1)), .ref mat, .ref msz, .ref mvl, .ref mcs, .ref mmm, .int ra, .int rd, .int nx9, .int dn, .ref mkn, .ref mjp, .ref mds])), (mtt, .inl (gI g, 2000, .inl tf)), (mat, .inl (gI g, 40, .inl t1)), (msz, .inl (gI g, 40, .inl t2)), (mvl, .inl (gI g, 40, .inl t3))] := hD
                        obtain ⟨⟨cs, hsy, er70⟩, hSR1⟩ := hw
                        have hsy : syO tx st (a) (cn) = (cs, st1) := hsy
                        have hSR1 : SR st1 t1 t2 t3 := hSR1
                        have hst1 : st1.1 = st.1 := by have h := syO_fst (tx := tx) (st := st) (a := a) (n := cn); rw [hsy] at h; exact h
                        have hcs := syO_le (tx := tx) (a := a) (n := cn) h40
                        rw [hsy] at hcs
                        have hcs1 : cs ≤ sn st1 := hcs.1
                        have hcs2 : sn st1 ≤ 40 := hcs.2
                        have hSB1 : SB n st1 := by have h := SB_O (tx := tx) (a := a) (c := cn) hSB (by omega); rw [hsy] at h; exact h
                        subst er70
                        have hwn1 : wn st1 = wn st := by show st1.1.1 = st.1.1; rw [hst1]
                        refine va_iast hx hb hK hP hD hS 1 1 rfl rfl (i := (nI (wn st))) (x := (nI cs - 1)) (vp_in_nI (by omega) (by omega)) d_Mod_address_156 (fun H locs hP hD hS => ?_)
                        have hP : sdP g [(mcd, .inl (gI g, 600, .inl cdf)), (mcs, .inl (gI g, 600, .inl (upd (upd csf (wn st) (-1)) ((nI (wn st))).toNatClampNeg (nI cs - 1)))), (mkn, .inl (gC g, 32, .inl kf)), (m0, .inr (8, [.ref mtt, .int tk9, .int sz9, .int pl9, .int (nI (wn st)), .ref mcd, .int (nI (sn st1)), .ref mat, .ref msz, .ref mvl, .ref mcs, .ref mmm, .int ra, .int rd, .int nx9, .int dn, .ref mkn, .ref mjp, .ref mds])), (mtt, .inl (gI g, 2000, .inl tf)), (mat, .inl (gI g, 40, .inl t1)), (msz, .inl (gI g, 40, .inl t2)), (mvl, .inl (gI g, 40, .inl t3))] H := hP
                        have hD : va_D A [(mcd, .inl (gI g, 600, .inl cdf)), (mcs, .inl (gI g, 600, .inl (upd (upd csf (wn st) (-1)) ((nI (wn st))).toNatClampNeg (nI cs - 1)))), (mkn, .inl (gC g, 32, .inl kf)), (m0, .inr (8, [.ref mtt, .int tk9, .int sz9, .int pl9, .int (nI (wn st)), .ref mcd, .int (nI (sn st1)), .ref mat, .ref msz, .ref mvl, .ref mcs, .ref mmm, .int ra, .int rd, .int nx9, .int dn, .ref mkn, .ref mjp, .ref mds])), (mtt, .inl (gI g, 2000, .inl tf)), (mat, .inl (gI g, 40, .inl t1)), (msz, .inl (gI g, 40, .inl t2)), (mvl, .inl (gI g, 40, .inl t3))] := hD
                        have eF : (upd (upd csf (wn st) (-1)) ((nI (wn st))).toNatClampNeg (nI cs - 1)) = (upd csf (wn st) (nI cs - 1)) := by
                            rw [nI_clamp (by omega)]
                            funext j
                            by_cases q : j = wn st
                            · subst q; rw [pk_us, pk_us]
                            · rw [pk_un q, pk_un q, pk_un q]
                        rw [eF] at hP hD
                        refine lv_aload_n hx hb d_Mod_address_157 rfl (lv_at hl 3 rfl) ?_
                        refine va_get (D := g.1) (ci := 8) (v := .ref mcs) (C := "SignDeskModel") (T := F_Mod) (N := 19) hx hb hts in_Mod hown hK hP 3 rfl rfl 10 (by decide) (hts _ k_504) (fun _ h9 => h9) rfl d_Mod_address_158 ?_
                        refine lv_aload_n hx hb d_Mod_address_161 rfl (lv_at hl 3 rfl) ?_
                        refine va_get (D := g.1) (ci := 8) (v := .int (nI (wn st))) (C := "SignDeskModel") (T := F_Mod) (N := 19) hx hb hts in_Mod hown hK hP 3 rfl rfl 4 (by decide) (hts _ k_498) (fun _ h9 => h9) rfl d_Mod_address_162 ?_
                        refine va_iald hx hb hK hP 1 1 rfl rfl (i := (nI (wn st))) (vp_in_nI (by omega) (by omega)) d_Mod_address_165 ?_
                        refine sd_topi (y := nI cs - 1) (by rw [nI_clamp (by omega)]; exact pk_us) ?_
                        refine lv_iconst (v := (-1)) hx hb d_Mod_address_166 (by decide) ?_
                        refine lv_icmp_ne (tgt := 172) hx hb d_Mod_address_167 (by decide) (fun c71 => ?_) (fun c71 => ?_)
                        · have hc0 : ¬ cs = 0 := fun q => c71 (by rw [q]; decide)
                          refine lv_aload_n hx hb d_Mod_address_172 rfl (lv_at hl 3 rfl) ?_
                          refine va_get (D := g.1) (ci := 8) (v := .ref mcd) (C := "SignDeskModel") (T := F_Mod) (N := 19) hx hb hts in_Mod hown hK hP 3 rfl rfl 5 (by decide) (hts _ k_499) (fun _ h9 => h9) rfl d_Mod_address_173 ?_
                          refine lv_aload_n hx hb d_Mod_address_176 rfl (lv_at hl 3 rfl) ?_
                          refine va_get (D := g.1) (ci := 8) (v := .int (nI (wn st))) (C := "SignDeskModel") (T := F_Mod) (N := 19) hx hb hts in_Mod hown hK hP 3 rfl rfl 4 (by decide) (hts _ k_498) (fun _ h9 => h9) rfl d_Mod_address_177 ?_
                          refine lv_iload hx hb d_Mod_address_180 (lv_at hl 0 rfl) ?_
                          refine lv_iconst (v := (-1)) hx hb d_Mod_address_182 (by decide) ?_
                          refine lv_icmp_ne (tgt := 190) hx hb d_Mod_address_183 (by decide) (fun c72 => ?_) (fun c72 => ?_)
                          · exact absurd c68 c72
                          · refine lv_iconst (v := (nI 0)) hx hb d_Mod_address_186 (by decide) ?_
                            refine lv_goto (tgt := 192) hx hb d_Mod_address_187 (by decide) ?_
                            refine va_iast hx hb hK hP hD hS 0 1 rfl rfl (i := (nI (wn st))) (x := (nI 0)) (vp_in_nI (by omega) (by omega)) d_Mod_address_192 (fun H locs hP hD hS => ?_)
                            have hP : sdP g [(mcd, .inl (gI g, 600, .inl (upd cdf ((nI (wn st))).toNatClampNeg (nI 0)))), (mcs, .inl (gI g, 600, .inl (upd csf (wn st) (nI cs - 1)))), (mkn, .inl (gC g, 32, .inl kf)), (m0, .inr (8, [.ref mtt, .int tk9, .int sz9, .int pl9, .int (nI (wn st)), .ref mcd, .int (nI (sn st1)), .ref mat, .ref msz, .ref mvl, .ref mcs, .ref mmm, .int ra, .int rd, .int nx9, .int dn, .ref mkn, .ref mjp, .ref mds])), (mtt, .inl (gI g, 2000, .inl tf)), (mat, .inl (gI g, 40, .inl t1)), (msz, .inl (gI g, 40, .inl t2)), (mvl, .inl (gI g, 40, .inl t3))] H := hP
                            have hD : va_D A [(mcd, .inl (gI g, 600, .inl (upd cdf ((nI (wn st))).toNatClampNeg (nI 0)))), (mcs, .inl (gI g, 600, .inl (upd csf (wn st) (nI cs - 1)))), (mkn, .inl (gC g, 32, .inl kf)), (m0, .inr (8, [.ref mtt, .int tk9, .int sz9, .int pl9, .int (nI (wn st)), .ref mcd, .int (nI (sn st1)), .ref mat, .ref msz, .ref mvl, .ref mcs, .ref mmm, .int ra, .int rd, .int nx9, .int dn, .ref mkn, .ref mjp, .ref mds])), (mtt, .inl (gI g, 2000, .inl tf)), (mat, .inl (gI g, 40, .inl t1)), (msz, .inl (gI g, 40, .inl t2)), (mvl, .inl (gI g, 40, .inl t3))] := hD
                            have eF : (upd cdf ((nI (wn st))).toNatClampNeg (nI 0)) = (upd cdf (wn st) (nI 0)) := by rw [nI_clamp (by omega)]
                            rw [eF] at hP hD
                            refine lv_aload_n hx hb d_Mod_address_193 rfl (lv_at hl 3 rfl) ?_
                            refine lv_aload_n hx hb d_Mod_address_194 rfl (lv_at hl 3 rfl) ?_
                            refine va_get (D := g.1) (ci := 8) (v := .int (nI (wn st))) (C := "SignDeskModel") (T := F_Mod) (N := 19) hx hb hts in_Mod hown hK hP 3 rfl rfl 4 (by decide) (hts _ k_498) (fun _ h9 => h9) rfl d_Mod_address_195 ?_
                            refine lv_iconst (v := (nI 1)) hx hb d_Mod_address_198 (by decide) ?_
                            refine lv_iadd hx hb d_Mod_address_199 ?_
                            refine sd_topi (y := nI ((wn st) + 1)) (nI_add _ _) ?_
                            refine va_put (D := g.1) (ci := 8) (v := .int (nI ((wn st) + 1))) (ty := .int) (C := "SignDeskModel") (T := F_Mod) (N := 19) hx hb hts in_Mod t_Mod t_Mod_ok n_Mod hown hK hP hD hS 3 rfl rfl 4 (by decide) (hts _ k_498) (fun _ h9 => h9) rfl (by decide +kernel) rfl rfl (Nat.le_of_ble_eq_true rfl) d_Mod_address_200 (fun H locs hP hD hS => ?_)
                            have hP : sdP g [(mcd, .inl (gI g, 600, .inl (upd cdf (wn st) (nI 0)))), (mcs, .inl (gI g, 600, .inl (upd csf (wn st) (nI cs - 1)))), (mkn, .inl (gC g, 32, .inl kf)), (m0, .inr (8, [.ref mtt, .int tk9, .int sz9, .int pl9, .int (nI ((wn st) + 1)), .ref mcd, .int (nI (sn st1)), .ref mat, .ref msz, .ref mvl, .ref mcs, .ref mmm, .int ra, .int rd, .int nx9, .int dn, .ref mkn, .ref mjp, .ref mds])), (mtt, .inl (gI g, 2000, .inl tf)), (mat, .inl (gI g, 40, .inl t1)), (msz, .inl (gI g, 40, .inl t2)), (mvl, .inl (gI g, 40, .inl t3))] H := hP
                            have hD : va_D A [(mcd, .inl (gI g, 600, .inl (upd cdf (wn st) (nI 0)))), (mcs, .inl (gI g, 600, .inl (upd csf (wn st) (nI cs - 1)))), (mkn, .inl (gC g, 32, .inl kf)), (m0, .inr (8, [.ref mtt, .int tk9, .int sz9, .int pl9, .int (nI ((wn st) + 1)), .ref mcd, .int (nI (sn st1)), .ref mat, .ref msz, .ref mvl, .ref mcs, .ref mmm, .int ra, .int rd, .int nx9, .int dn, .ref mkn, .ref mjp, .ref mds])), (mtt, .inl (gI g, 2000, .inl tf)), (mat, .inl (gI g, 40, .inl t1)), (msz, .inl (gI g, 40, .inl t2)), (mvl, .inl (gI g, 40, .inl t3))] := hD
                            refine lv_iconst (v := (nI 0)) hx hb d_Mod_address_203 (by decide) ?_
                            have hMP1 : MPR (pushW st1 0 cs) (upd cdf (wn st) (nI 0)) (upd csf (wn st) (nI cs - 1)) := by
                              have h := MPR_push (c := 0) (y := cs) (MPR_of hMP hst1) (by omega)
                              rw [hwn1] at h; exact h
                            have hP : sdP g [(mcd, .inl (gI g, 600, .inl (upd cdf (wn st) (nI 0)))), (mcs, .inl (gI g, 600, .inl (upd csf (wn st) (nI cs - 1)))), (mkn, .inl (gC g, 32, .inl kf)), (m0, .inr (8, [.ref mtt, .int tk9, .int sz9, .int pl9, .int (nI (wn st1 + 1)), .ref mcd, .int (nI (sn st1)), .ref mat, .ref msz, .ref mvl, .ref mcs, .ref mmm, .int ra, .int rd, .int nx9, .int dn, .ref mkn, .ref mjp, .ref mds])), (mtt, .inl (gI g, 2000, .inl tf)), (mat, .inl (gI g, 40, .inl t1)), (msz, .inl (gI g, 40, .inl t2)), (mvl, .inl (gI g, 40, .inl t3))] H := by rw [hwn1]; exact hP
                            have hD : va_D A [(mcd, .inl (gI g, 600, .inl (upd cdf (wn st) (nI 0)))), (mcs, .inl (gI g, 600, .inl (upd csf (wn st) (nI cs - 1)))), (mkn, .inl (gC g, 32, .inl kf)), (m0, .inr (8, [.ref mtt, .int tk9, .int sz9, .int pl9, .int (nI (wn st1 + 1)), .ref mcd, .int (nI (sn st1)), .ref mat, .ref msz, .ref mvl, .ref mcs, .ref mmm, .int ra, .int rd, .int nx9, .int dn, .ref mkn, .ref mjp, .ref mds])), (mtt, .inl (gI g, 2000, .inl tf)), (mat, .inl (gI g, 40, .inl t1)), (msz, .inl (gI g, 40, .inl t2)), (mvl, .inl (gI g, 40, .inl t3))] := by rw [hwn1]; exact hD
                            have hP9 := hP.sub (ws' := [(m0, .inr (8, [.ref mtt, .int tk9, .int sz9, .int pl9, .int (nI (wn st1 + 1)), .ref mcd, .int (nI (sn st1)), .ref mat, .ref msz, .ref mvl, .ref mcs, .ref mmm, .int ra, .int rd, .int nx9, .int dn, .ref mkn, .ref mjp, .ref mds])), (mtt, .inl (gI g, 2000, .inl tf)), (mcd, .inl (gI g, 600, .inl (upd cdf (wn st) (nI 0)))), (mat, .inl (gI g, 40, .inl t1)), (msz, .inl (gI g, 40, .inl t2)), (mvl, .inl (gI g, 40, .inl t3)), (mcs, .inl (gI g, 600, .inl (upd csf (wn st) (nI cs - 1)))), (mkn, .inl (gC g, 32, .inl kf))]) [3, 4, 0, 5, 6, 7, 1, 2] rfl
                            have hD9 := hD.sub (ws' := [(m0, .inr (8, [.ref mtt, .int tk9, .int sz9, .int pl9, .int (nI (wn st1 + 1)), .ref mcd, .int (nI (sn st1)), .ref mat, .ref msz, .ref mvl, .ref mcs, .ref mmm, .int ra, .int rd, .int nx9, .int dn, .ref mkn, .ref mjp, .ref mds])), (mtt, .inl (gI g, 2000, .inl tf)), (mcd, .inl (gI g, 600, .inl (upd cdf (wn st) (nI 0)))), (mat, .inl (gI g, 40, .inl t1)), (msz, .inl (gI g, 40, .inl t2)), (mvl, .inl (gI g, 40, .inl t3)), (mcs, .inl (gI g, 600, .inl (upd csf (wn st) (nI cs - 1)))), (mkn, .inl (gC g, 32, .inl kf))]) [3, 4, 0, 5, 6, 7, 1, 2] (by decide) rfl
                            exact W.iret (v := (nI 0)) hx hb hr (fun t ht hW => ⟨⟨_, (pushW st1 0 cs, upd cdf (wn st) (nI 0), upd csf (wn st) (nI cs - 1), t1, t2, t3), rfl, ⟨⟨0, by rw [spAddr, cl_t c64, if_neg (by omega), if_pos hk0, hzz, hsy, if_neg hc0], rfl⟩, hMP1, hSR1, hSB1⟩, by rw [ht]; exact hP9, by rw [hAe]; exact hD9⟩, hS.F ht⟩) hS.2.2 d_Mod_address_204
                        · have hc0 : cs = 0 := (m1_iff (by omega)).mp c71
                          have hP : sdP g [(mcd, .inl (gI g, 600, .inl cdf)), (mcs, .inl (gI g, 600, .inl (upd csf (wn st) (nI cs - 1)))), (mkn, .inl (gC g, 32, .inl kf)), (m0, .inr (8, [.ref mtt, .int tk9, .int sz9, .int pl9, .int (nI (wn st1)), .ref mcd, .int (nI (sn st1)), .ref mat, .ref msz, .ref mvl, .ref mcs, .ref mmm, .int ra, .int rd, .int nx9, .int dn, .ref mkn, .ref mjp, .ref mds])), (mtt, .inl (gI g, 2000, .inl tf)), (mat, .inl (gI g, 40, .inl t1)), (msz, .inl (gI g, 40, .inl t2)), (mvl, .inl (gI g, 40, .inl t3))] H := by rw [hwn1]; exact hP
                          have hD : va_D A [(mcd, .inl (gI g, 600, .inl cdf)), (mcs, .inl (gI g, 600, .inl (upd csf (wn st) (nI cs - 1)))), (mkn, .inl (gC g, 32, .inl kf)), (m0, .inr (8, [.ref mtt, .int tk9, .int sz9, .int pl9, .int (nI (wn st1)), .ref mcd, .int (nI (sn st1)), .ref mat, .ref msz, .ref mvl, .ref mcs, .ref mmm, .int ra, .int rd, .int nx9, .int dn, .ref mkn, .ref mjp, .ref mds])), (mtt, .inl (gI g, 2000, .inl tf)), (mat, .inl (gI g, 40, .inl t1)), (msz, .inl (gI g, 40, .inl t2)), (mvl, .inl (gI g, 40, .inl t3))] := by rw [hwn1]; exact hD
                          refine lv_iconst (v := (nI 2)) hx hb d_Mod_address_170 (by decide) ?_
                          have hP9 := hP.sub (ws' := [(m0, .inr (8, [.ref mtt, .int tk9, .int sz9, .int pl9, .int (nI (wn st1)), .ref mcd, .int (nI (sn st1)), .ref mat, .ref msz, .ref mvl, .ref mcs, .ref mmm, .int ra, .int rd, .int nx9, .int dn, .ref mkn, .ref mjp, .ref mds])), (mtt, .inl (gI g, 2000, .inl tf)), (mcd, .inl (gI g, 600, .inl cdf)), (mat, .inl (gI g, 40, .inl t1)), (msz, .inl (gI g, 40, .inl t2)), (mvl, .inl (gI g, 40, .inl t3)), (mcs, .inl (gI g, 600, .inl (upd csf (wn st) (nI cs - 1)))), (mkn, .inl (gC g, 32, .inl kf))]) [3, 4, 0, 5, 6, 7, 1, 2] rfl
                          have hD9 := hD.sub (ws' := [(m0, .inr (8, [.ref mtt, .int tk9, .int sz9, .int pl9, .int (nI (wn st1)), .ref mcd, .int (nI (sn st1)), .ref mat, .ref msz, .ref mvl, .ref mcs, .ref mmm, .int ra, .int rd, .int nx9, .int dn, .ref mkn, .ref mjp, .ref mds])), (mtt, .inl (gI g, 2000, .inl tf)), (mcd, .inl (gI g, 600, .inl cdf)), (mat, .inl (gI g, 40, .inl t1)), (msz, .inl (gI g, 40, .inl t2)), (mvl, .inl (gI g, 40, .inl t3)), (mcs, .inl (gI g, 600, .inl (upd csf (wn st) (nI cs - 1)))), (mkn, .inl (gC g, 32, .inl kf))]) [3, 4, 0, 5, 6, 7, 1, 2] (by decide) rfl
                          exact W.iret (v := (nI 2)) hx hb hr (fun t ht hW => ⟨⟨_, (st1, cdf, upd csf (wn st) (nI cs - 1), t1, t2, t3), rfl, ⟨⟨2, by rw [spAddr, cl_t c64, if_neg (by omega), if_pos hk0, hzz, hsy, if_pos hc0], rfl⟩, MPR_of (MPR_cs hMP) hst1, hSR1, hSB1⟩, by rw [ht]; exact hP9, by rw [hAe]; exact hD9⟩, hS.F ht⟩) hS.2.2 d_Mod_address_171
                    · exact absurd rfl c66
                  · have c65 := (nI_eq (by omega) (by omega)).mp c65
                    refine lv_iconst (v := (nI 2)) hx hb d_Mod_address_107 (by decide) ?_
                    have hP9 := hP.sub (ws' := [(m0, .inr (8, [.ref mtt, .int tk9, .int sz9, .int pl9, .int (nI (wn st)), .ref mcd, .int (nI (sn st)), .ref mat, .ref msz, .ref mvl, .ref mcs, .ref mmm, .int ra, .int rd, .int nx9, .int dn, .ref mkn, .ref mjp, .ref mds])), (mtt, .inl (gI g, 2000, .inl tf)), (mcd, .inl (gI g, 600, .inl cdf)), (mat, .inl (gI g, 40, .inl s1)), (msz, .inl (gI g, 40, .inl s2)), (mvl, .inl (gI g, 40, .inl s3)), (mcs, .inl (gI g, 600, .inl csf)), (mkn, .inl (gC g, 32, .inl kf))]) [0, 1, 2, 3, 4, 5, 6, 7] rfl
                    have hD9 := hD.sub (ws' := [(m0, .inr (8, [.ref mtt, .int tk9, .int sz9, .int pl9, .int (nI (wn st)), .ref mcd, .int (nI (sn st)), .ref mat, .ref msz, .ref mvl, .ref mcs, .ref mmm, .int ra, .int rd, .int nx9, .int dn, .ref mkn, .ref mjp, .ref mds])), (mtt, .inl (gI g, 2000, .inl tf)), (mcd, .inl (gI g, 600, .inl cdf)), (mat, .inl (gI g, 40, .inl s1)), (msz, .inl (gI g, 40, .inl s2)), (mvl, .inl (gI g, 40, .inl s3)), (mcs, .inl (gI g, 600, .inl csf)), (mkn, .inl (gC g, 32, .inl kf))]) [0, 1, 2, 3, 4, 5, 6, 7] (by decide) rfl
                    exact W.iret (v := (nI 2)) hx hb hr (fun t ht hW => ⟨⟨_, (st, cdf, csf, s1, s2, s3), rfl, ⟨⟨2, by rw [spAddr, cl_t c64, if_pos (by omega)], rfl⟩, hMP, hSR, hSB⟩, by rw [ht]; exact hP9, by rw [hAe]; exact hD9⟩, hS.F ht⟩) hS.2.2 d_Mod_address_108
                · have c64 := sb_eq0.mp c64
                  refine lv_iconst (v := (nI 1)) hx hb d_Mod_address_95 (by decide) ?_
                  have hP9 := hP.sub (ws' := [(m0, .inr (8, [.ref mtt, .int tk9, .int sz9, .int pl9, .int (nI (wn st)), .ref mcd, .int (nI (sn st)), .ref mat, .ref msz, .ref mvl, .ref mcs, .ref mmm, .int ra, .int rd, .int nx9, .int dn, .ref mkn, .ref mjp, .ref mds])), (mtt, .inl (gI g, 2000, .inl tf)), (mcd, .inl (gI g, 600, .inl cdf)), (mat, .inl (gI g, 40, .inl s1)), (msz, .inl (gI g, 40, .inl s2)), (mvl, .inl (gI g, 40, .inl s3)), (mcs, .inl (gI g, 600, .inl csf)), (mkn, .inl (gC g, 32, .inl kf))]) [0, 1, 2, 3, 4, 5, 6, 7] rfl
                  have hD9 := hD.sub (ws' := [(m0, .inr (8, [.ref mtt, .int tk9, .int sz9, .int pl9, .int (nI (wn st)), .ref mcd, .int (nI (sn st)), .ref mat, .ref msz, .ref mvl, .ref mcs, .ref mmm, .int ra, .int rd, .int nx9, .int dn, .ref mkn, .ref mjp, .ref mds])), (mtt, .inl (gI g, 2000, .inl tf)), (mcd, .inl (gI g, 600, .inl cdf)), (mat, .inl (gI g, 40, .inl s1)), (msz, .inl (gI g, 40, .inl s2)), (mvl, .inl (gI g, 40, .inl s3)), (mcs, .inl (gI g, 600, .inl csf)), (mkn, .inl (gC g, 32, .inl kf))]) [0, 1, 2, 3, 4, 5, 6, 7] (by decide) rfl
                  exact W.iret (v := (nI 1)) hx hb hr (fun t ht hW => ⟨⟨_, (st, cdf, csf, s1, s2, s3), rfl, ⟨⟨1, by rw [spAddr, cl_f c64, cl_f hnn], rfl⟩, hMP, hSR, hSB⟩, by rw [ht]; exact hP9, by rw [hAe]; exact hD9⟩, hS.F ht⟩) hS.2.2 d_Mod_address_96
            · exact absurd rfl c61
          · exact absurd rfl c60
    · have c37 := mt (nI_ltI (by omega) (by omega)).mpr c37
      refine lv_iconst (v := (nI 1)) hx hb d_Mod_address_9 (by decide) ?_
      refine lv_goto (tgt := 14) hx hb d_Mod_address_10 (by decide) ?_
      refine lv_istore_n (lv' := [(3, .int (nI 1)), (0, .ref m0), (1, .int (nI a)), (2, .int (nI cn))]) hx hb d_Mod_address_14 rfl hl (by decide) rfl (fun ls hl => ?_)
      refine lv_iconst (v := (nI 0)) hx hb d_Mod_address_15 (by decide) ?_
      refine lv_istore (lv' := [(4, .int (nI 0)), (3, .int (nI 1)), (0, .ref m0), (1, .int (nI a)), (2, .int (nI cn))]) hx hb d_Mod_address_16 hl (by decide) rfl (fun ls hl => ?_)
      refine lv_iconst (v := (nI 0)) hx hb d_Mod_address_18 (by decide) ?_
      refine lv_istore (lv' := [(5, .int (nI 0)), (4, .int (nI 0)), (3, .int (nI 1)), (0, .ref m0), (1, .int (nI a)), (2, .int (nI cn))]) hx hb d_Mod_address_19 hl (by decide) rfl (fun ls hl => ?_)
      refine sd_loopr (fun (x : Nat × Int32 × Int32) ls => match x with | (k, d3, v9) => lv_has ls 6 [(5, .int (nI k)), (3, .int d3), (4, .int v9), (0, .ref m0), (1, .int (nI a)), (2, .int (nI cn))] ∧ (k ≤ cn) ∧ ((d3 = nI 1 ∧ 0 < cn ∧ cn ≤ 5 ∧ (∀ j, j < k → isDg (tx (a + j))) ∧ v9 = nI (nV tx a k)) ∨ (d3 = nI 0 ∧ ¬ (0 < cn ∧ cn ≤ 5 ∧ ∀ j, j < cn → isDg (tx (a + j)))))) (fun (x : Nat × Int32 × Int32) => match x with | (k, d3, v9) => cn - k) 21 [] (fun x ls hI ih => ?_) (0, nI 1, nI 0) ⟨lv_sub hl [0, 2, 1, 3, 4, 5] rfl, Nat.zero_le _, Or.inl ⟨rfl, by omega, by omega, fun j h => absurd h (Nat.not_lt_zero j), rfl⟩⟩
      obtain ⟨k, d3, v9⟩ := x
      obtain ⟨hl, h1, h2⟩ := hI
      refine lv_iload hx hb d_Mod_address_21 (lv_at hl 0 rfl) ?_
      refine lv_iload_n hx hb d_Mod_address_23 rfl (lv_at hl 5 rfl) ?_
      refine lv_icmp_ge (tgt := 70) hx hb d_Mod_address_24 (by decide) (fun c73 => ?_) (fun c73 => ?_)
      · have c73 := (nI_leI (by omega) (by omega)).mp c73
        rcases h2 with h2 | h2
        · have ek : k = cn := by omega
          subst ek
          obtain ⟨rfl, g1, g2, g3, rfl⟩ := h2
          refine lv_iload_n hx hb d_Mod_address_70 rfl (lv_at hl 1 rfl) ?_
          have g4 : nV tx a k < 10 ^ k := nV_lt (fun j h5 h6 => by have := g3 (j - a) (by omega); rw [show a + (j - a) = j by omega] at this; exact this)
          have g5 : (10 : Nat) ^ k ≤ 10 ^ 5 := Nat.pow_le_pow_right (by decide) (by omega)
          have hns : ¬ syP tx a (a + k) := fun q => q.2.2.1 (g3 0 (by omega))
          have hzz : a + k - a = k := by omega
          refine lv_if_eq (tgt := 82) hx hb d_Mod_address_71 (by decide) (fun c74 => ?_) (fun c74 => ?_)
          · exact absurd c74 (by decide)
          · refine lv_iload hx hb d_Mod_address_74 (lv_at hl 2 rfl) ?_
            refine lv_sipush (v := (nI 32767)) hx hb d_Mod_address_76 (by decide) ?_
            refine lv_icmp_gt (tgt := 95) hx hb d_Mod_address_79 (by decide) (fun c75 => ?_) (fun c75 => ?_)
            · have c75 := (nI_ltI (by omega) (by omega)).mp c75
              refine lv_iconst (v := (nI 1)) hx hb d_Mod_address_95 (by decide) ?_
              have hP9 := hP.sub (ws' := [(m0, .inr (8, [.ref mtt, .int tk9, .int sz9, .int pl9, .int (nI (wn st)), .ref mcd, .int (nI (sn st)), .ref mat, .ref msz, .ref mvl, .ref mcs, .ref mmm, .int ra, .int rd, .int nx9, .int dn, .ref mkn, .ref mjp, .ref mds])), (mtt, .inl (gI g, 2000, .inl tf)), (mcd, .inl (gI g, 600, .inl cdf)), (mat, .inl (gI g, 40, .inl s1)), (msz, .inl (gI g, 40, .inl s2)), (mvl, .inl (gI g, 40, .inl s3)), (mcs, .inl (gI g, 600, .inl csf)), (mkn, .inl (gC g, 32, .inl kf))]) [0, 1, 2, 3, 4, 5, 6, 7] rfl
              have hD9 := hD.sub (ws' := [(m0, .inr (8, [.ref mtt, .int tk9, .int sz9, .int pl9, .int (nI (wn st)), .ref mcd, .int (nI (sn st)), .ref mat, .ref msz, .ref mvl, .ref mcs, .ref mmm, .int ra, .int rd, .int nx9, .int dn, .ref mkn, .ref mjp, .ref mds])), (mtt, .inl (gI g, 2000, .inl tf)), (mcd, .inl (gI g, 600, .inl cdf)), (mat, .inl (gI g, 40, .inl s1)), (msz, .inl (gI g, 40, .inl s2)), (mvl, .inl (gI g, 40, .inl s3)), (mcs, .inl (gI g, 600, .inl csf)), (mkn, .inl (gC g, 32, .inl kf))]) [0, 1, 2, 3, 4, 5, 6, 7] (by decide) rfl
              exact W.iret (v := (nI 1)) hx hb hr (fun t ht hW => ⟨⟨_, (st, cdf, csf, s1, s2, s3), rfl, ⟨⟨1, by rw [spAddr, cl_f hns, cl_f (fun q => absurd q.2.2.2 (by rw [hzz]; omega))], rfl⟩, hMP, hSR, hSB⟩, by rw [ht]; exact hP9, by rw [hAe]; exact hD9⟩, hS.F ht⟩) hS.2.2 d_Mod_address_96
            · have c75 := mt (nI_ltI (by omega) (by omega)).mpr c75
              have hnu : nuP tx a (a + k) := ⟨by omega, by omega, fun j h5 h6 => by have := g3 (j - a) (by omega); rw [show a + (j - a) = j by omega] at this; exact this, by rw [hzz]; omega⟩
              refine lv_iload_n hx hb d_Mod_address_82 rfl (lv_at hl 1 rfl) ?_
              refine lv_if_ne (tgt := 97) hx hb d_Mod_address_83 (by decide) (fun c76 => ?_) (fun c76 => ?_)
              · refine lv_aload_n hx hb d_Mod_address_97 rfl (lv_at hl 3 rfl) ?_
                refine va_get (D := g.1) (ci := 8) (v := .int (nI (wn st))) (C := "SignDeskModel") (T := F_Mod) (N := 19) hx hb hts in_Mod hown hK hP 0 rfl rfl 4 (by decide) (hts _ k_498) (fun _ h9 => h9) rfl d_Mod_address_98 ?_
                refine lv_sipush (v := (nI 600)) hx hb d_Mod_address_101 (by decide) ?_
                refine lv_icmp_ne (tgt := 109) hx hb d_Mod_address_104 (by decide) (fun c77 => ?_) (fun c77 => ?_)
                · have c77 := mt (nI_eq (by omega) (by omega)).mpr c77
                  refine lv_aload_n hx hb d_Mod_address_109 rfl (lv_at hl 3 rfl) ?_
                  refine va_get (D := g.1) (ci := 8) (v := .ref mcs) (C := "SignDeskModel") (T := F_Mod) (N := 19) hx hb hts in_Mod hown hK hP 0 rfl rfl 10 (by decide) (hts _ k_504) (fun _ h9 => h9) rfl d_Mod_address_110 ?_
                  refine lv_aload_n hx hb d_Mod_address_113 rfl (lv_at hl 3 rfl) ?_
                  refine va_get (D := g.1) (ci := 8) (v := .int (nI (wn st))) (C := "SignDeskModel") (T := F_Mod) (N := 19) hx hb hts in_Mod hown hK hP 0 rfl rfl 4 (by decide) (hts _ k_498) (fun _ h9 => h9) rfl d_Mod_address_114 ?_
                  refine lv_iconst (v := (-1)) hx hb d_Mod_address_117 (by decide) ?_
                  refine va_iast hx hb hK hP hD hS 6 1 rfl rfl (i := (nI (wn st))) (x := (-1)) (vp_in_nI (by omega) (by omega)) d_Mod_address_118 (fun H locs hP hD hS => ?_)
                  have hP : sdP g [(m0, .inr (8, [.ref mtt, .int tk9, .int sz9, .int pl9, .int (nI (wn st)), .ref mcd, .int (nI (sn st)), .ref mat, .ref msz, .ref mvl, .ref mcs, .ref mmm, .int ra, .int rd, .int nx9, .int dn, .ref mkn, .ref mjp, .ref mds])), (mtt, .inl (gI g, 2000, .inl tf)), (mcd, .inl (gI g, 600, .inl cdf)), (mat, .inl (gI g, 40, .inl s1)), (msz, .inl (gI g, 40, .inl s2)), (mvl, .inl (gI g, 40, .inl s3)), (mcs, .inl (gI g, 600, .inl (upd csf ((nI (wn st))).toNatClampNeg (-1)))), (mkn, .inl (gC g, 32, .inl kf))] H := hP
                  have hD : va_D A [(m0, .inr (8, [.ref mtt, .int tk9, .int sz9, .int pl9, .int (nI (wn st)), .ref mcd, .int (nI (sn st)), .ref mat, .ref msz, .ref mvl, .ref mcs, .ref mmm, .int ra, .int rd, .int nx9, .int dn, .ref mkn, .ref mjp, .ref mds])), (mtt, .inl (gI g, 2000, .inl tf)), (mcd, .inl (gI g, 600, .inl cdf)), (mat, .inl (gI g, 40, .inl s1)), (msz, .inl (gI g, 40, .inl s2)), (mvl, .inl (gI g, 40, .inl s3)), (mcs, .inl (gI g, 600, .inl (upd csf ((nI (wn st))).toNatClampNeg (-1)))), (mkn, .inl (gC g, 32, .inl kf))] := hD
                  have eF : (upd csf ((nI (wn st))).toNatClampNeg (-1)) = (upd csf (wn st) (-1)) := by rw [nI_clamp (by omega)]
                  rw [eF] at hP hD
                  refine lv_iload_n hx hb d_Mod_address_119 rfl (lv_at hl 1 rfl) ?_
                  refine lv_if_eq (tgt := 128) hx hb d_Mod_address_120 (by decide) (fun c78 => ?_) (fun c78 => ?_)
                  · exact absurd c78 (by decide)
                  · refine lv_iload hx hb d_Mod_address_123 (lv_at hl 2 rfl) ?_
                    refine lv_goto (tgt := 134) hx hb d_Mod_address_125 (by decide) ?_
                    refine lv_istore (lv' := [(5, .int (nI (nV tx a k))), (3, .int (nI 1)), (4, .int (nI (nV tx a k))), (0, .ref m0), (1, .int (nI a)), (2, .int (nI k))]) hx hb d_Mod_address_134 hl (by decide) rfl (fun ls hl => ?_)
                    refine lv_iload hx hb d_Mod_address_136 (lv_at hl 0 rfl) ?_
                    refine lv_iconst (v := (-1)) hx hb d_Mod_address_138 (by decide) ?_
                    refine lv_icmp_ne (tgt := 172) hx hb d_Mod_address_139 (by decide) (fun c79 => ?_) (fun c79 => ?_)
                    · refine lv_aload_n hx hb d_Mod_address_172 rfl (lv_at hl 3 rfl) ?_
                      refine va_get (D := g.1) (ci := 8) (v := .ref mcd) (C := "SignDeskModel") (T := F_Mod) (N := 19) hx hb hts in_Mod hown hK hP 0 rfl rfl 5 (by decide) (hts _ k_499) (fun _ h9 => h9) rfl d_Mod_address_173 ?_
                      refine lv_aload_n hx hb d_Mod_address_176 rfl (lv_at hl 3 rfl) ?_
                      refine va_get (D := g.1) (ci := 8) (v := .int (nI (wn st))) (C := "SignDeskModel") (T := F_Mod) (N := 19) hx hb hts in_Mod hown hK hP 0 rfl rfl 4 (by decide) (hts _ k_498) (fun _ h9 => h9) rfl d_Mod_address_177 ?_
                      refine lv_iload hx hb d_Mod_address_180 (lv_at hl 0 rfl) ?_
                      refine lv_iconst (v := (-1)) hx hb d_Mod_address_182 (by decide) ?_
                      refine lv_icmp_ne (tgt := 190) hx hb d_Mod_address_183 (by decide) (fun c80 => ?_) (fun c80 => ?_)
                      · refine lv_iload hx hb d_Mod_address_190 (lv_at hl 0 rfl) ?_
                        refine va_iast hx hb hK hP hD hS 2 1 rfl rfl (i := (nI (wn st))) (x := (nI (nV tx a k))) (vp_in_nI (by omega) (by omega)) d_Mod_address_192 (fun H locs hP hD hS => ?_)
                        have hP : sdP g [(m0, .inr (8, [.ref mtt, .int tk9, .int sz9, .int pl9, .int (nI (wn st)), .ref mcd, .int (nI (sn st)), .ref mat, .ref msz, .ref mvl, .ref mcs, .ref mmm, .int ra, .int rd, .int nx9, .int dn, .ref mkn, .ref mjp, .ref mds])), (mtt, .inl (gI g, 2000, .inl tf)), (mcd, .inl (gI g, 600, .inl (upd cdf ((nI (wn st))).toNatClampNeg (nI (nV tx a k))))), (mat, .inl (gI g, 40, .inl s1)), (msz, .inl (gI g, 40, .inl s2)), (mvl, .inl (gI g, 40, .inl s3)), (mcs, .inl (gI g, 600, .inl (upd csf (wn st) (-1)))), (mkn, .inl (gC g, 32, .inl kf))] H := hP
                        have hD : va_D A [(m0, .inr (8, [.ref mtt, .int tk9, .int sz9, .int pl9, .int (nI (wn st)), .ref mcd, .int (nI (sn st)), .ref mat, .ref msz, .ref mvl, .ref mcs, .ref mmm, .int ra, .int rd, .int nx9, .int dn, .ref mkn, .ref mjp, .ref mds])), (mtt, .inl (gI g, 2000, .inl tf)), (mcd, .inl (gI g, 600, .inl (upd cdf ((nI (wn st))).toNatClampNeg (nI (nV tx a k))))), (mat, .inl (gI g, 40, .inl s1)), (msz, .inl (gI g, 40, .inl s2)), (mvl, .inl (gI g, 40, .inl s3)), (mcs, .inl (gI g, 600, .inl (upd csf (wn st) (-1)))), (mkn, .inl (gC g, 32, .inl kf))] := hD
                        have eF : (upd cdf ((nI (wn st))).toNatClampNeg (nI (nV tx a k))) = (upd cdf (wn st) (nI (nV tx a k))) := by rw [nI_clamp (by omega)]
                        rw [eF] at hP hD
                        refine lv_aload_n hx hb d_Mod_address_193 rfl (lv_at hl 3 rfl) ?_
                        refine lv_aload_n hx hb d_Mod_address_194 rfl (lv_at hl 3 rfl) ?_
                        refine va_get (D := g.1) (ci := 8) (v := .int (nI (wn st))) (C := "SignDeskModel") (T := F_Mod) (N := 19) hx hb hts in_Mod hown hK hP 0 rfl rfl 4 (by decide) (hts _ k_498) (fun _ h9 => h9) rfl d_Mod_address_195 ?_
                        refine lv_iconst (v := (nI 1)) hx hb d_Mod_address_198 (by decide) ?_
                        refine lv_iadd hx hb d_Mod_address_199 ?_
                        refine sd_topi (y := nI ((wn st) + 1)) (nI_add _ _) ?_
                        refine va_put (D := g.1) (ci := 8) (v := .int (nI ((wn st) + 1))) (ty := .int) (C := "SignDeskModel") (T := F_Mod) (N := 19) hx hb hts in_Mod t_Mod t_Mod_ok n_Mod hown hK hP hD hS 0 rfl rfl 4 (by decide) (hts _ k_498) (fun _ h9 => h9) rfl (by decide +kernel) rfl rfl (Nat.le_of_ble_eq_true rfl) d_Mod_address_200 (fun H locs hP hD hS => ?_)
                        have hP : sdP g [(m0, .inr (8, [.ref mtt, .int tk9, .int sz9, .int pl9, .int (nI ((wn st) + 1)), .ref mcd, .int (nI (sn st)), .ref mat, .ref msz, .ref mvl, .ref mcs, .ref mmm, .int ra, .int rd, .int nx9, .int dn, .ref mkn, .ref mjp, .ref mds])), (mtt, .inl (gI g, 2000, .inl tf)), (mcd, .inl (gI g, 600, .inl (upd cdf (wn st) (nI (nV tx a k))))), (mat, .inl (gI g, 40, .inl s1)), (msz, .inl (gI g, 40, .inl s2)), (mvl, .inl (gI g, 40, .inl s3)), (mcs, .inl (gI g, 600, .inl (upd csf (wn st) (-1)))), (mkn, .inl (gC g, 32, .inl kf))] H := hP
                        have hD : va_D A [(m0, .inr (8, [.ref mtt, .int tk9, .int sz9, .int pl9, .int (nI ((wn st) + 1)), .ref mcd, .int (nI (sn st)), .ref mat, .ref msz, .ref mvl, .ref mcs, .ref mmm, .int ra, .int rd, .int nx9, .int dn, .ref mkn, .ref mjp, .ref mds])), (mtt, .inl (gI g, 2000, .inl tf)), (mcd, .inl (gI g, 600, .inl (upd cdf (wn st) (nI (nV tx a k))))), (mat, .inl (gI g, 40, .inl s1)), (msz, .inl (gI g, 40, .inl s2)), (mvl, .inl (gI g, 40, .inl s3)), (mcs, .inl (gI g, 600, .inl (upd csf (wn st) (-1)))), (mkn, .inl (gC g, 32, .inl kf))] := hD
                        refine lv_iconst (v := (nI 0)) hx hb d_Mod_address_203 (by decide) ?_
                        have hP9 := hP.sub (ws' := [(m0, .inr (8, [.ref mtt, .int tk9, .int sz9, .int pl9, .int (nI ((wn st) + 1)), .ref mcd, .int (nI (sn st)), .ref mat, .ref msz, .ref mvl, .ref mcs, .ref mmm, .int ra, .int rd, .int nx9, .int dn, .ref mkn, .ref mjp, .ref mds])), (mtt, .inl (gI g, 2000, .inl tf)), (mcd, .inl (gI g, 600, .inl (upd cdf (wn st) (nI (nV tx a k))))), (mat, .inl (gI g, 40, .inl s1)), (msz, .inl (gI g, 40, .inl s2)), (mvl, .inl (gI g, 40, .inl s3)), (mcs, .inl (gI g, 600, .inl (upd csf (wn st) (-1)))), (mkn, .inl (gC g, 32, .inl kf))]) [0, 1, 2, 3, 4, 5, 6, 7] rfl
                        have hD9 := hD.sub (ws' := [(m0, .inr (8, [.ref mtt, .int tk9, .int sz9, .int pl9, .int (nI ((wn st) + 1)), .ref mcd, .int (nI (sn st)), .ref mat, .ref msz, .ref mvl, .ref mcs, .ref mmm, .int ra, .int rd, .int nx9, .int dn, .ref mkn, .ref mjp, .ref mds])), (mtt, .inl (gI g, 2000, .inl tf)), (mcd, .inl (gI g, 600, .inl (upd cdf (wn st) (nI (nV tx a k))))), (mat, .inl (gI g, 40, .inl s1)), (msz, .inl (gI g, 40, .inl s2)), (mvl, .inl (gI g, 40, .inl s3)), (mcs, .inl (gI g, 600, .inl (upd csf (wn st) (-1)))), (mkn, .inl (gC g, 32, .inl kf))]) [0, 1, 2, 3, 4, 5, 6, 7] (by decide) rfl
                        exact W.iret (v := (nI 0)) hx hb hr (fun t ht hW => ⟨⟨_, (pushW st (nV tx a k) 0, upd cdf (wn st) (nI (nV tx a k)), upd csf (wn st) (-1), s1, s2, s3), rfl, ⟨⟨0, by rw [spAddr, cl_f hns, cl_t hnu, if_neg (by omega), hzz], rfl⟩, MPR_push (y := 0) hMP (by omega), hSR, hSB⟩, by rw [ht]; exact hP9, by rw [hAe]; exact hD9⟩, hS.F ht⟩) hS.2.2 d_Mod_address_204
                      · exact absurd c80 (nI_m1 (by omega))
                    · exact absurd c79 (nI_m1 (by omega))
                · have c77 := (nI_eq (by omega) (by omega)).mp c77
                  refine lv_iconst (v := (nI 2)) hx hb d_Mod_address_107 (by decide) ?_
                  have hP9 := hP.sub (ws' := [(m0, .inr (8, [.ref mtt, .int tk9, .int sz9, .int pl9, .int (nI (wn st)), .ref mcd, .int (nI (sn st)), .ref mat, .ref msz, .ref mvl, .ref mcs, .ref mmm, .int ra, .int rd, .int nx9, .int dn, .ref mkn, .ref mjp, .ref mds])), (mtt, .inl (gI g, 2000, .inl tf)), (mcd, .inl (gI g, 600, .inl cdf)), (mat, .inl (gI g, 40, .inl s1)), (msz, .inl (gI g, 40, .inl s2)), (mvl, .inl (gI g, 40, .inl s3)), (mcs, .inl (gI g, 600, .inl csf)), (mkn, .inl (gC g, 32, .inl kf))]) [0, 1, 2, 3, 4, 5, 6, 7] rfl
                  have hD9 := hD.sub (ws' := [(m0, .inr (8, [.ref mtt, .int tk9, .int sz9, .int pl9, .int (nI (wn st)), .ref mcd, .int (nI (sn st)), .ref mat, .ref msz, .ref mvl, .ref mcs, .ref mmm, .int ra, .int rd, .int nx9, .int dn, .ref mkn, .ref mjp, .ref mds])), (mtt, .inl (gI g, 2000, .inl tf)), (mcd, .inl (gI g, 600, .inl cdf)), (mat, .inl (gI g, 40, .inl s1)), (msz, .inl (gI g, 40, .inl s2)), (mvl, .inl (gI g, 40, .inl s3)), (mcs, .inl (gI g, 600, .inl csf)), (mkn, .inl (gC g, 32, .inl kf))]) [0, 1, 2, 3, 4, 5, 6, 7] (by decide) rfl
                  exact W.iret (v := (nI 2)) hx hb hr (fun t ht hW => ⟨⟨_, (st, cdf, csf, s1, s2, s3), rfl, ⟨⟨2, by rw [spAddr, cl_f hns, cl_t hnu, if_pos (by omega)], rfl⟩, hMP, hSR, hSB⟩, by rw [ht]; exact hP9, by rw [hAe]; exact hD9⟩, hS.F ht⟩) hS.2.2 d_Mod_address_108
              · exact absurd c76 (by decide)
        · obtain ⟨rfl, g0⟩ := h2
          refine lv_iload_n hx hb d_Mod_address_70 rfl (lv_at hl 1 rfl) ?_
          have hnn : ¬ nuP tx a (a + cn) := fun q => g0 ⟨by have := q.1; omega, by have := q.2.1; omega, fun j hj => q.2.2.1 (a + j) (by omega) (by omega)⟩
          have hzz : a + cn - a = cn := by omega
          refine lv_if_eq (tgt := 82) hx hb d_Mod_address_71 (by decide) (fun c81 => ?_) (fun c81 => ?_)
          · refine lv_iload_n hx hb d_Mod_address_82 rfl (lv_at hl 1 rfl) ?_
            refine lv_if_ne (tgt := 97) hx hb d_Mod_address_83 (by decide) (fun c82 => ?_) (fun c82 => ?_)
            · exact absurd rfl c82
            · refine lv_aload_n hx hb d_Mod_address_86 rfl (lv_at hl 3 rfl) ?_
              refine lv_iload_n hx hb d_Mod_address_87 rfl (lv_at hl 4 rfl) ?_
              refine lv_iload_n hx hb d_Mod_address_88 rfl (lv_at hl 5 rfl) ?_
              refine sd_ri (va_runV (As := [.int (nI a), .int (nI cn)]) (rest := []) ⟨hx, hb, hml, hown, hts⟩ (c_Mod_isSymbol l g m0 mtt mcd mat msz mvl mcs mmm mkn mjp mds tk9 sz9 pl9 (nI (wn st)) (nI (sn st)) ra rd nx9 dn n tf tx hT a cn (by omega) (by omega) (fun _ => hac)) (cwV 2 hts (sd_gV k_584 k_586 k_13 k_30 k_587) rfl rfl rfl (by decide +kernel) ⟨Nat.le_of_ble_eq_true rfl, Nat.le_of_ble_eq_true rfl⟩) (sd_preV hK hE (sd_fr hS hA0) (hP.sub (ws' := [(m0, .inr (8, [.ref mtt, .int tk9, .int sz9, .int pl9, .int (nI (wn st)), .ref mcd, .int (nI (sn st)), .ref mat, .ref msz, .ref mvl, .ref mcs, .ref mmm, .int ra, .int rd, .int nx9, .int dn, .ref mkn, .ref mjp, .ref mds])), (mtt, .inl (gI g, 2000, .inl tf))]) [0, 1] rfl) rfl rfl) rfl rfl hl.1 rfl (lv_room (Nat.le_of_ble_eq_true rfl)) d_Mod_address_89 ⟨Nat.zero_le _, Nat.zero_le _⟩) (fun r83 er83 => ?_)
              subst er83
              refine lv_if_ne (tgt := 97) hx hb d_Mod_address_92 (by decide) (fun c84 => ?_) (fun c84 => ?_)
              · have c84 := sb_ne0.mp c84
                have hc1 : 1 ≤ cn := by have := c84.1; omega
                refine lv_aload_n hx hb d_Mod_address_97 rfl (lv_at hl 3 rfl) ?_
                refine va_get (D := g.1) (ci := 8) (v := .int (nI (wn st))) (C := "SignDeskModel") (T := F_Mod) (N := 19) hx hb hts in_Mod hown hK hP 0 rfl rfl 4 (by decide) (hts _ k_498) (fun _ h9 => h9) rfl d_Mod_address_98 ?_
                refine lv_sipush (v := (nI 600)) hx hb d_Mod_address_101 (by decide) ?_
                refine lv_icmp_ne (tgt := 109) hx hb d_Mod_address_104 (by decide) (fun c85 => ?_) (fun c85 => ?_)
                · have c85 := mt (nI_eq (by omega) (by omega)).mpr c85
                  refine lv_aload_n hx hb d_Mod_address_109 rfl (lv_at hl 3 rfl) ?_
                  refine va_get (D := g.1) (ci := 8) (v := .ref mcs) (C := "SignDeskModel") (T := F_Mod) (N := 19) hx hb hts in_Mod hown hK hP 0 rfl rfl 10 (by decide) (hts _ k_504) (fun _ h9 => h9) rfl d_Mod_address_110 ?_
                  refine lv_aload_n hx hb d_Mod_address_113 rfl (lv_at hl 3 rfl) ?_
                  refine va_get (D := g.1) (ci := 8) (v := .int (nI (wn st))) (C := "SignDeskModel") (T := F_Mod) (N := 19) hx hb hts in_Mod hown hK hP 0 rfl rfl 4 (by decide) (hts _ k_498) (fun _ h9 => h9) rfl d_Mod_address_114 ?_
                  refine lv_iconst (v := (-1)) hx hb d_Mod_address_117 (by decide) ?_
                  refine va_iast hx hb hK hP hD hS 6 1 rfl rfl (i := (nI (wn st))) (x := (-1)) (vp_in_nI (by omega) (by omega)) d_Mod_address_118 (fun H locs hP hD hS => ?_)
                  have hP : sdP g [(m0, .inr (8, [.ref mtt, .int tk9, .int sz9, .int pl9, .int (nI (wn st)), .ref mcd, .int (nI (sn st)), .ref mat, .ref msz, .ref mvl, .ref mcs, .ref mmm, .int ra, .int rd, .int nx9, .int dn, .ref mkn, .ref mjp, .ref mds])), (mtt, .inl (gI g, 2000, .inl tf)), (mcd, .inl (gI g, 600, .inl cdf)), (mat, .inl (gI g, 40, .inl s1)), (msz, .inl (gI g, 40, .inl s2)), (mvl, .inl (gI g, 40, .inl s3)), (mcs, .inl (gI g, 600, .inl (upd csf ((nI (wn st))).toNatClampNeg (-1)))), (mkn, .inl (gC g, 32, .inl kf))] H := hP
                  have hD : va_D A [(m0, .inr (8, [.ref mtt, .int tk9, .int sz9, .int pl9, .int (nI (wn st)), .ref mcd, .int (nI (sn st)), .ref mat, .ref msz, .ref mvl, .ref mcs, .ref mmm, .int ra, .int rd, .int nx9, .int dn, .ref mkn, .ref mjp, .ref mds])), (mtt, .inl (gI g, 2000, .inl tf)), (mcd, .inl (gI g, 600, .inl cdf)), (mat, .inl (gI g, 40, .inl s1)), (msz, .inl (gI g, 40, .inl s2)), (mvl, .inl (gI g, 40, .inl s3)), (mcs, .inl (gI g, 600, .inl (upd csf ((nI (wn st))).toNatClampNeg (-1)))), (mkn, .inl (gC g, 32, .inl kf))] := hD
                  have eF : (upd csf ((nI (wn st))).toNatClampNeg (-1)) = (upd csf (wn st) (-1)) := by rw [nI_clamp (by omega)]
                  rw [eF] at hP hD
                  refine lv_iload_n hx hb d_Mod_address_119 rfl (lv_at hl 1 rfl) ?_
                  refine lv_if_eq (tgt := 128) hx hb d_Mod_address_120 (by decide) (fun c86 => ?_) (fun c86 => ?_)
                  · refine lv_aload_n hx hb d_Mod_address_128 rfl (lv_at hl 3 rfl) ?_
                    refine lv_iload_n hx hb d_Mod_address_129 rfl (lv_at hl 4 rfl) ?_
                    refine lv_iload_n hx hb d_Mod_address_130 rfl (lv_at hl 5 rfl) ?_
                    refine sd_ri (va_runV (As := [.int (nI a), .int (nI cn)]) (rest := []) ⟨hx, hb, hml, hown, hts⟩ (c_Mod_knownOf l g m0 mtt mcd mat msz mvl mcs mmm mkn mjp mds tk9 sz9 pl9 (nI (wn st)) (nI (sn st)) ra rd nx9 dn kf hRk n tf tx hT a cn hc1 hac htk) (cwV 2 hts (sd_gV k_600 k_602 k_14 k_30 k_603) rfl rfl rfl (by decide +kernel) ⟨Nat.le_of_ble_eq_true rfl, Nat.le_of_ble_eq_true rfl⟩) (sd_preV hK hE (sd_fr hS hA0) (hP.sub (ws' := [(m0, .inr (8, [.ref mtt, .int tk9, .int sz9, .int pl9, .int (nI (wn st)), .ref mcd, .int (nI (sn st)), .ref mat, .ref msz, .ref mvl, .ref mcs, .ref mmm, .int ra, .int rd, .int nx9, .int dn, .ref mkn, .ref mjp, .ref mds])), (mtt, .inl (gI g, 2000, .inl tf)), (mkn, .inl (gC g, 32, .inl kf))]) [0, 1, 7] rfl) rfl rfl) rfl rfl hl.1 rfl (lv_room (Nat.le_of_ble_eq_true rfl)) d_Mod_address_131 ⟨Nat.zero_le _, Nat.zero_le _⟩) (fun r87 er87 => ?_)
                    subst er87
                    have hkn := knK_le (tx := tx) (a := a) (z := a + cn)
                    refine lv_istore (lv' := [(5, .int (nI (knK tx a (a + cn)) - 1)), (3, .int (nI 0)), (4, .int v9), (0, .ref m0), (1, .int (nI a)), (2, .int (nI cn))]) hx hb d_Mod_address_134 hl (by decide) rfl (fun ls hl => ?_)
                    refine lv_iload hx hb d_Mod_address_136 (lv_at hl 0 rfl) ?_
                    refine lv_iconst (v := (-1)) hx hb d_Mod_address_138 (by decide) ?_
                    refine lv_icmp_ne (tgt := 172) hx hb d_Mod_address_139 (by decide) (fun c88 => ?_) (fun c88 => ?_)
                    · have hk0 : ¬ knK tx a (a + cn) = 0 := fun q => c88 (by rw [q]; decide)
                      refine lv_aload_n hx hb d_Mod_address_172 rfl (lv_at hl 3 rfl) ?_
                      refine va_get (D := g.1) (ci := 8) (v := .ref mcd) (C := "SignDeskModel") (T := F_Mod) (N := 19) hx hb hts in_Mod hown hK hP 0 rfl rfl 5 (by decide) (hts _ k_499) (fun _ h9 => h9) rfl d_Mod_address_173 ?_
                      refine lv_aload_n hx hb d_Mod_address_176 rfl (lv_at hl 3 rfl) ?_
                      refine va_get (D := g.1) (ci := 8) (v := .int (nI (wn st))) (C := "SignDeskModel") (T := F_Mod) (N := 19) hx hb hts in_Mod hown hK hP 0 rfl rfl 4 (by decide) (hts _ k_498) (fun _ h9 => h9) rfl d_Mod_address_177 ?_
                      refine lv_iload hx hb d_Mod_address_180 (lv_at hl 0 rfl) ?_
                      refine lv_iconst (v := (-1)) hx hb d_Mod_address_182 (by decide) ?_
                      refine lv_icmp_ne (tgt := 190) hx hb d_Mod_address_183 (by decide) (fun c89 => ?_) (fun c89 => ?_)
                      · refine lv_iload hx hb d_Mod_address_190 (lv_at hl 0 rfl) ?_
                        refine sd_topi (y := nI (knK tx a (a + cn) - 1)) (m1_up hk0) ?_
                        refine va_iast hx hb hK hP hD hS 2 1 rfl rfl (i := (nI (wn st))) (x := (nI (knK tx a (a + cn) - 1))) (vp_in_nI (by omega) (by omega)) d_Mod_address_192 (fun H locs hP hD hS => ?_)
                        have hP : sdP g [(m0, .inr (8, [.ref mtt, .int tk9, .int sz9, .int pl9, .int (nI (wn st)), .ref mcd, .int (nI (sn st)), .ref mat, .ref msz, .ref mvl, .ref mcs, .ref mmm, .int ra, .int rd, .int nx9, .int dn, .ref mkn, .ref mjp, .ref mds])), (mtt, .inl (gI g, 2000, .inl tf)), (mcd, .inl (gI g, 600, .inl (upd cdf ((nI (wn st))).toNatClampNeg (nI (knK tx a (a + cn) - 1))))), (mat, .inl (gI g, 40, .inl s1)), (msz, .inl (gI g, 40, .inl s2)), (mvl, .inl (gI g, 40, .inl s3)), (mcs, .inl (gI g, 600, .inl (upd csf (wn st) (-1)))), (mkn, .inl (gC g, 32, .inl kf))] H := hP
                        have hD : va_D A [(m0, .inr (8, [.ref mtt, .int tk9, .int sz9, .int pl9, .int (nI (wn st)), .ref mcd, .int (nI (sn st)), .ref mat, .ref msz, .ref mvl, .ref mcs, .ref mmm, .int ra, .int rd, .int nx9, .int dn, .ref mkn, .ref mjp, .ref mds])), (mtt, .inl (gI g, 2000, .inl tf)), (mcd, .inl (gI g, 600, .inl (upd cdf ((nI (wn st))).toNatClampNeg (nI (knK tx a (a + cn) - 1))))), (mat, .inl (gI g, 40, .inl s1)), (msz, .inl (gI g, 40, .inl s2)), (mvl, .inl (gI g, 40, .inl s3)), (mcs, .inl (gI g, 600, .inl (upd csf (wn st) (-1)))), (mkn, .inl (gC g, 32, .inl kf))] := hD
                        have eF : (upd cdf ((nI (wn st))).toNatClampNeg (nI (knK tx a (a + cn) - 1))) = (upd cdf (wn st) (nI (knK tx a (a + cn) - 1))) := by rw [nI_clamp (by omega)]
                        rw [eF] at hP hD
                        refine lv_aload_n hx hb d_Mod_address_193 rfl (lv_at hl 3 rfl) ?_
                        refine lv_aload_n hx hb d_Mod_address_194 rfl (lv_at hl 3 rfl) ?_
                        refine va_get (D := g.1) (ci := 8) (v := .int (nI (wn st))) (C := "SignDeskModel") (T := F_Mod) (N := 19) hx hb hts in_Mod hown hK hP 0 rfl rfl 4 (by decide) (hts _ k_498) (fun _ h9 => h9) rfl d_Mod_address_195 ?_
                        refine lv_iconst (v := (nI 1)) hx hb d_Mod_address_198 (by decide) ?_
                        refine lv_iadd hx hb d_Mod_address_199 ?_
                        refine sd_topi (y := nI ((wn st) + 1)) (nI_add _ _) ?_
                        refine va_put (D := g.1) (ci := 8) (v := .int (nI ((wn st) + 1))) (ty := .int) (C := "SignDeskModel") (T := F_Mod) (N := 19) hx hb hts in_Mod t_Mod t_Mod_ok n_Mod hown hK hP hD hS 0 rfl rfl 4 (by decide) (hts _ k_498) (fun _ h9 => h9) rfl (by decide +kernel) rfl rfl (Nat.le_of_ble_eq_true rfl) d_Mod_address_200 (fun H locs hP hD hS => ?_)
                        have hP : sdP g [(m0, .inr (8, [.ref mtt, .int tk9, .int sz9, .int pl9, .int (nI ((wn st) + 1)), .ref mcd, .int (nI (sn st)), .ref mat, .ref msz, .ref mvl, .ref mcs, .ref mmm, .int ra, .int rd, .int nx9, .int dn, .ref mkn, .ref mjp, .ref mds])), (mtt, .inl (gI g, 2000, .inl tf)), (mcd, .inl (gI g, 600, .inl (upd cdf (wn st) (nI (knK tx a (a + cn) - 1))))), (mat, .inl (gI g, 40, .inl s1)), (msz, .inl (gI g, 40, .inl s2)), (mvl, .inl (gI g, 40, .inl s3)), (mcs, .inl (gI g, 600, .inl (upd csf (wn st) (-1)))), (mkn, .inl (gC g, 32, .inl kf))] H := hP
                        have hD : va_D A [(m0, .inr (8, [.ref mtt, .int tk9, .int sz9, .int pl9, .int (nI ((wn st) + 1)), .ref mcd, .int (nI (sn st)), .ref mat, .ref msz, .ref mvl, .ref mcs, .ref mmm, .int ra, .int rd, .int nx9, .int dn, .ref mkn, .ref mjp, .ref mds])), (mtt, .inl (gI g, 2000, .inl tf)), (mcd, .inl (gI g, 600, .inl (upd cdf (wn st) (nI (knK tx a (a + cn) - 1))))), (mat, .inl (gI g, 40, .inl s1)), (msz, .inl (gI g, 40, .inl s2)), (mvl, .inl (gI g, 40, .inl s3)), (mcs, .inl (gI g, 600, .inl (upd csf (wn st) (-1)))), (mkn, .inl (gC g, 32, .inl kf))] := hD
                        refine lv_iconst (v := (nI 0)) hx hb d_Mod_address_203 (by decide) ?_
                        have hP9 := hP.sub (ws' := [(m0, .inr (8, [.ref mtt, .int tk9, .int sz9, .int pl9, .int (nI ((wn st) + 1)), .ref mcd, .int (nI (sn st)), .ref mat, .ref msz, .ref mvl, .ref mcs, .ref mmm, .int ra, .int rd, .int nx9, .int dn, .ref mkn, .ref mjp, .ref mds])), (mtt, .inl (gI g, 2000, .inl tf)), (mcd, .inl (gI g, 600, .inl (upd cdf (wn st) (nI (knK tx a (a + cn) - 1))))), (mat, .inl (gI g, 40, .inl s1)), (msz, .inl (gI g, 40, .inl s2)), (mvl, .inl (gI g, 40, .inl s3)), (mcs, .inl (gI g, 600, .inl (upd csf (wn st) (-1)))), (mkn, .inl (gC g, 32, .inl kf))]) [0, 1, 2, 3, 4, 5, 6, 7] rfl
                        have hD9 := hD.sub (ws' := [(m0, .inr (8, [.ref mtt, .int tk9, .int sz9, .int pl9, .int (nI ((wn st) + 1)), .ref mcd, .int (nI (sn st)), .ref mat, .ref msz, .ref mvl, .ref mcs, .ref mmm, .int ra, .int rd, .int nx9, .int dn, .ref mkn, .ref mjp, .ref mds])), (mtt, .inl (gI g, 2000, .inl tf)), (mcd, .inl (gI g, 600, .inl (upd cdf (wn st) (nI (knK tx a (a + cn) - 1))))), (mat, .inl (gI g, 40, .inl s1)), (msz, .inl (gI g, 40, .inl s2)), (mvl, .inl (gI g, 40, .inl s3)), (mcs, .inl (gI g, 600, .inl (upd csf (wn st) (-1)))), (mkn, .inl (gC g, 32, .inl kf))]) [0, 1, 2, 3, 4, 5, 6, 7] (by decide) rfl
                        exact W.iret (v := (nI 0)) hx hb hr (fun t ht hW => ⟨⟨_, (pushW st (knK tx a (a + cn) - 1) 0, upd cdf (wn st) (nI (knK tx a (a + cn) - 1)), upd csf (wn st) (-1), s1, s2, s3), rfl, ⟨⟨0, by rw [spAddr, cl_t c84, if_neg (by omega), if_neg hk0], rfl⟩, MPR_push (y := 0) hMP (by omega), hSR, hSB⟩, by rw [ht]; exact hP9, by rw [hAe]; exact hD9⟩, hS.F ht⟩) hS.2.2 d_Mod_address_204
                      · exact absurd c89 c88
                    · have hk0 : knK tx a (a + cn) = 0 := (m1_iff (by omega)).mp c88
                      refine lv_aload_n hx hb d_Mod_address_142 rfl (lv_at hl 3 rfl) ?_
                      refine va_get (D := g.1) (ci := 8) (v := .ref mcs) (C := "SignDeskModel") (T := F_Mod) (N := 19) hx hb hts in_Mod hown hK hP 0 rfl rfl 10 (by decide) (hts _ k_504) (fun _ h9 => h9) rfl d_Mod_address_143 ?_
                      refine lv_aload_n hx hb d_Mod_address_146 rfl (lv_at hl 3 rfl) ?_
                      refine va_get (D := g.1) (ci := 8) (v := .int (nI (wn st))) (C := "SignDeskModel") (T := F_Mod) (N := 19) hx hb hts in_Mod hown hK hP 0 rfl rfl 4 (by decide) (hts _ k_498) (fun _ h9 => h9) rfl d_Mod_address_147 ?_
                      refine lv_aload_n hx hb d_Mod_address_150 rfl (lv_at hl 3 rfl) ?_
                      refine lv_iload_n hx hb d_Mod_address_151 rfl (lv_at hl 4 rfl) ?_
                      refine lv_iload_n hx hb d_Mod_address_152 rfl (lv_at hl 5 rfl) ?_
                      have hPc := hP.sub (ws' := [(m0, .inr (8, [.ref mtt, .int tk9, .int sz9, .int pl9, .int (nI (wn st)), .ref mcd, .int (nI (sn st)), .ref mat, .ref msz, .ref mvl, .ref mcs, .ref mmm, .int ra, .int rd, .int nx9, .int dn, .ref mkn, .ref mjp, .ref mds])), (mtt, .inl (gI g, 2000, .inl tf)), (mat, .inl (gI g, 40, .inl s1)), (msz, .inl (gI g, 40, .inl s2)), (mvl, .inl (gI g, 40, .inl s3))]) [0, 1, 3, 4, 5] rfl
                      have hDc := hD.sub (ws' := [(m0, .inr (8, [.ref mtt, .int tk9, .int sz9, .int pl9, .int (nI (wn st)), .ref mcd, .int (nI (sn st)), .ref mat, .ref msz, .ref mvl, .ref mcs, .ref mmm, .int ra, .int rd, .int nx9, .int dn, .ref mkn, .ref mjp, .ref mds])), (mtt, .inl (gI g, 2000, .inl tf)), (mat, .inl (gI g, 40, .inl s1)), (msz, .inl (gI g, 40, .inl s2)), (mvl, .inl (gI g, 40, .inl s3))]) [0, 1, 3, 4, 5] (by decide) rfl
                      have hFc := va_free (wc := [(m0, .inr (8, [.ref mtt, .int tk9, .int sz9, .int pl9, .int (nI (wn st)), .ref mcd, .int (nI (sn st)), .ref mat, .ref msz, .ref mvl, .ref mcs, .ref mmm, .int ra, .int rd, .int nx9, .int dn, .ref mkn, .ref mjp, .ref mds])), (mtt, .inl (gI g, 2000, .inl tf)), (mat, .inl (gI g, 40, .inl s1)), (msz, .inl (gI g, 40, .inl s2)), (mvl, .inl (gI g, 40, .inl s3))]) hD hS hA [0, 1, 3, 4, 5] rfl
                      refine sd_ci (va_runV (As := [.int (nI a), .int (nI cn)]) (rest := [.int (nI (wn st)), .ref mcs]) ⟨hx, hb, hml, hown, hts⟩ (c_Mod_symbolOf l g m0 mtt mcd mat msz mvl mcs mmm mkn mjp mds tk9 sz9 pl9 (nI (wn st)) ra rd nx9 dn n tf tx hT st s1 s2 s3 hSR hSB (a) (cn) (hc1) (by omega) H.size) (cwV 2 hts (sd_gV k_608 k_610 k_16 k_30 k_611) rfl rfl rfl (by decide +kernel) ⟨Nat.le_of_ble_eq_true rfl, Nat.le_of_ble_eq_true rfl⟩) (sd_preVU hK hE hS hA0 hs0 hPc hDc rfl rfl) rfl rfl hl.1 rfl (lv_room (Nat.le_of_ble_eq_true rfl)) d_Mod_address_153 ⟨Nat.zero_le _, Nat.zero_le _⟩) hS hFc (fun r90 u H1 locs hw hP1 hD1 hk1 hS => ?_)
                      obtain ⟨st1, t1, t2, t3⟩ := u
                      obtain ⟨hP, hD⟩ := va_join (wr := [(mcd, .inl (gI g, 600, .inl cdf)), (mcs, .inl (gI g, 600, .inl (upd csf (wn st) (-1)))), (mkn, .inl (gC g, 32, .inl kf))]) (w1 := [(m0, .inr (8, [.ref mtt, .int tk9, .int sz9, .int pl9, .int (nI (wn st)), .ref mcd, .int (nI (sn st1)), .ref mat, .ref msz, .ref mvl, .ref mcs, .ref mmm, .int ra, .int rd, .int nx9, .int dn, .ref mkn, .ref mjp, .ref mds])), (mtt, .inl (gI g, 2000, .inl tf)), (mat, .inl (gI g, 40, .inl t1)), (msz, .inl (gI g, 40, .inl t2)), (mvl, .inl (gI g, 40, .inl t3))]) hP hD [0, 1, 3, 4, 5] [2, 6, 7] rfl rfl (by decide) (by decide) hk1 hFc hP1 hD1
                      clear hPc hDc hFc hk1 hP1 hD1
                      generalize H1 = H at hP hS ⊢
                      have hP : sdP g [(mcd, .inl (gI g, 600, .inl cdf)), (mcs, .inl (gI g, 600, .inl (upd csf (wn st) (-1)))), (mkn, .inl (gC g, 32, .inl kf)), (m0, .inr (8, [.ref mtt, .int tk9, .int sz9, .int pl9, .int (nI (wn st)), .ref mcd, .int (nI (sn st1)), .ref mat, .ref msz, .ref mvl, .ref mcs, .ref mmm, .int ra, .int rd, .int nx9, .int dn, .ref mkn, .ref mjp, .ref mds])), (mtt, .inl (gI g, 2000, .inl tf)), (mat, .inl (gI g, 40, .inl t1)), (msz, .inl (gI g, 40, .inl t2)), (mvl, .inl (gI g, 40, .inl t3))] H := hP
                      have hD : va_D A [(mcd, .inl (gI g, 600, .inl cdf)), (mcs, .inl (gI g, 600, .inl (upd csf (wn st) (-1)))), (mkn, .inl (gC g, 32, .inl kf)), (m0, .inr (8, [.ref mtt, .int tk9, .int sz9, .int pl9, .int (nI (wn st)), .ref mcd, .int (nI (sn st1)), .ref mat, .ref msz, .ref mvl, .ref mcs, .ref mmm, .int ra, .int rd, .int nx9, .int dn, .ref mkn, .ref mjp, .ref mds])), (mtt, .inl (gI g, 2000, .inl tf)), (mat, .inl (gI g, 40, .inl t1)), (msz, .inl (gI g, 40, .inl t2)), (mvl, .inl (gI g, 40, .inl t3))] := hD
                      obtain ⟨⟨cs, hsy, er90⟩, hSR1⟩ := hw
                      have hsy : syO tx st (a) (cn) = (cs, st1) := hsy
                      have hSR1 : SR st1 t1 t2 t3 := hSR1
                      have hst1 : st1.1 = st.1 := by have h := syO_fst (tx := tx) (st := st) (a := a) (n := cn); rw [hsy] at h; exact h
                      have hcs := syO_le (tx := tx) (a := a) (n := cn) h40
                      rw [hsy] at hcs
                      have hcs1 : cs ≤ sn st1 := hcs.1
                      have hcs2 : sn st1 ≤ 40 := hcs.2
                      have hSB1 : SB n st1 := by have h := SB_O (tx := tx) (a := a) (c := cn) hSB (by omega); rw [hsy] at h; exact h
                      subst er90
                      have hwn1 : wn st1 = wn st := by show st1.1.1 = st.1.1; rw [hst1]
                      refine va_iast hx hb hK hP hD hS 1 1 rfl rfl (i := (nI (wn st))) (x := (nI cs - 1)) (vp_in_nI (by omega) (by omega)) d_Mod_address_156 (fun H locs hP hD hS => ?_)
                      have hP : sdP g [(mcd, .inl (gI g, 600, .inl cdf)), (mcs, .inl (gI g, 600, .inl (upd (upd csf (wn st) (-1)) ((nI (wn st))).toNatClampNeg (nI cs - 1)))), (mkn, .inl (gC g, 32, .inl kf)), (m0, .inr (8, [.ref mtt, .int tk9, .int sz9, .int pl9, .int (nI (wn st)), .ref mcd, .int (nI (sn st1)), .ref mat, .ref msz, .ref mvl, .ref mcs, .ref mmm, .int ra, .int rd, .int nx9, .int dn, .ref mkn, .ref mjp, .ref mds])), (mtt, .inl (gI g, 2000, .inl tf)), (mat, .inl (gI g, 40, .inl t1)), (msz, .inl (gI g, 40, .inl t2)), (mvl, .inl (gI g, 40, .inl t3))] H := hP
                      have hD : va_D A [(mcd, .inl (gI g, 600, .inl cdf)), (mcs, .inl (gI g, 600, .inl (upd (upd csf (wn st) (-1)) ((nI (wn st))).toNatClampNeg (nI cs - 1)))), (mkn, .inl (gC g, 32, .inl kf)), (m0, .inr (8, [.ref mtt, .int tk9, .int sz9, .int pl9, .int (nI (wn st)), .ref mcd, .int (nI (sn st1)), .ref mat, .ref msz, .ref mvl, .ref mcs, .ref mmm, .int ra, .int rd, .int nx9, .int dn, .ref mkn, .ref mjp, .ref mds])), (mtt, .inl (gI g, 2000, .inl tf)), (mat, .inl (gI g, 40, .inl t1)), (msz, .inl (gI g, 40, .inl t2)), (mvl, .inl (gI g, 40, .inl t3))] := hD
                      have eF : (upd (upd csf (wn st) (-1)) ((nI (wn st))).toNatClampNeg (nI cs - 1)) = (upd csf (wn st) (nI cs - 1)) := by
                          rw [nI_clamp (by omega)]
                          funext j
                          by_cases q : j = wn st
                          · subst q; rw [pk_us, pk_us]
                          · rw [pk_un q, pk_un q, pk_un q]
                      rw [eF] at hP hD
                      refine lv_aload_n hx hb d_Mod_address_157 rfl (lv_at hl 3 rfl) ?_
                      refine va_get (D := g.1) (ci := 8) (v := .ref mcs) (C := "SignDeskModel") (T := F_Mod) (N := 19) hx hb hts in_Mod hown hK hP 3 rfl rfl 10 (by decide) (hts _ k_504) (fun _ h9 => h9) rfl d_Mod_address_158 ?_
                      refine lv_aload_n hx hb d_Mod_address_161 rfl (lv_at hl 3 rfl) ?_
                      refine va_get (D := g.1) (ci := 8) (v := .int (nI (wn st))) (C := "SignDeskModel") (T := F_Mod) (N := 19) hx hb hts in_Mod hown hK hP 3 rfl rfl 4 (by decide) (hts _ k_498) (fun _ h9 => h9) rfl d_Mod_address_162 ?_
                      refine va_iald hx hb hK hP 1 1 rfl rfl (i := (nI (wn st))) (vp_in_nI (by omega) (by omega)) d_Mod_address_165 ?_
                      refine sd_topi (y := nI cs - 1) (by rw [nI_clamp (by omega)]; exact pk_us) ?_
                      refine lv_iconst (v := (-1)) hx hb d_Mod_address_166 (by decide) ?_
                      refine lv_icmp_ne (tgt := 172) hx hb d_Mod_address_167 (by decide) (fun c91 => ?_) (fun c91 => ?_)
                      · have hc0 : ¬ cs = 0 := fun q => c91 (by rw [q]; decide)
                        refine lv_aload_n hx hb d_Mod_address_172 rfl (lv_at hl 3 rfl) ?_
                        refine va_get (D := g.1) (ci := 8) (v := .ref mcd) (C := "SignDeskModel") (T := F_Mod) (N := 19) hx hb hts in_Mod hown hK hP 3 rfl rfl 5 (by decide) (hts _ k_499) (fun _ h9 => h9) rfl d_Mod_address_173 ?_
                        refine lv_aload_n hx hb d_Mod_address_176 rfl (lv_at hl 3 rfl) ?_
                        refine va_get (D := g.1) (ci := 8) (v := .int (nI (wn st))) (C := "SignDeskModel") (T := F_Mod) (N := 19) hx hb hts in_Mod hown hK hP 3 rfl rfl 4 (by decide) (hts _ k_498) (fun _ h9 => h9) rfl d_Mod_address_177 ?_
                        refine lv_iload hx hb d_Mod_address_180 (lv_at hl 0 rfl) ?_
                        refine lv_iconst (v := (-1)) hx hb d_Mod_address_182 (by decide) ?_
                        refine lv_icmp_ne (tgt := 190) hx hb d_Mod_address_183 (by decide) (fun c92 => ?_) (fun c92 => ?_)
                        · exact absurd c88 c92
                        · refine lv_iconst (v := (nI 0)) hx hb d_Mod_address_186 (by decide) ?_
                          refine lv_goto (tgt := 192) hx hb d_Mod_address_187 (by decide) ?_
                          refine va_iast hx hb hK hP hD hS 0 1 rfl rfl (i := (nI (wn st))) (x := (nI 0)) (vp_in_nI (by omega) (by omega)) d_Mod_address_192 (fun H locs hP hD hS => ?_)
                          have hP : sdP g [(mcd, .inl (gI g, 600, .inl (upd cdf ((nI (wn st))).toNatClampNeg (nI 0)))), (mcs, .inl (gI g, 600, .inl (upd csf (wn st) (nI cs - 1)))), (mkn, .inl (gC g, 32, .inl kf)), (m0, .inr (8, [.ref mtt, .int tk9, .int sz9, .int pl9, .int (nI (wn st)), .ref mcd, .int (nI (sn st1)), .ref mat, .ref msz, .ref mvl, .ref mcs, .ref mmm, .int ra, .int rd, .int nx9, .int dn, .ref mkn, .ref mjp, .ref mds])), (mtt, .inl (gI g, 2000, .inl tf)), (mat, .inl (gI g, 40, .inl t1)), (msz, .inl (gI g, 40, .inl t2)), (mvl, .inl (gI g, 40, .inl t3))] H := hP
                          have hD : va_D A [(mcd, .inl (gI g, 600, .inl (upd cdf ((nI (wn st))).toNatClampNeg (nI 0)))), (mcs, .inl (gI g, 600, .inl (upd csf (wn st) (nI cs - 1)))), (mkn, .inl (gC g, 32, .inl kf)), (m0, .inr (8, [.ref mtt, .int tk9, .int sz9, .int pl9, .int (nI (wn st)), .ref mcd, .int (nI (sn st1)), .ref mat, .ref msz, .ref mvl, .ref mcs, .ref mmm, .int ra, .int rd, .int nx9, .int dn, .ref mkn, .ref mjp, .ref mds])), (mtt, .inl (gI g, 2000, .inl tf)), (mat, .inl (gI g, 40, .inl t1)), (msz, .inl (gI g, 40, .inl t2)), (mvl, .inl (gI g, 40, .inl t3))] := hD
                          have eF : (upd cdf ((nI (wn st))).toNatClampNeg (nI 0)) = (upd cdf (wn st) (nI 0)) := by rw [nI_clamp (by omega)]
                          rw [eF] at hP hD
                          refine lv_aload_n hx hb d_Mod_address_193 rfl (lv_at hl 3 rfl) ?_
                          refine lv_aload_n hx hb d_Mod_address_194 rfl (lv_at hl 3 rfl) ?_
                          refine va_get (D := g.1) (ci := 8) (v := .int (nI (wn st))) (C := "SignDeskModel") (T := F_Mod) (N := 19) hx hb hts in_Mod hown hK hP 3 rfl rfl 4 (by decide) (hts _ k_498) (fun _ h9 => h9) rfl d_Mod_address_195 ?_
                          refine lv_iconst (v := (nI 1)) hx hb d_Mod_address_198 (by decide) ?_
                          refine lv_iadd hx hb d_Mod_address_199 ?_
                          refine sd_topi (y := nI ((wn st) + 1)) (nI_add _ _) ?_
                          refine va_put (D := g.1) (ci := 8) (v := .int (nI ((wn st) + 1))) (ty := .int) (C := "SignDeskModel") (T := F_Mod) (N := 19) hx hb hts in_Mod t_Mod t_Mod_ok n_Mod hown hK hP hD hS 3 rfl rfl 4 (by decide) (hts _ k_498) (fun _ h9 => h9) rfl (by decide +kernel) rfl rfl (Nat.le_of_ble_eq_true rfl) d_Mod_address_200 (fun H locs hP hD hS => ?_)
                          have hP : sdP g [(mcd, .inl (gI g, 600, .inl (upd cdf (wn st) (nI 0)))), (mcs, .inl (gI g, 600, .inl (upd csf (wn st) (nI cs - 1)))), (mkn, .inl (gC g, 32, .inl kf)), (m0, .inr (8, [.ref mtt, .int tk9, .int sz9, .int pl9, .int (nI ((wn st) + 1)), .ref mcd, .int (nI (sn st1)), .ref mat, .ref msz, .ref mvl, .ref mcs, .ref mmm, .int ra, .int rd, .int nx9, .int dn, .ref mkn, .ref mjp, .ref mds])), (mtt, .inl (gI g, 2000, .inl tf)), (mat, .inl (gI g, 40, .inl t1)), (msz, .inl (gI g, 40, .inl t2)), (mvl, .inl (gI g, 40, .inl t3))] H := hP
                          have hD : va_D A [(mcd, .inl (gI g, 600, .inl (upd cdf (wn st) (nI 0)))), (mcs, .inl (gI g, 600, .inl (upd csf (wn st) (nI cs - 1)))), (mkn, .inl (gC g, 32, .inl kf)), (m0, .inr (8, [.ref mtt, .int tk9, .int sz9, .int pl9, .int (nI ((wn st) + 1)), .ref mcd, .int (nI (sn st1)), .ref mat, .ref msz, .ref mvl, .ref mcs, .ref mmm, .int ra, .int rd, .int nx9, .int dn, .ref mkn, .ref mjp, .ref mds])), (mtt, .inl (gI g, 2000, .inl tf)), (mat, .inl (gI g, 40, .inl t1)), (msz, .inl (gI g, 40, .inl t2)), (mvl, .inl (gI g, 40, .inl t3))] := hD
                          refine lv_iconst (v := (nI 0)) hx hb d_Mod_address_203 (by decide) ?_
                          have hMP1 : MPR (pushW st1 0 cs) (upd cdf (wn st) (nI 0)) (upd csf (wn st) (nI cs - 1)) := by
                            have h := MPR_push (c := 0) (y := cs) (MPR_of hMP hst1) (by omega)
                            rw [hwn1] at h; exact h
                          have hP : sdP g [(mcd, .inl (gI g, 600, .inl (upd cdf (wn st) (nI 0)))), (mcs, .inl (gI g, 600, .inl (upd csf (wn st) (nI cs - 1)))), (mkn, .inl (gC g, 32, .inl kf)), (m0, .inr (8, [.ref mtt, .int tk9, .int sz9, .int pl9, .int (nI (wn st1 + 1)), .ref mcd, .int (nI (sn st1)), .ref mat, .ref msz, .ref mvl, .ref mcs, .ref mmm, .int ra, .int rd, .int nx9, .int dn, .ref mkn, .ref mjp, .ref mds])), (mtt, .inl (gI g, 2000, .inl tf)), (mat, .inl (gI g, 40, .inl t1)), (msz, .inl (gI g, 40, .inl t2)), (mvl, .inl (gI g, 40, .inl t3))] H := by rw [hwn1]; exact hP
                          have hD : va_D A [(mcd, .inl (gI g, 600, .inl (upd cdf (wn st) (nI 0)))), (mcs, .inl (gI g, 600, .inl (upd csf (wn st) (nI cs - 1)))), (mkn, .inl (gC g, 32, .inl kf)), (m0, .inr (8, [.ref mtt, .int tk9, .int sz9, .int pl9, .int (nI (wn st1 + 1)), .ref mcd, .int (nI (sn st1)), .ref mat, .ref msz, .ref mvl, .ref mcs, .ref mmm, .int ra, .int rd, .int nx9, .int dn, .ref mkn, .ref mjp, .ref mds])), (mtt, .inl (gI g, 2000, .inl tf)), (mat, .inl (gI g, 40, .inl t1)), (msz, .inl (gI g, 40, .inl t2)), (mvl, .inl (gI g, 40, .inl t3))] := by rw [hwn1]; exact hD
                          have hP9 := hP.sub (ws' := [(m0, .inr (8, [.ref mtt, .int tk9, .int sz9, .int pl9, .int (nI (wn st1 + 1)), .ref mcd, .int (nI (sn st1)), .ref mat, .ref msz, .ref mvl, .ref mcs, .ref mmm, .int ra, .int rd, .int nx9, .int dn, .ref mkn, .ref mjp, .ref mds])), (mtt, .inl (gI g, 2000, .inl tf)), (mcd, .inl (gI g, 600, .inl (upd cdf (wn st) (nI 0)))), (mat, .inl (gI g, 40, .inl t1)), (msz, .inl (gI g, 40, .inl t2)), (mvl, .inl (gI g, 40, .inl t3)), (mcs, .inl (gI g, 600, .inl (upd csf (wn st) (nI cs - 1)))), (mkn, .inl (gC g, 32, .inl kf))]) [3, 4, 0, 5, 6, 7, 1, 2] rfl
                          have hD9 := hD.sub (ws' := [(m0, .inr (8, [.ref mtt, .int tk9, .int sz9, .int pl9, .int (nI (wn st1 + 1)), .ref mcd, .int (nI (sn st1)), .ref mat, .ref msz, .ref mvl, .ref mcs, .ref mmm, .int ra, .int rd, .int nx9, .int dn, .ref mkn, .ref mjp, .ref mds])), (mtt, .inl (gI g, 2000, .inl tf)), (mcd, .inl (gI g, 600, .inl (upd cdf (wn st) (nI 0)))), (mat, .inl (gI g, 40, .inl t1)), (msz, .inl (gI g, 40, .inl t2)), (mvl, .inl (gI g, 40, .inl t3)), (mcs, .inl (gI g, 600, .inl (upd csf (wn st) (nI cs - 1)))), (mkn, .inl (gC g, 32, .inl kf))]) [3, 4, 0, 5, 6, 7, 1, 2] (by decide) rfl
                          exact W.iret (v := (nI 0)) hx hb hr (fun t ht hW => ⟨⟨_, (pushW st1 0 cs, upd cdf (wn st) (nI 0), upd csf (wn st) (nI cs - 1), t1, t2, t3), rfl, ⟨⟨0, by rw [spAddr, cl_t c84, if_neg (by omega), if_pos hk0, hzz, hsy, if_neg hc0], rfl⟩, hMP1, hSR1, hSB1⟩, by rw [ht]; exact hP9, by rw [hAe]; exact hD9⟩, hS.F ht⟩) hS.2.2 d_Mod_address_204
                      · have hc0 : cs = 0 := (m1_iff (by omega)).mp c91
                        have hP : sdP g [(mcd, .inl (gI g, 600, .inl cdf)), (mcs, .inl (gI g, 600, .inl (upd csf (wn st) (nI cs - 1)))), (mkn, .inl (gC g, 32, .inl kf)), (m0, .inr (8, [.ref mtt, .int tk9, .int sz9, .int pl9, .int (nI (wn st1)), .ref mcd, .int (nI (sn st1)), .ref mat, .ref msz, .ref mvl, .ref mcs, .ref mmm, .int ra, .int rd, .int nx9, .int dn, .ref mkn, .ref mjp, .ref mds])), (mtt, .inl (gI g, 2000, .inl tf)), (mat, .inl (gI g, 40, .inl t1)), (msz, .inl (gI g, 40, .inl t2)), (mvl, .inl (gI g, 40, .inl t3))] H := by rw [hwn1]; exact hP
                        have hD : va_D A [(mcd, .inl (gI g, 600, .inl cdf)), (mcs, .inl (gI g, 600, .inl (upd csf (wn st) (nI cs - 1)))), (mkn, .inl (gC g, 32, .inl kf)), (m0, .inr (8, [.ref mtt, .int tk9, .int sz9, .int pl9, .int (nI (wn st1)), .ref mcd, .int (nI (sn st1)), .ref mat, .ref msz, .ref mvl, .ref mcs, .ref mmm, .int ra, .int rd, .int nx9, .int dn, .ref mkn, .ref mjp, .ref mds])), (mtt, .inl (gI g, 2000, .inl tf)), (mat, .inl (gI g, 40, .inl t1)), (msz, .inl (gI g, 40, .inl t2)), (mvl, .inl (gI g, 40, .inl t3))] := by rw [hwn1]; exact hD
                        refine lv_iconst (v := (nI 2)) hx hb d_Mod_address_170 (by decide) ?_
                        have hP9 := hP.sub (ws' := [(m0, .inr (8, [.ref mtt, .int tk9, .int sz9, .int pl9, .int (nI (wn st1)), .ref mcd, .int (nI (sn st1)), .ref mat, .ref msz, .ref mvl, .ref mcs, .ref mmm, .int ra, .int rd, .int nx9, .int dn, .ref mkn, .ref mjp, .ref mds])), (mtt, .inl (gI g, 2000, .inl tf)), (mcd, .inl (gI g, 600, .inl cdf)), (mat, .inl (gI g, 40, .inl t1)), (msz, .inl (gI g, 40, .inl t2)), (mvl, .inl (gI g, 40, .inl t3)), (mcs, .inl (gI g, 600, .inl (upd csf (wn st) (nI cs - 1)))), (mkn, .inl (gC g, 32, .inl kf))]) [3, 4, 0, 5, 6, 7, 1, 2] rfl
                        have hD9 := hD.sub (ws' := [(m0, .inr (8, [.ref mtt, .int tk9, .int sz9, .int pl9, .int (nI (wn st1)), .ref mcd, .int (nI (sn st1)), .ref mat, .ref msz, .ref mvl, .ref mcs, .ref mmm, .int ra, .int rd, .int nx9, .int dn, .ref mkn, .ref mjp, .ref mds])), (mtt, .inl (gI g, 2000, .inl tf)), (mcd, .inl (gI g, 600, .inl cdf)), (mat, .inl (gI g, 40, .inl t1)), (msz, .inl (gI g, 40, .inl t2)), (mvl, .inl (gI g, 40, .inl t3)), (mcs, .inl (gI g, 600, .inl (upd csf (wn st) (nI cs - 1)))), (mkn, .inl (gC g, 32, .inl kf))]) [3, 4, 0, 5, 6, 7, 1, 2] (by decide) rfl
                        exact W.iret (v := (nI 2)) hx hb hr (fun t ht hW => ⟨⟨_, (st1, cdf, upd csf (wn st) (nI cs - 1), t1, t2, t3), rfl, ⟨⟨2, by rw [spAddr, cl_t c84, if_neg (by omega), if_pos hk0, hzz, hsy, if_pos hc0], rfl⟩, MPR_of (MPR_cs hMP) hst1, hSR1, hSB1⟩, by rw [ht]; exact hP9, by rw [hAe]; exact hD9⟩, hS.F ht⟩) hS.2.2 d_Mod_address_171
                  · exact absurd rfl c86
                · have c85 := (nI_eq (by omega) (by omega)).mp c85
                  refine lv_iconst (v := (nI 2)) hx hb d_Mod_address_107 (by decide) ?_
                  have hP9 := hP.sub (ws' := [(m0, .inr (8, [.ref mtt, .int tk9, .int sz9, .int pl9, .int (nI (wn st)), .ref mcd, .int (nI (sn st)), .ref mat, .ref msz, .ref mvl, .ref mcs, .ref mmm, .int ra, .int rd, .int nx9, .int dn, .ref mkn, .ref mjp, .ref mds])), (mtt, .inl (gI g, 2000, .inl tf)), (mcd, .inl (gI g, 600, .inl cdf)), (mat, .inl (gI g, 40, .inl s1)), (msz, .inl (gI g, 40, .inl s2)), (mvl, .inl (gI g, 40, .inl s3)), (mcs, .inl (gI g, 600, .inl csf)), (mkn, .inl (gC g, 32, .inl kf))]) [0, 1, 2, 3, 4, 5, 6, 7] rfl
                  have hD9 := hD.sub (ws' := [(m0, .inr (8, [.ref mtt, .int tk9, .int sz9, .int pl9, .int (nI (wn st)), .ref mcd, .int (nI (sn st)), .ref mat, .ref msz, .ref mvl, .ref mcs, .ref mmm, .int ra, .int rd, .int nx9, .int dn, .ref mkn, .ref mjp, .ref mds])), (mtt, .inl (gI g, 2000, .inl tf)), (mcd, .inl (gI g, 600, .inl cdf)), (mat, .inl (gI g, 40, .inl s1)), (msz, .inl (gI g, 40, .inl s2)), (mvl, .inl (gI g, 40, .inl s3)), (mcs, .inl (gI g, 600, .inl csf)), (mkn, .inl (gC g, 32, .inl kf))]) [0, 1, 2, 3, 4, 5, 6, 7] (by decide) rfl
                  exact W.iret (v := (nI 2)) hx hb hr (fun t ht hW => ⟨⟨_, (st, cdf, csf, s1, s2, s3), rfl, ⟨⟨2, by rw [spAddr, cl_t c84, if_pos (by omega)], rfl⟩, hMP, hSR, hSB⟩, by rw [ht]; exact hP9, by rw [hAe]; exact hD9⟩, hS.F ht⟩) hS.2.2 d_Mod_address_108
              · have c84 := sb_eq0.mp c84
                refine lv_iconst (v := (nI 1)) hx hb d_Mod_address_95 (by decide) ?_
                have hP9 := hP.sub (ws' := [(m0, .inr (8, [.ref mtt, .int tk9, .int sz9, .int pl9, .int (nI (wn st)), .ref mcd, .int (nI (sn st)), .ref mat, .ref msz, .ref mvl, .ref mcs, .ref mmm, .int ra, .int rd, .int nx9, .int dn, .ref mkn, .ref mjp, .ref mds])), (mtt, .inl (gI g, 2000, .inl tf)), (mcd, .inl (gI g, 600, .inl cdf)), (mat, .inl (gI g, 40, .inl s1)), (msz, .inl (gI g, 40, .inl s2)), (mvl, .inl (gI g, 40, .inl s3)), (mcs, .inl (gI g, 600, .inl csf)), (mkn, .inl (gC g, 32, .inl kf))]) [0, 1, 2, 3, 4, 5, 6, 7] rfl
                have hD9 := hD.sub (ws' := [(m0, .inr (8, [.ref mtt, .int tk9, .int sz9, .int pl9, .int (nI (wn st)), .ref mcd, .int (nI (sn st)), .ref mat, .ref msz, .ref mvl, .ref mcs, .ref mmm, .int ra, .int rd, .int nx9, .int dn, .ref mkn, .ref mjp, .ref mds])), (mtt, .inl (gI g, 2000, .inl tf)), (mcd, .inl (gI g, 600, .inl cdf)), (mat, .inl (gI g, 40, .inl s1)), (msz, .inl (gI g, 40, .inl s2)), (mvl, .inl (gI g, 40, .inl s3)), (mcs, .inl (gI g, 600, .inl csf)), (mkn, .inl (gC g, 32, .inl kf))]) [0, 1, 2, 3, 4, 5, 6, 7] (by decide) rfl
                exact W.iret (v := (nI 1)) hx hb hr (fun t ht hW => ⟨⟨_, (st, cdf, csf, s1, s2, s3), rfl, ⟨⟨1, by rw [spAddr, cl_f c84, cl_f hnn], rfl⟩, hMP, hSR, hSB⟩, by rw [ht]; exact hP9, by rw [hAe]; exact hD9⟩, hS.F ht⟩) hS.2.2 d_Mod_address_96
          · exact absurd rfl c81
      · have c73 := mt (nI_leI (by omega) (by omega)).mpr c73
        rcases h2 with h2 | h2
        · obtain ⟨rfl, g1, g2, g3, rfl⟩ := h2
          have g4 : nV tx a k < 10 ^ k := nV_lt (fun j h5 h6 => by have := g3 (j - a) (by omega); rw [show a + (j - a) = j by omega] at this; exact this)
          have g5 : (10 : Nat) ^ k ≤ 10 ^ 4 := Nat.pow_le_pow_right (by decide) (by omega)
          refine lv_iload_n hx hb d_Mod_address_27 rfl (lv_at hl 1 rfl) ?_
          refine lv_if_eq (tgt := 70) hx hb d_Mod_address_28 (by decide) (fun c93 => ?_) (fun c93 => ?_)
          · exact absurd c93 (by decide)
          · refine lv_aload_n hx hb d_Mod_address_31 rfl (lv_at hl 3 rfl) ?_
            refine va_get (D := g.1) (ci := 8) (v := .ref mtt) (C := "SignDeskModel") (T := F_Mod) (N := 19) hx hb hts in_Mod hown hK hP 0 rfl rfl 0 (by decide) (hts _ k_494) (fun _ h9 => h9) rfl d_Mod_address_32 ?_
            refine lv_iload_n hx hb d_Mod_address_35 rfl (lv_at hl 4 rfl) ?_
            refine lv_iload hx hb d_Mod_address_36 (lv_at hl 0 rfl) ?_
            refine lv_iadd hx hb d_Mod_address_38 ?_
            refine sd_topi (y := nI (a + k)) (nI_add _ _) ?_
            refine va_iald hx hb hK hP 1 1 rfl rfl (i := (nI (a + k))) (vp_in_nI (by omega) (by omega)) d_Mod_address_39 ?_
            refine sd_topi (y := nI (tx (a + k))) (by rw [nI_clamp (by omega)]; exact hT.2.2.1 _ (by omega)) ?_
            have hb8i := hb8 (a + k)
            refine sd_ri (va_runS (As := [.int (nI (tx (a + k)))]) (rest := []) ⟨hx, hb, hml, hown, hts⟩ (c_Mod_isDigit l (tx (a + k)) (hb8 _)) (va_cwS 1 hts (sd_gS k_588 k_589 k_30 k_590) rfl rfl rfl (by decide +kernel) ⟨Nat.le_of_ble_eq_true rfl, Nat.le_of_ble_eq_true rfl⟩) preEq rfl rfl hl.1 rfl (lv_room (Nat.le_of_ble_eq_true rfl)) d_Mod_address_40 ⟨Nat.zero_le _, Nat.zero_le _⟩) (fun r94 er94 => ?_)
            subst er94
            have hb8k := hb8 (a + k)
            refine lv_istore_n (lv' := [(3, .int (sb (48 ≤ tx (a + k) ∧ tx (a + k) ≤ 57))), (5, .int (nI k)), (4, .int (nI (nV tx a k))), (0, .ref m0), (1, .int (nI a)), (2, .int (nI cn))]) hx hb d_Mod_address_43 rfl hl (by decide) rfl (fun ls hl => ?_)
            refine lv_bipush (v := (nI 10)) hx hb d_Mod_address_44 (by decide) ?_
            refine lv_iload hx hb d_Mod_address_46 (lv_at hl 2 rfl) ?_
            refine lv_imul hx hb d_Mod_address_48 ?_
            refine sd_topi (y := nI (10 * (nV tx a k))) (pk_mul _ _) ?_
            refine lv_aload_n hx hb d_Mod_address_49 rfl (lv_at hl 3 rfl) ?_
            refine va_get (D := g.1) (ci := 8) (v := .ref mtt) (C := "SignDeskModel") (T := F_Mod) (N := 19) hx hb hts in_Mod hown hK hP 0 rfl rfl 0 (by decide) (hts _ k_494) (fun _ h9 => h9) rfl d_Mod_address_50 ?_
            refine lv_iload_n hx hb d_Mod_address_53 rfl (lv_at hl 4 rfl) ?_
            refine lv_iload hx hb d_Mod_address_54 (lv_at hl 1 rfl) ?_
            refine lv_iadd hx hb d_Mod_address_56 ?_
            refine sd_topi (y := nI (a + k)) (nI_add _ _) ?_
            refine va_iald hx hb hK hP 1 1 rfl rfl (i := (nI (a + k))) (vp_in_nI (by omega) (by omega)) d_Mod_address_57 ?_
            refine sd_topi (y := nI (tx (a + k))) (by rw [nI_clamp (by omega)]; exact hT.2.2.1 _ (by omega)) ?_
            have hb8i := hb8 (a + k)
            refine lv_iadd hx hb d_Mod_address_58 ?_
            refine sd_topi (y := nI ((10 * (nV tx a k)) + (tx (a + k)))) (nI_add _ _) ?_
            refine lv_bipush (v := (nI 48)) hx hb d_Mod_address_59 (by decide) ?_
            by_cases hdg : 48 ≤ tx (a + k) ∧ tx (a + k) ≤ 57
            · refine lv_isub hx hb d_Mod_address_61 ?_
              refine sd_topi (y := nI (nV tx a (k + 1))) (by rw [pk_sub (by omega)]; exact congrArg nI (by show _ = 10 * nV tx a k + (tx (a + k) - 48); omega)) ?_
              refine lv_istore (lv' := [(4, .int (nI (nV tx a (k + 1)))), (3, .int (sb (48 ≤ tx (a + k) ∧ tx (a + k) ≤ 57))), (5, .int (nI k)), (0, .ref m0), (1, .int (nI a)), (2, .int (nI cn))]) hx hb d_Mod_address_62 hl (by decide) rfl (fun ls hl => ?_)
              refine lv_iinc (v := (nI (k + 1))) (lv' := [(5, .int (nI (k + 1))), (4, .int (nI (nV tx a (k + 1)))), (3, .int (sb (48 ≤ tx (a + k) ∧ tx (a + k) ≤ 57))), (0, .ref m0), (1, .int (nI a)), (2, .int (nI cn))]) hx hb d_Mod_address_64 hl (k := 2) rfl (nI_1 _) (by decide) rfl (fun ls hl => ?_)
              refine lv_goto (tgt := 21) hx hb d_Mod_address_67 (by decide) ?_
              exact ih (k + 1, nI 1, nI (nV tx a (k + 1))) _ ⟨by
                  have e9 : sb (48 ≤ tx (a + k) ∧ tx (a + k) ≤ 57) = nI 1 := sb_t hdg
                  rw [e9] at hl
                  exact lv_sub hl [0, 2, 1, 3, 4, 5] rfl, by omega, Or.inl ⟨rfl, g1, g2, fun j hj => by
                  rcases Nat.lt_or_ge j k with q | q
                  · exact g3 j q
                  · have : j = k := by omega
                    subst this; exact hdg, rfl⟩⟩ (show cn - (k + 1) < cn - k by omega)
            · refine lv_isub hx hb d_Mod_address_61 ?_
              refine lv_istore (lv' := [(4, .int ((nI ((10 * (nV tx a k)) + (tx (a + k)))) - (nI 48))), (3, .int (sb (48 ≤ tx (a + k) ∧ tx (a + k) ≤ 57))), (5, .int (nI k)), (0, .ref m0), (1, .int (nI a)), (2, .int (nI cn))]) hx hb d_Mod_address_62 hl (by decide) rfl (fun ls hl => ?_)
              refine lv_iinc (v := (nI (k + 1))) (lv' := [(5, .int (nI (k + 1))), (4, .int ((nI ((10 * (nV tx a k)) + (tx (a + k)))) - (nI 48))), (3, .int (sb (48 ≤ tx (a + k) ∧ tx (a + k) ≤ 57))), (0, .ref m0), (1, .int (nI a)), (2, .int (nI cn))]) hx hb d_Mod_address_64 hl (k := 2) rfl (nI_1 _) (by decide) rfl (fun ls hl => ?_)
              refine lv_goto (tgt := 21) hx hb d_Mod_address_67 (by decide) ?_
              exact ih (k + 1, nI 0, _) _ ⟨by
                  have e9 : sb (48 ≤ tx (a + k) ∧ tx (a + k) ≤ 57) = nI 0 := sb_f hdg
                  rw [e9] at hl
                  exact lv_sub hl [0, 2, 1, 3, 4, 5] rfl, by omega, Or.inr ⟨rfl, fun q => hdg (q.2.2 k (by omega))⟩⟩ (show cn - (k + 1) < cn - k by omega)
        · obtain ⟨rfl, g0⟩ := h2
          refine lv_iload_n hx hb d_Mod_address_27 rfl (lv_at hl 1 rfl) ?_
          refine lv_if_eq (tgt := 70) hx hb d_Mod_address_28 (by decide) (fun c95 => ?_) (fun c95 => ?_)
          · refine lv_iload_n hx hb d_Mod_address_70 rfl (lv_at hl 1 rfl) ?_
            have hnn : ¬ nuP tx a (a + cn) := fun q => g0 ⟨by have := q.1; omega, by have := q.2.1; omega, fun j hj => q.2.2.1 (a + j) (by omega) (by omega)⟩
            have hzz : a + cn - a = cn := by omega
            refine lv_if_eq (tgt := 82) hx hb d_Mod_address_71 (by decide) (fun c96 => ?_) (fun c96 => ?_)
            · refine lv_iload_n hx hb d_Mod_address_82 rfl (lv_at hl 1 rfl) ?_
              refine lv_if_ne (tgt := 97) hx hb d_Mod_address_83 (by decide) (fun c97 => ?_) (fun c97 => ?_)
              · exact absurd rfl c97
              · refine lv_aload_n hx hb d_Mod_address_86 rfl (lv_at hl 3 rfl) ?_
                refine lv_iload_n hx hb d_Mod_address_87 rfl (lv_at hl 4 rfl) ?_
                refine lv_iload_n hx hb d_Mod_address_88 rfl (lv_at hl 5 rfl) ?_
                refine sd_ri (va_runV (As := [.int (nI a), .int (nI cn)]) (rest := []) ⟨hx, hb, hml, hown, hts⟩ (c_Mod_isSymbol l g m0 mtt mcd mat msz mvl mcs mmm mkn mjp mds tk9 sz9 pl9 (nI (wn st)) (nI (sn st)) ra rd nx9 dn n tf tx hT a cn (by omega) (by omega) (fun _ => hac)) (cwV 2 hts (sd_gV k_584 k_586 k_13 k_30 k_587) rfl rfl rfl (by decide +kernel) ⟨Nat.le_of_ble_eq_true rfl, Nat.le_of_ble_eq_true rfl⟩) (sd_preV hK hE (sd_fr hS hA0) (hP.sub (ws' := [(m0, .inr (8, [.ref mtt, .int tk9, .int sz9, .int pl9, .int (nI (wn st)), .ref mcd, .int (nI (sn st)), .ref mat, .ref msz, .ref mvl, .ref mcs, .ref mmm, .int ra, .int rd, .int nx9, .int dn, .ref mkn, .ref mjp, .ref mds])), (mtt, .inl (gI g, 2000, .inl tf))]) [0, 1] rfl) rfl rfl) rfl rfl hl.1 rfl (lv_room (Nat.le_of_ble_eq_true rfl)) d_Mod_address_89 ⟨Nat.zero_le _, Nat.zero_le _⟩) (fun r98 er98 => ?_)
                subst er98
                refine lv_if_ne (tgt := 97) hx hb d_Mod_address_92 (by decide) (fun c99 => ?_) (fun c99 => ?_)
                · have c99 := sb_ne0.mp c99
                  have hc1 : 1 ≤ cn := by have := c99.1; omega
                  refine lv_aload_n hx hb d_Mod_address_97 rfl (lv_at hl 3 rfl) ?_
                  refine va_get (D := g.1) (ci := 8) (v := .int (nI (wn st))) (C := "SignDeskModel") (T := F_Mod) (N := 19) hx hb hts in_Mod hown hK hP 0 rfl rfl 4 (by decide) (hts _ k_498) (fun _ h9 => h9) rfl d_Mod_address_98 ?_
                  refine lv_sipush (v := (nI 600)) hx hb d_Mod_address_101 (by decide) ?_
                  refine lv_icmp_ne (tgt := 109) hx hb d_Mod_address_104 (by decide) (fun c100 => ?_) (fun c100 => ?_)
                  · have c100 := mt (nI_eq (by omega) (by omega)).mpr c100
                    refine lv_aload_n hx hb d_Mod_address_109 rfl (lv_at hl 3 rfl) ?_
                    refine va_get (D := g.1) (ci := 8) (v := .ref mcs) (C := "SignDeskModel") (T := F_Mod) (N := 19) hx hb hts in_Mod hown hK hP 0 rfl rfl 10 (by decide) (hts _ k_504) (fun _ h9 => h9) rfl d_Mod_address_110 ?_
                    refine lv_aload_n hx hb d_Mod_address_113 rfl (lv_at hl 3 rfl) ?_
                    refine va_get (D := g.1) (ci := 8) (v := .int (nI (wn st))) (C := "SignDeskModel") (T := F_Mod) (N := 19) hx hb hts in_Mod hown hK hP 0 rfl rfl 4 (by decide) (hts _ k_498) (fun _ h9 => h9) rfl d_Mod_address_114 ?_
                    refine lv_iconst (v := (-1)) hx hb d_Mod_address_117 (by decide) ?_
                    refine va_iast hx hb hK hP hD hS 6 1 rfl rfl (i := (nI (wn st))) (x := (-1)) (vp_in_nI (by omega) (by omega)) d_Mod_address_118 (fun H locs hP hD hS => ?_)
                    have hP : sdP g [(m0, .inr (8, [.ref mtt, .int tk9, .int sz9, .int pl9, .int (nI (wn st)), .ref mcd, .int (nI (sn st)), .ref mat, .ref msz, .ref mvl, .ref mcs, .ref mmm, .int ra, .int rd, .int nx9, .int dn, .ref mkn, .ref mjp, .ref mds])), (mtt, .inl (gI g, 2000, .inl tf)), (mcd, .inl (gI g, 600, .inl cdf)), (mat, .inl (gI g, 40, .inl s1)), (msz, .inl (gI g, 40, .inl s2)), (mvl, .inl (gI g, 40, .inl s3)), (mcs, .inl (gI g, 600, .inl (upd csf ((nI (wn st))).toNatClampNeg (-1)))), (mkn, .inl (gC g, 32, .inl kf))] H := hP
                    have hD : va_D A [(m0, .inr (8, [.ref mtt, .int tk9, .int sz9, .int pl9, .int (nI (wn st)), .ref mcd, .int (nI (sn st)), .ref mat, .ref msz, .ref mvl, .ref mcs, .ref mmm, .int ra, .int rd, .int nx9, .int dn, .ref mkn, .ref mjp, .ref mds])), (mtt, .inl (gI g, 2000, .inl tf)), (mcd, .inl (gI g, 600, .inl cdf)), (mat, .inl (gI g, 40, .inl s1)), (msz, .inl (gI g, 40, .inl s2)), (mvl, .inl (gI g, 40, .inl s3)), (mcs, .inl (gI g, 600, .inl (upd csf ((nI (wn st))).toNatClampNeg (-1)))), (mkn, .inl (gC g, 32, .inl kf))] := hD
                    have eF : (upd csf ((nI (wn st))).toNatClampNeg (-1)) = (upd csf (wn st) (-1)) := by rw [nI_clamp (by omega)]
                    rw [eF] at hP hD
                    refine lv_iload_n hx hb d_Mod_address_119 rfl (lv_at hl 1 rfl) ?_
                    refine lv_if_eq (tgt := 128) hx hb d_Mod_address_120 (by decide) (fun c101 => ?_) (fun c101 => ?_)
                    · refine lv_aload_n hx hb d_Mod_address_128 rfl (lv_at hl 3 rfl) ?_
                      refine lv_iload_n hx hb d_Mod_address_129 rfl (lv_at hl 4 rfl) ?_
                      refine lv_iload_n hx hb d_Mod_address_130 rfl (lv_at hl 5 rfl) ?_
                      refine sd_ri (va_runV (As := [.int (nI a), .int (nI cn)]) (rest := []) ⟨hx, hb, hml, hown, hts⟩ (c_Mod_knownOf l g m0 mtt mcd mat msz mvl mcs mmm mkn mjp mds tk9 sz9 pl9 (nI (wn st)) (nI (sn st)) ra rd nx9 dn kf hRk n tf tx hT a cn hc1 hac htk) (cwV 2 hts (sd_gV k_600 k_602 k_14 k_30 k_603) rfl rfl rfl (by decide +kernel) ⟨Nat.le_of_ble_eq_true rfl, Nat.le_of_ble_eq_true rfl⟩) (sd_preV hK hE (sd_fr hS hA0) (hP.sub (ws' := [(m0, .inr (8, [.ref mtt, .int tk9, .int sz9, .int pl9, .int (nI (wn st)), .ref mcd, .int (nI (sn st)), .ref mat, .ref msz, .ref mvl, .ref mcs, .ref mmm, .int ra, .int rd, .int nx9, .int dn, .ref mkn, .ref mjp, .ref mds])), (mtt, .inl (gI g, 2000, .inl tf)), (mkn, .inl (gC g, 32, .inl kf))]) [0, 1, 7] rfl) rfl rfl) rfl rfl hl.1 rfl (lv_room (Nat.le_of_ble_eq_true rfl)) d_Mod_address_131 ⟨Nat.zero_le _, Nat.zero_le _⟩) (fun r102 er102 => ?_)
                      subst er102
                      have hkn := knK_le (tx := tx) (a := a) (z := a + cn)
                      refine lv_istore (lv' := [(5, .int (nI (knK tx a (a + cn)) - 1)), (3, .int (nI 0)), (4, .int v9), (0, .ref m0), (1, .int (nI a)), (2, .int (nI cn))]) hx hb d_Mod_address_134 hl (by decide) rfl (fun ls hl => ?_)
                      refine lv_iload hx hb d_Mod_address_136 (lv_at hl 0 rfl) ?_
                      refine lv_iconst (v := (-1)) hx hb d_Mod_address_138 (by decide) ?_
                      refine lv_icmp_ne (tgt := 172) hx hb d_Mod_address_139 (by decide) (fun c103 => ?_) (fun c103 => ?_)
                      · have hk0 : ¬ knK tx a (a + cn) = 0 := fun q => c103 (by rw [q]; decide)
                        refine lv_aload_n hx hb d_Mod_address_172 rfl (lv_at hl 3 rfl) ?_
                        refine va_get (D := g.1) (ci := 8) (v := .ref mcd) (C := "SignDeskModel") (T := F_Mod) (N := 19) hx hb hts in_Mod hown hK hP 0 rfl rfl 5 (by decide) (hts _ k_499) (fun _ h9 => h9) rfl d_Mod_address_173 ?_
                        refine lv_aload_n hx hb d_Mod_address_176 rfl (lv_at hl 3 rfl) ?_
                        refine va_get (D := g.1) (ci := 8) (v := .int (nI (wn st))) (C := "SignDeskModel") (T := F_Mod) (N := 19) hx hb hts in_Mod hown hK hP 0 rfl rfl 4 (by decide) (hts _ k_498) (fun _ h9 => h9) rfl d_Mod_address_177 ?_
                        refine lv_iload hx hb d_Mod_address_180 (lv_at hl 0 rfl) ?_
                        refine lv_iconst (v := (-1)) hx hb d_Mod_address_182 (by decide) ?_
                        refine lv_icmp_ne (tgt := 190) hx hb d_Mod_address_183 (by decide) (fun c104 => ?_) (fun c104 => ?_)
                        · refine lv_iload hx hb d_Mod_address_190 (lv_at hl 0 rfl) ?_
                          refine sd_topi (y := nI (knK tx a (a + cn) - 1)) (m1_up hk0) ?_
                          refine va_iast hx hb hK hP hD hS 2 1 rfl rfl (i := (nI (wn st))) (x := (nI (knK tx a (a + cn) - 1))) (vp_in_nI (by omega) (by omega)) d_Mod_address_192 (fun H locs hP hD hS => ?_)
                          have hP : sdP g [(m0, .inr (8, [.ref mtt, .int tk9, .int sz9, .int pl9, .int (nI (wn st)), .ref mcd, .int (nI (sn st)), .ref mat, .ref msz, .ref mvl, .ref mcs, .ref mmm, .int ra, .int rd, .int nx9, .int dn, .ref mkn, .ref mjp, .ref mds])), (mtt, .inl (gI g, 2000, .inl tf)), (mcd, .inl (gI g, 600, .inl (upd cdf ((nI (wn st))).toNatClampNeg (nI (knK tx a (a + cn) - 1))))), (mat, .inl (gI g, 40, .inl s1)), (msz, .inl (gI g, 40, .inl s2)), (mvl, .inl (gI g, 40, .inl s3)), (mcs, .inl (gI g, 600, .inl (upd csf (wn st) (-1)))), (mkn, .inl (gC g, 32, .inl kf))] H := hP
                          have hD : va_D A [(m0, .inr (8, [.ref mtt, .int tk9, .int sz9, .int pl9, .int (nI (wn st)), .ref mcd, .int (nI (sn st)), .ref mat, .ref msz, .ref mvl, .ref mcs, .ref mmm, .int ra, .int rd, .int nx9, .int dn, .ref mkn, .ref mjp, .ref mds])), (mtt, .inl (gI g, 2000, .inl tf)), (mcd, .inl (gI g, 600, .inl (upd cdf ((nI (wn st))).toNatClampNeg (nI (knK tx a (a + cn) - 1))))), (mat, .inl (gI g, 40, .inl s1)), (msz, .inl (gI g, 40, .inl s2)), (mvl, .inl (gI g, 40, .inl s3)), (mcs, .inl (gI g, 600, .inl (upd csf (wn st) (-1)))), (mkn, .inl (gC g, 32, .inl kf))] := hD
                          have eF : (upd cdf ((nI (wn st))).toNatClampNeg (nI (knK tx a (a + cn) - 1))) = (upd cdf (wn st) (nI (knK tx a (a + cn) - 1))) := by rw [nI_clamp (by omega)]
                          rw [eF] at hP hD
                          refine lv_aload_n hx hb d_Mod_address_193 rfl (lv_at hl 3 rfl) ?_
                          refine lv_aload_n hx hb d_Mod_address_194 rfl (lv_at hl 3 rfl) ?_
                          refine va_get (D := g.1) (ci := 8) (v := .int (nI (wn st))) (C := "SignDeskModel") (T := F_Mod) (N := 19) hx hb hts in_Mod hown hK hP 0 rfl rfl 4 (by decide) (hts _ k_498) (fun _ h9 => h9) rfl d_Mod_address_195 ?_
                          refine lv_iconst (v := (nI 1)) hx hb d_Mod_address_198 (by decide) ?_
                          refine lv_iadd hx hb d_Mod_address_199 ?_
                          refine sd_topi (y := nI ((wn st) + 1)) (nI_add _ _) ?_
                          refine va_put (D := g.1) (ci := 8) (v := .int (nI ((wn st) + 1))) (ty := .int) (C := "SignDeskModel") (T := F_Mod) (N := 19) hx hb hts in_Mod t_Mod t_Mod_ok n_Mod hown hK hP hD hS 0 rfl rfl 4 (by decide) (hts _ k_498) (fun _ h9 => h9) rfl (by decide +kernel) rfl rfl (Nat.le_of_ble_eq_true rfl) d_Mod_address_200 (fun H locs hP hD hS => ?_)
                          have hP : sdP g [(m0, .inr (8, [.ref mtt, .int tk9, .int sz9, .int pl9, .int (nI ((wn st) + 1)), .ref mcd, .int (nI (sn st)), .ref mat, .ref msz, .ref mvl, .ref mcs, .ref mmm, .int ra, .int rd, .int nx9, .int dn, .ref mkn, .ref mjp, .ref mds])), (mtt, .inl (gI g, 2000, .inl tf)), (mcd, .inl (gI g, 600, .inl (upd cdf (wn st) (nI (knK tx a (a + cn) - 1))))), (mat, .inl (gI g, 40, .inl s1)), (msz, .inl (gI g, 40, .inl s2)), (mvl, .inl (gI g, 40, .inl s3)), (mcs, .inl (gI g, 600, .inl (upd csf (wn st) (-1)))), (mkn, .inl (gC g, 32, .inl kf))] H := hP
                          have hD : va_D A [(m0, .inr (8, [.ref mtt, .int tk9, .int sz9, .int pl9, .int (nI ((wn st) + 1)), .ref mcd, .int (nI (sn st)), .ref mat, .ref msz, .ref mvl, .ref mcs, .ref mmm, .int ra, .int rd, .int nx9, .int dn, .ref mkn, .ref mjp, .ref mds])), (mtt, .inl (gI g, 2000, .inl tf)), (mcd, .inl (gI g, 600, .inl (upd cdf (wn st) (nI (knK tx a (a + cn) - 1))))), (mat, .inl (gI g, 40, .inl s1)), (msz, .inl (gI g, 40, .inl s2)), (mvl, .inl (gI g, 40, .inl s3)), (mcs, .inl (gI g, 600, .inl (upd csf (wn st) (-1)))), (mkn, .inl (gC g, 32, .inl kf))] := hD
                          refine lv_iconst (v := (nI 0)) hx hb d_Mod_address_203 (by decide) ?_
                          have hP9 := hP.sub (ws' := [(m0, .inr (8, [.ref mtt, .int tk9, .int sz9, .int pl9, .int (nI ((wn st) + 1)), .ref mcd, .int (nI (sn st)), .ref mat, .ref msz, .ref mvl, .ref mcs, .ref mmm, .int ra, .int rd, .int nx9, .int dn, .ref mkn, .ref mjp, .ref mds])), (mtt, .inl (gI g, 2000, .inl tf)), (mcd, .inl (gI g, 600, .inl (upd cdf (wn st) (nI (knK tx a (a + cn) - 1))))), (mat, .inl (gI g, 40, .inl s1)), (msz, .inl (gI g, 40, .inl s2)), (mvl, .inl (gI g, 40, .inl s3)), (mcs, .inl (gI g, 600, .inl (upd csf (wn st) (-1)))), (mkn, .inl (gC g, 32, .inl kf))]) [0, 1, 2, 3, 4, 5, 6, 7] rfl
                          have hD9 := hD.sub (ws' := [(m0, .inr (8, [.ref mtt, .int tk9, .int sz9, .int pl9, .int (nI ((wn st) + 1)), .ref mcd, .int (nI (sn st)), .ref mat, .ref msz, .ref mvl, .ref mcs, .ref mmm, .int ra, .int rd, .int nx9, .int dn, .ref mkn, .ref mjp, .ref mds])), (mtt, .inl (gI g, 2000, .inl tf)), (mcd, .inl (gI g, 600, .inl (upd cdf (wn st) (nI (knK tx a (a + cn) - 1))))), (mat, .inl (gI g, 40, .inl s1)), (msz, .inl (gI g, 40, .inl s2)), (mvl, .inl (gI g, 40, .inl s3)), (mcs, .inl (gI g, 600, .inl (upd csf (wn st) (-1)))), (mkn, .inl (gC g, 32, .inl kf))]) [0, 1, 2, 3, 4, 5, 6, 7] (by decide) rfl
                          exact W.iret (v := (nI 0)) hx hb hr (fun t ht hW => ⟨⟨_, (pushW st (knK tx a (a + cn) - 1) 0, upd cdf (wn st) (nI (knK tx a (a + cn) - 1)), upd csf (wn st) (-1), s1, s2, s3), rfl, ⟨⟨0, by rw [spAddr, cl_t c99, if_neg (by omega), if_neg hk0], rfl⟩, MPR_push (y := 0) hMP (by omega), hSR, hSB⟩, by rw [ht]; exact hP9, by rw [hAe]; exact hD9⟩, hS.F ht⟩) hS.2.2 d_Mod_address_204
                        · exact absurd c104 c103
                      · have hk0 : knK tx a (a + cn) = 0 := (m1_iff (by omega)).mp c103
                        refine lv_aload_n hx hb d_Mod_address_142 rfl (lv_at hl 3 rfl) ?_
                        refine va_get (D := g.1) (ci := 8) (v := .ref mcs) (C := "SignDeskModel") (T := F_Mod) (N := 19) hx hb hts in_Mod hown hK hP 0 rfl rfl 10 (by decide) (hts _ k_504) (fun _ h9 => h9) rfl d_Mod_address_143 ?_
                        refine lv_aload_n hx hb d_Mod_address_146 rfl (lv_at hl 3 rfl) ?_
                        refine va_get (D := g.1) (ci := 8) (v := .int (nI (wn st))) (C := "SignDeskModel") (T := F_Mod) (N := 19) hx hb hts in_Mod hown hK hP 0 rfl rfl 4 (by decide) (hts _ k_498) (fun _ h9 => h9) rfl d_Mod_address_147 ?_
                        refine lv_aload_n hx hb d_Mod_address_150 rfl (lv_at hl 3 rfl) ?_
                        refine lv_iload_n hx hb d_Mod_address_151 rfl (lv_at hl 4 rfl) ?_
                        refine lv_iload_n hx hb d_Mod_address_152 rfl (lv_at hl 5 rfl) ?_
                        have hPc := hP.sub (ws' := [(m0, .inr (8, [.ref mtt, .int tk9, .int sz9, .int pl9, .int (nI (wn st)), .ref mcd, .int (nI (sn st)), .ref mat, .ref msz, .ref mvl, .ref mcs, .ref mmm, .int ra, .int rd, .int nx9, .int dn, .ref mkn, .ref mjp, .ref mds])), (mtt, .inl (gI g, 2000, .inl tf)), (mat, .inl (gI g, 40, .inl s1)), (msz, .inl (gI g, 40, .inl s2)), (mvl, .inl (gI g, 40, .inl s3))]) [0, 1, 3, 4, 5] rfl
                        have hDc := hD.sub (ws' := [(m0, .inr (8, [.ref mtt, .int tk9, .int sz9, .int pl9, .int (nI (wn st)), .ref mcd, .int (nI (sn st)), .ref mat, .ref msz, .ref mvl, .ref mcs, .ref mmm, .int ra, .int rd, .int nx9, .int dn, .ref mkn, .ref mjp, .ref mds])), (mtt, .inl (gI g, 2000, .inl tf)), (mat, .inl (gI g, 40, .inl s1)), (msz, .inl (gI g, 40, .inl s2)), (mvl, .inl (gI g, 40, .inl s3))]) [0, 1, 3, 4, 5] (by decide) rfl
                        have hFc := va_free (wc := [(m0, .inr (8, [.ref mtt, .int tk9, .int sz9, .int pl9, .int (nI (wn st)), .ref mcd, .int (nI (sn st)), .ref mat, .ref msz, .ref mvl, .ref mcs, .ref mmm, .int ra, .int rd, .int nx9, .int dn, .ref mkn, .ref mjp, .ref mds])), (mtt, .inl (gI g, 2000, .inl tf)), (mat, .inl (gI g, 40, .inl s1)), (msz, .inl (gI g, 40, .inl s2)), (mvl, .inl (gI g, 40, .inl s3))]) hD hS hA [0, 1, 3, 4, 5] rfl
                        refine sd_ci (va_runV (As := [.int (nI a), .int (nI cn)]) (rest := [.int (nI (wn st)), .ref mcs]) ⟨hx, hb, hml, hown, hts⟩ (c_Mod_symbolOf l g m0 mtt mcd mat msz mvl mcs mmm mkn mjp mds tk9 sz9 pl9 (nI (wn st)) ra rd nx9 dn n tf tx hT st s1 s2 s3 hSR hSB (a) (cn) (hc1) (by omega) H.size) (cwV 2 hts (sd_gV k_608 k_610 k_16 k_30 k_611) rfl rfl rfl (by decide +kernel) ⟨Nat.le_of_ble_eq_true rfl, Nat.le_of_ble_eq_true rfl⟩) (sd_preVU hK hE hS hA0 hs0 hPc hDc rfl rfl) rfl rfl hl.1 rfl (lv_room (Nat.le_of_ble_eq_true rfl)) d_Mod_address_153 ⟨Nat.zero_le _, Nat.zero_le _⟩) hS hFc (fun r105 u H1 locs hw hP1 hD1 hk1 hS => ?_)
                        obtain ⟨st1, t1, t2, t3⟩ := u
                        obtain ⟨hP, hD⟩ := va_join (wr := [(mcd, .inl (gI g, 600, .inl cdf)), (mcs, .inl (gI g, 600, .inl (upd csf (wn st) (-1)))), (mkn, .inl (gC g, 32, .inl kf))]) (w1 := [(m0, .inr (8, [.ref mtt, .int tk9, .int sz9, .int pl9, .int (nI (wn st)), .ref mcd, .int (nI (sn st1)), .ref mat, .ref msz, .ref mvl, .ref mcs, .ref mmm, .int ra, .int rd, .int nx9, .int dn, .ref mkn, .ref mjp, .ref mds])), (mtt, .inl (gI g, 2000, .inl tf)), (mat, .inl (gI g, 40, .inl t1)), (msz, .inl (gI g, 40, .inl t2)), (mvl, .inl (gI g, 40, .inl t3))]) hP hD [0, 1, 3, 4, 5] [2, 6, 7] rfl rfl (by decide) (by decide) hk1 hFc hP1 hD1
                        clear hPc hDc hFc hk1 hP1 hD1
                        generalize H1 = H at hP hS ⊢
                        have hP : sdP g [(mcd, .inl (gI g, 600, .inl cdf)), (mcs, .inl (gI g, 600, .inl (upd csf (wn st) (-1)))), (mkn, .inl (gC g, 32, .inl kf)), (m0, .inr (8, [.ref mtt, .int tk9, .int sz9, .int pl9, .int (nI (wn st)), .ref mcd, .int (nI (sn st1)), .ref mat, .ref msz, .ref mvl, .ref mcs, .ref mmm, .int ra, .int rd, .int nx9, .int dn, .ref mkn, .ref mjp, .ref mds])), (mtt, .inl (gI g, 2000, .inl tf)), (mat, .inl (gI g, 40, .inl t1)), (msz, .inl (gI g, 40, .inl t2)), (mvl, .inl (gI g, 40, .inl t3))] H := hP
                        have hD : va_D A [(mcd, .inl (gI g, 600, .inl cdf)), (mcs, .inl (gI g, 600, .inl (upd csf (wn st) (-1)))), (mkn, .inl (gC g, 32, .inl kf)), (m0, .inr (8, [.ref mtt, .int tk9, .int sz9, .int pl9, .int (nI (wn st)), .ref mcd, .int (nI (sn st1)), .ref mat, .ref msz, .ref mvl, .ref mcs, .ref mmm, .int ra, .int rd, .int nx9, .int dn, .ref mkn, .ref mjp, .ref mds])), (mtt, .inl (gI g, 2000, .inl tf)), (mat, .inl (gI g, 40, .inl t1)), (msz, .inl (gI g, 40, .inl t2)), (mvl, .inl (gI g, 40, .inl t3))] := hD
                        obtain ⟨⟨cs, hsy, er105⟩, hSR1⟩ := hw
                        have hsy : syO tx st (a) (cn) = (cs, st1) := hsy
                        have hSR1 : SR st1 t1 t2 t3 := hSR1
                        have hst1 : st1.1 = st.1 := by have h := syO_fst (tx := tx) (st := st) (a := a) (n := cn); rw [hsy] at h; exact h
                        have hcs := syO_le (tx := tx) (a := a) (n := cn) h40
                        rw [hsy] at hcs
                        have hcs1 : cs ≤ sn st1 := hcs.1
                        have hcs2 : sn st1 ≤ 40 := hcs.2
                        have hSB1 : SB n st1 := by have h := SB_O (tx := tx) (a := a) (c := cn) hSB (by omega); rw [hsy] at h; exact h
                        subst er105
                        have hwn1 : wn st1 = wn st := by show st1.1.1 = st.1.1; rw [hst1]
                        refine va_iast hx hb hK hP hD hS 1 1 rfl rfl (i := (nI (wn st))) (x := (nI cs - 1)) (vp_in_nI (by omega) (by omega)) d_Mod_address_156 (fun H locs hP hD hS => ?_)
                        have hP : sdP g [(mcd, .inl (gI g, 600, .inl cdf)), (mcs, .inl (gI g, 600, .inl (upd (upd csf (wn st) (-1)) ((nI (wn st))).toNatClampNeg (nI cs - 1)))), (mkn, .inl (gC g, 32, .inl kf)), (m0, .inr (8, [.ref mtt, .int tk9, .int sz9, .int pl9, .int (nI (wn st)), .ref mcd, .int (nI (sn st1)), .ref mat, .ref msz, .ref mvl, .ref mcs, .ref mmm, .int ra, .int rd, .int nx9, .int dn, .ref mkn, .ref mjp, .ref mds])), (mtt, .inl (gI g, 2000, .inl tf)), (mat, .inl (gI g, 40, .inl t1)), (msz, .inl (gI g, 40, .inl t2)), (mvl, .inl (gI g, 40, .inl t3))] H := hP
                        have hD : va_D A [(mcd, .inl (gI g, 600, .inl cdf)), (mcs, .inl (gI g, 600, .inl (upd (upd csf (wn st) (-1)) ((nI (wn st))).toNatClampNeg (nI cs - 1)))), (mkn, .inl (gC g, 32, .inl kf)), (m0, .inr (8, [.ref mtt, .int tk9, .int sz9, .int pl9, .int (nI (wn st)), .ref mcd, .int (nI (sn st1)), .ref mat, .ref msz, .ref mvl, .ref mcs, .ref mmm, .int ra, .int rd, .int nx9, .int dn, .ref mkn, .ref mjp, .ref mds])), (mtt, .inl (gI g, 2000, .inl tf)), (mat, .inl (gI g, 40, .inl t1)), (msz, .inl (gI g, 40, .inl t2)), (mvl, .inl (gI g, 40, .inl t3))] := hD
                        have eF : (upd (upd csf (wn st) (-1)) ((nI (wn st))).toNatClampNeg (nI cs - 1)) = (upd csf (wn st) (nI cs - 1)) := by
                            rw [nI_clamp (by omega)]
                            funext j
                            by_cases q : j = wn st
                            · subst q; rw [pk_us, pk_us]
                            · rw [pk_un q, pk_un q, pk_un q]
                        rw [eF] at hP hD
                        refine lv_aload_n hx hb d_Mod_address_157 rfl (lv_at hl 3 rfl) ?_
                        refine va_get (D := g.1) (ci := 8) (v := .ref mcs) (C := "SignDeskModel") (T := F_Mod) (N := 19) hx hb hts in_Mod hown hK hP 3 rfl rfl 10 (by decide) (hts _ k_504) (fun _ h9 => h9) rfl d_Mod_address_158 ?_
                        refine lv_aload_n hx hb d_Mod_address_161 rfl (lv_at hl 3 rfl) ?_
                        refine va_get (D := g.1) (ci := 8) (v := .int (nI (wn st))) (C := "SignDeskModel") (T := F_Mod) (N := 19) hx hb hts in_Mod hown hK hP 3 rfl rfl 4 (by decide) (hts _ k_498) (fun _ h9 => h9) rfl d_Mod_address_162 ?_
                        refine va_iald hx hb hK hP 1 1 rfl rfl (i := (nI (wn st))) (vp_in_nI (by omega) (by omega)) d_Mod_address_165 ?_
                        refine sd_topi (y := nI cs - 1) (by rw [nI_clamp (by omega)]; exact pk_us) ?_
                        refine lv_iconst (v := (-1)) hx hb d_Mod_address_166 (by decide) ?_
                        refine lv_icmp_ne (tgt := 172) hx hb d_Mod_address_167 (by decide) (fun c106 => ?_) (fun c106 => ?_)
                        · have hc0 : ¬ cs = 0 := fun q => c106 (by rw [q]; decide)
                          refine lv_aload_n hx hb d_Mod_address_172 rfl (lv_at hl 3 rfl) ?_
                          refine va_get (D := g.1) (ci := 8) (v := .ref mcd) (C := "SignDeskModel") (T := F_Mod) (N := 19) hx hb hts in_Mod hown hK hP 3 rfl rfl 5 (by decide) (hts _ k_499) (fun _ h9 => h9) rfl d_Mod_address_173 ?_
                          refine lv_aload_n hx hb d_Mod_address_176 rfl (lv_at hl 3 rfl) ?_
                          refine va_get (D := g.1) (ci := 8) (v := .int (nI (wn st))) (C := "SignDeskModel") (T := F_Mod) (N := 19) hx hb hts in_Mod hown hK hP 3 rfl rfl 4 (by decide) (hts _ k_498) (fun _ h9 => h9) rfl d_Mod_address_177 ?_
                          refine lv_iload hx hb d_Mod_address_180 (lv_at hl 0 rfl) ?_
                          refine lv_iconst (v := (-1)) hx hb d_Mod_address_182 (by decide) ?_
                          refine lv_icmp_ne (tgt := 190) hx hb d_Mod_address_183 (by decide) (fun c107 => ?_) (fun c107 => ?_)
                          · exact absurd c103 c107
                          · refine lv_iconst (v := (nI 0)) hx hb d_Mod_address_186 (by decide) ?_
                            refine lv_goto (tgt := 192) hx hb d_Mod_address_187 (by decide) ?_
                            refine va_iast hx hb hK hP hD hS 0 1 rfl rfl (i := (nI (wn st))) (x := (nI 0)) (vp_in_nI (by omega) (by omega)) d_Mod_address_192 (fun H locs hP hD hS => ?_)
                            have hP : sdP g [(mcd, .inl (gI g, 600, .inl (upd cdf ((nI (wn st))).toNatClampNeg (nI 0)))), (mcs, .inl (gI g, 600, .inl (upd csf (wn st) (nI cs - 1)))), (mkn, .inl (gC g, 32, .inl kf)), (m0, .inr (8, [.ref mtt, .int tk9, .int sz9, .int pl9, .int (nI (wn st)), .ref mcd, .int (nI (sn st1)), .ref mat, .ref msz, .ref mvl, .ref mcs, .ref mmm, .int ra, .int rd, .int nx9, .int dn, .ref mkn, .ref mjp, .ref mds])), (mtt, .inl (gI g, 2000, .inl tf)), (mat, .inl (gI g, 40, .inl t1)), (msz, .inl (gI g, 40, .inl t2)), (mvl, .inl (gI g, 40, .inl t3))] H := hP
                            have hD : va_D A [(mcd, .inl (gI g, 600, .inl (upd cdf ((nI (wn st))).toNatClampNeg (nI 0)))), (mcs, .inl (gI g, 600, .inl (upd csf (wn st) (nI cs - 1)))), (mkn, .inl (gC g, 32, .inl kf)), (m0, .inr (8, [.ref mtt, .int tk9, .int sz9, .int pl9, .int (nI (wn st)), .ref mcd, .int (nI (sn st1)), .ref mat, .ref msz, .ref mvl, .ref mcs, .ref mmm, .int ra, .int rd, .int nx9, .int dn, .ref mkn, .ref mjp, .ref mds])), (mtt, .inl (gI g, 2000, .inl tf)), (mat, .inl (gI g, 40, .inl t1)), (msz, .inl (gI g, 40, .inl t2)), (mvl, .inl (gI g, 40, .inl t3))] := hD
                            have eF : (upd cdf ((nI (wn st))).toNatClampNeg (nI 0)) = (upd cdf (wn st) (nI 0)) := by rw [nI_clamp (by omega)]
                            rw [eF] at hP hD
                            refine lv_aload_n hx hb d_Mod_address_193 rfl (lv_at hl 3 rfl) ?_
                            refine lv_aload_n hx hb d_Mod_address_194 rfl (lv_at hl 3 rfl) ?_
                            refine va_get (D := g.1) (ci := 8) (v := .int (nI (wn st))) (C := "SignDeskModel") (T := F_Mod) (N := 19) hx hb hts in_Mod hown hK hP 3 rfl rfl 4 (by decide) (hts _ k_498) (fun _ h9 => h9) rfl d_Mod_address_195 ?_
                            refine lv_iconst (v := (nI 1)) hx hb d_Mod_address_198 (by decide) ?_
                            refine lv_iadd hx hb d_Mod_address_199 ?_
                            refine sd_topi (y := nI ((wn st) + 1)) (nI_add _ _) ?_
                            refine va_put (D := g.1) (ci := 8) (v := .int (nI ((wn st) + 1))) (ty := .int) (C := "SignDeskModel") (T := F_Mod) (N := 19) hx hb hts in_Mod t_Mod t_Mod_ok n_Mod hown hK hP hD hS 3 rfl rfl 4 (by decide) (hts _ k_498) (fun _ h9 => h9) rfl (by decide +kernel) rfl rfl (Nat.le_of_ble_eq_true rfl) d_Mod_address_200 (fun H locs hP hD hS => ?_)
                            have hP : sdP g [(mcd, .inl (gI g, 600, .inl (upd cdf (wn st) (nI 0)))), (mcs, .inl (gI g, 600, .inl (upd csf (wn st) (nI cs - 1)))), (mkn, .inl (gC g, 32, .inl kf)), (m0, .inr (8, [.ref mtt, .int tk9, .int sz9, .int pl9, .int (nI ((wn st) + 1)), .ref mcd, .int (nI (sn st1)), .ref mat, .ref msz, .ref mvl, .ref mcs, .ref mmm, .int ra, .int rd, .int nx9, .int dn, .ref mkn, .ref mjp, .ref mds])), (mtt, .inl (gI g, 2000, .inl tf)), (mat, .inl (gI g, 40, .inl t1)), (msz, .inl (gI g, 40, .inl t2)), (mvl, .inl (gI g, 40, .inl t3))] H := hP
                            have hD : va_D A [(mcd, .inl (gI g, 600, .inl (upd cdf (wn st) (nI 0)))), (mcs, .inl (gI g, 600, .inl (upd csf (wn st) (nI cs - 1)))), (mkn, .inl (gC g, 32, .inl kf)), (m0, .inr (8, [.ref mtt, .int tk9, .int sz9, .int pl9, .int (nI ((wn st) + 1)), .ref mcd, .int (nI (sn st1)), .ref mat, .ref msz, .ref mvl, .ref mcs, .ref mmm, .int ra, .int rd, .int nx9, .int dn, .ref mkn, .ref mjp, .ref mds])), (mtt, .inl (gI g, 2000, .inl tf)), (mat, .inl (gI g, 40, .inl t1)), (msz, .inl (gI g, 40, .inl t2)), (mvl, .inl (gI g, 40, .inl t3))] := hD
                            refine lv_iconst (v := (nI 0)) hx hb d_Mod_address_203 (by decide) ?_
                            have hMP1 : MPR (pushW st1 0 cs) (upd cdf (wn st) (nI 0)) (upd csf (wn st) (nI cs - 1)) := by
                              have h := MPR_push (c := 0) (y := cs) (MPR_of hMP hst1) (by omega)
                              rw [hwn1] at h; exact h
                            have hP : sdP g [(mcd, .inl (gI g, 600, .inl (upd cdf (wn st) (nI 0)))), (mcs, .inl (gI g, 600, .inl (upd csf (wn st) (nI cs - 1)))), (mkn, .inl (gC g, 32, .inl kf)), (m0, .inr (8, [.ref mtt, .int tk9, .int sz9, .int pl9, .int (nI (wn st1 + 1)), .ref mcd, .int (nI (sn st1)), .ref mat, .ref msz, .ref mvl, .ref mcs, .ref mmm, .int ra, .int rd, .int nx9, .int dn, .ref mkn, .ref mjp, .ref mds])), (mtt, .inl (gI g, 2000, .inl tf)), (mat, .inl (gI g, 40, .inl t1)), (msz, .inl (gI g, 40, .inl t2)), (mvl, .inl (gI g, 40, .inl t3))] H := by rw [hwn1]; exact hP
                            have hD : va_D A [(mcd, .inl (gI g, 600, .inl (upd cdf (wn st) (nI 0)))), (mcs, .inl (gI g, 600, .inl (upd csf (wn st) (nI cs - 1)))), (mkn, .inl (gC g, 32, .inl kf)), (m0, .inr (8, [.ref mtt, .int tk9, .int sz9, .int pl9, .int (nI (wn st1 + 1)), .ref mcd, .int (nI (sn st1)), .ref mat, .ref msz, .ref mvl, .ref mcs, .ref mmm, .int ra, .int rd, .int nx9, .int dn, .ref mkn, .ref mjp, .ref mds])), (mtt, .inl (gI g, 2000, .inl tf)), (mat, .inl (gI g, 40, .inl t1)), (msz, .inl (gI g, 40, .inl t2)), (mvl, .inl (gI g, 40, .inl t3))] := by rw [hwn1]; exact hD
                            have hP9 := hP.sub (ws' := [(m0, .inr (8, [.ref mtt, .int tk9, .int sz9, .int pl9, .int (nI (wn st1 + 1)), .ref mcd, .int (nI (sn st1)), .ref mat, .ref msz, .ref mvl, .ref mcs, .ref mmm, .int ra, .int rd, .int nx9, .int dn, .ref mkn, .ref mjp, .ref mds])), (mtt, .inl (gI g, 2000, .inl tf)), (mcd, .inl (gI g, 600, .inl (upd cdf (wn st) (nI 0)))), (mat, .inl (gI g, 40, .inl t1)), (msz, .inl (gI g, 40, .inl t2)), (mvl, .inl (gI g, 40, .inl t3)), (mcs, .inl (gI g, 600, .inl (upd csf (wn st) (nI cs - 1)))), (mkn, .inl (gC g, 32, .inl kf))]) [3, 4, 0, 5, 6, 7, 1, 2] rfl
                            have hD9 := hD.sub (ws' := [(m0, .inr (8, [.ref mtt, .int tk9, .int sz9, .int pl9, .int (nI (wn st1 + 1)), .ref mcd, .int (nI (sn st1)), .ref mat, .ref msz, .ref mvl, .ref mcs, .ref mmm, .int ra, .int rd, .int nx9, .int dn, .ref mkn, .ref mjp, .ref mds])), (mtt, .inl (gI g, 2000, .inl tf)), (mcd, .inl (gI g, 600, .inl (upd cdf (wn st) (nI 0)))), (mat, .inl (gI g, 40, .inl t1)), (msz, .inl (gI g, 40, .inl t2)), (mvl, .inl (gI g, 40, .inl t3)), (mcs, .inl (gI g, 600, .inl (upd csf (wn st) (nI cs - 1)))), (mkn, .inl (gC g, 32, .inl kf))]) [3, 4, 0, 5, 6, 7, 1, 2] (by decide) rfl
                            exact W.iret (v := (nI 0)) hx hb hr (fun t ht hW => ⟨⟨_, (pushW st1 0 cs, upd cdf (wn st) (nI 0), upd csf (wn st) (nI cs - 1), t1, t2, t3), rfl, ⟨⟨0, by rw [spAddr, cl_t c99, if_neg (by omega), if_pos hk0, hzz, hsy, if_neg hc0], rfl⟩, hMP1, hSR1, hSB1⟩, by rw [ht]; exact hP9, by rw [hAe]; exact hD9⟩, hS.F ht⟩) hS.2.2 d_Mod_address_204
                        · have hc0 : cs = 0 := (m1_iff (by omega)).mp c106
                          have hP : sdP g [(mcd, .inl (gI g, 600, .inl cdf)), (mcs, .inl (gI g, 600, .inl (upd csf (wn st) (nI cs - 1)))), (mkn, .inl (gC g, 32, .inl kf)), (m0, .inr (8, [.ref mtt, .int tk9, .int sz9, .int pl9, .int (nI (wn st1)), .ref mcd, .int (nI (sn st1)), .ref mat, .ref msz, .ref mvl, .ref mcs, .ref mmm, .int ra, .int rd, .int nx9, .int dn, .ref mkn, .ref mjp, .ref mds])), (mtt, .inl (gI g, 2000, .inl tf)), (mat, .inl (gI g, 40, .inl t1)), (msz, .inl (gI g, 40, .inl t2)), (mvl, .inl (gI g, 40, .inl t3))] H := by rw [hwn1]; exact hP
                          have hD : va_D A [(mcd, .inl (gI g, 600, .inl cdf)), (mcs, .inl (gI g, 600, .inl (upd csf (wn st) (nI cs - 1)))), (mkn, .inl (gC g, 32, .inl kf)), (m0, .inr (8, [.ref mtt, .int tk9, .int sz9, .int pl9, .int (nI (wn st1)), .ref mcd, .int (nI (sn st1)), .ref mat, .ref msz, .ref mvl, .ref mcs, .ref mmm, .int ra, .int rd, .int nx9, .int dn, .ref mkn, .ref mjp, .ref mds])), (mtt, .inl (gI g, 2000, .inl tf)), (mat, .inl (gI g, 40, .inl t1)), (msz, .inl (gI g, 40, .inl t2)), (mvl, .inl (gI g, 40, .inl t3))] := by rw [hwn1]; exact hD
                          refine lv_iconst (v := (nI 2)) hx hb d_Mod_address_170 (by decide) ?_
                          have hP9 := hP.sub (ws' := [(m0, .inr (8, [.ref mtt, .int tk9, .int sz9, .int pl9, .int (nI (wn st1)), .ref mcd, .int (nI (sn st1)), .ref mat, .ref msz, .ref mvl, .ref mcs, .ref mmm, .int ra, .int rd, .int nx9, .int dn, .ref mkn, .ref mjp, .ref mds])), (mtt, .inl (gI g, 2000, .inl tf)), (mcd, .inl (gI g, 600, .inl cdf)), (mat, .inl (gI g, 40, .inl t1)), (msz, .inl (gI g, 40, .inl t2)), (mvl, .inl (gI g, 40, .inl t3)), (mcs, .inl (gI g, 600, .inl (upd csf (wn st) (nI cs - 1)))), (mkn, .inl (gC g, 32, .inl kf))]) [3, 4, 0, 5, 6, 7, 1, 2] rfl
                          have hD9 := hD.sub (ws' := [(m0, .inr (8, [.ref mtt, .int tk9, .int sz9, .int pl9, .int (nI (wn st1)), .ref mcd, .int (nI (sn st1)), .ref mat, .ref msz, .ref mvl, .ref mcs, .ref mmm, .int ra, .int rd, .int nx9, .int dn, .ref mkn, .ref mjp, .ref mds])), (mtt, .inl (gI g, 2000, .inl tf)), (mcd, .inl (gI g, 600, .inl cdf)), (mat, .inl (gI g, 40, .inl t1)), (msz, .inl (gI g, 40, .inl t2)), (mvl, .inl (gI g, 40, .inl t3)), (mcs, .inl (gI g, 600, .inl (upd csf (wn st) (nI cs - 1)))), (mkn, .inl (gC g, 32, .inl kf))]) [3, 4, 0, 5, 6, 7, 1, 2] (by decide) rfl
                          exact W.iret (v := (nI 2)) hx hb hr (fun t ht hW => ⟨⟨_, (st1, cdf, upd csf (wn st) (nI cs - 1), t1, t2, t3), rfl, ⟨⟨2, by rw [spAddr, cl_t c99, if_neg (by omega), if_pos hk0, hzz, hsy, if_pos hc0], rfl⟩, MPR_of (MPR_cs hMP) hst1, hSR1, hSB1⟩, by rw [ht]; exact hP9, by rw [hAe]; exact hD9⟩, hS.F ht⟩) hS.2.2 d_Mod_address_171
                    · exact absurd rfl c101
                  · have c100 := (nI_eq (by omega) (by omega)).mp c100
                    refine lv_iconst (v := (nI 2)) hx hb d_Mod_address_107 (by decide) ?_
                    have hP9 := hP.sub (ws' := [(m0, .inr (8, [.ref mtt, .int tk9, .int sz9, .int pl9, .int (nI (wn st)), .ref mcd, .int (nI (sn st)), .ref mat, .ref msz, .ref mvl, .ref mcs, .ref mmm, .int ra, .int rd, .int nx9, .int dn, .ref mkn, .ref mjp, .ref mds])), (mtt, .inl (gI g, 2000, .inl tf)), (mcd, .inl (gI g, 600, .inl cdf)), (mat, .inl (gI g, 40, .inl s1)), (msz, .inl (gI g, 40, .inl s2)), (mvl, .inl (gI g, 40, .inl s3)), (mcs, .inl (gI g, 600, .inl csf)), (mkn, .inl (gC g, 32, .inl kf))]) [0, 1, 2, 3, 4, 5, 6, 7] rfl
                    have hD9 := hD.sub (ws' := [(m0, .inr (8, [.ref mtt, .int tk9, .int sz9, .int pl9, .int (nI (wn st)), .ref mcd, .int (nI (sn st)), .ref mat, .ref msz, .ref mvl, .ref mcs, .ref mmm, .int ra, .int rd, .int nx9, .int dn, .ref mkn, .ref mjp, .ref mds])), (mtt, .inl (gI g, 2000, .inl tf)), (mcd, .inl (gI g, 600, .inl cdf)), (mat, .inl (gI g, 40, .inl s1)), (msz, .inl (gI g, 40, .inl s2)), (mvl, .inl (gI g, 40, .inl s3)), (mcs, .inl (gI g, 600, .inl csf)), (mkn, .inl (gC g, 32, .inl kf))]) [0, 1, 2, 3, 4, 5, 6, 7] (by decide) rfl
                    exact W.iret (v := (nI 2)) hx hb hr (fun t ht hW => ⟨⟨_, (st, cdf, csf, s1, s2, s3), rfl, ⟨⟨2, by rw [spAddr, cl_t c99, if_pos (by omega)], rfl⟩, hMP, hSR, hSB⟩, by rw [ht]; exact hP9, by rw [hAe]; exact hD9⟩, hS.F ht⟩) hS.2.2 d_Mod_address_108
                · have c99 := sb_eq0.mp c99
                  refine lv_iconst (v := (nI 1)) hx hb d_Mod_address_95 (by decide) ?_
                  have hP9 := hP.sub (ws' := [(m0, .inr (8, [.ref mtt, .int tk9, .int sz9, .int pl9, .int (nI (wn st)), .ref mcd, .int (nI (sn st)), .ref mat, .ref msz, .ref mvl, .ref mcs, .ref mmm, .int ra, .int rd, .int nx9, .int dn, .ref mkn, .ref mjp, .ref mds])), (mtt, .inl (gI g, 2000, .inl tf)), (mcd, .inl (gI g, 600, .inl cdf)), (mat, .inl (gI g, 40, .inl s1)), (msz, .inl (gI g, 40, .inl s2)), (mvl, .inl (gI g, 40, .inl s3)), (mcs, .inl (gI g, 600, .inl csf)), (mkn, .inl (gC g, 32, .inl kf))]) [0, 1, 2, 3, 4, 5, 6, 7] rfl
                  have hD9 := hD.sub (ws' := [(m0, .inr (8, [.ref mtt, .int tk9, .int sz9, .int pl9, .int (nI (wn st)), .ref mcd, .int (nI (sn st)), .ref mat, .ref msz, .ref mvl, .ref mcs, .ref mmm, .int ra, .int rd, .int nx9, .int dn, .ref mkn, .ref mjp, .ref mds])), (mtt, .inl (gI g, 2000, .inl tf)), (mcd, .inl (gI g, 600, .inl cdf)), (mat, .inl (gI g, 40, .inl s1)), (msz, .inl (gI g, 40, .inl s2)), (mvl, .inl (gI g, 40, .inl s3)), (mcs, .inl (gI g, 600, .inl csf)), (mkn, .inl (gC g, 32, .inl kf))]) [0, 1, 2, 3, 4, 5, 6, 7] (by decide) rfl
                  exact W.iret (v := (nI 1)) hx hb hr (fun t ht hW => ⟨⟨_, (st, cdf, csf, s1, s2, s3), rfl, ⟨⟨1, by rw [spAddr, cl_f c99, cl_f hnn], rfl⟩, hMP, hSR, hSB⟩, by rw [ht]; exact hP9, by rw [hAe]; exact hD9⟩, hS.F ht⟩) hS.2.2 d_Mod_address_96
            · exact absurd rfl c96
          · exact absurd rfl c95
