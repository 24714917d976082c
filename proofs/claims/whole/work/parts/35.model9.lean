/-- where the sign c stands first among the k signs from a on -/
def ocE (tx : Nat → Nat) (a c k : Nat) (x : Int32) : Prop := (x = -1 ∧ ∀ j, j < k → ¬ tx (a + j) = c) ∨ ∃ q, x = nI q ∧ q < k ∧ tx (a + q) = c ∧ ∀ j, j < q → ¬ tx (a + j) = c
theorem ocE_no {tx : Nat → Nat} {a c k : Nat} {x : Int32} (h : ocE tx a c k x) (hn : ¬ tx (a + k) = c) : ocE tx a c (k + 1) x := by
  rcases h with ⟨h1, h2⟩ | ⟨q, h1, h2, h3, h4⟩
  · refine Or.inl ⟨h1, fun j hj => ?_⟩
    by_cases e : j = k
    · subst e; exact hn
    · exact h2 j (by omega)
  · exact Or.inr ⟨q, h1, by omega, h3, h4⟩
theorem ocE_keep {tx : Nat → Nat} {a c k : Nat} {x : Int32} (h : ocE tx a c k x) (hx : ¬ x = -1) : ocE tx a c (k + 1) x := by
  rcases h with ⟨h1, h2⟩ | ⟨q, h1, h2, h3, h4⟩
  · exact absurd h1 hx
  · exact Or.inr ⟨q, h1, by omega, h3, h4⟩
theorem ocE_new {tx : Nat → Nat} {a c k : Nat} {x : Int32} (hk : k < 2 ^ 30) (h : ocE tx a c k x) (hx : x = -1) (ht : tx (a + k) = c) : ocE tx a c (k + 1) (nI k) := by
  rcases h with ⟨h1, h2⟩ | ⟨q, h1, h2, h3, h4⟩
  · exact Or.inr ⟨k, rfl, by omega, ht, h2⟩
  · rw [h1] at hx; exact absurd hx (nI_m1 (by omega))
theorem ocE_F0 {tx : Nat → Nat} {a c k : Nat} (h : ∀ j, j < k → ¬ tx (a + j) = c) : oF tx c a (a + k) = a + k :=
  ff_eq _ _ _ (by omega) (by omega) (fun j h5 h6 => by have := h (j - a) (by omega); rw [show a + (j - a) = j by omega] at this; exact this) (fun h => absurd h (by omega))
theorem ocE_F1 {tx : Nat → Nat} {a c k q : Nat} (h2 : q < k) (h3 : tx (a + q) = c) (h4 : ∀ j, j < q → ¬ tx (a + j) = c) : oF tx c a (a + k) = a + q :=
  ff_eq _ _ _ (by omega) (by omega) (fun j h5 h6 => by have := h4 (j - a) (by omega); rw [show a + (j - a) = j by omega] at this; exact this) (fun _ => h3)
theorem sd_jpQ {M : List Nat → Prop} : nI 1 + nmF M (sd_jump.map Prod.fst) 0 = nI (lk M sd_jump) := by
  have h := sd_jpP (M := M)
  rw [sd_nm_k.2.2.1] at h
  exact h
theorem comp_neg {tx : Nat → Nat} {a z : Nat} (h : z < a) : lk (nmM tx a z) sd_comp = 0 := lk_none (fun p _ hM => by have := hM.1; omega)
set_option maxHeartbeats 4000000 in
set_option maxRecDepth 100000 in
/-- computes(a, c) -/
theorem c_Mod_computes (l : Launch) (g : sdG) (m0 mtt mcd mat msz mvl mcs mmm mkn mjp mds : Nat) (tk9 sz9 pl9 ra rd nx9 dn : Int32) (kf : Nat → Int32) (hRk : rowOK 32 kf (sd_k7.map Prod.fst)) (jf : Nat → Int32) (hRj : rowOK 28 jf (sd_jump.map Prod.fst)) (df : Nat → Int32) (hRd : rowOK 19 df (sd_dest.map Prod.fst)) (n : Nat) (tf : Nat → Int32) (tx : Nat → Nat) (hT : MTok n tf tx) (st : AS) (cdf csf s1 s2 s3 : Nat → Int32) (hMP : MPR st cdf csf) (hSR : SR st s1 s2 s3) (hSB : SB n st) (a cn : Nat) (hc1 : 1 ≤ cn) (hac : a + cn ≤ n) (htk : ∀ j, a ≤ j → j < a + cn → ¬ tx j = 32) (sz : Nat) : Met l y_Mod_computes (.code y_Mod_computes b_Mod_computes 10 (some .int) :: sdT) ({ frames := 2, cells := 0, slots := 0, locals := 49 }) (va_Pc [.ref m0, .int (nI a), .int (nI cn)] (sdU g [(m0, .inr (8, [.ref mtt, .int tk9, .int sz9, .int pl9, .int (nI (wn st)), .ref mcd, .int (nI (sn st)), .ref mat, .ref msz, .ref mvl, .ref mcs, .ref mmm, .int ra, .int rd, .int nx9, .int dn, .ref mkn, .ref mjp, .ref mds])), (mtt, .inl (gI g, 2000, .inl tf)), (mcd, .inl (gI g, 600, .inl cdf)), (mat, .inl (gI g, 40, .inl s1)), (msz, .inl (gI g, 40, .inl s2)), (mvl, .inl (gI g, 40, .inl s3)), (mcs, .inl (gI g, 600, .inl csf)), (mkn, .inl (gC g, 32, .inl kf)), (mjp, .inl (gC g, 28, .inl jf)), (mds, .inl (gC g, 19, .inl df))] sz)) (va_Qi (S := AS × (Nat → Int32) × (Nat → Int32) × (Nat → Int32) × (Nat → Int32) × (Nat → Int32)) (fun r u => (∃ c, spOther tx a (a + cn) st = (c, u.1) ∧ r = nI c) ∧ MPR u.1 u.2.1 u.2.2.1 ∧ SR u.1 u.2.2.2.1 u.2.2.2.2.1 u.2.2.2.2.2 ∧ SB n u.1) (fun u t => sdB g [(m0, .inr (8, [.ref mtt, .int tk9, .int sz9, .int pl9, .int (nI (wn st)), .ref mcd, .int (nI (sn st)), .ref mat, .ref msz, .ref mvl, .ref mcs, .ref mmm, .int ra, .int rd, .int nx9, .int dn, .ref mkn, .ref mjp, .ref mds])), (mtt, .inl (gI g, 2000, .inl tf)), (mcd, .inl (gI g, 600, .inl cdf)), (mat, .inl (gI g, 40, .inl s1)), (msz, .inl (gI g, 40, .inl s2)), (mvl, .inl (gI g, 40, .inl s3)), (mcs, .inl (gI g, 600, .inl csf)), (mkn, .inl (gC g, 32, .inl kf)), (mjp, .inl (gC g, 28, .inl jf)), (mds, .inl (gC g, 19, .inl df))] sz ((fun u => [(m0, .inr (8, [.ref mtt, .int tk9, .int sz9, .int pl9, .int (nI (wn u.1)), .ref mcd, .int (nI (sn u.1)), .ref mat, .ref msz, .ref mvl, .ref mcs, .ref mmm, .int ra, .int rd, .int nx9, .int dn, .ref mkn, .ref mjp, .ref mds])), (mtt, .inl (gI g, 2000, .inl tf)), (mcd, .inl (gI g, 600, .inl u.2.1)), (mat, .inl (gI g, 40, .inl u.2.2.2.1)), (msz, .inl (gI g, 40, .inl u.2.2.2.2.1)), (mvl, .inl (gI g, 40, .inl u.2.2.2.2.2)), (mcs, .inl (gI g, 600, .inl u.2.2.1)), (mkn, .inl (gC g, 32, .inl kf)), (mjp, .inl (gC g, 28, .inl jf)), (mds, .inl (gC g, 19, .inl df))] : AS × (Nat → Int32) × (Nat → Int32) × (Nat → Int32) × (Nat → Int32) × (Nat → Int32) → va_W) u) t) (va_A [(m0, .inr (8, [.ref mtt, .int tk9, .int sz9, .int pl9, .int (nI (wn st)), .ref mcd, .int (nI (sn st)), .ref mat, .ref msz, .ref mvl, .ref mcs, .ref mmm, .int ra, .int rd, .int nx9, .int dn, .ref mkn, .ref mjp, .ref mds])), (mtt, .inl (gI g, 2000, .inl tf)), (mcd, .inl (gI g, 600, .inl cdf)), (mat, .inl (gI g, 40, .inl s1)), (msz, .inl (gI g, 40, .inl s2)), (mvl, .inl (gI g, 40, .inl s3)), (mcs, .inl (gI g, 600, .inl csf)), (mkn, .inl (gC g, 32, .inl kf)), (mjp, .inl (gC g, 28, .inl jf)), (mds, .inl (gC g, 19, .inl df))] sz)) 0 0 (va_A [(m0, .inr (8, [.ref mtt, .int tk9, .int sz9, .int pl9, .int (nI (wn st)), .ref mcd, .int (nI (sn st)), .ref mat, .ref msz, .ref mvl, .ref mcs, .ref mmm, .int ra, .int rd, .int nx9, .int dn, .ref mkn, .ref mjp, .ref mds])), (mtt, .inl (gI g, 2000, .inl tf)), (mcd, .inl (gI g, 600, .inl cdf)), (mat, .inl (gI g, 40, .inl s1)), (msz, .inl (gI g, 40, .inl s2)), (mvl, .inl (gI g, 40, .inl s3)), (mcs, .inl (gI g, 600, .inl csf)), (mkn, .inl (gC g, 32, .inl kf)), (mjp, .inl (gC g, 28, .inl jf)), (mds, .inl (gC g, 19, .inl df))] sz) := by
  refine Met.ofW (cc := b_Mod_computes) (maxL := 10) (ret := (some .int)) (by decide) rfl ?_
  intro p ev s m args below meth c s₁ B hml hv
  obtain ⟨rfl, hsz, hP, hK, hE, hD0, hs0⟩ := hv
  have hx := B.exec
  have hb := B.bytes
  have hr := B.returns
  have hts := fun (w : Cond) (h : w ∈ sdT) => atoms_spec (ws := (.code y_Mod_computes b_Mod_computes 10 (some .int) :: sdT)) B.pre w (List.mem_cons_of_mem _ h)
  have hown : s.vm.findClass "SignDeskModel" = some m.cls := findClass_of_methodNamed B.named
  have hlocks := B.notSynchronized
  subst hsz
  have hD := hD0.self (sz := s.heap.size)
  have hA0 : ∀ q : Nat, va_A [(m0, .inr (8, [.ref mtt, .int tk9, .int sz9, .int pl9, .int (nI (wn st)), .ref mcd, .int (nI (sn st)), .ref mat, .ref msz, .ref mvl, .ref mcs, .ref mmm, .int ra, .int rd, .int nx9, .int dn, .ref mkn, .ref mjp, .ref mds])), (mtt, .inl (gI g, 2000, .inl tf)), (mcd, .inl (gI g, 600, .inl cdf)), (mat, .inl (gI g, 40, .inl s1)), (msz, .inl (gI g, 40, .inl s2)), (mvl, .inl (gI g, 40, .inl s3)), (mcs, .inl (gI g, 600, .inl csf)), (mkn, .inl (gC g, 32, .inl kf)), (mjp, .inl (gC g, 28, .inl jf)), (mds, .inl (gC g, 19, .inl df))] s.heap.size q → gS g ≤ q := fun q h => h.elim (fun ⟨k, e, hk⟩ => hD0.2 k _ hk) (fun h => Nat.le_trans hs0 h)
  have hA : ∀ q : Nat, s.heap.size ≤ q → va_A [(m0, .inr (8, [.ref mtt, .int tk9, .int sz9, .int pl9, .int (nI (wn st)), .ref mcd, .int (nI (sn st)), .ref mat, .ref msz, .ref mvl, .ref mcs, .ref mmm, .int ra, .int rd, .int nx9, .int dn, .ref mkn, .ref mjp, .ref mds])), (mtt, .inl (gI g, 2000, .inl tf)), (mcd, .inl (gI g, 600, .inl cdf)), (mat, .inl (gI g, 40, .inl s1)), (msz, .inl (gI g, 40, .inl s2)), (mvl, .inl (gI g, 40, .inl s3)), (mcs, .inl (gI g, 600, .inl csf)), (mkn, .inl (gC g, 32, .inl kf)), (mjp, .inl (gC g, 28, .inl jf)), (mds, .inl (gC g, 19, .inl df))] s.heap.size q := fun q h => Or.inr h
  generalize hAe : va_A [(m0, .inr (8, [.ref mtt, .int tk9, .int sz9, .int pl9, .int (nI (wn st)), .ref mcd, .int (nI (sn st)), .ref mat, .ref msz, .ref mvl, .ref mcs, .ref mmm, .int ra, .int rd, .int nx9, .int dn, .ref mkn, .ref mjp, .ref mds])), (mtt, .inl (gI g, 2000, .inl tf)), (mcd, .inl (gI g, 600, .inl cdf)), (mat, .inl (gI g, 40, .inl s1)), (msz, .inl (gI g, 40, .inl s2)), (mvl, .inl (gI g, 40, .inl s3)), (mcs, .inl (gI g, 600, .inl csf)), (mkn, .inl (gC g, 32, .inl kf)), (mjp, .inl (gC g, 28, .inl jf)), (mds, .inl (gC g, 19, .inl df))] s.heap.size = A at hD hA0 hA ⊢
  have hS : va_S A s.heap s.heap [] := va_S.rf
  have hP : sdP g [(m0, .inr (8, [.ref mtt, .int tk9, .int sz9, .int pl9, .int (nI (wn st)), .ref mcd, .int (nI (sn st)), .ref mat, .ref msz, .ref mvl, .ref mcs, .ref mmm, .int ra, .int rd, .int nx9, .int dn, .ref mkn, .ref mjp, .ref mds])), (mtt, .inl (gI g, 2000, .inl tf)), (mcd, .inl (gI g, 600, .inl cdf)), (mat, .inl (gI g, 40, .inl s1)), (msz, .inl (gI g, 40, .inl s2)), (mvl, .inl (gI g, 40, .inl s3)), (mcs, .inl (gI g, 600, .inl csf)), (mkn, .inl (gC g, 32, .inl kf)), (mjp, .inl (gC g, 28, .inl jf)), (mds, .inl (gC g, 19, .inl df))] s.heap := hP
  have hl := lv_entry ([.ref m0, .int (nI a), .int (nI cn)]) (n := 10) (Nat.le_of_ble_eq_true rfl)
  rw [lg_entry_eq]
  generalize (lg_sl ([.ref m0, .int (nI a), .int (nI cn)]) ++ List.replicate (10 - (lg_sl ([.ref m0, .int (nI a), .int (nI cn)])).length) Slot.unset).toArray = ls at hl ⊢
  have hl : lv_has ls 10 [(0, .ref m0), (1, .int (nI a)), (2, .int (nI cn))] := hl
  have hn := hT.1
  have hb8 := hT.2.1
  have h40 := hSR.1
  have h600 := hMP.1
  refine lv_iconst (v := (-1)) hx hb d_Mod_computes_0 (by decide) ?_
  refine lv_istore_n (lv' := [(3, .int (-1)), (0, .ref m0), (1, .int (nI a)), (2, .int (nI cn))]) hx hb d_Mod_computes_1 rfl hl (by decide) rfl (fun ls hl => ?_)
  refine lv_iconst (v := (-1)) hx hb d_Mod_computes_2 (by decide) ?_
  refine lv_istore (lv' := [(4, .int (-1)), (3, .int (-1)), (0, .ref m0), (1, .int (nI a)), (2, .int (nI cn))]) hx hb d_Mod_computes_3 hl (by decide) rfl (fun ls hl => ?_)
  refine lv_iconst (v := (nI 0)) hx hb d_Mod_computes_5 (by decide) ?_
  refine lv_istore (lv' := [(5, .int (nI 0)), (4, .int (-1)), (3, .int (-1)), (0, .ref m0), (1, .int (nI a)), (2, .int (nI cn))]) hx hb d_Mod_computes_6 hl (by decide) rfl (fun ls hl => ?_)
  refine sd_loopr (fun (x : Nat × Int32 × Int32) ls => match x with | (k, eq9, sc9) => lv_has ls 10 [(5, .int (nI k)), (3, .int eq9), (4, .int sc9), (0, .ref m0), (1, .int (nI a)), (2, .int (nI cn))] ∧ (k ≤ cn) ∧ (ocE tx a 61 k eq9) ∧ (ocE tx a 59 k sc9)) (fun (x : Nat × Int32 × Int32) => match x with | (k, eq9, sc9) => cn - k) 8 [] (fun x ls hI ih => ?_) (0, -1, -1) ⟨lv_sub hl [0, 2, 1, 3, 4, 5] rfl, Nat.zero_le _, Or.inl ⟨rfl, fun j h => absurd h (Nat.not_lt_zero j)⟩, Or.inl ⟨rfl, fun j h => absurd h (Nat.not_lt_zero j)⟩⟩
  obtain ⟨k, eq9, sc9⟩ := x
  obtain ⟨hl, h1, hq, hs⟩ := hI
  refine lv_iload hx hb d_Mod_computes_8 (lv_at hl 0 rfl) ?_
  refine lv_iload_n hx hb d_Mod_computes_10 rfl (lv_at hl 5 rfl) ?_
  refine lv_icmp_ge (tgt := 66) hx hb d_Mod_computes_11 (by decide) (fun c1 => ?_) (fun c1 => ?_)
  · have c1 := (nI_leI (by omega) (by omega)).mp c1
    have ek : k = cn := by omega
    rw [ek] at hq hs
    rcases hq with ⟨rfl, hq4⟩ | ⟨q, rfl, hq2, hq3, hq4⟩
    · have hF1 := ocE_F0 (tx := tx) (a := a) hq4
      rcases hs with ⟨rfl, hs4⟩ | ⟨s9, rfl, hs2, hs3, hs4⟩
      · have hF2 := ocE_F0 (tx := tx) (a := a) hs4
        have hG := spOther_g (tx := tx) (st := st) (D := 0) (J := 0) (ca := a) hF1 hF2 (if_neg (Nat.lt_irrefl (a + cn))).symm (if_neg (Nat.lt_irrefl (a + cn))).symm (if_neg (Nat.lt_irrefl (a + cn))).symm rfl
        have hDl : 0 ≤ 7 := by decide
        have hJl : 0 ≤ 7 := by decide
        have hCl : (lk (nmM tx a (a + cn)) sd_comp) ≤ 8129 := lk_le sd_comp_lt
        refine lv_iload_n hx hb d_Mod_computes_66 rfl (lv_at hl 1 rfl) ?_
        refine lv_iconst (v := (nI 1)) hx hb d_Mod_computes_67 (by decide) ?_
        refine lv_iadd hx hb d_Mod_computes_68 ?_
        refine sd_topi (y := nI 0) (by decide) ?_
        refine lv_istore (lv' := [(5, .int (nI 0)), (3, .int (-1)), (4, .int (-1)), (0, .ref m0), (1, .int (nI a)), (2, .int (nI cn))]) hx hb d_Mod_computes_69 hl (by decide) rfl (fun ls hl => ?_)
        refine lv_iload hx hb d_Mod_computes_71 (lv_at hl 2 rfl) ?_
        refine lv_iconst (v := (-1)) hx hb d_Mod_computes_73 (by decide) ?_
        refine lv_icmp_ne (tgt := 81) hx hb d_Mod_computes_74 (by decide) (fun c2 => ?_) (fun c2 => ?_)
        · exact absurd rfl c2
        · refine lv_iload_n hx hb d_Mod_computes_77 rfl (lv_at hl 5 rfl) ?_
          refine lv_goto (tgt := 83) hx hb d_Mod_computes_78 (by decide) ?_
          refine lv_istore (lv' := [(6, .int (nI cn)), (5, .int (nI 0)), (3, .int (-1)), (4, .int (-1)), (0, .ref m0), (1, .int (nI a)), (2, .int (nI cn))]) hx hb d_Mod_computes_83 hl (by decide) rfl (fun ls hl => ?_)
          refine lv_iload hx hb d_Mod_computes_85 (lv_at hl 0 rfl) ?_
          refine lv_iload hx hb d_Mod_computes_87 (lv_at hl 1 rfl) ?_
          refine lv_icmp_ge (tgt := 94) hx hb d_Mod_computes_89 (by decide) (fun c3 => ?_) (fun c3 => ?_)
          · have c3 := (nI_leI (by omega) (by omega)).mp c3
            refine lv_iload_n hx hb d_Mod_computes_94 rfl (lv_at hl 2 rfl) ?_
            refine lv_iconst (v := (-1)) hx hb d_Mod_computes_95 (by decide) ?_
            refine lv_icmp_ne (tgt := 103) hx hb d_Mod_computes_96 (by decide) (fun c4 => ?_) (fun c4 => ?_)
            · exact absurd rfl c4
            · refine lv_iconst (v := (nI 0)) hx hb d_Mod_computes_99 (by decide) ?_
              refine lv_goto (tgt := 109) hx hb d_Mod_computes_100 (by decide) ?_
              refine lv_istore (lv' := [(7, .int (nI 0)), (6, .int (nI cn)), (5, .int (nI 0)), (3, .int (-1)), (4, .int (-1)), (0, .ref m0), (1, .int (nI a)), (2, .int (nI cn))]) hx hb d_Mod_computes_109 hl (by decide) rfl (fun ls hl => ?_)
              refine lv_aload_n hx hb d_Mod_computes_111 rfl (lv_at hl 5 rfl) ?_
              refine lv_iload_n hx hb d_Mod_computes_112 rfl (lv_at hl 6 rfl) ?_
              refine lv_iload hx hb d_Mod_computes_113 (lv_at hl 2 rfl) ?_
              refine lv_iadd hx hb d_Mod_computes_115 ?_
              refine sd_topi (y := nI (a + 0)) (nI_add _ _) ?_
              refine lv_iload hx hb d_Mod_computes_116 (lv_at hl 1 rfl) ?_
              refine lv_iload hx hb d_Mod_computes_118 (lv_at hl 2 rfl) ?_
              refine lv_isub hx hb d_Mod_computes_120 ?_
              refine sd_topi (y := nI (cn - 0)) (pk_sub (by omega)) ?_
              refine sd_ri (va_runV (As := [.int (nI (a + 0)), .int (nI (cn - 0))]) (rest := []) ⟨hx, hb, hml, hown, hts⟩ (c_Mod_compOf l g m0 mtt mcd mat msz mvl mcs mmm mkn mjp mds tk9 sz9 pl9 (nI (wn st)) (nI (sn st)) ra rd nx9 dn n tf tx hT (a + 0) (cn - 0) (by omega)) (cwV 2 hts (sd_gV k_624 k_626 k_20 k_30 k_627) rfl rfl rfl (by decide +kernel) ⟨Nat.le_of_ble_eq_true rfl, Nat.le_of_ble_eq_true rfl⟩) (sd_preV hK hE (sd_fr hS hA0) (hP.sub (ws' := [(m0, .inr (8, [.ref mtt, .int tk9, .int sz9, .int pl9, .int (nI (wn st)), .ref mcd, .int (nI (sn st)), .ref mat, .ref msz, .ref mvl, .ref mcs, .ref mmm, .int ra, .int rd, .int nx9, .int dn, .ref mkn, .ref mjp, .ref mds])), (mtt, .inl (gI g, 2000, .inl tf))]) [0, 1] rfl) rfl rfl) rfl rfl hl.1 rfl (lv_room (Nat.le_of_ble_eq_true rfl)) d_Mod_computes_121 ⟨Nat.zero_le _, Nat.zero_le _⟩) (fun r5 er5 => ?_)
              subst er5
              have hCV := cmpV_lk (tx := tx) (a := a + 0) (c := (cn - 0))
              rw [show a + 0 + (cn - 0) = (a + cn) by omega] at hCV
              generalize hv8 : (cmpV (cn - 0) (if (cn - 0) ≤ 0 then 0 else tx (a + 0)) (if (cn - 0) ≤ 1 then 0 else tx ((a + 0) + 1)) (if (cn - 0) ≤ 2 then 0 else tx ((a + 0) + 2))) = v8 at hCV ⊢
              have hC0 : (lk (nmM tx a (a + cn)) sd_comp) = 0 → v8 = -1 := hCV.1
              have hC1 : ¬ (lk (nmM tx a (a + cn)) sd_comp) = 0 → ¬ v8 = -1 ∧ nI 64 * v8 = nI ((lk (nmM tx a (a + cn)) sd_comp) - 1) := hCV.2
              clear hCV
              refine lv_istore (lv' := [(8, .int v8), (7, .int (nI 0)), (6, .int (nI cn)), (5, .int (nI 0)), (3, .int (-1)), (4, .int (-1)), (0, .ref m0), (1, .int (nI a)), (2, .int (nI cn))]) hx hb d_Mod_computes_124 hl (by decide) rfl (fun ls hl => ?_)
              refine lv_iload hx hb d_Mod_computes_126 (lv_at hl 5 rfl) ?_
              refine lv_iconst (v := (-1)) hx hb d_Mod_computes_128 (by decide) ?_
              refine lv_icmp_ne (tgt := 136) hx hb d_Mod_computes_129 (by decide) (fun c6 => ?_) (fun c6 => ?_)
              · exact absurd rfl c6
              · refine lv_iconst (v := (nI 0)) hx hb d_Mod_computes_132 (by decide) ?_
                refine lv_goto (tgt := 158) hx hb d_Mod_computes_133 (by decide) ?_
                refine lv_istore (lv' := [(9, .int (nI 0)), (8, .int v8), (7, .int (nI 0)), (6, .int (nI cn)), (5, .int (nI 0)), (3, .int (-1)), (4, .int (-1)), (0, .ref m0), (1, .int (nI a)), (2, .int (nI cn))]) hx hb d_Mod_computes_158 hl (by decide) rfl (fun ls hl => ?_)
                refine lv_iload hx hb d_Mod_computes_160 (lv_at hl 2 rfl) ?_
                refine lv_iconst (v := (-1)) hx hb d_Mod_computes_162 (by decide) ?_
                refine lv_icmp_eq (tgt := 194) hx hb d_Mod_computes_163 (by decide) (fun c7 => ?_) (fun c7 => ?_)
                · exact absurd c7 (nI_m1 (by omega))
                · refine lv_iload hx hb d_Mod_computes_166 (lv_at hl 1 rfl) ?_
                  refine lv_iconst (v := (-1)) hx hb d_Mod_computes_168 (by decide) ?_
                  refine lv_icmp_eq (tgt := 194) hx hb d_Mod_computes_169 (by decide) (fun c8 => ?_) (fun c8 => ?_)
                  · refine lv_iconst (v := (nI 1)) hx hb d_Mod_computes_194 (by decide) ?_
                    have hP9 := hP.sub (ws' := [(m0, .inr (8, [.ref mtt, .int tk9, .int sz9, .int pl9, .int (nI (wn st)), .ref mcd, .int (nI (sn st)), .ref mat, .ref msz, .ref mvl, .ref mcs, .ref mmm, .int ra, .int rd, .int nx9, .int dn, .ref mkn, .ref mjp, .ref mds])), (mtt, .inl (gI g, 2000, .inl tf)), (mcd, .inl (gI g, 600, .inl cdf)), (mat, .inl (gI g, 40, .inl s1)), (msz, .inl (gI g, 40, .inl s2)), (mvl, .inl (gI g, 40, .inl s3)), (mcs, .inl (gI g, 600, .inl csf)), (mkn, .inl (gC g, 32, .inl kf)), (mjp, .inl (gC g, 28, .inl jf)), (mds, .inl (gC g, 19, .inl df))]) [0, 1, 2, 3, 4, 5, 6, 7, 8, 9] rfl
                    have hD9 := hD.sub (ws' := [(m0, .inr (8, [.ref mtt, .int tk9, .int sz9, .int pl9, .int (nI (wn st)), .ref mcd, .int (nI (sn st)), .ref mat, .ref msz, .ref mvl, .ref mcs, .ref mmm, .int ra, .int rd, .int nx9, .int dn, .ref mkn, .ref mjp, .ref mds])), (mtt, .inl (gI g, 2000, .inl tf)), (mcd, .inl (gI g, 600, .inl cdf)), (mat, .inl (gI g, 40, .inl s1)), (msz, .inl (gI g, 40, .inl s2)), (mvl, .inl (gI g, 40, .inl s3)), (mcs, .inl (gI g, 600, .inl csf)), (mkn, .inl (gC g, 32, .inl kf)), (mjp, .inl (gC g, 28, .inl jf)), (mds, .inl (gC g, 19, .inl df))]) [0, 1, 2, 3, 4, 5, 6, 7, 8, 9] (by decide) rfl
                    exact W.iret (v := (nI 1)) hx hb hr (fun t ht hW => ⟨⟨_, (st, cdf, csf, s1, s2, s3), rfl, ⟨⟨1, by rw [hG, if_pos (Or.inr (Or.inr (Classical.byContradiction fun q9 => (hC1 q9).1 c8)))], rfl⟩, hMP, hSR, hSB⟩, by rw [ht]; exact hP9, by rw [hAe]; exact hD9⟩, hS.F ht⟩) hS.2.2 d_Mod_computes_195
                  · have hc0 : ¬ (lk (nmM tx a (a + cn)) sd_comp) = 0 := fun q9 => c8 (hC0 q9)
                    have hc1 := (hC1 hc0).2
                    refine lv_iload hx hb d_Mod_computes_172 (lv_at hl 6 rfl) ?_
                    refine lv_iconst (v := (-1)) hx hb d_Mod_computes_174 (by decide) ?_
                    refine lv_icmp_eq (tgt := 196) hx hb d_Mod_computes_175 (by decide) (fun c9 => ?_) (fun c9 => ?_)
                    · have hok : ¬ (((a + cn) < a + cn ∧ 0 = 0) ∨ ((a + cn) < a + cn ∧ 0 = 0) ∨ (lk (nmM tx a (a + cn)) sd_comp) = 0) := by
                        rintro (h | h | h)
                        · exact absurd h.1 (Nat.lt_irrefl _)
                        · exact absurd h.1 (Nat.lt_irrefl _)
                        · exact hc0 h
                      refine lv_aload_n hx hb d_Mod_computes_196 rfl (lv_at hl 7 rfl) ?_
                      refine va_get (D := g.1) (ci := 8) (v := .int (nI (wn st))) (C := "SignDeskModel") (T := F_Mod) (N := 19) hx hb hts in_Mod hown hK hP 0 rfl rfl 4 (by decide) (hts _ k_498) (fun _ h9 => h9) rfl d_Mod_computes_197 ?_
                      refine lv_sipush (v := (nI 600)) hx hb d_Mod_computes_200 (by decide) ?_
                      refine lv_icmp_ne (tgt := 208) hx hb d_Mod_computes_203 (by decide) (fun c10 => ?_) (fun c10 => ?_)
                      · have c10 := mt (nI_eq (by omega) (by omega)).mpr c10
                        refine lv_aload_n hx hb d_Mod_computes_208 rfl (lv_at hl 7 rfl) ?_
                        refine va_get (D := g.1) (ci := 8) (v := .ref mcs) (C := "SignDeskModel") (T := F_Mod) (N := 19) hx hb hts in_Mod hown hK hP 0 rfl rfl 10 (by decide) (hts _ k_504) (fun _ h9 => h9) rfl d_Mod_computes_209 ?_
                        refine lv_aload_n hx hb d_Mod_computes_212 rfl (lv_at hl 7 rfl) ?_
                        refine va_get (D := g.1) (ci := 8) (v := .int (nI (wn st))) (C := "SignDeskModel") (T := F_Mod) (N := 19) hx hb hts in_Mod hown hK hP 0 rfl rfl 4 (by decide) (hts _ k_498) (fun _ h9 => h9) rfl d_Mod_computes_213 ?_
                        refine lv_iconst (v := (-1)) hx hb d_Mod_computes_216 (by decide) ?_
                        refine va_iast hx hb hK hP hD hS 6 1 rfl rfl (i := (nI (wn st))) (x := (-1)) (vp_in_nI (by omega) (by omega)) d_Mod_computes_217 (fun H locs hP hD hS => ?_)
                        have hP : sdP g [(m0, .inr (8, [.ref mtt, .int tk9, .int sz9, .int pl9, .int (nI (wn st)), .ref mcd, .int (nI (sn st)), .ref mat, .ref msz, .ref mvl, .ref mcs, .ref mmm, .int ra, .int rd, .int nx9, .int dn, .ref mkn, .ref mjp, .ref mds])), (mtt, .inl (gI g, 2000, .inl tf)), (mcd, .inl (gI g, 600, .inl cdf)), (mat, .inl (gI g, 40, .inl s1)), (msz, .inl (gI g, 40, .inl s2)), (mvl, .inl (gI g, 40, .inl s3)), (mcs, .inl (gI g, 600, .inl (upd csf ((nI (wn st))).toNatClampNeg (-1)))), (mkn, .inl (gC g, 32, .inl kf)), (mjp, .inl (gC g, 28, .inl jf)), (mds, .inl (gC g, 19, .inl df))] H := hP
                        have hD : va_D A [(m0, .inr (8, [.ref mtt, .int tk9, .int sz9, .int pl9, .int (nI (wn st)), .ref mcd, .int (nI (sn st)), .ref mat, .ref msz, .ref mvl, .ref mcs, .ref mmm, .int ra, .int rd, .int nx9, .int dn, .ref mkn, .ref mjp, .ref mds])), (mtt, .inl (gI g, 2000, .inl tf)), (mcd, .inl (gI g, 600, .inl cdf)), (mat, .inl (gI g, 40, .inl s1)), (msz, .inl (gI g, 40, .inl s2)), (mvl, .inl (gI g, 40, .inl s3)), (mcs, .inl (gI g, 600, .inl (upd csf ((nI (wn st))).toNatClampNeg (-1)))), (mkn, .inl (gC g, 32, .inl kf)), (mjp, .inl (gC g, 28, .inl jf)), (mds, .inl (gC g, 19, .inl df))] := hD
                        have eF : (upd csf ((nI (wn st))).toNatClampNeg (-1)) = (upd csf (wn st) (-1)) := by rw [nI_clamp (by omega)]
                        rw [eF] at hP hD
                        refine lv_aload_n hx hb d_Mod_computes_218 rfl (lv_at hl 7 rfl) ?_
                        refine va_get (D := g.1) (ci := 8) (v := .ref mcd) (C := "SignDeskModel") (T := F_Mod) (N := 19) hx hb hts in_Mod hown hK hP 0 rfl rfl 5 (by decide) (hts _ k_499) (fun _ h9 => h9) rfl d_Mod_computes_219 ?_
                        refine lv_aload_n hx hb d_Mod_computes_222 rfl (lv_at hl 7 rfl) ?_
                        refine va_get (D := g.1) (ci := 8) (v := .int (nI (wn st))) (C := "SignDeskModel") (T := F_Mod) (N := 19) hx hb hts in_Mod hown hK hP 0 rfl rfl 4 (by decide) (hts _ k_498) (fun _ h9 => h9) rfl d_Mod_computes_223 ?_
                        refine lv_ldc (v := nI 57344) hx hb hown (hts _ k_628) d_Mod_computes_226 ?_
                        refine lv_bipush (v := (nI 64)) hx hb d_Mod_computes_228 (by decide) ?_
                        refine lv_iload hx hb d_Mod_computes_230 (lv_at hl 1 rfl) ?_
                        refine lv_imul hx hb d_Mod_computes_232 ?_
                        refine sd_topi (y := nI ((lk (nmM tx a (a + cn)) sd_comp) - 1)) (hc1) ?_
                        refine lv_iadd hx hb d_Mod_computes_233 ?_
                        refine sd_topi (y := nI (57344 + ((lk (nmM tx a (a + cn)) sd_comp) - 1))) (nI_add _ _) ?_
                        refine lv_iload hx hb d_Mod_computes_234 (lv_at hl 2 rfl) ?_
                        refine lv_iadd hx hb d_Mod_computes_236 ?_
                        refine sd_topi (y := nI ((57344 + ((lk (nmM tx a (a + cn)) sd_comp) - 1)) + 0)) (nI_add _ _) ?_
                        refine lv_iload hx hb d_Mod_computes_237 (lv_at hl 0 rfl) ?_
                        refine lv_iadd hx hb d_Mod_computes_239 ?_
                        refine sd_topi (y := nI (((57344 + ((lk (nmM tx a (a + cn)) sd_comp) - 1)) + 0) + 0)) (nI_add _ _) ?_
                        refine sd_topi (y := nI (57344 + ((lk (nmM tx a (a + cn)) sd_comp) - 1) + 8 * 0 + 0)) (congrArg nI (by omega)) ?_
                        refine va_iast hx hb hK hP hD hS 2 1 rfl rfl (i := (nI (wn st))) (x := (nI (57344 + ((lk (nmM tx a (a + cn)) sd_comp) - 1) + 8 * 0 + 0))) (vp_in_nI (by omega) (by omega)) d_Mod_computes_240 (fun H locs hP hD hS => ?_)
                        have hP : sdP g [(m0, .inr (8, [.ref mtt, .int tk9, .int sz9, .int pl9, .int (nI (wn st)), .ref mcd, .int (nI (sn st)), .ref mat, .ref msz, .ref mvl, .ref mcs, .ref mmm, .int ra, .int rd, .int nx9, .int dn, .ref mkn, .ref mjp, .ref mds])), (mtt, .inl (gI g, 2000, .inl tf)), (mcd, .inl (gI g, 600, .inl (upd cdf ((nI (wn st))).toNatClampNeg (nI (57344 + ((lk (nmM tx a (a + cn)) sd_comp) - 1) + 8 * 0 + 0))))), (mat, .inl (gI g, 40, .inl s1)), (msz, .inl (gI g, 40, .inl s2)), (mvl, .inl (gI g, 40, .inl s3)), (mcs, .inl (gI g, 600, .inl (upd csf (wn st) (-1)))), (mkn, .inl (gC g, 32, .inl kf)), (mjp, .inl (gC g, 28, .inl jf)), (mds, .inl (gC g, 19, .inl df))] H := hP
                        have hD : va_D A [(m0, .inr (8, [.ref mtt, .int tk9, .int sz9, .int pl9, .int (nI (wn st)), .ref mcd, .int (nI (sn st)), .ref mat, .ref msz, .ref mvl, .ref mcs, .ref mmm, .int ra, .int rd, .int nx9, .int dn, .ref mkn, .ref mjp, .ref mds])), (mtt, .inl (gI g, 2000, .inl tf)), (mcd, .inl (gI g, 600, .inl (upd cdf ((nI (wn st))).toNatClampNeg (nI (57344 + ((lk (nmM tx a (a + cn)) sd_comp) - 1) + 8 * 0 + 0))))), (mat, .inl (gI g, 40, .inl s1)), (msz, .inl (gI g, 40, .inl s2)), (mvl, .inl (gI g, 40, .inl s3)), (mcs, .inl (gI g, 600, .inl (upd csf (wn st) (-1)))), (mkn, .inl (gC g, 32, .inl kf)), (mjp, .inl (gC g, 28, .inl jf)), (mds, .inl (gC g, 19, .inl df))] := hD
                        have eF : (upd cdf ((nI (wn st))).toNatClampNeg (nI (57344 + ((lk (nmM tx a (a + cn)) sd_comp) - 1) + 8 * 0 + 0))) = (upd cdf (wn st) (nI (57344 + ((lk (nmM tx a (a + cn)) sd_comp) - 1) + 8 * 0 + 0))) := by rw [nI_clamp (by omega)]
                        rw [eF] at hP hD
                        refine lv_aload_n hx hb d_Mod_computes_241 rfl (lv_at hl 7 rfl) ?_
                        refine lv_aload_n hx hb d_Mod_computes_242 rfl (lv_at hl 7 rfl) ?_
                        refine va_get (D := g.1) (ci := 8) (v := .int (nI (wn st))) (C := "SignDeskModel") (T := F_Mod) (N := 19) hx hb hts in_Mod hown hK hP 0 rfl rfl 4 (by decide) (hts _ k_498) (fun _ h9 => h9) rfl d_Mod_computes_243 ?_
                        refine lv_iconst (v := (nI 1)) hx hb d_Mod_computes_246 (by decide) ?_
                        refine lv_iadd hx hb d_Mod_computes_247 ?_
                        refine sd_topi (y := nI ((wn st) + 1)) (nI_add _ _) ?_
                        refine va_put (D := g.1) (ci := 8) (v := .int (nI ((wn st) + 1))) (ty := .int) (C := "SignDeskModel") (T := F_Mod) (N := 19) hx hb hts in_Mod t_Mod t_Mod_ok n_Mod hown hK hP hD hS 0 rfl rfl 4 (by decide) (hts _ k_498) (fun _ h9 => h9) rfl (by decide +kernel) rfl rfl (Nat.le_of_ble_eq_true rfl) d_Mod_computes_248 (fun H locs hP hD hS => ?_)
                        have hP : sdP g [(m0, .inr (8, [.ref mtt, .int tk9, .int sz9, .int pl9, .int (nI ((wn st) + 1)), .ref mcd, .int (nI (sn st)), .ref mat, .ref msz, .ref mvl, .ref mcs, .ref mmm, .int ra, .int rd, .int nx9, .int dn, .ref mkn, .ref mjp, .ref mds])), (mtt, .inl (gI g, 2000, .inl tf)), (mcd, .inl (gI g, 600, .inl (upd cdf (wn st) (nI (57344 + ((lk (nmM tx a (a + cn)) sd_comp) - 1) + 8 * 0 + 0))))), (mat, .inl (gI g, 40, .inl s1)), (msz, .inl (gI g, 40, .inl s2)), (mvl, .inl (gI g, 40, .inl s3)), (mcs, .inl (gI g, 600, .inl (upd csf (wn st) (-1)))), (mkn, .inl (gC g, 32, .inl kf)), (mjp, .inl (gC g, 28, .inl jf)), (mds, .inl (gC g, 19, .inl df))] H := hP
                        have hD : va_D A [(m0, .inr (8, [.ref mtt, .int tk9, .int sz9, .int pl9, .int (nI ((wn st) + 1)), .ref mcd, .int (nI (sn st)), .ref mat, .ref msz, .ref mvl, .ref mcs, .ref mmm, .int ra, .int rd, .int nx9, .int dn, .ref mkn, .ref mjp, .ref mds])), (mtt, .inl (gI g, 2000, .inl tf)), (mcd, .inl (gI g, 600, .inl (upd cdf (wn st) (nI (57344 + ((lk (nmM tx a (a + cn)) sd_comp) - 1) + 8 * 0 + 0))))), (mat, .inl (gI g, 40, .inl s1)), (msz, .inl (gI g, 40, .inl s2)), (mvl, .inl (gI g, 40, .inl s3)), (mcs, .inl (gI g, 600, .inl (upd csf (wn st) (-1)))), (mkn, .inl (gC g, 32, .inl kf)), (mjp, .inl (gC g, 28, .inl jf)), (mds, .inl (gC g, 19, .inl df))] := hD
                        refine lv_iconst (v := (nI 0)) hx hb d_Mod_computes_251 (by decide) ?_
                        have hP9 := hP.sub (ws' := [(m0, .inr (8, [.ref mtt, .int tk9, .int sz9, .int pl9, .int (nI ((wn st) + 1)), .ref mcd, .int (nI (sn st)), .ref mat, .ref msz, .ref mvl, .ref mcs, .ref mmm, .int ra, .int rd, .int nx9, .int dn, .ref mkn, .ref mjp, .ref mds])), (mtt, .inl (gI g, 2000, .inl tf)), (mcd, .inl (gI g, 600, .inl (upd cdf (wn st) (nI (57344 + ((lk (nmM tx a (a + cn)) sd_comp) - 1) + 8 * 0 + 0))))), (mat, .inl (gI g, 40, .inl s1)), (msz, .inl (gI g, 40, .inl s2)), (mvl, .inl (gI g, 40, .inl s3)), (mcs, .inl (gI g, 600, .inl (upd csf (wn st) (-1)))), (mkn, .inl (gC g, 32, .inl kf)), (mjp, .inl (gC g, 28, .inl jf)), (mds, .inl (gC g, 19, .inl df))]) [0, 1, 2, 3, 4, 5, 6, 7, 8, 9] rfl
                        have hD9 := hD.sub (ws' := [(m0, .inr (8, [.ref mtt, .int tk9, .int sz9, .int pl9, .int (nI ((wn st) + 1)), .ref mcd, .int (nI (sn st)), .ref mat, .ref msz, .ref mvl, .ref mcs, .ref mmm, .int ra, .int rd, .int nx9, .int dn, .ref mkn, .ref mjp, .ref mds])), (mtt, .inl (gI g, 2000, .inl tf)), (mcd, .inl (gI g, 600, .inl (upd cdf (wn st) (nI (57344 + ((lk (nmM tx a (a + cn)) sd_comp) - 1) + 8 * 0 + 0))))), (mat, .inl (gI g, 40, .inl s1)), (msz, .inl (gI g, 40, .inl s2)), (mvl, .inl (gI g, 40, .inl s3)), (mcs, .inl (gI g, 600, .inl (upd csf (wn st) (-1)))), (mkn, .inl (gC g, 32, .inl kf)), (mjp, .inl (gC g, 28, .inl jf)), (mds, .inl (gC g, 19, .inl df))]) [0, 1, 2, 3, 4, 5, 6, 7, 8, 9] (by decide) rfl
                        exact W.iret (v := (nI 0)) hx hb hr (fun t ht hW => ⟨⟨_, (pushW st (57344 + ((lk (nmM tx a (a + cn)) sd_comp) - 1) + 8 * 0 + 0) 0, upd cdf (wn st) (nI (57344 + ((lk (nmM tx a (a + cn)) sd_comp) - 1) + 8 * 0 + 0)), upd csf (wn st) (-1), s1, s2, s3), rfl, ⟨⟨0, by rw [hG, if_neg hok, if_neg (by omega)], rfl⟩, MPR_push (y := 0) hMP (by omega), hSR, hSB⟩, by rw [ht]; exact hP9, by rw [hAe]; exact hD9⟩, hS.F ht⟩) hS.2.2 d_Mod_computes_252
                      · have c10 := (nI_eq (by omega) (by omega)).mp c10
                        refine lv_iconst (v := (nI 2)) hx hb d_Mod_computes_206 (by decide) ?_
                        have hP9 := hP.sub (ws' := [(m0, .inr (8, [.ref mtt, .int tk9, .int sz9, .int pl9, .int (nI (wn st)), .ref mcd, .int (nI (sn st)), .ref mat, .ref msz, .ref mvl, .ref mcs, .ref mmm, .int ra, .int rd, .int nx9, .int dn, .ref mkn, .ref mjp, .ref mds])), (mtt, .inl (gI g, 2000, .inl tf)), (mcd, .inl (gI g, 600, .inl cdf)), (mat, .inl (gI g, 40, .inl s1)), (msz, .inl (gI g, 40, .inl s2)), (mvl, .inl (gI g, 40, .inl s3)), (mcs, .inl (gI g, 600, .inl csf)), (mkn, .inl (gC g, 32, .inl kf)), (mjp, .inl (gC g, 28, .inl jf)), (mds, .inl (gC g, 19, .inl df))]) [0, 1, 2, 3, 4, 5, 6, 7, 8, 9] rfl
                        have hD9 := hD.sub (ws' := [(m0, .inr (8, [.ref mtt, .int tk9, .int sz9, .int pl9, .int (nI (wn st)), .ref mcd, .int (nI (sn st)), .ref mat, .ref msz, .ref mvl, .ref mcs, .ref mmm, .int ra, .int rd, .int nx9, .int dn, .ref mkn, .ref mjp, .ref mds])), (mtt, .inl (gI g, 2000, .inl tf)), (mcd, .inl (gI g, 600, .inl cdf)), (mat, .inl (gI g, 40, .inl s1)), (msz, .inl (gI g, 40, .inl s2)), (mvl, .inl (gI g, 40, .inl s3)), (mcs, .inl (gI g, 600, .inl csf)), (mkn, .inl (gC g, 32, .inl kf)), (mjp, .inl (gC g, 28, .inl jf)), (mds, .inl (gC g, 19, .inl df))]) [0, 1, 2, 3, 4, 5, 6, 7, 8, 9] (by decide) rfl
                        exact W.iret (v := (nI 2)) hx hb hr (fun t ht hW => ⟨⟨_, (st, cdf, csf, s1, s2, s3), rfl, ⟨⟨2, by rw [hG, if_neg hok, if_pos (by omega)], rfl⟩, hMP, hSR, hSB⟩, by rw [ht]; exact hP9, by rw [hAe]; exact hD9⟩, hS.F ht⟩) hS.2.2 d_Mod_computes_207
                    · exact absurd rfl c9
          · have c3 := mt (nI_leI (by omega) (by omega)).mpr c3
            exact absurd c3 (by omega)
      · have hF2 := ocE_F1 (tx := tx) (a := a) hs2 hs3 hs4
        have hG := spOther_g (tx := tx) (st := st) (D := 0) (J := (lk (nmM tx (a + s9 + 1) (a + cn)) sd_jump)) (ca := a) hF1 hF2 (if_neg (Nat.lt_irrefl (a + cn))).symm (if_neg (Nat.lt_irrefl (a + cn))).symm (if_pos (show a + s9 < a + cn by omega)).symm rfl
        have hDl : 0 ≤ 7 := by decide
        have hJl : (lk (nmM tx (a + s9 + 1) (a + cn)) sd_jump) ≤ 7 := lk_le sd_jump_lt
        have hCl : (lk (nmM tx a (a + s9)) sd_comp) ≤ 8129 := lk_le sd_comp_lt
        refine lv_iload_n hx hb d_Mod_computes_66 rfl (lv_at hl 1 rfl) ?_
        refine lv_iconst (v := (nI 1)) hx hb d_Mod_computes_67 (by decide) ?_
        refine lv_iadd hx hb d_Mod_computes_68 ?_
        refine sd_topi (y := nI 0) (by decide) ?_
        refine lv_istore (lv' := [(5, .int (nI 0)), (3, .int (-1)), (4, .int (nI s9)), (0, .ref m0), (1, .int (nI a)), (2, .int (nI cn))]) hx hb d_Mod_computes_69 hl (by decide) rfl (fun ls hl => ?_)
        refine lv_iload hx hb d_Mod_computes_71 (lv_at hl 2 rfl) ?_
        refine lv_iconst (v := (-1)) hx hb d_Mod_computes_73 (by decide) ?_
        refine lv_icmp_ne (tgt := 81) hx hb d_Mod_computes_74 (by decide) (fun c11 => ?_) (fun c11 => ?_)
        · refine lv_iload hx hb d_Mod_computes_81 (lv_at hl 2 rfl) ?_
          refine lv_istore (lv' := [(6, .int (nI s9)), (5, .int (nI 0)), (3, .int (-1)), (4, .int (nI s9)), (0, .ref m0), (1, .int (nI a)), (2, .int (nI cn))]) hx hb d_Mod_computes_83 hl (by decide) rfl (fun ls hl => ?_)
          refine lv_iload hx hb d_Mod_computes_85 (lv_at hl 0 rfl) ?_
          refine lv_iload hx hb d_Mod_computes_87 (lv_at hl 1 rfl) ?_
          refine lv_icmp_ge (tgt := 94) hx hb d_Mod_computes_89 (by decide) (fun c12 => ?_) (fun c12 => ?_)
          · have c12 := (nI_leI (by omega) (by omega)).mp c12
            refine lv_iload_n hx hb d_Mod_computes_94 rfl (lv_at hl 2 rfl) ?_
            refine lv_iconst (v := (-1)) hx hb d_Mod_computes_95 (by decide) ?_
            refine lv_icmp_ne (tgt := 103) hx hb d_Mod_computes_96 (by decide) (fun c13 => ?_) (fun c13 => ?_)
            · exact absurd rfl c13
            · refine lv_iconst (v := (nI 0)) hx hb d_Mod_computes_99 (by decide) ?_
              refine lv_goto (tgt := 109) hx hb d_Mod_computes_100 (by decide) ?_
              refine lv_istore (lv' := [(7, .int (nI 0)), (6, .int (nI s9)), (5, .int (nI 0)), (3, .int (-1)), (4, .int (nI s9)), (0, .ref m0), (1, .int (nI a)), (2, .int (nI cn))]) hx hb d_Mod_computes_109 hl (by decide) rfl (fun ls hl => ?_)
              refine lv_aload_n hx hb d_Mod_computes_111 rfl (lv_at hl 5 rfl) ?_
              refine lv_iload_n hx hb d_Mod_computes_112 rfl (lv_at hl 6 rfl) ?_
              refine lv_iload hx hb d_Mod_computes_113 (lv_at hl 2 rfl) ?_
              refine lv_iadd hx hb d_Mod_computes_115 ?_
              refine sd_topi (y := nI (a + 0)) (nI_add _ _) ?_
              refine lv_iload hx hb d_Mod_computes_116 (lv_at hl 1 rfl) ?_
              refine lv_iload hx hb d_Mod_computes_118 (lv_at hl 2 rfl) ?_
              refine lv_isub hx hb d_Mod_computes_120 ?_
              refine sd_topi (y := nI (s9 - 0)) (pk_sub (by omega)) ?_
              refine sd_ri (va_runV (As := [.int (nI (a + 0)), .int (nI (s9 - 0))]) (rest := []) ⟨hx, hb, hml, hown, hts⟩ (c_Mod_compOf l g m0 mtt mcd mat msz mvl mcs mmm mkn mjp mds tk9 sz9 pl9 (nI (wn st)) (nI (sn st)) ra rd nx9 dn n tf tx hT (a + 0) (s9 - 0) (by omega)) (cwV 2 hts (sd_gV k_624 k_626 k_20 k_30 k_627) rfl rfl rfl (by decide +kernel) ⟨Nat.le_of_ble_eq_true rfl, Nat.le_of_ble_eq_true rfl⟩) (sd_preV hK hE (sd_fr hS hA0) (hP.sub (ws' := [(m0, .inr (8, [.ref mtt, .int tk9, .int sz9, .int pl9, .int (nI (wn st)), .ref mcd, .int (nI (sn st)), .ref mat, .ref msz, .ref mvl, .ref mcs, .ref mmm, .int ra, .int rd, .int nx9, .int dn, .ref mkn, .ref mjp, .ref mds])), (mtt, .inl (gI g, 2000, .inl tf))]) [0, 1] rfl) rfl rfl) rfl rfl hl.1 rfl (lv_room (Nat.le_of_ble_eq_true rfl)) d_Mod_computes_121 ⟨Nat.zero_le _, Nat.zero_le _⟩) (fun r14 er14 => ?_)
              subst er14
              have hCV := cmpV_lk (tx := tx) (a := a + 0) (c := (s9 - 0))
              rw [show a + 0 + (s9 - 0) = (a + s9) by omega] at hCV
              generalize hv8 : (cmpV (s9 - 0) (if (s9 - 0) ≤ 0 then 0 else tx (a + 0)) (if (s9 - 0) ≤ 1 then 0 else tx ((a + 0) + 1)) (if (s9 - 0) ≤ 2 then 0 else tx ((a + 0) + 2))) = v8 at hCV ⊢
              have hC0 : (lk (nmM tx a (a + s9)) sd_comp) = 0 → v8 = -1 := hCV.1
              have hC1 : ¬ (lk (nmM tx a (a + s9)) sd_comp) = 0 → ¬ v8 = -1 ∧ nI 64 * v8 = nI ((lk (nmM tx a (a + s9)) sd_comp) - 1) := hCV.2
              clear hCV
              refine lv_istore (lv' := [(8, .int v8), (7, .int (nI 0)), (6, .int (nI s9)), (5, .int (nI 0)), (3, .int (-1)), (4, .int (nI s9)), (0, .ref m0), (1, .int (nI a)), (2, .int (nI cn))]) hx hb d_Mod_computes_124 hl (by decide) rfl (fun ls hl => ?_)
              refine lv_iload hx hb d_Mod_computes_126 (lv_at hl 5 rfl) ?_
              refine lv_iconst (v := (-1)) hx hb d_Mod_computes_128 (by decide) ?_
              refine lv_icmp_ne (tgt := 136) hx hb d_Mod_computes_129 (by decide) (fun c15 => ?_) (fun c15 => ?_)
              · refine lv_iconst (v := (nI 1)) hx hb d_Mod_computes_136 (by decide) ?_
                refine lv_aload_n hx hb d_Mod_computes_137 rfl (lv_at hl 6 rfl) ?_
                refine lv_aload_n hx hb d_Mod_computes_138 rfl (lv_at hl 6 rfl) ?_
                refine va_get (D := g.1) (ci := 8) (v := .ref mjp) (C := "SignDeskModel") (T := F_Mod) (N := 19) hx hb hts in_Mod hown hK hP 0 rfl rfl 17 (by decide) (hts _ k_511) (fun _ h9 => h9) rfl d_Mod_computes_139 ?_
                refine lv_iload_n hx hb d_Mod_computes_142 rfl (lv_at hl 7 rfl) ?_
                refine lv_iload hx hb d_Mod_computes_143 (lv_at hl 5 rfl) ?_
                refine lv_iadd hx hb d_Mod_computes_145 ?_
                refine sd_topi (y := nI (a + s9)) (nI_add _ _) ?_
                refine lv_iconst (v := (nI 1)) hx hb d_Mod_computes_146 (by decide) ?_
                refine lv_iadd hx hb d_Mod_computes_147 ?_
                refine sd_topi (y := nI ((a + s9) + 1)) (nI_add _ _) ?_
                refine lv_iload_n hx hb d_Mod_computes_148 rfl (lv_at hl 8 rfl) ?_
                refine lv_iload hx hb d_Mod_computes_149 (lv_at hl 5 rfl) ?_
                refine lv_isub hx hb d_Mod_computes_151 ?_
                refine sd_topi (y := nI (cn - s9)) (pk_sub (by omega)) ?_
                refine lv_iconst (v := (nI 1)) hx hb d_Mod_computes_152 (by decide) ?_
                refine lv_isub hx hb d_Mod_computes_153 ?_
                refine sd_topi (y := nI (cn - s9 - 1)) (pk_sub (by omega)) ?_
                refine sd_ri (va_runV (As := [.ref mjp, .int (nI ((a + s9) + 1)), .int (nI (cn - s9 - 1))]) (rest := [.int (nI 1)]) ⟨hx, hb, hml, hown, hts⟩ (c_Mod_wordOf l g m0 mtt mcd mat msz mvl mcs mmm mkn mjp mds tk9 sz9 pl9 (nI (wn st)) (nI (sn st)) ra rd nx9 dn mjp 28 jf (sd_jump.map Prod.fst) hRj n tf tx hT (a + s9 + 1) (cn - s9 - 1) (by omega) (fun j h5 h6 => htk j (by omega) (by omega))) (cwV 3 hts (sd_gV k_604 k_606 k_15 k_30 k_607) rfl rfl rfl (by decide +kernel) ⟨Nat.le_of_ble_eq_true rfl, Nat.le_of_ble_eq_true rfl⟩) (sd_preV hK hE (sd_fr hS hA0) (hP.sub (ws' := [(m0, .inr (8, [.ref mtt, .int tk9, .int sz9, .int pl9, .int (nI (wn st)), .ref mcd, .int (nI (sn st)), .ref mat, .ref msz, .ref mvl, .ref mcs, .ref mmm, .int ra, .int rd, .int nx9, .int dn, .ref mkn, .ref mjp, .ref mds])), (mtt, .inl (gI g, 2000, .inl tf)), (mjp, .inl (gC g, 28, .inl jf))]) [0, 1, 8] rfl) rfl rfl) rfl rfl hl.1 rfl (lv_room (Nat.le_of_ble_eq_true rfl)) d_Mod_computes_154 ⟨Nat.zero_le _, Nat.zero_le _⟩) (fun r16 er16 => ?_)
                subst er16
                refine lv_iadd hx hb d_Mod_computes_157 ?_
                refine sd_topi (y := nI (lk (nmM tx (a + s9 + 1) (a + cn)) sd_jump)) (by rw [show a + s9 + 1 + (cn - s9 - 1) = a + cn by omega]; exact sd_jpQ) ?_
                refine lv_istore (lv' := [(9, .int (nI (lk (nmM tx (a + s9 + 1) (a + cn)) sd_jump))), (8, .int v8), (7, .int (nI 0)), (6, .int (nI s9)), (5, .int (nI 0)), (3, .int (-1)), (4, .int (nI s9)), (0, .ref m0), (1, .int (nI a)), (2, .int (nI cn))]) hx hb d_Mod_computes_158 hl (by decide) rfl (fun ls hl => ?_)
                refine lv_iload hx hb d_Mod_computes_160 (lv_at hl 2 rfl) ?_
                refine lv_iconst (v := (-1)) hx hb d_Mod_computes_162 (by decide) ?_
                refine lv_icmp_eq (tgt := 194) hx hb d_Mod_computes_163 (by decide) (fun c17 => ?_) (fun c17 => ?_)
                · exact absurd c17 (nI_m1 (by omega))
                · refine lv_iload hx hb d_Mod_computes_166 (lv_at hl 1 rfl) ?_
                  refine lv_iconst (v := (-1)) hx hb d_Mod_computes_168 (by decide) ?_
                  refine lv_icmp_eq (tgt := 194) hx hb d_Mod_computes_169 (by decide) (fun c18 => ?_) (fun c18 => ?_)
                  · refine lv_iconst (v := (nI 1)) hx hb d_Mod_computes_194 (by decide) ?_
                    have hP9 := hP.sub (ws' := [(m0, .inr (8, [.ref mtt, .int tk9, .int sz9, .int pl9, .int (nI (wn st)), .ref mcd, .int (nI (sn st)), .ref mat, .ref msz, .ref mvl, .ref mcs, .ref mmm, .int ra, .int rd, .int nx9, .int dn, .ref mkn, .ref mjp, .ref mds])), (mtt, .inl (gI g, 2000, .inl tf)), (mcd, .inl (gI g, 600, .inl cdf)), (mat, .inl (gI g, 40, .inl s1)), (msz, .inl (gI g, 40, .inl s2)), (mvl, .inl (gI g, 40, .inl s3)), (mcs, .inl (gI g, 600, .inl csf)), (mkn, .inl (gC g, 32, .inl kf)), (mjp, .inl (gC g, 28, .inl jf)), (mds, .inl (gC g, 19, .inl df))]) [0, 1, 2, 3, 4, 5, 6, 7, 8, 9] rfl
                    have hD9 := hD.sub (ws' := [(m0, .inr (8, [.ref mtt, .int tk9, .int sz9, .int pl9, .int (nI (wn st)), .ref mcd, .int (nI (sn st)), .ref mat, .ref msz, .ref mvl, .ref mcs, .ref mmm, .int ra, .int rd, .int nx9, .int dn, .ref mkn, .ref mjp, .ref mds])), (mtt, .inl (gI g, 2000, .inl tf)), (mcd, .inl (gI g, 600, .inl cdf)), (mat, .inl (gI g, 40, .inl s1)), (msz, .inl (gI g, 40, .inl s2)), (mvl, .inl (gI g, 40, .inl s3)), (mcs, .inl (gI g, 600, .inl csf)), (mkn, .inl (gC g, 32, .inl kf)), (mjp, .inl (gC g, 28, .inl jf)), (mds, .inl (gC g, 19, .inl df))]) [0, 1, 2, 3, 4, 5, 6, 7, 8, 9] (by decide) rfl
                    exact W.iret (v := (nI 1)) hx hb hr (fun t ht hW => ⟨⟨_, (st, cdf, csf, s1, s2, s3), rfl, ⟨⟨1, by rw [hG, if_pos (Or.inr (Or.inr (Classical.byContradiction fun q9 => (hC1 q9).1 c18)))], rfl⟩, hMP, hSR, hSB⟩, by rw [ht]; exact hP9, by rw [hAe]; exact hD9⟩, hS.F ht⟩) hS.2.2 d_Mod_computes_195
                  · have hc0 : ¬ (lk (nmM tx a (a + s9)) sd_comp) = 0 := fun q9 => c18 (hC0 q9)
                    have hc1 := (hC1 hc0).2
                    refine lv_iload hx hb d_Mod_computes_172 (lv_at hl 6 rfl) ?_
                    refine lv_iconst (v := (-1)) hx hb d_Mod_computes_174 (by decide) ?_
                    refine lv_icmp_eq (tgt := 196) hx hb d_Mod_computes_175 (by decide) (fun c19 => ?_) (fun c19 => ?_)
                    · exact absurd c19 (nI_m1 (by omega))
                    · refine lv_iload hx hb d_Mod_computes_178 (lv_at hl 0 rfl) ?_
                      refine lv_iconst (v := (nI 1)) hx hb d_Mod_computes_180 (by decide) ?_
                      refine lv_icmp_lt (tgt := 194) hx hb d_Mod_computes_181 (by decide) (fun c20 => ?_) (fun c20 => ?_)
                      · have c20 := (nI_ltI (by omega) (by omega)).mp c20
                        refine lv_iconst (v := (nI 1)) hx hb d_Mod_computes_194 (by decide) ?_
                        have hP9 := hP.sub (ws' := [(m0, .inr (8, [.ref mtt, .int tk9, .int sz9, .int pl9, .int (nI (wn st)), .ref mcd, .int (nI (sn st)), .ref mat, .ref msz, .ref mvl, .ref mcs, .ref mmm, .int ra, .int rd, .int nx9, .int dn, .ref mkn, .ref mjp, .ref mds])), (mtt, .inl (gI g, 2000, .inl tf)), (mcd, .inl (gI g, 600, .inl cdf)), (mat, .inl (gI g, 40, .inl s1)), (msz, .inl (gI g, 40, .inl s2)), (mvl, .inl (gI g, 40, .inl s3)), (mcs, .inl (gI g, 600, .inl csf)), (mkn, .inl (gC g, 32, .inl kf)), (mjp, .inl (gC g, 28, .inl jf)), (mds, .inl (gC g, 19, .inl df))]) [0, 1, 2, 3, 4, 5, 6, 7, 8, 9] rfl
                        have hD9 := hD.sub (ws' := [(m0, .inr (8, [.ref mtt, .int tk9, .int sz9, .int pl9, .int (nI (wn st)), .ref mcd, .int (nI (sn st)), .ref mat, .ref msz, .ref mvl, .ref mcs, .ref mmm, .int ra, .int rd, .int nx9, .int dn, .ref mkn, .ref mjp, .ref mds])), (mtt, .inl (gI g, 2000, .inl tf)), (mcd, .inl (gI g, 600, .inl cdf)), (mat, .inl (gI g, 40, .inl s1)), (msz, .inl (gI g, 40, .inl s2)), (mvl, .inl (gI g, 40, .inl s3)), (mcs, .inl (gI g, 600, .inl csf)), (mkn, .inl (gC g, 32, .inl kf)), (mjp, .inl (gC g, 28, .inl jf)), (mds, .inl (gC g, 19, .inl df))]) [0, 1, 2, 3, 4, 5, 6, 7, 8, 9] (by decide) rfl
                        exact W.iret (v := (nI 1)) hx hb hr (fun t ht hW => ⟨⟨_, (st, cdf, csf, s1, s2, s3), rfl, ⟨⟨1, by rw [hG, if_pos (Or.inr (Or.inl ⟨by omega, by omega⟩))], rfl⟩, hMP, hSR, hSB⟩, by rw [ht]; exact hP9, by rw [hAe]; exact hD9⟩, hS.F ht⟩) hS.2.2 d_Mod_computes_195
                      · have c20 := mt (nI_ltI (by omega) (by omega)).mpr c20
                        have hJ0 : ¬ (lk (nmM tx (a + s9 + 1) (a + cn)) sd_jump) = 0 := by omega
                        obtain ⟨p9, hp9, hM9, e9⟩ := lk_ex hJ0
                        have h39 := sd_jump_3 p9 hp9
                        have hl9 := hM9.1
                        refine lv_iload_n hx hb d_Mod_computes_184 rfl (lv_at hl 9 rfl) ?_
                        refine lv_iload hx hb d_Mod_computes_185 (lv_at hl 6 rfl) ?_
                        refine lv_isub hx hb d_Mod_computes_187 ?_
                        refine sd_topi (y := nI (cn - s9)) (pk_sub (by omega)) ?_
                        refine lv_iconst (v := (nI 1)) hx hb d_Mod_computes_188 (by decide) ?_
                        refine lv_isub hx hb d_Mod_computes_189 ?_
                        refine sd_topi (y := nI (cn - s9 - 1)) (pk_sub (by omega)) ?_
                        refine lv_iconst (v := (nI 3)) hx hb d_Mod_computes_190 (by decide) ?_
                        refine lv_icmp_eq (tgt := 196) hx hb d_Mod_computes_191 (by decide) (fun c21 => ?_) (fun c21 => ?_)
                        · have c21 := (nI_eq (by omega) (by omega)).mp c21
                          have hok : ¬ (((a + cn) < a + cn ∧ 0 = 0) ∨ ((a + s9) < a + cn ∧ (lk (nmM tx (a + s9 + 1) (a + cn)) sd_jump) = 0) ∨ (lk (nmM tx a (a + s9)) sd_comp) = 0) := by
                            rintro (h | h | h)
                            · exact absurd h.1 (Nat.lt_irrefl _)
                            · exact hJ0 h.2
                            · exact hc0 h
                          refine lv_aload_n hx hb d_Mod_computes_196 rfl (lv_at hl 7 rfl) ?_
                          refine va_get (D := g.1) (ci := 8) (v := .int (nI (wn st))) (C := "SignDeskModel") (T := F_Mod) (N := 19) hx hb hts in_Mod hown hK hP 0 rfl rfl 4 (by decide) (hts _ k_498) (fun _ h9 => h9) rfl d_Mod_computes_197 ?_
                          refine lv_sipush (v := (nI 600)) hx hb d_Mod_computes_200 (by decide) ?_
                          refine lv_icmp_ne (tgt := 208) hx hb d_Mod_computes_203 (by decide) (fun c22 => ?_) (fun c22 => ?_)
                          · have c22 := mt (nI_eq (by omega) (by omega)).mpr c22
                            refine lv_aload_n hx hb d_Mod_computes_208 rfl (lv_at hl 7 rfl) ?_
                            refine va_get (D := g.1) (ci := 8) (v := .ref mcs) (C := "SignDeskModel") (T := F_Mod) (N := 19) hx hb hts in_Mod hown hK hP 0 rfl rfl 10 (by decide) (hts _ k_504) (fun _ h9 => h9) rfl d_Mod_computes_209 ?_
                            refine lv_aload_n hx hb d_Mod_computes_212 rfl (lv_at hl 7 rfl) ?_
                            refine va_get (D := g.1) (ci := 8) (v := .int (nI (wn st))) (C := "SignDeskModel") (T := F_Mod) (N := 19) hx hb hts in_Mod hown hK hP 0 rfl rfl 4 (by decide) (hts _ k_498) (fun _ h9 => h9) rfl d_Mod_computes_213 ?_
                            refine lv_iconst (v := (-1)) hx hb d_Mod_computes_216 (by decide) ?_
                            refine va_iast hx hb hK hP hD hS 6 1 rfl rfl (i := (nI (wn st))) (x := (-1)) (vp_in_nI (by omega) (by omega)) d_Mod_computes_217 (fun H locs hP hD hS => ?_)
                            have hP : sdP g [(m0, .inr (8, [.ref mtt, .int tk9, .int sz9, .int pl9, .int (nI (wn st)), .ref mcd, .int (nI (sn st)), .ref mat, .ref msz, .ref mvl, .ref mcs, .ref mmm, .int ra, .int rd, .int nx9, .int dn, .ref mkn, .ref mjp, .ref mds])), (mtt, .inl (gI g, 2000, .inl tf)), (mcd, .inl (gI g, 600, .inl cdf)), (mat, .inl (gI g, 40, .inl s1)), (msz, .inl (gI g, 40, .inl s2)), (mvl, .inl (gI g, 40, .inl s3)), (mcs, .inl (gI g, 600, .inl (upd csf ((nI (wn st))).toNatClampNeg (-1)))), (mkn, .inl (gC g, 32, .inl kf)), (mjp, .inl (gC g, 28, .inl jf)), (mds, .inl (gC g, 19, .inl df))] H := hP
                            have hD : va_D A [(m0, .inr (8, [.ref mtt, .int tk9, .int sz9, .int pl9, .int (nI (wn st)), .ref mcd, .int (nI (sn st)), .ref mat, .ref msz, .ref mvl, .ref mcs, .ref mmm, .int ra, .int rd, .int nx9, .int dn, .ref mkn, .ref mjp, .ref mds])), (mtt, .inl (gI g, 2000, .inl tf)), (mcd, .inl (gI g, 600, .inl cdf)), (mat, .inl (gI g, 40, .inl s1)), (msz, .inl (gI g, 40, .inl s2)), (mvl, .inl (gI g, 40, .inl s3)), (mcs, .inl (gI g, 600, .inl (upd csf ((nI (wn st))).toNatClampNeg (-1)))), (mkn, .inl (gC g, 32, .inl kf)), (mjp, .inl (gC g, 28, .inl jf)), (mds, .inl (gC g, 19, .inl df))] := hD
                            have eF : (upd csf ((nI (wn st))).toNatClampNeg (-1)) = (upd csf (wn st) (-1)) := by rw [nI_clamp (by omega)]
                            rw [eF] at hP hD
                            refine lv_aload_n hx hb d_Mod_computes_218 rfl (lv_at hl 7 rfl) ?_
                            refine va_get (D := g.1) (ci := 8) (v := .ref mcd) (C := "SignDeskModel") (T := F_Mod) (N := 19) hx hb hts in_Mod hown hK hP 0 rfl rfl 5 (by decide) (hts _ k_499) (fun _ h9 => h9) rfl d_Mod_computes_219 ?_
                            refine lv_aload_n hx hb d_Mod_computes_222 rfl (lv_at hl 7 rfl) ?_
                            refine va_get (D := g.1) (ci := 8) (v := .int (nI (wn st))) (C := "SignDeskModel") (T := F_Mod) (N := 19) hx hb hts in_Mod hown hK hP 0 rfl rfl 4 (by decide) (hts _ k_498) (fun _ h9 => h9) rfl d_Mod_computes_223 ?_
                            refine lv_ldc (v := nI 57344) hx hb hown (hts _ k_628) d_Mod_computes_226 ?_
                            refine lv_bipush (v := (nI 64)) hx hb d_Mod_computes_228 (by decide) ?_
                            refine lv_iload hx hb d_Mod_computes_230 (lv_at hl 1 rfl) ?_
                            refine lv_imul hx hb d_Mod_computes_232 ?_
                            refine sd_topi (y := nI ((lk (nmM tx a (a + s9)) sd_comp) - 1)) (hc1) ?_
                            refine lv_iadd hx hb d_Mod_computes_233 ?_
                            refine sd_topi (y := nI (57344 + ((lk (nmM tx a (a + s9)) sd_comp) - 1))) (nI_add _ _) ?_
                            refine lv_iload hx hb d_Mod_computes_234 (lv_at hl 2 rfl) ?_
                            refine lv_iadd hx hb d_Mod_computes_236 ?_
                            refine sd_topi (y := nI ((57344 + ((lk (nmM tx a (a + s9)) sd_comp) - 1)) + 0)) (nI_add _ _) ?_
                            refine lv_iload hx hb d_Mod_computes_237 (lv_at hl 0 rfl) ?_
                            refine lv_iadd hx hb d_Mod_computes_239 ?_
                            refine sd_topi (y := nI (((57344 + ((lk (nmM tx a (a + s9)) sd_comp) - 1)) + 0) + (lk (nmM tx (a + s9 + 1) (a + cn)) sd_jump))) (nI_add _ _) ?_
                            refine sd_topi (y := nI (57344 + ((lk (nmM tx a (a + s9)) sd_comp) - 1) + 8 * 0 + (lk (nmM tx (a + s9 + 1) (a + cn)) sd_jump))) (congrArg nI (by omega)) ?_
                            refine va_iast hx hb hK hP hD hS 2 1 rfl rfl (i := (nI (wn st))) (x := (nI (57344 + ((lk (nmM tx a (a + s9)) sd_comp) - 1) + 8 * 0 + (lk (nmM tx (a + s9 + 1) (a + cn)) sd_jump)))) (vp_in_nI (by omega) (by omega)) d_Mod_computes_240 (fun H locs hP hD hS => ?_)
                            have hP : sdP g [(m0, .inr (8, [.ref mtt, .int tk9, .int sz9, .int pl9, .int (nI (wn st)), .ref mcd, .int (nI (sn st)), .ref mat, .ref msz, .ref mvl, .ref mcs, .ref mmm, .int ra, .int rd, .int nx9, .int dn, .ref mkn, .ref mjp, .ref mds])), (mtt, .inl (gI g, 2000, .inl tf)), (mcd, .inl (gI g, 600, .inl (upd cdf ((nI (wn st))).toNatClampNeg (nI (57344 + ((lk (nmM tx a (a + s9)) sd_comp) - 1) + 8 * 0 + (lk (nmM tx (a + s9 + 1) (a + cn)) sd_jump)))))), (mat, .inl (gI g, 40, .inl s1)), (msz, .inl (gI g, 40, .inl s2)), (mvl, .inl (gI g, 40, .inl s3)), (mcs, .inl (gI g, 600, .inl (upd csf (wn st) (-1)))), (mkn, .inl (gC g, 32, .inl kf)), (mjp, .inl (gC g, 28, .inl jf)), (mds, .inl (gC g, 19, .inl df))] H := hP
                            have hD : va_D A [(m0, .inr (8, [.ref mtt, .int tk9, .int sz9, .int pl9, .int (nI (wn st)), .ref mcd, .int (nI (sn st)), .ref mat, .ref msz, .ref mvl, .ref mcs, .ref mmm, .int ra, .int rd, .int nx9, .int dn, .ref mkn, .ref mjp, .ref mds])), (mtt, .inl (gI g, 2000, .inl tf)), (mcd, .inl (gI g, 600, .inl (upd cdf ((nI (wn st))).toNatClampNeg (nI (57344 + ((lk (nmM tx a (a + s9)) sd_comp) - 1) + 8 * 0 + (lk (nmM tx (a + s9 + 1) (a + cn)) sd_jump)))))), (mat, .inl (gI g, 40, .inl s1)), (msz, .inl (gI g, 40, .inl s2)), (mvl, .inl (gI g, 40, .inl s3)), (mcs, .inl (gI g, 600, .inl (upd csf (wn st) (-1)))), (mkn, .inl (gC g, 32, .inl kf)), (mjp, .inl (gC g, 28, .inl jf)), (mds, .inl (gC g, 19, .inl df))] := hD
                            have eF : (upd cdf ((nI (wn st))).toNatClampNeg (nI (57344 + ((lk (nmM tx a (a + s9)) sd_comp) - 1) + 8 * 0 + (lk (nmM tx (a + s9 + 1) (a + cn)) sd_jump)))) = (upd cdf (wn st) (nI (57344 + ((lk (nmM tx a (a + s9)) sd_comp) - 1) + 8 * 0 + (lk (nmM tx (a + s9 + 1) (a + cn)) sd_jump)))) := by rw [nI_clamp (by omega)]
                            rw [eF] at hP hD
                            refine lv_aload_n hx hb d_Mod_computes_241 rfl (lv_at hl 7 rfl) ?_
                            refine lv_aload_n hx hb d_Mod_computes_242 rfl (lv_at hl 7 rfl) ?_
                            refine va_get (D := g.1) (ci := 8) (v := .int (nI (wn st))) (C := "SignDeskModel") (T := F_Mod) (N := 19) hx hb hts in_Mod hown hK hP 0 rfl rfl 4 (by decide) (hts _ k_498) (fun _ h9 => h9) rfl d_Mod_computes_243 ?_
                            refine lv_iconst (v := (nI 1)) hx hb d_Mod_computes_246 (by decide) ?_
                            refine lv_iadd hx hb d_Mod_computes_247 ?_
                            refine sd_topi (y := nI ((wn st) + 1)) (nI_add _ _) ?_
                            refine va_put (D := g.1) (ci := 8) (v := .int (nI ((wn st) + 1))) (ty := .int) (C := "SignDeskModel") (T := F_Mod) (N := 19) hx hb hts in_Mod t_Mod t_Mod_ok n_Mod hown hK hP hD hS 0 rfl rfl 4 (by decide) (hts _ k_498) (fun _ h9 => h9) rfl (by decide +kernel) rfl rfl (Nat.le_of_ble_eq_true rfl) d_Mod_computes_248 (fun H locs hP hD hS => ?_)
                            have hP : sdP g [(m0, .inr (8, [.ref mtt, .int tk9, .int sz9, .int pl9, .int (nI ((wn st) + 1)), .ref mcd, .int (nI (sn st)), .ref mat, .ref msz, .ref mvl, .ref mcs, .ref mmm, .int ra, .int rd, .int nx9, .int dn, .ref mkn, .ref mjp, .ref mds])), (mtt, .inl (gI g, 2000, .inl tf)), (mcd, .inl (gI g, 600, .inl (upd cdf (wn st) (nI (57344 + ((lk (nmM tx a (a + s9)) sd_comp) - 1) + 8 * 0 + (lk (nmM tx (a + s9 + 1) (a + cn)) sd_jump)))))), (mat, .inl (gI g, 40, .inl s1)), (msz, .inl (gI g, 40, .inl s2)), (mvl, .inl (gI g, 40, .inl s3)), (mcs, .inl (gI g, 600, .inl (upd csf (wn st) (-1)))), (mkn, .inl (gC g, 32, .inl kf)), (mjp, .inl (gC g, 28, .inl jf)), (mds, .inl (gC g, 19, .inl df))] H := hP
                            have hD : va_D A [(m0, .inr (8, [.ref mtt, .int tk9, .int sz9, .int pl9, .int (nI ((wn st) + 1)), .ref mcd, .int (nI (sn st)), .ref mat, .ref msz, .ref mvl, .ref mcs, .ref mmm, .int ra, .int rd, .int nx9, .int dn, .ref mkn, .ref mjp, .ref mds])), (mtt, .inl (gI g, 2000, .inl tf)), (mcd, .inl (gI g, 600, .inl (upd cdf (wn st) (nI (57344 + ((lk (nmM tx a (a + s9)) sd_comp) - 1) + 8 * 0 + (lk (nmM tx (a + s9 + 1) (a + cn)) sd_jump)))))), (mat, .inl (gI g, 40, .inl s1)), (msz, .inl (gI g, 40, .inl s2)), (mvl, .inl (gI g, 40, .inl s3)), (mcs, .inl (gI g, 600, .inl (upd csf (wn st) (-1)))), (mkn, .inl (gC g, 32, .inl kf)), (mjp, .inl (gC g, 28, .inl jf)), (mds, .inl (gC g, 19, .inl df))] := hD
                            refine lv_iconst (v := (nI 0)) hx hb d_Mod_computes_251 (by decide) ?_
                            have hP9 := hP.sub (ws' := [(m0, .inr (8, [.ref mtt, .int tk9, .int sz9, .int pl9, .int (nI ((wn st) + 1)), .ref mcd, .int (nI (sn st)), .ref mat, .ref msz, .ref mvl, .ref mcs, .ref mmm, .int ra, .int rd, .int nx9, .int dn, .ref mkn, .ref mjp, .ref mds])), (mtt, .inl (gI g, 2000, .inl tf)), (mcd, .inl (gI g, 600, .inl (upd cdf (wn st) (nI (57344 + ((lk (nmM tx a (a + s9)) sd_comp) - 1) + 8 * 0 + (lk (nmM tx (a + s9 + 1) (a + cn)) sd_jump)))))), (mat, .inl (gI g, 40, .inl s1)), (msz, .inl (gI g, 40, .inl s2)), (mvl, .inl (gI g, 40, .inl s3)), (mcs, .inl (gI g, 600, .inl (upd csf (wn st) (-1)))), (mkn, .inl (gC g, 32, .inl kf)), (mjp, .inl (gC g, 28, .inl jf)), (mds, .inl (gC g, 19, .inl df))]) [0, 1, 2, 3, 4, 5, 6, 7, 8, 9] rfl
                            have hD9 := hD.sub (ws' := [(m0, .inr (8, [.ref mtt, .int tk9, .int sz9, .int pl9, .int (nI ((wn st) + 1)), .ref mcd, .int (nI (sn st)), .ref mat, .ref msz, .ref mvl, .ref mcs, .ref mmm, .int ra, .int rd, .int nx9, .int dn, .ref mkn, .ref mjp, .ref mds])), (mtt, .inl (gI g, 2000, .inl tf)), (mcd, .inl (gI g, 600, .inl (upd cdf (wn st) (nI (57344 + ((lk (nmM tx a (a + s9)) sd_comp) - 1) + 8 * 0 + (lk (nmM tx (a + s9 + 1) (a + cn)) sd_jump)))))), (mat, .inl (gI g, 40, .inl s1)), (msz, .inl (gI g, 40, .inl s2)), (mvl, .inl (gI g, 40, .inl s3)), (mcs, .inl (gI g, 600, .inl (upd csf (wn st) (-1)))), (mkn, .inl (gC g, 32, .inl kf)), (mjp, .inl (gC g, 28, .inl jf)), (mds, .inl (gC g, 19, .inl df))]) [0, 1, 2, 3, 4, 5, 6, 7, 8, 9] (by decide) rfl
                            exact W.iret (v := (nI 0)) hx hb hr (fun t ht hW => ⟨⟨_, (pushW st (57344 + ((lk (nmM tx a (a + s9)) sd_comp) - 1) + 8 * 0 + (lk (nmM tx (a + s9 + 1) (a + cn)) sd_jump)) 0, upd cdf (wn st) (nI (57344 + ((lk (nmM tx a (a + s9)) sd_comp) - 1) + 8 * 0 + (lk (nmM tx (a + s9 + 1) (a + cn)) sd_jump))), upd csf (wn st) (-1), s1, s2, s3), rfl, ⟨⟨0, by rw [hG, if_neg hok, if_neg (by omega)], rfl⟩, MPR_push (y := 0) hMP (by omega), hSR, hSB⟩, by rw [ht]; exact hP9, by rw [hAe]; exact hD9⟩, hS.F ht⟩) hS.2.2 d_Mod_computes_252
                          · have c22 := (nI_eq (by omega) (by omega)).mp c22
                            refine lv_iconst (v := (nI 2)) hx hb d_Mod_computes_206 (by decide) ?_
                            have hP9 := hP.sub (ws' := [(m0, .inr (8, [.ref mtt, .int tk9, .int sz9, .int pl9, .int (nI (wn st)), .ref mcd, .int (nI (sn st)), .ref mat, .ref msz, .ref mvl, .ref mcs, .ref mmm, .int ra, .int rd, .int nx9, .int dn, .ref mkn, .ref mjp, .ref mds])), (mtt, .inl (gI g, 2000, .inl tf)), (mcd, .inl (gI g, 600, .inl cdf)), (mat, .inl (gI g, 40, .inl s1)), (msz, .inl (gI g, 40, .inl s2)), (mvl, .inl (gI g, 40, .inl s3)), (mcs, .inl (gI g, 600, .inl csf)), (mkn, .inl (gC g, 32, .inl kf)), (mjp, .inl (gC g, 28, .inl jf)), (mds, .inl (gC g, 19, .inl df))]) [0, 1, 2, 3, 4, 5, 6, 7, 8, 9] rfl
                            have hD9 := hD.sub (ws' := [(m0, .inr (8, [.ref mtt, .int tk9, .int sz9, .int pl9, .int (nI (wn st)), .ref mcd, .int (nI (sn st)), .ref mat, .ref msz, .ref mvl, .ref mcs, .ref mmm, .int ra, .int rd, .int nx9, .int dn, .ref mkn, .ref mjp, .ref mds])), (mtt, .inl (gI g, 2000, .inl tf)), (mcd, .inl (gI g, 600, .inl cdf)), (mat, .inl (gI g, 40, .inl s1)), (msz, .inl (gI g, 40, .inl s2)), (mvl, .inl (gI g, 40, .inl s3)), (mcs, .inl (gI g, 600, .inl csf)), (mkn, .inl (gC g, 32, .inl kf)), (mjp, .inl (gC g, 28, .inl jf)), (mds, .inl (gC g, 19, .inl df))]) [0, 1, 2, 3, 4, 5, 6, 7, 8, 9] (by decide) rfl
                            exact W.iret (v := (nI 2)) hx hb hr (fun t ht hW => ⟨⟨_, (st, cdf, csf, s1, s2, s3), rfl, ⟨⟨2, by rw [hG, if_neg hok, if_pos (by omega)], rfl⟩, hMP, hSR, hSB⟩, by rw [ht]; exact hP9, by rw [hAe]; exact hD9⟩, hS.F ht⟩) hS.2.2 d_Mod_computes_207
                        · have c21 := mt (nI_eq (by omega) (by omega)).mpr c21
                          exact absurd c21 (by omega)
              · exact absurd c15 (nI_m1 (by omega))
          · have c12 := mt (nI_leI (by omega) (by omega)).mpr c12
            exact absurd c12 (by omega)
        · exact absurd c11 (nI_m1 (by omega))
    · have hF1 := ocE_F1 (tx := tx) (a := a) hq2 hq3 hq4
      rcases hs with ⟨rfl, hs4⟩ | ⟨s9, rfl, hs2, hs3, hs4⟩
      · have hF2 := ocE_F0 (tx := tx) (a := a) hs4
        have hG := spOther_g (tx := tx) (st := st) (D := (lk (nmM tx a (a + q)) sd_dest)) (J := 0) (ca := (a + q + 1)) hF1 hF2 (if_pos (show a + q < a + cn by omega)).symm (if_pos (show a + q < a + cn by omega)).symm (if_neg (Nat.lt_irrefl (a + cn))).symm rfl
        have hDl : (lk (nmM tx a (a + q)) sd_dest) ≤ 7 := lk_le sd_dest_lt
        have hJl : 0 ≤ 7 := by decide
        have hCl : (lk (nmM tx (a + q + 1) (a + cn)) sd_comp) ≤ 8129 := lk_le sd_comp_lt
        refine lv_iload_n hx hb d_Mod_computes_66 rfl (lv_at hl 1 rfl) ?_
        refine lv_iconst (v := (nI 1)) hx hb d_Mod_computes_67 (by decide) ?_
        refine lv_iadd hx hb d_Mod_computes_68 ?_
        refine sd_topi (y := nI (q + 1)) (nI_add _ _) ?_
        refine lv_istore (lv' := [(5, .int (nI (q + 1))), (3, .int (nI q)), (4, .int (-1)), (0, .ref m0), (1, .int (nI a)), (2, .int (nI cn))]) hx hb d_Mod_computes_69 hl (by decide) rfl (fun ls hl => ?_)
        refine lv_iload hx hb d_Mod_computes_71 (lv_at hl 2 rfl) ?_
        refine lv_iconst (v := (-1)) hx hb d_Mod_computes_73 (by decide) ?_
        refine lv_icmp_ne (tgt := 81) hx hb d_Mod_computes_74 (by decide) (fun c23 => ?_) (fun c23 => ?_)
        · exact absurd rfl c23
        · refine lv_iload_n hx hb d_Mod_computes_77 rfl (lv_at hl 5 rfl) ?_
          refine lv_goto (tgt := 83) hx hb d_Mod_computes_78 (by decide) ?_
          refine lv_istore (lv' := [(6, .int (nI cn)), (5, .int (nI (q + 1))), (3, .int (nI q)), (4, .int (-1)), (0, .ref m0), (1, .int (nI a)), (2, .int (nI cn))]) hx hb d_Mod_computes_83 hl (by decide) rfl (fun ls hl => ?_)
          refine lv_iload hx hb d_Mod_computes_85 (lv_at hl 0 rfl) ?_
          refine lv_iload hx hb d_Mod_computes_87 (lv_at hl 1 rfl) ?_
          refine lv_icmp_ge (tgt := 94) hx hb d_Mod_computes_89 (by decide) (fun c24 => ?_) (fun c24 => ?_)
          · have c24 := (nI_leI (by omega) (by omega)).mp c24
            refine lv_iload_n hx hb d_Mod_computes_94 rfl (lv_at hl 2 rfl) ?_
            refine lv_iconst (v := (-1)) hx hb d_Mod_computes_95 (by decide) ?_
            refine lv_icmp_ne (tgt := 103) hx hb d_Mod_computes_96 (by decide) (fun c25 => ?_) (fun c25 => ?_)
            · refine lv_aload_n hx hb d_Mod_computes_103 rfl (lv_at hl 4 rfl) ?_
              refine lv_iload_n hx hb d_Mod_computes_104 rfl (lv_at hl 5 rfl) ?_
              refine lv_iload_n hx hb d_Mod_computes_105 rfl (lv_at hl 2 rfl) ?_
              refine sd_ri (va_runV (As := [.int (nI a), .int (nI q)]) (rest := []) ⟨hx, hb, hml, hown, hts⟩ (c_Mod_destOf l g m0 mtt mcd mat msz mvl mcs mmm mkn mjp mds tk9 sz9 pl9 (nI (wn st)) (nI (sn st)) ra rd nx9 dn df hRd n tf tx hT a q (by omega) (fun j h5 h6 => htk j (by omega) (by omega))) (cwV 2 hts (sd_gV k_620 k_622 k_19 k_30 k_623) rfl rfl rfl (by decide +kernel) ⟨Nat.le_of_ble_eq_true rfl, Nat.le_of_ble_eq_true rfl⟩) (sd_preV hK hE (sd_fr hS hA0) (hP.sub (ws' := [(m0, .inr (8, [.ref mtt, .int tk9, .int sz9, .int pl9, .int (nI (wn st)), .ref mcd, .int (nI (sn st)), .ref mat, .ref msz, .ref mvl, .ref mcs, .ref mmm, .int ra, .int rd, .int nx9, .int dn, .ref mkn, .ref mjp, .ref mds])), (mtt, .inl (gI g, 2000, .inl tf)), (mds, .inl (gC g, 19, .inl df))]) [0, 1, 9] rfl) rfl rfl) rfl rfl hl.1 rfl (lv_room (Nat.le_of_ble_eq_true rfl)) d_Mod_computes_106 ⟨Nat.zero_le _, Nat.zero_le _⟩) (fun r26 er26 => ?_)
              by_cases hD0 : (lk (nmM tx a (a + q)) sd_dest) = 0
              · obtain rfl := er26.1 hD0
                refine lv_istore (lv' := [(7, .int (-1)), (6, .int (nI cn)), (5, .int (nI (q + 1))), (3, .int (nI q)), (4, .int (-1)), (0, .ref m0), (1, .int (nI a)), (2, .int (nI cn))]) hx hb d_Mod_computes_109 hl (by decide) rfl (fun ls hl => ?_)
                refine lv_aload_n hx hb d_Mod_computes_111 rfl (lv_at hl 5 rfl) ?_
                refine lv_iload_n hx hb d_Mod_computes_112 rfl (lv_at hl 6 rfl) ?_
                refine lv_iload hx hb d_Mod_computes_113 (lv_at hl 2 rfl) ?_
                refine lv_iadd hx hb d_Mod_computes_115 ?_
                refine sd_topi (y := nI (a + (q + 1))) (nI_add _ _) ?_
                refine lv_iload hx hb d_Mod_computes_116 (lv_at hl 1 rfl) ?_
                refine lv_iload hx hb d_Mod_computes_118 (lv_at hl 2 rfl) ?_
                refine lv_isub hx hb d_Mod_computes_120 ?_
                refine sd_topi (y := nI (cn - (q + 1))) (pk_sub (by omega)) ?_
                refine sd_ri (va_runV (As := [.int (nI (a + (q + 1))), .int (nI (cn - (q + 1)))]) (rest := []) ⟨hx, hb, hml, hown, hts⟩ (c_Mod_compOf l g m0 mtt mcd mat msz mvl mcs mmm mkn mjp mds tk9 sz9 pl9 (nI (wn st)) (nI (sn st)) ra rd nx9 dn n tf tx hT (a + (q + 1)) (cn - (q + 1)) (by omega)) (cwV 2 hts (sd_gV k_624 k_626 k_20 k_30 k_627) rfl rfl rfl (by decide +kernel) ⟨Nat.le_of_ble_eq_true rfl, Nat.le_of_ble_eq_true rfl⟩) (sd_preV hK hE (sd_fr hS hA0) (hP.sub (ws' := [(m0, .inr (8, [.ref mtt, .int tk9, .int sz9, .int pl9, .int (nI (wn st)), .ref mcd, .int (nI (sn st)), .ref mat, .ref msz, .ref mvl, .ref mcs, .ref mmm, .int ra, .int rd, .int nx9, .int dn, .ref mkn, .ref mjp, .ref mds])), (mtt, .inl (gI g, 2000, .inl tf))]) [0, 1] rfl) rfl rfl) rfl rfl hl.1 rfl (lv_room (Nat.le_of_ble_eq_true rfl)) d_Mod_computes_121 ⟨Nat.zero_le _, Nat.zero_le _⟩) (fun r27 er27 => ?_)
                subst er27
                have hCV := cmpV_lk (tx := tx) (a := a + (q + 1)) (c := (cn - (q + 1)))
                rw [show a + (q + 1) + (cn - (q + 1)) = (a + cn) by omega] at hCV
                generalize hv8 : (cmpV (cn - (q + 1)) (if (cn - (q + 1)) ≤ 0 then 0 else tx (a + (q + 1))) (if (cn - (q + 1)) ≤ 1 then 0 else tx ((a + (q + 1)) + 1)) (if (cn - (q + 1)) ≤ 2 then 0 else tx ((a + (q + 1)) + 2))) = v8 at hCV ⊢
                have hC0 : (lk (nmM tx (a + q + 1) (a + cn)) sd_comp) = 0 → v8 = -1 := hCV.1
                have hC1 : ¬ (lk (nmM tx (a + q + 1) (a + cn)) sd_comp) = 0 → ¬ v8 = -1 ∧ nI 64 * v8 = nI ((lk (nmM tx (a + q + 1) (a + cn)) sd_comp) - 1) := hCV.2
                clear hCV
                refine lv_istore (lv' := [(8, .int v8), (7, .int (-1)), (6, .int (nI cn)), (5, .int (nI (q + 1))), (3, .int (nI q)), (4, .int (-1)), (0, .ref m0), (1, .int (nI a)), (2, .int (nI cn))]) hx hb d_Mod_computes_124 hl (by decide) rfl (fun ls hl => ?_)
                refine lv_iload hx hb d_Mod_computes_126 (lv_at hl 5 rfl) ?_
                refine lv_iconst (v := (-1)) hx hb d_Mod_computes_128 (by decide) ?_
                refine lv_icmp_ne (tgt := 136) hx hb d_Mod_computes_129 (by decide) (fun c28 => ?_) (fun c28 => ?_)
                · exact absurd rfl c28
                · refine lv_iconst (v := (nI 0)) hx hb d_Mod_computes_132 (by decide) ?_
                  refine lv_goto (tgt := 158) hx hb d_Mod_computes_133 (by decide) ?_
                  refine lv_istore (lv' := [(9, .int (nI 0)), (8, .int v8), (7, .int (-1)), (6, .int (nI cn)), (5, .int (nI (q + 1))), (3, .int (nI q)), (4, .int (-1)), (0, .ref m0), (1, .int (nI a)), (2, .int (nI cn))]) hx hb d_Mod_computes_158 hl (by decide) rfl (fun ls hl => ?_)
                  refine lv_iload hx hb d_Mod_computes_160 (lv_at hl 2 rfl) ?_
                  refine lv_iconst (v := (-1)) hx hb d_Mod_computes_162 (by decide) ?_
                  refine lv_icmp_eq (tgt := 194) hx hb d_Mod_computes_163 (by decide) (fun c29 => ?_) (fun c29 => ?_)
                  · refine lv_iconst (v := (nI 1)) hx hb d_Mod_computes_194 (by decide) ?_
                    have hP9 := hP.sub (ws' := [(m0, .inr (8, [.ref mtt, .int tk9, .int sz9, .int pl9, .int (nI (wn st)), .ref mcd, .int (nI (sn st)), .ref mat, .ref msz, .ref mvl, .ref mcs, .ref mmm, .int ra, .int rd, .int nx9, .int dn, .ref mkn, .ref mjp, .ref mds])), (mtt, .inl (gI g, 2000, .inl tf)), (mcd, .inl (gI g, 600, .inl cdf)), (mat, .inl (gI g, 40, .inl s1)), (msz, .inl (gI g, 40, .inl s2)), (mvl, .inl (gI g, 40, .inl s3)), (mcs, .inl (gI g, 600, .inl csf)), (mkn, .inl (gC g, 32, .inl kf)), (mjp, .inl (gC g, 28, .inl jf)), (mds, .inl (gC g, 19, .inl df))]) [0, 1, 2, 3, 4, 5, 6, 7, 8, 9] rfl
                    have hD9 := hD.sub (ws' := [(m0, .inr (8, [.ref mtt, .int tk9, .int sz9, .int pl9, .int (nI (wn st)), .ref mcd, .int (nI (sn st)), .ref mat, .ref msz, .ref mvl, .ref mcs, .ref mmm, .int ra, .int rd, .int nx9, .int dn, .ref mkn, .ref mjp, .ref mds])), (mtt, .inl (gI g, 2000, .inl tf)), (mcd, .inl (gI g, 600, .inl cdf)), (mat, .inl (gI g, 40, .inl s1)), (msz, .inl (gI g, 40, .inl s2)), (mvl, .inl (gI g, 40, .inl s3)), (mcs, .inl (gI g, 600, .inl csf)), (mkn, .inl (gC g, 32, .inl kf)), (mjp, .inl (gC g, 28, .inl jf)), (mds, .inl (gC g, 19, .inl df))]) [0, 1, 2, 3, 4, 5, 6, 7, 8, 9] (by decide) rfl
                    exact W.iret (v := (nI 1)) hx hb hr (fun t ht hW => ⟨⟨_, (st, cdf, csf, s1, s2, s3), rfl, ⟨⟨1, by rw [hG, if_pos (Or.inl ⟨by omega, hD0⟩)], rfl⟩, hMP, hSR, hSB⟩, by rw [ht]; exact hP9, by rw [hAe]; exact hD9⟩, hS.F ht⟩) hS.2.2 d_Mod_computes_195
                  · exact absurd rfl c29
              · obtain rfl := er26.2 hD0
                refine lv_istore (lv' := [(7, .int (nI (8 * (lk (nmM tx a (a + q)) sd_dest)))), (6, .int (nI cn)), (5, .int (nI (q + 1))), (3, .int (nI q)), (4, .int (-1)), (0, .ref m0), (1, .int (nI a)), (2, .int (nI cn))]) hx hb d_Mod_computes_109 hl (by decide) rfl (fun ls hl => ?_)
                refine lv_aload_n hx hb d_Mod_computes_111 rfl (lv_at hl 5 rfl) ?_
                refine lv_iload_n hx hb d_Mod_computes_112 rfl (lv_at hl 6 rfl) ?_
                refine lv_iload hx hb d_Mod_computes_113 (lv_at hl 2 rfl) ?_
                refine lv_iadd hx hb d_Mod_computes_115 ?_
                refine sd_topi (y := nI (a + (q + 1))) (nI_add _ _) ?_
                refine lv_iload hx hb d_Mod_computes_116 (lv_at hl 1 rfl) ?_
                refine lv_iload hx hb d_Mod_computes_118 (lv_at hl 2 rfl) ?_
                refine lv_isub hx hb d_Mod_computes_120 ?_
                refine sd_topi (y := nI (cn - (q + 1))) (pk_sub (by omega)) ?_
                refine sd_ri (va_runV (As := [.int (nI (a + (q + 1))), .int (nI (cn - (q + 1)))]) (rest := []) ⟨hx, hb, hml, hown, hts⟩ (c_Mod_compOf l g m0 mtt mcd mat msz mvl mcs mmm mkn mjp mds tk9 sz9 pl9 (nI (wn st)) (nI (sn st)) ra rd nx9 dn n tf tx hT (a + (q + 1)) (cn - (q + 1)) (by omega)) (cwV 2 hts (sd_gV k_624 k_626 k_20 k_30 k_627) rfl rfl rfl (by decide +kernel) ⟨Nat.le_of_ble_eq_true rfl, Nat.le_of_ble_eq_true rfl⟩) (sd_preV hK hE (sd_fr hS hA0) (hP.sub (ws' := [(m0, .inr (8, [.ref mtt, .int tk9, .int sz9, .int pl9, .int (nI (wn st)), .ref mcd, .int (nI (sn st)), .ref mat, .ref msz, .ref mvl, .ref mcs, .ref mmm, .int ra, .int rd, .int nx9, .int dn, .ref mkn, .ref mjp, .ref mds])), (mtt, .inl (gI g, 2000, .inl tf))]) [0, 1] rfl) rfl rfl) rfl rfl hl.1 rfl (lv_room (Nat.le_of_ble_eq_true rfl)) d_Mod_computes_121 ⟨Nat.zero_le _, Nat.zero_le _⟩) (fun r30 er30 => ?_)
                subst er30
                have hCV := cmpV_lk (tx := tx) (a := a + (q + 1)) (c := (cn - (q + 1)))
                rw [show a + (q + 1) + (cn - (q + 1)) = (a + cn) by omega] at hCV
                generalize hv8 : (cmpV (cn - (q + 1)) (if (cn - (q + 1)) ≤ 0 then 0 else tx (a + (q + 1))) (if (cn - (q + 1)) ≤ 1 then 0 else tx ((a + (q + 1)) + 1)) (if (cn - (q + 1)) ≤ 2 then 0 else tx ((a + (q + 1)) + 2))) = v8 at hCV ⊢
                have hC0 : (lk (nmM tx (a + q + 1) (a + cn)) sd_comp) = 0 → v8 = -1 := hCV.1
                have hC1 : ¬ (lk (nmM tx (a + q + 1) (a + cn)) sd_comp) = 0 → ¬ v8 = -1 ∧ nI 64 * v8 = nI ((lk (nmM tx (a + q + 1) (a + cn)) sd_comp) - 1) := hCV.2
                clear hCV
                refine lv_istore (lv' := [(8, .int v8), (7, .int (nI (8 * (lk (nmM tx a (a + q)) sd_dest)))), (6, .int (nI cn)), (5, .int (nI (q + 1))), (3, .int (nI q)), (4, .int (-1)), (0, .ref m0), (1, .int (nI a)), (2, .int (nI cn))]) hx hb d_Mod_computes_124 hl (by decide) rfl (fun ls hl => ?_)
                refine lv_iload hx hb d_Mod_computes_126 (lv_at hl 5 rfl) ?_
                refine lv_iconst (v := (-1)) hx hb d_Mod_computes_128 (by decide) ?_
                refine lv_icmp_ne (tgt := 136) hx hb d_Mod_computes_129 (by decide) (fun c31 => ?_) (fun c31 => ?_)
                · exact absurd rfl c31
                · refine lv_iconst (v := (nI 0)) hx hb d_Mod_computes_132 (by decide) ?_
                  refine lv_goto (tgt := 158) hx hb d_Mod_computes_133 (by decide) ?_
                  refine lv_istore (lv' := [(9, .int (nI 0)), (8, .int v8), (7, .int (nI (8 * (lk (nmM tx a (a + q)) sd_dest)))), (6, .int (nI cn)), (5, .int (nI (q + 1))), (3, .int (nI q)), (4, .int (-1)), (0, .ref m0), (1, .int (nI a)), (2, .int (nI cn))]) hx hb d_Mod_computes_158 hl (by decide) rfl (fun ls hl => ?_)
                  refine lv_iload hx hb d_Mod_computes_160 (lv_at hl 2 rfl) ?_
                  refine lv_iconst (v := (-1)) hx hb d_Mod_computes_162 (by decide) ?_
                  refine lv_icmp_eq (tgt := 194) hx hb d_Mod_computes_163 (by decide) (fun c32 => ?_) (fun c32 => ?_)
                  · exact absurd c32 (nI_m1 (by omega))
                  · refine lv_iload hx hb d_Mod_computes_166 (lv_at hl 1 rfl) ?_
                    refine lv_iconst (v := (-1)) hx hb d_Mod_computes_168 (by decide) ?_
                    refine lv_icmp_eq (tgt := 194) hx hb d_Mod_computes_169 (by decide) (fun c33 => ?_) (fun c33 => ?_)
                    · refine lv_iconst (v := (nI 1)) hx hb d_Mod_computes_194 (by decide) ?_
                      have hP9 := hP.sub (ws' := [(m0, .inr (8, [.ref mtt, .int tk9, .int sz9, .int pl9, .int (nI (wn st)), .ref mcd, .int (nI (sn st)), .ref mat, .ref msz, .ref mvl, .ref mcs, .ref mmm, .int ra, .int rd, .int nx9, .int dn, .ref mkn, .ref mjp, .ref mds])), (mtt, .inl (gI g, 2000, .inl tf)), (mcd, .inl (gI g, 600, .inl cdf)), (mat, .inl (gI g, 40, .inl s1)), (msz, .inl (gI g, 40, .inl s2)), (mvl, .inl (gI g, 40, .inl s3)), (mcs, .inl (gI g, 600, .inl csf)), (mkn, .inl (gC g, 32, .inl kf)), (mjp, .inl (gC g, 28, .inl jf)), (mds, .inl (gC g, 19, .inl df))]) [0, 1, 2, 3, 4, 5, 6, 7, 8, 9] rfl
                      have hD9 := hD.sub (ws' := [(m0, .inr (8, [.ref mtt, .int tk9, .int sz9, .int pl9, .int (nI (wn st)), .ref mcd, .int (nI (sn st)), .ref mat, .ref msz, .ref mvl, .ref mcs, .ref mmm, .int ra, .int rd, .int nx9, .int dn, .ref mkn, .ref mjp, .ref mds])), (mtt, .inl (gI g, 2000, .inl tf)), (mcd, .inl (gI g, 600, .inl cdf)), (mat, .inl (gI g, 40, .inl s1)), (msz, .inl (gI g, 40, .inl s2)), (mvl, .inl (gI g, 40, .inl s3)), (mcs, .inl (gI g, 600, .inl csf)), (mkn, .inl (gC g, 32, .inl kf)), (mjp, .inl (gC g, 28, .inl jf)), (mds, .inl (gC g, 19, .inl df))]) [0, 1, 2, 3, 4, 5, 6, 7, 8, 9] (by decide) rfl
                      exact W.iret (v := (nI 1)) hx hb hr (fun t ht hW => ⟨⟨_, (st, cdf, csf, s1, s2, s3), rfl, ⟨⟨1, by rw [hG, if_pos (Or.inr (Or.inr (Classical.byContradiction fun q9 => (hC1 q9).1 c33)))], rfl⟩, hMP, hSR, hSB⟩, by rw [ht]; exact hP9, by rw [hAe]; exact hD9⟩, hS.F ht⟩) hS.2.2 d_Mod_computes_195
                    · have hc0 : ¬ (lk (nmM tx (a + q + 1) (a + cn)) sd_comp) = 0 := fun q9 => c33 (hC0 q9)
                      have hc1 := (hC1 hc0).2
                      refine lv_iload hx hb d_Mod_computes_172 (lv_at hl 6 rfl) ?_
                      refine lv_iconst (v := (-1)) hx hb d_Mod_computes_174 (by decide) ?_
                      refine lv_icmp_eq (tgt := 196) hx hb d_Mod_computes_175 (by decide) (fun c34 => ?_) (fun c34 => ?_)
                      · have hok : ¬ (((a + q) < a + cn ∧ (lk (nmM tx a (a + q)) sd_dest) = 0) ∨ ((a + cn) < a + cn ∧ 0 = 0) ∨ (lk (nmM tx (a + q + 1) (a + cn)) sd_comp) = 0) := by
                          rintro (h | h | h)
                          · exact hD0 h.2
                          · exact absurd h.1 (Nat.lt_irrefl _)
                          · exact hc0 h
                        refine lv_aload_n hx hb d_Mod_computes_196 rfl (lv_at hl 7 rfl) ?_
                        refine va_get (D := g.1) (ci := 8) (v := .int (nI (wn st))) (C := "SignDeskModel") (T := F_Mod) (N := 19) hx hb hts in_Mod hown hK hP 0 rfl rfl 4 (by decide) (hts _ k_498) (fun _ h9 => h9) rfl d_Mod_computes_197 ?_
                        refine lv_sipush (v := (nI 600)) hx hb d_Mod_computes_200 (by decide) ?_
                        refine lv_icmp_ne (tgt := 208) hx hb d_Mod_computes_203 (by decide) (fun c35 => ?_) (fun c35 => ?_)
                        · have c35 := mt (nI_eq (by omega) (by omega)).mpr c35
                          refine lv_aload_n hx hb d_Mod_computes_208 rfl (lv_at hl 7 rfl) ?_
                          refine va_get (D := g.1) (ci := 8) (v := .ref mcs) (C := "SignDeskModel") (T := F_Mod) (N := 19) hx hb hts in_Mod hown hK hP 0 rfl rfl 10 (by decide) (hts _ k_504) (fun _ h9 => h9) rfl d_Mod_computes_209 ?_
                          refine lv_aload_n hx hb d_Mod_computes_212 rfl (lv_at hl 7 rfl) ?_
                          refine va_get (D := g.1) (ci := 8) (v := .int (nI (wn st))) (C := "SignDeskModel") (T := F_Mod) (N := 19) hx hb hts in_Mod hown hK hP 0 rfl rfl 4 (by decide) (hts _ k_498) (fun _ h9 => h9) rfl d_Mod_computes_213 ?_
                          refine lv_iconst (v := (-1)) hx hb d_Mod_computes_216 (by decide) ?_
                          refine va_iast hx hb hK hP hD hS 6 1 rfl rfl (i := (nI (wn st))) (x := (-1)) (vp_in_nI (by omega) (by omega)) d_Mod_computes_217 (fun H locs hP hD hS => ?_)
                          have hP : sdP g [(m0, .inr (8, [.ref mtt, .int tk9, .int sz9, .int pl9, .int (nI (wn st)), .ref mcd, .int (nI (sn st)), .ref mat, .ref msz, .ref mvl, .ref mcs, .ref mmm, .int ra, .int rd, .int nx9, .int dn, .ref mkn, .ref mjp, .ref mds])), (mtt, .inl (gI g, 2000, .inl tf)), (mcd, .inl (gI g, 600, .inl cdf)), (mat, .inl (gI g, 40, .inl s1)), (msz, .inl (gI g, 40, .inl s2)), (mvl, .inl (gI g, 40, .inl s3)), (mcs, .inl (gI g, 600, .inl (upd csf ((nI (wn st))).toNatClampNeg (-1)))), (mkn, .inl (gC g, 32, .inl kf)), (mjp, .inl (gC g, 28, .inl jf)), (mds, .inl (gC g, 19, .inl df))] H := hP
                          have hD : va_D A [(m0, .inr (8, [.ref mtt, .int tk9, .int sz9, .int pl9, .int (nI (wn st)), .ref mcd, .int (nI (sn st)), .ref mat, .ref msz, .ref mvl, .ref mcs, .ref mmm, .int ra, .int rd, .int nx9, .int dn, .ref mkn, .ref mjp, .ref mds])), (mtt, .inl (gI g, 2000, .inl tf)), (mcd, .inl (gI g, 600, .inl cdf)), (mat, .inl (gI g, 40, .inl s1)), (msz, .inl (gI g, 40, .inl s2)), (mvl, .inl (gI g, 40, .inl s3)), (mcs, .inl (gI g, 600, .inl (upd csf ((nI (wn st))).toNatClampNeg (-1)))), (mkn, .inl (gC g, 32, .inl kf)), (mjp, .inl (gC g, 28, .inl jf)), (mds, .inl (gC g, 19, .inl df))] := hD
                          have eF : (upd csf ((nI (wn st))).toNatClampNeg (-1)) = (upd csf (wn st) (-1)) := by rw [nI_clamp (by omega)]
                          rw [eF] at hP hD
                          refine lv_aload_n hx hb d_Mod_computes_218 rfl (lv_at hl 7 rfl) ?_
                          refine va_get (D := g.1) (ci := 8) (v := .ref mcd) (C := "SignDeskModel") (T := F_Mod) (N := 19) hx hb hts in_Mod hown hK hP 0 rfl rfl 5 (by decide) (hts _ k_499) (fun _ h9 => h9) rfl d_Mod_computes_219 ?_
                          refine lv_aload_n hx hb d_Mod_computes_222 rfl (lv_at hl 7 rfl) ?_
                          refine va_get (D := g.1) (ci := 8) (v := .int (nI (wn st))) (C := "SignDeskModel") (T := F_Mod) (N := 19) hx hb hts in_Mod hown hK hP 0 rfl rfl 4 (by decide) (hts _ k_498) (fun _ h9 => h9) rfl d_Mod_computes_223 ?_
                          refine lv_ldc (v := nI 57344) hx hb hown (hts _ k_628) d_Mod_computes_226 ?_
                          refine lv_bipush (v := (nI 64)) hx hb d_Mod_computes_228 (by decide) ?_
                          refine lv_iload hx hb d_Mod_computes_230 (lv_at hl 1 rfl) ?_
                          refine lv_imul hx hb d_Mod_computes_232 ?_
                          refine sd_topi (y := nI ((lk (nmM tx (a + q + 1) (a + cn)) sd_comp) - 1)) (hc1) ?_
                          refine lv_iadd hx hb d_Mod_computes_233 ?_
                          refine sd_topi (y := nI (57344 + ((lk (nmM tx (a + q + 1) (a + cn)) sd_comp) - 1))) (nI_add _ _) ?_
                          refine lv_iload hx hb d_Mod_computes_234 (lv_at hl 2 rfl) ?_
                          refine lv_iadd hx hb d_Mod_computes_236 ?_
                          refine sd_topi (y := nI ((57344 + ((lk (nmM tx (a + q + 1) (a + cn)) sd_comp) - 1)) + (8 * (lk (nmM tx a (a + q)) sd_dest)))) (nI_add _ _) ?_
                          refine lv_iload hx hb d_Mod_computes_237 (lv_at hl 0 rfl) ?_
                          refine lv_iadd hx hb d_Mod_computes_239 ?_
                          refine sd_topi (y := nI (((57344 + ((lk (nmM tx (a + q + 1) (a + cn)) sd_comp) - 1)) + (8 * (lk (nmM tx a (a + q)) sd_dest))) + 0)) (nI_add _ _) ?_
                          refine sd_topi (y := nI (57344 + ((lk (nmM tx (a + q + 1) (a + cn)) sd_comp) - 1) + 8 * (lk (nmM tx a (a + q)) sd_dest) + 0)) (congrArg nI (by omega)) ?_
                          refine va_iast hx hb hK hP hD hS 2 1 rfl rfl (i := (nI (wn st))) (x := (nI (57344 + ((lk (nmM tx (a + q + 1) (a + cn)) sd_comp) - 1) + 8 * (lk (nmM tx a (a + q)) sd_dest) + 0))) (vp_in_nI (by omega) (by omega)) d_Mod_computes_240 (fun H locs hP hD hS => ?_)
                          have hP : sdP g [(m0, .inr (8, [.ref mtt, .int tk9, .int sz9, .int pl9, .int (nI (wn st)), .ref mcd, .int (nI (sn st)), .ref mat, .ref msz, .ref mvl, .ref mcs, .ref mmm, .int ra, .int rd, .int nx9, .int dn, .ref mkn, .ref mjp, .ref mds])), (mtt, .inl (gI g, 2000, .inl tf)), (mcd, .inl (gI g, 600, .inl (upd cdf ((nI (wn st))).toNatClampNeg (nI (57344 + ((lk (nmM tx (a + q + 1) (a + cn)) sd_comp) - 1) + 8 * (lk (nmM tx a (a + q)) sd_dest) + 0))))), (mat, .inl (gI g, 40, .inl s1)), (msz, .inl (gI g, 40, .inl s2)), (mvl, .inl (gI g, 40, .inl s3)), (mcs, .inl (gI g, 600, .inl (upd csf (wn st) (-1)))), (mkn, .inl (gC g, 32, .inl kf)), (mjp, .inl (gC g, 28, .inl jf)), (mds, .inl (gC g, 19, .inl df))] H := hP
                          have hD : va_D A [(m0, .inr (8, [.ref mtt, .int tk9, .int sz9, .int pl9, .int (nI (wn st)), .ref mcd, .int (nI (sn st)), .ref mat, .ref msz, .ref mvl, .ref mcs, .ref mmm, .int ra, .int rd, .int nx9, .int dn, .ref mkn, .ref mjp, .ref mds])), (mtt, .inl (gI g, 2000, .inl tf)), (mcd, .inl (gI g, 600, .inl (upd cdf ((nI (wn st))).toNatClampNeg (nI (57344 + ((lk (nmM tx (a + q + 1) (a + cn)) sd_comp) - 1) + 8 * (lk (nmM tx a (a + q)) sd_dest) + 0))))), (mat, .inl (gI g, 40, .inl s1)), (msz, .inl (gI g, 40, .inl s2)), (mvl, .inl (gI g, 40, .inl s3)), (mcs, .inl (gI g, 600, .inl (upd csf (wn st) (-1)))), (mkn, .inl (gC g, 32, .inl kf)), (mjp, .inl (gC g, 28, .inl jf)), (mds, .inl (gC g, 19, .inl df))] := hD
                          have eF : (upd cdf ((nI (wn st))).toNatClampNeg (nI (57344 + ((lk (nmM tx (a + q + 1) (a + cn)) sd_comp) - 1) + 8 * (lk (nmM tx a (a + q)) sd_dest) + 0))) = (upd cdf (wn st) (nI (57344 + ((lk (nmM tx (a + q + 1) (a + cn)) sd_comp) - 1) + 8 * (lk (nmM tx a (a + q)) sd_dest) + 0))) := by rw [nI_clamp (by omega)]
                          rw [eF] at hP hD
                          refine lv_aload_n hx hb d_Mod_computes_241 rfl (lv_at hl 7 rfl) ?_
                          refine lv_aload_n hx hb d_Mod_computes_242 rfl (lv_at hl 7 rfl) ?_
                          refine va_get (D := g.1) (ci := 8) (v := .int (nI (wn st))) (C := "SignDeskModel") (T := F_Mod) (N := 19) hx hb hts in_Mod hown hK hP 0 rfl rfl 4 (by decide) (hts _ k_498) (fun _ h9 => h9) rfl d_Mod_computes_243 ?_
                          refine lv_iconst (v := (nI 1)) hx hb d_Mod_computes_246 (by decide) ?_
                          refine lv_iadd hx hb d_Mod_computes_247 ?_
                          refine sd_topi (y := nI ((wn st) + 1)) (nI_add _ _) ?_
                          refine va_put (D := g.1) (ci := 8) (v := .int (nI ((wn st) + 1))) (ty := .int) (C := "SignDeskModel") (T := F_Mod) (N := 19) hx hb hts in_Mod t_Mod t_Mod_ok n_Mod hown hK hP hD hS 0 rfl rfl 4 (by decide) (hts _ k_498) (fun _ h9 => h9) rfl (by decide +kernel) rfl rfl (Nat.le_of_ble_eq_true rfl) d_Mod_computes_248 (fun H locs hP hD hS => ?_)
                          have hP : sdP g [(m0, .inr (8, [.ref mtt, .int tk9, .int sz9, .int pl9, .int (nI ((wn st) + 1)), .ref mcd, .int (nI (sn st)), .ref mat, .ref msz, .ref mvl, .ref mcs, .ref mmm, .int ra, .int rd, .int nx9, .int dn, .ref mkn, .ref mjp, .ref mds])), (mtt, .inl (gI g, 2000, .inl tf)), (mcd, .inl (gI g, 600, .inl (upd cdf (wn st) (nI (57344 + ((lk (nmM tx (a + q + 1) (a + cn)) sd_comp) - 1) + 8 * (lk (nmM tx a (a + q)) sd_dest) + 0))))), (mat, .inl (gI g, 40, .inl s1)), (msz, .inl (gI g, 40, .inl s2)), (mvl, .inl (gI g, 40, .inl s3)), (mcs, .inl (gI g, 600, .inl (upd csf (wn st) (-1)))), (mkn, .inl (gC g, 32, .inl kf)), (mjp, .inl (gC g, 28, .inl jf)), (mds, .inl (gC g, 19, .inl df))] H := hP
                          have hD : va_D A [(m0, .inr (8, [.ref mtt, .int tk9, .int sz9, .int pl9, .int (nI ((wn st) + 1)), .ref mcd, .int (nI (sn st)), .ref mat, .ref msz, .ref mvl, .ref mcs, .ref mmm, .int ra, .int rd, .int nx9, .int dn, .ref mkn, .ref mjp, .ref mds])), (mtt, .inl (gI g, 2000, .inl tf)), (mcd, .inl (gI g, 600, .inl (upd cdf (wn st) (nI (57344 + ((lk (nmM tx (a + q + 1) (a + cn)) sd_comp) - 1) + 8 * (lk (nmM tx a (a + q)) sd_dest) + 0))))), (mat, .inl (gI g, 40, .inl s1)), (msz, .inl (gI g, 40, .inl s2)), (mvl, .inl (gI g, 40, .inl s3)), (mcs, .inl (gI g, 600, .inl (upd csf (wn st) (-1)))), (mkn, .inl (gC g, 32, .inl kf)), (mjp, .inl (gC g, 28, .inl jf)), (mds, .inl (gC g, 19, .inl df))] := hD
                          refine lv_iconst (v := (nI 0)) hx hb d_Mod_computes_251 (by decide) ?_
                          have hP9 := hP.sub (ws' := [(m0, .inr (8, [.ref mtt, .int tk9, .int sz9, .int pl9, .int (nI ((wn st) + 1)), .ref mcd, .int (nI (sn st)), .ref mat, .ref msz, .ref mvl, .ref mcs, .ref mmm, .int ra, .int rd, .int nx9, .int dn, .ref mkn, .ref mjp, .ref mds])), (mtt, .inl (gI g, 2000, .inl tf)), (mcd, .inl (gI g, 600, .inl (upd cdf (wn st) (nI (57344 + ((lk (nmM tx (a + q + 1) (a + cn)) sd_comp) - 1) + 8 * (lk (nmM tx a (a + q)) sd_dest) + 0))))), (mat, .inl (gI g, 40, .inl s1)), (msz, .inl (gI g, 40, .inl s2)), (mvl, .inl (gI g, 40, .inl s3)), (mcs, .inl (gI g, 600, .inl (upd csf (wn st) (-1)))), (mkn, .inl (gC g, 32, .inl kf)), (mjp, .inl (gC g, 28, .inl jf)), (mds, .inl (gC g, 19, .inl df))]) [0, 1, 2, 3, 4, 5, 6, 7, 8, 9] rfl
                          have hD9 := hD.sub (ws' := [(m0, .inr (8, [.ref mtt, .int tk9, .int sz9, .int pl9, .int (nI ((wn st) + 1)), .ref mcd, .int (nI (sn st)), .ref mat, .ref msz, .ref mvl, .ref mcs, .ref mmm, .int ra, .int rd, .int nx9, .int dn, .ref mkn, .ref mjp, .ref mds])), (mtt, .inl (gI g, 2000, .inl tf)), (mcd, .inl (gI g, 600, .inl (upd cdf (wn st) (nI (57344 + ((lk (nmM tx (a + q + 1) (a + cn)) sd_comp) - 1) + 8 * (lk (nmM tx a (a + q)) sd_dest) + 0))))), (mat, .inl (gI g, 40, .inl s1)), (msz, .inl (gI g, 40, .inl s2)), (mvl, .inl (gI g, 40, .inl s3)), (mcs, .inl (gI g, 600, .inl (upd csf (wn st) (-1)))), (mkn, .inl (gC g, 32, .inl kf)), (mjp, .inl (gC g, 28, .inl jf)), (mds, .inl (gC g, 19, .inl df))]) [0, 1, 2, 3, 4, 5, 6, 7, 8, 9] (by decide) rfl
                          exact W.iret (v := (nI 0)) hx hb hr (fun t ht hW => ⟨⟨_, (pushW st (57344 + ((lk (nmM tx (a + q + 1) (a + cn)) sd_comp) - 1) + 8 * (lk (nmM tx a (a + q)) sd_dest) + 0) 0, upd cdf (wn st) (nI (57344 + ((lk (nmM tx (a + q + 1) (a + cn)) sd_comp) - 1) + 8 * (lk (nmM tx a (a + q)) sd_dest) + 0)), upd csf (wn st) (-1), s1, s2, s3), rfl, ⟨⟨0, by rw [hG, if_neg hok, if_neg (by omega)], rfl⟩, MPR_push (y := 0) hMP (by omega), hSR, hSB⟩, by rw [ht]; exact hP9, by rw [hAe]; exact hD9⟩, hS.F ht⟩) hS.2.2 d_Mod_computes_252
                        · have c35 := (nI_eq (by omega) (by omega)).mp c35
                          refine lv_iconst (v := (nI 2)) hx hb d_Mod_computes_206 (by decide) ?_
                          have hP9 := hP.sub (ws' := [(m0, .inr (8, [.ref mtt, .int tk9, .int sz9, .int pl9, .int (nI (wn st)), .ref mcd, .int (nI (sn st)), .ref mat, .ref msz, .ref mvl, .ref mcs, .ref mmm, .int ra, .int rd, .int nx9, .int dn, .ref mkn, .ref mjp, .ref mds])), (mtt, .inl (gI g, 2000, .inl tf)), (mcd, .inl (gI g, 600, .inl cdf)), (mat, .inl (gI g, 40, .inl s1)), (msz, .inl (gI g, 40, .inl s2)), (mvl, .inl (gI g, 40, .inl s3)), (mcs, .inl (gI g, 600, .inl csf)), (mkn, .inl (gC g, 32, .inl kf)), (mjp, .inl (gC g, 28, .inl jf)), (mds, .inl (gC g, 19, .inl df))]) [0, 1, 2, 3, 4, 5, 6, 7, 8, 9] rfl
                          have hD9 := hD.sub (ws' := [(m0, .inr (8, [.ref mtt, .int tk9, .int sz9, .int pl9, .int (nI (wn st)), .ref mcd, .int (nI (sn st)), .ref mat, .ref msz, .ref mvl, .ref mcs, .ref mmm, .int ra, .int rd, .int nx9, .int dn, .ref mkn, .ref mjp, .ref mds])), (mtt, .inl (gI g, 2000, .inl tf)), (mcd, .inl (gI g, 600, .inl cdf)), (mat, .inl (gI g, 40, .inl s1)), (msz, .inl (gI g, 40, .inl s2)), (mvl, .inl (gI g, 40, .inl s3)), (mcs, .inl (gI g, 600, .inl csf)), (mkn, .inl (gC g, 32, .inl kf)), (mjp, .inl (gC g, 28, .inl jf)), (mds, .inl (gC g, 19, .inl df))]) [0, 1, 2, 3, 4, 5, 6, 7, 8, 9] (by decide) rfl
                          exact W.iret (v := (nI 2)) hx hb hr (fun t ht hW => ⟨⟨_, (st, cdf, csf, s1, s2, s3), rfl, ⟨⟨2, by rw [hG, if_neg hok, if_pos (by omega)], rfl⟩, hMP, hSR, hSB⟩, by rw [ht]; exact hP9, by rw [hAe]; exact hD9⟩, hS.F ht⟩) hS.2.2 d_Mod_computes_207
                      · exact absurd rfl c34
            · exact absurd c25 (nI_m1 (by omega))
          · have c24 := mt (nI_leI (by omega) (by omega)).mpr c24
            exact absurd c24 (by omega)
      · have hF2 := ocE_F1 (tx := tx) (a := a) hs2 hs3 hs4
        have hG := spOther_g (tx := tx) (st := st) (D := (lk (nmM tx a (a + q)) sd_dest)) (J := (lk (nmM tx (a + s9 + 1) (a + cn)) sd_jump)) (ca := (a + q + 1)) hF1 hF2 (if_pos (show a + q < a + cn by omega)).symm (if_pos (show a + q < a + cn by omega)).symm (if_pos (show a + s9 < a + cn by omega)).symm rfl
        have hDl : (lk (nmM tx a (a + q)) sd_dest) ≤ 7 := lk_le sd_dest_lt
        have hJl : (lk (nmM tx (a + s9 + 1) (a + cn)) sd_jump) ≤ 7 := lk_le sd_jump_lt
        have hCl : (lk (nmM tx (a + q + 1) (a + s9)) sd_comp) ≤ 8129 := lk_le sd_comp_lt
        refine lv_iload_n hx hb d_Mod_computes_66 rfl (lv_at hl 1 rfl) ?_
        refine lv_iconst (v := (nI 1)) hx hb d_Mod_computes_67 (by decide) ?_
        refine lv_iadd hx hb d_Mod_computes_68 ?_
        refine sd_topi (y := nI (q + 1)) (nI_add _ _) ?_
        refine lv_istore (lv' := [(5, .int (nI (q + 1))), (3, .int (nI q)), (4, .int (nI s9)), (0, .ref m0), (1, .int (nI a)), (2, .int (nI cn))]) hx hb d_Mod_computes_69 hl (by decide) rfl (fun ls hl => ?_)
        refine lv_iload hx hb d_Mod_computes_71 (lv_at hl 2 rfl) ?_
        refine lv_iconst (v := (-1)) hx hb d_Mod_computes_73 (by decide) ?_
        refine lv_icmp_ne (tgt := 81) hx hb d_Mod_computes_74 (by decide) (fun c36 => ?_) (fun c36 => ?_)
        · refine lv_iload hx hb d_Mod_computes_81 (lv_at hl 2 rfl) ?_
          refine lv_istore (lv' := [(6, .int (nI s9)), (5, .int (nI (q + 1))), (3, .int (nI q)), (4, .int (nI s9)), (0, .ref m0), (1, .int (nI a)), (2, .int (nI cn))]) hx hb d_Mod_computes_83 hl (by decide) rfl (fun ls hl => ?_)
          refine lv_iload hx hb d_Mod_computes_85 (lv_at hl 0 rfl) ?_
          refine lv_iload hx hb d_Mod_computes_87 (lv_at hl 1 rfl) ?_
          refine lv_icmp_ge (tgt := 94) hx hb d_Mod_computes_89 (by decide) (fun c37 => ?_) (fun c37 => ?_)
          · have c37 := (nI_leI (by omega) (by omega)).mp c37
            have hle : q + 1 ≤ s9 := by omega
            refine lv_iload_n hx hb d_Mod_computes_94 rfl (lv_at hl 2 rfl) ?_
            refine lv_iconst (v := (-1)) hx hb d_Mod_computes_95 (by decide) ?_
            refine lv_icmp_ne (tgt := 103) hx hb d_Mod_computes_96 (by decide) (fun c38 => ?_) (fun c38 => ?_)
            · refine lv_aload_n hx hb d_Mod_computes_103 rfl (lv_at hl 4 rfl) ?_
              refine lv_iload_n hx hb d_Mod_computes_104 rfl (lv_at hl 5 rfl) ?_
              refine lv_iload_n hx hb d_Mod_computes_105 rfl (lv_at hl 2 rfl) ?_
              refine sd_ri (va_runV (As := [.int (nI a), .int (nI q)]) (rest := []) ⟨hx, hb, hml, hown, hts⟩ (c_Mod_destOf l g m0 mtt mcd mat msz mvl mcs mmm mkn mjp mds tk9 sz9 pl9 (nI (wn st)) (nI (sn st)) ra rd nx9 dn df hRd n tf tx hT a q (by omega) (fun j h5 h6 => htk j (by omega) (by omega))) (cwV 2 hts (sd_gV k_620 k_622 k_19 k_30 k_623) rfl rfl rfl (by decide +kernel) ⟨Nat.le_of_ble_eq_true rfl, Nat.le_of_ble_eq_true rfl⟩) (sd_preV hK hE (sd_fr hS hA0) (hP.sub (ws' := [(m0, .inr (8, [.ref mtt, .int tk9, .int sz9, .int pl9, .int (nI (wn st)), .ref mcd, .int (nI (sn st)), .ref mat, .ref msz, .ref mvl, .ref mcs, .ref mmm, .int ra, .int rd, .int nx9, .int dn, .ref mkn, .ref mjp, .ref mds])), (mtt, .inl (gI g, 2000, .inl tf)), (mds, .inl (gC g, 19, .inl df))]) [0, 1, 9] rfl) rfl rfl) rfl rfl hl.1 rfl (lv_room (Nat.le_of_ble_eq_true rfl)) d_Mod_computes_106 ⟨Nat.zero_le _, Nat.zero_le _⟩) (fun r39 er39 => ?_)
              by_cases hD0 : (lk (nmM tx a (a + q)) sd_dest) = 0
              · obtain rfl := er39.1 hD0
                refine lv_istore (lv' := [(7, .int (-1)), (6, .int (nI s9)), (5, .int (nI (q + 1))), (3, .int (nI q)), (4, .int (nI s9)), (0, .ref m0), (1, .int (nI a)), (2, .int (nI cn))]) hx hb d_Mod_computes_109 hl (by decide) rfl (fun ls hl => ?_)
                refine lv_aload_n hx hb d_Mod_computes_111 rfl (lv_at hl 5 rfl) ?_
                refine lv_iload_n hx hb d_Mod_computes_112 rfl (lv_at hl 6 rfl) ?_
                refine lv_iload hx hb d_Mod_computes_113 (lv_at hl 2 rfl) ?_
                refine lv_iadd hx hb d_Mod_computes_115 ?_
                refine sd_topi (y := nI (a + (q + 1))) (nI_add _ _) ?_
                refine lv_iload hx hb d_Mod_computes_116 (lv_at hl 1 rfl) ?_
                refine lv_iload hx hb d_Mod_computes_118 (lv_at hl 2 rfl) ?_
                refine lv_isub hx hb d_Mod_computes_120 ?_
                refine sd_topi (y := nI (s9 - (q + 1))) (pk_sub (by omega)) ?_
                refine sd_ri (va_runV (As := [.int (nI (a + (q + 1))), .int (nI (s9 - (q + 1)))]) (rest := []) ⟨hx, hb, hml, hown, hts⟩ (c_Mod_compOf l g m0 mtt mcd mat msz mvl mcs mmm mkn mjp mds tk9 sz9 pl9 (nI (wn st)) (nI (sn st)) ra rd nx9 dn n tf tx hT (a + (q + 1)) (s9 - (q + 1)) (by omega)) (cwV 2 hts (sd_gV k_624 k_626 k_20 k_30 k_627) rfl rfl rfl (by decide +kernel) ⟨Nat.le_of_ble_eq_true rfl, Nat.le_of_ble_eq_true rfl⟩) (sd_preV hK hE (sd_fr hS hA0) (hP.sub (ws' := [(m0, .inr (8, [.ref mtt, .int tk9, .int sz9, .int pl9, .int (nI (wn st)), .ref mcd, .int (nI (sn st)), .ref mat, .ref msz, .ref mvl, .ref mcs, .ref mmm, .int ra, .int rd, .int nx9, .int dn, .ref mkn, .ref mjp, .ref mds])), (mtt, .inl (gI g, 2000, .inl tf))]) [0, 1] rfl) rfl rfl) rfl rfl hl.1 rfl (lv_room (Nat.le_of_ble_eq_true rfl)) d_Mod_computes_121 ⟨Nat.zero_le _, Nat.zero_le _⟩) (fun r40 er40 => ?_)
                subst er40
                have hCV := cmpV_lk (tx := tx) (a := a + (q + 1)) (c := (s9 - (q + 1)))
                rw [show a + (q + 1) + (s9 - (q + 1)) = (a + s9) by omega] at hCV
                generalize hv8 : (cmpV (s9 - (q + 1)) (if (s9 - (q + 1)) ≤ 0 then 0 else tx (a + (q + 1))) (if (s9 - (q + 1)) ≤ 1 then 0 else tx ((a + (q + 1)) + 1)) (if (s9 - (q + 1)) ≤ 2 then 0 else tx ((a + (q + 1)) + 2))) = v8 at hCV ⊢
                have hC0 : (lk (nmM tx (a + q + 1) (a + s9)) sd_comp) = 0 → v8 = -1 := hCV.1
                have hC1 : ¬ (lk (nmM tx (a + q + 1) (a + s9)) sd_comp) = 0 → ¬ v8 = -1 ∧ nI 64 * v8 = nI ((lk (nmM tx (a + q + 1) (a + s9)) sd_comp) - 1) := hCV.2
                clear hCV
                refine lv_istore (lv' := [(8, .int v8), (7, .int (-1)), (6, .int (nI s9)), (5, .int (nI (q + 1))), (3, .int (nI q)), (4, .int (nI s9)), (0, .ref m0), (1, .int (nI a)), (2, .int (nI cn))]) hx hb d_Mod_computes_124 hl (by decide) rfl (fun ls hl => ?_)
                refine lv_iload hx hb d_Mod_computes_126 (lv_at hl 5 rfl) ?_
                refine lv_iconst (v := (-1)) hx hb d_Mod_computes_128 (by decide) ?_
                refine lv_icmp_ne (tgt := 136) hx hb d_Mod_computes_129 (by decide) (fun c41 => ?_) (fun c41 => ?_)
                · refine lv_iconst (v := (nI 1)) hx hb d_Mod_computes_136 (by decide) ?_
                  refine lv_aload_n hx hb d_Mod_computes_137 rfl (lv_at hl 6 rfl) ?_
                  refine lv_aload_n hx hb d_Mod_computes_138 rfl (lv_at hl 6 rfl) ?_
                  refine va_get (D := g.1) (ci := 8) (v := .ref mjp) (C := "SignDeskModel") (T := F_Mod) (N := 19) hx hb hts in_Mod hown hK hP 0 rfl rfl 17 (by decide) (hts _ k_511) (fun _ h9 => h9) rfl d_Mod_computes_139 ?_
                  refine lv_iload_n hx hb d_Mod_computes_142 rfl (lv_at hl 7 rfl) ?_
                  refine lv_iload hx hb d_Mod_computes_143 (lv_at hl 5 rfl) ?_
                  refine lv_iadd hx hb d_Mod_computes_145 ?_
                  refine sd_topi (y := nI (a + s9)) (nI_add _ _) ?_
                  refine lv_iconst (v := (nI 1)) hx hb d_Mod_computes_146 (by decide) ?_
                  refine lv_iadd hx hb d_Mod_computes_147 ?_
                  refine sd_topi (y := nI ((a + s9) + 1)) (nI_add _ _) ?_
                  refine lv_iload_n hx hb d_Mod_computes_148 rfl (lv_at hl 8 rfl) ?_
                  refine lv_iload hx hb d_Mod_computes_149 (lv_at hl 5 rfl) ?_
                  refine lv_isub hx hb d_Mod_computes_151 ?_
                  refine sd_topi (y := nI (cn - s9)) (pk_sub (by omega)) ?_
                  refine lv_iconst (v := (nI 1)) hx hb d_Mod_computes_152 (by decide) ?_
                  refine lv_isub hx hb d_Mod_computes_153 ?_
                  refine sd_topi (y := nI (cn - s9 - 1)) (pk_sub (by omega)) ?_
                  refine sd_ri (va_runV (As := [.ref mjp, .int (nI ((a + s9) + 1)), .int (nI (cn - s9 - 1))]) (rest := [.int (nI 1)]) ⟨hx, hb, hml, hown, hts⟩ (c_Mod_wordOf l g m0 mtt mcd mat msz mvl mcs mmm mkn mjp mds tk9 sz9 pl9 (nI (wn st)) (nI (sn st)) ra rd nx9 dn mjp 28 jf (sd_jump.map Prod.fst) hRj n tf tx hT (a + s9 + 1) (cn - s9 - 1) (by omega) (fun j h5 h6 => htk j (by omega) (by omega))) (cwV 3 hts (sd_gV k_604 k_606 k_15 k_30 k_607) rfl rfl rfl (by decide +kernel) ⟨Nat.le_of_ble_eq_true rfl, Nat.le_of_ble_eq_true rfl⟩) (sd_preV hK hE (sd_fr hS hA0) (hP.sub (ws' := [(m0, .inr (8, [.ref mtt, .int tk9, .int sz9, .int pl9, .int (nI (wn st)), .ref mcd, .int (nI (sn st)), .ref mat, .ref msz, .ref mvl, .ref mcs, .ref mmm, .int ra, .int rd, .int nx9, .int dn, .ref mkn, .ref mjp, .ref mds])), (mtt, .inl (gI g, 2000, .inl tf)), (mjp, .inl (gC g, 28, .inl jf))]) [0, 1, 8] rfl) rfl rfl) rfl rfl hl.1 rfl (lv_room (Nat.le_of_ble_eq_true rfl)) d_Mod_computes_154 ⟨Nat.zero_le _, Nat.zero_le _⟩) (fun r42 er42 => ?_)
                  subst er42
                  refine lv_iadd hx hb d_Mod_computes_157 ?_
                  refine sd_topi (y := nI (lk (nmM tx (a + s9 + 1) (a + cn)) sd_jump)) (by rw [show a + s9 + 1 + (cn - s9 - 1) = a + cn by omega]; exact sd_jpQ) ?_
                  refine lv_istore (lv' := [(9, .int (nI (lk (nmM tx (a + s9 + 1) (a + cn)) sd_jump))), (8, .int v8), (7, .int (-1)), (6, .int (nI s9)), (5, .int (nI (q + 1))), (3, .int (nI q)), (4, .int (nI s9)), (0, .ref m0), (1, .int (nI a)), (2, .int (nI cn))]) hx hb d_Mod_computes_158 hl (by decide) rfl (fun ls hl => ?_)
                  refine lv_iload hx hb d_Mod_computes_160 (lv_at hl 2 rfl) ?_
                  refine lv_iconst (v := (-1)) hx hb d_Mod_computes_162 (by decide) ?_
                  refine lv_icmp_eq (tgt := 194) hx hb d_Mod_computes_163 (by decide) (fun c43 => ?_) (fun c43 => ?_)
                  · refine lv_iconst (v := (nI 1)) hx hb d_Mod_computes_194 (by decide) ?_
                    have hP9 := hP.sub (ws' := [(m0, .inr (8, [.ref mtt, .int tk9, .int sz9, .int pl9, .int (nI (wn st)), .ref mcd, .int (nI (sn st)), .ref mat, .ref msz, .ref mvl, .ref mcs, .ref mmm, .int ra, .int rd, .int nx9, .int dn, .ref mkn, .ref mjp, .ref mds])), (mtt, .inl (gI g, 2000, .inl tf)), (mcd, .inl (gI g, 600, .inl cdf)), (mat, .inl (gI g, 40, .inl s1)), (msz, .inl (gI g, 40, .inl s2)), (mvl, .inl (gI g, 40, .inl s3)), (mcs, .inl (gI g, 600, .inl csf)), (mkn, .inl (gC g, 32, .inl kf)), (mjp, .inl (gC g, 28, .inl jf)), (mds, .inl (gC g, 19, .inl df))]) [0, 1, 2, 3, 4, 5, 6, 7, 8, 9] rfl
                    have hD9 := hD.sub (ws' := [(m0, .inr (8, [.ref mtt, .int tk9, .int sz9, .int pl9, .int (nI (wn st)), .ref mcd, .int (nI (sn st)), .ref mat, .ref msz, .ref mvl, .ref mcs, .ref mmm, .int ra, .int rd, .int nx9, .int dn, .ref mkn, .ref mjp, .ref mds])), (mtt, .inl (gI g, 2000, .inl tf)), (mcd, .inl (gI g, 600, .inl cdf)), (mat, .inl (gI g, 40, .inl s1)), (msz, .inl (gI g, 40, .inl s2)), (mvl, .inl (gI g, 40, .inl s3)), (mcs, .inl (gI g, 600, .inl csf)), (mkn, .inl (gC g, 32, .inl kf)), (mjp, .inl (gC g, 28, .inl jf)), (mds, .inl (gC g, 19, .inl df))]) [0, 1, 2, 3, 4, 5, 6, 7, 8, 9] (by decide) rfl
                    exact W.iret (v := (nI 1)) hx hb hr (fun t ht hW => ⟨⟨_, (st, cdf, csf, s1, s2, s3), rfl, ⟨⟨1, by rw [hG, if_pos (Or.inl ⟨by omega, hD0⟩)], rfl⟩, hMP, hSR, hSB⟩, by rw [ht]; exact hP9, by rw [hAe]; exact hD9⟩, hS.F ht⟩) hS.2.2 d_Mod_computes_195
                  · exact absurd rfl c43
                · exact absurd c41 (nI_m1 (by omega))
              · obtain rfl := er39.2 hD0
                refine lv_istore (lv' := [(7, .int (nI (8 * (lk (nmM tx a (a + q)) sd_dest)))), (6, .int (nI s9)), (5, .int (nI (q + 1))), (3, .int (nI q)), (4, .int (nI s9)), (0, .ref m0), (1, .int (nI a)), (2, .int (nI cn))]) hx hb d_Mod_computes_109 hl (by decide) rfl (fun ls hl => ?_)
                refine lv_aload_n hx hb d_Mod_computes_111 rfl (lv_at hl 5 rfl) ?_
                refine lv_iload_n hx hb d_Mod_computes_112 rfl (lv_at hl 6 rfl) ?_
                refine lv_iload hx hb d_Mod_computes_113 (lv_at hl 2 rfl) ?_
                refine lv_iadd hx hb d_Mod_computes_115 ?_
                refine sd_topi (y := nI (a + (q + 1))) (nI_add _ _) ?_
                refine lv_iload hx hb d_Mod_computes_116 (lv_at hl 1 rfl) ?_
                refine lv_iload hx hb d_Mod_computes_118 (lv_at hl 2 rfl) ?_
                refine lv_isub hx hb d_Mod_computes_120 ?_
                refine sd_topi (y := nI (s9 - (q + 1))) (pk_sub (by omega)) ?_
                refine sd_ri (va_runV (As := [.int (nI (a + (q + 1))), .int (nI (s9 - (q + 1)))]) (rest := []) ⟨hx, hb, hml, hown, hts⟩ (c_Mod_compOf l g m0 mtt mcd mat msz mvl mcs mmm mkn mjp mds tk9 sz9 pl9 (nI (wn st)) (nI (sn st)) ra rd nx9 dn n tf tx hT (a + (q + 1)) (s9 - (q + 1)) (by omega)) (cwV 2 hts (sd_gV k_624 k_626 k_20 k_30 k_627) rfl rfl rfl (by decide +kernel) ⟨Nat.le_of_ble_eq_true rfl, Nat.le_of_ble_eq_true rfl⟩) (sd_preV hK hE (sd_fr hS hA0) (hP.sub (ws' := [(m0, .inr (8, [.ref mtt, .int tk9, .int sz9, .int pl9, .int (nI (wn st)), .ref mcd, .int (nI (sn st)), .ref mat, .ref msz, .ref mvl, .ref mcs, .ref mmm, .int ra, .int rd, .int nx9, .int dn, .ref mkn, .ref mjp, .ref mds])), (mtt, .inl (gI g, 2000, .inl tf))]) [0, 1] rfl) rfl rfl) rfl rfl hl.1 rfl (lv_room (Nat.le_of_ble_eq_true rfl)) d_Mod_computes_121 ⟨Nat.zero_le _, Nat.zero_le _⟩) (fun r44 er44 => ?_)
                subst er44
                have hCV := cmpV_lk (tx := tx) (a := a + (q + 1)) (c := (s9 - (q + 1)))
                rw [show a + (q + 1) + (s9 - (q + 1)) = (a + s9) by omega] at hCV
                generalize hv8 : (cmpV (s9 - (q + 1)) (if (s9 - (q + 1)) ≤ 0 then 0 else tx (a + (q + 1))) (if (s9 - (q + 1)) ≤ 1 then 0 else tx ((a + (q + 1)) + 1)) (if (s9 - (q + 1)) ≤ 2 then 0 else tx ((a + (q + 1)) + 2))) = v8 at hCV ⊢
                have hC0 : (lk (nmM tx (a + q + 1) (a + s9)) sd_comp) = 0 → v8 = -1 := hCV.1
                have hC1 : ¬ (lk (nmM tx (a + q + 1) (a + s9)) sd_comp) = 0 → ¬ v8 = -1 ∧ nI 64 * v8 = nI ((lk (nmM tx (a + q + 1) (a + s9)) sd_comp) - 1) := hCV.2
                clear hCV
                refine lv_istore (lv' := [(8, .int v8), (7, .int (nI (8 * (lk (nmM tx a (a + q)) sd_dest)))), (6, .int (nI s9)), (5, .int (nI (q + 1))), (3, .int (nI q)), (4, .int (nI s9)), (0, .ref m0), (1, .int (nI a)), (2, .int (nI cn))]) hx hb d_Mod_computes_124 hl (by decide) rfl (fun ls hl => ?_)
                refine lv_iload hx hb d_Mod_computes_126 (lv_at hl 5 rfl) ?_
                refine lv_iconst (v := (-1)) hx hb d_Mod_computes_128 (by decide) ?_
                refine lv_icmp_ne (tgt := 136) hx hb d_Mod_computes_129 (by decide) (fun c45 => ?_) (fun c45 => ?_)
                · refine lv_iconst (v := (nI 1)) hx hb d_Mod_computes_136 (by decide) ?_
                  refine lv_aload_n hx hb d_Mod_computes_137 rfl (lv_at hl 6 rfl) ?_
                  refine lv_aload_n hx hb d_Mod_computes_138 rfl (lv_at hl 6 rfl) ?_
                  refine va_get (D := g.1) (ci := 8) (v := .ref mjp) (C := "SignDeskModel") (T := F_Mod) (N := 19) hx hb hts in_Mod hown hK hP 0 rfl rfl 17 (by decide) (hts _ k_511) (fun _ h9 => h9) rfl d_Mod_computes_139 ?_
                  refine lv_iload_n hx hb d_Mod_computes_142 rfl (lv_at hl 7 rfl) ?_
                  refine lv_iload hx hb d_Mod_computes_143 (lv_at hl 5 rfl) ?_
                  refine lv_iadd hx hb d_Mod_computes_145 ?_
                  refine sd_topi (y := nI (a + s9)) (nI_add _ _) ?_
                  refine lv_iconst (v := (nI 1)) hx hb d_Mod_computes_146 (by decide) ?_
                  refine lv_iadd hx hb d_Mod_computes_147 ?_
                  refine sd_topi (y := nI ((a + s9) + 1)) (nI_add _ _) ?_
                  refine lv_iload_n hx hb d_Mod_computes_148 rfl (lv_at hl 8 rfl) ?_
                  refine lv_iload hx hb d_Mod_computes_149 (lv_at hl 5 rfl) ?_
                  refine lv_isub hx hb d_Mod_computes_151 ?_
                  refine sd_topi (y := nI (cn - s9)) (pk_sub (by omega)) ?_
                  refine lv_iconst (v := (nI 1)) hx hb d_Mod_computes_152 (by decide) ?_
                  refine lv_isub hx hb d_Mod_computes_153 ?_
                  refine sd_topi (y := nI (cn - s9 - 1)) (pk_sub (by omega)) ?_
                  refine sd_ri (va_runV (As := [.ref mjp, .int (nI ((a + s9) + 1)), .int (nI (cn - s9 - 1))]) (rest := [.int (nI 1)]) ⟨hx, hb, hml, hown, hts⟩ (c_Mod_wordOf l g m0 mtt mcd mat msz mvl mcs mmm mkn mjp mds tk9 sz9 pl9 (nI (wn st)) (nI (sn st)) ra rd nx9 dn mjp 28 jf (sd_jump.map Prod.fst) hRj n tf tx hT (a + s9 + 1) (cn - s9 - 1) (by omega) (fun j h5 h6 => htk j (by omega) (by omega))) (cwV 3 hts (sd_gV k_604 k_606 k_15 k_30 k_607) rfl rfl rfl (by decide +kernel) ⟨Nat.le_of_ble_eq_true rfl, Nat.le_of_ble_eq_true rfl⟩) (sd_preV hK hE (sd_fr hS hA0) (hP.sub (ws' := [(m0, .inr (8, [.ref mtt, .int tk9, .int sz9, .int pl9, .int (nI (wn st)), .ref mcd, .int (nI (sn st)), .ref mat, .ref msz, .ref mvl, .ref mcs, .ref mmm, .int ra, .int rd, .int nx9, .int dn, .ref mkn, .ref mjp, .ref mds])), (mtt, .inl (gI g, 2000, .inl tf)), (mjp, .inl (gC g, 28, .inl jf))]) [0, 1, 8] rfl) rfl rfl) rfl rfl hl.1 rfl (lv_room (Nat.le_of_ble_eq_true rfl)) d_Mod_computes_154 ⟨Nat.zero_le _, Nat.zero_le _⟩) (fun r46 er46 => ?_)
                  subst er46
                  refine lv_iadd hx hb d_Mod_computes_157 ?_
                  refine sd_topi (y := nI (lk (nmM tx (a + s9 + 1) (a + cn)) sd_jump)) (by rw [show a + s9 + 1 + (cn - s9 - 1) = a + cn by omega]; exact sd_jpQ) ?_
                  refine lv_istore (lv' := [(9, .int (nI (lk (nmM tx (a + s9 + 1) (a + cn)) sd_jump))), (8, .int v8), (7, .int (nI (8 * (lk (nmM tx a (a + q)) sd_dest)))), (6, .int (nI s9)), (5, .int (nI (q + 1))), (3, .int (nI q)), (4, .int (nI s9)), (0, .ref m0), (1, .int (nI a)), (2, .int (nI cn))]) hx hb d_Mod_computes_158 hl (by decide) rfl (fun ls hl => ?_)
                  refine lv_iload hx hb d_Mod_computes_160 (lv_at hl 2 rfl) ?_
                  refine lv_iconst (v := (-1)) hx hb d_Mod_computes_162 (by decide) ?_
                  refine lv_icmp_eq (tgt := 194) hx hb d_Mod_computes_163 (by decide) (fun c47 => ?_) (fun c47 => ?_)
                  · exact absurd c47 (nI_m1 (by omega))
                  · refine lv_iload hx hb d_Mod_computes_166 (lv_at hl 1 rfl) ?_
                    refine lv_iconst (v := (-1)) hx hb d_Mod_computes_168 (by decide) ?_
                    refine lv_icmp_eq (tgt := 194) hx hb d_Mod_computes_169 (by decide) (fun c48 => ?_) (fun c48 => ?_)
                    · refine lv_iconst (v := (nI 1)) hx hb d_Mod_computes_194 (by decide) ?_
                      have hP9 := hP.sub (ws' := [(m0, .inr (8, [.ref mtt, .int tk9, .int sz9, .int pl9, .int (nI (wn st)), .ref mcd, .int (nI (sn st)), .ref mat, .ref msz, .ref mvl, .ref mcs, .ref mmm, .int ra, .int rd, .int nx9, .int dn, .ref mkn, .ref mjp, .ref mds])), (mtt, .inl (gI g, 2000, .inl tf)), (mcd, .inl (gI g, 600, .inl cdf)), (mat, .inl (gI g, 40, .inl s1)), (msz, .inl (gI g, 40, .inl s2)), (mvl, .inl (gI g, 40, .inl s3)), (mcs, .inl (gI g, 600, .inl csf)), (mkn, .inl (gC g, 32, .inl kf)), (mjp, .inl (gC g, 28, .inl jf)), (mds, .inl (gC g, 19, .inl df))]) [0, 1, 2, 3, 4, 5, 6, 7, 8, 9] rfl
                      have hD9 := hD.sub (ws' := [(m0, .inr (8, [.ref mtt, .int tk9, .int sz9, .int pl9, .int (nI (wn st)), .ref mcd, .int (nI (sn st)), .ref mat, .ref msz, .ref mvl, .ref mcs, .ref mmm, .int ra, .int rd, .int nx9, .int dn, .ref mkn, .ref mjp, .ref mds])), (mtt, .inl (gI g, 2000, .inl tf)), (mcd, .inl (gI g, 600, .inl cdf)), (mat, .inl (gI g, 40, .inl s1)), (msz, .inl (gI g, 40, .inl s2)), (mvl, .inl (gI g, 40, .inl s3)), (mcs, .inl (gI g, 600, .inl csf)), (mkn, .inl (gC g, 32, .inl kf)), (mjp, .inl (gC g, 28, .inl jf)), (mds, .inl (gC g, 19, .inl df))]) [0, 1, 2, 3, 4, 5, 6, 7, 8, 9] (by decide) rfl
                      exact W.iret (v := (nI 1)) hx hb hr (fun t ht hW => ⟨⟨_, (st, cdf, csf, s1, s2, s3), rfl, ⟨⟨1, by rw [hG, if_pos (Or.inr (Or.inr (Classical.byContradiction fun q9 => (hC1 q9).1 c48)))], rfl⟩, hMP, hSR, hSB⟩, by rw [ht]; exact hP9, by rw [hAe]; exact hD9⟩, hS.F ht⟩) hS.2.2 d_Mod_computes_195
                    · have hc0 : ¬ (lk (nmM tx (a + q + 1) (a + s9)) sd_comp) = 0 := fun q9 => c48 (hC0 q9)
                      have hc1 := (hC1 hc0).2
                      refine lv_iload hx hb d_Mod_computes_172 (lv_at hl 6 rfl) ?_
                      refine lv_iconst (v := (-1)) hx hb d_Mod_computes_174 (by decide) ?_
                      refine lv_icmp_eq (tgt := 196) hx hb d_Mod_computes_175 (by decide) (fun c49 => ?_) (fun c49 => ?_)
                      · exact absurd c49 (nI_m1 (by omega))
                      · refine lv_iload hx hb d_Mod_computes_178 (lv_at hl 0 rfl) ?_
                        refine lv_iconst (v := (nI 1)) hx hb d_Mod_computes_180 (by decide) ?_
                        refine lv_icmp_lt (tgt := 194) hx hb d_Mod_computes_181 (by decide) (fun c50 => ?_) (fun c50 => ?_)
                        · have c50 := (nI_ltI (by omega) (by omega)).mp c50
                          refine lv_iconst (v := (nI 1)) hx hb d_Mod_computes_194 (by decide) ?_
                          have hP9 := hP.sub (ws' := [(m0, .inr (8, [.ref mtt, .int tk9, .int sz9, .int pl9, .int (nI (wn st)), .ref mcd, .int (nI (sn st)), .ref mat, .ref msz, .ref mvl, .ref mcs, .ref mmm, .int ra, .int rd, .int nx9, .int dn, .ref mkn, .ref mjp, .ref mds])), (mtt, .inl (gI g, 2000, .inl tf)), (mcd, .inl (gI g, 600, .inl cdf)), (mat, .inl (gI g, 40, .inl s1)), (msz, .inl (gI g, 40, .inl s2)), (mvl, .inl (gI g, 40, .inl s3)), (mcs, .inl (gI g, 600, .inl csf)), (mkn, .inl (gC g, 32, .inl kf)), (mjp, .inl (gC g, 28, .inl jf)), (mds, .inl (gC g, 19, .inl df))]) [0, 1, 2, 3, 4, 5, 6, 7, 8, 9] rfl
                          have hD9 := hD.sub (ws' := [(m0, .inr (8, [.ref mtt, .int tk9, .int sz9, .int pl9, .int (nI (wn st)), .ref mcd, .int (nI (sn st)), .ref mat, .ref msz, .ref mvl, .ref mcs, .ref mmm, .int ra, .int rd, .int nx9, .int dn, .ref mkn, .ref mjp, .ref mds])), (mtt, .inl (gI g, 2000, .inl tf)), (mcd, .inl (gI g, 600, .inl cdf)), (mat, .inl (gI g, 40, .inl s1)), (msz, .inl (gI g, 40, .inl s2)), (mvl, .inl (gI g, 40, .inl s3)), (mcs, .inl (gI g, 600, .inl csf)), (mkn, .inl (gC g, 32, .inl kf)), (mjp, .inl (gC g, 28, .inl jf)), (mds, .inl (gC g, 19, .inl df))]) [0, 1, 2, 3, 4, 5, 6, 7, 8, 9] (by decide) rfl
                          exact W.iret (v := (nI 1)) hx hb hr (fun t ht hW => ⟨⟨_, (st, cdf, csf, s1, s2, s3), rfl, ⟨⟨1, by rw [hG, if_pos (Or.inr (Or.inl ⟨by omega, by omega⟩))], rfl⟩, hMP, hSR, hSB⟩, by rw [ht]; exact hP9, by rw [hAe]; exact hD9⟩, hS.F ht⟩) hS.2.2 d_Mod_computes_195
                        · have c50 := mt (nI_ltI (by omega) (by omega)).mpr c50
                          have hJ0 : ¬ (lk (nmM tx (a + s9 + 1) (a + cn)) sd_jump) = 0 := by omega
                          obtain ⟨p9, hp9, hM9, e9⟩ := lk_ex hJ0
                          have h39 := sd_jump_3 p9 hp9
                          have hl9 := hM9.1
                          refine lv_iload_n hx hb d_Mod_computes_184 rfl (lv_at hl 9 rfl) ?_
                          refine lv_iload hx hb d_Mod_computes_185 (lv_at hl 6 rfl) ?_
                          refine lv_isub hx hb d_Mod_computes_187 ?_
                          refine sd_topi (y := nI (cn - s9)) (pk_sub (by omega)) ?_
                          refine lv_iconst (v := (nI 1)) hx hb d_Mod_computes_188 (by decide) ?_
                          refine lv_isub hx hb d_Mod_computes_189 ?_
                          refine sd_topi (y := nI (cn - s9 - 1)) (pk_sub (by omega)) ?_
                          refine lv_iconst (v := (nI 3)) hx hb d_Mod_computes_190 (by decide) ?_
                          refine lv_icmp_eq (tgt := 196) hx hb d_Mod_computes_191 (by decide) (fun c51 => ?_) (fun c51 => ?_)
                          · have c51 := (nI_eq (by omega) (by omega)).mp c51
                            have hok : ¬ (((a + q) < a + cn ∧ (lk (nmM tx a (a + q)) sd_dest) = 0) ∨ ((a + s9) < a + cn ∧ (lk (nmM tx (a + s9 + 1) (a + cn)) sd_jump) = 0) ∨ (lk (nmM tx (a + q + 1) (a + s9)) sd_comp) = 0) := by
                              rintro (h | h | h)
                              · exact hD0 h.2
                              · exact hJ0 h.2
                              · exact hc0 h
                            refine lv_aload_n hx hb d_Mod_computes_196 rfl (lv_at hl 7 rfl) ?_
                            refine va_get (D := g.1) (ci := 8) (v := .int (nI (wn st))) (C := "SignDeskModel") (T := F_Mod) (N := 19) hx hb hts in_Mod hown hK hP 0 rfl rfl 4 (by decide) (hts _ k_498) (fun _ h9 => h9) rfl d_Mod_computes_197 ?_
                            refine lv_sipush (v := (nI 600)) hx hb d_Mod_computes_200 (by decide) ?_
                            refine lv_icmp_ne (tgt := 208) hx hb d_Mod_computes_203 (by decide) (fun c52 => ?_) (fun c52 => ?_)
                            · have c52 := mt (nI_eq (by omega) (by omega)).mpr c52
                              refine lv_aload_n hx hb d_Mod_computes_208 rfl (lv_at hl 7 rfl) ?_
                              refine va_get (D := g.1) (ci := 8) (v := .ref mcs) (C := "SignDeskModel") (T := F_Mod) (N := 19) hx hb hts in_Mod hown hK hP 0 rfl rfl 10 (by decide) (hts _ k_504) (fun _ h9 => h9) rfl d_Mod_computes_209 ?_
                              refine lv_aload_n hx hb d_Mod_computes_212 rfl (lv_at hl 7 rfl) ?_
                              refine va_get (D := g.1) (ci := 8) (v := .int (nI (wn st))) (C := "SignDeskModel") (T := F_Mod) (N := 19) hx hb hts in_Mod hown hK hP 0 rfl rfl 4 (by decide) (hts _ k_498) (fun _ h9 => h9) rfl d_Mod_computes_213 ?_
                              refine lv_iconst (v := (-1)) hx hb d_Mod_computes_216 (by decide) ?_
                              refine va_iast hx hb hK hP hD hS 6 1 rfl rfl (i := (nI (wn st))) (x := (-1)) (vp_in_nI (by omega) (by omega)) d_Mod_computes_217 (fun H locs hP hD hS => ?_)
                              have hP : sdP g [(m0, .inr (8, [.ref mtt, .int tk9, .int sz9, .int pl9, .int (nI (wn st)), .ref mcd, .int (nI (sn st)), .ref mat, .ref msz, .ref mvl, .ref mcs, .ref mmm, .int ra, .int rd, .int nx9, .int dn, .ref mkn, .ref mjp, .ref mds])), (mtt, .inl (gI g, 2000, .inl tf)), (mcd, .inl (gI g, 600, .inl cdf)), (mat, .inl (gI g, 40, .inl s1)), (msz, .inl (gI g, 40, .inl s2)), (mvl, .inl (gI g, 40, .inl s3)), (mcs, .inl (gI g, 600, .inl (upd csf ((nI (wn st))).toNatClampNeg (-1)))), (mkn, .inl (gC g, 32, .inl kf)), (mjp, .inl (gC g, 28, .inl jf)), (mds, .inl (gC g, 19, .inl df))] H := hP
                              have hD : va_D A [(m0, .inr (8, [.ref mtt, .int tk9, .int sz9, .int pl9, .int (nI (wn st)), .ref mcd, .int (nI (sn st)), .ref mat, .ref msz, .ref mvl, .ref mcs, .ref mmm, .int ra, .int rd, .int nx9, .int dn, .ref mkn, .ref mjp, .ref mds])), (mtt, .inl (gI g, 2000, .inl tf)), (mcd, .inl (gI g, 600, .inl cdf)), (mat, .inl (gI g, 40, .inl s1)), (msz, .inl (gI g, 40, .inl s2)), (mvl, .inl (gI g, 40, .inl s3)), (mcs, .inl (gI g, 600, .inl (upd csf ((nI (wn st))).toNatClampNeg (-1)))), (mkn, .inl (gC g, 32, .inl kf)), (mjp, .inl (gC g, 28, .inl jf)), (mds, .inl (gC g, 19, .inl df))] := hD
                              have eF : (upd csf ((nI (wn st))).toNatClampNeg (-1)) = (upd csf (wn st) (-1)) := by rw [nI_clamp (by omega)]
                              rw [eF] at hP hD
                              refine lv_aload_n hx hb d_Mod_computes_218 rfl (lv_at hl 7 rfl) ?_
                              refine va_get (D := g.1) (ci := 8) (v := .ref mcd) (C := "SignDeskModel") (T := F_Mod) (N := 19) hx hb hts in_Mod hown hK hP 0 rfl rfl 5 (by decide) (hts _ k_499) (fun _ h9 => h9) rfl d_Mod_computes_219 ?_
                              refine lv_aload_n hx hb d_Mod_computes_222 rfl (lv_at hl 7 rfl) ?_
                              refine va_get (D := g.1) (ci := 8) (v := .int (nI (wn st))) (C := "SignDeskModel") (T := F_Mod) (N := 19) hx hb hts in_Mod hown hK hP 0 rfl rfl 4 (by decide) (hts _ k_498) (fun _ h9 => h9) rfl d_Mod_computes_223 ?_
                              refine lv_ldc (v := nI 57344) hx hb hown (hts _ k_628) d_Mod_computes_226 ?_
                              refine lv_bipush (v := (nI 64)) hx hb d_Mod_computes_228 (by decide) ?_
                              refine lv_iload hx hb d_Mod_computes_230 (lv_at hl 1 rfl) ?_
                              refine lv_imul hx hb d_Mod_computes_232 ?_
                              refine sd_topi (y := nI ((lk (nmM tx (a + q + 1) (a + s9)) sd_comp) - 1)) (hc1) ?_
                              refine lv_iadd hx hb d_Mod_computes_233 ?_
                              refine sd_topi (y := nI (57344 + ((lk (nmM tx (a + q + 1) (a + s9)) sd_comp) - 1))) (nI_add _ _) ?_
                              refine lv_iload hx hb d_Mod_computes_234 (lv_at hl 2 rfl) ?_
                              refine lv_iadd hx hb d_Mod_computes_236 ?_
                              refine sd_topi (y := nI ((57344 + ((lk (nmM tx (a + q + 1) (a + s9)) sd_comp) - 1)) + (8 * (lk (nmM tx a (a + q)) sd_dest)))) (nI_add _ _) ?_
                              refine lv_iload hx hb d_Mod_computes_237 (lv_at hl 0 rfl) ?_
                              refine lv_iadd hx hb d_Mod_computes_239 ?_
                              refine sd_topi (y := nI (((57344 + ((lk (nmM tx (a + q + 1) (a + s9)) sd_comp) - 1)) + (8 * (lk (nmM tx a (a + q)) sd_dest))) + (lk (nmM tx (a + s9 + 1) (a + cn)) sd_jump))) (nI_add _ _) ?_
                              refine sd_topi (y := nI (57344 + ((lk (nmM tx (a + q + 1) (a + s9)) sd_comp) - 1) + 8 * (lk (nmM tx a (a + q)) sd_dest) + (lk (nmM tx (a + s9 + 1) (a + cn)) sd_jump))) (congrArg nI (by omega)) ?_
                              refine va_iast hx hb hK hP hD hS 2 1 rfl rfl (i := (nI (wn st))) (x := (nI (57344 + ((lk (nmM tx (a + q + 1) (a + s9)) sd_comp) - 1) + 8 * (lk (nmM tx a (a + q)) sd_dest) + (lk (nmM tx (a + s9 + 1) (a + cn)) sd_jump)))) (vp_in_nI (by omega) (by omega)) d_Mod_computes_240 (fun H locs hP hD hS => ?_)
                              have hP : sdP g [(m0, .inr (8, [.ref mtt, .int tk9, .int sz9, .int pl9, .int (nI (wn st)), .ref mcd, .int (nI (sn st)), .ref mat, .ref msz, .ref mvl, .ref mcs, .ref mmm, .int ra, .int rd, .int nx9, .int dn, .ref mkn, .ref mjp, .ref mds])), (mtt, .inl (gI g, 2000, .inl tf)), (mcd, .inl (gI g, 600, .inl (upd cdf ((nI (wn st))).toNatClampNeg (nI (57344 + ((lk (nmM tx (a + q + 1) (a + s9)) sd_comp) - 1) + 8 * (lk (nmM tx a (a + q)) sd_dest) + (lk (nmM tx (a + s9 + 1) (a + cn)) sd_jump)))))), (mat, .inl (gI g, 40, .inl s1)), (msz, .inl (gI g, 40, .inl s2)), (mvl, .inl (gI g, 40, .inl s3)), (mcs, .inl (gI g, 600, .inl (upd csf (wn st) (-1)))), (mkn, .inl (gC g, 32, .inl kf)), (mjp, .inl (gC g, 28, .inl jf)), (mds, .inl (gC g, 19, .inl df))] H := hP
                              have hD : va_D A [(m0, .inr (8, [.ref mtt, .int tk9, .int sz9, .int pl9, .int (nI (wn st)), .ref mcd, .int (nI (sn st)), .ref mat, .ref msz, .ref mvl, .ref mcs, .ref mmm, .int ra, .int rd, .int nx9, .int dn, .ref mkn, .ref mjp, .ref mds])), (mtt, .inl (gI g, 2000, .inl tf)), (mcd, .inl (gI g, 600, .inl (upd cdf ((nI (wn st))).toNatClampNeg (nI (57344 + ((lk (nmM tx (a + q + 1) (a + s9)) sd_comp) - 1) + 8 * (lk (nmM tx a (a + q)) sd_dest) + (lk (nmM tx (a + s9 + 1) (a + cn)) sd_jump)))))), (mat, .inl (gI g, 40, .inl s1)), (msz, .inl (gI g, 40, .inl s2)), (mvl, .inl (gI g, 40, .inl s3)), (mcs, .inl (gI g, 600, .inl (upd csf (wn st) (-1)))), (mkn, .inl (gC g, 32, .inl kf)), (mjp, .inl (gC g, 28, .inl jf)), (mds, .inl (gC g, 19, .inl df))] := hD
                              have eF : (upd cdf ((nI (wn st))).toNatClampNeg (nI (57344 + ((lk (nmM tx (a + q + 1) (a + s9)) sd_comp) - 1) + 8 * (lk (nmM tx a (a + q)) sd_dest) + (lk (nmM tx (a + s9 + 1) (a + cn)) sd_jump)))) = (upd cdf (wn st) (nI (57344 + ((lk (nmM tx (a + q + 1) (a + s9)) sd_comp) - 1) + 8 * (lk (nmM tx a (a + q)) sd_dest) + (lk (nmM tx (a + s9 + 1) (a + cn)) sd_jump)))) := by rw [nI_clamp (by omega)]
                              rw [eF] at hP hD
                              refine lv_aload_n hx hb d_Mod_computes_241 rfl (lv_at hl 7 rfl) ?_
                              refine lv_aload_n hx hb d_Mod_computes_242 rfl (lv_at hl 7 rfl) ?_
                              refine va_get (D := g.1) (ci := 8) (v := .int (nI (wn st))) (C := "SignDeskModel") (T := F_Mod) (N := 19) hx hb hts in_Mod hown hK hP 0 rfl rfl 4 (by decide) (hts _ k_498) (fun _ h9 => h9) rfl d_Mod_computes_243 ?_
                              refine lv_iconst (v := (nI 1)) hx hb d_Mod_computes_246 (by decide) ?_
                              refine lv_iadd hx hb d_Mod_computes_247 ?_
                              refine sd_topi (y := nI ((wn st) + 1)) (nI_add _ _) ?_
                              refine va_put (D := g.1) (ci := 8) (v := .int (nI ((wn st) + 1))) (ty := .int) (C := "SignDeskModel") (T := F_Mod) (N := 19) hx hb hts in_Mod t_Mod t_Mod_ok n_Mod hown hK hP hD hS 0 rfl rfl 4 (by decide) (hts _ k_498) (fun _ h9 => h9) rfl (by decide +kernel) rfl rfl (Nat.le_of_ble_eq_true rfl) d_Mod_computes_248 (fun H locs hP hD hS => ?_)
                              have hP : sdP g [(m0, .inr (8, [.ref mtt, .int tk9, .int sz9, .int pl9, .int (nI ((wn st) + 1)), .ref mcd, .int (nI (sn st)), .ref mat, .ref msz, .ref mvl, .ref mcs, .ref mmm, .int ra, .int rd, .int nx9, .int dn, .ref mkn, .ref mjp, .ref mds])), (mtt, .inl (gI g, 2000, .inl tf)), (mcd, .inl (gI g, 600, .inl (upd cdf (wn st) (nI (57344 + ((lk (nmM tx (a + q + 1) (a + s9)) sd_comp) - 1) + 8 * (lk (nmM tx a (a + q)) sd_dest) + (lk (nmM tx (a + s9 + 1) (a + cn)) sd_jump)))))), (mat, .inl (gI g, 40, .inl s1)), (msz, .inl (gI g, 40, .inl s2)), (mvl, .inl (gI g, 40, .inl s3)), (mcs, .inl (gI g, 600, .inl (upd csf (wn st) (-1)))), (mkn, .inl (gC g, 32, .inl kf)), (mjp, .inl (gC g, 28, .inl jf)), (mds, .inl (gC g, 19, .inl df))] H := hP
                              have hD : va_D A [(m0, .inr (8, [.ref mtt, .int tk9, .int sz9, .int pl9, .int (nI ((wn st) + 1)), .ref mcd, .int (nI (sn st)), .ref mat, .ref msz, .ref mvl, .ref mcs, .ref mmm, .int ra, .int rd, .int nx9, .int dn, .ref mkn, .ref mjp, .ref mds])), (mtt, .inl (gI g, 2000, .inl tf)), (mcd, .inl (gI g, 600, .inl (upd cdf (wn st) (nI (57344 + ((lk (nmM tx (a + q + 1) (a + s9)) sd_comp) - 1) + 8 * (lk (nmM tx a (a + q)) sd_dest) + (lk (nmM tx (a + s9 + 1) (a + cn)) sd_jump)))))), (mat, .inl (gI g, 40, .inl s1)), (msz, .inl (gI g, 40, .inl s2)), (mvl, .inl (gI g, 40, .inl s3)), (mcs, .inl (gI g, 600, .inl (upd csf (wn st) (-1)))), (mkn, .inl (gC g, 32, .inl kf)), (mjp, .inl (gC g, 28, .inl jf)), (mds, .inl (gC g, 19, .inl df))] := hD
                              refine lv_iconst (v := (nI 0)) hx hb d_Mod_computes_251 (by decide) ?_
                              have hP9 := hP.sub (ws' := [(m0, .inr (8, [.ref mtt, .int tk9, .int sz9, .int pl9, .int (nI ((wn st) + 1)), .ref mcd, .int (nI (sn st)), .ref mat, .ref msz, .ref mvl, .ref mcs, .ref mmm, .int ra, .int rd, .int nx9, .int dn, .ref mkn, .ref mjp, .ref mds])), (mtt, .inl (gI g, 2000, .inl tf)), (mcd, .inl (gI g, 600, .inl (upd cdf (wn st) (nI (57344 + ((lk (nmM tx (a + q + 1) (a + s9)) sd_comp) - 1) + 8 * (lk (nmM tx a (a + q)) sd_dest) + (lk (nmM tx (a + s9 + 1) (a + cn)) sd_jump)))))), (mat, .inl (gI g, 40, .inl s1)), (msz, .inl (gI g, 40, .inl s2)), (mvl, .inl (gI g, 40, .inl s3)), (mcs, .inl (gI g, 600, .inl (upd csf (wn st) (-1)))), (mkn, .inl (gC g, 32, .inl kf)), (mjp, .inl (gC g, 28, .inl jf)), (mds, .inl (gC g, 19, .inl df))]) [0, 1, 2, 3, 4, 5, 6, 7, 8, 9] rfl
                              have hD9 := hD.sub (ws' := [(m0, .inr (8, [.ref mtt, .int tk9, .int sz9, .int pl9, .int (nI ((wn st) + 1)), .ref mcd, .int (nI (sn st)), .ref mat, .ref msz, .ref mvl, .ref mcs, .ref mmm, .int ra, .int rd, .int nx9, .int dn, .ref mkn, .ref mjp, .ref mds])), (mtt, .inl (gI g, 2000, .inl tf)), (mcd, .inl (gI g, 600, .inl (upd cdf (wn st) (nI (57344 + ((lk (nmM tx (a + q + 1) (a + s9)) sd_comp) - 1) + 8 * (lk (nmM tx a (a + q)) sd_dest) + (lk (nmM tx (a + s9 + 1) (a + cn)) sd_jump)))))), (mat, .inl (gI g, 40, .inl s1)), (msz, .inl (gI g, 40, .inl s2)), (mvl, .inl (gI g, 40, .inl s3)), (mcs, .inl (gI g, 600, .inl (upd csf (wn st) (-1)))), (mkn, .inl (gC g, 32, .inl kf)), (mjp, .inl (gC g, 28, .inl jf)), (mds, .inl (gC g, 19, .inl df))]) [0, 1, 2, 3, 4, 5, 6, 7, 8, 9] (by decide) rfl
                              exact W.iret (v := (nI 0)) hx hb hr (fun t ht hW => ⟨⟨_, (pushW st (57344 + ((lk (nmM tx (a + q + 1) (a + s9)) sd_comp) - 1) + 8 * (lk (nmM tx a (a + q)) sd_dest) + (lk (nmM tx (a + s9 + 1) (a + cn)) sd_jump)) 0, upd cdf (wn st) (nI (57344 + ((lk (nmM tx (a + q + 1) (a + s9)) sd_comp) - 1) + 8 * (lk (nmM tx a (a + q)) sd_dest) + (lk (nmM tx (a + s9 + 1) (a + cn)) sd_jump))), upd csf (wn st) (-1), s1, s2, s3), rfl, ⟨⟨0, by rw [hG, if_neg hok, if_neg (by omega)], rfl⟩, MPR_push (y := 0) hMP (by omega), hSR, hSB⟩, by rw [ht]; exact hP9, by rw [hAe]; exact hD9⟩, hS.F ht⟩) hS.2.2 d_Mod_computes_252
                            · have c52 := (nI_eq (by omega) (by omega)).mp c52
                              refine lv_iconst (v := (nI 2)) hx hb d_Mod_computes_206 (by decide) ?_
                              have hP9 := hP.sub (ws' := [(m0, .inr (8, [.ref mtt, .int tk9, .int sz9, .int pl9, .int (nI (wn st)), .ref mcd, .int (nI (sn st)), .ref mat, .ref msz, .ref mvl, .ref mcs, .ref mmm, .int ra, .int rd, .int nx9, .int dn, .ref mkn, .ref mjp, .ref mds])), (mtt, .inl (gI g, 2000, .inl tf)), (mcd, .inl (gI g, 600, .inl cdf)), (mat, .inl (gI g, 40, .inl s1)), (msz, .inl (gI g, 40, .inl s2)), (mvl, .inl (gI g, 40, .inl s3)), (mcs, .inl (gI g, 600, .inl csf)), (mkn, .inl (gC g, 32, .inl kf)), (mjp, .inl (gC g, 28, .inl jf)), (mds, .inl (gC g, 19, .inl df))]) [0, 1, 2, 3, 4, 5, 6, 7, 8, 9] rfl
                              have hD9 := hD.sub (ws' := [(m0, .inr (8, [.ref mtt, .int tk9, .int sz9, .int pl9, .int (nI (wn st)), .ref mcd, .int (nI (sn st)), .ref mat, .ref msz, .ref mvl, .ref mcs, .ref mmm, .int ra, .int rd, .int nx9, .int dn, .ref mkn, .ref mjp, .ref mds])), (mtt, .inl (gI g, 2000, .inl tf)), (mcd, .inl (gI g, 600, .inl cdf)), (mat, .inl (gI g, 40, .inl s1)), (msz, .inl (gI g, 40, .inl s2)), (mvl, .inl (gI g, 40, .inl s3)), (mcs, .inl (gI g, 600, .inl csf)), (mkn, .inl (gC g, 32, .inl kf)), (mjp, .inl (gC g, 28, .inl jf)), (mds, .inl (gC g, 19, .inl df))]) [0, 1, 2, 3, 4, 5, 6, 7, 8, 9] (by decide) rfl
                              exact W.iret (v := (nI 2)) hx hb hr (fun t ht hW => ⟨⟨_, (st, cdf, csf, s1, s2, s3), rfl, ⟨⟨2, by rw [hG, if_neg hok, if_pos (by omega)], rfl⟩, hMP, hSR, hSB⟩, by rw [ht]; exact hP9, by rw [hAe]; exact hD9⟩, hS.F ht⟩) hS.2.2 d_Mod_computes_207
                          · have c51 := mt (nI_eq (by omega) (by omega)).mpr c51
                            exact absurd c51 (by omega)
                · exact absurd c45 (nI_m1 (by omega))
            · exact absurd c38 (nI_m1 (by omega))
          · have c37 := mt (nI_leI (by omega) (by omega)).mpr c37
            refine lv_iconst (v := (nI 1)) hx hb d_Mod_computes_92 (by decide) ?_
            have hP9 := hP.sub (ws' := [(m0, .inr (8, [.ref mtt, .int tk9, .int sz9, .int pl9, .int (nI (wn st)), .ref mcd, .int (nI (sn st)), .ref mat, .ref msz, .ref mvl, .ref mcs, .ref mmm, .int ra, .int rd, .int nx9, .int dn, .ref mkn, .ref mjp, .ref mds])), (mtt, .inl (gI g, 2000, .inl tf)), (mcd, .inl (gI g, 600, .inl cdf)), (mat, .inl (gI g, 40, .inl s1)), (msz, .inl (gI g, 40, .inl s2)), (mvl, .inl (gI g, 40, .inl s3)), (mcs, .inl (gI g, 600, .inl csf)), (mkn, .inl (gC g, 32, .inl kf)), (mjp, .inl (gC g, 28, .inl jf)), (mds, .inl (gC g, 19, .inl df))]) [0, 1, 2, 3, 4, 5, 6, 7, 8, 9] rfl
            have hD9 := hD.sub (ws' := [(m0, .inr (8, [.ref mtt, .int tk9, .int sz9, .int pl9, .int (nI (wn st)), .ref mcd, .int (nI (sn st)), .ref mat, .ref msz, .ref mvl, .ref mcs, .ref mmm, .int ra, .int rd, .int nx9, .int dn, .ref mkn, .ref mjp, .ref mds])), (mtt, .inl (gI g, 2000, .inl tf)), (mcd, .inl (gI g, 600, .inl cdf)), (mat, .inl (gI g, 40, .inl s1)), (msz, .inl (gI g, 40, .inl s2)), (mvl, .inl (gI g, 40, .inl s3)), (mcs, .inl (gI g, 600, .inl csf)), (mkn, .inl (gC g, 32, .inl kf)), (mjp, .inl (gC g, 28, .inl jf)), (mds, .inl (gC g, 19, .inl df))]) [0, 1, 2, 3, 4, 5, 6, 7, 8, 9] (by decide) rfl
            exact W.iret (v := (nI 1)) hx hb hr (fun t ht hW => ⟨⟨_, (st, cdf, csf, s1, s2, s3), rfl, ⟨⟨1, by rw [hG, if_pos (Or.inr (Or.inr (comp_neg (by omega))))], rfl⟩, hMP, hSR, hSB⟩, by rw [ht]; exact hP9, by rw [hAe]; exact hD9⟩, hS.F ht⟩) hS.2.2 d_Mod_computes_93
        · exact absurd c36 (nI_m1 (by omega))
  · have c1 := mt (nI_leI (by omega) (by omega)).mpr c1
    have hk : k < cn := by omega
    refine sd_cutl (fun (x3 : Int32) ls => lv_has ls 10 [(3, .int x3), (5, .int (nI k)), (4, .int sc9), (0, .ref m0), (1, .int (nI a)), (2, .int (nI cn))] ∧ ocE tx a 61 (k + 1) x3) 36 (fun _ => []) (fun x3 ls hI => ?_) (fun kJ => ?_)
    · obtain ⟨hl, hq2⟩ := hI
      refine sd_cutl (fun (x4 : Int32) ls => lv_has ls 10 [(4, .int x4), (5, .int (nI k)), (3, .int x3), (0, .ref m0), (1, .int (nI a)), (2, .int (nI cn))] ∧ ocE tx a 59 (k + 1) x4) 60 (fun _ => []) (fun x4 ls hI => ?_) (fun kJ => ?_)
      · obtain ⟨hl, hs2⟩ := hI
        refine lv_iinc (v := (nI (k + 1))) (lv' := [(5, .int (nI (k + 1))), (4, .int x4), (3, .int x3), (0, .ref m0), (1, .int (nI a)), (2, .int (nI cn))]) hx hb d_Mod_computes_60 hl (k := 1) rfl (nI_1 _) (by decide) rfl (fun ls hl => ?_)
        refine lv_goto (tgt := 8) hx hb d_Mod_computes_63 (by decide) ?_
        exact ih (k + 1, x3, x4) _ ⟨lv_sub hl [0, 2, 1, 3, 4, 5] rfl, by omega, hq2, hs2⟩ (show cn - (k + 1) < cn - k by omega)
      · refine lv_aload_n hx hb d_Mod_computes_36 rfl (lv_at hl 3 rfl) ?_
        refine va_get (D := g.1) (ci := 8) (v := .ref mtt) (C := "SignDeskModel") (T := F_Mod) (N := 19) hx hb hts in_Mod hown hK hP 0 rfl rfl 0 (by decide) (hts _ k_494) (fun _ h9 => h9) rfl d_Mod_computes_37 ?_
        refine lv_iload_n hx hb d_Mod_computes_40 rfl (lv_at hl 4 rfl) ?_
        refine lv_iload hx hb d_Mod_computes_41 (lv_at hl 1 rfl) ?_
        refine lv_iadd hx hb d_Mod_computes_43 ?_
        refine sd_topi (y := nI (a + k)) (nI_add _ _) ?_
        refine va_iald hx hb hK hP 1 1 rfl rfl (i := (nI (a + k))) (vp_in_nI (by omega) (by omega)) d_Mod_computes_44 ?_
        refine sd_topi (y := nI (tx (a + k))) (by rw [nI_clamp (by omega)]; exact hT.2.2.1 _ (by omega)) ?_
        have hb8i := hb8 (a + k)
        refine lv_bipush (v := (nI 59)) hx hb d_Mod_computes_45 (by decide) ?_
        refine lv_icmp_ne (tgt := 60) hx hb d_Mod_computes_47 (by decide) (fun c53 => ?_) (fun c53 => ?_)
        · have c53 := mt (nI_eq (by omega) (by omega)).mpr c53
          exact kJ (sc9) _ ⟨lv_sub hl [2, 1, 0, 3, 4, 5] rfl, ocE_no hs c53⟩
        · have c53 := (nI_eq (by omega) (by omega)).mp c53
          refine lv_iload hx hb d_Mod_computes_50 (lv_at hl 2 rfl) ?_
          refine lv_iconst (v := (-1)) hx hb d_Mod_computes_52 (by decide) ?_
          refine lv_icmp_ne (tgt := 60) hx hb d_Mod_computes_53 (by decide) (fun c54 => ?_) (fun c54 => ?_)
          · exact kJ (sc9) _ ⟨lv_sub hl [2, 1, 0, 3, 4, 5] rfl, ocE_keep hs c54⟩
          · refine lv_iload hx hb d_Mod_computes_56 (lv_at hl 1 rfl) ?_
            refine lv_istore (lv' := [(4, .int (nI k)), (3, .int x3), (5, .int (nI k)), (0, .ref m0), (1, .int (nI a)), (2, .int (nI cn))]) hx hb d_Mod_computes_58 hl (by decide) rfl (fun ls hl => ?_)
            exact kJ (nI k) _ ⟨lv_sub hl [0, 2, 1, 3, 4, 5] rfl, ocE_new (by omega) hs c54 c53⟩
    · refine lv_aload_n hx hb d_Mod_computes_14 rfl (lv_at hl 3 rfl) ?_
      refine va_get (D := g.1) (ci := 8) (v := .ref mtt) (C := "SignDeskModel") (T := F_Mod) (N := 19) hx hb hts in_Mod hown hK hP 0 rfl rfl 0 (by decide) (hts _ k_494) (fun _ h9 => h9) rfl d_Mod_computes_15 ?_
      refine lv_iload_n hx hb d_Mod_computes_18 rfl (lv_at hl 4 rfl) ?_
      refine lv_iload hx hb d_Mod_computes_19 (lv_at hl 0 rfl) ?_
      refine lv_iadd hx hb d_Mod_computes_21 ?_
      refine sd_topi (y := nI (a + k)) (nI_add _ _) ?_
      refine va_iald hx hb hK hP 1 1 rfl rfl (i := (nI (a + k))) (vp_in_nI (by omega) (by omega)) d_Mod_computes_22 ?_
      refine sd_topi (y := nI (tx (a + k))) (by rw [nI_clamp (by omega)]; exact hT.2.2.1 _ (by omega)) ?_
      have hb8i := hb8 (a + k)
      refine lv_bipush (v := (nI 61)) hx hb d_Mod_computes_23 (by decide) ?_
      refine lv_icmp_ne (tgt := 36) hx hb d_Mod_computes_25 (by decide) (fun c53 => ?_) (fun c53 => ?_)
      · have c53 := mt (nI_eq (by omega) (by omega)).mpr c53
        exact kJ (eq9) _ ⟨lv_sub hl [1, 0, 2, 3, 4, 5] rfl, ocE_no hq c53⟩
      · have c53 := (nI_eq (by omega) (by omega)).mp c53
        refine lv_iload_n hx hb d_Mod_computes_28 rfl (lv_at hl 1 rfl) ?_
        refine lv_iconst (v := (-1)) hx hb d_Mod_computes_29 (by decide) ?_
        refine lv_icmp_ne (tgt := 36) hx hb d_Mod_computes_30 (by decide) (fun c54 => ?_) (fun c54 => ?_)
        · exact kJ (eq9) _ ⟨lv_sub hl [1, 0, 2, 3, 4, 5] rfl, ocE_keep hq c54⟩
        · refine lv_iload hx hb d_Mod_computes_33 (lv_at hl 0 rfl) ?_
          refine lv_istore_n (lv' := [(3, .int (nI k)), (5, .int (nI k)), (4, .int sc9), (0, .ref m0), (1, .int (nI a)), (2, .int (nI cn))]) hx hb d_Mod_computes_35 rfl hl (by decide) rfl (fun ls hl => ?_)
          exact kJ (nI k) _ ⟨lv_sub hl [0, 1, 2, 3, 4, 5] rfl, ocE_new (by omega) hq c54 c53⟩
