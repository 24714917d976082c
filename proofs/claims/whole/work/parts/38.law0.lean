theorem pstep_nx {wn w : Nat} {ps : PS} (h : ps.2.2.1 < wn) (hw : wn ≤ 600) : (pstep w ps).2.2.1 < 40000 := by
  unfold pstep
  split
  · show ps.2.2.1 + 1 < 40000; omega
  · show pN w ps.1 _ ps.2.2.1 < 40000
    unfold pN
    split
    · omega
    · exact Nat.lt_of_lt_of_le (ad15_lt _) (by decide)
theorem prun_nx (cw : Nat → Nat) (wn : Nat) (hw : wn ≤ 600) : ∀ (k : Nat) (ps : PS), ps.2.2.1 < 40000 → (prun cw wn k ps).2.2.2.1 < 40000 := by
  intro k
  induction k with
  | zero => intro ps h; exact h
  | succ k ih =>
    intro ps h
    unfold prun
    split
    · rename_i q; exact ih _ (pstep_nx q hw)
    · exact h
theorem fin_lt {st : AS} (h : AInv st) {j : Nat} (hj : j < wn st) : fin st j < 65536 := by
  obtain ⟨h1, h2, h3, h4, -⟩ := h
  obtain ⟨a1, a2⟩ := h3 j hj
  unfold fin
  split
  · exact a1
  · unfold sF
    have hc := cnt0_le st (wy st j - 1)
    split
    · omega
    · have h5 := h4 (wy st j - 1) (by omega); omega
theorem go_pg (cw : Nat → Nat) (wn : Nat) (x : Int32) (a d : Int32) (nx : Nat) (M : Nat → Int32) (pg : Nat → Bool) : ∃ pg1 : Nat → Bool, cntp pg ≤ cntp pg1 ∧ (∀ N, N ≤ 2000 → x = nI N → (prun cw wn N (a, d, nx, M, pg)).2.2.2.2.2 = pg1) ∧ ((¬ ∃ N, N ≤ 2000 ∧ x = nI N) → pg1 = pg) := by
  by_cases h : ∃ N, N ≤ 2000 ∧ x = nI N
  · obtain ⟨N, hN, hx⟩ := h
    refine ⟨_, prun_mono cw wn N (a, d, nx, M, pg), fun N' h' e' => ?_, fun q => absurd ⟨N, hN, hx⟩ q⟩
    have e2 : N' = N := (nI_eq (by omega) (by omega)).mp (e'.symm.trans hx)
    rw [e2]
  · exact ⟨pg, Nat.le_refl _, fun N' h' e' => absurd ⟨N', h', e'⟩ h, fun _ => rfl⟩
theorem set_pg (x : Int32) (pg : Nat → Bool) : ∃ pg1 : Nat → Bool, cntp pg ≤ cntp pg1 ∧ (∀ k, k < 32768 → x = nI k → va_up pg (k / 256) true = pg1) ∧ (¬ inM x → pg1 = pg) := by
  by_cases h : inM x
  · obtain ⟨k, hk, hx⟩ := inM_of h
    refine ⟨va_up pg (k / 256) true, ?_, fun k' h' e' => ?_, fun q => absurd h q⟩
    · rw [cntp_up (by omega)]; exact Nat.le_add_right _ _
    · have e2 : k' = k := (nI_eq (by omega) (by omega)).mp (e'.symm.trans hx)
      rw [e2]
  · exact ⟨pg, Nat.le_refl _, fun k h' e' => absurd (by rw [e']; exact inM_nI h') h, fun _ => rfl⟩
theorem law_put {x r1 r2 : Int32} {v : Int64} {n n1 n2 : Nat} {f f1 tf tf2 : Nat → Int32} {tx : Nat → Nat} (hT : TXok n f tx) (hU : ∀ i, i < n → tf i = nI (tx i))
    (h1 : (∃ k, putOK x n k ∧ r1 = nI 1 ∧ n1 = n + k ∧ TXok (n + k) f1 (txA tx n v k)) ∨ ((¬ ∃ k, putOK x n k) ∧ r1 = nI 0 ∧ n1 = n ∧ f1 = f))
    (h2 : (∃ k, putOK x n k ∧ r2 = nI 1 ∧ n2 = n + k ∧ ∀ i, i < n + k → tf2 i = nI (txA tx n v k i)) ∨ ((¬ ∃ k, putOK x n k) ∧ r2 = nI 0 ∧ n2 = n ∧ tf2 = tf)) :
    r1 = r2 ∧ n2 = n1 ∧ ∃ tx1, TXok n1 f1 tx1 ∧ ∀ i, i < n1 → tf2 i = nI (tx1 i) := by
  rcases h1 with ⟨k, hk, e1, e2, h3⟩ | ⟨hn, e1, e2, e3⟩
  · rcases h2 with ⟨k', hk', e1', e2', h3'⟩ | ⟨hn', e1', e2', e3'⟩
    · have ek : k' = k := (nI_eq (by have := hk'.2.2.1; omega) (by have := hk.2.2.1; omega)).mp (hk'.1.symm.trans hk.1)
      rw [ek] at e2' h3'
      rw [e1, e1', e2, e2']
      exact ⟨rfl, rfl, _, h3, h3'⟩
    · exact absurd ⟨k, hk⟩ hn'
  · rcases h2 with ⟨k', hk', e1', e2', h3'⟩ | ⟨hn', e1', e2', e3'⟩
    · exact absurd ⟨k', hk'⟩ hn
    · rw [e1, e1', e2, e2', e3, e3']
      exact ⟨rfl, rfl, tx, hT, hU⟩
theorem law_read {tx : Nat → Nat} {n : Nat} {r1 r2 p1 p2 : Int32} {w1 w2 y1 y2 : Nat} {pw cd : Nat → Int32}
    (h1 : r1 = nI (asm tx n (n + 1) 0 0 E0).1 ∧ ((asm tx n (n + 1) 0 0 E0).1 = 0 → p1 = -1 ∧ w1 = wn (asm tx n (n + 1) 0 0 E0).2.2 ∧ y1 = sn (asm tx n (n + 1) 0 0 E0).2.2 ∧ ∀ j, j < wn (asm tx n (n + 1) 0 0 E0).2.2 → pw j = nI (fin (asm tx n (n + 1) 0 0 E0).2.2 j)) ∧ (¬ (asm tx n (n + 1) 0 0 E0).1 = 0 → p1 = nI (asm tx n (n + 1) 0 0 E0).2.1 ∧ w1 = 0 ∧ y1 = 0))
    (h2 : r2 = nI (asm tx n (n + 1) 0 0 E0).1 ∧ ((asm tx n (n + 1) 0 0 E0).1 = 0 → p2 = -1 ∧ w2 = wn (asm tx n (n + 1) 0 0 E0).2.2 ∧ y2 = sn (asm tx n (n + 1) 0 0 E0).2.2 ∧ ∀ j, j < wn (asm tx n (n + 1) 0 0 E0).2.2 → cd j = nI (fin (asm tx n (n + 1) 0 0 E0).2.2 j)) ∧ (¬ (asm tx n (n + 1) 0 0 E0).1 = 0 → p2 = nI (asm tx n (n + 1) 0 0 E0).2.1 ∧ w2 = 0 ∧ y2 = 0)) :
    r1 = r2 ∧ p2 = p1 ∧ w2 = w1 ∧ y2 = y1 ∧ w1 ≤ 600 ∧ ∃ cw : Nat → Nat, (∀ i, i < w1 → pw i = nI (cw i) ∧ cw i < 65536) ∧ ∀ i, i < w1 → cd i = nI (cw i) := by
  obtain ⟨e1, s1, f1⟩ := h1
  obtain ⟨e2, s2, f2⟩ := h2
  refine ⟨e1.trans e2.symm, ?_⟩
  by_cases h : (asm tx n (n + 1) 0 0 E0).1 = 0
  · obtain ⟨a1, a2, a3, a4⟩ := s1 h
    obtain ⟨b1, b2, b3, b4⟩ := s2 h
    have hI := asm_inv (tx := tx) (n := n) (n + 1) 0 0 E0 AInv_E0 h
    rw [a1, b1, a2, b2, a3, b3]
    exact ⟨rfl, rfl, rfl, hI.1, fin (asm tx n (n + 1) 0 0 E0).2.2, fun i hi => ⟨a4 i hi, fin_lt hI hi⟩, b4⟩
  · obtain ⟨a1, a2, a3⟩ := f1 h
    obtain ⟨b1, b2, b3⟩ := f2 h
    rw [a1, b1, a2, b2, a3, b3]
    exact ⟨rfl, rfl, rfl, Nat.zero_le _, fun _ => 0, fun i hi => absurd hi (Nat.not_lt_zero _), fun i hi => absurd hi (Nat.not_lt_zero _)⟩
theorem law_go {g : sdG} {cw : Nat → Nat} {wn9 : Nat} {x r1 r2 a d dn a1 d1 dn1 a2 d2 dn2 : Int32} {nx n1 n2 : Nat} {M M2 : Nat → Int32} {pg pgT : Nat → Bool} {pf pf1 : Nat → Option Nat} {L L1 : List Nat} {fE fE1 : Nat → va_E} (hwn : wn9 ≤ 600) (hnx : nx < 40000) (hM : memOK g pf L fE M pg)
    (hp : (∀ N, N ≤ 2000 → x = nI N → (prun cw wn9 N (a, d, nx, M, pg)).2.2.2.2.2 = pgT) ∧ ((¬ ∃ N, N ≤ 2000 ∧ x = nI N) → pgT = pg))
    (h1 : (∃ N, N ≤ 2000 ∧ x = nI N ∧ ∃ c M1 pg1, prun cw wn9 N (a, d, nx, M, pg) = (c, a1, d1, n1, M1, pg1) ∧ r1 = nI c ∧ dn1 = dn + nI c ∧ memOK g pf1 L1 fE1 M1 pg1) ∨ ((¬ ∃ N, N ≤ 2000 ∧ x = nI N) ∧ r1 = -1 ∧ (a1, d1, n1, dn1, pf1, L1, fE1) = (a, d, nx, dn, pf, L, fE)))
    (h2 : (∃ N, N ≤ 2000 ∧ x = nI N ∧ ∃ c, r2 = nI c ∧ dn2 = dn + nI c ∧ ∀ pg, ∃ pg1, prun cw wn9 N (a, d, nx, M, pg) = (c, a2, d2, n2, M2, pg1)) ∨ ((¬ ∃ N, N ≤ 2000 ∧ x = nI N) ∧ r2 = -1 ∧ (a2, d2, n2, dn2, M2) = (a, d, nx, dn, M))) :
    r1 = r2 ∧ a2 = a1 ∧ d2 = d1 ∧ n2 = n1 ∧ dn2 = dn1 ∧ n1 < 40000 ∧ memOK g pf1 L1 fE1 M2 pgT := by
  rcases h1 with ⟨N, hN, ex, c9, M1, pg1, hr, e1, e2, hM1⟩ | ⟨hn, e1, e2⟩
  · rcases h2 with ⟨N', hN', ex', c8, e1', e2', hr'⟩ | ⟨hn', e1', e2'⟩
    · have ek : N' = N := (nI_eq (by omega) (by omega)).mp (ex'.symm.trans ex)
      rw [ek] at hr'
      obtain ⟨pg2, hr2⟩ := hr' pg
      have hT := hp.1 N hN ex
      have h9 := prun_nx cw wn9 hwn N (a, d, nx, M, pg) hnx
      rw [hr] at hr2 hT h9
      injection hr2 with i1 hr2
      injection hr2 with i2 hr2
      injection hr2 with i3 hr2
      injection hr2 with i4 hr2
      injection hr2 with i5 i6
      rw [e1, e1', e2, e2', ← i1, ← i2, ← i3, ← i4, ← i5]
      have hT : pg1 = pgT := hT
      rw [← hT]
      exact ⟨rfl, rfl, rfl, rfl, rfl, h9, hM1⟩
    · exact absurd ⟨N, hN, ex⟩ hn'
  · rcases h2 with ⟨N', hN', ex', c8, e1', e2', hr'⟩ | ⟨hn', e1', e2'⟩
    · exact absurd ⟨N', hN', ex'⟩ hn
    · injection e2 with i1 e2
      injection e2 with i2 e2
      injection e2 with i3 e2
      injection e2 with i4 e2
      injection e2 with i5 e2
      injection e2 with i6 i7
      injection e2' with j1 e2'
      injection e2' with j2 e2'
      injection e2' with j3 e2'
      injection e2' with j4 j5
      rw [e1, e1', i1, i2, i3, i4, i5, i6, i7, j1, j2, j3, j4, j5, hp.2 hn]
      exact ⟨rfl, rfl, rfl, rfl, rfl, hnx, hM⟩
theorem law_set {g : sdG} {x v r1 r2 : Int32} {M M2 : Nat → Int32} {pg pgT : Nat → Bool} {pf pf1 : Nat → Option Nat} {L L1 : List Nat} {fE fE1 : Nat → va_E} (hM : memOK g pf L fE M pg)
    (hp : (∀ k, k < 32768 → x = nI k → va_up pg (k / 256) true = pgT) ∧ (¬ inM x → pgT = pg))
    (h1 : (∃ k, k < 32768 ∧ x = nI k ∧ r1 = nI 1 ∧ memOK g pf1 L1 fE1 (upd M k v.toInt16.toInt32) (va_up pg (k / 256) true)) ∨ (¬ inM x ∧ r1 = nI 0 ∧ (pf1, L1, fE1) = (pf, L, fE)))
    (h2 : (∃ k, k < 32768 ∧ x = nI k ∧ r2 = nI 1 ∧ M2 = upd M k v.toInt16.toInt32) ∨ (¬ inM x ∧ r2 = nI 0 ∧ M2 = M)) : r1 = r2 ∧ memOK g pf1 L1 fE1 M2 pgT := by
  rcases h1 with ⟨k, hk, ex, e1, hM1⟩ | ⟨hn, e1, e2⟩
  · rcases h2 with ⟨k', hk', ex', e1', e2'⟩ | ⟨hn', e1', e2'⟩
    · have ek : k' = k := (nI_eq (by omega) (by omega)).mp (ex'.symm.trans ex)
      rw [ek] at e2'
      rw [e1, e1', e2', ← hp.1 k hk ex]
      exact ⟨rfl, hM1⟩
    · exact absurd (by rw [ex]; exact inM_nI hk) hn'
  · rcases h2 with ⟨k', hk', ex', e1', e2'⟩ | ⟨hn', e1', e2'⟩
    · exact absurd (by rw [ex']; exact inM_nI hk') hn
    · injection e2 with i1 e2
      injection e2 with i2 i3
      rw [e1, e1', e2', i1, i2, i3, hp.2 hn]
      exact ⟨rfl, hM⟩
theorem law_set_mc {x : Int32} {pg pgT : Nat → Bool} (hp : ∀ k, k < 32768 → x = nI k → va_up pg (k / 256) true = pgT) : ∀ k, k < 32768 → x = nI k → pg (k / 256) = false → 2 ≤ 2 * (cntp pgT - cntp pg) ∧ 257 ≤ 257 * (cntp pgT - cntp pg) := by
  intro k hk ex h0
  have h := cntp_up (pg := pg) (k := k / 256) (by omega)
  rw [if_neg (by rw [h0]; decide), hp k hk ex] at h
  omega
theorem law_go_mc {cw : Nat → Nat} {wn : Nat} {x a d : Int32} {nx : Nat} {M : Nat → Int32} {pg pgT : Nat → Bool} (hp : ∀ N, N ≤ 2000 → x = nI N → (prun cw wn N (a, d, nx, M, pg)).2.2.2.2.2 = pgT) : ∀ N, N ≤ 2000 → x = nI N → 2 * (cntp (prun cw wn N (a, d, nx, M, pg)).2.2.2.2.2 - cntp pg) ≤ 2 * (cntp pgT - cntp pg) ∧ 257 * (cntp (prun cw wn N (a, d, nx, M, pg)).2.2.2.2.2 - cntp pg) ≤ 257 * (cntp pgT - cntp pg) := by
  intro N hN ex
  rw [hp N hN ex]
  exact ⟨Nat.le_refl _, Nat.le_refl _⟩
theorem law_code {x r1 r2 : Int32} {w : Nat} {pw cd : Nat → Int32} {cw : Nat → Nat} (hw : w ≤ 600) (hp : ∀ i, i < w → pw i = nI (cw i) ∧ cw i < 65536) (hc : ∀ i, i < w → cd i = nI (cw i)) (h1 : (∀ j, j < w → x = nI j → r1 = pw j) ∧ ((x < 0 ∨ nI w ≤ x) → r1 = -1)) (h2 : (∀ j, j < w → x = nI j → r2 = cd j) ∧ ((x < 0 ∨ nI w ≤ x) → r2 = -1)) : r1 = r2 := by
  rcases pk_ix x (n := w) (by omega) with q | q | ⟨j, hj, q⟩
  · rw [h1.2 (Or.inl q), h2.2 (Or.inl q)]
  · rw [h1.2 (Or.inr q), h2.2 (Or.inr q)]
  · rw [h1.1 j hj q, h2.1 j hj q, (hp j hj).1, hc j hj]
theorem law_store {x r1 r2 : Int32} {M : Nat → Int32} (h1 : (∀ k, k < 32768 → x = nI k → r1 = M k) ∧ (¬ inM x → r1 = nI 100000)) (h2 : (∀ k, k < 32768 → x = nI k → r2 = M k) ∧ (¬ inM x → r2 = nI 100000)) : r1 = r2 := by
  by_cases h : inM x
  · obtain ⟨k, hk, e⟩ := inM_of h
    rw [h1.1 k hk e, h2.1 k hk e]
  · rw [h1.2 h, h2.2 h]
theorem law_reg {x r1 r2 v0 v1 v2 v3 v4 v5 v6 : Int32} (h1 : (x = nI 0 → r1 = v0) ∧ (x = nI 1 → r1 = v1) ∧ (x = nI 2 → r1 = v2) ∧ (x = nI 3 → r1 = v3) ∧ (x = nI 4 → r1 = v4) ∧ (x = nI 5 → r1 = v5) ∧ (x = nI 6 → r1 = v6) ∧ ((x < 0 ∨ nI 7 ≤ x) → r1 = nI 100000)) (h2 : (x = nI 0 → r2 = v0) ∧ (x = nI 1 → r2 = v1) ∧ (x = nI 2 → r2 = v2) ∧ (x = nI 3 → r2 = v3) ∧ (x = nI 4 → r2 = v4) ∧ (x = nI 5 → r2 = v5) ∧ (x = nI 6 → r2 = v6) ∧ ((x < 0 ∨ nI 7 ≤ x) → r2 = nI 100000)) : r1 = r2 := by
  obtain ⟨a0, a1, a2, a3, a4, a5, a6, a7⟩ := h1
  obtain ⟨b0, b1, b2, b3, b4, b5, b6, b7⟩ := h2
  rcases pk_ix x (n := 7) (by decide) with q | q | ⟨j, hj, q⟩
  · rw [a7 (Or.inl q), b7 (Or.inl q)]
  · rw [a7 (Or.inr q), b7 (Or.inr q)]
  · rcases (show j = 0 ∨ j = 1 ∨ j = 2 ∨ j = 3 ∨ j = 4 ∨ j = 5 ∨ j = 6 by omega) with rfl | rfl | rfl | rfl | rfl | rfl | rfl
    · rw [a0 q, b0 q]
    · rw [a1 q, b1 q]
    · rw [a2 q, b2 q]
    · rw [a3 q, b3 q]
    · rw [a4 q, b4 q]
    · rw [a5 q, b5 q]
    · rw [a6 q, b6 q]
theorem law_sw (x : Int32) : ∃ j : Nat, j < 8 ∧ x &&& nI 7 = nI j := ⟨x.toBitVec.toNat % 2 ^ 3, Nat.mod_lt _ (by decide), pk_and x 3 (by decide)⟩
theorem memOK_0 (g : sdG) (fE : Nat → va_E) : memOK g (fun _ => none) [] fE (fun _ => 0) (fun _ => false) := ⟨fun i _ => Or.inl ⟨rfl, rfl, fun _ _ => rfl⟩, fun i i' a a' b _ _ h => nomatch h⟩
theorem cntp_0 : cntp (fun _ => false) = 0 := by decide +kernel
theorem TX_0 (f : Nat → Int32) : TXok 0 f (fun _ => 10) := ⟨Nat.zero_le _, fun _ => (by decide : 10 < 256), fun i h => absurd h (Nat.not_lt_zero _), fun _ _ => rfl⟩
