/-! reading a text: what it does to the state; what a state keeps -/
/-- how many of the symbols below t are untold -/
def cnt0 (st : AS) : Nat → Nat
  | 0 => 0
  | t + 1 => cnt0 st t + if sv st t = 0 then 1 else 0
/-- a symbol's number in the end -/
def sF (st : AS) (t : Nat) : Nat := if sv st t = 0 then 16 + cnt0 st t else sv st t - 1
/-- a word in the end -/
def fin (st : AS) (i : Nat) : Nat := if wy st i = 0 then wc st i else sF st (wy st i - 1)
noncomputable def asm (tx : Nat → Nat) (n : Nat) : Nat → Nat → Nat → AS → Nat × Nat × AS
  | 0, k, _, st => (0, k, st)
  | f + 1, k, h, st =>
    if n ≤ k then (0, k, st)
    else if tx k = 10 then asm tx n f (k + 1) 0 st
    else if tx k = 9 ∨ tx k = 13 ∨ tx k = 32 then asm tx n f (k + 1) h st
    else if tx k = 47 ∧ tx (k + 1) = 47 then asm tx n f (ff (fun j => tx j = 10) (n - k) k) h st
    else if h = 0 then
      (if (spTake tx k (ff (isSt tx) (n - k) k) st).1 = 0 then asm tx n f (ff (isSt tx) (n - k) k) 1 (spTake tx k (ff (isSt tx) (n - k) k) st).2
       else ((spTake tx k (ff (isSt tx) (n - k) k) st).1, k, (spTake tx k (ff (isSt tx) (n - k) k) st).2))
    else (1, k, st)
def E0 : AS := ((0, fun _ => 0, fun _ => 0), (0, fun _ => 0, fun _ => 0, fun _ => 0))
/-- what every state of a reading keeps -/
def AInv (st : AS) : Prop := wn st ≤ 600 ∧ sn st ≤ 40 ∧ (∀ w, w < wn st → wc st w < 65536 ∧ wy st w ≤ sn st) ∧ (∀ t, t < sn st → sv st t ≤ 601) ∧
  ∀ t, t < sn st → sv st t = 0 → ∃ w0, w0 < wn st ∧ wy st w0 = t + 1 ∧ ∀ w, w < w0 → wy st w ≤ t
theorem AInv_E0 : AInv E0 := ⟨Nat.zero_le _, Nat.zero_le _, fun _ h => absurd h (Nat.not_lt_zero _), fun _ h => absurd h (Nat.not_lt_zero _), fun _ h => absurd h (Nat.not_lt_zero _)⟩
theorem AInv_push {st : AS} {c y : Nat} (h : AInv st) (hlt : wn st < 600) (hc : c < 65536) (hy : y ≤ sn st) : AInv (pushW st c y) := by
  obtain ⟨h1, h2, h3, h4, h5⟩ := h
  refine ⟨(by show wn st + 1 ≤ 600; omega), h2, fun w hw => ?_, h4, fun t ht h0 => ?_⟩
  · have hw : w < wn st + 1 := hw
    show va_up (wc st) (wn st) c w < 65536 ∧ va_up (wy st) (wn st) y w ≤ sn st
    by_cases e : w = wn st
    · subst e; rw [va_up_self, va_up_self]; exact ⟨hc, hy⟩
    · rw [va_up_ne _ _ e, va_up_ne _ _ e]; exact h3 w (by omega)
  · obtain ⟨w0, a1, a2, a3⟩ := h5 t ht h0
    refine ⟨w0, (by show w0 < wn st + 1; omega), ?_, fun w hw => ?_⟩
    · show va_up (wy st) (wn st) y w0 = t + 1
      rw [va_up_ne _ _ (by omega)]; exact a2
    · show va_up (wy st) (wn st) y w ≤ t
      rw [va_up_ne _ _ (by omega)]; exact a3 w hw
theorem AInv_tell {st : AS} {k v : Nat} (h : AInv st) (hv : v ≤ 600) : AInv (tellS st k (v + 1)) := by
  obtain ⟨h1, h2, h3, h4, h5⟩ := h
  refine ⟨h1, h2, h3, fun t ht => ?_, fun t ht h0 => ?_⟩
  · show va_up (sv st) k (v + 1) t ≤ 601
    by_cases e : t = k
    · subst e; rw [va_up_self]; omega
    · rw [va_up_ne _ _ e]; exact h4 t ht
  · have h0 : va_up (sv st) k (v + 1) t = 0 := h0
    by_cases e : t = k
    · subst e; rw [va_up_self] at h0; omega
    · rw [va_up_ne _ _ e] at h0; exact h5 t ht h0
theorem AInv_addp {st : AS} {a n : Nat} (h : AInv st) (hlt : wn st < 600) (h40 : sn st < 40) : AInv (pushW (addS st a n 0) 0 (sn st + 1)) := by
  obtain ⟨h1, h2, h3, h4, h5⟩ := h
  refine ⟨(by show wn st + 1 ≤ 600; omega), (by show sn st + 1 ≤ 40; omega), fun w hw => ?_, fun t ht => ?_, fun t ht h0 => ?_⟩
  · have hw : w < wn st + 1 := hw
    show va_up (wc st) (wn st) 0 w < 65536 ∧ va_up (wy st) (wn st) (sn st + 1) w ≤ sn st + 1
    by_cases e : w = wn st
    · subst e; rw [va_up_self, va_up_self]; exact ⟨by decide, Nat.le_refl _⟩
    · rw [va_up_ne _ _ e, va_up_ne _ _ e]; have := h3 w (by omega); exact ⟨this.1, by omega⟩
  · have ht : t < sn st + 1 := ht
    show va_up (sv st) (sn st) 0 t ≤ 601
    by_cases e : t = sn st
    · subst e; rw [va_up_self]; omega
    · rw [va_up_ne _ _ e]; exact h4 t (by omega)
  · have ht : t < sn st + 1 := ht
    have h0 : va_up (sv st) (sn st) 0 t = 0 := h0
    by_cases e : t = sn st
    · refine ⟨wn st, (by show wn st < wn st + 1; omega), ?_, fun w hw => ?_⟩
      · show va_up (wy st) (wn st) (sn st + 1) (wn st) = t + 1
        rw [va_up_self, e]
      · show va_up (wy st) (wn st) (sn st + 1) w ≤ t
        rw [va_up_ne _ _ (by omega), e]; exact (h3 w hw).2
    · rw [va_up_ne _ _ e] at h0
      obtain ⟨w0, a1, a2, a3⟩ := h5 t (by omega) h0
      refine ⟨w0, (by show w0 < wn st + 1; omega), ?_, fun w hw => ?_⟩
      · show va_up (wy st) (wn st) (sn st + 1) w0 = t + 1
        rw [va_up_ne _ _ (by omega)]; exact a2
      · show va_up (wy st) (wn st) (sn st + 1) w ≤ t
        rw [va_up_ne _ _ (by omega)]; exact a3 w hw
theorem AInv_addt {st : AS} {a n v : Nat} (h : AInv st) (h40 : sn st < 40) (hv : v ≤ 600) : AInv (tellS (addS st a n 0) (sn st) (v + 1)) := by
  obtain ⟨h1, h2, h3, h4, h5⟩ := h
  refine ⟨h1, (by show sn st + 1 ≤ 40; omega), fun w hw => ?_, fun t ht => ?_, fun t ht h0 => ?_⟩
  · have := h3 w hw; exact ⟨this.1, by show wy st w ≤ sn st + 1; omega⟩
  · have ht : t < sn st + 1 := ht
    show va_up (va_up (sv st) (sn st) 0) (sn st) (v + 1) t ≤ 601
    by_cases e : t = sn st
    · subst e; rw [va_up_self]; omega
    · rw [va_up_ne _ _ e, va_up_ne _ _ e]; exact h4 t (by omega)
  · have ht : t < sn st + 1 := ht
    have h0 : va_up (va_up (sv st) (sn st) 0) (sn st) (v + 1) t = 0 := h0
    by_cases e : t = sn st
    · subst e; rw [va_up_self] at h0; omega
    · rw [va_up_ne _ _ e, va_up_ne _ _ e] at h0
      exact h5 t (by omega) h0
theorem syO_cases {tx : Nat → Nat} {st : AS} {a n : Nat} : (∃ k, k < sn st ∧ syO tx st a n = (k + 1, st)) ∨ syO tx st a n = (0, st) ∨ (sn st < 40 ∧ syO tx st a n = (sn st + 1, addS st a n 0)) := by
  unfold syO
  split
  · exact Or.inl ⟨_, by assumption, rfl⟩
  · split
    · exact Or.inr (Or.inl rfl)
    · exact Or.inr (Or.inr ⟨by omega, rfl⟩)
theorem spTake_inv {tx : Nat → Nat} {a e : Nat} {st : AS} (h : AInv st) (h0 : (spTake tx a e st).1 = 0) : AInv (spTake tx a e st).2 := by
  have h600 := h.1
  unfold spTake at h0 ⊢
  split at h0
  · rename_i c1; rw [if_pos c1]
    unfold spAddr at h0 ⊢
    by_cases p1 : syP tx (a + 1) e
    · rw [cl_t p1] at h0 ⊢
      by_cases p2 : 600 ≤ wn st
      · rw [if_pos p2] at h0; simp at h0
      · rw [if_neg p2] at h0 ⊢
        by_cases p3 : knK tx (a + 1) e = 0
        · rw [if_pos p3] at h0 ⊢
          rcases syO_cases (tx := tx) (st := st) (a := a + 1) (n := e - (a + 1)) with ⟨k, hk, e1⟩ | e1 | ⟨hk, e1⟩
          · rw [e1] at h0 ⊢
            exact AInv_push (st := st) h (by omega) (by decide) hk
          · rw [e1] at h0; simp at h0
          · rw [e1] at h0 ⊢
            exact AInv_addp h (by omega) hk
        · rw [if_neg p3] at h0 ⊢
          have := knK_le (tx := tx) (a := a + 1) (z := e)
          exact AInv_push h (by omega) (by omega) (Nat.zero_le _)
    · rw [cl_f p1] at h0 ⊢
      by_cases p4 : nuP tx (a + 1) e
      · rw [cl_t p4] at h0 ⊢
        by_cases p2 : 600 ≤ wn st
        · rw [if_pos p2] at h0; simp at h0
        · rw [if_neg p2] at h0 ⊢
          have := p4.2.2.2
          exact AInv_push h (by omega) (by omega) (Nat.zero_le _)
      · rw [cl_f p4] at h0; simp at h0
  · rename_i c1; rw [if_neg c1]
    split at h0
    · rename_i c2; rw [if_pos c2]
      unfold spLabel at h0 ⊢
      by_cases p1 : syP tx (a + 1) (e - 1) ∧ tx (e - 1) = 41
      · rw [cl_t p1] at h0 ⊢
        by_cases p3 : knK tx (a + 1) (e - 1) = 0
        · rw [if_pos p3] at h0 ⊢
          rcases syO_cases (tx := tx) (st := st) (a := a + 1) (n := e - 1 - (a + 1)) with ⟨k, hk, e1⟩ | e1 | ⟨hk, e1⟩
          · rw [e1] at h0 ⊢
            rw [if_neg (Nat.succ_ne_zero k)] at h0 ⊢
            by_cases p5 : sv (k + 1, st).2 ((k + 1, st).1 - 1) = 0
            · rw [if_pos p5] at h0 ⊢
              exact AInv_tell h h600
            · rw [if_neg p5] at h0; simp at h0
          · rw [e1] at h0; simp at h0
          · rw [e1] at h0 ⊢
            rw [if_neg (Nat.succ_ne_zero _)] at h0 ⊢
            by_cases p5 : sv (sn st + 1, addS st (a + 1) (e - 1 - (a + 1)) 0).2 ((sn st + 1, addS st (a + 1) (e - 1 - (a + 1)) 0).1 - 1) = 0
            · rw [if_pos p5] at h0 ⊢
              exact AInv_addt h hk h600
            · rw [if_neg p5] at h0; simp at h0
        · rw [if_neg p3] at h0; simp at h0
      · rw [cl_f p1] at h0; simp at h0
    · rename_i c2; rw [if_neg c2]
      unfold spOther at h0 ⊢
      split at h0
      · simp at h0
      · rename_i c3; rw [if_neg c3]
        split at h0
        · simp at h0
        · rename_i c4; rw [if_neg c4]
          have d1 : oC tx a e ≤ 8129 := lk_le sd_comp_lt
          have d2 : oD tx a e ≤ 7 := lk_le sd_dest_lt
          have d3 : oJ tx a e ≤ 7 := lk_le sd_jump_lt
          refine AInv_push h (by omega) ?_ (Nat.zero_le _)
          split <;> split <;> omega
theorem asm_inv {tx : Nat → Nat} {n : Nat} : ∀ (f k h : Nat) (st : AS), AInv st → (asm tx n f k h st).1 = 0 → AInv (asm tx n f k h st).2.2 := by
  intro f
  induction f with
  | zero => intro k h st hi _; exact hi
  | succ f ih =>
    intro k h st hi h0
    unfold asm at h0 ⊢
    split at h0
    · rename_i c1; rw [if_pos c1]; exact hi
    · rename_i c1; rw [if_neg c1]
      split at h0
      · rename_i c2; rw [if_pos c2]; exact ih _ _ _ hi h0
      · rename_i c2; rw [if_neg c2]
        split at h0
        · rename_i c3; rw [if_pos c3]; exact ih _ _ _ hi h0
        · rename_i c3; rw [if_neg c3]
          split at h0
          · rename_i c4; rw [if_pos c4]; exact ih _ _ _ hi h0
          · rename_i c4; rw [if_neg c4]
            split at h0
            · rename_i c5; rw [if_pos c5]
              split at h0
              · rename_i c6; rw [if_pos c6]; exact ih _ _ _ (spTake_inv hi c6) h0
              · rename_i c6; exact absurd h0 c6
            · simp at h0
theorem cnt0_le (st : AS) (t : Nat) : cnt0 st t ≤ t := by
  induction t with
  | zero => exact Nat.le_refl _
  | succ t ih => show cnt0 st t + (if sv st t = 0 then 1 else 0) ≤ t + 1; split <;> omega
theorem cnt0_eq {st : AS} {a : Nat} : ∀ (d : Nat), (∀ t, a ≤ t → t < a + d → ¬ sv st t = 0) → cnt0 st (a + d) = cnt0 st a := by
  intro d
  induction d with
  | zero => intro _; rfl
  | succ d ih =>
    intro h
    show cnt0 st (a + d) + (if sv st (a + d) = 0 then 1 else 0) = cnt0 st a
    rw [if_neg (h (a + d) (by omega) (by omega)), ih (fun t h1 h2 => h t h1 (by omega)), Nat.add_zero]
theorem fill_key {st : AS} {i s T : Nat} (h : AInv st) (hi : i < wn st) (hs : wy st i = s + 1) (h7 : ∀ w, w < i → ¬ wy st w = 0 → sv st (wy st w - 1) = 0 → wy st w - 1 < T) : ∀ t, T ≤ t → t < s → ¬ sv st t = 0 := by
  intro t h1 h2 h0
  have hsn := (h.2.2.1 i hi).2
  obtain ⟨w0, a1, a2, a3⟩ := h.2.2.2.2 t (by omega) h0
  rcases Nat.lt_or_ge w0 i with q | q
  · have e : wy st w0 - 1 = t := by omega
    have := h7 w0 q (by omega) (by rw [e]; exact h0)
    omega
  · rcases Nat.lt_or_ge i w0 with q2 | q2
    · have := a3 i q2; omega
    · have : w0 = i := by omega
      subst this; omega
def mkS (st : AS) (v : Nat → Nat) : AS := (st.1, (sn st, sa st, sl st, v))
/-- the symbols' numbers when those below T have theirs -/
def svI (st : AS) (T : Nat) (v : Nat → Nat) : Prop := ∀ t, t < sn st → v t = if sv st t = 0 then (if t < T then 17 + cnt0 st t else 0) else sv st t
theorem svI_F {st : AS} {T t : Nat} {v : Nat → Nat} (h : svI st T v) (ht : t < sn st) (h0 : ¬ v t = 0) : nI (v t) - 1 = nI (sF st t) := by
  rw [m1_up h0]
  congr 1
  have e := h t ht
  unfold sF
  by_cases q : sv st t = 0
  · rw [if_pos q] at e ⊢
    by_cases q2 : t < T
    · rw [if_pos q2] at e; omega
    · rw [if_neg q2] at e; exact absurd e h0
  · rw [if_neg q] at e ⊢; omega
theorem svI_step {st : AS} {T s : Nat} {v : Nat → Nat} (h : svI st T v) (hs : s < sn st) (h0 : v s = 0) (hk : ∀ t, T ≤ t → t < s → ¬ sv st t = 0) : sv st s = 0 ∧ T ≤ s ∧ cnt0 st s = cnt0 st T ∧ svI st (s + 1) (va_up v s (16 + cnt0 st T + 1)) := by
  have e := h s hs
  have hz : sv st s = 0 := by
    by_cases q : sv st s = 0
    · exact q
    · rw [if_neg q] at e; omega
  rw [if_pos hz] at e
  have hT : T ≤ s := by
    rcases Nat.lt_or_ge s T with q | q
    · rw [if_pos q] at e; omega
    · exact q
  have hc : cnt0 st s = cnt0 st T := by
    have := cnt0_eq (st := st) (a := T) (s - T) (fun t h1 h2 => hk t h1 (by omega))
    rw [show T + (s - T) = s by omega] at this
    exact this
  refine ⟨hz, hT, hc, fun t ht => ?_⟩
  by_cases et : t = s
  · subst et
    rw [va_up_self, if_pos hz, if_pos (by omega), hc]; omega
  · rw [va_up_ne _ _ et, h t ht]
    by_cases q : sv st t = 0
    · rw [if_pos q, if_pos q]
      by_cases q2 : t < T
      · rw [if_pos q2, if_pos (by omega)]
      · rw [if_neg q2, if_neg]
        intro q3
        exact hk t (by omega) (by omega) q
    · rw [if_neg q, if_neg q]
theorem asm_end {tx : Nat → Nat} {n f k h : Nat} {st : AS} (hk : n ≤ k) : asm tx n f k h st = (0, k, st) := by
  cases f with
  | zero => rfl
  | succ f => unfold asm; rw [if_pos hk]
theorem asm_nl {tx : Nat → Nat} {n f k h : Nat} {st : AS} (hk : k < n) (h1 : tx k = 10) : asm tx n (f + 1) k h st = asm tx n f (k + 1) 0 st := by
  rw [asm, if_neg (by omega), if_pos h1]
theorem asm_bl {tx : Nat → Nat} {n f k h : Nat} {st : AS} (hk : k < n) (h2 : tx k = 9 ∨ tx k = 13 ∨ tx k = 32) : asm tx n (f + 1) k h st = asm tx n f (k + 1) h st := by
  rw [asm, if_neg (by omega), if_neg (by omega), if_pos h2]
theorem asm_cm {tx : Nat → Nat} {n f k h z : Nat} {st : AS} (hk : k < n) (h3 : tx k = 47 ∧ tx (k + 1) = 47) (h4 : k ≤ z) (h5 : z ≤ n) (h6 : ∀ j, k ≤ j → j < z → ¬ tx j = 10) (h7 : tx z = 10) : asm tx n (f + 1) k h st = asm tx n f z h st := by
  rw [asm, if_neg (by omega), if_neg (by omega), if_neg (by omega), if_pos h3, ff_eq (n - k) k z h4 (by omega) h6 (fun _ => h7)]
theorem asm_had {tx : Nat → Nat} {n f k h : Nat} {st : AS} (hk : k < n) (hs : ¬ isSt tx k) (hh : ¬ h = 0) : asm tx n (f + 1) k h st = (1, k, st) := by
  rw [asm, if_neg (by omega), if_neg (fun q => hs (Or.inl q)), if_neg (fun q => hs (Or.inr (Or.inl q))), if_neg (fun q => hs (Or.inr (Or.inr q))), if_neg hh]
theorem asm_take {tx : Nat → Nat} {n f k z c : Nat} {st st1 : AS} (hk : k < n) (hs : ¬ isSt tx k) (h4 : k ≤ z) (h5 : z ≤ n) (h6 : ∀ j, k ≤ j → j < z → ¬ isSt tx j) (h7 : isSt tx z) (ht : spTake tx k z st = (c, st1)) : asm tx n (f + 1) k 0 st = if c = 0 then asm tx n f z 1 st1 else (c, k, st1) := by
  rw [asm, if_neg (by omega), if_neg (fun q => hs (Or.inl q)), if_neg (fun q => hs (Or.inr (Or.inl q))), if_neg (fun q => hs (Or.inr (Or.inr q))), if_pos rfl, ff_eq (n - k) k z h4 (by omega) h6 (fun _ => h7), ht]
theorem spTake_3 {tx : Nat → Nat} {a e : Nat} {st : AS} : (spTake tx a e st).1 ≤ 3 := by
  unfold spTake
  split
  · unfold spAddr
    by_cases p1 : syP tx (a + 1) e
    · rw [cl_t p1]; split; · simp
      split
      · split <;> simp
      · simp
    · rw [cl_f p1]
      by_cases p2 : nuP tx (a + 1) e
      · rw [cl_t p2]; split <;> simp
      · rw [cl_f p2]; simp
  · split
    · unfold spLabel
      by_cases p1 : syP tx (a + 1) (e - 1) ∧ tx (e - 1) = 41
      · rw [cl_t p1]; split
        · split; · simp
          split <;> simp
        · simp
      · rw [cl_f p1]; simp
    · unfold spOther; split; · simp
      split <;> simp
theorem PR_E0 (pw : Nat → Int32) : PR E0 pw := ⟨Nat.zero_le _, fun _ h => absurd h (Nat.not_lt_zero _)⟩
theorem SR_E0 (s1 s2 s3 : Nat → Int32) : SR E0 s1 s2 s3 := ⟨Nat.zero_le _, fun _ h => absurd h (Nat.not_lt_zero _)⟩
