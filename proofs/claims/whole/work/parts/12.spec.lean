/-! the tables, and what reading an instruction does -/
def sd_known : List (List Nat × Nat) := [([82, 48], 0), ([82, 49], 1), ([82, 50], 2), ([82, 51], 3), ([82, 52], 4), ([82, 53], 5), ([82, 54], 6), ([82, 55], 7), ([82, 56], 8), ([82, 57], 9), ([82, 49, 48], 10), ([82, 49, 49], 11), ([82, 49, 50], 12), ([82, 49, 51], 13), ([82, 49, 52], 14), ([82, 49, 53], 15), ([83, 80], 0), ([76, 67, 76], 1), ([65, 82, 71], 2), ([84, 72, 73, 83], 3), ([84, 72, 65, 84], 4), ([83, 67, 82, 69, 69, 78], 16384), ([75, 66, 68], 24576)]
def sd_dest : List (List Nat × Nat) := [([77], 0), ([68], 1), ([77, 68], 2), ([65], 3), ([65, 77], 4), ([65, 68], 5), ([65, 77, 68], 6)]
def sd_jump : List (List Nat × Nat) := [([74, 71, 84], 0), ([74, 69, 81], 1), ([74, 71, 69], 2), ([74, 76, 84], 3), ([74, 78, 69], 4), ([74, 76, 69], 5), ([74, 77, 80], 6)]
def sd_cA : List (List Nat × Nat) := [([48], 2688), ([49], 4032), ([45, 49], 3712), ([68], 768), ([65], 3072), ([33, 68], 832), ([33, 65], 3136), ([45, 68], 960), ([45, 65], 3264), ([68, 43, 49], 1984), ([65, 43, 49], 3520), ([68, 45, 49], 896), ([65, 45, 49], 3200), ([68, 43, 65], 128), ([68, 45, 65], 1216), ([65, 45, 68], 448), ([68, 38, 65], 0), ([68, 124, 65], 1344)]
def sd_cM : List (List Nat × Nat) := [([77], 7168), ([33, 77], 7232), ([45, 77], 7360), ([77, 43, 49], 7616), ([77, 45, 49], 7296), ([68, 43, 77], 4224), ([68, 45, 77], 5312), ([77, 45, 68], 4544), ([68, 38, 77], 4096), ([68, 124, 77], 5440)]
def sd_comp : List (List Nat × Nat) := sd_cA ++ sd_cM
/-- the first row whose name M holds of: what it says + 1; 0 if there is none -/
noncomputable def lk (M : List Nat → Prop) : List (List Nat × Nat) → Nat
  | [] => 0
  | p :: ps => @ite _ (M p.1) (Classical.propDecidable _) (p.2 + 1) (lk M ps)
theorem lk_t {M : List Nat → Prop} {p : List Nat × Nat} {ps : List (List Nat × Nat)} (h : M p.1) : lk M (p :: ps) = p.2 + 1 := @if_pos _ (Classical.propDecidable _) h _ _ _
theorem lk_f {M : List Nat → Prop} {p : List Nat × Nat} {ps : List (List Nat × Nat)} (h : ¬ M p.1) : lk M (p :: ps) = lk M ps := @if_neg _ (Classical.propDecidable _) h _ _ _
theorem lk_app {M : List Nat → Prop} {a b : List (List Nat × Nat)} : lk M (a ++ b) = if lk M a = 0 then lk M b else lk M a := by
  induction a with
  | nil => rfl
  | cons p ps ih =>
    by_cases h : M p.1
    · rw [List.cons_append, lk_t h, lk_t h]; rfl
    · rw [List.cons_append, lk_f h, lk_f h]; exact ih
theorem lk_le {M : List Nat → Prop} {B : Nat} {ps : List (List Nat × Nat)} (h : ∀ p, p ∈ ps → p.2 < B) : lk M ps ≤ B := by
  induction ps with
  | nil => exact Nat.zero_le _
  | cons p ps ih =>
    by_cases q : M p.1
    · rw [lk_t q]; exact h p List.mem_cons_self
    · rw [lk_f q]; exact ih (fun x hx => h x (List.mem_cons_of_mem _ hx))
theorem lk_none {M : List Nat → Prop} {ps : List (List Nat × Nat)} (h : ∀ p, p ∈ ps → ¬ M p.1) : lk M ps = 0 := by
  induction ps with
  | nil => rfl
  | cons p ps ih => rw [lk_f (h p List.mem_cons_self)]; exact ih (fun x hx => h x (List.mem_cons_of_mem _ hx))
/-- a row that M holds of, and of no other name -/
theorem lk_some {M : List Nat → Prop} {ps : List (List Nat × Nat)} {p : List Nat × Nat} (hp : p ∈ ps) (hM : M p.1) (hu : ∀ q, q ∈ ps → M q.1 → q.2 = p.2) : lk M ps = p.2 + 1 := by
  induction ps with
  | nil => cases hp
  | cons x ps ih =>
    by_cases q : M x.1
    · rw [lk_t q, hu x List.mem_cons_self q]
    · rw [lk_f q]
      rcases List.mem_cons.mp hp with e | e
      · exact absurd (e ▸ hM) q
      · exact ih e (fun y hy => hu y (List.mem_cons_of_mem _ hy))
theorem nmF_lk {M : List Nat → Prop} : ∀ (ps : List (List Nat × Nat)) (k : Nat), (nmF M (ps.map Prod.fst) k = -1 ∧ lk M ps = 0) ∨ ∃ j, j < ps.length ∧ nmF M (ps.map Prod.fst) k = nI (k + j) ∧ lk M ps = (ps.getD j ([], 0)).2 + 1 := by
  intro ps
  induction ps with
  | nil => intro k; exact Or.inl ⟨rfl, rfl⟩
  | cons p ps ih =>
    intro k
    by_cases h : M p.1
    · refine Or.inr ⟨0, by simp, ?_, ?_⟩
      · rw [List.map_cons, nmF_t h]; rfl
      · rw [lk_t h]; rfl
    · rw [List.map_cons, nmF_f h, lk_f h]
      rcases ih (k + 1) with q | ⟨j, h1, h2, h3⟩
      · exact Or.inl q
      · refine Or.inr ⟨j + 1, by simp; omega, ?_, ?_⟩
        · rw [h2, Nat.add_assoc, Nat.add_comm 1 j]
        · rw [h3]; rfl
theorem sd_nm_k : sd_nm.getD 0 [] = sd_known.map Prod.fst ∧ sd_nm.getD 1 [] = sd_dest.map Prod.fst ∧ sd_nm.getD 2 [] = sd_jump.map Prod.fst ∧ sd_nm.getD 3 [] = sd_cA.map Prod.fst ∧ sd_nm.getD 4 [] = sd_cM.map Prod.fst := by decide +kernel
theorem sd_known_lt : ∀ p, p ∈ sd_known → p.2 < 24577 := by decide +kernel
theorem sd_dest_lt : ∀ p, p ∈ sd_dest → p.2 < 7 := by decide +kernel
theorem sd_jump_lt : ∀ p, p ∈ sd_jump → p.2 < 7 := by decide +kernel
theorem sd_comp_lt : ∀ p, p ∈ sd_comp → p.2 < 8129 := by decide +kernel
theorem sd_cA_lt : ∀ p, p ∈ sd_cA → p.2 < 8129 := by decide +kernel
theorem sd_cM_lt : ∀ p, p ∈ sd_cM → p.2 < 8129 := by decide +kernel
theorem sd_KN_ok : ∀ j, j < 23 → sd_KN.getD j 0 = nI ((sd_known.getD j ([], 0)).2) := by decide +kernel
theorem sd_BA_ok : ∀ j, j < 18 → nI 64 * sd_BA.getD j 0 = nI ((sd_cA.getD j ([], 0)).2) ∧ ¬ sd_BA.getD j 0 < 0 := by decide +kernel
theorem sd_BM_ok : ∀ j, j < 10 → nI 4096 + nI 64 * sd_BM.getD j 0 = nI ((sd_cM.getD j ([], 0)).2) ∧ ¬ sd_BM.getD j 0 < 0 := by decide +kernel
theorem sd_dest_ix : ∀ j, j < 7 → (sd_dest.getD j ([], 0)).2 = j := by decide +kernel
theorem sd_jump_ix : ∀ j, j < 7 → (sd_jump.getD j ([], 0)).2 = j := by decide +kernel
/-- a symbol is written from a to z -/
def syP (tx : Nat → Nat) (a z : Nat) : Prop := a < z ∧ z ≤ a + 16 ∧ ¬ isDg (tx a) ∧ ∀ j, a ≤ j → j < z → isSy (tx j)
/-- a number is written from a to z -/
def nuP (tx : Nat → Nat) (a z : Nat) : Prop := a < z ∧ z ≤ a + 5 ∧ (∀ j, a ≤ j → j < z → isDg (tx j)) ∧ nV tx a (z - a) ≤ 32767
noncomputable def knK (tx : Nat → Nat) (a z : Nat) : Nat := lk (nmM tx a z) sd_known
noncomputable def spAddr (tx : Nat → Nat) (a z : Nat) (st : AS) : Nat × AS :=
  @ite _ (syP tx a z) (Classical.propDecidable _)
    (if 600 ≤ wn st then (2, st) else if knK tx a z = 0 then (if (syO tx st a (z - a)).1 = 0 then (2, (syO tx st a (z - a)).2) else (0, pushW (syO tx st a (z - a)).2 0 (syO tx st a (z - a)).1)) else (0, pushW st (knK tx a z - 1) 0))
    (@ite _ (nuP tx a z) (Classical.propDecidable _) (if 600 ≤ wn st then (2, st) else (0, pushW st (nV tx a (z - a)) 0)) (1, st))
noncomputable def spLabel (tx : Nat → Nat) (a z : Nat) (st : AS) : Nat × AS :=
  @ite _ (syP tx a z ∧ tx z = 41) (Classical.propDecidable _)
    (if knK tx a z = 0 then (if (syO tx st a (z - a)).1 = 0 then (2, (syO tx st a (z - a)).2) else if sv (syO tx st a (z - a)).2 ((syO tx st a (z - a)).1 - 1) = 0 then (0, tellS (syO tx st a (z - a)).2 ((syO tx st a (z - a)).1 - 1) (wn st + 1)) else (3, (syO tx st a (z - a)).2)) else (3, st))
    (1, st)
noncomputable def oF (tx : Nat → Nat) (c a e : Nat) : Nat := ff (fun j => tx j = c) (e - a) a
noncomputable def oD (tx : Nat → Nat) (a e : Nat) : Nat := lk (nmM tx a (oF tx 61 a e)) sd_dest
noncomputable def oJ (tx : Nat → Nat) (a e : Nat) : Nat := lk (nmM tx (oF tx 59 a e + 1) e) sd_jump
noncomputable def oC (tx : Nat → Nat) (a e : Nat) : Nat := lk (nmM tx (if oF tx 61 a e < e then oF tx 61 a e + 1 else a) (oF tx 59 a e)) sd_comp
noncomputable def spOther (tx : Nat → Nat) (a e : Nat) (st : AS) : Nat × AS :=
  if (oF tx 61 a e < e ∧ oD tx a e = 0) ∨ (oF tx 59 a e < e ∧ oJ tx a e = 0) ∨ oC tx a e = 0 then (1, st) else if 600 ≤ wn st then (2, st) else (0, pushW st (57344 + (oC tx a e - 1) + 8 * (if oF tx 61 a e < e then oD tx a e else 0) + (if oF tx 59 a e < e then oJ tx a e else 0)) 0)
noncomputable def spTake (tx : Nat → Nat) (a e : Nat) (st : AS) : Nat × AS :=
  if tx a = 64 then spAddr tx (a + 1) e st else if tx a = 40 then spLabel tx (a + 1) (e - 1) st else spOther tx a e st
theorem cl_t {α : Type} {P : Prop} {x y : α} (h : P) : @ite _ P (Classical.propDecidable _) x y = x := @if_pos _ (Classical.propDecidable _) h _ _ _
theorem cl_f {α : Type} {P : Prop} {x y : α} (h : ¬ P) : @ite _ P (Classical.propDecidable _) x y = y := @if_neg _ (Classical.propDecidable _) h _ _ _
theorem syO_fst {tx : Nat → Nat} {st : AS} {a n : Nat} : (syO tx st a n).2.1 = st.1 := by
  unfold syO
  split
  · rfl
  · split <;> rfl
theorem syO_le {tx : Nat → Nat} {st : AS} {a n : Nat} (h40 : sn st ≤ 40) : (syO tx st a n).1 ≤ sn (syO tx st a n).2 ∧ sn (syO tx st a n).2 ≤ 40 := by
  unfold syO
  split
  · exact ⟨by assumption, h40⟩
  · split
    · exact ⟨Nat.zero_le _, h40⟩
    · exact ⟨Nat.le_refl _, by show sn st + 1 ≤ 40; omega⟩
theorem PR_push {st : AS} {pw : Nat → Int32} {c y : Nat} (h : PR st pw) (hlt : wn st < 600) : PR (pushW st c y) (upd pw (wn st) (nI (encW c y))) := by
  refine ⟨(by show wn st + 1 ≤ 600; omega), fun i hi => ?_⟩
  have hi : i < wn st + 1 := hi
  show upd pw (wn st) (nI (encW c y)) i = nI (encW (va_up (wc st) (wn st) c i) (va_up (wy st) (wn st) y i))
  rcases Nat.lt_or_ge i (wn st) with q | q
  · have hne : i ≠ wn st := by omega
    rw [pk_un hne, va_up_ne _ _ hne, va_up_ne _ _ hne]
    exact h.2 i q
  · have : i = wn st := by omega
    subst this
    rw [pk_us, va_up_self, va_up_self]
theorem PR_of {st st' : AS} {pw : Nat → Int32} (h : PR st pw) (e : st'.1 = st.1) : PR st' pw := by
  obtain ⟨a, b⟩ := st'
  have e : a = st.1 := e
  subst e
  exact h
