/-! ===== base: the constants that the worlds share; cuts, loops, reading calls, writing calls ===== -/
abbrev sdG : Type := va_G × (Nat × ClassId × ClassId × ClassId × ClassId) × ((Nat × Nat × Nat) × (Nat → Nat) × (Nat → Nat))
abbrev gS (g : sdG) : Nat := g.2.1.1
abbrev gB (g : sdG) : ClassId := g.2.1.2.1
abbrev gI (g : sdG) : ClassId := g.2.1.2.2.1
abbrev gP (g : sdG) : ClassId := g.2.1.2.2.2.1
abbrev gC (g : sdG) : ClassId := g.2.1.2.2.2.2
abbrev gt1 (g : sdG) : Nat := g.2.2.1.1
abbrev gt2 (g : sdG) : Nat := g.2.2.1.2.1
abbrev gt3 (g : sdG) : Nat := g.2.2.1.2.2
abbrev gk (g : sdG) : Nat → Nat := g.2.2.2.1
abbrev gv (g : sdG) : Nat → Nat := g.2.2.2.2
abbrev sdTy (g : sdG) : List (ClassId × FieldType) := [(gB g, .byte), (gI g, .int), (gP g, .object "SignDesk$Page"), (gC g, .char)]
abbrev sdK (g : sdG) (U : State) : Prop := va_K g.1 vwCl (sdTy g) U
abbrev sdP (g : sdG) (ws : va_W) (H : Heap) : Prop := va_P g.1 vwCl ws H
abbrev sdA (g : sdG) : Nat → Prop := fun q => gS g ≤ q
/-- the literals: known, dests, jumps, comps of A, comps of M -/
def sd_len : List Nat := [85, 18, 27, 58, 35]
def sd_byt : List (List Int32) := [[82, 48, 32, 82, 49, 32, 82, 50, 32, 82, 51, 32, 82, 52, 32, 82, 53, 32, 82, 54, 32, 82, 55, 32, 82, 56, 32, 82, 57, 32, 82, 49, 48, 32, 82, 49, 49, 32, 82, 49, 50, 32, 82, 49, 51, 32, 82, 49, 52, 32, 82, 49, 53, 32, 83, 80, 32, 76, 67, 76, 32, 65, 82, 71, 32, 84, 72, 73, 83, 32, 84, 72, 65, 84, 32, 83, 67, 82, 69, 69, 78, 32, 75, 66, 68], [77, 32, 68, 32, 77, 68, 32, 65, 32, 65, 77, 32, 65, 68, 32, 65, 77, 68], [74, 71, 84, 32, 74, 69, 81, 32, 74, 71, 69, 32, 74, 76, 84, 32, 74, 78, 69, 32, 74, 76, 69, 32, 74, 77, 80], [48, 32, 49, 32, 45, 49, 32, 68, 32, 65, 32, 33, 68, 32, 33, 65, 32, 45, 68, 32, 45, 65, 32, 68, 43, 49, 32, 65, 43, 49, 32, 68, 45, 49, 32, 65, 45, 49, 32, 68, 43, 65, 32, 68, 45, 65, 32, 65, 45, 68, 32, 68, 38, 65, 32, 68, 124, 65], [77, 32, 33, 77, 32, 45, 77, 32, 77, 43, 49, 32, 77, 45, 49, 32, 68, 43, 77, 32, 68, 45, 77, 32, 77, 45, 68, 32, 68, 38, 77, 32, 68, 124, 77]]
def sd_KN : List Int32 := [0, 1, 2, 3, 4, 5, 6, 7, 8, 9, 10, 11, 12, 13, 14, 15, 0, 1, 2, 3, 4, 16384, 24576]
def sd_BA : List Int32 := [42, 63, 58, 12, 48, 13, 49, 15, 51, 31, 55, 14, 50, 2, 19, 7, 0, 21]
def sd_BM : List Int32 := [48, 49, 51, 55, 50, 2, 19, 7, 0, 21]
/-- what nobody writes: statics, tables, literals, links of nest mates -/
def sdE (g : sdG) (U : State) (H : Heap) : Prop :=
  va_Z "java/lang/String" "COMPACT_STRINGS" "Z" (.int 1) (sdA g) U H ∧
  va_Zq "jdk/internal/util/Preconditions" "SIOOBE_FORMATTER" "Ljava/util/function/BiFunction;" (sdA g) U H ∧
  (va_Z "SignDesk$Reader" "KNOWN_NUMBERS" "[I" (.ref (gt1 g)) (sdA g) U H ∧ va_T .int (gt1 g) 23 (fun j => .int (sd_KN.getD j 0)) (sdA g) U H) ∧
  (va_Z "SignDesk$Reader" "BITS_OF_A" "[I" (.ref (gt2 g)) (sdA g) U H ∧ va_T .int (gt2 g) 18 (fun j => .int (sd_BA.getD j 0)) (sdA g) U H) ∧
  (va_Z "SignDesk$Reader" "BITS_OF_M" "[I" (.ref (gt3 g)) (sdA g) U H ∧ va_T .int (gt3 g) 10 (fun j => .int (sd_BM.getD j 0)) (sdA g) U H) ∧
  vk_S 5 sd_len sd_byt (gk g) (gv g) (sdA g) U H ∧
  (vk_R "SignDesk$Reader" 146 "R0 R1 R2 R3 R4 R5 R6 R7 R8 R9 R10 R11 R12 R13 R14 R15 SP LCL ARG THIS THAT SCREEN KBD" (gk g 0) U ∧ vk_R "SignDesk$Reader" 116 "M D MD A AM AD AMD" (gk g 1) U ∧ vk_R "SignDesk$Reader" 122 "JGT JEQ JGE JLT JNE JLE JMP" (gk g 2) U ∧ vk_R "SignDesk$Reader" 132 "0 1 -1 D A !D !A -D -A D+1 A+1 D-1 A-1 D+A D-A A-D D&A D|A" (gk g 3) U ∧ vk_R "SignDesk$Reader" 141 "M !M -M M+1 M-1 D+M D-M M-D D&M D|M" (gk g 4) U) ∧
  (va_Nw (.methodLinkNest "SignDesk" 9 ⟨"SignDesk$Text", "<init>", "()V"⟩ "SignDesk") U ∧ va_Nw (.methodLinkNest "SignDesk" 18 ⟨"SignDesk$Program", "<init>", "()V"⟩ "SignDesk") U ∧ va_Nw (.methodLinkNest "SignDesk$Processor" 17 ⟨"SignDesk$Memory", "<init>", "()V"⟩ "SignDesk") U ∧ va_Nw (.methodLinkNest "SignDesk$Memory" 24 ⟨"SignDesk$Page", "<init>", "()V"⟩ "SignDesk") U ∧ va_Nw (.fieldLinkNest "SignDesk$Memory" 20 "SignDesk$Page" "words" "[I" "SignDesk") U) ∧
  va_AO "SignDesk$Page" U
theorem sdE.kept {g : sdG} {U : State} {H H1 : Heap} (h : sdE g U H) (hq : ∀ a : Nat, a < H.size → ¬ sdA g a → H1[a]? = H[a]?) : sdE g U H1 := by
  obtain ⟨a1, a2, ⟨b1, b2⟩, ⟨c1, c2⟩, ⟨d1, d2⟩, e, f, n, o⟩ := h
  exact ⟨a1.kept hq, a2.kept hq, ⟨b1.kept hq, b2.kept hq⟩, ⟨c1.kept hq, c2.kept hq⟩, ⟨d1.kept hq, d2.kept hq⟩, e.kept hq, f, n, o⟩
theorem sdE.warm {g : sdG} {s U : State} {H : Heap} (hW : s.WarmedH U.vm) (h : sdE g s H) : sdE g U H := by
  obtain ⟨a1, a2, ⟨b1, b2⟩, ⟨c1, c2⟩, ⟨d1, d2⟩, e, ⟨f1, f2, f3, f4, f5⟩, ⟨n1, n2, n3, n4, n5⟩, o⟩ := h
  have hv := hW.alike
  exact ⟨a1.moved hv, a2.moved hv, ⟨b1.moved hv, b2.moved hv⟩, ⟨c1.moved hv, c2.moved hv⟩, ⟨d1.moved hv, d2.moved hv⟩, e.moved hv, ⟨f1.warm hW, f2.warm hW, f3.warm hW, f4.warm hW, f5.warm hW⟩, ⟨n1.warmM hW, n2.warmM hW, n3.warmM hW, n4.warmM hW, n5.warmF hW⟩, o.moved hv⟩
theorem sdE.same {g : sdG} {u U : State} {H : Heap} (hv : U.vm = u.vm) (h : sdE g u H) : sdE g U H := by
  obtain ⟨a1, a2, ⟨b1, b2⟩, ⟨c1, c2⟩, ⟨d1, d2⟩, e, ⟨f1, f2, f3, f4, f5⟩, ⟨n1, n2, n3, n4, n5⟩, o⟩ := h
  have ha : u.vm.Alike U.vm := by rw [hv]; exact Vm.Alike.refl u.vm
  exact ⟨a1.moved ha, a2.moved ha, ⟨b1.moved ha, b2.moved ha⟩, ⟨c1.moved ha, c2.moved ha⟩, ⟨d1.moved ha, d2.moved ha⟩, e.moved ha, ⟨f1.same hv, f2.same hv, f3.same hv, f4.same hv, f5.same hv⟩, ⟨n1.same rfl hv.symm, n2.same rfl hv.symm, n3.same rfl hv.symm, n4.same rfl hv.symm, n5.same rfl hv.symm⟩, o.moved ha⟩
/-- a reading method's start: cells wc -/
def sdR (g : sdG) (wc : va_W) (U : State) : Prop := sdP g wc U.heap ∧ sdK g U ∧ sdE g U U.heap
/-- a writing method's start -/
def sdU (g : sdG) (wc : va_W) (sz : Nat) (U : State) : Prop := U.heap.size = sz ∧ sdP g wc U.heap ∧ sdK g U ∧ sdE g U U.heap ∧ va_D (sdA g) wc ∧ gS g ≤ sz
/-- a writing method's end -/
def sdB (g : sdG) (wc : va_W) (sz : Nat) (w1 : va_W) (t : State) : Prop := sdP g w1 t.heap ∧ va_D (va_A wc sz) w1
theorem sd_blindR {g : sdG} {wc : va_W} {av : List Value} : FrameBlind (va_Pc av (sdR g wc)) := by
  intro a U gf mk ⟨q0, qP, qK, qE⟩
  exact ⟨q0, qP, va_K.moved (u := U) (U := U.calling gf mk a) (Vm.Alike.refl U.vm) qK, sdE.same (u := U) (U := U.calling gf mk a) rfl qE⟩
theorem sd_blindU {g : sdG} {wc : va_W} {sz : Nat} {av : List Value} : FrameBlind (va_Pc av (sdU g wc sz)) := by
  intro a U gf mk ⟨q0, qz, qP, qK, qE, qD, qs⟩
  exact ⟨q0, qz, qP, va_K.moved (u := U) (U := U.calling gf mk a) (Vm.Alike.refl U.vm) qK, sdE.same (u := U) (U := U.calling gf mk a) rfl qE, qD, qs⟩
section SdBase
variable {p : Program} {l : Launch} {e : Env} {R : Room} {s : State} {m : MethodId} {args : Array Value} {below : List Frame} {meth : Method} {c : Code} {H : Heap} {locs : List Loc} {cells slots : Nat} {Q : State → Prop} {pc : Nat} {ls : Array Slot} {rest : List Value} {g : sdG}
theorem sd_cut {σ : Type} (P : σ → Prop) (hp : σ → Heap) (lc : σ → List Loc) (ck cs : σ → Nat) (fr : σ → JFrame) {f : JFrame}
    (kj : ∀ x, P x → W p l e R s m args below meth c (hp x) (lc x) (ck x) (cs x) Q (fr x))
    (k : (∀ x, P x → W p l e R s m args below meth c (hp x) (lc x) (ck x) (cs x) Q (fr x)) → W p l e R s m args below meth c H locs cells slots Q f) :
    W p l e R s m args below meth c H locs cells slots Q f := k kj
/-- a cut at a place where one int lies on the stack: same locals, same heap -/
theorem sd_cutv (P : Int32 → Prop) (pj : Nat) (rj : List Value) {f : JFrame}
    (kj : ∀ x, P x → W p l e R s m args below meth c H locs cells slots Q (F0 m pj ls (.int x :: rj)))
    (k : (∀ x, P x → W p l e R s m args below meth c H locs cells slots Q (F0 m pj ls (.int x :: rj))) → W p l e R s m args below meth c H locs cells slots Q f) :
    W p l e R s m args below meth c H locs cells slots Q f := k kj
/-- a cut where the locals may have changed: same heap -/
theorem sd_cutl {σ : Type} (P : σ → Array Slot → Prop) (pj : Nat) (st : σ → List Value) {f : JFrame}
    (kj : ∀ x ls, P x ls → W p l e R s m args below meth c H locs cells slots Q (F0 m pj ls (st x)))
    (k : (∀ x ls, P x ls → W p l e R s m args below meth c H locs cells slots Q (F0 m pj ls (st x))) → W p l e R s m args below meth c H locs cells slots Q f) :
    W p l e R s m args below meth c H locs cells slots Q f := k kj
theorem sd_loop {σ : Type} (I : σ → Prop) (μ : σ → Nat) (hp : σ → Heap) (lc : σ → List Loc) (ck cs : σ → Nat) (fr : σ → JFrame)
    (hs : ∀ x, I x → (∀ y, I y → μ y < μ x → W p l e R s m args below meth c (hp y) (lc y) (ck y) (cs y) Q (fr y)) → W p l e R s m args below meth c (hp x) (lc x) (ck x) (cs x) Q (fr x)) :
    ∀ x, I x → W p l e R s m args below meth c (hp x) (lc x) (ck x) (cs x) Q (fr x) := by
  have key : ∀ (n : Nat) (x : σ), μ x < n → I x → W p l e R s m args below meth c (hp x) (lc x) (ck x) (cs x) Q (fr x) := by
    intro n
    induction n with
    | zero => intro x h; exact absurd h (Nat.not_lt_zero _)
    | succ n ih => intro x hn hI; exact hs x hI (fun y hy hlt => ih y (by omega) hy)
  exact fun x hI => key (μ x + 1) x (Nat.lt_succ_self _) hI
/-- a loop over locals alone: the heap stands -/
theorem sd_loopr {σ : Type} (I : σ → Array Slot → Prop) (μ : σ → Nat) (pj : Nat) (st : List Value)
    (hs : ∀ x ls, I x ls → (∀ y ls', I y ls' → μ y < μ x → W p l e R s m args below meth c H locs cells slots Q (F0 m pj ls' st)) → W p l e R s m args below meth c H locs cells slots Q (F0 m pj ls st))
    (x : σ) (h : I x ls) : W p l e R s m args below meth c H locs cells slots Q (F0 m pj ls st) :=
  sd_loop (σ := σ × Array Slot) (fun z => I z.1 z.2) (fun z => μ z.1) (fun _ => H) (fun _ => locs) (fun _ => cells) (fun _ => slots) (fun z => F0 m pj z.2 st)
    (fun z hz k => hs z.1 z.2 hz (fun y ls' hy hlt => k (y, ls') hy hlt)) (x, ls) h
theorem sd_topi {x y : Int32} (h : x = y) (k : W p l e R s m args below meth c H locs cells slots Q (F0 m pc ls (.int y :: rest))) : W p l e R s m args below meth c H locs cells slots Q (F0 m pc ls (.int x :: rest)) := by
  subst h; exact k
theorem sd_topl {x y : Int64} (h : x = y) (k : W p l e R s m args below meth c H locs cells slots Q (F0 m pc ls (.long y :: rest))) : W p l e R s m args below meth c H locs cells slots Q (F0 m pc ls (.long x :: rest)) := by
  subst h; exact k
theorem sd_ri {post : Int32 → Prop} {a : Array Value} {st0 : List Value} (hr : va_Run p l e R s m args below meth c H locs cells slots 0 0 (F0 m pc ls st0) rest (vp_Si post a) (fun _ => False)) (kk : ∀ r : Int32, post r → W p l e R s m args below meth c H locs cells slots Q (F0 m (pc + 3) ls (.int r :: rest))) : W p l e R s m args below meth c H locs cells slots Q (F0 m pc ls st0) :=
  vp_callSi hr.run kk
theorem sd_rv {a : Array Value} {st0 : List Value} (hr : va_Run p l e R s m args below meth c H locs cells slots 0 0 (F0 m pc ls st0) rest (va_Sv (fun _ => True) a) (fun _ => False)) (kk : W p l e R s m args below meth c H locs cells slots Q (F0 m (pc + 3) ls rest)) : W p l e R s m args below meth c H locs cells slots Q (F0 m pc ls st0) :=
  va_csv hr.run (fun _ => kk)
theorem sd_fr {A : Nat → Prop} (hS : va_S A s.heap H locs) (hA0 : ∀ q, A q → gS g ≤ q) : ∀ a : Nat, a < s.heap.size → ¬ sdA g a → H[a]? = s.heap[a]? := fun a h1 h2 => hS.2.1 a h1 (fun h3 => h2 (hA0 a h3))
/-- a reading call's start: the receiver is the first of its cells -/
theorem sd_preV {wc : va_W} {As : List Value} {b ci N : Nat} {fs : List Value} {C : String} {T : u_T} (hK : sdK g s) (hE : sdE g s s.heap) (hF : ∀ a : Nat, a < s.heap.size → ¬ sdA g a → H[a]? = s.heap[a]?) (hP : sdP g wc H) (h0 : wc[0]? = some (b, .inr (ci, fs))) (hc : vwCl[ci]? = some (C, T, N)) :
    PreV s H C b (va_Pc (.ref b :: As) (sdR g wc)) As :=
  ⟨sd_blindR, va_recv hK hP hc h0, fun U hU hW => ⟨rfl, by rw [hU]; exact hP, va_K.moved hW.alike hK, by rw [hU]; exact (hE.kept hF).warm hW⟩⟩
theorem sd_preS {wc : va_W} {As : List Value} (hK : sdK g s) (hE : sdE g s s.heap) (hF : ∀ a : Nat, a < s.heap.size → ¬ sdA g a → H[a]? = s.heap[a]?) (hP : sdP g wc H) :
    PreS s H (va_Pc As (sdR g wc)) As :=
  ⟨sd_blindR, fun U hU hW => ⟨rfl, by rw [hU]; exact hP, va_K.moved hW.alike hK, by rw [hU]; exact (hE.kept hF).warm hW⟩⟩
theorem sd_preStr {As : List Value} {k : Nat} (hK : sdK g s) (hE : sdE g s s.heap) (hF : ∀ a : Nat, a < s.heap.size → ¬ sdA g a → H[a]? = s.heap[a]?) (hk : k < 5) :
    PreV s H "java/lang/String" (gk g k) (va_Pc (.ref (gk g k) :: As) (sdR g [])) As := by
  refine ⟨sd_blindR, ?_, fun U hU hW => ⟨rfl, fun _ _ h => by simp at h, va_K.moved hW.alike hK, by rw [hU]; exact (hE.kept hF).warm hW⟩⟩
  obtain ⟨cell, h1, h2, h3, -⟩ := (hE.2.2.2.2.2.1.1 k hk).1.kept hF
  exact ⟨cell, h1, h2, h3⟩
/-- a writing call's start -/
theorem sd_preVU {A : Nat → Prop} {wc : va_W} {As : List Value} {b ci N : Nat} {fs : List Value} {C : String} {T : u_T} (hK : sdK g s) (hE : sdE g s s.heap) (hS : va_S A s.heap H locs) (hA0 : ∀ q, A q → gS g ≤ q) (hs0 : gS g ≤ s.heap.size) (hP : sdP g wc H) (hD : va_D A wc) (h0 : wc[0]? = some (b, .inr (ci, fs))) (hc : vwCl[ci]? = some (C, T, N)) :
    PreV s H C b (va_Pc (.ref b :: As) (sdU g wc H.size)) As :=
  ⟨sd_blindU, va_recv hK hP hc h0, fun U hU hW => ⟨rfl, by rw [hU], by rw [hU]; exact hP, va_K.moved hW.alike hK, by rw [hU]; exact (hE.kept (sd_fr hS hA0)).warm hW, hD.weaken (fun _ _ _ h => hA0 _ h), Nat.le_trans hs0 hS.1⟩⟩
theorem sd_preSU {A : Nat → Prop} {wc : va_W} {As : List Value} (hK : sdK g s) (hE : sdE g s s.heap) (hS : va_S A s.heap H locs) (hA0 : ∀ q, A q → gS g ≤ q) (hs0 : gS g ≤ s.heap.size) (hP : sdP g wc H) (hD : va_D A wc) :
    PreS s H (va_Pc As (sdU g wc H.size)) As :=
  ⟨sd_blindU, fun U hU hW => ⟨rfl, by rw [hU], by rw [hU]; exact hP, va_K.moved hW.alike hK, by rw [hU]; exact (hE.kept (sd_fr hS hA0)).warm hW, hD.weaken (fun _ _ _ h => hA0 _ h), Nat.le_trans hs0 hS.1⟩⟩
theorem sd_cv {S : Type} {A : Nat → Prop} {post : S → Prop} {cl : S → va_W} {wc : va_W} {a : Array Value} {st0 : List Value} {mc ms : Nat} (hr : va_Run p l e R s m args below meth c H locs cells slots mc ms (F0 m pc ls st0) rest (va_Qv post (fun u t => sdB g wc H.size (cl u) t) (va_A wc H.size) a) (va_A wc H.size)) (hS : va_S A s.heap H locs) (hF : ∀ q, va_A wc H.size q → A q)
    (kk : ∀ (u : S) (H1 : Heap) (locs1 : List Loc), post u → sdP g (cl u) H1 → va_D (va_A wc H.size) (cl u) → (∀ q : Nat, q < H.size → ¬ va_A wc H.size q → H1[q]? = H[q]?) → va_S A s.heap H1 locs1 → W p l e R s m args below meth c H1 locs1 (cells + mc) (slots + ms) Q (F0 m (pc + 3) ls rest)) : W p l e R s m args below meth c H locs cells slots Q (F0 m pc ls st0) :=
  va_callv hr hS (fun q _ h => hF q h) hF (fun u t H1 locs1 ht _ hp hB _ hk hS1 => kk u H1 locs1 hp (by rw [← ht]; exact hB.1) hB.2 hk hS1)
theorem sd_ci {S : Type} {A : Nat → Prop} {post : Int32 → S → Prop} {cl : S → va_W} {wc : va_W} {a : Array Value} {st0 : List Value} {mc ms : Nat} (hr : va_Run p l e R s m args below meth c H locs cells slots mc ms (F0 m pc ls st0) rest (va_Qi post (fun u t => sdB g wc H.size (cl u) t) (va_A wc H.size) a) (va_A wc H.size)) (hS : va_S A s.heap H locs) (hF : ∀ q, va_A wc H.size q → A q)
    (kk : ∀ (r : Int32) (u : S) (H1 : Heap) (locs1 : List Loc), post r u → sdP g (cl u) H1 → va_D (va_A wc H.size) (cl u) → (∀ q : Nat, q < H.size → ¬ va_A wc H.size q → H1[q]? = H[q]?) → va_S A s.heap H1 locs1 → W p l e R s m args below meth c H1 locs1 (cells + mc) (slots + ms) Q (F0 m (pc + 3) ls (.int r :: rest))) : W p l e R s m args below meth c H locs cells slots Q (F0 m pc ls st0) :=
  va_calli hr hS (fun q _ h => hF q h) hF (fun r u t H1 locs1 ht _ hp hB _ hk hS1 => kk r u H1 locs1 hp (by rw [← ht]; exact hB.1) hB.2 hk hS1)
end SdBase
theorem sd_gV {own C : String} {idx n : Nat} {y : MethodName} {b : ByteArray} {r : Option FieldType} (h1 : Cond.methodLink own idx y ∈ sdT) (h2 : Cond.instanceMethod y ∈ sdT) (h3 : Cond.selects C y y ∈ sdT) (h4 : Cond.initialized C ∈ sdT) (h5 : Cond.code y b n r ∈ sdT) : GoodIn sdT (wsV own idx C y (.code y b n r :: sdT)) := by
  intro w hw
  have hm : w ∈ sdT := by
    rcases List.mem_append.mp hw with h | h
    · simp only [List.mem_cons, List.not_mem_nil, or_false] at h
      rcases h with rfl | rfl | rfl | rfl <;> assumption
    · rcases List.mem_cons.mp h with rfl | h
      · exact h5
      · exact h
  exact ⟨hm, sd_good hm⟩
theorem sd_gS {own : String} {idx n : Nat} {y : MethodName} {b : ByteArray} {r : Option FieldType} (h1 : Cond.methodLink own idx y ∈ sdT) (h2 : Cond.static y ∈ sdT) (h4 : Cond.initialized y.cls ∈ sdT) (h5 : Cond.code y b n r ∈ sdT) : GoodIn sdT (va_wsS own idx y (.code y b n r :: sdT)) := by
  intro w hw
  have hm : w ∈ sdT := by
    rcases List.mem_append.mp hw with h | h
    · simp only [List.mem_cons, List.not_mem_nil, or_false] at h
      rcases h with rfl | rfl | rfl <;> assumption
    · rcases List.mem_cons.mp h with rfl | h
      · exact h5
      · exact h
  exact ⟨hm, sd_good hm⟩
theorem sd_gC {n : Nat} {y : MethodName} {b : ByteArray} {r : Option FieldType} (h5 : Cond.code y b n r ∈ sdT) : GoodIn sdT (.code y b n r :: sdT) := by
  intro w hw
  have hm : w ∈ sdT := by
    rcases List.mem_cons.mp hw with rfl | h
    · exact h5
    · exact h
  exact ⟨hm, sd_good hm⟩
/-- the int that a truth is -/
noncomputable def sb (P : Prop) : Int32 := @ite _ P (Classical.propDecidable P) 1 0
theorem sb_t {P : Prop} (h : P) : sb P = 1 := @if_pos _ (Classical.propDecidable P) h _ _ _
theorem sb_f {P : Prop} (h : ¬ P) : sb P = 0 := @if_neg _ (Classical.propDecidable P) h _ _ _
theorem sb_eq0 {P : Prop} : sb P = 0 ↔ ¬ P := by
  by_cases h : P
  · rw [sb_t h]; exact ⟨fun q => absurd q (by decide), fun q => absurd h q⟩
  · rw [sb_f h]; exact ⟨fun _ => h, fun _ => rfl⟩
theorem sb_ne0 {P : Prop} : ¬ sb P = 0 ↔ P := by
  rw [sb_eq0]; exact Classical.not_not
theorem sb_nar {P : Prop} : narrow .boolean (.int (sb P)) = .int (sb P) := by
  by_cases h : P
  · rw [sb_t h]; rfl
  · rw [sb_f h]; rfl
theorem sb_congr {P P' : Prop} (h : P ↔ P') : sb P = sb P' := by rw [propext h]
/-- the text: n bytes f, as numbers tx; beyond the end 10 -/
def TXok (n : Nat) (f : Nat → Int32) (tx : Nat → Nat) : Prop := n ≤ 2000 ∧ (∀ i, tx i < 256) ∧ (∀ i, i < n → f i &&& 255 = nI (tx i)) ∧ (∀ i, n ≤ i → tx i = 10)
