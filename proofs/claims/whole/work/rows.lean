section
-- ===== PART A: goes FIRST, ahead of the names: the tables' words, and 'selects' of the private methods out of them =====
/-- a private method of a class that the tables say can be made, by its rows of tables_1 -/
def lw_okq (q : MethodName × Nat) : Prop := (q.1.cls ≠ "java/lang/invoke/MethodHandle" ∧ q.1.cls ≠ "java/lang/invoke/VarHandle") ∧ Cond.instantiable q.1.cls q.2 ∈ tables_1 ∧ Cond.privateMethod q.1 ∈ tables_1 ∧ Cond.instanceMethod q.1 ∈ tables_1
theorem lw_p0 : lw_okq (⟨"SignDesk$Reader", "forget", "()V"⟩, 4) := ⟨⟨by decide +kernel, by decide +kernel⟩, List.mem_of_getElem? (i := 52) (by decide +kernel), List.mem_of_getElem? (i := 159) (by decide +kernel), List.mem_of_getElem? (i := 160) (by decide +kernel)⟩
theorem lw_p1 : lw_okq (⟨"SignDesk$Reader", "take", "(II)I"⟩, 4) := ⟨⟨by decide +kernel, by decide +kernel⟩, List.mem_of_getElem? (i := 52) (by decide +kernel), List.mem_of_getElem? (i := 202) (by decide +kernel), List.mem_of_getElem? (i := 203) (by decide +kernel)⟩
theorem lw_p2 : lw_okq (⟨"SignDesk$Reader", "takeAddress", "(II)I"⟩, 4) := ⟨⟨by decide +kernel, by decide +kernel⟩, List.mem_of_getElem? (i := 52) (by decide +kernel), List.mem_of_getElem? (i := 207) (by decide +kernel), List.mem_of_getElem? (i := 208) (by decide +kernel)⟩
theorem lw_p3 : lw_okq (⟨"SignDesk$Reader", "knownNumber", "(II)I"⟩, 4) := ⟨⟨by decide +kernel, by decide +kernel⟩, List.mem_of_getElem? (i := 52) (by decide +kernel), List.mem_of_getElem? (i := 221) (by decide +kernel), List.mem_of_getElem? (i := 222) (by decide +kernel)⟩
theorem lw_p4 : lw_okq (⟨"SignDesk$Reader", "takeLabel", "(II)I"⟩, 4) := ⟨⟨by decide +kernel, by decide +kernel⟩, List.mem_of_getElem? (i := 52) (by decide +kernel), List.mem_of_getElem? (i := 305) (by decide +kernel), List.mem_of_getElem? (i := 306) (by decide +kernel)⟩
theorem lw_p5 : lw_okq (⟨"SignDesk$Reader", "takeOther", "(II)I"⟩, 4) := ⟨⟨by decide +kernel, by decide +kernel⟩, List.mem_of_getElem? (i := 52) (by decide +kernel), List.mem_of_getElem? (i := 317) (by decide +kernel), List.mem_of_getElem? (i := 318) (by decide +kernel)⟩
theorem lw_p6 : lw_okq (⟨"SignDesk$Reader", "compBits", "(II)I"⟩, 4) := ⟨⟨by decide +kernel, by decide +kernel⟩, List.mem_of_getElem? (i := 52) (by decide +kernel), List.mem_of_getElem? (i := 327) (by decide +kernel), List.mem_of_getElem? (i := 328) (by decide +kernel)⟩
theorem lw_p7 : lw_okq (⟨"SignDesk$Reader", "fillInSymbols", "()V"⟩, 4) := ⟨⟨by decide +kernel, by decide +kernel⟩, List.mem_of_getElem? (i := 52) (by decide +kernel), List.mem_of_getElem? (i := 338) (by decide +kernel), List.mem_of_getElem? (i := 339) (by decide +kernel)⟩
theorem lw_p8 : lw_okq (⟨"SignDesk$Processor", "perform", "(I)V"⟩, 6) := ⟨⟨by decide +kernel, by decide +kernel⟩, List.mem_of_getElem? (i := 93) (by decide +kernel), List.mem_of_getElem? (i := 391) (by decide +kernel), List.mem_of_getElem? (i := 392) (by decide +kernel)⟩
theorem lw_p9 : lw_okq (⟨"SignDeskModel", "resetProcessor", "()V"⟩, 19) := ⟨⟨by decide +kernel, by decide +kernel⟩, List.mem_of_getElem? (i := 466) (by decide +kernel), List.mem_of_getElem? (i := 544) (by decide +kernel), List.mem_of_getElem? (i := 545) (by decide +kernel)⟩
theorem lw_p10 : lw_okq (⟨"SignDeskModel", "at", "(I)I"⟩, 19) := ⟨⟨by decide +kernel, by decide +kernel⟩, List.mem_of_getElem? (i := 466) (by decide +kernel), List.mem_of_getElem? (i := 551) (by decide +kernel), List.mem_of_getElem? (i := 552) (by decide +kernel)⟩
theorem lw_p11 : lw_okq (⟨"SignDeskModel", "instruction", "(IIZ)I"⟩, 19) := ⟨⟨by decide +kernel, by decide +kernel⟩, List.mem_of_getElem? (i := 466) (by decide +kernel), List.mem_of_getElem? (i := 555) (by decide +kernel), List.mem_of_getElem? (i := 556) (by decide +kernel)⟩
theorem lw_p12 : lw_okq (⟨"SignDeskModel", "label", "(II)I"⟩, 19) := ⟨⟨by decide +kernel, by decide +kernel⟩, List.mem_of_getElem? (i := 466) (by decide +kernel), List.mem_of_getElem? (i := 559) (by decide +kernel), List.mem_of_getElem? (i := 560) (by decide +kernel)⟩
theorem lw_p13 : lw_okq (⟨"SignDeskModel", "isSymbol", "(II)Z"⟩, 19) := ⟨⟨by decide +kernel, by decide +kernel⟩, List.mem_of_getElem? (i := 466) (by decide +kernel), List.mem_of_getElem? (i := 563) (by decide +kernel), List.mem_of_getElem? (i := 564) (by decide +kernel)⟩
theorem lw_p14 : lw_okq (⟨"SignDeskModel", "knownOf", "(II)I"⟩, 19) := ⟨⟨by decide +kernel, by decide +kernel⟩, List.mem_of_getElem? (i := 466) (by decide +kernel), List.mem_of_getElem? (i := 579) (by decide +kernel), List.mem_of_getElem? (i := 580) (by decide +kernel)⟩
theorem lw_p15 : lw_okq (⟨"SignDeskModel", "wordOf", "([CII)I"⟩, 19) := ⟨⟨by decide +kernel, by decide +kernel⟩, List.mem_of_getElem? (i := 466) (by decide +kernel), List.mem_of_getElem? (i := 583) (by decide +kernel), List.mem_of_getElem? (i := 584) (by decide +kernel)⟩
def lw_privs_1 : List (MethodName × Nat) := [(⟨"SignDesk$Reader", "forget", "()V"⟩, 4), (⟨"SignDesk$Reader", "take", "(II)I"⟩, 4), (⟨"SignDesk$Reader", "takeAddress", "(II)I"⟩, 4), (⟨"SignDesk$Reader", "knownNumber", "(II)I"⟩, 4), (⟨"SignDesk$Reader", "takeLabel", "(II)I"⟩, 4), (⟨"SignDesk$Reader", "takeOther", "(II)I"⟩, 4), (⟨"SignDesk$Reader", "compBits", "(II)I"⟩, 4), (⟨"SignDesk$Reader", "fillInSymbols", "()V"⟩, 4), (⟨"SignDesk$Processor", "perform", "(I)V"⟩, 6), (⟨"SignDeskModel", "resetProcessor", "()V"⟩, 19), (⟨"SignDeskModel", "at", "(I)I"⟩, 19), (⟨"SignDeskModel", "instruction", "(IIZ)I"⟩, 19), (⟨"SignDeskModel", "label", "(II)I"⟩, 19), (⟨"SignDeskModel", "isSymbol", "(II)Z"⟩, 19), (⟨"SignDeskModel", "knownOf", "(II)I"⟩, 19), (⟨"SignDeskModel", "wordOf", "([CII)I"⟩, 19)]
theorem lw_r1 : ∀ q ∈ lw_privs_1, lw_okq q := List.forall_mem_cons.mpr ⟨lw_p0, List.forall_mem_cons.mpr ⟨lw_p1, List.forall_mem_cons.mpr ⟨lw_p2, List.forall_mem_cons.mpr ⟨lw_p3, List.forall_mem_cons.mpr ⟨lw_p4, List.forall_mem_cons.mpr ⟨lw_p5, List.forall_mem_cons.mpr ⟨lw_p6, List.forall_mem_cons.mpr ⟨lw_p7, List.forall_mem_cons.mpr ⟨lw_p8, List.forall_mem_cons.mpr ⟨lw_p9, List.forall_mem_cons.mpr ⟨lw_p10, List.forall_mem_cons.mpr ⟨lw_p11, List.forall_mem_cons.mpr ⟨lw_p12, List.forall_mem_cons.mpr ⟨lw_p13, List.forall_mem_cons.mpr ⟨lw_p14, List.forall_mem_cons.mpr ⟨lw_p15, fun _ h => absurd h List.not_mem_nil⟩⟩⟩⟩⟩⟩⟩⟩⟩⟩⟩⟩⟩⟩⟩⟩
theorem lw_p16 : lw_okq (⟨"SignDeskModel", "symbolOf", "(II)I"⟩, 19) := ⟨⟨by decide +kernel, by decide +kernel⟩, List.mem_of_getElem? (i := 466) (by decide +kernel), List.mem_of_getElem? (i := 587) (by decide +kernel), List.mem_of_getElem? (i := 588) (by decide +kernel)⟩
theorem lw_p17 : lw_okq (⟨"SignDeskModel", "address", "(II)I"⟩, 19) := ⟨⟨by decide +kernel, by decide +kernel⟩, List.mem_of_getElem? (i := 466) (by decide +kernel), List.mem_of_getElem? (i := 591) (by decide +kernel), List.mem_of_getElem? (i := 592) (by decide +kernel)⟩
theorem lw_p18 : lw_okq (⟨"SignDeskModel", "computes", "(II)I"⟩, 19) := ⟨⟨by decide +kernel, by decide +kernel⟩, List.mem_of_getElem? (i := 466) (by decide +kernel), List.mem_of_getElem? (i := 595) (by decide +kernel), List.mem_of_getElem? (i := 596) (by decide +kernel)⟩
theorem lw_p19 : lw_okq (⟨"SignDeskModel", "destOf", "(II)I"⟩, 19) := ⟨⟨by decide +kernel, by decide +kernel⟩, List.mem_of_getElem? (i := 466) (by decide +kernel), List.mem_of_getElem? (i := 599) (by decide +kernel), List.mem_of_getElem? (i := 600) (by decide +kernel)⟩
theorem lw_p20 : lw_okq (⟨"SignDeskModel", "compOf", "(II)I"⟩, 19) := ⟨⟨by decide +kernel, by decide +kernel⟩, List.mem_of_getElem? (i := 466) (by decide +kernel), List.mem_of_getElem? (i := 603) (by decide +kernel), List.mem_of_getElem? (i := 604) (by decide +kernel)⟩
theorem lw_p21 : lw_okq (⟨"SignDeskModel", "oneCode", "()V"⟩, 19) := ⟨⟨by decide +kernel, by decide +kernel⟩, List.mem_of_getElem? (i := 466) (by decide +kernel), List.mem_of_getElem? (i := 616) (by decide +kernel), List.mem_of_getElem? (i := 617) (by decide +kernel)⟩
def lw_privs_2 : List (MethodName × Nat) := [(⟨"SignDeskModel", "symbolOf", "(II)I"⟩, 19), (⟨"SignDeskModel", "address", "(II)I"⟩, 19), (⟨"SignDeskModel", "computes", "(II)I"⟩, 19), (⟨"SignDeskModel", "destOf", "(II)I"⟩, 19), (⟨"SignDeskModel", "compOf", "(II)I"⟩, 19), (⟨"SignDeskModel", "oneCode", "()V"⟩, 19)]
theorem lw_r2 : ∀ q ∈ lw_privs_2, lw_okq q := List.forall_mem_cons.mpr ⟨lw_p16, List.forall_mem_cons.mpr ⟨lw_p17, List.forall_mem_cons.mpr ⟨lw_p18, List.forall_mem_cons.mpr ⟨lw_p19, List.forall_mem_cons.mpr ⟨lw_p20, List.forall_mem_cons.mpr ⟨lw_p21, fun _ h => absurd h List.not_mem_nil⟩⟩⟩⟩⟩⟩
def lw_privs : List (MethodName × Nat) := lw_privs_1 ++ (lw_privs_2)
def lw_tbl : List Cond := k2_sels lw_privs ++ tables_1
theorem lw_privs_ok : ∀ q ∈ lw_privs, lw_okq q := by
  show ∀ q ∈ lw_privs_1 ++ (lw_privs_2), lw_okq q
  exact List.forall_mem_append.mpr ⟨lw_r1, lw_r2⟩
end
section
/-! names: the words that every method may use, field tables, method names, places of the words -/
def sdT : List Cond := lw_tbl.filter goodWord
theorem sd_in {w : Cond} (h : w ∈ lw_tbl) (hg : goodWord w = true) : w ∈ sdT := List.mem_filter.mpr ⟨h, hg⟩
theorem sd_all {w : Cond} (h : w ∈ sdT) : w ∈ lw_tbl := (List.mem_filter.mp h).1
theorem sd_good {w : Cond} (h : w ∈ sdT) : (w.onTables && w.keeps) = true ∨ ∃ ty, w = .arrayClass ty := good_of_word (List.mem_filter.mp h).2
def F_Mem : u_T := fun k => match k with
  | _ => ("SignDesk$Memory", "pages", "[LSignDesk$Page;", true)
def t_Mem : Nat → FieldType := fun k => match k with
  | _ => .array (.object "SignDesk$Page")
theorem n_Mem : ∀ a, a < 1 → ∀ b, b < 1 → a ≠ b → (F_Mem a).2.1 ≠ (F_Mem b).2.1 := by decide +kernel
theorem t_Mem_ok : ∀ k, k < 1 → parseFieldDescriptor (F_Mem k).2.2.1 = some (t_Mem k) := by decide +kernel
def F_Pag : u_T := fun k => match k with
  | _ => ("SignDesk$Page", "words", "[I", true)
def t_Pag : Nat → FieldType := fun k => match k with
  | _ => .array .int
theorem n_Pag : ∀ a, a < 1 → ∀ b, b < 1 → a ≠ b → (F_Pag a).2.1 ≠ (F_Pag b).2.1 := by decide +kernel
theorem t_Pag_ok : ∀ k, k < 1 → parseFieldDescriptor (F_Pag k).2.2.1 = some (t_Pag k) := by decide +kernel
def F_Prc : u_T := fun k => match k with
  | 0 => ("SignDesk$Processor", "program", "LSignDesk$Program;", true)
  | 1 => ("SignDesk$Processor", "memory", "LSignDesk$Memory;", true)
  | 2 => ("SignDesk$Processor", "a", "I", false)
  | 3 => ("SignDesk$Processor", "d", "I", false)
  | 4 => ("SignDesk$Processor", "next", "I", false)
  | _ => ("SignDesk$Processor", "done", "I", false)
def t_Prc : Nat → FieldType := fun k => match k with
  | 0 => .object "SignDesk$Program"
  | 1 => .object "SignDesk$Memory"
  | 2 => .int
  | 3 => .int
  | 4 => .int
  | _ => .int
theorem n_Prc : ∀ a, a < 6 → ∀ b, b < 6 → a ≠ b → (F_Prc a).2.1 ≠ (F_Prc b).2.1 := by decide +kernel
theorem t_Prc_ok : ∀ k, k < 6 → parseFieldDescriptor (F_Prc k).2.2.1 = some (t_Prc k) := by decide +kernel
def F_Prg : u_T := fun k => match k with
  | 0 => ("SignDesk$Program", "words", "[I", true)
  | _ => ("SignDesk$Program", "size", "I", false)
def t_Prg : Nat → FieldType := fun k => match k with
  | 0 => .array .int
  | _ => .int
theorem n_Prg : ∀ a, a < 2 → ∀ b, b < 2 → a ≠ b → (F_Prg a).2.1 ≠ (F_Prg b).2.1 := by decide +kernel
theorem t_Prg_ok : ∀ k, k < 2 → parseFieldDescriptor (F_Prg k).2.2.1 = some (t_Prg k) := by decide +kernel
def F_Rdr : u_T := fun k => match k with
  | 0 => ("SignDesk$Reader", "text", "LSignDesk$Text;", true)
  | 1 => ("SignDesk$Reader", "program", "LSignDesk$Program;", true)
  | 2 => ("SignDesk$Reader", "symbols", "LSignDesk$Symbols;", true)
  | _ => ("SignDesk$Reader", "faultPlace", "I", false)
def t_Rdr : Nat → FieldType := fun k => match k with
  | 0 => .object "SignDesk$Text"
  | 1 => .object "SignDesk$Program"
  | 2 => .object "SignDesk$Symbols"
  | _ => .int
theorem n_Rdr : ∀ a, a < 4 → ∀ b, b < 4 → a ≠ b → (F_Rdr a).2.1 ≠ (F_Rdr b).2.1 := by decide +kernel
theorem t_Rdr_ok : ∀ k, k < 4 → parseFieldDescriptor (F_Rdr k).2.2.1 = some (t_Rdr k) := by decide +kernel
def F_Sym : u_T := fun k => match k with
  | 0 => ("SignDesk$Symbols", "text", "LSignDesk$Text;", true)
  | 1 => ("SignDesk$Symbols", "starts", "[I", true)
  | 2 => ("SignDesk$Symbols", "lengths", "[I", true)
  | 3 => ("SignDesk$Symbols", "numbers", "[I", true)
  | _ => ("SignDesk$Symbols", "count", "I", false)
def t_Sym : Nat → FieldType := fun k => match k with
  | 0 => .object "SignDesk$Text"
  | 1 => .array .int
  | 2 => .array .int
  | 3 => .array .int
  | _ => .int
theorem n_Sym : ∀ a, a < 5 → ∀ b, b < 5 → a ≠ b → (F_Sym a).2.1 ≠ (F_Sym b).2.1 := by decide +kernel
theorem t_Sym_ok : ∀ k, k < 5 → parseFieldDescriptor (F_Sym k).2.2.1 = some (t_Sym k) := by decide +kernel
def F_Txt : u_T := fun k => match k with
  | 0 => ("SignDesk$Text", "bytes", "[B", true)
  | _ => ("SignDesk$Text", "size", "I", false)
def t_Txt : Nat → FieldType := fun k => match k with
  | 0 => .array .byte
  | _ => .int
theorem n_Txt : ∀ a, a < 2 → ∀ b, b < 2 → a ≠ b → (F_Txt a).2.1 ≠ (F_Txt b).2.1 := by decide +kernel
theorem t_Txt_ok : ∀ k, k < 2 → parseFieldDescriptor (F_Txt k).2.2.1 = some (t_Txt k) := by decide +kernel
def F_Dsk : u_T := fun k => match k with
  | 0 => ("SignDesk", "text", "LSignDesk$Text;", true)
  | 1 => ("SignDesk", "program", "LSignDesk$Program;", true)
  | 2 => ("SignDesk", "reader", "LSignDesk$Reader;", true)
  | _ => ("SignDesk", "processor", "LSignDesk$Processor;", true)
def t_Dsk : Nat → FieldType := fun k => match k with
  | 0 => .object "SignDesk$Text"
  | 1 => .object "SignDesk$Program"
  | 2 => .object "SignDesk$Reader"
  | _ => .object "SignDesk$Processor"
theorem n_Dsk : ∀ a, a < 4 → ∀ b, b < 4 → a ≠ b → (F_Dsk a).2.1 ≠ (F_Dsk b).2.1 := by decide +kernel
theorem t_Dsk_ok : ∀ k, k < 4 → parseFieldDescriptor (F_Dsk k).2.2.1 = some (t_Dsk k) := by decide +kernel
def F_Mod : u_T := fun k => match k with
  | 0 => ("SignDeskModel", "text", "[I", true)
  | 1 => ("SignDeskModel", "taken", "I", false)
  | 2 => ("SignDeskModel", "size", "I", false)
  | 3 => ("SignDeskModel", "place", "I", false)
  | 4 => ("SignDeskModel", "words", "I", false)
  | 5 => ("SignDeskModel", "codes", "[I", true)
  | 6 => ("SignDeskModel", "symbols", "I", false)
  | 7 => ("SignDeskModel", "symAt", "[I", true)
  | 8 => ("SignDeskModel", "symSize", "[I", true)
  | 9 => ("SignDeskModel", "symValue", "[I", true)
  | 10 => ("SignDeskModel", "codeSymbol", "[I", true)
  | 11 => ("SignDeskModel", "cells", "[I", true)
  | 12 => ("SignDeskModel", "regA", "I", false)
  | 13 => ("SignDeskModel", "regD", "I", false)
  | 14 => ("SignDeskModel", "nextCode", "I", false)
  | 15 => ("SignDeskModel", "doneCodes", "I", false)
  | 16 => ("SignDeskModel", "KNOWN", "[C", true)
  | 17 => ("SignDeskModel", "JUMPS", "[C", true)
  | _ => ("SignDeskModel", "DESTS", "[C", true)
def t_Mod : Nat → FieldType := fun k => match k with
  | 0 => .array .int
  | 1 => .int
  | 2 => .int
  | 3 => .int
  | 4 => .int
  | 5 => .array .int
  | 6 => .int
  | 7 => .array .int
  | 8 => .array .int
  | 9 => .array .int
  | 10 => .array .int
  | 11 => .array .int
  | 12 => .int
  | 13 => .int
  | 14 => .int
  | 15 => .int
  | 16 => .array .char
  | 17 => .array .char
  | _ => .array .char
theorem n_Mod : ∀ a, a < 19 → ∀ b, b < 19 → a ≠ b → (F_Mod a).2.1 ≠ (F_Mod b).2.1 := by decide +kernel
theorem t_Mod_ok : ∀ k, k < 19 → parseFieldDescriptor (F_Mod k).2.2.1 = some (t_Mod k) := by decide +kernel
abbrev vwCl : List vw_C := [("SignDesk$Memory", F_Mem, 1), ("SignDesk$Page", F_Pag, 1), ("SignDesk$Processor", F_Prc, 6), ("SignDesk$Program", F_Prg, 2), ("SignDesk$Reader", F_Rdr, 4), ("SignDesk$Symbols", F_Sym, 5), ("SignDesk$Text", F_Txt, 2), ("SignDesk", F_Dsk, 4), ("SignDeskModel", F_Mod, 19)]
abbrev b_Dsk_init : ByteArray := prog_1_method_1_code
abbrev y_Dsk_init : MethodName := ⟨"SignDesk", "<init>", "()V"⟩
abbrev b_JO_init : ByteArray := object_method_1_code
abbrev y_JO_init : MethodName := ⟨"java/lang/Object", "<init>", "()V"⟩
abbrev b_Txt_init : ByteArray := prog_8_method_1_code
abbrev y_Txt_init : MethodName := ⟨"SignDesk$Text", "<init>", "()V"⟩
abbrev b_Prg_init : ByteArray := prog_5_method_1_code
abbrev y_Prg_init : MethodName := ⟨"SignDesk$Program", "<init>", "()V"⟩
abbrev b_Rdr_init : ByteArray := prog_6_method_1_code
abbrev y_Rdr_init : MethodName := ⟨"SignDesk$Reader", "<init>", "(LSignDesk$Text;LSignDesk$Program;)V"⟩
abbrev b_Sym_init : ByteArray := prog_7_method_1_code
abbrev y_Sym_init : MethodName := ⟨"SignDesk$Symbols", "<init>", "(LSignDesk$Text;)V"⟩
abbrev b_Prc_init : ByteArray := prog_4_method_1_code
abbrev y_Prc_init : MethodName := ⟨"SignDesk$Processor", "<init>", "(LSignDesk$Program;)V"⟩
abbrev b_Mem_init : ByteArray := prog_2_method_1_code
abbrev y_Mem_init : MethodName := ⟨"SignDesk$Memory", "<init>", "()V"⟩
abbrev b_Dsk_put : ByteArray := prog_1_method_2_code
abbrev y_Dsk_put : MethodName := ⟨"SignDesk", "put", "(JI)Z"⟩
abbrev b_Txt_append : ByteArray := prog_8_method_2_code
abbrev y_Txt_append : MethodName := ⟨"SignDesk$Text", "append", "(JI)Z"⟩
abbrev b_Dsk_read : ByteArray := prog_1_method_3_code
abbrev y_Dsk_read : MethodName := ⟨"SignDesk", "read", "()I"⟩
abbrev b_Rdr_assemble : ByteArray := prog_6_method_4_code
abbrev y_Rdr_assemble : MethodName := ⟨"SignDesk$Reader", "assemble", "()I"⟩
abbrev b_Rdr_forget : ByteArray := prog_6_method_5_code
abbrev y_Rdr_forget : MethodName := ⟨"SignDesk$Reader", "forget", "()V"⟩
abbrev b_Prg_clear : ByteArray := prog_5_method_5_code
abbrev y_Prg_clear : MethodName := ⟨"SignDesk$Program", "clear", "()V"⟩
abbrev b_Sym_clear : ByteArray := prog_7_method_5_code
abbrev y_Sym_clear : MethodName := ⟨"SignDesk$Symbols", "clear", "()V"⟩
abbrev b_Txt_size : ByteArray := prog_8_method_4_code
abbrev y_Txt_size : MethodName := ⟨"SignDesk$Text", "size", "()I"⟩
abbrev b_Txt_isBlank : ByteArray := prog_8_method_7_code
abbrev y_Txt_isBlank : MethodName := ⟨"SignDesk$Text", "isBlank", "(I)Z"⟩
abbrev b_Txt_byteAt : ByteArray := prog_8_method_5_code
abbrev y_Txt_byteAt : MethodName := ⟨"SignDesk$Text", "byteAt", "(I)I"⟩
abbrev b_Txt_isLineEnd : ByteArray := prog_8_method_6_code
abbrev y_Txt_isLineEnd : MethodName := ⟨"SignDesk$Text", "isLineEnd", "(I)Z"⟩
abbrev b_Txt_isComment : ByteArray := prog_8_method_8_code
abbrev y_Txt_isComment : MethodName := ⟨"SignDesk$Text", "isComment", "(I)Z"⟩
abbrev b_Txt_endOfLine : ByteArray := prog_8_method_9_code
abbrev y_Txt_endOfLine : MethodName := ⟨"SignDesk$Text", "endOfLine", "(I)I"⟩
abbrev b_Txt_endOfInstruction : ByteArray := prog_8_method_10_code
abbrev y_Txt_endOfInstruction : MethodName := ⟨"SignDesk$Text", "endOfInstruction", "(I)I"⟩
abbrev b_Rdr_take : ByteArray := prog_6_method_6_code
abbrev y_Rdr_take : MethodName := ⟨"SignDesk$Reader", "take", "(II)I"⟩
abbrev b_Rdr_takeAddress : ByteArray := prog_6_method_7_code
abbrev y_Rdr_takeAddress : MethodName := ⟨"SignDesk$Reader", "takeAddress", "(II)I"⟩
abbrev b_Txt_isSymbol : ByteArray := prog_8_method_12_code
abbrev y_Txt_isSymbol : MethodName := ⟨"SignDesk$Text", "isSymbol", "(II)Z"⟩
abbrev b_Txt_isDigit : ByteArray := prog_8_method_16_code
abbrev y_Txt_isDigit : MethodName := ⟨"SignDesk$Text", "isDigit", "(I)Z"⟩
abbrev b_Txt_isSymbolSign : ByteArray := prog_8_method_17_code
abbrev y_Txt_isSymbolSign : MethodName := ⟨"SignDesk$Text", "isSymbolSign", "(I)Z"⟩
abbrev b_Rdr_knownNumber : ByteArray := prog_6_method_11_code
abbrev y_Rdr_knownNumber : MethodName := ⟨"SignDesk$Reader", "knownNumber", "(II)I"⟩
abbrev b_Txt_nameAmong : ByteArray := prog_8_method_14_code
abbrev y_Txt_nameAmong : MethodName := ⟨"SignDesk$Text", "nameAmong", "(Ljava/lang/String;II)I"⟩
abbrev b_JS_length : ByteArray := prog_11_method_54_code
abbrev y_JS_length : MethodName := ⟨"java/lang/String", "length", "()I"⟩
abbrev b_JS_coder : ByteArray := prog_11_method_152_code
abbrev y_JS_coder : MethodName := ⟨"java/lang/String", "coder", "()B"⟩
abbrev b_JS_charAt : ByteArray := prog_11_method_56_code
abbrev y_JS_charAt : MethodName := ⟨"java/lang/String", "charAt", "(I)C"⟩
abbrev b_JS_isLatin1 : ByteArray := prog_11_method_154_code
abbrev y_JS_isLatin1 : MethodName := ⟨"java/lang/String", "isLatin1", "()Z"⟩
abbrev b_JL_charAt : ByteArray := prog_12_method_2_code
abbrev y_JL_charAt : MethodName := ⟨"java/lang/StringLatin1", "charAt", "([BI)C"⟩
abbrev b_JS_checkIndex : ByteArray := prog_11_method_155_code
abbrev y_JS_checkIndex : MethodName := ⟨"java/lang/String", "checkIndex", "(II)V"⟩
abbrev b_JP_checkIndex : ByteArray := prog_15_method_11_code
abbrev y_JP_checkIndex : MethodName := ⟨"jdk/internal/util/Preconditions", "checkIndex", "(IILjava/util/function/BiFunction;)I"⟩
abbrev b_Rdr_numberIn : ByteArray := prog_6_method_12_code
abbrev y_Rdr_numberIn : MethodName := ⟨"SignDesk$Reader", "numberIn", "([II)I"⟩
abbrev b_Txt_number : ByteArray := prog_8_method_13_code
abbrev y_Txt_number : MethodName := ⟨"SignDesk$Text", "number", "(II)I"⟩
abbrev b_Prg_isFull : ByteArray := prog_5_method_2_code
abbrev y_Prg_isFull : MethodName := ⟨"SignDesk$Program", "isFull", "()Z"⟩
abbrev b_Sym_symbolOf : ByteArray := prog_7_method_2_code
abbrev y_Sym_symbolOf : MethodName := ⟨"SignDesk$Symbols", "symbolOf", "(II)I"⟩
abbrev b_Txt_isSame : ByteArray := prog_8_method_15_code
abbrev y_Txt_isSame : MethodName := ⟨"SignDesk$Text", "isSame", "(III)Z"⟩
abbrev b_Prg_add : ByteArray := prog_5_method_3_code
abbrev y_Prg_add : MethodName := ⟨"SignDesk$Program", "add", "(I)V"⟩
abbrev b_Rdr_takeLabel : ByteArray := prog_6_method_8_code
abbrev y_Rdr_takeLabel : MethodName := ⟨"SignDesk$Reader", "takeLabel", "(II)I"⟩
abbrev b_Prg_size : ByteArray := prog_5_method_6_code
abbrev y_Prg_size : MethodName := ⟨"SignDesk$Program", "size", "()I"⟩
abbrev b_Sym_tell : ByteArray := prog_7_method_3_code
abbrev y_Sym_tell : MethodName := ⟨"SignDesk$Symbols", "tell", "(II)Z"⟩
abbrev b_Rdr_takeOther : ByteArray := prog_6_method_9_code
abbrev y_Rdr_takeOther : MethodName := ⟨"SignDesk$Reader", "takeOther", "(II)I"⟩
abbrev b_Txt_find : ByteArray := prog_8_method_11_code
abbrev y_Txt_find : MethodName := ⟨"SignDesk$Text", "find", "(CII)I"⟩
abbrev b_Rdr_compBits : ByteArray := prog_6_method_10_code
abbrev y_Rdr_compBits : MethodName := ⟨"SignDesk$Reader", "compBits", "(II)I"⟩
abbrev b_Rdr_fillInSymbols : ByteArray := prog_6_method_13_code
abbrev y_Rdr_fillInSymbols : MethodName := ⟨"SignDesk$Reader", "fillInSymbols", "()V"⟩
abbrev b_Prg_wordAt : ByteArray := prog_5_method_7_code
abbrev y_Prg_wordAt : MethodName := ⟨"SignDesk$Program", "wordAt", "(I)I"⟩
abbrev b_Sym_numberOf : ByteArray := prog_7_method_4_code
abbrev y_Sym_numberOf : MethodName := ⟨"SignDesk$Symbols", "numberOf", "(I)I"⟩
abbrev b_Prg_change : ByteArray := prog_5_method_4_code
abbrev y_Prg_change : MethodName := ⟨"SignDesk$Program", "change", "(II)V"⟩
abbrev b_Txt_clear : ByteArray := prog_8_method_3_code
abbrev y_Txt_clear : MethodName := ⟨"SignDesk$Text", "clear", "()V"⟩
abbrev b_Prc_clear : ByteArray := prog_4_method_2_code
abbrev y_Prc_clear : MethodName := ⟨"SignDesk$Processor", "clear", "()V"⟩
abbrev b_Mem_clear : ByteArray := prog_2_method_5_code
abbrev y_Mem_clear : MethodName := ⟨"SignDesk$Memory", "clear", "()V"⟩
abbrev b_JA_fill : ByteArray := prog_14_method_103_code
abbrev y_JA_fill : MethodName := ⟨"java/util/Arrays", "fill", "([II)V"⟩
abbrev b_Dsk_place : ByteArray := prog_1_method_4_code
abbrev y_Dsk_place : MethodName := ⟨"SignDesk", "place", "()I"⟩
abbrev b_Rdr_faultPlace : ByteArray := prog_6_method_2_code
abbrev y_Rdr_faultPlace : MethodName := ⟨"SignDesk$Reader", "faultPlace", "()I"⟩
abbrev b_Dsk_code : ByteArray := prog_1_method_5_code
abbrev y_Dsk_code : MethodName := ⟨"SignDesk", "code", "(I)I"⟩
abbrev b_Dsk_go : ByteArray := prog_1_method_6_code
abbrev y_Dsk_go : MethodName := ⟨"SignDesk", "go", "(I)I"⟩
abbrev b_Prc_run : ByteArray := prog_4_method_8_code
abbrev y_Prc_run : MethodName := ⟨"SignDesk$Processor", "run", "(I)I"⟩
abbrev b_Prc_perform : ByteArray := prog_4_method_9_code
abbrev y_Prc_perform : MethodName := ⟨"SignDesk$Processor", "perform", "(I)V"⟩
abbrev b_Mem_wordAt : ByteArray := prog_2_method_3_code
abbrev y_Mem_wordAt : MethodName := ⟨"SignDesk$Memory", "wordAt", "(I)I"⟩
abbrev b_Mem_holds : ByteArray := prog_2_method_2_code
abbrev y_Mem_holds : MethodName := ⟨"SignDesk$Memory", "holds", "(I)Z"⟩
abbrev b_Prc_compute : ByteArray := prog_4_method_10_code
abbrev y_Prc_compute : MethodName := ⟨"SignDesk$Processor", "compute", "(III)I"⟩
abbrev b_Mem_write : ByteArray := prog_2_method_4_code
abbrev y_Mem_write : MethodName := ⟨"SignDesk$Memory", "write", "(II)V"⟩
abbrev b_Pag_init : ByteArray := prog_3_method_1_code
abbrev y_Pag_init : MethodName := ⟨"SignDesk$Page", "<init>", "()V"⟩
abbrev b_Dsk_set : ByteArray := prog_1_method_7_code
abbrev y_Dsk_set : MethodName := ⟨"SignDesk", "set", "(II)Z"⟩
abbrev b_Prc_memory : ByteArray := prog_4_method_3_code
abbrev y_Prc_memory : MethodName := ⟨"SignDesk$Processor", "memory", "()LSignDesk$Memory;"⟩
abbrev b_Dsk_store : ByteArray := prog_1_method_8_code
abbrev y_Dsk_store : MethodName := ⟨"SignDesk", "store", "(I)I"⟩
abbrev b_Dsk_register : ByteArray := prog_1_method_9_code
abbrev y_Dsk_register : MethodName := ⟨"SignDesk", "register", "(I)I"⟩
abbrev b_Prc_a : ByteArray := prog_4_method_4_code
abbrev y_Prc_a : MethodName := ⟨"SignDesk$Processor", "a", "()I"⟩
abbrev b_Prc_d : ByteArray := prog_4_method_5_code
abbrev y_Prc_d : MethodName := ⟨"SignDesk$Processor", "d", "()I"⟩
abbrev b_Prc_next : ByteArray := prog_4_method_6_code
abbrev y_Prc_next : MethodName := ⟨"SignDesk$Processor", "next", "()I"⟩
abbrev b_Prc_done : ByteArray := prog_4_method_7_code
abbrev y_Prc_done : MethodName := ⟨"SignDesk$Processor", "done", "()I"⟩
abbrev b_Rdr_symbolCount : ByteArray := prog_6_method_3_code
abbrev y_Rdr_symbolCount : MethodName := ⟨"SignDesk$Reader", "symbolCount", "()I"⟩
abbrev b_Sym_count : ByteArray := prog_7_method_6_code
abbrev y_Sym_count : MethodName := ⟨"SignDesk$Symbols", "count", "()I"⟩
abbrev b_Mod_init : ByteArray := prog_10_method_1_code
abbrev y_Mod_init : MethodName := ⟨"SignDeskModel", "<init>", "()V"⟩
abbrev b_Mod_put : ByteArray := prog_10_method_2_code
abbrev y_Mod_put : MethodName := ⟨"SignDeskModel", "put", "(JI)Z"⟩
abbrev b_Mod_place : ByteArray := prog_10_method_3_code
abbrev y_Mod_place : MethodName := ⟨"SignDeskModel", "place", "()I"⟩
abbrev b_Mod_read : ByteArray := prog_10_method_21_code
abbrev y_Mod_read : MethodName := ⟨"SignDeskModel", "read", "()I"⟩
abbrev b_Mod_resetProcessor : ByteArray := prog_10_method_20_code
abbrev y_Mod_resetProcessor : MethodName := ⟨"SignDeskModel", "resetProcessor", "()V"⟩
abbrev b_Mod_isBlank : ByteArray := prog_10_method_9_code
abbrev y_Mod_isBlank : MethodName := ⟨"SignDeskModel", "isBlank", "(I)Z"⟩
abbrev b_Mod_at : ByteArray := prog_10_method_4_code
abbrev y_Mod_at : MethodName := ⟨"SignDeskModel", "at", "(I)I"⟩
abbrev b_Mod_instruction : ByteArray := prog_10_method_19_code
abbrev y_Mod_instruction : MethodName := ⟨"SignDeskModel", "instruction", "(IIZ)I"⟩
abbrev b_Mod_label : ByteArray := prog_10_method_14_code
abbrev y_Mod_label : MethodName := ⟨"SignDeskModel", "label", "(II)I"⟩
abbrev b_Mod_isSymbol : ByteArray := prog_10_method_11_code
abbrev y_Mod_isSymbol : MethodName := ⟨"SignDeskModel", "isSymbol", "(II)Z"⟩
abbrev b_Mod_isDigit : ByteArray := prog_10_method_6_code
abbrev y_Mod_isDigit : MethodName := ⟨"SignDeskModel", "isDigit", "(I)Z"⟩
abbrev b_Mod_isSymbolByte : ByteArray := prog_10_method_10_code
abbrev y_Mod_isSymbolByte : MethodName := ⟨"SignDeskModel", "isSymbolByte", "(I)Z"⟩
abbrev b_Mod_isWordByte : ByteArray := prog_10_method_7_code
abbrev y_Mod_isWordByte : MethodName := ⟨"SignDeskModel", "isWordByte", "(I)Z"⟩
abbrev b_Mod_isLetter : ByteArray := prog_10_method_5_code
abbrev y_Mod_isLetter : MethodName := ⟨"SignDeskModel", "isLetter", "(I)Z"⟩
abbrev b_Mod_knownOf : ByteArray := prog_10_method_12_code
abbrev y_Mod_knownOf : MethodName := ⟨"SignDeskModel", "knownOf", "(II)I"⟩
abbrev b_Mod_wordOf : ByteArray := prog_10_method_8_code
abbrev y_Mod_wordOf : MethodName := ⟨"SignDeskModel", "wordOf", "([CII)I"⟩
abbrev b_Mod_symbolOf : ByteArray := prog_10_method_13_code
abbrev y_Mod_symbolOf : MethodName := ⟨"SignDeskModel", "symbolOf", "(II)I"⟩
abbrev b_Mod_address : ByteArray := prog_10_method_15_code
abbrev y_Mod_address : MethodName := ⟨"SignDeskModel", "address", "(II)I"⟩
abbrev b_Mod_computes : ByteArray := prog_10_method_18_code
abbrev y_Mod_computes : MethodName := ⟨"SignDeskModel", "computes", "(II)I"⟩
abbrev b_Mod_destOf : ByteArray := prog_10_method_17_code
abbrev y_Mod_destOf : MethodName := ⟨"SignDeskModel", "destOf", "(II)I"⟩
abbrev b_Mod_compOf : ByteArray := prog_10_method_16_code
abbrev y_Mod_compOf : MethodName := ⟨"SignDeskModel", "compOf", "(II)I"⟩
abbrev b_Mod_code : ByteArray := prog_10_method_22_code
abbrev y_Mod_code : MethodName := ⟨"SignDeskModel", "code", "(I)I"⟩
abbrev b_Mod_go : ByteArray := prog_10_method_25_code
abbrev y_Mod_go : MethodName := ⟨"SignDeskModel", "go", "(I)I"⟩
abbrev b_Mod_oneCode : ByteArray := prog_10_method_24_code
abbrev y_Mod_oneCode : MethodName := ⟨"SignDeskModel", "oneCode", "()V"⟩
abbrev b_Mod_unit : ByteArray := prog_10_method_23_code
abbrev y_Mod_unit : MethodName := ⟨"SignDeskModel", "unit", "(III)I"⟩
abbrev b_Mod_set : ByteArray := prog_10_method_26_code
abbrev y_Mod_set : MethodName := ⟨"SignDeskModel", "set", "(II)Z"⟩
abbrev b_Mod_store : ByteArray := prog_10_method_27_code
abbrev y_Mod_store : MethodName := ⟨"SignDeskModel", "store", "(I)I"⟩
abbrev b_Mod_register : ByteArray := prog_10_method_28_code
abbrev y_Mod_register : MethodName := ⟨"SignDeskModel", "register", "(I)I"⟩
theorem sd_lt (i : Nat) {w : Cond} (h : lw_tbl[i]? = some w) (hg : goodWord w = true) : w ∈ sdT := sd_in (List.mem_of_getElem? h) hg
end
section
/-! places of the words -/
theorem k_0 : Cond.selects "SignDesk$Reader" ⟨"SignDesk$Reader", "forget", "()V"⟩ ⟨"SignDesk$Reader", "forget", "()V"⟩ ∈ sdT := sd_lt 0 (by decide +kernel) (by decide +kernel)
theorem k_1 : Cond.selects "SignDesk$Reader" ⟨"SignDesk$Reader", "take", "(II)I"⟩ ⟨"SignDesk$Reader", "take", "(II)I"⟩ ∈ sdT := sd_lt 1 (by decide +kernel) (by decide +kernel)
theorem k_2 : Cond.selects "SignDesk$Reader" ⟨"SignDesk$Reader", "takeAddress", "(II)I"⟩ ⟨"SignDesk$Reader", "takeAddress", "(II)I"⟩ ∈ sdT := sd_lt 2 (by decide +kernel) (by decide +kernel)
theorem k_3 : Cond.selects "SignDesk$Reader" ⟨"SignDesk$Reader", "knownNumber", "(II)I"⟩ ⟨"SignDesk$Reader", "knownNumber", "(II)I"⟩ ∈ sdT := sd_lt 3 (by decide +kernel) (by decide +kernel)
theorem k_4 : Cond.selects "SignDesk$Reader" ⟨"SignDesk$Reader", "takeLabel", "(II)I"⟩ ⟨"SignDesk$Reader", "takeLabel", "(II)I"⟩ ∈ sdT := sd_lt 4 (by decide +kernel) (by decide +kernel)
theorem k_5 : Cond.selects "SignDesk$Reader" ⟨"SignDesk$Reader", "takeOther", "(II)I"⟩ ⟨"SignDesk$Reader", "takeOther", "(II)I"⟩ ∈ sdT := sd_lt 5 (by decide +kernel) (by decide +kernel)
theorem k_6 : Cond.selects "SignDesk$Reader" ⟨"SignDesk$Reader", "compBits", "(II)I"⟩ ⟨"SignDesk$Reader", "compBits", "(II)I"⟩ ∈ sdT := sd_lt 6 (by decide +kernel) (by decide +kernel)
theorem k_7 : Cond.selects "SignDesk$Reader" ⟨"SignDesk$Reader", "fillInSymbols", "()V"⟩ ⟨"SignDesk$Reader", "fillInSymbols", "()V"⟩ ∈ sdT := sd_lt 7 (by decide +kernel) (by decide +kernel)
theorem k_8 : Cond.selects "SignDesk$Processor" ⟨"SignDesk$Processor", "perform", "(I)V"⟩ ⟨"SignDesk$Processor", "perform", "(I)V"⟩ ∈ sdT := sd_lt 8 (by decide +kernel) (by decide +kernel)
theorem k_9 : Cond.selects "SignDeskModel" ⟨"SignDeskModel", "resetProcessor", "()V"⟩ ⟨"SignDeskModel", "resetProcessor", "()V"⟩ ∈ sdT := sd_lt 9 (by decide +kernel) (by decide +kernel)
theorem k_10 : Cond.selects "SignDeskModel" ⟨"SignDeskModel", "at", "(I)I"⟩ ⟨"SignDeskModel", "at", "(I)I"⟩ ∈ sdT := sd_lt 10 (by decide +kernel) (by decide +kernel)
theorem k_11 : Cond.selects "SignDeskModel" ⟨"SignDeskModel", "instruction", "(IIZ)I"⟩ ⟨"SignDeskModel", "instruction", "(IIZ)I"⟩ ∈ sdT := sd_lt 11 (by decide +kernel) (by decide +kernel)
theorem k_12 : Cond.selects "SignDeskModel" ⟨"SignDeskModel", "label", "(II)I"⟩ ⟨"SignDeskModel", "label", "(II)I"⟩ ∈ sdT := sd_lt 12 (by decide +kernel) (by decide +kernel)
theorem k_13 : Cond.selects "SignDeskModel" ⟨"SignDeskModel", "isSymbol", "(II)Z"⟩ ⟨"SignDeskModel", "isSymbol", "(II)Z"⟩ ∈ sdT := sd_lt 13 (by decide +kernel) (by decide +kernel)
theorem k_14 : Cond.selects "SignDeskModel" ⟨"SignDeskModel", "knownOf", "(II)I"⟩ ⟨"SignDeskModel", "knownOf", "(II)I"⟩ ∈ sdT := sd_lt 14 (by decide +kernel) (by decide +kernel)
theorem k_15 : Cond.selects "SignDeskModel" ⟨"SignDeskModel", "wordOf", "([CII)I"⟩ ⟨"SignDeskModel", "wordOf", "([CII)I"⟩ ∈ sdT := sd_lt 15 (by decide +kernel) (by decide +kernel)
theorem k_16 : Cond.selects "SignDeskModel" ⟨"SignDeskModel", "symbolOf", "(II)I"⟩ ⟨"SignDeskModel", "symbolOf", "(II)I"⟩ ∈ sdT := sd_lt 16 (by decide +kernel) (by decide +kernel)
theorem k_17 : Cond.selects "SignDeskModel" ⟨"SignDeskModel", "address", "(II)I"⟩ ⟨"SignDeskModel", "address", "(II)I"⟩ ∈ sdT := sd_lt 17 (by decide +kernel) (by decide +kernel)
theorem k_18 : Cond.selects "SignDeskModel" ⟨"SignDeskModel", "computes", "(II)I"⟩ ⟨"SignDeskModel", "computes", "(II)I"⟩ ∈ sdT := sd_lt 18 (by decide +kernel) (by decide +kernel)
theorem k_19 : Cond.selects "SignDeskModel" ⟨"SignDeskModel", "destOf", "(II)I"⟩ ⟨"SignDeskModel", "destOf", "(II)I"⟩ ∈ sdT := sd_lt 19 (by decide +kernel) (by decide +kernel)
theorem k_20 : Cond.selects "SignDeskModel" ⟨"SignDeskModel", "compOf", "(II)I"⟩ ⟨"SignDeskModel", "compOf", "(II)I"⟩ ∈ sdT := sd_lt 20 (by decide +kernel) (by decide +kernel)
theorem k_21 : Cond.selects "SignDeskModel" ⟨"SignDeskModel", "oneCode", "()V"⟩ ⟨"SignDeskModel", "oneCode", "()V"⟩ ∈ sdT := sd_lt 21 (by decide +kernel) (by decide +kernel)
theorem k_22 : Cond.initialized "SignDeskLaw" ∈ sdT := sd_lt 22 (by decide +kernel) (by decide +kernel)
theorem k_23 : Cond.initialized "SignDesk" ∈ sdT := sd_lt 23 (by decide +kernel) (by decide +kernel)
theorem k_24 : Cond.initialized "SignDesk$Text" ∈ sdT := sd_lt 24 (by decide +kernel) (by decide +kernel)
theorem k_25 : Cond.initialized "SignDesk$Program" ∈ sdT := sd_lt 25 (by decide +kernel) (by decide +kernel)
theorem k_26 : Cond.initialized "SignDesk$Reader" ∈ sdT := sd_lt 26 (by decide +kernel) (by decide +kernel)
theorem k_27 : Cond.initialized "SignDesk$Symbols" ∈ sdT := sd_lt 27 (by decide +kernel) (by decide +kernel)
theorem k_28 : Cond.initialized "SignDesk$Processor" ∈ sdT := sd_lt 28 (by decide +kernel) (by decide +kernel)
theorem k_29 : Cond.initialized "SignDesk$Memory" ∈ sdT := sd_lt 29 (by decide +kernel) (by decide +kernel)
theorem k_30 : Cond.initialized "SignDeskModel" ∈ sdT := sd_lt 30 (by decide +kernel) (by decide +kernel)
theorem k_31 : Cond.initialized "java/lang/String" ∈ sdT := sd_lt 31 (by decide +kernel) (by decide +kernel)
theorem k_32 : Cond.initialized "java/lang/StringLatin1" ∈ sdT := sd_lt 32 (by decide +kernel) (by decide +kernel)
theorem k_33 : Cond.initialized "jdk/internal/util/Preconditions" ∈ sdT := sd_lt 33 (by decide +kernel) (by decide +kernel)
theorem k_35 : Cond.initialized "java/util/Arrays" ∈ sdT := sd_lt 35 (by decide +kernel) (by decide +kernel)
theorem k_36 : Cond.initialized "SignDesk$Page" ∈ sdT := sd_lt 36 (by decide +kernel) (by decide +kernel)
theorem k_37 : Cond.classLink "SignDeskLaw" 7 "SignDesk" ∈ sdT := sd_lt 37 (by decide +kernel) (by decide +kernel)
theorem k_38 : Cond.instantiable "SignDesk" 4 ∈ sdT := sd_lt 38 (by decide +kernel) (by decide +kernel)
theorem k_39 : Cond.methodLink "SignDeskLaw" 9 ⟨"SignDesk", "<init>", "()V"⟩ ∈ sdT := sd_lt 39 (by decide +kernel) (by decide +kernel)
theorem k_40 : Cond.instanceMethod ⟨"SignDesk", "<init>", "()V"⟩ ∈ sdT := sd_lt 40 (by decide +kernel) (by decide +kernel)
theorem k_41 : Cond.code ⟨"SignDesk", "<init>", "()V"⟩ prog_1_method_1_code 1 (none) ∈ sdT := sd_lt 41 (by decide +kernel) (by decide +kernel)
theorem k_42 : Cond.methodLink "SignDesk" 1 ⟨"java/lang/Object", "<init>", "()V"⟩ ∈ sdT := sd_lt 42 (by decide +kernel) (by decide +kernel)
theorem k_43 : Cond.instanceMethod ⟨"java/lang/Object", "<init>", "()V"⟩ ∈ sdT := sd_lt 43 (by decide +kernel) (by decide +kernel)
theorem k_44 : Cond.code ⟨"java/lang/Object", "<init>", "()V"⟩ object_method_1_code 1 (none) ∈ sdT := sd_lt 44 (by decide +kernel) (by decide +kernel)
theorem k_45 : Cond.classLink "SignDesk" 7 "SignDesk$Text" ∈ sdT := sd_lt 45 (by decide +kernel) (by decide +kernel)
theorem k_46 : Cond.instantiable "SignDesk$Text" 2 ∈ sdT := sd_lt 46 (by decide +kernel) (by decide +kernel)
theorem k_48 : Cond.instanceMethod ⟨"SignDesk$Text", "<init>", "()V"⟩ ∈ sdT := sd_lt 48 (by decide +kernel) (by decide +kernel)
theorem k_49 : Cond.code ⟨"SignDesk$Text", "<init>", "()V"⟩ prog_8_method_1_code 1 (none) ∈ sdT := sd_lt 49 (by decide +kernel) (by decide +kernel)
theorem k_50 : Cond.methodLink "SignDesk$Text" 1 ⟨"java/lang/Object", "<init>", "()V"⟩ ∈ sdT := sd_lt 50 (by decide +kernel) (by decide +kernel)
theorem k_51 : Cond.fieldLink "SignDesk$Text" 9 "SignDesk$Text" "bytes" "[B" ∈ sdT := sd_lt 51 (by decide +kernel) (by decide +kernel)
theorem k_52 : Cond.fieldLink "SignDesk$Text" 13 "SignDesk$Text" "size" "I" ∈ sdT := sd_lt 52 (by decide +kernel) (by decide +kernel)
theorem k_53 : Cond.laysFinal "SignDesk$Text" "SignDesk$Text" "bytes" "[B" ∈ sdT := sd_lt 53 (by decide +kernel) (by decide +kernel)
theorem k_55 : Cond.lays "SignDesk$Text" "SignDesk$Text" "size" "I" ∈ sdT := sd_lt 55 (by decide +kernel) (by decide +kernel)
theorem k_58 : Cond.arrayClass FieldType.byte ∈ sdT := sd_lt 58 (by decide +kernel) (by decide +kernel)
theorem k_59 : Cond.classLink "SignDesk" 16 "SignDesk$Program" ∈ sdT := sd_lt 59 (by decide +kernel) (by decide +kernel)
theorem k_60 : Cond.instantiable "SignDesk$Program" 2 ∈ sdT := sd_lt 60 (by decide +kernel) (by decide +kernel)
theorem k_62 : Cond.instanceMethod ⟨"SignDesk$Program", "<init>", "()V"⟩ ∈ sdT := sd_lt 62 (by decide +kernel) (by decide +kernel)
theorem k_63 : Cond.code ⟨"SignDesk$Program", "<init>", "()V"⟩ prog_5_method_1_code 1 (none) ∈ sdT := sd_lt 63 (by decide +kernel) (by decide +kernel)
theorem k_64 : Cond.methodLink "SignDesk$Program" 1 ⟨"java/lang/Object", "<init>", "()V"⟩ ∈ sdT := sd_lt 64 (by decide +kernel) (by decide +kernel)
theorem k_65 : Cond.fieldLink "SignDesk$Program" 9 "SignDesk$Program" "words" "[I" ∈ sdT := sd_lt 65 (by decide +kernel) (by decide +kernel)
theorem k_66 : Cond.fieldLink "SignDesk$Program" 13 "SignDesk$Program" "size" "I" ∈ sdT := sd_lt 66 (by decide +kernel) (by decide +kernel)
theorem k_67 : Cond.laysFinal "SignDesk$Program" "SignDesk$Program" "words" "[I" ∈ sdT := sd_lt 67 (by decide +kernel) (by decide +kernel)
theorem k_69 : Cond.lays "SignDesk$Program" "SignDesk$Program" "size" "I" ∈ sdT := sd_lt 69 (by decide +kernel) (by decide +kernel)
theorem k_72 : Cond.arrayClass FieldType.int ∈ sdT := sd_lt 72 (by decide +kernel) (by decide +kernel)
theorem k_73 : Cond.classLink "SignDesk" 23 "SignDesk$Reader" ∈ sdT := sd_lt 73 (by decide +kernel) (by decide +kernel)
theorem k_74 : Cond.instantiable "SignDesk$Reader" 4 ∈ sdT := sd_lt 74 (by decide +kernel) (by decide +kernel)
theorem k_75 : Cond.methodLink "SignDesk" 25 ⟨"SignDesk$Reader", "<init>", "(LSignDesk$Text;LSignDesk$Program;)V"⟩ ∈ sdT := sd_lt 75 (by decide +kernel) (by decide +kernel)
theorem k_76 : Cond.instanceMethod ⟨"SignDesk$Reader", "<init>", "(LSignDesk$Text;LSignDesk$Program;)V"⟩ ∈ sdT := sd_lt 76 (by decide +kernel) (by decide +kernel)
theorem k_77 : Cond.code ⟨"SignDesk$Reader", "<init>", "(LSignDesk$Text;LSignDesk$Program;)V"⟩ prog_6_method_1_code 3 (none) ∈ sdT := sd_lt 77 (by decide +kernel) (by decide +kernel)
theorem k_78 : Cond.methodLink "SignDesk$Reader" 3 ⟨"java/lang/Object", "<init>", "()V"⟩ ∈ sdT := sd_lt 78 (by decide +kernel) (by decide +kernel)
theorem k_79 : Cond.classLink "SignDesk$Reader" 23 "SignDesk$Symbols" ∈ sdT := sd_lt 79 (by decide +kernel) (by decide +kernel)
theorem k_80 : Cond.instantiable "SignDesk$Symbols" 5 ∈ sdT := sd_lt 80 (by decide +kernel) (by decide +kernel)
theorem k_81 : Cond.methodLink "SignDesk$Reader" 25 ⟨"SignDesk$Symbols", "<init>", "(LSignDesk$Text;)V"⟩ ∈ sdT := sd_lt 81 (by decide +kernel) (by decide +kernel)
theorem k_82 : Cond.instanceMethod ⟨"SignDesk$Symbols", "<init>", "(LSignDesk$Text;)V"⟩ ∈ sdT := sd_lt 82 (by decide +kernel) (by decide +kernel)
theorem k_83 : Cond.code ⟨"SignDesk$Symbols", "<init>", "(LSignDesk$Text;)V"⟩ prog_7_method_1_code 2 (none) ∈ sdT := sd_lt 83 (by decide +kernel) (by decide +kernel)
theorem k_84 : Cond.methodLink "SignDesk$Symbols" 1 ⟨"java/lang/Object", "<init>", "()V"⟩ ∈ sdT := sd_lt 84 (by decide +kernel) (by decide +kernel)
theorem k_85 : Cond.fieldLink "SignDesk$Symbols" 19 "SignDesk$Symbols" "text" "LSignDesk$Text;" ∈ sdT := sd_lt 85 (by decide +kernel) (by decide +kernel)
theorem k_86 : Cond.fieldLink "SignDesk$Symbols" 9 "SignDesk$Symbols" "starts" "[I" ∈ sdT := sd_lt 86 (by decide +kernel) (by decide +kernel)
theorem k_87 : Cond.fieldLink "SignDesk$Symbols" 13 "SignDesk$Symbols" "lengths" "[I" ∈ sdT := sd_lt 87 (by decide +kernel) (by decide +kernel)
theorem k_88 : Cond.fieldLink "SignDesk$Symbols" 16 "SignDesk$Symbols" "numbers" "[I" ∈ sdT := sd_lt 88 (by decide +kernel) (by decide +kernel)
theorem k_89 : Cond.fieldLink "SignDesk$Symbols" 23 "SignDesk$Symbols" "count" "I" ∈ sdT := sd_lt 89 (by decide +kernel) (by decide +kernel)
theorem k_90 : Cond.laysFinal "SignDesk$Symbols" "SignDesk$Symbols" "text" "LSignDesk$Text;" ∈ sdT := sd_lt 90 (by decide +kernel) (by decide +kernel)
theorem k_92 : Cond.laysFinal "SignDesk$Symbols" "SignDesk$Symbols" "starts" "[I" ∈ sdT := sd_lt 92 (by decide +kernel) (by decide +kernel)
theorem k_94 : Cond.laysFinal "SignDesk$Symbols" "SignDesk$Symbols" "lengths" "[I" ∈ sdT := sd_lt 94 (by decide +kernel) (by decide +kernel)
theorem k_96 : Cond.laysFinal "SignDesk$Symbols" "SignDesk$Symbols" "numbers" "[I" ∈ sdT := sd_lt 96 (by decide +kernel) (by decide +kernel)
theorem k_98 : Cond.lays "SignDesk$Symbols" "SignDesk$Symbols" "count" "I" ∈ sdT := sd_lt 98 (by decide +kernel) (by decide +kernel)
theorem k_101 : Cond.fieldLink "SignDesk$Reader" 15 "SignDesk$Reader" "text" "LSignDesk$Text;" ∈ sdT := sd_lt 101 (by decide +kernel) (by decide +kernel)
theorem k_102 : Cond.fieldLink "SignDesk$Reader" 19 "SignDesk$Reader" "program" "LSignDesk$Program;" ∈ sdT := sd_lt 102 (by decide +kernel) (by decide +kernel)
theorem k_103 : Cond.fieldLink "SignDesk$Reader" 28 "SignDesk$Reader" "symbols" "LSignDesk$Symbols;" ∈ sdT := sd_lt 103 (by decide +kernel) (by decide +kernel)
theorem k_104 : Cond.fieldLink "SignDesk$Reader" 11 "SignDesk$Reader" "faultPlace" "I" ∈ sdT := sd_lt 104 (by decide +kernel) (by decide +kernel)
theorem k_105 : Cond.laysFinal "SignDesk$Reader" "SignDesk$Reader" "text" "LSignDesk$Text;" ∈ sdT := sd_lt 105 (by decide +kernel) (by decide +kernel)
theorem k_107 : Cond.laysFinal "SignDesk$Reader" "SignDesk$Reader" "program" "LSignDesk$Program;" ∈ sdT := sd_lt 107 (by decide +kernel) (by decide +kernel)
theorem k_109 : Cond.laysFinal "SignDesk$Reader" "SignDesk$Reader" "symbols" "LSignDesk$Symbols;" ∈ sdT := sd_lt 109 (by decide +kernel) (by decide +kernel)
theorem k_111 : Cond.lays "SignDesk$Reader" "SignDesk$Reader" "faultPlace" "I" ∈ sdT := sd_lt 111 (by decide +kernel) (by decide +kernel)
theorem k_114 : Cond.classLink "SignDesk" 32 "SignDesk$Processor" ∈ sdT := sd_lt 114 (by decide +kernel) (by decide +kernel)
theorem k_115 : Cond.instantiable "SignDesk$Processor" 6 ∈ sdT := sd_lt 115 (by decide +kernel) (by decide +kernel)
theorem k_116 : Cond.methodLink "SignDesk" 34 ⟨"SignDesk$Processor", "<init>", "(LSignDesk$Program;)V"⟩ ∈ sdT := sd_lt 116 (by decide +kernel) (by decide +kernel)
theorem k_117 : Cond.instanceMethod ⟨"SignDesk$Processor", "<init>", "(LSignDesk$Program;)V"⟩ ∈ sdT := sd_lt 117 (by decide +kernel) (by decide +kernel)
theorem k_118 : Cond.code ⟨"SignDesk$Processor", "<init>", "(LSignDesk$Program;)V"⟩ prog_4_method_1_code 2 (none) ∈ sdT := sd_lt 118 (by decide +kernel) (by decide +kernel)
theorem k_119 : Cond.methodLink "SignDesk$Processor" 3 ⟨"java/lang/Object", "<init>", "()V"⟩ ∈ sdT := sd_lt 119 (by decide +kernel) (by decide +kernel)
theorem k_120 : Cond.classLink "SignDesk$Processor" 15 "SignDesk$Memory" ∈ sdT := sd_lt 120 (by decide +kernel) (by decide +kernel)
theorem k_121 : Cond.instantiable "SignDesk$Memory" 1 ∈ sdT := sd_lt 121 (by decide +kernel) (by decide +kernel)
theorem k_123 : Cond.instanceMethod ⟨"SignDesk$Memory", "<init>", "()V"⟩ ∈ sdT := sd_lt 123 (by decide +kernel) (by decide +kernel)
theorem k_124 : Cond.code ⟨"SignDesk$Memory", "<init>", "()V"⟩ prog_2_method_1_code 1 (none) ∈ sdT := sd_lt 124 (by decide +kernel) (by decide +kernel)
theorem k_125 : Cond.methodLink "SignDesk$Memory" 5 ⟨"java/lang/Object", "<init>", "()V"⟩ ∈ sdT := sd_lt 125 (by decide +kernel) (by decide +kernel)
theorem k_126 : Cond.classLink "SignDesk$Memory" 3 "SignDesk$Page" ∈ sdT := sd_lt 126 (by decide +kernel) (by decide +kernel)
theorem k_128 : Cond.fieldLink "SignDesk$Memory" 11 "SignDesk$Memory" "pages" "[LSignDesk$Page;" ∈ sdT := sd_lt 128 (by decide +kernel) (by decide +kernel)
theorem k_129 : Cond.laysFinal "SignDesk$Memory" "SignDesk$Memory" "pages" "[LSignDesk$Page;" ∈ sdT := sd_lt 129 (by decide +kernel) (by decide +kernel)
theorem k_132 : Cond.fieldLink "SignDesk$Processor" 9 "SignDesk$Processor" "program" "LSignDesk$Program;" ∈ sdT := sd_lt 132 (by decide +kernel) (by decide +kernel)
theorem k_133 : Cond.fieldLink "SignDesk$Processor" 18 "SignDesk$Processor" "memory" "LSignDesk$Memory;" ∈ sdT := sd_lt 133 (by decide +kernel) (by decide +kernel)
theorem k_134 : Cond.fieldLink "SignDesk$Processor" 25 "SignDesk$Processor" "a" "I" ∈ sdT := sd_lt 134 (by decide +kernel) (by decide +kernel)
theorem k_135 : Cond.fieldLink "SignDesk$Processor" 29 "SignDesk$Processor" "d" "I" ∈ sdT := sd_lt 135 (by decide +kernel) (by decide +kernel)
theorem k_136 : Cond.fieldLink "SignDesk$Processor" 32 "SignDesk$Processor" "next" "I" ∈ sdT := sd_lt 136 (by decide +kernel) (by decide +kernel)
theorem k_137 : Cond.fieldLink "SignDesk$Processor" 35 "SignDesk$Processor" "done" "I" ∈ sdT := sd_lt 137 (by decide +kernel) (by decide +kernel)
theorem k_138 : Cond.laysFinal "SignDesk$Processor" "SignDesk$Processor" "program" "LSignDesk$Program;" ∈ sdT := sd_lt 138 (by decide +kernel) (by decide +kernel)
theorem k_140 : Cond.laysFinal "SignDesk$Processor" "SignDesk$Processor" "memory" "LSignDesk$Memory;" ∈ sdT := sd_lt 140 (by decide +kernel) (by decide +kernel)
theorem k_142 : Cond.lays "SignDesk$Processor" "SignDesk$Processor" "a" "I" ∈ sdT := sd_lt 142 (by decide +kernel) (by decide +kernel)
theorem k_144 : Cond.lays "SignDesk$Processor" "SignDesk$Processor" "d" "I" ∈ sdT := sd_lt 144 (by decide +kernel) (by decide +kernel)
theorem k_146 : Cond.lays "SignDesk$Processor" "SignDesk$Processor" "next" "I" ∈ sdT := sd_lt 146 (by decide +kernel) (by decide +kernel)
theorem k_148 : Cond.lays "SignDesk$Processor" "SignDesk$Processor" "done" "I" ∈ sdT := sd_lt 148 (by decide +kernel) (by decide +kernel)
theorem k_151 : Cond.fieldLink "SignDesk" 10 "SignDesk" "text" "LSignDesk$Text;" ∈ sdT := sd_lt 151 (by decide +kernel) (by decide +kernel)
theorem k_152 : Cond.fieldLink "SignDesk" 19 "SignDesk" "program" "LSignDesk$Program;" ∈ sdT := sd_lt 152 (by decide +kernel) (by decide +kernel)
theorem k_153 : Cond.fieldLink "SignDesk" 28 "SignDesk" "reader" "LSignDesk$Reader;" ∈ sdT := sd_lt 153 (by decide +kernel) (by decide +kernel)
theorem k_154 : Cond.fieldLink "SignDesk" 37 "SignDesk" "processor" "LSignDesk$Processor;" ∈ sdT := sd_lt 154 (by decide +kernel) (by decide +kernel)
theorem k_155 : Cond.laysFinal "SignDesk" "SignDesk" "text" "LSignDesk$Text;" ∈ sdT := sd_lt 155 (by decide +kernel) (by decide +kernel)
theorem k_157 : Cond.laysFinal "SignDesk" "SignDesk" "program" "LSignDesk$Program;" ∈ sdT := sd_lt 157 (by decide +kernel) (by decide +kernel)
theorem k_159 : Cond.laysFinal "SignDesk" "SignDesk" "reader" "LSignDesk$Reader;" ∈ sdT := sd_lt 159 (by decide +kernel) (by decide +kernel)
theorem k_161 : Cond.laysFinal "SignDesk" "SignDesk" "processor" "LSignDesk$Processor;" ∈ sdT := sd_lt 161 (by decide +kernel) (by decide +kernel)
theorem k_164 : Cond.methodLink "SignDeskLaw" 15 ⟨"SignDesk", "put", "(JI)Z"⟩ ∈ sdT := sd_lt 164 (by decide +kernel) (by decide +kernel)
theorem k_165 : Cond.instanceMethod ⟨"SignDesk", "put", "(JI)Z"⟩ ∈ sdT := sd_lt 165 (by decide +kernel) (by decide +kernel)
theorem k_166 : Cond.selects "SignDesk" ⟨"SignDesk", "put", "(JI)Z"⟩ ⟨"SignDesk", "put", "(JI)Z"⟩ ∈ sdT := sd_lt 166 (by decide +kernel) (by decide +kernel)
theorem k_167 : Cond.code ⟨"SignDesk", "put", "(JI)Z"⟩ prog_1_method_2_code 4 (Option.some FieldType.boolean) ∈ sdT := sd_lt 167 (by decide +kernel) (by decide +kernel)
theorem k_168 : Cond.methodLink "SignDesk" 41 ⟨"SignDesk$Text", "append", "(JI)Z"⟩ ∈ sdT := sd_lt 168 (by decide +kernel) (by decide +kernel)
theorem k_169 : Cond.instanceMethod ⟨"SignDesk$Text", "append", "(JI)Z"⟩ ∈ sdT := sd_lt 169 (by decide +kernel) (by decide +kernel)
theorem k_170 : Cond.selects "SignDesk$Text" ⟨"SignDesk$Text", "append", "(JI)Z"⟩ ⟨"SignDesk$Text", "append", "(JI)Z"⟩ ∈ sdT := sd_lt 170 (by decide +kernel) (by decide +kernel)
theorem k_171 : Cond.code ⟨"SignDesk$Text", "append", "(JI)Z"⟩ prog_8_method_2_code 5 (Option.some FieldType.boolean) ∈ sdT := sd_lt 171 (by decide +kernel) (by decide +kernel)
theorem k_172 : Cond.methodLink "SignDeskLaw" 20 ⟨"SignDesk", "read", "()I"⟩ ∈ sdT := sd_lt 172 (by decide +kernel) (by decide +kernel)
theorem k_173 : Cond.instanceMethod ⟨"SignDesk", "read", "()I"⟩ ∈ sdT := sd_lt 173 (by decide +kernel) (by decide +kernel)
theorem k_174 : Cond.selects "SignDesk" ⟨"SignDesk", "read", "()I"⟩ ⟨"SignDesk", "read", "()I"⟩ ∈ sdT := sd_lt 174 (by decide +kernel) (by decide +kernel)
theorem k_175 : Cond.code ⟨"SignDesk", "read", "()I"⟩ prog_1_method_3_code 2 (Option.some FieldType.int) ∈ sdT := sd_lt 175 (by decide +kernel) (by decide +kernel)
theorem k_176 : Cond.methodLink "SignDesk" 45 ⟨"SignDesk$Reader", "assemble", "()I"⟩ ∈ sdT := sd_lt 176 (by decide +kernel) (by decide +kernel)
theorem k_177 : Cond.instanceMethod ⟨"SignDesk$Reader", "assemble", "()I"⟩ ∈ sdT := sd_lt 177 (by decide +kernel) (by decide +kernel)
theorem k_178 : Cond.selects "SignDesk$Reader" ⟨"SignDesk$Reader", "assemble", "()I"⟩ ⟨"SignDesk$Reader", "assemble", "()I"⟩ ∈ sdT := sd_lt 178 (by decide +kernel) (by decide +kernel)
theorem k_179 : Cond.code ⟨"SignDesk$Reader", "assemble", "()I"⟩ prog_6_method_4_code 5 (Option.some FieldType.int) ∈ sdT := sd_lt 179 (by decide +kernel) (by decide +kernel)
theorem k_180 : Cond.methodLink "SignDesk$Reader" 36 ⟨"SignDesk$Reader", "forget", "()V"⟩ ∈ sdT := sd_lt 180 (by decide +kernel) (by decide +kernel)
theorem k_182 : Cond.instanceMethod ⟨"SignDesk$Reader", "forget", "()V"⟩ ∈ sdT := sd_lt 182 (by decide +kernel) (by decide +kernel)
theorem k_183 : Cond.code ⟨"SignDesk$Reader", "forget", "()V"⟩ prog_6_method_5_code 1 (none) ∈ sdT := sd_lt 183 (by decide +kernel) (by decide +kernel)
theorem k_184 : Cond.methodLink "SignDesk$Reader" 68 ⟨"SignDesk$Program", "clear", "()V"⟩ ∈ sdT := sd_lt 184 (by decide +kernel) (by decide +kernel)
theorem k_185 : Cond.instanceMethod ⟨"SignDesk$Program", "clear", "()V"⟩ ∈ sdT := sd_lt 185 (by decide +kernel) (by decide +kernel)
theorem k_186 : Cond.selects "SignDesk$Program" ⟨"SignDesk$Program", "clear", "()V"⟩ ⟨"SignDesk$Program", "clear", "()V"⟩ ∈ sdT := sd_lt 186 (by decide +kernel) (by decide +kernel)
theorem k_187 : Cond.code ⟨"SignDesk$Program", "clear", "()V"⟩ prog_5_method_5_code 1 (none) ∈ sdT := sd_lt 187 (by decide +kernel) (by decide +kernel)
theorem k_188 : Cond.methodLink "SignDesk$Reader" 73 ⟨"SignDesk$Symbols", "clear", "()V"⟩ ∈ sdT := sd_lt 188 (by decide +kernel) (by decide +kernel)
theorem k_189 : Cond.instanceMethod ⟨"SignDesk$Symbols", "clear", "()V"⟩ ∈ sdT := sd_lt 189 (by decide +kernel) (by decide +kernel)
theorem k_190 : Cond.selects "SignDesk$Symbols" ⟨"SignDesk$Symbols", "clear", "()V"⟩ ⟨"SignDesk$Symbols", "clear", "()V"⟩ ∈ sdT := sd_lt 190 (by decide +kernel) (by decide +kernel)
theorem k_191 : Cond.code ⟨"SignDesk$Symbols", "clear", "()V"⟩ prog_7_method_5_code 1 (none) ∈ sdT := sd_lt 191 (by decide +kernel) (by decide +kernel)
theorem k_192 : Cond.methodLink "SignDesk$Reader" 39 ⟨"SignDesk$Text", "size", "()I"⟩ ∈ sdT := sd_lt 192 (by decide +kernel) (by decide +kernel)
theorem k_193 : Cond.instanceMethod ⟨"SignDesk$Text", "size", "()I"⟩ ∈ sdT := sd_lt 193 (by decide +kernel) (by decide +kernel)
theorem k_194 : Cond.selects "SignDesk$Text" ⟨"SignDesk$Text", "size", "()I"⟩ ⟨"SignDesk$Text", "size", "()I"⟩ ∈ sdT := sd_lt 194 (by decide +kernel) (by decide +kernel)
theorem k_195 : Cond.code ⟨"SignDesk$Text", "size", "()I"⟩ prog_8_method_4_code 1 (Option.some FieldType.int) ∈ sdT := sd_lt 195 (by decide +kernel) (by decide +kernel)
theorem k_196 : Cond.methodLink "SignDesk$Reader" 44 ⟨"SignDesk$Text", "isBlank", "(I)Z"⟩ ∈ sdT := sd_lt 196 (by decide +kernel) (by decide +kernel)
theorem k_197 : Cond.instanceMethod ⟨"SignDesk$Text", "isBlank", "(I)Z"⟩ ∈ sdT := sd_lt 197 (by decide +kernel) (by decide +kernel)
theorem k_198 : Cond.selects "SignDesk$Text" ⟨"SignDesk$Text", "isBlank", "(I)Z"⟩ ⟨"SignDesk$Text", "isBlank", "(I)Z"⟩ ∈ sdT := sd_lt 198 (by decide +kernel) (by decide +kernel)
theorem k_199 : Cond.code ⟨"SignDesk$Text", "isBlank", "(I)Z"⟩ prog_8_method_7_code 3 (Option.some FieldType.boolean) ∈ sdT := sd_lt 199 (by decide +kernel) (by decide +kernel)
theorem k_200 : Cond.methodLink "SignDesk$Text" 17 ⟨"SignDesk$Text", "byteAt", "(I)I"⟩ ∈ sdT := sd_lt 200 (by decide +kernel) (by decide +kernel)
theorem k_201 : Cond.instanceMethod ⟨"SignDesk$Text", "byteAt", "(I)I"⟩ ∈ sdT := sd_lt 201 (by decide +kernel) (by decide +kernel)
theorem k_202 : Cond.selects "SignDesk$Text" ⟨"SignDesk$Text", "byteAt", "(I)I"⟩ ⟨"SignDesk$Text", "byteAt", "(I)I"⟩ ∈ sdT := sd_lt 202 (by decide +kernel) (by decide +kernel)
theorem k_203 : Cond.code ⟨"SignDesk$Text", "byteAt", "(I)I"⟩ prog_8_method_5_code 2 (Option.some FieldType.int) ∈ sdT := sd_lt 203 (by decide +kernel) (by decide +kernel)
theorem k_204 : Cond.methodLink "SignDesk$Reader" 48 ⟨"SignDesk$Text", "isLineEnd", "(I)Z"⟩ ∈ sdT := sd_lt 204 (by decide +kernel) (by decide +kernel)
theorem k_205 : Cond.instanceMethod ⟨"SignDesk$Text", "isLineEnd", "(I)Z"⟩ ∈ sdT := sd_lt 205 (by decide +kernel) (by decide +kernel)
theorem k_206 : Cond.selects "SignDesk$Text" ⟨"SignDesk$Text", "isLineEnd", "(I)Z"⟩ ⟨"SignDesk$Text", "isLineEnd", "(I)Z"⟩ ∈ sdT := sd_lt 206 (by decide +kernel) (by decide +kernel)
theorem k_207 : Cond.code ⟨"SignDesk$Text", "isLineEnd", "(I)Z"⟩ prog_8_method_6_code 2 (Option.some FieldType.boolean) ∈ sdT := sd_lt 207 (by decide +kernel) (by decide +kernel)
theorem k_208 : Cond.methodLink "SignDesk$Reader" 51 ⟨"SignDesk$Text", "isComment", "(I)Z"⟩ ∈ sdT := sd_lt 208 (by decide +kernel) (by decide +kernel)
theorem k_209 : Cond.instanceMethod ⟨"SignDesk$Text", "isComment", "(I)Z"⟩ ∈ sdT := sd_lt 209 (by decide +kernel) (by decide +kernel)
theorem k_210 : Cond.selects "SignDesk$Text" ⟨"SignDesk$Text", "isComment", "(I)Z"⟩ ⟨"SignDesk$Text", "isComment", "(I)Z"⟩ ∈ sdT := sd_lt 210 (by decide +kernel) (by decide +kernel)
theorem k_211 : Cond.code ⟨"SignDesk$Text", "isComment", "(I)Z"⟩ prog_8_method_8_code 2 (Option.some FieldType.boolean) ∈ sdT := sd_lt 211 (by decide +kernel) (by decide +kernel)
theorem k_212 : Cond.methodLink "SignDesk$Reader" 54 ⟨"SignDesk$Text", "endOfLine", "(I)I"⟩ ∈ sdT := sd_lt 212 (by decide +kernel) (by decide +kernel)
theorem k_213 : Cond.instanceMethod ⟨"SignDesk$Text", "endOfLine", "(I)I"⟩ ∈ sdT := sd_lt 213 (by decide +kernel) (by decide +kernel)
theorem k_214 : Cond.selects "SignDesk$Text" ⟨"SignDesk$Text", "endOfLine", "(I)I"⟩ ⟨"SignDesk$Text", "endOfLine", "(I)I"⟩ ∈ sdT := sd_lt 214 (by decide +kernel) (by decide +kernel)
theorem k_215 : Cond.code ⟨"SignDesk$Text", "endOfLine", "(I)I"⟩ prog_8_method_9_code 3 (Option.some FieldType.int) ∈ sdT := sd_lt 215 (by decide +kernel) (by decide +kernel)
theorem k_216 : Cond.methodLink "SignDesk$Text" 21 ⟨"SignDesk$Text", "isLineEnd", "(I)Z"⟩ ∈ sdT := sd_lt 216 (by decide +kernel) (by decide +kernel)
theorem k_217 : Cond.methodLink "SignDesk$Reader" 58 ⟨"SignDesk$Text", "endOfInstruction", "(I)I"⟩ ∈ sdT := sd_lt 217 (by decide +kernel) (by decide +kernel)
theorem k_218 : Cond.instanceMethod ⟨"SignDesk$Text", "endOfInstruction", "(I)I"⟩ ∈ sdT := sd_lt 218 (by decide +kernel) (by decide +kernel)
theorem k_219 : Cond.selects "SignDesk$Text" ⟨"SignDesk$Text", "endOfInstruction", "(I)I"⟩ ⟨"SignDesk$Text", "endOfInstruction", "(I)I"⟩ ∈ sdT := sd_lt 219 (by decide +kernel) (by decide +kernel)
theorem k_220 : Cond.code ⟨"SignDesk$Text", "endOfInstruction", "(I)I"⟩ prog_8_method_10_code 3 (Option.some FieldType.int) ∈ sdT := sd_lt 220 (by decide +kernel) (by decide +kernel)
theorem k_221 : Cond.methodLink "SignDesk$Text" 25 ⟨"SignDesk$Text", "isBlank", "(I)Z"⟩ ∈ sdT := sd_lt 221 (by decide +kernel) (by decide +kernel)
theorem k_222 : Cond.methodLink "SignDesk$Text" 28 ⟨"SignDesk$Text", "isComment", "(I)Z"⟩ ∈ sdT := sd_lt 222 (by decide +kernel) (by decide +kernel)
theorem k_223 : Cond.methodLink "SignDesk$Reader" 61 ⟨"SignDesk$Reader", "take", "(II)I"⟩ ∈ sdT := sd_lt 223 (by decide +kernel) (by decide +kernel)
theorem k_225 : Cond.instanceMethod ⟨"SignDesk$Reader", "take", "(II)I"⟩ ∈ sdT := sd_lt 225 (by decide +kernel) (by decide +kernel)
theorem k_226 : Cond.code ⟨"SignDesk$Reader", "take", "(II)I"⟩ prog_6_method_6_code 4 (Option.some FieldType.int) ∈ sdT := sd_lt 226 (by decide +kernel) (by decide +kernel)
theorem k_227 : Cond.methodLink "SignDesk$Reader" 74 ⟨"SignDesk$Text", "byteAt", "(I)I"⟩ ∈ sdT := sd_lt 227 (by decide +kernel) (by decide +kernel)
theorem k_228 : Cond.methodLink "SignDesk$Reader" 77 ⟨"SignDesk$Reader", "takeAddress", "(II)I"⟩ ∈ sdT := sd_lt 228 (by decide +kernel) (by decide +kernel)
theorem k_230 : Cond.instanceMethod ⟨"SignDesk$Reader", "takeAddress", "(II)I"⟩ ∈ sdT := sd_lt 230 (by decide +kernel) (by decide +kernel)
theorem k_231 : Cond.code ⟨"SignDesk$Reader", "takeAddress", "(II)I"⟩ prog_6_method_7_code 6 (Option.some FieldType.int) ∈ sdT := sd_lt 231 (by decide +kernel) (by decide +kernel)
theorem k_232 : Cond.methodLink "SignDesk$Reader" 86 ⟨"SignDesk$Text", "isSymbol", "(II)Z"⟩ ∈ sdT := sd_lt 232 (by decide +kernel) (by decide +kernel)
theorem k_233 : Cond.instanceMethod ⟨"SignDesk$Text", "isSymbol", "(II)Z"⟩ ∈ sdT := sd_lt 233 (by decide +kernel) (by decide +kernel)
theorem k_234 : Cond.selects "SignDesk$Text" ⟨"SignDesk$Text", "isSymbol", "(II)Z"⟩ ⟨"SignDesk$Text", "isSymbol", "(II)Z"⟩ ∈ sdT := sd_lt 234 (by decide +kernel) (by decide +kernel)
theorem k_235 : Cond.code ⟨"SignDesk$Text", "isSymbol", "(II)Z"⟩ prog_8_method_12_code 4 (Option.some FieldType.boolean) ∈ sdT := sd_lt 235 (by decide +kernel) (by decide +kernel)
theorem k_236 : Cond.methodLink "SignDesk$Text" 31 ⟨"SignDesk$Text", "isDigit", "(I)Z"⟩ ∈ sdT := sd_lt 236 (by decide +kernel) (by decide +kernel)
theorem k_237 : Cond.static ⟨"SignDesk$Text", "isDigit", "(I)Z"⟩ ∈ sdT := sd_lt 237 (by decide +kernel) (by decide +kernel)
theorem k_238 : Cond.code ⟨"SignDesk$Text", "isDigit", "(I)Z"⟩ prog_8_method_16_code 1 (Option.some FieldType.boolean) ∈ sdT := sd_lt 238 (by decide +kernel) (by decide +kernel)
theorem k_239 : Cond.methodLink "SignDesk$Text" 34 ⟨"SignDesk$Text", "isSymbolSign", "(I)Z"⟩ ∈ sdT := sd_lt 239 (by decide +kernel) (by decide +kernel)
theorem k_240 : Cond.static ⟨"SignDesk$Text", "isSymbolSign", "(I)Z"⟩ ∈ sdT := sd_lt 240 (by decide +kernel) (by decide +kernel)
theorem k_241 : Cond.code ⟨"SignDesk$Text", "isSymbolSign", "(I)Z"⟩ prog_8_method_17_code 1 (Option.some FieldType.boolean) ∈ sdT := sd_lt 241 (by decide +kernel) (by decide +kernel)
theorem k_242 : Cond.methodLink "SignDesk$Reader" 90 ⟨"SignDesk$Reader", "knownNumber", "(II)I"⟩ ∈ sdT := sd_lt 242 (by decide +kernel) (by decide +kernel)
theorem k_244 : Cond.instanceMethod ⟨"SignDesk$Reader", "knownNumber", "(II)I"⟩ ∈ sdT := sd_lt 244 (by decide +kernel) (by decide +kernel)
theorem k_245 : Cond.code ⟨"SignDesk$Reader", "knownNumber", "(II)I"⟩ prog_6_method_11_code 3 (Option.some FieldType.int) ∈ sdT := sd_lt 245 (by decide +kernel) (by decide +kernel)
theorem k_246 : Cond.fieldLink "SignDesk$Reader" 143 "SignDesk$Reader" "KNOWN_NUMBERS" "[I" ∈ sdT := sd_lt 246 (by decide +kernel) (by decide +kernel)
theorem k_249 : Cond.methodLink "SignDesk$Reader" 118 ⟨"SignDesk$Text", "nameAmong", "(Ljava/lang/String;II)I"⟩ ∈ sdT := sd_lt 249 (by decide +kernel) (by decide +kernel)
theorem k_250 : Cond.instanceMethod ⟨"SignDesk$Text", "nameAmong", "(Ljava/lang/String;II)I"⟩ ∈ sdT := sd_lt 250 (by decide +kernel) (by decide +kernel)
theorem k_251 : Cond.selects "SignDesk$Text" ⟨"SignDesk$Text", "nameAmong", "(Ljava/lang/String;II)I"⟩ ⟨"SignDesk$Text", "nameAmong", "(Ljava/lang/String;II)I"⟩ ∈ sdT := sd_lt 251 (by decide +kernel) (by decide +kernel)
theorem k_252 : Cond.code ⟨"SignDesk$Text", "nameAmong", "(Ljava/lang/String;II)I"⟩ prog_8_method_14_code 8 (Option.some FieldType.int) ∈ sdT := sd_lt 252 (by decide +kernel) (by decide +kernel)
theorem k_253 : Cond.methodLink "SignDesk$Text" 37 ⟨"java/lang/String", "length", "()I"⟩ ∈ sdT := sd_lt 253 (by decide +kernel) (by decide +kernel)
theorem k_254 : Cond.instanceMethod ⟨"java/lang/String", "length", "()I"⟩ ∈ sdT := sd_lt 254 (by decide +kernel) (by decide +kernel)
theorem k_255 : Cond.selects "java/lang/String" ⟨"java/lang/String", "length", "()I"⟩ ⟨"java/lang/String", "length", "()I"⟩ ∈ sdT := sd_lt 255 (by decide +kernel) (by decide +kernel)
theorem k_256 : Cond.code ⟨"java/lang/String", "length", "()I"⟩ prog_11_method_54_code 1 (Option.some FieldType.int) ∈ sdT := sd_lt 256 (by decide +kernel) (by decide +kernel)
theorem k_257 : Cond.methodLink "java/lang/String" 335 ⟨"java/lang/String", "coder", "()B"⟩ ∈ sdT := sd_lt 257 (by decide +kernel) (by decide +kernel)
theorem k_258 : Cond.instanceMethod ⟨"java/lang/String", "coder", "()B"⟩ ∈ sdT := sd_lt 258 (by decide +kernel) (by decide +kernel)
theorem k_259 : Cond.selects "java/lang/String" ⟨"java/lang/String", "coder", "()B"⟩ ⟨"java/lang/String", "coder", "()B"⟩ ∈ sdT := sd_lt 259 (by decide +kernel) (by decide +kernel)
theorem k_260 : Cond.code ⟨"java/lang/String", "coder", "()B"⟩ prog_11_method_152_code 1 (Option.some FieldType.byte) ∈ sdT := sd_lt 260 (by decide +kernel) (by decide +kernel)
theorem k_261 : Cond.fieldLink "java/lang/String" 38 "java/lang/String" "COMPACT_STRINGS" "Z" ∈ sdT := sd_lt 261 (by decide +kernel) (by decide +kernel)
theorem k_263 : Cond.methodLink "SignDesk$Text" 43 ⟨"java/lang/String", "charAt", "(I)C"⟩ ∈ sdT := sd_lt 263 (by decide +kernel) (by decide +kernel)
theorem k_264 : Cond.instanceMethod ⟨"java/lang/String", "charAt", "(I)C"⟩ ∈ sdT := sd_lt 264 (by decide +kernel) (by decide +kernel)
theorem k_265 : Cond.selects "java/lang/String" ⟨"java/lang/String", "charAt", "(I)C"⟩ ⟨"java/lang/String", "charAt", "(I)C"⟩ ∈ sdT := sd_lt 265 (by decide +kernel) (by decide +kernel)
theorem k_266 : Cond.code ⟨"java/lang/String", "charAt", "(I)C"⟩ prog_11_method_56_code 2 (Option.some FieldType.char) ∈ sdT := sd_lt 266 (by decide +kernel) (by decide +kernel)
theorem k_267 : Cond.methodLink "java/lang/String" 492 ⟨"java/lang/String", "isLatin1", "()Z"⟩ ∈ sdT := sd_lt 267 (by decide +kernel) (by decide +kernel)
theorem k_268 : Cond.instanceMethod ⟨"java/lang/String", "isLatin1", "()Z"⟩ ∈ sdT := sd_lt 268 (by decide +kernel) (by decide +kernel)
theorem k_269 : Cond.selects "java/lang/String" ⟨"java/lang/String", "isLatin1", "()Z"⟩ ⟨"java/lang/String", "isLatin1", "()Z"⟩ ∈ sdT := sd_lt 269 (by decide +kernel) (by decide +kernel)
theorem k_270 : Cond.code ⟨"java/lang/String", "isLatin1", "()Z"⟩ prog_11_method_154_code 1 (Option.some FieldType.boolean) ∈ sdT := sd_lt 270 (by decide +kernel) (by decide +kernel)
theorem k_271 : Cond.methodLink "java/lang/String" 495 ⟨"java/lang/StringLatin1", "charAt", "([BI)C"⟩ ∈ sdT := sd_lt 271 (by decide +kernel) (by decide +kernel)
theorem k_272 : Cond.static ⟨"java/lang/StringLatin1", "charAt", "([BI)C"⟩ ∈ sdT := sd_lt 272 (by decide +kernel) (by decide +kernel)
theorem k_273 : Cond.code ⟨"java/lang/StringLatin1", "charAt", "([BI)C"⟩ prog_12_method_2_code 2 (Option.some FieldType.char) ∈ sdT := sd_lt 273 (by decide +kernel) (by decide +kernel)
theorem k_274 : Cond.methodLink "java/lang/StringLatin1" 9 ⟨"java/lang/String", "checkIndex", "(II)V"⟩ ∈ sdT := sd_lt 274 (by decide +kernel) (by decide +kernel)
theorem k_275 : Cond.static ⟨"java/lang/String", "checkIndex", "(II)V"⟩ ∈ sdT := sd_lt 275 (by decide +kernel) (by decide +kernel)
theorem k_276 : Cond.code ⟨"java/lang/String", "checkIndex", "(II)V"⟩ prog_11_method_155_code 2 (none) ∈ sdT := sd_lt 276 (by decide +kernel) (by decide +kernel)
theorem k_277 : Cond.fieldLink "java/lang/String" 1053 "jdk/internal/util/Preconditions" "SIOOBE_FORMATTER" "Ljava/util/function/BiFunction;" ∈ sdT := sd_lt 277 (by decide +kernel) (by decide +kernel)
theorem k_279 : Cond.methodLink "java/lang/String" 1059 ⟨"jdk/internal/util/Preconditions", "checkIndex", "(IILjava/util/function/BiFunction;)I"⟩ ∈ sdT := sd_lt 279 (by decide +kernel) (by decide +kernel)
theorem k_280 : Cond.static ⟨"jdk/internal/util/Preconditions", "checkIndex", "(IILjava/util/function/BiFunction;)I"⟩ ∈ sdT := sd_lt 280 (by decide +kernel) (by decide +kernel)
theorem k_281 : Cond.code ⟨"jdk/internal/util/Preconditions", "checkIndex", "(IILjava/util/function/BiFunction;)I"⟩ prog_15_method_11_code 3 (Option.some FieldType.int) ∈ sdT := sd_lt 281 (by decide +kernel) (by decide +kernel)
theorem k_301 : Cond.methodLink "SignDesk$Reader" 134 ⟨"SignDesk$Reader", "numberIn", "([II)I"⟩ ∈ sdT := sd_lt 301 (by decide +kernel) (by decide +kernel)
theorem k_302 : Cond.static ⟨"SignDesk$Reader", "numberIn", "([II)I"⟩ ∈ sdT := sd_lt 302 (by decide +kernel) (by decide +kernel)
theorem k_303 : Cond.code ⟨"SignDesk$Reader", "numberIn", "([II)I"⟩ prog_6_method_12_code 2 (Option.some FieldType.int) ∈ sdT := sd_lt 303 (by decide +kernel) (by decide +kernel)
theorem k_304 : Cond.methodLink "SignDesk$Reader" 93 ⟨"SignDesk$Text", "number", "(II)I"⟩ ∈ sdT := sd_lt 304 (by decide +kernel) (by decide +kernel)
theorem k_305 : Cond.instanceMethod ⟨"SignDesk$Text", "number", "(II)I"⟩ ∈ sdT := sd_lt 305 (by decide +kernel) (by decide +kernel)
theorem k_306 : Cond.selects "SignDesk$Text" ⟨"SignDesk$Text", "number", "(II)I"⟩ ⟨"SignDesk$Text", "number", "(II)I"⟩ ∈ sdT := sd_lt 306 (by decide +kernel) (by decide +kernel)
theorem k_307 : Cond.code ⟨"SignDesk$Text", "number", "(II)I"⟩ prog_8_method_13_code 5 (Option.some FieldType.int) ∈ sdT := sd_lt 307 (by decide +kernel) (by decide +kernel)
theorem k_308 : Cond.methodLink "SignDesk$Reader" 96 ⟨"SignDesk$Program", "isFull", "()Z"⟩ ∈ sdT := sd_lt 308 (by decide +kernel) (by decide +kernel)
theorem k_309 : Cond.instanceMethod ⟨"SignDesk$Program", "isFull", "()Z"⟩ ∈ sdT := sd_lt 309 (by decide +kernel) (by decide +kernel)
theorem k_310 : Cond.selects "SignDesk$Program" ⟨"SignDesk$Program", "isFull", "()Z"⟩ ⟨"SignDesk$Program", "isFull", "()Z"⟩ ∈ sdT := sd_lt 310 (by decide +kernel) (by decide +kernel)
theorem k_311 : Cond.code ⟨"SignDesk$Program", "isFull", "()Z"⟩ prog_5_method_2_code 1 (Option.some FieldType.boolean) ∈ sdT := sd_lt 311 (by decide +kernel) (by decide +kernel)
theorem k_312 : Cond.methodLink "SignDesk$Reader" 100 ⟨"SignDesk$Symbols", "symbolOf", "(II)I"⟩ ∈ sdT := sd_lt 312 (by decide +kernel) (by decide +kernel)
theorem k_313 : Cond.instanceMethod ⟨"SignDesk$Symbols", "symbolOf", "(II)I"⟩ ∈ sdT := sd_lt 313 (by decide +kernel) (by decide +kernel)
theorem k_314 : Cond.selects "SignDesk$Symbols" ⟨"SignDesk$Symbols", "symbolOf", "(II)I"⟩ ⟨"SignDesk$Symbols", "symbolOf", "(II)I"⟩ ∈ sdT := sd_lt 314 (by decide +kernel) (by decide +kernel)
theorem k_315 : Cond.code ⟨"SignDesk$Symbols", "symbolOf", "(II)I"⟩ prog_7_method_2_code 4 (Option.some FieldType.int) ∈ sdT := sd_lt 315 (by decide +kernel) (by decide +kernel)
theorem k_316 : Cond.methodLink "SignDesk$Symbols" 27 ⟨"SignDesk$Text", "isSame", "(III)Z"⟩ ∈ sdT := sd_lt 316 (by decide +kernel) (by decide +kernel)
theorem k_317 : Cond.instanceMethod ⟨"SignDesk$Text", "isSame", "(III)Z"⟩ ∈ sdT := sd_lt 317 (by decide +kernel) (by decide +kernel)
theorem k_318 : Cond.selects "SignDesk$Text" ⟨"SignDesk$Text", "isSame", "(III)Z"⟩ ⟨"SignDesk$Text", "isSame", "(III)Z"⟩ ∈ sdT := sd_lt 318 (by decide +kernel) (by decide +kernel)
theorem k_319 : Cond.code ⟨"SignDesk$Text", "isSame", "(III)Z"⟩ prog_8_method_15_code 5 (Option.some FieldType.boolean) ∈ sdT := sd_lt 319 (by decide +kernel) (by decide +kernel)
theorem k_320 : Cond.constant "SignDesk$Reader" 103 (65536 : Int32) ∈ sdT := sd_lt 320 (by decide +kernel) (by decide +kernel)
theorem k_321 : Cond.methodLink "SignDesk$Reader" 104 ⟨"SignDesk$Program", "add", "(I)V"⟩ ∈ sdT := sd_lt 321 (by decide +kernel) (by decide +kernel)
theorem k_322 : Cond.instanceMethod ⟨"SignDesk$Program", "add", "(I)V"⟩ ∈ sdT := sd_lt 322 (by decide +kernel) (by decide +kernel)
theorem k_323 : Cond.selects "SignDesk$Program" ⟨"SignDesk$Program", "add", "(I)V"⟩ ⟨"SignDesk$Program", "add", "(I)V"⟩ ∈ sdT := sd_lt 323 (by decide +kernel) (by decide +kernel)
theorem k_324 : Cond.code ⟨"SignDesk$Program", "add", "(I)V"⟩ prog_5_method_3_code 2 (none) ∈ sdT := sd_lt 324 (by decide +kernel) (by decide +kernel)
theorem k_325 : Cond.methodLink "SignDesk$Program" 17 ⟨"SignDesk$Program", "isFull", "()Z"⟩ ∈ sdT := sd_lt 325 (by decide +kernel) (by decide +kernel)
theorem k_326 : Cond.methodLink "SignDesk$Reader" 80 ⟨"SignDesk$Reader", "takeLabel", "(II)I"⟩ ∈ sdT := sd_lt 326 (by decide +kernel) (by decide +kernel)
theorem k_328 : Cond.instanceMethod ⟨"SignDesk$Reader", "takeLabel", "(II)I"⟩ ∈ sdT := sd_lt 328 (by decide +kernel) (by decide +kernel)
theorem k_329 : Cond.code ⟨"SignDesk$Reader", "takeLabel", "(II)I"⟩ prog_6_method_8_code 4 (Option.some FieldType.int) ∈ sdT := sd_lt 329 (by decide +kernel) (by decide +kernel)
theorem k_330 : Cond.methodLink "SignDesk$Reader" 108 ⟨"SignDesk$Program", "size", "()I"⟩ ∈ sdT := sd_lt 330 (by decide +kernel) (by decide +kernel)
theorem k_331 : Cond.instanceMethod ⟨"SignDesk$Program", "size", "()I"⟩ ∈ sdT := sd_lt 331 (by decide +kernel) (by decide +kernel)
theorem k_332 : Cond.selects "SignDesk$Program" ⟨"SignDesk$Program", "size", "()I"⟩ ⟨"SignDesk$Program", "size", "()I"⟩ ∈ sdT := sd_lt 332 (by decide +kernel) (by decide +kernel)
theorem k_333 : Cond.code ⟨"SignDesk$Program", "size", "()I"⟩ prog_5_method_6_code 1 (Option.some FieldType.int) ∈ sdT := sd_lt 333 (by decide +kernel) (by decide +kernel)
theorem k_334 : Cond.methodLink "SignDesk$Reader" 109 ⟨"SignDesk$Symbols", "tell", "(II)Z"⟩ ∈ sdT := sd_lt 334 (by decide +kernel) (by decide +kernel)
theorem k_335 : Cond.instanceMethod ⟨"SignDesk$Symbols", "tell", "(II)Z"⟩ ∈ sdT := sd_lt 335 (by decide +kernel) (by decide +kernel)
theorem k_336 : Cond.selects "SignDesk$Symbols" ⟨"SignDesk$Symbols", "tell", "(II)Z"⟩ ⟨"SignDesk$Symbols", "tell", "(II)Z"⟩ ∈ sdT := sd_lt 336 (by decide +kernel) (by decide +kernel)
theorem k_337 : Cond.code ⟨"SignDesk$Symbols", "tell", "(II)Z"⟩ prog_7_method_3_code 3 (Option.some FieldType.boolean) ∈ sdT := sd_lt 337 (by decide +kernel) (by decide +kernel)
theorem k_338 : Cond.methodLink "SignDesk$Reader" 83 ⟨"SignDesk$Reader", "takeOther", "(II)I"⟩ ∈ sdT := sd_lt 338 (by decide +kernel) (by decide +kernel)
theorem k_340 : Cond.instanceMethod ⟨"SignDesk$Reader", "takeOther", "(II)I"⟩ ∈ sdT := sd_lt 340 (by decide +kernel) (by decide +kernel)
theorem k_341 : Cond.code ⟨"SignDesk$Reader", "takeOther", "(II)I"⟩ prog_6_method_9_code 10 (Option.some FieldType.int) ∈ sdT := sd_lt 341 (by decide +kernel) (by decide +kernel)
theorem k_342 : Cond.methodLink "SignDesk$Reader" 112 ⟨"SignDesk$Text", "find", "(CII)I"⟩ ∈ sdT := sd_lt 342 (by decide +kernel) (by decide +kernel)
theorem k_343 : Cond.instanceMethod ⟨"SignDesk$Text", "find", "(CII)I"⟩ ∈ sdT := sd_lt 343 (by decide +kernel) (by decide +kernel)
theorem k_344 : Cond.selects "SignDesk$Text" ⟨"SignDesk$Text", "find", "(CII)I"⟩ ⟨"SignDesk$Text", "find", "(CII)I"⟩ ∈ sdT := sd_lt 344 (by decide +kernel) (by decide +kernel)
theorem k_345 : Cond.code ⟨"SignDesk$Text", "find", "(CII)I"⟩ prog_8_method_11_code 5 (Option.some FieldType.int) ∈ sdT := sd_lt 345 (by decide +kernel) (by decide +kernel)
theorem k_348 : Cond.methodLink "SignDesk$Reader" 124 ⟨"SignDesk$Reader", "compBits", "(II)I"⟩ ∈ sdT := sd_lt 348 (by decide +kernel) (by decide +kernel)
theorem k_350 : Cond.instanceMethod ⟨"SignDesk$Reader", "compBits", "(II)I"⟩ ∈ sdT := sd_lt 350 (by decide +kernel) (by decide +kernel)
theorem k_351 : Cond.code ⟨"SignDesk$Reader", "compBits", "(II)I"⟩ prog_6_method_10_code 4 (Option.some FieldType.int) ∈ sdT := sd_lt 351 (by decide +kernel) (by decide +kernel)
theorem k_352 : Cond.fieldLink "SignDesk$Reader" 128 "SignDesk$Reader" "BITS_OF_A" "[I" ∈ sdT := sd_lt 352 (by decide +kernel) (by decide +kernel)
theorem k_355 : Cond.fieldLink "SignDesk$Reader" 138 "SignDesk$Reader" "BITS_OF_M" "[I" ∈ sdT := sd_lt 355 (by decide +kernel) (by decide +kernel)
theorem k_358 : Cond.constant "SignDesk$Reader" 127 (57344 : Int32) ∈ sdT := sd_lt 358 (by decide +kernel) (by decide +kernel)
theorem k_359 : Cond.methodLink "SignDesk$Reader" 65 ⟨"SignDesk$Reader", "fillInSymbols", "()V"⟩ ∈ sdT := sd_lt 359 (by decide +kernel) (by decide +kernel)
theorem k_361 : Cond.instanceMethod ⟨"SignDesk$Reader", "fillInSymbols", "()V"⟩ ∈ sdT := sd_lt 361 (by decide +kernel) (by decide +kernel)
theorem k_362 : Cond.code ⟨"SignDesk$Reader", "fillInSymbols", "()V"⟩ prog_6_method_13_code 4 (none) ∈ sdT := sd_lt 362 (by decide +kernel) (by decide +kernel)
theorem k_363 : Cond.methodLink "SignDesk$Reader" 148 ⟨"SignDesk$Program", "wordAt", "(I)I"⟩ ∈ sdT := sd_lt 363 (by decide +kernel) (by decide +kernel)
theorem k_364 : Cond.instanceMethod ⟨"SignDesk$Program", "wordAt", "(I)I"⟩ ∈ sdT := sd_lt 364 (by decide +kernel) (by decide +kernel)
theorem k_365 : Cond.selects "SignDesk$Program" ⟨"SignDesk$Program", "wordAt", "(I)I"⟩ ⟨"SignDesk$Program", "wordAt", "(I)I"⟩ ∈ sdT := sd_lt 365 (by decide +kernel) (by decide +kernel)
theorem k_366 : Cond.code ⟨"SignDesk$Program", "wordAt", "(I)I"⟩ prog_5_method_7_code 2 (Option.some FieldType.int) ∈ sdT := sd_lt 366 (by decide +kernel) (by decide +kernel)
theorem k_367 : Cond.methodLink "SignDesk$Reader" 151 ⟨"SignDesk$Symbols", "numberOf", "(I)I"⟩ ∈ sdT := sd_lt 367 (by decide +kernel) (by decide +kernel)
theorem k_368 : Cond.instanceMethod ⟨"SignDesk$Symbols", "numberOf", "(I)I"⟩ ∈ sdT := sd_lt 368 (by decide +kernel) (by decide +kernel)
theorem k_369 : Cond.selects "SignDesk$Symbols" ⟨"SignDesk$Symbols", "numberOf", "(I)I"⟩ ⟨"SignDesk$Symbols", "numberOf", "(I)I"⟩ ∈ sdT := sd_lt 369 (by decide +kernel) (by decide +kernel)
theorem k_370 : Cond.code ⟨"SignDesk$Symbols", "numberOf", "(I)I"⟩ prog_7_method_4_code 2 (Option.some FieldType.int) ∈ sdT := sd_lt 370 (by decide +kernel) (by decide +kernel)
theorem k_371 : Cond.methodLink "SignDesk$Reader" 154 ⟨"SignDesk$Program", "change", "(II)V"⟩ ∈ sdT := sd_lt 371 (by decide +kernel) (by decide +kernel)
theorem k_372 : Cond.instanceMethod ⟨"SignDesk$Program", "change", "(II)V"⟩ ∈ sdT := sd_lt 372 (by decide +kernel) (by decide +kernel)
theorem k_373 : Cond.selects "SignDesk$Program" ⟨"SignDesk$Program", "change", "(II)V"⟩ ⟨"SignDesk$Program", "change", "(II)V"⟩ ∈ sdT := sd_lt 373 (by decide +kernel) (by decide +kernel)
theorem k_374 : Cond.code ⟨"SignDesk$Program", "change", "(II)V"⟩ prog_5_method_4_code 3 (none) ∈ sdT := sd_lt 374 (by decide +kernel) (by decide +kernel)
theorem k_375 : Cond.methodLink "SignDesk" 49 ⟨"SignDesk$Text", "clear", "()V"⟩ ∈ sdT := sd_lt 375 (by decide +kernel) (by decide +kernel)
theorem k_376 : Cond.instanceMethod ⟨"SignDesk$Text", "clear", "()V"⟩ ∈ sdT := sd_lt 376 (by decide +kernel) (by decide +kernel)
theorem k_377 : Cond.selects "SignDesk$Text" ⟨"SignDesk$Text", "clear", "()V"⟩ ⟨"SignDesk$Text", "clear", "()V"⟩ ∈ sdT := sd_lt 377 (by decide +kernel) (by decide +kernel)
theorem k_378 : Cond.code ⟨"SignDesk$Text", "clear", "()V"⟩ prog_8_method_3_code 1 (none) ∈ sdT := sd_lt 378 (by decide +kernel) (by decide +kernel)
theorem k_379 : Cond.methodLink "SignDesk" 52 ⟨"SignDesk$Processor", "clear", "()V"⟩ ∈ sdT := sd_lt 379 (by decide +kernel) (by decide +kernel)
theorem k_380 : Cond.instanceMethod ⟨"SignDesk$Processor", "clear", "()V"⟩ ∈ sdT := sd_lt 380 (by decide +kernel) (by decide +kernel)
theorem k_381 : Cond.selects "SignDesk$Processor" ⟨"SignDesk$Processor", "clear", "()V"⟩ ⟨"SignDesk$Processor", "clear", "()V"⟩ ∈ sdT := sd_lt 381 (by decide +kernel) (by decide +kernel)
theorem k_382 : Cond.code ⟨"SignDesk$Processor", "clear", "()V"⟩ prog_4_method_2_code 1 (none) ∈ sdT := sd_lt 382 (by decide +kernel) (by decide +kernel)
theorem k_383 : Cond.methodLink "SignDesk$Processor" 22 ⟨"SignDesk$Memory", "clear", "()V"⟩ ∈ sdT := sd_lt 383 (by decide +kernel) (by decide +kernel)
theorem k_384 : Cond.instanceMethod ⟨"SignDesk$Memory", "clear", "()V"⟩ ∈ sdT := sd_lt 384 (by decide +kernel) (by decide +kernel)
theorem k_385 : Cond.selects "SignDesk$Memory" ⟨"SignDesk$Memory", "clear", "()V"⟩ ⟨"SignDesk$Memory", "clear", "()V"⟩ ∈ sdT := sd_lt 385 (by decide +kernel) (by decide +kernel)
theorem k_386 : Cond.code ⟨"SignDesk$Memory", "clear", "()V"⟩ prog_2_method_5_code 3 (none) ∈ sdT := sd_lt 386 (by decide +kernel) (by decide +kernel)
theorem k_387 : Cond.methodLink "SignDesk$Memory" 25 ⟨"java/util/Arrays", "fill", "([II)V"⟩ ∈ sdT := sd_lt 387 (by decide +kernel) (by decide +kernel)
theorem k_388 : Cond.static ⟨"java/util/Arrays", "fill", "([II)V"⟩ ∈ sdT := sd_lt 388 (by decide +kernel) (by decide +kernel)
theorem k_389 : Cond.code ⟨"java/util/Arrays", "fill", "([II)V"⟩ prog_14_method_103_code 4 (none) ∈ sdT := sd_lt 389 (by decide +kernel) (by decide +kernel)
theorem k_390 : Cond.methodLink "SignDeskLaw" 25 ⟨"SignDesk", "place", "()I"⟩ ∈ sdT := sd_lt 390 (by decide +kernel) (by decide +kernel)
theorem k_391 : Cond.instanceMethod ⟨"SignDesk", "place", "()I"⟩ ∈ sdT := sd_lt 391 (by decide +kernel) (by decide +kernel)
theorem k_392 : Cond.selects "SignDesk" ⟨"SignDesk", "place", "()I"⟩ ⟨"SignDesk", "place", "()I"⟩ ∈ sdT := sd_lt 392 (by decide +kernel) (by decide +kernel)
theorem k_393 : Cond.code ⟨"SignDesk", "place", "()I"⟩ prog_1_method_4_code 1 (Option.some FieldType.int) ∈ sdT := sd_lt 393 (by decide +kernel) (by decide +kernel)
theorem k_394 : Cond.methodLink "SignDesk" 53 ⟨"SignDesk$Reader", "faultPlace", "()I"⟩ ∈ sdT := sd_lt 394 (by decide +kernel) (by decide +kernel)
theorem k_395 : Cond.instanceMethod ⟨"SignDesk$Reader", "faultPlace", "()I"⟩ ∈ sdT := sd_lt 395 (by decide +kernel) (by decide +kernel)
theorem k_396 : Cond.selects "SignDesk$Reader" ⟨"SignDesk$Reader", "faultPlace", "()I"⟩ ⟨"SignDesk$Reader", "faultPlace", "()I"⟩ ∈ sdT := sd_lt 396 (by decide +kernel) (by decide +kernel)
theorem k_397 : Cond.code ⟨"SignDesk$Reader", "faultPlace", "()I"⟩ prog_6_method_2_code 1 (Option.some FieldType.int) ∈ sdT := sd_lt 397 (by decide +kernel) (by decide +kernel)
theorem k_398 : Cond.methodLink "SignDeskLaw" 29 ⟨"SignDesk", "code", "(I)I"⟩ ∈ sdT := sd_lt 398 (by decide +kernel) (by decide +kernel)
theorem k_399 : Cond.instanceMethod ⟨"SignDesk", "code", "(I)I"⟩ ∈ sdT := sd_lt 399 (by decide +kernel) (by decide +kernel)
theorem k_400 : Cond.selects "SignDesk" ⟨"SignDesk", "code", "(I)I"⟩ ⟨"SignDesk", "code", "(I)I"⟩ ∈ sdT := sd_lt 400 (by decide +kernel) (by decide +kernel)
theorem k_401 : Cond.code ⟨"SignDesk", "code", "(I)I"⟩ prog_1_method_5_code 2 (Option.some FieldType.int) ∈ sdT := sd_lt 401 (by decide +kernel) (by decide +kernel)
theorem k_402 : Cond.methodLink "SignDesk" 56 ⟨"SignDesk$Program", "wordAt", "(I)I"⟩ ∈ sdT := sd_lt 402 (by decide +kernel) (by decide +kernel)
theorem k_403 : Cond.methodLink "SignDeskLaw" 34 ⟨"SignDesk", "go", "(I)I"⟩ ∈ sdT := sd_lt 403 (by decide +kernel) (by decide +kernel)
theorem k_404 : Cond.instanceMethod ⟨"SignDesk", "go", "(I)I"⟩ ∈ sdT := sd_lt 404 (by decide +kernel) (by decide +kernel)
theorem k_405 : Cond.selects "SignDesk" ⟨"SignDesk", "go", "(I)I"⟩ ⟨"SignDesk", "go", "(I)I"⟩ ∈ sdT := sd_lt 405 (by decide +kernel) (by decide +kernel)
theorem k_406 : Cond.code ⟨"SignDesk", "go", "(I)I"⟩ prog_1_method_6_code 2 (Option.some FieldType.int) ∈ sdT := sd_lt 406 (by decide +kernel) (by decide +kernel)
theorem k_407 : Cond.methodLink "SignDesk" 60 ⟨"SignDesk$Processor", "run", "(I)I"⟩ ∈ sdT := sd_lt 407 (by decide +kernel) (by decide +kernel)
theorem k_408 : Cond.instanceMethod ⟨"SignDesk$Processor", "run", "(I)I"⟩ ∈ sdT := sd_lt 408 (by decide +kernel) (by decide +kernel)
theorem k_409 : Cond.selects "SignDesk$Processor" ⟨"SignDesk$Processor", "run", "(I)I"⟩ ⟨"SignDesk$Processor", "run", "(I)I"⟩ ∈ sdT := sd_lt 409 (by decide +kernel) (by decide +kernel)
theorem k_410 : Cond.code ⟨"SignDesk$Processor", "run", "(I)I"⟩ prog_4_method_8_code 4 (Option.some FieldType.int) ∈ sdT := sd_lt 410 (by decide +kernel) (by decide +kernel)
theorem k_411 : Cond.methodLink "SignDesk$Processor" 38 ⟨"SignDesk$Program", "wordAt", "(I)I"⟩ ∈ sdT := sd_lt 411 (by decide +kernel) (by decide +kernel)
theorem k_412 : Cond.methodLink "SignDesk$Processor" 44 ⟨"SignDesk$Processor", "perform", "(I)V"⟩ ∈ sdT := sd_lt 412 (by decide +kernel) (by decide +kernel)
theorem k_414 : Cond.instanceMethod ⟨"SignDesk$Processor", "perform", "(I)V"⟩ ∈ sdT := sd_lt 414 (by decide +kernel) (by decide +kernel)
theorem k_415 : Cond.code ⟨"SignDesk$Processor", "perform", "(I)V"⟩ prog_4_method_9_code 6 (none) ∈ sdT := sd_lt 415 (by decide +kernel) (by decide +kernel)
theorem k_416 : Cond.methodLink "SignDesk$Processor" 48 ⟨"SignDesk$Memory", "wordAt", "(I)I"⟩ ∈ sdT := sd_lt 416 (by decide +kernel) (by decide +kernel)
theorem k_417 : Cond.instanceMethod ⟨"SignDesk$Memory", "wordAt", "(I)I"⟩ ∈ sdT := sd_lt 417 (by decide +kernel) (by decide +kernel)
theorem k_418 : Cond.selects "SignDesk$Memory" ⟨"SignDesk$Memory", "wordAt", "(I)I"⟩ ⟨"SignDesk$Memory", "wordAt", "(I)I"⟩ ∈ sdT := sd_lt 418 (by decide +kernel) (by decide +kernel)
theorem k_419 : Cond.code ⟨"SignDesk$Memory", "wordAt", "(I)I"⟩ prog_2_method_3_code 3 (Option.some FieldType.int) ∈ sdT := sd_lt 419 (by decide +kernel) (by decide +kernel)
theorem k_420 : Cond.methodLink "SignDesk$Memory" 16 ⟨"SignDesk$Memory", "holds", "(I)Z"⟩ ∈ sdT := sd_lt 420 (by decide +kernel) (by decide +kernel)
theorem k_421 : Cond.static ⟨"SignDesk$Memory", "holds", "(I)Z"⟩ ∈ sdT := sd_lt 421 (by decide +kernel) (by decide +kernel)
theorem k_422 : Cond.code ⟨"SignDesk$Memory", "holds", "(I)Z"⟩ prog_2_method_2_code 1 (Option.some FieldType.boolean) ∈ sdT := sd_lt 422 (by decide +kernel) (by decide +kernel)
theorem k_423 : Cond.constant "SignDesk$Memory" 15 (32768 : Int32) ∈ sdT := sd_lt 423 (by decide +kernel) (by decide +kernel)
theorem k_424 : Cond.methodLink "SignDesk$Processor" 49 ⟨"SignDesk$Processor", "compute", "(III)I"⟩ ∈ sdT := sd_lt 424 (by decide +kernel) (by decide +kernel)
theorem k_425 : Cond.static ⟨"SignDesk$Processor", "compute", "(III)I"⟩ ∈ sdT := sd_lt 425 (by decide +kernel) (by decide +kernel)
theorem k_426 : Cond.code ⟨"SignDesk$Processor", "compute", "(III)I"⟩ prog_4_method_10_code 6 (Option.some FieldType.int) ∈ sdT := sd_lt 426 (by decide +kernel) (by decide +kernel)
theorem k_427 : Cond.methodLink "SignDesk$Processor" 53 ⟨"SignDesk$Memory", "write", "(II)V"⟩ ∈ sdT := sd_lt 427 (by decide +kernel) (by decide +kernel)
theorem k_428 : Cond.instanceMethod ⟨"SignDesk$Memory", "write", "(II)V"⟩ ∈ sdT := sd_lt 428 (by decide +kernel) (by decide +kernel)
theorem k_429 : Cond.selects "SignDesk$Memory" ⟨"SignDesk$Memory", "write", "(II)V"⟩ ⟨"SignDesk$Memory", "write", "(II)V"⟩ ∈ sdT := sd_lt 429 (by decide +kernel) (by decide +kernel)
theorem k_430 : Cond.code ⟨"SignDesk$Memory", "write", "(II)V"⟩ prog_2_method_4_code 5 (none) ∈ sdT := sd_lt 430 (by decide +kernel) (by decide +kernel)
theorem k_431 : Cond.instantiable "SignDesk$Page" 1 ∈ sdT := sd_lt 431 (by decide +kernel) (by decide +kernel)
theorem k_433 : Cond.instanceMethod ⟨"SignDesk$Page", "<init>", "()V"⟩ ∈ sdT := sd_lt 433 (by decide +kernel) (by decide +kernel)
theorem k_434 : Cond.code ⟨"SignDesk$Page", "<init>", "()V"⟩ prog_3_method_1_code 1 (none) ∈ sdT := sd_lt 434 (by decide +kernel) (by decide +kernel)
theorem k_435 : Cond.methodLink "SignDesk$Page" 1 ⟨"java/lang/Object", "<init>", "()V"⟩ ∈ sdT := sd_lt 435 (by decide +kernel) (by decide +kernel)
theorem k_436 : Cond.fieldLink "SignDesk$Page" 9 "SignDesk$Page" "words" "[I" ∈ sdT := sd_lt 436 (by decide +kernel) (by decide +kernel)
theorem k_438 : Cond.laysFinal "SignDesk$Page" "SignDesk$Page" "words" "[I" ∈ sdT := sd_lt 438 (by decide +kernel) (by decide +kernel)
theorem k_441 : Cond.methodLink "SignDeskLaw" 38 ⟨"SignDesk", "set", "(II)Z"⟩ ∈ sdT := sd_lt 441 (by decide +kernel) (by decide +kernel)
theorem k_442 : Cond.instanceMethod ⟨"SignDesk", "set", "(II)Z"⟩ ∈ sdT := sd_lt 442 (by decide +kernel) (by decide +kernel)
theorem k_443 : Cond.selects "SignDesk" ⟨"SignDesk", "set", "(II)Z"⟩ ⟨"SignDesk", "set", "(II)Z"⟩ ∈ sdT := sd_lt 443 (by decide +kernel) (by decide +kernel)
theorem k_444 : Cond.code ⟨"SignDesk", "set", "(II)Z"⟩ prog_1_method_7_code 3 (Option.some FieldType.boolean) ∈ sdT := sd_lt 444 (by decide +kernel) (by decide +kernel)
theorem k_445 : Cond.methodLink "SignDesk" 63 ⟨"SignDesk$Memory", "holds", "(I)Z"⟩ ∈ sdT := sd_lt 445 (by decide +kernel) (by decide +kernel)
theorem k_446 : Cond.methodLink "SignDesk" 69 ⟨"SignDesk$Processor", "memory", "()LSignDesk$Memory;"⟩ ∈ sdT := sd_lt 446 (by decide +kernel) (by decide +kernel)
theorem k_447 : Cond.instanceMethod ⟨"SignDesk$Processor", "memory", "()LSignDesk$Memory;"⟩ ∈ sdT := sd_lt 447 (by decide +kernel) (by decide +kernel)
theorem k_448 : Cond.selects "SignDesk$Processor" ⟨"SignDesk$Processor", "memory", "()LSignDesk$Memory;"⟩ ⟨"SignDesk$Processor", "memory", "()LSignDesk$Memory;"⟩ ∈ sdT := sd_lt 448 (by decide +kernel) (by decide +kernel)
theorem k_449 : Cond.code ⟨"SignDesk$Processor", "memory", "()LSignDesk$Memory;"⟩ prog_4_method_3_code 1 (Option.some (FieldType.object "SignDesk$Memory")) ∈ sdT := sd_lt 449 (by decide +kernel) (by decide +kernel)
theorem k_450 : Cond.methodLink "SignDesk" 73 ⟨"SignDesk$Memory", "write", "(II)V"⟩ ∈ sdT := sd_lt 450 (by decide +kernel) (by decide +kernel)
theorem k_451 : Cond.methodLink "SignDeskLaw" 43 ⟨"SignDesk", "store", "(I)I"⟩ ∈ sdT := sd_lt 451 (by decide +kernel) (by decide +kernel)
theorem k_452 : Cond.instanceMethod ⟨"SignDesk", "store", "(I)I"⟩ ∈ sdT := sd_lt 452 (by decide +kernel) (by decide +kernel)
theorem k_453 : Cond.selects "SignDesk" ⟨"SignDesk", "store", "(I)I"⟩ ⟨"SignDesk", "store", "(I)I"⟩ ∈ sdT := sd_lt 453 (by decide +kernel) (by decide +kernel)
theorem k_454 : Cond.code ⟨"SignDesk", "store", "(I)I"⟩ prog_1_method_8_code 2 (Option.some FieldType.int) ∈ sdT := sd_lt 454 (by decide +kernel) (by decide +kernel)
theorem k_455 : Cond.methodLink "SignDesk" 77 ⟨"SignDesk$Memory", "wordAt", "(I)I"⟩ ∈ sdT := sd_lt 455 (by decide +kernel) (by decide +kernel)
theorem k_456 : Cond.constant "SignDesk" 78 (100000 : Int32) ∈ sdT := sd_lt 456 (by decide +kernel) (by decide +kernel)
theorem k_457 : Cond.methodLink "SignDeskLaw" 47 ⟨"SignDesk", "register", "(I)I"⟩ ∈ sdT := sd_lt 457 (by decide +kernel) (by decide +kernel)
theorem k_458 : Cond.instanceMethod ⟨"SignDesk", "register", "(I)I"⟩ ∈ sdT := sd_lt 458 (by decide +kernel) (by decide +kernel)
theorem k_459 : Cond.selects "SignDesk" ⟨"SignDesk", "register", "(I)I"⟩ ⟨"SignDesk", "register", "(I)I"⟩ ∈ sdT := sd_lt 459 (by decide +kernel) (by decide +kernel)
theorem k_460 : Cond.code ⟨"SignDesk", "register", "(I)I"⟩ prog_1_method_9_code 2 (Option.some FieldType.int) ∈ sdT := sd_lt 460 (by decide +kernel) (by decide +kernel)
theorem k_461 : Cond.methodLink "SignDesk" 79 ⟨"SignDesk$Processor", "a", "()I"⟩ ∈ sdT := sd_lt 461 (by decide +kernel) (by decide +kernel)
theorem k_462 : Cond.instanceMethod ⟨"SignDesk$Processor", "a", "()I"⟩ ∈ sdT := sd_lt 462 (by decide +kernel) (by decide +kernel)
theorem k_463 : Cond.selects "SignDesk$Processor" ⟨"SignDesk$Processor", "a", "()I"⟩ ⟨"SignDesk$Processor", "a", "()I"⟩ ∈ sdT := sd_lt 463 (by decide +kernel) (by decide +kernel)
theorem k_464 : Cond.code ⟨"SignDesk$Processor", "a", "()I"⟩ prog_4_method_4_code 1 (Option.some FieldType.int) ∈ sdT := sd_lt 464 (by decide +kernel) (by decide +kernel)
theorem k_465 : Cond.methodLink "SignDesk" 82 ⟨"SignDesk$Processor", "d", "()I"⟩ ∈ sdT := sd_lt 465 (by decide +kernel) (by decide +kernel)
theorem k_466 : Cond.instanceMethod ⟨"SignDesk$Processor", "d", "()I"⟩ ∈ sdT := sd_lt 466 (by decide +kernel) (by decide +kernel)
theorem k_467 : Cond.selects "SignDesk$Processor" ⟨"SignDesk$Processor", "d", "()I"⟩ ⟨"SignDesk$Processor", "d", "()I"⟩ ∈ sdT := sd_lt 467 (by decide +kernel) (by decide +kernel)
theorem k_468 : Cond.code ⟨"SignDesk$Processor", "d", "()I"⟩ prog_4_method_5_code 1 (Option.some FieldType.int) ∈ sdT := sd_lt 468 (by decide +kernel) (by decide +kernel)
theorem k_469 : Cond.methodLink "SignDesk" 85 ⟨"SignDesk$Processor", "next", "()I"⟩ ∈ sdT := sd_lt 469 (by decide +kernel) (by decide +kernel)
theorem k_470 : Cond.instanceMethod ⟨"SignDesk$Processor", "next", "()I"⟩ ∈ sdT := sd_lt 470 (by decide +kernel) (by decide +kernel)
theorem k_471 : Cond.selects "SignDesk$Processor" ⟨"SignDesk$Processor", "next", "()I"⟩ ⟨"SignDesk$Processor", "next", "()I"⟩ ∈ sdT := sd_lt 471 (by decide +kernel) (by decide +kernel)
theorem k_472 : Cond.code ⟨"SignDesk$Processor", "next", "()I"⟩ prog_4_method_6_code 1 (Option.some FieldType.int) ∈ sdT := sd_lt 472 (by decide +kernel) (by decide +kernel)
theorem k_473 : Cond.methodLink "SignDesk" 88 ⟨"SignDesk$Program", "size", "()I"⟩ ∈ sdT := sd_lt 473 (by decide +kernel) (by decide +kernel)
theorem k_474 : Cond.methodLink "SignDesk" 91 ⟨"SignDesk$Processor", "done", "()I"⟩ ∈ sdT := sd_lt 474 (by decide +kernel) (by decide +kernel)
theorem k_475 : Cond.instanceMethod ⟨"SignDesk$Processor", "done", "()I"⟩ ∈ sdT := sd_lt 475 (by decide +kernel) (by decide +kernel)
theorem k_476 : Cond.selects "SignDesk$Processor" ⟨"SignDesk$Processor", "done", "()I"⟩ ⟨"SignDesk$Processor", "done", "()I"⟩ ∈ sdT := sd_lt 476 (by decide +kernel) (by decide +kernel)
theorem k_477 : Cond.code ⟨"SignDesk$Processor", "done", "()I"⟩ prog_4_method_7_code 1 (Option.some FieldType.int) ∈ sdT := sd_lt 477 (by decide +kernel) (by decide +kernel)
theorem k_478 : Cond.methodLink "SignDesk" 94 ⟨"SignDesk$Reader", "symbolCount", "()I"⟩ ∈ sdT := sd_lt 478 (by decide +kernel) (by decide +kernel)
theorem k_479 : Cond.instanceMethod ⟨"SignDesk$Reader", "symbolCount", "()I"⟩ ∈ sdT := sd_lt 479 (by decide +kernel) (by decide +kernel)
theorem k_480 : Cond.selects "SignDesk$Reader" ⟨"SignDesk$Reader", "symbolCount", "()I"⟩ ⟨"SignDesk$Reader", "symbolCount", "()I"⟩ ∈ sdT := sd_lt 480 (by decide +kernel) (by decide +kernel)
theorem k_481 : Cond.code ⟨"SignDesk$Reader", "symbolCount", "()I"⟩ prog_6_method_3_code 1 (Option.some FieldType.int) ∈ sdT := sd_lt 481 (by decide +kernel) (by decide +kernel)
theorem k_482 : Cond.methodLink "SignDesk$Reader" 32 ⟨"SignDesk$Symbols", "count", "()I"⟩ ∈ sdT := sd_lt 482 (by decide +kernel) (by decide +kernel)
theorem k_483 : Cond.instanceMethod ⟨"SignDesk$Symbols", "count", "()I"⟩ ∈ sdT := sd_lt 483 (by decide +kernel) (by decide +kernel)
theorem k_484 : Cond.selects "SignDesk$Symbols" ⟨"SignDesk$Symbols", "count", "()I"⟩ ⟨"SignDesk$Symbols", "count", "()I"⟩ ∈ sdT := sd_lt 484 (by decide +kernel) (by decide +kernel)
theorem k_485 : Cond.code ⟨"SignDesk$Symbols", "count", "()I"⟩ prog_7_method_6_code 1 (Option.some FieldType.int) ∈ sdT := sd_lt 485 (by decide +kernel) (by decide +kernel)
theorem k_486 : Cond.methodLink "SignDesk" 97 ⟨"SignDesk$Text", "size", "()I"⟩ ∈ sdT := sd_lt 486 (by decide +kernel) (by decide +kernel)
theorem k_487 : Cond.classLink "SignDeskLaw" 10 "SignDeskModel" ∈ sdT := sd_lt 487 (by decide +kernel) (by decide +kernel)
theorem k_488 : Cond.instantiable "SignDeskModel" 19 ∈ sdT := sd_lt 488 (by decide +kernel) (by decide +kernel)
theorem k_489 : Cond.methodLink "SignDeskLaw" 12 ⟨"SignDeskModel", "<init>", "()V"⟩ ∈ sdT := sd_lt 489 (by decide +kernel) (by decide +kernel)
theorem k_490 : Cond.instanceMethod ⟨"SignDeskModel", "<init>", "()V"⟩ ∈ sdT := sd_lt 490 (by decide +kernel) (by decide +kernel)
theorem k_491 : Cond.code ⟨"SignDeskModel", "<init>", "()V"⟩ prog_10_method_1_code 1 (none) ∈ sdT := sd_lt 491 (by decide +kernel) (by decide +kernel)
theorem k_492 : Cond.methodLink "SignDeskModel" 1 ⟨"java/lang/Object", "<init>", "()V"⟩ ∈ sdT := sd_lt 492 (by decide +kernel) (by decide +kernel)
theorem k_493 : Cond.constant "SignDeskModel" 32 (32768 : Int32) ∈ sdT := sd_lt 493 (by decide +kernel) (by decide +kernel)
theorem k_494 : Cond.fieldLink "SignDeskModel" 7 "SignDeskModel" "text" "[I" ∈ sdT := sd_lt 494 (by decide +kernel) (by decide +kernel)
theorem k_495 : Cond.fieldLink "SignDeskModel" 46 "SignDeskModel" "taken" "I" ∈ sdT := sd_lt 495 (by decide +kernel) (by decide +kernel)
theorem k_496 : Cond.fieldLink "SignDeskModel" 49 "SignDeskModel" "size" "I" ∈ sdT := sd_lt 496 (by decide +kernel) (by decide +kernel)
theorem k_497 : Cond.fieldLink "SignDeskModel" 13 "SignDeskModel" "place" "I" ∈ sdT := sd_lt 497 (by decide +kernel) (by decide +kernel)
theorem k_498 : Cond.fieldLink "SignDeskModel" 83 "SignDeskModel" "words" "I" ∈ sdT := sd_lt 498 (by decide +kernel) (by decide +kernel)
theorem k_499 : Cond.fieldLink "SignDeskModel" 17 "SignDeskModel" "codes" "[I" ∈ sdT := sd_lt 499 (by decide +kernel) (by decide +kernel)
theorem k_500 : Cond.fieldLink "SignDeskModel" 69 "SignDeskModel" "symbols" "I" ∈ sdT := sd_lt 500 (by decide +kernel) (by decide +kernel)
theorem k_501 : Cond.fieldLink "SignDeskModel" 20 "SignDeskModel" "symAt" "[I" ∈ sdT := sd_lt 501 (by decide +kernel) (by decide +kernel)
theorem k_502 : Cond.fieldLink "SignDeskModel" 23 "SignDeskModel" "symSize" "[I" ∈ sdT := sd_lt 502 (by decide +kernel) (by decide +kernel)
theorem k_503 : Cond.fieldLink "SignDeskModel" 26 "SignDeskModel" "symValue" "[I" ∈ sdT := sd_lt 503 (by decide +kernel) (by decide +kernel)
theorem k_504 : Cond.fieldLink "SignDeskModel" 29 "SignDeskModel" "codeSymbol" "[I" ∈ sdT := sd_lt 504 (by decide +kernel) (by decide +kernel)
theorem k_505 : Cond.fieldLink "SignDeskModel" 33 "SignDeskModel" "cells" "[I" ∈ sdT := sd_lt 505 (by decide +kernel) (by decide +kernel)
theorem k_506 : Cond.fieldLink "SignDeskModel" 102 "SignDeskModel" "regA" "I" ∈ sdT := sd_lt 506 (by decide +kernel) (by decide +kernel)
theorem k_507 : Cond.fieldLink "SignDeskModel" 105 "SignDeskModel" "regD" "I" ∈ sdT := sd_lt 507 (by decide +kernel) (by decide +kernel)
theorem k_508 : Cond.fieldLink "SignDeskModel" 108 "SignDeskModel" "nextCode" "I" ∈ sdT := sd_lt 508 (by decide +kernel) (by decide +kernel)
theorem k_509 : Cond.fieldLink "SignDeskModel" 111 "SignDeskModel" "doneCodes" "I" ∈ sdT := sd_lt 509 (by decide +kernel) (by decide +kernel)
theorem k_510 : Cond.fieldLink "SignDeskModel" 36 "SignDeskModel" "KNOWN" "[C" ∈ sdT := sd_lt 510 (by decide +kernel) (by decide +kernel)
theorem k_511 : Cond.fieldLink "SignDeskModel" 40 "SignDeskModel" "JUMPS" "[C" ∈ sdT := sd_lt 511 (by decide +kernel) (by decide +kernel)
theorem k_512 : Cond.fieldLink "SignDeskModel" 43 "SignDeskModel" "DESTS" "[C" ∈ sdT := sd_lt 512 (by decide +kernel) (by decide +kernel)
theorem k_513 : Cond.laysFinal "SignDeskModel" "SignDeskModel" "text" "[I" ∈ sdT := sd_lt 513 (by decide +kernel) (by decide +kernel)
theorem k_515 : Cond.lays "SignDeskModel" "SignDeskModel" "taken" "I" ∈ sdT := sd_lt 515 (by decide +kernel) (by decide +kernel)
theorem k_517 : Cond.lays "SignDeskModel" "SignDeskModel" "size" "I" ∈ sdT := sd_lt 517 (by decide +kernel) (by decide +kernel)
theorem k_519 : Cond.lays "SignDeskModel" "SignDeskModel" "place" "I" ∈ sdT := sd_lt 519 (by decide +kernel) (by decide +kernel)
theorem k_521 : Cond.lays "SignDeskModel" "SignDeskModel" "words" "I" ∈ sdT := sd_lt 521 (by decide +kernel) (by decide +kernel)
theorem k_523 : Cond.laysFinal "SignDeskModel" "SignDeskModel" "codes" "[I" ∈ sdT := sd_lt 523 (by decide +kernel) (by decide +kernel)
theorem k_525 : Cond.lays "SignDeskModel" "SignDeskModel" "symbols" "I" ∈ sdT := sd_lt 525 (by decide +kernel) (by decide +kernel)
theorem k_527 : Cond.laysFinal "SignDeskModel" "SignDeskModel" "symAt" "[I" ∈ sdT := sd_lt 527 (by decide +kernel) (by decide +kernel)
theorem k_529 : Cond.laysFinal "SignDeskModel" "SignDeskModel" "symSize" "[I" ∈ sdT := sd_lt 529 (by decide +kernel) (by decide +kernel)
theorem k_531 : Cond.laysFinal "SignDeskModel" "SignDeskModel" "symValue" "[I" ∈ sdT := sd_lt 531 (by decide +kernel) (by decide +kernel)
theorem k_533 : Cond.laysFinal "SignDeskModel" "SignDeskModel" "codeSymbol" "[I" ∈ sdT := sd_lt 533 (by decide +kernel) (by decide +kernel)
theorem k_535 : Cond.laysFinal "SignDeskModel" "SignDeskModel" "cells" "[I" ∈ sdT := sd_lt 535 (by decide +kernel) (by decide +kernel)
theorem k_537 : Cond.lays "SignDeskModel" "SignDeskModel" "regA" "I" ∈ sdT := sd_lt 537 (by decide +kernel) (by decide +kernel)
theorem k_539 : Cond.lays "SignDeskModel" "SignDeskModel" "regD" "I" ∈ sdT := sd_lt 539 (by decide +kernel) (by decide +kernel)
theorem k_541 : Cond.lays "SignDeskModel" "SignDeskModel" "nextCode" "I" ∈ sdT := sd_lt 541 (by decide +kernel) (by decide +kernel)
theorem k_543 : Cond.lays "SignDeskModel" "SignDeskModel" "doneCodes" "I" ∈ sdT := sd_lt 543 (by decide +kernel) (by decide +kernel)
theorem k_545 : Cond.laysFinal "SignDeskModel" "SignDeskModel" "KNOWN" "[C" ∈ sdT := sd_lt 545 (by decide +kernel) (by decide +kernel)
theorem k_547 : Cond.laysFinal "SignDeskModel" "SignDeskModel" "JUMPS" "[C" ∈ sdT := sd_lt 547 (by decide +kernel) (by decide +kernel)
theorem k_549 : Cond.laysFinal "SignDeskModel" "SignDeskModel" "DESTS" "[C" ∈ sdT := sd_lt 549 (by decide +kernel) (by decide +kernel)
theorem k_552 : Cond.arrayClass FieldType.char ∈ sdT := sd_lt 552 (by decide +kernel) (by decide +kernel)
theorem k_553 : Cond.methodLink "SignDeskLaw" 19 ⟨"SignDeskModel", "put", "(JI)Z"⟩ ∈ sdT := sd_lt 553 (by decide +kernel) (by decide +kernel)
theorem k_554 : Cond.instanceMethod ⟨"SignDeskModel", "put", "(JI)Z"⟩ ∈ sdT := sd_lt 554 (by decide +kernel) (by decide +kernel)
theorem k_555 : Cond.selects "SignDeskModel" ⟨"SignDeskModel", "put", "(JI)Z"⟩ ⟨"SignDeskModel", "put", "(JI)Z"⟩ ∈ sdT := sd_lt 555 (by decide +kernel) (by decide +kernel)
theorem k_556 : Cond.code ⟨"SignDeskModel", "put", "(JI)Z"⟩ prog_10_method_2_code 5 (Option.some FieldType.boolean) ∈ sdT := sd_lt 556 (by decide +kernel) (by decide +kernel)
theorem k_557 : Cond.methodLink "SignDeskLaw" 28 ⟨"SignDeskModel", "place", "()I"⟩ ∈ sdT := sd_lt 557 (by decide +kernel) (by decide +kernel)
theorem k_558 : Cond.instanceMethod ⟨"SignDeskModel", "place", "()I"⟩ ∈ sdT := sd_lt 558 (by decide +kernel) (by decide +kernel)
theorem k_559 : Cond.selects "SignDeskModel" ⟨"SignDeskModel", "place", "()I"⟩ ⟨"SignDeskModel", "place", "()I"⟩ ∈ sdT := sd_lt 559 (by decide +kernel) (by decide +kernel)
theorem k_560 : Cond.code ⟨"SignDeskModel", "place", "()I"⟩ prog_10_method_3_code 1 (Option.some FieldType.int) ∈ sdT := sd_lt 560 (by decide +kernel) (by decide +kernel)
theorem k_561 : Cond.methodLink "SignDeskLaw" 24 ⟨"SignDeskModel", "read", "()I"⟩ ∈ sdT := sd_lt 561 (by decide +kernel) (by decide +kernel)
theorem k_562 : Cond.instanceMethod ⟨"SignDeskModel", "read", "()I"⟩ ∈ sdT := sd_lt 562 (by decide +kernel) (by decide +kernel)
theorem k_563 : Cond.selects "SignDeskModel" ⟨"SignDeskModel", "read", "()I"⟩ ⟨"SignDeskModel", "read", "()I"⟩ ∈ sdT := sd_lt 563 (by decide +kernel) (by decide +kernel)
theorem k_564 : Cond.code ⟨"SignDeskModel", "read", "()I"⟩ prog_10_method_21_code 6 (Option.some FieldType.int) ∈ sdT := sd_lt 564 (by decide +kernel) (by decide +kernel)
theorem k_565 : Cond.methodLink "SignDeskModel" 114 ⟨"SignDeskModel", "resetProcessor", "()V"⟩ ∈ sdT := sd_lt 565 (by decide +kernel) (by decide +kernel)
theorem k_567 : Cond.instanceMethod ⟨"SignDeskModel", "resetProcessor", "()V"⟩ ∈ sdT := sd_lt 567 (by decide +kernel) (by decide +kernel)
theorem k_568 : Cond.code ⟨"SignDeskModel", "resetProcessor", "()V"⟩ prog_10_method_20_code 2 (none) ∈ sdT := sd_lt 568 (by decide +kernel) (by decide +kernel)
theorem k_569 : Cond.methodLink "SignDeskModel" 117 ⟨"SignDeskModel", "isBlank", "(I)Z"⟩ ∈ sdT := sd_lt 569 (by decide +kernel) (by decide +kernel)
theorem k_570 : Cond.static ⟨"SignDeskModel", "isBlank", "(I)Z"⟩ ∈ sdT := sd_lt 570 (by decide +kernel) (by decide +kernel)
theorem k_571 : Cond.code ⟨"SignDeskModel", "isBlank", "(I)Z"⟩ prog_10_method_9_code 1 (Option.some FieldType.boolean) ∈ sdT := sd_lt 571 (by decide +kernel) (by decide +kernel)
theorem k_572 : Cond.methodLink "SignDeskModel" 120 ⟨"SignDeskModel", "at", "(I)I"⟩ ∈ sdT := sd_lt 572 (by decide +kernel) (by decide +kernel)
theorem k_574 : Cond.instanceMethod ⟨"SignDeskModel", "at", "(I)I"⟩ ∈ sdT := sd_lt 574 (by decide +kernel) (by decide +kernel)
theorem k_575 : Cond.code ⟨"SignDeskModel", "at", "(I)I"⟩ prog_10_method_4_code 2 (Option.some FieldType.int) ∈ sdT := sd_lt 575 (by decide +kernel) (by decide +kernel)
theorem k_576 : Cond.methodLink "SignDeskModel" 124 ⟨"SignDeskModel", "instruction", "(IIZ)I"⟩ ∈ sdT := sd_lt 576 (by decide +kernel) (by decide +kernel)
theorem k_578 : Cond.instanceMethod ⟨"SignDeskModel", "instruction", "(IIZ)I"⟩ ∈ sdT := sd_lt 578 (by decide +kernel) (by decide +kernel)
theorem k_579 : Cond.code ⟨"SignDeskModel", "instruction", "(IIZ)I"⟩ prog_10_method_19_code 4 (Option.some FieldType.int) ∈ sdT := sd_lt 579 (by decide +kernel) (by decide +kernel)
theorem k_580 : Cond.methodLink "SignDeskModel" 93 ⟨"SignDeskModel", "label", "(II)I"⟩ ∈ sdT := sd_lt 580 (by decide +kernel) (by decide +kernel)
theorem k_582 : Cond.instanceMethod ⟨"SignDeskModel", "label", "(II)I"⟩ ∈ sdT := sd_lt 582 (by decide +kernel) (by decide +kernel)
theorem k_583 : Cond.code ⟨"SignDeskModel", "label", "(II)I"⟩ prog_10_method_14_code 4 (Option.some FieldType.int) ∈ sdT := sd_lt 583 (by decide +kernel) (by decide +kernel)
theorem k_584 : Cond.methodLink "SignDeskModel" 72 ⟨"SignDeskModel", "isSymbol", "(II)Z"⟩ ∈ sdT := sd_lt 584 (by decide +kernel) (by decide +kernel)
theorem k_586 : Cond.instanceMethod ⟨"SignDeskModel", "isSymbol", "(II)Z"⟩ ∈ sdT := sd_lt 586 (by decide +kernel) (by decide +kernel)
theorem k_587 : Cond.code ⟨"SignDeskModel", "isSymbol", "(II)Z"⟩ prog_10_method_11_code 5 (Option.some FieldType.boolean) ∈ sdT := sd_lt 587 (by decide +kernel) (by decide +kernel)
theorem k_588 : Cond.methodLink "SignDeskModel" 56 ⟨"SignDeskModel", "isDigit", "(I)Z"⟩ ∈ sdT := sd_lt 588 (by decide +kernel) (by decide +kernel)
theorem k_589 : Cond.static ⟨"SignDeskModel", "isDigit", "(I)Z"⟩ ∈ sdT := sd_lt 589 (by decide +kernel) (by decide +kernel)
theorem k_590 : Cond.code ⟨"SignDeskModel", "isDigit", "(I)Z"⟩ prog_10_method_6_code 1 (Option.some FieldType.boolean) ∈ sdT := sd_lt 590 (by decide +kernel) (by decide +kernel)
theorem k_591 : Cond.methodLink "SignDeskModel" 62 ⟨"SignDeskModel", "isSymbolByte", "(I)Z"⟩ ∈ sdT := sd_lt 591 (by decide +kernel) (by decide +kernel)
theorem k_592 : Cond.static ⟨"SignDeskModel", "isSymbolByte", "(I)Z"⟩ ∈ sdT := sd_lt 592 (by decide +kernel) (by decide +kernel)
theorem k_593 : Cond.code ⟨"SignDeskModel", "isSymbolByte", "(I)Z"⟩ prog_10_method_10_code 1 (Option.some FieldType.boolean) ∈ sdT := sd_lt 593 (by decide +kernel) (by decide +kernel)
theorem k_594 : Cond.methodLink "SignDeskModel" 59 ⟨"SignDeskModel", "isWordByte", "(I)Z"⟩ ∈ sdT := sd_lt 594 (by decide +kernel) (by decide +kernel)
theorem k_595 : Cond.static ⟨"SignDeskModel", "isWordByte", "(I)Z"⟩ ∈ sdT := sd_lt 595 (by decide +kernel) (by decide +kernel)
theorem k_596 : Cond.code ⟨"SignDeskModel", "isWordByte", "(I)Z"⟩ prog_10_method_7_code 1 (Option.some FieldType.boolean) ∈ sdT := sd_lt 596 (by decide +kernel) (by decide +kernel)
theorem k_597 : Cond.methodLink "SignDeskModel" 52 ⟨"SignDeskModel", "isLetter", "(I)Z"⟩ ∈ sdT := sd_lt 597 (by decide +kernel) (by decide +kernel)
theorem k_598 : Cond.static ⟨"SignDeskModel", "isLetter", "(I)Z"⟩ ∈ sdT := sd_lt 598 (by decide +kernel) (by decide +kernel)
theorem k_599 : Cond.code ⟨"SignDeskModel", "isLetter", "(I)Z"⟩ prog_10_method_5_code 1 (Option.some FieldType.boolean) ∈ sdT := sd_lt 599 (by decide +kernel) (by decide +kernel)
theorem k_600 : Cond.methodLink "SignDeskModel" 76 ⟨"SignDeskModel", "knownOf", "(II)I"⟩ ∈ sdT := sd_lt 600 (by decide +kernel) (by decide +kernel)
theorem k_602 : Cond.instanceMethod ⟨"SignDeskModel", "knownOf", "(II)I"⟩ ∈ sdT := sd_lt 602 (by decide +kernel) (by decide +kernel)
theorem k_603 : Cond.code ⟨"SignDeskModel", "knownOf", "(II)I"⟩ prog_10_method_12_code 5 (Option.some FieldType.int) ∈ sdT := sd_lt 603 (by decide +kernel) (by decide +kernel)
theorem k_604 : Cond.methodLink "SignDeskModel" 65 ⟨"SignDeskModel", "wordOf", "([CII)I"⟩ ∈ sdT := sd_lt 604 (by decide +kernel) (by decide +kernel)
theorem k_606 : Cond.instanceMethod ⟨"SignDeskModel", "wordOf", "([CII)I"⟩ ∈ sdT := sd_lt 606 (by decide +kernel) (by decide +kernel)
theorem k_607 : Cond.code ⟨"SignDeskModel", "wordOf", "([CII)I"⟩ prog_10_method_8_code 7 (Option.some FieldType.int) ∈ sdT := sd_lt 607 (by decide +kernel) (by decide +kernel)
theorem k_608 : Cond.methodLink "SignDeskModel" 80 ⟨"SignDeskModel", "symbolOf", "(II)I"⟩ ∈ sdT := sd_lt 608 (by decide +kernel) (by decide +kernel)
theorem k_610 : Cond.instanceMethod ⟨"SignDeskModel", "symbolOf", "(II)I"⟩ ∈ sdT := sd_lt 610 (by decide +kernel) (by decide +kernel)
theorem k_611 : Cond.code ⟨"SignDeskModel", "symbolOf", "(II)I"⟩ prog_10_method_13_code 5 (Option.some FieldType.int) ∈ sdT := sd_lt 611 (by decide +kernel) (by decide +kernel)
theorem k_612 : Cond.methodLink "SignDeskModel" 96 ⟨"SignDeskModel", "address", "(II)I"⟩ ∈ sdT := sd_lt 612 (by decide +kernel) (by decide +kernel)
theorem k_614 : Cond.instanceMethod ⟨"SignDeskModel", "address", "(II)I"⟩ ∈ sdT := sd_lt 614 (by decide +kernel) (by decide +kernel)
theorem k_615 : Cond.code ⟨"SignDeskModel", "address", "(II)I"⟩ prog_10_method_15_code 6 (Option.some FieldType.int) ∈ sdT := sd_lt 615 (by decide +kernel) (by decide +kernel)
theorem k_616 : Cond.methodLink "SignDeskModel" 99 ⟨"SignDeskModel", "computes", "(II)I"⟩ ∈ sdT := sd_lt 616 (by decide +kernel) (by decide +kernel)
theorem k_618 : Cond.instanceMethod ⟨"SignDeskModel", "computes", "(II)I"⟩ ∈ sdT := sd_lt 618 (by decide +kernel) (by decide +kernel)
theorem k_619 : Cond.code ⟨"SignDeskModel", "computes", "(II)I"⟩ prog_10_method_18_code 10 (Option.some FieldType.int) ∈ sdT := sd_lt 619 (by decide +kernel) (by decide +kernel)
theorem k_620 : Cond.methodLink "SignDeskModel" 86 ⟨"SignDeskModel", "destOf", "(II)I"⟩ ∈ sdT := sd_lt 620 (by decide +kernel) (by decide +kernel)
theorem k_622 : Cond.instanceMethod ⟨"SignDeskModel", "destOf", "(II)I"⟩ ∈ sdT := sd_lt 622 (by decide +kernel) (by decide +kernel)
theorem k_623 : Cond.code ⟨"SignDeskModel", "destOf", "(II)I"⟩ prog_10_method_17_code 4 (Option.some FieldType.int) ∈ sdT := sd_lt 623 (by decide +kernel) (by decide +kernel)
theorem k_624 : Cond.methodLink "SignDeskModel" 89 ⟨"SignDeskModel", "compOf", "(II)I"⟩ ∈ sdT := sd_lt 624 (by decide +kernel) (by decide +kernel)
theorem k_626 : Cond.instanceMethod ⟨"SignDeskModel", "compOf", "(II)I"⟩ ∈ sdT := sd_lt 626 (by decide +kernel) (by decide +kernel)
theorem k_627 : Cond.code ⟨"SignDeskModel", "compOf", "(II)I"⟩ prog_10_method_16_code 8 (Option.some FieldType.int) ∈ sdT := sd_lt 627 (by decide +kernel) (by decide +kernel)
theorem k_628 : Cond.constant "SignDeskModel" 92 (57344 : Int32) ∈ sdT := sd_lt 628 (by decide +kernel) (by decide +kernel)
theorem k_629 : Cond.methodLink "SignDeskLaw" 33 ⟨"SignDeskModel", "code", "(I)I"⟩ ∈ sdT := sd_lt 629 (by decide +kernel) (by decide +kernel)
theorem k_630 : Cond.instanceMethod ⟨"SignDeskModel", "code", "(I)I"⟩ ∈ sdT := sd_lt 630 (by decide +kernel) (by decide +kernel)
theorem k_631 : Cond.selects "SignDeskModel" ⟨"SignDeskModel", "code", "(I)I"⟩ ⟨"SignDeskModel", "code", "(I)I"⟩ ∈ sdT := sd_lt 631 (by decide +kernel) (by decide +kernel)
theorem k_632 : Cond.code ⟨"SignDeskModel", "code", "(I)I"⟩ prog_10_method_22_code 2 (Option.some FieldType.int) ∈ sdT := sd_lt 632 (by decide +kernel) (by decide +kernel)
theorem k_633 : Cond.methodLink "SignDeskLaw" 37 ⟨"SignDeskModel", "go", "(I)I"⟩ ∈ sdT := sd_lt 633 (by decide +kernel) (by decide +kernel)
theorem k_634 : Cond.instanceMethod ⟨"SignDeskModel", "go", "(I)I"⟩ ∈ sdT := sd_lt 634 (by decide +kernel) (by decide +kernel)
theorem k_635 : Cond.selects "SignDeskModel" ⟨"SignDeskModel", "go", "(I)I"⟩ ⟨"SignDeskModel", "go", "(I)I"⟩ ∈ sdT := sd_lt 635 (by decide +kernel) (by decide +kernel)
theorem k_636 : Cond.code ⟨"SignDeskModel", "go", "(I)I"⟩ prog_10_method_25_code 3 (Option.some FieldType.int) ∈ sdT := sd_lt 636 (by decide +kernel) (by decide +kernel)
theorem k_637 : Cond.methodLink "SignDeskModel" 132 ⟨"SignDeskModel", "oneCode", "()V"⟩ ∈ sdT := sd_lt 637 (by decide +kernel) (by decide +kernel)
theorem k_639 : Cond.instanceMethod ⟨"SignDeskModel", "oneCode", "()V"⟩ ∈ sdT := sd_lt 639 (by decide +kernel) (by decide +kernel)
theorem k_640 : Cond.code ⟨"SignDeskModel", "oneCode", "()V"⟩ prog_10_method_24_code 5 (none) ∈ sdT := sd_lt 640 (by decide +kernel) (by decide +kernel)
theorem k_641 : Cond.methodLink "SignDeskModel" 128 ⟨"SignDeskModel", "unit", "(III)I"⟩ ∈ sdT := sd_lt 641 (by decide +kernel) (by decide +kernel)
theorem k_642 : Cond.static ⟨"SignDeskModel", "unit", "(III)I"⟩ ∈ sdT := sd_lt 642 (by decide +kernel) (by decide +kernel)
theorem k_643 : Cond.code ⟨"SignDeskModel", "unit", "(III)I"⟩ prog_10_method_23_code 6 (Option.some FieldType.int) ∈ sdT := sd_lt 643 (by decide +kernel) (by decide +kernel)
theorem k_644 : Cond.methodLink "SignDeskLaw" 42 ⟨"SignDeskModel", "set", "(II)Z"⟩ ∈ sdT := sd_lt 644 (by decide +kernel) (by decide +kernel)
theorem k_645 : Cond.instanceMethod ⟨"SignDeskModel", "set", "(II)Z"⟩ ∈ sdT := sd_lt 645 (by decide +kernel) (by decide +kernel)
theorem k_646 : Cond.selects "SignDeskModel" ⟨"SignDeskModel", "set", "(II)Z"⟩ ⟨"SignDeskModel", "set", "(II)Z"⟩ ∈ sdT := sd_lt 646 (by decide +kernel) (by decide +kernel)
theorem k_647 : Cond.code ⟨"SignDeskModel", "set", "(II)Z"⟩ prog_10_method_26_code 3 (Option.some FieldType.boolean) ∈ sdT := sd_lt 647 (by decide +kernel) (by decide +kernel)
theorem k_648 : Cond.methodLink "SignDeskLaw" 46 ⟨"SignDeskModel", "store", "(I)I"⟩ ∈ sdT := sd_lt 648 (by decide +kernel) (by decide +kernel)
theorem k_649 : Cond.instanceMethod ⟨"SignDeskModel", "store", "(I)I"⟩ ∈ sdT := sd_lt 649 (by decide +kernel) (by decide +kernel)
theorem k_650 : Cond.selects "SignDeskModel" ⟨"SignDeskModel", "store", "(I)I"⟩ ⟨"SignDeskModel", "store", "(I)I"⟩ ∈ sdT := sd_lt 650 (by decide +kernel) (by decide +kernel)
theorem k_651 : Cond.code ⟨"SignDeskModel", "store", "(I)I"⟩ prog_10_method_27_code 2 (Option.some FieldType.int) ∈ sdT := sd_lt 651 (by decide +kernel) (by decide +kernel)
theorem k_652 : Cond.constant "SignDeskModel" 135 (100000 : Int32) ∈ sdT := sd_lt 652 (by decide +kernel) (by decide +kernel)
theorem k_653 : Cond.methodLink "SignDeskLaw" 50 ⟨"SignDeskModel", "register", "(I)I"⟩ ∈ sdT := sd_lt 653 (by decide +kernel) (by decide +kernel)
theorem k_654 : Cond.instanceMethod ⟨"SignDeskModel", "register", "(I)I"⟩ ∈ sdT := sd_lt 654 (by decide +kernel) (by decide +kernel)
theorem k_655 : Cond.selects "SignDeskModel" ⟨"SignDeskModel", "register", "(I)I"⟩ ⟨"SignDeskModel", "register", "(I)I"⟩ ∈ sdT := sd_lt 655 (by decide +kernel) (by decide +kernel)
theorem k_656 : Cond.code ⟨"SignDeskModel", "register", "(I)I"⟩ prog_10_method_28_code 2 (Option.some FieldType.int) ∈ sdT := sd_lt 656 (by decide +kernel) (by decide +kernel)
theorem k_657 : Cond.constantLong "SignDeskLaw" 13 (4294967295 : Int64) ∈ sdT := sd_lt 657 (by decide +kernel) (by decide +kernel)
theorem k_658 : Cond.fieldLink "java/lang/String" 9 "java/lang/String" "value" "[B" ∈ sdT := sd_lt 658 (by decide +kernel) (by decide +kernel)
theorem k_659 : Cond.fieldLink "java/lang/String" 15 "java/lang/String" "coder" "B" ∈ sdT := sd_lt 659 (by decide +kernel) (by decide +kernel)
theorem in_Mem : ∀ w ∈ u_ws "SignDesk$Memory" F_Mem 1, w ∈ sdT := by
  intro w h
  obtain ⟨k, hk, rfl⟩ := List.mem_map.mp h
  have hk := List.mem_range.mp hk
  rcases (show k = 0 by omega) with rfl
  · exact k_129
theorem in_Pag : ∀ w ∈ u_ws "SignDesk$Page" F_Pag 1, w ∈ sdT := by
  intro w h
  obtain ⟨k, hk, rfl⟩ := List.mem_map.mp h
  have hk := List.mem_range.mp hk
  rcases (show k = 0 by omega) with rfl
  · exact k_438
theorem in_Prc : ∀ w ∈ u_ws "SignDesk$Processor" F_Prc 6, w ∈ sdT := by
  intro w h
  obtain ⟨k, hk, rfl⟩ := List.mem_map.mp h
  have hk := List.mem_range.mp hk
  rcases (show k = 0 ∨ k = 1 ∨ k = 2 ∨ k = 3 ∨ k = 4 ∨ k = 5 by omega) with rfl | rfl | rfl | rfl | rfl | rfl
  · exact k_138
  · exact k_140
  · exact k_142
  · exact k_144
  · exact k_146
  · exact k_148
theorem in_Prg : ∀ w ∈ u_ws "SignDesk$Program" F_Prg 2, w ∈ sdT := by
  intro w h
  obtain ⟨k, hk, rfl⟩ := List.mem_map.mp h
  have hk := List.mem_range.mp hk
  rcases (show k = 0 ∨ k = 1 by omega) with rfl | rfl
  · exact k_67
  · exact k_69
theorem in_Rdr : ∀ w ∈ u_ws "SignDesk$Reader" F_Rdr 4, w ∈ sdT := by
  intro w h
  obtain ⟨k, hk, rfl⟩ := List.mem_map.mp h
  have hk := List.mem_range.mp hk
  rcases (show k = 0 ∨ k = 1 ∨ k = 2 ∨ k = 3 by omega) with rfl | rfl | rfl | rfl
  · exact k_105
  · exact k_107
  · exact k_109
  · exact k_111
theorem in_Sym : ∀ w ∈ u_ws "SignDesk$Symbols" F_Sym 5, w ∈ sdT := by
  intro w h
  obtain ⟨k, hk, rfl⟩ := List.mem_map.mp h
  have hk := List.mem_range.mp hk
  rcases (show k = 0 ∨ k = 1 ∨ k = 2 ∨ k = 3 ∨ k = 4 by omega) with rfl | rfl | rfl | rfl | rfl
  · exact k_90
  · exact k_92
  · exact k_94
  · exact k_96
  · exact k_98
theorem in_Txt : ∀ w ∈ u_ws "SignDesk$Text" F_Txt 2, w ∈ sdT := by
  intro w h
  obtain ⟨k, hk, rfl⟩ := List.mem_map.mp h
  have hk := List.mem_range.mp hk
  rcases (show k = 0 ∨ k = 1 by omega) with rfl | rfl
  · exact k_53
  · exact k_55
theorem in_Dsk : ∀ w ∈ u_ws "SignDesk" F_Dsk 4, w ∈ sdT := by
  intro w h
  obtain ⟨k, hk, rfl⟩ := List.mem_map.mp h
  have hk := List.mem_range.mp hk
  rcases (show k = 0 ∨ k = 1 ∨ k = 2 ∨ k = 3 by omega) with rfl | rfl | rfl | rfl
  · exact k_155
  · exact k_157
  · exact k_159
  · exact k_161
theorem in_Mod : ∀ w ∈ u_ws "SignDeskModel" F_Mod 19, w ∈ sdT := by
  intro w h
  obtain ⟨k, hk, rfl⟩ := List.mem_map.mp h
  have hk := List.mem_range.mp hk
  rcases (show k = 0 ∨ k = 1 ∨ k = 2 ∨ k = 3 ∨ k = 4 ∨ k = 5 ∨ k = 6 ∨ k = 7 ∨ k = 8 ∨ k = 9 ∨ k = 10 ∨ k = 11 ∨ k = 12 ∨ k = 13 ∨ k = 14 ∨ k = 15 ∨ k = 16 ∨ k = 17 ∨ k = 18 by omega) with rfl | rfl | rfl | rfl | rfl | rfl | rfl | rfl | rfl | rfl | rfl | rfl | rfl | rfl | rfl | rfl | rfl | rfl | rfl
  · exact k_513
  · exact k_515
  · exact k_517
  · exact k_519
  · exact k_521
  · exact k_523
  · exact k_525
  · exact k_527
  · exact k_529
  · exact k_531
  · exact k_533
  · exact k_535
  · exact k_537
  · exact k_539
  · exact k_541
  · exact k_543
  · exact k_545
  · exact k_547
  · exact k_549
end
section
/-! decode rows -/
theorem d_Dsk_init_0 : decode b_Dsk_init 0 = .ok (.aload_n 0, 1) := by decide +kernel
theorem d_Dsk_init_1 : decode b_Dsk_init 1 = .ok (.invokespecial 1, 3) := by decide +kernel
theorem d_Dsk_init_4 : decode b_Dsk_init 4 = .ok (.aload_n 0, 1) := by decide +kernel
theorem d_Dsk_init_5 : decode b_Dsk_init 5 = .ok (.new 7, 3) := by decide +kernel
theorem d_Dsk_init_8 : decode b_Dsk_init 8 = .ok (.dup, 1) := by decide +kernel
theorem d_Dsk_init_9 : decode b_Dsk_init 9 = .ok (.invokespecial 9, 3) := by decide +kernel
theorem d_Dsk_init_12 : decode b_Dsk_init 12 = .ok (.putfield 10, 3) := by decide +kernel
theorem d_Dsk_init_15 : decode b_Dsk_init 15 = .ok (.aload_n 0, 1) := by decide +kernel
theorem d_Dsk_init_16 : decode b_Dsk_init 16 = .ok (.new 16, 3) := by decide +kernel
theorem d_Dsk_init_19 : decode b_Dsk_init 19 = .ok (.dup, 1) := by decide +kernel
theorem d_Dsk_init_20 : decode b_Dsk_init 20 = .ok (.invokespecial 18, 3) := by decide +kernel
theorem d_Dsk_init_23 : decode b_Dsk_init 23 = .ok (.putfield 19, 3) := by decide +kernel
theorem d_Dsk_init_26 : decode b_Dsk_init 26 = .ok (.aload_n 0, 1) := by decide +kernel
theorem d_Dsk_init_27 : decode b_Dsk_init 27 = .ok (.new 23, 3) := by decide +kernel
theorem d_Dsk_init_30 : decode b_Dsk_init 30 = .ok (.dup, 1) := by decide +kernel
theorem d_Dsk_init_31 : decode b_Dsk_init 31 = .ok (.aload_n 0, 1) := by decide +kernel
theorem d_Dsk_init_32 : decode b_Dsk_init 32 = .ok (.getfield 10, 3) := by decide +kernel
theorem d_Dsk_init_35 : decode b_Dsk_init 35 = .ok (.aload_n 0, 1) := by decide +kernel
theorem d_Dsk_init_36 : decode b_Dsk_init 36 = .ok (.getfield 19, 3) := by decide +kernel
theorem d_Dsk_init_39 : decode b_Dsk_init 39 = .ok (.invokespecial 25, 3) := by decide +kernel
theorem d_Dsk_init_42 : decode b_Dsk_init 42 = .ok (.putfield 28, 3) := by decide +kernel
theorem d_Dsk_init_45 : decode b_Dsk_init 45 = .ok (.aload_n 0, 1) := by decide +kernel
theorem d_Dsk_init_46 : decode b_Dsk_init 46 = .ok (.new 32, 3) := by decide +kernel
theorem d_Dsk_init_49 : decode b_Dsk_init 49 = .ok (.dup, 1) := by decide +kernel
theorem d_Dsk_init_50 : decode b_Dsk_init 50 = .ok (.aload_n 0, 1) := by decide +kernel
theorem d_Dsk_init_51 : decode b_Dsk_init 51 = .ok (.getfield 19, 3) := by decide +kernel
theorem d_Dsk_init_54 : decode b_Dsk_init 54 = .ok (.invokespecial 34, 3) := by decide +kernel
theorem d_Dsk_init_57 : decode b_Dsk_init 57 = .ok (.putfield 37, 3) := by decide +kernel
theorem d_Dsk_init_60 : decode b_Dsk_init 60 = .ok (.return_, 1) := by decide +kernel
theorem d_Txt_init_0 : decode b_Txt_init 0 = .ok (.aload_n 0, 1) := by decide +kernel
theorem d_Txt_init_1 : decode b_Txt_init 1 = .ok (.invokespecial 1, 3) := by decide +kernel
theorem d_Txt_init_4 : decode b_Txt_init 4 = .ok (.aload_n 0, 1) := by decide +kernel
theorem d_Txt_init_5 : decode b_Txt_init 5 = .ok (.sipush 2000, 3) := by decide +kernel
theorem d_Txt_init_8 : decode b_Txt_init 8 = .ok (.newarray .byte, 2) := by decide +kernel
theorem d_Txt_init_10 : decode b_Txt_init 10 = .ok (.putfield 9, 3) := by decide +kernel
theorem d_Txt_init_13 : decode b_Txt_init 13 = .ok (.return_, 1) := by decide +kernel
theorem d_Prg_init_0 : decode b_Prg_init 0 = .ok (.aload_n 0, 1) := by decide +kernel
theorem d_Prg_init_1 : decode b_Prg_init 1 = .ok (.invokespecial 1, 3) := by decide +kernel
theorem d_Prg_init_4 : decode b_Prg_init 4 = .ok (.aload_n 0, 1) := by decide +kernel
theorem d_Prg_init_5 : decode b_Prg_init 5 = .ok (.sipush 600, 3) := by decide +kernel
theorem d_Prg_init_8 : decode b_Prg_init 8 = .ok (.newarray .int, 2) := by decide +kernel
theorem d_Prg_init_10 : decode b_Prg_init 10 = .ok (.putfield 9, 3) := by decide +kernel
theorem d_Prg_init_13 : decode b_Prg_init 13 = .ok (.return_, 1) := by decide +kernel
theorem d_Rdr_init_0 : decode b_Rdr_init 0 = .ok (.aload_n 0, 1) := by decide +kernel
theorem d_Rdr_init_1 : decode b_Rdr_init 1 = .ok (.invokespecial 3, 3) := by decide +kernel
theorem d_Rdr_init_4 : decode b_Rdr_init 4 = .ok (.aload_n 0, 1) := by decide +kernel
theorem d_Rdr_init_5 : decode b_Rdr_init 5 = .ok (.iconst (-1), 1) := by decide +kernel
theorem d_Rdr_init_6 : decode b_Rdr_init 6 = .ok (.putfield 11, 3) := by decide +kernel
theorem d_Rdr_init_9 : decode b_Rdr_init 9 = .ok (.aload_n 0, 1) := by decide +kernel
theorem d_Rdr_init_10 : decode b_Rdr_init 10 = .ok (.aload_n 1, 1) := by decide +kernel
theorem d_Rdr_init_11 : decode b_Rdr_init 11 = .ok (.putfield 15, 3) := by decide +kernel
theorem d_Rdr_init_14 : decode b_Rdr_init 14 = .ok (.aload_n 0, 1) := by decide +kernel
theorem d_Rdr_init_15 : decode b_Rdr_init 15 = .ok (.aload_n 2, 1) := by decide +kernel
theorem d_Rdr_init_16 : decode b_Rdr_init 16 = .ok (.putfield 19, 3) := by decide +kernel
theorem d_Rdr_init_19 : decode b_Rdr_init 19 = .ok (.aload_n 0, 1) := by decide +kernel
theorem d_Rdr_init_20 : decode b_Rdr_init 20 = .ok (.new 23, 3) := by decide +kernel
theorem d_Rdr_init_23 : decode b_Rdr_init 23 = .ok (.dup, 1) := by decide +kernel
theorem d_Rdr_init_24 : decode b_Rdr_init 24 = .ok (.aload_n 1, 1) := by decide +kernel
theorem d_Rdr_init_25 : decode b_Rdr_init 25 = .ok (.invokespecial 25, 3) := by decide +kernel
theorem d_Rdr_init_28 : decode b_Rdr_init 28 = .ok (.putfield 28, 3) := by decide +kernel
theorem d_Rdr_init_31 : decode b_Rdr_init 31 = .ok (.return_, 1) := by decide +kernel
theorem d_Sym_init_0 : decode b_Sym_init 0 = .ok (.aload_n 0, 1) := by decide +kernel
theorem d_Sym_init_1 : decode b_Sym_init 1 = .ok (.invokespecial 1, 3) := by decide +kernel
theorem d_Sym_init_4 : decode b_Sym_init 4 = .ok (.aload_n 0, 1) := by decide +kernel
theorem d_Sym_init_5 : decode b_Sym_init 5 = .ok (.bipush 40, 2) := by decide +kernel
theorem d_Sym_init_7 : decode b_Sym_init 7 = .ok (.newarray .int, 2) := by decide +kernel
theorem d_Sym_init_9 : decode b_Sym_init 9 = .ok (.putfield 9, 3) := by decide +kernel
theorem d_Sym_init_12 : decode b_Sym_init 12 = .ok (.aload_n 0, 1) := by decide +kernel
theorem d_Sym_init_13 : decode b_Sym_init 13 = .ok (.bipush 40, 2) := by decide +kernel
theorem d_Sym_init_15 : decode b_Sym_init 15 = .ok (.newarray .int, 2) := by decide +kernel
theorem d_Sym_init_17 : decode b_Sym_init 17 = .ok (.putfield 13, 3) := by decide +kernel
theorem d_Sym_init_20 : decode b_Sym_init 20 = .ok (.aload_n 0, 1) := by decide +kernel
theorem d_Sym_init_21 : decode b_Sym_init 21 = .ok (.bipush 40, 2) := by decide +kernel
theorem d_Sym_init_23 : decode b_Sym_init 23 = .ok (.newarray .int, 2) := by decide +kernel
theorem d_Sym_init_25 : decode b_Sym_init 25 = .ok (.putfield 16, 3) := by decide +kernel
theorem d_Sym_init_28 : decode b_Sym_init 28 = .ok (.aload_n 0, 1) := by decide +kernel
theorem d_Sym_init_29 : decode b_Sym_init 29 = .ok (.aload_n 1, 1) := by decide +kernel
theorem d_Sym_init_30 : decode b_Sym_init 30 = .ok (.putfield 19, 3) := by decide +kernel
theorem d_Sym_init_33 : decode b_Sym_init 33 = .ok (.return_, 1) := by decide +kernel
theorem d_Prc_init_0 : decode b_Prc_init 0 = .ok (.aload_n 0, 1) := by decide +kernel
theorem d_Prc_init_1 : decode b_Prc_init 1 = .ok (.invokespecial 3, 3) := by decide +kernel
theorem d_Prc_init_4 : decode b_Prc_init 4 = .ok (.aload_n 0, 1) := by decide +kernel
theorem d_Prc_init_5 : decode b_Prc_init 5 = .ok (.aload_n 1, 1) := by decide +kernel
theorem d_Prc_init_6 : decode b_Prc_init 6 = .ok (.putfield 9, 3) := by decide +kernel
theorem d_Prc_init_9 : decode b_Prc_init 9 = .ok (.aload_n 0, 1) := by decide +kernel
theorem d_Prc_init_10 : decode b_Prc_init 10 = .ok (.new 15, 3) := by decide +kernel
theorem d_Prc_init_13 : decode b_Prc_init 13 = .ok (.dup, 1) := by decide +kernel
theorem d_Prc_init_14 : decode b_Prc_init 14 = .ok (.invokespecial 17, 3) := by decide +kernel
theorem d_Prc_init_17 : decode b_Prc_init 17 = .ok (.putfield 18, 3) := by decide +kernel
theorem d_Prc_init_20 : decode b_Prc_init 20 = .ok (.return_, 1) := by decide +kernel
theorem d_Mem_init_0 : decode b_Mem_init 0 = .ok (.aload_n 0, 1) := by decide +kernel
theorem d_Mem_init_1 : decode b_Mem_init 1 = .ok (.invokespecial 5, 3) := by decide +kernel
theorem d_Mem_init_4 : decode b_Mem_init 4 = .ok (.aload_n 0, 1) := by decide +kernel
theorem d_Mem_init_5 : decode b_Mem_init 5 = .ok (.sipush 128, 3) := by decide +kernel
theorem d_Mem_init_8 : decode b_Mem_init 8 = .ok (.anewarray 3, 3) := by decide +kernel
theorem d_Mem_init_11 : decode b_Mem_init 11 = .ok (.putfield 11, 3) := by decide +kernel
theorem d_Mem_init_14 : decode b_Mem_init 14 = .ok (.return_, 1) := by decide +kernel
theorem d_Dsk_put_0 : decode b_Dsk_put 0 = .ok (.aload_n 0, 1) := by decide +kernel
theorem d_Dsk_put_1 : decode b_Dsk_put 1 = .ok (.getfield 10, 3) := by decide +kernel
theorem d_Dsk_put_4 : decode b_Dsk_put 4 = .ok (.lload_n 1, 1) := by decide +kernel
theorem d_Dsk_put_5 : decode b_Dsk_put 5 = .ok (.iload_n 3, 1) := by decide +kernel
theorem d_Dsk_put_6 : decode b_Dsk_put 6 = .ok (.invokevirtual 41, 3) := by decide +kernel
theorem d_Dsk_put_9 : decode b_Dsk_put 9 = .ok (.ireturn, 1) := by decide +kernel
theorem d_Txt_append_0 : decode b_Txt_append 0 = .ok (.iload_n 3, 1) := by decide +kernel
theorem d_Txt_append_1 : decode b_Txt_append 1 = .ok (.iconst 1, 1) := by decide +kernel
theorem d_Txt_append_2 : decode b_Txt_append 2 = .ok (.if_icmp .lt 21, 3) := by decide +kernel
theorem d_Txt_append_5 : decode b_Txt_append 5 = .ok (.iload_n 3, 1) := by decide +kernel
theorem d_Txt_append_6 : decode b_Txt_append 6 = .ok (.bipush 8, 2) := by decide +kernel
theorem d_Txt_append_8 : decode b_Txt_append 8 = .ok (.if_icmp .gt 15, 3) := by decide +kernel
theorem d_Txt_append_11 : decode b_Txt_append 11 = .ok (.iload_n 3, 1) := by decide +kernel
theorem d_Txt_append_12 : decode b_Txt_append 12 = .ok (.sipush 2000, 3) := by decide +kernel
theorem d_Txt_append_15 : decode b_Txt_append 15 = .ok (.aload_n 0, 1) := by decide +kernel
theorem d_Txt_append_16 : decode b_Txt_append 16 = .ok (.getfield 13, 3) := by decide +kernel
theorem d_Txt_append_19 : decode b_Txt_append 19 = .ok (.isub, 1) := by decide +kernel
theorem d_Txt_append_20 : decode b_Txt_append 20 = .ok (.if_icmp .le 5, 3) := by decide +kernel
theorem d_Txt_append_23 : decode b_Txt_append 23 = .ok (.iconst 0, 1) := by decide +kernel
theorem d_Txt_append_24 : decode b_Txt_append 24 = .ok (.ireturn, 1) := by decide +kernel
theorem d_Txt_append_25 : decode b_Txt_append 25 = .ok (.iconst 0, 1) := by decide +kernel
theorem d_Txt_append_26 : decode b_Txt_append 26 = .ok (.istore 4, 2) := by decide +kernel
theorem d_Txt_append_28 : decode b_Txt_append 28 = .ok (.iload 4, 2) := by decide +kernel
theorem d_Txt_append_30 : decode b_Txt_append 30 = .ok (.iload_n 3, 1) := by decide +kernel
theorem d_Txt_append_31 : decode b_Txt_append 31 = .ok (.if_icmp .ge 34, 3) := by decide +kernel
theorem d_Txt_append_34 : decode b_Txt_append 34 = .ok (.aload_n 0, 1) := by decide +kernel
theorem d_Txt_append_35 : decode b_Txt_append 35 = .ok (.getfield 9, 3) := by decide +kernel
theorem d_Txt_append_38 : decode b_Txt_append 38 = .ok (.aload_n 0, 1) := by decide +kernel
theorem d_Txt_append_39 : decode b_Txt_append 39 = .ok (.getfield 13, 3) := by decide +kernel
theorem d_Txt_append_42 : decode b_Txt_append 42 = .ok (.iload 4, 2) := by decide +kernel
theorem d_Txt_append_44 : decode b_Txt_append 44 = .ok (.iadd, 1) := by decide +kernel
theorem d_Txt_append_45 : decode b_Txt_append 45 = .ok (.lload_n 1, 1) := by decide +kernel
theorem d_Txt_append_46 : decode b_Txt_append 46 = .ok (.bipush 8, 2) := by decide +kernel
theorem d_Txt_append_48 : decode b_Txt_append 48 = .ok (.iload_n 3, 1) := by decide +kernel
theorem d_Txt_append_49 : decode b_Txt_append 49 = .ok (.iconst 1, 1) := by decide +kernel
theorem d_Txt_append_50 : decode b_Txt_append 50 = .ok (.isub, 1) := by decide +kernel
theorem d_Txt_append_51 : decode b_Txt_append 51 = .ok (.iload 4, 2) := by decide +kernel
theorem d_Txt_append_53 : decode b_Txt_append 53 = .ok (.isub, 1) := by decide +kernel
theorem d_Txt_append_54 : decode b_Txt_append 54 = .ok (.imul, 1) := by decide +kernel
theorem d_Txt_append_55 : decode b_Txt_append 55 = .ok (.lushr, 1) := by decide +kernel
theorem d_Txt_append_56 : decode b_Txt_append 56 = .ok (.l2i, 1) := by decide +kernel
theorem d_Txt_append_57 : decode b_Txt_append 57 = .ok (.i2b, 1) := by decide +kernel
theorem d_Txt_append_58 : decode b_Txt_append 58 = .ok (.bastore, 1) := by decide +kernel
theorem d_Txt_append_59 : decode b_Txt_append 59 = .ok (.iinc 4 1, 3) := by decide +kernel
theorem d_Txt_append_62 : decode b_Txt_append 62 = .ok (.goto (-34), 3) := by decide +kernel
theorem d_Txt_append_65 : decode b_Txt_append 65 = .ok (.aload_n 0, 1) := by decide +kernel
theorem d_Txt_append_66 : decode b_Txt_append 66 = .ok (.dup, 1) := by decide +kernel
theorem d_Txt_append_67 : decode b_Txt_append 67 = .ok (.getfield 13, 3) := by decide +kernel
theorem d_Txt_append_70 : decode b_Txt_append 70 = .ok (.iload_n 3, 1) := by decide +kernel
theorem d_Txt_append_71 : decode b_Txt_append 71 = .ok (.iadd, 1) := by decide +kernel
theorem d_Txt_append_72 : decode b_Txt_append 72 = .ok (.putfield 13, 3) := by decide +kernel
theorem d_Txt_append_75 : decode b_Txt_append 75 = .ok (.iconst 1, 1) := by decide +kernel
theorem d_Txt_append_76 : decode b_Txt_append 76 = .ok (.ireturn, 1) := by decide +kernel
theorem d_Dsk_read_0 : decode b_Dsk_read 0 = .ok (.aload_n 0, 1) := by decide +kernel
theorem d_Dsk_read_1 : decode b_Dsk_read 1 = .ok (.getfield 28, 3) := by decide +kernel
theorem d_Dsk_read_4 : decode b_Dsk_read 4 = .ok (.invokevirtual 45, 3) := by decide +kernel
theorem d_Dsk_read_7 : decode b_Dsk_read 7 = .ok (.istore_n 1, 1) := by decide +kernel
theorem d_Dsk_read_8 : decode b_Dsk_read 8 = .ok (.aload_n 0, 1) := by decide +kernel
theorem d_Dsk_read_9 : decode b_Dsk_read 9 = .ok (.getfield 10, 3) := by decide +kernel
theorem d_Dsk_read_12 : decode b_Dsk_read 12 = .ok (.invokevirtual 49, 3) := by decide +kernel
theorem d_Dsk_read_15 : decode b_Dsk_read 15 = .ok (.aload_n 0, 1) := by decide +kernel
theorem d_Dsk_read_16 : decode b_Dsk_read 16 = .ok (.getfield 37, 3) := by decide +kernel
theorem d_Dsk_read_19 : decode b_Dsk_read 19 = .ok (.invokevirtual 52, 3) := by decide +kernel
theorem d_Dsk_read_22 : decode b_Dsk_read 22 = .ok (.iload_n 1, 1) := by decide +kernel
theorem d_Dsk_read_23 : decode b_Dsk_read 23 = .ok (.ireturn, 1) := by decide +kernel
theorem d_Rdr_assemble_0 : decode b_Rdr_assemble 0 = .ok (.aload_n 0, 1) := by decide +kernel
theorem d_Rdr_assemble_1 : decode b_Rdr_assemble 1 = .ok (.invokevirtual 36, 3) := by decide +kernel
theorem d_Rdr_assemble_4 : decode b_Rdr_assemble 4 = .ok (.aload_n 0, 1) := by decide +kernel
theorem d_Rdr_assemble_5 : decode b_Rdr_assemble 5 = .ok (.iconst (-1), 1) := by decide +kernel
theorem d_Rdr_assemble_6 : decode b_Rdr_assemble 6 = .ok (.putfield 11, 3) := by decide +kernel
theorem d_Rdr_assemble_9 : decode b_Rdr_assemble 9 = .ok (.iconst 0, 1) := by decide +kernel
theorem d_Rdr_assemble_10 : decode b_Rdr_assemble 10 = .ok (.istore_n 1, 1) := by decide +kernel
theorem d_Rdr_assemble_11 : decode b_Rdr_assemble 11 = .ok (.iconst 0, 1) := by decide +kernel
theorem d_Rdr_assemble_12 : decode b_Rdr_assemble 12 = .ok (.istore_n 2, 1) := by decide +kernel
theorem d_Rdr_assemble_13 : decode b_Rdr_assemble 13 = .ok (.iconst 0, 1) := by decide +kernel
theorem d_Rdr_assemble_14 : decode b_Rdr_assemble 14 = .ok (.istore_n 3, 1) := by decide +kernel
theorem d_Rdr_assemble_15 : decode b_Rdr_assemble 15 = .ok (.iconst 0, 1) := by decide +kernel
theorem d_Rdr_assemble_16 : decode b_Rdr_assemble 16 = .ok (.istore 4, 2) := by decide +kernel
theorem d_Rdr_assemble_18 : decode b_Rdr_assemble 18 = .ok (.iload 4, 2) := by decide +kernel
theorem d_Rdr_assemble_20 : decode b_Rdr_assemble 20 = .ok (.aload_n 0, 1) := by decide +kernel
theorem d_Rdr_assemble_21 : decode b_Rdr_assemble 21 = .ok (.getfield 15, 3) := by decide +kernel
theorem d_Rdr_assemble_24 : decode b_Rdr_assemble 24 = .ok (.invokevirtual 39, 3) := by decide +kernel
theorem d_Rdr_assemble_27 : decode b_Rdr_assemble 27 = .ok (.if_icmp .ge 118, 3) := by decide +kernel
theorem d_Rdr_assemble_30 : decode b_Rdr_assemble 30 = .ok (.iload_n 1, 1) := by decide +kernel
theorem d_Rdr_assemble_31 : decode b_Rdr_assemble 31 = .ok (.ifCond .ne 114, 3) := by decide +kernel
theorem d_Rdr_assemble_34 : decode b_Rdr_assemble 34 = .ok (.iload 4, 2) := by decide +kernel
theorem d_Rdr_assemble_36 : decode b_Rdr_assemble 36 = .ok (.iload_n 3, 1) := by decide +kernel
theorem d_Rdr_assemble_37 : decode b_Rdr_assemble 37 = .ok (.if_icmp .lt 102, 3) := by decide +kernel
theorem d_Rdr_assemble_40 : decode b_Rdr_assemble 40 = .ok (.aload_n 0, 1) := by decide +kernel
theorem d_Rdr_assemble_41 : decode b_Rdr_assemble 41 = .ok (.getfield 15, 3) := by decide +kernel
theorem d_Rdr_assemble_44 : decode b_Rdr_assemble 44 = .ok (.iload 4, 2) := by decide +kernel
theorem d_Rdr_assemble_46 : decode b_Rdr_assemble 46 = .ok (.invokevirtual 44, 3) := by decide +kernel
theorem d_Rdr_assemble_49 : decode b_Rdr_assemble 49 = .ok (.ifCond .eq 6, 3) := by decide +kernel
theorem d_Rdr_assemble_52 : decode b_Rdr_assemble 52 = .ok (.goto 87, 3) := by decide +kernel
theorem d_Rdr_assemble_55 : decode b_Rdr_assemble 55 = .ok (.aload_n 0, 1) := by decide +kernel
theorem d_Rdr_assemble_56 : decode b_Rdr_assemble 56 = .ok (.getfield 15, 3) := by decide +kernel
theorem d_Rdr_assemble_59 : decode b_Rdr_assemble 59 = .ok (.iload 4, 2) := by decide +kernel
theorem d_Rdr_assemble_61 : decode b_Rdr_assemble 61 = .ok (.invokevirtual 48, 3) := by decide +kernel
theorem d_Rdr_assemble_64 : decode b_Rdr_assemble 64 = .ok (.ifCond .eq 8, 3) := by decide +kernel
theorem d_Rdr_assemble_67 : decode b_Rdr_assemble 67 = .ok (.iconst 0, 1) := by decide +kernel
theorem d_Rdr_assemble_68 : decode b_Rdr_assemble 68 = .ok (.istore_n 2, 1) := by decide +kernel
theorem d_Rdr_assemble_69 : decode b_Rdr_assemble 69 = .ok (.goto 70, 3) := by decide +kernel
theorem d_Rdr_assemble_72 : decode b_Rdr_assemble 72 = .ok (.aload_n 0, 1) := by decide +kernel
theorem d_Rdr_assemble_73 : decode b_Rdr_assemble 73 = .ok (.getfield 15, 3) := by decide +kernel
theorem d_Rdr_assemble_76 : decode b_Rdr_assemble 76 = .ok (.iload 4, 2) := by decide +kernel
theorem d_Rdr_assemble_78 : decode b_Rdr_assemble 78 = .ok (.invokevirtual 51, 3) := by decide +kernel
theorem d_Rdr_assemble_81 : decode b_Rdr_assemble 81 = .ok (.ifCond .eq 16, 3) := by decide +kernel
theorem d_Rdr_assemble_84 : decode b_Rdr_assemble 84 = .ok (.aload_n 0, 1) := by decide +kernel
theorem d_Rdr_assemble_85 : decode b_Rdr_assemble 85 = .ok (.getfield 15, 3) := by decide +kernel
theorem d_Rdr_assemble_88 : decode b_Rdr_assemble 88 = .ok (.iload 4, 2) := by decide +kernel
theorem d_Rdr_assemble_90 : decode b_Rdr_assemble 90 = .ok (.invokevirtual 54, 3) := by decide +kernel
theorem d_Rdr_assemble_93 : decode b_Rdr_assemble 93 = .ok (.istore_n 3, 1) := by decide +kernel
theorem d_Rdr_assemble_94 : decode b_Rdr_assemble 94 = .ok (.goto 45, 3) := by decide +kernel
theorem d_Rdr_assemble_97 : decode b_Rdr_assemble 97 = .ok (.aload_n 0, 1) := by decide +kernel
theorem d_Rdr_assemble_98 : decode b_Rdr_assemble 98 = .ok (.getfield 15, 3) := by decide +kernel
theorem d_Rdr_assemble_101 : decode b_Rdr_assemble 101 = .ok (.iload 4, 2) := by decide +kernel
theorem d_Rdr_assemble_103 : decode b_Rdr_assemble 103 = .ok (.invokevirtual 58, 3) := by decide +kernel
theorem d_Rdr_assemble_106 : decode b_Rdr_assemble 106 = .ok (.istore_n 3, 1) := by decide +kernel
theorem d_Rdr_assemble_107 : decode b_Rdr_assemble 107 = .ok (.iload_n 2, 1) := by decide +kernel
theorem d_Rdr_assemble_108 : decode b_Rdr_assemble 108 = .ok (.ifCond .eq 7, 3) := by decide +kernel
theorem d_Rdr_assemble_111 : decode b_Rdr_assemble 111 = .ok (.iconst 1, 1) := by decide +kernel
theorem d_Rdr_assemble_112 : decode b_Rdr_assemble 112 = .ok (.goto 10, 3) := by decide +kernel
theorem d_Rdr_assemble_115 : decode b_Rdr_assemble 115 = .ok (.aload_n 0, 1) := by decide +kernel
theorem d_Rdr_assemble_116 : decode b_Rdr_assemble 116 = .ok (.iload 4, 2) := by decide +kernel
theorem d_Rdr_assemble_118 : decode b_Rdr_assemble 118 = .ok (.iload_n 3, 1) := by decide +kernel
theorem d_Rdr_assemble_119 : decode b_Rdr_assemble 119 = .ok (.invokevirtual 61, 3) := by decide +kernel
theorem d_Rdr_assemble_122 : decode b_Rdr_assemble 122 = .ok (.istore_n 1, 1) := by decide +kernel
theorem d_Rdr_assemble_123 : decode b_Rdr_assemble 123 = .ok (.aload_n 0, 1) := by decide +kernel
theorem d_Rdr_assemble_124 : decode b_Rdr_assemble 124 = .ok (.iload_n 1, 1) := by decide +kernel
theorem d_Rdr_assemble_125 : decode b_Rdr_assemble 125 = .ok (.ifCond .ne 7, 3) := by decide +kernel
theorem d_Rdr_assemble_128 : decode b_Rdr_assemble 128 = .ok (.iconst (-1), 1) := by decide +kernel
theorem d_Rdr_assemble_129 : decode b_Rdr_assemble 129 = .ok (.goto 5, 3) := by decide +kernel
theorem d_Rdr_assemble_132 : decode b_Rdr_assemble 132 = .ok (.iload 4, 2) := by decide +kernel
theorem d_Rdr_assemble_134 : decode b_Rdr_assemble 134 = .ok (.putfield 11, 3) := by decide +kernel
theorem d_Rdr_assemble_137 : decode b_Rdr_assemble 137 = .ok (.iconst 1, 1) := by decide +kernel
theorem d_Rdr_assemble_138 : decode b_Rdr_assemble 138 = .ok (.istore_n 2, 1) := by decide +kernel
theorem d_Rdr_assemble_139 : decode b_Rdr_assemble 139 = .ok (.iinc 4 1, 3) := by decide +kernel
theorem d_Rdr_assemble_142 : decode b_Rdr_assemble 142 = .ok (.goto (-124), 3) := by decide +kernel
theorem d_Rdr_assemble_145 : decode b_Rdr_assemble 145 = .ok (.iload_n 1, 1) := by decide +kernel
theorem d_Rdr_assemble_146 : decode b_Rdr_assemble 146 = .ok (.ifCond .ne 10, 3) := by decide +kernel
theorem d_Rdr_assemble_149 : decode b_Rdr_assemble 149 = .ok (.aload_n 0, 1) := by decide +kernel
theorem d_Rdr_assemble_150 : decode b_Rdr_assemble 150 = .ok (.invokevirtual 65, 3) := by decide +kernel
theorem d_Rdr_assemble_153 : decode b_Rdr_assemble 153 = .ok (.goto 7, 3) := by decide +kernel
theorem d_Rdr_assemble_156 : decode b_Rdr_assemble 156 = .ok (.aload_n 0, 1) := by decide +kernel
theorem d_Rdr_assemble_157 : decode b_Rdr_assemble 157 = .ok (.invokevirtual 36, 3) := by decide +kernel
theorem d_Rdr_assemble_160 : decode b_Rdr_assemble 160 = .ok (.iload_n 1, 1) := by decide +kernel
theorem d_Rdr_assemble_161 : decode b_Rdr_assemble 161 = .ok (.ireturn, 1) := by decide +kernel
theorem d_Rdr_forget_0 : decode b_Rdr_forget 0 = .ok (.aload_n 0, 1) := by decide +kernel
theorem d_Rdr_forget_1 : decode b_Rdr_forget 1 = .ok (.getfield 19, 3) := by decide +kernel
theorem d_Rdr_forget_4 : decode b_Rdr_forget 4 = .ok (.invokevirtual 68, 3) := by decide +kernel
theorem d_Rdr_forget_7 : decode b_Rdr_forget 7 = .ok (.aload_n 0, 1) := by decide +kernel
theorem d_Rdr_forget_8 : decode b_Rdr_forget 8 = .ok (.getfield 28, 3) := by decide +kernel
theorem d_Rdr_forget_11 : decode b_Rdr_forget 11 = .ok (.invokevirtual 73, 3) := by decide +kernel
theorem d_Rdr_forget_14 : decode b_Rdr_forget 14 = .ok (.return_, 1) := by decide +kernel
theorem d_Prg_clear_0 : decode b_Prg_clear 0 = .ok (.aload_n 0, 1) := by decide +kernel
theorem d_Prg_clear_1 : decode b_Prg_clear 1 = .ok (.iconst 0, 1) := by decide +kernel
theorem d_Prg_clear_2 : decode b_Prg_clear 2 = .ok (.putfield 13, 3) := by decide +kernel
theorem d_Prg_clear_5 : decode b_Prg_clear 5 = .ok (.return_, 1) := by decide +kernel
theorem d_Sym_clear_0 : decode b_Sym_clear 0 = .ok (.aload_n 0, 1) := by decide +kernel
theorem d_Sym_clear_1 : decode b_Sym_clear 1 = .ok (.iconst 0, 1) := by decide +kernel
theorem d_Sym_clear_2 : decode b_Sym_clear 2 = .ok (.putfield 23, 3) := by decide +kernel
theorem d_Sym_clear_5 : decode b_Sym_clear 5 = .ok (.return_, 1) := by decide +kernel
theorem d_Txt_size_0 : decode b_Txt_size 0 = .ok (.aload_n 0, 1) := by decide +kernel
theorem d_Txt_size_1 : decode b_Txt_size 1 = .ok (.getfield 13, 3) := by decide +kernel
theorem d_Txt_size_4 : decode b_Txt_size 4 = .ok (.ireturn, 1) := by decide +kernel
theorem d_Txt_isBlank_0 : decode b_Txt_isBlank 0 = .ok (.aload_n 0, 1) := by decide +kernel
theorem d_Txt_isBlank_1 : decode b_Txt_isBlank 1 = .ok (.iload_n 1, 1) := by decide +kernel
theorem d_Txt_isBlank_2 : decode b_Txt_isBlank 2 = .ok (.invokevirtual 17, 3) := by decide +kernel
theorem d_Txt_isBlank_5 : decode b_Txt_isBlank 5 = .ok (.istore_n 2, 1) := by decide +kernel
theorem d_Txt_isBlank_6 : decode b_Txt_isBlank 6 = .ok (.iload_n 2, 1) := by decide +kernel
theorem d_Txt_isBlank_7 : decode b_Txt_isBlank 7 = .ok (.bipush 9, 2) := by decide +kernel
theorem d_Txt_isBlank_9 : decode b_Txt_isBlank 9 = .ok (.if_icmp .eq 15, 3) := by decide +kernel
theorem d_Txt_isBlank_12 : decode b_Txt_isBlank 12 = .ok (.iload_n 2, 1) := by decide +kernel
theorem d_Txt_isBlank_13 : decode b_Txt_isBlank 13 = .ok (.bipush 13, 2) := by decide +kernel
theorem d_Txt_isBlank_15 : decode b_Txt_isBlank 15 = .ok (.if_icmp .eq 9, 3) := by decide +kernel
theorem d_Txt_isBlank_18 : decode b_Txt_isBlank 18 = .ok (.iload_n 2, 1) := by decide +kernel
theorem d_Txt_isBlank_19 : decode b_Txt_isBlank 19 = .ok (.bipush 32, 2) := by decide +kernel
theorem d_Txt_isBlank_21 : decode b_Txt_isBlank 21 = .ok (.if_icmp .ne 7, 3) := by decide +kernel
theorem d_Txt_isBlank_24 : decode b_Txt_isBlank 24 = .ok (.iconst 1, 1) := by decide +kernel
theorem d_Txt_isBlank_25 : decode b_Txt_isBlank 25 = .ok (.goto 4, 3) := by decide +kernel
theorem d_Txt_isBlank_28 : decode b_Txt_isBlank 28 = .ok (.iconst 0, 1) := by decide +kernel
theorem d_Txt_isBlank_29 : decode b_Txt_isBlank 29 = .ok (.ireturn, 1) := by decide +kernel
theorem d_Txt_byteAt_0 : decode b_Txt_byteAt 0 = .ok (.iload_n 1, 1) := by decide +kernel
theorem d_Txt_byteAt_1 : decode b_Txt_byteAt 1 = .ok (.ifCond .lt 24, 3) := by decide +kernel
theorem d_Txt_byteAt_4 : decode b_Txt_byteAt 4 = .ok (.iload_n 1, 1) := by decide +kernel
theorem d_Txt_byteAt_5 : decode b_Txt_byteAt 5 = .ok (.aload_n 0, 1) := by decide +kernel
theorem d_Txt_byteAt_6 : decode b_Txt_byteAt 6 = .ok (.getfield 13, 3) := by decide +kernel
theorem d_Txt_byteAt_9 : decode b_Txt_byteAt 9 = .ok (.if_icmp .ge 16, 3) := by decide +kernel
theorem d_Txt_byteAt_12 : decode b_Txt_byteAt 12 = .ok (.aload_n 0, 1) := by decide +kernel
theorem d_Txt_byteAt_13 : decode b_Txt_byteAt 13 = .ok (.getfield 9, 3) := by decide +kernel
theorem d_Txt_byteAt_16 : decode b_Txt_byteAt 16 = .ok (.iload_n 1, 1) := by decide +kernel
theorem d_Txt_byteAt_17 : decode b_Txt_byteAt 17 = .ok (.baload, 1) := by decide +kernel
theorem d_Txt_byteAt_18 : decode b_Txt_byteAt 18 = .ok (.sipush 255, 3) := by decide +kernel
theorem d_Txt_byteAt_21 : decode b_Txt_byteAt 21 = .ok (.iand, 1) := by decide +kernel
theorem d_Txt_byteAt_22 : decode b_Txt_byteAt 22 = .ok (.goto 5, 3) := by decide +kernel
theorem d_Txt_byteAt_25 : decode b_Txt_byteAt 25 = .ok (.bipush 10, 2) := by decide +kernel
theorem d_Txt_byteAt_27 : decode b_Txt_byteAt 27 = .ok (.ireturn, 1) := by decide +kernel
theorem d_Txt_isLineEnd_0 : decode b_Txt_isLineEnd 0 = .ok (.aload_n 0, 1) := by decide +kernel
theorem d_Txt_isLineEnd_1 : decode b_Txt_isLineEnd 1 = .ok (.iload_n 1, 1) := by decide +kernel
theorem d_Txt_isLineEnd_2 : decode b_Txt_isLineEnd 2 = .ok (.invokevirtual 17, 3) := by decide +kernel
theorem d_Txt_isLineEnd_5 : decode b_Txt_isLineEnd 5 = .ok (.bipush 10, 2) := by decide +kernel
theorem d_Txt_isLineEnd_7 : decode b_Txt_isLineEnd 7 = .ok (.if_icmp .ne 7, 3) := by decide +kernel
theorem d_Txt_isLineEnd_10 : decode b_Txt_isLineEnd 10 = .ok (.iconst 1, 1) := by decide +kernel
theorem d_Txt_isLineEnd_11 : decode b_Txt_isLineEnd 11 = .ok (.goto 4, 3) := by decide +kernel
theorem d_Txt_isLineEnd_14 : decode b_Txt_isLineEnd 14 = .ok (.iconst 0, 1) := by decide +kernel
theorem d_Txt_isLineEnd_15 : decode b_Txt_isLineEnd 15 = .ok (.ireturn, 1) := by decide +kernel
theorem d_Txt_isComment_0 : decode b_Txt_isComment 0 = .ok (.aload_n 0, 1) := by decide +kernel
theorem d_Txt_isComment_1 : decode b_Txt_isComment 1 = .ok (.iload_n 1, 1) := by decide +kernel
theorem d_Txt_isComment_2 : decode b_Txt_isComment 2 = .ok (.invokevirtual 17, 3) := by decide +kernel
theorem d_Txt_isComment_5 : decode b_Txt_isComment 5 = .ok (.bipush 47, 2) := by decide +kernel
theorem d_Txt_isComment_7 : decode b_Txt_isComment 7 = .ok (.if_icmp .ne 19, 3) := by decide +kernel
theorem d_Txt_isComment_10 : decode b_Txt_isComment 10 = .ok (.aload_n 0, 1) := by decide +kernel
theorem d_Txt_isComment_11 : decode b_Txt_isComment 11 = .ok (.iload_n 1, 1) := by decide +kernel
theorem d_Txt_isComment_12 : decode b_Txt_isComment 12 = .ok (.iconst 1, 1) := by decide +kernel
theorem d_Txt_isComment_13 : decode b_Txt_isComment 13 = .ok (.iadd, 1) := by decide +kernel
theorem d_Txt_isComment_14 : decode b_Txt_isComment 14 = .ok (.invokevirtual 17, 3) := by decide +kernel
theorem d_Txt_isComment_17 : decode b_Txt_isComment 17 = .ok (.bipush 47, 2) := by decide +kernel
theorem d_Txt_isComment_19 : decode b_Txt_isComment 19 = .ok (.if_icmp .ne 7, 3) := by decide +kernel
theorem d_Txt_isComment_22 : decode b_Txt_isComment 22 = .ok (.iconst 1, 1) := by decide +kernel
theorem d_Txt_isComment_23 : decode b_Txt_isComment 23 = .ok (.goto 4, 3) := by decide +kernel
theorem d_Txt_isComment_26 : decode b_Txt_isComment 26 = .ok (.iconst 0, 1) := by decide +kernel
theorem d_Txt_isComment_27 : decode b_Txt_isComment 27 = .ok (.ireturn, 1) := by decide +kernel
theorem d_Txt_endOfLine_0 : decode b_Txt_endOfLine 0 = .ok (.iload_n 1, 1) := by decide +kernel
theorem d_Txt_endOfLine_1 : decode b_Txt_endOfLine 1 = .ok (.istore_n 2, 1) := by decide +kernel
theorem d_Txt_endOfLine_2 : decode b_Txt_endOfLine 2 = .ok (.iload_n 2, 1) := by decide +kernel
theorem d_Txt_endOfLine_3 : decode b_Txt_endOfLine 3 = .ok (.aload_n 0, 1) := by decide +kernel
theorem d_Txt_endOfLine_4 : decode b_Txt_endOfLine 4 = .ok (.getfield 13, 3) := by decide +kernel
theorem d_Txt_endOfLine_7 : decode b_Txt_endOfLine 7 = .ok (.if_icmp .ge 19, 3) := by decide +kernel
theorem d_Txt_endOfLine_10 : decode b_Txt_endOfLine 10 = .ok (.aload_n 0, 1) := by decide +kernel
theorem d_Txt_endOfLine_11 : decode b_Txt_endOfLine 11 = .ok (.iload_n 2, 1) := by decide +kernel
theorem d_Txt_endOfLine_12 : decode b_Txt_endOfLine 12 = .ok (.invokevirtual 21, 3) := by decide +kernel
theorem d_Txt_endOfLine_15 : decode b_Txt_endOfLine 15 = .ok (.ifCond .eq 5, 3) := by decide +kernel
theorem d_Txt_endOfLine_18 : decode b_Txt_endOfLine 18 = .ok (.iload_n 2, 1) := by decide +kernel
theorem d_Txt_endOfLine_19 : decode b_Txt_endOfLine 19 = .ok (.ireturn, 1) := by decide +kernel
theorem d_Txt_endOfLine_20 : decode b_Txt_endOfLine 20 = .ok (.iinc 2 1, 3) := by decide +kernel
theorem d_Txt_endOfLine_23 : decode b_Txt_endOfLine 23 = .ok (.goto (-21), 3) := by decide +kernel
theorem d_Txt_endOfLine_26 : decode b_Txt_endOfLine 26 = .ok (.aload_n 0, 1) := by decide +kernel
theorem d_Txt_endOfLine_27 : decode b_Txt_endOfLine 27 = .ok (.getfield 13, 3) := by decide +kernel
theorem d_Txt_endOfLine_30 : decode b_Txt_endOfLine 30 = .ok (.ireturn, 1) := by decide +kernel
theorem d_Txt_endOfInstruction_0 : decode b_Txt_endOfInstruction 0 = .ok (.iload_n 1, 1) := by decide +kernel
theorem d_Txt_endOfInstruction_1 : decode b_Txt_endOfInstruction 1 = .ok (.istore_n 2, 1) := by decide +kernel
theorem d_Txt_endOfInstruction_2 : decode b_Txt_endOfInstruction 2 = .ok (.iload_n 2, 1) := by decide +kernel
theorem d_Txt_endOfInstruction_3 : decode b_Txt_endOfInstruction 3 = .ok (.aload_n 0, 1) := by decide +kernel
theorem d_Txt_endOfInstruction_4 : decode b_Txt_endOfInstruction 4 = .ok (.getfield 13, 3) := by decide +kernel
theorem d_Txt_endOfInstruction_7 : decode b_Txt_endOfInstruction 7 = .ok (.if_icmp .ge 35, 3) := by decide +kernel
theorem d_Txt_endOfInstruction_10 : decode b_Txt_endOfInstruction 10 = .ok (.aload_n 0, 1) := by decide +kernel
theorem d_Txt_endOfInstruction_11 : decode b_Txt_endOfInstruction 11 = .ok (.iload_n 2, 1) := by decide +kernel
theorem d_Txt_endOfInstruction_12 : decode b_Txt_endOfInstruction 12 = .ok (.invokevirtual 21, 3) := by decide +kernel
theorem d_Txt_endOfInstruction_15 : decode b_Txt_endOfInstruction 15 = .ok (.ifCond .ne 19, 3) := by decide +kernel
theorem d_Txt_endOfInstruction_18 : decode b_Txt_endOfInstruction 18 = .ok (.aload_n 0, 1) := by decide +kernel
theorem d_Txt_endOfInstruction_19 : decode b_Txt_endOfInstruction 19 = .ok (.iload_n 2, 1) := by decide +kernel
theorem d_Txt_endOfInstruction_20 : decode b_Txt_endOfInstruction 20 = .ok (.invokevirtual 25, 3) := by decide +kernel
theorem d_Txt_endOfInstruction_23 : decode b_Txt_endOfInstruction 23 = .ok (.ifCond .ne 11, 3) := by decide +kernel
theorem d_Txt_endOfInstruction_26 : decode b_Txt_endOfInstruction 26 = .ok (.aload_n 0, 1) := by decide +kernel
theorem d_Txt_endOfInstruction_27 : decode b_Txt_endOfInstruction 27 = .ok (.iload_n 2, 1) := by decide +kernel
theorem d_Txt_endOfInstruction_28 : decode b_Txt_endOfInstruction 28 = .ok (.invokevirtual 28, 3) := by decide +kernel
theorem d_Txt_endOfInstruction_31 : decode b_Txt_endOfInstruction 31 = .ok (.ifCond .eq 5, 3) := by decide +kernel
theorem d_Txt_endOfInstruction_34 : decode b_Txt_endOfInstruction 34 = .ok (.iload_n 2, 1) := by decide +kernel
theorem d_Txt_endOfInstruction_35 : decode b_Txt_endOfInstruction 35 = .ok (.ireturn, 1) := by decide +kernel
theorem d_Txt_endOfInstruction_36 : decode b_Txt_endOfInstruction 36 = .ok (.iinc 2 1, 3) := by decide +kernel
theorem d_Txt_endOfInstruction_39 : decode b_Txt_endOfInstruction 39 = .ok (.goto (-37), 3) := by decide +kernel
theorem d_Txt_endOfInstruction_42 : decode b_Txt_endOfInstruction 42 = .ok (.aload_n 0, 1) := by decide +kernel
theorem d_Txt_endOfInstruction_43 : decode b_Txt_endOfInstruction 43 = .ok (.getfield 13, 3) := by decide +kernel
theorem d_Txt_endOfInstruction_46 : decode b_Txt_endOfInstruction 46 = .ok (.ireturn, 1) := by decide +kernel
theorem d_Rdr_take_0 : decode b_Rdr_take 0 = .ok (.aload_n 0, 1) := by decide +kernel
theorem d_Rdr_take_1 : decode b_Rdr_take 1 = .ok (.getfield 15, 3) := by decide +kernel
theorem d_Rdr_take_4 : decode b_Rdr_take 4 = .ok (.iload_n 1, 1) := by decide +kernel
theorem d_Rdr_take_5 : decode b_Rdr_take 5 = .ok (.invokevirtual 74, 3) := by decide +kernel
theorem d_Rdr_take_8 : decode b_Rdr_take 8 = .ok (.istore_n 3, 1) := by decide +kernel
theorem d_Rdr_take_9 : decode b_Rdr_take 9 = .ok (.iload_n 3, 1) := by decide +kernel
theorem d_Rdr_take_10 : decode b_Rdr_take 10 = .ok (.bipush 64, 2) := by decide +kernel
theorem d_Rdr_take_12 : decode b_Rdr_take 12 = .ok (.if_icmp .ne 12, 3) := by decide +kernel
theorem d_Rdr_take_15 : decode b_Rdr_take 15 = .ok (.aload_n 0, 1) := by decide +kernel
theorem d_Rdr_take_16 : decode b_Rdr_take 16 = .ok (.iload_n 1, 1) := by decide +kernel
theorem d_Rdr_take_17 : decode b_Rdr_take 17 = .ok (.iconst 1, 1) := by decide +kernel
theorem d_Rdr_take_18 : decode b_Rdr_take 18 = .ok (.iadd, 1) := by decide +kernel
theorem d_Rdr_take_19 : decode b_Rdr_take 19 = .ok (.iload_n 2, 1) := by decide +kernel
theorem d_Rdr_take_20 : decode b_Rdr_take 20 = .ok (.invokevirtual 77, 3) := by decide +kernel
theorem d_Rdr_take_23 : decode b_Rdr_take 23 = .ok (.ireturn, 1) := by decide +kernel
theorem d_Rdr_take_24 : decode b_Rdr_take 24 = .ok (.iload_n 3, 1) := by decide +kernel
theorem d_Rdr_take_25 : decode b_Rdr_take 25 = .ok (.bipush 40, 2) := by decide +kernel
theorem d_Rdr_take_27 : decode b_Rdr_take 27 = .ok (.if_icmp .ne 14, 3) := by decide +kernel
theorem d_Rdr_take_30 : decode b_Rdr_take 30 = .ok (.aload_n 0, 1) := by decide +kernel
theorem d_Rdr_take_31 : decode b_Rdr_take 31 = .ok (.iload_n 1, 1) := by decide +kernel
theorem d_Rdr_take_32 : decode b_Rdr_take 32 = .ok (.iconst 1, 1) := by decide +kernel
theorem d_Rdr_take_33 : decode b_Rdr_take 33 = .ok (.iadd, 1) := by decide +kernel
theorem d_Rdr_take_34 : decode b_Rdr_take 34 = .ok (.iload_n 2, 1) := by decide +kernel
theorem d_Rdr_take_35 : decode b_Rdr_take 35 = .ok (.iconst 1, 1) := by decide +kernel
theorem d_Rdr_take_36 : decode b_Rdr_take 36 = .ok (.isub, 1) := by decide +kernel
theorem d_Rdr_take_37 : decode b_Rdr_take 37 = .ok (.invokevirtual 80, 3) := by decide +kernel
theorem d_Rdr_take_40 : decode b_Rdr_take 40 = .ok (.ireturn, 1) := by decide +kernel
theorem d_Rdr_take_41 : decode b_Rdr_take 41 = .ok (.aload_n 0, 1) := by decide +kernel
theorem d_Rdr_take_42 : decode b_Rdr_take 42 = .ok (.iload_n 1, 1) := by decide +kernel
theorem d_Rdr_take_43 : decode b_Rdr_take 43 = .ok (.iload_n 2, 1) := by decide +kernel
theorem d_Rdr_take_44 : decode b_Rdr_take 44 = .ok (.invokevirtual 83, 3) := by decide +kernel
theorem d_Rdr_take_47 : decode b_Rdr_take 47 = .ok (.ireturn, 1) := by decide +kernel
theorem d_Rdr_takeAddress_0 : decode b_Rdr_takeAddress 0 = .ok (.aload_n 0, 1) := by decide +kernel
theorem d_Rdr_takeAddress_1 : decode b_Rdr_takeAddress 1 = .ok (.getfield 15, 3) := by decide +kernel
theorem d_Rdr_takeAddress_4 : decode b_Rdr_takeAddress 4 = .ok (.iload_n 1, 1) := by decide +kernel
theorem d_Rdr_takeAddress_5 : decode b_Rdr_takeAddress 5 = .ok (.iload_n 2, 1) := by decide +kernel
theorem d_Rdr_takeAddress_6 : decode b_Rdr_takeAddress 6 = .ok (.invokevirtual 86, 3) := by decide +kernel
theorem d_Rdr_takeAddress_9 : decode b_Rdr_takeAddress 9 = .ok (.istore_n 3, 1) := by decide +kernel
theorem d_Rdr_takeAddress_10 : decode b_Rdr_takeAddress 10 = .ok (.iload_n 3, 1) := by decide +kernel
theorem d_Rdr_takeAddress_11 : decode b_Rdr_takeAddress 11 = .ok (.ifCond .eq 12, 3) := by decide +kernel
theorem d_Rdr_takeAddress_14 : decode b_Rdr_takeAddress 14 = .ok (.aload_n 0, 1) := by decide +kernel
theorem d_Rdr_takeAddress_15 : decode b_Rdr_takeAddress 15 = .ok (.iload_n 1, 1) := by decide +kernel
theorem d_Rdr_takeAddress_16 : decode b_Rdr_takeAddress 16 = .ok (.iload_n 2, 1) := by decide +kernel
theorem d_Rdr_takeAddress_17 : decode b_Rdr_takeAddress 17 = .ok (.invokevirtual 90, 3) := by decide +kernel
theorem d_Rdr_takeAddress_20 : decode b_Rdr_takeAddress 20 = .ok (.goto 12, 3) := by decide +kernel
theorem d_Rdr_takeAddress_23 : decode b_Rdr_takeAddress 23 = .ok (.aload_n 0, 1) := by decide +kernel
theorem d_Rdr_takeAddress_24 : decode b_Rdr_takeAddress 24 = .ok (.getfield 15, 3) := by decide +kernel
theorem d_Rdr_takeAddress_27 : decode b_Rdr_takeAddress 27 = .ok (.iload_n 1, 1) := by decide +kernel
theorem d_Rdr_takeAddress_28 : decode b_Rdr_takeAddress 28 = .ok (.iload_n 2, 1) := by decide +kernel
theorem d_Rdr_takeAddress_29 : decode b_Rdr_takeAddress 29 = .ok (.invokevirtual 93, 3) := by decide +kernel
theorem d_Rdr_takeAddress_32 : decode b_Rdr_takeAddress 32 = .ok (.istore 4, 2) := by decide +kernel
theorem d_Rdr_takeAddress_34 : decode b_Rdr_takeAddress 34 = .ok (.iload_n 3, 1) := by decide +kernel
theorem d_Rdr_takeAddress_35 : decode b_Rdr_takeAddress 35 = .ok (.ifCond .ne 10, 3) := by decide +kernel
theorem d_Rdr_takeAddress_38 : decode b_Rdr_takeAddress 38 = .ok (.iload 4, 2) := by decide +kernel
theorem d_Rdr_takeAddress_40 : decode b_Rdr_takeAddress 40 = .ok (.ifCond .ge 5, 3) := by decide +kernel
theorem d_Rdr_takeAddress_43 : decode b_Rdr_takeAddress 43 = .ok (.iconst 1, 1) := by decide +kernel
theorem d_Rdr_takeAddress_44 : decode b_Rdr_takeAddress 44 = .ok (.ireturn, 1) := by decide +kernel
theorem d_Rdr_takeAddress_45 : decode b_Rdr_takeAddress 45 = .ok (.aload_n 0, 1) := by decide +kernel
theorem d_Rdr_takeAddress_46 : decode b_Rdr_takeAddress 46 = .ok (.getfield 19, 3) := by decide +kernel
theorem d_Rdr_takeAddress_49 : decode b_Rdr_takeAddress 49 = .ok (.invokevirtual 96, 3) := by decide +kernel
theorem d_Rdr_takeAddress_52 : decode b_Rdr_takeAddress 52 = .ok (.ifCond .eq 5, 3) := by decide +kernel
theorem d_Rdr_takeAddress_55 : decode b_Rdr_takeAddress 55 = .ok (.iconst 2, 1) := by decide +kernel
theorem d_Rdr_takeAddress_56 : decode b_Rdr_takeAddress 56 = .ok (.ireturn, 1) := by decide +kernel
theorem d_Rdr_takeAddress_57 : decode b_Rdr_takeAddress 57 = .ok (.iload 4, 2) := by decide +kernel
theorem d_Rdr_takeAddress_59 : decode b_Rdr_takeAddress 59 = .ok (.ifCond .ge 28, 3) := by decide +kernel
theorem d_Rdr_takeAddress_62 : decode b_Rdr_takeAddress 62 = .ok (.aload_n 0, 1) := by decide +kernel
theorem d_Rdr_takeAddress_63 : decode b_Rdr_takeAddress 63 = .ok (.getfield 28, 3) := by decide +kernel
theorem d_Rdr_takeAddress_66 : decode b_Rdr_takeAddress 66 = .ok (.iload_n 1, 1) := by decide +kernel
theorem d_Rdr_takeAddress_67 : decode b_Rdr_takeAddress 67 = .ok (.iload_n 2, 1) := by decide +kernel
theorem d_Rdr_takeAddress_68 : decode b_Rdr_takeAddress 68 = .ok (.invokevirtual 100, 3) := by decide +kernel
theorem d_Rdr_takeAddress_71 : decode b_Rdr_takeAddress 71 = .ok (.istore 5, 2) := by decide +kernel
theorem d_Rdr_takeAddress_73 : decode b_Rdr_takeAddress 73 = .ok (.iload 5, 2) := by decide +kernel
theorem d_Rdr_takeAddress_75 : decode b_Rdr_takeAddress 75 = .ok (.ifCond .ge 5, 3) := by decide +kernel
theorem d_Rdr_takeAddress_78 : decode b_Rdr_takeAddress 78 = .ok (.iconst 2, 1) := by decide +kernel
theorem d_Rdr_takeAddress_79 : decode b_Rdr_takeAddress 79 = .ok (.ireturn, 1) := by decide +kernel
theorem d_Rdr_takeAddress_80 : decode b_Rdr_takeAddress 80 = .ok (.ldc 103, 2) := by decide +kernel
theorem d_Rdr_takeAddress_82 : decode b_Rdr_takeAddress 82 = .ok (.iload 5, 2) := by decide +kernel
theorem d_Rdr_takeAddress_84 : decode b_Rdr_takeAddress 84 = .ok (.iadd, 1) := by decide +kernel
theorem d_Rdr_takeAddress_85 : decode b_Rdr_takeAddress 85 = .ok (.istore 4, 2) := by decide +kernel
theorem d_Rdr_takeAddress_87 : decode b_Rdr_takeAddress 87 = .ok (.aload_n 0, 1) := by decide +kernel
theorem d_Rdr_takeAddress_88 : decode b_Rdr_takeAddress 88 = .ok (.getfield 19, 3) := by decide +kernel
theorem d_Rdr_takeAddress_91 : decode b_Rdr_takeAddress 91 = .ok (.iload 4, 2) := by decide +kernel
theorem d_Rdr_takeAddress_93 : decode b_Rdr_takeAddress 93 = .ok (.invokevirtual 104, 3) := by decide +kernel
theorem d_Rdr_takeAddress_96 : decode b_Rdr_takeAddress 96 = .ok (.iconst 0, 1) := by decide +kernel
theorem d_Rdr_takeAddress_97 : decode b_Rdr_takeAddress 97 = .ok (.ireturn, 1) := by decide +kernel
theorem d_Txt_isSymbol_0 : decode b_Txt_isSymbol 0 = .ok (.iload_n 2, 1) := by decide +kernel
theorem d_Txt_isSymbol_1 : decode b_Txt_isSymbol 1 = .ok (.iload_n 1, 1) := by decide +kernel
theorem d_Txt_isSymbol_2 : decode b_Txt_isSymbol 2 = .ok (.isub, 1) := by decide +kernel
theorem d_Txt_isSymbol_3 : decode b_Txt_isSymbol 3 = .ok (.iconst 1, 1) := by decide +kernel
end
section
/-! decode rows -/
theorem d_Txt_isSymbol_4 : decode b_Txt_isSymbol 4 = .ok (.if_icmp .lt 22, 3) := by decide +kernel
theorem d_Txt_isSymbol_7 : decode b_Txt_isSymbol 7 = .ok (.iload_n 2, 1) := by decide +kernel
theorem d_Txt_isSymbol_8 : decode b_Txt_isSymbol 8 = .ok (.iload_n 1, 1) := by decide +kernel
theorem d_Txt_isSymbol_9 : decode b_Txt_isSymbol 9 = .ok (.isub, 1) := by decide +kernel
theorem d_Txt_isSymbol_10 : decode b_Txt_isSymbol 10 = .ok (.bipush 16, 2) := by decide +kernel
theorem d_Txt_isSymbol_12 : decode b_Txt_isSymbol 12 = .ok (.if_icmp .gt 14, 3) := by decide +kernel
theorem d_Txt_isSymbol_15 : decode b_Txt_isSymbol 15 = .ok (.aload_n 0, 1) := by decide +kernel
theorem d_Txt_isSymbol_16 : decode b_Txt_isSymbol 16 = .ok (.iload_n 1, 1) := by decide +kernel
theorem d_Txt_isSymbol_17 : decode b_Txt_isSymbol 17 = .ok (.invokevirtual 17, 3) := by decide +kernel
theorem d_Txt_isSymbol_20 : decode b_Txt_isSymbol 20 = .ok (.invokestatic 31, 3) := by decide +kernel
theorem d_Txt_isSymbol_23 : decode b_Txt_isSymbol 23 = .ok (.ifCond .eq 5, 3) := by decide +kernel
theorem d_Txt_isSymbol_26 : decode b_Txt_isSymbol 26 = .ok (.iconst 0, 1) := by decide +kernel
theorem d_Txt_isSymbol_27 : decode b_Txt_isSymbol 27 = .ok (.ireturn, 1) := by decide +kernel
theorem d_Txt_isSymbol_28 : decode b_Txt_isSymbol 28 = .ok (.iload_n 1, 1) := by decide +kernel
theorem d_Txt_isSymbol_29 : decode b_Txt_isSymbol 29 = .ok (.istore_n 3, 1) := by decide +kernel
theorem d_Txt_isSymbol_30 : decode b_Txt_isSymbol 30 = .ok (.iload_n 3, 1) := by decide +kernel
theorem d_Txt_isSymbol_31 : decode b_Txt_isSymbol 31 = .ok (.iload_n 2, 1) := by decide +kernel
theorem d_Txt_isSymbol_32 : decode b_Txt_isSymbol 32 = .ok (.if_icmp .ge 22, 3) := by decide +kernel
theorem d_Txt_isSymbol_35 : decode b_Txt_isSymbol 35 = .ok (.aload_n 0, 1) := by decide +kernel
theorem d_Txt_isSymbol_36 : decode b_Txt_isSymbol 36 = .ok (.iload_n 3, 1) := by decide +kernel
theorem d_Txt_isSymbol_37 : decode b_Txt_isSymbol 37 = .ok (.invokevirtual 17, 3) := by decide +kernel
theorem d_Txt_isSymbol_40 : decode b_Txt_isSymbol 40 = .ok (.invokestatic 34, 3) := by decide +kernel
theorem d_Txt_isSymbol_43 : decode b_Txt_isSymbol 43 = .ok (.ifCond .ne 5, 3) := by decide +kernel
theorem d_Txt_isSymbol_46 : decode b_Txt_isSymbol 46 = .ok (.iconst 0, 1) := by decide +kernel
theorem d_Txt_isSymbol_47 : decode b_Txt_isSymbol 47 = .ok (.ireturn, 1) := by decide +kernel
theorem d_Txt_isSymbol_48 : decode b_Txt_isSymbol 48 = .ok (.iinc 3 1, 3) := by decide +kernel
theorem d_Txt_isSymbol_51 : decode b_Txt_isSymbol 51 = .ok (.goto (-21), 3) := by decide +kernel
theorem d_Txt_isSymbol_54 : decode b_Txt_isSymbol 54 = .ok (.iconst 1, 1) := by decide +kernel
theorem d_Txt_isSymbol_55 : decode b_Txt_isSymbol 55 = .ok (.ireturn, 1) := by decide +kernel
theorem d_Txt_isDigit_0 : decode b_Txt_isDigit 0 = .ok (.iload_n 0, 1) := by decide +kernel
theorem d_Txt_isDigit_1 : decode b_Txt_isDigit 1 = .ok (.bipush 48, 2) := by decide +kernel
theorem d_Txt_isDigit_3 : decode b_Txt_isDigit 3 = .ok (.if_icmp .lt 13, 3) := by decide +kernel
theorem d_Txt_isDigit_6 : decode b_Txt_isDigit 6 = .ok (.iload_n 0, 1) := by decide +kernel
theorem d_Txt_isDigit_7 : decode b_Txt_isDigit 7 = .ok (.bipush 57, 2) := by decide +kernel
theorem d_Txt_isDigit_9 : decode b_Txt_isDigit 9 = .ok (.if_icmp .gt 7, 3) := by decide +kernel
theorem d_Txt_isDigit_12 : decode b_Txt_isDigit 12 = .ok (.iconst 1, 1) := by decide +kernel
theorem d_Txt_isDigit_13 : decode b_Txt_isDigit 13 = .ok (.goto 4, 3) := by decide +kernel
theorem d_Txt_isDigit_16 : decode b_Txt_isDigit 16 = .ok (.iconst 0, 1) := by decide +kernel
theorem d_Txt_isDigit_17 : decode b_Txt_isDigit 17 = .ok (.ireturn, 1) := by decide +kernel
theorem d_Txt_isSymbolSign_0 : decode b_Txt_isSymbolSign 0 = .ok (.iload_n 0, 1) := by decide +kernel
theorem d_Txt_isSymbolSign_1 : decode b_Txt_isSymbolSign 1 = .ok (.bipush 65, 2) := by decide +kernel
theorem d_Txt_isSymbolSign_3 : decode b_Txt_isSymbolSign 3 = .ok (.if_icmp .lt 9, 3) := by decide +kernel
theorem d_Txt_isSymbolSign_6 : decode b_Txt_isSymbolSign 6 = .ok (.iload_n 0, 1) := by decide +kernel
theorem d_Txt_isSymbolSign_7 : decode b_Txt_isSymbolSign 7 = .ok (.bipush 90, 2) := by decide +kernel
theorem d_Txt_isSymbolSign_9 : decode b_Txt_isSymbolSign 9 = .ok (.if_icmp .le 46, 3) := by decide +kernel
theorem d_Txt_isSymbolSign_12 : decode b_Txt_isSymbolSign 12 = .ok (.iload_n 0, 1) := by decide +kernel
theorem d_Txt_isSymbolSign_13 : decode b_Txt_isSymbolSign 13 = .ok (.bipush 97, 2) := by decide +kernel
theorem d_Txt_isSymbolSign_15 : decode b_Txt_isSymbolSign 15 = .ok (.if_icmp .lt 9, 3) := by decide +kernel
theorem d_Txt_isSymbolSign_18 : decode b_Txt_isSymbolSign 18 = .ok (.iload_n 0, 1) := by decide +kernel
theorem d_Txt_isSymbolSign_19 : decode b_Txt_isSymbolSign 19 = .ok (.bipush 122, 2) := by decide +kernel
theorem d_Txt_isSymbolSign_21 : decode b_Txt_isSymbolSign 21 = .ok (.if_icmp .le 34, 3) := by decide +kernel
theorem d_Txt_isSymbolSign_24 : decode b_Txt_isSymbolSign 24 = .ok (.iload_n 0, 1) := by decide +kernel
theorem d_Txt_isSymbolSign_25 : decode b_Txt_isSymbolSign 25 = .ok (.invokestatic 31, 3) := by decide +kernel
theorem d_Txt_isSymbolSign_28 : decode b_Txt_isSymbolSign 28 = .ok (.ifCond .ne 27, 3) := by decide +kernel
theorem d_Txt_isSymbolSign_31 : decode b_Txt_isSymbolSign 31 = .ok (.iload_n 0, 1) := by decide +kernel
theorem d_Txt_isSymbolSign_32 : decode b_Txt_isSymbolSign 32 = .ok (.bipush 95, 2) := by decide +kernel
theorem d_Txt_isSymbolSign_34 : decode b_Txt_isSymbolSign 34 = .ok (.if_icmp .eq 21, 3) := by decide +kernel
theorem d_Txt_isSymbolSign_37 : decode b_Txt_isSymbolSign 37 = .ok (.iload_n 0, 1) := by decide +kernel
theorem d_Txt_isSymbolSign_38 : decode b_Txt_isSymbolSign 38 = .ok (.bipush 46, 2) := by decide +kernel
theorem d_Txt_isSymbolSign_40 : decode b_Txt_isSymbolSign 40 = .ok (.if_icmp .eq 15, 3) := by decide +kernel
theorem d_Txt_isSymbolSign_43 : decode b_Txt_isSymbolSign 43 = .ok (.iload_n 0, 1) := by decide +kernel
theorem d_Txt_isSymbolSign_44 : decode b_Txt_isSymbolSign 44 = .ok (.bipush 36, 2) := by decide +kernel
theorem d_Txt_isSymbolSign_46 : decode b_Txt_isSymbolSign 46 = .ok (.if_icmp .eq 9, 3) := by decide +kernel
theorem d_Txt_isSymbolSign_49 : decode b_Txt_isSymbolSign 49 = .ok (.iload_n 0, 1) := by decide +kernel
theorem d_Txt_isSymbolSign_50 : decode b_Txt_isSymbolSign 50 = .ok (.bipush 58, 2) := by decide +kernel
theorem d_Txt_isSymbolSign_52 : decode b_Txt_isSymbolSign 52 = .ok (.if_icmp .ne 7, 3) := by decide +kernel
theorem d_Txt_isSymbolSign_55 : decode b_Txt_isSymbolSign 55 = .ok (.iconst 1, 1) := by decide +kernel
theorem d_Txt_isSymbolSign_56 : decode b_Txt_isSymbolSign 56 = .ok (.goto 4, 3) := by decide +kernel
theorem d_Txt_isSymbolSign_59 : decode b_Txt_isSymbolSign 59 = .ok (.iconst 0, 1) := by decide +kernel
theorem d_Txt_isSymbolSign_60 : decode b_Txt_isSymbolSign 60 = .ok (.ireturn, 1) := by decide +kernel
theorem d_Rdr_knownNumber_0 : decode b_Rdr_knownNumber 0 = .ok (.getstatic 143, 3) := by decide +kernel
theorem d_Rdr_knownNumber_3 : decode b_Rdr_knownNumber 3 = .ok (.aload_n 0, 1) := by decide +kernel
theorem d_Rdr_knownNumber_4 : decode b_Rdr_knownNumber 4 = .ok (.getfield 15, 3) := by decide +kernel
theorem d_Rdr_knownNumber_7 : decode b_Rdr_knownNumber 7 = .ok (.ldc 146, 2) := by decide +kernel
theorem d_Rdr_knownNumber_9 : decode b_Rdr_knownNumber 9 = .ok (.iload_n 1, 1) := by decide +kernel
theorem d_Rdr_knownNumber_10 : decode b_Rdr_knownNumber 10 = .ok (.iload_n 2, 1) := by decide +kernel
theorem d_Rdr_knownNumber_11 : decode b_Rdr_knownNumber 11 = .ok (.invokevirtual 118, 3) := by decide +kernel
theorem d_Rdr_knownNumber_14 : decode b_Rdr_knownNumber 14 = .ok (.invokestatic 134, 3) := by decide +kernel
theorem d_Rdr_knownNumber_17 : decode b_Rdr_knownNumber 17 = .ok (.ireturn, 1) := by decide +kernel
theorem d_Txt_nameAmong_0 : decode b_Txt_nameAmong 0 = .ok (.iconst 0, 1) := by decide +kernel
theorem d_Txt_nameAmong_1 : decode b_Txt_nameAmong 1 = .ok (.istore 4, 2) := by decide +kernel
theorem d_Txt_nameAmong_3 : decode b_Txt_nameAmong 3 = .ok (.iconst 0, 1) := by decide +kernel
theorem d_Txt_nameAmong_4 : decode b_Txt_nameAmong 4 = .ok (.istore 5, 2) := by decide +kernel
theorem d_Txt_nameAmong_6 : decode b_Txt_nameAmong 6 = .ok (.iconst 1, 1) := by decide +kernel
theorem d_Txt_nameAmong_7 : decode b_Txt_nameAmong 7 = .ok (.istore 6, 2) := by decide +kernel
theorem d_Txt_nameAmong_9 : decode b_Txt_nameAmong 9 = .ok (.iconst 0, 1) := by decide +kernel
theorem d_Txt_nameAmong_10 : decode b_Txt_nameAmong 10 = .ok (.istore 7, 2) := by decide +kernel
theorem d_Txt_nameAmong_12 : decode b_Txt_nameAmong 12 = .ok (.iload 7, 2) := by decide +kernel
theorem d_Txt_nameAmong_14 : decode b_Txt_nameAmong 14 = .ok (.aload_n 1, 1) := by decide +kernel
theorem d_Txt_nameAmong_15 : decode b_Txt_nameAmong 15 = .ok (.invokevirtual 37, 3) := by decide +kernel
theorem d_Txt_nameAmong_18 : decode b_Txt_nameAmong 18 = .ok (.if_icmp .gt 86, 3) := by decide +kernel
theorem d_Txt_nameAmong_21 : decode b_Txt_nameAmong 21 = .ok (.iload 7, 2) := by decide +kernel
theorem d_Txt_nameAmong_23 : decode b_Txt_nameAmong 23 = .ok (.aload_n 1, 1) := by decide +kernel
theorem d_Txt_nameAmong_24 : decode b_Txt_nameAmong 24 = .ok (.invokevirtual 37, 3) := by decide +kernel
theorem d_Txt_nameAmong_27 : decode b_Txt_nameAmong 27 = .ok (.if_icmp .eq 14, 3) := by decide +kernel
theorem d_Txt_nameAmong_30 : decode b_Txt_nameAmong 30 = .ok (.aload_n 1, 1) := by decide +kernel
theorem d_Txt_nameAmong_31 : decode b_Txt_nameAmong 31 = .ok (.iload 7, 2) := by decide +kernel
theorem d_Txt_nameAmong_33 : decode b_Txt_nameAmong 33 = .ok (.invokevirtual 43, 3) := by decide +kernel
theorem d_Txt_nameAmong_36 : decode b_Txt_nameAmong 36 = .ok (.bipush 32, 2) := by decide +kernel
theorem d_Txt_nameAmong_38 : decode b_Txt_nameAmong 38 = .ok (.if_icmp .ne 37, 3) := by decide +kernel
theorem d_Txt_nameAmong_41 : decode b_Txt_nameAmong 41 = .ok (.iload 6, 2) := by decide +kernel
theorem d_Txt_nameAmong_43 : decode b_Txt_nameAmong 43 = .ok (.ifCond .eq 17, 3) := by decide +kernel
theorem d_Txt_nameAmong_46 : decode b_Txt_nameAmong 46 = .ok (.iload 7, 2) := by decide +kernel
theorem d_Txt_nameAmong_48 : decode b_Txt_nameAmong 48 = .ok (.iload 5, 2) := by decide +kernel
theorem d_Txt_nameAmong_50 : decode b_Txt_nameAmong 50 = .ok (.isub, 1) := by decide +kernel
theorem d_Txt_nameAmong_51 : decode b_Txt_nameAmong 51 = .ok (.iload_n 3, 1) := by decide +kernel
theorem d_Txt_nameAmong_52 : decode b_Txt_nameAmong 52 = .ok (.iload_n 2, 1) := by decide +kernel
theorem d_Txt_nameAmong_53 : decode b_Txt_nameAmong 53 = .ok (.isub, 1) := by decide +kernel
theorem d_Txt_nameAmong_54 : decode b_Txt_nameAmong 54 = .ok (.if_icmp .ne 6, 3) := by decide +kernel
theorem d_Txt_nameAmong_57 : decode b_Txt_nameAmong 57 = .ok (.iload 4, 2) := by decide +kernel
theorem d_Txt_nameAmong_59 : decode b_Txt_nameAmong 59 = .ok (.ireturn, 1) := by decide +kernel
theorem d_Txt_nameAmong_60 : decode b_Txt_nameAmong 60 = .ok (.iinc 4 1, 3) := by decide +kernel
theorem d_Txt_nameAmong_63 : decode b_Txt_nameAmong 63 = .ok (.iload 7, 2) := by decide +kernel
theorem d_Txt_nameAmong_65 : decode b_Txt_nameAmong 65 = .ok (.iconst 1, 1) := by decide +kernel
theorem d_Txt_nameAmong_66 : decode b_Txt_nameAmong 66 = .ok (.iadd, 1) := by decide +kernel
theorem d_Txt_nameAmong_67 : decode b_Txt_nameAmong 67 = .ok (.istore 5, 2) := by decide +kernel
theorem d_Txt_nameAmong_69 : decode b_Txt_nameAmong 69 = .ok (.iconst 1, 1) := by decide +kernel
theorem d_Txt_nameAmong_70 : decode b_Txt_nameAmong 70 = .ok (.istore 6, 2) := by decide +kernel
theorem d_Txt_nameAmong_72 : decode b_Txt_nameAmong 72 = .ok (.goto 26, 3) := by decide +kernel
theorem d_Txt_nameAmong_75 : decode b_Txt_nameAmong 75 = .ok (.aload_n 1, 1) := by decide +kernel
theorem d_Txt_nameAmong_76 : decode b_Txt_nameAmong 76 = .ok (.iload 7, 2) := by decide +kernel
theorem d_Txt_nameAmong_78 : decode b_Txt_nameAmong 78 = .ok (.invokevirtual 43, 3) := by decide +kernel
theorem d_Txt_nameAmong_81 : decode b_Txt_nameAmong 81 = .ok (.aload_n 0, 1) := by decide +kernel
theorem d_Txt_nameAmong_82 : decode b_Txt_nameAmong 82 = .ok (.iload_n 2, 1) := by decide +kernel
theorem d_Txt_nameAmong_83 : decode b_Txt_nameAmong 83 = .ok (.iload 7, 2) := by decide +kernel
theorem d_Txt_nameAmong_85 : decode b_Txt_nameAmong 85 = .ok (.iadd, 1) := by decide +kernel
theorem d_Txt_nameAmong_86 : decode b_Txt_nameAmong 86 = .ok (.iload 5, 2) := by decide +kernel
theorem d_Txt_nameAmong_88 : decode b_Txt_nameAmong 88 = .ok (.isub, 1) := by decide +kernel
theorem d_Txt_nameAmong_89 : decode b_Txt_nameAmong 89 = .ok (.invokevirtual 17, 3) := by decide +kernel
theorem d_Txt_nameAmong_92 : decode b_Txt_nameAmong 92 = .ok (.if_icmp .eq 6, 3) := by decide +kernel
theorem d_Txt_nameAmong_95 : decode b_Txt_nameAmong 95 = .ok (.iconst 0, 1) := by decide +kernel
theorem d_Txt_nameAmong_96 : decode b_Txt_nameAmong 96 = .ok (.istore 6, 2) := by decide +kernel
theorem d_Txt_nameAmong_98 : decode b_Txt_nameAmong 98 = .ok (.iinc 7 1, 3) := by decide +kernel
theorem d_Txt_nameAmong_101 : decode b_Txt_nameAmong 101 = .ok (.goto (-89), 3) := by decide +kernel
theorem d_Txt_nameAmong_104 : decode b_Txt_nameAmong 104 = .ok (.iconst (-1), 1) := by decide +kernel
theorem d_Txt_nameAmong_105 : decode b_Txt_nameAmong 105 = .ok (.ireturn, 1) := by decide +kernel
theorem d_JS_length_0 : decode b_JS_length 0 = .ok (.aload_n 0, 1) := by decide +kernel
theorem d_JS_length_1 : decode b_JS_length 1 = .ok (.getfield 9, 3) := by decide +kernel
theorem d_JS_length_4 : decode b_JS_length 4 = .ok (.arraylength, 1) := by decide +kernel
theorem d_JS_length_5 : decode b_JS_length 5 = .ok (.aload_n 0, 1) := by decide +kernel
theorem d_JS_length_6 : decode b_JS_length 6 = .ok (.invokevirtual 335, 3) := by decide +kernel
theorem d_JS_length_9 : decode b_JS_length 9 = .ok (.ishr, 1) := by decide +kernel
theorem d_JS_length_10 : decode b_JS_length 10 = .ok (.ireturn, 1) := by decide +kernel
theorem d_JS_coder_0 : decode b_JS_coder 0 = .ok (.getstatic 38, 3) := by decide +kernel
theorem d_JS_coder_3 : decode b_JS_coder 3 = .ok (.ifCond .eq 10, 3) := by decide +kernel
theorem d_JS_coder_6 : decode b_JS_coder 6 = .ok (.aload_n 0, 1) := by decide +kernel
theorem d_JS_coder_7 : decode b_JS_coder 7 = .ok (.getfield 15, 3) := by decide +kernel
theorem d_JS_coder_10 : decode b_JS_coder 10 = .ok (.goto 4, 3) := by decide +kernel
theorem d_JS_coder_13 : decode b_JS_coder 13 = .ok (.iconst 1, 1) := by decide +kernel
theorem d_JS_coder_14 : decode b_JS_coder 14 = .ok (.ireturn, 1) := by decide +kernel
theorem d_JS_charAt_0 : decode b_JS_charAt 0 = .ok (.aload_n 0, 1) := by decide +kernel
theorem d_JS_charAt_1 : decode b_JS_charAt 1 = .ok (.invokevirtual 492, 3) := by decide +kernel
theorem d_JS_charAt_4 : decode b_JS_charAt 4 = .ok (.ifCond .eq 12, 3) := by decide +kernel
theorem d_JS_charAt_7 : decode b_JS_charAt 7 = .ok (.aload_n 0, 1) := by decide +kernel
theorem d_JS_charAt_8 : decode b_JS_charAt 8 = .ok (.getfield 9, 3) := by decide +kernel
theorem d_JS_charAt_11 : decode b_JS_charAt 11 = .ok (.iload_n 1, 1) := by decide +kernel
theorem d_JS_charAt_12 : decode b_JS_charAt 12 = .ok (.invokestatic 495, 3) := by decide +kernel
theorem d_JS_charAt_15 : decode b_JS_charAt 15 = .ok (.ireturn, 1) := by decide +kernel
theorem d_JS_charAt_16 : decode b_JS_charAt 16 = .ok (.aload_n 0, 1) := by decide +kernel
theorem d_JS_charAt_17 : decode b_JS_charAt 17 = .ok (.getfield 9, 3) := by decide +kernel
theorem d_JS_charAt_20 : decode b_JS_charAt 20 = .ok (.iload_n 1, 1) := by decide +kernel
theorem d_JS_charAt_21 : decode b_JS_charAt 21 = .ok (.invokestatic 498, 3) := by decide +kernel
theorem d_JS_charAt_24 : decode b_JS_charAt 24 = .ok (.ireturn, 1) := by decide +kernel
theorem d_JS_isLatin1_0 : decode b_JS_isLatin1 0 = .ok (.getstatic 38, 3) := by decide +kernel
theorem d_JS_isLatin1_3 : decode b_JS_isLatin1 3 = .ok (.ifCond .eq 14, 3) := by decide +kernel
theorem d_JS_isLatin1_6 : decode b_JS_isLatin1 6 = .ok (.aload_n 0, 1) := by decide +kernel
theorem d_JS_isLatin1_7 : decode b_JS_isLatin1 7 = .ok (.getfield 15, 3) := by decide +kernel
theorem d_JS_isLatin1_10 : decode b_JS_isLatin1 10 = .ok (.ifCond .ne 7, 3) := by decide +kernel
theorem d_JS_isLatin1_13 : decode b_JS_isLatin1 13 = .ok (.iconst 1, 1) := by decide +kernel
theorem d_JS_isLatin1_14 : decode b_JS_isLatin1 14 = .ok (.goto 4, 3) := by decide +kernel
theorem d_JS_isLatin1_17 : decode b_JS_isLatin1 17 = .ok (.iconst 0, 1) := by decide +kernel
theorem d_JS_isLatin1_18 : decode b_JS_isLatin1 18 = .ok (.ireturn, 1) := by decide +kernel
theorem d_JL_charAt_0 : decode b_JL_charAt 0 = .ok (.iload_n 1, 1) := by decide +kernel
theorem d_JL_charAt_1 : decode b_JL_charAt 1 = .ok (.aload_n 0, 1) := by decide +kernel
theorem d_JL_charAt_2 : decode b_JL_charAt 2 = .ok (.arraylength, 1) := by decide +kernel
theorem d_JL_charAt_3 : decode b_JL_charAt 3 = .ok (.invokestatic 9, 3) := by decide +kernel
theorem d_JL_charAt_6 : decode b_JL_charAt 6 = .ok (.aload_n 0, 1) := by decide +kernel
theorem d_JL_charAt_7 : decode b_JL_charAt 7 = .ok (.iload_n 1, 1) := by decide +kernel
theorem d_JL_charAt_8 : decode b_JL_charAt 8 = .ok (.baload, 1) := by decide +kernel
theorem d_JL_charAt_9 : decode b_JL_charAt 9 = .ok (.sipush 255, 3) := by decide +kernel
theorem d_JL_charAt_12 : decode b_JL_charAt 12 = .ok (.iand, 1) := by decide +kernel
theorem d_JL_charAt_13 : decode b_JL_charAt 13 = .ok (.i2c, 1) := by decide +kernel
theorem d_JL_charAt_14 : decode b_JL_charAt 14 = .ok (.ireturn, 1) := by decide +kernel
theorem d_JS_checkIndex_0 : decode b_JS_checkIndex 0 = .ok (.iload_n 0, 1) := by decide +kernel
theorem d_JS_checkIndex_1 : decode b_JS_checkIndex 1 = .ok (.iload_n 1, 1) := by decide +kernel
theorem d_JS_checkIndex_2 : decode b_JS_checkIndex 2 = .ok (.getstatic 1053, 3) := by decide +kernel
theorem d_JS_checkIndex_5 : decode b_JS_checkIndex 5 = .ok (.invokestatic 1059, 3) := by decide +kernel
theorem d_JS_checkIndex_8 : decode b_JS_checkIndex 8 = .ok (.pop, 1) := by decide +kernel
theorem d_JS_checkIndex_9 : decode b_JS_checkIndex 9 = .ok (.return_, 1) := by decide +kernel
theorem d_JP_checkIndex_0 : decode b_JP_checkIndex 0 = .ok (.iload_n 0, 1) := by decide +kernel
theorem d_JP_checkIndex_1 : decode b_JP_checkIndex 1 = .ok (.ifCond .lt 8, 3) := by decide +kernel
theorem d_JP_checkIndex_4 : decode b_JP_checkIndex 4 = .ok (.iload_n 0, 1) := by decide +kernel
theorem d_JP_checkIndex_5 : decode b_JP_checkIndex 5 = .ok (.iload_n 1, 1) := by decide +kernel
theorem d_JP_checkIndex_6 : decode b_JP_checkIndex 6 = .ok (.if_icmp .lt 10, 3) := by decide +kernel
theorem d_JP_checkIndex_9 : decode b_JP_checkIndex 9 = .ok (.aload_n 2, 1) := by decide +kernel
theorem d_JP_checkIndex_10 : decode b_JP_checkIndex 10 = .ok (.iload_n 0, 1) := by decide +kernel
theorem d_JP_checkIndex_11 : decode b_JP_checkIndex 11 = .ok (.iload_n 1, 1) := by decide +kernel
theorem d_JP_checkIndex_12 : decode b_JP_checkIndex 12 = .ok (.invokestatic 95, 3) := by decide +kernel
theorem d_JP_checkIndex_15 : decode b_JP_checkIndex 15 = .ok (.athrow, 1) := by decide +kernel
theorem d_JP_checkIndex_16 : decode b_JP_checkIndex 16 = .ok (.iload_n 0, 1) := by decide +kernel
theorem d_JP_checkIndex_17 : decode b_JP_checkIndex 17 = .ok (.ireturn, 1) := by decide +kernel
theorem d_Rdr_numberIn_0 : decode b_Rdr_numberIn 0 = .ok (.iload_n 1, 1) := by decide +kernel
theorem d_Rdr_numberIn_1 : decode b_Rdr_numberIn 1 = .ok (.ifCond .lt 15, 3) := by decide +kernel
theorem d_Rdr_numberIn_4 : decode b_Rdr_numberIn 4 = .ok (.iload_n 1, 1) := by decide +kernel
theorem d_Rdr_numberIn_5 : decode b_Rdr_numberIn 5 = .ok (.aload_n 0, 1) := by decide +kernel
theorem d_Rdr_numberIn_6 : decode b_Rdr_numberIn 6 = .ok (.arraylength, 1) := by decide +kernel
theorem d_Rdr_numberIn_7 : decode b_Rdr_numberIn 7 = .ok (.if_icmp .ge 9, 3) := by decide +kernel
theorem d_Rdr_numberIn_10 : decode b_Rdr_numberIn 10 = .ok (.aload_n 0, 1) := by decide +kernel
theorem d_Rdr_numberIn_11 : decode b_Rdr_numberIn 11 = .ok (.iload_n 1, 1) := by decide +kernel
theorem d_Rdr_numberIn_12 : decode b_Rdr_numberIn 12 = .ok (.iaload, 1) := by decide +kernel
theorem d_Rdr_numberIn_13 : decode b_Rdr_numberIn 13 = .ok (.goto 4, 3) := by decide +kernel
theorem d_Rdr_numberIn_16 : decode b_Rdr_numberIn 16 = .ok (.iconst (-1), 1) := by decide +kernel
theorem d_Rdr_numberIn_17 : decode b_Rdr_numberIn 17 = .ok (.ireturn, 1) := by decide +kernel
theorem d_Txt_number_0 : decode b_Txt_number 0 = .ok (.iload_n 2, 1) := by decide +kernel
theorem d_Txt_number_1 : decode b_Txt_number 1 = .ok (.iload_n 1, 1) := by decide +kernel
theorem d_Txt_number_2 : decode b_Txt_number 2 = .ok (.isub, 1) := by decide +kernel
theorem d_Txt_number_3 : decode b_Txt_number 3 = .ok (.iconst 1, 1) := by decide +kernel
theorem d_Txt_number_4 : decode b_Txt_number 4 = .ok (.if_icmp .lt 10, 3) := by decide +kernel
theorem d_Txt_number_7 : decode b_Txt_number 7 = .ok (.iload_n 2, 1) := by decide +kernel
theorem d_Txt_number_8 : decode b_Txt_number 8 = .ok (.iload_n 1, 1) := by decide +kernel
theorem d_Txt_number_9 : decode b_Txt_number 9 = .ok (.isub, 1) := by decide +kernel
theorem d_Txt_number_10 : decode b_Txt_number 10 = .ok (.iconst 5, 1) := by decide +kernel
theorem d_Txt_number_11 : decode b_Txt_number 11 = .ok (.if_icmp .le 5, 3) := by decide +kernel
theorem d_Txt_number_14 : decode b_Txt_number 14 = .ok (.iconst (-1), 1) := by decide +kernel
theorem d_Txt_number_15 : decode b_Txt_number 15 = .ok (.ireturn, 1) := by decide +kernel
theorem d_Txt_number_16 : decode b_Txt_number 16 = .ok (.iconst 0, 1) := by decide +kernel
theorem d_Txt_number_17 : decode b_Txt_number 17 = .ok (.istore_n 3, 1) := by decide +kernel
theorem d_Txt_number_18 : decode b_Txt_number 18 = .ok (.iload_n 1, 1) := by decide +kernel
theorem d_Txt_number_19 : decode b_Txt_number 19 = .ok (.istore 4, 2) := by decide +kernel
theorem d_Txt_number_21 : decode b_Txt_number 21 = .ok (.iload 4, 2) := by decide +kernel
theorem d_Txt_number_23 : decode b_Txt_number 23 = .ok (.iload_n 2, 1) := by decide +kernel
theorem d_Txt_number_24 : decode b_Txt_number 24 = .ok (.if_icmp .ge 38, 3) := by decide +kernel
theorem d_Txt_number_27 : decode b_Txt_number 27 = .ok (.aload_n 0, 1) := by decide +kernel
theorem d_Txt_number_28 : decode b_Txt_number 28 = .ok (.iload 4, 2) := by decide +kernel
theorem d_Txt_number_30 : decode b_Txt_number 30 = .ok (.invokevirtual 17, 3) := by decide +kernel
theorem d_Txt_number_33 : decode b_Txt_number 33 = .ok (.invokestatic 31, 3) := by decide +kernel
theorem d_Txt_number_36 : decode b_Txt_number 36 = .ok (.ifCond .ne 5, 3) := by decide +kernel
theorem d_Txt_number_39 : decode b_Txt_number 39 = .ok (.iconst (-1), 1) := by decide +kernel
theorem d_Txt_number_40 : decode b_Txt_number 40 = .ok (.ireturn, 1) := by decide +kernel
theorem d_Txt_number_41 : decode b_Txt_number 41 = .ok (.bipush 10, 2) := by decide +kernel
theorem d_Txt_number_43 : decode b_Txt_number 43 = .ok (.iload_n 3, 1) := by decide +kernel
theorem d_Txt_number_44 : decode b_Txt_number 44 = .ok (.imul, 1) := by decide +kernel
theorem d_Txt_number_45 : decode b_Txt_number 45 = .ok (.aload_n 0, 1) := by decide +kernel
theorem d_Txt_number_46 : decode b_Txt_number 46 = .ok (.iload 4, 2) := by decide +kernel
theorem d_Txt_number_48 : decode b_Txt_number 48 = .ok (.invokevirtual 17, 3) := by decide +kernel
theorem d_Txt_number_51 : decode b_Txt_number 51 = .ok (.iadd, 1) := by decide +kernel
theorem d_Txt_number_52 : decode b_Txt_number 52 = .ok (.bipush 48, 2) := by decide +kernel
theorem d_Txt_number_54 : decode b_Txt_number 54 = .ok (.isub, 1) := by decide +kernel
theorem d_Txt_number_55 : decode b_Txt_number 55 = .ok (.istore_n 3, 1) := by decide +kernel
theorem d_Txt_number_56 : decode b_Txt_number 56 = .ok (.iinc 4 1, 3) := by decide +kernel
theorem d_Txt_number_59 : decode b_Txt_number 59 = .ok (.goto (-38), 3) := by decide +kernel
theorem d_Txt_number_62 : decode b_Txt_number 62 = .ok (.iload_n 3, 1) := by decide +kernel
theorem d_Txt_number_63 : decode b_Txt_number 63 = .ok (.sipush 32767, 3) := by decide +kernel
theorem d_Txt_number_66 : decode b_Txt_number 66 = .ok (.if_icmp .gt 7, 3) := by decide +kernel
theorem d_Txt_number_69 : decode b_Txt_number 69 = .ok (.iload_n 3, 1) := by decide +kernel
theorem d_Txt_number_70 : decode b_Txt_number 70 = .ok (.goto 4, 3) := by decide +kernel
theorem d_Txt_number_73 : decode b_Txt_number 73 = .ok (.iconst (-1), 1) := by decide +kernel
theorem d_Txt_number_74 : decode b_Txt_number 74 = .ok (.ireturn, 1) := by decide +kernel
theorem d_Prg_isFull_0 : decode b_Prg_isFull 0 = .ok (.aload_n 0, 1) := by decide +kernel
theorem d_Prg_isFull_1 : decode b_Prg_isFull 1 = .ok (.getfield 13, 3) := by decide +kernel
theorem d_Prg_isFull_4 : decode b_Prg_isFull 4 = .ok (.sipush 600, 3) := by decide +kernel
theorem d_Prg_isFull_7 : decode b_Prg_isFull 7 = .ok (.if_icmp .lt 7, 3) := by decide +kernel
theorem d_Prg_isFull_10 : decode b_Prg_isFull 10 = .ok (.iconst 1, 1) := by decide +kernel
theorem d_Prg_isFull_11 : decode b_Prg_isFull 11 = .ok (.goto 4, 3) := by decide +kernel
theorem d_Prg_isFull_14 : decode b_Prg_isFull 14 = .ok (.iconst 0, 1) := by decide +kernel
theorem d_Prg_isFull_15 : decode b_Prg_isFull 15 = .ok (.ireturn, 1) := by decide +kernel
theorem d_Sym_symbolOf_0 : decode b_Sym_symbolOf 0 = .ok (.iconst 0, 1) := by decide +kernel
theorem d_Sym_symbolOf_1 : decode b_Sym_symbolOf 1 = .ok (.istore_n 3, 1) := by decide +kernel
theorem d_Sym_symbolOf_2 : decode b_Sym_symbolOf 2 = .ok (.iload_n 3, 1) := by decide +kernel
theorem d_Sym_symbolOf_3 : decode b_Sym_symbolOf 3 = .ok (.aload_n 0, 1) := by decide +kernel
theorem d_Sym_symbolOf_4 : decode b_Sym_symbolOf 4 = .ok (.getfield 23, 3) := by decide +kernel
theorem d_Sym_symbolOf_7 : decode b_Sym_symbolOf 7 = .ok (.if_icmp .ge 43, 3) := by decide +kernel
theorem d_Sym_symbolOf_10 : decode b_Sym_symbolOf 10 = .ok (.aload_n 0, 1) := by decide +kernel
theorem d_Sym_symbolOf_11 : decode b_Sym_symbolOf 11 = .ok (.getfield 13, 3) := by decide +kernel
theorem d_Sym_symbolOf_14 : decode b_Sym_symbolOf 14 = .ok (.iload_n 3, 1) := by decide +kernel
theorem d_Sym_symbolOf_15 : decode b_Sym_symbolOf 15 = .ok (.iaload, 1) := by decide +kernel
theorem d_Sym_symbolOf_16 : decode b_Sym_symbolOf 16 = .ok (.iload_n 2, 1) := by decide +kernel
theorem d_Sym_symbolOf_17 : decode b_Sym_symbolOf 17 = .ok (.iload_n 1, 1) := by decide +kernel
theorem d_Sym_symbolOf_18 : decode b_Sym_symbolOf 18 = .ok (.isub, 1) := by decide +kernel
theorem d_Sym_symbolOf_19 : decode b_Sym_symbolOf 19 = .ok (.if_icmp .ne 25, 3) := by decide +kernel
theorem d_Sym_symbolOf_22 : decode b_Sym_symbolOf 22 = .ok (.aload_n 0, 1) := by decide +kernel
theorem d_Sym_symbolOf_23 : decode b_Sym_symbolOf 23 = .ok (.getfield 19, 3) := by decide +kernel
theorem d_Sym_symbolOf_26 : decode b_Sym_symbolOf 26 = .ok (.aload_n 0, 1) := by decide +kernel
theorem d_Sym_symbolOf_27 : decode b_Sym_symbolOf 27 = .ok (.getfield 9, 3) := by decide +kernel
theorem d_Sym_symbolOf_30 : decode b_Sym_symbolOf 30 = .ok (.iload_n 3, 1) := by decide +kernel
theorem d_Sym_symbolOf_31 : decode b_Sym_symbolOf 31 = .ok (.iaload, 1) := by decide +kernel
theorem d_Sym_symbolOf_32 : decode b_Sym_symbolOf 32 = .ok (.iload_n 1, 1) := by decide +kernel
theorem d_Sym_symbolOf_33 : decode b_Sym_symbolOf 33 = .ok (.iload_n 2, 1) := by decide +kernel
theorem d_Sym_symbolOf_34 : decode b_Sym_symbolOf 34 = .ok (.iload_n 1, 1) := by decide +kernel
theorem d_Sym_symbolOf_35 : decode b_Sym_symbolOf 35 = .ok (.isub, 1) := by decide +kernel
theorem d_Sym_symbolOf_36 : decode b_Sym_symbolOf 36 = .ok (.invokevirtual 27, 3) := by decide +kernel
theorem d_Sym_symbolOf_39 : decode b_Sym_symbolOf 39 = .ok (.ifCond .eq 5, 3) := by decide +kernel
theorem d_Sym_symbolOf_42 : decode b_Sym_symbolOf 42 = .ok (.iload_n 3, 1) := by decide +kernel
theorem d_Sym_symbolOf_43 : decode b_Sym_symbolOf 43 = .ok (.ireturn, 1) := by decide +kernel
theorem d_Sym_symbolOf_44 : decode b_Sym_symbolOf 44 = .ok (.iinc 3 1, 3) := by decide +kernel
theorem d_Sym_symbolOf_47 : decode b_Sym_symbolOf 47 = .ok (.goto (-45), 3) := by decide +kernel
theorem d_Sym_symbolOf_50 : decode b_Sym_symbolOf 50 = .ok (.aload_n 0, 1) := by decide +kernel
theorem d_Sym_symbolOf_51 : decode b_Sym_symbolOf 51 = .ok (.getfield 23, 3) := by decide +kernel
theorem d_Sym_symbolOf_54 : decode b_Sym_symbolOf 54 = .ok (.bipush 40, 2) := by decide +kernel
theorem d_Sym_symbolOf_56 : decode b_Sym_symbolOf 56 = .ok (.if_icmp .lt 5, 3) := by decide +kernel
theorem d_Sym_symbolOf_59 : decode b_Sym_symbolOf 59 = .ok (.iconst (-1), 1) := by decide +kernel
theorem d_Sym_symbolOf_60 : decode b_Sym_symbolOf 60 = .ok (.ireturn, 1) := by decide +kernel
theorem d_Sym_symbolOf_61 : decode b_Sym_symbolOf 61 = .ok (.aload_n 0, 1) := by decide +kernel
theorem d_Sym_symbolOf_62 : decode b_Sym_symbolOf 62 = .ok (.getfield 9, 3) := by decide +kernel
theorem d_Sym_symbolOf_65 : decode b_Sym_symbolOf 65 = .ok (.aload_n 0, 1) := by decide +kernel
theorem d_Sym_symbolOf_66 : decode b_Sym_symbolOf 66 = .ok (.getfield 23, 3) := by decide +kernel
theorem d_Sym_symbolOf_69 : decode b_Sym_symbolOf 69 = .ok (.iload_n 1, 1) := by decide +kernel
theorem d_Sym_symbolOf_70 : decode b_Sym_symbolOf 70 = .ok (.iastore, 1) := by decide +kernel
theorem d_Sym_symbolOf_71 : decode b_Sym_symbolOf 71 = .ok (.aload_n 0, 1) := by decide +kernel
theorem d_Sym_symbolOf_72 : decode b_Sym_symbolOf 72 = .ok (.getfield 13, 3) := by decide +kernel
theorem d_Sym_symbolOf_75 : decode b_Sym_symbolOf 75 = .ok (.aload_n 0, 1) := by decide +kernel
theorem d_Sym_symbolOf_76 : decode b_Sym_symbolOf 76 = .ok (.getfield 23, 3) := by decide +kernel
theorem d_Sym_symbolOf_79 : decode b_Sym_symbolOf 79 = .ok (.iload_n 2, 1) := by decide +kernel
theorem d_Sym_symbolOf_80 : decode b_Sym_symbolOf 80 = .ok (.iload_n 1, 1) := by decide +kernel
theorem d_Sym_symbolOf_81 : decode b_Sym_symbolOf 81 = .ok (.isub, 1) := by decide +kernel
theorem d_Sym_symbolOf_82 : decode b_Sym_symbolOf 82 = .ok (.iastore, 1) := by decide +kernel
theorem d_Sym_symbolOf_83 : decode b_Sym_symbolOf 83 = .ok (.aload_n 0, 1) := by decide +kernel
theorem d_Sym_symbolOf_84 : decode b_Sym_symbolOf 84 = .ok (.getfield 16, 3) := by decide +kernel
theorem d_Sym_symbolOf_87 : decode b_Sym_symbolOf 87 = .ok (.aload_n 0, 1) := by decide +kernel
theorem d_Sym_symbolOf_88 : decode b_Sym_symbolOf 88 = .ok (.getfield 23, 3) := by decide +kernel
theorem d_Sym_symbolOf_91 : decode b_Sym_symbolOf 91 = .ok (.iconst (-1), 1) := by decide +kernel
theorem d_Sym_symbolOf_92 : decode b_Sym_symbolOf 92 = .ok (.iastore, 1) := by decide +kernel
theorem d_Sym_symbolOf_93 : decode b_Sym_symbolOf 93 = .ok (.aload_n 0, 1) := by decide +kernel
theorem d_Sym_symbolOf_94 : decode b_Sym_symbolOf 94 = .ok (.dup, 1) := by decide +kernel
theorem d_Sym_symbolOf_95 : decode b_Sym_symbolOf 95 = .ok (.getfield 23, 3) := by decide +kernel
theorem d_Sym_symbolOf_98 : decode b_Sym_symbolOf 98 = .ok (.iconst 1, 1) := by decide +kernel
theorem d_Sym_symbolOf_99 : decode b_Sym_symbolOf 99 = .ok (.iadd, 1) := by decide +kernel
theorem d_Sym_symbolOf_100 : decode b_Sym_symbolOf 100 = .ok (.putfield 23, 3) := by decide +kernel
theorem d_Sym_symbolOf_103 : decode b_Sym_symbolOf 103 = .ok (.aload_n 0, 1) := by decide +kernel
theorem d_Sym_symbolOf_104 : decode b_Sym_symbolOf 104 = .ok (.getfield 23, 3) := by decide +kernel
theorem d_Sym_symbolOf_107 : decode b_Sym_symbolOf 107 = .ok (.iconst 1, 1) := by decide +kernel
theorem d_Sym_symbolOf_108 : decode b_Sym_symbolOf 108 = .ok (.isub, 1) := by decide +kernel
theorem d_Sym_symbolOf_109 : decode b_Sym_symbolOf 109 = .ok (.ireturn, 1) := by decide +kernel
theorem d_Txt_isSame_0 : decode b_Txt_isSame 0 = .ok (.iconst 0, 1) := by decide +kernel
theorem d_Txt_isSame_1 : decode b_Txt_isSame 1 = .ok (.istore 4, 2) := by decide +kernel
theorem d_Txt_isSame_3 : decode b_Txt_isSame 3 = .ok (.iload 4, 2) := by decide +kernel
theorem d_Txt_isSame_5 : decode b_Txt_isSame 5 = .ok (.iload_n 3, 1) := by decide +kernel
theorem d_Txt_isSame_6 : decode b_Txt_isSame 6 = .ok (.if_icmp .ge 30, 3) := by decide +kernel
theorem d_Txt_isSame_9 : decode b_Txt_isSame 9 = .ok (.aload_n 0, 1) := by decide +kernel
theorem d_Txt_isSame_10 : decode b_Txt_isSame 10 = .ok (.iload_n 1, 1) := by decide +kernel
theorem d_Txt_isSame_11 : decode b_Txt_isSame 11 = .ok (.iload 4, 2) := by decide +kernel
theorem d_Txt_isSame_13 : decode b_Txt_isSame 13 = .ok (.iadd, 1) := by decide +kernel
theorem d_Txt_isSame_14 : decode b_Txt_isSame 14 = .ok (.invokevirtual 17, 3) := by decide +kernel
theorem d_Txt_isSame_17 : decode b_Txt_isSame 17 = .ok (.aload_n 0, 1) := by decide +kernel
theorem d_Txt_isSame_18 : decode b_Txt_isSame 18 = .ok (.iload_n 2, 1) := by decide +kernel
theorem d_Txt_isSame_19 : decode b_Txt_isSame 19 = .ok (.iload 4, 2) := by decide +kernel
theorem d_Txt_isSame_21 : decode b_Txt_isSame 21 = .ok (.iadd, 1) := by decide +kernel
theorem d_Txt_isSame_22 : decode b_Txt_isSame 22 = .ok (.invokevirtual 17, 3) := by decide +kernel
theorem d_Txt_isSame_25 : decode b_Txt_isSame 25 = .ok (.if_icmp .eq 5, 3) := by decide +kernel
theorem d_Txt_isSame_28 : decode b_Txt_isSame 28 = .ok (.iconst 0, 1) := by decide +kernel
theorem d_Txt_isSame_29 : decode b_Txt_isSame 29 = .ok (.ireturn, 1) := by decide +kernel
theorem d_Txt_isSame_30 : decode b_Txt_isSame 30 = .ok (.iinc 4 1, 3) := by decide +kernel
theorem d_Txt_isSame_33 : decode b_Txt_isSame 33 = .ok (.goto (-30), 3) := by decide +kernel
theorem d_Txt_isSame_36 : decode b_Txt_isSame 36 = .ok (.iconst 1, 1) := by decide +kernel
theorem d_Txt_isSame_37 : decode b_Txt_isSame 37 = .ok (.ireturn, 1) := by decide +kernel
theorem d_Prg_add_0 : decode b_Prg_add 0 = .ok (.aload_n 0, 1) := by decide +kernel
theorem d_Prg_add_1 : decode b_Prg_add 1 = .ok (.invokevirtual 17, 3) := by decide +kernel
theorem d_Prg_add_4 : decode b_Prg_add 4 = .ok (.ifCond .ne 23, 3) := by decide +kernel
theorem d_Prg_add_7 : decode b_Prg_add 7 = .ok (.aload_n 0, 1) := by decide +kernel
theorem d_Prg_add_8 : decode b_Prg_add 8 = .ok (.getfield 9, 3) := by decide +kernel
theorem d_Prg_add_11 : decode b_Prg_add 11 = .ok (.aload_n 0, 1) := by decide +kernel
theorem d_Prg_add_12 : decode b_Prg_add 12 = .ok (.getfield 13, 3) := by decide +kernel
theorem d_Prg_add_15 : decode b_Prg_add 15 = .ok (.iload_n 1, 1) := by decide +kernel
theorem d_Prg_add_16 : decode b_Prg_add 16 = .ok (.iastore, 1) := by decide +kernel
theorem d_Prg_add_17 : decode b_Prg_add 17 = .ok (.aload_n 0, 1) := by decide +kernel
theorem d_Prg_add_18 : decode b_Prg_add 18 = .ok (.dup, 1) := by decide +kernel
theorem d_Prg_add_19 : decode b_Prg_add 19 = .ok (.getfield 13, 3) := by decide +kernel
theorem d_Prg_add_22 : decode b_Prg_add 22 = .ok (.iconst 1, 1) := by decide +kernel
theorem d_Prg_add_23 : decode b_Prg_add 23 = .ok (.iadd, 1) := by decide +kernel
theorem d_Prg_add_24 : decode b_Prg_add 24 = .ok (.putfield 13, 3) := by decide +kernel
theorem d_Prg_add_27 : decode b_Prg_add 27 = .ok (.return_, 1) := by decide +kernel
theorem d_Rdr_takeLabel_0 : decode b_Rdr_takeLabel 0 = .ok (.aload_n 0, 1) := by decide +kernel
theorem d_Rdr_takeLabel_1 : decode b_Rdr_takeLabel 1 = .ok (.getfield 15, 3) := by decide +kernel
theorem d_Rdr_takeLabel_4 : decode b_Rdr_takeLabel 4 = .ok (.iload_n 1, 1) := by decide +kernel
theorem d_Rdr_takeLabel_5 : decode b_Rdr_takeLabel 5 = .ok (.iload_n 2, 1) := by decide +kernel
theorem d_Rdr_takeLabel_6 : decode b_Rdr_takeLabel 6 = .ok (.invokevirtual 86, 3) := by decide +kernel
theorem d_Rdr_takeLabel_9 : decode b_Rdr_takeLabel 9 = .ok (.ifCond .eq 16, 3) := by decide +kernel
theorem d_Rdr_takeLabel_12 : decode b_Rdr_takeLabel 12 = .ok (.aload_n 0, 1) := by decide +kernel
theorem d_Rdr_takeLabel_13 : decode b_Rdr_takeLabel 13 = .ok (.getfield 15, 3) := by decide +kernel
theorem d_Rdr_takeLabel_16 : decode b_Rdr_takeLabel 16 = .ok (.iload_n 2, 1) := by decide +kernel
theorem d_Rdr_takeLabel_17 : decode b_Rdr_takeLabel 17 = .ok (.invokevirtual 74, 3) := by decide +kernel
theorem d_Rdr_takeLabel_20 : decode b_Rdr_takeLabel 20 = .ok (.bipush 41, 2) := by decide +kernel
theorem d_Rdr_takeLabel_22 : decode b_Rdr_takeLabel 22 = .ok (.if_icmp .eq 5, 3) := by decide +kernel
theorem d_Rdr_takeLabel_25 : decode b_Rdr_takeLabel 25 = .ok (.iconst 1, 1) := by decide +kernel
theorem d_Rdr_takeLabel_26 : decode b_Rdr_takeLabel 26 = .ok (.ireturn, 1) := by decide +kernel
theorem d_Rdr_takeLabel_27 : decode b_Rdr_takeLabel 27 = .ok (.aload_n 0, 1) := by decide +kernel
theorem d_Rdr_takeLabel_28 : decode b_Rdr_takeLabel 28 = .ok (.iload_n 1, 1) := by decide +kernel
theorem d_Rdr_takeLabel_29 : decode b_Rdr_takeLabel 29 = .ok (.iload_n 2, 1) := by decide +kernel
theorem d_Rdr_takeLabel_30 : decode b_Rdr_takeLabel 30 = .ok (.invokevirtual 90, 3) := by decide +kernel
theorem d_Rdr_takeLabel_33 : decode b_Rdr_takeLabel 33 = .ok (.ifCond .lt 5, 3) := by decide +kernel
theorem d_Rdr_takeLabel_36 : decode b_Rdr_takeLabel 36 = .ok (.iconst 3, 1) := by decide +kernel
theorem d_Rdr_takeLabel_37 : decode b_Rdr_takeLabel 37 = .ok (.ireturn, 1) := by decide +kernel
theorem d_Rdr_takeLabel_38 : decode b_Rdr_takeLabel 38 = .ok (.aload_n 0, 1) := by decide +kernel
theorem d_Rdr_takeLabel_39 : decode b_Rdr_takeLabel 39 = .ok (.getfield 28, 3) := by decide +kernel
theorem d_Rdr_takeLabel_42 : decode b_Rdr_takeLabel 42 = .ok (.iload_n 1, 1) := by decide +kernel
theorem d_Rdr_takeLabel_43 : decode b_Rdr_takeLabel 43 = .ok (.iload_n 2, 1) := by decide +kernel
theorem d_Rdr_takeLabel_44 : decode b_Rdr_takeLabel 44 = .ok (.invokevirtual 100, 3) := by decide +kernel
theorem d_Rdr_takeLabel_47 : decode b_Rdr_takeLabel 47 = .ok (.istore_n 3, 1) := by decide +kernel
theorem d_Rdr_takeLabel_48 : decode b_Rdr_takeLabel 48 = .ok (.iload_n 3, 1) := by decide +kernel
theorem d_Rdr_takeLabel_49 : decode b_Rdr_takeLabel 49 = .ok (.ifCond .ge 5, 3) := by decide +kernel
theorem d_Rdr_takeLabel_52 : decode b_Rdr_takeLabel 52 = .ok (.iconst 2, 1) := by decide +kernel
theorem d_Rdr_takeLabel_53 : decode b_Rdr_takeLabel 53 = .ok (.ireturn, 1) := by decide +kernel
theorem d_Rdr_takeLabel_54 : decode b_Rdr_takeLabel 54 = .ok (.aload_n 0, 1) := by decide +kernel
theorem d_Rdr_takeLabel_55 : decode b_Rdr_takeLabel 55 = .ok (.getfield 28, 3) := by decide +kernel
theorem d_Rdr_takeLabel_58 : decode b_Rdr_takeLabel 58 = .ok (.iload_n 3, 1) := by decide +kernel
theorem d_Rdr_takeLabel_59 : decode b_Rdr_takeLabel 59 = .ok (.aload_n 0, 1) := by decide +kernel
theorem d_Rdr_takeLabel_60 : decode b_Rdr_takeLabel 60 = .ok (.getfield 19, 3) := by decide +kernel
theorem d_Rdr_takeLabel_63 : decode b_Rdr_takeLabel 63 = .ok (.invokevirtual 108, 3) := by decide +kernel
theorem d_Rdr_takeLabel_66 : decode b_Rdr_takeLabel 66 = .ok (.invokevirtual 109, 3) := by decide +kernel
theorem d_Rdr_takeLabel_69 : decode b_Rdr_takeLabel 69 = .ok (.ifCond .eq 7, 3) := by decide +kernel
theorem d_Rdr_takeLabel_72 : decode b_Rdr_takeLabel 72 = .ok (.iconst 0, 1) := by decide +kernel
theorem d_Rdr_takeLabel_73 : decode b_Rdr_takeLabel 73 = .ok (.goto 4, 3) := by decide +kernel
theorem d_Rdr_takeLabel_76 : decode b_Rdr_takeLabel 76 = .ok (.iconst 3, 1) := by decide +kernel
theorem d_Rdr_takeLabel_77 : decode b_Rdr_takeLabel 77 = .ok (.ireturn, 1) := by decide +kernel
theorem d_Prg_size_0 : decode b_Prg_size 0 = .ok (.aload_n 0, 1) := by decide +kernel
theorem d_Prg_size_1 : decode b_Prg_size 1 = .ok (.getfield 13, 3) := by decide +kernel
theorem d_Prg_size_4 : decode b_Prg_size 4 = .ok (.ireturn, 1) := by decide +kernel
theorem d_Sym_tell_0 : decode b_Sym_tell 0 = .ok (.iload_n 1, 1) := by decide +kernel
theorem d_Sym_tell_1 : decode b_Sym_tell 1 = .ok (.ifCond .lt 21, 3) := by decide +kernel
theorem d_Sym_tell_4 : decode b_Sym_tell 4 = .ok (.iload_n 1, 1) := by decide +kernel
theorem d_Sym_tell_5 : decode b_Sym_tell 5 = .ok (.aload_n 0, 1) := by decide +kernel
theorem d_Sym_tell_6 : decode b_Sym_tell 6 = .ok (.getfield 23, 3) := by decide +kernel
theorem d_Sym_tell_9 : decode b_Sym_tell 9 = .ok (.if_icmp .ge 13, 3) := by decide +kernel
theorem d_Sym_tell_12 : decode b_Sym_tell 12 = .ok (.aload_n 0, 1) := by decide +kernel
theorem d_Sym_tell_13 : decode b_Sym_tell 13 = .ok (.getfield 16, 3) := by decide +kernel
theorem d_Sym_tell_16 : decode b_Sym_tell 16 = .ok (.iload_n 1, 1) := by decide +kernel
theorem d_Sym_tell_17 : decode b_Sym_tell 17 = .ok (.iaload, 1) := by decide +kernel
theorem d_Sym_tell_18 : decode b_Sym_tell 18 = .ok (.iconst (-1), 1) := by decide +kernel
theorem d_Sym_tell_19 : decode b_Sym_tell 19 = .ok (.if_icmp .eq 5, 3) := by decide +kernel
theorem d_Sym_tell_22 : decode b_Sym_tell 22 = .ok (.iconst 0, 1) := by decide +kernel
theorem d_Sym_tell_23 : decode b_Sym_tell 23 = .ok (.ireturn, 1) := by decide +kernel
theorem d_Sym_tell_24 : decode b_Sym_tell 24 = .ok (.aload_n 0, 1) := by decide +kernel
theorem d_Sym_tell_25 : decode b_Sym_tell 25 = .ok (.getfield 16, 3) := by decide +kernel
theorem d_Sym_tell_28 : decode b_Sym_tell 28 = .ok (.iload_n 1, 1) := by decide +kernel
theorem d_Sym_tell_29 : decode b_Sym_tell 29 = .ok (.iload_n 2, 1) := by decide +kernel
theorem d_Sym_tell_30 : decode b_Sym_tell 30 = .ok (.iastore, 1) := by decide +kernel
theorem d_Sym_tell_31 : decode b_Sym_tell 31 = .ok (.iconst 1, 1) := by decide +kernel
theorem d_Sym_tell_32 : decode b_Sym_tell 32 = .ok (.ireturn, 1) := by decide +kernel
theorem d_Rdr_takeOther_0 : decode b_Rdr_takeOther 0 = .ok (.aload_n 0, 1) := by decide +kernel
theorem d_Rdr_takeOther_1 : decode b_Rdr_takeOther 1 = .ok (.getfield 15, 3) := by decide +kernel
theorem d_Rdr_takeOther_4 : decode b_Rdr_takeOther 4 = .ok (.bipush 61, 2) := by decide +kernel
theorem d_Rdr_takeOther_6 : decode b_Rdr_takeOther 6 = .ok (.iload_n 1, 1) := by decide +kernel
theorem d_Rdr_takeOther_7 : decode b_Rdr_takeOther 7 = .ok (.iload_n 2, 1) := by decide +kernel
theorem d_Rdr_takeOther_8 : decode b_Rdr_takeOther 8 = .ok (.invokevirtual 112, 3) := by decide +kernel
theorem d_Rdr_takeOther_11 : decode b_Rdr_takeOther 11 = .ok (.istore_n 3, 1) := by decide +kernel
theorem d_Rdr_takeOther_12 : decode b_Rdr_takeOther 12 = .ok (.aload_n 0, 1) := by decide +kernel
theorem d_Rdr_takeOther_13 : decode b_Rdr_takeOther 13 = .ok (.getfield 15, 3) := by decide +kernel
theorem d_Rdr_takeOther_16 : decode b_Rdr_takeOther 16 = .ok (.bipush 59, 2) := by decide +kernel
theorem d_Rdr_takeOther_18 : decode b_Rdr_takeOther 18 = .ok (.iload_n 1, 1) := by decide +kernel
theorem d_Rdr_takeOther_19 : decode b_Rdr_takeOther 19 = .ok (.iload_n 2, 1) := by decide +kernel
end
section
/-! decode rows -/
theorem d_Rdr_takeOther_20 : decode b_Rdr_takeOther 20 = .ok (.invokevirtual 112, 3) := by decide +kernel
theorem d_Rdr_takeOther_23 : decode b_Rdr_takeOther 23 = .ok (.istore 4, 2) := by decide +kernel
theorem d_Rdr_takeOther_25 : decode b_Rdr_takeOther 25 = .ok (.iload_n 3, 1) := by decide +kernel
theorem d_Rdr_takeOther_26 : decode b_Rdr_takeOther 26 = .ok (.ifCond .ge 7, 3) := by decide +kernel
theorem d_Rdr_takeOther_29 : decode b_Rdr_takeOther 29 = .ok (.iconst 0, 1) := by decide +kernel
theorem d_Rdr_takeOther_30 : decode b_Rdr_takeOther 30 = .ok (.goto 16, 3) := by decide +kernel
theorem d_Rdr_takeOther_33 : decode b_Rdr_takeOther 33 = .ok (.iconst 1, 1) := by decide +kernel
theorem d_Rdr_takeOther_34 : decode b_Rdr_takeOther 34 = .ok (.aload_n 0, 1) := by decide +kernel
theorem d_Rdr_takeOther_35 : decode b_Rdr_takeOther 35 = .ok (.getfield 15, 3) := by decide +kernel
theorem d_Rdr_takeOther_38 : decode b_Rdr_takeOther 38 = .ok (.ldc 116, 2) := by decide +kernel
theorem d_Rdr_takeOther_40 : decode b_Rdr_takeOther 40 = .ok (.iload_n 1, 1) := by decide +kernel
theorem d_Rdr_takeOther_41 : decode b_Rdr_takeOther 41 = .ok (.iload_n 3, 1) := by decide +kernel
theorem d_Rdr_takeOther_42 : decode b_Rdr_takeOther 42 = .ok (.invokevirtual 118, 3) := by decide +kernel
theorem d_Rdr_takeOther_45 : decode b_Rdr_takeOther 45 = .ok (.iadd, 1) := by decide +kernel
theorem d_Rdr_takeOther_46 : decode b_Rdr_takeOther 46 = .ok (.istore 5, 2) := by decide +kernel
theorem d_Rdr_takeOther_48 : decode b_Rdr_takeOther 48 = .ok (.iload 4, 2) := by decide +kernel
theorem d_Rdr_takeOther_50 : decode b_Rdr_takeOther 50 = .ok (.ifCond .ge 7, 3) := by decide +kernel
theorem d_Rdr_takeOther_53 : decode b_Rdr_takeOther 53 = .ok (.iconst 0, 1) := by decide +kernel
theorem d_Rdr_takeOther_54 : decode b_Rdr_takeOther 54 = .ok (.goto 19, 3) := by decide +kernel
theorem d_Rdr_takeOther_57 : decode b_Rdr_takeOther 57 = .ok (.iconst 1, 1) := by decide +kernel
theorem d_Rdr_takeOther_58 : decode b_Rdr_takeOther 58 = .ok (.aload_n 0, 1) := by decide +kernel
theorem d_Rdr_takeOther_59 : decode b_Rdr_takeOther 59 = .ok (.getfield 15, 3) := by decide +kernel
theorem d_Rdr_takeOther_62 : decode b_Rdr_takeOther 62 = .ok (.ldc 122, 2) := by decide +kernel
theorem d_Rdr_takeOther_64 : decode b_Rdr_takeOther 64 = .ok (.iload 4, 2) := by decide +kernel
theorem d_Rdr_takeOther_66 : decode b_Rdr_takeOther 66 = .ok (.iconst 1, 1) := by decide +kernel
theorem d_Rdr_takeOther_67 : decode b_Rdr_takeOther 67 = .ok (.iadd, 1) := by decide +kernel
theorem d_Rdr_takeOther_68 : decode b_Rdr_takeOther 68 = .ok (.iload_n 2, 1) := by decide +kernel
theorem d_Rdr_takeOther_69 : decode b_Rdr_takeOther 69 = .ok (.invokevirtual 118, 3) := by decide +kernel
theorem d_Rdr_takeOther_72 : decode b_Rdr_takeOther 72 = .ok (.iadd, 1) := by decide +kernel
theorem d_Rdr_takeOther_73 : decode b_Rdr_takeOther 73 = .ok (.istore 6, 2) := by decide +kernel
theorem d_Rdr_takeOther_75 : decode b_Rdr_takeOther 75 = .ok (.aload_n 0, 1) := by decide +kernel
theorem d_Rdr_takeOther_76 : decode b_Rdr_takeOther 76 = .ok (.iload_n 3, 1) := by decide +kernel
theorem d_Rdr_takeOther_77 : decode b_Rdr_takeOther 77 = .ok (.ifCond .ge 7, 3) := by decide +kernel
theorem d_Rdr_takeOther_80 : decode b_Rdr_takeOther 80 = .ok (.iload_n 1, 1) := by decide +kernel
theorem d_Rdr_takeOther_81 : decode b_Rdr_takeOther 81 = .ok (.goto 6, 3) := by decide +kernel
theorem d_Rdr_takeOther_84 : decode b_Rdr_takeOther 84 = .ok (.iload_n 3, 1) := by decide +kernel
theorem d_Rdr_takeOther_85 : decode b_Rdr_takeOther 85 = .ok (.iconst 1, 1) := by decide +kernel
theorem d_Rdr_takeOther_86 : decode b_Rdr_takeOther 86 = .ok (.iadd, 1) := by decide +kernel
theorem d_Rdr_takeOther_87 : decode b_Rdr_takeOther 87 = .ok (.iload 4, 2) := by decide +kernel
theorem d_Rdr_takeOther_89 : decode b_Rdr_takeOther 89 = .ok (.ifCond .ge 7, 3) := by decide +kernel
theorem d_Rdr_takeOther_92 : decode b_Rdr_takeOther 92 = .ok (.iload_n 2, 1) := by decide +kernel
theorem d_Rdr_takeOther_93 : decode b_Rdr_takeOther 93 = .ok (.goto 5, 3) := by decide +kernel
theorem d_Rdr_takeOther_96 : decode b_Rdr_takeOther 96 = .ok (.iload 4, 2) := by decide +kernel
theorem d_Rdr_takeOther_98 : decode b_Rdr_takeOther 98 = .ok (.invokevirtual 124, 3) := by decide +kernel
theorem d_Rdr_takeOther_101 : decode b_Rdr_takeOther 101 = .ok (.istore 7, 2) := by decide +kernel
theorem d_Rdr_takeOther_103 : decode b_Rdr_takeOther 103 = .ok (.iload_n 3, 1) := by decide +kernel
theorem d_Rdr_takeOther_104 : decode b_Rdr_takeOther 104 = .ok (.ifCond .lt 12, 3) := by decide +kernel
theorem d_Rdr_takeOther_107 : decode b_Rdr_takeOther 107 = .ok (.iload 5, 2) := by decide +kernel
theorem d_Rdr_takeOther_109 : decode b_Rdr_takeOther 109 = .ok (.ifCond .ne 7, 3) := by decide +kernel
theorem d_Rdr_takeOther_112 : decode b_Rdr_takeOther 112 = .ok (.iconst 1, 1) := by decide +kernel
theorem d_Rdr_takeOther_113 : decode b_Rdr_takeOther 113 = .ok (.goto 4, 3) := by decide +kernel
theorem d_Rdr_takeOther_116 : decode b_Rdr_takeOther 116 = .ok (.iconst 0, 1) := by decide +kernel
theorem d_Rdr_takeOther_117 : decode b_Rdr_takeOther 117 = .ok (.istore 8, 2) := by decide +kernel
theorem d_Rdr_takeOther_119 : decode b_Rdr_takeOther 119 = .ok (.iload 4, 2) := by decide +kernel
theorem d_Rdr_takeOther_121 : decode b_Rdr_takeOther 121 = .ok (.ifCond .lt 12, 3) := by decide +kernel
theorem d_Rdr_takeOther_124 : decode b_Rdr_takeOther 124 = .ok (.iload 6, 2) := by decide +kernel
theorem d_Rdr_takeOther_126 : decode b_Rdr_takeOther 126 = .ok (.ifCond .ne 7, 3) := by decide +kernel
theorem d_Rdr_takeOther_129 : decode b_Rdr_takeOther 129 = .ok (.iconst 1, 1) := by decide +kernel
theorem d_Rdr_takeOther_130 : decode b_Rdr_takeOther 130 = .ok (.goto 4, 3) := by decide +kernel
theorem d_Rdr_takeOther_133 : decode b_Rdr_takeOther 133 = .ok (.iconst 0, 1) := by decide +kernel
theorem d_Rdr_takeOther_134 : decode b_Rdr_takeOther 134 = .ok (.istore 9, 2) := by decide +kernel
theorem d_Rdr_takeOther_136 : decode b_Rdr_takeOther 136 = .ok (.iload 8, 2) := by decide +kernel
theorem d_Rdr_takeOther_138 : decode b_Rdr_takeOther 138 = .ok (.ifCond .ne 13, 3) := by decide +kernel
theorem d_Rdr_takeOther_141 : decode b_Rdr_takeOther 141 = .ok (.iload 9, 2) := by decide +kernel
theorem d_Rdr_takeOther_143 : decode b_Rdr_takeOther 143 = .ok (.ifCond .ne 8, 3) := by decide +kernel
theorem d_Rdr_takeOther_146 : decode b_Rdr_takeOther 146 = .ok (.iload 7, 2) := by decide +kernel
theorem d_Rdr_takeOther_148 : decode b_Rdr_takeOther 148 = .ok (.ifCond .ge 5, 3) := by decide +kernel
theorem d_Rdr_takeOther_151 : decode b_Rdr_takeOther 151 = .ok (.iconst 1, 1) := by decide +kernel
theorem d_Rdr_takeOther_152 : decode b_Rdr_takeOther 152 = .ok (.ireturn, 1) := by decide +kernel
theorem d_Rdr_takeOther_153 : decode b_Rdr_takeOther 153 = .ok (.aload_n 0, 1) := by decide +kernel
theorem d_Rdr_takeOther_154 : decode b_Rdr_takeOther 154 = .ok (.getfield 19, 3) := by decide +kernel
theorem d_Rdr_takeOther_157 : decode b_Rdr_takeOther 157 = .ok (.invokevirtual 96, 3) := by decide +kernel
theorem d_Rdr_takeOther_160 : decode b_Rdr_takeOther 160 = .ok (.ifCond .eq 5, 3) := by decide +kernel
theorem d_Rdr_takeOther_163 : decode b_Rdr_takeOther 163 = .ok (.iconst 2, 1) := by decide +kernel
theorem d_Rdr_takeOther_164 : decode b_Rdr_takeOther 164 = .ok (.ireturn, 1) := by decide +kernel
theorem d_Rdr_takeOther_165 : decode b_Rdr_takeOther 165 = .ok (.aload_n 0, 1) := by decide +kernel
theorem d_Rdr_takeOther_166 : decode b_Rdr_takeOther 166 = .ok (.getfield 19, 3) := by decide +kernel
theorem d_Rdr_takeOther_169 : decode b_Rdr_takeOther 169 = .ok (.ldc 127, 2) := by decide +kernel
theorem d_Rdr_takeOther_171 : decode b_Rdr_takeOther 171 = .ok (.iload 7, 2) := by decide +kernel
theorem d_Rdr_takeOther_173 : decode b_Rdr_takeOther 173 = .ok (.iadd, 1) := by decide +kernel
theorem d_Rdr_takeOther_174 : decode b_Rdr_takeOther 174 = .ok (.bipush 8, 2) := by decide +kernel
theorem d_Rdr_takeOther_176 : decode b_Rdr_takeOther 176 = .ok (.iload 5, 2) := by decide +kernel
theorem d_Rdr_takeOther_178 : decode b_Rdr_takeOther 178 = .ok (.imul, 1) := by decide +kernel
theorem d_Rdr_takeOther_179 : decode b_Rdr_takeOther 179 = .ok (.iadd, 1) := by decide +kernel
theorem d_Rdr_takeOther_180 : decode b_Rdr_takeOther 180 = .ok (.iload 6, 2) := by decide +kernel
theorem d_Rdr_takeOther_182 : decode b_Rdr_takeOther 182 = .ok (.iadd, 1) := by decide +kernel
theorem d_Rdr_takeOther_183 : decode b_Rdr_takeOther 183 = .ok (.invokevirtual 104, 3) := by decide +kernel
theorem d_Rdr_takeOther_186 : decode b_Rdr_takeOther 186 = .ok (.iconst 0, 1) := by decide +kernel
theorem d_Rdr_takeOther_187 : decode b_Rdr_takeOther 187 = .ok (.ireturn, 1) := by decide +kernel
theorem d_Txt_find_0 : decode b_Txt_find 0 = .ok (.iload_n 2, 1) := by decide +kernel
theorem d_Txt_find_1 : decode b_Txt_find 1 = .ok (.istore 4, 2) := by decide +kernel
theorem d_Txt_find_3 : decode b_Txt_find 3 = .ok (.iload 4, 2) := by decide +kernel
theorem d_Txt_find_5 : decode b_Txt_find 5 = .ok (.iload_n 3, 1) := by decide +kernel
theorem d_Txt_find_6 : decode b_Txt_find 6 = .ok (.if_icmp .ge 22, 3) := by decide +kernel
theorem d_Txt_find_9 : decode b_Txt_find 9 = .ok (.aload_n 0, 1) := by decide +kernel
theorem d_Txt_find_10 : decode b_Txt_find 10 = .ok (.iload 4, 2) := by decide +kernel
theorem d_Txt_find_12 : decode b_Txt_find 12 = .ok (.invokevirtual 17, 3) := by decide +kernel
theorem d_Txt_find_15 : decode b_Txt_find 15 = .ok (.iload_n 1, 1) := by decide +kernel
theorem d_Txt_find_16 : decode b_Txt_find 16 = .ok (.if_icmp .ne 6, 3) := by decide +kernel
theorem d_Txt_find_19 : decode b_Txt_find 19 = .ok (.iload 4, 2) := by decide +kernel
theorem d_Txt_find_21 : decode b_Txt_find 21 = .ok (.ireturn, 1) := by decide +kernel
theorem d_Txt_find_22 : decode b_Txt_find 22 = .ok (.iinc 4 1, 3) := by decide +kernel
theorem d_Txt_find_25 : decode b_Txt_find 25 = .ok (.goto (-22), 3) := by decide +kernel
theorem d_Txt_find_28 : decode b_Txt_find 28 = .ok (.iconst (-1), 1) := by decide +kernel
theorem d_Txt_find_29 : decode b_Txt_find 29 = .ok (.ireturn, 1) := by decide +kernel
theorem d_Rdr_compBits_0 : decode b_Rdr_compBits 0 = .ok (.getstatic 128, 3) := by decide +kernel
theorem d_Rdr_compBits_3 : decode b_Rdr_compBits 3 = .ok (.aload_n 0, 1) := by decide +kernel
theorem d_Rdr_compBits_4 : decode b_Rdr_compBits 4 = .ok (.getfield 15, 3) := by decide +kernel
theorem d_Rdr_compBits_7 : decode b_Rdr_compBits 7 = .ok (.ldc 132, 2) := by decide +kernel
theorem d_Rdr_compBits_9 : decode b_Rdr_compBits 9 = .ok (.iload_n 1, 1) := by decide +kernel
theorem d_Rdr_compBits_10 : decode b_Rdr_compBits 10 = .ok (.iload_n 2, 1) := by decide +kernel
theorem d_Rdr_compBits_11 : decode b_Rdr_compBits 11 = .ok (.invokevirtual 118, 3) := by decide +kernel
theorem d_Rdr_compBits_14 : decode b_Rdr_compBits 14 = .ok (.invokestatic 134, 3) := by decide +kernel
theorem d_Rdr_compBits_17 : decode b_Rdr_compBits 17 = .ok (.istore_n 3, 1) := by decide +kernel
theorem d_Rdr_compBits_18 : decode b_Rdr_compBits 18 = .ok (.iload_n 3, 1) := by decide +kernel
theorem d_Rdr_compBits_19 : decode b_Rdr_compBits 19 = .ok (.ifCond .lt 8, 3) := by decide +kernel
theorem d_Rdr_compBits_22 : decode b_Rdr_compBits 22 = .ok (.bipush 64, 2) := by decide +kernel
theorem d_Rdr_compBits_24 : decode b_Rdr_compBits 24 = .ok (.iload_n 3, 1) := by decide +kernel
theorem d_Rdr_compBits_25 : decode b_Rdr_compBits 25 = .ok (.imul, 1) := by decide +kernel
theorem d_Rdr_compBits_26 : decode b_Rdr_compBits 26 = .ok (.ireturn, 1) := by decide +kernel
theorem d_Rdr_compBits_27 : decode b_Rdr_compBits 27 = .ok (.getstatic 138, 3) := by decide +kernel
theorem d_Rdr_compBits_30 : decode b_Rdr_compBits 30 = .ok (.aload_n 0, 1) := by decide +kernel
theorem d_Rdr_compBits_31 : decode b_Rdr_compBits 31 = .ok (.getfield 15, 3) := by decide +kernel
theorem d_Rdr_compBits_34 : decode b_Rdr_compBits 34 = .ok (.ldc 141, 2) := by decide +kernel
theorem d_Rdr_compBits_36 : decode b_Rdr_compBits 36 = .ok (.iload_n 1, 1) := by decide +kernel
theorem d_Rdr_compBits_37 : decode b_Rdr_compBits 37 = .ok (.iload_n 2, 1) := by decide +kernel
theorem d_Rdr_compBits_38 : decode b_Rdr_compBits 38 = .ok (.invokevirtual 118, 3) := by decide +kernel
theorem d_Rdr_compBits_41 : decode b_Rdr_compBits 41 = .ok (.invokestatic 134, 3) := by decide +kernel
theorem d_Rdr_compBits_44 : decode b_Rdr_compBits 44 = .ok (.istore_n 3, 1) := by decide +kernel
theorem d_Rdr_compBits_45 : decode b_Rdr_compBits 45 = .ok (.iload_n 3, 1) := by decide +kernel
theorem d_Rdr_compBits_46 : decode b_Rdr_compBits 46 = .ok (.ifCond .lt 14, 3) := by decide +kernel
theorem d_Rdr_compBits_49 : decode b_Rdr_compBits 49 = .ok (.sipush 4096, 3) := by decide +kernel
theorem d_Rdr_compBits_52 : decode b_Rdr_compBits 52 = .ok (.bipush 64, 2) := by decide +kernel
theorem d_Rdr_compBits_54 : decode b_Rdr_compBits 54 = .ok (.iload_n 3, 1) := by decide +kernel
theorem d_Rdr_compBits_55 : decode b_Rdr_compBits 55 = .ok (.imul, 1) := by decide +kernel
theorem d_Rdr_compBits_56 : decode b_Rdr_compBits 56 = .ok (.iadd, 1) := by decide +kernel
theorem d_Rdr_compBits_57 : decode b_Rdr_compBits 57 = .ok (.goto 4, 3) := by decide +kernel
theorem d_Rdr_compBits_60 : decode b_Rdr_compBits 60 = .ok (.iconst (-1), 1) := by decide +kernel
theorem d_Rdr_compBits_61 : decode b_Rdr_compBits 61 = .ok (.ireturn, 1) := by decide +kernel
theorem d_Rdr_fillInSymbols_0 : decode b_Rdr_fillInSymbols 0 = .ok (.bipush 16, 2) := by decide +kernel
theorem d_Rdr_fillInSymbols_2 : decode b_Rdr_fillInSymbols 2 = .ok (.istore_n 1, 1) := by decide +kernel
theorem d_Rdr_fillInSymbols_3 : decode b_Rdr_fillInSymbols 3 = .ok (.iconst 0, 1) := by decide +kernel
theorem d_Rdr_fillInSymbols_4 : decode b_Rdr_fillInSymbols 4 = .ok (.istore_n 2, 1) := by decide +kernel
theorem d_Rdr_fillInSymbols_5 : decode b_Rdr_fillInSymbols 5 = .ok (.iload_n 2, 1) := by decide +kernel
theorem d_Rdr_fillInSymbols_6 : decode b_Rdr_fillInSymbols 6 = .ok (.aload_n 0, 1) := by decide +kernel
theorem d_Rdr_fillInSymbols_7 : decode b_Rdr_fillInSymbols 7 = .ok (.getfield 19, 3) := by decide +kernel
theorem d_Rdr_fillInSymbols_10 : decode b_Rdr_fillInSymbols 10 = .ok (.invokevirtual 108, 3) := by decide +kernel
theorem d_Rdr_fillInSymbols_13 : decode b_Rdr_fillInSymbols 13 = .ok (.if_icmp .ge 56, 3) := by decide +kernel
theorem d_Rdr_fillInSymbols_16 : decode b_Rdr_fillInSymbols 16 = .ok (.aload_n 0, 1) := by decide +kernel
theorem d_Rdr_fillInSymbols_17 : decode b_Rdr_fillInSymbols 17 = .ok (.getfield 19, 3) := by decide +kernel
theorem d_Rdr_fillInSymbols_20 : decode b_Rdr_fillInSymbols 20 = .ok (.iload_n 2, 1) := by decide +kernel
theorem d_Rdr_fillInSymbols_21 : decode b_Rdr_fillInSymbols 21 = .ok (.invokevirtual 148, 3) := by decide +kernel
theorem d_Rdr_fillInSymbols_24 : decode b_Rdr_fillInSymbols 24 = .ok (.ldc 103, 2) := by decide +kernel
theorem d_Rdr_fillInSymbols_26 : decode b_Rdr_fillInSymbols 26 = .ok (.isub, 1) := by decide +kernel
theorem d_Rdr_fillInSymbols_27 : decode b_Rdr_fillInSymbols 27 = .ok (.istore_n 3, 1) := by decide +kernel
theorem d_Rdr_fillInSymbols_28 : decode b_Rdr_fillInSymbols 28 = .ok (.iload_n 3, 1) := by decide +kernel
theorem d_Rdr_fillInSymbols_29 : decode b_Rdr_fillInSymbols 29 = .ok (.ifCond .lt 34, 3) := by decide +kernel
theorem d_Rdr_fillInSymbols_32 : decode b_Rdr_fillInSymbols 32 = .ok (.aload_n 0, 1) := by decide +kernel
theorem d_Rdr_fillInSymbols_33 : decode b_Rdr_fillInSymbols 33 = .ok (.getfield 28, 3) := by decide +kernel
theorem d_Rdr_fillInSymbols_36 : decode b_Rdr_fillInSymbols 36 = .ok (.iload_n 3, 1) := by decide +kernel
theorem d_Rdr_fillInSymbols_37 : decode b_Rdr_fillInSymbols 37 = .ok (.iload_n 1, 1) := by decide +kernel
theorem d_Rdr_fillInSymbols_38 : decode b_Rdr_fillInSymbols 38 = .ok (.invokevirtual 109, 3) := by decide +kernel
theorem d_Rdr_fillInSymbols_41 : decode b_Rdr_fillInSymbols 41 = .ok (.ifCond .eq 6, 3) := by decide +kernel
theorem d_Rdr_fillInSymbols_44 : decode b_Rdr_fillInSymbols 44 = .ok (.iinc 1 1, 3) := by decide +kernel
theorem d_Rdr_fillInSymbols_47 : decode b_Rdr_fillInSymbols 47 = .ok (.aload_n 0, 1) := by decide +kernel
theorem d_Rdr_fillInSymbols_48 : decode b_Rdr_fillInSymbols 48 = .ok (.getfield 19, 3) := by decide +kernel
theorem d_Rdr_fillInSymbols_51 : decode b_Rdr_fillInSymbols 51 = .ok (.iload_n 2, 1) := by decide +kernel
theorem d_Rdr_fillInSymbols_52 : decode b_Rdr_fillInSymbols 52 = .ok (.aload_n 0, 1) := by decide +kernel
theorem d_Rdr_fillInSymbols_53 : decode b_Rdr_fillInSymbols 53 = .ok (.getfield 28, 3) := by decide +kernel
theorem d_Rdr_fillInSymbols_56 : decode b_Rdr_fillInSymbols 56 = .ok (.iload_n 3, 1) := by decide +kernel
theorem d_Rdr_fillInSymbols_57 : decode b_Rdr_fillInSymbols 57 = .ok (.invokevirtual 151, 3) := by decide +kernel
theorem d_Rdr_fillInSymbols_60 : decode b_Rdr_fillInSymbols 60 = .ok (.invokevirtual 154, 3) := by decide +kernel
theorem d_Rdr_fillInSymbols_63 : decode b_Rdr_fillInSymbols 63 = .ok (.iinc 2 1, 3) := by decide +kernel
theorem d_Rdr_fillInSymbols_66 : decode b_Rdr_fillInSymbols 66 = .ok (.goto (-61), 3) := by decide +kernel
theorem d_Rdr_fillInSymbols_69 : decode b_Rdr_fillInSymbols 69 = .ok (.return_, 1) := by decide +kernel
theorem d_Prg_wordAt_0 : decode b_Prg_wordAt 0 = .ok (.iload_n 1, 1) := by decide +kernel
theorem d_Prg_wordAt_1 : decode b_Prg_wordAt 1 = .ok (.ifCond .lt 20, 3) := by decide +kernel
theorem d_Prg_wordAt_4 : decode b_Prg_wordAt 4 = .ok (.iload_n 1, 1) := by decide +kernel
theorem d_Prg_wordAt_5 : decode b_Prg_wordAt 5 = .ok (.aload_n 0, 1) := by decide +kernel
theorem d_Prg_wordAt_6 : decode b_Prg_wordAt 6 = .ok (.getfield 13, 3) := by decide +kernel
theorem d_Prg_wordAt_9 : decode b_Prg_wordAt 9 = .ok (.if_icmp .ge 12, 3) := by decide +kernel
theorem d_Prg_wordAt_12 : decode b_Prg_wordAt 12 = .ok (.aload_n 0, 1) := by decide +kernel
theorem d_Prg_wordAt_13 : decode b_Prg_wordAt 13 = .ok (.getfield 9, 3) := by decide +kernel
theorem d_Prg_wordAt_16 : decode b_Prg_wordAt 16 = .ok (.iload_n 1, 1) := by decide +kernel
theorem d_Prg_wordAt_17 : decode b_Prg_wordAt 17 = .ok (.iaload, 1) := by decide +kernel
theorem d_Prg_wordAt_18 : decode b_Prg_wordAt 18 = .ok (.goto 4, 3) := by decide +kernel
theorem d_Prg_wordAt_21 : decode b_Prg_wordAt 21 = .ok (.iconst (-1), 1) := by decide +kernel
theorem d_Prg_wordAt_22 : decode b_Prg_wordAt 22 = .ok (.ireturn, 1) := by decide +kernel
theorem d_Sym_numberOf_0 : decode b_Sym_numberOf 0 = .ok (.iload_n 1, 1) := by decide +kernel
theorem d_Sym_numberOf_1 : decode b_Sym_numberOf 1 = .ok (.ifCond .lt 20, 3) := by decide +kernel
theorem d_Sym_numberOf_4 : decode b_Sym_numberOf 4 = .ok (.iload_n 1, 1) := by decide +kernel
theorem d_Sym_numberOf_5 : decode b_Sym_numberOf 5 = .ok (.aload_n 0, 1) := by decide +kernel
theorem d_Sym_numberOf_6 : decode b_Sym_numberOf 6 = .ok (.getfield 23, 3) := by decide +kernel
theorem d_Sym_numberOf_9 : decode b_Sym_numberOf 9 = .ok (.if_icmp .ge 12, 3) := by decide +kernel
theorem d_Sym_numberOf_12 : decode b_Sym_numberOf 12 = .ok (.aload_n 0, 1) := by decide +kernel
theorem d_Sym_numberOf_13 : decode b_Sym_numberOf 13 = .ok (.getfield 16, 3) := by decide +kernel
theorem d_Sym_numberOf_16 : decode b_Sym_numberOf 16 = .ok (.iload_n 1, 1) := by decide +kernel
theorem d_Sym_numberOf_17 : decode b_Sym_numberOf 17 = .ok (.iaload, 1) := by decide +kernel
theorem d_Sym_numberOf_18 : decode b_Sym_numberOf 18 = .ok (.goto 4, 3) := by decide +kernel
theorem d_Sym_numberOf_21 : decode b_Sym_numberOf 21 = .ok (.iconst (-1), 1) := by decide +kernel
theorem d_Sym_numberOf_22 : decode b_Sym_numberOf 22 = .ok (.ireturn, 1) := by decide +kernel
theorem d_Prg_change_0 : decode b_Prg_change 0 = .ok (.iload_n 1, 1) := by decide +kernel
theorem d_Prg_change_1 : decode b_Prg_change 1 = .ok (.ifCond .lt 18, 3) := by decide +kernel
theorem d_Prg_change_4 : decode b_Prg_change 4 = .ok (.iload_n 1, 1) := by decide +kernel
theorem d_Prg_change_5 : decode b_Prg_change 5 = .ok (.aload_n 0, 1) := by decide +kernel
theorem d_Prg_change_6 : decode b_Prg_change 6 = .ok (.getfield 13, 3) := by decide +kernel
theorem d_Prg_change_9 : decode b_Prg_change 9 = .ok (.if_icmp .ge 10, 3) := by decide +kernel
theorem d_Prg_change_12 : decode b_Prg_change 12 = .ok (.aload_n 0, 1) := by decide +kernel
theorem d_Prg_change_13 : decode b_Prg_change 13 = .ok (.getfield 9, 3) := by decide +kernel
theorem d_Prg_change_16 : decode b_Prg_change 16 = .ok (.iload_n 1, 1) := by decide +kernel
theorem d_Prg_change_17 : decode b_Prg_change 17 = .ok (.iload_n 2, 1) := by decide +kernel
theorem d_Prg_change_18 : decode b_Prg_change 18 = .ok (.iastore, 1) := by decide +kernel
theorem d_Prg_change_19 : decode b_Prg_change 19 = .ok (.return_, 1) := by decide +kernel
theorem d_Txt_clear_0 : decode b_Txt_clear 0 = .ok (.aload_n 0, 1) := by decide +kernel
theorem d_Txt_clear_1 : decode b_Txt_clear 1 = .ok (.iconst 0, 1) := by decide +kernel
theorem d_Txt_clear_2 : decode b_Txt_clear 2 = .ok (.putfield 13, 3) := by decide +kernel
theorem d_Txt_clear_5 : decode b_Txt_clear 5 = .ok (.return_, 1) := by decide +kernel
theorem d_Prc_clear_0 : decode b_Prc_clear 0 = .ok (.aload_n 0, 1) := by decide +kernel
theorem d_Prc_clear_1 : decode b_Prc_clear 1 = .ok (.getfield 18, 3) := by decide +kernel
theorem d_Prc_clear_4 : decode b_Prc_clear 4 = .ok (.invokevirtual 22, 3) := by decide +kernel
theorem d_Prc_clear_7 : decode b_Prc_clear 7 = .ok (.aload_n 0, 1) := by decide +kernel
theorem d_Prc_clear_8 : decode b_Prc_clear 8 = .ok (.iconst 0, 1) := by decide +kernel
theorem d_Prc_clear_9 : decode b_Prc_clear 9 = .ok (.putfield 25, 3) := by decide +kernel
theorem d_Prc_clear_12 : decode b_Prc_clear 12 = .ok (.aload_n 0, 1) := by decide +kernel
theorem d_Prc_clear_13 : decode b_Prc_clear 13 = .ok (.iconst 0, 1) := by decide +kernel
theorem d_Prc_clear_14 : decode b_Prc_clear 14 = .ok (.putfield 29, 3) := by decide +kernel
theorem d_Prc_clear_17 : decode b_Prc_clear 17 = .ok (.aload_n 0, 1) := by decide +kernel
theorem d_Prc_clear_18 : decode b_Prc_clear 18 = .ok (.iconst 0, 1) := by decide +kernel
theorem d_Prc_clear_19 : decode b_Prc_clear 19 = .ok (.putfield 32, 3) := by decide +kernel
theorem d_Prc_clear_22 : decode b_Prc_clear 22 = .ok (.aload_n 0, 1) := by decide +kernel
theorem d_Prc_clear_23 : decode b_Prc_clear 23 = .ok (.iconst 0, 1) := by decide +kernel
theorem d_Prc_clear_24 : decode b_Prc_clear 24 = .ok (.putfield 35, 3) := by decide +kernel
theorem d_Prc_clear_27 : decode b_Prc_clear 27 = .ok (.return_, 1) := by decide +kernel
theorem d_Mem_clear_0 : decode b_Mem_clear 0 = .ok (.iconst 0, 1) := by decide +kernel
theorem d_Mem_clear_1 : decode b_Mem_clear 1 = .ok (.istore_n 1, 1) := by decide +kernel
theorem d_Mem_clear_2 : decode b_Mem_clear 2 = .ok (.iload_n 1, 1) := by decide +kernel
theorem d_Mem_clear_3 : decode b_Mem_clear 3 = .ok (.sipush 128, 3) := by decide +kernel
theorem d_Mem_clear_6 : decode b_Mem_clear 6 = .ok (.if_icmp .ge 28, 3) := by decide +kernel
theorem d_Mem_clear_9 : decode b_Mem_clear 9 = .ok (.aload_n 0, 1) := by decide +kernel
theorem d_Mem_clear_10 : decode b_Mem_clear 10 = .ok (.getfield 11, 3) := by decide +kernel
theorem d_Mem_clear_13 : decode b_Mem_clear 13 = .ok (.iload_n 1, 1) := by decide +kernel
theorem d_Mem_clear_14 : decode b_Mem_clear 14 = .ok (.aaload, 1) := by decide +kernel
theorem d_Mem_clear_15 : decode b_Mem_clear 15 = .ok (.astore_n 2, 1) := by decide +kernel
theorem d_Mem_clear_16 : decode b_Mem_clear 16 = .ok (.aload_n 2, 1) := by decide +kernel
theorem d_Mem_clear_17 : decode b_Mem_clear 17 = .ok (.ifnull 11, 3) := by decide +kernel
theorem d_Mem_clear_20 : decode b_Mem_clear 20 = .ok (.aload_n 2, 1) := by decide +kernel
theorem d_Mem_clear_21 : decode b_Mem_clear 21 = .ok (.getfield 20, 3) := by decide +kernel
theorem d_Mem_clear_24 : decode b_Mem_clear 24 = .ok (.iconst 0, 1) := by decide +kernel
theorem d_Mem_clear_25 : decode b_Mem_clear 25 = .ok (.invokestatic 25, 3) := by decide +kernel
theorem d_Mem_clear_28 : decode b_Mem_clear 28 = .ok (.iinc 1 1, 3) := by decide +kernel
theorem d_Mem_clear_31 : decode b_Mem_clear 31 = .ok (.goto (-29), 3) := by decide +kernel
theorem d_Mem_clear_34 : decode b_Mem_clear 34 = .ok (.return_, 1) := by decide +kernel
theorem d_JA_fill_0 : decode b_JA_fill 0 = .ok (.iconst 0, 1) := by decide +kernel
theorem d_JA_fill_1 : decode b_JA_fill 1 = .ok (.istore_n 2, 1) := by decide +kernel
theorem d_JA_fill_2 : decode b_JA_fill 2 = .ok (.aload_n 0, 1) := by decide +kernel
theorem d_JA_fill_3 : decode b_JA_fill 3 = .ok (.arraylength, 1) := by decide +kernel
theorem d_JA_fill_4 : decode b_JA_fill 4 = .ok (.istore_n 3, 1) := by decide +kernel
theorem d_JA_fill_5 : decode b_JA_fill 5 = .ok (.iload_n 2, 1) := by decide +kernel
theorem d_JA_fill_6 : decode b_JA_fill 6 = .ok (.iload_n 3, 1) := by decide +kernel
theorem d_JA_fill_7 : decode b_JA_fill 7 = .ok (.if_icmp .ge 13, 3) := by decide +kernel
theorem d_JA_fill_10 : decode b_JA_fill 10 = .ok (.aload_n 0, 1) := by decide +kernel
theorem d_JA_fill_11 : decode b_JA_fill 11 = .ok (.iload_n 2, 1) := by decide +kernel
theorem d_JA_fill_12 : decode b_JA_fill 12 = .ok (.iload_n 1, 1) := by decide +kernel
theorem d_JA_fill_13 : decode b_JA_fill 13 = .ok (.iastore, 1) := by decide +kernel
theorem d_JA_fill_14 : decode b_JA_fill 14 = .ok (.iinc 2 1, 3) := by decide +kernel
theorem d_JA_fill_17 : decode b_JA_fill 17 = .ok (.goto (-12), 3) := by decide +kernel
theorem d_JA_fill_20 : decode b_JA_fill 20 = .ok (.return_, 1) := by decide +kernel
theorem d_Dsk_place_0 : decode b_Dsk_place 0 = .ok (.aload_n 0, 1) := by decide +kernel
theorem d_Dsk_place_1 : decode b_Dsk_place 1 = .ok (.getfield 28, 3) := by decide +kernel
theorem d_Dsk_place_4 : decode b_Dsk_place 4 = .ok (.invokevirtual 53, 3) := by decide +kernel
theorem d_Dsk_place_7 : decode b_Dsk_place 7 = .ok (.ireturn, 1) := by decide +kernel
theorem d_Rdr_faultPlace_0 : decode b_Rdr_faultPlace 0 = .ok (.aload_n 0, 1) := by decide +kernel
theorem d_Rdr_faultPlace_1 : decode b_Rdr_faultPlace 1 = .ok (.getfield 11, 3) := by decide +kernel
theorem d_Rdr_faultPlace_4 : decode b_Rdr_faultPlace 4 = .ok (.ireturn, 1) := by decide +kernel
theorem d_Dsk_code_0 : decode b_Dsk_code 0 = .ok (.aload_n 0, 1) := by decide +kernel
theorem d_Dsk_code_1 : decode b_Dsk_code 1 = .ok (.getfield 19, 3) := by decide +kernel
theorem d_Dsk_code_4 : decode b_Dsk_code 4 = .ok (.iload_n 1, 1) := by decide +kernel
theorem d_Dsk_code_5 : decode b_Dsk_code 5 = .ok (.invokevirtual 56, 3) := by decide +kernel
theorem d_Dsk_code_8 : decode b_Dsk_code 8 = .ok (.ireturn, 1) := by decide +kernel
theorem d_Dsk_go_0 : decode b_Dsk_go 0 = .ok (.iload_n 1, 1) := by decide +kernel
theorem d_Dsk_go_1 : decode b_Dsk_go 1 = .ok (.ifCond .lt 10, 3) := by decide +kernel
theorem d_Dsk_go_4 : decode b_Dsk_go 4 = .ok (.iload_n 1, 1) := by decide +kernel
theorem d_Dsk_go_5 : decode b_Dsk_go 5 = .ok (.sipush 2000, 3) := by decide +kernel
theorem d_Dsk_go_8 : decode b_Dsk_go 8 = .ok (.if_icmp .le 5, 3) := by decide +kernel
theorem d_Dsk_go_11 : decode b_Dsk_go 11 = .ok (.iconst (-1), 1) := by decide +kernel
theorem d_Dsk_go_12 : decode b_Dsk_go 12 = .ok (.ireturn, 1) := by decide +kernel
theorem d_Dsk_go_13 : decode b_Dsk_go 13 = .ok (.aload_n 0, 1) := by decide +kernel
theorem d_Dsk_go_14 : decode b_Dsk_go 14 = .ok (.getfield 37, 3) := by decide +kernel
theorem d_Dsk_go_17 : decode b_Dsk_go 17 = .ok (.iload_n 1, 1) := by decide +kernel
theorem d_Dsk_go_18 : decode b_Dsk_go 18 = .ok (.invokevirtual 60, 3) := by decide +kernel
theorem d_Dsk_go_21 : decode b_Dsk_go 21 = .ok (.ireturn, 1) := by decide +kernel
theorem d_Prc_run_0 : decode b_Prc_run 0 = .ok (.iconst 0, 1) := by decide +kernel
theorem d_Prc_run_1 : decode b_Prc_run 1 = .ok (.istore_n 2, 1) := by decide +kernel
theorem d_Prc_run_2 : decode b_Prc_run 2 = .ok (.iload_n 2, 1) := by decide +kernel
theorem d_Prc_run_3 : decode b_Prc_run 3 = .ok (.iload_n 1, 1) := by decide +kernel
theorem d_Prc_run_4 : decode b_Prc_run 4 = .ok (.if_icmp .ge 42, 3) := by decide +kernel
theorem d_Prc_run_7 : decode b_Prc_run 7 = .ok (.aload_n 0, 1) := by decide +kernel
theorem d_Prc_run_8 : decode b_Prc_run 8 = .ok (.getfield 9, 3) := by decide +kernel
theorem d_Prc_run_11 : decode b_Prc_run 11 = .ok (.aload_n 0, 1) := by decide +kernel
theorem d_Prc_run_12 : decode b_Prc_run 12 = .ok (.getfield 32, 3) := by decide +kernel
theorem d_Prc_run_15 : decode b_Prc_run 15 = .ok (.invokevirtual 38, 3) := by decide +kernel
theorem d_Prc_run_18 : decode b_Prc_run 18 = .ok (.istore_n 3, 1) := by decide +kernel
theorem d_Prc_run_19 : decode b_Prc_run 19 = .ok (.iload_n 3, 1) := by decide +kernel
theorem d_Prc_run_20 : decode b_Prc_run 20 = .ok (.ifCond .ge 5, 3) := by decide +kernel
theorem d_Prc_run_23 : decode b_Prc_run 23 = .ok (.iload_n 2, 1) := by decide +kernel
theorem d_Prc_run_24 : decode b_Prc_run 24 = .ok (.ireturn, 1) := by decide +kernel
theorem d_Prc_run_25 : decode b_Prc_run 25 = .ok (.aload_n 0, 1) := by decide +kernel
theorem d_Prc_run_26 : decode b_Prc_run 26 = .ok (.iload_n 3, 1) := by decide +kernel
theorem d_Prc_run_27 : decode b_Prc_run 27 = .ok (.invokevirtual 44, 3) := by decide +kernel
theorem d_Prc_run_30 : decode b_Prc_run 30 = .ok (.aload_n 0, 1) := by decide +kernel
theorem d_Prc_run_31 : decode b_Prc_run 31 = .ok (.dup, 1) := by decide +kernel
theorem d_Prc_run_32 : decode b_Prc_run 32 = .ok (.getfield 35, 3) := by decide +kernel
theorem d_Prc_run_35 : decode b_Prc_run 35 = .ok (.iconst 1, 1) := by decide +kernel
theorem d_Prc_run_36 : decode b_Prc_run 36 = .ok (.iadd, 1) := by decide +kernel
theorem d_Prc_run_37 : decode b_Prc_run 37 = .ok (.putfield 35, 3) := by decide +kernel
theorem d_Prc_run_40 : decode b_Prc_run 40 = .ok (.iinc 2 1, 3) := by decide +kernel
theorem d_Prc_run_43 : decode b_Prc_run 43 = .ok (.goto (-41), 3) := by decide +kernel
theorem d_Prc_run_46 : decode b_Prc_run 46 = .ok (.iload_n 1, 1) := by decide +kernel
theorem d_Prc_run_47 : decode b_Prc_run 47 = .ok (.ireturn, 1) := by decide +kernel
theorem d_Prc_perform_0 : decode b_Prc_perform 0 = .ok (.iload_n 1, 1) := by decide +kernel
theorem d_Prc_perform_1 : decode b_Prc_perform 1 = .ok (.sipush 32767, 3) := by decide +kernel
theorem d_Prc_perform_4 : decode b_Prc_perform 4 = .ok (.if_icmp .gt 19, 3) := by decide +kernel
theorem d_Prc_perform_7 : decode b_Prc_perform 7 = .ok (.aload_n 0, 1) := by decide +kernel
theorem d_Prc_perform_8 : decode b_Prc_perform 8 = .ok (.iload_n 1, 1) := by decide +kernel
theorem d_Prc_perform_9 : decode b_Prc_perform 9 = .ok (.putfield 25, 3) := by decide +kernel
theorem d_Prc_perform_12 : decode b_Prc_perform 12 = .ok (.aload_n 0, 1) := by decide +kernel
theorem d_Prc_perform_13 : decode b_Prc_perform 13 = .ok (.dup, 1) := by decide +kernel
theorem d_Prc_perform_14 : decode b_Prc_perform 14 = .ok (.getfield 32, 3) := by decide +kernel
theorem d_Prc_perform_17 : decode b_Prc_perform 17 = .ok (.iconst 1, 1) := by decide +kernel
theorem d_Prc_perform_18 : decode b_Prc_perform 18 = .ok (.iadd, 1) := by decide +kernel
theorem d_Prc_perform_19 : decode b_Prc_perform 19 = .ok (.putfield 32, 3) := by decide +kernel
theorem d_Prc_perform_22 : decode b_Prc_perform 22 = .ok (.return_, 1) := by decide +kernel
theorem d_Prc_perform_23 : decode b_Prc_perform 23 = .ok (.aload_n 0, 1) := by decide +kernel
theorem d_Prc_perform_24 : decode b_Prc_perform 24 = .ok (.getfield 25, 3) := by decide +kernel
theorem d_Prc_perform_27 : decode b_Prc_perform 27 = .ok (.sipush 32767, 3) := by decide +kernel
theorem d_Prc_perform_30 : decode b_Prc_perform 30 = .ok (.iand, 1) := by decide +kernel
theorem d_Prc_perform_31 : decode b_Prc_perform 31 = .ok (.istore_n 2, 1) := by decide +kernel
theorem d_Prc_perform_32 : decode b_Prc_perform 32 = .ok (.iload_n 1, 1) := by decide +kernel
theorem d_Prc_perform_33 : decode b_Prc_perform 33 = .ok (.sipush 4096, 3) := by decide +kernel
theorem d_Prc_perform_36 : decode b_Prc_perform 36 = .ok (.iand, 1) := by decide +kernel
theorem d_Prc_perform_37 : decode b_Prc_perform 37 = .ok (.ifCond .eq 14, 3) := by decide +kernel
theorem d_Prc_perform_40 : decode b_Prc_perform 40 = .ok (.aload_n 0, 1) := by decide +kernel
theorem d_Prc_perform_41 : decode b_Prc_perform 41 = .ok (.getfield 18, 3) := by decide +kernel
theorem d_Prc_perform_44 : decode b_Prc_perform 44 = .ok (.iload_n 2, 1) := by decide +kernel
theorem d_Prc_perform_45 : decode b_Prc_perform 45 = .ok (.invokevirtual 48, 3) := by decide +kernel
theorem d_Prc_perform_48 : decode b_Prc_perform 48 = .ok (.goto 7, 3) := by decide +kernel
theorem d_Prc_perform_51 : decode b_Prc_perform 51 = .ok (.aload_n 0, 1) := by decide +kernel
theorem d_Prc_perform_52 : decode b_Prc_perform 52 = .ok (.getfield 25, 3) := by decide +kernel
theorem d_Prc_perform_55 : decode b_Prc_perform 55 = .ok (.istore_n 3, 1) := by decide +kernel
theorem d_Prc_perform_56 : decode b_Prc_perform 56 = .ok (.iload_n 1, 1) := by decide +kernel
theorem d_Prc_perform_57 : decode b_Prc_perform 57 = .ok (.bipush 6, 2) := by decide +kernel
theorem d_Prc_perform_59 : decode b_Prc_perform 59 = .ok (.ishr, 1) := by decide +kernel
theorem d_Prc_perform_60 : decode b_Prc_perform 60 = .ok (.aload_n 0, 1) := by decide +kernel
theorem d_Prc_perform_61 : decode b_Prc_perform 61 = .ok (.getfield 29, 3) := by decide +kernel
theorem d_Prc_perform_64 : decode b_Prc_perform 64 = .ok (.iload_n 3, 1) := by decide +kernel
theorem d_Prc_perform_65 : decode b_Prc_perform 65 = .ok (.invokestatic 49, 3) := by decide +kernel
theorem d_Prc_perform_68 : decode b_Prc_perform 68 = .ok (.istore 4, 2) := by decide +kernel
theorem d_Prc_perform_70 : decode b_Prc_perform 70 = .ok (.iload_n 1, 1) := by decide +kernel
theorem d_Prc_perform_71 : decode b_Prc_perform 71 = .ok (.bipush 8, 2) := by decide +kernel
theorem d_Prc_perform_73 : decode b_Prc_perform 73 = .ok (.iand, 1) := by decide +kernel
theorem d_Prc_perform_74 : decode b_Prc_perform 74 = .ok (.ifCond .eq 13, 3) := by decide +kernel
theorem d_Prc_perform_77 : decode b_Prc_perform 77 = .ok (.aload_n 0, 1) := by decide +kernel
theorem d_Prc_perform_78 : decode b_Prc_perform 78 = .ok (.getfield 18, 3) := by decide +kernel
theorem d_Prc_perform_81 : decode b_Prc_perform 81 = .ok (.iload_n 2, 1) := by decide +kernel
theorem d_Prc_perform_82 : decode b_Prc_perform 82 = .ok (.iload 4, 2) := by decide +kernel
theorem d_Prc_perform_84 : decode b_Prc_perform 84 = .ok (.invokevirtual 53, 3) := by decide +kernel
theorem d_Prc_perform_87 : decode b_Prc_perform 87 = .ok (.iload_n 1, 1) := by decide +kernel
theorem d_Prc_perform_88 : decode b_Prc_perform 88 = .ok (.bipush 32, 2) := by decide +kernel
theorem d_Prc_perform_90 : decode b_Prc_perform 90 = .ok (.iand, 1) := by decide +kernel
theorem d_Prc_perform_91 : decode b_Prc_perform 91 = .ok (.ifCond .eq 9, 3) := by decide +kernel
theorem d_Prc_perform_94 : decode b_Prc_perform 94 = .ok (.aload_n 0, 1) := by decide +kernel
theorem d_Prc_perform_95 : decode b_Prc_perform 95 = .ok (.iload 4, 2) := by decide +kernel
theorem d_Prc_perform_97 : decode b_Prc_perform 97 = .ok (.putfield 25, 3) := by decide +kernel
theorem d_Prc_perform_100 : decode b_Prc_perform 100 = .ok (.iload_n 1, 1) := by decide +kernel
theorem d_Prc_perform_101 : decode b_Prc_perform 101 = .ok (.bipush 16, 2) := by decide +kernel
theorem d_Prc_perform_103 : decode b_Prc_perform 103 = .ok (.iand, 1) := by decide +kernel
theorem d_Prc_perform_104 : decode b_Prc_perform 104 = .ok (.ifCond .eq 9, 3) := by decide +kernel
theorem d_Prc_perform_107 : decode b_Prc_perform 107 = .ok (.aload_n 0, 1) := by decide +kernel
theorem d_Prc_perform_108 : decode b_Prc_perform 108 = .ok (.iload 4, 2) := by decide +kernel
theorem d_Prc_perform_110 : decode b_Prc_perform 110 = .ok (.putfield 29, 3) := by decide +kernel
theorem d_Prc_perform_113 : decode b_Prc_perform 113 = .ok (.iload 4, 2) := by decide +kernel
theorem d_Prc_perform_115 : decode b_Prc_perform 115 = .ok (.ifCond .le 7, 3) := by decide +kernel
theorem d_Prc_perform_118 : decode b_Prc_perform 118 = .ok (.iconst 1, 1) := by decide +kernel
theorem d_Prc_perform_119 : decode b_Prc_perform 119 = .ok (.goto 13, 3) := by decide +kernel
theorem d_Prc_perform_122 : decode b_Prc_perform 122 = .ok (.iload 4, 2) := by decide +kernel
theorem d_Prc_perform_124 : decode b_Prc_perform 124 = .ok (.ifCond .ne 7, 3) := by decide +kernel
theorem d_Prc_perform_127 : decode b_Prc_perform 127 = .ok (.iconst 2, 1) := by decide +kernel
theorem d_Prc_perform_128 : decode b_Prc_perform 128 = .ok (.goto 4, 3) := by decide +kernel
theorem d_Prc_perform_131 : decode b_Prc_perform 131 = .ok (.iconst 4, 1) := by decide +kernel
theorem d_Prc_perform_132 : decode b_Prc_perform 132 = .ok (.istore 5, 2) := by decide +kernel
theorem d_Prc_perform_134 : decode b_Prc_perform 134 = .ok (.aload_n 0, 1) := by decide +kernel
theorem d_Prc_perform_135 : decode b_Prc_perform 135 = .ok (.iload_n 1, 1) := by decide +kernel
theorem d_Prc_perform_136 : decode b_Prc_perform 136 = .ok (.iload 5, 2) := by decide +kernel
theorem d_Prc_perform_138 : decode b_Prc_perform 138 = .ok (.iand, 1) := by decide +kernel
theorem d_Prc_perform_139 : decode b_Prc_perform 139 = .ok (.ifCond .eq 7, 3) := by decide +kernel
theorem d_Prc_perform_142 : decode b_Prc_perform 142 = .ok (.iload_n 2, 1) := by decide +kernel
theorem d_Prc_perform_143 : decode b_Prc_perform 143 = .ok (.goto 9, 3) := by decide +kernel
theorem d_Prc_perform_146 : decode b_Prc_perform 146 = .ok (.aload_n 0, 1) := by decide +kernel
theorem d_Prc_perform_147 : decode b_Prc_perform 147 = .ok (.getfield 32, 3) := by decide +kernel
theorem d_Prc_perform_150 : decode b_Prc_perform 150 = .ok (.iconst 1, 1) := by decide +kernel
theorem d_Prc_perform_151 : decode b_Prc_perform 151 = .ok (.iadd, 1) := by decide +kernel
theorem d_Prc_perform_152 : decode b_Prc_perform 152 = .ok (.putfield 32, 3) := by decide +kernel
theorem d_Prc_perform_155 : decode b_Prc_perform 155 = .ok (.return_, 1) := by decide +kernel
theorem d_Mem_wordAt_0 : decode b_Mem_wordAt 0 = .ok (.iload_n 1, 1) := by decide +kernel
theorem d_Mem_wordAt_1 : decode b_Mem_wordAt 1 = .ok (.invokestatic 16, 3) := by decide +kernel
theorem d_Mem_wordAt_4 : decode b_Mem_wordAt 4 = .ok (.ifCond .ne 5, 3) := by decide +kernel
theorem d_Mem_wordAt_7 : decode b_Mem_wordAt 7 = .ok (.iconst 0, 1) := by decide +kernel
theorem d_Mem_wordAt_8 : decode b_Mem_wordAt 8 = .ok (.ireturn, 1) := by decide +kernel
theorem d_Mem_wordAt_9 : decode b_Mem_wordAt 9 = .ok (.aload_n 0, 1) := by decide +kernel
theorem d_Mem_wordAt_10 : decode b_Mem_wordAt 10 = .ok (.getfield 11, 3) := by decide +kernel
theorem d_Mem_wordAt_13 : decode b_Mem_wordAt 13 = .ok (.iload_n 1, 1) := by decide +kernel
theorem d_Mem_wordAt_14 : decode b_Mem_wordAt 14 = .ok (.sipush 256, 3) := by decide +kernel
theorem d_Mem_wordAt_17 : decode b_Mem_wordAt 17 = .ok (.idiv, 1) := by decide +kernel
theorem d_Mem_wordAt_18 : decode b_Mem_wordAt 18 = .ok (.aaload, 1) := by decide +kernel
theorem d_Mem_wordAt_19 : decode b_Mem_wordAt 19 = .ok (.astore_n 2, 1) := by decide +kernel
theorem d_Mem_wordAt_20 : decode b_Mem_wordAt 20 = .ok (.aload_n 2, 1) := by decide +kernel
theorem d_Mem_wordAt_21 : decode b_Mem_wordAt 21 = .ok (.ifnonnull 7, 3) := by decide +kernel
theorem d_Mem_wordAt_24 : decode b_Mem_wordAt 24 = .ok (.iconst 0, 1) := by decide +kernel
theorem d_Mem_wordAt_25 : decode b_Mem_wordAt 25 = .ok (.goto 13, 3) := by decide +kernel
theorem d_Mem_wordAt_28 : decode b_Mem_wordAt 28 = .ok (.aload_n 2, 1) := by decide +kernel
theorem d_Mem_wordAt_29 : decode b_Mem_wordAt 29 = .ok (.getfield 20, 3) := by decide +kernel
theorem d_Mem_wordAt_32 : decode b_Mem_wordAt 32 = .ok (.iload_n 1, 1) := by decide +kernel
theorem d_Mem_wordAt_33 : decode b_Mem_wordAt 33 = .ok (.sipush 256, 3) := by decide +kernel
theorem d_Mem_wordAt_36 : decode b_Mem_wordAt 36 = .ok (.irem, 1) := by decide +kernel
theorem d_Mem_wordAt_37 : decode b_Mem_wordAt 37 = .ok (.iaload, 1) := by decide +kernel
theorem d_Mem_wordAt_38 : decode b_Mem_wordAt 38 = .ok (.ireturn, 1) := by decide +kernel
theorem d_Mem_holds_0 : decode b_Mem_holds 0 = .ok (.iload_n 0, 1) := by decide +kernel
theorem d_Mem_holds_1 : decode b_Mem_holds 1 = .ok (.ifCond .lt 13, 3) := by decide +kernel
theorem d_Mem_holds_4 : decode b_Mem_holds 4 = .ok (.iload_n 0, 1) := by decide +kernel
theorem d_Mem_holds_5 : decode b_Mem_holds 5 = .ok (.ldc 15, 2) := by decide +kernel
theorem d_Mem_holds_7 : decode b_Mem_holds 7 = .ok (.if_icmp .ge 7, 3) := by decide +kernel
theorem d_Mem_holds_10 : decode b_Mem_holds 10 = .ok (.iconst 1, 1) := by decide +kernel
theorem d_Mem_holds_11 : decode b_Mem_holds 11 = .ok (.goto 4, 3) := by decide +kernel
theorem d_Mem_holds_14 : decode b_Mem_holds 14 = .ok (.iconst 0, 1) := by decide +kernel
theorem d_Mem_holds_15 : decode b_Mem_holds 15 = .ok (.ireturn, 1) := by decide +kernel
theorem d_Prc_compute_0 : decode b_Prc_compute 0 = .ok (.iload_n 0, 1) := by decide +kernel
theorem d_Prc_compute_1 : decode b_Prc_compute 1 = .ok (.bipush 32, 2) := by decide +kernel
theorem d_Prc_compute_3 : decode b_Prc_compute 3 = .ok (.iand, 1) := by decide +kernel
theorem d_Prc_compute_4 : decode b_Prc_compute 4 = .ok (.ifCond .eq 7, 3) := by decide +kernel
theorem d_Prc_compute_7 : decode b_Prc_compute 7 = .ok (.iconst 0, 1) := by decide +kernel
theorem d_Prc_compute_8 : decode b_Prc_compute 8 = .ok (.goto 4, 3) := by decide +kernel
theorem d_Prc_compute_11 : decode b_Prc_compute 11 = .ok (.iload_n 1, 1) := by decide +kernel
theorem d_Prc_compute_12 : decode b_Prc_compute 12 = .ok (.istore_n 3, 1) := by decide +kernel
theorem d_Prc_compute_13 : decode b_Prc_compute 13 = .ok (.iload_n 0, 1) := by decide +kernel
theorem d_Prc_compute_14 : decode b_Prc_compute 14 = .ok (.bipush 16, 2) := by decide +kernel
theorem d_Prc_compute_16 : decode b_Prc_compute 16 = .ok (.iand, 1) := by decide +kernel
theorem d_Prc_compute_17 : decode b_Prc_compute 17 = .ok (.ifCond .eq 9, 3) := by decide +kernel
theorem d_Prc_compute_20 : decode b_Prc_compute 20 = .ok (.iload_n 3, 1) := by decide +kernel
theorem d_Prc_compute_21 : decode b_Prc_compute 21 = .ok (.iconst (-1), 1) := by decide +kernel
theorem d_Prc_compute_22 : decode b_Prc_compute 22 = .ok (.ixor, 1) := by decide +kernel
end
section
/-! decode rows -/
theorem d_Prc_compute_23 : decode b_Prc_compute 23 = .ok (.goto 4, 3) := by decide +kernel
theorem d_Prc_compute_26 : decode b_Prc_compute 26 = .ok (.iload_n 3, 1) := by decide +kernel
theorem d_Prc_compute_27 : decode b_Prc_compute 27 = .ok (.istore_n 3, 1) := by decide +kernel
theorem d_Prc_compute_28 : decode b_Prc_compute 28 = .ok (.iload_n 0, 1) := by decide +kernel
theorem d_Prc_compute_29 : decode b_Prc_compute 29 = .ok (.bipush 8, 2) := by decide +kernel
theorem d_Prc_compute_31 : decode b_Prc_compute 31 = .ok (.iand, 1) := by decide +kernel
theorem d_Prc_compute_32 : decode b_Prc_compute 32 = .ok (.ifCond .eq 7, 3) := by decide +kernel
theorem d_Prc_compute_35 : decode b_Prc_compute 35 = .ok (.iconst 0, 1) := by decide +kernel
theorem d_Prc_compute_36 : decode b_Prc_compute 36 = .ok (.goto 4, 3) := by decide +kernel
theorem d_Prc_compute_39 : decode b_Prc_compute 39 = .ok (.iload_n 2, 1) := by decide +kernel
theorem d_Prc_compute_40 : decode b_Prc_compute 40 = .ok (.istore 4, 2) := by decide +kernel
theorem d_Prc_compute_42 : decode b_Prc_compute 42 = .ok (.iload_n 0, 1) := by decide +kernel
theorem d_Prc_compute_43 : decode b_Prc_compute 43 = .ok (.iconst 4, 1) := by decide +kernel
theorem d_Prc_compute_44 : decode b_Prc_compute 44 = .ok (.iand, 1) := by decide +kernel
theorem d_Prc_compute_45 : decode b_Prc_compute 45 = .ok (.ifCond .eq 10, 3) := by decide +kernel
theorem d_Prc_compute_48 : decode b_Prc_compute 48 = .ok (.iload 4, 2) := by decide +kernel
theorem d_Prc_compute_50 : decode b_Prc_compute 50 = .ok (.iconst (-1), 1) := by decide +kernel
theorem d_Prc_compute_51 : decode b_Prc_compute 51 = .ok (.ixor, 1) := by decide +kernel
theorem d_Prc_compute_52 : decode b_Prc_compute 52 = .ok (.goto 5, 3) := by decide +kernel
theorem d_Prc_compute_55 : decode b_Prc_compute 55 = .ok (.iload 4, 2) := by decide +kernel
theorem d_Prc_compute_57 : decode b_Prc_compute 57 = .ok (.istore 4, 2) := by decide +kernel
theorem d_Prc_compute_59 : decode b_Prc_compute 59 = .ok (.iload_n 0, 1) := by decide +kernel
theorem d_Prc_compute_60 : decode b_Prc_compute 60 = .ok (.iconst 2, 1) := by decide +kernel
theorem d_Prc_compute_61 : decode b_Prc_compute 61 = .ok (.iand, 1) := by decide +kernel
theorem d_Prc_compute_62 : decode b_Prc_compute 62 = .ok (.ifCond .eq 10, 3) := by decide +kernel
theorem d_Prc_compute_65 : decode b_Prc_compute 65 = .ok (.iload_n 3, 1) := by decide +kernel
theorem d_Prc_compute_66 : decode b_Prc_compute 66 = .ok (.iload 4, 2) := by decide +kernel
theorem d_Prc_compute_68 : decode b_Prc_compute 68 = .ok (.iadd, 1) := by decide +kernel
theorem d_Prc_compute_69 : decode b_Prc_compute 69 = .ok (.goto 7, 3) := by decide +kernel
theorem d_Prc_compute_72 : decode b_Prc_compute 72 = .ok (.iload_n 3, 1) := by decide +kernel
theorem d_Prc_compute_73 : decode b_Prc_compute 73 = .ok (.iload 4, 2) := by decide +kernel
theorem d_Prc_compute_75 : decode b_Prc_compute 75 = .ok (.iand, 1) := by decide +kernel
theorem d_Prc_compute_76 : decode b_Prc_compute 76 = .ok (.istore 5, 2) := by decide +kernel
theorem d_Prc_compute_78 : decode b_Prc_compute 78 = .ok (.iload_n 0, 1) := by decide +kernel
theorem d_Prc_compute_79 : decode b_Prc_compute 79 = .ok (.iconst 1, 1) := by decide +kernel
theorem d_Prc_compute_80 : decode b_Prc_compute 80 = .ok (.iand, 1) := by decide +kernel
theorem d_Prc_compute_81 : decode b_Prc_compute 81 = .ok (.ifCond .eq 10, 3) := by decide +kernel
theorem d_Prc_compute_84 : decode b_Prc_compute 84 = .ok (.iload 5, 2) := by decide +kernel
theorem d_Prc_compute_86 : decode b_Prc_compute 86 = .ok (.iconst (-1), 1) := by decide +kernel
theorem d_Prc_compute_87 : decode b_Prc_compute 87 = .ok (.ixor, 1) := by decide +kernel
theorem d_Prc_compute_88 : decode b_Prc_compute 88 = .ok (.goto 5, 3) := by decide +kernel
theorem d_Prc_compute_91 : decode b_Prc_compute 91 = .ok (.iload 5, 2) := by decide +kernel
theorem d_Prc_compute_93 : decode b_Prc_compute 93 = .ok (.i2s, 1) := by decide +kernel
theorem d_Prc_compute_94 : decode b_Prc_compute 94 = .ok (.ireturn, 1) := by decide +kernel
theorem d_Mem_write_0 : decode b_Mem_write 0 = .ok (.iload_n 1, 1) := by decide +kernel
theorem d_Mem_write_1 : decode b_Mem_write 1 = .ok (.invokestatic 16, 3) := by decide +kernel
theorem d_Mem_write_4 : decode b_Mem_write 4 = .ok (.ifCond .ne 4, 3) := by decide +kernel
theorem d_Mem_write_7 : decode b_Mem_write 7 = .ok (.return_, 1) := by decide +kernel
theorem d_Mem_write_8 : decode b_Mem_write 8 = .ok (.iload_n 1, 1) := by decide +kernel
theorem d_Mem_write_9 : decode b_Mem_write 9 = .ok (.sipush 256, 3) := by decide +kernel
theorem d_Mem_write_12 : decode b_Mem_write 12 = .ok (.idiv, 1) := by decide +kernel
theorem d_Mem_write_13 : decode b_Mem_write 13 = .ok (.istore_n 3, 1) := by decide +kernel
theorem d_Mem_write_14 : decode b_Mem_write 14 = .ok (.aload_n 0, 1) := by decide +kernel
theorem d_Mem_write_15 : decode b_Mem_write 15 = .ok (.getfield 11, 3) := by decide +kernel
theorem d_Mem_write_18 : decode b_Mem_write 18 = .ok (.iload_n 3, 1) := by decide +kernel
theorem d_Mem_write_19 : decode b_Mem_write 19 = .ok (.aaload, 1) := by decide +kernel
theorem d_Mem_write_20 : decode b_Mem_write 20 = .ok (.astore 4, 2) := by decide +kernel
theorem d_Mem_write_22 : decode b_Mem_write 22 = .ok (.aload 4, 2) := by decide +kernel
theorem d_Mem_write_24 : decode b_Mem_write 24 = .ok (.ifnonnull 20, 3) := by decide +kernel
theorem d_Mem_write_27 : decode b_Mem_write 27 = .ok (.new 3, 3) := by decide +kernel
theorem d_Mem_write_30 : decode b_Mem_write 30 = .ok (.dup, 1) := by decide +kernel
theorem d_Mem_write_31 : decode b_Mem_write 31 = .ok (.invokespecial 24, 3) := by decide +kernel
theorem d_Mem_write_34 : decode b_Mem_write 34 = .ok (.astore 4, 2) := by decide +kernel
theorem d_Mem_write_36 : decode b_Mem_write 36 = .ok (.aload_n 0, 1) := by decide +kernel
theorem d_Mem_write_37 : decode b_Mem_write 37 = .ok (.getfield 11, 3) := by decide +kernel
theorem d_Mem_write_40 : decode b_Mem_write 40 = .ok (.iload_n 3, 1) := by decide +kernel
theorem d_Mem_write_41 : decode b_Mem_write 41 = .ok (.aload 4, 2) := by decide +kernel
theorem d_Mem_write_43 : decode b_Mem_write 43 = .ok (.aastore, 1) := by decide +kernel
theorem d_Mem_write_44 : decode b_Mem_write 44 = .ok (.aload 4, 2) := by decide +kernel
theorem d_Mem_write_46 : decode b_Mem_write 46 = .ok (.getfield 20, 3) := by decide +kernel
theorem d_Mem_write_49 : decode b_Mem_write 49 = .ok (.iload_n 1, 1) := by decide +kernel
theorem d_Mem_write_50 : decode b_Mem_write 50 = .ok (.sipush 256, 3) := by decide +kernel
theorem d_Mem_write_53 : decode b_Mem_write 53 = .ok (.irem, 1) := by decide +kernel
theorem d_Mem_write_54 : decode b_Mem_write 54 = .ok (.iload_n 2, 1) := by decide +kernel
theorem d_Mem_write_55 : decode b_Mem_write 55 = .ok (.i2s, 1) := by decide +kernel
theorem d_Mem_write_56 : decode b_Mem_write 56 = .ok (.iastore, 1) := by decide +kernel
theorem d_Mem_write_57 : decode b_Mem_write 57 = .ok (.return_, 1) := by decide +kernel
theorem d_Pag_init_0 : decode b_Pag_init 0 = .ok (.aload_n 0, 1) := by decide +kernel
theorem d_Pag_init_1 : decode b_Pag_init 1 = .ok (.invokespecial 1, 3) := by decide +kernel
theorem d_Pag_init_4 : decode b_Pag_init 4 = .ok (.aload_n 0, 1) := by decide +kernel
theorem d_Pag_init_5 : decode b_Pag_init 5 = .ok (.sipush 256, 3) := by decide +kernel
theorem d_Pag_init_8 : decode b_Pag_init 8 = .ok (.newarray .int, 2) := by decide +kernel
theorem d_Pag_init_10 : decode b_Pag_init 10 = .ok (.putfield 9, 3) := by decide +kernel
theorem d_Pag_init_13 : decode b_Pag_init 13 = .ok (.return_, 1) := by decide +kernel
theorem d_Dsk_set_0 : decode b_Dsk_set 0 = .ok (.iload_n 1, 1) := by decide +kernel
theorem d_Dsk_set_1 : decode b_Dsk_set 1 = .ok (.invokestatic 63, 3) := by decide +kernel
theorem d_Dsk_set_4 : decode b_Dsk_set 4 = .ok (.ifCond .ne 5, 3) := by decide +kernel
theorem d_Dsk_set_7 : decode b_Dsk_set 7 = .ok (.iconst 0, 1) := by decide +kernel
theorem d_Dsk_set_8 : decode b_Dsk_set 8 = .ok (.ireturn, 1) := by decide +kernel
theorem d_Dsk_set_9 : decode b_Dsk_set 9 = .ok (.aload_n 0, 1) := by decide +kernel
theorem d_Dsk_set_10 : decode b_Dsk_set 10 = .ok (.getfield 37, 3) := by decide +kernel
theorem d_Dsk_set_13 : decode b_Dsk_set 13 = .ok (.invokevirtual 69, 3) := by decide +kernel
theorem d_Dsk_set_16 : decode b_Dsk_set 16 = .ok (.iload_n 1, 1) := by decide +kernel
theorem d_Dsk_set_17 : decode b_Dsk_set 17 = .ok (.iload_n 2, 1) := by decide +kernel
theorem d_Dsk_set_18 : decode b_Dsk_set 18 = .ok (.invokevirtual 73, 3) := by decide +kernel
theorem d_Dsk_set_21 : decode b_Dsk_set 21 = .ok (.iconst 1, 1) := by decide +kernel
theorem d_Dsk_set_22 : decode b_Dsk_set 22 = .ok (.ireturn, 1) := by decide +kernel
theorem d_Prc_memory_0 : decode b_Prc_memory 0 = .ok (.aload_n 0, 1) := by decide +kernel
theorem d_Prc_memory_1 : decode b_Prc_memory 1 = .ok (.getfield 18, 3) := by decide +kernel
theorem d_Prc_memory_4 : decode b_Prc_memory 4 = .ok (.areturn, 1) := by decide +kernel
theorem d_Dsk_store_0 : decode b_Dsk_store 0 = .ok (.iload_n 1, 1) := by decide +kernel
theorem d_Dsk_store_1 : decode b_Dsk_store 1 = .ok (.invokestatic 63, 3) := by decide +kernel
theorem d_Dsk_store_4 : decode b_Dsk_store 4 = .ok (.ifCond .eq 17, 3) := by decide +kernel
theorem d_Dsk_store_7 : decode b_Dsk_store 7 = .ok (.aload_n 0, 1) := by decide +kernel
theorem d_Dsk_store_8 : decode b_Dsk_store 8 = .ok (.getfield 37, 3) := by decide +kernel
theorem d_Dsk_store_11 : decode b_Dsk_store 11 = .ok (.invokevirtual 69, 3) := by decide +kernel
theorem d_Dsk_store_14 : decode b_Dsk_store 14 = .ok (.iload_n 1, 1) := by decide +kernel
theorem d_Dsk_store_15 : decode b_Dsk_store 15 = .ok (.invokevirtual 77, 3) := by decide +kernel
theorem d_Dsk_store_18 : decode b_Dsk_store 18 = .ok (.goto 5, 3) := by decide +kernel
theorem d_Dsk_store_21 : decode b_Dsk_store 21 = .ok (.ldc 78, 2) := by decide +kernel
theorem d_Dsk_store_23 : decode b_Dsk_store 23 = .ok (.ireturn, 1) := by decide +kernel
theorem d_Dsk_register_0 : decode b_Dsk_register 0 = .ok (.iload_n 1, 1) := by decide +kernel
theorem d_Dsk_register_1 : decode b_Dsk_register 1 = .ok (.tableswitch 99 0 6 #[43, 51, 59, 67, 75, 83, 91], 43) := by decide +kernel
theorem d_Dsk_register_44 : decode b_Dsk_register 44 = .ok (.aload_n 0, 1) := by decide +kernel
theorem d_Dsk_register_45 : decode b_Dsk_register 45 = .ok (.getfield 37, 3) := by decide +kernel
theorem d_Dsk_register_48 : decode b_Dsk_register 48 = .ok (.invokevirtual 79, 3) := by decide +kernel
theorem d_Dsk_register_51 : decode b_Dsk_register 51 = .ok (.ireturn, 1) := by decide +kernel
theorem d_Dsk_register_52 : decode b_Dsk_register 52 = .ok (.aload_n 0, 1) := by decide +kernel
theorem d_Dsk_register_53 : decode b_Dsk_register 53 = .ok (.getfield 37, 3) := by decide +kernel
theorem d_Dsk_register_56 : decode b_Dsk_register 56 = .ok (.invokevirtual 82, 3) := by decide +kernel
theorem d_Dsk_register_59 : decode b_Dsk_register 59 = .ok (.ireturn, 1) := by decide +kernel
theorem d_Dsk_register_60 : decode b_Dsk_register 60 = .ok (.aload_n 0, 1) := by decide +kernel
theorem d_Dsk_register_61 : decode b_Dsk_register 61 = .ok (.getfield 37, 3) := by decide +kernel
theorem d_Dsk_register_64 : decode b_Dsk_register 64 = .ok (.invokevirtual 85, 3) := by decide +kernel
theorem d_Dsk_register_67 : decode b_Dsk_register 67 = .ok (.ireturn, 1) := by decide +kernel
theorem d_Dsk_register_68 : decode b_Dsk_register 68 = .ok (.aload_n 0, 1) := by decide +kernel
theorem d_Dsk_register_69 : decode b_Dsk_register 69 = .ok (.getfield 19, 3) := by decide +kernel
theorem d_Dsk_register_72 : decode b_Dsk_register 72 = .ok (.invokevirtual 88, 3) := by decide +kernel
theorem d_Dsk_register_75 : decode b_Dsk_register 75 = .ok (.ireturn, 1) := by decide +kernel
theorem d_Dsk_register_76 : decode b_Dsk_register 76 = .ok (.aload_n 0, 1) := by decide +kernel
theorem d_Dsk_register_77 : decode b_Dsk_register 77 = .ok (.getfield 37, 3) := by decide +kernel
theorem d_Dsk_register_80 : decode b_Dsk_register 80 = .ok (.invokevirtual 91, 3) := by decide +kernel
theorem d_Dsk_register_83 : decode b_Dsk_register 83 = .ok (.ireturn, 1) := by decide +kernel
theorem d_Dsk_register_84 : decode b_Dsk_register 84 = .ok (.aload_n 0, 1) := by decide +kernel
theorem d_Dsk_register_85 : decode b_Dsk_register 85 = .ok (.getfield 28, 3) := by decide +kernel
theorem d_Dsk_register_88 : decode b_Dsk_register 88 = .ok (.invokevirtual 94, 3) := by decide +kernel
theorem d_Dsk_register_91 : decode b_Dsk_register 91 = .ok (.ireturn, 1) := by decide +kernel
theorem d_Dsk_register_92 : decode b_Dsk_register 92 = .ok (.aload_n 0, 1) := by decide +kernel
theorem d_Dsk_register_93 : decode b_Dsk_register 93 = .ok (.getfield 10, 3) := by decide +kernel
theorem d_Dsk_register_96 : decode b_Dsk_register 96 = .ok (.invokevirtual 97, 3) := by decide +kernel
theorem d_Dsk_register_99 : decode b_Dsk_register 99 = .ok (.ireturn, 1) := by decide +kernel
theorem d_Dsk_register_100 : decode b_Dsk_register 100 = .ok (.ldc 78, 2) := by decide +kernel
theorem d_Dsk_register_102 : decode b_Dsk_register 102 = .ok (.ireturn, 1) := by decide +kernel
theorem d_Prc_a_0 : decode b_Prc_a 0 = .ok (.aload_n 0, 1) := by decide +kernel
theorem d_Prc_a_1 : decode b_Prc_a 1 = .ok (.getfield 25, 3) := by decide +kernel
theorem d_Prc_a_4 : decode b_Prc_a 4 = .ok (.ireturn, 1) := by decide +kernel
theorem d_Prc_d_0 : decode b_Prc_d 0 = .ok (.aload_n 0, 1) := by decide +kernel
theorem d_Prc_d_1 : decode b_Prc_d 1 = .ok (.getfield 29, 3) := by decide +kernel
theorem d_Prc_d_4 : decode b_Prc_d 4 = .ok (.ireturn, 1) := by decide +kernel
theorem d_Prc_next_0 : decode b_Prc_next 0 = .ok (.aload_n 0, 1) := by decide +kernel
theorem d_Prc_next_1 : decode b_Prc_next 1 = .ok (.getfield 32, 3) := by decide +kernel
theorem d_Prc_next_4 : decode b_Prc_next 4 = .ok (.ireturn, 1) := by decide +kernel
theorem d_Prc_done_0 : decode b_Prc_done 0 = .ok (.aload_n 0, 1) := by decide +kernel
theorem d_Prc_done_1 : decode b_Prc_done 1 = .ok (.getfield 35, 3) := by decide +kernel
theorem d_Prc_done_4 : decode b_Prc_done 4 = .ok (.ireturn, 1) := by decide +kernel
theorem d_Rdr_symbolCount_0 : decode b_Rdr_symbolCount 0 = .ok (.aload_n 0, 1) := by decide +kernel
theorem d_Rdr_symbolCount_1 : decode b_Rdr_symbolCount 1 = .ok (.getfield 28, 3) := by decide +kernel
theorem d_Rdr_symbolCount_4 : decode b_Rdr_symbolCount 4 = .ok (.invokevirtual 32, 3) := by decide +kernel
theorem d_Rdr_symbolCount_7 : decode b_Rdr_symbolCount 7 = .ok (.ireturn, 1) := by decide +kernel
theorem d_Sym_count_0 : decode b_Sym_count 0 = .ok (.aload_n 0, 1) := by decide +kernel
theorem d_Sym_count_1 : decode b_Sym_count 1 = .ok (.getfield 23, 3) := by decide +kernel
theorem d_Sym_count_4 : decode b_Sym_count 4 = .ok (.ireturn, 1) := by decide +kernel
theorem d_Mod_init_0 : decode b_Mod_init 0 = .ok (.aload_n 0, 1) := by decide +kernel
theorem d_Mod_init_1 : decode b_Mod_init 1 = .ok (.invokespecial 1, 3) := by decide +kernel
theorem d_Mod_init_4 : decode b_Mod_init 4 = .ok (.aload_n 0, 1) := by decide +kernel
theorem d_Mod_init_5 : decode b_Mod_init 5 = .ok (.sipush 2000, 3) := by decide +kernel
theorem d_Mod_init_8 : decode b_Mod_init 8 = .ok (.newarray .int, 2) := by decide +kernel
theorem d_Mod_init_10 : decode b_Mod_init 10 = .ok (.putfield 7, 3) := by decide +kernel
theorem d_Mod_init_13 : decode b_Mod_init 13 = .ok (.aload_n 0, 1) := by decide +kernel
theorem d_Mod_init_14 : decode b_Mod_init 14 = .ok (.iconst (-1), 1) := by decide +kernel
theorem d_Mod_init_15 : decode b_Mod_init 15 = .ok (.putfield 13, 3) := by decide +kernel
theorem d_Mod_init_18 : decode b_Mod_init 18 = .ok (.aload_n 0, 1) := by decide +kernel
theorem d_Mod_init_19 : decode b_Mod_init 19 = .ok (.sipush 600, 3) := by decide +kernel
theorem d_Mod_init_22 : decode b_Mod_init 22 = .ok (.newarray .int, 2) := by decide +kernel
theorem d_Mod_init_24 : decode b_Mod_init 24 = .ok (.putfield 17, 3) := by decide +kernel
theorem d_Mod_init_27 : decode b_Mod_init 27 = .ok (.aload_n 0, 1) := by decide +kernel
theorem d_Mod_init_28 : decode b_Mod_init 28 = .ok (.bipush 40, 2) := by decide +kernel
theorem d_Mod_init_30 : decode b_Mod_init 30 = .ok (.newarray .int, 2) := by decide +kernel
theorem d_Mod_init_32 : decode b_Mod_init 32 = .ok (.putfield 20, 3) := by decide +kernel
theorem d_Mod_init_35 : decode b_Mod_init 35 = .ok (.aload_n 0, 1) := by decide +kernel
theorem d_Mod_init_36 : decode b_Mod_init 36 = .ok (.bipush 40, 2) := by decide +kernel
theorem d_Mod_init_38 : decode b_Mod_init 38 = .ok (.newarray .int, 2) := by decide +kernel
theorem d_Mod_init_40 : decode b_Mod_init 40 = .ok (.putfield 23, 3) := by decide +kernel
theorem d_Mod_init_43 : decode b_Mod_init 43 = .ok (.aload_n 0, 1) := by decide +kernel
theorem d_Mod_init_44 : decode b_Mod_init 44 = .ok (.bipush 40, 2) := by decide +kernel
theorem d_Mod_init_46 : decode b_Mod_init 46 = .ok (.newarray .int, 2) := by decide +kernel
theorem d_Mod_init_48 : decode b_Mod_init 48 = .ok (.putfield 26, 3) := by decide +kernel
theorem d_Mod_init_51 : decode b_Mod_init 51 = .ok (.aload_n 0, 1) := by decide +kernel
theorem d_Mod_init_52 : decode b_Mod_init 52 = .ok (.sipush 600, 3) := by decide +kernel
theorem d_Mod_init_55 : decode b_Mod_init 55 = .ok (.newarray .int, 2) := by decide +kernel
theorem d_Mod_init_57 : decode b_Mod_init 57 = .ok (.putfield 29, 3) := by decide +kernel
theorem d_Mod_init_60 : decode b_Mod_init 60 = .ok (.aload_n 0, 1) := by decide +kernel
theorem d_Mod_init_61 : decode b_Mod_init 61 = .ok (.ldc 32, 2) := by decide +kernel
theorem d_Mod_init_63 : decode b_Mod_init 63 = .ok (.newarray .int, 2) := by decide +kernel
theorem d_Mod_init_65 : decode b_Mod_init 65 = .ok (.putfield 33, 3) := by decide +kernel
theorem d_Mod_init_68 : decode b_Mod_init 68 = .ok (.aload_n 0, 1) := by decide +kernel
theorem d_Mod_init_69 : decode b_Mod_init 69 = .ok (.bipush 32, 2) := by decide +kernel
theorem d_Mod_init_71 : decode b_Mod_init 71 = .ok (.newarray .char, 2) := by decide +kernel
theorem d_Mod_init_73 : decode b_Mod_init 73 = .ok (.dup, 1) := by decide +kernel
theorem d_Mod_init_74 : decode b_Mod_init 74 = .ok (.iconst 0, 1) := by decide +kernel
theorem d_Mod_init_75 : decode b_Mod_init 75 = .ok (.bipush 83, 2) := by decide +kernel
theorem d_Mod_init_77 : decode b_Mod_init 77 = .ok (.castore, 1) := by decide +kernel
theorem d_Mod_init_78 : decode b_Mod_init 78 = .ok (.dup, 1) := by decide +kernel
theorem d_Mod_init_79 : decode b_Mod_init 79 = .ok (.iconst 1, 1) := by decide +kernel
theorem d_Mod_init_80 : decode b_Mod_init 80 = .ok (.bipush 80, 2) := by decide +kernel
theorem d_Mod_init_82 : decode b_Mod_init 82 = .ok (.castore, 1) := by decide +kernel
theorem d_Mod_init_83 : decode b_Mod_init 83 = .ok (.dup, 1) := by decide +kernel
theorem d_Mod_init_84 : decode b_Mod_init 84 = .ok (.iconst 2, 1) := by decide +kernel
theorem d_Mod_init_85 : decode b_Mod_init 85 = .ok (.bipush 32, 2) := by decide +kernel
theorem d_Mod_init_87 : decode b_Mod_init 87 = .ok (.castore, 1) := by decide +kernel
theorem d_Mod_init_88 : decode b_Mod_init 88 = .ok (.dup, 1) := by decide +kernel
theorem d_Mod_init_89 : decode b_Mod_init 89 = .ok (.iconst 3, 1) := by decide +kernel
theorem d_Mod_init_90 : decode b_Mod_init 90 = .ok (.bipush 76, 2) := by decide +kernel
theorem d_Mod_init_92 : decode b_Mod_init 92 = .ok (.castore, 1) := by decide +kernel
theorem d_Mod_init_93 : decode b_Mod_init 93 = .ok (.dup, 1) := by decide +kernel
theorem d_Mod_init_94 : decode b_Mod_init 94 = .ok (.iconst 4, 1) := by decide +kernel
theorem d_Mod_init_95 : decode b_Mod_init 95 = .ok (.bipush 67, 2) := by decide +kernel
theorem d_Mod_init_97 : decode b_Mod_init 97 = .ok (.castore, 1) := by decide +kernel
theorem d_Mod_init_98 : decode b_Mod_init 98 = .ok (.dup, 1) := by decide +kernel
theorem d_Mod_init_99 : decode b_Mod_init 99 = .ok (.iconst 5, 1) := by decide +kernel
theorem d_Mod_init_100 : decode b_Mod_init 100 = .ok (.bipush 76, 2) := by decide +kernel
theorem d_Mod_init_102 : decode b_Mod_init 102 = .ok (.castore, 1) := by decide +kernel
theorem d_Mod_init_103 : decode b_Mod_init 103 = .ok (.dup, 1) := by decide +kernel
theorem d_Mod_init_104 : decode b_Mod_init 104 = .ok (.bipush 6, 2) := by decide +kernel
theorem d_Mod_init_106 : decode b_Mod_init 106 = .ok (.bipush 32, 2) := by decide +kernel
theorem d_Mod_init_108 : decode b_Mod_init 108 = .ok (.castore, 1) := by decide +kernel
theorem d_Mod_init_109 : decode b_Mod_init 109 = .ok (.dup, 1) := by decide +kernel
theorem d_Mod_init_110 : decode b_Mod_init 110 = .ok (.bipush 7, 2) := by decide +kernel
theorem d_Mod_init_112 : decode b_Mod_init 112 = .ok (.bipush 65, 2) := by decide +kernel
theorem d_Mod_init_114 : decode b_Mod_init 114 = .ok (.castore, 1) := by decide +kernel
theorem d_Mod_init_115 : decode b_Mod_init 115 = .ok (.dup, 1) := by decide +kernel
theorem d_Mod_init_116 : decode b_Mod_init 116 = .ok (.bipush 8, 2) := by decide +kernel
theorem d_Mod_init_118 : decode b_Mod_init 118 = .ok (.bipush 82, 2) := by decide +kernel
theorem d_Mod_init_120 : decode b_Mod_init 120 = .ok (.castore, 1) := by decide +kernel
theorem d_Mod_init_121 : decode b_Mod_init 121 = .ok (.dup, 1) := by decide +kernel
theorem d_Mod_init_122 : decode b_Mod_init 122 = .ok (.bipush 9, 2) := by decide +kernel
theorem d_Mod_init_124 : decode b_Mod_init 124 = .ok (.bipush 71, 2) := by decide +kernel
theorem d_Mod_init_126 : decode b_Mod_init 126 = .ok (.castore, 1) := by decide +kernel
theorem d_Mod_init_127 : decode b_Mod_init 127 = .ok (.dup, 1) := by decide +kernel
theorem d_Mod_init_128 : decode b_Mod_init 128 = .ok (.bipush 10, 2) := by decide +kernel
theorem d_Mod_init_130 : decode b_Mod_init 130 = .ok (.bipush 32, 2) := by decide +kernel
theorem d_Mod_init_132 : decode b_Mod_init 132 = .ok (.castore, 1) := by decide +kernel
theorem d_Mod_init_133 : decode b_Mod_init 133 = .ok (.dup, 1) := by decide +kernel
theorem d_Mod_init_134 : decode b_Mod_init 134 = .ok (.bipush 11, 2) := by decide +kernel
theorem d_Mod_init_136 : decode b_Mod_init 136 = .ok (.bipush 84, 2) := by decide +kernel
theorem d_Mod_init_138 : decode b_Mod_init 138 = .ok (.castore, 1) := by decide +kernel
theorem d_Mod_init_139 : decode b_Mod_init 139 = .ok (.dup, 1) := by decide +kernel
theorem d_Mod_init_140 : decode b_Mod_init 140 = .ok (.bipush 12, 2) := by decide +kernel
theorem d_Mod_init_142 : decode b_Mod_init 142 = .ok (.bipush 72, 2) := by decide +kernel
theorem d_Mod_init_144 : decode b_Mod_init 144 = .ok (.castore, 1) := by decide +kernel
theorem d_Mod_init_145 : decode b_Mod_init 145 = .ok (.dup, 1) := by decide +kernel
theorem d_Mod_init_146 : decode b_Mod_init 146 = .ok (.bipush 13, 2) := by decide +kernel
theorem d_Mod_init_148 : decode b_Mod_init 148 = .ok (.bipush 73, 2) := by decide +kernel
theorem d_Mod_init_150 : decode b_Mod_init 150 = .ok (.castore, 1) := by decide +kernel
theorem d_Mod_init_151 : decode b_Mod_init 151 = .ok (.dup, 1) := by decide +kernel
theorem d_Mod_init_152 : decode b_Mod_init 152 = .ok (.bipush 14, 2) := by decide +kernel
theorem d_Mod_init_154 : decode b_Mod_init 154 = .ok (.bipush 83, 2) := by decide +kernel
theorem d_Mod_init_156 : decode b_Mod_init 156 = .ok (.castore, 1) := by decide +kernel
theorem d_Mod_init_157 : decode b_Mod_init 157 = .ok (.dup, 1) := by decide +kernel
theorem d_Mod_init_158 : decode b_Mod_init 158 = .ok (.bipush 15, 2) := by decide +kernel
theorem d_Mod_init_160 : decode b_Mod_init 160 = .ok (.bipush 32, 2) := by decide +kernel
theorem d_Mod_init_162 : decode b_Mod_init 162 = .ok (.castore, 1) := by decide +kernel
theorem d_Mod_init_163 : decode b_Mod_init 163 = .ok (.dup, 1) := by decide +kernel
theorem d_Mod_init_164 : decode b_Mod_init 164 = .ok (.bipush 16, 2) := by decide +kernel
theorem d_Mod_init_166 : decode b_Mod_init 166 = .ok (.bipush 84, 2) := by decide +kernel
theorem d_Mod_init_168 : decode b_Mod_init 168 = .ok (.castore, 1) := by decide +kernel
theorem d_Mod_init_169 : decode b_Mod_init 169 = .ok (.dup, 1) := by decide +kernel
theorem d_Mod_init_170 : decode b_Mod_init 170 = .ok (.bipush 17, 2) := by decide +kernel
theorem d_Mod_init_172 : decode b_Mod_init 172 = .ok (.bipush 72, 2) := by decide +kernel
theorem d_Mod_init_174 : decode b_Mod_init 174 = .ok (.castore, 1) := by decide +kernel
theorem d_Mod_init_175 : decode b_Mod_init 175 = .ok (.dup, 1) := by decide +kernel
theorem d_Mod_init_176 : decode b_Mod_init 176 = .ok (.bipush 18, 2) := by decide +kernel
theorem d_Mod_init_178 : decode b_Mod_init 178 = .ok (.bipush 65, 2) := by decide +kernel
theorem d_Mod_init_180 : decode b_Mod_init 180 = .ok (.castore, 1) := by decide +kernel
theorem d_Mod_init_181 : decode b_Mod_init 181 = .ok (.dup, 1) := by decide +kernel
theorem d_Mod_init_182 : decode b_Mod_init 182 = .ok (.bipush 19, 2) := by decide +kernel
theorem d_Mod_init_184 : decode b_Mod_init 184 = .ok (.bipush 84, 2) := by decide +kernel
theorem d_Mod_init_186 : decode b_Mod_init 186 = .ok (.castore, 1) := by decide +kernel
theorem d_Mod_init_187 : decode b_Mod_init 187 = .ok (.dup, 1) := by decide +kernel
theorem d_Mod_init_188 : decode b_Mod_init 188 = .ok (.bipush 20, 2) := by decide +kernel
theorem d_Mod_init_190 : decode b_Mod_init 190 = .ok (.bipush 32, 2) := by decide +kernel
theorem d_Mod_init_192 : decode b_Mod_init 192 = .ok (.castore, 1) := by decide +kernel
theorem d_Mod_init_193 : decode b_Mod_init 193 = .ok (.dup, 1) := by decide +kernel
theorem d_Mod_init_194 : decode b_Mod_init 194 = .ok (.bipush 21, 2) := by decide +kernel
theorem d_Mod_init_196 : decode b_Mod_init 196 = .ok (.bipush 83, 2) := by decide +kernel
theorem d_Mod_init_198 : decode b_Mod_init 198 = .ok (.castore, 1) := by decide +kernel
theorem d_Mod_init_199 : decode b_Mod_init 199 = .ok (.dup, 1) := by decide +kernel
theorem d_Mod_init_200 : decode b_Mod_init 200 = .ok (.bipush 22, 2) := by decide +kernel
theorem d_Mod_init_202 : decode b_Mod_init 202 = .ok (.bipush 67, 2) := by decide +kernel
theorem d_Mod_init_204 : decode b_Mod_init 204 = .ok (.castore, 1) := by decide +kernel
theorem d_Mod_init_205 : decode b_Mod_init 205 = .ok (.dup, 1) := by decide +kernel
theorem d_Mod_init_206 : decode b_Mod_init 206 = .ok (.bipush 23, 2) := by decide +kernel
theorem d_Mod_init_208 : decode b_Mod_init 208 = .ok (.bipush 82, 2) := by decide +kernel
theorem d_Mod_init_210 : decode b_Mod_init 210 = .ok (.castore, 1) := by decide +kernel
theorem d_Mod_init_211 : decode b_Mod_init 211 = .ok (.dup, 1) := by decide +kernel
theorem d_Mod_init_212 : decode b_Mod_init 212 = .ok (.bipush 24, 2) := by decide +kernel
theorem d_Mod_init_214 : decode b_Mod_init 214 = .ok (.bipush 69, 2) := by decide +kernel
theorem d_Mod_init_216 : decode b_Mod_init 216 = .ok (.castore, 1) := by decide +kernel
theorem d_Mod_init_217 : decode b_Mod_init 217 = .ok (.dup, 1) := by decide +kernel
theorem d_Mod_init_218 : decode b_Mod_init 218 = .ok (.bipush 25, 2) := by decide +kernel
theorem d_Mod_init_220 : decode b_Mod_init 220 = .ok (.bipush 69, 2) := by decide +kernel
theorem d_Mod_init_222 : decode b_Mod_init 222 = .ok (.castore, 1) := by decide +kernel
theorem d_Mod_init_223 : decode b_Mod_init 223 = .ok (.dup, 1) := by decide +kernel
theorem d_Mod_init_224 : decode b_Mod_init 224 = .ok (.bipush 26, 2) := by decide +kernel
theorem d_Mod_init_226 : decode b_Mod_init 226 = .ok (.bipush 78, 2) := by decide +kernel
theorem d_Mod_init_228 : decode b_Mod_init 228 = .ok (.castore, 1) := by decide +kernel
theorem d_Mod_init_229 : decode b_Mod_init 229 = .ok (.dup, 1) := by decide +kernel
theorem d_Mod_init_230 : decode b_Mod_init 230 = .ok (.bipush 27, 2) := by decide +kernel
theorem d_Mod_init_232 : decode b_Mod_init 232 = .ok (.bipush 32, 2) := by decide +kernel
theorem d_Mod_init_234 : decode b_Mod_init 234 = .ok (.castore, 1) := by decide +kernel
theorem d_Mod_init_235 : decode b_Mod_init 235 = .ok (.dup, 1) := by decide +kernel
theorem d_Mod_init_236 : decode b_Mod_init 236 = .ok (.bipush 28, 2) := by decide +kernel
theorem d_Mod_init_238 : decode b_Mod_init 238 = .ok (.bipush 75, 2) := by decide +kernel
theorem d_Mod_init_240 : decode b_Mod_init 240 = .ok (.castore, 1) := by decide +kernel
theorem d_Mod_init_241 : decode b_Mod_init 241 = .ok (.dup, 1) := by decide +kernel
theorem d_Mod_init_242 : decode b_Mod_init 242 = .ok (.bipush 29, 2) := by decide +kernel
theorem d_Mod_init_244 : decode b_Mod_init 244 = .ok (.bipush 66, 2) := by decide +kernel
theorem d_Mod_init_246 : decode b_Mod_init 246 = .ok (.castore, 1) := by decide +kernel
theorem d_Mod_init_247 : decode b_Mod_init 247 = .ok (.dup, 1) := by decide +kernel
theorem d_Mod_init_248 : decode b_Mod_init 248 = .ok (.bipush 30, 2) := by decide +kernel
theorem d_Mod_init_250 : decode b_Mod_init 250 = .ok (.bipush 68, 2) := by decide +kernel
theorem d_Mod_init_252 : decode b_Mod_init 252 = .ok (.castore, 1) := by decide +kernel
theorem d_Mod_init_253 : decode b_Mod_init 253 = .ok (.dup, 1) := by decide +kernel
theorem d_Mod_init_254 : decode b_Mod_init 254 = .ok (.bipush 31, 2) := by decide +kernel
theorem d_Mod_init_256 : decode b_Mod_init 256 = .ok (.bipush 32, 2) := by decide +kernel
theorem d_Mod_init_258 : decode b_Mod_init 258 = .ok (.castore, 1) := by decide +kernel
theorem d_Mod_init_259 : decode b_Mod_init 259 = .ok (.putfield 36, 3) := by decide +kernel
theorem d_Mod_init_262 : decode b_Mod_init 262 = .ok (.aload_n 0, 1) := by decide +kernel
theorem d_Mod_init_263 : decode b_Mod_init 263 = .ok (.bipush 28, 2) := by decide +kernel
theorem d_Mod_init_265 : decode b_Mod_init 265 = .ok (.newarray .char, 2) := by decide +kernel
theorem d_Mod_init_267 : decode b_Mod_init 267 = .ok (.dup, 1) := by decide +kernel
theorem d_Mod_init_268 : decode b_Mod_init 268 = .ok (.iconst 0, 1) := by decide +kernel
theorem d_Mod_init_269 : decode b_Mod_init 269 = .ok (.bipush 74, 2) := by decide +kernel
theorem d_Mod_init_271 : decode b_Mod_init 271 = .ok (.castore, 1) := by decide +kernel
theorem d_Mod_init_272 : decode b_Mod_init 272 = .ok (.dup, 1) := by decide +kernel
theorem d_Mod_init_273 : decode b_Mod_init 273 = .ok (.iconst 1, 1) := by decide +kernel
theorem d_Mod_init_274 : decode b_Mod_init 274 = .ok (.bipush 71, 2) := by decide +kernel
theorem d_Mod_init_276 : decode b_Mod_init 276 = .ok (.castore, 1) := by decide +kernel
theorem d_Mod_init_277 : decode b_Mod_init 277 = .ok (.dup, 1) := by decide +kernel
theorem d_Mod_init_278 : decode b_Mod_init 278 = .ok (.iconst 2, 1) := by decide +kernel
theorem d_Mod_init_279 : decode b_Mod_init 279 = .ok (.bipush 84, 2) := by decide +kernel
theorem d_Mod_init_281 : decode b_Mod_init 281 = .ok (.castore, 1) := by decide +kernel
theorem d_Mod_init_282 : decode b_Mod_init 282 = .ok (.dup, 1) := by decide +kernel
theorem d_Mod_init_283 : decode b_Mod_init 283 = .ok (.iconst 3, 1) := by decide +kernel
theorem d_Mod_init_284 : decode b_Mod_init 284 = .ok (.bipush 32, 2) := by decide +kernel
theorem d_Mod_init_286 : decode b_Mod_init 286 = .ok (.castore, 1) := by decide +kernel
theorem d_Mod_init_287 : decode b_Mod_init 287 = .ok (.dup, 1) := by decide +kernel
theorem d_Mod_init_288 : decode b_Mod_init 288 = .ok (.iconst 4, 1) := by decide +kernel
theorem d_Mod_init_289 : decode b_Mod_init 289 = .ok (.bipush 74, 2) := by decide +kernel
theorem d_Mod_init_291 : decode b_Mod_init 291 = .ok (.castore, 1) := by decide +kernel
theorem d_Mod_init_292 : decode b_Mod_init 292 = .ok (.dup, 1) := by decide +kernel
theorem d_Mod_init_293 : decode b_Mod_init 293 = .ok (.iconst 5, 1) := by decide +kernel
theorem d_Mod_init_294 : decode b_Mod_init 294 = .ok (.bipush 69, 2) := by decide +kernel
theorem d_Mod_init_296 : decode b_Mod_init 296 = .ok (.castore, 1) := by decide +kernel
theorem d_Mod_init_297 : decode b_Mod_init 297 = .ok (.dup, 1) := by decide +kernel
theorem d_Mod_init_298 : decode b_Mod_init 298 = .ok (.bipush 6, 2) := by decide +kernel
theorem d_Mod_init_300 : decode b_Mod_init 300 = .ok (.bipush 81, 2) := by decide +kernel
theorem d_Mod_init_302 : decode b_Mod_init 302 = .ok (.castore, 1) := by decide +kernel
theorem d_Mod_init_303 : decode b_Mod_init 303 = .ok (.dup, 1) := by decide +kernel
theorem d_Mod_init_304 : decode b_Mod_init 304 = .ok (.bipush 7, 2) := by decide +kernel
theorem d_Mod_init_306 : decode b_Mod_init 306 = .ok (.bipush 32, 2) := by decide +kernel
theorem d_Mod_init_308 : decode b_Mod_init 308 = .ok (.castore, 1) := by decide +kernel
theorem d_Mod_init_309 : decode b_Mod_init 309 = .ok (.dup, 1) := by decide +kernel
theorem d_Mod_init_310 : decode b_Mod_init 310 = .ok (.bipush 8, 2) := by decide +kernel
theorem d_Mod_init_312 : decode b_Mod_init 312 = .ok (.bipush 74, 2) := by decide +kernel
theorem d_Mod_init_314 : decode b_Mod_init 314 = .ok (.castore, 1) := by decide +kernel
theorem d_Mod_init_315 : decode b_Mod_init 315 = .ok (.dup, 1) := by decide +kernel
theorem d_Mod_init_316 : decode b_Mod_init 316 = .ok (.bipush 9, 2) := by decide +kernel
theorem d_Mod_init_318 : decode b_Mod_init 318 = .ok (.bipush 71, 2) := by decide +kernel
theorem d_Mod_init_320 : decode b_Mod_init 320 = .ok (.castore, 1) := by decide +kernel
theorem d_Mod_init_321 : decode b_Mod_init 321 = .ok (.dup, 1) := by decide +kernel
theorem d_Mod_init_322 : decode b_Mod_init 322 = .ok (.bipush 10, 2) := by decide +kernel
theorem d_Mod_init_324 : decode b_Mod_init 324 = .ok (.bipush 69, 2) := by decide +kernel
theorem d_Mod_init_326 : decode b_Mod_init 326 = .ok (.castore, 1) := by decide +kernel
theorem d_Mod_init_327 : decode b_Mod_init 327 = .ok (.dup, 1) := by decide +kernel
theorem d_Mod_init_328 : decode b_Mod_init 328 = .ok (.bipush 11, 2) := by decide +kernel
theorem d_Mod_init_330 : decode b_Mod_init 330 = .ok (.bipush 32, 2) := by decide +kernel
theorem d_Mod_init_332 : decode b_Mod_init 332 = .ok (.castore, 1) := by decide +kernel
theorem d_Mod_init_333 : decode b_Mod_init 333 = .ok (.dup, 1) := by decide +kernel
theorem d_Mod_init_334 : decode b_Mod_init 334 = .ok (.bipush 12, 2) := by decide +kernel
theorem d_Mod_init_336 : decode b_Mod_init 336 = .ok (.bipush 74, 2) := by decide +kernel
theorem d_Mod_init_338 : decode b_Mod_init 338 = .ok (.castore, 1) := by decide +kernel
theorem d_Mod_init_339 : decode b_Mod_init 339 = .ok (.dup, 1) := by decide +kernel
theorem d_Mod_init_340 : decode b_Mod_init 340 = .ok (.bipush 13, 2) := by decide +kernel
theorem d_Mod_init_342 : decode b_Mod_init 342 = .ok (.bipush 76, 2) := by decide +kernel
theorem d_Mod_init_344 : decode b_Mod_init 344 = .ok (.castore, 1) := by decide +kernel
theorem d_Mod_init_345 : decode b_Mod_init 345 = .ok (.dup, 1) := by decide +kernel
theorem d_Mod_init_346 : decode b_Mod_init 346 = .ok (.bipush 14, 2) := by decide +kernel
theorem d_Mod_init_348 : decode b_Mod_init 348 = .ok (.bipush 84, 2) := by decide +kernel
theorem d_Mod_init_350 : decode b_Mod_init 350 = .ok (.castore, 1) := by decide +kernel
theorem d_Mod_init_351 : decode b_Mod_init 351 = .ok (.dup, 1) := by decide +kernel
theorem d_Mod_init_352 : decode b_Mod_init 352 = .ok (.bipush 15, 2) := by decide +kernel
theorem d_Mod_init_354 : decode b_Mod_init 354 = .ok (.bipush 32, 2) := by decide +kernel
theorem d_Mod_init_356 : decode b_Mod_init 356 = .ok (.castore, 1) := by decide +kernel
theorem d_Mod_init_357 : decode b_Mod_init 357 = .ok (.dup, 1) := by decide +kernel
theorem d_Mod_init_358 : decode b_Mod_init 358 = .ok (.bipush 16, 2) := by decide +kernel
theorem d_Mod_init_360 : decode b_Mod_init 360 = .ok (.bipush 74, 2) := by decide +kernel
theorem d_Mod_init_362 : decode b_Mod_init 362 = .ok (.castore, 1) := by decide +kernel
theorem d_Mod_init_363 : decode b_Mod_init 363 = .ok (.dup, 1) := by decide +kernel
theorem d_Mod_init_364 : decode b_Mod_init 364 = .ok (.bipush 17, 2) := by decide +kernel
theorem d_Mod_init_366 : decode b_Mod_init 366 = .ok (.bipush 78, 2) := by decide +kernel
theorem d_Mod_init_368 : decode b_Mod_init 368 = .ok (.castore, 1) := by decide +kernel
theorem d_Mod_init_369 : decode b_Mod_init 369 = .ok (.dup, 1) := by decide +kernel
theorem d_Mod_init_370 : decode b_Mod_init 370 = .ok (.bipush 18, 2) := by decide +kernel
theorem d_Mod_init_372 : decode b_Mod_init 372 = .ok (.bipush 69, 2) := by decide +kernel
theorem d_Mod_init_374 : decode b_Mod_init 374 = .ok (.castore, 1) := by decide +kernel
theorem d_Mod_init_375 : decode b_Mod_init 375 = .ok (.dup, 1) := by decide +kernel
theorem d_Mod_init_376 : decode b_Mod_init 376 = .ok (.bipush 19, 2) := by decide +kernel
theorem d_Mod_init_378 : decode b_Mod_init 378 = .ok (.bipush 32, 2) := by decide +kernel
theorem d_Mod_init_380 : decode b_Mod_init 380 = .ok (.castore, 1) := by decide +kernel
theorem d_Mod_init_381 : decode b_Mod_init 381 = .ok (.dup, 1) := by decide +kernel
theorem d_Mod_init_382 : decode b_Mod_init 382 = .ok (.bipush 20, 2) := by decide +kernel
theorem d_Mod_init_384 : decode b_Mod_init 384 = .ok (.bipush 74, 2) := by decide +kernel
theorem d_Mod_init_386 : decode b_Mod_init 386 = .ok (.castore, 1) := by decide +kernel
theorem d_Mod_init_387 : decode b_Mod_init 387 = .ok (.dup, 1) := by decide +kernel
theorem d_Mod_init_388 : decode b_Mod_init 388 = .ok (.bipush 21, 2) := by decide +kernel
theorem d_Mod_init_390 : decode b_Mod_init 390 = .ok (.bipush 76, 2) := by decide +kernel
theorem d_Mod_init_392 : decode b_Mod_init 392 = .ok (.castore, 1) := by decide +kernel
theorem d_Mod_init_393 : decode b_Mod_init 393 = .ok (.dup, 1) := by decide +kernel
theorem d_Mod_init_394 : decode b_Mod_init 394 = .ok (.bipush 22, 2) := by decide +kernel
theorem d_Mod_init_396 : decode b_Mod_init 396 = .ok (.bipush 69, 2) := by decide +kernel
theorem d_Mod_init_398 : decode b_Mod_init 398 = .ok (.castore, 1) := by decide +kernel
theorem d_Mod_init_399 : decode b_Mod_init 399 = .ok (.dup, 1) := by decide +kernel
theorem d_Mod_init_400 : decode b_Mod_init 400 = .ok (.bipush 23, 2) := by decide +kernel
theorem d_Mod_init_402 : decode b_Mod_init 402 = .ok (.bipush 32, 2) := by decide +kernel
theorem d_Mod_init_404 : decode b_Mod_init 404 = .ok (.castore, 1) := by decide +kernel
theorem d_Mod_init_405 : decode b_Mod_init 405 = .ok (.dup, 1) := by decide +kernel
theorem d_Mod_init_406 : decode b_Mod_init 406 = .ok (.bipush 24, 2) := by decide +kernel
theorem d_Mod_init_408 : decode b_Mod_init 408 = .ok (.bipush 74, 2) := by decide +kernel
theorem d_Mod_init_410 : decode b_Mod_init 410 = .ok (.castore, 1) := by decide +kernel
theorem d_Mod_init_411 : decode b_Mod_init 411 = .ok (.dup, 1) := by decide +kernel
theorem d_Mod_init_412 : decode b_Mod_init 412 = .ok (.bipush 25, 2) := by decide +kernel
theorem d_Mod_init_414 : decode b_Mod_init 414 = .ok (.bipush 77, 2) := by decide +kernel
theorem d_Mod_init_416 : decode b_Mod_init 416 = .ok (.castore, 1) := by decide +kernel
theorem d_Mod_init_417 : decode b_Mod_init 417 = .ok (.dup, 1) := by decide +kernel
theorem d_Mod_init_418 : decode b_Mod_init 418 = .ok (.bipush 26, 2) := by decide +kernel
theorem d_Mod_init_420 : decode b_Mod_init 420 = .ok (.bipush 80, 2) := by decide +kernel
theorem d_Mod_init_422 : decode b_Mod_init 422 = .ok (.castore, 1) := by decide +kernel
theorem d_Mod_init_423 : decode b_Mod_init 423 = .ok (.dup, 1) := by decide +kernel
theorem d_Mod_init_424 : decode b_Mod_init 424 = .ok (.bipush 27, 2) := by decide +kernel
theorem d_Mod_init_426 : decode b_Mod_init 426 = .ok (.bipush 32, 2) := by decide +kernel
theorem d_Mod_init_428 : decode b_Mod_init 428 = .ok (.castore, 1) := by decide +kernel
theorem d_Mod_init_429 : decode b_Mod_init 429 = .ok (.putfield 40, 3) := by decide +kernel
theorem d_Mod_init_432 : decode b_Mod_init 432 = .ok (.aload_n 0, 1) := by decide +kernel
theorem d_Mod_init_433 : decode b_Mod_init 433 = .ok (.bipush 19, 2) := by decide +kernel
theorem d_Mod_init_435 : decode b_Mod_init 435 = .ok (.newarray .char, 2) := by decide +kernel
theorem d_Mod_init_437 : decode b_Mod_init 437 = .ok (.dup, 1) := by decide +kernel
theorem d_Mod_init_438 : decode b_Mod_init 438 = .ok (.iconst 0, 1) := by decide +kernel
theorem d_Mod_init_439 : decode b_Mod_init 439 = .ok (.bipush 77, 2) := by decide +kernel
theorem d_Mod_init_441 : decode b_Mod_init 441 = .ok (.castore, 1) := by decide +kernel
end
section
/-! decode rows -/
theorem d_Mod_init_442 : decode b_Mod_init 442 = .ok (.dup, 1) := by decide +kernel
theorem d_Mod_init_443 : decode b_Mod_init 443 = .ok (.iconst 1, 1) := by decide +kernel
theorem d_Mod_init_444 : decode b_Mod_init 444 = .ok (.bipush 32, 2) := by decide +kernel
theorem d_Mod_init_446 : decode b_Mod_init 446 = .ok (.castore, 1) := by decide +kernel
theorem d_Mod_init_447 : decode b_Mod_init 447 = .ok (.dup, 1) := by decide +kernel
theorem d_Mod_init_448 : decode b_Mod_init 448 = .ok (.iconst 2, 1) := by decide +kernel
theorem d_Mod_init_449 : decode b_Mod_init 449 = .ok (.bipush 68, 2) := by decide +kernel
theorem d_Mod_init_451 : decode b_Mod_init 451 = .ok (.castore, 1) := by decide +kernel
theorem d_Mod_init_452 : decode b_Mod_init 452 = .ok (.dup, 1) := by decide +kernel
theorem d_Mod_init_453 : decode b_Mod_init 453 = .ok (.iconst 3, 1) := by decide +kernel
theorem d_Mod_init_454 : decode b_Mod_init 454 = .ok (.bipush 32, 2) := by decide +kernel
theorem d_Mod_init_456 : decode b_Mod_init 456 = .ok (.castore, 1) := by decide +kernel
theorem d_Mod_init_457 : decode b_Mod_init 457 = .ok (.dup, 1) := by decide +kernel
theorem d_Mod_init_458 : decode b_Mod_init 458 = .ok (.iconst 4, 1) := by decide +kernel
theorem d_Mod_init_459 : decode b_Mod_init 459 = .ok (.bipush 77, 2) := by decide +kernel
theorem d_Mod_init_461 : decode b_Mod_init 461 = .ok (.castore, 1) := by decide +kernel
theorem d_Mod_init_462 : decode b_Mod_init 462 = .ok (.dup, 1) := by decide +kernel
theorem d_Mod_init_463 : decode b_Mod_init 463 = .ok (.iconst 5, 1) := by decide +kernel
theorem d_Mod_init_464 : decode b_Mod_init 464 = .ok (.bipush 68, 2) := by decide +kernel
theorem d_Mod_init_466 : decode b_Mod_init 466 = .ok (.castore, 1) := by decide +kernel
theorem d_Mod_init_467 : decode b_Mod_init 467 = .ok (.dup, 1) := by decide +kernel
theorem d_Mod_init_468 : decode b_Mod_init 468 = .ok (.bipush 6, 2) := by decide +kernel
theorem d_Mod_init_470 : decode b_Mod_init 470 = .ok (.bipush 32, 2) := by decide +kernel
theorem d_Mod_init_472 : decode b_Mod_init 472 = .ok (.castore, 1) := by decide +kernel
theorem d_Mod_init_473 : decode b_Mod_init 473 = .ok (.dup, 1) := by decide +kernel
theorem d_Mod_init_474 : decode b_Mod_init 474 = .ok (.bipush 7, 2) := by decide +kernel
theorem d_Mod_init_476 : decode b_Mod_init 476 = .ok (.bipush 65, 2) := by decide +kernel
theorem d_Mod_init_478 : decode b_Mod_init 478 = .ok (.castore, 1) := by decide +kernel
theorem d_Mod_init_479 : decode b_Mod_init 479 = .ok (.dup, 1) := by decide +kernel
theorem d_Mod_init_480 : decode b_Mod_init 480 = .ok (.bipush 8, 2) := by decide +kernel
theorem d_Mod_init_482 : decode b_Mod_init 482 = .ok (.bipush 32, 2) := by decide +kernel
theorem d_Mod_init_484 : decode b_Mod_init 484 = .ok (.castore, 1) := by decide +kernel
theorem d_Mod_init_485 : decode b_Mod_init 485 = .ok (.dup, 1) := by decide +kernel
theorem d_Mod_init_486 : decode b_Mod_init 486 = .ok (.bipush 9, 2) := by decide +kernel
theorem d_Mod_init_488 : decode b_Mod_init 488 = .ok (.bipush 65, 2) := by decide +kernel
theorem d_Mod_init_490 : decode b_Mod_init 490 = .ok (.castore, 1) := by decide +kernel
theorem d_Mod_init_491 : decode b_Mod_init 491 = .ok (.dup, 1) := by decide +kernel
theorem d_Mod_init_492 : decode b_Mod_init 492 = .ok (.bipush 10, 2) := by decide +kernel
theorem d_Mod_init_494 : decode b_Mod_init 494 = .ok (.bipush 77, 2) := by decide +kernel
theorem d_Mod_init_496 : decode b_Mod_init 496 = .ok (.castore, 1) := by decide +kernel
theorem d_Mod_init_497 : decode b_Mod_init 497 = .ok (.dup, 1) := by decide +kernel
theorem d_Mod_init_498 : decode b_Mod_init 498 = .ok (.bipush 11, 2) := by decide +kernel
theorem d_Mod_init_500 : decode b_Mod_init 500 = .ok (.bipush 32, 2) := by decide +kernel
theorem d_Mod_init_502 : decode b_Mod_init 502 = .ok (.castore, 1) := by decide +kernel
theorem d_Mod_init_503 : decode b_Mod_init 503 = .ok (.dup, 1) := by decide +kernel
theorem d_Mod_init_504 : decode b_Mod_init 504 = .ok (.bipush 12, 2) := by decide +kernel
theorem d_Mod_init_506 : decode b_Mod_init 506 = .ok (.bipush 65, 2) := by decide +kernel
theorem d_Mod_init_508 : decode b_Mod_init 508 = .ok (.castore, 1) := by decide +kernel
theorem d_Mod_init_509 : decode b_Mod_init 509 = .ok (.dup, 1) := by decide +kernel
theorem d_Mod_init_510 : decode b_Mod_init 510 = .ok (.bipush 13, 2) := by decide +kernel
theorem d_Mod_init_512 : decode b_Mod_init 512 = .ok (.bipush 68, 2) := by decide +kernel
theorem d_Mod_init_514 : decode b_Mod_init 514 = .ok (.castore, 1) := by decide +kernel
theorem d_Mod_init_515 : decode b_Mod_init 515 = .ok (.dup, 1) := by decide +kernel
theorem d_Mod_init_516 : decode b_Mod_init 516 = .ok (.bipush 14, 2) := by decide +kernel
theorem d_Mod_init_518 : decode b_Mod_init 518 = .ok (.bipush 32, 2) := by decide +kernel
theorem d_Mod_init_520 : decode b_Mod_init 520 = .ok (.castore, 1) := by decide +kernel
theorem d_Mod_init_521 : decode b_Mod_init 521 = .ok (.dup, 1) := by decide +kernel
theorem d_Mod_init_522 : decode b_Mod_init 522 = .ok (.bipush 15, 2) := by decide +kernel
theorem d_Mod_init_524 : decode b_Mod_init 524 = .ok (.bipush 65, 2) := by decide +kernel
theorem d_Mod_init_526 : decode b_Mod_init 526 = .ok (.castore, 1) := by decide +kernel
theorem d_Mod_init_527 : decode b_Mod_init 527 = .ok (.dup, 1) := by decide +kernel
theorem d_Mod_init_528 : decode b_Mod_init 528 = .ok (.bipush 16, 2) := by decide +kernel
theorem d_Mod_init_530 : decode b_Mod_init 530 = .ok (.bipush 77, 2) := by decide +kernel
theorem d_Mod_init_532 : decode b_Mod_init 532 = .ok (.castore, 1) := by decide +kernel
theorem d_Mod_init_533 : decode b_Mod_init 533 = .ok (.dup, 1) := by decide +kernel
theorem d_Mod_init_534 : decode b_Mod_init 534 = .ok (.bipush 17, 2) := by decide +kernel
theorem d_Mod_init_536 : decode b_Mod_init 536 = .ok (.bipush 68, 2) := by decide +kernel
theorem d_Mod_init_538 : decode b_Mod_init 538 = .ok (.castore, 1) := by decide +kernel
theorem d_Mod_init_539 : decode b_Mod_init 539 = .ok (.dup, 1) := by decide +kernel
theorem d_Mod_init_540 : decode b_Mod_init 540 = .ok (.bipush 18, 2) := by decide +kernel
theorem d_Mod_init_542 : decode b_Mod_init 542 = .ok (.bipush 32, 2) := by decide +kernel
theorem d_Mod_init_544 : decode b_Mod_init 544 = .ok (.castore, 1) := by decide +kernel
theorem d_Mod_init_545 : decode b_Mod_init 545 = .ok (.putfield 43, 3) := by decide +kernel
theorem d_Mod_init_548 : decode b_Mod_init 548 = .ok (.return_, 1) := by decide +kernel
theorem d_Mod_put_0 : decode b_Mod_put 0 = .ok (.iload_n 3, 1) := by decide +kernel
theorem d_Mod_put_1 : decode b_Mod_put 1 = .ok (.iconst 1, 1) := by decide +kernel
theorem d_Mod_put_2 : decode b_Mod_put 2 = .ok (.if_icmp .lt 21, 3) := by decide +kernel
theorem d_Mod_put_5 : decode b_Mod_put 5 = .ok (.iload_n 3, 1) := by decide +kernel
theorem d_Mod_put_6 : decode b_Mod_put 6 = .ok (.bipush 8, 2) := by decide +kernel
theorem d_Mod_put_8 : decode b_Mod_put 8 = .ok (.if_icmp .gt 15, 3) := by decide +kernel
theorem d_Mod_put_11 : decode b_Mod_put 11 = .ok (.aload_n 0, 1) := by decide +kernel
theorem d_Mod_put_12 : decode b_Mod_put 12 = .ok (.getfield 46, 3) := by decide +kernel
theorem d_Mod_put_15 : decode b_Mod_put 15 = .ok (.iload_n 3, 1) := by decide +kernel
theorem d_Mod_put_16 : decode b_Mod_put 16 = .ok (.iadd, 1) := by decide +kernel
theorem d_Mod_put_17 : decode b_Mod_put 17 = .ok (.sipush 2000, 3) := by decide +kernel
theorem d_Mod_put_20 : decode b_Mod_put 20 = .ok (.if_icmp .le 5, 3) := by decide +kernel
theorem d_Mod_put_23 : decode b_Mod_put 23 = .ok (.iconst 0, 1) := by decide +kernel
theorem d_Mod_put_24 : decode b_Mod_put 24 = .ok (.ireturn, 1) := by decide +kernel
theorem d_Mod_put_25 : decode b_Mod_put 25 = .ok (.iload_n 3, 1) := by decide +kernel
theorem d_Mod_put_26 : decode b_Mod_put 26 = .ok (.iconst 1, 1) := by decide +kernel
theorem d_Mod_put_27 : decode b_Mod_put 27 = .ok (.isub, 1) := by decide +kernel
theorem d_Mod_put_28 : decode b_Mod_put 28 = .ok (.istore 4, 2) := by decide +kernel
theorem d_Mod_put_30 : decode b_Mod_put 30 = .ok (.iload 4, 2) := by decide +kernel
theorem d_Mod_put_32 : decode b_Mod_put 32 = .ok (.ifCond .lt 40, 3) := by decide +kernel
theorem d_Mod_put_35 : decode b_Mod_put 35 = .ok (.aload_n 0, 1) := by decide +kernel
theorem d_Mod_put_36 : decode b_Mod_put 36 = .ok (.getfield 7, 3) := by decide +kernel
theorem d_Mod_put_39 : decode b_Mod_put 39 = .ok (.aload_n 0, 1) := by decide +kernel
theorem d_Mod_put_40 : decode b_Mod_put 40 = .ok (.getfield 46, 3) := by decide +kernel
theorem d_Mod_put_43 : decode b_Mod_put 43 = .ok (.lload_n 1, 1) := by decide +kernel
theorem d_Mod_put_44 : decode b_Mod_put 44 = .ok (.bipush 8, 2) := by decide +kernel
theorem d_Mod_put_46 : decode b_Mod_put 46 = .ok (.iload 4, 2) := by decide +kernel
theorem d_Mod_put_48 : decode b_Mod_put 48 = .ok (.imul, 1) := by decide +kernel
theorem d_Mod_put_49 : decode b_Mod_put 49 = .ok (.lshr, 1) := by decide +kernel
theorem d_Mod_put_50 : decode b_Mod_put 50 = .ok (.l2i, 1) := by decide +kernel
theorem d_Mod_put_51 : decode b_Mod_put 51 = .ok (.sipush 255, 3) := by decide +kernel
theorem d_Mod_put_54 : decode b_Mod_put 54 = .ok (.iand, 1) := by decide +kernel
theorem d_Mod_put_55 : decode b_Mod_put 55 = .ok (.iastore, 1) := by decide +kernel
theorem d_Mod_put_56 : decode b_Mod_put 56 = .ok (.aload_n 0, 1) := by decide +kernel
theorem d_Mod_put_57 : decode b_Mod_put 57 = .ok (.aload_n 0, 1) := by decide +kernel
theorem d_Mod_put_58 : decode b_Mod_put 58 = .ok (.getfield 46, 3) := by decide +kernel
theorem d_Mod_put_61 : decode b_Mod_put 61 = .ok (.iconst 1, 1) := by decide +kernel
theorem d_Mod_put_62 : decode b_Mod_put 62 = .ok (.iadd, 1) := by decide +kernel
theorem d_Mod_put_63 : decode b_Mod_put 63 = .ok (.putfield 46, 3) := by decide +kernel
theorem d_Mod_put_66 : decode b_Mod_put 66 = .ok (.iinc 4 (-1), 3) := by decide +kernel
theorem d_Mod_put_69 : decode b_Mod_put 69 = .ok (.goto (-39), 3) := by decide +kernel
theorem d_Mod_put_72 : decode b_Mod_put 72 = .ok (.iconst 1, 1) := by decide +kernel
theorem d_Mod_put_73 : decode b_Mod_put 73 = .ok (.ireturn, 1) := by decide +kernel
theorem d_Mod_place_0 : decode b_Mod_place 0 = .ok (.aload_n 0, 1) := by decide +kernel
theorem d_Mod_place_1 : decode b_Mod_place 1 = .ok (.getfield 13, 3) := by decide +kernel
theorem d_Mod_place_4 : decode b_Mod_place 4 = .ok (.ireturn, 1) := by decide +kernel
theorem d_Mod_read_0 : decode b_Mod_read 0 = .ok (.aload_n 0, 1) := by decide +kernel
theorem d_Mod_read_1 : decode b_Mod_read 1 = .ok (.aload_n 0, 1) := by decide +kernel
theorem d_Mod_read_2 : decode b_Mod_read 2 = .ok (.getfield 46, 3) := by decide +kernel
theorem d_Mod_read_5 : decode b_Mod_read 5 = .ok (.putfield 49, 3) := by decide +kernel
theorem d_Mod_read_8 : decode b_Mod_read 8 = .ok (.aload_n 0, 1) := by decide +kernel
theorem d_Mod_read_9 : decode b_Mod_read 9 = .ok (.iconst 0, 1) := by decide +kernel
theorem d_Mod_read_10 : decode b_Mod_read 10 = .ok (.putfield 46, 3) := by decide +kernel
theorem d_Mod_read_13 : decode b_Mod_read 13 = .ok (.aload_n 0, 1) := by decide +kernel
theorem d_Mod_read_14 : decode b_Mod_read 14 = .ok (.invokevirtual 114, 3) := by decide +kernel
theorem d_Mod_read_17 : decode b_Mod_read 17 = .ok (.aload_n 0, 1) := by decide +kernel
theorem d_Mod_read_18 : decode b_Mod_read 18 = .ok (.iconst (-1), 1) := by decide +kernel
theorem d_Mod_read_19 : decode b_Mod_read 19 = .ok (.putfield 13, 3) := by decide +kernel
theorem d_Mod_read_22 : decode b_Mod_read 22 = .ok (.iconst 0, 1) := by decide +kernel
theorem d_Mod_read_23 : decode b_Mod_read 23 = .ok (.istore_n 1, 1) := by decide +kernel
theorem d_Mod_read_24 : decode b_Mod_read 24 = .ok (.iconst 0, 1) := by decide +kernel
theorem d_Mod_read_25 : decode b_Mod_read 25 = .ok (.istore_n 2, 1) := by decide +kernel
theorem d_Mod_read_26 : decode b_Mod_read 26 = .ok (.iload_n 2, 1) := by decide +kernel
theorem d_Mod_read_27 : decode b_Mod_read 27 = .ok (.aload_n 0, 1) := by decide +kernel
theorem d_Mod_read_28 : decode b_Mod_read 28 = .ok (.getfield 49, 3) := by decide +kernel
theorem d_Mod_read_31 : decode b_Mod_read 31 = .ok (.if_icmp .ge 184, 3) := by decide +kernel
theorem d_Mod_read_34 : decode b_Mod_read 34 = .ok (.aload_n 0, 1) := by decide +kernel
theorem d_Mod_read_35 : decode b_Mod_read 35 = .ok (.getfield 7, 3) := by decide +kernel
theorem d_Mod_read_38 : decode b_Mod_read 38 = .ok (.iload_n 2, 1) := by decide +kernel
theorem d_Mod_read_39 : decode b_Mod_read 39 = .ok (.iaload, 1) := by decide +kernel
theorem d_Mod_read_40 : decode b_Mod_read 40 = .ok (.istore_n 3, 1) := by decide +kernel
theorem d_Mod_read_41 : decode b_Mod_read 41 = .ok (.iload_n 3, 1) := by decide +kernel
theorem d_Mod_read_42 : decode b_Mod_read 42 = .ok (.bipush 10, 2) := by decide +kernel
theorem d_Mod_read_44 : decode b_Mod_read 44 = .ok (.if_icmp .ne 5, 3) := by decide +kernel
theorem d_Mod_read_47 : decode b_Mod_read 47 = .ok (.iconst 0, 1) := by decide +kernel
theorem d_Mod_read_48 : decode b_Mod_read 48 = .ok (.istore_n 1, 1) := by decide +kernel
theorem d_Mod_read_49 : decode b_Mod_read 49 = .ok (.iload_n 3, 1) := by decide +kernel
theorem d_Mod_read_50 : decode b_Mod_read 50 = .ok (.bipush 10, 2) := by decide +kernel
theorem d_Mod_read_52 : decode b_Mod_read 52 = .ok (.if_icmp .eq 10, 3) := by decide +kernel
theorem d_Mod_read_55 : decode b_Mod_read 55 = .ok (.iload_n 3, 1) := by decide +kernel
theorem d_Mod_read_56 : decode b_Mod_read 56 = .ok (.invokestatic 117, 3) := by decide +kernel
theorem d_Mod_read_59 : decode b_Mod_read 59 = .ok (.ifCond .eq 10, 3) := by decide +kernel
theorem d_Mod_read_62 : decode b_Mod_read 62 = .ok (.iload_n 2, 1) := by decide +kernel
theorem d_Mod_read_63 : decode b_Mod_read 63 = .ok (.iconst 1, 1) := by decide +kernel
theorem d_Mod_read_64 : decode b_Mod_read 64 = .ok (.iadd, 1) := by decide +kernel
theorem d_Mod_read_65 : decode b_Mod_read 65 = .ok (.istore_n 2, 1) := by decide +kernel
theorem d_Mod_read_66 : decode b_Mod_read 66 = .ok (.goto (-40), 3) := by decide +kernel
theorem d_Mod_read_69 : decode b_Mod_read 69 = .ok (.iload_n 2, 1) := by decide +kernel
theorem d_Mod_read_70 : decode b_Mod_read 70 = .ok (.istore 4, 2) := by decide +kernel
theorem d_Mod_read_72 : decode b_Mod_read 72 = .ok (.iload 4, 2) := by decide +kernel
theorem d_Mod_read_74 : decode b_Mod_read 74 = .ok (.aload_n 0, 1) := by decide +kernel
theorem d_Mod_read_75 : decode b_Mod_read 75 = .ok (.getfield 49, 3) := by decide +kernel
theorem d_Mod_read_78 : decode b_Mod_read 78 = .ok (.if_icmp .ge 62, 3) := by decide +kernel
theorem d_Mod_read_81 : decode b_Mod_read 81 = .ok (.aload_n 0, 1) := by decide +kernel
theorem d_Mod_read_82 : decode b_Mod_read 82 = .ok (.getfield 7, 3) := by decide +kernel
theorem d_Mod_read_85 : decode b_Mod_read 85 = .ok (.iload 4, 2) := by decide +kernel
theorem d_Mod_read_87 : decode b_Mod_read 87 = .ok (.iaload, 1) := by decide +kernel
theorem d_Mod_read_88 : decode b_Mod_read 88 = .ok (.bipush 10, 2) := by decide +kernel
theorem d_Mod_read_90 : decode b_Mod_read 90 = .ok (.if_icmp .eq 50, 3) := by decide +kernel
theorem d_Mod_read_93 : decode b_Mod_read 93 = .ok (.aload_n 0, 1) := by decide +kernel
theorem d_Mod_read_94 : decode b_Mod_read 94 = .ok (.getfield 7, 3) := by decide +kernel
theorem d_Mod_read_97 : decode b_Mod_read 97 = .ok (.iload 4, 2) := by decide +kernel
theorem d_Mod_read_99 : decode b_Mod_read 99 = .ok (.iaload, 1) := by decide +kernel
theorem d_Mod_read_100 : decode b_Mod_read 100 = .ok (.invokestatic 117, 3) := by decide +kernel
theorem d_Mod_read_103 : decode b_Mod_read 103 = .ok (.ifCond .ne 37, 3) := by decide +kernel
theorem d_Mod_read_106 : decode b_Mod_read 106 = .ok (.aload_n 0, 1) := by decide +kernel
theorem d_Mod_read_107 : decode b_Mod_read 107 = .ok (.getfield 7, 3) := by decide +kernel
theorem d_Mod_read_110 : decode b_Mod_read 110 = .ok (.iload 4, 2) := by decide +kernel
theorem d_Mod_read_112 : decode b_Mod_read 112 = .ok (.iaload, 1) := by decide +kernel
theorem d_Mod_read_113 : decode b_Mod_read 113 = .ok (.bipush 47, 2) := by decide +kernel
theorem d_Mod_read_115 : decode b_Mod_read 115 = .ok (.if_icmp .ne 16, 3) := by decide +kernel
theorem d_Mod_read_118 : decode b_Mod_read 118 = .ok (.aload_n 0, 1) := by decide +kernel
theorem d_Mod_read_119 : decode b_Mod_read 119 = .ok (.iload 4, 2) := by decide +kernel
theorem d_Mod_read_121 : decode b_Mod_read 121 = .ok (.iconst 1, 1) := by decide +kernel
theorem d_Mod_read_122 : decode b_Mod_read 122 = .ok (.iadd, 1) := by decide +kernel
theorem d_Mod_read_123 : decode b_Mod_read 123 = .ok (.invokevirtual 120, 3) := by decide +kernel
theorem d_Mod_read_126 : decode b_Mod_read 126 = .ok (.bipush 47, 2) := by decide +kernel
theorem d_Mod_read_128 : decode b_Mod_read 128 = .ok (.if_icmp .eq 12, 3) := by decide +kernel
theorem d_Mod_read_131 : decode b_Mod_read 131 = .ok (.iload 4, 2) := by decide +kernel
theorem d_Mod_read_133 : decode b_Mod_read 133 = .ok (.iconst 1, 1) := by decide +kernel
theorem d_Mod_read_134 : decode b_Mod_read 134 = .ok (.iadd, 1) := by decide +kernel
theorem d_Mod_read_135 : decode b_Mod_read 135 = .ok (.istore 4, 2) := by decide +kernel
theorem d_Mod_read_137 : decode b_Mod_read 137 = .ok (.goto (-65), 3) := by decide +kernel
theorem d_Mod_read_140 : decode b_Mod_read 140 = .ok (.iload 4, 2) := by decide +kernel
theorem d_Mod_read_142 : decode b_Mod_read 142 = .ok (.iload_n 2, 1) := by decide +kernel
theorem d_Mod_read_143 : decode b_Mod_read 143 = .ok (.if_icmp .ne 29, 3) := by decide +kernel
theorem d_Mod_read_146 : decode b_Mod_read 146 = .ok (.iload_n 2, 1) := by decide +kernel
theorem d_Mod_read_147 : decode b_Mod_read 147 = .ok (.aload_n 0, 1) := by decide +kernel
theorem d_Mod_read_148 : decode b_Mod_read 148 = .ok (.getfield 49, 3) := by decide +kernel
theorem d_Mod_read_151 : decode b_Mod_read 151 = .ok (.if_icmp .ge (-125), 3) := by decide +kernel
theorem d_Mod_read_154 : decode b_Mod_read 154 = .ok (.aload_n 0, 1) := by decide +kernel
theorem d_Mod_read_155 : decode b_Mod_read 155 = .ok (.getfield 7, 3) := by decide +kernel
theorem d_Mod_read_158 : decode b_Mod_read 158 = .ok (.iload_n 2, 1) := by decide +kernel
theorem d_Mod_read_159 : decode b_Mod_read 159 = .ok (.iaload, 1) := by decide +kernel
theorem d_Mod_read_160 : decode b_Mod_read 160 = .ok (.bipush 10, 2) := by decide +kernel
theorem d_Mod_read_162 : decode b_Mod_read 162 = .ok (.if_icmp .eq (-136), 3) := by decide +kernel
theorem d_Mod_read_165 : decode b_Mod_read 165 = .ok (.iload_n 2, 1) := by decide +kernel
theorem d_Mod_read_166 : decode b_Mod_read 166 = .ok (.iconst 1, 1) := by decide +kernel
theorem d_Mod_read_167 : decode b_Mod_read 167 = .ok (.iadd, 1) := by decide +kernel
theorem d_Mod_read_168 : decode b_Mod_read 168 = .ok (.istore_n 2, 1) := by decide +kernel
theorem d_Mod_read_169 : decode b_Mod_read 169 = .ok (.goto (-23), 3) := by decide +kernel
theorem d_Mod_read_172 : decode b_Mod_read 172 = .ok (.aload_n 0, 1) := by decide +kernel
theorem d_Mod_read_173 : decode b_Mod_read 173 = .ok (.iload_n 2, 1) := by decide +kernel
theorem d_Mod_read_174 : decode b_Mod_read 174 = .ok (.iload 4, 2) := by decide +kernel
theorem d_Mod_read_176 : decode b_Mod_read 176 = .ok (.iload_n 2, 1) := by decide +kernel
theorem d_Mod_read_177 : decode b_Mod_read 177 = .ok (.isub, 1) := by decide +kernel
theorem d_Mod_read_178 : decode b_Mod_read 178 = .ok (.iload_n 1, 1) := by decide +kernel
theorem d_Mod_read_179 : decode b_Mod_read 179 = .ok (.invokevirtual 124, 3) := by decide +kernel
theorem d_Mod_read_182 : decode b_Mod_read 182 = .ok (.istore 5, 2) := by decide +kernel
theorem d_Mod_read_184 : decode b_Mod_read 184 = .ok (.iload 5, 2) := by decide +kernel
theorem d_Mod_read_186 : decode b_Mod_read 186 = .ok (.ifCond .le 21, 3) := by decide +kernel
theorem d_Mod_read_189 : decode b_Mod_read 189 = .ok (.aload_n 0, 1) := by decide +kernel
theorem d_Mod_read_190 : decode b_Mod_read 190 = .ok (.iload_n 2, 1) := by decide +kernel
theorem d_Mod_read_191 : decode b_Mod_read 191 = .ok (.putfield 13, 3) := by decide +kernel
theorem d_Mod_read_194 : decode b_Mod_read 194 = .ok (.aload_n 0, 1) := by decide +kernel
theorem d_Mod_read_195 : decode b_Mod_read 195 = .ok (.iconst 0, 1) := by decide +kernel
theorem d_Mod_read_196 : decode b_Mod_read 196 = .ok (.putfield 83, 3) := by decide +kernel
theorem d_Mod_read_199 : decode b_Mod_read 199 = .ok (.aload_n 0, 1) := by decide +kernel
theorem d_Mod_read_200 : decode b_Mod_read 200 = .ok (.iconst 0, 1) := by decide +kernel
theorem d_Mod_read_201 : decode b_Mod_read 201 = .ok (.putfield 69, 3) := by decide +kernel
theorem d_Mod_read_204 : decode b_Mod_read 204 = .ok (.iload 5, 2) := by decide +kernel
theorem d_Mod_read_206 : decode b_Mod_read 206 = .ok (.ireturn, 1) := by decide +kernel
theorem d_Mod_read_207 : decode b_Mod_read 207 = .ok (.iconst 1, 1) := by decide +kernel
theorem d_Mod_read_208 : decode b_Mod_read 208 = .ok (.istore_n 1, 1) := by decide +kernel
theorem d_Mod_read_209 : decode b_Mod_read 209 = .ok (.iload 4, 2) := by decide +kernel
theorem d_Mod_read_211 : decode b_Mod_read 211 = .ok (.istore_n 2, 1) := by decide +kernel
theorem d_Mod_read_212 : decode b_Mod_read 212 = .ok (.goto (-186), 3) := by decide +kernel
theorem d_Mod_read_215 : decode b_Mod_read 215 = .ok (.bipush 16, 2) := by decide +kernel
theorem d_Mod_read_217 : decode b_Mod_read 217 = .ok (.istore_n 3, 1) := by decide +kernel
theorem d_Mod_read_218 : decode b_Mod_read 218 = .ok (.iconst 0, 1) := by decide +kernel
theorem d_Mod_read_219 : decode b_Mod_read 219 = .ok (.istore 4, 2) := by decide +kernel
theorem d_Mod_read_221 : decode b_Mod_read 221 = .ok (.iload 4, 2) := by decide +kernel
theorem d_Mod_read_223 : decode b_Mod_read 223 = .ok (.aload_n 0, 1) := by decide +kernel
theorem d_Mod_read_224 : decode b_Mod_read 224 = .ok (.getfield 69, 3) := by decide +kernel
theorem d_Mod_read_227 : decode b_Mod_read 227 = .ok (.if_icmp .ge 35, 3) := by decide +kernel
theorem d_Mod_read_230 : decode b_Mod_read 230 = .ok (.aload_n 0, 1) := by decide +kernel
theorem d_Mod_read_231 : decode b_Mod_read 231 = .ok (.getfield 26, 3) := by decide +kernel
theorem d_Mod_read_234 : decode b_Mod_read 234 = .ok (.iload 4, 2) := by decide +kernel
theorem d_Mod_read_236 : decode b_Mod_read 236 = .ok (.iaload, 1) := by decide +kernel
theorem d_Mod_read_237 : decode b_Mod_read 237 = .ok (.iconst (-1), 1) := by decide +kernel
theorem d_Mod_read_238 : decode b_Mod_read 238 = .ok (.if_icmp .eq 6, 3) := by decide +kernel
theorem d_Mod_read_241 : decode b_Mod_read 241 = .ok (.goto 15, 3) := by decide +kernel
theorem d_Mod_read_244 : decode b_Mod_read 244 = .ok (.aload_n 0, 1) := by decide +kernel
theorem d_Mod_read_245 : decode b_Mod_read 245 = .ok (.getfield 26, 3) := by decide +kernel
theorem d_Mod_read_248 : decode b_Mod_read 248 = .ok (.iload 4, 2) := by decide +kernel
theorem d_Mod_read_250 : decode b_Mod_read 250 = .ok (.iload_n 3, 1) := by decide +kernel
theorem d_Mod_read_251 : decode b_Mod_read 251 = .ok (.iastore, 1) := by decide +kernel
theorem d_Mod_read_252 : decode b_Mod_read 252 = .ok (.iload_n 3, 1) := by decide +kernel
theorem d_Mod_read_253 : decode b_Mod_read 253 = .ok (.iconst 1, 1) := by decide +kernel
theorem d_Mod_read_254 : decode b_Mod_read 254 = .ok (.iadd, 1) := by decide +kernel
theorem d_Mod_read_255 : decode b_Mod_read 255 = .ok (.istore_n 3, 1) := by decide +kernel
theorem d_Mod_read_256 : decode b_Mod_read 256 = .ok (.iinc 4 1, 3) := by decide +kernel
theorem d_Mod_read_259 : decode b_Mod_read 259 = .ok (.goto (-38), 3) := by decide +kernel
theorem d_Mod_read_262 : decode b_Mod_read 262 = .ok (.iconst 0, 1) := by decide +kernel
theorem d_Mod_read_263 : decode b_Mod_read 263 = .ok (.istore 4, 2) := by decide +kernel
theorem d_Mod_read_265 : decode b_Mod_read 265 = .ok (.iload 4, 2) := by decide +kernel
theorem d_Mod_read_267 : decode b_Mod_read 267 = .ok (.aload_n 0, 1) := by decide +kernel
theorem d_Mod_read_268 : decode b_Mod_read 268 = .ok (.getfield 83, 3) := by decide +kernel
theorem d_Mod_read_271 : decode b_Mod_read 271 = .ok (.if_icmp .ge 49, 3) := by decide +kernel
theorem d_Mod_read_274 : decode b_Mod_read 274 = .ok (.aload_n 0, 1) := by decide +kernel
theorem d_Mod_read_275 : decode b_Mod_read 275 = .ok (.getfield 17, 3) := by decide +kernel
theorem d_Mod_read_278 : decode b_Mod_read 278 = .ok (.iload 4, 2) := by decide +kernel
theorem d_Mod_read_280 : decode b_Mod_read 280 = .ok (.aload_n 0, 1) := by decide +kernel
theorem d_Mod_read_281 : decode b_Mod_read 281 = .ok (.getfield 29, 3) := by decide +kernel
theorem d_Mod_read_284 : decode b_Mod_read 284 = .ok (.iload 4, 2) := by decide +kernel
theorem d_Mod_read_286 : decode b_Mod_read 286 = .ok (.iaload, 1) := by decide +kernel
theorem d_Mod_read_287 : decode b_Mod_read 287 = .ok (.iconst (-1), 1) := by decide +kernel
theorem d_Mod_read_288 : decode b_Mod_read 288 = .ok (.if_icmp .ne 13, 3) := by decide +kernel
theorem d_Mod_read_291 : decode b_Mod_read 291 = .ok (.aload_n 0, 1) := by decide +kernel
theorem d_Mod_read_292 : decode b_Mod_read 292 = .ok (.getfield 17, 3) := by decide +kernel
theorem d_Mod_read_295 : decode b_Mod_read 295 = .ok (.iload 4, 2) := by decide +kernel
theorem d_Mod_read_297 : decode b_Mod_read 297 = .ok (.iaload, 1) := by decide +kernel
theorem d_Mod_read_298 : decode b_Mod_read 298 = .ok (.goto 15, 3) := by decide +kernel
theorem d_Mod_read_301 : decode b_Mod_read 301 = .ok (.aload_n 0, 1) := by decide +kernel
theorem d_Mod_read_302 : decode b_Mod_read 302 = .ok (.getfield 26, 3) := by decide +kernel
theorem d_Mod_read_305 : decode b_Mod_read 305 = .ok (.aload_n 0, 1) := by decide +kernel
theorem d_Mod_read_306 : decode b_Mod_read 306 = .ok (.getfield 29, 3) := by decide +kernel
theorem d_Mod_read_309 : decode b_Mod_read 309 = .ok (.iload 4, 2) := by decide +kernel
theorem d_Mod_read_311 : decode b_Mod_read 311 = .ok (.iaload, 1) := by decide +kernel
theorem d_Mod_read_312 : decode b_Mod_read 312 = .ok (.iaload, 1) := by decide +kernel
theorem d_Mod_read_313 : decode b_Mod_read 313 = .ok (.iastore, 1) := by decide +kernel
theorem d_Mod_read_314 : decode b_Mod_read 314 = .ok (.iinc 4 1, 3) := by decide +kernel
theorem d_Mod_read_317 : decode b_Mod_read 317 = .ok (.goto (-52), 3) := by decide +kernel
theorem d_Mod_read_320 : decode b_Mod_read 320 = .ok (.iconst 0, 1) := by decide +kernel
theorem d_Mod_read_321 : decode b_Mod_read 321 = .ok (.ireturn, 1) := by decide +kernel
theorem d_Mod_resetProcessor_0 : decode b_Mod_resetProcessor 0 = .ok (.iconst 0, 1) := by decide +kernel
theorem d_Mod_resetProcessor_1 : decode b_Mod_resetProcessor 1 = .ok (.istore_n 1, 1) := by decide +kernel
theorem d_Mod_resetProcessor_2 : decode b_Mod_resetProcessor 2 = .ok (.iload_n 1, 1) := by decide +kernel
theorem d_Mod_resetProcessor_3 : decode b_Mod_resetProcessor 3 = .ok (.ldc 32, 2) := by decide +kernel
theorem d_Mod_resetProcessor_5 : decode b_Mod_resetProcessor 5 = .ok (.if_icmp .ge 16, 3) := by decide +kernel
theorem d_Mod_resetProcessor_8 : decode b_Mod_resetProcessor 8 = .ok (.aload_n 0, 1) := by decide +kernel
theorem d_Mod_resetProcessor_9 : decode b_Mod_resetProcessor 9 = .ok (.getfield 33, 3) := by decide +kernel
theorem d_Mod_resetProcessor_12 : decode b_Mod_resetProcessor 12 = .ok (.iload_n 1, 1) := by decide +kernel
theorem d_Mod_resetProcessor_13 : decode b_Mod_resetProcessor 13 = .ok (.iconst 0, 1) := by decide +kernel
theorem d_Mod_resetProcessor_14 : decode b_Mod_resetProcessor 14 = .ok (.iastore, 1) := by decide +kernel
theorem d_Mod_resetProcessor_15 : decode b_Mod_resetProcessor 15 = .ok (.iinc 1 1, 3) := by decide +kernel
theorem d_Mod_resetProcessor_18 : decode b_Mod_resetProcessor 18 = .ok (.goto (-16), 3) := by decide +kernel
theorem d_Mod_resetProcessor_21 : decode b_Mod_resetProcessor 21 = .ok (.aload_n 0, 1) := by decide +kernel
theorem d_Mod_resetProcessor_22 : decode b_Mod_resetProcessor 22 = .ok (.iconst 0, 1) := by decide +kernel
theorem d_Mod_resetProcessor_23 : decode b_Mod_resetProcessor 23 = .ok (.putfield 102, 3) := by decide +kernel
theorem d_Mod_resetProcessor_26 : decode b_Mod_resetProcessor 26 = .ok (.aload_n 0, 1) := by decide +kernel
theorem d_Mod_resetProcessor_27 : decode b_Mod_resetProcessor 27 = .ok (.iconst 0, 1) := by decide +kernel
theorem d_Mod_resetProcessor_28 : decode b_Mod_resetProcessor 28 = .ok (.putfield 105, 3) := by decide +kernel
theorem d_Mod_resetProcessor_31 : decode b_Mod_resetProcessor 31 = .ok (.aload_n 0, 1) := by decide +kernel
theorem d_Mod_resetProcessor_32 : decode b_Mod_resetProcessor 32 = .ok (.iconst 0, 1) := by decide +kernel
theorem d_Mod_resetProcessor_33 : decode b_Mod_resetProcessor 33 = .ok (.putfield 108, 3) := by decide +kernel
theorem d_Mod_resetProcessor_36 : decode b_Mod_resetProcessor 36 = .ok (.aload_n 0, 1) := by decide +kernel
theorem d_Mod_resetProcessor_37 : decode b_Mod_resetProcessor 37 = .ok (.iconst 0, 1) := by decide +kernel
theorem d_Mod_resetProcessor_38 : decode b_Mod_resetProcessor 38 = .ok (.putfield 111, 3) := by decide +kernel
theorem d_Mod_resetProcessor_41 : decode b_Mod_resetProcessor 41 = .ok (.aload_n 0, 1) := by decide +kernel
theorem d_Mod_resetProcessor_42 : decode b_Mod_resetProcessor 42 = .ok (.iconst 0, 1) := by decide +kernel
theorem d_Mod_resetProcessor_43 : decode b_Mod_resetProcessor 43 = .ok (.putfield 83, 3) := by decide +kernel
theorem d_Mod_resetProcessor_46 : decode b_Mod_resetProcessor 46 = .ok (.aload_n 0, 1) := by decide +kernel
theorem d_Mod_resetProcessor_47 : decode b_Mod_resetProcessor 47 = .ok (.iconst 0, 1) := by decide +kernel
theorem d_Mod_resetProcessor_48 : decode b_Mod_resetProcessor 48 = .ok (.putfield 69, 3) := by decide +kernel
theorem d_Mod_resetProcessor_51 : decode b_Mod_resetProcessor 51 = .ok (.return_, 1) := by decide +kernel
theorem d_Mod_isBlank_0 : decode b_Mod_isBlank 0 = .ok (.iload_n 0, 1) := by decide +kernel
theorem d_Mod_isBlank_1 : decode b_Mod_isBlank 1 = .ok (.bipush 9, 2) := by decide +kernel
theorem d_Mod_isBlank_3 : decode b_Mod_isBlank 3 = .ok (.if_icmp .eq 15, 3) := by decide +kernel
theorem d_Mod_isBlank_6 : decode b_Mod_isBlank 6 = .ok (.iload_n 0, 1) := by decide +kernel
theorem d_Mod_isBlank_7 : decode b_Mod_isBlank 7 = .ok (.bipush 13, 2) := by decide +kernel
theorem d_Mod_isBlank_9 : decode b_Mod_isBlank 9 = .ok (.if_icmp .eq 9, 3) := by decide +kernel
theorem d_Mod_isBlank_12 : decode b_Mod_isBlank 12 = .ok (.iload_n 0, 1) := by decide +kernel
theorem d_Mod_isBlank_13 : decode b_Mod_isBlank 13 = .ok (.bipush 32, 2) := by decide +kernel
theorem d_Mod_isBlank_15 : decode b_Mod_isBlank 15 = .ok (.if_icmp .ne 7, 3) := by decide +kernel
theorem d_Mod_isBlank_18 : decode b_Mod_isBlank 18 = .ok (.iconst 1, 1) := by decide +kernel
theorem d_Mod_isBlank_19 : decode b_Mod_isBlank 19 = .ok (.goto 4, 3) := by decide +kernel
theorem d_Mod_isBlank_22 : decode b_Mod_isBlank 22 = .ok (.iconst 0, 1) := by decide +kernel
theorem d_Mod_isBlank_23 : decode b_Mod_isBlank 23 = .ok (.ireturn, 1) := by decide +kernel
theorem d_Mod_at_0 : decode b_Mod_at 0 = .ok (.iload_n 1, 1) := by decide +kernel
theorem d_Mod_at_1 : decode b_Mod_at 1 = .ok (.aload_n 0, 1) := by decide +kernel
theorem d_Mod_at_2 : decode b_Mod_at 2 = .ok (.getfield 49, 3) := by decide +kernel
theorem d_Mod_at_5 : decode b_Mod_at 5 = .ok (.if_icmp .ge 12, 3) := by decide +kernel
theorem d_Mod_at_8 : decode b_Mod_at 8 = .ok (.aload_n 0, 1) := by decide +kernel
theorem d_Mod_at_9 : decode b_Mod_at 9 = .ok (.getfield 7, 3) := by decide +kernel
theorem d_Mod_at_12 : decode b_Mod_at 12 = .ok (.iload_n 1, 1) := by decide +kernel
theorem d_Mod_at_13 : decode b_Mod_at 13 = .ok (.iaload, 1) := by decide +kernel
theorem d_Mod_at_14 : decode b_Mod_at 14 = .ok (.goto 4, 3) := by decide +kernel
theorem d_Mod_at_17 : decode b_Mod_at 17 = .ok (.iconst (-1), 1) := by decide +kernel
theorem d_Mod_at_18 : decode b_Mod_at 18 = .ok (.ireturn, 1) := by decide +kernel
theorem d_Mod_instruction_0 : decode b_Mod_instruction 0 = .ok (.iload_n 3, 1) := by decide +kernel
theorem d_Mod_instruction_1 : decode b_Mod_instruction 1 = .ok (.ifCond .eq 5, 3) := by decide +kernel
theorem d_Mod_instruction_4 : decode b_Mod_instruction 4 = .ok (.iconst 1, 1) := by decide +kernel
theorem d_Mod_instruction_5 : decode b_Mod_instruction 5 = .ok (.ireturn, 1) := by decide +kernel
theorem d_Mod_instruction_6 : decode b_Mod_instruction 6 = .ok (.aload_n 0, 1) := by decide +kernel
theorem d_Mod_instruction_7 : decode b_Mod_instruction 7 = .ok (.getfield 7, 3) := by decide +kernel
theorem d_Mod_instruction_10 : decode b_Mod_instruction 10 = .ok (.iload_n 1, 1) := by decide +kernel
theorem d_Mod_instruction_11 : decode b_Mod_instruction 11 = .ok (.iaload, 1) := by decide +kernel
theorem d_Mod_instruction_12 : decode b_Mod_instruction 12 = .ok (.bipush 40, 2) := by decide +kernel
theorem d_Mod_instruction_14 : decode b_Mod_instruction 14 = .ok (.if_icmp .ne 10, 3) := by decide +kernel
theorem d_Mod_instruction_17 : decode b_Mod_instruction 17 = .ok (.aload_n 0, 1) := by decide +kernel
theorem d_Mod_instruction_18 : decode b_Mod_instruction 18 = .ok (.iload_n 1, 1) := by decide +kernel
theorem d_Mod_instruction_19 : decode b_Mod_instruction 19 = .ok (.iload_n 2, 1) := by decide +kernel
theorem d_Mod_instruction_20 : decode b_Mod_instruction 20 = .ok (.invokevirtual 93, 3) := by decide +kernel
theorem d_Mod_instruction_23 : decode b_Mod_instruction 23 = .ok (.ireturn, 1) := by decide +kernel
theorem d_Mod_instruction_24 : decode b_Mod_instruction 24 = .ok (.aload_n 0, 1) := by decide +kernel
theorem d_Mod_instruction_25 : decode b_Mod_instruction 25 = .ok (.getfield 7, 3) := by decide +kernel
theorem d_Mod_instruction_28 : decode b_Mod_instruction 28 = .ok (.iload_n 1, 1) := by decide +kernel
theorem d_Mod_instruction_29 : decode b_Mod_instruction 29 = .ok (.iaload, 1) := by decide +kernel
theorem d_Mod_instruction_30 : decode b_Mod_instruction 30 = .ok (.bipush 64, 2) := by decide +kernel
theorem d_Mod_instruction_32 : decode b_Mod_instruction 32 = .ok (.if_icmp .ne 16, 3) := by decide +kernel
theorem d_Mod_instruction_35 : decode b_Mod_instruction 35 = .ok (.aload_n 0, 1) := by decide +kernel
theorem d_Mod_instruction_36 : decode b_Mod_instruction 36 = .ok (.iload_n 1, 1) := by decide +kernel
theorem d_Mod_instruction_37 : decode b_Mod_instruction 37 = .ok (.iconst 1, 1) := by decide +kernel
theorem d_Mod_instruction_38 : decode b_Mod_instruction 38 = .ok (.iadd, 1) := by decide +kernel
theorem d_Mod_instruction_39 : decode b_Mod_instruction 39 = .ok (.iload_n 2, 1) := by decide +kernel
theorem d_Mod_instruction_40 : decode b_Mod_instruction 40 = .ok (.iconst 1, 1) := by decide +kernel
theorem d_Mod_instruction_41 : decode b_Mod_instruction 41 = .ok (.isub, 1) := by decide +kernel
theorem d_Mod_instruction_42 : decode b_Mod_instruction 42 = .ok (.invokevirtual 96, 3) := by decide +kernel
theorem d_Mod_instruction_45 : decode b_Mod_instruction 45 = .ok (.goto 9, 3) := by decide +kernel
theorem d_Mod_instruction_48 : decode b_Mod_instruction 48 = .ok (.aload_n 0, 1) := by decide +kernel
theorem d_Mod_instruction_49 : decode b_Mod_instruction 49 = .ok (.iload_n 1, 1) := by decide +kernel
theorem d_Mod_instruction_50 : decode b_Mod_instruction 50 = .ok (.iload_n 2, 1) := by decide +kernel
theorem d_Mod_instruction_51 : decode b_Mod_instruction 51 = .ok (.invokevirtual 99, 3) := by decide +kernel
theorem d_Mod_instruction_54 : decode b_Mod_instruction 54 = .ok (.ireturn, 1) := by decide +kernel
theorem d_Mod_label_0 : decode b_Mod_label 0 = .ok (.iload_n 2, 1) := by decide +kernel
theorem d_Mod_label_1 : decode b_Mod_label 1 = .ok (.iconst 3, 1) := by decide +kernel
theorem d_Mod_label_2 : decode b_Mod_label 2 = .ok (.if_icmp .lt 31, 3) := by decide +kernel
theorem d_Mod_label_5 : decode b_Mod_label 5 = .ok (.aload_n 0, 1) := by decide +kernel
theorem d_Mod_label_6 : decode b_Mod_label 6 = .ok (.getfield 7, 3) := by decide +kernel
theorem d_Mod_label_9 : decode b_Mod_label 9 = .ok (.iload_n 1, 1) := by decide +kernel
theorem d_Mod_label_10 : decode b_Mod_label 10 = .ok (.iload_n 2, 1) := by decide +kernel
theorem d_Mod_label_11 : decode b_Mod_label 11 = .ok (.iadd, 1) := by decide +kernel
theorem d_Mod_label_12 : decode b_Mod_label 12 = .ok (.iconst 1, 1) := by decide +kernel
theorem d_Mod_label_13 : decode b_Mod_label 13 = .ok (.isub, 1) := by decide +kernel
theorem d_Mod_label_14 : decode b_Mod_label 14 = .ok (.iaload, 1) := by decide +kernel
theorem d_Mod_label_15 : decode b_Mod_label 15 = .ok (.bipush 41, 2) := by decide +kernel
theorem d_Mod_label_17 : decode b_Mod_label 17 = .ok (.if_icmp .ne 16, 3) := by decide +kernel
theorem d_Mod_label_20 : decode b_Mod_label 20 = .ok (.aload_n 0, 1) := by decide +kernel
theorem d_Mod_label_21 : decode b_Mod_label 21 = .ok (.iload_n 1, 1) := by decide +kernel
theorem d_Mod_label_22 : decode b_Mod_label 22 = .ok (.iconst 1, 1) := by decide +kernel
theorem d_Mod_label_23 : decode b_Mod_label 23 = .ok (.iadd, 1) := by decide +kernel
theorem d_Mod_label_24 : decode b_Mod_label 24 = .ok (.iload_n 2, 1) := by decide +kernel
theorem d_Mod_label_25 : decode b_Mod_label 25 = .ok (.iconst 2, 1) := by decide +kernel
theorem d_Mod_label_26 : decode b_Mod_label 26 = .ok (.isub, 1) := by decide +kernel
theorem d_Mod_label_27 : decode b_Mod_label 27 = .ok (.invokevirtual 72, 3) := by decide +kernel
theorem d_Mod_label_30 : decode b_Mod_label 30 = .ok (.ifCond .ne 5, 3) := by decide +kernel
theorem d_Mod_label_33 : decode b_Mod_label 33 = .ok (.iconst 1, 1) := by decide +kernel
theorem d_Mod_label_34 : decode b_Mod_label 34 = .ok (.ireturn, 1) := by decide +kernel
theorem d_Mod_label_35 : decode b_Mod_label 35 = .ok (.aload_n 0, 1) := by decide +kernel
theorem d_Mod_label_36 : decode b_Mod_label 36 = .ok (.iload_n 1, 1) := by decide +kernel
theorem d_Mod_label_37 : decode b_Mod_label 37 = .ok (.iconst 1, 1) := by decide +kernel
theorem d_Mod_label_38 : decode b_Mod_label 38 = .ok (.iadd, 1) := by decide +kernel
theorem d_Mod_label_39 : decode b_Mod_label 39 = .ok (.iload_n 2, 1) := by decide +kernel
theorem d_Mod_label_40 : decode b_Mod_label 40 = .ok (.iconst 2, 1) := by decide +kernel
theorem d_Mod_label_41 : decode b_Mod_label 41 = .ok (.isub, 1) := by decide +kernel
theorem d_Mod_label_42 : decode b_Mod_label 42 = .ok (.invokevirtual 76, 3) := by decide +kernel
theorem d_Mod_label_45 : decode b_Mod_label 45 = .ok (.iconst (-1), 1) := by decide +kernel
theorem d_Mod_label_46 : decode b_Mod_label 46 = .ok (.if_icmp .eq 5, 3) := by decide +kernel
theorem d_Mod_label_49 : decode b_Mod_label 49 = .ok (.iconst 3, 1) := by decide +kernel
theorem d_Mod_label_50 : decode b_Mod_label 50 = .ok (.ireturn, 1) := by decide +kernel
theorem d_Mod_label_51 : decode b_Mod_label 51 = .ok (.aload_n 0, 1) := by decide +kernel
theorem d_Mod_label_52 : decode b_Mod_label 52 = .ok (.iload_n 1, 1) := by decide +kernel
theorem d_Mod_label_53 : decode b_Mod_label 53 = .ok (.iconst 1, 1) := by decide +kernel
theorem d_Mod_label_54 : decode b_Mod_label 54 = .ok (.iadd, 1) := by decide +kernel
theorem d_Mod_label_55 : decode b_Mod_label 55 = .ok (.iload_n 2, 1) := by decide +kernel
theorem d_Mod_label_56 : decode b_Mod_label 56 = .ok (.iconst 2, 1) := by decide +kernel
theorem d_Mod_label_57 : decode b_Mod_label 57 = .ok (.isub, 1) := by decide +kernel
theorem d_Mod_label_58 : decode b_Mod_label 58 = .ok (.invokevirtual 80, 3) := by decide +kernel
theorem d_Mod_label_61 : decode b_Mod_label 61 = .ok (.istore_n 3, 1) := by decide +kernel
theorem d_Mod_label_62 : decode b_Mod_label 62 = .ok (.iload_n 3, 1) := by decide +kernel
theorem d_Mod_label_63 : decode b_Mod_label 63 = .ok (.iconst (-1), 1) := by decide +kernel
theorem d_Mod_label_64 : decode b_Mod_label 64 = .ok (.if_icmp .ne 5, 3) := by decide +kernel
theorem d_Mod_label_67 : decode b_Mod_label 67 = .ok (.iconst 2, 1) := by decide +kernel
theorem d_Mod_label_68 : decode b_Mod_label 68 = .ok (.ireturn, 1) := by decide +kernel
theorem d_Mod_label_69 : decode b_Mod_label 69 = .ok (.aload_n 0, 1) := by decide +kernel
theorem d_Mod_label_70 : decode b_Mod_label 70 = .ok (.getfield 26, 3) := by decide +kernel
theorem d_Mod_label_73 : decode b_Mod_label 73 = .ok (.iload_n 3, 1) := by decide +kernel
theorem d_Mod_label_74 : decode b_Mod_label 74 = .ok (.iaload, 1) := by decide +kernel
theorem d_Mod_label_75 : decode b_Mod_label 75 = .ok (.iconst (-1), 1) := by decide +kernel
theorem d_Mod_label_76 : decode b_Mod_label 76 = .ok (.if_icmp .eq 5, 3) := by decide +kernel
theorem d_Mod_label_79 : decode b_Mod_label 79 = .ok (.iconst 3, 1) := by decide +kernel
theorem d_Mod_label_80 : decode b_Mod_label 80 = .ok (.ireturn, 1) := by decide +kernel
theorem d_Mod_label_81 : decode b_Mod_label 81 = .ok (.aload_n 0, 1) := by decide +kernel
theorem d_Mod_label_82 : decode b_Mod_label 82 = .ok (.getfield 26, 3) := by decide +kernel
theorem d_Mod_label_85 : decode b_Mod_label 85 = .ok (.iload_n 3, 1) := by decide +kernel
end
section
/-! decode rows -/
theorem d_Mod_label_86 : decode b_Mod_label 86 = .ok (.aload_n 0, 1) := by decide +kernel
theorem d_Mod_label_87 : decode b_Mod_label 87 = .ok (.getfield 83, 3) := by decide +kernel
theorem d_Mod_label_90 : decode b_Mod_label 90 = .ok (.iastore, 1) := by decide +kernel
theorem d_Mod_label_91 : decode b_Mod_label 91 = .ok (.iconst 0, 1) := by decide +kernel
theorem d_Mod_label_92 : decode b_Mod_label 92 = .ok (.ireturn, 1) := by decide +kernel
theorem d_Mod_isSymbol_0 : decode b_Mod_isSymbol 0 = .ok (.iload_n 2, 1) := by decide +kernel
theorem d_Mod_isSymbol_1 : decode b_Mod_isSymbol 1 = .ok (.iconst 1, 1) := by decide +kernel
theorem d_Mod_isSymbol_2 : decode b_Mod_isSymbol 2 = .ok (.if_icmp .lt 21, 3) := by decide +kernel
theorem d_Mod_isSymbol_5 : decode b_Mod_isSymbol 5 = .ok (.iload_n 2, 1) := by decide +kernel
theorem d_Mod_isSymbol_6 : decode b_Mod_isSymbol 6 = .ok (.bipush 16, 2) := by decide +kernel
theorem d_Mod_isSymbol_8 : decode b_Mod_isSymbol 8 = .ok (.if_icmp .gt 15, 3) := by decide +kernel
theorem d_Mod_isSymbol_11 : decode b_Mod_isSymbol 11 = .ok (.aload_n 0, 1) := by decide +kernel
theorem d_Mod_isSymbol_12 : decode b_Mod_isSymbol 12 = .ok (.getfield 7, 3) := by decide +kernel
theorem d_Mod_isSymbol_15 : decode b_Mod_isSymbol 15 = .ok (.iload_n 1, 1) := by decide +kernel
theorem d_Mod_isSymbol_16 : decode b_Mod_isSymbol 16 = .ok (.iaload, 1) := by decide +kernel
theorem d_Mod_isSymbol_17 : decode b_Mod_isSymbol 17 = .ok (.invokestatic 56, 3) := by decide +kernel
theorem d_Mod_isSymbol_20 : decode b_Mod_isSymbol 20 = .ok (.ifCond .eq 5, 3) := by decide +kernel
theorem d_Mod_isSymbol_23 : decode b_Mod_isSymbol 23 = .ok (.iconst 0, 1) := by decide +kernel
theorem d_Mod_isSymbol_24 : decode b_Mod_isSymbol 24 = .ok (.ireturn, 1) := by decide +kernel
theorem d_Mod_isSymbol_25 : decode b_Mod_isSymbol 25 = .ok (.iconst 1, 1) := by decide +kernel
theorem d_Mod_isSymbol_26 : decode b_Mod_isSymbol 26 = .ok (.istore_n 3, 1) := by decide +kernel
theorem d_Mod_isSymbol_27 : decode b_Mod_isSymbol 27 = .ok (.iconst 0, 1) := by decide +kernel
theorem d_Mod_isSymbol_28 : decode b_Mod_isSymbol 28 = .ok (.istore 4, 2) := by decide +kernel
theorem d_Mod_isSymbol_30 : decode b_Mod_isSymbol 30 = .ok (.iload 4, 2) := by decide +kernel
theorem d_Mod_isSymbol_32 : decode b_Mod_isSymbol 32 = .ok (.iload_n 2, 1) := by decide +kernel
theorem d_Mod_isSymbol_33 : decode b_Mod_isSymbol 33 = .ok (.if_icmp .ge 34, 3) := by decide +kernel
theorem d_Mod_isSymbol_36 : decode b_Mod_isSymbol 36 = .ok (.iload_n 3, 1) := by decide +kernel
theorem d_Mod_isSymbol_37 : decode b_Mod_isSymbol 37 = .ok (.ifCond .eq 22, 3) := by decide +kernel
theorem d_Mod_isSymbol_40 : decode b_Mod_isSymbol 40 = .ok (.aload_n 0, 1) := by decide +kernel
theorem d_Mod_isSymbol_41 : decode b_Mod_isSymbol 41 = .ok (.getfield 7, 3) := by decide +kernel
theorem d_Mod_isSymbol_44 : decode b_Mod_isSymbol 44 = .ok (.iload_n 1, 1) := by decide +kernel
theorem d_Mod_isSymbol_45 : decode b_Mod_isSymbol 45 = .ok (.iload 4, 2) := by decide +kernel
theorem d_Mod_isSymbol_47 : decode b_Mod_isSymbol 47 = .ok (.iadd, 1) := by decide +kernel
theorem d_Mod_isSymbol_48 : decode b_Mod_isSymbol 48 = .ok (.iaload, 1) := by decide +kernel
theorem d_Mod_isSymbol_49 : decode b_Mod_isSymbol 49 = .ok (.invokestatic 62, 3) := by decide +kernel
theorem d_Mod_isSymbol_52 : decode b_Mod_isSymbol 52 = .ok (.ifCond .eq 7, 3) := by decide +kernel
theorem d_Mod_isSymbol_55 : decode b_Mod_isSymbol 55 = .ok (.iconst 1, 1) := by decide +kernel
theorem d_Mod_isSymbol_56 : decode b_Mod_isSymbol 56 = .ok (.goto 4, 3) := by decide +kernel
theorem d_Mod_isSymbol_59 : decode b_Mod_isSymbol 59 = .ok (.iconst 0, 1) := by decide +kernel
theorem d_Mod_isSymbol_60 : decode b_Mod_isSymbol 60 = .ok (.istore_n 3, 1) := by decide +kernel
theorem d_Mod_isSymbol_61 : decode b_Mod_isSymbol 61 = .ok (.iinc 4 1, 3) := by decide +kernel
theorem d_Mod_isSymbol_64 : decode b_Mod_isSymbol 64 = .ok (.goto (-34), 3) := by decide +kernel
theorem d_Mod_isSymbol_67 : decode b_Mod_isSymbol 67 = .ok (.iload_n 3, 1) := by decide +kernel
theorem d_Mod_isSymbol_68 : decode b_Mod_isSymbol 68 = .ok (.ireturn, 1) := by decide +kernel
theorem d_Mod_isDigit_0 : decode b_Mod_isDigit 0 = .ok (.iload_n 0, 1) := by decide +kernel
theorem d_Mod_isDigit_1 : decode b_Mod_isDigit 1 = .ok (.bipush 48, 2) := by decide +kernel
theorem d_Mod_isDigit_3 : decode b_Mod_isDigit 3 = .ok (.if_icmp .lt 13, 3) := by decide +kernel
theorem d_Mod_isDigit_6 : decode b_Mod_isDigit 6 = .ok (.iload_n 0, 1) := by decide +kernel
theorem d_Mod_isDigit_7 : decode b_Mod_isDigit 7 = .ok (.bipush 57, 2) := by decide +kernel
theorem d_Mod_isDigit_9 : decode b_Mod_isDigit 9 = .ok (.if_icmp .gt 7, 3) := by decide +kernel
theorem d_Mod_isDigit_12 : decode b_Mod_isDigit 12 = .ok (.iconst 1, 1) := by decide +kernel
theorem d_Mod_isDigit_13 : decode b_Mod_isDigit 13 = .ok (.goto 4, 3) := by decide +kernel
theorem d_Mod_isDigit_16 : decode b_Mod_isDigit 16 = .ok (.iconst 0, 1) := by decide +kernel
theorem d_Mod_isDigit_17 : decode b_Mod_isDigit 17 = .ok (.ireturn, 1) := by decide +kernel
theorem d_Mod_isSymbolByte_0 : decode b_Mod_isSymbolByte 0 = .ok (.iload_n 0, 1) := by decide +kernel
theorem d_Mod_isSymbolByte_1 : decode b_Mod_isSymbolByte 1 = .ok (.invokestatic 59, 3) := by decide +kernel
theorem d_Mod_isSymbolByte_4 : decode b_Mod_isSymbolByte 4 = .ok (.ifCond .ne 21, 3) := by decide +kernel
theorem d_Mod_isSymbolByte_7 : decode b_Mod_isSymbolByte 7 = .ok (.iload_n 0, 1) := by decide +kernel
theorem d_Mod_isSymbolByte_8 : decode b_Mod_isSymbolByte 8 = .ok (.bipush 46, 2) := by decide +kernel
theorem d_Mod_isSymbolByte_10 : decode b_Mod_isSymbolByte 10 = .ok (.if_icmp .eq 15, 3) := by decide +kernel
theorem d_Mod_isSymbolByte_13 : decode b_Mod_isSymbolByte 13 = .ok (.iload_n 0, 1) := by decide +kernel
theorem d_Mod_isSymbolByte_14 : decode b_Mod_isSymbolByte 14 = .ok (.bipush 36, 2) := by decide +kernel
theorem d_Mod_isSymbolByte_16 : decode b_Mod_isSymbolByte 16 = .ok (.if_icmp .eq 9, 3) := by decide +kernel
theorem d_Mod_isSymbolByte_19 : decode b_Mod_isSymbolByte 19 = .ok (.iload_n 0, 1) := by decide +kernel
theorem d_Mod_isSymbolByte_20 : decode b_Mod_isSymbolByte 20 = .ok (.bipush 58, 2) := by decide +kernel
theorem d_Mod_isSymbolByte_22 : decode b_Mod_isSymbolByte 22 = .ok (.if_icmp .ne 7, 3) := by decide +kernel
theorem d_Mod_isSymbolByte_25 : decode b_Mod_isSymbolByte 25 = .ok (.iconst 1, 1) := by decide +kernel
theorem d_Mod_isSymbolByte_26 : decode b_Mod_isSymbolByte 26 = .ok (.goto 4, 3) := by decide +kernel
theorem d_Mod_isSymbolByte_29 : decode b_Mod_isSymbolByte 29 = .ok (.iconst 0, 1) := by decide +kernel
theorem d_Mod_isSymbolByte_30 : decode b_Mod_isSymbolByte 30 = .ok (.ireturn, 1) := by decide +kernel
theorem d_Mod_isWordByte_0 : decode b_Mod_isWordByte 0 = .ok (.iload_n 0, 1) := by decide +kernel
theorem d_Mod_isWordByte_1 : decode b_Mod_isWordByte 1 = .ok (.invokestatic 52, 3) := by decide +kernel
theorem d_Mod_isWordByte_4 : decode b_Mod_isWordByte 4 = .ok (.ifCond .ne 16, 3) := by decide +kernel
theorem d_Mod_isWordByte_7 : decode b_Mod_isWordByte 7 = .ok (.iload_n 0, 1) := by decide +kernel
theorem d_Mod_isWordByte_8 : decode b_Mod_isWordByte 8 = .ok (.invokestatic 56, 3) := by decide +kernel
theorem d_Mod_isWordByte_11 : decode b_Mod_isWordByte 11 = .ok (.ifCond .ne 9, 3) := by decide +kernel
theorem d_Mod_isWordByte_14 : decode b_Mod_isWordByte 14 = .ok (.iload_n 0, 1) := by decide +kernel
theorem d_Mod_isWordByte_15 : decode b_Mod_isWordByte 15 = .ok (.bipush 95, 2) := by decide +kernel
theorem d_Mod_isWordByte_17 : decode b_Mod_isWordByte 17 = .ok (.if_icmp .ne 7, 3) := by decide +kernel
theorem d_Mod_isWordByte_20 : decode b_Mod_isWordByte 20 = .ok (.iconst 1, 1) := by decide +kernel
theorem d_Mod_isWordByte_21 : decode b_Mod_isWordByte 21 = .ok (.goto 4, 3) := by decide +kernel
theorem d_Mod_isWordByte_24 : decode b_Mod_isWordByte 24 = .ok (.iconst 0, 1) := by decide +kernel
theorem d_Mod_isWordByte_25 : decode b_Mod_isWordByte 25 = .ok (.ireturn, 1) := by decide +kernel
theorem d_Mod_isLetter_0 : decode b_Mod_isLetter 0 = .ok (.iload_n 0, 1) := by decide +kernel
theorem d_Mod_isLetter_1 : decode b_Mod_isLetter 1 = .ok (.bipush 97, 2) := by decide +kernel
theorem d_Mod_isLetter_3 : decode b_Mod_isLetter 3 = .ok (.if_icmp .lt 9, 3) := by decide +kernel
theorem d_Mod_isLetter_6 : decode b_Mod_isLetter 6 = .ok (.iload_n 0, 1) := by decide +kernel
theorem d_Mod_isLetter_7 : decode b_Mod_isLetter 7 = .ok (.bipush 122, 2) := by decide +kernel
theorem d_Mod_isLetter_9 : decode b_Mod_isLetter 9 = .ok (.if_icmp .le 15, 3) := by decide +kernel
theorem d_Mod_isLetter_12 : decode b_Mod_isLetter 12 = .ok (.iload_n 0, 1) := by decide +kernel
theorem d_Mod_isLetter_13 : decode b_Mod_isLetter 13 = .ok (.bipush 65, 2) := by decide +kernel
theorem d_Mod_isLetter_15 : decode b_Mod_isLetter 15 = .ok (.if_icmp .lt 13, 3) := by decide +kernel
theorem d_Mod_isLetter_18 : decode b_Mod_isLetter 18 = .ok (.iload_n 0, 1) := by decide +kernel
theorem d_Mod_isLetter_19 : decode b_Mod_isLetter 19 = .ok (.bipush 90, 2) := by decide +kernel
theorem d_Mod_isLetter_21 : decode b_Mod_isLetter 21 = .ok (.if_icmp .gt 7, 3) := by decide +kernel
theorem d_Mod_isLetter_24 : decode b_Mod_isLetter 24 = .ok (.iconst 1, 1) := by decide +kernel
theorem d_Mod_isLetter_25 : decode b_Mod_isLetter 25 = .ok (.goto 4, 3) := by decide +kernel
theorem d_Mod_isLetter_28 : decode b_Mod_isLetter 28 = .ok (.iconst 0, 1) := by decide +kernel
theorem d_Mod_isLetter_29 : decode b_Mod_isLetter 29 = .ok (.ireturn, 1) := by decide +kernel
theorem d_Mod_knownOf_0 : decode b_Mod_knownOf 0 = .ok (.aload_n 0, 1) := by decide +kernel
theorem d_Mod_knownOf_1 : decode b_Mod_knownOf 1 = .ok (.aload_n 0, 1) := by decide +kernel
theorem d_Mod_knownOf_2 : decode b_Mod_knownOf 2 = .ok (.getfield 36, 3) := by decide +kernel
theorem d_Mod_knownOf_5 : decode b_Mod_knownOf 5 = .ok (.iload_n 1, 1) := by decide +kernel
theorem d_Mod_knownOf_6 : decode b_Mod_knownOf 6 = .ok (.iload_n 2, 1) := by decide +kernel
theorem d_Mod_knownOf_7 : decode b_Mod_knownOf 7 = .ok (.invokevirtual 65, 3) := by decide +kernel
theorem d_Mod_knownOf_10 : decode b_Mod_knownOf 10 = .ok (.istore_n 3, 1) := by decide +kernel
theorem d_Mod_knownOf_11 : decode b_Mod_knownOf 11 = .ok (.iload_n 3, 1) := by decide +kernel
theorem d_Mod_knownOf_12 : decode b_Mod_knownOf 12 = .ok (.ifCond .lt 27, 3) := by decide +kernel
theorem d_Mod_knownOf_15 : decode b_Mod_knownOf 15 = .ok (.iload_n 3, 1) := by decide +kernel
theorem d_Mod_knownOf_16 : decode b_Mod_knownOf 16 = .ok (.iconst 5, 1) := by decide +kernel
theorem d_Mod_knownOf_17 : decode b_Mod_knownOf 17 = .ok (.if_icmp .ge 7, 3) := by decide +kernel
theorem d_Mod_knownOf_20 : decode b_Mod_knownOf 20 = .ok (.iload_n 3, 1) := by decide +kernel
theorem d_Mod_knownOf_21 : decode b_Mod_knownOf 21 = .ok (.goto 17, 3) := by decide +kernel
theorem d_Mod_knownOf_24 : decode b_Mod_knownOf 24 = .ok (.iload_n 3, 1) := by decide +kernel
theorem d_Mod_knownOf_25 : decode b_Mod_knownOf 25 = .ok (.iconst 5, 1) := by decide +kernel
theorem d_Mod_knownOf_26 : decode b_Mod_knownOf 26 = .ok (.if_icmp .ne 9, 3) := by decide +kernel
theorem d_Mod_knownOf_29 : decode b_Mod_knownOf 29 = .ok (.sipush 16384, 3) := by decide +kernel
theorem d_Mod_knownOf_32 : decode b_Mod_knownOf 32 = .ok (.goto 6, 3) := by decide +kernel
theorem d_Mod_knownOf_35 : decode b_Mod_knownOf 35 = .ok (.sipush 24576, 3) := by decide +kernel
theorem d_Mod_knownOf_38 : decode b_Mod_knownOf 38 = .ok (.ireturn, 1) := by decide +kernel
theorem d_Mod_knownOf_39 : decode b_Mod_knownOf 39 = .ok (.aload_n 0, 1) := by decide +kernel
theorem d_Mod_knownOf_40 : decode b_Mod_knownOf 40 = .ok (.getfield 7, 3) := by decide +kernel
theorem d_Mod_knownOf_43 : decode b_Mod_knownOf 43 = .ok (.iload_n 1, 1) := by decide +kernel
theorem d_Mod_knownOf_44 : decode b_Mod_knownOf 44 = .ok (.iaload, 1) := by decide +kernel
theorem d_Mod_knownOf_45 : decode b_Mod_knownOf 45 = .ok (.bipush 82, 2) := by decide +kernel
theorem d_Mod_knownOf_47 : decode b_Mod_knownOf 47 = .ok (.if_icmp .ne 46, 3) := by decide +kernel
theorem d_Mod_knownOf_50 : decode b_Mod_knownOf 50 = .ok (.iload_n 2, 1) := by decide +kernel
theorem d_Mod_knownOf_51 : decode b_Mod_knownOf 51 = .ok (.iconst 2, 1) := by decide +kernel
theorem d_Mod_knownOf_52 : decode b_Mod_knownOf 52 = .ok (.if_icmp .lt 41, 3) := by decide +kernel
theorem d_Mod_knownOf_55 : decode b_Mod_knownOf 55 = .ok (.iload_n 2, 1) := by decide +kernel
theorem d_Mod_knownOf_56 : decode b_Mod_knownOf 56 = .ok (.iconst 3, 1) := by decide +kernel
theorem d_Mod_knownOf_57 : decode b_Mod_knownOf 57 = .ok (.if_icmp .gt 36, 3) := by decide +kernel
theorem d_Mod_knownOf_60 : decode b_Mod_knownOf 60 = .ok (.aload_n 0, 1) := by decide +kernel
theorem d_Mod_knownOf_61 : decode b_Mod_knownOf 61 = .ok (.getfield 7, 3) := by decide +kernel
theorem d_Mod_knownOf_64 : decode b_Mod_knownOf 64 = .ok (.iload_n 1, 1) := by decide +kernel
theorem d_Mod_knownOf_65 : decode b_Mod_knownOf 65 = .ok (.iconst 1, 1) := by decide +kernel
theorem d_Mod_knownOf_66 : decode b_Mod_knownOf 66 = .ok (.iadd, 1) := by decide +kernel
theorem d_Mod_knownOf_67 : decode b_Mod_knownOf 67 = .ok (.iaload, 1) := by decide +kernel
theorem d_Mod_knownOf_68 : decode b_Mod_knownOf 68 = .ok (.invokestatic 56, 3) := by decide +kernel
theorem d_Mod_knownOf_71 : decode b_Mod_knownOf 71 = .ok (.ifCond .eq 22, 3) := by decide +kernel
theorem d_Mod_knownOf_74 : decode b_Mod_knownOf 74 = .ok (.iload_n 2, 1) := by decide +kernel
theorem d_Mod_knownOf_75 : decode b_Mod_knownOf 75 = .ok (.iconst 3, 1) := by decide +kernel
theorem d_Mod_knownOf_76 : decode b_Mod_knownOf 76 = .ok (.if_icmp .ne 19, 3) := by decide +kernel
theorem d_Mod_knownOf_79 : decode b_Mod_knownOf 79 = .ok (.aload_n 0, 1) := by decide +kernel
theorem d_Mod_knownOf_80 : decode b_Mod_knownOf 80 = .ok (.getfield 7, 3) := by decide +kernel
theorem d_Mod_knownOf_83 : decode b_Mod_knownOf 83 = .ok (.iload_n 1, 1) := by decide +kernel
theorem d_Mod_knownOf_84 : decode b_Mod_knownOf 84 = .ok (.iconst 2, 1) := by decide +kernel
theorem d_Mod_knownOf_85 : decode b_Mod_knownOf 85 = .ok (.iadd, 1) := by decide +kernel
theorem d_Mod_knownOf_86 : decode b_Mod_knownOf 86 = .ok (.iaload, 1) := by decide +kernel
theorem d_Mod_knownOf_87 : decode b_Mod_knownOf 87 = .ok (.invokestatic 56, 3) := by decide +kernel
theorem d_Mod_knownOf_90 : decode b_Mod_knownOf 90 = .ok (.ifCond .ne 5, 3) := by decide +kernel
theorem d_Mod_knownOf_93 : decode b_Mod_knownOf 93 = .ok (.iconst (-1), 1) := by decide +kernel
theorem d_Mod_knownOf_94 : decode b_Mod_knownOf 94 = .ok (.ireturn, 1) := by decide +kernel
theorem d_Mod_knownOf_95 : decode b_Mod_knownOf 95 = .ok (.iload_n 2, 1) := by decide +kernel
theorem d_Mod_knownOf_96 : decode b_Mod_knownOf 96 = .ok (.iconst 2, 1) := by decide +kernel
theorem d_Mod_knownOf_97 : decode b_Mod_knownOf 97 = .ok (.if_icmp .ne 17, 3) := by decide +kernel
theorem d_Mod_knownOf_100 : decode b_Mod_knownOf 100 = .ok (.aload_n 0, 1) := by decide +kernel
theorem d_Mod_knownOf_101 : decode b_Mod_knownOf 101 = .ok (.getfield 7, 3) := by decide +kernel
theorem d_Mod_knownOf_104 : decode b_Mod_knownOf 104 = .ok (.iload_n 1, 1) := by decide +kernel
theorem d_Mod_knownOf_105 : decode b_Mod_knownOf 105 = .ok (.iconst 1, 1) := by decide +kernel
theorem d_Mod_knownOf_106 : decode b_Mod_knownOf 106 = .ok (.iadd, 1) := by decide +kernel
theorem d_Mod_knownOf_107 : decode b_Mod_knownOf 107 = .ok (.iaload, 1) := by decide +kernel
theorem d_Mod_knownOf_108 : decode b_Mod_knownOf 108 = .ok (.bipush 48, 2) := by decide +kernel
theorem d_Mod_knownOf_110 : decode b_Mod_knownOf 110 = .ok (.isub, 1) := by decide +kernel
theorem d_Mod_knownOf_111 : decode b_Mod_knownOf 111 = .ok (.goto 29, 3) := by decide +kernel
theorem d_Mod_knownOf_114 : decode b_Mod_knownOf 114 = .ok (.bipush 10, 2) := by decide +kernel
theorem d_Mod_knownOf_116 : decode b_Mod_knownOf 116 = .ok (.aload_n 0, 1) := by decide +kernel
theorem d_Mod_knownOf_117 : decode b_Mod_knownOf 117 = .ok (.getfield 7, 3) := by decide +kernel
theorem d_Mod_knownOf_120 : decode b_Mod_knownOf 120 = .ok (.iload_n 1, 1) := by decide +kernel
theorem d_Mod_knownOf_121 : decode b_Mod_knownOf 121 = .ok (.iconst 1, 1) := by decide +kernel
theorem d_Mod_knownOf_122 : decode b_Mod_knownOf 122 = .ok (.iadd, 1) := by decide +kernel
theorem d_Mod_knownOf_123 : decode b_Mod_knownOf 123 = .ok (.iaload, 1) := by decide +kernel
theorem d_Mod_knownOf_124 : decode b_Mod_knownOf 124 = .ok (.bipush 48, 2) := by decide +kernel
theorem d_Mod_knownOf_126 : decode b_Mod_knownOf 126 = .ok (.isub, 1) := by decide +kernel
theorem d_Mod_knownOf_127 : decode b_Mod_knownOf 127 = .ok (.imul, 1) := by decide +kernel
theorem d_Mod_knownOf_128 : decode b_Mod_knownOf 128 = .ok (.aload_n 0, 1) := by decide +kernel
theorem d_Mod_knownOf_129 : decode b_Mod_knownOf 129 = .ok (.getfield 7, 3) := by decide +kernel
theorem d_Mod_knownOf_132 : decode b_Mod_knownOf 132 = .ok (.iload_n 1, 1) := by decide +kernel
theorem d_Mod_knownOf_133 : decode b_Mod_knownOf 133 = .ok (.iconst 2, 1) := by decide +kernel
theorem d_Mod_knownOf_134 : decode b_Mod_knownOf 134 = .ok (.iadd, 1) := by decide +kernel
theorem d_Mod_knownOf_135 : decode b_Mod_knownOf 135 = .ok (.iaload, 1) := by decide +kernel
theorem d_Mod_knownOf_136 : decode b_Mod_knownOf 136 = .ok (.iadd, 1) := by decide +kernel
theorem d_Mod_knownOf_137 : decode b_Mod_knownOf 137 = .ok (.bipush 48, 2) := by decide +kernel
theorem d_Mod_knownOf_139 : decode b_Mod_knownOf 139 = .ok (.isub, 1) := by decide +kernel
theorem d_Mod_knownOf_140 : decode b_Mod_knownOf 140 = .ok (.istore 4, 2) := by decide +kernel
theorem d_Mod_knownOf_142 : decode b_Mod_knownOf 142 = .ok (.iload_n 2, 1) := by decide +kernel
theorem d_Mod_knownOf_143 : decode b_Mod_knownOf 143 = .ok (.iconst 3, 1) := by decide +kernel
theorem d_Mod_knownOf_144 : decode b_Mod_knownOf 144 = .ok (.if_icmp .ne 16, 3) := by decide +kernel
theorem d_Mod_knownOf_147 : decode b_Mod_knownOf 147 = .ok (.aload_n 0, 1) := by decide +kernel
theorem d_Mod_knownOf_148 : decode b_Mod_knownOf 148 = .ok (.getfield 7, 3) := by decide +kernel
theorem d_Mod_knownOf_151 : decode b_Mod_knownOf 151 = .ok (.iload_n 1, 1) := by decide +kernel
theorem d_Mod_knownOf_152 : decode b_Mod_knownOf 152 = .ok (.iconst 1, 1) := by decide +kernel
theorem d_Mod_knownOf_153 : decode b_Mod_knownOf 153 = .ok (.iadd, 1) := by decide +kernel
theorem d_Mod_knownOf_154 : decode b_Mod_knownOf 154 = .ok (.iaload, 1) := by decide +kernel
theorem d_Mod_knownOf_155 : decode b_Mod_knownOf 155 = .ok (.bipush 49, 2) := by decide +kernel
theorem d_Mod_knownOf_157 : decode b_Mod_knownOf 157 = .ok (.if_icmp .ne 10, 3) := by decide +kernel
theorem d_Mod_knownOf_160 : decode b_Mod_knownOf 160 = .ok (.iload 4, 2) := by decide +kernel
theorem d_Mod_knownOf_162 : decode b_Mod_knownOf 162 = .ok (.bipush 15, 2) := by decide +kernel
theorem d_Mod_knownOf_164 : decode b_Mod_knownOf 164 = .ok (.if_icmp .le 7, 3) := by decide +kernel
theorem d_Mod_knownOf_167 : decode b_Mod_knownOf 167 = .ok (.iconst (-1), 1) := by decide +kernel
theorem d_Mod_knownOf_168 : decode b_Mod_knownOf 168 = .ok (.goto 5, 3) := by decide +kernel
theorem d_Mod_knownOf_171 : decode b_Mod_knownOf 171 = .ok (.iload 4, 2) := by decide +kernel
theorem d_Mod_knownOf_173 : decode b_Mod_knownOf 173 = .ok (.ireturn, 1) := by decide +kernel
theorem d_Mod_wordOf_0 : decode b_Mod_wordOf 0 = .ok (.iconst 0, 1) := by decide +kernel
theorem d_Mod_wordOf_1 : decode b_Mod_wordOf 1 = .ok (.istore 4, 2) := by decide +kernel
theorem d_Mod_wordOf_3 : decode b_Mod_wordOf 3 = .ok (.iconst 0, 1) := by decide +kernel
theorem d_Mod_wordOf_4 : decode b_Mod_wordOf 4 = .ok (.istore 5, 2) := by decide +kernel
theorem d_Mod_wordOf_6 : decode b_Mod_wordOf 6 = .ok (.iload 5, 2) := by decide +kernel
theorem d_Mod_wordOf_8 : decode b_Mod_wordOf 8 = .ok (.aload_n 1, 1) := by decide +kernel
theorem d_Mod_wordOf_9 : decode b_Mod_wordOf 9 = .ok (.arraylength, 1) := by decide +kernel
theorem d_Mod_wordOf_10 : decode b_Mod_wordOf 10 = .ok (.if_icmp .ge 94, 3) := by decide +kernel
theorem d_Mod_wordOf_13 : decode b_Mod_wordOf 13 = .ok (.iconst 0, 1) := by decide +kernel
theorem d_Mod_wordOf_14 : decode b_Mod_wordOf 14 = .ok (.istore 6, 2) := by decide +kernel
theorem d_Mod_wordOf_16 : decode b_Mod_wordOf 16 = .ok (.iload 6, 2) := by decide +kernel
theorem d_Mod_wordOf_18 : decode b_Mod_wordOf 18 = .ok (.iload_n 3, 1) := by decide +kernel
theorem d_Mod_wordOf_19 : decode b_Mod_wordOf 19 = .ok (.if_icmp .ge 31, 3) := by decide +kernel
theorem d_Mod_wordOf_22 : decode b_Mod_wordOf 22 = .ok (.aload_n 1, 1) := by decide +kernel
theorem d_Mod_wordOf_23 : decode b_Mod_wordOf 23 = .ok (.iload 5, 2) := by decide +kernel
theorem d_Mod_wordOf_25 : decode b_Mod_wordOf 25 = .ok (.iload 6, 2) := by decide +kernel
theorem d_Mod_wordOf_27 : decode b_Mod_wordOf 27 = .ok (.iadd, 1) := by decide +kernel
theorem d_Mod_wordOf_28 : decode b_Mod_wordOf 28 = .ok (.caload, 1) := by decide +kernel
theorem d_Mod_wordOf_29 : decode b_Mod_wordOf 29 = .ok (.aload_n 0, 1) := by decide +kernel
theorem d_Mod_wordOf_30 : decode b_Mod_wordOf 30 = .ok (.getfield 7, 3) := by decide +kernel
theorem d_Mod_wordOf_33 : decode b_Mod_wordOf 33 = .ok (.iload_n 2, 1) := by decide +kernel
theorem d_Mod_wordOf_34 : decode b_Mod_wordOf 34 = .ok (.iload 6, 2) := by decide +kernel
theorem d_Mod_wordOf_36 : decode b_Mod_wordOf 36 = .ok (.iadd, 1) := by decide +kernel
theorem d_Mod_wordOf_37 : decode b_Mod_wordOf 37 = .ok (.iaload, 1) := by decide +kernel
theorem d_Mod_wordOf_38 : decode b_Mod_wordOf 38 = .ok (.if_icmp .ne 12, 3) := by decide +kernel
theorem d_Mod_wordOf_41 : decode b_Mod_wordOf 41 = .ok (.iload 6, 2) := by decide +kernel
theorem d_Mod_wordOf_43 : decode b_Mod_wordOf 43 = .ok (.iconst 1, 1) := by decide +kernel
theorem d_Mod_wordOf_44 : decode b_Mod_wordOf 44 = .ok (.iadd, 1) := by decide +kernel
theorem d_Mod_wordOf_45 : decode b_Mod_wordOf 45 = .ok (.istore 6, 2) := by decide +kernel
theorem d_Mod_wordOf_47 : decode b_Mod_wordOf 47 = .ok (.goto (-31), 3) := by decide +kernel
theorem d_Mod_wordOf_50 : decode b_Mod_wordOf 50 = .ok (.iload 6, 2) := by decide +kernel
theorem d_Mod_wordOf_52 : decode b_Mod_wordOf 52 = .ok (.iload_n 3, 1) := by decide +kernel
theorem d_Mod_wordOf_53 : decode b_Mod_wordOf 53 = .ok (.if_icmp .ne 18, 3) := by decide +kernel
theorem d_Mod_wordOf_56 : decode b_Mod_wordOf 56 = .ok (.aload_n 1, 1) := by decide +kernel
theorem d_Mod_wordOf_57 : decode b_Mod_wordOf 57 = .ok (.iload 5, 2) := by decide +kernel
theorem d_Mod_wordOf_59 : decode b_Mod_wordOf 59 = .ok (.iload 6, 2) := by decide +kernel
theorem d_Mod_wordOf_61 : decode b_Mod_wordOf 61 = .ok (.iadd, 1) := by decide +kernel
theorem d_Mod_wordOf_62 : decode b_Mod_wordOf 62 = .ok (.caload, 1) := by decide +kernel
theorem d_Mod_wordOf_63 : decode b_Mod_wordOf 63 = .ok (.bipush 32, 2) := by decide +kernel
theorem d_Mod_wordOf_65 : decode b_Mod_wordOf 65 = .ok (.if_icmp .ne 6, 3) := by decide +kernel
theorem d_Mod_wordOf_68 : decode b_Mod_wordOf 68 = .ok (.iload 4, 2) := by decide +kernel
theorem d_Mod_wordOf_70 : decode b_Mod_wordOf 70 = .ok (.ireturn, 1) := by decide +kernel
theorem d_Mod_wordOf_71 : decode b_Mod_wordOf 71 = .ok (.aload_n 1, 1) := by decide +kernel
theorem d_Mod_wordOf_72 : decode b_Mod_wordOf 72 = .ok (.iload 5, 2) := by decide +kernel
theorem d_Mod_wordOf_74 : decode b_Mod_wordOf 74 = .ok (.caload, 1) := by decide +kernel
theorem d_Mod_wordOf_75 : decode b_Mod_wordOf 75 = .ok (.bipush 32, 2) := by decide +kernel
theorem d_Mod_wordOf_77 : decode b_Mod_wordOf 77 = .ok (.if_icmp .eq 12, 3) := by decide +kernel
theorem d_Mod_wordOf_80 : decode b_Mod_wordOf 80 = .ok (.iload 5, 2) := by decide +kernel
theorem d_Mod_wordOf_82 : decode b_Mod_wordOf 82 = .ok (.iconst 1, 1) := by decide +kernel
theorem d_Mod_wordOf_83 : decode b_Mod_wordOf 83 = .ok (.iadd, 1) := by decide +kernel
theorem d_Mod_wordOf_84 : decode b_Mod_wordOf 84 = .ok (.istore 5, 2) := by decide +kernel
theorem d_Mod_wordOf_86 : decode b_Mod_wordOf 86 = .ok (.goto (-15), 3) := by decide +kernel
theorem d_Mod_wordOf_89 : decode b_Mod_wordOf 89 = .ok (.iload 5, 2) := by decide +kernel
theorem d_Mod_wordOf_91 : decode b_Mod_wordOf 91 = .ok (.iconst 1, 1) := by decide +kernel
theorem d_Mod_wordOf_92 : decode b_Mod_wordOf 92 = .ok (.iadd, 1) := by decide +kernel
theorem d_Mod_wordOf_93 : decode b_Mod_wordOf 93 = .ok (.istore 5, 2) := by decide +kernel
theorem d_Mod_wordOf_95 : decode b_Mod_wordOf 95 = .ok (.iload 4, 2) := by decide +kernel
theorem d_Mod_wordOf_97 : decode b_Mod_wordOf 97 = .ok (.iconst 1, 1) := by decide +kernel
theorem d_Mod_wordOf_98 : decode b_Mod_wordOf 98 = .ok (.iadd, 1) := by decide +kernel
theorem d_Mod_wordOf_99 : decode b_Mod_wordOf 99 = .ok (.istore 4, 2) := by decide +kernel
theorem d_Mod_wordOf_101 : decode b_Mod_wordOf 101 = .ok (.goto (-95), 3) := by decide +kernel
theorem d_Mod_wordOf_104 : decode b_Mod_wordOf 104 = .ok (.iconst (-1), 1) := by decide +kernel
theorem d_Mod_wordOf_105 : decode b_Mod_wordOf 105 = .ok (.ireturn, 1) := by decide +kernel
theorem d_Mod_symbolOf_0 : decode b_Mod_symbolOf 0 = .ok (.iconst 0, 1) := by decide +kernel
theorem d_Mod_symbolOf_1 : decode b_Mod_symbolOf 1 = .ok (.istore_n 3, 1) := by decide +kernel
theorem d_Mod_symbolOf_2 : decode b_Mod_symbolOf 2 = .ok (.iload_n 3, 1) := by decide +kernel
theorem d_Mod_symbolOf_3 : decode b_Mod_symbolOf 3 = .ok (.aload_n 0, 1) := by decide +kernel
theorem d_Mod_symbolOf_4 : decode b_Mod_symbolOf 4 = .ok (.getfield 69, 3) := by decide +kernel
theorem d_Mod_symbolOf_7 : decode b_Mod_symbolOf 7 = .ok (.if_icmp .ge 71, 3) := by decide +kernel
theorem d_Mod_symbolOf_10 : decode b_Mod_symbolOf 10 = .ok (.iconst 0, 1) := by decide +kernel
theorem d_Mod_symbolOf_11 : decode b_Mod_symbolOf 11 = .ok (.istore 4, 2) := by decide +kernel
theorem d_Mod_symbolOf_13 : decode b_Mod_symbolOf 13 = .ok (.iload 4, 2) := by decide +kernel
theorem d_Mod_symbolOf_15 : decode b_Mod_symbolOf 15 = .ok (.iload_n 2, 1) := by decide +kernel
theorem d_Mod_symbolOf_16 : decode b_Mod_symbolOf 16 = .ok (.if_icmp .ge 48, 3) := by decide +kernel
theorem d_Mod_symbolOf_19 : decode b_Mod_symbolOf 19 = .ok (.aload_n 0, 1) := by decide +kernel
theorem d_Mod_symbolOf_20 : decode b_Mod_symbolOf 20 = .ok (.getfield 23, 3) := by decide +kernel
theorem d_Mod_symbolOf_23 : decode b_Mod_symbolOf 23 = .ok (.iload_n 3, 1) := by decide +kernel
theorem d_Mod_symbolOf_24 : decode b_Mod_symbolOf 24 = .ok (.iaload, 1) := by decide +kernel
theorem d_Mod_symbolOf_25 : decode b_Mod_symbolOf 25 = .ok (.iload_n 2, 1) := by decide +kernel
theorem d_Mod_symbolOf_26 : decode b_Mod_symbolOf 26 = .ok (.if_icmp .ne 38, 3) := by decide +kernel
theorem d_Mod_symbolOf_29 : decode b_Mod_symbolOf 29 = .ok (.aload_n 0, 1) := by decide +kernel
theorem d_Mod_symbolOf_30 : decode b_Mod_symbolOf 30 = .ok (.getfield 7, 3) := by decide +kernel
theorem d_Mod_symbolOf_33 : decode b_Mod_symbolOf 33 = .ok (.aload_n 0, 1) := by decide +kernel
theorem d_Mod_symbolOf_34 : decode b_Mod_symbolOf 34 = .ok (.getfield 20, 3) := by decide +kernel
theorem d_Mod_symbolOf_37 : decode b_Mod_symbolOf 37 = .ok (.iload_n 3, 1) := by decide +kernel
theorem d_Mod_symbolOf_38 : decode b_Mod_symbolOf 38 = .ok (.iaload, 1) := by decide +kernel
theorem d_Mod_symbolOf_39 : decode b_Mod_symbolOf 39 = .ok (.iload 4, 2) := by decide +kernel
theorem d_Mod_symbolOf_41 : decode b_Mod_symbolOf 41 = .ok (.iadd, 1) := by decide +kernel
theorem d_Mod_symbolOf_42 : decode b_Mod_symbolOf 42 = .ok (.iaload, 1) := by decide +kernel
theorem d_Mod_symbolOf_43 : decode b_Mod_symbolOf 43 = .ok (.aload_n 0, 1) := by decide +kernel
theorem d_Mod_symbolOf_44 : decode b_Mod_symbolOf 44 = .ok (.getfield 7, 3) := by decide +kernel
theorem d_Mod_symbolOf_47 : decode b_Mod_symbolOf 47 = .ok (.iload_n 1, 1) := by decide +kernel
theorem d_Mod_symbolOf_48 : decode b_Mod_symbolOf 48 = .ok (.iload 4, 2) := by decide +kernel
theorem d_Mod_symbolOf_50 : decode b_Mod_symbolOf 50 = .ok (.iadd, 1) := by decide +kernel
theorem d_Mod_symbolOf_51 : decode b_Mod_symbolOf 51 = .ok (.iaload, 1) := by decide +kernel
theorem d_Mod_symbolOf_52 : decode b_Mod_symbolOf 52 = .ok (.if_icmp .ne 12, 3) := by decide +kernel
theorem d_Mod_symbolOf_55 : decode b_Mod_symbolOf 55 = .ok (.iload 4, 2) := by decide +kernel
theorem d_Mod_symbolOf_57 : decode b_Mod_symbolOf 57 = .ok (.iconst 1, 1) := by decide +kernel
theorem d_Mod_symbolOf_58 : decode b_Mod_symbolOf 58 = .ok (.iadd, 1) := by decide +kernel
theorem d_Mod_symbolOf_59 : decode b_Mod_symbolOf 59 = .ok (.istore 4, 2) := by decide +kernel
theorem d_Mod_symbolOf_61 : decode b_Mod_symbolOf 61 = .ok (.goto (-48), 3) := by decide +kernel
theorem d_Mod_symbolOf_64 : decode b_Mod_symbolOf 64 = .ok (.iload 4, 2) := by decide +kernel
theorem d_Mod_symbolOf_66 : decode b_Mod_symbolOf 66 = .ok (.iload_n 2, 1) := by decide +kernel
theorem d_Mod_symbolOf_67 : decode b_Mod_symbolOf 67 = .ok (.if_icmp .ne 5, 3) := by decide +kernel
theorem d_Mod_symbolOf_70 : decode b_Mod_symbolOf 70 = .ok (.iload_n 3, 1) := by decide +kernel
theorem d_Mod_symbolOf_71 : decode b_Mod_symbolOf 71 = .ok (.ireturn, 1) := by decide +kernel
theorem d_Mod_symbolOf_72 : decode b_Mod_symbolOf 72 = .ok (.iinc 3 1, 3) := by decide +kernel
theorem d_Mod_symbolOf_75 : decode b_Mod_symbolOf 75 = .ok (.goto (-73), 3) := by decide +kernel
theorem d_Mod_symbolOf_78 : decode b_Mod_symbolOf 78 = .ok (.aload_n 0, 1) := by decide +kernel
theorem d_Mod_symbolOf_79 : decode b_Mod_symbolOf 79 = .ok (.getfield 69, 3) := by decide +kernel
theorem d_Mod_symbolOf_82 : decode b_Mod_symbolOf 82 = .ok (.bipush 40, 2) := by decide +kernel
theorem d_Mod_symbolOf_84 : decode b_Mod_symbolOf 84 = .ok (.if_icmp .ne 5, 3) := by decide +kernel
theorem d_Mod_symbolOf_87 : decode b_Mod_symbolOf 87 = .ok (.iconst (-1), 1) := by decide +kernel
theorem d_Mod_symbolOf_88 : decode b_Mod_symbolOf 88 = .ok (.ireturn, 1) := by decide +kernel
theorem d_Mod_symbolOf_89 : decode b_Mod_symbolOf 89 = .ok (.aload_n 0, 1) := by decide +kernel
theorem d_Mod_symbolOf_90 : decode b_Mod_symbolOf 90 = .ok (.getfield 20, 3) := by decide +kernel
theorem d_Mod_symbolOf_93 : decode b_Mod_symbolOf 93 = .ok (.aload_n 0, 1) := by decide +kernel
theorem d_Mod_symbolOf_94 : decode b_Mod_symbolOf 94 = .ok (.getfield 69, 3) := by decide +kernel
theorem d_Mod_symbolOf_97 : decode b_Mod_symbolOf 97 = .ok (.iload_n 1, 1) := by decide +kernel
theorem d_Mod_symbolOf_98 : decode b_Mod_symbolOf 98 = .ok (.iastore, 1) := by decide +kernel
theorem d_Mod_symbolOf_99 : decode b_Mod_symbolOf 99 = .ok (.aload_n 0, 1) := by decide +kernel
theorem d_Mod_symbolOf_100 : decode b_Mod_symbolOf 100 = .ok (.getfield 23, 3) := by decide +kernel
theorem d_Mod_symbolOf_103 : decode b_Mod_symbolOf 103 = .ok (.aload_n 0, 1) := by decide +kernel
theorem d_Mod_symbolOf_104 : decode b_Mod_symbolOf 104 = .ok (.getfield 69, 3) := by decide +kernel
theorem d_Mod_symbolOf_107 : decode b_Mod_symbolOf 107 = .ok (.iload_n 2, 1) := by decide +kernel
theorem d_Mod_symbolOf_108 : decode b_Mod_symbolOf 108 = .ok (.iastore, 1) := by decide +kernel
theorem d_Mod_symbolOf_109 : decode b_Mod_symbolOf 109 = .ok (.aload_n 0, 1) := by decide +kernel
theorem d_Mod_symbolOf_110 : decode b_Mod_symbolOf 110 = .ok (.getfield 26, 3) := by decide +kernel
theorem d_Mod_symbolOf_113 : decode b_Mod_symbolOf 113 = .ok (.aload_n 0, 1) := by decide +kernel
theorem d_Mod_symbolOf_114 : decode b_Mod_symbolOf 114 = .ok (.getfield 69, 3) := by decide +kernel
theorem d_Mod_symbolOf_117 : decode b_Mod_symbolOf 117 = .ok (.iconst (-1), 1) := by decide +kernel
theorem d_Mod_symbolOf_118 : decode b_Mod_symbolOf 118 = .ok (.iastore, 1) := by decide +kernel
theorem d_Mod_symbolOf_119 : decode b_Mod_symbolOf 119 = .ok (.aload_n 0, 1) := by decide +kernel
theorem d_Mod_symbolOf_120 : decode b_Mod_symbolOf 120 = .ok (.aload_n 0, 1) := by decide +kernel
theorem d_Mod_symbolOf_121 : decode b_Mod_symbolOf 121 = .ok (.getfield 69, 3) := by decide +kernel
theorem d_Mod_symbolOf_124 : decode b_Mod_symbolOf 124 = .ok (.iconst 1, 1) := by decide +kernel
theorem d_Mod_symbolOf_125 : decode b_Mod_symbolOf 125 = .ok (.iadd, 1) := by decide +kernel
theorem d_Mod_symbolOf_126 : decode b_Mod_symbolOf 126 = .ok (.putfield 69, 3) := by decide +kernel
theorem d_Mod_symbolOf_129 : decode b_Mod_symbolOf 129 = .ok (.aload_n 0, 1) := by decide +kernel
theorem d_Mod_symbolOf_130 : decode b_Mod_symbolOf 130 = .ok (.getfield 69, 3) := by decide +kernel
theorem d_Mod_symbolOf_133 : decode b_Mod_symbolOf 133 = .ok (.iconst 1, 1) := by decide +kernel
theorem d_Mod_symbolOf_134 : decode b_Mod_symbolOf 134 = .ok (.isub, 1) := by decide +kernel
theorem d_Mod_symbolOf_135 : decode b_Mod_symbolOf 135 = .ok (.ireturn, 1) := by decide +kernel
theorem d_Mod_address_0 : decode b_Mod_address 0 = .ok (.iload_n 2, 1) := by decide +kernel
theorem d_Mod_address_1 : decode b_Mod_address 1 = .ok (.ifCond .le 12, 3) := by decide +kernel
theorem d_Mod_address_4 : decode b_Mod_address 4 = .ok (.iload_n 2, 1) := by decide +kernel
theorem d_Mod_address_5 : decode b_Mod_address 5 = .ok (.iconst 5, 1) := by decide +kernel
theorem d_Mod_address_6 : decode b_Mod_address 6 = .ok (.if_icmp .gt 7, 3) := by decide +kernel
theorem d_Mod_address_9 : decode b_Mod_address 9 = .ok (.iconst 1, 1) := by decide +kernel
theorem d_Mod_address_10 : decode b_Mod_address 10 = .ok (.goto 4, 3) := by decide +kernel
theorem d_Mod_address_13 : decode b_Mod_address 13 = .ok (.iconst 0, 1) := by decide +kernel
theorem d_Mod_address_14 : decode b_Mod_address 14 = .ok (.istore_n 3, 1) := by decide +kernel
theorem d_Mod_address_15 : decode b_Mod_address 15 = .ok (.iconst 0, 1) := by decide +kernel
theorem d_Mod_address_16 : decode b_Mod_address 16 = .ok (.istore 4, 2) := by decide +kernel
theorem d_Mod_address_18 : decode b_Mod_address 18 = .ok (.iconst 0, 1) := by decide +kernel
theorem d_Mod_address_19 : decode b_Mod_address 19 = .ok (.istore 5, 2) := by decide +kernel
theorem d_Mod_address_21 : decode b_Mod_address 21 = .ok (.iload 5, 2) := by decide +kernel
theorem d_Mod_address_23 : decode b_Mod_address 23 = .ok (.iload_n 2, 1) := by decide +kernel
theorem d_Mod_address_24 : decode b_Mod_address 24 = .ok (.if_icmp .ge 46, 3) := by decide +kernel
theorem d_Mod_address_27 : decode b_Mod_address 27 = .ok (.iload_n 3, 1) := by decide +kernel
theorem d_Mod_address_28 : decode b_Mod_address 28 = .ok (.ifCond .eq 42, 3) := by decide +kernel
theorem d_Mod_address_31 : decode b_Mod_address 31 = .ok (.aload_n 0, 1) := by decide +kernel
theorem d_Mod_address_32 : decode b_Mod_address 32 = .ok (.getfield 7, 3) := by decide +kernel
theorem d_Mod_address_35 : decode b_Mod_address 35 = .ok (.iload_n 1, 1) := by decide +kernel
theorem d_Mod_address_36 : decode b_Mod_address 36 = .ok (.iload 5, 2) := by decide +kernel
theorem d_Mod_address_38 : decode b_Mod_address 38 = .ok (.iadd, 1) := by decide +kernel
theorem d_Mod_address_39 : decode b_Mod_address 39 = .ok (.iaload, 1) := by decide +kernel
theorem d_Mod_address_40 : decode b_Mod_address 40 = .ok (.invokestatic 56, 3) := by decide +kernel
theorem d_Mod_address_43 : decode b_Mod_address 43 = .ok (.istore_n 3, 1) := by decide +kernel
theorem d_Mod_address_44 : decode b_Mod_address 44 = .ok (.bipush 10, 2) := by decide +kernel
theorem d_Mod_address_46 : decode b_Mod_address 46 = .ok (.iload 4, 2) := by decide +kernel
theorem d_Mod_address_48 : decode b_Mod_address 48 = .ok (.imul, 1) := by decide +kernel
theorem d_Mod_address_49 : decode b_Mod_address 49 = .ok (.aload_n 0, 1) := by decide +kernel
theorem d_Mod_address_50 : decode b_Mod_address 50 = .ok (.getfield 7, 3) := by decide +kernel
theorem d_Mod_address_53 : decode b_Mod_address 53 = .ok (.iload_n 1, 1) := by decide +kernel
theorem d_Mod_address_54 : decode b_Mod_address 54 = .ok (.iload 5, 2) := by decide +kernel
theorem d_Mod_address_56 : decode b_Mod_address 56 = .ok (.iadd, 1) := by decide +kernel
theorem d_Mod_address_57 : decode b_Mod_address 57 = .ok (.iaload, 1) := by decide +kernel
theorem d_Mod_address_58 : decode b_Mod_address 58 = .ok (.iadd, 1) := by decide +kernel
theorem d_Mod_address_59 : decode b_Mod_address 59 = .ok (.bipush 48, 2) := by decide +kernel
theorem d_Mod_address_61 : decode b_Mod_address 61 = .ok (.isub, 1) := by decide +kernel
theorem d_Mod_address_62 : decode b_Mod_address 62 = .ok (.istore 4, 2) := by decide +kernel
theorem d_Mod_address_64 : decode b_Mod_address 64 = .ok (.iinc 5 1, 3) := by decide +kernel
theorem d_Mod_address_67 : decode b_Mod_address 67 = .ok (.goto (-46), 3) := by decide +kernel
theorem d_Mod_address_70 : decode b_Mod_address 70 = .ok (.iload_n 3, 1) := by decide +kernel
theorem d_Mod_address_71 : decode b_Mod_address 71 = .ok (.ifCond .eq 11, 3) := by decide +kernel
theorem d_Mod_address_74 : decode b_Mod_address 74 = .ok (.iload 4, 2) := by decide +kernel
theorem d_Mod_address_76 : decode b_Mod_address 76 = .ok (.sipush 32767, 3) := by decide +kernel
theorem d_Mod_address_79 : decode b_Mod_address 79 = .ok (.if_icmp .gt 16, 3) := by decide +kernel
theorem d_Mod_address_82 : decode b_Mod_address 82 = .ok (.iload_n 3, 1) := by decide +kernel
theorem d_Mod_address_83 : decode b_Mod_address 83 = .ok (.ifCond .ne 14, 3) := by decide +kernel
theorem d_Mod_address_86 : decode b_Mod_address 86 = .ok (.aload_n 0, 1) := by decide +kernel
theorem d_Mod_address_87 : decode b_Mod_address 87 = .ok (.iload_n 1, 1) := by decide +kernel
theorem d_Mod_address_88 : decode b_Mod_address 88 = .ok (.iload_n 2, 1) := by decide +kernel
theorem d_Mod_address_89 : decode b_Mod_address 89 = .ok (.invokevirtual 72, 3) := by decide +kernel
theorem d_Mod_address_92 : decode b_Mod_address 92 = .ok (.ifCond .ne 5, 3) := by decide +kernel
theorem d_Mod_address_95 : decode b_Mod_address 95 = .ok (.iconst 1, 1) := by decide +kernel
theorem d_Mod_address_96 : decode b_Mod_address 96 = .ok (.ireturn, 1) := by decide +kernel
theorem d_Mod_address_97 : decode b_Mod_address 97 = .ok (.aload_n 0, 1) := by decide +kernel
theorem d_Mod_address_98 : decode b_Mod_address 98 = .ok (.getfield 83, 3) := by decide +kernel
theorem d_Mod_address_101 : decode b_Mod_address 101 = .ok (.sipush 600, 3) := by decide +kernel
theorem d_Mod_address_104 : decode b_Mod_address 104 = .ok (.if_icmp .ne 5, 3) := by decide +kernel
theorem d_Mod_address_107 : decode b_Mod_address 107 = .ok (.iconst 2, 1) := by decide +kernel
theorem d_Mod_address_108 : decode b_Mod_address 108 = .ok (.ireturn, 1) := by decide +kernel
theorem d_Mod_address_109 : decode b_Mod_address 109 = .ok (.aload_n 0, 1) := by decide +kernel
theorem d_Mod_address_110 : decode b_Mod_address 110 = .ok (.getfield 29, 3) := by decide +kernel
theorem d_Mod_address_113 : decode b_Mod_address 113 = .ok (.aload_n 0, 1) := by decide +kernel
theorem d_Mod_address_114 : decode b_Mod_address 114 = .ok (.getfield 83, 3) := by decide +kernel
theorem d_Mod_address_117 : decode b_Mod_address 117 = .ok (.iconst (-1), 1) := by decide +kernel
theorem d_Mod_address_118 : decode b_Mod_address 118 = .ok (.iastore, 1) := by decide +kernel
theorem d_Mod_address_119 : decode b_Mod_address 119 = .ok (.iload_n 3, 1) := by decide +kernel
theorem d_Mod_address_120 : decode b_Mod_address 120 = .ok (.ifCond .eq 8, 3) := by decide +kernel
theorem d_Mod_address_123 : decode b_Mod_address 123 = .ok (.iload 4, 2) := by decide +kernel
theorem d_Mod_address_125 : decode b_Mod_address 125 = .ok (.goto 9, 3) := by decide +kernel
theorem d_Mod_address_128 : decode b_Mod_address 128 = .ok (.aload_n 0, 1) := by decide +kernel
theorem d_Mod_address_129 : decode b_Mod_address 129 = .ok (.iload_n 1, 1) := by decide +kernel
theorem d_Mod_address_130 : decode b_Mod_address 130 = .ok (.iload_n 2, 1) := by decide +kernel
theorem d_Mod_address_131 : decode b_Mod_address 131 = .ok (.invokevirtual 76, 3) := by decide +kernel
theorem d_Mod_address_134 : decode b_Mod_address 134 = .ok (.istore 5, 2) := by decide +kernel
theorem d_Mod_address_136 : decode b_Mod_address 136 = .ok (.iload 5, 2) := by decide +kernel
theorem d_Mod_address_138 : decode b_Mod_address 138 = .ok (.iconst (-1), 1) := by decide +kernel
theorem d_Mod_address_139 : decode b_Mod_address 139 = .ok (.if_icmp .ne 33, 3) := by decide +kernel
theorem d_Mod_address_142 : decode b_Mod_address 142 = .ok (.aload_n 0, 1) := by decide +kernel
theorem d_Mod_address_143 : decode b_Mod_address 143 = .ok (.getfield 29, 3) := by decide +kernel
theorem d_Mod_address_146 : decode b_Mod_address 146 = .ok (.aload_n 0, 1) := by decide +kernel
theorem d_Mod_address_147 : decode b_Mod_address 147 = .ok (.getfield 83, 3) := by decide +kernel
theorem d_Mod_address_150 : decode b_Mod_address 150 = .ok (.aload_n 0, 1) := by decide +kernel
theorem d_Mod_address_151 : decode b_Mod_address 151 = .ok (.iload_n 1, 1) := by decide +kernel
theorem d_Mod_address_152 : decode b_Mod_address 152 = .ok (.iload_n 2, 1) := by decide +kernel
theorem d_Mod_address_153 : decode b_Mod_address 153 = .ok (.invokevirtual 80, 3) := by decide +kernel
theorem d_Mod_address_156 : decode b_Mod_address 156 = .ok (.iastore, 1) := by decide +kernel
theorem d_Mod_address_157 : decode b_Mod_address 157 = .ok (.aload_n 0, 1) := by decide +kernel
theorem d_Mod_address_158 : decode b_Mod_address 158 = .ok (.getfield 29, 3) := by decide +kernel
theorem d_Mod_address_161 : decode b_Mod_address 161 = .ok (.aload_n 0, 1) := by decide +kernel
theorem d_Mod_address_162 : decode b_Mod_address 162 = .ok (.getfield 83, 3) := by decide +kernel
theorem d_Mod_address_165 : decode b_Mod_address 165 = .ok (.iaload, 1) := by decide +kernel
theorem d_Mod_address_166 : decode b_Mod_address 166 = .ok (.iconst (-1), 1) := by decide +kernel
theorem d_Mod_address_167 : decode b_Mod_address 167 = .ok (.if_icmp .ne 5, 3) := by decide +kernel
theorem d_Mod_address_170 : decode b_Mod_address 170 = .ok (.iconst 2, 1) := by decide +kernel
theorem d_Mod_address_171 : decode b_Mod_address 171 = .ok (.ireturn, 1) := by decide +kernel
theorem d_Mod_address_172 : decode b_Mod_address 172 = .ok (.aload_n 0, 1) := by decide +kernel
theorem d_Mod_address_173 : decode b_Mod_address 173 = .ok (.getfield 17, 3) := by decide +kernel
theorem d_Mod_address_176 : decode b_Mod_address 176 = .ok (.aload_n 0, 1) := by decide +kernel
theorem d_Mod_address_177 : decode b_Mod_address 177 = .ok (.getfield 83, 3) := by decide +kernel
theorem d_Mod_address_180 : decode b_Mod_address 180 = .ok (.iload 5, 2) := by decide +kernel
theorem d_Mod_address_182 : decode b_Mod_address 182 = .ok (.iconst (-1), 1) := by decide +kernel
theorem d_Mod_address_183 : decode b_Mod_address 183 = .ok (.if_icmp .ne 7, 3) := by decide +kernel
end
section
/-! decode rows -/
theorem d_Mod_address_186 : decode b_Mod_address 186 = .ok (.iconst 0, 1) := by decide +kernel
theorem d_Mod_address_187 : decode b_Mod_address 187 = .ok (.goto 5, 3) := by decide +kernel
theorem d_Mod_address_190 : decode b_Mod_address 190 = .ok (.iload 5, 2) := by decide +kernel
theorem d_Mod_address_192 : decode b_Mod_address 192 = .ok (.iastore, 1) := by decide +kernel
theorem d_Mod_address_193 : decode b_Mod_address 193 = .ok (.aload_n 0, 1) := by decide +kernel
theorem d_Mod_address_194 : decode b_Mod_address 194 = .ok (.aload_n 0, 1) := by decide +kernel
theorem d_Mod_address_195 : decode b_Mod_address 195 = .ok (.getfield 83, 3) := by decide +kernel
theorem d_Mod_address_198 : decode b_Mod_address 198 = .ok (.iconst 1, 1) := by decide +kernel
theorem d_Mod_address_199 : decode b_Mod_address 199 = .ok (.iadd, 1) := by decide +kernel
theorem d_Mod_address_200 : decode b_Mod_address 200 = .ok (.putfield 83, 3) := by decide +kernel
theorem d_Mod_address_203 : decode b_Mod_address 203 = .ok (.iconst 0, 1) := by decide +kernel
theorem d_Mod_address_204 : decode b_Mod_address 204 = .ok (.ireturn, 1) := by decide +kernel
theorem d_Mod_computes_0 : decode b_Mod_computes 0 = .ok (.iconst (-1), 1) := by decide +kernel
theorem d_Mod_computes_1 : decode b_Mod_computes 1 = .ok (.istore_n 3, 1) := by decide +kernel
theorem d_Mod_computes_2 : decode b_Mod_computes 2 = .ok (.iconst (-1), 1) := by decide +kernel
theorem d_Mod_computes_3 : decode b_Mod_computes 3 = .ok (.istore 4, 2) := by decide +kernel
theorem d_Mod_computes_5 : decode b_Mod_computes 5 = .ok (.iconst 0, 1) := by decide +kernel
theorem d_Mod_computes_6 : decode b_Mod_computes 6 = .ok (.istore 5, 2) := by decide +kernel
theorem d_Mod_computes_8 : decode b_Mod_computes 8 = .ok (.iload 5, 2) := by decide +kernel
theorem d_Mod_computes_10 : decode b_Mod_computes 10 = .ok (.iload_n 2, 1) := by decide +kernel
theorem d_Mod_computes_11 : decode b_Mod_computes 11 = .ok (.if_icmp .ge 55, 3) := by decide +kernel
theorem d_Mod_computes_14 : decode b_Mod_computes 14 = .ok (.aload_n 0, 1) := by decide +kernel
theorem d_Mod_computes_15 : decode b_Mod_computes 15 = .ok (.getfield 7, 3) := by decide +kernel
theorem d_Mod_computes_18 : decode b_Mod_computes 18 = .ok (.iload_n 1, 1) := by decide +kernel
theorem d_Mod_computes_19 : decode b_Mod_computes 19 = .ok (.iload 5, 2) := by decide +kernel
theorem d_Mod_computes_21 : decode b_Mod_computes 21 = .ok (.iadd, 1) := by decide +kernel
theorem d_Mod_computes_22 : decode b_Mod_computes 22 = .ok (.iaload, 1) := by decide +kernel
theorem d_Mod_computes_23 : decode b_Mod_computes 23 = .ok (.bipush 61, 2) := by decide +kernel
theorem d_Mod_computes_25 : decode b_Mod_computes 25 = .ok (.if_icmp .ne 11, 3) := by decide +kernel
theorem d_Mod_computes_28 : decode b_Mod_computes 28 = .ok (.iload_n 3, 1) := by decide +kernel
theorem d_Mod_computes_29 : decode b_Mod_computes 29 = .ok (.iconst (-1), 1) := by decide +kernel
theorem d_Mod_computes_30 : decode b_Mod_computes 30 = .ok (.if_icmp .ne 6, 3) := by decide +kernel
theorem d_Mod_computes_33 : decode b_Mod_computes 33 = .ok (.iload 5, 2) := by decide +kernel
theorem d_Mod_computes_35 : decode b_Mod_computes 35 = .ok (.istore_n 3, 1) := by decide +kernel
theorem d_Mod_computes_36 : decode b_Mod_computes 36 = .ok (.aload_n 0, 1) := by decide +kernel
theorem d_Mod_computes_37 : decode b_Mod_computes 37 = .ok (.getfield 7, 3) := by decide +kernel
theorem d_Mod_computes_40 : decode b_Mod_computes 40 = .ok (.iload_n 1, 1) := by decide +kernel
theorem d_Mod_computes_41 : decode b_Mod_computes 41 = .ok (.iload 5, 2) := by decide +kernel
theorem d_Mod_computes_43 : decode b_Mod_computes 43 = .ok (.iadd, 1) := by decide +kernel
theorem d_Mod_computes_44 : decode b_Mod_computes 44 = .ok (.iaload, 1) := by decide +kernel
theorem d_Mod_computes_45 : decode b_Mod_computes 45 = .ok (.bipush 59, 2) := by decide +kernel
theorem d_Mod_computes_47 : decode b_Mod_computes 47 = .ok (.if_icmp .ne 13, 3) := by decide +kernel
theorem d_Mod_computes_50 : decode b_Mod_computes 50 = .ok (.iload 4, 2) := by decide +kernel
theorem d_Mod_computes_52 : decode b_Mod_computes 52 = .ok (.iconst (-1), 1) := by decide +kernel
theorem d_Mod_computes_53 : decode b_Mod_computes 53 = .ok (.if_icmp .ne 7, 3) := by decide +kernel
theorem d_Mod_computes_56 : decode b_Mod_computes 56 = .ok (.iload 5, 2) := by decide +kernel
theorem d_Mod_computes_58 : decode b_Mod_computes 58 = .ok (.istore 4, 2) := by decide +kernel
theorem d_Mod_computes_60 : decode b_Mod_computes 60 = .ok (.iinc 5 1, 3) := by decide +kernel
theorem d_Mod_computes_63 : decode b_Mod_computes 63 = .ok (.goto (-55), 3) := by decide +kernel
theorem d_Mod_computes_66 : decode b_Mod_computes 66 = .ok (.iload_n 3, 1) := by decide +kernel
theorem d_Mod_computes_67 : decode b_Mod_computes 67 = .ok (.iconst 1, 1) := by decide +kernel
theorem d_Mod_computes_68 : decode b_Mod_computes 68 = .ok (.iadd, 1) := by decide +kernel
theorem d_Mod_computes_69 : decode b_Mod_computes 69 = .ok (.istore 5, 2) := by decide +kernel
theorem d_Mod_computes_71 : decode b_Mod_computes 71 = .ok (.iload 4, 2) := by decide +kernel
theorem d_Mod_computes_73 : decode b_Mod_computes 73 = .ok (.iconst (-1), 1) := by decide +kernel
theorem d_Mod_computes_74 : decode b_Mod_computes 74 = .ok (.if_icmp .ne 7, 3) := by decide +kernel
theorem d_Mod_computes_77 : decode b_Mod_computes 77 = .ok (.iload_n 2, 1) := by decide +kernel
theorem d_Mod_computes_78 : decode b_Mod_computes 78 = .ok (.goto 5, 3) := by decide +kernel
theorem d_Mod_computes_81 : decode b_Mod_computes 81 = .ok (.iload 4, 2) := by decide +kernel
theorem d_Mod_computes_83 : decode b_Mod_computes 83 = .ok (.istore 6, 2) := by decide +kernel
theorem d_Mod_computes_85 : decode b_Mod_computes 85 = .ok (.iload 6, 2) := by decide +kernel
theorem d_Mod_computes_87 : decode b_Mod_computes 87 = .ok (.iload 5, 2) := by decide +kernel
theorem d_Mod_computes_89 : decode b_Mod_computes 89 = .ok (.if_icmp .ge 5, 3) := by decide +kernel
theorem d_Mod_computes_92 : decode b_Mod_computes 92 = .ok (.iconst 1, 1) := by decide +kernel
theorem d_Mod_computes_93 : decode b_Mod_computes 93 = .ok (.ireturn, 1) := by decide +kernel
theorem d_Mod_computes_94 : decode b_Mod_computes 94 = .ok (.iload_n 3, 1) := by decide +kernel
theorem d_Mod_computes_95 : decode b_Mod_computes 95 = .ok (.iconst (-1), 1) := by decide +kernel
theorem d_Mod_computes_96 : decode b_Mod_computes 96 = .ok (.if_icmp .ne 7, 3) := by decide +kernel
theorem d_Mod_computes_99 : decode b_Mod_computes 99 = .ok (.iconst 0, 1) := by decide +kernel
theorem d_Mod_computes_100 : decode b_Mod_computes 100 = .ok (.goto 9, 3) := by decide +kernel
theorem d_Mod_computes_103 : decode b_Mod_computes 103 = .ok (.aload_n 0, 1) := by decide +kernel
theorem d_Mod_computes_104 : decode b_Mod_computes 104 = .ok (.iload_n 1, 1) := by decide +kernel
theorem d_Mod_computes_105 : decode b_Mod_computes 105 = .ok (.iload_n 3, 1) := by decide +kernel
theorem d_Mod_computes_106 : decode b_Mod_computes 106 = .ok (.invokevirtual 86, 3) := by decide +kernel
theorem d_Mod_computes_109 : decode b_Mod_computes 109 = .ok (.istore 7, 2) := by decide +kernel
theorem d_Mod_computes_111 : decode b_Mod_computes 111 = .ok (.aload_n 0, 1) := by decide +kernel
theorem d_Mod_computes_112 : decode b_Mod_computes 112 = .ok (.iload_n 1, 1) := by decide +kernel
theorem d_Mod_computes_113 : decode b_Mod_computes 113 = .ok (.iload 5, 2) := by decide +kernel
theorem d_Mod_computes_115 : decode b_Mod_computes 115 = .ok (.iadd, 1) := by decide +kernel
theorem d_Mod_computes_116 : decode b_Mod_computes 116 = .ok (.iload 6, 2) := by decide +kernel
theorem d_Mod_computes_118 : decode b_Mod_computes 118 = .ok (.iload 5, 2) := by decide +kernel
theorem d_Mod_computes_120 : decode b_Mod_computes 120 = .ok (.isub, 1) := by decide +kernel
theorem d_Mod_computes_121 : decode b_Mod_computes 121 = .ok (.invokevirtual 89, 3) := by decide +kernel
theorem d_Mod_computes_124 : decode b_Mod_computes 124 = .ok (.istore 8, 2) := by decide +kernel
theorem d_Mod_computes_126 : decode b_Mod_computes 126 = .ok (.iload 4, 2) := by decide +kernel
theorem d_Mod_computes_128 : decode b_Mod_computes 128 = .ok (.iconst (-1), 1) := by decide +kernel
theorem d_Mod_computes_129 : decode b_Mod_computes 129 = .ok (.if_icmp .ne 7, 3) := by decide +kernel
theorem d_Mod_computes_132 : decode b_Mod_computes 132 = .ok (.iconst 0, 1) := by decide +kernel
theorem d_Mod_computes_133 : decode b_Mod_computes 133 = .ok (.goto 25, 3) := by decide +kernel
theorem d_Mod_computes_136 : decode b_Mod_computes 136 = .ok (.iconst 1, 1) := by decide +kernel
theorem d_Mod_computes_137 : decode b_Mod_computes 137 = .ok (.aload_n 0, 1) := by decide +kernel
theorem d_Mod_computes_138 : decode b_Mod_computes 138 = .ok (.aload_n 0, 1) := by decide +kernel
theorem d_Mod_computes_139 : decode b_Mod_computes 139 = .ok (.getfield 40, 3) := by decide +kernel
theorem d_Mod_computes_142 : decode b_Mod_computes 142 = .ok (.iload_n 1, 1) := by decide +kernel
theorem d_Mod_computes_143 : decode b_Mod_computes 143 = .ok (.iload 4, 2) := by decide +kernel
theorem d_Mod_computes_145 : decode b_Mod_computes 145 = .ok (.iadd, 1) := by decide +kernel
theorem d_Mod_computes_146 : decode b_Mod_computes 146 = .ok (.iconst 1, 1) := by decide +kernel
theorem d_Mod_computes_147 : decode b_Mod_computes 147 = .ok (.iadd, 1) := by decide +kernel
theorem d_Mod_computes_148 : decode b_Mod_computes 148 = .ok (.iload_n 2, 1) := by decide +kernel
theorem d_Mod_computes_149 : decode b_Mod_computes 149 = .ok (.iload 4, 2) := by decide +kernel
theorem d_Mod_computes_151 : decode b_Mod_computes 151 = .ok (.isub, 1) := by decide +kernel
theorem d_Mod_computes_152 : decode b_Mod_computes 152 = .ok (.iconst 1, 1) := by decide +kernel
theorem d_Mod_computes_153 : decode b_Mod_computes 153 = .ok (.isub, 1) := by decide +kernel
theorem d_Mod_computes_154 : decode b_Mod_computes 154 = .ok (.invokevirtual 65, 3) := by decide +kernel
theorem d_Mod_computes_157 : decode b_Mod_computes 157 = .ok (.iadd, 1) := by decide +kernel
theorem d_Mod_computes_158 : decode b_Mod_computes 158 = .ok (.istore 9, 2) := by decide +kernel
theorem d_Mod_computes_160 : decode b_Mod_computes 160 = .ok (.iload 7, 2) := by decide +kernel
theorem d_Mod_computes_162 : decode b_Mod_computes 162 = .ok (.iconst (-1), 1) := by decide +kernel
theorem d_Mod_computes_163 : decode b_Mod_computes 163 = .ok (.if_icmp .eq 31, 3) := by decide +kernel
theorem d_Mod_computes_166 : decode b_Mod_computes 166 = .ok (.iload 8, 2) := by decide +kernel
theorem d_Mod_computes_168 : decode b_Mod_computes 168 = .ok (.iconst (-1), 1) := by decide +kernel
theorem d_Mod_computes_169 : decode b_Mod_computes 169 = .ok (.if_icmp .eq 25, 3) := by decide +kernel
theorem d_Mod_computes_172 : decode b_Mod_computes 172 = .ok (.iload 4, 2) := by decide +kernel
theorem d_Mod_computes_174 : decode b_Mod_computes 174 = .ok (.iconst (-1), 1) := by decide +kernel
theorem d_Mod_computes_175 : decode b_Mod_computes 175 = .ok (.if_icmp .eq 21, 3) := by decide +kernel
theorem d_Mod_computes_178 : decode b_Mod_computes 178 = .ok (.iload 9, 2) := by decide +kernel
theorem d_Mod_computes_180 : decode b_Mod_computes 180 = .ok (.iconst 1, 1) := by decide +kernel
theorem d_Mod_computes_181 : decode b_Mod_computes 181 = .ok (.if_icmp .lt 13, 3) := by decide +kernel
theorem d_Mod_computes_184 : decode b_Mod_computes 184 = .ok (.iload_n 2, 1) := by decide +kernel
theorem d_Mod_computes_185 : decode b_Mod_computes 185 = .ok (.iload 4, 2) := by decide +kernel
theorem d_Mod_computes_187 : decode b_Mod_computes 187 = .ok (.isub, 1) := by decide +kernel
theorem d_Mod_computes_188 : decode b_Mod_computes 188 = .ok (.iconst 1, 1) := by decide +kernel
theorem d_Mod_computes_189 : decode b_Mod_computes 189 = .ok (.isub, 1) := by decide +kernel
theorem d_Mod_computes_190 : decode b_Mod_computes 190 = .ok (.iconst 3, 1) := by decide +kernel
theorem d_Mod_computes_191 : decode b_Mod_computes 191 = .ok (.if_icmp .eq 5, 3) := by decide +kernel
theorem d_Mod_computes_194 : decode b_Mod_computes 194 = .ok (.iconst 1, 1) := by decide +kernel
theorem d_Mod_computes_195 : decode b_Mod_computes 195 = .ok (.ireturn, 1) := by decide +kernel
theorem d_Mod_computes_196 : decode b_Mod_computes 196 = .ok (.aload_n 0, 1) := by decide +kernel
theorem d_Mod_computes_197 : decode b_Mod_computes 197 = .ok (.getfield 83, 3) := by decide +kernel
theorem d_Mod_computes_200 : decode b_Mod_computes 200 = .ok (.sipush 600, 3) := by decide +kernel
theorem d_Mod_computes_203 : decode b_Mod_computes 203 = .ok (.if_icmp .ne 5, 3) := by decide +kernel
theorem d_Mod_computes_206 : decode b_Mod_computes 206 = .ok (.iconst 2, 1) := by decide +kernel
theorem d_Mod_computes_207 : decode b_Mod_computes 207 = .ok (.ireturn, 1) := by decide +kernel
theorem d_Mod_computes_208 : decode b_Mod_computes 208 = .ok (.aload_n 0, 1) := by decide +kernel
theorem d_Mod_computes_209 : decode b_Mod_computes 209 = .ok (.getfield 29, 3) := by decide +kernel
theorem d_Mod_computes_212 : decode b_Mod_computes 212 = .ok (.aload_n 0, 1) := by decide +kernel
theorem d_Mod_computes_213 : decode b_Mod_computes 213 = .ok (.getfield 83, 3) := by decide +kernel
theorem d_Mod_computes_216 : decode b_Mod_computes 216 = .ok (.iconst (-1), 1) := by decide +kernel
theorem d_Mod_computes_217 : decode b_Mod_computes 217 = .ok (.iastore, 1) := by decide +kernel
theorem d_Mod_computes_218 : decode b_Mod_computes 218 = .ok (.aload_n 0, 1) := by decide +kernel
theorem d_Mod_computes_219 : decode b_Mod_computes 219 = .ok (.getfield 17, 3) := by decide +kernel
theorem d_Mod_computes_222 : decode b_Mod_computes 222 = .ok (.aload_n 0, 1) := by decide +kernel
theorem d_Mod_computes_223 : decode b_Mod_computes 223 = .ok (.getfield 83, 3) := by decide +kernel
theorem d_Mod_computes_226 : decode b_Mod_computes 226 = .ok (.ldc 92, 2) := by decide +kernel
theorem d_Mod_computes_228 : decode b_Mod_computes 228 = .ok (.bipush 64, 2) := by decide +kernel
theorem d_Mod_computes_230 : decode b_Mod_computes 230 = .ok (.iload 8, 2) := by decide +kernel
theorem d_Mod_computes_232 : decode b_Mod_computes 232 = .ok (.imul, 1) := by decide +kernel
theorem d_Mod_computes_233 : decode b_Mod_computes 233 = .ok (.iadd, 1) := by decide +kernel
theorem d_Mod_computes_234 : decode b_Mod_computes 234 = .ok (.iload 7, 2) := by decide +kernel
theorem d_Mod_computes_236 : decode b_Mod_computes 236 = .ok (.iadd, 1) := by decide +kernel
theorem d_Mod_computes_237 : decode b_Mod_computes 237 = .ok (.iload 9, 2) := by decide +kernel
theorem d_Mod_computes_239 : decode b_Mod_computes 239 = .ok (.iadd, 1) := by decide +kernel
theorem d_Mod_computes_240 : decode b_Mod_computes 240 = .ok (.iastore, 1) := by decide +kernel
theorem d_Mod_computes_241 : decode b_Mod_computes 241 = .ok (.aload_n 0, 1) := by decide +kernel
theorem d_Mod_computes_242 : decode b_Mod_computes 242 = .ok (.aload_n 0, 1) := by decide +kernel
theorem d_Mod_computes_243 : decode b_Mod_computes 243 = .ok (.getfield 83, 3) := by decide +kernel
theorem d_Mod_computes_246 : decode b_Mod_computes 246 = .ok (.iconst 1, 1) := by decide +kernel
theorem d_Mod_computes_247 : decode b_Mod_computes 247 = .ok (.iadd, 1) := by decide +kernel
theorem d_Mod_computes_248 : decode b_Mod_computes 248 = .ok (.putfield 83, 3) := by decide +kernel
theorem d_Mod_computes_251 : decode b_Mod_computes 251 = .ok (.iconst 0, 1) := by decide +kernel
theorem d_Mod_computes_252 : decode b_Mod_computes 252 = .ok (.ireturn, 1) := by decide +kernel
theorem d_Mod_destOf_0 : decode b_Mod_destOf 0 = .ok (.aload_n 0, 1) := by decide +kernel
theorem d_Mod_destOf_1 : decode b_Mod_destOf 1 = .ok (.aload_n 0, 1) := by decide +kernel
theorem d_Mod_destOf_2 : decode b_Mod_destOf 2 = .ok (.getfield 43, 3) := by decide +kernel
theorem d_Mod_destOf_5 : decode b_Mod_destOf 5 = .ok (.iload_n 1, 1) := by decide +kernel
theorem d_Mod_destOf_6 : decode b_Mod_destOf 6 = .ok (.iload_n 2, 1) := by decide +kernel
theorem d_Mod_destOf_7 : decode b_Mod_destOf 7 = .ok (.invokevirtual 65, 3) := by decide +kernel
theorem d_Mod_destOf_10 : decode b_Mod_destOf 10 = .ok (.istore_n 3, 1) := by decide +kernel
theorem d_Mod_destOf_11 : decode b_Mod_destOf 11 = .ok (.iload_n 3, 1) := by decide +kernel
theorem d_Mod_destOf_12 : decode b_Mod_destOf 12 = .ok (.ifCond .lt 7, 3) := by decide +kernel
theorem d_Mod_destOf_15 : decode b_Mod_destOf 15 = .ok (.iload_n 2, 1) := by decide +kernel
theorem d_Mod_destOf_16 : decode b_Mod_destOf 16 = .ok (.ifCond .ne 7, 3) := by decide +kernel
theorem d_Mod_destOf_19 : decode b_Mod_destOf 19 = .ok (.iconst (-1), 1) := by decide +kernel
theorem d_Mod_destOf_20 : decode b_Mod_destOf 20 = .ok (.goto 9, 3) := by decide +kernel
theorem d_Mod_destOf_23 : decode b_Mod_destOf 23 = .ok (.bipush 8, 2) := by decide +kernel
theorem d_Mod_destOf_25 : decode b_Mod_destOf 25 = .ok (.iload_n 3, 1) := by decide +kernel
theorem d_Mod_destOf_26 : decode b_Mod_destOf 26 = .ok (.iconst 1, 1) := by decide +kernel
theorem d_Mod_destOf_27 : decode b_Mod_destOf 27 = .ok (.iadd, 1) := by decide +kernel
theorem d_Mod_destOf_28 : decode b_Mod_destOf 28 = .ok (.imul, 1) := by decide +kernel
theorem d_Mod_destOf_29 : decode b_Mod_destOf 29 = .ok (.ireturn, 1) := by decide +kernel
theorem d_Mod_compOf_0 : decode b_Mod_compOf 0 = .ok (.iload_n 2, 1) := by decide +kernel
theorem d_Mod_compOf_1 : decode b_Mod_compOf 1 = .ok (.ifCond .le 12, 3) := by decide +kernel
theorem d_Mod_compOf_4 : decode b_Mod_compOf 4 = .ok (.aload_n 0, 1) := by decide +kernel
theorem d_Mod_compOf_5 : decode b_Mod_compOf 5 = .ok (.getfield 7, 3) := by decide +kernel
theorem d_Mod_compOf_8 : decode b_Mod_compOf 8 = .ok (.iload_n 1, 1) := by decide +kernel
theorem d_Mod_compOf_9 : decode b_Mod_compOf 9 = .ok (.iaload, 1) := by decide +kernel
theorem d_Mod_compOf_10 : decode b_Mod_compOf 10 = .ok (.goto 4, 3) := by decide +kernel
theorem d_Mod_compOf_13 : decode b_Mod_compOf 13 = .ok (.iconst 0, 1) := by decide +kernel
theorem d_Mod_compOf_14 : decode b_Mod_compOf 14 = .ok (.istore_n 3, 1) := by decide +kernel
theorem d_Mod_compOf_15 : decode b_Mod_compOf 15 = .ok (.iload_n 2, 1) := by decide +kernel
theorem d_Mod_compOf_16 : decode b_Mod_compOf 16 = .ok (.iconst 1, 1) := by decide +kernel
theorem d_Mod_compOf_17 : decode b_Mod_compOf 17 = .ok (.if_icmp .le 14, 3) := by decide +kernel
theorem d_Mod_compOf_20 : decode b_Mod_compOf 20 = .ok (.aload_n 0, 1) := by decide +kernel
theorem d_Mod_compOf_21 : decode b_Mod_compOf 21 = .ok (.getfield 7, 3) := by decide +kernel
theorem d_Mod_compOf_24 : decode b_Mod_compOf 24 = .ok (.iload_n 1, 1) := by decide +kernel
theorem d_Mod_compOf_25 : decode b_Mod_compOf 25 = .ok (.iconst 1, 1) := by decide +kernel
theorem d_Mod_compOf_26 : decode b_Mod_compOf 26 = .ok (.iadd, 1) := by decide +kernel
theorem d_Mod_compOf_27 : decode b_Mod_compOf 27 = .ok (.iaload, 1) := by decide +kernel
theorem d_Mod_compOf_28 : decode b_Mod_compOf 28 = .ok (.goto 4, 3) := by decide +kernel
theorem d_Mod_compOf_31 : decode b_Mod_compOf 31 = .ok (.iconst 0, 1) := by decide +kernel
theorem d_Mod_compOf_32 : decode b_Mod_compOf 32 = .ok (.istore 4, 2) := by decide +kernel
theorem d_Mod_compOf_34 : decode b_Mod_compOf 34 = .ok (.iload_n 2, 1) := by decide +kernel
theorem d_Mod_compOf_35 : decode b_Mod_compOf 35 = .ok (.iconst 2, 1) := by decide +kernel
theorem d_Mod_compOf_36 : decode b_Mod_compOf 36 = .ok (.if_icmp .le 14, 3) := by decide +kernel
theorem d_Mod_compOf_39 : decode b_Mod_compOf 39 = .ok (.aload_n 0, 1) := by decide +kernel
theorem d_Mod_compOf_40 : decode b_Mod_compOf 40 = .ok (.getfield 7, 3) := by decide +kernel
theorem d_Mod_compOf_43 : decode b_Mod_compOf 43 = .ok (.iload_n 1, 1) := by decide +kernel
theorem d_Mod_compOf_44 : decode b_Mod_compOf 44 = .ok (.iconst 2, 1) := by decide +kernel
theorem d_Mod_compOf_45 : decode b_Mod_compOf 45 = .ok (.iadd, 1) := by decide +kernel
theorem d_Mod_compOf_46 : decode b_Mod_compOf 46 = .ok (.iaload, 1) := by decide +kernel
theorem d_Mod_compOf_47 : decode b_Mod_compOf 47 = .ok (.goto 4, 3) := by decide +kernel
theorem d_Mod_compOf_50 : decode b_Mod_compOf 50 = .ok (.iconst 0, 1) := by decide +kernel
theorem d_Mod_compOf_51 : decode b_Mod_compOf 51 = .ok (.istore 5, 2) := by decide +kernel
theorem d_Mod_compOf_53 : decode b_Mod_compOf 53 = .ok (.iload_n 3, 1) := by decide +kernel
theorem d_Mod_compOf_54 : decode b_Mod_compOf 54 = .ok (.bipush 77, 2) := by decide +kernel
theorem d_Mod_compOf_56 : decode b_Mod_compOf 56 = .ok (.if_icmp .eq 17, 3) := by decide +kernel
theorem d_Mod_compOf_59 : decode b_Mod_compOf 59 = .ok (.iload 4, 2) := by decide +kernel
theorem d_Mod_compOf_61 : decode b_Mod_compOf 61 = .ok (.bipush 77, 2) := by decide +kernel
theorem d_Mod_compOf_63 : decode b_Mod_compOf 63 = .ok (.if_icmp .eq 10, 3) := by decide +kernel
theorem d_Mod_compOf_66 : decode b_Mod_compOf 66 = .ok (.iload 5, 2) := by decide +kernel
theorem d_Mod_compOf_68 : decode b_Mod_compOf 68 = .ok (.bipush 77, 2) := by decide +kernel
theorem d_Mod_compOf_70 : decode b_Mod_compOf 70 = .ok (.if_icmp .ne 8, 3) := by decide +kernel
theorem d_Mod_compOf_73 : decode b_Mod_compOf 73 = .ok (.bipush 64, 2) := by decide +kernel
theorem d_Mod_compOf_75 : decode b_Mod_compOf 75 = .ok (.goto 4, 3) := by decide +kernel
theorem d_Mod_compOf_78 : decode b_Mod_compOf 78 = .ok (.iconst 0, 1) := by decide +kernel
theorem d_Mod_compOf_79 : decode b_Mod_compOf 79 = .ok (.istore 6, 2) := by decide +kernel
theorem d_Mod_compOf_81 : decode b_Mod_compOf 81 = .ok (.iload_n 3, 1) := by decide +kernel
theorem d_Mod_compOf_82 : decode b_Mod_compOf 82 = .ok (.bipush 77, 2) := by decide +kernel
theorem d_Mod_compOf_84 : decode b_Mod_compOf 84 = .ok (.if_icmp .ne 8, 3) := by decide +kernel
theorem d_Mod_compOf_87 : decode b_Mod_compOf 87 = .ok (.bipush 65, 2) := by decide +kernel
theorem d_Mod_compOf_89 : decode b_Mod_compOf 89 = .ok (.goto 4, 3) := by decide +kernel
theorem d_Mod_compOf_92 : decode b_Mod_compOf 92 = .ok (.iload_n 3, 1) := by decide +kernel
theorem d_Mod_compOf_93 : decode b_Mod_compOf 93 = .ok (.istore_n 3, 1) := by decide +kernel
theorem d_Mod_compOf_94 : decode b_Mod_compOf 94 = .ok (.iload 4, 2) := by decide +kernel
theorem d_Mod_compOf_96 : decode b_Mod_compOf 96 = .ok (.bipush 77, 2) := by decide +kernel
theorem d_Mod_compOf_98 : decode b_Mod_compOf 98 = .ok (.if_icmp .ne 8, 3) := by decide +kernel
theorem d_Mod_compOf_101 : decode b_Mod_compOf 101 = .ok (.bipush 65, 2) := by decide +kernel
theorem d_Mod_compOf_103 : decode b_Mod_compOf 103 = .ok (.goto 5, 3) := by decide +kernel
theorem d_Mod_compOf_106 : decode b_Mod_compOf 106 = .ok (.iload 4, 2) := by decide +kernel
theorem d_Mod_compOf_108 : decode b_Mod_compOf 108 = .ok (.istore 4, 2) := by decide +kernel
theorem d_Mod_compOf_110 : decode b_Mod_compOf 110 = .ok (.iload 5, 2) := by decide +kernel
theorem d_Mod_compOf_112 : decode b_Mod_compOf 112 = .ok (.bipush 77, 2) := by decide +kernel
theorem d_Mod_compOf_114 : decode b_Mod_compOf 114 = .ok (.if_icmp .ne 8, 3) := by decide +kernel
theorem d_Mod_compOf_117 : decode b_Mod_compOf 117 = .ok (.bipush 65, 2) := by decide +kernel
theorem d_Mod_compOf_119 : decode b_Mod_compOf 119 = .ok (.goto 5, 3) := by decide +kernel
theorem d_Mod_compOf_122 : decode b_Mod_compOf 122 = .ok (.iload 5, 2) := by decide +kernel
theorem d_Mod_compOf_124 : decode b_Mod_compOf 124 = .ok (.istore 5, 2) := by decide +kernel
theorem d_Mod_compOf_126 : decode b_Mod_compOf 126 = .ok (.iconst (-1), 1) := by decide +kernel
theorem d_Mod_compOf_127 : decode b_Mod_compOf 127 = .ok (.istore 7, 2) := by decide +kernel
theorem d_Mod_compOf_129 : decode b_Mod_compOf 129 = .ok (.iload_n 2, 1) := by decide +kernel
theorem d_Mod_compOf_130 : decode b_Mod_compOf 130 = .ok (.iconst 1, 1) := by decide +kernel
theorem d_Mod_compOf_131 : decode b_Mod_compOf 131 = .ok (.if_icmp .ne 50, 3) := by decide +kernel
theorem d_Mod_compOf_134 : decode b_Mod_compOf 134 = .ok (.iload_n 3, 1) := by decide +kernel
theorem d_Mod_compOf_135 : decode b_Mod_compOf 135 = .ok (.bipush 48, 2) := by decide +kernel
theorem d_Mod_compOf_137 : decode b_Mod_compOf 137 = .ok (.if_icmp .ne 8, 3) := by decide +kernel
theorem d_Mod_compOf_140 : decode b_Mod_compOf 140 = .ok (.bipush 42, 2) := by decide +kernel
theorem d_Mod_compOf_142 : decode b_Mod_compOf 142 = .ok (.goto 37, 3) := by decide +kernel
theorem d_Mod_compOf_145 : decode b_Mod_compOf 145 = .ok (.iload_n 3, 1) := by decide +kernel
theorem d_Mod_compOf_146 : decode b_Mod_compOf 146 = .ok (.bipush 49, 2) := by decide +kernel
theorem d_Mod_compOf_148 : decode b_Mod_compOf 148 = .ok (.if_icmp .ne 8, 3) := by decide +kernel
theorem d_Mod_compOf_151 : decode b_Mod_compOf 151 = .ok (.bipush 63, 2) := by decide +kernel
theorem d_Mod_compOf_153 : decode b_Mod_compOf 153 = .ok (.goto 26, 3) := by decide +kernel
theorem d_Mod_compOf_156 : decode b_Mod_compOf 156 = .ok (.iload_n 3, 1) := by decide +kernel
theorem d_Mod_compOf_157 : decode b_Mod_compOf 157 = .ok (.bipush 68, 2) := by decide +kernel
theorem d_Mod_compOf_159 : decode b_Mod_compOf 159 = .ok (.if_icmp .ne 8, 3) := by decide +kernel
theorem d_Mod_compOf_162 : decode b_Mod_compOf 162 = .ok (.bipush 12, 2) := by decide +kernel
theorem d_Mod_compOf_164 : decode b_Mod_compOf 164 = .ok (.goto 15, 3) := by decide +kernel
theorem d_Mod_compOf_167 : decode b_Mod_compOf 167 = .ok (.iload_n 3, 1) := by decide +kernel
theorem d_Mod_compOf_168 : decode b_Mod_compOf 168 = .ok (.bipush 65, 2) := by decide +kernel
theorem d_Mod_compOf_170 : decode b_Mod_compOf 170 = .ok (.if_icmp .ne 8, 3) := by decide +kernel
theorem d_Mod_compOf_173 : decode b_Mod_compOf 173 = .ok (.bipush 48, 2) := by decide +kernel
theorem d_Mod_compOf_175 : decode b_Mod_compOf 175 = .ok (.goto 4, 3) := by decide +kernel
theorem d_Mod_compOf_178 : decode b_Mod_compOf 178 = .ok (.iconst (-1), 1) := by decide +kernel
theorem d_Mod_compOf_179 : decode b_Mod_compOf 179 = .ok (.istore 7, 2) := by decide +kernel
theorem d_Mod_compOf_181 : decode b_Mod_compOf 181 = .ok (.iload_n 2, 1) := by decide +kernel
theorem d_Mod_compOf_182 : decode b_Mod_compOf 182 = .ok (.iconst 2, 1) := by decide +kernel
theorem d_Mod_compOf_183 : decode b_Mod_compOf 183 = .ok (.if_icmp .ne 48, 3) := by decide +kernel
theorem d_Mod_compOf_186 : decode b_Mod_compOf 186 = .ok (.iload_n 3, 1) := by decide +kernel
theorem d_Mod_compOf_187 : decode b_Mod_compOf 187 = .ok (.bipush 45, 2) := by decide +kernel
theorem d_Mod_compOf_189 : decode b_Mod_compOf 189 = .ok (.if_icmp .ne 42, 3) := by decide +kernel
theorem d_Mod_compOf_192 : decode b_Mod_compOf 192 = .ok (.iload 4, 2) := by decide +kernel
theorem d_Mod_compOf_194 : decode b_Mod_compOf 194 = .ok (.bipush 49, 2) := by decide +kernel
theorem d_Mod_compOf_196 : decode b_Mod_compOf 196 = .ok (.if_icmp .ne 8, 3) := by decide +kernel
theorem d_Mod_compOf_199 : decode b_Mod_compOf 199 = .ok (.bipush 58, 2) := by decide +kernel
theorem d_Mod_compOf_201 : decode b_Mod_compOf 201 = .ok (.goto 28, 3) := by decide +kernel
theorem d_Mod_compOf_204 : decode b_Mod_compOf 204 = .ok (.iload 4, 2) := by decide +kernel
theorem d_Mod_compOf_206 : decode b_Mod_compOf 206 = .ok (.bipush 68, 2) := by decide +kernel
theorem d_Mod_compOf_208 : decode b_Mod_compOf 208 = .ok (.if_icmp .ne 8, 3) := by decide +kernel
theorem d_Mod_compOf_211 : decode b_Mod_compOf 211 = .ok (.bipush 15, 2) := by decide +kernel
theorem d_Mod_compOf_213 : decode b_Mod_compOf 213 = .ok (.goto 16, 3) := by decide +kernel
theorem d_Mod_compOf_216 : decode b_Mod_compOf 216 = .ok (.iload 4, 2) := by decide +kernel
theorem d_Mod_compOf_218 : decode b_Mod_compOf 218 = .ok (.bipush 65, 2) := by decide +kernel
theorem d_Mod_compOf_220 : decode b_Mod_compOf 220 = .ok (.if_icmp .ne 8, 3) := by decide +kernel
theorem d_Mod_compOf_223 : decode b_Mod_compOf 223 = .ok (.bipush 51, 2) := by decide +kernel
theorem d_Mod_compOf_225 : decode b_Mod_compOf 225 = .ok (.goto 4, 3) := by decide +kernel
theorem d_Mod_compOf_228 : decode b_Mod_compOf 228 = .ok (.iconst (-1), 1) := by decide +kernel
theorem d_Mod_compOf_229 : decode b_Mod_compOf 229 = .ok (.istore 7, 2) := by decide +kernel
theorem d_Mod_compOf_231 : decode b_Mod_compOf 231 = .ok (.iload_n 2, 1) := by decide +kernel
theorem d_Mod_compOf_232 : decode b_Mod_compOf 232 = .ok (.iconst 2, 1) := by decide +kernel
theorem d_Mod_compOf_233 : decode b_Mod_compOf 233 = .ok (.if_icmp .ne 36, 3) := by decide +kernel
theorem d_Mod_compOf_236 : decode b_Mod_compOf 236 = .ok (.iload_n 3, 1) := by decide +kernel
theorem d_Mod_compOf_237 : decode b_Mod_compOf 237 = .ok (.bipush 33, 2) := by decide +kernel
theorem d_Mod_compOf_239 : decode b_Mod_compOf 239 = .ok (.if_icmp .ne 30, 3) := by decide +kernel
theorem d_Mod_compOf_242 : decode b_Mod_compOf 242 = .ok (.iload 4, 2) := by decide +kernel
theorem d_Mod_compOf_244 : decode b_Mod_compOf 244 = .ok (.bipush 68, 2) := by decide +kernel
theorem d_Mod_compOf_246 : decode b_Mod_compOf 246 = .ok (.if_icmp .ne 8, 3) := by decide +kernel
theorem d_Mod_compOf_249 : decode b_Mod_compOf 249 = .ok (.bipush 13, 2) := by decide +kernel
theorem d_Mod_compOf_251 : decode b_Mod_compOf 251 = .ok (.goto 16, 3) := by decide +kernel
theorem d_Mod_compOf_254 : decode b_Mod_compOf 254 = .ok (.iload 4, 2) := by decide +kernel
theorem d_Mod_compOf_256 : decode b_Mod_compOf 256 = .ok (.bipush 65, 2) := by decide +kernel
theorem d_Mod_compOf_258 : decode b_Mod_compOf 258 = .ok (.if_icmp .ne 8, 3) := by decide +kernel
theorem d_Mod_compOf_261 : decode b_Mod_compOf 261 = .ok (.bipush 49, 2) := by decide +kernel
theorem d_Mod_compOf_263 : decode b_Mod_compOf 263 = .ok (.goto 4, 3) := by decide +kernel
theorem d_Mod_compOf_266 : decode b_Mod_compOf 266 = .ok (.iconst (-1), 1) := by decide +kernel
theorem d_Mod_compOf_267 : decode b_Mod_compOf 267 = .ok (.istore 7, 2) := by decide +kernel
theorem d_Mod_compOf_269 : decode b_Mod_compOf 269 = .ok (.iload_n 2, 1) := by decide +kernel
theorem d_Mod_compOf_270 : decode b_Mod_compOf 270 = .ok (.iconst 3, 1) := by decide +kernel
theorem d_Mod_compOf_271 : decode b_Mod_compOf 271 = .ok (.if_icmp .ne 43, 3) := by decide +kernel
theorem d_Mod_compOf_274 : decode b_Mod_compOf 274 = .ok (.iload_n 3, 1) := by decide +kernel
theorem d_Mod_compOf_275 : decode b_Mod_compOf 275 = .ok (.bipush 68, 2) := by decide +kernel
theorem d_Mod_compOf_277 : decode b_Mod_compOf 277 = .ok (.if_icmp .ne 37, 3) := by decide +kernel
theorem d_Mod_compOf_280 : decode b_Mod_compOf 280 = .ok (.iload 5, 2) := by decide +kernel
theorem d_Mod_compOf_282 : decode b_Mod_compOf 282 = .ok (.bipush 49, 2) := by decide +kernel
theorem d_Mod_compOf_284 : decode b_Mod_compOf 284 = .ok (.if_icmp .ne 30, 3) := by decide +kernel
theorem d_Mod_compOf_287 : decode b_Mod_compOf 287 = .ok (.iload 4, 2) := by decide +kernel
theorem d_Mod_compOf_289 : decode b_Mod_compOf 289 = .ok (.bipush 43, 2) := by decide +kernel
theorem d_Mod_compOf_291 : decode b_Mod_compOf 291 = .ok (.if_icmp .ne 8, 3) := by decide +kernel
theorem d_Mod_compOf_294 : decode b_Mod_compOf 294 = .ok (.bipush 31, 2) := by decide +kernel
theorem d_Mod_compOf_296 : decode b_Mod_compOf 296 = .ok (.goto 16, 3) := by decide +kernel
theorem d_Mod_compOf_299 : decode b_Mod_compOf 299 = .ok (.iload 4, 2) := by decide +kernel
theorem d_Mod_compOf_301 : decode b_Mod_compOf 301 = .ok (.bipush 45, 2) := by decide +kernel
theorem d_Mod_compOf_303 : decode b_Mod_compOf 303 = .ok (.if_icmp .ne 8, 3) := by decide +kernel
theorem d_Mod_compOf_306 : decode b_Mod_compOf 306 = .ok (.bipush 14, 2) := by decide +kernel
theorem d_Mod_compOf_308 : decode b_Mod_compOf 308 = .ok (.goto 4, 3) := by decide +kernel
theorem d_Mod_compOf_311 : decode b_Mod_compOf 311 = .ok (.iconst (-1), 1) := by decide +kernel
theorem d_Mod_compOf_312 : decode b_Mod_compOf 312 = .ok (.istore 7, 2) := by decide +kernel
theorem d_Mod_compOf_314 : decode b_Mod_compOf 314 = .ok (.iload_n 2, 1) := by decide +kernel
theorem d_Mod_compOf_315 : decode b_Mod_compOf 315 = .ok (.iconst 3, 1) := by decide +kernel
theorem d_Mod_compOf_316 : decode b_Mod_compOf 316 = .ok (.if_icmp .ne 43, 3) := by decide +kernel
theorem d_Mod_compOf_319 : decode b_Mod_compOf 319 = .ok (.iload_n 3, 1) := by decide +kernel
theorem d_Mod_compOf_320 : decode b_Mod_compOf 320 = .ok (.bipush 65, 2) := by decide +kernel
theorem d_Mod_compOf_322 : decode b_Mod_compOf 322 = .ok (.if_icmp .ne 37, 3) := by decide +kernel
theorem d_Mod_compOf_325 : decode b_Mod_compOf 325 = .ok (.iload 5, 2) := by decide +kernel
theorem d_Mod_compOf_327 : decode b_Mod_compOf 327 = .ok (.bipush 49, 2) := by decide +kernel
theorem d_Mod_compOf_329 : decode b_Mod_compOf 329 = .ok (.if_icmp .ne 30, 3) := by decide +kernel
theorem d_Mod_compOf_332 : decode b_Mod_compOf 332 = .ok (.iload 4, 2) := by decide +kernel
theorem d_Mod_compOf_334 : decode b_Mod_compOf 334 = .ok (.bipush 43, 2) := by decide +kernel
theorem d_Mod_compOf_336 : decode b_Mod_compOf 336 = .ok (.if_icmp .ne 8, 3) := by decide +kernel
theorem d_Mod_compOf_339 : decode b_Mod_compOf 339 = .ok (.bipush 55, 2) := by decide +kernel
theorem d_Mod_compOf_341 : decode b_Mod_compOf 341 = .ok (.goto 16, 3) := by decide +kernel
theorem d_Mod_compOf_344 : decode b_Mod_compOf 344 = .ok (.iload 4, 2) := by decide +kernel
theorem d_Mod_compOf_346 : decode b_Mod_compOf 346 = .ok (.bipush 45, 2) := by decide +kernel
theorem d_Mod_compOf_348 : decode b_Mod_compOf 348 = .ok (.if_icmp .ne 8, 3) := by decide +kernel
theorem d_Mod_compOf_351 : decode b_Mod_compOf 351 = .ok (.bipush 50, 2) := by decide +kernel
theorem d_Mod_compOf_353 : decode b_Mod_compOf 353 = .ok (.goto 4, 3) := by decide +kernel
theorem d_Mod_compOf_356 : decode b_Mod_compOf 356 = .ok (.iconst (-1), 1) := by decide +kernel
theorem d_Mod_compOf_357 : decode b_Mod_compOf 357 = .ok (.istore 7, 2) := by decide +kernel
theorem d_Mod_compOf_359 : decode b_Mod_compOf 359 = .ok (.iload_n 2, 1) := by decide +kernel
theorem d_Mod_compOf_360 : decode b_Mod_compOf 360 = .ok (.iconst 3, 1) := by decide +kernel
theorem d_Mod_compOf_361 : decode b_Mod_compOf 361 = .ok (.if_icmp .ne 65, 3) := by decide +kernel
theorem d_Mod_compOf_364 : decode b_Mod_compOf 364 = .ok (.iload_n 3, 1) := by decide +kernel
theorem d_Mod_compOf_365 : decode b_Mod_compOf 365 = .ok (.bipush 68, 2) := by decide +kernel
theorem d_Mod_compOf_367 : decode b_Mod_compOf 367 = .ok (.if_icmp .ne 59, 3) := by decide +kernel
theorem d_Mod_compOf_370 : decode b_Mod_compOf 370 = .ok (.iload 5, 2) := by decide +kernel
theorem d_Mod_compOf_372 : decode b_Mod_compOf 372 = .ok (.bipush 65, 2) := by decide +kernel
theorem d_Mod_compOf_374 : decode b_Mod_compOf 374 = .ok (.if_icmp .ne 52, 3) := by decide +kernel
theorem d_Mod_compOf_377 : decode b_Mod_compOf 377 = .ok (.iload 4, 2) := by decide +kernel
theorem d_Mod_compOf_379 : decode b_Mod_compOf 379 = .ok (.bipush 43, 2) := by decide +kernel
theorem d_Mod_compOf_381 : decode b_Mod_compOf 381 = .ok (.if_icmp .ne 7, 3) := by decide +kernel
theorem d_Mod_compOf_384 : decode b_Mod_compOf 384 = .ok (.iconst 2, 1) := by decide +kernel
theorem d_Mod_compOf_385 : decode b_Mod_compOf 385 = .ok (.goto 39, 3) := by decide +kernel
theorem d_Mod_compOf_388 : decode b_Mod_compOf 388 = .ok (.iload 4, 2) := by decide +kernel
theorem d_Mod_compOf_390 : decode b_Mod_compOf 390 = .ok (.bipush 45, 2) := by decide +kernel
theorem d_Mod_compOf_392 : decode b_Mod_compOf 392 = .ok (.if_icmp .ne 8, 3) := by decide +kernel
theorem d_Mod_compOf_395 : decode b_Mod_compOf 395 = .ok (.bipush 19, 2) := by decide +kernel
theorem d_Mod_compOf_397 : decode b_Mod_compOf 397 = .ok (.goto 27, 3) := by decide +kernel
theorem d_Mod_compOf_400 : decode b_Mod_compOf 400 = .ok (.iload 4, 2) := by decide +kernel
theorem d_Mod_compOf_402 : decode b_Mod_compOf 402 = .ok (.bipush 38, 2) := by decide +kernel
theorem d_Mod_compOf_404 : decode b_Mod_compOf 404 = .ok (.if_icmp .ne 7, 3) := by decide +kernel
theorem d_Mod_compOf_407 : decode b_Mod_compOf 407 = .ok (.iconst 0, 1) := by decide +kernel
theorem d_Mod_compOf_408 : decode b_Mod_compOf 408 = .ok (.goto 16, 3) := by decide +kernel
theorem d_Mod_compOf_411 : decode b_Mod_compOf 411 = .ok (.iload 4, 2) := by decide +kernel
theorem d_Mod_compOf_413 : decode b_Mod_compOf 413 = .ok (.bipush 124, 2) := by decide +kernel
theorem d_Mod_compOf_415 : decode b_Mod_compOf 415 = .ok (.if_icmp .ne 8, 3) := by decide +kernel
theorem d_Mod_compOf_418 : decode b_Mod_compOf 418 = .ok (.bipush 21, 2) := by decide +kernel
theorem d_Mod_compOf_420 : decode b_Mod_compOf 420 = .ok (.goto 4, 3) := by decide +kernel
theorem d_Mod_compOf_423 : decode b_Mod_compOf 423 = .ok (.iconst (-1), 1) := by decide +kernel
theorem d_Mod_compOf_424 : decode b_Mod_compOf 424 = .ok (.istore 7, 2) := by decide +kernel
theorem d_Mod_compOf_426 : decode b_Mod_compOf 426 = .ok (.iload_n 2, 1) := by decide +kernel
theorem d_Mod_compOf_427 : decode b_Mod_compOf 427 = .ok (.iconst 3, 1) := by decide +kernel
theorem d_Mod_compOf_428 : decode b_Mod_compOf 428 = .ok (.if_icmp .ne 31, 3) := by decide +kernel
theorem d_Mod_compOf_431 : decode b_Mod_compOf 431 = .ok (.iload_n 3, 1) := by decide +kernel
theorem d_Mod_compOf_432 : decode b_Mod_compOf 432 = .ok (.bipush 65, 2) := by decide +kernel
theorem d_Mod_compOf_434 : decode b_Mod_compOf 434 = .ok (.if_icmp .ne 25, 3) := by decide +kernel
theorem d_Mod_compOf_437 : decode b_Mod_compOf 437 = .ok (.iload 5, 2) := by decide +kernel
theorem d_Mod_compOf_439 : decode b_Mod_compOf 439 = .ok (.bipush 68, 2) := by decide +kernel
theorem d_Mod_compOf_441 : decode b_Mod_compOf 441 = .ok (.if_icmp .ne 18, 3) := by decide +kernel
theorem d_Mod_compOf_444 : decode b_Mod_compOf 444 = .ok (.iload 4, 2) := by decide +kernel
theorem d_Mod_compOf_446 : decode b_Mod_compOf 446 = .ok (.bipush 45, 2) := by decide +kernel
theorem d_Mod_compOf_448 : decode b_Mod_compOf 448 = .ok (.if_icmp .ne 8, 3) := by decide +kernel
theorem d_Mod_compOf_451 : decode b_Mod_compOf 451 = .ok (.bipush 7, 2) := by decide +kernel
theorem d_Mod_compOf_453 : decode b_Mod_compOf 453 = .ok (.goto 4, 3) := by decide +kernel
theorem d_Mod_compOf_456 : decode b_Mod_compOf 456 = .ok (.iconst (-1), 1) := by decide +kernel
theorem d_Mod_compOf_457 : decode b_Mod_compOf 457 = .ok (.istore 7, 2) := by decide +kernel
theorem d_Mod_compOf_459 : decode b_Mod_compOf 459 = .ok (.iload 7, 2) := by decide +kernel
theorem d_Mod_compOf_461 : decode b_Mod_compOf 461 = .ok (.iconst (-1), 1) := by decide +kernel
theorem d_Mod_compOf_462 : decode b_Mod_compOf 462 = .ok (.if_icmp .ne 7, 3) := by decide +kernel
theorem d_Mod_compOf_465 : decode b_Mod_compOf 465 = .ok (.iconst (-1), 1) := by decide +kernel
theorem d_Mod_compOf_466 : decode b_Mod_compOf 466 = .ok (.goto 8, 3) := by decide +kernel
theorem d_Mod_compOf_469 : decode b_Mod_compOf 469 = .ok (.iload 7, 2) := by decide +kernel
theorem d_Mod_compOf_471 : decode b_Mod_compOf 471 = .ok (.iload 6, 2) := by decide +kernel
theorem d_Mod_compOf_473 : decode b_Mod_compOf 473 = .ok (.iadd, 1) := by decide +kernel
theorem d_Mod_compOf_474 : decode b_Mod_compOf 474 = .ok (.ireturn, 1) := by decide +kernel
theorem d_Mod_code_0 : decode b_Mod_code 0 = .ok (.iload_n 1, 1) := by decide +kernel
theorem d_Mod_code_1 : decode b_Mod_code 1 = .ok (.ifCond .lt 11, 3) := by decide +kernel
theorem d_Mod_code_4 : decode b_Mod_code 4 = .ok (.iload_n 1, 1) := by decide +kernel
theorem d_Mod_code_5 : decode b_Mod_code 5 = .ok (.aload_n 0, 1) := by decide +kernel
theorem d_Mod_code_6 : decode b_Mod_code 6 = .ok (.getfield 83, 3) := by decide +kernel
theorem d_Mod_code_9 : decode b_Mod_code 9 = .ok (.if_icmp .lt 7, 3) := by decide +kernel
theorem d_Mod_code_12 : decode b_Mod_code 12 = .ok (.iconst (-1), 1) := by decide +kernel
theorem d_Mod_code_13 : decode b_Mod_code 13 = .ok (.goto 9, 3) := by decide +kernel
theorem d_Mod_code_16 : decode b_Mod_code 16 = .ok (.aload_n 0, 1) := by decide +kernel
theorem d_Mod_code_17 : decode b_Mod_code 17 = .ok (.getfield 17, 3) := by decide +kernel
theorem d_Mod_code_20 : decode b_Mod_code 20 = .ok (.iload_n 1, 1) := by decide +kernel
theorem d_Mod_code_21 : decode b_Mod_code 21 = .ok (.iaload, 1) := by decide +kernel
theorem d_Mod_code_22 : decode b_Mod_code 22 = .ok (.ireturn, 1) := by decide +kernel
theorem d_Mod_go_0 : decode b_Mod_go 0 = .ok (.iload_n 1, 1) := by decide +kernel
theorem d_Mod_go_1 : decode b_Mod_go 1 = .ok (.ifCond .lt 10, 3) := by decide +kernel
theorem d_Mod_go_4 : decode b_Mod_go 4 = .ok (.iload_n 1, 1) := by decide +kernel
theorem d_Mod_go_5 : decode b_Mod_go 5 = .ok (.sipush 2000, 3) := by decide +kernel
theorem d_Mod_go_8 : decode b_Mod_go 8 = .ok (.if_icmp .le 5, 3) := by decide +kernel
theorem d_Mod_go_11 : decode b_Mod_go 11 = .ok (.iconst (-1), 1) := by decide +kernel
theorem d_Mod_go_12 : decode b_Mod_go 12 = .ok (.ireturn, 1) := by decide +kernel
theorem d_Mod_go_13 : decode b_Mod_go 13 = .ok (.iconst 0, 1) := by decide +kernel
theorem d_Mod_go_14 : decode b_Mod_go 14 = .ok (.istore_n 2, 1) := by decide +kernel
theorem d_Mod_go_15 : decode b_Mod_go 15 = .ok (.iload_n 2, 1) := by decide +kernel
theorem d_Mod_go_16 : decode b_Mod_go 16 = .ok (.iload_n 1, 1) := by decide +kernel
theorem d_Mod_go_17 : decode b_Mod_go 17 = .ok (.if_icmp .ge 25, 3) := by decide +kernel
theorem d_Mod_go_20 : decode b_Mod_go 20 = .ok (.aload_n 0, 1) := by decide +kernel
theorem d_Mod_go_21 : decode b_Mod_go 21 = .ok (.getfield 108, 3) := by decide +kernel
theorem d_Mod_go_24 : decode b_Mod_go 24 = .ok (.aload_n 0, 1) := by decide +kernel
theorem d_Mod_go_25 : decode b_Mod_go 25 = .ok (.getfield 83, 3) := by decide +kernel
theorem d_Mod_go_28 : decode b_Mod_go 28 = .ok (.if_icmp .ge 14, 3) := by decide +kernel
theorem d_Mod_go_31 : decode b_Mod_go 31 = .ok (.aload_n 0, 1) := by decide +kernel
theorem d_Mod_go_32 : decode b_Mod_go 32 = .ok (.invokevirtual 132, 3) := by decide +kernel
theorem d_Mod_go_35 : decode b_Mod_go 35 = .ok (.iload_n 2, 1) := by decide +kernel
theorem d_Mod_go_36 : decode b_Mod_go 36 = .ok (.iconst 1, 1) := by decide +kernel
theorem d_Mod_go_37 : decode b_Mod_go 37 = .ok (.iadd, 1) := by decide +kernel
theorem d_Mod_go_38 : decode b_Mod_go 38 = .ok (.istore_n 2, 1) := by decide +kernel
theorem d_Mod_go_39 : decode b_Mod_go 39 = .ok (.goto (-24), 3) := by decide +kernel
end
section
/-! decode rows -/
theorem d_Mod_go_42 : decode b_Mod_go 42 = .ok (.iload_n 2, 1) := by decide +kernel
theorem d_Mod_go_43 : decode b_Mod_go 43 = .ok (.ireturn, 1) := by decide +kernel
theorem d_Mod_oneCode_0 : decode b_Mod_oneCode 0 = .ok (.aload_n 0, 1) := by decide +kernel
theorem d_Mod_oneCode_1 : decode b_Mod_oneCode 1 = .ok (.getfield 17, 3) := by decide +kernel
theorem d_Mod_oneCode_4 : decode b_Mod_oneCode 4 = .ok (.aload_n 0, 1) := by decide +kernel
theorem d_Mod_oneCode_5 : decode b_Mod_oneCode 5 = .ok (.getfield 108, 3) := by decide +kernel
theorem d_Mod_oneCode_8 : decode b_Mod_oneCode 8 = .ok (.iaload, 1) := by decide +kernel
theorem d_Mod_oneCode_9 : decode b_Mod_oneCode 9 = .ok (.istore_n 1, 1) := by decide +kernel
theorem d_Mod_oneCode_10 : decode b_Mod_oneCode 10 = .ok (.aload_n 0, 1) := by decide +kernel
theorem d_Mod_oneCode_11 : decode b_Mod_oneCode 11 = .ok (.aload_n 0, 1) := by decide +kernel
theorem d_Mod_oneCode_12 : decode b_Mod_oneCode 12 = .ok (.getfield 108, 3) := by decide +kernel
theorem d_Mod_oneCode_15 : decode b_Mod_oneCode 15 = .ok (.iconst 1, 1) := by decide +kernel
theorem d_Mod_oneCode_16 : decode b_Mod_oneCode 16 = .ok (.iadd, 1) := by decide +kernel
theorem d_Mod_oneCode_17 : decode b_Mod_oneCode 17 = .ok (.putfield 108, 3) := by decide +kernel
theorem d_Mod_oneCode_20 : decode b_Mod_oneCode 20 = .ok (.aload_n 0, 1) := by decide +kernel
theorem d_Mod_oneCode_21 : decode b_Mod_oneCode 21 = .ok (.aload_n 0, 1) := by decide +kernel
theorem d_Mod_oneCode_22 : decode b_Mod_oneCode 22 = .ok (.getfield 111, 3) := by decide +kernel
theorem d_Mod_oneCode_25 : decode b_Mod_oneCode 25 = .ok (.iconst 1, 1) := by decide +kernel
theorem d_Mod_oneCode_26 : decode b_Mod_oneCode 26 = .ok (.iadd, 1) := by decide +kernel
theorem d_Mod_oneCode_27 : decode b_Mod_oneCode 27 = .ok (.putfield 111, 3) := by decide +kernel
theorem d_Mod_oneCode_30 : decode b_Mod_oneCode 30 = .ok (.iload_n 1, 1) := by decide +kernel
theorem d_Mod_oneCode_31 : decode b_Mod_oneCode 31 = .ok (.ldc 32, 2) := by decide +kernel
theorem d_Mod_oneCode_33 : decode b_Mod_oneCode 33 = .ok (.if_icmp .ge 9, 3) := by decide +kernel
theorem d_Mod_oneCode_36 : decode b_Mod_oneCode 36 = .ok (.aload_n 0, 1) := by decide +kernel
theorem d_Mod_oneCode_37 : decode b_Mod_oneCode 37 = .ok (.iload_n 1, 1) := by decide +kernel
theorem d_Mod_oneCode_38 : decode b_Mod_oneCode 38 = .ok (.putfield 102, 3) := by decide +kernel
theorem d_Mod_oneCode_41 : decode b_Mod_oneCode 41 = .ok (.return_, 1) := by decide +kernel
theorem d_Mod_oneCode_42 : decode b_Mod_oneCode 42 = .ok (.aload_n 0, 1) := by decide +kernel
theorem d_Mod_oneCode_43 : decode b_Mod_oneCode 43 = .ok (.getfield 102, 3) := by decide +kernel
theorem d_Mod_oneCode_46 : decode b_Mod_oneCode 46 = .ok (.sipush 32767, 3) := by decide +kernel
theorem d_Mod_oneCode_49 : decode b_Mod_oneCode 49 = .ok (.iand, 1) := by decide +kernel
theorem d_Mod_oneCode_50 : decode b_Mod_oneCode 50 = .ok (.istore_n 2, 1) := by decide +kernel
theorem d_Mod_oneCode_51 : decode b_Mod_oneCode 51 = .ok (.iload_n 1, 1) := by decide +kernel
theorem d_Mod_oneCode_52 : decode b_Mod_oneCode 52 = .ok (.bipush 6, 2) := by decide +kernel
theorem d_Mod_oneCode_54 : decode b_Mod_oneCode 54 = .ok (.ishr, 1) := by decide +kernel
theorem d_Mod_oneCode_55 : decode b_Mod_oneCode 55 = .ok (.bipush 63, 2) := by decide +kernel
theorem d_Mod_oneCode_57 : decode b_Mod_oneCode 57 = .ok (.iand, 1) := by decide +kernel
theorem d_Mod_oneCode_58 : decode b_Mod_oneCode 58 = .ok (.aload_n 0, 1) := by decide +kernel
theorem d_Mod_oneCode_59 : decode b_Mod_oneCode 59 = .ok (.getfield 105, 3) := by decide +kernel
theorem d_Mod_oneCode_62 : decode b_Mod_oneCode 62 = .ok (.iload_n 1, 1) := by decide +kernel
theorem d_Mod_oneCode_63 : decode b_Mod_oneCode 63 = .ok (.sipush 4096, 3) := by decide +kernel
theorem d_Mod_oneCode_66 : decode b_Mod_oneCode 66 = .ok (.iand, 1) := by decide +kernel
theorem d_Mod_oneCode_67 : decode b_Mod_oneCode 67 = .ok (.ifCond .ne 10, 3) := by decide +kernel
theorem d_Mod_oneCode_70 : decode b_Mod_oneCode 70 = .ok (.aload_n 0, 1) := by decide +kernel
theorem d_Mod_oneCode_71 : decode b_Mod_oneCode 71 = .ok (.getfield 102, 3) := by decide +kernel
theorem d_Mod_oneCode_74 : decode b_Mod_oneCode 74 = .ok (.goto 9, 3) := by decide +kernel
theorem d_Mod_oneCode_77 : decode b_Mod_oneCode 77 = .ok (.aload_n 0, 1) := by decide +kernel
theorem d_Mod_oneCode_78 : decode b_Mod_oneCode 78 = .ok (.getfield 33, 3) := by decide +kernel
theorem d_Mod_oneCode_81 : decode b_Mod_oneCode 81 = .ok (.iload_n 2, 1) := by decide +kernel
theorem d_Mod_oneCode_82 : decode b_Mod_oneCode 82 = .ok (.iaload, 1) := by decide +kernel
theorem d_Mod_oneCode_83 : decode b_Mod_oneCode 83 = .ok (.invokestatic 128, 3) := by decide +kernel
theorem d_Mod_oneCode_86 : decode b_Mod_oneCode 86 = .ok (.istore_n 3, 1) := by decide +kernel
theorem d_Mod_oneCode_87 : decode b_Mod_oneCode 87 = .ok (.iload_n 1, 1) := by decide +kernel
theorem d_Mod_oneCode_88 : decode b_Mod_oneCode 88 = .ok (.bipush 8, 2) := by decide +kernel
theorem d_Mod_oneCode_90 : decode b_Mod_oneCode 90 = .ok (.iand, 1) := by decide +kernel
theorem d_Mod_oneCode_91 : decode b_Mod_oneCode 91 = .ok (.ifCond .eq 10, 3) := by decide +kernel
theorem d_Mod_oneCode_94 : decode b_Mod_oneCode 94 = .ok (.aload_n 0, 1) := by decide +kernel
theorem d_Mod_oneCode_95 : decode b_Mod_oneCode 95 = .ok (.getfield 33, 3) := by decide +kernel
theorem d_Mod_oneCode_98 : decode b_Mod_oneCode 98 = .ok (.iload_n 2, 1) := by decide +kernel
theorem d_Mod_oneCode_99 : decode b_Mod_oneCode 99 = .ok (.iload_n 3, 1) := by decide +kernel
theorem d_Mod_oneCode_100 : decode b_Mod_oneCode 100 = .ok (.iastore, 1) := by decide +kernel
theorem d_Mod_oneCode_101 : decode b_Mod_oneCode 101 = .ok (.iload_n 1, 1) := by decide +kernel
theorem d_Mod_oneCode_102 : decode b_Mod_oneCode 102 = .ok (.bipush 32, 2) := by decide +kernel
theorem d_Mod_oneCode_104 : decode b_Mod_oneCode 104 = .ok (.iand, 1) := by decide +kernel
theorem d_Mod_oneCode_105 : decode b_Mod_oneCode 105 = .ok (.ifCond .eq 8, 3) := by decide +kernel
theorem d_Mod_oneCode_108 : decode b_Mod_oneCode 108 = .ok (.aload_n 0, 1) := by decide +kernel
theorem d_Mod_oneCode_109 : decode b_Mod_oneCode 109 = .ok (.iload_n 3, 1) := by decide +kernel
theorem d_Mod_oneCode_110 : decode b_Mod_oneCode 110 = .ok (.putfield 102, 3) := by decide +kernel
theorem d_Mod_oneCode_113 : decode b_Mod_oneCode 113 = .ok (.iload_n 1, 1) := by decide +kernel
theorem d_Mod_oneCode_114 : decode b_Mod_oneCode 114 = .ok (.bipush 16, 2) := by decide +kernel
theorem d_Mod_oneCode_116 : decode b_Mod_oneCode 116 = .ok (.iand, 1) := by decide +kernel
theorem d_Mod_oneCode_117 : decode b_Mod_oneCode 117 = .ok (.ifCond .eq 8, 3) := by decide +kernel
theorem d_Mod_oneCode_120 : decode b_Mod_oneCode 120 = .ok (.aload_n 0, 1) := by decide +kernel
theorem d_Mod_oneCode_121 : decode b_Mod_oneCode 121 = .ok (.iload_n 3, 1) := by decide +kernel
theorem d_Mod_oneCode_122 : decode b_Mod_oneCode 122 = .ok (.putfield 105, 3) := by decide +kernel
theorem d_Mod_oneCode_125 : decode b_Mod_oneCode 125 = .ok (.iload_n 3, 1) := by decide +kernel
theorem d_Mod_oneCode_126 : decode b_Mod_oneCode 126 = .ok (.ifCond .le 7, 3) := by decide +kernel
theorem d_Mod_oneCode_129 : decode b_Mod_oneCode 129 = .ok (.iconst 1, 1) := by decide +kernel
theorem d_Mod_oneCode_130 : decode b_Mod_oneCode 130 = .ok (.goto 12, 3) := by decide +kernel
theorem d_Mod_oneCode_133 : decode b_Mod_oneCode 133 = .ok (.iload_n 3, 1) := by decide +kernel
theorem d_Mod_oneCode_134 : decode b_Mod_oneCode 134 = .ok (.ifCond .ne 7, 3) := by decide +kernel
theorem d_Mod_oneCode_137 : decode b_Mod_oneCode 137 = .ok (.iconst 2, 1) := by decide +kernel
theorem d_Mod_oneCode_138 : decode b_Mod_oneCode 138 = .ok (.goto 4, 3) := by decide +kernel
theorem d_Mod_oneCode_141 : decode b_Mod_oneCode 141 = .ok (.iconst 4, 1) := by decide +kernel
theorem d_Mod_oneCode_142 : decode b_Mod_oneCode 142 = .ok (.istore 4, 2) := by decide +kernel
theorem d_Mod_oneCode_144 : decode b_Mod_oneCode 144 = .ok (.iload_n 1, 1) := by decide +kernel
theorem d_Mod_oneCode_145 : decode b_Mod_oneCode 145 = .ok (.iload 4, 2) := by decide +kernel
theorem d_Mod_oneCode_147 : decode b_Mod_oneCode 147 = .ok (.iand, 1) := by decide +kernel
theorem d_Mod_oneCode_148 : decode b_Mod_oneCode 148 = .ok (.ifCond .eq 8, 3) := by decide +kernel
theorem d_Mod_oneCode_151 : decode b_Mod_oneCode 151 = .ok (.aload_n 0, 1) := by decide +kernel
theorem d_Mod_oneCode_152 : decode b_Mod_oneCode 152 = .ok (.iload_n 2, 1) := by decide +kernel
theorem d_Mod_oneCode_153 : decode b_Mod_oneCode 153 = .ok (.putfield 108, 3) := by decide +kernel
theorem d_Mod_oneCode_156 : decode b_Mod_oneCode 156 = .ok (.return_, 1) := by decide +kernel
theorem d_Mod_unit_0 : decode b_Mod_unit 0 = .ok (.iload_n 0, 1) := by decide +kernel
theorem d_Mod_unit_1 : decode b_Mod_unit 1 = .ok (.bipush 32, 2) := by decide +kernel
theorem d_Mod_unit_3 : decode b_Mod_unit 3 = .ok (.iand, 1) := by decide +kernel
theorem d_Mod_unit_4 : decode b_Mod_unit 4 = .ok (.ifCond .ne 7, 3) := by decide +kernel
theorem d_Mod_unit_7 : decode b_Mod_unit 7 = .ok (.iload_n 1, 1) := by decide +kernel
theorem d_Mod_unit_8 : decode b_Mod_unit 8 = .ok (.goto 4, 3) := by decide +kernel
theorem d_Mod_unit_11 : decode b_Mod_unit 11 = .ok (.iconst 0, 1) := by decide +kernel
theorem d_Mod_unit_12 : decode b_Mod_unit 12 = .ok (.istore_n 3, 1) := by decide +kernel
theorem d_Mod_unit_13 : decode b_Mod_unit 13 = .ok (.iload_n 0, 1) := by decide +kernel
theorem d_Mod_unit_14 : decode b_Mod_unit 14 = .ok (.bipush 16, 2) := by decide +kernel
theorem d_Mod_unit_16 : decode b_Mod_unit 16 = .ok (.iand, 1) := by decide +kernel
theorem d_Mod_unit_17 : decode b_Mod_unit 17 = .ok (.ifCond .ne 7, 3) := by decide +kernel
theorem d_Mod_unit_20 : decode b_Mod_unit 20 = .ok (.iload_n 3, 1) := by decide +kernel
theorem d_Mod_unit_21 : decode b_Mod_unit 21 = .ok (.goto 6, 3) := by decide +kernel
theorem d_Mod_unit_24 : decode b_Mod_unit 24 = .ok (.iload_n 3, 1) := by decide +kernel
theorem d_Mod_unit_25 : decode b_Mod_unit 25 = .ok (.iconst (-1), 1) := by decide +kernel
theorem d_Mod_unit_26 : decode b_Mod_unit 26 = .ok (.ixor, 1) := by decide +kernel
theorem d_Mod_unit_27 : decode b_Mod_unit 27 = .ok (.istore_n 3, 1) := by decide +kernel
theorem d_Mod_unit_28 : decode b_Mod_unit 28 = .ok (.iload_n 0, 1) := by decide +kernel
theorem d_Mod_unit_29 : decode b_Mod_unit 29 = .ok (.bipush 8, 2) := by decide +kernel
theorem d_Mod_unit_31 : decode b_Mod_unit 31 = .ok (.iand, 1) := by decide +kernel
theorem d_Mod_unit_32 : decode b_Mod_unit 32 = .ok (.ifCond .ne 7, 3) := by decide +kernel
theorem d_Mod_unit_35 : decode b_Mod_unit 35 = .ok (.iload_n 2, 1) := by decide +kernel
theorem d_Mod_unit_36 : decode b_Mod_unit 36 = .ok (.goto 4, 3) := by decide +kernel
theorem d_Mod_unit_39 : decode b_Mod_unit 39 = .ok (.iconst 0, 1) := by decide +kernel
theorem d_Mod_unit_40 : decode b_Mod_unit 40 = .ok (.istore 4, 2) := by decide +kernel
theorem d_Mod_unit_42 : decode b_Mod_unit 42 = .ok (.iload_n 0, 1) := by decide +kernel
theorem d_Mod_unit_43 : decode b_Mod_unit 43 = .ok (.iconst 4, 1) := by decide +kernel
theorem d_Mod_unit_44 : decode b_Mod_unit 44 = .ok (.iand, 1) := by decide +kernel
theorem d_Mod_unit_45 : decode b_Mod_unit 45 = .ok (.ifCond .ne 8, 3) := by decide +kernel
theorem d_Mod_unit_48 : decode b_Mod_unit 48 = .ok (.iload 4, 2) := by decide +kernel
theorem d_Mod_unit_50 : decode b_Mod_unit 50 = .ok (.goto 7, 3) := by decide +kernel
theorem d_Mod_unit_53 : decode b_Mod_unit 53 = .ok (.iload 4, 2) := by decide +kernel
theorem d_Mod_unit_55 : decode b_Mod_unit 55 = .ok (.iconst (-1), 1) := by decide +kernel
theorem d_Mod_unit_56 : decode b_Mod_unit 56 = .ok (.ixor, 1) := by decide +kernel
theorem d_Mod_unit_57 : decode b_Mod_unit 57 = .ok (.istore 4, 2) := by decide +kernel
theorem d_Mod_unit_59 : decode b_Mod_unit 59 = .ok (.iload_n 0, 1) := by decide +kernel
theorem d_Mod_unit_60 : decode b_Mod_unit 60 = .ok (.iconst 2, 1) := by decide +kernel
theorem d_Mod_unit_61 : decode b_Mod_unit 61 = .ok (.iand, 1) := by decide +kernel
theorem d_Mod_unit_62 : decode b_Mod_unit 62 = .ok (.ifCond .ne 10, 3) := by decide +kernel
theorem d_Mod_unit_65 : decode b_Mod_unit 65 = .ok (.iload_n 3, 1) := by decide +kernel
theorem d_Mod_unit_66 : decode b_Mod_unit 66 = .ok (.iload 4, 2) := by decide +kernel
theorem d_Mod_unit_68 : decode b_Mod_unit 68 = .ok (.iand, 1) := by decide +kernel
theorem d_Mod_unit_69 : decode b_Mod_unit 69 = .ok (.goto 7, 3) := by decide +kernel
theorem d_Mod_unit_72 : decode b_Mod_unit 72 = .ok (.iload_n 3, 1) := by decide +kernel
theorem d_Mod_unit_73 : decode b_Mod_unit 73 = .ok (.iload 4, 2) := by decide +kernel
theorem d_Mod_unit_75 : decode b_Mod_unit 75 = .ok (.iadd, 1) := by decide +kernel
theorem d_Mod_unit_76 : decode b_Mod_unit 76 = .ok (.istore 5, 2) := by decide +kernel
theorem d_Mod_unit_78 : decode b_Mod_unit 78 = .ok (.iload_n 0, 1) := by decide +kernel
theorem d_Mod_unit_79 : decode b_Mod_unit 79 = .ok (.iconst 1, 1) := by decide +kernel
theorem d_Mod_unit_80 : decode b_Mod_unit 80 = .ok (.iand, 1) := by decide +kernel
theorem d_Mod_unit_81 : decode b_Mod_unit 81 = .ok (.ifCond .ne 8, 3) := by decide +kernel
theorem d_Mod_unit_84 : decode b_Mod_unit 84 = .ok (.iload 5, 2) := by decide +kernel
theorem d_Mod_unit_86 : decode b_Mod_unit 86 = .ok (.goto 7, 3) := by decide +kernel
theorem d_Mod_unit_89 : decode b_Mod_unit 89 = .ok (.iload 5, 2) := by decide +kernel
theorem d_Mod_unit_91 : decode b_Mod_unit 91 = .ok (.iconst (-1), 1) := by decide +kernel
theorem d_Mod_unit_92 : decode b_Mod_unit 92 = .ok (.ixor, 1) := by decide +kernel
theorem d_Mod_unit_93 : decode b_Mod_unit 93 = .ok (.i2s, 1) := by decide +kernel
theorem d_Mod_unit_94 : decode b_Mod_unit 94 = .ok (.ireturn, 1) := by decide +kernel
theorem d_Mod_set_0 : decode b_Mod_set 0 = .ok (.iload_n 1, 1) := by decide +kernel
theorem d_Mod_set_1 : decode b_Mod_set 1 = .ok (.ifCond .lt 10, 3) := by decide +kernel
theorem d_Mod_set_4 : decode b_Mod_set 4 = .ok (.iload_n 1, 1) := by decide +kernel
theorem d_Mod_set_5 : decode b_Mod_set 5 = .ok (.sipush 32767, 3) := by decide +kernel
theorem d_Mod_set_8 : decode b_Mod_set 8 = .ok (.if_icmp .le 5, 3) := by decide +kernel
theorem d_Mod_set_11 : decode b_Mod_set 11 = .ok (.iconst 0, 1) := by decide +kernel
theorem d_Mod_set_12 : decode b_Mod_set 12 = .ok (.ireturn, 1) := by decide +kernel
theorem d_Mod_set_13 : decode b_Mod_set 13 = .ok (.aload_n 0, 1) := by decide +kernel
theorem d_Mod_set_14 : decode b_Mod_set 14 = .ok (.getfield 33, 3) := by decide +kernel
theorem d_Mod_set_17 : decode b_Mod_set 17 = .ok (.iload_n 1, 1) := by decide +kernel
theorem d_Mod_set_18 : decode b_Mod_set 18 = .ok (.iload_n 2, 1) := by decide +kernel
theorem d_Mod_set_19 : decode b_Mod_set 19 = .ok (.i2s, 1) := by decide +kernel
theorem d_Mod_set_20 : decode b_Mod_set 20 = .ok (.iastore, 1) := by decide +kernel
theorem d_Mod_set_21 : decode b_Mod_set 21 = .ok (.iconst 1, 1) := by decide +kernel
theorem d_Mod_set_22 : decode b_Mod_set 22 = .ok (.ireturn, 1) := by decide +kernel
theorem d_Mod_store_0 : decode b_Mod_store 0 = .ok (.iload_n 1, 1) := by decide +kernel
theorem d_Mod_store_1 : decode b_Mod_store 1 = .ok (.ifCond .lt 10, 3) := by decide +kernel
theorem d_Mod_store_4 : decode b_Mod_store 4 = .ok (.iload_n 1, 1) := by decide +kernel
theorem d_Mod_store_5 : decode b_Mod_store 5 = .ok (.sipush 32767, 3) := by decide +kernel
theorem d_Mod_store_8 : decode b_Mod_store 8 = .ok (.if_icmp .le 8, 3) := by decide +kernel
theorem d_Mod_store_11 : decode b_Mod_store 11 = .ok (.ldc 135, 2) := by decide +kernel
theorem d_Mod_store_13 : decode b_Mod_store 13 = .ok (.goto 9, 3) := by decide +kernel
theorem d_Mod_store_16 : decode b_Mod_store 16 = .ok (.aload_n 0, 1) := by decide +kernel
theorem d_Mod_store_17 : decode b_Mod_store 17 = .ok (.getfield 33, 3) := by decide +kernel
theorem d_Mod_store_20 : decode b_Mod_store 20 = .ok (.iload_n 1, 1) := by decide +kernel
theorem d_Mod_store_21 : decode b_Mod_store 21 = .ok (.iaload, 1) := by decide +kernel
theorem d_Mod_store_22 : decode b_Mod_store 22 = .ok (.ireturn, 1) := by decide +kernel
theorem d_Mod_register_0 : decode b_Mod_register 0 = .ok (.iload_n 1, 1) := by decide +kernel
theorem d_Mod_register_1 : decode b_Mod_register 1 = .ok (.tableswitch 78 0 6 #[43, 48, 53, 58, 63, 68, 73], 43) := by decide +kernel
theorem d_Mod_register_44 : decode b_Mod_register 44 = .ok (.aload_n 0, 1) := by decide +kernel
theorem d_Mod_register_45 : decode b_Mod_register 45 = .ok (.getfield 102, 3) := by decide +kernel
theorem d_Mod_register_48 : decode b_Mod_register 48 = .ok (.ireturn, 1) := by decide +kernel
theorem d_Mod_register_49 : decode b_Mod_register 49 = .ok (.aload_n 0, 1) := by decide +kernel
theorem d_Mod_register_50 : decode b_Mod_register 50 = .ok (.getfield 105, 3) := by decide +kernel
theorem d_Mod_register_53 : decode b_Mod_register 53 = .ok (.ireturn, 1) := by decide +kernel
theorem d_Mod_register_54 : decode b_Mod_register 54 = .ok (.aload_n 0, 1) := by decide +kernel
theorem d_Mod_register_55 : decode b_Mod_register 55 = .ok (.getfield 108, 3) := by decide +kernel
theorem d_Mod_register_58 : decode b_Mod_register 58 = .ok (.ireturn, 1) := by decide +kernel
theorem d_Mod_register_59 : decode b_Mod_register 59 = .ok (.aload_n 0, 1) := by decide +kernel
theorem d_Mod_register_60 : decode b_Mod_register 60 = .ok (.getfield 83, 3) := by decide +kernel
theorem d_Mod_register_63 : decode b_Mod_register 63 = .ok (.ireturn, 1) := by decide +kernel
theorem d_Mod_register_64 : decode b_Mod_register 64 = .ok (.aload_n 0, 1) := by decide +kernel
theorem d_Mod_register_65 : decode b_Mod_register 65 = .ok (.getfield 111, 3) := by decide +kernel
theorem d_Mod_register_68 : decode b_Mod_register 68 = .ok (.ireturn, 1) := by decide +kernel
theorem d_Mod_register_69 : decode b_Mod_register 69 = .ok (.aload_n 0, 1) := by decide +kernel
theorem d_Mod_register_70 : decode b_Mod_register 70 = .ok (.getfield 69, 3) := by decide +kernel
theorem d_Mod_register_73 : decode b_Mod_register 73 = .ok (.ireturn, 1) := by decide +kernel
theorem d_Mod_register_74 : decode b_Mod_register 74 = .ok (.aload_n 0, 1) := by decide +kernel
theorem d_Mod_register_75 : decode b_Mod_register 75 = .ok (.getfield 46, 3) := by decide +kernel
theorem d_Mod_register_78 : decode b_Mod_register 78 = .ok (.ireturn, 1) := by decide +kernel
theorem d_Mod_register_79 : decode b_Mod_register 79 = .ok (.ldc 135, 2) := by decide +kernel
theorem d_Mod_register_81 : decode b_Mod_register 81 = .ok (.ireturn, 1) := by decide +kernel
theorem d_Law_0 : decode code 0 = .ok (.new 7, 3) := by decide +kernel
theorem d_Law_3 : decode code 3 = .ok (.dup, 1) := by decide +kernel
theorem d_Law_4 : decode code 4 = .ok (.invokespecial 9, 3) := by decide +kernel
theorem d_Law_7 : decode code 7 = .ok (.astore_n 1, 1) := by decide +kernel
theorem d_Law_8 : decode code 8 = .ok (.new 10, 3) := by decide +kernel
theorem d_Law_11 : decode code 11 = .ok (.dup, 1) := by decide +kernel
theorem d_Law_12 : decode code 12 = .ok (.invokespecial 12, 3) := by decide +kernel
theorem d_Law_15 : decode code 15 = .ok (.astore_n 2, 1) := by decide +kernel
theorem d_Law_16 : decode code 16 = .ok (.iconst 0, 1) := by decide +kernel
theorem d_Law_17 : decode code 17 = .ok (.istore_n 3, 1) := by decide +kernel
theorem d_Law_18 : decode code 18 = .ok (.iload_n 3, 1) := by decide +kernel
theorem d_Law_19 : decode code 19 = .ok (.aload_n 0, 1) := by decide +kernel
theorem d_Law_20 : decode code 20 = .ok (.arraylength, 1) := by decide +kernel
theorem d_Law_21 : decode code 21 = .ok (.iconst 4, 1) := by decide +kernel
theorem d_Law_22 : decode code 22 = .ok (.isub, 1) := by decide +kernel
theorem d_Law_23 : decode code 23 = .ok (.if_icmp .gt 277, 3) := by decide +kernel
theorem d_Law_26 : decode code 26 = .ok (.aload_n 0, 1) := by decide +kernel
theorem d_Law_27 : decode code 27 = .ok (.iload_n 3, 1) := by decide +kernel
theorem d_Law_28 : decode code 28 = .ok (.iaload, 1) := by decide +kernel
theorem d_Law_29 : decode code 29 = .ok (.bipush 7, 2) := by decide +kernel
theorem d_Law_31 : decode code 31 = .ok (.iand, 1) := by decide +kernel
theorem d_Law_32 : decode code 32 = .ok (.tableswitch 262 0 7 #[48, 111, 124, 137, 160, 183, 216, 239], 48) := by decide +kernel
theorem d_Law_80 : decode code 80 = .ok (.aload_n 1, 1) := by decide +kernel
theorem d_Law_81 : decode code 81 = .ok (.aload_n 0, 1) := by decide +kernel
theorem d_Law_82 : decode code 82 = .ok (.iload_n 3, 1) := by decide +kernel
theorem d_Law_83 : decode code 83 = .ok (.iconst 1, 1) := by decide +kernel
theorem d_Law_84 : decode code 84 = .ok (.iadd, 1) := by decide +kernel
theorem d_Law_85 : decode code 85 = .ok (.iaload, 1) := by decide +kernel
theorem d_Law_86 : decode code 86 = .ok (.i2l, 1) := by decide +kernel
theorem d_Law_87 : decode code 87 = .ok (.bipush 32, 2) := by decide +kernel
theorem d_Law_89 : decode code 89 = .ok (.lshl, 1) := by decide +kernel
theorem d_Law_90 : decode code 90 = .ok (.aload_n 0, 1) := by decide +kernel
theorem d_Law_91 : decode code 91 = .ok (.iload_n 3, 1) := by decide +kernel
theorem d_Law_92 : decode code 92 = .ok (.iconst 2, 1) := by decide +kernel
theorem d_Law_93 : decode code 93 = .ok (.iadd, 1) := by decide +kernel
theorem d_Law_94 : decode code 94 = .ok (.iaload, 1) := by decide +kernel
theorem d_Law_95 : decode code 95 = .ok (.i2l, 1) := by decide +kernel
theorem d_Law_96 : decode code 96 = .ok (.ldc2_w 13, 3) := by decide +kernel
theorem d_Law_99 : decode code 99 = .ok (.land, 1) := by decide +kernel
theorem d_Law_100 : decode code 100 = .ok (.lor, 1) := by decide +kernel
theorem d_Law_101 : decode code 101 = .ok (.aload_n 0, 1) := by decide +kernel
theorem d_Law_102 : decode code 102 = .ok (.iload_n 3, 1) := by decide +kernel
theorem d_Law_103 : decode code 103 = .ok (.iconst 3, 1) := by decide +kernel
theorem d_Law_104 : decode code 104 = .ok (.iadd, 1) := by decide +kernel
theorem d_Law_105 : decode code 105 = .ok (.iaload, 1) := by decide +kernel
theorem d_Law_106 : decode code 106 = .ok (.invokevirtual 15, 3) := by decide +kernel
theorem d_Law_109 : decode code 109 = .ok (.aload_n 2, 1) := by decide +kernel
theorem d_Law_110 : decode code 110 = .ok (.aload_n 0, 1) := by decide +kernel
theorem d_Law_111 : decode code 111 = .ok (.iload_n 3, 1) := by decide +kernel
theorem d_Law_112 : decode code 112 = .ok (.iconst 1, 1) := by decide +kernel
theorem d_Law_113 : decode code 113 = .ok (.iadd, 1) := by decide +kernel
theorem d_Law_114 : decode code 114 = .ok (.iaload, 1) := by decide +kernel
theorem d_Law_115 : decode code 115 = .ok (.i2l, 1) := by decide +kernel
theorem d_Law_116 : decode code 116 = .ok (.bipush 32, 2) := by decide +kernel
theorem d_Law_118 : decode code 118 = .ok (.lshl, 1) := by decide +kernel
theorem d_Law_119 : decode code 119 = .ok (.aload_n 0, 1) := by decide +kernel
theorem d_Law_120 : decode code 120 = .ok (.iload_n 3, 1) := by decide +kernel
theorem d_Law_121 : decode code 121 = .ok (.iconst 2, 1) := by decide +kernel
theorem d_Law_122 : decode code 122 = .ok (.iadd, 1) := by decide +kernel
theorem d_Law_123 : decode code 123 = .ok (.iaload, 1) := by decide +kernel
theorem d_Law_124 : decode code 124 = .ok (.i2l, 1) := by decide +kernel
theorem d_Law_125 : decode code 125 = .ok (.ldc2_w 13, 3) := by decide +kernel
theorem d_Law_128 : decode code 128 = .ok (.land, 1) := by decide +kernel
theorem d_Law_129 : decode code 129 = .ok (.lor, 1) := by decide +kernel
theorem d_Law_130 : decode code 130 = .ok (.aload_n 0, 1) := by decide +kernel
theorem d_Law_131 : decode code 131 = .ok (.iload_n 3, 1) := by decide +kernel
theorem d_Law_132 : decode code 132 = .ok (.iconst 3, 1) := by decide +kernel
theorem d_Law_133 : decode code 133 = .ok (.iadd, 1) := by decide +kernel
theorem d_Law_134 : decode code 134 = .ok (.iaload, 1) := by decide +kernel
theorem d_Law_135 : decode code 135 = .ok (.invokevirtual 19, 3) := by decide +kernel
theorem d_Law_138 : decode code 138 = .ok (.if_icmp .eq 156, 3) := by decide +kernel
theorem d_Law_141 : decode code 141 = .ok (.iconst 0, 1) := by decide +kernel
theorem d_Law_142 : decode code 142 = .ok (.ireturn, 1) := by decide +kernel
theorem d_Law_143 : decode code 143 = .ok (.aload_n 1, 1) := by decide +kernel
theorem d_Law_144 : decode code 144 = .ok (.invokevirtual 20, 3) := by decide +kernel
theorem d_Law_147 : decode code 147 = .ok (.aload_n 2, 1) := by decide +kernel
theorem d_Law_148 : decode code 148 = .ok (.invokevirtual 24, 3) := by decide +kernel
theorem d_Law_151 : decode code 151 = .ok (.if_icmp .eq 143, 3) := by decide +kernel
theorem d_Law_154 : decode code 154 = .ok (.iconst 0, 1) := by decide +kernel
theorem d_Law_155 : decode code 155 = .ok (.ireturn, 1) := by decide +kernel
theorem d_Law_156 : decode code 156 = .ok (.aload_n 1, 1) := by decide +kernel
theorem d_Law_157 : decode code 157 = .ok (.invokevirtual 25, 3) := by decide +kernel
theorem d_Law_160 : decode code 160 = .ok (.aload_n 2, 1) := by decide +kernel
theorem d_Law_161 : decode code 161 = .ok (.invokevirtual 28, 3) := by decide +kernel
theorem d_Law_164 : decode code 164 = .ok (.if_icmp .eq 130, 3) := by decide +kernel
theorem d_Law_167 : decode code 167 = .ok (.iconst 0, 1) := by decide +kernel
theorem d_Law_168 : decode code 168 = .ok (.ireturn, 1) := by decide +kernel
theorem d_Law_169 : decode code 169 = .ok (.aload_n 1, 1) := by decide +kernel
theorem d_Law_170 : decode code 170 = .ok (.aload_n 0, 1) := by decide +kernel
theorem d_Law_171 : decode code 171 = .ok (.iload_n 3, 1) := by decide +kernel
theorem d_Law_172 : decode code 172 = .ok (.iconst 1, 1) := by decide +kernel
theorem d_Law_173 : decode code 173 = .ok (.iadd, 1) := by decide +kernel
theorem d_Law_174 : decode code 174 = .ok (.iaload, 1) := by decide +kernel
theorem d_Law_175 : decode code 175 = .ok (.invokevirtual 29, 3) := by decide +kernel
theorem d_Law_178 : decode code 178 = .ok (.aload_n 2, 1) := by decide +kernel
theorem d_Law_179 : decode code 179 = .ok (.aload_n 0, 1) := by decide +kernel
theorem d_Law_180 : decode code 180 = .ok (.iload_n 3, 1) := by decide +kernel
theorem d_Law_181 : decode code 181 = .ok (.iconst 1, 1) := by decide +kernel
theorem d_Law_182 : decode code 182 = .ok (.iadd, 1) := by decide +kernel
theorem d_Law_183 : decode code 183 = .ok (.iaload, 1) := by decide +kernel
theorem d_Law_184 : decode code 184 = .ok (.invokevirtual 33, 3) := by decide +kernel
theorem d_Law_187 : decode code 187 = .ok (.if_icmp .eq 107, 3) := by decide +kernel
theorem d_Law_190 : decode code 190 = .ok (.iconst 0, 1) := by decide +kernel
theorem d_Law_191 : decode code 191 = .ok (.ireturn, 1) := by decide +kernel
theorem d_Law_192 : decode code 192 = .ok (.aload_n 1, 1) := by decide +kernel
theorem d_Law_193 : decode code 193 = .ok (.aload_n 0, 1) := by decide +kernel
theorem d_Law_194 : decode code 194 = .ok (.iload_n 3, 1) := by decide +kernel
theorem d_Law_195 : decode code 195 = .ok (.iconst 1, 1) := by decide +kernel
theorem d_Law_196 : decode code 196 = .ok (.iadd, 1) := by decide +kernel
theorem d_Law_197 : decode code 197 = .ok (.iaload, 1) := by decide +kernel
theorem d_Law_198 : decode code 198 = .ok (.invokevirtual 34, 3) := by decide +kernel
theorem d_Law_201 : decode code 201 = .ok (.aload_n 2, 1) := by decide +kernel
theorem d_Law_202 : decode code 202 = .ok (.aload_n 0, 1) := by decide +kernel
theorem d_Law_203 : decode code 203 = .ok (.iload_n 3, 1) := by decide +kernel
theorem d_Law_204 : decode code 204 = .ok (.iconst 1, 1) := by decide +kernel
theorem d_Law_205 : decode code 205 = .ok (.iadd, 1) := by decide +kernel
theorem d_Law_206 : decode code 206 = .ok (.iaload, 1) := by decide +kernel
theorem d_Law_207 : decode code 207 = .ok (.invokevirtual 37, 3) := by decide +kernel
theorem d_Law_210 : decode code 210 = .ok (.if_icmp .eq 84, 3) := by decide +kernel
theorem d_Law_213 : decode code 213 = .ok (.iconst 0, 1) := by decide +kernel
theorem d_Law_214 : decode code 214 = .ok (.ireturn, 1) := by decide +kernel
theorem d_Law_215 : decode code 215 = .ok (.aload_n 1, 1) := by decide +kernel
theorem d_Law_216 : decode code 216 = .ok (.aload_n 0, 1) := by decide +kernel
theorem d_Law_217 : decode code 217 = .ok (.iload_n 3, 1) := by decide +kernel
theorem d_Law_218 : decode code 218 = .ok (.iconst 1, 1) := by decide +kernel
theorem d_Law_219 : decode code 219 = .ok (.iadd, 1) := by decide +kernel
theorem d_Law_220 : decode code 220 = .ok (.iaload, 1) := by decide +kernel
theorem d_Law_221 : decode code 221 = .ok (.aload_n 0, 1) := by decide +kernel
theorem d_Law_222 : decode code 222 = .ok (.iload_n 3, 1) := by decide +kernel
theorem d_Law_223 : decode code 223 = .ok (.iconst 2, 1) := by decide +kernel
theorem d_Law_224 : decode code 224 = .ok (.iadd, 1) := by decide +kernel
theorem d_Law_225 : decode code 225 = .ok (.iaload, 1) := by decide +kernel
theorem d_Law_226 : decode code 226 = .ok (.invokevirtual 38, 3) := by decide +kernel
theorem d_Law_229 : decode code 229 = .ok (.aload_n 2, 1) := by decide +kernel
theorem d_Law_230 : decode code 230 = .ok (.aload_n 0, 1) := by decide +kernel
theorem d_Law_231 : decode code 231 = .ok (.iload_n 3, 1) := by decide +kernel
theorem d_Law_232 : decode code 232 = .ok (.iconst 1, 1) := by decide +kernel
theorem d_Law_233 : decode code 233 = .ok (.iadd, 1) := by decide +kernel
theorem d_Law_234 : decode code 234 = .ok (.iaload, 1) := by decide +kernel
theorem d_Law_235 : decode code 235 = .ok (.aload_n 0, 1) := by decide +kernel
theorem d_Law_236 : decode code 236 = .ok (.iload_n 3, 1) := by decide +kernel
theorem d_Law_237 : decode code 237 = .ok (.iconst 2, 1) := by decide +kernel
theorem d_Law_238 : decode code 238 = .ok (.iadd, 1) := by decide +kernel
theorem d_Law_239 : decode code 239 = .ok (.iaload, 1) := by decide +kernel
theorem d_Law_240 : decode code 240 = .ok (.invokevirtual 42, 3) := by decide +kernel
theorem d_Law_243 : decode code 243 = .ok (.if_icmp .eq 51, 3) := by decide +kernel
theorem d_Law_246 : decode code 246 = .ok (.iconst 0, 1) := by decide +kernel
theorem d_Law_247 : decode code 247 = .ok (.ireturn, 1) := by decide +kernel
theorem d_Law_248 : decode code 248 = .ok (.aload_n 1, 1) := by decide +kernel
theorem d_Law_249 : decode code 249 = .ok (.aload_n 0, 1) := by decide +kernel
theorem d_Law_250 : decode code 250 = .ok (.iload_n 3, 1) := by decide +kernel
theorem d_Law_251 : decode code 251 = .ok (.iconst 1, 1) := by decide +kernel
theorem d_Law_252 : decode code 252 = .ok (.iadd, 1) := by decide +kernel
theorem d_Law_253 : decode code 253 = .ok (.iaload, 1) := by decide +kernel
theorem d_Law_254 : decode code 254 = .ok (.invokevirtual 43, 3) := by decide +kernel
theorem d_Law_257 : decode code 257 = .ok (.aload_n 2, 1) := by decide +kernel
theorem d_Law_258 : decode code 258 = .ok (.aload_n 0, 1) := by decide +kernel
theorem d_Law_259 : decode code 259 = .ok (.iload_n 3, 1) := by decide +kernel
theorem d_Law_260 : decode code 260 = .ok (.iconst 1, 1) := by decide +kernel
theorem d_Law_261 : decode code 261 = .ok (.iadd, 1) := by decide +kernel
theorem d_Law_262 : decode code 262 = .ok (.iaload, 1) := by decide +kernel
theorem d_Law_263 : decode code 263 = .ok (.invokevirtual 46, 3) := by decide +kernel
theorem d_Law_266 : decode code 266 = .ok (.if_icmp .eq 28, 3) := by decide +kernel
theorem d_Law_269 : decode code 269 = .ok (.iconst 0, 1) := by decide +kernel
theorem d_Law_270 : decode code 270 = .ok (.ireturn, 1) := by decide +kernel
theorem d_Law_271 : decode code 271 = .ok (.aload_n 1, 1) := by decide +kernel
theorem d_Law_272 : decode code 272 = .ok (.aload_n 0, 1) := by decide +kernel
theorem d_Law_273 : decode code 273 = .ok (.iload_n 3, 1) := by decide +kernel
theorem d_Law_274 : decode code 274 = .ok (.iconst 1, 1) := by decide +kernel
theorem d_Law_275 : decode code 275 = .ok (.iadd, 1) := by decide +kernel
theorem d_Law_276 : decode code 276 = .ok (.iaload, 1) := by decide +kernel
theorem d_Law_277 : decode code 277 = .ok (.invokevirtual 47, 3) := by decide +kernel
theorem d_Law_280 : decode code 280 = .ok (.aload_n 2, 1) := by decide +kernel
theorem d_Law_281 : decode code 281 = .ok (.aload_n 0, 1) := by decide +kernel
theorem d_Law_282 : decode code 282 = .ok (.iload_n 3, 1) := by decide +kernel
theorem d_Law_283 : decode code 283 = .ok (.iconst 1, 1) := by decide +kernel
theorem d_Law_284 : decode code 284 = .ok (.iadd, 1) := by decide +kernel
theorem d_Law_285 : decode code 285 = .ok (.iaload, 1) := by decide +kernel
theorem d_Law_286 : decode code 286 = .ok (.invokevirtual 50, 3) := by decide +kernel
theorem d_Law_289 : decode code 289 = .ok (.if_icmp .eq 5, 3) := by decide +kernel
theorem d_Law_292 : decode code 292 = .ok (.iconst 0, 1) := by decide +kernel
theorem d_Law_293 : decode code 293 = .ok (.ireturn, 1) := by decide +kernel
theorem d_Law_294 : decode code 294 = .ok (.iinc 3 4, 3) := by decide +kernel
theorem d_Law_297 : decode code 297 = .ok (.goto (-279), 3) := by decide +kernel
theorem d_Law_300 : decode code 300 = .ok (.iconst 1, 1) := by decide +kernel
theorem d_Law_301 : decode code 301 = .ok (.ireturn, 1) := by decide +kernel
end
section
/-! ===== base: the constants that the worlds share; cuts, loops, reading calls, writing calls ===== -/
abbrev sdG : Type := va_G × (Nat × ClassId × ClassId × ClassId × ClassId) × ((Nat × Nat × Nat) × (Nat → Nat) × (Nat → Nat))
abbrev gS (g : sdG) : Nat := g.2.1.1
abbrev gB (g : sdG) : ClassId := g.2.1.2.1
abbrev gI (g : sdG) : ClassId := g.2.1.2.2.1
abbrev gP (g : sdG) : ClassId := g.2.1.2.2.2.1
abbrev gC (g : sdG) : ClassId := g.2.1.2.2.2.2
abbrev gt1 (g : sdG) : Nat := g.2.2.1.1
abbrev gt2 (g : sdG) : Nat := g.2.2.1.2.1
abbrev gt3 (g : sdG) : Nat := g.2.2.1.2.2
abbrev gk (g : sdG) : Nat → Nat := g.2.2.2.1
abbrev gv (g : sdG) : Nat → Nat := g.2.2.2.2
abbrev sdTy (g : sdG) : List (ClassId × FieldType) := [(gB g, .byte), (gI g, .int), (gP g, .object "SignDesk$Page"), (gC g, .char)]
abbrev sdK (g : sdG) (U : State) : Prop := va_K g.1 vwCl (sdTy g) U
abbrev sdP (g : sdG) (ws : va_W) (H : Heap) : Prop := va_P g.1 vwCl ws H
abbrev sdA (g : sdG) : Nat → Prop := fun q => gS g ≤ q
/-- the literals: known, dests, jumps, comps of A, comps of M -/
def sd_len : List Nat := [85, 18, 27, 58, 35]
def sd_byt : List (List Int32) := [[82, 48, 32, 82, 49, 32, 82, 50, 32, 82, 51, 32, 82, 52, 32, 82, 53, 32, 82, 54, 32, 82, 55, 32, 82, 56, 32, 82, 57, 32, 82, 49, 48, 32, 82, 49, 49, 32, 82, 49, 50, 32, 82, 49, 51, 32, 82, 49, 52, 32, 82, 49, 53, 32, 83, 80, 32, 76, 67, 76, 32, 65, 82, 71, 32, 84, 72, 73, 83, 32, 84, 72, 65, 84, 32, 83, 67, 82, 69, 69, 78, 32, 75, 66, 68], [77, 32, 68, 32, 77, 68, 32, 65, 32, 65, 77, 32, 65, 68, 32, 65, 77, 68], [74, 71, 84, 32, 74, 69, 81, 32, 74, 71, 69, 32, 74, 76, 84, 32, 74, 78, 69, 32, 74, 76, 69, 32, 74, 77, 80], [48, 32, 49, 32, 45, 49, 32, 68, 32, 65, 32, 33, 68, 32, 33, 65, 32, 45, 68, 32, 45, 65, 32, 68, 43, 49, 32, 65, 43, 49, 32, 68, 45, 49, 32, 65, 45, 49, 32, 68, 43, 65, 32, 68, 45, 65, 32, 65, 45, 68, 32, 68, 38, 65, 32, 68, 124, 65], [77, 32, 33, 77, 32, 45, 77, 32, 77, 43, 49, 32, 77, 45, 49, 32, 68, 43, 77, 32, 68, 45, 77, 32, 77, 45, 68, 32, 68, 38, 77, 32, 68, 124, 77]]
def sd_KN : List Int32 := [0, 1, 2, 3, 4, 5, 6, 7, 8, 9, 10, 11, 12, 13, 14, 15, 0, 1, 2, 3, 4, 16384, 24576]
def sd_BA : List Int32 := [42, 63, 58, 12, 48, 13, 49, 15, 51, 31, 55, 14, 50, 2, 19, 7, 0, 21]
def sd_BM : List Int32 := [48, 49, 51, 55, 50, 2, 19, 7, 0, 21]
/-- what nobody writes: statics, tables, literals, links of nest mates -/
def sdE (g : sdG) (U : State) (H : Heap) : Prop :=
  va_Z "java/lang/String" "COMPACT_STRINGS" "Z" (.int 1) (sdA g) U H ∧
  va_Zq "jdk/internal/util/Preconditions" "SIOOBE_FORMATTER" "Ljava/util/function/BiFunction;" (sdA g) U H ∧
  (va_Z "SignDesk$Reader" "KNOWN_NUMBERS" "[I" (.ref (gt1 g)) (sdA g) U H ∧ va_T .int (gt1 g) 23 (fun j => .int (sd_KN.getD j 0)) (sdA g) U H) ∧
  (va_Z "SignDesk$Reader" "BITS_OF_A" "[I" (.ref (gt2 g)) (sdA g) U H ∧ va_T .int (gt2 g) 18 (fun j => .int (sd_BA.getD j 0)) (sdA g) U H) ∧
  (va_Z "SignDesk$Reader" "BITS_OF_M" "[I" (.ref (gt3 g)) (sdA g) U H ∧ va_T .int (gt3 g) 10 (fun j => .int (sd_BM.getD j 0)) (sdA g) U H) ∧
  vk_S 5 sd_len sd_byt (gk g) (gv g) (sdA g) U H ∧
  (vk_R "SignDesk$Reader" 146 "R0 R1 R2 R3 R4 R5 R6 R7 R8 R9 R10 R11 R12 R13 R14 R15 SP LCL ARG THIS THAT SCREEN KBD" (gk g 0) U ∧ vk_R "SignDesk$Reader" 116 "M D MD A AM AD AMD" (gk g 1) U ∧ vk_R "SignDesk$Reader" 122 "JGT JEQ JGE JLT JNE JLE JMP" (gk g 2) U ∧ vk_R "SignDesk$Reader" 132 "0 1 -1 D A !D !A -D -A D+1 A+1 D-1 A-1 D+A D-A A-D D&A D|A" (gk g 3) U ∧ vk_R "SignDesk$Reader" 141 "M !M -M M+1 M-1 D+M D-M M-D D&M D|M" (gk g 4) U) ∧
  (va_Nw (.methodLinkNest "SignDesk" 9 ⟨"SignDesk$Text", "<init>", "()V"⟩ "SignDesk") U ∧ va_Nw (.methodLinkNest "SignDesk" 18 ⟨"SignDesk$Program", "<init>", "()V"⟩ "SignDesk") U ∧ va_Nw (.methodLinkNest "SignDesk$Processor" 17 ⟨"SignDesk$Memory", "<init>", "()V"⟩ "SignDesk") U ∧ va_Nw (.methodLinkNest "SignDesk$Memory" 24 ⟨"SignDesk$Page", "<init>", "()V"⟩ "SignDesk") U ∧ va_Nw (.fieldLinkNest "SignDesk$Memory" 20 "SignDesk$Page" "words" "[I" "SignDesk") U) ∧
  va_AO "SignDesk$Page" U
theorem sdE.kept {g : sdG} {U : State} {H H1 : Heap} (h : sdE g U H) (hq : ∀ a : Nat, a < H.size → ¬ sdA g a → H1[a]? = H[a]?) : sdE g U H1 := by
  obtain ⟨a1, a2, ⟨b1, b2⟩, ⟨c1, c2⟩, ⟨d1, d2⟩, e, f, n, o⟩ := h
  exact ⟨a1.kept hq, a2.kept hq, ⟨b1.kept hq, b2.kept hq⟩, ⟨c1.kept hq, c2.kept hq⟩, ⟨d1.kept hq, d2.kept hq⟩, e.kept hq, f, n, o⟩
theorem sdE.warm {g : sdG} {s U : State} {H : Heap} (hW : s.WarmedH U.vm) (h : sdE g s H) : sdE g U H := by
  obtain ⟨a1, a2, ⟨b1, b2⟩, ⟨c1, c2⟩, ⟨d1, d2⟩, e, ⟨f1, f2, f3, f4, f5⟩, ⟨n1, n2, n3, n4, n5⟩, o⟩ := h
  have hv := hW.alike
  exact ⟨a1.moved hv, a2.moved hv, ⟨b1.moved hv, b2.moved hv⟩, ⟨c1.moved hv, c2.moved hv⟩, ⟨d1.moved hv, d2.moved hv⟩, e.moved hv, ⟨f1.warm hW, f2.warm hW, f3.warm hW, f4.warm hW, f5.warm hW⟩, ⟨n1.warmM hW, n2.warmM hW, n3.warmM hW, n4.warmM hW, n5.warmF hW⟩, o.moved hv⟩
theorem sdE.same {g : sdG} {u U : State} {H : Heap} (hv : U.vm = u.vm) (h : sdE g u H) : sdE g U H := by
  obtain ⟨a1, a2, ⟨b1, b2⟩, ⟨c1, c2⟩, ⟨d1, d2⟩, e, ⟨f1, f2, f3, f4, f5⟩, ⟨n1, n2, n3, n4, n5⟩, o⟩ := h
  have ha : u.vm.Alike U.vm := by rw [hv]; exact Vm.Alike.refl u.vm
  exact ⟨a1.moved ha, a2.moved ha, ⟨b1.moved ha, b2.moved ha⟩, ⟨c1.moved ha, c2.moved ha⟩, ⟨d1.moved ha, d2.moved ha⟩, e.moved ha, ⟨f1.same hv, f2.same hv, f3.same hv, f4.same hv, f5.same hv⟩, ⟨n1.same rfl hv.symm, n2.same rfl hv.symm, n3.same rfl hv.symm, n4.same rfl hv.symm, n5.same rfl hv.symm⟩, o.moved ha⟩
/-- a reading method's start: cells wc -/
def sdR (g : sdG) (wc : va_W) (U : State) : Prop := sdP g wc U.heap ∧ sdK g U ∧ sdE g U U.heap
/-- a writing method's start -/
def sdU (g : sdG) (wc : va_W) (sz : Nat) (U : State) : Prop := U.heap.size = sz ∧ sdP g wc U.heap ∧ sdK g U ∧ sdE g U U.heap ∧ va_D (sdA g) wc ∧ gS g ≤ sz
/-- a writing method's end -/
def sdB (g : sdG) (wc : va_W) (sz : Nat) (w1 : va_W) (t : State) : Prop := sdP g w1 t.heap ∧ va_D (va_A wc sz) w1
theorem sd_blindR {g : sdG} {wc : va_W} {av : List Value} : FrameBlind (va_Pc av (sdR g wc)) := by
  intro a U gf mk ⟨q0, qP, qK, qE⟩
  exact ⟨q0, qP, va_K.moved (u := U) (U := U.calling gf mk a) (Vm.Alike.refl U.vm) qK, sdE.same (u := U) (U := U.calling gf mk a) rfl qE⟩
theorem sd_blindU {g : sdG} {wc : va_W} {sz : Nat} {av : List Value} : FrameBlind (va_Pc av (sdU g wc sz)) := by
  intro a U gf mk ⟨q0, qz, qP, qK, qE, qD, qs⟩
  exact ⟨q0, qz, qP, va_K.moved (u := U) (U := U.calling gf mk a) (Vm.Alike.refl U.vm) qK, sdE.same (u := U) (U := U.calling gf mk a) rfl qE, qD, qs⟩
section SdBase
variable {p : Program} {l : Launch} {e : Env} {R : Room} {s : State} {m : MethodId} {args : Array Value} {below : List Frame} {meth : Method} {c : Code} {H : Heap} {locs : List Loc} {cells slots : Nat} {Q : State → Prop} {pc : Nat} {ls : Array Slot} {rest : List Value} {g : sdG}
theorem sd_cut {σ : Type} (P : σ → Prop) (hp : σ → Heap) (lc : σ → List Loc) (ck cs : σ → Nat) (fr : σ → JFrame) {f : JFrame}
    (kj : ∀ x, P x → W p l e R s m args below meth c (hp x) (lc x) (ck x) (cs x) Q (fr x))
    (k : (∀ x, P x → W p l e R s m args below meth c (hp x) (lc x) (ck x) (cs x) Q (fr x)) → W p l e R s m args below meth c H locs cells slots Q f) :
    W p l e R s m args below meth c H locs cells slots Q f := k kj
/-- a cut at a place where one int lies on the stack: same locals, same heap -/
theorem sd_cutv (P : Int32 → Prop) (pj : Nat) (rj : List Value) {f : JFrame}
    (kj : ∀ x, P x → W p l e R s m args below meth c H locs cells slots Q (F0 m pj ls (.int x :: rj)))
    (k : (∀ x, P x → W p l e R s m args below meth c H locs cells slots Q (F0 m pj ls (.int x :: rj))) → W p l e R s m args below meth c H locs cells slots Q f) :
    W p l e R s m args below meth c H locs cells slots Q f := k kj
/-- a cut where the locals may have changed: same heap -/
theorem sd_cutl {σ : Type} (P : σ → Array Slot → Prop) (pj : Nat) (st : σ → List Value) {f : JFrame}
    (kj : ∀ x ls, P x ls → W p l e R s m args below meth c H locs cells slots Q (F0 m pj ls (st x)))
    (k : (∀ x ls, P x ls → W p l e R s m args below meth c H locs cells slots Q (F0 m pj ls (st x))) → W p l e R s m args below meth c H locs cells slots Q f) :
    W p l e R s m args below meth c H locs cells slots Q f := k kj
theorem sd_loop {σ : Type} (I : σ → Prop) (μ : σ → Nat) (hp : σ → Heap) (lc : σ → List Loc) (ck cs : σ → Nat) (fr : σ → JFrame)
    (hs : ∀ x, I x → (∀ y, I y → μ y < μ x → W p l e R s m args below meth c (hp y) (lc y) (ck y) (cs y) Q (fr y)) → W p l e R s m args below meth c (hp x) (lc x) (ck x) (cs x) Q (fr x)) :
    ∀ x, I x → W p l e R s m args below meth c (hp x) (lc x) (ck x) (cs x) Q (fr x) := by
  have key : ∀ (n : Nat) (x : σ), μ x < n → I x → W p l e R s m args below meth c (hp x) (lc x) (ck x) (cs x) Q (fr x) := by
    intro n
    induction n with
    | zero => intro x h; exact absurd h (Nat.not_lt_zero _)
    | succ n ih => intro x hn hI; exact hs x hI (fun y hy hlt => ih y (by omega) hy)
  exact fun x hI => key (μ x + 1) x (Nat.lt_succ_self _) hI
/-- a loop over locals alone: the heap stands -/
theorem sd_loopr {σ : Type} (I : σ → Array Slot → Prop) (μ : σ → Nat) (pj : Nat) (st : List Value)
    (hs : ∀ x ls, I x ls → (∀ y ls', I y ls' → μ y < μ x → W p l e R s m args below meth c H locs cells slots Q (F0 m pj ls' st)) → W p l e R s m args below meth c H locs cells slots Q (F0 m pj ls st))
    (x : σ) (h : I x ls) : W p l e R s m args below meth c H locs cells slots Q (F0 m pj ls st) :=
  sd_loop (σ := σ × Array Slot) (fun z => I z.1 z.2) (fun z => μ z.1) (fun _ => H) (fun _ => locs) (fun _ => cells) (fun _ => slots) (fun z => F0 m pj z.2 st)
    (fun z hz k => hs z.1 z.2 hz (fun y ls' hy hlt => k (y, ls') hy hlt)) (x, ls) h
theorem sd_topi {x y : Int32} (h : x = y) (k : W p l e R s m args below meth c H locs cells slots Q (F0 m pc ls (.int y :: rest))) : W p l e R s m args below meth c H locs cells slots Q (F0 m pc ls (.int x :: rest)) := by
  subst h; exact k
theorem sd_topl {x y : Int64} (h : x = y) (k : W p l e R s m args below meth c H locs cells slots Q (F0 m pc ls (.long y :: rest))) : W p l e R s m args below meth c H locs cells slots Q (F0 m pc ls (.long x :: rest)) := by
  subst h; exact k
theorem sd_ri {post : Int32 → Prop} {a : Array Value} {st0 : List Value} (hr : va_Run p l e R s m args below meth c H locs cells slots 0 0 (F0 m pc ls st0) rest (vp_Si post a) (fun _ => False)) (kk : ∀ r : Int32, post r → W p l e R s m args below meth c H locs cells slots Q (F0 m (pc + 3) ls (.int r :: rest))) : W p l e R s m args below meth c H locs cells slots Q (F0 m pc ls st0) :=
  vp_callSi hr.run kk
theorem sd_rv {a : Array Value} {st0 : List Value} (hr : va_Run p l e R s m args below meth c H locs cells slots 0 0 (F0 m pc ls st0) rest (va_Sv (fun _ => True) a) (fun _ => False)) (kk : W p l e R s m args below meth c H locs cells slots Q (F0 m (pc + 3) ls rest)) : W p l e R s m args below meth c H locs cells slots Q (F0 m pc ls st0) :=
  va_csv hr.run (fun _ => kk)
theorem sd_fr {A : Nat → Prop} (hS : va_S A s.heap H locs) (hA0 : ∀ q, A q → gS g ≤ q) : ∀ a : Nat, a < s.heap.size → ¬ sdA g a → H[a]? = s.heap[a]? := fun a h1 h2 => hS.2.1 a h1 (fun h3 => h2 (hA0 a h3))
/-- a reading call's start: the receiver is the first of its cells -/
theorem sd_preV {wc : va_W} {As : List Value} {b ci N : Nat} {fs : List Value} {C : String} {T : u_T} (hK : sdK g s) (hE : sdE g s s.heap) (hF : ∀ a : Nat, a < s.heap.size → ¬ sdA g a → H[a]? = s.heap[a]?) (hP : sdP g wc H) (h0 : wc[0]? = some (b, .inr (ci, fs))) (hc : vwCl[ci]? = some (C, T, N)) :
    PreV s H C b (va_Pc (.ref b :: As) (sdR g wc)) As :=
  ⟨sd_blindR, va_recv hK hP hc h0, fun U hU hW => ⟨rfl, by rw [hU]; exact hP, va_K.moved hW.alike hK, by rw [hU]; exact (hE.kept hF).warm hW⟩⟩
theorem sd_preS {wc : va_W} {As : List Value} (hK : sdK g s) (hE : sdE g s s.heap) (hF : ∀ a : Nat, a < s.heap.size → ¬ sdA g a → H[a]? = s.heap[a]?) (hP : sdP g wc H) :
    PreS s H (va_Pc As (sdR g wc)) As :=
  ⟨sd_blindR, fun U hU hW => ⟨rfl, by rw [hU]; exact hP, va_K.moved hW.alike hK, by rw [hU]; exact (hE.kept hF).warm hW⟩⟩
theorem sd_preStr {As : List Value} {k : Nat} (hK : sdK g s) (hE : sdE g s s.heap) (hF : ∀ a : Nat, a < s.heap.size → ¬ sdA g a → H[a]? = s.heap[a]?) (hk : k < 5) :
    PreV s H "java/lang/String" (gk g k) (va_Pc (.ref (gk g k) :: As) (sdR g [])) As := by
  refine ⟨sd_blindR, ?_, fun U hU hW => ⟨rfl, fun _ _ h => by simp at h, va_K.moved hW.alike hK, by rw [hU]; exact (hE.kept hF).warm hW⟩⟩
  obtain ⟨cell, h1, h2, h3, -⟩ := (hE.2.2.2.2.2.1.1 k hk).1.kept hF
  exact ⟨cell, h1, h2, h3⟩
/-- a writing call's start -/
theorem sd_preVU {A : Nat → Prop} {wc : va_W} {As : List Value} {b ci N : Nat} {fs : List Value} {C : String} {T : u_T} (hK : sdK g s) (hE : sdE g s s.heap) (hS : va_S A s.heap H locs) (hA0 : ∀ q, A q → gS g ≤ q) (hs0 : gS g ≤ s.heap.size) (hP : sdP g wc H) (hD : va_D A wc) (h0 : wc[0]? = some (b, .inr (ci, fs))) (hc : vwCl[ci]? = some (C, T, N)) :
    PreV s H C b (va_Pc (.ref b :: As) (sdU g wc H.size)) As :=
  ⟨sd_blindU, va_recv hK hP hc h0, fun U hU hW => ⟨rfl, by rw [hU], by rw [hU]; exact hP, va_K.moved hW.alike hK, by rw [hU]; exact (hE.kept (sd_fr hS hA0)).warm hW, hD.weaken (fun _ _ _ h => hA0 _ h), Nat.le_trans hs0 hS.1⟩⟩
theorem sd_preSU {A : Nat → Prop} {wc : va_W} {As : List Value} (hK : sdK g s) (hE : sdE g s s.heap) (hS : va_S A s.heap H locs) (hA0 : ∀ q, A q → gS g ≤ q) (hs0 : gS g ≤ s.heap.size) (hP : sdP g wc H) (hD : va_D A wc) :
    PreS s H (va_Pc As (sdU g wc H.size)) As :=
  ⟨sd_blindU, fun U hU hW => ⟨rfl, by rw [hU], by rw [hU]; exact hP, va_K.moved hW.alike hK, by rw [hU]; exact (hE.kept (sd_fr hS hA0)).warm hW, hD.weaken (fun _ _ _ h => hA0 _ h), Nat.le_trans hs0 hS.1⟩⟩
theorem sd_cv {S : Type} {A : Nat → Prop} {post : S → Prop} {cl : S → va_W} {wc : va_W} {a : Array Value} {st0 : List Value} {mc ms : Nat} (hr : va_Run p l e R s m args below meth c H locs cells slots mc ms (F0 m pc ls st0) rest (va_Qv post (fun u t => sdB g wc H.size (cl u) t) (va_A wc H.size) a) (va_A wc H.size)) (hS : va_S A s.heap H locs) (hF : ∀ q, va_A wc H.size q → A q)
    (kk : ∀ (u : S) (H1 : Heap) (locs1 : List Loc), post u → sdP g (cl u) H1 → va_D (va_A wc H.size) (cl u) → (∀ q : Nat, q < H.size → ¬ va_A wc H.size q → H1[q]? = H[q]?) → va_S A s.heap H1 locs1 → W p l e R s m args below meth c H1 locs1 (cells + mc) (slots + ms) Q (F0 m (pc + 3) ls rest)) : W p l e R s m args below meth c H locs cells slots Q (F0 m pc ls st0) :=
  va_callv hr hS (fun q _ h => hF q h) hF (fun u t H1 locs1 ht _ hp hB _ hk hS1 => kk u H1 locs1 hp (by rw [← ht]; exact hB.1) hB.2 hk hS1)
theorem sd_ci {S : Type} {A : Nat → Prop} {post : Int32 → S → Prop} {cl : S → va_W} {wc : va_W} {a : Array Value} {st0 : List Value} {mc ms : Nat} (hr : va_Run p l e R s m args below meth c H locs cells slots mc ms (F0 m pc ls st0) rest (va_Qi post (fun u t => sdB g wc H.size (cl u) t) (va_A wc H.size) a) (va_A wc H.size)) (hS : va_S A s.heap H locs) (hF : ∀ q, va_A wc H.size q → A q)
    (kk : ∀ (r : Int32) (u : S) (H1 : Heap) (locs1 : List Loc), post r u → sdP g (cl u) H1 → va_D (va_A wc H.size) (cl u) → (∀ q : Nat, q < H.size → ¬ va_A wc H.size q → H1[q]? = H[q]?) → va_S A s.heap H1 locs1 → W p l e R s m args below meth c H1 locs1 (cells + mc) (slots + ms) Q (F0 m (pc + 3) ls (.int r :: rest))) : W p l e R s m args below meth c H locs cells slots Q (F0 m pc ls st0) :=
  va_calli hr hS (fun q _ h => hF q h) hF (fun r u t H1 locs1 ht _ hp hB _ hk hS1 => kk r u H1 locs1 hp (by rw [← ht]; exact hB.1) hB.2 hk hS1)
end SdBase
theorem sd_gV {own C : String} {idx n : Nat} {y : MethodName} {b : ByteArray} {r : Option FieldType} (h1 : Cond.methodLink own idx y ∈ sdT) (h2 : Cond.instanceMethod y ∈ sdT) (h3 : Cond.selects C y y ∈ sdT) (h4 : Cond.initialized C ∈ sdT) (h5 : Cond.code y b n r ∈ sdT) : GoodIn sdT (wsV own idx C y (.code y b n r :: sdT)) := by
  intro w hw
  have hm : w ∈ sdT := by
    rcases List.mem_append.mp hw with h | h
    · simp only [List.mem_cons, List.not_mem_nil, or_false] at h
      rcases h with rfl | rfl | rfl | rfl <;> assumption
    · rcases List.mem_cons.mp h with rfl | h
      · exact h5
      · exact h
  exact ⟨hm, sd_good hm⟩
theorem sd_gS {own : String} {idx n : Nat} {y : MethodName} {b : ByteArray} {r : Option FieldType} (h1 : Cond.methodLink own idx y ∈ sdT) (h2 : Cond.static y ∈ sdT) (h4 : Cond.initialized y.cls ∈ sdT) (h5 : Cond.code y b n r ∈ sdT) : GoodIn sdT (va_wsS own idx y (.code y b n r :: sdT)) := by
  intro w hw
  have hm : w ∈ sdT := by
    rcases List.mem_append.mp hw with h | h
    · simp only [List.mem_cons, List.not_mem_nil, or_false] at h
      rcases h with rfl | rfl | rfl <;> assumption
    · rcases List.mem_cons.mp h with rfl | h
      · exact h5
      · exact h
  exact ⟨hm, sd_good hm⟩
theorem sd_gC {n : Nat} {y : MethodName} {b : ByteArray} {r : Option FieldType} (h5 : Cond.code y b n r ∈ sdT) : GoodIn sdT (.code y b n r :: sdT) := by
  intro w hw
  have hm : w ∈ sdT := by
    rcases List.mem_cons.mp hw with rfl | h
    · exact h5
    · exact h
  exact ⟨hm, sd_good hm⟩
/-- the int that a truth is -/
noncomputable def sb (P : Prop) : Int32 := @ite _ P (Classical.propDecidable P) 1 0
theorem sb_t {P : Prop} (h : P) : sb P = 1 := @if_pos _ (Classical.propDecidable P) h _ _ _
theorem sb_f {P : Prop} (h : ¬ P) : sb P = 0 := @if_neg _ (Classical.propDecidable P) h _ _ _
theorem sb_eq0 {P : Prop} : sb P = 0 ↔ ¬ P := by
  by_cases h : P
  · rw [sb_t h]; exact ⟨fun q => absurd q (by decide), fun q => absurd h q⟩
  · rw [sb_f h]; exact ⟨fun _ => h, fun _ => rfl⟩
theorem sb_ne0 {P : Prop} : ¬ sb P = 0 ↔ P := by
  rw [sb_eq0]; exact Classical.not_not
theorem sb_nar {P : Prop} : narrow .boolean (.int (sb P)) = .int (sb P) := by
  by_cases h : P
  · rw [sb_t h]; rfl
  · rw [sb_f h]; rfl
theorem sb_congr {P P' : Prop} (h : P ↔ P') : sb P = sb P' := by rw [propext h]
/-- the text: n bytes f, as numbers tx; beyond the end 10 -/
def TXok (n : Nat) (f : Nat → Int32) (tx : Nat → Nat) : Prop := n ≤ 2000 ∧ (∀ i, tx i < 256) ∧ (∀ i, i < n → f i &&& 255 = nI (tx i)) ∧ (∀ i, n ≤ i → tx i = 10)
end
section
set_option maxHeartbeats 4000000 in
set_option maxRecDepth 100000 in
/-- size() -/
theorem c_Txt_size (l : Launch) (g : sdG) (q1 q5 n : Nat) (f : Nat → Int32) (tx : Nat → Nat) (hT : TXok n f tx) : Met l y_Txt_size (.code y_Txt_size b_Txt_size 1 (some .int) :: sdT) ({ frames := 0, cells := 0, slots := 0, locals := 0 }) (va_Pc [.ref q1] (sdR g [(q1, .inr (6, [.ref q5, .int (nI n)])), (q5, .inl (gB g, 2000, .inl f))])) (vp_Si (fun r => r = nI n)) 0 0 (fun _ => False) := by
  refine Met.ofW (cc := b_Txt_size) (maxL := 1) (ret := (some .int)) (by decide) rfl ?_
  intro p ev s m args below meth c s₁ B hml hv
  obtain ⟨rfl, hP, hK, hE⟩ := hv
  have hx := B.exec
  have hb := B.bytes
  have hr := B.returns
  have hts := fun (w : Cond) (h : w ∈ sdT) => atoms_spec (ws := (.code y_Txt_size b_Txt_size 1 (some .int) :: sdT)) B.pre w (List.mem_cons_of_mem _ h)
  have hown : s.vm.findClass "SignDesk$Text" = some m.cls := findClass_of_methodNamed B.named
  have hlocks := B.notSynchronized
  have hF : ∀ a : Nat, a < s.heap.size → ¬ sdA g a → s.heap[a]? = s.heap[a]? := fun _ _ _ => rfl
  have hP : sdP g [(q1, .inr (6, [.ref q5, .int (nI n)])), (q5, .inl (gB g, 2000, .inl f))] s.heap := hP
  have hl := lv_entry ([.ref q1]) (n := 1) (Nat.le_of_ble_eq_true rfl)
  rw [lg_entry_eq]
  generalize (lg_sl ([.ref q1]) ++ List.replicate (1 - (lg_sl ([.ref q1])).length) Slot.unset).toArray = ls at hl ⊢
  have hl : lv_has ls 1 [(0, .ref q1)] := hl
  have hn := hT.1
  have hb8 := hT.2.1
  refine lv_aload_n hx hb d_Txt_size_0 rfl (lv_at hl 0 rfl) ?_
  refine va_get (D := g.1) (ci := 6) (v := .int (nI n)) (C := "SignDesk$Text") (T := F_Txt) (N := 2) hx hb hts in_Txt hown hK hP 0 rfl rfl 1 (by decide) (hts _ k_52) (fun _ h9 => h9) rfl d_Txt_size_1 ?_
  exact W.iret (v := (nI n)) hx hb hr  (fun t ht hW => ⟨_, rfl, rfl, ht⟩) (fun _ h => by cases h) d_Txt_size_4
set_option maxHeartbeats 4000000 in
set_option maxRecDepth 100000 in
/-- byteAt(i) -/
theorem c_Txt_byteAt (l : Launch) (g : sdG) (q1 q5 n : Nat) (f : Nat → Int32) (tx : Nat → Nat) (hT : TXok n f tx) (i : Nat) (hi : i < 2 ^ 31) : Met l y_Txt_byteAt (.code y_Txt_byteAt b_Txt_byteAt 2 (some .int) :: sdT) ({ frames := 0, cells := 0, slots := 0, locals := 0 }) (va_Pc [.ref q1, .int (nI i)] (sdR g [(q1, .inr (6, [.ref q5, .int (nI n)])), (q5, .inl (gB g, 2000, .inl f))])) (vp_Si (fun r => r = nI (tx i))) 0 0 (fun _ => False) := by
  refine Met.ofW (cc := b_Txt_byteAt) (maxL := 2) (ret := (some .int)) (by decide) rfl ?_
  intro p ev s m args below meth c s₁ B hml hv
  obtain ⟨rfl, hP, hK, hE⟩ := hv
  have hx := B.exec
  have hb := B.bytes
  have hr := B.returns
  have hts := fun (w : Cond) (h : w ∈ sdT) => atoms_spec (ws := (.code y_Txt_byteAt b_Txt_byteAt 2 (some .int) :: sdT)) B.pre w (List.mem_cons_of_mem _ h)
  have hown : s.vm.findClass "SignDesk$Text" = some m.cls := findClass_of_methodNamed B.named
  have hlocks := B.notSynchronized
  have hF : ∀ a : Nat, a < s.heap.size → ¬ sdA g a → s.heap[a]? = s.heap[a]? := fun _ _ _ => rfl
  have hP : sdP g [(q1, .inr (6, [.ref q5, .int (nI n)])), (q5, .inl (gB g, 2000, .inl f))] s.heap := hP
  have hl := lv_entry ([.ref q1, .int (nI i)]) (n := 2) (Nat.le_of_ble_eq_true rfl)
  rw [lg_entry_eq]
  generalize (lg_sl ([.ref q1, .int (nI i)]) ++ List.replicate (2 - (lg_sl ([.ref q1, .int (nI i)])).length) Slot.unset).toArray = ls at hl ⊢
  have hl : lv_has ls 2 [(0, .ref q1), (1, .int (nI i))] := hl
  have hn := hT.1
  have hb8 := hT.2.1
  refine lv_iload_n hx hb d_Txt_byteAt_0 rfl (lv_at hl 1 rfl) ?_
  refine lv_if_lt (tgt := 25) hx hb d_Txt_byteAt_1 (by decide) (fun c1 => ?_) (fun c1 => ?_)
  · exact absurd c1 (nI_pos (by omega))
  · refine lv_iload_n hx hb d_Txt_byteAt_4 rfl (lv_at hl 1 rfl) ?_
    refine lv_aload_n hx hb d_Txt_byteAt_5 rfl (lv_at hl 0 rfl) ?_
    refine va_get (D := g.1) (ci := 6) (v := .int (nI n)) (C := "SignDesk$Text") (T := F_Txt) (N := 2) hx hb hts in_Txt hown hK hP 0 rfl rfl 1 (by decide) (hts _ k_52) (fun _ h9 => h9) rfl d_Txt_byteAt_6 ?_
    refine lv_icmp_ge (tgt := 25) hx hb d_Txt_byteAt_9 (by decide) (fun c2 => ?_) (fun c2 => ?_)
    · have c2 := (nI_leI (by omega) (by omega)).mp c2
      refine lv_bipush (v := (nI 10)) hx hb d_Txt_byteAt_25 (by decide) ?_
      exact W.iret (v := (nI 10)) hx hb hr  (fun t ht hW => ⟨_, rfl, by rw [hT.2.2.2 i c2], ht⟩) (fun _ h => by cases h) d_Txt_byteAt_27
    · have c2 := mt (nI_leI (by omega) (by omega)).mpr c2
      have hi2 : i < n := by omega
      refine lv_aload_n hx hb d_Txt_byteAt_12 rfl (lv_at hl 0 rfl) ?_
      refine va_get (D := g.1) (ci := 6) (v := .ref q5) (C := "SignDesk$Text") (T := F_Txt) (N := 2) hx hb hts in_Txt hown hK hP 0 rfl rfl 0 (by decide) (hts _ k_51) (fun _ h9 => h9) rfl d_Txt_byteAt_13 ?_
      refine lv_iload_n hx hb d_Txt_byteAt_16 rfl (lv_at hl 1 rfl) ?_
      refine va_bald hx hb hK hP 1 0 rfl rfl (i := (nI i)) (vp_in_nI (by omega) (by omega)) d_Txt_byteAt_17 ?_
      refine lv_sipush (v := (nI 255)) hx hb d_Txt_byteAt_18 (by decide) ?_
      refine lv_iand hx hb d_Txt_byteAt_21 ?_
      refine lv_goto (tgt := 27) hx hb d_Txt_byteAt_22 (by decide) ?_
      exact W.iret (v := ((f ((nI i)).toNatClampNeg) &&& (nI 255))) hx hb hr  (fun t ht hW => ⟨_, rfl, by rw [nI_clamp (by omega)]; exact hT.2.2.1 i hi2, ht⟩) (fun _ h => by cases h) d_Txt_byteAt_27
set_option maxHeartbeats 4000000 in
set_option maxRecDepth 100000 in
/-- isLineEnd(i) -/
theorem c_Txt_isLineEnd (l : Launch) (g : sdG) (q1 q5 n : Nat) (f : Nat → Int32) (tx : Nat → Nat) (hT : TXok n f tx) (i : Nat) (hi : i < 2 ^ 30) : Met l y_Txt_isLineEnd (.code y_Txt_isLineEnd b_Txt_isLineEnd 2 (some .boolean) :: sdT) ({ frames := 1, cells := 0, slots := 0, locals := 21 }) (va_Pc [.ref q1, .int (nI i)] (sdR g [(q1, .inr (6, [.ref q5, .int (nI n)])), (q5, .inl (gB g, 2000, .inl f))])) (vp_Si (fun r => r = sb (tx i = 10))) 0 0 (fun _ => False) := by
  refine Met.ofW (cc := b_Txt_isLineEnd) (maxL := 2) (ret := (some .boolean)) (by decide) rfl ?_
  intro p ev s m args below meth c s₁ B hml hv
  obtain ⟨rfl, hP, hK, hE⟩ := hv
  have hx := B.exec
  have hb := B.bytes
  have hr := B.returns
  have hts := fun (w : Cond) (h : w ∈ sdT) => atoms_spec (ws := (.code y_Txt_isLineEnd b_Txt_isLineEnd 2 (some .boolean) :: sdT)) B.pre w (List.mem_cons_of_mem _ h)
  have hown : s.vm.findClass "SignDesk$Text" = some m.cls := findClass_of_methodNamed B.named
  have hlocks := B.notSynchronized
  have hF : ∀ a : Nat, a < s.heap.size → ¬ sdA g a → s.heap[a]? = s.heap[a]? := fun _ _ _ => rfl
  have hP : sdP g [(q1, .inr (6, [.ref q5, .int (nI n)])), (q5, .inl (gB g, 2000, .inl f))] s.heap := hP
  have hl := lv_entry ([.ref q1, .int (nI i)]) (n := 2) (Nat.le_of_ble_eq_true rfl)
  rw [lg_entry_eq]
  generalize (lg_sl ([.ref q1, .int (nI i)]) ++ List.replicate (2 - (lg_sl ([.ref q1, .int (nI i)])).length) Slot.unset).toArray = ls at hl ⊢
  have hl : lv_has ls 2 [(0, .ref q1), (1, .int (nI i))] := hl
  have hn := hT.1
  have hb8 := hT.2.1
  refine lv_aload_n hx hb d_Txt_isLineEnd_0 rfl (lv_at hl 0 rfl) ?_
  refine lv_iload_n hx hb d_Txt_isLineEnd_1 rfl (lv_at hl 1 rfl) ?_
  refine sd_ri (va_runV (As := [.int (nI i)]) (rest := []) ⟨hx, hb, hml, hown, hts⟩ (c_Txt_byteAt l g q1 q5 n f tx hT (i) (by omega)) (cwV 1 hts (sd_gV k_200 k_201 k_202 k_24 k_203) rfl rfl rfl (by decide +kernel) ⟨Nat.le_of_ble_eq_true rfl, Nat.le_of_ble_eq_true rfl⟩) (sd_preV hK hE hF (hP.sub (ws' := [(q1, .inr (6, [.ref q5, .int (nI n)])), (q5, .inl (gB g, 2000, .inl f))]) [0, 1] rfl) rfl rfl) rfl rfl hl.1 rfl (lv_room (Nat.le_of_ble_eq_true rfl)) d_Txt_isLineEnd_2 ⟨Nat.zero_le _, Nat.zero_le _⟩) (fun r1 er1 => ?_)
  subst er1
  have hb8i := hb8 (i)
  refine lv_bipush (v := (nI 10)) hx hb d_Txt_isLineEnd_5 (by decide) ?_
  refine lv_icmp_ne (tgt := 14) hx hb d_Txt_isLineEnd_7 (by decide) (fun c2 => ?_) (fun c2 => ?_)
  · have c2 := mt (nI_eq (by omega) (by omega)).mpr c2
    refine lv_iconst (v := (nI 0)) hx hb d_Txt_isLineEnd_14 (by decide) ?_
    exact W.zret (v := (nI 0)) hx hb hr (by first | rfl | decide | exact sb_nar) (fun t ht hW => ⟨_, rfl, (sb_f c2).symm, ht⟩) (fun _ h => by cases h) d_Txt_isLineEnd_15
  · have c2 := (nI_eq (by omega) (by omega)).mp c2
    refine lv_iconst (v := (nI 1)) hx hb d_Txt_isLineEnd_10 (by decide) ?_
    refine lv_goto (tgt := 15) hx hb d_Txt_isLineEnd_11 (by decide) ?_
    exact W.zret (v := (nI 1)) hx hb hr (by first | rfl | decide | exact sb_nar) (fun t ht hW => ⟨_, rfl, (sb_t c2).symm, ht⟩) (fun _ h => by cases h) d_Txt_isLineEnd_15
set_option maxHeartbeats 4000000 in
set_option maxRecDepth 100000 in
/-- isBlank(i) -/
theorem c_Txt_isBlank (l : Launch) (g : sdG) (q1 q5 n : Nat) (f : Nat → Int32) (tx : Nat → Nat) (hT : TXok n f tx) (i : Nat) (hi : i < 2 ^ 30) : Met l y_Txt_isBlank (.code y_Txt_isBlank b_Txt_isBlank 3 (some .boolean) :: sdT) ({ frames := 1, cells := 0, slots := 0, locals := 21 }) (va_Pc [.ref q1, .int (nI i)] (sdR g [(q1, .inr (6, [.ref q5, .int (nI n)])), (q5, .inl (gB g, 2000, .inl f))])) (vp_Si (fun r => r = sb (tx i = 9 ∨ tx i = 13 ∨ tx i = 32))) 0 0 (fun _ => False) := by
  refine Met.ofW (cc := b_Txt_isBlank) (maxL := 3) (ret := (some .boolean)) (by decide) rfl ?_
  intro p ev s m args below meth c s₁ B hml hv
  obtain ⟨rfl, hP, hK, hE⟩ := hv
  have hx := B.exec
  have hb := B.bytes
  have hr := B.returns
  have hts := fun (w : Cond) (h : w ∈ sdT) => atoms_spec (ws := (.code y_Txt_isBlank b_Txt_isBlank 3 (some .boolean) :: sdT)) B.pre w (List.mem_cons_of_mem _ h)
  have hown : s.vm.findClass "SignDesk$Text" = some m.cls := findClass_of_methodNamed B.named
  have hlocks := B.notSynchronized
  have hF : ∀ a : Nat, a < s.heap.size → ¬ sdA g a → s.heap[a]? = s.heap[a]? := fun _ _ _ => rfl
  have hP : sdP g [(q1, .inr (6, [.ref q5, .int (nI n)])), (q5, .inl (gB g, 2000, .inl f))] s.heap := hP
  have hl := lv_entry ([.ref q1, .int (nI i)]) (n := 3) (Nat.le_of_ble_eq_true rfl)
  rw [lg_entry_eq]
  generalize (lg_sl ([.ref q1, .int (nI i)]) ++ List.replicate (3 - (lg_sl ([.ref q1, .int (nI i)])).length) Slot.unset).toArray = ls at hl ⊢
  have hl : lv_has ls 3 [(0, .ref q1), (1, .int (nI i))] := hl
  have hn := hT.1
  have hb8 := hT.2.1
  refine lv_aload_n hx hb d_Txt_isBlank_0 rfl (lv_at hl 0 rfl) ?_
  refine lv_iload_n hx hb d_Txt_isBlank_1 rfl (lv_at hl 1 rfl) ?_
  refine sd_ri (va_runV (As := [.int (nI i)]) (rest := []) ⟨hx, hb, hml, hown, hts⟩ (c_Txt_byteAt l g q1 q5 n f tx hT (i) (by omega)) (cwV 1 hts (sd_gV k_200 k_201 k_202 k_24 k_203) rfl rfl rfl (by decide +kernel) ⟨Nat.le_of_ble_eq_true rfl, Nat.le_of_ble_eq_true rfl⟩) (sd_preV hK hE hF (hP.sub (ws' := [(q1, .inr (6, [.ref q5, .int (nI n)])), (q5, .inl (gB g, 2000, .inl f))]) [0, 1] rfl) rfl rfl) rfl rfl hl.1 rfl (lv_room (Nat.le_of_ble_eq_true rfl)) d_Txt_isBlank_2 ⟨Nat.zero_le _, Nat.zero_le _⟩) (fun r1 er1 => ?_)
  subst er1
  have hb8i := hb8 (i)
  refine lv_istore_n (lv' := [(2, .int (nI (tx (i)))), (0, .ref q1), (1, .int (nI i))]) hx hb d_Txt_isBlank_5 rfl hl (by decide) rfl (fun ls hl => ?_)
  refine lv_iload_n hx hb d_Txt_isBlank_6 rfl (lv_at hl 0 rfl) ?_
  refine lv_bipush (v := (nI 9)) hx hb d_Txt_isBlank_7 (by decide) ?_
  refine lv_icmp_eq (tgt := 24) hx hb d_Txt_isBlank_9 (by decide) (fun c2 => ?_) (fun c2 => ?_)
  · have c2 := (nI_eq (by omega) (by omega)).mp c2
    refine lv_iconst (v := (nI 1)) hx hb d_Txt_isBlank_24 (by decide) ?_
    refine lv_goto (tgt := 29) hx hb d_Txt_isBlank_25 (by decide) ?_
    exact W.zret (v := (nI 1)) hx hb hr (by first | rfl | decide | exact sb_nar) (fun t ht hW => ⟨_, rfl, (sb_t (by omega)).symm, ht⟩) (fun _ h => by cases h) d_Txt_isBlank_29
  · have c2 := mt (nI_eq (by omega) (by omega)).mpr c2
    refine lv_iload_n hx hb d_Txt_isBlank_12 rfl (lv_at hl 0 rfl) ?_
    refine lv_bipush (v := (nI 13)) hx hb d_Txt_isBlank_13 (by decide) ?_
    refine lv_icmp_eq (tgt := 24) hx hb d_Txt_isBlank_15 (by decide) (fun c3 => ?_) (fun c3 => ?_)
    · have c3 := (nI_eq (by omega) (by omega)).mp c3
      refine lv_iconst (v := (nI 1)) hx hb d_Txt_isBlank_24 (by decide) ?_
      refine lv_goto (tgt := 29) hx hb d_Txt_isBlank_25 (by decide) ?_
      exact W.zret (v := (nI 1)) hx hb hr (by first | rfl | decide | exact sb_nar) (fun t ht hW => ⟨_, rfl, (sb_t (by omega)).symm, ht⟩) (fun _ h => by cases h) d_Txt_isBlank_29
    · have c3 := mt (nI_eq (by omega) (by omega)).mpr c3
      refine lv_iload_n hx hb d_Txt_isBlank_18 rfl (lv_at hl 0 rfl) ?_
      refine lv_bipush (v := (nI 32)) hx hb d_Txt_isBlank_19 (by decide) ?_
      refine lv_icmp_ne (tgt := 28) hx hb d_Txt_isBlank_21 (by decide) (fun c4 => ?_) (fun c4 => ?_)
      · have c4 := mt (nI_eq (by omega) (by omega)).mpr c4
        refine lv_iconst (v := (nI 0)) hx hb d_Txt_isBlank_28 (by decide) ?_
        exact W.zret (v := (nI 0)) hx hb hr (by first | rfl | decide | exact sb_nar) (fun t ht hW => ⟨_, rfl, (sb_f (by omega)).symm, ht⟩) (fun _ h => by cases h) d_Txt_isBlank_29
      · have c4 := (nI_eq (by omega) (by omega)).mp c4
        refine lv_iconst (v := (nI 1)) hx hb d_Txt_isBlank_24 (by decide) ?_
        refine lv_goto (tgt := 29) hx hb d_Txt_isBlank_25 (by decide) ?_
        exact W.zret (v := (nI 1)) hx hb hr (by first | rfl | decide | exact sb_nar) (fun t ht hW => ⟨_, rfl, (sb_t (by omega)).symm, ht⟩) (fun _ h => by cases h) d_Txt_isBlank_29
set_option maxHeartbeats 4000000 in
set_option maxRecDepth 100000 in
/-- isComment(i) -/
theorem c_Txt_isComment (l : Launch) (g : sdG) (q1 q5 n : Nat) (f : Nat → Int32) (tx : Nat → Nat) (hT : TXok n f tx) (i : Nat) (hi : i < 2 ^ 30) : Met l y_Txt_isComment (.code y_Txt_isComment b_Txt_isComment 2 (some .boolean) :: sdT) ({ frames := 1, cells := 0, slots := 0, locals := 21 }) (va_Pc [.ref q1, .int (nI i)] (sdR g [(q1, .inr (6, [.ref q5, .int (nI n)])), (q5, .inl (gB g, 2000, .inl f))])) (vp_Si (fun r => r = sb (tx i = 47 ∧ tx (i + 1) = 47))) 0 0 (fun _ => False) := by
  refine Met.ofW (cc := b_Txt_isComment) (maxL := 2) (ret := (some .boolean)) (by decide) rfl ?_
  intro p ev s m args below meth c s₁ B hml hv
  obtain ⟨rfl, hP, hK, hE⟩ := hv
  have hx := B.exec
  have hb := B.bytes
  have hr := B.returns
  have hts := fun (w : Cond) (h : w ∈ sdT) => atoms_spec (ws := (.code y_Txt_isComment b_Txt_isComment 2 (some .boolean) :: sdT)) B.pre w (List.mem_cons_of_mem _ h)
  have hown : s.vm.findClass "SignDesk$Text" = some m.cls := findClass_of_methodNamed B.named
  have hlocks := B.notSynchronized
  have hF : ∀ a : Nat, a < s.heap.size → ¬ sdA g a → s.heap[a]? = s.heap[a]? := fun _ _ _ => rfl
  have hP : sdP g [(q1, .inr (6, [.ref q5, .int (nI n)])), (q5, .inl (gB g, 2000, .inl f))] s.heap := hP
  have hl := lv_entry ([.ref q1, .int (nI i)]) (n := 2) (Nat.le_of_ble_eq_true rfl)
  rw [lg_entry_eq]
  generalize (lg_sl ([.ref q1, .int (nI i)]) ++ List.replicate (2 - (lg_sl ([.ref q1, .int (nI i)])).length) Slot.unset).toArray = ls at hl ⊢
  have hl : lv_has ls 2 [(0, .ref q1), (1, .int (nI i))] := hl
  have hn := hT.1
  have hb8 := hT.2.1
  refine lv_aload_n hx hb d_Txt_isComment_0 rfl (lv_at hl 0 rfl) ?_
  refine lv_iload_n hx hb d_Txt_isComment_1 rfl (lv_at hl 1 rfl) ?_
  refine sd_ri (va_runV (As := [.int (nI i)]) (rest := []) ⟨hx, hb, hml, hown, hts⟩ (c_Txt_byteAt l g q1 q5 n f tx hT (i) (by omega)) (cwV 1 hts (sd_gV k_200 k_201 k_202 k_24 k_203) rfl rfl rfl (by decide +kernel) ⟨Nat.le_of_ble_eq_true rfl, Nat.le_of_ble_eq_true rfl⟩) (sd_preV hK hE hF (hP.sub (ws' := [(q1, .inr (6, [.ref q5, .int (nI n)])), (q5, .inl (gB g, 2000, .inl f))]) [0, 1] rfl) rfl rfl) rfl rfl hl.1 rfl (lv_room (Nat.le_of_ble_eq_true rfl)) d_Txt_isComment_2 ⟨Nat.zero_le _, Nat.zero_le _⟩) (fun r1 er1 => ?_)
  subst er1
  have hb8i := hb8 (i)
  refine lv_bipush (v := (nI 47)) hx hb d_Txt_isComment_5 (by decide) ?_
  refine lv_icmp_ne (tgt := 26) hx hb d_Txt_isComment_7 (by decide) (fun c2 => ?_) (fun c2 => ?_)
  · have c2 := mt (nI_eq (by omega) (by omega)).mpr c2
    refine lv_iconst (v := (nI 0)) hx hb d_Txt_isComment_26 (by decide) ?_
    exact W.zret (v := (nI 0)) hx hb hr (by first | rfl | decide | exact sb_nar) (fun t ht hW => ⟨_, rfl, (sb_f (by omega)).symm, ht⟩) (fun _ h => by cases h) d_Txt_isComment_27
  · have c2 := (nI_eq (by omega) (by omega)).mp c2
    refine lv_aload_n hx hb d_Txt_isComment_10 rfl (lv_at hl 0 rfl) ?_
    refine lv_iload_n hx hb d_Txt_isComment_11 rfl (lv_at hl 1 rfl) ?_
    refine lv_iconst (v := (nI 1)) hx hb d_Txt_isComment_12 (by decide) ?_
    refine lv_iadd hx hb d_Txt_isComment_13 ?_
    refine sd_topi (y := nI (i + 1)) (nI_add _ _) ?_
    refine sd_ri (va_runV (As := [.int (nI (i + 1))]) (rest := []) ⟨hx, hb, hml, hown, hts⟩ (c_Txt_byteAt l g q1 q5 n f tx hT (i + 1) (by omega)) (cwV 1 hts (sd_gV k_200 k_201 k_202 k_24 k_203) rfl rfl rfl (by decide +kernel) ⟨Nat.le_of_ble_eq_true rfl, Nat.le_of_ble_eq_true rfl⟩) (sd_preV hK hE hF (hP.sub (ws' := [(q1, .inr (6, [.ref q5, .int (nI n)])), (q5, .inl (gB g, 2000, .inl f))]) [0, 1] rfl) rfl rfl) rfl rfl hl.1 rfl (lv_room (Nat.le_of_ble_eq_true rfl)) d_Txt_isComment_14 ⟨Nat.zero_le _, Nat.zero_le _⟩) (fun r3 er3 => ?_)
    subst er3
    have hb8i := hb8 (i + 1)
    refine lv_bipush (v := (nI 47)) hx hb d_Txt_isComment_17 (by decide) ?_
    refine lv_icmp_ne (tgt := 26) hx hb d_Txt_isComment_19 (by decide) (fun c4 => ?_) (fun c4 => ?_)
    · have c4 := mt (nI_eq (by omega) (by omega)).mpr c4
      refine lv_iconst (v := (nI 0)) hx hb d_Txt_isComment_26 (by decide) ?_
      exact W.zret (v := (nI 0)) hx hb hr (by first | rfl | decide | exact sb_nar) (fun t ht hW => ⟨_, rfl, (sb_f (by omega)).symm, ht⟩) (fun _ h => by cases h) d_Txt_isComment_27
    · have c4 := (nI_eq (by omega) (by omega)).mp c4
      refine lv_iconst (v := (nI 1)) hx hb d_Txt_isComment_22 (by decide) ?_
      refine lv_goto (tgt := 27) hx hb d_Txt_isComment_23 (by decide) ?_
      exact W.zret (v := (nI 1)) hx hb hr (by first | rfl | decide | exact sb_nar) (fun t ht hW => ⟨_, rfl, (sb_t (by omega)).symm, ht⟩) (fun _ h => by cases h) d_Txt_isComment_27
set_option maxHeartbeats 4000000 in
set_option maxRecDepth 100000 in
/-- isDigit(c) -/
theorem c_Txt_isDigit (l : Launch) (k : Nat) (hk : k < 256) : Met l y_Txt_isDigit (.code y_Txt_isDigit b_Txt_isDigit 1 (some .boolean) :: sdT) ({ frames := 0, cells := 0, slots := 0, locals := 0 }) (fun v _ => v = ([.int (nI k)] : List Value).toArray) (vp_Si (fun r => r = sb (48 ≤ k ∧ k ≤ 57))) 0 0 (fun _ => False) := by
  refine Met.ofW (cc := b_Txt_isDigit) (maxL := 1) (ret := (some .boolean)) (by decide) rfl ?_
  intro p e s m args below meth c s₁ B hml hv
  subst hv
  have hx := B.exec
  have hb := B.bytes
  have hr := B.returns
  have hts := fun (w : Cond) (h : w ∈ sdT) => atoms_spec (ws := (.code y_Txt_isDigit b_Txt_isDigit 1 (some .boolean) :: sdT)) B.pre w (List.mem_cons_of_mem _ h)
  have hown : s.vm.findClass "SignDesk$Text" = some m.cls := findClass_of_methodNamed B.named
  have hlocks := B.notSynchronized
  have hl := lv_entry ([.int (nI k)]) (n := 1) (Nat.le_of_ble_eq_true rfl)
  rw [lg_entry_eq]
  generalize (lg_sl ([.int (nI k)]) ++ List.replicate (1 - (lg_sl ([.int (nI k)])).length) Slot.unset).toArray = ls at hl ⊢
  have hl : lv_has ls 1 [(0, .int (nI k))] := hl
  refine lv_iload_n hx hb d_Txt_isDigit_0 rfl (lv_at hl 0 rfl) ?_
  refine lv_bipush (v := (nI 48)) hx hb d_Txt_isDigit_1 (by decide) ?_
  refine lv_icmp_lt (tgt := 16) hx hb d_Txt_isDigit_3 (by decide) (fun c1 => ?_) (fun c1 => ?_)
  · have c1 := (nI_ltI (by omega) (by omega)).mp c1
    refine lv_iconst (v := (nI 0)) hx hb d_Txt_isDigit_16 (by decide) ?_
    exact W.zret (v := (nI 0)) hx hb hr (by first | rfl | decide | exact sb_nar) (fun t ht hW => ⟨_, rfl, (sb_f (by omega)).symm, ht⟩) (fun _ h => by cases h) d_Txt_isDigit_17
  · have c1 := mt (nI_ltI (by omega) (by omega)).mpr c1
    refine lv_iload_n hx hb d_Txt_isDigit_6 rfl (lv_at hl 0 rfl) ?_
    refine lv_bipush (v := (nI 57)) hx hb d_Txt_isDigit_7 (by decide) ?_
    refine lv_icmp_gt (tgt := 16) hx hb d_Txt_isDigit_9 (by decide) (fun c2 => ?_) (fun c2 => ?_)
    · have c2 := (nI_ltI (by omega) (by omega)).mp c2
      refine lv_iconst (v := (nI 0)) hx hb d_Txt_isDigit_16 (by decide) ?_
      exact W.zret (v := (nI 0)) hx hb hr (by first | rfl | decide | exact sb_nar) (fun t ht hW => ⟨_, rfl, (sb_f (by omega)).symm, ht⟩) (fun _ h => by cases h) d_Txt_isDigit_17
    · have c2 := mt (nI_ltI (by omega) (by omega)).mpr c2
      refine lv_iconst (v := (nI 1)) hx hb d_Txt_isDigit_12 (by decide) ?_
      refine lv_goto (tgt := 17) hx hb d_Txt_isDigit_13 (by decide) ?_
      exact W.zret (v := (nI 1)) hx hb hr (by first | rfl | decide | exact sb_nar) (fun t ht hW => ⟨_, rfl, (sb_t (by omega)).symm, ht⟩) (fun _ h => by cases h) d_Txt_isDigit_17
end
section
/-- a digit -/
def isDg (k : Nat) : Prop := 48 ≤ k ∧ k ≤ 57
/-- a sign of symbols -/
def isSy (k : Nat) : Prop := (65 ≤ k ∧ k ≤ 90) ∨ (97 ≤ k ∧ k ≤ 122) ∨ (48 ≤ k ∧ k ≤ 57) ∨ k = 95 ∨ k = 46 ∨ k = 36 ∨ k = 58
/-- where an instruction ends -/
def isSt (tx : Nat → Nat) (i : Nat) : Prop := tx i = 10 ∨ (tx i = 9 ∨ tx i = 13 ∨ tx i = 32) ∨ (tx i = 47 ∧ tx (i + 1) = 47)
set_option maxHeartbeats 4000000 in
set_option maxRecDepth 100000 in
/-- isSymbolSign(c) -/
theorem c_Txt_isSymbolSign (l : Launch) (k : Nat) (hk : k < 256) : Met l y_Txt_isSymbolSign (.code y_Txt_isSymbolSign b_Txt_isSymbolSign 1 (some .boolean) :: sdT) ({ frames := 1, cells := 0, slots := 0, locals := 20 }) (fun v _ => v = ([.int (nI k)] : List Value).toArray) (vp_Si (fun r => r = sb (isSy k))) 0 0 (fun _ => False) := by
  refine Met.ofW (cc := b_Txt_isSymbolSign) (maxL := 1) (ret := (some .boolean)) (by decide) rfl ?_
  intro p e s m args below meth c s₁ B hml hv
  subst hv
  have hx := B.exec
  have hb := B.bytes
  have hr := B.returns
  have hts := fun (w : Cond) (h : w ∈ sdT) => atoms_spec (ws := (.code y_Txt_isSymbolSign b_Txt_isSymbolSign 1 (some .boolean) :: sdT)) B.pre w (List.mem_cons_of_mem _ h)
  have hown : s.vm.findClass "SignDesk$Text" = some m.cls := findClass_of_methodNamed B.named
  have hlocks := B.notSynchronized
  have hl := lv_entry ([.int (nI k)]) (n := 1) (Nat.le_of_ble_eq_true rfl)
  rw [lg_entry_eq]
  generalize (lg_sl ([.int (nI k)]) ++ List.replicate (1 - (lg_sl ([.int (nI k)])).length) Slot.unset).toArray = ls at hl ⊢
  have hl : lv_has ls 1 [(0, .int (nI k))] := hl
  refine lv_iload_n hx hb d_Txt_isSymbolSign_0 rfl (lv_at hl 0 rfl) ?_
  refine lv_bipush (v := (nI 65)) hx hb d_Txt_isSymbolSign_1 (by decide) ?_
  refine lv_icmp_lt (tgt := 12) hx hb d_Txt_isSymbolSign_3 (by decide) (fun c1 => ?_) (fun c1 => ?_)
  · have c1 := (nI_ltI (by omega) (by omega)).mp c1
    refine lv_iload_n hx hb d_Txt_isSymbolSign_12 rfl (lv_at hl 0 rfl) ?_
    refine lv_bipush (v := (nI 97)) hx hb d_Txt_isSymbolSign_13 (by decide) ?_
    refine lv_icmp_lt (tgt := 24) hx hb d_Txt_isSymbolSign_15 (by decide) (fun c2 => ?_) (fun c2 => ?_)
    · have c2 := (nI_ltI (by omega) (by omega)).mp c2
      refine lv_iload_n hx hb d_Txt_isSymbolSign_24 rfl (lv_at hl 0 rfl) ?_
      refine sd_ri (va_runS (As := [.int (nI k)]) (rest := []) ⟨hx, hb, hml, hown, hts⟩ (c_Txt_isDigit l k hk) (va_cwS 1 hts (sd_gS k_236 k_237 k_24 k_238) rfl rfl rfl (by decide +kernel) ⟨Nat.le_of_ble_eq_true rfl, Nat.le_of_ble_eq_true rfl⟩) preEq rfl rfl hl.1 rfl (lv_room (Nat.le_of_ble_eq_true rfl)) d_Txt_isSymbolSign_25 ⟨Nat.zero_le _, Nat.zero_le _⟩) (fun r3 er3 => ?_)
      subst er3
      refine lv_if_ne (tgt := 55) hx hb d_Txt_isSymbolSign_28 (by decide) (fun c4 => ?_) (fun c4 => ?_)
      · have c4 := sb_ne0.mp c4
        refine lv_iconst (v := (nI 1)) hx hb d_Txt_isSymbolSign_55 (by decide) ?_
        refine lv_goto (tgt := 60) hx hb d_Txt_isSymbolSign_56 (by decide) ?_
        exact W.zret (v := (nI 1)) hx hb hr (by first | rfl | decide | exact sb_nar) (fun t ht hW => ⟨_, rfl, (sb_t (by unfold isSy; omega)).symm, ht⟩) (fun _ h => by cases h) d_Txt_isSymbolSign_60
      · have c4 := sb_eq0.mp c4
        refine lv_iload_n hx hb d_Txt_isSymbolSign_31 rfl (lv_at hl 0 rfl) ?_
        refine lv_bipush (v := (nI 95)) hx hb d_Txt_isSymbolSign_32 (by decide) ?_
        refine lv_icmp_eq (tgt := 55) hx hb d_Txt_isSymbolSign_34 (by decide) (fun c5 => ?_) (fun c5 => ?_)
        · have c5 := (nI_eq (by omega) (by omega)).mp c5
          refine lv_iconst (v := (nI 1)) hx hb d_Txt_isSymbolSign_55 (by decide) ?_
          refine lv_goto (tgt := 60) hx hb d_Txt_isSymbolSign_56 (by decide) ?_
          exact W.zret (v := (nI 1)) hx hb hr (by first | rfl | decide | exact sb_nar) (fun t ht hW => ⟨_, rfl, (sb_t (by unfold isSy; omega)).symm, ht⟩) (fun _ h => by cases h) d_Txt_isSymbolSign_60
        · have c5 := mt (nI_eq (by omega) (by omega)).mpr c5
          refine lv_iload_n hx hb d_Txt_isSymbolSign_37 rfl (lv_at hl 0 rfl) ?_
          refine lv_bipush (v := (nI 46)) hx hb d_Txt_isSymbolSign_38 (by decide) ?_
          refine lv_icmp_eq (tgt := 55) hx hb d_Txt_isSymbolSign_40 (by decide) (fun c6 => ?_) (fun c6 => ?_)
          · have c6 := (nI_eq (by omega) (by omega)).mp c6
            refine lv_iconst (v := (nI 1)) hx hb d_Txt_isSymbolSign_55 (by decide) ?_
            refine lv_goto (tgt := 60) hx hb d_Txt_isSymbolSign_56 (by decide) ?_
            exact W.zret (v := (nI 1)) hx hb hr (by first | rfl | decide | exact sb_nar) (fun t ht hW => ⟨_, rfl, (sb_t (by unfold isSy; omega)).symm, ht⟩) (fun _ h => by cases h) d_Txt_isSymbolSign_60
          · have c6 := mt (nI_eq (by omega) (by omega)).mpr c6
            refine lv_iload_n hx hb d_Txt_isSymbolSign_43 rfl (lv_at hl 0 rfl) ?_
            refine lv_bipush (v := (nI 36)) hx hb d_Txt_isSymbolSign_44 (by decide) ?_
            refine lv_icmp_eq (tgt := 55) hx hb d_Txt_isSymbolSign_46 (by decide) (fun c7 => ?_) (fun c7 => ?_)
            · have c7 := (nI_eq (by omega) (by omega)).mp c7
              refine lv_iconst (v := (nI 1)) hx hb d_Txt_isSymbolSign_55 (by decide) ?_
              refine lv_goto (tgt := 60) hx hb d_Txt_isSymbolSign_56 (by decide) ?_
              exact W.zret (v := (nI 1)) hx hb hr (by first | rfl | decide | exact sb_nar) (fun t ht hW => ⟨_, rfl, (sb_t (by unfold isSy; omega)).symm, ht⟩) (fun _ h => by cases h) d_Txt_isSymbolSign_60
            · have c7 := mt (nI_eq (by omega) (by omega)).mpr c7
              refine lv_iload_n hx hb d_Txt_isSymbolSign_49 rfl (lv_at hl 0 rfl) ?_
              refine lv_bipush (v := (nI 58)) hx hb d_Txt_isSymbolSign_50 (by decide) ?_
              refine lv_icmp_ne (tgt := 59) hx hb d_Txt_isSymbolSign_52 (by decide) (fun c8 => ?_) (fun c8 => ?_)
              · have c8 := mt (nI_eq (by omega) (by omega)).mpr c8
                refine lv_iconst (v := (nI 0)) hx hb d_Txt_isSymbolSign_59 (by decide) ?_
                exact W.zret (v := (nI 0)) hx hb hr (by first | rfl | decide | exact sb_nar) (fun t ht hW => ⟨_, rfl, (sb_f (by unfold isSy; omega)).symm, ht⟩) (fun _ h => by cases h) d_Txt_isSymbolSign_60
              · have c8 := (nI_eq (by omega) (by omega)).mp c8
                refine lv_iconst (v := (nI 1)) hx hb d_Txt_isSymbolSign_55 (by decide) ?_
                refine lv_goto (tgt := 60) hx hb d_Txt_isSymbolSign_56 (by decide) ?_
                exact W.zret (v := (nI 1)) hx hb hr (by first | rfl | decide | exact sb_nar) (fun t ht hW => ⟨_, rfl, (sb_t (by unfold isSy; omega)).symm, ht⟩) (fun _ h => by cases h) d_Txt_isSymbolSign_60
    · have c2 := mt (nI_ltI (by omega) (by omega)).mpr c2
      refine lv_iload_n hx hb d_Txt_isSymbolSign_18 rfl (lv_at hl 0 rfl) ?_
      refine lv_bipush (v := (nI 122)) hx hb d_Txt_isSymbolSign_19 (by decide) ?_
      refine lv_icmp_le (tgt := 55) hx hb d_Txt_isSymbolSign_21 (by decide) (fun c9 => ?_) (fun c9 => ?_)
      · have c9 := (nI_leI (by omega) (by omega)).mp c9
        refine lv_iconst (v := (nI 1)) hx hb d_Txt_isSymbolSign_55 (by decide) ?_
        refine lv_goto (tgt := 60) hx hb d_Txt_isSymbolSign_56 (by decide) ?_
        exact W.zret (v := (nI 1)) hx hb hr (by first | rfl | decide | exact sb_nar) (fun t ht hW => ⟨_, rfl, (sb_t (by unfold isSy; omega)).symm, ht⟩) (fun _ h => by cases h) d_Txt_isSymbolSign_60
      · have c9 := mt (nI_leI (by omega) (by omega)).mpr c9
        refine lv_iload_n hx hb d_Txt_isSymbolSign_24 rfl (lv_at hl 0 rfl) ?_
        refine sd_ri (va_runS (As := [.int (nI k)]) (rest := []) ⟨hx, hb, hml, hown, hts⟩ (c_Txt_isDigit l k hk) (va_cwS 1 hts (sd_gS k_236 k_237 k_24 k_238) rfl rfl rfl (by decide +kernel) ⟨Nat.le_of_ble_eq_true rfl, Nat.le_of_ble_eq_true rfl⟩) preEq rfl rfl hl.1 rfl (lv_room (Nat.le_of_ble_eq_true rfl)) d_Txt_isSymbolSign_25 ⟨Nat.zero_le _, Nat.zero_le _⟩) (fun r10 er10 => ?_)
        subst er10
        refine lv_if_ne (tgt := 55) hx hb d_Txt_isSymbolSign_28 (by decide) (fun c11 => ?_) (fun c11 => ?_)
        · have c11 := sb_ne0.mp c11
          refine lv_iconst (v := (nI 1)) hx hb d_Txt_isSymbolSign_55 (by decide) ?_
          refine lv_goto (tgt := 60) hx hb d_Txt_isSymbolSign_56 (by decide) ?_
          exact W.zret (v := (nI 1)) hx hb hr (by first | rfl | decide | exact sb_nar) (fun t ht hW => ⟨_, rfl, (sb_t (by unfold isSy; omega)).symm, ht⟩) (fun _ h => by cases h) d_Txt_isSymbolSign_60
        · have c11 := sb_eq0.mp c11
          refine lv_iload_n hx hb d_Txt_isSymbolSign_31 rfl (lv_at hl 0 rfl) ?_
          refine lv_bipush (v := (nI 95)) hx hb d_Txt_isSymbolSign_32 (by decide) ?_
          refine lv_icmp_eq (tgt := 55) hx hb d_Txt_isSymbolSign_34 (by decide) (fun c12 => ?_) (fun c12 => ?_)
          · have c12 := (nI_eq (by omega) (by omega)).mp c12
            refine lv_iconst (v := (nI 1)) hx hb d_Txt_isSymbolSign_55 (by decide) ?_
            refine lv_goto (tgt := 60) hx hb d_Txt_isSymbolSign_56 (by decide) ?_
            exact W.zret (v := (nI 1)) hx hb hr (by first | rfl | decide | exact sb_nar) (fun t ht hW => ⟨_, rfl, (sb_t (by unfold isSy; omega)).symm, ht⟩) (fun _ h => by cases h) d_Txt_isSymbolSign_60
          · have c12 := mt (nI_eq (by omega) (by omega)).mpr c12
            refine lv_iload_n hx hb d_Txt_isSymbolSign_37 rfl (lv_at hl 0 rfl) ?_
            refine lv_bipush (v := (nI 46)) hx hb d_Txt_isSymbolSign_38 (by decide) ?_
            refine lv_icmp_eq (tgt := 55) hx hb d_Txt_isSymbolSign_40 (by decide) (fun c13 => ?_) (fun c13 => ?_)
            · have c13 := (nI_eq (by omega) (by omega)).mp c13
              refine lv_iconst (v := (nI 1)) hx hb d_Txt_isSymbolSign_55 (by decide) ?_
              refine lv_goto (tgt := 60) hx hb d_Txt_isSymbolSign_56 (by decide) ?_
              exact W.zret (v := (nI 1)) hx hb hr (by first | rfl | decide | exact sb_nar) (fun t ht hW => ⟨_, rfl, (sb_t (by unfold isSy; omega)).symm, ht⟩) (fun _ h => by cases h) d_Txt_isSymbolSign_60
            · have c13 := mt (nI_eq (by omega) (by omega)).mpr c13
              refine lv_iload_n hx hb d_Txt_isSymbolSign_43 rfl (lv_at hl 0 rfl) ?_
              refine lv_bipush (v := (nI 36)) hx hb d_Txt_isSymbolSign_44 (by decide) ?_
              refine lv_icmp_eq (tgt := 55) hx hb d_Txt_isSymbolSign_46 (by decide) (fun c14 => ?_) (fun c14 => ?_)
              · have c14 := (nI_eq (by omega) (by omega)).mp c14
                refine lv_iconst (v := (nI 1)) hx hb d_Txt_isSymbolSign_55 (by decide) ?_
                refine lv_goto (tgt := 60) hx hb d_Txt_isSymbolSign_56 (by decide) ?_
                exact W.zret (v := (nI 1)) hx hb hr (by first | rfl | decide | exact sb_nar) (fun t ht hW => ⟨_, rfl, (sb_t (by unfold isSy; omega)).symm, ht⟩) (fun _ h => by cases h) d_Txt_isSymbolSign_60
              · have c14 := mt (nI_eq (by omega) (by omega)).mpr c14
                refine lv_iload_n hx hb d_Txt_isSymbolSign_49 rfl (lv_at hl 0 rfl) ?_
                refine lv_bipush (v := (nI 58)) hx hb d_Txt_isSymbolSign_50 (by decide) ?_
                refine lv_icmp_ne (tgt := 59) hx hb d_Txt_isSymbolSign_52 (by decide) (fun c15 => ?_) (fun c15 => ?_)
                · have c15 := mt (nI_eq (by omega) (by omega)).mpr c15
                  refine lv_iconst (v := (nI 0)) hx hb d_Txt_isSymbolSign_59 (by decide) ?_
                  exact W.zret (v := (nI 0)) hx hb hr (by first | rfl | decide | exact sb_nar) (fun t ht hW => ⟨_, rfl, (sb_f (by unfold isSy; omega)).symm, ht⟩) (fun _ h => by cases h) d_Txt_isSymbolSign_60
                · have c15 := (nI_eq (by omega) (by omega)).mp c15
                  refine lv_iconst (v := (nI 1)) hx hb d_Txt_isSymbolSign_55 (by decide) ?_
                  refine lv_goto (tgt := 60) hx hb d_Txt_isSymbolSign_56 (by decide) ?_
                  exact W.zret (v := (nI 1)) hx hb hr (by first | rfl | decide | exact sb_nar) (fun t ht hW => ⟨_, rfl, (sb_t (by unfold isSy; omega)).symm, ht⟩) (fun _ h => by cases h) d_Txt_isSymbolSign_60
  · have c1 := mt (nI_ltI (by omega) (by omega)).mpr c1
    refine lv_iload_n hx hb d_Txt_isSymbolSign_6 rfl (lv_at hl 0 rfl) ?_
    refine lv_bipush (v := (nI 90)) hx hb d_Txt_isSymbolSign_7 (by decide) ?_
    refine lv_icmp_le (tgt := 55) hx hb d_Txt_isSymbolSign_9 (by decide) (fun c16 => ?_) (fun c16 => ?_)
    · have c16 := (nI_leI (by omega) (by omega)).mp c16
      refine lv_iconst (v := (nI 1)) hx hb d_Txt_isSymbolSign_55 (by decide) ?_
      refine lv_goto (tgt := 60) hx hb d_Txt_isSymbolSign_56 (by decide) ?_
      exact W.zret (v := (nI 1)) hx hb hr (by first | rfl | decide | exact sb_nar) (fun t ht hW => ⟨_, rfl, (sb_t (by unfold isSy; omega)).symm, ht⟩) (fun _ h => by cases h) d_Txt_isSymbolSign_60
    · have c16 := mt (nI_leI (by omega) (by omega)).mpr c16
      refine lv_iload_n hx hb d_Txt_isSymbolSign_12 rfl (lv_at hl 0 rfl) ?_
      refine lv_bipush (v := (nI 97)) hx hb d_Txt_isSymbolSign_13 (by decide) ?_
      refine lv_icmp_lt (tgt := 24) hx hb d_Txt_isSymbolSign_15 (by decide) (fun c17 => ?_) (fun c17 => ?_)
      · have c17 := (nI_ltI (by omega) (by omega)).mp c17
        refine lv_iload_n hx hb d_Txt_isSymbolSign_24 rfl (lv_at hl 0 rfl) ?_
        refine sd_ri (va_runS (As := [.int (nI k)]) (rest := []) ⟨hx, hb, hml, hown, hts⟩ (c_Txt_isDigit l k hk) (va_cwS 1 hts (sd_gS k_236 k_237 k_24 k_238) rfl rfl rfl (by decide +kernel) ⟨Nat.le_of_ble_eq_true rfl, Nat.le_of_ble_eq_true rfl⟩) preEq rfl rfl hl.1 rfl (lv_room (Nat.le_of_ble_eq_true rfl)) d_Txt_isSymbolSign_25 ⟨Nat.zero_le _, Nat.zero_le _⟩) (fun r18 er18 => ?_)
        subst er18
        refine lv_if_ne (tgt := 55) hx hb d_Txt_isSymbolSign_28 (by decide) (fun c19 => ?_) (fun c19 => ?_)
        · have c19 := sb_ne0.mp c19
          refine lv_iconst (v := (nI 1)) hx hb d_Txt_isSymbolSign_55 (by decide) ?_
          refine lv_goto (tgt := 60) hx hb d_Txt_isSymbolSign_56 (by decide) ?_
          exact W.zret (v := (nI 1)) hx hb hr (by first | rfl | decide | exact sb_nar) (fun t ht hW => ⟨_, rfl, (sb_t (by unfold isSy; omega)).symm, ht⟩) (fun _ h => by cases h) d_Txt_isSymbolSign_60
        · have c19 := sb_eq0.mp c19
          refine lv_iload_n hx hb d_Txt_isSymbolSign_31 rfl (lv_at hl 0 rfl) ?_
          refine lv_bipush (v := (nI 95)) hx hb d_Txt_isSymbolSign_32 (by decide) ?_
          refine lv_icmp_eq (tgt := 55) hx hb d_Txt_isSymbolSign_34 (by decide) (fun c20 => ?_) (fun c20 => ?_)
          · have c20 := (nI_eq (by omega) (by omega)).mp c20
            refine lv_iconst (v := (nI 1)) hx hb d_Txt_isSymbolSign_55 (by decide) ?_
            refine lv_goto (tgt := 60) hx hb d_Txt_isSymbolSign_56 (by decide) ?_
            exact W.zret (v := (nI 1)) hx hb hr (by first | rfl | decide | exact sb_nar) (fun t ht hW => ⟨_, rfl, (sb_t (by unfold isSy; omega)).symm, ht⟩) (fun _ h => by cases h) d_Txt_isSymbolSign_60
          · have c20 := mt (nI_eq (by omega) (by omega)).mpr c20
            refine lv_iload_n hx hb d_Txt_isSymbolSign_37 rfl (lv_at hl 0 rfl) ?_
            refine lv_bipush (v := (nI 46)) hx hb d_Txt_isSymbolSign_38 (by decide) ?_
            refine lv_icmp_eq (tgt := 55) hx hb d_Txt_isSymbolSign_40 (by decide) (fun c21 => ?_) (fun c21 => ?_)
            · have c21 := (nI_eq (by omega) (by omega)).mp c21
              refine lv_iconst (v := (nI 1)) hx hb d_Txt_isSymbolSign_55 (by decide) ?_
              refine lv_goto (tgt := 60) hx hb d_Txt_isSymbolSign_56 (by decide) ?_
              exact W.zret (v := (nI 1)) hx hb hr (by first | rfl | decide | exact sb_nar) (fun t ht hW => ⟨_, rfl, (sb_t (by unfold isSy; omega)).symm, ht⟩) (fun _ h => by cases h) d_Txt_isSymbolSign_60
            · have c21 := mt (nI_eq (by omega) (by omega)).mpr c21
              refine lv_iload_n hx hb d_Txt_isSymbolSign_43 rfl (lv_at hl 0 rfl) ?_
              refine lv_bipush (v := (nI 36)) hx hb d_Txt_isSymbolSign_44 (by decide) ?_
              refine lv_icmp_eq (tgt := 55) hx hb d_Txt_isSymbolSign_46 (by decide) (fun c22 => ?_) (fun c22 => ?_)
              · have c22 := (nI_eq (by omega) (by omega)).mp c22
                refine lv_iconst (v := (nI 1)) hx hb d_Txt_isSymbolSign_55 (by decide) ?_
                refine lv_goto (tgt := 60) hx hb d_Txt_isSymbolSign_56 (by decide) ?_
                exact W.zret (v := (nI 1)) hx hb hr (by first | rfl | decide | exact sb_nar) (fun t ht hW => ⟨_, rfl, (sb_t (by unfold isSy; omega)).symm, ht⟩) (fun _ h => by cases h) d_Txt_isSymbolSign_60
              · have c22 := mt (nI_eq (by omega) (by omega)).mpr c22
                refine lv_iload_n hx hb d_Txt_isSymbolSign_49 rfl (lv_at hl 0 rfl) ?_
                refine lv_bipush (v := (nI 58)) hx hb d_Txt_isSymbolSign_50 (by decide) ?_
                refine lv_icmp_ne (tgt := 59) hx hb d_Txt_isSymbolSign_52 (by decide) (fun c23 => ?_) (fun c23 => ?_)
                · have c23 := mt (nI_eq (by omega) (by omega)).mpr c23
                  refine lv_iconst (v := (nI 0)) hx hb d_Txt_isSymbolSign_59 (by decide) ?_
                  exact W.zret (v := (nI 0)) hx hb hr (by first | rfl | decide | exact sb_nar) (fun t ht hW => ⟨_, rfl, (sb_f (by unfold isSy; omega)).symm, ht⟩) (fun _ h => by cases h) d_Txt_isSymbolSign_60
                · have c23 := (nI_eq (by omega) (by omega)).mp c23
                  refine lv_iconst (v := (nI 1)) hx hb d_Txt_isSymbolSign_55 (by decide) ?_
                  refine lv_goto (tgt := 60) hx hb d_Txt_isSymbolSign_56 (by decide) ?_
                  exact W.zret (v := (nI 1)) hx hb hr (by first | rfl | decide | exact sb_nar) (fun t ht hW => ⟨_, rfl, (sb_t (by unfold isSy; omega)).symm, ht⟩) (fun _ h => by cases h) d_Txt_isSymbolSign_60
      · have c17 := mt (nI_ltI (by omega) (by omega)).mpr c17
        refine lv_iload_n hx hb d_Txt_isSymbolSign_18 rfl (lv_at hl 0 rfl) ?_
        refine lv_bipush (v := (nI 122)) hx hb d_Txt_isSymbolSign_19 (by decide) ?_
        refine lv_icmp_le (tgt := 55) hx hb d_Txt_isSymbolSign_21 (by decide) (fun c24 => ?_) (fun c24 => ?_)
        · have c24 := (nI_leI (by omega) (by omega)).mp c24
          refine lv_iconst (v := (nI 1)) hx hb d_Txt_isSymbolSign_55 (by decide) ?_
          refine lv_goto (tgt := 60) hx hb d_Txt_isSymbolSign_56 (by decide) ?_
          exact W.zret (v := (nI 1)) hx hb hr (by first | rfl | decide | exact sb_nar) (fun t ht hW => ⟨_, rfl, (sb_t (by unfold isSy; omega)).symm, ht⟩) (fun _ h => by cases h) d_Txt_isSymbolSign_60
        · have c24 := mt (nI_leI (by omega) (by omega)).mpr c24
          refine lv_iload_n hx hb d_Txt_isSymbolSign_24 rfl (lv_at hl 0 rfl) ?_
          refine sd_ri (va_runS (As := [.int (nI k)]) (rest := []) ⟨hx, hb, hml, hown, hts⟩ (c_Txt_isDigit l k hk) (va_cwS 1 hts (sd_gS k_236 k_237 k_24 k_238) rfl rfl rfl (by decide +kernel) ⟨Nat.le_of_ble_eq_true rfl, Nat.le_of_ble_eq_true rfl⟩) preEq rfl rfl hl.1 rfl (lv_room (Nat.le_of_ble_eq_true rfl)) d_Txt_isSymbolSign_25 ⟨Nat.zero_le _, Nat.zero_le _⟩) (fun r25 er25 => ?_)
          subst er25
          refine lv_if_ne (tgt := 55) hx hb d_Txt_isSymbolSign_28 (by decide) (fun c26 => ?_) (fun c26 => ?_)
          · have c26 := sb_ne0.mp c26
            refine lv_iconst (v := (nI 1)) hx hb d_Txt_isSymbolSign_55 (by decide) ?_
            refine lv_goto (tgt := 60) hx hb d_Txt_isSymbolSign_56 (by decide) ?_
            exact W.zret (v := (nI 1)) hx hb hr (by first | rfl | decide | exact sb_nar) (fun t ht hW => ⟨_, rfl, (sb_t (by unfold isSy; omega)).symm, ht⟩) (fun _ h => by cases h) d_Txt_isSymbolSign_60
          · have c26 := sb_eq0.mp c26
            refine lv_iload_n hx hb d_Txt_isSymbolSign_31 rfl (lv_at hl 0 rfl) ?_
            refine lv_bipush (v := (nI 95)) hx hb d_Txt_isSymbolSign_32 (by decide) ?_
            refine lv_icmp_eq (tgt := 55) hx hb d_Txt_isSymbolSign_34 (by decide) (fun c27 => ?_) (fun c27 => ?_)
            · have c27 := (nI_eq (by omega) (by omega)).mp c27
              refine lv_iconst (v := (nI 1)) hx hb d_Txt_isSymbolSign_55 (by decide) ?_
              refine lv_goto (tgt := 60) hx hb d_Txt_isSymbolSign_56 (by decide) ?_
              exact W.zret (v := (nI 1)) hx hb hr (by first | rfl | decide | exact sb_nar) (fun t ht hW => ⟨_, rfl, (sb_t (by unfold isSy; omega)).symm, ht⟩) (fun _ h => by cases h) d_Txt_isSymbolSign_60
            · have c27 := mt (nI_eq (by omega) (by omega)).mpr c27
              refine lv_iload_n hx hb d_Txt_isSymbolSign_37 rfl (lv_at hl 0 rfl) ?_
              refine lv_bipush (v := (nI 46)) hx hb d_Txt_isSymbolSign_38 (by decide) ?_
              refine lv_icmp_eq (tgt := 55) hx hb d_Txt_isSymbolSign_40 (by decide) (fun c28 => ?_) (fun c28 => ?_)
              · have c28 := (nI_eq (by omega) (by omega)).mp c28
                refine lv_iconst (v := (nI 1)) hx hb d_Txt_isSymbolSign_55 (by decide) ?_
                refine lv_goto (tgt := 60) hx hb d_Txt_isSymbolSign_56 (by decide) ?_
                exact W.zret (v := (nI 1)) hx hb hr (by first | rfl | decide | exact sb_nar) (fun t ht hW => ⟨_, rfl, (sb_t (by unfold isSy; omega)).symm, ht⟩) (fun _ h => by cases h) d_Txt_isSymbolSign_60
              · have c28 := mt (nI_eq (by omega) (by omega)).mpr c28
                refine lv_iload_n hx hb d_Txt_isSymbolSign_43 rfl (lv_at hl 0 rfl) ?_
                refine lv_bipush (v := (nI 36)) hx hb d_Txt_isSymbolSign_44 (by decide) ?_
                refine lv_icmp_eq (tgt := 55) hx hb d_Txt_isSymbolSign_46 (by decide) (fun c29 => ?_) (fun c29 => ?_)
                · have c29 := (nI_eq (by omega) (by omega)).mp c29
                  refine lv_iconst (v := (nI 1)) hx hb d_Txt_isSymbolSign_55 (by decide) ?_
                  refine lv_goto (tgt := 60) hx hb d_Txt_isSymbolSign_56 (by decide) ?_
                  exact W.zret (v := (nI 1)) hx hb hr (by first | rfl | decide | exact sb_nar) (fun t ht hW => ⟨_, rfl, (sb_t (by unfold isSy; omega)).symm, ht⟩) (fun _ h => by cases h) d_Txt_isSymbolSign_60
                · have c29 := mt (nI_eq (by omega) (by omega)).mpr c29
                  refine lv_iload_n hx hb d_Txt_isSymbolSign_49 rfl (lv_at hl 0 rfl) ?_
                  refine lv_bipush (v := (nI 58)) hx hb d_Txt_isSymbolSign_50 (by decide) ?_
                  refine lv_icmp_ne (tgt := 59) hx hb d_Txt_isSymbolSign_52 (by decide) (fun c30 => ?_) (fun c30 => ?_)
                  · have c30 := mt (nI_eq (by omega) (by omega)).mpr c30
                    refine lv_iconst (v := (nI 0)) hx hb d_Txt_isSymbolSign_59 (by decide) ?_
                    exact W.zret (v := (nI 0)) hx hb hr (by first | rfl | decide | exact sb_nar) (fun t ht hW => ⟨_, rfl, (sb_f (by unfold isSy; omega)).symm, ht⟩) (fun _ h => by cases h) d_Txt_isSymbolSign_60
                  · have c30 := (nI_eq (by omega) (by omega)).mp c30
                    refine lv_iconst (v := (nI 1)) hx hb d_Txt_isSymbolSign_55 (by decide) ?_
                    refine lv_goto (tgt := 60) hx hb d_Txt_isSymbolSign_56 (by decide) ?_
                    exact W.zret (v := (nI 1)) hx hb hr (by first | rfl | decide | exact sb_nar) (fun t ht hW => ⟨_, rfl, (sb_t (by unfold isSy; omega)).symm, ht⟩) (fun _ h => by cases h) d_Txt_isSymbolSign_60
set_option maxHeartbeats 4000000 in
set_option maxRecDepth 100000 in
/-- endOfLine(a) -/
theorem c_Txt_endOfLine (l : Launch) (g : sdG) (q1 q5 n : Nat) (f : Nat → Int32) (tx : Nat → Nat) (hT : TXok n f tx) (a : Nat) (hi : a ≤ n) : Met l y_Txt_endOfLine (.code y_Txt_endOfLine b_Txt_endOfLine 3 (some .int) :: sdT) ({ frames := 2, cells := 0, slots := 0, locals := 42 }) (va_Pc [.ref q1, .int (nI a)] (sdR g [(q1, .inr (6, [.ref q5, .int (nI n)])), (q5, .inl (gB g, 2000, .inl f))])) (vp_Si (fun r => ∃ z, r = nI z ∧ a ≤ z ∧ z ≤ n ∧ (∀ j, a ≤ j → j < z → ¬ (tx j = 10)) ∧ tx z = 10)) 0 0 (fun _ => False) := by
  refine Met.ofW (cc := b_Txt_endOfLine) (maxL := 3) (ret := (some .int)) (by decide) rfl ?_
  intro p e s m args below meth c s₁ B hml hv
  obtain ⟨rfl, hP, hK, hE⟩ := hv
  have hx := B.exec
  have hb := B.bytes
  have hr := B.returns
  have hts := fun (w : Cond) (h : w ∈ sdT) => atoms_spec (ws := (.code y_Txt_endOfLine b_Txt_endOfLine 3 (some .int) :: sdT)) B.pre w (List.mem_cons_of_mem _ h)
  have hown : s.vm.findClass "SignDesk$Text" = some m.cls := findClass_of_methodNamed B.named
  have hlocks := B.notSynchronized
  have hF : ∀ a : Nat, a < s.heap.size → ¬ sdA g a → s.heap[a]? = s.heap[a]? := fun _ _ _ => rfl
  have hP : sdP g [(q1, .inr (6, [.ref q5, .int (nI n)])), (q5, .inl (gB g, 2000, .inl f))] s.heap := hP
  have hl := lv_entry ([.ref q1, .int (nI a)]) (n := 3) (Nat.le_of_ble_eq_true rfl)
  rw [lg_entry_eq]
  generalize (lg_sl ([.ref q1, .int (nI a)]) ++ List.replicate (3 - (lg_sl ([.ref q1, .int (nI a)])).length) Slot.unset).toArray = ls at hl ⊢
  have hl : lv_has ls 3 [(0, .ref q1), (1, .int (nI a))] := hl
  have hn := hT.1
  have hb8 := hT.2.1
  refine lv_iload_n hx hb d_Txt_endOfLine_0 rfl (lv_at hl 1 rfl) ?_
  refine lv_istore_n (lv' := [(2, .int (nI a)), (0, .ref q1), (1, .int (nI a))]) hx hb d_Txt_endOfLine_1 rfl hl (by decide) rfl (fun ls hl => ?_)
  refine sd_loopr (fun (i : Nat) ls => lv_has ls 3 [(2, .int (nI i)), (0, .ref q1), (1, .int (nI a))] ∧ (a ≤ i) ∧ (i ≤ n) ∧ (∀ j, a ≤ j → j < i → ¬ (tx j = 10))) (fun (i : Nat) => n - i) 2 [] (fun i ls hI ih => ?_) (a) ⟨lv_sub hl [0, 1, 2] rfl, Nat.le_refl _, hi, fun j h5 h6 => absurd h6 (by omega)⟩
  obtain ⟨hl, h1, h2, h3⟩ := hI
  refine lv_iload_n hx hb d_Txt_endOfLine_2 rfl (lv_at hl 0 rfl) ?_
  refine lv_aload_n hx hb d_Txt_endOfLine_3 rfl (lv_at hl 1 rfl) ?_
  refine va_get (D := g.1) (ci := 6) (v := .int (nI n)) (C := "SignDesk$Text") (T := F_Txt) (N := 2) hx hb hts in_Txt hown hK hP 0 rfl rfl 1 (by decide) (hts _ k_52) (fun _ h9 => h9) rfl d_Txt_endOfLine_4 ?_
  refine lv_icmp_ge (tgt := 26) hx hb d_Txt_endOfLine_7 (by decide) (fun c1 => ?_) (fun c1 => ?_)
  · have c1 := (nI_leI (by omega) (by omega)).mp c1
    have e1 : n = i := by omega
    subst e1
    refine lv_aload_n hx hb d_Txt_endOfLine_26 rfl (lv_at hl 1 rfl) ?_
    refine va_get (D := g.1) (ci := 6) (v := .int (nI n)) (C := "SignDesk$Text") (T := F_Txt) (N := 2) hx hb hts in_Txt hown hK hP 0 rfl rfl 1 (by decide) (hts _ k_52) (fun _ h9 => h9) rfl d_Txt_endOfLine_27 ?_
    exact W.iret (v := (nI n)) hx hb hr  (fun t ht hW => ⟨_, rfl, ⟨_, rfl, h1, h2, h3, hT.2.2.2 _ (Nat.le_refl _)⟩, ht⟩) (fun _ h => by cases h) d_Txt_endOfLine_30
  · have c1 := mt (nI_leI (by omega) (by omega)).mpr c1
    have h4 : i < n := by omega
    refine lv_aload_n hx hb d_Txt_endOfLine_10 rfl (lv_at hl 1 rfl) ?_
    refine lv_iload_n hx hb d_Txt_endOfLine_11 rfl (lv_at hl 0 rfl) ?_
    refine sd_ri (va_runV (As := [.int (nI i)]) (rest := []) ⟨hx, hb, hml, hown, hts⟩ (c_Txt_isLineEnd l g q1 q5 n f tx hT i (by omega)) (cwV 1 hts (sd_gV k_216 k_205 k_206 k_24 k_207) rfl rfl rfl (by decide +kernel) ⟨Nat.le_of_ble_eq_true rfl, Nat.le_of_ble_eq_true rfl⟩) (sd_preV hK hE hF (hP.sub (ws' := [(q1, .inr (6, [.ref q5, .int (nI n)])), (q5, .inl (gB g, 2000, .inl f))]) [0, 1] rfl) rfl rfl) rfl rfl hl.1 rfl (lv_room (Nat.le_of_ble_eq_true rfl)) d_Txt_endOfLine_12 ⟨Nat.zero_le _, Nat.zero_le _⟩) (fun r2 er2 => ?_)
    subst er2
    refine lv_if_eq (tgt := 20) hx hb d_Txt_endOfLine_15 (by decide) (fun c3 => ?_) (fun c3 => ?_)
    · have c3 := sb_eq0.mp c3
      refine lv_iinc (v := (nI (i + 1))) (lv' := [(2, .int (nI (i + 1))), (0, .ref q1), (1, .int (nI a))]) hx hb d_Txt_endOfLine_20 hl (k := 0) rfl (nI_1 _) (by decide) rfl (fun ls hl => ?_)
      refine lv_goto (tgt := 2) hx hb d_Txt_endOfLine_23 (by decide) ?_
      exact ih (i + 1) _ ⟨lv_sub hl [0, 1, 2] rfl, by omega, by omega, fun j h5 h6 => by
          rcases Nat.lt_or_ge j i with q | q
          · exact h3 j h5 q
          · have : j = i := by omega
            subst this; exact c3⟩ (show n - (i + 1) < n - i by omega)
    · have c3 := sb_ne0.mp c3
      refine lv_iload_n hx hb d_Txt_endOfLine_18 rfl (lv_at hl 0 rfl) ?_
      exact W.iret (v := (nI i)) hx hb hr  (fun t ht hW => ⟨_, rfl, ⟨_, rfl, h1, h2, h3, c3⟩, ht⟩) (fun _ h => by cases h) d_Txt_endOfLine_19
set_option maxHeartbeats 4000000 in
set_option maxRecDepth 100000 in
/-- endOfInstruction(a) -/
theorem c_Txt_endOfInstruction (l : Launch) (g : sdG) (q1 q5 n : Nat) (f : Nat → Int32) (tx : Nat → Nat) (hT : TXok n f tx) (a : Nat) (hi : a ≤ n) : Met l y_Txt_endOfInstruction (.code y_Txt_endOfInstruction b_Txt_endOfInstruction 3 (some .int) :: sdT) ({ frames := 2, cells := 0, slots := 0, locals := 43 }) (va_Pc [.ref q1, .int (nI a)] (sdR g [(q1, .inr (6, [.ref q5, .int (nI n)])), (q5, .inl (gB g, 2000, .inl f))])) (vp_Si (fun r => ∃ z, r = nI z ∧ a ≤ z ∧ z ≤ n ∧ (∀ j, a ≤ j → j < z → ¬ (isSt tx j)) ∧ isSt tx z)) 0 0 (fun _ => False) := by
  refine Met.ofW (cc := b_Txt_endOfInstruction) (maxL := 3) (ret := (some .int)) (by decide) rfl ?_
  intro p e s m args below meth c s₁ B hml hv
  obtain ⟨rfl, hP, hK, hE⟩ := hv
  have hx := B.exec
  have hb := B.bytes
  have hr := B.returns
  have hts := fun (w : Cond) (h : w ∈ sdT) => atoms_spec (ws := (.code y_Txt_endOfInstruction b_Txt_endOfInstruction 3 (some .int) :: sdT)) B.pre w (List.mem_cons_of_mem _ h)
  have hown : s.vm.findClass "SignDesk$Text" = some m.cls := findClass_of_methodNamed B.named
  have hlocks := B.notSynchronized
  have hF : ∀ a : Nat, a < s.heap.size → ¬ sdA g a → s.heap[a]? = s.heap[a]? := fun _ _ _ => rfl
  have hP : sdP g [(q1, .inr (6, [.ref q5, .int (nI n)])), (q5, .inl (gB g, 2000, .inl f))] s.heap := hP
  have hl := lv_entry ([.ref q1, .int (nI a)]) (n := 3) (Nat.le_of_ble_eq_true rfl)
  rw [lg_entry_eq]
  generalize (lg_sl ([.ref q1, .int (nI a)]) ++ List.replicate (3 - (lg_sl ([.ref q1, .int (nI a)])).length) Slot.unset).toArray = ls at hl ⊢
  have hl : lv_has ls 3 [(0, .ref q1), (1, .int (nI a))] := hl
  have hn := hT.1
  have hb8 := hT.2.1
  refine lv_iload_n hx hb d_Txt_endOfInstruction_0 rfl (lv_at hl 1 rfl) ?_
  refine lv_istore_n (lv' := [(2, .int (nI a)), (0, .ref q1), (1, .int (nI a))]) hx hb d_Txt_endOfInstruction_1 rfl hl (by decide) rfl (fun ls hl => ?_)
  refine sd_loopr (fun (i : Nat) ls => lv_has ls 3 [(2, .int (nI i)), (0, .ref q1), (1, .int (nI a))] ∧ (a ≤ i) ∧ (i ≤ n) ∧ (∀ j, a ≤ j → j < i → ¬ (isSt tx j))) (fun (i : Nat) => n - i) 2 [] (fun i ls hI ih => ?_) (a) ⟨lv_sub hl [0, 1, 2] rfl, Nat.le_refl _, hi, fun j h5 h6 => absurd h6 (by omega)⟩
  obtain ⟨hl, h1, h2, h3⟩ := hI
  refine lv_iload_n hx hb d_Txt_endOfInstruction_2 rfl (lv_at hl 0 rfl) ?_
  refine lv_aload_n hx hb d_Txt_endOfInstruction_3 rfl (lv_at hl 1 rfl) ?_
  refine va_get (D := g.1) (ci := 6) (v := .int (nI n)) (C := "SignDesk$Text") (T := F_Txt) (N := 2) hx hb hts in_Txt hown hK hP 0 rfl rfl 1 (by decide) (hts _ k_52) (fun _ h9 => h9) rfl d_Txt_endOfInstruction_4 ?_
  refine lv_icmp_ge (tgt := 42) hx hb d_Txt_endOfInstruction_7 (by decide) (fun c1 => ?_) (fun c1 => ?_)
  · have c1 := (nI_leI (by omega) (by omega)).mp c1
    have e1 : n = i := by omega
    subst e1
    refine lv_aload_n hx hb d_Txt_endOfInstruction_42 rfl (lv_at hl 1 rfl) ?_
    refine va_get (D := g.1) (ci := 6) (v := .int (nI n)) (C := "SignDesk$Text") (T := F_Txt) (N := 2) hx hb hts in_Txt hown hK hP 0 rfl rfl 1 (by decide) (hts _ k_52) (fun _ h9 => h9) rfl d_Txt_endOfInstruction_43 ?_
    exact W.iret (v := (nI n)) hx hb hr  (fun t ht hW => ⟨_, rfl, ⟨_, rfl, h1, h2, h3, Or.inl (hT.2.2.2 _ (Nat.le_refl _))⟩, ht⟩) (fun _ h => by cases h) d_Txt_endOfInstruction_46
  · have c1 := mt (nI_leI (by omega) (by omega)).mpr c1
    have h4 : i < n := by omega
    refine lv_aload_n hx hb d_Txt_endOfInstruction_10 rfl (lv_at hl 1 rfl) ?_
    refine lv_iload_n hx hb d_Txt_endOfInstruction_11 rfl (lv_at hl 0 rfl) ?_
    refine sd_ri (va_runV (As := [.int (nI i)]) (rest := []) ⟨hx, hb, hml, hown, hts⟩ (c_Txt_isLineEnd l g q1 q5 n f tx hT i (by omega)) (cwV 1 hts (sd_gV k_216 k_205 k_206 k_24 k_207) rfl rfl rfl (by decide +kernel) ⟨Nat.le_of_ble_eq_true rfl, Nat.le_of_ble_eq_true rfl⟩) (sd_preV hK hE hF (hP.sub (ws' := [(q1, .inr (6, [.ref q5, .int (nI n)])), (q5, .inl (gB g, 2000, .inl f))]) [0, 1] rfl) rfl rfl) rfl rfl hl.1 rfl (lv_room (Nat.le_of_ble_eq_true rfl)) d_Txt_endOfInstruction_12 ⟨Nat.zero_le _, Nat.zero_le _⟩) (fun r2 er2 => ?_)
    subst er2
    refine lv_if_ne (tgt := 34) hx hb d_Txt_endOfInstruction_15 (by decide) (fun c3 => ?_) (fun c3 => ?_)
    · have c3 := sb_ne0.mp c3
      refine lv_iload_n hx hb d_Txt_endOfInstruction_34 rfl (lv_at hl 0 rfl) ?_
      exact W.iret (v := (nI i)) hx hb hr  (fun t ht hW => ⟨_, rfl, ⟨_, rfl, h1, h2, h3, Or.inl c3⟩, ht⟩) (fun _ h => by cases h) d_Txt_endOfInstruction_35
    · have c3 := sb_eq0.mp c3
      refine lv_aload_n hx hb d_Txt_endOfInstruction_18 rfl (lv_at hl 1 rfl) ?_
      refine lv_iload_n hx hb d_Txt_endOfInstruction_19 rfl (lv_at hl 0 rfl) ?_
      refine sd_ri (va_runV (As := [.int (nI i)]) (rest := []) ⟨hx, hb, hml, hown, hts⟩ (c_Txt_isBlank l g q1 q5 n f tx hT i (by omega)) (cwV 1 hts (sd_gV k_221 k_197 k_198 k_24 k_199) rfl rfl rfl (by decide +kernel) ⟨Nat.le_of_ble_eq_true rfl, Nat.le_of_ble_eq_true rfl⟩) (sd_preV hK hE hF (hP.sub (ws' := [(q1, .inr (6, [.ref q5, .int (nI n)])), (q5, .inl (gB g, 2000, .inl f))]) [0, 1] rfl) rfl rfl) rfl rfl hl.1 rfl (lv_room (Nat.le_of_ble_eq_true rfl)) d_Txt_endOfInstruction_20 ⟨Nat.zero_le _, Nat.zero_le _⟩) (fun r4 er4 => ?_)
      subst er4
      refine lv_if_ne (tgt := 34) hx hb d_Txt_endOfInstruction_23 (by decide) (fun c5 => ?_) (fun c5 => ?_)
      · have c5 := sb_ne0.mp c5
        refine lv_iload_n hx hb d_Txt_endOfInstruction_34 rfl (lv_at hl 0 rfl) ?_
        exact W.iret (v := (nI i)) hx hb hr  (fun t ht hW => ⟨_, rfl, ⟨_, rfl, h1, h2, h3, Or.inr (Or.inl c5)⟩, ht⟩) (fun _ h => by cases h) d_Txt_endOfInstruction_35
      · have c5 := sb_eq0.mp c5
        refine lv_aload_n hx hb d_Txt_endOfInstruction_26 rfl (lv_at hl 1 rfl) ?_
        refine lv_iload_n hx hb d_Txt_endOfInstruction_27 rfl (lv_at hl 0 rfl) ?_
        refine sd_ri (va_runV (As := [.int (nI i)]) (rest := []) ⟨hx, hb, hml, hown, hts⟩ (c_Txt_isComment l g q1 q5 n f tx hT i (by omega)) (cwV 1 hts (sd_gV k_222 k_209 k_210 k_24 k_211) rfl rfl rfl (by decide +kernel) ⟨Nat.le_of_ble_eq_true rfl, Nat.le_of_ble_eq_true rfl⟩) (sd_preV hK hE hF (hP.sub (ws' := [(q1, .inr (6, [.ref q5, .int (nI n)])), (q5, .inl (gB g, 2000, .inl f))]) [0, 1] rfl) rfl rfl) rfl rfl hl.1 rfl (lv_room (Nat.le_of_ble_eq_true rfl)) d_Txt_endOfInstruction_28 ⟨Nat.zero_le _, Nat.zero_le _⟩) (fun r6 er6 => ?_)
        subst er6
        refine lv_if_eq (tgt := 36) hx hb d_Txt_endOfInstruction_31 (by decide) (fun c7 => ?_) (fun c7 => ?_)
        · have c7 := sb_eq0.mp c7
          refine lv_iinc (v := (nI (i + 1))) (lv' := [(2, .int (nI (i + 1))), (0, .ref q1), (1, .int (nI a))]) hx hb d_Txt_endOfInstruction_36 hl (k := 0) rfl (nI_1 _) (by decide) rfl (fun ls hl => ?_)
          refine lv_goto (tgt := 2) hx hb d_Txt_endOfInstruction_39 (by decide) ?_
          exact ih (i + 1) _ ⟨lv_sub hl [0, 1, 2] rfl, by omega, by omega, fun j h5 h6 => by
              rcases Nat.lt_or_ge j i with q | q
              · exact h3 j h5 q
              · have : j = i := by omega
                subst this; exact fun z => z.elim c3 (fun z => z.elim c5 c7)⟩ (show n - (i + 1) < n - i by omega)
        · have c7 := sb_ne0.mp c7
          refine lv_iload_n hx hb d_Txt_endOfInstruction_34 rfl (lv_at hl 0 rfl) ?_
          exact W.iret (v := (nI i)) hx hb hr  (fun t ht hW => ⟨_, rfl, ⟨_, rfl, h1, h2, h3, Or.inr (Or.inr c7)⟩, ht⟩) (fun _ h => by cases h) d_Txt_endOfInstruction_35
set_option maxHeartbeats 4000000 in
set_option maxRecDepth 100000 in
/-- find(sign, a, z) -/
theorem c_Txt_find (l : Launch) (g : sdG) (q1 q5 n : Nat) (f : Nat → Int32) (tx : Nat → Nat) (hT : TXok n f tx) (sg a z : Nat) (hs : sg < 256) (hi : a ≤ z) (hz : z ≤ 2000) : Met l y_Txt_find (.code y_Txt_find b_Txt_find 5 (some .int) :: sdT) ({ frames := 1, cells := 0, slots := 0, locals := 21 }) (va_Pc [.ref q1, .int (nI sg), .int (nI a), .int (nI z)] (sdR g [(q1, .inr (6, [.ref q5, .int (nI n)])), (q5, .inl (gB g, 2000, .inl f))])) (vp_Si (fun r => (∃ k, r = nI k ∧ a ≤ k ∧ k < z ∧ tx k = sg ∧ ∀ j, a ≤ j → j < k → ¬ tx j = sg) ∨ ((∀ j, a ≤ j → j < z → ¬ tx j = sg) ∧ r = -1))) 0 0 (fun _ => False) := by
  refine Met.ofW (cc := b_Txt_find) (maxL := 5) (ret := (some .int)) (by decide) rfl ?_
  intro p e s m args below meth c s₁ B hml hv
  obtain ⟨rfl, hP, hK, hE⟩ := hv
  have hx := B.exec
  have hb := B.bytes
  have hr := B.returns
  have hts := fun (w : Cond) (h : w ∈ sdT) => atoms_spec (ws := (.code y_Txt_find b_Txt_find 5 (some .int) :: sdT)) B.pre w (List.mem_cons_of_mem _ h)
  have hown : s.vm.findClass "SignDesk$Text" = some m.cls := findClass_of_methodNamed B.named
  have hlocks := B.notSynchronized
  have hF : ∀ a : Nat, a < s.heap.size → ¬ sdA g a → s.heap[a]? = s.heap[a]? := fun _ _ _ => rfl
  have hP : sdP g [(q1, .inr (6, [.ref q5, .int (nI n)])), (q5, .inl (gB g, 2000, .inl f))] s.heap := hP
  have hl := lv_entry ([.ref q1, .int (nI sg), .int (nI a), .int (nI z)]) (n := 5) (Nat.le_of_ble_eq_true rfl)
  rw [lg_entry_eq]
  generalize (lg_sl ([.ref q1, .int (nI sg), .int (nI a), .int (nI z)]) ++ List.replicate (5 - (lg_sl ([.ref q1, .int (nI sg), .int (nI a), .int (nI z)])).length) Slot.unset).toArray = ls at hl ⊢
  have hl : lv_has ls 5 [(0, .ref q1), (1, .int (nI sg)), (2, .int (nI a)), (3, .int (nI z))] := hl
  have hn := hT.1
  have hb8 := hT.2.1
  refine lv_iload_n hx hb d_Txt_find_0 rfl (lv_at hl 2 rfl) ?_
  refine lv_istore (lv' := [(4, .int (nI a)), (0, .ref q1), (1, .int (nI sg)), (2, .int (nI a)), (3, .int (nI z))]) hx hb d_Txt_find_1 hl (by decide) rfl (fun ls hl => ?_)
  refine sd_loopr (fun (i : Nat) ls => lv_has ls 5 [(4, .int (nI i)), (0, .ref q1), (1, .int (nI sg)), (2, .int (nI a)), (3, .int (nI z))] ∧ (a ≤ i) ∧ (i ≤ z) ∧ (∀ j, a ≤ j → j < i → ¬ tx j = sg)) (fun (i : Nat) => z - i) 3 [] (fun i ls hI ih => ?_) (a) ⟨lv_sub hl [0, 1, 2, 3, 4] rfl, Nat.le_refl _, hi, fun j h5 h6 => absurd h6 (by omega)⟩
  obtain ⟨hl, h1, h2, h3⟩ := hI
  refine lv_iload hx hb d_Txt_find_3 (lv_at hl 0 rfl) ?_
  refine lv_iload_n hx hb d_Txt_find_5 rfl (lv_at hl 4 rfl) ?_
  refine lv_icmp_ge (tgt := 28) hx hb d_Txt_find_6 (by decide) (fun c1 => ?_) (fun c1 => ?_)
  · have c1 := (nI_leI (by omega) (by omega)).mp c1
    have e1 : z = i := by omega
    subst e1
    refine lv_iconst (v := (-1)) hx hb d_Txt_find_28 (by decide) ?_
    exact W.iret (v := (-1)) hx hb hr  (fun t ht hW => ⟨_, rfl, Or.inr ⟨h3, rfl⟩, ht⟩) (fun _ h => by cases h) d_Txt_find_29
  · have c1 := mt (nI_leI (by omega) (by omega)).mpr c1
    refine lv_aload_n hx hb d_Txt_find_9 rfl (lv_at hl 1 rfl) ?_
    refine lv_iload hx hb d_Txt_find_10 (lv_at hl 0 rfl) ?_
    refine sd_ri (va_runV (As := [.int (nI i)]) (rest := []) ⟨hx, hb, hml, hown, hts⟩ (c_Txt_byteAt l g q1 q5 n f tx hT (i) (by omega)) (cwV 1 hts (sd_gV k_200 k_201 k_202 k_24 k_203) rfl rfl rfl (by decide +kernel) ⟨Nat.le_of_ble_eq_true rfl, Nat.le_of_ble_eq_true rfl⟩) (sd_preV hK hE hF (hP.sub (ws' := [(q1, .inr (6, [.ref q5, .int (nI n)])), (q5, .inl (gB g, 2000, .inl f))]) [0, 1] rfl) rfl rfl) rfl rfl hl.1 rfl (lv_room (Nat.le_of_ble_eq_true rfl)) d_Txt_find_12 ⟨Nat.zero_le _, Nat.zero_le _⟩) (fun r2 er2 => ?_)
    subst er2
    have hb8i := hb8 (i)
    refine lv_iload_n hx hb d_Txt_find_15 rfl (lv_at hl 2 rfl) ?_
    refine lv_icmp_ne (tgt := 22) hx hb d_Txt_find_16 (by decide) (fun c3 => ?_) (fun c3 => ?_)
    · have c3 := mt (nI_eq (by omega) (by omega)).mpr c3
      refine lv_iinc (v := (nI (i + 1))) (lv' := [(4, .int (nI (i + 1))), (0, .ref q1), (1, .int (nI sg)), (2, .int (nI a)), (3, .int (nI z))]) hx hb d_Txt_find_22 hl (k := 0) rfl (nI_1 _) (by decide) rfl (fun ls hl => ?_)
      refine lv_goto (tgt := 3) hx hb d_Txt_find_25 (by decide) ?_
      exact ih (i + 1) _ ⟨lv_sub hl [0, 1, 2, 3, 4] rfl, by omega, by omega, fun j h5 h6 => by
          rcases Nat.lt_or_ge j i with q | q
          · exact h3 j h5 q
          · have : j = i := by omega
            subst this; exact c3⟩ (show z - (i + 1) < z - i by omega)
    · have c3 := (nI_eq (by omega) (by omega)).mp c3
      refine lv_iload hx hb d_Txt_find_19 (lv_at hl 0 rfl) ?_
      exact W.iret (v := (nI i)) hx hb hr  (fun t ht hW => ⟨_, rfl, Or.inl ⟨_, rfl, h1, by omega, c3, h3⟩, ht⟩) (fun _ h => by cases h) d_Txt_find_21
set_option maxHeartbeats 4000000 in
set_option maxRecDepth 100000 in
/-- isSame(a, z, k) -/
theorem c_Txt_isSame (l : Launch) (g : sdG) (q1 q5 n : Nat) (f : Nat → Int32) (tx : Nat → Nat) (hT : TXok n f tx) (a z k : Nat) (ha : a ≤ 2000) (hz : z ≤ 2000) (hk : k ≤ 2000) : Met l y_Txt_isSame (.code y_Txt_isSame b_Txt_isSame 5 (some .boolean) :: sdT) ({ frames := 1, cells := 0, slots := 0, locals := 21 }) (va_Pc [.ref q1, .int (nI a), .int (nI z), .int (nI k)] (sdR g [(q1, .inr (6, [.ref q5, .int (nI n)])), (q5, .inl (gB g, 2000, .inl f))])) (vp_Si (fun r => r = sb (∀ j, j < k → tx (a + j) = tx (z + j)))) 0 0 (fun _ => False) := by
  refine Met.ofW (cc := b_Txt_isSame) (maxL := 5) (ret := (some .boolean)) (by decide) rfl ?_
  intro p e s m args below meth c s₁ B hml hv
  obtain ⟨rfl, hP, hK, hE⟩ := hv
  have hx := B.exec
  have hb := B.bytes
  have hr := B.returns
  have hts := fun (w : Cond) (h : w ∈ sdT) => atoms_spec (ws := (.code y_Txt_isSame b_Txt_isSame 5 (some .boolean) :: sdT)) B.pre w (List.mem_cons_of_mem _ h)
  have hown : s.vm.findClass "SignDesk$Text" = some m.cls := findClass_of_methodNamed B.named
  have hlocks := B.notSynchronized
  have hF : ∀ a : Nat, a < s.heap.size → ¬ sdA g a → s.heap[a]? = s.heap[a]? := fun _ _ _ => rfl
  have hP : sdP g [(q1, .inr (6, [.ref q5, .int (nI n)])), (q5, .inl (gB g, 2000, .inl f))] s.heap := hP
  have hl := lv_entry ([.ref q1, .int (nI a), .int (nI z), .int (nI k)]) (n := 5) (Nat.le_of_ble_eq_true rfl)
  rw [lg_entry_eq]
  generalize (lg_sl ([.ref q1, .int (nI a), .int (nI z), .int (nI k)]) ++ List.replicate (5 - (lg_sl ([.ref q1, .int (nI a), .int (nI z), .int (nI k)])).length) Slot.unset).toArray = ls at hl ⊢
  have hl : lv_has ls 5 [(0, .ref q1), (1, .int (nI a)), (2, .int (nI z)), (3, .int (nI k))] := hl
  have hn := hT.1
  have hb8 := hT.2.1
  refine lv_iconst (v := (nI 0)) hx hb d_Txt_isSame_0 (by decide) ?_
  refine lv_istore (lv' := [(4, .int (nI 0)), (0, .ref q1), (1, .int (nI a)), (2, .int (nI z)), (3, .int (nI k))]) hx hb d_Txt_isSame_1 hl (by decide) rfl (fun ls hl => ?_)
  refine sd_loopr (fun (i : Nat) ls => lv_has ls 5 [(4, .int (nI i)), (0, .ref q1), (1, .int (nI a)), (2, .int (nI z)), (3, .int (nI k))] ∧ (i ≤ k) ∧ (∀ j, j < i → tx (a + j) = tx (z + j))) (fun (i : Nat) => k - i) 3 [] (fun i ls hI ih => ?_) (0) ⟨lv_sub hl [0, 1, 2, 3, 4] rfl, Nat.zero_le _, fun j h6 => absurd h6 (by omega)⟩
  obtain ⟨hl, h2, h3⟩ := hI
  refine lv_iload hx hb d_Txt_isSame_3 (lv_at hl 0 rfl) ?_
  refine lv_iload_n hx hb d_Txt_isSame_5 rfl (lv_at hl 4 rfl) ?_
  refine lv_icmp_ge (tgt := 36) hx hb d_Txt_isSame_6 (by decide) (fun c1 => ?_) (fun c1 => ?_)
  · have c1 := (nI_leI (by omega) (by omega)).mp c1
    have e1 : k = i := by omega
    subst e1
    refine lv_iconst (v := (nI 1)) hx hb d_Txt_isSame_36 (by decide) ?_
    exact W.zret (v := (nI 1)) hx hb hr (by first | rfl | decide | exact sb_nar) (fun t ht hW => ⟨_, rfl, (sb_t h3).symm, ht⟩) (fun _ h => by cases h) d_Txt_isSame_37
  · have c1 := mt (nI_leI (by omega) (by omega)).mpr c1
    refine lv_aload_n hx hb d_Txt_isSame_9 rfl (lv_at hl 1 rfl) ?_
    refine lv_iload_n hx hb d_Txt_isSame_10 rfl (lv_at hl 2 rfl) ?_
    refine lv_iload hx hb d_Txt_isSame_11 (lv_at hl 0 rfl) ?_
    refine lv_iadd hx hb d_Txt_isSame_13 ?_
    refine sd_topi (y := nI (a + i)) (nI_add _ _) ?_
    refine sd_ri (va_runV (As := [.int (nI (a + i))]) (rest := []) ⟨hx, hb, hml, hown, hts⟩ (c_Txt_byteAt l g q1 q5 n f tx hT (a + i) (by omega)) (cwV 1 hts (sd_gV k_200 k_201 k_202 k_24 k_203) rfl rfl rfl (by decide +kernel) ⟨Nat.le_of_ble_eq_true rfl, Nat.le_of_ble_eq_true rfl⟩) (sd_preV hK hE hF (hP.sub (ws' := [(q1, .inr (6, [.ref q5, .int (nI n)])), (q5, .inl (gB g, 2000, .inl f))]) [0, 1] rfl) rfl rfl) rfl rfl hl.1 rfl (lv_room (Nat.le_of_ble_eq_true rfl)) d_Txt_isSame_14 ⟨Nat.zero_le _, Nat.zero_le _⟩) (fun r2 er2 => ?_)
    subst er2
    have hb8i := hb8 (a + i)
    refine lv_aload_n hx hb d_Txt_isSame_17 rfl (lv_at hl 1 rfl) ?_
    refine lv_iload_n hx hb d_Txt_isSame_18 rfl (lv_at hl 3 rfl) ?_
    refine lv_iload hx hb d_Txt_isSame_19 (lv_at hl 0 rfl) ?_
    refine lv_iadd hx hb d_Txt_isSame_21 ?_
    refine sd_topi (y := nI (z + i)) (nI_add _ _) ?_
    refine sd_ri (va_runV (As := [.int (nI (z + i))]) (rest := [.int (nI (tx (a + i)))]) ⟨hx, hb, hml, hown, hts⟩ (c_Txt_byteAt l g q1 q5 n f tx hT (z + i) (by omega)) (cwV 1 hts (sd_gV k_200 k_201 k_202 k_24 k_203) rfl rfl rfl (by decide +kernel) ⟨Nat.le_of_ble_eq_true rfl, Nat.le_of_ble_eq_true rfl⟩) (sd_preV hK hE hF (hP.sub (ws' := [(q1, .inr (6, [.ref q5, .int (nI n)])), (q5, .inl (gB g, 2000, .inl f))]) [0, 1] rfl) rfl rfl) rfl rfl hl.1 rfl (lv_room (Nat.le_of_ble_eq_true rfl)) d_Txt_isSame_22 ⟨Nat.zero_le _, Nat.zero_le _⟩) (fun r3 er3 => ?_)
    subst er3
    have hb8i := hb8 (z + i)
    refine lv_icmp_eq (tgt := 30) hx hb d_Txt_isSame_25 (by decide) (fun c4 => ?_) (fun c4 => ?_)
    · have c4 := (nI_eq (by omega) (by omega)).mp c4
      refine lv_iinc (v := (nI (i + 1))) (lv' := [(4, .int (nI (i + 1))), (0, .ref q1), (1, .int (nI a)), (2, .int (nI z)), (3, .int (nI k))]) hx hb d_Txt_isSame_30 hl (k := 0) rfl (nI_1 _) (by decide) rfl (fun ls hl => ?_)
      refine lv_goto (tgt := 3) hx hb d_Txt_isSame_33 (by decide) ?_
      exact ih (i + 1) _ ⟨lv_sub hl [0, 1, 2, 3, 4] rfl, by omega, fun j h6 => by
          rcases Nat.lt_or_ge j i with q | q
          · exact h3 j q
          · have : j = i := by omega
            subst this; exact c4⟩ (show k - (i + 1) < k - i by omega)
    · have c4 := mt (nI_eq (by omega) (by omega)).mpr c4
      refine lv_iconst (v := (nI 0)) hx hb d_Txt_isSame_28 (by decide) ?_
      exact W.zret (v := (nI 0)) hx hb hr (by first | rfl | decide | exact sb_nar) (fun t ht hW => ⟨_, rfl, (sb_f (fun q => c4 (q i (by omega)))).symm, ht⟩) (fun _ h => by cases h) d_Txt_isSame_29
end
section
/-- the number that k signs from a on write -/
def nV (tx : Nat → Nat) (a : Nat) : Nat → Nat
  | 0 => 0
  | k + 1 => 10 * nV tx a k + (tx (a + k) - 48)
theorem sd_subLt {z a k : Nat} (hz : z < 2 ^ 30) (ha : a < 2 ^ 30) (hk : k < 2 ^ 30) : nI z - nI a < nI k ↔ z < a + k := by
  rw [Int32.lt_iff_toInt_lt, pk_sub_toInt hz ha, nI_toInt (by omega)]; omega
theorem sd_subGt {z a k : Nat} (hz : z < 2 ^ 30) (ha : a < 2 ^ 30) (hk : k < 2 ^ 30) : nI k < nI z - nI a ↔ a + k < z := by
  rw [Int32.lt_iff_toInt_lt, pk_sub_toInt hz ha, nI_toInt (by omega)]; omega
theorem sd_subLe {z a k : Nat} (hz : z < 2 ^ 30) (ha : a < 2 ^ 30) (hk : k < 2 ^ 30) : nI z - nI a ≤ nI k ↔ z ≤ a + k := by
  rw [Int32.le_iff_toInt_le, pk_sub_toInt hz ha, nI_toInt (by omega)]; omega
theorem sd_subEq {z a k : Nat} (hz : z < 2 ^ 30) (ha : a < 2 ^ 30) (hk : k < 2 ^ 30) : nI k = nI z - nI a ↔ a + k = z := by
  rw [← Int32.toInt_inj, pk_sub_toInt hz ha, nI_toInt (by omega)]; omega
theorem nV_lt {tx : Nat → Nat} {a k : Nat} (h : ∀ j, a ≤ j → j < a + k → isDg (tx j)) : nV tx a k < 10 ^ k := by
  induction k with
  | zero => exact Nat.one_pos
  | succ k ih =>
    have h1 := ih (fun j h5 h6 => h j h5 (by omega))
    have h2 : isDg (tx (a + k)) := h (a + k) (by omega) (by omega)
    have h3 : tx (a + k) - 48 ≤ 9 := by unfold isDg at h2; omega
    show 10 * nV tx a k + (tx (a + k) - 48) < 10 ^ k * 10
    omega
set_option maxHeartbeats 4000000 in
set_option maxRecDepth 100000 in
/-- isSymbol(a, z) -/
theorem c_Txt_isSymbol (l : Launch) (g : sdG) (q1 q5 n : Nat) (f : Nat → Int32) (tx : Nat → Nat) (hT : TXok n f tx) (a z : Nat) (ha : a ≤ 2001) (hz : z ≤ 2001) : Met l y_Txt_isSymbol (.code y_Txt_isSymbol b_Txt_isSymbol 4 (some .boolean) :: sdT) ({ frames := 2, cells := 0, slots := 0, locals := 40 }) (va_Pc [.ref q1, .int (nI a), .int (nI z)] (sdR g [(q1, .inr (6, [.ref q5, .int (nI n)])), (q5, .inl (gB g, 2000, .inl f))])) (vp_Si (fun r => r = sb (a < z ∧ z ≤ a + 16 ∧ ¬ isDg (tx a) ∧ ∀ j, a ≤ j → j < z → isSy (tx j)))) 0 0 (fun _ => False) := by
  refine Met.ofW (cc := b_Txt_isSymbol) (maxL := 4) (ret := (some .boolean)) (by decide) rfl ?_
  intro p e s m args below meth c s₁ B hml hv
  obtain ⟨rfl, hP, hK, hE⟩ := hv
  have hx := B.exec
  have hb := B.bytes
  have hr := B.returns
  have hts := fun (w : Cond) (h : w ∈ sdT) => atoms_spec (ws := (.code y_Txt_isSymbol b_Txt_isSymbol 4 (some .boolean) :: sdT)) B.pre w (List.mem_cons_of_mem _ h)
  have hown : s.vm.findClass "SignDesk$Text" = some m.cls := findClass_of_methodNamed B.named
  have hlocks := B.notSynchronized
  have hF : ∀ a : Nat, a < s.heap.size → ¬ sdA g a → s.heap[a]? = s.heap[a]? := fun _ _ _ => rfl
  have hP : sdP g [(q1, .inr (6, [.ref q5, .int (nI n)])), (q5, .inl (gB g, 2000, .inl f))] s.heap := hP
  have hl := lv_entry ([.ref q1, .int (nI a), .int (nI z)]) (n := 4) (Nat.le_of_ble_eq_true rfl)
  rw [lg_entry_eq]
  generalize (lg_sl ([.ref q1, .int (nI a), .int (nI z)]) ++ List.replicate (4 - (lg_sl ([.ref q1, .int (nI a), .int (nI z)])).length) Slot.unset).toArray = ls at hl ⊢
  have hl : lv_has ls 4 [(0, .ref q1), (1, .int (nI a)), (2, .int (nI z))] := hl
  have hn := hT.1
  have hb8 := hT.2.1
  refine lv_iload_n hx hb d_Txt_isSymbol_0 rfl (lv_at hl 2 rfl) ?_
  refine lv_iload_n hx hb d_Txt_isSymbol_1 rfl (lv_at hl 1 rfl) ?_
  refine lv_isub hx hb d_Txt_isSymbol_2 ?_
  refine lv_iconst (v := (nI 1)) hx hb d_Txt_isSymbol_3 (by decide) ?_
  refine lv_icmp_lt (tgt := 26) hx hb d_Txt_isSymbol_4 (by decide) (fun c1 => ?_) (fun c1 => ?_)
  · have c1 := (sd_subLt (by omega) (by omega) (by omega)).mp c1
    refine lv_iconst (v := (nI 0)) hx hb d_Txt_isSymbol_26 (by decide) ?_
    exact W.zret (v := (nI 0)) hx hb hr (by first | rfl | decide | exact sb_nar) (fun t ht hW => ⟨_, rfl, (sb_f (fun q => absurd q.1 (by omega))).symm, ht⟩) (fun _ h => by cases h) d_Txt_isSymbol_27
  · have c1 := mt (sd_subLt (by omega) (by omega) (by omega)).mpr c1
    refine lv_iload_n hx hb d_Txt_isSymbol_7 rfl (lv_at hl 2 rfl) ?_
    refine lv_iload_n hx hb d_Txt_isSymbol_8 rfl (lv_at hl 1 rfl) ?_
    refine lv_isub hx hb d_Txt_isSymbol_9 ?_
    refine lv_bipush (v := (nI 16)) hx hb d_Txt_isSymbol_10 (by decide) ?_
    refine lv_icmp_gt (tgt := 26) hx hb d_Txt_isSymbol_12 (by decide) (fun c2 => ?_) (fun c2 => ?_)
    · have c2 := (sd_subGt (by omega) (by omega) (by omega)).mp c2
      refine lv_iconst (v := (nI 0)) hx hb d_Txt_isSymbol_26 (by decide) ?_
      exact W.zret (v := (nI 0)) hx hb hr (by first | rfl | decide | exact sb_nar) (fun t ht hW => ⟨_, rfl, (sb_f (fun q => absurd q.2.1 (by omega))).symm, ht⟩) (fun _ h => by cases h) d_Txt_isSymbol_27
    · have c2 := mt (sd_subGt (by omega) (by omega) (by omega)).mpr c2
      refine lv_aload_n hx hb d_Txt_isSymbol_15 rfl (lv_at hl 0 rfl) ?_
      refine lv_iload_n hx hb d_Txt_isSymbol_16 rfl (lv_at hl 1 rfl) ?_
      refine sd_ri (va_runV (As := [.int (nI a)]) (rest := []) ⟨hx, hb, hml, hown, hts⟩ (c_Txt_byteAt l g q1 q5 n f tx hT (a) (by omega)) (cwV 1 hts (sd_gV k_200 k_201 k_202 k_24 k_203) rfl rfl rfl (by decide +kernel) ⟨Nat.le_of_ble_eq_true rfl, Nat.le_of_ble_eq_true rfl⟩) (sd_preV hK hE hF (hP.sub (ws' := [(q1, .inr (6, [.ref q5, .int (nI n)])), (q5, .inl (gB g, 2000, .inl f))]) [0, 1] rfl) rfl rfl) rfl rfl hl.1 rfl (lv_room (Nat.le_of_ble_eq_true rfl)) d_Txt_isSymbol_17 ⟨Nat.zero_le _, Nat.zero_le _⟩) (fun r3 er3 => ?_)
      subst er3
      have hb8i := hb8 (a)
      refine sd_ri (va_runS (As := [.int (nI (tx (a)))]) (rest := []) ⟨hx, hb, hml, hown, hts⟩ (c_Txt_isDigit l (tx a) (hb8 a)) (va_cwS 1 hts (sd_gS k_236 k_237 k_24 k_238) rfl rfl rfl (by decide +kernel) ⟨Nat.le_of_ble_eq_true rfl, Nat.le_of_ble_eq_true rfl⟩) preEq rfl rfl hl.1 rfl (lv_room (Nat.le_of_ble_eq_true rfl)) d_Txt_isSymbol_20 ⟨Nat.zero_le _, Nat.zero_le _⟩) (fun r4 er4 => ?_)
      subst er4
      refine lv_if_eq (tgt := 28) hx hb d_Txt_isSymbol_23 (by decide) (fun c5 => ?_) (fun c5 => ?_)
      · have c5 := sb_eq0.mp c5
        refine lv_iload_n hx hb d_Txt_isSymbol_28 rfl (lv_at hl 1 rfl) ?_
        refine lv_istore_n (lv' := [(3, .int (nI a)), (0, .ref q1), (1, .int (nI a)), (2, .int (nI z))]) hx hb d_Txt_isSymbol_29 rfl hl (by decide) rfl (fun ls hl => ?_)
        refine sd_loopr (fun (i : Nat) ls => lv_has ls 4 [(3, .int (nI i)), (0, .ref q1), (1, .int (nI a)), (2, .int (nI z))] ∧ (a ≤ i) ∧ (i ≤ z) ∧ (∀ j, a ≤ j → j < i → isSy (tx j))) (fun (i : Nat) => z - i) 30 [] (fun i ls hI ih => ?_) (a) ⟨lv_sub hl [0, 1, 2, 3] rfl, Nat.le_refl _, by omega, fun j h5 h6 => absurd h6 (by omega)⟩
        obtain ⟨hl, h1, h2, h3⟩ := hI
        refine lv_iload_n hx hb d_Txt_isSymbol_30 rfl (lv_at hl 0 rfl) ?_
        refine lv_iload_n hx hb d_Txt_isSymbol_31 rfl (lv_at hl 3 rfl) ?_
        refine lv_icmp_ge (tgt := 54) hx hb d_Txt_isSymbol_32 (by decide) (fun c6 => ?_) (fun c6 => ?_)
        · have c6 := (nI_leI (by omega) (by omega)).mp c6
          have e1 : z = i := by omega
          subst e1
          refine lv_iconst (v := (nI 1)) hx hb d_Txt_isSymbol_54 (by decide) ?_
          exact W.zret (v := (nI 1)) hx hb hr (by first | rfl | decide | exact sb_nar) (fun t ht hW => ⟨_, rfl, (sb_t ⟨by omega, by omega, c5, h3⟩).symm, ht⟩) (fun _ h => by cases h) d_Txt_isSymbol_55
        · have c6 := mt (nI_leI (by omega) (by omega)).mpr c6
          refine lv_aload_n hx hb d_Txt_isSymbol_35 rfl (lv_at hl 1 rfl) ?_
          refine lv_iload_n hx hb d_Txt_isSymbol_36 rfl (lv_at hl 0 rfl) ?_
          refine sd_ri (va_runV (As := [.int (nI i)]) (rest := []) ⟨hx, hb, hml, hown, hts⟩ (c_Txt_byteAt l g q1 q5 n f tx hT (i) (by omega)) (cwV 1 hts (sd_gV k_200 k_201 k_202 k_24 k_203) rfl rfl rfl (by decide +kernel) ⟨Nat.le_of_ble_eq_true rfl, Nat.le_of_ble_eq_true rfl⟩) (sd_preV hK hE hF (hP.sub (ws' := [(q1, .inr (6, [.ref q5, .int (nI n)])), (q5, .inl (gB g, 2000, .inl f))]) [0, 1] rfl) rfl rfl) rfl rfl hl.1 rfl (lv_room (Nat.le_of_ble_eq_true rfl)) d_Txt_isSymbol_37 ⟨Nat.zero_le _, Nat.zero_le _⟩) (fun r7 er7 => ?_)
          subst er7
          have hb8i := hb8 (i)
          refine sd_ri (va_runS (As := [.int (nI (tx (i)))]) (rest := []) ⟨hx, hb, hml, hown, hts⟩ (c_Txt_isSymbolSign l (tx i) (hb8 i)) (va_cwS 1 hts (sd_gS k_239 k_240 k_24 k_241) rfl rfl rfl (by decide +kernel) ⟨Nat.le_of_ble_eq_true rfl, Nat.le_of_ble_eq_true rfl⟩) preEq rfl rfl hl.1 rfl (lv_room (Nat.le_of_ble_eq_true rfl)) d_Txt_isSymbol_40 ⟨Nat.zero_le _, Nat.zero_le _⟩) (fun r8 er8 => ?_)
          subst er8
          refine lv_if_ne (tgt := 48) hx hb d_Txt_isSymbol_43 (by decide) (fun c9 => ?_) (fun c9 => ?_)
          · have c9 := sb_ne0.mp c9
            refine lv_iinc (v := (nI (i + 1))) (lv' := [(3, .int (nI (i + 1))), (0, .ref q1), (1, .int (nI a)), (2, .int (nI z))]) hx hb d_Txt_isSymbol_48 hl (k := 0) rfl (nI_1 _) (by decide) rfl (fun ls hl => ?_)
            refine lv_goto (tgt := 30) hx hb d_Txt_isSymbol_51 (by decide) ?_
            exact ih (i + 1) _ ⟨lv_sub hl [0, 1, 2, 3] rfl, by omega, by omega, fun j h5 h6 => by
                rcases Nat.lt_or_ge j i with q | q
                · exact h3 j h5 q
                · have : j = i := by omega
                  subst this; exact c9⟩ (show z - (i + 1) < z - i by omega)
          · have c9 := sb_eq0.mp c9
            refine lv_iconst (v := (nI 0)) hx hb d_Txt_isSymbol_46 (by decide) ?_
            exact W.zret (v := (nI 0)) hx hb hr (by first | rfl | decide | exact sb_nar) (fun t ht hW => ⟨_, rfl, (sb_f (fun q => c9 (q.2.2.2 i h1 (by omega)))).symm, ht⟩) (fun _ h => by cases h) d_Txt_isSymbol_47
      · have c5 := sb_ne0.mp c5
        refine lv_iconst (v := (nI 0)) hx hb d_Txt_isSymbol_26 (by decide) ?_
        exact W.zret (v := (nI 0)) hx hb hr (by first | rfl | decide | exact sb_nar) (fun t ht hW => ⟨_, rfl, (sb_f (fun q => q.2.2.1 c5)).symm, ht⟩) (fun _ h => by cases h) d_Txt_isSymbol_27
set_option maxHeartbeats 4000000 in
set_option maxRecDepth 100000 in
/-- number(a, z) -/
theorem c_Txt_number (l : Launch) (g : sdG) (q1 q5 n : Nat) (f : Nat → Int32) (tx : Nat → Nat) (hT : TXok n f tx) (a z : Nat) (ha : a ≤ 2001) (hz : z ≤ 2001) : Met l y_Txt_number (.code y_Txt_number b_Txt_number 5 (some .int) :: sdT) ({ frames := 1, cells := 0, slots := 0, locals := 21 }) (va_Pc [.ref q1, .int (nI a), .int (nI z)] (sdR g [(q1, .inr (6, [.ref q5, .int (nI n)])), (q5, .inl (gB g, 2000, .inl f))])) (vp_Si (fun r => ((a < z ∧ z ≤ a + 5 ∧ (∀ j, a ≤ j → j < z → isDg (tx j)) ∧ nV tx a (z - a) ≤ 32767) ∧ r = nI (nV tx a (z - a))) ∨ (¬ (a < z ∧ z ≤ a + 5 ∧ (∀ j, a ≤ j → j < z → isDg (tx j)) ∧ nV tx a (z - a) ≤ 32767) ∧ r = -1))) 0 0 (fun _ => False) := by
  refine Met.ofW (cc := b_Txt_number) (maxL := 5) (ret := (some .int)) (by decide) rfl ?_
  intro p e s m args below meth c s₁ B hml hv
  obtain ⟨rfl, hP, hK, hE⟩ := hv
  have hx := B.exec
  have hb := B.bytes
  have hr := B.returns
  have hts := fun (w : Cond) (h : w ∈ sdT) => atoms_spec (ws := (.code y_Txt_number b_Txt_number 5 (some .int) :: sdT)) B.pre w (List.mem_cons_of_mem _ h)
  have hown : s.vm.findClass "SignDesk$Text" = some m.cls := findClass_of_methodNamed B.named
  have hlocks := B.notSynchronized
  have hF : ∀ a : Nat, a < s.heap.size → ¬ sdA g a → s.heap[a]? = s.heap[a]? := fun _ _ _ => rfl
  have hP : sdP g [(q1, .inr (6, [.ref q5, .int (nI n)])), (q5, .inl (gB g, 2000, .inl f))] s.heap := hP
  have hl := lv_entry ([.ref q1, .int (nI a), .int (nI z)]) (n := 5) (Nat.le_of_ble_eq_true rfl)
  rw [lg_entry_eq]
  generalize (lg_sl ([.ref q1, .int (nI a), .int (nI z)]) ++ List.replicate (5 - (lg_sl ([.ref q1, .int (nI a), .int (nI z)])).length) Slot.unset).toArray = ls at hl ⊢
  have hl : lv_has ls 5 [(0, .ref q1), (1, .int (nI a)), (2, .int (nI z))] := hl
  have hn := hT.1
  have hb8 := hT.2.1
  refine lv_iload_n hx hb d_Txt_number_0 rfl (lv_at hl 2 rfl) ?_
  refine lv_iload_n hx hb d_Txt_number_1 rfl (lv_at hl 1 rfl) ?_
  refine lv_isub hx hb d_Txt_number_2 ?_
  refine lv_iconst (v := (nI 1)) hx hb d_Txt_number_3 (by decide) ?_
  refine lv_icmp_lt (tgt := 14) hx hb d_Txt_number_4 (by decide) (fun c1 => ?_) (fun c1 => ?_)
  · have c1 := (sd_subLt (by omega) (by omega) (by omega)).mp c1
    refine lv_iconst (v := (-1)) hx hb d_Txt_number_14 (by decide) ?_
    exact W.iret (v := (-1)) hx hb hr  (fun t ht hW => ⟨_, rfl, Or.inr ⟨fun q => absurd q.1 (by omega), rfl⟩, ht⟩) (fun _ h => by cases h) d_Txt_number_15
  · have c1 := mt (sd_subLt (by omega) (by omega) (by omega)).mpr c1
    refine lv_iload_n hx hb d_Txt_number_7 rfl (lv_at hl 2 rfl) ?_
    refine lv_iload_n hx hb d_Txt_number_8 rfl (lv_at hl 1 rfl) ?_
    refine lv_isub hx hb d_Txt_number_9 ?_
    refine lv_iconst (v := (nI 5)) hx hb d_Txt_number_10 (by decide) ?_
    refine lv_icmp_le (tgt := 16) hx hb d_Txt_number_11 (by decide) (fun c2 => ?_) (fun c2 => ?_)
    · have c2 := (sd_subLe (by omega) (by omega) (by omega)).mp c2
      refine lv_iconst (v := (nI 0)) hx hb d_Txt_number_16 (by decide) ?_
      refine lv_istore_n (lv' := [(3, .int (nI 0)), (0, .ref q1), (1, .int (nI a)), (2, .int (nI z))]) hx hb d_Txt_number_17 rfl hl (by decide) rfl (fun ls hl => ?_)
      refine lv_iload_n hx hb d_Txt_number_18 rfl (lv_at hl 2 rfl) ?_
      refine lv_istore (lv' := [(4, .int (nI a)), (3, .int (nI 0)), (0, .ref q1), (1, .int (nI a)), (2, .int (nI z))]) hx hb d_Txt_number_19 hl (by decide) rfl (fun ls hl => ?_)
      refine sd_loopr (fun (i : Nat) ls => lv_has ls 5 [(4, .int (nI i)), (3, .int (nI (nV tx a (i - a)))), (0, .ref q1), (1, .int (nI a)), (2, .int (nI z))] ∧ (a ≤ i) ∧ (i ≤ z) ∧ (∀ j, a ≤ j → j < i → isDg (tx j))) (fun (i : Nat) => z - i) 21 [] (fun i ls hI ih => ?_) (a) ⟨by rw [Nat.sub_self]; exact lv_sub hl [0, 1, 2, 3, 4] rfl, Nat.le_refl _, by omega, fun j h5 h6 => absurd h6 (by omega)⟩
      obtain ⟨hl, h1, h2, h3⟩ := hI
      have h4 : nV tx a (i - a) < 10 ^ (i - a) := nV_lt (fun j h5 h6 => h3 j h5 (by omega))
      refine lv_iload hx hb d_Txt_number_21 (lv_at hl 0 rfl) ?_
      refine lv_iload_n hx hb d_Txt_number_23 rfl (lv_at hl 4 rfl) ?_
      refine lv_icmp_ge (tgt := 62) hx hb d_Txt_number_24 (by decide) (fun c3 => ?_) (fun c3 => ?_)
      · have c3 := (nI_leI (by omega) (by omega)).mp c3
        have e1 : z = i := by omega
        subst e1
        have h5 : (10 : Nat) ^ (z - a) ≤ 10 ^ 5 := Nat.pow_le_pow_right (by decide) (by omega)
        refine lv_iload_n hx hb d_Txt_number_62 rfl (lv_at hl 1 rfl) ?_
        refine lv_sipush (v := (nI 32767)) hx hb d_Txt_number_63 (by decide) ?_
        refine lv_icmp_gt (tgt := 73) hx hb d_Txt_number_66 (by decide) (fun c4 => ?_) (fun c4 => ?_)
        · have c4 := (nI_ltI (by omega) (by omega)).mp c4
          refine lv_iconst (v := (-1)) hx hb d_Txt_number_73 (by decide) ?_
          exact W.iret (v := (-1)) hx hb hr  (fun t ht hW => ⟨_, rfl, Or.inr ⟨fun q => absurd q.2.2.2 (by omega), rfl⟩, ht⟩) (fun _ h => by cases h) d_Txt_number_74
        · have c4 := mt (nI_ltI (by omega) (by omega)).mpr c4
          refine lv_iload_n hx hb d_Txt_number_69 rfl (lv_at hl 1 rfl) ?_
          refine lv_goto (tgt := 74) hx hb d_Txt_number_70 (by decide) ?_
          exact W.iret (v := (nI (nV tx a (z - a)))) hx hb hr  (fun t ht hW => ⟨_, rfl, Or.inl ⟨⟨by omega, by omega, h3, by omega⟩, rfl⟩, ht⟩) (fun _ h => by cases h) d_Txt_number_74
      · have c3 := mt (nI_leI (by omega) (by omega)).mpr c3
        have h5 : (10 : Nat) ^ (i - a) ≤ 10 ^ 4 := Nat.pow_le_pow_right (by decide) (by omega)
        refine lv_aload_n hx hb d_Txt_number_27 rfl (lv_at hl 2 rfl) ?_
        refine lv_iload hx hb d_Txt_number_28 (lv_at hl 0 rfl) ?_
        refine sd_ri (va_runV (As := [.int (nI i)]) (rest := []) ⟨hx, hb, hml, hown, hts⟩ (c_Txt_byteAt l g q1 q5 n f tx hT (i) (by omega)) (cwV 1 hts (sd_gV k_200 k_201 k_202 k_24 k_203) rfl rfl rfl (by decide +kernel) ⟨Nat.le_of_ble_eq_true rfl, Nat.le_of_ble_eq_true rfl⟩) (sd_preV hK hE hF (hP.sub (ws' := [(q1, .inr (6, [.ref q5, .int (nI n)])), (q5, .inl (gB g, 2000, .inl f))]) [0, 1] rfl) rfl rfl) rfl rfl hl.1 rfl (lv_room (Nat.le_of_ble_eq_true rfl)) d_Txt_number_30 ⟨Nat.zero_le _, Nat.zero_le _⟩) (fun r5 er5 => ?_)
        subst er5
        have hb8i := hb8 (i)
        refine sd_ri (va_runS (As := [.int (nI (tx (i)))]) (rest := []) ⟨hx, hb, hml, hown, hts⟩ (c_Txt_isDigit l (tx i) (hb8 i)) (va_cwS 1 hts (sd_gS k_236 k_237 k_24 k_238) rfl rfl rfl (by decide +kernel) ⟨Nat.le_of_ble_eq_true rfl, Nat.le_of_ble_eq_true rfl⟩) preEq rfl rfl hl.1 rfl (lv_room (Nat.le_of_ble_eq_true rfl)) d_Txt_number_33 ⟨Nat.zero_le _, Nat.zero_le _⟩) (fun r6 er6 => ?_)
        subst er6
        refine lv_if_ne (tgt := 41) hx hb d_Txt_number_36 (by decide) (fun c7 => ?_) (fun c7 => ?_)
        · have c7 := sb_ne0.mp c7
          refine lv_bipush (v := (nI 10)) hx hb d_Txt_number_41 (by decide) ?_
          refine lv_iload_n hx hb d_Txt_number_43 rfl (lv_at hl 1 rfl) ?_
          refine lv_imul hx hb d_Txt_number_44 ?_
          refine sd_topi (y := nI (10 * (nV tx a (i - a)))) (pk_mul _ _) ?_
          refine lv_aload_n hx hb d_Txt_number_45 rfl (lv_at hl 2 rfl) ?_
          refine lv_iload hx hb d_Txt_number_46 (lv_at hl 0 rfl) ?_
          refine sd_ri (va_runV (As := [.int (nI i)]) (rest := [.int (nI (10 * (nV tx a (i - a))))]) ⟨hx, hb, hml, hown, hts⟩ (c_Txt_byteAt l g q1 q5 n f tx hT (i) (by omega)) (cwV 1 hts (sd_gV k_200 k_201 k_202 k_24 k_203) rfl rfl rfl (by decide +kernel) ⟨Nat.le_of_ble_eq_true rfl, Nat.le_of_ble_eq_true rfl⟩) (sd_preV hK hE hF (hP.sub (ws' := [(q1, .inr (6, [.ref q5, .int (nI n)])), (q5, .inl (gB g, 2000, .inl f))]) [0, 1] rfl) rfl rfl) rfl rfl hl.1 rfl (lv_room (Nat.le_of_ble_eq_true rfl)) d_Txt_number_48 ⟨Nat.zero_le _, Nat.zero_le _⟩) (fun r8 er8 => ?_)
          subst er8
          have hb8i := hb8 (i)
          refine lv_iadd hx hb d_Txt_number_51 ?_
          refine sd_topi (y := nI ((10 * (nV tx a (i - a))) + (tx (i)))) (nI_add _ _) ?_
          refine lv_bipush (v := (nI 48)) hx hb d_Txt_number_52 (by decide) ?_
          refine lv_isub hx hb d_Txt_number_54 ?_
          refine sd_topi (y := nI (nV tx a (i + 1 - a))) (by
              rw [pk_sub (by omega)]
              have e2 : i + 1 - a = (i - a) + 1 := by omega
              have e3 : a + (i - a) = i := by omega
              rw [e2, nV, e3]
              congr 1
              omega) ?_
          refine lv_istore_n (lv' := [(3, .int (nI (nV tx a (i + 1 - a)))), (4, .int (nI i)), (0, .ref q1), (1, .int (nI a)), (2, .int (nI z))]) hx hb d_Txt_number_55 rfl hl (by decide) rfl (fun ls hl => ?_)
          refine lv_iinc (v := (nI (i + 1))) (lv' := [(4, .int (nI (i + 1))), (3, .int (nI (nV tx a (i + 1 - a)))), (0, .ref q1), (1, .int (nI a)), (2, .int (nI z))]) hx hb d_Txt_number_56 hl (k := 1) rfl (nI_1 _) (by decide) rfl (fun ls hl => ?_)
          refine lv_goto (tgt := 21) hx hb d_Txt_number_59 (by decide) ?_
          exact ih (i + 1) _ ⟨lv_sub hl [0, 1, 2, 3, 4] rfl, by omega, by omega, fun j h5 h6 => by
              rcases Nat.lt_or_ge j i with q | q
              · exact h3 j h5 q
              · have : j = i := by omega
                subst this; exact c7⟩ (show z - (i + 1) < z - i by omega)
        · have c7 := sb_eq0.mp c7
          refine lv_iconst (v := (-1)) hx hb d_Txt_number_39 (by decide) ?_
          exact W.iret (v := (-1)) hx hb hr  (fun t ht hW => ⟨_, rfl, Or.inr ⟨fun q => c7 (q.2.2.1 i h1 (by omega)), rfl⟩, ht⟩) (fun _ h => by cases h) d_Txt_number_40
    · have c2 := mt (sd_subLe (by omega) (by omega) (by omega)).mpr c2
      refine lv_iconst (v := (-1)) hx hb d_Txt_number_14 (by decide) ?_
      exact W.iret (v := (-1)) hx hb hr  (fun t ht hW => ⟨_, rfl, Or.inr ⟨fun q => absurd q.2.1 (by omega), rfl⟩, ht⟩) (fun _ h => by cases h) d_Txt_number_15
end
section
/-- the literals as numbers, and the names in them -/
def sd_bn : List (List Nat) := [[82, 48, 32, 82, 49, 32, 82, 50, 32, 82, 51, 32, 82, 52, 32, 82, 53, 32, 82, 54, 32, 82, 55, 32, 82, 56, 32, 82, 57, 32, 82, 49, 48, 32, 82, 49, 49, 32, 82, 49, 50, 32, 82, 49, 51, 32, 82, 49, 52, 32, 82, 49, 53, 32, 83, 80, 32, 76, 67, 76, 32, 65, 82, 71, 32, 84, 72, 73, 83, 32, 84, 72, 65, 84, 32, 83, 67, 82, 69, 69, 78, 32, 75, 66, 68], [77, 32, 68, 32, 77, 68, 32, 65, 32, 65, 77, 32, 65, 68, 32, 65, 77, 68], [74, 71, 84, 32, 74, 69, 81, 32, 74, 71, 69, 32, 74, 76, 84, 32, 74, 78, 69, 32, 74, 76, 69, 32, 74, 77, 80], [48, 32, 49, 32, 45, 49, 32, 68, 32, 65, 32, 33, 68, 32, 33, 65, 32, 45, 68, 32, 45, 65, 32, 68, 43, 49, 32, 65, 43, 49, 32, 68, 45, 49, 32, 65, 45, 49, 32, 68, 43, 65, 32, 68, 45, 65, 32, 65, 45, 68, 32, 68, 38, 65, 32, 68, 124, 65], [77, 32, 33, 77, 32, 45, 77, 32, 77, 43, 49, 32, 77, 45, 49, 32, 68, 43, 77, 32, 68, 45, 77, 32, 77, 45, 68, 32, 68, 38, 77, 32, 68, 124, 77]]
def sd_nm : List (List (List Nat)) := [[[82, 48], [82, 49], [82, 50], [82, 51], [82, 52], [82, 53], [82, 54], [82, 55], [82, 56], [82, 57], [82, 49, 48], [82, 49, 49], [82, 49, 50], [82, 49, 51], [82, 49, 52], [82, 49, 53], [83, 80], [76, 67, 76], [65, 82, 71], [84, 72, 73, 83], [84, 72, 65, 84], [83, 67, 82, 69, 69, 78], [75, 66, 68]], [[77], [68], [77, 68], [65], [65, 77], [65, 68], [65, 77, 68]], [[74, 71, 84], [74, 69, 81], [74, 71, 69], [74, 76, 84], [74, 78, 69], [74, 76, 69], [74, 77, 80]], [[48], [49], [45, 49], [68], [65], [33, 68], [33, 65], [45, 68], [45, 65], [68, 43, 49], [65, 43, 49], [68, 45, 49], [65, 45, 49], [68, 43, 65], [68, 45, 65], [65, 45, 68], [68, 38, 65], [68, 124, 65]], [[77], [33, 77], [45, 77], [77, 43, 49], [77, 45, 49], [68, 43, 77], [68, 45, 77], [77, 45, 68], [68, 38, 77], [68, 124, 77]]]
def sd_cn (k i : Nat) : Nat := (sd_bn.getD k []).getD i 0
theorem sd_cn_ok : ∀ k, k < 5 → ∀ i, i < sd_len.getD k 0 → ((((sd_byt.getD k []).getD i 0) &&& 255).toUInt32 % 65536).toInt32 = nI (sd_cn k i) ∧ sd_cn k i < 256 ∧ narrow .char (.int (nI (sd_cn k i))) = .int (nI (sd_cn k i)) := by decide +kernel
theorem sd_ln_ok : ∀ k, k < 5 → sd_len.getD k 0 = (sd_bn.getD k []).length ∧ sd_len.getD k 0 < 100 := by decide +kernel
/-- names with one blank between any two -/
def nmStr : List (List Nat) → List Nat
  | [] => []
  | [w] => w
  | w :: w2 :: ws => w ++ 32 :: nmStr (w2 :: ws)
theorem sd_nm_ok : ∀ k, k < 5 → nmStr (sd_nm.getD k []) = sd_bn.getD k [] ∧ sd_nm.getD k [] ≠ [] ∧ (sd_nm.getD k []).all (fun w => w.all (fun c => c != 32)) = true := by decide +kernel
/-- the first of the names that M holds of: its number; -1 if there is none -/
noncomputable def nmF (M : List Nat → Prop) : List (List Nat) → Nat → Int32
  | [], _ => -1
  | w :: ws, k => @ite _ (M w) (Classical.propDecidable _) (nI k) (nmF M ws (k + 1))
theorem nmF_t {M : List Nat → Prop} {w : List Nat} {ws : List (List Nat)} {k : Nat} (h : M w) : nmF M (w :: ws) k = nI k := @if_pos _ (Classical.propDecidable _) h _ _ _
theorem nmF_f {M : List Nat → Prop} {w : List Nat} {ws : List (List Nat)} {k : Nat} (h : ¬ M w) : nmF M (w :: ws) k = nmF M ws (k + 1) := @if_neg _ (Classical.propDecidable _) h _ _ _
/-- the signs from a to z are the name w -/
def nmM (tx : Nat → Nat) (a z : Nat) (w : List Nat) : Prop := a + w.length = z ∧ ∀ t, t < w.length → w.getD t 0 = tx (a + t)
theorem nmS_in {w : List Nat} {rest : List (List Nat)} {j : Nat} (h : j < w.length) : (nmStr (w :: rest)).getD j 0 = w.getD j 0 := by
  cases rest with
  | nil => rfl
  | cons w2 ws => simp [nmStr, List.getElem?_append_left h]
theorem nmS_sep {w w2 : List Nat} {ws : List (List Nat)} : (nmStr (w :: w2 :: ws)).getD w.length 0 = 32 := by simp [nmStr]
theorem nmS_drop {w w2 : List Nat} {ws : List (List Nat)} : (nmStr (w :: w2 :: ws)).drop (w.length + 1) = nmStr (w2 :: ws) := by
  show (w ++ 32 :: nmStr (w2 :: ws)).drop (w.length + 1) = _
  rw [List.drop_append]
  simp
theorem nmS_len1 {w : List Nat} : (nmStr [w]).length = w.length := rfl
theorem nmS_len2 {w w2 : List Nat} {ws : List (List Nat)} : (nmStr (w :: w2 :: ws)).length = w.length + 1 + (nmStr (w2 :: ws)).length := by
  show (w ++ 32 :: nmStr (w2 :: ws)).length = _
  simp; omega
theorem nmS_len {w : List Nat} {rest : List (List Nat)} : w.length ≤ (nmStr (w :: rest)).length := by
  cases rest with
  | nil => exact Nat.le_refl _
  | cons w2 ws => rw [nmS_len2]; omega
theorem nmS_at {B : List Nat} {st j : Nat} {l : List Nat} (h : B.drop st = l) : B.getD (st + j) 0 = l.getD j 0 := by
  rw [← h]; simp
set_option maxHeartbeats 4000000 in
set_option maxRecDepth 100000 in
/-- coder() of a literal -/
theorem c_JS_coder (l : Launch) (g : sdG) (k : Nat) (hk : k < 5) : Met l y_JS_coder (.code y_JS_coder b_JS_coder 1 (some .byte) :: sdT) ({ frames := 0, cells := 0, slots := 0, locals := 0 }) (va_Pc [.ref (gk g k)] (sdR g [])) (vp_Si (fun r => r = 0)) 0 0 (fun _ => False) := by
  refine va_MetF (cc := b_JS_coder) (maxL := 1) (ret := (some .byte)) (by decide +kernel) rfl ?_
  intro p e s m args below meth c s₁ B hml hv
  obtain ⟨rfl, hP, hK, hE⟩ := hv
  have hx := B.exec
  have hb := B.bytes
  have hr := B.returns
  have hts := fun (w : Cond) (h : w ∈ sdT) => atoms_spec (ws := (.code y_JS_coder b_JS_coder 1 (some .byte) :: sdT)) B.pre w (List.mem_cons_of_mem _ h)
  have hown : s.vm.findClass "java/lang/String" = some m.cls := findClass_of_methodNamed B.named
  have hlocks := B.notSynchronized
  have hF : ∀ a : Nat, a < s.heap.size → ¬ sdA g a → s.heap[a]? = s.heap[a]? := fun _ _ _ => rfl
  have hP : sdP g [] s.heap := hP
  have hl := lv_entry ([.ref (gk g k)]) (n := 1) (Nat.le_of_ble_eq_true rfl)
  rw [lg_entry_eq]
  generalize (lg_sl ([.ref (gk g k)]) ++ List.replicate (1 - (lg_sl ([.ref (gk g k)])).length) Slot.unset).toArray = ls at hl ⊢
  have hl : lv_has ls 1 [(0, .ref (gk g k))] := hl
  have hS0 : va_S (sdA g) s.heap s.heap [] := va_S.rf
  refine va_gets hx hb (v := .int 1) hE.1 hS0 hown (hts _ k_261) (fun _ h9 => h9) d_JS_coder_0 ?_
  refine lv_if_eq (tgt := 13) hx hb d_JS_coder_3 (by decide) (fun c1 => ?_) (fun c1 => ?_)
  · exact absurd c1 (by decide)
  · refine lv_aload_n hx hb d_JS_coder_6 rfl (lv_at hl 0 rfl) ?_
    refine vk_getf hx hb (v := .int 0) (hE.2.2.2.2.2.1.1 k hk).2.1 hS0 hown (hts _ k_659) (fun _ h9 => h9) d_JS_coder_7 ?_
    refine lv_goto (tgt := 14) hx hb d_JS_coder_10 (by decide) ?_
    exact W.zret (v := 0) hx hb hr (by first | rfl | decide | exact (sd_cn_ok k hk i hi).2.2) (fun t ht hW => ⟨_, rfl, rfl, ht⟩) (fun _ h => by cases h) d_JS_coder_14
set_option maxHeartbeats 4000000 in
set_option maxRecDepth 100000 in
/-- isLatin1() of a literal -/
theorem c_JS_isLatin1 (l : Launch) (g : sdG) (k : Nat) (hk : k < 5) : Met l y_JS_isLatin1 (.code y_JS_isLatin1 b_JS_isLatin1 1 (some .boolean) :: sdT) ({ frames := 0, cells := 0, slots := 0, locals := 0 }) (va_Pc [.ref (gk g k)] (sdR g [])) (vp_Si (fun r => r = 1)) 0 0 (fun _ => False) := by
  refine va_MetF (cc := b_JS_isLatin1) (maxL := 1) (ret := (some .boolean)) (by decide +kernel) rfl ?_
  intro p e s m args below meth c s₁ B hml hv
  obtain ⟨rfl, hP, hK, hE⟩ := hv
  have hx := B.exec
  have hb := B.bytes
  have hr := B.returns
  have hts := fun (w : Cond) (h : w ∈ sdT) => atoms_spec (ws := (.code y_JS_isLatin1 b_JS_isLatin1 1 (some .boolean) :: sdT)) B.pre w (List.mem_cons_of_mem _ h)
  have hown : s.vm.findClass "java/lang/String" = some m.cls := findClass_of_methodNamed B.named
  have hlocks := B.notSynchronized
  have hF : ∀ a : Nat, a < s.heap.size → ¬ sdA g a → s.heap[a]? = s.heap[a]? := fun _ _ _ => rfl
  have hP : sdP g [] s.heap := hP
  have hl := lv_entry ([.ref (gk g k)]) (n := 1) (Nat.le_of_ble_eq_true rfl)
  rw [lg_entry_eq]
  generalize (lg_sl ([.ref (gk g k)]) ++ List.replicate (1 - (lg_sl ([.ref (gk g k)])).length) Slot.unset).toArray = ls at hl ⊢
  have hl : lv_has ls 1 [(0, .ref (gk g k))] := hl
  have hS0 : va_S (sdA g) s.heap s.heap [] := va_S.rf
  refine va_gets hx hb (v := .int 1) hE.1 hS0 hown (hts _ k_261) (fun _ h9 => h9) d_JS_isLatin1_0 ?_
  refine lv_if_eq (tgt := 17) hx hb d_JS_isLatin1_3 (by decide) (fun c1 => ?_) (fun c1 => ?_)
  · exact absurd c1 (by decide)
  · refine lv_aload_n hx hb d_JS_isLatin1_6 rfl (lv_at hl 0 rfl) ?_
    refine vk_getf hx hb (v := .int 0) (hE.2.2.2.2.2.1.1 k hk).2.1 hS0 hown (hts _ k_659) (fun _ h9 => h9) d_JS_isLatin1_7 ?_
    refine lv_if_ne (tgt := 17) hx hb d_JS_isLatin1_10 (by decide) (fun c2 => ?_) (fun c2 => ?_)
    · exact absurd rfl c2
    · refine lv_iconst (v := (nI 1)) hx hb d_JS_isLatin1_13 (by decide) ?_
      refine lv_goto (tgt := 18) hx hb d_JS_isLatin1_14 (by decide) ?_
      exact W.zret (v := (nI 1)) hx hb hr (by first | rfl | decide | exact (sd_cn_ok k hk i hi).2.2) (fun t ht hW => ⟨_, rfl, rfl, ht⟩) (fun _ h => by cases h) d_JS_isLatin1_18
set_option maxHeartbeats 4000000 in
set_option maxRecDepth 100000 in
/-- length() of a literal -/
theorem c_JS_length (l : Launch) (g : sdG) (k : Nat) (hk : k < 5) : Met l y_JS_length (.code y_JS_length b_JS_length 1 (some .int) :: sdT) ({ frames := 1, cells := 0, slots := 0, locals := 20 }) (va_Pc [.ref (gk g k)] (sdR g [])) (vp_Si (fun r => r = nI (sd_len.getD k 0))) 0 0 (fun _ => False) := by
  refine va_MetF (cc := b_JS_length) (maxL := 1) (ret := (some .int)) (by decide +kernel) rfl ?_
  intro p e s m args below meth c s₁ B hml hv
  obtain ⟨rfl, hP, hK, hE⟩ := hv
  have hx := B.exec
  have hb := B.bytes
  have hr := B.returns
  have hts := fun (w : Cond) (h : w ∈ sdT) => atoms_spec (ws := (.code y_JS_length b_JS_length 1 (some .int) :: sdT)) B.pre w (List.mem_cons_of_mem _ h)
  have hown : s.vm.findClass "java/lang/String" = some m.cls := findClass_of_methodNamed B.named
  have hlocks := B.notSynchronized
  have hF : ∀ a : Nat, a < s.heap.size → ¬ sdA g a → s.heap[a]? = s.heap[a]? := fun _ _ _ => rfl
  have hP : sdP g [] s.heap := hP
  have hl := lv_entry ([.ref (gk g k)]) (n := 1) (Nat.le_of_ble_eq_true rfl)
  rw [lg_entry_eq]
  generalize (lg_sl ([.ref (gk g k)]) ++ List.replicate (1 - (lg_sl ([.ref (gk g k)])).length) Slot.unset).toArray = ls at hl ⊢
  have hl : lv_has ls 1 [(0, .ref (gk g k))] := hl
  have hS0 : va_S (sdA g) s.heap s.heap [] := va_S.rf
  refine lv_aload_n hx hb d_JS_length_0 rfl (lv_at hl 0 rfl) ?_
  refine vk_getf hx hb (v := .ref (gv g k)) (hE.2.2.2.2.2.1.1 k hk).2.2.1 hS0 hown (hts _ k_658) (fun _ h9 => h9) d_JS_length_1 ?_
  refine va_tlen hx hb (hE.2.2.2.2.2.1.1 k hk).2.2.2 hS0 (v := nI (sd_len.getD k 0)) rfl d_JS_length_4 ?_
  refine lv_aload_n hx hb d_JS_length_5 rfl (lv_at hl 0 rfl) ?_
  refine sd_ri (va_runV (As := []) (rest := [.int (nI (sd_len.getD k 0))]) ⟨hx, hb, hml, hown, hts⟩ (c_JS_coder l g k hk) (cwV 0 hts (sd_gV k_257 k_258 k_259 k_31 k_260) rfl rfl rfl (by decide +kernel) ⟨Nat.le_of_ble_eq_true rfl, Nat.le_of_ble_eq_true rfl⟩) (sd_preStr hK hE hF hk) rfl rfl hl.1 rfl (lv_room (Nat.le_of_ble_eq_true rfl)) d_JS_length_6 ⟨Nat.zero_le _, Nat.zero_le _⟩) (fun r1 er1 => ?_)
  subst er1
  refine lv_ishr hx hb d_JS_length_9 ?_
  refine sd_topi (y := nI (sd_len.getD k 0)) (sb_shr0 _) ?_
  exact W.iret (v := (nI (sd_len.getD k 0))) hx hb hr (fun t ht hW => ⟨_, rfl, rfl, ht⟩) (fun _ h => by cases h) d_JS_length_10
set_option maxHeartbeats 4000000 in
set_option maxRecDepth 100000 in
/-- checkIndex(i, L, f) -/
theorem c_JP_ci0 (l : Launch) (i L : Nat) (hi : i < L) (hL : L < 2 ^ 31) : Met l y_JP_checkIndex (.code y_JP_checkIndex b_JP_checkIndex 3 (some .int) :: sdT) ({ frames := 0, cells := 0, slots := 0, locals := 0 }) (fun v _ => v = ([.int (nI i), .int (nI L), .null] : List Value).toArray) (vp_Si (fun r => True)) 0 0 (fun _ => False) := by
  refine va_MetF (cc := b_JP_checkIndex) (maxL := 3) (ret := (some .int)) (by decide +kernel) rfl ?_
  intro p e s m args below meth c s₁ B hml hv
  subst hv
  have hx := B.exec
  have hb := B.bytes
  have hr := B.returns
  have hlocks := B.notSynchronized
  have hl := lv_entry ([.int (nI i), .int (nI L), .null]) (n := 3) (Nat.le_of_ble_eq_true rfl)
  rw [lg_entry_eq]
  generalize (lg_sl ([.int (nI i), .int (nI L), .null]) ++ List.replicate (3 - (lg_sl ([.int (nI i), .int (nI L), .null])).length) Slot.unset).toArray = ls at hl ⊢
  have hl : lv_has ls 3 [(0, .int (nI i)), (1, .int (nI L)), (2, .null)] := hl
  refine lv_iload_n hx hb d_JP_checkIndex_0 rfl (lv_at hl 0 rfl) ?_
  refine lv_if_lt (tgt := 9) hx hb d_JP_checkIndex_1 (by decide) (fun c1 => ?_) (fun c1 => ?_)
  · exact absurd c1 (nI_pos (by omega))
  · refine lv_iload_n hx hb d_JP_checkIndex_4 rfl (lv_at hl 0 rfl) ?_
    refine lv_iload_n hx hb d_JP_checkIndex_5 rfl (lv_at hl 1 rfl) ?_
    refine lv_icmp_lt (tgt := 16) hx hb d_JP_checkIndex_6 (by decide) (fun c2 => ?_) (fun c2 => ?_)
    · refine lv_iload_n hx hb d_JP_checkIndex_16 rfl (lv_at hl 0 rfl) ?_
      exact W.iret (v := (nI i)) hx hb hr (fun t ht hW => ⟨_, rfl, trivial, ht⟩) (fun _ h => by cases h) d_JP_checkIndex_17
    · exact absurd (nI_lt hi hL) c2
set_option maxHeartbeats 4000000 in
set_option maxRecDepth 100000 in
/-- checkIndex(i, L, f) -/
theorem c_JP_ci1 (l : Launch) (t0 : Nat) (i L : Nat) (hi : i < L) (hL : L < 2 ^ 31) : Met l y_JP_checkIndex (.code y_JP_checkIndex b_JP_checkIndex 3 (some .int) :: sdT) ({ frames := 0, cells := 0, slots := 0, locals := 0 }) (fun v _ => v = ([.int (nI i), .int (nI L), .ref t0] : List Value).toArray) (vp_Si (fun r => True)) 0 0 (fun _ => False) := by
  refine va_MetF (cc := b_JP_checkIndex) (maxL := 3) (ret := (some .int)) (by decide +kernel) rfl ?_
  intro p e s m args below meth c s₁ B hml hv
  subst hv
  have hx := B.exec
  have hb := B.bytes
  have hr := B.returns
  have hlocks := B.notSynchronized
  have hl := lv_entry ([.int (nI i), .int (nI L), .ref t0]) (n := 3) (Nat.le_of_ble_eq_true rfl)
  rw [lg_entry_eq]
  generalize (lg_sl ([.int (nI i), .int (nI L), .ref t0]) ++ List.replicate (3 - (lg_sl ([.int (nI i), .int (nI L), .ref t0])).length) Slot.unset).toArray = ls at hl ⊢
  have hl : lv_has ls 3 [(0, .int (nI i)), (1, .int (nI L)), (2, .ref t0)] := hl
  refine lv_iload_n hx hb d_JP_checkIndex_0 rfl (lv_at hl 0 rfl) ?_
  refine lv_if_lt (tgt := 9) hx hb d_JP_checkIndex_1 (by decide) (fun c1 => ?_) (fun c1 => ?_)
  · exact absurd c1 (nI_pos (by omega))
  · refine lv_iload_n hx hb d_JP_checkIndex_4 rfl (lv_at hl 0 rfl) ?_
    refine lv_iload_n hx hb d_JP_checkIndex_5 rfl (lv_at hl 1 rfl) ?_
    refine lv_icmp_lt (tgt := 16) hx hb d_JP_checkIndex_6 (by decide) (fun c2 => ?_) (fun c2 => ?_)
    · refine lv_iload_n hx hb d_JP_checkIndex_16 rfl (lv_at hl 0 rfl) ?_
      exact W.iret (v := (nI i)) hx hb hr (fun t ht hW => ⟨_, rfl, trivial, ht⟩) (fun _ h => by cases h) d_JP_checkIndex_17
    · exact absurd (nI_lt hi hL) c2
set_option maxHeartbeats 4000000 in
set_option maxRecDepth 100000 in
/-- checkIndex(i, L) -/
theorem c_JS_checkIndex (l : Launch) (g : sdG) (i L : Nat) (hi : i < L) (hL : L < 2 ^ 31) : Met l y_JS_checkIndex (.code y_JS_checkIndex b_JS_checkIndex 2 none :: sdT) ({ frames := 1, cells := 0, slots := 0, locals := 22 }) (va_Pc [.int (nI i), .int (nI L)] (sdR g [])) (va_Sv (fun _ => True)) 0 0 (fun _ => False) := by
  refine va_MetF (cc := b_JS_checkIndex) (maxL := 2) (ret := none) (by decide +kernel) rfl ?_
  intro p e s m args below meth c s₁ B hml hv
  obtain ⟨rfl, hP, hK, hE⟩ := hv
  have hx := B.exec
  have hb := B.bytes
  have hr := B.returns
  have hts := fun (w : Cond) (h : w ∈ sdT) => atoms_spec (ws := (.code y_JS_checkIndex b_JS_checkIndex 2 none :: sdT)) B.pre w (List.mem_cons_of_mem _ h)
  have hown : s.vm.findClass "java/lang/String" = some m.cls := findClass_of_methodNamed B.named
  have hlocks := B.notSynchronized
  have hF : ∀ a : Nat, a < s.heap.size → ¬ sdA g a → s.heap[a]? = s.heap[a]? := fun _ _ _ => rfl
  have hP : sdP g [] s.heap := hP
  have hl := lv_entry ([.int (nI i), .int (nI L)]) (n := 2) (Nat.le_of_ble_eq_true rfl)
  rw [lg_entry_eq]
  generalize (lg_sl ([.int (nI i), .int (nI L)]) ++ List.replicate (2 - (lg_sl ([.int (nI i), .int (nI L)])).length) Slot.unset).toArray = ls at hl ⊢
  have hl : lv_has ls 2 [(0, .int (nI i)), (1, .int (nI L))] := hl
  have hS0 : va_S (sdA g) s.heap s.heap [] := va_S.rf
  refine lv_iload_n hx hb d_JS_checkIndex_0 rfl (lv_at hl 0 rfl) ?_
  refine lv_iload_n hx hb d_JS_checkIndex_1 rfl (lv_at hl 1 rfl) ?_
  rcases hE.2.1 with hZ | ⟨t0, hZ⟩
  · refine va_gets hx hb (v := .null) hZ hS0 hown (hts _ k_277) (fun _ h9 => h9) d_JS_checkIndex_2 ?_
    refine sd_ri (va_runS (As := [.int (nI i), .int (nI L), .null]) (rest := []) ⟨hx, hb, hml, hown, hts⟩ (c_JP_ci0 l i L hi hL) (va_cwS 3 hts (sd_gS k_279 k_280 k_33 k_281) rfl rfl rfl (by decide +kernel) ⟨Nat.le_of_ble_eq_true rfl, Nat.le_of_ble_eq_true rfl⟩) preEq rfl rfl hl.1 rfl (lv_room (Nat.le_of_ble_eq_true rfl)) d_JS_checkIndex_5 ⟨Nat.zero_le _, Nat.zero_le _⟩) (fun r1 er1 => ?_)
    refine lv_pop hx hb d_JS_checkIndex_8 rfl ?_
    exact W.vret hx hb hr (fun t ht hW => ⟨rfl, trivial, ht⟩) (fun _ h => by cases h) d_JS_checkIndex_9
  · refine va_gets hx hb (v := .ref t0) hZ hS0 hown (hts _ k_277) (fun _ h9 => h9) d_JS_checkIndex_2 ?_
    refine sd_ri (va_runS (As := [.int (nI i), .int (nI L), .ref t0]) (rest := []) ⟨hx, hb, hml, hown, hts⟩ (c_JP_ci1 l t0 i L hi hL) (va_cwS 3 hts (sd_gS k_279 k_280 k_33 k_281) rfl rfl rfl (by decide +kernel) ⟨Nat.le_of_ble_eq_true rfl, Nat.le_of_ble_eq_true rfl⟩) preEq rfl rfl hl.1 rfl (lv_room (Nat.le_of_ble_eq_true rfl)) d_JS_checkIndex_5 ⟨Nat.zero_le _, Nat.zero_le _⟩) (fun r2 er2 => ?_)
    refine lv_pop hx hb d_JS_checkIndex_8 rfl ?_
    exact W.vret hx hb hr (fun t ht hW => ⟨rfl, trivial, ht⟩) (fun _ h => by cases h) d_JS_checkIndex_9
set_option maxHeartbeats 4000000 in
set_option maxRecDepth 100000 in
/-- charAt(value, i) -/
theorem c_JL_charAt (l : Launch) (g : sdG) (k : Nat) (hk : k < 5) (i : Nat) (hi : i < sd_len.getD k 0) : Met l y_JL_charAt (.code y_JL_charAt b_JL_charAt 2 (some .char) :: sdT) ({ frames := 2, cells := 0, slots := 0, locals := 43 }) (va_Pc [.ref (gv g k), .int (nI i)] (sdR g [])) (vp_Si (fun r => r = nI (sd_cn k i))) 0 0 (fun _ => False) := by
  refine va_MetF (cc := b_JL_charAt) (maxL := 2) (ret := (some .char)) (by decide +kernel) rfl ?_
  intro p e s m args below meth c s₁ B hml hv
  obtain ⟨rfl, hP, hK, hE⟩ := hv
  have hx := B.exec
  have hb := B.bytes
  have hr := B.returns
  have hts := fun (w : Cond) (h : w ∈ sdT) => atoms_spec (ws := (.code y_JL_charAt b_JL_charAt 2 (some .char) :: sdT)) B.pre w (List.mem_cons_of_mem _ h)
  have hown : s.vm.findClass "java/lang/StringLatin1" = some m.cls := findClass_of_methodNamed B.named
  have hlocks := B.notSynchronized
  have hF : ∀ a : Nat, a < s.heap.size → ¬ sdA g a → s.heap[a]? = s.heap[a]? := fun _ _ _ => rfl
  have hP : sdP g [] s.heap := hP
  have hl := lv_entry ([.ref (gv g k), .int (nI i)]) (n := 2) (Nat.le_of_ble_eq_true rfl)
  rw [lg_entry_eq]
  generalize (lg_sl ([.ref (gv g k), .int (nI i)]) ++ List.replicate (2 - (lg_sl ([.ref (gv g k), .int (nI i)])).length) Slot.unset).toArray = ls at hl ⊢
  have hl : lv_has ls 2 [(0, .ref (gv g k)), (1, .int (nI i))] := hl
  have hS0 : va_S (sdA g) s.heap s.heap [] := va_S.rf
  have hln := (sd_ln_ok k hk).2
  refine lv_iload_n hx hb d_JL_charAt_0 rfl (lv_at hl 1 rfl) ?_
  refine lv_aload_n hx hb d_JL_charAt_1 rfl (lv_at hl 0 rfl) ?_
  refine va_tlen hx hb (hE.2.2.2.2.2.1.1 k hk).2.2.2 hS0 (v := nI (sd_len.getD k 0)) rfl d_JL_charAt_2 ?_
  refine sd_rv (va_runS (As := [.int (nI i), .int (nI (sd_len.getD k 0))]) (rest := []) ⟨hx, hb, hml, hown, hts⟩ (c_JS_checkIndex l g i (sd_len.getD k 0) hi (by omega)) (va_cwS 2 hts (sd_gS k_274 k_275 k_31 k_276) rfl rfl rfl (by decide +kernel) ⟨Nat.le_of_ble_eq_true rfl, Nat.le_of_ble_eq_true rfl⟩) (sd_preS hK hE hF (hP.sub (ws' := []) [] rfl)) rfl rfl hl.1 rfl (lv_room (Nat.le_of_ble_eq_true rfl)) d_JL_charAt_3 ⟨Nat.zero_le _, Nat.zero_le _⟩) ?_
  refine lv_aload_n hx hb d_JL_charAt_6 rfl (lv_at hl 0 rfl) ?_
  refine lv_iload_n hx hb d_JL_charAt_7 rfl (lv_at hl 1 rfl) ?_
  refine va_tb hx hb (hE.2.2.2.2.2.1.1 k hk).2.2.2 hS0 (i := nI i) (vp_in_nI hi (by omega)) (v := .int ((sd_byt.getD k []).getD i 0)) (by rw [nI_clamp (by omega)]) d_JL_charAt_8 ?_
  refine lv_sipush (v := (nI 255)) hx hb d_JL_charAt_9 (by decide) ?_
  refine lv_iand hx hb d_JL_charAt_12 ?_
  refine lv_i2c hx hb d_JL_charAt_13 rfl ?_
  refine sd_topi (y := nI (sd_cn k i)) ((sd_cn_ok k hk i hi).1) ?_
  exact W.zret (v := (nI (sd_cn k i))) hx hb hr (by first | rfl | decide | exact (sd_cn_ok k hk i hi).2.2) (fun t ht hW => ⟨_, rfl, rfl, ht⟩) (fun _ h => by cases h) d_JL_charAt_14
set_option maxHeartbeats 4000000 in
set_option maxRecDepth 100000 in
/-- charAt(i) of a literal -/
theorem c_JS_charAt (l : Launch) (g : sdG) (k : Nat) (hk : k < 5) (i : Nat) (hi : i < sd_len.getD k 0) : Met l y_JS_charAt (.code y_JS_charAt b_JS_charAt 2 (some .char) :: sdT) ({ frames := 3, cells := 0, slots := 0, locals := 64 }) (va_Pc [.ref (gk g k), .int (nI i)] (sdR g [])) (vp_Si (fun r => r = nI (sd_cn k i))) 0 0 (fun _ => False) := by
  refine va_MetF (cc := b_JS_charAt) (maxL := 2) (ret := (some .char)) (by decide +kernel) rfl ?_
  intro p e s m args below meth c s₁ B hml hv
  obtain ⟨rfl, hP, hK, hE⟩ := hv
  have hx := B.exec
  have hb := B.bytes
  have hr := B.returns
  have hts := fun (w : Cond) (h : w ∈ sdT) => atoms_spec (ws := (.code y_JS_charAt b_JS_charAt 2 (some .char) :: sdT)) B.pre w (List.mem_cons_of_mem _ h)
  have hown : s.vm.findClass "java/lang/String" = some m.cls := findClass_of_methodNamed B.named
  have hlocks := B.notSynchronized
  have hF : ∀ a : Nat, a < s.heap.size → ¬ sdA g a → s.heap[a]? = s.heap[a]? := fun _ _ _ => rfl
  have hP : sdP g [] s.heap := hP
  have hl := lv_entry ([.ref (gk g k), .int (nI i)]) (n := 2) (Nat.le_of_ble_eq_true rfl)
  rw [lg_entry_eq]
  generalize (lg_sl ([.ref (gk g k), .int (nI i)]) ++ List.replicate (2 - (lg_sl ([.ref (gk g k), .int (nI i)])).length) Slot.unset).toArray = ls at hl ⊢
  have hl : lv_has ls 2 [(0, .ref (gk g k)), (1, .int (nI i))] := hl
  have hS0 : va_S (sdA g) s.heap s.heap [] := va_S.rf
  refine lv_aload_n hx hb d_JS_charAt_0 rfl (lv_at hl 0 rfl) ?_
  refine sd_ri (va_runV (As := []) (rest := []) ⟨hx, hb, hml, hown, hts⟩ (c_JS_isLatin1 l g k hk) (cwV 0 hts (sd_gV k_267 k_268 k_269 k_31 k_270) rfl rfl rfl (by decide +kernel) ⟨Nat.le_of_ble_eq_true rfl, Nat.le_of_ble_eq_true rfl⟩) (sd_preStr hK hE hF hk) rfl rfl hl.1 rfl (lv_room (Nat.le_of_ble_eq_true rfl)) d_JS_charAt_1 ⟨Nat.zero_le _, Nat.zero_le _⟩) (fun r1 er1 => ?_)
  subst er1
  refine lv_if_eq (tgt := 16) hx hb d_JS_charAt_4 (by decide) (fun c2 => ?_) (fun c2 => ?_)
  · exact absurd c2 (by decide)
  · refine lv_aload_n hx hb d_JS_charAt_7 rfl (lv_at hl 0 rfl) ?_
    refine vk_getf hx hb (v := .ref (gv g k)) (hE.2.2.2.2.2.1.1 k hk).2.2.1 hS0 hown (hts _ k_658) (fun _ h9 => h9) d_JS_charAt_8 ?_
    refine lv_iload_n hx hb d_JS_charAt_11 rfl (lv_at hl 1 rfl) ?_
    refine sd_ri (va_runS (As := [.ref (gv g k), .int (nI i)]) (rest := []) ⟨hx, hb, hml, hown, hts⟩ (c_JL_charAt l g k hk i hi) (va_cwS 2 hts (sd_gS k_271 k_272 k_32 k_273) rfl rfl rfl (by decide +kernel) ⟨Nat.le_of_ble_eq_true rfl, Nat.le_of_ble_eq_true rfl⟩) (sd_preS hK hE hF (hP.sub (ws' := []) [] rfl)) rfl rfl hl.1 rfl (lv_room (Nat.le_of_ble_eq_true rfl)) d_JS_charAt_12 ⟨Nat.zero_le _, Nat.zero_le _⟩) (fun r3 er3 => ?_)
    subst er3
    exact W.zret (v := (nI (sd_cn k i))) hx hb hr (by first | rfl | decide | exact (sd_cn_ok k hk i hi).2.2) (fun t ht hW => ⟨_, rfl, rfl, ht⟩) (fun _ h => by cases h) d_JS_charAt_15
end
section
set_option maxHeartbeats 4000000 in
set_option maxRecDepth 100000 in
/-- nameAmong(names, a, z) -/
theorem c_Txt_nameAmong (l : Launch) (g : sdG) (q1 q5 n : Nat) (f : Nat → Int32) (tx : Nat → Nat) (hT : TXok n f tx) (k : Nat) (hk : k < 5) (a z : Nat) (ha : a ≤ 2001) (hz : z ≤ 2001) : Met l y_Txt_nameAmong (.code y_Txt_nameAmong b_Txt_nameAmong 8 (some .int) :: sdT) ({ frames := 4, cells := 0, slots := 0, locals := 85 }) (va_Pc [.ref q1, .ref (gk g k), .int (nI a), .int (nI z)] (sdR g [(q1, .inr (6, [.ref q5, .int (nI n)])), (q5, .inl (gB g, 2000, .inl f))])) (vp_Si (fun r => r = nmF (nmM tx a z) (sd_nm.getD k []) 0)) 0 0 (fun _ => False) := by
  refine Met.ofW (cc := b_Txt_nameAmong) (maxL := 8) (ret := (some .int)) (by decide) rfl ?_
  intro p e s m args below meth c s₁ B hml hv
  obtain ⟨rfl, hP, hK, hE⟩ := hv
  have hx := B.exec
  have hb := B.bytes
  have hr := B.returns
  have hts := fun (w : Cond) (h : w ∈ sdT) => atoms_spec (ws := (.code y_Txt_nameAmong b_Txt_nameAmong 8 (some .int) :: sdT)) B.pre w (List.mem_cons_of_mem _ h)
  have hown : s.vm.findClass "SignDesk$Text" = some m.cls := findClass_of_methodNamed B.named
  have hlocks := B.notSynchronized
  have hF : ∀ a : Nat, a < s.heap.size → ¬ sdA g a → s.heap[a]? = s.heap[a]? := fun _ _ _ => rfl
  have hP : sdP g [(q1, .inr (6, [.ref q5, .int (nI n)])), (q5, .inl (gB g, 2000, .inl f))] s.heap := hP
  have hl := lv_entry ([.ref q1, .ref (gk g k), .int (nI a), .int (nI z)]) (n := 8) (Nat.le_of_ble_eq_true rfl)
  rw [lg_entry_eq]
  generalize (lg_sl ([.ref q1, .ref (gk g k), .int (nI a), .int (nI z)]) ++ List.replicate (8 - (lg_sl ([.ref q1, .ref (gk g k), .int (nI a), .int (nI z)])).length) Slot.unset).toArray = ls at hl ⊢
  have hl : lv_has ls 8 [(0, .ref q1), (1, .ref (gk g k)), (2, .int (nI a)), (3, .int (nI z))] := hl
  have hn := hT.1
  have hb8 := hT.2.1
  have hln := sd_ln_ok k hk
  obtain ⟨hn1, hn2, hn3⟩ := sd_nm_ok k hk
  obtain ⟨w0, rest0, hnm⟩ : ∃ w0 rest0, sd_nm.getD k [] = w0 :: rest0 := by
    cases h : sd_nm.getD k [] with
    | nil => exact absurd h hn2
    | cons x y => exact ⟨x, y, rfl⟩
  rw [hnm] at hn1 hn3
  have hno : ∀ v, v ∈ w0 :: rest0 → ∀ c, c ∈ v → ¬ c = 32 := by
    intro v hv c hc e
    have h1 := List.all_eq_true.mp (List.all_eq_true.mp hn3 v hv) c hc
    rw [e] at h1
    exact absurd h1 (by decide)
  refine lv_iconst (v := (nI 0)) hx hb d_Txt_nameAmong_0 (by decide) ?_
  refine lv_istore (lv' := [(4, .int (nI 0)), (0, .ref q1), (1, .ref (gk g k)), (2, .int (nI a)), (3, .int (nI z))]) hx hb d_Txt_nameAmong_1 hl (by decide) rfl (fun ls hl => ?_)
  refine lv_iconst (v := (nI 0)) hx hb d_Txt_nameAmong_3 (by decide) ?_
  refine lv_istore (lv' := [(5, .int (nI 0)), (4, .int (nI 0)), (0, .ref q1), (1, .ref (gk g k)), (2, .int (nI a)), (3, .int (nI z))]) hx hb d_Txt_nameAmong_4 hl (by decide) rfl (fun ls hl => ?_)
  refine lv_iconst (v := (nI 1)) hx hb d_Txt_nameAmong_6 (by decide) ?_
  refine lv_istore (lv' := [(6, .int (nI 1)), (5, .int (nI 0)), (4, .int (nI 0)), (0, .ref q1), (1, .ref (gk g k)), (2, .int (nI a)), (3, .int (nI z))]) hx hb d_Txt_nameAmong_7 hl (by decide) rfl (fun ls hl => ?_)
  refine lv_iconst (v := (nI 0)) hx hb d_Txt_nameAmong_9 (by decide) ?_
  refine lv_istore (lv' := [(7, .int (nI 0)), (6, .int (nI 1)), (5, .int (nI 0)), (4, .int (nI 0)), (0, .ref q1), (1, .ref (gk g k)), (2, .int (nI a)), (3, .int (nI z))]) hx hb d_Txt_nameAmong_10 hl (by decide) rfl (fun ls hl => ?_)
  refine sd_loopr (fun (x : Nat × Nat × List Nat × List (List Nat) × Nat) ls => match x with | (nm, st, w, rest, j) => lv_has ls 8 [(7, .int (nI (st + j))), (6, .int (sb (∀ t, t < j → w.getD t 0 = tx (a + t)))), (5, .int (nI st)), (4, .int (nI nm)), (0, .ref q1), (1, .ref (gk g k)), (2, .int (nI a)), (3, .int (nI z))] ∧ ((sd_bn.getD k []).drop st = nmStr (w :: rest)) ∧ (j ≤ w.length) ∧ (∀ v, v ∈ w :: rest → ∀ c, c ∈ v → ¬ c = 32) ∧ (nmF (nmM tx a z) (sd_nm.getD k []) 0 = nmF (nmM tx a z) (w :: rest) nm) ∧ (nm ≤ st) ∧ (st + (nmStr (w :: rest)).length = sd_len.getD k 0)) (fun (x : Nat × Nat × List Nat × List (List Nat) × Nat) => match x with | (nm, st, w, rest, j) => sd_len.getD k 0 + 1 - (st + j)) 12 [] (fun x ls hI ih => ?_) (0, 0, w0, rest0, 0) ⟨by
      have e1 : sb (∀ t, t < 0 → w0.getD t 0 = tx (a + t)) = nI 1 := sb_t (fun t h => absurd h (Nat.not_lt_zero t))
      show lv_has _ _ [(7, .int (nI (0 + 0))), (6, .int (sb (∀ t, t < 0 → w0.getD t 0 = tx (a + t)))), _, _, _, _, _, _]
      rw [e1]
      exact lv_sub hl [0, 1, 2, 3, 4, 5, 6, 7] rfl, hn1.symm, Nat.zero_le _, hno, by rw [hnm], Nat.le_refl _, by rw [hn1, Nat.zero_add]; exact hln.1.symm⟩
  obtain ⟨nm, st, w, rest, j⟩ := x
  obtain ⟨hl, h1, h2, h3, h4, h5, h6⟩ := hI
  have hwl := nmS_len (w := w) (rest := rest)
  refine lv_iload hx hb d_Txt_nameAmong_12 (lv_at hl 0 rfl) ?_
  refine lv_aload_n hx hb d_Txt_nameAmong_14 rfl (lv_at hl 5 rfl) ?_
  refine sd_ri (va_runV (As := []) (rest := [.int (nI (st + j))]) ⟨hx, hb, hml, hown, hts⟩ (c_JS_length l g k hk) (cwV 0 hts (sd_gV k_253 k_254 k_255 k_31 k_256) rfl rfl rfl (by decide +kernel) ⟨Nat.le_of_ble_eq_true rfl, Nat.le_of_ble_eq_true rfl⟩) (sd_preStr hK hE hF hk) rfl rfl hl.1 rfl (lv_room (Nat.le_of_ble_eq_true rfl)) d_Txt_nameAmong_15 ⟨Nat.zero_le _, Nat.zero_le _⟩) (fun r1 er1 => ?_)
  subst er1
  refine lv_icmp_gt (tgt := 104) hx hb d_Txt_nameAmong_18 (by decide) (fun c2 => ?_) (fun c2 => ?_)
  · have c2 := (nI_ltI (by omega) (by omega)).mp c2
    exact absurd c2 (by omega)
  · have c2 := mt (nI_ltI (by omega) (by omega)).mpr c2
    refine lv_iload hx hb d_Txt_nameAmong_21 (lv_at hl 0 rfl) ?_
    refine lv_aload_n hx hb d_Txt_nameAmong_23 rfl (lv_at hl 5 rfl) ?_
    refine sd_ri (va_runV (As := []) (rest := [.int (nI (st + j))]) ⟨hx, hb, hml, hown, hts⟩ (c_JS_length l g k hk) (cwV 0 hts (sd_gV k_253 k_254 k_255 k_31 k_256) rfl rfl rfl (by decide +kernel) ⟨Nat.le_of_ble_eq_true rfl, Nat.le_of_ble_eq_true rfl⟩) (sd_preStr hK hE hF hk) rfl rfl hl.1 rfl (lv_room (Nat.le_of_ble_eq_true rfl)) d_Txt_nameAmong_24 ⟨Nat.zero_le _, Nat.zero_le _⟩) (fun r3 er3 => ?_)
    subst er3
    refine lv_icmp_eq (tgt := 41) hx hb d_Txt_nameAmong_27 (by decide) (fun c4 => ?_) (fun c4 => ?_)
    · have c4 := (nI_eq (by omega) (by omega)).mp c4
      have hrest : rest = [] := by
        cases rest with
        | nil => rfl
        | cons x y => rw [nmS_len2] at h6; omega
      subst hrest
      rw [nmS_len1] at h6
      have hj : j = w.length := by omega
      refine lv_iload hx hb d_Txt_nameAmong_41 (lv_at hl 1 rfl) ?_
      refine lv_if_eq (tgt := 60) hx hb d_Txt_nameAmong_43 (by decide) (fun c5 => ?_) (fun c5 => ?_)
      · have c5 := sb_eq0.mp c5
        refine lv_iinc (v := (nI (nm + 1))) (lv' := [(4, .int (nI (nm + 1))), (7, .int (nI (st + j))), (6, .int (sb (∀ t, t < j → w.getD t 0 = tx (a + t)))), (5, .int (nI st)), (0, .ref q1), (1, .ref (gk g k)), (2, .int (nI a)), (3, .int (nI z))]) hx hb d_Txt_nameAmong_60 hl (k := 3) rfl (nI_1 _) (by decide) rfl (fun ls hl => ?_)
        refine lv_iload hx hb d_Txt_nameAmong_63 (lv_at hl 1 rfl) ?_
        refine lv_iconst (v := (nI 1)) hx hb d_Txt_nameAmong_65 (by decide) ?_
        refine lv_iadd hx hb d_Txt_nameAmong_66 ?_
        refine sd_topi (y := nI ((st + j) + 1)) (nI_add _ _) ?_
        refine lv_istore (lv' := [(5, .int (nI ((st + j) + 1))), (4, .int (nI (nm + 1))), (7, .int (nI (st + j))), (6, .int (sb (∀ t, t < j → w.getD t 0 = tx (a + t)))), (0, .ref q1), (1, .ref (gk g k)), (2, .int (nI a)), (3, .int (nI z))]) hx hb d_Txt_nameAmong_67 hl (by decide) rfl (fun ls hl => ?_)
        refine lv_iconst (v := (nI 1)) hx hb d_Txt_nameAmong_69 (by decide) ?_
        refine lv_istore (lv' := [(6, .int (nI 1)), (5, .int (nI ((st + j) + 1))), (4, .int (nI (nm + 1))), (7, .int (nI (st + j))), (0, .ref q1), (1, .ref (gk g k)), (2, .int (nI a)), (3, .int (nI z))]) hx hb d_Txt_nameAmong_70 hl (by decide) rfl (fun ls hl => ?_)
        have hM : ¬ nmM tx a z w := fun q => c5 (fun t ht => q.2 t (by omega))
        have h4 := h4.trans (nmF_f hM)
        refine lv_goto (tgt := 98) hx hb d_Txt_nameAmong_72 (by decide) ?_
        refine lv_iinc (v := (nI ((st + j) + 1))) (lv' := [(7, .int (nI ((st + j) + 1))), (6, .int (nI 1)), (5, .int (nI ((st + j) + 1))), (4, .int (nI (nm + 1))), (0, .ref q1), (1, .ref (gk g k)), (2, .int (nI a)), (3, .int (nI z))]) hx hb d_Txt_nameAmong_98 hl (k := 3) rfl (nI_1 _) (by decide) rfl (fun ls hl => ?_)
        refine lv_goto (tgt := 12) hx hb d_Txt_nameAmong_101 (by decide) ?_
        refine lv_iload hx hb d_Txt_nameAmong_12 (lv_at hl 0 rfl) ?_
        refine lv_aload_n hx hb d_Txt_nameAmong_14 rfl (lv_at hl 5 rfl) ?_
        refine sd_ri (va_runV (As := []) (rest := [.int (nI ((st + j) + 1))]) ⟨hx, hb, hml, hown, hts⟩ (c_JS_length l g k hk) (cwV 0 hts (sd_gV k_253 k_254 k_255 k_31 k_256) rfl rfl rfl (by decide +kernel) ⟨Nat.le_of_ble_eq_true rfl, Nat.le_of_ble_eq_true rfl⟩) (sd_preStr hK hE hF hk) rfl rfl hl.1 rfl (lv_room (Nat.le_of_ble_eq_true rfl)) d_Txt_nameAmong_15 ⟨Nat.zero_le _, Nat.zero_le _⟩) (fun r6 er6 => ?_)
        subst er6
        refine lv_icmp_gt (tgt := 104) hx hb d_Txt_nameAmong_18 (by decide) (fun c7 => ?_) (fun c7 => ?_)
        · have c7 := (nI_ltI (by omega) (by omega)).mp c7
          refine lv_iconst (v := (-1)) hx hb d_Txt_nameAmong_104 (by decide) ?_
          exact W.iret (v := (-1)) hx hb hr  (fun t ht hW => ⟨_, rfl, h4.symm, ht⟩) (fun _ h => by cases h) d_Txt_nameAmong_105
        · have c7 := mt (nI_ltI (by omega) (by omega)).mpr c7
          exact absurd c7 (by omega)
      · have c5 := sb_ne0.mp c5
        refine lv_iload hx hb d_Txt_nameAmong_46 (lv_at hl 0 rfl) ?_
        refine lv_iload hx hb d_Txt_nameAmong_48 (lv_at hl 2 rfl) ?_
        refine lv_isub hx hb d_Txt_nameAmong_50 ?_
        refine sd_topi (y := nI j) (by rw [pk_sub (by omega)]; congr 1; omega) ?_
        refine lv_iload_n hx hb d_Txt_nameAmong_51 rfl (lv_at hl 7 rfl) ?_
        refine lv_iload_n hx hb d_Txt_nameAmong_52 rfl (lv_at hl 6 rfl) ?_
        refine lv_isub hx hb d_Txt_nameAmong_53 ?_
        refine lv_icmp_ne (tgt := 60) hx hb d_Txt_nameAmong_54 (by decide) (fun c8 => ?_) (fun c8 => ?_)
        · have c8 := mt (sd_subEq (by omega) (by omega) (by omega)).mpr c8
          refine lv_iinc (v := (nI (nm + 1))) (lv' := [(4, .int (nI (nm + 1))), (7, .int (nI (st + j))), (6, .int (sb (∀ t, t < j → w.getD t 0 = tx (a + t)))), (5, .int (nI st)), (0, .ref q1), (1, .ref (gk g k)), (2, .int (nI a)), (3, .int (nI z))]) hx hb d_Txt_nameAmong_60 hl (k := 3) rfl (nI_1 _) (by decide) rfl (fun ls hl => ?_)
          refine lv_iload hx hb d_Txt_nameAmong_63 (lv_at hl 1 rfl) ?_
          refine lv_iconst (v := (nI 1)) hx hb d_Txt_nameAmong_65 (by decide) ?_
          refine lv_iadd hx hb d_Txt_nameAmong_66 ?_
          refine sd_topi (y := nI ((st + j) + 1)) (nI_add _ _) ?_
          refine lv_istore (lv' := [(5, .int (nI ((st + j) + 1))), (4, .int (nI (nm + 1))), (7, .int (nI (st + j))), (6, .int (sb (∀ t, t < j → w.getD t 0 = tx (a + t)))), (0, .ref q1), (1, .ref (gk g k)), (2, .int (nI a)), (3, .int (nI z))]) hx hb d_Txt_nameAmong_67 hl (by decide) rfl (fun ls hl => ?_)
          refine lv_iconst (v := (nI 1)) hx hb d_Txt_nameAmong_69 (by decide) ?_
          refine lv_istore (lv' := [(6, .int (nI 1)), (5, .int (nI ((st + j) + 1))), (4, .int (nI (nm + 1))), (7, .int (nI (st + j))), (0, .ref q1), (1, .ref (gk g k)), (2, .int (nI a)), (3, .int (nI z))]) hx hb d_Txt_nameAmong_70 hl (by decide) rfl (fun ls hl => ?_)
          have hM : ¬ nmM tx a z w := fun q => c8 (by rw [hj]; exact q.1)
          have h4 := h4.trans (nmF_f hM)
          refine lv_goto (tgt := 98) hx hb d_Txt_nameAmong_72 (by decide) ?_
          refine lv_iinc (v := (nI ((st + j) + 1))) (lv' := [(7, .int (nI ((st + j) + 1))), (6, .int (nI 1)), (5, .int (nI ((st + j) + 1))), (4, .int (nI (nm + 1))), (0, .ref q1), (1, .ref (gk g k)), (2, .int (nI a)), (3, .int (nI z))]) hx hb d_Txt_nameAmong_98 hl (k := 3) rfl (nI_1 _) (by decide) rfl (fun ls hl => ?_)
          refine lv_goto (tgt := 12) hx hb d_Txt_nameAmong_101 (by decide) ?_
          refine lv_iload hx hb d_Txt_nameAmong_12 (lv_at hl 0 rfl) ?_
          refine lv_aload_n hx hb d_Txt_nameAmong_14 rfl (lv_at hl 5 rfl) ?_
          refine sd_ri (va_runV (As := []) (rest := [.int (nI ((st + j) + 1))]) ⟨hx, hb, hml, hown, hts⟩ (c_JS_length l g k hk) (cwV 0 hts (sd_gV k_253 k_254 k_255 k_31 k_256) rfl rfl rfl (by decide +kernel) ⟨Nat.le_of_ble_eq_true rfl, Nat.le_of_ble_eq_true rfl⟩) (sd_preStr hK hE hF hk) rfl rfl hl.1 rfl (lv_room (Nat.le_of_ble_eq_true rfl)) d_Txt_nameAmong_15 ⟨Nat.zero_le _, Nat.zero_le _⟩) (fun r9 er9 => ?_)
          subst er9
          refine lv_icmp_gt (tgt := 104) hx hb d_Txt_nameAmong_18 (by decide) (fun c10 => ?_) (fun c10 => ?_)
          · have c10 := (nI_ltI (by omega) (by omega)).mp c10
            refine lv_iconst (v := (-1)) hx hb d_Txt_nameAmong_104 (by decide) ?_
            exact W.iret (v := (-1)) hx hb hr  (fun t ht hW => ⟨_, rfl, h4.symm, ht⟩) (fun _ h => by cases h) d_Txt_nameAmong_105
          · have c10 := mt (nI_ltI (by omega) (by omega)).mpr c10
            exact absurd c10 (by omega)
        · have c8 := (sd_subEq (by omega) (by omega) (by omega)).mp c8
          refine lv_iload hx hb d_Txt_nameAmong_57 (lv_at hl 3 rfl) ?_
          exact W.iret (v := (nI nm)) hx hb hr  (fun t ht hW => ⟨_, rfl, by rw [h4]; exact (nmF_t ⟨by omega, fun t ht => c5 t (by omega)⟩).symm, ht⟩) (fun _ h => by cases h) d_Txt_nameAmong_59
    · have c4 := mt (nI_eq (by omega) (by omega)).mpr c4
      refine lv_aload_n hx hb d_Txt_nameAmong_30 rfl (lv_at hl 5 rfl) ?_
      refine lv_iload hx hb d_Txt_nameAmong_31 (lv_at hl 0 rfl) ?_
      refine sd_ri (va_runV (As := [.int (nI (st + j))]) (rest := []) ⟨hx, hb, hml, hown, hts⟩ (c_JS_charAt l g k hk (st + j) (by omega)) (cwV 1 hts (sd_gV k_263 k_264 k_265 k_31 k_266) rfl rfl rfl (by decide +kernel) ⟨Nat.le_of_ble_eq_true rfl, Nat.le_of_ble_eq_true rfl⟩) (sd_preStr hK hE hF hk) rfl rfl hl.1 rfl (lv_room (Nat.le_of_ble_eq_true rfl)) d_Txt_nameAmong_33 ⟨Nat.zero_le _, Nat.zero_le _⟩) (fun r11 er11 => ?_)
      subst er11
      have hc8 := (sd_cn_ok k hk (st + j) (by omega)).2.1
      refine lv_bipush (v := (nI 32)) hx hb d_Txt_nameAmong_36 (by decide) ?_
      have hcj : sd_cn k (st + j) = (nmStr (w :: rest)).getD j 0 := nmS_at h1
      refine lv_icmp_ne (tgt := 75) hx hb d_Txt_nameAmong_38 (by decide) (fun c12 => ?_) (fun c12 => ?_)
      · have c12 := mt (nI_eq (by omega) (by omega)).mpr c12
        have hj : j < w.length := by
          rcases Nat.lt_or_ge j w.length with q | q
          · exact q
          · have e1 : j = w.length := by omega
            cases rest with
            | nil => rw [nmS_len1] at h6; omega
            | cons x y => rw [e1, nmS_sep] at hcj; exact absurd (e1 ▸ hcj) c12
        rw [nmS_in hj] at hcj
        refine lv_aload_n hx hb d_Txt_nameAmong_75 rfl (lv_at hl 5 rfl) ?_
        refine lv_iload hx hb d_Txt_nameAmong_76 (lv_at hl 0 rfl) ?_
        refine sd_ri (va_runV (As := [.int (nI (st + j))]) (rest := []) ⟨hx, hb, hml, hown, hts⟩ (c_JS_charAt l g k hk (st + j) (by omega)) (cwV 1 hts (sd_gV k_263 k_264 k_265 k_31 k_266) rfl rfl rfl (by decide +kernel) ⟨Nat.le_of_ble_eq_true rfl, Nat.le_of_ble_eq_true rfl⟩) (sd_preStr hK hE hF hk) rfl rfl hl.1 rfl (lv_room (Nat.le_of_ble_eq_true rfl)) d_Txt_nameAmong_78 ⟨Nat.zero_le _, Nat.zero_le _⟩) (fun r13 er13 => ?_)
        subst er13
        have hc8 := (sd_cn_ok k hk (st + j) (by omega)).2.1
        refine lv_aload_n hx hb d_Txt_nameAmong_81 rfl (lv_at hl 4 rfl) ?_
        refine lv_iload_n hx hb d_Txt_nameAmong_82 rfl (lv_at hl 6 rfl) ?_
        refine lv_iload hx hb d_Txt_nameAmong_83 (lv_at hl 0 rfl) ?_
        refine lv_iadd hx hb d_Txt_nameAmong_85 ?_
        refine sd_topi (y := nI (a + (st + j))) (nI_add _ _) ?_
        refine lv_iload hx hb d_Txt_nameAmong_86 (lv_at hl 2 rfl) ?_
        refine lv_isub hx hb d_Txt_nameAmong_88 ?_
        refine sd_topi (y := nI (a + j)) (by rw [pk_sub (by omega)]; congr 1; omega) ?_
        refine sd_ri (va_runV (As := [.int (nI (a + j))]) (rest := [.int (nI (sd_cn k (st + j)))]) ⟨hx, hb, hml, hown, hts⟩ (c_Txt_byteAt l g q1 q5 n f tx hT (a + j) (by omega)) (cwV 1 hts (sd_gV k_200 k_201 k_202 k_24 k_203) rfl rfl rfl (by decide +kernel) ⟨Nat.le_of_ble_eq_true rfl, Nat.le_of_ble_eq_true rfl⟩) (sd_preV hK hE hF (hP.sub (ws' := [(q1, .inr (6, [.ref q5, .int (nI n)])), (q5, .inl (gB g, 2000, .inl f))]) [0, 1] rfl) rfl rfl) rfl rfl hl.1 rfl (lv_room (Nat.le_of_ble_eq_true rfl)) d_Txt_nameAmong_89 ⟨Nat.zero_le _, Nat.zero_le _⟩) (fun r14 er14 => ?_)
        subst er14
        have hb8i := hb8 (a + j)
        refine lv_icmp_eq (tgt := 98) hx hb d_Txt_nameAmong_92 (by decide) (fun c15 => ?_) (fun c15 => ?_)
        · have c15 := (nI_eq (by omega) (by omega)).mp c15
          refine lv_iinc (v := (nI ((st + j) + 1))) (lv' := [(7, .int (nI ((st + j) + 1))), (6, .int (sb (∀ t, t < j → w.getD t 0 = tx (a + t)))), (5, .int (nI st)), (4, .int (nI nm)), (0, .ref q1), (1, .ref (gk g k)), (2, .int (nI a)), (3, .int (nI z))]) hx hb d_Txt_nameAmong_98 hl (k := 0) rfl (nI_1 _) (by decide) rfl (fun ls hl => ?_)
          refine lv_goto (tgt := 12) hx hb d_Txt_nameAmong_101 (by decide) ?_
          exact ih (nm, st, w, rest, j + 1) _ ⟨by
              have e1 : sb (∀ t, t < j + 1 → w.getD t 0 = tx (a + t)) = sb (∀ t, t < j → w.getD t 0 = tx (a + t)) := sb_congr ⟨fun q t ht => q t (by omega), fun q t ht => by
                rcases Nat.lt_or_ge t j with y | y
                · exact q t y
                · have : t = j := by omega
                  subst this; rw [← hcj]; exact c15⟩
              show lv_has _ _ [(7, .int (nI (st + (j + 1)))), (6, .int (sb (∀ t, t < j + 1 → w.getD t 0 = tx (a + t)))), _, _, _, _, _, _]
              rw [e1]
              exact lv_sub hl [0, 1, 2, 3, 4, 5, 6, 7] rfl, h1, by omega, h3, h4, h5, h6⟩ (show sd_len.getD k 0 + 1 - (st + (j + 1)) < sd_len.getD k 0 + 1 - (st + j) by omega)
        · have c15 := mt (nI_eq (by omega) (by omega)).mpr c15
          refine lv_iconst (v := (nI 0)) hx hb d_Txt_nameAmong_95 (by decide) ?_
          refine lv_istore (lv' := [(6, .int (nI 0)), (7, .int (nI (st + j))), (5, .int (nI st)), (4, .int (nI nm)), (0, .ref q1), (1, .ref (gk g k)), (2, .int (nI a)), (3, .int (nI z))]) hx hb d_Txt_nameAmong_96 hl (by decide) rfl (fun ls hl => ?_)
          refine lv_iinc (v := (nI ((st + j) + 1))) (lv' := [(7, .int (nI ((st + j) + 1))), (6, .int (nI 0)), (5, .int (nI st)), (4, .int (nI nm)), (0, .ref q1), (1, .ref (gk g k)), (2, .int (nI a)), (3, .int (nI z))]) hx hb d_Txt_nameAmong_98 hl (k := 1) rfl (nI_1 _) (by decide) rfl (fun ls hl => ?_)
          refine lv_goto (tgt := 12) hx hb d_Txt_nameAmong_101 (by decide) ?_
          exact ih (nm, st, w, rest, j + 1) _ ⟨by
              have e1 : sb (∀ t, t < j + 1 → w.getD t 0 = tx (a + t)) = nI 0 := sb_f (fun q => c15 (hcj.trans (q j (by omega))))
              show lv_has _ _ [(7, .int (nI (st + (j + 1)))), (6, .int (sb (∀ t, t < j + 1 → w.getD t 0 = tx (a + t)))), _, _, _, _, _, _]
              rw [e1]
              exact lv_sub hl [0, 1, 2, 3, 4, 5, 6, 7] rfl, h1, by omega, h3, h4, h5, h6⟩ (show sd_len.getD k 0 + 1 - (st + (j + 1)) < sd_len.getD k 0 + 1 - (st + j) by omega)
      · have c12 := (nI_eq (by omega) (by omega)).mp c12
        have hj : j = w.length := by
          rcases Nat.lt_or_ge j w.length with q | q
          · rw [nmS_in q] at hcj
            exact absurd (hcj.symm.trans c12) (h3 w List.mem_cons_self _ (by
              rw [List.getD_eq_getElem?_getD, List.getElem?_eq_getElem q]; exact List.getElem_mem q))
          · omega
        obtain ⟨w2, ws, rfl⟩ : ∃ w2 ws, rest = w2 :: ws := by
          cases rest with
          | nil => rw [nmS_len1] at h6; omega
          | cons x y => exact ⟨x, y, rfl⟩
        refine lv_iload hx hb d_Txt_nameAmong_41 (lv_at hl 1 rfl) ?_
        refine lv_if_eq (tgt := 60) hx hb d_Txt_nameAmong_43 (by decide) (fun c16 => ?_) (fun c16 => ?_)
        · have c16 := sb_eq0.mp c16
          refine lv_iinc (v := (nI (nm + 1))) (lv' := [(4, .int (nI (nm + 1))), (7, .int (nI (st + j))), (6, .int (sb (∀ t, t < j → w.getD t 0 = tx (a + t)))), (5, .int (nI st)), (0, .ref q1), (1, .ref (gk g k)), (2, .int (nI a)), (3, .int (nI z))]) hx hb d_Txt_nameAmong_60 hl (k := 3) rfl (nI_1 _) (by decide) rfl (fun ls hl => ?_)
          refine lv_iload hx hb d_Txt_nameAmong_63 (lv_at hl 1 rfl) ?_
          refine lv_iconst (v := (nI 1)) hx hb d_Txt_nameAmong_65 (by decide) ?_
          refine lv_iadd hx hb d_Txt_nameAmong_66 ?_
          refine sd_topi (y := nI ((st + j) + 1)) (nI_add _ _) ?_
          refine lv_istore (lv' := [(5, .int (nI ((st + j) + 1))), (4, .int (nI (nm + 1))), (7, .int (nI (st + j))), (6, .int (sb (∀ t, t < j → w.getD t 0 = tx (a + t)))), (0, .ref q1), (1, .ref (gk g k)), (2, .int (nI a)), (3, .int (nI z))]) hx hb d_Txt_nameAmong_67 hl (by decide) rfl (fun ls hl => ?_)
          refine lv_iconst (v := (nI 1)) hx hb d_Txt_nameAmong_69 (by decide) ?_
          refine lv_istore (lv' := [(6, .int (nI 1)), (5, .int (nI ((st + j) + 1))), (4, .int (nI (nm + 1))), (7, .int (nI (st + j))), (0, .ref q1), (1, .ref (gk g k)), (2, .int (nI a)), (3, .int (nI z))]) hx hb d_Txt_nameAmong_70 hl (by decide) rfl (fun ls hl => ?_)
          have hM : ¬ nmM tx a z w := fun q => c16 (fun t ht => q.2 t (by omega))
          have h4 := h4.trans (nmF_f hM)
          refine lv_goto (tgt := 98) hx hb d_Txt_nameAmong_72 (by decide) ?_
          refine lv_iinc (v := (nI ((st + j) + 1))) (lv' := [(7, .int (nI ((st + j) + 1))), (6, .int (nI 1)), (5, .int (nI ((st + j) + 1))), (4, .int (nI (nm + 1))), (0, .ref q1), (1, .ref (gk g k)), (2, .int (nI a)), (3, .int (nI z))]) hx hb d_Txt_nameAmong_98 hl (k := 3) rfl (nI_1 _) (by decide) rfl (fun ls hl => ?_)
          refine lv_goto (tgt := 12) hx hb d_Txt_nameAmong_101 (by decide) ?_
          exact ih (nm + 1, st + j + 1, w2, ws, 0) _ ⟨by
              have e1 : sb (∀ t, t < 0 → w2.getD t 0 = tx (a + t)) = nI 1 := sb_t (fun t h => absurd h (Nat.not_lt_zero t))
              show lv_has _ _ [(7, .int (nI (st + j + 1 + 0))), (6, .int (sb (∀ t, t < 0 → w2.getD t 0 = tx (a + t)))), _, _, _, _, _, _]
              rw [e1]
              exact lv_sub hl [0, 1, 2, 3, 4, 5, 6, 7] rfl, by
              rw [hj, Nat.add_assoc, ← List.drop_drop, h1]; exact nmS_drop, Nat.zero_le _, fun v hv => h3 v (List.mem_cons_of_mem _ hv), h4, by omega, by rw [nmS_len2] at h6; omega⟩ (show sd_len.getD k 0 + 1 - (st + j + 1 + 0) < sd_len.getD k 0 + 1 - (st + j) by omega)
        · have c16 := sb_ne0.mp c16
          refine lv_iload hx hb d_Txt_nameAmong_46 (lv_at hl 0 rfl) ?_
          refine lv_iload hx hb d_Txt_nameAmong_48 (lv_at hl 2 rfl) ?_
          refine lv_isub hx hb d_Txt_nameAmong_50 ?_
          refine sd_topi (y := nI j) (by rw [pk_sub (by omega)]; congr 1; omega) ?_
          refine lv_iload_n hx hb d_Txt_nameAmong_51 rfl (lv_at hl 7 rfl) ?_
          refine lv_iload_n hx hb d_Txt_nameAmong_52 rfl (lv_at hl 6 rfl) ?_
          refine lv_isub hx hb d_Txt_nameAmong_53 ?_
          refine lv_icmp_ne (tgt := 60) hx hb d_Txt_nameAmong_54 (by decide) (fun c17 => ?_) (fun c17 => ?_)
          · have c17 := mt (sd_subEq (by omega) (by omega) (by omega)).mpr c17
            refine lv_iinc (v := (nI (nm + 1))) (lv' := [(4, .int (nI (nm + 1))), (7, .int (nI (st + j))), (6, .int (sb (∀ t, t < j → w.getD t 0 = tx (a + t)))), (5, .int (nI st)), (0, .ref q1), (1, .ref (gk g k)), (2, .int (nI a)), (3, .int (nI z))]) hx hb d_Txt_nameAmong_60 hl (k := 3) rfl (nI_1 _) (by decide) rfl (fun ls hl => ?_)
            refine lv_iload hx hb d_Txt_nameAmong_63 (lv_at hl 1 rfl) ?_
            refine lv_iconst (v := (nI 1)) hx hb d_Txt_nameAmong_65 (by decide) ?_
            refine lv_iadd hx hb d_Txt_nameAmong_66 ?_
            refine sd_topi (y := nI ((st + j) + 1)) (nI_add _ _) ?_
            refine lv_istore (lv' := [(5, .int (nI ((st + j) + 1))), (4, .int (nI (nm + 1))), (7, .int (nI (st + j))), (6, .int (sb (∀ t, t < j → w.getD t 0 = tx (a + t)))), (0, .ref q1), (1, .ref (gk g k)), (2, .int (nI a)), (3, .int (nI z))]) hx hb d_Txt_nameAmong_67 hl (by decide) rfl (fun ls hl => ?_)
            refine lv_iconst (v := (nI 1)) hx hb d_Txt_nameAmong_69 (by decide) ?_
            refine lv_istore (lv' := [(6, .int (nI 1)), (5, .int (nI ((st + j) + 1))), (4, .int (nI (nm + 1))), (7, .int (nI (st + j))), (0, .ref q1), (1, .ref (gk g k)), (2, .int (nI a)), (3, .int (nI z))]) hx hb d_Txt_nameAmong_70 hl (by decide) rfl (fun ls hl => ?_)
            have hM : ¬ nmM tx a z w := fun q => c17 (by rw [hj]; exact q.1)
            have h4 := h4.trans (nmF_f hM)
            refine lv_goto (tgt := 98) hx hb d_Txt_nameAmong_72 (by decide) ?_
            refine lv_iinc (v := (nI ((st + j) + 1))) (lv' := [(7, .int (nI ((st + j) + 1))), (6, .int (nI 1)), (5, .int (nI ((st + j) + 1))), (4, .int (nI (nm + 1))), (0, .ref q1), (1, .ref (gk g k)), (2, .int (nI a)), (3, .int (nI z))]) hx hb d_Txt_nameAmong_98 hl (k := 3) rfl (nI_1 _) (by decide) rfl (fun ls hl => ?_)
            refine lv_goto (tgt := 12) hx hb d_Txt_nameAmong_101 (by decide) ?_
            exact ih (nm + 1, st + j + 1, w2, ws, 0) _ ⟨by
                have e1 : sb (∀ t, t < 0 → w2.getD t 0 = tx (a + t)) = nI 1 := sb_t (fun t h => absurd h (Nat.not_lt_zero t))
                show lv_has _ _ [(7, .int (nI (st + j + 1 + 0))), (6, .int (sb (∀ t, t < 0 → w2.getD t 0 = tx (a + t)))), _, _, _, _, _, _]
                rw [e1]
                exact lv_sub hl [0, 1, 2, 3, 4, 5, 6, 7] rfl, by
                rw [hj, Nat.add_assoc, ← List.drop_drop, h1]; exact nmS_drop, Nat.zero_le _, fun v hv => h3 v (List.mem_cons_of_mem _ hv), h4, by omega, by rw [nmS_len2] at h6; omega⟩ (show sd_len.getD k 0 + 1 - (st + j + 1 + 0) < sd_len.getD k 0 + 1 - (st + j) by omega)
          · have c17 := (sd_subEq (by omega) (by omega) (by omega)).mp c17
            refine lv_iload hx hb d_Txt_nameAmong_57 (lv_at hl 3 rfl) ?_
            exact W.iret (v := (nI nm)) hx hb hr  (fun t ht hW => ⟨_, rfl, by rw [h4]; exact (nmF_t ⟨by omega, fun t ht => c16 t (by omega)⟩).symm, ht⟩) (fun _ h => by cases h) d_Txt_nameAmong_59
end
section
/-- the state of the reading: words (their codes, their symbols + 1, 0 without), symbols (where, how long, number + 1, 0 untold) -/
abbrev AS : Type := (Nat × (Nat → Nat) × (Nat → Nat)) × (Nat × (Nat → Nat) × (Nat → Nat) × (Nat → Nat))
abbrev wn (st : AS) : Nat := st.1.1
abbrev wc (st : AS) : Nat → Nat := st.1.2.1
abbrev wy (st : AS) : Nat → Nat := st.1.2.2
abbrev sn (st : AS) : Nat := st.2.1
abbrev sa (st : AS) : Nat → Nat := st.2.2.1
abbrev sl (st : AS) : Nat → Nat := st.2.2.2.1
abbrev sv (st : AS) : Nat → Nat := st.2.2.2.2
set_option maxHeartbeats 4000000 in
set_option maxRecDepth 100000 in
/-- size -/
theorem c_Prg_size (l : Launch) (g : sdG) (q2 q6 pn : Nat) (pw : Nat → Int32) (hp : pn ≤ 600) : Met l y_Prg_size (.code y_Prg_size b_Prg_size 1 (some .int) :: sdT) ({ frames := 0, cells := 0, slots := 0, locals := 0 }) (va_Pc [.ref q2] (sdR g [(q2, .inr (3, [.ref q6, .int (nI pn)])), (q6, .inl (gI g, 600, .inl pw))])) (vp_Si (fun r => r = nI pn)) 0 0 (fun _ => False) := by
  refine Met.ofW (cc := b_Prg_size) (maxL := 1) (ret := (some .int)) (by decide) rfl ?_
  intro p ev s m args below meth c s₁ B hml hv
  obtain ⟨rfl, hP, hK, hE⟩ := hv
  have hx := B.exec
  have hb := B.bytes
  have hr := B.returns
  have hts := fun (w : Cond) (h : w ∈ sdT) => atoms_spec (ws := (.code y_Prg_size b_Prg_size 1 (some .int) :: sdT)) B.pre w (List.mem_cons_of_mem _ h)
  have hown : s.vm.findClass "SignDesk$Program" = some m.cls := findClass_of_methodNamed B.named
  have hlocks := B.notSynchronized
  have hF : ∀ a : Nat, a < s.heap.size → ¬ sdA g a → s.heap[a]? = s.heap[a]? := fun _ _ _ => rfl
  have hP : sdP g [(q2, .inr (3, [.ref q6, .int (nI pn)])), (q6, .inl (gI g, 600, .inl pw))] s.heap := hP
  have hl := lv_entry ([.ref q2]) (n := 1) (Nat.le_of_ble_eq_true rfl)
  rw [lg_entry_eq]
  generalize (lg_sl ([.ref q2]) ++ List.replicate (1 - (lg_sl ([.ref q2])).length) Slot.unset).toArray = ls at hl ⊢
  have hl : lv_has ls 1 [(0, .ref q2)] := hl
  refine lv_aload_n hx hb d_Prg_size_0 rfl (lv_at hl 0 rfl) ?_
  refine va_get (D := g.1) (ci := 3) (v := .int (nI pn)) (C := "SignDesk$Program") (T := F_Prg) (N := 2) hx hb hts in_Prg hown hK hP 0 rfl rfl 1 (by decide) (hts _ k_66) (fun _ h9 => h9) rfl d_Prg_size_1 ?_
  exact W.iret (v := (nI pn)) hx hb hr  (fun t ht hW => ⟨_, rfl, rfl, ht⟩) (fun _ h => by cases h) d_Prg_size_4
set_option maxHeartbeats 4000000 in
set_option maxRecDepth 100000 in
/-- isFull -/
theorem c_Prg_isFull (l : Launch) (g : sdG) (q2 q6 pn : Nat) (pw : Nat → Int32) (hp : pn ≤ 600) : Met l y_Prg_isFull (.code y_Prg_isFull b_Prg_isFull 1 (some .boolean) :: sdT) ({ frames := 0, cells := 0, slots := 0, locals := 0 }) (va_Pc [.ref q2] (sdR g [(q2, .inr (3, [.ref q6, .int (nI pn)])), (q6, .inl (gI g, 600, .inl pw))])) (vp_Si (fun r => r = sb (600 ≤ pn))) 0 0 (fun _ => False) := by
  refine Met.ofW (cc := b_Prg_isFull) (maxL := 1) (ret := (some .boolean)) (by decide) rfl ?_
  intro p ev s m args below meth c s₁ B hml hv
  obtain ⟨rfl, hP, hK, hE⟩ := hv
  have hx := B.exec
  have hb := B.bytes
  have hr := B.returns
  have hts := fun (w : Cond) (h : w ∈ sdT) => atoms_spec (ws := (.code y_Prg_isFull b_Prg_isFull 1 (some .boolean) :: sdT)) B.pre w (List.mem_cons_of_mem _ h)
  have hown : s.vm.findClass "SignDesk$Program" = some m.cls := findClass_of_methodNamed B.named
  have hlocks := B.notSynchronized
  have hF : ∀ a : Nat, a < s.heap.size → ¬ sdA g a → s.heap[a]? = s.heap[a]? := fun _ _ _ => rfl
  have hP : sdP g [(q2, .inr (3, [.ref q6, .int (nI pn)])), (q6, .inl (gI g, 600, .inl pw))] s.heap := hP
  have hl := lv_entry ([.ref q2]) (n := 1) (Nat.le_of_ble_eq_true rfl)
  rw [lg_entry_eq]
  generalize (lg_sl ([.ref q2]) ++ List.replicate (1 - (lg_sl ([.ref q2])).length) Slot.unset).toArray = ls at hl ⊢
  have hl : lv_has ls 1 [(0, .ref q2)] := hl
  refine lv_aload_n hx hb d_Prg_isFull_0 rfl (lv_at hl 0 rfl) ?_
  refine va_get (D := g.1) (ci := 3) (v := .int (nI pn)) (C := "SignDesk$Program") (T := F_Prg) (N := 2) hx hb hts in_Prg hown hK hP 0 rfl rfl 1 (by decide) (hts _ k_66) (fun _ h9 => h9) rfl d_Prg_isFull_1 ?_
  refine lv_sipush (v := (nI 600)) hx hb d_Prg_isFull_4 (by decide) ?_
  refine lv_icmp_lt (tgt := 14) hx hb d_Prg_isFull_7 (by decide) (fun c1 => ?_) (fun c1 => ?_)
  · have c1 := (nI_ltI (by omega) (by omega)).mp c1
    refine lv_iconst (v := (nI 0)) hx hb d_Prg_isFull_14 (by decide) ?_
    exact W.zret (v := (nI 0)) hx hb hr (by first | rfl | decide | exact sb_nar) (fun t ht hW => ⟨_, rfl, (sb_f (by omega)).symm, ht⟩) (fun _ h => by cases h) d_Prg_isFull_15
  · have c1 := mt (nI_ltI (by omega) (by omega)).mpr c1
    refine lv_iconst (v := (nI 1)) hx hb d_Prg_isFull_10 (by decide) ?_
    refine lv_goto (tgt := 15) hx hb d_Prg_isFull_11 (by decide) ?_
    exact W.zret (v := (nI 1)) hx hb hr (by first | rfl | decide | exact sb_nar) (fun t ht hW => ⟨_, rfl, (sb_t (by omega)).symm, ht⟩) (fun _ h => by cases h) d_Prg_isFull_15
set_option maxHeartbeats 4000000 in
set_option maxRecDepth 100000 in
/-- wordAt -/
theorem c_Prg_wordAt (l : Launch) (g : sdG) (q2 q6 pn : Nat) (pw : Nat → Int32) (hp : pn ≤ 600) (x : Int32) : Met l y_Prg_wordAt (.code y_Prg_wordAt b_Prg_wordAt 2 (some .int) :: sdT) ({ frames := 0, cells := 0, slots := 0, locals := 0 }) (va_Pc [.ref q2, .int x] (sdR g [(q2, .inr (3, [.ref q6, .int (nI pn)])), (q6, .inl (gI g, 600, .inl pw))])) (vp_Si (fun r => (∀ j, j < pn → x = nI j → r = pw j) ∧ ((x < 0 ∨ nI pn ≤ x) → r = -1))) 0 0 (fun _ => False) := by
  refine Met.ofW (cc := b_Prg_wordAt) (maxL := 2) (ret := (some .int)) (by decide) rfl ?_
  intro p ev s m args below meth c s₁ B hml hv
  obtain ⟨rfl, hP, hK, hE⟩ := hv
  have hx := B.exec
  have hb := B.bytes
  have hr := B.returns
  have hts := fun (w : Cond) (h : w ∈ sdT) => atoms_spec (ws := (.code y_Prg_wordAt b_Prg_wordAt 2 (some .int) :: sdT)) B.pre w (List.mem_cons_of_mem _ h)
  have hown : s.vm.findClass "SignDesk$Program" = some m.cls := findClass_of_methodNamed B.named
  have hlocks := B.notSynchronized
  have hF : ∀ a : Nat, a < s.heap.size → ¬ sdA g a → s.heap[a]? = s.heap[a]? := fun _ _ _ => rfl
  have hP : sdP g [(q2, .inr (3, [.ref q6, .int (nI pn)])), (q6, .inl (gI g, 600, .inl pw))] s.heap := hP
  have hl := lv_entry ([.ref q2, .int x]) (n := 2) (Nat.le_of_ble_eq_true rfl)
  rw [lg_entry_eq]
  generalize (lg_sl ([.ref q2, .int x]) ++ List.replicate (2 - (lg_sl ([.ref q2, .int x])).length) Slot.unset).toArray = ls at hl ⊢
  have hl : lv_has ls 2 [(0, .ref q2), (1, .int x)] := hl
  refine lv_iload_n hx hb d_Prg_wordAt_0 rfl (lv_at hl 1 rfl) ?_
  refine lv_if_lt (tgt := 21) hx hb d_Prg_wordAt_1 (by decide) (fun c1 => ?_) (fun c1 => ?_)
  · refine lv_iconst (v := (-1)) hx hb d_Prg_wordAt_21 (by decide) ?_
    exact W.iret (v := (-1)) hx hb hr  (fun t ht hW => ⟨_, rfl, ⟨fun j hj e => absurd (e ▸ c1) (nI_pos (by omega)), fun _ => rfl⟩, ht⟩) (fun _ h => by cases h) d_Prg_wordAt_22
  · refine lv_iload_n hx hb d_Prg_wordAt_4 rfl (lv_at hl 1 rfl) ?_
    refine lv_aload_n hx hb d_Prg_wordAt_5 rfl (lv_at hl 0 rfl) ?_
    refine va_get (D := g.1) (ci := 3) (v := .int (nI pn)) (C := "SignDesk$Program") (T := F_Prg) (N := 2) hx hb hts in_Prg hown hK hP 0 rfl rfl 1 (by decide) (hts _ k_66) (fun _ h9 => h9) rfl d_Prg_wordAt_6 ?_
    refine lv_icmp_ge (tgt := 21) hx hb d_Prg_wordAt_9 (by decide) (fun c2 => ?_) (fun c2 => ?_)
    · refine lv_iconst (v := (-1)) hx hb d_Prg_wordAt_21 (by decide) ?_
      exact W.iret (v := (-1)) hx hb hr  (fun t ht hW => ⟨_, rfl, ⟨fun j hj e => absurd (e ▸ c2) (nI_ge hj (by omega)), fun _ => rfl⟩, ht⟩) (fun _ h => by cases h) d_Prg_wordAt_22
    · obtain ⟨j, hj, ej⟩ : ∃ j : Nat, j < pn ∧ x = nI j := by
        rcases pk_ix x (n := pn) (by omega) with h | h | h
        · exact absurd h c1
        · exact absurd h c2
        · exact h
      refine lv_aload_n hx hb d_Prg_wordAt_12 rfl (lv_at hl 0 rfl) ?_
      refine va_get (D := g.1) (ci := 3) (v := .ref q6) (C := "SignDesk$Program") (T := F_Prg) (N := 2) hx hb hts in_Prg hown hK hP 0 rfl rfl 0 (by decide) (hts _ k_65) (fun _ h9 => h9) rfl d_Prg_wordAt_13 ?_
      refine lv_iload_n hx hb d_Prg_wordAt_16 rfl (lv_at hl 1 rfl) ?_
      refine va_iald hx hb hK hP 1 1 rfl rfl (i := x) (by rw [ej]; exact vp_in_nI (by omega) (by omega)) d_Prg_wordAt_17 ?_
      refine lv_goto (tgt := 22) hx hb d_Prg_wordAt_18 (by decide) ?_
      exact W.iret (v := (pw (x).toNatClampNeg)) hx hb hr  (fun t ht hW => ⟨_, rfl, ⟨fun k hk e => by
          have : k = j := (nI_eq (by omega) (by omega)).mp (e.symm.trans ej)
          subst this; rw [ej, nI_clamp (by omega)], fun h => h.elim (fun h => absurd h c1) (fun h => absurd h c2)⟩, ht⟩) (fun _ h => by cases h) d_Prg_wordAt_22
set_option maxHeartbeats 4000000 in
set_option maxRecDepth 100000 in
/-- clear -/
theorem c_Prg_clear (l : Launch) (g : sdG) (q2 q6 : Nat) (px : Int32) (pw : Nat → Int32) (sz : Nat) : Met l y_Prg_clear (.code y_Prg_clear b_Prg_clear 1 none :: sdT) ({ frames := 0, cells := 0, slots := 0, locals := 0 }) (va_Pc [.ref q2] (sdU g [(q2, .inr (3, [.ref q6, .int px])), (q6, .inl (gI g, 600, .inl pw))] sz)) (va_Qv (S := Unit) (fun _ => True) (fun u t => sdB g [(q2, .inr (3, [.ref q6, .int px])), (q6, .inl (gI g, 600, .inl pw))] sz ((fun _ => [(q2, .inr (3, [.ref q6, .int (nI 0)])), (q6, .inl (gI g, 600, .inl pw))] : Unit → va_W) u) t) (va_A [(q2, .inr (3, [.ref q6, .int px])), (q6, .inl (gI g, 600, .inl pw))] sz)) 0 0 (va_A [(q2, .inr (3, [.ref q6, .int px])), (q6, .inl (gI g, 600, .inl pw))] sz) := by
  refine Met.ofW (cc := b_Prg_clear) (maxL := 1) (ret := none) (by decide) rfl ?_
  intro p ev s m args below meth c s₁ B hml hv
  obtain ⟨rfl, hsz, hP, hK, hE, hD0, hs0⟩ := hv
  have hx := B.exec
  have hb := B.bytes
  have hr := B.returns
  have hts := fun (w : Cond) (h : w ∈ sdT) => atoms_spec (ws := (.code y_Prg_clear b_Prg_clear 1 none :: sdT)) B.pre w (List.mem_cons_of_mem _ h)
  have hown : s.vm.findClass "SignDesk$Program" = some m.cls := findClass_of_methodNamed B.named
  have hlocks := B.notSynchronized
  subst hsz
  have hD := hD0.self (sz := s.heap.size)
  have hA0 : ∀ q : Nat, va_A [(q2, .inr (3, [.ref q6, .int px])), (q6, .inl (gI g, 600, .inl pw))] s.heap.size q → gS g ≤ q := fun q h => h.elim (fun ⟨k, e, hk⟩ => hD0.2 k _ hk) (fun h => Nat.le_trans hs0 h)
  have hA : ∀ q : Nat, s.heap.size ≤ q → va_A [(q2, .inr (3, [.ref q6, .int px])), (q6, .inl (gI g, 600, .inl pw))] s.heap.size q := fun q h => Or.inr h
  generalize hAe : va_A [(q2, .inr (3, [.ref q6, .int px])), (q6, .inl (gI g, 600, .inl pw))] s.heap.size = A at hD hA0 hA ⊢
  have hS : va_S A s.heap s.heap [] := va_S.rf
  have hP : sdP g [(q2, .inr (3, [.ref q6, .int px])), (q6, .inl (gI g, 600, .inl pw))] s.heap := hP
  have hl := lv_entry ([.ref q2]) (n := 1) (Nat.le_of_ble_eq_true rfl)
  rw [lg_entry_eq]
  generalize (lg_sl ([.ref q2]) ++ List.replicate (1 - (lg_sl ([.ref q2])).length) Slot.unset).toArray = ls at hl ⊢
  have hl : lv_has ls 1 [(0, .ref q2)] := hl
  refine lv_aload_n hx hb d_Prg_clear_0 rfl (lv_at hl 0 rfl) ?_
  refine lv_iconst (v := (nI 0)) hx hb d_Prg_clear_1 (by decide) ?_
  refine va_put (D := g.1) (ci := 3) (v := .int (nI 0)) (ty := .int) (C := "SignDesk$Program") (T := F_Prg) (N := 2) hx hb hts in_Prg t_Prg t_Prg_ok n_Prg hown hK hP hD hS 0 rfl rfl 1 (by decide) (hts _ k_66) (fun _ h9 => h9) rfl (by decide +kernel) rfl rfl (Nat.le_of_ble_eq_true rfl) d_Prg_clear_2 (fun H locs hP hD hS => ?_)
  have hP : sdP g [(q2, .inr (3, [.ref q6, .int (nI 0)])), (q6, .inl (gI g, 600, .inl pw))] H := hP
  have hD : va_D A [(q2, .inr (3, [.ref q6, .int (nI 0)])), (q6, .inl (gI g, 600, .inl pw))] := hD
  have hP9 := hP.sub (ws' := [(q2, .inr (3, [.ref q6, .int (nI 0)])), (q6, .inl (gI g, 600, .inl pw))]) [0, 1] rfl
  have hD9 := hD.sub (ws' := [(q2, .inr (3, [.ref q6, .int (nI 0)])), (q6, .inl (gI g, 600, .inl pw))]) [0, 1] (by decide) rfl
  exact W.vret hx hb hr (fun t ht hW => ⟨⟨(), rfl, trivial, by rw [ht]; exact hP9, by rw [hAe]; exact hD9⟩, hS.F ht⟩) hS.2.2 d_Prg_clear_5
set_option maxHeartbeats 4000000 in
set_option maxRecDepth 100000 in
/-- add -/
theorem c_Prg_add (l : Launch) (g : sdG) (q2 q6 pn : Nat) (pw : Nat → Int32) (hp : pn ≤ 600) (x : Int32) (hlt : pn < 600) (sz : Nat) : Met l y_Prg_add (.code y_Prg_add b_Prg_add 2 none :: sdT) ({ frames := 1, cells := 0, slots := 0, locals := 20 }) (va_Pc [.ref q2, .int x] (sdU g [(q2, .inr (3, [.ref q6, .int (nI pn)])), (q6, .inl (gI g, 600, .inl pw))] sz)) (va_Qv (S := Unit) (fun _ => True) (fun u t => sdB g [(q2, .inr (3, [.ref q6, .int (nI pn)])), (q6, .inl (gI g, 600, .inl pw))] sz ((fun _ => [(q2, .inr (3, [.ref q6, .int (nI (pn + 1))])), (q6, .inl (gI g, 600, .inl (upd pw pn x)))] : Unit → va_W) u) t) (va_A [(q2, .inr (3, [.ref q6, .int (nI pn)])), (q6, .inl (gI g, 600, .inl pw))] sz)) 0 0 (va_A [(q2, .inr (3, [.ref q6, .int (nI pn)])), (q6, .inl (gI g, 600, .inl pw))] sz) := by
  refine Met.ofW (cc := b_Prg_add) (maxL := 2) (ret := none) (by decide) rfl ?_
  intro p ev s m args below meth c s₁ B hml hv
  obtain ⟨rfl, hsz, hP, hK, hE, hD0, hs0⟩ := hv
  have hx := B.exec
  have hb := B.bytes
  have hr := B.returns
  have hts := fun (w : Cond) (h : w ∈ sdT) => atoms_spec (ws := (.code y_Prg_add b_Prg_add 2 none :: sdT)) B.pre w (List.mem_cons_of_mem _ h)
  have hown : s.vm.findClass "SignDesk$Program" = some m.cls := findClass_of_methodNamed B.named
  have hlocks := B.notSynchronized
  subst hsz
  have hD := hD0.self (sz := s.heap.size)
  have hA0 : ∀ q : Nat, va_A [(q2, .inr (3, [.ref q6, .int (nI pn)])), (q6, .inl (gI g, 600, .inl pw))] s.heap.size q → gS g ≤ q := fun q h => h.elim (fun ⟨k, e, hk⟩ => hD0.2 k _ hk) (fun h => Nat.le_trans hs0 h)
  have hA : ∀ q : Nat, s.heap.size ≤ q → va_A [(q2, .inr (3, [.ref q6, .int (nI pn)])), (q6, .inl (gI g, 600, .inl pw))] s.heap.size q := fun q h => Or.inr h
  generalize hAe : va_A [(q2, .inr (3, [.ref q6, .int (nI pn)])), (q6, .inl (gI g, 600, .inl pw))] s.heap.size = A at hD hA0 hA ⊢
  have hS : va_S A s.heap s.heap [] := va_S.rf
  have hP : sdP g [(q2, .inr (3, [.ref q6, .int (nI pn)])), (q6, .inl (gI g, 600, .inl pw))] s.heap := hP
  have hl := lv_entry ([.ref q2, .int x]) (n := 2) (Nat.le_of_ble_eq_true rfl)
  rw [lg_entry_eq]
  generalize (lg_sl ([.ref q2, .int x]) ++ List.replicate (2 - (lg_sl ([.ref q2, .int x])).length) Slot.unset).toArray = ls at hl ⊢
  have hl : lv_has ls 2 [(0, .ref q2), (1, .int x)] := hl
  refine lv_aload_n hx hb d_Prg_add_0 rfl (lv_at hl 0 rfl) ?_
  refine sd_ri (va_runV (As := []) (rest := []) ⟨hx, hb, hml, hown, hts⟩ (c_Prg_isFull l g q2 q6 pn pw hp) (cwV 0 hts (sd_gV k_325 k_309 k_310 k_25 k_311) rfl rfl rfl (by decide +kernel) ⟨Nat.le_of_ble_eq_true rfl, Nat.le_of_ble_eq_true rfl⟩) (sd_preV hK hE (sd_fr hS hA0) (hP.sub (ws' := [(q2, .inr (3, [.ref q6, .int (nI pn)])), (q6, .inl (gI g, 600, .inl pw))]) [0, 1] rfl) rfl rfl) rfl rfl hl.1 rfl (lv_room (Nat.le_of_ble_eq_true rfl)) d_Prg_add_1 ⟨Nat.zero_le _, Nat.zero_le _⟩) (fun r1 er1 => ?_)
  subst er1
  refine lv_if_ne (tgt := 27) hx hb d_Prg_add_4 (by decide) (fun c2 => ?_) (fun c2 => ?_)
  · have c2 := sb_ne0.mp c2
    exact absurd c2 (by omega)
  · have c2 := sb_eq0.mp c2
    refine lv_aload_n hx hb d_Prg_add_7 rfl (lv_at hl 0 rfl) ?_
    refine va_get (D := g.1) (ci := 3) (v := .ref q6) (C := "SignDesk$Program") (T := F_Prg) (N := 2) hx hb hts in_Prg hown hK hP 0 rfl rfl 0 (by decide) (hts _ k_65) (fun _ h9 => h9) rfl d_Prg_add_8 ?_
    refine lv_aload_n hx hb d_Prg_add_11 rfl (lv_at hl 0 rfl) ?_
    refine va_get (D := g.1) (ci := 3) (v := .int (nI pn)) (C := "SignDesk$Program") (T := F_Prg) (N := 2) hx hb hts in_Prg hown hK hP 0 rfl rfl 1 (by decide) (hts _ k_66) (fun _ h9 => h9) rfl d_Prg_add_12 ?_
    refine lv_iload_n hx hb d_Prg_add_15 rfl (lv_at hl 1 rfl) ?_
    refine va_iast hx hb hK hP hD hS 1 1 rfl rfl (i := (nI pn)) (x := x) (vp_in_nI (by omega) (by omega)) d_Prg_add_16 (fun H locs hP hD hS => ?_)
    have hP : sdP g [(q2, .inr (3, [.ref q6, .int (nI pn)])), (q6, .inl (gI g, 600, .inl (upd pw ((nI pn)).toNatClampNeg x)))] H := hP
    have hD : va_D A [(q2, .inr (3, [.ref q6, .int (nI pn)])), (q6, .inl (gI g, 600, .inl (upd pw ((nI pn)).toNatClampNeg x)))] := hD
    have eF : (upd pw ((nI pn)).toNatClampNeg x) = (upd pw pn x) := by rw [nI_clamp (by omega)]
    rw [eF] at hP hD
    refine lv_aload_n hx hb d_Prg_add_17 rfl (lv_at hl 0 rfl) ?_
    refine lv_dup hx hb d_Prg_add_18 rfl ?_
    refine va_get (D := g.1) (ci := 3) (v := .int (nI pn)) (C := "SignDesk$Program") (T := F_Prg) (N := 2) hx hb hts in_Prg hown hK hP 0 rfl rfl 1 (by decide) (hts _ k_66) (fun _ h9 => h9) rfl d_Prg_add_19 ?_
    refine lv_iconst (v := (nI 1)) hx hb d_Prg_add_22 (by decide) ?_
    refine lv_iadd hx hb d_Prg_add_23 ?_
    refine sd_topi (y := nI (pn + 1)) (nI_add _ _) ?_
    refine va_put (D := g.1) (ci := 3) (v := .int (nI (pn + 1))) (ty := .int) (C := "SignDesk$Program") (T := F_Prg) (N := 2) hx hb hts in_Prg t_Prg t_Prg_ok n_Prg hown hK hP hD hS 0 rfl rfl 1 (by decide) (hts _ k_66) (fun _ h9 => h9) rfl (by decide +kernel) rfl rfl (Nat.le_of_ble_eq_true rfl) d_Prg_add_24 (fun H locs hP hD hS => ?_)
    have hP : sdP g [(q2, .inr (3, [.ref q6, .int (nI (pn + 1))])), (q6, .inl (gI g, 600, .inl (upd pw pn x)))] H := hP
    have hD : va_D A [(q2, .inr (3, [.ref q6, .int (nI (pn + 1))])), (q6, .inl (gI g, 600, .inl (upd pw pn x)))] := hD
    have hP9 := hP.sub (ws' := [(q2, .inr (3, [.ref q6, .int (nI (pn + 1))])), (q6, .inl (gI g, 600, .inl (upd pw pn x)))]) [0, 1] rfl
    have hD9 := hD.sub (ws' := [(q2, .inr (3, [.ref q6, .int (nI (pn + 1))])), (q6, .inl (gI g, 600, .inl (upd pw pn x)))]) [0, 1] (by decide) rfl
    exact W.vret hx hb hr (fun t ht hW => ⟨⟨(), rfl, trivial, by rw [ht]; exact hP9, by rw [hAe]; exact hD9⟩, hS.F ht⟩) hS.2.2 d_Prg_add_27
set_option maxHeartbeats 4000000 in
set_option maxRecDepth 100000 in
/-- change -/
theorem c_Prg_change (l : Launch) (g : sdG) (q2 q6 pn : Nat) (pw : Nat → Int32) (hp : pn ≤ 600) (i : Nat) (x : Int32) (hlt : i < pn) (sz : Nat) : Met l y_Prg_change (.code y_Prg_change b_Prg_change 3 none :: sdT) ({ frames := 0, cells := 0, slots := 0, locals := 0 }) (va_Pc [.ref q2, .int (nI i), .int x] (sdU g [(q2, .inr (3, [.ref q6, .int (nI pn)])), (q6, .inl (gI g, 600, .inl pw))] sz)) (va_Qv (S := Unit) (fun _ => True) (fun u t => sdB g [(q2, .inr (3, [.ref q6, .int (nI pn)])), (q6, .inl (gI g, 600, .inl pw))] sz ((fun _ => [(q2, .inr (3, [.ref q6, .int (nI pn)])), (q6, .inl (gI g, 600, .inl (upd pw i x)))] : Unit → va_W) u) t) (va_A [(q2, .inr (3, [.ref q6, .int (nI pn)])), (q6, .inl (gI g, 600, .inl pw))] sz)) 0 0 (va_A [(q2, .inr (3, [.ref q6, .int (nI pn)])), (q6, .inl (gI g, 600, .inl pw))] sz) := by
  refine Met.ofW (cc := b_Prg_change) (maxL := 3) (ret := none) (by decide) rfl ?_
  intro p ev s m args below meth c s₁ B hml hv
  obtain ⟨rfl, hsz, hP, hK, hE, hD0, hs0⟩ := hv
  have hx := B.exec
  have hb := B.bytes
  have hr := B.returns
  have hts := fun (w : Cond) (h : w ∈ sdT) => atoms_spec (ws := (.code y_Prg_change b_Prg_change 3 none :: sdT)) B.pre w (List.mem_cons_of_mem _ h)
  have hown : s.vm.findClass "SignDesk$Program" = some m.cls := findClass_of_methodNamed B.named
  have hlocks := B.notSynchronized
  subst hsz
  have hD := hD0.self (sz := s.heap.size)
  have hA0 : ∀ q : Nat, va_A [(q2, .inr (3, [.ref q6, .int (nI pn)])), (q6, .inl (gI g, 600, .inl pw))] s.heap.size q → gS g ≤ q := fun q h => h.elim (fun ⟨k, e, hk⟩ => hD0.2 k _ hk) (fun h => Nat.le_trans hs0 h)
  have hA : ∀ q : Nat, s.heap.size ≤ q → va_A [(q2, .inr (3, [.ref q6, .int (nI pn)])), (q6, .inl (gI g, 600, .inl pw))] s.heap.size q := fun q h => Or.inr h
  generalize hAe : va_A [(q2, .inr (3, [.ref q6, .int (nI pn)])), (q6, .inl (gI g, 600, .inl pw))] s.heap.size = A at hD hA0 hA ⊢
  have hS : va_S A s.heap s.heap [] := va_S.rf
  have hP : sdP g [(q2, .inr (3, [.ref q6, .int (nI pn)])), (q6, .inl (gI g, 600, .inl pw))] s.heap := hP
  have hl := lv_entry ([.ref q2, .int (nI i), .int x]) (n := 3) (Nat.le_of_ble_eq_true rfl)
  rw [lg_entry_eq]
  generalize (lg_sl ([.ref q2, .int (nI i), .int x]) ++ List.replicate (3 - (lg_sl ([.ref q2, .int (nI i), .int x])).length) Slot.unset).toArray = ls at hl ⊢
  have hl : lv_has ls 3 [(0, .ref q2), (1, .int (nI i)), (2, .int x)] := hl
  refine lv_iload_n hx hb d_Prg_change_0 rfl (lv_at hl 1 rfl) ?_
  refine lv_if_lt (tgt := 19) hx hb d_Prg_change_1 (by decide) (fun c1 => ?_) (fun c1 => ?_)
  · exact absurd c1 (nI_pos (by omega))
  · refine lv_iload_n hx hb d_Prg_change_4 rfl (lv_at hl 1 rfl) ?_
    refine lv_aload_n hx hb d_Prg_change_5 rfl (lv_at hl 0 rfl) ?_
    refine va_get (D := g.1) (ci := 3) (v := .int (nI pn)) (C := "SignDesk$Program") (T := F_Prg) (N := 2) hx hb hts in_Prg hown hK hP 0 rfl rfl 1 (by decide) (hts _ k_66) (fun _ h9 => h9) rfl d_Prg_change_6 ?_
    refine lv_icmp_ge (tgt := 19) hx hb d_Prg_change_9 (by decide) (fun c2 => ?_) (fun c2 => ?_)
    · have c2 := (nI_leI (by omega) (by omega)).mp c2
      exact absurd c2 (by omega)
    · have c2 := mt (nI_leI (by omega) (by omega)).mpr c2
      refine lv_aload_n hx hb d_Prg_change_12 rfl (lv_at hl 0 rfl) ?_
      refine va_get (D := g.1) (ci := 3) (v := .ref q6) (C := "SignDesk$Program") (T := F_Prg) (N := 2) hx hb hts in_Prg hown hK hP 0 rfl rfl 0 (by decide) (hts _ k_65) (fun _ h9 => h9) rfl d_Prg_change_13 ?_
      refine lv_iload_n hx hb d_Prg_change_16 rfl (lv_at hl 1 rfl) ?_
      refine lv_iload_n hx hb d_Prg_change_17 rfl (lv_at hl 2 rfl) ?_
      refine va_iast hx hb hK hP hD hS 1 1 rfl rfl (i := (nI i)) (x := x) (vp_in_nI (by omega) (by omega)) d_Prg_change_18 (fun H locs hP hD hS => ?_)
      have hP : sdP g [(q2, .inr (3, [.ref q6, .int (nI pn)])), (q6, .inl (gI g, 600, .inl (upd pw ((nI i)).toNatClampNeg x)))] H := hP
      have hD : va_D A [(q2, .inr (3, [.ref q6, .int (nI pn)])), (q6, .inl (gI g, 600, .inl (upd pw ((nI i)).toNatClampNeg x)))] := hD
      have eF : (upd pw ((nI i)).toNatClampNeg x) = (upd pw i x) := by rw [nI_clamp (by omega)]
      rw [eF] at hP hD
      have hP9 := hP.sub (ws' := [(q2, .inr (3, [.ref q6, .int (nI pn)])), (q6, .inl (gI g, 600, .inl (upd pw i x)))]) [0, 1] rfl
      have hD9 := hD.sub (ws' := [(q2, .inr (3, [.ref q6, .int (nI pn)])), (q6, .inl (gI g, 600, .inl (upd pw i x)))]) [0, 1] (by decide) rfl
      exact W.vret hx hb hr (fun t ht hW => ⟨⟨(), rfl, trivial, by rw [ht]; exact hP9, by rw [hAe]; exact hD9⟩, hS.F ht⟩) hS.2.2 d_Prg_change_19
end
section
/-- the first place from i on, of k places, where P holds; i + k if there is none -/
noncomputable def ff (P : Nat → Prop) : Nat → Nat → Nat
  | 0, i => i
  | k + 1, i => @ite _ (P i) (Classical.propDecidable _) i (ff P k (i + 1))
theorem ff_eq {P : Nat → Prop} : ∀ (k i r : Nat), i ≤ r → r ≤ i + k → (∀ j, i ≤ j → j < r → ¬ P j) → (r < i + k → P r) → ff P k i = r := by
  intro k
  induction k with
  | zero => intro i r h1 h2 _ _; exact (show i = r by omega)
  | succ k ih =>
    intro i r h1 h2 h3 h4
    by_cases h : P i
    · have e : ff P (k + 1) i = i := @if_pos _ (Classical.propDecidable _) h _ _ _
      rw [e]
      rcases Nat.lt_or_ge i r with q | q
      · exact absurd h (h3 i (Nat.le_refl _) q)
      · omega
    · have e : ff P (k + 1) i = ff P k (i + 1) := @if_neg _ (Classical.propDecidable _) h _ _ _
      rw [e]
      rcases Nat.lt_or_ge i r with q | q
      · exact ih (i + 1) r q (by omega) (fun j h5 h6 => h3 j (by omega) h6) (fun h5 => h4 (by omega))
      · have : i = r := by omega
        subst this
        exact absurd (h4 (by omega)) h
theorem ff_spec {P : Nat → Prop} : ∀ (k i : Nat), i ≤ ff P k i ∧ ff P k i ≤ i + k ∧ (∀ j, i ≤ j → j < ff P k i → ¬ P j) ∧ (ff P k i < i + k → P (ff P k i)) := by
  intro k
  induction k with
  | zero => intro i; exact ⟨Nat.le_refl _, Nat.le_refl _, fun j h1 h2 => absurd h2 (by show ¬ j < i; omega), fun h => absurd h (Nat.lt_irrefl _)⟩
  | succ k ih =>
    intro i
    by_cases h : P i
    · have e : ff P (k + 1) i = i := @if_pos _ (Classical.propDecidable _) h _ _ _
      rw [e]
      exact ⟨Nat.le_refl _, by omega, fun j h1 h2 => absurd h2 (by omega), fun _ => h⟩
    · have e : ff P (k + 1) i = ff P k (i + 1) := @if_neg _ (Classical.propDecidable _) h _ _ _
      rw [e]
      obtain ⟨a1, a2, a3, a4⟩ := ih (i + 1)
      refine ⟨by omega, by omega, fun j h1 h2 => ?_, fun h5 => a4 (by omega)⟩
      rcases Nat.lt_or_ge i j with q | q
      · exact a3 j q h2
      · have : j = i := by omega
        subst this; exact h
def pushW (st : AS) (c y : Nat) : AS := ((wn st + 1, va_up (wc st) (wn st) c, va_up (wy st) (wn st) y), st.2)
def addS (st : AS) (a n v : Nat) : AS := (st.1, (sn st + 1, va_up (sa st) (sn st) a, va_up (sl st) (sn st) n, va_up (sv st) (sn st) v))
def tellS (st : AS) (s v : Nat) : AS := (st.1, (sn st, sa st, sl st, va_up (sv st) s v))
/-- what a word is while its symbol's number is untold -/
def encW (c y : Nat) : Nat := if y = 0 then c else 65535 + y
/-- the class's words hold the state -/
def PR (st : AS) (pw : Nat → Int32) : Prop := wn st ≤ 600 ∧ ∀ i, i < wn st → pw i = nI (encW (wc st i) (wy st i))
/-- three rows hold the symbols -/
def SR (st : AS) (s1 s2 s3 : Nat → Int32) : Prop := sn st ≤ 40 ∧ ∀ i, i < sn st → s1 i = nI (sa st i) ∧ s2 i = nI (sl st i) ∧ s3 i = nI (sv st i) - 1 ∧ sa st i + sl st i ≤ 2000 ∧ sv st i ≤ 700
/-- symbol i is written from a on, n signs -/
def smM (tx : Nat → Nat) (st : AS) (a n i : Nat) : Prop := sl st i = n ∧ ∀ j, j < n → tx (sa st i + j) = tx (a + j)
noncomputable def syO (tx : Nat → Nat) (st : AS) (a n : Nat) : Nat × AS :=
  if ff (smM tx st a n) (sn st) 0 < sn st then (ff (smM tx st a n) (sn st) 0 + 1, st) else if 40 ≤ sn st then (0, st) else (sn st + 1, addS st a n 0)
theorem syO_hit {tx : Nat → Nat} {st : AS} {a n k : Nat} (hk : k < sn st) (hm : smM tx st a n k) (hn : ∀ j, j < k → ¬ smM tx st a n j) : syO tx st a n = (k + 1, st) := by
  have e : ff (smM tx st a n) (sn st) 0 = k := ff_eq _ _ _ (Nat.zero_le _) (by omega) (fun j _ h => hn j h) (fun _ => hm)
  unfold syO
  rw [e, if_pos hk]
theorem syO_full {tx : Nat → Nat} {st : AS} {a n : Nat} (hn : ∀ j, j < sn st → ¬ smM tx st a n j) (h : 40 ≤ sn st) : syO tx st a n = (0, st) := by
  have e : ff (smM tx st a n) (sn st) 0 = sn st := ff_eq _ _ _ (Nat.zero_le _) (by omega) (fun j _ h => hn j h) (fun h => absurd h (by omega))
  unfold syO
  rw [e, if_neg (by omega), if_pos h]
theorem syO_new {tx : Nat → Nat} {st : AS} {a n : Nat} (hn : ∀ j, j < sn st → ¬ smM tx st a n j) (h : ¬ 40 ≤ sn st) : syO tx st a n = (sn st + 1, addS st a n 0) := by
  have e : ff (smM tx st a n) (sn st) 0 = sn st := ff_eq _ _ _ (Nat.zero_le _) (by omega) (fun j _ h => hn j h) (fun h => absurd h (by omega))
  unfold syO
  rw [e, if_neg (by omega), if_neg h]
theorem SR_add {st : AS} {s1 s2 s3 : Nat → Int32} {a n : Nat} (h : SR st s1 s2 s3) (h40 : sn st < 40) (hb : a + n ≤ 2000) : SR (addS st a n 0) (upd s1 (sn st) (nI a)) (upd s2 (sn st) (nI n)) (upd s3 (sn st) (-1)) := by
  refine ⟨(by show sn st + 1 ≤ 40; omega), fun i hi => ?_⟩
  have hi : i < sn st + 1 := hi
  show upd s1 (sn st) (nI a) i = nI (va_up (sa st) (sn st) a i) ∧ upd s2 (sn st) (nI n) i = nI (va_up (sl st) (sn st) n i) ∧ upd s3 (sn st) (-1) i = nI (va_up (sv st) (sn st) 0 i) - 1 ∧ va_up (sa st) (sn st) a i + va_up (sl st) (sn st) n i ≤ 2000 ∧ va_up (sv st) (sn st) 0 i ≤ 700
  rcases Nat.lt_or_ge i (sn st) with q | q
  · have hne : i ≠ sn st := by omega
    rw [pk_un hne, pk_un hne, pk_un hne, va_up_ne _ _ hne, va_up_ne _ _ hne, va_up_ne _ _ hne]
    exact h.2 i q
  · have : i = sn st := by omega
    subst this
    rw [pk_us, pk_us, pk_us, va_up_self, va_up_self, va_up_self]
    exact ⟨rfl, rfl, by decide, hb, by omega⟩
theorem SR_tell {st : AS} {s1 s2 s3 : Nat → Int32} {k v : Nat} (h : SR st s1 s2 s3) (hv : v ≤ 699) : SR (tellS st k (v + 1)) s1 s2 (upd s3 k (nI v)) := by
  refine ⟨h.1, fun i hi => ?_⟩
  obtain ⟨a1, a2, a3, a4, a5⟩ := h.2 i hi
  show s1 i = nI (sa st i) ∧ s2 i = nI (sl st i) ∧ upd s3 k (nI v) i = nI (va_up (sv st) k (v + 1) i) - 1 ∧ sa st i + sl st i ≤ 2000 ∧ va_up (sv st) k (v + 1) i ≤ 700
  by_cases hne : i = k
  · subst hne
    rw [pk_us, va_up_self]
    exact ⟨a1, a2, (nI_pred v).symm, a4, by omega⟩
  · rw [pk_un hne, va_up_ne _ _ hne]
    exact ⟨a1, a2, a3, a4, a5⟩
theorem m1_iff {k : Nat} (h : k < 2 ^ 30) : nI k - 1 = -1 ↔ k = 0 := by
  rw [← Int32.toInt_inj, show (1 : Int32) = nI 1 from rfl, pk_sub_toInt h (by omega)]
  show (k : Int) - 1 = -1 ↔ k = 0
  omega
theorem m1_lt {k : Nat} (h : k < 2 ^ 30) : nI k - 1 < 0 ↔ k = 0 := by
  rw [Int32.lt_iff_toInt_lt, show (1 : Int32) = nI 1 from rfl, pk_sub_toInt h (by omega)]
  show (k : Int) - 1 < 0 ↔ k = 0
  omega
set_option maxHeartbeats 4000000 in
set_option maxRecDepth 100000 in
/-- count -/
theorem c_Sym_count (l : Launch) (g : sdG) (q7 q1 q8 q9 q10 : Nat) (st : AS) (s1 s2 s3 : Nat → Int32) (hSR : SR st s1 s2 s3) : Met l y_Sym_count (.code y_Sym_count b_Sym_count 1 (some .int) :: sdT) ({ frames := 0, cells := 0, slots := 0, locals := 0 }) (va_Pc [.ref q7] (sdR g [(q7, .inr (5, [.ref q1, .ref q8, .ref q9, .ref q10, .int (nI (sn st))])), (q8, .inl (gI g, 40, .inl s1)), (q9, .inl (gI g, 40, .inl s2)), (q10, .inl (gI g, 40, .inl s3))])) (vp_Si (fun r => r = nI (sn st))) 0 0 (fun _ => False) := by
  refine Met.ofW (cc := b_Sym_count) (maxL := 1) (ret := (some .int)) (by decide) rfl ?_
  intro p ev s m args below meth c s₁ B hml hv
  obtain ⟨rfl, hP, hK, hE⟩ := hv
  have hx := B.exec
  have hb := B.bytes
  have hr := B.returns
  have hts := fun (w : Cond) (h : w ∈ sdT) => atoms_spec (ws := (.code y_Sym_count b_Sym_count 1 (some .int) :: sdT)) B.pre w (List.mem_cons_of_mem _ h)
  have hown : s.vm.findClass "SignDesk$Symbols" = some m.cls := findClass_of_methodNamed B.named
  have hlocks := B.notSynchronized
  have hF : ∀ a : Nat, a < s.heap.size → ¬ sdA g a → s.heap[a]? = s.heap[a]? := fun _ _ _ => rfl
  have hP : sdP g [(q7, .inr (5, [.ref q1, .ref q8, .ref q9, .ref q10, .int (nI (sn st))])), (q8, .inl (gI g, 40, .inl s1)), (q9, .inl (gI g, 40, .inl s2)), (q10, .inl (gI g, 40, .inl s3))] s.heap := hP
  have hl := lv_entry ([.ref q7]) (n := 1) (Nat.le_of_ble_eq_true rfl)
  rw [lg_entry_eq]
  generalize (lg_sl ([.ref q7]) ++ List.replicate (1 - (lg_sl ([.ref q7])).length) Slot.unset).toArray = ls at hl ⊢
  have hl : lv_has ls 1 [(0, .ref q7)] := hl
  have h40 := hSR.1
  refine lv_aload_n hx hb d_Sym_count_0 rfl (lv_at hl 0 rfl) ?_
  refine va_get (D := g.1) (ci := 5) (v := .int (nI (sn st))) (C := "SignDesk$Symbols") (T := F_Sym) (N := 5) hx hb hts in_Sym hown hK hP 0 rfl rfl 4 (by decide) (hts _ k_89) (fun _ h9 => h9) rfl d_Sym_count_1 ?_
  exact W.iret (v := (nI (sn st))) hx hb hr  (fun t ht hW => ⟨_, rfl, rfl, ht⟩) (fun _ h => by cases h) d_Sym_count_4
set_option maxHeartbeats 4000000 in
set_option maxRecDepth 100000 in
/-- numberOf -/
theorem c_Sym_numberOf (l : Launch) (g : sdG) (q7 q1 q8 q9 q10 : Nat) (st : AS) (s1 s2 s3 : Nat → Int32) (hSR : SR st s1 s2 s3) (k : Nat) (hk : k < sn st) : Met l y_Sym_numberOf (.code y_Sym_numberOf b_Sym_numberOf 2 (some .int) :: sdT) ({ frames := 0, cells := 0, slots := 0, locals := 0 }) (va_Pc [.ref q7, .int (nI k)] (sdR g [(q7, .inr (5, [.ref q1, .ref q8, .ref q9, .ref q10, .int (nI (sn st))])), (q8, .inl (gI g, 40, .inl s1)), (q9, .inl (gI g, 40, .inl s2)), (q10, .inl (gI g, 40, .inl s3))])) (vp_Si (fun r => r = nI (sv st k) - 1)) 0 0 (fun _ => False) := by
  refine Met.ofW (cc := b_Sym_numberOf) (maxL := 2) (ret := (some .int)) (by decide) rfl ?_
  intro p ev s m args below meth c s₁ B hml hv
  obtain ⟨rfl, hP, hK, hE⟩ := hv
  have hx := B.exec
  have hb := B.bytes
  have hr := B.returns
  have hts := fun (w : Cond) (h : w ∈ sdT) => atoms_spec (ws := (.code y_Sym_numberOf b_Sym_numberOf 2 (some .int) :: sdT)) B.pre w (List.mem_cons_of_mem _ h)
  have hown : s.vm.findClass "SignDesk$Symbols" = some m.cls := findClass_of_methodNamed B.named
  have hlocks := B.notSynchronized
  have hF : ∀ a : Nat, a < s.heap.size → ¬ sdA g a → s.heap[a]? = s.heap[a]? := fun _ _ _ => rfl
  have hP : sdP g [(q7, .inr (5, [.ref q1, .ref q8, .ref q9, .ref q10, .int (nI (sn st))])), (q8, .inl (gI g, 40, .inl s1)), (q9, .inl (gI g, 40, .inl s2)), (q10, .inl (gI g, 40, .inl s3))] s.heap := hP
  have hl := lv_entry ([.ref q7, .int (nI k)]) (n := 2) (Nat.le_of_ble_eq_true rfl)
  rw [lg_entry_eq]
  generalize (lg_sl ([.ref q7, .int (nI k)]) ++ List.replicate (2 - (lg_sl ([.ref q7, .int (nI k)])).length) Slot.unset).toArray = ls at hl ⊢
  have hl : lv_has ls 2 [(0, .ref q7), (1, .int (nI k))] := hl
  have h40 := hSR.1
  refine lv_iload_n hx hb d_Sym_numberOf_0 rfl (lv_at hl 1 rfl) ?_
  refine lv_if_lt (tgt := 21) hx hb d_Sym_numberOf_1 (by decide) (fun c1 => ?_) (fun c1 => ?_)
  · exact absurd c1 (nI_pos (by omega))
  · refine lv_iload_n hx hb d_Sym_numberOf_4 rfl (lv_at hl 1 rfl) ?_
    refine lv_aload_n hx hb d_Sym_numberOf_5 rfl (lv_at hl 0 rfl) ?_
    refine va_get (D := g.1) (ci := 5) (v := .int (nI (sn st))) (C := "SignDesk$Symbols") (T := F_Sym) (N := 5) hx hb hts in_Sym hown hK hP 0 rfl rfl 4 (by decide) (hts _ k_89) (fun _ h9 => h9) rfl d_Sym_numberOf_6 ?_
    refine lv_icmp_ge (tgt := 21) hx hb d_Sym_numberOf_9 (by decide) (fun c2 => ?_) (fun c2 => ?_)
    · have c2 := (nI_leI (by omega) (by omega)).mp c2
      exact absurd c2 (by omega)
    · have c2 := mt (nI_leI (by omega) (by omega)).mpr c2
      refine lv_aload_n hx hb d_Sym_numberOf_12 rfl (lv_at hl 0 rfl) ?_
      refine va_get (D := g.1) (ci := 5) (v := .ref q10) (C := "SignDesk$Symbols") (T := F_Sym) (N := 5) hx hb hts in_Sym hown hK hP 0 rfl rfl 3 (by decide) (hts _ k_88) (fun _ h9 => h9) rfl d_Sym_numberOf_13 ?_
      refine lv_iload_n hx hb d_Sym_numberOf_16 rfl (lv_at hl 1 rfl) ?_
      refine va_iald hx hb hK hP 3 1 rfl rfl (i := (nI k)) (vp_in_nI (by omega) (by omega)) d_Sym_numberOf_17 ?_
      refine lv_goto (tgt := 22) hx hb d_Sym_numberOf_18 (by decide) ?_
      exact W.iret (v := (s3 ((nI k)).toNatClampNeg)) hx hb hr  (fun t ht hW => ⟨_, rfl, by rw [nI_clamp (by omega)]; exact (hSR.2 k hk).2.2.1, ht⟩) (fun _ h => by cases h) d_Sym_numberOf_22
set_option maxHeartbeats 4000000 in
set_option maxRecDepth 100000 in
/-- clear -/
theorem c_Sym_clear (l : Launch) (g : sdG) (q7 q1 q8 q9 q10 : Nat) (cx : Int32) (s1 s2 s3 : Nat → Int32) (sz : Nat) : Met l y_Sym_clear (.code y_Sym_clear b_Sym_clear 1 none :: sdT) ({ frames := 0, cells := 0, slots := 0, locals := 0 }) (va_Pc [.ref q7] (sdU g [(q7, .inr (5, [.ref q1, .ref q8, .ref q9, .ref q10, .int cx])), (q8, .inl (gI g, 40, .inl s1)), (q9, .inl (gI g, 40, .inl s2)), (q10, .inl (gI g, 40, .inl s3))] sz)) (va_Qv (S := Unit) (fun _ => True) (fun u t => sdB g [(q7, .inr (5, [.ref q1, .ref q8, .ref q9, .ref q10, .int cx])), (q8, .inl (gI g, 40, .inl s1)), (q9, .inl (gI g, 40, .inl s2)), (q10, .inl (gI g, 40, .inl s3))] sz ((fun _ => [(q7, .inr (5, [.ref q1, .ref q8, .ref q9, .ref q10, .int (nI 0)])), (q8, .inl (gI g, 40, .inl s1)), (q9, .inl (gI g, 40, .inl s2)), (q10, .inl (gI g, 40, .inl s3))] : Unit → va_W) u) t) (va_A [(q7, .inr (5, [.ref q1, .ref q8, .ref q9, .ref q10, .int cx])), (q8, .inl (gI g, 40, .inl s1)), (q9, .inl (gI g, 40, .inl s2)), (q10, .inl (gI g, 40, .inl s3))] sz)) 0 0 (va_A [(q7, .inr (5, [.ref q1, .ref q8, .ref q9, .ref q10, .int cx])), (q8, .inl (gI g, 40, .inl s1)), (q9, .inl (gI g, 40, .inl s2)), (q10, .inl (gI g, 40, .inl s3))] sz) := by
  refine Met.ofW (cc := b_Sym_clear) (maxL := 1) (ret := none) (by decide) rfl ?_
  intro p ev s m args below meth c s₁ B hml hv
  obtain ⟨rfl, hsz, hP, hK, hE, hD0, hs0⟩ := hv
  have hx := B.exec
  have hb := B.bytes
  have hr := B.returns
  have hts := fun (w : Cond) (h : w ∈ sdT) => atoms_spec (ws := (.code y_Sym_clear b_Sym_clear 1 none :: sdT)) B.pre w (List.mem_cons_of_mem _ h)
  have hown : s.vm.findClass "SignDesk$Symbols" = some m.cls := findClass_of_methodNamed B.named
  have hlocks := B.notSynchronized
  subst hsz
  have hD := hD0.self (sz := s.heap.size)
  have hA0 : ∀ q : Nat, va_A [(q7, .inr (5, [.ref q1, .ref q8, .ref q9, .ref q10, .int cx])), (q8, .inl (gI g, 40, .inl s1)), (q9, .inl (gI g, 40, .inl s2)), (q10, .inl (gI g, 40, .inl s3))] s.heap.size q → gS g ≤ q := fun q h => h.elim (fun ⟨k, e, hk⟩ => hD0.2 k _ hk) (fun h => Nat.le_trans hs0 h)
  have hA : ∀ q : Nat, s.heap.size ≤ q → va_A [(q7, .inr (5, [.ref q1, .ref q8, .ref q9, .ref q10, .int cx])), (q8, .inl (gI g, 40, .inl s1)), (q9, .inl (gI g, 40, .inl s2)), (q10, .inl (gI g, 40, .inl s3))] s.heap.size q := fun q h => Or.inr h
  generalize hAe : va_A [(q7, .inr (5, [.ref q1, .ref q8, .ref q9, .ref q10, .int cx])), (q8, .inl (gI g, 40, .inl s1)), (q9, .inl (gI g, 40, .inl s2)), (q10, .inl (gI g, 40, .inl s3))] s.heap.size = A at hD hA0 hA ⊢
  have hS : va_S A s.heap s.heap [] := va_S.rf
  have hP : sdP g [(q7, .inr (5, [.ref q1, .ref q8, .ref q9, .ref q10, .int cx])), (q8, .inl (gI g, 40, .inl s1)), (q9, .inl (gI g, 40, .inl s2)), (q10, .inl (gI g, 40, .inl s3))] s.heap := hP
  have hl := lv_entry ([.ref q7]) (n := 1) (Nat.le_of_ble_eq_true rfl)
  rw [lg_entry_eq]
  generalize (lg_sl ([.ref q7]) ++ List.replicate (1 - (lg_sl ([.ref q7])).length) Slot.unset).toArray = ls at hl ⊢
  have hl : lv_has ls 1 [(0, .ref q7)] := hl
  refine lv_aload_n hx hb d_Sym_clear_0 rfl (lv_at hl 0 rfl) ?_
  refine lv_iconst (v := (nI 0)) hx hb d_Sym_clear_1 (by decide) ?_
  refine va_put (D := g.1) (ci := 5) (v := .int (nI 0)) (ty := .int) (C := "SignDesk$Symbols") (T := F_Sym) (N := 5) hx hb hts in_Sym t_Sym t_Sym_ok n_Sym hown hK hP hD hS 0 rfl rfl 4 (by decide) (hts _ k_89) (fun _ h9 => h9) rfl (by decide +kernel) rfl rfl (Nat.le_of_ble_eq_true rfl) d_Sym_clear_2 (fun H locs hP hD hS => ?_)
  have hP : sdP g [(q7, .inr (5, [.ref q1, .ref q8, .ref q9, .ref q10, .int (nI 0)])), (q8, .inl (gI g, 40, .inl s1)), (q9, .inl (gI g, 40, .inl s2)), (q10, .inl (gI g, 40, .inl s3))] H := hP
  have hD : va_D A [(q7, .inr (5, [.ref q1, .ref q8, .ref q9, .ref q10, .int (nI 0)])), (q8, .inl (gI g, 40, .inl s1)), (q9, .inl (gI g, 40, .inl s2)), (q10, .inl (gI g, 40, .inl s3))] := hD
  have hP9 := hP.sub (ws' := [(q7, .inr (5, [.ref q1, .ref q8, .ref q9, .ref q10, .int (nI 0)])), (q8, .inl (gI g, 40, .inl s1)), (q9, .inl (gI g, 40, .inl s2)), (q10, .inl (gI g, 40, .inl s3))]) [0, 1, 2, 3] rfl
  have hD9 := hD.sub (ws' := [(q7, .inr (5, [.ref q1, .ref q8, .ref q9, .ref q10, .int (nI 0)])), (q8, .inl (gI g, 40, .inl s1)), (q9, .inl (gI g, 40, .inl s2)), (q10, .inl (gI g, 40, .inl s3))]) [0, 1, 2, 3] (by decide) rfl
  exact W.vret hx hb hr (fun t ht hW => ⟨⟨(), rfl, trivial, by rw [ht]; exact hP9, by rw [hAe]; exact hD9⟩, hS.F ht⟩) hS.2.2 d_Sym_clear_5
set_option maxHeartbeats 4000000 in
set_option maxRecDepth 100000 in
/-- tell -/
theorem c_Sym_tell (l : Launch) (g : sdG) (q7 q1 q8 q9 q10 : Nat) (st : AS) (s1 s2 s3 : Nat → Int32) (hSR : SR st s1 s2 s3) (k x : Nat) (hk : k < sn st) (hx7 : x ≤ 699) (sz : Nat) : Met l y_Sym_tell (.code y_Sym_tell b_Sym_tell 3 (some .boolean) :: sdT) ({ frames := 0, cells := 0, slots := 0, locals := 0 }) (va_Pc [.ref q7, .int (nI k), .int (nI x)] (sdU g [(q7, .inr (5, [.ref q1, .ref q8, .ref q9, .ref q10, .int (nI (sn st))])), (q8, .inl (gI g, 40, .inl s1)), (q9, .inl (gI g, 40, .inl s2)), (q10, .inl (gI g, 40, .inl s3))] sz)) (va_Qi (S := AS × (Nat → Int32)) (fun r u => (¬ sv st k = 0 → r = nI 0 ∧ u.1 = st) ∧ (sv st k = 0 → r = nI 1 ∧ u.1 = tellS st k (x + 1)) ∧ SR u.1 s1 s2 u.2) (fun u t => sdB g [(q7, .inr (5, [.ref q1, .ref q8, .ref q9, .ref q10, .int (nI (sn st))])), (q8, .inl (gI g, 40, .inl s1)), (q9, .inl (gI g, 40, .inl s2)), (q10, .inl (gI g, 40, .inl s3))] sz ((fun u => [(q7, .inr (5, [.ref q1, .ref q8, .ref q9, .ref q10, .int (nI (sn u.1))])), (q8, .inl (gI g, 40, .inl s1)), (q9, .inl (gI g, 40, .inl s2)), (q10, .inl (gI g, 40, .inl u.2))] : AS × (Nat → Int32) → va_W) u) t) (va_A [(q7, .inr (5, [.ref q1, .ref q8, .ref q9, .ref q10, .int (nI (sn st))])), (q8, .inl (gI g, 40, .inl s1)), (q9, .inl (gI g, 40, .inl s2)), (q10, .inl (gI g, 40, .inl s3))] sz)) 0 0 (va_A [(q7, .inr (5, [.ref q1, .ref q8, .ref q9, .ref q10, .int (nI (sn st))])), (q8, .inl (gI g, 40, .inl s1)), (q9, .inl (gI g, 40, .inl s2)), (q10, .inl (gI g, 40, .inl s3))] sz) := by
  refine Met.ofW (cc := b_Sym_tell) (maxL := 3) (ret := (some .boolean)) (by decide) rfl ?_
  intro p ev s m args below meth c s₁ B hml hv
  obtain ⟨rfl, hsz, hP, hK, hE, hD0, hs0⟩ := hv
  have hx := B.exec
  have hb := B.bytes
  have hr := B.returns
  have hts := fun (w : Cond) (h : w ∈ sdT) => atoms_spec (ws := (.code y_Sym_tell b_Sym_tell 3 (some .boolean) :: sdT)) B.pre w (List.mem_cons_of_mem _ h)
  have hown : s.vm.findClass "SignDesk$Symbols" = some m.cls := findClass_of_methodNamed B.named
  have hlocks := B.notSynchronized
  subst hsz
  have hD := hD0.self (sz := s.heap.size)
  have hA0 : ∀ q : Nat, va_A [(q7, .inr (5, [.ref q1, .ref q8, .ref q9, .ref q10, .int (nI (sn st))])), (q8, .inl (gI g, 40, .inl s1)), (q9, .inl (gI g, 40, .inl s2)), (q10, .inl (gI g, 40, .inl s3))] s.heap.size q → gS g ≤ q := fun q h => h.elim (fun ⟨k, e, hk⟩ => hD0.2 k _ hk) (fun h => Nat.le_trans hs0 h)
  have hA : ∀ q : Nat, s.heap.size ≤ q → va_A [(q7, .inr (5, [.ref q1, .ref q8, .ref q9, .ref q10, .int (nI (sn st))])), (q8, .inl (gI g, 40, .inl s1)), (q9, .inl (gI g, 40, .inl s2)), (q10, .inl (gI g, 40, .inl s3))] s.heap.size q := fun q h => Or.inr h
  generalize hAe : va_A [(q7, .inr (5, [.ref q1, .ref q8, .ref q9, .ref q10, .int (nI (sn st))])), (q8, .inl (gI g, 40, .inl s1)), (q9, .inl (gI g, 40, .inl s2)), (q10, .inl (gI g, 40, .inl s3))] s.heap.size = A at hD hA0 hA ⊢
  have hS : va_S A s.heap s.heap [] := va_S.rf
  have hP : sdP g [(q7, .inr (5, [.ref q1, .ref q8, .ref q9, .ref q10, .int (nI (sn st))])), (q8, .inl (gI g, 40, .inl s1)), (q9, .inl (gI g, 40, .inl s2)), (q10, .inl (gI g, 40, .inl s3))] s.heap := hP
  have hl := lv_entry ([.ref q7, .int (nI k), .int (nI x)]) (n := 3) (Nat.le_of_ble_eq_true rfl)
  rw [lg_entry_eq]
  generalize (lg_sl ([.ref q7, .int (nI k), .int (nI x)]) ++ List.replicate (3 - (lg_sl ([.ref q7, .int (nI k), .int (nI x)])).length) Slot.unset).toArray = ls at hl ⊢
  have hl : lv_has ls 3 [(0, .ref q7), (1, .int (nI k)), (2, .int (nI x))] := hl
  have h40 := hSR.1
  refine lv_iload_n hx hb d_Sym_tell_0 rfl (lv_at hl 1 rfl) ?_
  refine lv_if_lt (tgt := 22) hx hb d_Sym_tell_1 (by decide) (fun c1 => ?_) (fun c1 => ?_)
  · exact absurd c1 (nI_pos (by omega))
  · refine lv_iload_n hx hb d_Sym_tell_4 rfl (lv_at hl 1 rfl) ?_
    refine lv_aload_n hx hb d_Sym_tell_5 rfl (lv_at hl 0 rfl) ?_
    refine va_get (D := g.1) (ci := 5) (v := .int (nI (sn st))) (C := "SignDesk$Symbols") (T := F_Sym) (N := 5) hx hb hts in_Sym hown hK hP 0 rfl rfl 4 (by decide) (hts _ k_89) (fun _ h9 => h9) rfl d_Sym_tell_6 ?_
    refine lv_icmp_ge (tgt := 22) hx hb d_Sym_tell_9 (by decide) (fun c2 => ?_) (fun c2 => ?_)
    · have c2 := (nI_leI (by omega) (by omega)).mp c2
      exact absurd c2 (by omega)
    · have c2 := mt (nI_leI (by omega) (by omega)).mpr c2
      refine lv_aload_n hx hb d_Sym_tell_12 rfl (lv_at hl 0 rfl) ?_
      refine va_get (D := g.1) (ci := 5) (v := .ref q10) (C := "SignDesk$Symbols") (T := F_Sym) (N := 5) hx hb hts in_Sym hown hK hP 0 rfl rfl 3 (by decide) (hts _ k_88) (fun _ h9 => h9) rfl d_Sym_tell_13 ?_
      refine lv_iload_n hx hb d_Sym_tell_16 rfl (lv_at hl 1 rfl) ?_
      refine va_iald hx hb hK hP 3 1 rfl rfl (i := (nI k)) (vp_in_nI (by omega) (by omega)) d_Sym_tell_17 ?_
      refine sd_topi (y := nI (sv st k) - 1) (by rw [nI_clamp (by omega)]; exact (hSR.2 k hk).2.2.1) ?_
      have h700 := (hSR.2 k hk).2.2.2.2
      refine lv_iconst (v := (-1)) hx hb d_Sym_tell_18 (by decide) ?_
      refine lv_icmp_eq (tgt := 24) hx hb d_Sym_tell_19 (by decide) (fun c3 => ?_) (fun c3 => ?_)
      · have c3 := (m1_iff (by omega)).mp c3
        refine lv_aload_n hx hb d_Sym_tell_24 rfl (lv_at hl 0 rfl) ?_
        refine va_get (D := g.1) (ci := 5) (v := .ref q10) (C := "SignDesk$Symbols") (T := F_Sym) (N := 5) hx hb hts in_Sym hown hK hP 0 rfl rfl 3 (by decide) (hts _ k_88) (fun _ h9 => h9) rfl d_Sym_tell_25 ?_
        refine lv_iload_n hx hb d_Sym_tell_28 rfl (lv_at hl 1 rfl) ?_
        refine lv_iload_n hx hb d_Sym_tell_29 rfl (lv_at hl 2 rfl) ?_
        refine va_iast hx hb hK hP hD hS 3 1 rfl rfl (i := (nI k)) (x := (nI x)) (vp_in_nI (by omega) (by omega)) d_Sym_tell_30 (fun H locs hP hD hS => ?_)
        have hP : sdP g [(q7, .inr (5, [.ref q1, .ref q8, .ref q9, .ref q10, .int (nI (sn st))])), (q8, .inl (gI g, 40, .inl s1)), (q9, .inl (gI g, 40, .inl s2)), (q10, .inl (gI g, 40, .inl (upd s3 ((nI k)).toNatClampNeg (nI x))))] H := hP
        have hD : va_D A [(q7, .inr (5, [.ref q1, .ref q8, .ref q9, .ref q10, .int (nI (sn st))])), (q8, .inl (gI g, 40, .inl s1)), (q9, .inl (gI g, 40, .inl s2)), (q10, .inl (gI g, 40, .inl (upd s3 ((nI k)).toNatClampNeg (nI x))))] := hD
        have eF : (upd s3 ((nI k)).toNatClampNeg (nI x)) = (upd s3 k (nI x)) := by rw [nI_clamp (by omega)]
        rw [eF] at hP hD
        refine lv_iconst (v := (nI 1)) hx hb d_Sym_tell_31 (by decide) ?_
        have hP9 := hP.sub (ws' := [(q7, .inr (5, [.ref q1, .ref q8, .ref q9, .ref q10, .int (nI (sn st))])), (q8, .inl (gI g, 40, .inl s1)), (q9, .inl (gI g, 40, .inl s2)), (q10, .inl (gI g, 40, .inl (upd s3 k (nI x))))]) [0, 1, 2, 3] rfl
        have hD9 := hD.sub (ws' := [(q7, .inr (5, [.ref q1, .ref q8, .ref q9, .ref q10, .int (nI (sn st))])), (q8, .inl (gI g, 40, .inl s1)), (q9, .inl (gI g, 40, .inl s2)), (q10, .inl (gI g, 40, .inl (upd s3 k (nI x))))]) [0, 1, 2, 3] (by decide) rfl
        exact W.zret (v := (nI 1)) hx hb hr (by first | rfl | decide | exact sb_nar) (fun t ht hW => ⟨⟨_, (tellS st k (x + 1), upd s3 k (nI x)), rfl, ⟨fun h => absurd h (fun h => h c3), fun _ => ⟨rfl, rfl⟩, SR_tell hSR hx7⟩, by rw [ht]; exact hP9, by rw [hAe]; exact hD9⟩, hS.F ht⟩) hS.2.2 d_Sym_tell_32
      · have c3 := mt (m1_iff (by omega)).mpr c3
        refine lv_iconst (v := (nI 0)) hx hb d_Sym_tell_22 (by decide) ?_
        have hP9 := hP.sub (ws' := [(q7, .inr (5, [.ref q1, .ref q8, .ref q9, .ref q10, .int (nI (sn st))])), (q8, .inl (gI g, 40, .inl s1)), (q9, .inl (gI g, 40, .inl s2)), (q10, .inl (gI g, 40, .inl s3))]) [0, 1, 2, 3] rfl
        have hD9 := hD.sub (ws' := [(q7, .inr (5, [.ref q1, .ref q8, .ref q9, .ref q10, .int (nI (sn st))])), (q8, .inl (gI g, 40, .inl s1)), (q9, .inl (gI g, 40, .inl s2)), (q10, .inl (gI g, 40, .inl s3))]) [0, 1, 2, 3] (by decide) rfl
        exact W.zret (v := (nI 0)) hx hb hr (by first | rfl | decide | exact sb_nar) (fun t ht hW => ⟨⟨_, (st, s3), rfl, ⟨fun h => ⟨rfl, rfl⟩, fun h => absurd h c3, hSR⟩, by rw [ht]; exact hP9, by rw [hAe]; exact hD9⟩, hS.F ht⟩) hS.2.2 d_Sym_tell_23
set_option maxHeartbeats 4000000 in
set_option maxRecDepth 100000 in
/-- symbolOf -/
theorem c_Sym_symbolOf (l : Launch) (g : sdG) (q7 q1 q8 q9 q10 q5 n : Nat) (f : Nat → Int32) (tx : Nat → Nat) (hT : TXok n f tx) (st : AS) (s1 s2 s3 : Nat → Int32) (hSR : SR st s1 s2 s3) (a z : Nat) (ha : a ≤ z) (hz : z ≤ 2000) (sz : Nat) : Met l y_Sym_symbolOf (.code y_Sym_symbolOf b_Sym_symbolOf 4 (some .int) :: sdT) ({ frames := 2, cells := 0, slots := 0, locals := 45 }) (va_Pc [.ref q7, .int (nI a), .int (nI z)] (sdU g [(q7, .inr (5, [.ref q1, .ref q8, .ref q9, .ref q10, .int (nI (sn st))])), (q8, .inl (gI g, 40, .inl s1)), (q9, .inl (gI g, 40, .inl s2)), (q10, .inl (gI g, 40, .inl s3)), (q1, .inr (6, [.ref q5, .int (nI n)])), (q5, .inl (gB g, 2000, .inl f))] sz)) (va_Qi (S := AS × (Nat → Int32) × (Nat → Int32) × (Nat → Int32)) (fun r u => (∃ c, syO tx st a (z - a) = (c, u.1) ∧ r = nI c - 1) ∧ SR u.1 u.2.1 u.2.2.1 u.2.2.2) (fun u t => sdB g [(q7, .inr (5, [.ref q1, .ref q8, .ref q9, .ref q10, .int (nI (sn st))])), (q8, .inl (gI g, 40, .inl s1)), (q9, .inl (gI g, 40, .inl s2)), (q10, .inl (gI g, 40, .inl s3)), (q1, .inr (6, [.ref q5, .int (nI n)])), (q5, .inl (gB g, 2000, .inl f))] sz ((fun u => [(q7, .inr (5, [.ref q1, .ref q8, .ref q9, .ref q10, .int (nI (sn u.1))])), (q8, .inl (gI g, 40, .inl u.2.1)), (q9, .inl (gI g, 40, .inl u.2.2.1)), (q10, .inl (gI g, 40, .inl u.2.2.2)), (q1, .inr (6, [.ref q5, .int (nI n)])), (q5, .inl (gB g, 2000, .inl f))] : AS × (Nat → Int32) × (Nat → Int32) × (Nat → Int32) → va_W) u) t) (va_A [(q7, .inr (5, [.ref q1, .ref q8, .ref q9, .ref q10, .int (nI (sn st))])), (q8, .inl (gI g, 40, .inl s1)), (q9, .inl (gI g, 40, .inl s2)), (q10, .inl (gI g, 40, .inl s3)), (q1, .inr (6, [.ref q5, .int (nI n)])), (q5, .inl (gB g, 2000, .inl f))] sz)) 0 0 (va_A [(q7, .inr (5, [.ref q1, .ref q8, .ref q9, .ref q10, .int (nI (sn st))])), (q8, .inl (gI g, 40, .inl s1)), (q9, .inl (gI g, 40, .inl s2)), (q10, .inl (gI g, 40, .inl s3)), (q1, .inr (6, [.ref q5, .int (nI n)])), (q5, .inl (gB g, 2000, .inl f))] sz) := by
  refine Met.ofW (cc := b_Sym_symbolOf) (maxL := 4) (ret := (some .int)) (by decide) rfl ?_
  intro p ev s m args below meth c s₁ B hml hv
  obtain ⟨rfl, hsz, hP, hK, hE, hD0, hs0⟩ := hv
  have hx := B.exec
  have hb := B.bytes
  have hr := B.returns
  have hts := fun (w : Cond) (h : w ∈ sdT) => atoms_spec (ws := (.code y_Sym_symbolOf b_Sym_symbolOf 4 (some .int) :: sdT)) B.pre w (List.mem_cons_of_mem _ h)
  have hown : s.vm.findClass "SignDesk$Symbols" = some m.cls := findClass_of_methodNamed B.named
  have hlocks := B.notSynchronized
  subst hsz
  have hD := hD0.self (sz := s.heap.size)
  have hA0 : ∀ q : Nat, va_A [(q7, .inr (5, [.ref q1, .ref q8, .ref q9, .ref q10, .int (nI (sn st))])), (q8, .inl (gI g, 40, .inl s1)), (q9, .inl (gI g, 40, .inl s2)), (q10, .inl (gI g, 40, .inl s3)), (q1, .inr (6, [.ref q5, .int (nI n)])), (q5, .inl (gB g, 2000, .inl f))] s.heap.size q → gS g ≤ q := fun q h => h.elim (fun ⟨k, e, hk⟩ => hD0.2 k _ hk) (fun h => Nat.le_trans hs0 h)
  have hA : ∀ q : Nat, s.heap.size ≤ q → va_A [(q7, .inr (5, [.ref q1, .ref q8, .ref q9, .ref q10, .int (nI (sn st))])), (q8, .inl (gI g, 40, .inl s1)), (q9, .inl (gI g, 40, .inl s2)), (q10, .inl (gI g, 40, .inl s3)), (q1, .inr (6, [.ref q5, .int (nI n)])), (q5, .inl (gB g, 2000, .inl f))] s.heap.size q := fun q h => Or.inr h
  generalize hAe : va_A [(q7, .inr (5, [.ref q1, .ref q8, .ref q9, .ref q10, .int (nI (sn st))])), (q8, .inl (gI g, 40, .inl s1)), (q9, .inl (gI g, 40, .inl s2)), (q10, .inl (gI g, 40, .inl s3)), (q1, .inr (6, [.ref q5, .int (nI n)])), (q5, .inl (gB g, 2000, .inl f))] s.heap.size = A at hD hA0 hA ⊢
  have hS : va_S A s.heap s.heap [] := va_S.rf
  have hP : sdP g [(q7, .inr (5, [.ref q1, .ref q8, .ref q9, .ref q10, .int (nI (sn st))])), (q8, .inl (gI g, 40, .inl s1)), (q9, .inl (gI g, 40, .inl s2)), (q10, .inl (gI g, 40, .inl s3)), (q1, .inr (6, [.ref q5, .int (nI n)])), (q5, .inl (gB g, 2000, .inl f))] s.heap := hP
  have hl := lv_entry ([.ref q7, .int (nI a), .int (nI z)]) (n := 4) (Nat.le_of_ble_eq_true rfl)
  rw [lg_entry_eq]
  generalize (lg_sl ([.ref q7, .int (nI a), .int (nI z)]) ++ List.replicate (4 - (lg_sl ([.ref q7, .int (nI a), .int (nI z)])).length) Slot.unset).toArray = ls at hl ⊢
  have hl : lv_has ls 4 [(0, .ref q7), (1, .int (nI a)), (2, .int (nI z))] := hl
  have h40 := hSR.1
  have hn := hT.1
  refine lv_iconst (v := (nI 0)) hx hb d_Sym_symbolOf_0 (by decide) ?_
  refine lv_istore_n (lv' := [(3, .int (nI 0)), (0, .ref q7), (1, .int (nI a)), (2, .int (nI z))]) hx hb d_Sym_symbolOf_1 rfl hl (by decide) rfl (fun ls hl => ?_)
  refine sd_loopr (fun (i : Nat) ls => lv_has ls 4 [(3, .int (nI i)), (0, .ref q7), (1, .int (nI a)), (2, .int (nI z))] ∧ (i ≤ sn st) ∧ (∀ j, j < i → ¬ smM tx st a (z - a) j)) (fun (i : Nat) => sn st - i) 2 [] (fun i ls hI ih => ?_) (0) ⟨lv_sub hl [0, 1, 2, 3] rfl, Nat.zero_le _, fun j h6 => absurd h6 (by omega)⟩
  obtain ⟨hl, h2, h3⟩ := hI
  refine lv_iload_n hx hb d_Sym_symbolOf_2 rfl (lv_at hl 0 rfl) ?_
  refine lv_aload_n hx hb d_Sym_symbolOf_3 rfl (lv_at hl 1 rfl) ?_
  refine va_get (D := g.1) (ci := 5) (v := .int (nI (sn st))) (C := "SignDesk$Symbols") (T := F_Sym) (N := 5) hx hb hts in_Sym hown hK hP 0 rfl rfl 4 (by decide) (hts _ k_89) (fun _ h9 => h9) rfl d_Sym_symbolOf_4 ?_
  refine lv_icmp_ge (tgt := 50) hx hb d_Sym_symbolOf_7 (by decide) (fun c1 => ?_) (fun c1 => ?_)
  · have c1 := (nI_leI (by omega) (by omega)).mp c1
    have e1 : i = sn st := by omega
    rw [e1] at h3
    refine lv_aload_n hx hb d_Sym_symbolOf_50 rfl (lv_at hl 1 rfl) ?_
    refine va_get (D := g.1) (ci := 5) (v := .int (nI (sn st))) (C := "SignDesk$Symbols") (T := F_Sym) (N := 5) hx hb hts in_Sym hown hK hP 0 rfl rfl 4 (by decide) (hts _ k_89) (fun _ h9 => h9) rfl d_Sym_symbolOf_51 ?_
    refine lv_bipush (v := (nI 40)) hx hb d_Sym_symbolOf_54 (by decide) ?_
    refine lv_icmp_lt (tgt := 61) hx hb d_Sym_symbolOf_56 (by decide) (fun c2 => ?_) (fun c2 => ?_)
    · have c2 := (nI_ltI (by omega) (by omega)).mp c2
      refine lv_aload_n hx hb d_Sym_symbolOf_61 rfl (lv_at hl 1 rfl) ?_
      refine va_get (D := g.1) (ci := 5) (v := .ref q8) (C := "SignDesk$Symbols") (T := F_Sym) (N := 5) hx hb hts in_Sym hown hK hP 0 rfl rfl 1 (by decide) (hts _ k_86) (fun _ h9 => h9) rfl d_Sym_symbolOf_62 ?_
      refine lv_aload_n hx hb d_Sym_symbolOf_65 rfl (lv_at hl 1 rfl) ?_
      refine va_get (D := g.1) (ci := 5) (v := .int (nI (sn st))) (C := "SignDesk$Symbols") (T := F_Sym) (N := 5) hx hb hts in_Sym hown hK hP 0 rfl rfl 4 (by decide) (hts _ k_89) (fun _ h9 => h9) rfl d_Sym_symbolOf_66 ?_
      refine lv_iload_n hx hb d_Sym_symbolOf_69 rfl (lv_at hl 2 rfl) ?_
      refine va_iast hx hb hK hP hD hS 1 1 rfl rfl (i := (nI (sn st))) (x := (nI a)) (vp_in_nI (by omega) (by omega)) d_Sym_symbolOf_70 (fun H locs hP hD hS => ?_)
      have hP : sdP g [(q7, .inr (5, [.ref q1, .ref q8, .ref q9, .ref q10, .int (nI (sn st))])), (q8, .inl (gI g, 40, .inl (upd s1 ((nI (sn st))).toNatClampNeg (nI a)))), (q9, .inl (gI g, 40, .inl s2)), (q10, .inl (gI g, 40, .inl s3)), (q1, .inr (6, [.ref q5, .int (nI n)])), (q5, .inl (gB g, 2000, .inl f))] H := hP
      have hD : va_D A [(q7, .inr (5, [.ref q1, .ref q8, .ref q9, .ref q10, .int (nI (sn st))])), (q8, .inl (gI g, 40, .inl (upd s1 ((nI (sn st))).toNatClampNeg (nI a)))), (q9, .inl (gI g, 40, .inl s2)), (q10, .inl (gI g, 40, .inl s3)), (q1, .inr (6, [.ref q5, .int (nI n)])), (q5, .inl (gB g, 2000, .inl f))] := hD
      have eF : (upd s1 ((nI (sn st))).toNatClampNeg (nI a)) = (upd s1 (sn st) (nI a)) := by rw [nI_clamp (by omega)]
      rw [eF] at hP hD
      refine lv_aload_n hx hb d_Sym_symbolOf_71 rfl (lv_at hl 1 rfl) ?_
      refine va_get (D := g.1) (ci := 5) (v := .ref q9) (C := "SignDesk$Symbols") (T := F_Sym) (N := 5) hx hb hts in_Sym hown hK hP 0 rfl rfl 2 (by decide) (hts _ k_87) (fun _ h9 => h9) rfl d_Sym_symbolOf_72 ?_
      refine lv_aload_n hx hb d_Sym_symbolOf_75 rfl (lv_at hl 1 rfl) ?_
      refine va_get (D := g.1) (ci := 5) (v := .int (nI (sn st))) (C := "SignDesk$Symbols") (T := F_Sym) (N := 5) hx hb hts in_Sym hown hK hP 0 rfl rfl 4 (by decide) (hts _ k_89) (fun _ h9 => h9) rfl d_Sym_symbolOf_76 ?_
      refine lv_iload_n hx hb d_Sym_symbolOf_79 rfl (lv_at hl 3 rfl) ?_
      refine lv_iload_n hx hb d_Sym_symbolOf_80 rfl (lv_at hl 2 rfl) ?_
      refine lv_isub hx hb d_Sym_symbolOf_81 ?_
      refine sd_topi (y := nI (z - a)) (pk_sub (by omega)) ?_
      refine va_iast hx hb hK hP hD hS 2 1 rfl rfl (i := (nI (sn st))) (x := (nI (z - a))) (vp_in_nI (by omega) (by omega)) d_Sym_symbolOf_82 (fun H locs hP hD hS => ?_)
      have hP : sdP g [(q7, .inr (5, [.ref q1, .ref q8, .ref q9, .ref q10, .int (nI (sn st))])), (q8, .inl (gI g, 40, .inl (upd s1 (sn st) (nI a)))), (q9, .inl (gI g, 40, .inl (upd s2 ((nI (sn st))).toNatClampNeg (nI (z - a))))), (q10, .inl (gI g, 40, .inl s3)), (q1, .inr (6, [.ref q5, .int (nI n)])), (q5, .inl (gB g, 2000, .inl f))] H := hP
      have hD : va_D A [(q7, .inr (5, [.ref q1, .ref q8, .ref q9, .ref q10, .int (nI (sn st))])), (q8, .inl (gI g, 40, .inl (upd s1 (sn st) (nI a)))), (q9, .inl (gI g, 40, .inl (upd s2 ((nI (sn st))).toNatClampNeg (nI (z - a))))), (q10, .inl (gI g, 40, .inl s3)), (q1, .inr (6, [.ref q5, .int (nI n)])), (q5, .inl (gB g, 2000, .inl f))] := hD
      have eF : (upd s2 ((nI (sn st))).toNatClampNeg (nI (z - a))) = (upd s2 (sn st) (nI (z - a))) := by rw [nI_clamp (by omega)]
      rw [eF] at hP hD
      refine lv_aload_n hx hb d_Sym_symbolOf_83 rfl (lv_at hl 1 rfl) ?_
      refine va_get (D := g.1) (ci := 5) (v := .ref q10) (C := "SignDesk$Symbols") (T := F_Sym) (N := 5) hx hb hts in_Sym hown hK hP 0 rfl rfl 3 (by decide) (hts _ k_88) (fun _ h9 => h9) rfl d_Sym_symbolOf_84 ?_
      refine lv_aload_n hx hb d_Sym_symbolOf_87 rfl (lv_at hl 1 rfl) ?_
      refine va_get (D := g.1) (ci := 5) (v := .int (nI (sn st))) (C := "SignDesk$Symbols") (T := F_Sym) (N := 5) hx hb hts in_Sym hown hK hP 0 rfl rfl 4 (by decide) (hts _ k_89) (fun _ h9 => h9) rfl d_Sym_symbolOf_88 ?_
      refine lv_iconst (v := (-1)) hx hb d_Sym_symbolOf_91 (by decide) ?_
      refine va_iast hx hb hK hP hD hS 3 1 rfl rfl (i := (nI (sn st))) (x := (-1)) (vp_in_nI (by omega) (by omega)) d_Sym_symbolOf_92 (fun H locs hP hD hS => ?_)
      have hP : sdP g [(q7, .inr (5, [.ref q1, .ref q8, .ref q9, .ref q10, .int (nI (sn st))])), (q8, .inl (gI g, 40, .inl (upd s1 (sn st) (nI a)))), (q9, .inl (gI g, 40, .inl (upd s2 (sn st) (nI (z - a))))), (q10, .inl (gI g, 40, .inl (upd s3 ((nI (sn st))).toNatClampNeg (-1)))), (q1, .inr (6, [.ref q5, .int (nI n)])), (q5, .inl (gB g, 2000, .inl f))] H := hP
      have hD : va_D A [(q7, .inr (5, [.ref q1, .ref q8, .ref q9, .ref q10, .int (nI (sn st))])), (q8, .inl (gI g, 40, .inl (upd s1 (sn st) (nI a)))), (q9, .inl (gI g, 40, .inl (upd s2 (sn st) (nI (z - a))))), (q10, .inl (gI g, 40, .inl (upd s3 ((nI (sn st))).toNatClampNeg (-1)))), (q1, .inr (6, [.ref q5, .int (nI n)])), (q5, .inl (gB g, 2000, .inl f))] := hD
      have eF : (upd s3 ((nI (sn st))).toNatClampNeg (-1)) = (upd s3 (sn st) (-1)) := by rw [nI_clamp (by omega)]
      rw [eF] at hP hD
      refine lv_aload_n hx hb d_Sym_symbolOf_93 rfl (lv_at hl 1 rfl) ?_
      refine lv_dup hx hb d_Sym_symbolOf_94 rfl ?_
      refine va_get (D := g.1) (ci := 5) (v := .int (nI (sn st))) (C := "SignDesk$Symbols") (T := F_Sym) (N := 5) hx hb hts in_Sym hown hK hP 0 rfl rfl 4 (by decide) (hts _ k_89) (fun _ h9 => h9) rfl d_Sym_symbolOf_95 ?_
      refine lv_iconst (v := (nI 1)) hx hb d_Sym_symbolOf_98 (by decide) ?_
      refine lv_iadd hx hb d_Sym_symbolOf_99 ?_
      refine sd_topi (y := nI ((sn st) + 1)) (nI_add _ _) ?_
      refine va_put (D := g.1) (ci := 5) (v := .int (nI ((sn st) + 1))) (ty := .int) (C := "SignDesk$Symbols") (T := F_Sym) (N := 5) hx hb hts in_Sym t_Sym t_Sym_ok n_Sym hown hK hP hD hS 0 rfl rfl 4 (by decide) (hts _ k_89) (fun _ h9 => h9) rfl (by decide +kernel) rfl rfl (Nat.le_of_ble_eq_true rfl) d_Sym_symbolOf_100 (fun H locs hP hD hS => ?_)
      have hP : sdP g [(q7, .inr (5, [.ref q1, .ref q8, .ref q9, .ref q10, .int (nI ((sn st) + 1))])), (q8, .inl (gI g, 40, .inl (upd s1 (sn st) (nI a)))), (q9, .inl (gI g, 40, .inl (upd s2 (sn st) (nI (z - a))))), (q10, .inl (gI g, 40, .inl (upd s3 (sn st) (-1)))), (q1, .inr (6, [.ref q5, .int (nI n)])), (q5, .inl (gB g, 2000, .inl f))] H := hP
      have hD : va_D A [(q7, .inr (5, [.ref q1, .ref q8, .ref q9, .ref q10, .int (nI ((sn st) + 1))])), (q8, .inl (gI g, 40, .inl (upd s1 (sn st) (nI a)))), (q9, .inl (gI g, 40, .inl (upd s2 (sn st) (nI (z - a))))), (q10, .inl (gI g, 40, .inl (upd s3 (sn st) (-1)))), (q1, .inr (6, [.ref q5, .int (nI n)])), (q5, .inl (gB g, 2000, .inl f))] := hD
      refine lv_aload_n hx hb d_Sym_symbolOf_103 rfl (lv_at hl 1 rfl) ?_
      refine va_get (D := g.1) (ci := 5) (v := .int (nI ((sn st) + 1))) (C := "SignDesk$Symbols") (T := F_Sym) (N := 5) hx hb hts in_Sym hown hK hP 0 rfl rfl 4 (by decide) (hts _ k_89) (fun _ h9 => h9) rfl d_Sym_symbolOf_104 ?_
      refine lv_iconst (v := (nI 1)) hx hb d_Sym_symbolOf_107 (by decide) ?_
      refine lv_isub hx hb d_Sym_symbolOf_108 ?_
      have hP9 := hP.sub (ws' := [(q7, .inr (5, [.ref q1, .ref q8, .ref q9, .ref q10, .int (nI ((sn st) + 1))])), (q8, .inl (gI g, 40, .inl (upd s1 (sn st) (nI a)))), (q9, .inl (gI g, 40, .inl (upd s2 (sn st) (nI (z - a))))), (q10, .inl (gI g, 40, .inl (upd s3 (sn st) (-1)))), (q1, .inr (6, [.ref q5, .int (nI n)])), (q5, .inl (gB g, 2000, .inl f))]) [0, 1, 2, 3, 4, 5] rfl
      have hD9 := hD.sub (ws' := [(q7, .inr (5, [.ref q1, .ref q8, .ref q9, .ref q10, .int (nI ((sn st) + 1))])), (q8, .inl (gI g, 40, .inl (upd s1 (sn st) (nI a)))), (q9, .inl (gI g, 40, .inl (upd s2 (sn st) (nI (z - a))))), (q10, .inl (gI g, 40, .inl (upd s3 (sn st) (-1)))), (q1, .inr (6, [.ref q5, .int (nI n)])), (q5, .inl (gB g, 2000, .inl f))]) [0, 1, 2, 3, 4, 5] (by decide) rfl
      exact W.iret (v := ((nI ((sn st) + 1)) - (nI 1))) hx hb hr (fun t ht hW => ⟨⟨_, (addS st a (z - a) 0, upd s1 (sn st) (nI a), upd s2 (sn st) (nI (z - a)), upd s3 (sn st) (-1)), rfl, ⟨⟨_, syO_new h3 (by omega), rfl⟩, SR_add hSR (by omega) (by omega)⟩, by rw [ht]; exact hP9, by rw [hAe]; exact hD9⟩, hS.F ht⟩) hS.2.2 d_Sym_symbolOf_109
    · have c2 := mt (nI_ltI (by omega) (by omega)).mpr c2
      refine lv_iconst (v := (-1)) hx hb d_Sym_symbolOf_59 (by decide) ?_
      have hP9 := hP.sub (ws' := [(q7, .inr (5, [.ref q1, .ref q8, .ref q9, .ref q10, .int (nI (sn st))])), (q8, .inl (gI g, 40, .inl s1)), (q9, .inl (gI g, 40, .inl s2)), (q10, .inl (gI g, 40, .inl s3)), (q1, .inr (6, [.ref q5, .int (nI n)])), (q5, .inl (gB g, 2000, .inl f))]) [0, 1, 2, 3, 4, 5] rfl
      have hD9 := hD.sub (ws' := [(q7, .inr (5, [.ref q1, .ref q8, .ref q9, .ref q10, .int (nI (sn st))])), (q8, .inl (gI g, 40, .inl s1)), (q9, .inl (gI g, 40, .inl s2)), (q10, .inl (gI g, 40, .inl s3)), (q1, .inr (6, [.ref q5, .int (nI n)])), (q5, .inl (gB g, 2000, .inl f))]) [0, 1, 2, 3, 4, 5] (by decide) rfl
      exact W.iret (v := (-1)) hx hb hr (fun t ht hW => ⟨⟨_, (st, s1, s2, s3), rfl, ⟨⟨_, syO_full h3 (by omega), by decide⟩, hSR⟩, by rw [ht]; exact hP9, by rw [hAe]; exact hD9⟩, hS.F ht⟩) hS.2.2 d_Sym_symbolOf_60
  · have c1 := mt (nI_leI (by omega) (by omega)).mpr c1
    have hi4 : i < sn st := by omega
    obtain ⟨a1, a2, a3, a4, a5⟩ := hSR.2 i hi4
    refine lv_aload_n hx hb d_Sym_symbolOf_10 rfl (lv_at hl 1 rfl) ?_
    refine va_get (D := g.1) (ci := 5) (v := .ref q9) (C := "SignDesk$Symbols") (T := F_Sym) (N := 5) hx hb hts in_Sym hown hK hP 0 rfl rfl 2 (by decide) (hts _ k_87) (fun _ h9 => h9) rfl d_Sym_symbolOf_11 ?_
    refine lv_iload_n hx hb d_Sym_symbolOf_14 rfl (lv_at hl 0 rfl) ?_
    refine va_iald hx hb hK hP 2 1 rfl rfl (i := (nI i)) (vp_in_nI (by omega) (by omega)) d_Sym_symbolOf_15 ?_
    refine sd_topi (y := nI (sl st i)) (by rw [nI_clamp (by omega)]; exact a2) ?_
    refine lv_iload_n hx hb d_Sym_symbolOf_16 rfl (lv_at hl 3 rfl) ?_
    refine lv_iload_n hx hb d_Sym_symbolOf_17 rfl (lv_at hl 2 rfl) ?_
    refine lv_isub hx hb d_Sym_symbolOf_18 ?_
    refine sd_topi (y := nI (z - a)) (pk_sub (by omega)) ?_
    refine lv_icmp_ne (tgt := 44) hx hb d_Sym_symbolOf_19 (by decide) (fun c3 => ?_) (fun c3 => ?_)
    · have c3 := mt (nI_eq (by omega) (by omega)).mpr c3
      refine lv_iinc (v := (nI (i + 1))) (lv' := [(3, .int (nI (i + 1))), (0, .ref q7), (1, .int (nI a)), (2, .int (nI z))]) hx hb d_Sym_symbolOf_44 hl (k := 0) rfl (nI_1 _) (by decide) rfl (fun ls hl => ?_)
      refine lv_goto (tgt := 2) hx hb d_Sym_symbolOf_47 (by decide) ?_
      exact ih (i + 1) _ ⟨lv_sub hl [0, 1, 2, 3] rfl, by omega, fun j h6 => by
          rcases Nat.lt_or_ge j i with q | q
          · exact h3 j q
          · have : j = i := by omega
            subst this; exact fun q => c3 q.1⟩ (show sn st - (i + 1) < sn st - i by omega)
    · have c3 := (nI_eq (by omega) (by omega)).mp c3
      refine lv_aload_n hx hb d_Sym_symbolOf_22 rfl (lv_at hl 1 rfl) ?_
      refine va_get (D := g.1) (ci := 5) (v := .ref q1) (C := "SignDesk$Symbols") (T := F_Sym) (N := 5) hx hb hts in_Sym hown hK hP 0 rfl rfl 0 (by decide) (hts _ k_85) (fun _ h9 => h9) rfl d_Sym_symbolOf_23 ?_
      refine lv_aload_n hx hb d_Sym_symbolOf_26 rfl (lv_at hl 1 rfl) ?_
      refine va_get (D := g.1) (ci := 5) (v := .ref q8) (C := "SignDesk$Symbols") (T := F_Sym) (N := 5) hx hb hts in_Sym hown hK hP 0 rfl rfl 1 (by decide) (hts _ k_86) (fun _ h9 => h9) rfl d_Sym_symbolOf_27 ?_
      refine lv_iload_n hx hb d_Sym_symbolOf_30 rfl (lv_at hl 0 rfl) ?_
      refine va_iald hx hb hK hP 1 1 rfl rfl (i := (nI i)) (vp_in_nI (by omega) (by omega)) d_Sym_symbolOf_31 ?_
      refine sd_topi (y := nI (sa st i)) (by rw [nI_clamp (by omega)]; exact a1) ?_
      refine lv_iload_n hx hb d_Sym_symbolOf_32 rfl (lv_at hl 2 rfl) ?_
      refine lv_iload_n hx hb d_Sym_symbolOf_33 rfl (lv_at hl 3 rfl) ?_
      refine lv_iload_n hx hb d_Sym_symbolOf_34 rfl (lv_at hl 2 rfl) ?_
      refine lv_isub hx hb d_Sym_symbolOf_35 ?_
      refine sd_topi (y := nI (z - a)) (pk_sub (by omega)) ?_
      refine sd_ri (va_runV (As := [.int (nI (sa st i)), .int (nI a), .int (nI (z - a))]) (rest := []) ⟨hx, hb, hml, hown, hts⟩ (c_Txt_isSame l g q1 q5 n f tx hT (sa st i) a (z - a) (by omega) (by omega) (by omega)) (cwV 3 hts (sd_gV k_316 k_317 k_318 k_24 k_319) rfl rfl rfl (by decide +kernel) ⟨Nat.le_of_ble_eq_true rfl, Nat.le_of_ble_eq_true rfl⟩) (sd_preV hK hE (sd_fr hS hA0) (hP.sub (ws' := [(q1, .inr (6, [.ref q5, .int (nI n)])), (q5, .inl (gB g, 2000, .inl f))]) [4, 5] rfl) rfl rfl) rfl rfl hl.1 rfl (lv_room (Nat.le_of_ble_eq_true rfl)) d_Sym_symbolOf_36 ⟨Nat.zero_le _, Nat.zero_le _⟩) (fun r4 er4 => ?_)
      subst er4
      refine lv_if_eq (tgt := 44) hx hb d_Sym_symbolOf_39 (by decide) (fun c5 => ?_) (fun c5 => ?_)
      · have c5 := sb_eq0.mp c5
        refine lv_iinc (v := (nI (i + 1))) (lv' := [(3, .int (nI (i + 1))), (0, .ref q7), (1, .int (nI a)), (2, .int (nI z))]) hx hb d_Sym_symbolOf_44 hl (k := 0) rfl (nI_1 _) (by decide) rfl (fun ls hl => ?_)
        refine lv_goto (tgt := 2) hx hb d_Sym_symbolOf_47 (by decide) ?_
        exact ih (i + 1) _ ⟨lv_sub hl [0, 1, 2, 3] rfl, by omega, fun j h6 => by
            rcases Nat.lt_or_ge j i with q | q
            · exact h3 j q
            · have : j = i := by omega
              subst this; exact fun q => c5 q.2⟩ (show sn st - (i + 1) < sn st - i by omega)
      · have c5 := sb_ne0.mp c5
        refine lv_iload_n hx hb d_Sym_symbolOf_42 rfl (lv_at hl 0 rfl) ?_
        have hP9 := hP.sub (ws' := [(q7, .inr (5, [.ref q1, .ref q8, .ref q9, .ref q10, .int (nI (sn st))])), (q8, .inl (gI g, 40, .inl s1)), (q9, .inl (gI g, 40, .inl s2)), (q10, .inl (gI g, 40, .inl s3)), (q1, .inr (6, [.ref q5, .int (nI n)])), (q5, .inl (gB g, 2000, .inl f))]) [0, 1, 2, 3, 4, 5] rfl
        have hD9 := hD.sub (ws' := [(q7, .inr (5, [.ref q1, .ref q8, .ref q9, .ref q10, .int (nI (sn st))])), (q8, .inl (gI g, 40, .inl s1)), (q9, .inl (gI g, 40, .inl s2)), (q10, .inl (gI g, 40, .inl s3)), (q1, .inr (6, [.ref q5, .int (nI n)])), (q5, .inl (gB g, 2000, .inl f))]) [0, 1, 2, 3, 4, 5] (by decide) rfl
        exact W.iret (v := (nI i)) hx hb hr (fun t ht hW => ⟨⟨_, (st, s1, s2, s3), rfl, ⟨⟨_, syO_hit hi4 ⟨c3, c5⟩ h3, (nI_pred _).symm⟩, hSR⟩, by rw [ht]; exact hP9, by rw [hAe]; exact hD9⟩, hS.F ht⟩) hS.2.2 d_Sym_symbolOf_43
end
section
/-! the tables, and what reading an instruction does -/
def sd_known : List (List Nat × Nat) := [([82, 48], 0), ([82, 49], 1), ([82, 50], 2), ([82, 51], 3), ([82, 52], 4), ([82, 53], 5), ([82, 54], 6), ([82, 55], 7), ([82, 56], 8), ([82, 57], 9), ([82, 49, 48], 10), ([82, 49, 49], 11), ([82, 49, 50], 12), ([82, 49, 51], 13), ([82, 49, 52], 14), ([82, 49, 53], 15), ([83, 80], 0), ([76, 67, 76], 1), ([65, 82, 71], 2), ([84, 72, 73, 83], 3), ([84, 72, 65, 84], 4), ([83, 67, 82, 69, 69, 78], 16384), ([75, 66, 68], 24576)]
def sd_dest : List (List Nat × Nat) := [([77], 0), ([68], 1), ([77, 68], 2), ([65], 3), ([65, 77], 4), ([65, 68], 5), ([65, 77, 68], 6)]
def sd_jump : List (List Nat × Nat) := [([74, 71, 84], 0), ([74, 69, 81], 1), ([74, 71, 69], 2), ([74, 76, 84], 3), ([74, 78, 69], 4), ([74, 76, 69], 5), ([74, 77, 80], 6)]
def sd_cA : List (List Nat × Nat) := [([48], 2688), ([49], 4032), ([45, 49], 3712), ([68], 768), ([65], 3072), ([33, 68], 832), ([33, 65], 3136), ([45, 68], 960), ([45, 65], 3264), ([68, 43, 49], 1984), ([65, 43, 49], 3520), ([68, 45, 49], 896), ([65, 45, 49], 3200), ([68, 43, 65], 128), ([68, 45, 65], 1216), ([65, 45, 68], 448), ([68, 38, 65], 0), ([68, 124, 65], 1344)]
def sd_cM : List (List Nat × Nat) := [([77], 7168), ([33, 77], 7232), ([45, 77], 7360), ([77, 43, 49], 7616), ([77, 45, 49], 7296), ([68, 43, 77], 4224), ([68, 45, 77], 5312), ([77, 45, 68], 4544), ([68, 38, 77], 4096), ([68, 124, 77], 5440)]
def sd_comp : List (List Nat × Nat) := sd_cA ++ sd_cM
/-- the first row whose name M holds of: what it says + 1; 0 if there is none -/
noncomputable def lk (M : List Nat → Prop) : List (List Nat × Nat) → Nat
  | [] => 0
  | p :: ps => @ite _ (M p.1) (Classical.propDecidable _) (p.2 + 1) (lk M ps)
theorem lk_t {M : List Nat → Prop} {p : List Nat × Nat} {ps : List (List Nat × Nat)} (h : M p.1) : lk M (p :: ps) = p.2 + 1 := @if_pos _ (Classical.propDecidable _) h _ _ _
theorem lk_f {M : List Nat → Prop} {p : List Nat × Nat} {ps : List (List Nat × Nat)} (h : ¬ M p.1) : lk M (p :: ps) = lk M ps := @if_neg _ (Classical.propDecidable _) h _ _ _
theorem lk_app {M : List Nat → Prop} {a b : List (List Nat × Nat)} : lk M (a ++ b) = if lk M a = 0 then lk M b else lk M a := by
  induction a with
  | nil => rfl
  | cons p ps ih =>
    by_cases h : M p.1
    · rw [List.cons_append, lk_t h, lk_t h]; rfl
    · rw [List.cons_append, lk_f h, lk_f h]; exact ih
theorem lk_le {M : List Nat → Prop} {B : Nat} {ps : List (List Nat × Nat)} (h : ∀ p, p ∈ ps → p.2 < B) : lk M ps ≤ B := by
  induction ps with
  | nil => exact Nat.zero_le _
  | cons p ps ih =>
    by_cases q : M p.1
    · rw [lk_t q]; exact h p List.mem_cons_self
    · rw [lk_f q]; exact ih (fun x hx => h x (List.mem_cons_of_mem _ hx))
theorem lk_none {M : List Nat → Prop} {ps : List (List Nat × Nat)} (h : ∀ p, p ∈ ps → ¬ M p.1) : lk M ps = 0 := by
  induction ps with
  | nil => rfl
  | cons p ps ih => rw [lk_f (h p List.mem_cons_self)]; exact ih (fun x hx => h x (List.mem_cons_of_mem _ hx))
/-- a row that M holds of, and of no other name -/
theorem lk_some {M : List Nat → Prop} {ps : List (List Nat × Nat)} {p : List Nat × Nat} (hp : p ∈ ps) (hM : M p.1) (hu : ∀ q, q ∈ ps → M q.1 → q.2 = p.2) : lk M ps = p.2 + 1 := by
  induction ps with
  | nil => cases hp
  | cons x ps ih =>
    by_cases q : M x.1
    · rw [lk_t q, hu x List.mem_cons_self q]
    · rw [lk_f q]
      rcases List.mem_cons.mp hp with e | e
      · exact absurd (e ▸ hM) q
      · exact ih e (fun y hy => hu y (List.mem_cons_of_mem _ hy))
theorem nmF_lk {M : List Nat → Prop} : ∀ (ps : List (List Nat × Nat)) (k : Nat), (nmF M (ps.map Prod.fst) k = -1 ∧ lk M ps = 0) ∨ ∃ j, j < ps.length ∧ nmF M (ps.map Prod.fst) k = nI (k + j) ∧ lk M ps = (ps.getD j ([], 0)).2 + 1 := by
  intro ps
  induction ps with
  | nil => intro k; exact Or.inl ⟨rfl, rfl⟩
  | cons p ps ih =>
    intro k
    by_cases h : M p.1
    · refine Or.inr ⟨0, by simp, ?_, ?_⟩
      · rw [List.map_cons, nmF_t h]; rfl
      · rw [lk_t h]; rfl
    · rw [List.map_cons, nmF_f h, lk_f h]
      rcases ih (k + 1) with q | ⟨j, h1, h2, h3⟩
      · exact Or.inl q
      · refine Or.inr ⟨j + 1, by simp; omega, ?_, ?_⟩
        · rw [h2, Nat.add_assoc, Nat.add_comm 1 j]
        · rw [h3]; rfl
theorem sd_nm_k : sd_nm.getD 0 [] = sd_known.map Prod.fst ∧ sd_nm.getD 1 [] = sd_dest.map Prod.fst ∧ sd_nm.getD 2 [] = sd_jump.map Prod.fst ∧ sd_nm.getD 3 [] = sd_cA.map Prod.fst ∧ sd_nm.getD 4 [] = sd_cM.map Prod.fst := by decide +kernel
theorem sd_known_lt : ∀ p, p ∈ sd_known → p.2 < 24577 := by decide +kernel
theorem sd_dest_lt : ∀ p, p ∈ sd_dest → p.2 < 7 := by decide +kernel
theorem sd_jump_lt : ∀ p, p ∈ sd_jump → p.2 < 7 := by decide +kernel
theorem sd_comp_lt : ∀ p, p ∈ sd_comp → p.2 < 8129 := by decide +kernel
theorem sd_cA_lt : ∀ p, p ∈ sd_cA → p.2 < 8129 := by decide +kernel
theorem sd_cM_lt : ∀ p, p ∈ sd_cM → p.2 < 8129 := by decide +kernel
theorem sd_KN_ok : ∀ j, j < 23 → sd_KN.getD j 0 = nI ((sd_known.getD j ([], 0)).2) := by decide +kernel
theorem sd_BA_ok : ∀ j, j < 18 → nI 64 * sd_BA.getD j 0 = nI ((sd_cA.getD j ([], 0)).2) ∧ ¬ sd_BA.getD j 0 < 0 := by decide +kernel
theorem sd_BM_ok : ∀ j, j < 10 → nI 4096 + nI 64 * sd_BM.getD j 0 = nI ((sd_cM.getD j ([], 0)).2) ∧ ¬ sd_BM.getD j 0 < 0 := by decide +kernel
theorem sd_dest_ix : ∀ j, j < 7 → (sd_dest.getD j ([], 0)).2 = j := by decide +kernel
theorem sd_jump_ix : ∀ j, j < 7 → (sd_jump.getD j ([], 0)).2 = j := by decide +kernel
/-- a symbol is written from a to z -/
def syP (tx : Nat → Nat) (a z : Nat) : Prop := a < z ∧ z ≤ a + 16 ∧ ¬ isDg (tx a) ∧ ∀ j, a ≤ j → j < z → isSy (tx j)
/-- a number is written from a to z -/
def nuP (tx : Nat → Nat) (a z : Nat) : Prop := a < z ∧ z ≤ a + 5 ∧ (∀ j, a ≤ j → j < z → isDg (tx j)) ∧ nV tx a (z - a) ≤ 32767
noncomputable def knK (tx : Nat → Nat) (a z : Nat) : Nat := lk (nmM tx a z) sd_known
noncomputable def spAddr (tx : Nat → Nat) (a z : Nat) (st : AS) : Nat × AS :=
  @ite _ (syP tx a z) (Classical.propDecidable _)
    (if 600 ≤ wn st then (2, st) else if knK tx a z = 0 then (if (syO tx st a (z - a)).1 = 0 then (2, (syO tx st a (z - a)).2) else (0, pushW (syO tx st a (z - a)).2 0 (syO tx st a (z - a)).1)) else (0, pushW st (knK tx a z - 1) 0))
    (@ite _ (nuP tx a z) (Classical.propDecidable _) (if 600 ≤ wn st then (2, st) else (0, pushW st (nV tx a (z - a)) 0)) (1, st))
noncomputable def spLabel (tx : Nat → Nat) (a z : Nat) (st : AS) : Nat × AS :=
  @ite _ (syP tx a z ∧ tx z = 41) (Classical.propDecidable _)
    (if knK tx a z = 0 then (if (syO tx st a (z - a)).1 = 0 then (2, (syO tx st a (z - a)).2) else if sv (syO tx st a (z - a)).2 ((syO tx st a (z - a)).1 - 1) = 0 then (0, tellS (syO tx st a (z - a)).2 ((syO tx st a (z - a)).1 - 1) (wn st + 1)) else (3, (syO tx st a (z - a)).2)) else (3, st))
    (1, st)
noncomputable def oF (tx : Nat → Nat) (c a e : Nat) : Nat := ff (fun j => tx j = c) (e - a) a
noncomputable def oD (tx : Nat → Nat) (a e : Nat) : Nat := lk (nmM tx a (oF tx 61 a e)) sd_dest
noncomputable def oJ (tx : Nat → Nat) (a e : Nat) : Nat := lk (nmM tx (oF tx 59 a e + 1) e) sd_jump
noncomputable def oC (tx : Nat → Nat) (a e : Nat) : Nat := lk (nmM tx (if oF tx 61 a e < e then oF tx 61 a e + 1 else a) (oF tx 59 a e)) sd_comp
noncomputable def spOther (tx : Nat → Nat) (a e : Nat) (st : AS) : Nat × AS :=
  if (oF tx 61 a e < e ∧ oD tx a e = 0) ∨ (oF tx 59 a e < e ∧ oJ tx a e = 0) ∨ oC tx a e = 0 then (1, st) else if 600 ≤ wn st then (2, st) else (0, pushW st (57344 + (oC tx a e - 1) + 8 * (if oF tx 61 a e < e then oD tx a e else 0) + (if oF tx 59 a e < e then oJ tx a e else 0)) 0)
noncomputable def spTake (tx : Nat → Nat) (a e : Nat) (st : AS) : Nat × AS :=
  if tx a = 64 then spAddr tx (a + 1) e st else if tx a = 40 then spLabel tx (a + 1) (e - 1) st else spOther tx a e st
theorem cl_t {α : Type} {P : Prop} {x y : α} (h : P) : @ite _ P (Classical.propDecidable _) x y = x := @if_pos _ (Classical.propDecidable _) h _ _ _
theorem cl_f {α : Type} {P : Prop} {x y : α} (h : ¬ P) : @ite _ P (Classical.propDecidable _) x y = y := @if_neg _ (Classical.propDecidable _) h _ _ _
theorem syO_fst {tx : Nat → Nat} {st : AS} {a n : Nat} : (syO tx st a n).2.1 = st.1 := by
  unfold syO
  split
  · rfl
  · split <;> rfl
theorem syO_le {tx : Nat → Nat} {st : AS} {a n : Nat} (h40 : sn st ≤ 40) : (syO tx st a n).1 ≤ sn (syO tx st a n).2 ∧ sn (syO tx st a n).2 ≤ 40 := by
  unfold syO
  split
  · exact ⟨by assumption, h40⟩
  · split
    · exact ⟨Nat.zero_le _, h40⟩
    · exact ⟨Nat.le_refl _, by show sn st + 1 ≤ 40; omega⟩
theorem PR_push {st : AS} {pw : Nat → Int32} {c y : Nat} (h : PR st pw) (hlt : wn st < 600) : PR (pushW st c y) (upd pw (wn st) (nI (encW c y))) := by
  refine ⟨(by show wn st + 1 ≤ 600; omega), fun i hi => ?_⟩
  have hi : i < wn st + 1 := hi
  show upd pw (wn st) (nI (encW c y)) i = nI (encW (va_up (wc st) (wn st) c i) (va_up (wy st) (wn st) y i))
  rcases Nat.lt_or_ge i (wn st) with q | q
  · have hne : i ≠ wn st := by omega
    rw [pk_un hne, va_up_ne _ _ hne, va_up_ne _ _ hne]
    exact h.2 i q
  · have : i = wn st := by omega
    subst this
    rw [pk_us, va_up_self, va_up_self]
theorem PR_of {st st' : AS} {pw : Nat → Int32} (h : PR st pw) (e : st'.1 = st.1) : PR st' pw := by
  obtain ⟨a, b⟩ := st'
  have e : a = st.1 := e
  subst e
  exact h
end
section
theorem sd_knP {M : List Nat → Prop} {r : Int32} (h : (∀ j, j < 23 → nmF M (sd_nm.getD 0 []) 0 = nI j → r = sd_KN.getD j 0) ∧ (nmF M (sd_nm.getD 0 []) 0 < 0 → r = -1)) : r = nI (lk M sd_known) - 1 := by
  rw [sd_nm_k.1] at h
  rcases nmF_lk (M := M) sd_known 0 with ⟨e1, e2⟩ | ⟨j, hj, e1, e2⟩
  · rw [e2, h.2 (by rw [e1]; decide)]; decide
  · have hj : j < 23 := hj
    rw [Nat.zero_add] at e1
    rw [e2, nI_pred, h.1 j hj e1]
    exact sd_KN_ok j hj
theorem sd_cAP {M : List Nat → Prop} {r : Int32} (h : (∀ j, j < 18 → nmF M (sd_nm.getD 3 []) 0 = nI j → r = sd_BA.getD j 0) ∧ (nmF M (sd_nm.getD 3 []) 0 < 0 → r = -1)) : (r < 0 → lk M sd_cA = 0) ∧ (¬ r < 0 → nI 64 * r = nI (lk M sd_cA) - 1 ∧ ¬ lk M sd_cA = 0) := by
  rw [sd_nm_k.2.2.2.1] at h
  rcases nmF_lk (M := M) sd_cA 0 with ⟨e1, e2⟩ | ⟨j, hj, e1, e2⟩
  · refine ⟨fun _ => e2, fun h0 => absurd ?_ h0⟩
    rw [h.2 (by rw [e1]; decide)]; decide
  · have hj : j < 18 := hj
    rw [Nat.zero_add] at e1
    have e3 := h.1 j hj e1
    refine ⟨fun h0 => absurd (e3 ▸ h0) (sd_BA_ok j hj).2, fun _ => ⟨?_, by omega⟩⟩
    rw [e2, nI_pred, e3]
    exact (sd_BA_ok j hj).1
theorem sd_cMP {M : List Nat → Prop} {r : Int32} (h : (∀ j, j < 10 → nmF M (sd_nm.getD 4 []) 0 = nI j → r = sd_BM.getD j 0) ∧ (nmF M (sd_nm.getD 4 []) 0 < 0 → r = -1)) : (r < 0 → lk M sd_cM = 0) ∧ (¬ r < 0 → nI 4096 + nI 64 * r = nI (lk M sd_cM) - 1 ∧ ¬ lk M sd_cM = 0) := by
  rw [sd_nm_k.2.2.2.2] at h
  rcases nmF_lk (M := M) sd_cM 0 with ⟨e1, e2⟩ | ⟨j, hj, e1, e2⟩
  · refine ⟨fun _ => e2, fun h0 => absurd ?_ h0⟩
    rw [h.2 (by rw [e1]; decide)]; decide
  · have hj : j < 10 := hj
    rw [Nat.zero_add] at e1
    have e3 := h.1 j hj e1
    refine ⟨fun h0 => absurd (e3 ▸ h0) (sd_BM_ok j hj).2, fun _ => ⟨?_, by omega⟩⟩
    rw [e2, nI_pred, e3]
    exact (sd_BM_ok j hj).1
theorem sd_dsP {M : List Nat → Prop} : nI 1 + nmF M (sd_nm.getD 1 []) 0 = nI (lk M sd_dest) := by
  rw [sd_nm_k.2.1]
  rcases nmF_lk (M := M) sd_dest 0 with ⟨e1, e2⟩ | ⟨j, hj, e1, e2⟩
  · rw [e1, e2]; decide
  · have hj : j < 7 := hj
    rw [e1, e2, sd_dest_ix j hj, nI_add]; congr 1; omega
theorem sd_jpP {M : List Nat → Prop} : nI 1 + nmF M (sd_nm.getD 2 []) 0 = nI (lk M sd_jump) := by
  rw [sd_nm_k.2.2.1]
  rcases nmF_lk (M := M) sd_jump 0 with ⟨e1, e2⟩ | ⟨j, hj, e1, e2⟩
  · rw [e1, e2]; decide
  · have hj : j < 7 := hj
    rw [e1, e2, sd_jump_ix j hj, nI_add]; congr 1; omega
theorem m1_up {k : Nat} (h : ¬ k = 0) : nI k - 1 = nI (k - 1) := by
  obtain ⟨j, rfl⟩ : ∃ j, k = j + 1 := ⟨k - 1, by omega⟩
  rw [nI_pred]; rfl
theorem knK_le {tx : Nat → Nat} {a z : Nat} : knK tx a z ≤ 24577 := lk_le sd_known_lt
theorem spOther_g {tx : Nat → Nat} {a e q s ca D J C : Nat} {st : AS} (hq : oF tx 61 a e = q) (hs : oF tx 59 a e = s) (hca : ca = if q < e then q + 1 else a) (hD : D = if q < e then lk (nmM tx a q) sd_dest else 0) (hJ : J = if s < e then lk (nmM tx (s + 1) e) sd_jump else 0) (hC : C = lk (nmM tx ca s) sd_comp) :
    spOther tx a e st = if (q < e ∧ D = 0) ∨ (s < e ∧ J = 0) ∨ C = 0 then (1, st) else if 600 ≤ wn st then (2, st) else (0, pushW st (57344 + (C - 1) + 8 * D + J) 0) := by
  subst hq hs hca hC
  have h1 : (oF tx 61 a e < e ∧ D = 0) ↔ (oF tx 61 a e < e ∧ oD tx a e = 0) := by
    refine and_congr_right fun h => ?_
    rw [hD, if_pos h]; rfl
  have h2 : (oF tx 59 a e < e ∧ J = 0) ↔ (oF tx 59 a e < e ∧ oJ tx a e = 0) := by
    refine and_congr_right fun h => ?_
    rw [hJ, if_pos h]; rfl
  unfold spOther
  simp only [h1, h2]
  rw [hD, hJ]
  rfl
set_option maxHeartbeats 4000000 in
set_option maxRecDepth 100000 in
/-- numberIn -/
theorem c_Rdr_numberIn1 (l : Launch) (g : sdG) (x : Int32) : Met l y_Rdr_numberIn (.code y_Rdr_numberIn b_Rdr_numberIn 2 (some .int) :: sdT) ({ frames := 0, cells := 0, slots := 0, locals := 0 }) (va_Pc [.ref (gt1 g), .int x] (sdR g [])) (vp_Si (fun r => (∀ j, j < 23 → x = nI j → r = sd_KN.getD j 0) ∧ (x < 0 → r = -1))) 0 0 (fun _ => False) := by
  refine Met.ofW (cc := b_Rdr_numberIn) (maxL := 2) (ret := (some .int)) (by decide) rfl ?_
  intro p ev s m args below meth c s₁ B hml hv
  obtain ⟨rfl, hP, hK, hE⟩ := hv
  have hx := B.exec
  have hb := B.bytes
  have hr := B.returns
  have hts := fun (w : Cond) (h : w ∈ sdT) => atoms_spec (ws := (.code y_Rdr_numberIn b_Rdr_numberIn 2 (some .int) :: sdT)) B.pre w (List.mem_cons_of_mem _ h)
  have hown : s.vm.findClass "SignDesk$Reader" = some m.cls := findClass_of_methodNamed B.named
  have hlocks := B.notSynchronized
  have hF : ∀ a : Nat, a < s.heap.size → ¬ sdA g a → s.heap[a]? = s.heap[a]? := fun _ _ _ => rfl
  have hP : sdP g [] s.heap := hP
  have hl := lv_entry ([.ref (gt1 g), .int x]) (n := 2) (Nat.le_of_ble_eq_true rfl)
  rw [lg_entry_eq]
  generalize (lg_sl ([.ref (gt1 g), .int x]) ++ List.replicate (2 - (lg_sl ([.ref (gt1 g), .int x])).length) Slot.unset).toArray = ls at hl ⊢
  have hl : lv_has ls 2 [(0, .ref (gt1 g)), (1, .int x)] := hl
  have hS0 : va_S (sdA g) s.heap s.heap [] := va_S.rf
  refine lv_iload_n hx hb d_Rdr_numberIn_0 rfl (lv_at hl 1 rfl) ?_
  refine lv_if_lt (tgt := 16) hx hb d_Rdr_numberIn_1 (by decide) (fun c1 => ?_) (fun c1 => ?_)
  · refine lv_iconst (v := (-1)) hx hb d_Rdr_numberIn_16 (by decide) ?_
    exact W.iret (v := (-1)) hx hb hr  (fun t ht hW => ⟨_, rfl, ⟨fun j hj e => absurd (e ▸ c1) (nI_pos (by omega)), fun _ => rfl⟩, ht⟩) (fun _ h => by cases h) d_Rdr_numberIn_17
  · refine lv_iload_n hx hb d_Rdr_numberIn_4 rfl (lv_at hl 1 rfl) ?_
    refine lv_aload_n hx hb d_Rdr_numberIn_5 rfl (lv_at hl 0 rfl) ?_
    refine va_tlen hx hb hE.2.2.1.2 hS0 (v := nI 23) rfl d_Rdr_numberIn_6 ?_
    refine lv_icmp_ge (tgt := 16) hx hb d_Rdr_numberIn_7 (by decide) (fun c2 => ?_) (fun c2 => ?_)
    · refine lv_iconst (v := (-1)) hx hb d_Rdr_numberIn_16 (by decide) ?_
      exact W.iret (v := (-1)) hx hb hr  (fun t ht hW => ⟨_, rfl, ⟨fun j hj e => absurd (e ▸ c2) (nI_ge hj (by decide)), fun _ => rfl⟩, ht⟩) (fun _ h => by cases h) d_Rdr_numberIn_17
    · obtain ⟨j, hj, ej⟩ : ∃ j : Nat, j < 23 ∧ x = nI j := by
        rcases pk_ix x (n := 23) (by decide) with h | h | h
        · exact absurd h c1
        · exact absurd h c2
        · exact h
      refine lv_aload_n hx hb d_Rdr_numberIn_10 rfl (lv_at hl 0 rfl) ?_
      refine lv_iload_n hx hb d_Rdr_numberIn_11 rfl (lv_at hl 1 rfl) ?_
      refine va_ti hx hb hE.2.2.1.2 hS0 (i := x) (by rw [ej]; exact vp_in_nI hj (by decide)) (v := .int (sd_KN.getD j 0)) (by rw [ej, nI_clamp (by omega)]) d_Rdr_numberIn_12 ?_
      refine lv_goto (tgt := 17) hx hb d_Rdr_numberIn_13 (by decide) ?_
      exact W.iret (v := (sd_KN.getD j 0)) hx hb hr  (fun t ht hW => ⟨_, rfl, ⟨fun k hk e => by
          have : k = j := (nI_eq (by omega) (by omega)).mp (e.symm.trans ej)
          subst this; rfl, fun h => absurd h c1⟩, ht⟩) (fun _ h => by cases h) d_Rdr_numberIn_17
set_option maxHeartbeats 4000000 in
set_option maxRecDepth 100000 in
/-- numberIn -/
theorem c_Rdr_numberIn2 (l : Launch) (g : sdG) (x : Int32) : Met l y_Rdr_numberIn (.code y_Rdr_numberIn b_Rdr_numberIn 2 (some .int) :: sdT) ({ frames := 0, cells := 0, slots := 0, locals := 0 }) (va_Pc [.ref (gt2 g), .int x] (sdR g [])) (vp_Si (fun r => (∀ j, j < 18 → x = nI j → r = sd_BA.getD j 0) ∧ (x < 0 → r = -1))) 0 0 (fun _ => False) := by
  refine Met.ofW (cc := b_Rdr_numberIn) (maxL := 2) (ret := (some .int)) (by decide) rfl ?_
  intro p ev s m args below meth c s₁ B hml hv
  obtain ⟨rfl, hP, hK, hE⟩ := hv
  have hx := B.exec
  have hb := B.bytes
  have hr := B.returns
  have hts := fun (w : Cond) (h : w ∈ sdT) => atoms_spec (ws := (.code y_Rdr_numberIn b_Rdr_numberIn 2 (some .int) :: sdT)) B.pre w (List.mem_cons_of_mem _ h)
  have hown : s.vm.findClass "SignDesk$Reader" = some m.cls := findClass_of_methodNamed B.named
  have hlocks := B.notSynchronized
  have hF : ∀ a : Nat, a < s.heap.size → ¬ sdA g a → s.heap[a]? = s.heap[a]? := fun _ _ _ => rfl
  have hP : sdP g [] s.heap := hP
  have hl := lv_entry ([.ref (gt2 g), .int x]) (n := 2) (Nat.le_of_ble_eq_true rfl)
  rw [lg_entry_eq]
  generalize (lg_sl ([.ref (gt2 g), .int x]) ++ List.replicate (2 - (lg_sl ([.ref (gt2 g), .int x])).length) Slot.unset).toArray = ls at hl ⊢
  have hl : lv_has ls 2 [(0, .ref (gt2 g)), (1, .int x)] := hl
  have hS0 : va_S (sdA g) s.heap s.heap [] := va_S.rf
  refine lv_iload_n hx hb d_Rdr_numberIn_0 rfl (lv_at hl 1 rfl) ?_
  refine lv_if_lt (tgt := 16) hx hb d_Rdr_numberIn_1 (by decide) (fun c1 => ?_) (fun c1 => ?_)
  · refine lv_iconst (v := (-1)) hx hb d_Rdr_numberIn_16 (by decide) ?_
    exact W.iret (v := (-1)) hx hb hr  (fun t ht hW => ⟨_, rfl, ⟨fun j hj e => absurd (e ▸ c1) (nI_pos (by omega)), fun _ => rfl⟩, ht⟩) (fun _ h => by cases h) d_Rdr_numberIn_17
  · refine lv_iload_n hx hb d_Rdr_numberIn_4 rfl (lv_at hl 1 rfl) ?_
    refine lv_aload_n hx hb d_Rdr_numberIn_5 rfl (lv_at hl 0 rfl) ?_
    refine va_tlen hx hb hE.2.2.2.1.2 hS0 (v := nI 18) rfl d_Rdr_numberIn_6 ?_
    refine lv_icmp_ge (tgt := 16) hx hb d_Rdr_numberIn_7 (by decide) (fun c2 => ?_) (fun c2 => ?_)
    · refine lv_iconst (v := (-1)) hx hb d_Rdr_numberIn_16 (by decide) ?_
      exact W.iret (v := (-1)) hx hb hr  (fun t ht hW => ⟨_, rfl, ⟨fun j hj e => absurd (e ▸ c2) (nI_ge hj (by decide)), fun _ => rfl⟩, ht⟩) (fun _ h => by cases h) d_Rdr_numberIn_17
    · obtain ⟨j, hj, ej⟩ : ∃ j : Nat, j < 18 ∧ x = nI j := by
        rcases pk_ix x (n := 18) (by decide) with h | h | h
        · exact absurd h c1
        · exact absurd h c2
        · exact h
      refine lv_aload_n hx hb d_Rdr_numberIn_10 rfl (lv_at hl 0 rfl) ?_
      refine lv_iload_n hx hb d_Rdr_numberIn_11 rfl (lv_at hl 1 rfl) ?_
      refine va_ti hx hb hE.2.2.2.1.2 hS0 (i := x) (by rw [ej]; exact vp_in_nI hj (by decide)) (v := .int (sd_BA.getD j 0)) (by rw [ej, nI_clamp (by omega)]) d_Rdr_numberIn_12 ?_
      refine lv_goto (tgt := 17) hx hb d_Rdr_numberIn_13 (by decide) ?_
      exact W.iret (v := (sd_BA.getD j 0)) hx hb hr  (fun t ht hW => ⟨_, rfl, ⟨fun k hk e => by
          have : k = j := (nI_eq (by omega) (by omega)).mp (e.symm.trans ej)
          subst this; rfl, fun h => absurd h c1⟩, ht⟩) (fun _ h => by cases h) d_Rdr_numberIn_17
set_option maxHeartbeats 4000000 in
set_option maxRecDepth 100000 in
/-- numberIn -/
theorem c_Rdr_numberIn3 (l : Launch) (g : sdG) (x : Int32) : Met l y_Rdr_numberIn (.code y_Rdr_numberIn b_Rdr_numberIn 2 (some .int) :: sdT) ({ frames := 0, cells := 0, slots := 0, locals := 0 }) (va_Pc [.ref (gt3 g), .int x] (sdR g [])) (vp_Si (fun r => (∀ j, j < 10 → x = nI j → r = sd_BM.getD j 0) ∧ (x < 0 → r = -1))) 0 0 (fun _ => False) := by
  refine Met.ofW (cc := b_Rdr_numberIn) (maxL := 2) (ret := (some .int)) (by decide) rfl ?_
  intro p ev s m args below meth c s₁ B hml hv
  obtain ⟨rfl, hP, hK, hE⟩ := hv
  have hx := B.exec
  have hb := B.bytes
  have hr := B.returns
  have hts := fun (w : Cond) (h : w ∈ sdT) => atoms_spec (ws := (.code y_Rdr_numberIn b_Rdr_numberIn 2 (some .int) :: sdT)) B.pre w (List.mem_cons_of_mem _ h)
  have hown : s.vm.findClass "SignDesk$Reader" = some m.cls := findClass_of_methodNamed B.named
  have hlocks := B.notSynchronized
  have hF : ∀ a : Nat, a < s.heap.size → ¬ sdA g a → s.heap[a]? = s.heap[a]? := fun _ _ _ => rfl
  have hP : sdP g [] s.heap := hP
  have hl := lv_entry ([.ref (gt3 g), .int x]) (n := 2) (Nat.le_of_ble_eq_true rfl)
  rw [lg_entry_eq]
  generalize (lg_sl ([.ref (gt3 g), .int x]) ++ List.replicate (2 - (lg_sl ([.ref (gt3 g), .int x])).length) Slot.unset).toArray = ls at hl ⊢
  have hl : lv_has ls 2 [(0, .ref (gt3 g)), (1, .int x)] := hl
  have hS0 : va_S (sdA g) s.heap s.heap [] := va_S.rf
  refine lv_iload_n hx hb d_Rdr_numberIn_0 rfl (lv_at hl 1 rfl) ?_
  refine lv_if_lt (tgt := 16) hx hb d_Rdr_numberIn_1 (by decide) (fun c1 => ?_) (fun c1 => ?_)
  · refine lv_iconst (v := (-1)) hx hb d_Rdr_numberIn_16 (by decide) ?_
    exact W.iret (v := (-1)) hx hb hr  (fun t ht hW => ⟨_, rfl, ⟨fun j hj e => absurd (e ▸ c1) (nI_pos (by omega)), fun _ => rfl⟩, ht⟩) (fun _ h => by cases h) d_Rdr_numberIn_17
  · refine lv_iload_n hx hb d_Rdr_numberIn_4 rfl (lv_at hl 1 rfl) ?_
    refine lv_aload_n hx hb d_Rdr_numberIn_5 rfl (lv_at hl 0 rfl) ?_
    refine va_tlen hx hb hE.2.2.2.2.1.2 hS0 (v := nI 10) rfl d_Rdr_numberIn_6 ?_
    refine lv_icmp_ge (tgt := 16) hx hb d_Rdr_numberIn_7 (by decide) (fun c2 => ?_) (fun c2 => ?_)
    · refine lv_iconst (v := (-1)) hx hb d_Rdr_numberIn_16 (by decide) ?_
      exact W.iret (v := (-1)) hx hb hr  (fun t ht hW => ⟨_, rfl, ⟨fun j hj e => absurd (e ▸ c2) (nI_ge hj (by decide)), fun _ => rfl⟩, ht⟩) (fun _ h => by cases h) d_Rdr_numberIn_17
    · obtain ⟨j, hj, ej⟩ : ∃ j : Nat, j < 10 ∧ x = nI j := by
        rcases pk_ix x (n := 10) (by decide) with h | h | h
        · exact absurd h c1
        · exact absurd h c2
        · exact h
      refine lv_aload_n hx hb d_Rdr_numberIn_10 rfl (lv_at hl 0 rfl) ?_
      refine lv_iload_n hx hb d_Rdr_numberIn_11 rfl (lv_at hl 1 rfl) ?_
      refine va_ti hx hb hE.2.2.2.2.1.2 hS0 (i := x) (by rw [ej]; exact vp_in_nI hj (by decide)) (v := .int (sd_BM.getD j 0)) (by rw [ej, nI_clamp (by omega)]) d_Rdr_numberIn_12 ?_
      refine lv_goto (tgt := 17) hx hb d_Rdr_numberIn_13 (by decide) ?_
      exact W.iret (v := (sd_BM.getD j 0)) hx hb hr  (fun t ht hW => ⟨_, rfl, ⟨fun k hk e => by
          have : k = j := (nI_eq (by omega) (by omega)).mp (e.symm.trans ej)
          subst this; rfl, fun h => absurd h c1⟩, ht⟩) (fun _ h => by cases h) d_Rdr_numberIn_17
set_option maxHeartbeats 4000000 in
set_option maxRecDepth 100000 in
/-- knownNumber -/
theorem c_Rdr_knownNumber (l : Launch) (g : sdG) (q3 q1 q2 q7 q5 n : Nat) (fp : Int32) (f : Nat → Int32) (tx : Nat → Nat) (hT : TXok n f tx) (a z : Nat) (ha : a ≤ 2001) (hz : z ≤ 2001) : Met l y_Rdr_knownNumber (.code y_Rdr_knownNumber b_Rdr_knownNumber 3 (some .int) :: sdT) ({ frames := 5, cells := 0, slots := 0, locals := 112 }) (va_Pc [.ref q3, .int (nI a), .int (nI z)] (sdR g [(q3, .inr (4, [.ref q1, .ref q2, .ref q7, .int fp])), (q1, .inr (6, [.ref q5, .int (nI n)])), (q5, .inl (gB g, 2000, .inl f))])) (vp_Si (fun r => r = nI (knK tx a z) - 1)) 0 0 (fun _ => False) := by
  refine Met.ofW (cc := b_Rdr_knownNumber) (maxL := 3) (ret := (some .int)) (by decide) rfl ?_
  intro p ev s m args below meth c s₁ B hml hv
  obtain ⟨rfl, hP, hK, hE⟩ := hv
  have hx := B.exec
  have hb := B.bytes
  have hr := B.returns
  have hts := fun (w : Cond) (h : w ∈ sdT) => atoms_spec (ws := (.code y_Rdr_knownNumber b_Rdr_knownNumber 3 (some .int) :: sdT)) B.pre w (List.mem_cons_of_mem _ h)
  have hown : s.vm.findClass "SignDesk$Reader" = some m.cls := findClass_of_methodNamed B.named
  have hlocks := B.notSynchronized
  have hF : ∀ a : Nat, a < s.heap.size → ¬ sdA g a → s.heap[a]? = s.heap[a]? := fun _ _ _ => rfl
  have hP : sdP g [(q3, .inr (4, [.ref q1, .ref q2, .ref q7, .int fp])), (q1, .inr (6, [.ref q5, .int (nI n)])), (q5, .inl (gB g, 2000, .inl f))] s.heap := hP
  have hl := lv_entry ([.ref q3, .int (nI a), .int (nI z)]) (n := 3) (Nat.le_of_ble_eq_true rfl)
  rw [lg_entry_eq]
  generalize (lg_sl ([.ref q3, .int (nI a), .int (nI z)]) ++ List.replicate (3 - (lg_sl ([.ref q3, .int (nI a), .int (nI z)])).length) Slot.unset).toArray = ls at hl ⊢
  have hl : lv_has ls 3 [(0, .ref q3), (1, .int (nI a)), (2, .int (nI z))] := hl
  have hS0 : va_S (sdA g) s.heap s.heap [] := va_S.rf
  have hn := hT.1
  refine va_gets hx hb (v := .ref (gt1 g)) hE.2.2.1.1 hS0 hown (hts _ k_246) (fun _ h9 => h9) d_Rdr_knownNumber_0 ?_
  refine lv_aload_n hx hb d_Rdr_knownNumber_3 rfl (lv_at hl 0 rfl) ?_
  refine va_get (D := g.1) (ci := 4) (v := .ref q1) (C := "SignDesk$Reader") (T := F_Rdr) (N := 4) hx hb hts in_Rdr hown hK hP 0 rfl rfl 0 (by decide) (hts _ k_101) (fun _ h9 => h9) rfl d_Rdr_knownNumber_4 ?_
  refine va_ldcS hx hb hown hE.2.2.2.2.2.2.1.1 d_Rdr_knownNumber_7 ?_
  refine lv_iload_n hx hb d_Rdr_knownNumber_9 rfl (lv_at hl 1 rfl) ?_
  refine lv_iload_n hx hb d_Rdr_knownNumber_10 rfl (lv_at hl 2 rfl) ?_
  refine sd_ri (va_runV (As := [.ref (gk g 0), .int (nI a), .int (nI z)]) (rest := [.ref (gt1 g)]) ⟨hx, hb, hml, hown, hts⟩ (c_Txt_nameAmong l g q1 q5 n f tx hT 0 (by decide) (a) (z) (by omega) (by omega)) (cwV 3 hts (sd_gV k_249 k_250 k_251 k_24 k_252) rfl rfl rfl (by decide +kernel) ⟨Nat.le_of_ble_eq_true rfl, Nat.le_of_ble_eq_true rfl⟩) (sd_preV hK hE hF (hP.sub (ws' := [(q1, .inr (6, [.ref q5, .int (nI n)])), (q5, .inl (gB g, 2000, .inl f))]) [1, 2] rfl) rfl rfl) rfl rfl hl.1 rfl (lv_room (Nat.le_of_ble_eq_true rfl)) d_Rdr_knownNumber_11 ⟨Nat.zero_le _, Nat.zero_le _⟩) (fun r1 er1 => ?_)
  subst er1
  refine sd_ri (va_runS (As := [.ref (gt1 g), .int (nmF (nmM tx (a) (z)) (sd_nm.getD 0 []) 0)]) (rest := []) ⟨hx, hb, hml, hown, hts⟩ (c_Rdr_numberIn1 l g (nmF (nmM tx a z) (sd_nm.getD 0 []) 0)) (va_cwS 2 hts (sd_gS k_301 k_302 k_26 k_303) rfl rfl rfl (by decide +kernel) ⟨Nat.le_of_ble_eq_true rfl, Nat.le_of_ble_eq_true rfl⟩) (sd_preS hK hE hF (hP.sub (ws' := []) [] rfl)) rfl rfl hl.1 rfl (lv_room (Nat.le_of_ble_eq_true rfl)) d_Rdr_knownNumber_14 ⟨Nat.zero_le _, Nat.zero_le _⟩) (fun r2 er2 => ?_)
  exact W.iret (v := r2) hx hb hr  (fun t ht hW => ⟨_, rfl, sd_knP er2, ht⟩) (fun _ h => by cases h) d_Rdr_knownNumber_17
set_option maxHeartbeats 4000000 in
set_option maxRecDepth 100000 in
/-- compBits -/
theorem c_Rdr_compBits (l : Launch) (g : sdG) (q3 q1 q2 q7 q5 n : Nat) (fp : Int32) (f : Nat → Int32) (tx : Nat → Nat) (hT : TXok n f tx) (a z : Nat) (ha : a ≤ 2001) (hz : z ≤ 2001) : Met l y_Rdr_compBits (.code y_Rdr_compBits b_Rdr_compBits 4 (some .int) :: sdT) ({ frames := 5, cells := 0, slots := 0, locals := 112 }) (va_Pc [.ref q3, .int (nI a), .int (nI z)] (sdR g [(q3, .inr (4, [.ref q1, .ref q2, .ref q7, .int fp])), (q1, .inr (6, [.ref q5, .int (nI n)])), (q5, .inl (gB g, 2000, .inl f))])) (vp_Si (fun r => r = nI (lk (nmM tx a z) sd_comp) - 1)) 0 0 (fun _ => False) := by
  refine Met.ofW (cc := b_Rdr_compBits) (maxL := 4) (ret := (some .int)) (by decide) rfl ?_
  intro p ev s m args below meth c s₁ B hml hv
  obtain ⟨rfl, hP, hK, hE⟩ := hv
  have hx := B.exec
  have hb := B.bytes
  have hr := B.returns
  have hts := fun (w : Cond) (h : w ∈ sdT) => atoms_spec (ws := (.code y_Rdr_compBits b_Rdr_compBits 4 (some .int) :: sdT)) B.pre w (List.mem_cons_of_mem _ h)
  have hown : s.vm.findClass "SignDesk$Reader" = some m.cls := findClass_of_methodNamed B.named
  have hlocks := B.notSynchronized
  have hF : ∀ a : Nat, a < s.heap.size → ¬ sdA g a → s.heap[a]? = s.heap[a]? := fun _ _ _ => rfl
  have hP : sdP g [(q3, .inr (4, [.ref q1, .ref q2, .ref q7, .int fp])), (q1, .inr (6, [.ref q5, .int (nI n)])), (q5, .inl (gB g, 2000, .inl f))] s.heap := hP
  have hl := lv_entry ([.ref q3, .int (nI a), .int (nI z)]) (n := 4) (Nat.le_of_ble_eq_true rfl)
  rw [lg_entry_eq]
  generalize (lg_sl ([.ref q3, .int (nI a), .int (nI z)]) ++ List.replicate (4 - (lg_sl ([.ref q3, .int (nI a), .int (nI z)])).length) Slot.unset).toArray = ls at hl ⊢
  have hl : lv_has ls 4 [(0, .ref q3), (1, .int (nI a)), (2, .int (nI z))] := hl
  have hS0 : va_S (sdA g) s.heap s.heap [] := va_S.rf
  have hn := hT.1
  refine va_gets hx hb (v := .ref (gt2 g)) hE.2.2.2.1.1 hS0 hown (hts _ k_352) (fun _ h9 => h9) d_Rdr_compBits_0 ?_
  refine lv_aload_n hx hb d_Rdr_compBits_3 rfl (lv_at hl 0 rfl) ?_
  refine va_get (D := g.1) (ci := 4) (v := .ref q1) (C := "SignDesk$Reader") (T := F_Rdr) (N := 4) hx hb hts in_Rdr hown hK hP 0 rfl rfl 0 (by decide) (hts _ k_101) (fun _ h9 => h9) rfl d_Rdr_compBits_4 ?_
  refine va_ldcS hx hb hown hE.2.2.2.2.2.2.1.2.2.2.1 d_Rdr_compBits_7 ?_
  refine lv_iload_n hx hb d_Rdr_compBits_9 rfl (lv_at hl 1 rfl) ?_
  refine lv_iload_n hx hb d_Rdr_compBits_10 rfl (lv_at hl 2 rfl) ?_
  refine sd_ri (va_runV (As := [.ref (gk g 3), .int (nI a), .int (nI z)]) (rest := [.ref (gt2 g)]) ⟨hx, hb, hml, hown, hts⟩ (c_Txt_nameAmong l g q1 q5 n f tx hT 3 (by decide) (a) (z) (by omega) (by omega)) (cwV 3 hts (sd_gV k_249 k_250 k_251 k_24 k_252) rfl rfl rfl (by decide +kernel) ⟨Nat.le_of_ble_eq_true rfl, Nat.le_of_ble_eq_true rfl⟩) (sd_preV hK hE hF (hP.sub (ws' := [(q1, .inr (6, [.ref q5, .int (nI n)])), (q5, .inl (gB g, 2000, .inl f))]) [1, 2] rfl) rfl rfl) rfl rfl hl.1 rfl (lv_room (Nat.le_of_ble_eq_true rfl)) d_Rdr_compBits_11 ⟨Nat.zero_le _, Nat.zero_le _⟩) (fun r1 er1 => ?_)
  subst er1
  refine sd_ri (va_runS (As := [.ref (gt2 g), .int (nmF (nmM tx (a) (z)) (sd_nm.getD 3 []) 0)]) (rest := []) ⟨hx, hb, hml, hown, hts⟩ (c_Rdr_numberIn2 l g (nmF (nmM tx a z) (sd_nm.getD 3 []) 0)) (va_cwS 2 hts (sd_gS k_301 k_302 k_26 k_303) rfl rfl rfl (by decide +kernel) ⟨Nat.le_of_ble_eq_true rfl, Nat.le_of_ble_eq_true rfl⟩) (sd_preS hK hE hF (hP.sub (ws' := []) [] rfl)) rfl rfl hl.1 rfl (lv_room (Nat.le_of_ble_eq_true rfl)) d_Rdr_compBits_14 ⟨Nat.zero_le _, Nat.zero_le _⟩) (fun r2 er2 => ?_)
  have hA1 := sd_cAP er2
  refine lv_istore_n (lv' := [(3, .int r2), (0, .ref q3), (1, .int (nI a)), (2, .int (nI z))]) hx hb d_Rdr_compBits_17 rfl hl (by decide) rfl (fun ls hl => ?_)
  refine lv_iload_n hx hb d_Rdr_compBits_18 rfl (lv_at hl 0 rfl) ?_
  refine lv_if_lt (tgt := 27) hx hb d_Rdr_compBits_19 (by decide) (fun c3 => ?_) (fun c3 => ?_)
  · have e0 := hA1.1 c3
    refine va_gets hx hb (v := .ref (gt3 g)) hE.2.2.2.2.1.1 hS0 hown (hts _ k_355) (fun _ h9 => h9) d_Rdr_compBits_27 ?_
    refine lv_aload_n hx hb d_Rdr_compBits_30 rfl (lv_at hl 1 rfl) ?_
    refine va_get (D := g.1) (ci := 4) (v := .ref q1) (C := "SignDesk$Reader") (T := F_Rdr) (N := 4) hx hb hts in_Rdr hown hK hP 0 rfl rfl 0 (by decide) (hts _ k_101) (fun _ h9 => h9) rfl d_Rdr_compBits_31 ?_
    refine va_ldcS hx hb hown hE.2.2.2.2.2.2.1.2.2.2.2 d_Rdr_compBits_34 ?_
    refine lv_iload_n hx hb d_Rdr_compBits_36 rfl (lv_at hl 2 rfl) ?_
    refine lv_iload_n hx hb d_Rdr_compBits_37 rfl (lv_at hl 3 rfl) ?_
    refine sd_ri (va_runV (As := [.ref (gk g 4), .int (nI a), .int (nI z)]) (rest := [.ref (gt3 g)]) ⟨hx, hb, hml, hown, hts⟩ (c_Txt_nameAmong l g q1 q5 n f tx hT 4 (by decide) (a) (z) (by omega) (by omega)) (cwV 3 hts (sd_gV k_249 k_250 k_251 k_24 k_252) rfl rfl rfl (by decide +kernel) ⟨Nat.le_of_ble_eq_true rfl, Nat.le_of_ble_eq_true rfl⟩) (sd_preV hK hE hF (hP.sub (ws' := [(q1, .inr (6, [.ref q5, .int (nI n)])), (q5, .inl (gB g, 2000, .inl f))]) [1, 2] rfl) rfl rfl) rfl rfl hl.1 rfl (lv_room (Nat.le_of_ble_eq_true rfl)) d_Rdr_compBits_38 ⟨Nat.zero_le _, Nat.zero_le _⟩) (fun r4 er4 => ?_)
    subst er4
    refine sd_ri (va_runS (As := [.ref (gt3 g), .int (nmF (nmM tx (a) (z)) (sd_nm.getD 4 []) 0)]) (rest := []) ⟨hx, hb, hml, hown, hts⟩ (c_Rdr_numberIn3 l g (nmF (nmM tx a z) (sd_nm.getD 4 []) 0)) (va_cwS 2 hts (sd_gS k_301 k_302 k_26 k_303) rfl rfl rfl (by decide +kernel) ⟨Nat.le_of_ble_eq_true rfl, Nat.le_of_ble_eq_true rfl⟩) (sd_preS hK hE hF (hP.sub (ws' := []) [] rfl)) rfl rfl hl.1 rfl (lv_room (Nat.le_of_ble_eq_true rfl)) d_Rdr_compBits_41 ⟨Nat.zero_le _, Nat.zero_le _⟩) (fun r5 er5 => ?_)
    have hM1 := sd_cMP er5
    refine lv_istore_n (lv' := [(3, .int r5), (0, .ref q3), (1, .int (nI a)), (2, .int (nI z))]) hx hb d_Rdr_compBits_44 rfl hl (by decide) rfl (fun ls hl => ?_)
    refine lv_iload_n hx hb d_Rdr_compBits_45 rfl (lv_at hl 0 rfl) ?_
    refine lv_if_lt (tgt := 60) hx hb d_Rdr_compBits_46 (by decide) (fun c6 => ?_) (fun c6 => ?_)
    · refine lv_iconst (v := (-1)) hx hb d_Rdr_compBits_60 (by decide) ?_
      exact W.iret (v := (-1)) hx hb hr  (fun t ht hW => ⟨_, rfl, by
          have e1 : lk (nmM tx a z) sd_comp = 0 := by rw [sd_comp, lk_app, if_pos e0]; exact hM1.1 c6
          rw [e1]; decide, ht⟩) (fun _ h => by cases h) d_Rdr_compBits_61
    · refine lv_sipush (v := (nI 4096)) hx hb d_Rdr_compBits_49 (by decide) ?_
      refine lv_bipush (v := (nI 64)) hx hb d_Rdr_compBits_52 (by decide) ?_
      refine lv_iload_n hx hb d_Rdr_compBits_54 rfl (lv_at hl 0 rfl) ?_
      refine lv_imul hx hb d_Rdr_compBits_55 ?_
      refine lv_iadd hx hb d_Rdr_compBits_56 ?_
      refine lv_goto (tgt := 61) hx hb d_Rdr_compBits_57 (by decide) ?_
      exact W.iret (v := ((nI 4096) + ((nI 64) * r5))) hx hb hr  (fun t ht hW => ⟨_, rfl, by
          have e1 : lk (nmM tx a z) sd_comp = lk (nmM tx a z) sd_cM := by rw [sd_comp, lk_app, if_pos e0]
          rw [e1]; exact (hM1.2 c6).1, ht⟩) (fun _ h => by cases h) d_Rdr_compBits_61
  · refine lv_bipush (v := (nI 64)) hx hb d_Rdr_compBits_22 (by decide) ?_
    refine lv_iload_n hx hb d_Rdr_compBits_24 rfl (lv_at hl 0 rfl) ?_
    refine lv_imul hx hb d_Rdr_compBits_25 ?_
    exact W.iret (v := ((nI 64) * r2)) hx hb hr  (fun t ht hW => ⟨_, rfl, by
        have e1 : lk (nmM tx a z) sd_comp = lk (nmM tx a z) sd_cA := by rw [sd_comp, lk_app, if_neg (hA1.2 c3).2]
        rw [e1]; exact (hA1.2 c3).1, ht⟩) (fun _ h => by cases h) d_Rdr_compBits_26
end
section
set_option maxHeartbeats 4000000 in
set_option maxRecDepth 100000 in
/-- takeAddress -/
theorem c_Rdr_takeAddress (l : Launch) (g : sdG) (q3 q1 q2 q7 q5 q6 q8 q9 q10 n : Nat) (fp : Int32) (f : Nat → Int32) (tx : Nat → Nat) (hT : TXok n f tx) (st : AS) (pw s1 s2 s3 : Nat → Int32) (hPR : PR st pw) (hSR : SR st s1 s2 s3) (a z : Nat) (ha : a ≤ z) (hz : z ≤ 2000) (sz : Nat) : Met l y_Rdr_takeAddress (.code y_Rdr_takeAddress b_Rdr_takeAddress 6 (some .int) :: sdT) ({ frames := 6, cells := 0, slots := 0, locals := 134 }) (va_Pc [.ref q3, .int (nI a), .int (nI z)] (sdU g [(q3, .inr (4, [.ref q1, .ref q2, .ref q7, .int fp])), (q1, .inr (6, [.ref q5, .int (nI n)])), (q5, .inl (gB g, 2000, .inl f)), (q2, .inr (3, [.ref q6, .int (nI (wn st))])), (q6, .inl (gI g, 600, .inl pw)), (q7, .inr (5, [.ref q1, .ref q8, .ref q9, .ref q10, .int (nI (sn st))])), (q8, .inl (gI g, 40, .inl s1)), (q9, .inl (gI g, 40, .inl s2)), (q10, .inl (gI g, 40, .inl s3))] sz)) (va_Qi (S := AS × (Nat → Int32) × (Nat → Int32) × (Nat → Int32) × (Nat → Int32)) (fun r u => (∃ c, spAddr tx a z st = (c, u.1) ∧ r = nI c) ∧ PR u.1 u.2.1 ∧ SR u.1 u.2.2.1 u.2.2.2.1 u.2.2.2.2) (fun u t => sdB g [(q3, .inr (4, [.ref q1, .ref q2, .ref q7, .int fp])), (q1, .inr (6, [.ref q5, .int (nI n)])), (q5, .inl (gB g, 2000, .inl f)), (q2, .inr (3, [.ref q6, .int (nI (wn st))])), (q6, .inl (gI g, 600, .inl pw)), (q7, .inr (5, [.ref q1, .ref q8, .ref q9, .ref q10, .int (nI (sn st))])), (q8, .inl (gI g, 40, .inl s1)), (q9, .inl (gI g, 40, .inl s2)), (q10, .inl (gI g, 40, .inl s3))] sz ((fun u => [(q3, .inr (4, [.ref q1, .ref q2, .ref q7, .int fp])), (q1, .inr (6, [.ref q5, .int (nI n)])), (q5, .inl (gB g, 2000, .inl f)), (q2, .inr (3, [.ref q6, .int (nI (wn u.1))])), (q6, .inl (gI g, 600, .inl u.2.1)), (q7, .inr (5, [.ref q1, .ref q8, .ref q9, .ref q10, .int (nI (sn u.1))])), (q8, .inl (gI g, 40, .inl u.2.2.1)), (q9, .inl (gI g, 40, .inl u.2.2.2.1)), (q10, .inl (gI g, 40, .inl u.2.2.2.2))] : AS × (Nat → Int32) × (Nat → Int32) × (Nat → Int32) × (Nat → Int32) → va_W) u) t) (va_A [(q3, .inr (4, [.ref q1, .ref q2, .ref q7, .int fp])), (q1, .inr (6, [.ref q5, .int (nI n)])), (q5, .inl (gB g, 2000, .inl f)), (q2, .inr (3, [.ref q6, .int (nI (wn st))])), (q6, .inl (gI g, 600, .inl pw)), (q7, .inr (5, [.ref q1, .ref q8, .ref q9, .ref q10, .int (nI (sn st))])), (q8, .inl (gI g, 40, .inl s1)), (q9, .inl (gI g, 40, .inl s2)), (q10, .inl (gI g, 40, .inl s3))] sz)) 0 0 (va_A [(q3, .inr (4, [.ref q1, .ref q2, .ref q7, .int fp])), (q1, .inr (6, [.ref q5, .int (nI n)])), (q5, .inl (gB g, 2000, .inl f)), (q2, .inr (3, [.ref q6, .int (nI (wn st))])), (q6, .inl (gI g, 600, .inl pw)), (q7, .inr (5, [.ref q1, .ref q8, .ref q9, .ref q10, .int (nI (sn st))])), (q8, .inl (gI g, 40, .inl s1)), (q9, .inl (gI g, 40, .inl s2)), (q10, .inl (gI g, 40, .inl s3))] sz) := by
  refine Met.ofW (cc := b_Rdr_takeAddress) (maxL := 6) (ret := (some .int)) (by decide) rfl ?_
  intro p ev s m args below meth c s₁ B hml hv
  obtain ⟨rfl, hsz, hP, hK, hE, hD0, hs0⟩ := hv
  have hx := B.exec
  have hb := B.bytes
  have hr := B.returns
  have hts := fun (w : Cond) (h : w ∈ sdT) => atoms_spec (ws := (.code y_Rdr_takeAddress b_Rdr_takeAddress 6 (some .int) :: sdT)) B.pre w (List.mem_cons_of_mem _ h)
  have hown : s.vm.findClass "SignDesk$Reader" = some m.cls := findClass_of_methodNamed B.named
  have hlocks := B.notSynchronized
  subst hsz
  have hD := hD0.self (sz := s.heap.size)
  have hA0 : ∀ q : Nat, va_A [(q3, .inr (4, [.ref q1, .ref q2, .ref q7, .int fp])), (q1, .inr (6, [.ref q5, .int (nI n)])), (q5, .inl (gB g, 2000, .inl f)), (q2, .inr (3, [.ref q6, .int (nI (wn st))])), (q6, .inl (gI g, 600, .inl pw)), (q7, .inr (5, [.ref q1, .ref q8, .ref q9, .ref q10, .int (nI (sn st))])), (q8, .inl (gI g, 40, .inl s1)), (q9, .inl (gI g, 40, .inl s2)), (q10, .inl (gI g, 40, .inl s3))] s.heap.size q → gS g ≤ q := fun q h => h.elim (fun ⟨k, e, hk⟩ => hD0.2 k _ hk) (fun h => Nat.le_trans hs0 h)
  have hA : ∀ q : Nat, s.heap.size ≤ q → va_A [(q3, .inr (4, [.ref q1, .ref q2, .ref q7, .int fp])), (q1, .inr (6, [.ref q5, .int (nI n)])), (q5, .inl (gB g, 2000, .inl f)), (q2, .inr (3, [.ref q6, .int (nI (wn st))])), (q6, .inl (gI g, 600, .inl pw)), (q7, .inr (5, [.ref q1, .ref q8, .ref q9, .ref q10, .int (nI (sn st))])), (q8, .inl (gI g, 40, .inl s1)), (q9, .inl (gI g, 40, .inl s2)), (q10, .inl (gI g, 40, .inl s3))] s.heap.size q := fun q h => Or.inr h
  generalize hAe : va_A [(q3, .inr (4, [.ref q1, .ref q2, .ref q7, .int fp])), (q1, .inr (6, [.ref q5, .int (nI n)])), (q5, .inl (gB g, 2000, .inl f)), (q2, .inr (3, [.ref q6, .int (nI (wn st))])), (q6, .inl (gI g, 600, .inl pw)), (q7, .inr (5, [.ref q1, .ref q8, .ref q9, .ref q10, .int (nI (sn st))])), (q8, .inl (gI g, 40, .inl s1)), (q9, .inl (gI g, 40, .inl s2)), (q10, .inl (gI g, 40, .inl s3))] s.heap.size = A at hD hA0 hA ⊢
  have hS : va_S A s.heap s.heap [] := va_S.rf
  have hP : sdP g [(q3, .inr (4, [.ref q1, .ref q2, .ref q7, .int fp])), (q1, .inr (6, [.ref q5, .int (nI n)])), (q5, .inl (gB g, 2000, .inl f)), (q2, .inr (3, [.ref q6, .int (nI (wn st))])), (q6, .inl (gI g, 600, .inl pw)), (q7, .inr (5, [.ref q1, .ref q8, .ref q9, .ref q10, .int (nI (sn st))])), (q8, .inl (gI g, 40, .inl s1)), (q9, .inl (gI g, 40, .inl s2)), (q10, .inl (gI g, 40, .inl s3))] s.heap := hP
  have hl := lv_entry ([.ref q3, .int (nI a), .int (nI z)]) (n := 6) (Nat.le_of_ble_eq_true rfl)
  rw [lg_entry_eq]
  generalize (lg_sl ([.ref q3, .int (nI a), .int (nI z)]) ++ List.replicate (6 - (lg_sl ([.ref q3, .int (nI a), .int (nI z)])).length) Slot.unset).toArray = ls at hl ⊢
  have hl : lv_has ls 6 [(0, .ref q3), (1, .int (nI a)), (2, .int (nI z))] := hl
  have hn := hT.1
  have hb8 := hT.2.1
  have h40 := hSR.1
  have h600 := hPR.1
  refine lv_aload_n hx hb d_Rdr_takeAddress_0 rfl (lv_at hl 0 rfl) ?_
  refine va_get (D := g.1) (ci := 4) (v := .ref q1) (C := "SignDesk$Reader") (T := F_Rdr) (N := 4) hx hb hts in_Rdr hown hK hP 0 rfl rfl 0 (by decide) (hts _ k_101) (fun _ h9 => h9) rfl d_Rdr_takeAddress_1 ?_
  refine lv_iload_n hx hb d_Rdr_takeAddress_4 rfl (lv_at hl 1 rfl) ?_
  refine lv_iload_n hx hb d_Rdr_takeAddress_5 rfl (lv_at hl 2 rfl) ?_
  refine sd_ri (va_runV (As := [.int (nI a), .int (nI z)]) (rest := []) ⟨hx, hb, hml, hown, hts⟩ (c_Txt_isSymbol l g q1 q5 n f tx hT (a) (z) (by omega) (by omega)) (cwV 2 hts (sd_gV k_232 k_233 k_234 k_24 k_235) rfl rfl rfl (by decide +kernel) ⟨Nat.le_of_ble_eq_true rfl, Nat.le_of_ble_eq_true rfl⟩) (sd_preV hK hE (sd_fr hS hA0) (hP.sub (ws' := [(q1, .inr (6, [.ref q5, .int (nI n)])), (q5, .inl (gB g, 2000, .inl f))]) [1, 2] rfl) rfl rfl) rfl rfl hl.1 rfl (lv_room (Nat.le_of_ble_eq_true rfl)) d_Rdr_takeAddress_6 ⟨Nat.zero_le _, Nat.zero_le _⟩) (fun r1 er1 => ?_)
  subst er1
  refine lv_istore_n (lv' := [(3, .int (sb (syP tx (a) (z)))), (0, .ref q3), (1, .int (nI a)), (2, .int (nI z))]) hx hb d_Rdr_takeAddress_9 rfl hl (by decide) rfl (fun ls hl => ?_)
  refine lv_iload_n hx hb d_Rdr_takeAddress_10 rfl (lv_at hl 0 rfl) ?_
  refine lv_if_eq (tgt := 23) hx hb d_Rdr_takeAddress_11 (by decide) (fun c2 => ?_) (fun c2 => ?_)
  · have c2 := sb_eq0.mp c2
    refine lv_aload_n hx hb d_Rdr_takeAddress_23 rfl (lv_at hl 1 rfl) ?_
    refine va_get (D := g.1) (ci := 4) (v := .ref q1) (C := "SignDesk$Reader") (T := F_Rdr) (N := 4) hx hb hts in_Rdr hown hK hP 0 rfl rfl 0 (by decide) (hts _ k_101) (fun _ h9 => h9) rfl d_Rdr_takeAddress_24 ?_
    refine lv_iload_n hx hb d_Rdr_takeAddress_27 rfl (lv_at hl 2 rfl) ?_
    refine lv_iload_n hx hb d_Rdr_takeAddress_28 rfl (lv_at hl 3 rfl) ?_
    refine sd_ri (va_runV (As := [.int (nI a), .int (nI z)]) (rest := []) ⟨hx, hb, hml, hown, hts⟩ (c_Txt_number l g q1 q5 n f tx hT a z (by omega) (by omega)) (cwV 2 hts (sd_gV k_304 k_305 k_306 k_24 k_307) rfl rfl rfl (by decide +kernel) ⟨Nat.le_of_ble_eq_true rfl, Nat.le_of_ble_eq_true rfl⟩) (sd_preV hK hE (sd_fr hS hA0) (hP.sub (ws' := [(q1, .inr (6, [.ref q5, .int (nI n)])), (q5, .inl (gB g, 2000, .inl f))]) [1, 2] rfl) rfl rfl) rfl rfl hl.1 rfl (lv_room (Nat.le_of_ble_eq_true rfl)) d_Rdr_takeAddress_29 ⟨Nat.zero_le _, Nat.zero_le _⟩) (fun r3 er3 => ?_)
    rcases er3 with ⟨hnu, rfl⟩ | ⟨hnu, rfl⟩
    · have hnu : nuP tx a z := hnu
      have hnv : nV tx a (z - a) ≤ 32767 := hnu.2.2.2
      refine lv_istore (lv' := [(4, .int (nI (nV tx a (z - a)))), (3, .int (sb (syP tx (a) (z)))), (0, .ref q3), (1, .int (nI a)), (2, .int (nI z))]) hx hb d_Rdr_takeAddress_32 hl (by decide) rfl (fun ls hl => ?_)
      refine lv_iload_n hx hb d_Rdr_takeAddress_34 rfl (lv_at hl 1 rfl) ?_
      refine lv_if_ne (tgt := 45) hx hb d_Rdr_takeAddress_35 (by decide) (fun c4 => ?_) (fun c4 => ?_)
      · have c4 := sb_ne0.mp c4
        exact absurd c4 c2
      · have c4 := sb_eq0.mp c4
        refine lv_iload hx hb d_Rdr_takeAddress_38 (lv_at hl 0 rfl) ?_
        refine lv_if_ge (tgt := 45) hx hb d_Rdr_takeAddress_40 (by decide) (fun c5 => ?_) (fun c5 => ?_)
        · refine lv_aload_n hx hb d_Rdr_takeAddress_45 rfl (lv_at hl 2 rfl) ?_
          refine va_get (D := g.1) (ci := 4) (v := .ref q2) (C := "SignDesk$Reader") (T := F_Rdr) (N := 4) hx hb hts in_Rdr hown hK hP 0 rfl rfl 1 (by decide) (hts _ k_102) (fun _ h9 => h9) rfl d_Rdr_takeAddress_46 ?_
          refine sd_ri (va_runV (As := []) (rest := []) ⟨hx, hb, hml, hown, hts⟩ (c_Prg_isFull l g q2 q6 (wn st) pw hPR.1) (cwV 0 hts (sd_gV k_308 k_309 k_310 k_25 k_311) rfl rfl rfl (by decide +kernel) ⟨Nat.le_of_ble_eq_true rfl, Nat.le_of_ble_eq_true rfl⟩) (sd_preV hK hE (sd_fr hS hA0) (hP.sub (ws' := [(q2, .inr (3, [.ref q6, .int (nI (wn st))])), (q6, .inl (gI g, 600, .inl pw))]) [3, 4] rfl) rfl rfl) rfl rfl hl.1 rfl (lv_room (Nat.le_of_ble_eq_true rfl)) d_Rdr_takeAddress_49 ⟨Nat.zero_le _, Nat.zero_le _⟩) (fun r6 er6 => ?_)
          subst er6
          refine lv_if_eq (tgt := 57) hx hb d_Rdr_takeAddress_52 (by decide) (fun c7 => ?_) (fun c7 => ?_)
          · have c7 := sb_eq0.mp c7
            refine lv_iload hx hb d_Rdr_takeAddress_57 (lv_at hl 0 rfl) ?_
            refine lv_if_ge (tgt := 87) hx hb d_Rdr_takeAddress_59 (by decide) (fun c8 => ?_) (fun c8 => ?_)
            · refine lv_aload_n hx hb d_Rdr_takeAddress_87 rfl (lv_at hl 2 rfl) ?_
              refine va_get (D := g.1) (ci := 4) (v := .ref q2) (C := "SignDesk$Reader") (T := F_Rdr) (N := 4) hx hb hts in_Rdr hown hK hP 0 rfl rfl 1 (by decide) (hts _ k_102) (fun _ h9 => h9) rfl d_Rdr_takeAddress_88 ?_
              refine lv_iload hx hb d_Rdr_takeAddress_91 (lv_at hl 0 rfl) ?_
              have hPc := hP.sub (ws' := [(q2, .inr (3, [.ref q6, .int (nI (wn st))])), (q6, .inl (gI g, 600, .inl pw))]) [3, 4] rfl
              have hDc := hD.sub (ws' := [(q2, .inr (3, [.ref q6, .int (nI (wn st))])), (q6, .inl (gI g, 600, .inl pw))]) [3, 4] (by decide) rfl
              have hFc := va_free (wc := [(q2, .inr (3, [.ref q6, .int (nI (wn st))])), (q6, .inl (gI g, 600, .inl pw))]) hD hS hA [3, 4] rfl
              refine sd_cv (va_runV (As := [.int (nI (nV tx a (z - a)))]) (rest := []) ⟨hx, hb, hml, hown, hts⟩ (c_Prg_add l g q2 q6 (wn st) pw hPR.1 (nI (nV tx a (z - a))) (by omega) s.heap.size) (cwV 1 hts (sd_gV k_321 k_322 k_323 k_25 k_324) rfl rfl rfl (by decide +kernel) ⟨Nat.le_of_ble_eq_true rfl, Nat.le_of_ble_eq_true rfl⟩) (sd_preVU hK hE hS hA0 hs0 hPc hDc rfl rfl) rfl rfl hl.1 rfl (lv_room (Nat.le_of_ble_eq_true rfl)) d_Rdr_takeAddress_93 ⟨Nat.zero_le _, Nat.zero_le _⟩) hS hFc (fun u H1 locs hw hP1 hD1 hk1 hS => ?_)
              obtain ⟨hP, hD⟩ := va_join (wr := [(q3, .inr (4, [.ref q1, .ref q2, .ref q7, .int fp])), (q1, .inr (6, [.ref q5, .int (nI n)])), (q5, .inl (gB g, 2000, .inl f)), (q7, .inr (5, [.ref q1, .ref q8, .ref q9, .ref q10, .int (nI (sn st))])), (q8, .inl (gI g, 40, .inl s1)), (q9, .inl (gI g, 40, .inl s2)), (q10, .inl (gI g, 40, .inl s3))]) (w1 := [(q2, .inr (3, [.ref q6, .int (nI (wn st + 1))])), (q6, .inl (gI g, 600, .inl (upd pw (wn st) (nI (nV tx a (z - a))))))]) hP hD [3, 4] [0, 1, 2, 5, 6, 7, 8] rfl rfl (by decide) (by decide) hk1 hFc hP1 hD1
              clear hPc hDc hFc hk1 hP1 hD1
              generalize H1 = H at hP hS ⊢
              have hP : sdP g [(q3, .inr (4, [.ref q1, .ref q2, .ref q7, .int fp])), (q1, .inr (6, [.ref q5, .int (nI n)])), (q5, .inl (gB g, 2000, .inl f)), (q7, .inr (5, [.ref q1, .ref q8, .ref q9, .ref q10, .int (nI (sn st))])), (q8, .inl (gI g, 40, .inl s1)), (q9, .inl (gI g, 40, .inl s2)), (q10, .inl (gI g, 40, .inl s3)), (q2, .inr (3, [.ref q6, .int (nI (wn st + 1))])), (q6, .inl (gI g, 600, .inl (upd pw (wn st) (nI (nV tx a (z - a))))))] H := hP
              have hD : va_D A [(q3, .inr (4, [.ref q1, .ref q2, .ref q7, .int fp])), (q1, .inr (6, [.ref q5, .int (nI n)])), (q5, .inl (gB g, 2000, .inl f)), (q7, .inr (5, [.ref q1, .ref q8, .ref q9, .ref q10, .int (nI (sn st))])), (q8, .inl (gI g, 40, .inl s1)), (q9, .inl (gI g, 40, .inl s2)), (q10, .inl (gI g, 40, .inl s3)), (q2, .inr (3, [.ref q6, .int (nI (wn st + 1))])), (q6, .inl (gI g, 600, .inl (upd pw (wn st) (nI (nV tx a (z - a))))))] := hD
              refine lv_iconst (v := (nI 0)) hx hb d_Rdr_takeAddress_96 (by decide) ?_
              have hP9 := hP.sub (ws' := [(q3, .inr (4, [.ref q1, .ref q2, .ref q7, .int fp])), (q1, .inr (6, [.ref q5, .int (nI n)])), (q5, .inl (gB g, 2000, .inl f)), (q2, .inr (3, [.ref q6, .int (nI (wn st + 1))])), (q6, .inl (gI g, 600, .inl (upd pw (wn st) (nI (nV tx a (z - a)))))), (q7, .inr (5, [.ref q1, .ref q8, .ref q9, .ref q10, .int (nI (sn st))])), (q8, .inl (gI g, 40, .inl s1)), (q9, .inl (gI g, 40, .inl s2)), (q10, .inl (gI g, 40, .inl s3))]) [0, 1, 2, 7, 8, 3, 4, 5, 6] rfl
              have hD9 := hD.sub (ws' := [(q3, .inr (4, [.ref q1, .ref q2, .ref q7, .int fp])), (q1, .inr (6, [.ref q5, .int (nI n)])), (q5, .inl (gB g, 2000, .inl f)), (q2, .inr (3, [.ref q6, .int (nI (wn st + 1))])), (q6, .inl (gI g, 600, .inl (upd pw (wn st) (nI (nV tx a (z - a)))))), (q7, .inr (5, [.ref q1, .ref q8, .ref q9, .ref q10, .int (nI (sn st))])), (q8, .inl (gI g, 40, .inl s1)), (q9, .inl (gI g, 40, .inl s2)), (q10, .inl (gI g, 40, .inl s3))]) [0, 1, 2, 7, 8, 3, 4, 5, 6] (by decide) rfl
              exact W.iret (v := (nI 0)) hx hb hr (fun t ht hW => ⟨⟨_, (pushW st (nV tx a (z - a)) 0, upd pw (wn st) (nI (nV tx a (z - a))), s1, s2, s3), rfl, ⟨⟨0, by rw [spAddr, cl_f c2, cl_t hnu, if_neg c7], rfl⟩, PR_push (y := 0) hPR (by omega), hSR⟩, by rw [ht]; exact hP9, by rw [hAe]; exact hD9⟩, hS.F ht⟩) hS.2.2 d_Rdr_takeAddress_97
            · exact absurd (nI_pos' (by omega)) c8
          · have c7 := sb_ne0.mp c7
            refine lv_iconst (v := (nI 2)) hx hb d_Rdr_takeAddress_55 (by decide) ?_
            have hP9 := hP.sub (ws' := [(q3, .inr (4, [.ref q1, .ref q2, .ref q7, .int fp])), (q1, .inr (6, [.ref q5, .int (nI n)])), (q5, .inl (gB g, 2000, .inl f)), (q2, .inr (3, [.ref q6, .int (nI (wn st))])), (q6, .inl (gI g, 600, .inl pw)), (q7, .inr (5, [.ref q1, .ref q8, .ref q9, .ref q10, .int (nI (sn st))])), (q8, .inl (gI g, 40, .inl s1)), (q9, .inl (gI g, 40, .inl s2)), (q10, .inl (gI g, 40, .inl s3))]) [0, 1, 2, 3, 4, 5, 6, 7, 8] rfl
            have hD9 := hD.sub (ws' := [(q3, .inr (4, [.ref q1, .ref q2, .ref q7, .int fp])), (q1, .inr (6, [.ref q5, .int (nI n)])), (q5, .inl (gB g, 2000, .inl f)), (q2, .inr (3, [.ref q6, .int (nI (wn st))])), (q6, .inl (gI g, 600, .inl pw)), (q7, .inr (5, [.ref q1, .ref q8, .ref q9, .ref q10, .int (nI (sn st))])), (q8, .inl (gI g, 40, .inl s1)), (q9, .inl (gI g, 40, .inl s2)), (q10, .inl (gI g, 40, .inl s3))]) [0, 1, 2, 3, 4, 5, 6, 7, 8] (by decide) rfl
            exact W.iret (v := (nI 2)) hx hb hr (fun t ht hW => ⟨⟨_, (st, pw, s1, s2, s3), rfl, ⟨⟨2, by rw [spAddr, cl_f c2, cl_t hnu, if_pos c7], rfl⟩, hPR, hSR⟩, by rw [ht]; exact hP9, by rw [hAe]; exact hD9⟩, hS.F ht⟩) hS.2.2 d_Rdr_takeAddress_56
        · exact absurd (nI_pos' (by omega)) c5
    · have hnu : ¬ nuP tx a z := hnu
      refine lv_istore (lv' := [(4, .int (-1)), (3, .int (sb (syP tx (a) (z)))), (0, .ref q3), (1, .int (nI a)), (2, .int (nI z))]) hx hb d_Rdr_takeAddress_32 hl (by decide) rfl (fun ls hl => ?_)
      refine lv_iload_n hx hb d_Rdr_takeAddress_34 rfl (lv_at hl 1 rfl) ?_
      refine lv_if_ne (tgt := 45) hx hb d_Rdr_takeAddress_35 (by decide) (fun c10 => ?_) (fun c10 => ?_)
      · have c10 := sb_ne0.mp c10
        exact absurd c10 c2
      · have c10 := sb_eq0.mp c10
        refine lv_iload hx hb d_Rdr_takeAddress_38 (lv_at hl 0 rfl) ?_
        refine lv_if_ge (tgt := 45) hx hb d_Rdr_takeAddress_40 (by decide) (fun c11 => ?_) (fun c11 => ?_)
        · exact absurd c11 (by decide)
        · refine lv_iconst (v := (nI 1)) hx hb d_Rdr_takeAddress_43 (by decide) ?_
          have hP9 := hP.sub (ws' := [(q3, .inr (4, [.ref q1, .ref q2, .ref q7, .int fp])), (q1, .inr (6, [.ref q5, .int (nI n)])), (q5, .inl (gB g, 2000, .inl f)), (q2, .inr (3, [.ref q6, .int (nI (wn st))])), (q6, .inl (gI g, 600, .inl pw)), (q7, .inr (5, [.ref q1, .ref q8, .ref q9, .ref q10, .int (nI (sn st))])), (q8, .inl (gI g, 40, .inl s1)), (q9, .inl (gI g, 40, .inl s2)), (q10, .inl (gI g, 40, .inl s3))]) [0, 1, 2, 3, 4, 5, 6, 7, 8] rfl
          have hD9 := hD.sub (ws' := [(q3, .inr (4, [.ref q1, .ref q2, .ref q7, .int fp])), (q1, .inr (6, [.ref q5, .int (nI n)])), (q5, .inl (gB g, 2000, .inl f)), (q2, .inr (3, [.ref q6, .int (nI (wn st))])), (q6, .inl (gI g, 600, .inl pw)), (q7, .inr (5, [.ref q1, .ref q8, .ref q9, .ref q10, .int (nI (sn st))])), (q8, .inl (gI g, 40, .inl s1)), (q9, .inl (gI g, 40, .inl s2)), (q10, .inl (gI g, 40, .inl s3))]) [0, 1, 2, 3, 4, 5, 6, 7, 8] (by decide) rfl
          exact W.iret (v := (nI 1)) hx hb hr (fun t ht hW => ⟨⟨_, (st, pw, s1, s2, s3), rfl, ⟨⟨1, by rw [spAddr, cl_f c2, cl_f hnu], rfl⟩, hPR, hSR⟩, by rw [ht]; exact hP9, by rw [hAe]; exact hD9⟩, hS.F ht⟩) hS.2.2 d_Rdr_takeAddress_44
  · have c2 := sb_ne0.mp c2
    refine lv_aload_n hx hb d_Rdr_takeAddress_14 rfl (lv_at hl 1 rfl) ?_
    refine lv_iload_n hx hb d_Rdr_takeAddress_15 rfl (lv_at hl 2 rfl) ?_
    refine lv_iload_n hx hb d_Rdr_takeAddress_16 rfl (lv_at hl 3 rfl) ?_
    refine sd_ri (va_runV (As := [.int (nI a), .int (nI z)]) (rest := []) ⟨hx, hb, hml, hown, hts⟩ (c_Rdr_knownNumber l g q3 q1 q2 q7 q5 n fp f tx hT (a) (z) (by omega) (by omega)) (cwV 2 hts (sd_gV k_242 k_244 k_3 k_26 k_245) rfl rfl rfl (by decide +kernel) ⟨Nat.le_of_ble_eq_true rfl, Nat.le_of_ble_eq_true rfl⟩) (sd_preV hK hE (sd_fr hS hA0) (hP.sub (ws' := [(q3, .inr (4, [.ref q1, .ref q2, .ref q7, .int fp])), (q1, .inr (6, [.ref q5, .int (nI n)])), (q5, .inl (gB g, 2000, .inl f))]) [0, 1, 2] rfl) rfl rfl) rfl rfl hl.1 rfl (lv_room (Nat.le_of_ble_eq_true rfl)) d_Rdr_takeAddress_17 ⟨Nat.zero_le _, Nat.zero_le _⟩) (fun r12 er12 => ?_)
    subst er12
    have hkn := knK_le (tx := tx) (a := a) (z := z)
    refine lv_goto (tgt := 32) hx hb d_Rdr_takeAddress_20 (by decide) ?_
    refine lv_istore (lv' := [(4, .int (nI (knK tx (a) (z)) - 1)), (3, .int (sb (syP tx (a) (z)))), (0, .ref q3), (1, .int (nI a)), (2, .int (nI z))]) hx hb d_Rdr_takeAddress_32 hl (by decide) rfl (fun ls hl => ?_)
    refine lv_iload_n hx hb d_Rdr_takeAddress_34 rfl (lv_at hl 1 rfl) ?_
    refine lv_if_ne (tgt := 45) hx hb d_Rdr_takeAddress_35 (by decide) (fun c13 => ?_) (fun c13 => ?_)
    · have c13 := sb_ne0.mp c13
      refine lv_aload_n hx hb d_Rdr_takeAddress_45 rfl (lv_at hl 2 rfl) ?_
      refine va_get (D := g.1) (ci := 4) (v := .ref q2) (C := "SignDesk$Reader") (T := F_Rdr) (N := 4) hx hb hts in_Rdr hown hK hP 0 rfl rfl 1 (by decide) (hts _ k_102) (fun _ h9 => h9) rfl d_Rdr_takeAddress_46 ?_
      refine sd_ri (va_runV (As := []) (rest := []) ⟨hx, hb, hml, hown, hts⟩ (c_Prg_isFull l g q2 q6 (wn st) pw hPR.1) (cwV 0 hts (sd_gV k_308 k_309 k_310 k_25 k_311) rfl rfl rfl (by decide +kernel) ⟨Nat.le_of_ble_eq_true rfl, Nat.le_of_ble_eq_true rfl⟩) (sd_preV hK hE (sd_fr hS hA0) (hP.sub (ws' := [(q2, .inr (3, [.ref q6, .int (nI (wn st))])), (q6, .inl (gI g, 600, .inl pw))]) [3, 4] rfl) rfl rfl) rfl rfl hl.1 rfl (lv_room (Nat.le_of_ble_eq_true rfl)) d_Rdr_takeAddress_49 ⟨Nat.zero_le _, Nat.zero_le _⟩) (fun r14 er14 => ?_)
      subst er14
      refine lv_if_eq (tgt := 57) hx hb d_Rdr_takeAddress_52 (by decide) (fun c15 => ?_) (fun c15 => ?_)
      · have c15 := sb_eq0.mp c15
        refine lv_iload hx hb d_Rdr_takeAddress_57 (lv_at hl 0 rfl) ?_
        refine lv_if_ge (tgt := 87) hx hb d_Rdr_takeAddress_59 (by decide) (fun c16 => ?_) (fun c16 => ?_)
        · have hk0 : ¬ knK tx a z = 0 := fun q => absurd c16 (by rw [q]; decide)
          have ek : nI (knK tx a z) - 1 = nI (knK tx a z - 1) := m1_up hk0
          refine lv_aload_n hx hb d_Rdr_takeAddress_87 rfl (lv_at hl 2 rfl) ?_
          refine va_get (D := g.1) (ci := 4) (v := .ref q2) (C := "SignDesk$Reader") (T := F_Rdr) (N := 4) hx hb hts in_Rdr hown hK hP 0 rfl rfl 1 (by decide) (hts _ k_102) (fun _ h9 => h9) rfl d_Rdr_takeAddress_88 ?_
          refine lv_iload hx hb d_Rdr_takeAddress_91 (lv_at hl 0 rfl) ?_
          refine sd_topi (y := nI (knK tx a z - 1)) (ek) ?_
          have hPc := hP.sub (ws' := [(q2, .inr (3, [.ref q6, .int (nI (wn st))])), (q6, .inl (gI g, 600, .inl pw))]) [3, 4] rfl
          have hDc := hD.sub (ws' := [(q2, .inr (3, [.ref q6, .int (nI (wn st))])), (q6, .inl (gI g, 600, .inl pw))]) [3, 4] (by decide) rfl
          have hFc := va_free (wc := [(q2, .inr (3, [.ref q6, .int (nI (wn st))])), (q6, .inl (gI g, 600, .inl pw))]) hD hS hA [3, 4] rfl
          refine sd_cv (va_runV (As := [.int (nI (knK tx a z - 1))]) (rest := []) ⟨hx, hb, hml, hown, hts⟩ (c_Prg_add l g q2 q6 (wn st) pw hPR.1 (nI (knK tx a z - 1)) (by omega) s.heap.size) (cwV 1 hts (sd_gV k_321 k_322 k_323 k_25 k_324) rfl rfl rfl (by decide +kernel) ⟨Nat.le_of_ble_eq_true rfl, Nat.le_of_ble_eq_true rfl⟩) (sd_preVU hK hE hS hA0 hs0 hPc hDc rfl rfl) rfl rfl hl.1 rfl (lv_room (Nat.le_of_ble_eq_true rfl)) d_Rdr_takeAddress_93 ⟨Nat.zero_le _, Nat.zero_le _⟩) hS hFc (fun u H1 locs hw hP1 hD1 hk1 hS => ?_)
          obtain ⟨hP, hD⟩ := va_join (wr := [(q3, .inr (4, [.ref q1, .ref q2, .ref q7, .int fp])), (q1, .inr (6, [.ref q5, .int (nI n)])), (q5, .inl (gB g, 2000, .inl f)), (q7, .inr (5, [.ref q1, .ref q8, .ref q9, .ref q10, .int (nI (sn st))])), (q8, .inl (gI g, 40, .inl s1)), (q9, .inl (gI g, 40, .inl s2)), (q10, .inl (gI g, 40, .inl s3))]) (w1 := [(q2, .inr (3, [.ref q6, .int (nI (wn st + 1))])), (q6, .inl (gI g, 600, .inl (upd pw (wn st) (nI (knK tx a z - 1)))))]) hP hD [3, 4] [0, 1, 2, 5, 6, 7, 8] rfl rfl (by decide) (by decide) hk1 hFc hP1 hD1
          clear hPc hDc hFc hk1 hP1 hD1
          generalize H1 = H at hP hS ⊢
          have hP : sdP g [(q3, .inr (4, [.ref q1, .ref q2, .ref q7, .int fp])), (q1, .inr (6, [.ref q5, .int (nI n)])), (q5, .inl (gB g, 2000, .inl f)), (q7, .inr (5, [.ref q1, .ref q8, .ref q9, .ref q10, .int (nI (sn st))])), (q8, .inl (gI g, 40, .inl s1)), (q9, .inl (gI g, 40, .inl s2)), (q10, .inl (gI g, 40, .inl s3)), (q2, .inr (3, [.ref q6, .int (nI (wn st + 1))])), (q6, .inl (gI g, 600, .inl (upd pw (wn st) (nI (knK tx a z - 1)))))] H := hP
          have hD : va_D A [(q3, .inr (4, [.ref q1, .ref q2, .ref q7, .int fp])), (q1, .inr (6, [.ref q5, .int (nI n)])), (q5, .inl (gB g, 2000, .inl f)), (q7, .inr (5, [.ref q1, .ref q8, .ref q9, .ref q10, .int (nI (sn st))])), (q8, .inl (gI g, 40, .inl s1)), (q9, .inl (gI g, 40, .inl s2)), (q10, .inl (gI g, 40, .inl s3)), (q2, .inr (3, [.ref q6, .int (nI (wn st + 1))])), (q6, .inl (gI g, 600, .inl (upd pw (wn st) (nI (knK tx a z - 1)))))] := hD
          refine lv_iconst (v := (nI 0)) hx hb d_Rdr_takeAddress_96 (by decide) ?_
          have hP9 := hP.sub (ws' := [(q3, .inr (4, [.ref q1, .ref q2, .ref q7, .int fp])), (q1, .inr (6, [.ref q5, .int (nI n)])), (q5, .inl (gB g, 2000, .inl f)), (q2, .inr (3, [.ref q6, .int (nI (wn st + 1))])), (q6, .inl (gI g, 600, .inl (upd pw (wn st) (nI (knK tx a z - 1))))), (q7, .inr (5, [.ref q1, .ref q8, .ref q9, .ref q10, .int (nI (sn st))])), (q8, .inl (gI g, 40, .inl s1)), (q9, .inl (gI g, 40, .inl s2)), (q10, .inl (gI g, 40, .inl s3))]) [0, 1, 2, 7, 8, 3, 4, 5, 6] rfl
          have hD9 := hD.sub (ws' := [(q3, .inr (4, [.ref q1, .ref q2, .ref q7, .int fp])), (q1, .inr (6, [.ref q5, .int (nI n)])), (q5, .inl (gB g, 2000, .inl f)), (q2, .inr (3, [.ref q6, .int (nI (wn st + 1))])), (q6, .inl (gI g, 600, .inl (upd pw (wn st) (nI (knK tx a z - 1))))), (q7, .inr (5, [.ref q1, .ref q8, .ref q9, .ref q10, .int (nI (sn st))])), (q8, .inl (gI g, 40, .inl s1)), (q9, .inl (gI g, 40, .inl s2)), (q10, .inl (gI g, 40, .inl s3))]) [0, 1, 2, 7, 8, 3, 4, 5, 6] (by decide) rfl
          exact W.iret (v := (nI 0)) hx hb hr (fun t ht hW => ⟨⟨_, (pushW st (knK tx a z - 1) 0, upd pw (wn st) (nI (knK tx a z - 1)), s1, s2, s3), rfl, ⟨⟨0, by rw [spAddr, cl_t c2, if_neg c15, if_neg hk0], rfl⟩, PR_push (y := 0) hPR (by omega), hSR⟩, by rw [ht]; exact hP9, by rw [hAe]; exact hD9⟩, hS.F ht⟩) hS.2.2 d_Rdr_takeAddress_97
        · have hk0 : knK tx a z = 0 := (m1_lt (by omega)).mp (Int32.not_le.mp c16)
          refine lv_aload_n hx hb d_Rdr_takeAddress_62 rfl (lv_at hl 2 rfl) ?_
          refine va_get (D := g.1) (ci := 4) (v := .ref q7) (C := "SignDesk$Reader") (T := F_Rdr) (N := 4) hx hb hts in_Rdr hown hK hP 0 rfl rfl 2 (by decide) (hts _ k_103) (fun _ h9 => h9) rfl d_Rdr_takeAddress_63 ?_
          refine lv_iload_n hx hb d_Rdr_takeAddress_66 rfl (lv_at hl 3 rfl) ?_
          refine lv_iload_n hx hb d_Rdr_takeAddress_67 rfl (lv_at hl 4 rfl) ?_
          have hPc := hP.sub (ws' := [(q7, .inr (5, [.ref q1, .ref q8, .ref q9, .ref q10, .int (nI (sn st))])), (q8, .inl (gI g, 40, .inl s1)), (q9, .inl (gI g, 40, .inl s2)), (q10, .inl (gI g, 40, .inl s3)), (q1, .inr (6, [.ref q5, .int (nI n)])), (q5, .inl (gB g, 2000, .inl f))]) [5, 6, 7, 8, 1, 2] rfl
          have hDc := hD.sub (ws' := [(q7, .inr (5, [.ref q1, .ref q8, .ref q9, .ref q10, .int (nI (sn st))])), (q8, .inl (gI g, 40, .inl s1)), (q9, .inl (gI g, 40, .inl s2)), (q10, .inl (gI g, 40, .inl s3)), (q1, .inr (6, [.ref q5, .int (nI n)])), (q5, .inl (gB g, 2000, .inl f))]) [5, 6, 7, 8, 1, 2] (by decide) rfl
          have hFc := va_free (wc := [(q7, .inr (5, [.ref q1, .ref q8, .ref q9, .ref q10, .int (nI (sn st))])), (q8, .inl (gI g, 40, .inl s1)), (q9, .inl (gI g, 40, .inl s2)), (q10, .inl (gI g, 40, .inl s3)), (q1, .inr (6, [.ref q5, .int (nI n)])), (q5, .inl (gB g, 2000, .inl f))]) hD hS hA [5, 6, 7, 8, 1, 2] rfl
          refine sd_ci (va_runV (As := [.int (nI a), .int (nI z)]) (rest := []) ⟨hx, hb, hml, hown, hts⟩ (c_Sym_symbolOf l g q7 q1 q8 q9 q10 q5 n f tx hT st s1 s2 s3 hSR (a) (z) (by omega) (by omega) s.heap.size) (cwV 2 hts (sd_gV k_312 k_313 k_314 k_27 k_315) rfl rfl rfl (by decide +kernel) ⟨Nat.le_of_ble_eq_true rfl, Nat.le_of_ble_eq_true rfl⟩) (sd_preVU hK hE hS hA0 hs0 hPc hDc rfl rfl) rfl rfl hl.1 rfl (lv_room (Nat.le_of_ble_eq_true rfl)) d_Rdr_takeAddress_68 ⟨Nat.zero_le _, Nat.zero_le _⟩) hS hFc (fun r18 u H1 locs hw hP1 hD1 hk1 hS => ?_)
          obtain ⟨st1, t1, t2, t3⟩ := u
          obtain ⟨hP, hD⟩ := va_join (wr := [(q3, .inr (4, [.ref q1, .ref q2, .ref q7, .int fp])), (q2, .inr (3, [.ref q6, .int (nI (wn st))])), (q6, .inl (gI g, 600, .inl pw))]) (w1 := [(q7, .inr (5, [.ref q1, .ref q8, .ref q9, .ref q10, .int (nI (sn st1))])), (q8, .inl (gI g, 40, .inl t1)), (q9, .inl (gI g, 40, .inl t2)), (q10, .inl (gI g, 40, .inl t3)), (q1, .inr (6, [.ref q5, .int (nI n)])), (q5, .inl (gB g, 2000, .inl f))]) hP hD [5, 6, 7, 8, 1, 2] [0, 3, 4] rfl rfl (by decide) (by decide) hk1 hFc hP1 hD1
          clear hPc hDc hFc hk1 hP1 hD1
          generalize H1 = H at hP hS ⊢
          have hP : sdP g [(q3, .inr (4, [.ref q1, .ref q2, .ref q7, .int fp])), (q2, .inr (3, [.ref q6, .int (nI (wn st))])), (q6, .inl (gI g, 600, .inl pw)), (q7, .inr (5, [.ref q1, .ref q8, .ref q9, .ref q10, .int (nI (sn st1))])), (q8, .inl (gI g, 40, .inl t1)), (q9, .inl (gI g, 40, .inl t2)), (q10, .inl (gI g, 40, .inl t3)), (q1, .inr (6, [.ref q5, .int (nI n)])), (q5, .inl (gB g, 2000, .inl f))] H := hP
          have hD : va_D A [(q3, .inr (4, [.ref q1, .ref q2, .ref q7, .int fp])), (q2, .inr (3, [.ref q6, .int (nI (wn st))])), (q6, .inl (gI g, 600, .inl pw)), (q7, .inr (5, [.ref q1, .ref q8, .ref q9, .ref q10, .int (nI (sn st1))])), (q8, .inl (gI g, 40, .inl t1)), (q9, .inl (gI g, 40, .inl t2)), (q10, .inl (gI g, 40, .inl t3)), (q1, .inr (6, [.ref q5, .int (nI n)])), (q5, .inl (gB g, 2000, .inl f))] := hD
          obtain ⟨⟨cs, hsy, er18⟩, hSR1⟩ := hw
          have hsy : syO tx st (a) (z - (a)) = (cs, st1) := hsy
          have hSR1 : SR st1 t1 t2 t3 := hSR1
          have hst1 : st1.1 = st.1 := by have h := syO_fst (tx := tx) (st := st) (a := a) (n := z - (a)); rw [hsy] at h; exact h
          have hcs := syO_le (tx := tx) (a := a) (n := z - (a)) h40
          rw [hsy] at hcs
          have hcs1 : cs ≤ sn st1 := hcs.1
          have hcs2 : sn st1 ≤ 40 := hcs.2
          subst er18
          have hwn1 : wn st1 = wn st := by show st1.1.1 = st.1.1; rw [hst1]
          have hP : sdP g [(q3, .inr (4, [.ref q1, .ref q2, .ref q7, .int fp])), (q2, .inr (3, [.ref q6, .int (nI (wn st1))])), (q6, .inl (gI g, 600, .inl pw)), (q7, .inr (5, [.ref q1, .ref q8, .ref q9, .ref q10, .int (nI (sn st1))])), (q8, .inl (gI g, 40, .inl t1)), (q9, .inl (gI g, 40, .inl t2)), (q10, .inl (gI g, 40, .inl t3)), (q1, .inr (6, [.ref q5, .int (nI n)])), (q5, .inl (gB g, 2000, .inl f))] H := by rw [hwn1]; exact hP
          have hD : va_D A [(q3, .inr (4, [.ref q1, .ref q2, .ref q7, .int fp])), (q2, .inr (3, [.ref q6, .int (nI (wn st1))])), (q6, .inl (gI g, 600, .inl pw)), (q7, .inr (5, [.ref q1, .ref q8, .ref q9, .ref q10, .int (nI (sn st1))])), (q8, .inl (gI g, 40, .inl t1)), (q9, .inl (gI g, 40, .inl t2)), (q10, .inl (gI g, 40, .inl t3)), (q1, .inr (6, [.ref q5, .int (nI n)])), (q5, .inl (gB g, 2000, .inl f))] := by rw [hwn1]; exact hD
          refine lv_istore (lv' := [(5, .int (nI cs - 1)), (4, .int (nI (knK tx (a) (z)) - 1)), (3, .int (sb (syP tx (a) (z)))), (0, .ref q3), (1, .int (nI a)), (2, .int (nI z))]) hx hb d_Rdr_takeAddress_71 hl (by decide) rfl (fun ls hl => ?_)
          refine lv_iload hx hb d_Rdr_takeAddress_73 (lv_at hl 0 rfl) ?_
          refine lv_if_ge (tgt := 80) hx hb d_Rdr_takeAddress_75 (by decide) (fun c19 => ?_) (fun c19 => ?_)
          · have hc0 : ¬ cs = 0 := fun q => absurd c19 (by rw [q]; decide)
            refine lv_ldc (v := nI 65536) hx hb hown (hts _ k_320) d_Rdr_takeAddress_80 ?_
            refine lv_iload hx hb d_Rdr_takeAddress_82 (lv_at hl 0 rfl) ?_
            refine lv_iadd hx hb d_Rdr_takeAddress_84 ?_
            refine sd_topi (y := nI (encW 0 cs)) (by rw [m1_up hc0, nI_add, encW, if_neg hc0]; congr 1; omega) ?_
            refine lv_istore (lv' := [(4, .int (nI (encW 0 cs))), (5, .int (nI cs - 1)), (3, .int (sb (syP tx (a) (z)))), (0, .ref q3), (1, .int (nI a)), (2, .int (nI z))]) hx hb d_Rdr_takeAddress_85 hl (by decide) rfl (fun ls hl => ?_)
            refine lv_aload_n hx hb d_Rdr_takeAddress_87 rfl (lv_at hl 3 rfl) ?_
            refine va_get (D := g.1) (ci := 4) (v := .ref q2) (C := "SignDesk$Reader") (T := F_Rdr) (N := 4) hx hb hts in_Rdr hown hK hP 0 rfl rfl 1 (by decide) (hts _ k_102) (fun _ h9 => h9) rfl d_Rdr_takeAddress_88 ?_
            refine lv_iload hx hb d_Rdr_takeAddress_91 (lv_at hl 0 rfl) ?_
            have hPc := hP.sub (ws' := [(q2, .inr (3, [.ref q6, .int (nI (wn st1))])), (q6, .inl (gI g, 600, .inl pw))]) [1, 2] rfl
            have hDc := hD.sub (ws' := [(q2, .inr (3, [.ref q6, .int (nI (wn st1))])), (q6, .inl (gI g, 600, .inl pw))]) [1, 2] (by decide) rfl
            have hFc := va_free (wc := [(q2, .inr (3, [.ref q6, .int (nI (wn st1))])), (q6, .inl (gI g, 600, .inl pw))]) hD hS hA [1, 2] rfl
            refine sd_cv (va_runV (As := [.int (nI (encW 0 cs))]) (rest := []) ⟨hx, hb, hml, hown, hts⟩ (c_Prg_add l g q2 q6 (wn st1) pw (by rw [hwn1]; exact hPR.1) (nI (encW 0 cs)) (by rw [hwn1]; omega) H.size) (cwV 1 hts (sd_gV k_321 k_322 k_323 k_25 k_324) rfl rfl rfl (by decide +kernel) ⟨Nat.le_of_ble_eq_true rfl, Nat.le_of_ble_eq_true rfl⟩) (sd_preVU hK hE hS hA0 hs0 hPc hDc rfl rfl) rfl rfl hl.1 rfl (lv_room (Nat.le_of_ble_eq_true rfl)) d_Rdr_takeAddress_93 ⟨Nat.zero_le _, Nat.zero_le _⟩) hS hFc (fun u H1 locs hw hP1 hD1 hk1 hS => ?_)
            obtain ⟨hP, hD⟩ := va_join (wr := [(q3, .inr (4, [.ref q1, .ref q2, .ref q7, .int fp])), (q7, .inr (5, [.ref q1, .ref q8, .ref q9, .ref q10, .int (nI (sn st1))])), (q8, .inl (gI g, 40, .inl t1)), (q9, .inl (gI g, 40, .inl t2)), (q10, .inl (gI g, 40, .inl t3)), (q1, .inr (6, [.ref q5, .int (nI n)])), (q5, .inl (gB g, 2000, .inl f))]) (w1 := [(q2, .inr (3, [.ref q6, .int (nI (wn st1 + 1))])), (q6, .inl (gI g, 600, .inl (upd pw (wn st1) (nI (encW 0 cs)))))]) hP hD [1, 2] [0, 3, 4, 5, 6, 7, 8] rfl rfl (by decide) (by decide) hk1 hFc hP1 hD1
            clear hPc hDc hFc hk1 hP1 hD1
            generalize H1 = H at hP hS ⊢
            have hP : sdP g [(q3, .inr (4, [.ref q1, .ref q2, .ref q7, .int fp])), (q7, .inr (5, [.ref q1, .ref q8, .ref q9, .ref q10, .int (nI (sn st1))])), (q8, .inl (gI g, 40, .inl t1)), (q9, .inl (gI g, 40, .inl t2)), (q10, .inl (gI g, 40, .inl t3)), (q1, .inr (6, [.ref q5, .int (nI n)])), (q5, .inl (gB g, 2000, .inl f)), (q2, .inr (3, [.ref q6, .int (nI (wn st1 + 1))])), (q6, .inl (gI g, 600, .inl (upd pw (wn st1) (nI (encW 0 cs)))))] H := hP
            have hD : va_D A [(q3, .inr (4, [.ref q1, .ref q2, .ref q7, .int fp])), (q7, .inr (5, [.ref q1, .ref q8, .ref q9, .ref q10, .int (nI (sn st1))])), (q8, .inl (gI g, 40, .inl t1)), (q9, .inl (gI g, 40, .inl t2)), (q10, .inl (gI g, 40, .inl t3)), (q1, .inr (6, [.ref q5, .int (nI n)])), (q5, .inl (gB g, 2000, .inl f)), (q2, .inr (3, [.ref q6, .int (nI (wn st1 + 1))])), (q6, .inl (gI g, 600, .inl (upd pw (wn st1) (nI (encW 0 cs)))))] := hD
            refine lv_iconst (v := (nI 0)) hx hb d_Rdr_takeAddress_96 (by decide) ?_
            have hP9 := hP.sub (ws' := [(q3, .inr (4, [.ref q1, .ref q2, .ref q7, .int fp])), (q1, .inr (6, [.ref q5, .int (nI n)])), (q5, .inl (gB g, 2000, .inl f)), (q2, .inr (3, [.ref q6, .int (nI (wn st1 + 1))])), (q6, .inl (gI g, 600, .inl (upd pw (wn st1) (nI (encW 0 cs))))), (q7, .inr (5, [.ref q1, .ref q8, .ref q9, .ref q10, .int (nI (sn st1))])), (q8, .inl (gI g, 40, .inl t1)), (q9, .inl (gI g, 40, .inl t2)), (q10, .inl (gI g, 40, .inl t3))]) [0, 5, 6, 7, 8, 1, 2, 3, 4] rfl
            have hD9 := hD.sub (ws' := [(q3, .inr (4, [.ref q1, .ref q2, .ref q7, .int fp])), (q1, .inr (6, [.ref q5, .int (nI n)])), (q5, .inl (gB g, 2000, .inl f)), (q2, .inr (3, [.ref q6, .int (nI (wn st1 + 1))])), (q6, .inl (gI g, 600, .inl (upd pw (wn st1) (nI (encW 0 cs))))), (q7, .inr (5, [.ref q1, .ref q8, .ref q9, .ref q10, .int (nI (sn st1))])), (q8, .inl (gI g, 40, .inl t1)), (q9, .inl (gI g, 40, .inl t2)), (q10, .inl (gI g, 40, .inl t3))]) [0, 5, 6, 7, 8, 1, 2, 3, 4] (by decide) rfl
            exact W.iret (v := (nI 0)) hx hb hr (fun t ht hW => ⟨⟨_, (pushW st1 0 cs, upd pw (wn st1) (nI (encW 0 cs)), t1, t2, t3), rfl, ⟨⟨0, by rw [spAddr, cl_t c2, if_neg c15, if_pos hk0, hsy, if_neg hc0], rfl⟩, PR_push (PR_of hPR hst1) (by rw [hwn1]; omega), hSR1⟩, by rw [ht]; exact hP9, by rw [hAe]; exact hD9⟩, hS.F ht⟩) hS.2.2 d_Rdr_takeAddress_97
          · have hc0 : cs = 0 := (m1_lt (by omega)).mp (Int32.not_le.mp c19)
            refine lv_iconst (v := (nI 2)) hx hb d_Rdr_takeAddress_78 (by decide) ?_
            have hP9 := hP.sub (ws' := [(q3, .inr (4, [.ref q1, .ref q2, .ref q7, .int fp])), (q1, .inr (6, [.ref q5, .int (nI n)])), (q5, .inl (gB g, 2000, .inl f)), (q2, .inr (3, [.ref q6, .int (nI (wn st1))])), (q6, .inl (gI g, 600, .inl pw)), (q7, .inr (5, [.ref q1, .ref q8, .ref q9, .ref q10, .int (nI (sn st1))])), (q8, .inl (gI g, 40, .inl t1)), (q9, .inl (gI g, 40, .inl t2)), (q10, .inl (gI g, 40, .inl t3))]) [0, 7, 8, 1, 2, 3, 4, 5, 6] rfl
            have hD9 := hD.sub (ws' := [(q3, .inr (4, [.ref q1, .ref q2, .ref q7, .int fp])), (q1, .inr (6, [.ref q5, .int (nI n)])), (q5, .inl (gB g, 2000, .inl f)), (q2, .inr (3, [.ref q6, .int (nI (wn st1))])), (q6, .inl (gI g, 600, .inl pw)), (q7, .inr (5, [.ref q1, .ref q8, .ref q9, .ref q10, .int (nI (sn st1))])), (q8, .inl (gI g, 40, .inl t1)), (q9, .inl (gI g, 40, .inl t2)), (q10, .inl (gI g, 40, .inl t3))]) [0, 7, 8, 1, 2, 3, 4, 5, 6] (by decide) rfl
            exact W.iret (v := (nI 2)) hx hb hr (fun t ht hW => ⟨⟨_, (st1, pw, t1, t2, t3), rfl, ⟨⟨2, by rw [spAddr, cl_t c2, if_neg c15, if_pos hk0, hsy, if_pos hc0], rfl⟩, PR_of hPR hst1, hSR1⟩, by rw [ht]; exact hP9, by rw [hAe]; exact hD9⟩, hS.F ht⟩) hS.2.2 d_Rdr_takeAddress_79
      · have c15 := sb_ne0.mp c15
        refine lv_iconst (v := (nI 2)) hx hb d_Rdr_takeAddress_55 (by decide) ?_
        have hP9 := hP.sub (ws' := [(q3, .inr (4, [.ref q1, .ref q2, .ref q7, .int fp])), (q1, .inr (6, [.ref q5, .int (nI n)])), (q5, .inl (gB g, 2000, .inl f)), (q2, .inr (3, [.ref q6, .int (nI (wn st))])), (q6, .inl (gI g, 600, .inl pw)), (q7, .inr (5, [.ref q1, .ref q8, .ref q9, .ref q10, .int (nI (sn st))])), (q8, .inl (gI g, 40, .inl s1)), (q9, .inl (gI g, 40, .inl s2)), (q10, .inl (gI g, 40, .inl s3))]) [0, 1, 2, 3, 4, 5, 6, 7, 8] rfl
        have hD9 := hD.sub (ws' := [(q3, .inr (4, [.ref q1, .ref q2, .ref q7, .int fp])), (q1, .inr (6, [.ref q5, .int (nI n)])), (q5, .inl (gB g, 2000, .inl f)), (q2, .inr (3, [.ref q6, .int (nI (wn st))])), (q6, .inl (gI g, 600, .inl pw)), (q7, .inr (5, [.ref q1, .ref q8, .ref q9, .ref q10, .int (nI (sn st))])), (q8, .inl (gI g, 40, .inl s1)), (q9, .inl (gI g, 40, .inl s2)), (q10, .inl (gI g, 40, .inl s3))]) [0, 1, 2, 3, 4, 5, 6, 7, 8] (by decide) rfl
        exact W.iret (v := (nI 2)) hx hb hr (fun t ht hW => ⟨⟨_, (st, pw, s1, s2, s3), rfl, ⟨⟨2, by rw [spAddr, cl_t c2, if_pos c15], rfl⟩, hPR, hSR⟩, by rw [ht]; exact hP9, by rw [hAe]; exact hD9⟩, hS.F ht⟩) hS.2.2 d_Rdr_takeAddress_56
    · have c13 := sb_eq0.mp c13
      exact absurd c2 c13
set_option maxHeartbeats 4000000 in
set_option maxRecDepth 100000 in
/-- takeLabel -/
theorem c_Rdr_takeLabel (l : Launch) (g : sdG) (q3 q1 q2 q7 q5 q6 q8 q9 q10 n : Nat) (fp : Int32) (f : Nat → Int32) (tx : Nat → Nat) (hT : TXok n f tx) (st : AS) (pw s1 s2 s3 : Nat → Int32) (hPR : PR st pw) (hSR : SR st s1 s2 s3) (a z : Nat) (ha : a ≤ 2000) (hz : z ≤ 2000) (sz : Nat) : Met l y_Rdr_takeLabel (.code y_Rdr_takeLabel b_Rdr_takeLabel 4 (some .int) :: sdT) ({ frames := 6, cells := 0, slots := 0, locals := 134 }) (va_Pc [.ref q3, .int (nI a), .int (nI z)] (sdU g [(q3, .inr (4, [.ref q1, .ref q2, .ref q7, .int fp])), (q1, .inr (6, [.ref q5, .int (nI n)])), (q5, .inl (gB g, 2000, .inl f)), (q2, .inr (3, [.ref q6, .int (nI (wn st))])), (q6, .inl (gI g, 600, .inl pw)), (q7, .inr (5, [.ref q1, .ref q8, .ref q9, .ref q10, .int (nI (sn st))])), (q8, .inl (gI g, 40, .inl s1)), (q9, .inl (gI g, 40, .inl s2)), (q10, .inl (gI g, 40, .inl s3))] sz)) (va_Qi (S := AS × (Nat → Int32) × (Nat → Int32) × (Nat → Int32) × (Nat → Int32)) (fun r u => (∃ c, spLabel tx a z st = (c, u.1) ∧ r = nI c) ∧ PR u.1 u.2.1 ∧ SR u.1 u.2.2.1 u.2.2.2.1 u.2.2.2.2) (fun u t => sdB g [(q3, .inr (4, [.ref q1, .ref q2, .ref q7, .int fp])), (q1, .inr (6, [.ref q5, .int (nI n)])), (q5, .inl (gB g, 2000, .inl f)), (q2, .inr (3, [.ref q6, .int (nI (wn st))])), (q6, .inl (gI g, 600, .inl pw)), (q7, .inr (5, [.ref q1, .ref q8, .ref q9, .ref q10, .int (nI (sn st))])), (q8, .inl (gI g, 40, .inl s1)), (q9, .inl (gI g, 40, .inl s2)), (q10, .inl (gI g, 40, .inl s3))] sz ((fun u => [(q3, .inr (4, [.ref q1, .ref q2, .ref q7, .int fp])), (q1, .inr (6, [.ref q5, .int (nI n)])), (q5, .inl (gB g, 2000, .inl f)), (q2, .inr (3, [.ref q6, .int (nI (wn u.1))])), (q6, .inl (gI g, 600, .inl u.2.1)), (q7, .inr (5, [.ref q1, .ref q8, .ref q9, .ref q10, .int (nI (sn u.1))])), (q8, .inl (gI g, 40, .inl u.2.2.1)), (q9, .inl (gI g, 40, .inl u.2.2.2.1)), (q10, .inl (gI g, 40, .inl u.2.2.2.2))] : AS × (Nat → Int32) × (Nat → Int32) × (Nat → Int32) × (Nat → Int32) → va_W) u) t) (va_A [(q3, .inr (4, [.ref q1, .ref q2, .ref q7, .int fp])), (q1, .inr (6, [.ref q5, .int (nI n)])), (q5, .inl (gB g, 2000, .inl f)), (q2, .inr (3, [.ref q6, .int (nI (wn st))])), (q6, .inl (gI g, 600, .inl pw)), (q7, .inr (5, [.ref q1, .ref q8, .ref q9, .ref q10, .int (nI (sn st))])), (q8, .inl (gI g, 40, .inl s1)), (q9, .inl (gI g, 40, .inl s2)), (q10, .inl (gI g, 40, .inl s3))] sz)) 0 0 (va_A [(q3, .inr (4, [.ref q1, .ref q2, .ref q7, .int fp])), (q1, .inr (6, [.ref q5, .int (nI n)])), (q5, .inl (gB g, 2000, .inl f)), (q2, .inr (3, [.ref q6, .int (nI (wn st))])), (q6, .inl (gI g, 600, .inl pw)), (q7, .inr (5, [.ref q1, .ref q8, .ref q9, .ref q10, .int (nI (sn st))])), (q8, .inl (gI g, 40, .inl s1)), (q9, .inl (gI g, 40, .inl s2)), (q10, .inl (gI g, 40, .inl s3))] sz) := by
  refine Met.ofW (cc := b_Rdr_takeLabel) (maxL := 4) (ret := (some .int)) (by decide) rfl ?_
  intro p ev s m args below meth c s₁ B hml hv
  obtain ⟨rfl, hsz, hP, hK, hE, hD0, hs0⟩ := hv
  have hx := B.exec
  have hb := B.bytes
  have hr := B.returns
  have hts := fun (w : Cond) (h : w ∈ sdT) => atoms_spec (ws := (.code y_Rdr_takeLabel b_Rdr_takeLabel 4 (some .int) :: sdT)) B.pre w (List.mem_cons_of_mem _ h)
  have hown : s.vm.findClass "SignDesk$Reader" = some m.cls := findClass_of_methodNamed B.named
  have hlocks := B.notSynchronized
  subst hsz
  have hD := hD0.self (sz := s.heap.size)
  have hA0 : ∀ q : Nat, va_A [(q3, .inr (4, [.ref q1, .ref q2, .ref q7, .int fp])), (q1, .inr (6, [.ref q5, .int (nI n)])), (q5, .inl (gB g, 2000, .inl f)), (q2, .inr (3, [.ref q6, .int (nI (wn st))])), (q6, .inl (gI g, 600, .inl pw)), (q7, .inr (5, [.ref q1, .ref q8, .ref q9, .ref q10, .int (nI (sn st))])), (q8, .inl (gI g, 40, .inl s1)), (q9, .inl (gI g, 40, .inl s2)), (q10, .inl (gI g, 40, .inl s3))] s.heap.size q → gS g ≤ q := fun q h => h.elim (fun ⟨k, e, hk⟩ => hD0.2 k _ hk) (fun h => Nat.le_trans hs0 h)
  have hA : ∀ q : Nat, s.heap.size ≤ q → va_A [(q3, .inr (4, [.ref q1, .ref q2, .ref q7, .int fp])), (q1, .inr (6, [.ref q5, .int (nI n)])), (q5, .inl (gB g, 2000, .inl f)), (q2, .inr (3, [.ref q6, .int (nI (wn st))])), (q6, .inl (gI g, 600, .inl pw)), (q7, .inr (5, [.ref q1, .ref q8, .ref q9, .ref q10, .int (nI (sn st))])), (q8, .inl (gI g, 40, .inl s1)), (q9, .inl (gI g, 40, .inl s2)), (q10, .inl (gI g, 40, .inl s3))] s.heap.size q := fun q h => Or.inr h
  generalize hAe : va_A [(q3, .inr (4, [.ref q1, .ref q2, .ref q7, .int fp])), (q1, .inr (6, [.ref q5, .int (nI n)])), (q5, .inl (gB g, 2000, .inl f)), (q2, .inr (3, [.ref q6, .int (nI (wn st))])), (q6, .inl (gI g, 600, .inl pw)), (q7, .inr (5, [.ref q1, .ref q8, .ref q9, .ref q10, .int (nI (sn st))])), (q8, .inl (gI g, 40, .inl s1)), (q9, .inl (gI g, 40, .inl s2)), (q10, .inl (gI g, 40, .inl s3))] s.heap.size = A at hD hA0 hA ⊢
  have hS : va_S A s.heap s.heap [] := va_S.rf
  have hP : sdP g [(q3, .inr (4, [.ref q1, .ref q2, .ref q7, .int fp])), (q1, .inr (6, [.ref q5, .int (nI n)])), (q5, .inl (gB g, 2000, .inl f)), (q2, .inr (3, [.ref q6, .int (nI (wn st))])), (q6, .inl (gI g, 600, .inl pw)), (q7, .inr (5, [.ref q1, .ref q8, .ref q9, .ref q10, .int (nI (sn st))])), (q8, .inl (gI g, 40, .inl s1)), (q9, .inl (gI g, 40, .inl s2)), (q10, .inl (gI g, 40, .inl s3))] s.heap := hP
  have hl := lv_entry ([.ref q3, .int (nI a), .int (nI z)]) (n := 4) (Nat.le_of_ble_eq_true rfl)
  rw [lg_entry_eq]
  generalize (lg_sl ([.ref q3, .int (nI a), .int (nI z)]) ++ List.replicate (4 - (lg_sl ([.ref q3, .int (nI a), .int (nI z)])).length) Slot.unset).toArray = ls at hl ⊢
  have hl : lv_has ls 4 [(0, .ref q3), (1, .int (nI a)), (2, .int (nI z))] := hl
  have hn := hT.1
  have hb8 := hT.2.1
  have h40 := hSR.1
  have h600 := hPR.1
  refine lv_aload_n hx hb d_Rdr_takeLabel_0 rfl (lv_at hl 0 rfl) ?_
  refine va_get (D := g.1) (ci := 4) (v := .ref q1) (C := "SignDesk$Reader") (T := F_Rdr) (N := 4) hx hb hts in_Rdr hown hK hP 0 rfl rfl 0 (by decide) (hts _ k_101) (fun _ h9 => h9) rfl d_Rdr_takeLabel_1 ?_
  refine lv_iload_n hx hb d_Rdr_takeLabel_4 rfl (lv_at hl 1 rfl) ?_
  refine lv_iload_n hx hb d_Rdr_takeLabel_5 rfl (lv_at hl 2 rfl) ?_
  refine sd_ri (va_runV (As := [.int (nI a), .int (nI z)]) (rest := []) ⟨hx, hb, hml, hown, hts⟩ (c_Txt_isSymbol l g q1 q5 n f tx hT (a) (z) (by omega) (by omega)) (cwV 2 hts (sd_gV k_232 k_233 k_234 k_24 k_235) rfl rfl rfl (by decide +kernel) ⟨Nat.le_of_ble_eq_true rfl, Nat.le_of_ble_eq_true rfl⟩) (sd_preV hK hE (sd_fr hS hA0) (hP.sub (ws' := [(q1, .inr (6, [.ref q5, .int (nI n)])), (q5, .inl (gB g, 2000, .inl f))]) [1, 2] rfl) rfl rfl) rfl rfl hl.1 rfl (lv_room (Nat.le_of_ble_eq_true rfl)) d_Rdr_takeLabel_6 ⟨Nat.zero_le _, Nat.zero_le _⟩) (fun r1 er1 => ?_)
  subst er1
  refine lv_if_eq (tgt := 25) hx hb d_Rdr_takeLabel_9 (by decide) (fun c2 => ?_) (fun c2 => ?_)
  · have c2 := sb_eq0.mp c2
    refine lv_iconst (v := (nI 1)) hx hb d_Rdr_takeLabel_25 (by decide) ?_
    have hP9 := hP.sub (ws' := [(q3, .inr (4, [.ref q1, .ref q2, .ref q7, .int fp])), (q1, .inr (6, [.ref q5, .int (nI n)])), (q5, .inl (gB g, 2000, .inl f)), (q2, .inr (3, [.ref q6, .int (nI (wn st))])), (q6, .inl (gI g, 600, .inl pw)), (q7, .inr (5, [.ref q1, .ref q8, .ref q9, .ref q10, .int (nI (sn st))])), (q8, .inl (gI g, 40, .inl s1)), (q9, .inl (gI g, 40, .inl s2)), (q10, .inl (gI g, 40, .inl s3))]) [0, 1, 2, 3, 4, 5, 6, 7, 8] rfl
    have hD9 := hD.sub (ws' := [(q3, .inr (4, [.ref q1, .ref q2, .ref q7, .int fp])), (q1, .inr (6, [.ref q5, .int (nI n)])), (q5, .inl (gB g, 2000, .inl f)), (q2, .inr (3, [.ref q6, .int (nI (wn st))])), (q6, .inl (gI g, 600, .inl pw)), (q7, .inr (5, [.ref q1, .ref q8, .ref q9, .ref q10, .int (nI (sn st))])), (q8, .inl (gI g, 40, .inl s1)), (q9, .inl (gI g, 40, .inl s2)), (q10, .inl (gI g, 40, .inl s3))]) [0, 1, 2, 3, 4, 5, 6, 7, 8] (by decide) rfl
    exact W.iret (v := (nI 1)) hx hb hr (fun t ht hW => ⟨⟨_, (st, pw, s1, s2, s3), rfl, ⟨⟨1, by rw [spLabel, cl_f (fun q => c2 q.1)], rfl⟩, hPR, hSR⟩, by rw [ht]; exact hP9, by rw [hAe]; exact hD9⟩, hS.F ht⟩) hS.2.2 d_Rdr_takeLabel_26
  · have c2 := sb_ne0.mp c2
    have haz : a < z := c2.1
    refine lv_aload_n hx hb d_Rdr_takeLabel_12 rfl (lv_at hl 0 rfl) ?_
    refine va_get (D := g.1) (ci := 4) (v := .ref q1) (C := "SignDesk$Reader") (T := F_Rdr) (N := 4) hx hb hts in_Rdr hown hK hP 0 rfl rfl 0 (by decide) (hts _ k_101) (fun _ h9 => h9) rfl d_Rdr_takeLabel_13 ?_
    refine lv_iload_n hx hb d_Rdr_takeLabel_16 rfl (lv_at hl 2 rfl) ?_
    refine sd_ri (va_runV (As := [.int (nI z)]) (rest := []) ⟨hx, hb, hml, hown, hts⟩ (c_Txt_byteAt l g q1 q5 n f tx hT z (by omega)) (cwV 1 hts (sd_gV k_227 k_201 k_202 k_24 k_203) rfl rfl rfl (by decide +kernel) ⟨Nat.le_of_ble_eq_true rfl, Nat.le_of_ble_eq_true rfl⟩) (sd_preV hK hE (sd_fr hS hA0) (hP.sub (ws' := [(q1, .inr (6, [.ref q5, .int (nI n)])), (q5, .inl (gB g, 2000, .inl f))]) [1, 2] rfl) rfl rfl) rfl rfl hl.1 rfl (lv_room (Nat.le_of_ble_eq_true rfl)) d_Rdr_takeLabel_17 ⟨Nat.zero_le _, Nat.zero_le _⟩) (fun r3 er3 => ?_)
    subst er3
    have hb8z := hb8 z
    refine lv_bipush (v := (nI 41)) hx hb d_Rdr_takeLabel_20 (by decide) ?_
    refine lv_icmp_eq (tgt := 27) hx hb d_Rdr_takeLabel_22 (by decide) (fun c4 => ?_) (fun c4 => ?_)
    · have c4 := (nI_eq (by omega) (by omega)).mp c4
      refine lv_aload_n hx hb d_Rdr_takeLabel_27 rfl (lv_at hl 0 rfl) ?_
      refine lv_iload_n hx hb d_Rdr_takeLabel_28 rfl (lv_at hl 1 rfl) ?_
      refine lv_iload_n hx hb d_Rdr_takeLabel_29 rfl (lv_at hl 2 rfl) ?_
      refine sd_ri (va_runV (As := [.int (nI a), .int (nI z)]) (rest := []) ⟨hx, hb, hml, hown, hts⟩ (c_Rdr_knownNumber l g q3 q1 q2 q7 q5 n fp f tx hT (a) (z) (by omega) (by omega)) (cwV 2 hts (sd_gV k_242 k_244 k_3 k_26 k_245) rfl rfl rfl (by decide +kernel) ⟨Nat.le_of_ble_eq_true rfl, Nat.le_of_ble_eq_true rfl⟩) (sd_preV hK hE (sd_fr hS hA0) (hP.sub (ws' := [(q3, .inr (4, [.ref q1, .ref q2, .ref q7, .int fp])), (q1, .inr (6, [.ref q5, .int (nI n)])), (q5, .inl (gB g, 2000, .inl f))]) [0, 1, 2] rfl) rfl rfl) rfl rfl hl.1 rfl (lv_room (Nat.le_of_ble_eq_true rfl)) d_Rdr_takeLabel_30 ⟨Nat.zero_le _, Nat.zero_le _⟩) (fun r5 er5 => ?_)
      subst er5
      have hkn := knK_le (tx := tx) (a := a) (z := z)
      refine lv_if_lt (tgt := 38) hx hb d_Rdr_takeLabel_33 (by decide) (fun c6 => ?_) (fun c6 => ?_)
      · have hk0 : knK tx a z = 0 := (m1_lt (by omega)).mp c6
        refine lv_aload_n hx hb d_Rdr_takeLabel_38 rfl (lv_at hl 0 rfl) ?_
        refine va_get (D := g.1) (ci := 4) (v := .ref q7) (C := "SignDesk$Reader") (T := F_Rdr) (N := 4) hx hb hts in_Rdr hown hK hP 0 rfl rfl 2 (by decide) (hts _ k_103) (fun _ h9 => h9) rfl d_Rdr_takeLabel_39 ?_
        refine lv_iload_n hx hb d_Rdr_takeLabel_42 rfl (lv_at hl 1 rfl) ?_
        refine lv_iload_n hx hb d_Rdr_takeLabel_43 rfl (lv_at hl 2 rfl) ?_
        have hPc := hP.sub (ws' := [(q7, .inr (5, [.ref q1, .ref q8, .ref q9, .ref q10, .int (nI (sn st))])), (q8, .inl (gI g, 40, .inl s1)), (q9, .inl (gI g, 40, .inl s2)), (q10, .inl (gI g, 40, .inl s3)), (q1, .inr (6, [.ref q5, .int (nI n)])), (q5, .inl (gB g, 2000, .inl f))]) [5, 6, 7, 8, 1, 2] rfl
        have hDc := hD.sub (ws' := [(q7, .inr (5, [.ref q1, .ref q8, .ref q9, .ref q10, .int (nI (sn st))])), (q8, .inl (gI g, 40, .inl s1)), (q9, .inl (gI g, 40, .inl s2)), (q10, .inl (gI g, 40, .inl s3)), (q1, .inr (6, [.ref q5, .int (nI n)])), (q5, .inl (gB g, 2000, .inl f))]) [5, 6, 7, 8, 1, 2] (by decide) rfl
        have hFc := va_free (wc := [(q7, .inr (5, [.ref q1, .ref q8, .ref q9, .ref q10, .int (nI (sn st))])), (q8, .inl (gI g, 40, .inl s1)), (q9, .inl (gI g, 40, .inl s2)), (q10, .inl (gI g, 40, .inl s3)), (q1, .inr (6, [.ref q5, .int (nI n)])), (q5, .inl (gB g, 2000, .inl f))]) hD hS hA [5, 6, 7, 8, 1, 2] rfl
        refine sd_ci (va_runV (As := [.int (nI a), .int (nI z)]) (rest := []) ⟨hx, hb, hml, hown, hts⟩ (c_Sym_symbolOf l g q7 q1 q8 q9 q10 q5 n f tx hT st s1 s2 s3 hSR (a) (z) (by omega) (by omega) s.heap.size) (cwV 2 hts (sd_gV k_312 k_313 k_314 k_27 k_315) rfl rfl rfl (by decide +kernel) ⟨Nat.le_of_ble_eq_true rfl, Nat.le_of_ble_eq_true rfl⟩) (sd_preVU hK hE hS hA0 hs0 hPc hDc rfl rfl) rfl rfl hl.1 rfl (lv_room (Nat.le_of_ble_eq_true rfl)) d_Rdr_takeLabel_44 ⟨Nat.zero_le _, Nat.zero_le _⟩) hS hFc (fun r7 u H1 locs hw hP1 hD1 hk1 hS => ?_)
        obtain ⟨st1, t1, t2, t3⟩ := u
        obtain ⟨hP, hD⟩ := va_join (wr := [(q3, .inr (4, [.ref q1, .ref q2, .ref q7, .int fp])), (q2, .inr (3, [.ref q6, .int (nI (wn st))])), (q6, .inl (gI g, 600, .inl pw))]) (w1 := [(q7, .inr (5, [.ref q1, .ref q8, .ref q9, .ref q10, .int (nI (sn st1))])), (q8, .inl (gI g, 40, .inl t1)), (q9, .inl (gI g, 40, .inl t2)), (q10, .inl (gI g, 40, .inl t3)), (q1, .inr (6, [.ref q5, .int (nI n)])), (q5, .inl (gB g, 2000, .inl f))]) hP hD [5, 6, 7, 8, 1, 2] [0, 3, 4] rfl rfl (by decide) (by decide) hk1 hFc hP1 hD1
        clear hPc hDc hFc hk1 hP1 hD1
        generalize H1 = H at hP hS ⊢
        have hP : sdP g [(q3, .inr (4, [.ref q1, .ref q2, .ref q7, .int fp])), (q2, .inr (3, [.ref q6, .int (nI (wn st))])), (q6, .inl (gI g, 600, .inl pw)), (q7, .inr (5, [.ref q1, .ref q8, .ref q9, .ref q10, .int (nI (sn st1))])), (q8, .inl (gI g, 40, .inl t1)), (q9, .inl (gI g, 40, .inl t2)), (q10, .inl (gI g, 40, .inl t3)), (q1, .inr (6, [.ref q5, .int (nI n)])), (q5, .inl (gB g, 2000, .inl f))] H := hP
        have hD : va_D A [(q3, .inr (4, [.ref q1, .ref q2, .ref q7, .int fp])), (q2, .inr (3, [.ref q6, .int (nI (wn st))])), (q6, .inl (gI g, 600, .inl pw)), (q7, .inr (5, [.ref q1, .ref q8, .ref q9, .ref q10, .int (nI (sn st1))])), (q8, .inl (gI g, 40, .inl t1)), (q9, .inl (gI g, 40, .inl t2)), (q10, .inl (gI g, 40, .inl t3)), (q1, .inr (6, [.ref q5, .int (nI n)])), (q5, .inl (gB g, 2000, .inl f))] := hD
        obtain ⟨⟨cs, hsy, er7⟩, hSR1⟩ := hw
        have hsy : syO tx st (a) (z - (a)) = (cs, st1) := hsy
        have hSR1 : SR st1 t1 t2 t3 := hSR1
        have hst1 : st1.1 = st.1 := by have h := syO_fst (tx := tx) (st := st) (a := a) (n := z - (a)); rw [hsy] at h; exact h
        have hcs := syO_le (tx := tx) (a := a) (n := z - (a)) h40
        rw [hsy] at hcs
        have hcs1 : cs ≤ sn st1 := hcs.1
        have hcs2 : sn st1 ≤ 40 := hcs.2
        subst er7
        have hwn1 : wn st1 = wn st := by show st1.1.1 = st.1.1; rw [hst1]
        have hP : sdP g [(q3, .inr (4, [.ref q1, .ref q2, .ref q7, .int fp])), (q2, .inr (3, [.ref q6, .int (nI (wn st1))])), (q6, .inl (gI g, 600, .inl pw)), (q7, .inr (5, [.ref q1, .ref q8, .ref q9, .ref q10, .int (nI (sn st1))])), (q8, .inl (gI g, 40, .inl t1)), (q9, .inl (gI g, 40, .inl t2)), (q10, .inl (gI g, 40, .inl t3)), (q1, .inr (6, [.ref q5, .int (nI n)])), (q5, .inl (gB g, 2000, .inl f))] H := by rw [hwn1]; exact hP
        have hD : va_D A [(q3, .inr (4, [.ref q1, .ref q2, .ref q7, .int fp])), (q2, .inr (3, [.ref q6, .int (nI (wn st1))])), (q6, .inl (gI g, 600, .inl pw)), (q7, .inr (5, [.ref q1, .ref q8, .ref q9, .ref q10, .int (nI (sn st1))])), (q8, .inl (gI g, 40, .inl t1)), (q9, .inl (gI g, 40, .inl t2)), (q10, .inl (gI g, 40, .inl t3)), (q1, .inr (6, [.ref q5, .int (nI n)])), (q5, .inl (gB g, 2000, .inl f))] := by rw [hwn1]; exact hD
        refine lv_istore_n (lv' := [(3, .int (nI cs - 1)), (0, .ref q3), (1, .int (nI a)), (2, .int (nI z))]) hx hb d_Rdr_takeLabel_47 rfl hl (by decide) rfl (fun ls hl => ?_)
        refine lv_iload_n hx hb d_Rdr_takeLabel_48 rfl (lv_at hl 0 rfl) ?_
        refine lv_if_ge (tgt := 54) hx hb d_Rdr_takeLabel_49 (by decide) (fun c8 => ?_) (fun c8 => ?_)
        · have hc0 : ¬ cs = 0 := fun q => absurd c8 (by rw [q]; decide)
          refine lv_aload_n hx hb d_Rdr_takeLabel_54 rfl (lv_at hl 1 rfl) ?_
          refine va_get (D := g.1) (ci := 4) (v := .ref q7) (C := "SignDesk$Reader") (T := F_Rdr) (N := 4) hx hb hts in_Rdr hown hK hP 0 rfl rfl 2 (by decide) (hts _ k_103) (fun _ h9 => h9) rfl d_Rdr_takeLabel_55 ?_
          refine lv_iload_n hx hb d_Rdr_takeLabel_58 rfl (lv_at hl 0 rfl) ?_
          refine sd_topi (y := nI (cs - 1)) (m1_up hc0) ?_
          refine lv_aload_n hx hb d_Rdr_takeLabel_59 rfl (lv_at hl 1 rfl) ?_
          refine va_get (D := g.1) (ci := 4) (v := .ref q2) (C := "SignDesk$Reader") (T := F_Rdr) (N := 4) hx hb hts in_Rdr hown hK hP 0 rfl rfl 1 (by decide) (hts _ k_102) (fun _ h9 => h9) rfl d_Rdr_takeLabel_60 ?_
          refine sd_ri (va_runV (As := []) (rest := [.int (nI (cs - 1)), .ref q7]) ⟨hx, hb, hml, hown, hts⟩ (c_Prg_size l g q2 q6 (wn st1) pw (by rw [hwn1]; exact hPR.1)) (cwV 0 hts (sd_gV k_330 k_331 k_332 k_25 k_333) rfl rfl rfl (by decide +kernel) ⟨Nat.le_of_ble_eq_true rfl, Nat.le_of_ble_eq_true rfl⟩) (sd_preV hK hE (sd_fr hS hA0) (hP.sub (ws' := [(q2, .inr (3, [.ref q6, .int (nI (wn st1))])), (q6, .inl (gI g, 600, .inl pw))]) [1, 2] rfl) rfl rfl) rfl rfl hl.1 rfl (lv_room (Nat.le_of_ble_eq_true rfl)) d_Rdr_takeLabel_63 ⟨Nat.zero_le _, Nat.zero_le _⟩) (fun r9 er9 => ?_)
          subst er9
          refine sd_topi (y := nI (wn st)) (by rw [hwn1]) ?_
          have hPc := hP.sub (ws' := [(q7, .inr (5, [.ref q1, .ref q8, .ref q9, .ref q10, .int (nI (sn st1))])), (q8, .inl (gI g, 40, .inl t1)), (q9, .inl (gI g, 40, .inl t2)), (q10, .inl (gI g, 40, .inl t3))]) [3, 4, 5, 6] rfl
          have hDc := hD.sub (ws' := [(q7, .inr (5, [.ref q1, .ref q8, .ref q9, .ref q10, .int (nI (sn st1))])), (q8, .inl (gI g, 40, .inl t1)), (q9, .inl (gI g, 40, .inl t2)), (q10, .inl (gI g, 40, .inl t3))]) [3, 4, 5, 6] (by decide) rfl
          have hFc := va_free (wc := [(q7, .inr (5, [.ref q1, .ref q8, .ref q9, .ref q10, .int (nI (sn st1))])), (q8, .inl (gI g, 40, .inl t1)), (q9, .inl (gI g, 40, .inl t2)), (q10, .inl (gI g, 40, .inl t3))]) hD hS hA [3, 4, 5, 6] rfl
          refine sd_ci (va_runV (As := [.int (nI (cs - 1)), .int (nI (wn st))]) (rest := []) ⟨hx, hb, hml, hown, hts⟩ (c_Sym_tell l g q7 q1 q8 q9 q10 st1 t1 t2 t3 hSR1 (cs - 1) (wn st) (by omega) (by omega) H.size) (cwV 2 hts (sd_gV k_334 k_335 k_336 k_27 k_337) rfl rfl rfl (by decide +kernel) ⟨Nat.le_of_ble_eq_true rfl, Nat.le_of_ble_eq_true rfl⟩) (sd_preVU hK hE hS hA0 hs0 hPc hDc rfl rfl) rfl rfl hl.1 rfl (lv_room (Nat.le_of_ble_eq_true rfl)) d_Rdr_takeLabel_66 ⟨Nat.zero_le _, Nat.zero_le _⟩) hS hFc (fun r10 u H1 locs hw2 hP1 hD1 hk1 hS => ?_)
          obtain ⟨st2, t4⟩ := u
          obtain ⟨hP, hD⟩ := va_join (wr := [(q3, .inr (4, [.ref q1, .ref q2, .ref q7, .int fp])), (q2, .inr (3, [.ref q6, .int (nI (wn st1))])), (q6, .inl (gI g, 600, .inl pw)), (q1, .inr (6, [.ref q5, .int (nI n)])), (q5, .inl (gB g, 2000, .inl f))]) (w1 := [(q7, .inr (5, [.ref q1, .ref q8, .ref q9, .ref q10, .int (nI (sn st2))])), (q8, .inl (gI g, 40, .inl t1)), (q9, .inl (gI g, 40, .inl t2)), (q10, .inl (gI g, 40, .inl t4))]) hP hD [3, 4, 5, 6] [0, 1, 2, 7, 8] rfl rfl (by decide) (by decide) hk1 hFc hP1 hD1
          clear hPc hDc hFc hk1 hP1 hD1
          generalize H1 = H at hP hS ⊢
          have hP : sdP g [(q3, .inr (4, [.ref q1, .ref q2, .ref q7, .int fp])), (q2, .inr (3, [.ref q6, .int (nI (wn st1))])), (q6, .inl (gI g, 600, .inl pw)), (q1, .inr (6, [.ref q5, .int (nI n)])), (q5, .inl (gB g, 2000, .inl f)), (q7, .inr (5, [.ref q1, .ref q8, .ref q9, .ref q10, .int (nI (sn st2))])), (q8, .inl (gI g, 40, .inl t1)), (q9, .inl (gI g, 40, .inl t2)), (q10, .inl (gI g, 40, .inl t4))] H := hP
          have hD : va_D A [(q3, .inr (4, [.ref q1, .ref q2, .ref q7, .int fp])), (q2, .inr (3, [.ref q6, .int (nI (wn st1))])), (q6, .inl (gI g, 600, .inl pw)), (q1, .inr (6, [.ref q5, .int (nI n)])), (q5, .inl (gB g, 2000, .inl f)), (q7, .inr (5, [.ref q1, .ref q8, .ref q9, .ref q10, .int (nI (sn st2))])), (q8, .inl (gI g, 40, .inl t1)), (q9, .inl (gI g, 40, .inl t2)), (q10, .inl (gI g, 40, .inl t4))] := hD
          obtain ⟨hw3, hw4, hSR2⟩ := hw2
          have hSR2 : SR st2 t1 t2 t4 := hSR2
          have hP : sdP g [(q3, .inr (4, [.ref q1, .ref q2, .ref q7, .int fp])), (q2, .inr (3, [.ref q6, .int (nI (wn st1))])), (q6, .inl (gI g, 600, .inl pw)), (q1, .inr (6, [.ref q5, .int (nI n)])), (q5, .inl (gB g, 2000, .inl f)), (q7, .inr (5, [.ref q1, .ref q8, .ref q9, .ref q10, .int (nI (sn st2))])), (q8, .inl (gI g, 40, .inl t1)), (q9, .inl (gI g, 40, .inl t2)), (q10, .inl (gI g, 40, .inl t4))] H := hP
          refine lv_if_eq (tgt := 76) hx hb d_Rdr_takeLabel_69 (by decide) (fun c11 => ?_) (fun c11 => ?_)
          · have hne : ¬ sv st1 (cs - 1) = 0 := fun q => by rw [(hw4 q).1] at c11; exact absurd c11 (by decide)
            obtain rfl : st1 = st2 := (hw3 hne).2.symm
            refine lv_iconst (v := (nI 3)) hx hb d_Rdr_takeLabel_76 (by decide) ?_
            have hP9 := hP.sub (ws' := [(q3, .inr (4, [.ref q1, .ref q2, .ref q7, .int fp])), (q1, .inr (6, [.ref q5, .int (nI n)])), (q5, .inl (gB g, 2000, .inl f)), (q2, .inr (3, [.ref q6, .int (nI (wn st1))])), (q6, .inl (gI g, 600, .inl pw)), (q7, .inr (5, [.ref q1, .ref q8, .ref q9, .ref q10, .int (nI (sn st1))])), (q8, .inl (gI g, 40, .inl t1)), (q9, .inl (gI g, 40, .inl t2)), (q10, .inl (gI g, 40, .inl t4))]) [0, 3, 4, 1, 2, 5, 6, 7, 8] rfl
            have hD9 := hD.sub (ws' := [(q3, .inr (4, [.ref q1, .ref q2, .ref q7, .int fp])), (q1, .inr (6, [.ref q5, .int (nI n)])), (q5, .inl (gB g, 2000, .inl f)), (q2, .inr (3, [.ref q6, .int (nI (wn st1))])), (q6, .inl (gI g, 600, .inl pw)), (q7, .inr (5, [.ref q1, .ref q8, .ref q9, .ref q10, .int (nI (sn st1))])), (q8, .inl (gI g, 40, .inl t1)), (q9, .inl (gI g, 40, .inl t2)), (q10, .inl (gI g, 40, .inl t4))]) [0, 3, 4, 1, 2, 5, 6, 7, 8] (by decide) rfl
            exact W.iret (v := (nI 3)) hx hb hr (fun t ht hW => ⟨⟨_, (st1, pw, t1, t2, t4), rfl, ⟨⟨3, by rw [spLabel, cl_t ⟨c2, c4⟩, if_pos hk0, hsy, if_neg hc0, if_neg hne], rfl⟩, PR_of hPR hst1, hSR2⟩, by rw [ht]; exact hP9, by rw [hAe]; exact hD9⟩, hS.F ht⟩) hS.2.2 d_Rdr_takeLabel_77
          · have hne : sv st1 (cs - 1) = 0 := Classical.byContradiction fun q => c11 (by rw [(hw3 q).1]; rfl)
            obtain rfl : st2 = tellS st1 (cs - 1) (wn st + 1) := (hw4 hne).2
            refine lv_iconst (v := (nI 0)) hx hb d_Rdr_takeLabel_72 (by decide) ?_
            refine lv_goto (tgt := 77) hx hb d_Rdr_takeLabel_73 (by decide) ?_
            have hP9 := hP.sub (ws' := [(q3, .inr (4, [.ref q1, .ref q2, .ref q7, .int fp])), (q1, .inr (6, [.ref q5, .int (nI n)])), (q5, .inl (gB g, 2000, .inl f)), (q2, .inr (3, [.ref q6, .int (nI (wn st1))])), (q6, .inl (gI g, 600, .inl pw)), (q7, .inr (5, [.ref q1, .ref q8, .ref q9, .ref q10, .int (nI (sn (tellS st1 (cs - 1) (wn st + 1))))])), (q8, .inl (gI g, 40, .inl t1)), (q9, .inl (gI g, 40, .inl t2)), (q10, .inl (gI g, 40, .inl t4))]) [0, 3, 4, 1, 2, 5, 6, 7, 8] rfl
            have hD9 := hD.sub (ws' := [(q3, .inr (4, [.ref q1, .ref q2, .ref q7, .int fp])), (q1, .inr (6, [.ref q5, .int (nI n)])), (q5, .inl (gB g, 2000, .inl f)), (q2, .inr (3, [.ref q6, .int (nI (wn st1))])), (q6, .inl (gI g, 600, .inl pw)), (q7, .inr (5, [.ref q1, .ref q8, .ref q9, .ref q10, .int (nI (sn (tellS st1 (cs - 1) (wn st + 1))))])), (q8, .inl (gI g, 40, .inl t1)), (q9, .inl (gI g, 40, .inl t2)), (q10, .inl (gI g, 40, .inl t4))]) [0, 3, 4, 1, 2, 5, 6, 7, 8] (by decide) rfl
            exact W.iret (v := (nI 0)) hx hb hr (fun t ht hW => ⟨⟨_, (tellS st1 (cs - 1) (wn st + 1), pw, t1, t2, t4), rfl, ⟨⟨0, by rw [spLabel, cl_t ⟨c2, c4⟩, if_pos hk0, hsy, if_neg hc0, if_pos hne], rfl⟩, PR_of hPR hst1, hSR2⟩, by rw [ht]; exact hP9, by rw [hAe]; exact hD9⟩, hS.F ht⟩) hS.2.2 d_Rdr_takeLabel_77
        · have hc0 : cs = 0 := (m1_lt (by omega)).mp (Int32.not_le.mp c8)
          refine lv_iconst (v := (nI 2)) hx hb d_Rdr_takeLabel_52 (by decide) ?_
          have hP9 := hP.sub (ws' := [(q3, .inr (4, [.ref q1, .ref q2, .ref q7, .int fp])), (q1, .inr (6, [.ref q5, .int (nI n)])), (q5, .inl (gB g, 2000, .inl f)), (q2, .inr (3, [.ref q6, .int (nI (wn st1))])), (q6, .inl (gI g, 600, .inl pw)), (q7, .inr (5, [.ref q1, .ref q8, .ref q9, .ref q10, .int (nI (sn st1))])), (q8, .inl (gI g, 40, .inl t1)), (q9, .inl (gI g, 40, .inl t2)), (q10, .inl (gI g, 40, .inl t3))]) [0, 7, 8, 1, 2, 3, 4, 5, 6] rfl
          have hD9 := hD.sub (ws' := [(q3, .inr (4, [.ref q1, .ref q2, .ref q7, .int fp])), (q1, .inr (6, [.ref q5, .int (nI n)])), (q5, .inl (gB g, 2000, .inl f)), (q2, .inr (3, [.ref q6, .int (nI (wn st1))])), (q6, .inl (gI g, 600, .inl pw)), (q7, .inr (5, [.ref q1, .ref q8, .ref q9, .ref q10, .int (nI (sn st1))])), (q8, .inl (gI g, 40, .inl t1)), (q9, .inl (gI g, 40, .inl t2)), (q10, .inl (gI g, 40, .inl t3))]) [0, 7, 8, 1, 2, 3, 4, 5, 6] (by decide) rfl
          exact W.iret (v := (nI 2)) hx hb hr (fun t ht hW => ⟨⟨_, (st1, pw, t1, t2, t3), rfl, ⟨⟨2, by rw [spLabel, cl_t ⟨c2, c4⟩, if_pos hk0, hsy, if_pos hc0], rfl⟩, PR_of hPR hst1, hSR1⟩, by rw [ht]; exact hP9, by rw [hAe]; exact hD9⟩, hS.F ht⟩) hS.2.2 d_Rdr_takeLabel_53
      · have hk0 : ¬ knK tx a z = 0 := fun q => c6 (by rw [q]; decide)
        refine lv_iconst (v := (nI 3)) hx hb d_Rdr_takeLabel_36 (by decide) ?_
        have hP9 := hP.sub (ws' := [(q3, .inr (4, [.ref q1, .ref q2, .ref q7, .int fp])), (q1, .inr (6, [.ref q5, .int (nI n)])), (q5, .inl (gB g, 2000, .inl f)), (q2, .inr (3, [.ref q6, .int (nI (wn st))])), (q6, .inl (gI g, 600, .inl pw)), (q7, .inr (5, [.ref q1, .ref q8, .ref q9, .ref q10, .int (nI (sn st))])), (q8, .inl (gI g, 40, .inl s1)), (q9, .inl (gI g, 40, .inl s2)), (q10, .inl (gI g, 40, .inl s3))]) [0, 1, 2, 3, 4, 5, 6, 7, 8] rfl
        have hD9 := hD.sub (ws' := [(q3, .inr (4, [.ref q1, .ref q2, .ref q7, .int fp])), (q1, .inr (6, [.ref q5, .int (nI n)])), (q5, .inl (gB g, 2000, .inl f)), (q2, .inr (3, [.ref q6, .int (nI (wn st))])), (q6, .inl (gI g, 600, .inl pw)), (q7, .inr (5, [.ref q1, .ref q8, .ref q9, .ref q10, .int (nI (sn st))])), (q8, .inl (gI g, 40, .inl s1)), (q9, .inl (gI g, 40, .inl s2)), (q10, .inl (gI g, 40, .inl s3))]) [0, 1, 2, 3, 4, 5, 6, 7, 8] (by decide) rfl
        exact W.iret (v := (nI 3)) hx hb hr (fun t ht hW => ⟨⟨_, (st, pw, s1, s2, s3), rfl, ⟨⟨3, by rw [spLabel, cl_t ⟨c2, c4⟩, if_neg hk0], rfl⟩, hPR, hSR⟩, by rw [ht]; exact hP9, by rw [hAe]; exact hD9⟩, hS.F ht⟩) hS.2.2 d_Rdr_takeLabel_37
    · have c4 := mt (nI_eq (by omega) (by omega)).mpr c4
      refine lv_iconst (v := (nI 1)) hx hb d_Rdr_takeLabel_25 (by decide) ?_
      have hP9 := hP.sub (ws' := [(q3, .inr (4, [.ref q1, .ref q2, .ref q7, .int fp])), (q1, .inr (6, [.ref q5, .int (nI n)])), (q5, .inl (gB g, 2000, .inl f)), (q2, .inr (3, [.ref q6, .int (nI (wn st))])), (q6, .inl (gI g, 600, .inl pw)), (q7, .inr (5, [.ref q1, .ref q8, .ref q9, .ref q10, .int (nI (sn st))])), (q8, .inl (gI g, 40, .inl s1)), (q9, .inl (gI g, 40, .inl s2)), (q10, .inl (gI g, 40, .inl s3))]) [0, 1, 2, 3, 4, 5, 6, 7, 8] rfl
      have hD9 := hD.sub (ws' := [(q3, .inr (4, [.ref q1, .ref q2, .ref q7, .int fp])), (q1, .inr (6, [.ref q5, .int (nI n)])), (q5, .inl (gB g, 2000, .inl f)), (q2, .inr (3, [.ref q6, .int (nI (wn st))])), (q6, .inl (gI g, 600, .inl pw)), (q7, .inr (5, [.ref q1, .ref q8, .ref q9, .ref q10, .int (nI (sn st))])), (q8, .inl (gI g, 40, .inl s1)), (q9, .inl (gI g, 40, .inl s2)), (q10, .inl (gI g, 40, .inl s3))]) [0, 1, 2, 3, 4, 5, 6, 7, 8] (by decide) rfl
      exact W.iret (v := (nI 1)) hx hb hr (fun t ht hW => ⟨⟨_, (st, pw, s1, s2, s3), rfl, ⟨⟨1, by rw [spLabel, cl_f (fun q => c4 q.2)], rfl⟩, hPR, hSR⟩, by rw [ht]; exact hP9, by rw [hAe]; exact hD9⟩, hS.F ht⟩) hS.2.2 d_Rdr_takeLabel_26
end
section
set_option maxHeartbeats 4000000 in
set_option maxRecDepth 100000 in
/-- takeOther -/
theorem c_Rdr_takeOther (l : Launch) (g : sdG) (q3 q1 q2 q7 q5 q6 q8 q9 q10 n : Nat) (fp : Int32) (f : Nat → Int32) (tx : Nat → Nat) (hT : TXok n f tx) (st : AS) (pw s1 s2a s3 : Nat → Int32) (hPR : PR st pw) (hSR : SR st s1 s2a s3) (a e : Nat) (ha : a < e) (hz : e ≤ 2000) (sz : Nat) : Met l y_Rdr_takeOther (.code y_Rdr_takeOther b_Rdr_takeOther 10 (some .int) :: sdT) ({ frames := 6, cells := 0, slots := 0, locals := 135 }) (va_Pc [.ref q3, .int (nI a), .int (nI e)] (sdU g [(q3, .inr (4, [.ref q1, .ref q2, .ref q7, .int fp])), (q1, .inr (6, [.ref q5, .int (nI n)])), (q5, .inl (gB g, 2000, .inl f)), (q2, .inr (3, [.ref q6, .int (nI (wn st))])), (q6, .inl (gI g, 600, .inl pw)), (q7, .inr (5, [.ref q1, .ref q8, .ref q9, .ref q10, .int (nI (sn st))])), (q8, .inl (gI g, 40, .inl s1)), (q9, .inl (gI g, 40, .inl s2a)), (q10, .inl (gI g, 40, .inl s3))] sz)) (va_Qi (S := AS × (Nat → Int32) × (Nat → Int32) × (Nat → Int32) × (Nat → Int32)) (fun r u => (∃ c, spOther tx a e st = (c, u.1) ∧ r = nI c) ∧ PR u.1 u.2.1 ∧ SR u.1 u.2.2.1 u.2.2.2.1 u.2.2.2.2) (fun u t => sdB g [(q3, .inr (4, [.ref q1, .ref q2, .ref q7, .int fp])), (q1, .inr (6, [.ref q5, .int (nI n)])), (q5, .inl (gB g, 2000, .inl f)), (q2, .inr (3, [.ref q6, .int (nI (wn st))])), (q6, .inl (gI g, 600, .inl pw)), (q7, .inr (5, [.ref q1, .ref q8, .ref q9, .ref q10, .int (nI (sn st))])), (q8, .inl (gI g, 40, .inl s1)), (q9, .inl (gI g, 40, .inl s2a)), (q10, .inl (gI g, 40, .inl s3))] sz ((fun u => [(q3, .inr (4, [.ref q1, .ref q2, .ref q7, .int fp])), (q1, .inr (6, [.ref q5, .int (nI n)])), (q5, .inl (gB g, 2000, .inl f)), (q2, .inr (3, [.ref q6, .int (nI (wn u.1))])), (q6, .inl (gI g, 600, .inl u.2.1)), (q7, .inr (5, [.ref q1, .ref q8, .ref q9, .ref q10, .int (nI (sn u.1))])), (q8, .inl (gI g, 40, .inl u.2.2.1)), (q9, .inl (gI g, 40, .inl u.2.2.2.1)), (q10, .inl (gI g, 40, .inl u.2.2.2.2))] : AS × (Nat → Int32) × (Nat → Int32) × (Nat → Int32) × (Nat → Int32) → va_W) u) t) (va_A [(q3, .inr (4, [.ref q1, .ref q2, .ref q7, .int fp])), (q1, .inr (6, [.ref q5, .int (nI n)])), (q5, .inl (gB g, 2000, .inl f)), (q2, .inr (3, [.ref q6, .int (nI (wn st))])), (q6, .inl (gI g, 600, .inl pw)), (q7, .inr (5, [.ref q1, .ref q8, .ref q9, .ref q10, .int (nI (sn st))])), (q8, .inl (gI g, 40, .inl s1)), (q9, .inl (gI g, 40, .inl s2a)), (q10, .inl (gI g, 40, .inl s3))] sz)) 0 0 (va_A [(q3, .inr (4, [.ref q1, .ref q2, .ref q7, .int fp])), (q1, .inr (6, [.ref q5, .int (nI n)])), (q5, .inl (gB g, 2000, .inl f)), (q2, .inr (3, [.ref q6, .int (nI (wn st))])), (q6, .inl (gI g, 600, .inl pw)), (q7, .inr (5, [.ref q1, .ref q8, .ref q9, .ref q10, .int (nI (sn st))])), (q8, .inl (gI g, 40, .inl s1)), (q9, .inl (gI g, 40, .inl s2a)), (q10, .inl (gI g, 40, .inl s3))] sz) := by
  refine Met.ofW (cc := b_Rdr_takeOther) (maxL := 10) (ret := (some .int)) (by decide) rfl ?_
  intro p ev s m args below meth c s₁ B hml hv
  obtain ⟨rfl, hsz, hP, hK, hE, hD0, hs0⟩ := hv
  have hx := B.exec
  have hb := B.bytes
  have hr := B.returns
  have hts := fun (w : Cond) (h : w ∈ sdT) => atoms_spec (ws := (.code y_Rdr_takeOther b_Rdr_takeOther 10 (some .int) :: sdT)) B.pre w (List.mem_cons_of_mem _ h)
  have hown : s.vm.findClass "SignDesk$Reader" = some m.cls := findClass_of_methodNamed B.named
  have hlocks := B.notSynchronized
  subst hsz
  have hD := hD0.self (sz := s.heap.size)
  have hA0 : ∀ q : Nat, va_A [(q3, .inr (4, [.ref q1, .ref q2, .ref q7, .int fp])), (q1, .inr (6, [.ref q5, .int (nI n)])), (q5, .inl (gB g, 2000, .inl f)), (q2, .inr (3, [.ref q6, .int (nI (wn st))])), (q6, .inl (gI g, 600, .inl pw)), (q7, .inr (5, [.ref q1, .ref q8, .ref q9, .ref q10, .int (nI (sn st))])), (q8, .inl (gI g, 40, .inl s1)), (q9, .inl (gI g, 40, .inl s2a)), (q10, .inl (gI g, 40, .inl s3))] s.heap.size q → gS g ≤ q := fun q h => h.elim (fun ⟨k, e, hk⟩ => hD0.2 k _ hk) (fun h => Nat.le_trans hs0 h)
  have hA : ∀ q : Nat, s.heap.size ≤ q → va_A [(q3, .inr (4, [.ref q1, .ref q2, .ref q7, .int fp])), (q1, .inr (6, [.ref q5, .int (nI n)])), (q5, .inl (gB g, 2000, .inl f)), (q2, .inr (3, [.ref q6, .int (nI (wn st))])), (q6, .inl (gI g, 600, .inl pw)), (q7, .inr (5, [.ref q1, .ref q8, .ref q9, .ref q10, .int (nI (sn st))])), (q8, .inl (gI g, 40, .inl s1)), (q9, .inl (gI g, 40, .inl s2a)), (q10, .inl (gI g, 40, .inl s3))] s.heap.size q := fun q h => Or.inr h
  generalize hAe : va_A [(q3, .inr (4, [.ref q1, .ref q2, .ref q7, .int fp])), (q1, .inr (6, [.ref q5, .int (nI n)])), (q5, .inl (gB g, 2000, .inl f)), (q2, .inr (3, [.ref q6, .int (nI (wn st))])), (q6, .inl (gI g, 600, .inl pw)), (q7, .inr (5, [.ref q1, .ref q8, .ref q9, .ref q10, .int (nI (sn st))])), (q8, .inl (gI g, 40, .inl s1)), (q9, .inl (gI g, 40, .inl s2a)), (q10, .inl (gI g, 40, .inl s3))] s.heap.size = A at hD hA0 hA ⊢
  have hS : va_S A s.heap s.heap [] := va_S.rf
  have hP : sdP g [(q3, .inr (4, [.ref q1, .ref q2, .ref q7, .int fp])), (q1, .inr (6, [.ref q5, .int (nI n)])), (q5, .inl (gB g, 2000, .inl f)), (q2, .inr (3, [.ref q6, .int (nI (wn st))])), (q6, .inl (gI g, 600, .inl pw)), (q7, .inr (5, [.ref q1, .ref q8, .ref q9, .ref q10, .int (nI (sn st))])), (q8, .inl (gI g, 40, .inl s1)), (q9, .inl (gI g, 40, .inl s2a)), (q10, .inl (gI g, 40, .inl s3))] s.heap := hP
  have hl := lv_entry ([.ref q3, .int (nI a), .int (nI e)]) (n := 10) (Nat.le_of_ble_eq_true rfl)
  rw [lg_entry_eq]
  generalize (lg_sl ([.ref q3, .int (nI a), .int (nI e)]) ++ List.replicate (10 - (lg_sl ([.ref q3, .int (nI a), .int (nI e)])).length) Slot.unset).toArray = ls at hl ⊢
  have hl : lv_has ls 10 [(0, .ref q3), (1, .int (nI a)), (2, .int (nI e))] := hl
  have hn := hT.1
  have hb8 := hT.2.1
  have h40 := hSR.1
  have h600 := hPR.1
  refine lv_aload_n hx hb d_Rdr_takeOther_0 rfl (lv_at hl 0 rfl) ?_
  refine va_get (D := g.1) (ci := 4) (v := .ref q1) (C := "SignDesk$Reader") (T := F_Rdr) (N := 4) hx hb hts in_Rdr hown hK hP 0 rfl rfl 0 (by decide) (hts _ k_101) (fun _ h9 => h9) rfl d_Rdr_takeOther_1 ?_
  refine lv_bipush (v := (nI 61)) hx hb d_Rdr_takeOther_4 (by decide) ?_
  refine lv_iload_n hx hb d_Rdr_takeOther_6 rfl (lv_at hl 1 rfl) ?_
  refine lv_iload_n hx hb d_Rdr_takeOther_7 rfl (lv_at hl 2 rfl) ?_
  refine sd_ri (va_runV (As := [.int (nI 61), .int (nI a), .int (nI e)]) (rest := []) ⟨hx, hb, hml, hown, hts⟩ (c_Txt_find l g q1 q5 n f tx hT 61 a e (by decide) (by omega) (by omega)) (cwV 3 hts (sd_gV k_342 k_343 k_344 k_24 k_345) rfl rfl rfl (by decide +kernel) ⟨Nat.le_of_ble_eq_true rfl, Nat.le_of_ble_eq_true rfl⟩) (sd_preV hK hE (sd_fr hS hA0) (hP.sub (ws' := [(q1, .inr (6, [.ref q5, .int (nI n)])), (q5, .inl (gB g, 2000, .inl f))]) [1, 2] rfl) rfl rfl) rfl rfl hl.1 rfl (lv_room (Nat.le_of_ble_eq_true rfl)) d_Rdr_takeOther_8 ⟨Nat.zero_le _, Nat.zero_le _⟩) (fun r1 er1 => ?_)
  rcases er1 with ⟨q, rfl, hq1, hq2, hq3, hq4⟩ | ⟨hq4, rfl⟩
  · have hq : oF tx 61 a e = q := ff_eq _ _ _ hq1 (by omega) hq4 (fun _ => hq3)
    refine lv_istore_n (lv' := [(3, .int (nI q)), (0, .ref q3), (1, .int (nI a)), (2, .int (nI e))]) hx hb d_Rdr_takeOther_11 rfl hl (by decide) rfl (fun ls hl => ?_)
    refine lv_aload_n hx hb d_Rdr_takeOther_12 rfl (lv_at hl 1 rfl) ?_
    refine va_get (D := g.1) (ci := 4) (v := .ref q1) (C := "SignDesk$Reader") (T := F_Rdr) (N := 4) hx hb hts in_Rdr hown hK hP 0 rfl rfl 0 (by decide) (hts _ k_101) (fun _ h9 => h9) rfl d_Rdr_takeOther_13 ?_
    refine lv_bipush (v := (nI 59)) hx hb d_Rdr_takeOther_16 (by decide) ?_
    refine lv_iload_n hx hb d_Rdr_takeOther_18 rfl (lv_at hl 2 rfl) ?_
    refine lv_iload_n hx hb d_Rdr_takeOther_19 rfl (lv_at hl 3 rfl) ?_
    refine sd_ri (va_runV (As := [.int (nI 59), .int (nI a), .int (nI e)]) (rest := []) ⟨hx, hb, hml, hown, hts⟩ (c_Txt_find l g q1 q5 n f tx hT 59 a e (by decide) (by omega) (by omega)) (cwV 3 hts (sd_gV k_342 k_343 k_344 k_24 k_345) rfl rfl rfl (by decide +kernel) ⟨Nat.le_of_ble_eq_true rfl, Nat.le_of_ble_eq_true rfl⟩) (sd_preV hK hE (sd_fr hS hA0) (hP.sub (ws' := [(q1, .inr (6, [.ref q5, .int (nI n)])), (q5, .inl (gB g, 2000, .inl f))]) [1, 2] rfl) rfl rfl) rfl rfl hl.1 rfl (lv_room (Nat.le_of_ble_eq_true rfl)) d_Rdr_takeOther_20 ⟨Nat.zero_le _, Nat.zero_le _⟩) (fun r2 er2 => ?_)
    rcases er2 with ⟨s2, rfl, hs1, hs2, hs3, hs4⟩ | ⟨hs4, rfl⟩
    · have hs : oF tx 59 a e = s2 := ff_eq _ _ _ hs1 (by omega) hs4 (fun _ => hs3)
      have hG := spOther_g (tx := tx) (st := st) (D := (lk (nmM tx a q) sd_dest)) (J := (lk (nmM tx (s2 + 1) e) sd_jump)) (ca := (q + 1)) hq hs (if_pos hq2).symm (if_pos hq2).symm (if_pos hs2).symm rfl
      have hDl : (lk (nmM tx a q) sd_dest) ≤ 7 := lk_le sd_dest_lt
      have hJl : (lk (nmM tx (s2 + 1) e) sd_jump) ≤ 7 := lk_le sd_jump_lt
      have hCl : (lk (nmM tx (q + 1) s2) sd_comp) ≤ 8129 := lk_le sd_comp_lt
      refine lv_istore (lv' := [(4, .int (nI s2)), (3, .int (nI q)), (0, .ref q3), (1, .int (nI a)), (2, .int (nI e))]) hx hb d_Rdr_takeOther_23 hl (by decide) rfl (fun ls hl => ?_)
      refine lv_iload_n hx hb d_Rdr_takeOther_25 rfl (lv_at hl 1 rfl) ?_
      refine lv_if_ge (tgt := 33) hx hb d_Rdr_takeOther_26 (by decide) (fun c3 => ?_) (fun c3 => ?_)
      · refine lv_iconst (v := (nI 1)) hx hb d_Rdr_takeOther_33 (by decide) ?_
        refine lv_aload_n hx hb d_Rdr_takeOther_34 rfl (lv_at hl 2 rfl) ?_
        refine va_get (D := g.1) (ci := 4) (v := .ref q1) (C := "SignDesk$Reader") (T := F_Rdr) (N := 4) hx hb hts in_Rdr hown hK hP 0 rfl rfl 0 (by decide) (hts _ k_101) (fun _ h9 => h9) rfl d_Rdr_takeOther_35 ?_
        refine va_ldcS hx hb hown hE.2.2.2.2.2.2.1.2.1 d_Rdr_takeOther_38 ?_
        refine lv_iload_n hx hb d_Rdr_takeOther_40 rfl (lv_at hl 3 rfl) ?_
        refine lv_iload_n hx hb d_Rdr_takeOther_41 rfl (lv_at hl 1 rfl) ?_
        refine sd_ri (va_runV (As := [.ref (gk g 1), .int (nI a), .int (nI q)]) (rest := [.int (nI 1)]) ⟨hx, hb, hml, hown, hts⟩ (c_Txt_nameAmong l g q1 q5 n f tx hT 1 (by decide) (a) (q) (by omega) (by omega)) (cwV 3 hts (sd_gV k_249 k_250 k_251 k_24 k_252) rfl rfl rfl (by decide +kernel) ⟨Nat.le_of_ble_eq_true rfl, Nat.le_of_ble_eq_true rfl⟩) (sd_preV hK hE (sd_fr hS hA0) (hP.sub (ws' := [(q1, .inr (6, [.ref q5, .int (nI n)])), (q5, .inl (gB g, 2000, .inl f))]) [1, 2] rfl) rfl rfl) rfl rfl hl.1 rfl (lv_room (Nat.le_of_ble_eq_true rfl)) d_Rdr_takeOther_42 ⟨Nat.zero_le _, Nat.zero_le _⟩) (fun r4 er4 => ?_)
        subst er4
        refine lv_iadd hx hb d_Rdr_takeOther_45 ?_
        refine sd_topi (y := nI (lk (nmM tx a q) sd_dest)) (sd_dsP) ?_
        refine lv_istore (lv' := [(5, .int (nI (lk (nmM tx a q) sd_dest))), (4, .int (nI s2)), (3, .int (nI q)), (0, .ref q3), (1, .int (nI a)), (2, .int (nI e))]) hx hb d_Rdr_takeOther_46 hl (by decide) rfl (fun ls hl => ?_)
        refine lv_iload hx hb d_Rdr_takeOther_48 (lv_at hl 1 rfl) ?_
        refine lv_if_ge (tgt := 57) hx hb d_Rdr_takeOther_50 (by decide) (fun c5 => ?_) (fun c5 => ?_)
        · refine lv_iconst (v := (nI 1)) hx hb d_Rdr_takeOther_57 (by decide) ?_
          refine lv_aload_n hx hb d_Rdr_takeOther_58 rfl (lv_at hl 3 rfl) ?_
          refine va_get (D := g.1) (ci := 4) (v := .ref q1) (C := "SignDesk$Reader") (T := F_Rdr) (N := 4) hx hb hts in_Rdr hown hK hP 0 rfl rfl 0 (by decide) (hts _ k_101) (fun _ h9 => h9) rfl d_Rdr_takeOther_59 ?_
          refine va_ldcS hx hb hown hE.2.2.2.2.2.2.1.2.2.1 d_Rdr_takeOther_62 ?_
          refine lv_iload hx hb d_Rdr_takeOther_64 (lv_at hl 1 rfl) ?_
          refine lv_iconst (v := (nI 1)) hx hb d_Rdr_takeOther_66 (by decide) ?_
          refine lv_iadd hx hb d_Rdr_takeOther_67 ?_
          refine sd_topi (y := nI (s2 + 1)) (nI_add _ _) ?_
          refine lv_iload_n hx hb d_Rdr_takeOther_68 rfl (lv_at hl 5 rfl) ?_
          refine sd_ri (va_runV (As := [.ref (gk g 2), .int (nI (s2 + 1)), .int (nI e)]) (rest := [.int (nI 1)]) ⟨hx, hb, hml, hown, hts⟩ (c_Txt_nameAmong l g q1 q5 n f tx hT 2 (by decide) (s2 + 1) (e) (by omega) (by omega)) (cwV 3 hts (sd_gV k_249 k_250 k_251 k_24 k_252) rfl rfl rfl (by decide +kernel) ⟨Nat.le_of_ble_eq_true rfl, Nat.le_of_ble_eq_true rfl⟩) (sd_preV hK hE (sd_fr hS hA0) (hP.sub (ws' := [(q1, .inr (6, [.ref q5, .int (nI n)])), (q5, .inl (gB g, 2000, .inl f))]) [1, 2] rfl) rfl rfl) rfl rfl hl.1 rfl (lv_room (Nat.le_of_ble_eq_true rfl)) d_Rdr_takeOther_69 ⟨Nat.zero_le _, Nat.zero_le _⟩) (fun r6 er6 => ?_)
          subst er6
          refine lv_iadd hx hb d_Rdr_takeOther_72 ?_
          refine sd_topi (y := nI (lk (nmM tx (s2 + 1) e) sd_jump)) (sd_jpP) ?_
          refine lv_istore (lv' := [(6, .int (nI (lk (nmM tx (s2 + 1) e) sd_jump))), (5, .int (nI (lk (nmM tx a q) sd_dest))), (4, .int (nI s2)), (3, .int (nI q)), (0, .ref q3), (1, .int (nI a)), (2, .int (nI e))]) hx hb d_Rdr_takeOther_73 hl (by decide) rfl (fun ls hl => ?_)
          refine lv_aload_n hx hb d_Rdr_takeOther_75 rfl (lv_at hl 4 rfl) ?_
          refine lv_iload_n hx hb d_Rdr_takeOther_76 rfl (lv_at hl 3 rfl) ?_
          refine lv_if_ge (tgt := 84) hx hb d_Rdr_takeOther_77 (by decide) (fun c7 => ?_) (fun c7 => ?_)
          · refine lv_iload_n hx hb d_Rdr_takeOther_84 rfl (lv_at hl 3 rfl) ?_
            refine lv_iconst (v := (nI 1)) hx hb d_Rdr_takeOther_85 (by decide) ?_
            refine lv_iadd hx hb d_Rdr_takeOther_86 ?_
            refine sd_topi (y := nI (q + 1)) (nI_add _ _) ?_
            refine lv_iload hx hb d_Rdr_takeOther_87 (lv_at hl 2 rfl) ?_
            refine lv_if_ge (tgt := 96) hx hb d_Rdr_takeOther_89 (by decide) (fun c8 => ?_) (fun c8 => ?_)
            · refine lv_iload hx hb d_Rdr_takeOther_96 (lv_at hl 2 rfl) ?_
              refine sd_ri (va_runV (As := [.int (nI (q + 1)), .int (nI s2)]) (rest := []) ⟨hx, hb, hml, hown, hts⟩ (c_Rdr_compBits l g q3 q1 q2 q7 q5 n fp f tx hT (q + 1) s2 (by omega) (by omega)) (cwV 2 hts (sd_gV k_348 k_350 k_6 k_26 k_351) rfl rfl rfl (by decide +kernel) ⟨Nat.le_of_ble_eq_true rfl, Nat.le_of_ble_eq_true rfl⟩) (sd_preV hK hE (sd_fr hS hA0) (hP.sub (ws' := [(q3, .inr (4, [.ref q1, .ref q2, .ref q7, .int fp])), (q1, .inr (6, [.ref q5, .int (nI n)])), (q5, .inl (gB g, 2000, .inl f))]) [0, 1, 2] rfl) rfl rfl) rfl rfl hl.1 rfl (lv_room (Nat.le_of_ble_eq_true rfl)) d_Rdr_takeOther_98 ⟨Nat.zero_le _, Nat.zero_le _⟩) (fun r9 er9 => ?_)
              subst er9
              refine lv_istore (lv' := [(7, .int (nI (lk (nmM tx (q + 1) s2) sd_comp) - 1)), (6, .int (nI (lk (nmM tx (s2 + 1) e) sd_jump))), (5, .int (nI (lk (nmM tx a q) sd_dest))), (4, .int (nI s2)), (3, .int (nI q)), (0, .ref q3), (1, .int (nI a)), (2, .int (nI e))]) hx hb d_Rdr_takeOther_101 hl (by decide) rfl (fun ls hl => ?_)
              refine lv_iload_n hx hb d_Rdr_takeOther_103 rfl (lv_at hl 4 rfl) ?_
              refine lv_if_lt (tgt := 116) hx hb d_Rdr_takeOther_104 (by decide) (fun c10 => ?_) (fun c10 => ?_)
              · exact absurd c10 (nI_pos (by omega))
              · refine lv_iload hx hb d_Rdr_takeOther_107 (lv_at hl 2 rfl) ?_
                refine lv_if_ne (tgt := 116) hx hb d_Rdr_takeOther_109 (by decide) (fun c11 => ?_) (fun c11 => ?_)
                · have hdw := mt (nI_eq (b := 0) (by omega) (by omega)).mpr c11
                  refine lv_iconst (v := (nI 0)) hx hb d_Rdr_takeOther_116 (by decide) ?_
                  refine lv_istore (lv' := [(8, .int (nI 0)), (7, .int (nI (lk (nmM tx (q + 1) s2) sd_comp) - 1)), (6, .int (nI (lk (nmM tx (s2 + 1) e) sd_jump))), (5, .int (nI (lk (nmM tx a q) sd_dest))), (4, .int (nI s2)), (3, .int (nI q)), (0, .ref q3), (1, .int (nI a)), (2, .int (nI e))]) hx hb d_Rdr_takeOther_117 hl (by decide) rfl (fun ls hl => ?_)
                  refine lv_iload hx hb d_Rdr_takeOther_119 (lv_at hl 4 rfl) ?_
                  refine lv_if_lt (tgt := 133) hx hb d_Rdr_takeOther_121 (by decide) (fun c12 => ?_) (fun c12 => ?_)
                  · exact absurd c12 (nI_pos (by omega))
                  · refine lv_iload hx hb d_Rdr_takeOther_124 (lv_at hl 2 rfl) ?_
                    refine lv_if_ne (tgt := 133) hx hb d_Rdr_takeOther_126 (by decide) (fun c14 => ?_) (fun c14 => ?_)
                    · have hjw := mt (nI_eq (b := 0) (by omega) (by omega)).mpr c14
                      refine lv_iconst (v := (nI 0)) hx hb d_Rdr_takeOther_133 (by decide) ?_
                      refine lv_istore (lv' := [(9, .int (nI 0)), (8, .int (nI 0)), (7, .int (nI (lk (nmM tx (q + 1) s2) sd_comp) - 1)), (6, .int (nI (lk (nmM tx (s2 + 1) e) sd_jump))), (5, .int (nI (lk (nmM tx a q) sd_dest))), (4, .int (nI s2)), (3, .int (nI q)), (0, .ref q3), (1, .int (nI a)), (2, .int (nI e))]) hx hb d_Rdr_takeOther_134 hl (by decide) rfl (fun ls hl => ?_)
                      refine lv_iload hx hb d_Rdr_takeOther_136 (lv_at hl 1 rfl) ?_
                      refine lv_if_ne (tgt := 151) hx hb d_Rdr_takeOther_138 (by decide) (fun c15 => ?_) (fun c15 => ?_)
                      · exact absurd rfl c15
                      · refine lv_iload hx hb d_Rdr_takeOther_141 (lv_at hl 0 rfl) ?_
                        refine lv_if_ne (tgt := 151) hx hb d_Rdr_takeOther_143 (by decide) (fun c16 => ?_) (fun c16 => ?_)
                        · exact absurd rfl c16
                        · refine lv_iload hx hb d_Rdr_takeOther_146 (lv_at hl 2 rfl) ?_
                          refine lv_if_ge (tgt := 153) hx hb d_Rdr_takeOther_148 (by decide) (fun c17 => ?_) (fun c17 => ?_)
                          · have hc0 : ¬ (lk (nmM tx (q + 1) s2) sd_comp) = 0 := fun q => absurd c17 (by rw [q]; decide)
                            have hok : ¬ ((q < e ∧ (lk (nmM tx a q) sd_dest) = 0) ∨ (s2 < e ∧ (lk (nmM tx (s2 + 1) e) sd_jump) = 0) ∨ (lk (nmM tx (q + 1) s2) sd_comp) = 0) := by
                              rintro (h | h | h)
                              · exact hdw h.2
                              · exact hjw h.2
                              · exact hc0 h
                            refine lv_aload_n hx hb d_Rdr_takeOther_153 rfl (lv_at hl 7 rfl) ?_
                            refine va_get (D := g.1) (ci := 4) (v := .ref q2) (C := "SignDesk$Reader") (T := F_Rdr) (N := 4) hx hb hts in_Rdr hown hK hP 0 rfl rfl 1 (by decide) (hts _ k_102) (fun _ h9 => h9) rfl d_Rdr_takeOther_154 ?_
                            refine sd_ri (va_runV (As := []) (rest := []) ⟨hx, hb, hml, hown, hts⟩ (c_Prg_isFull l g q2 q6 (wn st) pw hPR.1) (cwV 0 hts (sd_gV k_308 k_309 k_310 k_25 k_311) rfl rfl rfl (by decide +kernel) ⟨Nat.le_of_ble_eq_true rfl, Nat.le_of_ble_eq_true rfl⟩) (sd_preV hK hE (sd_fr hS hA0) (hP.sub (ws' := [(q2, .inr (3, [.ref q6, .int (nI (wn st))])), (q6, .inl (gI g, 600, .inl pw))]) [3, 4] rfl) rfl rfl) rfl rfl hl.1 rfl (lv_room (Nat.le_of_ble_eq_true rfl)) d_Rdr_takeOther_157 ⟨Nat.zero_le _, Nat.zero_le _⟩) (fun r18 er18 => ?_)
                            subst er18
                            refine lv_if_eq (tgt := 165) hx hb d_Rdr_takeOther_160 (by decide) (fun c19 => ?_) (fun c19 => ?_)
                            · have c19 := sb_eq0.mp c19
                              refine lv_aload_n hx hb d_Rdr_takeOther_165 rfl (lv_at hl 7 rfl) ?_
                              refine va_get (D := g.1) (ci := 4) (v := .ref q2) (C := "SignDesk$Reader") (T := F_Rdr) (N := 4) hx hb hts in_Rdr hown hK hP 0 rfl rfl 1 (by decide) (hts _ k_102) (fun _ h9 => h9) rfl d_Rdr_takeOther_166 ?_
                              refine lv_ldc (v := nI 57344) hx hb hown (hts _ k_358) d_Rdr_takeOther_169 ?_
                              refine lv_iload hx hb d_Rdr_takeOther_171 (lv_at hl 2 rfl) ?_
                              refine sd_topi (y := nI ((lk (nmM tx (q + 1) s2) sd_comp) - 1)) (m1_up hc0) ?_
                              refine lv_iadd hx hb d_Rdr_takeOther_173 ?_
                              refine sd_topi (y := nI (57344 + ((lk (nmM tx (q + 1) s2) sd_comp) - 1))) (nI_add _ _) ?_
                              refine lv_bipush (v := (nI 8)) hx hb d_Rdr_takeOther_174 (by decide) ?_
                              refine lv_iload hx hb d_Rdr_takeOther_176 (lv_at hl 4 rfl) ?_
                              refine lv_imul hx hb d_Rdr_takeOther_178 ?_
                              refine sd_topi (y := nI (8 * (lk (nmM tx a q) sd_dest))) (pk_mul _ _) ?_
                              refine lv_iadd hx hb d_Rdr_takeOther_179 ?_
                              refine sd_topi (y := nI ((57344 + ((lk (nmM tx (q + 1) s2) sd_comp) - 1)) + (8 * (lk (nmM tx a q) sd_dest)))) (nI_add _ _) ?_
                              refine lv_iload hx hb d_Rdr_takeOther_180 (lv_at hl 3 rfl) ?_
                              refine lv_iadd hx hb d_Rdr_takeOther_182 ?_
                              refine sd_topi (y := nI (((57344 + ((lk (nmM tx (q + 1) s2) sd_comp) - 1)) + (8 * (lk (nmM tx a q) sd_dest))) + (lk (nmM tx (s2 + 1) e) sd_jump))) (nI_add _ _) ?_
                              refine sd_topi (y := nI (57344 + ((lk (nmM tx (q + 1) s2) sd_comp) - 1) + 8 * (lk (nmM tx a q) sd_dest) + (lk (nmM tx (s2 + 1) e) sd_jump))) (congrArg nI (by omega)) ?_
                              have hPc := hP.sub (ws' := [(q2, .inr (3, [.ref q6, .int (nI (wn st))])), (q6, .inl (gI g, 600, .inl pw))]) [3, 4] rfl
                              have hDc := hD.sub (ws' := [(q2, .inr (3, [.ref q6, .int (nI (wn st))])), (q6, .inl (gI g, 600, .inl pw))]) [3, 4] (by decide) rfl
                              have hFc := va_free (wc := [(q2, .inr (3, [.ref q6, .int (nI (wn st))])), (q6, .inl (gI g, 600, .inl pw))]) hD hS hA [3, 4] rfl
                              refine sd_cv (va_runV (As := [.int (nI (57344 + ((lk (nmM tx (q + 1) s2) sd_comp) - 1) + 8 * (lk (nmM tx a q) sd_dest) + (lk (nmM tx (s2 + 1) e) sd_jump)))]) (rest := []) ⟨hx, hb, hml, hown, hts⟩ (c_Prg_add l g q2 q6 (wn st) pw hPR.1 (nI (57344 + ((lk (nmM tx (q + 1) s2) sd_comp) - 1) + 8 * (lk (nmM tx a q) sd_dest) + (lk (nmM tx (s2 + 1) e) sd_jump))) (by omega) s.heap.size) (cwV 1 hts (sd_gV k_321 k_322 k_323 k_25 k_324) rfl rfl rfl (by decide +kernel) ⟨Nat.le_of_ble_eq_true rfl, Nat.le_of_ble_eq_true rfl⟩) (sd_preVU hK hE hS hA0 hs0 hPc hDc rfl rfl) rfl rfl hl.1 rfl (lv_room (Nat.le_of_ble_eq_true rfl)) d_Rdr_takeOther_183 ⟨Nat.zero_le _, Nat.zero_le _⟩) hS hFc (fun u H1 locs hw hP1 hD1 hk1 hS => ?_)
                              obtain ⟨hP, hD⟩ := va_join (wr := [(q3, .inr (4, [.ref q1, .ref q2, .ref q7, .int fp])), (q1, .inr (6, [.ref q5, .int (nI n)])), (q5, .inl (gB g, 2000, .inl f)), (q7, .inr (5, [.ref q1, .ref q8, .ref q9, .ref q10, .int (nI (sn st))])), (q8, .inl (gI g, 40, .inl s1)), (q9, .inl (gI g, 40, .inl s2a)), (q10, .inl (gI g, 40, .inl s3))]) (w1 := [(q2, .inr (3, [.ref q6, .int (nI (wn st + 1))])), (q6, .inl (gI g, 600, .inl (upd pw (wn st) (nI (57344 + ((lk (nmM tx (q + 1) s2) sd_comp) - 1) + 8 * (lk (nmM tx a q) sd_dest) + (lk (nmM tx (s2 + 1) e) sd_jump))))))]) hP hD [3, 4] [0, 1, 2, 5, 6, 7, 8] rfl rfl (by decide) (by decide) hk1 hFc hP1 hD1
                              clear hPc hDc hFc hk1 hP1 hD1
                              generalize H1 = H at hP hS ⊢
                              have hP : sdP g [(q3, .inr (4, [.ref q1, .ref q2, .ref q7, .int fp])), (q1, .inr (6, [.ref q5, .int (nI n)])), (q5, .inl (gB g, 2000, .inl f)), (q7, .inr (5, [.ref q1, .ref q8, .ref q9, .ref q10, .int (nI (sn st))])), (q8, .inl (gI g, 40, .inl s1)), (q9, .inl (gI g, 40, .inl s2a)), (q10, .inl (gI g, 40, .inl s3)), (q2, .inr (3, [.ref q6, .int (nI (wn st + 1))])), (q6, .inl (gI g, 600, .inl (upd pw (wn st) (nI (57344 + ((lk (nmM tx (q + 1) s2) sd_comp) - 1) + 8 * (lk (nmM tx a q) sd_dest) + (lk (nmM tx (s2 + 1) e) sd_jump))))))] H := hP
                              have hD : va_D A [(q3, .inr (4, [.ref q1, .ref q2, .ref q7, .int fp])), (q1, .inr (6, [.ref q5, .int (nI n)])), (q5, .inl (gB g, 2000, .inl f)), (q7, .inr (5, [.ref q1, .ref q8, .ref q9, .ref q10, .int (nI (sn st))])), (q8, .inl (gI g, 40, .inl s1)), (q9, .inl (gI g, 40, .inl s2a)), (q10, .inl (gI g, 40, .inl s3)), (q2, .inr (3, [.ref q6, .int (nI (wn st + 1))])), (q6, .inl (gI g, 600, .inl (upd pw (wn st) (nI (57344 + ((lk (nmM tx (q + 1) s2) sd_comp) - 1) + 8 * (lk (nmM tx a q) sd_dest) + (lk (nmM tx (s2 + 1) e) sd_jump))))))] := hD
                              refine lv_iconst (v := (nI 0)) hx hb d_Rdr_takeOther_186 (by decide) ?_
                              have hP9 := hP.sub (ws' := [(q3, .inr (4, [.ref q1, .ref q2, .ref q7, .int fp])), (q1, .inr (6, [.ref q5, .int (nI n)])), (q5, .inl (gB g, 2000, .inl f)), (q2, .inr (3, [.ref q6, .int (nI (wn st + 1))])), (q6, .inl (gI g, 600, .inl (upd pw (wn st) (nI (57344 + ((lk (nmM tx (q + 1) s2) sd_comp) - 1) + 8 * (lk (nmM tx a q) sd_dest) + (lk (nmM tx (s2 + 1) e) sd_jump)))))), (q7, .inr (5, [.ref q1, .ref q8, .ref q9, .ref q10, .int (nI (sn st))])), (q8, .inl (gI g, 40, .inl s1)), (q9, .inl (gI g, 40, .inl s2a)), (q10, .inl (gI g, 40, .inl s3))]) [0, 1, 2, 7, 8, 3, 4, 5, 6] rfl
                              have hD9 := hD.sub (ws' := [(q3, .inr (4, [.ref q1, .ref q2, .ref q7, .int fp])), (q1, .inr (6, [.ref q5, .int (nI n)])), (q5, .inl (gB g, 2000, .inl f)), (q2, .inr (3, [.ref q6, .int (nI (wn st + 1))])), (q6, .inl (gI g, 600, .inl (upd pw (wn st) (nI (57344 + ((lk (nmM tx (q + 1) s2) sd_comp) - 1) + 8 * (lk (nmM tx a q) sd_dest) + (lk (nmM tx (s2 + 1) e) sd_jump)))))), (q7, .inr (5, [.ref q1, .ref q8, .ref q9, .ref q10, .int (nI (sn st))])), (q8, .inl (gI g, 40, .inl s1)), (q9, .inl (gI g, 40, .inl s2a)), (q10, .inl (gI g, 40, .inl s3))]) [0, 1, 2, 7, 8, 3, 4, 5, 6] (by decide) rfl
                              exact W.iret (v := (nI 0)) hx hb hr (fun t ht hW => ⟨⟨_, (pushW st (57344 + ((lk (nmM tx (q + 1) s2) sd_comp) - 1) + 8 * (lk (nmM tx a q) sd_dest) + (lk (nmM tx (s2 + 1) e) sd_jump)) 0, upd pw (wn st) (nI (57344 + ((lk (nmM tx (q + 1) s2) sd_comp) - 1) + 8 * (lk (nmM tx a q) sd_dest) + (lk (nmM tx (s2 + 1) e) sd_jump))), s1, s2a, s3), rfl, ⟨⟨0, by rw [hG, if_neg hok, if_neg c19], rfl⟩, PR_push (y := 0) hPR (by omega), hSR⟩, by rw [ht]; exact hP9, by rw [hAe]; exact hD9⟩, hS.F ht⟩) hS.2.2 d_Rdr_takeOther_187
                            · have c19 := sb_ne0.mp c19
                              refine lv_iconst (v := (nI 2)) hx hb d_Rdr_takeOther_163 (by decide) ?_
                              have hP9 := hP.sub (ws' := [(q3, .inr (4, [.ref q1, .ref q2, .ref q7, .int fp])), (q1, .inr (6, [.ref q5, .int (nI n)])), (q5, .inl (gB g, 2000, .inl f)), (q2, .inr (3, [.ref q6, .int (nI (wn st))])), (q6, .inl (gI g, 600, .inl pw)), (q7, .inr (5, [.ref q1, .ref q8, .ref q9, .ref q10, .int (nI (sn st))])), (q8, .inl (gI g, 40, .inl s1)), (q9, .inl (gI g, 40, .inl s2a)), (q10, .inl (gI g, 40, .inl s3))]) [0, 1, 2, 3, 4, 5, 6, 7, 8] rfl
                              have hD9 := hD.sub (ws' := [(q3, .inr (4, [.ref q1, .ref q2, .ref q7, .int fp])), (q1, .inr (6, [.ref q5, .int (nI n)])), (q5, .inl (gB g, 2000, .inl f)), (q2, .inr (3, [.ref q6, .int (nI (wn st))])), (q6, .inl (gI g, 600, .inl pw)), (q7, .inr (5, [.ref q1, .ref q8, .ref q9, .ref q10, .int (nI (sn st))])), (q8, .inl (gI g, 40, .inl s1)), (q9, .inl (gI g, 40, .inl s2a)), (q10, .inl (gI g, 40, .inl s3))]) [0, 1, 2, 3, 4, 5, 6, 7, 8] (by decide) rfl
                              exact W.iret (v := (nI 2)) hx hb hr (fun t ht hW => ⟨⟨_, (st, pw, s1, s2a, s3), rfl, ⟨⟨2, by rw [hG, if_neg hok, if_pos c19], rfl⟩, hPR, hSR⟩, by rw [ht]; exact hP9, by rw [hAe]; exact hD9⟩, hS.F ht⟩) hS.2.2 d_Rdr_takeOther_164
                          · have hc0 : (lk (nmM tx (q + 1) s2) sd_comp) = 0 := (m1_lt (by omega)).mp (Int32.not_le.mp c17)
                            refine lv_iconst (v := (nI 1)) hx hb d_Rdr_takeOther_151 (by decide) ?_
                            have hP9 := hP.sub (ws' := [(q3, .inr (4, [.ref q1, .ref q2, .ref q7, .int fp])), (q1, .inr (6, [.ref q5, .int (nI n)])), (q5, .inl (gB g, 2000, .inl f)), (q2, .inr (3, [.ref q6, .int (nI (wn st))])), (q6, .inl (gI g, 600, .inl pw)), (q7, .inr (5, [.ref q1, .ref q8, .ref q9, .ref q10, .int (nI (sn st))])), (q8, .inl (gI g, 40, .inl s1)), (q9, .inl (gI g, 40, .inl s2a)), (q10, .inl (gI g, 40, .inl s3))]) [0, 1, 2, 3, 4, 5, 6, 7, 8] rfl
                            have hD9 := hD.sub (ws' := [(q3, .inr (4, [.ref q1, .ref q2, .ref q7, .int fp])), (q1, .inr (6, [.ref q5, .int (nI n)])), (q5, .inl (gB g, 2000, .inl f)), (q2, .inr (3, [.ref q6, .int (nI (wn st))])), (q6, .inl (gI g, 600, .inl pw)), (q7, .inr (5, [.ref q1, .ref q8, .ref q9, .ref q10, .int (nI (sn st))])), (q8, .inl (gI g, 40, .inl s1)), (q9, .inl (gI g, 40, .inl s2a)), (q10, .inl (gI g, 40, .inl s3))]) [0, 1, 2, 3, 4, 5, 6, 7, 8] (by decide) rfl
                            exact W.iret (v := (nI 1)) hx hb hr (fun t ht hW => ⟨⟨_, (st, pw, s1, s2a, s3), rfl, ⟨⟨1, by rw [hG, if_pos (Or.inr (Or.inr hc0))], rfl⟩, hPR, hSR⟩, by rw [ht]; exact hP9, by rw [hAe]; exact hD9⟩, hS.F ht⟩) hS.2.2 d_Rdr_takeOther_152
                    · have hjw := (nI_eq (b := 0) (by omega) (by omega)).mp c14
                      refine lv_iconst (v := (nI 1)) hx hb d_Rdr_takeOther_129 (by decide) ?_
                      refine lv_goto (tgt := 134) hx hb d_Rdr_takeOther_130 (by decide) ?_
                      refine lv_istore (lv' := [(9, .int (nI 1)), (8, .int (nI 0)), (7, .int (nI (lk (nmM tx (q + 1) s2) sd_comp) - 1)), (6, .int (nI (lk (nmM tx (s2 + 1) e) sd_jump))), (5, .int (nI (lk (nmM tx a q) sd_dest))), (4, .int (nI s2)), (3, .int (nI q)), (0, .ref q3), (1, .int (nI a)), (2, .int (nI e))]) hx hb d_Rdr_takeOther_134 hl (by decide) rfl (fun ls hl => ?_)
                      refine lv_iload hx hb d_Rdr_takeOther_136 (lv_at hl 1 rfl) ?_
                      refine lv_if_ne (tgt := 151) hx hb d_Rdr_takeOther_138 (by decide) (fun c21 => ?_) (fun c21 => ?_)
                      · exact absurd rfl c21
                      · refine lv_iload hx hb d_Rdr_takeOther_141 (lv_at hl 0 rfl) ?_
                        refine lv_if_ne (tgt := 151) hx hb d_Rdr_takeOther_143 (by decide) (fun c22 => ?_) (fun c22 => ?_)
                        · refine lv_iconst (v := (nI 1)) hx hb d_Rdr_takeOther_151 (by decide) ?_
                          have hP9 := hP.sub (ws' := [(q3, .inr (4, [.ref q1, .ref q2, .ref q7, .int fp])), (q1, .inr (6, [.ref q5, .int (nI n)])), (q5, .inl (gB g, 2000, .inl f)), (q2, .inr (3, [.ref q6, .int (nI (wn st))])), (q6, .inl (gI g, 600, .inl pw)), (q7, .inr (5, [.ref q1, .ref q8, .ref q9, .ref q10, .int (nI (sn st))])), (q8, .inl (gI g, 40, .inl s1)), (q9, .inl (gI g, 40, .inl s2a)), (q10, .inl (gI g, 40, .inl s3))]) [0, 1, 2, 3, 4, 5, 6, 7, 8] rfl
                          have hD9 := hD.sub (ws' := [(q3, .inr (4, [.ref q1, .ref q2, .ref q7, .int fp])), (q1, .inr (6, [.ref q5, .int (nI n)])), (q5, .inl (gB g, 2000, .inl f)), (q2, .inr (3, [.ref q6, .int (nI (wn st))])), (q6, .inl (gI g, 600, .inl pw)), (q7, .inr (5, [.ref q1, .ref q8, .ref q9, .ref q10, .int (nI (sn st))])), (q8, .inl (gI g, 40, .inl s1)), (q9, .inl (gI g, 40, .inl s2a)), (q10, .inl (gI g, 40, .inl s3))]) [0, 1, 2, 3, 4, 5, 6, 7, 8] (by decide) rfl
                          exact W.iret (v := (nI 1)) hx hb hr (fun t ht hW => ⟨⟨_, (st, pw, s1, s2a, s3), rfl, ⟨⟨1, by rw [hG, if_pos (Or.inr (Or.inl ⟨hs2, hjw⟩))], rfl⟩, hPR, hSR⟩, by rw [ht]; exact hP9, by rw [hAe]; exact hD9⟩, hS.F ht⟩) hS.2.2 d_Rdr_takeOther_152
                        · exact absurd c22 (by decide)
                · have hdw := (nI_eq (b := 0) (by omega) (by omega)).mp c11
                  refine lv_iconst (v := (nI 1)) hx hb d_Rdr_takeOther_112 (by decide) ?_
                  refine lv_goto (tgt := 117) hx hb d_Rdr_takeOther_113 (by decide) ?_
                  refine lv_istore (lv' := [(8, .int (nI 1)), (7, .int (nI (lk (nmM tx (q + 1) s2) sd_comp) - 1)), (6, .int (nI (lk (nmM tx (s2 + 1) e) sd_jump))), (5, .int (nI (lk (nmM tx a q) sd_dest))), (4, .int (nI s2)), (3, .int (nI q)), (0, .ref q3), (1, .int (nI a)), (2, .int (nI e))]) hx hb d_Rdr_takeOther_117 hl (by decide) rfl (fun ls hl => ?_)
                  refine lv_iload hx hb d_Rdr_takeOther_119 (lv_at hl 4 rfl) ?_
                  refine lv_if_lt (tgt := 133) hx hb d_Rdr_takeOther_121 (by decide) (fun c23 => ?_) (fun c23 => ?_)
                  · exact absurd c23 (nI_pos (by omega))
                  · refine lv_iload hx hb d_Rdr_takeOther_124 (lv_at hl 2 rfl) ?_
                    refine lv_if_ne (tgt := 133) hx hb d_Rdr_takeOther_126 (by decide) (fun c25 => ?_) (fun c25 => ?_)
                    · have hjw := mt (nI_eq (b := 0) (by omega) (by omega)).mpr c25
                      refine lv_iconst (v := (nI 0)) hx hb d_Rdr_takeOther_133 (by decide) ?_
                      refine lv_istore (lv' := [(9, .int (nI 0)), (8, .int (nI 1)), (7, .int (nI (lk (nmM tx (q + 1) s2) sd_comp) - 1)), (6, .int (nI (lk (nmM tx (s2 + 1) e) sd_jump))), (5, .int (nI (lk (nmM tx a q) sd_dest))), (4, .int (nI s2)), (3, .int (nI q)), (0, .ref q3), (1, .int (nI a)), (2, .int (nI e))]) hx hb d_Rdr_takeOther_134 hl (by decide) rfl (fun ls hl => ?_)
                      refine lv_iload hx hb d_Rdr_takeOther_136 (lv_at hl 1 rfl) ?_
                      refine lv_if_ne (tgt := 151) hx hb d_Rdr_takeOther_138 (by decide) (fun c26 => ?_) (fun c26 => ?_)
                      · refine lv_iconst (v := (nI 1)) hx hb d_Rdr_takeOther_151 (by decide) ?_
                        have hP9 := hP.sub (ws' := [(q3, .inr (4, [.ref q1, .ref q2, .ref q7, .int fp])), (q1, .inr (6, [.ref q5, .int (nI n)])), (q5, .inl (gB g, 2000, .inl f)), (q2, .inr (3, [.ref q6, .int (nI (wn st))])), (q6, .inl (gI g, 600, .inl pw)), (q7, .inr (5, [.ref q1, .ref q8, .ref q9, .ref q10, .int (nI (sn st))])), (q8, .inl (gI g, 40, .inl s1)), (q9, .inl (gI g, 40, .inl s2a)), (q10, .inl (gI g, 40, .inl s3))]) [0, 1, 2, 3, 4, 5, 6, 7, 8] rfl
                        have hD9 := hD.sub (ws' := [(q3, .inr (4, [.ref q1, .ref q2, .ref q7, .int fp])), (q1, .inr (6, [.ref q5, .int (nI n)])), (q5, .inl (gB g, 2000, .inl f)), (q2, .inr (3, [.ref q6, .int (nI (wn st))])), (q6, .inl (gI g, 600, .inl pw)), (q7, .inr (5, [.ref q1, .ref q8, .ref q9, .ref q10, .int (nI (sn st))])), (q8, .inl (gI g, 40, .inl s1)), (q9, .inl (gI g, 40, .inl s2a)), (q10, .inl (gI g, 40, .inl s3))]) [0, 1, 2, 3, 4, 5, 6, 7, 8] (by decide) rfl
                        exact W.iret (v := (nI 1)) hx hb hr (fun t ht hW => ⟨⟨_, (st, pw, s1, s2a, s3), rfl, ⟨⟨1, by rw [hG, if_pos (Or.inl ⟨hq2, hdw⟩)], rfl⟩, hPR, hSR⟩, by rw [ht]; exact hP9, by rw [hAe]; exact hD9⟩, hS.F ht⟩) hS.2.2 d_Rdr_takeOther_152
                      · exact absurd c26 (by decide)
                    · have hjw := (nI_eq (b := 0) (by omega) (by omega)).mp c25
                      refine lv_iconst (v := (nI 1)) hx hb d_Rdr_takeOther_129 (by decide) ?_
                      refine lv_goto (tgt := 134) hx hb d_Rdr_takeOther_130 (by decide) ?_
                      refine lv_istore (lv' := [(9, .int (nI 1)), (8, .int (nI 1)), (7, .int (nI (lk (nmM tx (q + 1) s2) sd_comp) - 1)), (6, .int (nI (lk (nmM tx (s2 + 1) e) sd_jump))), (5, .int (nI (lk (nmM tx a q) sd_dest))), (4, .int (nI s2)), (3, .int (nI q)), (0, .ref q3), (1, .int (nI a)), (2, .int (nI e))]) hx hb d_Rdr_takeOther_134 hl (by decide) rfl (fun ls hl => ?_)
                      refine lv_iload hx hb d_Rdr_takeOther_136 (lv_at hl 1 rfl) ?_
                      refine lv_if_ne (tgt := 151) hx hb d_Rdr_takeOther_138 (by decide) (fun c27 => ?_) (fun c27 => ?_)
                      · refine lv_iconst (v := (nI 1)) hx hb d_Rdr_takeOther_151 (by decide) ?_
                        have hP9 := hP.sub (ws' := [(q3, .inr (4, [.ref q1, .ref q2, .ref q7, .int fp])), (q1, .inr (6, [.ref q5, .int (nI n)])), (q5, .inl (gB g, 2000, .inl f)), (q2, .inr (3, [.ref q6, .int (nI (wn st))])), (q6, .inl (gI g, 600, .inl pw)), (q7, .inr (5, [.ref q1, .ref q8, .ref q9, .ref q10, .int (nI (sn st))])), (q8, .inl (gI g, 40, .inl s1)), (q9, .inl (gI g, 40, .inl s2a)), (q10, .inl (gI g, 40, .inl s3))]) [0, 1, 2, 3, 4, 5, 6, 7, 8] rfl
                        have hD9 := hD.sub (ws' := [(q3, .inr (4, [.ref q1, .ref q2, .ref q7, .int fp])), (q1, .inr (6, [.ref q5, .int (nI n)])), (q5, .inl (gB g, 2000, .inl f)), (q2, .inr (3, [.ref q6, .int (nI (wn st))])), (q6, .inl (gI g, 600, .inl pw)), (q7, .inr (5, [.ref q1, .ref q8, .ref q9, .ref q10, .int (nI (sn st))])), (q8, .inl (gI g, 40, .inl s1)), (q9, .inl (gI g, 40, .inl s2a)), (q10, .inl (gI g, 40, .inl s3))]) [0, 1, 2, 3, 4, 5, 6, 7, 8] (by decide) rfl
                        exact W.iret (v := (nI 1)) hx hb hr (fun t ht hW => ⟨⟨_, (st, pw, s1, s2a, s3), rfl, ⟨⟨1, by rw [hG, if_pos (Or.inl ⟨hq2, hdw⟩)], rfl⟩, hPR, hSR⟩, by rw [ht]; exact hP9, by rw [hAe]; exact hD9⟩, hS.F ht⟩) hS.2.2 d_Rdr_takeOther_152
                      · exact absurd c27 (by decide)
            · exact absurd (nI_pos' (by omega)) c8
          · exact absurd (nI_pos' (by omega)) c7
        · exact absurd (nI_pos' (by omega)) c5
      · exact absurd (nI_pos' (by omega)) c3
    · have hs : oF tx 59 a e = e := ff_eq _ _ _ (by omega) (by omega) hs4 (fun h => absurd h (by omega))
      have hG := spOther_g (tx := tx) (st := st) (D := (lk (nmM tx a q) sd_dest)) (J := 0) (ca := (q + 1)) hq hs (if_pos hq2).symm (if_pos hq2).symm (if_neg (Nat.lt_irrefl e)).symm rfl
      have hDl : (lk (nmM tx a q) sd_dest) ≤ 7 := lk_le sd_dest_lt
      have hJl : 0 ≤ 7 := by decide
      have hCl : (lk (nmM tx (q + 1) e) sd_comp) ≤ 8129 := lk_le sd_comp_lt
      refine lv_istore (lv' := [(4, .int (-1)), (3, .int (nI q)), (0, .ref q3), (1, .int (nI a)), (2, .int (nI e))]) hx hb d_Rdr_takeOther_23 hl (by decide) rfl (fun ls hl => ?_)
      refine lv_iload_n hx hb d_Rdr_takeOther_25 rfl (lv_at hl 1 rfl) ?_
      refine lv_if_ge (tgt := 33) hx hb d_Rdr_takeOther_26 (by decide) (fun c28 => ?_) (fun c28 => ?_)
      · refine lv_iconst (v := (nI 1)) hx hb d_Rdr_takeOther_33 (by decide) ?_
        refine lv_aload_n hx hb d_Rdr_takeOther_34 rfl (lv_at hl 2 rfl) ?_
        refine va_get (D := g.1) (ci := 4) (v := .ref q1) (C := "SignDesk$Reader") (T := F_Rdr) (N := 4) hx hb hts in_Rdr hown hK hP 0 rfl rfl 0 (by decide) (hts _ k_101) (fun _ h9 => h9) rfl d_Rdr_takeOther_35 ?_
        refine va_ldcS hx hb hown hE.2.2.2.2.2.2.1.2.1 d_Rdr_takeOther_38 ?_
        refine lv_iload_n hx hb d_Rdr_takeOther_40 rfl (lv_at hl 3 rfl) ?_
        refine lv_iload_n hx hb d_Rdr_takeOther_41 rfl (lv_at hl 1 rfl) ?_
        refine sd_ri (va_runV (As := [.ref (gk g 1), .int (nI a), .int (nI q)]) (rest := [.int (nI 1)]) ⟨hx, hb, hml, hown, hts⟩ (c_Txt_nameAmong l g q1 q5 n f tx hT 1 (by decide) (a) (q) (by omega) (by omega)) (cwV 3 hts (sd_gV k_249 k_250 k_251 k_24 k_252) rfl rfl rfl (by decide +kernel) ⟨Nat.le_of_ble_eq_true rfl, Nat.le_of_ble_eq_true rfl⟩) (sd_preV hK hE (sd_fr hS hA0) (hP.sub (ws' := [(q1, .inr (6, [.ref q5, .int (nI n)])), (q5, .inl (gB g, 2000, .inl f))]) [1, 2] rfl) rfl rfl) rfl rfl hl.1 rfl (lv_room (Nat.le_of_ble_eq_true rfl)) d_Rdr_takeOther_42 ⟨Nat.zero_le _, Nat.zero_le _⟩) (fun r29 er29 => ?_)
        subst er29
        refine lv_iadd hx hb d_Rdr_takeOther_45 ?_
        refine sd_topi (y := nI (lk (nmM tx a q) sd_dest)) (sd_dsP) ?_
        refine lv_istore (lv' := [(5, .int (nI (lk (nmM tx a q) sd_dest))), (4, .int (-1)), (3, .int (nI q)), (0, .ref q3), (1, .int (nI a)), (2, .int (nI e))]) hx hb d_Rdr_takeOther_46 hl (by decide) rfl (fun ls hl => ?_)
        refine lv_iload hx hb d_Rdr_takeOther_48 (lv_at hl 1 rfl) ?_
        refine lv_if_ge (tgt := 57) hx hb d_Rdr_takeOther_50 (by decide) (fun c30 => ?_) (fun c30 => ?_)
        · exact absurd c30 (by decide)
        · refine lv_iconst (v := (nI 0)) hx hb d_Rdr_takeOther_53 (by decide) ?_
          refine lv_goto (tgt := 73) hx hb d_Rdr_takeOther_54 (by decide) ?_
          refine lv_istore (lv' := [(6, .int (nI 0)), (5, .int (nI (lk (nmM tx a q) sd_dest))), (4, .int (-1)), (3, .int (nI q)), (0, .ref q3), (1, .int (nI a)), (2, .int (nI e))]) hx hb d_Rdr_takeOther_73 hl (by decide) rfl (fun ls hl => ?_)
          refine lv_aload_n hx hb d_Rdr_takeOther_75 rfl (lv_at hl 4 rfl) ?_
          refine lv_iload_n hx hb d_Rdr_takeOther_76 rfl (lv_at hl 3 rfl) ?_
          refine lv_if_ge (tgt := 84) hx hb d_Rdr_takeOther_77 (by decide) (fun c31 => ?_) (fun c31 => ?_)
          · refine lv_iload_n hx hb d_Rdr_takeOther_84 rfl (lv_at hl 3 rfl) ?_
            refine lv_iconst (v := (nI 1)) hx hb d_Rdr_takeOther_85 (by decide) ?_
            refine lv_iadd hx hb d_Rdr_takeOther_86 ?_
            refine sd_topi (y := nI (q + 1)) (nI_add _ _) ?_
            refine lv_iload hx hb d_Rdr_takeOther_87 (lv_at hl 2 rfl) ?_
            refine lv_if_ge (tgt := 96) hx hb d_Rdr_takeOther_89 (by decide) (fun c32 => ?_) (fun c32 => ?_)
            · exact absurd c32 (by decide)
            · refine lv_iload_n hx hb d_Rdr_takeOther_92 rfl (lv_at hl 6 rfl) ?_
              refine lv_goto (tgt := 98) hx hb d_Rdr_takeOther_93 (by decide) ?_
              refine sd_ri (va_runV (As := [.int (nI (q + 1)), .int (nI e)]) (rest := []) ⟨hx, hb, hml, hown, hts⟩ (c_Rdr_compBits l g q3 q1 q2 q7 q5 n fp f tx hT (q + 1) e (by omega) (by omega)) (cwV 2 hts (sd_gV k_348 k_350 k_6 k_26 k_351) rfl rfl rfl (by decide +kernel) ⟨Nat.le_of_ble_eq_true rfl, Nat.le_of_ble_eq_true rfl⟩) (sd_preV hK hE (sd_fr hS hA0) (hP.sub (ws' := [(q3, .inr (4, [.ref q1, .ref q2, .ref q7, .int fp])), (q1, .inr (6, [.ref q5, .int (nI n)])), (q5, .inl (gB g, 2000, .inl f))]) [0, 1, 2] rfl) rfl rfl) rfl rfl hl.1 rfl (lv_room (Nat.le_of_ble_eq_true rfl)) d_Rdr_takeOther_98 ⟨Nat.zero_le _, Nat.zero_le _⟩) (fun r33 er33 => ?_)
              subst er33
              refine lv_istore (lv' := [(7, .int (nI (lk (nmM tx (q + 1) e) sd_comp) - 1)), (6, .int (nI 0)), (5, .int (nI (lk (nmM tx a q) sd_dest))), (4, .int (-1)), (3, .int (nI q)), (0, .ref q3), (1, .int (nI a)), (2, .int (nI e))]) hx hb d_Rdr_takeOther_101 hl (by decide) rfl (fun ls hl => ?_)
              refine lv_iload_n hx hb d_Rdr_takeOther_103 rfl (lv_at hl 4 rfl) ?_
              refine lv_if_lt (tgt := 116) hx hb d_Rdr_takeOther_104 (by decide) (fun c34 => ?_) (fun c34 => ?_)
              · exact absurd c34 (nI_pos (by omega))
              · refine lv_iload hx hb d_Rdr_takeOther_107 (lv_at hl 2 rfl) ?_
                refine lv_if_ne (tgt := 116) hx hb d_Rdr_takeOther_109 (by decide) (fun c35 => ?_) (fun c35 => ?_)
                · have hdw := mt (nI_eq (b := 0) (by omega) (by omega)).mpr c35
                  refine lv_iconst (v := (nI 0)) hx hb d_Rdr_takeOther_116 (by decide) ?_
                  refine lv_istore (lv' := [(8, .int (nI 0)), (7, .int (nI (lk (nmM tx (q + 1) e) sd_comp) - 1)), (6, .int (nI 0)), (5, .int (nI (lk (nmM tx a q) sd_dest))), (4, .int (-1)), (3, .int (nI q)), (0, .ref q3), (1, .int (nI a)), (2, .int (nI e))]) hx hb d_Rdr_takeOther_117 hl (by decide) rfl (fun ls hl => ?_)
                  refine lv_iload hx hb d_Rdr_takeOther_119 (lv_at hl 4 rfl) ?_
                  refine lv_if_lt (tgt := 133) hx hb d_Rdr_takeOther_121 (by decide) (fun c36 => ?_) (fun c36 => ?_)
                  · refine lv_iconst (v := (nI 0)) hx hb d_Rdr_takeOther_133 (by decide) ?_
                    refine lv_istore (lv' := [(9, .int (nI 0)), (8, .int (nI 0)), (7, .int (nI (lk (nmM tx (q + 1) e) sd_comp) - 1)), (6, .int (nI 0)), (5, .int (nI (lk (nmM tx a q) sd_dest))), (4, .int (-1)), (3, .int (nI q)), (0, .ref q3), (1, .int (nI a)), (2, .int (nI e))]) hx hb d_Rdr_takeOther_134 hl (by decide) rfl (fun ls hl => ?_)
                    refine lv_iload hx hb d_Rdr_takeOther_136 (lv_at hl 1 rfl) ?_
                    refine lv_if_ne (tgt := 151) hx hb d_Rdr_takeOther_138 (by decide) (fun c37 => ?_) (fun c37 => ?_)
                    · exact absurd rfl c37
                    · refine lv_iload hx hb d_Rdr_takeOther_141 (lv_at hl 0 rfl) ?_
                      refine lv_if_ne (tgt := 151) hx hb d_Rdr_takeOther_143 (by decide) (fun c38 => ?_) (fun c38 => ?_)
                      · exact absurd rfl c38
                      · refine lv_iload hx hb d_Rdr_takeOther_146 (lv_at hl 2 rfl) ?_
                        refine lv_if_ge (tgt := 153) hx hb d_Rdr_takeOther_148 (by decide) (fun c39 => ?_) (fun c39 => ?_)
                        · have hc0 : ¬ (lk (nmM tx (q + 1) e) sd_comp) = 0 := fun q => absurd c39 (by rw [q]; decide)
                          have hok : ¬ ((q < e ∧ (lk (nmM tx a q) sd_dest) = 0) ∨ (e < e ∧ 0 = 0) ∨ (lk (nmM tx (q + 1) e) sd_comp) = 0) := by
                            rintro (h | h | h)
                            · exact hdw h.2
                            · exact absurd h.1 (Nat.lt_irrefl e)
                            · exact hc0 h
                          refine lv_aload_n hx hb d_Rdr_takeOther_153 rfl (lv_at hl 7 rfl) ?_
                          refine va_get (D := g.1) (ci := 4) (v := .ref q2) (C := "SignDesk$Reader") (T := F_Rdr) (N := 4) hx hb hts in_Rdr hown hK hP 0 rfl rfl 1 (by decide) (hts _ k_102) (fun _ h9 => h9) rfl d_Rdr_takeOther_154 ?_
                          refine sd_ri (va_runV (As := []) (rest := []) ⟨hx, hb, hml, hown, hts⟩ (c_Prg_isFull l g q2 q6 (wn st) pw hPR.1) (cwV 0 hts (sd_gV k_308 k_309 k_310 k_25 k_311) rfl rfl rfl (by decide +kernel) ⟨Nat.le_of_ble_eq_true rfl, Nat.le_of_ble_eq_true rfl⟩) (sd_preV hK hE (sd_fr hS hA0) (hP.sub (ws' := [(q2, .inr (3, [.ref q6, .int (nI (wn st))])), (q6, .inl (gI g, 600, .inl pw))]) [3, 4] rfl) rfl rfl) rfl rfl hl.1 rfl (lv_room (Nat.le_of_ble_eq_true rfl)) d_Rdr_takeOther_157 ⟨Nat.zero_le _, Nat.zero_le _⟩) (fun r40 er40 => ?_)
                          subst er40
                          refine lv_if_eq (tgt := 165) hx hb d_Rdr_takeOther_160 (by decide) (fun c41 => ?_) (fun c41 => ?_)
                          · have c41 := sb_eq0.mp c41
                            refine lv_aload_n hx hb d_Rdr_takeOther_165 rfl (lv_at hl 7 rfl) ?_
                            refine va_get (D := g.1) (ci := 4) (v := .ref q2) (C := "SignDesk$Reader") (T := F_Rdr) (N := 4) hx hb hts in_Rdr hown hK hP 0 rfl rfl 1 (by decide) (hts _ k_102) (fun _ h9 => h9) rfl d_Rdr_takeOther_166 ?_
                            refine lv_ldc (v := nI 57344) hx hb hown (hts _ k_358) d_Rdr_takeOther_169 ?_
                            refine lv_iload hx hb d_Rdr_takeOther_171 (lv_at hl 2 rfl) ?_
                            refine sd_topi (y := nI ((lk (nmM tx (q + 1) e) sd_comp) - 1)) (m1_up hc0) ?_
                            refine lv_iadd hx hb d_Rdr_takeOther_173 ?_
                            refine sd_topi (y := nI (57344 + ((lk (nmM tx (q + 1) e) sd_comp) - 1))) (nI_add _ _) ?_
                            refine lv_bipush (v := (nI 8)) hx hb d_Rdr_takeOther_174 (by decide) ?_
                            refine lv_iload hx hb d_Rdr_takeOther_176 (lv_at hl 4 rfl) ?_
                            refine lv_imul hx hb d_Rdr_takeOther_178 ?_
                            refine sd_topi (y := nI (8 * (lk (nmM tx a q) sd_dest))) (pk_mul _ _) ?_
                            refine lv_iadd hx hb d_Rdr_takeOther_179 ?_
                            refine sd_topi (y := nI ((57344 + ((lk (nmM tx (q + 1) e) sd_comp) - 1)) + (8 * (lk (nmM tx a q) sd_dest)))) (nI_add _ _) ?_
                            refine lv_iload hx hb d_Rdr_takeOther_180 (lv_at hl 3 rfl) ?_
                            refine lv_iadd hx hb d_Rdr_takeOther_182 ?_
                            refine sd_topi (y := nI (((57344 + ((lk (nmM tx (q + 1) e) sd_comp) - 1)) + (8 * (lk (nmM tx a q) sd_dest))) + 0)) (nI_add _ _) ?_
                            refine sd_topi (y := nI (57344 + ((lk (nmM tx (q + 1) e) sd_comp) - 1) + 8 * (lk (nmM tx a q) sd_dest) + 0)) (congrArg nI (by omega)) ?_
                            have hPc := hP.sub (ws' := [(q2, .inr (3, [.ref q6, .int (nI (wn st))])), (q6, .inl (gI g, 600, .inl pw))]) [3, 4] rfl
                            have hDc := hD.sub (ws' := [(q2, .inr (3, [.ref q6, .int (nI (wn st))])), (q6, .inl (gI g, 600, .inl pw))]) [3, 4] (by decide) rfl
                            have hFc := va_free (wc := [(q2, .inr (3, [.ref q6, .int (nI (wn st))])), (q6, .inl (gI g, 600, .inl pw))]) hD hS hA [3, 4] rfl
                            refine sd_cv (va_runV (As := [.int (nI (57344 + ((lk (nmM tx (q + 1) e) sd_comp) - 1) + 8 * (lk (nmM tx a q) sd_dest) + 0))]) (rest := []) ⟨hx, hb, hml, hown, hts⟩ (c_Prg_add l g q2 q6 (wn st) pw hPR.1 (nI (57344 + ((lk (nmM tx (q + 1) e) sd_comp) - 1) + 8 * (lk (nmM tx a q) sd_dest) + 0)) (by omega) s.heap.size) (cwV 1 hts (sd_gV k_321 k_322 k_323 k_25 k_324) rfl rfl rfl (by decide +kernel) ⟨Nat.le_of_ble_eq_true rfl, Nat.le_of_ble_eq_true rfl⟩) (sd_preVU hK hE hS hA0 hs0 hPc hDc rfl rfl) rfl rfl hl.1 rfl (lv_room (Nat.le_of_ble_eq_true rfl)) d_Rdr_takeOther_183 ⟨Nat.zero_le _, Nat.zero_le _⟩) hS hFc (fun u H1 locs hw hP1 hD1 hk1 hS => ?_)
                            obtain ⟨hP, hD⟩ := va_join (wr := [(q3, .inr (4, [.ref q1, .ref q2, .ref q7, .int fp])), (q1, .inr (6, [.ref q5, .int (nI n)])), (q5, .inl (gB g, 2000, .inl f)), (q7, .inr (5, [.ref q1, .ref q8, .ref q9, .ref q10, .int (nI (sn st))])), (q8, .inl (gI g, 40, .inl s1)), (q9, .inl (gI g, 40, .inl s2a)), (q10, .inl (gI g, 40, .inl s3))]) (w1 := [(q2, .inr (3, [.ref q6, .int (nI (wn st + 1))])), (q6, .inl (gI g, 600, .inl (upd pw (wn st) (nI (57344 + ((lk (nmM tx (q + 1) e) sd_comp) - 1) + 8 * (lk (nmM tx a q) sd_dest) + 0)))))]) hP hD [3, 4] [0, 1, 2, 5, 6, 7, 8] rfl rfl (by decide) (by decide) hk1 hFc hP1 hD1
                            clear hPc hDc hFc hk1 hP1 hD1
                            generalize H1 = H at hP hS ⊢
                            have hP : sdP g [(q3, .inr (4, [.ref q1, .ref q2, .ref q7, .int fp])), (q1, .inr (6, [.ref q5, .int (nI n)])), (q5, .inl (gB g, 2000, .inl f)), (q7, .inr (5, [.ref q1, .ref q8, .ref q9, .ref q10, .int (nI (sn st))])), (q8, .inl (gI g, 40, .inl s1)), (q9, .inl (gI g, 40, .inl s2a)), (q10, .inl (gI g, 40, .inl s3)), (q2, .inr (3, [.ref q6, .int (nI (wn st + 1))])), (q6, .inl (gI g, 600, .inl (upd pw (wn st) (nI (57344 + ((lk (nmM tx (q + 1) e) sd_comp) - 1) + 8 * (lk (nmM tx a q) sd_dest) + 0)))))] H := hP
                            have hD : va_D A [(q3, .inr (4, [.ref q1, .ref q2, .ref q7, .int fp])), (q1, .inr (6, [.ref q5, .int (nI n)])), (q5, .inl (gB g, 2000, .inl f)), (q7, .inr (5, [.ref q1, .ref q8, .ref q9, .ref q10, .int (nI (sn st))])), (q8, .inl (gI g, 40, .inl s1)), (q9, .inl (gI g, 40, .inl s2a)), (q10, .inl (gI g, 40, .inl s3)), (q2, .inr (3, [.ref q6, .int (nI (wn st + 1))])), (q6, .inl (gI g, 600, .inl (upd pw (wn st) (nI (57344 + ((lk (nmM tx (q + 1) e) sd_comp) - 1) + 8 * (lk (nmM tx a q) sd_dest) + 0)))))] := hD
                            refine lv_iconst (v := (nI 0)) hx hb d_Rdr_takeOther_186 (by decide) ?_
                            have hP9 := hP.sub (ws' := [(q3, .inr (4, [.ref q1, .ref q2, .ref q7, .int fp])), (q1, .inr (6, [.ref q5, .int (nI n)])), (q5, .inl (gB g, 2000, .inl f)), (q2, .inr (3, [.ref q6, .int (nI (wn st + 1))])), (q6, .inl (gI g, 600, .inl (upd pw (wn st) (nI (57344 + ((lk (nmM tx (q + 1) e) sd_comp) - 1) + 8 * (lk (nmM tx a q) sd_dest) + 0))))), (q7, .inr (5, [.ref q1, .ref q8, .ref q9, .ref q10, .int (nI (sn st))])), (q8, .inl (gI g, 40, .inl s1)), (q9, .inl (gI g, 40, .inl s2a)), (q10, .inl (gI g, 40, .inl s3))]) [0, 1, 2, 7, 8, 3, 4, 5, 6] rfl
                            have hD9 := hD.sub (ws' := [(q3, .inr (4, [.ref q1, .ref q2, .ref q7, .int fp])), (q1, .inr (6, [.ref q5, .int (nI n)])), (q5, .inl (gB g, 2000, .inl f)), (q2, .inr (3, [.ref q6, .int (nI (wn st + 1))])), (q6, .inl (gI g, 600, .inl (upd pw (wn st) (nI (57344 + ((lk (nmM tx (q + 1) e) sd_comp) - 1) + 8 * (lk (nmM tx a q) sd_dest) + 0))))), (q7, .inr (5, [.ref q1, .ref q8, .ref q9, .ref q10, .int (nI (sn st))])), (q8, .inl (gI g, 40, .inl s1)), (q9, .inl (gI g, 40, .inl s2a)), (q10, .inl (gI g, 40, .inl s3))]) [0, 1, 2, 7, 8, 3, 4, 5, 6] (by decide) rfl
                            exact W.iret (v := (nI 0)) hx hb hr (fun t ht hW => ⟨⟨_, (pushW st (57344 + ((lk (nmM tx (q + 1) e) sd_comp) - 1) + 8 * (lk (nmM tx a q) sd_dest) + 0) 0, upd pw (wn st) (nI (57344 + ((lk (nmM tx (q + 1) e) sd_comp) - 1) + 8 * (lk (nmM tx a q) sd_dest) + 0)), s1, s2a, s3), rfl, ⟨⟨0, by rw [hG, if_neg hok, if_neg c41], rfl⟩, PR_push (y := 0) hPR (by omega), hSR⟩, by rw [ht]; exact hP9, by rw [hAe]; exact hD9⟩, hS.F ht⟩) hS.2.2 d_Rdr_takeOther_187
                          · have c41 := sb_ne0.mp c41
                            refine lv_iconst (v := (nI 2)) hx hb d_Rdr_takeOther_163 (by decide) ?_
                            have hP9 := hP.sub (ws' := [(q3, .inr (4, [.ref q1, .ref q2, .ref q7, .int fp])), (q1, .inr (6, [.ref q5, .int (nI n)])), (q5, .inl (gB g, 2000, .inl f)), (q2, .inr (3, [.ref q6, .int (nI (wn st))])), (q6, .inl (gI g, 600, .inl pw)), (q7, .inr (5, [.ref q1, .ref q8, .ref q9, .ref q10, .int (nI (sn st))])), (q8, .inl (gI g, 40, .inl s1)), (q9, .inl (gI g, 40, .inl s2a)), (q10, .inl (gI g, 40, .inl s3))]) [0, 1, 2, 3, 4, 5, 6, 7, 8] rfl
                            have hD9 := hD.sub (ws' := [(q3, .inr (4, [.ref q1, .ref q2, .ref q7, .int fp])), (q1, .inr (6, [.ref q5, .int (nI n)])), (q5, .inl (gB g, 2000, .inl f)), (q2, .inr (3, [.ref q6, .int (nI (wn st))])), (q6, .inl (gI g, 600, .inl pw)), (q7, .inr (5, [.ref q1, .ref q8, .ref q9, .ref q10, .int (nI (sn st))])), (q8, .inl (gI g, 40, .inl s1)), (q9, .inl (gI g, 40, .inl s2a)), (q10, .inl (gI g, 40, .inl s3))]) [0, 1, 2, 3, 4, 5, 6, 7, 8] (by decide) rfl
                            exact W.iret (v := (nI 2)) hx hb hr (fun t ht hW => ⟨⟨_, (st, pw, s1, s2a, s3), rfl, ⟨⟨2, by rw [hG, if_neg hok, if_pos c41], rfl⟩, hPR, hSR⟩, by rw [ht]; exact hP9, by rw [hAe]; exact hD9⟩, hS.F ht⟩) hS.2.2 d_Rdr_takeOther_164
                        · have hc0 : (lk (nmM tx (q + 1) e) sd_comp) = 0 := (m1_lt (by omega)).mp (Int32.not_le.mp c39)
                          refine lv_iconst (v := (nI 1)) hx hb d_Rdr_takeOther_151 (by decide) ?_
                          have hP9 := hP.sub (ws' := [(q3, .inr (4, [.ref q1, .ref q2, .ref q7, .int fp])), (q1, .inr (6, [.ref q5, .int (nI n)])), (q5, .inl (gB g, 2000, .inl f)), (q2, .inr (3, [.ref q6, .int (nI (wn st))])), (q6, .inl (gI g, 600, .inl pw)), (q7, .inr (5, [.ref q1, .ref q8, .ref q9, .ref q10, .int (nI (sn st))])), (q8, .inl (gI g, 40, .inl s1)), (q9, .inl (gI g, 40, .inl s2a)), (q10, .inl (gI g, 40, .inl s3))]) [0, 1, 2, 3, 4, 5, 6, 7, 8] rfl
                          have hD9 := hD.sub (ws' := [(q3, .inr (4, [.ref q1, .ref q2, .ref q7, .int fp])), (q1, .inr (6, [.ref q5, .int (nI n)])), (q5, .inl (gB g, 2000, .inl f)), (q2, .inr (3, [.ref q6, .int (nI (wn st))])), (q6, .inl (gI g, 600, .inl pw)), (q7, .inr (5, [.ref q1, .ref q8, .ref q9, .ref q10, .int (nI (sn st))])), (q8, .inl (gI g, 40, .inl s1)), (q9, .inl (gI g, 40, .inl s2a)), (q10, .inl (gI g, 40, .inl s3))]) [0, 1, 2, 3, 4, 5, 6, 7, 8] (by decide) rfl
                          exact W.iret (v := (nI 1)) hx hb hr (fun t ht hW => ⟨⟨_, (st, pw, s1, s2a, s3), rfl, ⟨⟨1, by rw [hG, if_pos (Or.inr (Or.inr hc0))], rfl⟩, hPR, hSR⟩, by rw [ht]; exact hP9, by rw [hAe]; exact hD9⟩, hS.F ht⟩) hS.2.2 d_Rdr_takeOther_152
                  · exact absurd (by decide) c36
                · have hdw := (nI_eq (b := 0) (by omega) (by omega)).mp c35
                  refine lv_iconst (v := (nI 1)) hx hb d_Rdr_takeOther_112 (by decide) ?_
                  refine lv_goto (tgt := 117) hx hb d_Rdr_takeOther_113 (by decide) ?_
                  refine lv_istore (lv' := [(8, .int (nI 1)), (7, .int (nI (lk (nmM tx (q + 1) e) sd_comp) - 1)), (6, .int (nI 0)), (5, .int (nI (lk (nmM tx a q) sd_dest))), (4, .int (-1)), (3, .int (nI q)), (0, .ref q3), (1, .int (nI a)), (2, .int (nI e))]) hx hb d_Rdr_takeOther_117 hl (by decide) rfl (fun ls hl => ?_)
                  refine lv_iload hx hb d_Rdr_takeOther_119 (lv_at hl 4 rfl) ?_
                  refine lv_if_lt (tgt := 133) hx hb d_Rdr_takeOther_121 (by decide) (fun c43 => ?_) (fun c43 => ?_)
                  · refine lv_iconst (v := (nI 0)) hx hb d_Rdr_takeOther_133 (by decide) ?_
                    refine lv_istore (lv' := [(9, .int (nI 0)), (8, .int (nI 1)), (7, .int (nI (lk (nmM tx (q + 1) e) sd_comp) - 1)), (6, .int (nI 0)), (5, .int (nI (lk (nmM tx a q) sd_dest))), (4, .int (-1)), (3, .int (nI q)), (0, .ref q3), (1, .int (nI a)), (2, .int (nI e))]) hx hb d_Rdr_takeOther_134 hl (by decide) rfl (fun ls hl => ?_)
                    refine lv_iload hx hb d_Rdr_takeOther_136 (lv_at hl 1 rfl) ?_
                    refine lv_if_ne (tgt := 151) hx hb d_Rdr_takeOther_138 (by decide) (fun c44 => ?_) (fun c44 => ?_)
                    · refine lv_iconst (v := (nI 1)) hx hb d_Rdr_takeOther_151 (by decide) ?_
                      have hP9 := hP.sub (ws' := [(q3, .inr (4, [.ref q1, .ref q2, .ref q7, .int fp])), (q1, .inr (6, [.ref q5, .int (nI n)])), (q5, .inl (gB g, 2000, .inl f)), (q2, .inr (3, [.ref q6, .int (nI (wn st))])), (q6, .inl (gI g, 600, .inl pw)), (q7, .inr (5, [.ref q1, .ref q8, .ref q9, .ref q10, .int (nI (sn st))])), (q8, .inl (gI g, 40, .inl s1)), (q9, .inl (gI g, 40, .inl s2a)), (q10, .inl (gI g, 40, .inl s3))]) [0, 1, 2, 3, 4, 5, 6, 7, 8] rfl
                      have hD9 := hD.sub (ws' := [(q3, .inr (4, [.ref q1, .ref q2, .ref q7, .int fp])), (q1, .inr (6, [.ref q5, .int (nI n)])), (q5, .inl (gB g, 2000, .inl f)), (q2, .inr (3, [.ref q6, .int (nI (wn st))])), (q6, .inl (gI g, 600, .inl pw)), (q7, .inr (5, [.ref q1, .ref q8, .ref q9, .ref q10, .int (nI (sn st))])), (q8, .inl (gI g, 40, .inl s1)), (q9, .inl (gI g, 40, .inl s2a)), (q10, .inl (gI g, 40, .inl s3))]) [0, 1, 2, 3, 4, 5, 6, 7, 8] (by decide) rfl
                      exact W.iret (v := (nI 1)) hx hb hr (fun t ht hW => ⟨⟨_, (st, pw, s1, s2a, s3), rfl, ⟨⟨1, by rw [hG, if_pos (Or.inl ⟨hq2, hdw⟩)], rfl⟩, hPR, hSR⟩, by rw [ht]; exact hP9, by rw [hAe]; exact hD9⟩, hS.F ht⟩) hS.2.2 d_Rdr_takeOther_152
                    · exact absurd c44 (by decide)
                  · exact absurd (by decide) c43
          · exact absurd (nI_pos' (by omega)) c31
      · exact absurd (nI_pos' (by omega)) c28
  · have hq : oF tx 61 a e = e := ff_eq _ _ _ (by omega) (by omega) hq4 (fun h => absurd h (by omega))
    refine lv_istore_n (lv' := [(3, .int (-1)), (0, .ref q3), (1, .int (nI a)), (2, .int (nI e))]) hx hb d_Rdr_takeOther_11 rfl hl (by decide) rfl (fun ls hl => ?_)
    refine lv_aload_n hx hb d_Rdr_takeOther_12 rfl (lv_at hl 1 rfl) ?_
    refine va_get (D := g.1) (ci := 4) (v := .ref q1) (C := "SignDesk$Reader") (T := F_Rdr) (N := 4) hx hb hts in_Rdr hown hK hP 0 rfl rfl 0 (by decide) (hts _ k_101) (fun _ h9 => h9) rfl d_Rdr_takeOther_13 ?_
    refine lv_bipush (v := (nI 59)) hx hb d_Rdr_takeOther_16 (by decide) ?_
    refine lv_iload_n hx hb d_Rdr_takeOther_18 rfl (lv_at hl 2 rfl) ?_
    refine lv_iload_n hx hb d_Rdr_takeOther_19 rfl (lv_at hl 3 rfl) ?_
    refine sd_ri (va_runV (As := [.int (nI 59), .int (nI a), .int (nI e)]) (rest := []) ⟨hx, hb, hml, hown, hts⟩ (c_Txt_find l g q1 q5 n f tx hT 59 a e (by decide) (by omega) (by omega)) (cwV 3 hts (sd_gV k_342 k_343 k_344 k_24 k_345) rfl rfl rfl (by decide +kernel) ⟨Nat.le_of_ble_eq_true rfl, Nat.le_of_ble_eq_true rfl⟩) (sd_preV hK hE (sd_fr hS hA0) (hP.sub (ws' := [(q1, .inr (6, [.ref q5, .int (nI n)])), (q5, .inl (gB g, 2000, .inl f))]) [1, 2] rfl) rfl rfl) rfl rfl hl.1 rfl (lv_room (Nat.le_of_ble_eq_true rfl)) d_Rdr_takeOther_20 ⟨Nat.zero_le _, Nat.zero_le _⟩) (fun r45 er45 => ?_)
    rcases er45 with ⟨s2, rfl, hs1, hs2, hs3, hs4⟩ | ⟨hs4, rfl⟩
    · have hs : oF tx 59 a e = s2 := ff_eq _ _ _ hs1 (by omega) hs4 (fun _ => hs3)
      have hG := spOther_g (tx := tx) (st := st) (D := 0) (J := (lk (nmM tx (s2 + 1) e) sd_jump)) (ca := a) hq hs (if_neg (Nat.lt_irrefl e)).symm (if_neg (Nat.lt_irrefl e)).symm (if_pos hs2).symm rfl
      have hDl : 0 ≤ 7 := by decide
      have hJl : (lk (nmM tx (s2 + 1) e) sd_jump) ≤ 7 := lk_le sd_jump_lt
      have hCl : (lk (nmM tx a s2) sd_comp) ≤ 8129 := lk_le sd_comp_lt
      refine lv_istore (lv' := [(4, .int (nI s2)), (3, .int (-1)), (0, .ref q3), (1, .int (nI a)), (2, .int (nI e))]) hx hb d_Rdr_takeOther_23 hl (by decide) rfl (fun ls hl => ?_)
      refine lv_iload_n hx hb d_Rdr_takeOther_25 rfl (lv_at hl 1 rfl) ?_
      refine lv_if_ge (tgt := 33) hx hb d_Rdr_takeOther_26 (by decide) (fun c46 => ?_) (fun c46 => ?_)
      · exact absurd c46 (by decide)
      · refine lv_iconst (v := (nI 0)) hx hb d_Rdr_takeOther_29 (by decide) ?_
        refine lv_goto (tgt := 46) hx hb d_Rdr_takeOther_30 (by decide) ?_
        refine lv_istore (lv' := [(5, .int (nI 0)), (4, .int (nI s2)), (3, .int (-1)), (0, .ref q3), (1, .int (nI a)), (2, .int (nI e))]) hx hb d_Rdr_takeOther_46 hl (by decide) rfl (fun ls hl => ?_)
        refine lv_iload hx hb d_Rdr_takeOther_48 (lv_at hl 1 rfl) ?_
        refine lv_if_ge (tgt := 57) hx hb d_Rdr_takeOther_50 (by decide) (fun c47 => ?_) (fun c47 => ?_)
        · refine lv_iconst (v := (nI 1)) hx hb d_Rdr_takeOther_57 (by decide) ?_
          refine lv_aload_n hx hb d_Rdr_takeOther_58 rfl (lv_at hl 3 rfl) ?_
          refine va_get (D := g.1) (ci := 4) (v := .ref q1) (C := "SignDesk$Reader") (T := F_Rdr) (N := 4) hx hb hts in_Rdr hown hK hP 0 rfl rfl 0 (by decide) (hts _ k_101) (fun _ h9 => h9) rfl d_Rdr_takeOther_59 ?_
          refine va_ldcS hx hb hown hE.2.2.2.2.2.2.1.2.2.1 d_Rdr_takeOther_62 ?_
          refine lv_iload hx hb d_Rdr_takeOther_64 (lv_at hl 1 rfl) ?_
          refine lv_iconst (v := (nI 1)) hx hb d_Rdr_takeOther_66 (by decide) ?_
          refine lv_iadd hx hb d_Rdr_takeOther_67 ?_
          refine sd_topi (y := nI (s2 + 1)) (nI_add _ _) ?_
          refine lv_iload_n hx hb d_Rdr_takeOther_68 rfl (lv_at hl 5 rfl) ?_
          refine sd_ri (va_runV (As := [.ref (gk g 2), .int (nI (s2 + 1)), .int (nI e)]) (rest := [.int (nI 1)]) ⟨hx, hb, hml, hown, hts⟩ (c_Txt_nameAmong l g q1 q5 n f tx hT 2 (by decide) (s2 + 1) (e) (by omega) (by omega)) (cwV 3 hts (sd_gV k_249 k_250 k_251 k_24 k_252) rfl rfl rfl (by decide +kernel) ⟨Nat.le_of_ble_eq_true rfl, Nat.le_of_ble_eq_true rfl⟩) (sd_preV hK hE (sd_fr hS hA0) (hP.sub (ws' := [(q1, .inr (6, [.ref q5, .int (nI n)])), (q5, .inl (gB g, 2000, .inl f))]) [1, 2] rfl) rfl rfl) rfl rfl hl.1 rfl (lv_room (Nat.le_of_ble_eq_true rfl)) d_Rdr_takeOther_69 ⟨Nat.zero_le _, Nat.zero_le _⟩) (fun r48 er48 => ?_)
          subst er48
          refine lv_iadd hx hb d_Rdr_takeOther_72 ?_
          refine sd_topi (y := nI (lk (nmM tx (s2 + 1) e) sd_jump)) (sd_jpP) ?_
          refine lv_istore (lv' := [(6, .int (nI (lk (nmM tx (s2 + 1) e) sd_jump))), (5, .int (nI 0)), (4, .int (nI s2)), (3, .int (-1)), (0, .ref q3), (1, .int (nI a)), (2, .int (nI e))]) hx hb d_Rdr_takeOther_73 hl (by decide) rfl (fun ls hl => ?_)
          refine lv_aload_n hx hb d_Rdr_takeOther_75 rfl (lv_at hl 4 rfl) ?_
          refine lv_iload_n hx hb d_Rdr_takeOther_76 rfl (lv_at hl 3 rfl) ?_
          refine lv_if_ge (tgt := 84) hx hb d_Rdr_takeOther_77 (by decide) (fun c49 => ?_) (fun c49 => ?_)
          · exact absurd c49 (by decide)
          · refine lv_iload_n hx hb d_Rdr_takeOther_80 rfl (lv_at hl 5 rfl) ?_
            refine lv_goto (tgt := 87) hx hb d_Rdr_takeOther_81 (by decide) ?_
            refine lv_iload hx hb d_Rdr_takeOther_87 (lv_at hl 2 rfl) ?_
            refine lv_if_ge (tgt := 96) hx hb d_Rdr_takeOther_89 (by decide) (fun c50 => ?_) (fun c50 => ?_)
            · refine lv_iload hx hb d_Rdr_takeOther_96 (lv_at hl 2 rfl) ?_
              refine sd_ri (va_runV (As := [.int (nI a), .int (nI s2)]) (rest := []) ⟨hx, hb, hml, hown, hts⟩ (c_Rdr_compBits l g q3 q1 q2 q7 q5 n fp f tx hT a s2 (by omega) (by omega)) (cwV 2 hts (sd_gV k_348 k_350 k_6 k_26 k_351) rfl rfl rfl (by decide +kernel) ⟨Nat.le_of_ble_eq_true rfl, Nat.le_of_ble_eq_true rfl⟩) (sd_preV hK hE (sd_fr hS hA0) (hP.sub (ws' := [(q3, .inr (4, [.ref q1, .ref q2, .ref q7, .int fp])), (q1, .inr (6, [.ref q5, .int (nI n)])), (q5, .inl (gB g, 2000, .inl f))]) [0, 1, 2] rfl) rfl rfl) rfl rfl hl.1 rfl (lv_room (Nat.le_of_ble_eq_true rfl)) d_Rdr_takeOther_98 ⟨Nat.zero_le _, Nat.zero_le _⟩) (fun r51 er51 => ?_)
              subst er51
              refine lv_istore (lv' := [(7, .int (nI (lk (nmM tx a s2) sd_comp) - 1)), (6, .int (nI (lk (nmM tx (s2 + 1) e) sd_jump))), (5, .int (nI 0)), (4, .int (nI s2)), (3, .int (-1)), (0, .ref q3), (1, .int (nI a)), (2, .int (nI e))]) hx hb d_Rdr_takeOther_101 hl (by decide) rfl (fun ls hl => ?_)
              refine lv_iload_n hx hb d_Rdr_takeOther_103 rfl (lv_at hl 4 rfl) ?_
              refine lv_if_lt (tgt := 116) hx hb d_Rdr_takeOther_104 (by decide) (fun c52 => ?_) (fun c52 => ?_)
              · refine lv_iconst (v := (nI 0)) hx hb d_Rdr_takeOther_116 (by decide) ?_
                refine lv_istore (lv' := [(8, .int (nI 0)), (7, .int (nI (lk (nmM tx a s2) sd_comp) - 1)), (6, .int (nI (lk (nmM tx (s2 + 1) e) sd_jump))), (5, .int (nI 0)), (4, .int (nI s2)), (3, .int (-1)), (0, .ref q3), (1, .int (nI a)), (2, .int (nI e))]) hx hb d_Rdr_takeOther_117 hl (by decide) rfl (fun ls hl => ?_)
                refine lv_iload hx hb d_Rdr_takeOther_119 (lv_at hl 4 rfl) ?_
                refine lv_if_lt (tgt := 133) hx hb d_Rdr_takeOther_121 (by decide) (fun c53 => ?_) (fun c53 => ?_)
                · exact absurd c53 (nI_pos (by omega))
                · refine lv_iload hx hb d_Rdr_takeOther_124 (lv_at hl 2 rfl) ?_
                  refine lv_if_ne (tgt := 133) hx hb d_Rdr_takeOther_126 (by decide) (fun c55 => ?_) (fun c55 => ?_)
                  · have hjw := mt (nI_eq (b := 0) (by omega) (by omega)).mpr c55
                    refine lv_iconst (v := (nI 0)) hx hb d_Rdr_takeOther_133 (by decide) ?_
                    refine lv_istore (lv' := [(9, .int (nI 0)), (8, .int (nI 0)), (7, .int (nI (lk (nmM tx a s2) sd_comp) - 1)), (6, .int (nI (lk (nmM tx (s2 + 1) e) sd_jump))), (5, .int (nI 0)), (4, .int (nI s2)), (3, .int (-1)), (0, .ref q3), (1, .int (nI a)), (2, .int (nI e))]) hx hb d_Rdr_takeOther_134 hl (by decide) rfl (fun ls hl => ?_)
                    refine lv_iload hx hb d_Rdr_takeOther_136 (lv_at hl 1 rfl) ?_
                    refine lv_if_ne (tgt := 151) hx hb d_Rdr_takeOther_138 (by decide) (fun c56 => ?_) (fun c56 => ?_)
                    · exact absurd rfl c56
                    · refine lv_iload hx hb d_Rdr_takeOther_141 (lv_at hl 0 rfl) ?_
                      refine lv_if_ne (tgt := 151) hx hb d_Rdr_takeOther_143 (by decide) (fun c57 => ?_) (fun c57 => ?_)
                      · exact absurd rfl c57
                      · refine lv_iload hx hb d_Rdr_takeOther_146 (lv_at hl 2 rfl) ?_
                        refine lv_if_ge (tgt := 153) hx hb d_Rdr_takeOther_148 (by decide) (fun c58 => ?_) (fun c58 => ?_)
                        · have hc0 : ¬ (lk (nmM tx a s2) sd_comp) = 0 := fun q => absurd c58 (by rw [q]; decide)
                          have hok : ¬ ((e < e ∧ 0 = 0) ∨ (s2 < e ∧ (lk (nmM tx (s2 + 1) e) sd_jump) = 0) ∨ (lk (nmM tx a s2) sd_comp) = 0) := by
                            rintro (h | h | h)
                            · exact absurd h.1 (Nat.lt_irrefl e)
                            · exact hjw h.2
                            · exact hc0 h
                          refine lv_aload_n hx hb d_Rdr_takeOther_153 rfl (lv_at hl 7 rfl) ?_
                          refine va_get (D := g.1) (ci := 4) (v := .ref q2) (C := "SignDesk$Reader") (T := F_Rdr) (N := 4) hx hb hts in_Rdr hown hK hP 0 rfl rfl 1 (by decide) (hts _ k_102) (fun _ h9 => h9) rfl d_Rdr_takeOther_154 ?_
                          refine sd_ri (va_runV (As := []) (rest := []) ⟨hx, hb, hml, hown, hts⟩ (c_Prg_isFull l g q2 q6 (wn st) pw hPR.1) (cwV 0 hts (sd_gV k_308 k_309 k_310 k_25 k_311) rfl rfl rfl (by decide +kernel) ⟨Nat.le_of_ble_eq_true rfl, Nat.le_of_ble_eq_true rfl⟩) (sd_preV hK hE (sd_fr hS hA0) (hP.sub (ws' := [(q2, .inr (3, [.ref q6, .int (nI (wn st))])), (q6, .inl (gI g, 600, .inl pw))]) [3, 4] rfl) rfl rfl) rfl rfl hl.1 rfl (lv_room (Nat.le_of_ble_eq_true rfl)) d_Rdr_takeOther_157 ⟨Nat.zero_le _, Nat.zero_le _⟩) (fun r59 er59 => ?_)
                          subst er59
                          refine lv_if_eq (tgt := 165) hx hb d_Rdr_takeOther_160 (by decide) (fun c60 => ?_) (fun c60 => ?_)
                          · have c60 := sb_eq0.mp c60
                            refine lv_aload_n hx hb d_Rdr_takeOther_165 rfl (lv_at hl 7 rfl) ?_
                            refine va_get (D := g.1) (ci := 4) (v := .ref q2) (C := "SignDesk$Reader") (T := F_Rdr) (N := 4) hx hb hts in_Rdr hown hK hP 0 rfl rfl 1 (by decide) (hts _ k_102) (fun _ h9 => h9) rfl d_Rdr_takeOther_166 ?_
                            refine lv_ldc (v := nI 57344) hx hb hown (hts _ k_358) d_Rdr_takeOther_169 ?_
                            refine lv_iload hx hb d_Rdr_takeOther_171 (lv_at hl 2 rfl) ?_
                            refine sd_topi (y := nI ((lk (nmM tx a s2) sd_comp) - 1)) (m1_up hc0) ?_
                            refine lv_iadd hx hb d_Rdr_takeOther_173 ?_
                            refine sd_topi (y := nI (57344 + ((lk (nmM tx a s2) sd_comp) - 1))) (nI_add _ _) ?_
                            refine lv_bipush (v := (nI 8)) hx hb d_Rdr_takeOther_174 (by decide) ?_
                            refine lv_iload hx hb d_Rdr_takeOther_176 (lv_at hl 4 rfl) ?_
                            refine lv_imul hx hb d_Rdr_takeOther_178 ?_
                            refine sd_topi (y := nI (8 * 0)) (pk_mul _ _) ?_
                            refine lv_iadd hx hb d_Rdr_takeOther_179 ?_
                            refine sd_topi (y := nI ((57344 + ((lk (nmM tx a s2) sd_comp) - 1)) + (8 * 0))) (nI_add _ _) ?_
                            refine lv_iload hx hb d_Rdr_takeOther_180 (lv_at hl 3 rfl) ?_
                            refine lv_iadd hx hb d_Rdr_takeOther_182 ?_
                            refine sd_topi (y := nI (((57344 + ((lk (nmM tx a s2) sd_comp) - 1)) + (8 * 0)) + (lk (nmM tx (s2 + 1) e) sd_jump))) (nI_add _ _) ?_
                            refine sd_topi (y := nI (57344 + ((lk (nmM tx a s2) sd_comp) - 1) + 8 * 0 + (lk (nmM tx (s2 + 1) e) sd_jump))) (congrArg nI (by omega)) ?_
                            have hPc := hP.sub (ws' := [(q2, .inr (3, [.ref q6, .int (nI (wn st))])), (q6, .inl (gI g, 600, .inl pw))]) [3, 4] rfl
                            have hDc := hD.sub (ws' := [(q2, .inr (3, [.ref q6, .int (nI (wn st))])), (q6, .inl (gI g, 600, .inl pw))]) [3, 4] (by decide) rfl
                            have hFc := va_free (wc := [(q2, .inr (3, [.ref q6, .int (nI (wn st))])), (q6, .inl (gI g, 600, .inl pw))]) hD hS hA [3, 4] rfl
                            refine sd_cv (va_runV (As := [.int (nI (57344 + ((lk (nmM tx a s2) sd_comp) - 1) + 8 * 0 + (lk (nmM tx (s2 + 1) e) sd_jump)))]) (rest := []) ⟨hx, hb, hml, hown, hts⟩ (c_Prg_add l g q2 q6 (wn st) pw hPR.1 (nI (57344 + ((lk (nmM tx a s2) sd_comp) - 1) + 8 * 0 + (lk (nmM tx (s2 + 1) e) sd_jump))) (by omega) s.heap.size) (cwV 1 hts (sd_gV k_321 k_322 k_323 k_25 k_324) rfl rfl rfl (by decide +kernel) ⟨Nat.le_of_ble_eq_true rfl, Nat.le_of_ble_eq_true rfl⟩) (sd_preVU hK hE hS hA0 hs0 hPc hDc rfl rfl) rfl rfl hl.1 rfl (lv_room (Nat.le_of_ble_eq_true rfl)) d_Rdr_takeOther_183 ⟨Nat.zero_le _, Nat.zero_le _⟩) hS hFc (fun u H1 locs hw hP1 hD1 hk1 hS => ?_)
                            obtain ⟨hP, hD⟩ := va_join (wr := [(q3, .inr (4, [.ref q1, .ref q2, .ref q7, .int fp])), (q1, .inr (6, [.ref q5, .int (nI n)])), (q5, .inl (gB g, 2000, .inl f)), (q7, .inr (5, [.ref q1, .ref q8, .ref q9, .ref q10, .int (nI (sn st))])), (q8, .inl (gI g, 40, .inl s1)), (q9, .inl (gI g, 40, .inl s2a)), (q10, .inl (gI g, 40, .inl s3))]) (w1 := [(q2, .inr (3, [.ref q6, .int (nI (wn st + 1))])), (q6, .inl (gI g, 600, .inl (upd pw (wn st) (nI (57344 + ((lk (nmM tx a s2) sd_comp) - 1) + 8 * 0 + (lk (nmM tx (s2 + 1) e) sd_jump))))))]) hP hD [3, 4] [0, 1, 2, 5, 6, 7, 8] rfl rfl (by decide) (by decide) hk1 hFc hP1 hD1
                            clear hPc hDc hFc hk1 hP1 hD1
                            generalize H1 = H at hP hS ⊢
                            have hP : sdP g [(q3, .inr (4, [.ref q1, .ref q2, .ref q7, .int fp])), (q1, .inr (6, [.ref q5, .int (nI n)])), (q5, .inl (gB g, 2000, .inl f)), (q7, .inr (5, [.ref q1, .ref q8, .ref q9, .ref q10, .int (nI (sn st))])), (q8, .inl (gI g, 40, .inl s1)), (q9, .inl (gI g, 40, .inl s2a)), (q10, .inl (gI g, 40, .inl s3)), (q2, .inr (3, [.ref q6, .int (nI (wn st + 1))])), (q6, .inl (gI g, 600, .inl (upd pw (wn st) (nI (57344 + ((lk (nmM tx a s2) sd_comp) - 1) + 8 * 0 + (lk (nmM tx (s2 + 1) e) sd_jump))))))] H := hP
                            have hD : va_D A [(q3, .inr (4, [.ref q1, .ref q2, .ref q7, .int fp])), (q1, .inr (6, [.ref q5, .int (nI n)])), (q5, .inl (gB g, 2000, .inl f)), (q7, .inr (5, [.ref q1, .ref q8, .ref q9, .ref q10, .int (nI (sn st))])), (q8, .inl (gI g, 40, .inl s1)), (q9, .inl (gI g, 40, .inl s2a)), (q10, .inl (gI g, 40, .inl s3)), (q2, .inr (3, [.ref q6, .int (nI (wn st + 1))])), (q6, .inl (gI g, 600, .inl (upd pw (wn st) (nI (57344 + ((lk (nmM tx a s2) sd_comp) - 1) + 8 * 0 + (lk (nmM tx (s2 + 1) e) sd_jump))))))] := hD
                            refine lv_iconst (v := (nI 0)) hx hb d_Rdr_takeOther_186 (by decide) ?_
                            have hP9 := hP.sub (ws' := [(q3, .inr (4, [.ref q1, .ref q2, .ref q7, .int fp])), (q1, .inr (6, [.ref q5, .int (nI n)])), (q5, .inl (gB g, 2000, .inl f)), (q2, .inr (3, [.ref q6, .int (nI (wn st + 1))])), (q6, .inl (gI g, 600, .inl (upd pw (wn st) (nI (57344 + ((lk (nmM tx a s2) sd_comp) - 1) + 8 * 0 + (lk (nmM tx (s2 + 1) e) sd_jump)))))), (q7, .inr (5, [.ref q1, .ref q8, .ref q9, .ref q10, .int (nI (sn st))])), (q8, .inl (gI g, 40, .inl s1)), (q9, .inl (gI g, 40, .inl s2a)), (q10, .inl (gI g, 40, .inl s3))]) [0, 1, 2, 7, 8, 3, 4, 5, 6] rfl
                            have hD9 := hD.sub (ws' := [(q3, .inr (4, [.ref q1, .ref q2, .ref q7, .int fp])), (q1, .inr (6, [.ref q5, .int (nI n)])), (q5, .inl (gB g, 2000, .inl f)), (q2, .inr (3, [.ref q6, .int (nI (wn st + 1))])), (q6, .inl (gI g, 600, .inl (upd pw (wn st) (nI (57344 + ((lk (nmM tx a s2) sd_comp) - 1) + 8 * 0 + (lk (nmM tx (s2 + 1) e) sd_jump)))))), (q7, .inr (5, [.ref q1, .ref q8, .ref q9, .ref q10, .int (nI (sn st))])), (q8, .inl (gI g, 40, .inl s1)), (q9, .inl (gI g, 40, .inl s2a)), (q10, .inl (gI g, 40, .inl s3))]) [0, 1, 2, 7, 8, 3, 4, 5, 6] (by decide) rfl
                            exact W.iret (v := (nI 0)) hx hb hr (fun t ht hW => ⟨⟨_, (pushW st (57344 + ((lk (nmM tx a s2) sd_comp) - 1) + 8 * 0 + (lk (nmM tx (s2 + 1) e) sd_jump)) 0, upd pw (wn st) (nI (57344 + ((lk (nmM tx a s2) sd_comp) - 1) + 8 * 0 + (lk (nmM tx (s2 + 1) e) sd_jump))), s1, s2a, s3), rfl, ⟨⟨0, by rw [hG, if_neg hok, if_neg c60], rfl⟩, PR_push (y := 0) hPR (by omega), hSR⟩, by rw [ht]; exact hP9, by rw [hAe]; exact hD9⟩, hS.F ht⟩) hS.2.2 d_Rdr_takeOther_187
                          · have c60 := sb_ne0.mp c60
                            refine lv_iconst (v := (nI 2)) hx hb d_Rdr_takeOther_163 (by decide) ?_
                            have hP9 := hP.sub (ws' := [(q3, .inr (4, [.ref q1, .ref q2, .ref q7, .int fp])), (q1, .inr (6, [.ref q5, .int (nI n)])), (q5, .inl (gB g, 2000, .inl f)), (q2, .inr (3, [.ref q6, .int (nI (wn st))])), (q6, .inl (gI g, 600, .inl pw)), (q7, .inr (5, [.ref q1, .ref q8, .ref q9, .ref q10, .int (nI (sn st))])), (q8, .inl (gI g, 40, .inl s1)), (q9, .inl (gI g, 40, .inl s2a)), (q10, .inl (gI g, 40, .inl s3))]) [0, 1, 2, 3, 4, 5, 6, 7, 8] rfl
                            have hD9 := hD.sub (ws' := [(q3, .inr (4, [.ref q1, .ref q2, .ref q7, .int fp])), (q1, .inr (6, [.ref q5, .int (nI n)])), (q5, .inl (gB g, 2000, .inl f)), (q2, .inr (3, [.ref q6, .int (nI (wn st))])), (q6, .inl (gI g, 600, .inl pw)), (q7, .inr (5, [.ref q1, .ref q8, .ref q9, .ref q10, .int (nI (sn st))])), (q8, .inl (gI g, 40, .inl s1)), (q9, .inl (gI g, 40, .inl s2a)), (q10, .inl (gI g, 40, .inl s3))]) [0, 1, 2, 3, 4, 5, 6, 7, 8] (by decide) rfl
                            exact W.iret (v := (nI 2)) hx hb hr (fun t ht hW => ⟨⟨_, (st, pw, s1, s2a, s3), rfl, ⟨⟨2, by rw [hG, if_neg hok, if_pos c60], rfl⟩, hPR, hSR⟩, by rw [ht]; exact hP9, by rw [hAe]; exact hD9⟩, hS.F ht⟩) hS.2.2 d_Rdr_takeOther_164
                        · have hc0 : (lk (nmM tx a s2) sd_comp) = 0 := (m1_lt (by omega)).mp (Int32.not_le.mp c58)
                          refine lv_iconst (v := (nI 1)) hx hb d_Rdr_takeOther_151 (by decide) ?_
                          have hP9 := hP.sub (ws' := [(q3, .inr (4, [.ref q1, .ref q2, .ref q7, .int fp])), (q1, .inr (6, [.ref q5, .int (nI n)])), (q5, .inl (gB g, 2000, .inl f)), (q2, .inr (3, [.ref q6, .int (nI (wn st))])), (q6, .inl (gI g, 600, .inl pw)), (q7, .inr (5, [.ref q1, .ref q8, .ref q9, .ref q10, .int (nI (sn st))])), (q8, .inl (gI g, 40, .inl s1)), (q9, .inl (gI g, 40, .inl s2a)), (q10, .inl (gI g, 40, .inl s3))]) [0, 1, 2, 3, 4, 5, 6, 7, 8] rfl
                          have hD9 := hD.sub (ws' := [(q3, .inr (4, [.ref q1, .ref q2, .ref q7, .int fp])), (q1, .inr (6, [.ref q5, .int (nI n)])), (q5, .inl (gB g, 2000, .inl f)), (q2, .inr (3, [.ref q6, .int (nI (wn st))])), (q6, .inl (gI g, 600, .inl pw)), (q7, .inr (5, [.ref q1, .ref q8, .ref q9, .ref q10, .int (nI (sn st))])), (q8, .inl (gI g, 40, .inl s1)), (q9, .inl (gI g, 40, .inl s2a)), (q10, .inl (gI g, 40, .inl s3))]) [0, 1, 2, 3, 4, 5, 6, 7, 8] (by decide) rfl
                          exact W.iret (v := (nI 1)) hx hb hr (fun t ht hW => ⟨⟨_, (st, pw, s1, s2a, s3), rfl, ⟨⟨1, by rw [hG, if_pos (Or.inr (Or.inr hc0))], rfl⟩, hPR, hSR⟩, by rw [ht]; exact hP9, by rw [hAe]; exact hD9⟩, hS.F ht⟩) hS.2.2 d_Rdr_takeOther_152
                  · have hjw := (nI_eq (b := 0) (by omega) (by omega)).mp c55
                    refine lv_iconst (v := (nI 1)) hx hb d_Rdr_takeOther_129 (by decide) ?_
                    refine lv_goto (tgt := 134) hx hb d_Rdr_takeOther_130 (by decide) ?_
                    refine lv_istore (lv' := [(9, .int (nI 1)), (8, .int (nI 0)), (7, .int (nI (lk (nmM tx a s2) sd_comp) - 1)), (6, .int (nI (lk (nmM tx (s2 + 1) e) sd_jump))), (5, .int (nI 0)), (4, .int (nI s2)), (3, .int (-1)), (0, .ref q3), (1, .int (nI a)), (2, .int (nI e))]) hx hb d_Rdr_takeOther_134 hl (by decide) rfl (fun ls hl => ?_)
                    refine lv_iload hx hb d_Rdr_takeOther_136 (lv_at hl 1 rfl) ?_
                    refine lv_if_ne (tgt := 151) hx hb d_Rdr_takeOther_138 (by decide) (fun c62 => ?_) (fun c62 => ?_)
                    · exact absurd rfl c62
                    · refine lv_iload hx hb d_Rdr_takeOther_141 (lv_at hl 0 rfl) ?_
                      refine lv_if_ne (tgt := 151) hx hb d_Rdr_takeOther_143 (by decide) (fun c63 => ?_) (fun c63 => ?_)
                      · refine lv_iconst (v := (nI 1)) hx hb d_Rdr_takeOther_151 (by decide) ?_
                        have hP9 := hP.sub (ws' := [(q3, .inr (4, [.ref q1, .ref q2, .ref q7, .int fp])), (q1, .inr (6, [.ref q5, .int (nI n)])), (q5, .inl (gB g, 2000, .inl f)), (q2, .inr (3, [.ref q6, .int (nI (wn st))])), (q6, .inl (gI g, 600, .inl pw)), (q7, .inr (5, [.ref q1, .ref q8, .ref q9, .ref q10, .int (nI (sn st))])), (q8, .inl (gI g, 40, .inl s1)), (q9, .inl (gI g, 40, .inl s2a)), (q10, .inl (gI g, 40, .inl s3))]) [0, 1, 2, 3, 4, 5, 6, 7, 8] rfl
                        have hD9 := hD.sub (ws' := [(q3, .inr (4, [.ref q1, .ref q2, .ref q7, .int fp])), (q1, .inr (6, [.ref q5, .int (nI n)])), (q5, .inl (gB g, 2000, .inl f)), (q2, .inr (3, [.ref q6, .int (nI (wn st))])), (q6, .inl (gI g, 600, .inl pw)), (q7, .inr (5, [.ref q1, .ref q8, .ref q9, .ref q10, .int (nI (sn st))])), (q8, .inl (gI g, 40, .inl s1)), (q9, .inl (gI g, 40, .inl s2a)), (q10, .inl (gI g, 40, .inl s3))]) [0, 1, 2, 3, 4, 5, 6, 7, 8] (by decide) rfl
                        exact W.iret (v := (nI 1)) hx hb hr (fun t ht hW => ⟨⟨_, (st, pw, s1, s2a, s3), rfl, ⟨⟨1, by rw [hG, if_pos (Or.inr (Or.inl ⟨hs2, hjw⟩))], rfl⟩, hPR, hSR⟩, by rw [ht]; exact hP9, by rw [hAe]; exact hD9⟩, hS.F ht⟩) hS.2.2 d_Rdr_takeOther_152
                      · exact absurd c63 (by decide)
              · exact absurd (by decide) c52
            · exact absurd (nI_pos' (by omega)) c50
        · exact absurd (nI_pos' (by omega)) c47
    · have hs : oF tx 59 a e = e := ff_eq _ _ _ (by omega) (by omega) hs4 (fun h => absurd h (by omega))
      have hG := spOther_g (tx := tx) (st := st) (D := 0) (J := 0) (ca := a) hq hs (if_neg (Nat.lt_irrefl e)).symm (if_neg (Nat.lt_irrefl e)).symm (if_neg (Nat.lt_irrefl e)).symm rfl
      have hDl : 0 ≤ 7 := by decide
      have hJl : 0 ≤ 7 := by decide
      have hCl : (lk (nmM tx a e) sd_comp) ≤ 8129 := lk_le sd_comp_lt
      refine lv_istore (lv' := [(4, .int (-1)), (3, .int (-1)), (0, .ref q3), (1, .int (nI a)), (2, .int (nI e))]) hx hb d_Rdr_takeOther_23 hl (by decide) rfl (fun ls hl => ?_)
      refine lv_iload_n hx hb d_Rdr_takeOther_25 rfl (lv_at hl 1 rfl) ?_
      refine lv_if_ge (tgt := 33) hx hb d_Rdr_takeOther_26 (by decide) (fun c64 => ?_) (fun c64 => ?_)
      · exact absurd c64 (by decide)
      · refine lv_iconst (v := (nI 0)) hx hb d_Rdr_takeOther_29 (by decide) ?_
        refine lv_goto (tgt := 46) hx hb d_Rdr_takeOther_30 (by decide) ?_
        refine lv_istore (lv' := [(5, .int (nI 0)), (4, .int (-1)), (3, .int (-1)), (0, .ref q3), (1, .int (nI a)), (2, .int (nI e))]) hx hb d_Rdr_takeOther_46 hl (by decide) rfl (fun ls hl => ?_)
        refine lv_iload hx hb d_Rdr_takeOther_48 (lv_at hl 1 rfl) ?_
        refine lv_if_ge (tgt := 57) hx hb d_Rdr_takeOther_50 (by decide) (fun c65 => ?_) (fun c65 => ?_)
        · exact absurd c65 (by decide)
        · refine lv_iconst (v := (nI 0)) hx hb d_Rdr_takeOther_53 (by decide) ?_
          refine lv_goto (tgt := 73) hx hb d_Rdr_takeOther_54 (by decide) ?_
          refine lv_istore (lv' := [(6, .int (nI 0)), (5, .int (nI 0)), (4, .int (-1)), (3, .int (-1)), (0, .ref q3), (1, .int (nI a)), (2, .int (nI e))]) hx hb d_Rdr_takeOther_73 hl (by decide) rfl (fun ls hl => ?_)
          refine lv_aload_n hx hb d_Rdr_takeOther_75 rfl (lv_at hl 4 rfl) ?_
          refine lv_iload_n hx hb d_Rdr_takeOther_76 rfl (lv_at hl 3 rfl) ?_
          refine lv_if_ge (tgt := 84) hx hb d_Rdr_takeOther_77 (by decide) (fun c66 => ?_) (fun c66 => ?_)
          · exact absurd c66 (by decide)
          · refine lv_iload_n hx hb d_Rdr_takeOther_80 rfl (lv_at hl 5 rfl) ?_
            refine lv_goto (tgt := 87) hx hb d_Rdr_takeOther_81 (by decide) ?_
            refine lv_iload hx hb d_Rdr_takeOther_87 (lv_at hl 2 rfl) ?_
            refine lv_if_ge (tgt := 96) hx hb d_Rdr_takeOther_89 (by decide) (fun c67 => ?_) (fun c67 => ?_)
            · exact absurd c67 (by decide)
            · refine lv_iload_n hx hb d_Rdr_takeOther_92 rfl (lv_at hl 6 rfl) ?_
              refine lv_goto (tgt := 98) hx hb d_Rdr_takeOther_93 (by decide) ?_
              refine sd_ri (va_runV (As := [.int (nI a), .int (nI e)]) (rest := []) ⟨hx, hb, hml, hown, hts⟩ (c_Rdr_compBits l g q3 q1 q2 q7 q5 n fp f tx hT a e (by omega) (by omega)) (cwV 2 hts (sd_gV k_348 k_350 k_6 k_26 k_351) rfl rfl rfl (by decide +kernel) ⟨Nat.le_of_ble_eq_true rfl, Nat.le_of_ble_eq_true rfl⟩) (sd_preV hK hE (sd_fr hS hA0) (hP.sub (ws' := [(q3, .inr (4, [.ref q1, .ref q2, .ref q7, .int fp])), (q1, .inr (6, [.ref q5, .int (nI n)])), (q5, .inl (gB g, 2000, .inl f))]) [0, 1, 2] rfl) rfl rfl) rfl rfl hl.1 rfl (lv_room (Nat.le_of_ble_eq_true rfl)) d_Rdr_takeOther_98 ⟨Nat.zero_le _, Nat.zero_le _⟩) (fun r68 er68 => ?_)
              subst er68
              refine lv_istore (lv' := [(7, .int (nI (lk (nmM tx a e) sd_comp) - 1)), (6, .int (nI 0)), (5, .int (nI 0)), (4, .int (-1)), (3, .int (-1)), (0, .ref q3), (1, .int (nI a)), (2, .int (nI e))]) hx hb d_Rdr_takeOther_101 hl (by decide) rfl (fun ls hl => ?_)
              refine lv_iload_n hx hb d_Rdr_takeOther_103 rfl (lv_at hl 4 rfl) ?_
              refine lv_if_lt (tgt := 116) hx hb d_Rdr_takeOther_104 (by decide) (fun c69 => ?_) (fun c69 => ?_)
              · refine lv_iconst (v := (nI 0)) hx hb d_Rdr_takeOther_116 (by decide) ?_
                refine lv_istore (lv' := [(8, .int (nI 0)), (7, .int (nI (lk (nmM tx a e) sd_comp) - 1)), (6, .int (nI 0)), (5, .int (nI 0)), (4, .int (-1)), (3, .int (-1)), (0, .ref q3), (1, .int (nI a)), (2, .int (nI e))]) hx hb d_Rdr_takeOther_117 hl (by decide) rfl (fun ls hl => ?_)
                refine lv_iload hx hb d_Rdr_takeOther_119 (lv_at hl 4 rfl) ?_
                refine lv_if_lt (tgt := 133) hx hb d_Rdr_takeOther_121 (by decide) (fun c70 => ?_) (fun c70 => ?_)
                · refine lv_iconst (v := (nI 0)) hx hb d_Rdr_takeOther_133 (by decide) ?_
                  refine lv_istore (lv' := [(9, .int (nI 0)), (8, .int (nI 0)), (7, .int (nI (lk (nmM tx a e) sd_comp) - 1)), (6, .int (nI 0)), (5, .int (nI 0)), (4, .int (-1)), (3, .int (-1)), (0, .ref q3), (1, .int (nI a)), (2, .int (nI e))]) hx hb d_Rdr_takeOther_134 hl (by decide) rfl (fun ls hl => ?_)
                  refine lv_iload hx hb d_Rdr_takeOther_136 (lv_at hl 1 rfl) ?_
                  refine lv_if_ne (tgt := 151) hx hb d_Rdr_takeOther_138 (by decide) (fun c71 => ?_) (fun c71 => ?_)
                  · exact absurd rfl c71
                  · refine lv_iload hx hb d_Rdr_takeOther_141 (lv_at hl 0 rfl) ?_
                    refine lv_if_ne (tgt := 151) hx hb d_Rdr_takeOther_143 (by decide) (fun c72 => ?_) (fun c72 => ?_)
                    · exact absurd rfl c72
                    · refine lv_iload hx hb d_Rdr_takeOther_146 (lv_at hl 2 rfl) ?_
                      refine lv_if_ge (tgt := 153) hx hb d_Rdr_takeOther_148 (by decide) (fun c73 => ?_) (fun c73 => ?_)
                      · have hc0 : ¬ (lk (nmM tx a e) sd_comp) = 0 := fun q => absurd c73 (by rw [q]; decide)
                        have hok : ¬ ((e < e ∧ 0 = 0) ∨ (e < e ∧ 0 = 0) ∨ (lk (nmM tx a e) sd_comp) = 0) := by
                          rintro (h | h | h)
                          · exact absurd h.1 (Nat.lt_irrefl e)
                          · exact absurd h.1 (Nat.lt_irrefl e)
                          · exact hc0 h
                        refine lv_aload_n hx hb d_Rdr_takeOther_153 rfl (lv_at hl 7 rfl) ?_
                        refine va_get (D := g.1) (ci := 4) (v := .ref q2) (C := "SignDesk$Reader") (T := F_Rdr) (N := 4) hx hb hts in_Rdr hown hK hP 0 rfl rfl 1 (by decide) (hts _ k_102) (fun _ h9 => h9) rfl d_Rdr_takeOther_154 ?_
                        refine sd_ri (va_runV (As := []) (rest := []) ⟨hx, hb, hml, hown, hts⟩ (c_Prg_isFull l g q2 q6 (wn st) pw hPR.1) (cwV 0 hts (sd_gV k_308 k_309 k_310 k_25 k_311) rfl rfl rfl (by decide +kernel) ⟨Nat.le_of_ble_eq_true rfl, Nat.le_of_ble_eq_true rfl⟩) (sd_preV hK hE (sd_fr hS hA0) (hP.sub (ws' := [(q2, .inr (3, [.ref q6, .int (nI (wn st))])), (q6, .inl (gI g, 600, .inl pw))]) [3, 4] rfl) rfl rfl) rfl rfl hl.1 rfl (lv_room (Nat.le_of_ble_eq_true rfl)) d_Rdr_takeOther_157 ⟨Nat.zero_le _, Nat.zero_le _⟩) (fun r74 er74 => ?_)
                        subst er74
                        refine lv_if_eq (tgt := 165) hx hb d_Rdr_takeOther_160 (by decide) (fun c75 => ?_) (fun c75 => ?_)
                        · have c75 := sb_eq0.mp c75
                          refine lv_aload_n hx hb d_Rdr_takeOther_165 rfl (lv_at hl 7 rfl) ?_
                          refine va_get (D := g.1) (ci := 4) (v := .ref q2) (C := "SignDesk$Reader") (T := F_Rdr) (N := 4) hx hb hts in_Rdr hown hK hP 0 rfl rfl 1 (by decide) (hts _ k_102) (fun _ h9 => h9) rfl d_Rdr_takeOther_166 ?_
                          refine lv_ldc (v := nI 57344) hx hb hown (hts _ k_358) d_Rdr_takeOther_169 ?_
                          refine lv_iload hx hb d_Rdr_takeOther_171 (lv_at hl 2 rfl) ?_
                          refine sd_topi (y := nI ((lk (nmM tx a e) sd_comp) - 1)) (m1_up hc0) ?_
                          refine lv_iadd hx hb d_Rdr_takeOther_173 ?_
                          refine sd_topi (y := nI (57344 + ((lk (nmM tx a e) sd_comp) - 1))) (nI_add _ _) ?_
                          refine lv_bipush (v := (nI 8)) hx hb d_Rdr_takeOther_174 (by decide) ?_
                          refine lv_iload hx hb d_Rdr_takeOther_176 (lv_at hl 4 rfl) ?_
                          refine lv_imul hx hb d_Rdr_takeOther_178 ?_
                          refine sd_topi (y := nI (8 * 0)) (pk_mul _ _) ?_
                          refine lv_iadd hx hb d_Rdr_takeOther_179 ?_
                          refine sd_topi (y := nI ((57344 + ((lk (nmM tx a e) sd_comp) - 1)) + (8 * 0))) (nI_add _ _) ?_
                          refine lv_iload hx hb d_Rdr_takeOther_180 (lv_at hl 3 rfl) ?_
                          refine lv_iadd hx hb d_Rdr_takeOther_182 ?_
                          refine sd_topi (y := nI (((57344 + ((lk (nmM tx a e) sd_comp) - 1)) + (8 * 0)) + 0)) (nI_add _ _) ?_
                          refine sd_topi (y := nI (57344 + ((lk (nmM tx a e) sd_comp) - 1) + 8 * 0 + 0)) (congrArg nI (by omega)) ?_
                          have hPc := hP.sub (ws' := [(q2, .inr (3, [.ref q6, .int (nI (wn st))])), (q6, .inl (gI g, 600, .inl pw))]) [3, 4] rfl
                          have hDc := hD.sub (ws' := [(q2, .inr (3, [.ref q6, .int (nI (wn st))])), (q6, .inl (gI g, 600, .inl pw))]) [3, 4] (by decide) rfl
                          have hFc := va_free (wc := [(q2, .inr (3, [.ref q6, .int (nI (wn st))])), (q6, .inl (gI g, 600, .inl pw))]) hD hS hA [3, 4] rfl
                          refine sd_cv (va_runV (As := [.int (nI (57344 + ((lk (nmM tx a e) sd_comp) - 1) + 8 * 0 + 0))]) (rest := []) ⟨hx, hb, hml, hown, hts⟩ (c_Prg_add l g q2 q6 (wn st) pw hPR.1 (nI (57344 + ((lk (nmM tx a e) sd_comp) - 1) + 8 * 0 + 0)) (by omega) s.heap.size) (cwV 1 hts (sd_gV k_321 k_322 k_323 k_25 k_324) rfl rfl rfl (by decide +kernel) ⟨Nat.le_of_ble_eq_true rfl, Nat.le_of_ble_eq_true rfl⟩) (sd_preVU hK hE hS hA0 hs0 hPc hDc rfl rfl) rfl rfl hl.1 rfl (lv_room (Nat.le_of_ble_eq_true rfl)) d_Rdr_takeOther_183 ⟨Nat.zero_le _, Nat.zero_le _⟩) hS hFc (fun u H1 locs hw hP1 hD1 hk1 hS => ?_)
                          obtain ⟨hP, hD⟩ := va_join (wr := [(q3, .inr (4, [.ref q1, .ref q2, .ref q7, .int fp])), (q1, .inr (6, [.ref q5, .int (nI n)])), (q5, .inl (gB g, 2000, .inl f)), (q7, .inr (5, [.ref q1, .ref q8, .ref q9, .ref q10, .int (nI (sn st))])), (q8, .inl (gI g, 40, .inl s1)), (q9, .inl (gI g, 40, .inl s2a)), (q10, .inl (gI g, 40, .inl s3))]) (w1 := [(q2, .inr (3, [.ref q6, .int (nI (wn st + 1))])), (q6, .inl (gI g, 600, .inl (upd pw (wn st) (nI (57344 + ((lk (nmM tx a e) sd_comp) - 1) + 8 * 0 + 0)))))]) hP hD [3, 4] [0, 1, 2, 5, 6, 7, 8] rfl rfl (by decide) (by decide) hk1 hFc hP1 hD1
                          clear hPc hDc hFc hk1 hP1 hD1
                          generalize H1 = H at hP hS ⊢
                          have hP : sdP g [(q3, .inr (4, [.ref q1, .ref q2, .ref q7, .int fp])), (q1, .inr (6, [.ref q5, .int (nI n)])), (q5, .inl (gB g, 2000, .inl f)), (q7, .inr (5, [.ref q1, .ref q8, .ref q9, .ref q10, .int (nI (sn st))])), (q8, .inl (gI g, 40, .inl s1)), (q9, .inl (gI g, 40, .inl s2a)), (q10, .inl (gI g, 40, .inl s3)), (q2, .inr (3, [.ref q6, .int (nI (wn st + 1))])), (q6, .inl (gI g, 600, .inl (upd pw (wn st) (nI (57344 + ((lk (nmM tx a e) sd_comp) - 1) + 8 * 0 + 0)))))] H := hP
                          have hD : va_D A [(q3, .inr (4, [.ref q1, .ref q2, .ref q7, .int fp])), (q1, .inr (6, [.ref q5, .int (nI n)])), (q5, .inl (gB g, 2000, .inl f)), (q7, .inr (5, [.ref q1, .ref q8, .ref q9, .ref q10, .int (nI (sn st))])), (q8, .inl (gI g, 40, .inl s1)), (q9, .inl (gI g, 40, .inl s2a)), (q10, .inl (gI g, 40, .inl s3)), (q2, .inr (3, [.ref q6, .int (nI (wn st + 1))])), (q6, .inl (gI g, 600, .inl (upd pw (wn st) (nI (57344 + ((lk (nmM tx a e) sd_comp) - 1) + 8 * 0 + 0)))))] := hD
                          refine lv_iconst (v := (nI 0)) hx hb d_Rdr_takeOther_186 (by decide) ?_
                          have hP9 := hP.sub (ws' := [(q3, .inr (4, [.ref q1, .ref q2, .ref q7, .int fp])), (q1, .inr (6, [.ref q5, .int (nI n)])), (q5, .inl (gB g, 2000, .inl f)), (q2, .inr (3, [.ref q6, .int (nI (wn st + 1))])), (q6, .inl (gI g, 600, .inl (upd pw (wn st) (nI (57344 + ((lk (nmM tx a e) sd_comp) - 1) + 8 * 0 + 0))))), (q7, .inr (5, [.ref q1, .ref q8, .ref q9, .ref q10, .int (nI (sn st))])), (q8, .inl (gI g, 40, .inl s1)), (q9, .inl (gI g, 40, .inl s2a)), (q10, .inl (gI g, 40, .inl s3))]) [0, 1, 2, 7, 8, 3, 4, 5, 6] rfl
                          have hD9 := hD.sub (ws' := [(q3, .inr (4, [.ref q1, .ref q2, .ref q7, .int fp])), (q1, .inr (6, [.ref q5, .int (nI n)])), (q5, .inl (gB g, 2000, .inl f)), (q2, .inr (3, [.ref q6, .int (nI (wn st + 1))])), (q6, .inl (gI g, 600, .inl (upd pw (wn st) (nI (57344 + ((lk (nmM tx a e) sd_comp) - 1) + 8 * 0 + 0))))), (q7, .inr (5, [.ref q1, .ref q8, .ref q9, .ref q10, .int (nI (sn st))])), (q8, .inl (gI g, 40, .inl s1)), (q9, .inl (gI g, 40, .inl s2a)), (q10, .inl (gI g, 40, .inl s3))]) [0, 1, 2, 7, 8, 3, 4, 5, 6] (by decide) rfl
                          exact W.iret (v := (nI 0)) hx hb hr (fun t ht hW => ⟨⟨_, (pushW st (57344 + ((lk (nmM tx a e) sd_comp) - 1) + 8 * 0 + 0) 0, upd pw (wn st) (nI (57344 + ((lk (nmM tx a e) sd_comp) - 1) + 8 * 0 + 0)), s1, s2a, s3), rfl, ⟨⟨0, by rw [hG, if_neg hok, if_neg c75], rfl⟩, PR_push (y := 0) hPR (by omega), hSR⟩, by rw [ht]; exact hP9, by rw [hAe]; exact hD9⟩, hS.F ht⟩) hS.2.2 d_Rdr_takeOther_187
                        · have c75 := sb_ne0.mp c75
                          refine lv_iconst (v := (nI 2)) hx hb d_Rdr_takeOther_163 (by decide) ?_
                          have hP9 := hP.sub (ws' := [(q3, .inr (4, [.ref q1, .ref q2, .ref q7, .int fp])), (q1, .inr (6, [.ref q5, .int (nI n)])), (q5, .inl (gB g, 2000, .inl f)), (q2, .inr (3, [.ref q6, .int (nI (wn st))])), (q6, .inl (gI g, 600, .inl pw)), (q7, .inr (5, [.ref q1, .ref q8, .ref q9, .ref q10, .int (nI (sn st))])), (q8, .inl (gI g, 40, .inl s1)), (q9, .inl (gI g, 40, .inl s2a)), (q10, .inl (gI g, 40, .inl s3))]) [0, 1, 2, 3, 4, 5, 6, 7, 8] rfl
                          have hD9 := hD.sub (ws' := [(q3, .inr (4, [.ref q1, .ref q2, .ref q7, .int fp])), (q1, .inr (6, [.ref q5, .int (nI n)])), (q5, .inl (gB g, 2000, .inl f)), (q2, .inr (3, [.ref q6, .int (nI (wn st))])), (q6, .inl (gI g, 600, .inl pw)), (q7, .inr (5, [.ref q1, .ref q8, .ref q9, .ref q10, .int (nI (sn st))])), (q8, .inl (gI g, 40, .inl s1)), (q9, .inl (gI g, 40, .inl s2a)), (q10, .inl (gI g, 40, .inl s3))]) [0, 1, 2, 3, 4, 5, 6, 7, 8] (by decide) rfl
                          exact W.iret (v := (nI 2)) hx hb hr (fun t ht hW => ⟨⟨_, (st, pw, s1, s2a, s3), rfl, ⟨⟨2, by rw [hG, if_neg hok, if_pos c75], rfl⟩, hPR, hSR⟩, by rw [ht]; exact hP9, by rw [hAe]; exact hD9⟩, hS.F ht⟩) hS.2.2 d_Rdr_takeOther_164
                      · have hc0 : (lk (nmM tx a e) sd_comp) = 0 := (m1_lt (by omega)).mp (Int32.not_le.mp c73)
                        refine lv_iconst (v := (nI 1)) hx hb d_Rdr_takeOther_151 (by decide) ?_
                        have hP9 := hP.sub (ws' := [(q3, .inr (4, [.ref q1, .ref q2, .ref q7, .int fp])), (q1, .inr (6, [.ref q5, .int (nI n)])), (q5, .inl (gB g, 2000, .inl f)), (q2, .inr (3, [.ref q6, .int (nI (wn st))])), (q6, .inl (gI g, 600, .inl pw)), (q7, .inr (5, [.ref q1, .ref q8, .ref q9, .ref q10, .int (nI (sn st))])), (q8, .inl (gI g, 40, .inl s1)), (q9, .inl (gI g, 40, .inl s2a)), (q10, .inl (gI g, 40, .inl s3))]) [0, 1, 2, 3, 4, 5, 6, 7, 8] rfl
                        have hD9 := hD.sub (ws' := [(q3, .inr (4, [.ref q1, .ref q2, .ref q7, .int fp])), (q1, .inr (6, [.ref q5, .int (nI n)])), (q5, .inl (gB g, 2000, .inl f)), (q2, .inr (3, [.ref q6, .int (nI (wn st))])), (q6, .inl (gI g, 600, .inl pw)), (q7, .inr (5, [.ref q1, .ref q8, .ref q9, .ref q10, .int (nI (sn st))])), (q8, .inl (gI g, 40, .inl s1)), (q9, .inl (gI g, 40, .inl s2a)), (q10, .inl (gI g, 40, .inl s3))]) [0, 1, 2, 3, 4, 5, 6, 7, 8] (by decide) rfl
                        exact W.iret (v := (nI 1)) hx hb hr (fun t ht hW => ⟨⟨_, (st, pw, s1, s2a, s3), rfl, ⟨⟨1, by rw [hG, if_pos (Or.inr (Or.inr hc0))], rfl⟩, hPR, hSR⟩, by rw [ht]; exact hP9, by rw [hAe]; exact hD9⟩, hS.F ht⟩) hS.2.2 d_Rdr_takeOther_152
                · exact absurd (by decide) c70
              · exact absurd (by decide) c69
set_option maxHeartbeats 4000000 in
set_option maxRecDepth 100000 in
/-- take -/
theorem c_Rdr_take (l : Launch) (g : sdG) (q3 q1 q2 q7 q5 q6 q8 q9 q10 n : Nat) (fp : Int32) (f : Nat → Int32) (tx : Nat → Nat) (hT : TXok n f tx) (st : AS) (pw s1 s2 s3 : Nat → Int32) (hPR : PR st pw) (hSR : SR st s1 s2 s3) (a e : Nat) (ha : a < e) (hz : e ≤ 2000) (sz : Nat) : Met l y_Rdr_take (.code y_Rdr_take b_Rdr_take 4 (some .int) :: sdT) ({ frames := 7, cells := 0, slots := 0, locals := 164 }) (va_Pc [.ref q3, .int (nI a), .int (nI e)] (sdU g [(q3, .inr (4, [.ref q1, .ref q2, .ref q7, .int fp])), (q1, .inr (6, [.ref q5, .int (nI n)])), (q5, .inl (gB g, 2000, .inl f)), (q2, .inr (3, [.ref q6, .int (nI (wn st))])), (q6, .inl (gI g, 600, .inl pw)), (q7, .inr (5, [.ref q1, .ref q8, .ref q9, .ref q10, .int (nI (sn st))])), (q8, .inl (gI g, 40, .inl s1)), (q9, .inl (gI g, 40, .inl s2)), (q10, .inl (gI g, 40, .inl s3))] sz)) (va_Qi (S := AS × (Nat → Int32) × (Nat → Int32) × (Nat → Int32) × (Nat → Int32)) (fun r u => (∃ c, spTake tx a e st = (c, u.1) ∧ r = nI c) ∧ PR u.1 u.2.1 ∧ SR u.1 u.2.2.1 u.2.2.2.1 u.2.2.2.2) (fun u t => sdB g [(q3, .inr (4, [.ref q1, .ref q2, .ref q7, .int fp])), (q1, .inr (6, [.ref q5, .int (nI n)])), (q5, .inl (gB g, 2000, .inl f)), (q2, .inr (3, [.ref q6, .int (nI (wn st))])), (q6, .inl (gI g, 600, .inl pw)), (q7, .inr (5, [.ref q1, .ref q8, .ref q9, .ref q10, .int (nI (sn st))])), (q8, .inl (gI g, 40, .inl s1)), (q9, .inl (gI g, 40, .inl s2)), (q10, .inl (gI g, 40, .inl s3))] sz ((fun u => [(q3, .inr (4, [.ref q1, .ref q2, .ref q7, .int fp])), (q1, .inr (6, [.ref q5, .int (nI n)])), (q5, .inl (gB g, 2000, .inl f)), (q2, .inr (3, [.ref q6, .int (nI (wn u.1))])), (q6, .inl (gI g, 600, .inl u.2.1)), (q7, .inr (5, [.ref q1, .ref q8, .ref q9, .ref q10, .int (nI (sn u.1))])), (q8, .inl (gI g, 40, .inl u.2.2.1)), (q9, .inl (gI g, 40, .inl u.2.2.2.1)), (q10, .inl (gI g, 40, .inl u.2.2.2.2))] : AS × (Nat → Int32) × (Nat → Int32) × (Nat → Int32) × (Nat → Int32) → va_W) u) t) (va_A [(q3, .inr (4, [.ref q1, .ref q2, .ref q7, .int fp])), (q1, .inr (6, [.ref q5, .int (nI n)])), (q5, .inl (gB g, 2000, .inl f)), (q2, .inr (3, [.ref q6, .int (nI (wn st))])), (q6, .inl (gI g, 600, .inl pw)), (q7, .inr (5, [.ref q1, .ref q8, .ref q9, .ref q10, .int (nI (sn st))])), (q8, .inl (gI g, 40, .inl s1)), (q9, .inl (gI g, 40, .inl s2)), (q10, .inl (gI g, 40, .inl s3))] sz)) 0 0 (va_A [(q3, .inr (4, [.ref q1, .ref q2, .ref q7, .int fp])), (q1, .inr (6, [.ref q5, .int (nI n)])), (q5, .inl (gB g, 2000, .inl f)), (q2, .inr (3, [.ref q6, .int (nI (wn st))])), (q6, .inl (gI g, 600, .inl pw)), (q7, .inr (5, [.ref q1, .ref q8, .ref q9, .ref q10, .int (nI (sn st))])), (q8, .inl (gI g, 40, .inl s1)), (q9, .inl (gI g, 40, .inl s2)), (q10, .inl (gI g, 40, .inl s3))] sz) := by
  refine Met.ofW (cc := b_Rdr_take) (maxL := 4) (ret := (some .int)) (by decide) rfl ?_
  intro p ev s m args below meth c s₁ B hml hv
  obtain ⟨rfl, hsz, hP, hK, hE, hD0, hs0⟩ := hv
  have hx := B.exec
  have hb := B.bytes
  have hr := B.returns
  have hts := fun (w : Cond) (h : w ∈ sdT) => atoms_spec (ws := (.code y_Rdr_take b_Rdr_take 4 (some .int) :: sdT)) B.pre w (List.mem_cons_of_mem _ h)
  have hown : s.vm.findClass "SignDesk$Reader" = some m.cls := findClass_of_methodNamed B.named
  have hlocks := B.notSynchronized
  subst hsz
  have hD := hD0.self (sz := s.heap.size)
  have hA0 : ∀ q : Nat, va_A [(q3, .inr (4, [.ref q1, .ref q2, .ref q7, .int fp])), (q1, .inr (6, [.ref q5, .int (nI n)])), (q5, .inl (gB g, 2000, .inl f)), (q2, .inr (3, [.ref q6, .int (nI (wn st))])), (q6, .inl (gI g, 600, .inl pw)), (q7, .inr (5, [.ref q1, .ref q8, .ref q9, .ref q10, .int (nI (sn st))])), (q8, .inl (gI g, 40, .inl s1)), (q9, .inl (gI g, 40, .inl s2)), (q10, .inl (gI g, 40, .inl s3))] s.heap.size q → gS g ≤ q := fun q h => h.elim (fun ⟨k, e, hk⟩ => hD0.2 k _ hk) (fun h => Nat.le_trans hs0 h)
  have hA : ∀ q : Nat, s.heap.size ≤ q → va_A [(q3, .inr (4, [.ref q1, .ref q2, .ref q7, .int fp])), (q1, .inr (6, [.ref q5, .int (nI n)])), (q5, .inl (gB g, 2000, .inl f)), (q2, .inr (3, [.ref q6, .int (nI (wn st))])), (q6, .inl (gI g, 600, .inl pw)), (q7, .inr (5, [.ref q1, .ref q8, .ref q9, .ref q10, .int (nI (sn st))])), (q8, .inl (gI g, 40, .inl s1)), (q9, .inl (gI g, 40, .inl s2)), (q10, .inl (gI g, 40, .inl s3))] s.heap.size q := fun q h => Or.inr h
  generalize hAe : va_A [(q3, .inr (4, [.ref q1, .ref q2, .ref q7, .int fp])), (q1, .inr (6, [.ref q5, .int (nI n)])), (q5, .inl (gB g, 2000, .inl f)), (q2, .inr (3, [.ref q6, .int (nI (wn st))])), (q6, .inl (gI g, 600, .inl pw)), (q7, .inr (5, [.ref q1, .ref q8, .ref q9, .ref q10, .int (nI (sn st))])), (q8, .inl (gI g, 40, .inl s1)), (q9, .inl (gI g, 40, .inl s2)), (q10, .inl (gI g, 40, .inl s3))] s.heap.size = A at hD hA0 hA ⊢
  have hS : va_S A s.heap s.heap [] := va_S.rf
  have hP : sdP g [(q3, .inr (4, [.ref q1, .ref q2, .ref q7, .int fp])), (q1, .inr (6, [.ref q5, .int (nI n)])), (q5, .inl (gB g, 2000, .inl f)), (q2, .inr (3, [.ref q6, .int (nI (wn st))])), (q6, .inl (gI g, 600, .inl pw)), (q7, .inr (5, [.ref q1, .ref q8, .ref q9, .ref q10, .int (nI (sn st))])), (q8, .inl (gI g, 40, .inl s1)), (q9, .inl (gI g, 40, .inl s2)), (q10, .inl (gI g, 40, .inl s3))] s.heap := hP
  have hl := lv_entry ([.ref q3, .int (nI a), .int (nI e)]) (n := 4) (Nat.le_of_ble_eq_true rfl)
  rw [lg_entry_eq]
  generalize (lg_sl ([.ref q3, .int (nI a), .int (nI e)]) ++ List.replicate (4 - (lg_sl ([.ref q3, .int (nI a), .int (nI e)])).length) Slot.unset).toArray = ls at hl ⊢
  have hl : lv_has ls 4 [(0, .ref q3), (1, .int (nI a)), (2, .int (nI e))] := hl
  have hn := hT.1
  have hb8 := hT.2.1
  have h40 := hSR.1
  have h600 := hPR.1
  refine lv_aload_n hx hb d_Rdr_take_0 rfl (lv_at hl 0 rfl) ?_
  refine va_get (D := g.1) (ci := 4) (v := .ref q1) (C := "SignDesk$Reader") (T := F_Rdr) (N := 4) hx hb hts in_Rdr hown hK hP 0 rfl rfl 0 (by decide) (hts _ k_101) (fun _ h9 => h9) rfl d_Rdr_take_1 ?_
  refine lv_iload_n hx hb d_Rdr_take_4 rfl (lv_at hl 1 rfl) ?_
  refine sd_ri (va_runV (As := [.int (nI a)]) (rest := []) ⟨hx, hb, hml, hown, hts⟩ (c_Txt_byteAt l g q1 q5 n f tx hT a (by omega)) (cwV 1 hts (sd_gV k_227 k_201 k_202 k_24 k_203) rfl rfl rfl (by decide +kernel) ⟨Nat.le_of_ble_eq_true rfl, Nat.le_of_ble_eq_true rfl⟩) (sd_preV hK hE (sd_fr hS hA0) (hP.sub (ws' := [(q1, .inr (6, [.ref q5, .int (nI n)])), (q5, .inl (gB g, 2000, .inl f))]) [1, 2] rfl) rfl rfl) rfl rfl hl.1 rfl (lv_room (Nat.le_of_ble_eq_true rfl)) d_Rdr_take_5 ⟨Nat.zero_le _, Nat.zero_le _⟩) (fun r1 er1 => ?_)
  subst er1
  have hb8a := hb8 a
  refine lv_istore_n (lv' := [(3, .int (nI (tx a))), (0, .ref q3), (1, .int (nI a)), (2, .int (nI e))]) hx hb d_Rdr_take_8 rfl hl (by decide) rfl (fun ls hl => ?_)
  refine lv_iload_n hx hb d_Rdr_take_9 rfl (lv_at hl 0 rfl) ?_
  refine lv_bipush (v := (nI 64)) hx hb d_Rdr_take_10 (by decide) ?_
  refine lv_icmp_ne (tgt := 24) hx hb d_Rdr_take_12 (by decide) (fun c2 => ?_) (fun c2 => ?_)
  · have c2 := mt (nI_eq (by omega) (by omega)).mpr c2
    refine lv_iload_n hx hb d_Rdr_take_24 rfl (lv_at hl 0 rfl) ?_
    refine lv_bipush (v := (nI 40)) hx hb d_Rdr_take_25 (by decide) ?_
    refine lv_icmp_ne (tgt := 41) hx hb d_Rdr_take_27 (by decide) (fun c3 => ?_) (fun c3 => ?_)
    · have c3 := mt (nI_eq (by omega) (by omega)).mpr c3
      refine lv_aload_n hx hb d_Rdr_take_41 rfl (lv_at hl 1 rfl) ?_
      refine lv_iload_n hx hb d_Rdr_take_42 rfl (lv_at hl 2 rfl) ?_
      refine lv_iload_n hx hb d_Rdr_take_43 rfl (lv_at hl 3 rfl) ?_
      have hPc := hP.sub (ws' := [(q3, .inr (4, [.ref q1, .ref q2, .ref q7, .int fp])), (q1, .inr (6, [.ref q5, .int (nI n)])), (q5, .inl (gB g, 2000, .inl f)), (q2, .inr (3, [.ref q6, .int (nI (wn st))])), (q6, .inl (gI g, 600, .inl pw)), (q7, .inr (5, [.ref q1, .ref q8, .ref q9, .ref q10, .int (nI (sn st))])), (q8, .inl (gI g, 40, .inl s1)), (q9, .inl (gI g, 40, .inl s2)), (q10, .inl (gI g, 40, .inl s3))]) [0, 1, 2, 3, 4, 5, 6, 7, 8] rfl
      have hDc := hD.sub (ws' := [(q3, .inr (4, [.ref q1, .ref q2, .ref q7, .int fp])), (q1, .inr (6, [.ref q5, .int (nI n)])), (q5, .inl (gB g, 2000, .inl f)), (q2, .inr (3, [.ref q6, .int (nI (wn st))])), (q6, .inl (gI g, 600, .inl pw)), (q7, .inr (5, [.ref q1, .ref q8, .ref q9, .ref q10, .int (nI (sn st))])), (q8, .inl (gI g, 40, .inl s1)), (q9, .inl (gI g, 40, .inl s2)), (q10, .inl (gI g, 40, .inl s3))]) [0, 1, 2, 3, 4, 5, 6, 7, 8] (by decide) rfl
      have hFc := va_free (wc := [(q3, .inr (4, [.ref q1, .ref q2, .ref q7, .int fp])), (q1, .inr (6, [.ref q5, .int (nI n)])), (q5, .inl (gB g, 2000, .inl f)), (q2, .inr (3, [.ref q6, .int (nI (wn st))])), (q6, .inl (gI g, 600, .inl pw)), (q7, .inr (5, [.ref q1, .ref q8, .ref q9, .ref q10, .int (nI (sn st))])), (q8, .inl (gI g, 40, .inl s1)), (q9, .inl (gI g, 40, .inl s2)), (q10, .inl (gI g, 40, .inl s3))]) hD hS hA [0, 1, 2, 3, 4, 5, 6, 7, 8] rfl
      refine sd_ci (va_runV (As := [.int (nI a), .int (nI e)]) (rest := []) ⟨hx, hb, hml, hown, hts⟩ (c_Rdr_takeOther l g q3 q1 q2 q7 q5 q6 q8 q9 q10 n fp f tx hT st pw s1 s2 s3 hPR hSR a e (by omega) (by omega) s.heap.size) (cwV 2 hts (sd_gV k_338 k_340 k_5 k_26 k_341) rfl rfl rfl (by decide +kernel) ⟨Nat.le_of_ble_eq_true rfl, Nat.le_of_ble_eq_true rfl⟩) (sd_preVU hK hE hS hA0 hs0 hPc hDc rfl rfl) rfl rfl hl.1 rfl (lv_room (Nat.le_of_ble_eq_true rfl)) d_Rdr_take_44 ⟨Nat.zero_le _, Nat.zero_le _⟩) hS hFc (fun r4 u H1 locs hw hP1 hD1 hk1 hS => ?_)
      obtain ⟨st1, p1, t1, t2, t3⟩ := u
      obtain ⟨hP, hD⟩ := va_join (wr := []) (w1 := [(q3, .inr (4, [.ref q1, .ref q2, .ref q7, .int fp])), (q1, .inr (6, [.ref q5, .int (nI n)])), (q5, .inl (gB g, 2000, .inl f)), (q2, .inr (3, [.ref q6, .int (nI (wn st1))])), (q6, .inl (gI g, 600, .inl p1)), (q7, .inr (5, [.ref q1, .ref q8, .ref q9, .ref q10, .int (nI (sn st1))])), (q8, .inl (gI g, 40, .inl t1)), (q9, .inl (gI g, 40, .inl t2)), (q10, .inl (gI g, 40, .inl t3))]) hP hD [0, 1, 2, 3, 4, 5, 6, 7, 8] [] rfl rfl (by decide) (by decide) hk1 hFc hP1 hD1
      clear hPc hDc hFc hk1 hP1 hD1
      generalize H1 = H at hP hS ⊢
      have hP : sdP g [(q3, .inr (4, [.ref q1, .ref q2, .ref q7, .int fp])), (q1, .inr (6, [.ref q5, .int (nI n)])), (q5, .inl (gB g, 2000, .inl f)), (q2, .inr (3, [.ref q6, .int (nI (wn st1))])), (q6, .inl (gI g, 600, .inl p1)), (q7, .inr (5, [.ref q1, .ref q8, .ref q9, .ref q10, .int (nI (sn st1))])), (q8, .inl (gI g, 40, .inl t1)), (q9, .inl (gI g, 40, .inl t2)), (q10, .inl (gI g, 40, .inl t3))] H := hP
      have hD : va_D A [(q3, .inr (4, [.ref q1, .ref q2, .ref q7, .int fp])), (q1, .inr (6, [.ref q5, .int (nI n)])), (q5, .inl (gB g, 2000, .inl f)), (q2, .inr (3, [.ref q6, .int (nI (wn st1))])), (q6, .inl (gI g, 600, .inl p1)), (q7, .inr (5, [.ref q1, .ref q8, .ref q9, .ref q10, .int (nI (sn st1))])), (q8, .inl (gI g, 40, .inl t1)), (q9, .inl (gI g, 40, .inl t2)), (q10, .inl (gI g, 40, .inl t3))] := hD
      obtain ⟨⟨c9, hc9, er4⟩, hPR1, hSR1⟩ := hw
      subst er4
      have hP9 := hP.sub (ws' := [(q3, .inr (4, [.ref q1, .ref q2, .ref q7, .int fp])), (q1, .inr (6, [.ref q5, .int (nI n)])), (q5, .inl (gB g, 2000, .inl f)), (q2, .inr (3, [.ref q6, .int (nI (wn st1))])), (q6, .inl (gI g, 600, .inl p1)), (q7, .inr (5, [.ref q1, .ref q8, .ref q9, .ref q10, .int (nI (sn st1))])), (q8, .inl (gI g, 40, .inl t1)), (q9, .inl (gI g, 40, .inl t2)), (q10, .inl (gI g, 40, .inl t3))]) [0, 1, 2, 3, 4, 5, 6, 7, 8] rfl
      have hD9 := hD.sub (ws' := [(q3, .inr (4, [.ref q1, .ref q2, .ref q7, .int fp])), (q1, .inr (6, [.ref q5, .int (nI n)])), (q5, .inl (gB g, 2000, .inl f)), (q2, .inr (3, [.ref q6, .int (nI (wn st1))])), (q6, .inl (gI g, 600, .inl p1)), (q7, .inr (5, [.ref q1, .ref q8, .ref q9, .ref q10, .int (nI (sn st1))])), (q8, .inl (gI g, 40, .inl t1)), (q9, .inl (gI g, 40, .inl t2)), (q10, .inl (gI g, 40, .inl t3))]) [0, 1, 2, 3, 4, 5, 6, 7, 8] (by decide) rfl
      exact W.iret (v := (nI c9)) hx hb hr (fun t ht hW => ⟨⟨_, (st1, p1, t1, t2, t3), rfl, ⟨⟨c9, by rw [spTake, if_neg c2, if_neg c3]; exact hc9, rfl⟩, hPR1, hSR1⟩, by rw [ht]; exact hP9, by rw [hAe]; exact hD9⟩, hS.F ht⟩) hS.2.2 d_Rdr_take_47
    · have c3 := (nI_eq (by omega) (by omega)).mp c3
      refine lv_aload_n hx hb d_Rdr_take_30 rfl (lv_at hl 1 rfl) ?_
      refine lv_iload_n hx hb d_Rdr_take_31 rfl (lv_at hl 2 rfl) ?_
      refine lv_iconst (v := (nI 1)) hx hb d_Rdr_take_32 (by decide) ?_
      refine lv_iadd hx hb d_Rdr_take_33 ?_
      refine sd_topi (y := nI (a + 1)) (nI_add _ _) ?_
      refine lv_iload_n hx hb d_Rdr_take_34 rfl (lv_at hl 3 rfl) ?_
      refine lv_iconst (v := (nI 1)) hx hb d_Rdr_take_35 (by decide) ?_
      refine lv_isub hx hb d_Rdr_take_36 ?_
      refine sd_topi (y := nI (e - 1)) (pk_sub (by omega)) ?_
      have hPc := hP.sub (ws' := [(q3, .inr (4, [.ref q1, .ref q2, .ref q7, .int fp])), (q1, .inr (6, [.ref q5, .int (nI n)])), (q5, .inl (gB g, 2000, .inl f)), (q2, .inr (3, [.ref q6, .int (nI (wn st))])), (q6, .inl (gI g, 600, .inl pw)), (q7, .inr (5, [.ref q1, .ref q8, .ref q9, .ref q10, .int (nI (sn st))])), (q8, .inl (gI g, 40, .inl s1)), (q9, .inl (gI g, 40, .inl s2)), (q10, .inl (gI g, 40, .inl s3))]) [0, 1, 2, 3, 4, 5, 6, 7, 8] rfl
      have hDc := hD.sub (ws' := [(q3, .inr (4, [.ref q1, .ref q2, .ref q7, .int fp])), (q1, .inr (6, [.ref q5, .int (nI n)])), (q5, .inl (gB g, 2000, .inl f)), (q2, .inr (3, [.ref q6, .int (nI (wn st))])), (q6, .inl (gI g, 600, .inl pw)), (q7, .inr (5, [.ref q1, .ref q8, .ref q9, .ref q10, .int (nI (sn st))])), (q8, .inl (gI g, 40, .inl s1)), (q9, .inl (gI g, 40, .inl s2)), (q10, .inl (gI g, 40, .inl s3))]) [0, 1, 2, 3, 4, 5, 6, 7, 8] (by decide) rfl
      have hFc := va_free (wc := [(q3, .inr (4, [.ref q1, .ref q2, .ref q7, .int fp])), (q1, .inr (6, [.ref q5, .int (nI n)])), (q5, .inl (gB g, 2000, .inl f)), (q2, .inr (3, [.ref q6, .int (nI (wn st))])), (q6, .inl (gI g, 600, .inl pw)), (q7, .inr (5, [.ref q1, .ref q8, .ref q9, .ref q10, .int (nI (sn st))])), (q8, .inl (gI g, 40, .inl s1)), (q9, .inl (gI g, 40, .inl s2)), (q10, .inl (gI g, 40, .inl s3))]) hD hS hA [0, 1, 2, 3, 4, 5, 6, 7, 8] rfl
      refine sd_ci (va_runV (As := [.int (nI (a + 1)), .int (nI (e - 1))]) (rest := []) ⟨hx, hb, hml, hown, hts⟩ (c_Rdr_takeLabel l g q3 q1 q2 q7 q5 q6 q8 q9 q10 n fp f tx hT st pw s1 s2 s3 hPR hSR (a + 1) (e - 1) (by omega) (by omega) s.heap.size) (cwV 2 hts (sd_gV k_326 k_328 k_4 k_26 k_329) rfl rfl rfl (by decide +kernel) ⟨Nat.le_of_ble_eq_true rfl, Nat.le_of_ble_eq_true rfl⟩) (sd_preVU hK hE hS hA0 hs0 hPc hDc rfl rfl) rfl rfl hl.1 rfl (lv_room (Nat.le_of_ble_eq_true rfl)) d_Rdr_take_37 ⟨Nat.zero_le _, Nat.zero_le _⟩) hS hFc (fun r5 u H1 locs hw hP1 hD1 hk1 hS => ?_)
      obtain ⟨st1, p1, t1, t2, t3⟩ := u
      obtain ⟨hP, hD⟩ := va_join (wr := []) (w1 := [(q3, .inr (4, [.ref q1, .ref q2, .ref q7, .int fp])), (q1, .inr (6, [.ref q5, .int (nI n)])), (q5, .inl (gB g, 2000, .inl f)), (q2, .inr (3, [.ref q6, .int (nI (wn st1))])), (q6, .inl (gI g, 600, .inl p1)), (q7, .inr (5, [.ref q1, .ref q8, .ref q9, .ref q10, .int (nI (sn st1))])), (q8, .inl (gI g, 40, .inl t1)), (q9, .inl (gI g, 40, .inl t2)), (q10, .inl (gI g, 40, .inl t3))]) hP hD [0, 1, 2, 3, 4, 5, 6, 7, 8] [] rfl rfl (by decide) (by decide) hk1 hFc hP1 hD1
      clear hPc hDc hFc hk1 hP1 hD1
      generalize H1 = H at hP hS ⊢
      have hP : sdP g [(q3, .inr (4, [.ref q1, .ref q2, .ref q7, .int fp])), (q1, .inr (6, [.ref q5, .int (nI n)])), (q5, .inl (gB g, 2000, .inl f)), (q2, .inr (3, [.ref q6, .int (nI (wn st1))])), (q6, .inl (gI g, 600, .inl p1)), (q7, .inr (5, [.ref q1, .ref q8, .ref q9, .ref q10, .int (nI (sn st1))])), (q8, .inl (gI g, 40, .inl t1)), (q9, .inl (gI g, 40, .inl t2)), (q10, .inl (gI g, 40, .inl t3))] H := hP
      have hD : va_D A [(q3, .inr (4, [.ref q1, .ref q2, .ref q7, .int fp])), (q1, .inr (6, [.ref q5, .int (nI n)])), (q5, .inl (gB g, 2000, .inl f)), (q2, .inr (3, [.ref q6, .int (nI (wn st1))])), (q6, .inl (gI g, 600, .inl p1)), (q7, .inr (5, [.ref q1, .ref q8, .ref q9, .ref q10, .int (nI (sn st1))])), (q8, .inl (gI g, 40, .inl t1)), (q9, .inl (gI g, 40, .inl t2)), (q10, .inl (gI g, 40, .inl t3))] := hD
      obtain ⟨⟨c9, hc9, er5⟩, hPR1, hSR1⟩ := hw
      subst er5
      have hP9 := hP.sub (ws' := [(q3, .inr (4, [.ref q1, .ref q2, .ref q7, .int fp])), (q1, .inr (6, [.ref q5, .int (nI n)])), (q5, .inl (gB g, 2000, .inl f)), (q2, .inr (3, [.ref q6, .int (nI (wn st1))])), (q6, .inl (gI g, 600, .inl p1)), (q7, .inr (5, [.ref q1, .ref q8, .ref q9, .ref q10, .int (nI (sn st1))])), (q8, .inl (gI g, 40, .inl t1)), (q9, .inl (gI g, 40, .inl t2)), (q10, .inl (gI g, 40, .inl t3))]) [0, 1, 2, 3, 4, 5, 6, 7, 8] rfl
      have hD9 := hD.sub (ws' := [(q3, .inr (4, [.ref q1, .ref q2, .ref q7, .int fp])), (q1, .inr (6, [.ref q5, .int (nI n)])), (q5, .inl (gB g, 2000, .inl f)), (q2, .inr (3, [.ref q6, .int (nI (wn st1))])), (q6, .inl (gI g, 600, .inl p1)), (q7, .inr (5, [.ref q1, .ref q8, .ref q9, .ref q10, .int (nI (sn st1))])), (q8, .inl (gI g, 40, .inl t1)), (q9, .inl (gI g, 40, .inl t2)), (q10, .inl (gI g, 40, .inl t3))]) [0, 1, 2, 3, 4, 5, 6, 7, 8] (by decide) rfl
      exact W.iret (v := (nI c9)) hx hb hr (fun t ht hW => ⟨⟨_, (st1, p1, t1, t2, t3), rfl, ⟨⟨c9, by rw [spTake, if_neg c2, if_pos c3]; exact hc9, rfl⟩, hPR1, hSR1⟩, by rw [ht]; exact hP9, by rw [hAe]; exact hD9⟩, hS.F ht⟩) hS.2.2 d_Rdr_take_40
  · have c2 := (nI_eq (by omega) (by omega)).mp c2
    refine lv_aload_n hx hb d_Rdr_take_15 rfl (lv_at hl 1 rfl) ?_
    refine lv_iload_n hx hb d_Rdr_take_16 rfl (lv_at hl 2 rfl) ?_
    refine lv_iconst (v := (nI 1)) hx hb d_Rdr_take_17 (by decide) ?_
    refine lv_iadd hx hb d_Rdr_take_18 ?_
    refine sd_topi (y := nI (a + 1)) (nI_add _ _) ?_
    refine lv_iload_n hx hb d_Rdr_take_19 rfl (lv_at hl 3 rfl) ?_
    have hPc := hP.sub (ws' := [(q3, .inr (4, [.ref q1, .ref q2, .ref q7, .int fp])), (q1, .inr (6, [.ref q5, .int (nI n)])), (q5, .inl (gB g, 2000, .inl f)), (q2, .inr (3, [.ref q6, .int (nI (wn st))])), (q6, .inl (gI g, 600, .inl pw)), (q7, .inr (5, [.ref q1, .ref q8, .ref q9, .ref q10, .int (nI (sn st))])), (q8, .inl (gI g, 40, .inl s1)), (q9, .inl (gI g, 40, .inl s2)), (q10, .inl (gI g, 40, .inl s3))]) [0, 1, 2, 3, 4, 5, 6, 7, 8] rfl
    have hDc := hD.sub (ws' := [(q3, .inr (4, [.ref q1, .ref q2, .ref q7, .int fp])), (q1, .inr (6, [.ref q5, .int (nI n)])), (q5, .inl (gB g, 2000, .inl f)), (q2, .inr (3, [.ref q6, .int (nI (wn st))])), (q6, .inl (gI g, 600, .inl pw)), (q7, .inr (5, [.ref q1, .ref q8, .ref q9, .ref q10, .int (nI (sn st))])), (q8, .inl (gI g, 40, .inl s1)), (q9, .inl (gI g, 40, .inl s2)), (q10, .inl (gI g, 40, .inl s3))]) [0, 1, 2, 3, 4, 5, 6, 7, 8] (by decide) rfl
    have hFc := va_free (wc := [(q3, .inr (4, [.ref q1, .ref q2, .ref q7, .int fp])), (q1, .inr (6, [.ref q5, .int (nI n)])), (q5, .inl (gB g, 2000, .inl f)), (q2, .inr (3, [.ref q6, .int (nI (wn st))])), (q6, .inl (gI g, 600, .inl pw)), (q7, .inr (5, [.ref q1, .ref q8, .ref q9, .ref q10, .int (nI (sn st))])), (q8, .inl (gI g, 40, .inl s1)), (q9, .inl (gI g, 40, .inl s2)), (q10, .inl (gI g, 40, .inl s3))]) hD hS hA [0, 1, 2, 3, 4, 5, 6, 7, 8] rfl
    refine sd_ci (va_runV (As := [.int (nI (a + 1)), .int (nI e)]) (rest := []) ⟨hx, hb, hml, hown, hts⟩ (c_Rdr_takeAddress l g q3 q1 q2 q7 q5 q6 q8 q9 q10 n fp f tx hT st pw s1 s2 s3 hPR hSR (a + 1) e (by omega) (by omega) s.heap.size) (cwV 2 hts (sd_gV k_228 k_230 k_2 k_26 k_231) rfl rfl rfl (by decide +kernel) ⟨Nat.le_of_ble_eq_true rfl, Nat.le_of_ble_eq_true rfl⟩) (sd_preVU hK hE hS hA0 hs0 hPc hDc rfl rfl) rfl rfl hl.1 rfl (lv_room (Nat.le_of_ble_eq_true rfl)) d_Rdr_take_20 ⟨Nat.zero_le _, Nat.zero_le _⟩) hS hFc (fun r6 u H1 locs hw hP1 hD1 hk1 hS => ?_)
    obtain ⟨st1, p1, t1, t2, t3⟩ := u
    obtain ⟨hP, hD⟩ := va_join (wr := []) (w1 := [(q3, .inr (4, [.ref q1, .ref q2, .ref q7, .int fp])), (q1, .inr (6, [.ref q5, .int (nI n)])), (q5, .inl (gB g, 2000, .inl f)), (q2, .inr (3, [.ref q6, .int (nI (wn st1))])), (q6, .inl (gI g, 600, .inl p1)), (q7, .inr (5, [.ref q1, .ref q8, .ref q9, .ref q10, .int (nI (sn st1))])), (q8, .inl (gI g, 40, .inl t1)), (q9, .inl (gI g, 40, .inl t2)), (q10, .inl (gI g, 40, .inl t3))]) hP hD [0, 1, 2, 3, 4, 5, 6, 7, 8] [] rfl rfl (by decide) (by decide) hk1 hFc hP1 hD1
    clear hPc hDc hFc hk1 hP1 hD1
    generalize H1 = H at hP hS ⊢
    have hP : sdP g [(q3, .inr (4, [.ref q1, .ref q2, .ref q7, .int fp])), (q1, .inr (6, [.ref q5, .int (nI n)])), (q5, .inl (gB g, 2000, .inl f)), (q2, .inr (3, [.ref q6, .int (nI (wn st1))])), (q6, .inl (gI g, 600, .inl p1)), (q7, .inr (5, [.ref q1, .ref q8, .ref q9, .ref q10, .int (nI (sn st1))])), (q8, .inl (gI g, 40, .inl t1)), (q9, .inl (gI g, 40, .inl t2)), (q10, .inl (gI g, 40, .inl t3))] H := hP
    have hD : va_D A [(q3, .inr (4, [.ref q1, .ref q2, .ref q7, .int fp])), (q1, .inr (6, [.ref q5, .int (nI n)])), (q5, .inl (gB g, 2000, .inl f)), (q2, .inr (3, [.ref q6, .int (nI (wn st1))])), (q6, .inl (gI g, 600, .inl p1)), (q7, .inr (5, [.ref q1, .ref q8, .ref q9, .ref q10, .int (nI (sn st1))])), (q8, .inl (gI g, 40, .inl t1)), (q9, .inl (gI g, 40, .inl t2)), (q10, .inl (gI g, 40, .inl t3))] := hD
    obtain ⟨⟨c9, hc9, er6⟩, hPR1, hSR1⟩ := hw
    subst er6
    have hP9 := hP.sub (ws' := [(q3, .inr (4, [.ref q1, .ref q2, .ref q7, .int fp])), (q1, .inr (6, [.ref q5, .int (nI n)])), (q5, .inl (gB g, 2000, .inl f)), (q2, .inr (3, [.ref q6, .int (nI (wn st1))])), (q6, .inl (gI g, 600, .inl p1)), (q7, .inr (5, [.ref q1, .ref q8, .ref q9, .ref q10, .int (nI (sn st1))])), (q8, .inl (gI g, 40, .inl t1)), (q9, .inl (gI g, 40, .inl t2)), (q10, .inl (gI g, 40, .inl t3))]) [0, 1, 2, 3, 4, 5, 6, 7, 8] rfl
    have hD9 := hD.sub (ws' := [(q3, .inr (4, [.ref q1, .ref q2, .ref q7, .int fp])), (q1, .inr (6, [.ref q5, .int (nI n)])), (q5, .inl (gB g, 2000, .inl f)), (q2, .inr (3, [.ref q6, .int (nI (wn st1))])), (q6, .inl (gI g, 600, .inl p1)), (q7, .inr (5, [.ref q1, .ref q8, .ref q9, .ref q10, .int (nI (sn st1))])), (q8, .inl (gI g, 40, .inl t1)), (q9, .inl (gI g, 40, .inl t2)), (q10, .inl (gI g, 40, .inl t3))]) [0, 1, 2, 3, 4, 5, 6, 7, 8] (by decide) rfl
    exact W.iret (v := (nI c9)) hx hb hr (fun t ht hW => ⟨⟨_, (st1, p1, t1, t2, t3), rfl, ⟨⟨c9, by rw [spTake, if_pos c2]; exact hc9, rfl⟩, hPR1, hSR1⟩, by rw [ht]; exact hP9, by rw [hAe]; exact hD9⟩, hS.F ht⟩) hS.2.2 d_Rdr_take_23
end
section
/-! reading a text: what it does to the state; what a state keeps -/
/-- how many of the symbols below t are untold -/
def cnt0 (st : AS) : Nat → Nat
  | 0 => 0
  | t + 1 => cnt0 st t + if sv st t = 0 then 1 else 0
/-- a symbol's number in the end -/
def sF (st : AS) (t : Nat) : Nat := if sv st t = 0 then 16 + cnt0 st t else sv st t - 1
/-- a word in the end -/
def fin (st : AS) (i : Nat) : Nat := if wy st i = 0 then wc st i else sF st (wy st i - 1)
noncomputable def asm (tx : Nat → Nat) (n : Nat) : Nat → Nat → Nat → AS → Nat × Nat × AS
  | 0, k, _, st => (0, k, st)
  | f + 1, k, h, st =>
    if n ≤ k then (0, k, st)
    else if tx k = 10 then asm tx n f (k + 1) 0 st
    else if tx k = 9 ∨ tx k = 13 ∨ tx k = 32 then asm tx n f (k + 1) h st
    else if tx k = 47 ∧ tx (k + 1) = 47 then asm tx n f (ff (fun j => tx j = 10) (n - k) k) h st
    else if h = 0 then
      (if (spTake tx k (ff (isSt tx) (n - k) k) st).1 = 0 then asm tx n f (ff (isSt tx) (n - k) k) 1 (spTake tx k (ff (isSt tx) (n - k) k) st).2
       else ((spTake tx k (ff (isSt tx) (n - k) k) st).1, k, (spTake tx k (ff (isSt tx) (n - k) k) st).2))
    else (1, k, st)
def E0 : AS := ((0, fun _ => 0, fun _ => 0), (0, fun _ => 0, fun _ => 0, fun _ => 0))
/-- what every state of a reading keeps -/
def AInv (st : AS) : Prop := wn st ≤ 600 ∧ sn st ≤ 40 ∧ (∀ w, w < wn st → wc st w < 65536 ∧ wy st w ≤ sn st) ∧ (∀ t, t < sn st → sv st t ≤ 601) ∧
  ∀ t, t < sn st → sv st t = 0 → ∃ w0, w0 < wn st ∧ wy st w0 = t + 1 ∧ ∀ w, w < w0 → wy st w ≤ t
theorem AInv_E0 : AInv E0 := ⟨Nat.zero_le _, Nat.zero_le _, fun _ h => absurd h (Nat.not_lt_zero _), fun _ h => absurd h (Nat.not_lt_zero _), fun _ h => absurd h (Nat.not_lt_zero _)⟩
theorem AInv_push {st : AS} {c y : Nat} (h : AInv st) (hlt : wn st < 600) (hc : c < 65536) (hy : y ≤ sn st) : AInv (pushW st c y) := by
  obtain ⟨h1, h2, h3, h4, h5⟩ := h
  refine ⟨(by show wn st + 1 ≤ 600; omega), h2, fun w hw => ?_, h4, fun t ht h0 => ?_⟩
  · have hw : w < wn st + 1 := hw
    show va_up (wc st) (wn st) c w < 65536 ∧ va_up (wy st) (wn st) y w ≤ sn st
    by_cases e : w = wn st
    · subst e; rw [va_up_self, va_up_self]; exact ⟨hc, hy⟩
    · rw [va_up_ne _ _ e, va_up_ne _ _ e]; exact h3 w (by omega)
  · obtain ⟨w0, a1, a2, a3⟩ := h5 t ht h0
    refine ⟨w0, (by show w0 < wn st + 1; omega), ?_, fun w hw => ?_⟩
    · show va_up (wy st) (wn st) y w0 = t + 1
      rw [va_up_ne _ _ (by omega)]; exact a2
    · show va_up (wy st) (wn st) y w ≤ t
      rw [va_up_ne _ _ (by omega)]; exact a3 w hw
theorem AInv_tell {st : AS} {k v : Nat} (h : AInv st) (hv : v ≤ 600) : AInv (tellS st k (v + 1)) := by
  obtain ⟨h1, h2, h3, h4, h5⟩ := h
  refine ⟨h1, h2, h3, fun t ht => ?_, fun t ht h0 => ?_⟩
  · show va_up (sv st) k (v + 1) t ≤ 601
    by_cases e : t = k
    · subst e; rw [va_up_self]; omega
    · rw [va_up_ne _ _ e]; exact h4 t ht
  · have h0 : va_up (sv st) k (v + 1) t = 0 := h0
    by_cases e : t = k
    · subst e; rw [va_up_self] at h0; omega
    · rw [va_up_ne _ _ e] at h0; exact h5 t ht h0
theorem AInv_addp {st : AS} {a n : Nat} (h : AInv st) (hlt : wn st < 600) (h40 : sn st < 40) : AInv (pushW (addS st a n 0) 0 (sn st + 1)) := by
  obtain ⟨h1, h2, h3, h4, h5⟩ := h
  refine ⟨(by show wn st + 1 ≤ 600; omega), (by show sn st + 1 ≤ 40; omega), fun w hw => ?_, fun t ht => ?_, fun t ht h0 => ?_⟩
  · have hw : w < wn st + 1 := hw
    show va_up (wc st) (wn st) 0 w < 65536 ∧ va_up (wy st) (wn st) (sn st + 1) w ≤ sn st + 1
    by_cases e : w = wn st
    · subst e; rw [va_up_self, va_up_self]; exact ⟨by decide, Nat.le_refl _⟩
    · rw [va_up_ne _ _ e, va_up_ne _ _ e]; have := h3 w (by omega); exact ⟨this.1, by omega⟩
  · have ht : t < sn st + 1 := ht
    show va_up (sv st) (sn st) 0 t ≤ 601
    by_cases e : t = sn st
    · subst e; rw [va_up_self]; omega
    · rw [va_up_ne _ _ e]; exact h4 t (by omega)
  · have ht : t < sn st + 1 := ht
    have h0 : va_up (sv st) (sn st) 0 t = 0 := h0
    by_cases e : t = sn st
    · refine ⟨wn st, (by show wn st < wn st + 1; omega), ?_, fun w hw => ?_⟩
      · show va_up (wy st) (wn st) (sn st + 1) (wn st) = t + 1
        rw [va_up_self, e]
      · show va_up (wy st) (wn st) (sn st + 1) w ≤ t
        rw [va_up_ne _ _ (by omega), e]; exact (h3 w hw).2
    · rw [va_up_ne _ _ e] at h0
      obtain ⟨w0, a1, a2, a3⟩ := h5 t (by omega) h0
      refine ⟨w0, (by show w0 < wn st + 1; omega), ?_, fun w hw => ?_⟩
      · show va_up (wy st) (wn st) (sn st + 1) w0 = t + 1
        rw [va_up_ne _ _ (by omega)]; exact a2
      · show va_up (wy st) (wn st) (sn st + 1) w ≤ t
        rw [va_up_ne _ _ (by omega)]; exact a3 w hw
theorem AInv_addt {st : AS} {a n v : Nat} (h : AInv st) (h40 : sn st < 40) (hv : v ≤ 600) : AInv (tellS (addS st a n 0) (sn st) (v + 1)) := by
  obtain ⟨h1, h2, h3, h4, h5⟩ := h
  refine ⟨h1, (by show sn st + 1 ≤ 40; omega), fun w hw => ?_, fun t ht => ?_, fun t ht h0 => ?_⟩
  · have := h3 w hw; exact ⟨this.1, by show wy st w ≤ sn st + 1; omega⟩
  · have ht : t < sn st + 1 := ht
    show va_up (va_up (sv st) (sn st) 0) (sn st) (v + 1) t ≤ 601
    by_cases e : t = sn st
    · subst e; rw [va_up_self]; omega
    · rw [va_up_ne _ _ e, va_up_ne _ _ e]; exact h4 t (by omega)
  · have ht : t < sn st + 1 := ht
    have h0 : va_up (va_up (sv st) (sn st) 0) (sn st) (v + 1) t = 0 := h0
    by_cases e : t = sn st
    · subst e; rw [va_up_self] at h0; omega
    · rw [va_up_ne _ _ e, va_up_ne _ _ e] at h0
      exact h5 t (by omega) h0
theorem syO_cases {tx : Nat → Nat} {st : AS} {a n : Nat} : (∃ k, k < sn st ∧ syO tx st a n = (k + 1, st)) ∨ syO tx st a n = (0, st) ∨ (sn st < 40 ∧ syO tx st a n = (sn st + 1, addS st a n 0)) := by
  unfold syO
  split
  · exact Or.inl ⟨_, by assumption, rfl⟩
  · split
    · exact Or.inr (Or.inl rfl)
    · exact Or.inr (Or.inr ⟨by omega, rfl⟩)
theorem spTake_inv {tx : Nat → Nat} {a e : Nat} {st : AS} (h : AInv st) (h0 : (spTake tx a e st).1 = 0) : AInv (spTake tx a e st).2 := by
  have h600 := h.1
  unfold spTake at h0 ⊢
  split at h0
  · rename_i c1; rw [if_pos c1]
    unfold spAddr at h0 ⊢
    by_cases p1 : syP tx (a + 1) e
    · rw [cl_t p1] at h0 ⊢
      by_cases p2 : 600 ≤ wn st
      · rw [if_pos p2] at h0; simp at h0
      · rw [if_neg p2] at h0 ⊢
        by_cases p3 : knK tx (a + 1) e = 0
        · rw [if_pos p3] at h0 ⊢
          rcases syO_cases (tx := tx) (st := st) (a := a + 1) (n := e - (a + 1)) with ⟨k, hk, e1⟩ | e1 | ⟨hk, e1⟩
          · rw [e1] at h0 ⊢
            exact AInv_push (st := st) h (by omega) (by decide) hk
          · rw [e1] at h0; simp at h0
          · rw [e1] at h0 ⊢
            exact AInv_addp h (by omega) hk
        · rw [if_neg p3] at h0 ⊢
          have := knK_le (tx := tx) (a := a + 1) (z := e)
          exact AInv_push h (by omega) (by omega) (Nat.zero_le _)
    · rw [cl_f p1] at h0 ⊢
      by_cases p4 : nuP tx (a + 1) e
      · rw [cl_t p4] at h0 ⊢
        by_cases p2 : 600 ≤ wn st
        · rw [if_pos p2] at h0; simp at h0
        · rw [if_neg p2] at h0 ⊢
          have := p4.2.2.2
          exact AInv_push h (by omega) (by omega) (Nat.zero_le _)
      · rw [cl_f p4] at h0; simp at h0
  · rename_i c1; rw [if_neg c1]
    split at h0
    · rename_i c2; rw [if_pos c2]
      unfold spLabel at h0 ⊢
      by_cases p1 : syP tx (a + 1) (e - 1) ∧ tx (e - 1) = 41
      · rw [cl_t p1] at h0 ⊢
        by_cases p3 : knK tx (a + 1) (e - 1) = 0
        · rw [if_pos p3] at h0 ⊢
          rcases syO_cases (tx := tx) (st := st) (a := a + 1) (n := e - 1 - (a + 1)) with ⟨k, hk, e1⟩ | e1 | ⟨hk, e1⟩
          · rw [e1] at h0 ⊢
            rw [if_neg (Nat.succ_ne_zero k)] at h0 ⊢
            by_cases p5 : sv (k + 1, st).2 ((k + 1, st).1 - 1) = 0
            · rw [if_pos p5] at h0 ⊢
              exact AInv_tell h h600
            · rw [if_neg p5] at h0; simp at h0
          · rw [e1] at h0; simp at h0
          · rw [e1] at h0 ⊢
            rw [if_neg (Nat.succ_ne_zero _)] at h0 ⊢
            by_cases p5 : sv (sn st + 1, addS st (a + 1) (e - 1 - (a + 1)) 0).2 ((sn st + 1, addS st (a + 1) (e - 1 - (a + 1)) 0).1 - 1) = 0
            · rw [if_pos p5] at h0 ⊢
              exact AInv_addt h hk h600
            · rw [if_neg p5] at h0; simp at h0
        · rw [if_neg p3] at h0; simp at h0
      · rw [cl_f p1] at h0; simp at h0
    · rename_i c2; rw [if_neg c2]
      unfold spOther at h0 ⊢
      split at h0
      · simp at h0
      · rename_i c3; rw [if_neg c3]
        split at h0
        · simp at h0
        · rename_i c4; rw [if_neg c4]
          have d1 : oC tx a e ≤ 8129 := lk_le sd_comp_lt
          have d2 : oD tx a e ≤ 7 := lk_le sd_dest_lt
          have d3 : oJ tx a e ≤ 7 := lk_le sd_jump_lt
          refine AInv_push h (by omega) ?_ (Nat.zero_le _)
          split <;> split <;> omega
theorem asm_inv {tx : Nat → Nat} {n : Nat} : ∀ (f k h : Nat) (st : AS), AInv st → (asm tx n f k h st).1 = 0 → AInv (asm tx n f k h st).2.2 := by
  intro f
  induction f with
  | zero => intro k h st hi _; exact hi
  | succ f ih =>
    intro k h st hi h0
    unfold asm at h0 ⊢
    split at h0
    · rename_i c1; rw [if_pos c1]; exact hi
    · rename_i c1; rw [if_neg c1]
      split at h0
      · rename_i c2; rw [if_pos c2]; exact ih _ _ _ hi h0
      · rename_i c2; rw [if_neg c2]
        split at h0
        · rename_i c3; rw [if_pos c3]; exact ih _ _ _ hi h0
        · rename_i c3; rw [if_neg c3]
          split at h0
          · rename_i c4; rw [if_pos c4]; exact ih _ _ _ hi h0
          · rename_i c4; rw [if_neg c4]
            split at h0
            · rename_i c5; rw [if_pos c5]
              split at h0
              · rename_i c6; rw [if_pos c6]; exact ih _ _ _ (spTake_inv hi c6) h0
              · rename_i c6; exact absurd h0 c6
            · simp at h0
theorem cnt0_le (st : AS) (t : Nat) : cnt0 st t ≤ t := by
  induction t with
  | zero => exact Nat.le_refl _
  | succ t ih => show cnt0 st t + (if sv st t = 0 then 1 else 0) ≤ t + 1; split <;> omega
theorem cnt0_eq {st : AS} {a : Nat} : ∀ (d : Nat), (∀ t, a ≤ t → t < a + d → ¬ sv st t = 0) → cnt0 st (a + d) = cnt0 st a := by
  intro d
  induction d with
  | zero => intro _; rfl
  | succ d ih =>
    intro h
    show cnt0 st (a + d) + (if sv st (a + d) = 0 then 1 else 0) = cnt0 st a
    rw [if_neg (h (a + d) (by omega) (by omega)), ih (fun t h1 h2 => h t h1 (by omega)), Nat.add_zero]
theorem fill_key {st : AS} {i s T : Nat} (h : AInv st) (hi : i < wn st) (hs : wy st i = s + 1) (h7 : ∀ w, w < i → ¬ wy st w = 0 → sv st (wy st w - 1) = 0 → wy st w - 1 < T) : ∀ t, T ≤ t → t < s → ¬ sv st t = 0 := by
  intro t h1 h2 h0
  have hsn := (h.2.2.1 i hi).2
  obtain ⟨w0, a1, a2, a3⟩ := h.2.2.2.2 t (by omega) h0
  rcases Nat.lt_or_ge w0 i with q | q
  · have e : wy st w0 - 1 = t := by omega
    have := h7 w0 q (by omega) (by rw [e]; exact h0)
    omega
  · rcases Nat.lt_or_ge i w0 with q2 | q2
    · have := a3 i q2; omega
    · have : w0 = i := by omega
      subst this; omega
def mkS (st : AS) (v : Nat → Nat) : AS := (st.1, (sn st, sa st, sl st, v))
/-- the symbols' numbers when those below T have theirs -/
def svI (st : AS) (T : Nat) (v : Nat → Nat) : Prop := ∀ t, t < sn st → v t = if sv st t = 0 then (if t < T then 17 + cnt0 st t else 0) else sv st t
theorem svI_F {st : AS} {T t : Nat} {v : Nat → Nat} (h : svI st T v) (ht : t < sn st) (h0 : ¬ v t = 0) : nI (v t) - 1 = nI (sF st t) := by
  rw [m1_up h0]
  congr 1
  have e := h t ht
  unfold sF
  by_cases q : sv st t = 0
  · rw [if_pos q] at e ⊢
    by_cases q2 : t < T
    · rw [if_pos q2] at e; omega
    · rw [if_neg q2] at e; exact absurd e h0
  · rw [if_neg q] at e ⊢; omega
theorem svI_step {st : AS} {T s : Nat} {v : Nat → Nat} (h : svI st T v) (hs : s < sn st) (h0 : v s = 0) (hk : ∀ t, T ≤ t → t < s → ¬ sv st t = 0) : sv st s = 0 ∧ T ≤ s ∧ cnt0 st s = cnt0 st T ∧ svI st (s + 1) (va_up v s (16 + cnt0 st T + 1)) := by
  have e := h s hs
  have hz : sv st s = 0 := by
    by_cases q : sv st s = 0
    · exact q
    · rw [if_neg q] at e; omega
  rw [if_pos hz] at e
  have hT : T ≤ s := by
    rcases Nat.lt_or_ge s T with q | q
    · rw [if_pos q] at e; omega
    · exact q
  have hc : cnt0 st s = cnt0 st T := by
    have := cnt0_eq (st := st) (a := T) (s - T) (fun t h1 h2 => hk t h1 (by omega))
    rw [show T + (s - T) = s by omega] at this
    exact this
  refine ⟨hz, hT, hc, fun t ht => ?_⟩
  by_cases et : t = s
  · subst et
    rw [va_up_self, if_pos hz, if_pos (by omega), hc]; omega
  · rw [va_up_ne _ _ et, h t ht]
    by_cases q : sv st t = 0
    · rw [if_pos q, if_pos q]
      by_cases q2 : t < T
      · rw [if_pos q2, if_pos (by omega)]
      · rw [if_neg q2, if_neg]
        intro q3
        exact hk t (by omega) (by omega) q
    · rw [if_neg q, if_neg q]
theorem asm_end {tx : Nat → Nat} {n f k h : Nat} {st : AS} (hk : n ≤ k) : asm tx n f k h st = (0, k, st) := by
  cases f with
  | zero => rfl
  | succ f => unfold asm; rw [if_pos hk]
theorem asm_nl {tx : Nat → Nat} {n f k h : Nat} {st : AS} (hk : k < n) (h1 : tx k = 10) : asm tx n (f + 1) k h st = asm tx n f (k + 1) 0 st := by
  rw [asm, if_neg (by omega), if_pos h1]
theorem asm_bl {tx : Nat → Nat} {n f k h : Nat} {st : AS} (hk : k < n) (h2 : tx k = 9 ∨ tx k = 13 ∨ tx k = 32) : asm tx n (f + 1) k h st = asm tx n f (k + 1) h st := by
  rw [asm, if_neg (by omega), if_neg (by omega), if_pos h2]
theorem asm_cm {tx : Nat → Nat} {n f k h z : Nat} {st : AS} (hk : k < n) (h3 : tx k = 47 ∧ tx (k + 1) = 47) (h4 : k ≤ z) (h5 : z ≤ n) (h6 : ∀ j, k ≤ j → j < z → ¬ tx j = 10) (h7 : tx z = 10) : asm tx n (f + 1) k h st = asm tx n f z h st := by
  rw [asm, if_neg (by omega), if_neg (by omega), if_neg (by omega), if_pos h3, ff_eq (n - k) k z h4 (by omega) h6 (fun _ => h7)]
theorem asm_had {tx : Nat → Nat} {n f k h : Nat} {st : AS} (hk : k < n) (hs : ¬ isSt tx k) (hh : ¬ h = 0) : asm tx n (f + 1) k h st = (1, k, st) := by
  rw [asm, if_neg (by omega), if_neg (fun q => hs (Or.inl q)), if_neg (fun q => hs (Or.inr (Or.inl q))), if_neg (fun q => hs (Or.inr (Or.inr q))), if_neg hh]
theorem asm_take {tx : Nat → Nat} {n f k z c : Nat} {st st1 : AS} (hk : k < n) (hs : ¬ isSt tx k) (h4 : k ≤ z) (h5 : z ≤ n) (h6 : ∀ j, k ≤ j → j < z → ¬ isSt tx j) (h7 : isSt tx z) (ht : spTake tx k z st = (c, st1)) : asm tx n (f + 1) k 0 st = if c = 0 then asm tx n f z 1 st1 else (c, k, st1) := by
  rw [asm, if_neg (by omega), if_neg (fun q => hs (Or.inl q)), if_neg (fun q => hs (Or.inr (Or.inl q))), if_neg (fun q => hs (Or.inr (Or.inr q))), if_pos rfl, ff_eq (n - k) k z h4 (by omega) h6 (fun _ => h7), ht]
theorem spTake_3 {tx : Nat → Nat} {a e : Nat} {st : AS} : (spTake tx a e st).1 ≤ 3 := by
  unfold spTake
  split
  · unfold spAddr
    by_cases p1 : syP tx (a + 1) e
    · rw [cl_t p1]; split; · simp
      split
      · split <;> simp
      · simp
    · rw [cl_f p1]
      by_cases p2 : nuP tx (a + 1) e
      · rw [cl_t p2]; split <;> simp
      · rw [cl_f p2]; simp
  · split
    · unfold spLabel
      by_cases p1 : syP tx (a + 1) (e - 1) ∧ tx (e - 1) = 41
      · rw [cl_t p1]; split
        · split; · simp
          split <;> simp
        · simp
      · rw [cl_f p1]; simp
    · unfold spOther; split; · simp
      split <;> simp
theorem PR_E0 (pw : Nat → Int32) : PR E0 pw := ⟨Nat.zero_le _, fun _ h => absurd h (Nat.not_lt_zero _)⟩
theorem SR_E0 (s1 s2 s3 : Nat → Int32) : SR E0 s1 s2 s3 := ⟨Nat.zero_le _, fun _ h => absurd h (Nat.not_lt_zero _)⟩
end
section
set_option maxHeartbeats 4000000 in
set_option maxRecDepth 100000 in
/-- forget() -/
theorem c_Rdr_forget (l : Launch) (g : sdG) (q3 q1 q2 q7 q6 q8 q9 q10 : Nat) (fp px cx : Int32) (pw s1 s2 s3 : Nat → Int32) (sz : Nat) : Met l y_Rdr_forget (.code y_Rdr_forget b_Rdr_forget 1 none :: sdT) ({ frames := 1, cells := 0, slots := 0, locals := 20 }) (va_Pc [.ref q3] (sdU g [(q3, .inr (4, [.ref q1, .ref q2, .ref q7, .int fp])), (q2, .inr (3, [.ref q6, .int px])), (q6, .inl (gI g, 600, .inl pw)), (q7, .inr (5, [.ref q1, .ref q8, .ref q9, .ref q10, .int cx])), (q8, .inl (gI g, 40, .inl s1)), (q9, .inl (gI g, 40, .inl s2)), (q10, .inl (gI g, 40, .inl s3))] sz)) (va_Qv (S := Unit) (fun _ => True) (fun u t => sdB g [(q3, .inr (4, [.ref q1, .ref q2, .ref q7, .int fp])), (q2, .inr (3, [.ref q6, .int px])), (q6, .inl (gI g, 600, .inl pw)), (q7, .inr (5, [.ref q1, .ref q8, .ref q9, .ref q10, .int cx])), (q8, .inl (gI g, 40, .inl s1)), (q9, .inl (gI g, 40, .inl s2)), (q10, .inl (gI g, 40, .inl s3))] sz ((fun _ => [(q3, .inr (4, [.ref q1, .ref q2, .ref q7, .int fp])), (q2, .inr (3, [.ref q6, .int (nI 0)])), (q6, .inl (gI g, 600, .inl pw)), (q7, .inr (5, [.ref q1, .ref q8, .ref q9, .ref q10, .int (nI 0)])), (q8, .inl (gI g, 40, .inl s1)), (q9, .inl (gI g, 40, .inl s2)), (q10, .inl (gI g, 40, .inl s3))] : Unit → va_W) u) t) (va_A [(q3, .inr (4, [.ref q1, .ref q2, .ref q7, .int fp])), (q2, .inr (3, [.ref q6, .int px])), (q6, .inl (gI g, 600, .inl pw)), (q7, .inr (5, [.ref q1, .ref q8, .ref q9, .ref q10, .int cx])), (q8, .inl (gI g, 40, .inl s1)), (q9, .inl (gI g, 40, .inl s2)), (q10, .inl (gI g, 40, .inl s3))] sz)) 0 0 (va_A [(q3, .inr (4, [.ref q1, .ref q2, .ref q7, .int fp])), (q2, .inr (3, [.ref q6, .int px])), (q6, .inl (gI g, 600, .inl pw)), (q7, .inr (5, [.ref q1, .ref q8, .ref q9, .ref q10, .int cx])), (q8, .inl (gI g, 40, .inl s1)), (q9, .inl (gI g, 40, .inl s2)), (q10, .inl (gI g, 40, .inl s3))] sz) := by
  refine Met.ofW (cc := b_Rdr_forget) (maxL := 1) (ret := none) (by decide) rfl ?_
  intro p ev s m args below meth c s₁ B hml hv
  obtain ⟨rfl, hsz, hP, hK, hE, hD0, hs0⟩ := hv
  have hx := B.exec
  have hb := B.bytes
  have hr := B.returns
  have hts := fun (w : Cond) (h : w ∈ sdT) => atoms_spec (ws := (.code y_Rdr_forget b_Rdr_forget 1 none :: sdT)) B.pre w (List.mem_cons_of_mem _ h)
  have hown : s.vm.findClass "SignDesk$Reader" = some m.cls := findClass_of_methodNamed B.named
  have hlocks := B.notSynchronized
  subst hsz
  have hD := hD0.self (sz := s.heap.size)
  have hA0 : ∀ q : Nat, va_A [(q3, .inr (4, [.ref q1, .ref q2, .ref q7, .int fp])), (q2, .inr (3, [.ref q6, .int px])), (q6, .inl (gI g, 600, .inl pw)), (q7, .inr (5, [.ref q1, .ref q8, .ref q9, .ref q10, .int cx])), (q8, .inl (gI g, 40, .inl s1)), (q9, .inl (gI g, 40, .inl s2)), (q10, .inl (gI g, 40, .inl s3))] s.heap.size q → gS g ≤ q := fun q h => h.elim (fun ⟨k, e, hk⟩ => hD0.2 k _ hk) (fun h => Nat.le_trans hs0 h)
  have hA : ∀ q : Nat, s.heap.size ≤ q → va_A [(q3, .inr (4, [.ref q1, .ref q2, .ref q7, .int fp])), (q2, .inr (3, [.ref q6, .int px])), (q6, .inl (gI g, 600, .inl pw)), (q7, .inr (5, [.ref q1, .ref q8, .ref q9, .ref q10, .int cx])), (q8, .inl (gI g, 40, .inl s1)), (q9, .inl (gI g, 40, .inl s2)), (q10, .inl (gI g, 40, .inl s3))] s.heap.size q := fun q h => Or.inr h
  generalize hAe : va_A [(q3, .inr (4, [.ref q1, .ref q2, .ref q7, .int fp])), (q2, .inr (3, [.ref q6, .int px])), (q6, .inl (gI g, 600, .inl pw)), (q7, .inr (5, [.ref q1, .ref q8, .ref q9, .ref q10, .int cx])), (q8, .inl (gI g, 40, .inl s1)), (q9, .inl (gI g, 40, .inl s2)), (q10, .inl (gI g, 40, .inl s3))] s.heap.size = A at hD hA0 hA ⊢
  have hS : va_S A s.heap s.heap [] := va_S.rf
  have hP : sdP g [(q3, .inr (4, [.ref q1, .ref q2, .ref q7, .int fp])), (q2, .inr (3, [.ref q6, .int px])), (q6, .inl (gI g, 600, .inl pw)), (q7, .inr (5, [.ref q1, .ref q8, .ref q9, .ref q10, .int cx])), (q8, .inl (gI g, 40, .inl s1)), (q9, .inl (gI g, 40, .inl s2)), (q10, .inl (gI g, 40, .inl s3))] s.heap := hP
  have hl := lv_entry ([.ref q3]) (n := 1) (Nat.le_of_ble_eq_true rfl)
  rw [lg_entry_eq]
  generalize (lg_sl ([.ref q3]) ++ List.replicate (1 - (lg_sl ([.ref q3])).length) Slot.unset).toArray = ls at hl ⊢
  have hl : lv_has ls 1 [(0, .ref q3)] := hl
  refine lv_aload_n hx hb d_Rdr_forget_0 rfl (lv_at hl 0 rfl) ?_
  refine va_get (D := g.1) (ci := 4) (v := .ref q2) (C := "SignDesk$Reader") (T := F_Rdr) (N := 4) hx hb hts in_Rdr hown hK hP 0 rfl rfl 1 (by decide) (hts _ k_102) (fun _ h9 => h9) rfl d_Rdr_forget_1 ?_
  have hPc := hP.sub (ws' := [(q2, .inr (3, [.ref q6, .int px])), (q6, .inl (gI g, 600, .inl pw))]) [1, 2] rfl
  have hDc := hD.sub (ws' := [(q2, .inr (3, [.ref q6, .int px])), (q6, .inl (gI g, 600, .inl pw))]) [1, 2] (by decide) rfl
  have hFc := va_free (wc := [(q2, .inr (3, [.ref q6, .int px])), (q6, .inl (gI g, 600, .inl pw))]) hD hS hA [1, 2] rfl
  refine sd_cv (va_runV (As := []) (rest := []) ⟨hx, hb, hml, hown, hts⟩ (c_Prg_clear l g q2 q6 px pw s.heap.size) (cwV 0 hts (sd_gV k_184 k_185 k_186 k_25 k_187) rfl rfl rfl (by decide +kernel) ⟨Nat.le_of_ble_eq_true rfl, Nat.le_of_ble_eq_true rfl⟩) (sd_preVU hK hE hS hA0 hs0 hPc hDc rfl rfl) rfl rfl hl.1 rfl (lv_room (Nat.le_of_ble_eq_true rfl)) d_Rdr_forget_4 ⟨Nat.zero_le _, Nat.zero_le _⟩) hS hFc (fun u H1 locs hw hP1 hD1 hk1 hS => ?_)
  obtain ⟨hP, hD⟩ := va_join (wr := [(q3, .inr (4, [.ref q1, .ref q2, .ref q7, .int fp])), (q7, .inr (5, [.ref q1, .ref q8, .ref q9, .ref q10, .int cx])), (q8, .inl (gI g, 40, .inl s1)), (q9, .inl (gI g, 40, .inl s2)), (q10, .inl (gI g, 40, .inl s3))]) (w1 := [(q2, .inr (3, [.ref q6, .int (nI 0)])), (q6, .inl (gI g, 600, .inl pw))]) hP hD [1, 2] [0, 3, 4, 5, 6] rfl rfl (by decide) (by decide) hk1 hFc hP1 hD1
  clear hPc hDc hFc hk1 hP1 hD1
  generalize H1 = H at hP hS ⊢
  have hP : sdP g [(q3, .inr (4, [.ref q1, .ref q2, .ref q7, .int fp])), (q7, .inr (5, [.ref q1, .ref q8, .ref q9, .ref q10, .int cx])), (q8, .inl (gI g, 40, .inl s1)), (q9, .inl (gI g, 40, .inl s2)), (q10, .inl (gI g, 40, .inl s3)), (q2, .inr (3, [.ref q6, .int (nI 0)])), (q6, .inl (gI g, 600, .inl pw))] H := hP
  have hD : va_D A [(q3, .inr (4, [.ref q1, .ref q2, .ref q7, .int fp])), (q7, .inr (5, [.ref q1, .ref q8, .ref q9, .ref q10, .int cx])), (q8, .inl (gI g, 40, .inl s1)), (q9, .inl (gI g, 40, .inl s2)), (q10, .inl (gI g, 40, .inl s3)), (q2, .inr (3, [.ref q6, .int (nI 0)])), (q6, .inl (gI g, 600, .inl pw))] := hD
  refine lv_aload_n hx hb d_Rdr_forget_7 rfl (lv_at hl 0 rfl) ?_
  refine va_get (D := g.1) (ci := 4) (v := .ref q7) (C := "SignDesk$Reader") (T := F_Rdr) (N := 4) hx hb hts in_Rdr hown hK hP 0 rfl rfl 2 (by decide) (hts _ k_103) (fun _ h9 => h9) rfl d_Rdr_forget_8 ?_
  have hPc := hP.sub (ws' := [(q7, .inr (5, [.ref q1, .ref q8, .ref q9, .ref q10, .int cx])), (q8, .inl (gI g, 40, .inl s1)), (q9, .inl (gI g, 40, .inl s2)), (q10, .inl (gI g, 40, .inl s3))]) [1, 2, 3, 4] rfl
  have hDc := hD.sub (ws' := [(q7, .inr (5, [.ref q1, .ref q8, .ref q9, .ref q10, .int cx])), (q8, .inl (gI g, 40, .inl s1)), (q9, .inl (gI g, 40, .inl s2)), (q10, .inl (gI g, 40, .inl s3))]) [1, 2, 3, 4] (by decide) rfl
  have hFc := va_free (wc := [(q7, .inr (5, [.ref q1, .ref q8, .ref q9, .ref q10, .int cx])), (q8, .inl (gI g, 40, .inl s1)), (q9, .inl (gI g, 40, .inl s2)), (q10, .inl (gI g, 40, .inl s3))]) hD hS hA [1, 2, 3, 4] rfl
  refine sd_cv (va_runV (As := []) (rest := []) ⟨hx, hb, hml, hown, hts⟩ (c_Sym_clear l g q7 q1 q8 q9 q10 cx s1 s2 s3 H.size) (cwV 0 hts (sd_gV k_188 k_189 k_190 k_27 k_191) rfl rfl rfl (by decide +kernel) ⟨Nat.le_of_ble_eq_true rfl, Nat.le_of_ble_eq_true rfl⟩) (sd_preVU hK hE hS hA0 hs0 hPc hDc rfl rfl) rfl rfl hl.1 rfl (lv_room (Nat.le_of_ble_eq_true rfl)) d_Rdr_forget_11 ⟨Nat.zero_le _, Nat.zero_le _⟩) hS hFc (fun u H1 locs hw hP1 hD1 hk1 hS => ?_)
  obtain ⟨hP, hD⟩ := va_join (wr := [(q3, .inr (4, [.ref q1, .ref q2, .ref q7, .int fp])), (q2, .inr (3, [.ref q6, .int (nI 0)])), (q6, .inl (gI g, 600, .inl pw))]) (w1 := [(q7, .inr (5, [.ref q1, .ref q8, .ref q9, .ref q10, .int (nI 0)])), (q8, .inl (gI g, 40, .inl s1)), (q9, .inl (gI g, 40, .inl s2)), (q10, .inl (gI g, 40, .inl s3))]) hP hD [1, 2, 3, 4] [0, 5, 6] rfl rfl (by decide) (by decide) hk1 hFc hP1 hD1
  clear hPc hDc hFc hk1 hP1 hD1
  generalize H1 = H at hP hS ⊢
  have hP : sdP g [(q3, .inr (4, [.ref q1, .ref q2, .ref q7, .int fp])), (q2, .inr (3, [.ref q6, .int (nI 0)])), (q6, .inl (gI g, 600, .inl pw)), (q7, .inr (5, [.ref q1, .ref q8, .ref q9, .ref q10, .int (nI 0)])), (q8, .inl (gI g, 40, .inl s1)), (q9, .inl (gI g, 40, .inl s2)), (q10, .inl (gI g, 40, .inl s3))] H := hP
  have hD : va_D A [(q3, .inr (4, [.ref q1, .ref q2, .ref q7, .int fp])), (q2, .inr (3, [.ref q6, .int (nI 0)])), (q6, .inl (gI g, 600, .inl pw)), (q7, .inr (5, [.ref q1, .ref q8, .ref q9, .ref q10, .int (nI 0)])), (q8, .inl (gI g, 40, .inl s1)), (q9, .inl (gI g, 40, .inl s2)), (q10, .inl (gI g, 40, .inl s3))] := hD
  have hP9 := hP.sub (ws' := [(q3, .inr (4, [.ref q1, .ref q2, .ref q7, .int fp])), (q2, .inr (3, [.ref q6, .int (nI 0)])), (q6, .inl (gI g, 600, .inl pw)), (q7, .inr (5, [.ref q1, .ref q8, .ref q9, .ref q10, .int (nI 0)])), (q8, .inl (gI g, 40, .inl s1)), (q9, .inl (gI g, 40, .inl s2)), (q10, .inl (gI g, 40, .inl s3))]) [0, 1, 2, 3, 4, 5, 6] rfl
  have hD9 := hD.sub (ws' := [(q3, .inr (4, [.ref q1, .ref q2, .ref q7, .int fp])), (q2, .inr (3, [.ref q6, .int (nI 0)])), (q6, .inl (gI g, 600, .inl pw)), (q7, .inr (5, [.ref q1, .ref q8, .ref q9, .ref q10, .int (nI 0)])), (q8, .inl (gI g, 40, .inl s1)), (q9, .inl (gI g, 40, .inl s2)), (q10, .inl (gI g, 40, .inl s3))]) [0, 1, 2, 3, 4, 5, 6] (by decide) rfl
  exact W.vret hx hb hr (fun t ht hW => ⟨⟨(), rfl, trivial, by rw [ht]; exact hP9, by rw [hAe]; exact hD9⟩, hS.F ht⟩) hS.2.2 d_Rdr_forget_14
set_option maxHeartbeats 4000000 in
set_option maxRecDepth 100000 in
/-- fillInSymbols() -/
theorem c_Rdr_fillInSymbols (l : Launch) (g : sdG) (q3 q1 q2 q7 q6 q8 q9 q10 : Nat) (fp : Int32) (st : AS) (pw s1 s2 s3 : Nat → Int32) (hPR : PR st pw) (hSR : SR st s1 s2 s3) (hA1 : AInv st) (sz : Nat) : Met l y_Rdr_fillInSymbols (.code y_Rdr_fillInSymbols b_Rdr_fillInSymbols 4 none :: sdT) ({ frames := 1, cells := 0, slots := 0, locals := 22 }) (va_Pc [.ref q3] (sdU g [(q3, .inr (4, [.ref q1, .ref q2, .ref q7, .int fp])), (q2, .inr (3, [.ref q6, .int (nI (wn st))])), (q6, .inl (gI g, 600, .inl pw)), (q7, .inr (5, [.ref q1, .ref q8, .ref q9, .ref q10, .int (nI (sn st))])), (q8, .inl (gI g, 40, .inl s1)), (q9, .inl (gI g, 40, .inl s2)), (q10, .inl (gI g, 40, .inl s3))] sz)) (va_Qv (S := (Nat → Int32) × (Nat → Int32)) (fun u => ∀ j, j < wn st → u.1 j = nI (fin st j)) (fun u t => sdB g [(q3, .inr (4, [.ref q1, .ref q2, .ref q7, .int fp])), (q2, .inr (3, [.ref q6, .int (nI (wn st))])), (q6, .inl (gI g, 600, .inl pw)), (q7, .inr (5, [.ref q1, .ref q8, .ref q9, .ref q10, .int (nI (sn st))])), (q8, .inl (gI g, 40, .inl s1)), (q9, .inl (gI g, 40, .inl s2)), (q10, .inl (gI g, 40, .inl s3))] sz ((fun u => [(q3, .inr (4, [.ref q1, .ref q2, .ref q7, .int fp])), (q2, .inr (3, [.ref q6, .int (nI (wn st))])), (q6, .inl (gI g, 600, .inl u.1)), (q7, .inr (5, [.ref q1, .ref q8, .ref q9, .ref q10, .int (nI (sn st))])), (q8, .inl (gI g, 40, .inl s1)), (q9, .inl (gI g, 40, .inl s2)), (q10, .inl (gI g, 40, .inl u.2))] : (Nat → Int32) × (Nat → Int32) → va_W) u) t) (va_A [(q3, .inr (4, [.ref q1, .ref q2, .ref q7, .int fp])), (q2, .inr (3, [.ref q6, .int (nI (wn st))])), (q6, .inl (gI g, 600, .inl pw)), (q7, .inr (5, [.ref q1, .ref q8, .ref q9, .ref q10, .int (nI (sn st))])), (q8, .inl (gI g, 40, .inl s1)), (q9, .inl (gI g, 40, .inl s2)), (q10, .inl (gI g, 40, .inl s3))] sz)) 0 0 (va_A [(q3, .inr (4, [.ref q1, .ref q2, .ref q7, .int fp])), (q2, .inr (3, [.ref q6, .int (nI (wn st))])), (q6, .inl (gI g, 600, .inl pw)), (q7, .inr (5, [.ref q1, .ref q8, .ref q9, .ref q10, .int (nI (sn st))])), (q8, .inl (gI g, 40, .inl s1)), (q9, .inl (gI g, 40, .inl s2)), (q10, .inl (gI g, 40, .inl s3))] sz) := by
  refine Met.ofW (cc := b_Rdr_fillInSymbols) (maxL := 4) (ret := none) (by decide) rfl ?_
  intro p ev s m args below meth c s₁ B hml hv
  obtain ⟨rfl, hsz, hP, hK, hE, hD0, hs0⟩ := hv
  have hx := B.exec
  have hb := B.bytes
  have hr := B.returns
  have hts := fun (w : Cond) (h : w ∈ sdT) => atoms_spec (ws := (.code y_Rdr_fillInSymbols b_Rdr_fillInSymbols 4 none :: sdT)) B.pre w (List.mem_cons_of_mem _ h)
  have hown : s.vm.findClass "SignDesk$Reader" = some m.cls := findClass_of_methodNamed B.named
  have hlocks := B.notSynchronized
  subst hsz
  have hD := hD0.self (sz := s.heap.size)
  have hA0 : ∀ q : Nat, va_A [(q3, .inr (4, [.ref q1, .ref q2, .ref q7, .int fp])), (q2, .inr (3, [.ref q6, .int (nI (wn st))])), (q6, .inl (gI g, 600, .inl pw)), (q7, .inr (5, [.ref q1, .ref q8, .ref q9, .ref q10, .int (nI (sn st))])), (q8, .inl (gI g, 40, .inl s1)), (q9, .inl (gI g, 40, .inl s2)), (q10, .inl (gI g, 40, .inl s3))] s.heap.size q → gS g ≤ q := fun q h => h.elim (fun ⟨k, e, hk⟩ => hD0.2 k _ hk) (fun h => Nat.le_trans hs0 h)
  have hA : ∀ q : Nat, s.heap.size ≤ q → va_A [(q3, .inr (4, [.ref q1, .ref q2, .ref q7, .int fp])), (q2, .inr (3, [.ref q6, .int (nI (wn st))])), (q6, .inl (gI g, 600, .inl pw)), (q7, .inr (5, [.ref q1, .ref q8, .ref q9, .ref q10, .int (nI (sn st))])), (q8, .inl (gI g, 40, .inl s1)), (q9, .inl (gI g, 40, .inl s2)), (q10, .inl (gI g, 40, .inl s3))] s.heap.size q := fun q h => Or.inr h
  generalize hAe : va_A [(q3, .inr (4, [.ref q1, .ref q2, .ref q7, .int fp])), (q2, .inr (3, [.ref q6, .int (nI (wn st))])), (q6, .inl (gI g, 600, .inl pw)), (q7, .inr (5, [.ref q1, .ref q8, .ref q9, .ref q10, .int (nI (sn st))])), (q8, .inl (gI g, 40, .inl s1)), (q9, .inl (gI g, 40, .inl s2)), (q10, .inl (gI g, 40, .inl s3))] s.heap.size = A at hD hA0 hA ⊢
  have hS : va_S A s.heap s.heap [] := va_S.rf
  have hP : sdP g [(q3, .inr (4, [.ref q1, .ref q2, .ref q7, .int fp])), (q2, .inr (3, [.ref q6, .int (nI (wn st))])), (q6, .inl (gI g, 600, .inl pw)), (q7, .inr (5, [.ref q1, .ref q8, .ref q9, .ref q10, .int (nI (sn st))])), (q8, .inl (gI g, 40, .inl s1)), (q9, .inl (gI g, 40, .inl s2)), (q10, .inl (gI g, 40, .inl s3))] s.heap := hP
  have hl := lv_entry ([.ref q3]) (n := 4) (Nat.le_of_ble_eq_true rfl)
  rw [lg_entry_eq]
  generalize (lg_sl ([.ref q3]) ++ List.replicate (4 - (lg_sl ([.ref q3])).length) Slot.unset).toArray = ls at hl ⊢
  have hl : lv_has ls 4 [(0, .ref q3)] := hl
  have h600 := hPR.1
  have h40 := hSR.1
  refine lv_bipush (v := (nI 16)) hx hb d_Rdr_fillInSymbols_0 (by decide) ?_
  refine lv_istore_n (lv' := [(1, .int (nI 16)), (0, .ref q3)]) hx hb d_Rdr_fillInSymbols_2 rfl hl (by decide) rfl (fun ls hl => ?_)
  refine lv_iconst (v := (nI 0)) hx hb d_Rdr_fillInSymbols_3 (by decide) ?_
  refine lv_istore_n (lv' := [(2, .int (nI 0)), (1, .int (nI 16)), (0, .ref q3)]) hx hb d_Rdr_fillInSymbols_4 rfl hl (by decide) rfl (fun ls hl => ?_)
  refine sd_loop (fun (x : Heap × List Loc × Array Slot × Nat × Nat × (Nat → Int32) × (Nat → Int32) × (Nat → Nat)) => match x with | (H, locs, ls, i, T, pw1, s31, vT) => lv_has ls 4 [(0, .ref q3), (1, .int (nI (16 + cnt0 st T))), (2, .int (nI i))] ∧ sdP g [(q3, .inr (4, [.ref q1, .ref q2, .ref q7, .int fp])), (q2, .inr (3, [.ref q6, .int (nI (wn st))])), (q6, .inl (gI g, 600, .inl pw1)), (q7, .inr (5, [.ref q1, .ref q8, .ref q9, .ref q10, .int (nI (sn st))])), (q8, .inl (gI g, 40, .inl s1)), (q9, .inl (gI g, 40, .inl s2)), (q10, .inl (gI g, 40, .inl s31))] H ∧ va_D A [(q3, .inr (4, [.ref q1, .ref q2, .ref q7, .int fp])), (q2, .inr (3, [.ref q6, .int (nI (wn st))])), (q6, .inl (gI g, 600, .inl pw1)), (q7, .inr (5, [.ref q1, .ref q8, .ref q9, .ref q10, .int (nI (sn st))])), (q8, .inl (gI g, 40, .inl s1)), (q9, .inl (gI g, 40, .inl s2)), (q10, .inl (gI g, 40, .inl s31))] ∧ va_S A s.heap H locs ∧ (i ≤ wn st) ∧ (T ≤ sn st) ∧ (∀ j, j < i → pw1 j = nI (fin st j)) ∧ (∀ j, i ≤ j → j < wn st → pw1 j = nI (encW (wc st j) (wy st j))) ∧ (SR (mkS st vT) s1 s2 s31) ∧ (svI st T vT) ∧ (∀ w, w < i → ¬ wy st w = 0 → sv st (wy st w - 1) = 0 → wy st w - 1 < T)) (fun (x : Heap × List Loc × Array Slot × Nat × Nat × (Nat → Int32) × (Nat → Int32) × (Nat → Nat)) => match x with | (H, locs, ls, i, T, pw1, s31, vT) => wn st - i) (fun x => x.1) (fun x => x.2.1) (fun (x : Heap × List Loc × Array Slot × Nat × Nat × (Nat → Int32) × (Nat → Int32) × (Nat → Nat)) => match x with | (H, locs, ls, i, T, pw1, s31, vT) => 0) (fun (x : Heap × List Loc × Array Slot × Nat × Nat × (Nat → Int32) × (Nat → Int32) × (Nat → Nat)) => match x with | (H, locs, ls, i, T, pw1, s31, vT) => 0) (fun x => F0 m 5 x.2.2.1 []) (fun x hI ih => ?_) (s.heap, _, ls, 0, 0, pw, s3, sv st) ⟨lv_sub hl [2, 1, 0] rfl, hP.sub [0, 1, 2, 3, 4, 5, 6] rfl, hD.sub [0, 1, 2, 3, 4, 5, 6] (by decide) rfl, hS, Nat.zero_le _, Nat.zero_le _, fun j h => absurd h (Nat.not_lt_zero j), fun j _ h => hPR.2 j h, hSR, fun t ht => by
      by_cases q : sv st t = 0
      · rw [if_pos q, if_neg (Nat.not_lt_zero t), q]
      · rw [if_neg q], fun w h => absurd h (Nat.not_lt_zero w)⟩
  obtain ⟨H, locs, ls, i, T, pw1, s31, vT⟩ := x
  obtain ⟨hl, hP, hD, hS, h1, h2, h3, h4, h5, h6, h7⟩ := hI
  show W p l ev _ s m _ below meth c H locs (0) (0) _ (F0 m 5 ls [])
  have hP : sdP g [(q3, .inr (4, [.ref q1, .ref q2, .ref q7, .int fp])), (q2, .inr (3, [.ref q6, .int (nI (wn st))])), (q6, .inl (gI g, 600, .inl pw1)), (q7, .inr (5, [.ref q1, .ref q8, .ref q9, .ref q10, .int (nI (sn st))])), (q8, .inl (gI g, 40, .inl s1)), (q9, .inl (gI g, 40, .inl s2)), (q10, .inl (gI g, 40, .inl s31))] H := hP
  have hD : va_D A [(q3, .inr (4, [.ref q1, .ref q2, .ref q7, .int fp])), (q2, .inr (3, [.ref q6, .int (nI (wn st))])), (q6, .inl (gI g, 600, .inl pw1)), (q7, .inr (5, [.ref q1, .ref q8, .ref q9, .ref q10, .int (nI (sn st))])), (q8, .inl (gI g, 40, .inl s1)), (q9, .inl (gI g, 40, .inl s2)), (q10, .inl (gI g, 40, .inl s31))] := hD
  refine lv_iload_n hx hb d_Rdr_fillInSymbols_5 rfl (lv_at hl 2 rfl) ?_
  refine lv_aload_n hx hb d_Rdr_fillInSymbols_6 rfl (lv_at hl 0 rfl) ?_
  refine va_get (D := g.1) (ci := 4) (v := .ref q2) (C := "SignDesk$Reader") (T := F_Rdr) (N := 4) hx hb hts in_Rdr hown hK hP 0 rfl rfl 1 (by decide) (hts _ k_102) (fun _ h9 => h9) rfl d_Rdr_fillInSymbols_7 ?_
  refine sd_ri (va_runV (As := []) (rest := [.int (nI i)]) ⟨hx, hb, hml, hown, hts⟩ (c_Prg_size l g q2 q6 (wn st) pw1 h600) (cwV 0 hts (sd_gV k_330 k_331 k_332 k_25 k_333) rfl rfl rfl (by decide +kernel) ⟨Nat.le_of_ble_eq_true rfl, Nat.le_of_ble_eq_true rfl⟩) (sd_preV hK hE (sd_fr hS hA0) (hP.sub (ws' := [(q2, .inr (3, [.ref q6, .int (nI (wn st))])), (q6, .inl (gI g, 600, .inl pw1))]) [1, 2] rfl) rfl rfl) rfl rfl hl.1 rfl (lv_room (Nat.le_of_ble_eq_true rfl)) d_Rdr_fillInSymbols_10 ⟨Nat.zero_le _, Nat.zero_le _⟩) (fun r1 er1 => ?_)
  subst er1
  refine lv_icmp_ge (tgt := 69) hx hb d_Rdr_fillInSymbols_13 (by decide) (fun c2 => ?_) (fun c2 => ?_)
  · have c2 := (nI_leI (by omega) (by omega)).mp c2
    have e1 : i = wn st := by omega
    rw [e1] at h3
    have hP9 := hP.sub (ws' := [(q3, .inr (4, [.ref q1, .ref q2, .ref q7, .int fp])), (q2, .inr (3, [.ref q6, .int (nI (wn st))])), (q6, .inl (gI g, 600, .inl pw1)), (q7, .inr (5, [.ref q1, .ref q8, .ref q9, .ref q10, .int (nI (sn st))])), (q8, .inl (gI g, 40, .inl s1)), (q9, .inl (gI g, 40, .inl s2)), (q10, .inl (gI g, 40, .inl s31))]) [0, 1, 2, 3, 4, 5, 6] rfl
    have hD9 := hD.sub (ws' := [(q3, .inr (4, [.ref q1, .ref q2, .ref q7, .int fp])), (q2, .inr (3, [.ref q6, .int (nI (wn st))])), (q6, .inl (gI g, 600, .inl pw1)), (q7, .inr (5, [.ref q1, .ref q8, .ref q9, .ref q10, .int (nI (sn st))])), (q8, .inl (gI g, 40, .inl s1)), (q9, .inl (gI g, 40, .inl s2)), (q10, .inl (gI g, 40, .inl s31))]) [0, 1, 2, 3, 4, 5, 6] (by decide) rfl
    exact W.vret hx hb hr (fun t ht hW => ⟨⟨(pw1, s31), rfl, h3, by rw [ht]; exact hP9, by rw [hAe]; exact hD9⟩, hS.F ht⟩) hS.2.2 d_Rdr_fillInSymbols_69
  · have c2 := mt (nI_leI (by omega) (by omega)).mpr c2
    have hi : i < wn st := by omega
    obtain ⟨hwc, hwy⟩ := hA1.2.2.1 i hi
    refine lv_aload_n hx hb d_Rdr_fillInSymbols_16 rfl (lv_at hl 0 rfl) ?_
    refine va_get (D := g.1) (ci := 4) (v := .ref q2) (C := "SignDesk$Reader") (T := F_Rdr) (N := 4) hx hb hts in_Rdr hown hK hP 0 rfl rfl 1 (by decide) (hts _ k_102) (fun _ h9 => h9) rfl d_Rdr_fillInSymbols_17 ?_
    refine lv_iload_n hx hb d_Rdr_fillInSymbols_20 rfl (lv_at hl 2 rfl) ?_
    refine sd_ri (va_runV (As := [.int (nI i)]) (rest := []) ⟨hx, hb, hml, hown, hts⟩ (c_Prg_wordAt l g q2 q6 (wn st) pw1 h600 (nI i)) (cwV 1 hts (sd_gV k_363 k_364 k_365 k_25 k_366) rfl rfl rfl (by decide +kernel) ⟨Nat.le_of_ble_eq_true rfl, Nat.le_of_ble_eq_true rfl⟩) (sd_preV hK hE (sd_fr hS hA0) (hP.sub (ws' := [(q2, .inr (3, [.ref q6, .int (nI (wn st))])), (q6, .inl (gI g, 600, .inl pw1))]) [1, 2] rfl) rfl rfl) rfl rfl hl.1 rfl (lv_room (Nat.le_of_ble_eq_true rfl)) d_Rdr_fillInSymbols_21 ⟨Nat.zero_le _, Nat.zero_le _⟩) (fun r3 er3 => ?_)
    have e2 := (er3.1 i hi rfl).trans (h4 i (Nat.le_refl _) hi)
    clear er3
    subst e2
    refine lv_ldc (v := nI 65536) hx hb hown (hts _ k_320) d_Rdr_fillInSymbols_24 ?_
    refine lv_isub hx hb d_Rdr_fillInSymbols_26 ?_
    by_cases hy : wy st i = 0
    · have e3 : encW (wc st i) (wy st i) = wc st i := by rw [encW, if_pos hy]
      rw [e3]
      refine lv_istore_n (lv' := [(3, .int (nI (wc st i) - nI 65536)), (0, .ref q3), (1, .int (nI (16 + cnt0 st T))), (2, .int (nI i))]) hx hb d_Rdr_fillInSymbols_27 rfl hl (by decide) rfl (fun ls hl => ?_)
      refine lv_iload_n hx hb d_Rdr_fillInSymbols_28 rfl (lv_at hl 0 rfl) ?_
      refine lv_if_lt (tgt := 63) hx hb d_Rdr_fillInSymbols_29 (by decide) (fun c4 => ?_) (fun c4 => ?_)
      · refine lv_iinc (v := (nI (i + 1))) (lv' := [(2, .int (nI (i + 1))), (3, .int (nI (wc st i) - nI 65536)), (0, .ref q3), (1, .int (nI (16 + cnt0 st T)))]) hx hb d_Rdr_fillInSymbols_63 hl (k := 3) rfl (nI_1 _) (by decide) rfl (fun ls hl => ?_)
        refine lv_goto (tgt := 5) hx hb d_Rdr_fillInSymbols_66 (by decide) ?_
        exact ih (H, locs, ls, i + 1, T, pw1, s31, vT) ⟨lv_sub hl [2, 3, 0] rfl, hP.sub [0, 1, 2, 3, 4, 5, 6] rfl, hD.sub [0, 1, 2, 3, 4, 5, 6] (by decide) rfl, hS, by omega, h2, fun j hj => by
            rcases Nat.lt_or_ge j i with q | q
            · exact h3 j q
            · have : j = i := by omega
              subst this; rw [h4 j (Nat.le_refl _) hi, e3, fin, if_pos hy], fun j h8 h9 => h4 j (by omega) h9, h5, h6, fun w hw h8 h9 => by
            rcases Nat.lt_or_ge w i with q | q
            · exact h7 w q h8 h9
            · have : w = i := by omega
              subst this; exact absurd hy h8⟩ (show wn st - (i + 1) < wn st - i by omega)
      · exact absurd ((sd_subLt (k := 0) (by omega) (by omega) (by omega)).mpr (by omega)) c4
    · have e3 : encW (wc st i) (wy st i) = 65535 + wy st i := by rw [encW, if_neg (by omega)]
      rw [e3]
      refine sd_topi (y := nI (wy st i - 1)) (by rw [pk_sub (by omega)]; exact congrArg nI (by omega)) ?_
      obtain ⟨k, hk⟩ : ∃ k, wy st i = k + 1 := ⟨wy st i - 1, by omega⟩
      refine sd_topi (y := nI k) (by rw [hk]; rfl) ?_
      have hks : k < sn st := by omega
      have hcT := cnt0_le st T
      refine lv_istore_n (lv' := [(3, .int (nI k)), (0, .ref q3), (1, .int (nI (16 + cnt0 st T))), (2, .int (nI i))]) hx hb d_Rdr_fillInSymbols_27 rfl hl (by decide) rfl (fun ls hl => ?_)
      refine lv_iload_n hx hb d_Rdr_fillInSymbols_28 rfl (lv_at hl 0 rfl) ?_
      refine lv_if_lt (tgt := 63) hx hb d_Rdr_fillInSymbols_29 (by decide) (fun c5 => ?_) (fun c5 => ?_)
      · exact absurd c5 (nI_pos (by omega))
      · refine lv_aload_n hx hb d_Rdr_fillInSymbols_32 rfl (lv_at hl 1 rfl) ?_
        refine va_get (D := g.1) (ci := 4) (v := .ref q7) (C := "SignDesk$Reader") (T := F_Rdr) (N := 4) hx hb hts in_Rdr hown hK hP 0 rfl rfl 2 (by decide) (hts _ k_103) (fun _ h9 => h9) rfl d_Rdr_fillInSymbols_33 ?_
        refine lv_iload_n hx hb d_Rdr_fillInSymbols_36 rfl (lv_at hl 0 rfl) ?_
        refine lv_iload_n hx hb d_Rdr_fillInSymbols_37 rfl (lv_at hl 2 rfl) ?_
        have hPc := hP.sub (ws' := [(q7, .inr (5, [.ref q1, .ref q8, .ref q9, .ref q10, .int (nI (sn st))])), (q8, .inl (gI g, 40, .inl s1)), (q9, .inl (gI g, 40, .inl s2)), (q10, .inl (gI g, 40, .inl s31))]) [3, 4, 5, 6] rfl
        have hDc := hD.sub (ws' := [(q7, .inr (5, [.ref q1, .ref q8, .ref q9, .ref q10, .int (nI (sn st))])), (q8, .inl (gI g, 40, .inl s1)), (q9, .inl (gI g, 40, .inl s2)), (q10, .inl (gI g, 40, .inl s31))]) [3, 4, 5, 6] (by decide) rfl
        have hFc := va_free (wc := [(q7, .inr (5, [.ref q1, .ref q8, .ref q9, .ref q10, .int (nI (sn st))])), (q8, .inl (gI g, 40, .inl s1)), (q9, .inl (gI g, 40, .inl s2)), (q10, .inl (gI g, 40, .inl s31))]) hD hS hA [3, 4, 5, 6] rfl
        refine sd_ci (va_runV (As := [.int (nI k), .int (nI (16 + cnt0 st T))]) (rest := []) ⟨hx, hb, hml, hown, hts⟩ (c_Sym_tell l g q7 q1 q8 q9 q10 (mkS st vT) s1 s2 s31 h5 k (16 + cnt0 st T) hks (by omega) H.size) (cwV 2 hts (sd_gV k_334 k_335 k_336 k_27 k_337) rfl rfl rfl (by decide +kernel) ⟨Nat.le_of_ble_eq_true rfl, Nat.le_of_ble_eq_true rfl⟩) (sd_preVU hK hE hS hA0 hs0 hPc hDc rfl rfl) rfl rfl hl.1 rfl (lv_room (Nat.le_of_ble_eq_true rfl)) d_Rdr_fillInSymbols_38 ⟨Nat.zero_le _, Nat.zero_le _⟩) hS hFc (fun r6 u H1 locs hw hP1 hD1 hk1 hS => ?_)
        obtain ⟨st2, s32⟩ := u
        obtain ⟨hP, hD⟩ := va_join (wr := [(q3, .inr (4, [.ref q1, .ref q2, .ref q7, .int fp])), (q2, .inr (3, [.ref q6, .int (nI (wn st))])), (q6, .inl (gI g, 600, .inl pw1))]) (w1 := [(q7, .inr (5, [.ref q1, .ref q8, .ref q9, .ref q10, .int (nI (sn st2))])), (q8, .inl (gI g, 40, .inl s1)), (q9, .inl (gI g, 40, .inl s2)), (q10, .inl (gI g, 40, .inl s32))]) hP hD [3, 4, 5, 6] [0, 1, 2] rfl rfl (by decide) (by decide) hk1 hFc hP1 hD1
        clear hPc hDc hFc hk1 hP1 hD1
        generalize H1 = H at hP hS ⊢
        have hP : sdP g [(q3, .inr (4, [.ref q1, .ref q2, .ref q7, .int fp])), (q2, .inr (3, [.ref q6, .int (nI (wn st))])), (q6, .inl (gI g, 600, .inl pw1)), (q7, .inr (5, [.ref q1, .ref q8, .ref q9, .ref q10, .int (nI (sn st2))])), (q8, .inl (gI g, 40, .inl s1)), (q9, .inl (gI g, 40, .inl s2)), (q10, .inl (gI g, 40, .inl s32))] H := hP
        have hD : va_D A [(q3, .inr (4, [.ref q1, .ref q2, .ref q7, .int fp])), (q2, .inr (3, [.ref q6, .int (nI (wn st))])), (q6, .inl (gI g, 600, .inl pw1)), (q7, .inr (5, [.ref q1, .ref q8, .ref q9, .ref q10, .int (nI (sn st2))])), (q8, .inl (gI g, 40, .inl s1)), (q9, .inl (gI g, 40, .inl s2)), (q10, .inl (gI g, 40, .inl s32))] := hD
        obtain ⟨hw1, hw2, hw3⟩ := hw
        have hw3 : SR st2 s1 s2 s32 := hw3
        by_cases hz : vT k = 0
        · have hw2 := hw2 hz
          obtain ⟨hsz, hTs, hcs, h6b⟩ := svI_step h6 hks hz (fill_key hA1 hi hk h7)
          obtain rfl : st2 = mkS st (va_up vT k (16 + cnt0 st T + 1)) := hw2.2
          obtain rfl := hw2.1
          refine lv_if_eq (tgt := 47) hx hb d_Rdr_fillInSymbols_41 (by decide) (fun c7 => ?_) (fun c7 => ?_)
          · exact absurd c7 (by decide)
          · refine lv_iinc (v := (nI ((16 + cnt0 st T) + 1))) (lv' := [(1, .int (nI ((16 + cnt0 st T) + 1))), (3, .int (nI k)), (0, .ref q3), (2, .int (nI i))]) hx hb d_Rdr_fillInSymbols_44 hl (k := 2) rfl (nI_1 _) (by decide) rfl (fun ls hl => ?_)
            refine lv_aload_n hx hb d_Rdr_fillInSymbols_47 rfl (lv_at hl 2 rfl) ?_
            refine va_get (D := g.1) (ci := 4) (v := .ref q2) (C := "SignDesk$Reader") (T := F_Rdr) (N := 4) hx hb hts in_Rdr hown hK hP 0 rfl rfl 1 (by decide) (hts _ k_102) (fun _ h9 => h9) rfl d_Rdr_fillInSymbols_48 ?_
            refine lv_iload_n hx hb d_Rdr_fillInSymbols_51 rfl (lv_at hl 3 rfl) ?_
            refine lv_aload_n hx hb d_Rdr_fillInSymbols_52 rfl (lv_at hl 2 rfl) ?_
            refine va_get (D := g.1) (ci := 4) (v := .ref q7) (C := "SignDesk$Reader") (T := F_Rdr) (N := 4) hx hb hts in_Rdr hown hK hP 0 rfl rfl 2 (by decide) (hts _ k_103) (fun _ h9 => h9) rfl d_Rdr_fillInSymbols_53 ?_
            refine lv_iload_n hx hb d_Rdr_fillInSymbols_56 rfl (lv_at hl 1 rfl) ?_
            refine sd_ri (va_runV (As := [.int (nI k)]) (rest := [.int (nI i), .ref q2]) ⟨hx, hb, hml, hown, hts⟩ (c_Sym_numberOf l g q7 q1 q8 q9 q10 (mkS st (va_up vT k (16 + cnt0 st T + 1))) s1 s2 s32 hw3 k hks) (cwV 1 hts (sd_gV k_367 k_368 k_369 k_27 k_370) rfl rfl rfl (by decide +kernel) ⟨Nat.le_of_ble_eq_true rfl, Nat.le_of_ble_eq_true rfl⟩) (sd_preV hK hE (sd_fr hS hA0) (hP.sub (ws' := [(q7, .inr (5, [.ref q1, .ref q8, .ref q9, .ref q10, .int (nI (sn (mkS st (va_up vT k (16 + cnt0 st T + 1)))))])), (q8, .inl (gI g, 40, .inl s1)), (q9, .inl (gI g, 40, .inl s2)), (q10, .inl (gI g, 40, .inl s32))]) [3, 4, 5, 6] rfl) rfl rfl) rfl rfl hl.1 rfl (lv_room (Nat.le_of_ble_eq_true rfl)) d_Rdr_fillInSymbols_57 ⟨Nat.zero_le _, Nat.zero_le _⟩) (fun r8 er8 => ?_)
            subst er8
            refine sd_topi (y := nI (sF st k)) (svI_F h6b hks (by show ¬ va_up vT k (16 + cnt0 st T + 1) k = 0; rw [va_up_self]; omega)) ?_
            have hPc := hP.sub (ws' := [(q2, .inr (3, [.ref q6, .int (nI (wn st))])), (q6, .inl (gI g, 600, .inl pw1))]) [1, 2] rfl
            have hDc := hD.sub (ws' := [(q2, .inr (3, [.ref q6, .int (nI (wn st))])), (q6, .inl (gI g, 600, .inl pw1))]) [1, 2] (by decide) rfl
            have hFc := va_free (wc := [(q2, .inr (3, [.ref q6, .int (nI (wn st))])), (q6, .inl (gI g, 600, .inl pw1))]) hD hS hA [1, 2] rfl
            refine sd_cv (va_runV (As := [.int (nI i), .int (nI (sF st k))]) (rest := []) ⟨hx, hb, hml, hown, hts⟩ (c_Prg_change l g q2 q6 (wn st) pw1 h600 i (nI (sF st k)) hi H.size) (cwV 2 hts (sd_gV k_371 k_372 k_373 k_25 k_374) rfl rfl rfl (by decide +kernel) ⟨Nat.le_of_ble_eq_true rfl, Nat.le_of_ble_eq_true rfl⟩) (sd_preVU hK hE hS hA0 hs0 hPc hDc rfl rfl) rfl rfl hl.1 rfl (lv_room (Nat.le_of_ble_eq_true rfl)) d_Rdr_fillInSymbols_60 ⟨Nat.zero_le _, Nat.zero_le _⟩) hS hFc (fun u H1 locs hw9 hP1 hD1 hk1 hS => ?_)
            obtain ⟨hP, hD⟩ := va_join (wr := [(q3, .inr (4, [.ref q1, .ref q2, .ref q7, .int fp])), (q7, .inr (5, [.ref q1, .ref q8, .ref q9, .ref q10, .int (nI (sn (mkS st (va_up vT k (16 + cnt0 st T + 1)))))])), (q8, .inl (gI g, 40, .inl s1)), (q9, .inl (gI g, 40, .inl s2)), (q10, .inl (gI g, 40, .inl s32))]) (w1 := [(q2, .inr (3, [.ref q6, .int (nI (wn st))])), (q6, .inl (gI g, 600, .inl (upd pw1 i (nI (sF st k)))))]) hP hD [1, 2] [0, 3, 4, 5, 6] rfl rfl (by decide) (by decide) hk1 hFc hP1 hD1
            clear hPc hDc hFc hk1 hP1 hD1
            generalize H1 = H at hP hS ⊢
            have hP : sdP g [(q3, .inr (4, [.ref q1, .ref q2, .ref q7, .int fp])), (q7, .inr (5, [.ref q1, .ref q8, .ref q9, .ref q10, .int (nI (sn (mkS st (va_up vT k (16 + cnt0 st T + 1)))))])), (q8, .inl (gI g, 40, .inl s1)), (q9, .inl (gI g, 40, .inl s2)), (q10, .inl (gI g, 40, .inl s32)), (q2, .inr (3, [.ref q6, .int (nI (wn st))])), (q6, .inl (gI g, 600, .inl (upd pw1 i (nI (sF st k)))))] H := hP
            have hD : va_D A [(q3, .inr (4, [.ref q1, .ref q2, .ref q7, .int fp])), (q7, .inr (5, [.ref q1, .ref q8, .ref q9, .ref q10, .int (nI (sn (mkS st (va_up vT k (16 + cnt0 st T + 1)))))])), (q8, .inl (gI g, 40, .inl s1)), (q9, .inl (gI g, 40, .inl s2)), (q10, .inl (gI g, 40, .inl s32)), (q2, .inr (3, [.ref q6, .int (nI (wn st))])), (q6, .inl (gI g, 600, .inl (upd pw1 i (nI (sF st k)))))] := hD
            refine lv_iinc (v := (nI (i + 1))) (lv' := [(2, .int (nI (i + 1))), (1, .int (nI ((16 + cnt0 st T) + 1))), (3, .int (nI k)), (0, .ref q3)]) hx hb d_Rdr_fillInSymbols_63 hl (k := 3) rfl (nI_1 _) (by decide) rfl (fun ls hl => ?_)
            refine lv_goto (tgt := 5) hx hb d_Rdr_fillInSymbols_66 (by decide) ?_
            exact ih (H, locs, ls, i + 1, (k + 1), upd pw1 i (nI (sF st k)), s32, (va_up vT k (16 + cnt0 st T + 1))) ⟨by
                have e9 : 16 + cnt0 st (k + 1) = 16 + cnt0 st T + 1 := by
                  show 16 + (cnt0 st k + (if sv st k = 0 then 1 else 0)) = _
                  rw [if_pos hsz, hcs]; omega
                rw [e9]
                exact lv_sub hl [3, 1, 0] rfl, hP.sub [0, 5, 6, 1, 2, 3, 4] rfl, hD.sub [0, 5, 6, 1, 2, 3, 4] (by decide) rfl, hS, by omega, hks, fun j hj => by
                by_cases q : j = i
                · subst q; rw [pk_us, fin, if_neg (by omega), hk]; rfl
                · rw [pk_un q]; exact h3 j (by omega), fun j h8 h9 => by rw [pk_un (by omega)]; exact h4 j (by omega) h9, hw3, h6b, fun w hw h8 h9 => by
                rcases Nat.lt_or_ge w i with q | q
                · have := h7 w q h8 h9; omega
                · have : w = i := by omega
                  subst this
                  have e8 : wy st w - 1 = k := by omega
                  rw [e8] at h9 ⊢
                  omega⟩ (show wn st - (i + 1) < wn st - i by omega)
        · have hw1 := hw1 hz
          obtain rfl : mkS st vT = st2 := hw1.2.symm
          obtain rfl := hw1.1
          refine lv_if_eq (tgt := 47) hx hb d_Rdr_fillInSymbols_41 (by decide) (fun c10 => ?_) (fun c10 => ?_)
          · refine lv_aload_n hx hb d_Rdr_fillInSymbols_47 rfl (lv_at hl 1 rfl) ?_
            refine va_get (D := g.1) (ci := 4) (v := .ref q2) (C := "SignDesk$Reader") (T := F_Rdr) (N := 4) hx hb hts in_Rdr hown hK hP 0 rfl rfl 1 (by decide) (hts _ k_102) (fun _ h9 => h9) rfl d_Rdr_fillInSymbols_48 ?_
            refine lv_iload_n hx hb d_Rdr_fillInSymbols_51 rfl (lv_at hl 3 rfl) ?_
            refine lv_aload_n hx hb d_Rdr_fillInSymbols_52 rfl (lv_at hl 1 rfl) ?_
            refine va_get (D := g.1) (ci := 4) (v := .ref q7) (C := "SignDesk$Reader") (T := F_Rdr) (N := 4) hx hb hts in_Rdr hown hK hP 0 rfl rfl 2 (by decide) (hts _ k_103) (fun _ h9 => h9) rfl d_Rdr_fillInSymbols_53 ?_
            refine lv_iload_n hx hb d_Rdr_fillInSymbols_56 rfl (lv_at hl 0 rfl) ?_
            refine sd_ri (va_runV (As := [.int (nI k)]) (rest := [.int (nI i), .ref q2]) ⟨hx, hb, hml, hown, hts⟩ (c_Sym_numberOf l g q7 q1 q8 q9 q10 (mkS st vT) s1 s2 s32 hw3 k hks) (cwV 1 hts (sd_gV k_367 k_368 k_369 k_27 k_370) rfl rfl rfl (by decide +kernel) ⟨Nat.le_of_ble_eq_true rfl, Nat.le_of_ble_eq_true rfl⟩) (sd_preV hK hE (sd_fr hS hA0) (hP.sub (ws' := [(q7, .inr (5, [.ref q1, .ref q8, .ref q9, .ref q10, .int (nI (sn (mkS st vT)))])), (q8, .inl (gI g, 40, .inl s1)), (q9, .inl (gI g, 40, .inl s2)), (q10, .inl (gI g, 40, .inl s32))]) [3, 4, 5, 6] rfl) rfl rfl) rfl rfl hl.1 rfl (lv_room (Nat.le_of_ble_eq_true rfl)) d_Rdr_fillInSymbols_57 ⟨Nat.zero_le _, Nat.zero_le _⟩) (fun r11 er11 => ?_)
            subst er11
            refine sd_topi (y := nI (sF st k)) (svI_F h6 hks (hz)) ?_
            have hPc := hP.sub (ws' := [(q2, .inr (3, [.ref q6, .int (nI (wn st))])), (q6, .inl (gI g, 600, .inl pw1))]) [1, 2] rfl
            have hDc := hD.sub (ws' := [(q2, .inr (3, [.ref q6, .int (nI (wn st))])), (q6, .inl (gI g, 600, .inl pw1))]) [1, 2] (by decide) rfl
            have hFc := va_free (wc := [(q2, .inr (3, [.ref q6, .int (nI (wn st))])), (q6, .inl (gI g, 600, .inl pw1))]) hD hS hA [1, 2] rfl
            refine sd_cv (va_runV (As := [.int (nI i), .int (nI (sF st k))]) (rest := []) ⟨hx, hb, hml, hown, hts⟩ (c_Prg_change l g q2 q6 (wn st) pw1 h600 i (nI (sF st k)) hi H.size) (cwV 2 hts (sd_gV k_371 k_372 k_373 k_25 k_374) rfl rfl rfl (by decide +kernel) ⟨Nat.le_of_ble_eq_true rfl, Nat.le_of_ble_eq_true rfl⟩) (sd_preVU hK hE hS hA0 hs0 hPc hDc rfl rfl) rfl rfl hl.1 rfl (lv_room (Nat.le_of_ble_eq_true rfl)) d_Rdr_fillInSymbols_60 ⟨Nat.zero_le _, Nat.zero_le _⟩) hS hFc (fun u H1 locs hw9 hP1 hD1 hk1 hS => ?_)
            obtain ⟨hP, hD⟩ := va_join (wr := [(q3, .inr (4, [.ref q1, .ref q2, .ref q7, .int fp])), (q7, .inr (5, [.ref q1, .ref q8, .ref q9, .ref q10, .int (nI (sn (mkS st vT)))])), (q8, .inl (gI g, 40, .inl s1)), (q9, .inl (gI g, 40, .inl s2)), (q10, .inl (gI g, 40, .inl s32))]) (w1 := [(q2, .inr (3, [.ref q6, .int (nI (wn st))])), (q6, .inl (gI g, 600, .inl (upd pw1 i (nI (sF st k)))))]) hP hD [1, 2] [0, 3, 4, 5, 6] rfl rfl (by decide) (by decide) hk1 hFc hP1 hD1
            clear hPc hDc hFc hk1 hP1 hD1
            generalize H1 = H at hP hS ⊢
            have hP : sdP g [(q3, .inr (4, [.ref q1, .ref q2, .ref q7, .int fp])), (q7, .inr (5, [.ref q1, .ref q8, .ref q9, .ref q10, .int (nI (sn (mkS st vT)))])), (q8, .inl (gI g, 40, .inl s1)), (q9, .inl (gI g, 40, .inl s2)), (q10, .inl (gI g, 40, .inl s32)), (q2, .inr (3, [.ref q6, .int (nI (wn st))])), (q6, .inl (gI g, 600, .inl (upd pw1 i (nI (sF st k)))))] H := hP
            have hD : va_D A [(q3, .inr (4, [.ref q1, .ref q2, .ref q7, .int fp])), (q7, .inr (5, [.ref q1, .ref q8, .ref q9, .ref q10, .int (nI (sn (mkS st vT)))])), (q8, .inl (gI g, 40, .inl s1)), (q9, .inl (gI g, 40, .inl s2)), (q10, .inl (gI g, 40, .inl s32)), (q2, .inr (3, [.ref q6, .int (nI (wn st))])), (q6, .inl (gI g, 600, .inl (upd pw1 i (nI (sF st k)))))] := hD
            refine lv_iinc (v := (nI (i + 1))) (lv' := [(2, .int (nI (i + 1))), (3, .int (nI k)), (0, .ref q3), (1, .int (nI (16 + cnt0 st T)))]) hx hb d_Rdr_fillInSymbols_63 hl (k := 3) rfl (nI_1 _) (by decide) rfl (fun ls hl => ?_)
            refine lv_goto (tgt := 5) hx hb d_Rdr_fillInSymbols_66 (by decide) ?_
            exact ih (H, locs, ls, i + 1, T, upd pw1 i (nI (sF st k)), s32, vT) ⟨lv_sub hl [2, 3, 0] rfl, hP.sub [0, 5, 6, 1, 2, 3, 4] rfl, hD.sub [0, 5, 6, 1, 2, 3, 4] (by decide) rfl, hS, by omega, h2, fun j hj => by
                by_cases q : j = i
                · subst q; rw [pk_us, fin, if_neg (by omega), hk]; rfl
                · rw [pk_un q]; exact h3 j (by omega), fun j h8 h9 => by rw [pk_un (by omega)]; exact h4 j (by omega) h9, hw3, h6, fun w hw h8 h9 => by
                rcases Nat.lt_or_ge w i with q | q
                · have := h7 w q h8 h9; omega
                · have : w = i := by omega
                  subst this
                  have e8 : wy st w - 1 = k := by omega
                  rw [e8] at h9 ⊢
                  have e9 := h6 k hks
                  rw [if_pos h9] at e9
                  rcases Nat.lt_or_ge k T with q2 | q2
                  · exact q2
                  · rw [if_neg (by omega)] at e9; exact absurd e9 hz⟩ (show wn st - (i + 1) < wn st - i by omega)
          · exact absurd rfl c10
end
section
set_option maxHeartbeats 4000000 in
set_option maxRecDepth 100000 in
/-- assemble() -/
theorem c_Rdr_assemble (l : Launch) (g : sdG) (q3 q1 q2 q7 q5 q6 q8 q9 q10 n : Nat) (fp px cx : Int32) (f : Nat → Int32) (tx : Nat → Nat) (hT : TXok n f tx) (pw s1 s2 s3 : Nat → Int32) (sz : Nat) : Met l y_Rdr_assemble (.code y_Rdr_assemble b_Rdr_assemble 5 (some .int) :: sdT) ({ frames := 8, cells := 0, slots := 0, locals := 187 }) (va_Pc [.ref q3] (sdU g [(q3, .inr (4, [.ref q1, .ref q2, .ref q7, .int fp])), (q1, .inr (6, [.ref q5, .int (nI n)])), (q5, .inl (gB g, 2000, .inl f)), (q2, .inr (3, [.ref q6, .int px])), (q6, .inl (gI g, 600, .inl pw)), (q7, .inr (5, [.ref q1, .ref q8, .ref q9, .ref q10, .int cx])), (q8, .inl (gI g, 40, .inl s1)), (q9, .inl (gI g, 40, .inl s2)), (q10, .inl (gI g, 40, .inl s3))] sz)) (va_Qi (S := Nat × (Nat → Int32) × Int32 × Nat × (Nat → Int32) × (Nat → Int32) × (Nat → Int32)) (fun r u => r = nI (asm tx n (n + 1) 0 0 E0).1 ∧ ((asm tx n (n + 1) 0 0 E0).1 = 0 → u.2.2.1 = -1 ∧ u.1 = wn (asm tx n (n + 1) 0 0 E0).2.2 ∧ u.2.2.2.1 = sn (asm tx n (n + 1) 0 0 E0).2.2 ∧ ∀ j, j < wn (asm tx n (n + 1) 0 0 E0).2.2 → u.2.1 j = nI (fin (asm tx n (n + 1) 0 0 E0).2.2 j)) ∧ (¬ (asm tx n (n + 1) 0 0 E0).1 = 0 → u.2.2.1 = nI (asm tx n (n + 1) 0 0 E0).2.1 ∧ u.1 = 0 ∧ u.2.2.2.1 = 0)) (fun u t => sdB g [(q3, .inr (4, [.ref q1, .ref q2, .ref q7, .int fp])), (q1, .inr (6, [.ref q5, .int (nI n)])), (q5, .inl (gB g, 2000, .inl f)), (q2, .inr (3, [.ref q6, .int px])), (q6, .inl (gI g, 600, .inl pw)), (q7, .inr (5, [.ref q1, .ref q8, .ref q9, .ref q10, .int cx])), (q8, .inl (gI g, 40, .inl s1)), (q9, .inl (gI g, 40, .inl s2)), (q10, .inl (gI g, 40, .inl s3))] sz ((fun u => [(q3, .inr (4, [.ref q1, .ref q2, .ref q7, .int u.2.2.1])), (q1, .inr (6, [.ref q5, .int (nI n)])), (q5, .inl (gB g, 2000, .inl f)), (q2, .inr (3, [.ref q6, .int (nI u.1)])), (q6, .inl (gI g, 600, .inl u.2.1)), (q7, .inr (5, [.ref q1, .ref q8, .ref q9, .ref q10, .int (nI u.2.2.2.1)])), (q8, .inl (gI g, 40, .inl u.2.2.2.2.1)), (q9, .inl (gI g, 40, .inl u.2.2.2.2.2.1)), (q10, .inl (gI g, 40, .inl u.2.2.2.2.2.2))] : Nat × (Nat → Int32) × Int32 × Nat × (Nat → Int32) × (Nat → Int32) × (Nat → Int32) → va_W) u) t) (va_A [(q3, .inr (4, [.ref q1, .ref q2, .ref q7, .int fp])), (q1, .inr (6, [.ref q5, .int (nI n)])), (q5, .inl (gB g, 2000, .inl f)), (q2, .inr (3, [.ref q6, .int px])), (q6, .inl (gI g, 600, .inl pw)), (q7, .inr (5, [.ref q1, .ref q8, .ref q9, .ref q10, .int cx])), (q8, .inl (gI g, 40, .inl s1)), (q9, .inl (gI g, 40, .inl s2)), (q10, .inl (gI g, 40, .inl s3))] sz)) 0 0 (va_A [(q3, .inr (4, [.ref q1, .ref q2, .ref q7, .int fp])), (q1, .inr (6, [.ref q5, .int (nI n)])), (q5, .inl (gB g, 2000, .inl f)), (q2, .inr (3, [.ref q6, .int px])), (q6, .inl (gI g, 600, .inl pw)), (q7, .inr (5, [.ref q1, .ref q8, .ref q9, .ref q10, .int cx])), (q8, .inl (gI g, 40, .inl s1)), (q9, .inl (gI g, 40, .inl s2)), (q10, .inl (gI g, 40, .inl s3))] sz) := by
  refine Met.ofW (cc := b_Rdr_assemble) (maxL := 5) (ret := (some .int)) (by decide) rfl ?_
  intro p ev s m args below meth c s₁ B hml hv
  obtain ⟨rfl, hsz, hP, hK, hE, hD0, hs0⟩ := hv
  have hx := B.exec
  have hb := B.bytes
  have hr := B.returns
  have hts := fun (w : Cond) (h : w ∈ sdT) => atoms_spec (ws := (.code y_Rdr_assemble b_Rdr_assemble 5 (some .int) :: sdT)) B.pre w (List.mem_cons_of_mem _ h)
  have hown : s.vm.findClass "SignDesk$Reader" = some m.cls := findClass_of_methodNamed B.named
  have hlocks := B.notSynchronized
  subst hsz
  have hD := hD0.self (sz := s.heap.size)
  have hA0 : ∀ q : Nat, va_A [(q3, .inr (4, [.ref q1, .ref q2, .ref q7, .int fp])), (q1, .inr (6, [.ref q5, .int (nI n)])), (q5, .inl (gB g, 2000, .inl f)), (q2, .inr (3, [.ref q6, .int px])), (q6, .inl (gI g, 600, .inl pw)), (q7, .inr (5, [.ref q1, .ref q8, .ref q9, .ref q10, .int cx])), (q8, .inl (gI g, 40, .inl s1)), (q9, .inl (gI g, 40, .inl s2)), (q10, .inl (gI g, 40, .inl s3))] s.heap.size q → gS g ≤ q := fun q h => h.elim (fun ⟨k, e, hk⟩ => hD0.2 k _ hk) (fun h => Nat.le_trans hs0 h)
  have hA : ∀ q : Nat, s.heap.size ≤ q → va_A [(q3, .inr (4, [.ref q1, .ref q2, .ref q7, .int fp])), (q1, .inr (6, [.ref q5, .int (nI n)])), (q5, .inl (gB g, 2000, .inl f)), (q2, .inr (3, [.ref q6, .int px])), (q6, .inl (gI g, 600, .inl pw)), (q7, .inr (5, [.ref q1, .ref q8, .ref q9, .ref q10, .int cx])), (q8, .inl (gI g, 40, .inl s1)), (q9, .inl (gI g, 40, .inl s2)), (q10, .inl (gI g, 40, .inl s3))] s.heap.size q := fun q h => Or.inr h
  generalize hAe : va_A [(q3, .inr (4, [.ref q1, .ref q2, .ref q7, .int fp])), (q1, .inr (6, [.ref q5, .int (nI n)])), (q5, .inl (gB g, 2000, .inl f)), (q2, .inr (3, [.ref q6, .int px])), (q6, .inl (gI g, 600, .inl pw)), (q7, .inr (5, [.ref q1, .ref q8, .ref q9, .ref q10, .int cx])), (q8, .inl (gI g, 40, .inl s1)), (q9, .inl (gI g, 40, .inl s2)), (q10, .inl (gI g, 40, .inl s3))] s.heap.size = A at hD hA0 hA ⊢
  have hS : va_S A s.heap s.heap [] := va_S.rf
  have hP : sdP g [(q3, .inr (4, [.ref q1, .ref q2, .ref q7, .int fp])), (q1, .inr (6, [.ref q5, .int (nI n)])), (q5, .inl (gB g, 2000, .inl f)), (q2, .inr (3, [.ref q6, .int px])), (q6, .inl (gI g, 600, .inl pw)), (q7, .inr (5, [.ref q1, .ref q8, .ref q9, .ref q10, .int cx])), (q8, .inl (gI g, 40, .inl s1)), (q9, .inl (gI g, 40, .inl s2)), (q10, .inl (gI g, 40, .inl s3))] s.heap := hP
  have hl := lv_entry ([.ref q3]) (n := 5) (Nat.le_of_ble_eq_true rfl)
  rw [lg_entry_eq]
  generalize (lg_sl ([.ref q3]) ++ List.replicate (5 - (lg_sl ([.ref q3])).length) Slot.unset).toArray = ls at hl ⊢
  have hl : lv_has ls 5 [(0, .ref q3)] := hl
  have hn := hT.1
  have hb8 := hT.2.1
  refine lv_aload_n hx hb d_Rdr_assemble_0 rfl (lv_at hl 0 rfl) ?_
  have hPc := hP.sub (ws' := [(q3, .inr (4, [.ref q1, .ref q2, .ref q7, .int fp])), (q2, .inr (3, [.ref q6, .int px])), (q6, .inl (gI g, 600, .inl pw)), (q7, .inr (5, [.ref q1, .ref q8, .ref q9, .ref q10, .int cx])), (q8, .inl (gI g, 40, .inl s1)), (q9, .inl (gI g, 40, .inl s2)), (q10, .inl (gI g, 40, .inl s3))]) [0, 3, 4, 5, 6, 7, 8] rfl
  have hDc := hD.sub (ws' := [(q3, .inr (4, [.ref q1, .ref q2, .ref q7, .int fp])), (q2, .inr (3, [.ref q6, .int px])), (q6, .inl (gI g, 600, .inl pw)), (q7, .inr (5, [.ref q1, .ref q8, .ref q9, .ref q10, .int cx])), (q8, .inl (gI g, 40, .inl s1)), (q9, .inl (gI g, 40, .inl s2)), (q10, .inl (gI g, 40, .inl s3))]) [0, 3, 4, 5, 6, 7, 8] (by decide) rfl
  have hFc := va_free (wc := [(q3, .inr (4, [.ref q1, .ref q2, .ref q7, .int fp])), (q2, .inr (3, [.ref q6, .int px])), (q6, .inl (gI g, 600, .inl pw)), (q7, .inr (5, [.ref q1, .ref q8, .ref q9, .ref q10, .int cx])), (q8, .inl (gI g, 40, .inl s1)), (q9, .inl (gI g, 40, .inl s2)), (q10, .inl (gI g, 40, .inl s3))]) hD hS hA [0, 3, 4, 5, 6, 7, 8] rfl
  refine sd_cv (va_runV (As := []) (rest := []) ⟨hx, hb, hml, hown, hts⟩ (c_Rdr_forget l g q3 q1 q2 q7 q6 q8 q9 q10 fp px cx pw s1 s2 s3 s.heap.size) (cwV 0 hts (sd_gV k_180 k_182 k_0 k_26 k_183) rfl rfl rfl (by decide +kernel) ⟨Nat.le_of_ble_eq_true rfl, Nat.le_of_ble_eq_true rfl⟩) (sd_preVU hK hE hS hA0 hs0 hPc hDc rfl rfl) rfl rfl hl.1 rfl (lv_room (Nat.le_of_ble_eq_true rfl)) d_Rdr_assemble_1 ⟨Nat.zero_le _, Nat.zero_le _⟩) hS hFc (fun u H1 locs hw hP1 hD1 hk1 hS => ?_)
  obtain ⟨hP, hD⟩ := va_join (wr := [(q1, .inr (6, [.ref q5, .int (nI n)])), (q5, .inl (gB g, 2000, .inl f))]) (w1 := [(q3, .inr (4, [.ref q1, .ref q2, .ref q7, .int fp])), (q2, .inr (3, [.ref q6, .int (nI 0)])), (q6, .inl (gI g, 600, .inl pw)), (q7, .inr (5, [.ref q1, .ref q8, .ref q9, .ref q10, .int (nI 0)])), (q8, .inl (gI g, 40, .inl s1)), (q9, .inl (gI g, 40, .inl s2)), (q10, .inl (gI g, 40, .inl s3))]) hP hD [0, 3, 4, 5, 6, 7, 8] [1, 2] rfl rfl (by decide) (by decide) hk1 hFc hP1 hD1
  clear hPc hDc hFc hk1 hP1 hD1
  generalize H1 = H at hP hS ⊢
  have hP : sdP g [(q1, .inr (6, [.ref q5, .int (nI n)])), (q5, .inl (gB g, 2000, .inl f)), (q3, .inr (4, [.ref q1, .ref q2, .ref q7, .int fp])), (q2, .inr (3, [.ref q6, .int (nI 0)])), (q6, .inl (gI g, 600, .inl pw)), (q7, .inr (5, [.ref q1, .ref q8, .ref q9, .ref q10, .int (nI 0)])), (q8, .inl (gI g, 40, .inl s1)), (q9, .inl (gI g, 40, .inl s2)), (q10, .inl (gI g, 40, .inl s3))] H := hP
  have hD : va_D A [(q1, .inr (6, [.ref q5, .int (nI n)])), (q5, .inl (gB g, 2000, .inl f)), (q3, .inr (4, [.ref q1, .ref q2, .ref q7, .int fp])), (q2, .inr (3, [.ref q6, .int (nI 0)])), (q6, .inl (gI g, 600, .inl pw)), (q7, .inr (5, [.ref q1, .ref q8, .ref q9, .ref q10, .int (nI 0)])), (q8, .inl (gI g, 40, .inl s1)), (q9, .inl (gI g, 40, .inl s2)), (q10, .inl (gI g, 40, .inl s3))] := hD
  refine lv_aload_n hx hb d_Rdr_assemble_4 rfl (lv_at hl 0 rfl) ?_
  refine lv_iconst (v := (-1)) hx hb d_Rdr_assemble_5 (by decide) ?_
  refine va_put (D := g.1) (ci := 4) (v := .int (-1)) (ty := .int) (C := "SignDesk$Reader") (T := F_Rdr) (N := 4) hx hb hts in_Rdr t_Rdr t_Rdr_ok n_Rdr hown hK hP hD hS 2 rfl rfl 3 (by decide) (hts _ k_104) (fun _ h9 => h9) rfl (by decide +kernel) rfl rfl (Nat.le_of_ble_eq_true rfl) d_Rdr_assemble_6 (fun H locs hP hD hS => ?_)
  have hP : sdP g [(q1, .inr (6, [.ref q5, .int (nI n)])), (q5, .inl (gB g, 2000, .inl f)), (q3, .inr (4, [.ref q1, .ref q2, .ref q7, .int (-1)])), (q2, .inr (3, [.ref q6, .int (nI 0)])), (q6, .inl (gI g, 600, .inl pw)), (q7, .inr (5, [.ref q1, .ref q8, .ref q9, .ref q10, .int (nI 0)])), (q8, .inl (gI g, 40, .inl s1)), (q9, .inl (gI g, 40, .inl s2)), (q10, .inl (gI g, 40, .inl s3))] H := hP
  have hD : va_D A [(q1, .inr (6, [.ref q5, .int (nI n)])), (q5, .inl (gB g, 2000, .inl f)), (q3, .inr (4, [.ref q1, .ref q2, .ref q7, .int (-1)])), (q2, .inr (3, [.ref q6, .int (nI 0)])), (q6, .inl (gI g, 600, .inl pw)), (q7, .inr (5, [.ref q1, .ref q8, .ref q9, .ref q10, .int (nI 0)])), (q8, .inl (gI g, 40, .inl s1)), (q9, .inl (gI g, 40, .inl s2)), (q10, .inl (gI g, 40, .inl s3))] := hD
  refine lv_iconst (v := (nI 0)) hx hb d_Rdr_assemble_9 (by decide) ?_
  refine lv_istore_n (lv' := [(1, .int (nI 0)), (0, .ref q3)]) hx hb d_Rdr_assemble_10 rfl hl (by decide) rfl (fun ls hl => ?_)
  refine lv_iconst (v := (nI 0)) hx hb d_Rdr_assemble_11 (by decide) ?_
  refine lv_istore_n (lv' := [(2, .int (nI 0)), (1, .int (nI 0)), (0, .ref q3)]) hx hb d_Rdr_assemble_12 rfl hl (by decide) rfl (fun ls hl => ?_)
  refine lv_iconst (v := (nI 0)) hx hb d_Rdr_assemble_13 (by decide) ?_
  refine lv_istore_n (lv' := [(3, .int (nI 0)), (2, .int (nI 0)), (1, .int (nI 0)), (0, .ref q3)]) hx hb d_Rdr_assemble_14 rfl hl (by decide) rfl (fun ls hl => ?_)
  refine lv_iconst (v := (nI 0)) hx hb d_Rdr_assemble_15 (by decide) ?_
  refine lv_istore (lv' := [(4, .int (nI 0)), (3, .int (nI 0)), (2, .int (nI 0)), (1, .int (nI 0)), (0, .ref q3)]) hx hb d_Rdr_assemble_16 hl (by decide) rfl (fun ls hl => ?_)
  refine sd_loop (fun (x : Heap × List Loc × Array Slot × Nat × Nat × Nat × Nat × Int32 × AS × (Nat → Int32) × (Nat → Int32) × (Nat → Int32) × (Nat → Int32)) => match x with | (H, locs, ls, i, bh, h9, cc, fp1, st, pw1, t1, t2, t3) => lv_has ls 5 [(4, .int (nI i)), (3, .int (nI bh)), (2, .int (nI h9)), (1, .int (nI cc)), (0, .ref q3)] ∧ sdP g [(q3, .inr (4, [.ref q1, .ref q2, .ref q7, .int fp1])), (q1, .inr (6, [.ref q5, .int (nI n)])), (q5, .inl (gB g, 2000, .inl f)), (q2, .inr (3, [.ref q6, .int (nI (wn st))])), (q6, .inl (gI g, 600, .inl pw1)), (q7, .inr (5, [.ref q1, .ref q8, .ref q9, .ref q10, .int (nI (sn st))])), (q8, .inl (gI g, 40, .inl t1)), (q9, .inl (gI g, 40, .inl t2)), (q10, .inl (gI g, 40, .inl t3))] H ∧ va_D A [(q3, .inr (4, [.ref q1, .ref q2, .ref q7, .int fp1])), (q1, .inr (6, [.ref q5, .int (nI n)])), (q5, .inl (gB g, 2000, .inl f)), (q2, .inr (3, [.ref q6, .int (nI (wn st))])), (q6, .inl (gI g, 600, .inl pw1)), (q7, .inr (5, [.ref q1, .ref q8, .ref q9, .ref q10, .int (nI (sn st))])), (q8, .inl (gI g, 40, .inl t1)), (q9, .inl (gI g, 40, .inl t2)), (q10, .inl (gI g, 40, .inl t3))] ∧ va_S A s.heap H locs ∧ (i ≤ n) ∧ (bh ≤ n) ∧ (PR st pw1) ∧ (SR st t1 t2 t3) ∧ (cc ≤ 3) ∧ (h9 ≤ 1) ∧ ((cc = 0 ∧ fp1 = -1 ∧ ∃ f0, n - (if i < bh then bh else i) < f0 ∧ asm tx n (n + 1) 0 0 E0 = asm tx n f0 (if i < bh then bh else i) h9 st) ∨ (¬ cc = 0 ∧ ∃ k, fp1 = nI k ∧ asm tx n (n + 1) 0 0 E0 = (cc, k, st)))) (fun (x : Heap × List Loc × Array Slot × Nat × Nat × Nat × Nat × Int32 × AS × (Nat → Int32) × (Nat → Int32) × (Nat → Int32) × (Nat → Int32)) => match x with | (H, locs, ls, i, bh, h9, cc, fp1, st, pw1, t1, t2, t3) => n - i) (fun x => x.1) (fun x => x.2.1) (fun (x : Heap × List Loc × Array Slot × Nat × Nat × Nat × Nat × Int32 × AS × (Nat → Int32) × (Nat → Int32) × (Nat → Int32) × (Nat → Int32)) => match x with | (H, locs, ls, i, bh, h9, cc, fp1, st, pw1, t1, t2, t3) => 0) (fun (x : Heap × List Loc × Array Slot × Nat × Nat × Nat × Nat × Int32 × AS × (Nat → Int32) × (Nat → Int32) × (Nat → Int32) × (Nat → Int32)) => match x with | (H, locs, ls, i, bh, h9, cc, fp1, st, pw1, t1, t2, t3) => 0) (fun x => F0 m 18 x.2.2.1 []) (fun x hI ih => ?_) (H, _, ls, 0, 0, 0, 0, -1, E0, pw, s1, s2, s3) ⟨lv_sub hl [0, 1, 2, 3, 4] rfl, hP.sub [2, 0, 1, 3, 4, 5, 6, 7, 8] rfl, hD.sub [2, 0, 1, 3, 4, 5, 6, 7, 8] (by decide) rfl, hS, Nat.zero_le _, Nat.zero_le _, PR_E0 _, SR_E0 _ _ _, by decide, by decide, Or.inl ⟨rfl, rfl, n + 1, by simp, rfl⟩⟩
  obtain ⟨H, locs, ls, i, bh, h9, cc, fp1, st, pw1, t1, t2, t3⟩ := x
  obtain ⟨hl, hP, hD, hS, h1, h2, hPR, hSR, hc3, hh1, hR⟩ := hI
  show W p l ev _ s m _ below meth c H locs (0) (0) _ (F0 m 18 ls [])
  have hP : sdP g [(q3, .inr (4, [.ref q1, .ref q2, .ref q7, .int fp1])), (q1, .inr (6, [.ref q5, .int (nI n)])), (q5, .inl (gB g, 2000, .inl f)), (q2, .inr (3, [.ref q6, .int (nI (wn st))])), (q6, .inl (gI g, 600, .inl pw1)), (q7, .inr (5, [.ref q1, .ref q8, .ref q9, .ref q10, .int (nI (sn st))])), (q8, .inl (gI g, 40, .inl t1)), (q9, .inl (gI g, 40, .inl t2)), (q10, .inl (gI g, 40, .inl t3))] H := hP
  have hD : va_D A [(q3, .inr (4, [.ref q1, .ref q2, .ref q7, .int fp1])), (q1, .inr (6, [.ref q5, .int (nI n)])), (q5, .inl (gB g, 2000, .inl f)), (q2, .inr (3, [.ref q6, .int (nI (wn st))])), (q6, .inl (gI g, 600, .inl pw1)), (q7, .inr (5, [.ref q1, .ref q8, .ref q9, .ref q10, .int (nI (sn st))])), (q8, .inl (gI g, 40, .inl t1)), (q9, .inl (gI g, 40, .inl t2)), (q10, .inl (gI g, 40, .inl t3))] := hD
  refine lv_iload hx hb d_Rdr_assemble_18 (lv_at hl 0 rfl) ?_
  refine lv_aload_n hx hb d_Rdr_assemble_20 rfl (lv_at hl 4 rfl) ?_
  refine va_get (D := g.1) (ci := 4) (v := .ref q1) (C := "SignDesk$Reader") (T := F_Rdr) (N := 4) hx hb hts in_Rdr hown hK hP 0 rfl rfl 0 (by decide) (hts _ k_101) (fun _ h9 => h9) rfl d_Rdr_assemble_21 ?_
  refine sd_ri (va_runV (As := []) (rest := [.int (nI i)]) ⟨hx, hb, hml, hown, hts⟩ (c_Txt_size l g q1 q5 n f tx hT) (cwV 0 hts (sd_gV k_192 k_193 k_194 k_24 k_195) rfl rfl rfl (by decide +kernel) ⟨Nat.le_of_ble_eq_true rfl, Nat.le_of_ble_eq_true rfl⟩) (sd_preV hK hE (sd_fr hS hA0) (hP.sub (ws' := [(q1, .inr (6, [.ref q5, .int (nI n)])), (q5, .inl (gB g, 2000, .inl f))]) [1, 2] rfl) rfl rfl) rfl rfl hl.1 rfl (lv_room (Nat.le_of_ble_eq_true rfl)) d_Rdr_assemble_24 ⟨Nat.zero_le _, Nat.zero_le _⟩) (fun r2 er2 => ?_)
  subst er2
  refine lv_icmp_ge (tgt := 145) hx hb d_Rdr_assemble_27 (by decide) (fun c3 => ?_) (fun c3 => ?_)
  · have c3 := (nI_leI (by omega) (by omega)).mp c3
    rcases hR with ⟨hc0, hfp, f0, hf0, hRes⟩ | ⟨hc0, k, hfp, hRes⟩
    · have eP : (if i < bh then bh else i) = n := by split <;> omega
      rw [eP] at hRes
      have hRes := hRes.trans (asm_end (Nat.le_refl n))
      refine lv_iload_n hx hb d_Rdr_assemble_145 rfl (lv_at hl 3 rfl) ?_
      refine lv_if_ne (tgt := 156) hx hb d_Rdr_assemble_146 (by decide) (fun c4 => ?_) (fun c4 => ?_)
      · have c4 := mt (nI_eq (b := 0) (by omega) (by omega)).mpr c4
        exact absurd hc0 c4
      · have c4 := (nI_eq (b := 0) (by omega) (by omega)).mp c4
        have hAI : AInv st := by
          have h := asm_inv (tx := tx) (n := n) (n + 1) 0 0 E0 AInv_E0 (by rw [hRes])
          rw [hRes] at h; exact h
        refine lv_aload_n hx hb d_Rdr_assemble_149 rfl (lv_at hl 4 rfl) ?_
        have hPc := hP.sub (ws' := [(q3, .inr (4, [.ref q1, .ref q2, .ref q7, .int fp1])), (q2, .inr (3, [.ref q6, .int (nI (wn st))])), (q6, .inl (gI g, 600, .inl pw1)), (q7, .inr (5, [.ref q1, .ref q8, .ref q9, .ref q10, .int (nI (sn st))])), (q8, .inl (gI g, 40, .inl t1)), (q9, .inl (gI g, 40, .inl t2)), (q10, .inl (gI g, 40, .inl t3))]) [0, 3, 4, 5, 6, 7, 8] rfl
        have hDc := hD.sub (ws' := [(q3, .inr (4, [.ref q1, .ref q2, .ref q7, .int fp1])), (q2, .inr (3, [.ref q6, .int (nI (wn st))])), (q6, .inl (gI g, 600, .inl pw1)), (q7, .inr (5, [.ref q1, .ref q8, .ref q9, .ref q10, .int (nI (sn st))])), (q8, .inl (gI g, 40, .inl t1)), (q9, .inl (gI g, 40, .inl t2)), (q10, .inl (gI g, 40, .inl t3))]) [0, 3, 4, 5, 6, 7, 8] (by decide) rfl
        have hFc := va_free (wc := [(q3, .inr (4, [.ref q1, .ref q2, .ref q7, .int fp1])), (q2, .inr (3, [.ref q6, .int (nI (wn st))])), (q6, .inl (gI g, 600, .inl pw1)), (q7, .inr (5, [.ref q1, .ref q8, .ref q9, .ref q10, .int (nI (sn st))])), (q8, .inl (gI g, 40, .inl t1)), (q9, .inl (gI g, 40, .inl t2)), (q10, .inl (gI g, 40, .inl t3))]) hD hS hA [0, 3, 4, 5, 6, 7, 8] rfl
        refine sd_cv (va_runV (As := []) (rest := []) ⟨hx, hb, hml, hown, hts⟩ (c_Rdr_fillInSymbols l g q3 q1 q2 q7 q6 q8 q9 q10 fp1 st pw1 t1 t2 t3 hPR hSR hAI H.size) (cwV 0 hts (sd_gV k_359 k_361 k_7 k_26 k_362) rfl rfl rfl (by decide +kernel) ⟨Nat.le_of_ble_eq_true rfl, Nat.le_of_ble_eq_true rfl⟩) (sd_preVU hK hE hS hA0 hs0 hPc hDc rfl rfl) rfl rfl hl.1 rfl (lv_room (Nat.le_of_ble_eq_true rfl)) d_Rdr_assemble_150 ⟨Nat.zero_le _, Nat.zero_le _⟩) hS hFc (fun u H1 locs hw hP1 hD1 hk1 hS => ?_)
        obtain ⟨pw2, t4⟩ := u
        obtain ⟨hP, hD⟩ := va_join (wr := [(q1, .inr (6, [.ref q5, .int (nI n)])), (q5, .inl (gB g, 2000, .inl f))]) (w1 := [(q3, .inr (4, [.ref q1, .ref q2, .ref q7, .int fp1])), (q2, .inr (3, [.ref q6, .int (nI (wn st))])), (q6, .inl (gI g, 600, .inl pw2)), (q7, .inr (5, [.ref q1, .ref q8, .ref q9, .ref q10, .int (nI (sn st))])), (q8, .inl (gI g, 40, .inl t1)), (q9, .inl (gI g, 40, .inl t2)), (q10, .inl (gI g, 40, .inl t4))]) hP hD [0, 3, 4, 5, 6, 7, 8] [1, 2] rfl rfl (by decide) (by decide) hk1 hFc hP1 hD1
        clear hPc hDc hFc hk1 hP1 hD1
        generalize H1 = H at hP hS ⊢
        have hP : sdP g [(q1, .inr (6, [.ref q5, .int (nI n)])), (q5, .inl (gB g, 2000, .inl f)), (q3, .inr (4, [.ref q1, .ref q2, .ref q7, .int fp1])), (q2, .inr (3, [.ref q6, .int (nI (wn st))])), (q6, .inl (gI g, 600, .inl pw2)), (q7, .inr (5, [.ref q1, .ref q8, .ref q9, .ref q10, .int (nI (sn st))])), (q8, .inl (gI g, 40, .inl t1)), (q9, .inl (gI g, 40, .inl t2)), (q10, .inl (gI g, 40, .inl t4))] H := hP
        have hD : va_D A [(q1, .inr (6, [.ref q5, .int (nI n)])), (q5, .inl (gB g, 2000, .inl f)), (q3, .inr (4, [.ref q1, .ref q2, .ref q7, .int fp1])), (q2, .inr (3, [.ref q6, .int (nI (wn st))])), (q6, .inl (gI g, 600, .inl pw2)), (q7, .inr (5, [.ref q1, .ref q8, .ref q9, .ref q10, .int (nI (sn st))])), (q8, .inl (gI g, 40, .inl t1)), (q9, .inl (gI g, 40, .inl t2)), (q10, .inl (gI g, 40, .inl t4))] := hD
        refine lv_goto (tgt := 160) hx hb d_Rdr_assemble_153 (by decide) ?_
        refine lv_iload_n hx hb d_Rdr_assemble_160 rfl (lv_at hl 3 rfl) ?_
        have hP9 := hP.sub (ws' := [(q3, .inr (4, [.ref q1, .ref q2, .ref q7, .int fp1])), (q1, .inr (6, [.ref q5, .int (nI n)])), (q5, .inl (gB g, 2000, .inl f)), (q2, .inr (3, [.ref q6, .int (nI (wn st))])), (q6, .inl (gI g, 600, .inl pw2)), (q7, .inr (5, [.ref q1, .ref q8, .ref q9, .ref q10, .int (nI (sn st))])), (q8, .inl (gI g, 40, .inl t1)), (q9, .inl (gI g, 40, .inl t2)), (q10, .inl (gI g, 40, .inl t4))]) [2, 0, 1, 3, 4, 5, 6, 7, 8] rfl
        have hD9 := hD.sub (ws' := [(q3, .inr (4, [.ref q1, .ref q2, .ref q7, .int fp1])), (q1, .inr (6, [.ref q5, .int (nI n)])), (q5, .inl (gB g, 2000, .inl f)), (q2, .inr (3, [.ref q6, .int (nI (wn st))])), (q6, .inl (gI g, 600, .inl pw2)), (q7, .inr (5, [.ref q1, .ref q8, .ref q9, .ref q10, .int (nI (sn st))])), (q8, .inl (gI g, 40, .inl t1)), (q9, .inl (gI g, 40, .inl t2)), (q10, .inl (gI g, 40, .inl t4))]) [2, 0, 1, 3, 4, 5, 6, 7, 8] (by decide) rfl
        exact W.iret (v := (nI cc)) hx hb hr (fun t ht hW => ⟨⟨_, (wn st, pw2, fp1, sn st, t1, t2, t4), rfl, by
            rw [hRes]
            exact ⟨by rw [hc0], fun _ => ⟨hfp, rfl, rfl, hw⟩, fun h => absurd rfl h⟩, by rw [ht]; exact hP9, by rw [hAe]; exact hD9⟩, hS.F ht⟩) hS.2.2 d_Rdr_assemble_161
    · refine lv_iload_n hx hb d_Rdr_assemble_145 rfl (lv_at hl 3 rfl) ?_
      refine lv_if_ne (tgt := 156) hx hb d_Rdr_assemble_146 (by decide) (fun c6 => ?_) (fun c6 => ?_)
      · have c6 := mt (nI_eq (b := 0) (by omega) (by omega)).mpr c6
        refine lv_aload_n hx hb d_Rdr_assemble_156 rfl (lv_at hl 4 rfl) ?_
        have hPc := hP.sub (ws' := [(q3, .inr (4, [.ref q1, .ref q2, .ref q7, .int fp1])), (q2, .inr (3, [.ref q6, .int (nI (wn st))])), (q6, .inl (gI g, 600, .inl pw1)), (q7, .inr (5, [.ref q1, .ref q8, .ref q9, .ref q10, .int (nI (sn st))])), (q8, .inl (gI g, 40, .inl t1)), (q9, .inl (gI g, 40, .inl t2)), (q10, .inl (gI g, 40, .inl t3))]) [0, 3, 4, 5, 6, 7, 8] rfl
        have hDc := hD.sub (ws' := [(q3, .inr (4, [.ref q1, .ref q2, .ref q7, .int fp1])), (q2, .inr (3, [.ref q6, .int (nI (wn st))])), (q6, .inl (gI g, 600, .inl pw1)), (q7, .inr (5, [.ref q1, .ref q8, .ref q9, .ref q10, .int (nI (sn st))])), (q8, .inl (gI g, 40, .inl t1)), (q9, .inl (gI g, 40, .inl t2)), (q10, .inl (gI g, 40, .inl t3))]) [0, 3, 4, 5, 6, 7, 8] (by decide) rfl
        have hFc := va_free (wc := [(q3, .inr (4, [.ref q1, .ref q2, .ref q7, .int fp1])), (q2, .inr (3, [.ref q6, .int (nI (wn st))])), (q6, .inl (gI g, 600, .inl pw1)), (q7, .inr (5, [.ref q1, .ref q8, .ref q9, .ref q10, .int (nI (sn st))])), (q8, .inl (gI g, 40, .inl t1)), (q9, .inl (gI g, 40, .inl t2)), (q10, .inl (gI g, 40, .inl t3))]) hD hS hA [0, 3, 4, 5, 6, 7, 8] rfl
        refine sd_cv (va_runV (As := []) (rest := []) ⟨hx, hb, hml, hown, hts⟩ (c_Rdr_forget l g q3 q1 q2 q7 q6 q8 q9 q10 fp1 (nI (wn st)) (nI (sn st)) pw1 t1 t2 t3 H.size) (cwV 0 hts (sd_gV k_180 k_182 k_0 k_26 k_183) rfl rfl rfl (by decide +kernel) ⟨Nat.le_of_ble_eq_true rfl, Nat.le_of_ble_eq_true rfl⟩) (sd_preVU hK hE hS hA0 hs0 hPc hDc rfl rfl) rfl rfl hl.1 rfl (lv_room (Nat.le_of_ble_eq_true rfl)) d_Rdr_assemble_157 ⟨Nat.zero_le _, Nat.zero_le _⟩) hS hFc (fun u H1 locs hw hP1 hD1 hk1 hS => ?_)
        obtain ⟨hP, hD⟩ := va_join (wr := [(q1, .inr (6, [.ref q5, .int (nI n)])), (q5, .inl (gB g, 2000, .inl f))]) (w1 := [(q3, .inr (4, [.ref q1, .ref q2, .ref q7, .int fp1])), (q2, .inr (3, [.ref q6, .int (nI 0)])), (q6, .inl (gI g, 600, .inl pw1)), (q7, .inr (5, [.ref q1, .ref q8, .ref q9, .ref q10, .int (nI 0)])), (q8, .inl (gI g, 40, .inl t1)), (q9, .inl (gI g, 40, .inl t2)), (q10, .inl (gI g, 40, .inl t3))]) hP hD [0, 3, 4, 5, 6, 7, 8] [1, 2] rfl rfl (by decide) (by decide) hk1 hFc hP1 hD1
        clear hPc hDc hFc hk1 hP1 hD1
        generalize H1 = H at hP hS ⊢
        have hP : sdP g [(q1, .inr (6, [.ref q5, .int (nI n)])), (q5, .inl (gB g, 2000, .inl f)), (q3, .inr (4, [.ref q1, .ref q2, .ref q7, .int fp1])), (q2, .inr (3, [.ref q6, .int (nI 0)])), (q6, .inl (gI g, 600, .inl pw1)), (q7, .inr (5, [.ref q1, .ref q8, .ref q9, .ref q10, .int (nI 0)])), (q8, .inl (gI g, 40, .inl t1)), (q9, .inl (gI g, 40, .inl t2)), (q10, .inl (gI g, 40, .inl t3))] H := hP
        have hD : va_D A [(q1, .inr (6, [.ref q5, .int (nI n)])), (q5, .inl (gB g, 2000, .inl f)), (q3, .inr (4, [.ref q1, .ref q2, .ref q7, .int fp1])), (q2, .inr (3, [.ref q6, .int (nI 0)])), (q6, .inl (gI g, 600, .inl pw1)), (q7, .inr (5, [.ref q1, .ref q8, .ref q9, .ref q10, .int (nI 0)])), (q8, .inl (gI g, 40, .inl t1)), (q9, .inl (gI g, 40, .inl t2)), (q10, .inl (gI g, 40, .inl t3))] := hD
        refine lv_iload_n hx hb d_Rdr_assemble_160 rfl (lv_at hl 3 rfl) ?_
        have hP9 := hP.sub (ws' := [(q3, .inr (4, [.ref q1, .ref q2, .ref q7, .int fp1])), (q1, .inr (6, [.ref q5, .int (nI n)])), (q5, .inl (gB g, 2000, .inl f)), (q2, .inr (3, [.ref q6, .int (nI 0)])), (q6, .inl (gI g, 600, .inl pw1)), (q7, .inr (5, [.ref q1, .ref q8, .ref q9, .ref q10, .int (nI 0)])), (q8, .inl (gI g, 40, .inl t1)), (q9, .inl (gI g, 40, .inl t2)), (q10, .inl (gI g, 40, .inl t3))]) [2, 0, 1, 3, 4, 5, 6, 7, 8] rfl
        have hD9 := hD.sub (ws' := [(q3, .inr (4, [.ref q1, .ref q2, .ref q7, .int fp1])), (q1, .inr (6, [.ref q5, .int (nI n)])), (q5, .inl (gB g, 2000, .inl f)), (q2, .inr (3, [.ref q6, .int (nI 0)])), (q6, .inl (gI g, 600, .inl pw1)), (q7, .inr (5, [.ref q1, .ref q8, .ref q9, .ref q10, .int (nI 0)])), (q8, .inl (gI g, 40, .inl t1)), (q9, .inl (gI g, 40, .inl t2)), (q10, .inl (gI g, 40, .inl t3))]) [2, 0, 1, 3, 4, 5, 6, 7, 8] (by decide) rfl
        exact W.iret (v := (nI cc)) hx hb hr (fun t ht hW => ⟨⟨_, (0, pw1, fp1, 0, t1, t2, t3), rfl, by
            rw [hRes]
            exact ⟨rfl, fun h => absurd h hc0, fun _ => ⟨hfp, rfl, rfl⟩⟩, by rw [ht]; exact hP9, by rw [hAe]; exact hD9⟩, hS.F ht⟩) hS.2.2 d_Rdr_assemble_161
      · have c6 := (nI_eq (b := 0) (by omega) (by omega)).mp c6
        exact absurd c6 hc0
  · have c3 := mt (nI_leI (by omega) (by omega)).mpr c3
    have hi : i < n := by omega
    refine lv_iload_n hx hb d_Rdr_assemble_30 rfl (lv_at hl 3 rfl) ?_
    refine lv_if_ne (tgt := 145) hx hb d_Rdr_assemble_31 (by decide) (fun c8 => ?_) (fun c8 => ?_)
    · have c8 := mt (nI_eq (b := 0) (by omega) (by omega)).mpr c8
      obtain ⟨k, hfp, hRes⟩ : ∃ k, fp1 = nI k ∧ asm tx n (n + 1) 0 0 E0 = (cc, k, st) := hR.elim (fun h => absurd h.1 c8) (fun h => h.2)
      have hc0 := c8
      refine lv_iload_n hx hb d_Rdr_assemble_145 rfl (lv_at hl 3 rfl) ?_
      refine lv_if_ne (tgt := 156) hx hb d_Rdr_assemble_146 (by decide) (fun c9 => ?_) (fun c9 => ?_)
      · have c9 := mt (nI_eq (b := 0) (by omega) (by omega)).mpr c9
        refine lv_aload_n hx hb d_Rdr_assemble_156 rfl (lv_at hl 4 rfl) ?_
        have hPc := hP.sub (ws' := [(q3, .inr (4, [.ref q1, .ref q2, .ref q7, .int fp1])), (q2, .inr (3, [.ref q6, .int (nI (wn st))])), (q6, .inl (gI g, 600, .inl pw1)), (q7, .inr (5, [.ref q1, .ref q8, .ref q9, .ref q10, .int (nI (sn st))])), (q8, .inl (gI g, 40, .inl t1)), (q9, .inl (gI g, 40, .inl t2)), (q10, .inl (gI g, 40, .inl t3))]) [0, 3, 4, 5, 6, 7, 8] rfl
        have hDc := hD.sub (ws' := [(q3, .inr (4, [.ref q1, .ref q2, .ref q7, .int fp1])), (q2, .inr (3, [.ref q6, .int (nI (wn st))])), (q6, .inl (gI g, 600, .inl pw1)), (q7, .inr (5, [.ref q1, .ref q8, .ref q9, .ref q10, .int (nI (sn st))])), (q8, .inl (gI g, 40, .inl t1)), (q9, .inl (gI g, 40, .inl t2)), (q10, .inl (gI g, 40, .inl t3))]) [0, 3, 4, 5, 6, 7, 8] (by decide) rfl
        have hFc := va_free (wc := [(q3, .inr (4, [.ref q1, .ref q2, .ref q7, .int fp1])), (q2, .inr (3, [.ref q6, .int (nI (wn st))])), (q6, .inl (gI g, 600, .inl pw1)), (q7, .inr (5, [.ref q1, .ref q8, .ref q9, .ref q10, .int (nI (sn st))])), (q8, .inl (gI g, 40, .inl t1)), (q9, .inl (gI g, 40, .inl t2)), (q10, .inl (gI g, 40, .inl t3))]) hD hS hA [0, 3, 4, 5, 6, 7, 8] rfl
        refine sd_cv (va_runV (As := []) (rest := []) ⟨hx, hb, hml, hown, hts⟩ (c_Rdr_forget l g q3 q1 q2 q7 q6 q8 q9 q10 fp1 (nI (wn st)) (nI (sn st)) pw1 t1 t2 t3 H.size) (cwV 0 hts (sd_gV k_180 k_182 k_0 k_26 k_183) rfl rfl rfl (by decide +kernel) ⟨Nat.le_of_ble_eq_true rfl, Nat.le_of_ble_eq_true rfl⟩) (sd_preVU hK hE hS hA0 hs0 hPc hDc rfl rfl) rfl rfl hl.1 rfl (lv_room (Nat.le_of_ble_eq_true rfl)) d_Rdr_assemble_157 ⟨Nat.zero_le _, Nat.zero_le _⟩) hS hFc (fun u H1 locs hw hP1 hD1 hk1 hS => ?_)
        obtain ⟨hP, hD⟩ := va_join (wr := [(q1, .inr (6, [.ref q5, .int (nI n)])), (q5, .inl (gB g, 2000, .inl f))]) (w1 := [(q3, .inr (4, [.ref q1, .ref q2, .ref q7, .int fp1])), (q2, .inr (3, [.ref q6, .int (nI 0)])), (q6, .inl (gI g, 600, .inl pw1)), (q7, .inr (5, [.ref q1, .ref q8, .ref q9, .ref q10, .int (nI 0)])), (q8, .inl (gI g, 40, .inl t1)), (q9, .inl (gI g, 40, .inl t2)), (q10, .inl (gI g, 40, .inl t3))]) hP hD [0, 3, 4, 5, 6, 7, 8] [1, 2] rfl rfl (by decide) (by decide) hk1 hFc hP1 hD1
        clear hPc hDc hFc hk1 hP1 hD1
        generalize H1 = H at hP hS ⊢
        have hP : sdP g [(q1, .inr (6, [.ref q5, .int (nI n)])), (q5, .inl (gB g, 2000, .inl f)), (q3, .inr (4, [.ref q1, .ref q2, .ref q7, .int fp1])), (q2, .inr (3, [.ref q6, .int (nI 0)])), (q6, .inl (gI g, 600, .inl pw1)), (q7, .inr (5, [.ref q1, .ref q8, .ref q9, .ref q10, .int (nI 0)])), (q8, .inl (gI g, 40, .inl t1)), (q9, .inl (gI g, 40, .inl t2)), (q10, .inl (gI g, 40, .inl t3))] H := hP
        have hD : va_D A [(q1, .inr (6, [.ref q5, .int (nI n)])), (q5, .inl (gB g, 2000, .inl f)), (q3, .inr (4, [.ref q1, .ref q2, .ref q7, .int fp1])), (q2, .inr (3, [.ref q6, .int (nI 0)])), (q6, .inl (gI g, 600, .inl pw1)), (q7, .inr (5, [.ref q1, .ref q8, .ref q9, .ref q10, .int (nI 0)])), (q8, .inl (gI g, 40, .inl t1)), (q9, .inl (gI g, 40, .inl t2)), (q10, .inl (gI g, 40, .inl t3))] := hD
        refine lv_iload_n hx hb d_Rdr_assemble_160 rfl (lv_at hl 3 rfl) ?_
        have hP9 := hP.sub (ws' := [(q3, .inr (4, [.ref q1, .ref q2, .ref q7, .int fp1])), (q1, .inr (6, [.ref q5, .int (nI n)])), (q5, .inl (gB g, 2000, .inl f)), (q2, .inr (3, [.ref q6, .int (nI 0)])), (q6, .inl (gI g, 600, .inl pw1)), (q7, .inr (5, [.ref q1, .ref q8, .ref q9, .ref q10, .int (nI 0)])), (q8, .inl (gI g, 40, .inl t1)), (q9, .inl (gI g, 40, .inl t2)), (q10, .inl (gI g, 40, .inl t3))]) [2, 0, 1, 3, 4, 5, 6, 7, 8] rfl
        have hD9 := hD.sub (ws' := [(q3, .inr (4, [.ref q1, .ref q2, .ref q7, .int fp1])), (q1, .inr (6, [.ref q5, .int (nI n)])), (q5, .inl (gB g, 2000, .inl f)), (q2, .inr (3, [.ref q6, .int (nI 0)])), (q6, .inl (gI g, 600, .inl pw1)), (q7, .inr (5, [.ref q1, .ref q8, .ref q9, .ref q10, .int (nI 0)])), (q8, .inl (gI g, 40, .inl t1)), (q9, .inl (gI g, 40, .inl t2)), (q10, .inl (gI g, 40, .inl t3))]) [2, 0, 1, 3, 4, 5, 6, 7, 8] (by decide) rfl
        exact W.iret (v := (nI cc)) hx hb hr (fun t ht hW => ⟨⟨_, (0, pw1, fp1, 0, t1, t2, t3), rfl, by
            rw [hRes]
            exact ⟨rfl, fun h => absurd h hc0, fun _ => ⟨hfp, rfl, rfl⟩⟩, by rw [ht]; exact hP9, by rw [hAe]; exact hD9⟩, hS.F ht⟩) hS.2.2 d_Rdr_assemble_161
      · have c9 := (nI_eq (b := 0) (by omega) (by omega)).mp c9
        exact absurd c9 hc0
    · have c8 := (nI_eq (b := 0) (by omega) (by omega)).mp c8
      obtain ⟨hfp, f0, hf0, hRes⟩ := hR.elim (fun h => h.2) (fun h => absurd c8 h.1)
      have hc0 : cc = 0 := c8
      refine lv_iload hx hb d_Rdr_assemble_34 (lv_at hl 0 rfl) ?_
      refine lv_iload_n hx hb d_Rdr_assemble_36 rfl (lv_at hl 1 rfl) ?_
      refine lv_icmp_lt (tgt := 139) hx hb d_Rdr_assemble_37 (by decide) (fun c11 => ?_) (fun c11 => ?_)
      · have c11 := (nI_ltI (by omega) (by omega)).mp c11
        refine lv_iinc (v := (nI (i + 1))) (lv' := [(4, .int (nI (i + 1))), (3, .int (nI bh)), (2, .int (nI h9)), (1, .int (nI cc)), (0, .ref q3)]) hx hb d_Rdr_assemble_139 hl (k := 0) rfl (nI_1 _) (by decide) rfl (fun ls hl => ?_)
        refine lv_goto (tgt := 18) hx hb d_Rdr_assemble_142 (by decide) ?_
        exact ih (H, locs, ls, i + 1, bh, h9, cc, fp1, st, pw1, t1, t2, t3) ⟨lv_sub hl [0, 1, 2, 3, 4] rfl, hP.sub [0, 1, 2, 3, 4, 5, 6, 7, 8] rfl, hD.sub [0, 1, 2, 3, 4, 5, 6, 7, 8] (by decide) rfl, hS, by omega, h2, hPR, hSR, hc3, hh1, Or.inl ⟨hc0, hfp, f0, by
            have e9 : (if i + 1 < bh then bh else i + 1) = (if i < bh then bh else i) := by rw [if_pos c11]; split <;> omega
            rw [e9]; exact ⟨hf0, hRes⟩⟩⟩ (show n - (i + 1) < n - i by omega)
      · have c11 := mt (nI_ltI (by omega) (by omega)).mpr c11
        have eP : (if i < bh then bh else i) = i := if_neg c11
        rw [eP] at hf0 hRes
        obtain ⟨f1, rfl⟩ : ∃ f1, f0 = f1 + 1 := ⟨f0 - 1, by omega⟩
        refine lv_aload_n hx hb d_Rdr_assemble_40 rfl (lv_at hl 4 rfl) ?_
        refine va_get (D := g.1) (ci := 4) (v := .ref q1) (C := "SignDesk$Reader") (T := F_Rdr) (N := 4) hx hb hts in_Rdr hown hK hP 0 rfl rfl 0 (by decide) (hts _ k_101) (fun _ h9 => h9) rfl d_Rdr_assemble_41 ?_
        refine lv_iload hx hb d_Rdr_assemble_44 (lv_at hl 0 rfl) ?_
        refine sd_ri (va_runV (As := [.int (nI i)]) (rest := []) ⟨hx, hb, hml, hown, hts⟩ (c_Txt_isBlank l g q1 q5 n f tx hT i (by omega)) (cwV 1 hts (sd_gV k_196 k_197 k_198 k_24 k_199) rfl rfl rfl (by decide +kernel) ⟨Nat.le_of_ble_eq_true rfl, Nat.le_of_ble_eq_true rfl⟩) (sd_preV hK hE (sd_fr hS hA0) (hP.sub (ws' := [(q1, .inr (6, [.ref q5, .int (nI n)])), (q5, .inl (gB g, 2000, .inl f))]) [1, 2] rfl) rfl rfl) rfl rfl hl.1 rfl (lv_room (Nat.le_of_ble_eq_true rfl)) d_Rdr_assemble_46 ⟨Nat.zero_le _, Nat.zero_le _⟩) (fun r12 er12 => ?_)
        subst er12
        refine lv_if_eq (tgt := 55) hx hb d_Rdr_assemble_49 (by decide) (fun c13 => ?_) (fun c13 => ?_)
        · have c13 := sb_eq0.mp c13
          refine lv_aload_n hx hb d_Rdr_assemble_55 rfl (lv_at hl 4 rfl) ?_
          refine va_get (D := g.1) (ci := 4) (v := .ref q1) (C := "SignDesk$Reader") (T := F_Rdr) (N := 4) hx hb hts in_Rdr hown hK hP 0 rfl rfl 0 (by decide) (hts _ k_101) (fun _ h9 => h9) rfl d_Rdr_assemble_56 ?_
          refine lv_iload hx hb d_Rdr_assemble_59 (lv_at hl 0 rfl) ?_
          refine sd_ri (va_runV (As := [.int (nI i)]) (rest := []) ⟨hx, hb, hml, hown, hts⟩ (c_Txt_isLineEnd l g q1 q5 n f tx hT i (by omega)) (cwV 1 hts (sd_gV k_204 k_205 k_206 k_24 k_207) rfl rfl rfl (by decide +kernel) ⟨Nat.le_of_ble_eq_true rfl, Nat.le_of_ble_eq_true rfl⟩) (sd_preV hK hE (sd_fr hS hA0) (hP.sub (ws' := [(q1, .inr (6, [.ref q5, .int (nI n)])), (q5, .inl (gB g, 2000, .inl f))]) [1, 2] rfl) rfl rfl) rfl rfl hl.1 rfl (lv_room (Nat.le_of_ble_eq_true rfl)) d_Rdr_assemble_61 ⟨Nat.zero_le _, Nat.zero_le _⟩) (fun r14 er14 => ?_)
          subst er14
          refine lv_if_eq (tgt := 72) hx hb d_Rdr_assemble_64 (by decide) (fun c15 => ?_) (fun c15 => ?_)
          · have c15 := sb_eq0.mp c15
            refine lv_aload_n hx hb d_Rdr_assemble_72 rfl (lv_at hl 4 rfl) ?_
            refine va_get (D := g.1) (ci := 4) (v := .ref q1) (C := "SignDesk$Reader") (T := F_Rdr) (N := 4) hx hb hts in_Rdr hown hK hP 0 rfl rfl 0 (by decide) (hts _ k_101) (fun _ h9 => h9) rfl d_Rdr_assemble_73 ?_
            refine lv_iload hx hb d_Rdr_assemble_76 (lv_at hl 0 rfl) ?_
            refine sd_ri (va_runV (As := [.int (nI i)]) (rest := []) ⟨hx, hb, hml, hown, hts⟩ (c_Txt_isComment l g q1 q5 n f tx hT i (by omega)) (cwV 1 hts (sd_gV k_208 k_209 k_210 k_24 k_211) rfl rfl rfl (by decide +kernel) ⟨Nat.le_of_ble_eq_true rfl, Nat.le_of_ble_eq_true rfl⟩) (sd_preV hK hE (sd_fr hS hA0) (hP.sub (ws' := [(q1, .inr (6, [.ref q5, .int (nI n)])), (q5, .inl (gB g, 2000, .inl f))]) [1, 2] rfl) rfl rfl) rfl rfl hl.1 rfl (lv_room (Nat.le_of_ble_eq_true rfl)) d_Rdr_assemble_78 ⟨Nat.zero_le _, Nat.zero_le _⟩) (fun r16 er16 => ?_)
            subst er16
            refine lv_if_eq (tgt := 97) hx hb d_Rdr_assemble_81 (by decide) (fun c17 => ?_) (fun c17 => ?_)
            · have c17 := sb_eq0.mp c17
              have hns : ¬ isSt tx i := fun q => q.elim c15 (fun q => q.elim c13 c17)
              refine lv_aload_n hx hb d_Rdr_assemble_97 rfl (lv_at hl 4 rfl) ?_
              refine va_get (D := g.1) (ci := 4) (v := .ref q1) (C := "SignDesk$Reader") (T := F_Rdr) (N := 4) hx hb hts in_Rdr hown hK hP 0 rfl rfl 0 (by decide) (hts _ k_101) (fun _ h9 => h9) rfl d_Rdr_assemble_98 ?_
              refine lv_iload hx hb d_Rdr_assemble_101 (lv_at hl 0 rfl) ?_
              refine sd_ri (va_runV (As := [.int (nI i)]) (rest := []) ⟨hx, hb, hml, hown, hts⟩ (c_Txt_endOfInstruction l g q1 q5 n f tx hT i (by omega)) (cwV 1 hts (sd_gV k_217 k_218 k_219 k_24 k_220) rfl rfl rfl (by decide +kernel) ⟨Nat.le_of_ble_eq_true rfl, Nat.le_of_ble_eq_true rfl⟩) (sd_preV hK hE (sd_fr hS hA0) (hP.sub (ws' := [(q1, .inr (6, [.ref q5, .int (nI n)])), (q5, .inl (gB g, 2000, .inl f))]) [1, 2] rfl) rfl rfl) rfl rfl hl.1 rfl (lv_room (Nat.le_of_ble_eq_true rfl)) d_Rdr_assemble_103 ⟨Nat.zero_le _, Nat.zero_le _⟩) (fun r18 er18 => ?_)
              obtain ⟨z9, rfl, k1, k2, k3, k4⟩ := er18
              have k5 : i < z9 := by
                rcases Nat.lt_or_ge i z9 with q | q
                · exact q
                · have : z9 = i := by omega
                  subst this; exact absurd k4 hns
              refine lv_istore_n (lv' := [(3, .int (nI z9)), (4, .int (nI i)), (2, .int (nI h9)), (1, .int (nI cc)), (0, .ref q3)]) hx hb d_Rdr_assemble_106 rfl hl (by decide) rfl (fun ls hl => ?_)
              refine lv_iload_n hx hb d_Rdr_assemble_107 rfl (lv_at hl 2 rfl) ?_
              refine lv_if_eq (tgt := 115) hx hb d_Rdr_assemble_108 (by decide) (fun c19 => ?_) (fun c19 => ?_)
              · have c19 := (nI_eq (b := 0) (by omega) (by omega)).mp c19
                have hh0 : h9 = 0 := c19
                refine lv_aload_n hx hb d_Rdr_assemble_115 rfl (lv_at hl 4 rfl) ?_
                refine lv_iload hx hb d_Rdr_assemble_116 (lv_at hl 1 rfl) ?_
                refine lv_iload_n hx hb d_Rdr_assemble_118 rfl (lv_at hl 0 rfl) ?_
                have hPc := hP.sub (ws' := [(q3, .inr (4, [.ref q1, .ref q2, .ref q7, .int fp1])), (q1, .inr (6, [.ref q5, .int (nI n)])), (q5, .inl (gB g, 2000, .inl f)), (q2, .inr (3, [.ref q6, .int (nI (wn st))])), (q6, .inl (gI g, 600, .inl pw1)), (q7, .inr (5, [.ref q1, .ref q8, .ref q9, .ref q10, .int (nI (sn st))])), (q8, .inl (gI g, 40, .inl t1)), (q9, .inl (gI g, 40, .inl t2)), (q10, .inl (gI g, 40, .inl t3))]) [0, 1, 2, 3, 4, 5, 6, 7, 8] rfl
                have hDc := hD.sub (ws' := [(q3, .inr (4, [.ref q1, .ref q2, .ref q7, .int fp1])), (q1, .inr (6, [.ref q5, .int (nI n)])), (q5, .inl (gB g, 2000, .inl f)), (q2, .inr (3, [.ref q6, .int (nI (wn st))])), (q6, .inl (gI g, 600, .inl pw1)), (q7, .inr (5, [.ref q1, .ref q8, .ref q9, .ref q10, .int (nI (sn st))])), (q8, .inl (gI g, 40, .inl t1)), (q9, .inl (gI g, 40, .inl t2)), (q10, .inl (gI g, 40, .inl t3))]) [0, 1, 2, 3, 4, 5, 6, 7, 8] (by decide) rfl
                have hFc := va_free (wc := [(q3, .inr (4, [.ref q1, .ref q2, .ref q7, .int fp1])), (q1, .inr (6, [.ref q5, .int (nI n)])), (q5, .inl (gB g, 2000, .inl f)), (q2, .inr (3, [.ref q6, .int (nI (wn st))])), (q6, .inl (gI g, 600, .inl pw1)), (q7, .inr (5, [.ref q1, .ref q8, .ref q9, .ref q10, .int (nI (sn st))])), (q8, .inl (gI g, 40, .inl t1)), (q9, .inl (gI g, 40, .inl t2)), (q10, .inl (gI g, 40, .inl t3))]) hD hS hA [0, 1, 2, 3, 4, 5, 6, 7, 8] rfl
                refine sd_ci (va_runV (As := [.int (nI i), .int (nI z9)]) (rest := []) ⟨hx, hb, hml, hown, hts⟩ (c_Rdr_take l g q3 q1 q2 q7 q5 q6 q8 q9 q10 n fp1 f tx hT st pw1 t1 t2 t3 hPR hSR i z9 k5 (by omega) H.size) (cwV 2 hts (sd_gV k_223 k_225 k_1 k_26 k_226) rfl rfl rfl (by decide +kernel) ⟨Nat.le_of_ble_eq_true rfl, Nat.le_of_ble_eq_true rfl⟩) (sd_preVU hK hE hS hA0 hs0 hPc hDc rfl rfl) rfl rfl hl.1 rfl (lv_room (Nat.le_of_ble_eq_true rfl)) d_Rdr_assemble_119 ⟨Nat.zero_le _, Nat.zero_le _⟩) hS hFc (fun r20 u H1 locs hw hP1 hD1 hk1 hS => ?_)
                obtain ⟨st1, p1, u1, u2, u3⟩ := u
                obtain ⟨hP, hD⟩ := va_join (wr := []) (w1 := [(q3, .inr (4, [.ref q1, .ref q2, .ref q7, .int fp1])), (q1, .inr (6, [.ref q5, .int (nI n)])), (q5, .inl (gB g, 2000, .inl f)), (q2, .inr (3, [.ref q6, .int (nI (wn st1))])), (q6, .inl (gI g, 600, .inl p1)), (q7, .inr (5, [.ref q1, .ref q8, .ref q9, .ref q10, .int (nI (sn st1))])), (q8, .inl (gI g, 40, .inl u1)), (q9, .inl (gI g, 40, .inl u2)), (q10, .inl (gI g, 40, .inl u3))]) hP hD [0, 1, 2, 3, 4, 5, 6, 7, 8] [] rfl rfl (by decide) (by decide) hk1 hFc hP1 hD1
                clear hPc hDc hFc hk1 hP1 hD1
                generalize H1 = H at hP hS ⊢
                have hP : sdP g [(q3, .inr (4, [.ref q1, .ref q2, .ref q7, .int fp1])), (q1, .inr (6, [.ref q5, .int (nI n)])), (q5, .inl (gB g, 2000, .inl f)), (q2, .inr (3, [.ref q6, .int (nI (wn st1))])), (q6, .inl (gI g, 600, .inl p1)), (q7, .inr (5, [.ref q1, .ref q8, .ref q9, .ref q10, .int (nI (sn st1))])), (q8, .inl (gI g, 40, .inl u1)), (q9, .inl (gI g, 40, .inl u2)), (q10, .inl (gI g, 40, .inl u3))] H := hP
                have hD : va_D A [(q3, .inr (4, [.ref q1, .ref q2, .ref q7, .int fp1])), (q1, .inr (6, [.ref q5, .int (nI n)])), (q5, .inl (gB g, 2000, .inl f)), (q2, .inr (3, [.ref q6, .int (nI (wn st1))])), (q6, .inl (gI g, 600, .inl p1)), (q7, .inr (5, [.ref q1, .ref q8, .ref q9, .ref q10, .int (nI (sn st1))])), (q8, .inl (gI g, 40, .inl u1)), (q9, .inl (gI g, 40, .inl u2)), (q10, .inl (gI g, 40, .inl u3))] := hD
                obtain ⟨⟨c9, hc9, er20⟩, hPR1, hSR1⟩ := hw
                subst er20
                have hc9 : spTake tx i z9 st = (c9, st1) := hc9
                have hPR1 : PR st1 p1 := hPR1
                have hSR1 : SR st1 u1 u2 u3 := hSR1
                have hc93 : c9 ≤ 3 := by have h := spTake_3 (tx := tx) (a := i) (e := z9) (st := st); rw [hc9] at h; exact h
                rw [hh0] at hRes
                have hRes := hRes.trans (asm_take (f := f1) hi hns k1 k2 k3 k4 hc9)
                refine lv_istore_n (lv' := [(1, .int (nI c9)), (3, .int (nI z9)), (4, .int (nI i)), (2, .int (nI h9)), (0, .ref q3)]) hx hb d_Rdr_assemble_122 rfl hl (by decide) rfl (fun ls hl => ?_)
                refine lv_aload_n hx hb d_Rdr_assemble_123 rfl (lv_at hl 4 rfl) ?_
                refine lv_iload_n hx hb d_Rdr_assemble_124 rfl (lv_at hl 0 rfl) ?_
                refine lv_if_ne (tgt := 132) hx hb d_Rdr_assemble_125 (by decide) (fun c21 => ?_) (fun c21 => ?_)
                · have c21 := mt (nI_eq (b := 0) (by omega) (by omega)).mpr c21
                  rw [if_neg c21] at hRes
                  refine lv_iload hx hb d_Rdr_assemble_132 (lv_at hl 2 rfl) ?_
                  refine va_put (D := g.1) (ci := 4) (v := .int (nI i)) (ty := .int) (C := "SignDesk$Reader") (T := F_Rdr) (N := 4) hx hb hts in_Rdr t_Rdr t_Rdr_ok n_Rdr hown hK hP hD hS 0 rfl rfl 3 (by decide) (hts _ k_104) (fun _ h9 => h9) rfl (by decide +kernel) rfl rfl (Nat.le_of_ble_eq_true rfl) d_Rdr_assemble_134 (fun H locs hP hD hS => ?_)
                  have hP : sdP g [(q3, .inr (4, [.ref q1, .ref q2, .ref q7, .int (nI i)])), (q1, .inr (6, [.ref q5, .int (nI n)])), (q5, .inl (gB g, 2000, .inl f)), (q2, .inr (3, [.ref q6, .int (nI (wn st1))])), (q6, .inl (gI g, 600, .inl p1)), (q7, .inr (5, [.ref q1, .ref q8, .ref q9, .ref q10, .int (nI (sn st1))])), (q8, .inl (gI g, 40, .inl u1)), (q9, .inl (gI g, 40, .inl u2)), (q10, .inl (gI g, 40, .inl u3))] H := hP
                  have hD : va_D A [(q3, .inr (4, [.ref q1, .ref q2, .ref q7, .int (nI i)])), (q1, .inr (6, [.ref q5, .int (nI n)])), (q5, .inl (gB g, 2000, .inl f)), (q2, .inr (3, [.ref q6, .int (nI (wn st1))])), (q6, .inl (gI g, 600, .inl p1)), (q7, .inr (5, [.ref q1, .ref q8, .ref q9, .ref q10, .int (nI (sn st1))])), (q8, .inl (gI g, 40, .inl u1)), (q9, .inl (gI g, 40, .inl u2)), (q10, .inl (gI g, 40, .inl u3))] := hD
                  refine lv_iconst (v := (nI 1)) hx hb d_Rdr_assemble_137 (by decide) ?_
                  refine lv_istore_n (lv' := [(2, .int (nI 1)), (1, .int (nI c9)), (3, .int (nI z9)), (4, .int (nI i)), (0, .ref q3)]) hx hb d_Rdr_assemble_138 rfl hl (by decide) rfl (fun ls hl => ?_)
                  refine lv_iinc (v := (nI (i + 1))) (lv' := [(4, .int (nI (i + 1))), (2, .int (nI 1)), (1, .int (nI c9)), (3, .int (nI z9)), (0, .ref q3)]) hx hb d_Rdr_assemble_139 hl (k := 3) rfl (nI_1 _) (by decide) rfl (fun ls hl => ?_)
                  refine lv_goto (tgt := 18) hx hb d_Rdr_assemble_142 (by decide) ?_
                  exact ih (H, locs, ls, i + 1, z9, 1, c9, nI i, st1, p1, u1, u2, u3) ⟨lv_sub hl [0, 3, 1, 2, 4] rfl, hP.sub [0, 1, 2, 3, 4, 5, 6, 7, 8] rfl, hD.sub [0, 1, 2, 3, 4, 5, 6, 7, 8] (by decide) rfl, hS, by omega, k2, hPR1, hSR1, hc93, by decide, Or.inr ⟨c21, i, rfl, hRes⟩⟩ (show n - (i + 1) < n - i by omega)
                · have c21 := (nI_eq (b := 0) (by omega) (by omega)).mp c21
                  rw [if_pos c21] at hRes
                  refine lv_iconst (v := (-1)) hx hb d_Rdr_assemble_128 (by decide) ?_
                  refine lv_goto (tgt := 134) hx hb d_Rdr_assemble_129 (by decide) ?_
                  refine va_put (D := g.1) (ci := 4) (v := .int (-1)) (ty := .int) (C := "SignDesk$Reader") (T := F_Rdr) (N := 4) hx hb hts in_Rdr t_Rdr t_Rdr_ok n_Rdr hown hK hP hD hS 0 rfl rfl 3 (by decide) (hts _ k_104) (fun _ h9 => h9) rfl (by decide +kernel) rfl rfl (Nat.le_of_ble_eq_true rfl) d_Rdr_assemble_134 (fun H locs hP hD hS => ?_)
                  have hP : sdP g [(q3, .inr (4, [.ref q1, .ref q2, .ref q7, .int (-1)])), (q1, .inr (6, [.ref q5, .int (nI n)])), (q5, .inl (gB g, 2000, .inl f)), (q2, .inr (3, [.ref q6, .int (nI (wn st1))])), (q6, .inl (gI g, 600, .inl p1)), (q7, .inr (5, [.ref q1, .ref q8, .ref q9, .ref q10, .int (nI (sn st1))])), (q8, .inl (gI g, 40, .inl u1)), (q9, .inl (gI g, 40, .inl u2)), (q10, .inl (gI g, 40, .inl u3))] H := hP
                  have hD : va_D A [(q3, .inr (4, [.ref q1, .ref q2, .ref q7, .int (-1)])), (q1, .inr (6, [.ref q5, .int (nI n)])), (q5, .inl (gB g, 2000, .inl f)), (q2, .inr (3, [.ref q6, .int (nI (wn st1))])), (q6, .inl (gI g, 600, .inl p1)), (q7, .inr (5, [.ref q1, .ref q8, .ref q9, .ref q10, .int (nI (sn st1))])), (q8, .inl (gI g, 40, .inl u1)), (q9, .inl (gI g, 40, .inl u2)), (q10, .inl (gI g, 40, .inl u3))] := hD
                  refine lv_iconst (v := (nI 1)) hx hb d_Rdr_assemble_137 (by decide) ?_
                  refine lv_istore_n (lv' := [(2, .int (nI 1)), (1, .int (nI c9)), (3, .int (nI z9)), (4, .int (nI i)), (0, .ref q3)]) hx hb d_Rdr_assemble_138 rfl hl (by decide) rfl (fun ls hl => ?_)
                  refine lv_iinc (v := (nI (i + 1))) (lv' := [(4, .int (nI (i + 1))), (2, .int (nI 1)), (1, .int (nI c9)), (3, .int (nI z9)), (0, .ref q3)]) hx hb d_Rdr_assemble_139 hl (k := 3) rfl (nI_1 _) (by decide) rfl (fun ls hl => ?_)
                  refine lv_goto (tgt := 18) hx hb d_Rdr_assemble_142 (by decide) ?_
                  exact ih (H, locs, ls, i + 1, z9, 1, c9, -1, st1, p1, u1, u2, u3) ⟨lv_sub hl [0, 3, 1, 2, 4] rfl, hP.sub [0, 1, 2, 3, 4, 5, 6, 7, 8] rfl, hD.sub [0, 1, 2, 3, 4, 5, 6, 7, 8] (by decide) rfl, hS, by omega, k2, hPR1, hSR1, hc93, by decide, Or.inl ⟨c21, rfl, f1, by
                      have e9 : (if i + 1 < z9 then z9 else i + 1) = z9 := by split <;> omega
                      rw [e9]; exact ⟨by omega, hRes⟩⟩⟩ (show n - (i + 1) < n - i by omega)
              · have c19 := mt (nI_eq (b := 0) (by omega) (by omega)).mpr c19
                have hRes := hRes.trans (asm_had (f := f1) hi hns c19)
                refine lv_iconst (v := (nI 1)) hx hb d_Rdr_assemble_111 (by decide) ?_
                refine lv_goto (tgt := 122) hx hb d_Rdr_assemble_112 (by decide) ?_
                refine lv_istore_n (lv' := [(1, .int (nI 1)), (3, .int (nI z9)), (4, .int (nI i)), (2, .int (nI h9)), (0, .ref q3)]) hx hb d_Rdr_assemble_122 rfl hl (by decide) rfl (fun ls hl => ?_)
                refine lv_aload_n hx hb d_Rdr_assemble_123 rfl (lv_at hl 4 rfl) ?_
                refine lv_iload_n hx hb d_Rdr_assemble_124 rfl (lv_at hl 0 rfl) ?_
                refine lv_if_ne (tgt := 132) hx hb d_Rdr_assemble_125 (by decide) (fun c22 => ?_) (fun c22 => ?_)
                · refine lv_iload hx hb d_Rdr_assemble_132 (lv_at hl 2 rfl) ?_
                  refine va_put (D := g.1) (ci := 4) (v := .int (nI i)) (ty := .int) (C := "SignDesk$Reader") (T := F_Rdr) (N := 4) hx hb hts in_Rdr t_Rdr t_Rdr_ok n_Rdr hown hK hP hD hS 0 rfl rfl 3 (by decide) (hts _ k_104) (fun _ h9 => h9) rfl (by decide +kernel) rfl rfl (Nat.le_of_ble_eq_true rfl) d_Rdr_assemble_134 (fun H locs hP hD hS => ?_)
                  have hP : sdP g [(q3, .inr (4, [.ref q1, .ref q2, .ref q7, .int (nI i)])), (q1, .inr (6, [.ref q5, .int (nI n)])), (q5, .inl (gB g, 2000, .inl f)), (q2, .inr (3, [.ref q6, .int (nI (wn st))])), (q6, .inl (gI g, 600, .inl pw1)), (q7, .inr (5, [.ref q1, .ref q8, .ref q9, .ref q10, .int (nI (sn st))])), (q8, .inl (gI g, 40, .inl t1)), (q9, .inl (gI g, 40, .inl t2)), (q10, .inl (gI g, 40, .inl t3))] H := hP
                  have hD : va_D A [(q3, .inr (4, [.ref q1, .ref q2, .ref q7, .int (nI i)])), (q1, .inr (6, [.ref q5, .int (nI n)])), (q5, .inl (gB g, 2000, .inl f)), (q2, .inr (3, [.ref q6, .int (nI (wn st))])), (q6, .inl (gI g, 600, .inl pw1)), (q7, .inr (5, [.ref q1, .ref q8, .ref q9, .ref q10, .int (nI (sn st))])), (q8, .inl (gI g, 40, .inl t1)), (q9, .inl (gI g, 40, .inl t2)), (q10, .inl (gI g, 40, .inl t3))] := hD
                  refine lv_iconst (v := (nI 1)) hx hb d_Rdr_assemble_137 (by decide) ?_
                  refine lv_istore_n (lv' := [(2, .int (nI 1)), (1, .int (nI 1)), (3, .int (nI z9)), (4, .int (nI i)), (0, .ref q3)]) hx hb d_Rdr_assemble_138 rfl hl (by decide) rfl (fun ls hl => ?_)
                  refine lv_iinc (v := (nI (i + 1))) (lv' := [(4, .int (nI (i + 1))), (2, .int (nI 1)), (1, .int (nI 1)), (3, .int (nI z9)), (0, .ref q3)]) hx hb d_Rdr_assemble_139 hl (k := 3) rfl (nI_1 _) (by decide) rfl (fun ls hl => ?_)
                  refine lv_goto (tgt := 18) hx hb d_Rdr_assemble_142 (by decide) ?_
                  exact ih (H, locs, ls, i + 1, z9, 1, 1, nI i, st, pw1, t1, t2, t3) ⟨lv_sub hl [0, 3, 1, 2, 4] rfl, hP.sub [0, 1, 2, 3, 4, 5, 6, 7, 8] rfl, hD.sub [0, 1, 2, 3, 4, 5, 6, 7, 8] (by decide) rfl, hS, by omega, k2, hPR, hSR, by decide, by decide, Or.inr ⟨by decide, i, rfl, hRes⟩⟩ (show n - (i + 1) < n - i by omega)
                · exact absurd c22 (by decide)
            · have c17 := sb_ne0.mp c17
              refine lv_aload_n hx hb d_Rdr_assemble_84 rfl (lv_at hl 4 rfl) ?_
              refine va_get (D := g.1) (ci := 4) (v := .ref q1) (C := "SignDesk$Reader") (T := F_Rdr) (N := 4) hx hb hts in_Rdr hown hK hP 0 rfl rfl 0 (by decide) (hts _ k_101) (fun _ h9 => h9) rfl d_Rdr_assemble_85 ?_
              refine lv_iload hx hb d_Rdr_assemble_88 (lv_at hl 0 rfl) ?_
              refine sd_ri (va_runV (As := [.int (nI i)]) (rest := []) ⟨hx, hb, hml, hown, hts⟩ (c_Txt_endOfLine l g q1 q5 n f tx hT i (by omega)) (cwV 1 hts (sd_gV k_212 k_213 k_214 k_24 k_215) rfl rfl rfl (by decide +kernel) ⟨Nat.le_of_ble_eq_true rfl, Nat.le_of_ble_eq_true rfl⟩) (sd_preV hK hE (sd_fr hS hA0) (hP.sub (ws' := [(q1, .inr (6, [.ref q5, .int (nI n)])), (q5, .inl (gB g, 2000, .inl f))]) [1, 2] rfl) rfl rfl) rfl rfl hl.1 rfl (lv_room (Nat.le_of_ble_eq_true rfl)) d_Rdr_assemble_90 ⟨Nat.zero_le _, Nat.zero_le _⟩) (fun r23 er23 => ?_)
              obtain ⟨z9, rfl, k1, k2, k3, k4⟩ := er23
              have k5 : i < z9 := by
                rcases Nat.lt_or_ge i z9 with q | q
                · exact q
                · have : z9 = i := by omega
                  subst this; exact absurd k4 c15
              refine lv_istore_n (lv' := [(3, .int (nI z9)), (4, .int (nI i)), (2, .int (nI h9)), (1, .int (nI cc)), (0, .ref q3)]) hx hb d_Rdr_assemble_93 rfl hl (by decide) rfl (fun ls hl => ?_)
              refine lv_goto (tgt := 139) hx hb d_Rdr_assemble_94 (by decide) ?_
              refine lv_iinc (v := (nI (i + 1))) (lv' := [(4, .int (nI (i + 1))), (3, .int (nI z9)), (2, .int (nI h9)), (1, .int (nI cc)), (0, .ref q3)]) hx hb d_Rdr_assemble_139 hl (k := 1) rfl (nI_1 _) (by decide) rfl (fun ls hl => ?_)
              refine lv_goto (tgt := 18) hx hb d_Rdr_assemble_142 (by decide) ?_
              exact ih (H, locs, ls, i + 1, z9, h9, cc, fp1, st, pw1, t1, t2, t3) ⟨lv_sub hl [0, 1, 2, 3, 4] rfl, hP.sub [0, 1, 2, 3, 4, 5, 6, 7, 8] rfl, hD.sub [0, 1, 2, 3, 4, 5, 6, 7, 8] (by decide) rfl, hS, by omega, k2, hPR, hSR, hc3, hh1, Or.inl ⟨hc0, hfp, f1, by
                  have e9 : (if i + 1 < z9 then z9 else i + 1) = z9 := by split <;> omega
                  rw [e9]; exact ⟨by omega, hRes.trans (asm_cm hi c17 k1 k2 k3 k4)⟩⟩⟩ (show n - (i + 1) < n - i by omega)
          · have c15 := sb_ne0.mp c15
            refine lv_iconst (v := (nI 0)) hx hb d_Rdr_assemble_67 (by decide) ?_
            refine lv_istore_n (lv' := [(2, .int (nI 0)), (4, .int (nI i)), (3, .int (nI bh)), (1, .int (nI cc)), (0, .ref q3)]) hx hb d_Rdr_assemble_68 rfl hl (by decide) rfl (fun ls hl => ?_)
            refine lv_goto (tgt := 139) hx hb d_Rdr_assemble_69 (by decide) ?_
            refine lv_iinc (v := (nI (i + 1))) (lv' := [(4, .int (nI (i + 1))), (2, .int (nI 0)), (3, .int (nI bh)), (1, .int (nI cc)), (0, .ref q3)]) hx hb d_Rdr_assemble_139 hl (k := 1) rfl (nI_1 _) (by decide) rfl (fun ls hl => ?_)
            refine lv_goto (tgt := 18) hx hb d_Rdr_assemble_142 (by decide) ?_
            exact ih (H, locs, ls, i + 1, bh, 0, cc, fp1, st, pw1, t1, t2, t3) ⟨lv_sub hl [0, 2, 1, 3, 4] rfl, hP.sub [0, 1, 2, 3, 4, 5, 6, 7, 8] rfl, hD.sub [0, 1, 2, 3, 4, 5, 6, 7, 8] (by decide) rfl, hS, by omega, h2, hPR, hSR, hc3, by omega, Or.inl ⟨hc0, hfp, f1, by
                have e9 : (if i + 1 < bh then bh else i + 1) = i + 1 := if_neg (by omega)
                rw [e9]; exact ⟨by omega, hRes.trans (asm_nl hi c15)⟩⟩⟩ (show n - (i + 1) < n - i by omega)
        · have c13 := sb_ne0.mp c13
          refine lv_goto (tgt := 139) hx hb d_Rdr_assemble_52 (by decide) ?_
          refine lv_iinc (v := (nI (i + 1))) (lv' := [(4, .int (nI (i + 1))), (3, .int (nI bh)), (2, .int (nI h9)), (1, .int (nI cc)), (0, .ref q3)]) hx hb d_Rdr_assemble_139 hl (k := 0) rfl (nI_1 _) (by decide) rfl (fun ls hl => ?_)
          refine lv_goto (tgt := 18) hx hb d_Rdr_assemble_142 (by decide) ?_
          exact ih (H, locs, ls, i + 1, bh, h9, cc, fp1, st, pw1, t1, t2, t3) ⟨lv_sub hl [0, 1, 2, 3, 4] rfl, hP.sub [0, 1, 2, 3, 4, 5, 6, 7, 8] rfl, hD.sub [0, 1, 2, 3, 4, 5, 6, 7, 8] (by decide) rfl, hS, by omega, h2, hPR, hSR, hc3, hh1, Or.inl ⟨hc0, hfp, f1, by
              have e9 : (if i + 1 < bh then bh else i + 1) = i + 1 := if_neg (by omega)
              rw [e9]; exact ⟨by omega, hRes.trans (asm_bl hi c13)⟩⟩⟩ (show n - (i + 1) < n - i by omega)
end
