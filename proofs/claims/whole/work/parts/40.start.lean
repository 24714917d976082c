abbrev gvL : List Cond := flatC (Jvm.Cond.and given_1 narrow_1)
def gx_sd_KN : List Nat := [7, 8, 9, 10, 11, 12, 13, 14, 15, 16, 17, 18, 19, 20, 21, 22, 23, 24, 25, 26, 27, 28, 29]
set_option maxRecDepth 100000 in
theorem gv_sd_KN : ∀ j, j < 23 → gvL[gx_sd_KN.getD j 0]? = some (Cond.eq (Term.elem (Term.static "SignDesk$Reader" "KNOWN_NUMBERS" "[I") (Term.int (Int32.ofNat j))) (Term.int (sd_KN.getD j 0))) := by decide +kernel
def gx_sd_BA : List Nat := [38, 39, 40, 41, 42, 43, 44, 45, 46, 47, 48, 49, 50, 51, 52, 53, 54, 55]
set_option maxRecDepth 100000 in
theorem gv_sd_BA : ∀ j, j < 18 → gvL[gx_sd_BA.getD j 0]? = some (Cond.eq (Term.elem (Term.static "SignDesk$Reader" "BITS_OF_A" "[I") (Term.int (Int32.ofNat j))) (Term.int (sd_BA.getD j 0))) := by decide +kernel
def gx_sd_BM : List Nat := [59, 60, 61, 62, 63, 64, 65, 66, 67, 68]
set_option maxRecDepth 100000 in
theorem gv_sd_BM : ∀ j, j < 10 → gvL[gx_sd_BM.getD j 0]? = some (Cond.eq (Term.elem (Term.static "SignDesk$Reader" "BITS_OF_M" "[I") (Term.int (Int32.ofNat j))) (Term.int (sd_BM.getD j 0))) := by decide +kernel
def gv_t (i : Nat) : Term := .string "SignDesk$Reader" (([146, 116, 122, 132, 141] : List Nat).getD i 0)
def gx_s0 : List Nat := [73, 74, 75, 76, 77, 78, 79, 80, 81, 82, 83, 84, 85, 86, 87, 88, 89, 90, 91, 92, 93, 94, 95, 96, 97, 98, 99, 100, 101, 102, 103, 104, 105, 106, 107, 108, 109, 110, 111, 112, 113, 114, 115, 116, 117, 118, 119, 120, 121, 122, 123, 124, 125, 126, 127, 128, 129, 130, 131, 132, 133, 134, 135, 136, 137, 138, 139, 140, 141, 142, 143, 144, 145, 146, 147, 148, 149, 150, 151, 152, 153, 154, 155, 156, 157]
set_option maxRecDepth 100000 in
theorem gv_s0 : ∀ j, j < 85 → gvL[gx_s0.getD j 0]? = some (Cond.eq (Term.elem (Term.field (gv_t 0) "java/lang/String" "value" "[B") (Term.int (Int32.ofNat j))) (Term.int ((sd_byt.getD 0 []).getD j 0))) := by decide +kernel
def gx_s1 : List Nat := [162, 163, 164, 165, 166, 167, 168, 169, 170, 171, 172, 173, 174, 175, 176, 177, 178, 179]
set_option maxRecDepth 100000 in
theorem gv_s1 : ∀ j, j < 18 → gvL[gx_s1.getD j 0]? = some (Cond.eq (Term.elem (Term.field (gv_t 1) "java/lang/String" "value" "[B") (Term.int (Int32.ofNat j))) (Term.int ((sd_byt.getD 1 []).getD j 0))) := by decide +kernel
def gx_s2 : List Nat := [185, 186, 187, 188, 189, 190, 191, 192, 193, 194, 195, 196, 197, 198, 199, 200, 201, 202, 203, 204, 205, 206, 207, 208, 209, 210, 211]
set_option maxRecDepth 100000 in
theorem gv_s2 : ∀ j, j < 27 → gvL[gx_s2.getD j 0]? = some (Cond.eq (Term.elem (Term.field (gv_t 2) "java/lang/String" "value" "[B") (Term.int (Int32.ofNat j))) (Term.int ((sd_byt.getD 2 []).getD j 0))) := by decide +kernel
def gx_s3 : List Nat := [218, 219, 220, 221, 222, 223, 224, 225, 226, 227, 228, 229, 230, 231, 232, 233, 234, 235, 236, 237, 238, 239, 240, 241, 242, 243, 244, 245, 246, 247, 248, 249, 250, 251, 252, 253, 254, 255, 256, 257, 258, 259, 260, 261, 262, 263, 264, 265, 266, 267, 268, 269, 270, 271, 272, 273, 274, 275]
set_option maxRecDepth 100000 in
theorem gv_s3 : ∀ j, j < 58 → gvL[gx_s3.getD j 0]? = some (Cond.eq (Term.elem (Term.field (gv_t 3) "java/lang/String" "value" "[B") (Term.int (Int32.ofNat j))) (Term.int ((sd_byt.getD 3 []).getD j 0))) := by decide +kernel
def gx_s4 : List Nat := [283, 284, 285, 286, 287, 288, 289, 290, 291, 292, 293, 294, 295, 296, 297, 298, 299, 300, 301, 302, 303, 304, 305, 306, 307, 308, 309, 310, 311, 312, 313, 314, 315, 316, 317]
set_option maxRecDepth 100000 in
theorem gv_s4 : ∀ j, j < 35 → gvL[gx_s4.getD j 0]? = some (Cond.eq (Term.elem (Term.field (gv_t 4) "java/lang/String" "value" "[B") (Term.int (Int32.ofNat j))) (Term.int ((sd_byt.getD 4 []).getD j 0))) := by decide +kernel
set_option maxHeartbeats 16000000 in
set_option maxRecDepth 100000 in
/-- what the start gives -/
theorem law_g {s : State} {b : Nat} (hts0 : ∀ w ∈ lw_tbl, w.before #[Value.ref b] s = true) (hgv : (Jvm.Cond.and given_1 narrow_1).before #[Value.ref b] s = true) : ∃ g : sdG, gS g = s.heap.size ∧ sdK g s ∧ sdE g s s.heap := by
  have hs : ∀ w ∈ gvL, w.before #[Value.ref b] s = true := flat_of_before _ hgv
  have hts : ∀ w ∈ sdT, w.before #[Value.ref b] s = true := fun w h => hts0 w (sd_all h)
  have hA : ∀ a : Nat, a < s.heap.size → ¬ (fun q => s.heap.size ≤ q) a := fun a h => Nat.not_le.mpr h
  obtain ⟨cc0, ii0, K0⟩ := u_known (C := "SignDesk$Memory") (T := F_Mem) (N := 1) (n := 1) hts in_Mem (hts _ k_121)
  obtain ⟨cc1, ii1, K1⟩ := u_known (C := "SignDesk$Page") (T := F_Pag) (N := 1) (n := 1) hts in_Pag (hts _ k_431)
  obtain ⟨cc2, ii2, K2⟩ := u_known (C := "SignDesk$Processor") (T := F_Prc) (N := 6) (n := 6) hts in_Prc (hts _ k_115)
  obtain ⟨cc3, ii3, K3⟩ := u_known (C := "SignDesk$Program") (T := F_Prg) (N := 2) (n := 2) hts in_Prg (hts _ k_60)
  obtain ⟨cc4, ii4, K4⟩ := u_known (C := "SignDesk$Reader") (T := F_Rdr) (N := 4) (n := 4) hts in_Rdr (hts _ k_74)
  obtain ⟨cc5, ii5, K5⟩ := u_known (C := "SignDesk$Symbols") (T := F_Sym) (N := 5) (n := 5) hts in_Sym (hts _ k_80)
  obtain ⟨cc6, ii6, K6⟩ := u_known (C := "SignDesk$Text") (T := F_Txt) (N := 2) (n := 2) hts in_Txt (hts _ k_46)
  obtain ⟨cc7, ii7, K7⟩ := u_known (C := "SignDesk") (T := F_Dsk) (N := 4) (n := 4) hts in_Dsk (hts _ k_38)
  obtain ⟨cc8, ii8, K8⟩ := u_known (C := "SignDeskModel") (T := F_Mod) (N := 19) (n := 19) hts in_Mod (hts _ k_488)
  obtain ⟨cB, kB, oB, fB, hB, dB⟩ := Cond.arrayClass_spec (hts _ k_58)
  obtain ⟨cI, kI, oI, fI, hI, dI⟩ := Cond.arrayClass_spec (hts _ k_72)
  obtain ⟨cC, kC, oC, fC, hC, dC⟩ := Cond.arrayClass_spec (hts _ k_552)
  obtain ⟨oP, cP, kP, fo, -, hP9, dP, fP⟩ := Cond.arrayOver_spec (n := "SignDesk$Page") (hts0 _ (List.mem_of_getElem? (i := 127) (by decide +kernel)))
  obtain ⟨t1, ht1, hT1⟩ := va_Tof (tm := (Term.static "SignDesk$Reader" "KNOWN_NUMBERS" "[I")) (ty := .int) (N := 23) (f := fun j => .int (sd_KN.getD j 0)) (A := fun q => s.heap.size ≤ q) (by decide) (hs _ (List.mem_of_getElem? (i := 5) (by decide +kernel))) (va_eqt (hs _ (List.mem_of_getElem? (i := 6) (by decide +kernel)))) (fun j hj => va_eqt (hs _ (List.mem_of_getElem? (gv_sd_KN j hj)))) hA
  obtain ⟨t2, ht2, hT2⟩ := va_Tof (tm := (Term.static "SignDesk$Reader" "BITS_OF_A" "[I")) (ty := .int) (N := 18) (f := fun j => .int (sd_BA.getD j 0)) (A := fun q => s.heap.size ≤ q) (by decide) (hs _ (List.mem_of_getElem? (i := 36) (by decide +kernel))) (va_eqt (hs _ (List.mem_of_getElem? (i := 37) (by decide +kernel)))) (fun j hj => va_eqt (hs _ (List.mem_of_getElem? (gv_sd_BA j hj)))) hA
  obtain ⟨t3, ht3, hT3⟩ := va_Tof (tm := (Term.static "SignDesk$Reader" "BITS_OF_M" "[I")) (ty := .int) (N := 10) (f := fun j => .int (sd_BM.getD j 0)) (A := fun q => s.heap.size ≤ q) (by decide) (hs _ (List.mem_of_getElem? (i := 57) (by decide +kernel))) (va_eqt (hs _ (List.mem_of_getElem? (i := 58) (by decide +kernel)))) (fun j hj => va_eqt (hs _ (List.mem_of_getElem? (gv_sd_BM j hj)))) hA
  obtain ⟨adK, adV, hSS, hk⟩ := vk_Sof (N := 5) (tm := gv_t) (len := sd_len) (byt := sd_byt) (A := fun q => s.heap.size ≤ q) (by decide)
    (fun i hi => by
      rcases (show i = 0 ∨ i = 1 ∨ i = 2 ∨ i = 3 ∨ i = 4 by omega) with rfl | rfl | rfl | rfl | rfl
      · exact (hs _ (List.mem_of_getElem? (i := 69) (by decide +kernel)))
      · exact (hs _ (List.mem_of_getElem? (i := 158) (by decide +kernel)))
      · exact (hs _ (List.mem_of_getElem? (i := 181) (by decide +kernel)))
      · exact (hs _ (List.mem_of_getElem? (i := 214) (by decide +kernel)))
      · exact (hs _ (List.mem_of_getElem? (i := 279) (by decide +kernel))))
    (fun i hi => by
      rcases (show i = 0 ∨ i = 1 ∨ i = 2 ∨ i = 3 ∨ i = 4 by omega) with rfl | rfl | rfl | rfl | rfl
      · exact (hs _ (List.mem_of_getElem? (i := 70) (by decide +kernel)))
      · exact (hs _ (List.mem_of_getElem? (i := 159) (by decide +kernel)))
      · exact (hs _ (List.mem_of_getElem? (i := 182) (by decide +kernel)))
      · exact (hs _ (List.mem_of_getElem? (i := 215) (by decide +kernel)))
      · exact (hs _ (List.mem_of_getElem? (i := 280) (by decide +kernel))))
    (fun i hi => by
      rcases (show i = 0 ∨ i = 1 ∨ i = 2 ∨ i = 3 ∨ i = 4 by omega) with rfl | rfl | rfl | rfl | rfl
      · exact (hs _ (List.mem_of_getElem? (i := 71) (by decide +kernel)))
      · exact (hs _ (List.mem_of_getElem? (i := 160) (by decide +kernel)))
      · exact (hs _ (List.mem_of_getElem? (i := 183) (by decide +kernel)))
      · exact (hs _ (List.mem_of_getElem? (i := 216) (by decide +kernel)))
      · exact (hs _ (List.mem_of_getElem? (i := 281) (by decide +kernel))))
    (fun i hi => by
      rcases (show i = 0 ∨ i = 1 ∨ i = 2 ∨ i = 3 ∨ i = 4 by omega) with rfl | rfl | rfl | rfl | rfl
      · exact (hs _ (List.mem_of_getElem? (i := 72) (by decide +kernel)))
      · exact (hs _ (List.mem_of_getElem? (i := 161) (by decide +kernel)))
      · exact (hs _ (List.mem_of_getElem? (i := 184) (by decide +kernel)))
      · exact (hs _ (List.mem_of_getElem? (i := 217) (by decide +kernel)))
      · exact (hs _ (List.mem_of_getElem? (i := 282) (by decide +kernel))))
    (fun i hi => by
      rcases (show i = 0 ∨ i = 1 ∨ i = 2 ∨ i = 3 ∨ i = 4 by omega) with rfl | rfl | rfl | rfl | rfl
      · exact fun j hj => hs _ (List.mem_of_getElem? (gv_s0 j hj))
      · exact fun j hj => hs _ (List.mem_of_getElem? (gv_s1 j hj))
      · exact fun j hj => hs _ (List.mem_of_getElem? (gv_s2 j hj))
      · exact fun j hj => hs _ (List.mem_of_getElem? (gv_s3 j hj))
      · exact fun j hj => hs _ (List.mem_of_getElem? (gv_s4 j hj)))
    (fun i j hi hj hij => by
      rcases (show i = 0 ∨ i = 1 ∨ i = 2 ∨ i = 3 ∨ i = 4 by omega) with rfl | rfl | rfl | rfl | rfl
      · rcases (show j = 0 ∨ j = 1 ∨ j = 2 ∨ j = 3 ∨ j = 4 by omega) with rfl | rfl | rfl | rfl | rfl
        · exact absurd rfl hij
        · exact Or.inl (hs _ (List.mem_of_getElem? (i := 180) (by decide +kernel)))
        · exact Or.inl (hs _ (List.mem_of_getElem? (i := 212) (by decide +kernel)))
        · exact Or.inl (hs _ (List.mem_of_getElem? (i := 276) (by decide +kernel)))
        · exact Or.inl (hs _ (List.mem_of_getElem? (i := 318) (by decide +kernel)))
      · rcases (show j = 0 ∨ j = 1 ∨ j = 2 ∨ j = 3 ∨ j = 4 by omega) with rfl | rfl | rfl | rfl | rfl
        · exact Or.inr (hs _ (List.mem_of_getElem? (i := 180) (by decide +kernel)))
        · exact absurd rfl hij
        · exact Or.inl (hs _ (List.mem_of_getElem? (i := 213) (by decide +kernel)))
        · exact Or.inl (hs _ (List.mem_of_getElem? (i := 277) (by decide +kernel)))
        · exact Or.inl (hs _ (List.mem_of_getElem? (i := 319) (by decide +kernel)))
      · rcases (show j = 0 ∨ j = 1 ∨ j = 2 ∨ j = 3 ∨ j = 4 by omega) with rfl | rfl | rfl | rfl | rfl
        · exact Or.inr (hs _ (List.mem_of_getElem? (i := 212) (by decide +kernel)))
        · exact Or.inr (hs _ (List.mem_of_getElem? (i := 213) (by decide +kernel)))
        · exact absurd rfl hij
        · exact Or.inl (hs _ (List.mem_of_getElem? (i := 278) (by decide +kernel)))
        · exact Or.inl (hs _ (List.mem_of_getElem? (i := 320) (by decide +kernel)))
      · rcases (show j = 0 ∨ j = 1 ∨ j = 2 ∨ j = 3 ∨ j = 4 by omega) with rfl | rfl | rfl | rfl | rfl
        · exact Or.inr (hs _ (List.mem_of_getElem? (i := 276) (by decide +kernel)))
        · exact Or.inr (hs _ (List.mem_of_getElem? (i := 277) (by decide +kernel)))
        · exact Or.inr (hs _ (List.mem_of_getElem? (i := 278) (by decide +kernel)))
        · exact absurd rfl hij
        · exact Or.inl (hs _ (List.mem_of_getElem? (i := 321) (by decide +kernel)))
      · rcases (show j = 0 ∨ j = 1 ∨ j = 2 ∨ j = 3 ∨ j = 4 by omega) with rfl | rfl | rfl | rfl | rfl
        · exact Or.inr (hs _ (List.mem_of_getElem? (i := 318) (by decide +kernel)))
        · exact Or.inr (hs _ (List.mem_of_getElem? (i := 319) (by decide +kernel)))
        · exact Or.inr (hs _ (List.mem_of_getElem? (i := 320) (by decide +kernel)))
        · exact Or.inr (hs _ (List.mem_of_getElem? (i := 321) (by decide +kernel)))
        · exact absurd rfl hij) hA
  refine ⟨((fun k => [cc0, cc1, cc2, cc3, cc4, cc5, cc6, cc7, cc8].getD k cc0, fun k => [ii0, ii1, ii2, ii3, ii4, ii5, ii6, ii7, ii8].getD k ii0), (s.heap.size, cB, cI, cP, cC), ((t1, t2, t3), adK, adV)), rfl, ⟨fun k q hq => ?_, fun k q hq => ?_⟩, ?_⟩
  · match k, hq with
    | 0, hq => cases hq; exact K0
    | 1, hq => cases hq; exact K1
    | 2, hq => cases hq; exact K2
    | 3, hq => cases hq; exact K3
    | 4, hq => cases hq; exact K4
    | 5, hq => cases hq; exact K5
    | 6, hq => cases hq; exact K6
    | 7, hq => cases hq; exact K7
    | 8, hq => cases hq; exact K8
    | k + 9, hq => exact absurd hq (by simp [vwCl])
  · match k, hq with
    | 0, hq => cases hq; exact ⟨fun N z => ⟨(fun k h => by cases h), kB, hB, oB, dB⟩, fB⟩
    | 1, hq => cases hq; exact ⟨fun N z => ⟨(fun k h => by cases h), kI, hI, oI, dI⟩, fI⟩
    | 2, hq => cases hq; exact ⟨fun N z => ⟨(fun k h => by cases h), kP, hP9, oP, dP⟩, kP, oP, hP9, dP, fo, fP⟩
    | 3, hq => cases hq; exact ⟨fun N z => ⟨(fun k h => by cases h), kC, hC, oC, dC⟩, fC⟩
    | k + 4, hq => exact absurd hq (by simp [sdTy])
  · exact ⟨va_Zof (hts0 _ (List.mem_of_getElem? (i := 262) (by decide +kernel))) (hts _ k_31) (va_eqt (hs _ (List.mem_of_getElem? (i := 30) (by decide +kernel)))) hA, va_Zqof (hts0 _ (List.mem_of_getElem? (i := 278) (by decide +kernel))) (hts _ k_33) (hs _ (List.mem_of_getElem? (i := 31) (by decide +kernel))) hA, ⟨va_Zref (hts0 _ (List.mem_of_getElem? (i := 247) (by decide +kernel))) (hts _ k_26) ht1 hA, hT1⟩, ⟨va_Zref (hts0 _ (List.mem_of_getElem? (i := 353) (by decide +kernel))) (hts _ k_26) ht2 hA, hT2⟩, ⟨va_Zref (hts0 _ (List.mem_of_getElem? (i := 356) (by decide +kernel))) (hts _ k_26) ht3 hA, hT3⟩, hSS, ⟨vk_R.of (hts0 _ (List.mem_of_getElem? (i := 248) (by decide +kernel))) (hk 0 (by decide)), vk_R.of (hts0 _ (List.mem_of_getElem? (i := 346) (by decide +kernel))) (hk 1 (by decide)), vk_R.of (hts0 _ (List.mem_of_getElem? (i := 347) (by decide +kernel))) (hk 2 (by decide)), vk_R.of (hts0 _ (List.mem_of_getElem? (i := 354) (by decide +kernel))) (hk 3 (by decide)), vk_R.of (hts0 _ (List.mem_of_getElem? (i := 357) (by decide +kernel))) (hk 4 (by decide))⟩, ⟨va_Nw.of rfl (hts0 _ (List.mem_of_getElem? (i := 47) (by decide +kernel))), va_Nw.of rfl (hts0 _ (List.mem_of_getElem? (i := 61) (by decide +kernel))), va_Nw.of rfl (hts0 _ (List.mem_of_getElem? (i := 122) (by decide +kernel))), va_Nw.of rfl (hts0 _ (List.mem_of_getElem? (i := 432) (by decide +kernel))), va_Nw.of rfl (hts0 _ (List.mem_of_getElem? (i := 437) (by decide +kernel)))⟩, va_AO.of (hts0 _ (List.mem_of_getElem? (i := 127) (by decide +kernel)))⟩
