/-! decode rows -/
theorem d_Rdr_takeOther_20 : decode b_Rdr_takeOther 20 = .ok (.invokevirtual 112, 3) := by decide +kernel
theorem d_Rdr_takeOther_23 : decode b_Rdr_takeOther 23 = .ok (.istore 4, 2) := by decide +kernel
theorem d_Rdr_takeOther_25 : decode b_Rdr_takeOther 25 = .ok (.iload_n 3, 1) := by decide +kernel
theorem d_Rdr_takeOther_26 : decode b_Rdr_takeOther 26 = .ok (.ifCond .ge 7, 3) := by decide +kernel
theorem d_Rdr_takeOther_29 : decode b_Rdr_takeOther 29 = .ok (.iconst 0, 1) := by decide +kernel
theorem d_Rdr_takeOther_30 : decode b_Rdr_takeOther 30 = .ok (.goto 16, 3) := by decide +kernel
theorem d_Rdr_takeOther_33 : decode b_Rdr_takeOther 33 = .ok (.iconst 1, 1) := by decide +kernel
theorem d_Rdr_takeOther_34 : decode b_Rdr_takeOther 34 = .ok (.aload_n 0, 1) := by decide +kernel
theorem d_Rdr_takeOther_35 : decode b_Rdr_takeOther 35 = .ok (.getfield 15, 3) := by decide +kernel
theorem d_Rdr_takeOther_38 : decode b_Rdr_takeOther 38 = .ok (.ldc 116, 2) := by decide +kernel
theorem d_Rdr_takeOther_40 : decode b_Rdr_takeOther 40 = .ok (.iload_n 1, 1) := by decide +kernel
theorem d_Rdr_takeOther_41 : decode b_Rdr_takeOther 41 = .ok (.iload_n 3, 1) := by decide +kernel
theorem d_Rdr_takeOther_42 : decode b_Rdr_takeOther 42 = .ok (.invokevirtual 118, 3) := by decide +kernel
theorem d_Rdr_takeOther_45 : decode b_Rdr_takeOther 45 = .ok (.iadd, 1) := by decide +kernel
theorem d_Rdr_takeOther_46 : decode b_Rdr_takeOther 46 = .ok (.istore 5, 2) := by decide +kernel
theorem d_Rdr_takeOther_48 : decode b_Rdr_takeOther 48 = .ok (.iload 4, 2) := by decide +kernel
theorem d_Rdr_takeOther_50 : decode b_Rdr_takeOther 50 = .ok (.ifCond .ge 7, 3) := by decide +kernel
theorem d_Rdr_takeOther_53 : decode b_Rdr_takeOther 53 = .ok (.iconst 0, 1) := by decide +kernel
theorem d_Rdr_takeOther_54 : decode b_Rdr_takeOther 54 = .ok (.goto 19, 3) := by decide +kernel
theorem d_Rdr_takeOther_57 : decode b_Rdr_takeOther 57 = .ok (.iconst 1, 1) := by decide +kernel
theorem d_Rdr_takeOther_58 : decode b_Rdr_takeOther 58 = .ok (.aload_n 0, 1) := by decide +kernel
theorem d_Rdr_takeOther_59 : decode b_Rdr_takeOther 59 = .ok (.getfield 15, 3) := by decide +kernel
theorem d_Rdr_takeOther_62 : decode b_Rdr_takeOther 62 = .ok (.ldc 122, 2) := by decide +kernel
theorem d_Rdr_takeOther_64 : decode b_Rdr_takeOther 64 = .ok (.iload 4, 2) := by decide +kernel
theorem d_Rdr_takeOther_66 : decode b_Rdr_takeOther 66 = .ok (.iconst 1, 1) := by decide +kernel
theorem d_Rdr_takeOther_67 : decode b_Rdr_takeOther 67 = .ok (.iadd, 1) := by decide +kernel
theorem d_Rdr_takeOther_68 : decode b_Rdr_takeOther 68 = .ok (.iload_n 2, 1) := by decide +kernel
theorem d_Rdr_takeOther_69 : decode b_Rdr_takeOther 69 = .ok (.invokevirtual 118, 3) := by decide +kernel
theorem d_Rdr_takeOther_72 : decode b_Rdr_takeOther 72 = .ok (.iadd, 1) := by decide +kernel
theorem d_Rdr_takeOther_73 : decode b_Rdr_takeOther 73 = .ok (.istore 6, 2) := by decide +kernel
theorem d_Rdr_takeOther_75 : decode b_Rdr_takeOther 75 = .ok (.aload_n 0, 1) := by decide +kernel
theorem d_Rdr_takeOther_76 : decode b_Rdr_takeOther 76 = .ok (.iload_n 3, 1) := by decide +kernel
theorem d_Rdr_takeOther_77 : decode b_Rdr_takeOther 77 = .ok (.ifCond .ge 7, 3) := by decide +kernel
theorem d_Rdr_takeOther_80 : decode b_Rdr_takeOther 80 = .ok (.iload_n 1, 1) := by decide +kernel
theorem d_Rdr_takeOther_81 : decode b_Rdr_takeOther 81 = .ok (.goto 6, 3) := by decide +kernel
theorem d_Rdr_takeOther_84 : decode b_Rdr_takeOther 84 = .ok (.iload_n 3, 1) := by decide +kernel
theorem d_Rdr_takeOther_85 : decode b_Rdr_takeOther 85 = .ok (.iconst 1, 1) := by decide +kernel
theorem d_Rdr_takeOther_86 : decode b_Rdr_takeOther 86 = .ok (.iadd, 1) := by decide +kernel
theorem d_Rdr_takeOther_87 : decode b_Rdr_takeOther 87 = .ok (.iload 4, 2) := by decide +kernel
theorem d_Rdr_takeOther_89 : decode b_Rdr_takeOther 89 = .ok (.ifCond .ge 7, 3) := by decide +kernel
theorem d_Rdr_takeOther_92 : decode b_Rdr_takeOther 92 = .ok (.iload_n 2, 1) := by decide +kernel
theorem d_Rdr_takeOther_93 : decode b_Rdr_takeOther 93 = .ok (.goto 5, 3) := by decide +kernel
theorem d_Rdr_takeOther_96 : decode b_Rdr_takeOther 96 = .ok (.iload 4, 2) := by decide +kernel
theorem d_Rdr_takeOther_98 : decode b_Rdr_takeOther 98 = .ok (.invokevirtual 124, 3) := by decide +kernel
theorem d_Rdr_takeOther_101 : decode b_Rdr_takeOther 101 = .ok (.istore 7, 2) := by decide +kernel
theorem d_Rdr_takeOther_103 : decode b_Rdr_takeOther 103 = .ok (.iload_n 3, 1) := by decide +kernel
theorem d_Rdr_takeOther_104 : decode b_Rdr_takeOther 104 = .ok (.ifCond .lt 12, 3) := by decide +kernel
theorem d_Rdr_takeOther_107 : decode b_Rdr_takeOther 107 = .ok (.iload 5, 2) := by decide +kernel
theorem d_Rdr_takeOther_109 : decode b_Rdr_takeOther 109 = .ok (.ifCond .ne 7, 3) := by decide +kernel
theorem d_Rdr_takeOther_112 : decode b_Rdr_takeOther 112 = .ok (.iconst 1, 1) := by decide +kernel
theorem d_Rdr_takeOther_113 : decode b_Rdr_takeOther 113 = .ok (.goto 4, 3) := by decide +kernel
theorem d_Rdr_takeOther_116 : decode b_Rdr_takeOther 116 = .ok (.iconst 0, 1) := by decide +kernel
theorem d_Rdr_takeOther_117 : decode b_Rdr_takeOther 117 = .ok (.istore 8, 2) := by decide +kernel
theorem d_Rdr_takeOther_119 : decode b_Rdr_takeOther 119 = .ok (.iload 4, 2) := by decide +kernel
theorem d_Rdr_takeOther_121 : decode b_Rdr_takeOther 121 = .ok (.ifCond .lt 12, 3) := by decide +kernel
theorem d_Rdr_takeOther_124 : decode b_Rdr_takeOther 124 = .ok (.iload 6, 2) := by decide +kernel
theorem d_Rdr_takeOther_126 : decode b_Rdr_takeOther 126 = .ok (.ifCond .ne 7, 3) := by decide +kernel
theorem d_Rdr_takeOther_129 : decode b_Rdr_takeOther 129 = .ok (.iconst 1, 1) := by decide +kernel
theorem d_Rdr_takeOther_130 : decode b_Rdr_takeOther 130 = .ok (.goto 4, 3) := by decide +kernel
theorem d_Rdr_takeOther_133 : decode b_Rdr_takeOther 133 = .ok (.iconst 0, 1) := by decide +kernel
theorem d_Rdr_takeOther_134 : decode b_Rdr_takeOther 134 = .ok (.istore 9, 2) := by decide +kernel
theorem d_Rdr_takeOther_136 : decode b_Rdr_takeOther 136 = .ok (.iload 8, 2) := by decide +kernel
theorem d_Rdr_takeOther_138 : decode b_Rdr_takeOther 138 = .ok (.ifCond .ne 13, 3) := by decide +kernel
theorem d_Rdr_takeOther_141 : decode b_Rdr_takeOther 141 = .ok (.iload 9, 2) := by decide +kernel
theorem d_Rdr_takeOther_143 : decode b_Rdr_takeOther 143 = .ok (.ifCond .ne 8, 3) := by decide +kernel
theorem d_Rdr_takeOther_146 : decode b_Rdr_takeOther 146 = .ok (.iload 7, 2) := by decide +kernel
theorem d_Rdr_takeOther_148 : decode b_Rdr_takeOther 148 = .ok (.ifCond .ge 5, 3) := by decide +kernel
theorem d_Rdr_takeOther_151 : decode b_Rdr_takeOther 151 = .ok (.iconst 1, 1) := by decide +kernel
theorem d_Rdr_takeOther_152 : decode b_Rdr_takeOther 152 = .ok (.ireturn, 1) := by decide +kernel
theorem d_Rdr_takeOther_153 : decode b_Rdr_takeOther 153 = .ok (.aload_n 0, 1) := by decide +kernel
theorem d_Rdr_takeOther_154 : decode b_Rdr_takeOther 154 = .ok (.getfield 19, 3) := by decide +kernel
theorem d_Rdr_takeOther_157 : decode b_Rdr_takeOther 157 = .ok (.invokevirtual 96, 3) := by decide +kernel
theorem d_Rdr_takeOther_160 : decode b_Rdr_takeOther 160 = .ok (.ifCond .eq 5, 3) := by decide +kernel
theorem d_Rdr_takeOther_163 : decode b_Rdr_takeOther 163 = .ok (.iconst 2, 1) := by decide +kernel
theorem d_Rdr_takeOther_164 : decode b_Rdr_takeOther 164 = .ok (.ireturn, 1) := by decide +kernel
theorem d_Rdr_takeOther_165 : decode b_Rdr_takeOther 165 = .ok (.aload_n 0, 1) := by decide +kernel
theorem d_Rdr_takeOther_166 : decode b_Rdr_takeOther 166 = .ok (.getfield 19, 3) := by decide +kernel
theorem d_Rdr_takeOther_169 : decode b_Rdr_takeOther 169 = .ok (.ldc 127, 2) := by decide +kernel
theorem d_Rdr_takeOther_171 : decode b_Rdr_takeOther 171 = .ok (.iload 7, 2) := by decide +kernel
theorem d_Rdr_takeOther_173 : decode b_Rdr_takeOther 173 = .ok (.iadd, 1) := by decide +kernel
theorem d_Rdr_takeOther_174 : decode b_Rdr_takeOther 174 = .ok (.bipush 8, 2) := by decide +kernel
theorem d_Rdr_takeOther_176 : decode b_Rdr_takeOther 176 = .ok (.iload 5, 2) := by decide +kernel
theorem d_Rdr_takeOther_178 : decode b_Rdr_takeOther 178 = .ok (.imul, 1) := by decide +kernel
theorem d_Rdr_takeOther_179 : decode b_Rdr_takeOther 179 = .ok (.iadd, 1) := by decide +kernel
theorem d_Rdr_takeOther_180 : decode b_Rdr_takeOther 180 = .ok (.iload 6, 2) := by decide +kernel
theorem d_Rdr_takeOther_182 : decode b_Rdr_takeOther 182 = .ok (.iadd, 1) := by decide +kernel
theorem d_Rdr_takeOther_183 : decode b_Rdr_takeOther 183 = .ok (.invokevirtual 104, 3) := by decide +kernel
theorem d_Rdr_takeOther_186 : decode b_Rdr_takeOther 186 = .ok (.iconst 0, 1) := by decide +kernel
theorem d_Rdr_takeOther_187 : decode b_Rdr_takeOther 187 = .ok (.ireturn, 1) := by decide +kernel
theorem d_Txt_find_0 : decode b_Txt_find 0 = .ok (.iload_n 2, 1) := by decide +kernel
theorem d_Txt_find_1 : decode b_Txt_find 1 = .ok (.istore 4, 2) := by decide +kernel
theorem d_Txt_find_3 : decode b_Txt_find 3 = .ok (.iload 4, 2) := by decide +kernel
theorem d_Txt_find_5 : decode b_Txt_find 5 = .ok (.iload_n 3, 1) := by decide +kernel
theorem d_Txt_find_6 : decode b_Txt_find 6 = .ok (.if_icmp .ge 22, 3) := by decide +kernel
theorem d_Txt_find_9 : decode b_Txt_find 9 = .ok (.aload_n 0, 1) := by decide +kernel
theorem d_Txt_find_10 : decode b_Txt_find 10 = .ok (.iload 4, 2) := by decide +kernel
theorem d_Txt_find_12 : decode b_Txt_find 12 = .ok (.invokevirtual 17, 3) := by decide +kernel
theorem d_Txt_find_15 : decode b_Txt_find 15 = .ok (.iload_n 1, 1) := by decide +kernel
theorem d_Txt_find_16 : decode b_Txt_find 16 = .ok (.if_icmp .ne 6, 3) := by decide +kernel
theorem d_Txt_find_19 : decode b_Txt_find 19 = .ok (.iload 4, 2) := by decide +kernel
theorem d_Txt_find_21 : decode b_Txt_find 21 = .ok (.ireturn, 1) := by decide +kernel
theorem d_Txt_find_22 : decode b_Txt_find 22 = .ok (.iinc 4 1, 3) := by decide +kernel
theorem d_Txt_find_25 : decode b_Txt_find 25 = .ok (.goto (-22), 3) := by decide +kernel
theorem d_Txt_find_28 : decode b_Txt_find 28 = .ok (.iconst (-1), 1) := by decide +kernel
theorem d_Txt_find_29 : decode b_Txt_find 29 = .ok (.ireturn, 1) := by decide +kernel
theorem d_Rdr_compBits_0 : decode b_Rdr_compBits 0 = .ok (.getstatic 128, 3) := by decide +kernel
theorem d_Rdr_compBits_3 : decode b_Rdr_compBits 3 = .ok (.aload_n 0, 1) := by decide +kernel
theorem d_Rdr_compBits_4 : decode b_Rdr_compBits 4 = .ok (.getfield 15, 3) := by decide +kernel
theorem d_Rdr_compBits_7 : decode b_Rdr_compBits 7 = .ok (.ldc 132, 2) := by decide +kernel
theorem d_Rdr_compBits_9 : decode b_Rdr_compBits 9 = .ok (.iload_n 1, 1) := by decide +kernel
theorem d_Rdr_compBits_10 : decode b_Rdr_compBits 10 = .ok (.iload_n 2, 1) := by decide +kernel
theorem d_Rdr_compBits_11 : decode b_Rdr_compBits 11 = .ok (.invokevirtual 118, 3) := by decide +kernel
theorem d_Rdr_compBits_14 : decode b_Rdr_compBits 14 = .ok (.invokestatic 134, 3) := by decide +kernel
theorem d_Rdr_compBits_17 : decode b_Rdr_compBits 17 = .ok (.istore_n 3, 1) := by decide +kernel
theorem d_Rdr_compBits_18 : decode b_Rdr_compBits 18 = .ok (.iload_n 3, 1) := by decide +kernel
theorem d_Rdr_compBits_19 : decode b_Rdr_compBits 19 = .ok (.ifCond .lt 8, 3) := by decide +kernel
theorem d_Rdr_compBits_22 : decode b_Rdr_compBits 22 = .ok (.bipush 64, 2) := by decide +kernel
theorem d_Rdr_compBits_24 : decode b_Rdr_compBits 24 = .ok (.iload_n 3, 1) := by decide +kernel
theorem d_Rdr_compBits_25 : decode b_Rdr_compBits 25 = .ok (.imul, 1) := by decide +kernel
theorem d_Rdr_compBits_26 : decode b_Rdr_compBits 26 = .ok (.ireturn, 1) := by decide +kernel
theorem d_Rdr_compBits_27 : decode b_Rdr_compBits 27 = .ok (.getstatic 138, 3) := by decide +kernel
theorem d_Rdr_compBits_30 : decode b_Rdr_compBits 30 = .ok (.aload_n 0, 1) := by decide +kernel
theorem d_Rdr_compBits_31 : decode b_Rdr_compBits 31 = .ok (.getfield 15, 3) := by decide +kernel
theorem d_Rdr_compBits_34 : decode b_Rdr_compBits 34 = .ok (.ldc 141, 2) := by decide +kernel
theorem d_Rdr_compBits_36 : decode b_Rdr_compBits 36 = .ok (.iload_n 1, 1) := by decide +kernel
theorem d_Rdr_compBits_37 : decode b_Rdr_compBits 37 = .ok (.iload_n 2, 1) := by decide +kernel
theorem d_Rdr_compBits_38 : decode b_Rdr_compBits 38 = .ok (.invokevirtual 118, 3) := by decide +kernel
theorem d_Rdr_compBits_41 : decode b_Rdr_compBits 41 = .ok (.invokestatic 134, 3) := by decide +kernel
theorem d_Rdr_compBits_44 : decode b_Rdr_compBits 44 = .ok (.istore_n 3, 1) := by decide +kernel
theorem d_Rdr_compBits_45 : decode b_Rdr_compBits 45 = .ok (.iload_n 3, 1) := by decide +kernel
theorem d_Rdr_compBits_46 : decode b_Rdr_compBits 46 = .ok (.ifCond .lt 14, 3) := by decide +kernel
theorem d_Rdr_compBits_49 : decode b_Rdr_compBits 49 = .ok (.sipush 4096, 3) := by decide +kernel
theorem d_Rdr_compBits_52 : decode b_Rdr_compBits 52 = .ok (.bipush 64, 2) := by decide +kernel
theorem d_Rdr_compBits_54 : decode b_Rdr_compBits 54 = .ok (.iload_n 3, 1) := by decide +kernel
theorem d_Rdr_compBits_55 : decode b_Rdr_compBits 55 = .ok (.imul, 1) := by decide +kernel
theorem d_Rdr_compBits_56 : decode b_Rdr_compBits 56 = .ok (.iadd, 1) := by decide +kernel
theorem d_Rdr_compBits_57 : decode b_Rdr_compBits 57 = .ok (.goto 4, 3) := by decide +kernel
theorem d_Rdr_compBits_60 : decode b_Rdr_compBits 60 = .ok (.iconst (-1), 1) := by decide +kernel
theorem d_Rdr_compBits_61 : decode b_Rdr_compBits 61 = .ok (.ireturn, 1) := by decide +kernel
theorem d_Rdr_fillInSymbols_0 : decode b_Rdr_fillInSymbols 0 = .ok (.bipush 16, 2) := by decide +kernel
theorem d_Rdr_fillInSymbols_2 : decode b_Rdr_fillInSymbols 2 = .ok (.istore_n 1, 1) := by decide +kernel
theorem d_Rdr_fillInSymbols_3 : decode b_Rdr_fillInSymbols 3 = .ok (.iconst 0, 1) := by decide +kernel
theorem d_Rdr_fillInSymbols_4 : decode b_Rdr_fillInSymbols 4 = .ok (.istore_n 2, 1) := by decide +kernel
theorem d_Rdr_fillInSymbols_5 : decode b_Rdr_fillInSymbols 5 = .ok (.iload_n 2, 1) := by decide +kernel
theorem d_Rdr_fillInSymbols_6 : decode b_Rdr_fillInSymbols 6 = .ok (.aload_n 0, 1) := by decide +kernel
theorem d_Rdr_fillInSymbols_7 : decode b_Rdr_fillInSymbols 7 = .ok (.getfield 19, 3) := by decide +kernel
theorem d_Rdr_fillInSymbols_10 : decode b_Rdr_fillInSymbols 10 = .ok (.invokevirtual 108, 3) := by decide +kernel
theorem d_Rdr_fillInSymbols_13 : decode b_Rdr_fillInSymbols 13 = .ok (.if_icmp .ge 56, 3) := by decide +kernel
theorem d_Rdr_fillInSymbols_16 : decode b_Rdr_fillInSymbols 16 = .ok (.aload_n 0, 1) := by decide +kernel
theorem d_Rdr_fillInSymbols_17 : decode b_Rdr_fillInSymbols 17 = .ok (.getfield 19, 3) := by decide +kernel
theorem d_Rdr_fillInSymbols_20 : decode b_Rdr_fillInSymbols 20 = .ok (.iload_n 2, 1) := by decide +kernel
theorem d_Rdr_fillInSymbols_21 : decode b_Rdr_fillInSymbols 21 = .ok (.invokevirtual 148, 3) := by decide +kernel
theorem d_Rdr_fillInSymbols_24 : decode b_Rdr_fillInSymbols 24 = .ok (.ldc 103, 2) := by decide +kernel
theorem d_Rdr_fillInSymbols_26 : decode b_Rdr_fillInSymbols 26 = .ok (.isub, 1) := by decide +kernel
theorem d_Rdr_fillInSymbols_27 : decode b_Rdr_fillInSymbols 27 = .ok (.istore_n 3, 1) := by decide +kernel
theorem d_Rdr_fillInSymbols_28 : decode b_Rdr_fillInSymbols 28 = .ok (.iload_n 3, 1) := by decide +kernel
theorem d_Rdr_fillInSymbols_29 : decode b_Rdr_fillInSymbols 29 = .ok (.ifCond .lt 34, 3) := by decide +kernel
theorem d_Rdr_fillInSymbols_32 : decode b_Rdr_fillInSymbols 32 = .ok (.aload_n 0, 1) := by decide +kernel
theorem d_Rdr_fillInSymbols_33 : decode b_Rdr_fillInSymbols 33 = .ok (.getfield 28, 3) := by decide +kernel
theorem d_Rdr_fillInSymbols_36 : decode b_Rdr_fillInSymbols 36 = .ok (.iload_n 3, 1) := by decide +kernel
theorem d_Rdr_fillInSymbols_37 : decode b_Rdr_fillInSymbols 37 = .ok (.iload_n 1, 1) := by decide +kernel
theorem d_Rdr_fillInSymbols_38 : decode b_Rdr_fillInSymbols 38 = .ok (.invokevirtual 109, 3) := by decide +kernel
theorem d_Rdr_fillInSymbols_41 : decode b_Rdr_fillInSymbols 41 = .ok (.ifCond .eq 6, 3) := by decide +kernel
theorem d_Rdr_fillInSymbols_44 : decode b_Rdr_fillInSymbols 44 = .ok (.iinc 1 1, 3) := by decide +kernel
theorem d_Rdr_fillInSymbols_47 : decode b_Rdr_fillInSymbols 47 = .ok (.aload_n 0, 1) := by decide +kernel
theorem d_Rdr_fillInSymbols_48 : decode b_Rdr_fillInSymbols 48 = .ok (.getfield 19, 3) := by decide +kernel
theorem d_Rdr_fillInSymbols_51 : decode b_Rdr_fillInSymbols 51 = .ok (.iload_n 2, 1) := by decide +kernel
theorem d_Rdr_fillInSymbols_52 : decode b_Rdr_fillInSymbols 52 = .ok (.aload_n 0, 1) := by decide +kernel
theorem d_Rdr_fillInSymbols_53 : decode b_Rdr_fillInSymbols 53 = .ok (.getfield 28, 3) := by decide +kernel
theorem d_Rdr_fillInSymbols_56 : decode b_Rdr_fillInSymbols 56 = .ok (.iload_n 3, 1) := by decide +kernel
theorem d_Rdr_fillInSymbols_57 : decode b_Rdr_fillInSymbols 57 = .ok (.invokevirtual 151, 3) := by decide +kernel
theorem d_Rdr_fillInSymbols_60 : decode b_Rdr_fillInSymbols 60 = .ok (.invokevirtual 154, 3) := by decide +kernel
theorem d_Rdr_fillInSymbols_63 : decode b_Rdr_fillInSymbols 63 = .ok (.iinc 2 1, 3) := by decide +kernel
theorem d_Rdr_fillInSymbols_66 : decode b_Rdr_fillInSymbols 66 = .ok (.goto (-61), 3) := by decide +kernel
theorem d_Rdr_fillInSymbols_69 : decode b_Rdr_fillInSymbols 69 = .ok (.return_, 1) := by decide +kernel
theorem d_Prg_wordAt_0 : decode b_Prg_wordAt 0 = .ok (.iload_n 1, 1) := by decide +kernel
theorem d_Prg_wordAt_1 : decode b_Prg_wordAt 1 = .ok (.ifCond .lt 20, 3) := by decide +kernel
theorem d_Prg_wordAt_4 : decode b_Prg_wordAt 4 = .ok (.iload_n 1, 1) := by decide +kernel
theorem d_Prg_wordAt_5 : decode b_Prg_wordAt 5 = .ok (.aload_n 0, 1) := by decide +kernel
theorem d_Prg_wordAt_6 : decode b_Prg_wordAt 6 = .ok (.getfield 13, 3) := by decide +kernel
theorem d_Prg_wordAt_9 : decode b_Prg_wordAt 9 = .ok (.if_icmp .ge 12, 3) := by decide +kernel
theorem d_Prg_wordAt_12 : decode b_Prg_wordAt 12 = .ok (.aload_n 0, 1) := by decide +kernel
theorem d_Prg_wordAt_13 : decode b_Prg_wordAt 13 = .ok (.getfield 9, 3) := by decide +kernel
theorem d_Prg_wordAt_16 : decode b_Prg_wordAt 16 = .ok (.iload_n 1, 1) := by decide +kernel
theorem d_Prg_wordAt_17 : decode b_Prg_wordAt 17 = .ok (.iaload, 1) := by decide +kernel
theorem d_Prg_wordAt_18 : decode b_Prg_wordAt 18 = .ok (.goto 4, 3) := by decide +kernel
theorem d_Prg_wordAt_21 : decode b_Prg_wordAt 21 = .ok (.iconst (-1), 1) := by decide +kernel
theorem d_Prg_wordAt_22 : decode b_Prg_wordAt 22 = .ok (.ireturn, 1) := by decide +kernel
theorem d_Sym_numberOf_0 : decode b_Sym_numberOf 0 = .ok (.iload_n 1, 1) := by decide +kernel
theorem d_Sym_numberOf_1 : decode b_Sym_numberOf 1 = .ok (.ifCond .lt 20, 3) := by decide +kernel
theorem d_Sym_numberOf_4 : decode b_Sym_numberOf 4 = .ok (.iload_n 1, 1) := by decide +kernel
theorem d_Sym_numberOf_5 : decode b_Sym_numberOf 5 = .ok (.aload_n 0, 1) := by decide +kernel
theorem d_Sym_numberOf_6 : decode b_Sym_numberOf 6 = .ok (.getfield 23, 3) := by decide +kernel
theorem d_Sym_numberOf_9 : decode b_Sym_numberOf 9 = .ok (.if_icmp .ge 12, 3) := by decide +kernel
theorem d_Sym_numberOf_12 : decode b_Sym_numberOf 12 = .ok (.aload_n 0, 1) := by decide +kernel
theorem d_Sym_numberOf_13 : decode b_Sym_numberOf 13 = .ok (.getfield 16, 3) := by decide +kernel
theorem d_Sym_numberOf_16 : decode b_Sym_numberOf 16 = .ok (.iload_n 1, 1) := by decide +kernel
theorem d_Sym_numberOf_17 : decode b_Sym_numberOf 17 = .ok (.iaload, 1) := by decide +kernel
theorem d_Sym_numberOf_18 : decode b_Sym_numberOf 18 = .ok (.goto 4, 3) := by decide +kernel
theorem d_Sym_numberOf_21 : decode b_Sym_numberOf 21 = .ok (.iconst (-1), 1) := by decide +kernel
theorem d_Sym_numberOf_22 : decode b_Sym_numberOf 22 = .ok (.ireturn, 1) := by decide +kernel
theorem d_Prg_change_0 : decode b_Prg_change 0 = .ok (.iload_n 1, 1) := by decide +kernel
theorem d_Prg_change_1 : decode b_Prg_change 1 = .ok (.ifCond .lt 18, 3) := by decide +kernel
theorem d_Prg_change_4 : decode b_Prg_change 4 = .ok (.iload_n 1, 1) := by decide +kernel
theorem d_Prg_change_5 : decode b_Prg_change 5 = .ok (.aload_n 0, 1) := by decide +kernel
theorem d_Prg_change_6 : decode b_Prg_change 6 = .ok (.getfield 13, 3) := by decide +kernel
theorem d_Prg_change_9 : decode b_Prg_change 9 = .ok (.if_icmp .ge 10, 3) := by decide +kernel
theorem d_Prg_change_12 : decode b_Prg_change 12 = .ok (.aload_n 0, 1) := by decide +kernel
theorem d_Prg_change_13 : decode b_Prg_change 13 = .ok (.getfield 9, 3) := by decide +kernel
theorem d_Prg_change_16 : decode b_Prg_change 16 = .ok (.iload_n 1, 1) := by decide +kernel
theorem d_Prg_change_17 : decode b_Prg_change 17 = .ok (.iload_n 2, 1) := by decide +kernel
theorem d_Prg_change_18 : decode b_Prg_change 18 = .ok (.iastore, 1) := by decide +kernel
theorem d_Prg_change_19 : decode b_Prg_change 19 = .ok (.return_, 1) := by decide +kernel
theorem d_Txt_clear_0 : decode b_Txt_clear 0 = .ok (.aload_n 0, 1) := by decide +kernel
theorem d_Txt_clear_1 : decode b_Txt_clear 1 = .ok (.iconst 0, 1) := by decide +kernel
theorem d_Txt_clear_2 : decode b_Txt_clear 2 = .ok (.putfield 13, 3) := by decide +kernel
theorem d_Txt_clear_5 : decode b_Txt_clear 5 = .ok (.return_, 1) := by decide +kernel
theorem d_Prc_clear_0 : decode b_Prc_clear 0 = .ok (.aload_n 0, 1) := by decide +kernel
theorem d_Prc_clear_1 : decode b_Prc_clear 1 = .ok (.getfield 18, 3) := by decide +kernel
theorem d_Prc_clear_4 : decode b_Prc_clear 4 = .ok (.invokevirtual 22, 3) := by decide +kernel
theorem d_Prc_clear_7 : decode b_Prc_clear 7 = .ok (.aload_n 0, 1) := by decide +kernel
theorem d_Prc_clear_8 : decode b_Prc_clear 8 = .ok (.iconst 0, 1) := by decide +kernel
theorem d_Prc_clear_9 : decode b_Prc_clear 9 = .ok (.putfield 25, 3) := by decide +kernel
theorem d_Prc_clear_12 : decode b_Prc_clear 12 = .ok (.aload_n 0, 1) := by decide +kernel
theorem d_Prc_clear_13 : decode b_Prc_clear 13 = .ok (.iconst 0, 1) := by decide +kernel
theorem d_Prc_clear_14 : decode b_Prc_clear 14 = .ok (.putfield 29, 3) := by decide +kernel
theorem d_Prc_clear_17 : decode b_Prc_clear 17 = .ok (.aload_n 0, 1) := by decide +kernel
theorem d_Prc_clear_18 : decode b_Prc_clear 18 = .ok (.iconst 0, 1) := by decide +kernel
theorem d_Prc_clear_19 : decode b_Prc_clear 19 = .ok (.putfield 32, 3) := by decide +kernel
theorem d_Prc_clear_22 : decode b_Prc_clear 22 = .ok (.aload_n 0, 1) := by decide +kernel
theorem d_Prc_clear_23 : decode b_Prc_clear 23 = .ok (.iconst 0, 1) := by decide +kernel
theorem d_Prc_clear_24 : decode b_Prc_clear 24 = .ok (.putfield 35, 3) := by decide +kernel
theorem d_Prc_clear_27 : decode b_Prc_clear 27 = .ok (.return_, 1) := by decide +kernel
theorem d_Mem_clear_0 : decode b_Mem_clear 0 = .ok (.iconst 0, 1) := by decide +kernel
theorem d_Mem_clear_1 : decode b_Mem_clear 1 = .ok (.istore_n 1, 1) := by decide +kernel
theorem d_Mem_clear_2 : decode b_Mem_clear 2 = .ok (.iload_n 1, 1) := by decide +kernel
theorem d_Mem_clear_3 : decode b_Mem_clear 3 = .ok (.sipush 128, 3) := by decide +kernel
theorem d_Mem_clear_6 : decode b_Mem_clear 6 = .ok (.if_icmp .ge 28, 3) := by decide +kernel
theorem d_Mem_clear_9 : decode b_Mem_clear 9 = .ok (.aload_n 0, 1) := by decide +kernel
theorem d_Mem_clear_10 : decode b_Mem_clear 10 = .ok (.getfield 11, 3) := by decide +kernel
theorem d_Mem_clear_13 : decode b_Mem_clear 13 = .ok (.iload_n 1, 1) := by decide +kernel
theorem d_Mem_clear_14 : decode b_Mem_clear 14 = .ok (.aaload, 1) := by decide +kernel
theorem d_Mem_clear_15 : decode b_Mem_clear 15 = .ok (.astore_n 2, 1) := by decide +kernel
theorem d_Mem_clear_16 : decode b_Mem_clear 16 = .ok (.aload_n 2, 1) := by decide +kernel
theorem d_Mem_clear_17 : decode b_Mem_clear 17 = .ok (.ifnull 11, 3) := by decide +kernel
theorem d_Mem_clear_20 : decode b_Mem_clear 20 = .ok (.aload_n 2, 1) := by decide +kernel
theorem d_Mem_clear_21 : decode b_Mem_clear 21 = .ok (.getfield 20, 3) := by decide +kernel
theorem d_Mem_clear_24 : decode b_Mem_clear 24 = .ok (.iconst 0, 1) := by decide +kernel
theorem d_Mem_clear_25 : decode b_Mem_clear 25 = .ok (.invokestatic 25, 3) := by decide +kernel
theorem d_Mem_clear_28 : decode b_Mem_clear 28 = .ok (.iinc 1 1, 3) := by decide +kernel
theorem d_Mem_clear_31 : decode b_Mem_clear 31 = .ok (.goto (-29), 3) := by decide +kernel
theorem d_Mem_clear_34 : decode b_Mem_clear 34 = .ok (.return_, 1) := by decide +kernel
theorem d_JA_fill_0 : decode b_JA_fill 0 = .ok (.iconst 0, 1) := by decide +kernel
theorem d_JA_fill_1 : decode b_JA_fill 1 = .ok (.istore_n 2, 1) := by decide +kernel
theorem d_JA_fill_2 : decode b_JA_fill 2 = .ok (.aload_n 0, 1) := by decide +kernel
theorem d_JA_fill_3 : decode b_JA_fill 3 = .ok (.arraylength, 1) := by decide +kernel
theorem d_JA_fill_4 : decode b_JA_fill 4 = .ok (.istore_n 3, 1) := by decide +kernel
theorem d_JA_fill_5 : decode b_JA_fill 5 = .ok (.iload_n 2, 1) := by decide +kernel
theorem d_JA_fill_6 : decode b_JA_fill 6 = .ok (.iload_n 3, 1) := by decide +kernel
theorem d_JA_fill_7 : decode b_JA_fill 7 = .ok (.if_icmp .ge 13, 3) := by decide +kernel
theorem d_JA_fill_10 : decode b_JA_fill 10 = .ok (.aload_n 0, 1) := by decide +kernel
theorem d_JA_fill_11 : decode b_JA_fill 11 = .ok (.iload_n 2, 1) := by decide +kernel
theorem d_JA_fill_12 : decode b_JA_fill 12 = .ok (.iload_n 1, 1) := by decide +kernel
theorem d_JA_fill_13 : decode b_JA_fill 13 = .ok (.iastore, 1) := by decide +kernel
theorem d_JA_fill_14 : decode b_JA_fill 14 = .ok (.iinc 2 1, 3) := by decide +kernel
theorem d_JA_fill_17 : decode b_JA_fill 17 = .ok (.goto (-12), 3) := by decide +kernel
theorem d_JA_fill_20 : decode b_JA_fill 20 = .ok (.return_, 1) := by decide +kernel
theorem d_Dsk_place_0 : decode b_Dsk_place 0 = .ok (.aload_n 0, 1) := by decide +kernel
theorem d_Dsk_place_1 : decode b_Dsk_place 1 = .ok (.getfield 28, 3) := by decide +kernel
theorem d_Dsk_place_4 : decode b_Dsk_place 4 = .ok (.invokevirtual 53, 3) := by decide +kernel
theorem d_Dsk_place_7 : decode b_Dsk_place 7 = .ok (.ireturn, 1) := by decide +kernel
theorem d_Rdr_faultPlace_0 : decode b_Rdr_faultPlace 0 = .ok (.aload_n 0, 1) := by decide +kernel
theorem d_Rdr_faultPlace_1 : decode b_Rdr_faultPlace 1 = .ok (.getfield 11, 3) := by decide +kernel
theorem d_Rdr_faultPlace_4 : decode b_Rdr_faultPlace 4 = .ok (.ireturn, 1) := by decide +kernel
theorem d_Dsk_code_0 : decode b_Dsk_code 0 = .ok (.aload_n 0, 1) := by decide +kernel
theorem d_Dsk_code_1 : decode b_Dsk_code 1 = .ok (.getfield 19, 3) := by decide +kernel
theorem d_Dsk_code_4 : decode b_Dsk_code 4 = .ok (.iload_n 1, 1) := by decide +kernel
theorem d_Dsk_code_5 : decode b_Dsk_code 5 = .ok (.invokevirtual 56, 3) := by decide +kernel
theorem d_Dsk_code_8 : decode b_Dsk_code 8 = .ok (.ireturn, 1) := by decide +kernel
theorem d_Dsk_go_0 : decode b_Dsk_go 0 = .ok (.iload_n 1, 1) := by decide +kernel
theorem d_Dsk_go_1 : decode b_Dsk_go 1 = .ok (.ifCond .lt 10, 3) := by decide +kernel
theorem d_Dsk_go_4 : decode b_Dsk_go 4 = .ok (.iload_n 1, 1) := by decide +kernel
theorem d_Dsk_go_5 : decode b_Dsk_go 5 = .ok (.sipush 2000, 3) := by decide +kernel
theorem d_Dsk_go_8 : decode b_Dsk_go 8 = .ok (.if_icmp .le 5, 3) := by decide +kernel
theorem d_Dsk_go_11 : decode b_Dsk_go 11 = .ok (.iconst (-1), 1) := by decide +kernel
theorem d_Dsk_go_12 : decode b_Dsk_go 12 = .ok (.ireturn, 1) := by decide +kernel
theorem d_Dsk_go_13 : decode b_Dsk_go 13 = .ok (.aload_n 0, 1) := by decide +kernel
theorem d_Dsk_go_14 : decode b_Dsk_go 14 = .ok (.getfield 37, 3) := by decide +kernel
theorem d_Dsk_go_17 : decode b_Dsk_go 17 = .ok (.iload_n 1, 1) := by decide +kernel
theorem d_Dsk_go_18 : decode b_Dsk_go 18 = .ok (.invokevirtual 60, 3) := by decide +kernel
theorem d_Dsk_go_21 : decode b_Dsk_go 21 = .ok (.ireturn, 1) := by decide +kernel
theorem d_Prc_run_0 : decode b_Prc_run 0 = .ok (.iconst 0, 1) := by decide +kernel
theorem d_Prc_run_1 : decode b_Prc_run 1 = .ok (.istore_n 2, 1) := by decide +kernel
theorem d_Prc_run_2 : decode b_Prc_run 2 = .ok (.iload_n 2, 1) := by decide +kernel
theorem d_Prc_run_3 : decode b_Prc_run 3 = .ok (.iload_n 1, 1) := by decide +kernel
theorem d_Prc_run_4 : decode b_Prc_run 4 = .ok (.if_icmp .ge 42, 3) := by decide +kernel
theorem d_Prc_run_7 : decode b_Prc_run 7 = .ok (.aload_n 0, 1) := by decide +kernel
theorem d_Prc_run_8 : decode b_Prc_run 8 = .ok (.getfield 9, 3) := by decide +kernel
theorem d_Prc_run_11 : decode b_Prc_run 11 = .ok (.aload_n 0, 1) := by decide +kernel
theorem d_Prc_run_12 : decode b_Prc_run 12 = .ok (.getfield 32, 3) := by decide +kernel
theorem d_Prc_run_15 : decode b_Prc_run 15 = .ok (.invokevirtual 38, 3) := by decide +kernel
theorem d_Prc_run_18 : decode b_Prc_run 18 = .ok (.istore_n 3, 1) := by decide +kernel
theorem d_Prc_run_19 : decode b_Prc_run 19 = .ok (.iload_n 3, 1) := by decide +kernel
theorem d_Prc_run_20 : decode b_Prc_run 20 = .ok (.ifCond .ge 5, 3) := by decide +kernel
theorem d_Prc_run_23 : decode b_Prc_run 23 = .ok (.iload_n 2, 1) := by decide +kernel
theorem d_Prc_run_24 : decode b_Prc_run 24 = .ok (.ireturn, 1) := by decide +kernel
theorem d_Prc_run_25 : decode b_Prc_run 25 = .ok (.aload_n 0, 1) := by decide +kernel
theorem d_Prc_run_26 : decode b_Prc_run 26 = .ok (.iload_n 3, 1) := by decide +kernel
theorem d_Prc_run_27 : decode b_Prc_run 27 = .ok (.invokevirtual 44, 3) := by decide +kernel
theorem d_Prc_run_30 : decode b_Prc_run 30 = .ok (.aload_n 0, 1) := by decide +kernel
theorem d_Prc_run_31 : decode b_Prc_run 31 = .ok (.dup, 1) := by decide +kernel
theorem d_Prc_run_32 : decode b_Prc_run 32 = .ok (.getfield 35, 3) := by decide +kernel
theorem d_Prc_run_35 : decode b_Prc_run 35 = .ok (.iconst 1, 1) := by decide +kernel
theorem d_Prc_run_36 : decode b_Prc_run 36 = .ok (.iadd, 1) := by decide +kernel
theorem d_Prc_run_37 : decode b_Prc_run 37 = .ok (.putfield 35, 3) := by decide +kernel
theorem d_Prc_run_40 : decode b_Prc_run 40 = .ok (.iinc 2 1, 3) := by decide +kernel
theorem d_Prc_run_43 : decode b_Prc_run 43 = .ok (.goto (-41), 3) := by decide +kernel
theorem d_Prc_run_46 : decode b_Prc_run 46 = .ok (.iload_n 1, 1) := by decide +kernel
theorem d_Prc_run_47 : decode b_Prc_run 47 = .ok (.ireturn, 1) := by decide +kernel
theorem d_Prc_perform_0 : decode b_Prc_perform 0 = .ok (.iload_n 1, 1) := by decide +kernel
theorem d_Prc_perform_1 : decode b_Prc_perform 1 = .ok (.sipush 32767, 3) := by decide +kernel
theorem d_Prc_perform_4 : decode b_Prc_perform 4 = .ok (.if_icmp .gt 19, 3) := by decide +kernel
theorem d_Prc_perform_7 : decode b_Prc_perform 7 = .ok (.aload_n 0, 1) := by decide +kernel
theorem d_Prc_perform_8 : decode b_Prc_perform 8 = .ok (.iload_n 1, 1) := by decide +kernel
theorem d_Prc_perform_9 : decode b_Prc_perform 9 = .ok (.putfield 25, 3) := by decide +kernel
theorem d_Prc_perform_12 : decode b_Prc_perform 12 = .ok (.aload_n 0, 1) := by decide +kernel
theorem d_Prc_perform_13 : decode b_Prc_perform 13 = .ok (.dup, 1) := by decide +kernel
theorem d_Prc_perform_14 : decode b_Prc_perform 14 = .ok (.getfield 32, 3) := by decide +kernel
theorem d_Prc_perform_17 : decode b_Prc_perform 17 = .ok (.iconst 1, 1) := by decide +kernel
theorem d_Prc_perform_18 : decode b_Prc_perform 18 = .ok (.iadd, 1) := by decide +kernel
theorem d_Prc_perform_19 : decode b_Prc_perform 19 = .ok (.putfield 32, 3) := by decide +kernel
theorem d_Prc_perform_22 : decode b_Prc_perform 22 = .ok (.return_, 1) := by decide +kernel
theorem d_Prc_perform_23 : decode b_Prc_perform 23 = .ok (.aload_n 0, 1) := by decide +kernel
theorem d_Prc_perform_24 : decode b_Prc_perform 24 = .ok (.getfield 25, 3) := by decide +kernel
theorem d_Prc_perform_27 : decode b_Prc_perform 27 = .ok (.sipush 32767, 3) := by decide +kernel
theorem d_Prc_perform_30 : decode b_Prc_perform 30 = .ok (.iand, 1) := by decide +kernel
theorem d_Prc_perform_31 : decode b_Prc_perform 31 = .ok (.istore_n 2, 1) := by decide +kernel
theorem d_Prc_perform_32 : decode b_Prc_perform 32 = .ok (.iload_n 1, 1) := by decide +kernel
theorem d_Prc_perform_33 : decode b_Prc_perform 33 = .ok (.sipush 4096, 3) := by decide +kernel
theorem d_Prc_perform_36 : decode b_Prc_perform 36 = .ok (.iand, 1) := by decide +kernel
theorem d_Prc_perform_37 : decode b_Prc_perform 37 = .ok (.ifCond .eq 14, 3) := by decide +kernel
theorem d_Prc_perform_40 : decode b_Prc_perform 40 = .ok (.aload_n 0, 1) := by decide +kernel
theorem d_Prc_perform_41 : decode b_Prc_perform 41 = .ok (.getfield 18, 3) := by decide +kernel
theorem d_Prc_perform_44 : decode b_Prc_perform 44 = .ok (.iload_n 2, 1) := by decide +kernel
theorem d_Prc_perform_45 : decode b_Prc_perform 45 = .ok (.invokevirtual 48, 3) := by decide +kernel
theorem d_Prc_perform_48 : decode b_Prc_perform 48 = .ok (.goto 7, 3) := by decide +kernel
theorem d_Prc_perform_51 : decode b_Prc_perform 51 = .ok (.aload_n 0, 1) := by decide +kernel
theorem d_Prc_perform_52 : decode b_Prc_perform 52 = .ok (.getfield 25, 3) := by decide +kernel
theorem d_Prc_perform_55 : decode b_Prc_perform 55 = .ok (.istore_n 3, 1) := by decide +kernel
theorem d_Prc_perform_56 : decode b_Prc_perform 56 = .ok (.iload_n 1, 1) := by decide +kernel
theorem d_Prc_perform_57 : decode b_Prc_perform 57 = .ok (.bipush 6, 2) := by decide +kernel
theorem d_Prc_perform_59 : decode b_Prc_perform 59 = .ok (.ishr, 1) := by decide +kernel
theorem d_Prc_perform_60 : decode b_Prc_perform 60 = .ok (.aload_n 0, 1) := by decide +kernel
theorem d_Prc_perform_61 : decode b_Prc_perform 61 = .ok (.getfield 29, 3) := by decide +kernel
theorem d_Prc_perform_64 : decode b_Prc_perform 64 = .ok (.iload_n 3, 1) := by decide +kernel
theorem d_Prc_perform_65 : decode b_Prc_perform 65 = .ok (.invokestatic 49, 3) := by decide +kernel
theorem d_Prc_perform_68 : decode b_Prc_perform 68 = .ok (.istore 4, 2) := by decide +kernel
theorem d_Prc_perform_70 : decode b_Prc_perform 70 = .ok (.iload_n 1, 1) := by decide +kernel
theorem d_Prc_perform_71 : decode b_Prc_perform 71 = .ok (.bipush 8, 2) := by decide +kernel
theorem d_Prc_perform_73 : decode b_Prc_perform 73 = .ok (.iand, 1) := by decide +kernel
theorem d_Prc_perform_74 : decode b_Prc_perform 74 = .ok (.ifCond .eq 13, 3) := by decide +kernel
theorem d_Prc_perform_77 : decode b_Prc_perform 77 = .ok (.aload_n 0, 1) := by decide +kernel
theorem d_Prc_perform_78 : decode b_Prc_perform 78 = .ok (.getfield 18, 3) := by decide +kernel
theorem d_Prc_perform_81 : decode b_Prc_perform 81 = .ok (.iload_n 2, 1) := by decide +kernel
theorem d_Prc_perform_82 : decode b_Prc_perform 82 = .ok (.iload 4, 2) := by decide +kernel
theorem d_Prc_perform_84 : decode b_Prc_perform 84 = .ok (.invokevirtual 53, 3) := by decide +kernel
theorem d_Prc_perform_87 : decode b_Prc_perform 87 = .ok (.iload_n 1, 1) := by decide +kernel
theorem d_Prc_perform_88 : decode b_Prc_perform 88 = .ok (.bipush 32, 2) := by decide +kernel
theorem d_Prc_perform_90 : decode b_Prc_perform 90 = .ok (.iand, 1) := by decide +kernel
theorem d_Prc_perform_91 : decode b_Prc_perform 91 = .ok (.ifCond .eq 9, 3) := by decide +kernel
theorem d_Prc_perform_94 : decode b_Prc_perform 94 = .ok (.aload_n 0, 1) := by decide +kernel
theorem d_Prc_perform_95 : decode b_Prc_perform 95 = .ok (.iload 4, 2) := by decide +kernel
theorem d_Prc_perform_97 : decode b_Prc_perform 97 = .ok (.putfield 25, 3) := by decide +kernel
theorem d_Prc_perform_100 : decode b_Prc_perform 100 = .ok (.iload_n 1, 1) := by decide +kernel
theorem d_Prc_perform_101 : decode b_Prc_perform 101 = .ok (.bipush 16, 2) := by decide +kernel
theorem d_Prc_perform_103 : decode b_Prc_perform 103 = .ok (.iand, 1) := by decide +kernel
theorem d_Prc_perform_104 : decode b_Prc_perform 104 = .ok (.ifCond .eq 9, 3) := by decide +kernel
theorem d_Prc_perform_107 : decode b_Prc_perform 107 = .ok (.aload_n 0, 1) := by decide +kernel
theorem d_Prc_perform_108 : decode b_Prc_perform 108 = .ok (.iload 4, 2) := by decide +kernel
theorem d_Prc_perform_110 : decode b_Prc_perform 110 = .ok (.putfield 29, 3) := by decide +kernel
theorem d_Prc_perform_113 : decode b_Prc_perform 113 = .ok (.iload 4, 2) := by decide +kernel
theorem d_Prc_perform_115 : decode b_Prc_perform 115 = .ok (.ifCond .le 7, 3) := by decide +kernel
theorem d_Prc_perform_118 : decode b_Prc_perform 118 = .ok (.iconst 1, 1) := by decide +kernel
theorem d_Prc_perform_119 : decode b_Prc_perform 119 = .ok (.goto 13, 3) := by decide +kernel
theorem d_Prc_perform_122 : decode b_Prc_perform 122 = .ok (.iload 4, 2) := by decide +kernel
theorem d_Prc_perform_124 : decode b_Prc_perform 124 = .ok (.ifCond .ne 7, 3) := by decide +kernel
theorem d_Prc_perform_127 : decode b_Prc_perform 127 = .ok (.iconst 2, 1) := by decide +kernel
theorem d_Prc_perform_128 : decode b_Prc_perform 128 = .ok (.goto 4, 3) := by decide +kernel
theorem d_Prc_perform_131 : decode b_Prc_perform 131 = .ok (.iconst 4, 1) := by decide +kernel
theorem d_Prc_perform_132 : decode b_Prc_perform 132 = .ok (.istore 5, 2) := by decide +kernel
theorem d_Prc_perform_134 : decode b_Prc_perform 134 = .ok (.aload_n 0, 1) := by decide +kernel
theorem d_Prc_perform_135 : decode b_Prc_perform 135 = .ok (.iload_n 1, 1) := by decide +kernel
theorem d_Prc_perform_136 : decode b_Prc_perform 136 = .ok (.iload 5, 2) := by decide +kernel
theorem d_Prc_perform_138 : decode b_Prc_perform 138 = .ok (.iand, 1) := by decide +kernel
theorem d_Prc_perform_139 : decode b_Prc_perform 139 = .ok (.ifCond .eq 7, 3) := by decide +kernel
theorem d_Prc_perform_142 : decode b_Prc_perform 142 = .ok (.iload_n 2, 1) := by decide +kernel
theorem d_Prc_perform_143 : decode b_Prc_perform 143 = .ok (.goto 9, 3) := by decide +kernel
theorem d_Prc_perform_146 : decode b_Prc_perform 146 = .ok (.aload_n 0, 1) := by decide +kernel
theorem d_Prc_perform_147 : decode b_Prc_perform 147 = .ok (.getfield 32, 3) := by decide +kernel
theorem d_Prc_perform_150 : decode b_Prc_perform 150 = .ok (.iconst 1, 1) := by decide +kernel
theorem d_Prc_perform_151 : decode b_Prc_perform 151 = .ok (.iadd, 1) := by decide +kernel
theorem d_Prc_perform_152 : decode b_Prc_perform 152 = .ok (.putfield 32, 3) := by decide +kernel
theorem d_Prc_perform_155 : decode b_Prc_perform 155 = .ok (.return_, 1) := by decide +kernel
theorem d_Mem_wordAt_0 : decode b_Mem_wordAt 0 = .ok (.iload_n 1, 1) := by decide +kernel
theorem d_Mem_wordAt_1 : decode b_Mem_wordAt 1 = .ok (.invokestatic 16, 3) := by decide +kernel
theorem d_Mem_wordAt_4 : decode b_Mem_wordAt 4 = .ok (.ifCond .ne 5, 3) := by decide +kernel
theorem d_Mem_wordAt_7 : decode b_Mem_wordAt 7 = .ok (.iconst 0, 1) := by decide +kernel
theorem d_Mem_wordAt_8 : decode b_Mem_wordAt 8 = .ok (.ireturn, 1) := by decide +kernel
theorem d_Mem_wordAt_9 : decode b_Mem_wordAt 9 = .ok (.aload_n 0, 1) := by decide +kernel
theorem d_Mem_wordAt_10 : decode b_Mem_wordAt 10 = .ok (.getfield 11, 3) := by decide +kernel
theorem d_Mem_wordAt_13 : decode b_Mem_wordAt 13 = .ok (.iload_n 1, 1) := by decide +kernel
theorem d_Mem_wordAt_14 : decode b_Mem_wordAt 14 = .ok (.sipush 256, 3) := by decide +kernel
theorem d_Mem_wordAt_17 : decode b_Mem_wordAt 17 = .ok (.idiv, 1) := by decide +kernel
theorem d_Mem_wordAt_18 : decode b_Mem_wordAt 18 = .ok (.aaload, 1) := by decide +kernel
theorem d_Mem_wordAt_19 : decode b_Mem_wordAt 19 = .ok (.astore_n 2, 1) := by decide +kernel
theorem d_Mem_wordAt_20 : decode b_Mem_wordAt 20 = .ok (.aload_n 2, 1) := by decide +kernel
theorem d_Mem_wordAt_21 : decode b_Mem_wordAt 21 = .ok (.ifnonnull 7, 3) := by decide +kernel
theorem d_Mem_wordAt_24 : decode b_Mem_wordAt 24 = .ok (.iconst 0, 1) := by decide +kernel
theorem d_Mem_wordAt_25 : decode b_Mem_wordAt 25 = .ok (.goto 13, 3) := by decide +kernel
theorem d_Mem_wordAt_28 : decode b_Mem_wordAt 28 = .ok (.aload_n 2, 1) := by decide +kernel
theorem d_Mem_wordAt_29 : decode b_Mem_wordAt 29 = .ok (.getfield 20, 3) := by decide +kernel
theorem d_Mem_wordAt_32 : decode b_Mem_wordAt 32 = .ok (.iload_n 1, 1) := by decide +kernel
theorem d_Mem_wordAt_33 : decode b_Mem_wordAt 33 = .ok (.sipush 256, 3) := by decide +kernel
theorem d_Mem_wordAt_36 : decode b_Mem_wordAt 36 = .ok (.irem, 1) := by decide +kernel
theorem d_Mem_wordAt_37 : decode b_Mem_wordAt 37 = .ok (.iaload, 1) := by decide +kernel
theorem d_Mem_wordAt_38 : decode b_Mem_wordAt 38 = .ok (.ireturn, 1) := by decide +kernel
theorem d_Mem_holds_0 : decode b_Mem_holds 0 = .ok (.iload_n 0, 1) := by decide +kernel
theorem d_Mem_holds_1 : decode b_Mem_holds 1 = .ok (.ifCond .lt 13, 3) := by decide +kernel
theorem d_Mem_holds_4 : decode b_Mem_holds 4 = .ok (.iload_n 0, 1) := by decide +kernel
theorem d_Mem_holds_5 : decode b_Mem_holds 5 = .ok (.ldc 15, 2) := by decide +kernel
theorem d_Mem_holds_7 : decode b_Mem_holds 7 = .ok (.if_icmp .ge 7, 3) := by decide +kernel
theorem d_Mem_holds_10 : decode b_Mem_holds 10 = .ok (.iconst 1, 1) := by decide +kernel
theorem d_Mem_holds_11 : decode b_Mem_holds 11 = .ok (.goto 4, 3) := by decide +kernel
theorem d_Mem_holds_14 : decode b_Mem_holds 14 = .ok (.iconst 0, 1) := by decide +kernel
theorem d_Mem_holds_15 : decode b_Mem_holds 15 = .ok (.ireturn, 1) := by decide +kernel
theorem d_Prc_compute_0 : decode b_Prc_compute 0 = .ok (.iload_n 0, 1) := by decide +kernel
theorem d_Prc_compute_1 : decode b_Prc_compute 1 = .ok (.bipush 32, 2) := by decide +kernel
theorem d_Prc_compute_3 : decode b_Prc_compute 3 = .ok (.iand, 1) := by decide +kernel
theorem d_Prc_compute_4 : decode b_Prc_compute 4 = .ok (.ifCond .eq 7, 3) := by decide +kernel
theorem d_Prc_compute_7 : decode b_Prc_compute 7 = .ok (.iconst 0, 1) := by decide +kernel
theorem d_Prc_compute_8 : decode b_Prc_compute 8 = .ok (.goto 4, 3) := by decide +kernel
theorem d_Prc_compute_11 : decode b_Prc_compute 11 = .ok (.iload_n 1, 1) := by decide +kernel
theorem d_Prc_compute_12 : decode b_Prc_compute 12 = .ok (.istore_n 3, 1) := by decide +kernel
theorem d_Prc_compute_13 : decode b_Prc_compute 13 = .ok (.iload_n 0, 1) := by decide +kernel
theorem d_Prc_compute_14 : decode b_Prc_compute 14 = .ok (.bipush 16, 2) := by decide +kernel
theorem d_Prc_compute_16 : decode b_Prc_compute 16 = .ok (.iand, 1) := by decide +kernel
theorem d_Prc_compute_17 : decode b_Prc_compute 17 = .ok (.ifCond .eq 9, 3) := by decide +kernel
theorem d_Prc_compute_20 : decode b_Prc_compute 20 = .ok (.iload_n 3, 1) := by decide +kernel
theorem d_Prc_compute_21 : decode b_Prc_compute 21 = .ok (.iconst (-1), 1) := by decide +kernel
theorem d_Prc_compute_22 : decode b_Prc_compute 22 = .ok (.ixor, 1) := by decide +kernel
