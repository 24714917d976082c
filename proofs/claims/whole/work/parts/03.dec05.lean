/-! decode rows -/
theorem d_Mod_label_86 : decode b_Mod_label 86 = .ok (.aload_n 0, 1) := by decide +kernel
theorem d_Mod_label_87 : decode b_Mod_label 87 = .ok (.getfield 83, 3) := by decide +kernel
theorem d_Mod_label_90 : decode b_Mod_label 90 = .ok (.iastore, 1) := by decide +kernel
theorem d_Mod_label_91 : decode b_Mod_label 91 = .ok (.iconst 0, 1) := by decide +kernel
theorem d_Mod_label_92 : decode b_Mod_label 92 = .ok (.ireturn, 1) := by decide +kernel
theorem d_Mod_isSymbol_0 : decode b_Mod_isSymbol 0 = .ok (.iload_n 2, 1) := by decide +kernel
theorem d_Mod_isSymbol_1 : decode b_Mod_isSymbol 1 = .ok (.iconst 1, 1) := by decide +kernel
theorem d_Mod_isSymbol_2 : decode b_Mod_isSymbol 2 = .ok (.if_icmp .lt 21, 3) := by decide +kernel
theorem d_Mod_isSymbol_5 : decode b_Mod_isSymbol 5 = .ok (.iload_n 2, 1) := by decide +kernel
theorem d_Mod_isSymbol_6 : decode b_Mod_isSymbol 6 = .ok (.bipush 16, 2) := by decide +kernel
theorem d_Mod_isSymbol_8 : decode b_Mod_isSymbol 8 = .ok (.if_icmp .gt 15, 3) := by decide +kernel
theorem d_Mod_isSymbol_11 : decode b_Mod_isSymbol 11 = .ok (.aload_n 0, 1) := by decide +kernel
theorem d_Mod_isSymbol_12 : decode b_Mod_isSymbol 12 = .ok (.getfield 7, 3) := by decide +kernel
theorem d_Mod_isSymbol_15 : decode b_Mod_isSymbol 15 = .ok (.iload_n 1, 1) := by decide +kernel
theorem d_Mod_isSymbol_16 : decode b_Mod_isSymbol 16 = .ok (.iaload, 1) := by decide +kernel
theorem d_Mod_isSymbol_17 : decode b_Mod_isSymbol 17 = .ok (.invokestatic 56, 3) := by decide +kernel
theorem d_Mod_isSymbol_20 : decode b_Mod_isSymbol 20 = .ok (.ifCond .eq 5, 3) := by decide +kernel
theorem d_Mod_isSymbol_23 : decode b_Mod_isSymbol 23 = .ok (.iconst 0, 1) := by decide +kernel
theorem d_Mod_isSymbol_24 : decode b_Mod_isSymbol 24 = .ok (.ireturn, 1) := by decide +kernel
theorem d_Mod_isSymbol_25 : decode b_Mod_isSymbol 25 = .ok (.iconst 1, 1) := by decide +kernel
theorem d_Mod_isSymbol_26 : decode b_Mod_isSymbol 26 = .ok (.istore_n 3, 1) := by decide +kernel
theorem d_Mod_isSymbol_27 : decode b_Mod_isSymbol 27 = .ok (.iconst 0, 1) := by decide +kernel
theorem d_Mod_isSymbol_28 : decode b_Mod_isSymbol 28 = .ok (.istore 4, 2) := by decide +kernel
theorem d_Mod_isSymbol_30 : decode b_Mod_isSymbol 30 = .ok (.iload 4, 2) := by decide +kernel
theorem d_Mod_isSymbol_32 : decode b_Mod_isSymbol 32 = .ok (.iload_n 2, 1) := by decide +kernel
theorem d_Mod_isSymbol_33 : decode b_Mod_isSymbol 33 = .ok (.if_icmp .ge 34, 3) := by decide +kernel
theorem d_Mod_isSymbol_36 : decode b_Mod_isSymbol 36 = .ok (.iload_n 3, 1) := by decide +kernel
theorem d_Mod_isSymbol_37 : decode b_Mod_isSymbol 37 = .ok (.ifCond .eq 22, 3) := by decide +kernel
theorem d_Mod_isSymbol_40 : decode b_Mod_isSymbol 40 = .ok (.aload_n 0, 1) := by decide +kernel
theorem d_Mod_isSymbol_41 : decode b_Mod_isSymbol 41 = .ok (.getfield 7, 3) := by decide +kernel
theorem d_Mod_isSymbol_44 : decode b_Mod_isSymbol 44 = .ok (.iload_n 1, 1) := by decide +kernel
theorem d_Mod_isSymbol_45 : decode b_Mod_isSymbol 45 = .ok (.iload 4, 2) := by decide +kernel
theorem d_Mod_isSymbol_47 : decode b_Mod_isSymbol 47 = .ok (.iadd, 1) := by decide +kernel
theorem d_Mod_isSymbol_48 : decode b_Mod_isSymbol 48 = .ok (.iaload, 1) := by decide +kernel
theorem d_Mod_isSymbol_49 : decode b_Mod_isSymbol 49 = .ok (.invokestatic 62, 3) := by decide +kernel
theorem d_Mod_isSymbol_52 : decode b_Mod_isSymbol 52 = .ok (.ifCond .eq 7, 3) := by decide +kernel
theorem d_Mod_isSymbol_55 : decode b_Mod_isSymbol 55 = .ok (.iconst 1, 1) := by decide +kernel
theorem d_Mod_isSymbol_56 : decode b_Mod_isSymbol 56 = .ok (.goto 4, 3) := by decide +kernel
theorem d_Mod_isSymbol_59 : decode b_Mod_isSymbol 59 = .ok (.iconst 0, 1) := by decide +kernel
theorem d_Mod_isSymbol_60 : decode b_Mod_isSymbol 60 = .ok (.istore_n 3, 1) := by decide +kernel
theorem d_Mod_isSymbol_61 : decode b_Mod_isSymbol 61 = .ok (.iinc 4 1, 3) := by decide +kernel
theorem d_Mod_isSymbol_64 : decode b_Mod_isSymbol 64 = .ok (.goto (-34), 3) := by decide +kernel
theorem d_Mod_isSymbol_67 : decode b_Mod_isSymbol 67 = .ok (.iload_n 3, 1) := by decide +kernel
theorem d_Mod_isSymbol_68 : decode b_Mod_isSymbol 68 = .ok (.ireturn, 1) := by decide +kernel
theorem d_Mod_isDigit_0 : decode b_Mod_isDigit 0 = .ok (.iload_n 0, 1) := by decide +kernel
theorem d_Mod_isDigit_1 : decode b_Mod_isDigit 1 = .ok (.bipush 48, 2) := by decide +kernel
theorem d_Mod_isDigit_3 : decode b_Mod_isDigit 3 = .ok (.if_icmp .lt 13, 3) := by decide +kernel
theorem d_Mod_isDigit_6 : decode b_Mod_isDigit 6 = .ok (.iload_n 0, 1) := by decide +kernel
theorem d_Mod_isDigit_7 : decode b_Mod_isDigit 7 = .ok (.bipush 57, 2) := by decide +kernel
theorem d_Mod_isDigit_9 : decode b_Mod_isDigit 9 = .ok (.if_icmp .gt 7, 3) := by decide +kernel
theorem d_Mod_isDigit_12 : decode b_Mod_isDigit 12 = .ok (.iconst 1, 1) := by decide +kernel
theorem d_Mod_isDigit_13 : decode b_Mod_isDigit 13 = .ok (.goto 4, 3) := by decide +kernel
theorem d_Mod_isDigit_16 : decode b_Mod_isDigit 16 = .ok (.iconst 0, 1) := by decide +kernel
theorem d_Mod_isDigit_17 : decode b_Mod_isDigit 17 = .ok (.ireturn, 1) := by decide +kernel
theorem d_Mod_isSymbolByte_0 : decode b_Mod_isSymbolByte 0 = .ok (.iload_n 0, 1) := by decide +kernel
theorem d_Mod_isSymbolByte_1 : decode b_Mod_isSymbolByte 1 = .ok (.invokestatic 59, 3) := by decide +kernel
theorem d_Mod_isSymbolByte_4 : decode b_Mod_isSymbolByte 4 = .ok (.ifCond .ne 21, 3) := by decide +kernel
theorem d_Mod_isSymbolByte_7 : decode b_Mod_isSymbolByte 7 = .ok (.iload_n 0, 1) := by decide +kernel
theorem d_Mod_isSymbolByte_8 : decode b_Mod_isSymbolByte 8 = .ok (.bipush 46, 2) := by decide +kernel
theorem d_Mod_isSymbolByte_10 : decode b_Mod_isSymbolByte 10 = .ok (.if_icmp .eq 15, 3) := by decide +kernel
theorem d_Mod_isSymbolByte_13 : decode b_Mod_isSymbolByte 13 = .ok (.iload_n 0, 1) := by decide +kernel
theorem d_Mod_isSymbolByte_14 : decode b_Mod_isSymbolByte 14 = .ok (.bipush 36, 2) := by decide +kernel
theorem d_Mod_isSymbolByte_16 : decode b_Mod_isSymbolByte 16 = .ok (.if_icmp .eq 9, 3) := by decide +kernel
theorem d_Mod_isSymbolByte_19 : decode b_Mod_isSymbolByte 19 = .ok (.iload_n 0, 1) := by decide +kernel
theorem d_Mod_isSymbolByte_20 : decode b_Mod_isSymbolByte 20 = .ok (.bipush 58, 2) := by decide +kernel
theorem d_Mod_isSymbolByte_22 : decode b_Mod_isSymbolByte 22 = .ok (.if_icmp .ne 7, 3) := by decide +kernel
theorem d_Mod_isSymbolByte_25 : decode b_Mod_isSymbolByte 25 = .ok (.iconst 1, 1) := by decide +kernel
theorem d_Mod_isSymbolByte_26 : decode b_Mod_isSymbolByte 26 = .ok (.goto 4, 3) := by decide +kernel
theorem d_Mod_isSymbolByte_29 : decode b_Mod_isSymbolByte 29 = .ok (.iconst 0, 1) := by decide +kernel
theorem d_Mod_isSymbolByte_30 : decode b_Mod_isSymbolByte 30 = .ok (.ireturn, 1) := by decide +kernel
theorem d_Mod_isWordByte_0 : decode b_Mod_isWordByte 0 = .ok (.iload_n 0, 1) := by decide +kernel
theorem d_Mod_isWordByte_1 : decode b_Mod_isWordByte 1 = .ok (.invokestatic 52, 3) := by decide +kernel
theorem d_Mod_isWordByte_4 : decode b_Mod_isWordByte 4 = .ok (.ifCond .ne 16, 3) := by decide +kernel
theorem d_Mod_isWordByte_7 : decode b_Mod_isWordByte 7 = .ok (.iload_n 0, 1) := by decide +kernel
theorem d_Mod_isWordByte_8 : decode b_Mod_isWordByte 8 = .ok (.invokestatic 56, 3) := by decide +kernel
theorem d_Mod_isWordByte_11 : decode b_Mod_isWordByte 11 = .ok (.ifCond .ne 9, 3) := by decide +kernel
theorem d_Mod_isWordByte_14 : decode b_Mod_isWordByte 14 = .ok (.iload_n 0, 1) := by decide +kernel
theorem d_Mod_isWordByte_15 : decode b_Mod_isWordByte 15 = .ok (.bipush 95, 2) := by decide +kernel
theorem d_Mod_isWordByte_17 : decode b_Mod_isWordByte 17 = .ok (.if_icmp .ne 7, 3) := by decide +kernel
theorem d_Mod_isWordByte_20 : decode b_Mod_isWordByte 20 = .ok (.iconst 1, 1) := by decide +kernel
theorem d_Mod_isWordByte_21 : decode b_Mod_isWordByte 21 = .ok (.goto 4, 3) := by decide +kernel
theorem d_Mod_isWordByte_24 : decode b_Mod_isWordByte 24 = .ok (.iconst 0, 1) := by decide +kernel
theorem d_Mod_isWordByte_25 : decode b_Mod_isWordByte 25 = .ok (.ireturn, 1) := by decide +kernel
theorem d_Mod_isLetter_0 : decode b_Mod_isLetter 0 = .ok (.iload_n 0, 1) := by decide +kernel
theorem d_Mod_isLetter_1 : decode b_Mod_isLetter 1 = .ok (.bipush 97, 2) := by decide +kernel
theorem d_Mod_isLetter_3 : decode b_Mod_isLetter 3 = .ok (.if_icmp .lt 9, 3) := by decide +kernel
theorem d_Mod_isLetter_6 : decode b_Mod_isLetter 6 = .ok (.iload_n 0, 1) := by decide +kernel
theorem d_Mod_isLetter_7 : decode b_Mod_isLetter 7 = .ok (.bipush 122, 2) := by decide +kernel
theorem d_Mod_isLetter_9 : decode b_Mod_isLetter 9 = .ok (.if_icmp .le 15, 3) := by decide +kernel
theorem d_Mod_isLetter_12 : decode b_Mod_isLetter 12 = .ok (.iload_n 0, 1) := by decide +kernel
theorem d_Mod_isLetter_13 : decode b_Mod_isLetter 13 = .ok (.bipush 65, 2) := by decide +kernel
theorem d_Mod_isLetter_15 : decode b_Mod_isLetter 15 = .ok (.if_icmp .lt 13, 3) := by decide +kernel
theorem d_Mod_isLetter_18 : decode b_Mod_isLetter 18 = .ok (.iload_n 0, 1) := by decide +kernel
theorem d_Mod_isLetter_19 : decode b_Mod_isLetter 19 = .ok (.bipush 90, 2) := by decide +kernel
theorem d_Mod_isLetter_21 : decode b_Mod_isLetter 21 = .ok (.if_icmp .gt 7, 3) := by decide +kernel
theorem d_Mod_isLetter_24 : decode b_Mod_isLetter 24 = .ok (.iconst 1, 1) := by decide +kernel
theorem d_Mod_isLetter_25 : decode b_Mod_isLetter 25 = .ok (.goto 4, 3) := by decide +kernel
theorem d_Mod_isLetter_28 : decode b_Mod_isLetter 28 = .ok (.iconst 0, 1) := by decide +kernel
theorem d_Mod_isLetter_29 : decode b_Mod_isLetter 29 = .ok (.ireturn, 1) := by decide +kernel
theorem d_Mod_knownOf_0 : decode b_Mod_knownOf 0 = .ok (.aload_n 0, 1) := by decide +kernel
theorem d_Mod_knownOf_1 : decode b_Mod_knownOf 1 = .ok (.aload_n 0, 1) := by decide +kernel
theorem d_Mod_knownOf_2 : decode b_Mod_knownOf 2 = .ok (.getfield 36, 3) := by decide +kernel
theorem d_Mod_knownOf_5 : decode b_Mod_knownOf 5 = .ok (.iload_n 1, 1) := by decide +kernel
theorem d_Mod_knownOf_6 : decode b_Mod_knownOf 6 = .ok (.iload_n 2, 1) := by decide +kernel
theorem d_Mod_knownOf_7 : decode b_Mod_knownOf 7 = .ok (.invokevirtual 65, 3) := by decide +kernel
theorem d_Mod_knownOf_10 : decode b_Mod_knownOf 10 = .ok (.istore_n 3, 1) := by decide +kernel
theorem d_Mod_knownOf_11 : decode b_Mod_knownOf 11 = .ok (.iload_n 3, 1) := by decide +kernel
theorem d_Mod_knownOf_12 : decode b_Mod_knownOf 12 = .ok (.ifCond .lt 27, 3) := by decide +kernel
theorem d_Mod_knownOf_15 : decode b_Mod_knownOf 15 = .ok (.iload_n 3, 1) := by decide +kernel
theorem d_Mod_knownOf_16 : decode b_Mod_knownOf 16 = .ok (.iconst 5, 1) := by decide +kernel
theorem d_Mod_knownOf_17 : decode b_Mod_knownOf 17 = .ok (.if_icmp .ge 7, 3) := by decide +kernel
theorem d_Mod_knownOf_20 : decode b_Mod_knownOf 20 = .ok (.iload_n 3, 1) := by decide +kernel
theorem d_Mod_knownOf_21 : decode b_Mod_knownOf 21 = .ok (.goto 17, 3) := by decide +kernel
theorem d_Mod_knownOf_24 : decode b_Mod_knownOf 24 = .ok (.iload_n 3, 1) := by decide +kernel
theorem d_Mod_knownOf_25 : decode b_Mod_knownOf 25 = .ok (.iconst 5, 1) := by decide +kernel
theorem d_Mod_knownOf_26 : decode b_Mod_knownOf 26 = .ok (.if_icmp .ne 9, 3) := by decide +kernel
theorem d_Mod_knownOf_29 : decode b_Mod_knownOf 29 = .ok (.sipush 16384, 3) := by decide +kernel
theorem d_Mod_knownOf_32 : decode b_Mod_knownOf 32 = .ok (.goto 6, 3) := by decide +kernel
theorem d_Mod_knownOf_35 : decode b_Mod_knownOf 35 = .ok (.sipush 24576, 3) := by decide +kernel
theorem d_Mod_knownOf_38 : decode b_Mod_knownOf 38 = .ok (.ireturn, 1) := by decide +kernel
theorem d_Mod_knownOf_39 : decode b_Mod_knownOf 39 = .ok (.aload_n 0, 1) := by decide +kernel
theorem d_Mod_knownOf_40 : decode b_Mod_knownOf 40 = .ok (.getfield 7, 3) := by decide +kernel
theorem d_Mod_knownOf_43 : decode b_Mod_knownOf 43 = .ok (.iload_n 1, 1) := by decide +kernel
theorem d_Mod_knownOf_44 : decode b_Mod_knownOf 44 = .ok (.iaload, 1) := by decide +kernel
theorem d_Mod_knownOf_45 : decode b_Mod_knownOf 45 = .ok (.bipush 82, 2) := by decide +kernel
theorem d_Mod_knownOf_47 : decode b_Mod_knownOf 47 = .ok (.if_icmp .ne 46, 3) := by decide +kernel
theorem d_Mod_knownOf_50 : decode b_Mod_knownOf 50 = .ok (.iload_n 2, 1) := by decide +kernel
theorem d_Mod_knownOf_51 : decode b_Mod_knownOf 51 = .ok (.iconst 2, 1) := by decide +kernel
theorem d_Mod_knownOf_52 : decode b_Mod_knownOf 52 = .ok (.if_icmp .lt 41, 3) := by decide +kernel
theorem d_Mod_knownOf_55 : decode b_Mod_knownOf 55 = .ok (.iload_n 2, 1) := by decide +kernel
theorem d_Mod_knownOf_56 : decode b_Mod_knownOf 56 = .ok (.iconst 3, 1) := by decide +kernel
theorem d_Mod_knownOf_57 : decode b_Mod_knownOf 57 = .ok (.if_icmp .gt 36, 3) := by decide +kernel
theorem d_Mod_knownOf_60 : decode b_Mod_knownOf 60 = .ok (.aload_n 0, 1) := by decide +kernel
theorem d_Mod_knownOf_61 : decode b_Mod_knownOf 61 = .ok (.getfield 7, 3) := by decide +kernel
theorem d_Mod_knownOf_64 : decode b_Mod_knownOf 64 = .ok (.iload_n 1, 1) := by decide +kernel
theorem d_Mod_knownOf_65 : decode b_Mod_knownOf 65 = .ok (.iconst 1, 1) := by decide +kernel
theorem d_Mod_knownOf_66 : decode b_Mod_knownOf 66 = .ok (.iadd, 1) := by decide +kernel
theorem d_Mod_knownOf_67 : decode b_Mod_knownOf 67 = .ok (.iaload, 1) := by decide +kernel
theorem d_Mod_knownOf_68 : decode b_Mod_knownOf 68 = .ok (.invokestatic 56, 3) := by decide +kernel
theorem d_Mod_knownOf_71 : decode b_Mod_knownOf 71 = .ok (.ifCond .eq 22, 3) := by decide +kernel
theorem d_Mod_knownOf_74 : decode b_Mod_knownOf 74 = .ok (.iload_n 2, 1) := by decide +kernel
theorem d_Mod_knownOf_75 : decode b_Mod_knownOf 75 = .ok (.iconst 3, 1) := by decide +kernel
theorem d_Mod_knownOf_76 : decode b_Mod_knownOf 76 = .ok (.if_icmp .ne 19, 3) := by decide +kernel
theorem d_Mod_knownOf_79 : decode b_Mod_knownOf 79 = .ok (.aload_n 0, 1) := by decide +kernel
theorem d_Mod_knownOf_80 : decode b_Mod_knownOf 80 = .ok (.getfield 7, 3) := by decide +kernel
theorem d_Mod_knownOf_83 : decode b_Mod_knownOf 83 = .ok (.iload_n 1, 1) := by decide +kernel
theorem d_Mod_knownOf_84 : decode b_Mod_knownOf 84 = .ok (.iconst 2, 1) := by decide +kernel
theorem d_Mod_knownOf_85 : decode b_Mod_knownOf 85 = .ok (.iadd, 1) := by decide +kernel
theorem d_Mod_knownOf_86 : decode b_Mod_knownOf 86 = .ok (.iaload, 1) := by decide +kernel
theorem d_Mod_knownOf_87 : decode b_Mod_knownOf 87 = .ok (.invokestatic 56, 3) := by decide +kernel
theorem d_Mod_knownOf_90 : decode b_Mod_knownOf 90 = .ok (.ifCond .ne 5, 3) := by decide +kernel
theorem d_Mod_knownOf_93 : decode b_Mod_knownOf 93 = .ok (.iconst (-1), 1) := by decide +kernel
theorem d_Mod_knownOf_94 : decode b_Mod_knownOf 94 = .ok (.ireturn, 1) := by decide +kernel
theorem d_Mod_knownOf_95 : decode b_Mod_knownOf 95 = .ok (.iload_n 2, 1) := by decide +kernel
theorem d_Mod_knownOf_96 : decode b_Mod_knownOf 96 = .ok (.iconst 2, 1) := by decide +kernel
theorem d_Mod_knownOf_97 : decode b_Mod_knownOf 97 = .ok (.if_icmp .ne 17, 3) := by decide +kernel
theorem d_Mod_knownOf_100 : decode b_Mod_knownOf 100 = .ok (.aload_n 0, 1) := by decide +kernel
theorem d_Mod_knownOf_101 : decode b_Mod_knownOf 101 = .ok (.getfield 7, 3) := by decide +kernel
theorem d_Mod_knownOf_104 : decode b_Mod_knownOf 104 = .ok (.iload_n 1, 1) := by decide +kernel
theorem d_Mod_knownOf_105 : decode b_Mod_knownOf 105 = .ok (.iconst 1, 1) := by decide +kernel
theorem d_Mod_knownOf_106 : decode b_Mod_knownOf 106 = .ok (.iadd, 1) := by decide +kernel
theorem d_Mod_knownOf_107 : decode b_Mod_knownOf 107 = .ok (.iaload, 1) := by decide +kernel
theorem d_Mod_knownOf_108 : decode b_Mod_knownOf 108 = .ok (.bipush 48, 2) := by decide +kernel
theorem d_Mod_knownOf_110 : decode b_Mod_knownOf 110 = .ok (.isub, 1) := by decide +kernel
theorem d_Mod_knownOf_111 : decode b_Mod_knownOf 111 = .ok (.goto 29, 3) := by decide +kernel
theorem d_Mod_knownOf_114 : decode b_Mod_knownOf 114 = .ok (.bipush 10, 2) := by decide +kernel
theorem d_Mod_knownOf_116 : decode b_Mod_knownOf 116 = .ok (.aload_n 0, 1) := by decide +kernel
theorem d_Mod_knownOf_117 : decode b_Mod_knownOf 117 = .ok (.getfield 7, 3) := by decide +kernel
theorem d_Mod_knownOf_120 : decode b_Mod_knownOf 120 = .ok (.iload_n 1, 1) := by decide +kernel
theorem d_Mod_knownOf_121 : decode b_Mod_knownOf 121 = .ok (.iconst 1, 1) := by decide +kernel
theorem d_Mod_knownOf_122 : decode b_Mod_knownOf 122 = .ok (.iadd, 1) := by decide +kernel
theorem d_Mod_knownOf_123 : decode b_Mod_knownOf 123 = .ok (.iaload, 1) := by decide +kernel
theorem d_Mod_knownOf_124 : decode b_Mod_knownOf 124 = .ok (.bipush 48, 2) := by decide +kernel
theorem d_Mod_knownOf_126 : decode b_Mod_knownOf 126 = .ok (.isub, 1) := by decide +kernel
theorem d_Mod_knownOf_127 : decode b_Mod_knownOf 127 = .ok (.imul, 1) := by decide +kernel
theorem d_Mod_knownOf_128 : decode b_Mod_knownOf 128 = .ok (.aload_n 0, 1) := by decide +kernel
theorem d_Mod_knownOf_129 : decode b_Mod_knownOf 129 = .ok (.getfield 7, 3) := by decide +kernel
theorem d_Mod_knownOf_132 : decode b_Mod_knownOf 132 = .ok (.iload_n 1, 1) := by decide +kernel
theorem d_Mod_knownOf_133 : decode b_Mod_knownOf 133 = .ok (.iconst 2, 1) := by decide +kernel
theorem d_Mod_knownOf_134 : decode b_Mod_knownOf 134 = .ok (.iadd, 1) := by decide +kernel
theorem d_Mod_knownOf_135 : decode b_Mod_knownOf 135 = .ok (.iaload, 1) := by decide +kernel
theorem d_Mod_knownOf_136 : decode b_Mod_knownOf 136 = .ok (.iadd, 1) := by decide +kernel
theorem d_Mod_knownOf_137 : decode b_Mod_knownOf 137 = .ok (.bipush 48, 2) := by decide +kernel
theorem d_Mod_knownOf_139 : decode b_Mod_knownOf 139 = .ok (.isub, 1) := by decide +kernel
theorem d_Mod_knownOf_140 : decode b_Mod_knownOf 140 = .ok (.istore 4, 2) := by decide +kernel
theorem d_Mod_knownOf_142 : decode b_Mod_knownOf 142 = .ok (.iload_n 2, 1) := by decide +kernel
theorem d_Mod_knownOf_143 : decode b_Mod_knownOf 143 = .ok (.iconst 3, 1) := by decide +kernel
theorem d_Mod_knownOf_144 : decode b_Mod_knownOf 144 = .ok (.if_icmp .ne 16, 3) := by decide +kernel
theorem d_Mod_knownOf_147 : decode b_Mod_knownOf 147 = .ok (.aload_n 0, 1) := by decide +kernel
theorem d_Mod_knownOf_148 : decode b_Mod_knownOf 148 = .ok (.getfield 7, 3) := by decide +kernel
theorem d_Mod_knownOf_151 : decode b_Mod_knownOf 151 = .ok (.iload_n 1, 1) := by decide +kernel
theorem d_Mod_knownOf_152 : decode b_Mod_knownOf 152 = .ok (.iconst 1, 1) := by decide +kernel
theorem d_Mod_knownOf_153 : decode b_Mod_knownOf 153 = .ok (.iadd, 1) := by decide +kernel
theorem d_Mod_knownOf_154 : decode b_Mod_knownOf 154 = .ok (.iaload, 1) := by decide +kernel
theorem d_Mod_knownOf_155 : decode b_Mod_knownOf 155 = .ok (.bipush 49, 2) := by decide +kernel
theorem d_Mod_knownOf_157 : decode b_Mod_knownOf 157 = .ok (.if_icmp .ne 10, 3) := by decide +kernel
theorem d_Mod_knownOf_160 : decode b_Mod_knownOf 160 = .ok (.iload 4, 2) := by decide +kernel
theorem d_Mod_knownOf_162 : decode b_Mod_knownOf 162 = .ok (.bipush 15, 2) := by decide +kernel
theorem d_Mod_knownOf_164 : decode b_Mod_knownOf 164 = .ok (.if_icmp .le 7, 3) := by decide +kernel
theorem d_Mod_knownOf_167 : decode b_Mod_knownOf 167 = .ok (.iconst (-1), 1) := by decide +kernel
theorem d_Mod_knownOf_168 : decode b_Mod_knownOf 168 = .ok (.goto 5, 3) := by decide +kernel
theorem d_Mod_knownOf_171 : decode b_Mod_knownOf 171 = .ok (.iload 4, 2) := by decide +kernel
theorem d_Mod_knownOf_173 : decode b_Mod_knownOf 173 = .ok (.ireturn, 1) := by decide +kernel
theorem d_Mod_wordOf_0 : decode b_Mod_wordOf 0 = .ok (.iconst 0, 1) := by decide +kernel
theorem d_Mod_wordOf_1 : decode b_Mod_wordOf 1 = .ok (.istore 4, 2) := by decide +kernel
theorem d_Mod_wordOf_3 : decode b_Mod_wordOf 3 = .ok (.iconst 0, 1) := by decide +kernel
theorem d_Mod_wordOf_4 : decode b_Mod_wordOf 4 = .ok (.istore 5, 2) := by decide +kernel
theorem d_Mod_wordOf_6 : decode b_Mod_wordOf 6 = .ok (.iload 5, 2) := by decide +kernel
theorem d_Mod_wordOf_8 : decode b_Mod_wordOf 8 = .ok (.aload_n 1, 1) := by decide +kernel
theorem d_Mod_wordOf_9 : decode b_Mod_wordOf 9 = .ok (.arraylength, 1) := by decide +kernel
theorem d_Mod_wordOf_10 : decode b_Mod_wordOf 10 = .ok (.if_icmp .ge 94, 3) := by decide +kernel
theorem d_Mod_wordOf_13 : decode b_Mod_wordOf 13 = .ok (.iconst 0, 1) := by decide +kernel
theorem d_Mod_wordOf_14 : decode b_Mod_wordOf 14 = .ok (.istore 6, 2) := by decide +kernel
theorem d_Mod_wordOf_16 : decode b_Mod_wordOf 16 = .ok (.iload 6, 2) := by decide +kernel
theorem d_Mod_wordOf_18 : decode b_Mod_wordOf 18 = .ok (.iload_n 3, 1) := by decide +kernel
theorem d_Mod_wordOf_19 : decode b_Mod_wordOf 19 = .ok (.if_icmp .ge 31, 3) := by decide +kernel
theorem d_Mod_wordOf_22 : decode b_Mod_wordOf 22 = .ok (.aload_n 1, 1) := by decide +kernel
theorem d_Mod_wordOf_23 : decode b_Mod_wordOf 23 = .ok (.iload 5, 2) := by decide +kernel
theorem d_Mod_wordOf_25 : decode b_Mod_wordOf 25 = .ok (.iload 6, 2) := by decide +kernel
theorem d_Mod_wordOf_27 : decode b_Mod_wordOf 27 = .ok (.iadd, 1) := by decide +kernel
theorem d_Mod_wordOf_28 : decode b_Mod_wordOf 28 = .ok (.caload, 1) := by decide +kernel
theorem d_Mod_wordOf_29 : decode b_Mod_wordOf 29 = .ok (.aload_n 0, 1) := by decide +kernel
theorem d_Mod_wordOf_30 : decode b_Mod_wordOf 30 = .ok (.getfield 7, 3) := by decide +kernel
theorem d_Mod_wordOf_33 : decode b_Mod_wordOf 33 = .ok (.iload_n 2, 1) := by decide +kernel
theorem d_Mod_wordOf_34 : decode b_Mod_wordOf 34 = .ok (.iload 6, 2) := by decide +kernel
theorem d_Mod_wordOf_36 : decode b_Mod_wordOf 36 = .ok (.iadd, 1) := by decide +kernel
theorem d_Mod_wordOf_37 : decode b_Mod_wordOf 37 = .ok (.iaload, 1) := by decide +kernel
theorem d_Mod_wordOf_38 : decode b_Mod_wordOf 38 = .ok (.if_icmp .ne 12, 3) := by decide +kernel
theorem d_Mod_wordOf_41 : decode b_Mod_wordOf 41 = .ok (.iload 6, 2) := by decide +kernel
theorem d_Mod_wordOf_43 : decode b_Mod_wordOf 43 = .ok (.iconst 1, 1) := by decide +kernel
theorem d_Mod_wordOf_44 : decode b_Mod_wordOf 44 = .ok (.iadd, 1) := by decide +kernel
theorem d_Mod_wordOf_45 : decode b_Mod_wordOf 45 = .ok (.istore 6, 2) := by decide +kernel
theorem d_Mod_wordOf_47 : decode b_Mod_wordOf 47 = .ok (.goto (-31), 3) := by decide +kernel
theorem d_Mod_wordOf_50 : decode b_Mod_wordOf 50 = .ok (.iload 6, 2) := by decide +kernel
theorem d_Mod_wordOf_52 : decode b_Mod_wordOf 52 = .ok (.iload_n 3, 1) := by decide +kernel
theorem d_Mod_wordOf_53 : decode b_Mod_wordOf 53 = .ok (.if_icmp .ne 18, 3) := by decide +kernel
theorem d_Mod_wordOf_56 : decode b_Mod_wordOf 56 = .ok (.aload_n 1, 1) := by decide +kernel
theorem d_Mod_wordOf_57 : decode b_Mod_wordOf 57 = .ok (.iload 5, 2) := by decide +kernel
theorem d_Mod_wordOf_59 : decode b_Mod_wordOf 59 = .ok (.iload 6, 2) := by decide +kernel
theorem d_Mod_wordOf_61 : decode b_Mod_wordOf 61 = .ok (.iadd, 1) := by decide +kernel
theorem d_Mod_wordOf_62 : decode b_Mod_wordOf 62 = .ok (.caload, 1) := by decide +kernel
theorem d_Mod_wordOf_63 : decode b_Mod_wordOf 63 = .ok (.bipush 32, 2) := by decide +kernel
theorem d_Mod_wordOf_65 : decode b_Mod_wordOf 65 = .ok (.if_icmp .ne 6, 3) := by decide +kernel
theorem d_Mod_wordOf_68 : decode b_Mod_wordOf 68 = .ok (.iload 4, 2) := by decide +kernel
theorem d_Mod_wordOf_70 : decode b_Mod_wordOf 70 = .ok (.ireturn, 1) := by decide +kernel
theorem d_Mod_wordOf_71 : decode b_Mod_wordOf 71 = .ok (.aload_n 1, 1) := by decide +kernel
theorem d_Mod_wordOf_72 : decode b_Mod_wordOf 72 = .ok (.iload 5, 2) := by decide +kernel
theorem d_Mod_wordOf_74 : decode b_Mod_wordOf 74 = .ok (.caload, 1) := by decide +kernel
theorem d_Mod_wordOf_75 : decode b_Mod_wordOf 75 = .ok (.bipush 32, 2) := by decide +kernel
theorem d_Mod_wordOf_77 : decode b_Mod_wordOf 77 = .ok (.if_icmp .eq 12, 3) := by decide +kernel
theorem d_Mod_wordOf_80 : decode b_Mod_wordOf 80 = .ok (.iload 5, 2) := by decide +kernel
theorem d_Mod_wordOf_82 : decode b_Mod_wordOf 82 = .ok (.iconst 1, 1) := by decide +kernel
theorem d_Mod_wordOf_83 : decode b_Mod_wordOf 83 = .ok (.iadd, 1) := by decide +kernel
theorem d_Mod_wordOf_84 : decode b_Mod_wordOf 84 = .ok (.istore 5, 2) := by decide +kernel
theorem d_Mod_wordOf_86 : decode b_Mod_wordOf 86 = .ok (.goto (-15), 3) := by decide +kernel
theorem d_Mod_wordOf_89 : decode b_Mod_wordOf 89 = .ok (.iload 5, 2) := by decide +kernel
theorem d_Mod_wordOf_91 : decode b_Mod_wordOf 91 = .ok (.iconst 1, 1) := by decide +kernel
theorem d_Mod_wordOf_92 : decode b_Mod_wordOf 92 = .ok (.iadd, 1) := by decide +kernel
theorem d_Mod_wordOf_93 : decode b_Mod_wordOf 93 = .ok (.istore 5, 2) := by decide +kernel
theorem d_Mod_wordOf_95 : decode b_Mod_wordOf 95 = .ok (.iload 4, 2) := by decide +kernel
theorem d_Mod_wordOf_97 : decode b_Mod_wordOf 97 = .ok (.iconst 1, 1) := by decide +kernel
theorem d_Mod_wordOf_98 : decode b_Mod_wordOf 98 = .ok (.iadd, 1) := by decide +kernel
theorem d_Mod_wordOf_99 : decode b_Mod_wordOf 99 = .ok (.istore 4, 2) := by decide +kernel
theorem d_Mod_wordOf_101 : decode b_Mod_wordOf 101 = .ok (.goto (-95), 3) := by decide +kernel
theorem d_Mod_wordOf_104 : decode b_Mod_wordOf 104 = .ok (.iconst (-1), 1) := by decide +kernel
theorem d_Mod_wordOf_105 : decode b_Mod_wordOf 105 = .ok (.ireturn, 1) := by decide +kernel
theorem d_Mod_symbolOf_0 : decode b_Mod_symbolOf 0 = .ok (.iconst 0, 1) := by decide +kernel
theorem d_Mod_symbolOf_1 : decode b_Mod_symbolOf 1 = .ok (.istore_n 3, 1) := by decide +kernel
theorem d_Mod_symbolOf_2 : decode b_Mod_symbolOf 2 = .ok (.iload_n 3, 1) := by decide +kernel
theorem d_Mod_symbolOf_3 : decode b_Mod_symbolOf 3 = .ok (.aload_n 0, 1) := by decide +kernel
theorem d_Mod_symbolOf_4 : decode b_Mod_symbolOf 4 = .ok (.getfield 69, 3) := by decide +kernel
theorem d_Mod_symbolOf_7 : decode b_Mod_symbolOf 7 = .ok (.if_icmp .ge 71, 3) := by decide +kernel
theorem d_Mod_symbolOf_10 : decode b_Mod_symbolOf 10 = .ok (.iconst 0, 1) := by decide +kernel
theorem d_Mod_symbolOf_11 : decode b_Mod_symbolOf 11 = .ok (.istore 4, 2) := by decide +kernel
theorem d_Mod_symbolOf_13 : decode b_Mod_symbolOf 13 = .ok (.iload 4, 2) := by decide +kernel
theorem d_Mod_symbolOf_15 : decode b_Mod_symbolOf 15 = .ok (.iload_n 2, 1) := by decide +kernel
theorem d_Mod_symbolOf_16 : decode b_Mod_symbolOf 16 = .ok (.if_icmp .ge 48, 3) := by decide +kernel
theorem d_Mod_symbolOf_19 : decode b_Mod_symbolOf 19 = .ok (.aload_n 0, 1) := by decide +kernel
theorem d_Mod_symbolOf_20 : decode b_Mod_symbolOf 20 = .ok (.getfield 23, 3) := by decide +kernel
theorem d_Mod_symbolOf_23 : decode b_Mod_symbolOf 23 = .ok (.iload_n 3, 1) := by decide +kernel
theorem d_Mod_symbolOf_24 : decode b_Mod_symbolOf 24 = .ok (.iaload, 1) := by decide +kernel
theorem d_Mod_symbolOf_25 : decode b_Mod_symbolOf 25 = .ok (.iload_n 2, 1) := by decide +kernel
theorem d_Mod_symbolOf_26 : decode b_Mod_symbolOf 26 = .ok (.if_icmp .ne 38, 3) := by decide +kernel
theorem d_Mod_symbolOf_29 : decode b_Mod_symbolOf 29 = .ok (.aload_n 0, 1) := by decide +kernel
theorem d_Mod_symbolOf_30 : decode b_Mod_symbolOf 30 = .ok (.getfield 7, 3) := by decide +kernel
theorem d_Mod_symbolOf_33 : decode b_Mod_symbolOf 33 = .ok (.aload_n 0, 1) := by decide +kernel
theorem d_Mod_symbolOf_34 : decode b_Mod_symbolOf 34 = .ok (.getfield 20, 3) := by decide +kernel
theorem d_Mod_symbolOf_37 : decode b_Mod_symbolOf 37 = .ok (.iload_n 3, 1) := by decide +kernel
theorem d_Mod_symbolOf_38 : decode b_Mod_symbolOf 38 = .ok (.iaload, 1) := by decide +kernel
theorem d_Mod_symbolOf_39 : decode b_Mod_symbolOf 39 = .ok (.iload 4, 2) := by decide +kernel
theorem d_Mod_symbolOf_41 : decode b_Mod_symbolOf 41 = .ok (.iadd, 1) := by decide +kernel
theorem d_Mod_symbolOf_42 : decode b_Mod_symbolOf 42 = .ok (.iaload, 1) := by decide +kernel
theorem d_Mod_symbolOf_43 : decode b_Mod_symbolOf 43 = .ok (.aload_n 0, 1) := by decide +kernel
theorem d_Mod_symbolOf_44 : decode b_Mod_symbolOf 44 = .ok (.getfield 7, 3) := by decide +kernel
theorem d_Mod_symbolOf_47 : decode b_Mod_symbolOf 47 = .ok (.iload_n 1, 1) := by decide +kernel
theorem d_Mod_symbolOf_48 : decode b_Mod_symbolOf 48 = .ok (.iload 4, 2) := by decide +kernel
theorem d_Mod_symbolOf_50 : decode b_Mod_symbolOf 50 = .ok (.iadd, 1) := by decide +kernel
theorem d_Mod_symbolOf_51 : decode b_Mod_symbolOf 51 = .ok (.iaload, 1) := by decide +kernel
theorem d_Mod_symbolOf_52 : decode b_Mod_symbolOf 52 = .ok (.if_icmp .ne 12, 3) := by decide +kernel
theorem d_Mod_symbolOf_55 : decode b_Mod_symbolOf 55 = .ok (.iload 4, 2) := by decide +kernel
theorem d_Mod_symbolOf_57 : decode b_Mod_symbolOf 57 = .ok (.iconst 1, 1) := by decide +kernel
theorem d_Mod_symbolOf_58 : decode b_Mod_symbolOf 58 = .ok (.iadd, 1) := by decide +kernel
theorem d_Mod_symbolOf_59 : decode b_Mod_symbolOf 59 = .ok (.istore 4, 2) := by decide +kernel
theorem d_Mod_symbolOf_61 : decode b_Mod_symbolOf 61 = .ok (.goto (-48), 3) := by decide +kernel
theorem d_Mod_symbolOf_64 : decode b_Mod_symbolOf 64 = .ok (.iload 4, 2) := by decide +kernel
theorem d_Mod_symbolOf_66 : decode b_Mod_symbolOf 66 = .ok (.iload_n 2, 1) := by decide +kernel
theorem d_Mod_symbolOf_67 : decode b_Mod_symbolOf 67 = .ok (.if_icmp .ne 5, 3) := by decide +kernel
theorem d_Mod_symbolOf_70 : decode b_Mod_symbolOf 70 = .ok (.iload_n 3, 1) := by decide +kernel
theorem d_Mod_symbolOf_71 : decode b_Mod_symbolOf 71 = .ok (.ireturn, 1) := by decide +kernel
theorem d_Mod_symbolOf_72 : decode b_Mod_symbolOf 72 = .ok (.iinc 3 1, 3) := by decide +kernel
theorem d_Mod_symbolOf_75 : decode b_Mod_symbolOf 75 = .ok (.goto (-73), 3) := by decide +kernel
theorem d_Mod_symbolOf_78 : decode b_Mod_symbolOf 78 = .ok (.aload_n 0, 1) := by decide +kernel
theorem d_Mod_symbolOf_79 : decode b_Mod_symbolOf 79 = .ok (.getfield 69, 3) := by decide +kernel
theorem d_Mod_symbolOf_82 : decode b_Mod_symbolOf 82 = .ok (.bipush 40, 2) := by decide +kernel
theorem d_Mod_symbolOf_84 : decode b_Mod_symbolOf 84 = .ok (.if_icmp .ne 5, 3) := by decide +kernel
theorem d_Mod_symbolOf_87 : decode b_Mod_symbolOf 87 = .ok (.iconst (-1), 1) := by decide +kernel
theorem d_Mod_symbolOf_88 : decode b_Mod_symbolOf 88 = .ok (.ireturn, 1) := by decide +kernel
theorem d_Mod_symbolOf_89 : decode b_Mod_symbolOf 89 = .ok (.aload_n 0, 1) := by decide +kernel
theorem d_Mod_symbolOf_90 : decode b_Mod_symbolOf 90 = .ok (.getfield 20, 3) := by decide +kernel
theorem d_Mod_symbolOf_93 : decode b_Mod_symbolOf 93 = .ok (.aload_n 0, 1) := by decide +kernel
theorem d_Mod_symbolOf_94 : decode b_Mod_symbolOf 94 = .ok (.getfield 69, 3) := by decide +kernel
theorem d_Mod_symbolOf_97 : decode b_Mod_symbolOf 97 = .ok (.iload_n 1, 1) := by decide +kernel
theorem d_Mod_symbolOf_98 : decode b_Mod_symbolOf 98 = .ok (.iastore, 1) := by decide +kernel
theorem d_Mod_symbolOf_99 : decode b_Mod_symbolOf 99 = .ok (.aload_n 0, 1) := by decide +kernel
theorem d_Mod_symbolOf_100 : decode b_Mod_symbolOf 100 = .ok (.getfield 23, 3) := by decide +kernel
theorem d_Mod_symbolOf_103 : decode b_Mod_symbolOf 103 = .ok (.aload_n 0, 1) := by decide +kernel
theorem d_Mod_symbolOf_104 : decode b_Mod_symbolOf 104 = .ok (.getfield 69, 3) := by decide +kernel
theorem d_Mod_symbolOf_107 : decode b_Mod_symbolOf 107 = .ok (.iload_n 2, 1) := by decide +kernel
theorem d_Mod_symbolOf_108 : decode b_Mod_symbolOf 108 = .ok (.iastore, 1) := by decide +kernel
theorem d_Mod_symbolOf_109 : decode b_Mod_symbolOf 109 = .ok (.aload_n 0, 1) := by decide +kernel
theorem d_Mod_symbolOf_110 : decode b_Mod_symbolOf 110 = .ok (.getfield 26, 3) := by decide +kernel
theorem d_Mod_symbolOf_113 : decode b_Mod_symbolOf 113 = .ok (.aload_n 0, 1) := by decide +kernel
theorem d_Mod_symbolOf_114 : decode b_Mod_symbolOf 114 = .ok (.getfield 69, 3) := by decide +kernel
theorem d_Mod_symbolOf_117 : decode b_Mod_symbolOf 117 = .ok (.iconst (-1), 1) := by decide +kernel
theorem d_Mod_symbolOf_118 : decode b_Mod_symbolOf 118 = .ok (.iastore, 1) := by decide +kernel
theorem d_Mod_symbolOf_119 : decode b_Mod_symbolOf 119 = .ok (.aload_n 0, 1) := by decide +kernel
theorem d_Mod_symbolOf_120 : decode b_Mod_symbolOf 120 = .ok (.aload_n 0, 1) := by decide +kernel
theorem d_Mod_symbolOf_121 : decode b_Mod_symbolOf 121 = .ok (.getfield 69, 3) := by decide +kernel
theorem d_Mod_symbolOf_124 : decode b_Mod_symbolOf 124 = .ok (.iconst 1, 1) := by decide +kernel
theorem d_Mod_symbolOf_125 : decode b_Mod_symbolOf 125 = .ok (.iadd, 1) := by decide +kernel
theorem d_Mod_symbolOf_126 : decode b_Mod_symbolOf 126 = .ok (.putfield 69, 3) := by decide +kernel
theorem d_Mod_symbolOf_129 : decode b_Mod_symbolOf 129 = .ok (.aload_n 0, 1) := by decide +kernel
theorem d_Mod_symbolOf_130 : decode b_Mod_symbolOf 130 = .ok (.getfield 69, 3) := by decide +kernel
theorem d_Mod_symbolOf_133 : decode b_Mod_symbolOf 133 = .ok (.iconst 1, 1) := by decide +kernel
theorem d_Mod_symbolOf_134 : decode b_Mod_symbolOf 134 = .ok (.isub, 1) := by decide +kernel
theorem d_Mod_symbolOf_135 : decode b_Mod_symbolOf 135 = .ok (.ireturn, 1) := by decide +kernel
theorem d_Mod_address_0 : decode b_Mod_address 0 = .ok (.iload_n 2, 1) := by decide +kernel
theorem d_Mod_address_1 : decode b_Mod_address 1 = .ok (.ifCond .le 12, 3) := by decide +kernel
theorem d_Mod_address_4 : decode b_Mod_address 4 = .ok (.iload_n 2, 1) := by decide +kernel
theorem d_Mod_address_5 : decode b_Mod_address 5 = .ok (.iconst 5, 1) := by decide +kernel
theorem d_Mod_address_6 : decode b_Mod_address 6 = .ok (.if_icmp .gt 7, 3) := by decide +kernel
theorem d_Mod_address_9 : decode b_Mod_address 9 = .ok (.iconst 1, 1) := by decide +kernel
theorem d_Mod_address_10 : decode b_Mod_address 10 = .ok (.goto 4, 3) := by decide +kernel
theorem d_Mod_address_13 : decode b_Mod_address 13 = .ok (.iconst 0, 1) := by decide +kernel
theorem d_Mod_address_14 : decode b_Mod_address 14 = .ok (.istore_n 3, 1) := by decide +kernel
theorem d_Mod_address_15 : decode b_Mod_address 15 = .ok (.iconst 0, 1) := by decide +kernel
theorem d_Mod_address_16 : decode b_Mod_address 16 = .ok (.istore 4, 2) := by decide +kernel
theorem d_Mod_address_18 : decode b_Mod_address 18 = .ok (.iconst 0, 1) := by decide +kernel
theorem d_Mod_address_19 : decode b_Mod_address 19 = .ok (.istore 5, 2) := by decide +kernel
theorem d_Mod_address_21 : decode b_Mod_address 21 = .ok (.iload 5, 2) := by decide +kernel
theorem d_Mod_address_23 : decode b_Mod_address 23 = .ok (.iload_n 2, 1) := by decide +kernel
theorem d_Mod_address_24 : decode b_Mod_address 24 = .ok (.if_icmp .ge 46, 3) := by decide +kernel
theorem d_Mod_address_27 : decode b_Mod_address 27 = .ok (.iload_n 3, 1) := by decide +kernel
theorem d_Mod_address_28 : decode b_Mod_address 28 = .ok (.ifCond .eq 42, 3) := by decide +kernel
theorem d_Mod_address_31 : decode b_Mod_address 31 = .ok (.aload_n 0, 1) := by decide +kernel
theorem d_Mod_address_32 : decode b_Mod_address 32 = .ok (.getfield 7, 3) := by decide +kernel
theorem d_Mod_address_35 : decode b_Mod_address 35 = .ok (.iload_n 1, 1) := by decide +kernel
theorem d_Mod_address_36 : decode b_Mod_address 36 = .ok (.iload 5, 2) := by decide +kernel
theorem d_Mod_address_38 : decode b_Mod_address 38 = .ok (.iadd, 1) := by decide +kernel
theorem d_Mod_address_39 : decode b_Mod_address 39 = .ok (.iaload, 1) := by decide +kernel
theorem d_Mod_address_40 : decode b_Mod_address 40 = .ok (.invokestatic 56, 3) := by decide +kernel
theorem d_Mod_address_43 : decode b_Mod_address 43 = .ok (.istore_n 3, 1) := by decide +kernel
theorem d_Mod_address_44 : decode b_Mod_address 44 = .ok (.bipush 10, 2) := by decide +kernel
theorem d_Mod_address_46 : decode b_Mod_address 46 = .ok (.iload 4, 2) := by decide +kernel
theorem d_Mod_address_48 : decode b_Mod_address 48 = .ok (.imul, 1) := by decide +kernel
theorem d_Mod_address_49 : decode b_Mod_address 49 = .ok (.aload_n 0, 1) := by decide +kernel
theorem d_Mod_address_50 : decode b_Mod_address 50 = .ok (.getfield 7, 3) := by decide +kernel
theorem d_Mod_address_53 : decode b_Mod_address 53 = .ok (.iload_n 1, 1) := by decide +kernel
theorem d_Mod_address_54 : decode b_Mod_address 54 = .ok (.iload 5, 2) := by decide +kernel
theorem d_Mod_address_56 : decode b_Mod_address 56 = .ok (.iadd, 1) := by decide +kernel
theorem d_Mod_address_57 : decode b_Mod_address 57 = .ok (.iaload, 1) := by decide +kernel
theorem d_Mod_address_58 : decode b_Mod_address 58 = .ok (.iadd, 1) := by decide +kernel
theorem d_Mod_address_59 : decode b_Mod_address 59 = .ok (.bipush 48, 2) := by decide +kernel
theorem d_Mod_address_61 : decode b_Mod_address 61 = .ok (.isub, 1) := by decide +kernel
theorem d_Mod_address_62 : decode b_Mod_address 62 = .ok (.istore 4, 2) := by decide +kernel
theorem d_Mod_address_64 : decode b_Mod_address 64 = .ok (.iinc 5 1, 3) := by decide +kernel
theorem d_Mod_address_67 : decode b_Mod_address 67 = .ok (.goto (-46), 3) := by decide +kernel
theorem d_Mod_address_70 : decode b_Mod_address 70 = .ok (.iload_n 3, 1) := by decide +kernel
theorem d_Mod_address_71 : decode b_Mod_address 71 = .ok (.ifCond .eq 11, 3) := by decide +kernel
theorem d_Mod_address_74 : decode b_Mod_address 74 = .ok (.iload 4, 2) := by decide +kernel
theorem d_Mod_address_76 : decode b_Mod_address 76 = .ok (.sipush 32767, 3) := by decide +kernel
theorem d_Mod_address_79 : decode b_Mod_address 79 = .ok (.if_icmp .gt 16, 3) := by decide +kernel
theorem d_Mod_address_82 : decode b_Mod_address 82 = .ok (.iload_n 3, 1) := by decide +kernel
theorem d_Mod_address_83 : decode b_Mod_address 83 = .ok (.ifCond .ne 14, 3) := by decide +kernel
theorem d_Mod_address_86 : decode b_Mod_address 86 = .ok (.aload_n 0, 1) := by decide +kernel
theorem d_Mod_address_87 : decode b_Mod_address 87 = .ok (.iload_n 1, 1) := by decide +kernel
theorem d_Mod_address_88 : decode b_Mod_address 88 = .ok (.iload_n 2, 1) := by decide +kernel
theorem d_Mod_address_89 : decode b_Mod_address 89 = .ok (.invokevirtual 72, 3) := by decide +kernel
theorem d_Mod_address_92 : decode b_Mod_address 92 = .ok (.ifCond .ne 5, 3) := by decide +kernel
theorem d_Mod_address_95 : decode b_Mod_address 95 = .ok (.iconst 1, 1) := by decide +kernel
theorem d_Mod_address_96 : decode b_Mod_address 96 = .ok (.ireturn, 1) := by decide +kernel
theorem d_Mod_address_97 : decode b_Mod_address 97 = .ok (.aload_n 0, 1) := by decide +kernel
theorem d_Mod_address_98 : decode b_Mod_address 98 = .ok (.getfield 83, 3) := by decide +kernel
theorem d_Mod_address_101 : decode b_Mod_address 101 = .ok (.sipush 600, 3) := by decide +kernel
theorem d_Mod_address_104 : decode b_Mod_address 104 = .ok (.if_icmp .ne 5, 3) := by decide +kernel
theorem d_Mod_address_107 : decode b_Mod_address 107 = .ok (.iconst 2, 1) := by decide +kernel
theorem d_Mod_address_108 : decode b_Mod_address 108 = .ok (.ireturn, 1) := by decide +kernel
theorem d_Mod_address_109 : decode b_Mod_address 109 = .ok (.aload_n 0, 1) := by decide +kernel
theorem d_Mod_address_110 : decode b_Mod_address 110 = .ok (.getfield 29, 3) := by decide +kernel
theorem d_Mod_address_113 : decode b_Mod_address 113 = .ok (.aload_n 0, 1) := by decide +kernel
theorem d_Mod_address_114 : decode b_Mod_address 114 = .ok (.getfield 83, 3) := by decide +kernel
theorem d_Mod_address_117 : decode b_Mod_address 117 = .ok (.iconst (-1), 1) := by decide +kernel
theorem d_Mod_address_118 : decode b_Mod_address 118 = .ok (.iastore, 1) := by decide +kernel
theorem d_Mod_address_119 : decode b_Mod_address 119 = .ok (.iload_n 3, 1) := by decide +kernel
theorem d_Mod_address_120 : decode b_Mod_address 120 = .ok (.ifCond .eq 8, 3) := by decide +kernel
theorem d_Mod_address_123 : decode b_Mod_address 123 = .ok (.iload 4, 2) := by decide +kernel
theorem d_Mod_address_125 : decode b_Mod_address 125 = .ok (.goto 9, 3) := by decide +kernel
theorem d_Mod_address_128 : decode b_Mod_address 128 = .ok (.aload_n 0, 1) := by decide +kernel
theorem d_Mod_address_129 : decode b_Mod_address 129 = .ok (.iload_n 1, 1) := by decide +kernel
theorem d_Mod_address_130 : decode b_Mod_address 130 = .ok (.iload_n 2, 1) := by decide +kernel
theorem d_Mod_address_131 : decode b_Mod_address 131 = .ok (.invokevirtual 76, 3) := by decide +kernel
theorem d_Mod_address_134 : decode b_Mod_address 134 = .ok (.istore 5, 2) := by decide +kernel
theorem d_Mod_address_136 : decode b_Mod_address 136 = .ok (.iload 5, 2) := by decide +kernel
theorem d_Mod_address_138 : decode b_Mod_address 138 = .ok (.iconst (-1), 1) := by decide +kernel
theorem d_Mod_address_139 : decode b_Mod_address 139 = .ok (.if_icmp .ne 33, 3) := by decide +kernel
theorem d_Mod_address_142 : decode b_Mod_address 142 = .ok (.aload_n 0, 1) := by decide +kernel
theorem d_Mod_address_143 : decode b_Mod_address 143 = .ok (.getfield 29, 3) := by decide +kernel
theorem d_Mod_address_146 : decode b_Mod_address 146 = .ok (.aload_n 0, 1) := by decide +kernel
theorem d_Mod_address_147 : decode b_Mod_address 147 = .ok (.getfield 83, 3) := by decide +kernel
theorem d_Mod_address_150 : decode b_Mod_address 150 = .ok (.aload_n 0, 1) := by decide +kernel
theorem d_Mod_address_151 : decode b_Mod_address 151 = .ok (.iload_n 1, 1) := by decide +kernel
theorem d_Mod_address_152 : decode b_Mod_address 152 = .ok (.iload_n 2, 1) := by decide +kernel
theorem d_Mod_address_153 : decode b_Mod_address 153 = .ok (.invokevirtual 80, 3) := by decide +kernel
theorem d_Mod_address_156 : decode b_Mod_address 156 = .ok (.iastore, 1) := by decide +kernel
theorem d_Mod_address_157 : decode b_Mod_address 157 = .ok (.aload_n 0, 1) := by decide +kernel
theorem d_Mod_address_158 : decode b_Mod_address 158 = .ok (.getfield 29, 3) := by decide +kernel
theorem d_Mod_address_161 : decode b_Mod_address 161 = .ok (.aload_n 0, 1) := by decide +kernel
theorem d_Mod_address_162 : decode b_Mod_address 162 = .ok (.getfield 83, 3) := by decide +kernel
theorem d_Mod_address_165 : decode b_Mod_address 165 = .ok (.iaload, 1) := by decide +kernel
theorem d_Mod_address_166 : decode b_Mod_address 166 = .ok (.iconst (-1), 1) := by decide +kernel
theorem d_Mod_address_167 : decode b_Mod_address 167 = .ok (.if_icmp .ne 5, 3) := by decide +kernel
theorem d_Mod_address_170 : decode b_Mod_address 170 = .ok (.iconst 2, 1) := by decide +kernel
theorem d_Mod_address_171 : decode b_Mod_address 171 = .ok (.ireturn, 1) := by decide +kernel
theorem d_Mod_address_172 : decode b_Mod_address 172 = .ok (.aload_n 0, 1) := by decide +kernel
theorem d_Mod_address_173 : decode b_Mod_address 173 = .ok (.getfield 17, 3) := by decide +kernel
theorem d_Mod_address_176 : decode b_Mod_address 176 = .ok (.aload_n 0, 1) := by decide +kernel
theorem d_Mod_address_177 : decode b_Mod_address 177 = .ok (.getfield 83, 3) := by decide +kernel
theorem d_Mod_address_180 : decode b_Mod_address 180 = .ok (.iload 5, 2) := by decide +kernel
theorem d_Mod_address_182 : decode b_Mod_address 182 = .ok (.iconst (-1), 1) := by decide +kernel
theorem d_Mod_address_183 : decode b_Mod_address 183 = .ok (.if_icmp .ne 7, 3) := by decide +kernel
