/-! decode rows -/
theorem d_Txt_isSymbol_4 : decode b_Txt_isSymbol 4 = .ok (.if_icmp .lt 22, 3) := by decide +kernel
theorem d_Txt_isSymbol_7 : decode b_Txt_isSymbol 7 = .ok (.iload_n 2, 1) := by decide +kernel
theorem d_Txt_isSymbol_8 : decode b_Txt_isSymbol 8 = .ok (.iload_n 1, 1) := by decide +kernel
theorem d_Txt_isSymbol_9 : decode b_Txt_isSymbol 9 = .ok (.isub, 1) := by decide +kernel
theorem d_Txt_isSymbol_10 : decode b_Txt_isSymbol 10 = .ok (.bipush 16, 2) := by decide +kernel
theorem d_Txt_isSymbol_12 : decode b_Txt_isSymbol 12 = .ok (.if_icmp .gt 14, 3) := by decide +kernel
theorem d_Txt_isSymbol_15 : decode b_Txt_isSymbol 15 = .ok (.aload_n 0, 1) := by decide +kernel
theorem d_Txt_isSymbol_16 : decode b_Txt_isSymbol 16 = .ok (.iload_n 1, 1) := by decide +kernel
theorem d_Txt_isSymbol_17 : decode b_Txt_isSymbol 17 = .ok (.invokevirtual 17, 3) := by decide +kernel
theorem d_Txt_isSymbol_20 : decode b_Txt_isSymbol 20 = .ok (.invokestatic 31, 3) := by decide +kernel
theorem d_Txt_isSymbol_23 : decode b_Txt_isSymbol 23 = .ok (.ifCond .eq 5, 3) := by decide +kernel
theorem d_Txt_isSymbol_26 : decode b_Txt_isSymbol 26 = .ok (.iconst 0, 1) := by decide +kernel
theorem d_Txt_isSymbol_27 : decode b_Txt_isSymbol 27 = .ok (.ireturn, 1) := by decide +kernel
theorem d_Txt_isSymbol_28 : decode b_Txt_isSymbol 28 = .ok (.iload_n 1, 1) := by decide +kernel
theorem d_Txt_isSymbol_29 : decode b_Txt_isSymbol 29 = .ok (.istore_n 3, 1) := by decide +kernel
theorem d_Txt_isSymbol_30 : decode b_Txt_isSymbol 30 = .ok (.iload_n 3, 1) := by decide +kernel
theorem d_Txt_isSymbol_31 : decode b_Txt_isSymbol 31 = .ok (.iload_n 2, 1) := by decide +kernel
theorem d_Txt_isSymbol_32 : decode b_Txt_isSymbol 32 = .ok (.if_icmp .ge 22, 3) := by decide +kernel
theorem d_Txt_isSymbol_35 : decode b_Txt_isSymbol 35 = .ok (.aload_n 0, 1) := by decide +kernel
theorem d_Txt_isSymbol_36 : decode b_Txt_isSymbol 36 = .ok (.iload_n 3, 1) := by decide +kernel
theorem d_Txt_isSymbol_37 : decode b_Txt_isSymbol 37 = .ok (.invokevirtual 17, 3) := by decide +kernel
theorem d_Txt_isSymbol_40 : decode b_Txt_isSymbol 40 = .ok (.invokestatic 34, 3) := by decide +kernel
theorem d_Txt_isSymbol_43 : decode b_Txt_isSymbol 43 = .ok (.ifCond .ne 5, 3) := by decide +kernel
theorem d_Txt_isSymbol_46 : decode b_Txt_isSymbol 46 = .ok (.iconst 0, 1) := by decide +kernel
theorem d_Txt_isSymbol_47 : decode b_Txt_isSymbol 47 = .ok (.ireturn, 1) := by decide +kernel
theorem d_Txt_isSymbol_48 : decode b_Txt_isSymbol 48 = .ok (.iinc 3 1, 3) := by decide +kernel
theorem d_Txt_isSymbol_51 : decode b_Txt_isSymbol 51 = .ok (.goto (-21), 3) := by decide +kernel
theorem d_Txt_isSymbol_54 : decode b_Txt_isSymbol 54 = .ok (.iconst 1, 1) := by decide +kernel
theorem d_Txt_isSymbol_55 : decode b_Txt_isSymbol 55 = .ok (.ireturn, 1) := by decide +kernel
theorem d_Txt_isDigit_0 : decode b_Txt_isDigit 0 = .ok (.iload_n 0, 1) := by decide +kernel
theorem d_Txt_isDigit_1 : decode b_Txt_isDigit 1 = .ok (.bipush 48, 2) := by decide +kernel
theorem d_Txt_isDigit_3 : decode b_Txt_isDigit 3 = .ok (.if_icmp .lt 13, 3) := by decide +kernel
theorem d_Txt_isDigit_6 : decode b_Txt_isDigit 6 = .ok (.iload_n 0, 1) := by decide +kernel
theorem d_Txt_isDigit_7 : decode b_Txt_isDigit 7 = .ok (.bipush 57, 2) := by decide +kernel
theorem d_Txt_isDigit_9 : decode b_Txt_isDigit 9 = .ok (.if_icmp .gt 7, 3) := by decide +kernel
theorem d_Txt_isDigit_12 : decode b_Txt_isDigit 12 = .ok (.iconst 1, 1) := by decide +kernel
theorem d_Txt_isDigit_13 : decode b_Txt_isDigit 13 = .ok (.goto 4, 3) := by decide +kernel
theorem d_Txt_isDigit_16 : decode b_Txt_isDigit 16 = .ok (.iconst 0, 1) := by decide +kernel
theorem d_Txt_isDigit_17 : decode b_Txt_isDigit 17 = .ok (.ireturn, 1) := by decide +kernel
theorem d_Txt_isSymbolSign_0 : decode b_Txt_isSymbolSign 0 = .ok (.iload_n 0, 1) := by decide +kernel
theorem d_Txt_isSymbolSign_1 : decode b_Txt_isSymbolSign 1 = .ok (.bipush 65, 2) := by decide +kernel
theorem d_Txt_isSymbolSign_3 : decode b_Txt_isSymbolSign 3 = .ok (.if_icmp .lt 9, 3) := by decide +kernel
theorem d_Txt_isSymbolSign_6 : decode b_Txt_isSymbolSign 6 = .ok (.iload_n 0, 1) := by decide +kernel
theorem d_Txt_isSymbolSign_7 : decode b_Txt_isSymbolSign 7 = .ok (.bipush 90, 2) := by decide +kernel
theorem d_Txt_isSymbolSign_9 : decode b_Txt_isSymbolSign 9 = .ok (.if_icmp .le 46, 3) := by decide +kernel
theorem d_Txt_isSymbolSign_12 : decode b_Txt_isSymbolSign 12 = .ok (.iload_n 0, 1) := by decide +kernel
theorem d_Txt_isSymbolSign_13 : decode b_Txt_isSymbolSign 13 = .ok (.bipush 97, 2) := by decide +kernel
theorem d_Txt_isSymbolSign_15 : decode b_Txt_isSymbolSign 15 = .ok (.if_icmp .lt 9, 3) := by decide +kernel
theorem d_Txt_isSymbolSign_18 : decode b_Txt_isSymbolSign 18 = .ok (.iload_n 0, 1) := by decide +kernel
theorem d_Txt_isSymbolSign_19 : decode b_Txt_isSymbolSign 19 = .ok (.bipush 122, 2) := by decide +kernel
theorem d_Txt_isSymbolSign_21 : decode b_Txt_isSymbolSign 21 = .ok (.if_icmp .le 34, 3) := by decide +kernel
theorem d_Txt_isSymbolSign_24 : decode b_Txt_isSymbolSign 24 = .ok (.iload_n 0, 1) := by decide +kernel
theorem d_Txt_isSymbolSign_25 : decode b_Txt_isSymbolSign 25 = .ok (.invokestatic 31, 3) := by decide +kernel
theorem d_Txt_isSymbolSign_28 : decode b_Txt_isSymbolSign 28 = .ok (.ifCond .ne 27, 3) := by decide +kernel
theorem d_Txt_isSymbolSign_31 : decode b_Txt_isSymbolSign 31 = .ok (.iload_n 0, 1) := by decide +kernel
theorem d_Txt_isSymbolSign_32 : decode b_Txt_isSymbolSign 32 = .ok (.bipush 95, 2) := by decide +kernel
theorem d_Txt_isSymbolSign_34 : decode b_Txt_isSymbolSign 34 = .ok (.if_icmp .eq 21, 3) := by decide +kernel
theorem d_Txt_isSymbolSign_37 : decode b_Txt_isSymbolSign 37 = .ok (.iload_n 0, 1) := by decide +kernel
theorem d_Txt_isSymbolSign_38 : decode b_Txt_isSymbolSign 38 = .ok (.bipush 46, 2) := by decide +kernel
theorem d_Txt_isSymbolSign_40 : decode b_Txt_isSymbolSign 40 = .ok (.if_icmp .eq 15, 3) := by decide +kernel
theorem d_Txt_isSymbolSign_43 : decode b_Txt_isSymbolSign 43 = .ok (.iload_n 0, 1) := by decide +kernel
theorem d_Txt_isSymbolSign_44 : decode b_Txt_isSymbolSign 44 = .ok (.bipush 36, 2) := by decide +kernel
theorem d_Txt_isSymbolSign_46 : decode b_Txt_isSymbolSign 46 = .ok (.if_icmp .eq 9, 3) := by decide +kernel
theorem d_Txt_isSymbolSign_49 : decode b_Txt_isSymbolSign 49 = .ok (.iload_n 0, 1) := by decide +kernel
theorem d_Txt_isSymbolSign_50 : decode b_Txt_isSymbolSign 50 = .ok (.bipush 58, 2) := by decide +kernel
theorem d_Txt_isSymbolSign_52 : decode b_Txt_isSymbolSign 52 = .ok (.if_icmp .ne 7, 3) := by decide +kernel
theorem d_Txt_isSymbolSign_55 : decode b_Txt_isSymbolSign 55 = .ok (.iconst 1, 1) := by decide +kernel
theorem d_Txt_isSymbolSign_56 : decode b_Txt_isSymbolSign 56 = .ok (.goto 4, 3) := by decide +kernel
theorem d_Txt_isSymbolSign_59 : decode b_Txt_isSymbolSign 59 = .ok (.iconst 0, 1) := by decide +kernel
theorem d_Txt_isSymbolSign_60 : decode b_Txt_isSymbolSign 60 = .ok (.ireturn, 1) := by decide +kernel
theorem d_Rdr_knownNumber_0 : decode b_Rdr_knownNumber 0 = .ok (.getstatic 143, 3) := by decide +kernel
theorem d_Rdr_knownNumber_3 : decode b_Rdr_knownNumber 3 = .ok (.aload_n 0, 1) := by decide +kernel
theorem d_Rdr_knownNumber_4 : decode b_Rdr_knownNumber 4 = .ok (.getfield 15, 3) := by decide +kernel
theorem d_Rdr_knownNumber_7 : decode b_Rdr_knownNumber 7 = .ok (.ldc 146, 2) := by decide +kernel
theorem d_Rdr_knownNumber_9 : decode b_Rdr_knownNumber 9 = .ok (.iload_n 1, 1) := by decide +kernel
theorem d_Rdr_knownNumber_10 : decode b_Rdr_knownNumber 10 = .ok (.iload_n 2, 1) := by decide +kernel
theorem d_Rdr_knownNumber_11 : decode b_Rdr_knownNumber 11 = .ok (.invokevirtual 118, 3) := by decide +kernel
theorem d_Rdr_knownNumber_14 : decode b_Rdr_knownNumber 14 = .ok (.invokestatic 134, 3) := by decide +kernel
theorem d_Rdr_knownNumber_17 : decode b_Rdr_knownNumber 17 = .ok (.ireturn, 1) := by decide +kernel
theorem d_Txt_nameAmong_0 : decode b_Txt_nameAmong 0 = .ok (.iconst 0, 1) := by decide +kernel
theorem d_Txt_nameAmong_1 : decode b_Txt_nameAmong 1 = .ok (.istore 4, 2) := by decide +kernel
theorem d_Txt_nameAmong_3 : decode b_Txt_nameAmong 3 = .ok (.iconst 0, 1) := by decide +kernel
theorem d_Txt_nameAmong_4 : decode b_Txt_nameAmong 4 = .ok (.istore 5, 2) := by decide +kernel
theorem d_Txt_nameAmong_6 : decode b_Txt_nameAmong 6 = .ok (.iconst 1, 1) := by decide +kernel
theorem d_Txt_nameAmong_7 : decode b_Txt_nameAmong 7 = .ok (.istore 6, 2) := by decide +kernel
theorem d_Txt_nameAmong_9 : decode b_Txt_nameAmong 9 = .ok (.iconst 0, 1) := by decide +kernel
theorem d_Txt_nameAmong_10 : decode b_Txt_nameAmong 10 = .ok (.istore 7, 2) := by decide +kernel
theorem d_Txt_nameAmong_12 : decode b_Txt_nameAmong 12 = .ok (.iload 7, 2) := by decide +kernel
theorem d_Txt_nameAmong_14 : decode b_Txt_nameAmong 14 = .ok (.aload_n 1, 1) := by decide +kernel
theorem d_Txt_nameAmong_15 : decode b_Txt_nameAmong 15 = .ok (.invokevirtual 37, 3) := by decide +kernel
theorem d_Txt_nameAmong_18 : decode b_Txt_nameAmong 18 = .ok (.if_icmp .gt 86, 3) := by decide +kernel
theorem d_Txt_nameAmong_21 : decode b_Txt_nameAmong 21 = .ok (.iload 7, 2) := by decide +kernel
theorem d_Txt_nameAmong_23 : decode b_Txt_nameAmong 23 = .ok (.aload_n 1, 1) := by decide +kernel
theorem d_Txt_nameAmong_24 : decode b_Txt_nameAmong 24 = .ok (.invokevirtual 37, 3) := by decide +kernel
theorem d_Txt_nameAmong_27 : decode b_Txt_nameAmong 27 = .ok (.if_icmp .eq 14, 3) := by decide +kernel
theorem d_Txt_nameAmong_30 : decode b_Txt_nameAmong 30 = .ok (.aload_n 1, 1) := by decide +kernel
theorem d_Txt_nameAmong_31 : decode b_Txt_nameAmong 31 = .ok (.iload 7, 2) := by decide +kernel
theorem d_Txt_nameAmong_33 : decode b_Txt_nameAmong 33 = .ok (.invokevirtual 43, 3) := by decide +kernel
theorem d_Txt_nameAmong_36 : decode b_Txt_nameAmong 36 = .ok (.bipush 32, 2) := by decide +kernel
theorem d_Txt_nameAmong_38 : decode b_Txt_nameAmong 38 = .ok (.if_icmp .ne 37, 3) := by decide +kernel
theorem d_Txt_nameAmong_41 : decode b_Txt_nameAmong 41 = .ok (.iload 6, 2) := by decide +kernel
theorem d_Txt_nameAmong_43 : decode b_Txt_nameAmong 43 = .ok (.ifCond .eq 17, 3) := by decide +kernel
theorem d_Txt_nameAmong_46 : decode b_Txt_nameAmong 46 = .ok (.iload 7, 2) := by decide +kernel
theorem d_Txt_nameAmong_48 : decode b_Txt_nameAmong 48 = .ok (.iload 5, 2) := by decide +kernel
theorem d_Txt_nameAmong_50 : decode b_Txt_nameAmong 50 = .ok (.isub, 1) := by decide +kernel
theorem d_Txt_nameAmong_51 : decode b_Txt_nameAmong 51 = .ok (.iload_n 3, 1) := by decide +kernel
theorem d_Txt_nameAmong_52 : decode b_Txt_nameAmong 52 = .ok (.iload_n 2, 1) := by decide +kernel
theorem d_Txt_nameAmong_53 : decode b_Txt_nameAmong 53 = .ok (.isub, 1) := by decide +kernel
theorem d_Txt_nameAmong_54 : decode b_Txt_nameAmong 54 = .ok (.if_icmp .ne 6, 3) := by decide +kernel
theorem d_Txt_nameAmong_57 : decode b_Txt_nameAmong 57 = .ok (.iload 4, 2) := by decide +kernel
theorem d_Txt_nameAmong_59 : decode b_Txt_nameAmong 59 = .ok (.ireturn, 1) := by decide +kernel
theorem d_Txt_nameAmong_60 : decode b_Txt_nameAmong 60 = .ok (.iinc 4 1, 3) := by decide +kernel
theorem d_Txt_nameAmong_63 : decode b_Txt_nameAmong 63 = .ok (.iload 7, 2) := by decide +kernel
theorem d_Txt_nameAmong_65 : decode b_Txt_nameAmong 65 = .ok (.iconst 1, 1) := by decide +kernel
theorem d_Txt_nameAmong_66 : decode b_Txt_nameAmong 66 = .ok (.iadd, 1) := by decide +kernel
theorem d_Txt_nameAmong_67 : decode b_Txt_nameAmong 67 = .ok (.istore 5, 2) := by decide +kernel
theorem d_Txt_nameAmong_69 : decode b_Txt_nameAmong 69 = .ok (.iconst 1, 1) := by decide +kernel
theorem d_Txt_nameAmong_70 : decode b_Txt_nameAmong 70 = .ok (.istore 6, 2) := by decide +kernel
theorem d_Txt_nameAmong_72 : decode b_Txt_nameAmong 72 = .ok (.goto 26, 3) := by decide +kernel
theorem d_Txt_nameAmong_75 : decode b_Txt_nameAmong 75 = .ok (.aload_n 1, 1) := by decide +kernel
theorem d_Txt_nameAmong_76 : decode b_Txt_nameAmong 76 = .ok (.iload 7, 2) := by decide +kernel
theorem d_Txt_nameAmong_78 : decode b_Txt_nameAmong 78 = .ok (.invokevirtual 43, 3) := by decide +kernel
theorem d_Txt_nameAmong_81 : decode b_Txt_nameAmong 81 = .ok (.aload_n 0, 1) := by decide +kernel
theorem d_Txt_nameAmong_82 : decode b_Txt_nameAmong 82 = .ok (.iload_n 2, 1) := by decide +kernel
theorem d_Txt_nameAmong_83 : decode b_Txt_nameAmong 83 = .ok (.iload 7, 2) := by decide +kernel
theorem d_Txt_nameAmong_85 : decode b_Txt_nameAmong 85 = .ok (.iadd, 1) := by decide +kernel
theorem d_Txt_nameAmong_86 : decode b_Txt_nameAmong 86 = .ok (.iload 5, 2) := by decide +kernel
theorem d_Txt_nameAmong_88 : decode b_Txt_nameAmong 88 = .ok (.isub, 1) := by decide +kernel
theorem d_Txt_nameAmong_89 : decode b_Txt_nameAmong 89 = .ok (.invokevirtual 17, 3) := by decide +kernel
theorem d_Txt_nameAmong_92 : decode b_Txt_nameAmong 92 = .ok (.if_icmp .eq 6, 3) := by decide +kernel
theorem d_Txt_nameAmong_95 : decode b_Txt_nameAmong 95 = .ok (.iconst 0, 1) := by decide +kernel
theorem d_Txt_nameAmong_96 : decode b_Txt_nameAmong 96 = .ok (.istore 6, 2) := by decide +kernel
theorem d_Txt_nameAmong_98 : decode b_Txt_nameAmong 98 = .ok (.iinc 7 1, 3) := by decide +kernel
theorem d_Txt_nameAmong_101 : decode b_Txt_nameAmong 101 = .ok (.goto (-89), 3) := by decide +kernel
theorem d_Txt_nameAmong_104 : decode b_Txt_nameAmong 104 = .ok (.iconst (-1), 1) := by decide +kernel
theorem d_Txt_nameAmong_105 : decode b_Txt_nameAmong 105 = .ok (.ireturn, 1) := by decide +kernel
theorem d_JS_length_0 : decode b_JS_length 0 = .ok (.aload_n 0, 1) := by decide +kernel
theorem d_JS_length_1 : decode b_JS_length 1 = .ok (.getfield 9, 3) := by decide +kernel
theorem d_JS_length_4 : decode b_JS_length 4 = .ok (.arraylength, 1) := by decide +kernel
theorem d_JS_length_5 : decode b_JS_length 5 = .ok (.aload_n 0, 1) := by decide +kernel
theorem d_JS_length_6 : decode b_JS_length 6 = .ok (.invokevirtual 335, 3) := by decide +kernel
theorem d_JS_length_9 : decode b_JS_length 9 = .ok (.ishr, 1) := by decide +kernel
theorem d_JS_length_10 : decode b_JS_length 10 = .ok (.ireturn, 1) := by decide +kernel
theorem d_JS_coder_0 : decode b_JS_coder 0 = .ok (.getstatic 38, 3) := by decide +kernel
theorem d_JS_coder_3 : decode b_JS_coder 3 = .ok (.ifCond .eq 10, 3) := by decide +kernel
theorem d_JS_coder_6 : decode b_JS_coder 6 = .ok (.aload_n 0, 1) := by decide +kernel
theorem d_JS_coder_7 : decode b_JS_coder 7 = .ok (.getfield 15, 3) := by decide +kernel
theorem d_JS_coder_10 : decode b_JS_coder 10 = .ok (.goto 4, 3) := by decide +kernel
theorem d_JS_coder_13 : decode b_JS_coder 13 = .ok (.iconst 1, 1) := by decide +kernel
theorem d_JS_coder_14 : decode b_JS_coder 14 = .ok (.ireturn, 1) := by decide +kernel
theorem d_JS_charAt_0 : decode b_JS_charAt 0 = .ok (.aload_n 0, 1) := by decide +kernel
theorem d_JS_charAt_1 : decode b_JS_charAt 1 = .ok (.invokevirtual 492, 3) := by decide +kernel
theorem d_JS_charAt_4 : decode b_JS_charAt 4 = .ok (.ifCond .eq 12, 3) := by decide +kernel
theorem d_JS_charAt_7 : decode b_JS_charAt 7 = .ok (.aload_n 0, 1) := by decide +kernel
theorem d_JS_charAt_8 : decode b_JS_charAt 8 = .ok (.getfield 9, 3) := by decide +kernel
theorem d_JS_charAt_11 : decode b_JS_charAt 11 = .ok (.iload_n 1, 1) := by decide +kernel
theorem d_JS_charAt_12 : decode b_JS_charAt 12 = .ok (.invokestatic 495, 3) := by decide +kernel
theorem d_JS_charAt_15 : decode b_JS_charAt 15 = .ok (.ireturn, 1) := by decide +kernel
theorem d_JS_charAt_16 : decode b_JS_charAt 16 = .ok (.aload_n 0, 1) := by decide +kernel
theorem d_JS_charAt_17 : decode b_JS_charAt 17 = .ok (.getfield 9, 3) := by decide +kernel
theorem d_JS_charAt_20 : decode b_JS_charAt 20 = .ok (.iload_n 1, 1) := by decide +kernel
theorem d_JS_charAt_21 : decode b_JS_charAt 21 = .ok (.invokestatic 498, 3) := by decide +kernel
theorem d_JS_charAt_24 : decode b_JS_charAt 24 = .ok (.ireturn, 1) := by decide +kernel
theorem d_JS_isLatin1_0 : decode b_JS_isLatin1 0 = .ok (.getstatic 38, 3) := by decide +kernel
theorem d_JS_isLatin1_3 : decode b_JS_isLatin1 3 = .ok (.ifCond .eq 14, 3) := by decide +kernel
theorem d_JS_isLatin1_6 : decode b_JS_isLatin1 6 = .ok (.aload_n 0, 1) := by decide +kernel
theorem d_JS_isLatin1_7 : decode b_JS_isLatin1 7 = .ok (.getfield 15, 3) := by decide +kernel
theorem d_JS_isLatin1_10 : decode b_JS_isLatin1 10 = .ok (.ifCond .ne 7, 3) := by decide +kernel
theorem d_JS_isLatin1_13 : decode b_JS_isLatin1 13 = .ok (.iconst 1, 1) := by decide +kernel
theorem d_JS_isLatin1_14 : decode b_JS_isLatin1 14 = .ok (.goto 4, 3) := by decide +kernel
theorem d_JS_isLatin1_17 : decode b_JS_isLatin1 17 = .ok (.iconst 0, 1) := by decide +kernel
theorem d_JS_isLatin1_18 : decode b_JS_isLatin1 18 = .ok (.ireturn, 1) := by decide +kernel
theorem d_JL_charAt_0 : decode b_JL_charAt 0 = .ok (.iload_n 1, 1) := by decide +kernel
theorem d_JL_charAt_1 : decode b_JL_charAt 1 = .ok (.aload_n 0, 1) := by decide +kernel
theorem d_JL_charAt_2 : decode b_JL_charAt 2 = .ok (.arraylength, 1) := by decide +kernel
theorem d_JL_charAt_3 : decode b_JL_charAt 3 = .ok (.invokestatic 9, 3) := by decide +kernel
theorem d_JL_charAt_6 : decode b_JL_charAt 6 = .ok (.aload_n 0, 1) := by decide +kernel
theorem d_JL_charAt_7 : decode b_JL_charAt 7 = .ok (.iload_n 1, 1) := by decide +kernel
theorem d_JL_charAt_8 : decode b_JL_charAt 8 = .ok (.baload, 1) := by decide +kernel
theorem d_JL_charAt_9 : decode b_JL_charAt 9 = .ok (.sipush 255, 3) := by decide +kernel
theorem d_JL_charAt_12 : decode b_JL_charAt 12 = .ok (.iand, 1) := by decide +kernel
theorem d_JL_charAt_13 : decode b_JL_charAt 13 = .ok (.i2c, 1) := by decide +kernel
theorem d_JL_charAt_14 : decode b_JL_charAt 14 = .ok (.ireturn, 1) := by decide +kernel
theorem d_JS_checkIndex_0 : decode b_JS_checkIndex 0 = .ok (.iload_n 0, 1) := by decide +kernel
theorem d_JS_checkIndex_1 : decode b_JS_checkIndex 1 = .ok (.iload_n 1, 1) := by decide +kernel
theorem d_JS_checkIndex_2 : decode b_JS_checkIndex 2 = .ok (.getstatic 1053, 3) := by decide +kernel
theorem d_JS_checkIndex_5 : decode b_JS_checkIndex 5 = .ok (.invokestatic 1059, 3) := by decide +kernel
theorem d_JS_checkIndex_8 : decode b_JS_checkIndex 8 = .ok (.pop, 1) := by decide +kernel
theorem d_JS_checkIndex_9 : decode b_JS_checkIndex 9 = .ok (.return_, 1) := by decide +kernel
theorem d_JP_checkIndex_0 : decode b_JP_checkIndex 0 = .ok (.iload_n 0, 1) := by decide +kernel
theorem d_JP_checkIndex_1 : decode b_JP_checkIndex 1 = .ok (.ifCond .lt 8, 3) := by decide +kernel
theorem d_JP_checkIndex_4 : decode b_JP_checkIndex 4 = .ok (.iload_n 0, 1) := by decide +kernel
theorem d_JP_checkIndex_5 : decode b_JP_checkIndex 5 = .ok (.iload_n 1, 1) := by decide +kernel
theorem d_JP_checkIndex_6 : decode b_JP_checkIndex 6 = .ok (.if_icmp .lt 10, 3) := by decide +kernel
theorem d_JP_checkIndex_9 : decode b_JP_checkIndex 9 = .ok (.aload_n 2, 1) := by decide +kernel
theorem d_JP_checkIndex_10 : decode b_JP_checkIndex 10 = .ok (.iload_n 0, 1) := by decide +kernel
theorem d_JP_checkIndex_11 : decode b_JP_checkIndex 11 = .ok (.iload_n 1, 1) := by decide +kernel
theorem d_JP_checkIndex_12 : decode b_JP_checkIndex 12 = .ok (.invokestatic 95, 3) := by decide +kernel
theorem d_JP_checkIndex_15 : decode b_JP_checkIndex 15 = .ok (.athrow, 1) := by decide +kernel
theorem d_JP_checkIndex_16 : decode b_JP_checkIndex 16 = .ok (.iload_n 0, 1) := by decide +kernel
theorem d_JP_checkIndex_17 : decode b_JP_checkIndex 17 = .ok (.ireturn, 1) := by decide +kernel
theorem d_Rdr_numberIn_0 : decode b_Rdr_numberIn 0 = .ok (.iload_n 1, 1) := by decide +kernel
theorem d_Rdr_numberIn_1 : decode b_Rdr_numberIn 1 = .ok (.ifCond .lt 15, 3) := by decide +kernel
theorem d_Rdr_numberIn_4 : decode b_Rdr_numberIn 4 = .ok (.iload_n 1, 1) := by decide +kernel
theorem d_Rdr_numberIn_5 : decode b_Rdr_numberIn 5 = .ok (.aload_n 0, 1) := by decide +kernel
theorem d_Rdr_numberIn_6 : decode b_Rdr_numberIn 6 = .ok (.arraylength, 1) := by decide +kernel
theorem d_Rdr_numberIn_7 : decode b_Rdr_numberIn 7 = .ok (.if_icmp .ge 9, 3) := by decide +kernel
theorem d_Rdr_numberIn_10 : decode b_Rdr_numberIn 10 = .ok (.aload_n 0, 1) := by decide +kernel
theorem d_Rdr_numberIn_11 : decode b_Rdr_numberIn 11 = .ok (.iload_n 1, 1) := by decide +kernel
theorem d_Rdr_numberIn_12 : decode b_Rdr_numberIn 12 = .ok (.iaload, 1) := by decide +kernel
theorem d_Rdr_numberIn_13 : decode b_Rdr_numberIn 13 = .ok (.goto 4, 3) := by decide +kernel
theorem d_Rdr_numberIn_16 : decode b_Rdr_numberIn 16 = .ok (.iconst (-1), 1) := by decide +kernel
theorem d_Rdr_numberIn_17 : decode b_Rdr_numberIn 17 = .ok (.ireturn, 1) := by decide +kernel
theorem d_Txt_number_0 : decode b_Txt_number 0 = .ok (.iload_n 2, 1) := by decide +kernel
theorem d_Txt_number_1 : decode b_Txt_number 1 = .ok (.iload_n 1, 1) := by decide +kernel
theorem d_Txt_number_2 : decode b_Txt_number 2 = .ok (.isub, 1) := by decide +kernel
theorem d_Txt_number_3 : decode b_Txt_number 3 = .ok (.iconst 1, 1) := by decide +kernel
theorem d_Txt_number_4 : decode b_Txt_number 4 = .ok (.if_icmp .lt 10, 3) := by decide +kernel
theorem d_Txt_number_7 : decode b_Txt_number 7 = .ok (.iload_n 2, 1) := by decide +kernel
theorem d_Txt_number_8 : decode b_Txt_number 8 = .ok (.iload_n 1, 1) := by decide +kernel
theorem d_Txt_number_9 : decode b_Txt_number 9 = .ok (.isub, 1) := by decide +kernel
theorem d_Txt_number_10 : decode b_Txt_number 10 = .ok (.iconst 5, 1) := by decide +kernel
theorem d_Txt_number_11 : decode b_Txt_number 11 = .ok (.if_icmp .le 5, 3) := by decide +kernel
theorem d_Txt_number_14 : decode b_Txt_number 14 = .ok (.iconst (-1), 1) := by decide +kernel
theorem d_Txt_number_15 : decode b_Txt_number 15 = .ok (.ireturn, 1) := by decide +kernel
theorem d_Txt_number_16 : decode b_Txt_number 16 = .ok (.iconst 0, 1) := by decide +kernel
theorem d_Txt_number_17 : decode b_Txt_number 17 = .ok (.istore_n 3, 1) := by decide +kernel
theorem d_Txt_number_18 : decode b_Txt_number 18 = .ok (.iload_n 1, 1) := by decide +kernel
theorem d_Txt_number_19 : decode b_Txt_number 19 = .ok (.istore 4, 2) := by decide +kernel
theorem d_Txt_number_21 : decode b_Txt_number 21 = .ok (.iload 4, 2) := by decide +kernel
theorem d_Txt_number_23 : decode b_Txt_number 23 = .ok (.iload_n 2, 1) := by decide +kernel
theorem d_Txt_number_24 : decode b_Txt_number 24 = .ok (.if_icmp .ge 38, 3) := by decide +kernel
theorem d_Txt_number_27 : decode b_Txt_number 27 = .ok (.aload_n 0, 1) := by decide +kernel
theorem d_Txt_number_28 : decode b_Txt_number 28 = .ok (.iload 4, 2) := by decide +kernel
theorem d_Txt_number_30 : decode b_Txt_number 30 = .ok (.invokevirtual 17, 3) := by decide +kernel
theorem d_Txt_number_33 : decode b_Txt_number 33 = .ok (.invokestatic 31, 3) := by decide +kernel
theorem d_Txt_number_36 : decode b_Txt_number 36 = .ok (.ifCond .ne 5, 3) := by decide +kernel
theorem d_Txt_number_39 : decode b_Txt_number 39 = .ok (.iconst (-1), 1) := by decide +kernel
theorem d_Txt_number_40 : decode b_Txt_number 40 = .ok (.ireturn, 1) := by decide +kernel
theorem d_Txt_number_41 : decode b_Txt_number 41 = .ok (.bipush 10, 2) := by decide +kernel
theorem d_Txt_number_43 : decode b_Txt_number 43 = .ok (.iload_n 3, 1) := by decide +kernel
theorem d_Txt_number_44 : decode b_Txt_number 44 = .ok (.imul, 1) := by decide +kernel
theorem d_Txt_number_45 : decode b_Txt_number 45 = .ok (.aload_n 0, 1) := by decide +kernel
theorem d_Txt_number_46 : decode b_Txt_number 46 = .ok (.iload 4, 2) := by decide +kernel
theorem d_Txt_number_48 : decode b_Txt_number 48 = .ok (.invokevirtual 17, 3) := by decide +kernel
theorem d_Txt_number_51 : decode b_Txt_number 51 = .ok (.iadd, 1) := by decide +kernel
theorem d_Txt_number_52 : decode b_Txt_number 52 = .ok (.bipush 48, 2) := by decide +kernel
theorem d_Txt_number_54 : decode b_Txt_number 54 = .ok (.isub, 1) := by decide +kernel
theorem d_Txt_number_55 : decode b_Txt_number 55 = .ok (.istore_n 3, 1) := by decide +kernel
theorem d_Txt_number_56 : decode b_Txt_number 56 = .ok (.iinc 4 1, 3) := by decide +kernel
theorem d_Txt_number_59 : decode b_Txt_number 59 = .ok (.goto (-38), 3) := by decide +kernel
theorem d_Txt_number_62 : decode b_Txt_number 62 = .ok (.iload_n 3, 1) := by decide +kernel
theorem d_Txt_number_63 : decode b_Txt_number 63 = .ok (.sipush 32767, 3) := by decide +kernel
theorem d_Txt_number_66 : decode b_Txt_number 66 = .ok (.if_icmp .gt 7, 3) := by decide +kernel
theorem d_Txt_number_69 : decode b_Txt_number 69 = .ok (.iload_n 3, 1) := by decide +kernel
theorem d_Txt_number_70 : decode b_Txt_number 70 = .ok (.goto 4, 3) := by decide +kernel
theorem d_Txt_number_73 : decode b_Txt_number 73 = .ok (.iconst (-1), 1) := by decide +kernel
theorem d_Txt_number_74 : decode b_Txt_number 74 = .ok (.ireturn, 1) := by decide +kernel
theorem d_Prg_isFull_0 : decode b_Prg_isFull 0 = .ok (.aload_n 0, 1) := by decide +kernel
theorem d_Prg_isFull_1 : decode b_Prg_isFull 1 = .ok (.getfield 13, 3) := by decide +kernel
theorem d_Prg_isFull_4 : decode b_Prg_isFull 4 = .ok (.sipush 600, 3) := by decide +kernel
theorem d_Prg_isFull_7 : decode b_Prg_isFull 7 = .ok (.if_icmp .lt 7, 3) := by decide +kernel
theorem d_Prg_isFull_10 : decode b_Prg_isFull 10 = .ok (.iconst 1, 1) := by decide +kernel
theorem d_Prg_isFull_11 : decode b_Prg_isFull 11 = .ok (.goto 4, 3) := by decide +kernel
theorem d_Prg_isFull_14 : decode b_Prg_isFull 14 = .ok (.iconst 0, 1) := by decide +kernel
theorem d_Prg_isFull_15 : decode b_Prg_isFull 15 = .ok (.ireturn, 1) := by decide +kernel
theorem d_Sym_symbolOf_0 : decode b_Sym_symbolOf 0 = .ok (.iconst 0, 1) := by decide +kernel
theorem d_Sym_symbolOf_1 : decode b_Sym_symbolOf 1 = .ok (.istore_n 3, 1) := by decide +kernel
theorem d_Sym_symbolOf_2 : decode b_Sym_symbolOf 2 = .ok (.iload_n 3, 1) := by decide +kernel
theorem d_Sym_symbolOf_3 : decode b_Sym_symbolOf 3 = .ok (.aload_n 0, 1) := by decide +kernel
theorem d_Sym_symbolOf_4 : decode b_Sym_symbolOf 4 = .ok (.getfield 23, 3) := by decide +kernel
theorem d_Sym_symbolOf_7 : decode b_Sym_symbolOf 7 = .ok (.if_icmp .ge 43, 3) := by decide +kernel
theorem d_Sym_symbolOf_10 : decode b_Sym_symbolOf 10 = .ok (.aload_n 0, 1) := by decide +kernel
theorem d_Sym_symbolOf_11 : decode b_Sym_symbolOf 11 = .ok (.getfield 13, 3) := by decide +kernel
theorem d_Sym_symbolOf_14 : decode b_Sym_symbolOf 14 = .ok (.iload_n 3, 1) := by decide +kernel
theorem d_Sym_symbolOf_15 : decode b_Sym_symbolOf 15 = .ok (.iaload, 1) := by decide +kernel
theorem d_Sym_symbolOf_16 : decode b_Sym_symbolOf 16 = .ok (.iload_n 2, 1) := by decide +kernel
theorem d_Sym_symbolOf_17 : decode b_Sym_symbolOf 17 = .ok (.iload_n 1, 1) := by decide +kernel
theorem d_Sym_symbolOf_18 : decode b_Sym_symbolOf 18 = .ok (.isub, 1) := by decide +kernel
theorem d_Sym_symbolOf_19 : decode b_Sym_symbolOf 19 = .ok (.if_icmp .ne 25, 3) := by decide +kernel
theorem d_Sym_symbolOf_22 : decode b_Sym_symbolOf 22 = .ok (.aload_n 0, 1) := by decide +kernel
theorem d_Sym_symbolOf_23 : decode b_Sym_symbolOf 23 = .ok (.getfield 19, 3) := by decide +kernel
theorem d_Sym_symbolOf_26 : decode b_Sym_symbolOf 26 = .ok (.aload_n 0, 1) := by decide +kernel
theorem d_Sym_symbolOf_27 : decode b_Sym_symbolOf 27 = .ok (.getfield 9, 3) := by decide +kernel
theorem d_Sym_symbolOf_30 : decode b_Sym_symbolOf 30 = .ok (.iload_n 3, 1) := by decide +kernel
theorem d_Sym_symbolOf_31 : decode b_Sym_symbolOf 31 = .ok (.iaload, 1) := by decide +kernel
theorem d_Sym_symbolOf_32 : decode b_Sym_symbolOf 32 = .ok (.iload_n 1, 1) := by decide +kernel
theorem d_Sym_symbolOf_33 : decode b_Sym_symbolOf 33 = .ok (.iload_n 2, 1) := by decide +kernel
theorem d_Sym_symbolOf_34 : decode b_Sym_symbolOf 34 = .ok (.iload_n 1, 1) := by decide +kernel
theorem d_Sym_symbolOf_35 : decode b_Sym_symbolOf 35 = .ok (.isub, 1) := by decide +kernel
theorem d_Sym_symbolOf_36 : decode b_Sym_symbolOf 36 = .ok (.invokevirtual 27, 3) := by decide +kernel
theorem d_Sym_symbolOf_39 : decode b_Sym_symbolOf 39 = .ok (.ifCond .eq 5, 3) := by decide +kernel
theorem d_Sym_symbolOf_42 : decode b_Sym_symbolOf 42 = .ok (.iload_n 3, 1) := by decide +kernel
theorem d_Sym_symbolOf_43 : decode b_Sym_symbolOf 43 = .ok (.ireturn, 1) := by decide +kernel
theorem d_Sym_symbolOf_44 : decode b_Sym_symbolOf 44 = .ok (.iinc 3 1, 3) := by decide +kernel
theorem d_Sym_symbolOf_47 : decode b_Sym_symbolOf 47 = .ok (.goto (-45), 3) := by decide +kernel
theorem d_Sym_symbolOf_50 : decode b_Sym_symbolOf 50 = .ok (.aload_n 0, 1) := by decide +kernel
theorem d_Sym_symbolOf_51 : decode b_Sym_symbolOf 51 = .ok (.getfield 23, 3) := by decide +kernel
theorem d_Sym_symbolOf_54 : decode b_Sym_symbolOf 54 = .ok (.bipush 40, 2) := by decide +kernel
theorem d_Sym_symbolOf_56 : decode b_Sym_symbolOf 56 = .ok (.if_icmp .lt 5, 3) := by decide +kernel
theorem d_Sym_symbolOf_59 : decode b_Sym_symbolOf 59 = .ok (.iconst (-1), 1) := by decide +kernel
theorem d_Sym_symbolOf_60 : decode b_Sym_symbolOf 60 = .ok (.ireturn, 1) := by decide +kernel
theorem d_Sym_symbolOf_61 : decode b_Sym_symbolOf 61 = .ok (.aload_n 0, 1) := by decide +kernel
theorem d_Sym_symbolOf_62 : decode b_Sym_symbolOf 62 = .ok (.getfield 9, 3) := by decide +kernel
theorem d_Sym_symbolOf_65 : decode b_Sym_symbolOf 65 = .ok (.aload_n 0, 1) := by decide +kernel
theorem d_Sym_symbolOf_66 : decode b_Sym_symbolOf 66 = .ok (.getfield 23, 3) := by decide +kernel
theorem d_Sym_symbolOf_69 : decode b_Sym_symbolOf 69 = .ok (.iload_n 1, 1) := by decide +kernel
theorem d_Sym_symbolOf_70 : decode b_Sym_symbolOf 70 = .ok (.iastore, 1) := by decide +kernel
theorem d_Sym_symbolOf_71 : decode b_Sym_symbolOf 71 = .ok (.aload_n 0, 1) := by decide +kernel
theorem d_Sym_symbolOf_72 : decode b_Sym_symbolOf 72 = .ok (.getfield 13, 3) := by decide +kernel
theorem d_Sym_symbolOf_75 : decode b_Sym_symbolOf 75 = .ok (.aload_n 0, 1) := by decide +kernel
theorem d_Sym_symbolOf_76 : decode b_Sym_symbolOf 76 = .ok (.getfield 23, 3) := by decide +kernel
theorem d_Sym_symbolOf_79 : decode b_Sym_symbolOf 79 = .ok (.iload_n 2, 1) := by decide +kernel
theorem d_Sym_symbolOf_80 : decode b_Sym_symbolOf 80 = .ok (.iload_n 1, 1) := by decide +kernel
theorem d_Sym_symbolOf_81 : decode b_Sym_symbolOf 81 = .ok (.isub, 1) := by decide +kernel
theorem d_Sym_symbolOf_82 : decode b_Sym_symbolOf 82 = .ok (.iastore, 1) := by decide +kernel
theorem d_Sym_symbolOf_83 : decode b_Sym_symbolOf 83 = .ok (.aload_n 0, 1) := by decide +kernel
theorem d_Sym_symbolOf_84 : decode b_Sym_symbolOf 84 = .ok (.getfield 16, 3) := by decide +kernel
theorem d_Sym_symbolOf_87 : decode b_Sym_symbolOf 87 = .ok (.aload_n 0, 1) := by decide +kernel
theorem d_Sym_symbolOf_88 : decode b_Sym_symbolOf 88 = .ok (.getfield 23, 3) := by decide +kernel
theorem d_Sym_symbolOf_91 : decode b_Sym_symbolOf 91 = .ok (.iconst (-1), 1) := by decide +kernel
theorem d_Sym_symbolOf_92 : decode b_Sym_symbolOf 92 = .ok (.iastore, 1) := by decide +kernel
theorem d_Sym_symbolOf_93 : decode b_Sym_symbolOf 93 = .ok (.aload_n 0, 1) := by decide +kernel
theorem d_Sym_symbolOf_94 : decode b_Sym_symbolOf 94 = .ok (.dup, 1) := by decide +kernel
theorem d_Sym_symbolOf_95 : decode b_Sym_symbolOf 95 = .ok (.getfield 23, 3) := by decide +kernel
theorem d_Sym_symbolOf_98 : decode b_Sym_symbolOf 98 = .ok (.iconst 1, 1) := by decide +kernel
theorem d_Sym_symbolOf_99 : decode b_Sym_symbolOf 99 = .ok (.iadd, 1) := by decide +kernel
theorem d_Sym_symbolOf_100 : decode b_Sym_symbolOf 100 = .ok (.putfield 23, 3) := by decide +kernel
theorem d_Sym_symbolOf_103 : decode b_Sym_symbolOf 103 = .ok (.aload_n 0, 1) := by decide +kernel
theorem d_Sym_symbolOf_104 : decode b_Sym_symbolOf 104 = .ok (.getfield 23, 3) := by decide +kernel
theorem d_Sym_symbolOf_107 : decode b_Sym_symbolOf 107 = .ok (.iconst 1, 1) := by decide +kernel
theorem d_Sym_symbolOf_108 : decode b_Sym_symbolOf 108 = .ok (.isub, 1) := by decide +kernel
theorem d_Sym_symbolOf_109 : decode b_Sym_symbolOf 109 = .ok (.ireturn, 1) := by decide +kernel
theorem d_Txt_isSame_0 : decode b_Txt_isSame 0 = .ok (.iconst 0, 1) := by decide +kernel
theorem d_Txt_isSame_1 : decode b_Txt_isSame 1 = .ok (.istore 4, 2) := by decide +kernel
theorem d_Txt_isSame_3 : decode b_Txt_isSame 3 = .ok (.iload 4, 2) := by decide +kernel
theorem d_Txt_isSame_5 : decode b_Txt_isSame 5 = .ok (.iload_n 3, 1) := by decide +kernel
theorem d_Txt_isSame_6 : decode b_Txt_isSame 6 = .ok (.if_icmp .ge 30, 3) := by decide +kernel
theorem d_Txt_isSame_9 : decode b_Txt_isSame 9 = .ok (.aload_n 0, 1) := by decide +kernel
theorem d_Txt_isSame_10 : decode b_Txt_isSame 10 = .ok (.iload_n 1, 1) := by decide +kernel
theorem d_Txt_isSame_11 : decode b_Txt_isSame 11 = .ok (.iload 4, 2) := by decide +kernel
theorem d_Txt_isSame_13 : decode b_Txt_isSame 13 = .ok (.iadd, 1) := by decide +kernel
theorem d_Txt_isSame_14 : decode b_Txt_isSame 14 = .ok (.invokevirtual 17, 3) := by decide +kernel
theorem d_Txt_isSame_17 : decode b_Txt_isSame 17 = .ok (.aload_n 0, 1) := by decide +kernel
theorem d_Txt_isSame_18 : decode b_Txt_isSame 18 = .ok (.iload_n 2, 1) := by decide +kernel
theorem d_Txt_isSame_19 : decode b_Txt_isSame 19 = .ok (.iload 4, 2) := by decide +kernel
theorem d_Txt_isSame_21 : decode b_Txt_isSame 21 = .ok (.iadd, 1) := by decide +kernel
theorem d_Txt_isSame_22 : decode b_Txt_isSame 22 = .ok (.invokevirtual 17, 3) := by decide +kernel
theorem d_Txt_isSame_25 : decode b_Txt_isSame 25 = .ok (.if_icmp .eq 5, 3) := by decide +kernel
theorem d_Txt_isSame_28 : decode b_Txt_isSame 28 = .ok (.iconst 0, 1) := by decide +kernel
theorem d_Txt_isSame_29 : decode b_Txt_isSame 29 = .ok (.ireturn, 1) := by decide +kernel
theorem d_Txt_isSame_30 : decode b_Txt_isSame 30 = .ok (.iinc 4 1, 3) := by decide +kernel
theorem d_Txt_isSame_33 : decode b_Txt_isSame 33 = .ok (.goto (-30), 3) := by decide +kernel
theorem d_Txt_isSame_36 : decode b_Txt_isSame 36 = .ok (.iconst 1, 1) := by decide +kernel
theorem d_Txt_isSame_37 : decode b_Txt_isSame 37 = .ok (.ireturn, 1) := by decide +kernel
theorem d_Prg_add_0 : decode b_Prg_add 0 = .ok (.aload_n 0, 1) := by decide +kernel
theorem d_Prg_add_1 : decode b_Prg_add 1 = .ok (.invokevirtual 17, 3) := by decide +kernel
theorem d_Prg_add_4 : decode b_Prg_add 4 = .ok (.ifCond .ne 23, 3) := by decide +kernel
theorem d_Prg_add_7 : decode b_Prg_add 7 = .ok (.aload_n 0, 1) := by decide +kernel
theorem d_Prg_add_8 : decode b_Prg_add 8 = .ok (.getfield 9, 3) := by decide +kernel
theorem d_Prg_add_11 : decode b_Prg_add 11 = .ok (.aload_n 0, 1) := by decide +kernel
theorem d_Prg_add_12 : decode b_Prg_add 12 = .ok (.getfield 13, 3) := by decide +kernel
theorem d_Prg_add_15 : decode b_Prg_add 15 = .ok (.iload_n 1, 1) := by decide +kernel
theorem d_Prg_add_16 : decode b_Prg_add 16 = .ok (.iastore, 1) := by decide +kernel
theorem d_Prg_add_17 : decode b_Prg_add 17 = .ok (.aload_n 0, 1) := by decide +kernel
theorem d_Prg_add_18 : decode b_Prg_add 18 = .ok (.dup, 1) := by decide +kernel
theorem d_Prg_add_19 : decode b_Prg_add 19 = .ok (.getfield 13, 3) := by decide +kernel
theorem d_Prg_add_22 : decode b_Prg_add 22 = .ok (.iconst 1, 1) := by decide +kernel
theorem d_Prg_add_23 : decode b_Prg_add 23 = .ok (.iadd, 1) := by decide +kernel
theorem d_Prg_add_24 : decode b_Prg_add 24 = .ok (.putfield 13, 3) := by decide +kernel
theorem d_Prg_add_27 : decode b_Prg_add 27 = .ok (.return_, 1) := by decide +kernel
theorem d_Rdr_takeLabel_0 : decode b_Rdr_takeLabel 0 = .ok (.aload_n 0, 1) := by decide +kernel
theorem d_Rdr_takeLabel_1 : decode b_Rdr_takeLabel 1 = .ok (.getfield 15, 3) := by decide +kernel
theorem d_Rdr_takeLabel_4 : decode b_Rdr_takeLabel 4 = .ok (.iload_n 1, 1) := by decide +kernel
theorem d_Rdr_takeLabel_5 : decode b_Rdr_takeLabel 5 = .ok (.iload_n 2, 1) := by decide +kernel
theorem d_Rdr_takeLabel_6 : decode b_Rdr_takeLabel 6 = .ok (.invokevirtual 86, 3) := by decide +kernel
theorem d_Rdr_takeLabel_9 : decode b_Rdr_takeLabel 9 = .ok (.ifCond .eq 16, 3) := by decide +kernel
theorem d_Rdr_takeLabel_12 : decode b_Rdr_takeLabel 12 = .ok (.aload_n 0, 1) := by decide +kernel
theorem d_Rdr_takeLabel_13 : decode b_Rdr_takeLabel 13 = .ok (.getfield 15, 3) := by decide +kernel
theorem d_Rdr_takeLabel_16 : decode b_Rdr_takeLabel 16 = .ok (.iload_n 2, 1) := by decide +kernel
theorem d_Rdr_takeLabel_17 : decode b_Rdr_takeLabel 17 = .ok (.invokevirtual 74, 3) := by decide +kernel
theorem d_Rdr_takeLabel_20 : decode b_Rdr_takeLabel 20 = .ok (.bipush 41, 2) := by decide +kernel
theorem d_Rdr_takeLabel_22 : decode b_Rdr_takeLabel 22 = .ok (.if_icmp .eq 5, 3) := by decide +kernel
theorem d_Rdr_takeLabel_25 : decode b_Rdr_takeLabel 25 = .ok (.iconst 1, 1) := by decide +kernel
theorem d_Rdr_takeLabel_26 : decode b_Rdr_takeLabel 26 = .ok (.ireturn, 1) := by decide +kernel
theorem d_Rdr_takeLabel_27 : decode b_Rdr_takeLabel 27 = .ok (.aload_n 0, 1) := by decide +kernel
theorem d_Rdr_takeLabel_28 : decode b_Rdr_takeLabel 28 = .ok (.iload_n 1, 1) := by decide +kernel
theorem d_Rdr_takeLabel_29 : decode b_Rdr_takeLabel 29 = .ok (.iload_n 2, 1) := by decide +kernel
theorem d_Rdr_takeLabel_30 : decode b_Rdr_takeLabel 30 = .ok (.invokevirtual 90, 3) := by decide +kernel
theorem d_Rdr_takeLabel_33 : decode b_Rdr_takeLabel 33 = .ok (.ifCond .lt 5, 3) := by decide +kernel
theorem d_Rdr_takeLabel_36 : decode b_Rdr_takeLabel 36 = .ok (.iconst 3, 1) := by decide +kernel
theorem d_Rdr_takeLabel_37 : decode b_Rdr_takeLabel 37 = .ok (.ireturn, 1) := by decide +kernel
theorem d_Rdr_takeLabel_38 : decode b_Rdr_takeLabel 38 = .ok (.aload_n 0, 1) := by decide +kernel
theorem d_Rdr_takeLabel_39 : decode b_Rdr_takeLabel 39 = .ok (.getfield 28, 3) := by decide +kernel
theorem d_Rdr_takeLabel_42 : decode b_Rdr_takeLabel 42 = .ok (.iload_n 1, 1) := by decide +kernel
theorem d_Rdr_takeLabel_43 : decode b_Rdr_takeLabel 43 = .ok (.iload_n 2, 1) := by decide +kernel
theorem d_Rdr_takeLabel_44 : decode b_Rdr_takeLabel 44 = .ok (.invokevirtual 100, 3) := by decide +kernel
theorem d_Rdr_takeLabel_47 : decode b_Rdr_takeLabel 47 = .ok (.istore_n 3, 1) := by decide +kernel
theorem d_Rdr_takeLabel_48 : decode b_Rdr_takeLabel 48 = .ok (.iload_n 3, 1) := by decide +kernel
theorem d_Rdr_takeLabel_49 : decode b_Rdr_takeLabel 49 = .ok (.ifCond .ge 5, 3) := by decide +kernel
theorem d_Rdr_takeLabel_52 : decode b_Rdr_takeLabel 52 = .ok (.iconst 2, 1) := by decide +kernel
theorem d_Rdr_takeLabel_53 : decode b_Rdr_takeLabel 53 = .ok (.ireturn, 1) := by decide +kernel
theorem d_Rdr_takeLabel_54 : decode b_Rdr_takeLabel 54 = .ok (.aload_n 0, 1) := by decide +kernel
theorem d_Rdr_takeLabel_55 : decode b_Rdr_takeLabel 55 = .ok (.getfield 28, 3) := by decide +kernel
theorem d_Rdr_takeLabel_58 : decode b_Rdr_takeLabel 58 = .ok (.iload_n 3, 1) := by decide +kernel
theorem d_Rdr_takeLabel_59 : decode b_Rdr_takeLabel 59 = .ok (.aload_n 0, 1) := by decide +kernel
theorem d_Rdr_takeLabel_60 : decode b_Rdr_takeLabel 60 = .ok (.getfield 19, 3) := by decide +kernel
theorem d_Rdr_takeLabel_63 : decode b_Rdr_takeLabel 63 = .ok (.invokevirtual 108, 3) := by decide +kernel
theorem d_Rdr_takeLabel_66 : decode b_Rdr_takeLabel 66 = .ok (.invokevirtual 109, 3) := by decide +kernel
theorem d_Rdr_takeLabel_69 : decode b_Rdr_takeLabel 69 = .ok (.ifCond .eq 7, 3) := by decide +kernel
theorem d_Rdr_takeLabel_72 : decode b_Rdr_takeLabel 72 = .ok (.iconst 0, 1) := by decide +kernel
theorem d_Rdr_takeLabel_73 : decode b_Rdr_takeLabel 73 = .ok (.goto 4, 3) := by decide +kernel
theorem d_Rdr_takeLabel_76 : decode b_Rdr_takeLabel 76 = .ok (.iconst 3, 1) := by decide +kernel
theorem d_Rdr_takeLabel_77 : decode b_Rdr_takeLabel 77 = .ok (.ireturn, 1) := by decide +kernel
theorem d_Prg_size_0 : decode b_Prg_size 0 = .ok (.aload_n 0, 1) := by decide +kernel
theorem d_Prg_size_1 : decode b_Prg_size 1 = .ok (.getfield 13, 3) := by decide +kernel
theorem d_Prg_size_4 : decode b_Prg_size 4 = .ok (.ireturn, 1) := by decide +kernel
theorem d_Sym_tell_0 : decode b_Sym_tell 0 = .ok (.iload_n 1, 1) := by decide +kernel
theorem d_Sym_tell_1 : decode b_Sym_tell 1 = .ok (.ifCond .lt 21, 3) := by decide +kernel
theorem d_Sym_tell_4 : decode b_Sym_tell 4 = .ok (.iload_n 1, 1) := by decide +kernel
theorem d_Sym_tell_5 : decode b_Sym_tell 5 = .ok (.aload_n 0, 1) := by decide +kernel
theorem d_Sym_tell_6 : decode b_Sym_tell 6 = .ok (.getfield 23, 3) := by decide +kernel
theorem d_Sym_tell_9 : decode b_Sym_tell 9 = .ok (.if_icmp .ge 13, 3) := by decide +kernel
theorem d_Sym_tell_12 : decode b_Sym_tell 12 = .ok (.aload_n 0, 1) := by decide +kernel
theorem d_Sym_tell_13 : decode b_Sym_tell 13 = .ok (.getfield 16, 3) := by decide +kernel
theorem d_Sym_tell_16 : decode b_Sym_tell 16 = .ok (.iload_n 1, 1) := by decide +kernel
theorem d_Sym_tell_17 : decode b_Sym_tell 17 = .ok (.iaload, 1) := by decide +kernel
theorem d_Sym_tell_18 : decode b_Sym_tell 18 = .ok (.iconst (-1), 1) := by decide +kernel
theorem d_Sym_tell_19 : decode b_Sym_tell 19 = .ok (.if_icmp .eq 5, 3) := by decide +kernel
theorem d_Sym_tell_22 : decode b_Sym_tell 22 = .ok (.iconst 0, 1) := by decide +kernel
theorem d_Sym_tell_23 : decode b_Sym_tell 23 = .ok (.ireturn, 1) := by decide +kernel
theorem d_Sym_tell_24 : decode b_Sym_tell 24 = .ok (.aload_n 0, 1) := by decide +kernel
theorem d_Sym_tell_25 : decode b_Sym_tell 25 = .ok (.getfield 16, 3) := by decide +kernel
theorem d_Sym_tell_28 : decode b_Sym_tell 28 = .ok (.iload_n 1, 1) := by decide +kernel
theorem d_Sym_tell_29 : decode b_Sym_tell 29 = .ok (.iload_n 2, 1) := by decide +kernel
theorem d_Sym_tell_30 : decode b_Sym_tell 30 = .ok (.iastore, 1) := by decide +kernel
theorem d_Sym_tell_31 : decode b_Sym_tell 31 = .ok (.iconst 1, 1) := by decide +kernel
theorem d_Sym_tell_32 : decode b_Sym_tell 32 = .ok (.ireturn, 1) := by decide +kernel
theorem d_Rdr_takeOther_0 : decode b_Rdr_takeOther 0 = .ok (.aload_n 0, 1) := by decide +kernel
theorem d_Rdr_takeOther_1 : decode b_Rdr_takeOther 1 = .ok (.getfield 15, 3) := by decide +kernel
theorem d_Rdr_takeOther_4 : decode b_Rdr_takeOther 4 = .ok (.bipush 61, 2) := by decide +kernel
theorem d_Rdr_takeOther_6 : decode b_Rdr_takeOther 6 = .ok (.iload_n 1, 1) := by decide +kernel
theorem d_Rdr_takeOther_7 : decode b_Rdr_takeOther 7 = .ok (.iload_n 2, 1) := by decide +kernel
theorem d_Rdr_takeOther_8 : decode b_Rdr_takeOther 8 = .ok (.invokevirtual 112, 3) := by decide +kernel
theorem d_Rdr_takeOther_11 : decode b_Rdr_takeOther 11 = .ok (.istore_n 3, 1) := by decide +kernel
theorem d_Rdr_takeOther_12 : decode b_Rdr_takeOther 12 = .ok (.aload_n 0, 1) := by decide +kernel
theorem d_Rdr_takeOther_13 : decode b_Rdr_takeOther 13 = .ok (.getfield 15, 3) := by decide +kernel
theorem d_Rdr_takeOther_16 : decode b_Rdr_takeOther 16 = .ok (.bipush 59, 2) := by decide +kernel
theorem d_Rdr_takeOther_18 : decode b_Rdr_takeOther 18 = .ok (.iload_n 1, 1) := by decide +kernel
theorem d_Rdr_takeOther_19 : decode b_Rdr_takeOther 19 = .ok (.iload_n 2, 1) := by decide +kernel
