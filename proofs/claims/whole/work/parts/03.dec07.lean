/-! decode rows -/
theorem d_Mod_go_42 : decode b_Mod_go 42 = .ok (.iload_n 2, 1) := by decide +kernel
theorem d_Mod_go_43 : decode b_Mod_go 43 = .ok (.ireturn, 1) := by decide +kernel
theorem d_Mod_oneCode_0 : decode b_Mod_oneCode 0 = .ok (.aload_n 0, 1) := by decide +kernel
theorem d_Mod_oneCode_1 : decode b_Mod_oneCode 1 = .ok (.getfield 17, 3) := by decide +kernel
theorem d_Mod_oneCode_4 : decode b_Mod_oneCode 4 = .ok (.aload_n 0, 1) := by decide +kernel
theorem d_Mod_oneCode_5 : decode b_Mod_oneCode 5 = .ok (.getfield 108, 3) := by decide +kernel
theorem d_Mod_oneCode_8 : decode b_Mod_oneCode 8 = .ok (.iaload, 1) := by decide +kernel
theorem d_Mod_oneCode_9 : decode b_Mod_oneCode 9 = .ok (.istore_n 1, 1) := by decide +kernel
theorem d_Mod_oneCode_10 : decode b_Mod_oneCode 10 = .ok (.aload_n 0, 1) := by decide +kernel
theorem d_Mod_oneCode_11 : decode b_Mod_oneCode 11 = .ok (.aload_n 0, 1) := by decide +kernel
theorem d_Mod_oneCode_12 : decode b_Mod_oneCode 12 = .ok (.getfield 108, 3) := by decide +kernel
theorem d_Mod_oneCode_15 : decode b_Mod_oneCode 15 = .ok (.iconst 1, 1) := by decide +kernel
theorem d_Mod_oneCode_16 : decode b_Mod_oneCode 16 = .ok (.iadd, 1) := by decide +kernel
theorem d_Mod_oneCode_17 : decode b_Mod_oneCode 17 = .ok (.putfield 108, 3) := by decide +kernel
theorem d_Mod_oneCode_20 : decode b_Mod_oneCode 20 = .ok (.aload_n 0, 1) := by decide +kernel
theorem d_Mod_oneCode_21 : decode b_Mod_oneCode 21 = .ok (.aload_n 0, 1) := by decide +kernel
theorem d_Mod_oneCode_22 : decode b_Mod_oneCode 22 = .ok (.getfield 111, 3) := by decide +kernel
theorem d_Mod_oneCode_25 : decode b_Mod_oneCode 25 = .ok (.iconst 1, 1) := by decide +kernel
theorem d_Mod_oneCode_26 : decode b_Mod_oneCode 26 = .ok (.iadd, 1) := by decide +kernel
theorem d_Mod_oneCode_27 : decode b_Mod_oneCode 27 = .ok (.putfield 111, 3) := by decide +kernel
theorem d_Mod_oneCode_30 : decode b_Mod_oneCode 30 = .ok (.iload_n 1, 1) := by decide +kernel
theorem d_Mod_oneCode_31 : decode b_Mod_oneCode 31 = .ok (.ldc 32, 2) := by decide +kernel
theorem d_Mod_oneCode_33 : decode b_Mod_oneCode 33 = .ok (.if_icmp .ge 9, 3) := by decide +kernel
theorem d_Mod_oneCode_36 : decode b_Mod_oneCode 36 = .ok (.aload_n 0, 1) := by decide +kernel
theorem d_Mod_oneCode_37 : decode b_Mod_oneCode 37 = .ok (.iload_n 1, 1) := by decide +kernel
theorem d_Mod_oneCode_38 : decode b_Mod_oneCode 38 = .ok (.putfield 102, 3) := by decide +kernel
theorem d_Mod_oneCode_41 : decode b_Mod_oneCode 41 = .ok (.return_, 1) := by decide +kernel
theorem d_Mod_oneCode_42 : decode b_Mod_oneCode 42 = .ok (.aload_n 0, 1) := by decide +kernel
theorem d_Mod_oneCode_43 : decode b_Mod_oneCode 43 = .ok (.getfield 102, 3) := by decide +kernel
theorem d_Mod_oneCode_46 : decode b_Mod_oneCode 46 = .ok (.sipush 32767, 3) := by decide +kernel
theorem d_Mod_oneCode_49 : decode b_Mod_oneCode 49 = .ok (.iand, 1) := by decide +kernel
theorem d_Mod_oneCode_50 : decode b_Mod_oneCode 50 = .ok (.istore_n 2, 1) := by decide +kernel
theorem d_Mod_oneCode_51 : decode b_Mod_oneCode 51 = .ok (.iload_n 1, 1) := by decide +kernel
theorem d_Mod_oneCode_52 : decode b_Mod_oneCode 52 = .ok (.bipush 6, 2) := by decide +kernel
theorem d_Mod_oneCode_54 : decode b_Mod_oneCode 54 = .ok (.ishr, 1) := by decide +kernel
theorem d_Mod_oneCode_55 : decode b_Mod_oneCode 55 = .ok (.bipush 63, 2) := by decide +kernel
theorem d_Mod_oneCode_57 : decode b_Mod_oneCode 57 = .ok (.iand, 1) := by decide +kernel
theorem d_Mod_oneCode_58 : decode b_Mod_oneCode 58 = .ok (.aload_n 0, 1) := by decide +kernel
theorem d_Mod_oneCode_59 : decode b_Mod_oneCode 59 = .ok (.getfield 105, 3) := by decide +kernel
theorem d_Mod_oneCode_62 : decode b_Mod_oneCode 62 = .ok (.iload_n 1, 1) := by decide +kernel
theorem d_Mod_oneCode_63 : decode b_Mod_oneCode 63 = .ok (.sipush 4096, 3) := by decide +kernel
theorem d_Mod_oneCode_66 : decode b_Mod_oneCode 66 = .ok (.iand, 1) := by decide +kernel
theorem d_Mod_oneCode_67 : decode b_Mod_oneCode 67 = .ok (.ifCond .ne 10, 3) := by decide +kernel
theorem d_Mod_oneCode_70 : decode b_Mod_oneCode 70 = .ok (.aload_n 0, 1) := by decide +kernel
theorem d_Mod_oneCode_71 : decode b_Mod_oneCode 71 = .ok (.getfield 102, 3) := by decide +kernel
theorem d_Mod_oneCode_74 : decode b_Mod_oneCode 74 = .ok (.goto 9, 3) := by decide +kernel
theorem d_Mod_oneCode_77 : decode b_Mod_oneCode 77 = .ok (.aload_n 0, 1) := by decide +kernel
theorem d_Mod_oneCode_78 : decode b_Mod_oneCode 78 = .ok (.getfield 33, 3) := by decide +kernel
theorem d_Mod_oneCode_81 : decode b_Mod_oneCode 81 = .ok (.iload_n 2, 1) := by decide +kernel
theorem d_Mod_oneCode_82 : decode b_Mod_oneCode 82 = .ok (.iaload, 1) := by decide +kernel
theorem d_Mod_oneCode_83 : decode b_Mod_oneCode 83 = .ok (.invokestatic 128, 3) := by decide +kernel
theorem d_Mod_oneCode_86 : decode b_Mod_oneCode 86 = .ok (.istore_n 3, 1) := by decide +kernel
theorem d_Mod_oneCode_87 : decode b_Mod_oneCode 87 = .ok (.iload_n 1, 1) := by decide +kernel
theorem d_Mod_oneCode_88 : decode b_Mod_oneCode 88 = .ok (.bipush 8, 2) := by decide +kernel
theorem d_Mod_oneCode_90 : decode b_Mod_oneCode 90 = .ok (.iand, 1) := by decide +kernel
theorem d_Mod_oneCode_91 : decode b_Mod_oneCode 91 = .ok (.ifCond .eq 10, 3) := by decide +kernel
theorem d_Mod_oneCode_94 : decode b_Mod_oneCode 94 = .ok (.aload_n 0, 1) := by decide +kernel
theorem d_Mod_oneCode_95 : decode b_Mod_oneCode 95 = .ok (.getfield 33, 3) := by decide +kernel
theorem d_Mod_oneCode_98 : decode b_Mod_oneCode 98 = .ok (.iload_n 2, 1) := by decide +kernel
theorem d_Mod_oneCode_99 : decode b_Mod_oneCode 99 = .ok (.iload_n 3, 1) := by decide +kernel
theorem d_Mod_oneCode_100 : decode b_Mod_oneCode 100 = .ok (.iastore, 1) := by decide +kernel
theorem d_Mod_oneCode_101 : decode b_Mod_oneCode 101 = .ok (.iload_n 1, 1) := by decide +kernel
theorem d_Mod_oneCode_102 : decode b_Mod_oneCode 102 = .ok (.bipush 32, 2) := by decide +kernel
theorem d_Mod_oneCode_104 : decode b_Mod_oneCode 104 = .ok (.iand, 1) := by decide +kernel
theorem d_Mod_oneCode_105 : decode b_Mod_oneCode 105 = .ok (.ifCond .eq 8, 3) := by decide +kernel
theorem d_Mod_oneCode_108 : decode b_Mod_oneCode 108 = .ok (.aload_n 0, 1) := by decide +kernel
theorem d_Mod_oneCode_109 : decode b_Mod_oneCode 109 = .ok (.iload_n 3, 1) := by decide +kernel
theorem d_Mod_oneCode_110 : decode b_Mod_oneCode 110 = .ok (.putfield 102, 3) := by decide +kernel
theorem d_Mod_oneCode_113 : decode b_Mod_oneCode 113 = .ok (.iload_n 1, 1) := by decide +kernel
theorem d_Mod_oneCode_114 : decode b_Mod_oneCode 114 = .ok (.bipush 16, 2) := by decide +kernel
theorem d_Mod_oneCode_116 : decode b_Mod_oneCode 116 = .ok (.iand, 1) := by decide +kernel
theorem d_Mod_oneCode_117 : decode b_Mod_oneCode 117 = .ok (.ifCond .eq 8, 3) := by decide +kernel
theorem d_Mod_oneCode_120 : decode b_Mod_oneCode 120 = .ok (.aload_n 0, 1) := by decide +kernel
theorem d_Mod_oneCode_121 : decode b_Mod_oneCode 121 = .ok (.iload_n 3, 1) := by decide +kernel
theorem d_Mod_oneCode_122 : decode b_Mod_oneCode 122 = .ok (.putfield 105, 3) := by decide +kernel
theorem d_Mod_oneCode_125 : decode b_Mod_oneCode 125 = .ok (.iload_n 3, 1) := by decide +kernel
theorem d_Mod_oneCode_126 : decode b_Mod_oneCode 126 = .ok (.ifCond .le 7, 3) := by decide +kernel
theorem d_Mod_oneCode_129 : decode b_Mod_oneCode 129 = .ok (.iconst 1, 1) := by decide +kernel
theorem d_Mod_oneCode_130 : decode b_Mod_oneCode 130 = .ok (.goto 12, 3) := by decide +kernel
theorem d_Mod_oneCode_133 : decode b_Mod_oneCode 133 = .ok (.iload_n 3, 1) := by decide +kernel
theorem d_Mod_oneCode_134 : decode b_Mod_oneCode 134 = .ok (.ifCond .ne 7, 3) := by decide +kernel
theorem d_Mod_oneCode_137 : decode b_Mod_oneCode 137 = .ok (.iconst 2, 1) := by decide +kernel
theorem d_Mod_oneCode_138 : decode b_Mod_oneCode 138 = .ok (.goto 4, 3) := by decide +kernel
theorem d_Mod_oneCode_141 : decode b_Mod_oneCode 141 = .ok (.iconst 4, 1) := by decide +kernel
theorem d_Mod_oneCode_142 : decode b_Mod_oneCode 142 = .ok (.istore 4, 2) := by decide +kernel
theorem d_Mod_oneCode_144 : decode b_Mod_oneCode 144 = .ok (.iload_n 1, 1) := by decide +kernel
theorem d_Mod_oneCode_145 : decode b_Mod_oneCode 145 = .ok (.iload 4, 2) := by decide +kernel
theorem d_Mod_oneCode_147 : decode b_Mod_oneCode 147 = .ok (.iand, 1) := by decide +kernel
theorem d_Mod_oneCode_148 : decode b_Mod_oneCode 148 = .ok (.ifCond .eq 8, 3) := by decide +kernel
theorem d_Mod_oneCode_151 : decode b_Mod_oneCode 151 = .ok (.aload_n 0, 1) := by decide +kernel
theorem d_Mod_oneCode_152 : decode b_Mod_oneCode 152 = .ok (.iload_n 2, 1) := by decide +kernel
theorem d_Mod_oneCode_153 : decode b_Mod_oneCode 153 = .ok (.putfield 108, 3) := by decide +kernel
theorem d_Mod_oneCode_156 : decode b_Mod_oneCode 156 = .ok (.return_, 1) := by decide +kernel
theorem d_Mod_unit_0 : decode b_Mod_unit 0 = .ok (.iload_n 0, 1) := by decide +kernel
theorem d_Mod_unit_1 : decode b_Mod_unit 1 = .ok (.bipush 32, 2) := by decide +kernel
theorem d_Mod_unit_3 : decode b_Mod_unit 3 = .ok (.iand, 1) := by decide +kernel
theorem d_Mod_unit_4 : decode b_Mod_unit 4 = .ok (.ifCond .ne 7, 3) := by decide +kernel
theorem d_Mod_unit_7 : decode b_Mod_unit 7 = .ok (.iload_n 1, 1) := by decide +kernel
theorem d_Mod_unit_8 : decode b_Mod_unit 8 = .ok (.goto 4, 3) := by decide +kernel
theorem d_Mod_unit_11 : decode b_Mod_unit 11 = .ok (.iconst 0, 1) := by decide +kernel
theorem d_Mod_unit_12 : decode b_Mod_unit 12 = .ok (.istore_n 3, 1) := by decide +kernel
theorem d_Mod_unit_13 : decode b_Mod_unit 13 = .ok (.iload_n 0, 1) := by decide +kernel
theorem d_Mod_unit_14 : decode b_Mod_unit 14 = .ok (.bipush 16, 2) := by decide +kernel
theorem d_Mod_unit_16 : decode b_Mod_unit 16 = .ok (.iand, 1) := by decide +kernel
theorem d_Mod_unit_17 : decode b_Mod_unit 17 = .ok (.ifCond .ne 7, 3) := by decide +kernel
theorem d_Mod_unit_20 : decode b_Mod_unit 20 = .ok (.iload_n 3, 1) := by decide +kernel
theorem d_Mod_unit_21 : decode b_Mod_unit 21 = .ok (.goto 6, 3) := by decide +kernel
theorem d_Mod_unit_24 : decode b_Mod_unit 24 = .ok (.iload_n 3, 1) := by decide +kernel
theorem d_Mod_unit_25 : decode b_Mod_unit 25 = .ok (.iconst (-1), 1) := by decide +kernel
theorem d_Mod_unit_26 : decode b_Mod_unit 26 = .ok (.ixor, 1) := by decide +kernel
theorem d_Mod_unit_27 : decode b_Mod_unit 27 = .ok (.istore_n 3, 1) := by decide +kernel
theorem d_Mod_unit_28 : decode b_Mod_unit 28 = .ok (.iload_n 0, 1) := by decide +kernel
theorem d_Mod_unit_29 : decode b_Mod_unit 29 = .ok (.bipush 8, 2) := by decide +kernel
theorem d_Mod_unit_31 : decode b_Mod_unit 31 = .ok (.iand, 1) := by decide +kernel
theorem d_Mod_unit_32 : decode b_Mod_unit 32 = .ok (.ifCond .ne 7, 3) := by decide +kernel
theorem d_Mod_unit_35 : decode b_Mod_unit 35 = .ok (.iload_n 2, 1) := by decide +kernel
theorem d_Mod_unit_36 : decode b_Mod_unit 36 = .ok (.goto 4, 3) := by decide +kernel
theorem d_Mod_unit_39 : decode b_Mod_unit 39 = .ok (.iconst 0, 1) := by decide +kernel
theorem d_Mod_unit_40 : decode b_Mod_unit 40 = .ok (.istore 4, 2) := by decide +kernel
theorem d_Mod_unit_42 : decode b_Mod_unit 42 = .ok (.iload_n 0, 1) := by decide +kernel
theorem d_Mod_unit_43 : decode b_Mod_unit 43 = .ok (.iconst 4, 1) := by decide +kernel
theorem d_Mod_unit_44 : decode b_Mod_unit 44 = .ok (.iand, 1) := by decide +kernel
theorem d_Mod_unit_45 : decode b_Mod_unit 45 = .ok (.ifCond .ne 8, 3) := by decide +kernel
theorem d_Mod_unit_48 : decode b_Mod_unit 48 = .ok (.iload 4, 2) := by decide +kernel
theorem d_Mod_unit_50 : decode b_Mod_unit 50 = .ok (.goto 7, 3) := by decide +kernel
theorem d_Mod_unit_53 : decode b_Mod_unit 53 = .ok (.iload 4, 2) := by decide +kernel
theorem d_Mod_unit_55 : decode b_Mod_unit 55 = .ok (.iconst (-1), 1) := by decide +kernel
theorem d_Mod_unit_56 : decode b_Mod_unit 56 = .ok (.ixor, 1) := by decide +kernel
theorem d_Mod_unit_57 : decode b_Mod_unit 57 = .ok (.istore 4, 2) := by decide +kernel
theorem d_Mod_unit_59 : decode b_Mod_unit 59 = .ok (.iload_n 0, 1) := by decide +kernel
theorem d_Mod_unit_60 : decode b_Mod_unit 60 = .ok (.iconst 2, 1) := by decide +kernel
theorem d_Mod_unit_61 : decode b_Mod_unit 61 = .ok (.iand, 1) := by decide +kernel
theorem d_Mod_unit_62 : decode b_Mod_unit 62 = .ok (.ifCond .ne 10, 3) := by decide +kernel
theorem d_Mod_unit_65 : decode b_Mod_unit 65 = .ok (.iload_n 3, 1) := by decide +kernel
theorem d_Mod_unit_66 : decode b_Mod_unit 66 = .ok (.iload 4, 2) := by decide +kernel
theorem d_Mod_unit_68 : decode b_Mod_unit 68 = .ok (.iand, 1) := by decide +kernel
theorem d_Mod_unit_69 : decode b_Mod_unit 69 = .ok (.goto 7, 3) := by decide +kernel
theorem d_Mod_unit_72 : decode b_Mod_unit 72 = .ok (.iload_n 3, 1) := by decide +kernel
theorem d_Mod_unit_73 : decode b_Mod_unit 73 = .ok (.iload 4, 2) := by decide +kernel
theorem d_Mod_unit_75 : decode b_Mod_unit 75 = .ok (.iadd, 1) := by decide +kernel
theorem d_Mod_unit_76 : decode b_Mod_unit 76 = .ok (.istore 5, 2) := by decide +kernel
theorem d_Mod_unit_78 : decode b_Mod_unit 78 = .ok (.iload_n 0, 1) := by decide +kernel
theorem d_Mod_unit_79 : decode b_Mod_unit 79 = .ok (.iconst 1, 1) := by decide +kernel
theorem d_Mod_unit_80 : decode b_Mod_unit 80 = .ok (.iand, 1) := by decide +kernel
theorem d_Mod_unit_81 : decode b_Mod_unit 81 = .ok (.ifCond .ne 8, 3) := by decide +kernel
theorem d_Mod_unit_84 : decode b_Mod_unit 84 = .ok (.iload 5, 2) := by decide +kernel
theorem d_Mod_unit_86 : decode b_Mod_unit 86 = .ok (.goto 7, 3) := by decide +kernel
theorem d_Mod_unit_89 : decode b_Mod_unit 89 = .ok (.iload 5, 2) := by decide +kernel
theorem d_Mod_unit_91 : decode b_Mod_unit 91 = .ok (.iconst (-1), 1) := by decide +kernel
theorem d_Mod_unit_92 : decode b_Mod_unit 92 = .ok (.ixor, 1) := by decide +kernel
theorem d_Mod_unit_93 : decode b_Mod_unit 93 = .ok (.i2s, 1) := by decide +kernel
theorem d_Mod_unit_94 : decode b_Mod_unit 94 = .ok (.ireturn, 1) := by decide +kernel
theorem d_Mod_set_0 : decode b_Mod_set 0 = .ok (.iload_n 1, 1) := by decide +kernel
theorem d_Mod_set_1 : decode b_Mod_set 1 = .ok (.ifCond .lt 10, 3) := by decide +kernel
theorem d_Mod_set_4 : decode b_Mod_set 4 = .ok (.iload_n 1, 1) := by decide +kernel
theorem d_Mod_set_5 : decode b_Mod_set 5 = .ok (.sipush 32767, 3) := by decide +kernel
theorem d_Mod_set_8 : decode b_Mod_set 8 = .ok (.if_icmp .le 5, 3) := by decide +kernel
theorem d_Mod_set_11 : decode b_Mod_set 11 = .ok (.iconst 0, 1) := by decide +kernel
theorem d_Mod_set_12 : decode b_Mod_set 12 = .ok (.ireturn, 1) := by decide +kernel
theorem d_Mod_set_13 : decode b_Mod_set 13 = .ok (.aload_n 0, 1) := by decide +kernel
theorem d_Mod_set_14 : decode b_Mod_set 14 = .ok (.getfield 33, 3) := by decide +kernel
theorem d_Mod_set_17 : decode b_Mod_set 17 = .ok (.iload_n 1, 1) := by decide +kernel
theorem d_Mod_set_18 : decode b_Mod_set 18 = .ok (.iload_n 2, 1) := by decide +kernel
theorem d_Mod_set_19 : decode b_Mod_set 19 = .ok (.i2s, 1) := by decide +kernel
theorem d_Mod_set_20 : decode b_Mod_set 20 = .ok (.iastore, 1) := by decide +kernel
theorem d_Mod_set_21 : decode b_Mod_set 21 = .ok (.iconst 1, 1) := by decide +kernel
theorem d_Mod_set_22 : decode b_Mod_set 22 = .ok (.ireturn, 1) := by decide +kernel
theorem d_Mod_store_0 : decode b_Mod_store 0 = .ok (.iload_n 1, 1) := by decide +kernel
theorem d_Mod_store_1 : decode b_Mod_store 1 = .ok (.ifCond .lt 10, 3) := by decide +kernel
theorem d_Mod_store_4 : decode b_Mod_store 4 = .ok (.iload_n 1, 1) := by decide +kernel
theorem d_Mod_store_5 : decode b_Mod_store 5 = .ok (.sipush 32767, 3) := by decide +kernel
theorem d_Mod_store_8 : decode b_Mod_store 8 = .ok (.if_icmp .le 8, 3) := by decide +kernel
theorem d_Mod_store_11 : decode b_Mod_store 11 = .ok (.ldc 135, 2) := by decide +kernel
theorem d_Mod_store_13 : decode b_Mod_store 13 = .ok (.goto 9, 3) := by decide +kernel
theorem d_Mod_store_16 : decode b_Mod_store 16 = .ok (.aload_n 0, 1) := by decide +kernel
theorem d_Mod_store_17 : decode b_Mod_store 17 = .ok (.getfield 33, 3) := by decide +kernel
theorem d_Mod_store_20 : decode b_Mod_store 20 = .ok (.iload_n 1, 1) := by decide +kernel
theorem d_Mod_store_21 : decode b_Mod_store 21 = .ok (.iaload, 1) := by decide +kernel
theorem d_Mod_store_22 : decode b_Mod_store 22 = .ok (.ireturn, 1) := by decide +kernel
theorem d_Mod_register_0 : decode b_Mod_register 0 = .ok (.iload_n 1, 1) := by decide +kernel
theorem d_Mod_register_1 : decode b_Mod_register 1 = .ok (.tableswitch 78 0 6 #[43, 48, 53, 58, 63, 68, 73], 43) := by decide +kernel
theorem d_Mod_register_44 : decode b_Mod_register 44 = .ok (.aload_n 0, 1) := by decide +kernel
theorem d_Mod_register_45 : decode b_Mod_register 45 = .ok (.getfield 102, 3) := by decide +kernel
theorem d_Mod_register_48 : decode b_Mod_register 48 = .ok (.ireturn, 1) := by decide +kernel
theorem d_Mod_register_49 : decode b_Mod_register 49 = .ok (.aload_n 0, 1) := by decide +kernel
theorem d_Mod_register_50 : decode b_Mod_register 50 = .ok (.getfield 105, 3) := by decide +kernel
theorem d_Mod_register_53 : decode b_Mod_register 53 = .ok (.ireturn, 1) := by decide +kernel
theorem d_Mod_register_54 : decode b_Mod_register 54 = .ok (.aload_n 0, 1) := by decide +kernel
theorem d_Mod_register_55 : decode b_Mod_register 55 = .ok (.getfield 108, 3) := by decide +kernel
theorem d_Mod_register_58 : decode b_Mod_register 58 = .ok (.ireturn, 1) := by decide +kernel
theorem d_Mod_register_59 : decode b_Mod_register 59 = .ok (.aload_n 0, 1) := by decide +kernel
theorem d_Mod_register_60 : decode b_Mod_register 60 = .ok (.getfield 83, 3) := by decide +kernel
theorem d_Mod_register_63 : decode b_Mod_register 63 = .ok (.ireturn, 1) := by decide +kernel
theorem d_Mod_register_64 : decode b_Mod_register 64 = .ok (.aload_n 0, 1) := by decide +kernel
theorem d_Mod_register_65 : decode b_Mod_register 65 = .ok (.getfield 111, 3) := by decide +kernel
theorem d_Mod_register_68 : decode b_Mod_register 68 = .ok (.ireturn, 1) := by decide +kernel
theorem d_Mod_register_69 : decode b_Mod_register 69 = .ok (.aload_n 0, 1) := by decide +kernel
theorem d_Mod_register_70 : decode b_Mod_register 70 = .ok (.getfield 69, 3) := by decide +kernel
theorem d_Mod_register_73 : decode b_Mod_register 73 = .ok (.ireturn, 1) := by decide +kernel
theorem d_Mod_register_74 : decode b_Mod_register 74 = .ok (.aload_n 0, 1) := by decide +kernel
theorem d_Mod_register_75 : decode b_Mod_register 75 = .ok (.getfield 46, 3) := by decide +kernel
theorem d_Mod_register_78 : decode b_Mod_register 78 = .ok (.ireturn, 1) := by decide +kernel
theorem d_Mod_register_79 : decode b_Mod_register 79 = .ok (.ldc 135, 2) := by decide +kernel
theorem d_Mod_register_81 : decode b_Mod_register 81 = .ok (.ireturn, 1) := by decide +kernel
theorem d_Law_0 : decode code 0 = .ok (.new 7, 3) := by decide +kernel
theorem d_Law_3 : decode code 3 = .ok (.dup, 1) := by decide +kernel
theorem d_Law_4 : decode code 4 = .ok (.invokespecial 9, 3) := by decide +kernel
theorem d_Law_7 : decode code 7 = .ok (.astore_n 1, 1) := by decide +kernel
theorem d_Law_8 : decode code 8 = .ok (.new 10, 3) := by decide +kernel
theorem d_Law_11 : decode code 11 = .ok (.dup, 1) := by decide +kernel
theorem d_Law_12 : decode code 12 = .ok (.invokespecial 12, 3) := by decide +kernel
theorem d_Law_15 : decode code 15 = .ok (.astore_n 2, 1) := by decide +kernel
theorem d_Law_16 : decode code 16 = .ok (.iconst 0, 1) := by decide +kernel
theorem d_Law_17 : decode code 17 = .ok (.istore_n 3, 1) := by decide +kernel
theorem d_Law_18 : decode code 18 = .ok (.iload_n 3, 1) := by decide +kernel
theorem d_Law_19 : decode code 19 = .ok (.aload_n 0, 1) := by decide +kernel
theorem d_Law_20 : decode code 20 = .ok (.arraylength, 1) := by decide +kernel
theorem d_Law_21 : decode code 21 = .ok (.iconst 4, 1) := by decide +kernel
theorem d_Law_22 : decode code 22 = .ok (.isub, 1) := by decide +kernel
theorem d_Law_23 : decode code 23 = .ok (.if_icmp .gt 277, 3) := by decide +kernel
theorem d_Law_26 : decode code 26 = .ok (.aload_n 0, 1) := by decide +kernel
theorem d_Law_27 : decode code 27 = .ok (.iload_n 3, 1) := by decide +kernel
theorem d_Law_28 : decode code 28 = .ok (.iaload, 1) := by decide +kernel
theorem d_Law_29 : decode code 29 = .ok (.bipush 7, 2) := by decide +kernel
theorem d_Law_31 : decode code 31 = .ok (.iand, 1) := by decide +kernel
theorem d_Law_32 : decode code 32 = .ok (.tableswitch 262 0 7 #[48, 111, 124, 137, 160, 183, 216, 239], 48) := by decide +kernel
theorem d_Law_80 : decode code 80 = .ok (.aload_n 1, 1) := by decide +kernel
theorem d_Law_81 : decode code 81 = .ok (.aload_n 0, 1) := by decide +kernel
theorem d_Law_82 : decode code 82 = .ok (.iload_n 3, 1) := by decide +kernel
theorem d_Law_83 : decode code 83 = .ok (.iconst 1, 1) := by decide +kernel
theorem d_Law_84 : decode code 84 = .ok (.iadd, 1) := by decide +kernel
theorem d_Law_85 : decode code 85 = .ok (.iaload, 1) := by decide +kernel
theorem d_Law_86 : decode code 86 = .ok (.i2l, 1) := by decide +kernel
theorem d_Law_87 : decode code 87 = .ok (.bipush 32, 2) := by decide +kernel
theorem d_Law_89 : decode code 89 = .ok (.lshl, 1) := by decide +kernel
theorem d_Law_90 : decode code 90 = .ok (.aload_n 0, 1) := by decide +kernel
theorem d_Law_91 : decode code 91 = .ok (.iload_n 3, 1) := by decide +kernel
theorem d_Law_92 : decode code 92 = .ok (.iconst 2, 1) := by decide +kernel
theorem d_Law_93 : decode code 93 = .ok (.iadd, 1) := by decide +kernel
theorem d_Law_94 : decode code 94 = .ok (.iaload, 1) := by decide +kernel
theorem d_Law_95 : decode code 95 = .ok (.i2l, 1) := by decide +kernel
theorem d_Law_96 : decode code 96 = .ok (.ldc2_w 13, 3) := by decide +kernel
theorem d_Law_99 : decode code 99 = .ok (.land, 1) := by decide +kernel
theorem d_Law_100 : decode code 100 = .ok (.lor, 1) := by decide +kernel
theorem d_Law_101 : decode code 101 = .ok (.aload_n 0, 1) := by decide +kernel
theorem d_Law_102 : decode code 102 = .ok (.iload_n 3, 1) := by decide +kernel
theorem d_Law_103 : decode code 103 = .ok (.iconst 3, 1) := by decide +kernel
theorem d_Law_104 : decode code 104 = .ok (.iadd, 1) := by decide +kernel
theorem d_Law_105 : decode code 105 = .ok (.iaload, 1) := by decide +kernel
theorem d_Law_106 : decode code 106 = .ok (.invokevirtual 15, 3) := by decide +kernel
theorem d_Law_109 : decode code 109 = .ok (.aload_n 2, 1) := by decide +kernel
theorem d_Law_110 : decode code 110 = .ok (.aload_n 0, 1) := by decide +kernel
theorem d_Law_111 : decode code 111 = .ok (.iload_n 3, 1) := by decide +kernel
theorem d_Law_112 : decode code 112 = .ok (.iconst 1, 1) := by decide +kernel
theorem d_Law_113 : decode code 113 = .ok (.iadd, 1) := by decide +kernel
theorem d_Law_114 : decode code 114 = .ok (.iaload, 1) := by decide +kernel
theorem d_Law_115 : decode code 115 = .ok (.i2l, 1) := by decide +kernel
theorem d_Law_116 : decode code 116 = .ok (.bipush 32, 2) := by decide +kernel
theorem d_Law_118 : decode code 118 = .ok (.lshl, 1) := by decide +kernel
theorem d_Law_119 : decode code 119 = .ok (.aload_n 0, 1) := by decide +kernel
theorem d_Law_120 : decode code 120 = .ok (.iload_n 3, 1) := by decide +kernel
theorem d_Law_121 : decode code 121 = .ok (.iconst 2, 1) := by decide +kernel
theorem d_Law_122 : decode code 122 = .ok (.iadd, 1) := by decide +kernel
theorem d_Law_123 : decode code 123 = .ok (.iaload, 1) := by decide +kernel
theorem d_Law_124 : decode code 124 = .ok (.i2l, 1) := by decide +kernel
theorem d_Law_125 : decode code 125 = .ok (.ldc2_w 13, 3) := by decide +kernel
theorem d_Law_128 : decode code 128 = .ok (.land, 1) := by decide +kernel
theorem d_Law_129 : decode code 129 = .ok (.lor, 1) := by decide +kernel
theorem d_Law_130 : decode code 130 = .ok (.aload_n 0, 1) := by decide +kernel
theorem d_Law_131 : decode code 131 = .ok (.iload_n 3, 1) := by decide +kernel
theorem d_Law_132 : decode code 132 = .ok (.iconst 3, 1) := by decide +kernel
theorem d_Law_133 : decode code 133 = .ok (.iadd, 1) := by decide +kernel
theorem d_Law_134 : decode code 134 = .ok (.iaload, 1) := by decide +kernel
theorem d_Law_135 : decode code 135 = .ok (.invokevirtual 19, 3) := by decide +kernel
theorem d_Law_138 : decode code 138 = .ok (.if_icmp .eq 156, 3) := by decide +kernel
theorem d_Law_141 : decode code 141 = .ok (.iconst 0, 1) := by decide +kernel
theorem d_Law_142 : decode code 142 = .ok (.ireturn, 1) := by decide +kernel
theorem d_Law_143 : decode code 143 = .ok (.aload_n 1, 1) := by decide +kernel
theorem d_Law_144 : decode code 144 = .ok (.invokevirtual 20, 3) := by decide +kernel
theorem d_Law_147 : decode code 147 = .ok (.aload_n 2, 1) := by decide +kernel
theorem d_Law_148 : decode code 148 = .ok (.invokevirtual 24, 3) := by decide +kernel
theorem d_Law_151 : decode code 151 = .ok (.if_icmp .eq 143, 3) := by decide +kernel
theorem d_Law_154 : decode code 154 = .ok (.iconst 0, 1) := by decide +kernel
theorem d_Law_155 : decode code 155 = .ok (.ireturn, 1) := by decide +kernel
theorem d_Law_156 : decode code 156 = .ok (.aload_n 1, 1) := by decide +kernel
theorem d_Law_157 : decode code 157 = .ok (.invokevirtual 25, 3) := by decide +kernel
theorem d_Law_160 : decode code 160 = .ok (.aload_n 2, 1) := by decide +kernel
theorem d_Law_161 : decode code 161 = .ok (.invokevirtual 28, 3) := by decide +kernel
theorem d_Law_164 : decode code 164 = .ok (.if_icmp .eq 130, 3) := by decide +kernel
theorem d_Law_167 : decode code 167 = .ok (.iconst 0, 1) := by decide +kernel
theorem d_Law_168 : decode code 168 = .ok (.ireturn, 1) := by decide +kernel
theorem d_Law_169 : decode code 169 = .ok (.aload_n 1, 1) := by decide +kernel
theorem d_Law_170 : decode code 170 = .ok (.aload_n 0, 1) := by decide +kernel
theorem d_Law_171 : decode code 171 = .ok (.iload_n 3, 1) := by decide +kernel
theorem d_Law_172 : decode code 172 = .ok (.iconst 1, 1) := by decide +kernel
theorem d_Law_173 : decode code 173 = .ok (.iadd, 1) := by decide +kernel
theorem d_Law_174 : decode code 174 = .ok (.iaload, 1) := by decide +kernel
theorem d_Law_175 : decode code 175 = .ok (.invokevirtual 29, 3) := by decide +kernel
theorem d_Law_178 : decode code 178 = .ok (.aload_n 2, 1) := by decide +kernel
theorem d_Law_179 : decode code 179 = .ok (.aload_n 0, 1) := by decide +kernel
theorem d_Law_180 : decode code 180 = .ok (.iload_n 3, 1) := by decide +kernel
theorem d_Law_181 : decode code 181 = .ok (.iconst 1, 1) := by decide +kernel
theorem d_Law_182 : decode code 182 = .ok (.iadd, 1) := by decide +kernel
theorem d_Law_183 : decode code 183 = .ok (.iaload, 1) := by decide +kernel
theorem d_Law_184 : decode code 184 = .ok (.invokevirtual 33, 3) := by decide +kernel
theorem d_Law_187 : decode code 187 = .ok (.if_icmp .eq 107, 3) := by decide +kernel
theorem d_Law_190 : decode code 190 = .ok (.iconst 0, 1) := by decide +kernel
theorem d_Law_191 : decode code 191 = .ok (.ireturn, 1) := by decide +kernel
theorem d_Law_192 : decode code 192 = .ok (.aload_n 1, 1) := by decide +kernel
theorem d_Law_193 : decode code 193 = .ok (.aload_n 0, 1) := by decide +kernel
theorem d_Law_194 : decode code 194 = .ok (.iload_n 3, 1) := by decide +kernel
theorem d_Law_195 : decode code 195 = .ok (.iconst 1, 1) := by decide +kernel
theorem d_Law_196 : decode code 196 = .ok (.iadd, 1) := by decide +kernel
theorem d_Law_197 : decode code 197 = .ok (.iaload, 1) := by decide +kernel
theorem d_Law_198 : decode code 198 = .ok (.invokevirtual 34, 3) := by decide +kernel
theorem d_Law_201 : decode code 201 = .ok (.aload_n 2, 1) := by decide +kernel
theorem d_Law_202 : decode code 202 = .ok (.aload_n 0, 1) := by decide +kernel
theorem d_Law_203 : decode code 203 = .ok (.iload_n 3, 1) := by decide +kernel
theorem d_Law_204 : decode code 204 = .ok (.iconst 1, 1) := by decide +kernel
theorem d_Law_205 : decode code 205 = .ok (.iadd, 1) := by decide +kernel
theorem d_Law_206 : decode code 206 = .ok (.iaload, 1) := by decide +kernel
theorem d_Law_207 : decode code 207 = .ok (.invokevirtual 37, 3) := by decide +kernel
theorem d_Law_210 : decode code 210 = .ok (.if_icmp .eq 84, 3) := by decide +kernel
theorem d_Law_213 : decode code 213 = .ok (.iconst 0, 1) := by decide +kernel
theorem d_Law_214 : decode code 214 = .ok (.ireturn, 1) := by decide +kernel
theorem d_Law_215 : decode code 215 = .ok (.aload_n 1, 1) := by decide +kernel
theorem d_Law_216 : decode code 216 = .ok (.aload_n 0, 1) := by decide +kernel
theorem d_Law_217 : decode code 217 = .ok (.iload_n 3, 1) := by decide +kernel
theorem d_Law_218 : decode code 218 = .ok (.iconst 1, 1) := by decide +kernel
theorem d_Law_219 : decode code 219 = .ok (.iadd, 1) := by decide +kernel
theorem d_Law_220 : decode code 220 = .ok (.iaload, 1) := by decide +kernel
theorem d_Law_221 : decode code 221 = .ok (.aload_n 0, 1) := by decide +kernel
theorem d_Law_222 : decode code 222 = .ok (.iload_n 3, 1) := by decide +kernel
theorem d_Law_223 : decode code 223 = .ok (.iconst 2, 1) := by decide +kernel
theorem d_Law_224 : decode code 224 = .ok (.iadd, 1) := by decide +kernel
theorem d_Law_225 : decode code 225 = .ok (.iaload, 1) := by decide +kernel
theorem d_Law_226 : decode code 226 = .ok (.invokevirtual 38, 3) := by decide +kernel
theorem d_Law_229 : decode code 229 = .ok (.aload_n 2, 1) := by decide +kernel
theorem d_Law_230 : decode code 230 = .ok (.aload_n 0, 1) := by decide +kernel
theorem d_Law_231 : decode code 231 = .ok (.iload_n 3, 1) := by decide +kernel
theorem d_Law_232 : decode code 232 = .ok (.iconst 1, 1) := by decide +kernel
theorem d_Law_233 : decode code 233 = .ok (.iadd, 1) := by decide +kernel
theorem d_Law_234 : decode code 234 = .ok (.iaload, 1) := by decide +kernel
theorem d_Law_235 : decode code 235 = .ok (.aload_n 0, 1) := by decide +kernel
theorem d_Law_236 : decode code 236 = .ok (.iload_n 3, 1) := by decide +kernel
theorem d_Law_237 : decode code 237 = .ok (.iconst 2, 1) := by decide +kernel
theorem d_Law_238 : decode code 238 = .ok (.iadd, 1) := by decide +kernel
theorem d_Law_239 : decode code 239 = .ok (.iaload, 1) := by decide +kernel
theorem d_Law_240 : decode code 240 = .ok (.invokevirtual 42, 3) := by decide +kernel
theorem d_Law_243 : decode code 243 = .ok (.if_icmp .eq 51, 3) := by decide +kernel
theorem d_Law_246 : decode code 246 = .ok (.iconst 0, 1) := by decide +kernel
theorem d_Law_247 : decode code 247 = .ok (.ireturn, 1) := by decide +kernel
theorem d_Law_248 : decode code 248 = .ok (.aload_n 1, 1) := by decide +kernel
theorem d_Law_249 : decode code 249 = .ok (.aload_n 0, 1) := by decide +kernel
theorem d_Law_250 : decode code 250 = .ok (.iload_n 3, 1) := by decide +kernel
theorem d_Law_251 : decode code 251 = .ok (.iconst 1, 1) := by decide +kernel
theorem d_Law_252 : decode code 252 = .ok (.iadd, 1) := by decide +kernel
theorem d_Law_253 : decode code 253 = .ok (.iaload, 1) := by decide +kernel
theorem d_Law_254 : decode code 254 = .ok (.invokevirtual 43, 3) := by decide +kernel
theorem d_Law_257 : decode code 257 = .ok (.aload_n 2, 1) := by decide +kernel
theorem d_Law_258 : decode code 258 = .ok (.aload_n 0, 1) := by decide +kernel
theorem d_Law_259 : decode code 259 = .ok (.iload_n 3, 1) := by decide +kernel
theorem d_Law_260 : decode code 260 = .ok (.iconst 1, 1) := by decide +kernel
theorem d_Law_261 : decode code 261 = .ok (.iadd, 1) := by decide +kernel
theorem d_Law_262 : decode code 262 = .ok (.iaload, 1) := by decide +kernel
theorem d_Law_263 : decode code 263 = .ok (.invokevirtual 46, 3) := by decide +kernel
theorem d_Law_266 : decode code 266 = .ok (.if_icmp .eq 28, 3) := by decide +kernel
theorem d_Law_269 : decode code 269 = .ok (.iconst 0, 1) := by decide +kernel
theorem d_Law_270 : decode code 270 = .ok (.ireturn, 1) := by decide +kernel
theorem d_Law_271 : decode code 271 = .ok (.aload_n 1, 1) := by decide +kernel
theorem d_Law_272 : decode code 272 = .ok (.aload_n 0, 1) := by decide +kernel
theorem d_Law_273 : decode code 273 = .ok (.iload_n 3, 1) := by decide +kernel
theorem d_Law_274 : decode code 274 = .ok (.iconst 1, 1) := by decide +kernel
theorem d_Law_275 : decode code 275 = .ok (.iadd, 1) := by decide +kernel
theorem d_Law_276 : decode code 276 = .ok (.iaload, 1) := by decide +kernel
theorem d_Law_277 : decode code 277 = .ok (.invokevirtual 47, 3) := by decide +kernel
theorem d_Law_280 : decode code 280 = .ok (.aload_n 2, 1) := by decide +kernel
theorem d_Law_281 : decode code 281 = .ok (.aload_n 0, 1) := by decide +kernel
theorem d_Law_282 : decode code 282 = .ok (.iload_n 3, 1) := by decide +kernel
theorem d_Law_283 : decode code 283 = .ok (.iconst 1, 1) := by decide +kernel
theorem d_Law_284 : decode code 284 = .ok (.iadd, 1) := by decide +kernel
theorem d_Law_285 : decode code 285 = .ok (.iaload, 1) := by decide +kernel
theorem d_Law_286 : decode code 286 = .ok (.invokevirtual 50, 3) := by decide +kernel
theorem d_Law_289 : decode code 289 = .ok (.if_icmp .eq 5, 3) := by decide +kernel
theorem d_Law_292 : decode code 292 = .ok (.iconst 0, 1) := by decide +kernel
theorem d_Law_293 : decode code 293 = .ok (.ireturn, 1) := by decide +kernel
theorem d_Law_294 : decode code 294 = .ok (.iinc 3 4, 3) := by decide +kernel
theorem d_Law_297 : decode code 297 = .ok (.goto (-279), 3) := by decide +kernel
theorem d_Law_300 : decode code 300 = .ok (.iconst 1, 1) := by decide +kernel
theorem d_Law_301 : decode code 301 = .ok (.ireturn, 1) := by decide +kernel
