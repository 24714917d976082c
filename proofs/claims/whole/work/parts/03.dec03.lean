/-! decode rows -/
theorem d_Prc_compute_23 : decode b_Prc_compute 23 = .ok (.goto 4, 3) := by decide +kernel
theorem d_Prc_compute_26 : decode b_Prc_compute 26 = .ok (.iload_n 3, 1) := by decide +kernel
theorem d_Prc_compute_27 : decode b_Prc_compute 27 = .ok (.istore_n 3, 1) := by decide +kernel
theorem d_Prc_compute_28 : decode b_Prc_compute 28 = .ok (.iload_n 0, 1) := by decide +kernel
theorem d_Prc_compute_29 : decode b_Prc_compute 29 = .ok (.bipush 8, 2) := by decide +kernel
theorem d_Prc_compute_31 : decode b_Prc_compute 31 = .ok (.iand, 1) := by decide +kernel
theorem d_Prc_compute_32 : decode b_Prc_compute 32 = .ok (.ifCond .eq 7, 3) := by decide +kernel
theorem d_Prc_compute_35 : decode b_Prc_compute 35 = .ok (.iconst 0, 1) := by decide +kernel
theorem d_Prc_compute_36 : decode b_Prc_compute 36 = .ok (.goto 4, 3) := by decide +kernel
theorem d_Prc_compute_39 : decode b_Prc_compute 39 = .ok (.iload_n 2, 1) := by decide +kernel
theorem d_Prc_compute_40 : decode b_Prc_compute 40 = .ok (.istore 4, 2) := by decide +kernel
theorem d_Prc_compute_42 : decode b_Prc_compute 42 = .ok (.iload_n 0, 1) := by decide +kernel
theorem d_Prc_compute_43 : decode b_Prc_compute 43 = .ok (.iconst 4, 1) := by decide +kernel
theorem d_Prc_compute_44 : decode b_Prc_compute 44 = .ok (.iand, 1) := by decide +kernel
theorem d_Prc_compute_45 : decode b_Prc_compute 45 = .ok (.ifCond .eq 10, 3) := by decide +kernel
theorem d_Prc_compute_48 : decode b_Prc_compute 48 = .ok (.iload 4, 2) := by decide +kernel
theorem d_Prc_compute_50 : decode b_Prc_compute 50 = .ok (.iconst (-1), 1) := by decide +kernel
theorem d_Prc_compute_51 : decode b_Prc_compute 51 = .ok (.ixor, 1) := by decide +kernel
theorem d_Prc_compute_52 : decode b_Prc_compute 52 = .ok (.goto 5, 3) := by decide +kernel
theorem d_Prc_compute_55 : decode b_Prc_compute 55 = .ok (.iload 4, 2) := by decide +kernel
theorem d_Prc_compute_57 : decode b_Prc_compute 57 = .ok (.istore 4, 2) := by decide +kernel
theorem d_Prc_compute_59 : decode b_Prc_compute 59 = .ok (.iload_n 0, 1) := by decide +kernel
theorem d_Prc_compute_60 : decode b_Prc_compute 60 = .ok (.iconst 2, 1) := by decide +kernel
theorem d_Prc_compute_61 : decode b_Prc_compute 61 = .ok (.iand, 1) := by decide +kernel
theorem d_Prc_compute_62 : decode b_Prc_compute 62 = .ok (.ifCond .eq 10, 3) := by decide +kernel
theorem d_Prc_compute_65 : decode b_Prc_compute 65 = .ok (.iload_n 3, 1) := by decide +kernel
theorem d_Prc_compute_66 : decode b_Prc_compute 66 = .ok (.iload 4, 2) := by decide +kernel
theorem d_Prc_compute_68 : decode b_Prc_compute 68 = .ok (.iadd, 1) := by decide +kernel
theorem d_Prc_compute_69 : decode b_Prc_compute 69 = .ok (.goto 7, 3) := by decide +kernel
theorem d_Prc_compute_72 : decode b_Prc_compute 72 = .ok (.iload_n 3, 1) := by decide +kernel
theorem d_Prc_compute_73 : decode b_Prc_compute 73 = .ok (.iload 4, 2) := by decide +kernel
theorem d_Prc_compute_75 : decode b_Prc_compute 75 = .ok (.iand, 1) := by decide +kernel
theorem d_Prc_compute_76 : decode b_Prc_compute 76 = .ok (.istore 5, 2) := by decide +kernel
theorem d_Prc_compute_78 : decode b_Prc_compute 78 = .ok (.iload_n 0, 1) := by decide +kernel
theorem d_Prc_compute_79 : decode b_Prc_compute 79 = .ok (.iconst 1, 1) := by decide +kernel
theorem d_Prc_compute_80 : decode b_Prc_compute 80 = .ok (.iand, 1) := by decide +kernel
theorem d_Prc_compute_81 : decode b_Prc_compute 81 = .ok (.ifCond .eq 10, 3) := by decide +kernel
theorem d_Prc_compute_84 : decode b_Prc_compute 84 = .ok (.iload 5, 2) := by decide +kernel
theorem d_Prc_compute_86 : decode b_Prc_compute 86 = .ok (.iconst (-1), 1) := by decide +kernel
theorem d_Prc_compute_87 : decode b_Prc_compute 87 = .ok (.ixor, 1) := by decide +kernel
theorem d_Prc_compute_88 : decode b_Prc_compute 88 = .ok (.goto 5, 3) := by decide +kernel
theorem d_Prc_compute_91 : decode b_Prc_compute 91 = .ok (.iload 5, 2) := by decide +kernel
theorem d_Prc_compute_93 : decode b_Prc_compute 93 = .ok (.i2s, 1) := by decide +kernel
theorem d_Prc_compute_94 : decode b_Prc_compute 94 = .ok (.ireturn, 1) := by decide +kernel
theorem d_Mem_write_0 : decode b_Mem_write 0 = .ok (.iload_n 1, 1) := by decide +kernel
theorem d_Mem_write_1 : decode b_Mem_write 1 = .ok (.invokestatic 16, 3) := by decide +kernel
theorem d_Mem_write_4 : decode b_Mem_write 4 = .ok (.ifCond .ne 4, 3) := by decide +kernel
theorem d_Mem_write_7 : decode b_Mem_write 7 = .ok (.return_, 1) := by decide +kernel
theorem d_Mem_write_8 : decode b_Mem_write 8 = .ok (.iload_n 1, 1) := by decide +kernel
theorem d_Mem_write_9 : decode b_Mem_write 9 = .ok (.sipush 256, 3) := by decide +kernel
theorem d_Mem_write_12 : decode b_Mem_write 12 = .ok (.idiv, 1) := by decide +kernel
theorem d_Mem_write_13 : decode b_Mem_write 13 = .ok (.istore_n 3, 1) := by decide +kernel
theorem d_Mem_write_14 : decode b_Mem_write 14 = .ok (.aload_n 0, 1) := by decide +kernel
theorem d_Mem_write_15 : decode b_Mem_write 15 = .ok (.getfield 11, 3) := by decide +kernel
theorem d_Mem_write_18 : decode b_Mem_write 18 = .ok (.iload_n 3, 1) := by decide +kernel
theorem d_Mem_write_19 : decode b_Mem_write 19 = .ok (.aaload, 1) := by decide +kernel
theorem d_Mem_write_20 : decode b_Mem_write 20 = .ok (.astore 4, 2) := by decide +kernel
theorem d_Mem_write_22 : decode b_Mem_write 22 = .ok (.aload 4, 2) := by decide +kernel
theorem d_Mem_write_24 : decode b_Mem_write 24 = .ok (.ifnonnull 20, 3) := by decide +kernel
theorem d_Mem_write_27 : decode b_Mem_write 27 = .ok (.new 3, 3) := by decide +kernel
theorem d_Mem_write_30 : decode b_Mem_write 30 = .ok (.dup, 1) := by decide +kernel
theorem d_Mem_write_31 : decode b_Mem_write 31 = .ok (.invokespecial 24, 3) := by decide +kernel
theorem d_Mem_write_34 : decode b_Mem_write 34 = .ok (.astore 4, 2) := by decide +kernel
theorem d_Mem_write_36 : decode b_Mem_write 36 = .ok (.aload_n 0, 1) := by decide +kernel
theorem d_Mem_write_37 : decode b_Mem_write 37 = .ok (.getfield 11, 3) := by decide +kernel
theorem d_Mem_write_40 : decode b_Mem_write 40 = .ok (.iload_n 3, 1) := by decide +kernel
theorem d_Mem_write_41 : decode b_Mem_write 41 = .ok (.aload 4, 2) := by decide +kernel
theorem d_Mem_write_43 : decode b_Mem_write 43 = .ok (.aastore, 1) := by decide +kernel
theorem d_Mem_write_44 : decode b_Mem_write 44 = .ok (.aload 4, 2) := by decide +kernel
theorem d_Mem_write_46 : decode b_Mem_write 46 = .ok (.getfield 20, 3) := by decide +kernel
theorem d_Mem_write_49 : decode b_Mem_write 49 = .ok (.iload_n 1, 1) := by decide +kernel
theorem d_Mem_write_50 : decode b_Mem_write 50 = .ok (.sipush 256, 3) := by decide +kernel
theorem d_Mem_write_53 : decode b_Mem_write 53 = .ok (.irem, 1) := by decide +kernel
theorem d_Mem_write_54 : decode b_Mem_write 54 = .ok (.iload_n 2, 1) := by decide +kernel
theorem d_Mem_write_55 : decode b_Mem_write 55 = .ok (.i2s, 1) := by decide +kernel
theorem d_Mem_write_56 : decode b_Mem_write 56 = .ok (.iastore, 1) := by decide +kernel
theorem d_Mem_write_57 : decode b_Mem_write 57 = .ok (.return_, 1) := by decide +kernel
theorem d_Pag_init_0 : decode b_Pag_init 0 = .ok (.aload_n 0, 1) := by decide +kernel
theorem d_Pag_init_1 : decode b_Pag_init 1 = .ok (.invokespecial 1, 3) := by decide +kernel
theorem d_Pag_init_4 : decode b_Pag_init 4 = .ok (.aload_n 0, 1) := by decide +kernel
theorem d_Pag_init_5 : decode b_Pag_init 5 = .ok (.sipush 256, 3) := by decide +kernel
theorem d_Pag_init_8 : decode b_Pag_init 8 = .ok (.newarray .int, 2) := by decide +kernel
theorem d_Pag_init_10 : decode b_Pag_init 10 = .ok (.putfield 9, 3) := by decide +kernel
theorem d_Pag_init_13 : decode b_Pag_init 13 = .ok (.return_, 1) := by decide +kernel
theorem d_Dsk_set_0 : decode b_Dsk_set 0 = .ok (.iload_n 1, 1) := by decide +kernel
theorem d_Dsk_set_1 : decode b_Dsk_set 1 = .ok (.invokestatic 63, 3) := by decide +kernel
theorem d_Dsk_set_4 : decode b_Dsk_set 4 = .ok (.ifCond .ne 5, 3) := by decide +kernel
theorem d_Dsk_set_7 : decode b_Dsk_set 7 = .ok (.iconst 0, 1) := by decide +kernel
theorem d_Dsk_set_8 : decode b_Dsk_set 8 = .ok (.ireturn, 1) := by decide +kernel
theorem d_Dsk_set_9 : decode b_Dsk_set 9 = .ok (.aload_n 0, 1) := by decide +kernel
theorem d_Dsk_set_10 : decode b_Dsk_set 10 = .ok (.getfield 37, 3) := by decide +kernel
theorem d_Dsk_set_13 : decode b_Dsk_set 13 = .ok (.invokevirtual 69, 3) := by decide +kernel
theorem d_Dsk_set_16 : decode b_Dsk_set 16 = .ok (.iload_n 1, 1) := by decide +kernel
theorem d_Dsk_set_17 : decode b_Dsk_set 17 = .ok (.iload_n 2, 1) := by decide +kernel
theorem d_Dsk_set_18 : decode b_Dsk_set 18 = .ok (.invokevirtual 73, 3) := by decide +kernel
theorem d_Dsk_set_21 : decode b_Dsk_set 21 = .ok (.iconst 1, 1) := by decide +kernel
theorem d_Dsk_set_22 : decode b_Dsk_set 22 = .ok (.ireturn, 1) := by decide +kernel
theorem d_Prc_memory_0 : decode b_Prc_memory 0 = .ok (.aload_n 0, 1) := by decide +kernel
theorem d_Prc_memory_1 : decode b_Prc_memory 1 = .ok (.getfield 18, 3) := by decide +kernel
theorem d_Prc_memory_4 : decode b_Prc_memory 4 = .ok (.areturn, 1) := by decide +kernel
theorem d_Dsk_store_0 : decode b_Dsk_store 0 = .ok (.iload_n 1, 1) := by decide +kernel
theorem d_Dsk_store_1 : decode b_Dsk_store 1 = .ok (.invokestatic 63, 3) := by decide +kernel
theorem d_Dsk_store_4 : decode b_Dsk_store 4 = .ok (.ifCond .eq 17, 3) := by decide +kernel
theorem d_Dsk_store_7 : decode b_Dsk_store 7 = .ok (.aload_n 0, 1) := by decide +kernel
theorem d_Dsk_store_8 : decode b_Dsk_store 8 = .ok (.getfield 37, 3) := by decide +kernel
theorem d_Dsk_store_11 : decode b_Dsk_store 11 = .ok (.invokevirtual 69, 3) := by decide +kernel
theorem d_Dsk_store_14 : decode b_Dsk_store 14 = .ok (.iload_n 1, 1) := by decide +kernel
theorem d_Dsk_store_15 : decode b_Dsk_store 15 = .ok (.invokevirtual 77, 3) := by decide +kernel
theorem d_Dsk_store_18 : decode b_Dsk_store 18 = .ok (.goto 5, 3) := by decide +kernel
theorem d_Dsk_store_21 : decode b_Dsk_store 21 = .ok (.ldc 78, 2) := by decide +kernel
theorem d_Dsk_store_23 : decode b_Dsk_store 23 = .ok (.ireturn, 1) := by decide +kernel
theorem d_Dsk_register_0 : decode b_Dsk_register 0 = .ok (.iload_n 1, 1) := by decide +kernel
theorem d_Dsk_register_1 : decode b_Dsk_register 1 = .ok (.tableswitch 99 0 6 #[43, 51, 59, 67, 75, 83, 91], 43) := by decide +kernel
theorem d_Dsk_register_44 : decode b_Dsk_register 44 = .ok (.aload_n 0, 1) := by decide +kernel
theorem d_Dsk_register_45 : decode b_Dsk_register 45 = .ok (.getfield 37, 3) := by decide +kernel
theorem d_Dsk_register_48 : decode b_Dsk_register 48 = .ok (.invokevirtual 79, 3) := by decide +kernel
theorem d_Dsk_register_51 : decode b_Dsk_register 51 = .ok (.ireturn, 1) := by decide +kernel
theorem d_Dsk_register_52 : decode b_Dsk_register 52 = .ok (.aload_n 0, 1) := by decide +kernel
theorem d_Dsk_register_53 : decode b_Dsk_register 53 = .ok (.getfield 37, 3) := by decide +kernel
theorem d_Dsk_register_56 : decode b_Dsk_register 56 = .ok (.invokevirtual 82, 3) := by decide +kernel
theorem d_Dsk_register_59 : decode b_Dsk_register 59 = .ok (.ireturn, 1) := by decide +kernel
theorem d_Dsk_register_60 : decode b_Dsk_register 60 = .ok (.aload_n 0, 1) := by decide +kernel
theorem d_Dsk_register_61 : decode b_Dsk_register 61 = .ok (.getfield 37, 3) := by decide +kernel
theorem d_Dsk_register_64 : decode b_Dsk_register 64 = .ok (.invokevirtual 85, 3) := by decide +kernel
theorem d_Dsk_register_67 : decode b_Dsk_register 67 = .ok (.ireturn, 1) := by decide +kernel
theorem d_Dsk_register_68 : decode b_Dsk_register 68 = .ok (.aload_n 0, 1) := by decide +kernel
theorem d_Dsk_register_69 : decode b_Dsk_register 69 = .ok (.getfield 19, 3) := by decide +kernel
theorem d_Dsk_register_72 : decode b_Dsk_register 72 = .ok (.invokevirtual 88, 3) := by decide +kernel
theorem d_Dsk_register_75 : decode b_Dsk_register 75 = .ok (.ireturn, 1) := by decide +kernel
theorem d_Dsk_register_76 : decode b_Dsk_register 76 = .ok (.aload_n 0, 1) := by decide +kernel
theorem d_Dsk_register_77 : decode b_Dsk_register 77 = .ok (.getfield 37, 3) := by decide +kernel
theorem d_Dsk_register_80 : decode b_Dsk_register 80 = .ok (.invokevirtual 91, 3) := by decide +kernel
theorem d_Dsk_register_83 : decode b_Dsk_register 83 = .ok (.ireturn, 1) := by decide +kernel
theorem d_Dsk_register_84 : decode b_Dsk_register 84 = .ok (.aload_n 0, 1) := by decide +kernel
theorem d_Dsk_register_85 : decode b_Dsk_register 85 = .ok (.getfield 28, 3) := by decide +kernel
theorem d_Dsk_register_88 : decode b_Dsk_register 88 = .ok (.invokevirtual 94, 3) := by decide +kernel
theorem d_Dsk_register_91 : decode b_Dsk_register 91 = .ok (.ireturn, 1) := by decide +kernel
theorem d_Dsk_register_92 : decode b_Dsk_register 92 = .ok (.aload_n 0, 1) := by decide +kernel
theorem d_Dsk_register_93 : decode b_Dsk_register 93 = .ok (.getfield 10, 3) := by decide +kernel
theorem d_Dsk_register_96 : decode b_Dsk_register 96 = .ok (.invokevirtual 97, 3) := by decide +kernel
theorem d_Dsk_register_99 : decode b_Dsk_register 99 = .ok (.ireturn, 1) := by decide +kernel
theorem d_Dsk_register_100 : decode b_Dsk_register 100 = .ok (.ldc 78, 2) := by decide +kernel
theorem d_Dsk_register_102 : decode b_Dsk_register 102 = .ok (.ireturn, 1) := by decide +kernel
theorem d_Prc_a_0 : decode b_Prc_a 0 = .ok (.aload_n 0, 1) := by decide +kernel
theorem d_Prc_a_1 : decode b_Prc_a 1 = .ok (.getfield 25, 3) := by decide +kernel
theorem d_Prc_a_4 : decode b_Prc_a 4 = .ok (.ireturn, 1) := by decide +kernel
theorem d_Prc_d_0 : decode b_Prc_d 0 = .ok (.aload_n 0, 1) := by decide +kernel
theorem d_Prc_d_1 : decode b_Prc_d 1 = .ok (.getfield 29, 3) := by decide +kernel
theorem d_Prc_d_4 : decode b_Prc_d 4 = .ok (.ireturn, 1) := by decide +kernel
theorem d_Prc_next_0 : decode b_Prc_next 0 = .ok (.aload_n 0, 1) := by decide +kernel
theorem d_Prc_next_1 : decode b_Prc_next 1 = .ok (.getfield 32, 3) := by decide +kernel
theorem d_Prc_next_4 : decode b_Prc_next 4 = .ok (.ireturn, 1) := by decide +kernel
theorem d_Prc_done_0 : decode b_Prc_done 0 = .ok (.aload_n 0, 1) := by decide +kernel
theorem d_Prc_done_1 : decode b_Prc_done 1 = .ok (.getfield 35, 3) := by decide +kernel
theorem d_Prc_done_4 : decode b_Prc_done 4 = .ok (.ireturn, 1) := by decide +kernel
theorem d_Rdr_symbolCount_0 : decode b_Rdr_symbolCount 0 = .ok (.aload_n 0, 1) := by decide +kernel
theorem d_Rdr_symbolCount_1 : decode b_Rdr_symbolCount 1 = .ok (.getfield 28, 3) := by decide +kernel
theorem d_Rdr_symbolCount_4 : decode b_Rdr_symbolCount 4 = .ok (.invokevirtual 32, 3) := by decide +kernel
theorem d_Rdr_symbolCount_7 : decode b_Rdr_symbolCount 7 = .ok (.ireturn, 1) := by decide +kernel
theorem d_Sym_count_0 : decode b_Sym_count 0 = .ok (.aload_n 0, 1) := by decide +kernel
theorem d_Sym_count_1 : decode b_Sym_count 1 = .ok (.getfield 23, 3) := by decide +kernel
theorem d_Sym_count_4 : decode b_Sym_count 4 = .ok (.ireturn, 1) := by decide +kernel
theorem d_Mod_init_0 : decode b_Mod_init 0 = .ok (.aload_n 0, 1) := by decide +kernel
theorem d_Mod_init_1 : decode b_Mod_init 1 = .ok (.invokespecial 1, 3) := by decide +kernel
theorem d_Mod_init_4 : decode b_Mod_init 4 = .ok (.aload_n 0, 1) := by decide +kernel
theorem d_Mod_init_5 : decode b_Mod_init 5 = .ok (.sipush 2000, 3) := by decide +kernel
theorem d_Mod_init_8 : decode b_Mod_init 8 = .ok (.newarray .int, 2) := by decide +kernel
theorem d_Mod_init_10 : decode b_Mod_init 10 = .ok (.putfield 7, 3) := by decide +kernel
theorem d_Mod_init_13 : decode b_Mod_init 13 = .ok (.aload_n 0, 1) := by decide +kernel
theorem d_Mod_init_14 : decode b_Mod_init 14 = .ok (.iconst (-1), 1) := by decide +kernel
theorem d_Mod_init_15 : decode b_Mod_init 15 = .ok (.putfield 13, 3) := by decide +kernel
theorem d_Mod_init_18 : decode b_Mod_init 18 = .ok (.aload_n 0, 1) := by decide +kernel
theorem d_Mod_init_19 : decode b_Mod_init 19 = .ok (.sipush 600, 3) := by decide +kernel
theorem d_Mod_init_22 : decode b_Mod_init 22 = .ok (.newarray .int, 2) := by decide +kernel
theorem d_Mod_init_24 : decode b_Mod_init 24 = .ok (.putfield 17, 3) := by decide +kernel
theorem d_Mod_init_27 : decode b_Mod_init 27 = .ok (.aload_n 0, 1) := by decide +kernel
theorem d_Mod_init_28 : decode b_Mod_init 28 = .ok (.bipush 40, 2) := by decide +kernel
theorem d_Mod_init_30 : decode b_Mod_init 30 = .ok (.newarray .int, 2) := by decide +kernel
theorem d_Mod_init_32 : decode b_Mod_init 32 = .ok (.putfield 20, 3) := by decide +kernel
theorem d_Mod_init_35 : decode b_Mod_init 35 = .ok (.aload_n 0, 1) := by decide +kernel
theorem d_Mod_init_36 : decode b_Mod_init 36 = .ok (.bipush 40, 2) := by decide +kernel
theorem d_Mod_init_38 : decode b_Mod_init 38 = .ok (.newarray .int, 2) := by decide +kernel
theorem d_Mod_init_40 : decode b_Mod_init 40 = .ok (.putfield 23, 3) := by decide +kernel
theorem d_Mod_init_43 : decode b_Mod_init 43 = .ok (.aload_n 0, 1) := by decide +kernel
theorem d_Mod_init_44 : decode b_Mod_init 44 = .ok (.bipush 40, 2) := by decide +kernel
theorem d_Mod_init_46 : decode b_Mod_init 46 = .ok (.newarray .int, 2) := by decide +kernel
theorem d_Mod_init_48 : decode b_Mod_init 48 = .ok (.putfield 26, 3) := by decide +kernel
theorem d_Mod_init_51 : decode b_Mod_init 51 = .ok (.aload_n 0, 1) := by decide +kernel
theorem d_Mod_init_52 : decode b_Mod_init 52 = .ok (.sipush 600, 3) := by decide +kernel
theorem d_Mod_init_55 : decode b_Mod_init 55 = .ok (.newarray .int, 2) := by decide +kernel
theorem d_Mod_init_57 : decode b_Mod_init 57 = .ok (.putfield 29, 3) := by decide +kernel
theorem d_Mod_init_60 : decode b_Mod_init 60 = .ok (.aload_n 0, 1) := by decide +kernel
theorem d_Mod_init_61 : decode b_Mod_init 61 = .ok (.ldc 32, 2) := by decide +kernel
theorem d_Mod_init_63 : decode b_Mod_init 63 = .ok (.newarray .int, 2) := by decide +kernel
theorem d_Mod_init_65 : decode b_Mod_init 65 = .ok (.putfield 33, 3) := by decide +kernel
theorem d_Mod_init_68 : decode b_Mod_init 68 = .ok (.aload_n 0, 1) := by decide +kernel
theorem d_Mod_init_69 : decode b_Mod_init 69 = .ok (.bipush 32, 2) := by decide +kernel
theorem d_Mod_init_71 : decode b_Mod_init 71 = .ok (.newarray .char, 2) := by decide +kernel
theorem d_Mod_init_73 : decode b_Mod_init 73 = .ok (.dup, 1) := by decide +kernel
theorem d_Mod_init_74 : decode b_Mod_init 74 = .ok (.iconst 0, 1) := by decide +kernel
theorem d_Mod_init_75 : decode b_Mod_init 75 = .ok (.bipush 83, 2) := by decide +kernel
theorem d_Mod_init_77 : decode b_Mod_init 77 = .ok (.castore, 1) := by decide +kernel
theorem d_Mod_init_78 : decode b_Mod_init 78 = .ok (.dup, 1) := by decide +kernel
theorem d_Mod_init_79 : decode b_Mod_init 79 = .ok (.iconst 1, 1) := by decide +kernel
theorem d_Mod_init_80 : decode b_Mod_init 80 = .ok (.bipush 80, 2) := by decide +kernel
theorem d_Mod_init_82 : decode b_Mod_init 82 = .ok (.castore, 1) := by decide +kernel
theorem d_Mod_init_83 : decode b_Mod_init 83 = .ok (.dup, 1) := by decide +kernel
theorem d_Mod_init_84 : decode b_Mod_init 84 = .ok (.iconst 2, 1) := by decide +kernel
theorem d_Mod_init_85 : decode b_Mod_init 85 = .ok (.bipush 32, 2) := by decide +kernel
theorem d_Mod_init_87 : decode b_Mod_init 87 = .ok (.castore, 1) := by decide +kernel
theorem d_Mod_init_88 : decode b_Mod_init 88 = .ok (.dup, 1) := by decide +kernel
theorem d_Mod_init_89 : decode b_Mod_init 89 = .ok (.iconst 3, 1) := by decide +kernel
theorem d_Mod_init_90 : decode b_Mod_init 90 = .ok (.bipush 76, 2) := by decide +kernel
theorem d_Mod_init_92 : decode b_Mod_init 92 = .ok (.castore, 1) := by decide +kernel
theorem d_Mod_init_93 : decode b_Mod_init 93 = .ok (.dup, 1) := by decide +kernel
theorem d_Mod_init_94 : decode b_Mod_init 94 = .ok (.iconst 4, 1) := by decide +kernel
theorem d_Mod_init_95 : decode b_Mod_init 95 = .ok (.bipush 67, 2) := by decide +kernel
theorem d_Mod_init_97 : decode b_Mod_init 97 = .ok (.castore, 1) := by decide +kernel
theorem d_Mod_init_98 : decode b_Mod_init 98 = .ok (.dup, 1) := by decide +kernel
theorem d_Mod_init_99 : decode b_Mod_init 99 = .ok (.iconst 5, 1) := by decide +kernel
theorem d_Mod_init_100 : decode b_Mod_init 100 = .ok (.bipush 76, 2) := by decide +kernel
theorem d_Mod_init_102 : decode b_Mod_init 102 = .ok (.castore, 1) := by decide +kernel
theorem d_Mod_init_103 : decode b_Mod_init 103 = .ok (.dup, 1) := by decide +kernel
theorem d_Mod_init_104 : decode b_Mod_init 104 = .ok (.bipush 6, 2) := by decide +kernel
theorem d_Mod_init_106 : decode b_Mod_init 106 = .ok (.bipush 32, 2) := by decide +kernel
theorem d_Mod_init_108 : decode b_Mod_init 108 = .ok (.castore, 1) := by decide +kernel
theorem d_Mod_init_109 : decode b_Mod_init 109 = .ok (.dup, 1) := by decide +kernel
theorem d_Mod_init_110 : decode b_Mod_init 110 = .ok (.bipush 7, 2) := by decide +kernel
theorem d_Mod_init_112 : decode b_Mod_init 112 = .ok (.bipush 65, 2) := by decide +kernel
theorem d_Mod_init_114 : decode b_Mod_init 114 = .ok (.castore, 1) := by decide +kernel
theorem d_Mod_init_115 : decode b_Mod_init 115 = .ok (.dup, 1) := by decide +kernel
theorem d_Mod_init_116 : decode b_Mod_init 116 = .ok (.bipush 8, 2) := by decide +kernel
theorem d_Mod_init_118 : decode b_Mod_init 118 = .ok (.bipush 82, 2) := by decide +kernel
theorem d_Mod_init_120 : decode b_Mod_init 120 = .ok (.castore, 1) := by decide +kernel
theorem d_Mod_init_121 : decode b_Mod_init 121 = .ok (.dup, 1) := by decide +kernel
theorem d_Mod_init_122 : decode b_Mod_init 122 = .ok (.bipush 9, 2) := by decide +kernel
theorem d_Mod_init_124 : decode b_Mod_init 124 = .ok (.bipush 71, 2) := by decide +kernel
theorem d_Mod_init_126 : decode b_Mod_init 126 = .ok (.castore, 1) := by decide +kernel
theorem d_Mod_init_127 : decode b_Mod_init 127 = .ok (.dup, 1) := by decide +kernel
theorem d_Mod_init_128 : decode b_Mod_init 128 = .ok (.bipush 10, 2) := by decide +kernel
theorem d_Mod_init_130 : decode b_Mod_init 130 = .ok (.bipush 32, 2) := by decide +kernel
theorem d_Mod_init_132 : decode b_Mod_init 132 = .ok (.castore, 1) := by decide +kernel
theorem d_Mod_init_133 : decode b_Mod_init 133 = .ok (.dup, 1) := by decide +kernel
theorem d_Mod_init_134 : decode b_Mod_init 134 = .ok (.bipush 11, 2) := by decide +kernel
theorem d_Mod_init_136 : decode b_Mod_init 136 = .ok (.bipush 84, 2) := by decide +kernel
theorem d_Mod_init_138 : decode b_Mod_init 138 = .ok (.castore, 1) := by decide +kernel
theorem d_Mod_init_139 : decode b_Mod_init 139 = .ok (.dup, 1) := by decide +kernel
theorem d_Mod_init_140 : decode b_Mod_init 140 = .ok (.bipush 12, 2) := by decide +kernel
theorem d_Mod_init_142 : decode b_Mod_init 142 = .ok (.bipush 72, 2) := by decide +kernel
theorem d_Mod_init_144 : decode b_Mod_init 144 = .ok (.castore, 1) := by decide +kernel
theorem d_Mod_init_145 : decode b_Mod_init 145 = .ok (.dup, 1) := by decide +kernel
theorem d_Mod_init_146 : decode b_Mod_init 146 = .ok (.bipush 13, 2) := by decide +kernel
theorem d_Mod_init_148 : decode b_Mod_init 148 = .ok (.bipush 73, 2) := by decide +kernel
theorem d_Mod_init_150 : decode b_Mod_init 150 = .ok (.castore, 1) := by decide +kernel
theorem d_Mod_init_151 : decode b_Mod_init 151 = .ok (.dup, 1) := by decide +kernel
theorem d_Mod_init_152 : decode b_Mod_init 152 = .ok (.bipush 14, 2) := by decide +kernel
theorem d_Mod_init_154 : decode b_Mod_init 154 = .ok (.bipush 83, 2) := by decide +kernel
theorem d_Mod_init_156 : decode b_Mod_init 156 = .ok (.castore, 1) := by decide +kernel
theorem d_Mod_init_157 : decode b_Mod_init 157 = .ok (.dup, 1) := by decide +kernel
theorem d_Mod_init_158 : decode b_Mod_init 158 = .ok (.bipush 15, 2) := by decide +kernel
theorem d_Mod_init_160 : decode b_Mod_init 160 = .ok (.bipush 32, 2) := by decide +kernel
theorem d_Mod_init_162 : decode b_Mod_init 162 = .ok (.castore, 1) := by decide +kernel
theorem d_Mod_init_163 : decode b_Mod_init 163 = .ok (.dup, 1) := by decide +kernel
theorem d_Mod_init_164 : decode b_Mod_init 164 = .ok (.bipush 16, 2) := by decide +kernel
theorem d_Mod_init_166 : decode b_Mod_init 166 = .ok (.bipush 84, 2) := by decide +kernel
theorem d_Mod_init_168 : decode b_Mod_init 168 = .ok (.castore, 1) := by decide +kernel
theorem d_Mod_init_169 : decode b_Mod_init 169 = .ok (.dup, 1) := by decide +kernel
theorem d_Mod_init_170 : decode b_Mod_init 170 = .ok (.bipush 17, 2) := by decide +kernel
theorem d_Mod_init_172 : decode b_Mod_init 172 = .ok (.bipush 72, 2) := by decide +kernel
theorem d_Mod_init_174 : decode b_Mod_init 174 = .ok (.castore, 1) := by decide +kernel
theorem d_Mod_init_175 : decode b_Mod_init 175 = .ok (.dup, 1) := by decide +kernel
theorem d_Mod_init_176 : decode b_Mod_init 176 = .ok (.bipush 18, 2) := by decide +kernel
theorem d_Mod_init_178 : decode b_Mod_init 178 = .ok (.bipush 65, 2) := by decide +kernel
theorem d_Mod_init_180 : decode b_Mod_init 180 = .ok (.castore, 1) := by decide +kernel
theorem d_Mod_init_181 : decode b_Mod_init 181 = .ok (.dup, 1) := by decide +kernel
theorem d_Mod_init_182 : decode b_Mod_init 182 = .ok (.bipush 19, 2) := by decide +kernel
theorem d_Mod_init_184 : decode b_Mod_init 184 = .ok (.bipush 84, 2) := by decide +kernel
theorem d_Mod_init_186 : decode b_Mod_init 186 = .ok (.castore, 1) := by decide +kernel
theorem d_Mod_init_187 : decode b_Mod_init 187 = .ok (.dup, 1) := by decide +kernel
theorem d_Mod_init_188 : decode b_Mod_init 188 = .ok (.bipush 20, 2) := by decide +kernel
theorem d_Mod_init_190 : decode b_Mod_init 190 = .ok (.bipush 32, 2) := by decide +kernel
theorem d_Mod_init_192 : decode b_Mod_init 192 = .ok (.castore, 1) := by decide +kernel
theorem d_Mod_init_193 : decode b_Mod_init 193 = .ok (.dup, 1) := by decide +kernel
theorem d_Mod_init_194 : decode b_Mod_init 194 = .ok (.bipush 21, 2) := by decide +kernel
theorem d_Mod_init_196 : decode b_Mod_init 196 = .ok (.bipush 83, 2) := by decide +kernel
theorem d_Mod_init_198 : decode b_Mod_init 198 = .ok (.castore, 1) := by decide +kernel
theorem d_Mod_init_199 : decode b_Mod_init 199 = .ok (.dup, 1) := by decide +kernel
theorem d_Mod_init_200 : decode b_Mod_init 200 = .ok (.bipush 22, 2) := by decide +kernel
theorem d_Mod_init_202 : decode b_Mod_init 202 = .ok (.bipush 67, 2) := by decide +kernel
theorem d_Mod_init_204 : decode b_Mod_init 204 = .ok (.castore, 1) := by decide +kernel
theorem d_Mod_init_205 : decode b_Mod_init 205 = .ok (.dup, 1) := by decide +kernel
theorem d_Mod_init_206 : decode b_Mod_init 206 = .ok (.bipush 23, 2) := by decide +kernel
theorem d_Mod_init_208 : decode b_Mod_init 208 = .ok (.bipush 82, 2) := by decide +kernel
theorem d_Mod_init_210 : decode b_Mod_init 210 = .ok (.castore, 1) := by decide +kernel
theorem d_Mod_init_211 : decode b_Mod_init 211 = .ok (.dup, 1) := by decide +kernel
theorem d_Mod_init_212 : decode b_Mod_init 212 = .ok (.bipush 24, 2) := by decide +kernel
theorem d_Mod_init_214 : decode b_Mod_init 214 = .ok (.bipush 69, 2) := by decide +kernel
theorem d_Mod_init_216 : decode b_Mod_init 216 = .ok (.castore, 1) := by decide +kernel
theorem d_Mod_init_217 : decode b_Mod_init 217 = .ok (.dup, 1) := by decide +kernel
theorem d_Mod_init_218 : decode b_Mod_init 218 = .ok (.bipush 25, 2) := by decide +kernel
theorem d_Mod_init_220 : decode b_Mod_init 220 = .ok (.bipush 69, 2) := by decide +kernel
theorem d_Mod_init_222 : decode b_Mod_init 222 = .ok (.castore, 1) := by decide +kernel
theorem d_Mod_init_223 : decode b_Mod_init 223 = .ok (.dup, 1) := by decide +kernel
theorem d_Mod_init_224 : decode b_Mod_init 224 = .ok (.bipush 26, 2) := by decide +kernel
theorem d_Mod_init_226 : decode b_Mod_init 226 = .ok (.bipush 78, 2) := by decide +kernel
theorem d_Mod_init_228 : decode b_Mod_init 228 = .ok (.castore, 1) := by decide +kernel
theorem d_Mod_init_229 : decode b_Mod_init 229 = .ok (.dup, 1) := by decide +kernel
theorem d_Mod_init_230 : decode b_Mod_init 230 = .ok (.bipush 27, 2) := by decide +kernel
theorem d_Mod_init_232 : decode b_Mod_init 232 = .ok (.bipush 32, 2) := by decide +kernel
theorem d_Mod_init_234 : decode b_Mod_init 234 = .ok (.castore, 1) := by decide +kernel
theorem d_Mod_init_235 : decode b_Mod_init 235 = .ok (.dup, 1) := by decide +kernel
theorem d_Mod_init_236 : decode b_Mod_init 236 = .ok (.bipush 28, 2) := by decide +kernel
theorem d_Mod_init_238 : decode b_Mod_init 238 = .ok (.bipush 75, 2) := by decide +kernel
theorem d_Mod_init_240 : decode b_Mod_init 240 = .ok (.castore, 1) := by decide +kernel
theorem d_Mod_init_241 : decode b_Mod_init 241 = .ok (.dup, 1) := by decide +kernel
theorem d_Mod_init_242 : decode b_Mod_init 242 = .ok (.bipush 29, 2) := by decide +kernel
theorem d_Mod_init_244 : decode b_Mod_init 244 = .ok (.bipush 66, 2) := by decide +kernel
theorem d_Mod_init_246 : decode b_Mod_init 246 = .ok (.castore, 1) := by decide +kernel
theorem d_Mod_init_247 : decode b_Mod_init 247 = .ok (.dup, 1) := by decide +kernel
theorem d_Mod_init_248 : decode b_Mod_init 248 = .ok (.bipush 30, 2) := by decide +kernel
theorem d_Mod_init_250 : decode b_Mod_init 250 = .ok (.bipush 68, 2) := by decide +kernel
theorem d_Mod_init_252 : decode b_Mod_init 252 = .ok (.castore, 1) := by decide +kernel
theorem d_Mod_init_253 : decode b_Mod_init 253 = .ok (.dup, 1) := by decide +kernel
theorem d_Mod_init_254 : decode b_Mod_init 254 = .ok (.bipush 31, 2) := by decide +kernel
theorem d_Mod_init_256 : decode b_Mod_init 256 = .ok (.bipush 32, 2) := by decide +kernel
theorem d_Mod_init_258 : decode b_Mod_init 258 = .ok (.castore, 1) := by decide +kernel
theorem d_Mod_init_259 : decode b_Mod_init 259 = .ok (.putfield 36, 3) := by decide +kernel
theorem d_Mod_init_262 : decode b_Mod_init 262 = .ok (.aload_n 0, 1) := by decide +kernel
theorem d_Mod_init_263 : decode b_Mod_init 263 = .ok (.bipush 28, 2) := by decide +kernel
theorem d_Mod_init_265 : decode b_Mod_init 265 = .ok (.newarray .char, 2) := by decide +kernel
theorem d_Mod_init_267 : decode b_Mod_init 267 = .ok (.dup, 1) := by decide +kernel
theorem d_Mod_init_268 : decode b_Mod_init 268 = .ok (.iconst 0, 1) := by decide +kernel
theorem d_Mod_init_269 : decode b_Mod_init 269 = .ok (.bipush 74, 2) := by decide +kernel
theorem d_Mod_init_271 : decode b_Mod_init 271 = .ok (.castore, 1) := by decide +kernel
theorem d_Mod_init_272 : decode b_Mod_init 272 = .ok (.dup, 1) := by decide +kernel
theorem d_Mod_init_273 : decode b_Mod_init 273 = .ok (.iconst 1, 1) := by decide +kernel
theorem d_Mod_init_274 : decode b_Mod_init 274 = .ok (.bipush 71, 2) := by decide +kernel
theorem d_Mod_init_276 : decode b_Mod_init 276 = .ok (.castore, 1) := by decide +kernel
theorem d_Mod_init_277 : decode b_Mod_init 277 = .ok (.dup, 1) := by decide +kernel
theorem d_Mod_init_278 : decode b_Mod_init 278 = .ok (.iconst 2, 1) := by decide +kernel
theorem d_Mod_init_279 : decode b_Mod_init 279 = .ok (.bipush 84, 2) := by decide +kernel
theorem d_Mod_init_281 : decode b_Mod_init 281 = .ok (.castore, 1) := by decide +kernel
theorem d_Mod_init_282 : decode b_Mod_init 282 = .ok (.dup, 1) := by decide +kernel
theorem d_Mod_init_283 : decode b_Mod_init 283 = .ok (.iconst 3, 1) := by decide +kernel
theorem d_Mod_init_284 : decode b_Mod_init 284 = .ok (.bipush 32, 2) := by decide +kernel
theorem d_Mod_init_286 : decode b_Mod_init 286 = .ok (.castore, 1) := by decide +kernel
theorem d_Mod_init_287 : decode b_Mod_init 287 = .ok (.dup, 1) := by decide +kernel
theorem d_Mod_init_288 : decode b_Mod_init 288 = .ok (.iconst 4, 1) := by decide +kernel
theorem d_Mod_init_289 : decode b_Mod_init 289 = .ok (.bipush 74, 2) := by decide +kernel
theorem d_Mod_init_291 : decode b_Mod_init 291 = .ok (.castore, 1) := by decide +kernel
theorem d_Mod_init_292 : decode b_Mod_init 292 = .ok (.dup, 1) := by decide +kernel
theorem d_Mod_init_293 : decode b_Mod_init 293 = .ok (.iconst 5, 1) := by decide +kernel
theorem d_Mod_init_294 : decode b_Mod_init 294 = .ok (.bipush 69, 2) := by decide +kernel
theorem d_Mod_init_296 : decode b_Mod_init 296 = .ok (.castore, 1) := by decide +kernel
theorem d_Mod_init_297 : decode b_Mod_init 297 = .ok (.dup, 1) := by decide +kernel
theorem d_Mod_init_298 : decode b_Mod_init 298 = .ok (.bipush 6, 2) := by decide +kernel
theorem d_Mod_init_300 : decode b_Mod_init 300 = .ok (.bipush 81, 2) := by decide +kernel
theorem d_Mod_init_302 : decode b_Mod_init 302 = .ok (.castore, 1) := by decide +kernel
theorem d_Mod_init_303 : decode b_Mod_init 303 = .ok (.dup, 1) := by decide +kernel
theorem d_Mod_init_304 : decode b_Mod_init 304 = .ok (.bipush 7, 2) := by decide +kernel
theorem d_Mod_init_306 : decode b_Mod_init 306 = .ok (.bipush 32, 2) := by decide +kernel
theorem d_Mod_init_308 : decode b_Mod_init 308 = .ok (.castore, 1) := by decide +kernel
theorem d_Mod_init_309 : decode b_Mod_init 309 = .ok (.dup, 1) := by decide +kernel
theorem d_Mod_init_310 : decode b_Mod_init 310 = .ok (.bipush 8, 2) := by decide +kernel
theorem d_Mod_init_312 : decode b_Mod_init 312 = .ok (.bipush 74, 2) := by decide +kernel
theorem d_Mod_init_314 : decode b_Mod_init 314 = .ok (.castore, 1) := by decide +kernel
theorem d_Mod_init_315 : decode b_Mod_init 315 = .ok (.dup, 1) := by decide +kernel
theorem d_Mod_init_316 : decode b_Mod_init 316 = .ok (.bipush 9, 2) := by decide +kernel
theorem d_Mod_init_318 : decode b_Mod_init 318 = .ok (.bipush 71, 2) := by decide +kernel
theorem d_Mod_init_320 : decode b_Mod_init 320 = .ok (.castore, 1) := by decide +kernel
theorem d_Mod_init_321 : decode b_Mod_init 321 = .ok (.dup, 1) := by decide +kernel
theorem d_Mod_init_322 : decode b_Mod_init 322 = .ok (.bipush 10, 2) := by decide +kernel
theorem d_Mod_init_324 : decode b_Mod_init 324 = .ok (.bipush 69, 2) := by decide +kernel
theorem d_Mod_init_326 : decode b_Mod_init 326 = .ok (.castore, 1) := by decide +kernel
theorem d_Mod_init_327 : decode b_Mod_init 327 = .ok (.dup, 1) := by decide +kernel
theorem d_Mod_init_328 : decode b_Mod_init 328 = .ok (.bipush 11, 2) := by decide +kernel
theorem d_Mod_init_330 : decode b_Mod_init 330 = .ok (.bipush 32, 2) := by decide +kernel
theorem d_Mod_init_332 : decode b_Mod_init 332 = .ok (.castore, 1) := by decide +kernel
theorem d_Mod_init_333 : decode b_Mod_init 333 = .ok (.dup, 1) := by decide +kernel
theorem d_Mod_init_334 : decode b_Mod_init 334 = .ok (.bipush 12, 2) := by decide +kernel
theorem d_Mod_init_336 : decode b_Mod_init 336 = .ok (.bipush 74, 2) := by decide +kernel
theorem d_Mod_init_338 : decode b_Mod_init 338 = .ok (.castore, 1) := by decide +kernel
theorem d_Mod_init_339 : decode b_Mod_init 339 = .ok (.dup, 1) := by decide +kernel
theorem d_Mod_init_340 : decode b_Mod_init 340 = .ok (.bipush 13, 2) := by decide +kernel
theorem d_Mod_init_342 : decode b_Mod_init 342 = .ok (.bipush 76, 2) := by decide +kernel
theorem d_Mod_init_344 : decode b_Mod_init 344 = .ok (.castore, 1) := by decide +kernel
theorem d_Mod_init_345 : decode b_Mod_init 345 = .ok (.dup, 1) := by decide +kernel
theorem d_Mod_init_346 : decode b_Mod_init 346 = .ok (.bipush 14, 2) := by decide +kernel
theorem d_Mod_init_348 : decode b_Mod_init 348 = .ok (.bipush 84, 2) := by decide +kernel
theorem d_Mod_init_350 : decode b_Mod_init 350 = .ok (.castore, 1) := by decide +kernel
theorem d_Mod_init_351 : decode b_Mod_init 351 = .ok (.dup, 1) := by decide +kernel
theorem d_Mod_init_352 : decode b_Mod_init 352 = .ok (.bipush 15, 2) := by decide +kernel
theorem d_Mod_init_354 : decode b_Mod_init 354 = .ok (.bipush 32, 2) := by decide +kernel
theorem d_Mod_init_356 : decode b_Mod_init 356 = .ok (.castore, 1) := by decide +kernel
theorem d_Mod_init_357 : decode b_Mod_init 357 = .ok (.dup, 1) := by decide +kernel
theorem d_Mod_init_358 : decode b_Mod_init 358 = .ok (.bipush 16, 2) := by decide +kernel
theorem d_Mod_init_360 : decode b_Mod_init 360 = .ok (.bipush 74, 2) := by decide +kernel
theorem d_Mod_init_362 : decode b_Mod_init 362 = .ok (.castore, 1) := by decide +kernel
theorem d_Mod_init_363 : decode b_Mod_init 363 = .ok (.dup, 1) := by decide +kernel
theorem d_Mod_init_364 : decode b_Mod_init 364 = .ok (.bipush 17, 2) := by decide +kernel
theorem d_Mod_init_366 : decode b_Mod_init 366 = .ok (.bipush 78, 2) := by decide +kernel
theorem d_Mod_init_368 : decode b_Mod_init 368 = .ok (.castore, 1) := by decide +kernel
theorem d_Mod_init_369 : decode b_Mod_init 369 = .ok (.dup, 1) := by decide +kernel
theorem d_Mod_init_370 : decode b_Mod_init 370 = .ok (.bipush 18, 2) := by decide +kernel
theorem d_Mod_init_372 : decode b_Mod_init 372 = .ok (.bipush 69, 2) := by decide +kernel
theorem d_Mod_init_374 : decode b_Mod_init 374 = .ok (.castore, 1) := by decide +kernel
theorem d_Mod_init_375 : decode b_Mod_init 375 = .ok (.dup, 1) := by decide +kernel
theorem d_Mod_init_376 : decode b_Mod_init 376 = .ok (.bipush 19, 2) := by decide +kernel
theorem d_Mod_init_378 : decode b_Mod_init 378 = .ok (.bipush 32, 2) := by decide +kernel
theorem d_Mod_init_380 : decode b_Mod_init 380 = .ok (.castore, 1) := by decide +kernel
theorem d_Mod_init_381 : decode b_Mod_init 381 = .ok (.dup, 1) := by decide +kernel
theorem d_Mod_init_382 : decode b_Mod_init 382 = .ok (.bipush 20, 2) := by decide +kernel
theorem d_Mod_init_384 : decode b_Mod_init 384 = .ok (.bipush 74, 2) := by decide +kernel
theorem d_Mod_init_386 : decode b_Mod_init 386 = .ok (.castore, 1) := by decide +kernel
theorem d_Mod_init_387 : decode b_Mod_init 387 = .ok (.dup, 1) := by decide +kernel
theorem d_Mod_init_388 : decode b_Mod_init 388 = .ok (.bipush 21, 2) := by decide +kernel
theorem d_Mod_init_390 : decode b_Mod_init 390 = .ok (.bipush 76, 2) := by decide +kernel
theorem d_Mod_init_392 : decode b_Mod_init 392 = .ok (.castore, 1) := by decide +kernel
theorem d_Mod_init_393 : decode b_Mod_init 393 = .ok (.dup, 1) := by decide +kernel
theorem d_Mod_init_394 : decode b_Mod_init 394 = .ok (.bipush 22, 2) := by decide +kernel
theorem d_Mod_init_396 : decode b_Mod_init 396 = .ok (.bipush 69, 2) := by decide +kernel
theorem d_Mod_init_398 : decode b_Mod_init 398 = .ok (.castore, 1) := by decide +kernel
theorem d_Mod_init_399 : decode b_Mod_init 399 = .ok (.dup, 1) := by decide +kernel
theorem d_Mod_init_400 : decode b_Mod_init 400 = .ok (.bipush 23, 2) := by decide +kernel
theorem d_Mod_init_402 : decode b_Mod_init 402 = .ok (.bipush 32, 2) := by decide +kernel
theorem d_Mod_init_404 : decode b_Mod_init 404 = .ok (.castore, 1) := by decide +kernel
theorem d_Mod_init_405 : decode b_Mod_init 405 = .ok (.dup, 1) := by decide +kernel
theorem d_Mod_init_406 : decode b_Mod_init 406 = .ok (.bipush 24, 2) := by decide +kernel
theorem d_Mod_init_408 : decode b_Mod_init 408 = .ok (.bipush 74, 2) := by decide +kernel
theorem d_Mod_init_410 : decode b_Mod_init 410 = .ok (.castore, 1) := by decide +kernel
theorem d_Mod_init_411 : decode b_Mod_init 411 = .ok (.dup, 1) := by decide +kernel
theorem d_Mod_init_412 : decode b_Mod_init 412 = .ok (.bipush 25, 2) := by decide +kernel
theorem d_Mod_init_414 : decode b_Mod_init 414 = .ok (.bipush 77, 2) := by decide +kernel
theorem d_Mod_init_416 : decode b_Mod_init 416 = .ok (.castore, 1) := by decide +kernel
theorem d_Mod_init_417 : decode b_Mod_init 417 = .ok (.dup, 1) := by decide +kernel
theorem d_Mod_init_418 : decode b_Mod_init 418 = .ok (.bipush 26, 2) := by decide +kernel
theorem d_Mod_init_420 : decode b_Mod_init 420 = .ok (.bipush 80, 2) := by decide +kernel
theorem d_Mod_init_422 : decode b_Mod_init 422 = .ok (.castore, 1) := by decide +kernel
theorem d_Mod_init_423 : decode b_Mod_init 423 = .ok (.dup, 1) := by decide +kernel
theorem d_Mod_init_424 : decode b_Mod_init 424 = .ok (.bipush 27, 2) := by decide +kernel
theorem d_Mod_init_426 : decode b_Mod_init 426 = .ok (.bipush 32, 2) := by decide +kernel
theorem d_Mod_init_428 : decode b_Mod_init 428 = .ok (.castore, 1) := by decide +kernel
theorem d_Mod_init_429 : decode b_Mod_init 429 = .ok (.putfield 40, 3) := by decide +kernel
theorem d_Mod_init_432 : decode b_Mod_init 432 = .ok (.aload_n 0, 1) := by decide +kernel
theorem d_Mod_init_433 : decode b_Mod_init 433 = .ok (.bipush 19, 2) := by decide +kernel
theorem d_Mod_init_435 : decode b_Mod_init 435 = .ok (.newarray .char, 2) := by decide +kernel
theorem d_Mod_init_437 : decode b_Mod_init 437 = .ok (.dup, 1) := by decide +kernel
theorem d_Mod_init_438 : decode b_Mod_init 438 = .ok (.iconst 0, 1) := by decide +kernel
theorem d_Mod_init_439 : decode b_Mod_init 439 = .ok (.bipush 77, 2) := by decide +kernel
theorem d_Mod_init_441 : decode b_Mod_init 441 = .ok (.castore, 1) := by decide +kernel
