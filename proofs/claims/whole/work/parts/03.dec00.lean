/-! decode rows -/
theorem d_Dsk_init_0 : decode b_Dsk_init 0 = .ok (.aload_n 0, 1) := by decide +kernel
theorem d_Dsk_init_1 : decode b_Dsk_init 1 = .ok (.invokespecial 1, 3) := by decide +kernel
theorem d_Dsk_init_4 : decode b_Dsk_init 4 = .ok (.aload_n 0, 1) := by decide +kernel
theorem d_Dsk_init_5 : decode b_Dsk_init 5 = .ok (.new 7, 3) := by decide +kernel
theorem d_Dsk_init_8 : decode b_Dsk_init 8 = .ok (.dup, 1) := by decide +kernel
theorem d_Dsk_init_9 : decode b_Dsk_init 9 = .ok (.invokespecial 9, 3) := by decide +kernel
theorem d_Dsk_init_12 : decode b_Dsk_init 12 = .ok (.putfield 10, 3) := by decide +kernel
theorem d_Dsk_init_15 : decode b_Dsk_init 15 = .ok (.aload_n 0, 1) := by decide +kernel
theorem d_Dsk_init_16 : decode b_Dsk_init 16 = .ok (.new 16, 3) := by decide +kernel
theorem d_Dsk_init_19 : decode b_Dsk_init 19 = .ok (.dup, 1) := by decide +kernel
theorem d_Dsk_init_20 : decode b_Dsk_init 20 = .ok (.invokespecial 18, 3) := by decide +kernel
theorem d_Dsk_init_23 : decode b_Dsk_init 23 = .ok (.putfield 19, 3) := by decide +kernel
theorem d_Dsk_init_26 : decode b_Dsk_init 26 = .ok (.aload_n 0, 1) := by decide +kernel
theorem d_Dsk_init_27 : decode b_Dsk_init 27 = .ok (.new 23, 3) := by decide +kernel
theorem d_Dsk_init_30 : decode b_Dsk_init 30 = .ok (.dup, 1) := by decide +kernel
theorem d_Dsk_init_31 : decode b_Dsk_init 31 = .ok (.aload_n 0, 1) := by decide +kernel
theorem d_Dsk_init_32 : decode b_Dsk_init 32 = .ok (.getfield 10, 3) := by decide +kernel
theorem d_Dsk_init_35 : decode b_Dsk_init 35 = .ok (.aload_n 0, 1) := by decide +kernel
theorem d_Dsk_init_36 : decode b_Dsk_init 36 = .ok (.getfield 19, 3) := by decide +kernel
theorem d_Dsk_init_39 : decode b_Dsk_init 39 = .ok (.invokespecial 25, 3) := by decide +kernel
theorem d_Dsk_init_42 : decode b_Dsk_init 42 = .ok (.putfield 28, 3) := by decide +kernel
theorem d_Dsk_init_45 : decode b_Dsk_init 45 = .ok (.aload_n 0, 1) := by decide +kernel
theorem d_Dsk_init_46 : decode b_Dsk_init 46 = .ok (.new 32, 3) := by decide +kernel
theorem d_Dsk_init_49 : decode b_Dsk_init 49 = .ok (.dup, 1) := by decide +kernel
theorem d_Dsk_init_50 : decode b_Dsk_init 50 = .ok (.aload_n 0, 1) := by decide +kernel
theorem d_Dsk_init_51 : decode b_Dsk_init 51 = .ok (.getfield 19, 3) := by decide +kernel
theorem d_Dsk_init_54 : decode b_Dsk_init 54 = .ok (.invokespecial 34, 3) := by decide +kernel
theorem d_Dsk_init_57 : decode b_Dsk_init 57 = .ok (.putfield 37, 3) := by decide +kernel
theorem d_Dsk_init_60 : decode b_Dsk_init 60 = .ok (.return_, 1) := by decide +kernel
theorem d_Txt_init_0 : decode b_Txt_init 0 = .ok (.aload_n 0, 1) := by decide +kernel
theorem d_Txt_init_1 : decode b_Txt_init 1 = .ok (.invokespecial 1, 3) := by decide +kernel
theorem d_Txt_init_4 : decode b_Txt_init 4 = .ok (.aload_n 0, 1) := by decide +kernel
theorem d_Txt_init_5 : decode b_Txt_init 5 = .ok (.sipush 2000, 3) := by decide +kernel
theorem d_Txt_init_8 : decode b_Txt_init 8 = .ok (.newarray .byte, 2) := by decide +kernel
theorem d_Txt_init_10 : decode b_Txt_init 10 = .ok (.putfield 9, 3) := by decide +kernel
theorem d_Txt_init_13 : decode b_Txt_init 13 = .ok (.return_, 1) := by decide +kernel
theorem d_Prg_init_0 : decode b_Prg_init 0 = .ok (.aload_n 0, 1) := by decide +kernel
theorem d_Prg_init_1 : decode b_Prg_init 1 = .ok (.invokespecial 1, 3) := by decide +kernel
theorem d_Prg_init_4 : decode b_Prg_init 4 = .ok (.aload_n 0, 1) := by decide +kernel
theorem d_Prg_init_5 : decode b_Prg_init 5 = .ok (.sipush 600, 3) := by decide +kernel
theorem d_Prg_init_8 : decode b_Prg_init 8 = .ok (.newarray .int, 2) := by decide +kernel
theorem d_Prg_init_10 : decode b_Prg_init 10 = .ok (.putfield 9, 3) := by decide +kernel
theorem d_Prg_init_13 : decode b_Prg_init 13 = .ok (.return_, 1) := by decide +kernel
theorem d_Rdr_init_0 : decode b_Rdr_init 0 = .ok (.aload_n 0, 1) := by decide +kernel
theorem d_Rdr_init_1 : decode b_Rdr_init 1 = .ok (.invokespecial 3, 3) := by decide +kernel
theorem d_Rdr_init_4 : decode b_Rdr_init 4 = .ok (.aload_n 0, 1) := by decide +kernel
theorem d_Rdr_init_5 : decode b_Rdr_init 5 = .ok (.iconst (-1), 1) := by decide +kernel
theorem d_Rdr_init_6 : decode b_Rdr_init 6 = .ok (.putfield 11, 3) := by decide +kernel
theorem d_Rdr_init_9 : decode b_Rdr_init 9 = .ok (.aload_n 0, 1) := by decide +kernel
theorem d_Rdr_init_10 : decode b_Rdr_init 10 = .ok (.aload_n 1, 1) := by decide +kernel
theorem d_Rdr_init_11 : decode b_Rdr_init 11 = .ok (.putfield 15, 3) := by decide +kernel
theorem d_Rdr_init_14 : decode b_Rdr_init 14 = .ok (.aload_n 0, 1) := by decide +kernel
theorem d_Rdr_init_15 : decode b_Rdr_init 15 = .ok (.aload_n 2, 1) := by decide +kernel
theorem d_Rdr_init_16 : decode b_Rdr_init 16 = .ok (.putfield 19, 3) := by decide +kernel
theorem d_Rdr_init_19 : decode b_Rdr_init 19 = .ok (.aload_n 0, 1) := by decide +kernel
theorem d_Rdr_init_20 : decode b_Rdr_init 20 = .ok (.new 23, 3) := by decide +kernel
theorem d_Rdr_init_23 : decode b_Rdr_init 23 = .ok (.dup, 1) := by decide +kernel
theorem d_Rdr_init_24 : decode b_Rdr_init 24 = .ok (.aload_n 1, 1) := by decide +kernel
theorem d_Rdr_init_25 : decode b_Rdr_init 25 = .ok (.invokespecial 25, 3) := by decide +kernel
theorem d_Rdr_init_28 : decode b_Rdr_init 28 = .ok (.putfield 28, 3) := by decide +kernel
theorem d_Rdr_init_31 : decode b_Rdr_init 31 = .ok (.return_, 1) := by decide +kernel
theorem d_Sym_init_0 : decode b_Sym_init 0 = .ok (.aload_n 0, 1) := by decide +kernel
theorem d_Sym_init_1 : decode b_Sym_init 1 = .ok (.invokespecial 1, 3) := by decide +kernel
theorem d_Sym_init_4 : decode b_Sym_init 4 = .ok (.aload_n 0, 1) := by decide +kernel
theorem d_Sym_init_5 : decode b_Sym_init 5 = .ok (.bipush 40, 2) := by decide +kernel
theorem d_Sym_init_7 : decode b_Sym_init 7 = .ok (.newarray .int, 2) := by decide +kernel
theorem d_Sym_init_9 : decode b_Sym_init 9 = .ok (.putfield 9, 3) := by decide +kernel
theorem d_Sym_init_12 : decode b_Sym_init 12 = .ok (.aload_n 0, 1) := by decide +kernel
theorem d_Sym_init_13 : decode b_Sym_init 13 = .ok (.bipush 40, 2) := by decide +kernel
theorem d_Sym_init_15 : decode b_Sym_init 15 = .ok (.newarray .int, 2) := by decide +kernel
theorem d_Sym_init_17 : decode b_Sym_init 17 = .ok (.putfield 13, 3) := by decide +kernel
theorem d_Sym_init_20 : decode b_Sym_init 20 = .ok (.aload_n 0, 1) := by decide +kernel
theorem d_Sym_init_21 : decode b_Sym_init 21 = .ok (.bipush 40, 2) := by decide +kernel
theorem d_Sym_init_23 : decode b_Sym_init 23 = .ok (.newarray .int, 2) := by decide +kernel
theorem d_Sym_init_25 : decode b_Sym_init 25 = .ok (.putfield 16, 3) := by decide +kernel
theorem d_Sym_init_28 : decode b_Sym_init 28 = .ok (.aload_n 0, 1) := by decide +kernel
theorem d_Sym_init_29 : decode b_Sym_init 29 = .ok (.aload_n 1, 1) := by decide +kernel
theorem d_Sym_init_30 : decode b_Sym_init 30 = .ok (.putfield 19, 3) := by decide +kernel
theorem d_Sym_init_33 : decode b_Sym_init 33 = .ok (.return_, 1) := by decide +kernel
theorem d_Prc_init_0 : decode b_Prc_init 0 = .ok (.aload_n 0, 1) := by decide +kernel
theorem d_Prc_init_1 : decode b_Prc_init 1 = .ok (.invokespecial 3, 3) := by decide +kernel
theorem d_Prc_init_4 : decode b_Prc_init 4 = .ok (.aload_n 0, 1) := by decide +kernel
theorem d_Prc_init_5 : decode b_Prc_init 5 = .ok (.aload_n 1, 1) := by decide +kernel
theorem d_Prc_init_6 : decode b_Prc_init 6 = .ok (.putfield 9, 3) := by decide +kernel
theorem d_Prc_init_9 : decode b_Prc_init 9 = .ok (.aload_n 0, 1) := by decide +kernel
theorem d_Prc_init_10 : decode b_Prc_init 10 = .ok (.new 15, 3) := by decide +kernel
theorem d_Prc_init_13 : decode b_Prc_init 13 = .ok (.dup, 1) := by decide +kernel
theorem d_Prc_init_14 : decode b_Prc_init 14 = .ok (.invokespecial 17, 3) := by decide +kernel
theorem d_Prc_init_17 : decode b_Prc_init 17 = .ok (.putfield 18, 3) := by decide +kernel
theorem d_Prc_init_20 : decode b_Prc_init 20 = .ok (.return_, 1) := by decide +kernel
theorem d_Mem_init_0 : decode b_Mem_init 0 = .ok (.aload_n 0, 1) := by decide +kernel
theorem d_Mem_init_1 : decode b_Mem_init 1 = .ok (.invokespecial 5, 3) := by decide +kernel
theorem d_Mem_init_4 : decode b_Mem_init 4 = .ok (.aload_n 0, 1) := by decide +kernel
theorem d_Mem_init_5 : decode b_Mem_init 5 = .ok (.sipush 128, 3) := by decide +kernel
theorem d_Mem_init_8 : decode b_Mem_init 8 = .ok (.anewarray 3, 3) := by decide +kernel
theorem d_Mem_init_11 : decode b_Mem_init 11 = .ok (.putfield 11, 3) := by decide +kernel
theorem d_Mem_init_14 : decode b_Mem_init 14 = .ok (.return_, 1) := by decide +kernel
theorem d_Dsk_put_0 : decode b_Dsk_put 0 = .ok (.aload_n 0, 1) := by decide +kernel
theorem d_Dsk_put_1 : decode b_Dsk_put 1 = .ok (.getfield 10, 3) := by decide +kernel
theorem d_Dsk_put_4 : decode b_Dsk_put 4 = .ok (.lload_n 1, 1) := by decide +kernel
theorem d_Dsk_put_5 : decode b_Dsk_put 5 = .ok (.iload_n 3, 1) := by decide +kernel
theorem d_Dsk_put_6 : decode b_Dsk_put 6 = .ok (.invokevirtual 41, 3) := by decide +kernel
theorem d_Dsk_put_9 : decode b_Dsk_put 9 = .ok (.ireturn, 1) := by decide +kernel
theorem d_Txt_append_0 : decode b_Txt_append 0 = .ok (.iload_n 3, 1) := by decide +kernel
theorem d_Txt_append_1 : decode b_Txt_append 1 = .ok (.iconst 1, 1) := by decide +kernel
theorem d_Txt_append_2 : decode b_Txt_append 2 = .ok (.if_icmp .lt 21, 3) := by decide +kernel
theorem d_Txt_append_5 : decode b_Txt_append 5 = .ok (.iload_n 3, 1) := by decide +kernel
theorem d_Txt_append_6 : decode b_Txt_append 6 = .ok (.bipush 8, 2) := by decide +kernel
theorem d_Txt_append_8 : decode b_Txt_append 8 = .ok (.if_icmp .gt 15, 3) := by decide +kernel
theorem d_Txt_append_11 : decode b_Txt_append 11 = .ok (.iload_n 3, 1) := by decide +kernel
theorem d_Txt_append_12 : decode b_Txt_append 12 = .ok (.sipush 2000, 3) := by decide +kernel
theorem d_Txt_append_15 : decode b_Txt_append 15 = .ok (.aload_n 0, 1) := by decide +kernel
theorem d_Txt_append_16 : decode b_Txt_append 16 = .ok (.getfield 13, 3) := by decide +kernel
theorem d_Txt_append_19 : decode b_Txt_append 19 = .ok (.isub, 1) := by decide +kernel
theorem d_Txt_append_20 : decode b_Txt_append 20 = .ok (.if_icmp .le 5, 3) := by decide +kernel
theorem d_Txt_append_23 : decode b_Txt_append 23 = .ok (.iconst 0, 1) := by decide +kernel
theorem d_Txt_append_24 : decode b_Txt_append 24 = .ok (.ireturn, 1) := by decide +kernel
theorem d_Txt_append_25 : decode b_Txt_append 25 = .ok (.iconst 0, 1) := by decide +kernel
theorem d_Txt_append_26 : decode b_Txt_append 26 = .ok (.istore 4, 2) := by decide +kernel
theorem d_Txt_append_28 : decode b_Txt_append 28 = .ok (.iload 4, 2) := by decide +kernel
theorem d_Txt_append_30 : decode b_Txt_append 30 = .ok (.iload_n 3, 1) := by decide +kernel
theorem d_Txt_append_31 : decode b_Txt_append 31 = .ok (.if_icmp .ge 34, 3) := by decide +kernel
theorem d_Txt_append_34 : decode b_Txt_append 34 = .ok (.aload_n 0, 1) := by decide +kernel
theorem d_Txt_append_35 : decode b_Txt_append 35 = .ok (.getfield 9, 3) := by decide +kernel
theorem d_Txt_append_38 : decode b_Txt_append 38 = .ok (.aload_n 0, 1) := by decide +kernel
theorem d_Txt_append_39 : decode b_Txt_append 39 = .ok (.getfield 13, 3) := by decide +kernel
theorem d_Txt_append_42 : decode b_Txt_append 42 = .ok (.iload 4, 2) := by decide +kernel
theorem d_Txt_append_44 : decode b_Txt_append 44 = .ok (.iadd, 1) := by decide +kernel
theorem d_Txt_append_45 : decode b_Txt_append 45 = .ok (.lload_n 1, 1) := by decide +kernel
theorem d_Txt_append_46 : decode b_Txt_append 46 = .ok (.bipush 8, 2) := by decide +kernel
theorem d_Txt_append_48 : decode b_Txt_append 48 = .ok (.iload_n 3, 1) := by decide +kernel
theorem d_Txt_append_49 : decode b_Txt_append 49 = .ok (.iconst 1, 1) := by decide +kernel
theorem d_Txt_append_50 : decode b_Txt_append 50 = .ok (.isub, 1) := by decide +kernel
theorem d_Txt_append_51 : decode b_Txt_append 51 = .ok (.iload 4, 2) := by decide +kernel
theorem d_Txt_append_53 : decode b_Txt_append 53 = .ok (.isub, 1) := by decide +kernel
theorem d_Txt_append_54 : decode b_Txt_append 54 = .ok (.imul, 1) := by decide +kernel
theorem d_Txt_append_55 : decode b_Txt_append 55 = .ok (.lushr, 1) := by decide +kernel
theorem d_Txt_append_56 : decode b_Txt_append 56 = .ok (.l2i, 1) := by decide +kernel
theorem d_Txt_append_57 : decode b_Txt_append 57 = .ok (.i2b, 1) := by decide +kernel
theorem d_Txt_append_58 : decode b_Txt_append 58 = .ok (.bastore, 1) := by decide +kernel
theorem d_Txt_append_59 : decode b_Txt_append 59 = .ok (.iinc 4 1, 3) := by decide +kernel
theorem d_Txt_append_62 : decode b_Txt_append 62 = .ok (.goto (-34), 3) := by decide +kernel
theorem d_Txt_append_65 : decode b_Txt_append 65 = .ok (.aload_n 0, 1) := by decide +kernel
theorem d_Txt_append_66 : decode b_Txt_append 66 = .ok (.dup, 1) := by decide +kernel
theorem d_Txt_append_67 : decode b_Txt_append 67 = .ok (.getfield 13, 3) := by decide +kernel
theorem d_Txt_append_70 : decode b_Txt_append 70 = .ok (.iload_n 3, 1) := by decide +kernel
theorem d_Txt_append_71 : decode b_Txt_append 71 = .ok (.iadd, 1) := by decide +kernel
theorem d_Txt_append_72 : decode b_Txt_append 72 = .ok (.putfield 13, 3) := by decide +kernel
theorem d_Txt_append_75 : decode b_Txt_append 75 = .ok (.iconst 1, 1) := by decide +kernel
theorem d_Txt_append_76 : decode b_Txt_append 76 = .ok (.ireturn, 1) := by decide +kernel
theorem d_Dsk_read_0 : decode b_Dsk_read 0 = .ok (.aload_n 0, 1) := by decide +kernel
theorem d_Dsk_read_1 : decode b_Dsk_read 1 = .ok (.getfield 28, 3) := by decide +kernel
theorem d_Dsk_read_4 : decode b_Dsk_read 4 = .ok (.invokevirtual 45, 3) := by decide +kernel
theorem d_Dsk_read_7 : decode b_Dsk_read 7 = .ok (.istore_n 1, 1) := by decide +kernel
theorem d_Dsk_read_8 : decode b_Dsk_read 8 = .ok (.aload_n 0, 1) := by decide +kernel
theorem d_Dsk_read_9 : decode b_Dsk_read 9 = .ok (.getfield 10, 3) := by decide +kernel
theorem d_Dsk_read_12 : decode b_Dsk_read 12 = .ok (.invokevirtual 49, 3) := by decide +kernel
theorem d_Dsk_read_15 : decode b_Dsk_read 15 = .ok (.aload_n 0, 1) := by decide +kernel
theorem d_Dsk_read_16 : decode b_Dsk_read 16 = .ok (.getfield 37, 3) := by decide +kernel
theorem d_Dsk_read_19 : decode b_Dsk_read 19 = .ok (.invokevirtual 52, 3) := by decide +kernel
theorem d_Dsk_read_22 : decode b_Dsk_read 22 = .ok (.iload_n 1, 1) := by decide +kernel
theorem d_Dsk_read_23 : decode b_Dsk_read 23 = .ok (.ireturn, 1) := by decide +kernel
theorem d_Rdr_assemble_0 : decode b_Rdr_assemble 0 = .ok (.aload_n 0, 1) := by decide +kernel
theorem d_Rdr_assemble_1 : decode b_Rdr_assemble 1 = .ok (.invokevirtual 36, 3) := by decide +kernel
theorem d_Rdr_assemble_4 : decode b_Rdr_assemble 4 = .ok (.aload_n 0, 1) := by decide +kernel
theorem d_Rdr_assemble_5 : decode b_Rdr_assemble 5 = .ok (.iconst (-1), 1) := by decide +kernel
theorem d_Rdr_assemble_6 : decode b_Rdr_assemble 6 = .ok (.putfield 11, 3) := by decide +kernel
theorem d_Rdr_assemble_9 : decode b_Rdr_assemble 9 = .ok (.iconst 0, 1) := by decide +kernel
theorem d_Rdr_assemble_10 : decode b_Rdr_assemble 10 = .ok (.istore_n 1, 1) := by decide +kernel
theorem d_Rdr_assemble_11 : decode b_Rdr_assemble 11 = .ok (.iconst 0, 1) := by decide +kernel
theorem d_Rdr_assemble_12 : decode b_Rdr_assemble 12 = .ok (.istore_n 2, 1) := by decide +kernel
theorem d_Rdr_assemble_13 : decode b_Rdr_assemble 13 = .ok (.iconst 0, 1) := by decide +kernel
theorem d_Rdr_assemble_14 : decode b_Rdr_assemble 14 = .ok (.istore_n 3, 1) := by decide +kernel
theorem d_Rdr_assemble_15 : decode b_Rdr_assemble 15 = .ok (.iconst 0, 1) := by decide +kernel
theorem d_Rdr_assemble_16 : decode b_Rdr_assemble 16 = .ok (.istore 4, 2) := by decide +kernel
theorem d_Rdr_assemble_18 : decode b_Rdr_assemble 18 = .ok (.iload 4, 2) := by decide +kernel
theorem d_Rdr_assemble_20 : decode b_Rdr_assemble 20 = .ok (.aload_n 0, 1) := by decide +kernel
theorem d_Rdr_assemble_21 : decode b_Rdr_assemble 21 = .ok (.getfield 15, 3) := by decide +kernel
theorem d_Rdr_assemble_24 : decode b_Rdr_assemble 24 = .ok (.invokevirtual 39, 3) := by decide +kernel
theorem d_Rdr_assemble_27 : decode b_Rdr_assemble 27 = .ok (.if_icmp .ge 118, 3) := by decide +kernel
theorem d_Rdr_assemble_30 : decode b_Rdr_assemble 30 = .ok (.iload_n 1, 1) := by decide +kernel
theorem d_Rdr_assemble_31 : decode b_Rdr_assemble 31 = .ok (.ifCond .ne 114, 3) := by decide +kernel
theorem d_Rdr_assemble_34 : decode b_Rdr_assemble 34 = .ok (.iload 4, 2) := by decide +kernel
theorem d_Rdr_assemble_36 : decode b_Rdr_assemble 36 = .ok (.iload_n 3, 1) := by decide +kernel
theorem d_Rdr_assemble_37 : decode b_Rdr_assemble 37 = .ok (.if_icmp .lt 102, 3) := by decide +kernel
theorem d_Rdr_assemble_40 : decode b_Rdr_assemble 40 = .ok (.aload_n 0, 1) := by decide +kernel
theorem d_Rdr_assemble_41 : decode b_Rdr_assemble 41 = .ok (.getfield 15, 3) := by decide +kernel
theorem d_Rdr_assemble_44 : decode b_Rdr_assemble 44 = .ok (.iload 4, 2) := by decide +kernel
theorem d_Rdr_assemble_46 : decode b_Rdr_assemble 46 = .ok (.invokevirtual 44, 3) := by decide +kernel
theorem d_Rdr_assemble_49 : decode b_Rdr_assemble 49 = .ok (.ifCond .eq 6, 3) := by decide +kernel
theorem d_Rdr_assemble_52 : decode b_Rdr_assemble 52 = .ok (.goto 87, 3) := by decide +kernel
theorem d_Rdr_assemble_55 : decode b_Rdr_assemble 55 = .ok (.aload_n 0, 1) := by decide +kernel
theorem d_Rdr_assemble_56 : decode b_Rdr_assemble 56 = .ok (.getfield 15, 3) := by decide +kernel
theorem d_Rdr_assemble_59 : decode b_Rdr_assemble 59 = .ok (.iload 4, 2) := by decide +kernel
theorem d_Rdr_assemble_61 : decode b_Rdr_assemble 61 = .ok (.invokevirtual 48, 3) := by decide +kernel
theorem d_Rdr_assemble_64 : decode b_Rdr_assemble 64 = .ok (.ifCond .eq 8, 3) := by decide +kernel
theorem d_Rdr_assemble_67 : decode b_Rdr_assemble 67 = .ok (.iconst 0, 1) := by decide +kernel
theorem d_Rdr_assemble_68 : decode b_Rdr_assemble 68 = .ok (.istore_n 2, 1) := by decide +kernel
theorem d_Rdr_assemble_69 : decode b_Rdr_assemble 69 = .ok (.goto 70, 3) := by decide +kernel
theorem d_Rdr_assemble_72 : decode b_Rdr_assemble 72 = .ok (.aload_n 0, 1) := by decide +kernel
theorem d_Rdr_assemble_73 : decode b_Rdr_assemble 73 = .ok (.getfield 15, 3) := by decide +kernel
theorem d_Rdr_assemble_76 : decode b_Rdr_assemble 76 = .ok (.iload 4, 2) := by decide +kernel
theorem d_Rdr_assemble_78 : decode b_Rdr_assemble 78 = .ok (.invokevirtual 51, 3) := by decide +kernel
theorem d_Rdr_assemble_81 : decode b_Rdr_assemble 81 = .ok (.ifCond .eq 16, 3) := by decide +kernel
theorem d_Rdr_assemble_84 : decode b_Rdr_assemble 84 = .ok (.aload_n 0, 1) := by decide +kernel
theorem d_Rdr_assemble_85 : decode b_Rdr_assemble 85 = .ok (.getfield 15, 3) := by decide +kernel
theorem d_Rdr_assemble_88 : decode b_Rdr_assemble 88 = .ok (.iload 4, 2) := by decide +kernel
theorem d_Rdr_assemble_90 : decode b_Rdr_assemble 90 = .ok (.invokevirtual 54, 3) := by decide +kernel
theorem d_Rdr_assemble_93 : decode b_Rdr_assemble 93 = .ok (.istore_n 3, 1) := by decide +kernel
theorem d_Rdr_assemble_94 : decode b_Rdr_assemble 94 = .ok (.goto 45, 3) := by decide +kernel
theorem d_Rdr_assemble_97 : decode b_Rdr_assemble 97 = .ok (.aload_n 0, 1) := by decide +kernel
theorem d_Rdr_assemble_98 : decode b_Rdr_assemble 98 = .ok (.getfield 15, 3) := by decide +kernel
theorem d_Rdr_assemble_101 : decode b_Rdr_assemble 101 = .ok (.iload 4, 2) := by decide +kernel
theorem d_Rdr_assemble_103 : decode b_Rdr_assemble 103 = .ok (.invokevirtual 58, 3) := by decide +kernel
theorem d_Rdr_assemble_106 : decode b_Rdr_assemble 106 = .ok (.istore_n 3, 1) := by decide +kernel
theorem d_Rdr_assemble_107 : decode b_Rdr_assemble 107 = .ok (.iload_n 2, 1) := by decide +kernel
theorem d_Rdr_assemble_108 : decode b_Rdr_assemble 108 = .ok (.ifCond .eq 7, 3) := by decide +kernel
theorem d_Rdr_assemble_111 : decode b_Rdr_assemble 111 = .ok (.iconst 1, 1) := by decide +kernel
theorem d_Rdr_assemble_112 : decode b_Rdr_assemble 112 = .ok (.goto 10, 3) := by decide +kernel
theorem d_Rdr_assemble_115 : decode b_Rdr_assemble 115 = .ok (.aload_n 0, 1) := by decide +kernel
theorem d_Rdr_assemble_116 : decode b_Rdr_assemble 116 = .ok (.iload 4, 2) := by decide +kernel
theorem d_Rdr_assemble_118 : decode b_Rdr_assemble 118 = .ok (.iload_n 3, 1) := by decide +kernel
theorem d_Rdr_assemble_119 : decode b_Rdr_assemble 119 = .ok (.invokevirtual 61, 3) := by decide +kernel
theorem d_Rdr_assemble_122 : decode b_Rdr_assemble 122 = .ok (.istore_n 1, 1) := by decide +kernel
theorem d_Rdr_assemble_123 : decode b_Rdr_assemble 123 = .ok (.aload_n 0, 1) := by decide +kernel
theorem d_Rdr_assemble_124 : decode b_Rdr_assemble 124 = .ok (.iload_n 1, 1) := by decide +kernel
theorem d_Rdr_assemble_125 : decode b_Rdr_assemble 125 = .ok (.ifCond .ne 7, 3) := by decide +kernel
theorem d_Rdr_assemble_128 : decode b_Rdr_assemble 128 = .ok (.iconst (-1), 1) := by decide +kernel
theorem d_Rdr_assemble_129 : decode b_Rdr_assemble 129 = .ok (.goto 5, 3) := by decide +kernel
theorem d_Rdr_assemble_132 : decode b_Rdr_assemble 132 = .ok (.iload 4, 2) := by decide +kernel
theorem d_Rdr_assemble_134 : decode b_Rdr_assemble 134 = .ok (.putfield 11, 3) := by decide +kernel
theorem d_Rdr_assemble_137 : decode b_Rdr_assemble 137 = .ok (.iconst 1, 1) := by decide +kernel
theorem d_Rdr_assemble_138 : decode b_Rdr_assemble 138 = .ok (.istore_n 2, 1) := by decide +kernel
theorem d_Rdr_assemble_139 : decode b_Rdr_assemble 139 = .ok (.iinc 4 1, 3) := by decide +kernel
theorem d_Rdr_assemble_142 : decode b_Rdr_assemble 142 = .ok (.goto (-124), 3) := by decide +kernel
theorem d_Rdr_assemble_145 : decode b_Rdr_assemble 145 = .ok (.iload_n 1, 1) := by decide +kernel
theorem d_Rdr_assemble_146 : decode b_Rdr_assemble 146 = .ok (.ifCond .ne 10, 3) := by decide +kernel
theorem d_Rdr_assemble_149 : decode b_Rdr_assemble 149 = .ok (.aload_n 0, 1) := by decide +kernel
theorem d_Rdr_assemble_150 : decode b_Rdr_assemble 150 = .ok (.invokevirtual 65, 3) := by decide +kernel
theorem d_Rdr_assemble_153 : decode b_Rdr_assemble 153 = .ok (.goto 7, 3) := by decide +kernel
theorem d_Rdr_assemble_156 : decode b_Rdr_assemble 156 = .ok (.aload_n 0, 1) := by decide +kernel
theorem d_Rdr_assemble_157 : decode b_Rdr_assemble 157 = .ok (.invokevirtual 36, 3) := by decide +kernel
theorem d_Rdr_assemble_160 : decode b_Rdr_assemble 160 = .ok (.iload_n 1, 1) := by decide +kernel
theorem d_Rdr_assemble_161 : decode b_Rdr_assemble 161 = .ok (.ireturn, 1) := by decide +kernel
theorem d_Rdr_forget_0 : decode b_Rdr_forget 0 = .ok (.aload_n 0, 1) := by decide +kernel
theorem d_Rdr_forget_1 : decode b_Rdr_forget 1 = .ok (.getfield 19, 3) := by decide +kernel
theorem d_Rdr_forget_4 : decode b_Rdr_forget 4 = .ok (.invokevirtual 68, 3) := by decide +kernel
theorem d_Rdr_forget_7 : decode b_Rdr_forget 7 = .ok (.aload_n 0, 1) := by decide +kernel
theorem d_Rdr_forget_8 : decode b_Rdr_forget 8 = .ok (.getfield 28, 3) := by decide +kernel
theorem d_Rdr_forget_11 : decode b_Rdr_forget 11 = .ok (.invokevirtual 73, 3) := by decide +kernel
theorem d_Rdr_forget_14 : decode b_Rdr_forget 14 = .ok (.return_, 1) := by decide +kernel
theorem d_Prg_clear_0 : decode b_Prg_clear 0 = .ok (.aload_n 0, 1) := by decide +kernel
theorem d_Prg_clear_1 : decode b_Prg_clear 1 = .ok (.iconst 0, 1) := by decide +kernel
theorem d_Prg_clear_2 : decode b_Prg_clear 2 = .ok (.putfield 13, 3) := by decide +kernel
theorem d_Prg_clear_5 : decode b_Prg_clear 5 = .ok (.return_, 1) := by decide +kernel
theorem d_Sym_clear_0 : decode b_Sym_clear 0 = .ok (.aload_n 0, 1) := by decide +kernel
theorem d_Sym_clear_1 : decode b_Sym_clear 1 = .ok (.iconst 0, 1) := by decide +kernel
theorem d_Sym_clear_2 : decode b_Sym_clear 2 = .ok (.putfield 23, 3) := by decide +kernel
theorem d_Sym_clear_5 : decode b_Sym_clear 5 = .ok (.return_, 1) := by decide +kernel
theorem d_Txt_size_0 : decode b_Txt_size 0 = .ok (.aload_n 0, 1) := by decide +kernel
theorem d_Txt_size_1 : decode b_Txt_size 1 = .ok (.getfield 13, 3) := by decide +kernel
theorem d_Txt_size_4 : decode b_Txt_size 4 = .ok (.ireturn, 1) := by decide +kernel
theorem d_Txt_isBlank_0 : decode b_Txt_isBlank 0 = .ok (.aload_n 0, 1) := by decide +kernel
theorem d_Txt_isBlank_1 : decode b_Txt_isBlank 1 = .ok (.iload_n 1, 1) := by decide +kernel
theorem d_Txt_isBlank_2 : decode b_Txt_isBlank 2 = .ok (.invokevirtual 17, 3) := by decide +kernel
theorem d_Txt_isBlank_5 : decode b_Txt_isBlank 5 = .ok (.istore_n 2, 1) := by decide +kernel
theorem d_Txt_isBlank_6 : decode b_Txt_isBlank 6 = .ok (.iload_n 2, 1) := by decide +kernel
theorem d_Txt_isBlank_7 : decode b_Txt_isBlank 7 = .ok (.bipush 9, 2) := by decide +kernel
theorem d_Txt_isBlank_9 : decode b_Txt_isBlank 9 = .ok (.if_icmp .eq 15, 3) := by decide +kernel
theorem d_Txt_isBlank_12 : decode b_Txt_isBlank 12 = .ok (.iload_n 2, 1) := by decide +kernel
theorem d_Txt_isBlank_13 : decode b_Txt_isBlank 13 = .ok (.bipush 13, 2) := by decide +kernel
theorem d_Txt_isBlank_15 : decode b_Txt_isBlank 15 = .ok (.if_icmp .eq 9, 3) := by decide +kernel
theorem d_Txt_isBlank_18 : decode b_Txt_isBlank 18 = .ok (.iload_n 2, 1) := by decide +kernel
theorem d_Txt_isBlank_19 : decode b_Txt_isBlank 19 = .ok (.bipush 32, 2) := by decide +kernel
theorem d_Txt_isBlank_21 : decode b_Txt_isBlank 21 = .ok (.if_icmp .ne 7, 3) := by decide +kernel
theorem d_Txt_isBlank_24 : decode b_Txt_isBlank 24 = .ok (.iconst 1, 1) := by decide +kernel
theorem d_Txt_isBlank_25 : decode b_Txt_isBlank 25 = .ok (.goto 4, 3) := by decide +kernel
theorem d_Txt_isBlank_28 : decode b_Txt_isBlank 28 = .ok (.iconst 0, 1) := by decide +kernel
theorem d_Txt_isBlank_29 : decode b_Txt_isBlank 29 = .ok (.ireturn, 1) := by decide +kernel
theorem d_Txt_byteAt_0 : decode b_Txt_byteAt 0 = .ok (.iload_n 1, 1) := by decide +kernel
theorem d_Txt_byteAt_1 : decode b_Txt_byteAt 1 = .ok (.ifCond .lt 24, 3) := by decide +kernel
theorem d_Txt_byteAt_4 : decode b_Txt_byteAt 4 = .ok (.iload_n 1, 1) := by decide +kernel
theorem d_Txt_byteAt_5 : decode b_Txt_byteAt 5 = .ok (.aload_n 0, 1) := by decide +kernel
theorem d_Txt_byteAt_6 : decode b_Txt_byteAt 6 = .ok (.getfield 13, 3) := by decide +kernel
theorem d_Txt_byteAt_9 : decode b_Txt_byteAt 9 = .ok (.if_icmp .ge 16, 3) := by decide +kernel
theorem d_Txt_byteAt_12 : decode b_Txt_byteAt 12 = .ok (.aload_n 0, 1) := by decide +kernel
theorem d_Txt_byteAt_13 : decode b_Txt_byteAt 13 = .ok (.getfield 9, 3) := by decide +kernel
theorem d_Txt_byteAt_16 : decode b_Txt_byteAt 16 = .ok (.iload_n 1, 1) := by decide +kernel
theorem d_Txt_byteAt_17 : decode b_Txt_byteAt 17 = .ok (.baload, 1) := by decide +kernel
theorem d_Txt_byteAt_18 : decode b_Txt_byteAt 18 = .ok (.sipush 255, 3) := by decide +kernel
theorem d_Txt_byteAt_21 : decode b_Txt_byteAt 21 = .ok (.iand, 1) := by decide +kernel
theorem d_Txt_byteAt_22 : decode b_Txt_byteAt 22 = .ok (.goto 5, 3) := by decide +kernel
theorem d_Txt_byteAt_25 : decode b_Txt_byteAt 25 = .ok (.bipush 10, 2) := by decide +kernel
theorem d_Txt_byteAt_27 : decode b_Txt_byteAt 27 = .ok (.ireturn, 1) := by decide +kernel
theorem d_Txt_isLineEnd_0 : decode b_Txt_isLineEnd 0 = .ok (.aload_n 0, 1) := by decide +kernel
theorem d_Txt_isLineEnd_1 : decode b_Txt_isLineEnd 1 = .ok (.iload_n 1, 1) := by decide +kernel
theorem d_Txt_isLineEnd_2 : decode b_Txt_isLineEnd 2 = .ok (.invokevirtual 17, 3) := by decide +kernel
theorem d_Txt_isLineEnd_5 : decode b_Txt_isLineEnd 5 = .ok (.bipush 10, 2) := by decide +kernel
theorem d_Txt_isLineEnd_7 : decode b_Txt_isLineEnd 7 = .ok (.if_icmp .ne 7, 3) := by decide +kernel
theorem d_Txt_isLineEnd_10 : decode b_Txt_isLineEnd 10 = .ok (.iconst 1, 1) := by decide +kernel
theorem d_Txt_isLineEnd_11 : decode b_Txt_isLineEnd 11 = .ok (.goto 4, 3) := by decide +kernel
theorem d_Txt_isLineEnd_14 : decode b_Txt_isLineEnd 14 = .ok (.iconst 0, 1) := by decide +kernel
theorem d_Txt_isLineEnd_15 : decode b_Txt_isLineEnd 15 = .ok (.ireturn, 1) := by decide +kernel
theorem d_Txt_isComment_0 : decode b_Txt_isComment 0 = .ok (.aload_n 0, 1) := by decide +kernel
theorem d_Txt_isComment_1 : decode b_Txt_isComment 1 = .ok (.iload_n 1, 1) := by decide +kernel
theorem d_Txt_isComment_2 : decode b_Txt_isComment 2 = .ok (.invokevirtual 17, 3) := by decide +kernel
theorem d_Txt_isComment_5 : decode b_Txt_isComment 5 = .ok (.bipush 47, 2) := by decide +kernel
theorem d_Txt_isComment_7 : decode b_Txt_isComment 7 = .ok (.if_icmp .ne 19, 3) := by decide +kernel
theorem d_Txt_isComment_10 : decode b_Txt_isComment 10 = .ok (.aload_n 0, 1) := by decide +kernel
theorem d_Txt_isComment_11 : decode b_Txt_isComment 11 = .ok (.iload_n 1, 1) := by decide +kernel
theorem d_Txt_isComment_12 : decode b_Txt_isComment 12 = .ok (.iconst 1, 1) := by decide +kernel
theorem d_Txt_isComment_13 : decode b_Txt_isComment 13 = .ok (.iadd, 1) := by decide +kernel
theorem d_Txt_isComment_14 : decode b_Txt_isComment 14 = .ok (.invokevirtual 17, 3) := by decide +kernel
theorem d_Txt_isComment_17 : decode b_Txt_isComment 17 = .ok (.bipush 47, 2) := by decide +kernel
theorem d_Txt_isComment_19 : decode b_Txt_isComment 19 = .ok (.if_icmp .ne 7, 3) := by decide +kernel
theorem d_Txt_isComment_22 : decode b_Txt_isComment 22 = .ok (.iconst 1, 1) := by decide +kernel
theorem d_Txt_isComment_23 : decode b_Txt_isComment 23 = .ok (.goto 4, 3) := by decide +kernel
theorem d_Txt_isComment_26 : decode b_Txt_isComment 26 = .ok (.iconst 0, 1) := by decide +kernel
theorem d_Txt_isComment_27 : decode b_Txt_isComment 27 = .ok (.ireturn, 1) := by decide +kernel
theorem d_Txt_endOfLine_0 : decode b_Txt_endOfLine 0 = .ok (.iload_n 1, 1) := by decide +kernel
theorem d_Txt_endOfLine_1 : decode b_Txt_endOfLine 1 = .ok (.istore_n 2, 1) := by decide +kernel
theorem d_Txt_endOfLine_2 : decode b_Txt_endOfLine 2 = .ok (.iload_n 2, 1) := by decide +kernel
theorem d_Txt_endOfLine_3 : decode b_Txt_endOfLine 3 = .ok (.aload_n 0, 1) := by decide +kernel
theorem d_Txt_endOfLine_4 : decode b_Txt_endOfLine 4 = .ok (.getfield 13, 3) := by decide +kernel
theorem d_Txt_endOfLine_7 : decode b_Txt_endOfLine 7 = .ok (.if_icmp .ge 19, 3) := by decide +kernel
theorem d_Txt_endOfLine_10 : decode b_Txt_endOfLine 10 = .ok (.aload_n 0, 1) := by decide +kernel
theorem d_Txt_endOfLine_11 : decode b_Txt_endOfLine 11 = .ok (.iload_n 2, 1) := by decide +kernel
theorem d_Txt_endOfLine_12 : decode b_Txt_endOfLine 12 = .ok (.invokevirtual 21, 3) := by decide +kernel
theorem d_Txt_endOfLine_15 : decode b_Txt_endOfLine 15 = .ok (.ifCond .eq 5, 3) := by decide +kernel
theorem d_Txt_endOfLine_18 : decode b_Txt_endOfLine 18 = .ok (.iload_n 2, 1) := by decide +kernel
theorem d_Txt_endOfLine_19 : decode b_Txt_endOfLine 19 = .ok (.ireturn, 1) := by decide +kernel
theorem d_Txt_endOfLine_20 : decode b_Txt_endOfLine 20 = .ok (.iinc 2 1, 3) := by decide +kernel
theorem d_Txt_endOfLine_23 : decode b_Txt_endOfLine 23 = .ok (.goto (-21), 3) := by decide +kernel
theorem d_Txt_endOfLine_26 : decode b_Txt_endOfLine 26 = .ok (.aload_n 0, 1) := by decide +kernel
theorem d_Txt_endOfLine_27 : decode b_Txt_endOfLine 27 = .ok (.getfield 13, 3) := by decide +kernel
theorem d_Txt_endOfLine_30 : decode b_Txt_endOfLine 30 = .ok (.ireturn, 1) := by decide +kernel
theorem d_Txt_endOfInstruction_0 : decode b_Txt_endOfInstruction 0 = .ok (.iload_n 1, 1) := by decide +kernel
theorem d_Txt_endOfInstruction_1 : decode b_Txt_endOfInstruction 1 = .ok (.istore_n 2, 1) := by decide +kernel
theorem d_Txt_endOfInstruction_2 : decode b_Txt_endOfInstruction 2 = .ok (.iload_n 2, 1) := by decide +kernel
theorem d_Txt_endOfInstruction_3 : decode b_Txt_endOfInstruction 3 = .ok (.aload_n 0, 1) := by decide +kernel
theorem d_Txt_endOfInstruction_4 : decode b_Txt_endOfInstruction 4 = .ok (.getfield 13, 3) := by decide +kernel
theorem d_Txt_endOfInstruction_7 : decode b_Txt_endOfInstruction 7 = .ok (.if_icmp .ge 35, 3) := by decide +kernel
theorem d_Txt_endOfInstruction_10 : decode b_Txt_endOfInstruction 10 = .ok (.aload_n 0, 1) := by decide +kernel
theorem d_Txt_endOfInstruction_11 : decode b_Txt_endOfInstruction 11 = .ok (.iload_n 2, 1) := by decide +kernel
theorem d_Txt_endOfInstruction_12 : decode b_Txt_endOfInstruction 12 = .ok (.invokevirtual 21, 3) := by decide +kernel
theorem d_Txt_endOfInstruction_15 : decode b_Txt_endOfInstruction 15 = .ok (.ifCond .ne 19, 3) := by decide +kernel
theorem d_Txt_endOfInstruction_18 : decode b_Txt_endOfInstruction 18 = .ok (.aload_n 0, 1) := by decide +kernel
theorem d_Txt_endOfInstruction_19 : decode b_Txt_endOfInstruction 19 = .ok (.iload_n 2, 1) := by decide +kernel
theorem d_Txt_endOfInstruction_20 : decode b_Txt_endOfInstruction 20 = .ok (.invokevirtual 25, 3) := by decide +kernel
theorem d_Txt_endOfInstruction_23 : decode b_Txt_endOfInstruction 23 = .ok (.ifCond .ne 11, 3) := by decide +kernel
theorem d_Txt_endOfInstruction_26 : decode b_Txt_endOfInstruction 26 = .ok (.aload_n 0, 1) := by decide +kernel
theorem d_Txt_endOfInstruction_27 : decode b_Txt_endOfInstruction 27 = .ok (.iload_n 2, 1) := by decide +kernel
theorem d_Txt_endOfInstruction_28 : decode b_Txt_endOfInstruction 28 = .ok (.invokevirtual 28, 3) := by decide +kernel
theorem d_Txt_endOfInstruction_31 : decode b_Txt_endOfInstruction 31 = .ok (.ifCond .eq 5, 3) := by decide +kernel
theorem d_Txt_endOfInstruction_34 : decode b_Txt_endOfInstruction 34 = .ok (.iload_n 2, 1) := by decide +kernel
theorem d_Txt_endOfInstruction_35 : decode b_Txt_endOfInstruction 35 = .ok (.ireturn, 1) := by decide +kernel
theorem d_Txt_endOfInstruction_36 : decode b_Txt_endOfInstruction 36 = .ok (.iinc 2 1, 3) := by decide +kernel
theorem d_Txt_endOfInstruction_39 : decode b_Txt_endOfInstruction 39 = .ok (.goto (-37), 3) := by decide +kernel
theorem d_Txt_endOfInstruction_42 : decode b_Txt_endOfInstruction 42 = .ok (.aload_n 0, 1) := by decide +kernel
theorem d_Txt_endOfInstruction_43 : decode b_Txt_endOfInstruction 43 = .ok (.getfield 13, 3) := by decide +kernel
theorem d_Txt_endOfInstruction_46 : decode b_Txt_endOfInstruction 46 = .ok (.ireturn, 1) := by decide +kernel
theorem d_Rdr_take_0 : decode b_Rdr_take 0 = .ok (.aload_n 0, 1) := by decide +kernel
theorem d_Rdr_take_1 : decode b_Rdr_take 1 = .ok (.getfield 15, 3) := by decide +kernel
theorem d_Rdr_take_4 : decode b_Rdr_take 4 = .ok (.iload_n 1, 1) := by decide +kernel
theorem d_Rdr_take_5 : decode b_Rdr_take 5 = .ok (.invokevirtual 74, 3) := by decide +kernel
theorem d_Rdr_take_8 : decode b_Rdr_take 8 = .ok (.istore_n 3, 1) := by decide +kernel
theorem d_Rdr_take_9 : decode b_Rdr_take 9 = .ok (.iload_n 3, 1) := by decide +kernel
theorem d_Rdr_take_10 : decode b_Rdr_take 10 = .ok (.bipush 64, 2) := by decide +kernel
theorem d_Rdr_take_12 : decode b_Rdr_take 12 = .ok (.if_icmp .ne 12, 3) := by decide +kernel
theorem d_Rdr_take_15 : decode b_Rdr_take 15 = .ok (.aload_n 0, 1) := by decide +kernel
theorem d_Rdr_take_16 : decode b_Rdr_take 16 = .ok (.iload_n 1, 1) := by decide +kernel
theorem d_Rdr_take_17 : decode b_Rdr_take 17 = .ok (.iconst 1, 1) := by decide +kernel
theorem d_Rdr_take_18 : decode b_Rdr_take 18 = .ok (.iadd, 1) := by decide +kernel
theorem d_Rdr_take_19 : decode b_Rdr_take 19 = .ok (.iload_n 2, 1) := by decide +kernel
theorem d_Rdr_take_20 : decode b_Rdr_take 20 = .ok (.invokevirtual 77, 3) := by decide +kernel
theorem d_Rdr_take_23 : decode b_Rdr_take 23 = .ok (.ireturn, 1) := by decide +kernel
theorem d_Rdr_take_24 : decode b_Rdr_take 24 = .ok (.iload_n 3, 1) := by decide +kernel
theorem d_Rdr_take_25 : decode b_Rdr_take 25 = .ok (.bipush 40, 2) := by decide +kernel
theorem d_Rdr_take_27 : decode b_Rdr_take 27 = .ok (.if_icmp .ne 14, 3) := by decide +kernel
theorem d_Rdr_take_30 : decode b_Rdr_take 30 = .ok (.aload_n 0, 1) := by decide +kernel
theorem d_Rdr_take_31 : decode b_Rdr_take 31 = .ok (.iload_n 1, 1) := by decide +kernel
theorem d_Rdr_take_32 : decode b_Rdr_take 32 = .ok (.iconst 1, 1) := by decide +kernel
theorem d_Rdr_take_33 : decode b_Rdr_take 33 = .ok (.iadd, 1) := by decide +kernel
theorem d_Rdr_take_34 : decode b_Rdr_take 34 = .ok (.iload_n 2, 1) := by decide +kernel
theorem d_Rdr_take_35 : decode b_Rdr_take 35 = .ok (.iconst 1, 1) := by decide +kernel
theorem d_Rdr_take_36 : decode b_Rdr_take 36 = .ok (.isub, 1) := by decide +kernel
theorem d_Rdr_take_37 : decode b_Rdr_take 37 = .ok (.invokevirtual 80, 3) := by decide +kernel
theorem d_Rdr_take_40 : decode b_Rdr_take 40 = .ok (.ireturn, 1) := by decide +kernel
theorem d_Rdr_take_41 : decode b_Rdr_take 41 = .ok (.aload_n 0, 1) := by decide +kernel
theorem d_Rdr_take_42 : decode b_Rdr_take 42 = .ok (.iload_n 1, 1) := by decide +kernel
theorem d_Rdr_take_43 : decode b_Rdr_take 43 = .ok (.iload_n 2, 1) := by decide +kernel
theorem d_Rdr_take_44 : decode b_Rdr_take 44 = .ok (.invokevirtual 83, 3) := by decide +kernel
theorem d_Rdr_take_47 : decode b_Rdr_take 47 = .ok (.ireturn, 1) := by decide +kernel
theorem d_Rdr_takeAddress_0 : decode b_Rdr_takeAddress 0 = .ok (.aload_n 0, 1) := by decide +kernel
theorem d_Rdr_takeAddress_1 : decode b_Rdr_takeAddress 1 = .ok (.getfield 15, 3) := by decide +kernel
theorem d_Rdr_takeAddress_4 : decode b_Rdr_takeAddress 4 = .ok (.iload_n 1, 1) := by decide +kernel
theorem d_Rdr_takeAddress_5 : decode b_Rdr_takeAddress 5 = .ok (.iload_n 2, 1) := by decide +kernel
theorem d_Rdr_takeAddress_6 : decode b_Rdr_takeAddress 6 = .ok (.invokevirtual 86, 3) := by decide +kernel
theorem d_Rdr_takeAddress_9 : decode b_Rdr_takeAddress 9 = .ok (.istore_n 3, 1) := by decide +kernel
theorem d_Rdr_takeAddress_10 : decode b_Rdr_takeAddress 10 = .ok (.iload_n 3, 1) := by decide +kernel
theorem d_Rdr_takeAddress_11 : decode b_Rdr_takeAddress 11 = .ok (.ifCond .eq 12, 3) := by decide +kernel
theorem d_Rdr_takeAddress_14 : decode b_Rdr_takeAddress 14 = .ok (.aload_n 0, 1) := by decide +kernel
theorem d_Rdr_takeAddress_15 : decode b_Rdr_takeAddress 15 = .ok (.iload_n 1, 1) := by decide +kernel
theorem d_Rdr_takeAddress_16 : decode b_Rdr_takeAddress 16 = .ok (.iload_n 2, 1) := by decide +kernel
theorem d_Rdr_takeAddress_17 : decode b_Rdr_takeAddress 17 = .ok (.invokevirtual 90, 3) := by decide +kernel
theorem d_Rdr_takeAddress_20 : decode b_Rdr_takeAddress 20 = .ok (.goto 12, 3) := by decide +kernel
theorem d_Rdr_takeAddress_23 : decode b_Rdr_takeAddress 23 = .ok (.aload_n 0, 1) := by decide +kernel
theorem d_Rdr_takeAddress_24 : decode b_Rdr_takeAddress 24 = .ok (.getfield 15, 3) := by decide +kernel
theorem d_Rdr_takeAddress_27 : decode b_Rdr_takeAddress 27 = .ok (.iload_n 1, 1) := by decide +kernel
theorem d_Rdr_takeAddress_28 : decode b_Rdr_takeAddress 28 = .ok (.iload_n 2, 1) := by decide +kernel
theorem d_Rdr_takeAddress_29 : decode b_Rdr_takeAddress 29 = .ok (.invokevirtual 93, 3) := by decide +kernel
theorem d_Rdr_takeAddress_32 : decode b_Rdr_takeAddress 32 = .ok (.istore 4, 2) := by decide +kernel
theorem d_Rdr_takeAddress_34 : decode b_Rdr_takeAddress 34 = .ok (.iload_n 3, 1) := by decide +kernel
theorem d_Rdr_takeAddress_35 : decode b_Rdr_takeAddress 35 = .ok (.ifCond .ne 10, 3) := by decide +kernel
theorem d_Rdr_takeAddress_38 : decode b_Rdr_takeAddress 38 = .ok (.iload 4, 2) := by decide +kernel
theorem d_Rdr_takeAddress_40 : decode b_Rdr_takeAddress 40 = .ok (.ifCond .ge 5, 3) := by decide +kernel
theorem d_Rdr_takeAddress_43 : decode b_Rdr_takeAddress 43 = .ok (.iconst 1, 1) := by decide +kernel
theorem d_Rdr_takeAddress_44 : decode b_Rdr_takeAddress 44 = .ok (.ireturn, 1) := by decide +kernel
theorem d_Rdr_takeAddress_45 : decode b_Rdr_takeAddress 45 = .ok (.aload_n 0, 1) := by decide +kernel
theorem d_Rdr_takeAddress_46 : decode b_Rdr_takeAddress 46 = .ok (.getfield 19, 3) := by decide +kernel
theorem d_Rdr_takeAddress_49 : decode b_Rdr_takeAddress 49 = .ok (.invokevirtual 96, 3) := by decide +kernel
theorem d_Rdr_takeAddress_52 : decode b_Rdr_takeAddress 52 = .ok (.ifCond .eq 5, 3) := by decide +kernel
theorem d_Rdr_takeAddress_55 : decode b_Rdr_takeAddress 55 = .ok (.iconst 2, 1) := by decide +kernel
theorem d_Rdr_takeAddress_56 : decode b_Rdr_takeAddress 56 = .ok (.ireturn, 1) := by decide +kernel
theorem d_Rdr_takeAddress_57 : decode b_Rdr_takeAddress 57 = .ok (.iload 4, 2) := by decide +kernel
theorem d_Rdr_takeAddress_59 : decode b_Rdr_takeAddress 59 = .ok (.ifCond .ge 28, 3) := by decide +kernel
theorem d_Rdr_takeAddress_62 : decode b_Rdr_takeAddress 62 = .ok (.aload_n 0, 1) := by decide +kernel
theorem d_Rdr_takeAddress_63 : decode b_Rdr_takeAddress 63 = .ok (.getfield 28, 3) := by decide +kernel
theorem d_Rdr_takeAddress_66 : decode b_Rdr_takeAddress 66 = .ok (.iload_n 1, 1) := by decide +kernel
theorem d_Rdr_takeAddress_67 : decode b_Rdr_takeAddress 67 = .ok (.iload_n 2, 1) := by decide +kernel
theorem d_Rdr_takeAddress_68 : decode b_Rdr_takeAddress 68 = .ok (.invokevirtual 100, 3) := by decide +kernel
theorem d_Rdr_takeAddress_71 : decode b_Rdr_takeAddress 71 = .ok (.istore 5, 2) := by decide +kernel
theorem d_Rdr_takeAddress_73 : decode b_Rdr_takeAddress 73 = .ok (.iload 5, 2) := by decide +kernel
theorem d_Rdr_takeAddress_75 : decode b_Rdr_takeAddress 75 = .ok (.ifCond .ge 5, 3) := by decide +kernel
theorem d_Rdr_takeAddress_78 : decode b_Rdr_takeAddress 78 = .ok (.iconst 2, 1) := by decide +kernel
theorem d_Rdr_takeAddress_79 : decode b_Rdr_takeAddress 79 = .ok (.ireturn, 1) := by decide +kernel
theorem d_Rdr_takeAddress_80 : decode b_Rdr_takeAddress 80 = .ok (.ldc 103, 2) := by decide +kernel
theorem d_Rdr_takeAddress_82 : decode b_Rdr_takeAddress 82 = .ok (.iload 5, 2) := by decide +kernel
theorem d_Rdr_takeAddress_84 : decode b_Rdr_takeAddress 84 = .ok (.iadd, 1) := by decide +kernel
theorem d_Rdr_takeAddress_85 : decode b_Rdr_takeAddress 85 = .ok (.istore 4, 2) := by decide +kernel
theorem d_Rdr_takeAddress_87 : decode b_Rdr_takeAddress 87 = .ok (.aload_n 0, 1) := by decide +kernel
theorem d_Rdr_takeAddress_88 : decode b_Rdr_takeAddress 88 = .ok (.getfield 19, 3) := by decide +kernel
theorem d_Rdr_takeAddress_91 : decode b_Rdr_takeAddress 91 = .ok (.iload 4, 2) := by decide +kernel
theorem d_Rdr_takeAddress_93 : decode b_Rdr_takeAddress 93 = .ok (.invokevirtual 104, 3) := by decide +kernel
theorem d_Rdr_takeAddress_96 : decode b_Rdr_takeAddress 96 = .ok (.iconst 0, 1) := by decide +kernel
theorem d_Rdr_takeAddress_97 : decode b_Rdr_takeAddress 97 = .ok (.ireturn, 1) := by decide +kernel
theorem d_Txt_isSymbol_0 : decode b_Txt_isSymbol 0 = .ok (.iload_n 2, 1) := by decide +kernel
theorem d_Txt_isSymbol_1 : decode b_Txt_isSymbol 1 = .ok (.iload_n 1, 1) := by decide +kernel
theorem d_Txt_isSymbol_2 : decode b_Txt_isSymbol 2 = .ok (.isub, 1) := by decide +kernel
theorem d_Txt_isSymbol_3 : decode b_Txt_isSymbol 3 = .ok (.iconst 1, 1) := by decide +kernel
