theorem dX5_init_0 : decode cX5_init 0 = .ok (.aload_n 0, 1) := by decide +kernel
theorem dX5_init_1 : decode cX5_init 1 = .ok (.invokespecial 1, 3) := by decide +kernel
theorem dX5_init_4 : decode cX5_init 4 = .ok (.aload_n 0, 1) := by decide +kernel
theorem dX5_init_5 : decode cX5_init 5 = .ok (.iconst 4, 1) := by decide +kernel
theorem dX5_init_6 : decode cX5_init 6 = .ok (.newarray .int, 2) := by decide +kernel
theorem dX5_init_8 : decode cX5_init 8 = .ok (.putfield 7, 3) := by decide +kernel
theorem dX5_init_11 : decode cX5_init 11 = .ok (.aload_n 0, 1) := by decide +kernel
theorem dX5_init_12 : decode cX5_init 12 = .ok (.bipush 6, 2) := by decide +kernel
theorem dX5_init_14 : decode cX5_init 14 = .ok (.newarray .int, 2) := by decide +kernel
theorem dX5_init_16 : decode cX5_init 16 = .ok (.putfield 13, 3) := by decide +kernel
theorem dX5_init_19 : decode cX5_init 19 = .ok (.aload_n 0, 1) := by decide +kernel
theorem dX5_init_20 : decode cX5_init 20 = .ok (.bipush 6, 2) := by decide +kernel
theorem dX5_init_22 : decode cX5_init 22 = .ok (.newarray .int, 2) := by decide +kernel
theorem dX5_init_24 : decode cX5_init 24 = .ok (.putfield 16, 3) := by decide +kernel
theorem dX5_init_27 : decode cX5_init 27 = .ok (.aload_n 0, 1) := by decide +kernel
theorem dX5_init_28 : decode cX5_init 28 = .ok (.bipush 6, 2) := by decide +kernel
theorem dX5_init_30 : decode cX5_init 30 = .ok (.newarray .int, 2) := by decide +kernel
theorem dX5_init_32 : decode cX5_init 32 = .ok (.putfield 19, 3) := by decide +kernel
theorem dX5_init_35 : decode cX5_init 35 = .ok (.aload_n 0, 1) := by decide +kernel
theorem dX5_init_36 : decode cX5_init 36 = .ok (.iconst 5, 1) := by decide +kernel
theorem dX5_init_37 : decode cX5_init 37 = .ok (.newarray .int, 2) := by decide +kernel
theorem dX5_init_39 : decode cX5_init 39 = .ok (.putfield 22, 3) := by decide +kernel
theorem dX5_init_42 : decode cX5_init 42 = .ok (.aload_n 0, 1) := by decide +kernel
theorem dX5_init_43 : decode cX5_init 43 = .ok (.bipush 64, 2) := by decide +kernel
theorem dX5_init_45 : decode cX5_init 45 = .ok (.newarray .int, 2) := by decide +kernel
theorem dX5_init_47 : decode cX5_init 47 = .ok (.putfield 25, 3) := by decide +kernel
theorem dX5_init_50 : decode cX5_init 50 = .ok (.aload_n 0, 1) := by decide +kernel
theorem dX5_init_51 : decode cX5_init 51 = .ok (.iconst 4, 1) := by decide +kernel
theorem dX5_init_52 : decode cX5_init 52 = .ok (.newarray .int, 2) := by decide +kernel
theorem dX5_init_54 : decode cX5_init 54 = .ok (.putfield 28, 3) := by decide +kernel
theorem dX5_init_57 : decode cX5_init 57 = .ok (.aload_n 0, 1) := by decide +kernel
theorem dX5_init_58 : decode cX5_init 58 = .ok (.bipush 18, 2) := by decide +kernel
theorem dX5_init_60 : decode cX5_init 60 = .ok (.newarray .int, 2) := by decide +kernel
theorem dX5_init_62 : decode cX5_init 62 = .ok (.putfield 31, 3) := by decide +kernel
theorem dX5_init_65 : decode cX5_init 65 = .ok (.aload_n 0, 1) := by decide +kernel
theorem dX5_init_66 : decode cX5_init 66 = .ok (.bipush 10, 2) := by decide +kernel
theorem dX5_init_68 : decode cX5_init 68 = .ok (.newarray .int, 2) := by decide +kernel
theorem dX5_init_70 : decode cX5_init 70 = .ok (.putfield 34, 3) := by decide +kernel
theorem dX5_init_73 : decode cX5_init 73 = .ok (.aload_n 0, 1) := by decide +kernel
theorem dX5_init_74 : decode cX5_init 74 = .ok (.bipush 48, 2) := by decide +kernel
theorem dX5_init_76 : decode cX5_init 76 = .ok (.newarray .int, 2) := by decide +kernel
theorem dX5_init_78 : decode cX5_init 78 = .ok (.putfield 37, 3) := by decide +kernel
theorem dX5_init_81 : decode cX5_init 81 = .ok (.aload_n 0, 1) := by decide +kernel
theorem dX5_init_82 : decode cX5_init 82 = .ok (.bipush 63, 2) := by decide +kernel
theorem dX5_init_84 : decode cX5_init 84 = .ok (.putfield 40, 3) := by decide +kernel
theorem dX5_init_87 : decode cX5_init 87 = .ok (.aload_n 0, 1) := by decide +kernel
theorem dX5_init_88 : decode cX5_init 88 = .ok (.sipush 448, 3) := by decide +kernel
theorem dX5_init_91 : decode cX5_init 91 = .ok (.newarray .int, 2) := by decide +kernel
theorem dX5_init_93 : decode cX5_init 93 = .ok (.putfield 44, 3) := by decide +kernel
theorem dX5_init_96 : decode cX5_init 96 = .ok (.aload_n 0, 1) := by decide +kernel
theorem dX5_init_97 : decode cX5_init 97 = .ok (.bipush 6, 2) := by decide +kernel
theorem dX5_init_99 : decode cX5_init 99 = .ok (.newarray .int, 2) := by decide +kernel
theorem dX5_init_101 : decode cX5_init 101 = .ok (.putfield 47, 3) := by decide +kernel
theorem dX5_init_104 : decode cX5_init 104 = .ok (.aload_n 0, 1) := by decide +kernel
theorem dX5_init_105 : decode cX5_init 105 = .ok (.bipush 6, 2) := by decide +kernel
theorem dX5_init_107 : decode cX5_init 107 = .ok (.newarray .int, 2) := by decide +kernel
theorem dX5_init_109 : decode cX5_init 109 = .ok (.putfield 50, 3) := by decide +kernel
theorem dX5_init_112 : decode cX5_init 112 = .ok (.aload_n 0, 1) := by decide +kernel
theorem dX5_init_113 : decode cX5_init 113 = .ok (.bipush 6, 2) := by decide +kernel
theorem dX5_init_115 : decode cX5_init 115 = .ok (.newarray .int, 2) := by decide +kernel
theorem dX5_init_117 : decode cX5_init 117 = .ok (.putfield 53, 3) := by decide +kernel
theorem dX5_init_120 : decode cX5_init 120 = .ok (.aload_n 0, 1) := by decide +kernel
theorem dX5_init_121 : decode cX5_init 121 = .ok (.iconst 2, 1) := by decide +kernel
theorem dX5_init_122 : decode cX5_init 122 = .ok (.newarray .boolean, 2) := by decide +kernel
theorem dX5_init_124 : decode cX5_init 124 = .ok (.putfield 56, 3) := by decide +kernel
theorem dX5_init_127 : decode cX5_init 127 = .ok (.aload_n 0, 1) := by decide +kernel
theorem dX5_init_128 : decode cX5_init 128 = .ok (.bipush 64, 2) := by decide +kernel
theorem dX5_init_130 : decode cX5_init 130 = .ok (.newarray .int, 2) := by decide +kernel
theorem dX5_init_132 : decode cX5_init 132 = .ok (.putfield 60, 3) := by decide +kernel
theorem dX5_init_135 : decode cX5_init 135 = .ok (.return_, 1) := by decide +kernel
theorem dX5_in_0 : decode cX5_in 0 = .ok (.lload_n 0, 1) := by decide +kernel
theorem dX5_in_1 : decode cX5_in 1 = .ok (.lload_n 2, 1) := by decide +kernel
theorem dX5_in_2 : decode cX5_in 2 = .ok (.lcmp, 1) := by decide +kernel
theorem dX5_in_3 : decode cX5_in 3 = .ok (.ifCond .lt 14, 3) := by decide +kernel
theorem dX5_in_6 : decode cX5_in 6 = .ok (.lload_n 0, 1) := by decide +kernel
theorem dX5_in_7 : decode cX5_in 7 = .ok (.lload 4, 2) := by decide +kernel
theorem dX5_in_9 : decode cX5_in 9 = .ok (.lcmp, 1) := by decide +kernel
theorem dX5_in_10 : decode cX5_in 10 = .ok (.ifCond .gt 7, 3) := by decide +kernel
theorem dX5_in_13 : decode cX5_in 13 = .ok (.iconst 1, 1) := by decide +kernel
theorem dX5_in_14 : decode cX5_in 14 = .ok (.goto 4, 3) := by decide +kernel
theorem dX5_in_17 : decode cX5_in 17 = .ok (.iconst 0, 1) := by decide +kernel
theorem dX5_in_18 : decode cX5_in 18 = .ok (.ireturn, 1) := by decide +kernel
theorem dX5_has_0 : decode cX5_has 0 = .ok (.iload_n 0, 1) := by decide +kernel
theorem dX5_has_1 : decode cX5_has 1 = .ok (.iload_n 1, 1) := by decide +kernel
theorem dX5_has_2 : decode cX5_has 2 = .ok (.ishr, 1) := by decide +kernel
theorem dX5_has_3 : decode cX5_has 3 = .ok (.iconst 1, 1) := by decide +kernel
theorem dX5_has_4 : decode cX5_has 4 = .ok (.iand, 1) := by decide +kernel
theorem dX5_has_5 : decode cX5_has 5 = .ok (.iconst 1, 1) := by decide +kernel
theorem dX5_has_6 : decode cX5_has 6 = .ok (.if_icmp .ne 7, 3) := by decide +kernel
theorem dX5_has_9 : decode cX5_has 9 = .ok (.iconst 1, 1) := by decide +kernel
theorem dX5_has_10 : decode cX5_has 10 = .ok (.goto 4, 3) := by decide +kernel
theorem dX5_has_13 : decode cX5_has 13 = .ok (.iconst 0, 1) := by decide +kernel
theorem dX5_has_14 : decode cX5_has 14 = .ok (.ireturn, 1) := by decide +kernel
theorem dX5_ones_0 : decode cX5_ones 0 = .ok (.iconst 0, 1) := by decide +kernel
theorem dX5_ones_1 : decode cX5_ones 1 = .ok (.istore_n 1, 1) := by decide +kernel
theorem dX5_ones_2 : decode cX5_ones 2 = .ok (.iconst 0, 1) := by decide +kernel
theorem dX5_ones_3 : decode cX5_ones 3 = .ok (.istore_n 2, 1) := by decide +kernel
theorem dX5_ones_4 : decode cX5_ones 4 = .ok (.iload_n 2, 1) := by decide +kernel
theorem dX5_ones_5 : decode cX5_ones 5 = .ok (.bipush 12, 2) := by decide +kernel
theorem dX5_ones_7 : decode cX5_ones 7 = .ok (.if_icmp .ge 17, 3) := by decide +kernel
theorem dX5_ones_10 : decode cX5_ones 10 = .ok (.iload_n 1, 1) := by decide +kernel
theorem dX5_ones_11 : decode cX5_ones 11 = .ok (.iload_n 0, 1) := by decide +kernel
theorem dX5_ones_12 : decode cX5_ones 12 = .ok (.iload_n 2, 1) := by decide +kernel
theorem dX5_ones_13 : decode cX5_ones 13 = .ok (.ishr, 1) := by decide +kernel
theorem dX5_ones_14 : decode cX5_ones 14 = .ok (.iconst 1, 1) := by decide +kernel
theorem dX5_ones_15 : decode cX5_ones 15 = .ok (.iand, 1) := by decide +kernel
theorem dX5_ones_16 : decode cX5_ones 16 = .ok (.iadd, 1) := by decide +kernel
theorem dX5_ones_17 : decode cX5_ones 17 = .ok (.istore_n 1, 1) := by decide +kernel
theorem dX5_ones_18 : decode cX5_ones 18 = .ok (.iinc 2 1, 3) := by decide +kernel
theorem dX5_ones_21 : decode cX5_ones 21 = .ok (.goto (-17), 3) := by decide +kernel
theorem dX5_ones_24 : decode cX5_ones 24 = .ok (.iload_n 1, 1) := by decide +kernel
theorem dX5_ones_25 : decode cX5_ones 25 = .ok (.ireturn, 1) := by decide +kernel
theorem dX5_write_0 : decode cX5_write 0 = .ok (.iload_n 1, 1) := by decide +kernel
theorem dX5_write_1 : decode cX5_write 1 = .ok (.i2l, 1) := by decide +kernel
theorem dX5_write_2 : decode cX5_write 2 = .ok (.lconst 0, 1) := by decide +kernel
theorem dX5_write_3 : decode cX5_write 3 = .ok (.ldc2_w 63, 3) := by decide +kernel
theorem dX5_write_6 : decode cX5_write 6 = .ok (.invokestatic 65, 3) := by decide +kernel
theorem dX5_write_9 : decode cX5_write 9 = .ok (.ifCond .ne 6, 3) := by decide +kernel
theorem dX5_write_12 : decode cX5_write 12 = .ok (.bipush (-2), 2) := by decide +kernel
theorem dX5_write_14 : decode cX5_write 14 = .ok (.ireturn, 1) := by decide +kernel
theorem dX5_write_15 : decode cX5_write 15 = .ok (.aload_n 0, 1) := by decide +kernel
theorem dX5_write_16 : decode cX5_write 16 = .ok (.getfield 69, 3) := by decide +kernel
theorem dX5_write_19 : decode cX5_write 19 = .ok (.bipush 48, 2) := by decide +kernel
theorem dX5_write_21 : decode cX5_write 21 = .ok (.if_icmp .ne 6, 3) := by decide +kernel
theorem dX5_write_24 : decode cX5_write 24 = .ok (.bipush (-4), 2) := by decide +kernel
theorem dX5_write_26 : decode cX5_write 26 = .ok (.ireturn, 1) := by decide +kernel
theorem dX5_write_27 : decode cX5_write 27 = .ok (.aload_n 0, 1) := by decide +kernel
theorem dX5_write_28 : decode cX5_write 28 = .ok (.getfield 37, 3) := by decide +kernel
theorem dX5_write_31 : decode cX5_write 31 = .ok (.aload_n 0, 1) := by decide +kernel
theorem dX5_write_32 : decode cX5_write 32 = .ok (.getfield 69, 3) := by decide +kernel
theorem dX5_write_35 : decode cX5_write 35 = .ok (.iload_n 1, 1) := by decide +kernel
theorem dX5_write_36 : decode cX5_write 36 = .ok (.iastore, 1) := by decide +kernel
theorem dX5_write_37 : decode cX5_write 37 = .ok (.aload_n 0, 1) := by decide +kernel
theorem dX5_write_38 : decode cX5_write 38 = .ok (.dup, 1) := by decide +kernel
theorem dX5_write_39 : decode cX5_write 39 = .ok (.getfield 69, 3) := by decide +kernel
theorem dX5_write_42 : decode cX5_write 42 = .ok (.iconst 1, 1) := by decide +kernel
theorem dX5_write_43 : decode cX5_write 43 = .ok (.iadd, 1) := by decide +kernel
theorem dX5_write_44 : decode cX5_write 44 = .ok (.putfield 69, 3) := by decide +kernel
theorem dX5_write_47 : decode cX5_write 47 = .ok (.aload_n 0, 1) := by decide +kernel
theorem dX5_write_48 : decode cX5_write 48 = .ok (.getfield 69, 3) := by decide +kernel
theorem dX5_write_51 : decode cX5_write 51 = .ok (.ireturn, 1) := by decide +kernel
theorem dX5_wipe_0 : decode cX5_wipe 0 = .ok (.aload_n 0, 1) := by decide +kernel
theorem dX5_wipe_1 : decode cX5_wipe 1 = .ok (.getfield 69, 3) := by decide +kernel
theorem dX5_wipe_4 : decode cX5_wipe 4 = .ok (.istore_n 1, 1) := by decide +kernel
theorem dX5_wipe_5 : decode cX5_wipe 5 = .ok (.aload_n 0, 1) := by decide +kernel
theorem dX5_wipe_6 : decode cX5_wipe 6 = .ok (.iconst 0, 1) := by decide +kernel
theorem dX5_wipe_7 : decode cX5_wipe 7 = .ok (.putfield 69, 3) := by decide +kernel
theorem dX5_wipe_10 : decode cX5_wipe 10 = .ok (.iload_n 1, 1) := by decide +kernel
theorem dX5_wipe_11 : decode cX5_wipe 11 = .ok (.ireturn, 1) := by decide +kernel
theorem dX5_toldBy_0 : decode cX5_toldBy 0 = .ok (.aload_n 0, 1) := by decide +kernel
theorem dX5_toldBy_1 : decode cX5_toldBy 1 = .ok (.getfield 72, 3) := by decide +kernel
theorem dX5_toldBy_4 : decode cX5_toldBy 4 = .ok (.bipush (-9), 2) := by decide +kernel
theorem dX5_toldBy_6 : decode cX5_toldBy 6 = .ok (.if_icmp .ne 18, 3) := by decide +kernel
theorem dX5_toldBy_9 : decode cX5_toldBy 9 = .ok (.aload_n 0, 1) := by decide +kernel
theorem dX5_toldBy_10 : decode cX5_toldBy 10 = .ok (.getfield 75, 3) := by decide +kernel
theorem dX5_toldBy_13 : decode cX5_toldBy 13 = .ok (.aload_n 0, 1) := by decide +kernel
theorem dX5_toldBy_14 : decode cX5_toldBy 14 = .ok (.getfield 69, 3) := by decide +kernel
theorem dX5_toldBy_17 : decode cX5_toldBy 17 = .ok (.if_icmp .ge 7, 3) := by decide +kernel
theorem dX5_toldBy_20 : decode cX5_toldBy 20 = .ok (.iconst 1, 1) := by decide +kernel
theorem dX5_toldBy_21 : decode cX5_toldBy 21 = .ok (.goto 4, 3) := by decide +kernel
theorem dX5_toldBy_24 : decode cX5_toldBy 24 = .ok (.iconst 0, 1) := by decide +kernel
theorem dX5_toldBy_25 : decode cX5_toldBy 25 = .ok (.istore_n 3, 1) := by decide +kernel
theorem dX5_toldBy_26 : decode cX5_toldBy 26 = .ok (.iload_n 3, 1) := by decide +kernel
theorem dX5_toldBy_27 : decode cX5_toldBy 27 = .ok (.ifCond .eq 17, 3) := by decide +kernel
theorem dX5_toldBy_30 : decode cX5_toldBy 30 = .ok (.aload_n 0, 1) := by decide +kernel
theorem dX5_toldBy_31 : decode cX5_toldBy 31 = .ok (.getfield 37, 3) := by decide +kernel
theorem dX5_toldBy_34 : decode cX5_toldBy 34 = .ok (.aload_n 0, 1) := by decide +kernel
theorem dX5_toldBy_35 : decode cX5_toldBy 35 = .ok (.getfield 75, 3) := by decide +kernel
theorem dX5_toldBy_38 : decode cX5_toldBy 38 = .ok (.iaload, 1) := by decide +kernel
theorem dX5_toldBy_39 : decode cX5_toldBy 39 = .ok (.iload_n 1, 1) := by decide +kernel
theorem dX5_toldBy_40 : decode cX5_toldBy 40 = .ok (.isub, 1) := by decide +kernel
theorem dX5_toldBy_41 : decode cX5_toldBy 41 = .ok (.goto 4, 3) := by decide +kernel
theorem dX5_toldBy_44 : decode cX5_toldBy 44 = .ok (.iconst 0, 1) := by decide +kernel
theorem dX5_toldBy_45 : decode cX5_toldBy 45 = .ok (.istore 4, 2) := by decide +kernel
theorem dX5_toldBy_47 : decode cX5_toldBy 47 = .ok (.iload_n 3, 1) := by decide +kernel
theorem dX5_toldBy_48 : decode cX5_toldBy 48 = .ok (.ifCond .eq 25, 3) := by decide +kernel
theorem dX5_toldBy_51 : decode cX5_toldBy 51 = .ok (.iload 4, 2) := by decide +kernel
theorem dX5_toldBy_53 : decode cX5_toldBy 53 = .ok (.i2l, 1) := by decide +kernel
theorem dX5_toldBy_54 : decode cX5_toldBy 54 = .ok (.lconst 0, 1) := by decide +kernel
theorem dX5_toldBy_55 : decode cX5_toldBy 55 = .ok (.ldc2_w 78, 3) := by decide +kernel
theorem dX5_toldBy_58 : decode cX5_toldBy 58 = .ok (.invokestatic 65, 3) := by decide +kernel
theorem dX5_toldBy_61 : decode cX5_toldBy 61 = .ok (.ifCond .eq 12, 3) := by decide +kernel
theorem dX5_toldBy_64 : decode cX5_toldBy 64 = .ok (.iload_n 2, 1) := by decide +kernel
theorem dX5_toldBy_65 : decode cX5_toldBy 65 = .ok (.iload 4, 2) := by decide +kernel
theorem dX5_toldBy_67 : decode cX5_toldBy 67 = .ok (.invokestatic 80, 3) := by decide +kernel
theorem dX5_toldBy_70 : decode cX5_toldBy 70 = .ok (.ifCond .ne 29, 3) := by decide +kernel
theorem dX5_toldBy_73 : decode cX5_toldBy 73 = .ok (.aload_n 0, 1) := by decide +kernel
theorem dX5_toldBy_74 : decode cX5_toldBy 74 = .ok (.aload_n 0, 1) := by decide +kernel
theorem dX5_toldBy_75 : decode cX5_toldBy 75 = .ok (.getfield 72, 3) := by decide +kernel
theorem dX5_toldBy_78 : decode cX5_toldBy 78 = .ok (.bipush (-9), 2) := by decide +kernel
theorem dX5_toldBy_80 : decode cX5_toldBy 80 = .ok (.if_icmp .ne 10, 3) := by decide +kernel
theorem dX5_toldBy_83 : decode cX5_toldBy 83 = .ok (.aload_n 0, 1) := by decide +kernel
theorem dX5_toldBy_84 : decode cX5_toldBy 84 = .ok (.getfield 75, 3) := by decide +kernel
theorem dX5_toldBy_87 : decode cX5_toldBy 87 = .ok (.goto 7, 3) := by decide +kernel
theorem dX5_toldBy_90 : decode cX5_toldBy 90 = .ok (.aload_n 0, 1) := by decide +kernel
theorem dX5_toldBy_91 : decode cX5_toldBy 91 = .ok (.getfield 72, 3) := by decide +kernel
theorem dX5_toldBy_94 : decode cX5_toldBy 94 = .ok (.putfield 72, 3) := by decide +kernel
theorem dX5_toldBy_97 : decode cX5_toldBy 97 = .ok (.iconst 0, 1) := by decide +kernel
theorem dX5_toldBy_98 : decode cX5_toldBy 98 = .ok (.ireturn, 1) := by decide +kernel
theorem dX5_toldBy_99 : decode cX5_toldBy 99 = .ok (.aload_n 0, 1) := by decide +kernel
theorem dX5_toldBy_100 : decode cX5_toldBy 100 = .ok (.dup, 1) := by decide +kernel
theorem dX5_toldBy_101 : decode cX5_toldBy 101 = .ok (.getfield 75, 3) := by decide +kernel
theorem dX5_toldBy_104 : decode cX5_toldBy 104 = .ok (.iconst 1, 1) := by decide +kernel
theorem dX5_toldBy_105 : decode cX5_toldBy 105 = .ok (.iadd, 1) := by decide +kernel
theorem dX5_toldBy_106 : decode cX5_toldBy 106 = .ok (.putfield 75, 3) := by decide +kernel
theorem dX5_toldBy_109 : decode cX5_toldBy 109 = .ok (.iload 4, 2) := by decide +kernel
theorem dX5_toldBy_111 : decode cX5_toldBy 111 = .ok (.ireturn, 1) := by decide +kernel
theorem dX5_readText_0 : decode cX5_readText 0 = .ok (.aload_n 0, 1) := by decide +kernel
theorem dX5_readText_1 : decode cX5_readText 1 = .ok (.iconst 0, 1) := by decide +kernel
theorem dX5_readText_2 : decode cX5_readText 2 = .ok (.putfield 75, 3) := by decide +kernel
theorem dX5_readText_5 : decode cX5_readText 5 = .ok (.aload_n 0, 1) := by decide +kernel
theorem dX5_readText_6 : decode cX5_readText 6 = .ok (.bipush (-9), 2) := by decide +kernel
theorem dX5_readText_8 : decode cX5_readText 8 = .ok (.putfield 72, 3) := by decide +kernel
theorem dX5_readText_11 : decode cX5_readText 11 = .ok (.aload_n 0, 1) := by decide +kernel
theorem dX5_readText_12 : decode cX5_readText 12 = .ok (.iconst 0, 1) := by decide +kernel
theorem dX5_readText_13 : decode cX5_readText 13 = .ok (.putfield 84, 3) := by decide +kernel
theorem dX5_readText_16 : decode cX5_readText 16 = .ok (.aload_n 0, 1) := by decide +kernel
theorem dX5_readText_17 : decode cX5_readText 17 = .ok (.iconst 0, 1) := by decide +kernel
theorem dX5_readText_18 : decode cX5_readText 18 = .ok (.putfield 87, 3) := by decide +kernel
theorem dX5_readText_21 : decode cX5_readText 21 = .ok (.aload_n 0, 1) := by decide +kernel
theorem dX5_readText_22 : decode cX5_readText 22 = .ok (.iconst 0, 1) := by decide +kernel
theorem dX5_readText_23 : decode cX5_readText 23 = .ok (.putfield 90, 3) := by decide +kernel
theorem dX5_readText_26 : decode cX5_readText 26 = .ok (.aload_n 0, 1) := by decide +kernel
theorem dX5_readText_27 : decode cX5_readText 27 = .ok (.iconst 0, 1) := by decide +kernel
theorem dX5_readText_28 : decode cX5_readText 28 = .ok (.putfield 93, 3) := by decide +kernel
theorem dX5_readText_31 : decode cX5_readText 31 = .ok (.aload_n 0, 1) := by decide +kernel
theorem dX5_readText_32 : decode cX5_readText 32 = .ok (.getfield 69, 3) := by decide +kernel
theorem dX5_readText_35 : decode cX5_readText 35 = .ok (.ifCond .eq 14, 3) := by decide +kernel
theorem dX5_readText_38 : decode cX5_readText 38 = .ok (.aload_n 0, 1) := by decide +kernel
theorem dX5_readText_39 : decode cX5_readText 39 = .ok (.getfield 37, 3) := by decide +kernel
theorem dX5_readText_42 : decode cX5_readText 42 = .ok (.iconst 0, 1) := by decide +kernel
theorem dX5_readText_43 : decode cX5_readText 43 = .ok (.iaload, 1) := by decide +kernel
theorem dX5_readText_44 : decode cX5_readText 44 = .ok (.bipush 83, 2) := by decide +kernel
theorem dX5_readText_46 : decode cX5_readText 46 = .ok (.if_icmp .eq 5, 3) := by decide +kernel
theorem dX5_readText_49 : decode cX5_readText 49 = .ok (.iconst 0, 1) := by decide +kernel
theorem dX5_readText_50 : decode cX5_readText 50 = .ok (.ireturn, 1) := by decide +kernel
theorem dX5_readText_51 : decode cX5_readText 51 = .ok (.aload_n 0, 1) := by decide +kernel
theorem dX5_readText_52 : decode cX5_readText 52 = .ok (.iconst 1, 1) := by decide +kernel
theorem dX5_readText_53 : decode cX5_readText 53 = .ok (.putfield 75, 3) := by decide +kernel
theorem dX5_readText_56 : decode cX5_readText 56 = .ok (.aload_n 0, 1) := by decide +kernel
theorem dX5_readText_57 : decode cX5_readText 57 = .ok (.getfield 72, 3) := by decide +kernel
theorem dX5_readText_60 : decode cX5_readText 60 = .ok (.bipush (-9), 2) := by decide +kernel
theorem dX5_readText_62 : decode cX5_readText 62 = .ok (.if_icmp .ne 30, 3) := by decide +kernel
theorem dX5_readText_65 : decode cX5_readText 65 = .ok (.aload_n 0, 1) := by decide +kernel
theorem dX5_readText_66 : decode cX5_readText 66 = .ok (.getfield 75, 3) := by decide +kernel
theorem dX5_readText_69 : decode cX5_readText 69 = .ok (.aload_n 0, 1) := by decide +kernel
theorem dX5_readText_70 : decode cX5_readText 70 = .ok (.getfield 69, 3) := by decide +kernel
theorem dX5_readText_73 : decode cX5_readText 73 = .ok (.if_icmp .ge 19, 3) := by decide +kernel
theorem dX5_readText_76 : decode cX5_readText 76 = .ok (.aload_n 0, 1) := by decide +kernel
theorem dX5_readText_77 : decode cX5_readText 77 = .ok (.aload_n 0, 1) := by decide +kernel
theorem dX5_readText_78 : decode cX5_readText 78 = .ok (.getfield 37, 3) := by decide +kernel
theorem dX5_readText_81 : decode cX5_readText 81 = .ok (.aload_n 0, 1) := by decide +kernel
theorem dX5_readText_82 : decode cX5_readText 82 = .ok (.getfield 75, 3) := by decide +kernel
theorem dX5_readText_85 : decode cX5_readText 85 = .ok (.iaload, 1) := by decide +kernel
theorem dX5_readText_86 : decode cX5_readText 86 = .ok (.invokevirtual 96, 3) := by decide +kernel
theorem dX5_readText_89 : decode cX5_readText 89 = .ok (.goto (-33), 3) := by decide +kernel
theorem dX5_readText_92 : decode cX5_readText 92 = .ok (.aload_n 0, 1) := by decide +kernel
theorem dX5_readText_93 : decode cX5_readText 93 = .ok (.getfield 72, 3) := by decide +kernel
theorem dX5_readText_96 : decode cX5_readText 96 = .ok (.ireturn, 1) := by decide +kernel
theorem dX5_readPart_0 : decode cX5_readPart 0 = .ok (.iload_n 1, 1) := by decide +kernel
theorem dX5_readPart_1 : decode cX5_readPart 1 = .ok (.bipush 84, 2) := by decide +kernel
theorem dX5_readPart_3 : decode cX5_readPart 3 = .ok (.if_icmp .ne 51, 3) := by decide +kernel
theorem dX5_readPart_6 : decode cX5_readPart 6 = .ok (.aload_n 0, 1) := by decide +kernel
theorem dX5_readPart_7 : decode cX5_readPart 7 = .ok (.getfield 84, 3) := by decide +kernel
theorem dX5_readPart_10 : decode cX5_readPart 10 = .ok (.iconst 4, 1) := by decide +kernel
theorem dX5_readPart_11 : decode cX5_readPart 11 = .ok (.if_icmp .ge 43, 3) := by decide +kernel
theorem dX5_readPart_14 : decode cX5_readPart 14 = .ok (.aload_n 0, 1) := by decide +kernel
theorem dX5_readPart_15 : decode cX5_readPart 15 = .ok (.dup, 1) := by decide +kernel
theorem dX5_readPart_16 : decode cX5_readPart 16 = .ok (.getfield 75, 3) := by decide +kernel
theorem dX5_readPart_19 : decode cX5_readPart 19 = .ok (.iconst 1, 1) := by decide +kernel
theorem dX5_readPart_20 : decode cX5_readPart 20 = .ok (.iadd, 1) := by decide +kernel
theorem dX5_readPart_21 : decode cX5_readPart 21 = .ok (.putfield 75, 3) := by decide +kernel
theorem dX5_readPart_24 : decode cX5_readPart 24 = .ok (.aload_n 0, 1) := by decide +kernel
theorem dX5_readPart_25 : decode cX5_readPart 25 = .ok (.getfield 28, 3) := by decide +kernel
theorem dX5_readPart_28 : decode cX5_readPart 28 = .ok (.aload_n 0, 1) := by decide +kernel
theorem dX5_readPart_29 : decode cX5_readPart 29 = .ok (.getfield 84, 3) := by decide +kernel
theorem dX5_readPart_32 : decode cX5_readPart 32 = .ok (.aload_n 0, 1) := by decide +kernel
theorem dX5_readPart_33 : decode cX5_readPart 33 = .ok (.bipush 48, 2) := by decide +kernel
theorem dX5_readPart_35 : decode cX5_readPart 35 = .ok (.bipush 31, 2) := by decide +kernel
theorem dX5_readPart_37 : decode cX5_readPart 37 = .ok (.invokevirtual 100, 3) := by decide +kernel
theorem dX5_readPart_40 : decode cX5_readPart 40 = .ok (.iastore, 1) := by decide +kernel
theorem dX5_readPart_41 : decode cX5_readPart 41 = .ok (.aload_n 0, 1) := by decide +kernel
theorem dX5_readPart_42 : decode cX5_readPart 42 = .ok (.dup, 1) := by decide +kernel
theorem dX5_readPart_43 : decode cX5_readPart 43 = .ok (.getfield 84, 3) := by decide +kernel
theorem dX5_readPart_46 : decode cX5_readPart 46 = .ok (.iconst 1, 1) := by decide +kernel
theorem dX5_readPart_47 : decode cX5_readPart 47 = .ok (.iadd, 1) := by decide +kernel
theorem dX5_readPart_48 : decode cX5_readPart 48 = .ok (.putfield 84, 3) := by decide +kernel
theorem dX5_readPart_51 : decode cX5_readPart 51 = .ok (.goto 205, 3) := by decide +kernel
theorem dX5_readPart_54 : decode cX5_readPart 54 = .ok (.iload_n 1, 1) := by decide +kernel
theorem dX5_readPart_55 : decode cX5_readPart 55 = .ok (.bipush 71, 2) := by decide +kernel
theorem dX5_readPart_57 : decode cX5_readPart 57 = .ok (.if_icmp .ne 113, 3) := by decide +kernel
theorem dX5_readPart_60 : decode cX5_readPart 60 = .ok (.aload_n 0, 1) := by decide +kernel
theorem dX5_readPart_61 : decode cX5_readPart 61 = .ok (.getfield 87, 3) := by decide +kernel
theorem dX5_readPart_64 : decode cX5_readPart 64 = .ok (.bipush 6, 2) := by decide +kernel
theorem dX5_readPart_66 : decode cX5_readPart 66 = .ok (.if_icmp .ge 104, 3) := by decide +kernel
theorem dX5_readPart_69 : decode cX5_readPart 69 = .ok (.aload_n 0, 1) := by decide +kernel
theorem dX5_readPart_70 : decode cX5_readPart 70 = .ok (.dup, 1) := by decide +kernel
theorem dX5_readPart_71 : decode cX5_readPart 71 = .ok (.getfield 75, 3) := by decide +kernel
theorem dX5_readPart_74 : decode cX5_readPart 74 = .ok (.iconst 1, 1) := by decide +kernel
theorem dX5_readPart_75 : decode cX5_readPart 75 = .ok (.iadd, 1) := by decide +kernel
theorem dX5_readPart_76 : decode cX5_readPart 76 = .ok (.putfield 75, 3) := by decide +kernel
theorem dX5_readPart_79 : decode cX5_readPart 79 = .ok (.iconst 3, 1) := by decide +kernel
theorem dX5_readPart_80 : decode cX5_readPart 80 = .ok (.aload_n 0, 1) := by decide +kernel
theorem dX5_readPart_81 : decode cX5_readPart 81 = .ok (.getfield 87, 3) := by decide +kernel
theorem dX5_readPart_84 : decode cX5_readPart 84 = .ok (.imul, 1) := by decide +kernel
theorem dX5_readPart_85 : decode cX5_readPart 85 = .ok (.istore_n 2, 1) := by decide +kernel
theorem dX5_readPart_86 : decode cX5_readPart 86 = .ok (.aload_n 0, 1) := by decide +kernel
theorem dX5_readPart_87 : decode cX5_readPart 87 = .ok (.getfield 31, 3) := by decide +kernel
theorem dX5_readPart_90 : decode cX5_readPart 90 = .ok (.iload_n 2, 1) := by decide +kernel
theorem dX5_readPart_91 : decode cX5_readPart 91 = .ok (.aload_n 0, 1) := by decide +kernel
theorem dX5_readPart_92 : decode cX5_readPart 92 = .ok (.bipush 97, 2) := by decide +kernel
theorem dX5_readPart_94 : decode cX5_readPart 94 = .ok (.sipush 4095, 3) := by decide +kernel
theorem dX5_readPart_97 : decode cX5_readPart 97 = .ok (.aload_n 0, 1) := by decide +kernel
theorem dX5_readPart_98 : decode cX5_readPart 98 = .ok (.getfield 93, 3) := by decide +kernel
theorem dX5_readPart_101 : decode cX5_readPart 101 = .ok (.iconst (-1), 1) := by decide +kernel
theorem dX5_readPart_102 : decode cX5_readPart 102 = .ok (.ixor, 1) := by decide +kernel
theorem dX5_readPart_103 : decode cX5_readPart 103 = .ok (.iand, 1) := by decide +kernel
theorem dX5_readPart_104 : decode cX5_readPart 104 = .ok (.invokevirtual 100, 3) := by decide +kernel
theorem dX5_readPart_107 : decode cX5_readPart 107 = .ok (.iastore, 1) := by decide +kernel
theorem dX5_readPart_108 : decode cX5_readPart 108 = .ok (.aload_n 0, 1) := by decide +kernel
theorem dX5_readPart_109 : decode cX5_readPart 109 = .ok (.getfield 31, 3) := by decide +kernel
theorem dX5_readPart_112 : decode cX5_readPart 112 = .ok (.iload_n 2, 1) := by decide +kernel
theorem dX5_readPart_113 : decode cX5_readPart 113 = .ok (.iconst 1, 1) := by decide +kernel
theorem dX5_readPart_114 : decode cX5_readPart 114 = .ok (.iadd, 1) := by decide +kernel
theorem dX5_readPart_115 : decode cX5_readPart 115 = .ok (.aload_n 0, 1) := by decide +kernel
theorem dX5_readPart_116 : decode cX5_readPart 116 = .ok (.bipush 48, 2) := by decide +kernel
theorem dX5_readPart_118 : decode cX5_readPart 118 = .ok (.bipush 31, 2) := by decide +kernel
theorem dX5_readPart_120 : decode cX5_readPart 120 = .ok (.invokevirtual 100, 3) := by decide +kernel
theorem dX5_readPart_123 : decode cX5_readPart 123 = .ok (.iastore, 1) := by decide +kernel
theorem dX5_readPart_124 : decode cX5_readPart 124 = .ok (.aload_n 0, 1) := by decide +kernel
theorem dX5_readPart_125 : decode cX5_readPart 125 = .ok (.getfield 31, 3) := by decide +kernel
theorem dX5_readPart_128 : decode cX5_readPart 128 = .ok (.iload_n 2, 1) := by decide +kernel
theorem dX5_readPart_129 : decode cX5_readPart 129 = .ok (.iconst 2, 1) := by decide +kernel
theorem dX5_readPart_130 : decode cX5_readPart 130 = .ok (.iadd, 1) := by decide +kernel
theorem dX5_readPart_131 : decode cX5_readPart 131 = .ok (.aload_n 0, 1) := by decide +kernel
theorem dX5_readPart_132 : decode cX5_readPart 132 = .ok (.bipush 48, 2) := by decide +kernel
theorem dX5_readPart_134 : decode cX5_readPart 134 = .ok (.bipush 15, 2) := by decide +kernel
theorem dX5_readPart_136 : decode cX5_readPart 136 = .ok (.invokevirtual 100, 3) := by decide +kernel
theorem dX5_readPart_139 : decode cX5_readPart 139 = .ok (.iastore, 1) := by decide +kernel
theorem dX5_readPart_140 : decode cX5_readPart 140 = .ok (.aload_n 0, 1) := by decide +kernel
theorem dX5_readPart_141 : decode cX5_readPart 141 = .ok (.dup, 1) := by decide +kernel
theorem dX5_readPart_142 : decode cX5_readPart 142 = .ok (.getfield 93, 3) := by decide +kernel
theorem dX5_readPart_145 : decode cX5_readPart 145 = .ok (.iconst 1, 1) := by decide +kernel
theorem dX5_readPart_146 : decode cX5_readPart 146 = .ok (.aload_n 0, 1) := by decide +kernel
theorem dX5_readPart_147 : decode cX5_readPart 147 = .ok (.getfield 31, 3) := by decide +kernel
theorem dX5_readPart_150 : decode cX5_readPart 150 = .ok (.iload_n 2, 1) := by decide +kernel
theorem dX5_readPart_151 : decode cX5_readPart 151 = .ok (.iaload, 1) := by decide +kernel
theorem dX5_readPart_152 : decode cX5_readPart 152 = .ok (.ishl, 1) := by decide +kernel
theorem dX5_readPart_153 : decode cX5_readPart 153 = .ok (.ior, 1) := by decide +kernel
theorem dX5_readPart_154 : decode cX5_readPart 154 = .ok (.putfield 93, 3) := by decide +kernel
theorem dX5_readPart_157 : decode cX5_readPart 157 = .ok (.aload_n 0, 1) := by decide +kernel
theorem dX5_readPart_158 : decode cX5_readPart 158 = .ok (.dup, 1) := by decide +kernel
theorem dX5_readPart_159 : decode cX5_readPart 159 = .ok (.getfield 87, 3) := by decide +kernel
theorem dX5_readPart_162 : decode cX5_readPart 162 = .ok (.iconst 1, 1) := by decide +kernel
theorem dX5_readPart_163 : decode cX5_readPart 163 = .ok (.iadd, 1) := by decide +kernel
theorem dX5_readPart_164 : decode cX5_readPart 164 = .ok (.putfield 87, 3) := by decide +kernel
theorem dX5_readPart_167 : decode cX5_readPart 167 = .ok (.goto 89, 3) := by decide +kernel
theorem dX5_readPart_170 : decode cX5_readPart 170 = .ok (.iload_n 1, 1) := by decide +kernel
theorem dX5_readPart_171 : decode cX5_readPart 171 = .ok (.bipush 67, 2) := by decide +kernel
theorem dX5_readPart_173 : decode cX5_readPart 173 = .ok (.if_icmp .ne 75, 3) := by decide +kernel
theorem dX5_readPart_176 : decode cX5_readPart 176 = .ok (.aload_n 0, 1) := by decide +kernel
theorem dX5_readPart_177 : decode cX5_readPart 177 = .ok (.getfield 90, 3) := by decide +kernel
theorem dX5_readPart_180 : decode cX5_readPart 180 = .ok (.iconst 5, 1) := by decide +kernel
theorem dX5_readPart_181 : decode cX5_readPart 181 = .ok (.if_icmp .ge 67, 3) := by decide +kernel
theorem dX5_readPart_184 : decode cX5_readPart 184 = .ok (.aload_n 0, 1) := by decide +kernel
theorem dX5_readPart_185 : decode cX5_readPart 185 = .ok (.dup, 1) := by decide +kernel
theorem dX5_readPart_186 : decode cX5_readPart 186 = .ok (.getfield 75, 3) := by decide +kernel
theorem dX5_readPart_189 : decode cX5_readPart 189 = .ok (.iconst 1, 1) := by decide +kernel
theorem dX5_readPart_190 : decode cX5_readPart 190 = .ok (.iadd, 1) := by decide +kernel
theorem dX5_readPart_191 : decode cX5_readPart 191 = .ok (.putfield 75, 3) := by decide +kernel
theorem dX5_readPart_194 : decode cX5_readPart 194 = .ok (.aload_n 0, 1) := by decide +kernel
theorem dX5_readPart_195 : decode cX5_readPart 195 = .ok (.getfield 34, 3) := by decide +kernel
theorem dX5_readPart_198 : decode cX5_readPart 198 = .ok (.iconst 2, 1) := by decide +kernel
theorem dX5_readPart_199 : decode cX5_readPart 199 = .ok (.aload_n 0, 1) := by decide +kernel
theorem dX5_readPart_200 : decode cX5_readPart 200 = .ok (.getfield 90, 3) := by decide +kernel
theorem dX5_readPart_203 : decode cX5_readPart 203 = .ok (.imul, 1) := by decide +kernel
theorem dX5_readPart_204 : decode cX5_readPart 204 = .ok (.aload_n 0, 1) := by decide +kernel
theorem dX5_readPart_205 : decode cX5_readPart 205 = .ok (.bipush 97, 2) := by decide +kernel
theorem dX5_readPart_207 : decode cX5_readPart 207 = .ok (.sipush 4095, 3) := by decide +kernel
theorem dX5_readPart_210 : decode cX5_readPart 210 = .ok (.invokevirtual 100, 3) := by decide +kernel
theorem dX5_readPart_213 : decode cX5_readPart 213 = .ok (.iastore, 1) := by decide +kernel
theorem dX5_readPart_214 : decode cX5_readPart 214 = .ok (.aload_n 0, 1) := by decide +kernel
theorem dX5_readPart_215 : decode cX5_readPart 215 = .ok (.getfield 34, 3) := by decide +kernel
theorem dX5_readPart_218 : decode cX5_readPart 218 = .ok (.iconst 2, 1) := by decide +kernel
theorem dX5_readPart_219 : decode cX5_readPart 219 = .ok (.aload_n 0, 1) := by decide +kernel
theorem dX5_readPart_220 : decode cX5_readPart 220 = .ok (.getfield 90, 3) := by decide +kernel
theorem dX5_readPart_223 : decode cX5_readPart 223 = .ok (.imul, 1) := by decide +kernel
theorem dX5_readPart_224 : decode cX5_readPart 224 = .ok (.iconst 1, 1) := by decide +kernel
theorem dX5_readPart_225 : decode cX5_readPart 225 = .ok (.iadd, 1) := by decide +kernel
theorem dX5_readPart_226 : decode cX5_readPart 226 = .ok (.aload_n 0, 1) := by decide +kernel
theorem dX5_readPart_227 : decode cX5_readPart 227 = .ok (.bipush 48, 2) := by decide +kernel
theorem dX5_readPart_229 : decode cX5_readPart 229 = .ok (.bipush 15, 2) := by decide +kernel
theorem dX5_readPart_231 : decode cX5_readPart 231 = .ok (.invokevirtual 100, 3) := by decide +kernel
theorem dX5_readPart_234 : decode cX5_readPart 234 = .ok (.iastore, 1) := by decide +kernel
theorem dX5_readPart_235 : decode cX5_readPart 235 = .ok (.aload_n 0, 1) := by decide +kernel
theorem dX5_readPart_236 : decode cX5_readPart 236 = .ok (.dup, 1) := by decide +kernel
theorem dX5_readPart_237 : decode cX5_readPart 237 = .ok (.getfield 90, 3) := by decide +kernel
theorem dX5_readPart_240 : decode cX5_readPart 240 = .ok (.iconst 1, 1) := by decide +kernel
theorem dX5_readPart_241 : decode cX5_readPart 241 = .ok (.iadd, 1) := by decide +kernel
theorem dX5_readPart_242 : decode cX5_readPart 242 = .ok (.putfield 90, 3) := by decide +kernel
theorem dX5_readPart_245 : decode cX5_readPart 245 = .ok (.goto 11, 3) := by decide +kernel
theorem dX5_readPart_248 : decode cX5_readPart 248 = .ok (.aload_n 0, 1) := by decide +kernel
theorem dX5_readPart_249 : decode cX5_readPart 249 = .ok (.aload_n 0, 1) := by decide +kernel
theorem dX5_readPart_250 : decode cX5_readPart 250 = .ok (.getfield 75, 3) := by decide +kernel
theorem dX5_readPart_253 : decode cX5_readPart 253 = .ok (.putfield 72, 3) := by decide +kernel
theorem dX5_readPart_256 : decode cX5_readPart 256 = .ok (.return_, 1) := by decide +kernel
theorem dX5_fault_0 : decode cX5_fault 0 = .ok (.aload_n 0, 1) := by decide +kernel
theorem dX5_fault_1 : decode cX5_fault 1 = .ok (.invokevirtual 104, 3) := by decide +kernel
theorem dX5_fault_4 : decode cX5_fault 4 = .ok (.ireturn, 1) := by decide +kernel
theorem dX5_coast_0 : decode cX5_coast 0 = .ok (.aload_n 0, 1) := by decide +kernel
theorem dX5_coast_1 : decode cX5_coast 1 = .ok (.invokevirtual 104, 3) := by decide +kernel
theorem dX5_coast_4 : decode cX5_coast 4 = .ok (.bipush (-9), 2) := by decide +kernel
theorem dX5_coast_6 : decode cX5_coast 6 = .ok (.if_icmp .eq 6, 3) := by decide +kernel
theorem dX5_coast_9 : decode cX5_coast 9 = .ok (.bipush (-3), 2) := by decide +kernel
theorem dX5_coast_11 : decode cX5_coast 11 = .ok (.ireturn, 1) := by decide +kernel
theorem dX5_coast_12 : decode cX5_coast 12 = .ok (.aload_n 0, 1) := by decide +kernel
theorem dX5_coast_13 : decode cX5_coast 13 = .ok (.aload_n 0, 1) := by decide +kernel
theorem dX5_coast_14 : decode cX5_coast 14 = .ok (.getfield 84, 3) := by decide +kernel
theorem dX5_coast_17 : decode cX5_coast 17 = .ok (.putfield 108, 3) := by decide +kernel
theorem dX5_coast_20 : decode cX5_coast 20 = .ok (.aload_n 0, 1) := by decide +kernel
theorem dX5_coast_21 : decode cX5_coast 21 = .ok (.aload_n 0, 1) := by decide +kernel
theorem dX5_coast_22 : decode cX5_coast 22 = .ok (.getfield 87, 3) := by decide +kernel
theorem dX5_coast_25 : decode cX5_coast 25 = .ok (.putfield 111, 3) := by decide +kernel
theorem dX5_coast_28 : decode cX5_coast 28 = .ok (.aload_n 0, 1) := by decide +kernel
theorem dX5_coast_29 : decode cX5_coast 29 = .ok (.aload_n 0, 1) := by decide +kernel
theorem dX5_coast_30 : decode cX5_coast 30 = .ok (.getfield 90, 3) := by decide +kernel
theorem dX5_coast_33 : decode cX5_coast 33 = .ok (.putfield 114, 3) := by decide +kernel
theorem dX5_coast_36 : decode cX5_coast 36 = .ok (.iconst 0, 1) := by decide +kernel
theorem dX5_coast_37 : decode cX5_coast 37 = .ok (.istore_n 1, 1) := by decide +kernel
theorem dX5_coast_38 : decode cX5_coast 38 = .ok (.iload_n 1, 1) := by decide +kernel
theorem dX5_coast_39 : decode cX5_coast 39 = .ok (.bipush 32, 2) := by decide +kernel
theorem dX5_coast_41 : decode cX5_coast 41 = .ok (.if_icmp .ge 16, 3) := by decide +kernel
theorem dX5_coast_44 : decode cX5_coast 44 = .ok (.aload_n 0, 1) := by decide +kernel
theorem dX5_coast_45 : decode cX5_coast 45 = .ok (.getfield 25, 3) := by decide +kernel
theorem dX5_coast_48 : decode cX5_coast 48 = .ok (.iload_n 1, 1) := by decide +kernel
theorem dX5_coast_49 : decode cX5_coast 49 = .ok (.iconst 0, 1) := by decide +kernel
theorem dX5_coast_50 : decode cX5_coast 50 = .ok (.iastore, 1) := by decide +kernel
theorem dX5_coast_51 : decode cX5_coast 51 = .ok (.iinc 1 1, 3) := by decide +kernel
theorem dX5_coast_54 : decode cX5_coast 54 = .ok (.goto (-16), 3) := by decide +kernel
theorem dX5_coast_57 : decode cX5_coast 57 = .ok (.iconst 0, 1) := by decide +kernel
theorem dX5_coast_58 : decode cX5_coast 58 = .ok (.istore_n 1, 1) := by decide +kernel
theorem dX5_coast_59 : decode cX5_coast 59 = .ok (.iload_n 1, 1) := by decide +kernel
theorem dX5_coast_60 : decode cX5_coast 60 = .ok (.aload_n 0, 1) := by decide +kernel
theorem dX5_coast_61 : decode cX5_coast 61 = .ok (.getfield 108, 3) := by decide +kernel
theorem dX5_coast_64 : decode cX5_coast 64 = .ok (.if_icmp .ge 21, 3) := by decide +kernel
theorem dX5_coast_67 : decode cX5_coast 67 = .ok (.aload_n 0, 1) := by decide +kernel
theorem dX5_coast_68 : decode cX5_coast 68 = .ok (.getfield 7, 3) := by decide +kernel
theorem dX5_coast_71 : decode cX5_coast 71 = .ok (.iload_n 1, 1) := by decide +kernel
theorem dX5_coast_72 : decode cX5_coast 72 = .ok (.aload_n 0, 1) := by decide +kernel
theorem dX5_coast_73 : decode cX5_coast 73 = .ok (.getfield 28, 3) := by decide +kernel
theorem dX5_coast_76 : decode cX5_coast 76 = .ok (.iload_n 1, 1) := by decide +kernel
theorem dX5_coast_77 : decode cX5_coast 77 = .ok (.iaload, 1) := by decide +kernel
theorem dX5_coast_78 : decode cX5_coast 78 = .ok (.iastore, 1) := by decide +kernel
theorem dX5_coast_79 : decode cX5_coast 79 = .ok (.iinc 1 1, 3) := by decide +kernel
theorem dX5_coast_82 : decode cX5_coast 82 = .ok (.goto (-23), 3) := by decide +kernel
theorem dX5_coast_85 : decode cX5_coast 85 = .ok (.iconst 0, 1) := by decide +kernel
theorem dX5_coast_86 : decode cX5_coast 86 = .ok (.istore_n 1, 1) := by decide +kernel
theorem dX5_coast_87 : decode cX5_coast 87 = .ok (.iload_n 1, 1) := by decide +kernel
theorem dX5_coast_88 : decode cX5_coast 88 = .ok (.aload_n 0, 1) := by decide +kernel
theorem dX5_coast_89 : decode cX5_coast 89 = .ok (.getfield 111, 3) := by decide +kernel
theorem dX5_coast_92 : decode cX5_coast 92 = .ok (.if_icmp .ge 55, 3) := by decide +kernel
theorem dX5_coast_95 : decode cX5_coast 95 = .ok (.aload_n 0, 1) := by decide +kernel
theorem dX5_coast_96 : decode cX5_coast 96 = .ok (.getfield 13, 3) := by decide +kernel
theorem dX5_coast_99 : decode cX5_coast 99 = .ok (.iload_n 1, 1) := by decide +kernel
theorem dX5_coast_100 : decode cX5_coast 100 = .ok (.aload_n 0, 1) := by decide +kernel
theorem dX5_coast_101 : decode cX5_coast 101 = .ok (.getfield 31, 3) := by decide +kernel
theorem dX5_coast_104 : decode cX5_coast 104 = .ok (.iconst 3, 1) := by decide +kernel
theorem dX5_coast_105 : decode cX5_coast 105 = .ok (.iload_n 1, 1) := by decide +kernel
theorem dX5_coast_106 : decode cX5_coast 106 = .ok (.imul, 1) := by decide +kernel
theorem dX5_coast_107 : decode cX5_coast 107 = .ok (.iaload, 1) := by decide +kernel
theorem dX5_coast_108 : decode cX5_coast 108 = .ok (.iastore, 1) := by decide +kernel
theorem dX5_coast_109 : decode cX5_coast 109 = .ok (.aload_n 0, 1) := by decide +kernel
theorem dX5_coast_110 : decode cX5_coast 110 = .ok (.getfield 16, 3) := by decide +kernel
theorem dX5_coast_113 : decode cX5_coast 113 = .ok (.iload_n 1, 1) := by decide +kernel
theorem dX5_coast_114 : decode cX5_coast 114 = .ok (.aload_n 0, 1) := by decide +kernel
theorem dX5_coast_115 : decode cX5_coast 115 = .ok (.getfield 31, 3) := by decide +kernel
theorem dX5_coast_118 : decode cX5_coast 118 = .ok (.iconst 3, 1) := by decide +kernel
theorem dX5_coast_119 : decode cX5_coast 119 = .ok (.iload_n 1, 1) := by decide +kernel
theorem dX5_coast_120 : decode cX5_coast 120 = .ok (.imul, 1) := by decide +kernel
theorem dX5_coast_121 : decode cX5_coast 121 = .ok (.iconst 1, 1) := by decide +kernel
theorem dX5_coast_122 : decode cX5_coast 122 = .ok (.iadd, 1) := by decide +kernel
theorem dX5_coast_123 : decode cX5_coast 123 = .ok (.iaload, 1) := by decide +kernel
theorem dX5_coast_124 : decode cX5_coast 124 = .ok (.iastore, 1) := by decide +kernel
theorem dX5_coast_125 : decode cX5_coast 125 = .ok (.aload_n 0, 1) := by decide +kernel
theorem dX5_coast_126 : decode cX5_coast 126 = .ok (.getfield 19, 3) := by decide +kernel
theorem dX5_coast_129 : decode cX5_coast 129 = .ok (.iload_n 1, 1) := by decide +kernel
theorem dX5_coast_130 : decode cX5_coast 130 = .ok (.aload_n 0, 1) := by decide +kernel
theorem dX5_coast_131 : decode cX5_coast 131 = .ok (.getfield 31, 3) := by decide +kernel
theorem dX5_coast_134 : decode cX5_coast 134 = .ok (.iconst 3, 1) := by decide +kernel
theorem dX5_coast_135 : decode cX5_coast 135 = .ok (.iload_n 1, 1) := by decide +kernel
theorem dX5_coast_136 : decode cX5_coast 136 = .ok (.imul, 1) := by decide +kernel
theorem dX5_coast_137 : decode cX5_coast 137 = .ok (.iconst 2, 1) := by decide +kernel
theorem dX5_coast_138 : decode cX5_coast 138 = .ok (.iadd, 1) := by decide +kernel
theorem dX5_coast_139 : decode cX5_coast 139 = .ok (.iaload, 1) := by decide +kernel
theorem dX5_coast_140 : decode cX5_coast 140 = .ok (.iastore, 1) := by decide +kernel
theorem dX5_coast_141 : decode cX5_coast 141 = .ok (.iinc 1 1, 3) := by decide +kernel
theorem dX5_coast_144 : decode cX5_coast 144 = .ok (.goto (-57), 3) := by decide +kernel
theorem dX5_coast_147 : decode cX5_coast 147 = .ok (.iconst 0, 1) := by decide +kernel
theorem dX5_coast_148 : decode cX5_coast 148 = .ok (.istore_n 1, 1) := by decide +kernel
theorem dX5_coast_149 : decode cX5_coast 149 = .ok (.iload_n 1, 1) := by decide +kernel
theorem dX5_coast_150 : decode cX5_coast 150 = .ok (.aload_n 0, 1) := by decide +kernel
theorem dX5_coast_151 : decode cX5_coast 151 = .ok (.getfield 114, 3) := by decide +kernel
theorem dX5_coast_154 : decode cX5_coast 154 = .ok (.if_icmp .ge 39, 3) := by decide +kernel
theorem dX5_coast_157 : decode cX5_coast 157 = .ok (.aload_n 0, 1) := by decide +kernel
theorem dX5_coast_158 : decode cX5_coast 158 = .ok (.getfield 25, 3) := by decide +kernel
theorem dX5_coast_161 : decode cX5_coast 161 = .ok (.iload_n 1, 1) := by decide +kernel
theorem dX5_coast_162 : decode cX5_coast 162 = .ok (.aload_n 0, 1) := by decide +kernel
theorem dX5_coast_163 : decode cX5_coast 163 = .ok (.getfield 34, 3) := by decide +kernel
theorem dX5_coast_166 : decode cX5_coast 166 = .ok (.iconst 2, 1) := by decide +kernel
theorem dX5_coast_167 : decode cX5_coast 167 = .ok (.iload_n 1, 1) := by decide +kernel
theorem dX5_coast_168 : decode cX5_coast 168 = .ok (.imul, 1) := by decide +kernel
theorem dX5_coast_169 : decode cX5_coast 169 = .ok (.iaload, 1) := by decide +kernel
theorem dX5_coast_170 : decode cX5_coast 170 = .ok (.iastore, 1) := by decide +kernel
theorem dX5_coast_171 : decode cX5_coast 171 = .ok (.aload_n 0, 1) := by decide +kernel
theorem dX5_coast_172 : decode cX5_coast 172 = .ok (.getfield 22, 3) := by decide +kernel
theorem dX5_coast_175 : decode cX5_coast 175 = .ok (.iload_n 1, 1) := by decide +kernel
theorem dX5_coast_176 : decode cX5_coast 176 = .ok (.aload_n 0, 1) := by decide +kernel
theorem dX5_coast_177 : decode cX5_coast 177 = .ok (.getfield 34, 3) := by decide +kernel
theorem dX5_coast_180 : decode cX5_coast 180 = .ok (.iconst 2, 1) := by decide +kernel
theorem dX5_coast_181 : decode cX5_coast 181 = .ok (.iload_n 1, 1) := by decide +kernel
theorem dX5_coast_182 : decode cX5_coast 182 = .ok (.imul, 1) := by decide +kernel
theorem dX5_coast_183 : decode cX5_coast 183 = .ok (.iconst 1, 1) := by decide +kernel
theorem dX5_coast_184 : decode cX5_coast 184 = .ok (.iadd, 1) := by decide +kernel
theorem dX5_coast_185 : decode cX5_coast 185 = .ok (.iaload, 1) := by decide +kernel
theorem dX5_coast_186 : decode cX5_coast 186 = .ok (.iastore, 1) := by decide +kernel
theorem dX5_coast_187 : decode cX5_coast 187 = .ok (.iinc 1 1, 3) := by decide +kernel
theorem dX5_coast_190 : decode cX5_coast 190 = .ok (.goto (-41), 3) := by decide +kernel
theorem dX5_coast_193 : decode cX5_coast 193 = .ok (.aload_n 0, 1) := by decide +kernel
theorem dX5_coast_194 : decode cX5_coast 194 = .ok (.iconst 0, 1) := by decide +kernel
theorem dX5_coast_195 : decode cX5_coast 195 = .ok (.putfield 117, 3) := by decide +kernel
theorem dX5_coast_198 : decode cX5_coast 198 = .ok (.aload_n 0, 1) := by decide +kernel
theorem dX5_coast_199 : decode cX5_coast 199 = .ok (.getfield 56, 3) := by decide +kernel
theorem dX5_coast_202 : decode cX5_coast 202 = .ok (.iconst 0, 1) := by decide +kernel
theorem dX5_coast_203 : decode cX5_coast 203 = .ok (.iconst 0, 1) := by decide +kernel
theorem dX5_coast_204 : decode cX5_coast 204 = .ok (.bastore, 1) := by decide +kernel
theorem dX5_coast_205 : decode cX5_coast 205 = .ok (.aload_n 0, 1) := by decide +kernel
theorem dX5_coast_206 : decode cX5_coast 206 = .ok (.getfield 56, 3) := by decide +kernel
theorem dX5_coast_209 : decode cX5_coast 209 = .ok (.iconst 1, 1) := by decide +kernel
theorem dX5_coast_210 : decode cX5_coast 210 = .ok (.iconst 0, 1) := by decide +kernel
theorem dX5_coast_211 : decode cX5_coast 211 = .ok (.bastore, 1) := by decide +kernel
theorem dX5_coast_212 : decode cX5_coast 212 = .ok (.bipush 100, 2) := by decide +kernel
theorem dX5_coast_214 : decode cX5_coast 214 = .ok (.aload_n 0, 1) := by decide +kernel
theorem dX5_coast_215 : decode cX5_coast 215 = .ok (.getfield 108, 3) := by decide +kernel
theorem dX5_coast_218 : decode cX5_coast 218 = .ok (.imul, 1) := by decide +kernel
theorem dX5_coast_219 : decode cX5_coast 219 = .ok (.bipush 10, 2) := by decide +kernel
theorem dX5_coast_221 : decode cX5_coast 221 = .ok (.aload_n 0, 1) := by decide +kernel
theorem dX5_coast_222 : decode cX5_coast 222 = .ok (.getfield 111, 3) := by decide +kernel
theorem dX5_coast_225 : decode cX5_coast 225 = .ok (.imul, 1) := by decide +kernel
theorem dX5_coast_226 : decode cX5_coast 226 = .ok (.iadd, 1) := by decide +kernel
theorem dX5_coast_227 : decode cX5_coast 227 = .ok (.aload_n 0, 1) := by decide +kernel
theorem dX5_coast_228 : decode cX5_coast 228 = .ok (.getfield 114, 3) := by decide +kernel
theorem dX5_coast_231 : decode cX5_coast 231 = .ok (.iadd, 1) := by decide +kernel
theorem dX5_coast_232 : decode cX5_coast 232 = .ok (.ireturn, 1) := by decide +kernel
theorem dX5_isGround_0 : decode cX5_isGround 0 = .ok (.iload_n 1, 1) := by decide +kernel
theorem dX5_isGround_1 : decode cX5_isGround 1 = .ok (.i2l, 1) := by decide +kernel
theorem dX5_isGround_2 : decode cX5_isGround 2 = .ok (.lconst 0, 1) := by decide +kernel
theorem dX5_isGround_3 : decode cX5_isGround 3 = .ok (.aload_n 0, 1) := by decide +kernel
theorem dX5_isGround_4 : decode cX5_isGround 4 = .ok (.getfield 111, 3) := by decide +kernel
theorem dX5_isGround_7 : decode cX5_isGround 7 = .ok (.iconst 1, 1) := by decide +kernel
theorem dX5_isGround_8 : decode cX5_isGround 8 = .ok (.isub, 1) := by decide +kernel
theorem dX5_isGround_9 : decode cX5_isGround 9 = .ok (.i2l, 1) := by decide +kernel
theorem dX5_isGround_10 : decode cX5_isGround 10 = .ok (.invokestatic 65, 3) := by decide +kernel
theorem dX5_isGround_13 : decode cX5_isGround 13 = .ok (.ireturn, 1) := by decide +kernel
theorem dX5_isChild_0 : decode cX5_isChild 0 = .ok (.iload_n 1, 1) := by decide +kernel
theorem dX5_isChild_1 : decode cX5_isChild 1 = .ok (.i2l, 1) := by decide +kernel
theorem dX5_isChild_2 : decode cX5_isChild 2 = .ok (.lconst 0, 1) := by decide +kernel
theorem dX5_isChild_3 : decode cX5_isChild 3 = .ok (.aload_n 0, 1) := by decide +kernel
theorem dX5_isChild_4 : decode cX5_isChild 4 = .ok (.getfield 114, 3) := by decide +kernel
theorem dX5_isChild_7 : decode cX5_isChild 7 = .ok (.iconst 1, 1) := by decide +kernel
theorem dX5_isChild_8 : decode cX5_isChild 8 = .ok (.isub, 1) := by decide +kernel
theorem dX5_isChild_9 : decode cX5_isChild 9 = .ok (.i2l, 1) := by decide +kernel
theorem dX5_isChild_10 : decode cX5_isChild 10 = .ok (.invokestatic 65, 3) := by decide +kernel
theorem dX5_isChild_13 : decode cX5_isChild 13 = .ok (.ireturn, 1) := by decide +kernel
theorem dX5_isCell_0 : decode cX5_isCell 0 = .ok (.iload_n 0, 1) := by decide +kernel
theorem dX5_isCell_1 : decode cX5_isCell 1 = .ok (.i2l, 1) := by decide +kernel
theorem dX5_isCell_2 : decode cX5_isCell 2 = .ok (.lconst 0, 1) := by decide +kernel
theorem dX5_isCell_3 : decode cX5_isCell 3 = .ok (.ldc2_w 78, 3) := by decide +kernel
theorem dX5_isCell_6 : decode cX5_isCell 6 = .ok (.invokestatic 65, 3) := by decide +kernel
theorem dX5_isCell_9 : decode cX5_isCell 9 = .ok (.ireturn, 1) := by decide +kernel
theorem dX5_isSubject_0 : decode cX5_isSubject 0 = .ok (.iload_n 0, 1) := by decide +kernel
theorem dX5_isSubject_1 : decode cX5_isSubject 1 = .ok (.i2l, 1) := by decide +kernel
theorem dX5_isSubject_2 : decode cX5_isSubject 2 = .ok (.lconst 0, 1) := by decide +kernel
theorem dX5_isSubject_3 : decode cX5_isSubject 3 = .ok (.ldc2_w 120, 3) := by decide +kernel
theorem dX5_isSubject_6 : decode cX5_isSubject 6 = .ok (.invokestatic 65, 3) := by decide +kernel
theorem dX5_isSubject_9 : decode cX5_isSubject 9 = .ok (.ireturn, 1) := by decide +kernel
theorem dX5_groundAt_0 : decode cX5_groundAt 0 = .ok (.iconst 0, 1) := by decide +kernel
theorem dX5_groundAt_1 : decode cX5_groundAt 1 = .ok (.istore_n 2, 1) := by decide +kernel
theorem dX5_groundAt_2 : decode cX5_groundAt 2 = .ok (.iload_n 2, 1) := by decide +kernel
theorem dX5_groundAt_3 : decode cX5_groundAt 3 = .ok (.aload_n 0, 1) := by decide +kernel
theorem dX5_groundAt_4 : decode cX5_groundAt 4 = .ok (.getfield 111, 3) := by decide +kernel
theorem dX5_groundAt_7 : decode cX5_groundAt 7 = .ok (.if_icmp .ge 32, 3) := by decide +kernel
theorem dX5_groundAt_10 : decode cX5_groundAt 10 = .ok (.aload_n 0, 1) := by decide +kernel
theorem dX5_groundAt_11 : decode cX5_groundAt 11 = .ok (.getfield 40, 3) := by decide +kernel
theorem dX5_groundAt_14 : decode cX5_groundAt 14 = .ok (.iload_n 2, 1) := by decide +kernel
theorem dX5_groundAt_15 : decode cX5_groundAt 15 = .ok (.invokestatic 80, 3) := by decide +kernel
theorem dX5_groundAt_18 : decode cX5_groundAt 18 = .ok (.ifCond .eq 15, 3) := by decide +kernel
theorem dX5_groundAt_21 : decode cX5_groundAt 21 = .ok (.aload_n 0, 1) := by decide +kernel
theorem dX5_groundAt_22 : decode cX5_groundAt 22 = .ok (.getfield 13, 3) := by decide +kernel
theorem dX5_groundAt_25 : decode cX5_groundAt 25 = .ok (.iload_n 2, 1) := by decide +kernel
theorem dX5_groundAt_26 : decode cX5_groundAt 26 = .ok (.iaload, 1) := by decide +kernel
theorem dX5_groundAt_27 : decode cX5_groundAt 27 = .ok (.iload_n 1, 1) := by decide +kernel
theorem dX5_groundAt_28 : decode cX5_groundAt 28 = .ok (.if_icmp .ne 5, 3) := by decide +kernel
theorem dX5_groundAt_31 : decode cX5_groundAt 31 = .ok (.iload_n 2, 1) := by decide +kernel
theorem dX5_groundAt_32 : decode cX5_groundAt 32 = .ok (.ireturn, 1) := by decide +kernel
theorem dX5_groundAt_33 : decode cX5_groundAt 33 = .ok (.iinc 2 1, 3) := by decide +kernel
theorem dX5_groundAt_36 : decode cX5_groundAt 36 = .ok (.goto (-34), 3) := by decide +kernel
theorem dX5_groundAt_39 : decode cX5_groundAt 39 = .ok (.bipush (-9), 2) := by decide +kernel
theorem dX5_groundAt_41 : decode cX5_groundAt 41 = .ok (.ireturn, 1) := by decide +kernel
theorem dX5_wayOf_0 : decode cX5_wayOf 0 = .ok (.aload_n 0, 1) := by decide +kernel
theorem dX5_wayOf_1 : decode cX5_wayOf 1 = .ok (.getfield 108, 3) := by decide +kernel
theorem dX5_wayOf_4 : decode cX5_wayOf 4 = .ok (.ifCond .ne 7, 3) := by decide +kernel
theorem dX5_wayOf_7 : decode cX5_wayOf 7 = .ok (.iconst 4, 1) := by decide +kernel
theorem dX5_wayOf_8 : decode cX5_wayOf 8 = .ok (.goto 14, 3) := by decide +kernel
theorem dX5_wayOf_11 : decode cX5_wayOf 11 = .ok (.aload_n 0, 1) := by decide +kernel
theorem dX5_wayOf_12 : decode cX5_wayOf 12 = .ok (.getfield 7, 3) := by decide +kernel
theorem dX5_wayOf_15 : decode cX5_wayOf 15 = .ok (.iload_n 1, 1) := by decide +kernel
theorem dX5_wayOf_16 : decode cX5_wayOf 16 = .ok (.aload_n 0, 1) := by decide +kernel
theorem dX5_wayOf_17 : decode cX5_wayOf 17 = .ok (.getfield 108, 3) := by decide +kernel
theorem dX5_wayOf_20 : decode cX5_wayOf 20 = .ok (.irem, 1) := by decide +kernel
theorem dX5_wayOf_21 : decode cX5_wayOf 21 = .ok (.iaload, 1) := by decide +kernel
theorem dX5_wayOf_22 : decode cX5_wayOf 22 = .ok (.ireturn, 1) := by decide +kernel
theorem dX5_onward_0 : decode cX5_onward 0 = .ok (.iload_n 1, 1) := by decide +kernel
theorem dX5_onward_1 : decode cX5_onward 1 = .ok (.tableswitch 87 0 3 #[31, 45, 60, 73], 31) := by decide +kernel
theorem dX5_onward_32 : decode cX5_onward 32 = .ok (.iload_n 0, 1) := by decide +kernel
theorem dX5_onward_33 : decode cX5_onward 33 = .ok (.iconst 4, 1) := by decide +kernel
theorem dX5_onward_34 : decode cX5_onward 34 = .ok (.irem, 1) := by decide +kernel
theorem dX5_onward_35 : decode cX5_onward 35 = .ok (.ifCond .le 9, 3) := by decide +kernel
theorem dX5_onward_38 : decode cX5_onward 38 = .ok (.iload_n 0, 1) := by decide +kernel
theorem dX5_onward_39 : decode cX5_onward 39 = .ok (.iconst 1, 1) := by decide +kernel
theorem dX5_onward_40 : decode cX5_onward 40 = .ok (.isub, 1) := by decide +kernel
theorem dX5_onward_41 : decode cX5_onward 41 = .ok (.goto 4, 3) := by decide +kernel
theorem dX5_onward_44 : decode cX5_onward 44 = .ok (.iload_n 0, 1) := by decide +kernel
theorem dX5_onward_45 : decode cX5_onward 45 = .ok (.ireturn, 1) := by decide +kernel
theorem dX5_onward_46 : decode cX5_onward 46 = .ok (.iload_n 0, 1) := by decide +kernel
theorem dX5_onward_47 : decode cX5_onward 47 = .ok (.iconst 4, 1) := by decide +kernel
theorem dX5_onward_48 : decode cX5_onward 48 = .ok (.irem, 1) := by decide +kernel
theorem dX5_onward_49 : decode cX5_onward 49 = .ok (.iconst 3, 1) := by decide +kernel
theorem dX5_onward_50 : decode cX5_onward 50 = .ok (.if_icmp .ge 9, 3) := by decide +kernel
theorem dX5_onward_53 : decode cX5_onward 53 = .ok (.iload_n 0, 1) := by decide +kernel
theorem dX5_onward_54 : decode cX5_onward 54 = .ok (.iconst 1, 1) := by decide +kernel
theorem dX5_onward_55 : decode cX5_onward 55 = .ok (.iadd, 1) := by decide +kernel
theorem dX5_onward_56 : decode cX5_onward 56 = .ok (.goto 4, 3) := by decide +kernel
theorem dX5_onward_59 : decode cX5_onward 59 = .ok (.iload_n 0, 1) := by decide +kernel
theorem dX5_onward_60 : decode cX5_onward 60 = .ok (.ireturn, 1) := by decide +kernel
theorem dX5_onward_61 : decode cX5_onward 61 = .ok (.iload_n 0, 1) := by decide +kernel
theorem dX5_onward_62 : decode cX5_onward 62 = .ok (.iconst 3, 1) := by decide +kernel
theorem dX5_onward_63 : decode cX5_onward 63 = .ok (.if_icmp .le 9, 3) := by decide +kernel
theorem dX5_onward_66 : decode cX5_onward 66 = .ok (.iload_n 0, 1) := by decide +kernel
theorem dX5_onward_67 : decode cX5_onward 67 = .ok (.iconst 4, 1) := by decide +kernel
theorem dX5_onward_68 : decode cX5_onward 68 = .ok (.isub, 1) := by decide +kernel
theorem dX5_onward_69 : decode cX5_onward 69 = .ok (.goto 4, 3) := by decide +kernel
theorem dX5_onward_72 : decode cX5_onward 72 = .ok (.iload_n 0, 1) := by decide +kernel
theorem dX5_onward_73 : decode cX5_onward 73 = .ok (.ireturn, 1) := by decide +kernel
theorem dX5_onward_74 : decode cX5_onward 74 = .ok (.iload_n 0, 1) := by decide +kernel
theorem dX5_onward_75 : decode cX5_onward 75 = .ok (.bipush 8, 2) := by decide +kernel
theorem dX5_onward_77 : decode cX5_onward 77 = .ok (.if_icmp .ge 9, 3) := by decide +kernel
theorem dX5_onward_80 : decode cX5_onward 80 = .ok (.iload_n 0, 1) := by decide +kernel
theorem dX5_onward_81 : decode cX5_onward 81 = .ok (.iconst 4, 1) := by decide +kernel
theorem dX5_onward_82 : decode cX5_onward 82 = .ok (.iadd, 1) := by decide +kernel
theorem dX5_onward_83 : decode cX5_onward 83 = .ok (.goto 4, 3) := by decide +kernel
theorem dX5_onward_86 : decode cX5_onward 86 = .ok (.iload_n 0, 1) := by decide +kernel
theorem dX5_onward_87 : decode cX5_onward 87 = .ok (.ireturn, 1) := by decide +kernel
theorem dX5_onward_88 : decode cX5_onward 88 = .ok (.iload_n 0, 1) := by decide +kernel
theorem dX5_onward_89 : decode cX5_onward 89 = .ok (.ireturn, 1) := by decide +kernel
theorem dX5_taught_0 : decode cX5_taught 0 = .ok (.iload_n 0, 1) := by decide +kernel
theorem dX5_taught_1 : decode cX5_taught 1 = .ok (.iconst 1, 1) := by decide +kernel
theorem dX5_taught_2 : decode cX5_taught 2 = .ok (.if_icmp .ne 7, 3) := by decide +kernel
theorem dX5_taught_5 : decode cX5_taught 5 = .ok (.iconst 0, 1) := by decide +kernel
theorem dX5_taught_6 : decode cX5_taught 6 = .ok (.goto 22, 3) := by decide +kernel
theorem dX5_taught_9 : decode cX5_taught 9 = .ok (.iload_n 0, 1) := by decide +kernel
theorem dX5_taught_10 : decode cX5_taught 10 = .ok (.iconst 2, 1) := by decide +kernel
theorem dX5_taught_11 : decode cX5_taught 11 = .ok (.if_icmp .ne 7, 3) := by decide +kernel
theorem dX5_taught_14 : decode cX5_taught 14 = .ok (.iconst 0, 1) := by decide +kernel
theorem dX5_taught_15 : decode cX5_taught 15 = .ok (.goto 13, 3) := by decide +kernel
theorem dX5_taught_18 : decode cX5_taught 18 = .ok (.iload_n 0, 1) := by decide +kernel
theorem dX5_taught_19 : decode cX5_taught 19 = .ok (.iconst 3, 1) := by decide +kernel
theorem dX5_taught_20 : decode cX5_taught 20 = .ok (.if_icmp .ne 7, 3) := by decide +kernel
theorem dX5_taught_23 : decode cX5_taught 23 = .ok (.iconst (-1), 1) := by decide +kernel
theorem dX5_taught_24 : decode cX5_taught 24 = .ok (.goto 4, 3) := by decide +kernel
theorem dX5_taught_27 : decode cX5_taught 27 = .ok (.iconst 1, 1) := by decide +kernel
theorem dX5_taught_28 : decode cX5_taught 28 = .ok (.istore_n 3, 1) := by decide +kernel
theorem dX5_taught_29 : decode cX5_taught 29 = .ok (.iload_n 0, 1) := by decide +kernel
theorem dX5_taught_30 : decode cX5_taught 30 = .ok (.iconst 1, 1) := by decide +kernel
theorem dX5_taught_31 : decode cX5_taught 31 = .ok (.if_icmp .ne 11, 3) := by decide +kernel
theorem dX5_taught_34 : decode cX5_taught 34 = .ok (.iload_n 1, 1) := by decide +kernel
theorem dX5_taught_35 : decode cX5_taught 35 = .ok (.ifCond .ne 7, 3) := by decide +kernel
theorem dX5_taught_38 : decode cX5_taught 38 = .ok (.iconst 3, 1) := by decide +kernel
theorem dX5_taught_39 : decode cX5_taught 39 = .ok (.goto 4, 3) := by decide +kernel
theorem dX5_taught_42 : decode cX5_taught 42 = .ok (.iload_n 3, 1) := by decide +kernel
theorem dX5_taught_43 : decode cX5_taught 43 = .ok (.istore_n 3, 1) := by decide +kernel
theorem dX5_taught_44 : decode cX5_taught 44 = .ok (.iload_n 0, 1) := by decide +kernel
theorem dX5_taught_45 : decode cX5_taught 45 = .ok (.iconst 2, 1) := by decide +kernel
theorem dX5_taught_46 : decode cX5_taught 46 = .ok (.if_icmp .ne 12, 3) := by decide +kernel
theorem dX5_taught_49 : decode cX5_taught 49 = .ok (.iload_n 1, 1) := by decide +kernel
theorem dX5_taught_50 : decode cX5_taught 50 = .ok (.iconst 2, 1) := by decide +kernel
theorem dX5_taught_51 : decode cX5_taught 51 = .ok (.if_icmp .le 7, 3) := by decide +kernel
theorem dX5_taught_54 : decode cX5_taught 54 = .ok (.iconst 2, 1) := by decide +kernel
theorem dX5_taught_55 : decode cX5_taught 55 = .ok (.goto 4, 3) := by decide +kernel
theorem dX5_taught_58 : decode cX5_taught 58 = .ok (.iload_n 3, 1) := by decide +kernel
theorem dX5_taught_59 : decode cX5_taught 59 = .ok (.istore_n 3, 1) := by decide +kernel
theorem dX5_taught_60 : decode cX5_taught 60 = .ok (.iload_n 1, 1) := by decide +kernel
theorem dX5_taught_61 : decode cX5_taught 61 = .ok (.iload_n 3, 1) := by decide +kernel
theorem dX5_taught_62 : decode cX5_taught 62 = .ok (.iadd, 1) := by decide +kernel
theorem dX5_taught_63 : decode cX5_taught 63 = .ok (.iload_n 2, 1) := by decide +kernel
theorem dX5_taught_64 : decode cX5_taught 64 = .ok (.ifCond .eq 11, 3) := by decide +kernel
theorem dX5_taught_67 : decode cX5_taught 67 = .ok (.iload_n 3, 1) := by decide +kernel
theorem dX5_taught_68 : decode cX5_taught 68 = .ok (.ifCond .le 7, 3) := by decide +kernel
theorem dX5_taught_71 : decode cX5_taught 71 = .ok (.iconst 1, 1) := by decide +kernel
theorem dX5_taught_72 : decode cX5_taught 72 = .ok (.goto 4, 3) := by decide +kernel
theorem dX5_taught_75 : decode cX5_taught 75 = .ok (.iconst 0, 1) := by decide +kernel
theorem dX5_taught_76 : decode cX5_taught 76 = .ok (.iadd, 1) := by decide +kernel
theorem dX5_taught_77 : decode cX5_taught 77 = .ok (.istore 4, 2) := by decide +kernel
theorem dX5_taught_79 : decode cX5_taught 79 = .ok (.iload 4, 2) := by decide +kernel
theorem dX5_taught_81 : decode cX5_taught 81 = .ok (.ifCond .ge 7, 3) := by decide +kernel
theorem dX5_taught_84 : decode cX5_taught 84 = .ok (.iconst 0, 1) := by decide +kernel
theorem dX5_taught_85 : decode cX5_taught 85 = .ok (.goto 17, 3) := by decide +kernel
theorem dX5_taught_88 : decode cX5_taught 88 = .ok (.iload 4, 2) := by decide +kernel
theorem dX5_taught_90 : decode cX5_taught 90 = .ok (.bipush 9, 2) := by decide +kernel
theorem dX5_taught_92 : decode cX5_taught 92 = .ok (.if_icmp .le 8, 3) := by decide +kernel
theorem dX5_taught_95 : decode cX5_taught 95 = .ok (.bipush 9, 2) := by decide +kernel
theorem dX5_taught_97 : decode cX5_taught 97 = .ok (.goto 5, 3) := by decide +kernel
theorem dX5_taught_100 : decode cX5_taught 100 = .ok (.iload 4, 2) := by decide +kernel
theorem dX5_taught_102 : decode cX5_taught 102 = .ok (.ireturn, 1) := by decide +kernel
theorem dX5_together_0 : decode cX5_together 0 = .ok (.iconst 0, 1) := by decide +kernel
theorem dX5_together_1 : decode cX5_together 1 = .ok (.istore_n 3, 1) := by decide +kernel
theorem dX5_together_2 : decode cX5_together 2 = .ok (.iconst 0, 1) := by decide +kernel
theorem dX5_together_3 : decode cX5_together 3 = .ok (.istore 4, 2) := by decide +kernel
theorem dX5_together_5 : decode cX5_together 5 = .ok (.iload 4, 2) := by decide +kernel
theorem dX5_together_7 : decode cX5_together 7 = .ok (.aload_n 0, 1) := by decide +kernel
theorem dX5_together_8 : decode cX5_together 8 = .ok (.getfield 114, 3) := by decide +kernel
theorem dX5_together_11 : decode cX5_together 11 = .ok (.if_icmp .ge 33, 3) := by decide +kernel
theorem dX5_together_14 : decode cX5_together 14 = .ok (.iload_n 3, 1) := by decide +kernel
theorem dX5_together_15 : decode cX5_together 15 = .ok (.aload_n 0, 1) := by decide +kernel
theorem dX5_together_16 : decode cX5_together 16 = .ok (.getfield 25, 3) := by decide +kernel
theorem dX5_together_19 : decode cX5_together 19 = .ok (.bipush 32, 2) := by decide +kernel
theorem dX5_together_21 : decode cX5_together 21 = .ok (.iload_n 1, 1) := by decide +kernel
theorem dX5_together_22 : decode cX5_together 22 = .ok (.imul, 1) := by decide +kernel
theorem dX5_together_23 : decode cX5_together 23 = .ok (.iload 4, 2) := by decide +kernel
theorem dX5_together_25 : decode cX5_together 25 = .ok (.iadd, 1) := by decide +kernel
theorem dX5_together_26 : decode cX5_together 26 = .ok (.iaload, 1) := by decide +kernel
theorem dX5_together_27 : decode cX5_together 27 = .ok (.iload_n 2, 1) := by decide +kernel
theorem dX5_together_28 : decode cX5_together 28 = .ok (.if_icmp .ne 7, 3) := by decide +kernel
theorem dX5_together_31 : decode cX5_together 31 = .ok (.iconst 1, 1) := by decide +kernel
theorem dX5_together_32 : decode cX5_together 32 = .ok (.goto 4, 3) := by decide +kernel
theorem dX5_together_35 : decode cX5_together 35 = .ok (.iconst 0, 1) := by decide +kernel
theorem dX5_together_36 : decode cX5_together 36 = .ok (.iadd, 1) := by decide +kernel
theorem dX5_together_37 : decode cX5_together 37 = .ok (.istore_n 3, 1) := by decide +kernel
theorem dX5_together_38 : decode cX5_together 38 = .ok (.iinc 4 1, 3) := by decide +kernel
theorem dX5_together_41 : decode cX5_together 41 = .ok (.goto (-36), 3) := by decide +kernel
theorem dX5_together_44 : decode cX5_together 44 = .ok (.iload_n 3, 1) := by decide +kernel
theorem dX5_together_45 : decode cX5_together 45 = .ok (.ireturn, 1) := by decide +kernel
theorem dX5_learn_0 : decode cX5_learn 0 = .ok (.bipush 32, 2) := by decide +kernel
theorem dX5_learn_2 : decode cX5_learn 2 = .ok (.iload_n 1, 1) := by decide +kernel
theorem dX5_learn_3 : decode cX5_learn 3 = .ok (.imul, 1) := by decide +kernel
theorem dX5_learn_4 : decode cX5_learn 4 = .ok (.istore_n 3, 1) := by decide +kernel
theorem dX5_learn_5 : decode cX5_learn 5 = .ok (.aload_n 0, 1) := by decide +kernel
theorem dX5_learn_6 : decode cX5_learn 6 = .ok (.aload_n 0, 1) := by decide +kernel
theorem dX5_learn_7 : decode cX5_learn 7 = .ok (.getfield 25, 3) := by decide +kernel
theorem dX5_learn_10 : decode cX5_learn 10 = .ok (.iload_n 3, 1) := by decide +kernel
theorem dX5_learn_11 : decode cX5_learn 11 = .ok (.iload_n 2, 1) := by decide +kernel
theorem dX5_learn_12 : decode cX5_learn 12 = .ok (.iadd, 1) := by decide +kernel
theorem dX5_learn_13 : decode cX5_learn 13 = .ok (.iaload, 1) := by decide +kernel
theorem dX5_learn_14 : decode cX5_learn 14 = .ok (.invokevirtual 122, 3) := by decide +kernel
theorem dX5_learn_17 : decode cX5_learn 17 = .ok (.istore 4, 2) := by decide +kernel
theorem dX5_learn_19 : decode cX5_learn 19 = .ok (.iload 4, 2) := by decide +kernel
theorem dX5_learn_21 : decode cX5_learn 21 = .ok (.bipush (-9), 2) := by decide +kernel
theorem dX5_learn_23 : decode cX5_learn 23 = .ok (.if_icmp .eq 59, 3) := by decide +kernel
theorem dX5_learn_26 : decode cX5_learn 26 = .ok (.aload_n 0, 1) := by decide +kernel
theorem dX5_learn_27 : decode cX5_learn 27 = .ok (.getfield 22, 3) := by decide +kernel
theorem dX5_learn_30 : decode cX5_learn 30 = .ok (.iload_n 2, 1) := by decide +kernel
theorem dX5_learn_31 : decode cX5_learn 31 = .ok (.iaload, 1) := by decide +kernel
theorem dX5_learn_32 : decode cX5_learn 32 = .ok (.iconst 2, 1) := by decide +kernel
theorem dX5_learn_33 : decode cX5_learn 33 = .ok (.if_icmp .ne 18, 3) := by decide +kernel
theorem dX5_learn_36 : decode cX5_learn 36 = .ok (.aload_n 0, 1) := by decide +kernel
theorem dX5_learn_37 : decode cX5_learn 37 = .ok (.getfield 25, 3) := by decide +kernel
theorem dX5_learn_40 : decode cX5_learn 40 = .ok (.iload_n 3, 1) := by decide +kernel
theorem dX5_learn_41 : decode cX5_learn 41 = .ok (.bipush 31, 2) := by decide +kernel
theorem dX5_learn_43 : decode cX5_learn 43 = .ok (.iadd, 1) := by decide +kernel
theorem dX5_learn_44 : decode cX5_learn 44 = .ok (.iaload, 1) := by decide +kernel
theorem dX5_learn_45 : decode cX5_learn 45 = .ok (.iconst 2, 1) := by decide +kernel
theorem dX5_learn_46 : decode cX5_learn 46 = .ok (.irem, 1) := by decide +kernel
theorem dX5_learn_47 : decode cX5_learn 47 = .ok (.iconst 1, 1) := by decide +kernel
theorem dX5_learn_48 : decode cX5_learn 48 = .ok (.if_icmp .ne 34, 3) := by decide +kernel
theorem dX5_learn_51 : decode cX5_learn 51 = .ok (.aload_n 0, 1) := by decide +kernel
theorem dX5_learn_52 : decode cX5_learn 52 = .ok (.getfield 22, 3) := by decide +kernel
theorem dX5_learn_55 : decode cX5_learn 55 = .ok (.iload_n 2, 1) := by decide +kernel
theorem dX5_learn_56 : decode cX5_learn 56 = .ok (.iaload, 1) := by decide +kernel
theorem dX5_learn_57 : decode cX5_learn 57 = .ok (.iconst 3, 1) := by decide +kernel
theorem dX5_learn_58 : decode cX5_learn 58 = .ok (.if_icmp .ne 20, 3) := by decide +kernel
theorem dX5_learn_61 : decode cX5_learn 61 = .ok (.aload_n 0, 1) := by decide +kernel
theorem dX5_learn_62 : decode cX5_learn 62 = .ok (.iload_n 1, 1) := by decide +kernel
theorem dX5_learn_63 : decode cX5_learn 63 = .ok (.aload_n 0, 1) := by decide +kernel
theorem dX5_learn_64 : decode cX5_learn 64 = .ok (.getfield 25, 3) := by decide +kernel
theorem dX5_learn_67 : decode cX5_learn 67 = .ok (.iload_n 3, 1) := by decide +kernel
theorem dX5_learn_68 : decode cX5_learn 68 = .ok (.iload_n 2, 1) := by decide +kernel
theorem dX5_learn_69 : decode cX5_learn 69 = .ok (.iadd, 1) := by decide +kernel
theorem dX5_learn_70 : decode cX5_learn 70 = .ok (.iaload, 1) := by decide +kernel
theorem dX5_learn_71 : decode cX5_learn 71 = .ok (.invokevirtual 126, 3) := by decide +kernel
theorem dX5_learn_74 : decode cX5_learn 74 = .ok (.iconst 1, 1) := by decide +kernel
theorem dX5_learn_75 : decode cX5_learn 75 = .ok (.if_icmp .ne 7, 3) := by decide +kernel
theorem dX5_learn_78 : decode cX5_learn 78 = .ok (.iconst 1, 1) := by decide +kernel
theorem dX5_learn_79 : decode cX5_learn 79 = .ok (.goto 4, 3) := by decide +kernel
theorem dX5_learn_82 : decode cX5_learn 82 = .ok (.iconst 0, 1) := by decide +kernel
theorem dX5_learn_83 : decode cX5_learn 83 = .ok (.istore 5, 2) := by decide +kernel
theorem dX5_learn_85 : decode cX5_learn 85 = .ok (.iload 5, 2) := by decide +kernel
theorem dX5_learn_87 : decode cX5_learn 87 = .ok (.ifCond .eq 60, 3) := by decide +kernel
theorem dX5_learn_90 : decode cX5_learn 90 = .ok (.iload_n 3, 1) := by decide +kernel
theorem dX5_learn_91 : decode cX5_learn 91 = .ok (.bipush 6, 2) := by decide +kernel
theorem dX5_learn_93 : decode cX5_learn 93 = .ok (.iadd, 1) := by decide +kernel
theorem dX5_learn_94 : decode cX5_learn 94 = .ok (.iconst 5, 1) := by decide +kernel
theorem dX5_learn_95 : decode cX5_learn 95 = .ok (.iload_n 2, 1) := by decide +kernel
theorem dX5_learn_96 : decode cX5_learn 96 = .ok (.imul, 1) := by decide +kernel
theorem dX5_learn_97 : decode cX5_learn 97 = .ok (.iadd, 1) := by decide +kernel
theorem dX5_learn_98 : decode cX5_learn 98 = .ok (.aload_n 0, 1) := by decide +kernel
theorem dX5_learn_99 : decode cX5_learn 99 = .ok (.getfield 16, 3) := by decide +kernel
theorem dX5_learn_102 : decode cX5_learn 102 = .ok (.iload 4, 2) := by decide +kernel
theorem dX5_learn_104 : decode cX5_learn 104 = .ok (.iaload, 1) := by decide +kernel
theorem dX5_learn_105 : decode cX5_learn 105 = .ok (.iadd, 1) := by decide +kernel
theorem dX5_learn_106 : decode cX5_learn 106 = .ok (.istore 6, 2) := by decide +kernel
theorem dX5_learn_108 : decode cX5_learn 108 = .ok (.aload_n 0, 1) := by decide +kernel
theorem dX5_learn_109 : decode cX5_learn 109 = .ok (.getfield 25, 3) := by decide +kernel
theorem dX5_learn_112 : decode cX5_learn 112 = .ok (.iload 6, 2) := by decide +kernel
theorem dX5_learn_114 : decode cX5_learn 114 = .ok (.aload_n 0, 1) := by decide +kernel
theorem dX5_learn_115 : decode cX5_learn 115 = .ok (.getfield 19, 3) := by decide +kernel
theorem dX5_learn_118 : decode cX5_learn 118 = .ok (.iload 4, 2) := by decide +kernel
theorem dX5_learn_120 : decode cX5_learn 120 = .ok (.iaload, 1) := by decide +kernel
theorem dX5_learn_121 : decode cX5_learn 121 = .ok (.aload_n 0, 1) := by decide +kernel
theorem dX5_learn_122 : decode cX5_learn 122 = .ok (.getfield 25, 3) := by decide +kernel
theorem dX5_learn_125 : decode cX5_learn 125 = .ok (.iload 6, 2) := by decide +kernel
theorem dX5_learn_127 : decode cX5_learn 127 = .ok (.iaload, 1) := by decide +kernel
theorem dX5_learn_128 : decode cX5_learn 128 = .ok (.aload_n 0, 1) := by decide +kernel
theorem dX5_learn_129 : decode cX5_learn 129 = .ok (.getfield 22, 3) := by decide +kernel
theorem dX5_learn_132 : decode cX5_learn 132 = .ok (.iload_n 2, 1) := by decide +kernel
theorem dX5_learn_133 : decode cX5_learn 133 = .ok (.iaload, 1) := by decide +kernel
theorem dX5_learn_134 : decode cX5_learn 134 = .ok (.iconst 1, 1) := by decide +kernel
theorem dX5_learn_135 : decode cX5_learn 135 = .ok (.if_icmp .ne 7, 3) := by decide +kernel
theorem dX5_learn_138 : decode cX5_learn 138 = .ok (.iconst 1, 1) := by decide +kernel
theorem dX5_learn_139 : decode cX5_learn 139 = .ok (.goto 4, 3) := by decide +kernel
theorem dX5_learn_142 : decode cX5_learn 142 = .ok (.iconst 0, 1) := by decide +kernel
theorem dX5_learn_143 : decode cX5_learn 143 = .ok (.invokestatic 129, 3) := by decide +kernel
theorem dX5_learn_146 : decode cX5_learn 146 = .ok (.iastore, 1) := by decide +kernel
theorem dX5_learn_147 : decode cX5_learn 147 = .ok (.return_, 1) := by decide +kernel
theorem dX5_passOn_0 : decode cX5_passOn 0 = .ok (.bipush 32, 2) := by decide +kernel
theorem dX5_passOn_2 : decode cX5_passOn 2 = .ok (.iload_n 1, 1) := by decide +kernel
theorem dX5_passOn_3 : decode cX5_passOn 3 = .ok (.imul, 1) := by decide +kernel
theorem dX5_passOn_4 : decode cX5_passOn 4 = .ok (.istore_n 3, 1) := by decide +kernel
theorem dX5_passOn_5 : decode cX5_passOn 5 = .ok (.iload_n 2, 1) := by decide +kernel
theorem dX5_passOn_6 : decode cX5_passOn 6 = .ok (.ifCond .eq 19, 3) := by decide +kernel
theorem dX5_passOn_9 : decode cX5_passOn 9 = .ok (.aload_n 0, 1) := by decide +kernel
theorem dX5_passOn_10 : decode cX5_passOn 10 = .ok (.aload_n 0, 1) := by decide +kernel
theorem dX5_passOn_11 : decode cX5_passOn 11 = .ok (.getfield 25, 3) := by decide +kernel
theorem dX5_passOn_14 : decode cX5_passOn 14 = .ok (.iload_n 3, 1) := by decide +kernel
theorem dX5_passOn_15 : decode cX5_passOn 15 = .ok (.bipush 31, 2) := by decide +kernel
theorem dX5_passOn_17 : decode cX5_passOn 17 = .ok (.iadd, 1) := by decide +kernel
theorem dX5_passOn_18 : decode cX5_passOn 18 = .ok (.iaload, 1) := by decide +kernel
theorem dX5_passOn_19 : decode cX5_passOn 19 = .ok (.invokevirtual 133, 3) := by decide +kernel
theorem dX5_passOn_22 : decode cX5_passOn 22 = .ok (.goto 4, 3) := by decide +kernel
theorem dX5_passOn_25 : decode cX5_passOn 25 = .ok (.iconst 4, 1) := by decide +kernel
theorem dX5_passOn_26 : decode cX5_passOn 26 = .ok (.istore 4, 2) := by decide +kernel
theorem dX5_passOn_28 : decode cX5_passOn 28 = .ok (.iconst 0, 1) := by decide +kernel
theorem dX5_passOn_29 : decode cX5_passOn 29 = .ok (.istore 5, 2) := by decide +kernel
theorem dX5_passOn_31 : decode cX5_passOn 31 = .ok (.iload 5, 2) := by decide +kernel
theorem dX5_passOn_33 : decode cX5_passOn 33 = .ok (.aload_n 0, 1) := by decide +kernel
theorem dX5_passOn_34 : decode cX5_passOn 34 = .ok (.getfield 114, 3) := by decide +kernel
theorem dX5_passOn_37 : decode cX5_passOn 37 = .ok (.if_icmp .ge 60, 3) := by decide +kernel
theorem dX5_passOn_40 : decode cX5_passOn 40 = .ok (.aload_n 0, 1) := by decide +kernel
theorem dX5_passOn_41 : decode cX5_passOn 41 = .ok (.getfield 25, 3) := by decide +kernel
theorem dX5_passOn_44 : decode cX5_passOn 44 = .ok (.iload_n 3, 1) := by decide +kernel
theorem dX5_passOn_45 : decode cX5_passOn 45 = .ok (.iload 5, 2) := by decide +kernel
theorem dX5_passOn_47 : decode cX5_passOn 47 = .ok (.iadd, 1) := by decide +kernel
theorem dX5_passOn_48 : decode cX5_passOn 48 = .ok (.aload_n 0, 1) := by decide +kernel
theorem dX5_passOn_49 : decode cX5_passOn 49 = .ok (.getfield 25, 3) := by decide +kernel
theorem dX5_passOn_52 : decode cX5_passOn 52 = .ok (.iload_n 3, 1) := by decide +kernel
theorem dX5_passOn_53 : decode cX5_passOn 53 = .ok (.iconst 5, 1) := by decide +kernel
theorem dX5_passOn_54 : decode cX5_passOn 54 = .ok (.iadd, 1) := by decide +kernel
theorem dX5_passOn_55 : decode cX5_passOn 55 = .ok (.iaload, 1) := by decide +kernel
theorem dX5_passOn_56 : decode cX5_passOn 56 = .ok (.iload 5, 2) := by decide +kernel
theorem dX5_passOn_58 : decode cX5_passOn 58 = .ok (.invokestatic 80, 3) := by decide +kernel
theorem dX5_passOn_61 : decode cX5_passOn 61 = .ok (.ifCond .eq 15, 3) := by decide +kernel
theorem dX5_passOn_64 : decode cX5_passOn 64 = .ok (.aload_n 0, 1) := by decide +kernel
theorem dX5_passOn_65 : decode cX5_passOn 65 = .ok (.getfield 25, 3) := by decide +kernel
theorem dX5_passOn_68 : decode cX5_passOn 68 = .ok (.iload_n 3, 1) := by decide +kernel
theorem dX5_passOn_69 : decode cX5_passOn 69 = .ok (.iload 5, 2) := by decide +kernel
theorem dX5_passOn_71 : decode cX5_passOn 71 = .ok (.iadd, 1) := by decide +kernel
theorem dX5_passOn_72 : decode cX5_passOn 72 = .ok (.iaload, 1) := by decide +kernel
theorem dX5_passOn_73 : decode cX5_passOn 73 = .ok (.goto 17, 3) := by decide +kernel
theorem dX5_passOn_76 : decode cX5_passOn 76 = .ok (.aload_n 0, 1) := by decide +kernel
theorem dX5_passOn_77 : decode cX5_passOn 77 = .ok (.getfield 25, 3) := by decide +kernel
theorem dX5_passOn_80 : decode cX5_passOn 80 = .ok (.iload_n 3, 1) := by decide +kernel
theorem dX5_passOn_81 : decode cX5_passOn 81 = .ok (.iload 5, 2) := by decide +kernel
theorem dX5_passOn_83 : decode cX5_passOn 83 = .ok (.iadd, 1) := by decide +kernel
theorem dX5_passOn_84 : decode cX5_passOn 84 = .ok (.iaload, 1) := by decide +kernel
theorem dX5_passOn_85 : decode cX5_passOn 85 = .ok (.iload 4, 2) := by decide +kernel
theorem dX5_passOn_87 : decode cX5_passOn 87 = .ok (.invokestatic 136, 3) := by decide +kernel
theorem dX5_passOn_90 : decode cX5_passOn 90 = .ok (.iastore, 1) := by decide +kernel
theorem dX5_passOn_91 : decode cX5_passOn 91 = .ok (.iinc 5 1, 3) := by decide +kernel
theorem dX5_passOn_94 : decode cX5_passOn 94 = .ok (.goto (-63), 3) := by decide +kernel
theorem dX5_passOn_97 : decode cX5_passOn 97 = .ok (.iconst 0, 1) := by decide +kernel
theorem dX5_passOn_98 : decode cX5_passOn 98 = .ok (.istore 5, 2) := by decide +kernel
theorem dX5_passOn_100 : decode cX5_passOn 100 = .ok (.iload 5, 2) := by decide +kernel
theorem dX5_passOn_102 : decode cX5_passOn 102 = .ok (.aload_n 0, 1) := by decide +kernel
theorem dX5_passOn_103 : decode cX5_passOn 103 = .ok (.getfield 114, 3) := by decide +kernel
theorem dX5_passOn_106 : decode cX5_passOn 106 = .ok (.if_icmp .ge 16, 3) := by decide +kernel
theorem dX5_passOn_109 : decode cX5_passOn 109 = .ok (.aload_n 0, 1) := by decide +kernel
theorem dX5_passOn_110 : decode cX5_passOn 110 = .ok (.iload_n 1, 1) := by decide +kernel
theorem dX5_passOn_111 : decode cX5_passOn 111 = .ok (.iload 5, 2) := by decide +kernel
theorem dX5_passOn_113 : decode cX5_passOn 113 = .ok (.invokevirtual 139, 3) := by decide +kernel
theorem dX5_passOn_116 : decode cX5_passOn 116 = .ok (.iinc 5 1, 3) := by decide +kernel
theorem dX5_passOn_119 : decode cX5_passOn 119 = .ok (.goto (-19), 3) := by decide +kernel
theorem dX5_passOn_122 : decode cX5_passOn 122 = .ok (.aload_n 0, 1) := by decide +kernel
theorem dX5_passOn_123 : decode cX5_passOn 123 = .ok (.getfield 25, 3) := by decide +kernel
theorem dX5_passOn_126 : decode cX5_passOn 126 = .ok (.iload_n 3, 1) := by decide +kernel
theorem dX5_passOn_127 : decode cX5_passOn 127 = .ok (.bipush 31, 2) := by decide +kernel
theorem dX5_passOn_129 : decode cX5_passOn 129 = .ok (.iadd, 1) := by decide +kernel
theorem dX5_passOn_130 : decode cX5_passOn 130 = .ok (.dup2, 1) := by decide +kernel
theorem dX5_passOn_131 : decode cX5_passOn 131 = .ok (.iaload, 1) := by decide +kernel
theorem dX5_passOn_132 : decode cX5_passOn 132 = .ok (.iconst 1, 1) := by decide +kernel
theorem dX5_passOn_133 : decode cX5_passOn 133 = .ok (.iadd, 1) := by decide +kernel
theorem dX5_passOn_134 : decode cX5_passOn 134 = .ok (.iastore, 1) := by decide +kernel
theorem dX5_passOn_135 : decode cX5_passOn 135 = .ok (.return_, 1) := by decide +kernel
theorem dX5_weightOn_0 : decode cX5_weightOn 0 = .ok (.iconst 0, 1) := by decide +kernel
theorem dX5_weightOn_1 : decode cX5_weightOn 1 = .ok (.istore_n 3, 1) := by decide +kernel
theorem dX5_weightOn_2 : decode cX5_weightOn 2 = .ok (.iconst 0, 1) := by decide +kernel
theorem dX5_weightOn_3 : decode cX5_weightOn 3 = .ok (.istore 4, 2) := by decide +kernel
theorem dX5_weightOn_5 : decode cX5_weightOn 5 = .ok (.iload 4, 2) := by decide +kernel
theorem dX5_weightOn_7 : decode cX5_weightOn 7 = .ok (.iconst 5, 1) := by decide +kernel
theorem dX5_weightOn_8 : decode cX5_weightOn 8 = .ok (.if_icmp .ge 31, 3) := by decide +kernel
theorem dX5_weightOn_11 : decode cX5_weightOn 11 = .ok (.iload_n 3, 1) := by decide +kernel
theorem dX5_weightOn_12 : decode cX5_weightOn 12 = .ok (.aload_n 0, 1) := by decide +kernel
theorem dX5_weightOn_13 : decode cX5_weightOn 13 = .ok (.getfield 25, 3) := by decide +kernel
theorem dX5_weightOn_16 : decode cX5_weightOn 16 = .ok (.bipush 32, 2) := by decide +kernel
theorem dX5_weightOn_18 : decode cX5_weightOn 18 = .ok (.iload_n 1, 1) := by decide +kernel
theorem dX5_weightOn_19 : decode cX5_weightOn 19 = .ok (.imul, 1) := by decide +kernel
theorem dX5_weightOn_20 : decode cX5_weightOn 20 = .ok (.bipush 6, 2) := by decide +kernel
theorem dX5_weightOn_22 : decode cX5_weightOn 22 = .ok (.iadd, 1) := by decide +kernel
theorem dX5_weightOn_23 : decode cX5_weightOn 23 = .ok (.iconst 5, 1) := by decide +kernel
theorem dX5_weightOn_24 : decode cX5_weightOn 24 = .ok (.iload_n 2, 1) := by decide +kernel
theorem dX5_weightOn_25 : decode cX5_weightOn 25 = .ok (.imul, 1) := by decide +kernel
theorem dX5_weightOn_26 : decode cX5_weightOn 26 = .ok (.iadd, 1) := by decide +kernel
theorem dX5_weightOn_27 : decode cX5_weightOn 27 = .ok (.iload 4, 2) := by decide +kernel
theorem dX5_weightOn_29 : decode cX5_weightOn 29 = .ok (.iadd, 1) := by decide +kernel
theorem dX5_weightOn_30 : decode cX5_weightOn 30 = .ok (.iaload, 1) := by decide +kernel
theorem dX5_weightOn_31 : decode cX5_weightOn 31 = .ok (.iadd, 1) := by decide +kernel
theorem dX5_weightOn_32 : decode cX5_weightOn 32 = .ok (.istore_n 3, 1) := by decide +kernel
theorem dX5_weightOn_33 : decode cX5_weightOn 33 = .ok (.iinc 4 1, 3) := by decide +kernel
theorem dX5_weightOn_36 : decode cX5_weightOn 36 = .ok (.goto (-31), 3) := by decide +kernel
theorem dX5_weightOn_39 : decode cX5_weightOn 39 = .ok (.iload_n 3, 1) := by decide +kernel
theorem dX5_weightOn_40 : decode cX5_weightOn 40 = .ok (.ireturn, 1) := by decide +kernel
theorem dX5_weightsOn_0 : decode cX5_weightsOn 0 = .ok (.iconst 0, 1) := by decide +kernel
theorem dX5_weightsOn_1 : decode cX5_weightsOn 1 = .ok (.istore_n 2, 1) := by decide +kernel
theorem dX5_weightsOn_2 : decode cX5_weightsOn 2 = .ok (.iconst 0, 1) := by decide +kernel
theorem dX5_weightsOn_3 : decode cX5_weightsOn 3 = .ok (.istore_n 3, 1) := by decide +kernel
theorem dX5_weightsOn_4 : decode cX5_weightsOn 4 = .ok (.iload_n 3, 1) := by decide +kernel
theorem dX5_weightsOn_5 : decode cX5_weightsOn 5 = .ok (.aload_n 0, 1) := by decide +kernel
theorem dX5_weightsOn_6 : decode cX5_weightsOn 6 = .ok (.getfield 114, 3) := by decide +kernel
theorem dX5_weightsOn_9 : decode cX5_weightsOn 9 = .ok (.if_icmp .ge 18, 3) := by decide +kernel
theorem dX5_weightsOn_12 : decode cX5_weightsOn 12 = .ok (.iload_n 2, 1) := by decide +kernel
theorem dX5_weightsOn_13 : decode cX5_weightsOn 13 = .ok (.aload_n 0, 1) := by decide +kernel
theorem dX5_weightsOn_14 : decode cX5_weightsOn 14 = .ok (.iload_n 1, 1) := by decide +kernel
theorem dX5_weightsOn_15 : decode cX5_weightsOn 15 = .ok (.iload_n 3, 1) := by decide +kernel
theorem dX5_weightsOn_16 : decode cX5_weightsOn 16 = .ok (.invokevirtual 143, 3) := by decide +kernel
theorem dX5_weightsOn_19 : decode cX5_weightsOn 19 = .ok (.iadd, 1) := by decide +kernel
theorem dX5_weightsOn_20 : decode cX5_weightsOn 20 = .ok (.istore_n 2, 1) := by decide +kernel
theorem dX5_weightsOn_21 : decode cX5_weightsOn 21 = .ok (.iinc 3 1, 3) := by decide +kernel
theorem dX5_weightsOn_24 : decode cX5_weightsOn 24 = .ok (.goto (-20), 3) := by decide +kernel
theorem dX5_weightsOn_27 : decode cX5_weightsOn 27 = .ok (.iload_n 2, 1) := by decide +kernel
theorem dX5_weightsOn_28 : decode cX5_weightsOn 28 = .ok (.ireturn, 1) := by decide +kernel
theorem dX5_childrenAt_0 : decode cX5_childrenAt 0 = .ok (.iconst 0, 1) := by decide +kernel
theorem dX5_childrenAt_1 : decode cX5_childrenAt 1 = .ok (.istore_n 2, 1) := by decide +kernel
theorem dX5_childrenAt_2 : decode cX5_childrenAt 2 = .ok (.iconst 0, 1) := by decide +kernel
theorem dX5_childrenAt_3 : decode cX5_childrenAt 3 = .ok (.istore_n 3, 1) := by decide +kernel
theorem dX5_childrenAt_4 : decode cX5_childrenAt 4 = .ok (.iload_n 3, 1) := by decide +kernel
theorem dX5_childrenAt_5 : decode cX5_childrenAt 5 = .ok (.aload_n 0, 1) := by decide +kernel
theorem dX5_childrenAt_6 : decode cX5_childrenAt 6 = .ok (.getfield 114, 3) := by decide +kernel
theorem dX5_childrenAt_9 : decode cX5_childrenAt 9 = .ok (.if_icmp .ge 29, 3) := by decide +kernel
theorem dX5_childrenAt_12 : decode cX5_childrenAt 12 = .ok (.iload_n 2, 1) := by decide +kernel
theorem dX5_childrenAt_13 : decode cX5_childrenAt 13 = .ok (.aload_n 0, 1) := by decide +kernel
theorem dX5_childrenAt_14 : decode cX5_childrenAt 14 = .ok (.getfield 25, 3) := by decide +kernel
theorem dX5_childrenAt_17 : decode cX5_childrenAt 17 = .ok (.iload_n 3, 1) := by decide +kernel
theorem dX5_childrenAt_18 : decode cX5_childrenAt 18 = .ok (.iaload, 1) := by decide +kernel
theorem dX5_childrenAt_19 : decode cX5_childrenAt 19 = .ok (.iload_n 1, 1) := by decide +kernel
theorem dX5_childrenAt_20 : decode cX5_childrenAt 20 = .ok (.if_icmp .ne 9, 3) := by decide +kernel
theorem dX5_childrenAt_23 : decode cX5_childrenAt 23 = .ok (.iconst 1, 1) := by decide +kernel
theorem dX5_childrenAt_24 : decode cX5_childrenAt 24 = .ok (.iload_n 3, 1) := by decide +kernel
theorem dX5_childrenAt_25 : decode cX5_childrenAt 25 = .ok (.ishl, 1) := by decide +kernel
theorem dX5_childrenAt_26 : decode cX5_childrenAt 26 = .ok (.goto 4, 3) := by decide +kernel
theorem dX5_childrenAt_29 : decode cX5_childrenAt 29 = .ok (.iconst 0, 1) := by decide +kernel
theorem dX5_childrenAt_30 : decode cX5_childrenAt 30 = .ok (.ior, 1) := by decide +kernel
theorem dX5_childrenAt_31 : decode cX5_childrenAt 31 = .ok (.istore_n 2, 1) := by decide +kernel
theorem dX5_childrenAt_32 : decode cX5_childrenAt 32 = .ok (.iinc 3 1, 3) := by decide +kernel
theorem dX5_childrenAt_35 : decode cX5_childrenAt 35 = .ok (.goto (-31), 3) := by decide +kernel
theorem dX5_childrenAt_38 : decode cX5_childrenAt 38 = .ok (.iload_n 2, 1) := by decide +kernel
theorem dX5_childrenAt_39 : decode cX5_childrenAt 39 = .ok (.ireturn, 1) := by decide +kernel
theorem dX5_ground_0 : decode cX5_ground 0 = .ok (.aload_n 0, 1) := by decide +kernel
theorem dX5_ground_1 : decode cX5_ground 1 = .ok (.iload_n 1, 1) := by decide +kernel
theorem dX5_ground_2 : decode cX5_ground 2 = .ok (.invokevirtual 146, 3) := by decide +kernel
theorem dX5_ground_5 : decode cX5_ground 5 = .ok (.ifCond .ne 5, 3) := by decide +kernel
theorem dX5_ground_8 : decode cX5_ground 8 = .ok (.iconst (-1), 1) := by decide +kernel
theorem dX5_ground_9 : decode cX5_ground 9 = .ok (.ireturn, 1) := by decide +kernel
theorem dX5_ground_10 : decode cX5_ground 10 = .ok (.iload_n 2, 1) := by decide +kernel
theorem dX5_ground_11 : decode cX5_ground 11 = .ok (.tableswitch 61 0 3 #[29, 36, 43, 50], 29) := by decide +kernel
theorem dX5_ground_40 : decode cX5_ground 40 = .ok (.aload_n 0, 1) := by decide +kernel
theorem dX5_ground_41 : decode cX5_ground 41 = .ok (.getfield 13, 3) := by decide +kernel
theorem dX5_ground_44 : decode cX5_ground 44 = .ok (.iload_n 1, 1) := by decide +kernel
theorem dX5_ground_45 : decode cX5_ground 45 = .ok (.iaload, 1) := by decide +kernel
theorem dX5_ground_46 : decode cX5_ground 46 = .ok (.ireturn, 1) := by decide +kernel
theorem dX5_ground_47 : decode cX5_ground 47 = .ok (.aload_n 0, 1) := by decide +kernel
theorem dX5_ground_48 : decode cX5_ground 48 = .ok (.getfield 16, 3) := by decide +kernel
theorem dX5_ground_51 : decode cX5_ground 51 = .ok (.iload_n 1, 1) := by decide +kernel
theorem dX5_ground_52 : decode cX5_ground 52 = .ok (.iaload, 1) := by decide +kernel
theorem dX5_ground_53 : decode cX5_ground 53 = .ok (.ireturn, 1) := by decide +kernel
theorem dX5_ground_54 : decode cX5_ground 54 = .ok (.aload_n 0, 1) := by decide +kernel
theorem dX5_ground_55 : decode cX5_ground 55 = .ok (.getfield 19, 3) := by decide +kernel
theorem dX5_ground_58 : decode cX5_ground 58 = .ok (.iload_n 1, 1) := by decide +kernel
theorem dX5_ground_59 : decode cX5_ground 59 = .ok (.iaload, 1) := by decide +kernel
theorem dX5_ground_60 : decode cX5_ground 60 = .ok (.ireturn, 1) := by decide +kernel
theorem dX5_ground_61 : decode cX5_ground 61 = .ok (.aload_n 0, 1) := by decide +kernel
theorem dX5_ground_62 : decode cX5_ground 62 = .ok (.aload_n 0, 1) := by decide +kernel
theorem dX5_ground_63 : decode cX5_ground 63 = .ok (.getfield 13, 3) := by decide +kernel
theorem dX5_ground_66 : decode cX5_ground 66 = .ok (.iload_n 1, 1) := by decide +kernel
theorem dX5_ground_67 : decode cX5_ground 67 = .ok (.iaload, 1) := by decide +kernel
theorem dX5_ground_68 : decode cX5_ground 68 = .ok (.invokevirtual 150, 3) := by decide +kernel
theorem dX5_ground_71 : decode cX5_ground 71 = .ok (.ireturn, 1) := by decide +kernel
theorem dX5_ground_72 : decode cX5_ground 72 = .ok (.bipush (-2), 2) := by decide +kernel
theorem dX5_ground_74 : decode cX5_ground 74 = .ok (.ireturn, 1) := by decide +kernel
theorem dX5_child_0 : decode cX5_child 0 = .ok (.aload_n 0, 1) := by decide +kernel
theorem dX5_child_1 : decode cX5_child 1 = .ok (.iload_n 1, 1) := by decide +kernel
theorem dX5_child_2 : decode cX5_child 2 = .ok (.invokevirtual 153, 3) := by decide +kernel
theorem dX5_child_5 : decode cX5_child 5 = .ok (.ifCond .ne 5, 3) := by decide +kernel
theorem dX5_child_8 : decode cX5_child 8 = .ok (.iconst (-1), 1) := by decide +kernel
theorem dX5_child_9 : decode cX5_child 9 = .ok (.ireturn, 1) := by decide +kernel
theorem dX5_child_10 : decode cX5_child 10 = .ok (.iload_n 2, 1) := by decide +kernel
theorem dX5_child_11 : decode cX5_child 11 = .ok (.tableswitch 76 0 4 #[33, 40, 47, 58, 65], 33) := by decide +kernel
theorem dX5_child_44 : decode cX5_child 44 = .ok (.aload_n 0, 1) := by decide +kernel
theorem dX5_child_45 : decode cX5_child 45 = .ok (.getfield 25, 3) := by decide +kernel
theorem dX5_child_48 : decode cX5_child 48 = .ok (.iload_n 1, 1) := by decide +kernel
theorem dX5_child_49 : decode cX5_child 49 = .ok (.iaload, 1) := by decide +kernel
theorem dX5_child_50 : decode cX5_child 50 = .ok (.ireturn, 1) := by decide +kernel
theorem dX5_child_51 : decode cX5_child 51 = .ok (.aload_n 0, 1) := by decide +kernel
theorem dX5_child_52 : decode cX5_child 52 = .ok (.getfield 22, 3) := by decide +kernel
theorem dX5_child_55 : decode cX5_child 55 = .ok (.iload_n 1, 1) := by decide +kernel
theorem dX5_child_56 : decode cX5_child 56 = .ok (.iaload, 1) := by decide +kernel
theorem dX5_child_57 : decode cX5_child 57 = .ok (.ireturn, 1) := by decide +kernel
theorem dX5_child_58 : decode cX5_child 58 = .ok (.aload_n 0, 1) := by decide +kernel
theorem dX5_child_59 : decode cX5_child 59 = .ok (.getfield 25, 3) := by decide +kernel
theorem dX5_child_62 : decode cX5_child 62 = .ok (.iconst 5, 1) := by decide +kernel
theorem dX5_child_63 : decode cX5_child 63 = .ok (.iaload, 1) := by decide +kernel
theorem dX5_child_64 : decode cX5_child 64 = .ok (.iload_n 1, 1) := by decide +kernel
theorem dX5_child_65 : decode cX5_child 65 = .ok (.ishr, 1) := by decide +kernel
theorem dX5_child_66 : decode cX5_child 66 = .ok (.iconst 1, 1) := by decide +kernel
theorem dX5_child_67 : decode cX5_child 67 = .ok (.iand, 1) := by decide +kernel
theorem dX5_child_68 : decode cX5_child 68 = .ok (.ireturn, 1) := by decide +kernel
theorem dX5_child_69 : decode cX5_child 69 = .ok (.aload_n 0, 1) := by decide +kernel
theorem dX5_child_70 : decode cX5_child 70 = .ok (.iconst 0, 1) := by decide +kernel
theorem dX5_child_71 : decode cX5_child 71 = .ok (.iload_n 1, 1) := by decide +kernel
theorem dX5_child_72 : decode cX5_child 72 = .ok (.invokevirtual 143, 3) := by decide +kernel
theorem dX5_child_75 : decode cX5_child 75 = .ok (.ireturn, 1) := by decide +kernel
theorem dX5_child_76 : decode cX5_child 76 = .ok (.aload_n 0, 1) := by decide +kernel
theorem dX5_child_77 : decode cX5_child 77 = .ok (.aload_n 0, 1) := by decide +kernel
theorem dX5_child_78 : decode cX5_child 78 = .ok (.getfield 25, 3) := by decide +kernel
theorem dX5_child_81 : decode cX5_child 81 = .ok (.iload_n 1, 1) := by decide +kernel
theorem dX5_child_82 : decode cX5_child 82 = .ok (.iaload, 1) := by decide +kernel
theorem dX5_child_83 : decode cX5_child 83 = .ok (.invokevirtual 122, 3) := by decide +kernel
theorem dX5_child_86 : decode cX5_child 86 = .ok (.ireturn, 1) := by decide +kernel
theorem dX5_child_87 : decode cX5_child 87 = .ok (.bipush (-2), 2) := by decide +kernel
theorem dX5_child_89 : decode cX5_child 89 = .ok (.ireturn, 1) := by decide +kernel
theorem dX5_knows_0 : decode cX5_knows 0 = .ok (.aload_n 0, 1) := by decide +kernel
theorem dX5_knows_1 : decode cX5_knows 1 = .ok (.iload_n 1, 1) := by decide +kernel
theorem dX5_knows_2 : decode cX5_knows 2 = .ok (.invokevirtual 153, 3) := by decide +kernel
theorem dX5_knows_5 : decode cX5_knows 5 = .ok (.ifCond .eq 26, 3) := by decide +kernel
theorem dX5_knows_8 : decode cX5_knows 8 = .ok (.iload_n 2, 1) := by decide +kernel
theorem dX5_knows_9 : decode cX5_knows 9 = .ok (.invokestatic 156, 3) := by decide +kernel
theorem dX5_knows_12 : decode cX5_knows 12 = .ok (.ifCond .eq 19, 3) := by decide +kernel
theorem dX5_knows_15 : decode cX5_knows 15 = .ok (.aload_n 0, 1) := by decide +kernel
theorem dX5_knows_16 : decode cX5_knows 16 = .ok (.getfield 25, 3) := by decide +kernel
theorem dX5_knows_19 : decode cX5_knows 19 = .ok (.bipush 6, 2) := by decide +kernel
theorem dX5_knows_21 : decode cX5_knows 21 = .ok (.iconst 5, 1) := by decide +kernel
theorem dX5_knows_22 : decode cX5_knows 22 = .ok (.iload_n 1, 1) := by decide +kernel
theorem dX5_knows_23 : decode cX5_knows 23 = .ok (.imul, 1) := by decide +kernel
theorem dX5_knows_24 : decode cX5_knows 24 = .ok (.iadd, 1) := by decide +kernel
theorem dX5_knows_25 : decode cX5_knows 25 = .ok (.iload_n 2, 1) := by decide +kernel
theorem dX5_knows_26 : decode cX5_knows 26 = .ok (.iadd, 1) := by decide +kernel
theorem dX5_knows_27 : decode cX5_knows 27 = .ok (.iaload, 1) := by decide +kernel
theorem dX5_knows_28 : decode cX5_knows 28 = .ok (.goto 4, 3) := by decide +kernel
theorem dX5_knows_31 : decode cX5_knows 31 = .ok (.iconst (-1), 1) := by decide +kernel
theorem dX5_knows_32 : decode cX5_knows 32 = .ok (.ireturn, 1) := by decide +kernel
theorem dX5_keepAct_0 : decode cX5_keepAct 0 = .ok (.iconst 0, 1) := by decide +kernel
theorem dX5_keepAct_1 : decode cX5_keepAct 1 = .ok (.istore_n 1, 1) := by decide +kernel
theorem dX5_keepAct_2 : decode cX5_keepAct 2 = .ok (.iload_n 1, 1) := by decide +kernel
theorem dX5_keepAct_3 : decode cX5_keepAct 3 = .ok (.bipush 32, 2) := by decide +kernel
theorem dX5_keepAct_5 : decode cX5_keepAct 5 = .ok (.if_icmp .ge 29, 3) := by decide +kernel
theorem dX5_keepAct_8 : decode cX5_keepAct 8 = .ok (.aload_n 0, 1) := by decide +kernel
theorem dX5_keepAct_9 : decode cX5_keepAct 9 = .ok (.getfield 44, 3) := by decide +kernel
theorem dX5_keepAct_12 : decode cX5_keepAct 12 = .ok (.bipush 32, 2) := by decide +kernel
theorem dX5_keepAct_14 : decode cX5_keepAct 14 = .ok (.aload_n 0, 1) := by decide +kernel
theorem dX5_keepAct_15 : decode cX5_keepAct 15 = .ok (.getfield 159, 3) := by decide +kernel
theorem dX5_keepAct_18 : decode cX5_keepAct 18 = .ok (.imul, 1) := by decide +kernel
theorem dX5_keepAct_19 : decode cX5_keepAct 19 = .ok (.iload_n 1, 1) := by decide +kernel
theorem dX5_keepAct_20 : decode cX5_keepAct 20 = .ok (.iadd, 1) := by decide +kernel
theorem dX5_keepAct_21 : decode cX5_keepAct 21 = .ok (.aload_n 0, 1) := by decide +kernel
theorem dX5_keepAct_22 : decode cX5_keepAct 22 = .ok (.getfield 25, 3) := by decide +kernel
theorem dX5_keepAct_25 : decode cX5_keepAct 25 = .ok (.iload_n 1, 1) := by decide +kernel
theorem dX5_keepAct_26 : decode cX5_keepAct 26 = .ok (.iaload, 1) := by decide +kernel
theorem dX5_keepAct_27 : decode cX5_keepAct 27 = .ok (.iastore, 1) := by decide +kernel
theorem dX5_keepAct_28 : decode cX5_keepAct 28 = .ok (.iinc 1 1, 3) := by decide +kernel
theorem dX5_keepAct_31 : decode cX5_keepAct 31 = .ok (.goto (-29), 3) := by decide +kernel
theorem dX5_keepAct_34 : decode cX5_keepAct 34 = .ok (.aload_n 0, 1) := by decide +kernel
theorem dX5_keepAct_35 : decode cX5_keepAct 35 = .ok (.aload_n 0, 1) := by decide +kernel
theorem dX5_keepAct_36 : decode cX5_keepAct 36 = .ok (.getfield 159, 3) := by decide +kernel
theorem dX5_keepAct_39 : decode cX5_keepAct 39 = .ok (.iconst 1, 1) := by decide +kernel
theorem dX5_keepAct_40 : decode cX5_keepAct 40 = .ok (.iadd, 1) := by decide +kernel
theorem dX5_keepAct_41 : decode cX5_keepAct 41 = .ok (.bipush 14, 2) := by decide +kernel
theorem dX5_keepAct_43 : decode cX5_keepAct 43 = .ok (.irem, 1) := by decide +kernel
theorem dX5_keepAct_44 : decode cX5_keepAct 44 = .ok (.putfield 159, 3) := by decide +kernel
theorem dX5_keepAct_47 : decode cX5_keepAct 47 = .ok (.aload_n 0, 1) := by decide +kernel
theorem dX5_keepAct_48 : decode cX5_keepAct 48 = .ok (.aload_n 0, 1) := by decide +kernel
theorem dX5_keepAct_49 : decode cX5_keepAct 49 = .ok (.getfield 117, 3) := by decide +kernel
theorem dX5_keepAct_52 : decode cX5_keepAct 52 = .ok (.bipush 14, 2) := by decide +kernel
theorem dX5_keepAct_54 : decode cX5_keepAct 54 = .ok (.if_icmp .ge 12, 3) := by decide +kernel
theorem dX5_keepAct_57 : decode cX5_keepAct 57 = .ok (.aload_n 0, 1) := by decide +kernel
theorem dX5_keepAct_58 : decode cX5_keepAct 58 = .ok (.getfield 117, 3) := by decide +kernel
theorem dX5_keepAct_61 : decode cX5_keepAct 61 = .ok (.iconst 1, 1) := by decide +kernel
theorem dX5_keepAct_62 : decode cX5_keepAct 62 = .ok (.iadd, 1) := by decide +kernel
theorem dX5_keepAct_63 : decode cX5_keepAct 63 = .ok (.goto 5, 3) := by decide +kernel
theorem dX5_keepAct_66 : decode cX5_keepAct 66 = .ok (.bipush 14, 2) := by decide +kernel
theorem dX5_keepAct_68 : decode cX5_keepAct 68 = .ok (.putfield 117, 3) := by decide +kernel
theorem dX5_keepAct_71 : decode cX5_keepAct 71 = .ok (.return_, 1) := by decide +kernel
theorem dX5_day_0 : decode cX5_day 0 = .ok (.aload_n 0, 1) := by decide +kernel
theorem dX5_day_1 : decode cX5_day 1 = .ok (.invokevirtual 162, 3) := by decide +kernel
theorem dX5_day_4 : decode cX5_day 4 = .ok (.aload_n 0, 1) := by decide +kernel
theorem dX5_day_5 : decode cX5_day 5 = .ok (.iconst 0, 1) := by decide +kernel
theorem dX5_day_6 : decode cX5_day 6 = .ok (.iconst 1, 1) := by decide +kernel
theorem dX5_day_7 : decode cX5_day 7 = .ok (.invokevirtual 165, 3) := by decide +kernel
theorem dX5_day_10 : decode cX5_day 10 = .ok (.aload_n 0, 1) := by decide +kernel
theorem dX5_day_11 : decode cX5_day 11 = .ok (.iconst 0, 1) := by decide +kernel
theorem dX5_day_12 : decode cX5_day 12 = .ok (.invokevirtual 169, 3) := by decide +kernel
theorem dX5_day_15 : decode cX5_day 15 = .ok (.ireturn, 1) := by decide +kernel
theorem dX5_set_0 : decode cX5_set 0 = .ok (.aload_n 0, 1) := by decide +kernel
theorem dX5_set_1 : decode cX5_set 1 = .ok (.iload_n 1, 1) := by decide +kernel
theorem dX5_set_2 : decode cX5_set 2 = .ok (.invokevirtual 153, 3) := by decide +kernel
theorem dX5_set_5 : decode cX5_set 5 = .ok (.ifCond .eq 10, 3) := by decide +kernel
theorem dX5_set_8 : decode cX5_set 8 = .ok (.iload_n 2, 1) := by decide +kernel
theorem dX5_set_9 : decode cX5_set 9 = .ok (.invokestatic 172, 3) := by decide +kernel
theorem dX5_set_12 : decode cX5_set 12 = .ok (.ifCond .ne 5, 3) := by decide +kernel
theorem dX5_set_15 : decode cX5_set 15 = .ok (.iconst (-1), 1) := by decide +kernel
theorem dX5_set_16 : decode cX5_set 16 = .ok (.ireturn, 1) := by decide +kernel
theorem dX5_set_17 : decode cX5_set 17 = .ok (.aload_n 0, 1) := by decide +kernel
theorem dX5_set_18 : decode cX5_set 18 = .ok (.getfield 25, 3) := by decide +kernel
theorem dX5_set_21 : decode cX5_set 21 = .ok (.iload_n 1, 1) := by decide +kernel
theorem dX5_set_22 : decode cX5_set 22 = .ok (.iaload, 1) := by decide +kernel
theorem dX5_set_23 : decode cX5_set 23 = .ok (.iload_n 2, 1) := by decide +kernel
theorem dX5_set_24 : decode cX5_set 24 = .ok (.if_icmp .ne 6, 3) := by decide +kernel
theorem dX5_set_27 : decode cX5_set 27 = .ok (.bipush (-3), 2) := by decide +kernel
theorem dX5_set_29 : decode cX5_set 29 = .ok (.ireturn, 1) := by decide +kernel
theorem dX5_set_30 : decode cX5_set 30 = .ok (.aload_n 0, 1) := by decide +kernel
theorem dX5_set_31 : decode cX5_set 31 = .ok (.invokevirtual 162, 3) := by decide +kernel
theorem dX5_set_34 : decode cX5_set 34 = .ok (.aload_n 0, 1) := by decide +kernel
theorem dX5_set_35 : decode cX5_set 35 = .ok (.getfield 25, 3) := by decide +kernel
theorem dX5_set_38 : decode cX5_set 38 = .ok (.iload_n 1, 1) := by decide +kernel
theorem dX5_set_39 : decode cX5_set 39 = .ok (.iaload, 1) := by decide +kernel
theorem dX5_set_40 : decode cX5_set 40 = .ok (.istore_n 3, 1) := by decide +kernel
theorem dX5_set_41 : decode cX5_set 41 = .ok (.aload_n 0, 1) := by decide +kernel
theorem dX5_set_42 : decode cX5_set 42 = .ok (.getfield 25, 3) := by decide +kernel
theorem dX5_set_45 : decode cX5_set 45 = .ok (.iload_n 1, 1) := by decide +kernel
theorem dX5_set_46 : decode cX5_set 46 = .ok (.iload_n 2, 1) := by decide +kernel
theorem dX5_set_47 : decode cX5_set 47 = .ok (.iastore, 1) := by decide +kernel
theorem dX5_set_48 : decode cX5_set 48 = .ok (.iload_n 3, 1) := by decide +kernel
theorem dX5_set_49 : decode cX5_set 49 = .ok (.ireturn, 1) := by decide +kernel
theorem dX5_moor_0 : decode cX5_moor 0 = .ok (.aload_n 0, 1) := by decide +kernel
theorem dX5_moor_1 : decode cX5_moor 1 = .ok (.iload_n 1, 1) := by decide +kernel
theorem dX5_moor_2 : decode cX5_moor 2 = .ok (.invokevirtual 153, 3) := by decide +kernel
theorem dX5_moor_5 : decode cX5_moor 5 = .ok (.ifCond .ne 5, 3) := by decide +kernel
theorem dX5_moor_8 : decode cX5_moor 8 = .ok (.iconst (-1), 1) := by decide +kernel
theorem dX5_moor_9 : decode cX5_moor 9 = .ok (.ireturn, 1) := by decide +kernel
theorem dX5_moor_10 : decode cX5_moor 10 = .ok (.aload_n 0, 1) := by decide +kernel
theorem dX5_moor_11 : decode cX5_moor 11 = .ok (.invokevirtual 162, 3) := by decide +kernel
theorem dX5_moor_14 : decode cX5_moor 14 = .ok (.aload_n 0, 1) := by decide +kernel
theorem dX5_moor_15 : decode cX5_moor 15 = .ok (.getfield 25, 3) := by decide +kernel
theorem dX5_moor_18 : decode cX5_moor 18 = .ok (.iconst 5, 1) := by decide +kernel
theorem dX5_moor_19 : decode cX5_moor 19 = .ok (.dup2, 1) := by decide +kernel
theorem dX5_moor_20 : decode cX5_moor 20 = .ok (.iaload, 1) := by decide +kernel
theorem dX5_moor_21 : decode cX5_moor 21 = .ok (.iconst 1, 1) := by decide +kernel
theorem dX5_moor_22 : decode cX5_moor 22 = .ok (.iload_n 1, 1) := by decide +kernel
theorem dX5_moor_23 : decode cX5_moor 23 = .ok (.ishl, 1) := by decide +kernel
theorem dX5_moor_24 : decode cX5_moor 24 = .ok (.ixor, 1) := by decide +kernel
theorem dX5_moor_25 : decode cX5_moor 25 = .ok (.iastore, 1) := by decide +kernel
theorem dX5_moor_26 : decode cX5_moor 26 = .ok (.aload_n 0, 1) := by decide +kernel
theorem dX5_moor_27 : decode cX5_moor 27 = .ok (.getfield 25, 3) := by decide +kernel
theorem dX5_moor_30 : decode cX5_moor 30 = .ok (.iconst 5, 1) := by decide +kernel
theorem dX5_moor_31 : decode cX5_moor 31 = .ok (.iaload, 1) := by decide +kernel
theorem dX5_moor_32 : decode cX5_moor 32 = .ok (.iload_n 1, 1) := by decide +kernel
theorem dX5_moor_33 : decode cX5_moor 33 = .ok (.ishr, 1) := by decide +kernel
theorem dX5_moor_34 : decode cX5_moor 34 = .ok (.iconst 1, 1) := by decide +kernel
theorem dX5_moor_35 : decode cX5_moor 35 = .ok (.iand, 1) := by decide +kernel
theorem dX5_moor_36 : decode cX5_moor 36 = .ok (.ireturn, 1) := by decide +kernel
theorem dX5_putOn_0 : decode cX5_putOn 0 = .ok (.iconst 0, 1) := by decide +kernel
theorem dX5_putOn_1 : decode cX5_putOn 1 = .ok (.istore_n 3, 1) := by decide +kernel
theorem dX5_putOn_2 : decode cX5_putOn 2 = .ok (.iload_n 3, 1) := by decide +kernel
theorem dX5_putOn_3 : decode cX5_putOn 3 = .ok (.iconst 5, 1) := by decide +kernel
theorem dX5_putOn_4 : decode cX5_putOn 4 = .ok (.if_icmp .ge 28, 3) := by decide +kernel
theorem dX5_putOn_7 : decode cX5_putOn 7 = .ok (.aload_n 0, 1) := by decide +kernel
theorem dX5_putOn_8 : decode cX5_putOn 8 = .ok (.getfield 25, 3) := by decide +kernel
theorem dX5_putOn_11 : decode cX5_putOn 11 = .ok (.bipush 32, 2) := by decide +kernel
theorem dX5_putOn_13 : decode cX5_putOn 13 = .ok (.iload_n 1, 1) := by decide +kernel
theorem dX5_putOn_14 : decode cX5_putOn 14 = .ok (.imul, 1) := by decide +kernel
theorem dX5_putOn_15 : decode cX5_putOn 15 = .ok (.bipush 6, 2) := by decide +kernel
theorem dX5_putOn_17 : decode cX5_putOn 17 = .ok (.iadd, 1) := by decide +kernel
theorem dX5_putOn_18 : decode cX5_putOn 18 = .ok (.iconst 5, 1) := by decide +kernel
theorem dX5_putOn_19 : decode cX5_putOn 19 = .ok (.iload_n 2, 1) := by decide +kernel
theorem dX5_putOn_20 : decode cX5_putOn 20 = .ok (.imul, 1) := by decide +kernel
theorem dX5_putOn_21 : decode cX5_putOn 21 = .ok (.iadd, 1) := by decide +kernel
theorem dX5_putOn_22 : decode cX5_putOn 22 = .ok (.iload_n 3, 1) := by decide +kernel
theorem dX5_putOn_23 : decode cX5_putOn 23 = .ok (.iadd, 1) := by decide +kernel
theorem dX5_putOn_24 : decode cX5_putOn 24 = .ok (.iconst 0, 1) := by decide +kernel
theorem dX5_putOn_25 : decode cX5_putOn 25 = .ok (.iastore, 1) := by decide +kernel
theorem dX5_putOn_26 : decode cX5_putOn 26 = .ok (.iinc 3 1, 3) := by decide +kernel
theorem dX5_putOn_29 : decode cX5_putOn 29 = .ok (.goto (-27), 3) := by decide +kernel
theorem dX5_putOn_32 : decode cX5_putOn 32 = .ok (.return_, 1) := by decide +kernel
theorem dX5_put_0 : decode cX5_put 0 = .ok (.aload_n 0, 1) := by decide +kernel
theorem dX5_put_1 : decode cX5_put 1 = .ok (.iload_n 1, 1) := by decide +kernel
theorem dX5_put_2 : decode cX5_put 2 = .ok (.invokevirtual 153, 3) := by decide +kernel
theorem dX5_put_5 : decode cX5_put 5 = .ok (.ifCond .ne 5, 3) := by decide +kernel
theorem dX5_put_8 : decode cX5_put 8 = .ok (.iconst (-1), 1) := by decide +kernel
theorem dX5_put_9 : decode cX5_put 9 = .ok (.ireturn, 1) := by decide +kernel
theorem dX5_put_10 : decode cX5_put 10 = .ok (.aload_n 0, 1) := by decide +kernel
theorem dX5_put_11 : decode cX5_put 11 = .ok (.iconst 0, 1) := by decide +kernel
theorem dX5_put_12 : decode cX5_put 12 = .ok (.iload_n 1, 1) := by decide +kernel
theorem dX5_put_13 : decode cX5_put 13 = .ok (.invokevirtual 143, 3) := by decide +kernel
theorem dX5_put_16 : decode cX5_put 16 = .ok (.istore_n 2, 1) := by decide +kernel
theorem dX5_put_17 : decode cX5_put 17 = .ok (.iload_n 2, 1) := by decide +kernel
theorem dX5_put_18 : decode cX5_put 18 = .ok (.ifCond .ne 6, 3) := by decide +kernel
theorem dX5_put_21 : decode cX5_put 21 = .ok (.bipush (-3), 2) := by decide +kernel
theorem dX5_put_23 : decode cX5_put 23 = .ok (.ireturn, 1) := by decide +kernel
theorem dX5_put_24 : decode cX5_put 24 = .ok (.aload_n 0, 1) := by decide +kernel
theorem dX5_put_25 : decode cX5_put 25 = .ok (.invokevirtual 162, 3) := by decide +kernel
theorem dX5_put_28 : decode cX5_put 28 = .ok (.aload_n 0, 1) := by decide +kernel
theorem dX5_put_29 : decode cX5_put 29 = .ok (.iconst 0, 1) := by decide +kernel
theorem dX5_put_30 : decode cX5_put 30 = .ok (.iload_n 1, 1) := by decide +kernel
theorem dX5_put_31 : decode cX5_put 31 = .ok (.invokevirtual 175, 3) := by decide +kernel
theorem dX5_put_34 : decode cX5_put 34 = .ok (.iload_n 2, 1) := by decide +kernel
theorem dX5_put_35 : decode cX5_put 35 = .ok (.ireturn, 1) := by decide +kernel
theorem dX5_undo_0 : decode cX5_undo 0 = .ok (.aload_n 0, 1) := by decide +kernel
theorem dX5_undo_1 : decode cX5_undo 1 = .ok (.getfield 117, 3) := by decide +kernel
theorem dX5_undo_4 : decode cX5_undo 4 = .ok (.ifCond .ne 6, 3) := by decide +kernel
theorem dX5_undo_7 : decode cX5_undo 7 = .ok (.bipush (-3), 2) := by decide +kernel
theorem dX5_undo_9 : decode cX5_undo 9 = .ok (.ireturn, 1) := by decide +kernel
theorem dX5_undo_10 : decode cX5_undo 10 = .ok (.aload_n 0, 1) := by decide +kernel
theorem dX5_undo_11 : decode cX5_undo 11 = .ok (.dup, 1) := by decide +kernel
theorem dX5_undo_12 : decode cX5_undo 12 = .ok (.getfield 117, 3) := by decide +kernel
theorem dX5_undo_15 : decode cX5_undo 15 = .ok (.iconst 1, 1) := by decide +kernel
theorem dX5_undo_16 : decode cX5_undo 16 = .ok (.isub, 1) := by decide +kernel
theorem dX5_undo_17 : decode cX5_undo 17 = .ok (.putfield 117, 3) := by decide +kernel
theorem dX5_undo_20 : decode cX5_undo 20 = .ok (.aload_n 0, 1) := by decide +kernel
theorem dX5_undo_21 : decode cX5_undo 21 = .ok (.aload_n 0, 1) := by decide +kernel
theorem dX5_undo_22 : decode cX5_undo 22 = .ok (.getfield 159, 3) := by decide +kernel
theorem dX5_undo_25 : decode cX5_undo 25 = .ok (.bipush 13, 2) := by decide +kernel
theorem dX5_undo_27 : decode cX5_undo 27 = .ok (.iadd, 1) := by decide +kernel
theorem dX5_undo_28 : decode cX5_undo 28 = .ok (.bipush 14, 2) := by decide +kernel
theorem dX5_undo_30 : decode cX5_undo 30 = .ok (.irem, 1) := by decide +kernel
theorem dX5_undo_31 : decode cX5_undo 31 = .ok (.putfield 159, 3) := by decide +kernel
theorem dX5_undo_34 : decode cX5_undo 34 = .ok (.iconst 0, 1) := by decide +kernel
theorem dX5_undo_35 : decode cX5_undo 35 = .ok (.istore_n 1, 1) := by decide +kernel
theorem dX5_undo_36 : decode cX5_undo 36 = .ok (.iload_n 1, 1) := by decide +kernel
theorem dX5_undo_37 : decode cX5_undo 37 = .ok (.bipush 32, 2) := by decide +kernel
theorem dX5_undo_39 : decode cX5_undo 39 = .ok (.if_icmp .ge 29, 3) := by decide +kernel
theorem dX5_undo_42 : decode cX5_undo 42 = .ok (.aload_n 0, 1) := by decide +kernel
theorem dX5_undo_43 : decode cX5_undo 43 = .ok (.getfield 25, 3) := by decide +kernel
theorem dX5_undo_46 : decode cX5_undo 46 = .ok (.iload_n 1, 1) := by decide +kernel
theorem dX5_undo_47 : decode cX5_undo 47 = .ok (.aload_n 0, 1) := by decide +kernel
theorem dX5_undo_48 : decode cX5_undo 48 = .ok (.getfield 44, 3) := by decide +kernel
theorem dX5_undo_51 : decode cX5_undo 51 = .ok (.bipush 32, 2) := by decide +kernel
theorem dX5_undo_53 : decode cX5_undo 53 = .ok (.aload_n 0, 1) := by decide +kernel
theorem dX5_undo_54 : decode cX5_undo 54 = .ok (.getfield 159, 3) := by decide +kernel
theorem dX5_undo_57 : decode cX5_undo 57 = .ok (.imul, 1) := by decide +kernel
theorem dX5_undo_58 : decode cX5_undo 58 = .ok (.iload_n 1, 1) := by decide +kernel
theorem dX5_undo_59 : decode cX5_undo 59 = .ok (.iadd, 1) := by decide +kernel
theorem dX5_undo_60 : decode cX5_undo 60 = .ok (.iaload, 1) := by decide +kernel
theorem dX5_undo_61 : decode cX5_undo 61 = .ok (.iastore, 1) := by decide +kernel
theorem dX5_undo_62 : decode cX5_undo 62 = .ok (.iinc 1 1, 3) := by decide +kernel
theorem dX5_undo_65 : decode cX5_undo 65 = .ok (.goto (-29), 3) := by decide +kernel
theorem dX5_undo_68 : decode cX5_undo 68 = .ok (.aload_n 0, 1) := by decide +kernel
theorem dX5_undo_69 : decode cX5_undo 69 = .ok (.getfield 117, 3) := by decide +kernel
theorem dX5_undo_72 : decode cX5_undo 72 = .ok (.ireturn, 1) := by decide +kernel
theorem dX5_layTrial_0 : decode cX5_layTrial 0 = .ok (.iconst 0, 1) := by decide +kernel
theorem dX5_layTrial_1 : decode cX5_layTrial 1 = .ok (.istore_n 1, 1) := by decide +kernel
theorem dX5_layTrial_2 : decode cX5_layTrial 2 = .ok (.iload_n 1, 1) := by decide +kernel
theorem dX5_layTrial_3 : decode cX5_layTrial 3 = .ok (.bipush 32, 2) := by decide +kernel
theorem dX5_layTrial_5 : decode cX5_layTrial 5 = .ok (.if_icmp .ge 24, 3) := by decide +kernel
theorem dX5_layTrial_8 : decode cX5_layTrial 8 = .ok (.aload_n 0, 1) := by decide +kernel
theorem dX5_layTrial_9 : decode cX5_layTrial 9 = .ok (.getfield 25, 3) := by decide +kernel
theorem dX5_layTrial_12 : decode cX5_layTrial 12 = .ok (.bipush 32, 2) := by decide +kernel
theorem dX5_layTrial_14 : decode cX5_layTrial 14 = .ok (.iload_n 1, 1) := by decide +kernel
theorem dX5_layTrial_15 : decode cX5_layTrial 15 = .ok (.iadd, 1) := by decide +kernel
theorem dX5_layTrial_16 : decode cX5_layTrial 16 = .ok (.aload_n 0, 1) := by decide +kernel
theorem dX5_layTrial_17 : decode cX5_layTrial 17 = .ok (.getfield 25, 3) := by decide +kernel
theorem dX5_layTrial_20 : decode cX5_layTrial 20 = .ok (.iload_n 1, 1) := by decide +kernel
theorem dX5_layTrial_21 : decode cX5_layTrial 21 = .ok (.iaload, 1) := by decide +kernel
theorem dX5_layTrial_22 : decode cX5_layTrial 22 = .ok (.iastore, 1) := by decide +kernel
theorem dX5_layTrial_23 : decode cX5_layTrial 23 = .ok (.iinc 1 1, 3) := by decide +kernel
theorem dX5_layTrial_26 : decode cX5_layTrial 26 = .ok (.goto (-24), 3) := by decide +kernel
theorem dX5_layTrial_29 : decode cX5_layTrial 29 = .ok (.return_, 1) := by decide +kernel
theorem dX5_goOn_0 : decode cX5_goOn 0 = .ok (.iconst 0, 1) := by decide +kernel
theorem dX5_goOn_1 : decode cX5_goOn 1 = .ok (.istore_n 2, 1) := by decide +kernel
theorem dX5_goOn_2 : decode cX5_goOn 2 = .ok (.iload_n 2, 1) := by decide +kernel
theorem dX5_goOn_3 : decode cX5_goOn 3 = .ok (.iload_n 1, 1) := by decide +kernel
theorem dX5_goOn_4 : decode cX5_goOn 4 = .ok (.if_icmp .ge 15, 3) := by decide +kernel
theorem dX5_goOn_7 : decode cX5_goOn 7 = .ok (.aload_n 0, 1) := by decide +kernel
theorem dX5_goOn_8 : decode cX5_goOn 8 = .ok (.iconst 1, 1) := by decide +kernel
theorem dX5_goOn_9 : decode cX5_goOn 9 = .ok (.iconst 1, 1) := by decide +kernel
theorem dX5_goOn_10 : decode cX5_goOn 10 = .ok (.invokevirtual 165, 3) := by decide +kernel
theorem dX5_goOn_13 : decode cX5_goOn 13 = .ok (.iinc 2 1, 3) := by decide +kernel
theorem dX5_goOn_16 : decode cX5_goOn 16 = .ok (.goto (-14), 3) := by decide +kernel
theorem dX5_goOn_19 : decode cX5_goOn 19 = .ok (.return_, 1) := by decide +kernel
theorem dX5_ahead_0 : decode cX5_ahead 0 = .ok (.aload_n 0, 1) := by decide +kernel
theorem dX5_ahead_1 : decode cX5_ahead 1 = .ok (.iload_n 1, 1) := by decide +kernel
theorem dX5_ahead_2 : decode cX5_ahead 2 = .ok (.invokevirtual 153, 3) := by decide +kernel
theorem dX5_ahead_5 : decode cX5_ahead 5 = .ok (.ifCond .eq 10, 3) := by decide +kernel
theorem dX5_ahead_8 : decode cX5_ahead 8 = .ok (.iload_n 2, 1) := by decide +kernel
theorem dX5_ahead_9 : decode cX5_ahead 9 = .ok (.invokestatic 156, 3) := by decide +kernel
theorem dX5_ahead_12 : decode cX5_ahead 12 = .ok (.ifCond .ne 5, 3) := by decide +kernel
theorem dX5_ahead_15 : decode cX5_ahead 15 = .ok (.iconst (-1), 1) := by decide +kernel
theorem dX5_ahead_16 : decode cX5_ahead 16 = .ok (.ireturn, 1) := by decide +kernel
theorem dX5_ahead_17 : decode cX5_ahead 17 = .ok (.iload_n 3, 1) := by decide +kernel
theorem dX5_ahead_18 : decode cX5_ahead 18 = .ok (.i2l, 1) := by decide +kernel
theorem dX5_ahead_19 : decode cX5_ahead 19 = .ok (.lconst 0, 1) := by decide +kernel
theorem dX5_ahead_20 : decode cX5_ahead 20 = .ok (.ldc2_w 178, 3) := by decide +kernel
theorem dX5_ahead_23 : decode cX5_ahead 23 = .ok (.invokestatic 65, 3) := by decide +kernel
theorem dX5_ahead_26 : decode cX5_ahead 26 = .ok (.ifCond .ne 6, 3) := by decide +kernel
theorem dX5_ahead_29 : decode cX5_ahead 29 = .ok (.bipush (-2), 2) := by decide +kernel
theorem dX5_ahead_31 : decode cX5_ahead 31 = .ok (.ireturn, 1) := by decide +kernel
theorem dX5_ahead_32 : decode cX5_ahead 32 = .ok (.aload_n 0, 1) := by decide +kernel
theorem dX5_ahead_33 : decode cX5_ahead 33 = .ok (.invokevirtual 180, 3) := by decide +kernel
theorem dX5_ahead_36 : decode cX5_ahead 36 = .ok (.aload_n 0, 1) := by decide +kernel
theorem dX5_ahead_37 : decode cX5_ahead 37 = .ok (.iload_n 3, 1) := by decide +kernel
theorem dX5_ahead_38 : decode cX5_ahead 38 = .ok (.invokevirtual 183, 3) := by decide +kernel
theorem dX5_ahead_41 : decode cX5_ahead 41 = .ok (.aload_n 0, 1) := by decide +kernel
theorem dX5_ahead_42 : decode cX5_ahead 42 = .ok (.getfield 25, 3) := by decide +kernel
theorem dX5_ahead_45 : decode cX5_ahead 45 = .ok (.bipush 38, 2) := by decide +kernel
theorem dX5_ahead_47 : decode cX5_ahead 47 = .ok (.iconst 5, 1) := by decide +kernel
theorem dX5_ahead_48 : decode cX5_ahead 48 = .ok (.iload_n 1, 1) := by decide +kernel
theorem dX5_ahead_49 : decode cX5_ahead 49 = .ok (.imul, 1) := by decide +kernel
theorem dX5_ahead_50 : decode cX5_ahead 50 = .ok (.iadd, 1) := by decide +kernel
theorem dX5_ahead_51 : decode cX5_ahead 51 = .ok (.iload_n 2, 1) := by decide +kernel
theorem dX5_ahead_52 : decode cX5_ahead 52 = .ok (.iadd, 1) := by decide +kernel
theorem dX5_ahead_53 : decode cX5_ahead 53 = .ok (.iaload, 1) := by decide +kernel
theorem dX5_ahead_54 : decode cX5_ahead 54 = .ok (.ireturn, 1) := by decide +kernel
theorem dX5_later_0 : decode cX5_later 0 = .ok (.aload_n 0, 1) := by decide +kernel
theorem dX5_later_1 : decode cX5_later 1 = .ok (.iload_n 1, 1) := by decide +kernel
theorem dX5_later_2 : decode cX5_later 2 = .ok (.invokevirtual 153, 3) := by decide +kernel
theorem dX5_later_5 : decode cX5_later 5 = .ok (.ifCond .ne 5, 3) := by decide +kernel
theorem dX5_later_8 : decode cX5_later 8 = .ok (.iconst (-1), 1) := by decide +kernel
theorem dX5_later_9 : decode cX5_later 9 = .ok (.ireturn, 1) := by decide +kernel
theorem dX5_later_10 : decode cX5_later 10 = .ok (.iload_n 2, 1) := by decide +kernel
theorem dX5_later_11 : decode cX5_later 11 = .ok (.i2l, 1) := by decide +kernel
theorem dX5_later_12 : decode cX5_later 12 = .ok (.lconst 0, 1) := by decide +kernel
theorem dX5_later_13 : decode cX5_later 13 = .ok (.ldc2_w 178, 3) := by decide +kernel
theorem dX5_later_16 : decode cX5_later 16 = .ok (.invokestatic 65, 3) := by decide +kernel
theorem dX5_later_19 : decode cX5_later 19 = .ok (.ifCond .eq 13, 3) := by decide +kernel
theorem dX5_later_22 : decode cX5_later 22 = .ok (.iload_n 3, 1) := by decide +kernel
theorem dX5_later_23 : decode cX5_later 23 = .ok (.i2l, 1) := by decide +kernel
theorem dX5_later_24 : decode cX5_later 24 = .ok (.lconst 0, 1) := by decide +kernel
theorem dX5_later_25 : decode cX5_later 25 = .ok (.lconst 1, 1) := by decide +kernel
theorem dX5_later_26 : decode cX5_later 26 = .ok (.invokestatic 65, 3) := by decide +kernel
theorem dX5_later_29 : decode cX5_later 29 = .ok (.ifCond .ne 6, 3) := by decide +kernel
theorem dX5_later_32 : decode cX5_later 32 = .ok (.bipush (-2), 2) := by decide +kernel
theorem dX5_later_34 : decode cX5_later 34 = .ok (.ireturn, 1) := by decide +kernel
theorem dX5_later_35 : decode cX5_later 35 = .ok (.aload_n 0, 1) := by decide +kernel
theorem dX5_later_36 : decode cX5_later 36 = .ok (.invokevirtual 180, 3) := by decide +kernel
theorem dX5_later_39 : decode cX5_later 39 = .ok (.aload_n 0, 1) := by decide +kernel
theorem dX5_later_40 : decode cX5_later 40 = .ok (.iload_n 2, 1) := by decide +kernel
theorem dX5_later_41 : decode cX5_later 41 = .ok (.invokevirtual 183, 3) := by decide +kernel
theorem dX5_later_44 : decode cX5_later 44 = .ok (.iload_n 3, 1) := by decide +kernel
theorem dX5_later_45 : decode cX5_later 45 = .ok (.ifCond .ne 15, 3) := by decide +kernel
theorem dX5_later_48 : decode cX5_later 48 = .ok (.aload_n 0, 1) := by decide +kernel
theorem dX5_later_49 : decode cX5_later 49 = .ok (.getfield 25, 3) := by decide +kernel
theorem dX5_later_52 : decode cX5_later 52 = .ok (.bipush 32, 2) := by decide +kernel
theorem dX5_later_54 : decode cX5_later 54 = .ok (.iload_n 1, 1) := by decide +kernel
theorem dX5_later_55 : decode cX5_later 55 = .ok (.iadd, 1) := by decide +kernel
theorem dX5_later_56 : decode cX5_later 56 = .ok (.iaload, 1) := by decide +kernel
theorem dX5_later_57 : decode cX5_later 57 = .ok (.goto 9, 3) := by decide +kernel
theorem dX5_later_60 : decode cX5_later 60 = .ok (.aload_n 0, 1) := by decide +kernel
theorem dX5_later_61 : decode cX5_later 61 = .ok (.iconst 1, 1) := by decide +kernel
theorem dX5_later_62 : decode cX5_later 62 = .ok (.iload_n 1, 1) := by decide +kernel
theorem dX5_later_63 : decode cX5_later 63 = .ok (.invokevirtual 143, 3) := by decide +kernel
theorem dX5_later_66 : decode cX5_later 66 = .ok (.ireturn, 1) := by decide +kernel
theorem dX5_enough_0 : decode cX5_enough 0 = .ok (.aload_n 0, 1) := by decide +kernel
theorem dX5_enough_1 : decode cX5_enough 1 = .ok (.iload_n 1, 1) := by decide +kernel
theorem dX5_enough_2 : decode cX5_enough 2 = .ok (.invokevirtual 153, 3) := by decide +kernel
theorem dX5_enough_5 : decode cX5_enough 5 = .ok (.ifCond .eq 10, 3) := by decide +kernel
theorem dX5_enough_8 : decode cX5_enough 8 = .ok (.iload_n 2, 1) := by decide +kernel
theorem dX5_enough_9 : decode cX5_enough 9 = .ok (.invokestatic 156, 3) := by decide +kernel
theorem dX5_enough_12 : decode cX5_enough 12 = .ok (.ifCond .ne 5, 3) := by decide +kernel
theorem dX5_enough_15 : decode cX5_enough 15 = .ok (.iconst (-1), 1) := by decide +kernel
theorem dX5_enough_16 : decode cX5_enough 16 = .ok (.ireturn, 1) := by decide +kernel
theorem dX5_enough_17 : decode cX5_enough 17 = .ok (.iload_n 3, 1) := by decide +kernel
theorem dX5_enough_18 : decode cX5_enough 18 = .ok (.i2l, 1) := by decide +kernel
theorem dX5_enough_19 : decode cX5_enough 19 = .ok (.lconst 1, 1) := by decide +kernel
theorem dX5_enough_20 : decode cX5_enough 20 = .ok (.ldc2_w 186, 3) := by decide +kernel
theorem dX5_enough_23 : decode cX5_enough 23 = .ok (.invokestatic 65, 3) := by decide +kernel
theorem dX5_enough_26 : decode cX5_enough 26 = .ok (.ifCond .ne 6, 3) := by decide +kernel
theorem dX5_enough_29 : decode cX5_enough 29 = .ok (.bipush (-2), 2) := by decide +kernel
theorem dX5_enough_31 : decode cX5_enough 31 = .ok (.ireturn, 1) := by decide +kernel
theorem dX5_enough_32 : decode cX5_enough 32 = .ok (.aload_n 0, 1) := by decide +kernel
theorem dX5_enough_33 : decode cX5_enough 33 = .ok (.invokevirtual 180, 3) := by decide +kernel
theorem dX5_enough_36 : decode cX5_enough 36 = .ok (.iconst 0, 1) := by decide +kernel
theorem dX5_enough_37 : decode cX5_enough 37 = .ok (.istore 4, 2) := by decide +kernel
theorem dX5_enough_39 : decode cX5_enough 39 = .ok (.iload 4, 2) := by decide +kernel
theorem dX5_enough_41 : decode cX5_enough 41 = .ok (.bipush 21, 2) := by decide +kernel
theorem dX5_enough_43 : decode cX5_enough 43 = .ok (.if_icmp .ge 35, 3) := by decide +kernel
theorem dX5_enough_46 : decode cX5_enough 46 = .ok (.aload_n 0, 1) := by decide +kernel
theorem dX5_enough_47 : decode cX5_enough 47 = .ok (.getfield 25, 3) := by decide +kernel
theorem dX5_enough_50 : decode cX5_enough 50 = .ok (.bipush 38, 2) := by decide +kernel
theorem dX5_enough_52 : decode cX5_enough 52 = .ok (.iconst 5, 1) := by decide +kernel
theorem dX5_enough_53 : decode cX5_enough 53 = .ok (.iload_n 1, 1) := by decide +kernel
theorem dX5_enough_54 : decode cX5_enough 54 = .ok (.imul, 1) := by decide +kernel
theorem dX5_enough_55 : decode cX5_enough 55 = .ok (.iadd, 1) := by decide +kernel
theorem dX5_enough_56 : decode cX5_enough 56 = .ok (.iload_n 2, 1) := by decide +kernel
theorem dX5_enough_57 : decode cX5_enough 57 = .ok (.iadd, 1) := by decide +kernel
theorem dX5_enough_58 : decode cX5_enough 58 = .ok (.iaload, 1) := by decide +kernel
theorem dX5_enough_59 : decode cX5_enough 59 = .ok (.iload_n 3, 1) := by decide +kernel
theorem dX5_enough_60 : decode cX5_enough 60 = .ok (.if_icmp .lt 6, 3) := by decide +kernel
theorem dX5_enough_63 : decode cX5_enough 63 = .ok (.iload 4, 2) := by decide +kernel
theorem dX5_enough_65 : decode cX5_enough 65 = .ok (.ireturn, 1) := by decide +kernel
theorem dX5_enough_66 : decode cX5_enough 66 = .ok (.aload_n 0, 1) := by decide +kernel
theorem dX5_enough_67 : decode cX5_enough 67 = .ok (.iconst 1, 1) := by decide +kernel
theorem dX5_enough_68 : decode cX5_enough 68 = .ok (.iconst 1, 1) := by decide +kernel
theorem dX5_enough_69 : decode cX5_enough 69 = .ok (.invokevirtual 165, 3) := by decide +kernel
theorem dX5_enough_72 : decode cX5_enough 72 = .ok (.iinc 4 1, 3) := by decide +kernel
theorem dX5_enough_75 : decode cX5_enough 75 = .ok (.goto (-36), 3) := by decide +kernel
theorem dX5_enough_78 : decode cX5_enough 78 = .ok (.bipush (-9), 2) := by decide +kernel
theorem dX5_enough_80 : decode cX5_enough 80 = .ok (.ireturn, 1) := by decide +kernel
theorem dX5_best_0 : decode cX5_best 0 = .ok (.aload_n 0, 1) := by decide +kernel
theorem dX5_best_1 : decode cX5_best 1 = .ok (.iload_n 1, 1) := by decide +kernel
theorem dX5_best_2 : decode cX5_best 2 = .ok (.invokevirtual 153, 3) := by decide +kernel
theorem dX5_best_5 : decode cX5_best 5 = .ok (.ifCond .ne 5, 3) := by decide +kernel
theorem dX5_best_8 : decode cX5_best 8 = .ok (.iconst (-1), 1) := by decide +kernel
theorem dX5_best_9 : decode cX5_best 9 = .ok (.ireturn, 1) := by decide +kernel
theorem dX5_best_10 : decode cX5_best 10 = .ok (.iload_n 2, 1) := by decide +kernel
theorem dX5_best_11 : decode cX5_best 11 = .ok (.i2l, 1) := by decide +kernel
theorem dX5_best_12 : decode cX5_best 12 = .ok (.lconst 1, 1) := by decide +kernel
theorem dX5_best_13 : decode cX5_best 13 = .ok (.ldc2_w 188, 3) := by decide +kernel
theorem dX5_best_16 : decode cX5_best 16 = .ok (.invokestatic 65, 3) := by decide +kernel
theorem dX5_best_19 : decode cX5_best 19 = .ok (.ifCond .eq 13, 3) := by decide +kernel
theorem dX5_best_22 : decode cX5_best 22 = .ok (.iload_n 3, 1) := by decide +kernel
theorem dX5_best_23 : decode cX5_best 23 = .ok (.i2l, 1) := by decide +kernel
theorem dX5_best_24 : decode cX5_best 24 = .ok (.lconst 0, 1) := by decide +kernel
theorem dX5_best_25 : decode cX5_best 25 = .ok (.lconst 1, 1) := by decide +kernel
theorem dX5_best_26 : decode cX5_best 26 = .ok (.invokestatic 65, 3) := by decide +kernel
theorem dX5_best_29 : decode cX5_best 29 = .ok (.ifCond .ne 6, 3) := by decide +kernel
theorem dX5_best_32 : decode cX5_best 32 = .ok (.bipush (-2), 2) := by decide +kernel
theorem dX5_best_34 : decode cX5_best 34 = .ok (.ireturn, 1) := by decide +kernel
theorem dX5_best_35 : decode cX5_best 35 = .ok (.bipush (-9), 2) := by decide +kernel
theorem dX5_best_37 : decode cX5_best 37 = .ok (.istore 4, 2) := by decide +kernel
theorem dX5_best_39 : decode cX5_best 39 = .ok (.bipush (-9), 2) := by decide +kernel
theorem dX5_best_41 : decode cX5_best 41 = .ok (.istore 5, 2) := by decide +kernel
theorem dX5_best_43 : decode cX5_best 43 = .ok (.iconst 0, 1) := by decide +kernel
theorem dX5_best_44 : decode cX5_best 44 = .ok (.istore 6, 2) := by decide +kernel
theorem dX5_best_46 : decode cX5_best 46 = .ok (.iload 6, 2) := by decide +kernel
theorem dX5_best_48 : decode cX5_best 48 = .ok (.bipush 12, 2) := by decide +kernel
theorem dX5_best_50 : decode cX5_best 50 = .ok (.if_icmp .ge 69, 3) := by decide +kernel
theorem dX5_best_53 : decode cX5_best 53 = .ok (.aload_n 0, 1) := by decide +kernel
theorem dX5_best_54 : decode cX5_best 54 = .ok (.invokevirtual 180, 3) := by decide +kernel
theorem dX5_best_57 : decode cX5_best 57 = .ok (.aload_n 0, 1) := by decide +kernel
theorem dX5_best_58 : decode cX5_best 58 = .ok (.getfield 25, 3) := by decide +kernel
theorem dX5_best_61 : decode cX5_best 61 = .ok (.bipush 32, 2) := by decide +kernel
theorem dX5_best_63 : decode cX5_best 63 = .ok (.iload_n 1, 1) := by decide +kernel
theorem dX5_best_64 : decode cX5_best 64 = .ok (.iadd, 1) := by decide +kernel
theorem dX5_best_65 : decode cX5_best 65 = .ok (.iload 6, 2) := by decide +kernel
theorem dX5_best_67 : decode cX5_best 67 = .ok (.iastore, 1) := by decide +kernel
theorem dX5_best_68 : decode cX5_best 68 = .ok (.aload_n 0, 1) := by decide +kernel
theorem dX5_best_69 : decode cX5_best 69 = .ok (.iload_n 2, 1) := by decide +kernel
theorem dX5_best_70 : decode cX5_best 70 = .ok (.invokevirtual 183, 3) := by decide +kernel
theorem dX5_best_73 : decode cX5_best 73 = .ok (.aload_n 0, 1) := by decide +kernel
theorem dX5_best_74 : decode cX5_best 74 = .ok (.iconst 1, 1) := by decide +kernel
theorem dX5_best_75 : decode cX5_best 75 = .ok (.iload_n 1, 1) := by decide +kernel
theorem dX5_best_76 : decode cX5_best 76 = .ok (.invokevirtual 143, 3) := by decide +kernel
theorem dX5_best_79 : decode cX5_best 79 = .ok (.istore 7, 2) := by decide +kernel
theorem dX5_best_81 : decode cX5_best 81 = .ok (.iload 7, 2) := by decide +kernel
theorem dX5_best_83 : decode cX5_best 83 = .ok (.iload 5, 2) := by decide +kernel
theorem dX5_best_85 : decode cX5_best 85 = .ok (.if_icmp .le 8, 3) := by decide +kernel
theorem dX5_best_88 : decode cX5_best 88 = .ok (.iload 6, 2) := by decide +kernel
theorem dX5_best_90 : decode cX5_best 90 = .ok (.goto 5, 3) := by decide +kernel
theorem dX5_best_93 : decode cX5_best 93 = .ok (.iload 4, 2) := by decide +kernel
theorem dX5_best_95 : decode cX5_best 95 = .ok (.istore 4, 2) := by decide +kernel
theorem dX5_best_97 : decode cX5_best 97 = .ok (.iload 7, 2) := by decide +kernel
theorem dX5_best_99 : decode cX5_best 99 = .ok (.iload 5, 2) := by decide +kernel
theorem dX5_best_101 : decode cX5_best 101 = .ok (.if_icmp .le 8, 3) := by decide +kernel
theorem dX5_best_104 : decode cX5_best 104 = .ok (.iload 7, 2) := by decide +kernel
theorem dX5_best_106 : decode cX5_best 106 = .ok (.goto 5, 3) := by decide +kernel
theorem dX5_best_109 : decode cX5_best 109 = .ok (.iload 5, 2) := by decide +kernel
theorem dX5_best_111 : decode cX5_best 111 = .ok (.istore 5, 2) := by decide +kernel
theorem dX5_best_113 : decode cX5_best 113 = .ok (.iinc 6 1, 3) := by decide +kernel
theorem dX5_best_116 : decode cX5_best 116 = .ok (.goto (-70), 3) := by decide +kernel
theorem dX5_best_119 : decode cX5_best 119 = .ok (.iload_n 3, 1) := by decide +kernel
theorem dX5_best_120 : decode cX5_best 120 = .ok (.ifCond .ne 8, 3) := by decide +kernel
theorem dX5_best_123 : decode cX5_best 123 = .ok (.iload 4, 2) := by decide +kernel
theorem dX5_best_125 : decode cX5_best 125 = .ok (.goto 5, 3) := by decide +kernel
theorem dX5_best_128 : decode cX5_best 128 = .ok (.iload 5, 2) := by decide +kernel
theorem dX5_best_130 : decode cX5_best 130 = .ok (.ireturn, 1) := by decide +kernel
theorem dX5_power_0 : decode cX5_power 0 = .ok (.iconst 1, 1) := by decide +kernel
theorem dX5_power_1 : decode cX5_power 1 = .ok (.istore_n 2, 1) := by decide +kernel
theorem dX5_power_2 : decode cX5_power 2 = .ok (.iconst 0, 1) := by decide +kernel
theorem dX5_power_3 : decode cX5_power 3 = .ok (.istore_n 3, 1) := by decide +kernel
theorem dX5_power_4 : decode cX5_power 4 = .ok (.iload_n 3, 1) := by decide +kernel
theorem dX5_power_5 : decode cX5_power 5 = .ok (.iload_n 1, 1) := by decide +kernel
theorem dX5_power_6 : decode cX5_power 6 = .ok (.if_icmp .ge 13, 3) := by decide +kernel
theorem dX5_power_9 : decode cX5_power 9 = .ok (.iload_n 2, 1) := by decide +kernel
theorem dX5_power_10 : decode cX5_power 10 = .ok (.iload_n 0, 1) := by decide +kernel
theorem dX5_power_11 : decode cX5_power 11 = .ok (.imul, 1) := by decide +kernel
theorem dX5_power_12 : decode cX5_power 12 = .ok (.istore_n 2, 1) := by decide +kernel
theorem dX5_power_13 : decode cX5_power 13 = .ok (.iinc 3 1, 3) := by decide +kernel
theorem dX5_power_16 : decode cX5_power 16 = .ok (.goto (-12), 3) := by decide +kernel
theorem dX5_power_19 : decode cX5_power 19 = .ok (.iload_n 2, 1) := by decide +kernel
theorem dX5_power_20 : decode cX5_power 20 = .ok (.ireturn, 1) := by decide +kernel
theorem dX5_isSet_0 : decode cX5_isSet 0 = .ok (.iconst 0, 1) := by decide +kernel
theorem dX5_isSet_1 : decode cX5_isSet 1 = .ok (.istore_n 2, 1) := by decide +kernel
theorem dX5_isSet_2 : decode cX5_isSet 2 = .ok (.iload_n 1, 1) := by decide +kernel
theorem dX5_isSet_3 : decode cX5_isSet 3 = .ok (.istore_n 3, 1) := by decide +kernel
theorem dX5_isSet_4 : decode cX5_isSet 4 = .ok (.aload_n 0, 1) := by decide +kernel
theorem dX5_isSet_5 : decode cX5_isSet 5 = .ok (.invokevirtual 180, 3) := by decide +kernel
theorem dX5_isSet_8 : decode cX5_isSet 8 = .ok (.iconst 0, 1) := by decide +kernel
theorem dX5_isSet_9 : decode cX5_isSet 9 = .ok (.istore 4, 2) := by decide +kernel
theorem dX5_isSet_11 : decode cX5_isSet 11 = .ok (.iload 4, 2) := by decide +kernel
theorem dX5_isSet_13 : decode cX5_isSet 13 = .ok (.aload_n 0, 1) := by decide +kernel
theorem dX5_isSet_14 : decode cX5_isSet 14 = .ok (.getfield 114, 3) := by decide +kernel
theorem dX5_isSet_17 : decode cX5_isSet 17 = .ok (.if_icmp .ge 59, 3) := by decide +kernel
theorem dX5_isSet_20 : decode cX5_isSet 20 = .ok (.iload_n 3, 1) := by decide +kernel
theorem dX5_isSet_21 : decode cX5_isSet 21 = .ok (.aload_n 0, 1) := by decide +kernel
theorem dX5_isSet_22 : decode cX5_isSet 22 = .ok (.getfield 111, 3) := by decide +kernel
theorem dX5_isSet_25 : decode cX5_isSet 25 = .ok (.irem, 1) := by decide +kernel
theorem dX5_isSet_26 : decode cX5_isSet 26 = .ok (.istore 5, 2) := by decide +kernel
theorem dX5_isSet_28 : decode cX5_isSet 28 = .ok (.iload_n 2, 1) := by decide +kernel
theorem dX5_isSet_29 : decode cX5_isSet 29 = .ok (.iload 5, 2) := by decide +kernel
theorem dX5_isSet_31 : decode cX5_isSet 31 = .ok (.invokestatic 80, 3) := by decide +kernel
theorem dX5_isSet_34 : decode cX5_isSet 34 = .ok (.ifCond .eq 5, 3) := by decide +kernel
theorem dX5_isSet_37 : decode cX5_isSet 37 = .ok (.iconst 0, 1) := by decide +kernel
theorem dX5_isSet_38 : decode cX5_isSet 38 = .ok (.ireturn, 1) := by decide +kernel
theorem dX5_isSet_39 : decode cX5_isSet 39 = .ok (.iload_n 2, 1) := by decide +kernel
theorem dX5_isSet_40 : decode cX5_isSet 40 = .ok (.iconst 1, 1) := by decide +kernel
theorem dX5_isSet_41 : decode cX5_isSet 41 = .ok (.iload 5, 2) := by decide +kernel
theorem dX5_isSet_43 : decode cX5_isSet 43 = .ok (.ishl, 1) := by decide +kernel
theorem dX5_isSet_44 : decode cX5_isSet 44 = .ok (.ior, 1) := by decide +kernel
theorem dX5_isSet_45 : decode cX5_isSet 45 = .ok (.istore_n 2, 1) := by decide +kernel
theorem dX5_isSet_46 : decode cX5_isSet 46 = .ok (.aload_n 0, 1) := by decide +kernel
theorem dX5_isSet_47 : decode cX5_isSet 47 = .ok (.getfield 25, 3) := by decide +kernel
theorem dX5_isSet_50 : decode cX5_isSet 50 = .ok (.bipush 32, 2) := by decide +kernel
theorem dX5_isSet_52 : decode cX5_isSet 52 = .ok (.iload 4, 2) := by decide +kernel
theorem dX5_isSet_54 : decode cX5_isSet 54 = .ok (.iadd, 1) := by decide +kernel
theorem dX5_isSet_55 : decode cX5_isSet 55 = .ok (.aload_n 0, 1) := by decide +kernel
theorem dX5_isSet_56 : decode cX5_isSet 56 = .ok (.getfield 13, 3) := by decide +kernel
theorem dX5_isSet_59 : decode cX5_isSet 59 = .ok (.iload 5, 2) := by decide +kernel
theorem dX5_isSet_61 : decode cX5_isSet 61 = .ok (.iaload, 1) := by decide +kernel
theorem dX5_isSet_62 : decode cX5_isSet 62 = .ok (.iastore, 1) := by decide +kernel
theorem dX5_isSet_63 : decode cX5_isSet 63 = .ok (.iload_n 3, 1) := by decide +kernel
theorem dX5_isSet_64 : decode cX5_isSet 64 = .ok (.aload_n 0, 1) := by decide +kernel
theorem dX5_isSet_65 : decode cX5_isSet 65 = .ok (.getfield 111, 3) := by decide +kernel
theorem dX5_isSet_68 : decode cX5_isSet 68 = .ok (.idiv, 1) := by decide +kernel
theorem dX5_isSet_69 : decode cX5_isSet 69 = .ok (.istore_n 3, 1) := by decide +kernel
theorem dX5_isSet_70 : decode cX5_isSet 70 = .ok (.iinc 4 1, 3) := by decide +kernel
theorem dX5_isSet_73 : decode cX5_isSet 73 = .ok (.goto (-62), 3) := by decide +kernel
theorem dX5_isSet_76 : decode cX5_isSet 76 = .ok (.iconst 1, 1) := by decide +kernel
theorem dX5_isSet_77 : decode cX5_isSet 77 = .ok (.ireturn, 1) := by decide +kernel
theorem dX5_fit_0 : decode cX5_fit 0 = .ok (.bipush (-9), 2) := by decide +kernel
theorem dX5_fit_2 : decode cX5_fit 2 = .ok (.istore_n 1, 1) := by decide +kernel
theorem dX5_fit_3 : decode cX5_fit 3 = .ok (.aload_n 0, 1) := by decide +kernel
theorem dX5_fit_4 : decode cX5_fit 4 = .ok (.getfield 114, 3) := by decide +kernel
theorem dX5_fit_7 : decode cX5_fit 7 = .ok (.aload_n 0, 1) := by decide +kernel
theorem dX5_fit_8 : decode cX5_fit 8 = .ok (.getfield 111, 3) := by decide +kernel
theorem dX5_fit_11 : decode cX5_fit 11 = .ok (.if_icmp .le 7, 3) := by decide +kernel
theorem dX5_fit_14 : decode cX5_fit 14 = .ok (.iconst 0, 1) := by decide +kernel
theorem dX5_fit_15 : decode cX5_fit 15 = .ok (.goto 25, 3) := by decide +kernel
theorem dX5_fit_18 : decode cX5_fit 18 = .ok (.aload_n 0, 1) := by decide +kernel
theorem dX5_fit_19 : decode cX5_fit 19 = .ok (.getfield 114, 3) := by decide +kernel
theorem dX5_fit_22 : decode cX5_fit 22 = .ok (.ifCond .ne 7, 3) := by decide +kernel
theorem dX5_fit_25 : decode cX5_fit 25 = .ok (.iconst 1, 1) := by decide +kernel
theorem dX5_fit_26 : decode cX5_fit 26 = .ok (.goto 14, 3) := by decide +kernel
theorem dX5_fit_29 : decode cX5_fit 29 = .ok (.aload_n 0, 1) := by decide +kernel
theorem dX5_fit_30 : decode cX5_fit 30 = .ok (.getfield 111, 3) := by decide +kernel
theorem dX5_fit_33 : decode cX5_fit 33 = .ok (.aload_n 0, 1) := by decide +kernel
theorem dX5_fit_34 : decode cX5_fit 34 = .ok (.getfield 114, 3) := by decide +kernel
theorem dX5_fit_37 : decode cX5_fit 37 = .ok (.invokestatic 190, 3) := by decide +kernel
theorem dX5_fit_40 : decode cX5_fit 40 = .ok (.istore_n 2, 1) := by decide +kernel
theorem dX5_fit_41 : decode cX5_fit 41 = .ok (.iconst 0, 1) := by decide +kernel
theorem dX5_fit_42 : decode cX5_fit 42 = .ok (.istore_n 3, 1) := by decide +kernel
theorem dX5_fit_43 : decode cX5_fit 43 = .ok (.iload_n 3, 1) := by decide +kernel
theorem dX5_fit_44 : decode cX5_fit 44 = .ok (.iload_n 2, 1) := by decide +kernel
theorem dX5_fit_45 : decode cX5_fit 45 = .ok (.if_icmp .ge 42, 3) := by decide +kernel
theorem dX5_fit_48 : decode cX5_fit 48 = .ok (.aload_n 0, 1) := by decide +kernel
theorem dX5_fit_49 : decode cX5_fit 49 = .ok (.iload_n 3, 1) := by decide +kernel
theorem dX5_fit_50 : decode cX5_fit 50 = .ok (.invokevirtual 193, 3) := by decide +kernel
theorem dX5_fit_53 : decode cX5_fit 53 = .ok (.ifCond .eq 28, 3) := by decide +kernel
theorem dX5_fit_56 : decode cX5_fit 56 = .ok (.aload_n 0, 1) := by decide +kernel
theorem dX5_fit_57 : decode cX5_fit 57 = .ok (.iconst 4, 1) := by decide +kernel
theorem dX5_fit_58 : decode cX5_fit 58 = .ok (.invokevirtual 183, 3) := by decide +kernel
theorem dX5_fit_61 : decode cX5_fit 61 = .ok (.aload_n 0, 1) := by decide +kernel
theorem dX5_fit_62 : decode cX5_fit 62 = .ok (.iconst 1, 1) := by decide +kernel
theorem dX5_fit_63 : decode cX5_fit 63 = .ok (.invokevirtual 169, 3) := by decide +kernel
theorem dX5_fit_66 : decode cX5_fit 66 = .ok (.istore 4, 2) := by decide +kernel
theorem dX5_fit_68 : decode cX5_fit 68 = .ok (.iload 4, 2) := by decide +kernel
theorem dX5_fit_70 : decode cX5_fit 70 = .ok (.iload_n 1, 1) := by decide +kernel
theorem dX5_fit_71 : decode cX5_fit 71 = .ok (.if_icmp .le 8, 3) := by decide +kernel
theorem dX5_fit_74 : decode cX5_fit 74 = .ok (.iload 4, 2) := by decide +kernel
theorem dX5_fit_76 : decode cX5_fit 76 = .ok (.goto 4, 3) := by decide +kernel
theorem dX5_fit_79 : decode cX5_fit 79 = .ok (.iload_n 1, 1) := by decide +kernel
theorem dX5_fit_80 : decode cX5_fit 80 = .ok (.istore_n 1, 1) := by decide +kernel
theorem dX5_fit_81 : decode cX5_fit 81 = .ok (.iinc 3 1, 3) := by decide +kernel
theorem dX5_fit_84 : decode cX5_fit 84 = .ok (.goto (-41), 3) := by decide +kernel
theorem dX5_fit_87 : decode cX5_fit 87 = .ok (.iload_n 1, 1) := by decide +kernel
theorem dX5_fit_88 : decode cX5_fit 88 = .ok (.ireturn, 1) := by decide +kernel
theorem dX5_tryThing_0 : decode cX5_tryThing 0 = .ok (.iload_n 1, 1) := by decide +kernel
theorem dX5_tryThing_1 : decode cX5_tryThing 1 = .ok (.tableswitch 241 0 4 #[35, 55, 108, 152, 194], 35) := by decide +kernel
theorem dX5_tryThing_36 : decode cX5_tryThing 36 = .ok (.aload_n 0, 1) := by decide +kernel
theorem dX5_tryThing_37 : decode cX5_tryThing 37 = .ok (.iconst 1, 1) := by decide +kernel
theorem dX5_tryThing_38 : decode cX5_tryThing 38 = .ok (.iconst 1, 1) := by decide +kernel
theorem dX5_tryThing_39 : decode cX5_tryThing 39 = .ok (.invokevirtual 165, 3) := by decide +kernel
theorem dX5_tryThing_42 : decode cX5_tryThing 42 = .ok (.iload_n 2, 1) := by decide +kernel
theorem dX5_tryThing_43 : decode cX5_tryThing 43 = .ok (.ifCond .ne 11, 3) := by decide +kernel
theorem dX5_tryThing_46 : decode cX5_tryThing 46 = .ok (.iload_n 3, 1) := by decide +kernel
theorem dX5_tryThing_47 : decode cX5_tryThing 47 = .ok (.ifCond .ne 7, 3) := by decide +kernel
theorem dX5_tryThing_50 : decode cX5_tryThing 50 = .ok (.iconst 1, 1) := by decide +kernel
theorem dX5_tryThing_51 : decode cX5_tryThing 51 = .ok (.goto 4, 3) := by decide +kernel
theorem dX5_tryThing_54 : decode cX5_tryThing 54 = .ok (.iconst 0, 1) := by decide +kernel
theorem dX5_tryThing_55 : decode cX5_tryThing 55 = .ok (.ireturn, 1) := by decide +kernel
theorem dX5_tryThing_56 : decode cX5_tryThing 56 = .ok (.aload_n 0, 1) := by decide +kernel
theorem dX5_tryThing_57 : decode cX5_tryThing 57 = .ok (.iload_n 2, 1) := by decide +kernel
theorem dX5_tryThing_58 : decode cX5_tryThing 58 = .ok (.invokevirtual 153, 3) := by decide +kernel
theorem dX5_tryThing_61 : decode cX5_tryThing 61 = .ok (.ifCond .eq 27, 3) := by decide +kernel
theorem dX5_tryThing_64 : decode cX5_tryThing 64 = .ok (.iload_n 3, 1) := by decide +kernel
theorem dX5_tryThing_65 : decode cX5_tryThing 65 = .ok (.invokestatic 172, 3) := by decide +kernel
theorem dX5_tryThing_68 : decode cX5_tryThing 68 = .ok (.ifCond .eq 20, 3) := by decide +kernel
theorem dX5_tryThing_71 : decode cX5_tryThing 71 = .ok (.aload_n 0, 1) := by decide +kernel
theorem dX5_tryThing_72 : decode cX5_tryThing 72 = .ok (.getfield 25, 3) := by decide +kernel
theorem dX5_tryThing_75 : decode cX5_tryThing 75 = .ok (.bipush 32, 2) := by decide +kernel
theorem dX5_tryThing_77 : decode cX5_tryThing 77 = .ok (.iload_n 2, 1) := by decide +kernel
theorem dX5_tryThing_78 : decode cX5_tryThing 78 = .ok (.iadd, 1) := by decide +kernel
theorem dX5_tryThing_79 : decode cX5_tryThing 79 = .ok (.iaload, 1) := by decide +kernel
theorem dX5_tryThing_80 : decode cX5_tryThing 80 = .ok (.iload_n 3, 1) := by decide +kernel
theorem dX5_tryThing_81 : decode cX5_tryThing 81 = .ok (.if_icmp .eq 7, 3) := by decide +kernel
theorem dX5_tryThing_84 : decode cX5_tryThing 84 = .ok (.iconst 1, 1) := by decide +kernel
theorem dX5_tryThing_85 : decode cX5_tryThing 85 = .ok (.goto 4, 3) := by decide +kernel
theorem dX5_tryThing_88 : decode cX5_tryThing 88 = .ok (.iconst 0, 1) := by decide +kernel
theorem dX5_tryThing_89 : decode cX5_tryThing 89 = .ok (.istore 4, 2) := by decide +kernel
theorem dX5_tryThing_91 : decode cX5_tryThing 91 = .ok (.iload 4, 2) := by decide +kernel
theorem dX5_tryThing_93 : decode cX5_tryThing 93 = .ok (.ifCond .eq 13, 3) := by decide +kernel
theorem dX5_tryThing_96 : decode cX5_tryThing 96 = .ok (.aload_n 0, 1) := by decide +kernel
theorem dX5_tryThing_97 : decode cX5_tryThing 97 = .ok (.getfield 25, 3) := by decide +kernel
theorem dX5_tryThing_100 : decode cX5_tryThing 100 = .ok (.bipush 32, 2) := by decide +kernel
theorem dX5_tryThing_102 : decode cX5_tryThing 102 = .ok (.iload_n 2, 1) := by decide +kernel
theorem dX5_tryThing_103 : decode cX5_tryThing 103 = .ok (.iadd, 1) := by decide +kernel
theorem dX5_tryThing_104 : decode cX5_tryThing 104 = .ok (.iload_n 3, 1) := by decide +kernel
theorem dX5_tryThing_105 : decode cX5_tryThing 105 = .ok (.iastore, 1) := by decide +kernel
theorem dX5_tryThing_106 : decode cX5_tryThing 106 = .ok (.iload 4, 2) := by decide +kernel
theorem dX5_tryThing_108 : decode cX5_tryThing 108 = .ok (.ireturn, 1) := by decide +kernel
theorem dX5_tryThing_109 : decode cX5_tryThing 109 = .ok (.iload_n 2, 1) := by decide +kernel
theorem dX5_tryThing_110 : decode cX5_tryThing 110 = .ok (.ifCond .ne 15, 3) := by decide +kernel
theorem dX5_tryThing_113 : decode cX5_tryThing 113 = .ok (.aload_n 0, 1) := by decide +kernel
theorem dX5_tryThing_114 : decode cX5_tryThing 114 = .ok (.iload_n 3, 1) := by decide +kernel
theorem dX5_tryThing_115 : decode cX5_tryThing 115 = .ok (.invokevirtual 153, 3) := by decide +kernel
theorem dX5_tryThing_118 : decode cX5_tryThing 118 = .ok (.ifCond .eq 7, 3) := by decide +kernel
theorem dX5_tryThing_121 : decode cX5_tryThing 121 = .ok (.iconst 1, 1) := by decide +kernel
theorem dX5_tryThing_122 : decode cX5_tryThing 122 = .ok (.goto 4, 3) := by decide +kernel
theorem dX5_tryThing_125 : decode cX5_tryThing 125 = .ok (.iconst 0, 1) := by decide +kernel
theorem dX5_tryThing_126 : decode cX5_tryThing 126 = .ok (.istore 5, 2) := by decide +kernel
theorem dX5_tryThing_128 : decode cX5_tryThing 128 = .ok (.aload_n 0, 1) := by decide +kernel
theorem dX5_tryThing_129 : decode cX5_tryThing 129 = .ok (.getfield 25, 3) := by decide +kernel
theorem dX5_tryThing_132 : decode cX5_tryThing 132 = .ok (.bipush 37, 2) := by decide +kernel
theorem dX5_tryThing_134 : decode cX5_tryThing 134 = .ok (.dup2, 1) := by decide +kernel
theorem dX5_tryThing_135 : decode cX5_tryThing 135 = .ok (.iaload, 1) := by decide +kernel
theorem dX5_tryThing_136 : decode cX5_tryThing 136 = .ok (.iload 5, 2) := by decide +kernel
theorem dX5_tryThing_138 : decode cX5_tryThing 138 = .ok (.ifCond .eq 9, 3) := by decide +kernel
theorem dX5_tryThing_141 : decode cX5_tryThing 141 = .ok (.iconst 1, 1) := by decide +kernel
theorem dX5_tryThing_142 : decode cX5_tryThing 142 = .ok (.iload_n 3, 1) := by decide +kernel
theorem dX5_tryThing_143 : decode cX5_tryThing 143 = .ok (.ishl, 1) := by decide +kernel
theorem dX5_tryThing_144 : decode cX5_tryThing 144 = .ok (.goto 4, 3) := by decide +kernel
theorem dX5_tryThing_147 : decode cX5_tryThing 147 = .ok (.iconst 0, 1) := by decide +kernel
theorem dX5_tryThing_148 : decode cX5_tryThing 148 = .ok (.ixor, 1) := by decide +kernel
theorem dX5_tryThing_149 : decode cX5_tryThing 149 = .ok (.iastore, 1) := by decide +kernel
theorem dX5_tryThing_150 : decode cX5_tryThing 150 = .ok (.iload 5, 2) := by decide +kernel
theorem dX5_tryThing_152 : decode cX5_tryThing 152 = .ok (.ireturn, 1) := by decide +kernel
theorem dX5_tryThing_153 : decode cX5_tryThing 153 = .ok (.iload_n 2, 1) := by decide +kernel
theorem dX5_tryThing_154 : decode cX5_tryThing 154 = .ok (.ifCond .ne 24, 3) := by decide +kernel
theorem dX5_tryThing_157 : decode cX5_tryThing 157 = .ok (.aload_n 0, 1) := by decide +kernel
theorem dX5_tryThing_158 : decode cX5_tryThing 158 = .ok (.iload_n 3, 1) := by decide +kernel
theorem dX5_tryThing_159 : decode cX5_tryThing 159 = .ok (.invokevirtual 153, 3) := by decide +kernel
theorem dX5_tryThing_162 : decode cX5_tryThing 162 = .ok (.ifCond .eq 16, 3) := by decide +kernel
theorem dX5_tryThing_165 : decode cX5_tryThing 165 = .ok (.aload_n 0, 1) := by decide +kernel
theorem dX5_tryThing_166 : decode cX5_tryThing 166 = .ok (.iconst 1, 1) := by decide +kernel
theorem dX5_tryThing_167 : decode cX5_tryThing 167 = .ok (.iload_n 3, 1) := by decide +kernel
theorem dX5_tryThing_168 : decode cX5_tryThing 168 = .ok (.invokevirtual 143, 3) := by decide +kernel
theorem dX5_tryThing_171 : decode cX5_tryThing 171 = .ok (.ifCond .le 7, 3) := by decide +kernel
theorem dX5_tryThing_174 : decode cX5_tryThing 174 = .ok (.iconst 1, 1) := by decide +kernel
theorem dX5_tryThing_175 : decode cX5_tryThing 175 = .ok (.goto 4, 3) := by decide +kernel
theorem dX5_tryThing_178 : decode cX5_tryThing 178 = .ok (.iconst 0, 1) := by decide +kernel
theorem dX5_tryThing_179 : decode cX5_tryThing 179 = .ok (.istore 6, 2) := by decide +kernel
theorem dX5_tryThing_181 : decode cX5_tryThing 181 = .ok (.iload 6, 2) := by decide +kernel
theorem dX5_tryThing_183 : decode cX5_tryThing 183 = .ok (.ifCond .eq 9, 3) := by decide +kernel
theorem dX5_tryThing_186 : decode cX5_tryThing 186 = .ok (.aload_n 0, 1) := by decide +kernel
theorem dX5_tryThing_187 : decode cX5_tryThing 187 = .ok (.iconst 1, 1) := by decide +kernel
theorem dX5_tryThing_188 : decode cX5_tryThing 188 = .ok (.iload_n 3, 1) := by decide +kernel
theorem dX5_tryThing_189 : decode cX5_tryThing 189 = .ok (.invokevirtual 175, 3) := by decide +kernel
theorem dX5_tryThing_192 : decode cX5_tryThing 192 = .ok (.iload 6, 2) := by decide +kernel
theorem dX5_tryThing_194 : decode cX5_tryThing 194 = .ok (.ireturn, 1) := by decide +kernel
theorem dX5_tryThing_195 : decode cX5_tryThing 195 = .ok (.aload_n 0, 1) := by decide +kernel
theorem dX5_tryThing_196 : decode cX5_tryThing 196 = .ok (.iload_n 2, 1) := by decide +kernel
theorem dX5_tryThing_197 : decode cX5_tryThing 197 = .ok (.invokevirtual 153, 3) := by decide +kernel
theorem dX5_tryThing_200 : decode cX5_tryThing 200 = .ok (.ifCond .eq 40, 3) := by decide +kernel
theorem dX5_tryThing_203 : decode cX5_tryThing 203 = .ok (.iload_n 3, 1) := by decide +kernel
theorem dX5_tryThing_204 : decode cX5_tryThing 204 = .ok (.bipush 10, 2) := by decide +kernel
theorem dX5_tryThing_206 : decode cX5_tryThing 206 = .ok (.idiv, 1) := by decide +kernel
theorem dX5_tryThing_207 : decode cX5_tryThing 207 = .ok (.invokestatic 156, 3) := by decide +kernel
theorem dX5_tryThing_210 : decode cX5_tryThing 210 = .ok (.ifCond .eq 30, 3) := by decide +kernel
theorem dX5_tryThing_213 : decode cX5_tryThing 213 = .ok (.aload_n 0, 1) := by decide +kernel
theorem dX5_tryThing_214 : decode cX5_tryThing 214 = .ok (.getfield 25, 3) := by decide +kernel
theorem dX5_tryThing_217 : decode cX5_tryThing 217 = .ok (.bipush 38, 2) := by decide +kernel
theorem dX5_tryThing_219 : decode cX5_tryThing 219 = .ok (.iconst 5, 1) := by decide +kernel
theorem dX5_tryThing_220 : decode cX5_tryThing 220 = .ok (.iload_n 2, 1) := by decide +kernel
theorem dX5_tryThing_221 : decode cX5_tryThing 221 = .ok (.imul, 1) := by decide +kernel
theorem dX5_tryThing_222 : decode cX5_tryThing 222 = .ok (.iadd, 1) := by decide +kernel
theorem dX5_tryThing_223 : decode cX5_tryThing 223 = .ok (.iload_n 3, 1) := by decide +kernel
theorem dX5_tryThing_224 : decode cX5_tryThing 224 = .ok (.bipush 10, 2) := by decide +kernel
theorem dX5_tryThing_226 : decode cX5_tryThing 226 = .ok (.idiv, 1) := by decide +kernel
theorem dX5_tryThing_227 : decode cX5_tryThing 227 = .ok (.iadd, 1) := by decide +kernel
theorem dX5_tryThing_228 : decode cX5_tryThing 228 = .ok (.iaload, 1) := by decide +kernel
theorem dX5_tryThing_229 : decode cX5_tryThing 229 = .ok (.iload_n 3, 1) := by decide +kernel
theorem dX5_tryThing_230 : decode cX5_tryThing 230 = .ok (.bipush 10, 2) := by decide +kernel
theorem dX5_tryThing_232 : decode cX5_tryThing 232 = .ok (.irem, 1) := by decide +kernel
theorem dX5_tryThing_233 : decode cX5_tryThing 233 = .ok (.if_icmp .lt 7, 3) := by decide +kernel
theorem dX5_tryThing_236 : decode cX5_tryThing 236 = .ok (.iconst 1, 1) := by decide +kernel
theorem dX5_tryThing_237 : decode cX5_tryThing 237 = .ok (.goto 4, 3) := by decide +kernel
theorem dX5_tryThing_240 : decode cX5_tryThing 240 = .ok (.iconst 0, 1) := by decide +kernel
theorem dX5_tryThing_241 : decode cX5_tryThing 241 = .ok (.ireturn, 1) := by decide +kernel
theorem dX5_tryThing_242 : decode cX5_tryThing 242 = .ok (.iconst 0, 1) := by decide +kernel
theorem dX5_tryThing_243 : decode cX5_tryThing 243 = .ok (.ireturn, 1) := by decide +kernel
theorem dX5_longPower_0 : decode cX5_longPower 0 = .ok (.lconst 1, 1) := by decide +kernel
theorem dX5_longPower_1 : decode cX5_longPower 1 = .ok (.lstore_n 3, 1) := by decide +kernel
theorem dX5_longPower_2 : decode cX5_longPower 2 = .ok (.iconst 0, 1) := by decide +kernel
theorem dX5_longPower_3 : decode cX5_longPower 3 = .ok (.istore 5, 2) := by decide +kernel
theorem dX5_longPower_5 : decode cX5_longPower 5 = .ok (.iload 5, 2) := by decide +kernel
theorem dX5_longPower_7 : decode cX5_longPower 7 = .ok (.iload_n 2, 1) := by decide +kernel
theorem dX5_longPower_8 : decode cX5_longPower 8 = .ok (.if_icmp .ge 13, 3) := by decide +kernel
theorem dX5_longPower_11 : decode cX5_longPower 11 = .ok (.lload_n 3, 1) := by decide +kernel
theorem dX5_longPower_12 : decode cX5_longPower 12 = .ok (.lload_n 0, 1) := by decide +kernel
theorem dX5_longPower_13 : decode cX5_longPower 13 = .ok (.lmul, 1) := by decide +kernel
theorem dX5_longPower_14 : decode cX5_longPower 14 = .ok (.lstore_n 3, 1) := by decide +kernel
theorem dX5_longPower_15 : decode cX5_longPower 15 = .ok (.iinc 5 1, 3) := by decide +kernel
theorem dX5_longPower_18 : decode cX5_longPower 18 = .ok (.goto (-13), 3) := by decide +kernel
theorem dX5_longPower_21 : decode cX5_longPower 21 = .ok (.lload_n 3, 1) := by decide +kernel
theorem dX5_longPower_22 : decode cX5_longPower 22 = .ok (.lreturn, 1) := by decide +kernel
theorem dX5_judge_0 : decode cX5_judge 0 = .ok (.iload_n 1, 1) := by decide +kernel
theorem dX5_judge_1 : decode cX5_judge 1 = .ok (.i2l, 1) := by decide +kernel
theorem dX5_judge_2 : decode cX5_judge 2 = .ok (.lconst 1, 1) := by decide +kernel
theorem dX5_judge_3 : decode cX5_judge 3 = .ok (.ldc2_w 120, 3) := by decide +kernel
theorem dX5_judge_6 : decode cX5_judge 6 = .ok (.invokestatic 65, 3) := by decide +kernel
theorem dX5_judge_9 : decode cX5_judge 9 = .ok (.ifCond .eq 21, 3) := by decide +kernel
theorem dX5_judge_12 : decode cX5_judge 12 = .ok (.lload_n 2, 1) := by decide +kernel
theorem dX5_judge_13 : decode cX5_judge 13 = .ok (.lconst 0, 1) := by decide +kernel
theorem dX5_judge_14 : decode cX5_judge 14 = .ok (.lcmp, 1) := by decide +kernel
theorem dX5_judge_15 : decode cX5_judge 15 = .ok (.ifCond .lt 15, 3) := by decide +kernel
theorem dX5_judge_18 : decode cX5_judge 18 = .ok (.lload_n 2, 1) := by decide +kernel
theorem dX5_judge_19 : decode cX5_judge 19 = .ok (.ldc2_w 196, 3) := by decide +kernel
theorem dX5_judge_22 : decode cX5_judge 22 = .ok (.iload_n 1, 1) := by decide +kernel
theorem dX5_judge_23 : decode cX5_judge 23 = .ok (.invokestatic 198, 3) := by decide +kernel
theorem dX5_judge_26 : decode cX5_judge 26 = .ok (.lcmp, 1) := by decide +kernel
theorem dX5_judge_27 : decode cX5_judge 27 = .ok (.ifCond .lt 6, 3) := by decide +kernel
theorem dX5_judge_30 : decode cX5_judge 30 = .ok (.bipush (-2), 2) := by decide +kernel
theorem dX5_judge_32 : decode cX5_judge 32 = .ok (.ireturn, 1) := by decide +kernel
theorem dX5_judge_33 : decode cX5_judge 33 = .ok (.aload_n 0, 1) := by decide +kernel
theorem dX5_judge_34 : decode cX5_judge 34 = .ok (.invokevirtual 180, 3) := by decide +kernel
theorem dX5_judge_37 : decode cX5_judge 37 = .ok (.iconst 0, 1) := by decide +kernel
theorem dX5_judge_38 : decode cX5_judge 38 = .ok (.istore 4, 2) := by decide +kernel
theorem dX5_judge_40 : decode cX5_judge 40 = .ok (.iload 4, 2) := by decide +kernel
theorem dX5_judge_42 : decode cX5_judge 42 = .ok (.iload_n 1, 1) := by decide +kernel
theorem dX5_judge_43 : decode cX5_judge 43 = .ok (.if_icmp .ge 59, 3) := by decide +kernel
theorem dX5_judge_46 : decode cX5_judge 46 = .ok (.lload_n 2, 1) := by decide +kernel
theorem dX5_judge_47 : decode cX5_judge 47 = .ok (.ldc2_w 196, 3) := by decide +kernel
theorem dX5_judge_50 : decode cX5_judge 50 = .ok (.iload_n 1, 1) := by decide +kernel
theorem dX5_judge_51 : decode cX5_judge 51 = .ok (.iconst 1, 1) := by decide +kernel
theorem dX5_judge_52 : decode cX5_judge 52 = .ok (.isub, 1) := by decide +kernel
theorem dX5_judge_53 : decode cX5_judge 53 = .ok (.iload 4, 2) := by decide +kernel
theorem dX5_judge_55 : decode cX5_judge 55 = .ok (.isub, 1) := by decide +kernel
theorem dX5_judge_56 : decode cX5_judge 56 = .ok (.invokestatic 198, 3) := by decide +kernel
theorem dX5_judge_59 : decode cX5_judge 59 = .ok (.ldiv, 1) := by decide +kernel
theorem dX5_judge_60 : decode cX5_judge 60 = .ok (.ldc2_w 196, 3) := by decide +kernel
theorem dX5_judge_63 : decode cX5_judge 63 = .ok (.lrem, 1) := by decide +kernel
theorem dX5_judge_64 : decode cX5_judge 64 = .ok (.l2i, 1) := by decide +kernel
theorem dX5_judge_65 : decode cX5_judge 65 = .ok (.istore 5, 2) := by decide +kernel
theorem dX5_judge_67 : decode cX5_judge 67 = .ok (.aload_n 0, 1) := by decide +kernel
theorem dX5_judge_68 : decode cX5_judge 68 = .ok (.iload 5, 2) := by decide +kernel
theorem dX5_judge_70 : decode cX5_judge 70 = .ok (.sipush 1000, 3) := by decide +kernel
theorem dX5_judge_73 : decode cX5_judge 73 = .ok (.idiv, 1) := by decide +kernel
theorem dX5_judge_74 : decode cX5_judge 74 = .ok (.iload 5, 2) := by decide +kernel
theorem dX5_judge_76 : decode cX5_judge 76 = .ok (.bipush 100, 2) := by decide +kernel
theorem dX5_judge_78 : decode cX5_judge 78 = .ok (.idiv, 1) := by decide +kernel
theorem dX5_judge_79 : decode cX5_judge 79 = .ok (.bipush 10, 2) := by decide +kernel
theorem dX5_judge_81 : decode cX5_judge 81 = .ok (.irem, 1) := by decide +kernel
theorem dX5_judge_82 : decode cX5_judge 82 = .ok (.iload 5, 2) := by decide +kernel
theorem dX5_judge_84 : decode cX5_judge 84 = .ok (.bipush 100, 2) := by decide +kernel
theorem dX5_judge_86 : decode cX5_judge 86 = .ok (.irem, 1) := by decide +kernel
theorem dX5_judge_87 : decode cX5_judge 87 = .ok (.invokevirtual 202, 3) := by decide +kernel
theorem dX5_judge_90 : decode cX5_judge 90 = .ok (.ifCond .ne 6, 3) := by decide +kernel
theorem dX5_judge_93 : decode cX5_judge 93 = .ok (.iload 4, 2) := by decide +kernel
theorem dX5_judge_95 : decode cX5_judge 95 = .ok (.ireturn, 1) := by decide +kernel
theorem dX5_judge_96 : decode cX5_judge 96 = .ok (.iinc 4 1, 3) := by decide +kernel
theorem dX5_judge_99 : decode cX5_judge 99 = .ok (.goto (-59), 3) := by decide +kernel
theorem dX5_judge_102 : decode cX5_judge 102 = .ok (.bipush (-9), 2) := by decide +kernel
theorem dX5_judge_104 : decode cX5_judge 104 = .ok (.ireturn, 1) := by decide +kernel
theorem dX5_knew_0 : decode cX5_knew 0 = .ok (.iload_n 1, 1) := by decide +kernel
theorem dX5_knew_1 : decode cX5_knew 1 = .ok (.invokestatic 156, 3) := by decide +kernel
theorem dX5_knew_4 : decode cX5_knew 4 = .ok (.ifCond .ne 5, 3) := by decide +kernel
theorem dX5_knew_7 : decode cX5_knew 7 = .ok (.iconst (-1), 1) := by decide +kernel
theorem dX5_knew_8 : decode cX5_knew 8 = .ok (.ireturn, 1) := by decide +kernel
theorem dX5_knew_9 : decode cX5_knew 9 = .ok (.iload_n 2, 1) := by decide +kernel
theorem dX5_knew_10 : decode cX5_knew 10 = .ok (.i2l, 1) := by decide +kernel
theorem dX5_knew_11 : decode cX5_knew 11 = .ok (.lconst 0, 1) := by decide +kernel
theorem dX5_knew_12 : decode cX5_knew 12 = .ok (.ldc2_w 186, 3) := by decide +kernel
theorem dX5_knew_15 : decode cX5_knew 15 = .ok (.invokestatic 65, 3) := by decide +kernel
theorem dX5_knew_18 : decode cX5_knew 18 = .ok (.ifCond .eq 15, 3) := by decide +kernel
theorem dX5_knew_21 : decode cX5_knew 21 = .ok (.iload_n 3, 1) := by decide +kernel
theorem dX5_knew_22 : decode cX5_knew 22 = .ok (.i2l, 1) := by decide +kernel
theorem dX5_knew_23 : decode cX5_knew 23 = .ok (.lconst 0, 1) := by decide +kernel
theorem dX5_knew_24 : decode cX5_knew 24 = .ok (.ldc2_w 186, 3) := by decide +kernel
theorem dX5_knew_27 : decode cX5_knew 27 = .ok (.invokestatic 65, 3) := by decide +kernel
theorem dX5_knew_30 : decode cX5_knew 30 = .ok (.ifCond .ne 6, 3) := by decide +kernel
theorem dX5_knew_33 : decode cX5_knew 33 = .ok (.bipush (-2), 2) := by decide +kernel
theorem dX5_knew_35 : decode cX5_knew 35 = .ok (.ireturn, 1) := by decide +kernel
theorem dX5_knew_36 : decode cX5_knew 36 = .ok (.aload_n 0, 1) := by decide +kernel
theorem dX5_knew_37 : decode cX5_knew 37 = .ok (.getfield 206, 3) := by decide +kernel
theorem dX5_knew_40 : decode cX5_knew 40 = .ok (.bipush 6, 2) := by decide +kernel
theorem dX5_knew_42 : decode cX5_knew 42 = .ok (.if_icmp .ne 6, 3) := by decide +kernel
theorem dX5_knew_45 : decode cX5_knew 45 = .ok (.bipush (-4), 2) := by decide +kernel
theorem dX5_knew_47 : decode cX5_knew 47 = .ok (.ireturn, 1) := by decide +kernel
theorem dX5_knew_48 : decode cX5_knew 48 = .ok (.aload_n 0, 1) := by decide +kernel
theorem dX5_knew_49 : decode cX5_knew 49 = .ok (.getfield 47, 3) := by decide +kernel
theorem dX5_knew_52 : decode cX5_knew 52 = .ok (.aload_n 0, 1) := by decide +kernel
theorem dX5_knew_53 : decode cX5_knew 53 = .ok (.getfield 206, 3) := by decide +kernel
theorem dX5_knew_56 : decode cX5_knew 56 = .ok (.iload_n 1, 1) := by decide +kernel
theorem dX5_knew_57 : decode cX5_knew 57 = .ok (.iastore, 1) := by decide +kernel
theorem dX5_knew_58 : decode cX5_knew 58 = .ok (.aload_n 0, 1) := by decide +kernel
theorem dX5_knew_59 : decode cX5_knew 59 = .ok (.getfield 50, 3) := by decide +kernel
theorem dX5_knew_62 : decode cX5_knew 62 = .ok (.aload_n 0, 1) := by decide +kernel
theorem dX5_knew_63 : decode cX5_knew 63 = .ok (.getfield 206, 3) := by decide +kernel
theorem dX5_knew_66 : decode cX5_knew 66 = .ok (.iload_n 2, 1) := by decide +kernel
theorem dX5_knew_67 : decode cX5_knew 67 = .ok (.iastore, 1) := by decide +kernel
theorem dX5_knew_68 : decode cX5_knew 68 = .ok (.aload_n 0, 1) := by decide +kernel
theorem dX5_knew_69 : decode cX5_knew 69 = .ok (.getfield 53, 3) := by decide +kernel
theorem dX5_knew_72 : decode cX5_knew 72 = .ok (.aload_n 0, 1) := by decide +kernel
theorem dX5_knew_73 : decode cX5_knew 73 = .ok (.getfield 206, 3) := by decide +kernel
theorem dX5_knew_76 : decode cX5_knew 76 = .ok (.iload_n 3, 1) := by decide +kernel
theorem dX5_knew_77 : decode cX5_knew 77 = .ok (.iastore, 1) := by decide +kernel
theorem dX5_knew_78 : decode cX5_knew 78 = .ok (.aload_n 0, 1) := by decide +kernel
theorem dX5_knew_79 : decode cX5_knew 79 = .ok (.dup, 1) := by decide +kernel
theorem dX5_knew_80 : decode cX5_knew 80 = .ok (.getfield 206, 3) := by decide +kernel
theorem dX5_knew_83 : decode cX5_knew 83 = .ok (.iconst 1, 1) := by decide +kernel
theorem dX5_knew_84 : decode cX5_knew 84 = .ok (.iadd, 1) := by decide +kernel
theorem dX5_knew_85 : decode cX5_knew 85 = .ok (.putfield 206, 3) := by decide +kernel
theorem dX5_knew_88 : decode cX5_knew 88 = .ok (.aload_n 0, 1) := by decide +kernel
theorem dX5_knew_89 : decode cX5_knew 89 = .ok (.getfield 206, 3) := by decide +kernel
theorem dX5_knew_92 : decode cX5_knew 92 = .ok (.ireturn, 1) := by decide +kernel
theorem dX5_forget_0 : decode cX5_forget 0 = .ok (.aload_n 0, 1) := by decide +kernel
theorem dX5_forget_1 : decode cX5_forget 1 = .ok (.getfield 206, 3) := by decide +kernel
theorem dX5_forget_4 : decode cX5_forget 4 = .ok (.istore_n 1, 1) := by decide +kernel
theorem dX5_forget_5 : decode cX5_forget 5 = .ok (.aload_n 0, 1) := by decide +kernel
theorem dX5_forget_6 : decode cX5_forget 6 = .ok (.iconst 0, 1) := by decide +kernel
theorem dX5_forget_7 : decode cX5_forget 7 = .ok (.putfield 206, 3) := by decide +kernel
theorem dX5_forget_10 : decode cX5_forget 10 = .ok (.iload_n 1, 1) := by decide +kernel
theorem dX5_forget_11 : decode cX5_forget 11 = .ok (.ireturn, 1) := by decide +kernel
theorem dX5_wouldKnow_0 : decode cX5_wouldKnow 0 = .ok (.iload_n 1, 1) := by decide +kernel
theorem dX5_wouldKnow_1 : decode cX5_wouldKnow 1 = .ok (.istore 4, 2) := by decide +kernel
theorem dX5_wouldKnow_3 : decode cX5_wouldKnow 3 = .ok (.iconst 0, 1) := by decide +kernel
theorem dX5_wouldKnow_4 : decode cX5_wouldKnow 4 = .ok (.istore 5, 2) := by decide +kernel
theorem dX5_wouldKnow_6 : decode cX5_wouldKnow 6 = .ok (.iconst 0, 1) := by decide +kernel
theorem dX5_wouldKnow_7 : decode cX5_wouldKnow 7 = .ok (.istore 6, 2) := by decide +kernel
theorem dX5_wouldKnow_9 : decode cX5_wouldKnow 9 = .ok (.iload 6, 2) := by decide +kernel
theorem dX5_wouldKnow_11 : decode cX5_wouldKnow 11 = .ok (.iload_n 3, 1) := by decide +kernel
theorem dX5_wouldKnow_12 : decode cX5_wouldKnow 12 = .ok (.if_icmp .ge 68, 3) := by decide +kernel
theorem dX5_wouldKnow_15 : decode cX5_wouldKnow 15 = .ok (.iload 4, 2) := by decide +kernel
theorem dX5_wouldKnow_17 : decode cX5_wouldKnow 17 = .ok (.aload_n 0, 1) := by decide +kernel
theorem dX5_wouldKnow_18 : decode cX5_wouldKnow 18 = .ok (.iload 6, 2) := by decide +kernel
theorem dX5_wouldKnow_20 : decode cX5_wouldKnow 20 = .ok (.invokevirtual 133, 3) := by decide +kernel
theorem dX5_wouldKnow_23 : decode cX5_wouldKnow 23 = .ok (.invokestatic 136, 3) := by decide +kernel
theorem dX5_wouldKnow_26 : decode cX5_wouldKnow 26 = .ok (.istore 4, 2) := by decide +kernel
theorem dX5_wouldKnow_28 : decode cX5_wouldKnow 28 = .ok (.aload_n 0, 1) := by decide +kernel
theorem dX5_wouldKnow_29 : decode cX5_wouldKnow 29 = .ok (.iload 4, 2) := by decide +kernel
theorem dX5_wouldKnow_31 : decode cX5_wouldKnow 31 = .ok (.invokevirtual 122, 3) := by decide +kernel
theorem dX5_wouldKnow_34 : decode cX5_wouldKnow 34 = .ok (.istore 7, 2) := by decide +kernel
theorem dX5_wouldKnow_36 : decode cX5_wouldKnow 36 = .ok (.iload 7, 2) := by decide +kernel
theorem dX5_wouldKnow_38 : decode cX5_wouldKnow 38 = .ok (.bipush (-9), 2) := by decide +kernel
theorem dX5_wouldKnow_40 : decode cX5_wouldKnow 40 = .ok (.if_icmp .eq 30, 3) := by decide +kernel
theorem dX5_wouldKnow_43 : decode cX5_wouldKnow 43 = .ok (.aload_n 0, 1) := by decide +kernel
theorem dX5_wouldKnow_44 : decode cX5_wouldKnow 44 = .ok (.getfield 16, 3) := by decide +kernel
theorem dX5_wouldKnow_47 : decode cX5_wouldKnow 47 = .ok (.iload 7, 2) := by decide +kernel
theorem dX5_wouldKnow_49 : decode cX5_wouldKnow 49 = .ok (.iaload, 1) := by decide +kernel
theorem dX5_wouldKnow_50 : decode cX5_wouldKnow 50 = .ok (.iload_n 2, 1) := by decide +kernel
theorem dX5_wouldKnow_51 : decode cX5_wouldKnow 51 = .ok (.if_icmp .ne 19, 3) := by decide +kernel
theorem dX5_wouldKnow_54 : decode cX5_wouldKnow 54 = .ok (.aload_n 0, 1) := by decide +kernel
theorem dX5_wouldKnow_55 : decode cX5_wouldKnow 55 = .ok (.getfield 19, 3) := by decide +kernel
theorem dX5_wouldKnow_58 : decode cX5_wouldKnow 58 = .ok (.iload 7, 2) := by decide +kernel
theorem dX5_wouldKnow_60 : decode cX5_wouldKnow 60 = .ok (.iaload, 1) := by decide +kernel
theorem dX5_wouldKnow_61 : decode cX5_wouldKnow 61 = .ok (.iload 5, 2) := by decide +kernel
theorem dX5_wouldKnow_63 : decode cX5_wouldKnow 63 = .ok (.iconst 0, 1) := by decide +kernel
theorem dX5_wouldKnow_64 : decode cX5_wouldKnow 64 = .ok (.invokestatic 129, 3) := by decide +kernel
theorem dX5_wouldKnow_67 : decode cX5_wouldKnow 67 = .ok (.goto 5, 3) := by decide +kernel
theorem dX5_wouldKnow_70 : decode cX5_wouldKnow 70 = .ok (.iload 5, 2) := by decide +kernel
theorem dX5_wouldKnow_72 : decode cX5_wouldKnow 72 = .ok (.istore 5, 2) := by decide +kernel
theorem dX5_wouldKnow_74 : decode cX5_wouldKnow 74 = .ok (.iinc 6 1, 3) := by decide +kernel
theorem dX5_wouldKnow_77 : decode cX5_wouldKnow 77 = .ok (.goto (-68), 3) := by decide +kernel
theorem dX5_wouldKnow_80 : decode cX5_wouldKnow 80 = .ok (.iload 5, 2) := by decide +kernel
theorem dX5_wouldKnow_82 : decode cX5_wouldKnow 82 = .ok (.ireturn, 1) := by decide +kernel
theorem dX5_began_0 : decode cX5_began 0 = .ok (.iconst 0, 1) := by decide +kernel
theorem dX5_began_1 : decode cX5_began 1 = .ok (.istore_n 1, 1) := by decide +kernel
theorem dX5_began_2 : decode cX5_began 2 = .ok (.iconst 0, 1) := by decide +kernel
theorem dX5_began_3 : decode cX5_began 3 = .ok (.istore_n 2, 1) := by decide +kernel
theorem dX5_began_4 : decode cX5_began 4 = .ok (.iload_n 2, 1) := by decide +kernel
theorem dX5_began_5 : decode cX5_began 5 = .ok (.bipush 12, 2) := by decide +kernel
theorem dX5_began_7 : decode cX5_began 7 = .ok (.if_icmp .ge 82, 3) := by decide +kernel
theorem dX5_began_10 : decode cX5_began 10 = .ok (.iconst 1, 1) := by decide +kernel
theorem dX5_began_11 : decode cX5_began 11 = .ok (.istore_n 3, 1) := by decide +kernel
theorem dX5_began_12 : decode cX5_began 12 = .ok (.iconst 0, 1) := by decide +kernel
theorem dX5_began_13 : decode cX5_began 13 = .ok (.istore 4, 2) := by decide +kernel
theorem dX5_began_15 : decode cX5_began 15 = .ok (.iload 4, 2) := by decide +kernel
theorem dX5_began_17 : decode cX5_began 17 = .ok (.aload_n 0, 1) := by decide +kernel
theorem dX5_began_18 : decode cX5_began 18 = .ok (.getfield 206, 3) := by decide +kernel
theorem dX5_began_21 : decode cX5_began 21 = .ok (.if_icmp .ge 48, 3) := by decide +kernel
theorem dX5_began_24 : decode cX5_began 24 = .ok (.iload_n 3, 1) := by decide +kernel
theorem dX5_began_25 : decode cX5_began 25 = .ok (.ifCond .eq 36, 3) := by decide +kernel
theorem dX5_began_28 : decode cX5_began 28 = .ok (.aload_n 0, 1) := by decide +kernel
theorem dX5_began_29 : decode cX5_began 29 = .ok (.iload_n 2, 1) := by decide +kernel
theorem dX5_began_30 : decode cX5_began 30 = .ok (.aload_n 0, 1) := by decide +kernel
theorem dX5_began_31 : decode cX5_began 31 = .ok (.getfield 47, 3) := by decide +kernel
theorem dX5_began_34 : decode cX5_began 34 = .ok (.iload 4, 2) := by decide +kernel
theorem dX5_began_36 : decode cX5_began 36 = .ok (.iaload, 1) := by decide +kernel
theorem dX5_began_37 : decode cX5_began 37 = .ok (.aload_n 0, 1) := by decide +kernel
theorem dX5_began_38 : decode cX5_began 38 = .ok (.getfield 50, 3) := by decide +kernel
theorem dX5_began_41 : decode cX5_began 41 = .ok (.iload 4, 2) := by decide +kernel
theorem dX5_began_43 : decode cX5_began 43 = .ok (.iaload, 1) := by decide +kernel
theorem dX5_began_44 : decode cX5_began 44 = .ok (.invokevirtual 209, 3) := by decide +kernel
theorem dX5_began_47 : decode cX5_began 47 = .ok (.aload_n 0, 1) := by decide +kernel
theorem dX5_began_48 : decode cX5_began 48 = .ok (.getfield 53, 3) := by decide +kernel
theorem dX5_began_51 : decode cX5_began 51 = .ok (.iload 4, 2) := by decide +kernel
theorem dX5_began_53 : decode cX5_began 53 = .ok (.iaload, 1) := by decide +kernel
theorem dX5_began_54 : decode cX5_began 54 = .ok (.if_icmp .ne 7, 3) := by decide +kernel
theorem dX5_began_57 : decode cX5_began 57 = .ok (.iconst 1, 1) := by decide +kernel
theorem dX5_began_58 : decode cX5_began 58 = .ok (.goto 4, 3) := by decide +kernel
theorem dX5_began_61 : decode cX5_began 61 = .ok (.iconst 0, 1) := by decide +kernel
theorem dX5_began_62 : decode cX5_began 62 = .ok (.istore_n 3, 1) := by decide +kernel
theorem dX5_began_63 : decode cX5_began 63 = .ok (.iinc 4 1, 3) := by decide +kernel
theorem dX5_began_66 : decode cX5_began 66 = .ok (.goto (-51), 3) := by decide +kernel
theorem dX5_began_69 : decode cX5_began 69 = .ok (.iload_n 1, 1) := by decide +kernel
theorem dX5_began_70 : decode cX5_began 70 = .ok (.iload_n 3, 1) := by decide +kernel
theorem dX5_began_71 : decode cX5_began 71 = .ok (.ifCond .eq 9, 3) := by decide +kernel
theorem dX5_began_74 : decode cX5_began 74 = .ok (.iconst 1, 1) := by decide +kernel
theorem dX5_began_75 : decode cX5_began 75 = .ok (.iload_n 2, 1) := by decide +kernel
theorem dX5_began_76 : decode cX5_began 76 = .ok (.ishl, 1) := by decide +kernel
theorem dX5_began_77 : decode cX5_began 77 = .ok (.goto 4, 3) := by decide +kernel
theorem dX5_began_80 : decode cX5_began 80 = .ok (.iconst 0, 1) := by decide +kernel
theorem dX5_began_81 : decode cX5_began 81 = .ok (.ior, 1) := by decide +kernel
theorem dX5_began_82 : decode cX5_began 82 = .ok (.istore_n 1, 1) := by decide +kernel
theorem dX5_began_83 : decode cX5_began 83 = .ok (.iinc 2 1, 3) := by decide +kernel
theorem dX5_began_86 : decode cX5_began 86 = .ok (.goto (-82), 3) := by decide +kernel
theorem dX5_began_89 : decode cX5_began 89 = .ok (.iload_n 1, 1) := by decide +kernel
theorem dX5_began_90 : decode cX5_began 90 = .ok (.ireturn, 1) := by decide +kernel
theorem dX5_factorial_0 : decode cX5_factorial 0 = .ok (.iconst 1, 1) := by decide +kernel
theorem dX5_factorial_1 : decode cX5_factorial 1 = .ok (.istore_n 1, 1) := by decide +kernel
theorem dX5_factorial_2 : decode cX5_factorial 2 = .ok (.iconst 2, 1) := by decide +kernel
theorem dX5_factorial_3 : decode cX5_factorial 3 = .ok (.istore_n 2, 1) := by decide +kernel
theorem dX5_factorial_4 : decode cX5_factorial 4 = .ok (.iload_n 2, 1) := by decide +kernel
theorem dX5_factorial_5 : decode cX5_factorial 5 = .ok (.iload_n 0, 1) := by decide +kernel
theorem dX5_factorial_6 : decode cX5_factorial 6 = .ok (.if_icmp .gt 13, 3) := by decide +kernel
theorem dX5_factorial_9 : decode cX5_factorial 9 = .ok (.iload_n 1, 1) := by decide +kernel
theorem dX5_factorial_10 : decode cX5_factorial 10 = .ok (.iload_n 2, 1) := by decide +kernel
theorem dX5_factorial_11 : decode cX5_factorial 11 = .ok (.imul, 1) := by decide +kernel
theorem dX5_factorial_12 : decode cX5_factorial 12 = .ok (.istore_n 1, 1) := by decide +kernel
theorem dX5_factorial_13 : decode cX5_factorial 13 = .ok (.iinc 2 1, 3) := by decide +kernel
theorem dX5_factorial_16 : decode cX5_factorial 16 = .ok (.goto (-12), 3) := by decide +kernel
theorem dX5_factorial_19 : decode cX5_factorial 19 = .ok (.iload_n 1, 1) := by decide +kernel
theorem dX5_factorial_20 : decode cX5_factorial 20 = .ok (.ireturn, 1) := by decide +kernel
theorem dX5_common_0 : decode cX5_common 0 = .ok (.iload_n 0, 1) := by decide +kernel
theorem dX5_common_1 : decode cX5_common 1 = .ok (.ifCond .ge 8, 3) := by decide +kernel
theorem dX5_common_4 : decode cX5_common 4 = .ok (.iload_n 0, 1) := by decide +kernel
theorem dX5_common_5 : decode cX5_common 5 = .ok (.ineg, 1) := by decide +kernel
theorem dX5_common_6 : decode cX5_common 6 = .ok (.goto 4, 3) := by decide +kernel
theorem dX5_common_9 : decode cX5_common 9 = .ok (.iload_n 0, 1) := by decide +kernel
theorem dX5_common_10 : decode cX5_common 10 = .ok (.istore_n 2, 1) := by decide +kernel
theorem dX5_common_11 : decode cX5_common 11 = .ok (.iload_n 1, 1) := by decide +kernel
theorem dX5_common_12 : decode cX5_common 12 = .ok (.istore_n 3, 1) := by decide +kernel
theorem dX5_common_13 : decode cX5_common 13 = .ok (.iload_n 3, 1) := by decide +kernel
theorem dX5_common_14 : decode cX5_common 14 = .ok (.ifCond .eq 16, 3) := by decide +kernel
theorem dX5_common_17 : decode cX5_common 17 = .ok (.iload_n 2, 1) := by decide +kernel
theorem dX5_common_18 : decode cX5_common 18 = .ok (.iload_n 3, 1) := by decide +kernel
theorem dX5_common_19 : decode cX5_common 19 = .ok (.irem, 1) := by decide +kernel
theorem dX5_common_20 : decode cX5_common 20 = .ok (.istore 4, 2) := by decide +kernel
theorem dX5_common_22 : decode cX5_common 22 = .ok (.iload_n 3, 1) := by decide +kernel
theorem dX5_common_23 : decode cX5_common 23 = .ok (.istore_n 2, 1) := by decide +kernel
theorem dX5_common_24 : decode cX5_common 24 = .ok (.iload 4, 2) := by decide +kernel
theorem dX5_common_26 : decode cX5_common 26 = .ok (.istore_n 3, 1) := by decide +kernel
theorem dX5_common_27 : decode cX5_common 27 = .ok (.goto (-14), 3) := by decide +kernel
theorem dX5_common_30 : decode cX5_common 30 = .ok (.iload_n 2, 1) := by decide +kernel
theorem dX5_common_31 : decode cX5_common 31 = .ok (.ireturn, 1) := by decide +kernel
theorem dX5_weightBy_0 : decode cX5_weightBy 0 = .ok (.aload_n 0, 1) := by decide +kernel
theorem dX5_weightBy_1 : decode cX5_weightBy 1 = .ok (.iload_n 1, 1) := by decide +kernel
theorem dX5_weightBy_2 : decode cX5_weightBy 2 = .ok (.putfield 40, 3) := by decide +kernel
theorem dX5_weightBy_5 : decode cX5_weightBy 5 = .ok (.aload_n 0, 1) := by decide +kernel
theorem dX5_weightBy_6 : decode cX5_weightBy 6 = .ok (.invokevirtual 180, 3) := by decide +kernel
theorem dX5_weightBy_9 : decode cX5_weightBy 9 = .ok (.aload_n 0, 1) := by decide +kernel
theorem dX5_weightBy_10 : decode cX5_weightBy 10 = .ok (.bipush 6, 2) := by decide +kernel
theorem dX5_weightBy_12 : decode cX5_weightBy 12 = .ok (.invokevirtual 183, 3) := by decide +kernel
theorem dX5_weightBy_15 : decode cX5_weightBy 15 = .ok (.aload_n 0, 1) := by decide +kernel
theorem dX5_weightBy_16 : decode cX5_weightBy 16 = .ok (.bipush 63, 2) := by decide +kernel
theorem dX5_weightBy_18 : decode cX5_weightBy 18 = .ok (.putfield 40, 3) := by decide +kernel
theorem dX5_weightBy_21 : decode cX5_weightBy 21 = .ok (.aload_n 0, 1) := by decide +kernel
theorem dX5_weightBy_22 : decode cX5_weightBy 22 = .ok (.iconst 1, 1) := by decide +kernel
theorem dX5_weightBy_23 : decode cX5_weightBy 23 = .ok (.iload_n 2, 1) := by decide +kernel
theorem dX5_weightBy_24 : decode cX5_weightBy 24 = .ok (.invokevirtual 143, 3) := by decide +kernel
theorem dX5_weightBy_27 : decode cX5_weightBy 27 = .ok (.ireturn, 1) := by decide +kernel
theorem dX5_share_0 : decode cX5_share 0 = .ok (.aload_n 0, 1) := by decide +kernel
theorem dX5_share_1 : decode cX5_share 1 = .ok (.iload_n 1, 1) := by decide +kernel
theorem dX5_share_2 : decode cX5_share 2 = .ok (.invokevirtual 146, 3) := by decide +kernel
theorem dX5_share_5 : decode cX5_share 5 = .ok (.ifCond .eq 11, 3) := by decide +kernel
theorem dX5_share_8 : decode cX5_share 8 = .ok (.aload_n 0, 1) := by decide +kernel
theorem dX5_share_9 : decode cX5_share 9 = .ok (.iload_n 2, 1) := by decide +kernel
theorem dX5_share_10 : decode cX5_share 10 = .ok (.invokevirtual 153, 3) := by decide +kernel
theorem dX5_share_13 : decode cX5_share 13 = .ok (.ifCond .ne 5, 3) := by decide +kernel
theorem dX5_share_16 : decode cX5_share 16 = .ok (.iconst (-1), 1) := by decide +kernel
theorem dX5_share_17 : decode cX5_share 17 = .ok (.ireturn, 1) := by decide +kernel
theorem dX5_share_18 : decode cX5_share 18 = .ok (.iconst 0, 1) := by decide +kernel
theorem dX5_share_19 : decode cX5_share 19 = .ok (.istore 4, 2) := by decide +kernel
theorem dX5_share_21 : decode cX5_share 21 = .ok (.iconst 0, 1) := by decide +kernel
theorem dX5_share_22 : decode cX5_share 22 = .ok (.istore 5, 2) := by decide +kernel
theorem dX5_share_24 : decode cX5_share 24 = .ok (.iload 5, 2) := by decide +kernel
theorem dX5_share_26 : decode cX5_share 26 = .ok (.iconst 1, 1) := by decide +kernel
theorem dX5_share_27 : decode cX5_share 27 = .ok (.aload_n 0, 1) := by decide +kernel
theorem dX5_share_28 : decode cX5_share 28 = .ok (.getfield 111, 3) := by decide +kernel
theorem dX5_share_31 : decode cX5_share 31 = .ok (.ishl, 1) := by decide +kernel
theorem dX5_share_32 : decode cX5_share 32 = .ok (.if_icmp .ge 71, 3) := by decide +kernel
theorem dX5_share_35 : decode cX5_share 35 = .ok (.iload 5, 2) := by decide +kernel
theorem dX5_share_37 : decode cX5_share 37 = .ok (.iload_n 1, 1) := by decide +kernel
theorem dX5_share_38 : decode cX5_share 38 = .ok (.invokestatic 80, 3) := by decide +kernel
theorem dX5_share_41 : decode cX5_share 41 = .ok (.ifCond .ne 56, 3) := by decide +kernel
theorem dX5_share_44 : decode cX5_share 44 = .ok (.iload 5, 2) := by decide +kernel
theorem dX5_share_46 : decode cX5_share 46 = .ok (.invokestatic 213, 3) := by decide +kernel
theorem dX5_share_49 : decode cX5_share 49 = .ok (.invokestatic 216, 3) := by decide +kernel
theorem dX5_share_52 : decode cX5_share 52 = .ok (.aload_n 0, 1) := by decide +kernel
theorem dX5_share_53 : decode cX5_share 53 = .ok (.getfield 111, 3) := by decide +kernel
theorem dX5_share_56 : decode cX5_share 56 = .ok (.iconst 1, 1) := by decide +kernel
theorem dX5_share_57 : decode cX5_share 57 = .ok (.isub, 1) := by decide +kernel
theorem dX5_share_58 : decode cX5_share 58 = .ok (.iload 5, 2) := by decide +kernel
theorem dX5_share_60 : decode cX5_share 60 = .ok (.invokestatic 213, 3) := by decide +kernel
theorem dX5_share_63 : decode cX5_share 63 = .ok (.isub, 1) := by decide +kernel
theorem dX5_share_64 : decode cX5_share 64 = .ok (.invokestatic 216, 3) := by decide +kernel
theorem dX5_share_67 : decode cX5_share 67 = .ok (.imul, 1) := by decide +kernel
theorem dX5_share_68 : decode cX5_share 68 = .ok (.istore 6, 2) := by decide +kernel
theorem dX5_share_70 : decode cX5_share 70 = .ok (.iload 4, 2) := by decide +kernel
theorem dX5_share_72 : decode cX5_share 72 = .ok (.iload 6, 2) := by decide +kernel
theorem dX5_share_74 : decode cX5_share 74 = .ok (.aload_n 0, 1) := by decide +kernel
theorem dX5_share_75 : decode cX5_share 75 = .ok (.iload 5, 2) := by decide +kernel
theorem dX5_share_77 : decode cX5_share 77 = .ok (.iconst 1, 1) := by decide +kernel
theorem dX5_share_78 : decode cX5_share 78 = .ok (.iload_n 1, 1) := by decide +kernel
theorem dX5_share_79 : decode cX5_share 79 = .ok (.ishl, 1) := by decide +kernel
theorem dX5_share_80 : decode cX5_share 80 = .ok (.ior, 1) := by decide +kernel
theorem dX5_share_81 : decode cX5_share 81 = .ok (.iload_n 2, 1) := by decide +kernel
theorem dX5_share_82 : decode cX5_share 82 = .ok (.invokevirtual 219, 3) := by decide +kernel
theorem dX5_share_85 : decode cX5_share 85 = .ok (.aload_n 0, 1) := by decide +kernel
theorem dX5_share_86 : decode cX5_share 86 = .ok (.iload 5, 2) := by decide +kernel
theorem dX5_share_88 : decode cX5_share 88 = .ok (.iload_n 2, 1) := by decide +kernel
theorem dX5_share_89 : decode cX5_share 89 = .ok (.invokevirtual 219, 3) := by decide +kernel
theorem dX5_share_92 : decode cX5_share 92 = .ok (.isub, 1) := by decide +kernel
theorem dX5_share_93 : decode cX5_share 93 = .ok (.imul, 1) := by decide +kernel
theorem dX5_share_94 : decode cX5_share 94 = .ok (.iadd, 1) := by decide +kernel
theorem dX5_share_95 : decode cX5_share 95 = .ok (.istore 4, 2) := by decide +kernel
theorem dX5_share_97 : decode cX5_share 97 = .ok (.iinc 5 1, 3) := by decide +kernel
theorem dX5_share_100 : decode cX5_share 100 = .ok (.goto (-76), 3) := by decide +kernel
theorem dX5_share_103 : decode cX5_share 103 = .ok (.iload 4, 2) := by decide +kernel
theorem dX5_share_105 : decode cX5_share 105 = .ok (.aload_n 0, 1) := by decide +kernel
theorem dX5_share_106 : decode cX5_share 106 = .ok (.getfield 111, 3) := by decide +kernel
theorem dX5_share_109 : decode cX5_share 109 = .ok (.invokestatic 216, 3) := by decide +kernel
theorem dX5_share_112 : decode cX5_share 112 = .ok (.invokestatic 222, 3) := by decide +kernel
theorem dX5_share_115 : decode cX5_share 115 = .ok (.istore 5, 2) := by decide +kernel
theorem dX5_share_117 : decode cX5_share 117 = .ok (.iload_n 3, 1) := by decide +kernel
theorem dX5_share_118 : decode cX5_share 118 = .ok (.ifCond .eq 11, 3) := by decide +kernel
theorem dX5_share_121 : decode cX5_share 121 = .ok (.iload 4, 2) := by decide +kernel
theorem dX5_share_123 : decode cX5_share 123 = .ok (.iload 5, 2) := by decide +kernel
theorem dX5_share_125 : decode cX5_share 125 = .ok (.idiv, 1) := by decide +kernel
theorem dX5_share_126 : decode cX5_share 126 = .ok (.goto 13, 3) := by decide +kernel
theorem dX5_share_129 : decode cX5_share 129 = .ok (.aload_n 0, 1) := by decide +kernel
theorem dX5_share_130 : decode cX5_share 130 = .ok (.getfield 111, 3) := by decide +kernel
theorem dX5_share_133 : decode cX5_share 133 = .ok (.invokestatic 216, 3) := by decide +kernel
theorem dX5_share_136 : decode cX5_share 136 = .ok (.iload 5, 2) := by decide +kernel
theorem dX5_share_138 : decode cX5_share 138 = .ok (.idiv, 1) := by decide +kernel
theorem dX5_share_139 : decode cX5_share 139 = .ok (.ireturn, 1) := by decide +kernel
theorem dX5_gain_0 : decode cX5_gain 0 = .ok (.aload_n 0, 1) := by decide +kernel
theorem dX5_gain_1 : decode cX5_gain 1 = .ok (.invokevirtual 180, 3) := by decide +kernel
theorem dX5_gain_4 : decode cX5_gain 4 = .ok (.aload_n 0, 1) := by decide +kernel
theorem dX5_gain_5 : decode cX5_gain 5 = .ok (.getfield 25, 3) := by decide +kernel
theorem dX5_gain_8 : decode cX5_gain 8 = .ok (.bipush 32, 2) := by decide +kernel
theorem dX5_gain_10 : decode cX5_gain 10 = .ok (.iload_n 1, 1) := by decide +kernel
theorem dX5_gain_11 : decode cX5_gain 11 = .ok (.iadd, 1) := by decide +kernel
theorem dX5_gain_12 : decode cX5_gain 12 = .ok (.aload_n 0, 1) := by decide +kernel
theorem dX5_gain_13 : decode cX5_gain 13 = .ok (.getfield 13, 3) := by decide +kernel
theorem dX5_gain_16 : decode cX5_gain 16 = .ok (.iload_n 3, 1) := by decide +kernel
theorem dX5_gain_17 : decode cX5_gain 17 = .ok (.iaload, 1) := by decide +kernel
theorem dX5_gain_18 : decode cX5_gain 18 = .ok (.iastore, 1) := by decide +kernel
theorem dX5_gain_19 : decode cX5_gain 19 = .ok (.aload_n 0, 1) := by decide +kernel
theorem dX5_gain_20 : decode cX5_gain 20 = .ok (.getfield 25, 3) := by decide +kernel
theorem dX5_gain_23 : decode cX5_gain 23 = .ok (.bipush 32, 2) := by decide +kernel
theorem dX5_gain_25 : decode cX5_gain 25 = .ok (.iload_n 2, 1) := by decide +kernel
theorem dX5_gain_26 : decode cX5_gain 26 = .ok (.iadd, 1) := by decide +kernel
theorem dX5_gain_27 : decode cX5_gain 27 = .ok (.aload_n 0, 1) := by decide +kernel
theorem dX5_gain_28 : decode cX5_gain 28 = .ok (.getfield 13, 3) := by decide +kernel
theorem dX5_gain_31 : decode cX5_gain 31 = .ok (.iload 4, 2) := by decide +kernel
theorem dX5_gain_33 : decode cX5_gain 33 = .ok (.iaload, 1) := by decide +kernel
theorem dX5_gain_34 : decode cX5_gain 34 = .ok (.iastore, 1) := by decide +kernel
theorem dX5_gain_35 : decode cX5_gain 35 = .ok (.aload_n 0, 1) := by decide +kernel
theorem dX5_gain_36 : decode cX5_gain 36 = .ok (.getfield 25, 3) := by decide +kernel
theorem dX5_gain_39 : decode cX5_gain 39 = .ok (.bipush 37, 2) := by decide +kernel
theorem dX5_gain_41 : decode cX5_gain 41 = .ok (.dup2, 1) := by decide +kernel
theorem dX5_gain_42 : decode cX5_gain 42 = .ok (.iaload, 1) := by decide +kernel
theorem dX5_gain_43 : decode cX5_gain 43 = .ok (.iconst 1, 1) := by decide +kernel
theorem dX5_gain_44 : decode cX5_gain 44 = .ok (.iload_n 1, 1) := by decide +kernel
theorem dX5_gain_45 : decode cX5_gain 45 = .ok (.ishl, 1) := by decide +kernel
theorem dX5_gain_46 : decode cX5_gain 46 = .ok (.iconst 1, 1) := by decide +kernel
theorem dX5_gain_47 : decode cX5_gain 47 = .ok (.iload_n 2, 1) := by decide +kernel
theorem dX5_gain_48 : decode cX5_gain 48 = .ok (.ishl, 1) := by decide +kernel
theorem dX5_gain_49 : decode cX5_gain 49 = .ok (.ior, 1) := by decide +kernel
theorem dX5_gain_50 : decode cX5_gain 50 = .ok (.ior, 1) := by decide +kernel
theorem dX5_gain_51 : decode cX5_gain 51 = .ok (.iastore, 1) := by decide +kernel
theorem dX5_gain_52 : decode cX5_gain 52 = .ok (.aload_n 0, 1) := by decide +kernel
theorem dX5_gain_53 : decode cX5_gain 53 = .ok (.iconst 5, 1) := by decide +kernel
theorem dX5_gain_54 : decode cX5_gain 54 = .ok (.invokevirtual 183, 3) := by decide +kernel
theorem dX5_gain_57 : decode cX5_gain 57 = .ok (.aload_n 0, 1) := by decide +kernel
theorem dX5_gain_58 : decode cX5_gain 58 = .ok (.iconst 1, 1) := by decide +kernel
theorem dX5_gain_59 : decode cX5_gain 59 = .ok (.iload 5, 2) := by decide +kernel
theorem dX5_gain_61 : decode cX5_gain 61 = .ok (.invokevirtual 143, 3) := by decide +kernel
theorem dX5_gain_64 : decode cX5_gain 64 = .ok (.ireturn, 1) := by decide +kernel
theorem dX5_isRest_0 : decode cX5_isRest 0 = .ok (.aload_n 0, 1) := by decide +kernel
theorem dX5_isRest_1 : decode cX5_isRest 1 = .ok (.iload_n 1, 1) := by decide +kernel
theorem dX5_isRest_2 : decode cX5_isRest 2 = .ok (.iload_n 2, 1) := by decide +kernel
theorem dX5_isRest_3 : decode cX5_isRest 3 = .ok (.iload_n 3, 1) := by decide +kernel
theorem dX5_isRest_4 : decode cX5_isRest 4 = .ok (.iload 4, 2) := by decide +kernel
theorem dX5_isRest_6 : decode cX5_isRest 6 = .ok (.iload_n 1, 1) := by decide +kernel
theorem dX5_isRest_7 : decode cX5_isRest 7 = .ok (.invokevirtual 225, 3) := by decide +kernel
theorem dX5_isRest_10 : decode cX5_isRest 10 = .ok (.istore 5, 2) := by decide +kernel
theorem dX5_isRest_12 : decode cX5_isRest 12 = .ok (.aload_n 0, 1) := by decide +kernel
theorem dX5_isRest_13 : decode cX5_isRest 13 = .ok (.iload_n 1, 1) := by decide +kernel
theorem dX5_isRest_14 : decode cX5_isRest 14 = .ok (.iload_n 2, 1) := by decide +kernel
theorem dX5_isRest_15 : decode cX5_isRest 15 = .ok (.iload_n 3, 1) := by decide +kernel
theorem dX5_isRest_16 : decode cX5_isRest 16 = .ok (.iload 4, 2) := by decide +kernel
theorem dX5_isRest_18 : decode cX5_isRest 18 = .ok (.iload_n 2, 1) := by decide +kernel
theorem dX5_isRest_19 : decode cX5_isRest 19 = .ok (.invokevirtual 225, 3) := by decide +kernel
theorem dX5_isRest_22 : decode cX5_isRest 22 = .ok (.istore 6, 2) := by decide +kernel
theorem dX5_isRest_24 : decode cX5_isRest 24 = .ok (.iconst 0, 1) := by decide +kernel
theorem dX5_isRest_25 : decode cX5_isRest 25 = .ok (.istore 7, 2) := by decide +kernel
theorem dX5_isRest_27 : decode cX5_isRest 27 = .ok (.iload 7, 2) := by decide +kernel
theorem dX5_isRest_29 : decode cX5_isRest 29 = .ok (.aload_n 0, 1) := by decide +kernel
theorem dX5_isRest_30 : decode cX5_isRest 30 = .ok (.getfield 111, 3) := by decide +kernel
theorem dX5_isRest_33 : decode cX5_isRest 33 = .ok (.if_icmp .ge 42, 3) := by decide +kernel
theorem dX5_isRest_36 : decode cX5_isRest 36 = .ok (.aload_n 0, 1) := by decide +kernel
theorem dX5_isRest_37 : decode cX5_isRest 37 = .ok (.iload_n 1, 1) := by decide +kernel
theorem dX5_isRest_38 : decode cX5_isRest 38 = .ok (.iload_n 2, 1) := by decide +kernel
theorem dX5_isRest_39 : decode cX5_isRest 39 = .ok (.iload 7, 2) := by decide +kernel
theorem dX5_isRest_41 : decode cX5_isRest 41 = .ok (.iload 4, 2) := by decide +kernel
theorem dX5_isRest_43 : decode cX5_isRest 43 = .ok (.iload_n 1, 1) := by decide +kernel
theorem dX5_isRest_44 : decode cX5_isRest 44 = .ok (.invokevirtual 225, 3) := by decide +kernel
theorem dX5_isRest_47 : decode cX5_isRest 47 = .ok (.iload 5, 2) := by decide +kernel
theorem dX5_isRest_49 : decode cX5_isRest 49 = .ok (.if_icmp .gt 18, 3) := by decide +kernel
theorem dX5_isRest_52 : decode cX5_isRest 52 = .ok (.aload_n 0, 1) := by decide +kernel
theorem dX5_isRest_53 : decode cX5_isRest 53 = .ok (.iload_n 1, 1) := by decide +kernel
theorem dX5_isRest_54 : decode cX5_isRest 54 = .ok (.iload_n 2, 1) := by decide +kernel
theorem dX5_isRest_55 : decode cX5_isRest 55 = .ok (.iload_n 3, 1) := by decide +kernel
theorem dX5_isRest_56 : decode cX5_isRest 56 = .ok (.iload 7, 2) := by decide +kernel
theorem dX5_isRest_58 : decode cX5_isRest 58 = .ok (.iload_n 2, 1) := by decide +kernel
theorem dX5_isRest_59 : decode cX5_isRest 59 = .ok (.invokevirtual 225, 3) := by decide +kernel
theorem dX5_isRest_62 : decode cX5_isRest 62 = .ok (.iload 6, 2) := by decide +kernel
theorem dX5_isRest_64 : decode cX5_isRest 64 = .ok (.if_icmp .le 5, 3) := by decide +kernel
theorem dX5_isRest_67 : decode cX5_isRest 67 = .ok (.iconst 0, 1) := by decide +kernel
theorem dX5_isRest_68 : decode cX5_isRest 68 = .ok (.ireturn, 1) := by decide +kernel
theorem dX5_isRest_69 : decode cX5_isRest 69 = .ok (.iinc 7 1, 3) := by decide +kernel
theorem dX5_isRest_72 : decode cX5_isRest 72 = .ok (.goto (-45), 3) := by decide +kernel
theorem dX5_isRest_75 : decode cX5_isRest 75 = .ok (.iconst 1, 1) := by decide +kernel
theorem dX5_isRest_76 : decode cX5_isRest 76 = .ok (.ireturn, 1) := by decide +kernel
theorem dX5_rests_0 : decode cX5_rests 0 = .ok (.aload_n 0, 1) := by decide +kernel
theorem dX5_rests_1 : decode cX5_rests 1 = .ok (.iload_n 1, 1) := by decide +kernel
theorem dX5_rests_2 : decode cX5_rests 2 = .ok (.invokevirtual 153, 3) := by decide +kernel
theorem dX5_rests_5 : decode cX5_rests 5 = .ok (.ifCond .eq 11, 3) := by decide +kernel
theorem dX5_rests_8 : decode cX5_rests 8 = .ok (.aload_n 0, 1) := by decide +kernel
theorem dX5_rests_9 : decode cX5_rests 9 = .ok (.iload_n 2, 1) := by decide +kernel
theorem dX5_rests_10 : decode cX5_rests 10 = .ok (.invokevirtual 153, 3) := by decide +kernel
theorem dX5_rests_13 : decode cX5_rests 13 = .ok (.ifCond .ne 5, 3) := by decide +kernel
theorem dX5_rests_16 : decode cX5_rests 16 = .ok (.iconst (-1), 1) := by decide +kernel
theorem dX5_rests_17 : decode cX5_rests 17 = .ok (.ireturn, 1) := by decide +kernel
theorem dX5_rests_18 : decode cX5_rests 18 = .ok (.iload_n 1, 1) := by decide +kernel
theorem dX5_rests_19 : decode cX5_rests 19 = .ok (.iload_n 2, 1) := by decide +kernel
theorem dX5_rests_20 : decode cX5_rests 20 = .ok (.if_icmp .eq 13, 3) := by decide +kernel
theorem dX5_rests_23 : decode cX5_rests 23 = .ok (.iload_n 3, 1) := by decide +kernel
theorem dX5_rests_24 : decode cX5_rests 24 = .ok (.i2l, 1) := by decide +kernel
theorem dX5_rests_25 : decode cX5_rests 25 = .ok (.lconst 0, 1) := by decide +kernel
theorem dX5_rests_26 : decode cX5_rests 26 = .ok (.lconst 1, 1) := by decide +kernel
theorem dX5_rests_27 : decode cX5_rests 27 = .ok (.invokestatic 65, 3) := by decide +kernel
theorem dX5_rests_30 : decode cX5_rests 30 = .ok (.ifCond .ne 6, 3) := by decide +kernel
theorem dX5_rests_33 : decode cX5_rests 33 = .ok (.bipush (-2), 2) := by decide +kernel
theorem dX5_rests_35 : decode cX5_rests 35 = .ok (.ireturn, 1) := by decide +kernel
theorem dX5_rests_36 : decode cX5_rests 36 = .ok (.iconst 0, 1) := by decide +kernel
theorem dX5_rests_37 : decode cX5_rests 37 = .ok (.istore 4, 2) := by decide +kernel
theorem dX5_rests_39 : decode cX5_rests 39 = .ok (.bipush (-9), 2) := by decide +kernel
theorem dX5_rests_41 : decode cX5_rests 41 = .ok (.istore 5, 2) := by decide +kernel
theorem dX5_rests_43 : decode cX5_rests 43 = .ok (.iconst 0, 1) := by decide +kernel
theorem dX5_rests_44 : decode cX5_rests 44 = .ok (.istore 6, 2) := by decide +kernel
theorem dX5_rests_46 : decode cX5_rests 46 = .ok (.iload 6, 2) := by decide +kernel
theorem dX5_rests_48 : decode cX5_rests 48 = .ok (.aload_n 0, 1) := by decide +kernel
theorem dX5_rests_49 : decode cX5_rests 49 = .ok (.getfield 111, 3) := by decide +kernel
theorem dX5_rests_52 : decode cX5_rests 52 = .ok (.aload_n 0, 1) := by decide +kernel
theorem dX5_rests_53 : decode cX5_rests 53 = .ok (.getfield 111, 3) := by decide +kernel
theorem dX5_rests_56 : decode cX5_rests 56 = .ok (.imul, 1) := by decide +kernel
theorem dX5_rests_57 : decode cX5_rests 57 = .ok (.if_icmp .ge 65, 3) := by decide +kernel
theorem dX5_rests_60 : decode cX5_rests 60 = .ok (.aload_n 0, 1) := by decide +kernel
theorem dX5_rests_61 : decode cX5_rests 61 = .ok (.iload_n 1, 1) := by decide +kernel
theorem dX5_rests_62 : decode cX5_rests 62 = .ok (.iload_n 2, 1) := by decide +kernel
theorem dX5_rests_63 : decode cX5_rests 63 = .ok (.iload 6, 2) := by decide +kernel
theorem dX5_rests_65 : decode cX5_rests 65 = .ok (.aload_n 0, 1) := by decide +kernel
theorem dX5_rests_66 : decode cX5_rests 66 = .ok (.getfield 111, 3) := by decide +kernel
theorem dX5_rests_69 : decode cX5_rests 69 = .ok (.idiv, 1) := by decide +kernel
theorem dX5_rests_70 : decode cX5_rests 70 = .ok (.iload 6, 2) := by decide +kernel
theorem dX5_rests_72 : decode cX5_rests 72 = .ok (.aload_n 0, 1) := by decide +kernel
theorem dX5_rests_73 : decode cX5_rests 73 = .ok (.getfield 111, 3) := by decide +kernel
theorem dX5_rests_76 : decode cX5_rests 76 = .ok (.irem, 1) := by decide +kernel
theorem dX5_rests_77 : decode cX5_rests 77 = .ok (.invokevirtual 229, 3) := by decide +kernel
theorem dX5_rests_80 : decode cX5_rests 80 = .ok (.ifCond .eq 36, 3) := by decide +kernel
theorem dX5_rests_83 : decode cX5_rests 83 = .ok (.iload 4, 2) := by decide +kernel
theorem dX5_rests_85 : decode cX5_rests 85 = .ok (.ifCond .ne 24, 3) := by decide +kernel
theorem dX5_rests_88 : decode cX5_rests 88 = .ok (.bipush 10, 2) := by decide +kernel
theorem dX5_rests_90 : decode cX5_rests 90 = .ok (.iload 6, 2) := by decide +kernel
theorem dX5_rests_92 : decode cX5_rests 92 = .ok (.aload_n 0, 1) := by decide +kernel
theorem dX5_rests_93 : decode cX5_rests 93 = .ok (.getfield 111, 3) := by decide +kernel
theorem dX5_rests_96 : decode cX5_rests 96 = .ok (.idiv, 1) := by decide +kernel
theorem dX5_rests_97 : decode cX5_rests 97 = .ok (.imul, 1) := by decide +kernel
theorem dX5_rests_98 : decode cX5_rests 98 = .ok (.iload 6, 2) := by decide +kernel
theorem dX5_rests_100 : decode cX5_rests 100 = .ok (.aload_n 0, 1) := by decide +kernel
theorem dX5_rests_101 : decode cX5_rests 101 = .ok (.getfield 111, 3) := by decide +kernel
theorem dX5_rests_104 : decode cX5_rests 104 = .ok (.irem, 1) := by decide +kernel
theorem dX5_rests_105 : decode cX5_rests 105 = .ok (.iadd, 1) := by decide +kernel
theorem dX5_rests_106 : decode cX5_rests 106 = .ok (.goto 5, 3) := by decide +kernel
theorem dX5_rests_109 : decode cX5_rests 109 = .ok (.iload 5, 2) := by decide +kernel
theorem dX5_rests_111 : decode cX5_rests 111 = .ok (.istore 5, 2) := by decide +kernel
theorem dX5_rests_113 : decode cX5_rests 113 = .ok (.iinc 4 1, 3) := by decide +kernel
theorem dX5_rests_116 : decode cX5_rests 116 = .ok (.iinc 6 1, 3) := by decide +kernel
theorem dX5_rests_119 : decode cX5_rests 119 = .ok (.goto (-73), 3) := by decide +kernel
theorem dX5_rests_122 : decode cX5_rests 122 = .ok (.iload_n 3, 1) := by decide +kernel
theorem dX5_rests_123 : decode cX5_rests 123 = .ok (.ifCond .ne 8, 3) := by decide +kernel
theorem dX5_rests_126 : decode cX5_rests 126 = .ok (.iload 4, 2) := by decide +kernel
theorem dX5_rests_128 : decode cX5_rests 128 = .ok (.goto 5, 3) := by decide +kernel
theorem dX5_rests_131 : decode cX5_rests 131 = .ok (.iload 5, 2) := by decide +kernel
theorem dX5_rests_133 : decode cX5_rests 133 = .ok (.ireturn, 1) := by decide +kernel
theorem dX5_fails_0 : decode cX5_fails 0 = .ok (.aload_n 0, 1) := by decide +kernel
theorem dX5_fails_1 : decode cX5_fails 1 = .ok (.iload_n 1, 1) := by decide +kernel
theorem dX5_fails_2 : decode cX5_fails 2 = .ok (.invokevirtual 153, 3) := by decide +kernel
theorem dX5_fails_5 : decode cX5_fails 5 = .ok (.ifCond .eq 10, 3) := by decide +kernel
theorem dX5_fails_8 : decode cX5_fails 8 = .ok (.iload_n 2, 1) := by decide +kernel
theorem dX5_fails_9 : decode cX5_fails 9 = .ok (.invokestatic 156, 3) := by decide +kernel
theorem dX5_fails_12 : decode cX5_fails 12 = .ok (.ifCond .ne 5, 3) := by decide +kernel
theorem dX5_fails_15 : decode cX5_fails 15 = .ok (.iconst (-1), 1) := by decide +kernel
theorem dX5_fails_16 : decode cX5_fails 16 = .ok (.ireturn, 1) := by decide +kernel
theorem dX5_fails_17 : decode cX5_fails 17 = .ok (.iload_n 3, 1) := by decide +kernel
theorem dX5_fails_18 : decode cX5_fails 18 = .ok (.i2l, 1) := by decide +kernel
theorem dX5_fails_19 : decode cX5_fails 19 = .ok (.lconst 0, 1) := by decide +kernel
theorem dX5_fails_20 : decode cX5_fails 20 = .ok (.ldc2_w 186, 3) := by decide +kernel
theorem dX5_fails_23 : decode cX5_fails 23 = .ok (.invokestatic 65, 3) := by decide +kernel
theorem dX5_fails_26 : decode cX5_fails 26 = .ok (.ifCond .eq 29, 3) := by decide +kernel
theorem dX5_fails_29 : decode cX5_fails 29 = .ok (.iload 4, 2) := by decide +kernel
theorem dX5_fails_31 : decode cX5_fails 31 = .ok (.i2l, 1) := by decide +kernel
theorem dX5_fails_32 : decode cX5_fails 32 = .ok (.lconst 1, 1) := by decide +kernel
theorem dX5_fails_33 : decode cX5_fails 33 = .ok (.ldc2_w 233, 3) := by decide +kernel
theorem dX5_fails_36 : decode cX5_fails 36 = .ok (.invokestatic 65, 3) := by decide +kernel
theorem dX5_fails_39 : decode cX5_fails 39 = .ok (.ifCond .eq 16, 3) := by decide +kernel
theorem dX5_fails_42 : decode cX5_fails 42 = .ok (.iload 5, 2) := by decide +kernel
theorem dX5_fails_44 : decode cX5_fails 44 = .ok (.i2l, 1) := by decide +kernel
theorem dX5_fails_45 : decode cX5_fails 45 = .ok (.lconst 0, 1) := by decide +kernel
theorem dX5_fails_46 : decode cX5_fails 46 = .ok (.ldc2_w 235, 3) := by decide +kernel
theorem dX5_fails_49 : decode cX5_fails 49 = .ok (.invokestatic 65, 3) := by decide +kernel
theorem dX5_fails_52 : decode cX5_fails 52 = .ok (.ifCond .ne 6, 3) := by decide +kernel
theorem dX5_fails_55 : decode cX5_fails 55 = .ok (.bipush (-2), 2) := by decide +kernel
theorem dX5_fails_57 : decode cX5_fails 57 = .ok (.ireturn, 1) := by decide +kernel
theorem dX5_fails_58 : decode cX5_fails 58 = .ok (.iconst 0, 1) := by decide +kernel
theorem dX5_fails_59 : decode cX5_fails 59 = .ok (.istore 7, 2) := by decide +kernel
theorem dX5_fails_61 : decode cX5_fails 61 = .ok (.iconst 0, 1) := by decide +kernel
theorem dX5_fails_62 : decode cX5_fails 62 = .ok (.istore 8, 2) := by decide +kernel
theorem dX5_fails_64 : decode cX5_fails 64 = .ok (.iconst 0, 1) := by decide +kernel
theorem dX5_fails_65 : decode cX5_fails 65 = .ok (.istore 9, 2) := by decide +kernel
theorem dX5_fails_67 : decode cX5_fails 67 = .ok (.iload 9, 2) := by decide +kernel
theorem dX5_fails_69 : decode cX5_fails 69 = .ok (.iconst 1, 1) := by decide +kernel
theorem dX5_fails_70 : decode cX5_fails 70 = .ok (.iload 4, 2) := by decide +kernel
theorem dX5_fails_72 : decode cX5_fails 72 = .ok (.ishl, 1) := by decide +kernel
theorem dX5_fails_73 : decode cX5_fails 73 = .ok (.if_icmp .ge 113, 3) := by decide +kernel
theorem dX5_fails_76 : decode cX5_fails 76 = .ok (.iload 5, 2) := by decide +kernel
theorem dX5_fails_78 : decode cX5_fails 78 = .ok (.iload 9, 2) := by decide +kernel
theorem dX5_fails_80 : decode cX5_fails 80 = .ok (.invokestatic 213, 3) := by decide +kernel
theorem dX5_fails_83 : decode cX5_fails 83 = .ok (.invokestatic 190, 3) := by decide +kernel
theorem dX5_fails_86 : decode cX5_fails 86 = .ok (.bipush 10, 2) := by decide +kernel
theorem dX5_fails_88 : decode cX5_fails 88 = .ok (.iload 5, 2) := by decide +kernel
theorem dX5_fails_90 : decode cX5_fails 90 = .ok (.isub, 1) := by decide +kernel
theorem dX5_fails_91 : decode cX5_fails 91 = .ok (.iload 4, 2) := by decide +kernel
theorem dX5_fails_93 : decode cX5_fails 93 = .ok (.iload 9, 2) := by decide +kernel
theorem dX5_fails_95 : decode cX5_fails 95 = .ok (.invokestatic 213, 3) := by decide +kernel
theorem dX5_fails_98 : decode cX5_fails 98 = .ok (.isub, 1) := by decide +kernel
theorem dX5_fails_99 : decode cX5_fails 99 = .ok (.invokestatic 190, 3) := by decide +kernel
theorem dX5_fails_102 : decode cX5_fails 102 = .ok (.imul, 1) := by decide +kernel
theorem dX5_fails_103 : decode cX5_fails 103 = .ok (.istore 10, 2) := by decide +kernel
theorem dX5_fails_105 : decode cX5_fails 105 = .ok (.aload_n 0, 1) := by decide +kernel
theorem dX5_fails_106 : decode cX5_fails 106 = .ok (.invokevirtual 180, 3) := by decide +kernel
theorem dX5_fails_109 : decode cX5_fails 109 = .ok (.iconst 0, 1) := by decide +kernel
theorem dX5_fails_110 : decode cX5_fails 110 = .ok (.istore 11, 2) := by decide +kernel
theorem dX5_fails_112 : decode cX5_fails 112 = .ok (.iload 11, 2) := by decide +kernel
theorem dX5_fails_114 : decode cX5_fails 114 = .ok (.iload 4, 2) := by decide +kernel
theorem dX5_fails_116 : decode cX5_fails 116 = .ok (.if_icmp .ge 29, 3) := by decide +kernel
theorem dX5_fails_119 : decode cX5_fails 119 = .ok (.aload_n 0, 1) := by decide +kernel
theorem dX5_fails_120 : decode cX5_fails 120 = .ok (.iconst 1, 1) := by decide +kernel
theorem dX5_fails_121 : decode cX5_fails 121 = .ok (.iload 9, 2) := by decide +kernel
theorem dX5_fails_123 : decode cX5_fails 123 = .ok (.iload 11, 2) := by decide +kernel
theorem dX5_fails_125 : decode cX5_fails 125 = .ok (.invokestatic 80, 3) := by decide +kernel
theorem dX5_fails_128 : decode cX5_fails 128 = .ok (.ifCond .ne 7, 3) := by decide +kernel
theorem dX5_fails_131 : decode cX5_fails 131 = .ok (.iconst 1, 1) := by decide +kernel
theorem dX5_fails_132 : decode cX5_fails 132 = .ok (.goto 4, 3) := by decide +kernel
theorem dX5_fails_135 : decode cX5_fails 135 = .ok (.iconst 0, 1) := by decide +kernel
theorem dX5_fails_136 : decode cX5_fails 136 = .ok (.invokevirtual 165, 3) := by decide +kernel
theorem dX5_fails_139 : decode cX5_fails 139 = .ok (.iinc 11 1, 3) := by decide +kernel
theorem dX5_fails_142 : decode cX5_fails 142 = .ok (.goto (-30), 3) := by decide +kernel
theorem dX5_fails_145 : decode cX5_fails 145 = .ok (.iload 8, 2) := by decide +kernel
theorem dX5_fails_147 : decode cX5_fails 147 = .ok (.iload 10, 2) := by decide +kernel
theorem dX5_fails_149 : decode cX5_fails 149 = .ok (.iadd, 1) := by decide +kernel
theorem dX5_fails_150 : decode cX5_fails 150 = .ok (.istore 8, 2) := by decide +kernel
theorem dX5_fails_152 : decode cX5_fails 152 = .ok (.iload 7, 2) := by decide +kernel
theorem dX5_fails_154 : decode cX5_fails 154 = .ok (.aload_n 0, 1) := by decide +kernel
theorem dX5_fails_155 : decode cX5_fails 155 = .ok (.getfield 25, 3) := by decide +kernel
theorem dX5_fails_158 : decode cX5_fails 158 = .ok (.bipush 38, 2) := by decide +kernel
theorem dX5_fails_160 : decode cX5_fails 160 = .ok (.iconst 5, 1) := by decide +kernel
theorem dX5_fails_161 : decode cX5_fails 161 = .ok (.iload_n 1, 1) := by decide +kernel
theorem dX5_fails_162 : decode cX5_fails 162 = .ok (.imul, 1) := by decide +kernel
theorem dX5_fails_163 : decode cX5_fails 163 = .ok (.iadd, 1) := by decide +kernel
theorem dX5_fails_164 : decode cX5_fails 164 = .ok (.iload_n 2, 1) := by decide +kernel
theorem dX5_fails_165 : decode cX5_fails 165 = .ok (.iadd, 1) := by decide +kernel
theorem dX5_fails_166 : decode cX5_fails 166 = .ok (.iaload, 1) := by decide +kernel
theorem dX5_fails_167 : decode cX5_fails 167 = .ok (.iload_n 3, 1) := by decide +kernel
theorem dX5_fails_168 : decode cX5_fails 168 = .ok (.if_icmp .lt 8, 3) := by decide +kernel
theorem dX5_fails_171 : decode cX5_fails 171 = .ok (.iload 10, 2) := by decide +kernel
theorem dX5_fails_173 : decode cX5_fails 173 = .ok (.goto 4, 3) := by decide +kernel
theorem dX5_fails_176 : decode cX5_fails 176 = .ok (.iconst 0, 1) := by decide +kernel
theorem dX5_fails_177 : decode cX5_fails 177 = .ok (.iadd, 1) := by decide +kernel
theorem dX5_fails_178 : decode cX5_fails 178 = .ok (.istore 7, 2) := by decide +kernel
theorem dX5_fails_180 : decode cX5_fails 180 = .ok (.iinc 9 1, 3) := by decide +kernel
theorem dX5_fails_183 : decode cX5_fails 183 = .ok (.goto (-116), 3) := by decide +kernel
theorem dX5_fails_186 : decode cX5_fails 186 = .ok (.iload 7, 2) := by decide +kernel
theorem dX5_fails_188 : decode cX5_fails 188 = .ok (.iload 8, 2) := by decide +kernel
theorem dX5_fails_190 : decode cX5_fails 190 = .ok (.invokestatic 222, 3) := by decide +kernel
theorem dX5_fails_193 : decode cX5_fails 193 = .ok (.istore 9, 2) := by decide +kernel
theorem dX5_fails_195 : decode cX5_fails 195 = .ok (.iload 6, 2) := by decide +kernel
theorem dX5_fails_197 : decode cX5_fails 197 = .ok (.ifCond .eq 11, 3) := by decide +kernel
theorem dX5_fails_200 : decode cX5_fails 200 = .ok (.iload 7, 2) := by decide +kernel
theorem dX5_fails_202 : decode cX5_fails 202 = .ok (.iload 9, 2) := by decide +kernel
theorem dX5_fails_204 : decode cX5_fails 204 = .ok (.idiv, 1) := by decide +kernel
theorem dX5_fails_205 : decode cX5_fails 205 = .ok (.goto 8, 3) := by decide +kernel
theorem dX5_fails_208 : decode cX5_fails 208 = .ok (.iload 8, 2) := by decide +kernel
theorem dX5_fails_210 : decode cX5_fails 210 = .ok (.iload 9, 2) := by decide +kernel
theorem dX5_fails_212 : decode cX5_fails 212 = .ok (.idiv, 1) := by decide +kernel
theorem dX5_fails_213 : decode cX5_fails 213 = .ok (.ireturn, 1) := by decide +kernel
theorem dX5_seed_0 : decode cX5_seed 0 = .ok (.aload_n 0, 1) := by decide +kernel
theorem dX5_seed_1 : decode cX5_seed 1 = .ok (.getfield 237, 3) := by decide +kernel
theorem dX5_seed_4 : decode cX5_seed 4 = .ok (.lstore_n 3, 1) := by decide +kernel
theorem dX5_seed_5 : decode cX5_seed 5 = .ok (.aload_n 0, 1) := by decide +kernel
theorem dX5_seed_6 : decode cX5_seed 6 = .ok (.lload_n 1, 1) := by decide +kernel
theorem dX5_seed_7 : decode cX5_seed 7 = .ok (.putfield 237, 3) := by decide +kernel
theorem dX5_seed_10 : decode cX5_seed 10 = .ok (.lload_n 3, 1) := by decide +kernel
theorem dX5_seed_11 : decode cX5_seed 11 = .ok (.lreturn, 1) := by decide +kernel
theorem dX5_generations_0 : decode cX5_generations 0 = .ok (.iload_n 1, 1) := by decide +kernel
theorem dX5_generations_1 : decode cX5_generations 1 = .ok (.i2l, 1) := by decide +kernel
theorem dX5_generations_2 : decode cX5_generations 2 = .ok (.lconst 1, 1) := by decide +kernel
theorem dX5_generations_3 : decode cX5_generations 3 = .ok (.ldc2_w 241, 3) := by decide +kernel
theorem dX5_generations_6 : decode cX5_generations 6 = .ok (.invokestatic 65, 3) := by decide +kernel
theorem dX5_generations_9 : decode cX5_generations 9 = .ok (.ifCond .ne 6, 3) := by decide +kernel
theorem dX5_generations_12 : decode cX5_generations 12 = .ok (.bipush (-2), 2) := by decide +kernel
theorem dX5_generations_14 : decode cX5_generations 14 = .ok (.ireturn, 1) := by decide +kernel
theorem dX5_generations_15 : decode cX5_generations 15 = .ok (.aload_n 0, 1) := by decide +kernel
theorem dX5_generations_16 : decode cX5_generations 16 = .ok (.invokevirtual 180, 3) := by decide +kernel
theorem dX5_generations_19 : decode cX5_generations 19 = .ok (.iconst 0, 1) := by decide +kernel
theorem dX5_generations_20 : decode cX5_generations 20 = .ok (.istore_n 2, 1) := by decide +kernel
theorem dX5_generations_21 : decode cX5_generations 21 = .ok (.iconst 0, 1) := by decide +kernel
theorem dX5_generations_22 : decode cX5_generations 22 = .ok (.istore_n 3, 1) := by decide +kernel
theorem dX5_generations_23 : decode cX5_generations 23 = .ok (.iload_n 3, 1) := by decide +kernel
theorem dX5_generations_24 : decode cX5_generations 24 = .ok (.iload_n 1, 1) := by decide +kernel
theorem dX5_generations_25 : decode cX5_generations 25 = .ok (.if_icmp .ge 111, 3) := by decide +kernel
theorem dX5_generations_28 : decode cX5_generations 28 = .ok (.aload_n 0, 1) := by decide +kernel
theorem dX5_generations_29 : decode cX5_generations 29 = .ok (.aload_n 0, 1) := by decide +kernel
theorem dX5_generations_30 : decode cX5_generations 30 = .ok (.getfield 237, 3) := by decide +kernel
theorem dX5_generations_33 : decode cX5_generations 33 = .ok (.ldc2_w 243, 3) := by decide +kernel
theorem dX5_generations_36 : decode cX5_generations 36 = .ok (.lmul, 1) := by decide +kernel
theorem dX5_generations_37 : decode cX5_generations 37 = .ok (.ldc2_w 245, 3) := by decide +kernel
theorem dX5_generations_40 : decode cX5_generations 40 = .ok (.ladd, 1) := by decide +kernel
theorem dX5_generations_41 : decode cX5_generations 41 = .ok (.putfield 237, 3) := by decide +kernel
theorem dX5_generations_44 : decode cX5_generations 44 = .ok (.aload_n 0, 1) := by decide +kernel
theorem dX5_generations_45 : decode cX5_generations 45 = .ok (.getfield 237, 3) := by decide +kernel
theorem dX5_generations_48 : decode cX5_generations 48 = .ok (.bipush 33, 2) := by decide +kernel
theorem dX5_generations_50 : decode cX5_generations 50 = .ok (.lushr, 1) := by decide +kernel
theorem dX5_generations_51 : decode cX5_generations 51 = .ok (.ldc2_w 247, 3) := by decide +kernel
theorem dX5_generations_54 : decode cX5_generations 54 = .ok (.lrem, 1) := by decide +kernel
theorem dX5_generations_55 : decode cX5_generations 55 = .ok (.l2i, 1) := by decide +kernel
theorem dX5_generations_56 : decode cX5_generations 56 = .ok (.istore 4, 2) := by decide +kernel
theorem dX5_generations_58 : decode cX5_generations 58 = .ok (.iload 4, 2) := by decide +kernel
theorem dX5_generations_60 : decode cX5_generations 60 = .ok (.bipush 16, 2) := by decide +kernel
theorem dX5_generations_62 : decode cX5_generations 62 = .ok (.if_icmp .le 12, 3) := by decide +kernel
theorem dX5_generations_65 : decode cX5_generations 65 = .ok (.aload_n 0, 1) := by decide +kernel
theorem dX5_generations_66 : decode cX5_generations 66 = .ok (.iconst 1, 1) := by decide +kernel
theorem dX5_generations_67 : decode cX5_generations 67 = .ok (.iconst 1, 1) := by decide +kernel
theorem dX5_generations_68 : decode cX5_generations 68 = .ok (.invokevirtual 165, 3) := by decide +kernel
theorem dX5_generations_71 : decode cX5_generations 71 = .ok (.goto 51, 3) := by decide +kernel
theorem dX5_generations_74 : decode cX5_generations 74 = .ok (.iload 4, 2) := by decide +kernel
theorem dX5_generations_76 : decode cX5_generations 76 = .ok (.bipush 11, 2) := by decide +kernel
theorem dX5_generations_78 : decode cX5_generations 78 = .ok (.if_icmp .le 28, 3) := by decide +kernel
theorem dX5_generations_81 : decode cX5_generations 81 = .ok (.aload_n 0, 1) := by decide +kernel
theorem dX5_generations_82 : decode cX5_generations 82 = .ok (.iload 4, 2) := by decide +kernel
theorem dX5_generations_84 : decode cX5_generations 84 = .ok (.bipush 12, 2) := by decide +kernel
theorem dX5_generations_86 : decode cX5_generations 86 = .ok (.isub, 1) := by decide +kernel
theorem dX5_generations_87 : decode cX5_generations 87 = .ok (.invokevirtual 153, 3) := by decide +kernel
theorem dX5_generations_90 : decode cX5_generations 90 = .ok (.ifCond .eq 32, 3) := by decide +kernel
theorem dX5_generations_93 : decode cX5_generations 93 = .ok (.aload_n 0, 1) := by decide +kernel
theorem dX5_generations_94 : decode cX5_generations 94 = .ok (.iconst 1, 1) := by decide +kernel
theorem dX5_generations_95 : decode cX5_generations 95 = .ok (.iload 4, 2) := by decide +kernel
theorem dX5_generations_97 : decode cX5_generations 97 = .ok (.bipush 12, 2) := by decide +kernel
theorem dX5_generations_99 : decode cX5_generations 99 = .ok (.isub, 1) := by decide +kernel
theorem dX5_generations_100 : decode cX5_generations 100 = .ok (.invokevirtual 175, 3) := by decide +kernel
theorem dX5_generations_103 : decode cX5_generations 103 = .ok (.goto 19, 3) := by decide +kernel
theorem dX5_generations_106 : decode cX5_generations 106 = .ok (.aload_n 0, 1) := by decide +kernel
theorem dX5_generations_107 : decode cX5_generations 107 = .ok (.getfield 114, 3) := by decide +kernel
theorem dX5_generations_110 : decode cX5_generations 110 = .ok (.ifCond .le 12, 3) := by decide +kernel
theorem dX5_generations_113 : decode cX5_generations 113 = .ok (.aload_n 0, 1) := by decide +kernel
theorem dX5_generations_114 : decode cX5_generations 114 = .ok (.getfield 25, 3) := by decide +kernel
theorem dX5_generations_117 : decode cX5_generations 117 = .ok (.bipush 32, 2) := by decide +kernel
theorem dX5_generations_119 : decode cX5_generations 119 = .ok (.iload 4, 2) := by decide +kernel
theorem dX5_generations_121 : decode cX5_generations 121 = .ok (.iastore, 1) := by decide +kernel
theorem dX5_generations_122 : decode cX5_generations 122 = .ok (.iload_n 2, 1) := by decide +kernel
theorem dX5_generations_123 : decode cX5_generations 123 = .ok (.aload_n 0, 1) := by decide +kernel
theorem dX5_generations_124 : decode cX5_generations 124 = .ok (.iconst 1, 1) := by decide +kernel
theorem dX5_generations_125 : decode cX5_generations 125 = .ok (.invokevirtual 169, 3) := by decide +kernel
theorem dX5_generations_128 : decode cX5_generations 128 = .ok (.iadd, 1) := by decide +kernel
theorem dX5_generations_129 : decode cX5_generations 129 = .ok (.istore_n 2, 1) := by decide +kernel
theorem dX5_generations_130 : decode cX5_generations 130 = .ok (.iinc 3 1, 3) := by decide +kernel
theorem dX5_generations_133 : decode cX5_generations 133 = .ok (.goto (-110), 3) := by decide +kernel
theorem dX5_generations_136 : decode cX5_generations 136 = .ok (.iload_n 2, 1) := by decide +kernel
theorem dX5_generations_137 : decode cX5_generations 137 = .ok (.ireturn, 1) := by decide +kernel
theorem dX5_keep_0 : decode cX5_keep 0 = .ok (.iload_n 1, 1) := by decide +kernel
theorem dX5_keep_1 : decode cX5_keep 1 = .ok (.i2l, 1) := by decide +kernel
theorem dX5_keep_2 : decode cX5_keep 2 = .ok (.lconst 0, 1) := by decide +kernel
theorem dX5_keep_3 : decode cX5_keep 3 = .ok (.lconst 1, 1) := by decide +kernel
theorem dX5_keep_4 : decode cX5_keep 4 = .ok (.invokestatic 65, 3) := by decide +kernel
theorem dX5_keep_7 : decode cX5_keep 7 = .ok (.ifCond .ne 5, 3) := by decide +kernel
theorem dX5_keep_10 : decode cX5_keep 10 = .ok (.iconst (-1), 1) := by decide +kernel
theorem dX5_keep_11 : decode cX5_keep 11 = .ok (.ireturn, 1) := by decide +kernel
theorem dX5_keep_12 : decode cX5_keep 12 = .ok (.aload_n 0, 1) := by decide +kernel
theorem dX5_keep_13 : decode cX5_keep 13 = .ok (.getfield 56, 3) := by decide +kernel
theorem dX5_keep_16 : decode cX5_keep 16 = .ok (.iload_n 1, 1) := by decide +kernel
theorem dX5_keep_17 : decode cX5_keep 17 = .ok (.iconst 1, 1) := by decide +kernel
theorem dX5_keep_18 : decode cX5_keep 18 = .ok (.bastore, 1) := by decide +kernel
theorem dX5_keep_19 : decode cX5_keep 19 = .ok (.iconst 0, 1) := by decide +kernel
theorem dX5_keep_20 : decode cX5_keep 20 = .ok (.istore_n 2, 1) := by decide +kernel
theorem dX5_keep_21 : decode cX5_keep 21 = .ok (.iload_n 2, 1) := by decide +kernel
theorem dX5_keep_22 : decode cX5_keep 22 = .ok (.bipush 32, 2) := by decide +kernel
theorem dX5_keep_24 : decode cX5_keep 24 = .ok (.if_icmp .ge 26, 3) := by decide +kernel
theorem dX5_keep_27 : decode cX5_keep 27 = .ok (.aload_n 0, 1) := by decide +kernel
theorem dX5_keep_28 : decode cX5_keep 28 = .ok (.getfield 60, 3) := by decide +kernel
theorem dX5_keep_31 : decode cX5_keep 31 = .ok (.bipush 32, 2) := by decide +kernel
theorem dX5_keep_33 : decode cX5_keep 33 = .ok (.iload_n 1, 1) := by decide +kernel
theorem dX5_keep_34 : decode cX5_keep 34 = .ok (.imul, 1) := by decide +kernel
theorem dX5_keep_35 : decode cX5_keep 35 = .ok (.iload_n 2, 1) := by decide +kernel
theorem dX5_keep_36 : decode cX5_keep 36 = .ok (.iadd, 1) := by decide +kernel
theorem dX5_keep_37 : decode cX5_keep 37 = .ok (.aload_n 0, 1) := by decide +kernel
theorem dX5_keep_38 : decode cX5_keep 38 = .ok (.getfield 25, 3) := by decide +kernel
theorem dX5_keep_41 : decode cX5_keep 41 = .ok (.iload_n 2, 1) := by decide +kernel
theorem dX5_keep_42 : decode cX5_keep 42 = .ok (.iaload, 1) := by decide +kernel
theorem dX5_keep_43 : decode cX5_keep 43 = .ok (.iastore, 1) := by decide +kernel
theorem dX5_keep_44 : decode cX5_keep 44 = .ok (.iinc 2 1, 3) := by decide +kernel
theorem dX5_keep_47 : decode cX5_keep 47 = .ok (.goto (-26), 3) := by decide +kernel
theorem dX5_keep_50 : decode cX5_keep 50 = .ok (.aload_n 0, 1) := by decide +kernel
theorem dX5_keep_51 : decode cX5_keep 51 = .ok (.getfield 25, 3) := by decide +kernel
theorem dX5_keep_54 : decode cX5_keep 54 = .ok (.bipush 31, 2) := by decide +kernel
theorem dX5_keep_56 : decode cX5_keep 56 = .ok (.iaload, 1) := by decide +kernel
theorem dX5_keep_57 : decode cX5_keep 57 = .ok (.ireturn, 1) := by decide +kernel
theorem dX5_again_0 : decode cX5_again 0 = .ok (.iload_n 1, 1) := by decide +kernel
theorem dX5_again_1 : decode cX5_again 1 = .ok (.i2l, 1) := by decide +kernel
theorem dX5_again_2 : decode cX5_again 2 = .ok (.lconst 0, 1) := by decide +kernel
theorem dX5_again_3 : decode cX5_again 3 = .ok (.lconst 1, 1) := by decide +kernel
theorem dX5_again_4 : decode cX5_again 4 = .ok (.invokestatic 65, 3) := by decide +kernel
theorem dX5_again_7 : decode cX5_again 7 = .ok (.ifCond .ne 5, 3) := by decide +kernel
theorem dX5_again_10 : decode cX5_again 10 = .ok (.iconst (-1), 1) := by decide +kernel
theorem dX5_again_11 : decode cX5_again 11 = .ok (.ireturn, 1) := by decide +kernel
theorem dX5_again_12 : decode cX5_again 12 = .ok (.aload_n 0, 1) := by decide +kernel
theorem dX5_again_13 : decode cX5_again 13 = .ok (.getfield 56, 3) := by decide +kernel
theorem dX5_again_16 : decode cX5_again 16 = .ok (.iload_n 1, 1) := by decide +kernel
theorem dX5_again_17 : decode cX5_again 17 = .ok (.baload, 1) := by decide +kernel
theorem dX5_again_18 : decode cX5_again 18 = .ok (.ifCond .ne 6, 3) := by decide +kernel
theorem dX5_again_21 : decode cX5_again 21 = .ok (.bipush (-3), 2) := by decide +kernel
theorem dX5_again_23 : decode cX5_again 23 = .ok (.ireturn, 1) := by decide +kernel
theorem dX5_again_24 : decode cX5_again 24 = .ok (.iconst 0, 1) := by decide +kernel
theorem dX5_again_25 : decode cX5_again 25 = .ok (.istore_n 2, 1) := by decide +kernel
theorem dX5_again_26 : decode cX5_again 26 = .ok (.iload_n 2, 1) := by decide +kernel
theorem dX5_again_27 : decode cX5_again 27 = .ok (.bipush 32, 2) := by decide +kernel
theorem dX5_again_29 : decode cX5_again 29 = .ok (.if_icmp .ge 26, 3) := by decide +kernel
theorem dX5_again_32 : decode cX5_again 32 = .ok (.aload_n 0, 1) := by decide +kernel
theorem dX5_again_33 : decode cX5_again 33 = .ok (.getfield 25, 3) := by decide +kernel
theorem dX5_again_36 : decode cX5_again 36 = .ok (.iload_n 2, 1) := by decide +kernel
theorem dX5_again_37 : decode cX5_again 37 = .ok (.aload_n 0, 1) := by decide +kernel
theorem dX5_again_38 : decode cX5_again 38 = .ok (.getfield 60, 3) := by decide +kernel
theorem dX5_again_41 : decode cX5_again 41 = .ok (.bipush 32, 2) := by decide +kernel
theorem dX5_again_43 : decode cX5_again 43 = .ok (.iload_n 1, 1) := by decide +kernel
theorem dX5_again_44 : decode cX5_again 44 = .ok (.imul, 1) := by decide +kernel
theorem dX5_again_45 : decode cX5_again 45 = .ok (.iload_n 2, 1) := by decide +kernel
theorem dX5_again_46 : decode cX5_again 46 = .ok (.iadd, 1) := by decide +kernel
theorem dX5_again_47 : decode cX5_again 47 = .ok (.iaload, 1) := by decide +kernel
theorem dX5_again_48 : decode cX5_again 48 = .ok (.iastore, 1) := by decide +kernel
theorem dX5_again_49 : decode cX5_again 49 = .ok (.iinc 2 1, 3) := by decide +kernel
theorem dX5_again_52 : decode cX5_again 52 = .ok (.goto (-26), 3) := by decide +kernel
theorem dX5_again_55 : decode cX5_again 55 = .ok (.aload_n 0, 1) := by decide +kernel
theorem dX5_again_56 : decode cX5_again 56 = .ok (.iconst 0, 1) := by decide +kernel
theorem dX5_again_57 : decode cX5_again 57 = .ok (.putfield 117, 3) := by decide +kernel
theorem dX5_again_60 : decode cX5_again 60 = .ok (.aload_n 0, 1) := by decide +kernel
theorem dX5_again_61 : decode cX5_again 61 = .ok (.getfield 25, 3) := by decide +kernel
theorem dX5_again_64 : decode cX5_again 64 = .ok (.bipush 31, 2) := by decide +kernel
theorem dX5_again_66 : decode cX5_again 66 = .ok (.iaload, 1) := by decide +kernel
theorem dX5_again_67 : decode cX5_again 67 = .ok (.ireturn, 1) := by decide +kernel
theorem dX5_cellsOf_0 : decode cX5_cellsOf 0 = .ok (.iconst 0, 1) := by decide +kernel
theorem dX5_cellsOf_1 : decode cX5_cellsOf 1 = .ok (.istore_n 2, 1) := by decide +kernel
theorem dX5_cellsOf_2 : decode cX5_cellsOf 2 = .ok (.iconst 0, 1) := by decide +kernel
theorem dX5_cellsOf_3 : decode cX5_cellsOf 3 = .ok (.istore_n 3, 1) := by decide +kernel
theorem dX5_cellsOf_4 : decode cX5_cellsOf 4 = .ok (.iload_n 3, 1) := by decide +kernel
theorem dX5_cellsOf_5 : decode cX5_cellsOf 5 = .ok (.iload_n 1, 1) := by decide +kernel
theorem dX5_cellsOf_6 : decode cX5_cellsOf 6 = .ok (.ifCond .eq 10, 3) := by decide +kernel
theorem dX5_cellsOf_9 : decode cX5_cellsOf 9 = .ok (.aload_n 0, 1) := by decide +kernel
theorem dX5_cellsOf_10 : decode cX5_cellsOf 10 = .ok (.getfield 114, 3) := by decide +kernel
theorem dX5_cellsOf_13 : decode cX5_cellsOf 13 = .ok (.goto 7, 3) := by decide +kernel
theorem dX5_cellsOf_16 : decode cX5_cellsOf 16 = .ok (.aload_n 0, 1) := by decide +kernel
theorem dX5_cellsOf_17 : decode cX5_cellsOf 17 = .ok (.getfield 111, 3) := by decide +kernel
theorem dX5_cellsOf_20 : decode cX5_cellsOf 20 = .ok (.if_icmp .ge 33, 3) := by decide +kernel
theorem dX5_cellsOf_23 : decode cX5_cellsOf 23 = .ok (.iload_n 2, 1) := by decide +kernel
theorem dX5_cellsOf_24 : decode cX5_cellsOf 24 = .ok (.iconst 1, 1) := by decide +kernel
theorem dX5_cellsOf_25 : decode cX5_cellsOf 25 = .ok (.iload_n 1, 1) := by decide +kernel
theorem dX5_cellsOf_26 : decode cX5_cellsOf 26 = .ok (.ifCond .eq 12, 3) := by decide +kernel
theorem dX5_cellsOf_29 : decode cX5_cellsOf 29 = .ok (.aload_n 0, 1) := by decide +kernel
theorem dX5_cellsOf_30 : decode cX5_cellsOf 30 = .ok (.getfield 25, 3) := by decide +kernel
theorem dX5_cellsOf_33 : decode cX5_cellsOf 33 = .ok (.iload_n 3, 1) := by decide +kernel
theorem dX5_cellsOf_34 : decode cX5_cellsOf 34 = .ok (.iaload, 1) := by decide +kernel
theorem dX5_cellsOf_35 : decode cX5_cellsOf 35 = .ok (.goto 9, 3) := by decide +kernel
theorem dX5_cellsOf_38 : decode cX5_cellsOf 38 = .ok (.aload_n 0, 1) := by decide +kernel
theorem dX5_cellsOf_39 : decode cX5_cellsOf 39 = .ok (.getfield 13, 3) := by decide +kernel
theorem dX5_cellsOf_42 : decode cX5_cellsOf 42 = .ok (.iload_n 3, 1) := by decide +kernel
theorem dX5_cellsOf_43 : decode cX5_cellsOf 43 = .ok (.iaload, 1) := by decide +kernel
theorem dX5_cellsOf_44 : decode cX5_cellsOf 44 = .ok (.ishl, 1) := by decide +kernel
theorem dX5_cellsOf_45 : decode cX5_cellsOf 45 = .ok (.ior, 1) := by decide +kernel
theorem dX5_cellsOf_46 : decode cX5_cellsOf 46 = .ok (.istore_n 2, 1) := by decide +kernel
theorem dX5_cellsOf_47 : decode cX5_cellsOf 47 = .ok (.iinc 3 1, 3) := by decide +kernel
theorem dX5_cellsOf_50 : decode cX5_cellsOf 50 = .ok (.goto (-46), 3) := by decide +kernel
theorem dX5_cellsOf_53 : decode cX5_cellsOf 53 = .ok (.iload_n 2, 1) := by decide +kernel
theorem dX5_cellsOf_54 : decode cX5_cellsOf 54 = .ok (.ireturn, 1) := by decide +kernel
theorem dX5_count_0 : decode cX5_count 0 = .ok (.iload_n 1, 1) := by decide +kernel
theorem dX5_count_1 : decode cX5_count 1 = .ok (.tableswitch 138 0 11 #[63, 68, 73, 78, 83, 91, 97, 103, 110, 116, 128, 133], 63) := by decide +kernel
theorem dX5_count_64 : decode cX5_count 64 = .ok (.aload_n 0, 1) := by decide +kernel
theorem dX5_count_65 : decode cX5_count 65 = .ok (.getfield 69, 3) := by decide +kernel
theorem dX5_count_68 : decode cX5_count 68 = .ok (.ireturn, 1) := by decide +kernel
theorem dX5_count_69 : decode cX5_count 69 = .ok (.aload_n 0, 1) := by decide +kernel
theorem dX5_count_70 : decode cX5_count 70 = .ok (.getfield 108, 3) := by decide +kernel
theorem dX5_count_73 : decode cX5_count 73 = .ok (.ireturn, 1) := by decide +kernel
theorem dX5_count_74 : decode cX5_count 74 = .ok (.aload_n 0, 1) := by decide +kernel
theorem dX5_count_75 : decode cX5_count 75 = .ok (.getfield 111, 3) := by decide +kernel
theorem dX5_count_78 : decode cX5_count 78 = .ok (.ireturn, 1) := by decide +kernel
theorem dX5_count_79 : decode cX5_count 79 = .ok (.aload_n 0, 1) := by decide +kernel
theorem dX5_count_80 : decode cX5_count 80 = .ok (.getfield 114, 3) := by decide +kernel
theorem dX5_count_83 : decode cX5_count 83 = .ok (.ireturn, 1) := by decide +kernel
theorem dX5_count_84 : decode cX5_count 84 = .ok (.aload_n 0, 1) := by decide +kernel
theorem dX5_count_85 : decode cX5_count 85 = .ok (.getfield 25, 3) := by decide +kernel
theorem dX5_count_88 : decode cX5_count 88 = .ok (.bipush 31, 2) := by decide +kernel
theorem dX5_count_90 : decode cX5_count 90 = .ok (.iaload, 1) := by decide +kernel
theorem dX5_count_91 : decode cX5_count 91 = .ok (.ireturn, 1) := by decide +kernel
theorem dX5_count_92 : decode cX5_count 92 = .ok (.aload_n 0, 1) := by decide +kernel
theorem dX5_count_93 : decode cX5_count 93 = .ok (.iconst 0, 1) := by decide +kernel
theorem dX5_count_94 : decode cX5_count 94 = .ok (.invokevirtual 249, 3) := by decide +kernel
theorem dX5_count_97 : decode cX5_count 97 = .ok (.ireturn, 1) := by decide +kernel
theorem dX5_count_98 : decode cX5_count 98 = .ok (.aload_n 0, 1) := by decide +kernel
theorem dX5_count_99 : decode cX5_count 99 = .ok (.iconst 1, 1) := by decide +kernel
theorem dX5_count_100 : decode cX5_count 100 = .ok (.invokevirtual 249, 3) := by decide +kernel
theorem dX5_count_103 : decode cX5_count 103 = .ok (.ireturn, 1) := by decide +kernel
theorem dX5_count_104 : decode cX5_count 104 = .ok (.aload_n 0, 1) := by decide +kernel
theorem dX5_count_105 : decode cX5_count 105 = .ok (.getfield 25, 3) := by decide +kernel
theorem dX5_count_108 : decode cX5_count 108 = .ok (.iconst 5, 1) := by decide +kernel
theorem dX5_count_109 : decode cX5_count 109 = .ok (.iaload, 1) := by decide +kernel
theorem dX5_count_110 : decode cX5_count 110 = .ok (.ireturn, 1) := by decide +kernel
theorem dX5_count_111 : decode cX5_count 111 = .ok (.aload_n 0, 1) := by decide +kernel
theorem dX5_count_112 : decode cX5_count 112 = .ok (.iconst 0, 1) := by decide +kernel
theorem dX5_count_113 : decode cX5_count 113 = .ok (.invokevirtual 169, 3) := by decide +kernel
theorem dX5_count_116 : decode cX5_count 116 = .ok (.ireturn, 1) := by decide +kernel
theorem dX5_count_117 : decode cX5_count 117 = .ok (.aload_n 0, 1) := by decide +kernel
theorem dX5_count_118 : decode cX5_count 118 = .ok (.aload_n 0, 1) := by decide +kernel
theorem dX5_count_119 : decode cX5_count 119 = .ok (.getfield 25, 3) := by decide +kernel
theorem dX5_count_122 : decode cX5_count 122 = .ok (.bipush 31, 2) := by decide +kernel
theorem dX5_count_124 : decode cX5_count 124 = .ok (.iaload, 1) := by decide +kernel
theorem dX5_count_125 : decode cX5_count 125 = .ok (.invokevirtual 133, 3) := by decide +kernel
theorem dX5_count_128 : decode cX5_count 128 = .ok (.ireturn, 1) := by decide +kernel
theorem dX5_count_129 : decode cX5_count 129 = .ok (.aload_n 0, 1) := by decide +kernel
theorem dX5_count_130 : decode cX5_count 130 = .ok (.getfield 117, 3) := by decide +kernel
theorem dX5_count_133 : decode cX5_count 133 = .ok (.ireturn, 1) := by decide +kernel
theorem dX5_count_134 : decode cX5_count 134 = .ok (.aload_n 0, 1) := by decide +kernel
theorem dX5_count_135 : decode cX5_count 135 = .ok (.getfield 206, 3) := by decide +kernel
theorem dX5_count_138 : decode cX5_count 138 = .ok (.ireturn, 1) := by decide +kernel
theorem dX5_count_139 : decode cX5_count 139 = .ok (.bipush (-2), 2) := by decide +kernel
theorem dX5_count_141 : decode cX5_count 141 = .ok (.ireturn, 1) := by decide +kernel
