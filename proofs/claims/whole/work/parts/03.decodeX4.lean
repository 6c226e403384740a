theorem dX4_init_0 : decode cX4_init 0 = .ok (.aload_n 0, 1) := by decide +kernel
theorem dX4_init_1 : decode cX4_init 1 = .ok (.invokespecial 3, 3) := by decide +kernel
theorem dX4_init_4 : decode cX4_init 4 = .ok (.aload_n 0, 1) := by decide +kernel
theorem dX4_init_5 : decode cX4_init 5 = .ok (.bipush 48, 2) := by decide +kernel
theorem dX4_init_7 : decode cX4_init 7 = .ok (.newarray .int, 2) := by decide +kernel
theorem dX4_init_9 : decode cX4_init 9 = .ok (.putfield 9, 3) := by decide +kernel
theorem dX4_init_12 : decode cX4_init 12 = .ok (.aload_n 0, 1) := by decide +kernel
theorem dX4_init_13 : decode cX4_init 13 = .ok (.new 13, 3) := by decide +kernel
theorem dX4_init_16 : decode cX4_init 16 = .ok (.dup, 1) := by decide +kernel
theorem dX4_init_17 : decode cX4_init 17 = .ok (.invokespecial 15, 3) := by decide +kernel
theorem dX4_init_20 : decode cX4_init 20 = .ok (.putfield 16, 3) := by decide +kernel
theorem dX4_init_23 : decode cX4_init 23 = .ok (.aload_n 0, 1) := by decide +kernel
theorem dX4_init_24 : decode cX4_init 24 = .ok (.new 13, 3) := by decide +kernel
theorem dX4_init_27 : decode cX4_init 27 = .ok (.dup, 1) := by decide +kernel
theorem dX4_init_28 : decode cX4_init 28 = .ok (.invokespecial 15, 3) := by decide +kernel
theorem dX4_init_31 : decode cX4_init 31 = .ok (.putfield 20, 3) := by decide +kernel
theorem dX4_init_34 : decode cX4_init 34 = .ok (.aload_n 0, 1) := by decide +kernel
theorem dX4_init_35 : decode cX4_init 35 = .ok (.new 23, 3) := by decide +kernel
theorem dX4_init_38 : decode cX4_init 38 = .ok (.dup, 1) := by decide +kernel
theorem dX4_init_39 : decode cX4_init 39 = .ok (.invokespecial 25, 3) := by decide +kernel
theorem dX4_init_42 : decode cX4_init 42 = .ok (.putfield 26, 3) := by decide +kernel
theorem dX4_init_45 : decode cX4_init 45 = .ok (.aload_n 0, 1) := by decide +kernel
theorem dX4_init_46 : decode cX4_init 46 = .ok (.new 23, 3) := by decide +kernel
theorem dX4_init_49 : decode cX4_init 49 = .ok (.dup, 1) := by decide +kernel
theorem dX4_init_50 : decode cX4_init 50 = .ok (.invokespecial 25, 3) := by decide +kernel
theorem dX4_init_53 : decode cX4_init 53 = .ok (.putfield 30, 3) := by decide +kernel
theorem dX4_init_56 : decode cX4_init 56 = .ok (.aload_n 0, 1) := by decide +kernel
theorem dX4_init_57 : decode cX4_init 57 = .ok (.new 23, 3) := by decide +kernel
theorem dX4_init_60 : decode cX4_init 60 = .ok (.dup, 1) := by decide +kernel
theorem dX4_init_61 : decode cX4_init 61 = .ok (.invokespecial 25, 3) := by decide +kernel
theorem dX4_init_64 : decode cX4_init 64 = .ok (.putfield 33, 3) := by decide +kernel
theorem dX4_init_67 : decode cX4_init 67 = .ok (.aload_n 0, 1) := by decide +kernel
theorem dX4_init_68 : decode cX4_init 68 = .ok (.new 36, 3) := by decide +kernel
theorem dX4_init_71 : decode cX4_init 71 = .ok (.dup, 1) := by decide +kernel
theorem dX4_init_72 : decode cX4_init 72 = .ok (.invokespecial 38, 3) := by decide +kernel
theorem dX4_init_75 : decode cX4_init 75 = .ok (.putfield 39, 3) := by decide +kernel
theorem dX4_init_78 : decode cX4_init 78 = .ok (.aload_n 0, 1) := by decide +kernel
theorem dX4_init_79 : decode cX4_init 79 = .ok (.iconst 2, 1) := by decide +kernel
theorem dX4_init_80 : decode cX4_init 80 = .ok (.anewarray 23, 3) := by decide +kernel
theorem dX4_init_83 : decode cX4_init 83 = .ok (.putfield 43, 3) := by decide +kernel
theorem dX4_init_86 : decode cX4_init 86 = .ok (.aload_n 0, 1) := by decide +kernel
theorem dX4_init_87 : decode cX4_init 87 = .ok (.new 47, 3) := by decide +kernel
theorem dX4_init_90 : decode cX4_init 90 = .ok (.dup, 1) := by decide +kernel
theorem dX4_init_91 : decode cX4_init 91 = .ok (.invokespecial 49, 3) := by decide +kernel
theorem dX4_init_94 : decode cX4_init 94 = .ok (.putfield 50, 3) := by decide +kernel
theorem dX4_init_97 : decode cX4_init 97 = .ok (.aload_n 0, 1) := by decide +kernel
theorem dX4_init_98 : decode cX4_init 98 = .ok (.bipush 64, 2) := by decide +kernel
theorem dX4_init_100 : decode cX4_init 100 = .ok (.newarray .int, 2) := by decide +kernel
theorem dX4_init_102 : decode cX4_init 102 = .ok (.putfield 54, 3) := by decide +kernel
theorem dX4_init_105 : decode cX4_init 105 = .ok (.aload_n 0, 1) := by decide +kernel
theorem dX4_init_106 : decode cX4_init 106 = .ok (.bipush 36, 2) := by decide +kernel
theorem dX4_init_108 : decode cX4_init 108 = .ok (.newarray .int, 2) := by decide +kernel
theorem dX4_init_110 : decode cX4_init 110 = .ok (.putfield 57, 3) := by decide +kernel
theorem dX4_init_113 : decode cX4_init 113 = .ok (.aload_n 0, 1) := by decide +kernel
theorem dX4_init_114 : decode cX4_init 114 = .ok (.bipush 36, 2) := by decide +kernel
theorem dX4_init_116 : decode cX4_init 116 = .ok (.newarray .int, 2) := by decide +kernel
theorem dX4_init_118 : decode cX4_init 118 = .ok (.putfield 60, 3) := by decide +kernel
theorem dX4_init_121 : decode cX4_init 121 = .ok (.iconst 0, 1) := by decide +kernel
theorem dX4_init_122 : decode cX4_init 122 = .ok (.istore_n 1, 1) := by decide +kernel
theorem dX4_init_123 : decode cX4_init 123 = .ok (.iload_n 1, 1) := by decide +kernel
theorem dX4_init_124 : decode cX4_init 124 = .ok (.aload_n 0, 1) := by decide +kernel
theorem dX4_init_125 : decode cX4_init 125 = .ok (.getfield 43, 3) := by decide +kernel
theorem dX4_init_128 : decode cX4_init 128 = .ok (.arraylength, 1) := by decide +kernel
theorem dX4_init_129 : decode cX4_init 129 = .ok (.if_icmp .ge 22, 3) := by decide +kernel
theorem dX4_init_132 : decode cX4_init 132 = .ok (.aload_n 0, 1) := by decide +kernel
theorem dX4_init_133 : decode cX4_init 133 = .ok (.getfield 43, 3) := by decide +kernel
theorem dX4_init_136 : decode cX4_init 136 = .ok (.iload_n 1, 1) := by decide +kernel
theorem dX4_init_137 : decode cX4_init 137 = .ok (.new 23, 3) := by decide +kernel
theorem dX4_init_140 : decode cX4_init 140 = .ok (.dup, 1) := by decide +kernel
theorem dX4_init_141 : decode cX4_init 141 = .ok (.invokespecial 25, 3) := by decide +kernel
theorem dX4_init_144 : decode cX4_init 144 = .ok (.aastore, 1) := by decide +kernel
theorem dX4_init_145 : decode cX4_init 145 = .ok (.iinc 1 1, 3) := by decide +kernel
theorem dX4_init_148 : decode cX4_init 148 = .ok (.goto (-25), 3) := by decide +kernel
theorem dX4_init_151 : decode cX4_init 151 = .ok (.return_, 1) := by decide +kernel
theorem dX4_write_0 : decode cX4_write 0 = .ok (.iload_n 1, 1) := by decide +kernel
theorem dX4_write_1 : decode cX4_write 1 = .ok (.ifCond .lt 10, 3) := by decide +kernel
theorem dX4_write_4 : decode cX4_write 4 = .ok (.iload_n 1, 1) := by decide +kernel
theorem dX4_write_5 : decode cX4_write 5 = .ok (.sipush 255, 3) := by decide +kernel
theorem dX4_write_8 : decode cX4_write 8 = .ok (.if_icmp .le 6, 3) := by decide +kernel
theorem dX4_write_11 : decode cX4_write 11 = .ok (.bipush (-2), 2) := by decide +kernel
theorem dX4_write_13 : decode cX4_write 13 = .ok (.ireturn, 1) := by decide +kernel
theorem dX4_write_14 : decode cX4_write 14 = .ok (.aload_n 0, 1) := by decide +kernel
theorem dX4_write_15 : decode cX4_write 15 = .ok (.getfield 63, 3) := by decide +kernel
theorem dX4_write_18 : decode cX4_write 18 = .ok (.bipush 48, 2) := by decide +kernel
theorem dX4_write_20 : decode cX4_write 20 = .ok (.if_icmp .lt 6, 3) := by decide +kernel
theorem dX4_write_23 : decode cX4_write 23 = .ok (.bipush (-4), 2) := by decide +kernel
theorem dX4_write_25 : decode cX4_write 25 = .ok (.ireturn, 1) := by decide +kernel
theorem dX4_write_26 : decode cX4_write 26 = .ok (.aload_n 0, 1) := by decide +kernel
theorem dX4_write_27 : decode cX4_write 27 = .ok (.getfield 9, 3) := by decide +kernel
theorem dX4_write_30 : decode cX4_write 30 = .ok (.aload_n 0, 1) := by decide +kernel
theorem dX4_write_31 : decode cX4_write 31 = .ok (.getfield 63, 3) := by decide +kernel
theorem dX4_write_34 : decode cX4_write 34 = .ok (.iload_n 1, 1) := by decide +kernel
theorem dX4_write_35 : decode cX4_write 35 = .ok (.invokestatic 67, 3) := by decide +kernel
theorem dX4_write_38 : decode cX4_write 38 = .ok (.aload_n 0, 1) := by decide +kernel
theorem dX4_write_39 : decode cX4_write 39 = .ok (.dup, 1) := by decide +kernel
theorem dX4_write_40 : decode cX4_write 40 = .ok (.getfield 63, 3) := by decide +kernel
theorem dX4_write_43 : decode cX4_write 43 = .ok (.iconst 1, 1) := by decide +kernel
theorem dX4_write_44 : decode cX4_write 44 = .ok (.iadd, 1) := by decide +kernel
theorem dX4_write_45 : decode cX4_write 45 = .ok (.putfield 63, 3) := by decide +kernel
theorem dX4_write_48 : decode cX4_write 48 = .ok (.aload_n 0, 1) := by decide +kernel
theorem dX4_write_49 : decode cX4_write 49 = .ok (.getfield 63, 3) := by decide +kernel
theorem dX4_write_52 : decode cX4_write 52 = .ok (.ireturn, 1) := by decide +kernel
theorem dX4_wipe_0 : decode cX4_wipe 0 = .ok (.aload_n 0, 1) := by decide +kernel
theorem dX4_wipe_1 : decode cX4_wipe 1 = .ok (.getfield 63, 3) := by decide +kernel
theorem dX4_wipe_4 : decode cX4_wipe 4 = .ok (.istore_n 1, 1) := by decide +kernel
theorem dX4_wipe_5 : decode cX4_wipe 5 = .ok (.aload_n 0, 1) := by decide +kernel
theorem dX4_wipe_6 : decode cX4_wipe 6 = .ok (.iconst 0, 1) := by decide +kernel
theorem dX4_wipe_7 : decode cX4_wipe 7 = .ok (.putfield 63, 3) := by decide +kernel
theorem dX4_wipe_10 : decode cX4_wipe 10 = .ok (.iload_n 1, 1) := by decide +kernel
theorem dX4_wipe_11 : decode cX4_wipe 11 = .ok (.ireturn, 1) := by decide +kernel
theorem dX4_fault_0 : decode cX4_fault 0 = .ok (.aload_n 0, 1) := by decide +kernel
theorem dX4_fault_1 : decode cX4_fault 1 = .ok (.invokevirtual 71, 3) := by decide +kernel
theorem dX4_fault_4 : decode cX4_fault 4 = .ok (.ireturn, 1) := by decide +kernel
theorem dX4_coast_0 : decode cX4_coast 0 = .ok (.aload_n 0, 1) := by decide +kernel
theorem dX4_coast_1 : decode cX4_coast 1 = .ok (.invokevirtual 71, 3) := by decide +kernel
theorem dX4_coast_4 : decode cX4_coast 4 = .ok (.bipush (-9), 2) := by decide +kernel
theorem dX4_coast_6 : decode cX4_coast 6 = .ok (.if_icmp .eq 6, 3) := by decide +kernel
theorem dX4_coast_9 : decode cX4_coast 9 = .ok (.bipush (-3), 2) := by decide +kernel
theorem dX4_coast_11 : decode cX4_coast 11 = .ok (.ireturn, 1) := by decide +kernel
theorem dX4_coast_12 : decode cX4_coast 12 = .ok (.aload_n 0, 1) := by decide +kernel
theorem dX4_coast_13 : decode cX4_coast 13 = .ok (.getfield 16, 3) := by decide +kernel
theorem dX4_coast_16 : decode cX4_coast 16 = .ok (.astore_n 1, 1) := by decide +kernel
theorem dX4_coast_17 : decode cX4_coast 17 = .ok (.aload_n 0, 1) := by decide +kernel
theorem dX4_coast_18 : decode cX4_coast 18 = .ok (.aload_n 0, 1) := by decide +kernel
theorem dX4_coast_19 : decode cX4_coast 19 = .ok (.getfield 20, 3) := by decide +kernel
theorem dX4_coast_22 : decode cX4_coast 22 = .ok (.putfield 16, 3) := by decide +kernel
theorem dX4_coast_25 : decode cX4_coast 25 = .ok (.aload_n 0, 1) := by decide +kernel
theorem dX4_coast_26 : decode cX4_coast 26 = .ok (.aload_n 1, 1) := by decide +kernel
theorem dX4_coast_27 : decode cX4_coast 27 = .ok (.putfield 20, 3) := by decide +kernel
theorem dX4_coast_30 : decode cX4_coast 30 = .ok (.aload_n 0, 1) := by decide +kernel
theorem dX4_coast_31 : decode cX4_coast 31 = .ok (.getfield 26, 3) := by decide +kernel
theorem dX4_coast_34 : decode cX4_coast 34 = .ok (.aload_n 0, 1) := by decide +kernel
theorem dX4_coast_35 : decode cX4_coast 35 = .ok (.getfield 16, 3) := by decide +kernel
theorem dX4_coast_38 : decode cX4_coast 38 = .ok (.invokevirtual 75, 3) := by decide +kernel
theorem dX4_coast_41 : decode cX4_coast 41 = .ok (.aload_n 0, 1) := by decide +kernel
theorem dX4_coast_42 : decode cX4_coast 42 = .ok (.getfield 39, 3) := by decide +kernel
theorem dX4_coast_45 : decode cX4_coast 45 = .ok (.invokevirtual 79, 3) := by decide +kernel
theorem dX4_coast_48 : decode cX4_coast 48 = .ok (.aload_n 0, 1) := by decide +kernel
theorem dX4_coast_49 : decode cX4_coast 49 = .ok (.iconst 0, 1) := by decide +kernel
theorem dX4_coast_50 : decode cX4_coast 50 = .ok (.putfield 82, 3) := by decide +kernel
theorem dX4_coast_53 : decode cX4_coast 53 = .ok (.bipush 100, 2) := by decide +kernel
theorem dX4_coast_55 : decode cX4_coast 55 = .ok (.aload_n 0, 1) := by decide +kernel
theorem dX4_coast_56 : decode cX4_coast 56 = .ok (.getfield 16, 3) := by decide +kernel
theorem dX4_coast_59 : decode cX4_coast 59 = .ok (.getfield 85, 3) := by decide +kernel
theorem dX4_coast_62 : decode cX4_coast 62 = .ok (.imul, 1) := by decide +kernel
theorem dX4_coast_63 : decode cX4_coast 63 = .ok (.bipush 10, 2) := by decide +kernel
theorem dX4_coast_65 : decode cX4_coast 65 = .ok (.aload_n 0, 1) := by decide +kernel
theorem dX4_coast_66 : decode cX4_coast 66 = .ok (.getfield 16, 3) := by decide +kernel
theorem dX4_coast_69 : decode cX4_coast 69 = .ok (.getfield 88, 3) := by decide +kernel
theorem dX4_coast_72 : decode cX4_coast 72 = .ok (.imul, 1) := by decide +kernel
theorem dX4_coast_73 : decode cX4_coast 73 = .ok (.iadd, 1) := by decide +kernel
theorem dX4_coast_74 : decode cX4_coast 74 = .ok (.aload_n 0, 1) := by decide +kernel
theorem dX4_coast_75 : decode cX4_coast 75 = .ok (.getfield 16, 3) := by decide +kernel
theorem dX4_coast_78 : decode cX4_coast 78 = .ok (.getfield 91, 3) := by decide +kernel
theorem dX4_coast_81 : decode cX4_coast 81 = .ok (.iadd, 1) := by decide +kernel
theorem dX4_coast_82 : decode cX4_coast 82 = .ok (.ireturn, 1) := by decide +kernel
theorem dX4_ground_0 : decode cX4_ground 0 = .ok (.aload_n 0, 1) := by decide +kernel
theorem dX4_ground_1 : decode cX4_ground 1 = .ok (.iload_n 1, 1) := by decide +kernel
theorem dX4_ground_2 : decode cX4_ground 2 = .ok (.invokevirtual 94, 3) := by decide +kernel
theorem dX4_ground_5 : decode cX4_ground 5 = .ok (.ifCond .ne 5, 3) := by decide +kernel
theorem dX4_ground_8 : decode cX4_ground 8 = .ok (.iconst (-1), 1) := by decide +kernel
theorem dX4_ground_9 : decode cX4_ground 9 = .ok (.ireturn, 1) := by decide +kernel
theorem dX4_ground_10 : decode cX4_ground 10 = .ok (.iload_n 2, 1) := by decide +kernel
theorem dX4_ground_11 : decode cX4_ground 11 = .ok (.tableswitch 91 0 3 #[29, 41, 53, 65], 29) := by decide +kernel
theorem dX4_ground_40 : decode cX4_ground 40 = .ok (.aload_n 0, 1) := by decide +kernel
theorem dX4_ground_41 : decode cX4_ground 41 = .ok (.getfield 16, 3) := by decide +kernel
theorem dX4_ground_44 : decode cX4_ground 44 = .ok (.getfield 98, 3) := by decide +kernel
theorem dX4_ground_47 : decode cX4_ground 47 = .ok (.iload_n 1, 1) := by decide +kernel
theorem dX4_ground_48 : decode cX4_ground 48 = .ok (.invokestatic 101, 3) := by decide +kernel
theorem dX4_ground_51 : decode cX4_ground 51 = .ok (.ireturn, 1) := by decide +kernel
theorem dX4_ground_52 : decode cX4_ground 52 = .ok (.aload_n 0, 1) := by decide +kernel
theorem dX4_ground_53 : decode cX4_ground 53 = .ok (.getfield 16, 3) := by decide +kernel
theorem dX4_ground_56 : decode cX4_ground 56 = .ok (.getfield 105, 3) := by decide +kernel
theorem dX4_ground_59 : decode cX4_ground 59 = .ok (.iload_n 1, 1) := by decide +kernel
theorem dX4_ground_60 : decode cX4_ground 60 = .ok (.invokestatic 101, 3) := by decide +kernel
theorem dX4_ground_63 : decode cX4_ground 63 = .ok (.ireturn, 1) := by decide +kernel
theorem dX4_ground_64 : decode cX4_ground 64 = .ok (.aload_n 0, 1) := by decide +kernel
theorem dX4_ground_65 : decode cX4_ground 65 = .ok (.getfield 16, 3) := by decide +kernel
theorem dX4_ground_68 : decode cX4_ground 68 = .ok (.getfield 108, 3) := by decide +kernel
theorem dX4_ground_71 : decode cX4_ground 71 = .ok (.iload_n 1, 1) := by decide +kernel
theorem dX4_ground_72 : decode cX4_ground 72 = .ok (.invokestatic 101, 3) := by decide +kernel
theorem dX4_ground_75 : decode cX4_ground 75 = .ok (.ireturn, 1) := by decide +kernel
theorem dX4_ground_76 : decode cX4_ground 76 = .ok (.aload_n 0, 1) := by decide +kernel
theorem dX4_ground_77 : decode cX4_ground 77 = .ok (.getfield 26, 3) := by decide +kernel
theorem dX4_ground_80 : decode cX4_ground 80 = .ok (.aload_n 0, 1) := by decide +kernel
theorem dX4_ground_81 : decode cX4_ground 81 = .ok (.getfield 16, 3) := by decide +kernel
theorem dX4_ground_84 : decode cX4_ground 84 = .ok (.getfield 98, 3) := by decide +kernel
theorem dX4_ground_87 : decode cX4_ground 87 = .ok (.iload_n 1, 1) := by decide +kernel
theorem dX4_ground_88 : decode cX4_ground 88 = .ok (.invokestatic 101, 3) := by decide +kernel
theorem dX4_ground_91 : decode cX4_ground 91 = .ok (.aload_n 0, 1) := by decide +kernel
theorem dX4_ground_92 : decode cX4_ground 92 = .ok (.getfield 16, 3) := by decide +kernel
theorem dX4_ground_95 : decode cX4_ground 95 = .ok (.getfield 91, 3) := by decide +kernel
theorem dX4_ground_98 : decode cX4_ground 98 = .ok (.invokevirtual 111, 3) := by decide +kernel
theorem dX4_ground_101 : decode cX4_ground 101 = .ok (.ireturn, 1) := by decide +kernel
theorem dX4_ground_102 : decode cX4_ground 102 = .ok (.bipush (-2), 2) := by decide +kernel
theorem dX4_ground_104 : decode cX4_ground 104 = .ok (.ireturn, 1) := by decide +kernel
theorem dX4_child_0 : decode cX4_child 0 = .ok (.aload_n 0, 1) := by decide +kernel
theorem dX4_child_1 : decode cX4_child 1 = .ok (.iload_n 1, 1) := by decide +kernel
theorem dX4_child_2 : decode cX4_child 2 = .ok (.invokevirtual 115, 3) := by decide +kernel
theorem dX4_child_5 : decode cX4_child 5 = .ok (.ifCond .ne 5, 3) := by decide +kernel
theorem dX4_child_8 : decode cX4_child 8 = .ok (.iconst (-1), 1) := by decide +kernel
theorem dX4_child_9 : decode cX4_child 9 = .ok (.ireturn, 1) := by decide +kernel
theorem dX4_child_10 : decode cX4_child 10 = .ok (.iload_n 2, 1) := by decide +kernel
theorem dX4_child_11 : decode cX4_child 11 = .ok (.tableswitch 102 0 4 #[33, 45, 57, 74, 83], 33) := by decide +kernel
theorem dX4_child_44 : decode cX4_child 44 = .ok (.aload_n 0, 1) := by decide +kernel
theorem dX4_child_45 : decode cX4_child 45 = .ok (.getfield 26, 3) := by decide +kernel
theorem dX4_child_48 : decode cX4_child 48 = .ok (.getfield 118, 3) := by decide +kernel
theorem dX4_child_51 : decode cX4_child 51 = .ok (.iload_n 1, 1) := by decide +kernel
theorem dX4_child_52 : decode cX4_child 52 = .ok (.invokestatic 101, 3) := by decide +kernel
theorem dX4_child_55 : decode cX4_child 55 = .ok (.ireturn, 1) := by decide +kernel
theorem dX4_child_56 : decode cX4_child 56 = .ok (.aload_n 0, 1) := by decide +kernel
theorem dX4_child_57 : decode cX4_child 57 = .ok (.getfield 16, 3) := by decide +kernel
theorem dX4_child_60 : decode cX4_child 60 = .ok (.getfield 121, 3) := by decide +kernel
theorem dX4_child_63 : decode cX4_child 63 = .ok (.iload_n 1, 1) := by decide +kernel
theorem dX4_child_64 : decode cX4_child 64 = .ok (.invokestatic 101, 3) := by decide +kernel
theorem dX4_child_67 : decode cX4_child 67 = .ok (.ireturn, 1) := by decide +kernel
theorem dX4_child_68 : decode cX4_child 68 = .ok (.aload_n 0, 1) := by decide +kernel
theorem dX4_child_69 : decode cX4_child 69 = .ok (.getfield 26, 3) := by decide +kernel
theorem dX4_child_72 : decode cX4_child 72 = .ok (.iload_n 1, 1) := by decide +kernel
theorem dX4_child_73 : decode cX4_child 73 = .ok (.invokevirtual 124, 3) := by decide +kernel
theorem dX4_child_76 : decode cX4_child 76 = .ok (.ifCond .eq 7, 3) := by decide +kernel
theorem dX4_child_79 : decode cX4_child 79 = .ok (.iconst 1, 1) := by decide +kernel
theorem dX4_child_80 : decode cX4_child 80 = .ok (.goto 4, 3) := by decide +kernel
theorem dX4_child_83 : decode cX4_child 83 = .ok (.iconst 0, 1) := by decide +kernel
theorem dX4_child_84 : decode cX4_child 84 = .ok (.ireturn, 1) := by decide +kernel
theorem dX4_child_85 : decode cX4_child 85 = .ok (.aload_n 0, 1) := by decide +kernel
theorem dX4_child_86 : decode cX4_child 86 = .ok (.getfield 26, 3) := by decide +kernel
theorem dX4_child_89 : decode cX4_child 89 = .ok (.iload_n 1, 1) := by decide +kernel
theorem dX4_child_90 : decode cX4_child 90 = .ok (.invokevirtual 127, 3) := by decide +kernel
theorem dX4_child_93 : decode cX4_child 93 = .ok (.ireturn, 1) := by decide +kernel
theorem dX4_child_94 : decode cX4_child 94 = .ok (.aload_n 0, 1) := by decide +kernel
theorem dX4_child_95 : decode cX4_child 95 = .ok (.getfield 16, 3) := by decide +kernel
theorem dX4_child_98 : decode cX4_child 98 = .ok (.aload_n 0, 1) := by decide +kernel
theorem dX4_child_99 : decode cX4_child 99 = .ok (.getfield 26, 3) := by decide +kernel
theorem dX4_child_102 : decode cX4_child 102 = .ok (.getfield 118, 3) := by decide +kernel
theorem dX4_child_105 : decode cX4_child 105 = .ok (.iload_n 1, 1) := by decide +kernel
theorem dX4_child_106 : decode cX4_child 106 = .ok (.invokestatic 101, 3) := by decide +kernel
theorem dX4_child_109 : decode cX4_child 109 = .ok (.invokevirtual 131, 3) := by decide +kernel
theorem dX4_child_112 : decode cX4_child 112 = .ok (.ireturn, 1) := by decide +kernel
theorem dX4_child_113 : decode cX4_child 113 = .ok (.bipush (-2), 2) := by decide +kernel
theorem dX4_child_115 : decode cX4_child 115 = .ok (.ireturn, 1) := by decide +kernel
theorem dX4_knows_0 : decode cX4_knows 0 = .ok (.aload_n 0, 1) := by decide +kernel
theorem dX4_knows_1 : decode cX4_knows 1 = .ok (.iload_n 1, 1) := by decide +kernel
theorem dX4_knows_2 : decode cX4_knows 2 = .ok (.invokevirtual 115, 3) := by decide +kernel
theorem dX4_knows_5 : decode cX4_knows 5 = .ok (.ifCond .eq 10, 3) := by decide +kernel
theorem dX4_knows_8 : decode cX4_knows 8 = .ok (.iload_n 2, 1) := by decide +kernel
theorem dX4_knows_9 : decode cX4_knows 9 = .ok (.invokestatic 134, 3) := by decide +kernel
theorem dX4_knows_12 : decode cX4_knows 12 = .ok (.ifCond .ne 5, 3) := by decide +kernel
theorem dX4_knows_15 : decode cX4_knows 15 = .ok (.iconst (-1), 1) := by decide +kernel
theorem dX4_knows_16 : decode cX4_knows 16 = .ok (.ireturn, 1) := by decide +kernel
theorem dX4_knows_17 : decode cX4_knows 17 = .ok (.aload_n 0, 1) := by decide +kernel
theorem dX4_knows_18 : decode cX4_knows 18 = .ok (.getfield 26, 3) := by decide +kernel
theorem dX4_knows_21 : decode cX4_knows 21 = .ok (.iload_n 1, 1) := by decide +kernel
theorem dX4_knows_22 : decode cX4_knows 22 = .ok (.iload_n 2, 1) := by decide +kernel
theorem dX4_knows_23 : decode cX4_knows 23 = .ok (.invokevirtual 137, 3) := by decide +kernel
theorem dX4_knows_26 : decode cX4_knows 26 = .ok (.ireturn, 1) := by decide +kernel
theorem dX4_day_0 : decode cX4_day 0 = .ok (.aload_n 0, 1) := by decide +kernel
theorem dX4_day_1 : decode cX4_day 1 = .ok (.getfield 39, 3) := by decide +kernel
theorem dX4_day_4 : decode cX4_day 4 = .ok (.aload_n 0, 1) := by decide +kernel
theorem dX4_day_5 : decode cX4_day 5 = .ok (.getfield 26, 3) := by decide +kernel
theorem dX4_day_8 : decode cX4_day 8 = .ok (.invokevirtual 140, 3) := by decide +kernel
theorem dX4_day_11 : decode cX4_day 11 = .ok (.aload_n 0, 1) := by decide +kernel
theorem dX4_day_12 : decode cX4_day 12 = .ok (.getfield 26, 3) := by decide +kernel
theorem dX4_day_15 : decode cX4_day 15 = .ok (.aload_n 0, 1) := by decide +kernel
theorem dX4_day_16 : decode cX4_day 16 = .ok (.getfield 16, 3) := by decide +kernel
theorem dX4_day_19 : decode cX4_day 19 = .ok (.iconst 1, 1) := by decide +kernel
theorem dX4_day_20 : decode cX4_day 20 = .ok (.bipush 63, 2) := by decide +kernel
theorem dX4_day_22 : decode cX4_day 22 = .ok (.invokevirtual 144, 3) := by decide +kernel
theorem dX4_day_25 : decode cX4_day 25 = .ok (.aload_n 0, 1) := by decide +kernel
theorem dX4_day_26 : decode cX4_day 26 = .ok (.getfield 26, 3) := by decide +kernel
theorem dX4_day_29 : decode cX4_day 29 = .ok (.invokevirtual 148, 3) := by decide +kernel
theorem dX4_day_32 : decode cX4_day 32 = .ok (.ireturn, 1) := by decide +kernel
theorem dX4_set_0 : decode cX4_set 0 = .ok (.aload_n 0, 1) := by decide +kernel
theorem dX4_set_1 : decode cX4_set 1 = .ok (.iload_n 1, 1) := by decide +kernel
theorem dX4_set_2 : decode cX4_set 2 = .ok (.invokevirtual 115, 3) := by decide +kernel
theorem dX4_set_5 : decode cX4_set 5 = .ok (.ifCond .eq 10, 3) := by decide +kernel
theorem dX4_set_8 : decode cX4_set 8 = .ok (.iload_n 2, 1) := by decide +kernel
theorem dX4_set_9 : decode cX4_set 9 = .ok (.invokestatic 151, 3) := by decide +kernel
theorem dX4_set_12 : decode cX4_set 12 = .ok (.ifCond .ne 5, 3) := by decide +kernel
theorem dX4_set_15 : decode cX4_set 15 = .ok (.iconst (-1), 1) := by decide +kernel
theorem dX4_set_16 : decode cX4_set 16 = .ok (.ireturn, 1) := by decide +kernel
theorem dX4_set_17 : decode cX4_set 17 = .ok (.aload_n 0, 1) := by decide +kernel
theorem dX4_set_18 : decode cX4_set 18 = .ok (.getfield 26, 3) := by decide +kernel
theorem dX4_set_21 : decode cX4_set 21 = .ok (.getfield 118, 3) := by decide +kernel
theorem dX4_set_24 : decode cX4_set 24 = .ok (.iload_n 1, 1) := by decide +kernel
theorem dX4_set_25 : decode cX4_set 25 = .ok (.invokestatic 101, 3) := by decide +kernel
theorem dX4_set_28 : decode cX4_set 28 = .ok (.istore_n 3, 1) := by decide +kernel
theorem dX4_set_29 : decode cX4_set 29 = .ok (.iload_n 3, 1) := by decide +kernel
theorem dX4_set_30 : decode cX4_set 30 = .ok (.iload_n 2, 1) := by decide +kernel
theorem dX4_set_31 : decode cX4_set 31 = .ok (.if_icmp .ne 6, 3) := by decide +kernel
theorem dX4_set_34 : decode cX4_set 34 = .ok (.bipush (-3), 2) := by decide +kernel
theorem dX4_set_36 : decode cX4_set 36 = .ok (.ireturn, 1) := by decide +kernel
theorem dX4_set_37 : decode cX4_set 37 = .ok (.aload_n 0, 1) := by decide +kernel
theorem dX4_set_38 : decode cX4_set 38 = .ok (.getfield 39, 3) := by decide +kernel
theorem dX4_set_41 : decode cX4_set 41 = .ok (.aload_n 0, 1) := by decide +kernel
theorem dX4_set_42 : decode cX4_set 42 = .ok (.getfield 26, 3) := by decide +kernel
theorem dX4_set_45 : decode cX4_set 45 = .ok (.invokevirtual 140, 3) := by decide +kernel
theorem dX4_set_48 : decode cX4_set 48 = .ok (.aload_n 0, 1) := by decide +kernel
theorem dX4_set_49 : decode cX4_set 49 = .ok (.getfield 26, 3) := by decide +kernel
theorem dX4_set_52 : decode cX4_set 52 = .ok (.getfield 118, 3) := by decide +kernel
theorem dX4_set_55 : decode cX4_set 55 = .ok (.iload_n 1, 1) := by decide +kernel
theorem dX4_set_56 : decode cX4_set 56 = .ok (.iload_n 2, 1) := by decide +kernel
theorem dX4_set_57 : decode cX4_set 57 = .ok (.invokestatic 67, 3) := by decide +kernel
theorem dX4_set_60 : decode cX4_set 60 = .ok (.iload_n 3, 1) := by decide +kernel
theorem dX4_set_61 : decode cX4_set 61 = .ok (.ireturn, 1) := by decide +kernel
theorem dX4_moor_0 : decode cX4_moor 0 = .ok (.aload_n 0, 1) := by decide +kernel
theorem dX4_moor_1 : decode cX4_moor 1 = .ok (.iload_n 1, 1) := by decide +kernel
theorem dX4_moor_2 : decode cX4_moor 2 = .ok (.invokevirtual 115, 3) := by decide +kernel
theorem dX4_moor_5 : decode cX4_moor 5 = .ok (.ifCond .ne 5, 3) := by decide +kernel
theorem dX4_moor_8 : decode cX4_moor 8 = .ok (.iconst (-1), 1) := by decide +kernel
theorem dX4_moor_9 : decode cX4_moor 9 = .ok (.ireturn, 1) := by decide +kernel
theorem dX4_moor_10 : decode cX4_moor 10 = .ok (.aload_n 0, 1) := by decide +kernel
theorem dX4_moor_11 : decode cX4_moor 11 = .ok (.getfield 39, 3) := by decide +kernel
theorem dX4_moor_14 : decode cX4_moor 14 = .ok (.aload_n 0, 1) := by decide +kernel
theorem dX4_moor_15 : decode cX4_moor 15 = .ok (.getfield 26, 3) := by decide +kernel
theorem dX4_moor_18 : decode cX4_moor 18 = .ok (.invokevirtual 140, 3) := by decide +kernel
theorem dX4_moor_21 : decode cX4_moor 21 = .ok (.aload_n 0, 1) := by decide +kernel
theorem dX4_moor_22 : decode cX4_moor 22 = .ok (.getfield 26, 3) := by decide +kernel
theorem dX4_moor_25 : decode cX4_moor 25 = .ok (.iload_n 1, 1) := by decide +kernel
theorem dX4_moor_26 : decode cX4_moor 26 = .ok (.invokevirtual 154, 3) := by decide +kernel
theorem dX4_moor_29 : decode cX4_moor 29 = .ok (.aload_n 0, 1) := by decide +kernel
theorem dX4_moor_30 : decode cX4_moor 30 = .ok (.getfield 26, 3) := by decide +kernel
theorem dX4_moor_33 : decode cX4_moor 33 = .ok (.iload_n 1, 1) := by decide +kernel
theorem dX4_moor_34 : decode cX4_moor 34 = .ok (.invokevirtual 124, 3) := by decide +kernel
theorem dX4_moor_37 : decode cX4_moor 37 = .ok (.ifCond .eq 7, 3) := by decide +kernel
theorem dX4_moor_40 : decode cX4_moor 40 = .ok (.iconst 1, 1) := by decide +kernel
theorem dX4_moor_41 : decode cX4_moor 41 = .ok (.goto 4, 3) := by decide +kernel
theorem dX4_moor_44 : decode cX4_moor 44 = .ok (.iconst 0, 1) := by decide +kernel
theorem dX4_moor_45 : decode cX4_moor 45 = .ok (.ireturn, 1) := by decide +kernel
theorem dX4_put_0 : decode cX4_put 0 = .ok (.aload_n 0, 1) := by decide +kernel
theorem dX4_put_1 : decode cX4_put 1 = .ok (.iload_n 1, 1) := by decide +kernel
theorem dX4_put_2 : decode cX4_put 2 = .ok (.invokevirtual 115, 3) := by decide +kernel
theorem dX4_put_5 : decode cX4_put 5 = .ok (.ifCond .ne 5, 3) := by decide +kernel
theorem dX4_put_8 : decode cX4_put 8 = .ok (.iconst (-1), 1) := by decide +kernel
theorem dX4_put_9 : decode cX4_put 9 = .ok (.ireturn, 1) := by decide +kernel
theorem dX4_put_10 : decode cX4_put 10 = .ok (.aload_n 0, 1) := by decide +kernel
theorem dX4_put_11 : decode cX4_put 11 = .ok (.getfield 26, 3) := by decide +kernel
theorem dX4_put_14 : decode cX4_put 14 = .ok (.iload_n 1, 1) := by decide +kernel
theorem dX4_put_15 : decode cX4_put 15 = .ok (.invokevirtual 127, 3) := by decide +kernel
theorem dX4_put_18 : decode cX4_put 18 = .ok (.istore_n 2, 1) := by decide +kernel
theorem dX4_put_19 : decode cX4_put 19 = .ok (.iload_n 2, 1) := by decide +kernel
theorem dX4_put_20 : decode cX4_put 20 = .ok (.ifCond .ne 6, 3) := by decide +kernel
theorem dX4_put_23 : decode cX4_put 23 = .ok (.bipush (-3), 2) := by decide +kernel
theorem dX4_put_25 : decode cX4_put 25 = .ok (.ireturn, 1) := by decide +kernel
theorem dX4_put_26 : decode cX4_put 26 = .ok (.aload_n 0, 1) := by decide +kernel
theorem dX4_put_27 : decode cX4_put 27 = .ok (.getfield 39, 3) := by decide +kernel
theorem dX4_put_30 : decode cX4_put 30 = .ok (.aload_n 0, 1) := by decide +kernel
theorem dX4_put_31 : decode cX4_put 31 = .ok (.getfield 26, 3) := by decide +kernel
theorem dX4_put_34 : decode cX4_put 34 = .ok (.invokevirtual 140, 3) := by decide +kernel
theorem dX4_put_37 : decode cX4_put 37 = .ok (.aload_n 0, 1) := by decide +kernel
theorem dX4_put_38 : decode cX4_put 38 = .ok (.getfield 26, 3) := by decide +kernel
theorem dX4_put_41 : decode cX4_put 41 = .ok (.iload_n 1, 1) := by decide +kernel
theorem dX4_put_42 : decode cX4_put 42 = .ok (.invokevirtual 158, 3) := by decide +kernel
theorem dX4_put_45 : decode cX4_put 45 = .ok (.iload_n 2, 1) := by decide +kernel
theorem dX4_put_46 : decode cX4_put 46 = .ok (.ireturn, 1) := by decide +kernel
theorem dX4_undo_0 : decode cX4_undo 0 = .ok (.aload_n 0, 1) := by decide +kernel
theorem dX4_undo_1 : decode cX4_undo 1 = .ok (.getfield 39, 3) := by decide +kernel
theorem dX4_undo_4 : decode cX4_undo 4 = .ok (.getfield 161, 3) := by decide +kernel
theorem dX4_undo_7 : decode cX4_undo 7 = .ok (.ifCond .ne 6, 3) := by decide +kernel
theorem dX4_undo_10 : decode cX4_undo 10 = .ok (.bipush (-3), 2) := by decide +kernel
theorem dX4_undo_12 : decode cX4_undo 12 = .ok (.ireturn, 1) := by decide +kernel
theorem dX4_undo_13 : decode cX4_undo 13 = .ok (.aload_n 0, 1) := by decide +kernel
theorem dX4_undo_14 : decode cX4_undo 14 = .ok (.getfield 39, 3) := by decide +kernel
theorem dX4_undo_17 : decode cX4_undo 17 = .ok (.aload_n 0, 1) := by decide +kernel
theorem dX4_undo_18 : decode cX4_undo 18 = .ok (.getfield 26, 3) := by decide +kernel
theorem dX4_undo_21 : decode cX4_undo 21 = .ok (.invokevirtual 164, 3) := by decide +kernel
theorem dX4_undo_24 : decode cX4_undo 24 = .ok (.aload_n 0, 1) := by decide +kernel
theorem dX4_undo_25 : decode cX4_undo 25 = .ok (.getfield 39, 3) := by decide +kernel
theorem dX4_undo_28 : decode cX4_undo 28 = .ok (.getfield 161, 3) := by decide +kernel
theorem dX4_undo_31 : decode cX4_undo 31 = .ok (.ireturn, 1) := by decide +kernel
theorem dX4_ahead_0 : decode cX4_ahead 0 = .ok (.aload_n 0, 1) := by decide +kernel
theorem dX4_ahead_1 : decode cX4_ahead 1 = .ok (.iload_n 1, 1) := by decide +kernel
theorem dX4_ahead_2 : decode cX4_ahead 2 = .ok (.invokevirtual 115, 3) := by decide +kernel
theorem dX4_ahead_5 : decode cX4_ahead 5 = .ok (.ifCond .eq 10, 3) := by decide +kernel
theorem dX4_ahead_8 : decode cX4_ahead 8 = .ok (.iload_n 2, 1) := by decide +kernel
theorem dX4_ahead_9 : decode cX4_ahead 9 = .ok (.invokestatic 134, 3) := by decide +kernel
theorem dX4_ahead_12 : decode cX4_ahead 12 = .ok (.ifCond .ne 5, 3) := by decide +kernel
theorem dX4_ahead_15 : decode cX4_ahead 15 = .ok (.iconst (-1), 1) := by decide +kernel
theorem dX4_ahead_16 : decode cX4_ahead 16 = .ok (.ireturn, 1) := by decide +kernel
theorem dX4_ahead_17 : decode cX4_ahead 17 = .ok (.iload_n 3, 1) := by decide +kernel
theorem dX4_ahead_18 : decode cX4_ahead 18 = .ok (.ifCond .lt 9, 3) := by decide +kernel
theorem dX4_ahead_21 : decode cX4_ahead 21 = .ok (.iload_n 3, 1) := by decide +kernel
theorem dX4_ahead_22 : decode cX4_ahead 22 = .ok (.bipush 20, 2) := by decide +kernel
theorem dX4_ahead_24 : decode cX4_ahead 24 = .ok (.if_icmp .le 6, 3) := by decide +kernel
theorem dX4_ahead_27 : decode cX4_ahead 27 = .ok (.bipush (-2), 2) := by decide +kernel
theorem dX4_ahead_29 : decode cX4_ahead 29 = .ok (.ireturn, 1) := by decide +kernel
theorem dX4_ahead_30 : decode cX4_ahead 30 = .ok (.aload_n 0, 1) := by decide +kernel
theorem dX4_ahead_31 : decode cX4_ahead 31 = .ok (.iload_n 3, 1) := by decide +kernel
theorem dX4_ahead_32 : decode cX4_ahead 32 = .ok (.invokevirtual 167, 3) := by decide +kernel
theorem dX4_ahead_35 : decode cX4_ahead 35 = .ok (.aload_n 0, 1) := by decide +kernel
theorem dX4_ahead_36 : decode cX4_ahead 36 = .ok (.getfield 30, 3) := by decide +kernel
theorem dX4_ahead_39 : decode cX4_ahead 39 = .ok (.iload_n 1, 1) := by decide +kernel
theorem dX4_ahead_40 : decode cX4_ahead 40 = .ok (.iload_n 2, 1) := by decide +kernel
theorem dX4_ahead_41 : decode cX4_ahead 41 = .ok (.invokevirtual 137, 3) := by decide +kernel
theorem dX4_ahead_44 : decode cX4_ahead 44 = .ok (.ireturn, 1) := by decide +kernel
theorem dX4_later_0 : decode cX4_later 0 = .ok (.aload_n 0, 1) := by decide +kernel
theorem dX4_later_1 : decode cX4_later 1 = .ok (.iload_n 1, 1) := by decide +kernel
theorem dX4_later_2 : decode cX4_later 2 = .ok (.invokevirtual 115, 3) := by decide +kernel
theorem dX4_later_5 : decode cX4_later 5 = .ok (.ifCond .ne 5, 3) := by decide +kernel
theorem dX4_later_8 : decode cX4_later 8 = .ok (.iconst (-1), 1) := by decide +kernel
theorem dX4_later_9 : decode cX4_later 9 = .ok (.ireturn, 1) := by decide +kernel
theorem dX4_later_10 : decode cX4_later 10 = .ok (.iload_n 2, 1) := by decide +kernel
theorem dX4_later_11 : decode cX4_later 11 = .ok (.ifCond .lt 18, 3) := by decide +kernel
theorem dX4_later_14 : decode cX4_later 14 = .ok (.iload_n 2, 1) := by decide +kernel
theorem dX4_later_15 : decode cX4_later 15 = .ok (.bipush 20, 2) := by decide +kernel
theorem dX4_later_17 : decode cX4_later 17 = .ok (.if_icmp .gt 12, 3) := by decide +kernel
theorem dX4_later_20 : decode cX4_later 20 = .ok (.iload_n 3, 1) := by decide +kernel
theorem dX4_later_21 : decode cX4_later 21 = .ok (.ifCond .lt 8, 3) := by decide +kernel
theorem dX4_later_24 : decode cX4_later 24 = .ok (.iload_n 3, 1) := by decide +kernel
theorem dX4_later_25 : decode cX4_later 25 = .ok (.iconst 1, 1) := by decide +kernel
theorem dX4_later_26 : decode cX4_later 26 = .ok (.if_icmp .le 6, 3) := by decide +kernel
theorem dX4_later_29 : decode cX4_later 29 = .ok (.bipush (-2), 2) := by decide +kernel
theorem dX4_later_31 : decode cX4_later 31 = .ok (.ireturn, 1) := by decide +kernel
theorem dX4_later_32 : decode cX4_later 32 = .ok (.aload_n 0, 1) := by decide +kernel
theorem dX4_later_33 : decode cX4_later 33 = .ok (.iload_n 2, 1) := by decide +kernel
theorem dX4_later_34 : decode cX4_later 34 = .ok (.invokevirtual 167, 3) := by decide +kernel
theorem dX4_later_37 : decode cX4_later 37 = .ok (.iload_n 3, 1) := by decide +kernel
theorem dX4_later_38 : decode cX4_later 38 = .ok (.ifCond .ne 17, 3) := by decide +kernel
theorem dX4_later_41 : decode cX4_later 41 = .ok (.aload_n 0, 1) := by decide +kernel
theorem dX4_later_42 : decode cX4_later 42 = .ok (.getfield 30, 3) := by decide +kernel
theorem dX4_later_45 : decode cX4_later 45 = .ok (.getfield 118, 3) := by decide +kernel
theorem dX4_later_48 : decode cX4_later 48 = .ok (.iload_n 1, 1) := by decide +kernel
theorem dX4_later_49 : decode cX4_later 49 = .ok (.invokestatic 101, 3) := by decide +kernel
theorem dX4_later_52 : decode cX4_later 52 = .ok (.goto 11, 3) := by decide +kernel
theorem dX4_later_55 : decode cX4_later 55 = .ok (.aload_n 0, 1) := by decide +kernel
theorem dX4_later_56 : decode cX4_later 56 = .ok (.getfield 30, 3) := by decide +kernel
theorem dX4_later_59 : decode cX4_later 59 = .ok (.iload_n 1, 1) := by decide +kernel
theorem dX4_later_60 : decode cX4_later 60 = .ok (.invokevirtual 127, 3) := by decide +kernel
theorem dX4_later_63 : decode cX4_later 63 = .ok (.ireturn, 1) := by decide +kernel
theorem dX4_enough_0 : decode cX4_enough 0 = .ok (.aload_n 0, 1) := by decide +kernel
theorem dX4_enough_1 : decode cX4_enough 1 = .ok (.iload_n 1, 1) := by decide +kernel
theorem dX4_enough_2 : decode cX4_enough 2 = .ok (.invokevirtual 115, 3) := by decide +kernel
theorem dX4_enough_5 : decode cX4_enough 5 = .ok (.ifCond .eq 10, 3) := by decide +kernel
theorem dX4_enough_8 : decode cX4_enough 8 = .ok (.iload_n 2, 1) := by decide +kernel
theorem dX4_enough_9 : decode cX4_enough 9 = .ok (.invokestatic 134, 3) := by decide +kernel
theorem dX4_enough_12 : decode cX4_enough 12 = .ok (.ifCond .ne 5, 3) := by decide +kernel
theorem dX4_enough_15 : decode cX4_enough 15 = .ok (.iconst (-1), 1) := by decide +kernel
theorem dX4_enough_16 : decode cX4_enough 16 = .ok (.ireturn, 1) := by decide +kernel
theorem dX4_enough_17 : decode cX4_enough 17 = .ok (.iload_n 3, 1) := by decide +kernel
theorem dX4_enough_18 : decode cX4_enough 18 = .ok (.iconst 1, 1) := by decide +kernel
theorem dX4_enough_19 : decode cX4_enough 19 = .ok (.if_icmp .lt 9, 3) := by decide +kernel
theorem dX4_enough_22 : decode cX4_enough 22 = .ok (.iload_n 3, 1) := by decide +kernel
theorem dX4_enough_23 : decode cX4_enough 23 = .ok (.bipush 9, 2) := by decide +kernel
theorem dX4_enough_25 : decode cX4_enough 25 = .ok (.if_icmp .le 6, 3) := by decide +kernel
theorem dX4_enough_28 : decode cX4_enough 28 = .ok (.bipush (-2), 2) := by decide +kernel
theorem dX4_enough_30 : decode cX4_enough 30 = .ok (.ireturn, 1) := by decide +kernel
theorem dX4_enough_31 : decode cX4_enough 31 = .ok (.aload_n 0, 1) := by decide +kernel
theorem dX4_enough_32 : decode cX4_enough 32 = .ok (.getfield 30, 3) := by decide +kernel
theorem dX4_enough_35 : decode cX4_enough 35 = .ok (.aload_n 0, 1) := by decide +kernel
theorem dX4_enough_36 : decode cX4_enough 36 = .ok (.getfield 26, 3) := by decide +kernel
theorem dX4_enough_39 : decode cX4_enough 39 = .ok (.invokevirtual 170, 3) := by decide +kernel
theorem dX4_enough_42 : decode cX4_enough 42 = .ok (.iconst 0, 1) := by decide +kernel
theorem dX4_enough_43 : decode cX4_enough 43 = .ok (.istore 4, 2) := by decide +kernel
theorem dX4_enough_45 : decode cX4_enough 45 = .ok (.iload 4, 2) := by decide +kernel
theorem dX4_enough_47 : decode cX4_enough 47 = .ok (.bipush 20, 2) := by decide +kernel
theorem dX4_enough_49 : decode cX4_enough 49 = .ok (.if_icmp .gt 39, 3) := by decide +kernel
theorem dX4_enough_52 : decode cX4_enough 52 = .ok (.aload_n 0, 1) := by decide +kernel
theorem dX4_enough_53 : decode cX4_enough 53 = .ok (.getfield 30, 3) := by decide +kernel
theorem dX4_enough_56 : decode cX4_enough 56 = .ok (.iload_n 1, 1) := by decide +kernel
theorem dX4_enough_57 : decode cX4_enough 57 = .ok (.iload_n 2, 1) := by decide +kernel
theorem dX4_enough_58 : decode cX4_enough 58 = .ok (.invokevirtual 137, 3) := by decide +kernel
theorem dX4_enough_61 : decode cX4_enough 61 = .ok (.iload_n 3, 1) := by decide +kernel
theorem dX4_enough_62 : decode cX4_enough 62 = .ok (.if_icmp .lt 6, 3) := by decide +kernel
theorem dX4_enough_65 : decode cX4_enough 65 = .ok (.iload 4, 2) := by decide +kernel
theorem dX4_enough_67 : decode cX4_enough 67 = .ok (.ireturn, 1) := by decide +kernel
theorem dX4_enough_68 : decode cX4_enough 68 = .ok (.aload_n 0, 1) := by decide +kernel
theorem dX4_enough_69 : decode cX4_enough 69 = .ok (.getfield 30, 3) := by decide +kernel
theorem dX4_enough_72 : decode cX4_enough 72 = .ok (.aload_n 0, 1) := by decide +kernel
theorem dX4_enough_73 : decode cX4_enough 73 = .ok (.getfield 16, 3) := by decide +kernel
theorem dX4_enough_76 : decode cX4_enough 76 = .ok (.iconst 1, 1) := by decide +kernel
theorem dX4_enough_77 : decode cX4_enough 77 = .ok (.bipush 63, 2) := by decide +kernel
theorem dX4_enough_79 : decode cX4_enough 79 = .ok (.invokevirtual 144, 3) := by decide +kernel
theorem dX4_enough_82 : decode cX4_enough 82 = .ok (.iinc 4 1, 3) := by decide +kernel
theorem dX4_enough_85 : decode cX4_enough 85 = .ok (.goto (-40), 3) := by decide +kernel
theorem dX4_enough_88 : decode cX4_enough 88 = .ok (.bipush (-9), 2) := by decide +kernel
theorem dX4_enough_90 : decode cX4_enough 90 = .ok (.ireturn, 1) := by decide +kernel
theorem dX4_best_0 : decode cX4_best 0 = .ok (.aload_n 0, 1) := by decide +kernel
theorem dX4_best_1 : decode cX4_best 1 = .ok (.iload_n 1, 1) := by decide +kernel
theorem dX4_best_2 : decode cX4_best 2 = .ok (.invokevirtual 115, 3) := by decide +kernel
theorem dX4_best_5 : decode cX4_best 5 = .ok (.ifCond .ne 5, 3) := by decide +kernel
theorem dX4_best_8 : decode cX4_best 8 = .ok (.iconst (-1), 1) := by decide +kernel
theorem dX4_best_9 : decode cX4_best 9 = .ok (.ireturn, 1) := by decide +kernel
theorem dX4_best_10 : decode cX4_best 10 = .ok (.iload_n 2, 1) := by decide +kernel
theorem dX4_best_11 : decode cX4_best 11 = .ok (.iconst 1, 1) := by decide +kernel
theorem dX4_best_12 : decode cX4_best 12 = .ok (.if_icmp .lt 18, 3) := by decide +kernel
theorem dX4_best_15 : decode cX4_best 15 = .ok (.iload_n 2, 1) := by decide +kernel
theorem dX4_best_16 : decode cX4_best 16 = .ok (.bipush 12, 2) := by decide +kernel
theorem dX4_best_18 : decode cX4_best 18 = .ok (.if_icmp .gt 12, 3) := by decide +kernel
theorem dX4_best_21 : decode cX4_best 21 = .ok (.iload_n 3, 1) := by decide +kernel
theorem dX4_best_22 : decode cX4_best 22 = .ok (.ifCond .lt 8, 3) := by decide +kernel
theorem dX4_best_25 : decode cX4_best 25 = .ok (.iload_n 3, 1) := by decide +kernel
theorem dX4_best_26 : decode cX4_best 26 = .ok (.iconst 1, 1) := by decide +kernel
theorem dX4_best_27 : decode cX4_best 27 = .ok (.if_icmp .le 6, 3) := by decide +kernel
theorem dX4_best_30 : decode cX4_best 30 = .ok (.bipush (-2), 2) := by decide +kernel
theorem dX4_best_32 : decode cX4_best 32 = .ok (.ireturn, 1) := by decide +kernel
theorem dX4_best_33 : decode cX4_best 33 = .ok (.iconst 0, 1) := by decide +kernel
theorem dX4_best_34 : decode cX4_best 34 = .ok (.istore 4, 2) := by decide +kernel
theorem dX4_best_36 : decode cX4_best 36 = .ok (.iconst (-1), 1) := by decide +kernel
theorem dX4_best_37 : decode cX4_best 37 = .ok (.istore 5, 2) := by decide +kernel
theorem dX4_best_39 : decode cX4_best 39 = .ok (.iconst 0, 1) := by decide +kernel
theorem dX4_best_40 : decode cX4_best 40 = .ok (.istore 6, 2) := by decide +kernel
theorem dX4_best_42 : decode cX4_best 42 = .ok (.iload 6, 2) := by decide +kernel
theorem dX4_best_44 : decode cX4_best 44 = .ok (.bipush 12, 2) := by decide +kernel
theorem dX4_best_46 : decode cX4_best 46 = .ok (.if_icmp .ge 70, 3) := by decide +kernel
theorem dX4_best_49 : decode cX4_best 49 = .ok (.aload_n 0, 1) := by decide +kernel
theorem dX4_best_50 : decode cX4_best 50 = .ok (.getfield 30, 3) := by decide +kernel
theorem dX4_best_53 : decode cX4_best 53 = .ok (.aload_n 0, 1) := by decide +kernel
theorem dX4_best_54 : decode cX4_best 54 = .ok (.getfield 26, 3) := by decide +kernel
theorem dX4_best_57 : decode cX4_best 57 = .ok (.invokevirtual 170, 3) := by decide +kernel
theorem dX4_best_60 : decode cX4_best 60 = .ok (.aload_n 0, 1) := by decide +kernel
theorem dX4_best_61 : decode cX4_best 61 = .ok (.getfield 30, 3) := by decide +kernel
theorem dX4_best_64 : decode cX4_best 64 = .ok (.getfield 118, 3) := by decide +kernel
theorem dX4_best_67 : decode cX4_best 67 = .ok (.iload_n 1, 1) := by decide +kernel
theorem dX4_best_68 : decode cX4_best 68 = .ok (.iload 6, 2) := by decide +kernel
theorem dX4_best_70 : decode cX4_best 70 = .ok (.invokestatic 67, 3) := by decide +kernel
theorem dX4_best_73 : decode cX4_best 73 = .ok (.aload_n 0, 1) := by decide +kernel
theorem dX4_best_74 : decode cX4_best 74 = .ok (.getfield 30, 3) := by decide +kernel
theorem dX4_best_77 : decode cX4_best 77 = .ok (.aload_n 0, 1) := by decide +kernel
theorem dX4_best_78 : decode cX4_best 78 = .ok (.getfield 16, 3) := by decide +kernel
theorem dX4_best_81 : decode cX4_best 81 = .ok (.iload_n 2, 1) := by decide +kernel
theorem dX4_best_82 : decode cX4_best 82 = .ok (.invokevirtual 173, 3) := by decide +kernel
theorem dX4_best_85 : decode cX4_best 85 = .ok (.aload_n 0, 1) := by decide +kernel
theorem dX4_best_86 : decode cX4_best 86 = .ok (.getfield 30, 3) := by decide +kernel
theorem dX4_best_89 : decode cX4_best 89 = .ok (.iload_n 1, 1) := by decide +kernel
theorem dX4_best_90 : decode cX4_best 90 = .ok (.invokevirtual 127, 3) := by decide +kernel
theorem dX4_best_93 : decode cX4_best 93 = .ok (.istore 7, 2) := by decide +kernel
theorem dX4_best_95 : decode cX4_best 95 = .ok (.iload 7, 2) := by decide +kernel
theorem dX4_best_97 : decode cX4_best 97 = .ok (.iload 5, 2) := by decide +kernel
theorem dX4_best_99 : decode cX4_best 99 = .ok (.if_icmp .le 11, 3) := by decide +kernel
theorem dX4_best_102 : decode cX4_best 102 = .ok (.iload 6, 2) := by decide +kernel
theorem dX4_best_104 : decode cX4_best 104 = .ok (.istore 4, 2) := by decide +kernel
theorem dX4_best_106 : decode cX4_best 106 = .ok (.iload 7, 2) := by decide +kernel
theorem dX4_best_108 : decode cX4_best 108 = .ok (.istore 5, 2) := by decide +kernel
theorem dX4_best_110 : decode cX4_best 110 = .ok (.iinc 6 1, 3) := by decide +kernel
theorem dX4_best_113 : decode cX4_best 113 = .ok (.goto (-71), 3) := by decide +kernel
theorem dX4_best_116 : decode cX4_best 116 = .ok (.iload_n 3, 1) := by decide +kernel
theorem dX4_best_117 : decode cX4_best 117 = .ok (.ifCond .ne 8, 3) := by decide +kernel
theorem dX4_best_120 : decode cX4_best 120 = .ok (.iload 4, 2) := by decide +kernel
theorem dX4_best_122 : decode cX4_best 122 = .ok (.goto 5, 3) := by decide +kernel
theorem dX4_best_125 : decode cX4_best 125 = .ok (.iload 5, 2) := by decide +kernel
theorem dX4_best_127 : decode cX4_best 127 = .ok (.ireturn, 1) := by decide +kernel
theorem dX4_fit_0 : decode cX4_fit 0 = .ok (.aload_n 0, 1) := by decide +kernel
theorem dX4_fit_1 : decode cX4_fit 1 = .ok (.getfield 16, 3) := by decide +kernel
theorem dX4_fit_4 : decode cX4_fit 4 = .ok (.getfield 88, 3) := by decide +kernel
theorem dX4_fit_7 : decode cX4_fit 7 = .ok (.aload_n 0, 1) := by decide +kernel
theorem dX4_fit_8 : decode cX4_fit 8 = .ok (.getfield 16, 3) := by decide +kernel
theorem dX4_fit_11 : decode cX4_fit 11 = .ok (.getfield 91, 3) := by decide +kernel
theorem dX4_fit_14 : decode cX4_fit 14 = .ok (.if_icmp .ge 6, 3) := by decide +kernel
theorem dX4_fit_17 : decode cX4_fit 17 = .ok (.bipush (-9), 2) := by decide +kernel
theorem dX4_fit_19 : decode cX4_fit 19 = .ok (.ireturn, 1) := by decide +kernel
theorem dX4_fit_20 : decode cX4_fit 20 = .ok (.aload_n 0, 1) := by decide +kernel
theorem dX4_fit_21 : decode cX4_fit 21 = .ok (.getfield 33, 3) := by decide +kernel
theorem dX4_fit_24 : decode cX4_fit 24 = .ok (.aload_n 0, 1) := by decide +kernel
theorem dX4_fit_25 : decode cX4_fit 25 = .ok (.getfield 26, 3) := by decide +kernel
theorem dX4_fit_28 : decode cX4_fit 28 = .ok (.invokevirtual 170, 3) := by decide +kernel
theorem dX4_fit_31 : decode cX4_fit 31 = .ok (.iconst 0, 1) := by decide +kernel
theorem dX4_fit_32 : decode cX4_fit 32 = .ok (.iconst 0, 1) := by decide +kernel
theorem dX4_fit_33 : decode cX4_fit 33 = .ok (.aload_n 0, 1) := by decide +kernel
theorem dX4_fit_34 : decode cX4_fit 34 = .ok (.getfield 16, 3) := by decide +kernel
theorem dX4_fit_37 : decode cX4_fit 37 = .ok (.aload_n 0, 1) := by decide +kernel
theorem dX4_fit_38 : decode cX4_fit 38 = .ok (.getfield 33, 3) := by decide +kernel
theorem dX4_fit_41 : decode cX4_fit 41 = .ok (.aload_n 0, 1) := by decide +kernel
theorem dX4_fit_42 : decode cX4_fit 42 = .ok (.getfield 30, 3) := by decide +kernel
theorem dX4_fit_45 : decode cX4_fit 45 = .ok (.invokestatic 177, 3) := by decide +kernel
theorem dX4_fit_48 : decode cX4_fit 48 = .ok (.ireturn, 1) := by decide +kernel
theorem dX4_judge_0 : decode cX4_judge 0 = .ok (.iload_n 1, 1) := by decide +kernel
theorem dX4_judge_1 : decode cX4_judge 1 = .ok (.iconst 1, 1) := by decide +kernel
theorem dX4_judge_2 : decode cX4_judge 2 = .ok (.if_icmp .lt 8, 3) := by decide +kernel
theorem dX4_judge_5 : decode cX4_judge 5 = .ok (.iload_n 1, 1) := by decide +kernel
theorem dX4_judge_6 : decode cX4_judge 6 = .ok (.iconst 4, 1) := by decide +kernel
theorem dX4_judge_7 : decode cX4_judge 7 = .ok (.if_icmp .le 6, 3) := by decide +kernel
theorem dX4_judge_10 : decode cX4_judge 10 = .ok (.bipush (-2), 2) := by decide +kernel
theorem dX4_judge_12 : decode cX4_judge 12 = .ok (.ireturn, 1) := by decide +kernel
theorem dX4_judge_13 : decode cX4_judge 13 = .ok (.sipush 10000, 3) := by decide +kernel
theorem dX4_judge_16 : decode cX4_judge 16 = .ok (.iload_n 1, 1) := by decide +kernel
theorem dX4_judge_17 : decode cX4_judge 17 = .ok (.invokestatic 181, 3) := by decide +kernel
theorem dX4_judge_20 : decode cX4_judge 20 = .ok (.lstore 4, 2) := by decide +kernel
theorem dX4_judge_22 : decode cX4_judge 22 = .ok (.lload_n 2, 1) := by decide +kernel
theorem dX4_judge_23 : decode cX4_judge 23 = .ok (.lconst 0, 1) := by decide +kernel
theorem dX4_judge_24 : decode cX4_judge 24 = .ok (.lcmp, 1) := by decide +kernel
theorem dX4_judge_25 : decode cX4_judge 25 = .ok (.ifCond .lt 10, 3) := by decide +kernel
theorem dX4_judge_28 : decode cX4_judge 28 = .ok (.lload_n 2, 1) := by decide +kernel
theorem dX4_judge_29 : decode cX4_judge 29 = .ok (.lload 4, 2) := by decide +kernel
theorem dX4_judge_31 : decode cX4_judge 31 = .ok (.lcmp, 1) := by decide +kernel
theorem dX4_judge_32 : decode cX4_judge 32 = .ok (.ifCond .lt 6, 3) := by decide +kernel
theorem dX4_judge_35 : decode cX4_judge 35 = .ok (.bipush (-2), 2) := by decide +kernel
theorem dX4_judge_37 : decode cX4_judge 37 = .ok (.ireturn, 1) := by decide +kernel
theorem dX4_judge_38 : decode cX4_judge 38 = .ok (.aload_n 0, 1) := by decide +kernel
theorem dX4_judge_39 : decode cX4_judge 39 = .ok (.getfield 30, 3) := by decide +kernel
theorem dX4_judge_42 : decode cX4_judge 42 = .ok (.aload_n 0, 1) := by decide +kernel
theorem dX4_judge_43 : decode cX4_judge 43 = .ok (.getfield 26, 3) := by decide +kernel
theorem dX4_judge_46 : decode cX4_judge 46 = .ok (.invokevirtual 170, 3) := by decide +kernel
theorem dX4_judge_49 : decode cX4_judge 49 = .ok (.iconst 0, 1) := by decide +kernel
theorem dX4_judge_50 : decode cX4_judge 50 = .ok (.istore 6, 2) := by decide +kernel
theorem dX4_judge_52 : decode cX4_judge 52 = .ok (.iload 6, 2) := by decide +kernel
theorem dX4_judge_54 : decode cX4_judge 54 = .ok (.iload_n 1, 1) := by decide +kernel
theorem dX4_judge_55 : decode cX4_judge 55 = .ok (.if_icmp .ge 57, 3) := by decide +kernel
theorem dX4_judge_58 : decode cX4_judge 58 = .ok (.sipush 10000, 3) := by decide +kernel
theorem dX4_judge_61 : decode cX4_judge 61 = .ok (.iload_n 1, 1) := by decide +kernel
theorem dX4_judge_62 : decode cX4_judge 62 = .ok (.iconst 1, 1) := by decide +kernel
theorem dX4_judge_63 : decode cX4_judge 63 = .ok (.isub, 1) := by decide +kernel
theorem dX4_judge_64 : decode cX4_judge 64 = .ok (.iload 6, 2) := by decide +kernel
theorem dX4_judge_66 : decode cX4_judge 66 = .ok (.isub, 1) := by decide +kernel
theorem dX4_judge_67 : decode cX4_judge 67 = .ok (.invokestatic 181, 3) := by decide +kernel
theorem dX4_judge_70 : decode cX4_judge 70 = .ok (.lstore 4, 2) := by decide +kernel
theorem dX4_judge_72 : decode cX4_judge 72 = .ok (.lload 4, 2) := by decide +kernel
theorem dX4_judge_74 : decode cX4_judge 74 = .ok (.lconst 0, 1) := by decide +kernel
theorem dX4_judge_75 : decode cX4_judge 75 = .ok (.lcmp, 1) := by decide +kernel
theorem dX4_judge_76 : decode cX4_judge 76 = .ok (.ifCond .le 15, 3) := by decide +kernel
theorem dX4_judge_79 : decode cX4_judge 79 = .ok (.lload_n 2, 1) := by decide +kernel
theorem dX4_judge_80 : decode cX4_judge 80 = .ok (.lload 4, 2) := by decide +kernel
theorem dX4_judge_82 : decode cX4_judge 82 = .ok (.ldiv, 1) := by decide +kernel
theorem dX4_judge_83 : decode cX4_judge 83 = .ok (.ldc2_w 185, 3) := by decide +kernel
theorem dX4_judge_86 : decode cX4_judge 86 = .ok (.lrem, 1) := by decide +kernel
theorem dX4_judge_87 : decode cX4_judge 87 = .ok (.l2i, 1) := by decide +kernel
theorem dX4_judge_88 : decode cX4_judge 88 = .ok (.goto 4, 3) := by decide +kernel
theorem dX4_judge_91 : decode cX4_judge 91 = .ok (.iconst 0, 1) := by decide +kernel
theorem dX4_judge_92 : decode cX4_judge 92 = .ok (.istore 7, 2) := by decide +kernel
theorem dX4_judge_94 : decode cX4_judge 94 = .ok (.aload_n 0, 1) := by decide +kernel
theorem dX4_judge_95 : decode cX4_judge 95 = .ok (.iload 7, 2) := by decide +kernel
theorem dX4_judge_97 : decode cX4_judge 97 = .ok (.invokevirtual 187, 3) := by decide +kernel
theorem dX4_judge_100 : decode cX4_judge 100 = .ok (.ifCond .ne 6, 3) := by decide +kernel
theorem dX4_judge_103 : decode cX4_judge 103 = .ok (.iload 6, 2) := by decide +kernel
theorem dX4_judge_105 : decode cX4_judge 105 = .ok (.ireturn, 1) := by decide +kernel
theorem dX4_judge_106 : decode cX4_judge 106 = .ok (.iinc 6 1, 3) := by decide +kernel
theorem dX4_judge_109 : decode cX4_judge 109 = .ok (.goto (-57), 3) := by decide +kernel
theorem dX4_judge_112 : decode cX4_judge 112 = .ok (.bipush (-9), 2) := by decide +kernel
theorem dX4_judge_114 : decode cX4_judge 114 = .ok (.ireturn, 1) := by decide +kernel
theorem dX4_knew_0 : decode cX4_knew 0 = .ok (.iload_n 1, 1) := by decide +kernel
theorem dX4_knew_1 : decode cX4_knew 1 = .ok (.invokestatic 134, 3) := by decide +kernel
theorem dX4_knew_4 : decode cX4_knew 4 = .ok (.ifCond .ne 5, 3) := by decide +kernel
theorem dX4_knew_7 : decode cX4_knew 7 = .ok (.iconst (-1), 1) := by decide +kernel
theorem dX4_knew_8 : decode cX4_knew 8 = .ok (.ireturn, 1) := by decide +kernel
theorem dX4_knew_9 : decode cX4_knew 9 = .ok (.iload_n 2, 1) := by decide +kernel
theorem dX4_knew_10 : decode cX4_knew 10 = .ok (.ifCond .lt 19, 3) := by decide +kernel
theorem dX4_knew_13 : decode cX4_knew 13 = .ok (.iload_n 2, 1) := by decide +kernel
theorem dX4_knew_14 : decode cX4_knew 14 = .ok (.bipush 9, 2) := by decide +kernel
theorem dX4_knew_16 : decode cX4_knew 16 = .ok (.if_icmp .gt 13, 3) := by decide +kernel
theorem dX4_knew_19 : decode cX4_knew 19 = .ok (.iload_n 3, 1) := by decide +kernel
theorem dX4_knew_20 : decode cX4_knew 20 = .ok (.ifCond .lt 9, 3) := by decide +kernel
theorem dX4_knew_23 : decode cX4_knew 23 = .ok (.iload_n 3, 1) := by decide +kernel
theorem dX4_knew_24 : decode cX4_knew 24 = .ok (.bipush 9, 2) := by decide +kernel
theorem dX4_knew_26 : decode cX4_knew 26 = .ok (.if_icmp .le 6, 3) := by decide +kernel
theorem dX4_knew_29 : decode cX4_knew 29 = .ok (.bipush (-2), 2) := by decide +kernel
theorem dX4_knew_31 : decode cX4_knew 31 = .ok (.ireturn, 1) := by decide +kernel
theorem dX4_knew_32 : decode cX4_knew 32 = .ok (.aload_n 0, 1) := by decide +kernel
theorem dX4_knew_33 : decode cX4_knew 33 = .ok (.getfield 50, 3) := by decide +kernel
theorem dX4_knew_36 : decode cX4_knew 36 = .ok (.getfield 190, 3) := by decide +kernel
theorem dX4_knew_39 : decode cX4_knew 39 = .ok (.bipush 6, 2) := by decide +kernel
theorem dX4_knew_41 : decode cX4_knew 41 = .ok (.if_icmp .lt 6, 3) := by decide +kernel
theorem dX4_knew_44 : decode cX4_knew 44 = .ok (.bipush (-4), 2) := by decide +kernel
theorem dX4_knew_46 : decode cX4_knew 46 = .ok (.ireturn, 1) := by decide +kernel
theorem dX4_knew_47 : decode cX4_knew 47 = .ok (.aload_n 0, 1) := by decide +kernel
theorem dX4_knew_48 : decode cX4_knew 48 = .ok (.getfield 50, 3) := by decide +kernel
theorem dX4_knew_51 : decode cX4_knew 51 = .ok (.iload_n 1, 1) := by decide +kernel
theorem dX4_knew_52 : decode cX4_knew 52 = .ok (.iload_n 2, 1) := by decide +kernel
theorem dX4_knew_53 : decode cX4_knew 53 = .ok (.iload_n 3, 1) := by decide +kernel
theorem dX4_knew_54 : decode cX4_knew 54 = .ok (.invokevirtual 191, 3) := by decide +kernel
theorem dX4_knew_57 : decode cX4_knew 57 = .ok (.aload_n 0, 1) := by decide +kernel
theorem dX4_knew_58 : decode cX4_knew 58 = .ok (.getfield 50, 3) := by decide +kernel
theorem dX4_knew_61 : decode cX4_knew 61 = .ok (.getfield 190, 3) := by decide +kernel
theorem dX4_knew_64 : decode cX4_knew 64 = .ok (.ireturn, 1) := by decide +kernel
theorem dX4_forget_0 : decode cX4_forget 0 = .ok (.aload_n 0, 1) := by decide +kernel
theorem dX4_forget_1 : decode cX4_forget 1 = .ok (.getfield 50, 3) := by decide +kernel
theorem dX4_forget_4 : decode cX4_forget 4 = .ok (.getfield 190, 3) := by decide +kernel
theorem dX4_forget_7 : decode cX4_forget 7 = .ok (.istore_n 1, 1) := by decide +kernel
theorem dX4_forget_8 : decode cX4_forget 8 = .ok (.aload_n 0, 1) := by decide +kernel
theorem dX4_forget_9 : decode cX4_forget 9 = .ok (.getfield 50, 3) := by decide +kernel
theorem dX4_forget_12 : decode cX4_forget 12 = .ok (.iconst 0, 1) := by decide +kernel
theorem dX4_forget_13 : decode cX4_forget 13 = .ok (.putfield 190, 3) := by decide +kernel
theorem dX4_forget_16 : decode cX4_forget 16 = .ok (.iload_n 1, 1) := by decide +kernel
theorem dX4_forget_17 : decode cX4_forget 17 = .ok (.ireturn, 1) := by decide +kernel
theorem dX4_began_0 : decode cX4_began 0 = .ok (.iconst 0, 1) := by decide +kernel
theorem dX4_began_1 : decode cX4_began 1 = .ok (.istore_n 1, 1) := by decide +kernel
theorem dX4_began_2 : decode cX4_began 2 = .ok (.iconst 0, 1) := by decide +kernel
theorem dX4_began_3 : decode cX4_began 3 = .ok (.istore_n 2, 1) := by decide +kernel
theorem dX4_began_4 : decode cX4_began 4 = .ok (.iload_n 2, 1) := by decide +kernel
theorem dX4_began_5 : decode cX4_began 5 = .ok (.bipush 12, 2) := by decide +kernel
theorem dX4_began_7 : decode cX4_began 7 = .ok (.if_icmp .ge 23, 3) := by decide +kernel
theorem dX4_began_10 : decode cX4_began 10 = .ok (.aload_n 0, 1) := by decide +kernel
theorem dX4_began_11 : decode cX4_began 11 = .ok (.iload_n 2, 1) := by decide +kernel
theorem dX4_began_12 : decode cX4_began 12 = .ok (.invokevirtual 195, 3) := by decide +kernel
theorem dX4_began_15 : decode cX4_began 15 = .ok (.ifCond .eq 9, 3) := by decide +kernel
theorem dX4_began_18 : decode cX4_began 18 = .ok (.iload_n 1, 1) := by decide +kernel
theorem dX4_began_19 : decode cX4_began 19 = .ok (.iconst 1, 1) := by decide +kernel
theorem dX4_began_20 : decode cX4_began 20 = .ok (.iload_n 2, 1) := by decide +kernel
theorem dX4_began_21 : decode cX4_began 21 = .ok (.ishl, 1) := by decide +kernel
theorem dX4_began_22 : decode cX4_began 22 = .ok (.ior, 1) := by decide +kernel
theorem dX4_began_23 : decode cX4_began 23 = .ok (.istore_n 1, 1) := by decide +kernel
theorem dX4_began_24 : decode cX4_began 24 = .ok (.iinc 2 1, 3) := by decide +kernel
theorem dX4_began_27 : decode cX4_began 27 = .ok (.goto (-23), 3) := by decide +kernel
theorem dX4_began_30 : decode cX4_began 30 = .ok (.iload_n 1, 1) := by decide +kernel
theorem dX4_began_31 : decode cX4_began 31 = .ok (.ireturn, 1) := by decide +kernel
theorem dX4_share_0 : decode cX4_share 0 = .ok (.aload_n 0, 1) := by decide +kernel
theorem dX4_share_1 : decode cX4_share 1 = .ok (.iload_n 1, 1) := by decide +kernel
theorem dX4_share_2 : decode cX4_share 2 = .ok (.invokevirtual 94, 3) := by decide +kernel
theorem dX4_share_5 : decode cX4_share 5 = .ok (.ifCond .eq 11, 3) := by decide +kernel
theorem dX4_share_8 : decode cX4_share 8 = .ok (.aload_n 0, 1) := by decide +kernel
theorem dX4_share_9 : decode cX4_share 9 = .ok (.iload_n 2, 1) := by decide +kernel
theorem dX4_share_10 : decode cX4_share 10 = .ok (.invokevirtual 115, 3) := by decide +kernel
theorem dX4_share_13 : decode cX4_share 13 = .ok (.ifCond .ne 5, 3) := by decide +kernel
theorem dX4_share_16 : decode cX4_share 16 = .ok (.iconst (-1), 1) := by decide +kernel
theorem dX4_share_17 : decode cX4_share 17 = .ok (.ireturn, 1) := by decide +kernel
theorem dX4_share_18 : decode cX4_share 18 = .ok (.iconst 1, 1) := by decide +kernel
theorem dX4_share_19 : decode cX4_share 19 = .ok (.aload_n 0, 1) := by decide +kernel
theorem dX4_share_20 : decode cX4_share 20 = .ok (.getfield 16, 3) := by decide +kernel
theorem dX4_share_23 : decode cX4_share 23 = .ok (.getfield 88, 3) := by decide +kernel
theorem dX4_share_26 : decode cX4_share 26 = .ok (.ishl, 1) := by decide +kernel
theorem dX4_share_27 : decode cX4_share 27 = .ok (.istore 4, 2) := by decide +kernel
theorem dX4_share_29 : decode cX4_share 29 = .ok (.iconst 0, 1) := by decide +kernel
theorem dX4_share_30 : decode cX4_share 30 = .ok (.istore 5, 2) := by decide +kernel
theorem dX4_share_32 : decode cX4_share 32 = .ok (.iload 5, 2) := by decide +kernel
theorem dX4_share_34 : decode cX4_share 34 = .ok (.iload 4, 2) := by decide +kernel
theorem dX4_share_36 : decode cX4_share 36 = .ok (.if_icmp .ge 25, 3) := by decide +kernel
theorem dX4_share_39 : decode cX4_share 39 = .ok (.aload_n 0, 1) := by decide +kernel
theorem dX4_share_40 : decode cX4_share 40 = .ok (.getfield 54, 3) := by decide +kernel
theorem dX4_share_43 : decode cX4_share 43 = .ok (.iload 5, 2) := by decide +kernel
theorem dX4_share_45 : decode cX4_share 45 = .ok (.aload_n 0, 1) := by decide +kernel
theorem dX4_share_46 : decode cX4_share 46 = .ok (.iload_n 2, 1) := by decide +kernel
theorem dX4_share_47 : decode cX4_share 47 = .ok (.iload 5, 2) := by decide +kernel
theorem dX4_share_49 : decode cX4_share 49 = .ok (.invokevirtual 198, 3) := by decide +kernel
theorem dX4_share_52 : decode cX4_share 52 = .ok (.invokestatic 67, 3) := by decide +kernel
theorem dX4_share_55 : decode cX4_share 55 = .ok (.iinc 5 1, 3) := by decide +kernel
theorem dX4_share_58 : decode cX4_share 58 = .ok (.goto (-26), 3) := by decide +kernel
theorem dX4_share_61 : decode cX4_share 61 = .ok (.iconst 0, 1) := by decide +kernel
theorem dX4_share_62 : decode cX4_share 62 = .ok (.istore 5, 2) := by decide +kernel
theorem dX4_share_64 : decode cX4_share 64 = .ok (.iconst 0, 1) := by decide +kernel
theorem dX4_share_65 : decode cX4_share 65 = .ok (.istore 6, 2) := by decide +kernel
theorem dX4_share_67 : decode cX4_share 67 = .ok (.iload 6, 2) := by decide +kernel
theorem dX4_share_69 : decode cX4_share 69 = .ok (.iload 4, 2) := by decide +kernel
theorem dX4_share_71 : decode cX4_share 71 = .ok (.if_icmp .ge 79, 3) := by decide +kernel
theorem dX4_share_74 : decode cX4_share 74 = .ok (.iload 6, 2) := by decide +kernel
theorem dX4_share_76 : decode cX4_share 76 = .ok (.iload_n 1, 1) := by decide +kernel
theorem dX4_share_77 : decode cX4_share 77 = .ok (.ishr, 1) := by decide +kernel
theorem dX4_share_78 : decode cX4_share 78 = .ok (.iconst 1, 1) := by decide +kernel
theorem dX4_share_79 : decode cX4_share 79 = .ok (.iand, 1) := by decide +kernel
theorem dX4_share_80 : decode cX4_share 80 = .ok (.ifCond .ne 64, 3) := by decide +kernel
theorem dX4_share_83 : decode cX4_share 83 = .ok (.aload_n 0, 1) := by decide +kernel
theorem dX4_share_84 : decode cX4_share 84 = .ok (.getfield 54, 3) := by decide +kernel
theorem dX4_share_87 : decode cX4_share 87 = .ok (.iload 6, 2) := by decide +kernel
theorem dX4_share_89 : decode cX4_share 89 = .ok (.iconst 1, 1) := by decide +kernel
theorem dX4_share_90 : decode cX4_share 90 = .ok (.iload_n 1, 1) := by decide +kernel
theorem dX4_share_91 : decode cX4_share 91 = .ok (.ishl, 1) := by decide +kernel
theorem dX4_share_92 : decode cX4_share 92 = .ok (.ior, 1) := by decide +kernel
theorem dX4_share_93 : decode cX4_share 93 = .ok (.invokestatic 101, 3) := by decide +kernel
theorem dX4_share_96 : decode cX4_share 96 = .ok (.aload_n 0, 1) := by decide +kernel
theorem dX4_share_97 : decode cX4_share 97 = .ok (.getfield 54, 3) := by decide +kernel
theorem dX4_share_100 : decode cX4_share 100 = .ok (.iload 6, 2) := by decide +kernel
theorem dX4_share_102 : decode cX4_share 102 = .ok (.invokestatic 101, 3) := by decide +kernel
theorem dX4_share_105 : decode cX4_share 105 = .ok (.isub, 1) := by decide +kernel
theorem dX4_share_106 : decode cX4_share 106 = .ok (.istore 7, 2) := by decide +kernel
theorem dX4_share_108 : decode cX4_share 108 = .ok (.iload 6, 2) := by decide +kernel
theorem dX4_share_110 : decode cX4_share 110 = .ok (.invokestatic 201, 3) := by decide +kernel
theorem dX4_share_113 : decode cX4_share 113 = .ok (.istore 8, 2) := by decide +kernel
theorem dX4_share_115 : decode cX4_share 115 = .ok (.iload 5, 2) := by decide +kernel
theorem dX4_share_117 : decode cX4_share 117 = .ok (.iload 7, 2) := by decide +kernel
theorem dX4_share_119 : decode cX4_share 119 = .ok (.iload 8, 2) := by decide +kernel
theorem dX4_share_121 : decode cX4_share 121 = .ok (.invokestatic 206, 3) := by decide +kernel
theorem dX4_share_124 : decode cX4_share 124 = .ok (.imul, 1) := by decide +kernel
theorem dX4_share_125 : decode cX4_share 125 = .ok (.aload_n 0, 1) := by decide +kernel
theorem dX4_share_126 : decode cX4_share 126 = .ok (.getfield 16, 3) := by decide +kernel
theorem dX4_share_129 : decode cX4_share 129 = .ok (.getfield 88, 3) := by decide +kernel
theorem dX4_share_132 : decode cX4_share 132 = .ok (.iconst 1, 1) := by decide +kernel
theorem dX4_share_133 : decode cX4_share 133 = .ok (.isub, 1) := by decide +kernel
theorem dX4_share_134 : decode cX4_share 134 = .ok (.iload 8, 2) := by decide +kernel
theorem dX4_share_136 : decode cX4_share 136 = .ok (.isub, 1) := by decide +kernel
theorem dX4_share_137 : decode cX4_share 137 = .ok (.invokestatic 206, 3) := by decide +kernel
theorem dX4_share_140 : decode cX4_share 140 = .ok (.imul, 1) := by decide +kernel
theorem dX4_share_141 : decode cX4_share 141 = .ok (.iadd, 1) := by decide +kernel
theorem dX4_share_142 : decode cX4_share 142 = .ok (.istore 5, 2) := by decide +kernel
theorem dX4_share_144 : decode cX4_share 144 = .ok (.iinc 6 1, 3) := by decide +kernel
theorem dX4_share_147 : decode cX4_share 147 = .ok (.goto (-80), 3) := by decide +kernel
theorem dX4_share_150 : decode cX4_share 150 = .ok (.iload 5, 2) := by decide +kernel
theorem dX4_share_152 : decode cX4_share 152 = .ok (.aload_n 0, 1) := by decide +kernel
theorem dX4_share_153 : decode cX4_share 153 = .ok (.getfield 16, 3) := by decide +kernel
theorem dX4_share_156 : decode cX4_share 156 = .ok (.getfield 88, 3) := by decide +kernel
theorem dX4_share_159 : decode cX4_share 159 = .ok (.invokestatic 206, 3) := by decide +kernel
theorem dX4_share_162 : decode cX4_share 162 = .ok (.iload_n 3, 1) := by decide +kernel
theorem dX4_share_163 : decode cX4_share 163 = .ok (.invokestatic 209, 3) := by decide +kernel
theorem dX4_share_166 : decode cX4_share 166 = .ok (.ireturn, 1) := by decide +kernel
theorem dX4_rests_0 : decode cX4_rests 0 = .ok (.aload_n 0, 1) := by decide +kernel
theorem dX4_rests_1 : decode cX4_rests 1 = .ok (.iload_n 1, 1) := by decide +kernel
theorem dX4_rests_2 : decode cX4_rests 2 = .ok (.invokevirtual 115, 3) := by decide +kernel
theorem dX4_rests_5 : decode cX4_rests 5 = .ok (.ifCond .eq 11, 3) := by decide +kernel
theorem dX4_rests_8 : decode cX4_rests 8 = .ok (.aload_n 0, 1) := by decide +kernel
theorem dX4_rests_9 : decode cX4_rests 9 = .ok (.iload_n 2, 1) := by decide +kernel
theorem dX4_rests_10 : decode cX4_rests 10 = .ok (.invokevirtual 115, 3) := by decide +kernel
theorem dX4_rests_13 : decode cX4_rests 13 = .ok (.ifCond .ne 5, 3) := by decide +kernel
theorem dX4_rests_16 : decode cX4_rests 16 = .ok (.iconst (-1), 1) := by decide +kernel
theorem dX4_rests_17 : decode cX4_rests 17 = .ok (.ireturn, 1) := by decide +kernel
theorem dX4_rests_18 : decode cX4_rests 18 = .ok (.iload_n 1, 1) := by decide +kernel
theorem dX4_rests_19 : decode cX4_rests 19 = .ok (.iload_n 2, 1) := by decide +kernel
theorem dX4_rests_20 : decode cX4_rests 20 = .ok (.if_icmp .eq 12, 3) := by decide +kernel
theorem dX4_rests_23 : decode cX4_rests 23 = .ok (.iload_n 3, 1) := by decide +kernel
theorem dX4_rests_24 : decode cX4_rests 24 = .ok (.ifCond .lt 8, 3) := by decide +kernel
theorem dX4_rests_27 : decode cX4_rests 27 = .ok (.iload_n 3, 1) := by decide +kernel
theorem dX4_rests_28 : decode cX4_rests 28 = .ok (.iconst 1, 1) := by decide +kernel
theorem dX4_rests_29 : decode cX4_rests 29 = .ok (.if_icmp .le 6, 3) := by decide +kernel
theorem dX4_rests_32 : decode cX4_rests 32 = .ok (.bipush (-2), 2) := by decide +kernel
theorem dX4_rests_34 : decode cX4_rests 34 = .ok (.ireturn, 1) := by decide +kernel
theorem dX4_rests_35 : decode cX4_rests 35 = .ok (.aload_n 0, 1) := by decide +kernel
theorem dX4_rests_36 : decode cX4_rests 36 = .ok (.iload_n 1, 1) := by decide +kernel
theorem dX4_rests_37 : decode cX4_rests 37 = .ok (.iload_n 2, 1) := by decide +kernel
theorem dX4_rests_38 : decode cX4_rests 38 = .ok (.invokevirtual 213, 3) := by decide +kernel
theorem dX4_rests_41 : decode cX4_rests 41 = .ok (.iconst 0, 1) := by decide +kernel
theorem dX4_rests_42 : decode cX4_rests 42 = .ok (.istore 4, 2) := by decide +kernel
theorem dX4_rests_44 : decode cX4_rests 44 = .ok (.bipush (-9), 2) := by decide +kernel
theorem dX4_rests_46 : decode cX4_rests 46 = .ok (.istore 5, 2) := by decide +kernel
theorem dX4_rests_48 : decode cX4_rests 48 = .ok (.iconst 0, 1) := by decide +kernel
theorem dX4_rests_49 : decode cX4_rests 49 = .ok (.istore 6, 2) := by decide +kernel
theorem dX4_rests_51 : decode cX4_rests 51 = .ok (.iload 6, 2) := by decide +kernel
theorem dX4_rests_53 : decode cX4_rests 53 = .ok (.aload_n 0, 1) := by decide +kernel
theorem dX4_rests_54 : decode cX4_rests 54 = .ok (.getfield 16, 3) := by decide +kernel
theorem dX4_rests_57 : decode cX4_rests 57 = .ok (.getfield 88, 3) := by decide +kernel
theorem dX4_rests_60 : decode cX4_rests 60 = .ok (.if_icmp .ge 64, 3) := by decide +kernel
theorem dX4_rests_63 : decode cX4_rests 63 = .ok (.iconst 0, 1) := by decide +kernel
theorem dX4_rests_64 : decode cX4_rests 64 = .ok (.istore 7, 2) := by decide +kernel
theorem dX4_rests_66 : decode cX4_rests 66 = .ok (.iload 7, 2) := by decide +kernel
theorem dX4_rests_68 : decode cX4_rests 68 = .ok (.aload_n 0, 1) := by decide +kernel
theorem dX4_rests_69 : decode cX4_rests 69 = .ok (.getfield 16, 3) := by decide +kernel
theorem dX4_rests_72 : decode cX4_rests 72 = .ok (.getfield 88, 3) := by decide +kernel
theorem dX4_rests_75 : decode cX4_rests 75 = .ok (.if_icmp .ge 43, 3) := by decide +kernel
theorem dX4_rests_78 : decode cX4_rests 78 = .ok (.aload_n 0, 1) := by decide +kernel
theorem dX4_rests_79 : decode cX4_rests 79 = .ok (.iload 6, 2) := by decide +kernel
theorem dX4_rests_81 : decode cX4_rests 81 = .ok (.iload 7, 2) := by decide +kernel
theorem dX4_rests_83 : decode cX4_rests 83 = .ok (.invokevirtual 217, 3) := by decide +kernel
theorem dX4_rests_86 : decode cX4_rests 86 = .ok (.ifCond .eq 26, 3) := by decide +kernel
theorem dX4_rests_89 : decode cX4_rests 89 = .ok (.iload 4, 2) := by decide +kernel
theorem dX4_rests_91 : decode cX4_rests 91 = .ok (.ifCond .ne 14, 3) := by decide +kernel
theorem dX4_rests_94 : decode cX4_rests 94 = .ok (.bipush 10, 2) := by decide +kernel
theorem dX4_rests_96 : decode cX4_rests 96 = .ok (.iload 6, 2) := by decide +kernel
theorem dX4_rests_98 : decode cX4_rests 98 = .ok (.imul, 1) := by decide +kernel
theorem dX4_rests_99 : decode cX4_rests 99 = .ok (.iload 7, 2) := by decide +kernel
theorem dX4_rests_101 : decode cX4_rests 101 = .ok (.iadd, 1) := by decide +kernel
theorem dX4_rests_102 : decode cX4_rests 102 = .ok (.goto 5, 3) := by decide +kernel
theorem dX4_rests_105 : decode cX4_rests 105 = .ok (.iload 5, 2) := by decide +kernel
theorem dX4_rests_107 : decode cX4_rests 107 = .ok (.istore 5, 2) := by decide +kernel
theorem dX4_rests_109 : decode cX4_rests 109 = .ok (.iinc 4 1, 3) := by decide +kernel
theorem dX4_rests_112 : decode cX4_rests 112 = .ok (.iinc 7 1, 3) := by decide +kernel
theorem dX4_rests_115 : decode cX4_rests 115 = .ok (.goto (-49), 3) := by decide +kernel
theorem dX4_rests_118 : decode cX4_rests 118 = .ok (.iinc 6 1, 3) := by decide +kernel
theorem dX4_rests_121 : decode cX4_rests 121 = .ok (.goto (-70), 3) := by decide +kernel
theorem dX4_rests_124 : decode cX4_rests 124 = .ok (.iload_n 3, 1) := by decide +kernel
theorem dX4_rests_125 : decode cX4_rests 125 = .ok (.ifCond .ne 8, 3) := by decide +kernel
theorem dX4_rests_128 : decode cX4_rests 128 = .ok (.iload 4, 2) := by decide +kernel
theorem dX4_rests_130 : decode cX4_rests 130 = .ok (.goto 5, 3) := by decide +kernel
theorem dX4_rests_133 : decode cX4_rests 133 = .ok (.iload 5, 2) := by decide +kernel
theorem dX4_rests_135 : decode cX4_rests 135 = .ok (.ireturn, 1) := by decide +kernel
theorem dX4_fails_0 : decode cX4_fails 0 = .ok (.aload_n 0, 1) := by decide +kernel
theorem dX4_fails_1 : decode cX4_fails 1 = .ok (.iload_n 1, 1) := by decide +kernel
theorem dX4_fails_2 : decode cX4_fails 2 = .ok (.invokevirtual 115, 3) := by decide +kernel
theorem dX4_fails_5 : decode cX4_fails 5 = .ok (.ifCond .eq 10, 3) := by decide +kernel
theorem dX4_fails_8 : decode cX4_fails 8 = .ok (.iload_n 2, 1) := by decide +kernel
theorem dX4_fails_9 : decode cX4_fails 9 = .ok (.invokestatic 134, 3) := by decide +kernel
theorem dX4_fails_12 : decode cX4_fails 12 = .ok (.ifCond .ne 5, 3) := by decide +kernel
theorem dX4_fails_15 : decode cX4_fails 15 = .ok (.iconst (-1), 1) := by decide +kernel
theorem dX4_fails_16 : decode cX4_fails 16 = .ok (.ireturn, 1) := by decide +kernel
theorem dX4_fails_17 : decode cX4_fails 17 = .ok (.iload_n 3, 1) := by decide +kernel
theorem dX4_fails_18 : decode cX4_fails 18 = .ok (.ifCond .lt 34, 3) := by decide +kernel
theorem dX4_fails_21 : decode cX4_fails 21 = .ok (.iload_n 3, 1) := by decide +kernel
theorem dX4_fails_22 : decode cX4_fails 22 = .ok (.bipush 9, 2) := by decide +kernel
theorem dX4_fails_24 : decode cX4_fails 24 = .ok (.if_icmp .gt 28, 3) := by decide +kernel
theorem dX4_fails_27 : decode cX4_fails 27 = .ok (.iload 4, 2) := by decide +kernel
theorem dX4_fails_29 : decode cX4_fails 29 = .ok (.iconst 1, 1) := by decide +kernel
theorem dX4_fails_30 : decode cX4_fails 30 = .ok (.if_icmp .lt 22, 3) := by decide +kernel
theorem dX4_fails_33 : decode cX4_fails 33 = .ok (.iload 4, 2) := by decide +kernel
theorem dX4_fails_35 : decode cX4_fails 35 = .ok (.bipush 6, 2) := by decide +kernel
theorem dX4_fails_37 : decode cX4_fails 37 = .ok (.if_icmp .gt 15, 3) := by decide +kernel
theorem dX4_fails_40 : decode cX4_fails 40 = .ok (.iload 5, 2) := by decide +kernel
theorem dX4_fails_42 : decode cX4_fails 42 = .ok (.ifCond .lt 10, 3) := by decide +kernel
theorem dX4_fails_45 : decode cX4_fails 45 = .ok (.iload 5, 2) := by decide +kernel
theorem dX4_fails_47 : decode cX4_fails 47 = .ok (.bipush 10, 2) := by decide +kernel
theorem dX4_fails_49 : decode cX4_fails 49 = .ok (.if_icmp .le 6, 3) := by decide +kernel
theorem dX4_fails_52 : decode cX4_fails 52 = .ok (.bipush (-2), 2) := by decide +kernel
theorem dX4_fails_54 : decode cX4_fails 54 = .ok (.ireturn, 1) := by decide +kernel
theorem dX4_fails_55 : decode cX4_fails 55 = .ok (.iconst 0, 1) := by decide +kernel
theorem dX4_fails_56 : decode cX4_fails 56 = .ok (.istore 7, 2) := by decide +kernel
theorem dX4_fails_58 : decode cX4_fails 58 = .ok (.iconst 0, 1) := by decide +kernel
theorem dX4_fails_59 : decode cX4_fails 59 = .ok (.istore 8, 2) := by decide +kernel
theorem dX4_fails_61 : decode cX4_fails 61 = .ok (.iload 8, 2) := by decide +kernel
theorem dX4_fails_63 : decode cX4_fails 63 = .ok (.iconst 1, 1) := by decide +kernel
theorem dX4_fails_64 : decode cX4_fails 64 = .ok (.iload 4, 2) := by decide +kernel
theorem dX4_fails_66 : decode cX4_fails 66 = .ok (.ishl, 1) := by decide +kernel
theorem dX4_fails_67 : decode cX4_fails 67 = .ok (.if_icmp .ge 57, 3) := by decide +kernel
theorem dX4_fails_70 : decode cX4_fails 70 = .ok (.iload 8, 2) := by decide +kernel
theorem dX4_fails_72 : decode cX4_fails 72 = .ok (.iload 4, 2) := by decide +kernel
theorem dX4_fails_74 : decode cX4_fails 74 = .ok (.iload 5, 2) := by decide +kernel
theorem dX4_fails_76 : decode cX4_fails 76 = .ok (.invokestatic 221, 3) := by decide +kernel
theorem dX4_fails_79 : decode cX4_fails 79 = .ok (.istore 9, 2) := by decide +kernel
theorem dX4_fails_81 : decode cX4_fails 81 = .ok (.iload 9, 2) := by decide +kernel
theorem dX4_fails_83 : decode cX4_fails 83 = .ok (.ifCond .le 35, 3) := by decide +kernel
theorem dX4_fails_86 : decode cX4_fails 86 = .ok (.aload_n 0, 1) := by decide +kernel
theorem dX4_fails_87 : decode cX4_fails 87 = .ok (.iload 8, 2) := by decide +kernel
theorem dX4_fails_89 : decode cX4_fails 89 = .ok (.iload 4, 2) := by decide +kernel
theorem dX4_fails_91 : decode cX4_fails 91 = .ok (.invokevirtual 225, 3) := by decide +kernel
theorem dX4_fails_94 : decode cX4_fails 94 = .ok (.iload 7, 2) := by decide +kernel
theorem dX4_fails_96 : decode cX4_fails 96 = .ok (.aload_n 0, 1) := by decide +kernel
theorem dX4_fails_97 : decode cX4_fails 97 = .ok (.getfield 30, 3) := by decide +kernel
theorem dX4_fails_100 : decode cX4_fails 100 = .ok (.iload_n 1, 1) := by decide +kernel
theorem dX4_fails_101 : decode cX4_fails 101 = .ok (.iload_n 2, 1) := by decide +kernel
theorem dX4_fails_102 : decode cX4_fails 102 = .ok (.invokevirtual 137, 3) := by decide +kernel
theorem dX4_fails_105 : decode cX4_fails 105 = .ok (.iload_n 3, 1) := by decide +kernel
theorem dX4_fails_106 : decode cX4_fails 106 = .ok (.if_icmp .lt 8, 3) := by decide +kernel
theorem dX4_fails_109 : decode cX4_fails 109 = .ok (.iload 9, 2) := by decide +kernel
theorem dX4_fails_111 : decode cX4_fails 111 = .ok (.goto 4, 3) := by decide +kernel
theorem dX4_fails_114 : decode cX4_fails 114 = .ok (.iconst 0, 1) := by decide +kernel
theorem dX4_fails_115 : decode cX4_fails 115 = .ok (.iadd, 1) := by decide +kernel
theorem dX4_fails_116 : decode cX4_fails 116 = .ok (.istore 7, 2) := by decide +kernel
theorem dX4_fails_118 : decode cX4_fails 118 = .ok (.iinc 8 1, 3) := by decide +kernel
theorem dX4_fails_121 : decode cX4_fails 121 = .ok (.goto (-60), 3) := by decide +kernel
theorem dX4_fails_124 : decode cX4_fails 124 = .ok (.iload 7, 2) := by decide +kernel
theorem dX4_fails_126 : decode cX4_fails 126 = .ok (.bipush 10, 2) := by decide +kernel
theorem dX4_fails_128 : decode cX4_fails 128 = .ok (.iload 4, 2) := by decide +kernel
theorem dX4_fails_130 : decode cX4_fails 130 = .ok (.invokestatic 181, 3) := by decide +kernel
theorem dX4_fails_133 : decode cX4_fails 133 = .ok (.l2i, 1) := by decide +kernel
theorem dX4_fails_134 : decode cX4_fails 134 = .ok (.iload 6, 2) := by decide +kernel
theorem dX4_fails_136 : decode cX4_fails 136 = .ok (.invokestatic 209, 3) := by decide +kernel
theorem dX4_fails_139 : decode cX4_fails 139 = .ok (.ireturn, 1) := by decide +kernel
theorem dX4_seed_0 : decode cX4_seed 0 = .ok (.aload_n 0, 1) := by decide +kernel
theorem dX4_seed_1 : decode cX4_seed 1 = .ok (.getfield 228, 3) := by decide +kernel
theorem dX4_seed_4 : decode cX4_seed 4 = .ok (.lstore_n 3, 1) := by decide +kernel
theorem dX4_seed_5 : decode cX4_seed 5 = .ok (.aload_n 0, 1) := by decide +kernel
theorem dX4_seed_6 : decode cX4_seed 6 = .ok (.lload_n 1, 1) := by decide +kernel
theorem dX4_seed_7 : decode cX4_seed 7 = .ok (.putfield 228, 3) := by decide +kernel
theorem dX4_seed_10 : decode cX4_seed 10 = .ok (.lload_n 3, 1) := by decide +kernel
theorem dX4_seed_11 : decode cX4_seed 11 = .ok (.lreturn, 1) := by decide +kernel
theorem dX4_generations_0 : decode cX4_generations 0 = .ok (.iload_n 1, 1) := by decide +kernel
theorem dX4_generations_1 : decode cX4_generations 1 = .ok (.iconst 1, 1) := by decide +kernel
theorem dX4_generations_2 : decode cX4_generations 2 = .ok (.if_icmp .lt 9, 3) := by decide +kernel
theorem dX4_generations_5 : decode cX4_generations 5 = .ok (.iload_n 1, 1) := by decide +kernel
theorem dX4_generations_6 : decode cX4_generations 6 = .ok (.bipush 30, 2) := by decide +kernel
theorem dX4_generations_8 : decode cX4_generations 8 = .ok (.if_icmp .le 6, 3) := by decide +kernel
theorem dX4_generations_11 : decode cX4_generations 11 = .ok (.bipush (-2), 2) := by decide +kernel
theorem dX4_generations_13 : decode cX4_generations 13 = .ok (.ireturn, 1) := by decide +kernel
theorem dX4_generations_14 : decode cX4_generations 14 = .ok (.aload_n 0, 1) := by decide +kernel
theorem dX4_generations_15 : decode cX4_generations 15 = .ok (.getfield 30, 3) := by decide +kernel
theorem dX4_generations_18 : decode cX4_generations 18 = .ok (.aload_n 0, 1) := by decide +kernel
theorem dX4_generations_19 : decode cX4_generations 19 = .ok (.getfield 26, 3) := by decide +kernel
theorem dX4_generations_22 : decode cX4_generations 22 = .ok (.invokevirtual 170, 3) := by decide +kernel
theorem dX4_generations_25 : decode cX4_generations 25 = .ok (.iconst 0, 1) := by decide +kernel
theorem dX4_generations_26 : decode cX4_generations 26 = .ok (.istore_n 2, 1) := by decide +kernel
theorem dX4_generations_27 : decode cX4_generations 27 = .ok (.iconst 0, 1) := by decide +kernel
theorem dX4_generations_28 : decode cX4_generations 28 = .ok (.istore_n 3, 1) := by decide +kernel
theorem dX4_generations_29 : decode cX4_generations 29 = .ok (.iload_n 3, 1) := by decide +kernel
theorem dX4_generations_30 : decode cX4_generations 30 = .ok (.iload_n 1, 1) := by decide +kernel
theorem dX4_generations_31 : decode cX4_generations 31 = .ok (.if_icmp .ge 50, 3) := by decide +kernel
theorem dX4_generations_34 : decode cX4_generations 34 = .ok (.aload_n 0, 1) := by decide +kernel
theorem dX4_generations_35 : decode cX4_generations 35 = .ok (.aload_n 0, 1) := by decide +kernel
theorem dX4_generations_36 : decode cX4_generations 36 = .ok (.getfield 228, 3) := by decide +kernel
theorem dX4_generations_39 : decode cX4_generations 39 = .ok (.ldc2_w 232, 3) := by decide +kernel
theorem dX4_generations_42 : decode cX4_generations 42 = .ok (.lmul, 1) := by decide +kernel
theorem dX4_generations_43 : decode cX4_generations 43 = .ok (.ldc2_w 234, 3) := by decide +kernel
theorem dX4_generations_46 : decode cX4_generations 46 = .ok (.ladd, 1) := by decide +kernel
theorem dX4_generations_47 : decode cX4_generations 47 = .ok (.putfield 228, 3) := by decide +kernel
theorem dX4_generations_50 : decode cX4_generations 50 = .ok (.aload_n 0, 1) := by decide +kernel
theorem dX4_generations_51 : decode cX4_generations 51 = .ok (.aload_n 0, 1) := by decide +kernel
theorem dX4_generations_52 : decode cX4_generations 52 = .ok (.getfield 228, 3) := by decide +kernel
theorem dX4_generations_55 : decode cX4_generations 55 = .ok (.bipush 33, 2) := by decide +kernel
theorem dX4_generations_57 : decode cX4_generations 57 = .ok (.lushr, 1) := by decide +kernel
theorem dX4_generations_58 : decode cX4_generations 58 = .ok (.l2i, 1) := by decide +kernel
theorem dX4_generations_59 : decode cX4_generations 59 = .ok (.bipush 31, 2) := by decide +kernel
theorem dX4_generations_61 : decode cX4_generations 61 = .ok (.iand, 1) := by decide +kernel
theorem dX4_generations_62 : decode cX4_generations 62 = .ok (.invokevirtual 236, 3) := by decide +kernel
theorem dX4_generations_65 : decode cX4_generations 65 = .ok (.iload_n 2, 1) := by decide +kernel
theorem dX4_generations_66 : decode cX4_generations 66 = .ok (.aload_n 0, 1) := by decide +kernel
theorem dX4_generations_67 : decode cX4_generations 67 = .ok (.getfield 30, 3) := by decide +kernel
theorem dX4_generations_70 : decode cX4_generations 70 = .ok (.invokevirtual 148, 3) := by decide +kernel
theorem dX4_generations_73 : decode cX4_generations 73 = .ok (.iadd, 1) := by decide +kernel
theorem dX4_generations_74 : decode cX4_generations 74 = .ok (.istore_n 2, 1) := by decide +kernel
theorem dX4_generations_75 : decode cX4_generations 75 = .ok (.iinc 3 1, 3) := by decide +kernel
theorem dX4_generations_78 : decode cX4_generations 78 = .ok (.goto (-49), 3) := by decide +kernel
theorem dX4_generations_81 : decode cX4_generations 81 = .ok (.iload_n 2, 1) := by decide +kernel
theorem dX4_generations_82 : decode cX4_generations 82 = .ok (.ireturn, 1) := by decide +kernel
theorem dX4_keep_0 : decode cX4_keep 0 = .ok (.aload_n 0, 1) := by decide +kernel
theorem dX4_keep_1 : decode cX4_keep 1 = .ok (.iload_n 1, 1) := by decide +kernel
theorem dX4_keep_2 : decode cX4_keep 2 = .ok (.invokevirtual 239, 3) := by decide +kernel
theorem dX4_keep_5 : decode cX4_keep 5 = .ok (.astore_n 2, 1) := by decide +kernel
theorem dX4_keep_6 : decode cX4_keep 6 = .ok (.aload_n 2, 1) := by decide +kernel
theorem dX4_keep_7 : decode cX4_keep 7 = .ok (.ifnonnull 5, 3) := by decide +kernel
theorem dX4_keep_10 : decode cX4_keep 10 = .ok (.iconst (-1), 1) := by decide +kernel
theorem dX4_keep_11 : decode cX4_keep 11 = .ok (.ireturn, 1) := by decide +kernel
theorem dX4_keep_12 : decode cX4_keep 12 = .ok (.aload_n 2, 1) := by decide +kernel
theorem dX4_keep_13 : decode cX4_keep 13 = .ok (.aload_n 0, 1) := by decide +kernel
theorem dX4_keep_14 : decode cX4_keep 14 = .ok (.getfield 26, 3) := by decide +kernel
theorem dX4_keep_17 : decode cX4_keep 17 = .ok (.invokevirtual 170, 3) := by decide +kernel
theorem dX4_keep_20 : decode cX4_keep 20 = .ok (.aload_n 0, 1) := by decide +kernel
theorem dX4_keep_21 : decode cX4_keep 21 = .ok (.dup, 1) := by decide +kernel
theorem dX4_keep_22 : decode cX4_keep 22 = .ok (.getfield 82, 3) := by decide +kernel
theorem dX4_keep_25 : decode cX4_keep 25 = .ok (.iconst 1, 1) := by decide +kernel
theorem dX4_keep_26 : decode cX4_keep 26 = .ok (.iload_n 1, 1) := by decide +kernel
theorem dX4_keep_27 : decode cX4_keep 27 = .ok (.ishl, 1) := by decide +kernel
theorem dX4_keep_28 : decode cX4_keep 28 = .ok (.ior, 1) := by decide +kernel
theorem dX4_keep_29 : decode cX4_keep 29 = .ok (.putfield 82, 3) := by decide +kernel
theorem dX4_keep_32 : decode cX4_keep 32 = .ok (.aload_n 0, 1) := by decide +kernel
theorem dX4_keep_33 : decode cX4_keep 33 = .ok (.getfield 26, 3) := by decide +kernel
theorem dX4_keep_36 : decode cX4_keep 36 = .ok (.getfield 243, 3) := by decide +kernel
theorem dX4_keep_39 : decode cX4_keep 39 = .ok (.ireturn, 1) := by decide +kernel
theorem dX4_again_0 : decode cX4_again 0 = .ok (.aload_n 0, 1) := by decide +kernel
theorem dX4_again_1 : decode cX4_again 1 = .ok (.iload_n 1, 1) := by decide +kernel
theorem dX4_again_2 : decode cX4_again 2 = .ok (.invokevirtual 239, 3) := by decide +kernel
theorem dX4_again_5 : decode cX4_again 5 = .ok (.astore_n 2, 1) := by decide +kernel
theorem dX4_again_6 : decode cX4_again 6 = .ok (.aload_n 2, 1) := by decide +kernel
theorem dX4_again_7 : decode cX4_again 7 = .ok (.ifnonnull 5, 3) := by decide +kernel
theorem dX4_again_10 : decode cX4_again 10 = .ok (.iconst (-1), 1) := by decide +kernel
theorem dX4_again_11 : decode cX4_again 11 = .ok (.ireturn, 1) := by decide +kernel
theorem dX4_again_12 : decode cX4_again 12 = .ok (.aload_n 0, 1) := by decide +kernel
theorem dX4_again_13 : decode cX4_again 13 = .ok (.getfield 82, 3) := by decide +kernel
theorem dX4_again_16 : decode cX4_again 16 = .ok (.iload_n 1, 1) := by decide +kernel
theorem dX4_again_17 : decode cX4_again 17 = .ok (.ishr, 1) := by decide +kernel
theorem dX4_again_18 : decode cX4_again 18 = .ok (.iconst 1, 1) := by decide +kernel
theorem dX4_again_19 : decode cX4_again 19 = .ok (.iand, 1) := by decide +kernel
theorem dX4_again_20 : decode cX4_again 20 = .ok (.ifCond .ne 6, 3) := by decide +kernel
theorem dX4_again_23 : decode cX4_again 23 = .ok (.bipush (-3), 2) := by decide +kernel
theorem dX4_again_25 : decode cX4_again 25 = .ok (.ireturn, 1) := by decide +kernel
theorem dX4_again_26 : decode cX4_again 26 = .ok (.aload_n 0, 1) := by decide +kernel
theorem dX4_again_27 : decode cX4_again 27 = .ok (.getfield 26, 3) := by decide +kernel
theorem dX4_again_30 : decode cX4_again 30 = .ok (.aload_n 2, 1) := by decide +kernel
theorem dX4_again_31 : decode cX4_again 31 = .ok (.invokevirtual 170, 3) := by decide +kernel
theorem dX4_again_34 : decode cX4_again 34 = .ok (.aload_n 0, 1) := by decide +kernel
theorem dX4_again_35 : decode cX4_again 35 = .ok (.getfield 39, 3) := by decide +kernel
theorem dX4_again_38 : decode cX4_again 38 = .ok (.invokevirtual 79, 3) := by decide +kernel
theorem dX4_again_41 : decode cX4_again 41 = .ok (.aload_n 0, 1) := by decide +kernel
theorem dX4_again_42 : decode cX4_again 42 = .ok (.getfield 26, 3) := by decide +kernel
theorem dX4_again_45 : decode cX4_again 45 = .ok (.getfield 243, 3) := by decide +kernel
theorem dX4_again_48 : decode cX4_again 48 = .ok (.ireturn, 1) := by decide +kernel
theorem dX4_count_0 : decode cX4_count 0 = .ok (.iload_n 1, 1) := by decide +kernel
theorem dX4_count_1 : decode cX4_count 1 = .ok (.tableswitch 183 0 11 #[63, 68, 76, 84, 92, 100, 118, 136, 144, 152, 167, 175], 63) := by decide +kernel
theorem dX4_count_64 : decode cX4_count 64 = .ok (.aload_n 0, 1) := by decide +kernel
theorem dX4_count_65 : decode cX4_count 65 = .ok (.getfield 63, 3) := by decide +kernel
theorem dX4_count_68 : decode cX4_count 68 = .ok (.ireturn, 1) := by decide +kernel
theorem dX4_count_69 : decode cX4_count 69 = .ok (.aload_n 0, 1) := by decide +kernel
theorem dX4_count_70 : decode cX4_count 70 = .ok (.getfield 16, 3) := by decide +kernel
theorem dX4_count_73 : decode cX4_count 73 = .ok (.getfield 85, 3) := by decide +kernel
theorem dX4_count_76 : decode cX4_count 76 = .ok (.ireturn, 1) := by decide +kernel
theorem dX4_count_77 : decode cX4_count 77 = .ok (.aload_n 0, 1) := by decide +kernel
theorem dX4_count_78 : decode cX4_count 78 = .ok (.getfield 16, 3) := by decide +kernel
theorem dX4_count_81 : decode cX4_count 81 = .ok (.getfield 88, 3) := by decide +kernel
theorem dX4_count_84 : decode cX4_count 84 = .ok (.ireturn, 1) := by decide +kernel
theorem dX4_count_85 : decode cX4_count 85 = .ok (.aload_n 0, 1) := by decide +kernel
theorem dX4_count_86 : decode cX4_count 86 = .ok (.getfield 16, 3) := by decide +kernel
theorem dX4_count_89 : decode cX4_count 89 = .ok (.getfield 91, 3) := by decide +kernel
theorem dX4_count_92 : decode cX4_count 92 = .ok (.ireturn, 1) := by decide +kernel
theorem dX4_count_93 : decode cX4_count 93 = .ok (.aload_n 0, 1) := by decide +kernel
theorem dX4_count_94 : decode cX4_count 94 = .ok (.getfield 26, 3) := by decide +kernel
theorem dX4_count_97 : decode cX4_count 97 = .ok (.getfield 243, 3) := by decide +kernel
theorem dX4_count_100 : decode cX4_count 100 = .ok (.ireturn, 1) := by decide +kernel
theorem dX4_count_101 : decode cX4_count 101 = .ok (.aload_n 0, 1) := by decide +kernel
theorem dX4_count_102 : decode cX4_count 102 = .ok (.getfield 16, 3) := by decide +kernel
theorem dX4_count_105 : decode cX4_count 105 = .ok (.getfield 98, 3) := by decide +kernel
theorem dX4_count_108 : decode cX4_count 108 = .ok (.aload_n 0, 1) := by decide +kernel
theorem dX4_count_109 : decode cX4_count 109 = .ok (.getfield 16, 3) := by decide +kernel
theorem dX4_count_112 : decode cX4_count 112 = .ok (.getfield 88, 3) := by decide +kernel
theorem dX4_count_115 : decode cX4_count 115 = .ok (.invokestatic 246, 3) := by decide +kernel
theorem dX4_count_118 : decode cX4_count 118 = .ok (.ireturn, 1) := by decide +kernel
theorem dX4_count_119 : decode cX4_count 119 = .ok (.aload_n 0, 1) := by decide +kernel
theorem dX4_count_120 : decode cX4_count 120 = .ok (.getfield 26, 3) := by decide +kernel
theorem dX4_count_123 : decode cX4_count 123 = .ok (.getfield 118, 3) := by decide +kernel
theorem dX4_count_126 : decode cX4_count 126 = .ok (.aload_n 0, 1) := by decide +kernel
theorem dX4_count_127 : decode cX4_count 127 = .ok (.getfield 16, 3) := by decide +kernel
theorem dX4_count_130 : decode cX4_count 130 = .ok (.getfield 91, 3) := by decide +kernel
theorem dX4_count_133 : decode cX4_count 133 = .ok (.invokestatic 246, 3) := by decide +kernel
theorem dX4_count_136 : decode cX4_count 136 = .ok (.ireturn, 1) := by decide +kernel
theorem dX4_count_137 : decode cX4_count 137 = .ok (.aload_n 0, 1) := by decide +kernel
theorem dX4_count_138 : decode cX4_count 138 = .ok (.getfield 26, 3) := by decide +kernel
theorem dX4_count_141 : decode cX4_count 141 = .ok (.getfield 249, 3) := by decide +kernel
theorem dX4_count_144 : decode cX4_count 144 = .ok (.ireturn, 1) := by decide +kernel
theorem dX4_count_145 : decode cX4_count 145 = .ok (.aload_n 0, 1) := by decide +kernel
theorem dX4_count_146 : decode cX4_count 146 = .ok (.getfield 26, 3) := by decide +kernel
theorem dX4_count_149 : decode cX4_count 149 = .ok (.invokevirtual 148, 3) := by decide +kernel
theorem dX4_count_152 : decode cX4_count 152 = .ok (.ireturn, 1) := by decide +kernel
theorem dX4_count_153 : decode cX4_count 153 = .ok (.aload_n 0, 1) := by decide +kernel
theorem dX4_count_154 : decode cX4_count 154 = .ok (.getfield 16, 3) := by decide +kernel
theorem dX4_count_157 : decode cX4_count 157 = .ok (.aload_n 0, 1) := by decide +kernel
theorem dX4_count_158 : decode cX4_count 158 = .ok (.getfield 26, 3) := by decide +kernel
theorem dX4_count_161 : decode cX4_count 161 = .ok (.getfield 243, 3) := by decide +kernel
theorem dX4_count_164 : decode cX4_count 164 = .ok (.invokevirtual 252, 3) := by decide +kernel
theorem dX4_count_167 : decode cX4_count 167 = .ok (.ireturn, 1) := by decide +kernel
theorem dX4_count_168 : decode cX4_count 168 = .ok (.aload_n 0, 1) := by decide +kernel
theorem dX4_count_169 : decode cX4_count 169 = .ok (.getfield 39, 3) := by decide +kernel
theorem dX4_count_172 : decode cX4_count 172 = .ok (.getfield 161, 3) := by decide +kernel
theorem dX4_count_175 : decode cX4_count 175 = .ok (.ireturn, 1) := by decide +kernel
theorem dX4_count_176 : decode cX4_count 176 = .ok (.aload_n 0, 1) := by decide +kernel
theorem dX4_count_177 : decode cX4_count 177 = .ok (.getfield 50, 3) := by decide +kernel
theorem dX4_count_180 : decode cX4_count 180 = .ok (.getfield 190, 3) := by decide +kernel
theorem dX4_count_183 : decode cX4_count 183 = .ok (.ireturn, 1) := by decide +kernel
theorem dX4_count_184 : decode cX4_count 184 = .ok (.bipush (-2), 2) := by decide +kernel
theorem dX4_count_186 : decode cX4_count 186 = .ok (.ireturn, 1) := by decide +kernel
theorem dX4_isGround_0 : decode cX4_isGround 0 = .ok (.iload_n 1, 1) := by decide +kernel
theorem dX4_isGround_1 : decode cX4_isGround 1 = .ok (.ifCond .lt 18, 3) := by decide +kernel
theorem dX4_isGround_4 : decode cX4_isGround 4 = .ok (.iload_n 1, 1) := by decide +kernel
theorem dX4_isGround_5 : decode cX4_isGround 5 = .ok (.aload_n 0, 1) := by decide +kernel
theorem dX4_isGround_6 : decode cX4_isGround 6 = .ok (.getfield 16, 3) := by decide +kernel
theorem dX4_isGround_9 : decode cX4_isGround 9 = .ok (.getfield 88, 3) := by decide +kernel
theorem dX4_isGround_12 : decode cX4_isGround 12 = .ok (.if_icmp .ge 7, 3) := by decide +kernel
theorem dX4_isGround_15 : decode cX4_isGround 15 = .ok (.iconst 1, 1) := by decide +kernel
theorem dX4_isGround_16 : decode cX4_isGround 16 = .ok (.goto 4, 3) := by decide +kernel
theorem dX4_isGround_19 : decode cX4_isGround 19 = .ok (.iconst 0, 1) := by decide +kernel
theorem dX4_isGround_20 : decode cX4_isGround 20 = .ok (.ireturn, 1) := by decide +kernel
theorem dX4_isChild_0 : decode cX4_isChild 0 = .ok (.iload_n 1, 1) := by decide +kernel
theorem dX4_isChild_1 : decode cX4_isChild 1 = .ok (.ifCond .lt 18, 3) := by decide +kernel
theorem dX4_isChild_4 : decode cX4_isChild 4 = .ok (.iload_n 1, 1) := by decide +kernel
theorem dX4_isChild_5 : decode cX4_isChild 5 = .ok (.aload_n 0, 1) := by decide +kernel
theorem dX4_isChild_6 : decode cX4_isChild 6 = .ok (.getfield 16, 3) := by decide +kernel
theorem dX4_isChild_9 : decode cX4_isChild 9 = .ok (.getfield 91, 3) := by decide +kernel
theorem dX4_isChild_12 : decode cX4_isChild 12 = .ok (.if_icmp .ge 7, 3) := by decide +kernel
theorem dX4_isChild_15 : decode cX4_isChild 15 = .ok (.iconst 1, 1) := by decide +kernel
theorem dX4_isChild_16 : decode cX4_isChild 16 = .ok (.goto 4, 3) := by decide +kernel
theorem dX4_isChild_19 : decode cX4_isChild 19 = .ok (.iconst 0, 1) := by decide +kernel
theorem dX4_isChild_20 : decode cX4_isChild 20 = .ok (.ireturn, 1) := by decide +kernel
theorem dX4_isCell_0 : decode cX4_isCell 0 = .ok (.iload_n 0, 1) := by decide +kernel
theorem dX4_isCell_1 : decode cX4_isCell 1 = .ok (.ifCond .lt 13, 3) := by decide +kernel
theorem dX4_isCell_4 : decode cX4_isCell 4 = .ok (.iload_n 0, 1) := by decide +kernel
theorem dX4_isCell_5 : decode cX4_isCell 5 = .ok (.bipush 12, 2) := by decide +kernel
theorem dX4_isCell_7 : decode cX4_isCell 7 = .ok (.if_icmp .ge 7, 3) := by decide +kernel
theorem dX4_isCell_10 : decode cX4_isCell 10 = .ok (.iconst 1, 1) := by decide +kernel
theorem dX4_isCell_11 : decode cX4_isCell 11 = .ok (.goto 4, 3) := by decide +kernel
theorem dX4_isCell_14 : decode cX4_isCell 14 = .ok (.iconst 0, 1) := by decide +kernel
theorem dX4_isCell_15 : decode cX4_isCell 15 = .ok (.ireturn, 1) := by decide +kernel
theorem dX4_isSubject_0 : decode cX4_isSubject 0 = .ok (.iload_n 0, 1) := by decide +kernel
theorem dX4_isSubject_1 : decode cX4_isSubject 1 = .ok (.ifCond .lt 12, 3) := by decide +kernel
theorem dX4_isSubject_4 : decode cX4_isSubject 4 = .ok (.iload_n 0, 1) := by decide +kernel
theorem dX4_isSubject_5 : decode cX4_isSubject 5 = .ok (.iconst 5, 1) := by decide +kernel
theorem dX4_isSubject_6 : decode cX4_isSubject 6 = .ok (.if_icmp .ge 7, 3) := by decide +kernel
theorem dX4_isSubject_9 : decode cX4_isSubject 9 = .ok (.iconst 1, 1) := by decide +kernel
theorem dX4_isSubject_10 : decode cX4_isSubject 10 = .ok (.goto 4, 3) := by decide +kernel
theorem dX4_isSubject_13 : decode cX4_isSubject 13 = .ok (.iconst 0, 1) := by decide +kernel
theorem dX4_isSubject_14 : decode cX4_isSubject 14 = .ok (.ireturn, 1) := by decide +kernel
theorem dX4_slotAt_0 : decode cX4_slotAt 0 = .ok (.iload_n 1, 1) := by decide +kernel
theorem dX4_slotAt_1 : decode cX4_slotAt 1 = .ok (.ifCond .lt 21, 3) := by decide +kernel
theorem dX4_slotAt_4 : decode cX4_slotAt 4 = .ok (.iload_n 1, 1) := by decide +kernel
theorem dX4_slotAt_5 : decode cX4_slotAt 5 = .ok (.aload_n 0, 1) := by decide +kernel
theorem dX4_slotAt_6 : decode cX4_slotAt 6 = .ok (.getfield 43, 3) := by decide +kernel
theorem dX4_slotAt_9 : decode cX4_slotAt 9 = .ok (.arraylength, 1) := by decide +kernel
theorem dX4_slotAt_10 : decode cX4_slotAt 10 = .ok (.if_icmp .ge 12, 3) := by decide +kernel
theorem dX4_slotAt_13 : decode cX4_slotAt 13 = .ok (.aload_n 0, 1) := by decide +kernel
theorem dX4_slotAt_14 : decode cX4_slotAt 14 = .ok (.getfield 43, 3) := by decide +kernel
theorem dX4_slotAt_17 : decode cX4_slotAt 17 = .ok (.iload_n 1, 1) := by decide +kernel
theorem dX4_slotAt_18 : decode cX4_slotAt 18 = .ok (.aaload, 1) := by decide +kernel
theorem dX4_slotAt_19 : decode cX4_slotAt 19 = .ok (.goto 4, 3) := by decide +kernel
theorem dX4_slotAt_22 : decode cX4_slotAt 22 = .ok (.aconst_null, 1) := by decide +kernel
theorem dX4_slotAt_23 : decode cX4_slotAt 23 = .ok (.areturn, 1) := by decide +kernel
theorem dX4_cellBits_0 : decode cX4_cellBits 0 = .ok (.iconst 0, 1) := by decide +kernel
theorem dX4_cellBits_1 : decode cX4_cellBits 1 = .ok (.istore_n 2, 1) := by decide +kernel
theorem dX4_cellBits_2 : decode cX4_cellBits 2 = .ok (.iconst 0, 1) := by decide +kernel
theorem dX4_cellBits_3 : decode cX4_cellBits 3 = .ok (.istore_n 3, 1) := by decide +kernel
theorem dX4_cellBits_4 : decode cX4_cellBits 4 = .ok (.iload_n 3, 1) := by decide +kernel
theorem dX4_cellBits_5 : decode cX4_cellBits 5 = .ok (.iload_n 1, 1) := by decide +kernel
theorem dX4_cellBits_6 : decode cX4_cellBits 6 = .ok (.if_icmp .ge 19, 3) := by decide +kernel
theorem dX4_cellBits_9 : decode cX4_cellBits 9 = .ok (.iload_n 2, 1) := by decide +kernel
theorem dX4_cellBits_10 : decode cX4_cellBits 10 = .ok (.iconst 1, 1) := by decide +kernel
theorem dX4_cellBits_11 : decode cX4_cellBits 11 = .ok (.aload_n 0, 1) := by decide +kernel
theorem dX4_cellBits_12 : decode cX4_cellBits 12 = .ok (.iload_n 3, 1) := by decide +kernel
theorem dX4_cellBits_13 : decode cX4_cellBits 13 = .ok (.invokestatic 101, 3) := by decide +kernel
theorem dX4_cellBits_16 : decode cX4_cellBits 16 = .ok (.ishl, 1) := by decide +kernel
theorem dX4_cellBits_17 : decode cX4_cellBits 17 = .ok (.ior, 1) := by decide +kernel
theorem dX4_cellBits_18 : decode cX4_cellBits 18 = .ok (.istore_n 2, 1) := by decide +kernel
theorem dX4_cellBits_19 : decode cX4_cellBits 19 = .ok (.iinc 3 1, 3) := by decide +kernel
theorem dX4_cellBits_22 : decode cX4_cellBits 22 = .ok (.goto (-18), 3) := by decide +kernel
theorem dX4_cellBits_25 : decode cX4_cellBits 25 = .ok (.iload_n 2, 1) := by decide +kernel
theorem dX4_cellBits_26 : decode cX4_cellBits 26 = .ok (.ireturn, 1) := by decide +kernel
theorem dX4_readText_0 : decode cX4_readText 0 = .ok (.aload_n 0, 1) := by decide +kernel
theorem dX4_readText_1 : decode cX4_readText 1 = .ok (.getfield 20, 3) := by decide +kernel
theorem dX4_readText_4 : decode cX4_readText 4 = .ok (.invokevirtual 255, 3) := by decide +kernel
theorem dX4_readText_7 : decode cX4_readText 7 = .ok (.iconst 0, 1) := by decide +kernel
theorem dX4_readText_8 : decode cX4_readText 8 = .ok (.istore_n 1, 1) := by decide +kernel
theorem dX4_readText_9 : decode cX4_readText 9 = .ok (.iload_n 1, 1) := by decide +kernel
theorem dX4_readText_10 : decode cX4_readText 10 = .ok (.aload_n 0, 1) := by decide +kernel
theorem dX4_readText_11 : decode cX4_readText 11 = .ok (.getfield 63, 3) := by decide +kernel
theorem dX4_readText_14 : decode cX4_readText 14 = .ok (.if_icmp .ge 29, 3) := by decide +kernel
theorem dX4_readText_17 : decode cX4_readText 17 = .ok (.aload_n 0, 1) := by decide +kernel
theorem dX4_readText_18 : decode cX4_readText 18 = .ok (.getfield 20, 3) := by decide +kernel
theorem dX4_readText_21 : decode cX4_readText 21 = .ok (.aload_n 0, 1) := by decide +kernel
theorem dX4_readText_22 : decode cX4_readText 22 = .ok (.getfield 9, 3) := by decide +kernel
theorem dX4_readText_25 : decode cX4_readText 25 = .ok (.iload_n 1, 1) := by decide +kernel
theorem dX4_readText_26 : decode cX4_readText 26 = .ok (.invokestatic 101, 3) := by decide +kernel
theorem dX4_readText_29 : decode cX4_readText 29 = .ok (.invokevirtual 256, 3) := by decide +kernel
theorem dX4_readText_32 : decode cX4_readText 32 = .ok (.ifCond .ne 5, 3) := by decide +kernel
theorem dX4_readText_35 : decode cX4_readText 35 = .ok (.iload_n 1, 1) := by decide +kernel
theorem dX4_readText_36 : decode cX4_readText 36 = .ok (.ireturn, 1) := by decide +kernel
theorem dX4_readText_37 : decode cX4_readText 37 = .ok (.iinc 1 1, 3) := by decide +kernel
theorem dX4_readText_40 : decode cX4_readText 40 = .ok (.goto (-31), 3) := by decide +kernel
theorem dX4_readText_43 : decode cX4_readText 43 = .ok (.aload_n 0, 1) := by decide +kernel
theorem dX4_readText_44 : decode cX4_readText 44 = .ok (.getfield 20, 3) := by decide +kernel
theorem dX4_readText_47 : decode cX4_readText 47 = .ok (.invokevirtual 259, 3) := by decide +kernel
theorem dX4_readText_50 : decode cX4_readText 50 = .ok (.ifCond .eq 8, 3) := by decide +kernel
theorem dX4_readText_53 : decode cX4_readText 53 = .ok (.bipush (-9), 2) := by decide +kernel
theorem dX4_readText_55 : decode cX4_readText 55 = .ok (.goto 7, 3) := by decide +kernel
theorem dX4_readText_58 : decode cX4_readText 58 = .ok (.aload_n 0, 1) := by decide +kernel
theorem dX4_readText_59 : decode cX4_readText 59 = .ok (.getfield 63, 3) := by decide +kernel
theorem dX4_readText_62 : decode cX4_readText 62 = .ok (.ireturn, 1) := by decide +kernel
theorem dX4_tryDays_0 : decode cX4_tryDays 0 = .ok (.aload_n 0, 1) := by decide +kernel
theorem dX4_tryDays_1 : decode cX4_tryDays 1 = .ok (.getfield 30, 3) := by decide +kernel
theorem dX4_tryDays_4 : decode cX4_tryDays 4 = .ok (.aload_n 0, 1) := by decide +kernel
theorem dX4_tryDays_5 : decode cX4_tryDays 5 = .ok (.getfield 26, 3) := by decide +kernel
theorem dX4_tryDays_8 : decode cX4_tryDays 8 = .ok (.invokevirtual 170, 3) := by decide +kernel
theorem dX4_tryDays_11 : decode cX4_tryDays 11 = .ok (.aload_n 0, 1) := by decide +kernel
theorem dX4_tryDays_12 : decode cX4_tryDays 12 = .ok (.getfield 30, 3) := by decide +kernel
theorem dX4_tryDays_15 : decode cX4_tryDays 15 = .ok (.aload_n 0, 1) := by decide +kernel
theorem dX4_tryDays_16 : decode cX4_tryDays 16 = .ok (.getfield 16, 3) := by decide +kernel
theorem dX4_tryDays_19 : decode cX4_tryDays 19 = .ok (.iload_n 1, 1) := by decide +kernel
theorem dX4_tryDays_20 : decode cX4_tryDays 20 = .ok (.invokevirtual 173, 3) := by decide +kernel
theorem dX4_tryDays_23 : decode cX4_tryDays 23 = .ok (.return_, 1) := by decide +kernel
theorem dX4_mostFrom_0 : decode cX4_mostFrom 0 = .ok (.iload_n 0, 1) := by decide +kernel
theorem dX4_mostFrom_1 : decode cX4_mostFrom 1 = .ok (.aload_n 2, 1) := by decide +kernel
theorem dX4_mostFrom_2 : decode cX4_mostFrom 2 = .ok (.getfield 91, 3) := by decide +kernel
theorem dX4_mostFrom_5 : decode cX4_mostFrom 5 = .ok (.if_icmp .ge 8, 3) := by decide +kernel
theorem dX4_mostFrom_8 : decode cX4_mostFrom 8 = .ok (.iload_n 0, 1) := by decide +kernel
theorem dX4_mostFrom_9 : decode cX4_mostFrom 9 = .ok (.iconst 5, 1) := by decide +kernel
theorem dX4_mostFrom_10 : decode cX4_mostFrom 10 = .ok (.if_icmp .lt 22, 3) := by decide +kernel
theorem dX4_mostFrom_13 : decode cX4_mostFrom 13 = .ok (.aload 4, 2) := by decide +kernel
theorem dX4_mostFrom_15 : decode cX4_mostFrom 15 = .ok (.aload_n 3, 1) := by decide +kernel
theorem dX4_mostFrom_16 : decode cX4_mostFrom 16 = .ok (.invokevirtual 170, 3) := by decide +kernel
theorem dX4_mostFrom_19 : decode cX4_mostFrom 19 = .ok (.aload 4, 2) := by decide +kernel
theorem dX4_mostFrom_21 : decode cX4_mostFrom 21 = .ok (.aload_n 2, 1) := by decide +kernel
theorem dX4_mostFrom_22 : decode cX4_mostFrom 22 = .ok (.iconst 4, 1) := by decide +kernel
theorem dX4_mostFrom_23 : decode cX4_mostFrom 23 = .ok (.invokevirtual 173, 3) := by decide +kernel
theorem dX4_mostFrom_26 : decode cX4_mostFrom 26 = .ok (.aload 4, 2) := by decide +kernel
theorem dX4_mostFrom_28 : decode cX4_mostFrom 28 = .ok (.invokevirtual 148, 3) := by decide +kernel
theorem dX4_mostFrom_31 : decode cX4_mostFrom 31 = .ok (.ireturn, 1) := by decide +kernel
theorem dX4_mostFrom_32 : decode cX4_mostFrom 32 = .ok (.bipush (-9), 2) := by decide +kernel
theorem dX4_mostFrom_34 : decode cX4_mostFrom 34 = .ok (.istore 5, 2) := by decide +kernel
theorem dX4_mostFrom_36 : decode cX4_mostFrom 36 = .ok (.iconst 0, 1) := by decide +kernel
theorem dX4_mostFrom_37 : decode cX4_mostFrom 37 = .ok (.istore 6, 2) := by decide +kernel
theorem dX4_mostFrom_39 : decode cX4_mostFrom 39 = .ok (.iload 6, 2) := by decide +kernel
theorem dX4_mostFrom_41 : decode cX4_mostFrom 41 = .ok (.aload_n 2, 1) := by decide +kernel
theorem dX4_mostFrom_42 : decode cX4_mostFrom 42 = .ok (.getfield 88, 3) := by decide +kernel
theorem dX4_mostFrom_45 : decode cX4_mostFrom 45 = .ok (.if_icmp .ge 62, 3) := by decide +kernel
theorem dX4_mostFrom_48 : decode cX4_mostFrom 48 = .ok (.iload_n 1, 1) := by decide +kernel
theorem dX4_mostFrom_49 : decode cX4_mostFrom 49 = .ok (.iload 6, 2) := by decide +kernel
theorem dX4_mostFrom_51 : decode cX4_mostFrom 51 = .ok (.ishr, 1) := by decide +kernel
theorem dX4_mostFrom_52 : decode cX4_mostFrom 52 = .ok (.iconst 1, 1) := by decide +kernel
theorem dX4_mostFrom_53 : decode cX4_mostFrom 53 = .ok (.iand, 1) := by decide +kernel
theorem dX4_mostFrom_54 : decode cX4_mostFrom 54 = .ok (.ifCond .ne 47, 3) := by decide +kernel
theorem dX4_mostFrom_57 : decode cX4_mostFrom 57 = .ok (.aload_n 3, 1) := by decide +kernel
theorem dX4_mostFrom_58 : decode cX4_mostFrom 58 = .ok (.getfield 118, 3) := by decide +kernel
theorem dX4_mostFrom_61 : decode cX4_mostFrom 61 = .ok (.iload_n 0, 1) := by decide +kernel
theorem dX4_mostFrom_62 : decode cX4_mostFrom 62 = .ok (.aload_n 2, 1) := by decide +kernel
theorem dX4_mostFrom_63 : decode cX4_mostFrom 63 = .ok (.getfield 98, 3) := by decide +kernel
theorem dX4_mostFrom_66 : decode cX4_mostFrom 66 = .ok (.iload 6, 2) := by decide +kernel
theorem dX4_mostFrom_68 : decode cX4_mostFrom 68 = .ok (.invokestatic 101, 3) := by decide +kernel
theorem dX4_mostFrom_71 : decode cX4_mostFrom 71 = .ok (.invokestatic 67, 3) := by decide +kernel
theorem dX4_mostFrom_74 : decode cX4_mostFrom 74 = .ok (.iload_n 0, 1) := by decide +kernel
theorem dX4_mostFrom_75 : decode cX4_mostFrom 75 = .ok (.iconst 1, 1) := by decide +kernel
theorem dX4_mostFrom_76 : decode cX4_mostFrom 76 = .ok (.iadd, 1) := by decide +kernel
theorem dX4_mostFrom_77 : decode cX4_mostFrom 77 = .ok (.iload_n 1, 1) := by decide +kernel
theorem dX4_mostFrom_78 : decode cX4_mostFrom 78 = .ok (.iconst 1, 1) := by decide +kernel
theorem dX4_mostFrom_79 : decode cX4_mostFrom 79 = .ok (.iload 6, 2) := by decide +kernel
theorem dX4_mostFrom_81 : decode cX4_mostFrom 81 = .ok (.ishl, 1) := by decide +kernel
theorem dX4_mostFrom_82 : decode cX4_mostFrom 82 = .ok (.ior, 1) := by decide +kernel
theorem dX4_mostFrom_83 : decode cX4_mostFrom 83 = .ok (.aload_n 2, 1) := by decide +kernel
theorem dX4_mostFrom_84 : decode cX4_mostFrom 84 = .ok (.aload_n 3, 1) := by decide +kernel
theorem dX4_mostFrom_85 : decode cX4_mostFrom 85 = .ok (.aload 4, 2) := by decide +kernel
theorem dX4_mostFrom_87 : decode cX4_mostFrom 87 = .ok (.invokestatic 177, 3) := by decide +kernel
theorem dX4_mostFrom_90 : decode cX4_mostFrom 90 = .ok (.istore 7, 2) := by decide +kernel
theorem dX4_mostFrom_92 : decode cX4_mostFrom 92 = .ok (.iload 5, 2) := by decide +kernel
theorem dX4_mostFrom_94 : decode cX4_mostFrom 94 = .ok (.iload 7, 2) := by decide +kernel
theorem dX4_mostFrom_96 : decode cX4_mostFrom 96 = .ok (.invokestatic 263, 3) := by decide +kernel
theorem dX4_mostFrom_99 : decode cX4_mostFrom 99 = .ok (.istore 5, 2) := by decide +kernel
theorem dX4_mostFrom_101 : decode cX4_mostFrom 101 = .ok (.iinc 6 1, 3) := by decide +kernel
theorem dX4_mostFrom_104 : decode cX4_mostFrom 104 = .ok (.goto (-65), 3) := by decide +kernel
theorem dX4_mostFrom_107 : decode cX4_mostFrom 107 = .ok (.iload 5, 2) := by decide +kernel
theorem dX4_mostFrom_109 : decode cX4_mostFrom 109 = .ok (.ireturn, 1) := by decide +kernel
theorem dX4_canBeDone_0 : decode cX4_canBeDone 0 = .ok (.iload_n 1, 1) := by decide +kernel
theorem dX4_canBeDone_1 : decode cX4_canBeDone 1 = .ok (.sipush 1000, 3) := by decide +kernel
theorem dX4_canBeDone_4 : decode cX4_canBeDone 4 = .ok (.idiv, 1) := by decide +kernel
theorem dX4_canBeDone_5 : decode cX4_canBeDone 5 = .ok (.istore_n 2, 1) := by decide +kernel
theorem dX4_canBeDone_6 : decode cX4_canBeDone 6 = .ok (.iload_n 1, 1) := by decide +kernel
theorem dX4_canBeDone_7 : decode cX4_canBeDone 7 = .ok (.bipush 100, 2) := by decide +kernel
theorem dX4_canBeDone_9 : decode cX4_canBeDone 9 = .ok (.idiv, 1) := by decide +kernel
theorem dX4_canBeDone_10 : decode cX4_canBeDone 10 = .ok (.bipush 10, 2) := by decide +kernel
theorem dX4_canBeDone_12 : decode cX4_canBeDone 12 = .ok (.irem, 1) := by decide +kernel
theorem dX4_canBeDone_13 : decode cX4_canBeDone 13 = .ok (.istore_n 3, 1) := by decide +kernel
theorem dX4_canBeDone_14 : decode cX4_canBeDone 14 = .ok (.iload_n 1, 1) := by decide +kernel
theorem dX4_canBeDone_15 : decode cX4_canBeDone 15 = .ok (.bipush 10, 2) := by decide +kernel
theorem dX4_canBeDone_17 : decode cX4_canBeDone 17 = .ok (.idiv, 1) := by decide +kernel
theorem dX4_canBeDone_18 : decode cX4_canBeDone 18 = .ok (.bipush 10, 2) := by decide +kernel
theorem dX4_canBeDone_20 : decode cX4_canBeDone 20 = .ok (.irem, 1) := by decide +kernel
theorem dX4_canBeDone_21 : decode cX4_canBeDone 21 = .ok (.istore 4, 2) := by decide +kernel
theorem dX4_canBeDone_23 : decode cX4_canBeDone 23 = .ok (.iload_n 1, 1) := by decide +kernel
theorem dX4_canBeDone_24 : decode cX4_canBeDone 24 = .ok (.bipush 10, 2) := by decide +kernel
theorem dX4_canBeDone_26 : decode cX4_canBeDone 26 = .ok (.irem, 1) := by decide +kernel
theorem dX4_canBeDone_27 : decode cX4_canBeDone 27 = .ok (.istore 5, 2) := by decide +kernel
theorem dX4_canBeDone_29 : decode cX4_canBeDone 29 = .ok (.iload_n 2, 1) := by decide +kernel
theorem dX4_canBeDone_30 : decode cX4_canBeDone 30 = .ok (.tableswitch 184 0 4 #[34, 51, 81, 114, 147], 34) := by decide +kernel
theorem dX4_canBeDone_64 : decode cX4_canBeDone 64 = .ok (.iload_n 1, 1) := by decide +kernel
theorem dX4_canBeDone_65 : decode cX4_canBeDone 65 = .ok (.ifCond .ne 14, 3) := by decide +kernel
theorem dX4_canBeDone_68 : decode cX4_canBeDone 68 = .ok (.aload_n 0, 1) := by decide +kernel
theorem dX4_canBeDone_69 : decode cX4_canBeDone 69 = .ok (.invokevirtual 268, 3) := by decide +kernel
theorem dX4_canBeDone_72 : decode cX4_canBeDone 72 = .ok (.ifCond .eq 7, 3) := by decide +kernel
theorem dX4_canBeDone_75 : decode cX4_canBeDone 75 = .ok (.iconst 1, 1) := by decide +kernel
theorem dX4_canBeDone_76 : decode cX4_canBeDone 76 = .ok (.goto 4, 3) := by decide +kernel
theorem dX4_canBeDone_79 : decode cX4_canBeDone 79 = .ok (.iconst 0, 1) := by decide +kernel
theorem dX4_canBeDone_80 : decode cX4_canBeDone 80 = .ok (.ireturn, 1) := by decide +kernel
theorem dX4_canBeDone_81 : decode cX4_canBeDone 81 = .ok (.aload_n 0, 1) := by decide +kernel
theorem dX4_canBeDone_82 : decode cX4_canBeDone 82 = .ok (.iload_n 3, 1) := by decide +kernel
theorem dX4_canBeDone_83 : decode cX4_canBeDone 83 = .ok (.invokevirtual 115, 3) := by decide +kernel
theorem dX4_canBeDone_86 : decode cX4_canBeDone 86 = .ok (.ifCond .eq 23, 3) := by decide +kernel
theorem dX4_canBeDone_89 : decode cX4_canBeDone 89 = .ok (.aload_n 0, 1) := by decide +kernel
theorem dX4_canBeDone_90 : decode cX4_canBeDone 90 = .ok (.iload_n 3, 1) := by decide +kernel
theorem dX4_canBeDone_91 : decode cX4_canBeDone 91 = .ok (.bipush 10, 2) := by decide +kernel
theorem dX4_canBeDone_93 : decode cX4_canBeDone 93 = .ok (.iload 4, 2) := by decide +kernel
theorem dX4_canBeDone_95 : decode cX4_canBeDone 95 = .ok (.imul, 1) := by decide +kernel
theorem dX4_canBeDone_96 : decode cX4_canBeDone 96 = .ok (.iload 5, 2) := by decide +kernel
theorem dX4_canBeDone_98 : decode cX4_canBeDone 98 = .ok (.iadd, 1) := by decide +kernel
theorem dX4_canBeDone_99 : decode cX4_canBeDone 99 = .ok (.invokevirtual 271, 3) := by decide +kernel
theorem dX4_canBeDone_102 : decode cX4_canBeDone 102 = .ok (.ifCond .eq 7, 3) := by decide +kernel
theorem dX4_canBeDone_105 : decode cX4_canBeDone 105 = .ok (.iconst 1, 1) := by decide +kernel
theorem dX4_canBeDone_106 : decode cX4_canBeDone 106 = .ok (.goto 4, 3) := by decide +kernel
theorem dX4_canBeDone_109 : decode cX4_canBeDone 109 = .ok (.iconst 0, 1) := by decide +kernel
theorem dX4_canBeDone_110 : decode cX4_canBeDone 110 = .ok (.ireturn, 1) := by decide +kernel
theorem dX4_canBeDone_111 : decode cX4_canBeDone 111 = .ok (.iload_n 3, 1) := by decide +kernel
theorem dX4_canBeDone_112 : decode cX4_canBeDone 112 = .ok (.ifCond .ne 30, 3) := by decide +kernel
theorem dX4_canBeDone_115 : decode cX4_canBeDone 115 = .ok (.iload 4, 2) := by decide +kernel
theorem dX4_canBeDone_117 : decode cX4_canBeDone 117 = .ok (.ifCond .ne 25, 3) := by decide +kernel
theorem dX4_canBeDone_120 : decode cX4_canBeDone 120 = .ok (.aload_n 0, 1) := by decide +kernel
theorem dX4_canBeDone_121 : decode cX4_canBeDone 121 = .ok (.iload 5, 2) := by decide +kernel
theorem dX4_canBeDone_123 : decode cX4_canBeDone 123 = .ok (.invokevirtual 115, 3) := by decide +kernel
theorem dX4_canBeDone_126 : decode cX4_canBeDone 126 = .ok (.ifCond .eq 16, 3) := by decide +kernel
theorem dX4_canBeDone_129 : decode cX4_canBeDone 129 = .ok (.aload_n 0, 1) := by decide +kernel
theorem dX4_canBeDone_130 : decode cX4_canBeDone 130 = .ok (.iload 5, 2) := by decide +kernel
theorem dX4_canBeDone_132 : decode cX4_canBeDone 132 = .ok (.invokevirtual 274, 3) := by decide +kernel
theorem dX4_canBeDone_135 : decode cX4_canBeDone 135 = .ok (.ifCond .eq 7, 3) := by decide +kernel
theorem dX4_canBeDone_138 : decode cX4_canBeDone 138 = .ok (.iconst 1, 1) := by decide +kernel
theorem dX4_canBeDone_139 : decode cX4_canBeDone 139 = .ok (.goto 4, 3) := by decide +kernel
theorem dX4_canBeDone_142 : decode cX4_canBeDone 142 = .ok (.iconst 0, 1) := by decide +kernel
theorem dX4_canBeDone_143 : decode cX4_canBeDone 143 = .ok (.ireturn, 1) := by decide +kernel
theorem dX4_canBeDone_144 : decode cX4_canBeDone 144 = .ok (.iload_n 3, 1) := by decide +kernel
theorem dX4_canBeDone_145 : decode cX4_canBeDone 145 = .ok (.ifCond .ne 30, 3) := by decide +kernel
theorem dX4_canBeDone_148 : decode cX4_canBeDone 148 = .ok (.iload 4, 2) := by decide +kernel
theorem dX4_canBeDone_150 : decode cX4_canBeDone 150 = .ok (.ifCond .ne 25, 3) := by decide +kernel
theorem dX4_canBeDone_153 : decode cX4_canBeDone 153 = .ok (.aload_n 0, 1) := by decide +kernel
theorem dX4_canBeDone_154 : decode cX4_canBeDone 154 = .ok (.iload 5, 2) := by decide +kernel
theorem dX4_canBeDone_156 : decode cX4_canBeDone 156 = .ok (.invokevirtual 115, 3) := by decide +kernel
theorem dX4_canBeDone_159 : decode cX4_canBeDone 159 = .ok (.ifCond .eq 16, 3) := by decide +kernel
theorem dX4_canBeDone_162 : decode cX4_canBeDone 162 = .ok (.aload_n 0, 1) := by decide +kernel
theorem dX4_canBeDone_163 : decode cX4_canBeDone 163 = .ok (.iload 5, 2) := by decide +kernel
theorem dX4_canBeDone_165 : decode cX4_canBeDone 165 = .ok (.invokevirtual 277, 3) := by decide +kernel
theorem dX4_canBeDone_168 : decode cX4_canBeDone 168 = .ok (.ifCond .eq 7, 3) := by decide +kernel
theorem dX4_canBeDone_171 : decode cX4_canBeDone 171 = .ok (.iconst 1, 1) := by decide +kernel
theorem dX4_canBeDone_172 : decode cX4_canBeDone 172 = .ok (.goto 4, 3) := by decide +kernel
theorem dX4_canBeDone_175 : decode cX4_canBeDone 175 = .ok (.iconst 0, 1) := by decide +kernel
theorem dX4_canBeDone_176 : decode cX4_canBeDone 176 = .ok (.ireturn, 1) := by decide +kernel
theorem dX4_canBeDone_177 : decode cX4_canBeDone 177 = .ok (.aload_n 0, 1) := by decide +kernel
theorem dX4_canBeDone_178 : decode cX4_canBeDone 178 = .ok (.iload_n 3, 1) := by decide +kernel
theorem dX4_canBeDone_179 : decode cX4_canBeDone 179 = .ok (.invokevirtual 115, 3) := by decide +kernel
theorem dX4_canBeDone_182 : decode cX4_canBeDone 182 = .ok (.ifCond .eq 30, 3) := by decide +kernel
theorem dX4_canBeDone_185 : decode cX4_canBeDone 185 = .ok (.iload 4, 2) := by decide +kernel
theorem dX4_canBeDone_187 : decode cX4_canBeDone 187 = .ok (.invokestatic 134, 3) := by decide +kernel
theorem dX4_canBeDone_190 : decode cX4_canBeDone 190 = .ok (.ifCond .eq 22, 3) := by decide +kernel
theorem dX4_canBeDone_193 : decode cX4_canBeDone 193 = .ok (.aload_n 0, 1) := by decide +kernel
theorem dX4_canBeDone_194 : decode cX4_canBeDone 194 = .ok (.getfield 30, 3) := by decide +kernel
theorem dX4_canBeDone_197 : decode cX4_canBeDone 197 = .ok (.iload_n 3, 1) := by decide +kernel
theorem dX4_canBeDone_198 : decode cX4_canBeDone 198 = .ok (.iload 4, 2) := by decide +kernel
theorem dX4_canBeDone_200 : decode cX4_canBeDone 200 = .ok (.invokevirtual 137, 3) := by decide +kernel
theorem dX4_canBeDone_203 : decode cX4_canBeDone 203 = .ok (.iload 5, 2) := by decide +kernel
theorem dX4_canBeDone_205 : decode cX4_canBeDone 205 = .ok (.if_icmp .lt 7, 3) := by decide +kernel
theorem dX4_canBeDone_208 : decode cX4_canBeDone 208 = .ok (.iconst 1, 1) := by decide +kernel
theorem dX4_canBeDone_209 : decode cX4_canBeDone 209 = .ok (.goto 4, 3) := by decide +kernel
theorem dX4_canBeDone_212 : decode cX4_canBeDone 212 = .ok (.iconst 0, 1) := by decide +kernel
theorem dX4_canBeDone_213 : decode cX4_canBeDone 213 = .ok (.ireturn, 1) := by decide +kernel
theorem dX4_canBeDone_214 : decode cX4_canBeDone 214 = .ok (.iconst 0, 1) := by decide +kernel
theorem dX4_canBeDone_215 : decode cX4_canBeDone 215 = .ok (.ireturn, 1) := by decide +kernel
theorem dX4_canPass_0 : decode cX4_canPass 0 = .ok (.aload_n 0, 1) := by decide +kernel
theorem dX4_canPass_1 : decode cX4_canPass 1 = .ok (.getfield 30, 3) := by decide +kernel
theorem dX4_canPass_4 : decode cX4_canPass 4 = .ok (.aload_n 0, 1) := by decide +kernel
theorem dX4_canPass_5 : decode cX4_canPass 5 = .ok (.getfield 16, 3) := by decide +kernel
theorem dX4_canPass_8 : decode cX4_canPass 8 = .ok (.iconst 1, 1) := by decide +kernel
theorem dX4_canPass_9 : decode cX4_canPass 9 = .ok (.bipush 63, 2) := by decide +kernel
theorem dX4_canPass_11 : decode cX4_canPass 11 = .ok (.invokevirtual 144, 3) := by decide +kernel
theorem dX4_canPass_14 : decode cX4_canPass 14 = .ok (.iconst 1, 1) := by decide +kernel
theorem dX4_canPass_15 : decode cX4_canPass 15 = .ok (.ireturn, 1) := by decide +kernel
theorem dX4_canSet_0 : decode cX4_canSet 0 = .ok (.iload_n 2, 1) := by decide +kernel
theorem dX4_canSet_1 : decode cX4_canSet 1 = .ok (.invokestatic 151, 3) := by decide +kernel
theorem dX4_canSet_4 : decode cX4_canSet 4 = .ok (.ifCond .eq 18, 3) := by decide +kernel
theorem dX4_canSet_7 : decode cX4_canSet 7 = .ok (.aload_n 0, 1) := by decide +kernel
theorem dX4_canSet_8 : decode cX4_canSet 8 = .ok (.getfield 30, 3) := by decide +kernel
theorem dX4_canSet_11 : decode cX4_canSet 11 = .ok (.getfield 118, 3) := by decide +kernel
theorem dX4_canSet_14 : decode cX4_canSet 14 = .ok (.iload_n 1, 1) := by decide +kernel
theorem dX4_canSet_15 : decode cX4_canSet 15 = .ok (.invokestatic 101, 3) := by decide +kernel
theorem dX4_canSet_18 : decode cX4_canSet 18 = .ok (.iload_n 2, 1) := by decide +kernel
theorem dX4_canSet_19 : decode cX4_canSet 19 = .ok (.if_icmp .ne 5, 3) := by decide +kernel
theorem dX4_canSet_22 : decode cX4_canSet 22 = .ok (.iconst 0, 1) := by decide +kernel
theorem dX4_canSet_23 : decode cX4_canSet 23 = .ok (.ireturn, 1) := by decide +kernel
theorem dX4_canSet_24 : decode cX4_canSet 24 = .ok (.aload_n 0, 1) := by decide +kernel
theorem dX4_canSet_25 : decode cX4_canSet 25 = .ok (.getfield 30, 3) := by decide +kernel
theorem dX4_canSet_28 : decode cX4_canSet 28 = .ok (.getfield 118, 3) := by decide +kernel
theorem dX4_canSet_31 : decode cX4_canSet 31 = .ok (.iload_n 1, 1) := by decide +kernel
theorem dX4_canSet_32 : decode cX4_canSet 32 = .ok (.iload_n 2, 1) := by decide +kernel
theorem dX4_canSet_33 : decode cX4_canSet 33 = .ok (.invokestatic 67, 3) := by decide +kernel
theorem dX4_canSet_36 : decode cX4_canSet 36 = .ok (.iconst 1, 1) := by decide +kernel
theorem dX4_canSet_37 : decode cX4_canSet 37 = .ok (.ireturn, 1) := by decide +kernel
theorem dX4_canMoor_0 : decode cX4_canMoor 0 = .ok (.aload_n 0, 1) := by decide +kernel
theorem dX4_canMoor_1 : decode cX4_canMoor 1 = .ok (.getfield 30, 3) := by decide +kernel
theorem dX4_canMoor_4 : decode cX4_canMoor 4 = .ok (.iload_n 1, 1) := by decide +kernel
theorem dX4_canMoor_5 : decode cX4_canMoor 5 = .ok (.invokevirtual 154, 3) := by decide +kernel
theorem dX4_canMoor_8 : decode cX4_canMoor 8 = .ok (.iconst 1, 1) := by decide +kernel
theorem dX4_canMoor_9 : decode cX4_canMoor 9 = .ok (.ireturn, 1) := by decide +kernel
theorem dX4_canPutBack_0 : decode cX4_canPutBack 0 = .ok (.aload_n 0, 1) := by decide +kernel
theorem dX4_canPutBack_1 : decode cX4_canPutBack 1 = .ok (.getfield 30, 3) := by decide +kernel
theorem dX4_canPutBack_4 : decode cX4_canPutBack 4 = .ok (.iload_n 1, 1) := by decide +kernel
theorem dX4_canPutBack_5 : decode cX4_canPutBack 5 = .ok (.invokevirtual 127, 3) := by decide +kernel
theorem dX4_canPutBack_8 : decode cX4_canPutBack 8 = .ok (.ifCond .ne 5, 3) := by decide +kernel
theorem dX4_canPutBack_11 : decode cX4_canPutBack 11 = .ok (.iconst 0, 1) := by decide +kernel
theorem dX4_canPutBack_12 : decode cX4_canPutBack 12 = .ok (.ireturn, 1) := by decide +kernel
theorem dX4_canPutBack_13 : decode cX4_canPutBack 13 = .ok (.aload_n 0, 1) := by decide +kernel
theorem dX4_canPutBack_14 : decode cX4_canPutBack 14 = .ok (.getfield 30, 3) := by decide +kernel
theorem dX4_canPutBack_17 : decode cX4_canPutBack 17 = .ok (.iload_n 1, 1) := by decide +kernel
theorem dX4_canPutBack_18 : decode cX4_canPutBack 18 = .ok (.invokevirtual 158, 3) := by decide +kernel
theorem dX4_canPutBack_21 : decode cX4_canPutBack 21 = .ok (.iconst 1, 1) := by decide +kernel
theorem dX4_canPutBack_22 : decode cX4_canPutBack 22 = .ok (.ireturn, 1) := by decide +kernel
theorem dX4_mayHaveBegun_0 : decode cX4_mayHaveBegun 0 = .ok (.aload_n 0, 1) := by decide +kernel
theorem dX4_mayHaveBegun_1 : decode cX4_mayHaveBegun 1 = .ok (.getfield 30, 3) := by decide +kernel
theorem dX4_mayHaveBegun_4 : decode cX4_mayHaveBegun 4 = .ok (.iload_n 1, 1) := by decide +kernel
theorem dX4_mayHaveBegun_5 : decode cX4_mayHaveBegun 5 = .ok (.invokevirtual 280, 3) := by decide +kernel
theorem dX4_mayHaveBegun_8 : decode cX4_mayHaveBegun 8 = .ok (.iconst 0, 1) := by decide +kernel
theorem dX4_mayHaveBegun_9 : decode cX4_mayHaveBegun 9 = .ok (.istore_n 2, 1) := by decide +kernel
theorem dX4_mayHaveBegun_10 : decode cX4_mayHaveBegun 10 = .ok (.iload_n 2, 1) := by decide +kernel
theorem dX4_mayHaveBegun_11 : decode cX4_mayHaveBegun 11 = .ok (.bipush 9, 2) := by decide +kernel
theorem dX4_mayHaveBegun_13 : decode cX4_mayHaveBegun 13 = .ok (.if_icmp .gt 37, 3) := by decide +kernel
theorem dX4_mayHaveBegun_16 : decode cX4_mayHaveBegun 16 = .ok (.aload_n 0, 1) := by decide +kernel
theorem dX4_mayHaveBegun_17 : decode cX4_mayHaveBegun 17 = .ok (.getfield 50, 3) := by decide +kernel
theorem dX4_mayHaveBegun_20 : decode cX4_mayHaveBegun 20 = .ok (.iload_n 2, 1) := by decide +kernel
theorem dX4_mayHaveBegun_21 : decode cX4_mayHaveBegun 21 = .ok (.aload_n 0, 1) := by decide +kernel
theorem dX4_mayHaveBegun_22 : decode cX4_mayHaveBegun 22 = .ok (.getfield 30, 3) := by decide +kernel
theorem dX4_mayHaveBegun_25 : decode cX4_mayHaveBegun 25 = .ok (.invokevirtual 283, 3) := by decide +kernel
theorem dX4_mayHaveBegun_28 : decode cX4_mayHaveBegun 28 = .ok (.ifCond .ne 5, 3) := by decide +kernel
theorem dX4_mayHaveBegun_31 : decode cX4_mayHaveBegun 31 = .ok (.iconst 0, 1) := by decide +kernel
theorem dX4_mayHaveBegun_32 : decode cX4_mayHaveBegun 32 = .ok (.ireturn, 1) := by decide +kernel
theorem dX4_mayHaveBegun_33 : decode cX4_mayHaveBegun 33 = .ok (.aload_n 0, 1) := by decide +kernel
theorem dX4_mayHaveBegun_34 : decode cX4_mayHaveBegun 34 = .ok (.getfield 30, 3) := by decide +kernel
theorem dX4_mayHaveBegun_37 : decode cX4_mayHaveBegun 37 = .ok (.aload_n 0, 1) := by decide +kernel
theorem dX4_mayHaveBegun_38 : decode cX4_mayHaveBegun 38 = .ok (.getfield 16, 3) := by decide +kernel
theorem dX4_mayHaveBegun_41 : decode cX4_mayHaveBegun 41 = .ok (.invokevirtual 287, 3) := by decide +kernel
theorem dX4_mayHaveBegun_44 : decode cX4_mayHaveBegun 44 = .ok (.iinc 2 1, 3) := by decide +kernel
theorem dX4_mayHaveBegun_47 : decode cX4_mayHaveBegun 47 = .ok (.goto (-37), 3) := by decide +kernel
theorem dX4_mayHaveBegun_50 : decode cX4_mayHaveBegun 50 = .ok (.iconst 1, 1) := by decide +kernel
theorem dX4_mayHaveBegun_51 : decode cX4_mayHaveBegun 51 = .ok (.ireturn, 1) := by decide +kernel
theorem dX4_weightWith_0 : decode cX4_weightWith 0 = .ok (.aload_n 0, 1) := by decide +kernel
theorem dX4_weightWith_1 : decode cX4_weightWith 1 = .ok (.getfield 30, 3) := by decide +kernel
theorem dX4_weightWith_4 : decode cX4_weightWith 4 = .ok (.aload_n 0, 1) := by decide +kernel
theorem dX4_weightWith_5 : decode cX4_weightWith 5 = .ok (.getfield 26, 3) := by decide +kernel
theorem dX4_weightWith_8 : decode cX4_weightWith 8 = .ok (.invokevirtual 170, 3) := by decide +kernel
theorem dX4_weightWith_11 : decode cX4_weightWith 11 = .ok (.iconst 0, 1) := by decide +kernel
theorem dX4_weightWith_12 : decode cX4_weightWith 12 = .ok (.istore_n 3, 1) := by decide +kernel
theorem dX4_weightWith_13 : decode cX4_weightWith 13 = .ok (.iload_n 3, 1) := by decide +kernel
theorem dX4_weightWith_14 : decode cX4_weightWith 14 = .ok (.bipush 6, 2) := by decide +kernel
theorem dX4_weightWith_16 : decode cX4_weightWith 16 = .ok (.if_icmp .ge 22, 3) := by decide +kernel
theorem dX4_weightWith_19 : decode cX4_weightWith 19 = .ok (.aload_n 0, 1) := by decide +kernel
theorem dX4_weightWith_20 : decode cX4_weightWith 20 = .ok (.getfield 30, 3) := by decide +kernel
theorem dX4_weightWith_23 : decode cX4_weightWith 23 = .ok (.aload_n 0, 1) := by decide +kernel
theorem dX4_weightWith_24 : decode cX4_weightWith 24 = .ok (.getfield 16, 3) := by decide +kernel
theorem dX4_weightWith_27 : decode cX4_weightWith 27 = .ok (.iconst 1, 1) := by decide +kernel
theorem dX4_weightWith_28 : decode cX4_weightWith 28 = .ok (.iload_n 2, 1) := by decide +kernel
theorem dX4_weightWith_29 : decode cX4_weightWith 29 = .ok (.invokevirtual 144, 3) := by decide +kernel
theorem dX4_weightWith_32 : decode cX4_weightWith 32 = .ok (.iinc 3 1, 3) := by decide +kernel
theorem dX4_weightWith_35 : decode cX4_weightWith 35 = .ok (.goto (-22), 3) := by decide +kernel
theorem dX4_weightWith_38 : decode cX4_weightWith 38 = .ok (.aload_n 0, 1) := by decide +kernel
theorem dX4_weightWith_39 : decode cX4_weightWith 39 = .ok (.getfield 30, 3) := by decide +kernel
theorem dX4_weightWith_42 : decode cX4_weightWith 42 = .ok (.iload_n 1, 1) := by decide +kernel
theorem dX4_weightWith_43 : decode cX4_weightWith 43 = .ok (.invokevirtual 127, 3) := by decide +kernel
theorem dX4_weightWith_46 : decode cX4_weightWith 46 = .ok (.ireturn, 1) := by decide +kernel
theorem dX4_weighPairs_0 : decode cX4_weighPairs 0 = .ok (.iconst 0, 1) := by decide +kernel
theorem dX4_weighPairs_1 : decode cX4_weighPairs 1 = .ok (.istore_n 3, 1) := by decide +kernel
theorem dX4_weighPairs_2 : decode cX4_weighPairs 2 = .ok (.iload_n 3, 1) := by decide +kernel
theorem dX4_weighPairs_3 : decode cX4_weighPairs 3 = .ok (.aload_n 0, 1) := by decide +kernel
theorem dX4_weighPairs_4 : decode cX4_weighPairs 4 = .ok (.getfield 16, 3) := by decide +kernel
theorem dX4_weighPairs_7 : decode cX4_weighPairs 7 = .ok (.getfield 88, 3) := by decide +kernel
theorem dX4_weighPairs_10 : decode cX4_weighPairs 10 = .ok (.if_icmp .ge 134, 3) := by decide +kernel
theorem dX4_weighPairs_13 : decode cX4_weighPairs 13 = .ok (.iconst 0, 1) := by decide +kernel
theorem dX4_weighPairs_14 : decode cX4_weighPairs 14 = .ok (.istore 4, 2) := by decide +kernel
theorem dX4_weighPairs_16 : decode cX4_weighPairs 16 = .ok (.iload 4, 2) := by decide +kernel
theorem dX4_weighPairs_18 : decode cX4_weighPairs 18 = .ok (.aload_n 0, 1) := by decide +kernel
theorem dX4_weighPairs_19 : decode cX4_weighPairs 19 = .ok (.getfield 16, 3) := by decide +kernel
theorem dX4_weighPairs_22 : decode cX4_weighPairs 22 = .ok (.getfield 88, 3) := by decide +kernel
theorem dX4_weighPairs_25 : decode cX4_weighPairs 25 = .ok (.if_icmp .ge 113, 3) := by decide +kernel
theorem dX4_weighPairs_28 : decode cX4_weighPairs 28 = .ok (.aload_n 0, 1) := by decide +kernel
theorem dX4_weighPairs_29 : decode cX4_weighPairs 29 = .ok (.getfield 30, 3) := by decide +kernel
theorem dX4_weighPairs_32 : decode cX4_weighPairs 32 = .ok (.aload_n 0, 1) := by decide +kernel
theorem dX4_weighPairs_33 : decode cX4_weighPairs 33 = .ok (.getfield 26, 3) := by decide +kernel
theorem dX4_weighPairs_36 : decode cX4_weighPairs 36 = .ok (.invokevirtual 170, 3) := by decide +kernel
theorem dX4_weighPairs_39 : decode cX4_weighPairs 39 = .ok (.aload_n 0, 1) := by decide +kernel
theorem dX4_weighPairs_40 : decode cX4_weighPairs 40 = .ok (.getfield 30, 3) := by decide +kernel
theorem dX4_weighPairs_43 : decode cX4_weighPairs 43 = .ok (.iload_n 1, 1) := by decide +kernel
theorem dX4_weighPairs_44 : decode cX4_weighPairs 44 = .ok (.aload_n 0, 1) := by decide +kernel
theorem dX4_weighPairs_45 : decode cX4_weighPairs 45 = .ok (.getfield 16, 3) := by decide +kernel
theorem dX4_weighPairs_48 : decode cX4_weighPairs 48 = .ok (.getfield 98, 3) := by decide +kernel
theorem dX4_weighPairs_51 : decode cX4_weighPairs 51 = .ok (.iload_n 3, 1) := by decide +kernel
theorem dX4_weighPairs_52 : decode cX4_weighPairs 52 = .ok (.invokestatic 101, 3) := by decide +kernel
theorem dX4_weighPairs_55 : decode cX4_weighPairs 55 = .ok (.invokevirtual 290, 3) := by decide +kernel
theorem dX4_weighPairs_58 : decode cX4_weighPairs 58 = .ok (.aload_n 0, 1) := by decide +kernel
theorem dX4_weighPairs_59 : decode cX4_weighPairs 59 = .ok (.getfield 30, 3) := by decide +kernel
theorem dX4_weighPairs_62 : decode cX4_weighPairs 62 = .ok (.iload_n 2, 1) := by decide +kernel
theorem dX4_weighPairs_63 : decode cX4_weighPairs 63 = .ok (.aload_n 0, 1) := by decide +kernel
theorem dX4_weighPairs_64 : decode cX4_weighPairs 64 = .ok (.getfield 16, 3) := by decide +kernel
theorem dX4_weighPairs_67 : decode cX4_weighPairs 67 = .ok (.getfield 98, 3) := by decide +kernel
theorem dX4_weighPairs_70 : decode cX4_weighPairs 70 = .ok (.iload 4, 2) := by decide +kernel
theorem dX4_weighPairs_72 : decode cX4_weighPairs 72 = .ok (.invokestatic 101, 3) := by decide +kernel
theorem dX4_weighPairs_75 : decode cX4_weighPairs 75 = .ok (.invokevirtual 290, 3) := by decide +kernel
theorem dX4_weighPairs_78 : decode cX4_weighPairs 78 = .ok (.aload_n 0, 1) := by decide +kernel
theorem dX4_weighPairs_79 : decode cX4_weighPairs 79 = .ok (.getfield 30, 3) := by decide +kernel
theorem dX4_weighPairs_82 : decode cX4_weighPairs 82 = .ok (.aload_n 0, 1) := by decide +kernel
theorem dX4_weighPairs_83 : decode cX4_weighPairs 83 = .ok (.getfield 16, 3) := by decide +kernel
theorem dX4_weighPairs_86 : decode cX4_weighPairs 86 = .ok (.iconst 5, 1) := by decide +kernel
theorem dX4_weighPairs_87 : decode cX4_weighPairs 87 = .ok (.invokevirtual 173, 3) := by decide +kernel
theorem dX4_weighPairs_90 : decode cX4_weighPairs 90 = .ok (.aload_n 0, 1) := by decide +kernel
theorem dX4_weighPairs_91 : decode cX4_weighPairs 91 = .ok (.getfield 57, 3) := by decide +kernel
theorem dX4_weighPairs_94 : decode cX4_weighPairs 94 = .ok (.iload_n 3, 1) := by decide +kernel
theorem dX4_weighPairs_95 : decode cX4_weighPairs 95 = .ok (.iload 4, 2) := by decide +kernel
theorem dX4_weighPairs_97 : decode cX4_weighPairs 97 = .ok (.invokestatic 293, 3) := by decide +kernel
theorem dX4_weighPairs_100 : decode cX4_weighPairs 100 = .ok (.aload_n 0, 1) := by decide +kernel
theorem dX4_weighPairs_101 : decode cX4_weighPairs 101 = .ok (.getfield 30, 3) := by decide +kernel
theorem dX4_weighPairs_104 : decode cX4_weighPairs 104 = .ok (.iload_n 1, 1) := by decide +kernel
theorem dX4_weighPairs_105 : decode cX4_weighPairs 105 = .ok (.invokevirtual 127, 3) := by decide +kernel
theorem dX4_weighPairs_108 : decode cX4_weighPairs 108 = .ok (.invokestatic 67, 3) := by decide +kernel
theorem dX4_weighPairs_111 : decode cX4_weighPairs 111 = .ok (.aload_n 0, 1) := by decide +kernel
theorem dX4_weighPairs_112 : decode cX4_weighPairs 112 = .ok (.getfield 60, 3) := by decide +kernel
theorem dX4_weighPairs_115 : decode cX4_weighPairs 115 = .ok (.iload_n 3, 1) := by decide +kernel
theorem dX4_weighPairs_116 : decode cX4_weighPairs 116 = .ok (.iload 4, 2) := by decide +kernel
theorem dX4_weighPairs_118 : decode cX4_weighPairs 118 = .ok (.invokestatic 293, 3) := by decide +kernel
theorem dX4_weighPairs_121 : decode cX4_weighPairs 121 = .ok (.aload_n 0, 1) := by decide +kernel
theorem dX4_weighPairs_122 : decode cX4_weighPairs 122 = .ok (.getfield 30, 3) := by decide +kernel
theorem dX4_weighPairs_125 : decode cX4_weighPairs 125 = .ok (.iload_n 2, 1) := by decide +kernel
theorem dX4_weighPairs_126 : decode cX4_weighPairs 126 = .ok (.invokevirtual 127, 3) := by decide +kernel
theorem dX4_weighPairs_129 : decode cX4_weighPairs 129 = .ok (.invokestatic 67, 3) := by decide +kernel
theorem dX4_weighPairs_132 : decode cX4_weighPairs 132 = .ok (.iinc 4 1, 3) := by decide +kernel
theorem dX4_weighPairs_135 : decode cX4_weighPairs 135 = .ok (.goto (-119), 3) := by decide +kernel
theorem dX4_weighPairs_138 : decode cX4_weighPairs 138 = .ok (.iinc 3 1, 3) := by decide +kernel
theorem dX4_weighPairs_141 : decode cX4_weighPairs 141 = .ok (.goto (-139), 3) := by decide +kernel
theorem dX4_weighPairs_144 : decode cX4_weighPairs 144 = .ok (.return_, 1) := by decide +kernel
theorem dX4_pair_0 : decode cX4_pair 0 = .ok (.iload_n 0, 1) := by decide +kernel
theorem dX4_pair_1 : decode cX4_pair 1 = .ok (.bipush 6, 2) := by decide +kernel
theorem dX4_pair_3 : decode cX4_pair 3 = .ok (.imul, 1) := by decide +kernel
theorem dX4_pair_4 : decode cX4_pair 4 = .ok (.iload_n 1, 1) := by decide +kernel
theorem dX4_pair_5 : decode cX4_pair 5 = .ok (.iadd, 1) := by decide +kernel
theorem dX4_pair_6 : decode cX4_pair 6 = .ok (.ireturn, 1) := by decide +kernel
theorem dX4_isRest_0 : decode cX4_isRest 0 = .ok (.aload_n 0, 1) := by decide +kernel
theorem dX4_isRest_1 : decode cX4_isRest 1 = .ok (.getfield 57, 3) := by decide +kernel
theorem dX4_isRest_4 : decode cX4_isRest 4 = .ok (.iload_n 1, 1) := by decide +kernel
theorem dX4_isRest_5 : decode cX4_isRest 5 = .ok (.iload_n 2, 1) := by decide +kernel
theorem dX4_isRest_6 : decode cX4_isRest 6 = .ok (.invokestatic 293, 3) := by decide +kernel
theorem dX4_isRest_9 : decode cX4_isRest 9 = .ok (.invokestatic 101, 3) := by decide +kernel
theorem dX4_isRest_12 : decode cX4_isRest 12 = .ok (.istore_n 3, 1) := by decide +kernel
theorem dX4_isRest_13 : decode cX4_isRest 13 = .ok (.aload_n 0, 1) := by decide +kernel
theorem dX4_isRest_14 : decode cX4_isRest 14 = .ok (.getfield 60, 3) := by decide +kernel
theorem dX4_isRest_17 : decode cX4_isRest 17 = .ok (.iload_n 1, 1) := by decide +kernel
theorem dX4_isRest_18 : decode cX4_isRest 18 = .ok (.iload_n 2, 1) := by decide +kernel
theorem dX4_isRest_19 : decode cX4_isRest 19 = .ok (.invokestatic 293, 3) := by decide +kernel
theorem dX4_isRest_22 : decode cX4_isRest 22 = .ok (.invokestatic 101, 3) := by decide +kernel
theorem dX4_isRest_25 : decode cX4_isRest 25 = .ok (.istore 4, 2) := by decide +kernel
theorem dX4_isRest_27 : decode cX4_isRest 27 = .ok (.iconst 0, 1) := by decide +kernel
theorem dX4_isRest_28 : decode cX4_isRest 28 = .ok (.istore 5, 2) := by decide +kernel
theorem dX4_isRest_30 : decode cX4_isRest 30 = .ok (.iload 5, 2) := by decide +kernel
theorem dX4_isRest_32 : decode cX4_isRest 32 = .ok (.aload_n 0, 1) := by decide +kernel
theorem dX4_isRest_33 : decode cX4_isRest 33 = .ok (.getfield 16, 3) := by decide +kernel
theorem dX4_isRest_36 : decode cX4_isRest 36 = .ok (.getfield 88, 3) := by decide +kernel
theorem dX4_isRest_39 : decode cX4_isRest 39 = .ok (.if_icmp .ge 46, 3) := by decide +kernel
theorem dX4_isRest_42 : decode cX4_isRest 42 = .ok (.aload_n 0, 1) := by decide +kernel
theorem dX4_isRest_43 : decode cX4_isRest 43 = .ok (.getfield 57, 3) := by decide +kernel
theorem dX4_isRest_46 : decode cX4_isRest 46 = .ok (.iload 5, 2) := by decide +kernel
theorem dX4_isRest_48 : decode cX4_isRest 48 = .ok (.iload_n 2, 1) := by decide +kernel
theorem dX4_isRest_49 : decode cX4_isRest 49 = .ok (.invokestatic 293, 3) := by decide +kernel
theorem dX4_isRest_52 : decode cX4_isRest 52 = .ok (.invokestatic 101, 3) := by decide +kernel
theorem dX4_isRest_55 : decode cX4_isRest 55 = .ok (.iload_n 3, 1) := by decide +kernel
theorem dX4_isRest_56 : decode cX4_isRest 56 = .ok (.if_icmp .gt 21, 3) := by decide +kernel
theorem dX4_isRest_59 : decode cX4_isRest 59 = .ok (.aload_n 0, 1) := by decide +kernel
theorem dX4_isRest_60 : decode cX4_isRest 60 = .ok (.getfield 60, 3) := by decide +kernel
theorem dX4_isRest_63 : decode cX4_isRest 63 = .ok (.iload_n 1, 1) := by decide +kernel
theorem dX4_isRest_64 : decode cX4_isRest 64 = .ok (.iload 5, 2) := by decide +kernel
theorem dX4_isRest_66 : decode cX4_isRest 66 = .ok (.invokestatic 293, 3) := by decide +kernel
theorem dX4_isRest_69 : decode cX4_isRest 69 = .ok (.invokestatic 101, 3) := by decide +kernel
theorem dX4_isRest_72 : decode cX4_isRest 72 = .ok (.iload 4, 2) := by decide +kernel
theorem dX4_isRest_74 : decode cX4_isRest 74 = .ok (.if_icmp .le 5, 3) := by decide +kernel
theorem dX4_isRest_77 : decode cX4_isRest 77 = .ok (.iconst 0, 1) := by decide +kernel
theorem dX4_isRest_78 : decode cX4_isRest 78 = .ok (.ireturn, 1) := by decide +kernel
theorem dX4_isRest_79 : decode cX4_isRest 79 = .ok (.iinc 5 1, 3) := by decide +kernel
theorem dX4_isRest_82 : decode cX4_isRest 82 = .ok (.goto (-52), 3) := by decide +kernel
theorem dX4_isRest_85 : decode cX4_isRest 85 = .ok (.iconst 1, 1) := by decide +kernel
theorem dX4_isRest_86 : decode cX4_isRest 86 = .ok (.ireturn, 1) := by decide +kernel
theorem dX4_chanceOf_0 : decode cX4_chanceOf 0 = .ok (.iconst 1, 1) := by decide +kernel
theorem dX4_chanceOf_1 : decode cX4_chanceOf 1 = .ok (.istore_n 3, 1) := by decide +kernel
theorem dX4_chanceOf_2 : decode cX4_chanceOf 2 = .ok (.iconst 0, 1) := by decide +kernel
theorem dX4_chanceOf_3 : decode cX4_chanceOf 3 = .ok (.istore 4, 2) := by decide +kernel
theorem dX4_chanceOf_5 : decode cX4_chanceOf 5 = .ok (.iload 4, 2) := by decide +kernel
theorem dX4_chanceOf_7 : decode cX4_chanceOf 7 = .ok (.iload_n 1, 1) := by decide +kernel
theorem dX4_chanceOf_8 : decode cX4_chanceOf 8 = .ok (.if_icmp .ge 30, 3) := by decide +kernel
theorem dX4_chanceOf_11 : decode cX4_chanceOf 11 = .ok (.iload_n 3, 1) := by decide +kernel
theorem dX4_chanceOf_12 : decode cX4_chanceOf 12 = .ok (.iload_n 0, 1) := by decide +kernel
theorem dX4_chanceOf_13 : decode cX4_chanceOf 13 = .ok (.iload 4, 2) := by decide +kernel
theorem dX4_chanceOf_15 : decode cX4_chanceOf 15 = .ok (.ishr, 1) := by decide +kernel
theorem dX4_chanceOf_16 : decode cX4_chanceOf 16 = .ok (.iconst 1, 1) := by decide +kernel
theorem dX4_chanceOf_17 : decode cX4_chanceOf 17 = .ok (.iand, 1) := by decide +kernel
theorem dX4_chanceOf_18 : decode cX4_chanceOf 18 = .ok (.iconst 1, 1) := by decide +kernel
theorem dX4_chanceOf_19 : decode cX4_chanceOf 19 = .ok (.if_icmp .ne 7, 3) := by decide +kernel
theorem dX4_chanceOf_22 : decode cX4_chanceOf 22 = .ok (.iload_n 2, 1) := by decide +kernel
theorem dX4_chanceOf_23 : decode cX4_chanceOf 23 = .ok (.goto 7, 3) := by decide +kernel
theorem dX4_chanceOf_26 : decode cX4_chanceOf 26 = .ok (.bipush 10, 2) := by decide +kernel
theorem dX4_chanceOf_28 : decode cX4_chanceOf 28 = .ok (.iload_n 2, 1) := by decide +kernel
theorem dX4_chanceOf_29 : decode cX4_chanceOf 29 = .ok (.isub, 1) := by decide +kernel
theorem dX4_chanceOf_30 : decode cX4_chanceOf 30 = .ok (.imul, 1) := by decide +kernel
theorem dX4_chanceOf_31 : decode cX4_chanceOf 31 = .ok (.istore_n 3, 1) := by decide +kernel
theorem dX4_chanceOf_32 : decode cX4_chanceOf 32 = .ok (.iinc 4 1, 3) := by decide +kernel
theorem dX4_chanceOf_35 : decode cX4_chanceOf 35 = .ok (.goto (-30), 3) := by decide +kernel
theorem dX4_chanceOf_38 : decode cX4_chanceOf 38 = .ok (.iload_n 3, 1) := by decide +kernel
theorem dX4_chanceOf_39 : decode cX4_chanceOf 39 = .ok (.ireturn, 1) := by decide +kernel
theorem dX4_tryFailingDays_0 : decode cX4_tryFailingDays 0 = .ok (.aload_n 0, 1) := by decide +kernel
theorem dX4_tryFailingDays_1 : decode cX4_tryFailingDays 1 = .ok (.getfield 30, 3) := by decide +kernel
theorem dX4_tryFailingDays_4 : decode cX4_tryFailingDays 4 = .ok (.aload_n 0, 1) := by decide +kernel
theorem dX4_tryFailingDays_5 : decode cX4_tryFailingDays 5 = .ok (.getfield 26, 3) := by decide +kernel
theorem dX4_tryFailingDays_8 : decode cX4_tryFailingDays 8 = .ok (.invokevirtual 170, 3) := by decide +kernel
theorem dX4_tryFailingDays_11 : decode cX4_tryFailingDays 11 = .ok (.iconst 0, 1) := by decide +kernel
theorem dX4_tryFailingDays_12 : decode cX4_tryFailingDays 12 = .ok (.istore_n 3, 1) := by decide +kernel
theorem dX4_tryFailingDays_13 : decode cX4_tryFailingDays 13 = .ok (.iload_n 3, 1) := by decide +kernel
theorem dX4_tryFailingDays_14 : decode cX4_tryFailingDays 14 = .ok (.iload_n 2, 1) := by decide +kernel
theorem dX4_tryFailingDays_15 : decode cX4_tryFailingDays 15 = .ok (.if_icmp .ge 35, 3) := by decide +kernel
theorem dX4_tryFailingDays_18 : decode cX4_tryFailingDays 18 = .ok (.aload_n 0, 1) := by decide +kernel
theorem dX4_tryFailingDays_19 : decode cX4_tryFailingDays 19 = .ok (.getfield 30, 3) := by decide +kernel
theorem dX4_tryFailingDays_22 : decode cX4_tryFailingDays 22 = .ok (.aload_n 0, 1) := by decide +kernel
theorem dX4_tryFailingDays_23 : decode cX4_tryFailingDays 23 = .ok (.getfield 16, 3) := by decide +kernel
theorem dX4_tryFailingDays_26 : decode cX4_tryFailingDays 26 = .ok (.iload_n 1, 1) := by decide +kernel
theorem dX4_tryFailingDays_27 : decode cX4_tryFailingDays 27 = .ok (.iload_n 3, 1) := by decide +kernel
theorem dX4_tryFailingDays_28 : decode cX4_tryFailingDays 28 = .ok (.ishr, 1) := by decide +kernel
theorem dX4_tryFailingDays_29 : decode cX4_tryFailingDays 29 = .ok (.iconst 1, 1) := by decide +kernel
theorem dX4_tryFailingDays_30 : decode cX4_tryFailingDays 30 = .ok (.iand, 1) := by decide +kernel
theorem dX4_tryFailingDays_31 : decode cX4_tryFailingDays 31 = .ok (.ifCond .ne 7, 3) := by decide +kernel
theorem dX4_tryFailingDays_34 : decode cX4_tryFailingDays 34 = .ok (.iconst 1, 1) := by decide +kernel
theorem dX4_tryFailingDays_35 : decode cX4_tryFailingDays 35 = .ok (.goto 4, 3) := by decide +kernel
theorem dX4_tryFailingDays_38 : decode cX4_tryFailingDays 38 = .ok (.iconst 0, 1) := by decide +kernel
theorem dX4_tryFailingDays_39 : decode cX4_tryFailingDays 39 = .ok (.bipush 63, 2) := by decide +kernel
theorem dX4_tryFailingDays_41 : decode cX4_tryFailingDays 41 = .ok (.invokevirtual 144, 3) := by decide +kernel
theorem dX4_tryFailingDays_44 : decode cX4_tryFailingDays 44 = .ok (.iinc 3 1, 3) := by decide +kernel
theorem dX4_tryFailingDays_47 : decode cX4_tryFailingDays 47 = .ok (.goto (-34), 3) := by decide +kernel
theorem dX4_tryFailingDays_50 : decode cX4_tryFailingDays 50 = .ok (.return_, 1) := by decide +kernel
theorem dX4_tryChance_0 : decode cX4_tryChance 0 = .ok (.iload_n 1, 1) := by decide +kernel
theorem dX4_tryChance_1 : decode cX4_tryChance 1 = .ok (.bipush 17, 2) := by decide +kernel
theorem dX4_tryChance_3 : decode cX4_tryChance 3 = .ok (.if_icmp .lt 20, 3) := by decide +kernel
theorem dX4_tryChance_6 : decode cX4_tryChance 6 = .ok (.aload_n 0, 1) := by decide +kernel
theorem dX4_tryChance_7 : decode cX4_tryChance 7 = .ok (.getfield 30, 3) := by decide +kernel
theorem dX4_tryChance_10 : decode cX4_tryChance 10 = .ok (.aload_n 0, 1) := by decide +kernel
theorem dX4_tryChance_11 : decode cX4_tryChance 11 = .ok (.getfield 16, 3) := by decide +kernel
theorem dX4_tryChance_14 : decode cX4_tryChance 14 = .ok (.iconst 1, 1) := by decide +kernel
theorem dX4_tryChance_15 : decode cX4_tryChance 15 = .ok (.bipush 63, 2) := by decide +kernel
theorem dX4_tryChance_17 : decode cX4_tryChance 17 = .ok (.invokevirtual 144, 3) := by decide +kernel
theorem dX4_tryChance_20 : decode cX4_tryChance 20 = .ok (.goto 60, 3) := by decide +kernel
theorem dX4_tryChance_23 : decode cX4_tryChance 23 = .ok (.iload_n 1, 1) := by decide +kernel
theorem dX4_tryChance_24 : decode cX4_tryChance 24 = .ok (.bipush 12, 2) := by decide +kernel
theorem dX4_tryChance_26 : decode cX4_tryChance 26 = .ok (.if_icmp .lt 28, 3) := by decide +kernel
theorem dX4_tryChance_29 : decode cX4_tryChance 29 = .ok (.aload_n 0, 1) := by decide +kernel
theorem dX4_tryChance_30 : decode cX4_tryChance 30 = .ok (.iload_n 1, 1) := by decide +kernel
theorem dX4_tryChance_31 : decode cX4_tryChance 31 = .ok (.bipush 12, 2) := by decide +kernel
theorem dX4_tryChance_33 : decode cX4_tryChance 33 = .ok (.isub, 1) := by decide +kernel
theorem dX4_tryChance_34 : decode cX4_tryChance 34 = .ok (.invokevirtual 115, 3) := by decide +kernel
theorem dX4_tryChance_37 : decode cX4_tryChance 37 = .ok (.ifCond .eq 17, 3) := by decide +kernel
theorem dX4_tryChance_40 : decode cX4_tryChance 40 = .ok (.aload_n 0, 1) := by decide +kernel
theorem dX4_tryChance_41 : decode cX4_tryChance 41 = .ok (.getfield 30, 3) := by decide +kernel
theorem dX4_tryChance_44 : decode cX4_tryChance 44 = .ok (.iload_n 1, 1) := by decide +kernel
theorem dX4_tryChance_45 : decode cX4_tryChance 45 = .ok (.bipush 12, 2) := by decide +kernel
theorem dX4_tryChance_47 : decode cX4_tryChance 47 = .ok (.isub, 1) := by decide +kernel
theorem dX4_tryChance_48 : decode cX4_tryChance 48 = .ok (.invokevirtual 158, 3) := by decide +kernel
theorem dX4_tryChance_51 : decode cX4_tryChance 51 = .ok (.goto 29, 3) := by decide +kernel
theorem dX4_tryChance_54 : decode cX4_tryChance 54 = .ok (.iload_n 1, 1) := by decide +kernel
theorem dX4_tryChance_55 : decode cX4_tryChance 55 = .ok (.bipush 12, 2) := by decide +kernel
theorem dX4_tryChance_57 : decode cX4_tryChance 57 = .ok (.if_icmp .ge 23, 3) := by decide +kernel
theorem dX4_tryChance_60 : decode cX4_tryChance 60 = .ok (.aload_n 0, 1) := by decide +kernel
theorem dX4_tryChance_61 : decode cX4_tryChance 61 = .ok (.iconst 0, 1) := by decide +kernel
theorem dX4_tryChance_62 : decode cX4_tryChance 62 = .ok (.invokevirtual 115, 3) := by decide +kernel
theorem dX4_tryChance_65 : decode cX4_tryChance 65 = .ok (.ifCond .eq 15, 3) := by decide +kernel
theorem dX4_tryChance_68 : decode cX4_tryChance 68 = .ok (.aload_n 0, 1) := by decide +kernel
theorem dX4_tryChance_69 : decode cX4_tryChance 69 = .ok (.getfield 30, 3) := by decide +kernel
theorem dX4_tryChance_72 : decode cX4_tryChance 72 = .ok (.getfield 118, 3) := by decide +kernel
theorem dX4_tryChance_75 : decode cX4_tryChance 75 = .ok (.iconst 0, 1) := by decide +kernel
theorem dX4_tryChance_76 : decode cX4_tryChance 76 = .ok (.iload_n 1, 1) := by decide +kernel
theorem dX4_tryChance_77 : decode cX4_tryChance 77 = .ok (.invokestatic 67, 3) := by decide +kernel
theorem dX4_tryChance_80 : decode cX4_tryChance 80 = .ok (.return_, 1) := by decide +kernel
theorem dX4_at_0 : decode cX4_at 0 = .ok (.aload_n 0, 1) := by decide +kernel
theorem dX4_at_1 : decode cX4_at 1 = .ok (.ifnull 19, 3) := by decide +kernel
theorem dX4_at_4 : decode cX4_at 4 = .ok (.iload_n 1, 1) := by decide +kernel
theorem dX4_at_5 : decode cX4_at 5 = .ok (.ifCond .lt 15, 3) := by decide +kernel
theorem dX4_at_8 : decode cX4_at 8 = .ok (.iload_n 1, 1) := by decide +kernel
theorem dX4_at_9 : decode cX4_at 9 = .ok (.aload_n 0, 1) := by decide +kernel
theorem dX4_at_10 : decode cX4_at 10 = .ok (.arraylength, 1) := by decide +kernel
theorem dX4_at_11 : decode cX4_at 11 = .ok (.if_icmp .ge 9, 3) := by decide +kernel
theorem dX4_at_14 : decode cX4_at 14 = .ok (.aload_n 0, 1) := by decide +kernel
theorem dX4_at_15 : decode cX4_at 15 = .ok (.iload_n 1, 1) := by decide +kernel
theorem dX4_at_16 : decode cX4_at 16 = .ok (.iaload, 1) := by decide +kernel
theorem dX4_at_17 : decode cX4_at 17 = .ok (.goto 4, 3) := by decide +kernel
theorem dX4_at_20 : decode cX4_at 20 = .ok (.iconst 0, 1) := by decide +kernel
theorem dX4_at_21 : decode cX4_at 21 = .ok (.ireturn, 1) := by decide +kernel
theorem dX4_lay_0 : decode cX4_lay 0 = .ok (.aload_n 0, 1) := by decide +kernel
theorem dX4_lay_1 : decode cX4_lay 1 = .ok (.ifnull 17, 3) := by decide +kernel
theorem dX4_lay_4 : decode cX4_lay 4 = .ok (.iload_n 1, 1) := by decide +kernel
theorem dX4_lay_5 : decode cX4_lay 5 = .ok (.ifCond .lt 13, 3) := by decide +kernel
theorem dX4_lay_8 : decode cX4_lay 8 = .ok (.iload_n 1, 1) := by decide +kernel
theorem dX4_lay_9 : decode cX4_lay 9 = .ok (.aload_n 0, 1) := by decide +kernel
theorem dX4_lay_10 : decode cX4_lay 10 = .ok (.arraylength, 1) := by decide +kernel
theorem dX4_lay_11 : decode cX4_lay 11 = .ok (.if_icmp .ge 7, 3) := by decide +kernel
theorem dX4_lay_14 : decode cX4_lay 14 = .ok (.aload_n 0, 1) := by decide +kernel
theorem dX4_lay_15 : decode cX4_lay 15 = .ok (.iload_n 1, 1) := by decide +kernel
theorem dX4_lay_16 : decode cX4_lay 16 = .ok (.iload_n 2, 1) := by decide +kernel
theorem dX4_lay_17 : decode cX4_lay 17 = .ok (.iastore, 1) := by decide +kernel
theorem dX4_lay_18 : decode cX4_lay 18 = .ok (.return_, 1) := by decide +kernel
theorem dX4_power_0 : decode cX4_power 0 = .ok (.lconst 1, 1) := by decide +kernel
theorem dX4_power_1 : decode cX4_power 1 = .ok (.lstore_n 2, 1) := by decide +kernel
theorem dX4_power_2 : decode cX4_power 2 = .ok (.iconst 0, 1) := by decide +kernel
theorem dX4_power_3 : decode cX4_power 3 = .ok (.istore 4, 2) := by decide +kernel
theorem dX4_power_5 : decode cX4_power 5 = .ok (.iload 4, 2) := by decide +kernel
theorem dX4_power_7 : decode cX4_power 7 = .ok (.iload_n 1, 1) := by decide +kernel
theorem dX4_power_8 : decode cX4_power 8 = .ok (.if_icmp .ge 14, 3) := by decide +kernel
theorem dX4_power_11 : decode cX4_power 11 = .ok (.lload_n 2, 1) := by decide +kernel
theorem dX4_power_12 : decode cX4_power 12 = .ok (.iload_n 0, 1) := by decide +kernel
theorem dX4_power_13 : decode cX4_power 13 = .ok (.i2l, 1) := by decide +kernel
theorem dX4_power_14 : decode cX4_power 14 = .ok (.lmul, 1) := by decide +kernel
theorem dX4_power_15 : decode cX4_power 15 = .ok (.lstore_n 2, 1) := by decide +kernel
theorem dX4_power_16 : decode cX4_power 16 = .ok (.iinc 4 1, 3) := by decide +kernel
theorem dX4_power_19 : decode cX4_power 19 = .ok (.goto (-14), 3) := by decide +kernel
theorem dX4_power_22 : decode cX4_power 22 = .ok (.lload_n 2, 1) := by decide +kernel
theorem dX4_power_23 : decode cX4_power 23 = .ok (.lreturn, 1) := by decide +kernel
theorem dX4_factorial_0 : decode cX4_factorial 0 = .ok (.iconst 1, 1) := by decide +kernel
theorem dX4_factorial_1 : decode cX4_factorial 1 = .ok (.istore_n 1, 1) := by decide +kernel
theorem dX4_factorial_2 : decode cX4_factorial 2 = .ok (.iconst 2, 1) := by decide +kernel
theorem dX4_factorial_3 : decode cX4_factorial 3 = .ok (.istore_n 2, 1) := by decide +kernel
theorem dX4_factorial_4 : decode cX4_factorial 4 = .ok (.iload_n 2, 1) := by decide +kernel
theorem dX4_factorial_5 : decode cX4_factorial 5 = .ok (.iload_n 0, 1) := by decide +kernel
theorem dX4_factorial_6 : decode cX4_factorial 6 = .ok (.if_icmp .gt 13, 3) := by decide +kernel
theorem dX4_factorial_9 : decode cX4_factorial 9 = .ok (.iload_n 1, 1) := by decide +kernel
theorem dX4_factorial_10 : decode cX4_factorial 10 = .ok (.iload_n 2, 1) := by decide +kernel
theorem dX4_factorial_11 : decode cX4_factorial 11 = .ok (.imul, 1) := by decide +kernel
theorem dX4_factorial_12 : decode cX4_factorial 12 = .ok (.istore_n 1, 1) := by decide +kernel
theorem dX4_factorial_13 : decode cX4_factorial 13 = .ok (.iinc 2 1, 3) := by decide +kernel
theorem dX4_factorial_16 : decode cX4_factorial 16 = .ok (.goto (-12), 3) := by decide +kernel
theorem dX4_factorial_19 : decode cX4_factorial 19 = .ok (.iload_n 1, 1) := by decide +kernel
theorem dX4_factorial_20 : decode cX4_factorial 20 = .ok (.ireturn, 1) := by decide +kernel
theorem dX4_inLeastTerms_0 : decode cX4_inLeastTerms 0 = .ok (.iload_n 0, 1) := by decide +kernel
theorem dX4_inLeastTerms_1 : decode cX4_inLeastTerms 1 = .ok (.invokestatic 296, 3) := by decide +kernel
theorem dX4_inLeastTerms_4 : decode cX4_inLeastTerms 4 = .ok (.iload_n 1, 1) := by decide +kernel
theorem dX4_inLeastTerms_5 : decode cX4_inLeastTerms 5 = .ok (.invokestatic 299, 3) := by decide +kernel
theorem dX4_inLeastTerms_8 : decode cX4_inLeastTerms 8 = .ok (.istore_n 3, 1) := by decide +kernel
theorem dX4_inLeastTerms_9 : decode cX4_inLeastTerms 9 = .ok (.iload_n 3, 1) := by decide +kernel
theorem dX4_inLeastTerms_10 : decode cX4_inLeastTerms 10 = .ok (.iconst 1, 1) := by decide +kernel
theorem dX4_inLeastTerms_11 : decode cX4_inLeastTerms 11 = .ok (.if_icmp .ge 13, 3) := by decide +kernel
theorem dX4_inLeastTerms_14 : decode cX4_inLeastTerms 14 = .ok (.iload_n 2, 1) := by decide +kernel
theorem dX4_inLeastTerms_15 : decode cX4_inLeastTerms 15 = .ok (.ifCond .eq 7, 3) := by decide +kernel
theorem dX4_inLeastTerms_18 : decode cX4_inLeastTerms 18 = .ok (.iload_n 0, 1) := by decide +kernel
theorem dX4_inLeastTerms_19 : decode cX4_inLeastTerms 19 = .ok (.goto 4, 3) := by decide +kernel
theorem dX4_inLeastTerms_22 : decode cX4_inLeastTerms 22 = .ok (.iload_n 1, 1) := by decide +kernel
theorem dX4_inLeastTerms_23 : decode cX4_inLeastTerms 23 = .ok (.ireturn, 1) := by decide +kernel
theorem dX4_inLeastTerms_24 : decode cX4_inLeastTerms 24 = .ok (.iload_n 2, 1) := by decide +kernel
theorem dX4_inLeastTerms_25 : decode cX4_inLeastTerms 25 = .ok (.ifCond .eq 9, 3) := by decide +kernel
theorem dX4_inLeastTerms_28 : decode cX4_inLeastTerms 28 = .ok (.iload_n 0, 1) := by decide +kernel
theorem dX4_inLeastTerms_29 : decode cX4_inLeastTerms 29 = .ok (.iload_n 3, 1) := by decide +kernel
theorem dX4_inLeastTerms_30 : decode cX4_inLeastTerms 30 = .ok (.idiv, 1) := by decide +kernel
theorem dX4_inLeastTerms_31 : decode cX4_inLeastTerms 31 = .ok (.goto 6, 3) := by decide +kernel
theorem dX4_inLeastTerms_34 : decode cX4_inLeastTerms 34 = .ok (.iload_n 1, 1) := by decide +kernel
theorem dX4_inLeastTerms_35 : decode cX4_inLeastTerms 35 = .ok (.iload_n 3, 1) := by decide +kernel
theorem dX4_inLeastTerms_36 : decode cX4_inLeastTerms 36 = .ok (.idiv, 1) := by decide +kernel
theorem dX4_inLeastTerms_37 : decode cX4_inLeastTerms 37 = .ok (.ireturn, 1) := by decide +kernel
theorem dX4_commonDivisor_0 : decode cX4_commonDivisor 0 = .ok (.iload_n 0, 1) := by decide +kernel
theorem dX4_commonDivisor_1 : decode cX4_commonDivisor 1 = .ok (.istore_n 2, 1) := by decide +kernel
theorem dX4_commonDivisor_2 : decode cX4_commonDivisor 2 = .ok (.iload_n 1, 1) := by decide +kernel
theorem dX4_commonDivisor_3 : decode cX4_commonDivisor 3 = .ok (.istore_n 3, 1) := by decide +kernel
theorem dX4_commonDivisor_4 : decode cX4_commonDivisor 4 = .ok (.iconst 0, 1) := by decide +kernel
theorem dX4_commonDivisor_5 : decode cX4_commonDivisor 5 = .ok (.istore 4, 2) := by decide +kernel
theorem dX4_commonDivisor_7 : decode cX4_commonDivisor 7 = .ok (.iload 4, 2) := by decide +kernel
theorem dX4_commonDivisor_9 : decode cX4_commonDivisor 9 = .ok (.bipush 64, 2) := by decide +kernel
theorem dX4_commonDivisor_11 : decode cX4_commonDivisor 11 = .ok (.if_icmp .ge 23, 3) := by decide +kernel
theorem dX4_commonDivisor_14 : decode cX4_commonDivisor 14 = .ok (.iload_n 3, 1) := by decide +kernel
theorem dX4_commonDivisor_15 : decode cX4_commonDivisor 15 = .ok (.ifCond .eq 19, 3) := by decide +kernel
theorem dX4_commonDivisor_18 : decode cX4_commonDivisor 18 = .ok (.iload_n 2, 1) := by decide +kernel
theorem dX4_commonDivisor_19 : decode cX4_commonDivisor 19 = .ok (.iload_n 3, 1) := by decide +kernel
theorem dX4_commonDivisor_20 : decode cX4_commonDivisor 20 = .ok (.irem, 1) := by decide +kernel
theorem dX4_commonDivisor_21 : decode cX4_commonDivisor 21 = .ok (.istore 5, 2) := by decide +kernel
theorem dX4_commonDivisor_23 : decode cX4_commonDivisor 23 = .ok (.iload_n 3, 1) := by decide +kernel
theorem dX4_commonDivisor_24 : decode cX4_commonDivisor 24 = .ok (.istore_n 2, 1) := by decide +kernel
theorem dX4_commonDivisor_25 : decode cX4_commonDivisor 25 = .ok (.iload 5, 2) := by decide +kernel
theorem dX4_commonDivisor_27 : decode cX4_commonDivisor 27 = .ok (.istore_n 3, 1) := by decide +kernel
theorem dX4_commonDivisor_28 : decode cX4_commonDivisor 28 = .ok (.iinc 4 1, 3) := by decide +kernel
theorem dX4_commonDivisor_31 : decode cX4_commonDivisor 31 = .ok (.goto (-24), 3) := by decide +kernel
theorem dX4_commonDivisor_34 : decode cX4_commonDivisor 34 = .ok (.iload_n 2, 1) := by decide +kernel
theorem dX4_commonDivisor_35 : decode cX4_commonDivisor 35 = .ok (.ireturn, 1) := by decide +kernel
theorem dX4_beside_0 : decode cX4_beside 0 = .ok (.iload_n 1, 1) := by decide +kernel
theorem dX4_beside_1 : decode cX4_beside 1 = .ok (.tableswitch 87 0 3 #[31, 45, 60, 73], 31) := by decide +kernel
theorem dX4_beside_32 : decode cX4_beside 32 = .ok (.iload_n 0, 1) := by decide +kernel
theorem dX4_beside_33 : decode cX4_beside 33 = .ok (.iconst 4, 1) := by decide +kernel
theorem dX4_beside_34 : decode cX4_beside 34 = .ok (.irem, 1) := by decide +kernel
theorem dX4_beside_35 : decode cX4_beside 35 = .ok (.ifCond .ne 7, 3) := by decide +kernel
theorem dX4_beside_38 : decode cX4_beside 38 = .ok (.iload_n 0, 1) := by decide +kernel
theorem dX4_beside_39 : decode cX4_beside 39 = .ok (.goto 6, 3) := by decide +kernel
theorem dX4_beside_42 : decode cX4_beside 42 = .ok (.iload_n 0, 1) := by decide +kernel
theorem dX4_beside_43 : decode cX4_beside 43 = .ok (.iconst 1, 1) := by decide +kernel
theorem dX4_beside_44 : decode cX4_beside 44 = .ok (.isub, 1) := by decide +kernel
theorem dX4_beside_45 : decode cX4_beside 45 = .ok (.ireturn, 1) := by decide +kernel
theorem dX4_beside_46 : decode cX4_beside 46 = .ok (.iload_n 0, 1) := by decide +kernel
theorem dX4_beside_47 : decode cX4_beside 47 = .ok (.iconst 4, 1) := by decide +kernel
theorem dX4_beside_48 : decode cX4_beside 48 = .ok (.irem, 1) := by decide +kernel
theorem dX4_beside_49 : decode cX4_beside 49 = .ok (.iconst 3, 1) := by decide +kernel
theorem dX4_beside_50 : decode cX4_beside 50 = .ok (.if_icmp .ne 7, 3) := by decide +kernel
theorem dX4_beside_53 : decode cX4_beside 53 = .ok (.iload_n 0, 1) := by decide +kernel
theorem dX4_beside_54 : decode cX4_beside 54 = .ok (.goto 6, 3) := by decide +kernel
theorem dX4_beside_57 : decode cX4_beside 57 = .ok (.iload_n 0, 1) := by decide +kernel
theorem dX4_beside_58 : decode cX4_beside 58 = .ok (.iconst 1, 1) := by decide +kernel
theorem dX4_beside_59 : decode cX4_beside 59 = .ok (.iadd, 1) := by decide +kernel
theorem dX4_beside_60 : decode cX4_beside 60 = .ok (.ireturn, 1) := by decide +kernel
theorem dX4_beside_61 : decode cX4_beside 61 = .ok (.iload_n 0, 1) := by decide +kernel
theorem dX4_beside_62 : decode cX4_beside 62 = .ok (.iconst 4, 1) := by decide +kernel
theorem dX4_beside_63 : decode cX4_beside 63 = .ok (.if_icmp .ge 7, 3) := by decide +kernel
theorem dX4_beside_66 : decode cX4_beside 66 = .ok (.iload_n 0, 1) := by decide +kernel
theorem dX4_beside_67 : decode cX4_beside 67 = .ok (.goto 6, 3) := by decide +kernel
theorem dX4_beside_70 : decode cX4_beside 70 = .ok (.iload_n 0, 1) := by decide +kernel
theorem dX4_beside_71 : decode cX4_beside 71 = .ok (.iconst 4, 1) := by decide +kernel
theorem dX4_beside_72 : decode cX4_beside 72 = .ok (.isub, 1) := by decide +kernel
theorem dX4_beside_73 : decode cX4_beside 73 = .ok (.ireturn, 1) := by decide +kernel
theorem dX4_beside_74 : decode cX4_beside 74 = .ok (.iload_n 0, 1) := by decide +kernel
theorem dX4_beside_75 : decode cX4_beside 75 = .ok (.bipush 8, 2) := by decide +kernel
theorem dX4_beside_77 : decode cX4_beside 77 = .ok (.if_icmp .lt 7, 3) := by decide +kernel
theorem dX4_beside_80 : decode cX4_beside 80 = .ok (.iload_n 0, 1) := by decide +kernel
theorem dX4_beside_81 : decode cX4_beside 81 = .ok (.goto 6, 3) := by decide +kernel
theorem dX4_beside_84 : decode cX4_beside 84 = .ok (.iload_n 0, 1) := by decide +kernel
theorem dX4_beside_85 : decode cX4_beside 85 = .ok (.iconst 4, 1) := by decide +kernel
theorem dX4_beside_86 : decode cX4_beside 86 = .ok (.iadd, 1) := by decide +kernel
theorem dX4_beside_87 : decode cX4_beside 87 = .ok (.ireturn, 1) := by decide +kernel
theorem dX4_beside_88 : decode cX4_beside 88 = .ok (.iload_n 0, 1) := by decide +kernel
theorem dX4_beside_89 : decode cX4_beside 89 = .ok (.ireturn, 1) := by decide +kernel
theorem dX4_gain_0 : decode cX4_gain 0 = .ok (.iconst 0, 1) := by decide +kernel
theorem dX4_gain_1 : decode cX4_gain 1 = .ok (.istore_n 3, 1) := by decide +kernel
theorem dX4_gain_2 : decode cX4_gain 2 = .ok (.iload_n 0, 1) := by decide +kernel
theorem dX4_gain_3 : decode cX4_gain 3 = .ok (.tableswitch 66 0 3 #[29, 34, 47, 61], 29) := by decide +kernel
theorem dX4_gain_32 : decode cX4_gain 32 = .ok (.iconst 1, 1) := by decide +kernel
theorem dX4_gain_33 : decode cX4_gain 33 = .ok (.istore_n 3, 1) := by decide +kernel
theorem dX4_gain_34 : decode cX4_gain 34 = .ok (.goto 35, 3) := by decide +kernel
theorem dX4_gain_37 : decode cX4_gain 37 = .ok (.iload_n 2, 1) := by decide +kernel
theorem dX4_gain_38 : decode cX4_gain 38 = .ok (.ifCond .ne 7, 3) := by decide +kernel
theorem dX4_gain_41 : decode cX4_gain 41 = .ok (.iconst 3, 1) := by decide +kernel
theorem dX4_gain_42 : decode cX4_gain 42 = .ok (.goto 4, 3) := by decide +kernel
theorem dX4_gain_45 : decode cX4_gain 45 = .ok (.iconst 0, 1) := by decide +kernel
theorem dX4_gain_46 : decode cX4_gain 46 = .ok (.istore_n 3, 1) := by decide +kernel
theorem dX4_gain_47 : decode cX4_gain 47 = .ok (.goto 22, 3) := by decide +kernel
theorem dX4_gain_50 : decode cX4_gain 50 = .ok (.iload_n 2, 1) := by decide +kernel
theorem dX4_gain_51 : decode cX4_gain 51 = .ok (.iconst 3, 1) := by decide +kernel
theorem dX4_gain_52 : decode cX4_gain 52 = .ok (.if_icmp .lt 7, 3) := by decide +kernel
theorem dX4_gain_55 : decode cX4_gain 55 = .ok (.iconst 2, 1) := by decide +kernel
theorem dX4_gain_56 : decode cX4_gain 56 = .ok (.goto 4, 3) := by decide +kernel
theorem dX4_gain_59 : decode cX4_gain 59 = .ok (.iconst 0, 1) := by decide +kernel
theorem dX4_gain_60 : decode cX4_gain 60 = .ok (.istore_n 3, 1) := by decide +kernel
theorem dX4_gain_61 : decode cX4_gain 61 = .ok (.goto 8, 3) := by decide +kernel
theorem dX4_gain_64 : decode cX4_gain 64 = .ok (.iconst (-1), 1) := by decide +kernel
theorem dX4_gain_65 : decode cX4_gain 65 = .ok (.istore_n 3, 1) := by decide +kernel
theorem dX4_gain_66 : decode cX4_gain 66 = .ok (.goto 3, 3) := by decide +kernel
theorem dX4_gain_69 : decode cX4_gain 69 = .ok (.iload_n 3, 1) := by decide +kernel
theorem dX4_gain_70 : decode cX4_gain 70 = .ok (.ifCond .le 14, 3) := by decide +kernel
theorem dX4_gain_73 : decode cX4_gain 73 = .ok (.iload_n 1, 1) := by decide +kernel
theorem dX4_gain_74 : decode cX4_gain 74 = .ok (.iconst 1, 1) := by decide +kernel
theorem dX4_gain_75 : decode cX4_gain 75 = .ok (.if_icmp .ne 9, 3) := by decide +kernel
theorem dX4_gain_78 : decode cX4_gain 78 = .ok (.iload_n 3, 1) := by decide +kernel
theorem dX4_gain_79 : decode cX4_gain 79 = .ok (.iconst 1, 1) := by decide +kernel
theorem dX4_gain_80 : decode cX4_gain 80 = .ok (.iadd, 1) := by decide +kernel
theorem dX4_gain_81 : decode cX4_gain 81 = .ok (.goto 4, 3) := by decide +kernel
theorem dX4_gain_84 : decode cX4_gain 84 = .ok (.iload_n 3, 1) := by decide +kernel
theorem dX4_gain_85 : decode cX4_gain 85 = .ok (.ireturn, 1) := by decide +kernel
