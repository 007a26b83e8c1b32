theorem dX6_init_0 : decode cX6_init 0 = .ok (.aload_n 0, 1) := by decide +kernel
theorem dX6_init_1 : decode cX6_init 1 = .ok (.invokespecial 3, 3) := by decide +kernel
theorem dX6_init_4 : decode cX6_init 4 = .ok (.aload_n 0, 1) := by decide +kernel
theorem dX6_init_5 : decode cX6_init 5 = .ok (.bipush 30, 2) := by decide +kernel
theorem dX6_init_7 : decode cX6_init 7 = .ok (.anewarray 9, 3) := by decide +kernel
theorem dX6_init_10 : decode cX6_init 10 = .ok (.putfield 11, 3) := by decide +kernel
theorem dX6_init_13 : decode cX6_init 13 = .ok (.aload_n 0, 1) := by decide +kernel
theorem dX6_init_14 : decode cX6_init 14 = .ok (.iconst 0, 1) := by decide +kernel
theorem dX6_init_15 : decode cX6_init 15 = .ok (.putfield 15, 3) := by decide +kernel
theorem dX6_init_18 : decode cX6_init 18 = .ok (.aload_n 0, 1) := by decide +kernel
theorem dX6_init_19 : decode cX6_init 19 = .ok (.sipush 400, 3) := by decide +kernel
theorem dX6_init_22 : decode cX6_init 22 = .ok (.anewarray 19, 3) := by decide +kernel
theorem dX6_init_25 : decode cX6_init 25 = .ok (.putfield 21, 3) := by decide +kernel
theorem dX6_init_28 : decode cX6_init 28 = .ok (.aload_n 0, 1) := by decide +kernel
theorem dX6_init_29 : decode cX6_init 29 = .ok (.iconst 0, 1) := by decide +kernel
theorem dX6_init_30 : decode cX6_init 30 = .ok (.putfield 25, 3) := by decide +kernel
theorem dX6_init_33 : decode cX6_init 33 = .ok (.aload_n 0, 1) := by decide +kernel
theorem dX6_init_34 : decode cX6_init 34 = .ok (.bipush 6, 2) := by decide +kernel
theorem dX6_init_36 : decode cX6_init 36 = .ok (.anewarray 28, 3) := by decide +kernel
theorem dX6_init_39 : decode cX6_init 39 = .ok (.putfield 30, 3) := by decide +kernel
theorem dX6_init_42 : decode cX6_init 42 = .ok (.aload_n 0, 1) := by decide +kernel
theorem dX6_init_43 : decode cX6_init 43 = .ok (.bipush 30, 2) := by decide +kernel
theorem dX6_init_45 : decode cX6_init 45 = .ok (.anewarray 34, 3) := by decide +kernel
theorem dX6_init_48 : decode cX6_init 48 = .ok (.putfield 36, 3) := by decide +kernel
theorem dX6_init_51 : decode cX6_init 51 = .ok (.aload_n 0, 1) := by decide +kernel
theorem dX6_init_52 : decode cX6_init 52 = .ok (.iconst 0, 1) := by decide +kernel
theorem dX6_init_53 : decode cX6_init 53 = .ok (.putfield 40, 3) := by decide +kernel
theorem dX6_init_56 : decode cX6_init 56 = .ok (.aload_n 0, 1) := by decide +kernel
theorem dX6_init_57 : decode cX6_init 57 = .ok (.bipush 30, 2) := by decide +kernel
theorem dX6_init_59 : decode cX6_init 59 = .ok (.anewarray 43, 3) := by decide +kernel
theorem dX6_init_62 : decode cX6_init 62 = .ok (.putfield 45, 3) := by decide +kernel
theorem dX6_init_65 : decode cX6_init 65 = .ok (.aload_n 0, 1) := by decide +kernel
theorem dX6_init_66 : decode cX6_init 66 = .ok (.iconst 0, 1) := by decide +kernel
theorem dX6_init_67 : decode cX6_init 67 = .ok (.putfield 49, 3) := by decide +kernel
theorem dX6_init_70 : decode cX6_init 70 = .ok (.aload_n 0, 1) := by decide +kernel
theorem dX6_init_71 : decode cX6_init 71 = .ok (.bipush 30, 2) := by decide +kernel
theorem dX6_init_73 : decode cX6_init 73 = .ok (.newarray .int, 2) := by decide +kernel
theorem dX6_init_75 : decode cX6_init 75 = .ok (.putfield 52, 3) := by decide +kernel
theorem dX6_init_78 : decode cX6_init 78 = .ok (.aload_n 0, 1) := by decide +kernel
theorem dX6_init_79 : decode cX6_init 79 = .ok (.new 56, 3) := by decide +kernel
theorem dX6_init_82 : decode cX6_init 82 = .ok (.dup, 1) := by decide +kernel
theorem dX6_init_83 : decode cX6_init 83 = .ok (.invokespecial 58, 3) := by decide +kernel
theorem dX6_init_86 : decode cX6_init 86 = .ok (.putfield 59, 3) := by decide +kernel
theorem dX6_init_89 : decode cX6_init 89 = .ok (.aload_n 0, 1) := by decide +kernel
theorem dX6_init_90 : decode cX6_init 90 = .ok (.bipush 6, 2) := by decide +kernel
theorem dX6_init_92 : decode cX6_init 92 = .ok (.newarray .int, 2) := by decide +kernel
theorem dX6_init_94 : decode cX6_init 94 = .ok (.putfield 63, 3) := by decide +kernel
theorem dX6_init_97 : decode cX6_init 97 = .ok (.aload_n 0, 1) := by decide +kernel
theorem dX6_init_98 : decode cX6_init 98 = .ok (.iconst 0, 1) := by decide +kernel
theorem dX6_init_99 : decode cX6_init 99 = .ok (.putfield 66, 3) := by decide +kernel
theorem dX6_init_102 : decode cX6_init 102 = .ok (.aload_n 0, 1) := by decide +kernel
theorem dX6_init_103 : decode cX6_init 103 = .ok (.iconst 0, 1) := by decide +kernel
theorem dX6_init_104 : decode cX6_init 104 = .ok (.putfield 69, 3) := by decide +kernel
theorem dX6_init_107 : decode cX6_init 107 = .ok (.iconst 0, 1) := by decide +kernel
theorem dX6_init_108 : decode cX6_init 108 = .ok (.istore_n 1, 1) := by decide +kernel
theorem dX6_init_109 : decode cX6_init 109 = .ok (.iload_n 1, 1) := by decide +kernel
theorem dX6_init_110 : decode cX6_init 110 = .ok (.bipush 6, 2) := by decide +kernel
theorem dX6_init_112 : decode cX6_init 112 = .ok (.if_icmp .ge 22, 3) := by decide +kernel
theorem dX6_init_115 : decode cX6_init 115 = .ok (.aload_n 0, 1) := by decide +kernel
theorem dX6_init_116 : decode cX6_init 116 = .ok (.getfield 30, 3) := by decide +kernel
theorem dX6_init_119 : decode cX6_init 119 = .ok (.iload_n 1, 1) := by decide +kernel
theorem dX6_init_120 : decode cX6_init 120 = .ok (.new 28, 3) := by decide +kernel
theorem dX6_init_123 : decode cX6_init 123 = .ok (.dup, 1) := by decide +kernel
theorem dX6_init_124 : decode cX6_init 124 = .ok (.invokespecial 72, 3) := by decide +kernel
theorem dX6_init_127 : decode cX6_init 127 = .ok (.aastore, 1) := by decide +kernel
theorem dX6_init_128 : decode cX6_init 128 = .ok (.iinc 1 1, 3) := by decide +kernel
theorem dX6_init_131 : decode cX6_init 131 = .ok (.goto (-22), 3) := by decide +kernel
theorem dX6_init_134 : decode cX6_init 134 = .ok (.return_, 1) := by decide +kernel
theorem dX6_shell_0 : decode cX6_shell 0 = .ok (.aload_n 0, 1) := by decide +kernel
theorem dX6_shell_1 : decode cX6_shell 1 = .ok (.getfield 15, 3) := by decide +kernel
theorem dX6_shell_4 : decode cX6_shell 4 = .ok (.bipush 30, 2) := by decide +kernel
theorem dX6_shell_6 : decode cX6_shell 6 = .ok (.if_icmp .ge 33, 3) := by decide +kernel
theorem dX6_shell_9 : decode cX6_shell 9 = .ok (.iload_n 1, 1) := by decide +kernel
theorem dX6_shell_10 : decode cX6_shell 10 = .ok (.iconst 1, 1) := by decide +kernel
theorem dX6_shell_11 : decode cX6_shell 11 = .ok (.bipush 6, 2) := by decide +kernel
theorem dX6_shell_13 : decode cX6_shell 13 = .ok (.invokestatic 73, 3) := by decide +kernel
theorem dX6_shell_16 : decode cX6_shell 16 = .ok (.ifCond .eq 23, 3) := by decide +kernel
theorem dX6_shell_19 : decode cX6_shell 19 = .ok (.iload_n 2, 1) := by decide +kernel
theorem dX6_shell_20 : decode cX6_shell 20 = .ok (.iconst 1, 1) := by decide +kernel
theorem dX6_shell_21 : decode cX6_shell 21 = .ok (.bipush 6, 2) := by decide +kernel
theorem dX6_shell_23 : decode cX6_shell 23 = .ok (.invokestatic 73, 3) := by decide +kernel
theorem dX6_shell_26 : decode cX6_shell 26 = .ok (.ifCond .eq 13, 3) := by decide +kernel
theorem dX6_shell_29 : decode cX6_shell 29 = .ok (.iload_n 3, 1) := by decide +kernel
theorem dX6_shell_30 : decode cX6_shell 30 = .ok (.iconst 0, 1) := by decide +kernel
theorem dX6_shell_31 : decode cX6_shell 31 = .ok (.bipush 9, 2) := by decide +kernel
theorem dX6_shell_33 : decode cX6_shell 33 = .ok (.invokestatic 73, 3) := by decide +kernel
theorem dX6_shell_36 : decode cX6_shell 36 = .ok (.ifCond .ne 5, 3) := by decide +kernel
theorem dX6_shell_39 : decode cX6_shell 39 = .ok (.iconst (-1), 1) := by decide +kernel
theorem dX6_shell_40 : decode cX6_shell 40 = .ok (.ireturn, 1) := by decide +kernel
theorem dX6_shell_41 : decode cX6_shell 41 = .ok (.aload_n 0, 1) := by decide +kernel
theorem dX6_shell_42 : decode cX6_shell 42 = .ok (.getfield 63, 3) := by decide +kernel
theorem dX6_shell_45 : decode cX6_shell 45 = .ok (.iconst 0, 1) := by decide +kernel
theorem dX6_shell_46 : decode cX6_shell 46 = .ok (.iload 4, 2) := by decide +kernel
theorem dX6_shell_48 : decode cX6_shell 48 = .ok (.iastore, 1) := by decide +kernel
theorem dX6_shell_49 : decode cX6_shell 49 = .ok (.aload_n 0, 1) := by decide +kernel
theorem dX6_shell_50 : decode cX6_shell 50 = .ok (.getfield 63, 3) := by decide +kernel
theorem dX6_shell_53 : decode cX6_shell 53 = .ok (.iconst 1, 1) := by decide +kernel
theorem dX6_shell_54 : decode cX6_shell 54 = .ok (.iload 5, 2) := by decide +kernel
theorem dX6_shell_56 : decode cX6_shell 56 = .ok (.iastore, 1) := by decide +kernel
theorem dX6_shell_57 : decode cX6_shell 57 = .ok (.aload_n 0, 1) := by decide +kernel
theorem dX6_shell_58 : decode cX6_shell 58 = .ok (.getfield 63, 3) := by decide +kernel
theorem dX6_shell_61 : decode cX6_shell 61 = .ok (.iconst 2, 1) := by decide +kernel
theorem dX6_shell_62 : decode cX6_shell 62 = .ok (.iload 6, 2) := by decide +kernel
theorem dX6_shell_64 : decode cX6_shell 64 = .ok (.iastore, 1) := by decide +kernel
theorem dX6_shell_65 : decode cX6_shell 65 = .ok (.aload_n 0, 1) := by decide +kernel
theorem dX6_shell_66 : decode cX6_shell 66 = .ok (.getfield 63, 3) := by decide +kernel
theorem dX6_shell_69 : decode cX6_shell 69 = .ok (.iconst 3, 1) := by decide +kernel
theorem dX6_shell_70 : decode cX6_shell 70 = .ok (.iload 7, 2) := by decide +kernel
theorem dX6_shell_72 : decode cX6_shell 72 = .ok (.iastore, 1) := by decide +kernel
theorem dX6_shell_73 : decode cX6_shell 73 = .ok (.aload_n 0, 1) := by decide +kernel
theorem dX6_shell_74 : decode cX6_shell 74 = .ok (.getfield 63, 3) := by decide +kernel
theorem dX6_shell_77 : decode cX6_shell 77 = .ok (.iconst 4, 1) := by decide +kernel
theorem dX6_shell_78 : decode cX6_shell 78 = .ok (.iload 8, 2) := by decide +kernel
theorem dX6_shell_80 : decode cX6_shell 80 = .ok (.iastore, 1) := by decide +kernel
theorem dX6_shell_81 : decode cX6_shell 81 = .ok (.aload_n 0, 1) := by decide +kernel
theorem dX6_shell_82 : decode cX6_shell 82 = .ok (.getfield 63, 3) := by decide +kernel
theorem dX6_shell_85 : decode cX6_shell 85 = .ok (.iconst 5, 1) := by decide +kernel
theorem dX6_shell_86 : decode cX6_shell 86 = .ok (.iload 9, 2) := by decide +kernel
theorem dX6_shell_88 : decode cX6_shell 88 = .ok (.iastore, 1) := by decide +kernel
theorem dX6_shell_89 : decode cX6_shell 89 = .ok (.new 9, 3) := by decide +kernel
theorem dX6_shell_92 : decode cX6_shell 92 = .ok (.dup, 1) := by decide +kernel
theorem dX6_shell_93 : decode cX6_shell 93 = .ok (.iload_n 1, 1) := by decide +kernel
theorem dX6_shell_94 : decode cX6_shell 94 = .ok (.iload_n 2, 1) := by decide +kernel
theorem dX6_shell_95 : decode cX6_shell 95 = .ok (.iload_n 3, 1) := by decide +kernel
theorem dX6_shell_96 : decode cX6_shell 96 = .ok (.invokespecial 77, 3) := by decide +kernel
theorem dX6_shell_99 : decode cX6_shell 99 = .ok (.astore 10, 2) := by decide +kernel
theorem dX6_shell_101 : decode cX6_shell 101 = .ok (.aload 10, 2) := by decide +kernel
theorem dX6_shell_103 : decode cX6_shell 103 = .ok (.aload_n 0, 1) := by decide +kernel
theorem dX6_shell_104 : decode cX6_shell 104 = .ok (.getfield 63, 3) := by decide +kernel
theorem dX6_shell_107 : decode cX6_shell 107 = .ok (.invokevirtual 80, 3) := by decide +kernel
theorem dX6_shell_110 : decode cX6_shell 110 = .ok (.ifCond .ne 5, 3) := by decide +kernel
theorem dX6_shell_113 : decode cX6_shell 113 = .ok (.iconst (-1), 1) := by decide +kernel
theorem dX6_shell_114 : decode cX6_shell 114 = .ok (.ireturn, 1) := by decide +kernel
theorem dX6_shell_115 : decode cX6_shell 115 = .ok (.aload_n 0, 1) := by decide +kernel
theorem dX6_shell_116 : decode cX6_shell 116 = .ok (.getfield 11, 3) := by decide +kernel
theorem dX6_shell_119 : decode cX6_shell 119 = .ok (.aload_n 0, 1) := by decide +kernel
theorem dX6_shell_120 : decode cX6_shell 120 = .ok (.getfield 15, 3) := by decide +kernel
theorem dX6_shell_123 : decode cX6_shell 123 = .ok (.aload 10, 2) := by decide +kernel
theorem dX6_shell_125 : decode cX6_shell 125 = .ok (.aastore, 1) := by decide +kernel
theorem dX6_shell_126 : decode cX6_shell 126 = .ok (.aload_n 0, 1) := by decide +kernel
theorem dX6_shell_127 : decode cX6_shell 127 = .ok (.dup, 1) := by decide +kernel
theorem dX6_shell_128 : decode cX6_shell 128 = .ok (.getfield 15, 3) := by decide +kernel
theorem dX6_shell_131 : decode cX6_shell 131 = .ok (.iconst 1, 1) := by decide +kernel
theorem dX6_shell_132 : decode cX6_shell 132 = .ok (.iadd, 1) := by decide +kernel
theorem dX6_shell_133 : decode cX6_shell 133 = .ok (.putfield 15, 3) := by decide +kernel
theorem dX6_shell_136 : decode cX6_shell 136 = .ok (.aload_n 0, 1) := by decide +kernel
theorem dX6_shell_137 : decode cX6_shell 137 = .ok (.getfield 15, 3) := by decide +kernel
theorem dX6_shell_140 : decode cX6_shell 140 = .ok (.iconst 1, 1) := by decide +kernel
theorem dX6_shell_141 : decode cX6_shell 141 = .ok (.isub, 1) := by decide +kernel
theorem dX6_shell_142 : decode cX6_shell 142 = .ok (.ireturn, 1) := by decide +kernel
theorem dX6_shellOf_0 : decode cX6_shellOf 0 = .ok (.aload_n 0, 1) := by decide +kernel
theorem dX6_shellOf_1 : decode cX6_shellOf 1 = .ok (.iload_n 1, 1) := by decide +kernel
theorem dX6_shellOf_2 : decode cX6_shellOf 2 = .ok (.invokevirtual 84, 3) := by decide +kernel
theorem dX6_shellOf_5 : decode cX6_shellOf 5 = .ok (.astore_n 3, 1) := by decide +kernel
theorem dX6_shellOf_6 : decode cX6_shellOf 6 = .ok (.iload_n 2, 1) := by decide +kernel
theorem dX6_shellOf_7 : decode cX6_shellOf 7 = .ok (.tableswitch 57 0 3 #[29, 34, 39, 44], 29) := by decide +kernel
theorem dX6_shellOf_36 : decode cX6_shellOf 36 = .ok (.aload_n 3, 1) := by decide +kernel
theorem dX6_shellOf_37 : decode cX6_shellOf 37 = .ok (.getfield 88, 3) := by decide +kernel
theorem dX6_shellOf_40 : decode cX6_shellOf 40 = .ok (.ireturn, 1) := by decide +kernel
theorem dX6_shellOf_41 : decode cX6_shellOf 41 = .ok (.aload_n 3, 1) := by decide +kernel
theorem dX6_shellOf_42 : decode cX6_shellOf 42 = .ok (.getfield 91, 3) := by decide +kernel
theorem dX6_shellOf_45 : decode cX6_shellOf 45 = .ok (.ireturn, 1) := by decide +kernel
theorem dX6_shellOf_46 : decode cX6_shellOf 46 = .ok (.aload_n 3, 1) := by decide +kernel
theorem dX6_shellOf_47 : decode cX6_shellOf 47 = .ok (.getfield 94, 3) := by decide +kernel
theorem dX6_shellOf_50 : decode cX6_shellOf 50 = .ok (.ireturn, 1) := by decide +kernel
theorem dX6_shellOf_51 : decode cX6_shellOf 51 = .ok (.aload_n 3, 1) := by decide +kernel
theorem dX6_shellOf_52 : decode cX6_shellOf 52 = .ok (.getfield 97, 3) := by decide +kernel
theorem dX6_shellOf_55 : decode cX6_shellOf 55 = .ok (.ifCond .eq 7, 3) := by decide +kernel
theorem dX6_shellOf_58 : decode cX6_shellOf 58 = .ok (.iconst 1, 1) := by decide +kernel
theorem dX6_shellOf_59 : decode cX6_shellOf 59 = .ok (.goto 4, 3) := by decide +kernel
theorem dX6_shellOf_62 : decode cX6_shellOf 62 = .ok (.iconst 0, 1) := by decide +kernel
theorem dX6_shellOf_63 : decode cX6_shellOf 63 = .ok (.ireturn, 1) := by decide +kernel
theorem dX6_shellOf_64 : decode cX6_shellOf 64 = .ok (.new 101, 3) := by decide +kernel
theorem dX6_shellOf_67 : decode cX6_shellOf 67 = .ok (.dup, 1) := by decide +kernel
theorem dX6_shellOf_68 : decode cX6_shellOf 68 = .ok (.ldc 103, 2) := by decide +kernel
theorem dX6_shellOf_70 : decode cX6_shellOf 70 = .ok (.invokespecial 105, 3) := by decide +kernel
theorem dX6_shellOf_73 : decode cX6_shellOf 73 = .ok (.athrow, 1) := by decide +kernel
theorem dX6_list_0 : decode cX6_list 0 = .ok (.iload_n 1, 1) := by decide +kernel
theorem dX6_list_1 : decode cX6_list 1 = .ok (.invokestatic 108, 3) := by decide +kernel
theorem dX6_list_4 : decode cX6_list 4 = .ok (.ifCond .eq 24, 3) := by decide +kernel
theorem dX6_list_7 : decode cX6_list 7 = .ok (.iload_n 2, 1) := by decide +kernel
theorem dX6_list_8 : decode cX6_list 8 = .ok (.iconst 1, 1) := by decide +kernel
theorem dX6_list_9 : decode cX6_list 9 = .ok (.bipush 9, 2) := by decide +kernel
theorem dX6_list_11 : decode cX6_list 11 = .ok (.invokestatic 73, 3) := by decide +kernel
theorem dX6_list_14 : decode cX6_list 14 = .ok (.ifCond .eq 14, 3) := by decide +kernel
theorem dX6_list_17 : decode cX6_list 17 = .ok (.iload_n 3, 1) := by decide +kernel
theorem dX6_list_18 : decode cX6_list 18 = .ok (.iconst 0, 1) := by decide +kernel
theorem dX6_list_19 : decode cX6_list 19 = .ok (.sipush 999, 3) := by decide +kernel
theorem dX6_list_22 : decode cX6_list 22 = .ok (.invokestatic 73, 3) := by decide +kernel
theorem dX6_list_25 : decode cX6_list 25 = .ok (.ifCond .ne 13, 3) := by decide +kernel
theorem dX6_list_28 : decode cX6_list 28 = .ok (.new 112, 3) := by decide +kernel
theorem dX6_list_31 : decode cX6_list 31 = .ok (.dup, 1) := by decide +kernel
theorem dX6_list_32 : decode cX6_list 32 = .ok (.ldc 114, 2) := by decide +kernel
theorem dX6_list_34 : decode cX6_list 34 = .ok (.invokespecial 116, 3) := by decide +kernel
theorem dX6_list_37 : decode cX6_list 37 = .ok (.athrow, 1) := by decide +kernel
theorem dX6_list_38 : decode cX6_list 38 = .ok (.aload_n 0, 1) := by decide +kernel
theorem dX6_list_39 : decode cX6_list 39 = .ok (.getfield 59, 3) := by decide +kernel
theorem dX6_list_42 : decode cX6_list 42 = .ok (.iload_n 1, 1) := by decide +kernel
theorem dX6_list_43 : decode cX6_list 43 = .ok (.iload_n 2, 1) := by decide +kernel
theorem dX6_list_44 : decode cX6_list 44 = .ok (.iload_n 3, 1) := by decide +kernel
theorem dX6_list_45 : decode cX6_list 45 = .ok (.invokevirtual 117, 3) := by decide +kernel
theorem dX6_list_48 : decode cX6_list 48 = .ok (.ireturn, 1) := by decide +kernel
theorem dX6_best_0 : decode cX6_best 0 = .ok (.aload_n 0, 1) := by decide +kernel
theorem dX6_best_1 : decode cX6_best 1 = .ok (.iload_n 1, 1) := by decide +kernel
theorem dX6_best_2 : decode cX6_best 2 = .ok (.invokevirtual 84, 3) := by decide +kernel
theorem dX6_best_5 : decode cX6_best 5 = .ok (.astore_n 3, 1) := by decide +kernel
theorem dX6_best_6 : decode cX6_best 6 = .ok (.iload_n 2, 1) := by decide +kernel
theorem dX6_best_7 : decode cX6_best 7 = .ok (.iconst 0, 1) := by decide +kernel
theorem dX6_best_8 : decode cX6_best 8 = .ok (.iconst 1, 1) := by decide +kernel
theorem dX6_best_9 : decode cX6_best 9 = .ok (.invokestatic 73, 3) := by decide +kernel
theorem dX6_best_12 : decode cX6_best 12 = .ok (.ifCond .ne 13, 3) := by decide +kernel
theorem dX6_best_15 : decode cX6_best 15 = .ok (.new 101, 3) := by decide +kernel
theorem dX6_best_18 : decode cX6_best 18 = .ok (.dup, 1) := by decide +kernel
theorem dX6_best_19 : decode cX6_best 19 = .ok (.ldc 121, 2) := by decide +kernel
theorem dX6_best_21 : decode cX6_best 21 = .ok (.invokespecial 105, 3) := by decide +kernel
theorem dX6_best_24 : decode cX6_best 24 = .ok (.athrow, 1) := by decide +kernel
theorem dX6_best_25 : decode cX6_best 25 = .ok (.aload_n 0, 1) := by decide +kernel
theorem dX6_best_26 : decode cX6_best 26 = .ok (.getfield 59, 3) := by decide +kernel
theorem dX6_best_29 : decode cX6_best 29 = .ok (.aload_n 3, 1) := by decide +kernel
theorem dX6_best_30 : decode cX6_best 30 = .ok (.invokevirtual 123, 3) := by decide +kernel
theorem dX6_best_33 : decode cX6_best 33 = .ok (.iload_n 2, 1) := by decide +kernel
theorem dX6_best_34 : decode cX6_best 34 = .ok (.ifCond .ne 10, 3) := by decide +kernel
theorem dX6_best_37 : decode cX6_best 37 = .ok (.aload_n 3, 1) := by decide +kernel
theorem dX6_best_38 : decode cX6_best 38 = .ok (.getfield 127, 3) := by decide +kernel
theorem dX6_best_41 : decode cX6_best 41 = .ok (.goto 7, 3) := by decide +kernel
theorem dX6_best_44 : decode cX6_best 44 = .ok (.aload_n 3, 1) := by decide +kernel
theorem dX6_best_45 : decode cX6_best 45 = .ok (.getfield 130, 3) := by decide +kernel
theorem dX6_best_48 : decode cX6_best 48 = .ok (.ireturn, 1) := by decide +kernel
theorem dX6_bestAt_0 : decode cX6_bestAt 0 = .ok (.aload_n 0, 1) := by decide +kernel
theorem dX6_bestAt_1 : decode cX6_bestAt 1 = .ok (.iload_n 1, 1) := by decide +kernel
theorem dX6_bestAt_2 : decode cX6_bestAt 2 = .ok (.invokevirtual 84, 3) := by decide +kernel
theorem dX6_bestAt_5 : decode cX6_bestAt 5 = .ok (.astore_n 3, 1) := by decide +kernel
theorem dX6_bestAt_6 : decode cX6_bestAt 6 = .ok (.iload_n 2, 1) := by decide +kernel
theorem dX6_bestAt_7 : decode cX6_bestAt 7 = .ok (.iconst 0, 1) := by decide +kernel
theorem dX6_bestAt_8 : decode cX6_bestAt 8 = .ok (.aload_n 3, 1) := by decide +kernel
theorem dX6_bestAt_9 : decode cX6_bestAt 9 = .ok (.getfield 88, 3) := by decide +kernel
theorem dX6_bestAt_12 : decode cX6_bestAt 12 = .ok (.aload_n 3, 1) := by decide +kernel
theorem dX6_bestAt_13 : decode cX6_bestAt 13 = .ok (.getfield 91, 3) := by decide +kernel
theorem dX6_bestAt_16 : decode cX6_bestAt 16 = .ok (.imul, 1) := by decide +kernel
theorem dX6_bestAt_17 : decode cX6_bestAt 17 = .ok (.iconst 1, 1) := by decide +kernel
theorem dX6_bestAt_18 : decode cX6_bestAt 18 = .ok (.isub, 1) := by decide +kernel
theorem dX6_bestAt_19 : decode cX6_bestAt 19 = .ok (.invokestatic 73, 3) := by decide +kernel
theorem dX6_bestAt_22 : decode cX6_bestAt 22 = .ok (.ifCond .ne 13, 3) := by decide +kernel
theorem dX6_bestAt_25 : decode cX6_bestAt 25 = .ok (.new 101, 3) := by decide +kernel
theorem dX6_bestAt_28 : decode cX6_bestAt 28 = .ok (.dup, 1) := by decide +kernel
theorem dX6_bestAt_29 : decode cX6_bestAt 29 = .ok (.ldc 133, 2) := by decide +kernel
theorem dX6_bestAt_31 : decode cX6_bestAt 31 = .ok (.invokespecial 105, 3) := by decide +kernel
theorem dX6_bestAt_34 : decode cX6_bestAt 34 = .ok (.athrow, 1) := by decide +kernel
theorem dX6_bestAt_35 : decode cX6_bestAt 35 = .ok (.aload_n 0, 1) := by decide +kernel
theorem dX6_bestAt_36 : decode cX6_bestAt 36 = .ok (.getfield 59, 3) := by decide +kernel
theorem dX6_bestAt_39 : decode cX6_bestAt 39 = .ok (.aload_n 3, 1) := by decide +kernel
theorem dX6_bestAt_40 : decode cX6_bestAt 40 = .ok (.invokevirtual 123, 3) := by decide +kernel
theorem dX6_bestAt_43 : decode cX6_bestAt 43 = .ok (.aload_n 3, 1) := by decide +kernel
theorem dX6_bestAt_44 : decode cX6_bestAt 44 = .ok (.getfield 135, 3) := by decide +kernel
theorem dX6_bestAt_47 : decode cX6_bestAt 47 = .ok (.iload_n 2, 1) := by decide +kernel
theorem dX6_bestAt_48 : decode cX6_bestAt 48 = .ok (.iaload, 1) := by decide +kernel
theorem dX6_bestAt_49 : decode cX6_bestAt 49 = .ok (.ireturn, 1) := by decide +kernel
theorem dX6_cut_0 : decode cX6_cut 0 = .ok (.aload_n 0, 1) := by decide +kernel
theorem dX6_cut_1 : decode cX6_cut 1 = .ok (.iload_n 1, 1) := by decide +kernel
theorem dX6_cut_2 : decode cX6_cut 2 = .ok (.invokevirtual 84, 3) := by decide +kernel
theorem dX6_cut_5 : decode cX6_cut 5 = .ok (.astore_n 2, 1) := by decide +kernel
theorem dX6_cut_6 : decode cX6_cut 6 = .ok (.aload_n 2, 1) := by decide +kernel
theorem dX6_cut_7 : decode cX6_cut 7 = .ok (.getfield 97, 3) := by decide +kernel
theorem dX6_cut_10 : decode cX6_cut 10 = .ok (.ifCond .eq 5, 3) := by decide +kernel
theorem dX6_cut_13 : decode cX6_cut 13 = .ok (.iconst (-1), 1) := by decide +kernel
theorem dX6_cut_14 : decode cX6_cut 14 = .ok (.ireturn, 1) := by decide +kernel
theorem dX6_cut_15 : decode cX6_cut 15 = .ok (.aload_n 0, 1) := by decide +kernel
theorem dX6_cut_16 : decode cX6_cut 16 = .ok (.getfield 59, 3) := by decide +kernel
theorem dX6_cut_19 : decode cX6_cut 19 = .ok (.aload_n 2, 1) := by decide +kernel
theorem dX6_cut_20 : decode cX6_cut 20 = .ok (.invokevirtual 123, 3) := by decide +kernel
theorem dX6_cut_23 : decode cX6_cut 23 = .ok (.aload_n 0, 1) := by decide +kernel
theorem dX6_cut_24 : decode cX6_cut 24 = .ok (.getfield 25, 3) := by decide +kernel
theorem dX6_cut_27 : decode cX6_cut 27 = .ok (.aload_n 2, 1) := by decide +kernel
theorem dX6_cut_28 : decode cX6_cut 28 = .ok (.getfield 130, 3) := by decide +kernel
theorem dX6_cut_31 : decode cX6_cut 31 = .ok (.iadd, 1) := by decide +kernel
theorem dX6_cut_32 : decode cX6_cut 32 = .ok (.sipush 400, 3) := by decide +kernel
theorem dX6_cut_35 : decode cX6_cut 35 = .ok (.if_icmp .le 5, 3) := by decide +kernel
theorem dX6_cut_38 : decode cX6_cut 38 = .ok (.iconst (-1), 1) := by decide +kernel
theorem dX6_cut_39 : decode cX6_cut 39 = .ok (.ireturn, 1) := by decide +kernel
theorem dX6_cut_40 : decode cX6_cut 40 = .ok (.aload_n 2, 1) := by decide +kernel
theorem dX6_cut_41 : decode cX6_cut 41 = .ok (.iconst 1, 1) := by decide +kernel
theorem dX6_cut_42 : decode cX6_cut 42 = .ok (.putfield 97, 3) := by decide +kernel
theorem dX6_cut_45 : decode cX6_cut 45 = .ok (.aload_n 0, 1) := by decide +kernel
theorem dX6_cut_46 : decode cX6_cut 46 = .ok (.aload_n 2, 1) := by decide +kernel
theorem dX6_cut_47 : decode cX6_cut 47 = .ok (.iload_n 1, 1) := by decide +kernel
theorem dX6_cut_48 : decode cX6_cut 48 = .ok (.invokevirtual 138, 3) := by decide +kernel
theorem dX6_cut_51 : decode cX6_cut 51 = .ok (.aload_n 2, 1) := by decide +kernel
theorem dX6_cut_52 : decode cX6_cut 52 = .ok (.getfield 130, 3) := by decide +kernel
theorem dX6_cut_55 : decode cX6_cut 55 = .ok (.ireturn, 1) := by decide +kernel
theorem dX6_button_0 : decode cX6_button 0 = .ok (.aload_n 0, 1) := by decide +kernel
theorem dX6_button_1 : decode cX6_button 1 = .ok (.iload_n 1, 1) := by decide +kernel
theorem dX6_button_2 : decode cX6_button 2 = .ok (.invokevirtual 142, 3) := by decide +kernel
theorem dX6_button_5 : decode cX6_button 5 = .ok (.astore_n 3, 1) := by decide +kernel
theorem dX6_button_6 : decode cX6_button 6 = .ok (.iload_n 2, 1) := by decide +kernel
theorem dX6_button_7 : decode cX6_button 7 = .ok (.tableswitch 94 0 8 #[49, 54, 59, 64, 69, 74, 79, 84, 89], 49) := by decide +kernel
theorem dX6_button_56 : decode cX6_button 56 = .ok (.aload_n 3, 1) := by decide +kernel
theorem dX6_button_57 : decode cX6_button 57 = .ok (.getfield 146, 3) := by decide +kernel
theorem dX6_button_60 : decode cX6_button 60 = .ok (.ireturn, 1) := by decide +kernel
theorem dX6_button_61 : decode cX6_button 61 = .ok (.aload_n 3, 1) := by decide +kernel
theorem dX6_button_62 : decode cX6_button 62 = .ok (.getfield 149, 3) := by decide +kernel
theorem dX6_button_65 : decode cX6_button 65 = .ok (.ireturn, 1) := by decide +kernel
theorem dX6_button_66 : decode cX6_button 66 = .ok (.aload_n 3, 1) := by decide +kernel
theorem dX6_button_67 : decode cX6_button 67 = .ok (.getfield 152, 3) := by decide +kernel
theorem dX6_button_70 : decode cX6_button 70 = .ok (.ireturn, 1) := by decide +kernel
theorem dX6_button_71 : decode cX6_button 71 = .ok (.aload_n 3, 1) := by decide +kernel
theorem dX6_button_72 : decode cX6_button 72 = .ok (.getfield 153, 3) := by decide +kernel
theorem dX6_button_75 : decode cX6_button 75 = .ok (.ireturn, 1) := by decide +kernel
theorem dX6_button_76 : decode cX6_button 76 = .ok (.aload_n 3, 1) := by decide +kernel
theorem dX6_button_77 : decode cX6_button 77 = .ok (.getfield 156, 3) := by decide +kernel
theorem dX6_button_80 : decode cX6_button 80 = .ok (.ireturn, 1) := by decide +kernel
theorem dX6_button_81 : decode cX6_button 81 = .ok (.aload_n 3, 1) := by decide +kernel
theorem dX6_button_82 : decode cX6_button 82 = .ok (.getfield 159, 3) := by decide +kernel
theorem dX6_button_85 : decode cX6_button 85 = .ok (.ireturn, 1) := by decide +kernel
theorem dX6_button_86 : decode cX6_button 86 = .ok (.aload_n 3, 1) := by decide +kernel
theorem dX6_button_87 : decode cX6_button 87 = .ok (.getfield 162, 3) := by decide +kernel
theorem dX6_button_90 : decode cX6_button 90 = .ok (.ireturn, 1) := by decide +kernel
theorem dX6_button_91 : decode cX6_button 91 = .ok (.aload_n 3, 1) := by decide +kernel
theorem dX6_button_92 : decode cX6_button 92 = .ok (.getfield 165, 3) := by decide +kernel
theorem dX6_button_95 : decode cX6_button 95 = .ok (.ireturn, 1) := by decide +kernel
theorem dX6_button_96 : decode cX6_button 96 = .ok (.aload_n 3, 1) := by decide +kernel
theorem dX6_button_97 : decode cX6_button 97 = .ok (.getfield 168, 3) := by decide +kernel
theorem dX6_button_100 : decode cX6_button 100 = .ok (.ireturn, 1) := by decide +kernel
theorem dX6_button_101 : decode cX6_button 101 = .ok (.new 101, 3) := by decide +kernel
theorem dX6_button_104 : decode cX6_button 104 = .ok (.dup, 1) := by decide +kernel
theorem dX6_button_105 : decode cX6_button 105 = .ok (.ldc 171, 2) := by decide +kernel
theorem dX6_button_107 : decode cX6_button 107 = .ok (.invokespecial 105, 3) := by decide +kernel
theorem dX6_button_110 : decode cX6_button 110 = .ok (.athrow, 1) := by decide +kernel
theorem dX6_stands_0 : decode cX6_stands 0 = .ok (.aload_n 0, 1) := by decide +kernel
theorem dX6_stands_1 : decode cX6_stands 1 = .ok (.iload_n 1, 1) := by decide +kernel
theorem dX6_stands_2 : decode cX6_stands 2 = .ok (.invokevirtual 173, 3) := by decide +kernel
theorem dX6_stands_5 : decode cX6_stands 5 = .ok (.astore_n 3, 1) := by decide +kernel
theorem dX6_stands_6 : decode cX6_stands 6 = .ok (.iload_n 2, 1) := by decide +kernel
theorem dX6_stands_7 : decode cX6_stands 7 = .ok (.iconst 1, 1) := by decide +kernel
theorem dX6_stands_8 : decode cX6_stands 8 = .ok (.sipush 10000, 3) := by decide +kernel
theorem dX6_stands_11 : decode cX6_stands 11 = .ok (.invokestatic 73, 3) := by decide +kernel
theorem dX6_stands_14 : decode cX6_stands 14 = .ok (.ifCond .ne 13, 3) := by decide +kernel
theorem dX6_stands_17 : decode cX6_stands 17 = .ok (.new 112, 3) := by decide +kernel
theorem dX6_stands_20 : decode cX6_stands 20 = .ok (.dup, 1) := by decide +kernel
theorem dX6_stands_21 : decode cX6_stands 21 = .ok (.ldc 177, 2) := by decide +kernel
theorem dX6_stands_23 : decode cX6_stands 23 = .ok (.invokespecial 116, 3) := by decide +kernel
theorem dX6_stands_26 : decode cX6_stands 26 = .ok (.athrow, 1) := by decide +kernel
theorem dX6_stands_27 : decode cX6_stands 27 = .ok (.aload_n 3, 1) := by decide +kernel
theorem dX6_stands_28 : decode cX6_stands 28 = .ok (.getfield 179, 3) := by decide +kernel
theorem dX6_stands_31 : decode cX6_stands 31 = .ok (.istore 4, 2) := by decide +kernel
theorem dX6_stands_33 : decode cX6_stands 33 = .ok (.aload_n 3, 1) := by decide +kernel
theorem dX6_stands_34 : decode cX6_stands 34 = .ok (.iload_n 2, 1) := by decide +kernel
theorem dX6_stands_35 : decode cX6_stands 35 = .ok (.putfield 179, 3) := by decide +kernel
theorem dX6_stands_38 : decode cX6_stands 38 = .ok (.iload 4, 2) := by decide +kernel
theorem dX6_stands_40 : decode cX6_stands 40 = .ok (.ireturn, 1) := by decide +kernel
theorem dX6_work_0 : decode cX6_work 0 = .ok (.aload_n 0, 1) := by decide +kernel
theorem dX6_work_1 : decode cX6_work 1 = .ok (.iload_n 1, 1) := by decide +kernel
theorem dX6_work_2 : decode cX6_work 2 = .ok (.invokevirtual 173, 3) := by decide +kernel
theorem dX6_work_5 : decode cX6_work 5 = .ok (.pop, 1) := by decide +kernel
theorem dX6_work_6 : decode cX6_work 6 = .ok (.aload_n 0, 1) := by decide +kernel
theorem dX6_work_7 : decode cX6_work 7 = .ok (.iload_n 1, 1) := by decide +kernel
theorem dX6_work_8 : decode cX6_work 8 = .ok (.aload_n 0, 1) := by decide +kernel
theorem dX6_work_9 : decode cX6_work 9 = .ok (.iload_n 2, 1) := by decide +kernel
theorem dX6_work_10 : decode cX6_work 10 = .ok (.invokevirtual 142, 3) := by decide +kernel
theorem dX6_work_13 : decode cX6_work 13 = .ok (.iload_n 3, 1) := by decide +kernel
theorem dX6_work_14 : decode cX6_work 14 = .ok (.invokevirtual 182, 3) := by decide +kernel
theorem dX6_work_17 : decode cX6_work 17 = .ok (.ireturn, 1) := by decide +kernel
theorem dX6_works_0 : decode cX6_works 0 = .ok (.aload_n 0, 1) := by decide +kernel
theorem dX6_works_1 : decode cX6_works 1 = .ok (.iload_n 1, 1) := by decide +kernel
theorem dX6_works_2 : decode cX6_works 2 = .ok (.invokevirtual 173, 3) := by decide +kernel
theorem dX6_works_5 : decode cX6_works 5 = .ok (.pop, 1) := by decide +kernel
theorem dX6_works_6 : decode cX6_works 6 = .ok (.iload_n 2, 1) := by decide +kernel
theorem dX6_works_7 : decode cX6_works 7 = .ok (.ifCond .lt 8, 3) := by decide +kernel
theorem dX6_works_10 : decode cX6_works 10 = .ok (.iload_n 2, 1) := by decide +kernel
theorem dX6_works_11 : decode cX6_works 11 = .ok (.iload_n 3, 1) := by decide +kernel
theorem dX6_works_12 : decode cX6_works 12 = .ok (.if_icmp .le 13, 3) := by decide +kernel
theorem dX6_works_15 : decode cX6_works 15 = .ok (.new 112, 3) := by decide +kernel
theorem dX6_works_18 : decode cX6_works 18 = .ok (.dup, 1) := by decide +kernel
theorem dX6_works_19 : decode cX6_works 19 = .ok (.ldc 186, 2) := by decide +kernel
theorem dX6_works_21 : decode cX6_works 21 = .ok (.invokespecial 116, 3) := by decide +kernel
theorem dX6_works_24 : decode cX6_works 24 = .ok (.athrow, 1) := by decide +kernel
theorem dX6_works_25 : decode cX6_works 25 = .ok (.iload_n 3, 1) := by decide +kernel
theorem dX6_works_26 : decode cX6_works 26 = .ok (.aload_n 0, 1) := by decide +kernel
theorem dX6_works_27 : decode cX6_works 27 = .ok (.getfield 25, 3) := by decide +kernel
theorem dX6_works_30 : decode cX6_works 30 = .ok (.invokestatic 188, 3) := by decide +kernel
theorem dX6_works_33 : decode cX6_works 33 = .ok (.istore 5, 2) := by decide +kernel
theorem dX6_works_35 : decode cX6_works 35 = .ok (.iconst 0, 1) := by decide +kernel
theorem dX6_works_36 : decode cX6_works 36 = .ok (.istore 6, 2) := by decide +kernel
theorem dX6_works_38 : decode cX6_works 38 = .ok (.iload_n 2, 1) := by decide +kernel
theorem dX6_works_39 : decode cX6_works 39 = .ok (.istore 7, 2) := by decide +kernel
theorem dX6_works_41 : decode cX6_works 41 = .ok (.iload 7, 2) := by decide +kernel
theorem dX6_works_43 : decode cX6_works 43 = .ok (.iload 5, 2) := by decide +kernel
theorem dX6_works_45 : decode cX6_works 45 = .ok (.if_icmp .ge 30, 3) := by decide +kernel
theorem dX6_works_48 : decode cX6_works 48 = .ok (.aload_n 0, 1) := by decide +kernel
theorem dX6_works_49 : decode cX6_works 49 = .ok (.iload_n 1, 1) := by decide +kernel
theorem dX6_works_50 : decode cX6_works 50 = .ok (.aload_n 0, 1) := by decide +kernel
theorem dX6_works_51 : decode cX6_works 51 = .ok (.getfield 21, 3) := by decide +kernel
theorem dX6_works_54 : decode cX6_works 54 = .ok (.iload 7, 2) := by decide +kernel
theorem dX6_works_56 : decode cX6_works 56 = .ok (.aaload, 1) := by decide +kernel
theorem dX6_works_57 : decode cX6_works 57 = .ok (.iload 4, 2) := by decide +kernel
theorem dX6_works_59 : decode cX6_works 59 = .ok (.invokevirtual 182, 3) := by decide +kernel
theorem dX6_works_62 : decode cX6_works 62 = .ok (.iconst 1, 1) := by decide +kernel
theorem dX6_works_63 : decode cX6_works 63 = .ok (.if_icmp .ne 6, 3) := by decide +kernel
theorem dX6_works_66 : decode cX6_works 66 = .ok (.iinc 6 1, 3) := by decide +kernel
theorem dX6_works_69 : decode cX6_works 69 = .ok (.iinc 7 1, 3) := by decide +kernel
theorem dX6_works_72 : decode cX6_works 72 = .ok (.goto (-31), 3) := by decide +kernel
theorem dX6_works_75 : decode cX6_works 75 = .ok (.iload 6, 2) := by decide +kernel
theorem dX6_works_77 : decode cX6_works 77 = .ok (.ireturn, 1) := by decide +kernel
theorem dX6_grind_0 : decode cX6_grind 0 = .ok (.aload_n 0, 1) := by decide +kernel
theorem dX6_grind_1 : decode cX6_grind 1 = .ok (.iload_n 1, 1) := by decide +kernel
theorem dX6_grind_2 : decode cX6_grind 2 = .ok (.invokevirtual 173, 3) := by decide +kernel
theorem dX6_grind_5 : decode cX6_grind 5 = .ok (.astore_n 2, 1) := by decide +kernel
theorem dX6_grind_6 : decode cX6_grind 6 = .ok (.aload_n 2, 1) := by decide +kernel
theorem dX6_grind_7 : decode cX6_grind 7 = .ok (.getfield 194, 3) := by decide +kernel
theorem dX6_grind_10 : decode cX6_grind 10 = .ok (.istore_n 3, 1) := by decide +kernel
theorem dX6_grind_11 : decode cX6_grind 11 = .ok (.aload_n 2, 1) := by decide +kernel
theorem dX6_grind_12 : decode cX6_grind 12 = .ok (.iconst 0, 1) := by decide +kernel
theorem dX6_grind_13 : decode cX6_grind 13 = .ok (.putfield 194, 3) := by decide +kernel
theorem dX6_grind_16 : decode cX6_grind 16 = .ok (.iload_n 3, 1) := by decide +kernel
theorem dX6_grind_17 : decode cX6_grind 17 = .ok (.ireturn, 1) := by decide +kernel
theorem dX6_machine_0 : decode cX6_machine 0 = .ok (.aload_n 0, 1) := by decide +kernel
theorem dX6_machine_1 : decode cX6_machine 1 = .ok (.iload_n 1, 1) := by decide +kernel
theorem dX6_machine_2 : decode cX6_machine 2 = .ok (.invokevirtual 173, 3) := by decide +kernel
theorem dX6_machine_5 : decode cX6_machine 5 = .ok (.astore_n 3, 1) := by decide +kernel
theorem dX6_machine_6 : decode cX6_machine 6 = .ok (.iload_n 2, 1) := by decide +kernel
theorem dX6_machine_7 : decode cX6_machine 7 = .ok (.tableswitch 49 0 3 #[29, 34, 39, 44], 29) := by decide +kernel
theorem dX6_machine_36 : decode cX6_machine 36 = .ok (.aload_n 3, 1) := by decide +kernel
theorem dX6_machine_37 : decode cX6_machine 37 = .ok (.getfield 194, 3) := by decide +kernel
theorem dX6_machine_40 : decode cX6_machine 40 = .ok (.ireturn, 1) := by decide +kernel
theorem dX6_machine_41 : decode cX6_machine 41 = .ok (.aload_n 3, 1) := by decide +kernel
theorem dX6_machine_42 : decode cX6_machine 42 = .ok (.getfield 179, 3) := by decide +kernel
theorem dX6_machine_45 : decode cX6_machine 45 = .ok (.ireturn, 1) := by decide +kernel
theorem dX6_machine_46 : decode cX6_machine 46 = .ok (.aload_n 3, 1) := by decide +kernel
theorem dX6_machine_47 : decode cX6_machine 47 = .ok (.getfield 197, 3) := by decide +kernel
theorem dX6_machine_50 : decode cX6_machine 50 = .ok (.ireturn, 1) := by decide +kernel
theorem dX6_machine_51 : decode cX6_machine 51 = .ok (.aload_n 3, 1) := by decide +kernel
theorem dX6_machine_52 : decode cX6_machine 52 = .ok (.getfield 200, 3) := by decide +kernel
theorem dX6_machine_55 : decode cX6_machine 55 = .ok (.ireturn, 1) := by decide +kernel
theorem dX6_machine_56 : decode cX6_machine 56 = .ok (.new 101, 3) := by decide +kernel
theorem dX6_machine_59 : decode cX6_machine 59 = .ok (.dup, 1) := by decide +kernel
theorem dX6_machine_60 : decode cX6_machine 60 = .ok (.ldc 203, 2) := by decide +kernel
theorem dX6_machine_62 : decode cX6_machine 62 = .ok (.invokespecial 105, 3) := by decide +kernel
theorem dX6_machine_65 : decode cX6_machine 65 = .ok (.athrow, 1) := by decide +kernel
theorem dX6_bleach_0 : decode cX6_bleach 0 = .ok (.aload_n 0, 1) := by decide +kernel
theorem dX6_bleach_1 : decode cX6_bleach 1 = .ok (.iload_n 1, 1) := by decide +kernel
theorem dX6_bleach_2 : decode cX6_bleach 2 = .ok (.invokevirtual 84, 3) := by decide +kernel
theorem dX6_bleach_5 : decode cX6_bleach 5 = .ok (.pop, 1) := by decide +kernel
theorem dX6_bleach_6 : decode cX6_bleach 6 = .ok (.iload_n 2, 1) := by decide +kernel
theorem dX6_bleach_7 : decode cX6_bleach 7 = .ok (.iconst 0, 1) := by decide +kernel
theorem dX6_bleach_8 : decode cX6_bleach 8 = .ok (.bipush 9, 2) := by decide +kernel
theorem dX6_bleach_10 : decode cX6_bleach 10 = .ok (.invokestatic 73, 3) := by decide +kernel
theorem dX6_bleach_13 : decode cX6_bleach 13 = .ok (.ifCond .ne 13, 3) := by decide +kernel
theorem dX6_bleach_16 : decode cX6_bleach 16 = .ok (.new 112, 3) := by decide +kernel
theorem dX6_bleach_19 : decode cX6_bleach 19 = .ok (.dup, 1) := by decide +kernel
theorem dX6_bleach_20 : decode cX6_bleach 20 = .ok (.ldc 205, 2) := by decide +kernel
theorem dX6_bleach_22 : decode cX6_bleach 22 = .ok (.invokespecial 116, 3) := by decide +kernel
theorem dX6_bleach_25 : decode cX6_bleach 25 = .ok (.athrow, 1) := by decide +kernel
theorem dX6_bleach_26 : decode cX6_bleach 26 = .ok (.iconst 0, 1) := by decide +kernel
theorem dX6_bleach_27 : decode cX6_bleach 27 = .ok (.istore_n 3, 1) := by decide +kernel
theorem dX6_bleach_28 : decode cX6_bleach 28 = .ok (.iconst 0, 1) := by decide +kernel
theorem dX6_bleach_29 : decode cX6_bleach 29 = .ok (.istore 4, 2) := by decide +kernel
theorem dX6_bleach_31 : decode cX6_bleach 31 = .ok (.iload 4, 2) := by decide +kernel
theorem dX6_bleach_33 : decode cX6_bleach 33 = .ok (.aload_n 0, 1) := by decide +kernel
theorem dX6_bleach_34 : decode cX6_bleach 34 = .ok (.getfield 25, 3) := by decide +kernel
theorem dX6_bleach_37 : decode cX6_bleach 37 = .ok (.if_icmp .ge 40, 3) := by decide +kernel
theorem dX6_bleach_40 : decode cX6_bleach 40 = .ok (.aload_n 0, 1) := by decide +kernel
theorem dX6_bleach_41 : decode cX6_bleach 41 = .ok (.getfield 21, 3) := by decide +kernel
theorem dX6_bleach_44 : decode cX6_bleach 44 = .ok (.iload 4, 2) := by decide +kernel
theorem dX6_bleach_46 : decode cX6_bleach 46 = .ok (.aaload, 1) := by decide +kernel
theorem dX6_bleach_47 : decode cX6_bleach 47 = .ok (.getfield 153, 3) := by decide +kernel
theorem dX6_bleach_50 : decode cX6_bleach 50 = .ok (.iload_n 1, 1) := by decide +kernel
theorem dX6_bleach_51 : decode cX6_bleach 51 = .ok (.if_icmp .ne 20, 3) := by decide +kernel
theorem dX6_bleach_54 : decode cX6_bleach 54 = .ok (.aload_n 0, 1) := by decide +kernel
theorem dX6_bleach_55 : decode cX6_bleach 55 = .ok (.getfield 21, 3) := by decide +kernel
theorem dX6_bleach_58 : decode cX6_bleach 58 = .ok (.iload 4, 2) := by decide +kernel
theorem dX6_bleach_60 : decode cX6_bleach 60 = .ok (.aaload, 1) := by decide +kernel
theorem dX6_bleach_61 : decode cX6_bleach 61 = .ok (.iload_n 2, 1) := by decide +kernel
theorem dX6_bleach_62 : decode cX6_bleach 62 = .ok (.invokevirtual 207, 3) := by decide +kernel
theorem dX6_bleach_65 : decode cX6_bleach 65 = .ok (.ifCond .eq 6, 3) := by decide +kernel
theorem dX6_bleach_68 : decode cX6_bleach 68 = .ok (.iinc 3 1, 3) := by decide +kernel
theorem dX6_bleach_71 : decode cX6_bleach 71 = .ok (.iinc 4 1, 3) := by decide +kernel
theorem dX6_bleach_74 : decode cX6_bleach 74 = .ok (.goto (-43), 3) := by decide +kernel
theorem dX6_bleach_77 : decode cX6_bleach 77 = .ok (.iload_n 3, 1) := by decide +kernel
theorem dX6_bleach_78 : decode cX6_bleach 78 = .ok (.ireturn, 1) := by decide +kernel
theorem dX6_card_0 : decode cX6_card 0 = .ok (.iload_n 1, 1) := by decide +kernel
theorem dX6_card_1 : decode cX6_card 1 = .ok (.invokestatic 108, 3) := by decide +kernel
theorem dX6_card_4 : decode cX6_card 4 = .ok (.ifCond .eq 31, 3) := by decide +kernel
theorem dX6_card_7 : decode cX6_card 7 = .ok (.iload_n 2, 1) := by decide +kernel
theorem dX6_card_8 : decode cX6_card 8 = .ok (.invokestatic 210, 3) := by decide +kernel
theorem dX6_card_11 : decode cX6_card 11 = .ok (.ifCond .eq 24, 3) := by decide +kernel
theorem dX6_card_14 : decode cX6_card 14 = .ok (.iload_n 3, 1) := by decide +kernel
theorem dX6_card_15 : decode cX6_card 15 = .ok (.iconst 0, 1) := by decide +kernel
theorem dX6_card_16 : decode cX6_card 16 = .ok (.bipush 9, 2) := by decide +kernel
theorem dX6_card_18 : decode cX6_card 18 = .ok (.invokestatic 73, 3) := by decide +kernel
theorem dX6_card_21 : decode cX6_card 21 = .ok (.ifCond .eq 14, 3) := by decide +kernel
theorem dX6_card_24 : decode cX6_card 24 = .ok (.iload 4, 2) := by decide +kernel
theorem dX6_card_26 : decode cX6_card 26 = .ok (.iconst 0, 1) := by decide +kernel
theorem dX6_card_27 : decode cX6_card 27 = .ok (.bipush 8, 2) := by decide +kernel
theorem dX6_card_29 : decode cX6_card 29 = .ok (.invokestatic 73, 3) := by decide +kernel
theorem dX6_card_32 : decode cX6_card 32 = .ok (.ifCond .ne 13, 3) := by decide +kernel
theorem dX6_card_35 : decode cX6_card 35 = .ok (.new 112, 3) := by decide +kernel
theorem dX6_card_38 : decode cX6_card 38 = .ok (.dup, 1) := by decide +kernel
theorem dX6_card_39 : decode cX6_card 39 = .ok (.ldc 213, 2) := by decide +kernel
theorem dX6_card_41 : decode cX6_card 41 = .ok (.invokespecial 116, 3) := by decide +kernel
theorem dX6_card_44 : decode cX6_card 44 = .ok (.athrow, 1) := by decide +kernel
theorem dX6_card_45 : decode cX6_card 45 = .ok (.aload_n 0, 1) := by decide +kernel
theorem dX6_card_46 : decode cX6_card 46 = .ok (.getfield 40, 3) := by decide +kernel
theorem dX6_card_49 : decode cX6_card 49 = .ok (.bipush 30, 2) := by decide +kernel
theorem dX6_card_51 : decode cX6_card 51 = .ok (.if_icmp .lt 5, 3) := by decide +kernel
theorem dX6_card_54 : decode cX6_card 54 = .ok (.iconst (-1), 1) := by decide +kernel
theorem dX6_card_55 : decode cX6_card 55 = .ok (.ireturn, 1) := by decide +kernel
theorem dX6_card_56 : decode cX6_card 56 = .ok (.new 34, 3) := by decide +kernel
theorem dX6_card_59 : decode cX6_card 59 = .ok (.dup, 1) := by decide +kernel
theorem dX6_card_60 : decode cX6_card 60 = .ok (.iload_n 1, 1) := by decide +kernel
theorem dX6_card_61 : decode cX6_card 61 = .ok (.iload_n 2, 1) := by decide +kernel
theorem dX6_card_62 : decode cX6_card 62 = .ok (.iload_n 3, 1) := by decide +kernel
theorem dX6_card_63 : decode cX6_card 63 = .ok (.invokespecial 215, 3) := by decide +kernel
theorem dX6_card_66 : decode cX6_card 66 = .ok (.astore 5, 2) := by decide +kernel
theorem dX6_card_68 : decode cX6_card 68 = .ok (.aload_n 0, 1) := by decide +kernel
theorem dX6_card_69 : decode cX6_card 69 = .ok (.aload 5, 2) := by decide +kernel
theorem dX6_card_71 : decode cX6_card 71 = .ok (.iload 4, 2) := by decide +kernel
theorem dX6_card_73 : decode cX6_card 73 = .ok (.invokevirtual 216, 3) := by decide +kernel
theorem dX6_card_76 : decode cX6_card 76 = .ok (.istore 6, 2) := by decide +kernel
theorem dX6_card_78 : decode cX6_card 78 = .ok (.iload 6, 2) := by decide +kernel
theorem dX6_card_80 : decode cX6_card 80 = .ok (.iconst (-1), 1) := by decide +kernel
theorem dX6_card_81 : decode cX6_card 81 = .ok (.if_icmp .ne 5, 3) := by decide +kernel
theorem dX6_card_84 : decode cX6_card 84 = .ok (.iconst (-1), 1) := by decide +kernel
theorem dX6_card_85 : decode cX6_card 85 = .ok (.ireturn, 1) := by decide +kernel
theorem dX6_card_86 : decode cX6_card 86 = .ok (.aload_n 0, 1) := by decide +kernel
theorem dX6_card_87 : decode cX6_card 87 = .ok (.aload 5, 2) := by decide +kernel
theorem dX6_card_89 : decode cX6_card 89 = .ok (.iload 6, 2) := by decide +kernel
theorem dX6_card_91 : decode cX6_card 91 = .ok (.iload 6, 2) := by decide +kernel
theorem dX6_card_93 : decode cX6_card 93 = .ok (.iload 4, 2) := by decide +kernel
theorem dX6_card_95 : decode cX6_card 95 = .ok (.iadd, 1) := by decide +kernel
theorem dX6_card_96 : decode cX6_card 96 = .ok (.invokevirtual 220, 3) := by decide +kernel
theorem dX6_card_99 : decode cX6_card 99 = .ok (.aload_n 0, 1) := by decide +kernel
theorem dX6_card_100 : decode cX6_card 100 = .ok (.getfield 36, 3) := by decide +kernel
theorem dX6_card_103 : decode cX6_card 103 = .ok (.aload_n 0, 1) := by decide +kernel
theorem dX6_card_104 : decode cX6_card 104 = .ok (.getfield 40, 3) := by decide +kernel
theorem dX6_card_107 : decode cX6_card 107 = .ok (.aload 5, 2) := by decide +kernel
theorem dX6_card_109 : decode cX6_card 109 = .ok (.aastore, 1) := by decide +kernel
theorem dX6_card_110 : decode cX6_card 110 = .ok (.aload_n 0, 1) := by decide +kernel
theorem dX6_card_111 : decode cX6_card 111 = .ok (.dup, 1) := by decide +kernel
theorem dX6_card_112 : decode cX6_card 112 = .ok (.getfield 40, 3) := by decide +kernel
theorem dX6_card_115 : decode cX6_card 115 = .ok (.iconst 1, 1) := by decide +kernel
theorem dX6_card_116 : decode cX6_card 116 = .ok (.iadd, 1) := by decide +kernel
theorem dX6_card_117 : decode cX6_card 117 = .ok (.putfield 40, 3) := by decide +kernel
theorem dX6_card_120 : decode cX6_card 120 = .ok (.aload_n 0, 1) := by decide +kernel
theorem dX6_card_121 : decode cX6_card 121 = .ok (.getfield 40, 3) := by decide +kernel
theorem dX6_card_124 : decode cX6_card 124 = .ok (.iconst 1, 1) := by decide +kernel
theorem dX6_card_125 : decode cX6_card 125 = .ok (.isub, 1) := by decide +kernel
theorem dX6_card_126 : decode cX6_card 126 = .ok (.ireturn, 1) := by decide +kernel
theorem dX6_cardOf_0 : decode cX6_cardOf 0 = .ok (.aload_n 0, 1) := by decide +kernel
theorem dX6_cardOf_1 : decode cX6_cardOf 1 = .ok (.iload_n 1, 1) := by decide +kernel
theorem dX6_cardOf_2 : decode cX6_cardOf 2 = .ok (.invokevirtual 224, 3) := by decide +kernel
theorem dX6_cardOf_5 : decode cX6_cardOf 5 = .ok (.astore_n 3, 1) := by decide +kernel
theorem dX6_cardOf_6 : decode cX6_cardOf 6 = .ok (.iload_n 2, 1) := by decide +kernel
theorem dX6_cardOf_7 : decode cX6_cardOf 7 = .ok (.tableswitch 67 0 5 #[37, 42, 47, 52, 57, 62], 37) := by decide +kernel
theorem dX6_cardOf_44 : decode cX6_cardOf 44 = .ok (.aload_n 3, 1) := by decide +kernel
theorem dX6_cardOf_45 : decode cX6_cardOf 45 = .ok (.getfield 228, 3) := by decide +kernel
theorem dX6_cardOf_48 : decode cX6_cardOf 48 = .ok (.ireturn, 1) := by decide +kernel
theorem dX6_cardOf_49 : decode cX6_cardOf 49 = .ok (.aload_n 3, 1) := by decide +kernel
theorem dX6_cardOf_50 : decode cX6_cardOf 50 = .ok (.getfield 229, 3) := by decide +kernel
theorem dX6_cardOf_53 : decode cX6_cardOf 53 = .ok (.ireturn, 1) := by decide +kernel
theorem dX6_cardOf_54 : decode cX6_cardOf 54 = .ok (.aload_n 3, 1) := by decide +kernel
theorem dX6_cardOf_55 : decode cX6_cardOf 55 = .ok (.getfield 230, 3) := by decide +kernel
theorem dX6_cardOf_58 : decode cX6_cardOf 58 = .ok (.ireturn, 1) := by decide +kernel
theorem dX6_cardOf_59 : decode cX6_cardOf 59 = .ok (.aload_n 3, 1) := by decide +kernel
theorem dX6_cardOf_60 : decode cX6_cardOf 60 = .ok (.getfield 231, 3) := by decide +kernel
theorem dX6_cardOf_63 : decode cX6_cardOf 63 = .ok (.ireturn, 1) := by decide +kernel
theorem dX6_cardOf_64 : decode cX6_cardOf 64 = .ok (.aload_n 3, 1) := by decide +kernel
theorem dX6_cardOf_65 : decode cX6_cardOf 65 = .ok (.getfield 234, 3) := by decide +kernel
theorem dX6_cardOf_68 : decode cX6_cardOf 68 = .ok (.ireturn, 1) := by decide +kernel
theorem dX6_cardOf_69 : decode cX6_cardOf 69 = .ok (.aload_n 3, 1) := by decide +kernel
theorem dX6_cardOf_70 : decode cX6_cardOf 70 = .ok (.getfield 237, 3) := by decide +kernel
theorem dX6_cardOf_73 : decode cX6_cardOf 73 = .ok (.ireturn, 1) := by decide +kernel
theorem dX6_cardOf_74 : decode cX6_cardOf 74 = .ok (.new 101, 3) := by decide +kernel
theorem dX6_cardOf_77 : decode cX6_cardOf 77 = .ok (.dup, 1) := by decide +kernel
theorem dX6_cardOf_78 : decode cX6_cardOf 78 = .ok (.ldc 240, 2) := by decide +kernel
theorem dX6_cardOf_80 : decode cX6_cardOf 80 = .ok (.invokespecial 105, 3) := by decide +kernel
theorem dX6_cardOf_83 : decode cX6_cardOf 83 = .ok (.athrow, 1) := by decide +kernel
theorem dX6_onCard_0 : decode cX6_onCard 0 = .ok (.aload_n 0, 1) := by decide +kernel
theorem dX6_onCard_1 : decode cX6_onCard 1 = .ok (.iload_n 1, 1) := by decide +kernel
theorem dX6_onCard_2 : decode cX6_onCard 2 = .ok (.invokevirtual 224, 3) := by decide +kernel
theorem dX6_onCard_5 : decode cX6_onCard 5 = .ok (.astore_n 3, 1) := by decide +kernel
theorem dX6_onCard_6 : decode cX6_onCard 6 = .ok (.iload_n 2, 1) := by decide +kernel
theorem dX6_onCard_7 : decode cX6_onCard 7 = .ok (.iconst 0, 1) := by decide +kernel
theorem dX6_onCard_8 : decode cX6_onCard 8 = .ok (.bipush 11, 2) := by decide +kernel
theorem dX6_onCard_10 : decode cX6_onCard 10 = .ok (.invokestatic 73, 3) := by decide +kernel
theorem dX6_onCard_13 : decode cX6_onCard 13 = .ok (.ifCond .ne 13, 3) := by decide +kernel
theorem dX6_onCard_16 : decode cX6_onCard 16 = .ok (.new 101, 3) := by decide +kernel
theorem dX6_onCard_19 : decode cX6_onCard 19 = .ok (.dup, 1) := by decide +kernel
theorem dX6_onCard_20 : decode cX6_onCard 20 = .ok (.ldc 242, 2) := by decide +kernel
theorem dX6_onCard_22 : decode cX6_onCard 22 = .ok (.invokespecial 105, 3) := by decide +kernel
theorem dX6_onCard_25 : decode cX6_onCard 25 = .ok (.athrow, 1) := by decide +kernel
theorem dX6_onCard_26 : decode cX6_onCard 26 = .ok (.aload_n 3, 1) := by decide +kernel
theorem dX6_onCard_27 : decode cX6_onCard 27 = .ok (.getfield 244, 3) := by decide +kernel
theorem dX6_onCard_30 : decode cX6_onCard 30 = .ok (.iload_n 2, 1) := by decide +kernel
theorem dX6_onCard_31 : decode cX6_onCard 31 = .ok (.iaload, 1) := by decide +kernel
theorem dX6_onCard_32 : decode cX6_onCard 32 = .ok (.ireturn, 1) := by decide +kernel
theorem dX6_order_0 : decode cX6_order 0 = .ok (.aload_n 0, 1) := by decide +kernel
theorem dX6_order_1 : decode cX6_order 1 = .ok (.getfield 49, 3) := by decide +kernel
theorem dX6_order_4 : decode cX6_order 4 = .ok (.bipush 30, 2) := by decide +kernel
theorem dX6_order_6 : decode cX6_order 6 = .ok (.if_icmp .ge 74, 3) := by decide +kernel
theorem dX6_order_9 : decode cX6_order 9 = .ok (.iload_n 1, 1) := by decide +kernel
theorem dX6_order_10 : decode cX6_order 10 = .ok (.iconst 1, 1) := by decide +kernel
theorem dX6_order_11 : decode cX6_order 11 = .ok (.bipush 9, 2) := by decide +kernel
theorem dX6_order_13 : decode cX6_order 13 = .ok (.invokestatic 73, 3) := by decide +kernel
theorem dX6_order_16 : decode cX6_order 16 = .ok (.ifCond .eq 64, 3) := by decide +kernel
theorem dX6_order_19 : decode cX6_order 19 = .ok (.iload_n 2, 1) := by decide +kernel
theorem dX6_order_20 : decode cX6_order 20 = .ok (.invokestatic 108, 3) := by decide +kernel
theorem dX6_order_23 : decode cX6_order 23 = .ok (.ifCond .eq 57, 3) := by decide +kernel
theorem dX6_order_26 : decode cX6_order 26 = .ok (.iload_n 3, 1) := by decide +kernel
theorem dX6_order_27 : decode cX6_order 27 = .ok (.invokestatic 210, 3) := by decide +kernel
theorem dX6_order_30 : decode cX6_order 30 = .ok (.ifCond .eq 50, 3) := by decide +kernel
theorem dX6_order_33 : decode cX6_order 33 = .ok (.iload 4, 2) := by decide +kernel
theorem dX6_order_35 : decode cX6_order 35 = .ok (.iconst 0, 1) := by decide +kernel
theorem dX6_order_36 : decode cX6_order 36 = .ok (.bipush 9, 2) := by decide +kernel
theorem dX6_order_38 : decode cX6_order 38 = .ok (.invokestatic 73, 3) := by decide +kernel
theorem dX6_order_41 : decode cX6_order 41 = .ok (.ifCond .eq 39, 3) := by decide +kernel
theorem dX6_order_44 : decode cX6_order 44 = .ok (.iload 5, 2) := by decide +kernel
theorem dX6_order_46 : decode cX6_order 46 = .ok (.iload 4, 2) := by decide +kernel
theorem dX6_order_48 : decode cX6_order 48 = .ok (.bipush 9, 2) := by decide +kernel
theorem dX6_order_50 : decode cX6_order 50 = .ok (.invokestatic 73, 3) := by decide +kernel
theorem dX6_order_53 : decode cX6_order 53 = .ok (.ifCond .eq 27, 3) := by decide +kernel
theorem dX6_order_56 : decode cX6_order 56 = .ok (.iload 6, 2) := by decide +kernel
theorem dX6_order_58 : decode cX6_order 58 = .ok (.iconst 0, 1) := by decide +kernel
theorem dX6_order_59 : decode cX6_order 59 = .ok (.sipush 999, 3) := by decide +kernel
theorem dX6_order_62 : decode cX6_order 62 = .ok (.invokestatic 73, 3) := by decide +kernel
theorem dX6_order_65 : decode cX6_order 65 = .ok (.ifCond .eq 15, 3) := by decide +kernel
theorem dX6_order_68 : decode cX6_order 68 = .ok (.iload 7, 2) := by decide +kernel
theorem dX6_order_70 : decode cX6_order 70 = .ok (.iconst 0, 1) := by decide +kernel
theorem dX6_order_71 : decode cX6_order 71 = .ok (.sipush 999, 3) := by decide +kernel
theorem dX6_order_74 : decode cX6_order 74 = .ok (.invokestatic 73, 3) := by decide +kernel
theorem dX6_order_77 : decode cX6_order 77 = .ok (.ifCond .ne 5, 3) := by decide +kernel
theorem dX6_order_80 : decode cX6_order 80 = .ok (.iconst (-1), 1) := by decide +kernel
theorem dX6_order_81 : decode cX6_order 81 = .ok (.ireturn, 1) := by decide +kernel
theorem dX6_order_82 : decode cX6_order 82 = .ok (.aload_n 0, 1) := by decide +kernel
theorem dX6_order_83 : decode cX6_order 83 = .ok (.getfield 45, 3) := by decide +kernel
theorem dX6_order_86 : decode cX6_order 86 = .ok (.aload_n 0, 1) := by decide +kernel
theorem dX6_order_87 : decode cX6_order 87 = .ok (.getfield 49, 3) := by decide +kernel
theorem dX6_order_90 : decode cX6_order 90 = .ok (.new 43, 3) := by decide +kernel
theorem dX6_order_93 : decode cX6_order 93 = .ok (.dup, 1) := by decide +kernel
theorem dX6_order_94 : decode cX6_order 94 = .ok (.iload_n 1, 1) := by decide +kernel
theorem dX6_order_95 : decode cX6_order 95 = .ok (.iload_n 2, 1) := by decide +kernel
theorem dX6_order_96 : decode cX6_order 96 = .ok (.iload_n 3, 1) := by decide +kernel
theorem dX6_order_97 : decode cX6_order 97 = .ok (.iload 4, 2) := by decide +kernel
theorem dX6_order_99 : decode cX6_order 99 = .ok (.iload 5, 2) := by decide +kernel
theorem dX6_order_101 : decode cX6_order 101 = .ok (.iload 6, 2) := by decide +kernel
theorem dX6_order_103 : decode cX6_order 103 = .ok (.iload 7, 2) := by decide +kernel
theorem dX6_order_105 : decode cX6_order 105 = .ok (.invokespecial 247, 3) := by decide +kernel
theorem dX6_order_108 : decode cX6_order 108 = .ok (.aastore, 1) := by decide +kernel
theorem dX6_order_109 : decode cX6_order 109 = .ok (.aload_n 0, 1) := by decide +kernel
theorem dX6_order_110 : decode cX6_order 110 = .ok (.aload_n 0, 1) := by decide +kernel
theorem dX6_order_111 : decode cX6_order 111 = .ok (.getfield 49, 3) := by decide +kernel
theorem dX6_order_114 : decode cX6_order 114 = .ok (.invokevirtual 250, 3) := by decide +kernel
theorem dX6_order_117 : decode cX6_order 117 = .ok (.aload_n 0, 1) := by decide +kernel
theorem dX6_order_118 : decode cX6_order 118 = .ok (.dup, 1) := by decide +kernel
theorem dX6_order_119 : decode cX6_order 119 = .ok (.getfield 49, 3) := by decide +kernel
theorem dX6_order_122 : decode cX6_order 122 = .ok (.iconst 1, 1) := by decide +kernel
theorem dX6_order_123 : decode cX6_order 123 = .ok (.iadd, 1) := by decide +kernel
theorem dX6_order_124 : decode cX6_order 124 = .ok (.putfield 49, 3) := by decide +kernel
theorem dX6_order_127 : decode cX6_order 127 = .ok (.aload_n 0, 1) := by decide +kernel
theorem dX6_order_128 : decode cX6_order 128 = .ok (.getfield 49, 3) := by decide +kernel
theorem dX6_order_131 : decode cX6_order 131 = .ok (.iconst 1, 1) := by decide +kernel
theorem dX6_order_132 : decode cX6_order 132 = .ok (.isub, 1) := by decide +kernel
theorem dX6_order_133 : decode cX6_order 133 = .ok (.ireturn, 1) := by decide +kernel
theorem dX6_send_0 : decode cX6_send 0 = .ok (.iload_n 1, 1) := by decide +kernel
theorem dX6_send_1 : decode cX6_send 1 = .ok (.iconst 0, 1) := by decide +kernel
theorem dX6_send_2 : decode cX6_send 2 = .ok (.sipush 2000, 3) := by decide +kernel
theorem dX6_send_5 : decode cX6_send 5 = .ok (.invokestatic 73, 3) := by decide +kernel
theorem dX6_send_8 : decode cX6_send 8 = .ok (.ifCond .ne 13, 3) := by decide +kernel
theorem dX6_send_11 : decode cX6_send 11 = .ok (.new 112, 3) := by decide +kernel
theorem dX6_send_14 : decode cX6_send 14 = .ok (.dup, 1) := by decide +kernel
theorem dX6_send_15 : decode cX6_send 15 = .ok (.ldc 254, 2) := by decide +kernel
theorem dX6_send_17 : decode cX6_send 17 = .ok (.invokespecial 116, 3) := by decide +kernel
theorem dX6_send_20 : decode cX6_send 20 = .ok (.athrow, 1) := by decide +kernel
theorem dX6_send_21 : decode cX6_send 21 = .ok (.iconst 0, 1) := by decide +kernel
theorem dX6_send_22 : decode cX6_send 22 = .ok (.istore_n 2, 1) := by decide +kernel
theorem dX6_send_23 : decode cX6_send 23 = .ok (.iconst 0, 1) := by decide +kernel
theorem dX6_send_24 : decode cX6_send 24 = .ok (.istore_n 3, 1) := by decide +kernel
theorem dX6_send_25 : decode cX6_send 25 = .ok (.iload_n 3, 1) := by decide +kernel
theorem dX6_send_26 : decode cX6_send 26 = .ok (.aload_n 0, 1) := by decide +kernel
theorem dX6_send_27 : decode cX6_send 27 = .ok (.getfield 49, 3) := by decide +kernel
theorem dX6_send_30 : decode cX6_send 30 = .ok (.if_icmp .ge 72, 3) := by decide +kernel
theorem dX6_send_33 : decode cX6_send 33 = .ok (.aload_n 0, 1) := by decide +kernel
theorem dX6_send_34 : decode cX6_send 34 = .ok (.getfield 52, 3) := by decide +kernel
theorem dX6_send_37 : decode cX6_send 37 = .ok (.iload_n 3, 1) := by decide +kernel
theorem dX6_send_38 : decode cX6_send 38 = .ok (.iaload, 1) := by decide +kernel
theorem dX6_send_39 : decode cX6_send 39 = .ok (.istore 4, 2) := by decide +kernel
theorem dX6_send_41 : decode cX6_send 41 = .ok (.aload_n 0, 1) := by decide +kernel
theorem dX6_send_42 : decode cX6_send 42 = .ok (.getfield 45, 3) := by decide +kernel
theorem dX6_send_45 : decode cX6_send 45 = .ok (.iload 4, 2) := by decide +kernel
theorem dX6_send_47 : decode cX6_send 47 = .ok (.aaload, 1) := by decide +kernel
theorem dX6_send_48 : decode cX6_send 48 = .ok (.astore 5, 2) := by decide +kernel
theorem dX6_send_50 : decode cX6_send 50 = .ok (.aload 5, 2) := by decide +kernel
theorem dX6_send_52 : decode cX6_send 52 = .ok (.getfield 256, 3) := by decide +kernel
theorem dX6_send_55 : decode cX6_send 55 = .ok (.iconst (-1), 1) := by decide +kernel
theorem dX6_send_56 : decode cX6_send 56 = .ok (.if_icmp .ne 40, 3) := by decide +kernel
theorem dX6_send_59 : decode cX6_send 59 = .ok (.aload_n 0, 1) := by decide +kernel
theorem dX6_send_60 : decode cX6_send 60 = .ok (.aload 5, 2) := by decide +kernel
theorem dX6_send_62 : decode cX6_send 62 = .ok (.invokevirtual 259, 3) := by decide +kernel
theorem dX6_send_65 : decode cX6_send 65 = .ok (.aload 5, 2) := by decide +kernel
theorem dX6_send_67 : decode cX6_send 67 = .ok (.getfield 263, 3) := by decide +kernel
theorem dX6_send_70 : decode cX6_send 70 = .ok (.if_icmp .lt 26, 3) := by decide +kernel
theorem dX6_send_73 : decode cX6_send 73 = .ok (.aload_n 0, 1) := by decide +kernel
theorem dX6_send_74 : decode cX6_send 74 = .ok (.aload 5, 2) := by decide +kernel
theorem dX6_send_76 : decode cX6_send 76 = .ok (.iload 4, 2) := by decide +kernel
theorem dX6_send_78 : decode cX6_send 78 = .ok (.invokevirtual 265, 3) := by decide +kernel
theorem dX6_send_81 : decode cX6_send 81 = .ok (.aload 5, 2) := by decide +kernel
theorem dX6_send_83 : decode cX6_send 83 = .ok (.iload_n 1, 1) := by decide +kernel
theorem dX6_send_84 : decode cX6_send 84 = .ok (.putfield 256, 3) := by decide +kernel
theorem dX6_send_87 : decode cX6_send 87 = .ok (.iload_n 2, 1) := by decide +kernel
theorem dX6_send_88 : decode cX6_send 88 = .ok (.aload 5, 2) := by decide +kernel
theorem dX6_send_90 : decode cX6_send 90 = .ok (.iload_n 1, 1) := by decide +kernel
theorem dX6_send_91 : decode cX6_send 91 = .ok (.invokevirtual 269, 3) := by decide +kernel
theorem dX6_send_94 : decode cX6_send 94 = .ok (.iadd, 1) := by decide +kernel
theorem dX6_send_95 : decode cX6_send 95 = .ok (.istore_n 2, 1) := by decide +kernel
theorem dX6_send_96 : decode cX6_send 96 = .ok (.iinc 3 1, 3) := by decide +kernel
theorem dX6_send_99 : decode cX6_send 99 = .ok (.goto (-74), 3) := by decide +kernel
theorem dX6_send_102 : decode cX6_send 102 = .ok (.aload_n 0, 1) := by decide +kernel
theorem dX6_send_103 : decode cX6_send 103 = .ok (.dup, 1) := by decide +kernel
theorem dX6_send_104 : decode cX6_send 104 = .ok (.getfield 69, 3) := by decide +kernel
theorem dX6_send_107 : decode cX6_send 107 = .ok (.iload_n 2, 1) := by decide +kernel
theorem dX6_send_108 : decode cX6_send 108 = .ok (.iadd, 1) := by decide +kernel
theorem dX6_send_109 : decode cX6_send 109 = .ok (.putfield 69, 3) := by decide +kernel
theorem dX6_send_112 : decode cX6_send 112 = .ok (.iload_n 2, 1) := by decide +kernel
theorem dX6_send_113 : decode cX6_send 113 = .ok (.ireturn, 1) := by decide +kernel
theorem dX6_sent_0 : decode cX6_sent 0 = .ok (.iload_n 1, 1) := by decide +kernel
theorem dX6_sent_1 : decode cX6_sent 1 = .ok (.iconst 0, 1) := by decide +kernel
theorem dX6_sent_2 : decode cX6_sent 2 = .ok (.aload_n 0, 1) := by decide +kernel
theorem dX6_sent_3 : decode cX6_sent 3 = .ok (.getfield 49, 3) := by decide +kernel
theorem dX6_sent_6 : decode cX6_sent 6 = .ok (.iconst 1, 1) := by decide +kernel
theorem dX6_sent_7 : decode cX6_sent 7 = .ok (.isub, 1) := by decide +kernel
theorem dX6_sent_8 : decode cX6_sent 8 = .ok (.invokestatic 73, 3) := by decide +kernel
theorem dX6_sent_11 : decode cX6_sent 11 = .ok (.ifCond .ne 14, 3) := by decide +kernel
theorem dX6_sent_14 : decode cX6_sent 14 = .ok (.new 101, 3) := by decide +kernel
theorem dX6_sent_17 : decode cX6_sent 17 = .ok (.dup, 1) := by decide +kernel
theorem dX6_sent_18 : decode cX6_sent 18 = .ok (.ldc_w 273, 3) := by decide +kernel
theorem dX6_sent_21 : decode cX6_sent 21 = .ok (.invokespecial 105, 3) := by decide +kernel
theorem dX6_sent_24 : decode cX6_sent 24 = .ok (.athrow, 1) := by decide +kernel
theorem dX6_sent_25 : decode cX6_sent 25 = .ok (.aload_n 0, 1) := by decide +kernel
theorem dX6_sent_26 : decode cX6_sent 26 = .ok (.getfield 45, 3) := by decide +kernel
theorem dX6_sent_29 : decode cX6_sent 29 = .ok (.iload_n 1, 1) := by decide +kernel
theorem dX6_sent_30 : decode cX6_sent 30 = .ok (.aaload, 1) := by decide +kernel
theorem dX6_sent_31 : decode cX6_sent 31 = .ok (.getfield 256, 3) := by decide +kernel
theorem dX6_sent_34 : decode cX6_sent 34 = .ok (.ireturn, 1) := by decide +kernel
theorem dX6_count_0 : decode cX6_count 0 = .ok (.iload_n 1, 1) := by decide +kernel
theorem dX6_count_1 : decode cX6_count 1 = .ok (.tableswitch 81 0 6 #[43, 48, 53, 58, 63, 68, 76], 43) := by decide +kernel
theorem dX6_count_44 : decode cX6_count 44 = .ok (.aload_n 0, 1) := by decide +kernel
theorem dX6_count_45 : decode cX6_count 45 = .ok (.getfield 15, 3) := by decide +kernel
theorem dX6_count_48 : decode cX6_count 48 = .ok (.ireturn, 1) := by decide +kernel
theorem dX6_count_49 : decode cX6_count 49 = .ok (.aload_n 0, 1) := by decide +kernel
theorem dX6_count_50 : decode cX6_count 50 = .ok (.getfield 25, 3) := by decide +kernel
theorem dX6_count_53 : decode cX6_count 53 = .ok (.ireturn, 1) := by decide +kernel
theorem dX6_count_54 : decode cX6_count 54 = .ok (.aload_n 0, 1) := by decide +kernel
theorem dX6_count_55 : decode cX6_count 55 = .ok (.getfield 40, 3) := by decide +kernel
theorem dX6_count_58 : decode cX6_count 58 = .ok (.ireturn, 1) := by decide +kernel
theorem dX6_count_59 : decode cX6_count 59 = .ok (.aload_n 0, 1) := by decide +kernel
theorem dX6_count_60 : decode cX6_count 60 = .ok (.getfield 49, 3) := by decide +kernel
theorem dX6_count_63 : decode cX6_count 63 = .ok (.ireturn, 1) := by decide +kernel
theorem dX6_count_64 : decode cX6_count 64 = .ok (.aload_n 0, 1) := by decide +kernel
theorem dX6_count_65 : decode cX6_count 65 = .ok (.getfield 66, 3) := by decide +kernel
theorem dX6_count_68 : decode cX6_count 68 = .ok (.ireturn, 1) := by decide +kernel
theorem dX6_count_69 : decode cX6_count 69 = .ok (.aload_n 0, 1) := by decide +kernel
theorem dX6_count_70 : decode cX6_count 70 = .ok (.getfield 40, 3) := by decide +kernel
theorem dX6_count_73 : decode cX6_count 73 = .ok (.bipush 12, 2) := by decide +kernel
theorem dX6_count_75 : decode cX6_count 75 = .ok (.imul, 1) := by decide +kernel
theorem dX6_count_76 : decode cX6_count 76 = .ok (.ireturn, 1) := by decide +kernel
theorem dX6_count_77 : decode cX6_count 77 = .ok (.aload_n 0, 1) := by decide +kernel
theorem dX6_count_78 : decode cX6_count 78 = .ok (.getfield 69, 3) := by decide +kernel
theorem dX6_count_81 : decode cX6_count 81 = .ok (.ireturn, 1) := by decide +kernel
theorem dX6_count_82 : decode cX6_count 82 = .ok (.new 101, 3) := by decide +kernel
theorem dX6_count_85 : decode cX6_count 85 = .ok (.dup, 1) := by decide +kernel
theorem dX6_count_86 : decode cX6_count 86 = .ok (.ldc_w 275, 3) := by decide +kernel
theorem dX6_count_89 : decode cX6_count 89 = .ok (.invokespecial 105, 3) := by decide +kernel
theorem dX6_count_92 : decode cX6_count 92 = .ok (.athrow, 1) := by decide +kernel
theorem dX6_isWithin_0 : decode cX6_isWithin 0 = .ok (.iload_n 0, 1) := by decide +kernel
theorem dX6_isWithin_1 : decode cX6_isWithin 1 = .ok (.iload_n 1, 1) := by decide +kernel
theorem dX6_isWithin_2 : decode cX6_isWithin 2 = .ok (.if_icmp .lt 12, 3) := by decide +kernel
theorem dX6_isWithin_5 : decode cX6_isWithin 5 = .ok (.iload_n 0, 1) := by decide +kernel
theorem dX6_isWithin_6 : decode cX6_isWithin 6 = .ok (.iload_n 2, 1) := by decide +kernel
theorem dX6_isWithin_7 : decode cX6_isWithin 7 = .ok (.if_icmp .gt 7, 3) := by decide +kernel
theorem dX6_isWithin_10 : decode cX6_isWithin 10 = .ok (.iconst 1, 1) := by decide +kernel
theorem dX6_isWithin_11 : decode cX6_isWithin 11 = .ok (.goto 4, 3) := by decide +kernel
theorem dX6_isWithin_14 : decode cX6_isWithin 14 = .ok (.iconst 0, 1) := by decide +kernel
theorem dX6_isWithin_15 : decode cX6_isWithin 15 = .ok (.ireturn, 1) := by decide +kernel
theorem dX6_isSize_0 : decode cX6_isSize 0 = .ok (.iload_n 0, 1) := by decide +kernel
theorem dX6_isSize_1 : decode cX6_isSize 1 = .ok (.iconst 1, 1) := by decide +kernel
theorem dX6_isSize_2 : decode cX6_isSize 2 = .ok (.iconst 3, 1) := by decide +kernel
theorem dX6_isSize_3 : decode cX6_isSize 3 = .ok (.invokestatic 73, 3) := by decide +kernel
theorem dX6_isSize_6 : decode cX6_isSize 6 = .ok (.ireturn, 1) := by decide +kernel
theorem dX6_isHoles_0 : decode cX6_isHoles 0 = .ok (.iload_n 0, 1) := by decide +kernel
theorem dX6_isHoles_1 : decode cX6_isHoles 1 = .ok (.iconst 2, 1) := by decide +kernel
theorem dX6_isHoles_2 : decode cX6_isHoles 2 = .ok (.if_icmp .eq 8, 3) := by decide +kernel
theorem dX6_isHoles_5 : decode cX6_isHoles 5 = .ok (.iload_n 0, 1) := by decide +kernel
theorem dX6_isHoles_6 : decode cX6_isHoles 6 = .ok (.iconst 4, 1) := by decide +kernel
theorem dX6_isHoles_7 : decode cX6_isHoles 7 = .ok (.if_icmp .ne 7, 3) := by decide +kernel
theorem dX6_isHoles_10 : decode cX6_isHoles 10 = .ok (.iconst 1, 1) := by decide +kernel
theorem dX6_isHoles_11 : decode cX6_isHoles 11 = .ok (.goto 4, 3) := by decide +kernel
theorem dX6_isHoles_14 : decode cX6_isHoles 14 = .ok (.iconst 0, 1) := by decide +kernel
theorem dX6_isHoles_15 : decode cX6_isHoles 15 = .ok (.ireturn, 1) := by decide +kernel
theorem dX6_shellNumbered_0 : decode cX6_shellNumbered 0 = .ok (.iload_n 1, 1) := by decide +kernel
theorem dX6_shellNumbered_1 : decode cX6_shellNumbered 1 = .ok (.iconst 0, 1) := by decide +kernel
theorem dX6_shellNumbered_2 : decode cX6_shellNumbered 2 = .ok (.aload_n 0, 1) := by decide +kernel
theorem dX6_shellNumbered_3 : decode cX6_shellNumbered 3 = .ok (.getfield 15, 3) := by decide +kernel
theorem dX6_shellNumbered_6 : decode cX6_shellNumbered 6 = .ok (.iconst 1, 1) := by decide +kernel
theorem dX6_shellNumbered_7 : decode cX6_shellNumbered 7 = .ok (.isub, 1) := by decide +kernel
theorem dX6_shellNumbered_8 : decode cX6_shellNumbered 8 = .ok (.invokestatic 73, 3) := by decide +kernel
theorem dX6_shellNumbered_11 : decode cX6_shellNumbered 11 = .ok (.ifCond .ne 14, 3) := by decide +kernel
theorem dX6_shellNumbered_14 : decode cX6_shellNumbered 14 = .ok (.new 101, 3) := by decide +kernel
theorem dX6_shellNumbered_17 : decode cX6_shellNumbered 17 = .ok (.dup, 1) := by decide +kernel
theorem dX6_shellNumbered_18 : decode cX6_shellNumbered 18 = .ok (.ldc_w 277, 3) := by decide +kernel
theorem dX6_shellNumbered_21 : decode cX6_shellNumbered 21 = .ok (.invokespecial 105, 3) := by decide +kernel
theorem dX6_shellNumbered_24 : decode cX6_shellNumbered 24 = .ok (.athrow, 1) := by decide +kernel
theorem dX6_shellNumbered_25 : decode cX6_shellNumbered 25 = .ok (.aload_n 0, 1) := by decide +kernel
theorem dX6_shellNumbered_26 : decode cX6_shellNumbered 26 = .ok (.getfield 11, 3) := by decide +kernel
theorem dX6_shellNumbered_29 : decode cX6_shellNumbered 29 = .ok (.iload_n 1, 1) := by decide +kernel
theorem dX6_shellNumbered_30 : decode cX6_shellNumbered 30 = .ok (.aaload, 1) := by decide +kernel
theorem dX6_shellNumbered_31 : decode cX6_shellNumbered 31 = .ok (.areturn, 1) := by decide +kernel
theorem dX6_buttonNumbered_0 : decode cX6_buttonNumbered 0 = .ok (.iload_n 1, 1) := by decide +kernel
theorem dX6_buttonNumbered_1 : decode cX6_buttonNumbered 1 = .ok (.iconst 0, 1) := by decide +kernel
theorem dX6_buttonNumbered_2 : decode cX6_buttonNumbered 2 = .ok (.aload_n 0, 1) := by decide +kernel
theorem dX6_buttonNumbered_3 : decode cX6_buttonNumbered 3 = .ok (.getfield 25, 3) := by decide +kernel
theorem dX6_buttonNumbered_6 : decode cX6_buttonNumbered 6 = .ok (.iconst 1, 1) := by decide +kernel
theorem dX6_buttonNumbered_7 : decode cX6_buttonNumbered 7 = .ok (.isub, 1) := by decide +kernel
theorem dX6_buttonNumbered_8 : decode cX6_buttonNumbered 8 = .ok (.invokestatic 73, 3) := by decide +kernel
theorem dX6_buttonNumbered_11 : decode cX6_buttonNumbered 11 = .ok (.ifCond .ne 14, 3) := by decide +kernel
theorem dX6_buttonNumbered_14 : decode cX6_buttonNumbered 14 = .ok (.new 101, 3) := by decide +kernel
theorem dX6_buttonNumbered_17 : decode cX6_buttonNumbered 17 = .ok (.dup, 1) := by decide +kernel
theorem dX6_buttonNumbered_18 : decode cX6_buttonNumbered 18 = .ok (.ldc_w 279, 3) := by decide +kernel
theorem dX6_buttonNumbered_21 : decode cX6_buttonNumbered 21 = .ok (.invokespecial 105, 3) := by decide +kernel
theorem dX6_buttonNumbered_24 : decode cX6_buttonNumbered 24 = .ok (.athrow, 1) := by decide +kernel
theorem dX6_buttonNumbered_25 : decode cX6_buttonNumbered 25 = .ok (.aload_n 0, 1) := by decide +kernel
theorem dX6_buttonNumbered_26 : decode cX6_buttonNumbered 26 = .ok (.getfield 21, 3) := by decide +kernel
theorem dX6_buttonNumbered_29 : decode cX6_buttonNumbered 29 = .ok (.iload_n 1, 1) := by decide +kernel
theorem dX6_buttonNumbered_30 : decode cX6_buttonNumbered 30 = .ok (.aaload, 1) := by decide +kernel
theorem dX6_buttonNumbered_31 : decode cX6_buttonNumbered 31 = .ok (.areturn, 1) := by decide +kernel
theorem dX6_machineNumbered_0 : decode cX6_machineNumbered 0 = .ok (.iload_n 1, 1) := by decide +kernel
theorem dX6_machineNumbered_1 : decode cX6_machineNumbered 1 = .ok (.iconst 0, 1) := by decide +kernel
theorem dX6_machineNumbered_2 : decode cX6_machineNumbered 2 = .ok (.iconst 5, 1) := by decide +kernel
theorem dX6_machineNumbered_3 : decode cX6_machineNumbered 3 = .ok (.invokestatic 73, 3) := by decide +kernel
theorem dX6_machineNumbered_6 : decode cX6_machineNumbered 6 = .ok (.ifCond .ne 14, 3) := by decide +kernel
theorem dX6_machineNumbered_9 : decode cX6_machineNumbered 9 = .ok (.new 101, 3) := by decide +kernel
theorem dX6_machineNumbered_12 : decode cX6_machineNumbered 12 = .ok (.dup, 1) := by decide +kernel
theorem dX6_machineNumbered_13 : decode cX6_machineNumbered 13 = .ok (.ldc_w 281, 3) := by decide +kernel
theorem dX6_machineNumbered_16 : decode cX6_machineNumbered 16 = .ok (.invokespecial 105, 3) := by decide +kernel
theorem dX6_machineNumbered_19 : decode cX6_machineNumbered 19 = .ok (.athrow, 1) := by decide +kernel
theorem dX6_machineNumbered_20 : decode cX6_machineNumbered 20 = .ok (.aload_n 0, 1) := by decide +kernel
theorem dX6_machineNumbered_21 : decode cX6_machineNumbered 21 = .ok (.getfield 30, 3) := by decide +kernel
theorem dX6_machineNumbered_24 : decode cX6_machineNumbered 24 = .ok (.iload_n 1, 1) := by decide +kernel
theorem dX6_machineNumbered_25 : decode cX6_machineNumbered 25 = .ok (.aaload, 1) := by decide +kernel
theorem dX6_machineNumbered_26 : decode cX6_machineNumbered 26 = .ok (.areturn, 1) := by decide +kernel
theorem dX6_cardNumbered_0 : decode cX6_cardNumbered 0 = .ok (.iload_n 1, 1) := by decide +kernel
theorem dX6_cardNumbered_1 : decode cX6_cardNumbered 1 = .ok (.iconst 0, 1) := by decide +kernel
theorem dX6_cardNumbered_2 : decode cX6_cardNumbered 2 = .ok (.aload_n 0, 1) := by decide +kernel
theorem dX6_cardNumbered_3 : decode cX6_cardNumbered 3 = .ok (.getfield 40, 3) := by decide +kernel
theorem dX6_cardNumbered_6 : decode cX6_cardNumbered 6 = .ok (.iconst 1, 1) := by decide +kernel
theorem dX6_cardNumbered_7 : decode cX6_cardNumbered 7 = .ok (.isub, 1) := by decide +kernel
theorem dX6_cardNumbered_8 : decode cX6_cardNumbered 8 = .ok (.invokestatic 73, 3) := by decide +kernel
theorem dX6_cardNumbered_11 : decode cX6_cardNumbered 11 = .ok (.ifCond .ne 14, 3) := by decide +kernel
theorem dX6_cardNumbered_14 : decode cX6_cardNumbered 14 = .ok (.new 101, 3) := by decide +kernel
theorem dX6_cardNumbered_17 : decode cX6_cardNumbered 17 = .ok (.dup, 1) := by decide +kernel
theorem dX6_cardNumbered_18 : decode cX6_cardNumbered 18 = .ok (.ldc_w 283, 3) := by decide +kernel
theorem dX6_cardNumbered_21 : decode cX6_cardNumbered 21 = .ok (.invokespecial 105, 3) := by decide +kernel
theorem dX6_cardNumbered_24 : decode cX6_cardNumbered 24 = .ok (.athrow, 1) := by decide +kernel
theorem dX6_cardNumbered_25 : decode cX6_cardNumbered 25 = .ok (.aload_n 0, 1) := by decide +kernel
theorem dX6_cardNumbered_26 : decode cX6_cardNumbered 26 = .ok (.getfield 36, 3) := by decide +kernel
theorem dX6_cardNumbered_29 : decode cX6_cardNumbered 29 = .ok (.iload_n 1, 1) := by decide +kernel
theorem dX6_cardNumbered_30 : decode cX6_cardNumbered 30 = .ok (.aaload, 1) := by decide +kernel
theorem dX6_cardNumbered_31 : decode cX6_cardNumbered 31 = .ok (.areturn, 1) := by decide +kernel
theorem dX6_takeButtons_0 : decode cX6_takeButtons 0 = .ok (.iconst 0, 1) := by decide +kernel
theorem dX6_takeButtons_1 : decode cX6_takeButtons 1 = .ok (.istore_n 3, 1) := by decide +kernel
theorem dX6_takeButtons_2 : decode cX6_takeButtons 2 = .ok (.iload_n 3, 1) := by decide +kernel
theorem dX6_takeButtons_3 : decode cX6_takeButtons 3 = .ok (.aload_n 1, 1) := by decide +kernel
theorem dX6_takeButtons_4 : decode cX6_takeButtons 4 = .ok (.getfield 88, 3) := by decide +kernel
theorem dX6_takeButtons_7 : decode cX6_takeButtons 7 = .ok (.aload_n 1, 1) := by decide +kernel
theorem dX6_takeButtons_8 : decode cX6_takeButtons 8 = .ok (.getfield 91, 3) := by decide +kernel
theorem dX6_takeButtons_11 : decode cX6_takeButtons 11 = .ok (.imul, 1) := by decide +kernel
theorem dX6_takeButtons_12 : decode cX6_takeButtons 12 = .ok (.if_icmp .ge 72, 3) := by decide +kernel
theorem dX6_takeButtons_15 : decode cX6_takeButtons 15 = .ok (.aload_n 1, 1) := by decide +kernel
theorem dX6_takeButtons_16 : decode cX6_takeButtons 16 = .ok (.getfield 135, 3) := by decide +kernel
theorem dX6_takeButtons_19 : decode cX6_takeButtons 19 = .ok (.iload_n 3, 1) := by decide +kernel
theorem dX6_takeButtons_20 : decode cX6_takeButtons 20 = .ok (.iaload, 1) := by decide +kernel
theorem dX6_takeButtons_21 : decode cX6_takeButtons 21 = .ok (.istore 4, 2) := by decide +kernel
theorem dX6_takeButtons_23 : decode cX6_takeButtons 23 = .ok (.iload 4, 2) := by decide +kernel
theorem dX6_takeButtons_25 : decode cX6_takeButtons 25 = .ok (.ifCond .le 53, 3) := by decide +kernel
theorem dX6_takeButtons_28 : decode cX6_takeButtons 28 = .ok (.aload_n 0, 1) := by decide +kernel
theorem dX6_takeButtons_29 : decode cX6_takeButtons 29 = .ok (.getfield 25, 3) := by decide +kernel
theorem dX6_takeButtons_32 : decode cX6_takeButtons 32 = .ok (.sipush 400, 3) := by decide +kernel
theorem dX6_takeButtons_35 : decode cX6_takeButtons 35 = .ok (.if_icmp .ge 43, 3) := by decide +kernel
theorem dX6_takeButtons_38 : decode cX6_takeButtons 38 = .ok (.aload_n 0, 1) := by decide +kernel
theorem dX6_takeButtons_39 : decode cX6_takeButtons 39 = .ok (.getfield 21, 3) := by decide +kernel
theorem dX6_takeButtons_42 : decode cX6_takeButtons 42 = .ok (.aload_n 0, 1) := by decide +kernel
theorem dX6_takeButtons_43 : decode cX6_takeButtons 43 = .ok (.getfield 25, 3) := by decide +kernel
theorem dX6_takeButtons_46 : decode cX6_takeButtons 46 = .ok (.new 19, 3) := by decide +kernel
theorem dX6_takeButtons_49 : decode cX6_takeButtons 49 = .ok (.dup, 1) := by decide +kernel
theorem dX6_takeButtons_50 : decode cX6_takeButtons 50 = .ok (.iload 4, 2) := by decide +kernel
theorem dX6_takeButtons_52 : decode cX6_takeButtons 52 = .ok (.aload_n 1, 1) := by decide +kernel
theorem dX6_takeButtons_53 : decode cX6_takeButtons 53 = .ok (.getfield 285, 3) := by decide +kernel
theorem dX6_takeButtons_56 : decode cX6_takeButtons 56 = .ok (.iload_n 3, 1) := by decide +kernel
theorem dX6_takeButtons_57 : decode cX6_takeButtons 57 = .ok (.iaload, 1) := by decide +kernel
theorem dX6_takeButtons_58 : decode cX6_takeButtons 58 = .ok (.aload_n 1, 1) := by decide +kernel
theorem dX6_takeButtons_59 : decode cX6_takeButtons 59 = .ok (.getfield 94, 3) := by decide +kernel
theorem dX6_takeButtons_62 : decode cX6_takeButtons 62 = .ok (.iload_n 2, 1) := by decide +kernel
theorem dX6_takeButtons_63 : decode cX6_takeButtons 63 = .ok (.iload_n 3, 1) := by decide +kernel
theorem dX6_takeButtons_64 : decode cX6_takeButtons 64 = .ok (.invokespecial 288, 3) := by decide +kernel
theorem dX6_takeButtons_67 : decode cX6_takeButtons 67 = .ok (.aastore, 1) := by decide +kernel
theorem dX6_takeButtons_68 : decode cX6_takeButtons 68 = .ok (.aload_n 0, 1) := by decide +kernel
theorem dX6_takeButtons_69 : decode cX6_takeButtons 69 = .ok (.dup, 1) := by decide +kernel
theorem dX6_takeButtons_70 : decode cX6_takeButtons 70 = .ok (.getfield 25, 3) := by decide +kernel
theorem dX6_takeButtons_73 : decode cX6_takeButtons 73 = .ok (.iconst 1, 1) := by decide +kernel
theorem dX6_takeButtons_74 : decode cX6_takeButtons 74 = .ok (.iadd, 1) := by decide +kernel
theorem dX6_takeButtons_75 : decode cX6_takeButtons 75 = .ok (.putfield 25, 3) := by decide +kernel
theorem dX6_takeButtons_78 : decode cX6_takeButtons 78 = .ok (.iinc 3 1, 3) := by decide +kernel
theorem dX6_takeButtons_81 : decode cX6_takeButtons 81 = .ok (.goto (-79), 3) := by decide +kernel
theorem dX6_takeButtons_84 : decode cX6_takeButtons 84 = .ok (.return_, 1) := by decide +kernel
theorem dX6_workOn_0 : decode cX6_workOn 0 = .ok (.iload_n 1, 1) := by decide +kernel
theorem dX6_workOn_1 : decode cX6_workOn 1 = .ok (.iconst 3, 1) := by decide +kernel
theorem dX6_workOn_2 : decode cX6_workOn 2 = .ok (.if_icmp .lt 7, 3) := by decide +kernel
theorem dX6_workOn_5 : decode cX6_workOn 5 = .ok (.iconst 1, 1) := by decide +kernel
theorem dX6_workOn_6 : decode cX6_workOn 6 = .ok (.goto 4, 3) := by decide +kernel
theorem dX6_workOn_9 : decode cX6_workOn 9 = .ok (.iconst 0, 1) := by decide +kernel
theorem dX6_workOn_10 : decode cX6_workOn 10 = .ok (.istore 4, 2) := by decide +kernel
theorem dX6_workOn_12 : decode cX6_workOn 12 = .ok (.iload 4, 2) := by decide +kernel
theorem dX6_workOn_14 : decode cX6_workOn 14 = .ok (.ifCond .eq 14, 3) := by decide +kernel
theorem dX6_workOn_17 : decode cX6_workOn 17 = .ok (.aload_n 2, 1) := by decide +kernel
theorem dX6_workOn_18 : decode cX6_workOn 18 = .ok (.iload_n 3, 1) := by decide +kernel
theorem dX6_workOn_19 : decode cX6_workOn 19 = .ok (.invokevirtual 291, 3) := by decide +kernel
theorem dX6_workOn_22 : decode cX6_workOn 22 = .ok (.ifCond .ne 15, 3) := by decide +kernel
theorem dX6_workOn_25 : decode cX6_workOn 25 = .ok (.goto 10, 3) := by decide +kernel
theorem dX6_workOn_28 : decode cX6_workOn 28 = .ok (.aload_n 2, 1) := by decide +kernel
theorem dX6_workOn_29 : decode cX6_workOn 29 = .ok (.getfield 156, 3) := by decide +kernel
theorem dX6_workOn_32 : decode cX6_workOn 32 = .ok (.ifCond .eq 5, 3) := by decide +kernel
theorem dX6_workOn_35 : decode cX6_workOn 35 = .ok (.iconst (-1), 1) := by decide +kernel
theorem dX6_workOn_36 : decode cX6_workOn 36 = .ok (.ireturn, 1) := by decide +kernel
theorem dX6_workOn_37 : decode cX6_workOn 37 = .ok (.aload_n 0, 1) := by decide +kernel
theorem dX6_workOn_38 : decode cX6_workOn 38 = .ok (.getfield 30, 3) := by decide +kernel
theorem dX6_workOn_41 : decode cX6_workOn 41 = .ok (.iload_n 1, 1) := by decide +kernel
theorem dX6_workOn_42 : decode cX6_workOn 42 = .ok (.aaload, 1) := by decide +kernel
theorem dX6_workOn_43 : decode cX6_workOn 43 = .ok (.aload_n 2, 1) := by decide +kernel
theorem dX6_workOn_44 : decode cX6_workOn 44 = .ok (.getfield 149, 3) := by decide +kernel
theorem dX6_workOn_47 : decode cX6_workOn 47 = .ok (.invokevirtual 294, 3) := by decide +kernel
theorem dX6_workOn_50 : decode cX6_workOn 50 = .ok (.ifCond .eq 25, 3) := by decide +kernel
theorem dX6_workOn_53 : decode cX6_workOn 53 = .ok (.aload_n 2, 1) := by decide +kernel
theorem dX6_workOn_54 : decode cX6_workOn 54 = .ok (.iconst 3, 1) := by decide +kernel
theorem dX6_workOn_55 : decode cX6_workOn 55 = .ok (.putfield 156, 3) := by decide +kernel
theorem dX6_workOn_58 : decode cX6_workOn 58 = .ok (.aload_n 2, 1) := by decide +kernel
theorem dX6_workOn_59 : decode cX6_workOn 59 = .ok (.iload_n 1, 1) := by decide +kernel
theorem dX6_workOn_60 : decode cX6_workOn 60 = .ok (.putfield 162, 3) := by decide +kernel
theorem dX6_workOn_63 : decode cX6_workOn 63 = .ok (.aload_n 0, 1) := by decide +kernel
theorem dX6_workOn_64 : decode cX6_workOn 64 = .ok (.dup, 1) := by decide +kernel
theorem dX6_workOn_65 : decode cX6_workOn 65 = .ok (.getfield 66, 3) := by decide +kernel
theorem dX6_workOn_68 : decode cX6_workOn 68 = .ok (.iconst 1, 1) := by decide +kernel
theorem dX6_workOn_69 : decode cX6_workOn 69 = .ok (.iadd, 1) := by decide +kernel
theorem dX6_workOn_70 : decode cX6_workOn 70 = .ok (.putfield 66, 3) := by decide +kernel
theorem dX6_workOn_73 : decode cX6_workOn 73 = .ok (.iconst 0, 1) := by decide +kernel
theorem dX6_workOn_74 : decode cX6_workOn 74 = .ok (.ireturn, 1) := by decide +kernel
theorem dX6_workOn_75 : decode cX6_workOn 75 = .ok (.iload 4, 2) := by decide +kernel
theorem dX6_workOn_77 : decode cX6_workOn 77 = .ok (.ifCond .eq 8, 3) := by decide +kernel
theorem dX6_workOn_80 : decode cX6_workOn 80 = .ok (.aload_n 2, 1) := by decide +kernel
theorem dX6_workOn_81 : decode cX6_workOn 81 = .ok (.iload_n 3, 1) := by decide +kernel
theorem dX6_workOn_82 : decode cX6_workOn 82 = .ok (.putfield 159, 3) := by decide +kernel
theorem dX6_workOn_85 : decode cX6_workOn 85 = .ok (.aload_n 2, 1) := by decide +kernel
theorem dX6_workOn_86 : decode cX6_workOn 86 = .ok (.iload 4, 2) := by decide +kernel
theorem dX6_workOn_88 : decode cX6_workOn 88 = .ok (.ifCond .eq 7, 3) := by decide +kernel
theorem dX6_workOn_91 : decode cX6_workOn 91 = .ok (.iconst 2, 1) := by decide +kernel
theorem dX6_workOn_92 : decode cX6_workOn 92 = .ok (.goto 4, 3) := by decide +kernel
theorem dX6_workOn_95 : decode cX6_workOn 95 = .ok (.iconst 1, 1) := by decide +kernel
theorem dX6_workOn_96 : decode cX6_workOn 96 = .ok (.putfield 156, 3) := by decide +kernel
theorem dX6_workOn_99 : decode cX6_workOn 99 = .ok (.iconst 1, 1) := by decide +kernel
theorem dX6_workOn_100 : decode cX6_workOn 100 = .ok (.ireturn, 1) := by decide +kernel
theorem dX6_bestLeastThickness_0 : decode cX6_bestLeastThickness 0 = .ok (.iconst (-1), 1) := by decide +kernel
theorem dX6_bestLeastThickness_1 : decode cX6_bestLeastThickness 1 = .ok (.istore_n 3, 1) := by decide +kernel
theorem dX6_bestLeastThickness_2 : decode cX6_bestLeastThickness 2 = .ok (.sipush 400, 3) := by decide +kernel
theorem dX6_bestLeastThickness_5 : decode cX6_bestLeastThickness 5 = .ok (.istore 4, 2) := by decide +kernel
theorem dX6_bestLeastThickness_7 : decode cX6_bestLeastThickness 7 = .ok (.iconst 1, 1) := by decide +kernel
theorem dX6_bestLeastThickness_8 : decode cX6_bestLeastThickness 8 = .ok (.istore 5, 2) := by decide +kernel
theorem dX6_bestLeastThickness_10 : decode cX6_bestLeastThickness 10 = .ok (.iload 5, 2) := by decide +kernel
theorem dX6_bestLeastThickness_12 : decode cX6_bestLeastThickness 12 = .ok (.bipush 9, 2) := by decide +kernel
theorem dX6_bestLeastThickness_14 : decode cX6_bestLeastThickness 14 = .ok (.if_icmp .gt 42, 3) := by decide +kernel
theorem dX6_bestLeastThickness_17 : decode cX6_bestLeastThickness 17 = .ok (.aload_n 0, 1) := by decide +kernel
theorem dX6_bestLeastThickness_18 : decode cX6_bestLeastThickness 18 = .ok (.aload_n 1, 1) := by decide +kernel
theorem dX6_bestLeastThickness_19 : decode cX6_bestLeastThickness 19 = .ok (.iload 5, 2) := by decide +kernel
theorem dX6_bestLeastThickness_21 : decode cX6_bestLeastThickness 21 = .ok (.iload 5, 2) := by decide +kernel
theorem dX6_bestLeastThickness_23 : decode cX6_bestLeastThickness 23 = .ok (.iload_n 2, 1) := by decide +kernel
theorem dX6_bestLeastThickness_24 : decode cX6_bestLeastThickness 24 = .ok (.iadd, 1) := by decide +kernel
theorem dX6_bestLeastThickness_25 : decode cX6_bestLeastThickness 25 = .ok (.invokevirtual 297, 3) := by decide +kernel
theorem dX6_bestLeastThickness_28 : decode cX6_bestLeastThickness 28 = .ok (.istore 6, 2) := by decide +kernel
theorem dX6_bestLeastThickness_30 : decode cX6_bestLeastThickness 30 = .ok (.iload 6, 2) := by decide +kernel
theorem dX6_bestLeastThickness_32 : decode cX6_bestLeastThickness 32 = .ok (.iconst (-1), 1) := by decide +kernel
theorem dX6_bestLeastThickness_33 : decode cX6_bestLeastThickness 33 = .ok (.if_icmp .eq 17, 3) := by decide +kernel
theorem dX6_bestLeastThickness_36 : decode cX6_bestLeastThickness 36 = .ok (.iload 6, 2) := by decide +kernel
theorem dX6_bestLeastThickness_38 : decode cX6_bestLeastThickness 38 = .ok (.iload 4, 2) := by decide +kernel
theorem dX6_bestLeastThickness_40 : decode cX6_bestLeastThickness 40 = .ok (.if_icmp .ge 10, 3) := by decide +kernel
theorem dX6_bestLeastThickness_43 : decode cX6_bestLeastThickness 43 = .ok (.iload 5, 2) := by decide +kernel
theorem dX6_bestLeastThickness_45 : decode cX6_bestLeastThickness 45 = .ok (.istore_n 3, 1) := by decide +kernel
theorem dX6_bestLeastThickness_46 : decode cX6_bestLeastThickness 46 = .ok (.iload 6, 2) := by decide +kernel
theorem dX6_bestLeastThickness_48 : decode cX6_bestLeastThickness 48 = .ok (.istore 4, 2) := by decide +kernel
theorem dX6_bestLeastThickness_50 : decode cX6_bestLeastThickness 50 = .ok (.iinc 5 1, 3) := by decide +kernel
theorem dX6_bestLeastThickness_53 : decode cX6_bestLeastThickness 53 = .ok (.goto (-43), 3) := by decide +kernel
theorem dX6_bestLeastThickness_56 : decode cX6_bestLeastThickness 56 = .ok (.iload_n 3, 1) := by decide +kernel
theorem dX6_bestLeastThickness_57 : decode cX6_bestLeastThickness 57 = .ok (.ireturn, 1) := by decide +kernel
theorem dX6_firstOfDozen_0 : decode cX6_firstOfDozen 0 = .ok (.iconst (-1), 1) := by decide +kernel
theorem dX6_firstOfDozen_1 : decode cX6_firstOfDozen 1 = .ok (.istore 4, 2) := by decide +kernel
theorem dX6_firstOfDozen_3 : decode cX6_firstOfDozen 3 = .ok (.iconst 0, 1) := by decide +kernel
theorem dX6_firstOfDozen_4 : decode cX6_firstOfDozen 4 = .ok (.istore 5, 2) := by decide +kernel
theorem dX6_firstOfDozen_6 : decode cX6_firstOfDozen 6 = .ok (.iconst 0, 1) := by decide +kernel
theorem dX6_firstOfDozen_7 : decode cX6_firstOfDozen 7 = .ok (.istore 6, 2) := by decide +kernel
theorem dX6_firstOfDozen_9 : decode cX6_firstOfDozen 9 = .ok (.iload 6, 2) := by decide +kernel
theorem dX6_firstOfDozen_11 : decode cX6_firstOfDozen 11 = .ok (.aload_n 0, 1) := by decide +kernel
theorem dX6_firstOfDozen_12 : decode cX6_firstOfDozen 12 = .ok (.getfield 25, 3) := by decide +kernel
theorem dX6_firstOfDozen_15 : decode cX6_firstOfDozen 15 = .ok (.if_icmp .ge 49, 3) := by decide +kernel
theorem dX6_firstOfDozen_18 : decode cX6_firstOfDozen 18 = .ok (.iload 5, 2) := by decide +kernel
theorem dX6_firstOfDozen_20 : decode cX6_firstOfDozen 20 = .ok (.bipush 12, 2) := by decide +kernel
theorem dX6_firstOfDozen_22 : decode cX6_firstOfDozen 22 = .ok (.if_icmp .ge 42, 3) := by decide +kernel
theorem dX6_firstOfDozen_25 : decode cX6_firstOfDozen 25 = .ok (.aload_n 0, 1) := by decide +kernel
theorem dX6_firstOfDozen_26 : decode cX6_firstOfDozen 26 = .ok (.getfield 21, 3) := by decide +kernel
theorem dX6_firstOfDozen_29 : decode cX6_firstOfDozen 29 = .ok (.iload 6, 2) := by decide +kernel
theorem dX6_firstOfDozen_31 : decode cX6_firstOfDozen 31 = .ok (.aaload, 1) := by decide +kernel
theorem dX6_firstOfDozen_32 : decode cX6_firstOfDozen 32 = .ok (.aload_n 1, 1) := by decide +kernel
theorem dX6_firstOfDozen_33 : decode cX6_firstOfDozen 33 = .ok (.iload_n 2, 1) := by decide +kernel
theorem dX6_firstOfDozen_34 : decode cX6_firstOfDozen 34 = .ok (.iload_n 3, 1) := by decide +kernel
theorem dX6_firstOfDozen_35 : decode cX6_firstOfDozen 35 = .ok (.invokevirtual 301, 3) := by decide +kernel
theorem dX6_firstOfDozen_38 : decode cX6_firstOfDozen 38 = .ok (.ifCond .eq 20, 3) := by decide +kernel
theorem dX6_firstOfDozen_41 : decode cX6_firstOfDozen 41 = .ok (.iload 5, 2) := by decide +kernel
theorem dX6_firstOfDozen_43 : decode cX6_firstOfDozen 43 = .ok (.ifCond .ne 8, 3) := by decide +kernel
theorem dX6_firstOfDozen_46 : decode cX6_firstOfDozen 46 = .ok (.iload 6, 2) := by decide +kernel
theorem dX6_firstOfDozen_48 : decode cX6_firstOfDozen 48 = .ok (.goto 5, 3) := by decide +kernel
theorem dX6_firstOfDozen_51 : decode cX6_firstOfDozen 51 = .ok (.iload 4, 2) := by decide +kernel
theorem dX6_firstOfDozen_53 : decode cX6_firstOfDozen 53 = .ok (.istore 4, 2) := by decide +kernel
theorem dX6_firstOfDozen_55 : decode cX6_firstOfDozen 55 = .ok (.iinc 5 1, 3) := by decide +kernel
theorem dX6_firstOfDozen_58 : decode cX6_firstOfDozen 58 = .ok (.iinc 6 1, 3) := by decide +kernel
theorem dX6_firstOfDozen_61 : decode cX6_firstOfDozen 61 = .ok (.goto (-52), 3) := by decide +kernel
theorem dX6_firstOfDozen_64 : decode cX6_firstOfDozen 64 = .ok (.iload 5, 2) := by decide +kernel
theorem dX6_firstOfDozen_66 : decode cX6_firstOfDozen 66 = .ok (.bipush 12, 2) := by decide +kernel
theorem dX6_firstOfDozen_68 : decode cX6_firstOfDozen 68 = .ok (.if_icmp .ne 8, 3) := by decide +kernel
theorem dX6_firstOfDozen_71 : decode cX6_firstOfDozen 71 = .ok (.iload 4, 2) := by decide +kernel
theorem dX6_firstOfDozen_73 : decode cX6_firstOfDozen 73 = .ok (.goto 4, 3) := by decide +kernel
theorem dX6_firstOfDozen_76 : decode cX6_firstOfDozen 76 = .ok (.iconst (-1), 1) := by decide +kernel
theorem dX6_firstOfDozen_77 : decode cX6_firstOfDozen 77 = .ok (.ireturn, 1) := by decide +kernel
theorem dX6_sewDozen_0 : decode cX6_sewDozen 0 = .ok (.iconst 0, 1) := by decide +kernel
theorem dX6_sewDozen_1 : decode cX6_sewDozen 1 = .ok (.istore 4, 2) := by decide +kernel
theorem dX6_sewDozen_3 : decode cX6_sewDozen 3 = .ok (.iconst 0, 1) := by decide +kernel
theorem dX6_sewDozen_4 : decode cX6_sewDozen 4 = .ok (.istore 5, 2) := by decide +kernel
theorem dX6_sewDozen_6 : decode cX6_sewDozen 6 = .ok (.iload 5, 2) := by decide +kernel
theorem dX6_sewDozen_8 : decode cX6_sewDozen 8 = .ok (.aload_n 0, 1) := by decide +kernel
theorem dX6_sewDozen_9 : decode cX6_sewDozen 9 = .ok (.getfield 25, 3) := by decide +kernel
theorem dX6_sewDozen_12 : decode cX6_sewDozen 12 = .ok (.if_icmp .ge 78, 3) := by decide +kernel
theorem dX6_sewDozen_15 : decode cX6_sewDozen 15 = .ok (.iload 4, 2) := by decide +kernel
theorem dX6_sewDozen_17 : decode cX6_sewDozen 17 = .ok (.bipush 12, 2) := by decide +kernel
theorem dX6_sewDozen_19 : decode cX6_sewDozen 19 = .ok (.if_icmp .ge 71, 3) := by decide +kernel
theorem dX6_sewDozen_22 : decode cX6_sewDozen 22 = .ok (.aload_n 0, 1) := by decide +kernel
theorem dX6_sewDozen_23 : decode cX6_sewDozen 23 = .ok (.getfield 21, 3) := by decide +kernel
theorem dX6_sewDozen_26 : decode cX6_sewDozen 26 = .ok (.iload 5, 2) := by decide +kernel
theorem dX6_sewDozen_28 : decode cX6_sewDozen 28 = .ok (.aaload, 1) := by decide +kernel
theorem dX6_sewDozen_29 : decode cX6_sewDozen 29 = .ok (.aload_n 1, 1) := by decide +kernel
theorem dX6_sewDozen_30 : decode cX6_sewDozen 30 = .ok (.iload_n 2, 1) := by decide +kernel
theorem dX6_sewDozen_31 : decode cX6_sewDozen 31 = .ok (.iload_n 3, 1) := by decide +kernel
theorem dX6_sewDozen_32 : decode cX6_sewDozen 32 = .ok (.invokevirtual 301, 3) := by decide +kernel
theorem dX6_sewDozen_35 : decode cX6_sewDozen 35 = .ok (.ifCond .eq 49, 3) := by decide +kernel
theorem dX6_sewDozen_38 : decode cX6_sewDozen 38 = .ok (.aload_n 1, 1) := by decide +kernel
theorem dX6_sewDozen_39 : decode cX6_sewDozen 39 = .ok (.iload 4, 2) := by decide +kernel
theorem dX6_sewDozen_41 : decode cX6_sewDozen 41 = .ok (.iload 5, 2) := by decide +kernel
theorem dX6_sewDozen_43 : decode cX6_sewDozen 43 = .ok (.aload_n 0, 1) := by decide +kernel
theorem dX6_sewDozen_44 : decode cX6_sewDozen 44 = .ok (.getfield 21, 3) := by decide +kernel
theorem dX6_sewDozen_47 : decode cX6_sewDozen 47 = .ok (.iload 5, 2) := by decide +kernel
theorem dX6_sewDozen_49 : decode cX6_sewDozen 49 = .ok (.aaload, 1) := by decide +kernel
theorem dX6_sewDozen_50 : decode cX6_sewDozen 50 = .ok (.getfield 149, 3) := by decide +kernel
theorem dX6_sewDozen_53 : decode cX6_sewDozen 53 = .ok (.invokevirtual 305, 3) := by decide +kernel
theorem dX6_sewDozen_56 : decode cX6_sewDozen 56 = .ok (.aload_n 0, 1) := by decide +kernel
theorem dX6_sewDozen_57 : decode cX6_sewDozen 57 = .ok (.getfield 21, 3) := by decide +kernel
theorem dX6_sewDozen_60 : decode cX6_sewDozen 60 = .ok (.iload 5, 2) := by decide +kernel
theorem dX6_sewDozen_62 : decode cX6_sewDozen 62 = .ok (.aaload, 1) := by decide +kernel
theorem dX6_sewDozen_63 : decode cX6_sewDozen 63 = .ok (.iconst 4, 1) := by decide +kernel
theorem dX6_sewDozen_64 : decode cX6_sewDozen 64 = .ok (.putfield 156, 3) := by decide +kernel
theorem dX6_sewDozen_67 : decode cX6_sewDozen 67 = .ok (.aload_n 0, 1) := by decide +kernel
theorem dX6_sewDozen_68 : decode cX6_sewDozen 68 = .ok (.getfield 21, 3) := by decide +kernel
theorem dX6_sewDozen_71 : decode cX6_sewDozen 71 = .ok (.iload 5, 2) := by decide +kernel
theorem dX6_sewDozen_73 : decode cX6_sewDozen 73 = .ok (.aaload, 1) := by decide +kernel
theorem dX6_sewDozen_74 : decode cX6_sewDozen 74 = .ok (.aload_n 0, 1) := by decide +kernel
theorem dX6_sewDozen_75 : decode cX6_sewDozen 75 = .ok (.getfield 40, 3) := by decide +kernel
theorem dX6_sewDozen_78 : decode cX6_sewDozen 78 = .ok (.putfield 165, 3) := by decide +kernel
theorem dX6_sewDozen_81 : decode cX6_sewDozen 81 = .ok (.iinc 4 1, 3) := by decide +kernel
theorem dX6_sewDozen_84 : decode cX6_sewDozen 84 = .ok (.iinc 5 1, 3) := by decide +kernel
theorem dX6_sewDozen_87 : decode cX6_sewDozen 87 = .ok (.goto (-81), 3) := by decide +kernel
theorem dX6_sewDozen_90 : decode cX6_sewDozen 90 = .ok (.return_, 1) := by decide +kernel
theorem dX6_queueByDay_0 : decode cX6_queueByDay 0 = .ok (.iload_n 1, 1) := by decide +kernel
theorem dX6_queueByDay_1 : decode cX6_queueByDay 1 = .ok (.istore_n 2, 1) := by decide +kernel
theorem dX6_queueByDay_2 : decode cX6_queueByDay 2 = .ok (.iload_n 2, 1) := by decide +kernel
theorem dX6_queueByDay_3 : decode cX6_queueByDay 3 = .ok (.ifCond .le 51, 3) := by decide +kernel
theorem dX6_queueByDay_6 : decode cX6_queueByDay 6 = .ok (.aload_n 0, 1) := by decide +kernel
theorem dX6_queueByDay_7 : decode cX6_queueByDay 7 = .ok (.getfield 45, 3) := by decide +kernel
theorem dX6_queueByDay_10 : decode cX6_queueByDay 10 = .ok (.aload_n 0, 1) := by decide +kernel
theorem dX6_queueByDay_11 : decode cX6_queueByDay 11 = .ok (.getfield 52, 3) := by decide +kernel
theorem dX6_queueByDay_14 : decode cX6_queueByDay 14 = .ok (.iload_n 2, 1) := by decide +kernel
theorem dX6_queueByDay_15 : decode cX6_queueByDay 15 = .ok (.iconst 1, 1) := by decide +kernel
theorem dX6_queueByDay_16 : decode cX6_queueByDay 16 = .ok (.isub, 1) := by decide +kernel
theorem dX6_queueByDay_17 : decode cX6_queueByDay 17 = .ok (.iaload, 1) := by decide +kernel
theorem dX6_queueByDay_18 : decode cX6_queueByDay 18 = .ok (.aaload, 1) := by decide +kernel
theorem dX6_queueByDay_19 : decode cX6_queueByDay 19 = .ok (.getfield 308, 3) := by decide +kernel
theorem dX6_queueByDay_22 : decode cX6_queueByDay 22 = .ok (.aload_n 0, 1) := by decide +kernel
theorem dX6_queueByDay_23 : decode cX6_queueByDay 23 = .ok (.getfield 45, 3) := by decide +kernel
theorem dX6_queueByDay_26 : decode cX6_queueByDay 26 = .ok (.iload_n 1, 1) := by decide +kernel
theorem dX6_queueByDay_27 : decode cX6_queueByDay 27 = .ok (.aaload, 1) := by decide +kernel
theorem dX6_queueByDay_28 : decode cX6_queueByDay 28 = .ok (.getfield 308, 3) := by decide +kernel
theorem dX6_queueByDay_31 : decode cX6_queueByDay 31 = .ok (.if_icmp .le 23, 3) := by decide +kernel
theorem dX6_queueByDay_34 : decode cX6_queueByDay 34 = .ok (.aload_n 0, 1) := by decide +kernel
theorem dX6_queueByDay_35 : decode cX6_queueByDay 35 = .ok (.getfield 52, 3) := by decide +kernel
theorem dX6_queueByDay_38 : decode cX6_queueByDay 38 = .ok (.iload_n 2, 1) := by decide +kernel
theorem dX6_queueByDay_39 : decode cX6_queueByDay 39 = .ok (.aload_n 0, 1) := by decide +kernel
theorem dX6_queueByDay_40 : decode cX6_queueByDay 40 = .ok (.getfield 52, 3) := by decide +kernel
theorem dX6_queueByDay_43 : decode cX6_queueByDay 43 = .ok (.iload_n 2, 1) := by decide +kernel
theorem dX6_queueByDay_44 : decode cX6_queueByDay 44 = .ok (.iconst 1, 1) := by decide +kernel
theorem dX6_queueByDay_45 : decode cX6_queueByDay 45 = .ok (.isub, 1) := by decide +kernel
theorem dX6_queueByDay_46 : decode cX6_queueByDay 46 = .ok (.iaload, 1) := by decide +kernel
theorem dX6_queueByDay_47 : decode cX6_queueByDay 47 = .ok (.iastore, 1) := by decide +kernel
theorem dX6_queueByDay_48 : decode cX6_queueByDay 48 = .ok (.iinc 2 (-1), 3) := by decide +kernel
theorem dX6_queueByDay_51 : decode cX6_queueByDay 51 = .ok (.goto (-49), 3) := by decide +kernel
theorem dX6_queueByDay_54 : decode cX6_queueByDay 54 = .ok (.aload_n 0, 1) := by decide +kernel
theorem dX6_queueByDay_55 : decode cX6_queueByDay 55 = .ok (.getfield 52, 3) := by decide +kernel
theorem dX6_queueByDay_58 : decode cX6_queueByDay 58 = .ok (.iload_n 2, 1) := by decide +kernel
theorem dX6_queueByDay_59 : decode cX6_queueByDay 59 = .ok (.iload_n 1, 1) := by decide +kernel
theorem dX6_queueByDay_60 : decode cX6_queueByDay 60 = .ok (.iastore, 1) := by decide +kernel
theorem dX6_queueByDay_61 : decode cX6_queueByDay 61 = .ok (.return_, 1) := by decide +kernel
theorem dX6_fittingCards_0 : decode cX6_fittingCards 0 = .ok (.iconst 0, 1) := by decide +kernel
theorem dX6_fittingCards_1 : decode cX6_fittingCards 1 = .ok (.istore_n 2, 1) := by decide +kernel
theorem dX6_fittingCards_2 : decode cX6_fittingCards 2 = .ok (.iconst 0, 1) := by decide +kernel
theorem dX6_fittingCards_3 : decode cX6_fittingCards 3 = .ok (.istore_n 3, 1) := by decide +kernel
theorem dX6_fittingCards_4 : decode cX6_fittingCards 4 = .ok (.iload_n 3, 1) := by decide +kernel
theorem dX6_fittingCards_5 : decode cX6_fittingCards 5 = .ok (.aload_n 0, 1) := by decide +kernel
theorem dX6_fittingCards_6 : decode cX6_fittingCards 6 = .ok (.getfield 40, 3) := by decide +kernel
theorem dX6_fittingCards_9 : decode cX6_fittingCards 9 = .ok (.if_icmp .ge 25, 3) := by decide +kernel
theorem dX6_fittingCards_12 : decode cX6_fittingCards 12 = .ok (.aload_n 1, 1) := by decide +kernel
theorem dX6_fittingCards_13 : decode cX6_fittingCards 13 = .ok (.aload_n 0, 1) := by decide +kernel
theorem dX6_fittingCards_14 : decode cX6_fittingCards 14 = .ok (.getfield 36, 3) := by decide +kernel
theorem dX6_fittingCards_17 : decode cX6_fittingCards 17 = .ok (.iload_n 3, 1) := by decide +kernel
theorem dX6_fittingCards_18 : decode cX6_fittingCards 18 = .ok (.aaload, 1) := by decide +kernel
theorem dX6_fittingCards_19 : decode cX6_fittingCards 19 = .ok (.invokevirtual 311, 3) := by decide +kernel
theorem dX6_fittingCards_22 : decode cX6_fittingCards 22 = .ok (.ifCond .eq 6, 3) := by decide +kernel
theorem dX6_fittingCards_25 : decode cX6_fittingCards 25 = .ok (.iinc 2 1, 3) := by decide +kernel
theorem dX6_fittingCards_28 : decode cX6_fittingCards 28 = .ok (.iinc 3 1, 3) := by decide +kernel
theorem dX6_fittingCards_31 : decode cX6_fittingCards 31 = .ok (.goto (-27), 3) := by decide +kernel
theorem dX6_fittingCards_34 : decode cX6_fittingCards 34 = .ok (.iload_n 2, 1) := by decide +kernel
theorem dX6_fittingCards_35 : decode cX6_fittingCards 35 = .ok (.ireturn, 1) := by decide +kernel
theorem dX6_giveCards_0 : decode cX6_giveCards 0 = .ok (.iconst 0, 1) := by decide +kernel
theorem dX6_giveCards_1 : decode cX6_giveCards 1 = .ok (.istore_n 3, 1) := by decide +kernel
theorem dX6_giveCards_2 : decode cX6_giveCards 2 = .ok (.iconst 0, 1) := by decide +kernel
theorem dX6_giveCards_3 : decode cX6_giveCards 3 = .ok (.istore 4, 2) := by decide +kernel
theorem dX6_giveCards_5 : decode cX6_giveCards 5 = .ok (.iload 4, 2) := by decide +kernel
theorem dX6_giveCards_7 : decode cX6_giveCards 7 = .ok (.aload_n 0, 1) := by decide +kernel
theorem dX6_giveCards_8 : decode cX6_giveCards 8 = .ok (.getfield 40, 3) := by decide +kernel
theorem dX6_giveCards_11 : decode cX6_giveCards 11 = .ok (.if_icmp .ge 45, 3) := by decide +kernel
theorem dX6_giveCards_14 : decode cX6_giveCards 14 = .ok (.iload_n 3, 1) := by decide +kernel
theorem dX6_giveCards_15 : decode cX6_giveCards 15 = .ok (.aload_n 1, 1) := by decide +kernel
theorem dX6_giveCards_16 : decode cX6_giveCards 16 = .ok (.getfield 263, 3) := by decide +kernel
theorem dX6_giveCards_19 : decode cX6_giveCards 19 = .ok (.if_icmp .ge 37, 3) := by decide +kernel
theorem dX6_giveCards_22 : decode cX6_giveCards 22 = .ok (.aload_n 1, 1) := by decide +kernel
theorem dX6_giveCards_23 : decode cX6_giveCards 23 = .ok (.aload_n 0, 1) := by decide +kernel
theorem dX6_giveCards_24 : decode cX6_giveCards 24 = .ok (.getfield 36, 3) := by decide +kernel
theorem dX6_giveCards_27 : decode cX6_giveCards 27 = .ok (.iload 4, 2) := by decide +kernel
theorem dX6_giveCards_29 : decode cX6_giveCards 29 = .ok (.aaload, 1) := by decide +kernel
theorem dX6_giveCards_30 : decode cX6_giveCards 30 = .ok (.invokevirtual 311, 3) := by decide +kernel
theorem dX6_giveCards_33 : decode cX6_giveCards 33 = .ok (.ifCond .eq 17, 3) := by decide +kernel
theorem dX6_giveCards_36 : decode cX6_giveCards 36 = .ok (.aload_n 0, 1) := by decide +kernel
theorem dX6_giveCards_37 : decode cX6_giveCards 37 = .ok (.getfield 36, 3) := by decide +kernel
theorem dX6_giveCards_40 : decode cX6_giveCards 40 = .ok (.iload 4, 2) := by decide +kernel
theorem dX6_giveCards_42 : decode cX6_giveCards 42 = .ok (.aaload, 1) := by decide +kernel
theorem dX6_giveCards_43 : decode cX6_giveCards 43 = .ok (.iload_n 2, 1) := by decide +kernel
theorem dX6_giveCards_44 : decode cX6_giveCards 44 = .ok (.putfield 237, 3) := by decide +kernel
theorem dX6_giveCards_47 : decode cX6_giveCards 47 = .ok (.iinc 3 1, 3) := by decide +kernel
theorem dX6_giveCards_50 : decode cX6_giveCards 50 = .ok (.iinc 4 1, 3) := by decide +kernel
theorem dX6_giveCards_53 : decode cX6_giveCards 53 = .ok (.goto (-48), 3) := by decide +kernel
theorem dX6_giveCards_56 : decode cX6_giveCards 56 = .ok (.return_, 1) := by decide +kernel
