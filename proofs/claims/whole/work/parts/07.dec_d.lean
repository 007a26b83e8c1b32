theorem dX7_stands_42 : decode cX7_stands 42 = .ok (.aload_n 0, 1) := by decide +kernel
theorem dX7_stands_43 : decode cX7_stands 43 = .ok (.getfield 59, 3) := by decide +kernel
theorem dX7_stands_46 : decode cX7_stands 46 = .ok (.iload_n 1, 1) := by decide +kernel
theorem dX7_stands_47 : decode cX7_stands 47 = .ok (.iload_n 2, 1) := by decide +kernel
theorem dX7_stands_48 : decode cX7_stands 48 = .ok (.iastore, 1) := by decide +kernel
theorem dX7_stands_49 : decode cX7_stands 49 = .ok (.iload_n 3, 1) := by decide +kernel
theorem dX7_stands_50 : decode cX7_stands 50 = .ok (.ireturn, 1) := by decide +kernel
theorem dX7_worked_0 : decode cX7_worked 0 = .ok (.iload_n 1, 1) := by decide +kernel
theorem dX7_worked_1 : decode cX7_worked 1 = .ok (.iconst 3, 1) := by decide +kernel
theorem dX7_worked_2 : decode cX7_worked 2 = .ok (.if_icmp .ge 7, 3) := by decide +kernel
theorem dX7_worked_5 : decode cX7_worked 5 = .ok (.iconst 1, 1) := by decide +kernel
theorem dX7_worked_6 : decode cX7_worked 6 = .ok (.goto 4, 3) := by decide +kernel
theorem dX7_worked_9 : decode cX7_worked 9 = .ok (.iconst 0, 1) := by decide +kernel
theorem dX7_worked_10 : decode cX7_worked 10 = .ok (.istore 4, 2) := by decide +kernel
theorem dX7_worked_12 : decode cX7_worked 12 = .ok (.aload_n 0, 1) := by decide +kernel
theorem dX7_worked_13 : decode cX7_worked 13 = .ok (.getfield 41, 3) := by decide +kernel
theorem dX7_worked_16 : decode cX7_worked 16 = .ok (.iload_n 2, 1) := by decide +kernel
theorem dX7_worked_17 : decode cX7_worked 17 = .ok (.iaload, 1) := by decide +kernel
theorem dX7_worked_18 : decode cX7_worked 18 = .ok (.iload 4, 2) := by decide +kernel
theorem dX7_worked_20 : decode cX7_worked 20 = .ok (.ifCond .eq 7, 3) := by decide +kernel
theorem dX7_worked_23 : decode cX7_worked 23 = .ok (.iconst 0, 1) := by decide +kernel
theorem dX7_worked_24 : decode cX7_worked 24 = .ok (.goto 4, 3) := by decide +kernel
theorem dX7_worked_27 : decode cX7_worked 27 = .ok (.iconst 1, 1) := by decide +kernel
theorem dX7_worked_28 : decode cX7_worked 28 = .ok (.if_icmp .eq 5, 3) := by decide +kernel
theorem dX7_worked_31 : decode cX7_worked 31 = .ok (.iconst (-1), 1) := by decide +kernel
theorem dX7_worked_32 : decode cX7_worked 32 = .ok (.ireturn, 1) := by decide +kernel
theorem dX7_worked_33 : decode cX7_worked 33 = .ok (.iload 4, 2) := by decide +kernel
theorem dX7_worked_35 : decode cX7_worked 35 = .ok (.ifCond .ne 25, 3) := by decide +kernel
theorem dX7_worked_38 : decode cX7_worked 38 = .ok (.iload_n 3, 1) := by decide +kernel
theorem dX7_worked_39 : decode cX7_worked 39 = .ok (.iconst 2, 1) := by decide +kernel
theorem dX7_worked_40 : decode cX7_worked 40 = .ok (.if_icmp .eq 20, 3) := by decide +kernel
theorem dX7_worked_43 : decode cX7_worked 43 = .ok (.iload_n 3, 1) := by decide +kernel
theorem dX7_worked_44 : decode cX7_worked 44 = .ok (.iconst 4, 1) := by decide +kernel
theorem dX7_worked_45 : decode cX7_worked 45 = .ok (.if_icmp .ne 13, 3) := by decide +kernel
theorem dX7_worked_48 : decode cX7_worked 48 = .ok (.aload_n 0, 1) := by decide +kernel
theorem dX7_worked_49 : decode cX7_worked 49 = .ok (.getfield 29, 3) := by decide +kernel
theorem dX7_worked_52 : decode cX7_worked 52 = .ok (.iload_n 2, 1) := by decide +kernel
theorem dX7_worked_53 : decode cX7_worked 53 = .ok (.iaload, 1) := by decide +kernel
theorem dX7_worked_54 : decode cX7_worked 54 = .ok (.iconst 1, 1) := by decide +kernel
theorem dX7_worked_55 : decode cX7_worked 55 = .ok (.if_icmp .ne 5, 3) := by decide +kernel
theorem dX7_worked_58 : decode cX7_worked 58 = .ok (.iconst (-1), 1) := by decide +kernel
theorem dX7_worked_59 : decode cX7_worked 59 = .ok (.ireturn, 1) := by decide +kernel
theorem dX7_worked_60 : decode cX7_worked 60 = .ok (.aload_n 0, 1) := by decide +kernel
theorem dX7_worked_61 : decode cX7_worked 61 = .ok (.getfield 56, 3) := by decide +kernel
theorem dX7_worked_64 : decode cX7_worked 64 = .ok (.iload_n 1, 1) := by decide +kernel
theorem dX7_worked_65 : decode cX7_worked 65 = .ok (.dup2, 1) := by decide +kernel
theorem dX7_worked_66 : decode cX7_worked 66 = .ok (.iaload, 1) := by decide +kernel
theorem dX7_worked_67 : decode cX7_worked 67 = .ok (.aload_n 0, 1) := by decide +kernel
theorem dX7_worked_68 : decode cX7_worked 68 = .ok (.getfield 32, 3) := by decide +kernel
theorem dX7_worked_71 : decode cX7_worked 71 = .ok (.iload_n 2, 1) := by decide +kernel
theorem dX7_worked_72 : decode cX7_worked 72 = .ok (.iaload, 1) := by decide +kernel
theorem dX7_worked_73 : decode cX7_worked 73 = .ok (.iadd, 1) := by decide +kernel
theorem dX7_worked_74 : decode cX7_worked 74 = .ok (.iastore, 1) := by decide +kernel
theorem dX7_worked_75 : decode cX7_worked 75 = .ok (.aload_n 0, 1) := by decide +kernel
theorem dX7_worked_76 : decode cX7_worked 76 = .ok (.getfield 56, 3) := by decide +kernel
theorem dX7_worked_79 : decode cX7_worked 79 = .ok (.iload_n 1, 1) := by decide +kernel
theorem dX7_worked_80 : decode cX7_worked 80 = .ok (.iaload, 1) := by decide +kernel
theorem dX7_worked_81 : decode cX7_worked 81 = .ok (.aload_n 0, 1) := by decide +kernel
theorem dX7_worked_82 : decode cX7_worked 82 = .ok (.getfield 59, 3) := by decide +kernel
theorem dX7_worked_85 : decode cX7_worked 85 = .ok (.iload_n 1, 1) := by decide +kernel
theorem dX7_worked_86 : decode cX7_worked 86 = .ok (.iaload, 1) := by decide +kernel
theorem dX7_worked_87 : decode cX7_worked 87 = .ok (.isub, 1) := by decide +kernel
theorem dX7_worked_88 : decode cX7_worked 88 = .ok (.istore 5, 2) := by decide +kernel
theorem dX7_worked_90 : decode cX7_worked 90 = .ok (.iload 5, 2) := by decide +kernel
theorem dX7_worked_92 : decode cX7_worked 92 = .ok (.ifCond .le 49, 3) := by decide +kernel
theorem dX7_worked_95 : decode cX7_worked 95 = .ok (.iload 5, 2) := by decide +kernel
theorem dX7_worked_97 : decode cX7_worked 97 = .ok (.bipush 7, 2) := by decide +kernel
theorem dX7_worked_99 : decode cX7_worked 99 = .ok (.irem, 1) := by decide +kernel
theorem dX7_worked_100 : decode cX7_worked 100 = .ok (.ifCond .eq 15, 3) := by decide +kernel
theorem dX7_worked_103 : decode cX7_worked 103 = .ok (.iload 5, 2) := by decide +kernel
theorem dX7_worked_105 : decode cX7_worked 105 = .ok (.aload_n 0, 1) := by decide +kernel
theorem dX7_worked_106 : decode cX7_worked 106 = .ok (.getfield 32, 3) := by decide +kernel
theorem dX7_worked_109 : decode cX7_worked 109 = .ok (.iload_n 2, 1) := by decide +kernel
theorem dX7_worked_110 : decode cX7_worked 110 = .ok (.iaload, 1) := by decide +kernel
theorem dX7_worked_111 : decode cX7_worked 111 = .ok (.irem, 1) := by decide +kernel
theorem dX7_worked_112 : decode cX7_worked 112 = .ok (.ifCond .ne 29, 3) := by decide +kernel
theorem dX7_worked_115 : decode cX7_worked 115 = .ok (.aload_n 0, 1) := by decide +kernel
theorem dX7_worked_116 : decode cX7_worked 116 = .ok (.getfield 41, 3) := by decide +kernel
theorem dX7_worked_119 : decode cX7_worked 119 = .ok (.iload_n 2, 1) := by decide +kernel
theorem dX7_worked_120 : decode cX7_worked 120 = .ok (.iconst 3, 1) := by decide +kernel
theorem dX7_worked_121 : decode cX7_worked 121 = .ok (.iastore, 1) := by decide +kernel
theorem dX7_worked_122 : decode cX7_worked 122 = .ok (.aload_n 0, 1) := by decide +kernel
theorem dX7_worked_123 : decode cX7_worked 123 = .ok (.getfield 47, 3) := by decide +kernel
theorem dX7_worked_126 : decode cX7_worked 126 = .ok (.iload_n 2, 1) := by decide +kernel
theorem dX7_worked_127 : decode cX7_worked 127 = .ok (.iload_n 1, 1) := by decide +kernel
theorem dX7_worked_128 : decode cX7_worked 128 = .ok (.iastore, 1) := by decide +kernel
theorem dX7_worked_129 : decode cX7_worked 129 = .ok (.aload_n 0, 1) := by decide +kernel
theorem dX7_worked_130 : decode cX7_worked 130 = .ok (.getfield 65, 3) := by decide +kernel
theorem dX7_worked_133 : decode cX7_worked 133 = .ok (.iload_n 1, 1) := by decide +kernel
theorem dX7_worked_134 : decode cX7_worked 134 = .ok (.dup2, 1) := by decide +kernel
theorem dX7_worked_135 : decode cX7_worked 135 = .ok (.iaload, 1) := by decide +kernel
theorem dX7_worked_136 : decode cX7_worked 136 = .ok (.iconst 1, 1) := by decide +kernel
theorem dX7_worked_137 : decode cX7_worked 137 = .ok (.iadd, 1) := by decide +kernel
theorem dX7_worked_138 : decode cX7_worked 138 = .ok (.iastore, 1) := by decide +kernel
theorem dX7_worked_139 : decode cX7_worked 139 = .ok (.iconst 0, 1) := by decide +kernel
theorem dX7_worked_140 : decode cX7_worked 140 = .ok (.ireturn, 1) := by decide +kernel
theorem dX7_worked_141 : decode cX7_worked 141 = .ok (.aload_n 0, 1) := by decide +kernel
theorem dX7_worked_142 : decode cX7_worked 142 = .ok (.getfield 41, 3) := by decide +kernel
theorem dX7_worked_145 : decode cX7_worked 145 = .ok (.iload_n 2, 1) := by decide +kernel
theorem dX7_worked_146 : decode cX7_worked 146 = .ok (.iload 4, 2) := by decide +kernel
theorem dX7_worked_148 : decode cX7_worked 148 = .ok (.ifCond .eq 7, 3) := by decide +kernel
theorem dX7_worked_151 : decode cX7_worked 151 = .ok (.iconst 1, 1) := by decide +kernel
theorem dX7_worked_152 : decode cX7_worked 152 = .ok (.goto 4, 3) := by decide +kernel
theorem dX7_worked_155 : decode cX7_worked 155 = .ok (.iconst 2, 1) := by decide +kernel
theorem dX7_worked_156 : decode cX7_worked 156 = .ok (.iastore, 1) := by decide +kernel
theorem dX7_worked_157 : decode cX7_worked 157 = .ok (.aload_n 0, 1) := by decide +kernel
theorem dX7_worked_158 : decode cX7_worked 158 = .ok (.getfield 44, 3) := by decide +kernel
theorem dX7_worked_161 : decode cX7_worked 161 = .ok (.iload_n 2, 1) := by decide +kernel
theorem dX7_worked_162 : decode cX7_worked 162 = .ok (.iload 4, 2) := by decide +kernel
theorem dX7_worked_164 : decode cX7_worked 164 = .ok (.ifCond .eq 7, 3) := by decide +kernel
theorem dX7_worked_167 : decode cX7_worked 167 = .ok (.iconst 0, 1) := by decide +kernel
theorem dX7_worked_168 : decode cX7_worked 168 = .ok (.goto 4, 3) := by decide +kernel
theorem dX7_worked_171 : decode cX7_worked 171 = .ok (.iload_n 3, 1) := by decide +kernel
theorem dX7_worked_172 : decode cX7_worked 172 = .ok (.iastore, 1) := by decide +kernel
theorem dX7_worked_173 : decode cX7_worked 173 = .ok (.aload_n 0, 1) := by decide +kernel
theorem dX7_worked_174 : decode cX7_worked 174 = .ok (.getfield 62, 3) := by decide +kernel
theorem dX7_worked_177 : decode cX7_worked 177 = .ok (.iload_n 1, 1) := by decide +kernel
theorem dX7_worked_178 : decode cX7_worked 178 = .ok (.dup2, 1) := by decide +kernel
theorem dX7_worked_179 : decode cX7_worked 179 = .ok (.iaload, 1) := by decide +kernel
theorem dX7_worked_180 : decode cX7_worked 180 = .ok (.iconst 1, 1) := by decide +kernel
theorem dX7_worked_181 : decode cX7_worked 181 = .ok (.iadd, 1) := by decide +kernel
theorem dX7_worked_182 : decode cX7_worked 182 = .ok (.iastore, 1) := by decide +kernel
theorem dX7_worked_183 : decode cX7_worked 183 = .ok (.iconst 1, 1) := by decide +kernel
theorem dX7_worked_184 : decode cX7_worked 184 = .ok (.ireturn, 1) := by decide +kernel
theorem dX7_work_0 : decode cX7_work 0 = .ok (.aload_n 0, 1) := by decide +kernel
theorem dX7_work_1 : decode cX7_work 1 = .ok (.iload_n 1, 1) := by decide +kernel
theorem dX7_work_2 : decode cX7_work 2 = .ok (.invokevirtual 161, 3) := by decide +kernel
theorem dX7_work_5 : decode cX7_work 5 = .ok (.ifCond .eq 21, 3) := by decide +kernel
theorem dX7_work_8 : decode cX7_work 8 = .ok (.aload_n 0, 1) := by decide +kernel
theorem dX7_work_9 : decode cX7_work 9 = .ok (.iload_n 2, 1) := by decide +kernel
theorem dX7_work_10 : decode cX7_work 10 = .ok (.invokevirtual 158, 3) := by decide +kernel
theorem dX7_work_13 : decode cX7_work 13 = .ok (.ifCond .eq 13, 3) := by decide +kernel
theorem dX7_work_16 : decode cX7_work 16 = .ok (.aload_n 0, 1) := by decide +kernel
theorem dX7_work_17 : decode cX7_work 17 = .ok (.iload_n 1, 1) := by decide +kernel
theorem dX7_work_18 : decode cX7_work 18 = .ok (.iload_n 2, 1) := by decide +kernel
theorem dX7_work_19 : decode cX7_work 19 = .ok (.iload_n 3, 1) := by decide +kernel
theorem dX7_work_20 : decode cX7_work 20 = .ok (.invokevirtual 164, 3) := by decide +kernel
theorem dX7_work_23 : decode cX7_work 23 = .ok (.goto 4, 3) := by decide +kernel
theorem dX7_work_26 : decode cX7_work 26 = .ok (.iconst 0, 1) := by decide +kernel
theorem dX7_work_27 : decode cX7_work 27 = .ok (.ireturn, 1) := by decide +kernel
theorem dX7_works_0 : decode cX7_works 0 = .ok (.aload_n 0, 1) := by decide +kernel
theorem dX7_works_1 : decode cX7_works 1 = .ok (.iload_n 1, 1) := by decide +kernel
theorem dX7_works_2 : decode cX7_works 2 = .ok (.invokevirtual 161, 3) := by decide +kernel
theorem dX7_works_5 : decode cX7_works 5 = .ok (.ifCond .eq 25, 3) := by decide +kernel
theorem dX7_works_8 : decode cX7_works 8 = .ok (.aload_n 0, 1) := by decide +kernel
theorem dX7_works_9 : decode cX7_works 9 = .ok (.iload_n 2, 1) := by decide +kernel
theorem dX7_works_10 : decode cX7_works 10 = .ok (.ifCond .lt 12, 3) := by decide +kernel
theorem dX7_works_13 : decode cX7_works 13 = .ok (.iload_n 2, 1) := by decide +kernel
theorem dX7_works_14 : decode cX7_works 14 = .ok (.iload_n 3, 1) := by decide +kernel
theorem dX7_works_15 : decode cX7_works 15 = .ok (.if_icmp .gt 7, 3) := by decide +kernel
theorem dX7_works_18 : decode cX7_works 18 = .ok (.iconst 1, 1) := by decide +kernel
theorem dX7_works_19 : decode cX7_works 19 = .ok (.goto 4, 3) := by decide +kernel
theorem dX7_works_22 : decode cX7_works 22 = .ok (.iconst 0, 1) := by decide +kernel
theorem dX7_works_23 : decode cX7_works 23 = .ok (.iconst 2, 1) := by decide +kernel
theorem dX7_works_24 : decode cX7_works 24 = .ok (.invokevirtual 121, 3) := by decide +kernel
theorem dX7_works_27 : decode cX7_works 27 = .ok (.ifCond .ne 5, 3) := by decide +kernel
theorem dX7_works_30 : decode cX7_works 30 = .ok (.iconst 0, 1) := by decide +kernel
theorem dX7_works_31 : decode cX7_works 31 = .ok (.ireturn, 1) := by decide +kernel
theorem dX7_works_32 : decode cX7_works 32 = .ok (.iconst 0, 1) := by decide +kernel
theorem dX7_works_33 : decode cX7_works 33 = .ok (.istore 5, 2) := by decide +kernel
theorem dX7_works_35 : decode cX7_works 35 = .ok (.iload_n 2, 1) := by decide +kernel
theorem dX7_works_36 : decode cX7_works 36 = .ok (.istore 6, 2) := by decide +kernel
theorem dX7_works_38 : decode cX7_works 38 = .ok (.iload 6, 2) := by decide +kernel
theorem dX7_works_40 : decode cX7_works 40 = .ok (.iload_n 3, 1) := by decide +kernel
theorem dX7_works_41 : decode cX7_works 41 = .ok (.if_icmp .ge 34, 3) := by decide +kernel
theorem dX7_works_44 : decode cX7_works 44 = .ok (.iload 6, 2) := by decide +kernel
theorem dX7_works_46 : decode cX7_works 46 = .ok (.aload_n 0, 1) := by decide +kernel
theorem dX7_works_47 : decode cX7_works 47 = .ok (.getfield 155, 3) := by decide +kernel
theorem dX7_works_50 : decode cX7_works 50 = .ok (.if_icmp .ge 25, 3) := by decide +kernel
theorem dX7_works_53 : decode cX7_works 53 = .ok (.aload_n 0, 1) := by decide +kernel
theorem dX7_works_54 : decode cX7_works 54 = .ok (.iload_n 1, 1) := by decide +kernel
theorem dX7_works_55 : decode cX7_works 55 = .ok (.iload 6, 2) := by decide +kernel
theorem dX7_works_57 : decode cX7_works 57 = .ok (.iload 4, 2) := by decide +kernel
theorem dX7_works_59 : decode cX7_works 59 = .ok (.invokevirtual 164, 3) := by decide +kernel
theorem dX7_works_62 : decode cX7_works 62 = .ok (.iconst 1, 1) := by decide +kernel
theorem dX7_works_63 : decode cX7_works 63 = .ok (.if_icmp .ne 6, 3) := by decide +kernel
theorem dX7_works_66 : decode cX7_works 66 = .ok (.iinc 5 1, 3) := by decide +kernel
theorem dX7_works_69 : decode cX7_works 69 = .ok (.iinc 6 1, 3) := by decide +kernel
theorem dX7_works_72 : decode cX7_works 72 = .ok (.goto (-34), 3) := by decide +kernel
theorem dX7_works_75 : decode cX7_works 75 = .ok (.iload 5, 2) := by decide +kernel
theorem dX7_works_77 : decode cX7_works 77 = .ok (.ireturn, 1) := by decide +kernel
theorem dX7_grind_0 : decode cX7_grind 0 = .ok (.aload_n 0, 1) := by decide +kernel
theorem dX7_grind_1 : decode cX7_grind 1 = .ok (.iload_n 1, 1) := by decide +kernel
theorem dX7_grind_2 : decode cX7_grind 2 = .ok (.invokevirtual 161, 3) := by decide +kernel
theorem dX7_grind_5 : decode cX7_grind 5 = .ok (.ifCond .ne 5, 3) := by decide +kernel
theorem dX7_grind_8 : decode cX7_grind 8 = .ok (.iconst 0, 1) := by decide +kernel
theorem dX7_grind_9 : decode cX7_grind 9 = .ok (.ireturn, 1) := by decide +kernel
theorem dX7_grind_10 : decode cX7_grind 10 = .ok (.aload_n 0, 1) := by decide +kernel
theorem dX7_grind_11 : decode cX7_grind 11 = .ok (.getfield 56, 3) := by decide +kernel
theorem dX7_grind_14 : decode cX7_grind 14 = .ok (.iload_n 1, 1) := by decide +kernel
theorem dX7_grind_15 : decode cX7_grind 15 = .ok (.iaload, 1) := by decide +kernel
theorem dX7_grind_16 : decode cX7_grind 16 = .ok (.istore_n 2, 1) := by decide +kernel
theorem dX7_grind_17 : decode cX7_grind 17 = .ok (.aload_n 0, 1) := by decide +kernel
theorem dX7_grind_18 : decode cX7_grind 18 = .ok (.getfield 56, 3) := by decide +kernel
theorem dX7_grind_21 : decode cX7_grind 21 = .ok (.iload_n 1, 1) := by decide +kernel
theorem dX7_grind_22 : decode cX7_grind 22 = .ok (.iconst 0, 1) := by decide +kernel
theorem dX7_grind_23 : decode cX7_grind 23 = .ok (.iastore, 1) := by decide +kernel
theorem dX7_grind_24 : decode cX7_grind 24 = .ok (.iload_n 2, 1) := by decide +kernel
theorem dX7_grind_25 : decode cX7_grind 25 = .ok (.ireturn, 1) := by decide +kernel
theorem dX7_machine_0 : decode cX7_machine 0 = .ok (.aload_n 0, 1) := by decide +kernel
theorem dX7_machine_1 : decode cX7_machine 1 = .ok (.iload_n 1, 1) := by decide +kernel
theorem dX7_machine_2 : decode cX7_machine 2 = .ok (.invokevirtual 161, 3) := by decide +kernel
theorem dX7_machine_5 : decode cX7_machine 5 = .ok (.ifCond .eq 25, 3) := by decide +kernel
theorem dX7_machine_8 : decode cX7_machine 8 = .ok (.aload_n 0, 1) := by decide +kernel
theorem dX7_machine_9 : decode cX7_machine 9 = .ok (.iload_n 2, 1) := by decide +kernel
theorem dX7_machine_10 : decode cX7_machine 10 = .ok (.ifCond .lt 12, 3) := by decide +kernel
theorem dX7_machine_13 : decode cX7_machine 13 = .ok (.iload_n 2, 1) := by decide +kernel
theorem dX7_machine_14 : decode cX7_machine 14 = .ok (.iconst 3, 1) := by decide +kernel
theorem dX7_machine_15 : decode cX7_machine 15 = .ok (.if_icmp .gt 7, 3) := by decide +kernel
theorem dX7_machine_18 : decode cX7_machine 18 = .ok (.iconst 1, 1) := by decide +kernel
theorem dX7_machine_19 : decode cX7_machine 19 = .ok (.goto 4, 3) := by decide +kernel
theorem dX7_machine_22 : decode cX7_machine 22 = .ok (.iconst 0, 1) := by decide +kernel
theorem dX7_machine_23 : decode cX7_machine 23 = .ok (.iconst 1, 1) := by decide +kernel
theorem dX7_machine_24 : decode cX7_machine 24 = .ok (.invokevirtual 121, 3) := by decide +kernel
theorem dX7_machine_27 : decode cX7_machine 27 = .ok (.ifCond .ne 5, 3) := by decide +kernel
theorem dX7_machine_30 : decode cX7_machine 30 = .ok (.iconst 0, 1) := by decide +kernel
theorem dX7_machine_31 : decode cX7_machine 31 = .ok (.ireturn, 1) := by decide +kernel
theorem dX7_machine_32 : decode cX7_machine 32 = .ok (.iload_n 2, 1) := by decide +kernel
theorem dX7_machine_33 : decode cX7_machine 33 = .ok (.ifCond .ne 12, 3) := by decide +kernel
theorem dX7_machine_36 : decode cX7_machine 36 = .ok (.aload_n 0, 1) := by decide +kernel
theorem dX7_machine_37 : decode cX7_machine 37 = .ok (.getfield 56, 3) := by decide +kernel
theorem dX7_machine_40 : decode cX7_machine 40 = .ok (.iload_n 1, 1) := by decide +kernel
theorem dX7_machine_41 : decode cX7_machine 41 = .ok (.iaload, 1) := by decide +kernel
theorem dX7_machine_42 : decode cX7_machine 42 = .ok (.goto 37, 3) := by decide +kernel
theorem dX7_machine_45 : decode cX7_machine 45 = .ok (.iload_n 2, 1) := by decide +kernel
theorem dX7_machine_46 : decode cX7_machine 46 = .ok (.iconst 1, 1) := by decide +kernel
theorem dX7_machine_47 : decode cX7_machine 47 = .ok (.if_icmp .ne 12, 3) := by decide +kernel
theorem dX7_machine_50 : decode cX7_machine 50 = .ok (.aload_n 0, 1) := by decide +kernel
theorem dX7_machine_51 : decode cX7_machine 51 = .ok (.getfield 59, 3) := by decide +kernel
theorem dX7_machine_54 : decode cX7_machine 54 = .ok (.iload_n 1, 1) := by decide +kernel
theorem dX7_machine_55 : decode cX7_machine 55 = .ok (.iaload, 1) := by decide +kernel
theorem dX7_machine_56 : decode cX7_machine 56 = .ok (.goto 23, 3) := by decide +kernel
theorem dX7_machine_59 : decode cX7_machine 59 = .ok (.iload_n 2, 1) := by decide +kernel
theorem dX7_machine_60 : decode cX7_machine 60 = .ok (.iconst 2, 1) := by decide +kernel
theorem dX7_machine_61 : decode cX7_machine 61 = .ok (.if_icmp .ne 12, 3) := by decide +kernel
theorem dX7_machine_64 : decode cX7_machine 64 = .ok (.aload_n 0, 1) := by decide +kernel
theorem dX7_machine_65 : decode cX7_machine 65 = .ok (.getfield 62, 3) := by decide +kernel
theorem dX7_machine_68 : decode cX7_machine 68 = .ok (.iload_n 1, 1) := by decide +kernel
theorem dX7_machine_69 : decode cX7_machine 69 = .ok (.iaload, 1) := by decide +kernel
theorem dX7_machine_70 : decode cX7_machine 70 = .ok (.goto 9, 3) := by decide +kernel
theorem dX7_machine_73 : decode cX7_machine 73 = .ok (.aload_n 0, 1) := by decide +kernel
theorem dX7_machine_74 : decode cX7_machine 74 = .ok (.getfield 65, 3) := by decide +kernel
theorem dX7_machine_77 : decode cX7_machine 77 = .ok (.iload_n 1, 1) := by decide +kernel
theorem dX7_machine_78 : decode cX7_machine 78 = .ok (.iaload, 1) := by decide +kernel
theorem dX7_machine_79 : decode cX7_machine 79 = .ok (.ireturn, 1) := by decide +kernel
theorem dX7_bleach_0 : decode cX7_bleach 0 = .ok (.aload_n 0, 1) := by decide +kernel
theorem dX7_bleach_1 : decode cX7_bleach 1 = .ok (.iload_n 1, 1) := by decide +kernel
theorem dX7_bleach_2 : decode cX7_bleach 2 = .ok (.invokevirtual 125, 3) := by decide +kernel
theorem dX7_bleach_5 : decode cX7_bleach 5 = .ok (.ifCond .eq 26, 3) := by decide +kernel
theorem dX7_bleach_8 : decode cX7_bleach 8 = .ok (.aload_n 0, 1) := by decide +kernel
theorem dX7_bleach_9 : decode cX7_bleach 9 = .ok (.iload_n 2, 1) := by decide +kernel
theorem dX7_bleach_10 : decode cX7_bleach 10 = .ok (.ifCond .lt 13, 3) := by decide +kernel
theorem dX7_bleach_13 : decode cX7_bleach 13 = .ok (.iload_n 2, 1) := by decide +kernel
theorem dX7_bleach_14 : decode cX7_bleach 14 = .ok (.bipush 9, 2) := by decide +kernel
theorem dX7_bleach_16 : decode cX7_bleach 16 = .ok (.if_icmp .gt 7, 3) := by decide +kernel
theorem dX7_bleach_19 : decode cX7_bleach 19 = .ok (.iconst 1, 1) := by decide +kernel
theorem dX7_bleach_20 : decode cX7_bleach 20 = .ok (.goto 4, 3) := by decide +kernel
theorem dX7_bleach_23 : decode cX7_bleach 23 = .ok (.iconst 0, 1) := by decide +kernel
theorem dX7_bleach_24 : decode cX7_bleach 24 = .ok (.iconst 2, 1) := by decide +kernel
theorem dX7_bleach_25 : decode cX7_bleach 25 = .ok (.invokevirtual 121, 3) := by decide +kernel
theorem dX7_bleach_28 : decode cX7_bleach 28 = .ok (.ifCond .ne 5, 3) := by decide +kernel
theorem dX7_bleach_31 : decode cX7_bleach 31 = .ok (.iconst 0, 1) := by decide +kernel
theorem dX7_bleach_32 : decode cX7_bleach 32 = .ok (.ireturn, 1) := by decide +kernel
theorem dX7_bleach_33 : decode cX7_bleach 33 = .ok (.iconst 0, 1) := by decide +kernel
theorem dX7_bleach_34 : decode cX7_bleach 34 = .ok (.istore_n 3, 1) := by decide +kernel
theorem dX7_bleach_35 : decode cX7_bleach 35 = .ok (.iconst 0, 1) := by decide +kernel
theorem dX7_bleach_36 : decode cX7_bleach 36 = .ok (.istore 4, 2) := by decide +kernel
theorem dX7_bleach_38 : decode cX7_bleach 38 = .ok (.iload 4, 2) := by decide +kernel
theorem dX7_bleach_40 : decode cX7_bleach 40 = .ok (.aload_n 0, 1) := by decide +kernel
theorem dX7_bleach_41 : decode cX7_bleach 41 = .ok (.getfield 155, 3) := by decide +kernel
theorem dX7_bleach_44 : decode cX7_bleach 44 = .ok (.if_icmp .ge 95, 3) := by decide +kernel
theorem dX7_bleach_47 : decode cX7_bleach 47 = .ok (.aload_n 0, 1) := by decide +kernel
theorem dX7_bleach_48 : decode cX7_bleach 48 = .ok (.getfield 38, 3) := by decide +kernel
theorem dX7_bleach_51 : decode cX7_bleach 51 = .ok (.iload 4, 2) := by decide +kernel
theorem dX7_bleach_53 : decode cX7_bleach 53 = .ok (.iaload, 1) := by decide +kernel
theorem dX7_bleach_54 : decode cX7_bleach 54 = .ok (.iload_n 1, 1) := by decide +kernel
theorem dX7_bleach_55 : decode cX7_bleach 55 = .ok (.if_icmp .ne 78, 3) := by decide +kernel
theorem dX7_bleach_58 : decode cX7_bleach 58 = .ok (.aload_n 0, 1) := by decide +kernel
theorem dX7_bleach_59 : decode cX7_bleach 59 = .ok (.getfield 41, 3) := by decide +kernel
theorem dX7_bleach_62 : decode cX7_bleach 62 = .ok (.iload 4, 2) := by decide +kernel
theorem dX7_bleach_64 : decode cX7_bleach 64 = .ok (.iaload, 1) := by decide +kernel
theorem dX7_bleach_65 : decode cX7_bleach 65 = .ok (.iconst 3, 1) := by decide +kernel
theorem dX7_bleach_66 : decode cX7_bleach 66 = .ok (.if_icmp .eq 67, 3) := by decide +kernel
theorem dX7_bleach_69 : decode cX7_bleach 69 = .ok (.aload_n 0, 1) := by decide +kernel
theorem dX7_bleach_70 : decode cX7_bleach 70 = .ok (.getfield 41, 3) := by decide +kernel
theorem dX7_bleach_73 : decode cX7_bleach 73 = .ok (.iload 4, 2) := by decide +kernel
theorem dX7_bleach_75 : decode cX7_bleach 75 = .ok (.iaload, 1) := by decide +kernel
theorem dX7_bleach_76 : decode cX7_bleach 76 = .ok (.iconst 4, 1) := by decide +kernel
theorem dX7_bleach_77 : decode cX7_bleach 77 = .ok (.if_icmp .ne 6, 3) := by decide +kernel
theorem dX7_bleach_80 : decode cX7_bleach 80 = .ok (.goto 53, 3) := by decide +kernel
theorem dX7_bleach_83 : decode cX7_bleach 83 = .ok (.aload_n 0, 1) := by decide +kernel
theorem dX7_bleach_84 : decode cX7_bleach 84 = .ok (.getfield 35, 3) := by decide +kernel
theorem dX7_bleach_87 : decode cX7_bleach 87 = .ok (.iload 4, 2) := by decide +kernel
theorem dX7_bleach_89 : decode cX7_bleach 89 = .ok (.iaload, 1) := by decide +kernel
theorem dX7_bleach_90 : decode cX7_bleach 90 = .ok (.iload_n 2, 1) := by decide +kernel
theorem dX7_bleach_91 : decode cX7_bleach 91 = .ok (.if_icmp .le 15, 3) := by decide +kernel
theorem dX7_bleach_94 : decode cX7_bleach 94 = .ok (.aload_n 0, 1) := by decide +kernel
theorem dX7_bleach_95 : decode cX7_bleach 95 = .ok (.getfield 35, 3) := by decide +kernel
theorem dX7_bleach_98 : decode cX7_bleach 98 = .ok (.iload 4, 2) := by decide +kernel
theorem dX7_bleach_100 : decode cX7_bleach 100 = .ok (.iaload, 1) := by decide +kernel
theorem dX7_bleach_101 : decode cX7_bleach 101 = .ok (.iload_n 2, 1) := by decide +kernel
theorem dX7_bleach_102 : decode cX7_bleach 102 = .ok (.isub, 1) := by decide +kernel
theorem dX7_bleach_103 : decode cX7_bleach 103 = .ok (.goto 4, 3) := by decide +kernel
theorem dX7_bleach_106 : decode cX7_bleach 106 = .ok (.iconst 0, 1) := by decide +kernel
theorem dX7_bleach_107 : decode cX7_bleach 107 = .ok (.istore 5, 2) := by decide +kernel
theorem dX7_bleach_109 : decode cX7_bleach 109 = .ok (.iload 5, 2) := by decide +kernel
theorem dX7_bleach_111 : decode cX7_bleach 111 = .ok (.aload_n 0, 1) := by decide +kernel
theorem dX7_bleach_112 : decode cX7_bleach 112 = .ok (.getfield 35, 3) := by decide +kernel
theorem dX7_bleach_115 : decode cX7_bleach 115 = .ok (.iload 4, 2) := by decide +kernel
theorem dX7_bleach_117 : decode cX7_bleach 117 = .ok (.iaload, 1) := by decide +kernel
theorem dX7_bleach_118 : decode cX7_bleach 118 = .ok (.if_icmp .eq 6, 3) := by decide +kernel
theorem dX7_bleach_121 : decode cX7_bleach 121 = .ok (.iinc 3 1, 3) := by decide +kernel
theorem dX7_bleach_124 : decode cX7_bleach 124 = .ok (.aload_n 0, 1) := by decide +kernel
theorem dX7_bleach_125 : decode cX7_bleach 125 = .ok (.getfield 35, 3) := by decide +kernel
theorem dX7_bleach_128 : decode cX7_bleach 128 = .ok (.iload 4, 2) := by decide +kernel
theorem dX7_bleach_130 : decode cX7_bleach 130 = .ok (.iload 5, 2) := by decide +kernel
theorem dX7_bleach_132 : decode cX7_bleach 132 = .ok (.iastore, 1) := by decide +kernel
theorem dX7_bleach_133 : decode cX7_bleach 133 = .ok (.iinc 4 1, 3) := by decide +kernel
theorem dX7_bleach_136 : decode cX7_bleach 136 = .ok (.goto (-98), 3) := by decide +kernel
theorem dX7_bleach_139 : decode cX7_bleach 139 = .ok (.iload_n 3, 1) := by decide +kernel
theorem dX7_bleach_140 : decode cX7_bleach 140 = .ok (.ireturn, 1) := by decide +kernel
theorem dX7_fits_0 : decode cX7_fits 0 = .ok (.aload_n 0, 1) := by decide +kernel
theorem dX7_fits_1 : decode cX7_fits 1 = .ok (.getfield 41, 3) := by decide +kernel
theorem dX7_fits_4 : decode cX7_fits 4 = .ok (.iload_n 1, 1) := by decide +kernel
theorem dX7_fits_5 : decode cX7_fits 5 = .ok (.iaload, 1) := by decide +kernel
theorem dX7_fits_6 : decode cX7_fits 6 = .ok (.iconst 2, 1) := by decide +kernel
theorem dX7_fits_7 : decode cX7_fits 7 = .ok (.if_icmp .ne 63, 3) := by decide +kernel
theorem dX7_fits_10 : decode cX7_fits 10 = .ok (.aload_n 0, 1) := by decide +kernel
theorem dX7_fits_11 : decode cX7_fits 11 = .ok (.getfield 29, 3) := by decide +kernel
theorem dX7_fits_14 : decode cX7_fits 14 = .ok (.iload_n 1, 1) := by decide +kernel
theorem dX7_fits_15 : decode cX7_fits 15 = .ok (.iaload, 1) := by decide +kernel
theorem dX7_fits_16 : decode cX7_fits 16 = .ok (.iload_n 2, 1) := by decide +kernel
theorem dX7_fits_17 : decode cX7_fits 17 = .ok (.if_icmp .ne 53, 3) := by decide +kernel
theorem dX7_fits_20 : decode cX7_fits 20 = .ok (.aload_n 0, 1) := by decide +kernel
theorem dX7_fits_21 : decode cX7_fits 21 = .ok (.getfield 44, 3) := by decide +kernel
theorem dX7_fits_24 : decode cX7_fits 24 = .ok (.iload_n 1, 1) := by decide +kernel
theorem dX7_fits_25 : decode cX7_fits 25 = .ok (.iaload, 1) := by decide +kernel
theorem dX7_fits_26 : decode cX7_fits 26 = .ok (.iload_n 3, 1) := by decide +kernel
theorem dX7_fits_27 : decode cX7_fits 27 = .ok (.if_icmp .ne 43, 3) := by decide +kernel
theorem dX7_fits_30 : decode cX7_fits 30 = .ok (.aload_n 0, 1) := by decide +kernel
theorem dX7_fits_31 : decode cX7_fits 31 = .ok (.getfield 35, 3) := by decide +kernel
theorem dX7_fits_34 : decode cX7_fits 34 = .ok (.iload_n 1, 1) := by decide +kernel
theorem dX7_fits_35 : decode cX7_fits 35 = .ok (.iaload, 1) := by decide +kernel
theorem dX7_fits_36 : decode cX7_fits 36 = .ok (.iload 4, 2) := by decide +kernel
theorem dX7_fits_38 : decode cX7_fits 38 = .ok (.if_icmp .ne 32, 3) := by decide +kernel
theorem dX7_fits_41 : decode cX7_fits 41 = .ok (.aload_n 0, 1) := by decide +kernel
theorem dX7_fits_42 : decode cX7_fits 42 = .ok (.getfield 32, 3) := by decide +kernel
theorem dX7_fits_45 : decode cX7_fits 45 = .ok (.iload_n 1, 1) := by decide +kernel
theorem dX7_fits_46 : decode cX7_fits 46 = .ok (.iaload, 1) := by decide +kernel
theorem dX7_fits_47 : decode cX7_fits 47 = .ok (.iload 5, 2) := by decide +kernel
theorem dX7_fits_49 : decode cX7_fits 49 = .ok (.if_icmp .lt 21, 3) := by decide +kernel
theorem dX7_fits_52 : decode cX7_fits 52 = .ok (.aload_n 0, 1) := by decide +kernel
theorem dX7_fits_53 : decode cX7_fits 53 = .ok (.getfield 32, 3) := by decide +kernel
theorem dX7_fits_56 : decode cX7_fits 56 = .ok (.iload_n 1, 1) := by decide +kernel
theorem dX7_fits_57 : decode cX7_fits 57 = .ok (.iaload, 1) := by decide +kernel
theorem dX7_fits_58 : decode cX7_fits 58 = .ok (.iload 5, 2) := by decide +kernel
theorem dX7_fits_60 : decode cX7_fits 60 = .ok (.iload 6, 2) := by decide +kernel
theorem dX7_fits_62 : decode cX7_fits 62 = .ok (.iadd, 1) := by decide +kernel
theorem dX7_fits_63 : decode cX7_fits 63 = .ok (.if_icmp .gt 7, 3) := by decide +kernel
theorem dX7_fits_66 : decode cX7_fits 66 = .ok (.iconst 1, 1) := by decide +kernel
theorem dX7_fits_67 : decode cX7_fits 67 = .ok (.goto 4, 3) := by decide +kernel
theorem dX7_fits_70 : decode cX7_fits 70 = .ok (.iconst 0, 1) := by decide +kernel
theorem dX7_fits_71 : decode cX7_fits 71 = .ok (.ireturn, 1) := by decide +kernel
theorem dX7_card_0 : decode cX7_card 0 = .ok (.aload_n 0, 1) := by decide +kernel
theorem dX7_card_1 : decode cX7_card 1 = .ok (.iconst 0, 1) := by decide +kernel
theorem dX7_card_2 : decode cX7_card 2 = .ok (.putfield 114, 3) := by decide +kernel
theorem dX7_card_5 : decode cX7_card 5 = .ok (.aload_n 0, 1) := by decide +kernel
theorem dX7_card_6 : decode cX7_card 6 = .ok (.iload_n 1, 1) := by decide +kernel
theorem dX7_card_7 : decode cX7_card 7 = .ok (.iconst 1, 1) := by decide +kernel
theorem dX7_card_8 : decode cX7_card 8 = .ok (.if_icmp .lt 44, 3) := by decide +kernel
theorem dX7_card_11 : decode cX7_card 11 = .ok (.iload_n 1, 1) := by decide +kernel
theorem dX7_card_12 : decode cX7_card 12 = .ok (.iconst 3, 1) := by decide +kernel
theorem dX7_card_13 : decode cX7_card 13 = .ok (.if_icmp .gt 39, 3) := by decide +kernel
theorem dX7_card_16 : decode cX7_card 16 = .ok (.iload_n 2, 1) := by decide +kernel
theorem dX7_card_17 : decode cX7_card 17 = .ok (.iconst 2, 1) := by decide +kernel
theorem dX7_card_18 : decode cX7_card 18 = .ok (.if_icmp .eq 8, 3) := by decide +kernel
theorem dX7_card_21 : decode cX7_card 21 = .ok (.iload_n 2, 1) := by decide +kernel
theorem dX7_card_22 : decode cX7_card 22 = .ok (.iconst 4, 1) := by decide +kernel
theorem dX7_card_23 : decode cX7_card 23 = .ok (.if_icmp .ne 29, 3) := by decide +kernel
theorem dX7_card_26 : decode cX7_card 26 = .ok (.iload_n 3, 1) := by decide +kernel
theorem dX7_card_27 : decode cX7_card 27 = .ok (.ifCond .lt 25, 3) := by decide +kernel
theorem dX7_card_30 : decode cX7_card 30 = .ok (.iload_n 3, 1) := by decide +kernel
theorem dX7_card_31 : decode cX7_card 31 = .ok (.bipush 9, 2) := by decide +kernel
theorem dX7_card_33 : decode cX7_card 33 = .ok (.if_icmp .gt 19, 3) := by decide +kernel
theorem dX7_card_36 : decode cX7_card 36 = .ok (.iload 4, 2) := by decide +kernel
theorem dX7_card_38 : decode cX7_card 38 = .ok (.ifCond .lt 14, 3) := by decide +kernel
theorem dX7_card_41 : decode cX7_card 41 = .ok (.iload 4, 2) := by decide +kernel
theorem dX7_card_43 : decode cX7_card 43 = .ok (.bipush 8, 2) := by decide +kernel
theorem dX7_card_45 : decode cX7_card 45 = .ok (.if_icmp .gt 7, 3) := by decide +kernel
theorem dX7_card_48 : decode cX7_card 48 = .ok (.iconst 1, 1) := by decide +kernel
theorem dX7_card_49 : decode cX7_card 49 = .ok (.goto 4, 3) := by decide +kernel
theorem dX7_card_52 : decode cX7_card 52 = .ok (.iconst 0, 1) := by decide +kernel
theorem dX7_card_53 : decode cX7_card 53 = .ok (.iconst 1, 1) := by decide +kernel
theorem dX7_card_54 : decode cX7_card 54 = .ok (.invokevirtual 121, 3) := by decide +kernel
theorem dX7_card_57 : decode cX7_card 57 = .ok (.ifCond .ne 5, 3) := by decide +kernel
theorem dX7_card_60 : decode cX7_card 60 = .ok (.iconst 0, 1) := by decide +kernel
theorem dX7_card_61 : decode cX7_card 61 = .ok (.ireturn, 1) := by decide +kernel
theorem dX7_card_62 : decode cX7_card 62 = .ok (.aload_n 0, 1) := by decide +kernel
theorem dX7_card_63 : decode cX7_card 63 = .ok (.getfield 167, 3) := by decide +kernel
theorem dX7_card_66 : decode cX7_card 66 = .ok (.bipush 30, 2) := by decide +kernel
theorem dX7_card_68 : decode cX7_card 68 = .ok (.if_icmp .ne 5, 3) := by decide +kernel
theorem dX7_card_71 : decode cX7_card 71 = .ok (.iconst (-1), 1) := by decide +kernel
theorem dX7_card_72 : decode cX7_card 72 = .ok (.ireturn, 1) := by decide +kernel
theorem dX7_card_73 : decode cX7_card 73 = .ok (.iconst (-1), 1) := by decide +kernel
theorem dX7_card_74 : decode cX7_card 74 = .ok (.istore 5, 2) := by decide +kernel
theorem dX7_card_76 : decode cX7_card 76 = .ok (.iconst 0, 1) := by decide +kernel
theorem dX7_card_77 : decode cX7_card 77 = .ok (.istore 6, 2) := by decide +kernel
theorem dX7_card_79 : decode cX7_card 79 = .ok (.iconst 1, 1) := by decide +kernel
theorem dX7_card_80 : decode cX7_card 80 = .ok (.istore 7, 2) := by decide +kernel
theorem dX7_card_82 : decode cX7_card 82 = .ok (.iload 7, 2) := by decide +kernel
theorem dX7_card_84 : decode cX7_card 84 = .ok (.bipush 9, 2) := by decide +kernel
theorem dX7_card_86 : decode cX7_card 86 = .ok (.if_icmp .gt 95, 3) := by decide +kernel
theorem dX7_card_89 : decode cX7_card 89 = .ok (.iconst 0, 1) := by decide +kernel
theorem dX7_card_90 : decode cX7_card 90 = .ok (.istore 8, 2) := by decide +kernel
theorem dX7_card_92 : decode cX7_card 92 = .ok (.iconst (-1), 1) := by decide +kernel
theorem dX7_card_93 : decode cX7_card 93 = .ok (.istore 9, 2) := by decide +kernel
theorem dX7_card_95 : decode cX7_card 95 = .ok (.iconst 0, 1) := by decide +kernel
theorem dX7_card_96 : decode cX7_card 96 = .ok (.istore 10, 2) := by decide +kernel
theorem dX7_card_98 : decode cX7_card 98 = .ok (.iload 10, 2) := by decide +kernel
theorem dX7_card_100 : decode cX7_card 100 = .ok (.aload_n 0, 1) := by decide +kernel
theorem dX7_card_101 : decode cX7_card 101 = .ok (.getfield 155, 3) := by decide +kernel
theorem dX7_card_104 : decode cX7_card 104 = .ok (.if_icmp .ge 40, 3) := by decide +kernel
theorem dX7_card_107 : decode cX7_card 107 = .ok (.aload_n 0, 1) := by decide +kernel
theorem dX7_card_108 : decode cX7_card 108 = .ok (.iload 10, 2) := by decide +kernel
theorem dX7_card_110 : decode cX7_card 110 = .ok (.iload_n 1, 1) := by decide +kernel
theorem dX7_card_111 : decode cX7_card 111 = .ok (.iload_n 2, 1) := by decide +kernel
theorem dX7_card_112 : decode cX7_card 112 = .ok (.iload_n 3, 1) := by decide +kernel
theorem dX7_card_113 : decode cX7_card 113 = .ok (.iload 7, 2) := by decide +kernel
theorem dX7_card_115 : decode cX7_card 115 = .ok (.iload 4, 2) := by decide +kernel
theorem dX7_card_117 : decode cX7_card 117 = .ok (.invokevirtual 170, 3) := by decide +kernel
theorem dX7_card_120 : decode cX7_card 120 = .ok (.ifCond .ne 6, 3) := by decide +kernel
theorem dX7_card_123 : decode cX7_card 123 = .ok (.goto 15, 3) := by decide +kernel
theorem dX7_card_126 : decode cX7_card 126 = .ok (.iload 8, 2) := by decide +kernel
theorem dX7_card_128 : decode cX7_card 128 = .ok (.ifCond .ne 7, 3) := by decide +kernel
theorem dX7_card_131 : decode cX7_card 131 = .ok (.iload 10, 2) := by decide +kernel
theorem dX7_card_133 : decode cX7_card 133 = .ok (.istore 9, 2) := by decide +kernel
theorem dX7_card_135 : decode cX7_card 135 = .ok (.iinc 8 1, 3) := by decide +kernel
theorem dX7_card_138 : decode cX7_card 138 = .ok (.iinc 10 1, 3) := by decide +kernel
theorem dX7_card_141 : decode cX7_card 141 = .ok (.goto (-43), 3) := by decide +kernel
theorem dX7_card_144 : decode cX7_card 144 = .ok (.iload 8, 2) := by decide +kernel
theorem dX7_card_146 : decode cX7_card 146 = .ok (.bipush 12, 2) := by decide +kernel
theorem dX7_card_148 : decode cX7_card 148 = .ok (.if_icmp .lt 27, 3) := by decide +kernel
theorem dX7_card_151 : decode cX7_card 151 = .ok (.iload 5, 2) := by decide +kernel
theorem dX7_card_153 : decode cX7_card 153 = .ok (.iconst (-1), 1) := by decide +kernel
theorem dX7_card_154 : decode cX7_card 154 = .ok (.if_icmp .eq 13, 3) := by decide +kernel
theorem dX7_card_157 : decode cX7_card 157 = .ok (.iload 9, 2) := by decide +kernel
theorem dX7_card_159 : decode cX7_card 159 = .ok (.iload 5, 2) := by decide +kernel
theorem dX7_card_161 : decode cX7_card 161 = .ok (.if_icmp .lt 6, 3) := by decide +kernel
theorem dX7_card_164 : decode cX7_card 164 = .ok (.goto 11, 3) := by decide +kernel
theorem dX7_card_167 : decode cX7_card 167 = .ok (.iload 9, 2) := by decide +kernel
theorem dX7_card_169 : decode cX7_card 169 = .ok (.istore 5, 2) := by decide +kernel
theorem dX7_card_171 : decode cX7_card 171 = .ok (.iload 7, 2) := by decide +kernel
theorem dX7_card_173 : decode cX7_card 173 = .ok (.istore 6, 2) := by decide +kernel
theorem dX7_card_175 : decode cX7_card 175 = .ok (.iinc 7 1, 3) := by decide +kernel
theorem dX7_card_178 : decode cX7_card 178 = .ok (.goto (-96), 3) := by decide +kernel
theorem dX7_card_181 : decode cX7_card 181 = .ok (.iload 5, 2) := by decide +kernel
theorem dX7_card_183 : decode cX7_card 183 = .ok (.iconst (-1), 1) := by decide +kernel
theorem dX7_card_184 : decode cX7_card 184 = .ok (.if_icmp .ne 5, 3) := by decide +kernel
theorem dX7_card_187 : decode cX7_card 187 = .ok (.iconst (-1), 1) := by decide +kernel
theorem dX7_card_188 : decode cX7_card 188 = .ok (.ireturn, 1) := by decide +kernel
theorem dX7_card_189 : decode cX7_card 189 = .ok (.iconst 0, 1) := by decide +kernel
theorem dX7_card_190 : decode cX7_card 190 = .ok (.istore 7, 2) := by decide +kernel
theorem dX7_card_192 : decode cX7_card 192 = .ok (.iload 5, 2) := by decide +kernel
theorem dX7_card_194 : decode cX7_card 194 = .ok (.istore 8, 2) := by decide +kernel
theorem dX7_card_196 : decode cX7_card 196 = .ok (.iload 7, 2) := by decide +kernel
theorem dX7_card_198 : decode cX7_card 198 = .ok (.bipush 12, 2) := by decide +kernel
theorem dX7_card_200 : decode cX7_card 200 = .ok (.if_icmp .ge 67, 3) := by decide +kernel
theorem dX7_card_203 : decode cX7_card 203 = .ok (.aload_n 0, 1) := by decide +kernel
theorem dX7_card_204 : decode cX7_card 204 = .ok (.iload 8, 2) := by decide +kernel
theorem dX7_card_206 : decode cX7_card 206 = .ok (.iload_n 1, 1) := by decide +kernel
theorem dX7_card_207 : decode cX7_card 207 = .ok (.iload_n 2, 1) := by decide +kernel
theorem dX7_card_208 : decode cX7_card 208 = .ok (.iload_n 3, 1) := by decide +kernel
theorem dX7_card_209 : decode cX7_card 209 = .ok (.iload 6, 2) := by decide +kernel
theorem dX7_card_211 : decode cX7_card 211 = .ok (.iload 4, 2) := by decide +kernel
theorem dX7_card_213 : decode cX7_card 213 = .ok (.invokevirtual 170, 3) := by decide +kernel
theorem dX7_card_216 : decode cX7_card 216 = .ok (.ifCond .ne 6, 3) := by decide +kernel
theorem dX7_card_219 : decode cX7_card 219 = .ok (.goto 42, 3) := by decide +kernel
theorem dX7_card_222 : decode cX7_card 222 = .ok (.aload_n 0, 1) := by decide +kernel
theorem dX7_card_223 : decode cX7_card 223 = .ok (.getfield 41, 3) := by decide +kernel
theorem dX7_card_226 : decode cX7_card 226 = .ok (.iload 8, 2) := by decide +kernel
theorem dX7_card_228 : decode cX7_card 228 = .ok (.iconst 4, 1) := by decide +kernel
theorem dX7_card_229 : decode cX7_card 229 = .ok (.iastore, 1) := by decide +kernel
theorem dX7_card_230 : decode cX7_card 230 = .ok (.aload_n 0, 1) := by decide +kernel
theorem dX7_card_231 : decode cX7_card 231 = .ok (.getfield 50, 3) := by decide +kernel
theorem dX7_card_234 : decode cX7_card 234 = .ok (.iload 8, 2) := by decide +kernel
theorem dX7_card_236 : decode cX7_card 236 = .ok (.aload_n 0, 1) := by decide +kernel
theorem dX7_card_237 : decode cX7_card 237 = .ok (.getfield 167, 3) := by decide +kernel
theorem dX7_card_240 : decode cX7_card 240 = .ok (.iastore, 1) := by decide +kernel
theorem dX7_card_241 : decode cX7_card 241 = .ok (.aload_n 0, 1) := by decide +kernel
theorem dX7_card_242 : decode cX7_card 242 = .ok (.getfield 80, 3) := by decide +kernel
theorem dX7_card_245 : decode cX7_card 245 = .ok (.bipush 12, 2) := by decide +kernel
theorem dX7_card_247 : decode cX7_card 247 = .ok (.aload_n 0, 1) := by decide +kernel
theorem dX7_card_248 : decode cX7_card 248 = .ok (.getfield 167, 3) := by decide +kernel
theorem dX7_card_251 : decode cX7_card 251 = .ok (.imul, 1) := by decide +kernel
theorem dX7_card_252 : decode cX7_card 252 = .ok (.iload 7, 2) := by decide +kernel
theorem dX7_card_254 : decode cX7_card 254 = .ok (.iadd, 1) := by decide +kernel
theorem dX7_card_255 : decode cX7_card 255 = .ok (.iload 8, 2) := by decide +kernel
theorem dX7_card_257 : decode cX7_card 257 = .ok (.iastore, 1) := by decide +kernel
theorem dX7_card_258 : decode cX7_card 258 = .ok (.iinc 7 1, 3) := by decide +kernel
theorem dX7_card_261 : decode cX7_card 261 = .ok (.iinc 8 1, 3) := by decide +kernel
theorem dX7_card_264 : decode cX7_card 264 = .ok (.goto (-68), 3) := by decide +kernel
theorem dX7_card_267 : decode cX7_card 267 = .ok (.aload_n 0, 1) := by decide +kernel
theorem dX7_card_268 : decode cX7_card 268 = .ok (.getfield 68, 3) := by decide +kernel
theorem dX7_card_271 : decode cX7_card 271 = .ok (.aload_n 0, 1) := by decide +kernel
theorem dX7_card_272 : decode cX7_card 272 = .ok (.getfield 167, 3) := by decide +kernel
theorem dX7_card_275 : decode cX7_card 275 = .ok (.iload_n 1, 1) := by decide +kernel
theorem dX7_card_276 : decode cX7_card 276 = .ok (.iastore, 1) := by decide +kernel
theorem dX7_card_277 : decode cX7_card 277 = .ok (.aload_n 0, 1) := by decide +kernel
theorem dX7_card_278 : decode cX7_card 278 = .ok (.getfield 71, 3) := by decide +kernel
theorem dX7_card_281 : decode cX7_card 281 = .ok (.aload_n 0, 1) := by decide +kernel
theorem dX7_card_282 : decode cX7_card 282 = .ok (.getfield 167, 3) := by decide +kernel
theorem dX7_card_285 : decode cX7_card 285 = .ok (.iload_n 2, 1) := by decide +kernel
theorem dX7_card_286 : decode cX7_card 286 = .ok (.iastore, 1) := by decide +kernel
theorem dX7_card_287 : decode cX7_card 287 = .ok (.aload_n 0, 1) := by decide +kernel
theorem dX7_card_288 : decode cX7_card 288 = .ok (.getfield 74, 3) := by decide +kernel
theorem dX7_card_291 : decode cX7_card 291 = .ok (.aload_n 0, 1) := by decide +kernel
theorem dX7_card_292 : decode cX7_card 292 = .ok (.getfield 167, 3) := by decide +kernel
theorem dX7_card_295 : decode cX7_card 295 = .ok (.iload_n 3, 1) := by decide +kernel
theorem dX7_card_296 : decode cX7_card 296 = .ok (.iastore, 1) := by decide +kernel
theorem dX7_card_297 : decode cX7_card 297 = .ok (.aload_n 0, 1) := by decide +kernel
theorem dX7_card_298 : decode cX7_card 298 = .ok (.getfield 77, 3) := by decide +kernel
theorem dX7_card_301 : decode cX7_card 301 = .ok (.aload_n 0, 1) := by decide +kernel
theorem dX7_card_302 : decode cX7_card 302 = .ok (.getfield 167, 3) := by decide +kernel
theorem dX7_card_305 : decode cX7_card 305 = .ok (.iconst (-1), 1) := by decide +kernel
theorem dX7_card_306 : decode cX7_card 306 = .ok (.iastore, 1) := by decide +kernel
theorem dX7_card_307 : decode cX7_card 307 = .ok (.aload_n 0, 1) := by decide +kernel
theorem dX7_card_308 : decode cX7_card 308 = .ok (.dup, 1) := by decide +kernel
theorem dX7_card_309 : decode cX7_card 309 = .ok (.getfield 167, 3) := by decide +kernel
theorem dX7_card_312 : decode cX7_card 312 = .ok (.iconst 1, 1) := by decide +kernel
theorem dX7_card_313 : decode cX7_card 313 = .ok (.iadd, 1) := by decide +kernel
theorem dX7_card_314 : decode cX7_card 314 = .ok (.putfield 167, 3) := by decide +kernel
theorem dX7_card_317 : decode cX7_card 317 = .ok (.aload_n 0, 1) := by decide +kernel
theorem dX7_card_318 : decode cX7_card 318 = .ok (.getfield 167, 3) := by decide +kernel
theorem dX7_card_321 : decode cX7_card 321 = .ok (.iconst 1, 1) := by decide +kernel
theorem dX7_card_322 : decode cX7_card 322 = .ok (.isub, 1) := by decide +kernel
theorem dX7_card_323 : decode cX7_card 323 = .ok (.ireturn, 1) := by decide +kernel
theorem dX7_isCard_0 : decode cX7_isCard 0 = .ok (.aload_n 0, 1) := by decide +kernel
theorem dX7_isCard_1 : decode cX7_isCard 1 = .ok (.iconst 0, 1) := by decide +kernel
theorem dX7_isCard_2 : decode cX7_isCard 2 = .ok (.putfield 114, 3) := by decide +kernel
theorem dX7_isCard_5 : decode cX7_isCard 5 = .ok (.aload_n 0, 1) := by decide +kernel
theorem dX7_isCard_6 : decode cX7_isCard 6 = .ok (.iload_n 1, 1) := by decide +kernel
theorem dX7_isCard_7 : decode cX7_isCard 7 = .ok (.ifCond .lt 15, 3) := by decide +kernel
theorem dX7_isCard_10 : decode cX7_isCard 10 = .ok (.iload_n 1, 1) := by decide +kernel
theorem dX7_isCard_11 : decode cX7_isCard 11 = .ok (.aload_n 0, 1) := by decide +kernel
theorem dX7_isCard_12 : decode cX7_isCard 12 = .ok (.getfield 167, 3) := by decide +kernel
theorem dX7_isCard_15 : decode cX7_isCard 15 = .ok (.if_icmp .ge 7, 3) := by decide +kernel
theorem dX7_isCard_18 : decode cX7_isCard 18 = .ok (.iconst 1, 1) := by decide +kernel
theorem dX7_isCard_19 : decode cX7_isCard 19 = .ok (.goto 4, 3) := by decide +kernel
theorem dX7_isCard_22 : decode cX7_isCard 22 = .ok (.iconst 0, 1) := by decide +kernel
theorem dX7_isCard_23 : decode cX7_isCard 23 = .ok (.iconst 1, 1) := by decide +kernel
theorem dX7_isCard_24 : decode cX7_isCard 24 = .ok (.invokevirtual 121, 3) := by decide +kernel
theorem dX7_isCard_27 : decode cX7_isCard 27 = .ok (.ireturn, 1) := by decide +kernel
theorem dX7_cardOf_0 : decode cX7_cardOf 0 = .ok (.aload_n 0, 1) := by decide +kernel
theorem dX7_cardOf_1 : decode cX7_cardOf 1 = .ok (.iload_n 1, 1) := by decide +kernel
theorem dX7_cardOf_2 : decode cX7_cardOf 2 = .ok (.invokevirtual 174, 3) := by decide +kernel
theorem dX7_cardOf_5 : decode cX7_cardOf 5 = .ok (.ifCond .eq 25, 3) := by decide +kernel
theorem dX7_cardOf_8 : decode cX7_cardOf 8 = .ok (.aload_n 0, 1) := by decide +kernel
theorem dX7_cardOf_9 : decode cX7_cardOf 9 = .ok (.iload_n 2, 1) := by decide +kernel
theorem dX7_cardOf_10 : decode cX7_cardOf 10 = .ok (.ifCond .lt 12, 3) := by decide +kernel
theorem dX7_cardOf_13 : decode cX7_cardOf 13 = .ok (.iload_n 2, 1) := by decide +kernel
theorem dX7_cardOf_14 : decode cX7_cardOf 14 = .ok (.iconst 5, 1) := by decide +kernel
theorem dX7_cardOf_15 : decode cX7_cardOf 15 = .ok (.if_icmp .gt 7, 3) := by decide +kernel
theorem dX7_cardOf_18 : decode cX7_cardOf 18 = .ok (.iconst 1, 1) := by decide +kernel
theorem dX7_cardOf_19 : decode cX7_cardOf 19 = .ok (.goto 4, 3) := by decide +kernel
theorem dX7_cardOf_22 : decode cX7_cardOf 22 = .ok (.iconst 0, 1) := by decide +kernel
theorem dX7_cardOf_23 : decode cX7_cardOf 23 = .ok (.iconst 1, 1) := by decide +kernel
theorem dX7_cardOf_24 : decode cX7_cardOf 24 = .ok (.invokevirtual 121, 3) := by decide +kernel
theorem dX7_cardOf_27 : decode cX7_cardOf 27 = .ok (.ifCond .ne 5, 3) := by decide +kernel
theorem dX7_cardOf_30 : decode cX7_cardOf 30 = .ok (.iconst 0, 1) := by decide +kernel
theorem dX7_cardOf_31 : decode cX7_cardOf 31 = .ok (.ireturn, 1) := by decide +kernel
theorem dX7_cardOf_32 : decode cX7_cardOf 32 = .ok (.iload_n 2, 1) := by decide +kernel
theorem dX7_cardOf_33 : decode cX7_cardOf 33 = .ok (.ifCond .ne 10, 3) := by decide +kernel
theorem dX7_cardOf_36 : decode cX7_cardOf 36 = .ok (.aload_n 0, 1) := by decide +kernel
theorem dX7_cardOf_37 : decode cX7_cardOf 37 = .ok (.getfield 68, 3) := by decide +kernel
theorem dX7_cardOf_40 : decode cX7_cardOf 40 = .ok (.iload_n 1, 1) := by decide +kernel
theorem dX7_cardOf_41 : decode cX7_cardOf 41 = .ok (.iaload, 1) := by decide +kernel
theorem dX7_cardOf_42 : decode cX7_cardOf 42 = .ok (.ireturn, 1) := by decide +kernel
theorem dX7_cardOf_43 : decode cX7_cardOf 43 = .ok (.iload_n 2, 1) := by decide +kernel
theorem dX7_cardOf_44 : decode cX7_cardOf 44 = .ok (.iconst 1, 1) := by decide +kernel
theorem dX7_cardOf_45 : decode cX7_cardOf 45 = .ok (.if_icmp .ne 10, 3) := by decide +kernel
theorem dX7_cardOf_48 : decode cX7_cardOf 48 = .ok (.aload_n 0, 1) := by decide +kernel
theorem dX7_cardOf_49 : decode cX7_cardOf 49 = .ok (.getfield 71, 3) := by decide +kernel
theorem dX7_cardOf_52 : decode cX7_cardOf 52 = .ok (.iload_n 1, 1) := by decide +kernel
theorem dX7_cardOf_53 : decode cX7_cardOf 53 = .ok (.iaload, 1) := by decide +kernel
theorem dX7_cardOf_54 : decode cX7_cardOf 54 = .ok (.ireturn, 1) := by decide +kernel
theorem dX7_cardOf_55 : decode cX7_cardOf 55 = .ok (.iload_n 2, 1) := by decide +kernel
theorem dX7_cardOf_56 : decode cX7_cardOf 56 = .ok (.iconst 2, 1) := by decide +kernel
theorem dX7_cardOf_57 : decode cX7_cardOf 57 = .ok (.if_icmp .ne 10, 3) := by decide +kernel
theorem dX7_cardOf_60 : decode cX7_cardOf 60 = .ok (.aload_n 0, 1) := by decide +kernel
theorem dX7_cardOf_61 : decode cX7_cardOf 61 = .ok (.getfield 74, 3) := by decide +kernel
theorem dX7_cardOf_64 : decode cX7_cardOf 64 = .ok (.iload_n 1, 1) := by decide +kernel
theorem dX7_cardOf_65 : decode cX7_cardOf 65 = .ok (.iaload, 1) := by decide +kernel
theorem dX7_cardOf_66 : decode cX7_cardOf 66 = .ok (.ireturn, 1) := by decide +kernel
theorem dX7_cardOf_67 : decode cX7_cardOf 67 = .ok (.iload_n 2, 1) := by decide +kernel
theorem dX7_cardOf_68 : decode cX7_cardOf 68 = .ok (.iconst 5, 1) := by decide +kernel
theorem dX7_cardOf_69 : decode cX7_cardOf 69 = .ok (.if_icmp .ne 10, 3) := by decide +kernel
theorem dX7_cardOf_72 : decode cX7_cardOf 72 = .ok (.aload_n 0, 1) := by decide +kernel
theorem dX7_cardOf_73 : decode cX7_cardOf 73 = .ok (.getfield 77, 3) := by decide +kernel
theorem dX7_cardOf_76 : decode cX7_cardOf 76 = .ok (.iload_n 1, 1) := by decide +kernel
theorem dX7_cardOf_77 : decode cX7_cardOf 77 = .ok (.iaload, 1) := by decide +kernel
theorem dX7_cardOf_78 : decode cX7_cardOf 78 = .ok (.ireturn, 1) := by decide +kernel
theorem dX7_cardOf_79 : decode cX7_cardOf 79 = .ok (.aload_n 0, 1) := by decide +kernel
theorem dX7_cardOf_80 : decode cX7_cardOf 80 = .ok (.getfield 32, 3) := by decide +kernel
theorem dX7_cardOf_83 : decode cX7_cardOf 83 = .ok (.aload_n 0, 1) := by decide +kernel
theorem dX7_cardOf_84 : decode cX7_cardOf 84 = .ok (.getfield 80, 3) := by decide +kernel
theorem dX7_cardOf_87 : decode cX7_cardOf 87 = .ok (.bipush 12, 2) := by decide +kernel
theorem dX7_cardOf_89 : decode cX7_cardOf 89 = .ok (.iload_n 1, 1) := by decide +kernel
theorem dX7_cardOf_90 : decode cX7_cardOf 90 = .ok (.imul, 1) := by decide +kernel
theorem dX7_cardOf_91 : decode cX7_cardOf 91 = .ok (.iaload, 1) := by decide +kernel
theorem dX7_cardOf_92 : decode cX7_cardOf 92 = .ok (.iaload, 1) := by decide +kernel
theorem dX7_cardOf_93 : decode cX7_cardOf 93 = .ok (.istore_n 3, 1) := by decide +kernel
theorem dX7_cardOf_94 : decode cX7_cardOf 94 = .ok (.iconst 0, 1) := by decide +kernel
theorem dX7_cardOf_95 : decode cX7_cardOf 95 = .ok (.istore 4, 2) := by decide +kernel
theorem dX7_cardOf_97 : decode cX7_cardOf 97 = .ok (.iload 4, 2) := by decide +kernel
theorem dX7_cardOf_99 : decode cX7_cardOf 99 = .ok (.bipush 12, 2) := by decide +kernel
theorem dX7_cardOf_101 : decode cX7_cardOf 101 = .ok (.if_icmp .ge 51, 3) := by decide +kernel
theorem dX7_cardOf_104 : decode cX7_cardOf 104 = .ok (.aload_n 0, 1) := by decide +kernel
theorem dX7_cardOf_105 : decode cX7_cardOf 105 = .ok (.getfield 32, 3) := by decide +kernel
theorem dX7_cardOf_108 : decode cX7_cardOf 108 = .ok (.aload_n 0, 1) := by decide +kernel
theorem dX7_cardOf_109 : decode cX7_cardOf 109 = .ok (.getfield 80, 3) := by decide +kernel
theorem dX7_cardOf_112 : decode cX7_cardOf 112 = .ok (.bipush 12, 2) := by decide +kernel
theorem dX7_cardOf_114 : decode cX7_cardOf 114 = .ok (.iload_n 1, 1) := by decide +kernel
theorem dX7_cardOf_115 : decode cX7_cardOf 115 = .ok (.imul, 1) := by decide +kernel
theorem dX7_cardOf_116 : decode cX7_cardOf 116 = .ok (.iload 4, 2) := by decide +kernel
theorem dX7_cardOf_118 : decode cX7_cardOf 118 = .ok (.iadd, 1) := by decide +kernel
theorem dX7_cardOf_119 : decode cX7_cardOf 119 = .ok (.iaload, 1) := by decide +kernel
theorem dX7_cardOf_120 : decode cX7_cardOf 120 = .ok (.iaload, 1) := by decide +kernel
theorem dX7_cardOf_121 : decode cX7_cardOf 121 = .ok (.istore 5, 2) := by decide +kernel
theorem dX7_cardOf_123 : decode cX7_cardOf 123 = .ok (.iload_n 2, 1) := by decide +kernel
theorem dX7_cardOf_124 : decode cX7_cardOf 124 = .ok (.iconst 3, 1) := by decide +kernel
theorem dX7_cardOf_125 : decode cX7_cardOf 125 = .ok (.if_icmp .ne 12, 3) := by decide +kernel
theorem dX7_cardOf_128 : decode cX7_cardOf 128 = .ok (.iload 5, 2) := by decide +kernel
theorem dX7_cardOf_130 : decode cX7_cardOf 130 = .ok (.iload_n 3, 1) := by decide +kernel
theorem dX7_cardOf_131 : decode cX7_cardOf 131 = .ok (.if_icmp .ge 15, 3) := by decide +kernel
theorem dX7_cardOf_134 : decode cX7_cardOf 134 = .ok (.goto 9, 3) := by decide +kernel
theorem dX7_cardOf_137 : decode cX7_cardOf 137 = .ok (.iload 5, 2) := by decide +kernel
theorem dX7_cardOf_139 : decode cX7_cardOf 139 = .ok (.iload_n 3, 1) := by decide +kernel
theorem dX7_cardOf_140 : decode cX7_cardOf 140 = .ok (.if_icmp .le 6, 3) := by decide +kernel
theorem dX7_cardOf_143 : decode cX7_cardOf 143 = .ok (.iload 5, 2) := by decide +kernel
theorem dX7_cardOf_145 : decode cX7_cardOf 145 = .ok (.istore_n 3, 1) := by decide +kernel
theorem dX7_cardOf_146 : decode cX7_cardOf 146 = .ok (.iinc 4 1, 3) := by decide +kernel
theorem dX7_cardOf_149 : decode cX7_cardOf 149 = .ok (.goto (-52), 3) := by decide +kernel
theorem dX7_cardOf_152 : decode cX7_cardOf 152 = .ok (.iload_n 3, 1) := by decide +kernel
theorem dX7_cardOf_153 : decode cX7_cardOf 153 = .ok (.ireturn, 1) := by decide +kernel
theorem dX7_onCard_0 : decode cX7_onCard 0 = .ok (.aload_n 0, 1) := by decide +kernel
theorem dX7_onCard_1 : decode cX7_onCard 1 = .ok (.iload_n 1, 1) := by decide +kernel
theorem dX7_onCard_2 : decode cX7_onCard 2 = .ok (.invokevirtual 174, 3) := by decide +kernel
theorem dX7_onCard_5 : decode cX7_onCard 5 = .ok (.ifCond .eq 40, 3) := by decide +kernel
theorem dX7_onCard_8 : decode cX7_onCard 8 = .ok (.aload_n 0, 1) := by decide +kernel
theorem dX7_onCard_9 : decode cX7_onCard 9 = .ok (.iload_n 2, 1) := by decide +kernel
theorem dX7_onCard_10 : decode cX7_onCard 10 = .ok (.ifCond .lt 13, 3) := by decide +kernel
theorem dX7_onCard_13 : decode cX7_onCard 13 = .ok (.iload_n 2, 1) := by decide +kernel
theorem dX7_onCard_14 : decode cX7_onCard 14 = .ok (.bipush 11, 2) := by decide +kernel
theorem dX7_onCard_16 : decode cX7_onCard 16 = .ok (.if_icmp .gt 7, 3) := by decide +kernel
theorem dX7_onCard_19 : decode cX7_onCard 19 = .ok (.iconst 1, 1) := by decide +kernel
theorem dX7_onCard_20 : decode cX7_onCard 20 = .ok (.goto 4, 3) := by decide +kernel
theorem dX7_onCard_23 : decode cX7_onCard 23 = .ok (.iconst 0, 1) := by decide +kernel
theorem dX7_onCard_24 : decode cX7_onCard 24 = .ok (.iconst 1, 1) := by decide +kernel
theorem dX7_onCard_25 : decode cX7_onCard 25 = .ok (.invokevirtual 121, 3) := by decide +kernel
theorem dX7_onCard_28 : decode cX7_onCard 28 = .ok (.ifCond .eq 17, 3) := by decide +kernel
theorem dX7_onCard_31 : decode cX7_onCard 31 = .ok (.aload_n 0, 1) := by decide +kernel
theorem dX7_onCard_32 : decode cX7_onCard 32 = .ok (.getfield 80, 3) := by decide +kernel
theorem dX7_onCard_35 : decode cX7_onCard 35 = .ok (.bipush 12, 2) := by decide +kernel
theorem dX7_onCard_37 : decode cX7_onCard 37 = .ok (.iload_n 1, 1) := by decide +kernel
theorem dX7_onCard_38 : decode cX7_onCard 38 = .ok (.imul, 1) := by decide +kernel
theorem dX7_onCard_39 : decode cX7_onCard 39 = .ok (.iload_n 2, 1) := by decide +kernel
theorem dX7_onCard_40 : decode cX7_onCard 40 = .ok (.iadd, 1) := by decide +kernel
theorem dX7_onCard_41 : decode cX7_onCard 41 = .ok (.iaload, 1) := by decide +kernel
theorem dX7_onCard_42 : decode cX7_onCard 42 = .ok (.goto 4, 3) := by decide +kernel
theorem dX7_onCard_45 : decode cX7_onCard 45 = .ok (.iconst 0, 1) := by decide +kernel
theorem dX7_onCard_46 : decode cX7_onCard 46 = .ok (.ireturn, 1) := by decide +kernel
theorem dX7_order_0 : decode cX7_order 0 = .ok (.aload_n 0, 1) := by decide +kernel
theorem dX7_order_1 : decode cX7_order 1 = .ok (.iconst 0, 1) := by decide +kernel
theorem dX7_order_2 : decode cX7_order 2 = .ok (.putfield 114, 3) := by decide +kernel
theorem dX7_order_5 : decode cX7_order 5 = .ok (.iload_n 1, 1) := by decide +kernel
theorem dX7_order_6 : decode cX7_order 6 = .ok (.iconst 1, 1) := by decide +kernel
theorem dX7_order_7 : decode cX7_order 7 = .ok (.if_icmp .lt 52, 3) := by decide +kernel
theorem dX7_order_10 : decode cX7_order 10 = .ok (.iload_n 1, 1) := by decide +kernel
theorem dX7_order_11 : decode cX7_order 11 = .ok (.bipush 9, 2) := by decide +kernel
theorem dX7_order_13 : decode cX7_order 13 = .ok (.if_icmp .gt 46, 3) := by decide +kernel
theorem dX7_order_16 : decode cX7_order 16 = .ok (.iload_n 2, 1) := by decide +kernel
theorem dX7_order_17 : decode cX7_order 17 = .ok (.iconst 1, 1) := by decide +kernel
theorem dX7_order_18 : decode cX7_order 18 = .ok (.if_icmp .lt 41, 3) := by decide +kernel
theorem dX7_order_21 : decode cX7_order 21 = .ok (.iload_n 2, 1) := by decide +kernel
theorem dX7_order_22 : decode cX7_order 22 = .ok (.iconst 3, 1) := by decide +kernel
theorem dX7_order_23 : decode cX7_order 23 = .ok (.if_icmp .gt 36, 3) := by decide +kernel
theorem dX7_order_26 : decode cX7_order 26 = .ok (.iload_n 3, 1) := by decide +kernel
theorem dX7_order_27 : decode cX7_order 27 = .ok (.iconst 2, 1) := by decide +kernel
theorem dX7_order_28 : decode cX7_order 28 = .ok (.if_icmp .eq 8, 3) := by decide +kernel
theorem dX7_order_31 : decode cX7_order 31 = .ok (.iload_n 3, 1) := by decide +kernel
theorem dX7_order_32 : decode cX7_order 32 = .ok (.iconst 4, 1) := by decide +kernel
theorem dX7_order_33 : decode cX7_order 33 = .ok (.if_icmp .ne 26, 3) := by decide +kernel
theorem dX7_order_36 : decode cX7_order 36 = .ok (.iload 4, 2) := by decide +kernel
theorem dX7_order_38 : decode cX7_order 38 = .ok (.ifCond .lt 21, 3) := by decide +kernel
theorem dX7_order_41 : decode cX7_order 41 = .ok (.iload 4, 2) := by decide +kernel
theorem dX7_order_43 : decode cX7_order 43 = .ok (.iload 5, 2) := by decide +kernel
theorem dX7_order_45 : decode cX7_order 45 = .ok (.if_icmp .gt 14, 3) := by decide +kernel
theorem dX7_order_48 : decode cX7_order 48 = .ok (.iload 5, 2) := by decide +kernel
theorem dX7_order_50 : decode cX7_order 50 = .ok (.bipush 9, 2) := by decide +kernel
theorem dX7_order_52 : decode cX7_order 52 = .ok (.if_icmp .gt 7, 3) := by decide +kernel
theorem dX7_order_55 : decode cX7_order 55 = .ok (.iconst 1, 1) := by decide +kernel
theorem dX7_order_56 : decode cX7_order 56 = .ok (.goto 4, 3) := by decide +kernel
theorem dX7_order_59 : decode cX7_order 59 = .ok (.iconst 0, 1) := by decide +kernel
theorem dX7_order_60 : decode cX7_order 60 = .ok (.istore 8, 2) := by decide +kernel
theorem dX7_order_62 : decode cX7_order 62 = .ok (.aload_n 0, 1) := by decide +kernel
theorem dX7_order_63 : decode cX7_order 63 = .ok (.getfield 177, 3) := by decide +kernel
theorem dX7_order_66 : decode cX7_order 66 = .ok (.bipush 30, 2) := by decide +kernel
theorem dX7_order_68 : decode cX7_order 68 = .ok (.if_icmp .eq 34, 3) := by decide +kernel
theorem dX7_order_71 : decode cX7_order 71 = .ok (.iload 8, 2) := by decide +kernel
theorem dX7_order_73 : decode cX7_order 73 = .ok (.ifCond .eq 29, 3) := by decide +kernel
theorem dX7_order_76 : decode cX7_order 76 = .ok (.iload 6, 2) := by decide +kernel
theorem dX7_order_78 : decode cX7_order 78 = .ok (.ifCond .lt 24, 3) := by decide +kernel
theorem dX7_order_81 : decode cX7_order 81 = .ok (.iload 6, 2) := by decide +kernel
theorem dX7_order_83 : decode cX7_order 83 = .ok (.sipush 999, 3) := by decide +kernel
theorem dX7_order_86 : decode cX7_order 86 = .ok (.if_icmp .gt 16, 3) := by decide +kernel
theorem dX7_order_89 : decode cX7_order 89 = .ok (.iload 7, 2) := by decide +kernel
theorem dX7_order_91 : decode cX7_order 91 = .ok (.ifCond .lt 11, 3) := by decide +kernel
theorem dX7_order_94 : decode cX7_order 94 = .ok (.iload 7, 2) := by decide +kernel
theorem dX7_order_96 : decode cX7_order 96 = .ok (.sipush 999, 3) := by decide +kernel
theorem dX7_order_99 : decode cX7_order 99 = .ok (.if_icmp .le 5, 3) := by decide +kernel
theorem dX7_order_102 : decode cX7_order 102 = .ok (.iconst (-1), 1) := by decide +kernel
theorem dX7_order_103 : decode cX7_order 103 = .ok (.ireturn, 1) := by decide +kernel
theorem dX7_order_104 : decode cX7_order 104 = .ok (.aload_n 0, 1) := by decide +kernel
theorem dX7_order_105 : decode cX7_order 105 = .ok (.getfield 83, 3) := by decide +kernel
theorem dX7_order_108 : decode cX7_order 108 = .ok (.aload_n 0, 1) := by decide +kernel
theorem dX7_order_109 : decode cX7_order 109 = .ok (.getfield 177, 3) := by decide +kernel
theorem dX7_order_112 : decode cX7_order 112 = .ok (.iload_n 1, 1) := by decide +kernel
theorem dX7_order_113 : decode cX7_order 113 = .ok (.iastore, 1) := by decide +kernel
theorem dX7_order_114 : decode cX7_order 114 = .ok (.aload_n 0, 1) := by decide +kernel
theorem dX7_order_115 : decode cX7_order 115 = .ok (.getfield 86, 3) := by decide +kernel
theorem dX7_order_118 : decode cX7_order 118 = .ok (.aload_n 0, 1) := by decide +kernel
theorem dX7_order_119 : decode cX7_order 119 = .ok (.getfield 177, 3) := by decide +kernel
theorem dX7_order_122 : decode cX7_order 122 = .ok (.iload_n 2, 1) := by decide +kernel
theorem dX7_order_123 : decode cX7_order 123 = .ok (.iastore, 1) := by decide +kernel
theorem dX7_order_124 : decode cX7_order 124 = .ok (.aload_n 0, 1) := by decide +kernel
theorem dX7_order_125 : decode cX7_order 125 = .ok (.getfield 89, 3) := by decide +kernel
theorem dX7_order_128 : decode cX7_order 128 = .ok (.aload_n 0, 1) := by decide +kernel
theorem dX7_order_129 : decode cX7_order 129 = .ok (.getfield 177, 3) := by decide +kernel
theorem dX7_order_132 : decode cX7_order 132 = .ok (.iload_n 3, 1) := by decide +kernel
theorem dX7_order_133 : decode cX7_order 133 = .ok (.iastore, 1) := by decide +kernel
theorem dX7_order_134 : decode cX7_order 134 = .ok (.aload_n 0, 1) := by decide +kernel
theorem dX7_order_135 : decode cX7_order 135 = .ok (.getfield 92, 3) := by decide +kernel
theorem dX7_order_138 : decode cX7_order 138 = .ok (.aload_n 0, 1) := by decide +kernel
theorem dX7_order_139 : decode cX7_order 139 = .ok (.getfield 177, 3) := by decide +kernel
theorem dX7_order_142 : decode cX7_order 142 = .ok (.iload 4, 2) := by decide +kernel
theorem dX7_order_144 : decode cX7_order 144 = .ok (.iastore, 1) := by decide +kernel
theorem dX7_order_145 : decode cX7_order 145 = .ok (.aload_n 0, 1) := by decide +kernel
theorem dX7_order_146 : decode cX7_order 146 = .ok (.getfield 95, 3) := by decide +kernel
theorem dX7_order_149 : decode cX7_order 149 = .ok (.aload_n 0, 1) := by decide +kernel
theorem dX7_order_150 : decode cX7_order 150 = .ok (.getfield 177, 3) := by decide +kernel
theorem dX7_order_153 : decode cX7_order 153 = .ok (.iload 5, 2) := by decide +kernel
theorem dX7_order_155 : decode cX7_order 155 = .ok (.iastore, 1) := by decide +kernel
theorem dX7_order_156 : decode cX7_order 156 = .ok (.aload_n 0, 1) := by decide +kernel
theorem dX7_order_157 : decode cX7_order 157 = .ok (.getfield 98, 3) := by decide +kernel
theorem dX7_order_160 : decode cX7_order 160 = .ok (.aload_n 0, 1) := by decide +kernel
theorem dX7_order_161 : decode cX7_order 161 = .ok (.getfield 177, 3) := by decide +kernel
theorem dX7_order_164 : decode cX7_order 164 = .ok (.iload 6, 2) := by decide +kernel
theorem dX7_order_166 : decode cX7_order 166 = .ok (.iastore, 1) := by decide +kernel
theorem dX7_order_167 : decode cX7_order 167 = .ok (.aload_n 0, 1) := by decide +kernel
theorem dX7_order_168 : decode cX7_order 168 = .ok (.getfield 101, 3) := by decide +kernel
theorem dX7_order_171 : decode cX7_order 171 = .ok (.aload_n 0, 1) := by decide +kernel
theorem dX7_order_172 : decode cX7_order 172 = .ok (.getfield 177, 3) := by decide +kernel
theorem dX7_order_175 : decode cX7_order 175 = .ok (.iload 7, 2) := by decide +kernel
theorem dX7_order_177 : decode cX7_order 177 = .ok (.iastore, 1) := by decide +kernel
theorem dX7_order_178 : decode cX7_order 178 = .ok (.aload_n 0, 1) := by decide +kernel
theorem dX7_order_179 : decode cX7_order 179 = .ok (.getfield 104, 3) := by decide +kernel
theorem dX7_order_182 : decode cX7_order 182 = .ok (.aload_n 0, 1) := by decide +kernel
theorem dX7_order_183 : decode cX7_order 183 = .ok (.getfield 177, 3) := by decide +kernel
theorem dX7_order_186 : decode cX7_order 186 = .ok (.iconst (-1), 1) := by decide +kernel
theorem dX7_order_187 : decode cX7_order 187 = .ok (.iastore, 1) := by decide +kernel
theorem dX7_order_188 : decode cX7_order 188 = .ok (.aload_n 0, 1) := by decide +kernel
theorem dX7_order_189 : decode cX7_order 189 = .ok (.dup, 1) := by decide +kernel
theorem dX7_order_190 : decode cX7_order 190 = .ok (.getfield 177, 3) := by decide +kernel
theorem dX7_order_193 : decode cX7_order 193 = .ok (.iconst 1, 1) := by decide +kernel
theorem dX7_order_194 : decode cX7_order 194 = .ok (.iadd, 1) := by decide +kernel
theorem dX7_order_195 : decode cX7_order 195 = .ok (.putfield 177, 3) := by decide +kernel
theorem dX7_order_198 : decode cX7_order 198 = .ok (.aload_n 0, 1) := by decide +kernel
theorem dX7_order_199 : decode cX7_order 199 = .ok (.getfield 177, 3) := by decide +kernel
theorem dX7_order_202 : decode cX7_order 202 = .ok (.iconst 1, 1) := by decide +kernel
theorem dX7_order_203 : decode cX7_order 203 = .ok (.isub, 1) := by decide +kernel
theorem dX7_order_204 : decode cX7_order 204 = .ok (.ireturn, 1) := by decide +kernel
theorem dX7_isFor_0 : decode cX7_isFor 0 = .ok (.aload_n 0, 1) := by decide +kernel
theorem dX7_isFor_1 : decode cX7_isFor 1 = .ok (.getfield 77, 3) := by decide +kernel
theorem dX7_isFor_4 : decode cX7_isFor 4 = .ok (.iload_n 1, 1) := by decide +kernel
theorem dX7_isFor_5 : decode cX7_isFor 5 = .ok (.iaload, 1) := by decide +kernel
theorem dX7_isFor_6 : decode cX7_isFor 6 = .ok (.iconst (-1), 1) := by decide +kernel
theorem dX7_isFor_7 : decode cX7_isFor 7 = .ok (.if_icmp .ne 67, 3) := by decide +kernel
theorem dX7_isFor_10 : decode cX7_isFor 10 = .ok (.aload_n 0, 1) := by decide +kernel
theorem dX7_isFor_11 : decode cX7_isFor 11 = .ok (.getfield 68, 3) := by decide +kernel
theorem dX7_isFor_14 : decode cX7_isFor 14 = .ok (.iload_n 1, 1) := by decide +kernel
theorem dX7_isFor_15 : decode cX7_isFor 15 = .ok (.iaload, 1) := by decide +kernel
theorem dX7_isFor_16 : decode cX7_isFor 16 = .ok (.aload_n 0, 1) := by decide +kernel
theorem dX7_isFor_17 : decode cX7_isFor 17 = .ok (.getfield 86, 3) := by decide +kernel
theorem dX7_isFor_20 : decode cX7_isFor 20 = .ok (.iload_n 2, 1) := by decide +kernel
theorem dX7_isFor_21 : decode cX7_isFor 21 = .ok (.iaload, 1) := by decide +kernel
theorem dX7_isFor_22 : decode cX7_isFor 22 = .ok (.if_icmp .ne 52, 3) := by decide +kernel
theorem dX7_isFor_25 : decode cX7_isFor 25 = .ok (.aload_n 0, 1) := by decide +kernel
theorem dX7_isFor_26 : decode cX7_isFor 26 = .ok (.getfield 71, 3) := by decide +kernel
theorem dX7_isFor_29 : decode cX7_isFor 29 = .ok (.iload_n 1, 1) := by decide +kernel
theorem dX7_isFor_30 : decode cX7_isFor 30 = .ok (.iaload, 1) := by decide +kernel
theorem dX7_isFor_31 : decode cX7_isFor 31 = .ok (.aload_n 0, 1) := by decide +kernel
theorem dX7_isFor_32 : decode cX7_isFor 32 = .ok (.getfield 89, 3) := by decide +kernel
theorem dX7_isFor_35 : decode cX7_isFor 35 = .ok (.iload_n 2, 1) := by decide +kernel
theorem dX7_isFor_36 : decode cX7_isFor 36 = .ok (.iaload, 1) := by decide +kernel
theorem dX7_isFor_37 : decode cX7_isFor 37 = .ok (.if_icmp .ne 37, 3) := by decide +kernel
theorem dX7_isFor_40 : decode cX7_isFor 40 = .ok (.aload_n 0, 1) := by decide +kernel
theorem dX7_isFor_41 : decode cX7_isFor 41 = .ok (.getfield 74, 3) := by decide +kernel
theorem dX7_isFor_44 : decode cX7_isFor 44 = .ok (.iload_n 1, 1) := by decide +kernel
theorem dX7_isFor_45 : decode cX7_isFor 45 = .ok (.iaload, 1) := by decide +kernel
theorem dX7_isFor_46 : decode cX7_isFor 46 = .ok (.aload_n 0, 1) := by decide +kernel
theorem dX7_isFor_47 : decode cX7_isFor 47 = .ok (.getfield 92, 3) := by decide +kernel
theorem dX7_isFor_50 : decode cX7_isFor 50 = .ok (.iload_n 2, 1) := by decide +kernel
theorem dX7_isFor_51 : decode cX7_isFor 51 = .ok (.iaload, 1) := by decide +kernel
theorem dX7_isFor_52 : decode cX7_isFor 52 = .ok (.if_icmp .lt 22, 3) := by decide +kernel
theorem dX7_isFor_55 : decode cX7_isFor 55 = .ok (.aload_n 0, 1) := by decide +kernel
theorem dX7_isFor_56 : decode cX7_isFor 56 = .ok (.getfield 74, 3) := by decide +kernel
theorem dX7_isFor_59 : decode cX7_isFor 59 = .ok (.iload_n 1, 1) := by decide +kernel
theorem dX7_isFor_60 : decode cX7_isFor 60 = .ok (.iaload, 1) := by decide +kernel
theorem dX7_isFor_61 : decode cX7_isFor 61 = .ok (.aload_n 0, 1) := by decide +kernel
theorem dX7_isFor_62 : decode cX7_isFor 62 = .ok (.getfield 95, 3) := by decide +kernel
theorem dX7_isFor_65 : decode cX7_isFor 65 = .ok (.iload_n 2, 1) := by decide +kernel
theorem dX7_isFor_66 : decode cX7_isFor 66 = .ok (.iaload, 1) := by decide +kernel
theorem dX7_isFor_67 : decode cX7_isFor 67 = .ok (.if_icmp .gt 7, 3) := by decide +kernel
theorem dX7_isFor_70 : decode cX7_isFor 70 = .ok (.iconst 1, 1) := by decide +kernel
theorem dX7_isFor_71 : decode cX7_isFor 71 = .ok (.goto 4, 3) := by decide +kernel
theorem dX7_isFor_74 : decode cX7_isFor 74 = .ok (.iconst 0, 1) := by decide +kernel
theorem dX7_isFor_75 : decode cX7_isFor 75 = .ok (.ireturn, 1) := by decide +kernel
theorem dX7_sends_0 : decode cX7_sends 0 = .ok (.iconst 0, 1) := by decide +kernel
theorem dX7_sends_1 : decode cX7_sends 1 = .ok (.istore_n 3, 1) := by decide +kernel
theorem dX7_sends_2 : decode cX7_sends 2 = .ok (.iconst 0, 1) := by decide +kernel
theorem dX7_sends_3 : decode cX7_sends 3 = .ok (.istore 4, 2) := by decide +kernel
theorem dX7_sends_5 : decode cX7_sends 5 = .ok (.iload 4, 2) := by decide +kernel
theorem dX7_sends_7 : decode cX7_sends 7 = .ok (.aload_n 0, 1) := by decide +kernel
theorem dX7_sends_8 : decode cX7_sends 8 = .ok (.getfield 167, 3) := by decide +kernel
theorem dX7_sends_11 : decode cX7_sends 11 = .ok (.if_icmp .ge 22, 3) := by decide +kernel
theorem dX7_sends_14 : decode cX7_sends 14 = .ok (.aload_n 0, 1) := by decide +kernel
theorem dX7_sends_15 : decode cX7_sends 15 = .ok (.iload 4, 2) := by decide +kernel
theorem dX7_sends_17 : decode cX7_sends 17 = .ok (.iload_n 1, 1) := by decide +kernel
theorem dX7_sends_18 : decode cX7_sends 18 = .ok (.invokevirtual 180, 3) := by decide +kernel
theorem dX7_sends_21 : decode cX7_sends 21 = .ok (.ifCond .eq 6, 3) := by decide +kernel
theorem dX7_sends_24 : decode cX7_sends 24 = .ok (.iinc 3 1, 3) := by decide +kernel
theorem dX7_sends_27 : decode cX7_sends 27 = .ok (.iinc 4 1, 3) := by decide +kernel
theorem dX7_sends_30 : decode cX7_sends 30 = .ok (.goto (-25), 3) := by decide +kernel
theorem dX7_sends_33 : decode cX7_sends 33 = .ok (.iload_n 3, 1) := by decide +kernel
theorem dX7_sends_34 : decode cX7_sends 34 = .ok (.aload_n 0, 1) := by decide +kernel
theorem dX7_sends_35 : decode cX7_sends 35 = .ok (.getfield 83, 3) := by decide +kernel
theorem dX7_sends_38 : decode cX7_sends 38 = .ok (.iload_n 1, 1) := by decide +kernel
theorem dX7_sends_39 : decode cX7_sends 39 = .ok (.iaload, 1) := by decide +kernel
theorem dX7_sends_40 : decode cX7_sends 40 = .ok (.if_icmp .ge 5, 3) := by decide +kernel
theorem dX7_sends_43 : decode cX7_sends 43 = .ok (.iconst 0, 1) := by decide +kernel
theorem dX7_sends_44 : decode cX7_sends 44 = .ok (.ireturn, 1) := by decide +kernel
theorem dX7_sends_45 : decode cX7_sends 45 = .ok (.iconst 0, 1) := by decide +kernel
theorem dX7_sends_46 : decode cX7_sends 46 = .ok (.istore_n 3, 1) := by decide +kernel
theorem dX7_sends_47 : decode cX7_sends 47 = .ok (.iconst 0, 1) := by decide +kernel
theorem dX7_sends_48 : decode cX7_sends 48 = .ok (.istore 4, 2) := by decide +kernel
theorem dX7_sends_50 : decode cX7_sends 50 = .ok (.iload_n 3, 1) := by decide +kernel
theorem dX7_sends_51 : decode cX7_sends 51 = .ok (.aload_n 0, 1) := by decide +kernel
theorem dX7_sends_52 : decode cX7_sends 52 = .ok (.getfield 83, 3) := by decide +kernel
theorem dX7_sends_55 : decode cX7_sends 55 = .ok (.iload_n 1, 1) := by decide +kernel
theorem dX7_sends_56 : decode cX7_sends 56 = .ok (.iaload, 1) := by decide +kernel
theorem dX7_sends_57 : decode cX7_sends 57 = .ok (.if_icmp .ge 33, 3) := by decide +kernel
theorem dX7_sends_60 : decode cX7_sends 60 = .ok (.aload_n 0, 1) := by decide +kernel
theorem dX7_sends_61 : decode cX7_sends 61 = .ok (.iload 4, 2) := by decide +kernel
theorem dX7_sends_63 : decode cX7_sends 63 = .ok (.iload_n 1, 1) := by decide +kernel
theorem dX7_sends_64 : decode cX7_sends 64 = .ok (.invokevirtual 180, 3) := by decide +kernel
theorem dX7_sends_67 : decode cX7_sends 67 = .ok (.ifCond .ne 6, 3) := by decide +kernel
theorem dX7_sends_70 : decode cX7_sends 70 = .ok (.goto 14, 3) := by decide +kernel
theorem dX7_sends_73 : decode cX7_sends 73 = .ok (.aload_n 0, 1) := by decide +kernel
theorem dX7_sends_74 : decode cX7_sends 74 = .ok (.getfield 77, 3) := by decide +kernel
theorem dX7_sends_77 : decode cX7_sends 77 = .ok (.iload 4, 2) := by decide +kernel
theorem dX7_sends_79 : decode cX7_sends 79 = .ok (.iload_n 1, 1) := by decide +kernel
theorem dX7_sends_80 : decode cX7_sends 80 = .ok (.iastore, 1) := by decide +kernel
theorem dX7_sends_81 : decode cX7_sends 81 = .ok (.iinc 3 1, 3) := by decide +kernel
theorem dX7_sends_84 : decode cX7_sends 84 = .ok (.iinc 4 1, 3) := by decide +kernel
theorem dX7_sends_87 : decode cX7_sends 87 = .ok (.goto (-37), 3) := by decide +kernel
theorem dX7_sends_90 : decode cX7_sends 90 = .ok (.aload_n 0, 1) := by decide +kernel
theorem dX7_sends_91 : decode cX7_sends 91 = .ok (.getfield 104, 3) := by decide +kernel
theorem dX7_sends_94 : decode cX7_sends 94 = .ok (.iload_n 1, 1) := by decide +kernel
theorem dX7_sends_95 : decode cX7_sends 95 = .ok (.iload_n 2, 1) := by decide +kernel
theorem dX7_sends_96 : decode cX7_sends 96 = .ok (.iastore, 1) := by decide +kernel
theorem dX7_sends_97 : decode cX7_sends 97 = .ok (.aload_n 0, 1) := by decide +kernel
theorem dX7_sends_98 : decode cX7_sends 98 = .ok (.getfield 83, 3) := by decide +kernel
theorem dX7_sends_101 : decode cX7_sends 101 = .ok (.iload_n 1, 1) := by decide +kernel
theorem dX7_sends_102 : decode cX7_sends 102 = .ok (.iaload, 1) := by decide +kernel
theorem dX7_sends_103 : decode cX7_sends 103 = .ok (.iload_n 2, 1) := by decide +kernel
theorem dX7_sends_104 : decode cX7_sends 104 = .ok (.aload_n 0, 1) := by decide +kernel
theorem dX7_sends_105 : decode cX7_sends 105 = .ok (.getfield 98, 3) := by decide +kernel
theorem dX7_sends_108 : decode cX7_sends 108 = .ok (.iload_n 1, 1) := by decide +kernel
theorem dX7_sends_109 : decode cX7_sends 109 = .ok (.iaload, 1) := by decide +kernel
theorem dX7_sends_110 : decode cX7_sends 110 = .ok (.if_icmp .le 14, 3) := by decide +kernel
theorem dX7_sends_113 : decode cX7_sends 113 = .ok (.aload_n 0, 1) := by decide +kernel
theorem dX7_sends_114 : decode cX7_sends 114 = .ok (.getfield 101, 3) := by decide +kernel
theorem dX7_sends_117 : decode cX7_sends 117 = .ok (.iload_n 1, 1) := by decide +kernel
theorem dX7_sends_118 : decode cX7_sends 118 = .ok (.iaload, 1) := by decide +kernel
theorem dX7_sends_119 : decode cX7_sends 119 = .ok (.iconst 2, 1) := by decide +kernel
theorem dX7_sends_120 : decode cX7_sends 120 = .ok (.idiv, 1) := by decide +kernel
theorem dX7_sends_121 : decode cX7_sends 121 = .ok (.goto 9, 3) := by decide +kernel
theorem dX7_sends_124 : decode cX7_sends 124 = .ok (.aload_n 0, 1) := by decide +kernel
theorem dX7_sends_125 : decode cX7_sends 125 = .ok (.getfield 101, 3) := by decide +kernel
theorem dX7_sends_128 : decode cX7_sends 128 = .ok (.iload_n 1, 1) := by decide +kernel
theorem dX7_sends_129 : decode cX7_sends 129 = .ok (.iaload, 1) := by decide +kernel
theorem dX7_sends_130 : decode cX7_sends 130 = .ok (.imul, 1) := by decide +kernel
theorem dX7_sends_131 : decode cX7_sends 131 = .ok (.ireturn, 1) := by decide +kernel
theorem dX7_send_0 : decode cX7_send 0 = .ok (.aload_n 0, 1) := by decide +kernel
theorem dX7_send_1 : decode cX7_send 1 = .ok (.iconst 0, 1) := by decide +kernel
theorem dX7_send_2 : decode cX7_send 2 = .ok (.putfield 114, 3) := by decide +kernel
theorem dX7_send_5 : decode cX7_send 5 = .ok (.aload_n 0, 1) := by decide +kernel
theorem dX7_send_6 : decode cX7_send 6 = .ok (.iload_n 1, 1) := by decide +kernel
theorem dX7_send_7 : decode cX7_send 7 = .ok (.ifCond .lt 14, 3) := by decide +kernel
theorem dX7_send_10 : decode cX7_send 10 = .ok (.iload_n 1, 1) := by decide +kernel
theorem dX7_send_11 : decode cX7_send 11 = .ok (.sipush 2000, 3) := by decide +kernel
theorem dX7_send_14 : decode cX7_send 14 = .ok (.if_icmp .gt 7, 3) := by decide +kernel
theorem dX7_send_17 : decode cX7_send 17 = .ok (.iconst 1, 1) := by decide +kernel
theorem dX7_send_18 : decode cX7_send 18 = .ok (.goto 4, 3) := by decide +kernel
theorem dX7_send_21 : decode cX7_send 21 = .ok (.iconst 0, 1) := by decide +kernel
theorem dX7_send_22 : decode cX7_send 22 = .ok (.iconst 1, 1) := by decide +kernel
theorem dX7_send_23 : decode cX7_send 23 = .ok (.invokevirtual 121, 3) := by decide +kernel
theorem dX7_send_26 : decode cX7_send 26 = .ok (.ifCond .ne 5, 3) := by decide +kernel
theorem dX7_send_29 : decode cX7_send 29 = .ok (.iconst 0, 1) := by decide +kernel
theorem dX7_send_30 : decode cX7_send 30 = .ok (.ireturn, 1) := by decide +kernel
theorem dX7_send_31 : decode cX7_send 31 = .ok (.iconst 0, 1) := by decide +kernel
theorem dX7_send_32 : decode cX7_send 32 = .ok (.istore_n 2, 1) := by decide +kernel
theorem dX7_send_33 : decode cX7_send 33 = .ok (.iconst 0, 1) := by decide +kernel
theorem dX7_send_34 : decode cX7_send 34 = .ok (.istore_n 3, 1) := by decide +kernel
theorem dX7_send_35 : decode cX7_send 35 = .ok (.iload_n 3, 1) := by decide +kernel
theorem dX7_send_36 : decode cX7_send 36 = .ok (.sipush 999, 3) := by decide +kernel
theorem dX7_send_39 : decode cX7_send 39 = .ok (.if_icmp .gt 59, 3) := by decide +kernel
theorem dX7_send_42 : decode cX7_send 42 = .ok (.iconst 0, 1) := by decide +kernel
theorem dX7_send_43 : decode cX7_send 43 = .ok (.istore 4, 2) := by decide +kernel
theorem dX7_send_45 : decode cX7_send 45 = .ok (.iload 4, 2) := by decide +kernel
theorem dX7_send_47 : decode cX7_send 47 = .ok (.aload_n 0, 1) := by decide +kernel
theorem dX7_send_48 : decode cX7_send 48 = .ok (.getfield 177, 3) := by decide +kernel
theorem dX7_send_51 : decode cX7_send 51 = .ok (.if_icmp .ge 41, 3) := by decide +kernel
theorem dX7_send_54 : decode cX7_send 54 = .ok (.aload_n 0, 1) := by decide +kernel
theorem dX7_send_55 : decode cX7_send 55 = .ok (.getfield 98, 3) := by decide +kernel
theorem dX7_send_58 : decode cX7_send 58 = .ok (.iload 4, 2) := by decide +kernel
theorem dX7_send_60 : decode cX7_send 60 = .ok (.iaload, 1) := by decide +kernel
theorem dX7_send_61 : decode cX7_send 61 = .ok (.iload_n 3, 1) := by decide +kernel
theorem dX7_send_62 : decode cX7_send 62 = .ok (.if_icmp .ne 24, 3) := by decide +kernel
theorem dX7_send_65 : decode cX7_send 65 = .ok (.aload_n 0, 1) := by decide +kernel
theorem dX7_send_66 : decode cX7_send 66 = .ok (.getfield 104, 3) := by decide +kernel
theorem dX7_send_69 : decode cX7_send 69 = .ok (.iload 4, 2) := by decide +kernel
theorem dX7_send_71 : decode cX7_send 71 = .ok (.iaload, 1) := by decide +kernel
theorem dX7_send_72 : decode cX7_send 72 = .ok (.iconst (-1), 1) := by decide +kernel
theorem dX7_send_73 : decode cX7_send 73 = .ok (.if_icmp .ne 13, 3) := by decide +kernel
theorem dX7_send_76 : decode cX7_send 76 = .ok (.iload_n 2, 1) := by decide +kernel
theorem dX7_send_77 : decode cX7_send 77 = .ok (.aload_n 0, 1) := by decide +kernel
theorem dX7_send_78 : decode cX7_send 78 = .ok (.iload 4, 2) := by decide +kernel
theorem dX7_send_80 : decode cX7_send 80 = .ok (.iload_n 1, 1) := by decide +kernel
theorem dX7_send_81 : decode cX7_send 81 = .ok (.invokevirtual 184, 3) := by decide +kernel
theorem dX7_send_84 : decode cX7_send 84 = .ok (.iadd, 1) := by decide +kernel
theorem dX7_send_85 : decode cX7_send 85 = .ok (.istore_n 2, 1) := by decide +kernel
theorem dX7_send_86 : decode cX7_send 86 = .ok (.iinc 4 1, 3) := by decide +kernel
theorem dX7_send_89 : decode cX7_send 89 = .ok (.goto (-44), 3) := by decide +kernel
theorem dX7_send_92 : decode cX7_send 92 = .ok (.iinc 3 1, 3) := by decide +kernel
theorem dX7_send_95 : decode cX7_send 95 = .ok (.goto (-60), 3) := by decide +kernel
theorem dX7_send_98 : decode cX7_send 98 = .ok (.aload_n 0, 1) := by decide +kernel
theorem dX7_send_99 : decode cX7_send 99 = .ok (.dup, 1) := by decide +kernel
theorem dX7_send_100 : decode cX7_send 100 = .ok (.getfield 188, 3) := by decide +kernel
theorem dX7_send_103 : decode cX7_send 103 = .ok (.iload_n 2, 1) := by decide +kernel
theorem dX7_send_104 : decode cX7_send 104 = .ok (.iadd, 1) := by decide +kernel
theorem dX7_send_105 : decode cX7_send 105 = .ok (.putfield 188, 3) := by decide +kernel
theorem dX7_send_108 : decode cX7_send 108 = .ok (.iload_n 2, 1) := by decide +kernel
theorem dX7_send_109 : decode cX7_send 109 = .ok (.ireturn, 1) := by decide +kernel
theorem dX7_sent_0 : decode cX7_sent 0 = .ok (.aload_n 0, 1) := by decide +kernel
theorem dX7_sent_1 : decode cX7_sent 1 = .ok (.iconst 0, 1) := by decide +kernel
theorem dX7_sent_2 : decode cX7_sent 2 = .ok (.putfield 114, 3) := by decide +kernel
theorem dX7_sent_5 : decode cX7_sent 5 = .ok (.aload_n 0, 1) := by decide +kernel
theorem dX7_sent_6 : decode cX7_sent 6 = .ok (.iload_n 1, 1) := by decide +kernel
theorem dX7_sent_7 : decode cX7_sent 7 = .ok (.ifCond .lt 15, 3) := by decide +kernel
theorem dX7_sent_10 : decode cX7_sent 10 = .ok (.iload_n 1, 1) := by decide +kernel
theorem dX7_sent_11 : decode cX7_sent 11 = .ok (.aload_n 0, 1) := by decide +kernel
theorem dX7_sent_12 : decode cX7_sent 12 = .ok (.getfield 177, 3) := by decide +kernel
theorem dX7_sent_15 : decode cX7_sent 15 = .ok (.if_icmp .ge 7, 3) := by decide +kernel
theorem dX7_sent_18 : decode cX7_sent 18 = .ok (.iconst 1, 1) := by decide +kernel
theorem dX7_sent_19 : decode cX7_sent 19 = .ok (.goto 4, 3) := by decide +kernel
theorem dX7_sent_22 : decode cX7_sent 22 = .ok (.iconst 0, 1) := by decide +kernel
theorem dX7_sent_23 : decode cX7_sent 23 = .ok (.iconst 1, 1) := by decide +kernel
theorem dX7_sent_24 : decode cX7_sent 24 = .ok (.invokevirtual 121, 3) := by decide +kernel
theorem dX7_sent_27 : decode cX7_sent 27 = .ok (.ifCond .eq 12, 3) := by decide +kernel
theorem dX7_sent_30 : decode cX7_sent 30 = .ok (.aload_n 0, 1) := by decide +kernel
theorem dX7_sent_31 : decode cX7_sent 31 = .ok (.getfield 104, 3) := by decide +kernel
theorem dX7_sent_34 : decode cX7_sent 34 = .ok (.iload_n 1, 1) := by decide +kernel
theorem dX7_sent_35 : decode cX7_sent 35 = .ok (.iaload, 1) := by decide +kernel
theorem dX7_sent_36 : decode cX7_sent 36 = .ok (.goto 4, 3) := by decide +kernel
theorem dX7_sent_39 : decode cX7_sent 39 = .ok (.iconst 0, 1) := by decide +kernel
theorem dX7_sent_40 : decode cX7_sent 40 = .ok (.ireturn, 1) := by decide +kernel
theorem dX7_inState_0 : decode cX7_inState 0 = .ok (.iconst 0, 1) := by decide +kernel
theorem dX7_inState_1 : decode cX7_inState 1 = .ok (.istore_n 2, 1) := by decide +kernel
theorem dX7_inState_2 : decode cX7_inState 2 = .ok (.iconst 0, 1) := by decide +kernel
theorem dX7_inState_3 : decode cX7_inState 3 = .ok (.istore_n 3, 1) := by decide +kernel
theorem dX7_inState_4 : decode cX7_inState 4 = .ok (.iload_n 3, 1) := by decide +kernel
theorem dX7_inState_5 : decode cX7_inState 5 = .ok (.aload_n 0, 1) := by decide +kernel
theorem dX7_inState_6 : decode cX7_inState 6 = .ok (.getfield 155, 3) := by decide +kernel
theorem dX7_inState_9 : decode cX7_inState 9 = .ok (.if_icmp .ge 22, 3) := by decide +kernel
theorem dX7_inState_12 : decode cX7_inState 12 = .ok (.aload_n 0, 1) := by decide +kernel
theorem dX7_inState_13 : decode cX7_inState 13 = .ok (.getfield 41, 3) := by decide +kernel
theorem dX7_inState_16 : decode cX7_inState 16 = .ok (.iload_n 3, 1) := by decide +kernel
theorem dX7_inState_17 : decode cX7_inState 17 = .ok (.iaload, 1) := by decide +kernel
theorem dX7_inState_18 : decode cX7_inState 18 = .ok (.iload_n 1, 1) := by decide +kernel
theorem dX7_inState_19 : decode cX7_inState 19 = .ok (.if_icmp .ne 6, 3) := by decide +kernel
theorem dX7_inState_22 : decode cX7_inState 22 = .ok (.iinc 2 1, 3) := by decide +kernel
theorem dX7_inState_25 : decode cX7_inState 25 = .ok (.iinc 3 1, 3) := by decide +kernel
theorem dX7_inState_28 : decode cX7_inState 28 = .ok (.goto (-24), 3) := by decide +kernel
theorem dX7_inState_31 : decode cX7_inState 31 = .ok (.iload_n 2, 1) := by decide +kernel
theorem dX7_inState_32 : decode cX7_inState 32 = .ok (.ireturn, 1) := by decide +kernel
theorem dX7_count_0 : decode cX7_count 0 = .ok (.aload_n 0, 1) := by decide +kernel
theorem dX7_count_1 : decode cX7_count 1 = .ok (.iconst 0, 1) := by decide +kernel
theorem dX7_count_2 : decode cX7_count 2 = .ok (.putfield 114, 3) := by decide +kernel
theorem dX7_count_5 : decode cX7_count 5 = .ok (.aload_n 0, 1) := by decide +kernel
theorem dX7_count_6 : decode cX7_count 6 = .ok (.iload_n 1, 1) := by decide +kernel
theorem dX7_count_7 : decode cX7_count 7 = .ok (.ifCond .lt 13, 3) := by decide +kernel
theorem dX7_count_10 : decode cX7_count 10 = .ok (.iload_n 1, 1) := by decide +kernel
theorem dX7_count_11 : decode cX7_count 11 = .ok (.bipush 6, 2) := by decide +kernel
theorem dX7_count_13 : decode cX7_count 13 = .ok (.if_icmp .gt 7, 3) := by decide +kernel
theorem dX7_count_16 : decode cX7_count 16 = .ok (.iconst 1, 1) := by decide +kernel
theorem dX7_count_17 : decode cX7_count 17 = .ok (.goto 4, 3) := by decide +kernel
theorem dX7_count_20 : decode cX7_count 20 = .ok (.iconst 0, 1) := by decide +kernel
theorem dX7_count_21 : decode cX7_count 21 = .ok (.iconst 1, 1) := by decide +kernel
theorem dX7_count_22 : decode cX7_count 22 = .ok (.invokevirtual 121, 3) := by decide +kernel
theorem dX7_count_25 : decode cX7_count 25 = .ok (.ifCond .ne 5, 3) := by decide +kernel
theorem dX7_count_28 : decode cX7_count 28 = .ok (.iconst 0, 1) := by decide +kernel
theorem dX7_count_29 : decode cX7_count 29 = .ok (.ireturn, 1) := by decide +kernel
theorem dX7_count_30 : decode cX7_count 30 = .ok (.iload_n 1, 1) := by decide +kernel
theorem dX7_count_31 : decode cX7_count 31 = .ok (.tableswitch 69 0 5 #[37, 42, 47, 52, 57, 63], 37) := by decide +kernel
theorem dX7_count_68 : decode cX7_count 68 = .ok (.aload_n 0, 1) := by decide +kernel
theorem dX7_count_69 : decode cX7_count 69 = .ok (.getfield 118, 3) := by decide +kernel
theorem dX7_count_72 : decode cX7_count 72 = .ok (.ireturn, 1) := by decide +kernel
theorem dX7_count_73 : decode cX7_count 73 = .ok (.aload_n 0, 1) := by decide +kernel
theorem dX7_count_74 : decode cX7_count 74 = .ok (.getfield 155, 3) := by decide +kernel
theorem dX7_count_77 : decode cX7_count 77 = .ok (.ireturn, 1) := by decide +kernel
theorem dX7_count_78 : decode cX7_count 78 = .ok (.aload_n 0, 1) := by decide +kernel
theorem dX7_count_79 : decode cX7_count 79 = .ok (.getfield 167, 3) := by decide +kernel
theorem dX7_count_82 : decode cX7_count 82 = .ok (.ireturn, 1) := by decide +kernel
theorem dX7_count_83 : decode cX7_count 83 = .ok (.aload_n 0, 1) := by decide +kernel
theorem dX7_count_84 : decode cX7_count 84 = .ok (.getfield 177, 3) := by decide +kernel
theorem dX7_count_87 : decode cX7_count 87 = .ok (.ireturn, 1) := by decide +kernel
theorem dX7_count_88 : decode cX7_count 88 = .ok (.aload_n 0, 1) := by decide +kernel
theorem dX7_count_89 : decode cX7_count 89 = .ok (.iconst 3, 1) := by decide +kernel
theorem dX7_count_90 : decode cX7_count 90 = .ok (.invokevirtual 191, 3) := by decide +kernel
theorem dX7_count_93 : decode cX7_count 93 = .ok (.ireturn, 1) := by decide +kernel
theorem dX7_count_94 : decode cX7_count 94 = .ok (.aload_n 0, 1) := by decide +kernel
theorem dX7_count_95 : decode cX7_count 95 = .ok (.iconst 4, 1) := by decide +kernel
theorem dX7_count_96 : decode cX7_count 96 = .ok (.invokevirtual 191, 3) := by decide +kernel
theorem dX7_count_99 : decode cX7_count 99 = .ok (.ireturn, 1) := by decide +kernel
theorem dX7_count_100 : decode cX7_count 100 = .ok (.aload_n 0, 1) := by decide +kernel
theorem dX7_count_101 : decode cX7_count 101 = .ok (.getfield 188, 3) := by decide +kernel
theorem dX7_count_104 : decode cX7_count 104 = .ok (.ireturn, 1) := by decide +kernel
