theorem dL_shellOf_0 : decode cL_shellOf 0 = .ok (.aload_n 3, 1) := by decide +kernel
theorem dL_shellOf_1 : decode cL_shellOf 1 = .ok (.iconst 0, 1) := by decide +kernel
theorem dL_shellOf_2 : decode cL_shellOf 2 = .ok (.aload_n 0, 1) := by decide +kernel
theorem dL_shellOf_3 : decode cL_shellOf 3 = .ok (.iload_n 1, 1) := by decide +kernel
theorem dL_shellOf_4 : decode cL_shellOf 4 = .ok (.iload_n 2, 1) := by decide +kernel
theorem dL_shellOf_5 : decode cL_shellOf 5 = .ok (.invokevirtual 7, 3) := by decide +kernel
theorem dL_shellOf_8 : decode cL_shellOf 8 = .ok (.i2l, 1) := by decide +kernel
theorem dL_shellOf_9 : decode cL_shellOf 9 = .ok (.lastore, 1) := by decide +kernel
theorem dL_shellOf_10 : decode cL_shellOf 10 = .ok (.goto 7, 3) := by decide +kernel
theorem dL_shellOf_13 : decode cL_shellOf 13 = .ok (.astore 4, 2) := by decide +kernel
theorem dL_shellOf_15 : decode cL_shellOf 15 = .ok (.iconst 1, 1) := by decide +kernel
theorem dL_shellOf_16 : decode cL_shellOf 16 = .ok (.ireturn, 1) := by decide +kernel
theorem dL_shellOf_17 : decode cL_shellOf 17 = .ok (.iconst 0, 1) := by decide +kernel
theorem dL_shellOf_18 : decode cL_shellOf 18 = .ok (.ireturn, 1) := by decide +kernel
theorem dL_list_0 : decode cL_list 0 = .ok (.aload 4, 2) := by decide +kernel
theorem dL_list_2 : decode cL_list 2 = .ok (.iconst 0, 1) := by decide +kernel
theorem dL_list_3 : decode cL_list 3 = .ok (.aload_n 0, 1) := by decide +kernel
theorem dL_list_4 : decode cL_list 4 = .ok (.iload_n 1, 1) := by decide +kernel
theorem dL_list_5 : decode cL_list 5 = .ok (.iload_n 2, 1) := by decide +kernel
theorem dL_list_6 : decode cL_list 6 = .ok (.iload_n 3, 1) := by decide +kernel
theorem dL_list_7 : decode cL_list 7 = .ok (.invokevirtual 15, 3) := by decide +kernel
theorem dL_list_10 : decode cL_list 10 = .ok (.i2l, 1) := by decide +kernel
theorem dL_list_11 : decode cL_list 11 = .ok (.lastore, 1) := by decide +kernel
theorem dL_list_12 : decode cL_list 12 = .ok (.goto 7, 3) := by decide +kernel
theorem dL_list_15 : decode cL_list 15 = .ok (.astore 5, 2) := by decide +kernel
theorem dL_list_17 : decode cL_list 17 = .ok (.iconst 1, 1) := by decide +kernel
theorem dL_list_18 : decode cL_list 18 = .ok (.ireturn, 1) := by decide +kernel
theorem dL_list_19 : decode cL_list 19 = .ok (.iconst 0, 1) := by decide +kernel
theorem dL_list_20 : decode cL_list 20 = .ok (.ireturn, 1) := by decide +kernel
theorem dL_best_0 : decode cL_best 0 = .ok (.aload_n 3, 1) := by decide +kernel
theorem dL_best_1 : decode cL_best 1 = .ok (.iconst 0, 1) := by decide +kernel
theorem dL_best_2 : decode cL_best 2 = .ok (.aload_n 0, 1) := by decide +kernel
theorem dL_best_3 : decode cL_best 3 = .ok (.iload_n 1, 1) := by decide +kernel
theorem dL_best_4 : decode cL_best 4 = .ok (.iload_n 2, 1) := by decide +kernel
theorem dL_best_5 : decode cL_best 5 = .ok (.invokevirtual 21, 3) := by decide +kernel
theorem dL_best_8 : decode cL_best 8 = .ok (.i2l, 1) := by decide +kernel
theorem dL_best_9 : decode cL_best 9 = .ok (.lastore, 1) := by decide +kernel
theorem dL_best_10 : decode cL_best 10 = .ok (.goto 7, 3) := by decide +kernel
theorem dL_best_13 : decode cL_best 13 = .ok (.astore 4, 2) := by decide +kernel
theorem dL_best_15 : decode cL_best 15 = .ok (.iconst 1, 1) := by decide +kernel
theorem dL_best_16 : decode cL_best 16 = .ok (.ireturn, 1) := by decide +kernel
theorem dL_best_17 : decode cL_best 17 = .ok (.iconst 0, 1) := by decide +kernel
theorem dL_best_18 : decode cL_best 18 = .ok (.ireturn, 1) := by decide +kernel
theorem dL_bestAt_0 : decode cL_bestAt 0 = .ok (.aload_n 3, 1) := by decide +kernel
theorem dL_bestAt_1 : decode cL_bestAt 1 = .ok (.iconst 0, 1) := by decide +kernel
theorem dL_bestAt_2 : decode cL_bestAt 2 = .ok (.aload_n 0, 1) := by decide +kernel
theorem dL_bestAt_3 : decode cL_bestAt 3 = .ok (.iload_n 1, 1) := by decide +kernel
theorem dL_bestAt_4 : decode cL_bestAt 4 = .ok (.iload_n 2, 1) := by decide +kernel
theorem dL_bestAt_5 : decode cL_bestAt 5 = .ok (.invokevirtual 24, 3) := by decide +kernel
theorem dL_bestAt_8 : decode cL_bestAt 8 = .ok (.i2l, 1) := by decide +kernel
theorem dL_bestAt_9 : decode cL_bestAt 9 = .ok (.lastore, 1) := by decide +kernel
theorem dL_bestAt_10 : decode cL_bestAt 10 = .ok (.goto 7, 3) := by decide +kernel
theorem dL_bestAt_13 : decode cL_bestAt 13 = .ok (.astore 4, 2) := by decide +kernel
theorem dL_bestAt_15 : decode cL_bestAt 15 = .ok (.iconst 1, 1) := by decide +kernel
theorem dL_bestAt_16 : decode cL_bestAt 16 = .ok (.ireturn, 1) := by decide +kernel
theorem dL_bestAt_17 : decode cL_bestAt 17 = .ok (.iconst 0, 1) := by decide +kernel
theorem dL_bestAt_18 : decode cL_bestAt 18 = .ok (.ireturn, 1) := by decide +kernel
theorem dL_cut_0 : decode cL_cut 0 = .ok (.aload_n 2, 1) := by decide +kernel
theorem dL_cut_1 : decode cL_cut 1 = .ok (.iconst 0, 1) := by decide +kernel
theorem dL_cut_2 : decode cL_cut 2 = .ok (.aload_n 0, 1) := by decide +kernel
theorem dL_cut_3 : decode cL_cut 3 = .ok (.iload_n 1, 1) := by decide +kernel
theorem dL_cut_4 : decode cL_cut 4 = .ok (.invokevirtual 27, 3) := by decide +kernel
theorem dL_cut_7 : decode cL_cut 7 = .ok (.i2l, 1) := by decide +kernel
theorem dL_cut_8 : decode cL_cut 8 = .ok (.lastore, 1) := by decide +kernel
theorem dL_cut_9 : decode cL_cut 9 = .ok (.goto 6, 3) := by decide +kernel
theorem dL_cut_12 : decode cL_cut 12 = .ok (.astore_n 3, 1) := by decide +kernel
theorem dL_cut_13 : decode cL_cut 13 = .ok (.iconst 1, 1) := by decide +kernel
theorem dL_cut_14 : decode cL_cut 14 = .ok (.ireturn, 1) := by decide +kernel
theorem dL_cut_15 : decode cL_cut 15 = .ok (.iconst 0, 1) := by decide +kernel
theorem dL_cut_16 : decode cL_cut 16 = .ok (.ireturn, 1) := by decide +kernel
theorem dL_button_0 : decode cL_button 0 = .ok (.aload_n 3, 1) := by decide +kernel
theorem dL_button_1 : decode cL_button 1 = .ok (.iconst 0, 1) := by decide +kernel
theorem dL_button_2 : decode cL_button 2 = .ok (.aload_n 0, 1) := by decide +kernel
theorem dL_button_3 : decode cL_button 3 = .ok (.iload_n 1, 1) := by decide +kernel
theorem dL_button_4 : decode cL_button 4 = .ok (.iload_n 2, 1) := by decide +kernel
theorem dL_button_5 : decode cL_button 5 = .ok (.invokevirtual 31, 3) := by decide +kernel
theorem dL_button_8 : decode cL_button 8 = .ok (.i2l, 1) := by decide +kernel
theorem dL_button_9 : decode cL_button 9 = .ok (.lastore, 1) := by decide +kernel
theorem dL_button_10 : decode cL_button 10 = .ok (.goto 7, 3) := by decide +kernel
theorem dL_button_13 : decode cL_button 13 = .ok (.astore 4, 2) := by decide +kernel
theorem dL_button_15 : decode cL_button 15 = .ok (.iconst 1, 1) := by decide +kernel
theorem dL_button_16 : decode cL_button 16 = .ok (.ireturn, 1) := by decide +kernel
theorem dL_button_17 : decode cL_button 17 = .ok (.iconst 0, 1) := by decide +kernel
theorem dL_button_18 : decode cL_button 18 = .ok (.ireturn, 1) := by decide +kernel
theorem dL_stands_0 : decode cL_stands 0 = .ok (.aload_n 3, 1) := by decide +kernel
theorem dL_stands_1 : decode cL_stands 1 = .ok (.iconst 0, 1) := by decide +kernel
theorem dL_stands_2 : decode cL_stands 2 = .ok (.aload_n 0, 1) := by decide +kernel
theorem dL_stands_3 : decode cL_stands 3 = .ok (.iload_n 1, 1) := by decide +kernel
theorem dL_stands_4 : decode cL_stands 4 = .ok (.iload_n 2, 1) := by decide +kernel
theorem dL_stands_5 : decode cL_stands 5 = .ok (.invokevirtual 34, 3) := by decide +kernel
theorem dL_stands_8 : decode cL_stands 8 = .ok (.i2l, 1) := by decide +kernel
theorem dL_stands_9 : decode cL_stands 9 = .ok (.lastore, 1) := by decide +kernel
theorem dL_stands_10 : decode cL_stands 10 = .ok (.goto 11, 3) := by decide +kernel
theorem dL_stands_13 : decode cL_stands 13 = .ok (.astore 4, 2) := by decide +kernel
theorem dL_stands_15 : decode cL_stands 15 = .ok (.iconst 1, 1) := by decide +kernel
theorem dL_stands_16 : decode cL_stands 16 = .ok (.ireturn, 1) := by decide +kernel
theorem dL_stands_17 : decode cL_stands 17 = .ok (.astore 4, 2) := by decide +kernel
theorem dL_stands_19 : decode cL_stands 19 = .ok (.iconst 2, 1) := by decide +kernel
theorem dL_stands_20 : decode cL_stands 20 = .ok (.ireturn, 1) := by decide +kernel
theorem dL_stands_21 : decode cL_stands 21 = .ok (.iconst 0, 1) := by decide +kernel
theorem dL_stands_22 : decode cL_stands 22 = .ok (.ireturn, 1) := by decide +kernel
theorem dL_work_0 : decode cL_work 0 = .ok (.aload 4, 2) := by decide +kernel
theorem dL_work_2 : decode cL_work 2 = .ok (.iconst 0, 1) := by decide +kernel
theorem dL_work_3 : decode cL_work 3 = .ok (.aload_n 0, 1) := by decide +kernel
theorem dL_work_4 : decode cL_work 4 = .ok (.iload_n 1, 1) := by decide +kernel
theorem dL_work_5 : decode cL_work 5 = .ok (.iload_n 2, 1) := by decide +kernel
theorem dL_work_6 : decode cL_work 6 = .ok (.iload_n 3, 1) := by decide +kernel
theorem dL_work_7 : decode cL_work 7 = .ok (.invokevirtual 37, 3) := by decide +kernel
theorem dL_work_10 : decode cL_work 10 = .ok (.i2l, 1) := by decide +kernel
theorem dL_work_11 : decode cL_work 11 = .ok (.lastore, 1) := by decide +kernel
theorem dL_work_12 : decode cL_work 12 = .ok (.goto 7, 3) := by decide +kernel
theorem dL_work_15 : decode cL_work 15 = .ok (.astore 5, 2) := by decide +kernel
theorem dL_work_17 : decode cL_work 17 = .ok (.iconst 1, 1) := by decide +kernel
theorem dL_work_18 : decode cL_work 18 = .ok (.ireturn, 1) := by decide +kernel
theorem dL_work_19 : decode cL_work 19 = .ok (.iconst 0, 1) := by decide +kernel
theorem dL_work_20 : decode cL_work 20 = .ok (.ireturn, 1) := by decide +kernel
theorem dL_works_0 : decode cL_works 0 = .ok (.aload 5, 2) := by decide +kernel
theorem dL_works_2 : decode cL_works 2 = .ok (.iconst 0, 1) := by decide +kernel
theorem dL_works_3 : decode cL_works 3 = .ok (.aload_n 0, 1) := by decide +kernel
theorem dL_works_4 : decode cL_works 4 = .ok (.iload_n 1, 1) := by decide +kernel
theorem dL_works_5 : decode cL_works 5 = .ok (.iload_n 2, 1) := by decide +kernel
theorem dL_works_6 : decode cL_works 6 = .ok (.iload_n 3, 1) := by decide +kernel
theorem dL_works_7 : decode cL_works 7 = .ok (.iload 4, 2) := by decide +kernel
theorem dL_works_9 : decode cL_works 9 = .ok (.invokevirtual 40, 3) := by decide +kernel
theorem dL_works_12 : decode cL_works 12 = .ok (.i2l, 1) := by decide +kernel
theorem dL_works_13 : decode cL_works 13 = .ok (.lastore, 1) := by decide +kernel
theorem dL_works_14 : decode cL_works 14 = .ok (.goto 11, 3) := by decide +kernel
theorem dL_works_17 : decode cL_works 17 = .ok (.astore 6, 2) := by decide +kernel
theorem dL_works_19 : decode cL_works 19 = .ok (.iconst 1, 1) := by decide +kernel
theorem dL_works_20 : decode cL_works 20 = .ok (.ireturn, 1) := by decide +kernel
theorem dL_works_21 : decode cL_works 21 = .ok (.astore 6, 2) := by decide +kernel
theorem dL_works_23 : decode cL_works 23 = .ok (.iconst 2, 1) := by decide +kernel
theorem dL_works_24 : decode cL_works 24 = .ok (.ireturn, 1) := by decide +kernel
theorem dL_works_25 : decode cL_works 25 = .ok (.iconst 0, 1) := by decide +kernel
theorem dL_works_26 : decode cL_works 26 = .ok (.ireturn, 1) := by decide +kernel
theorem dL_grind_0 : decode cL_grind 0 = .ok (.aload_n 2, 1) := by decide +kernel
theorem dL_grind_1 : decode cL_grind 1 = .ok (.iconst 0, 1) := by decide +kernel
theorem dL_grind_2 : decode cL_grind 2 = .ok (.aload_n 0, 1) := by decide +kernel
theorem dL_grind_3 : decode cL_grind 3 = .ok (.iload_n 1, 1) := by decide +kernel
theorem dL_grind_4 : decode cL_grind 4 = .ok (.invokevirtual 44, 3) := by decide +kernel
theorem dL_grind_7 : decode cL_grind 7 = .ok (.i2l, 1) := by decide +kernel
theorem dL_grind_8 : decode cL_grind 8 = .ok (.lastore, 1) := by decide +kernel
theorem dL_grind_9 : decode cL_grind 9 = .ok (.goto 6, 3) := by decide +kernel
theorem dL_grind_12 : decode cL_grind 12 = .ok (.astore_n 3, 1) := by decide +kernel
theorem dL_grind_13 : decode cL_grind 13 = .ok (.iconst 1, 1) := by decide +kernel
theorem dL_grind_14 : decode cL_grind 14 = .ok (.ireturn, 1) := by decide +kernel
theorem dL_grind_15 : decode cL_grind 15 = .ok (.iconst 0, 1) := by decide +kernel
theorem dL_grind_16 : decode cL_grind 16 = .ok (.ireturn, 1) := by decide +kernel
theorem dL_machine_0 : decode cL_machine 0 = .ok (.aload_n 3, 1) := by decide +kernel
theorem dL_machine_1 : decode cL_machine 1 = .ok (.iconst 0, 1) := by decide +kernel
theorem dL_machine_2 : decode cL_machine 2 = .ok (.aload_n 0, 1) := by decide +kernel
theorem dL_machine_3 : decode cL_machine 3 = .ok (.iload_n 1, 1) := by decide +kernel
theorem dL_machine_4 : decode cL_machine 4 = .ok (.iload_n 2, 1) := by decide +kernel
theorem dL_machine_5 : decode cL_machine 5 = .ok (.invokevirtual 47, 3) := by decide +kernel
theorem dL_machine_8 : decode cL_machine 8 = .ok (.i2l, 1) := by decide +kernel
theorem dL_machine_9 : decode cL_machine 9 = .ok (.lastore, 1) := by decide +kernel
theorem dL_machine_10 : decode cL_machine 10 = .ok (.goto 7, 3) := by decide +kernel
theorem dL_machine_13 : decode cL_machine 13 = .ok (.astore 4, 2) := by decide +kernel
theorem dL_machine_15 : decode cL_machine 15 = .ok (.iconst 1, 1) := by decide +kernel
theorem dL_machine_16 : decode cL_machine 16 = .ok (.ireturn, 1) := by decide +kernel
theorem dL_machine_17 : decode cL_machine 17 = .ok (.iconst 0, 1) := by decide +kernel
theorem dL_machine_18 : decode cL_machine 18 = .ok (.ireturn, 1) := by decide +kernel
theorem dL_bleach_0 : decode cL_bleach 0 = .ok (.aload_n 3, 1) := by decide +kernel
theorem dL_bleach_1 : decode cL_bleach 1 = .ok (.iconst 0, 1) := by decide +kernel
theorem dL_bleach_2 : decode cL_bleach 2 = .ok (.aload_n 0, 1) := by decide +kernel
theorem dL_bleach_3 : decode cL_bleach 3 = .ok (.iload_n 1, 1) := by decide +kernel
theorem dL_bleach_4 : decode cL_bleach 4 = .ok (.iload_n 2, 1) := by decide +kernel
theorem dL_bleach_5 : decode cL_bleach 5 = .ok (.invokevirtual 50, 3) := by decide +kernel
theorem dL_bleach_8 : decode cL_bleach 8 = .ok (.i2l, 1) := by decide +kernel
theorem dL_bleach_9 : decode cL_bleach 9 = .ok (.lastore, 1) := by decide +kernel
theorem dL_bleach_10 : decode cL_bleach 10 = .ok (.goto 11, 3) := by decide +kernel
theorem dL_bleach_13 : decode cL_bleach 13 = .ok (.astore 4, 2) := by decide +kernel
theorem dL_bleach_15 : decode cL_bleach 15 = .ok (.iconst 1, 1) := by decide +kernel
theorem dL_bleach_16 : decode cL_bleach 16 = .ok (.ireturn, 1) := by decide +kernel
theorem dL_bleach_17 : decode cL_bleach 17 = .ok (.astore 4, 2) := by decide +kernel
theorem dL_bleach_19 : decode cL_bleach 19 = .ok (.iconst 2, 1) := by decide +kernel
theorem dL_bleach_20 : decode cL_bleach 20 = .ok (.ireturn, 1) := by decide +kernel
theorem dL_bleach_21 : decode cL_bleach 21 = .ok (.iconst 0, 1) := by decide +kernel
theorem dL_bleach_22 : decode cL_bleach 22 = .ok (.ireturn, 1) := by decide +kernel
theorem dL_card_0 : decode cL_card 0 = .ok (.aload 5, 2) := by decide +kernel
theorem dL_card_2 : decode cL_card 2 = .ok (.iconst 0, 1) := by decide +kernel
theorem dL_card_3 : decode cL_card 3 = .ok (.aload_n 0, 1) := by decide +kernel
theorem dL_card_4 : decode cL_card 4 = .ok (.iload_n 1, 1) := by decide +kernel
theorem dL_card_5 : decode cL_card 5 = .ok (.iload_n 2, 1) := by decide +kernel
theorem dL_card_6 : decode cL_card 6 = .ok (.iload_n 3, 1) := by decide +kernel
theorem dL_card_7 : decode cL_card 7 = .ok (.iload 4, 2) := by decide +kernel
theorem dL_card_9 : decode cL_card 9 = .ok (.invokevirtual 53, 3) := by decide +kernel
theorem dL_card_12 : decode cL_card 12 = .ok (.i2l, 1) := by decide +kernel
theorem dL_card_13 : decode cL_card 13 = .ok (.lastore, 1) := by decide +kernel
theorem dL_card_14 : decode cL_card 14 = .ok (.goto 7, 3) := by decide +kernel
theorem dL_card_17 : decode cL_card 17 = .ok (.astore 6, 2) := by decide +kernel
theorem dL_card_19 : decode cL_card 19 = .ok (.iconst 1, 1) := by decide +kernel
theorem dL_card_20 : decode cL_card 20 = .ok (.ireturn, 1) := by decide +kernel
theorem dL_card_21 : decode cL_card 21 = .ok (.iconst 0, 1) := by decide +kernel
theorem dL_card_22 : decode cL_card 22 = .ok (.ireturn, 1) := by decide +kernel
theorem dL_cardOf_0 : decode cL_cardOf 0 = .ok (.aload_n 3, 1) := by decide +kernel
theorem dL_cardOf_1 : decode cL_cardOf 1 = .ok (.iconst 0, 1) := by decide +kernel
theorem dL_cardOf_2 : decode cL_cardOf 2 = .ok (.aload_n 0, 1) := by decide +kernel
theorem dL_cardOf_3 : decode cL_cardOf 3 = .ok (.iload_n 1, 1) := by decide +kernel
theorem dL_cardOf_4 : decode cL_cardOf 4 = .ok (.iload_n 2, 1) := by decide +kernel
theorem dL_cardOf_5 : decode cL_cardOf 5 = .ok (.invokevirtual 56, 3) := by decide +kernel
theorem dL_cardOf_8 : decode cL_cardOf 8 = .ok (.i2l, 1) := by decide +kernel
theorem dL_cardOf_9 : decode cL_cardOf 9 = .ok (.lastore, 1) := by decide +kernel
theorem dL_cardOf_10 : decode cL_cardOf 10 = .ok (.goto 7, 3) := by decide +kernel
theorem dL_cardOf_13 : decode cL_cardOf 13 = .ok (.astore 4, 2) := by decide +kernel
theorem dL_cardOf_15 : decode cL_cardOf 15 = .ok (.iconst 1, 1) := by decide +kernel
theorem dL_cardOf_16 : decode cL_cardOf 16 = .ok (.ireturn, 1) := by decide +kernel
theorem dL_cardOf_17 : decode cL_cardOf 17 = .ok (.iconst 0, 1) := by decide +kernel
theorem dL_cardOf_18 : decode cL_cardOf 18 = .ok (.ireturn, 1) := by decide +kernel
theorem dL_onCard_0 : decode cL_onCard 0 = .ok (.aload_n 3, 1) := by decide +kernel
theorem dL_onCard_1 : decode cL_onCard 1 = .ok (.iconst 0, 1) := by decide +kernel
theorem dL_onCard_2 : decode cL_onCard 2 = .ok (.aload_n 0, 1) := by decide +kernel
theorem dL_onCard_3 : decode cL_onCard 3 = .ok (.iload_n 1, 1) := by decide +kernel
theorem dL_onCard_4 : decode cL_onCard 4 = .ok (.iload_n 2, 1) := by decide +kernel
theorem dL_onCard_5 : decode cL_onCard 5 = .ok (.invokevirtual 59, 3) := by decide +kernel
theorem dL_onCard_8 : decode cL_onCard 8 = .ok (.i2l, 1) := by decide +kernel
theorem dL_onCard_9 : decode cL_onCard 9 = .ok (.lastore, 1) := by decide +kernel
theorem dL_onCard_10 : decode cL_onCard 10 = .ok (.goto 7, 3) := by decide +kernel
theorem dL_onCard_13 : decode cL_onCard 13 = .ok (.astore 4, 2) := by decide +kernel
theorem dL_onCard_15 : decode cL_onCard 15 = .ok (.iconst 1, 1) := by decide +kernel
theorem dL_onCard_16 : decode cL_onCard 16 = .ok (.ireturn, 1) := by decide +kernel
theorem dL_onCard_17 : decode cL_onCard 17 = .ok (.iconst 0, 1) := by decide +kernel
theorem dL_onCard_18 : decode cL_onCard 18 = .ok (.ireturn, 1) := by decide +kernel
theorem dL_send_0 : decode cL_send 0 = .ok (.aload_n 2, 1) := by decide +kernel
theorem dL_send_1 : decode cL_send 1 = .ok (.iconst 0, 1) := by decide +kernel
theorem dL_send_2 : decode cL_send 2 = .ok (.aload_n 0, 1) := by decide +kernel
theorem dL_send_3 : decode cL_send 3 = .ok (.iload_n 1, 1) := by decide +kernel
theorem dL_send_4 : decode cL_send 4 = .ok (.invokevirtual 62, 3) := by decide +kernel
theorem dL_send_7 : decode cL_send 7 = .ok (.i2l, 1) := by decide +kernel
theorem dL_send_8 : decode cL_send 8 = .ok (.lastore, 1) := by decide +kernel
theorem dL_send_9 : decode cL_send 9 = .ok (.goto 6, 3) := by decide +kernel
theorem dL_send_12 : decode cL_send 12 = .ok (.astore_n 3, 1) := by decide +kernel
theorem dL_send_13 : decode cL_send 13 = .ok (.iconst 1, 1) := by decide +kernel
theorem dL_send_14 : decode cL_send 14 = .ok (.ireturn, 1) := by decide +kernel
theorem dL_send_15 : decode cL_send 15 = .ok (.iconst 0, 1) := by decide +kernel
theorem dL_send_16 : decode cL_send 16 = .ok (.ireturn, 1) := by decide +kernel
theorem dL_sent_0 : decode cL_sent 0 = .ok (.aload_n 2, 1) := by decide +kernel
theorem dL_sent_1 : decode cL_sent 1 = .ok (.iconst 0, 1) := by decide +kernel
theorem dL_sent_2 : decode cL_sent 2 = .ok (.aload_n 0, 1) := by decide +kernel
theorem dL_sent_3 : decode cL_sent 3 = .ok (.iload_n 1, 1) := by decide +kernel
theorem dL_sent_4 : decode cL_sent 4 = .ok (.invokevirtual 65, 3) := by decide +kernel
theorem dL_sent_7 : decode cL_sent 7 = .ok (.i2l, 1) := by decide +kernel
theorem dL_sent_8 : decode cL_sent 8 = .ok (.lastore, 1) := by decide +kernel
theorem dL_sent_9 : decode cL_sent 9 = .ok (.goto 6, 3) := by decide +kernel
theorem dL_sent_12 : decode cL_sent 12 = .ok (.astore_n 3, 1) := by decide +kernel
theorem dL_sent_13 : decode cL_sent 13 = .ok (.iconst 1, 1) := by decide +kernel
theorem dL_sent_14 : decode cL_sent 14 = .ok (.ireturn, 1) := by decide +kernel
theorem dL_sent_15 : decode cL_sent 15 = .ok (.iconst 0, 1) := by decide +kernel
theorem dL_sent_16 : decode cL_sent 16 = .ok (.ireturn, 1) := by decide +kernel
theorem dL_count_0 : decode cL_count 0 = .ok (.aload_n 2, 1) := by decide +kernel
theorem dL_count_1 : decode cL_count 1 = .ok (.iconst 0, 1) := by decide +kernel
theorem dL_count_2 : decode cL_count 2 = .ok (.aload_n 0, 1) := by decide +kernel
theorem dL_count_3 : decode cL_count 3 = .ok (.iload_n 1, 1) := by decide +kernel
theorem dL_count_4 : decode cL_count 4 = .ok (.invokevirtual 68, 3) := by decide +kernel
theorem dL_count_7 : decode cL_count 7 = .ok (.i2l, 1) := by decide +kernel
theorem dL_count_8 : decode cL_count 8 = .ok (.lastore, 1) := by decide +kernel
theorem dL_count_9 : decode cL_count 9 = .ok (.goto 6, 3) := by decide +kernel
theorem dL_count_12 : decode cL_count 12 = .ok (.astore_n 3, 1) := by decide +kernel
theorem dL_count_13 : decode cL_count 13 = .ok (.iconst 1, 1) := by decide +kernel
theorem dL_count_14 : decode cL_count 14 = .ok (.ireturn, 1) := by decide +kernel
theorem dL_count_15 : decode cL_count 15 = .ok (.iconst 0, 1) := by decide +kernel
theorem dL_count_16 : decode cL_count 16 = .ok (.ireturn, 1) := by decide +kernel
