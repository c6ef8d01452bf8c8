theorem dL_member_0 : decode cL_member 0 = .ok (.aload 5, 2) := by decide +kernel
theorem dL_member_2 : decode cL_member 2 = .ok (.iconst 0, 1) := by decide +kernel
theorem dL_member_3 : decode cL_member 3 = .ok (.aload_n 0, 1) := by decide +kernel
theorem dL_member_4 : decode cL_member 4 = .ok (.iload_n 1, 1) := by decide +kernel
theorem dL_member_5 : decode cL_member 5 = .ok (.iload_n 2, 1) := by decide +kernel
theorem dL_member_6 : decode cL_member 6 = .ok (.iload_n 3, 1) := by decide +kernel
theorem dL_member_7 : decode cL_member 7 = .ok (.iload 4, 2) := by decide +kernel
theorem dL_member_9 : decode cL_member 9 = .ok (.invokevirtual 7, 3) := by decide +kernel
theorem dL_member_12 : decode cL_member 12 = .ok (.ifCond .eq 7, 3) := by decide +kernel
theorem dL_member_15 : decode cL_member 15 = .ok (.lconst 1, 1) := by decide +kernel
theorem dL_member_16 : decode cL_member 16 = .ok (.goto 4, 3) := by decide +kernel
theorem dL_member_19 : decode cL_member 19 = .ok (.lconst 0, 1) := by decide +kernel
theorem dL_member_20 : decode cL_member 20 = .ok (.lastore, 1) := by decide +kernel
theorem dL_member_21 : decode cL_member 21 = .ok (.goto 11, 3) := by decide +kernel
theorem dL_member_24 : decode cL_member 24 = .ok (.astore 6, 2) := by decide +kernel
theorem dL_member_26 : decode cL_member 26 = .ok (.iconst 1, 1) := by decide +kernel
theorem dL_member_27 : decode cL_member 27 = .ok (.ireturn, 1) := by decide +kernel
theorem dL_member_28 : decode cL_member 28 = .ok (.astore 6, 2) := by decide +kernel
theorem dL_member_30 : decode cL_member 30 = .ok (.iconst 2, 1) := by decide +kernel
theorem dL_member_31 : decode cL_member 31 = .ok (.ireturn, 1) := by decide +kernel
theorem dL_member_32 : decode cL_member 32 = .ok (.iconst 0, 1) := by decide +kernel
theorem dL_member_33 : decode cL_member 33 = .ok (.ireturn, 1) := by decide +kernel
theorem dL_groups_0 : decode cL_groups 0 = .ok (.aload_n 2, 1) := by decide +kernel
theorem dL_groups_1 : decode cL_groups 1 = .ok (.iconst 0, 1) := by decide +kernel
theorem dL_groups_2 : decode cL_groups 2 = .ok (.aload_n 0, 1) := by decide +kernel
theorem dL_groups_3 : decode cL_groups 3 = .ok (.iload_n 1, 1) := by decide +kernel
theorem dL_groups_4 : decode cL_groups 4 = .ok (.invokevirtual 17, 3) := by decide +kernel
theorem dL_groups_7 : decode cL_groups 7 = .ok (.i2l, 1) := by decide +kernel
theorem dL_groups_8 : decode cL_groups 8 = .ok (.lastore, 1) := by decide +kernel
theorem dL_groups_9 : decode cL_groups 9 = .ok (.goto 6, 3) := by decide +kernel
theorem dL_groups_12 : decode cL_groups 12 = .ok (.astore_n 3, 1) := by decide +kernel
theorem dL_groups_13 : decode cL_groups 13 = .ok (.iconst 1, 1) := by decide +kernel
theorem dL_groups_14 : decode cL_groups 14 = .ok (.ireturn, 1) := by decide +kernel
theorem dL_groups_15 : decode cL_groups 15 = .ok (.iconst 0, 1) := by decide +kernel
theorem dL_groups_16 : decode cL_groups 16 = .ok (.ireturn, 1) := by decide +kernel
theorem dL_thing_0 : decode cL_thing 0 = .ok (.aload 5, 2) := by decide +kernel
theorem dL_thing_2 : decode cL_thing 2 = .ok (.iconst 0, 1) := by decide +kernel
theorem dL_thing_3 : decode cL_thing 3 = .ok (.aload_n 0, 1) := by decide +kernel
theorem dL_thing_4 : decode cL_thing 4 = .ok (.iload_n 1, 1) := by decide +kernel
theorem dL_thing_5 : decode cL_thing 5 = .ok (.iload_n 2, 1) := by decide +kernel
theorem dL_thing_6 : decode cL_thing 6 = .ok (.iload_n 3, 1) := by decide +kernel
theorem dL_thing_7 : decode cL_thing 7 = .ok (.iload 4, 2) := by decide +kernel
theorem dL_thing_9 : decode cL_thing 9 = .ok (.invokevirtual 21, 3) := by decide +kernel
theorem dL_thing_12 : decode cL_thing 12 = .ok (.i2l, 1) := by decide +kernel
theorem dL_thing_13 : decode cL_thing 13 = .ok (.lastore, 1) := by decide +kernel
theorem dL_thing_14 : decode cL_thing 14 = .ok (.goto 15, 3) := by decide +kernel
theorem dL_thing_17 : decode cL_thing 17 = .ok (.astore 6, 2) := by decide +kernel
theorem dL_thing_19 : decode cL_thing 19 = .ok (.iconst 1, 1) := by decide +kernel
theorem dL_thing_20 : decode cL_thing 20 = .ok (.ireturn, 1) := by decide +kernel
theorem dL_thing_21 : decode cL_thing 21 = .ok (.astore 6, 2) := by decide +kernel
theorem dL_thing_23 : decode cL_thing 23 = .ok (.iconst 2, 1) := by decide +kernel
theorem dL_thing_24 : decode cL_thing 24 = .ok (.ireturn, 1) := by decide +kernel
theorem dL_thing_25 : decode cL_thing 25 = .ok (.astore 6, 2) := by decide +kernel
theorem dL_thing_27 : decode cL_thing 27 = .ok (.iconst 3, 1) := by decide +kernel
theorem dL_thing_28 : decode cL_thing 28 = .ok (.ireturn, 1) := by decide +kernel
theorem dL_thing_29 : decode cL_thing 29 = .ok (.iconst 0, 1) := by decide +kernel
theorem dL_thing_30 : decode cL_thing 30 = .ok (.ireturn, 1) := by decide +kernel
theorem dL_type_0 : decode cL_type 0 = .ok (.aload_n 3, 1) := by decide +kernel
theorem dL_type_1 : decode cL_type 1 = .ok (.iconst 0, 1) := by decide +kernel
theorem dL_type_2 : decode cL_type 2 = .ok (.aload_n 0, 1) := by decide +kernel
theorem dL_type_3 : decode cL_type 3 = .ok (.iload_n 1, 1) := by decide +kernel
theorem dL_type_4 : decode cL_type 4 = .ok (.iload_n 2, 1) := by decide +kernel
theorem dL_type_5 : decode cL_type 5 = .ok (.invokevirtual 27, 3) := by decide +kernel
theorem dL_type_8 : decode cL_type 8 = .ok (.i2l, 1) := by decide +kernel
theorem dL_type_9 : decode cL_type 9 = .ok (.lastore, 1) := by decide +kernel
theorem dL_type_10 : decode cL_type 10 = .ok (.goto 11, 3) := by decide +kernel
theorem dL_type_13 : decode cL_type 13 = .ok (.astore 4, 2) := by decide +kernel
theorem dL_type_15 : decode cL_type 15 = .ok (.iconst 1, 1) := by decide +kernel
theorem dL_type_16 : decode cL_type 16 = .ok (.ireturn, 1) := by decide +kernel
theorem dL_type_17 : decode cL_type 17 = .ok (.astore 4, 2) := by decide +kernel
theorem dL_type_19 : decode cL_type 19 = .ok (.iconst 2, 1) := by decide +kernel
theorem dL_type_20 : decode cL_type 20 = .ok (.ireturn, 1) := by decide +kernel
theorem dL_type_21 : decode cL_type 21 = .ok (.iconst 0, 1) := by decide +kernel
theorem dL_type_22 : decode cL_type 22 = .ok (.ireturn, 1) := by decide +kernel
theorem dL_mode_0 : decode cL_mode 0 = .ok (.aload 4, 2) := by decide +kernel
theorem dL_mode_2 : decode cL_mode 2 = .ok (.iconst 0, 1) := by decide +kernel
theorem dL_mode_3 : decode cL_mode 3 = .ok (.aload_n 0, 1) := by decide +kernel
theorem dL_mode_4 : decode cL_mode 4 = .ok (.iload_n 1, 1) := by decide +kernel
theorem dL_mode_5 : decode cL_mode 5 = .ok (.iload_n 2, 1) := by decide +kernel
theorem dL_mode_6 : decode cL_mode 6 = .ok (.iload_n 3, 1) := by decide +kernel
theorem dL_mode_7 : decode cL_mode 7 = .ok (.invokevirtual 31, 3) := by decide +kernel
theorem dL_mode_10 : decode cL_mode 10 = .ok (.i2l, 1) := by decide +kernel
theorem dL_mode_11 : decode cL_mode 11 = .ok (.lastore, 1) := by decide +kernel
theorem dL_mode_12 : decode cL_mode 12 = .ok (.goto 15, 3) := by decide +kernel
theorem dL_mode_15 : decode cL_mode 15 = .ok (.astore 5, 2) := by decide +kernel
theorem dL_mode_17 : decode cL_mode 17 = .ok (.iconst 1, 1) := by decide +kernel
theorem dL_mode_18 : decode cL_mode 18 = .ok (.ireturn, 1) := by decide +kernel
theorem dL_mode_19 : decode cL_mode 19 = .ok (.astore 5, 2) := by decide +kernel
theorem dL_mode_21 : decode cL_mode 21 = .ok (.iconst 2, 1) := by decide +kernel
theorem dL_mode_22 : decode cL_mode 22 = .ok (.ireturn, 1) := by decide +kernel
theorem dL_mode_23 : decode cL_mode 23 = .ok (.astore 5, 2) := by decide +kernel
theorem dL_mode_25 : decode cL_mode 25 = .ok (.iconst 3, 1) := by decide +kernel
theorem dL_mode_26 : decode cL_mode 26 = .ok (.ireturn, 1) := by decide +kernel
theorem dL_mode_27 : decode cL_mode 27 = .ok (.iconst 0, 1) := by decide +kernel
theorem dL_mode_28 : decode cL_mode 28 = .ok (.ireturn, 1) := by decide +kernel
theorem dL_mask_0 : decode cL_mask 0 = .ok (.aload 4, 2) := by decide +kernel
theorem dL_mask_2 : decode cL_mask 2 = .ok (.iconst 0, 1) := by decide +kernel
theorem dL_mask_3 : decode cL_mask 3 = .ok (.aload_n 0, 1) := by decide +kernel
theorem dL_mask_4 : decode cL_mask 4 = .ok (.iload_n 1, 1) := by decide +kernel
theorem dL_mask_5 : decode cL_mask 5 = .ok (.iload_n 2, 1) := by decide +kernel
theorem dL_mask_6 : decode cL_mask 6 = .ok (.iload_n 3, 1) := by decide +kernel
theorem dL_mask_7 : decode cL_mask 7 = .ok (.invokevirtual 37, 3) := by decide +kernel
theorem dL_mask_10 : decode cL_mask 10 = .ok (.i2l, 1) := by decide +kernel
theorem dL_mask_11 : decode cL_mask 11 = .ok (.lastore, 1) := by decide +kernel
theorem dL_mask_12 : decode cL_mask 12 = .ok (.goto 15, 3) := by decide +kernel
theorem dL_mask_15 : decode cL_mask 15 = .ok (.astore 5, 2) := by decide +kernel
theorem dL_mask_17 : decode cL_mask 17 = .ok (.iconst 1, 1) := by decide +kernel
theorem dL_mask_18 : decode cL_mask 18 = .ok (.ireturn, 1) := by decide +kernel
theorem dL_mask_19 : decode cL_mask 19 = .ok (.astore 5, 2) := by decide +kernel
theorem dL_mask_21 : decode cL_mask 21 = .ok (.iconst 2, 1) := by decide +kernel
theorem dL_mask_22 : decode cL_mask 22 = .ok (.ireturn, 1) := by decide +kernel
theorem dL_mask_23 : decode cL_mask 23 = .ok (.astore 5, 2) := by decide +kernel
theorem dL_mask_25 : decode cL_mask 25 = .ok (.iconst 3, 1) := by decide +kernel
theorem dL_mask_26 : decode cL_mask 26 = .ok (.ireturn, 1) := by decide +kernel
theorem dL_mask_27 : decode cL_mask 27 = .ok (.iconst 0, 1) := by decide +kernel
theorem dL_mask_28 : decode cL_mask 28 = .ok (.ireturn, 1) := by decide +kernel
theorem dL_entry_0 : decode cL_entry 0 = .ok (.aload 7, 2) := by decide +kernel
theorem dL_entry_2 : decode cL_entry 2 = .ok (.iconst 0, 1) := by decide +kernel
theorem dL_entry_3 : decode cL_entry 3 = .ok (.aload_n 0, 1) := by decide +kernel
theorem dL_entry_4 : decode cL_entry 4 = .ok (.iload_n 1, 1) := by decide +kernel
theorem dL_entry_5 : decode cL_entry 5 = .ok (.iload_n 2, 1) := by decide +kernel
theorem dL_entry_6 : decode cL_entry 6 = .ok (.iload_n 3, 1) := by decide +kernel
theorem dL_entry_7 : decode cL_entry 7 = .ok (.iload 4, 2) := by decide +kernel
theorem dL_entry_9 : decode cL_entry 9 = .ok (.iload 5, 2) := by decide +kernel
theorem dL_entry_11 : decode cL_entry 11 = .ok (.iload 6, 2) := by decide +kernel
theorem dL_entry_13 : decode cL_entry 13 = .ok (.invokevirtual 40, 3) := by decide +kernel
theorem dL_entry_16 : decode cL_entry 16 = .ok (.i2l, 1) := by decide +kernel
theorem dL_entry_17 : decode cL_entry 17 = .ok (.lastore, 1) := by decide +kernel
theorem dL_entry_18 : decode cL_entry 18 = .ok (.goto 19, 3) := by decide +kernel
theorem dL_entry_21 : decode cL_entry 21 = .ok (.astore 8, 2) := by decide +kernel
theorem dL_entry_23 : decode cL_entry 23 = .ok (.iconst 1, 1) := by decide +kernel
theorem dL_entry_24 : decode cL_entry 24 = .ok (.ireturn, 1) := by decide +kernel
theorem dL_entry_25 : decode cL_entry 25 = .ok (.astore 8, 2) := by decide +kernel
theorem dL_entry_27 : decode cL_entry 27 = .ok (.iconst 2, 1) := by decide +kernel
theorem dL_entry_28 : decode cL_entry 28 = .ok (.ireturn, 1) := by decide +kernel
theorem dL_entry_29 : decode cL_entry 29 = .ok (.astore 8, 2) := by decide +kernel
theorem dL_entry_31 : decode cL_entry 31 = .ok (.iconst 3, 1) := by decide +kernel
theorem dL_entry_32 : decode cL_entry 32 = .ok (.ireturn, 1) := by decide +kernel
theorem dL_entry_33 : decode cL_entry 33 = .ok (.astore 8, 2) := by decide +kernel
theorem dL_entry_35 : decode cL_entry 35 = .ok (.iconst 4, 1) := by decide +kernel
theorem dL_entry_36 : decode cL_entry 36 = .ok (.ireturn, 1) := by decide +kernel
theorem dL_entry_37 : decode cL_entry 37 = .ok (.iconst 0, 1) := by decide +kernel
theorem dL_entry_38 : decode cL_entry 38 = .ok (.ireturn, 1) := by decide +kernel
theorem dL_give_0 : decode cL_give 0 = .ok (.aload 4, 2) := by decide +kernel
theorem dL_give_2 : decode cL_give 2 = .ok (.iconst 0, 1) := by decide +kernel
theorem dL_give_3 : decode cL_give 3 = .ok (.aload_n 0, 1) := by decide +kernel
theorem dL_give_4 : decode cL_give 4 = .ok (.iload_n 1, 1) := by decide +kernel
theorem dL_give_5 : decode cL_give 5 = .ok (.iload_n 2, 1) := by decide +kernel
theorem dL_give_6 : decode cL_give 6 = .ok (.iload_n 3, 1) := by decide +kernel
theorem dL_give_7 : decode cL_give 7 = .ok (.invokevirtual 44, 3) := by decide +kernel
theorem dL_give_10 : decode cL_give 10 = .ok (.i2l, 1) := by decide +kernel
theorem dL_give_11 : decode cL_give 11 = .ok (.lastore, 1) := by decide +kernel
theorem dL_give_12 : decode cL_give 12 = .ok (.goto 11, 3) := by decide +kernel
theorem dL_give_15 : decode cL_give 15 = .ok (.astore 5, 2) := by decide +kernel
theorem dL_give_17 : decode cL_give 17 = .ok (.iconst 1, 1) := by decide +kernel
theorem dL_give_18 : decode cL_give 18 = .ok (.ireturn, 1) := by decide +kernel
theorem dL_give_19 : decode cL_give 19 = .ok (.astore 5, 2) := by decide +kernel
theorem dL_give_21 : decode cL_give 21 = .ok (.iconst 2, 1) := by decide +kernel
theorem dL_give_22 : decode cL_give 22 = .ok (.ireturn, 1) := by decide +kernel
theorem dL_give_23 : decode cL_give 23 = .ok (.iconst 0, 1) := by decide +kernel
theorem dL_give_24 : decode cL_give 24 = .ok (.ireturn, 1) := by decide +kernel
theorem dL_label_0 : decode cL_label 0 = .ok (.aload 5, 2) := by decide +kernel
theorem dL_label_2 : decode cL_label 2 = .ok (.iconst 0, 1) := by decide +kernel
theorem dL_label_3 : decode cL_label 3 = .ok (.aload_n 0, 1) := by decide +kernel
theorem dL_label_4 : decode cL_label 4 = .ok (.iload_n 1, 1) := by decide +kernel
theorem dL_label_5 : decode cL_label 5 = .ok (.iload_n 2, 1) := by decide +kernel
theorem dL_label_6 : decode cL_label 6 = .ok (.iload_n 3, 1) := by decide +kernel
theorem dL_label_7 : decode cL_label 7 = .ok (.iload 4, 2) := by decide +kernel
theorem dL_label_9 : decode cL_label 9 = .ok (.invokevirtual 47, 3) := by decide +kernel
theorem dL_label_12 : decode cL_label 12 = .ok (.i2l, 1) := by decide +kernel
theorem dL_label_13 : decode cL_label 13 = .ok (.lastore, 1) := by decide +kernel
theorem dL_label_14 : decode cL_label 14 = .ok (.goto 15, 3) := by decide +kernel
theorem dL_label_17 : decode cL_label 17 = .ok (.astore 6, 2) := by decide +kernel
theorem dL_label_19 : decode cL_label 19 = .ok (.iconst 1, 1) := by decide +kernel
theorem dL_label_20 : decode cL_label 20 = .ok (.ireturn, 1) := by decide +kernel
theorem dL_label_21 : decode cL_label 21 = .ok (.astore 6, 2) := by decide +kernel
theorem dL_label_23 : decode cL_label 23 = .ok (.iconst 2, 1) := by decide +kernel
theorem dL_label_24 : decode cL_label 24 = .ok (.ireturn, 1) := by decide +kernel
theorem dL_label_25 : decode cL_label 25 = .ok (.astore 6, 2) := by decide +kernel
theorem dL_label_27 : decode cL_label 27 = .ok (.iconst 3, 1) := by decide +kernel
theorem dL_label_28 : decode cL_label 28 = .ok (.ireturn, 1) := by decide +kernel
theorem dL_label_29 : decode cL_label 29 = .ok (.iconst 0, 1) := by decide +kernel
theorem dL_label_30 : decode cL_label 30 = .ok (.ireturn, 1) := by decide +kernel
theorem dL_rule_0 : decode cL_rule 0 = .ok (.aload 4, 2) := by decide +kernel
theorem dL_rule_2 : decode cL_rule 2 = .ok (.iconst 0, 1) := by decide +kernel
theorem dL_rule_3 : decode cL_rule 3 = .ok (.aload_n 0, 1) := by decide +kernel
theorem dL_rule_4 : decode cL_rule 4 = .ok (.iload_n 1, 1) := by decide +kernel
theorem dL_rule_5 : decode cL_rule 5 = .ok (.iload_n 2, 1) := by decide +kernel
theorem dL_rule_6 : decode cL_rule 6 = .ok (.iload_n 3, 1) := by decide +kernel
theorem dL_rule_7 : decode cL_rule 7 = .ok (.invokevirtual 50, 3) := by decide +kernel
theorem dL_rule_10 : decode cL_rule 10 = .ok (.i2l, 1) := by decide +kernel
theorem dL_rule_11 : decode cL_rule 11 = .ok (.lastore, 1) := by decide +kernel
theorem dL_rule_12 : decode cL_rule 12 = .ok (.goto 11, 3) := by decide +kernel
theorem dL_rule_15 : decode cL_rule 15 = .ok (.astore 5, 2) := by decide +kernel
theorem dL_rule_17 : decode cL_rule 17 = .ok (.iconst 1, 1) := by decide +kernel
theorem dL_rule_18 : decode cL_rule 18 = .ok (.ireturn, 1) := by decide +kernel
theorem dL_rule_19 : decode cL_rule 19 = .ok (.astore 5, 2) := by decide +kernel
theorem dL_rule_21 : decode cL_rule 21 = .ok (.iconst 2, 1) := by decide +kernel
theorem dL_rule_22 : decode cL_rule 22 = .ok (.ireturn, 1) := by decide +kernel
theorem dL_rule_23 : decode cL_rule 23 = .ok (.iconst 0, 1) := by decide +kernel
theorem dL_rule_24 : decode cL_rule 24 = .ok (.ireturn, 1) := by decide +kernel
theorem dL_move_0 : decode cL_move 0 = .ok (.aload 4, 2) := by decide +kernel
theorem dL_move_2 : decode cL_move 2 = .ok (.iconst 0, 1) := by decide +kernel
theorem dL_move_3 : decode cL_move 3 = .ok (.aload_n 0, 1) := by decide +kernel
theorem dL_move_4 : decode cL_move 4 = .ok (.iload_n 1, 1) := by decide +kernel
theorem dL_move_5 : decode cL_move 5 = .ok (.iload_n 2, 1) := by decide +kernel
theorem dL_move_6 : decode cL_move 6 = .ok (.iload_n 3, 1) := by decide +kernel
theorem dL_move_7 : decode cL_move 7 = .ok (.invokevirtual 53, 3) := by decide +kernel
theorem dL_move_10 : decode cL_move 10 = .ok (.i2l, 1) := by decide +kernel
theorem dL_move_11 : decode cL_move 11 = .ok (.lastore, 1) := by decide +kernel
theorem dL_move_12 : decode cL_move 12 = .ok (.goto 11, 3) := by decide +kernel
theorem dL_move_15 : decode cL_move 15 = .ok (.astore 5, 2) := by decide +kernel
theorem dL_move_17 : decode cL_move 17 = .ok (.iconst 1, 1) := by decide +kernel
theorem dL_move_18 : decode cL_move 18 = .ok (.ireturn, 1) := by decide +kernel
theorem dL_move_19 : decode cL_move 19 = .ok (.astore 5, 2) := by decide +kernel
theorem dL_move_21 : decode cL_move 21 = .ok (.iconst 2, 1) := by decide +kernel
theorem dL_move_22 : decode cL_move 22 = .ok (.ireturn, 1) := by decide +kernel
theorem dL_move_23 : decode cL_move 23 = .ok (.iconst 0, 1) := by decide +kernel
theorem dL_move_24 : decode cL_move 24 = .ok (.ireturn, 1) := by decide +kernel
theorem dL_process_0 : decode cL_process 0 = .ok (.aload 7, 2) := by decide +kernel
theorem dL_process_2 : decode cL_process 2 = .ok (.iconst 0, 1) := by decide +kernel
theorem dL_process_3 : decode cL_process 3 = .ok (.aload_n 0, 1) := by decide +kernel
theorem dL_process_4 : decode cL_process 4 = .ok (.iload_n 1, 1) := by decide +kernel
theorem dL_process_5 : decode cL_process 5 = .ok (.iload_n 2, 1) := by decide +kernel
theorem dL_process_6 : decode cL_process 6 = .ok (.iload_n 3, 1) := by decide +kernel
theorem dL_process_7 : decode cL_process 7 = .ok (.iload 4, 2) := by decide +kernel
theorem dL_process_9 : decode cL_process 9 = .ok (.iload 5, 2) := by decide +kernel
theorem dL_process_11 : decode cL_process 11 = .ok (.iload 6, 2) := by decide +kernel
theorem dL_process_13 : decode cL_process 13 = .ok (.invokevirtual 56, 3) := by decide +kernel
theorem dL_process_16 : decode cL_process 16 = .ok (.i2l, 1) := by decide +kernel
theorem dL_process_17 : decode cL_process 17 = .ok (.lastore, 1) := by decide +kernel
theorem dL_process_18 : decode cL_process 18 = .ok (.goto 15, 3) := by decide +kernel
theorem dL_process_21 : decode cL_process 21 = .ok (.astore 8, 2) := by decide +kernel
theorem dL_process_23 : decode cL_process 23 = .ok (.iconst 1, 1) := by decide +kernel
theorem dL_process_24 : decode cL_process 24 = .ok (.ireturn, 1) := by decide +kernel
theorem dL_process_25 : decode cL_process 25 = .ok (.astore 8, 2) := by decide +kernel
theorem dL_process_27 : decode cL_process 27 = .ok (.iconst 2, 1) := by decide +kernel
theorem dL_process_28 : decode cL_process 28 = .ok (.ireturn, 1) := by decide +kernel
theorem dL_process_29 : decode cL_process 29 = .ok (.astore 8, 2) := by decide +kernel
theorem dL_process_31 : decode cL_process 31 = .ok (.iconst 3, 1) := by decide +kernel
theorem dL_process_32 : decode cL_process 32 = .ok (.ireturn, 1) := by decide +kernel
theorem dL_process_33 : decode cL_process 33 = .ok (.iconst 0, 1) := by decide +kernel
theorem dL_process_34 : decode cL_process 34 = .ok (.ireturn, 1) := by decide +kernel
theorem dL_filter_0 : decode cL_filter 0 = .ok (.aload_n 3, 1) := by decide +kernel
theorem dL_filter_1 : decode cL_filter 1 = .ok (.iconst 0, 1) := by decide +kernel
theorem dL_filter_2 : decode cL_filter 2 = .ok (.aload_n 0, 1) := by decide +kernel
theorem dL_filter_3 : decode cL_filter 3 = .ok (.iload_n 1, 1) := by decide +kernel
theorem dL_filter_4 : decode cL_filter 4 = .ok (.iload_n 2, 1) := by decide +kernel
theorem dL_filter_5 : decode cL_filter 5 = .ok (.invokevirtual 60, 3) := by decide +kernel
theorem dL_filter_8 : decode cL_filter 8 = .ok (.i2l, 1) := by decide +kernel
theorem dL_filter_9 : decode cL_filter 9 = .ok (.lastore, 1) := by decide +kernel
theorem dL_filter_10 : decode cL_filter 10 = .ok (.goto 15, 3) := by decide +kernel
theorem dL_filter_13 : decode cL_filter 13 = .ok (.astore 4, 2) := by decide +kernel
theorem dL_filter_15 : decode cL_filter 15 = .ok (.iconst 1, 1) := by decide +kernel
theorem dL_filter_16 : decode cL_filter 16 = .ok (.ireturn, 1) := by decide +kernel
theorem dL_filter_17 : decode cL_filter 17 = .ok (.astore 4, 2) := by decide +kernel
theorem dL_filter_19 : decode cL_filter 19 = .ok (.iconst 2, 1) := by decide +kernel
theorem dL_filter_20 : decode cL_filter 20 = .ok (.ireturn, 1) := by decide +kernel
theorem dL_filter_21 : decode cL_filter 21 = .ok (.astore 4, 2) := by decide +kernel
theorem dL_filter_23 : decode cL_filter 23 = .ok (.iconst 3, 1) := by decide +kernel
theorem dL_filter_24 : decode cL_filter 24 = .ok (.ireturn, 1) := by decide +kernel
theorem dL_filter_25 : decode cL_filter 25 = .ok (.iconst 0, 1) := by decide +kernel
theorem dL_filter_26 : decode cL_filter 26 = .ok (.ireturn, 1) := by decide +kernel
theorem dL_bound_0 : decode cL_bound 0 = .ok (.aload_n 3, 1) := by decide +kernel
theorem dL_bound_1 : decode cL_bound 1 = .ok (.iconst 0, 1) := by decide +kernel
theorem dL_bound_2 : decode cL_bound 2 = .ok (.aload_n 0, 1) := by decide +kernel
theorem dL_bound_3 : decode cL_bound 3 = .ok (.iload_n 1, 1) := by decide +kernel
theorem dL_bound_4 : decode cL_bound 4 = .ok (.iload_n 2, 1) := by decide +kernel
theorem dL_bound_5 : decode cL_bound 5 = .ok (.invokevirtual 63, 3) := by decide +kernel
theorem dL_bound_8 : decode cL_bound 8 = .ok (.i2l, 1) := by decide +kernel
theorem dL_bound_9 : decode cL_bound 9 = .ok (.lastore, 1) := by decide +kernel
theorem dL_bound_10 : decode cL_bound 10 = .ok (.goto 11, 3) := by decide +kernel
theorem dL_bound_13 : decode cL_bound 13 = .ok (.astore 4, 2) := by decide +kernel
theorem dL_bound_15 : decode cL_bound 15 = .ok (.iconst 1, 1) := by decide +kernel
theorem dL_bound_16 : decode cL_bound 16 = .ok (.ireturn, 1) := by decide +kernel
theorem dL_bound_17 : decode cL_bound 17 = .ok (.astore 4, 2) := by decide +kernel
theorem dL_bound_19 : decode cL_bound 19 = .ok (.iconst 2, 1) := by decide +kernel
theorem dL_bound_20 : decode cL_bound 20 = .ok (.ireturn, 1) := by decide +kernel
theorem dL_bound_21 : decode cL_bound 21 = .ok (.iconst 0, 1) := by decide +kernel
theorem dL_bound_22 : decode cL_bound 22 = .ok (.ireturn, 1) := by decide +kernel
theorem dL_about_0 : decode cL_about 0 = .ok (.aload_n 3, 1) := by decide +kernel
theorem dL_about_1 : decode cL_about 1 = .ok (.iconst 0, 1) := by decide +kernel
theorem dL_about_2 : decode cL_about 2 = .ok (.aload_n 0, 1) := by decide +kernel
theorem dL_about_3 : decode cL_about 3 = .ok (.iload_n 1, 1) := by decide +kernel
theorem dL_about_4 : decode cL_about 4 = .ok (.iload_n 2, 1) := by decide +kernel
theorem dL_about_5 : decode cL_about 5 = .ok (.invokevirtual 66, 3) := by decide +kernel
theorem dL_about_8 : decode cL_about 8 = .ok (.i2l, 1) := by decide +kernel
theorem dL_about_9 : decode cL_about 9 = .ok (.lastore, 1) := by decide +kernel
theorem dL_about_10 : decode cL_about 10 = .ok (.goto 11, 3) := by decide +kernel
theorem dL_about_13 : decode cL_about 13 = .ok (.astore 4, 2) := by decide +kernel
theorem dL_about_15 : decode cL_about 15 = .ok (.iconst 1, 1) := by decide +kernel
theorem dL_about_16 : decode cL_about 16 = .ok (.ireturn, 1) := by decide +kernel
theorem dL_about_17 : decode cL_about 17 = .ok (.astore 4, 2) := by decide +kernel
theorem dL_about_19 : decode cL_about 19 = .ok (.iconst 2, 1) := by decide +kernel
theorem dL_about_20 : decode cL_about 20 = .ok (.ireturn, 1) := by decide +kernel
theorem dL_about_21 : decode cL_about 21 = .ok (.iconst 0, 1) := by decide +kernel
theorem dL_about_22 : decode cL_about 22 = .ok (.ireturn, 1) := by decide +kernel
theorem dL_act_0 : decode cL_act 0 = .ok (.aload 4, 2) := by decide +kernel
theorem dL_act_2 : decode cL_act 2 = .ok (.iconst 0, 1) := by decide +kernel
theorem dL_act_3 : decode cL_act 3 = .ok (.aload_n 0, 1) := by decide +kernel
theorem dL_act_4 : decode cL_act 4 = .ok (.iload_n 1, 1) := by decide +kernel
theorem dL_act_5 : decode cL_act 5 = .ok (.iload_n 2, 1) := by decide +kernel
theorem dL_act_6 : decode cL_act 6 = .ok (.iload_n 3, 1) := by decide +kernel
theorem dL_act_7 : decode cL_act 7 = .ok (.invokevirtual 69, 3) := by decide +kernel
theorem dL_act_10 : decode cL_act 10 = .ok (.i2l, 1) := by decide +kernel
theorem dL_act_11 : decode cL_act 11 = .ok (.lastore, 1) := by decide +kernel
theorem dL_act_12 : decode cL_act 12 = .ok (.goto 11, 3) := by decide +kernel
theorem dL_act_15 : decode cL_act 15 = .ok (.astore 5, 2) := by decide +kernel
theorem dL_act_17 : decode cL_act 17 = .ok (.iconst 1, 1) := by decide +kernel
theorem dL_act_18 : decode cL_act 18 = .ok (.ireturn, 1) := by decide +kernel
theorem dL_act_19 : decode cL_act 19 = .ok (.astore 5, 2) := by decide +kernel
theorem dL_act_21 : decode cL_act 21 = .ok (.iconst 2, 1) := by decide +kernel
theorem dL_act_22 : decode cL_act 22 = .ok (.ireturn, 1) := by decide +kernel
theorem dL_act_23 : decode cL_act 23 = .ok (.iconst 0, 1) := by decide +kernel
theorem dL_act_24 : decode cL_act 24 = .ok (.ireturn, 1) := by decide +kernel
theorem dL_actBy_0 : decode cL_actBy 0 = .ok (.aload 4, 2) := by decide +kernel
theorem dL_actBy_2 : decode cL_actBy 2 = .ok (.iconst 0, 1) := by decide +kernel
theorem dL_actBy_3 : decode cL_actBy 3 = .ok (.aload_n 0, 1) := by decide +kernel
theorem dL_actBy_4 : decode cL_actBy 4 = .ok (.iload_n 1, 1) := by decide +kernel
theorem dL_actBy_5 : decode cL_actBy 5 = .ok (.iload_n 2, 1) := by decide +kernel
theorem dL_actBy_6 : decode cL_actBy 6 = .ok (.iload_n 3, 1) := by decide +kernel
theorem dL_actBy_7 : decode cL_actBy 7 = .ok (.invokevirtual 72, 3) := by decide +kernel
theorem dL_actBy_10 : decode cL_actBy 10 = .ok (.i2l, 1) := by decide +kernel
theorem dL_actBy_11 : decode cL_actBy 11 = .ok (.lastore, 1) := by decide +kernel
theorem dL_actBy_12 : decode cL_actBy 12 = .ok (.goto 15, 3) := by decide +kernel
theorem dL_actBy_15 : decode cL_actBy 15 = .ok (.astore 5, 2) := by decide +kernel
theorem dL_actBy_17 : decode cL_actBy 17 = .ok (.iconst 1, 1) := by decide +kernel
theorem dL_actBy_18 : decode cL_actBy 18 = .ok (.ireturn, 1) := by decide +kernel
theorem dL_actBy_19 : decode cL_actBy 19 = .ok (.astore 5, 2) := by decide +kernel
theorem dL_actBy_21 : decode cL_actBy 21 = .ok (.iconst 2, 1) := by decide +kernel
theorem dL_actBy_22 : decode cL_actBy 22 = .ok (.ireturn, 1) := by decide +kernel
theorem dL_actBy_23 : decode cL_actBy 23 = .ok (.astore 5, 2) := by decide +kernel
theorem dL_actBy_25 : decode cL_actBy 25 = .ok (.iconst 3, 1) := by decide +kernel
theorem dL_actBy_26 : decode cL_actBy 26 = .ok (.ireturn, 1) := by decide +kernel
theorem dL_actBy_27 : decode cL_actBy 27 = .ok (.iconst 0, 1) := by decide +kernel
theorem dL_actBy_28 : decode cL_actBy 28 = .ok (.ireturn, 1) := by decide +kernel
theorem dL_token_0 : decode cL_token 0 = .ok (.aload 5, 2) := by decide +kernel
theorem dL_token_2 : decode cL_token 2 = .ok (.iconst 0, 1) := by decide +kernel
theorem dL_token_3 : decode cL_token 3 = .ok (.aload_n 0, 1) := by decide +kernel
theorem dL_token_4 : decode cL_token 4 = .ok (.iload_n 1, 1) := by decide +kernel
theorem dL_token_5 : decode cL_token 5 = .ok (.iload_n 2, 1) := by decide +kernel
theorem dL_token_6 : decode cL_token 6 = .ok (.iload_n 3, 1) := by decide +kernel
theorem dL_token_7 : decode cL_token 7 = .ok (.iload 4, 2) := by decide +kernel
theorem dL_token_9 : decode cL_token 9 = .ok (.invokevirtual 75, 3) := by decide +kernel
theorem dL_token_12 : decode cL_token 12 = .ok (.i2l, 1) := by decide +kernel
theorem dL_token_13 : decode cL_token 13 = .ok (.lastore, 1) := by decide +kernel
theorem dL_token_14 : decode cL_token 14 = .ok (.goto 15, 3) := by decide +kernel
theorem dL_token_17 : decode cL_token 17 = .ok (.astore 6, 2) := by decide +kernel
theorem dL_token_19 : decode cL_token 19 = .ok (.iconst 1, 1) := by decide +kernel
theorem dL_token_20 : decode cL_token 20 = .ok (.ireturn, 1) := by decide +kernel
theorem dL_token_21 : decode cL_token 21 = .ok (.astore 6, 2) := by decide +kernel
theorem dL_token_23 : decode cL_token 23 = .ok (.iconst 2, 1) := by decide +kernel
theorem dL_token_24 : decode cL_token 24 = .ok (.ireturn, 1) := by decide +kernel
theorem dL_token_25 : decode cL_token 25 = .ok (.astore 6, 2) := by decide +kernel
theorem dL_token_27 : decode cL_token 27 = .ok (.iconst 3, 1) := by decide +kernel
theorem dL_token_28 : decode cL_token 28 = .ok (.ireturn, 1) := by decide +kernel
theorem dL_token_29 : decode cL_token 29 = .ok (.iconst 0, 1) := by decide +kernel
theorem dL_token_30 : decode cL_token 30 = .ok (.ireturn, 1) := by decide +kernel
theorem dL_narrow_0 : decode cL_narrow 0 = .ok (.aload 6, 2) := by decide +kernel
theorem dL_narrow_2 : decode cL_narrow 2 = .ok (.iconst 0, 1) := by decide +kernel
theorem dL_narrow_3 : decode cL_narrow 3 = .ok (.aload_n 0, 1) := by decide +kernel
theorem dL_narrow_4 : decode cL_narrow 4 = .ok (.iload_n 1, 1) := by decide +kernel
theorem dL_narrow_5 : decode cL_narrow 5 = .ok (.iload_n 2, 1) := by decide +kernel
theorem dL_narrow_6 : decode cL_narrow 6 = .ok (.iload_n 3, 1) := by decide +kernel
theorem dL_narrow_7 : decode cL_narrow 7 = .ok (.iload 4, 2) := by decide +kernel
theorem dL_narrow_9 : decode cL_narrow 9 = .ok (.iload 5, 2) := by decide +kernel
theorem dL_narrow_11 : decode cL_narrow 11 = .ok (.invokevirtual 78, 3) := by decide +kernel
theorem dL_narrow_14 : decode cL_narrow 14 = .ok (.i2l, 1) := by decide +kernel
theorem dL_narrow_15 : decode cL_narrow 15 = .ok (.lastore, 1) := by decide +kernel
theorem dL_narrow_16 : decode cL_narrow 16 = .ok (.goto 19, 3) := by decide +kernel
theorem dL_narrow_19 : decode cL_narrow 19 = .ok (.astore 7, 2) := by decide +kernel
theorem dL_narrow_21 : decode cL_narrow 21 = .ok (.iconst 1, 1) := by decide +kernel
theorem dL_narrow_22 : decode cL_narrow 22 = .ok (.ireturn, 1) := by decide +kernel
theorem dL_narrow_23 : decode cL_narrow 23 = .ok (.astore 7, 2) := by decide +kernel
theorem dL_narrow_25 : decode cL_narrow 25 = .ok (.iconst 2, 1) := by decide +kernel
theorem dL_narrow_26 : decode cL_narrow 26 = .ok (.ireturn, 1) := by decide +kernel
theorem dL_narrow_27 : decode cL_narrow 27 = .ok (.astore 7, 2) := by decide +kernel
theorem dL_narrow_29 : decode cL_narrow 29 = .ok (.iconst 3, 1) := by decide +kernel
theorem dL_narrow_30 : decode cL_narrow 30 = .ok (.ireturn, 1) := by decide +kernel
theorem dL_narrow_31 : decode cL_narrow 31 = .ok (.astore 7, 2) := by decide +kernel
theorem dL_narrow_33 : decode cL_narrow 33 = .ok (.iconst 4, 1) := by decide +kernel
theorem dL_narrow_34 : decode cL_narrow 34 = .ok (.ireturn, 1) := by decide +kernel
theorem dL_narrow_35 : decode cL_narrow 35 = .ok (.iconst 0, 1) := by decide +kernel
theorem dL_narrow_36 : decode cL_narrow 36 = .ok (.ireturn, 1) := by decide +kernel
theorem dL_takeBack_0 : decode cL_takeBack 0 = .ok (.aload_n 3, 1) := by decide +kernel
theorem dL_takeBack_1 : decode cL_takeBack 1 = .ok (.iconst 0, 1) := by decide +kernel
theorem dL_takeBack_2 : decode cL_takeBack 2 = .ok (.aload_n 0, 1) := by decide +kernel
theorem dL_takeBack_3 : decode cL_takeBack 3 = .ok (.iload_n 1, 1) := by decide +kernel
theorem dL_takeBack_4 : decode cL_takeBack 4 = .ok (.iload_n 2, 1) := by decide +kernel
theorem dL_takeBack_5 : decode cL_takeBack 5 = .ok (.invokevirtual 82, 3) := by decide +kernel
theorem dL_takeBack_8 : decode cL_takeBack 8 = .ok (.ifCond .eq 7, 3) := by decide +kernel
theorem dL_takeBack_11 : decode cL_takeBack 11 = .ok (.lconst 1, 1) := by decide +kernel
theorem dL_takeBack_12 : decode cL_takeBack 12 = .ok (.goto 4, 3) := by decide +kernel
theorem dL_takeBack_15 : decode cL_takeBack 15 = .ok (.lconst 0, 1) := by decide +kernel
theorem dL_takeBack_16 : decode cL_takeBack 16 = .ok (.lastore, 1) := by decide +kernel
theorem dL_takeBack_17 : decode cL_takeBack 17 = .ok (.goto 11, 3) := by decide +kernel
theorem dL_takeBack_20 : decode cL_takeBack 20 = .ok (.astore 4, 2) := by decide +kernel
theorem dL_takeBack_22 : decode cL_takeBack 22 = .ok (.iconst 1, 1) := by decide +kernel
theorem dL_takeBack_23 : decode cL_takeBack 23 = .ok (.ireturn, 1) := by decide +kernel
theorem dL_takeBack_24 : decode cL_takeBack 24 = .ok (.astore 4, 2) := by decide +kernel
theorem dL_takeBack_26 : decode cL_takeBack 26 = .ok (.iconst 2, 1) := by decide +kernel
theorem dL_takeBack_27 : decode cL_takeBack 27 = .ok (.ireturn, 1) := by decide +kernel
theorem dL_takeBack_28 : decode cL_takeBack 28 = .ok (.iconst 0, 1) := by decide +kernel
theorem dL_takeBack_29 : decode cL_takeBack 29 = .ok (.ireturn, 1) := by decide +kernel
theorem dL_pass_0 : decode cL_pass 0 = .ok (.aload_n 2, 1) := by decide +kernel
theorem dL_pass_1 : decode cL_pass 1 = .ok (.iconst 0, 1) := by decide +kernel
theorem dL_pass_2 : decode cL_pass 2 = .ok (.aload_n 0, 1) := by decide +kernel
theorem dL_pass_3 : decode cL_pass 3 = .ok (.iload_n 1, 1) := by decide +kernel
theorem dL_pass_4 : decode cL_pass 4 = .ok (.invokevirtual 86, 3) := by decide +kernel
theorem dL_pass_7 : decode cL_pass 7 = .ok (.i2l, 1) := by decide +kernel
theorem dL_pass_8 : decode cL_pass 8 = .ok (.lastore, 1) := by decide +kernel
theorem dL_pass_9 : decode cL_pass 9 = .ok (.goto 9, 3) := by decide +kernel
theorem dL_pass_12 : decode cL_pass 12 = .ok (.astore_n 3, 1) := by decide +kernel
theorem dL_pass_13 : decode cL_pass 13 = .ok (.iconst 1, 1) := by decide +kernel
theorem dL_pass_14 : decode cL_pass 14 = .ok (.ireturn, 1) := by decide +kernel
theorem dL_pass_15 : decode cL_pass 15 = .ok (.astore_n 3, 1) := by decide +kernel
theorem dL_pass_16 : decode cL_pass 16 = .ok (.iconst 2, 1) := by decide +kernel
theorem dL_pass_17 : decode cL_pass 17 = .ok (.ireturn, 1) := by decide +kernel
theorem dL_pass_18 : decode cL_pass 18 = .ok (.iconst 0, 1) := by decide +kernel
theorem dL_pass_19 : decode cL_pass 19 = .ok (.ireturn, 1) := by decide +kernel
theorem dL_watch_0 : decode cL_watch 0 = .ok (.aload_n 0, 1) := by decide +kernel
theorem dL_watch_1 : decode cL_watch 1 = .ok (.iload_n 1, 1) := by decide +kernel
theorem dL_watch_2 : decode cL_watch 2 = .ok (.iload_n 2, 1) := by decide +kernel
theorem dL_watch_3 : decode cL_watch 3 = .ok (.invokevirtual 89, 3) := by decide +kernel
theorem dL_watch_6 : decode cL_watch 6 = .ok (.goto 6, 3) := by decide +kernel
theorem dL_watch_9 : decode cL_watch 9 = .ok (.astore_n 3, 1) := by decide +kernel
theorem dL_watch_10 : decode cL_watch 10 = .ok (.iconst 1, 1) := by decide +kernel
theorem dL_watch_11 : decode cL_watch 11 = .ok (.ireturn, 1) := by decide +kernel
theorem dL_watch_12 : decode cL_watch 12 = .ok (.iconst 0, 1) := by decide +kernel
theorem dL_watch_13 : decode cL_watch 13 = .ok (.ireturn, 1) := by decide +kernel
theorem dL_logged_0 : decode cL_logged 0 = .ok (.aload_n 3, 1) := by decide +kernel
theorem dL_logged_1 : decode cL_logged 1 = .ok (.iconst 0, 1) := by decide +kernel
theorem dL_logged_2 : decode cL_logged 2 = .ok (.aload_n 0, 1) := by decide +kernel
theorem dL_logged_3 : decode cL_logged 3 = .ok (.iload_n 1, 1) := by decide +kernel
theorem dL_logged_4 : decode cL_logged 4 = .ok (.iload_n 2, 1) := by decide +kernel
theorem dL_logged_5 : decode cL_logged 5 = .ok (.invokevirtual 93, 3) := by decide +kernel
theorem dL_logged_8 : decode cL_logged 8 = .ok (.i2l, 1) := by decide +kernel
theorem dL_logged_9 : decode cL_logged 9 = .ok (.lastore, 1) := by decide +kernel
theorem dL_logged_10 : decode cL_logged 10 = .ok (.goto 11, 3) := by decide +kernel
theorem dL_logged_13 : decode cL_logged 13 = .ok (.astore 4, 2) := by decide +kernel
theorem dL_logged_15 : decode cL_logged 15 = .ok (.iconst 1, 1) := by decide +kernel
theorem dL_logged_16 : decode cL_logged 16 = .ok (.ireturn, 1) := by decide +kernel
theorem dL_logged_17 : decode cL_logged 17 = .ok (.astore 4, 2) := by decide +kernel
theorem dL_logged_19 : decode cL_logged 19 = .ok (.iconst 2, 1) := by decide +kernel
theorem dL_logged_20 : decode cL_logged 20 = .ok (.ireturn, 1) := by decide +kernel
theorem dL_logged_21 : decode cL_logged 21 = .ok (.iconst 0, 1) := by decide +kernel
theorem dL_logged_22 : decode cL_logged 22 = .ok (.ireturn, 1) := by decide +kernel
theorem dL_forge_0 : decode cL_forge 0 = .ok (.aload_n 3, 1) := by decide +kernel
theorem dL_forge_1 : decode cL_forge 1 = .ok (.iconst 0, 1) := by decide +kernel
theorem dL_forge_2 : decode cL_forge 2 = .ok (.aload_n 0, 1) := by decide +kernel
theorem dL_forge_3 : decode cL_forge 3 = .ok (.iload_n 1, 1) := by decide +kernel
theorem dL_forge_4 : decode cL_forge 4 = .ok (.iload_n 2, 1) := by decide +kernel
theorem dL_forge_5 : decode cL_forge 5 = .ok (.invokevirtual 96, 3) := by decide +kernel
theorem dL_forge_8 : decode cL_forge 8 = .ok (.i2l, 1) := by decide +kernel
theorem dL_forge_9 : decode cL_forge 9 = .ok (.lastore, 1) := by decide +kernel
theorem dL_forge_10 : decode cL_forge 10 = .ok (.goto 11, 3) := by decide +kernel
theorem dL_forge_13 : decode cL_forge 13 = .ok (.astore 4, 2) := by decide +kernel
theorem dL_forge_15 : decode cL_forge 15 = .ok (.iconst 1, 1) := by decide +kernel
theorem dL_forge_16 : decode cL_forge 16 = .ok (.ireturn, 1) := by decide +kernel
theorem dL_forge_17 : decode cL_forge 17 = .ok (.astore 4, 2) := by decide +kernel
theorem dL_forge_19 : decode cL_forge 19 = .ok (.iconst 2, 1) := by decide +kernel
theorem dL_forge_20 : decode cL_forge 20 = .ok (.ireturn, 1) := by decide +kernel
theorem dL_forge_21 : decode cL_forge 21 = .ok (.iconst 0, 1) := by decide +kernel
theorem dL_forge_22 : decode cL_forge 22 = .ok (.ireturn, 1) := by decide +kernel
theorem dL_verdict_0 : decode cL_verdict 0 = .ok (.aload 4, 2) := by decide +kernel
theorem dL_verdict_2 : decode cL_verdict 2 = .ok (.iconst 0, 1) := by decide +kernel
theorem dL_verdict_3 : decode cL_verdict 3 = .ok (.aload_n 0, 1) := by decide +kernel
theorem dL_verdict_4 : decode cL_verdict 4 = .ok (.iload_n 1, 1) := by decide +kernel
theorem dL_verdict_5 : decode cL_verdict 5 = .ok (.iload_n 2, 1) := by decide +kernel
theorem dL_verdict_6 : decode cL_verdict 6 = .ok (.iload_n 3, 1) := by decide +kernel
theorem dL_verdict_7 : decode cL_verdict 7 = .ok (.invokevirtual 99, 3) := by decide +kernel
theorem dL_verdict_10 : decode cL_verdict 10 = .ok (.i2l, 1) := by decide +kernel
theorem dL_verdict_11 : decode cL_verdict 11 = .ok (.lastore, 1) := by decide +kernel
theorem dL_verdict_12 : decode cL_verdict 12 = .ok (.goto 11, 3) := by decide +kernel
theorem dL_verdict_15 : decode cL_verdict 15 = .ok (.astore 5, 2) := by decide +kernel
theorem dL_verdict_17 : decode cL_verdict 17 = .ok (.iconst 1, 1) := by decide +kernel
theorem dL_verdict_18 : decode cL_verdict 18 = .ok (.ireturn, 1) := by decide +kernel
theorem dL_verdict_19 : decode cL_verdict 19 = .ok (.astore 5, 2) := by decide +kernel
theorem dL_verdict_21 : decode cL_verdict 21 = .ok (.iconst 2, 1) := by decide +kernel
theorem dL_verdict_22 : decode cL_verdict 22 = .ok (.ireturn, 1) := by decide +kernel
theorem dL_verdict_23 : decode cL_verdict 23 = .ok (.iconst 0, 1) := by decide +kernel
theorem dL_verdict_24 : decode cL_verdict 24 = .ok (.ireturn, 1) := by decide +kernel
theorem dL_verdictAnew_0 : decode cL_verdictAnew 0 = .ok (.aload 4, 2) := by decide +kernel
theorem dL_verdictAnew_2 : decode cL_verdictAnew 2 = .ok (.iconst 0, 1) := by decide +kernel
theorem dL_verdictAnew_3 : decode cL_verdictAnew 3 = .ok (.aload_n 0, 1) := by decide +kernel
theorem dL_verdictAnew_4 : decode cL_verdictAnew 4 = .ok (.iload_n 1, 1) := by decide +kernel
theorem dL_verdictAnew_5 : decode cL_verdictAnew 5 = .ok (.iload_n 2, 1) := by decide +kernel
theorem dL_verdictAnew_6 : decode cL_verdictAnew 6 = .ok (.iload_n 3, 1) := by decide +kernel
theorem dL_verdictAnew_7 : decode cL_verdictAnew 7 = .ok (.invokevirtual 102, 3) := by decide +kernel
theorem dL_verdictAnew_10 : decode cL_verdictAnew 10 = .ok (.i2l, 1) := by decide +kernel
theorem dL_verdictAnew_11 : decode cL_verdictAnew 11 = .ok (.lastore, 1) := by decide +kernel
theorem dL_verdictAnew_12 : decode cL_verdictAnew 12 = .ok (.goto 11, 3) := by decide +kernel
theorem dL_verdictAnew_15 : decode cL_verdictAnew 15 = .ok (.astore 5, 2) := by decide +kernel
theorem dL_verdictAnew_17 : decode cL_verdictAnew 17 = .ok (.iconst 1, 1) := by decide +kernel
theorem dL_verdictAnew_18 : decode cL_verdictAnew 18 = .ok (.ireturn, 1) := by decide +kernel
theorem dL_verdictAnew_19 : decode cL_verdictAnew 19 = .ok (.astore 5, 2) := by decide +kernel
theorem dL_verdictAnew_21 : decode cL_verdictAnew 21 = .ok (.iconst 2, 1) := by decide +kernel
theorem dL_verdictAnew_22 : decode cL_verdictAnew 22 = .ok (.ireturn, 1) := by decide +kernel
theorem dL_verdictAnew_23 : decode cL_verdictAnew 23 = .ok (.iconst 0, 1) := by decide +kernel
theorem dL_verdictAnew_24 : decode cL_verdictAnew 24 = .ok (.ireturn, 1) := by decide +kernel
theorem dL_reach_0 : decode cL_reach 0 = .ok (.aload 4, 2) := by decide +kernel
theorem dL_reach_2 : decode cL_reach 2 = .ok (.iconst 0, 1) := by decide +kernel
theorem dL_reach_3 : decode cL_reach 3 = .ok (.aload_n 0, 1) := by decide +kernel
theorem dL_reach_4 : decode cL_reach 4 = .ok (.iload_n 1, 1) := by decide +kernel
theorem dL_reach_5 : decode cL_reach 5 = .ok (.iload_n 2, 1) := by decide +kernel
theorem dL_reach_6 : decode cL_reach 6 = .ok (.iload_n 3, 1) := by decide +kernel
theorem dL_reach_7 : decode cL_reach 7 = .ok (.invokevirtual 105, 3) := by decide +kernel
theorem dL_reach_10 : decode cL_reach 10 = .ok (.i2l, 1) := by decide +kernel
theorem dL_reach_11 : decode cL_reach 11 = .ok (.lastore, 1) := by decide +kernel
theorem dL_reach_12 : decode cL_reach 12 = .ok (.goto 11, 3) := by decide +kernel
theorem dL_reach_15 : decode cL_reach 15 = .ok (.astore 5, 2) := by decide +kernel
theorem dL_reach_17 : decode cL_reach 17 = .ok (.iconst 1, 1) := by decide +kernel
theorem dL_reach_18 : decode cL_reach 18 = .ok (.ireturn, 1) := by decide +kernel
theorem dL_reach_19 : decode cL_reach 19 = .ok (.astore 5, 2) := by decide +kernel
theorem dL_reach_21 : decode cL_reach 21 = .ok (.iconst 2, 1) := by decide +kernel
theorem dL_reach_22 : decode cL_reach 22 = .ok (.ireturn, 1) := by decide +kernel
theorem dL_reach_23 : decode cL_reach 23 = .ok (.iconst 0, 1) := by decide +kernel
theorem dL_reach_24 : decode cL_reach 24 = .ok (.ireturn, 1) := by decide +kernel
theorem dL_reachAnew_0 : decode cL_reachAnew 0 = .ok (.aload 4, 2) := by decide +kernel
theorem dL_reachAnew_2 : decode cL_reachAnew 2 = .ok (.iconst 0, 1) := by decide +kernel
theorem dL_reachAnew_3 : decode cL_reachAnew 3 = .ok (.aload_n 0, 1) := by decide +kernel
theorem dL_reachAnew_4 : decode cL_reachAnew 4 = .ok (.iload_n 1, 1) := by decide +kernel
theorem dL_reachAnew_5 : decode cL_reachAnew 5 = .ok (.iload_n 2, 1) := by decide +kernel
theorem dL_reachAnew_6 : decode cL_reachAnew 6 = .ok (.iload_n 3, 1) := by decide +kernel
theorem dL_reachAnew_7 : decode cL_reachAnew 7 = .ok (.invokevirtual 108, 3) := by decide +kernel
theorem dL_reachAnew_10 : decode cL_reachAnew 10 = .ok (.i2l, 1) := by decide +kernel
theorem dL_reachAnew_11 : decode cL_reachAnew 11 = .ok (.lastore, 1) := by decide +kernel
theorem dL_reachAnew_12 : decode cL_reachAnew 12 = .ok (.goto 11, 3) := by decide +kernel
theorem dL_reachAnew_15 : decode cL_reachAnew 15 = .ok (.astore 5, 2) := by decide +kernel
theorem dL_reachAnew_17 : decode cL_reachAnew 17 = .ok (.iconst 1, 1) := by decide +kernel
theorem dL_reachAnew_18 : decode cL_reachAnew 18 = .ok (.ireturn, 1) := by decide +kernel
theorem dL_reachAnew_19 : decode cL_reachAnew 19 = .ok (.astore 5, 2) := by decide +kernel
theorem dL_reachAnew_21 : decode cL_reachAnew 21 = .ok (.iconst 2, 1) := by decide +kernel
theorem dL_reachAnew_22 : decode cL_reachAnew 22 = .ok (.ireturn, 1) := by decide +kernel
theorem dL_reachAnew_23 : decode cL_reachAnew 23 = .ok (.iconst 0, 1) := by decide +kernel
theorem dL_reachAnew_24 : decode cL_reachAnew 24 = .ok (.ireturn, 1) := by decide +kernel
theorem dL_least_0 : decode cL_least 0 = .ok (.aload 4, 2) := by decide +kernel
theorem dL_least_2 : decode cL_least 2 = .ok (.iconst 0, 1) := by decide +kernel
theorem dL_least_3 : decode cL_least 3 = .ok (.aload_n 0, 1) := by decide +kernel
theorem dL_least_4 : decode cL_least 4 = .ok (.iload_n 1, 1) := by decide +kernel
theorem dL_least_5 : decode cL_least 5 = .ok (.iload_n 2, 1) := by decide +kernel
theorem dL_least_6 : decode cL_least 6 = .ok (.iload_n 3, 1) := by decide +kernel
theorem dL_least_7 : decode cL_least 7 = .ok (.invokevirtual 111, 3) := by decide +kernel
theorem dL_least_10 : decode cL_least 10 = .ok (.i2l, 1) := by decide +kernel
theorem dL_least_11 : decode cL_least 11 = .ok (.lastore, 1) := by decide +kernel
theorem dL_least_12 : decode cL_least 12 = .ok (.goto 11, 3) := by decide +kernel
theorem dL_least_15 : decode cL_least 15 = .ok (.astore 5, 2) := by decide +kernel
theorem dL_least_17 : decode cL_least 17 = .ok (.iconst 1, 1) := by decide +kernel
theorem dL_least_18 : decode cL_least 18 = .ok (.ireturn, 1) := by decide +kernel
theorem dL_least_19 : decode cL_least 19 = .ok (.astore 5, 2) := by decide +kernel
theorem dL_least_21 : decode cL_least 21 = .ok (.iconst 2, 1) := by decide +kernel
theorem dL_least_22 : decode cL_least 22 = .ok (.ireturn, 1) := by decide +kernel
theorem dL_least_23 : decode cL_least 23 = .ok (.iconst 0, 1) := by decide +kernel
theorem dL_least_24 : decode cL_least 24 = .ok (.ireturn, 1) := by decide +kernel
theorem dL_leastAnew_0 : decode cL_leastAnew 0 = .ok (.aload 4, 2) := by decide +kernel
theorem dL_leastAnew_2 : decode cL_leastAnew 2 = .ok (.iconst 0, 1) := by decide +kernel
theorem dL_leastAnew_3 : decode cL_leastAnew 3 = .ok (.aload_n 0, 1) := by decide +kernel
theorem dL_leastAnew_4 : decode cL_leastAnew 4 = .ok (.iload_n 1, 1) := by decide +kernel
theorem dL_leastAnew_5 : decode cL_leastAnew 5 = .ok (.iload_n 2, 1) := by decide +kernel
theorem dL_leastAnew_6 : decode cL_leastAnew 6 = .ok (.iload_n 3, 1) := by decide +kernel
theorem dL_leastAnew_7 : decode cL_leastAnew 7 = .ok (.invokevirtual 114, 3) := by decide +kernel
theorem dL_leastAnew_10 : decode cL_leastAnew 10 = .ok (.i2l, 1) := by decide +kernel
theorem dL_leastAnew_11 : decode cL_leastAnew 11 = .ok (.lastore, 1) := by decide +kernel
theorem dL_leastAnew_12 : decode cL_leastAnew 12 = .ok (.goto 11, 3) := by decide +kernel
theorem dL_leastAnew_15 : decode cL_leastAnew 15 = .ok (.astore 5, 2) := by decide +kernel
theorem dL_leastAnew_17 : decode cL_leastAnew 17 = .ok (.iconst 1, 1) := by decide +kernel
theorem dL_leastAnew_18 : decode cL_leastAnew 18 = .ok (.ireturn, 1) := by decide +kernel
theorem dL_leastAnew_19 : decode cL_leastAnew 19 = .ok (.astore 5, 2) := by decide +kernel
theorem dL_leastAnew_21 : decode cL_leastAnew 21 = .ok (.iconst 2, 1) := by decide +kernel
theorem dL_leastAnew_22 : decode cL_leastAnew 22 = .ok (.ireturn, 1) := by decide +kernel
theorem dL_leastAnew_23 : decode cL_leastAnew 23 = .ok (.iconst 0, 1) := by decide +kernel
theorem dL_leastAnew_24 : decode cL_leastAnew 24 = .ok (.ireturn, 1) := by decide +kernel
