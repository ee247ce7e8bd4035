theorem dL_person_0 : decode cL_person 0 = .ok (.aload_n 3, 1) := by decide +kernel
theorem dL_person_1 : decode cL_person 1 = .ok (.iconst 0, 1) := by decide +kernel
theorem dL_person_2 : decode cL_person 2 = .ok (.aload_n 0, 1) := by decide +kernel
theorem dL_person_3 : decode cL_person 3 = .ok (.iload_n 1, 1) := by decide +kernel
theorem dL_person_4 : decode cL_person 4 = .ok (.iload_n 2, 1) := by decide +kernel
theorem dL_person_5 : decode cL_person 5 = .ok (.invokevirtual 7, 3) := by decide +kernel
theorem dL_person_8 : decode cL_person 8 = .ok (.i2l, 1) := by decide +kernel
theorem dL_person_9 : decode cL_person 9 = .ok (.lastore, 1) := by decide +kernel
theorem dL_person_10 : decode cL_person 10 = .ok (.goto 11, 3) := by decide +kernel
theorem dL_person_13 : decode cL_person 13 = .ok (.astore 4, 2) := by decide +kernel
theorem dL_person_15 : decode cL_person 15 = .ok (.iconst 1, 1) := by decide +kernel
theorem dL_person_16 : decode cL_person 16 = .ok (.ireturn, 1) := by decide +kernel
theorem dL_person_17 : decode cL_person 17 = .ok (.astore 4, 2) := by decide +kernel
theorem dL_person_19 : decode cL_person 19 = .ok (.iconst 2, 1) := by decide +kernel
theorem dL_person_20 : decode cL_person 20 = .ok (.ireturn, 1) := by decide +kernel
theorem dL_person_21 : decode cL_person 21 = .ok (.iconst 0, 1) := by decide +kernel
theorem dL_person_22 : decode cL_person 22 = .ok (.ireturn, 1) := by decide +kernel
theorem dL_rule_0 : decode cL_rule 0 = .ok (.aload_n 1, 1) := by decide +kernel
theorem dL_rule_1 : decode cL_rule 1 = .ok (.iconst 0, 1) := by decide +kernel
theorem dL_rule_2 : decode cL_rule 2 = .ok (.aload_n 0, 1) := by decide +kernel
theorem dL_rule_3 : decode cL_rule 3 = .ok (.invokevirtual 17, 3) := by decide +kernel
theorem dL_rule_6 : decode cL_rule 6 = .ok (.i2l, 1) := by decide +kernel
theorem dL_rule_7 : decode cL_rule 7 = .ok (.lastore, 1) := by decide +kernel
theorem dL_rule_8 : decode cL_rule 8 = .ok (.goto 9, 3) := by decide +kernel
theorem dL_rule_11 : decode cL_rule 11 = .ok (.astore_n 2, 1) := by decide +kernel
theorem dL_rule_12 : decode cL_rule 12 = .ok (.iconst 1, 1) := by decide +kernel
theorem dL_rule_13 : decode cL_rule 13 = .ok (.ireturn, 1) := by decide +kernel
theorem dL_rule_14 : decode cL_rule 14 = .ok (.astore_n 2, 1) := by decide +kernel
theorem dL_rule_15 : decode cL_rule 15 = .ok (.iconst 2, 1) := by decide +kernel
theorem dL_rule_16 : decode cL_rule 16 = .ok (.ireturn, 1) := by decide +kernel
theorem dL_rule_17 : decode cL_rule 17 = .ok (.iconst 0, 1) := by decide +kernel
theorem dL_rule_18 : decode cL_rule 18 = .ok (.ireturn, 1) := by decide +kernel
theorem dL_way_0 : decode cL_way 0 = .ok (.aload_n 1, 1) := by decide +kernel
theorem dL_way_1 : decode cL_way 1 = .ok (.iconst 0, 1) := by decide +kernel
theorem dL_way_2 : decode cL_way 2 = .ok (.aload_n 0, 1) := by decide +kernel
theorem dL_way_3 : decode cL_way 3 = .ok (.invokevirtual 21, 3) := by decide +kernel
theorem dL_way_6 : decode cL_way 6 = .ok (.i2l, 1) := by decide +kernel
theorem dL_way_7 : decode cL_way 7 = .ok (.lastore, 1) := by decide +kernel
theorem dL_way_8 : decode cL_way 8 = .ok (.goto 9, 3) := by decide +kernel
theorem dL_way_11 : decode cL_way 11 = .ok (.astore_n 2, 1) := by decide +kernel
theorem dL_way_12 : decode cL_way 12 = .ok (.iconst 1, 1) := by decide +kernel
theorem dL_way_13 : decode cL_way 13 = .ok (.ireturn, 1) := by decide +kernel
theorem dL_way_14 : decode cL_way 14 = .ok (.astore_n 2, 1) := by decide +kernel
theorem dL_way_15 : decode cL_way 15 = .ok (.iconst 2, 1) := by decide +kernel
theorem dL_way_16 : decode cL_way 16 = .ok (.ireturn, 1) := by decide +kernel
theorem dL_way_17 : decode cL_way 17 = .ok (.iconst 0, 1) := by decide +kernel
theorem dL_way_18 : decode cL_way 18 = .ok (.ireturn, 1) := by decide +kernel
theorem dL_thing_0 : decode cL_thing 0 = .ok (.aload 4, 2) := by decide +kernel
theorem dL_thing_2 : decode cL_thing 2 = .ok (.iconst 0, 1) := by decide +kernel
theorem dL_thing_3 : decode cL_thing 3 = .ok (.aload_n 0, 1) := by decide +kernel
theorem dL_thing_4 : decode cL_thing 4 = .ok (.iload_n 1, 1) := by decide +kernel
theorem dL_thing_5 : decode cL_thing 5 = .ok (.iload_n 2, 1) := by decide +kernel
theorem dL_thing_6 : decode cL_thing 6 = .ok (.iload_n 3, 1) := by decide +kernel
theorem dL_thing_7 : decode cL_thing 7 = .ok (.invokevirtual 24, 3) := by decide +kernel
theorem dL_thing_10 : decode cL_thing 10 = .ok (.i2l, 1) := by decide +kernel
theorem dL_thing_11 : decode cL_thing 11 = .ok (.lastore, 1) := by decide +kernel
theorem dL_thing_12 : decode cL_thing 12 = .ok (.goto 11, 3) := by decide +kernel
theorem dL_thing_15 : decode cL_thing 15 = .ok (.astore 5, 2) := by decide +kernel
theorem dL_thing_17 : decode cL_thing 17 = .ok (.iconst 1, 1) := by decide +kernel
theorem dL_thing_18 : decode cL_thing 18 = .ok (.ireturn, 1) := by decide +kernel
theorem dL_thing_19 : decode cL_thing 19 = .ok (.astore 5, 2) := by decide +kernel
theorem dL_thing_21 : decode cL_thing 21 = .ok (.iconst 2, 1) := by decide +kernel
theorem dL_thing_22 : decode cL_thing 22 = .ok (.ireturn, 1) := by decide +kernel
theorem dL_thing_23 : decode cL_thing 23 = .ok (.iconst 0, 1) := by decide +kernel
theorem dL_thing_24 : decode cL_thing 24 = .ok (.ireturn, 1) := by decide +kernel
theorem dL_look_0 : decode cL_look 0 = .ok (.aload_n 3, 1) := by decide +kernel
theorem dL_look_1 : decode cL_look 1 = .ok (.iconst 0, 1) := by decide +kernel
theorem dL_look_2 : decode cL_look 2 = .ok (.aload_n 0, 1) := by decide +kernel
theorem dL_look_3 : decode cL_look 3 = .ok (.iload_n 1, 1) := by decide +kernel
theorem dL_look_4 : decode cL_look 4 = .ok (.iload_n 2, 1) := by decide +kernel
theorem dL_look_5 : decode cL_look 5 = .ok (.invokevirtual 28, 3) := by decide +kernel
theorem dL_look_8 : decode cL_look 8 = .ok (.i2l, 1) := by decide +kernel
theorem dL_look_9 : decode cL_look 9 = .ok (.lastore, 1) := by decide +kernel
theorem dL_look_10 : decode cL_look 10 = .ok (.goto 11, 3) := by decide +kernel
theorem dL_look_13 : decode cL_look 13 = .ok (.astore 4, 2) := by decide +kernel
theorem dL_look_15 : decode cL_look 15 = .ok (.iconst 1, 1) := by decide +kernel
theorem dL_look_16 : decode cL_look 16 = .ok (.ireturn, 1) := by decide +kernel
theorem dL_look_17 : decode cL_look 17 = .ok (.astore 4, 2) := by decide +kernel
theorem dL_look_19 : decode cL_look 19 = .ok (.iconst 2, 1) := by decide +kernel
theorem dL_look_20 : decode cL_look 20 = .ok (.ireturn, 1) := by decide +kernel
theorem dL_look_21 : decode cL_look 21 = .ok (.iconst 0, 1) := by decide +kernel
theorem dL_look_22 : decode cL_look 22 = .ok (.ireturn, 1) := by decide +kernel
theorem dL_needs_0 : decode cL_needs 0 = .ok (.aload 6, 2) := by decide +kernel
theorem dL_needs_2 : decode cL_needs 2 = .ok (.iconst 0, 1) := by decide +kernel
theorem dL_needs_3 : decode cL_needs 3 = .ok (.aload_n 0, 1) := by decide +kernel
theorem dL_needs_4 : decode cL_needs 4 = .ok (.iload_n 1, 1) := by decide +kernel
theorem dL_needs_5 : decode cL_needs 5 = .ok (.iload_n 2, 1) := by decide +kernel
theorem dL_needs_6 : decode cL_needs 6 = .ok (.iload_n 3, 1) := by decide +kernel
theorem dL_needs_7 : decode cL_needs 7 = .ok (.iload 4, 2) := by decide +kernel
theorem dL_needs_9 : decode cL_needs 9 = .ok (.iload 5, 2) := by decide +kernel
theorem dL_needs_11 : decode cL_needs 11 = .ok (.invokevirtual 35, 3) := by decide +kernel
theorem dL_needs_14 : decode cL_needs 14 = .ok (.ifCond .eq 7, 3) := by decide +kernel
theorem dL_needs_17 : decode cL_needs 17 = .ok (.lconst 1, 1) := by decide +kernel
theorem dL_needs_18 : decode cL_needs 18 = .ok (.goto 4, 3) := by decide +kernel
theorem dL_needs_21 : decode cL_needs 21 = .ok (.lconst 0, 1) := by decide +kernel
theorem dL_needs_22 : decode cL_needs 22 = .ok (.lastore, 1) := by decide +kernel
theorem dL_needs_23 : decode cL_needs 23 = .ok (.goto 11, 3) := by decide +kernel
theorem dL_needs_26 : decode cL_needs 26 = .ok (.astore 7, 2) := by decide +kernel
theorem dL_needs_28 : decode cL_needs 28 = .ok (.iconst 1, 1) := by decide +kernel
theorem dL_needs_29 : decode cL_needs 29 = .ok (.ireturn, 1) := by decide +kernel
theorem dL_needs_30 : decode cL_needs 30 = .ok (.astore 7, 2) := by decide +kernel
theorem dL_needs_32 : decode cL_needs 32 = .ok (.iconst 2, 1) := by decide +kernel
theorem dL_needs_33 : decode cL_needs 33 = .ok (.ireturn, 1) := by decide +kernel
theorem dL_needs_34 : decode cL_needs 34 = .ok (.iconst 0, 1) := by decide +kernel
theorem dL_needs_35 : decode cL_needs 35 = .ok (.ireturn, 1) := by decide +kernel
theorem dL_note_0 : decode cL_note 0 = .ok (.aload_n 3, 1) := by decide +kernel
theorem dL_note_1 : decode cL_note 1 = .ok (.iconst 0, 1) := by decide +kernel
theorem dL_note_2 : decode cL_note 2 = .ok (.aload_n 0, 1) := by decide +kernel
theorem dL_note_3 : decode cL_note 3 = .ok (.iload_n 1, 1) := by decide +kernel
theorem dL_note_4 : decode cL_note 4 = .ok (.iload_n 2, 1) := by decide +kernel
theorem dL_note_5 : decode cL_note 5 = .ok (.invokevirtual 39, 3) := by decide +kernel
theorem dL_note_8 : decode cL_note 8 = .ok (.i2l, 1) := by decide +kernel
theorem dL_note_9 : decode cL_note 9 = .ok (.lastore, 1) := by decide +kernel
theorem dL_note_10 : decode cL_note 10 = .ok (.goto 15, 3) := by decide +kernel
theorem dL_note_13 : decode cL_note 13 = .ok (.astore 4, 2) := by decide +kernel
theorem dL_note_15 : decode cL_note 15 = .ok (.iconst 1, 1) := by decide +kernel
theorem dL_note_16 : decode cL_note 16 = .ok (.ireturn, 1) := by decide +kernel
theorem dL_note_17 : decode cL_note 17 = .ok (.astore 4, 2) := by decide +kernel
theorem dL_note_19 : decode cL_note 19 = .ok (.iconst 2, 1) := by decide +kernel
theorem dL_note_20 : decode cL_note 20 = .ok (.ireturn, 1) := by decide +kernel
theorem dL_note_21 : decode cL_note 21 = .ok (.astore 4, 2) := by decide +kernel
theorem dL_note_23 : decode cL_note 23 = .ok (.iconst 3, 1) := by decide +kernel
theorem dL_note_24 : decode cL_note 24 = .ok (.ireturn, 1) := by decide +kernel
theorem dL_note_25 : decode cL_note 25 = .ok (.iconst 0, 1) := by decide +kernel
theorem dL_note_26 : decode cL_note 26 = .ok (.ireturn, 1) := by decide +kernel
theorem dL_can_0 : decode cL_can 0 = .ok (.aload 4, 2) := by decide +kernel
theorem dL_can_2 : decode cL_can 2 = .ok (.iconst 0, 1) := by decide +kernel
theorem dL_can_3 : decode cL_can 3 = .ok (.aload_n 0, 1) := by decide +kernel
theorem dL_can_4 : decode cL_can 4 = .ok (.iload_n 1, 1) := by decide +kernel
theorem dL_can_5 : decode cL_can 5 = .ok (.iload_n 2, 1) := by decide +kernel
theorem dL_can_6 : decode cL_can 6 = .ok (.iload_n 3, 1) := by decide +kernel
theorem dL_can_7 : decode cL_can 7 = .ok (.invokevirtual 42, 3) := by decide +kernel
theorem dL_can_10 : decode cL_can 10 = .ok (.ifCond .eq 7, 3) := by decide +kernel
theorem dL_can_13 : decode cL_can 13 = .ok (.lconst 1, 1) := by decide +kernel
theorem dL_can_14 : decode cL_can 14 = .ok (.goto 4, 3) := by decide +kernel
theorem dL_can_17 : decode cL_can 17 = .ok (.lconst 0, 1) := by decide +kernel
theorem dL_can_18 : decode cL_can 18 = .ok (.lastore, 1) := by decide +kernel
theorem dL_can_19 : decode cL_can 19 = .ok (.goto 7, 3) := by decide +kernel
theorem dL_can_22 : decode cL_can 22 = .ok (.astore 5, 2) := by decide +kernel
theorem dL_can_24 : decode cL_can 24 = .ok (.iconst 1, 1) := by decide +kernel
theorem dL_can_25 : decode cL_can 25 = .ok (.ireturn, 1) := by decide +kernel
theorem dL_can_26 : decode cL_can 26 = .ok (.iconst 0, 1) := by decide +kernel
theorem dL_can_27 : decode cL_can 27 = .ok (.ireturn, 1) := by decide +kernel
theorem dL_fewest_0 : decode cL_fewest 0 = .ok (.aload_n 3, 1) := by decide +kernel
theorem dL_fewest_1 : decode cL_fewest 1 = .ok (.iconst 0, 1) := by decide +kernel
theorem dL_fewest_2 : decode cL_fewest 2 = .ok (.aload_n 0, 1) := by decide +kernel
theorem dL_fewest_3 : decode cL_fewest 3 = .ok (.iload_n 1, 1) := by decide +kernel
theorem dL_fewest_4 : decode cL_fewest 4 = .ok (.iload_n 2, 1) := by decide +kernel
theorem dL_fewest_5 : decode cL_fewest 5 = .ok (.invokevirtual 46, 3) := by decide +kernel
theorem dL_fewest_8 : decode cL_fewest 8 = .ok (.i2l, 1) := by decide +kernel
theorem dL_fewest_9 : decode cL_fewest 9 = .ok (.lastore, 1) := by decide +kernel
theorem dL_fewest_10 : decode cL_fewest 10 = .ok (.goto 7, 3) := by decide +kernel
theorem dL_fewest_13 : decode cL_fewest 13 = .ok (.astore 4, 2) := by decide +kernel
theorem dL_fewest_15 : decode cL_fewest 15 = .ok (.iconst 1, 1) := by decide +kernel
theorem dL_fewest_16 : decode cL_fewest 16 = .ok (.ireturn, 1) := by decide +kernel
theorem dL_fewest_17 : decode cL_fewest 17 = .ok (.iconst 0, 1) := by decide +kernel
theorem dL_fewest_18 : decode cL_fewest 18 = .ok (.ireturn, 1) := by decide +kernel
theorem dL_earliest_0 : decode cL_earliest 0 = .ok (.aload 5, 2) := by decide +kernel
theorem dL_earliest_2 : decode cL_earliest 2 = .ok (.iconst 0, 1) := by decide +kernel
theorem dL_earliest_3 : decode cL_earliest 3 = .ok (.aload_n 0, 1) := by decide +kernel
theorem dL_earliest_4 : decode cL_earliest 4 = .ok (.iload_n 1, 1) := by decide +kernel
theorem dL_earliest_5 : decode cL_earliest 5 = .ok (.iload_n 2, 1) := by decide +kernel
theorem dL_earliest_6 : decode cL_earliest 6 = .ok (.iload_n 3, 1) := by decide +kernel
theorem dL_earliest_7 : decode cL_earliest 7 = .ok (.iload 4, 2) := by decide +kernel
theorem dL_earliest_9 : decode cL_earliest 9 = .ok (.invokevirtual 50, 3) := by decide +kernel
theorem dL_earliest_12 : decode cL_earliest 12 = .ok (.i2l, 1) := by decide +kernel
theorem dL_earliest_13 : decode cL_earliest 13 = .ok (.lastore, 1) := by decide +kernel
theorem dL_earliest_14 : decode cL_earliest 14 = .ok (.goto 7, 3) := by decide +kernel
theorem dL_earliest_17 : decode cL_earliest 17 = .ok (.astore 6, 2) := by decide +kernel
theorem dL_earliest_19 : decode cL_earliest 19 = .ok (.iconst 1, 1) := by decide +kernel
theorem dL_earliest_20 : decode cL_earliest 20 = .ok (.ireturn, 1) := by decide +kernel
theorem dL_earliest_21 : decode cL_earliest 21 = .ok (.iconst 0, 1) := by decide +kernel
theorem dL_earliest_22 : decode cL_earliest 22 = .ok (.ireturn, 1) := by decide +kernel
theorem dL_may_0 : decode cL_may 0 = .ok (.aload 5, 2) := by decide +kernel
theorem dL_may_2 : decode cL_may 2 = .ok (.iconst 0, 1) := by decide +kernel
theorem dL_may_3 : decode cL_may 3 = .ok (.aload_n 0, 1) := by decide +kernel
theorem dL_may_4 : decode cL_may 4 = .ok (.iload_n 1, 1) := by decide +kernel
theorem dL_may_5 : decode cL_may 5 = .ok (.iload_n 2, 1) := by decide +kernel
theorem dL_may_6 : decode cL_may 6 = .ok (.iload_n 3, 1) := by decide +kernel
theorem dL_may_7 : decode cL_may 7 = .ok (.iload 4, 2) := by decide +kernel
theorem dL_may_9 : decode cL_may 9 = .ok (.invokevirtual 54, 3) := by decide +kernel
theorem dL_may_12 : decode cL_may 12 = .ok (.i2l, 1) := by decide +kernel
theorem dL_may_13 : decode cL_may 13 = .ok (.lastore, 1) := by decide +kernel
theorem dL_may_14 : decode cL_may 14 = .ok (.goto 11, 3) := by decide +kernel
theorem dL_may_17 : decode cL_may 17 = .ok (.astore 6, 2) := by decide +kernel
theorem dL_may_19 : decode cL_may 19 = .ok (.iconst 1, 1) := by decide +kernel
theorem dL_may_20 : decode cL_may 20 = .ok (.ireturn, 1) := by decide +kernel
theorem dL_may_21 : decode cL_may 21 = .ok (.astore 6, 2) := by decide +kernel
theorem dL_may_23 : decode cL_may 23 = .ok (.iconst 2, 1) := by decide +kernel
theorem dL_may_24 : decode cL_may 24 = .ok (.ireturn, 1) := by decide +kernel
theorem dL_may_25 : decode cL_may 25 = .ok (.iconst 0, 1) := by decide +kernel
theorem dL_may_26 : decode cL_may 26 = .ok (.ireturn, 1) := by decide +kernel
theorem dL_shut_0 : decode cL_shut 0 = .ok (.aload_n 2, 1) := by decide +kernel
theorem dL_shut_1 : decode cL_shut 1 = .ok (.iconst 0, 1) := by decide +kernel
theorem dL_shut_2 : decode cL_shut 2 = .ok (.aload_n 0, 1) := by decide +kernel
theorem dL_shut_3 : decode cL_shut 3 = .ok (.iload_n 1, 1) := by decide +kernel
theorem dL_shut_4 : decode cL_shut 4 = .ok (.invokevirtual 57, 3) := by decide +kernel
theorem dL_shut_7 : decode cL_shut 7 = .ok (.i2l, 1) := by decide +kernel
theorem dL_shut_8 : decode cL_shut 8 = .ok (.lastore, 1) := by decide +kernel
theorem dL_shut_9 : decode cL_shut 9 = .ok (.goto 6, 3) := by decide +kernel
theorem dL_shut_12 : decode cL_shut 12 = .ok (.astore_n 3, 1) := by decide +kernel
theorem dL_shut_13 : decode cL_shut 13 = .ok (.iconst 1, 1) := by decide +kernel
theorem dL_shut_14 : decode cL_shut 14 = .ok (.ireturn, 1) := by decide +kernel
theorem dL_shut_15 : decode cL_shut 15 = .ok (.iconst 0, 1) := by decide +kernel
theorem dL_shut_16 : decode cL_shut 16 = .ok (.ireturn, 1) := by decide +kernel
theorem dL_opens_0 : decode cL_opens 0 = .ok (.aload_n 3, 1) := by decide +kernel
theorem dL_opens_1 : decode cL_opens 1 = .ok (.iconst 0, 1) := by decide +kernel
theorem dL_opens_2 : decode cL_opens 2 = .ok (.aload_n 0, 1) := by decide +kernel
theorem dL_opens_3 : decode cL_opens 3 = .ok (.iload_n 1, 1) := by decide +kernel
theorem dL_opens_4 : decode cL_opens 4 = .ok (.iload_n 2, 1) := by decide +kernel
theorem dL_opens_5 : decode cL_opens 5 = .ok (.invokevirtual 61, 3) := by decide +kernel
theorem dL_opens_8 : decode cL_opens 8 = .ok (.i2l, 1) := by decide +kernel
theorem dL_opens_9 : decode cL_opens 9 = .ok (.lastore, 1) := by decide +kernel
theorem dL_opens_10 : decode cL_opens 10 = .ok (.goto 7, 3) := by decide +kernel
theorem dL_opens_13 : decode cL_opens 13 = .ok (.astore 4, 2) := by decide +kernel
theorem dL_opens_15 : decode cL_opens 15 = .ok (.iconst 1, 1) := by decide +kernel
theorem dL_opens_16 : decode cL_opens 16 = .ok (.ireturn, 1) := by decide +kernel
theorem dL_opens_17 : decode cL_opens 17 = .ok (.iconst 0, 1) := by decide +kernel
theorem dL_opens_18 : decode cL_opens 18 = .ok (.ireturn, 1) := by decide +kernel
theorem dL_trap_0 : decode cL_trap 0 = .ok (.aload 4, 2) := by decide +kernel
theorem dL_trap_2 : decode cL_trap 2 = .ok (.iconst 0, 1) := by decide +kernel
theorem dL_trap_3 : decode cL_trap 3 = .ok (.aload_n 0, 1) := by decide +kernel
theorem dL_trap_4 : decode cL_trap 4 = .ok (.iload_n 1, 1) := by decide +kernel
theorem dL_trap_5 : decode cL_trap 5 = .ok (.iload_n 2, 1) := by decide +kernel
theorem dL_trap_6 : decode cL_trap 6 = .ok (.iload_n 3, 1) := by decide +kernel
theorem dL_trap_7 : decode cL_trap 7 = .ok (.invokevirtual 64, 3) := by decide +kernel
theorem dL_trap_10 : decode cL_trap 10 = .ok (.i2l, 1) := by decide +kernel
theorem dL_trap_11 : decode cL_trap 11 = .ok (.lastore, 1) := by decide +kernel
theorem dL_trap_12 : decode cL_trap 12 = .ok (.goto 15, 3) := by decide +kernel
theorem dL_trap_15 : decode cL_trap 15 = .ok (.astore 5, 2) := by decide +kernel
theorem dL_trap_17 : decode cL_trap 17 = .ok (.iconst 1, 1) := by decide +kernel
theorem dL_trap_18 : decode cL_trap 18 = .ok (.ireturn, 1) := by decide +kernel
theorem dL_trap_19 : decode cL_trap 19 = .ok (.astore 5, 2) := by decide +kernel
theorem dL_trap_21 : decode cL_trap 21 = .ok (.iconst 2, 1) := by decide +kernel
theorem dL_trap_22 : decode cL_trap 22 = .ok (.ireturn, 1) := by decide +kernel
theorem dL_trap_23 : decode cL_trap 23 = .ok (.astore 5, 2) := by decide +kernel
theorem dL_trap_25 : decode cL_trap 25 = .ok (.iconst 3, 1) := by decide +kernel
theorem dL_trap_26 : decode cL_trap 26 = .ok (.ireturn, 1) := by decide +kernel
theorem dL_trap_27 : decode cL_trap 27 = .ok (.iconst 0, 1) := by decide +kernel
theorem dL_trap_28 : decode cL_trap 28 = .ok (.ireturn, 1) := by decide +kernel
theorem dL_story_0 : decode cL_story 0 = .ok (.aload 4, 2) := by decide +kernel
theorem dL_story_2 : decode cL_story 2 = .ok (.iconst 0, 1) := by decide +kernel
theorem dL_story_3 : decode cL_story 3 = .ok (.aload_n 0, 1) := by decide +kernel
theorem dL_story_4 : decode cL_story 4 = .ok (.iload_n 1, 1) := by decide +kernel
theorem dL_story_5 : decode cL_story 5 = .ok (.iload_n 2, 1) := by decide +kernel
theorem dL_story_6 : decode cL_story 6 = .ok (.iload_n 3, 1) := by decide +kernel
theorem dL_story_7 : decode cL_story 7 = .ok (.invokevirtual 67, 3) := by decide +kernel
theorem dL_story_10 : decode cL_story 10 = .ok (.i2l, 1) := by decide +kernel
theorem dL_story_11 : decode cL_story 11 = .ok (.lastore, 1) := by decide +kernel
theorem dL_story_12 : decode cL_story 12 = .ok (.goto 11, 3) := by decide +kernel
theorem dL_story_15 : decode cL_story 15 = .ok (.astore 5, 2) := by decide +kernel
theorem dL_story_17 : decode cL_story 17 = .ok (.iconst 1, 1) := by decide +kernel
theorem dL_story_18 : decode cL_story 18 = .ok (.ireturn, 1) := by decide +kernel
theorem dL_story_19 : decode cL_story 19 = .ok (.astore 5, 2) := by decide +kernel
theorem dL_story_21 : decode cL_story 21 = .ok (.iconst 2, 1) := by decide +kernel
theorem dL_story_22 : decode cL_story 22 = .ok (.ireturn, 1) := by decide +kernel
theorem dL_story_23 : decode cL_story 23 = .ok (.iconst 0, 1) := by decide +kernel
theorem dL_story_24 : decode cL_story 24 = .ok (.ireturn, 1) := by decide +kernel
theorem dL_night_0 : decode cL_night 0 = .ok (.aload 6, 2) := by decide +kernel
theorem dL_night_2 : decode cL_night 2 = .ok (.iconst 0, 1) := by decide +kernel
theorem dL_night_3 : decode cL_night 3 = .ok (.aload_n 0, 1) := by decide +kernel
theorem dL_night_4 : decode cL_night 4 = .ok (.iload_n 1, 1) := by decide +kernel
theorem dL_night_5 : decode cL_night 5 = .ok (.iload_n 2, 1) := by decide +kernel
theorem dL_night_6 : decode cL_night 6 = .ok (.iload_n 3, 1) := by decide +kernel
theorem dL_night_7 : decode cL_night 7 = .ok (.iload 4, 2) := by decide +kernel
theorem dL_night_9 : decode cL_night 9 = .ok (.iload 5, 2) := by decide +kernel
theorem dL_night_11 : decode cL_night 11 = .ok (.invokevirtual 70, 3) := by decide +kernel
theorem dL_night_14 : decode cL_night 14 = .ok (.i2l, 1) := by decide +kernel
theorem dL_night_15 : decode cL_night 15 = .ok (.lastore, 1) := by decide +kernel
theorem dL_night_16 : decode cL_night 16 = .ok (.goto 15, 3) := by decide +kernel
theorem dL_night_19 : decode cL_night 19 = .ok (.astore 7, 2) := by decide +kernel
theorem dL_night_21 : decode cL_night 21 = .ok (.iconst 1, 1) := by decide +kernel
theorem dL_night_22 : decode cL_night 22 = .ok (.ireturn, 1) := by decide +kernel
theorem dL_night_23 : decode cL_night 23 = .ok (.astore 7, 2) := by decide +kernel
theorem dL_night_25 : decode cL_night 25 = .ok (.iconst 2, 1) := by decide +kernel
theorem dL_night_26 : decode cL_night 26 = .ok (.ireturn, 1) := by decide +kernel
theorem dL_night_27 : decode cL_night 27 = .ok (.astore 7, 2) := by decide +kernel
theorem dL_night_29 : decode cL_night 29 = .ok (.iconst 3, 1) := by decide +kernel
theorem dL_night_30 : decode cL_night 30 = .ok (.ireturn, 1) := by decide +kernel
theorem dL_night_31 : decode cL_night 31 = .ok (.iconst 0, 1) := by decide +kernel
theorem dL_night_32 : decode cL_night 32 = .ok (.ireturn, 1) := by decide +kernel
theorem dL_odds_0 : decode cL_odds 0 = .ok (.aload_n 2, 1) := by decide +kernel
theorem dL_odds_1 : decode cL_odds 1 = .ok (.iconst 0, 1) := by decide +kernel
theorem dL_odds_2 : decode cL_odds 2 = .ok (.aload_n 0, 1) := by decide +kernel
theorem dL_odds_3 : decode cL_odds 3 = .ok (.iload_n 1, 1) := by decide +kernel
theorem dL_odds_4 : decode cL_odds 4 = .ok (.invokevirtual 74, 3) := by decide +kernel
theorem dL_odds_7 : decode cL_odds 7 = .ok (.i2l, 1) := by decide +kernel
theorem dL_odds_8 : decode cL_odds 8 = .ok (.lastore, 1) := by decide +kernel
theorem dL_odds_9 : decode cL_odds 9 = .ok (.goto 6, 3) := by decide +kernel
theorem dL_odds_12 : decode cL_odds 12 = .ok (.astore_n 3, 1) := by decide +kernel
theorem dL_odds_13 : decode cL_odds 13 = .ok (.iconst 1, 1) := by decide +kernel
theorem dL_odds_14 : decode cL_odds 14 = .ok (.ireturn, 1) := by decide +kernel
theorem dL_odds_15 : decode cL_odds 15 = .ok (.iconst 0, 1) := by decide +kernel
theorem dL_odds_16 : decode cL_odds 16 = .ok (.ireturn, 1) := by decide +kernel
theorem dL_oddsBy_0 : decode cL_oddsBy 0 = .ok (.aload_n 3, 1) := by decide +kernel
theorem dL_oddsBy_1 : decode cL_oddsBy 1 = .ok (.iconst 0, 1) := by decide +kernel
theorem dL_oddsBy_2 : decode cL_oddsBy 2 = .ok (.aload_n 0, 1) := by decide +kernel
theorem dL_oddsBy_3 : decode cL_oddsBy 3 = .ok (.iload_n 1, 1) := by decide +kernel
theorem dL_oddsBy_4 : decode cL_oddsBy 4 = .ok (.iload_n 2, 1) := by decide +kernel
theorem dL_oddsBy_5 : decode cL_oddsBy 5 = .ok (.invokevirtual 77, 3) := by decide +kernel
theorem dL_oddsBy_8 : decode cL_oddsBy 8 = .ok (.i2l, 1) := by decide +kernel
theorem dL_oddsBy_9 : decode cL_oddsBy 9 = .ok (.lastore, 1) := by decide +kernel
theorem dL_oddsBy_10 : decode cL_oddsBy 10 = .ok (.goto 11, 3) := by decide +kernel
theorem dL_oddsBy_13 : decode cL_oddsBy 13 = .ok (.astore 4, 2) := by decide +kernel
theorem dL_oddsBy_15 : decode cL_oddsBy 15 = .ok (.iconst 1, 1) := by decide +kernel
theorem dL_oddsBy_16 : decode cL_oddsBy 16 = .ok (.ireturn, 1) := by decide +kernel
theorem dL_oddsBy_17 : decode cL_oddsBy 17 = .ok (.astore 4, 2) := by decide +kernel
theorem dL_oddsBy_19 : decode cL_oddsBy 19 = .ok (.iconst 2, 1) := by decide +kernel
theorem dL_oddsBy_20 : decode cL_oddsBy 20 = .ok (.ireturn, 1) := by decide +kernel
theorem dL_oddsBy_21 : decode cL_oddsBy 21 = .ok (.iconst 0, 1) := by decide +kernel
theorem dL_oddsBy_22 : decode cL_oddsBy 22 = .ok (.ireturn, 1) := by decide +kernel
theorem dL_factor_0 : decode cL_factor 0 = .ok (.aload_n 3, 1) := by decide +kernel
theorem dL_factor_1 : decode cL_factor 1 = .ok (.iconst 0, 1) := by decide +kernel
theorem dL_factor_2 : decode cL_factor 2 = .ok (.aload_n 0, 1) := by decide +kernel
theorem dL_factor_3 : decode cL_factor 3 = .ok (.iload_n 1, 1) := by decide +kernel
theorem dL_factor_4 : decode cL_factor 4 = .ok (.iload_n 2, 1) := by decide +kernel
theorem dL_factor_5 : decode cL_factor 5 = .ok (.invokevirtual 80, 3) := by decide +kernel
theorem dL_factor_8 : decode cL_factor 8 = .ok (.lastore, 1) := by decide +kernel
theorem dL_factor_9 : decode cL_factor 9 = .ok (.goto 7, 3) := by decide +kernel
theorem dL_factor_12 : decode cL_factor 12 = .ok (.astore 4, 2) := by decide +kernel
theorem dL_factor_14 : decode cL_factor 14 = .ok (.iconst 1, 1) := by decide +kernel
theorem dL_factor_15 : decode cL_factor 15 = .ok (.ireturn, 1) := by decide +kernel
theorem dL_factor_16 : decode cL_factor 16 = .ok (.iconst 0, 1) := by decide +kernel
theorem dL_factor_17 : decode cL_factor 17 = .ok (.ireturn, 1) := by decide +kernel
theorem dL_says_0 : decode cL_says 0 = .ok (.aload_n 2, 1) := by decide +kernel
theorem dL_says_1 : decode cL_says 1 = .ok (.iconst 0, 1) := by decide +kernel
theorem dL_says_2 : decode cL_says 2 = .ok (.aload_n 0, 1) := by decide +kernel
theorem dL_says_3 : decode cL_says 3 = .ok (.iload_n 1, 1) := by decide +kernel
theorem dL_says_4 : decode cL_says 4 = .ok (.invokevirtual 84, 3) := by decide +kernel
theorem dL_says_7 : decode cL_says 7 = .ok (.lastore, 1) := by decide +kernel
theorem dL_says_8 : decode cL_says 8 = .ok (.goto 6, 3) := by decide +kernel
theorem dL_says_11 : decode cL_says 11 = .ok (.astore_n 3, 1) := by decide +kernel
theorem dL_says_12 : decode cL_says 12 = .ok (.iconst 1, 1) := by decide +kernel
theorem dL_says_13 : decode cL_says 13 = .ok (.ireturn, 1) := by decide +kernel
theorem dL_says_14 : decode cL_says 14 = .ok (.iconst 0, 1) := by decide +kernel
theorem dL_says_15 : decode cL_says 15 = .ok (.ireturn, 1) := by decide +kernel
theorem dL_with_0 : decode cL_with 0 = .ok (.aload_n 3, 1) := by decide +kernel
theorem dL_with_1 : decode cL_with 1 = .ok (.iconst 0, 1) := by decide +kernel
theorem dL_with_2 : decode cL_with 2 = .ok (.aload_n 0, 1) := by decide +kernel
theorem dL_with_3 : decode cL_with 3 = .ok (.iload_n 1, 1) := by decide +kernel
theorem dL_with_4 : decode cL_with 4 = .ok (.iload_n 2, 1) := by decide +kernel
theorem dL_with_5 : decode cL_with 5 = .ok (.invokevirtual 88, 3) := by decide +kernel
theorem dL_with_8 : decode cL_with 8 = .ok (.i2l, 1) := by decide +kernel
theorem dL_with_9 : decode cL_with 9 = .ok (.lastore, 1) := by decide +kernel
theorem dL_with_10 : decode cL_with 10 = .ok (.goto 11, 3) := by decide +kernel
theorem dL_with_13 : decode cL_with 13 = .ok (.astore 4, 2) := by decide +kernel
theorem dL_with_15 : decode cL_with 15 = .ok (.iconst 1, 1) := by decide +kernel
theorem dL_with_16 : decode cL_with 16 = .ok (.ireturn, 1) := by decide +kernel
theorem dL_with_17 : decode cL_with 17 = .ok (.astore 4, 2) := by decide +kernel
theorem dL_with_19 : decode cL_with 19 = .ok (.iconst 2, 1) := by decide +kernel
theorem dL_with_20 : decode cL_with 20 = .ok (.ireturn, 1) := by decide +kernel
theorem dL_with_21 : decode cL_with 21 = .ok (.iconst 0, 1) := by decide +kernel
theorem dL_with_22 : decode cL_with 22 = .ok (.ireturn, 1) := by decide +kernel
theorem dL_knew_0 : decode cL_knew 0 = .ok (.aload_n 0, 1) := by decide +kernel
theorem dL_knew_1 : decode cL_knew 1 = .ok (.iload_n 1, 1) := by decide +kernel
theorem dL_knew_2 : decode cL_knew 2 = .ok (.invokevirtual 91, 3) := by decide +kernel
theorem dL_knew_5 : decode cL_knew 5 = .ok (.goto 6, 3) := by decide +kernel
theorem dL_knew_8 : decode cL_knew 8 = .ok (.astore_n 2, 1) := by decide +kernel
theorem dL_knew_9 : decode cL_knew 9 = .ok (.iconst 1, 1) := by decide +kernel
theorem dL_knew_10 : decode cL_knew 10 = .ok (.ireturn, 1) := by decide +kernel
theorem dL_knew_11 : decode cL_knew 11 = .ok (.iconst 0, 1) := by decide +kernel
theorem dL_knew_12 : decode cL_knew 12 = .ok (.ireturn, 1) := by decide +kernel
theorem dL_told_0 : decode cL_told 0 = .ok (.aload 4, 2) := by decide +kernel
theorem dL_told_2 : decode cL_told 2 = .ok (.iconst 0, 1) := by decide +kernel
theorem dL_told_3 : decode cL_told 3 = .ok (.aload_n 0, 1) := by decide +kernel
theorem dL_told_4 : decode cL_told 4 = .ok (.iload_n 1, 1) := by decide +kernel
theorem dL_told_5 : decode cL_told 5 = .ok (.iload_n 2, 1) := by decide +kernel
theorem dL_told_6 : decode cL_told 6 = .ok (.iload_n 3, 1) := by decide +kernel
theorem dL_told_7 : decode cL_told 7 = .ok (.invokevirtual 95, 3) := by decide +kernel
theorem dL_told_10 : decode cL_told 10 = .ok (.i2l, 1) := by decide +kernel
theorem dL_told_11 : decode cL_told 11 = .ok (.lastore, 1) := by decide +kernel
theorem dL_told_12 : decode cL_told 12 = .ok (.goto 15, 3) := by decide +kernel
theorem dL_told_15 : decode cL_told 15 = .ok (.astore 5, 2) := by decide +kernel
theorem dL_told_17 : decode cL_told 17 = .ok (.iconst 1, 1) := by decide +kernel
theorem dL_told_18 : decode cL_told 18 = .ok (.ireturn, 1) := by decide +kernel
theorem dL_told_19 : decode cL_told 19 = .ok (.astore 5, 2) := by decide +kernel
theorem dL_told_21 : decode cL_told 21 = .ok (.iconst 2, 1) := by decide +kernel
theorem dL_told_22 : decode cL_told 22 = .ok (.ireturn, 1) := by decide +kernel
theorem dL_told_23 : decode cL_told 23 = .ok (.astore 5, 2) := by decide +kernel
theorem dL_told_25 : decode cL_told 25 = .ok (.iconst 3, 1) := by decide +kernel
theorem dL_told_26 : decode cL_told 26 = .ok (.ireturn, 1) := by decide +kernel
theorem dL_told_27 : decode cL_told 27 = .ok (.iconst 0, 1) := by decide +kernel
theorem dL_told_28 : decode cL_told 28 = .ok (.ireturn, 1) := by decide +kernel
theorem dL_knows_0 : decode cL_knows 0 = .ok (.aload_n 2, 1) := by decide +kernel
theorem dL_knows_1 : decode cL_knows 1 = .ok (.iconst 0, 1) := by decide +kernel
theorem dL_knows_2 : decode cL_knows 2 = .ok (.aload_n 0, 1) := by decide +kernel
theorem dL_knows_3 : decode cL_knows 3 = .ok (.iload_n 1, 1) := by decide +kernel
theorem dL_knows_4 : decode cL_knows 4 = .ok (.invokevirtual 98, 3) := by decide +kernel
theorem dL_knows_7 : decode cL_knows 7 = .ok (.i2l, 1) := by decide +kernel
theorem dL_knows_8 : decode cL_knows 8 = .ok (.lastore, 1) := by decide +kernel
theorem dL_knows_9 : decode cL_knows 9 = .ok (.goto 6, 3) := by decide +kernel
theorem dL_knows_12 : decode cL_knows 12 = .ok (.astore_n 3, 1) := by decide +kernel
theorem dL_knows_13 : decode cL_knows 13 = .ok (.iconst 1, 1) := by decide +kernel
theorem dL_knows_14 : decode cL_knows 14 = .ok (.ireturn, 1) := by decide +kernel
theorem dL_knows_15 : decode cL_knows 15 = .ok (.iconst 0, 1) := by decide +kernel
theorem dL_knows_16 : decode cL_knows 16 = .ok (.ireturn, 1) := by decide +kernel
theorem dL_whence_0 : decode cL_whence 0 = .ok (.aload_n 3, 1) := by decide +kernel
theorem dL_whence_1 : decode cL_whence 1 = .ok (.iconst 0, 1) := by decide +kernel
theorem dL_whence_2 : decode cL_whence 2 = .ok (.aload_n 0, 1) := by decide +kernel
theorem dL_whence_3 : decode cL_whence 3 = .ok (.iload_n 1, 1) := by decide +kernel
theorem dL_whence_4 : decode cL_whence 4 = .ok (.iload_n 2, 1) := by decide +kernel
theorem dL_whence_5 : decode cL_whence 5 = .ok (.invokevirtual 101, 3) := by decide +kernel
theorem dL_whence_8 : decode cL_whence 8 = .ok (.i2l, 1) := by decide +kernel
theorem dL_whence_9 : decode cL_whence 9 = .ok (.lastore, 1) := by decide +kernel
theorem dL_whence_10 : decode cL_whence 10 = .ok (.goto 7, 3) := by decide +kernel
theorem dL_whence_13 : decode cL_whence 13 = .ok (.astore 4, 2) := by decide +kernel
theorem dL_whence_15 : decode cL_whence 15 = .ok (.iconst 1, 1) := by decide +kernel
theorem dL_whence_16 : decode cL_whence 16 = .ok (.ireturn, 1) := by decide +kernel
theorem dL_whence_17 : decode cL_whence 17 = .ok (.iconst 0, 1) := by decide +kernel
theorem dL_whence_18 : decode cL_whence 18 = .ok (.ireturn, 1) := by decide +kernel
theorem dL_knot_0 : decode cL_knot 0 = .ok (.aload 5, 2) := by decide +kernel
theorem dL_knot_2 : decode cL_knot 2 = .ok (.iconst 0, 1) := by decide +kernel
theorem dL_knot_3 : decode cL_knot 3 = .ok (.aload_n 0, 1) := by decide +kernel
theorem dL_knot_4 : decode cL_knot 4 = .ok (.iload_n 1, 1) := by decide +kernel
theorem dL_knot_5 : decode cL_knot 5 = .ok (.iload_n 2, 1) := by decide +kernel
theorem dL_knot_6 : decode cL_knot 6 = .ok (.iload_n 3, 1) := by decide +kernel
theorem dL_knot_7 : decode cL_knot 7 = .ok (.iload 4, 2) := by decide +kernel
theorem dL_knot_9 : decode cL_knot 9 = .ok (.invokevirtual 104, 3) := by decide +kernel
theorem dL_knot_12 : decode cL_knot 12 = .ok (.i2l, 1) := by decide +kernel
theorem dL_knot_13 : decode cL_knot 13 = .ok (.lastore, 1) := by decide +kernel
theorem dL_knot_14 : decode cL_knot 14 = .ok (.goto 11, 3) := by decide +kernel
theorem dL_knot_17 : decode cL_knot 17 = .ok (.astore 6, 2) := by decide +kernel
theorem dL_knot_19 : decode cL_knot 19 = .ok (.iconst 1, 1) := by decide +kernel
theorem dL_knot_20 : decode cL_knot 20 = .ok (.ireturn, 1) := by decide +kernel
theorem dL_knot_21 : decode cL_knot 21 = .ok (.astore 6, 2) := by decide +kernel
theorem dL_knot_23 : decode cL_knot 23 = .ok (.iconst 2, 1) := by decide +kernel
theorem dL_knot_24 : decode cL_knot 24 = .ok (.ireturn, 1) := by decide +kernel
theorem dL_knot_25 : decode cL_knot 25 = .ok (.iconst 0, 1) := by decide +kernel
theorem dL_knot_26 : decode cL_knot 26 = .ok (.ireturn, 1) := by decide +kernel
theorem dL_rope_0 : decode cL_rope 0 = .ok (.aload_n 0, 1) := by decide +kernel
theorem dL_rope_1 : decode cL_rope 1 = .ok (.iload_n 1, 1) := by decide +kernel
theorem dL_rope_2 : decode cL_rope 2 = .ok (.invokevirtual 108, 3) := by decide +kernel
theorem dL_rope_5 : decode cL_rope 5 = .ok (.goto 6, 3) := by decide +kernel
theorem dL_rope_8 : decode cL_rope 8 = .ok (.astore_n 2, 1) := by decide +kernel
theorem dL_rope_9 : decode cL_rope 9 = .ok (.iconst 1, 1) := by decide +kernel
theorem dL_rope_10 : decode cL_rope 10 = .ok (.ireturn, 1) := by decide +kernel
theorem dL_rope_11 : decode cL_rope 11 = .ok (.iconst 0, 1) := by decide +kernel
theorem dL_rope_12 : decode cL_rope 12 = .ok (.ireturn, 1) := by decide +kernel
theorem dL_tale_0 : decode cL_tale 0 = .ok (.aload 4, 2) := by decide +kernel
theorem dL_tale_2 : decode cL_tale 2 = .ok (.iconst 0, 1) := by decide +kernel
theorem dL_tale_3 : decode cL_tale 3 = .ok (.aload_n 0, 1) := by decide +kernel
theorem dL_tale_4 : decode cL_tale 4 = .ok (.iload_n 1, 1) := by decide +kernel
theorem dL_tale_5 : decode cL_tale 5 = .ok (.iload_n 2, 1) := by decide +kernel
theorem dL_tale_6 : decode cL_tale 6 = .ok (.iload_n 3, 1) := by decide +kernel
theorem dL_tale_7 : decode cL_tale 7 = .ok (.invokevirtual 111, 3) := by decide +kernel
theorem dL_tale_10 : decode cL_tale 10 = .ok (.i2l, 1) := by decide +kernel
theorem dL_tale_11 : decode cL_tale 11 = .ok (.lastore, 1) := by decide +kernel
theorem dL_tale_12 : decode cL_tale 12 = .ok (.goto 7, 3) := by decide +kernel
theorem dL_tale_15 : decode cL_tale 15 = .ok (.astore 5, 2) := by decide +kernel
theorem dL_tale_17 : decode cL_tale 17 = .ok (.iconst 1, 1) := by decide +kernel
theorem dL_tale_18 : decode cL_tale 18 = .ok (.ireturn, 1) := by decide +kernel
theorem dL_tale_19 : decode cL_tale 19 = .ok (.iconst 0, 1) := by decide +kernel
theorem dL_tale_20 : decode cL_tale 20 = .ok (.ireturn, 1) := by decide +kernel
theorem dL_cold_0 : decode cL_cold 0 = .ok (.aload 4, 2) := by decide +kernel
theorem dL_cold_2 : decode cL_cold 2 = .ok (.iconst 0, 1) := by decide +kernel
theorem dL_cold_3 : decode cL_cold 3 = .ok (.aload_n 0, 1) := by decide +kernel
theorem dL_cold_4 : decode cL_cold 4 = .ok (.iload_n 1, 1) := by decide +kernel
theorem dL_cold_5 : decode cL_cold 5 = .ok (.iload_n 2, 1) := by decide +kernel
theorem dL_cold_6 : decode cL_cold 6 = .ok (.iload_n 3, 1) := by decide +kernel
theorem dL_cold_7 : decode cL_cold 7 = .ok (.invokevirtual 114, 3) := by decide +kernel
theorem dL_cold_10 : decode cL_cold 10 = .ok (.i2l, 1) := by decide +kernel
theorem dL_cold_11 : decode cL_cold 11 = .ok (.lastore, 1) := by decide +kernel
theorem dL_cold_12 : decode cL_cold 12 = .ok (.goto 7, 3) := by decide +kernel
theorem dL_cold_15 : decode cL_cold 15 = .ok (.astore 5, 2) := by decide +kernel
theorem dL_cold_17 : decode cL_cold 17 = .ok (.iconst 1, 1) := by decide +kernel
theorem dL_cold_18 : decode cL_cold 18 = .ok (.ireturn, 1) := by decide +kernel
theorem dL_cold_19 : decode cL_cold 19 = .ok (.iconst 0, 1) := by decide +kernel
theorem dL_cold_20 : decode cL_cold 20 = .ok (.ireturn, 1) := by decide +kernel
