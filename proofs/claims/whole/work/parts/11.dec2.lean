theorem dX10_init_0 : decode cX10_init 0 = .ok (.aload_n 0, 1) := by decide +kernel
theorem dX10_init_1 : decode cX10_init 1 = .ok (.invokespecial 3, 3) := by decide +kernel
theorem dX10_init_4 : decode cX10_init 4 = .ok (.aload_n 0, 1) := by decide +kernel
theorem dX10_init_5 : decode cX10_init 5 = .ok (.sipush 400, 3) := by decide +kernel
theorem dX10_init_8 : decode cX10_init 8 = .ok (.newarray .byte, 2) := by decide +kernel
theorem dX10_init_10 : decode cX10_init 10 = .ok (.putfield 9, 3) := by decide +kernel
theorem dX10_init_13 : decode cX10_init 13 = .ok (.aload_n 0, 1) := by decide +kernel
theorem dX10_init_14 : decode cX10_init 14 = .ok (.new 13, 3) := by decide +kernel
theorem dX10_init_17 : decode cX10_init 17 = .ok (.dup, 1) := by decide +kernel
theorem dX10_init_18 : decode cX10_init 18 = .ok (.invokespecial 15, 3) := by decide +kernel
theorem dX10_init_21 : decode cX10_init 21 = .ok (.putfield 16, 3) := by decide +kernel
theorem dX10_init_24 : decode cX10_init 24 = .ok (.aload_n 0, 1) := by decide +kernel
theorem dX10_init_25 : decode cX10_init 25 = .ok (.new 20, 3) := by decide +kernel
theorem dX10_init_28 : decode cX10_init 28 = .ok (.dup, 1) := by decide +kernel
theorem dX10_init_29 : decode cX10_init 29 = .ok (.invokespecial 22, 3) := by decide +kernel
theorem dX10_init_32 : decode cX10_init 32 = .ok (.putfield 23, 3) := by decide +kernel
theorem dX10_init_35 : decode cX10_init 35 = .ok (.aload_n 0, 1) := by decide +kernel
theorem dX10_init_36 : decode cX10_init 36 = .ok (.new 20, 3) := by decide +kernel
theorem dX10_init_39 : decode cX10_init 39 = .ok (.dup, 1) := by decide +kernel
theorem dX10_init_40 : decode cX10_init 40 = .ok (.invokespecial 22, 3) := by decide +kernel
theorem dX10_init_43 : decode cX10_init 43 = .ok (.putfield 27, 3) := by decide +kernel
theorem dX10_init_46 : decode cX10_init 46 = .ok (.aload_n 0, 1) := by decide +kernel
theorem dX10_init_47 : decode cX10_init 47 = .ok (.new 30, 3) := by decide +kernel
theorem dX10_init_50 : decode cX10_init 50 = .ok (.dup, 1) := by decide +kernel
theorem dX10_init_51 : decode cX10_init 51 = .ok (.aload_n 0, 1) := by decide +kernel
theorem dX10_init_52 : decode cX10_init 52 = .ok (.getfield 23, 3) := by decide +kernel
theorem dX10_init_55 : decode cX10_init 55 = .ok (.invokespecial 32, 3) := by decide +kernel
theorem dX10_init_58 : decode cX10_init 58 = .ok (.putfield 35, 3) := by decide +kernel
theorem dX10_init_61 : decode cX10_init 61 = .ok (.aload_n 0, 1) := by decide +kernel
theorem dX10_init_62 : decode cX10_init 62 = .ok (.new 39, 3) := by decide +kernel
theorem dX10_init_65 : decode cX10_init 65 = .ok (.dup, 1) := by decide +kernel
theorem dX10_init_66 : decode cX10_init 66 = .ok (.aload_n 0, 1) := by decide +kernel
theorem dX10_init_67 : decode cX10_init 67 = .ok (.getfield 23, 3) := by decide +kernel
theorem dX10_init_70 : decode cX10_init 70 = .ok (.invokespecial 41, 3) := by decide +kernel
theorem dX10_init_73 : decode cX10_init 73 = .ok (.putfield 42, 3) := by decide +kernel
theorem dX10_init_76 : decode cX10_init 76 = .ok (.aload_n 0, 1) := by decide +kernel
theorem dX10_init_77 : decode cX10_init 77 = .ok (.iconst 5, 1) := by decide +kernel
theorem dX10_init_78 : decode cX10_init 78 = .ok (.newarray .long, 2) := by decide +kernel
theorem dX10_init_80 : decode cX10_init 80 = .ok (.putfield 46, 3) := by decide +kernel
theorem dX10_init_83 : decode cX10_init 83 = .ok (.aload_n 0, 1) := by decide +kernel
theorem dX10_init_84 : decode cX10_init 84 = .ok (.iconst 5, 1) := by decide +kernel
theorem dX10_init_85 : decode cX10_init 85 = .ok (.newarray .int, 2) := by decide +kernel
theorem dX10_init_87 : decode cX10_init 87 = .ok (.putfield 50, 3) := by decide +kernel
theorem dX10_init_90 : decode cX10_init 90 = .ok (.aload_n 0, 1) := by decide +kernel
theorem dX10_init_91 : decode cX10_init 91 = .ok (.bipush 8, 2) := by decide +kernel
theorem dX10_init_93 : decode cX10_init 93 = .ok (.newarray .int, 2) := by decide +kernel
theorem dX10_init_95 : decode cX10_init 95 = .ok (.putfield 54, 3) := by decide +kernel
theorem dX10_init_98 : decode cX10_init 98 = .ok (.return_, 1) := by decide +kernel
theorem dX10_feed_0 : decode cX10_feed 0 = .ok (.aload_n 0, 1) := by decide +kernel
theorem dX10_feed_1 : decode cX10_feed 1 = .ok (.getfield 57, 3) := by decide +kernel
theorem dX10_feed_4 : decode cX10_feed 4 = .ok (.sipush 380, 3) := by decide +kernel
theorem dX10_feed_7 : decode cX10_feed 7 = .ok (.if_icmp .le 5, 3) := by decide +kernel
theorem dX10_feed_10 : decode cX10_feed 10 = .ok (.iconst (-1), 1) := by decide +kernel
theorem dX10_feed_11 : decode cX10_feed 11 = .ok (.ireturn, 1) := by decide +kernel
theorem dX10_feed_12 : decode cX10_feed 12 = .ok (.aload_n 0, 1) := by decide +kernel
theorem dX10_feed_13 : decode cX10_feed 13 = .ok (.iload_n 1, 1) := by decide +kernel
theorem dX10_feed_14 : decode cX10_feed 14 = .ok (.invokevirtual 61, 3) := by decide +kernel
theorem dX10_feed_17 : decode cX10_feed 17 = .ok (.aload_n 0, 1) := by decide +kernel
theorem dX10_feed_18 : decode cX10_feed 18 = .ok (.iload_n 2, 1) := by decide +kernel
theorem dX10_feed_19 : decode cX10_feed 19 = .ok (.invokevirtual 61, 3) := by decide +kernel
theorem dX10_feed_22 : decode cX10_feed 22 = .ok (.aload_n 0, 1) := by decide +kernel
theorem dX10_feed_23 : decode cX10_feed 23 = .ok (.iload_n 3, 1) := by decide +kernel
theorem dX10_feed_24 : decode cX10_feed 24 = .ok (.invokevirtual 61, 3) := by decide +kernel
theorem dX10_feed_27 : decode cX10_feed 27 = .ok (.aload_n 0, 1) := by decide +kernel
theorem dX10_feed_28 : decode cX10_feed 28 = .ok (.iload 4, 2) := by decide +kernel
theorem dX10_feed_30 : decode cX10_feed 30 = .ok (.invokevirtual 61, 3) := by decide +kernel
theorem dX10_feed_33 : decode cX10_feed 33 = .ok (.aload_n 0, 1) := by decide +kernel
theorem dX10_feed_34 : decode cX10_feed 34 = .ok (.iload 5, 2) := by decide +kernel
theorem dX10_feed_36 : decode cX10_feed 36 = .ok (.invokevirtual 61, 3) := by decide +kernel
theorem dX10_feed_39 : decode cX10_feed 39 = .ok (.aload_n 0, 1) := by decide +kernel
theorem dX10_feed_40 : decode cX10_feed 40 = .ok (.getfield 57, 3) := by decide +kernel
theorem dX10_feed_43 : decode cX10_feed 43 = .ok (.ireturn, 1) := by decide +kernel
theorem dX10_end_0 : decode cX10_end 0 = .ok (.iload_n 1, 1) := by decide +kernel
theorem dX10_end_1 : decode cX10_end 1 = .ok (.ifCond .lt 11, 3) := by decide +kernel
theorem dX10_end_4 : decode cX10_end 4 = .ok (.iload_n 1, 1) := by decide +kernel
theorem dX10_end_5 : decode cX10_end 5 = .ok (.aload_n 0, 1) := by decide +kernel
theorem dX10_end_6 : decode cX10_end 6 = .ok (.getfield 57, 3) := by decide +kernel
theorem dX10_end_9 : decode cX10_end 9 = .ok (.if_icmp .le 5, 3) := by decide +kernel
theorem dX10_end_12 : decode cX10_end 12 = .ok (.iconst 0, 1) := by decide +kernel
theorem dX10_end_13 : decode cX10_end 13 = .ok (.ireturn, 1) := by decide +kernel
theorem dX10_end_14 : decode cX10_end 14 = .ok (.aload_n 0, 1) := by decide +kernel
theorem dX10_end_15 : decode cX10_end 15 = .ok (.iload_n 1, 1) := by decide +kernel
theorem dX10_end_16 : decode cX10_end 16 = .ok (.putfield 57, 3) := by decide +kernel
theorem dX10_end_19 : decode cX10_end 19 = .ok (.iconst 1, 1) := by decide +kernel
theorem dX10_end_20 : decode cX10_end 20 = .ok (.ireturn, 1) := by decide +kernel
theorem dX10_person_0 : decode cX10_person 0 = .ok (.iload_n 1, 1) := by decide +kernel
theorem dX10_person_1 : decode cX10_person 1 = .ok (.iconst 0, 1) := by decide +kernel
theorem dX10_person_2 : decode cX10_person 2 = .ok (.bipush 9, 2) := by decide +kernel
theorem dX10_person_4 : decode cX10_person 4 = .ok (.invokestatic 65, 3) := by decide +kernel
theorem dX10_person_7 : decode cX10_person 7 = .ok (.ifCond .eq 18, 3) := by decide +kernel
theorem dX10_person_10 : decode cX10_person 10 = .ok (.iload_n 2, 1) := by decide +kernel
theorem dX10_person_11 : decode cX10_person 11 = .ok (.iconst 0, 1) := by decide +kernel
theorem dX10_person_12 : decode cX10_person 12 = .ok (.sipush 400, 3) := by decide +kernel
theorem dX10_person_15 : decode cX10_person 15 = .ok (.invokestatic 65, 3) := by decide +kernel
theorem dX10_person_18 : decode cX10_person 18 = .ok (.ifCond .eq 7, 3) := by decide +kernel
theorem dX10_person_21 : decode cX10_person 21 = .ok (.iconst 1, 1) := by decide +kernel
theorem dX10_person_22 : decode cX10_person 22 = .ok (.goto 4, 3) := by decide +kernel
theorem dX10_person_25 : decode cX10_person 25 = .ok (.iconst 0, 1) := by decide +kernel
theorem dX10_person_26 : decode cX10_person 26 = .ok (.invokestatic 69, 3) := by decide +kernel
theorem dX10_person_29 : decode cX10_person 29 = .ok (.aload_n 0, 1) := by decide +kernel
theorem dX10_person_30 : decode cX10_person 30 = .ok (.getfield 23, 3) := by decide +kernel
theorem dX10_person_33 : decode cX10_person 33 = .ok (.getfield 73, 3) := by decide +kernel
theorem dX10_person_36 : decode cX10_person 36 = .ok (.invokevirtual 77, 3) := by decide +kernel
theorem dX10_person_39 : decode cX10_person 39 = .ok (.invokestatic 83, 3) := by decide +kernel
theorem dX10_person_42 : decode cX10_person 42 = .ok (.aload_n 0, 1) := by decide +kernel
theorem dX10_person_43 : decode cX10_person 43 = .ok (.getfield 35, 3) := by decide +kernel
theorem dX10_person_46 : decode cX10_person 46 = .ok (.invokevirtual 86, 3) := by decide +kernel
theorem dX10_person_49 : decode cX10_person 49 = .ok (.aload_n 0, 1) := by decide +kernel
theorem dX10_person_50 : decode cX10_person 50 = .ok (.getfield 23, 3) := by decide +kernel
theorem dX10_person_53 : decode cX10_person 53 = .ok (.getfield 73, 3) := by decide +kernel
theorem dX10_person_56 : decode cX10_person 56 = .ok (.iload_n 1, 1) := by decide +kernel
theorem dX10_person_57 : decode cX10_person 57 = .ok (.iload_n 2, 1) := by decide +kernel
theorem dX10_person_58 : decode cX10_person 58 = .ok (.iconst 0, 1) := by decide +kernel
theorem dX10_person_59 : decode cX10_person 59 = .ok (.iconst 0, 1) := by decide +kernel
theorem dX10_person_60 : decode cX10_person 60 = .ok (.iconst 0, 1) := by decide +kernel
theorem dX10_person_61 : decode cX10_person 61 = .ok (.invokevirtual 89, 3) := by decide +kernel
theorem dX10_person_64 : decode cX10_person 64 = .ok (.ireturn, 1) := by decide +kernel
theorem dX10_rule_0 : decode cX10_rule 0 = .ok (.aload_n 0, 1) := by decide +kernel
theorem dX10_rule_1 : decode cX10_rule 1 = .ok (.getfield 16, 3) := by decide +kernel
theorem dX10_rule_4 : decode cX10_rule 4 = .ok (.aload_n 0, 1) := by decide +kernel
theorem dX10_rule_5 : decode cX10_rule 5 = .ok (.getfield 9, 3) := by decide +kernel
theorem dX10_rule_8 : decode cX10_rule 8 = .ok (.aload_n 0, 1) := by decide +kernel
theorem dX10_rule_9 : decode cX10_rule 9 = .ok (.getfield 57, 3) := by decide +kernel
theorem dX10_rule_12 : decode cX10_rule 12 = .ok (.iconst 1, 1) := by decide +kernel
theorem dX10_rule_13 : decode cX10_rule 13 = .ok (.invokevirtual 93, 3) := by decide +kernel
theorem dX10_rule_16 : decode cX10_rule 16 = .ok (.istore_n 1, 1) := by decide +kernel
theorem dX10_rule_17 : decode cX10_rule 17 = .ok (.aload_n 0, 1) := by decide +kernel
theorem dX10_rule_18 : decode cX10_rule 18 = .ok (.iconst 0, 1) := by decide +kernel
theorem dX10_rule_19 : decode cX10_rule 19 = .ok (.putfield 57, 3) := by decide +kernel
theorem dX10_rule_22 : decode cX10_rule 22 = .ok (.iload_n 1, 1) := by decide +kernel
theorem dX10_rule_23 : decode cX10_rule 23 = .ok (.invokestatic 69, 3) := by decide +kernel
theorem dX10_rule_26 : decode cX10_rule 26 = .ok (.aload_n 0, 1) := by decide +kernel
theorem dX10_rule_27 : decode cX10_rule 27 = .ok (.getfield 23, 3) := by decide +kernel
theorem dX10_rule_30 : decode cX10_rule 30 = .ok (.getfield 97, 3) := by decide +kernel
theorem dX10_rule_33 : decode cX10_rule 33 = .ok (.iconst 4, 1) := by decide +kernel
theorem dX10_rule_34 : decode cX10_rule 34 = .ok (.if_icmp .ge 7, 3) := by decide +kernel
theorem dX10_rule_37 : decode cX10_rule 37 = .ok (.iconst 1, 1) := by decide +kernel
theorem dX10_rule_38 : decode cX10_rule 38 = .ok (.goto 4, 3) := by decide +kernel
theorem dX10_rule_41 : decode cX10_rule 41 = .ok (.iconst 0, 1) := by decide +kernel
theorem dX10_rule_42 : decode cX10_rule 42 = .ok (.invokestatic 83, 3) := by decide +kernel
theorem dX10_rule_45 : decode cX10_rule 45 = .ok (.aload_n 0, 1) := by decide +kernel
theorem dX10_rule_46 : decode cX10_rule 46 = .ok (.getfield 23, 3) := by decide +kernel
theorem dX10_rule_49 : decode cX10_rule 49 = .ok (.aload_n 0, 1) := by decide +kernel
theorem dX10_rule_50 : decode cX10_rule 50 = .ok (.getfield 16, 3) := by decide +kernel
theorem dX10_rule_53 : decode cX10_rule 53 = .ok (.invokevirtual 100, 3) := by decide +kernel
theorem dX10_rule_56 : decode cX10_rule 56 = .ok (.invokevirtual 104, 3) := by decide +kernel
theorem dX10_rule_59 : decode cX10_rule 59 = .ok (.ireturn, 1) := by decide +kernel
theorem dX10_way_0 : decode cX10_way 0 = .ok (.aload_n 0, 1) := by decide +kernel
theorem dX10_way_1 : decode cX10_way 1 = .ok (.getfield 16, 3) := by decide +kernel
theorem dX10_way_4 : decode cX10_way 4 = .ok (.aload_n 0, 1) := by decide +kernel
theorem dX10_way_5 : decode cX10_way 5 = .ok (.getfield 9, 3) := by decide +kernel
theorem dX10_way_8 : decode cX10_way 8 = .ok (.aload_n 0, 1) := by decide +kernel
theorem dX10_way_9 : decode cX10_way 9 = .ok (.getfield 57, 3) := by decide +kernel
theorem dX10_way_12 : decode cX10_way 12 = .ok (.iconst 0, 1) := by decide +kernel
theorem dX10_way_13 : decode cX10_way 13 = .ok (.invokevirtual 93, 3) := by decide +kernel
theorem dX10_way_16 : decode cX10_way 16 = .ok (.istore_n 1, 1) := by decide +kernel
theorem dX10_way_17 : decode cX10_way 17 = .ok (.aload_n 0, 1) := by decide +kernel
theorem dX10_way_18 : decode cX10_way 18 = .ok (.iconst 0, 1) := by decide +kernel
theorem dX10_way_19 : decode cX10_way 19 = .ok (.putfield 57, 3) := by decide +kernel
theorem dX10_way_22 : decode cX10_way 22 = .ok (.iload_n 1, 1) := by decide +kernel
theorem dX10_way_23 : decode cX10_way 23 = .ok (.invokestatic 69, 3) := by decide +kernel
theorem dX10_way_26 : decode cX10_way 26 = .ok (.aload_n 0, 1) := by decide +kernel
theorem dX10_way_27 : decode cX10_way 27 = .ok (.getfield 23, 3) := by decide +kernel
theorem dX10_way_30 : decode cX10_way 30 = .ok (.getfield 108, 3) := by decide +kernel
theorem dX10_way_33 : decode cX10_way 33 = .ok (.bipush 6, 2) := by decide +kernel
theorem dX10_way_35 : decode cX10_way 35 = .ok (.if_icmp .ge 7, 3) := by decide +kernel
theorem dX10_way_38 : decode cX10_way 38 = .ok (.iconst 1, 1) := by decide +kernel
theorem dX10_way_39 : decode cX10_way 39 = .ok (.goto 4, 3) := by decide +kernel
theorem dX10_way_42 : decode cX10_way 42 = .ok (.iconst 0, 1) := by decide +kernel
theorem dX10_way_43 : decode cX10_way 43 = .ok (.invokestatic 83, 3) := by decide +kernel
theorem dX10_way_46 : decode cX10_way 46 = .ok (.aload_n 0, 1) := by decide +kernel
theorem dX10_way_47 : decode cX10_way 47 = .ok (.getfield 23, 3) := by decide +kernel
theorem dX10_way_50 : decode cX10_way 50 = .ok (.aload_n 0, 1) := by decide +kernel
theorem dX10_way_51 : decode cX10_way 51 = .ok (.getfield 16, 3) := by decide +kernel
theorem dX10_way_54 : decode cX10_way 54 = .ok (.invokevirtual 111, 3) := by decide +kernel
theorem dX10_way_57 : decode cX10_way 57 = .ok (.invokevirtual 115, 3) := by decide +kernel
theorem dX10_way_60 : decode cX10_way 60 = .ok (.ireturn, 1) := by decide +kernel
theorem dX10_fault_0 : decode cX10_fault 0 = .ok (.aload_n 0, 1) := by decide +kernel
theorem dX10_fault_1 : decode cX10_fault 1 = .ok (.getfield 16, 3) := by decide +kernel
theorem dX10_fault_4 : decode cX10_fault 4 = .ok (.getfield 119, 3) := by decide +kernel
theorem dX10_fault_7 : decode cX10_fault 7 = .ok (.ireturn, 1) := by decide +kernel
theorem dX10_thing_0 : decode cX10_thing 0 = .ok (.iload_n 1, 1) := by decide +kernel
theorem dX10_thing_1 : decode cX10_thing 1 = .ok (.iconst 0, 1) := by decide +kernel
theorem dX10_thing_2 : decode cX10_thing 2 = .ok (.iconst 2, 1) := by decide +kernel
theorem dX10_thing_3 : decode cX10_thing 3 = .ok (.invokestatic 65, 3) := by decide +kernel
theorem dX10_thing_6 : decode cX10_thing 6 = .ok (.ifCond .eq 26, 3) := by decide +kernel
theorem dX10_thing_9 : decode cX10_thing 9 = .ok (.iload_n 2, 1) := by decide +kernel
theorem dX10_thing_10 : decode cX10_thing 10 = .ok (.iconst 0, 1) := by decide +kernel
theorem dX10_thing_11 : decode cX10_thing 11 = .ok (.iconst 2, 1) := by decide +kernel
theorem dX10_thing_12 : decode cX10_thing 12 = .ok (.invokestatic 65, 3) := by decide +kernel
theorem dX10_thing_15 : decode cX10_thing 15 = .ok (.ifCond .eq 17, 3) := by decide +kernel
theorem dX10_thing_18 : decode cX10_thing 18 = .ok (.iload_n 3, 1) := by decide +kernel
theorem dX10_thing_19 : decode cX10_thing 19 = .ok (.iconst 0, 1) := by decide +kernel
theorem dX10_thing_20 : decode cX10_thing 20 = .ok (.bipush 9, 2) := by decide +kernel
theorem dX10_thing_22 : decode cX10_thing 22 = .ok (.invokestatic 65, 3) := by decide +kernel
theorem dX10_thing_25 : decode cX10_thing 25 = .ok (.ifCond .eq 7, 3) := by decide +kernel
theorem dX10_thing_28 : decode cX10_thing 28 = .ok (.iconst 1, 1) := by decide +kernel
theorem dX10_thing_29 : decode cX10_thing 29 = .ok (.goto 4, 3) := by decide +kernel
theorem dX10_thing_32 : decode cX10_thing 32 = .ok (.iconst 0, 1) := by decide +kernel
theorem dX10_thing_33 : decode cX10_thing 33 = .ok (.invokestatic 69, 3) := by decide +kernel
theorem dX10_thing_36 : decode cX10_thing 36 = .ok (.aload_n 0, 1) := by decide +kernel
theorem dX10_thing_37 : decode cX10_thing 37 = .ok (.getfield 23, 3) := by decide +kernel
theorem dX10_thing_40 : decode cX10_thing 40 = .ok (.getfield 122, 3) := by decide +kernel
theorem dX10_thing_43 : decode cX10_thing 43 = .ok (.invokevirtual 77, 3) := by decide +kernel
theorem dX10_thing_46 : decode cX10_thing 46 = .ok (.invokestatic 83, 3) := by decide +kernel
theorem dX10_thing_49 : decode cX10_thing 49 = .ok (.aload_n 0, 1) := by decide +kernel
theorem dX10_thing_50 : decode cX10_thing 50 = .ok (.getfield 23, 3) := by decide +kernel
theorem dX10_thing_53 : decode cX10_thing 53 = .ok (.getfield 122, 3) := by decide +kernel
theorem dX10_thing_56 : decode cX10_thing 56 = .ok (.iload_n 1, 1) := by decide +kernel
theorem dX10_thing_57 : decode cX10_thing 57 = .ok (.iload_n 2, 1) := by decide +kernel
theorem dX10_thing_58 : decode cX10_thing 58 = .ok (.iload_n 3, 1) := by decide +kernel
theorem dX10_thing_59 : decode cX10_thing 59 = .ok (.iconst 0, 1) := by decide +kernel
theorem dX10_thing_60 : decode cX10_thing 60 = .ok (.iconst 0, 1) := by decide +kernel
theorem dX10_thing_61 : decode cX10_thing 61 = .ok (.invokevirtual 89, 3) := by decide +kernel
theorem dX10_thing_64 : decode cX10_thing 64 = .ok (.ireturn, 1) := by decide +kernel
theorem dX10_look_0 : decode cX10_look 0 = .ok (.iload_n 1, 1) := by decide +kernel
theorem dX10_look_1 : decode cX10_look 1 = .ok (.aload_n 0, 1) := by decide +kernel
theorem dX10_look_2 : decode cX10_look 2 = .ok (.getfield 23, 3) := by decide +kernel
theorem dX10_look_5 : decode cX10_look 5 = .ok (.getfield 97, 3) := by decide +kernel
theorem dX10_look_8 : decode cX10_look 8 = .ok (.invokestatic 125, 3) := by decide +kernel
theorem dX10_look_11 : decode cX10_look 11 = .ok (.iload_n 2, 1) := by decide +kernel
theorem dX10_look_12 : decode cX10_look 12 = .ok (.iconst 4, 1) := by decide +kernel
theorem dX10_look_13 : decode cX10_look 13 = .ok (.invokestatic 129, 3) := by decide +kernel
theorem dX10_look_16 : decode cX10_look 16 = .ok (.aload_n 0, 1) := by decide +kernel
theorem dX10_look_17 : decode cX10_look 17 = .ok (.getfield 35, 3) := by decide +kernel
theorem dX10_look_20 : decode cX10_look 20 = .ok (.getfield 132, 3) := by decide +kernel
theorem dX10_look_23 : decode cX10_look 23 = .ok (.astore_n 3, 1) := by decide +kernel
theorem dX10_look_24 : decode cX10_look 24 = .ok (.aload_n 3, 1) := by decide +kernel
theorem dX10_look_25 : decode cX10_look 25 = .ok (.aload_n 0, 1) := by decide +kernel
theorem dX10_look_26 : decode cX10_look 26 = .ok (.getfield 23, 3) := by decide +kernel
theorem dX10_look_29 : decode cX10_look 29 = .ok (.getfield 136, 3) := by decide +kernel
theorem dX10_look_32 : decode cX10_look 32 = .ok (.iload_n 1, 1) := by decide +kernel
theorem dX10_look_33 : decode cX10_look 33 = .ok (.aaload, 1) := by decide +kernel
theorem dX10_look_34 : decode cX10_look 34 = .ok (.iconst (-1), 1) := by decide +kernel
theorem dX10_look_35 : decode cX10_look 35 = .ok (.aload_n 0, 1) := by decide +kernel
theorem dX10_look_36 : decode cX10_look 36 = .ok (.getfield 23, 3) := by decide +kernel
theorem dX10_look_39 : decode cX10_look 39 = .ok (.getfield 73, 3) := by decide +kernel
theorem dX10_look_42 : decode cX10_look 42 = .ok (.invokevirtual 140, 3) := by decide +kernel
theorem dX10_look_45 : decode cX10_look 45 = .ok (.iload_n 2, 1) := by decide +kernel
theorem dX10_look_46 : decode cX10_look 46 = .ok (.tableswitch 58 0 3 #[30, 35, 40, 53], 30) := by decide +kernel
theorem dX10_look_76 : decode cX10_look 76 = .ok (.aload_n 3, 1) := by decide +kernel
theorem dX10_look_77 : decode cX10_look 77 = .ok (.getfield 146, 3) := by decide +kernel
theorem dX10_look_80 : decode cX10_look 80 = .ok (.ireturn, 1) := by decide +kernel
theorem dX10_look_81 : decode cX10_look 81 = .ok (.aload_n 3, 1) := by decide +kernel
theorem dX10_look_82 : decode cX10_look 82 = .ok (.invokevirtual 149, 3) := by decide +kernel
theorem dX10_look_85 : decode cX10_look 85 = .ok (.ireturn, 1) := by decide +kernel
theorem dX10_look_86 : decode cX10_look 86 = .ok (.aload_n 0, 1) := by decide +kernel
theorem dX10_look_87 : decode cX10_look 87 = .ok (.getfield 23, 3) := by decide +kernel
theorem dX10_look_90 : decode cX10_look 90 = .ok (.getfield 136, 3) := by decide +kernel
theorem dX10_look_93 : decode cX10_look 93 = .ok (.iload_n 1, 1) := by decide +kernel
theorem dX10_look_94 : decode cX10_look 94 = .ok (.aaload, 1) := by decide +kernel
theorem dX10_look_95 : decode cX10_look 95 = .ok (.invokevirtual 153, 3) := by decide +kernel
theorem dX10_look_98 : decode cX10_look 98 = .ok (.ireturn, 1) := by decide +kernel
theorem dX10_look_99 : decode cX10_look 99 = .ok (.aload_n 3, 1) := by decide +kernel
theorem dX10_look_100 : decode cX10_look 100 = .ok (.getfield 158, 3) := by decide +kernel
theorem dX10_look_103 : decode cX10_look 103 = .ok (.ireturn, 1) := by decide +kernel
theorem dX10_look_104 : decode cX10_look 104 = .ok (.aload_n 3, 1) := by decide +kernel
theorem dX10_look_105 : decode cX10_look 105 = .ok (.getfield 161, 3) := by decide +kernel
theorem dX10_look_108 : decode cX10_look 108 = .ok (.ireturn, 1) := by decide +kernel
theorem dX10_needs_0 : decode cX10_needs 0 = .ok (.iload_n 1, 1) := by decide +kernel
theorem dX10_needs_1 : decode cX10_needs 1 = .ok (.aload_n 0, 1) := by decide +kernel
theorem dX10_needs_2 : decode cX10_needs 2 = .ok (.getfield 23, 3) := by decide +kernel
theorem dX10_needs_5 : decode cX10_needs 5 = .ok (.getfield 108, 3) := by decide +kernel
theorem dX10_needs_8 : decode cX10_needs 8 = .ok (.invokestatic 125, 3) := by decide +kernel
theorem dX10_needs_11 : decode cX10_needs 11 = .ok (.iload_n 2, 1) := by decide +kernel
theorem dX10_needs_12 : decode cX10_needs 12 = .ok (.aload_n 0, 1) := by decide +kernel
theorem dX10_needs_13 : decode cX10_needs 13 = .ok (.getfield 23, 3) := by decide +kernel
theorem dX10_needs_16 : decode cX10_needs 16 = .ok (.getfield 97, 3) := by decide +kernel
theorem dX10_needs_19 : decode cX10_needs 19 = .ok (.invokestatic 125, 3) := by decide +kernel
theorem dX10_needs_22 : decode cX10_needs 22 = .ok (.iload_n 3, 1) := by decide +kernel
theorem dX10_needs_23 : decode cX10_needs 23 = .ok (.iconst 0, 1) := by decide +kernel
theorem dX10_needs_24 : decode cX10_needs 24 = .ok (.sipush 300, 3) := by decide +kernel
theorem dX10_needs_27 : decode cX10_needs 27 = .ok (.invokestatic 65, 3) := by decide +kernel
theorem dX10_needs_30 : decode cX10_needs 30 = .ok (.ifCond .eq 18, 3) := by decide +kernel
theorem dX10_needs_33 : decode cX10_needs 33 = .ok (.iload 4, 2) := by decide +kernel
theorem dX10_needs_35 : decode cX10_needs 35 = .ok (.iconst 0, 1) := by decide +kernel
theorem dX10_needs_36 : decode cX10_needs 36 = .ok (.bipush 15, 2) := by decide +kernel
theorem dX10_needs_38 : decode cX10_needs 38 = .ok (.invokestatic 65, 3) := by decide +kernel
theorem dX10_needs_41 : decode cX10_needs 41 = .ok (.ifCond .eq 7, 3) := by decide +kernel
theorem dX10_needs_44 : decode cX10_needs 44 = .ok (.iconst 1, 1) := by decide +kernel
theorem dX10_needs_45 : decode cX10_needs 45 = .ok (.goto 4, 3) := by decide +kernel
theorem dX10_needs_48 : decode cX10_needs 48 = .ok (.iconst 0, 1) := by decide +kernel
theorem dX10_needs_49 : decode cX10_needs 49 = .ok (.invokestatic 69, 3) := by decide +kernel
theorem dX10_needs_52 : decode cX10_needs 52 = .ok (.aload_n 0, 1) := by decide +kernel
theorem dX10_needs_53 : decode cX10_needs 53 = .ok (.getfield 35, 3) := by decide +kernel
theorem dX10_needs_56 : decode cX10_needs 56 = .ok (.getfield 132, 3) := by decide +kernel
theorem dX10_needs_59 : decode cX10_needs 59 = .ok (.aload_n 0, 1) := by decide +kernel
theorem dX10_needs_60 : decode cX10_needs 60 = .ok (.getfield 23, 3) := by decide +kernel
theorem dX10_needs_63 : decode cX10_needs 63 = .ok (.getfield 136, 3) := by decide +kernel
theorem dX10_needs_66 : decode cX10_needs 66 = .ok (.iload_n 2, 1) := by decide +kernel
theorem dX10_needs_67 : decode cX10_needs 67 = .ok (.aaload, 1) := by decide +kernel
theorem dX10_needs_68 : decode cX10_needs 68 = .ok (.iconst (-1), 1) := by decide +kernel
theorem dX10_needs_69 : decode cX10_needs 69 = .ok (.aload_n 0, 1) := by decide +kernel
theorem dX10_needs_70 : decode cX10_needs 70 = .ok (.getfield 23, 3) := by decide +kernel
theorem dX10_needs_73 : decode cX10_needs 73 = .ok (.getfield 73, 3) := by decide +kernel
theorem dX10_needs_76 : decode cX10_needs 76 = .ok (.invokevirtual 140, 3) := by decide +kernel
theorem dX10_needs_79 : decode cX10_needs 79 = .ok (.aload_n 0, 1) := by decide +kernel
theorem dX10_needs_80 : decode cX10_needs 80 = .ok (.getfield 35, 3) := by decide +kernel
theorem dX10_needs_83 : decode cX10_needs 83 = .ok (.getfield 132, 3) := by decide +kernel
theorem dX10_needs_86 : decode cX10_needs 86 = .ok (.aload_n 0, 1) := by decide +kernel
theorem dX10_needs_87 : decode cX10_needs 87 = .ok (.getfield 23, 3) := by decide +kernel
theorem dX10_needs_90 : decode cX10_needs 90 = .ok (.getfield 164, 3) := by decide +kernel
theorem dX10_needs_93 : decode cX10_needs 93 = .ok (.iload_n 1, 1) := by decide +kernel
theorem dX10_needs_94 : decode cX10_needs 94 = .ok (.aaload, 1) := by decide +kernel
theorem dX10_needs_95 : decode cX10_needs 95 = .ok (.iload_n 3, 1) := by decide +kernel
theorem dX10_needs_96 : decode cX10_needs 96 = .ok (.iload 5, 2) := by decide +kernel
theorem dX10_needs_98 : decode cX10_needs 98 = .ok (.invokevirtual 168, 3) := by decide +kernel
theorem dX10_needs_101 : decode cX10_needs 101 = .ok (.iload 4, 2) := by decide +kernel
theorem dX10_needs_103 : decode cX10_needs 103 = .ok (.invokestatic 172, 3) := by decide +kernel
theorem dX10_needs_106 : decode cX10_needs 106 = .ok (.ireturn, 1) := by decide +kernel
theorem dX10_note_0 : decode cX10_note 0 = .ok (.iload_n 1, 1) := by decide +kernel
theorem dX10_note_1 : decode cX10_note 1 = .ok (.aload_n 0, 1) := by decide +kernel
theorem dX10_note_2 : decode cX10_note 2 = .ok (.getfield 23, 3) := by decide +kernel
theorem dX10_note_5 : decode cX10_note 5 = .ok (.getfield 122, 3) := by decide +kernel
theorem dX10_note_8 : decode cX10_note 8 = .ok (.getfield 176, 3) := by decide +kernel
theorem dX10_note_11 : decode cX10_note 11 = .ok (.invokestatic 125, 3) := by decide +kernel
theorem dX10_note_14 : decode cX10_note 14 = .ok (.iload_n 2, 1) := by decide +kernel
theorem dX10_note_15 : decode cX10_note 15 = .ok (.iconst 0, 1) := by decide +kernel
theorem dX10_note_16 : decode cX10_note 16 = .ok (.sipush 300, 3) := by decide +kernel
theorem dX10_note_19 : decode cX10_note 19 = .ok (.invokestatic 65, 3) := by decide +kernel
theorem dX10_note_22 : decode cX10_note 22 = .ok (.invokestatic 69, 3) := by decide +kernel
theorem dX10_note_25 : decode cX10_note 25 = .ok (.aload_n 0, 1) := by decide +kernel
theorem dX10_note_26 : decode cX10_note 26 = .ok (.getfield 23, 3) := by decide +kernel
theorem dX10_note_29 : decode cX10_note 29 = .ok (.getfield 179, 3) := by decide +kernel
theorem dX10_note_32 : decode cX10_note 32 = .ok (.invokevirtual 77, 3) := by decide +kernel
theorem dX10_note_35 : decode cX10_note 35 = .ok (.invokestatic 83, 3) := by decide +kernel
theorem dX10_note_38 : decode cX10_note 38 = .ok (.aload_n 0, 1) := by decide +kernel
theorem dX10_note_39 : decode cX10_note 39 = .ok (.getfield 23, 3) := by decide +kernel
theorem dX10_note_42 : decode cX10_note 42 = .ok (.getfield 179, 3) := by decide +kernel
theorem dX10_note_45 : decode cX10_note 45 = .ok (.iload_n 1, 1) := by decide +kernel
theorem dX10_note_46 : decode cX10_note 46 = .ok (.iload_n 2, 1) := by decide +kernel
theorem dX10_note_47 : decode cX10_note 47 = .ok (.iconst 0, 1) := by decide +kernel
theorem dX10_note_48 : decode cX10_note 48 = .ok (.iconst 0, 1) := by decide +kernel
theorem dX10_note_49 : decode cX10_note 49 = .ok (.iconst 0, 1) := by decide +kernel
theorem dX10_note_50 : decode cX10_note 50 = .ok (.invokevirtual 89, 3) := by decide +kernel
theorem dX10_note_53 : decode cX10_note 53 = .ok (.ireturn, 1) := by decide +kernel
theorem dX10_torn_0 : decode cX10_torn 0 = .ok (.aload_n 0, 1) := by decide +kernel
theorem dX10_torn_1 : decode cX10_torn 1 = .ok (.getfield 23, 3) := by decide +kernel
theorem dX10_torn_4 : decode cX10_torn 4 = .ok (.getfield 179, 3) := by decide +kernel
theorem dX10_torn_7 : decode cX10_torn 7 = .ok (.getfield 176, 3) := by decide +kernel
theorem dX10_torn_10 : decode cX10_torn 10 = .ok (.istore_n 1, 1) := by decide +kernel
theorem dX10_torn_11 : decode cX10_torn 11 = .ok (.aload_n 0, 1) := by decide +kernel
theorem dX10_torn_12 : decode cX10_torn 12 = .ok (.getfield 23, 3) := by decide +kernel
theorem dX10_torn_15 : decode cX10_torn 15 = .ok (.getfield 179, 3) := by decide +kernel
theorem dX10_torn_18 : decode cX10_torn 18 = .ok (.iconst 0, 1) := by decide +kernel
theorem dX10_torn_19 : decode cX10_torn 19 = .ok (.putfield 176, 3) := by decide +kernel
theorem dX10_torn_22 : decode cX10_torn 22 = .ok (.iload_n 1, 1) := by decide +kernel
theorem dX10_torn_23 : decode cX10_torn 23 = .ok (.ireturn, 1) := by decide +kernel
theorem dX10_can_0 : decode cX10_can 0 = .ok (.iload_n 1, 1) := by decide +kernel
theorem dX10_can_1 : decode cX10_can 1 = .ok (.aload_n 0, 1) := by decide +kernel
theorem dX10_can_2 : decode cX10_can 2 = .ok (.getfield 23, 3) := by decide +kernel
theorem dX10_can_5 : decode cX10_can 5 = .ok (.getfield 97, 3) := by decide +kernel
theorem dX10_can_8 : decode cX10_can 8 = .ok (.invokestatic 125, 3) := by decide +kernel
theorem dX10_can_11 : decode cX10_can 11 = .ok (.aload_n 0, 1) := by decide +kernel
theorem dX10_can_12 : decode cX10_can 12 = .ok (.getfield 35, 3) := by decide +kernel
theorem dX10_can_15 : decode cX10_can 15 = .ok (.iload_n 1, 1) := by decide +kernel
theorem dX10_can_16 : decode cX10_can 16 = .ok (.iconst (-1), 1) := by decide +kernel
theorem dX10_can_17 : decode cX10_can 17 = .ok (.iload_n 2, 1) := by decide +kernel
theorem dX10_can_18 : decode cX10_can 18 = .ok (.iload_n 3, 1) := by decide +kernel
theorem dX10_can_19 : decode cX10_can 19 = .ok (.invokevirtual 182, 3) := by decide +kernel
theorem dX10_can_22 : decode cX10_can 22 = .ok (.aload_n 0, 1) := by decide +kernel
theorem dX10_can_23 : decode cX10_can 23 = .ok (.getfield 35, 3) := by decide +kernel
theorem dX10_can_26 : decode cX10_can 26 = .ok (.iload_n 2, 1) := by decide +kernel
theorem dX10_can_27 : decode cX10_can 27 = .ok (.invokevirtual 186, 3) := by decide +kernel
theorem dX10_can_30 : decode cX10_can 30 = .ok (.ireturn, 1) := by decide +kernel
theorem dX10_fewest_0 : decode cX10_fewest 0 = .ok (.iload_n 1, 1) := by decide +kernel
theorem dX10_fewest_1 : decode cX10_fewest 1 = .ok (.aload_n 0, 1) := by decide +kernel
theorem dX10_fewest_2 : decode cX10_fewest 2 = .ok (.getfield 23, 3) := by decide +kernel
theorem dX10_fewest_5 : decode cX10_fewest 5 = .ok (.getfield 97, 3) := by decide +kernel
theorem dX10_fewest_8 : decode cX10_fewest 8 = .ok (.invokestatic 125, 3) := by decide +kernel
theorem dX10_fewest_11 : decode cX10_fewest 11 = .ok (.aload_n 0, 1) := by decide +kernel
theorem dX10_fewest_12 : decode cX10_fewest 12 = .ok (.getfield 23, 3) := by decide +kernel
theorem dX10_fewest_15 : decode cX10_fewest 15 = .ok (.invokevirtual 190, 3) := by decide +kernel
theorem dX10_fewest_18 : decode cX10_fewest 18 = .ok (.istore_n 3, 1) := by decide +kernel
theorem dX10_fewest_19 : decode cX10_fewest 19 = .ok (.aload_n 0, 1) := by decide +kernel
theorem dX10_fewest_20 : decode cX10_fewest 20 = .ok (.getfield 35, 3) := by decide +kernel
theorem dX10_fewest_23 : decode cX10_fewest 23 = .ok (.iload_n 1, 1) := by decide +kernel
theorem dX10_fewest_24 : decode cX10_fewest 24 = .ok (.iconst (-1), 1) := by decide +kernel
theorem dX10_fewest_25 : decode cX10_fewest 25 = .ok (.iload_n 3, 1) := by decide +kernel
theorem dX10_fewest_26 : decode cX10_fewest 26 = .ok (.iload_n 2, 1) := by decide +kernel
theorem dX10_fewest_27 : decode cX10_fewest 27 = .ok (.invokevirtual 182, 3) := by decide +kernel
theorem dX10_fewest_30 : decode cX10_fewest 30 = .ok (.aload_n 0, 1) := by decide +kernel
theorem dX10_fewest_31 : decode cX10_fewest 31 = .ok (.getfield 35, 3) := by decide +kernel
theorem dX10_fewest_34 : decode cX10_fewest 34 = .ok (.iload_n 3, 1) := by decide +kernel
theorem dX10_fewest_35 : decode cX10_fewest 35 = .ok (.invokevirtual 186, 3) := by decide +kernel
theorem dX10_fewest_38 : decode cX10_fewest 38 = .ok (.ifCond .ne 5, 3) := by decide +kernel
theorem dX10_fewest_41 : decode cX10_fewest 41 = .ok (.iconst (-1), 1) := by decide +kernel
theorem dX10_fewest_42 : decode cX10_fewest 42 = .ok (.ireturn, 1) := by decide +kernel
theorem dX10_fewest_43 : decode cX10_fewest 43 = .ok (.iconst 0, 1) := by decide +kernel
theorem dX10_fewest_44 : decode cX10_fewest 44 = .ok (.istore 4, 2) := by decide +kernel
theorem dX10_fewest_46 : decode cX10_fewest 46 = .ok (.iload 4, 2) := by decide +kernel
theorem dX10_fewest_48 : decode cX10_fewest 48 = .ok (.aload_n 0, 1) := by decide +kernel
theorem dX10_fewest_49 : decode cX10_fewest 49 = .ok (.getfield 23, 3) := by decide +kernel
theorem dX10_fewest_52 : decode cX10_fewest 52 = .ok (.getfield 108, 3) := by decide +kernel
theorem dX10_fewest_55 : decode cX10_fewest 55 = .ok (.if_icmp .ge 49, 3) := by decide +kernel
theorem dX10_fewest_58 : decode cX10_fewest 58 = .ok (.iconst 0, 1) := by decide +kernel
theorem dX10_fewest_59 : decode cX10_fewest 59 = .ok (.istore 5, 2) := by decide +kernel
theorem dX10_fewest_61 : decode cX10_fewest 61 = .ok (.iload 5, 2) := by decide +kernel
theorem dX10_fewest_63 : decode cX10_fewest 63 = .ok (.iload_n 3, 1) := by decide +kernel
theorem dX10_fewest_64 : decode cX10_fewest 64 = .ok (.if_icmp .ge 34, 3) := by decide +kernel
theorem dX10_fewest_67 : decode cX10_fewest 67 = .ok (.iload 5, 2) := by decide +kernel
theorem dX10_fewest_69 : decode cX10_fewest 69 = .ok (.invokestatic 193, 3) := by decide +kernel
theorem dX10_fewest_72 : decode cX10_fewest 72 = .ok (.iload 4, 2) := by decide +kernel
theorem dX10_fewest_74 : decode cX10_fewest 74 = .ok (.if_icmp .ne 18, 3) := by decide +kernel
theorem dX10_fewest_77 : decode cX10_fewest 77 = .ok (.aload_n 0, 1) := by decide +kernel
theorem dX10_fewest_78 : decode cX10_fewest 78 = .ok (.getfield 35, 3) := by decide +kernel
theorem dX10_fewest_81 : decode cX10_fewest 81 = .ok (.iload 5, 2) := by decide +kernel
theorem dX10_fewest_83 : decode cX10_fewest 83 = .ok (.invokevirtual 186, 3) := by decide +kernel
theorem dX10_fewest_86 : decode cX10_fewest 86 = .ok (.ifCond .eq 6, 3) := by decide +kernel
theorem dX10_fewest_89 : decode cX10_fewest 89 = .ok (.iload 5, 2) := by decide +kernel
theorem dX10_fewest_91 : decode cX10_fewest 91 = .ok (.ireturn, 1) := by decide +kernel
theorem dX10_fewest_92 : decode cX10_fewest 92 = .ok (.iinc 5 1, 3) := by decide +kernel
theorem dX10_fewest_95 : decode cX10_fewest 95 = .ok (.goto (-34), 3) := by decide +kernel
theorem dX10_fewest_98 : decode cX10_fewest 98 = .ok (.iinc 4 1, 3) := by decide +kernel
theorem dX10_fewest_101 : decode cX10_fewest 101 = .ok (.goto (-55), 3) := by decide +kernel
theorem dX10_fewest_104 : decode cX10_fewest 104 = .ok (.iload_n 3, 1) := by decide +kernel
theorem dX10_fewest_105 : decode cX10_fewest 105 = .ok (.ireturn, 1) := by decide +kernel
theorem dX10_earliest_0 : decode cX10_earliest 0 = .ok (.iload_n 1, 1) := by decide +kernel
theorem dX10_earliest_1 : decode cX10_earliest 1 = .ok (.aload_n 0, 1) := by decide +kernel
theorem dX10_earliest_2 : decode cX10_earliest 2 = .ok (.getfield 23, 3) := by decide +kernel
theorem dX10_earliest_5 : decode cX10_earliest 5 = .ok (.getfield 97, 3) := by decide +kernel
theorem dX10_earliest_8 : decode cX10_earliest 8 = .ok (.invokestatic 125, 3) := by decide +kernel
theorem dX10_earliest_11 : decode cX10_earliest 11 = .ok (.iload 4, 2) := by decide +kernel
theorem dX10_earliest_13 : decode cX10_earliest 13 = .ok (.aload_n 0, 1) := by decide +kernel
theorem dX10_earliest_14 : decode cX10_earliest 14 = .ok (.getfield 23, 3) := by decide +kernel
theorem dX10_earliest_17 : decode cX10_earliest 17 = .ok (.getfield 122, 3) := by decide +kernel
theorem dX10_earliest_20 : decode cX10_earliest 20 = .ok (.getfield 176, 3) := by decide +kernel
theorem dX10_earliest_23 : decode cX10_earliest 23 = .ok (.invokestatic 125, 3) := by decide +kernel
theorem dX10_earliest_26 : decode cX10_earliest 26 = .ok (.aload_n 0, 1) := by decide +kernel
theorem dX10_earliest_27 : decode cX10_earliest 27 = .ok (.getfield 35, 3) := by decide +kernel
theorem dX10_earliest_30 : decode cX10_earliest 30 = .ok (.iload_n 1, 1) := by decide +kernel
theorem dX10_earliest_31 : decode cX10_earliest 31 = .ok (.iconst (-1), 1) := by decide +kernel
theorem dX10_earliest_32 : decode cX10_earliest 32 = .ok (.iload_n 2, 1) := by decide +kernel
theorem dX10_earliest_33 : decode cX10_earliest 33 = .ok (.iload_n 3, 1) := by decide +kernel
theorem dX10_earliest_34 : decode cX10_earliest 34 = .ok (.invokevirtual 182, 3) := by decide +kernel
theorem dX10_earliest_37 : decode cX10_earliest 37 = .ok (.aload_n 0, 1) := by decide +kernel
theorem dX10_earliest_38 : decode cX10_earliest 38 = .ok (.getfield 35, 3) := by decide +kernel
theorem dX10_earliest_41 : decode cX10_earliest 41 = .ok (.iload_n 2, 1) := by decide +kernel
theorem dX10_earliest_42 : decode cX10_earliest 42 = .ok (.invokevirtual 199, 3) := by decide +kernel
theorem dX10_earliest_45 : decode cX10_earliest 45 = .ok (.aload_n 0, 1) := by decide +kernel
theorem dX10_earliest_46 : decode cX10_earliest 46 = .ok (.getfield 35, 3) := by decide +kernel
theorem dX10_earliest_49 : decode cX10_earliest 49 = .ok (.aload_n 0, 1) := by decide +kernel
theorem dX10_earliest_50 : decode cX10_earliest 50 = .ok (.getfield 23, 3) := by decide +kernel
theorem dX10_earliest_53 : decode cX10_earliest 53 = .ok (.iload 4, 2) := by decide +kernel
theorem dX10_earliest_55 : decode cX10_earliest 55 = .ok (.iload_n 2, 1) := by decide +kernel
theorem dX10_earliest_56 : decode cX10_earliest 56 = .ok (.invokevirtual 202, 3) := by decide +kernel
theorem dX10_earliest_59 : decode cX10_earliest 59 = .ok (.invokevirtual 206, 3) := by decide +kernel
theorem dX10_earliest_62 : decode cX10_earliest 62 = .ok (.ireturn, 1) := by decide +kernel
theorem dX10_may_0 : decode cX10_may 0 = .ok (.iload_n 1, 1) := by decide +kernel
theorem dX10_may_1 : decode cX10_may 1 = .ok (.aload_n 0, 1) := by decide +kernel
theorem dX10_may_2 : decode cX10_may 2 = .ok (.getfield 23, 3) := by decide +kernel
theorem dX10_may_5 : decode cX10_may 5 = .ok (.getfield 97, 3) := by decide +kernel
theorem dX10_may_8 : decode cX10_may 8 = .ok (.invokestatic 125, 3) := by decide +kernel
theorem dX10_may_11 : decode cX10_may 11 = .ok (.iload 4, 2) := by decide +kernel
theorem dX10_may_13 : decode cX10_may 13 = .ok (.iconst 0, 1) := by decide +kernel
theorem dX10_may_14 : decode cX10_may 14 = .ok (.sipush 300, 3) := by decide +kernel
theorem dX10_may_17 : decode cX10_may 17 = .ok (.invokestatic 65, 3) := by decide +kernel
theorem dX10_may_20 : decode cX10_may 20 = .ok (.invokestatic 69, 3) := by decide +kernel
theorem dX10_may_23 : decode cX10_may 23 = .ok (.aload_n 0, 1) := by decide +kernel
theorem dX10_may_24 : decode cX10_may 24 = .ok (.getfield 35, 3) := by decide +kernel
theorem dX10_may_27 : decode cX10_may 27 = .ok (.iload_n 1, 1) := by decide +kernel
theorem dX10_may_28 : decode cX10_may 28 = .ok (.iconst (-1), 1) := by decide +kernel
theorem dX10_may_29 : decode cX10_may 29 = .ok (.iload_n 2, 1) := by decide +kernel
theorem dX10_may_30 : decode cX10_may 30 = .ok (.iload_n 3, 1) := by decide +kernel
theorem dX10_may_31 : decode cX10_may 31 = .ok (.invokevirtual 182, 3) := by decide +kernel
theorem dX10_may_34 : decode cX10_may 34 = .ok (.aload_n 0, 1) := by decide +kernel
theorem dX10_may_35 : decode cX10_may 35 = .ok (.getfield 35, 3) := by decide +kernel
theorem dX10_may_38 : decode cX10_may 38 = .ok (.iload_n 2, 1) := by decide +kernel
theorem dX10_may_39 : decode cX10_may 39 = .ok (.invokevirtual 199, 3) := by decide +kernel
theorem dX10_may_42 : decode cX10_may 42 = .ok (.aload_n 0, 1) := by decide +kernel
theorem dX10_may_43 : decode cX10_may 43 = .ok (.getfield 35, 3) := by decide +kernel
theorem dX10_may_46 : decode cX10_may 46 = .ok (.iload 4, 2) := by decide +kernel
theorem dX10_may_48 : decode cX10_may 48 = .ok (.invokevirtual 209, 3) := by decide +kernel
theorem dX10_may_51 : decode cX10_may 51 = .ok (.ireturn, 1) := by decide +kernel
theorem dX10_shut_0 : decode cX10_shut 0 = .ok (.iload_n 1, 1) := by decide +kernel
theorem dX10_shut_1 : decode cX10_shut 1 = .ok (.aload_n 0, 1) := by decide +kernel
theorem dX10_shut_2 : decode cX10_shut 2 = .ok (.getfield 23, 3) := by decide +kernel
theorem dX10_shut_5 : decode cX10_shut 5 = .ok (.getfield 122, 3) := by decide +kernel
theorem dX10_shut_8 : decode cX10_shut 8 = .ok (.getfield 176, 3) := by decide +kernel
theorem dX10_shut_11 : decode cX10_shut 11 = .ok (.invokestatic 125, 3) := by decide +kernel
theorem dX10_shut_14 : decode cX10_shut 14 = .ok (.iconst 0, 1) := by decide +kernel
theorem dX10_shut_15 : decode cX10_shut 15 = .ok (.istore_n 2, 1) := by decide +kernel
theorem dX10_shut_16 : decode cX10_shut 16 = .ok (.iconst 0, 1) := by decide +kernel
theorem dX10_shut_17 : decode cX10_shut 17 = .ok (.istore_n 3, 1) := by decide +kernel
theorem dX10_shut_18 : decode cX10_shut 18 = .ok (.iload_n 3, 1) := by decide +kernel
theorem dX10_shut_19 : decode cX10_shut 19 = .ok (.aload_n 0, 1) := by decide +kernel
theorem dX10_shut_20 : decode cX10_shut 20 = .ok (.getfield 23, 3) := by decide +kernel
theorem dX10_shut_23 : decode cX10_shut 23 = .ok (.getfield 97, 3) := by decide +kernel
theorem dX10_shut_26 : decode cX10_shut 26 = .ok (.if_icmp .ge 35, 3) := by decide +kernel
theorem dX10_shut_29 : decode cX10_shut 29 = .ok (.aload_n 0, 1) := by decide +kernel
theorem dX10_shut_30 : decode cX10_shut 30 = .ok (.getfield 35, 3) := by decide +kernel
theorem dX10_shut_33 : decode cX10_shut 33 = .ok (.iload_n 3, 1) := by decide +kernel
theorem dX10_shut_34 : decode cX10_shut 34 = .ok (.aload_n 0, 1) := by decide +kernel
theorem dX10_shut_35 : decode cX10_shut 35 = .ok (.getfield 23, 3) := by decide +kernel
theorem dX10_shut_38 : decode cX10_shut 38 = .ok (.invokevirtual 190, 3) := by decide +kernel
theorem dX10_shut_41 : decode cX10_shut 41 = .ok (.iconst 0, 1) := by decide +kernel
theorem dX10_shut_42 : decode cX10_shut 42 = .ok (.iload_n 1, 1) := by decide +kernel
theorem dX10_shut_43 : decode cX10_shut 43 = .ok (.invokevirtual 212, 3) := by decide +kernel
theorem dX10_shut_46 : decode cX10_shut 46 = .ok (.ifCond .ne 9, 3) := by decide +kernel
theorem dX10_shut_49 : decode cX10_shut 49 = .ok (.iload_n 2, 1) := by decide +kernel
theorem dX10_shut_50 : decode cX10_shut 50 = .ok (.iconst 1, 1) := by decide +kernel
theorem dX10_shut_51 : decode cX10_shut 51 = .ok (.iload_n 3, 1) := by decide +kernel
theorem dX10_shut_52 : decode cX10_shut 52 = .ok (.ishl, 1) := by decide +kernel
theorem dX10_shut_53 : decode cX10_shut 53 = .ok (.ior, 1) := by decide +kernel
theorem dX10_shut_54 : decode cX10_shut 54 = .ok (.istore_n 2, 1) := by decide +kernel
theorem dX10_shut_55 : decode cX10_shut 55 = .ok (.iinc 3 1, 3) := by decide +kernel
theorem dX10_shut_58 : decode cX10_shut 58 = .ok (.goto (-40), 3) := by decide +kernel
theorem dX10_shut_61 : decode cX10_shut 61 = .ok (.iload_n 2, 1) := by decide +kernel
theorem dX10_shut_62 : decode cX10_shut 62 = .ok (.ireturn, 1) := by decide +kernel
theorem dX10_opens_0 : decode cX10_opens 0 = .ok (.iload_n 1, 1) := by decide +kernel
theorem dX10_opens_1 : decode cX10_opens 1 = .ok (.aload_n 0, 1) := by decide +kernel
theorem dX10_opens_2 : decode cX10_opens 2 = .ok (.getfield 23, 3) := by decide +kernel
theorem dX10_opens_5 : decode cX10_opens 5 = .ok (.getfield 97, 3) := by decide +kernel
theorem dX10_opens_8 : decode cX10_opens 8 = .ok (.invokestatic 125, 3) := by decide +kernel
theorem dX10_opens_11 : decode cX10_opens 11 = .ok (.iload_n 2, 1) := by decide +kernel
theorem dX10_opens_12 : decode cX10_opens 12 = .ok (.aload_n 0, 1) := by decide +kernel
theorem dX10_opens_13 : decode cX10_opens 13 = .ok (.getfield 23, 3) := by decide +kernel
theorem dX10_opens_16 : decode cX10_opens 16 = .ok (.getfield 122, 3) := by decide +kernel
theorem dX10_opens_19 : decode cX10_opens 19 = .ok (.getfield 176, 3) := by decide +kernel
theorem dX10_opens_22 : decode cX10_opens 22 = .ok (.invokestatic 125, 3) := by decide +kernel
theorem dX10_opens_25 : decode cX10_opens 25 = .ok (.aload_n 0, 1) := by decide +kernel
theorem dX10_opens_26 : decode cX10_opens 26 = .ok (.getfield 23, 3) := by decide +kernel
theorem dX10_opens_29 : decode cX10_opens 29 = .ok (.invokevirtual 190, 3) := by decide +kernel
theorem dX10_opens_32 : decode cX10_opens 32 = .ok (.istore_n 3, 1) := by decide +kernel
theorem dX10_opens_33 : decode cX10_opens 33 = .ok (.aload_n 0, 1) := by decide +kernel
theorem dX10_opens_34 : decode cX10_opens 34 = .ok (.getfield 35, 3) := by decide +kernel
theorem dX10_opens_37 : decode cX10_opens 37 = .ok (.iload_n 1, 1) := by decide +kernel
theorem dX10_opens_38 : decode cX10_opens 38 = .ok (.iload_n 3, 1) := by decide +kernel
theorem dX10_opens_39 : decode cX10_opens 39 = .ok (.iconst 0, 1) := by decide +kernel
theorem dX10_opens_40 : decode cX10_opens 40 = .ok (.iload_n 2, 1) := by decide +kernel
theorem dX10_opens_41 : decode cX10_opens 41 = .ok (.invokevirtual 212, 3) := by decide +kernel
theorem dX10_opens_44 : decode cX10_opens 44 = .ok (.ifCond .eq 5, 3) := by decide +kernel
theorem dX10_opens_47 : decode cX10_opens 47 = .ok (.iconst (-1), 1) := by decide +kernel
theorem dX10_opens_48 : decode cX10_opens 48 = .ok (.ireturn, 1) := by decide +kernel
theorem dX10_opens_49 : decode cX10_opens 49 = .ok (.iconst 0, 1) := by decide +kernel
theorem dX10_opens_50 : decode cX10_opens 50 = .ok (.istore 4, 2) := by decide +kernel
theorem dX10_opens_52 : decode cX10_opens 52 = .ok (.iconst 0, 1) := by decide +kernel
theorem dX10_opens_53 : decode cX10_opens 53 = .ok (.istore 5, 2) := by decide +kernel
theorem dX10_opens_55 : decode cX10_opens 55 = .ok (.iload 5, 2) := by decide +kernel
theorem dX10_opens_57 : decode cX10_opens 57 = .ok (.aload_n 0, 1) := by decide +kernel
theorem dX10_opens_58 : decode cX10_opens 58 = .ok (.getfield 23, 3) := by decide +kernel
theorem dX10_opens_61 : decode cX10_opens 61 = .ok (.getfield 136, 3) := by decide +kernel
theorem dX10_opens_64 : decode cX10_opens 64 = .ok (.iload_n 1, 1) := by decide +kernel
theorem dX10_opens_65 : decode cX10_opens 65 = .ok (.aaload, 1) := by decide +kernel
theorem dX10_opens_66 : decode cX10_opens 66 = .ok (.invokevirtual 153, 3) := by decide +kernel
theorem dX10_opens_69 : decode cX10_opens 69 = .ok (.if_icmp .ge 58, 3) := by decide +kernel
theorem dX10_opens_72 : decode cX10_opens 72 = .ok (.aload_n 0, 1) := by decide +kernel
theorem dX10_opens_73 : decode cX10_opens 73 = .ok (.getfield 35, 3) := by decide +kernel
theorem dX10_opens_76 : decode cX10_opens 76 = .ok (.iload_n 1, 1) := by decide +kernel
theorem dX10_opens_77 : decode cX10_opens 77 = .ok (.iload 5, 2) := by decide +kernel
theorem dX10_opens_79 : decode cX10_opens 79 = .ok (.iload_n 3, 1) := by decide +kernel
theorem dX10_opens_80 : decode cX10_opens 80 = .ok (.iconst 0, 1) := by decide +kernel
theorem dX10_opens_81 : decode cX10_opens 81 = .ok (.invokevirtual 182, 3) := by decide +kernel
theorem dX10_opens_84 : decode cX10_opens 84 = .ok (.aload_n 0, 1) := by decide +kernel
theorem dX10_opens_85 : decode cX10_opens 85 = .ok (.getfield 35, 3) := by decide +kernel
theorem dX10_opens_88 : decode cX10_opens 88 = .ok (.iload_n 3, 1) := by decide +kernel
theorem dX10_opens_89 : decode cX10_opens 89 = .ok (.invokevirtual 199, 3) := by decide +kernel
theorem dX10_opens_92 : decode cX10_opens 92 = .ok (.aload_n 0, 1) := by decide +kernel
theorem dX10_opens_93 : decode cX10_opens 93 = .ok (.getfield 35, 3) := by decide +kernel
theorem dX10_opens_96 : decode cX10_opens 96 = .ok (.aload_n 0, 1) := by decide +kernel
theorem dX10_opens_97 : decode cX10_opens 97 = .ok (.getfield 23, 3) := by decide +kernel
theorem dX10_opens_100 : decode cX10_opens 100 = .ok (.iload_n 2, 1) := by decide +kernel
theorem dX10_opens_101 : decode cX10_opens 101 = .ok (.iload_n 3, 1) := by decide +kernel
theorem dX10_opens_102 : decode cX10_opens 102 = .ok (.invokevirtual 202, 3) := by decide +kernel
theorem dX10_opens_105 : decode cX10_opens 105 = .ok (.invokevirtual 206, 3) := by decide +kernel
theorem dX10_opens_108 : decode cX10_opens 108 = .ok (.iconst (-1), 1) := by decide +kernel
theorem dX10_opens_109 : decode cX10_opens 109 = .ok (.if_icmp .eq 12, 3) := by decide +kernel
theorem dX10_opens_112 : decode cX10_opens 112 = .ok (.iload 4, 2) := by decide +kernel
theorem dX10_opens_114 : decode cX10_opens 114 = .ok (.iconst 1, 1) := by decide +kernel
theorem dX10_opens_115 : decode cX10_opens 115 = .ok (.iload 5, 2) := by decide +kernel
theorem dX10_opens_117 : decode cX10_opens 117 = .ok (.ishl, 1) := by decide +kernel
theorem dX10_opens_118 : decode cX10_opens 118 = .ok (.ior, 1) := by decide +kernel
theorem dX10_opens_119 : decode cX10_opens 119 = .ok (.istore 4, 2) := by decide +kernel
theorem dX10_opens_121 : decode cX10_opens 121 = .ok (.iinc 5 1, 3) := by decide +kernel
theorem dX10_opens_124 : decode cX10_opens 124 = .ok (.goto (-69), 3) := by decide +kernel
theorem dX10_opens_127 : decode cX10_opens 127 = .ok (.iload 4, 2) := by decide +kernel
theorem dX10_opens_129 : decode cX10_opens 129 = .ok (.ireturn, 1) := by decide +kernel
theorem dX10_trap_0 : decode cX10_trap 0 = .ok (.iload_n 1, 1) := by decide +kernel
theorem dX10_trap_1 : decode cX10_trap 1 = .ok (.aload_n 0, 1) := by decide +kernel
theorem dX10_trap_2 : decode cX10_trap 2 = .ok (.getfield 23, 3) := by decide +kernel
theorem dX10_trap_5 : decode cX10_trap 5 = .ok (.getfield 108, 3) := by decide +kernel
theorem dX10_trap_8 : decode cX10_trap 8 = .ok (.invokestatic 125, 3) := by decide +kernel
theorem dX10_trap_11 : decode cX10_trap 11 = .ok (.iload_n 2, 1) := by decide +kernel
theorem dX10_trap_12 : decode cX10_trap 12 = .ok (.iconst 1, 1) := by decide +kernel
theorem dX10_trap_13 : decode cX10_trap 13 = .ok (.bipush 9, 2) := by decide +kernel
theorem dX10_trap_15 : decode cX10_trap 15 = .ok (.invokestatic 65, 3) := by decide +kernel
theorem dX10_trap_18 : decode cX10_trap 18 = .ok (.ifCond .eq 17, 3) := by decide +kernel
theorem dX10_trap_21 : decode cX10_trap 21 = .ok (.iload_n 3, 1) := by decide +kernel
theorem dX10_trap_22 : decode cX10_trap 22 = .ok (.iconst 1, 1) := by decide +kernel
theorem dX10_trap_23 : decode cX10_trap 23 = .ok (.bipush 9, 2) := by decide +kernel
theorem dX10_trap_25 : decode cX10_trap 25 = .ok (.invokestatic 65, 3) := by decide +kernel
theorem dX10_trap_28 : decode cX10_trap 28 = .ok (.ifCond .eq 7, 3) := by decide +kernel
theorem dX10_trap_31 : decode cX10_trap 31 = .ok (.iconst 1, 1) := by decide +kernel
theorem dX10_trap_32 : decode cX10_trap 32 = .ok (.goto 4, 3) := by decide +kernel
theorem dX10_trap_35 : decode cX10_trap 35 = .ok (.iconst 0, 1) := by decide +kernel
theorem dX10_trap_36 : decode cX10_trap 36 = .ok (.invokestatic 69, 3) := by decide +kernel
theorem dX10_trap_39 : decode cX10_trap 39 = .ok (.aload_n 0, 1) := by decide +kernel
theorem dX10_trap_40 : decode cX10_trap 40 = .ok (.getfield 23, 3) := by decide +kernel
theorem dX10_trap_43 : decode cX10_trap 43 = .ok (.getfield 216, 3) := by decide +kernel
theorem dX10_trap_46 : decode cX10_trap 46 = .ok (.invokevirtual 77, 3) := by decide +kernel
theorem dX10_trap_49 : decode cX10_trap 49 = .ok (.invokestatic 83, 3) := by decide +kernel
theorem dX10_trap_52 : decode cX10_trap 52 = .ok (.aload_n 0, 1) := by decide +kernel
theorem dX10_trap_53 : decode cX10_trap 53 = .ok (.getfield 23, 3) := by decide +kernel
theorem dX10_trap_56 : decode cX10_trap 56 = .ok (.getfield 216, 3) := by decide +kernel
theorem dX10_trap_59 : decode cX10_trap 59 = .ok (.iload_n 1, 1) := by decide +kernel
theorem dX10_trap_60 : decode cX10_trap 60 = .ok (.iload_n 2, 1) := by decide +kernel
theorem dX10_trap_61 : decode cX10_trap 61 = .ok (.iload_n 3, 1) := by decide +kernel
theorem dX10_trap_62 : decode cX10_trap 62 = .ok (.iconst 0, 1) := by decide +kernel
theorem dX10_trap_63 : decode cX10_trap 63 = .ok (.iconst 0, 1) := by decide +kernel
theorem dX10_trap_64 : decode cX10_trap 64 = .ok (.invokevirtual 89, 3) := by decide +kernel
theorem dX10_trap_67 : decode cX10_trap 67 = .ok (.ireturn, 1) := by decide +kernel
theorem dX10_story_0 : decode cX10_story 0 = .ok (.iload_n 1, 1) := by decide +kernel
theorem dX10_story_1 : decode cX10_story 1 = .ok (.iconst 1, 1) := by decide +kernel
theorem dX10_story_2 : decode cX10_story 2 = .ok (.bipush 99, 2) := by decide +kernel
theorem dX10_story_4 : decode cX10_story 4 = .ok (.invokestatic 65, 3) := by decide +kernel
theorem dX10_story_7 : decode cX10_story 7 = .ok (.ifCond .eq 22, 3) := by decide +kernel
theorem dX10_story_10 : decode cX10_story 10 = .ok (.iload_n 3, 1) := by decide +kernel
theorem dX10_story_11 : decode cX10_story 11 = .ok (.iconst (-1), 1) := by decide +kernel
theorem dX10_story_12 : decode cX10_story 12 = .ok (.if_icmp .eq 13, 3) := by decide +kernel
theorem dX10_story_15 : decode cX10_story 15 = .ok (.iload_n 3, 1) := by decide +kernel
theorem dX10_story_16 : decode cX10_story 16 = .ok (.iconst 1, 1) := by decide +kernel
theorem dX10_story_17 : decode cX10_story 17 = .ok (.bipush 7, 2) := by decide +kernel
theorem dX10_story_19 : decode cX10_story 19 = .ok (.invokestatic 65, 3) := by decide +kernel
theorem dX10_story_22 : decode cX10_story 22 = .ok (.ifCond .eq 7, 3) := by decide +kernel
theorem dX10_story_25 : decode cX10_story 25 = .ok (.iconst 1, 1) := by decide +kernel
theorem dX10_story_26 : decode cX10_story 26 = .ok (.goto 4, 3) := by decide +kernel
theorem dX10_story_29 : decode cX10_story 29 = .ok (.iconst 0, 1) := by decide +kernel
theorem dX10_story_30 : decode cX10_story 30 = .ok (.invokestatic 69, 3) := by decide +kernel
theorem dX10_story_33 : decode cX10_story 33 = .ok (.aload_n 0, 1) := by decide +kernel
theorem dX10_story_34 : decode cX10_story 34 = .ok (.getfield 23, 3) := by decide +kernel
theorem dX10_story_37 : decode cX10_story 37 = .ok (.getfield 219, 3) := by decide +kernel
theorem dX10_story_40 : decode cX10_story 40 = .ok (.invokevirtual 77, 3) := by decide +kernel
theorem dX10_story_43 : decode cX10_story 43 = .ok (.invokestatic 83, 3) := by decide +kernel
theorem dX10_story_46 : decode cX10_story 46 = .ok (.aload_n 0, 1) := by decide +kernel
theorem dX10_story_47 : decode cX10_story 47 = .ok (.getfield 23, 3) := by decide +kernel
theorem dX10_story_50 : decode cX10_story 50 = .ok (.getfield 219, 3) := by decide +kernel
theorem dX10_story_53 : decode cX10_story 53 = .ok (.iload_n 1, 1) := by decide +kernel
theorem dX10_story_54 : decode cX10_story 54 = .ok (.iload_n 2, 1) := by decide +kernel
theorem dX10_story_55 : decode cX10_story 55 = .ok (.iload_n 3, 1) := by decide +kernel
theorem dX10_story_56 : decode cX10_story 56 = .ok (.iconst 0, 1) := by decide +kernel
theorem dX10_story_57 : decode cX10_story 57 = .ok (.iconst 0, 1) := by decide +kernel
theorem dX10_story_58 : decode cX10_story 58 = .ok (.invokevirtual 89, 3) := by decide +kernel
theorem dX10_story_61 : decode cX10_story 61 = .ok (.ireturn, 1) := by decide +kernel
theorem dX10_night_0 : decode cX10_night 0 = .ok (.iload_n 1, 1) := by decide +kernel
theorem dX10_night_1 : decode cX10_night 1 = .ok (.aload_n 0, 1) := by decide +kernel
theorem dX10_night_2 : decode cX10_night 2 = .ok (.getfield 23, 3) := by decide +kernel
theorem dX10_night_5 : decode cX10_night 5 = .ok (.getfield 97, 3) := by decide +kernel
theorem dX10_night_8 : decode cX10_night 8 = .ok (.invokestatic 125, 3) := by decide +kernel
theorem dX10_night_11 : decode cX10_night 11 = .ok (.iload_n 2, 1) := by decide +kernel
theorem dX10_night_12 : decode cX10_night 12 = .ok (.bipush 8, 2) := by decide +kernel
theorem dX10_night_14 : decode cX10_night 14 = .ok (.invokestatic 222, 3) := by decide +kernel
theorem dX10_night_17 : decode cX10_night 17 = .ok (.ifCond .eq 24, 3) := by decide +kernel
theorem dX10_night_20 : decode cX10_night 20 = .ok (.iload_n 3, 1) := by decide +kernel
theorem dX10_night_21 : decode cX10_night 21 = .ok (.aload_n 0, 1) := by decide +kernel
theorem dX10_night_22 : decode cX10_night 22 = .ok (.getfield 23, 3) := by decide +kernel
theorem dX10_night_25 : decode cX10_night 25 = .ok (.getfield 122, 3) := by decide +kernel
theorem dX10_night_28 : decode cX10_night 28 = .ok (.getfield 176, 3) := by decide +kernel
theorem dX10_night_31 : decode cX10_night 31 = .ok (.invokestatic 222, 3) := by decide +kernel
theorem dX10_night_34 : decode cX10_night 34 = .ok (.ifCond .eq 7, 3) := by decide +kernel
theorem dX10_night_37 : decode cX10_night 37 = .ok (.iconst 1, 1) := by decide +kernel
theorem dX10_night_38 : decode cX10_night 38 = .ok (.goto 4, 3) := by decide +kernel
theorem dX10_night_41 : decode cX10_night 41 = .ok (.iconst 0, 1) := by decide +kernel
theorem dX10_night_42 : decode cX10_night 42 = .ok (.invokestatic 69, 3) := by decide +kernel
theorem dX10_night_45 : decode cX10_night 45 = .ok (.iload 4, 2) := by decide +kernel
theorem dX10_night_47 : decode cX10_night 47 = .ok (.aload_n 0, 1) := by decide +kernel
theorem dX10_night_48 : decode cX10_night 48 = .ok (.getfield 23, 3) := by decide +kernel
theorem dX10_night_51 : decode cX10_night 51 = .ok (.getfield 216, 3) := by decide +kernel
theorem dX10_night_54 : decode cX10_night 54 = .ok (.getfield 176, 3) := by decide +kernel
theorem dX10_night_57 : decode cX10_night 57 = .ok (.invokestatic 222, 3) := by decide +kernel
theorem dX10_night_60 : decode cX10_night 60 = .ok (.ifCond .eq 17, 3) := by decide +kernel
theorem dX10_night_63 : decode cX10_night 63 = .ok (.iload 5, 2) := by decide +kernel
theorem dX10_night_65 : decode cX10_night 65 = .ok (.iload 4, 2) := by decide +kernel
theorem dX10_night_67 : decode cX10_night 67 = .ok (.iconst (-1), 1) := by decide +kernel
theorem dX10_night_68 : decode cX10_night 68 = .ok (.ixor, 1) := by decide +kernel
theorem dX10_night_69 : decode cX10_night 69 = .ok (.iand, 1) := by decide +kernel
theorem dX10_night_70 : decode cX10_night 70 = .ok (.ifCond .ne 7, 3) := by decide +kernel
theorem dX10_night_73 : decode cX10_night 73 = .ok (.iconst 1, 1) := by decide +kernel
theorem dX10_night_74 : decode cX10_night 74 = .ok (.goto 4, 3) := by decide +kernel
theorem dX10_night_77 : decode cX10_night 77 = .ok (.iconst 0, 1) := by decide +kernel
theorem dX10_night_78 : decode cX10_night 78 = .ok (.invokestatic 69, 3) := by decide +kernel
theorem dX10_night_81 : decode cX10_night 81 = .ok (.aload_n 0, 1) := by decide +kernel
theorem dX10_night_82 : decode cX10_night 82 = .ok (.getfield 23, 3) := by decide +kernel
theorem dX10_night_85 : decode cX10_night 85 = .ok (.getfield 225, 3) := by decide +kernel
theorem dX10_night_88 : decode cX10_night 88 = .ok (.invokevirtual 77, 3) := by decide +kernel
theorem dX10_night_91 : decode cX10_night 91 = .ok (.invokestatic 83, 3) := by decide +kernel
theorem dX10_night_94 : decode cX10_night 94 = .ok (.aload_n 0, 1) := by decide +kernel
theorem dX10_night_95 : decode cX10_night 95 = .ok (.getfield 23, 3) := by decide +kernel
theorem dX10_night_98 : decode cX10_night 98 = .ok (.getfield 225, 3) := by decide +kernel
theorem dX10_night_101 : decode cX10_night 101 = .ok (.iload_n 1, 1) := by decide +kernel
theorem dX10_night_102 : decode cX10_night 102 = .ok (.iload_n 2, 1) := by decide +kernel
theorem dX10_night_103 : decode cX10_night 103 = .ok (.iload_n 3, 1) := by decide +kernel
theorem dX10_night_104 : decode cX10_night 104 = .ok (.iload 4, 2) := by decide +kernel
theorem dX10_night_106 : decode cX10_night 106 = .ok (.iload 5, 2) := by decide +kernel
theorem dX10_night_108 : decode cX10_night 108 = .ok (.invokevirtual 89, 3) := by decide +kernel
theorem dX10_night_111 : decode cX10_night 111 = .ok (.ireturn, 1) := by decide +kernel
theorem dX10_odds_0 : decode cX10_odds 0 = .ok (.iload_n 1, 1) := by decide +kernel
theorem dX10_odds_1 : decode cX10_odds 1 = .ok (.aload_n 0, 1) := by decide +kernel
theorem dX10_odds_2 : decode cX10_odds 2 = .ok (.getfield 23, 3) := by decide +kernel
theorem dX10_odds_5 : decode cX10_odds 5 = .ok (.getfield 219, 3) := by decide +kernel
theorem dX10_odds_8 : decode cX10_odds 8 = .ok (.getfield 176, 3) := by decide +kernel
theorem dX10_odds_11 : decode cX10_odds 11 = .ok (.invokestatic 125, 3) := by decide +kernel
theorem dX10_odds_14 : decode cX10_odds 14 = .ok (.aload_n 0, 1) := by decide +kernel
theorem dX10_odds_15 : decode cX10_odds 15 = .ok (.aload_n 0, 1) := by decide +kernel
theorem dX10_odds_16 : decode cX10_odds 16 = .ok (.getfield 23, 3) := by decide +kernel
theorem dX10_odds_19 : decode cX10_odds 19 = .ok (.getfield 225, 3) := by decide +kernel
theorem dX10_odds_22 : decode cX10_odds 22 = .ok (.getfield 176, 3) := by decide +kernel
theorem dX10_odds_25 : decode cX10_odds 25 = .ok (.invokevirtual 228, 3) := by decide +kernel
theorem dX10_odds_28 : decode cX10_odds 28 = .ok (.aload_n 0, 1) := by decide +kernel
theorem dX10_odds_29 : decode cX10_odds 29 = .ok (.getfield 50, 3) := by decide +kernel
theorem dX10_odds_32 : decode cX10_odds 32 = .ok (.iload_n 1, 1) := by decide +kernel
theorem dX10_odds_33 : decode cX10_odds 33 = .ok (.iaload, 1) := by decide +kernel
theorem dX10_odds_34 : decode cX10_odds 34 = .ok (.ireturn, 1) := by decide +kernel
theorem dX10_oddsBy_0 : decode cX10_oddsBy 0 = .ok (.iload_n 1, 1) := by decide +kernel
theorem dX10_oddsBy_1 : decode cX10_oddsBy 1 = .ok (.aload_n 0, 1) := by decide +kernel
theorem dX10_oddsBy_2 : decode cX10_oddsBy 2 = .ok (.getfield 23, 3) := by decide +kernel
theorem dX10_oddsBy_5 : decode cX10_oddsBy 5 = .ok (.getfield 219, 3) := by decide +kernel
theorem dX10_oddsBy_8 : decode cX10_oddsBy 8 = .ok (.getfield 176, 3) := by decide +kernel
theorem dX10_oddsBy_11 : decode cX10_oddsBy 11 = .ok (.invokestatic 125, 3) := by decide +kernel
theorem dX10_oddsBy_14 : decode cX10_oddsBy 14 = .ok (.iload_n 2, 1) := by decide +kernel
theorem dX10_oddsBy_15 : decode cX10_oddsBy 15 = .ok (.iconst 0, 1) := by decide +kernel
theorem dX10_oddsBy_16 : decode cX10_oddsBy 16 = .ok (.aload_n 0, 1) := by decide +kernel
theorem dX10_oddsBy_17 : decode cX10_oddsBy 17 = .ok (.getfield 23, 3) := by decide +kernel
theorem dX10_oddsBy_20 : decode cX10_oddsBy 20 = .ok (.getfield 225, 3) := by decide +kernel
theorem dX10_oddsBy_23 : decode cX10_oddsBy 23 = .ok (.getfield 176, 3) := by decide +kernel
theorem dX10_oddsBy_26 : decode cX10_oddsBy 26 = .ok (.invokestatic 65, 3) := by decide +kernel
theorem dX10_oddsBy_29 : decode cX10_oddsBy 29 = .ok (.invokestatic 69, 3) := by decide +kernel
theorem dX10_oddsBy_32 : decode cX10_oddsBy 32 = .ok (.aload_n 0, 1) := by decide +kernel
theorem dX10_oddsBy_33 : decode cX10_oddsBy 33 = .ok (.iload_n 2, 1) := by decide +kernel
theorem dX10_oddsBy_34 : decode cX10_oddsBy 34 = .ok (.invokevirtual 228, 3) := by decide +kernel
theorem dX10_oddsBy_37 : decode cX10_oddsBy 37 = .ok (.aload_n 0, 1) := by decide +kernel
theorem dX10_oddsBy_38 : decode cX10_oddsBy 38 = .ok (.getfield 50, 3) := by decide +kernel
theorem dX10_oddsBy_41 : decode cX10_oddsBy 41 = .ok (.iload_n 1, 1) := by decide +kernel
theorem dX10_oddsBy_42 : decode cX10_oddsBy 42 = .ok (.iaload, 1) := by decide +kernel
theorem dX10_oddsBy_43 : decode cX10_oddsBy 43 = .ok (.ireturn, 1) := by decide +kernel
theorem dX10_factor_0 : decode cX10_factor 0 = .ok (.iload_n 1, 1) := by decide +kernel
theorem dX10_factor_1 : decode cX10_factor 1 = .ok (.aload_n 0, 1) := by decide +kernel
theorem dX10_factor_2 : decode cX10_factor 2 = .ok (.getfield 23, 3) := by decide +kernel
theorem dX10_factor_5 : decode cX10_factor 5 = .ok (.getfield 219, 3) := by decide +kernel
theorem dX10_factor_8 : decode cX10_factor 8 = .ok (.getfield 176, 3) := by decide +kernel
theorem dX10_factor_11 : decode cX10_factor 11 = .ok (.invokestatic 125, 3) := by decide +kernel
theorem dX10_factor_14 : decode cX10_factor 14 = .ok (.iload_n 2, 1) := by decide +kernel
theorem dX10_factor_15 : decode cX10_factor 15 = .ok (.aload_n 0, 1) := by decide +kernel
theorem dX10_factor_16 : decode cX10_factor 16 = .ok (.getfield 23, 3) := by decide +kernel
theorem dX10_factor_19 : decode cX10_factor 19 = .ok (.getfield 225, 3) := by decide +kernel
theorem dX10_factor_22 : decode cX10_factor 22 = .ok (.getfield 176, 3) := by decide +kernel
theorem dX10_factor_25 : decode cX10_factor 25 = .ok (.invokestatic 125, 3) := by decide +kernel
theorem dX10_factor_28 : decode cX10_factor 28 = .ok (.aload_n 0, 1) := by decide +kernel
theorem dX10_factor_29 : decode cX10_factor 29 = .ok (.iload_n 1, 1) := by decide +kernel
theorem dX10_factor_30 : decode cX10_factor 30 = .ok (.iload_n 2, 1) := by decide +kernel
theorem dX10_factor_31 : decode cX10_factor 31 = .ok (.invokevirtual 231, 3) := by decide +kernel
theorem dX10_factor_34 : decode cX10_factor 34 = .ok (.lreturn, 1) := by decide +kernel
theorem dX10_says_0 : decode cX10_says 0 = .ok (.iload_n 1, 1) := by decide +kernel
theorem dX10_says_1 : decode cX10_says 1 = .ok (.aload_n 0, 1) := by decide +kernel
theorem dX10_says_2 : decode cX10_says 2 = .ok (.getfield 23, 3) := by decide +kernel
theorem dX10_says_5 : decode cX10_says 5 = .ok (.getfield 216, 3) := by decide +kernel
theorem dX10_says_8 : decode cX10_says 8 = .ok (.getfield 176, 3) := by decide +kernel
theorem dX10_says_11 : decode cX10_says 11 = .ok (.invokestatic 125, 3) := by decide +kernel
theorem dX10_says_14 : decode cX10_says 14 = .ok (.aload_n 0, 1) := by decide +kernel
theorem dX10_says_15 : decode cX10_says 15 = .ok (.aload_n 0, 1) := by decide +kernel
theorem dX10_says_16 : decode cX10_says 16 = .ok (.getfield 23, 3) := by decide +kernel
theorem dX10_says_19 : decode cX10_says 19 = .ok (.getfield 225, 3) := by decide +kernel
theorem dX10_says_22 : decode cX10_says 22 = .ok (.getfield 176, 3) := by decide +kernel
theorem dX10_says_25 : decode cX10_says 25 = .ok (.invokevirtual 228, 3) := by decide +kernel
theorem dX10_says_28 : decode cX10_says 28 = .ok (.lconst 0, 1) := by decide +kernel
theorem dX10_says_29 : decode cX10_says 29 = .ok (.lstore_n 2, 1) := by decide +kernel
theorem dX10_says_30 : decode cX10_says 30 = .ok (.iconst 0, 1) := by decide +kernel
theorem dX10_says_31 : decode cX10_says 31 = .ok (.istore 4, 2) := by decide +kernel
theorem dX10_says_33 : decode cX10_says 33 = .ok (.iload 4, 2) := by decide +kernel
theorem dX10_says_35 : decode cX10_says 35 = .ok (.aload_n 0, 1) := by decide +kernel
theorem dX10_says_36 : decode cX10_says 36 = .ok (.getfield 23, 3) := by decide +kernel
theorem dX10_says_39 : decode cX10_says 39 = .ok (.getfield 219, 3) := by decide +kernel
theorem dX10_says_42 : decode cX10_says 42 = .ok (.getfield 176, 3) := by decide +kernel
theorem dX10_says_45 : decode cX10_says 45 = .ok (.if_icmp .ge 29, 3) := by decide +kernel
theorem dX10_says_48 : decode cX10_says 48 = .ok (.lload_n 2, 1) := by decide +kernel
theorem dX10_says_49 : decode cX10_says 49 = .ok (.aload_n 0, 1) := by decide +kernel
theorem dX10_says_50 : decode cX10_says 50 = .ok (.getfield 50, 3) := by decide +kernel
theorem dX10_says_53 : decode cX10_says 53 = .ok (.iload 4, 2) := by decide +kernel
theorem dX10_says_55 : decode cX10_says 55 = .ok (.iaload, 1) := by decide +kernel
theorem dX10_says_56 : decode cX10_says 56 = .ok (.i2l, 1) := by decide +kernel
theorem dX10_says_57 : decode cX10_says 57 = .ok (.aload_n 0, 1) := by decide +kernel
theorem dX10_says_58 : decode cX10_says 58 = .ok (.iload_n 1, 1) := by decide +kernel
theorem dX10_says_59 : decode cX10_says 59 = .ok (.iload 4, 2) := by decide +kernel
theorem dX10_says_61 : decode cX10_says 61 = .ok (.invokevirtual 235, 3) := by decide +kernel
theorem dX10_says_64 : decode cX10_says 64 = .ok (.i2l, 1) := by decide +kernel
theorem dX10_says_65 : decode cX10_says 65 = .ok (.lmul, 1) := by decide +kernel
theorem dX10_says_66 : decode cX10_says 66 = .ok (.ladd, 1) := by decide +kernel
theorem dX10_says_67 : decode cX10_says 67 = .ok (.lstore_n 2, 1) := by decide +kernel
theorem dX10_says_68 : decode cX10_says 68 = .ok (.iinc 4 1, 3) := by decide +kernel
theorem dX10_says_71 : decode cX10_says 71 = .ok (.goto (-38), 3) := by decide +kernel
theorem dX10_says_74 : decode cX10_says 74 = .ok (.lconst 0, 1) := by decide +kernel
theorem dX10_says_75 : decode cX10_says 75 = .ok (.lstore 4, 2) := by decide +kernel
theorem dX10_says_77 : decode cX10_says 77 = .ok (.iconst 0, 1) := by decide +kernel
theorem dX10_says_78 : decode cX10_says 78 = .ok (.istore 6, 2) := by decide +kernel
theorem dX10_says_80 : decode cX10_says 80 = .ok (.iload 6, 2) := by decide +kernel
theorem dX10_says_82 : decode cX10_says 82 = .ok (.aload_n 0, 1) := by decide +kernel
theorem dX10_says_83 : decode cX10_says 83 = .ok (.getfield 23, 3) := by decide +kernel
theorem dX10_says_86 : decode cX10_says 86 = .ok (.getfield 219, 3) := by decide +kernel
theorem dX10_says_89 : decode cX10_says 89 = .ok (.getfield 176, 3) := by decide +kernel
theorem dX10_says_92 : decode cX10_says 92 = .ok (.if_icmp .ge 40, 3) := by decide +kernel
theorem dX10_says_95 : decode cX10_says 95 = .ok (.lload 4, 2) := by decide +kernel
theorem dX10_says_97 : decode cX10_says 97 = .ok (.aload_n 0, 1) := by decide +kernel
theorem dX10_says_98 : decode cX10_says 98 = .ok (.getfield 50, 3) := by decide +kernel
theorem dX10_says_101 : decode cX10_says 101 = .ok (.iload 6, 2) := by decide +kernel
theorem dX10_says_103 : decode cX10_says 103 = .ok (.iaload, 1) := by decide +kernel
theorem dX10_says_104 : decode cX10_says 104 = .ok (.i2l, 1) := by decide +kernel
theorem dX10_says_105 : decode cX10_says 105 = .ok (.ldc2_w 238, 3) := by decide +kernel
theorem dX10_says_108 : decode cX10_says 108 = .ok (.aload_n 0, 1) := by decide +kernel
theorem dX10_says_109 : decode cX10_says 109 = .ok (.iload_n 1, 1) := by decide +kernel
theorem dX10_says_110 : decode cX10_says 110 = .ok (.iload 6, 2) := by decide +kernel
theorem dX10_says_112 : decode cX10_says 112 = .ok (.invokevirtual 235, 3) := by decide +kernel
theorem dX10_says_115 : decode cX10_says 115 = .ok (.i2l, 1) := by decide +kernel
theorem dX10_says_116 : decode cX10_says 116 = .ok (.lmul, 1) := by decide +kernel
theorem dX10_says_117 : decode cX10_says 117 = .ok (.lload_n 2, 1) := by decide +kernel
theorem dX10_says_118 : decode cX10_says 118 = .ok (.lsub, 1) := by decide +kernel
theorem dX10_says_119 : decode cX10_says 119 = .ok (.invokestatic 240, 3) := by decide +kernel
theorem dX10_says_122 : decode cX10_says 122 = .ok (.lmul, 1) := by decide +kernel
theorem dX10_says_123 : decode cX10_says 123 = .ok (.ladd, 1) := by decide +kernel
theorem dX10_says_124 : decode cX10_says 124 = .ok (.lstore 4, 2) := by decide +kernel
theorem dX10_says_126 : decode cX10_says 126 = .ok (.iinc 6 1, 3) := by decide +kernel
theorem dX10_says_129 : decode cX10_says 129 = .ok (.goto (-49), 3) := by decide +kernel
theorem dX10_says_132 : decode cX10_says 132 = .ok (.lload 4, 2) := by decide +kernel
theorem dX10_says_134 : decode cX10_says 134 = .ok (.ldc2_w 238, 3) := by decide +kernel
theorem dX10_says_137 : decode cX10_says 137 = .ok (.ldiv, 1) := by decide +kernel
theorem dX10_says_138 : decode cX10_says 138 = .ok (.lreturn, 1) := by decide +kernel
theorem dX10_with_0 : decode cX10_with 0 = .ok (.iload_n 1, 1) := by decide +kernel
theorem dX10_with_1 : decode cX10_with 1 = .ok (.bipush 8, 2) := by decide +kernel
theorem dX10_with_3 : decode cX10_with 3 = .ok (.invokestatic 125, 3) := by decide +kernel
theorem dX10_with_6 : decode cX10_with 6 = .ok (.iload_n 2, 1) := by decide +kernel
theorem dX10_with_7 : decode cX10_with 7 = .ok (.iconst 3, 1) := by decide +kernel
theorem dX10_with_8 : decode cX10_with 8 = .ok (.invokestatic 129, 3) := by decide +kernel
theorem dX10_with_11 : decode cX10_with 11 = .ok (.iconst 0, 1) := by decide +kernel
theorem dX10_with_12 : decode cX10_with 12 = .ok (.istore_n 3, 1) := by decide +kernel
theorem dX10_with_13 : decode cX10_with 13 = .ok (.iconst 0, 1) := by decide +kernel
theorem dX10_with_14 : decode cX10_with 14 = .ok (.istore 4, 2) := by decide +kernel
theorem dX10_with_16 : decode cX10_with 16 = .ok (.iconst 0, 1) := by decide +kernel
theorem dX10_with_17 : decode cX10_with 17 = .ok (.istore 5, 2) := by decide +kernel
theorem dX10_with_19 : decode cX10_with 19 = .ok (.iconst 0, 1) := by decide +kernel
theorem dX10_with_20 : decode cX10_with 20 = .ok (.istore 6, 2) := by decide +kernel
theorem dX10_with_22 : decode cX10_with 22 = .ok (.iload 6, 2) := by decide +kernel
theorem dX10_with_24 : decode cX10_with 24 = .ok (.aload_n 0, 1) := by decide +kernel
theorem dX10_with_25 : decode cX10_with 25 = .ok (.getfield 23, 3) := by decide +kernel
theorem dX10_with_28 : decode cX10_with 28 = .ok (.getfield 225, 3) := by decide +kernel
theorem dX10_with_31 : decode cX10_with 31 = .ok (.getfield 176, 3) := by decide +kernel
theorem dX10_with_34 : decode cX10_with 34 = .ok (.if_icmp .ge 99, 3) := by decide +kernel
theorem dX10_with_37 : decode cX10_with 37 = .ok (.aload_n 0, 1) := by decide +kernel
theorem dX10_with_38 : decode cX10_with 38 = .ok (.getfield 23, 3) := by decide +kernel
theorem dX10_with_41 : decode cX10_with 41 = .ok (.getfield 225, 3) := by decide +kernel
theorem dX10_with_44 : decode cX10_with 44 = .ok (.iload 6, 2) := by decide +kernel
theorem dX10_with_46 : decode cX10_with 46 = .ok (.iconst 1, 1) := by decide +kernel
theorem dX10_with_47 : decode cX10_with 47 = .ok (.invokevirtual 246, 3) := by decide +kernel
theorem dX10_with_50 : decode cX10_with 50 = .ok (.iload_n 1, 1) := by decide +kernel
theorem dX10_with_51 : decode cX10_with 51 = .ok (.invokestatic 172, 3) := by decide +kernel
theorem dX10_with_54 : decode cX10_with 54 = .ok (.istore 7, 2) := by decide +kernel
theorem dX10_with_56 : decode cX10_with 56 = .ok (.aload_n 0, 1) := by decide +kernel
theorem dX10_with_57 : decode cX10_with 57 = .ok (.getfield 23, 3) := by decide +kernel
theorem dX10_with_60 : decode cX10_with 60 = .ok (.getfield 225, 3) := by decide +kernel
theorem dX10_with_63 : decode cX10_with 63 = .ok (.iload 6, 2) := by decide +kernel
theorem dX10_with_65 : decode cX10_with 65 = .ok (.iconst 2, 1) := by decide +kernel
theorem dX10_with_66 : decode cX10_with 66 = .ok (.invokevirtual 246, 3) := by decide +kernel
theorem dX10_with_69 : decode cX10_with 69 = .ok (.ifCond .eq 7, 3) := by decide +kernel
theorem dX10_with_72 : decode cX10_with 72 = .ok (.iconst 1, 1) := by decide +kernel
theorem dX10_with_73 : decode cX10_with 73 = .ok (.goto 4, 3) := by decide +kernel
theorem dX10_with_76 : decode cX10_with 76 = .ok (.iconst 0, 1) := by decide +kernel
theorem dX10_with_77 : decode cX10_with 77 = .ok (.istore 8, 2) := by decide +kernel
theorem dX10_with_79 : decode cX10_with 79 = .ok (.iload_n 3, 1) := by decide +kernel
theorem dX10_with_80 : decode cX10_with 80 = .ok (.iload 7, 2) := by decide +kernel
theorem dX10_with_82 : decode cX10_with 82 = .ok (.ifCond .eq 7, 3) := by decide +kernel
theorem dX10_with_85 : decode cX10_with 85 = .ok (.iconst 1, 1) := by decide +kernel
theorem dX10_with_86 : decode cX10_with 86 = .ok (.goto 4, 3) := by decide +kernel
theorem dX10_with_89 : decode cX10_with 89 = .ok (.iconst 0, 1) := by decide +kernel
theorem dX10_with_90 : decode cX10_with 90 = .ok (.iadd, 1) := by decide +kernel
theorem dX10_with_91 : decode cX10_with 91 = .ok (.istore_n 3, 1) := by decide +kernel
theorem dX10_with_92 : decode cX10_with 92 = .ok (.iload 4, 2) := by decide +kernel
theorem dX10_with_94 : decode cX10_with 94 = .ok (.iload 8, 2) := by decide +kernel
theorem dX10_with_96 : decode cX10_with 96 = .ok (.ifCond .eq 7, 3) := by decide +kernel
theorem dX10_with_99 : decode cX10_with 99 = .ok (.iconst 1, 1) := by decide +kernel
theorem dX10_with_100 : decode cX10_with 100 = .ok (.goto 4, 3) := by decide +kernel
theorem dX10_with_103 : decode cX10_with 103 = .ok (.iconst 0, 1) := by decide +kernel
theorem dX10_with_104 : decode cX10_with 104 = .ok (.iadd, 1) := by decide +kernel
theorem dX10_with_105 : decode cX10_with 105 = .ok (.istore 4, 2) := by decide +kernel
theorem dX10_with_107 : decode cX10_with 107 = .ok (.iload 5, 2) := by decide +kernel
theorem dX10_with_109 : decode cX10_with 109 = .ok (.iload 7, 2) := by decide +kernel
theorem dX10_with_111 : decode cX10_with 111 = .ok (.ifCond .eq 12, 3) := by decide +kernel
theorem dX10_with_114 : decode cX10_with 114 = .ok (.iload 8, 2) := by decide +kernel
theorem dX10_with_116 : decode cX10_with 116 = .ok (.ifCond .eq 7, 3) := by decide +kernel
theorem dX10_with_119 : decode cX10_with 119 = .ok (.iconst 1, 1) := by decide +kernel
theorem dX10_with_120 : decode cX10_with 120 = .ok (.goto 4, 3) := by decide +kernel
theorem dX10_with_123 : decode cX10_with 123 = .ok (.iconst 0, 1) := by decide +kernel
theorem dX10_with_124 : decode cX10_with 124 = .ok (.iadd, 1) := by decide +kernel
theorem dX10_with_125 : decode cX10_with 125 = .ok (.istore 5, 2) := by decide +kernel
theorem dX10_with_127 : decode cX10_with 127 = .ok (.iinc 6 1, 3) := by decide +kernel
theorem dX10_with_130 : decode cX10_with 130 = .ok (.goto (-108), 3) := by decide +kernel
theorem dX10_with_133 : decode cX10_with 133 = .ok (.iload_n 2, 1) := by decide +kernel
theorem dX10_with_134 : decode cX10_with 134 = .ok (.tableswitch 34 0 2 #[26, 29, 31], 26) := by decide +kernel
theorem dX10_with_160 : decode cX10_with 160 = .ok (.iload 5, 2) := by decide +kernel
theorem dX10_with_162 : decode cX10_with 162 = .ok (.ireturn, 1) := by decide +kernel
theorem dX10_with_163 : decode cX10_with 163 = .ok (.iload_n 3, 1) := by decide +kernel
theorem dX10_with_164 : decode cX10_with 164 = .ok (.ireturn, 1) := by decide +kernel
theorem dX10_with_165 : decode cX10_with 165 = .ok (.iload 4, 2) := by decide +kernel
theorem dX10_with_167 : decode cX10_with 167 = .ok (.ireturn, 1) := by decide +kernel
theorem dX10_with_168 : decode cX10_with 168 = .ok (.aload_n 0, 1) := by decide +kernel
theorem dX10_with_169 : decode cX10_with 169 = .ok (.iload 5, 2) := by decide +kernel
theorem dX10_with_171 : decode cX10_with 171 = .ok (.iload_n 3, 1) := by decide +kernel
theorem dX10_with_172 : decode cX10_with 172 = .ok (.iload 4, 2) := by decide +kernel
theorem dX10_with_174 : decode cX10_with 174 = .ok (.invokevirtual 249, 3) := by decide +kernel
theorem dX10_with_177 : decode cX10_with 177 = .ok (.ireturn, 1) := by decide +kernel
theorem dX10_knew_0 : decode cX10_knew 0 = .ok (.iload_n 1, 1) := by decide +kernel
theorem dX10_knew_1 : decode cX10_knew 1 = .ok (.bipush 8, 2) := by decide +kernel
theorem dX10_knew_3 : decode cX10_knew 3 = .ok (.invokestatic 222, 3) := by decide +kernel
theorem dX10_knew_6 : decode cX10_knew 6 = .ok (.ifCond .eq 15, 3) := by decide +kernel
theorem dX10_knew_9 : decode cX10_knew 9 = .ok (.iload_n 1, 1) := by decide +kernel
theorem dX10_knew_10 : decode cX10_knew 10 = .ok (.iconst 0, 1) := by decide +kernel
theorem dX10_knew_11 : decode cX10_knew 11 = .ok (.invokestatic 172, 3) := by decide +kernel
theorem dX10_knew_14 : decode cX10_knew 14 = .ok (.ifCond .ne 7, 3) := by decide +kernel
theorem dX10_knew_17 : decode cX10_knew 17 = .ok (.iconst 1, 1) := by decide +kernel
theorem dX10_knew_18 : decode cX10_knew 18 = .ok (.goto 4, 3) := by decide +kernel
theorem dX10_knew_21 : decode cX10_knew 21 = .ok (.iconst 0, 1) := by decide +kernel
theorem dX10_knew_22 : decode cX10_knew 22 = .ok (.invokestatic 69, 3) := by decide +kernel
theorem dX10_knew_25 : decode cX10_knew 25 = .ok (.aload_n 0, 1) := by decide +kernel
theorem dX10_knew_26 : decode cX10_knew 26 = .ok (.getfield 23, 3) := by decide +kernel
theorem dX10_knew_29 : decode cX10_knew 29 = .ok (.iload_n 1, 1) := by decide +kernel
theorem dX10_knew_30 : decode cX10_knew 30 = .ok (.putfield 253, 3) := by decide +kernel
theorem dX10_knew_33 : decode cX10_knew 33 = .ok (.return_, 1) := by decide +kernel
theorem dX10_told_0 : decode cX10_told 0 = .ok (.iload_n 1, 1) := by decide +kernel
theorem dX10_told_1 : decode cX10_told 1 = .ok (.bipush 8, 2) := by decide +kernel
theorem dX10_told_3 : decode cX10_told 3 = .ok (.invokestatic 125, 3) := by decide +kernel
theorem dX10_told_6 : decode cX10_told 6 = .ok (.iload_n 2, 1) := by decide +kernel
theorem dX10_told_7 : decode cX10_told 7 = .ok (.bipush 8, 2) := by decide +kernel
theorem dX10_told_9 : decode cX10_told 9 = .ok (.invokestatic 125, 3) := by decide +kernel
theorem dX10_told_12 : decode cX10_told 12 = .ok (.iload_n 1, 1) := by decide +kernel
theorem dX10_told_13 : decode cX10_told 13 = .ok (.iload_n 2, 1) := by decide +kernel
theorem dX10_told_14 : decode cX10_told 14 = .ok (.if_icmp .eq 18, 3) := by decide +kernel
theorem dX10_told_17 : decode cX10_told 17 = .ok (.iload_n 3, 1) := by decide +kernel
theorem dX10_told_18 : decode cX10_told 18 = .ok (.iconst 0, 1) := by decide +kernel
theorem dX10_told_19 : decode cX10_told 19 = .ok (.sipush 365, 3) := by decide +kernel
theorem dX10_told_22 : decode cX10_told 22 = .ok (.invokestatic 65, 3) := by decide +kernel
theorem dX10_told_25 : decode cX10_told 25 = .ok (.ifCond .eq 7, 3) := by decide +kernel
theorem dX10_told_28 : decode cX10_told 28 = .ok (.iconst 1, 1) := by decide +kernel
theorem dX10_told_29 : decode cX10_told 29 = .ok (.goto 4, 3) := by decide +kernel
theorem dX10_told_32 : decode cX10_told 32 = .ok (.iconst 0, 1) := by decide +kernel
theorem dX10_told_33 : decode cX10_told 33 = .ok (.invokestatic 69, 3) := by decide +kernel
theorem dX10_told_36 : decode cX10_told 36 = .ok (.aload_n 0, 1) := by decide +kernel
theorem dX10_told_37 : decode cX10_told 37 = .ok (.getfield 23, 3) := by decide +kernel
theorem dX10_told_40 : decode cX10_told 40 = .ok (.getfield 256, 3) := by decide +kernel
theorem dX10_told_43 : decode cX10_told 43 = .ok (.invokevirtual 77, 3) := by decide +kernel
theorem dX10_told_46 : decode cX10_told 46 = .ok (.invokestatic 83, 3) := by decide +kernel
theorem dX10_told_49 : decode cX10_told 49 = .ok (.aload_n 0, 1) := by decide +kernel
theorem dX10_told_50 : decode cX10_told 50 = .ok (.getfield 23, 3) := by decide +kernel
theorem dX10_told_53 : decode cX10_told 53 = .ok (.getfield 256, 3) := by decide +kernel
theorem dX10_told_56 : decode cX10_told 56 = .ok (.iload_n 1, 1) := by decide +kernel
theorem dX10_told_57 : decode cX10_told 57 = .ok (.iload_n 2, 1) := by decide +kernel
theorem dX10_told_58 : decode cX10_told 58 = .ok (.iload_n 3, 1) := by decide +kernel
theorem dX10_told_59 : decode cX10_told 59 = .ok (.iconst 0, 1) := by decide +kernel
theorem dX10_told_60 : decode cX10_told 60 = .ok (.iconst 0, 1) := by decide +kernel
theorem dX10_told_61 : decode cX10_told 61 = .ok (.invokevirtual 89, 3) := by decide +kernel
theorem dX10_told_64 : decode cX10_told 64 = .ok (.ireturn, 1) := by decide +kernel
theorem dX10_knows_0 : decode cX10_knows 0 = .ok (.iload_n 1, 1) := by decide +kernel
theorem dX10_knows_1 : decode cX10_knows 1 = .ok (.iconst 0, 1) := by decide +kernel
theorem dX10_knows_2 : decode cX10_knows 2 = .ok (.sipush 365, 3) := by decide +kernel
theorem dX10_knows_5 : decode cX10_knows 5 = .ok (.invokestatic 65, 3) := by decide +kernel
theorem dX10_knows_8 : decode cX10_knows 8 = .ok (.invokestatic 69, 3) := by decide +kernel
theorem dX10_knows_11 : decode cX10_knows 11 = .ok (.aload_n 0, 1) := by decide +kernel
theorem dX10_knows_12 : decode cX10_knows 12 = .ok (.iload_n 1, 1) := by decide +kernel
theorem dX10_knows_13 : decode cX10_knows 13 = .ok (.aload_n 0, 1) := by decide +kernel
theorem dX10_knows_14 : decode cX10_knows 14 = .ok (.getfield 23, 3) := by decide +kernel
theorem dX10_knows_17 : decode cX10_knows 17 = .ok (.getfield 253, 3) := by decide +kernel
theorem dX10_knows_20 : decode cX10_knows 20 = .ok (.iconst (-1), 1) := by decide +kernel
theorem dX10_knows_21 : decode cX10_knows 21 = .ok (.invokevirtual 259, 3) := by decide +kernel
theorem dX10_knows_24 : decode cX10_knows 24 = .ok (.ireturn, 1) := by decide +kernel
theorem dX10_whence_0 : decode cX10_whence 0 = .ok (.iload_n 1, 1) := by decide +kernel
theorem dX10_whence_1 : decode cX10_whence 1 = .ok (.iconst 0, 1) := by decide +kernel
theorem dX10_whence_2 : decode cX10_whence 2 = .ok (.sipush 365, 3) := by decide +kernel
theorem dX10_whence_5 : decode cX10_whence 5 = .ok (.invokestatic 65, 3) := by decide +kernel
theorem dX10_whence_8 : decode cX10_whence 8 = .ok (.invokestatic 69, 3) := by decide +kernel
theorem dX10_whence_11 : decode cX10_whence 11 = .ok (.iload_n 2, 1) := by decide +kernel
theorem dX10_whence_12 : decode cX10_whence 12 = .ok (.ifCond .eq 11, 3) := by decide +kernel
theorem dX10_whence_15 : decode cX10_whence 15 = .ok (.aload_n 0, 1) := by decide +kernel
theorem dX10_whence_16 : decode cX10_whence 16 = .ok (.iload_n 1, 1) := by decide +kernel
theorem dX10_whence_17 : decode cX10_whence 17 = .ok (.invokevirtual 262, 3) := by decide +kernel
theorem dX10_whence_20 : decode cX10_whence 20 = .ok (.goto 8, 3) := by decide +kernel
theorem dX10_whence_23 : decode cX10_whence 23 = .ok (.aload_n 0, 1) := by decide +kernel
theorem dX10_whence_24 : decode cX10_whence 24 = .ok (.iload_n 1, 1) := by decide +kernel
theorem dX10_whence_25 : decode cX10_whence 25 = .ok (.invokevirtual 265, 3) := by decide +kernel
theorem dX10_whence_28 : decode cX10_whence 28 = .ok (.ireturn, 1) := by decide +kernel
theorem dX10_knot_0 : decode cX10_knot 0 = .ok (.iload_n 1, 1) := by decide +kernel
theorem dX10_knot_1 : decode cX10_knot 1 = .ok (.iconst 1, 1) := by decide +kernel
theorem dX10_knot_2 : decode cX10_knot 2 = .ok (.bipush 99, 2) := by decide +kernel
theorem dX10_knot_4 : decode cX10_knot 4 = .ok (.invokestatic 65, 3) := by decide +kernel
theorem dX10_knot_7 : decode cX10_knot 7 = .ok (.ifCond .eq 17, 3) := by decide +kernel
theorem dX10_knot_10 : decode cX10_knot 10 = .ok (.iload_n 2, 1) := by decide +kernel
theorem dX10_knot_11 : decode cX10_knot 11 = .ok (.iconst 1, 1) := by decide +kernel
theorem dX10_knot_12 : decode cX10_knot 12 = .ok (.bipush 99, 2) := by decide +kernel
theorem dX10_knot_14 : decode cX10_knot 14 = .ok (.invokestatic 65, 3) := by decide +kernel
theorem dX10_knot_17 : decode cX10_knot 17 = .ok (.ifCond .eq 7, 3) := by decide +kernel
theorem dX10_knot_20 : decode cX10_knot 20 = .ok (.iconst 1, 1) := by decide +kernel
theorem dX10_knot_21 : decode cX10_knot 21 = .ok (.goto 4, 3) := by decide +kernel
theorem dX10_knot_24 : decode cX10_knot 24 = .ok (.iconst 0, 1) := by decide +kernel
theorem dX10_knot_25 : decode cX10_knot 25 = .ok (.invokestatic 69, 3) := by decide +kernel
theorem dX10_knot_28 : decode cX10_knot 28 = .ok (.iload_n 3, 1) := by decide +kernel
theorem dX10_knot_29 : decode cX10_knot 29 = .ok (.iconst 0, 1) := by decide +kernel
theorem dX10_knot_30 : decode cX10_knot 30 = .ok (.bipush 50, 2) := by decide +kernel
theorem dX10_knot_32 : decode cX10_knot 32 = .ok (.invokestatic 65, 3) := by decide +kernel
theorem dX10_knot_35 : decode cX10_knot 35 = .ok (.ifCond .eq 18, 3) := by decide +kernel
theorem dX10_knot_38 : decode cX10_knot 38 = .ok (.iload 4, 2) := by decide +kernel
theorem dX10_knot_40 : decode cX10_knot 40 = .ok (.iconst 0, 1) := by decide +kernel
theorem dX10_knot_41 : decode cX10_knot 41 = .ok (.bipush 50, 2) := by decide +kernel
theorem dX10_knot_43 : decode cX10_knot 43 = .ok (.invokestatic 65, 3) := by decide +kernel
theorem dX10_knot_46 : decode cX10_knot 46 = .ok (.ifCond .eq 7, 3) := by decide +kernel
theorem dX10_knot_49 : decode cX10_knot 49 = .ok (.iconst 1, 1) := by decide +kernel
theorem dX10_knot_50 : decode cX10_knot 50 = .ok (.goto 4, 3) := by decide +kernel
theorem dX10_knot_53 : decode cX10_knot 53 = .ok (.iconst 0, 1) := by decide +kernel
theorem dX10_knot_54 : decode cX10_knot 54 = .ok (.invokestatic 69, 3) := by decide +kernel
theorem dX10_knot_57 : decode cX10_knot 57 = .ok (.aload_n 0, 1) := by decide +kernel
theorem dX10_knot_58 : decode cX10_knot 58 = .ok (.getfield 23, 3) := by decide +kernel
theorem dX10_knot_61 : decode cX10_knot 61 = .ok (.getfield 268, 3) := by decide +kernel
theorem dX10_knot_64 : decode cX10_knot 64 = .ok (.invokevirtual 77, 3) := by decide +kernel
theorem dX10_knot_67 : decode cX10_knot 67 = .ok (.invokestatic 83, 3) := by decide +kernel
theorem dX10_knot_70 : decode cX10_knot 70 = .ok (.aload_n 0, 1) := by decide +kernel
theorem dX10_knot_71 : decode cX10_knot 71 = .ok (.getfield 23, 3) := by decide +kernel
theorem dX10_knot_74 : decode cX10_knot 74 = .ok (.getfield 268, 3) := by decide +kernel
theorem dX10_knot_77 : decode cX10_knot 77 = .ok (.iload_n 1, 1) := by decide +kernel
theorem dX10_knot_78 : decode cX10_knot 78 = .ok (.iload_n 2, 1) := by decide +kernel
theorem dX10_knot_79 : decode cX10_knot 79 = .ok (.iload_n 3, 1) := by decide +kernel
theorem dX10_knot_80 : decode cX10_knot 80 = .ok (.iload 4, 2) := by decide +kernel
theorem dX10_knot_82 : decode cX10_knot 82 = .ok (.iconst 0, 1) := by decide +kernel
theorem dX10_knot_83 : decode cX10_knot 83 = .ok (.invokevirtual 89, 3) := by decide +kernel
theorem dX10_knot_86 : decode cX10_knot 86 = .ok (.ireturn, 1) := by decide +kernel
theorem dX10_rope_0 : decode cX10_rope 0 = .ok (.iload_n 1, 1) := by decide +kernel
theorem dX10_rope_1 : decode cX10_rope 1 = .ok (.iconst 0, 1) := by decide +kernel
theorem dX10_rope_2 : decode cX10_rope 2 = .ok (.bipush 50, 2) := by decide +kernel
theorem dX10_rope_4 : decode cX10_rope 4 = .ok (.invokestatic 65, 3) := by decide +kernel
theorem dX10_rope_7 : decode cX10_rope 7 = .ok (.invokestatic 69, 3) := by decide +kernel
theorem dX10_rope_10 : decode cX10_rope 10 = .ok (.aload_n 0, 1) := by decide +kernel
theorem dX10_rope_11 : decode cX10_rope 11 = .ok (.getfield 23, 3) := by decide +kernel
theorem dX10_rope_14 : decode cX10_rope 14 = .ok (.iload_n 1, 1) := by decide +kernel
theorem dX10_rope_15 : decode cX10_rope 15 = .ok (.putfield 271, 3) := by decide +kernel
theorem dX10_rope_18 : decode cX10_rope 18 = .ok (.return_, 1) := by decide +kernel
theorem dX10_out_0 : decode cX10_out 0 = .ok (.iload_n 2, 1) := by decide +kernel
theorem dX10_out_1 : decode cX10_out 1 = .ok (.ifCond .eq 14, 3) := by decide +kernel
theorem dX10_out_4 : decode cX10_out 4 = .ok (.aload_n 0, 1) := by decide +kernel
theorem dX10_out_5 : decode cX10_out 5 = .ok (.getfield 42, 3) := by decide +kernel
theorem dX10_out_8 : decode cX10_out 8 = .ok (.iload_n 1, 1) := by decide +kernel
theorem dX10_out_9 : decode cX10_out 9 = .ok (.invokevirtual 274, 3) := by decide +kernel
theorem dX10_out_12 : decode cX10_out 12 = .ok (.goto 11, 3) := by decide +kernel
theorem dX10_out_15 : decode cX10_out 15 = .ok (.aload_n 0, 1) := by decide +kernel
theorem dX10_out_16 : decode cX10_out 16 = .ok (.getfield 42, 3) := by decide +kernel
theorem dX10_out_19 : decode cX10_out 19 = .ok (.iload_n 1, 1) := by decide +kernel
theorem dX10_out_20 : decode cX10_out 20 = .ok (.invokevirtual 277, 3) := by decide +kernel
theorem dX10_out_23 : decode cX10_out 23 = .ok (.ireturn, 1) := by decide +kernel
theorem dX10_first_0 : decode cX10_first 0 = .ok (.aload_n 0, 1) := by decide +kernel
theorem dX10_first_1 : decode cX10_first 1 = .ok (.getfield 42, 3) := by decide +kernel
theorem dX10_first_4 : decode cX10_first 4 = .ok (.iload_n 1, 1) := by decide +kernel
theorem dX10_first_5 : decode cX10_first 5 = .ok (.invokevirtual 280, 3) := by decide +kernel
theorem dX10_first_8 : decode cX10_first 8 = .ok (.ireturn, 1) := by decide +kernel
theorem dX10_tale_0 : decode cX10_tale 0 = .ok (.iload_n 1, 1) := by decide +kernel
theorem dX10_tale_1 : decode cX10_tale 1 = .ok (.iconst 0, 1) := by decide +kernel
theorem dX10_tale_2 : decode cX10_tale 2 = .ok (.sipush 9999, 3) := by decide +kernel
theorem dX10_tale_5 : decode cX10_tale 5 = .ok (.invokestatic 65, 3) := by decide +kernel
theorem dX10_tale_8 : decode cX10_tale 8 = .ok (.ifCond .eq 27, 3) := by decide +kernel
theorem dX10_tale_11 : decode cX10_tale 11 = .ok (.iload_n 2, 1) := by decide +kernel
theorem dX10_tale_12 : decode cX10_tale 12 = .ok (.iconst 0, 1) := by decide +kernel
theorem dX10_tale_13 : decode cX10_tale 13 = .ok (.bipush 100, 2) := by decide +kernel
theorem dX10_tale_15 : decode cX10_tale 15 = .ok (.invokestatic 65, 3) := by decide +kernel
theorem dX10_tale_18 : decode cX10_tale 18 = .ok (.ifCond .eq 17, 3) := by decide +kernel
theorem dX10_tale_21 : decode cX10_tale 21 = .ok (.iload_n 3, 1) := by decide +kernel
theorem dX10_tale_22 : decode cX10_tale 22 = .ok (.iconst 0, 1) := by decide +kernel
theorem dX10_tale_23 : decode cX10_tale 23 = .ok (.bipush 20, 2) := by decide +kernel
theorem dX10_tale_25 : decode cX10_tale 25 = .ok (.invokestatic 65, 3) := by decide +kernel
theorem dX10_tale_28 : decode cX10_tale 28 = .ok (.ifCond .eq 7, 3) := by decide +kernel
theorem dX10_tale_31 : decode cX10_tale 31 = .ok (.iconst 1, 1) := by decide +kernel
theorem dX10_tale_32 : decode cX10_tale 32 = .ok (.goto 4, 3) := by decide +kernel
theorem dX10_tale_35 : decode cX10_tale 35 = .ok (.iconst 0, 1) := by decide +kernel
theorem dX10_tale_36 : decode cX10_tale 36 = .ok (.invokestatic 69, 3) := by decide +kernel
theorem dX10_tale_39 : decode cX10_tale 39 = .ok (.iload_n 1, 1) := by decide +kernel
theorem dX10_tale_40 : decode cX10_tale 40 = .ok (.i2l, 1) := by decide +kernel
theorem dX10_tale_41 : decode cX10_tale 41 = .ok (.lstore 4, 2) := by decide +kernel
theorem dX10_tale_43 : decode cX10_tale 43 = .ok (.iconst 0, 1) := by decide +kernel
theorem dX10_tale_44 : decode cX10_tale 44 = .ok (.istore 6, 2) := by decide +kernel
theorem dX10_tale_46 : decode cX10_tale 46 = .ok (.iload 6, 2) := by decide +kernel
theorem dX10_tale_48 : decode cX10_tale 48 = .ok (.iload_n 3, 1) := by decide +kernel
theorem dX10_tale_49 : decode cX10_tale 49 = .ok (.if_icmp .ge 33, 3) := by decide +kernel
theorem dX10_tale_52 : decode cX10_tale 52 = .ok (.lload 4, 2) := by decide +kernel
theorem dX10_tale_54 : decode cX10_tale 54 = .ok (.lload 4, 2) := by decide +kernel
theorem dX10_tale_56 : decode cX10_tale 56 = .ok (.iload_n 2, 1) := by decide +kernel
theorem dX10_tale_57 : decode cX10_tale 57 = .ok (.i2l, 1) := by decide +kernel
theorem dX10_tale_58 : decode cX10_tale 58 = .ok (.lmul, 1) := by decide +kernel
theorem dX10_tale_59 : decode cX10_tale 59 = .ok (.ldc2_w 283, 3) := by decide +kernel
theorem dX10_tale_62 : decode cX10_tale 62 = .ok (.ladd, 1) := by decide +kernel
theorem dX10_tale_63 : decode cX10_tale 63 = .ok (.ldc2_w 285, 3) := by decide +kernel
theorem dX10_tale_66 : decode cX10_tale 66 = .ok (.ldiv, 1) := by decide +kernel
theorem dX10_tale_67 : decode cX10_tale 67 = .ok (.ladd, 1) := by decide +kernel
theorem dX10_tale_68 : decode cX10_tale 68 = .ok (.ldc2_w 287, 3) := by decide +kernel
theorem dX10_tale_71 : decode cX10_tale 71 = .ok (.invokestatic 289, 3) := by decide +kernel
theorem dX10_tale_74 : decode cX10_tale 74 = .ok (.lstore 4, 2) := by decide +kernel
theorem dX10_tale_76 : decode cX10_tale 76 = .ok (.iinc 6 1, 3) := by decide +kernel
theorem dX10_tale_79 : decode cX10_tale 79 = .ok (.goto (-33), 3) := by decide +kernel
theorem dX10_tale_82 : decode cX10_tale 82 = .ok (.lload 4, 2) := by decide +kernel
theorem dX10_tale_84 : decode cX10_tale 84 = .ok (.l2i, 1) := by decide +kernel
theorem dX10_tale_85 : decode cX10_tale 85 = .ok (.ireturn, 1) := by decide +kernel
theorem dX10_cold_0 : decode cX10_cold 0 = .ok (.iload_n 1, 1) := by decide +kernel
theorem dX10_cold_1 : decode cX10_cold 1 = .ok (.bipush 8, 2) := by decide +kernel
theorem dX10_cold_3 : decode cX10_cold 3 = .ok (.invokestatic 222, 3) := by decide +kernel
theorem dX10_cold_6 : decode cX10_cold 6 = .ok (.ifCond .eq 27, 3) := by decide +kernel
theorem dX10_cold_9 : decode cX10_cold 9 = .ok (.iload_n 2, 1) := by decide +kernel
theorem dX10_cold_10 : decode cX10_cold 10 = .ok (.iconst 0, 1) := by decide +kernel
theorem dX10_cold_11 : decode cX10_cold 11 = .ok (.bipush 99, 2) := by decide +kernel
theorem dX10_cold_13 : decode cX10_cold 13 = .ok (.invokestatic 65, 3) := by decide +kernel
theorem dX10_cold_16 : decode cX10_cold 16 = .ok (.ifCond .eq 17, 3) := by decide +kernel
theorem dX10_cold_19 : decode cX10_cold 19 = .ok (.iload_n 3, 1) := by decide +kernel
theorem dX10_cold_20 : decode cX10_cold 20 = .ok (.iconst 0, 1) := by decide +kernel
theorem dX10_cold_21 : decode cX10_cold 21 = .ok (.bipush 7, 2) := by decide +kernel
theorem dX10_cold_23 : decode cX10_cold 23 = .ok (.invokestatic 65, 3) := by decide +kernel
theorem dX10_cold_26 : decode cX10_cold 26 = .ok (.ifCond .eq 7, 3) := by decide +kernel
theorem dX10_cold_29 : decode cX10_cold 29 = .ok (.iconst 1, 1) := by decide +kernel
theorem dX10_cold_30 : decode cX10_cold 30 = .ok (.goto 4, 3) := by decide +kernel
theorem dX10_cold_33 : decode cX10_cold 33 = .ok (.iconst 0, 1) := by decide +kernel
theorem dX10_cold_34 : decode cX10_cold 34 = .ok (.invokestatic 69, 3) := by decide +kernel
theorem dX10_cold_37 : decode cX10_cold 37 = .ok (.iconst 0, 1) := by decide +kernel
theorem dX10_cold_38 : decode cX10_cold 38 = .ok (.istore 4, 2) := by decide +kernel
theorem dX10_cold_40 : decode cX10_cold 40 = .ok (.iconst 0, 1) := by decide +kernel
theorem dX10_cold_41 : decode cX10_cold 41 = .ok (.istore 5, 2) := by decide +kernel
theorem dX10_cold_43 : decode cX10_cold 43 = .ok (.iload 5, 2) := by decide +kernel
theorem dX10_cold_45 : decode cX10_cold 45 = .ok (.bipush 8, 2) := by decide +kernel
theorem dX10_cold_47 : decode cX10_cold 47 = .ok (.if_icmp .ge 48, 3) := by decide +kernel
theorem dX10_cold_50 : decode cX10_cold 50 = .ok (.iload 5, 2) := by decide +kernel
theorem dX10_cold_52 : decode cX10_cold 52 = .ok (.iload_n 3, 1) := by decide +kernel
theorem dX10_cold_53 : decode cX10_cold 53 = .ok (.isub, 1) := by decide +kernel
theorem dX10_cold_54 : decode cX10_cold 54 = .ok (.invokestatic 293, 3) := by decide +kernel
theorem dX10_cold_57 : decode cX10_cold 57 = .ok (.istore 6, 2) := by decide +kernel
theorem dX10_cold_59 : decode cX10_cold 59 = .ok (.iload_n 1, 1) := by decide +kernel
theorem dX10_cold_60 : decode cX10_cold 60 = .ok (.iload 5, 2) := by decide +kernel
theorem dX10_cold_62 : decode cX10_cold 62 = .ok (.invokestatic 172, 3) := by decide +kernel
theorem dX10_cold_65 : decode cX10_cold 65 = .ok (.ifCond .eq 24, 3) := by decide +kernel
theorem dX10_cold_68 : decode cX10_cold 68 = .ok (.iload 4, 2) := by decide +kernel
theorem dX10_cold_70 : decode cX10_cold 70 = .ok (.iload_n 2, 1) := by decide +kernel
theorem dX10_cold_71 : decode cX10_cold 71 = .ok (.iconst 2, 1) := by decide +kernel
theorem dX10_cold_72 : decode cX10_cold 72 = .ok (.iload 6, 2) := by decide +kernel
theorem dX10_cold_74 : decode cX10_cold 74 = .ok (.bipush 8, 2) := by decide +kernel
theorem dX10_cold_76 : decode cX10_cold 76 = .ok (.iload 6, 2) := by decide +kernel
theorem dX10_cold_78 : decode cX10_cold 78 = .ok (.isub, 1) := by decide +kernel
theorem dX10_cold_79 : decode cX10_cold 79 = .ok (.invokestatic 295, 3) := by decide +kernel
theorem dX10_cold_82 : decode cX10_cold 82 = .ok (.imul, 1) := by decide +kernel
theorem dX10_cold_83 : decode cX10_cold 83 = .ok (.isub, 1) := by decide +kernel
theorem dX10_cold_84 : decode cX10_cold 84 = .ok (.invokestatic 297, 3) := by decide +kernel
theorem dX10_cold_87 : decode cX10_cold 87 = .ok (.istore 4, 2) := by decide +kernel
theorem dX10_cold_89 : decode cX10_cold 89 = .ok (.iinc 5 1, 3) := by decide +kernel
theorem dX10_cold_92 : decode cX10_cold 92 = .ok (.goto (-49), 3) := by decide +kernel
theorem dX10_cold_95 : decode cX10_cold 95 = .ok (.iload 4, 2) := by decide +kernel
theorem dX10_cold_97 : decode cX10_cold 97 = .ok (.ireturn, 1) := by decide +kernel
theorem dX10_image_0 : decode cX10_image 0 = .ok (.aload_n 0, 1) := by decide +kernel
theorem dX10_image_1 : decode cX10_image 1 = .ok (.getfield 27, 3) := by decide +kernel
theorem dX10_image_4 : decode cX10_image 4 = .ok (.aload_n 0, 1) := by decide +kernel
theorem dX10_image_5 : decode cX10_image 5 = .ok (.getfield 23, 3) := by decide +kernel
theorem dX10_image_8 : decode cX10_image 8 = .ok (.invokevirtual 300, 3) := by decide +kernel
theorem dX10_image_11 : decode cX10_image 11 = .ok (.aload_n 0, 1) := by decide +kernel
theorem dX10_image_12 : decode cX10_image 12 = .ok (.iconst 1, 1) := by decide +kernel
theorem dX10_image_13 : decode cX10_image 13 = .ok (.putfield 303, 3) := by decide +kernel
theorem dX10_image_16 : decode cX10_image 16 = .ok (.return_, 1) := by decide +kernel
theorem dX10_back_0 : decode cX10_back 0 = .ok (.aload_n 0, 1) := by decide +kernel
theorem dX10_back_1 : decode cX10_back 1 = .ok (.getfield 303, 3) := by decide +kernel
theorem dX10_back_4 : decode cX10_back 4 = .ok (.ifCond .ne 5, 3) := by decide +kernel
theorem dX10_back_7 : decode cX10_back 7 = .ok (.iconst 0, 1) := by decide +kernel
theorem dX10_back_8 : decode cX10_back 8 = .ok (.ireturn, 1) := by decide +kernel
theorem dX10_back_9 : decode cX10_back 9 = .ok (.aload_n 0, 1) := by decide +kernel
theorem dX10_back_10 : decode cX10_back 10 = .ok (.getfield 23, 3) := by decide +kernel
theorem dX10_back_13 : decode cX10_back 13 = .ok (.aload_n 0, 1) := by decide +kernel
theorem dX10_back_14 : decode cX10_back 14 = .ok (.getfield 27, 3) := by decide +kernel
theorem dX10_back_17 : decode cX10_back 17 = .ok (.invokevirtual 300, 3) := by decide +kernel
theorem dX10_back_20 : decode cX10_back 20 = .ok (.aload_n 0, 1) := by decide +kernel
theorem dX10_back_21 : decode cX10_back 21 = .ok (.getfield 35, 3) := by decide +kernel
theorem dX10_back_24 : decode cX10_back 24 = .ok (.invokevirtual 86, 3) := by decide +kernel
theorem dX10_back_27 : decode cX10_back 27 = .ok (.iconst 1, 1) := by decide +kernel
theorem dX10_back_28 : decode cX10_back 28 = .ok (.ireturn, 1) := by decide +kernel
theorem dX10_count_0 : decode cX10_count 0 = .ok (.iload_n 1, 1) := by decide +kernel
theorem dX10_count_1 : decode cX10_count 1 = .ok (.tableswitch 159 0 9 #[55, 66, 74, 82, 93, 104, 115, 126, 137, 148], 55) := by decide +kernel
theorem dX10_count_56 : decode cX10_count 56 = .ok (.aload_n 0, 1) := by decide +kernel
theorem dX10_count_57 : decode cX10_count 57 = .ok (.getfield 23, 3) := by decide +kernel
theorem dX10_count_60 : decode cX10_count 60 = .ok (.getfield 73, 3) := by decide +kernel
theorem dX10_count_63 : decode cX10_count 63 = .ok (.getfield 176, 3) := by decide +kernel
theorem dX10_count_66 : decode cX10_count 66 = .ok (.ireturn, 1) := by decide +kernel
theorem dX10_count_67 : decode cX10_count 67 = .ok (.aload_n 0, 1) := by decide +kernel
theorem dX10_count_68 : decode cX10_count 68 = .ok (.getfield 23, 3) := by decide +kernel
theorem dX10_count_71 : decode cX10_count 71 = .ok (.getfield 97, 3) := by decide +kernel
theorem dX10_count_74 : decode cX10_count 74 = .ok (.ireturn, 1) := by decide +kernel
theorem dX10_count_75 : decode cX10_count 75 = .ok (.aload_n 0, 1) := by decide +kernel
theorem dX10_count_76 : decode cX10_count 76 = .ok (.getfield 23, 3) := by decide +kernel
theorem dX10_count_79 : decode cX10_count 79 = .ok (.getfield 108, 3) := by decide +kernel
theorem dX10_count_82 : decode cX10_count 82 = .ok (.ireturn, 1) := by decide +kernel
theorem dX10_count_83 : decode cX10_count 83 = .ok (.aload_n 0, 1) := by decide +kernel
theorem dX10_count_84 : decode cX10_count 84 = .ok (.getfield 23, 3) := by decide +kernel
theorem dX10_count_87 : decode cX10_count 87 = .ok (.getfield 122, 3) := by decide +kernel
theorem dX10_count_90 : decode cX10_count 90 = .ok (.getfield 176, 3) := by decide +kernel
theorem dX10_count_93 : decode cX10_count 93 = .ok (.ireturn, 1) := by decide +kernel
theorem dX10_count_94 : decode cX10_count 94 = .ok (.aload_n 0, 1) := by decide +kernel
theorem dX10_count_95 : decode cX10_count 95 = .ok (.getfield 23, 3) := by decide +kernel
theorem dX10_count_98 : decode cX10_count 98 = .ok (.getfield 179, 3) := by decide +kernel
theorem dX10_count_101 : decode cX10_count 101 = .ok (.getfield 176, 3) := by decide +kernel
theorem dX10_count_104 : decode cX10_count 104 = .ok (.ireturn, 1) := by decide +kernel
theorem dX10_count_105 : decode cX10_count 105 = .ok (.aload_n 0, 1) := by decide +kernel
theorem dX10_count_106 : decode cX10_count 106 = .ok (.getfield 23, 3) := by decide +kernel
theorem dX10_count_109 : decode cX10_count 109 = .ok (.getfield 216, 3) := by decide +kernel
theorem dX10_count_112 : decode cX10_count 112 = .ok (.getfield 176, 3) := by decide +kernel
theorem dX10_count_115 : decode cX10_count 115 = .ok (.ireturn, 1) := by decide +kernel
theorem dX10_count_116 : decode cX10_count 116 = .ok (.aload_n 0, 1) := by decide +kernel
theorem dX10_count_117 : decode cX10_count 117 = .ok (.getfield 23, 3) := by decide +kernel
theorem dX10_count_120 : decode cX10_count 120 = .ok (.getfield 219, 3) := by decide +kernel
theorem dX10_count_123 : decode cX10_count 123 = .ok (.getfield 176, 3) := by decide +kernel
theorem dX10_count_126 : decode cX10_count 126 = .ok (.ireturn, 1) := by decide +kernel
theorem dX10_count_127 : decode cX10_count 127 = .ok (.aload_n 0, 1) := by decide +kernel
theorem dX10_count_128 : decode cX10_count 128 = .ok (.getfield 23, 3) := by decide +kernel
theorem dX10_count_131 : decode cX10_count 131 = .ok (.getfield 225, 3) := by decide +kernel
theorem dX10_count_134 : decode cX10_count 134 = .ok (.getfield 176, 3) := by decide +kernel
theorem dX10_count_137 : decode cX10_count 137 = .ok (.ireturn, 1) := by decide +kernel
theorem dX10_count_138 : decode cX10_count 138 = .ok (.aload_n 0, 1) := by decide +kernel
theorem dX10_count_139 : decode cX10_count 139 = .ok (.getfield 23, 3) := by decide +kernel
theorem dX10_count_142 : decode cX10_count 142 = .ok (.getfield 256, 3) := by decide +kernel
theorem dX10_count_145 : decode cX10_count 145 = .ok (.getfield 176, 3) := by decide +kernel
theorem dX10_count_148 : decode cX10_count 148 = .ok (.ireturn, 1) := by decide +kernel
theorem dX10_count_149 : decode cX10_count 149 = .ok (.aload_n 0, 1) := by decide +kernel
theorem dX10_count_150 : decode cX10_count 150 = .ok (.getfield 23, 3) := by decide +kernel
theorem dX10_count_153 : decode cX10_count 153 = .ok (.getfield 268, 3) := by decide +kernel
theorem dX10_count_156 : decode cX10_count 156 = .ok (.getfield 176, 3) := by decide +kernel
theorem dX10_count_159 : decode cX10_count 159 = .ok (.ireturn, 1) := by decide +kernel
theorem dX10_count_160 : decode cX10_count 160 = .ok (.iconst (-1), 1) := by decide +kernel
theorem dX10_count_161 : decode cX10_count 161 = .ok (.ireturn, 1) := by decide +kernel
theorem dX10_demand_0 : decode cX10_demand 0 = .ok (.iload_n 0, 1) := by decide +kernel
theorem dX10_demand_1 : decode cX10_demand 1 = .ok (.ifCond .ne 14, 3) := by decide +kernel
theorem dX10_demand_4 : decode cX10_demand 4 = .ok (.new 307, 3) := by decide +kernel
theorem dX10_demand_7 : decode cX10_demand 7 = .ok (.dup, 1) := by decide +kernel
theorem dX10_demand_8 : decode cX10_demand 8 = .ok (.ldc_w 309, 3) := by decide +kernel
theorem dX10_demand_11 : decode cX10_demand 11 = .ok (.invokespecial 311, 3) := by decide +kernel
theorem dX10_demand_14 : decode cX10_demand 14 = .ok (.athrow, 1) := by decide +kernel
theorem dX10_demand_15 : decode cX10_demand 15 = .ok (.return_, 1) := by decide +kernel
theorem dX10_demandRow_0 : decode cX10_demandRow 0 = .ok (.iload_n 0, 1) := by decide +kernel
theorem dX10_demandRow_1 : decode cX10_demandRow 1 = .ok (.ifCond .lt 8, 3) := by decide +kernel
theorem dX10_demandRow_4 : decode cX10_demandRow 4 = .ok (.iload_n 0, 1) := by decide +kernel
theorem dX10_demandRow_5 : decode cX10_demandRow 5 = .ok (.iload_n 1, 1) := by decide +kernel
theorem dX10_demandRow_6 : decode cX10_demandRow 6 = .ok (.if_icmp .lt 14, 3) := by decide +kernel
theorem dX10_demandRow_9 : decode cX10_demandRow 9 = .ok (.new 314, 3) := by decide +kernel
theorem dX10_demandRow_12 : decode cX10_demandRow 12 = .ok (.dup, 1) := by decide +kernel
theorem dX10_demandRow_13 : decode cX10_demandRow 13 = .ok (.ldc_w 316, 3) := by decide +kernel
theorem dX10_demandRow_16 : decode cX10_demandRow 16 = .ok (.invokespecial 318, 3) := by decide +kernel
theorem dX10_demandRow_19 : decode cX10_demandRow 19 = .ok (.athrow, 1) := by decide +kernel
theorem dX10_demandRow_20 : decode cX10_demandRow 20 = .ok (.return_, 1) := by decide +kernel
theorem dX10_demandRoom_0 : decode cX10_demandRoom 0 = .ok (.iload_n 0, 1) := by decide +kernel
theorem dX10_demandRoom_1 : decode cX10_demandRoom 1 = .ok (.ifCond .ne 14, 3) := by decide +kernel
theorem dX10_demandRoom_4 : decode cX10_demandRoom 4 = .ok (.new 319, 3) := by decide +kernel
theorem dX10_demandRoom_7 : decode cX10_demandRoom 7 = .ok (.dup, 1) := by decide +kernel
theorem dX10_demandRoom_8 : decode cX10_demandRoom 8 = .ok (.ldc_w 321, 3) := by decide +kernel
theorem dX10_demandRoom_11 : decode cX10_demandRoom 11 = .ok (.invokespecial 323, 3) := by decide +kernel
theorem dX10_demandRoom_14 : decode cX10_demandRoom 14 = .ok (.athrow, 1) := by decide +kernel
theorem dX10_demandRoom_15 : decode cX10_demandRoom 15 = .ok (.return_, 1) := by decide +kernel
theorem dX10_demandWhat_0 : decode cX10_demandWhat 0 = .ok (.iload_n 0, 1) := by decide +kernel
theorem dX10_demandWhat_1 : decode cX10_demandWhat 1 = .ok (.ifCond .lt 8, 3) := by decide +kernel
theorem dX10_demandWhat_4 : decode cX10_demandWhat 4 = .ok (.iload_n 0, 1) := by decide +kernel
theorem dX10_demandWhat_5 : decode cX10_demandWhat 5 = .ok (.iload_n 1, 1) := by decide +kernel
theorem dX10_demandWhat_6 : decode cX10_demandWhat 6 = .ok (.if_icmp .le 14, 3) := by decide +kernel
theorem dX10_demandWhat_9 : decode cX10_demandWhat 9 = .ok (.new 324, 3) := by decide +kernel
theorem dX10_demandWhat_12 : decode cX10_demandWhat 12 = .ok (.dup, 1) := by decide +kernel
theorem dX10_demandWhat_13 : decode cX10_demandWhat 13 = .ok (.ldc_w 326, 3) := by decide +kernel
theorem dX10_demandWhat_16 : decode cX10_demandWhat 16 = .ok (.invokespecial 328, 3) := by decide +kernel
theorem dX10_demandWhat_19 : decode cX10_demandWhat 19 = .ok (.athrow, 1) := by decide +kernel
theorem dX10_demandWhat_20 : decode cX10_demandWhat 20 = .ok (.return_, 1) := by decide +kernel
theorem dX10_isBetween_0 : decode cX10_isBetween 0 = .ok (.iload_n 0, 1) := by decide +kernel
theorem dX10_isBetween_1 : decode cX10_isBetween 1 = .ok (.iload_n 1, 1) := by decide +kernel
theorem dX10_isBetween_2 : decode cX10_isBetween 2 = .ok (.if_icmp .lt 12, 3) := by decide +kernel
theorem dX10_isBetween_5 : decode cX10_isBetween 5 = .ok (.iload_n 0, 1) := by decide +kernel
theorem dX10_isBetween_6 : decode cX10_isBetween 6 = .ok (.iload_n 2, 1) := by decide +kernel
theorem dX10_isBetween_7 : decode cX10_isBetween 7 = .ok (.if_icmp .gt 7, 3) := by decide +kernel
theorem dX10_isBetween_10 : decode cX10_isBetween 10 = .ok (.iconst 1, 1) := by decide +kernel
theorem dX10_isBetween_11 : decode cX10_isBetween 11 = .ok (.goto 4, 3) := by decide +kernel
theorem dX10_isBetween_14 : decode cX10_isBetween 14 = .ok (.iconst 0, 1) := by decide +kernel
theorem dX10_isBetween_15 : decode cX10_isBetween 15 = .ok (.ireturn, 1) := by decide +kernel
theorem dX10_isOfFirst_0 : decode cX10_isOfFirst 0 = .ok (.iload_n 0, 1) := by decide +kernel
theorem dX10_isOfFirst_1 : decode cX10_isOfFirst 1 = .ok (.iload_n 1, 1) := by decide +kernel
theorem dX10_isOfFirst_2 : decode cX10_isOfFirst 2 = .ok (.invokestatic 329, 3) := by decide +kernel
theorem dX10_isOfFirst_5 : decode cX10_isOfFirst 5 = .ok (.iconst (-1), 1) := by decide +kernel
theorem dX10_isOfFirst_6 : decode cX10_isOfFirst 6 = .ok (.ixor, 1) := by decide +kernel
theorem dX10_isOfFirst_7 : decode cX10_isOfFirst 7 = .ok (.iand, 1) := by decide +kernel
theorem dX10_isOfFirst_8 : decode cX10_isOfFirst 8 = .ok (.ifCond .ne 7, 3) := by decide +kernel
theorem dX10_isOfFirst_11 : decode cX10_isOfFirst 11 = .ok (.iconst 1, 1) := by decide +kernel
theorem dX10_isOfFirst_12 : decode cX10_isOfFirst 12 = .ok (.goto 4, 3) := by decide +kernel
theorem dX10_isOfFirst_15 : decode cX10_isOfFirst 15 = .ok (.iconst 0, 1) := by decide +kernel
theorem dX10_isOfFirst_16 : decode cX10_isOfFirst 16 = .ok (.ireturn, 1) := by decide +kernel
theorem dX10_firstBits_0 : decode cX10_firstBits 0 = .ok (.iconst 1, 1) := by decide +kernel
theorem dX10_firstBits_1 : decode cX10_firstBits 1 = .ok (.iload_n 0, 1) := by decide +kernel
theorem dX10_firstBits_2 : decode cX10_firstBits 2 = .ok (.ishl, 1) := by decide +kernel
theorem dX10_firstBits_3 : decode cX10_firstBits 3 = .ok (.iconst 1, 1) := by decide +kernel
theorem dX10_firstBits_4 : decode cX10_firstBits 4 = .ok (.isub, 1) := by decide +kernel
theorem dX10_firstBits_5 : decode cX10_firstBits 5 = .ok (.ireturn, 1) := by decide +kernel
theorem dX10_hasBit_0 : decode cX10_hasBit 0 = .ok (.iload_n 0, 1) := by decide +kernel
theorem dX10_hasBit_1 : decode cX10_hasBit 1 = .ok (.iload_n 1, 1) := by decide +kernel
theorem dX10_hasBit_2 : decode cX10_hasBit 2 = .ok (.ishr, 1) := by decide +kernel
theorem dX10_hasBit_3 : decode cX10_hasBit 3 = .ok (.iconst 1, 1) := by decide +kernel
theorem dX10_hasBit_4 : decode cX10_hasBit 4 = .ok (.iand, 1) := by decide +kernel
theorem dX10_hasBit_5 : decode cX10_hasBit 5 = .ok (.iconst 1, 1) := by decide +kernel
theorem dX10_hasBit_6 : decode cX10_hasBit 6 = .ok (.if_icmp .ne 7, 3) := by decide +kernel
theorem dX10_hasBit_9 : decode cX10_hasBit 9 = .ok (.iconst 1, 1) := by decide +kernel
theorem dX10_hasBit_10 : decode cX10_hasBit 10 = .ok (.goto 4, 3) := by decide +kernel
theorem dX10_hasBit_13 : decode cX10_hasBit 13 = .ok (.iconst 0, 1) := by decide +kernel
theorem dX10_hasBit_14 : decode cX10_hasBit 14 = .ok (.ireturn, 1) := by decide +kernel
theorem dX10_putNumber_0 : decode cX10_putNumber 0 = .ok (.bipush 24, 2) := by decide +kernel
theorem dX10_putNumber_2 : decode cX10_putNumber 2 = .ok (.istore_n 2, 1) := by decide +kernel
theorem dX10_putNumber_3 : decode cX10_putNumber 3 = .ok (.iload_n 2, 1) := by decide +kernel
theorem dX10_putNumber_4 : decode cX10_putNumber 4 = .ok (.ifCond .lt 42, 3) := by decide +kernel
theorem dX10_putNumber_7 : decode cX10_putNumber 7 = .ok (.aload_n 0, 1) := by decide +kernel
theorem dX10_putNumber_8 : decode cX10_putNumber 8 = .ok (.getfield 57, 3) := by decide +kernel
theorem dX10_putNumber_11 : decode cX10_putNumber 11 = .ok (.sipush 400, 3) := by decide +kernel
theorem dX10_putNumber_14 : decode cX10_putNumber 14 = .ok (.if_icmp .ge 32, 3) := by decide +kernel
theorem dX10_putNumber_17 : decode cX10_putNumber 17 = .ok (.aload_n 0, 1) := by decide +kernel
theorem dX10_putNumber_18 : decode cX10_putNumber 18 = .ok (.getfield 9, 3) := by decide +kernel
theorem dX10_putNumber_21 : decode cX10_putNumber 21 = .ok (.aload_n 0, 1) := by decide +kernel
theorem dX10_putNumber_22 : decode cX10_putNumber 22 = .ok (.getfield 57, 3) := by decide +kernel
theorem dX10_putNumber_25 : decode cX10_putNumber 25 = .ok (.iload_n 1, 1) := by decide +kernel
theorem dX10_putNumber_26 : decode cX10_putNumber 26 = .ok (.iload_n 2, 1) := by decide +kernel
theorem dX10_putNumber_27 : decode cX10_putNumber 27 = .ok (.ishr, 1) := by decide +kernel
theorem dX10_putNumber_28 : decode cX10_putNumber 28 = .ok (.i2b, 1) := by decide +kernel
theorem dX10_putNumber_29 : decode cX10_putNumber 29 = .ok (.bastore, 1) := by decide +kernel
theorem dX10_putNumber_30 : decode cX10_putNumber 30 = .ok (.aload_n 0, 1) := by decide +kernel
theorem dX10_putNumber_31 : decode cX10_putNumber 31 = .ok (.dup, 1) := by decide +kernel
theorem dX10_putNumber_32 : decode cX10_putNumber 32 = .ok (.getfield 57, 3) := by decide +kernel
theorem dX10_putNumber_35 : decode cX10_putNumber 35 = .ok (.iconst 1, 1) := by decide +kernel
theorem dX10_putNumber_36 : decode cX10_putNumber 36 = .ok (.iadd, 1) := by decide +kernel
theorem dX10_putNumber_37 : decode cX10_putNumber 37 = .ok (.putfield 57, 3) := by decide +kernel
theorem dX10_putNumber_40 : decode cX10_putNumber 40 = .ok (.iinc 2 (-8), 3) := by decide +kernel
theorem dX10_putNumber_43 : decode cX10_putNumber 43 = .ok (.goto (-40), 3) := by decide +kernel
theorem dX10_putNumber_46 : decode cX10_putNumber 46 = .ok (.return_, 1) := by decide +kernel
theorem dX10_reckonOdds_0 : decode cX10_reckonOdds 0 = .ok (.iconst 0, 1) := by decide +kernel
theorem dX10_reckonOdds_1 : decode cX10_reckonOdds 1 = .ok (.istore_n 2, 1) := by decide +kernel
theorem dX10_reckonOdds_2 : decode cX10_reckonOdds 2 = .ok (.iload_n 2, 1) := by decide +kernel
theorem dX10_reckonOdds_3 : decode cX10_reckonOdds 3 = .ok (.aload_n 0, 1) := by decide +kernel
theorem dX10_reckonOdds_4 : decode cX10_reckonOdds 4 = .ok (.getfield 23, 3) := by decide +kernel
theorem dX10_reckonOdds_7 : decode cX10_reckonOdds 7 = .ok (.getfield 219, 3) := by decide +kernel
theorem dX10_reckonOdds_10 : decode cX10_reckonOdds 10 = .ok (.getfield 176, 3) := by decide +kernel
theorem dX10_reckonOdds_13 : decode cX10_reckonOdds 13 = .ok (.if_icmp .ge 28, 3) := by decide +kernel
theorem dX10_reckonOdds_16 : decode cX10_reckonOdds 16 = .ok (.aload_n 0, 1) := by decide +kernel
theorem dX10_reckonOdds_17 : decode cX10_reckonOdds 17 = .ok (.getfield 46, 3) := by decide +kernel
theorem dX10_reckonOdds_20 : decode cX10_reckonOdds 20 = .ok (.iload_n 2, 1) := by decide +kernel
theorem dX10_reckonOdds_21 : decode cX10_reckonOdds 21 = .ok (.aload_n 0, 1) := by decide +kernel
theorem dX10_reckonOdds_22 : decode cX10_reckonOdds 22 = .ok (.getfield 23, 3) := by decide +kernel
theorem dX10_reckonOdds_25 : decode cX10_reckonOdds 25 = .ok (.getfield 219, 3) := by decide +kernel
theorem dX10_reckonOdds_28 : decode cX10_reckonOdds 28 = .ok (.iload_n 2, 1) := by decide +kernel
theorem dX10_reckonOdds_29 : decode cX10_reckonOdds 29 = .ok (.iconst 0, 1) := by decide +kernel
theorem dX10_reckonOdds_30 : decode cX10_reckonOdds 30 = .ok (.invokevirtual 246, 3) := by decide +kernel
theorem dX10_reckonOdds_33 : decode cX10_reckonOdds 33 = .ok (.i2l, 1) := by decide +kernel
theorem dX10_reckonOdds_34 : decode cX10_reckonOdds 34 = .ok (.lastore, 1) := by decide +kernel
theorem dX10_reckonOdds_35 : decode cX10_reckonOdds 35 = .ok (.iinc 2 1, 3) := by decide +kernel
theorem dX10_reckonOdds_38 : decode cX10_reckonOdds 38 = .ok (.goto (-36), 3) := by decide +kernel
theorem dX10_reckonOdds_41 : decode cX10_reckonOdds 41 = .ok (.aload_n 0, 1) := by decide +kernel
theorem dX10_reckonOdds_42 : decode cX10_reckonOdds 42 = .ok (.invokevirtual 332, 3) := by decide +kernel
theorem dX10_reckonOdds_45 : decode cX10_reckonOdds 45 = .ok (.iconst 0, 1) := by decide +kernel
theorem dX10_reckonOdds_46 : decode cX10_reckonOdds 46 = .ok (.istore_n 2, 1) := by decide +kernel
theorem dX10_reckonOdds_47 : decode cX10_reckonOdds 47 = .ok (.iload_n 2, 1) := by decide +kernel
theorem dX10_reckonOdds_48 : decode cX10_reckonOdds 48 = .ok (.iload_n 1, 1) := by decide +kernel
theorem dX10_reckonOdds_49 : decode cX10_reckonOdds 49 = .ok (.if_icmp .ge 55, 3) := by decide +kernel
theorem dX10_reckonOdds_52 : decode cX10_reckonOdds 52 = .ok (.iconst 0, 1) := by decide +kernel
theorem dX10_reckonOdds_53 : decode cX10_reckonOdds 53 = .ok (.istore_n 3, 1) := by decide +kernel
theorem dX10_reckonOdds_54 : decode cX10_reckonOdds 54 = .ok (.iload_n 3, 1) := by decide +kernel
theorem dX10_reckonOdds_55 : decode cX10_reckonOdds 55 = .ok (.aload_n 0, 1) := by decide +kernel
theorem dX10_reckonOdds_56 : decode cX10_reckonOdds 56 = .ok (.getfield 23, 3) := by decide +kernel
theorem dX10_reckonOdds_59 : decode cX10_reckonOdds 59 = .ok (.getfield 219, 3) := by decide +kernel
theorem dX10_reckonOdds_62 : decode cX10_reckonOdds 62 = .ok (.getfield 176, 3) := by decide +kernel
theorem dX10_reckonOdds_65 : decode cX10_reckonOdds 65 = .ok (.if_icmp .ge 29, 3) := by decide +kernel
theorem dX10_reckonOdds_68 : decode cX10_reckonOdds 68 = .ok (.aload_n 0, 1) := by decide +kernel
theorem dX10_reckonOdds_69 : decode cX10_reckonOdds 69 = .ok (.getfield 46, 3) := by decide +kernel
theorem dX10_reckonOdds_72 : decode cX10_reckonOdds 72 = .ok (.iload_n 3, 1) := by decide +kernel
theorem dX10_reckonOdds_73 : decode cX10_reckonOdds 73 = .ok (.aload_n 0, 1) := by decide +kernel
theorem dX10_reckonOdds_74 : decode cX10_reckonOdds 74 = .ok (.getfield 50, 3) := by decide +kernel
theorem dX10_reckonOdds_77 : decode cX10_reckonOdds 77 = .ok (.iload_n 3, 1) := by decide +kernel
theorem dX10_reckonOdds_78 : decode cX10_reckonOdds 78 = .ok (.iaload, 1) := by decide +kernel
theorem dX10_reckonOdds_79 : decode cX10_reckonOdds 79 = .ok (.i2l, 1) := by decide +kernel
theorem dX10_reckonOdds_80 : decode cX10_reckonOdds 80 = .ok (.aload_n 0, 1) := by decide +kernel
theorem dX10_reckonOdds_81 : decode cX10_reckonOdds 81 = .ok (.iload_n 3, 1) := by decide +kernel
theorem dX10_reckonOdds_82 : decode cX10_reckonOdds 82 = .ok (.iload_n 2, 1) := by decide +kernel
theorem dX10_reckonOdds_83 : decode cX10_reckonOdds 83 = .ok (.invokevirtual 231, 3) := by decide +kernel
theorem dX10_reckonOdds_86 : decode cX10_reckonOdds 86 = .ok (.lmul, 1) := by decide +kernel
theorem dX10_reckonOdds_87 : decode cX10_reckonOdds 87 = .ok (.lastore, 1) := by decide +kernel
theorem dX10_reckonOdds_88 : decode cX10_reckonOdds 88 = .ok (.iinc 3 1, 3) := by decide +kernel
theorem dX10_reckonOdds_91 : decode cX10_reckonOdds 91 = .ok (.goto (-37), 3) := by decide +kernel
theorem dX10_reckonOdds_94 : decode cX10_reckonOdds 94 = .ok (.aload_n 0, 1) := by decide +kernel
theorem dX10_reckonOdds_95 : decode cX10_reckonOdds 95 = .ok (.invokevirtual 332, 3) := by decide +kernel
theorem dX10_reckonOdds_98 : decode cX10_reckonOdds 98 = .ok (.iinc 2 1, 3) := by decide +kernel
theorem dX10_reckonOdds_101 : decode cX10_reckonOdds 101 = .ok (.goto (-54), 3) := by decide +kernel
theorem dX10_reckonOdds_104 : decode cX10_reckonOdds 104 = .ok (.return_, 1) := by decide +kernel
theorem dX10_sharesToOdds_0 : decode cX10_sharesToOdds 0 = .ok (.lconst 0, 1) := by decide +kernel
theorem dX10_sharesToOdds_1 : decode cX10_sharesToOdds 1 = .ok (.lstore_n 1, 1) := by decide +kernel
theorem dX10_sharesToOdds_2 : decode cX10_sharesToOdds 2 = .ok (.iconst 0, 1) := by decide +kernel
theorem dX10_sharesToOdds_3 : decode cX10_sharesToOdds 3 = .ok (.istore_n 3, 1) := by decide +kernel
theorem dX10_sharesToOdds_4 : decode cX10_sharesToOdds 4 = .ok (.iconst 0, 1) := by decide +kernel
theorem dX10_sharesToOdds_5 : decode cX10_sharesToOdds 5 = .ok (.istore 4, 2) := by decide +kernel
theorem dX10_sharesToOdds_7 : decode cX10_sharesToOdds 7 = .ok (.iload 4, 2) := by decide +kernel
theorem dX10_sharesToOdds_9 : decode cX10_sharesToOdds 9 = .ok (.aload_n 0, 1) := by decide +kernel
theorem dX10_sharesToOdds_10 : decode cX10_sharesToOdds 10 = .ok (.getfield 23, 3) := by decide +kernel
theorem dX10_sharesToOdds_13 : decode cX10_sharesToOdds 13 = .ok (.getfield 219, 3) := by decide +kernel
theorem dX10_sharesToOdds_16 : decode cX10_sharesToOdds 16 = .ok (.getfield 176, 3) := by decide +kernel
theorem dX10_sharesToOdds_19 : decode cX10_sharesToOdds 19 = .ok (.if_icmp .ge 39, 3) := by decide +kernel
theorem dX10_sharesToOdds_22 : decode cX10_sharesToOdds 22 = .ok (.lload_n 1, 1) := by decide +kernel
theorem dX10_sharesToOdds_23 : decode cX10_sharesToOdds 23 = .ok (.aload_n 0, 1) := by decide +kernel
theorem dX10_sharesToOdds_24 : decode cX10_sharesToOdds 24 = .ok (.getfield 46, 3) := by decide +kernel
theorem dX10_sharesToOdds_27 : decode cX10_sharesToOdds 27 = .ok (.iload 4, 2) := by decide +kernel
theorem dX10_sharesToOdds_29 : decode cX10_sharesToOdds 29 = .ok (.laload, 1) := by decide +kernel
theorem dX10_sharesToOdds_30 : decode cX10_sharesToOdds 30 = .ok (.ladd, 1) := by decide +kernel
theorem dX10_sharesToOdds_31 : decode cX10_sharesToOdds 31 = .ok (.lstore_n 1, 1) := by decide +kernel
theorem dX10_sharesToOdds_32 : decode cX10_sharesToOdds 32 = .ok (.aload_n 0, 1) := by decide +kernel
theorem dX10_sharesToOdds_33 : decode cX10_sharesToOdds 33 = .ok (.getfield 46, 3) := by decide +kernel
theorem dX10_sharesToOdds_36 : decode cX10_sharesToOdds 36 = .ok (.iload 4, 2) := by decide +kernel
theorem dX10_sharesToOdds_38 : decode cX10_sharesToOdds 38 = .ok (.laload, 1) := by decide +kernel
theorem dX10_sharesToOdds_39 : decode cX10_sharesToOdds 39 = .ok (.aload_n 0, 1) := by decide +kernel
theorem dX10_sharesToOdds_40 : decode cX10_sharesToOdds 40 = .ok (.getfield 46, 3) := by decide +kernel
theorem dX10_sharesToOdds_43 : decode cX10_sharesToOdds 43 = .ok (.iload_n 3, 1) := by decide +kernel
theorem dX10_sharesToOdds_44 : decode cX10_sharesToOdds 44 = .ok (.laload, 1) := by decide +kernel
theorem dX10_sharesToOdds_45 : decode cX10_sharesToOdds 45 = .ok (.lcmp, 1) := by decide +kernel
theorem dX10_sharesToOdds_46 : decode cX10_sharesToOdds 46 = .ok (.ifCond .le 6, 3) := by decide +kernel
theorem dX10_sharesToOdds_49 : decode cX10_sharesToOdds 49 = .ok (.iload 4, 2) := by decide +kernel
theorem dX10_sharesToOdds_51 : decode cX10_sharesToOdds 51 = .ok (.istore_n 3, 1) := by decide +kernel
theorem dX10_sharesToOdds_52 : decode cX10_sharesToOdds 52 = .ok (.iinc 4 1, 3) := by decide +kernel
theorem dX10_sharesToOdds_55 : decode cX10_sharesToOdds 55 = .ok (.goto (-48), 3) := by decide +kernel
theorem dX10_sharesToOdds_58 : decode cX10_sharesToOdds 58 = .ok (.lload_n 1, 1) := by decide +kernel
theorem dX10_sharesToOdds_59 : decode cX10_sharesToOdds 59 = .ok (.lconst 0, 1) := by decide +kernel
theorem dX10_sharesToOdds_60 : decode cX10_sharesToOdds 60 = .ok (.lcmp, 1) := by decide +kernel
theorem dX10_sharesToOdds_61 : decode cX10_sharesToOdds 61 = .ok (.ifCond .gt 4, 3) := by decide +kernel
theorem dX10_sharesToOdds_64 : decode cX10_sharesToOdds 64 = .ok (.return_, 1) := by decide +kernel
theorem dX10_sharesToOdds_65 : decode cX10_sharesToOdds 65 = .ok (.sipush 10000, 3) := by decide +kernel
theorem dX10_sharesToOdds_68 : decode cX10_sharesToOdds 68 = .ok (.istore 4, 2) := by decide +kernel
theorem dX10_sharesToOdds_70 : decode cX10_sharesToOdds 70 = .ok (.iconst 0, 1) := by decide +kernel
theorem dX10_sharesToOdds_71 : decode cX10_sharesToOdds 71 = .ok (.istore 5, 2) := by decide +kernel
theorem dX10_sharesToOdds_73 : decode cX10_sharesToOdds 73 = .ok (.iload 5, 2) := by decide +kernel
theorem dX10_sharesToOdds_75 : decode cX10_sharesToOdds 75 = .ok (.aload_n 0, 1) := by decide +kernel
theorem dX10_sharesToOdds_76 : decode cX10_sharesToOdds 76 = .ok (.getfield 23, 3) := by decide +kernel
theorem dX10_sharesToOdds_79 : decode cX10_sharesToOdds 79 = .ok (.getfield 219, 3) := by decide +kernel
theorem dX10_sharesToOdds_82 : decode cX10_sharesToOdds 82 = .ok (.getfield 176, 3) := by decide +kernel
theorem dX10_sharesToOdds_85 : decode cX10_sharesToOdds 85 = .ok (.if_icmp .ge 42, 3) := by decide +kernel
theorem dX10_sharesToOdds_88 : decode cX10_sharesToOdds 88 = .ok (.aload_n 0, 1) := by decide +kernel
theorem dX10_sharesToOdds_89 : decode cX10_sharesToOdds 89 = .ok (.getfield 50, 3) := by decide +kernel
theorem dX10_sharesToOdds_92 : decode cX10_sharesToOdds 92 = .ok (.iload 5, 2) := by decide +kernel
theorem dX10_sharesToOdds_94 : decode cX10_sharesToOdds 94 = .ok (.ldc2_w 238, 3) := by decide +kernel
theorem dX10_sharesToOdds_97 : decode cX10_sharesToOdds 97 = .ok (.aload_n 0, 1) := by decide +kernel
theorem dX10_sharesToOdds_98 : decode cX10_sharesToOdds 98 = .ok (.getfield 46, 3) := by decide +kernel
theorem dX10_sharesToOdds_101 : decode cX10_sharesToOdds 101 = .ok (.iload 5, 2) := by decide +kernel
theorem dX10_sharesToOdds_103 : decode cX10_sharesToOdds 103 = .ok (.laload, 1) := by decide +kernel
theorem dX10_sharesToOdds_104 : decode cX10_sharesToOdds 104 = .ok (.lmul, 1) := by decide +kernel
theorem dX10_sharesToOdds_105 : decode cX10_sharesToOdds 105 = .ok (.lload_n 1, 1) := by decide +kernel
theorem dX10_sharesToOdds_106 : decode cX10_sharesToOdds 106 = .ok (.ldiv, 1) := by decide +kernel
theorem dX10_sharesToOdds_107 : decode cX10_sharesToOdds 107 = .ok (.l2i, 1) := by decide +kernel
theorem dX10_sharesToOdds_108 : decode cX10_sharesToOdds 108 = .ok (.iastore, 1) := by decide +kernel
theorem dX10_sharesToOdds_109 : decode cX10_sharesToOdds 109 = .ok (.iload 4, 2) := by decide +kernel
theorem dX10_sharesToOdds_111 : decode cX10_sharesToOdds 111 = .ok (.aload_n 0, 1) := by decide +kernel
theorem dX10_sharesToOdds_112 : decode cX10_sharesToOdds 112 = .ok (.getfield 50, 3) := by decide +kernel
theorem dX10_sharesToOdds_115 : decode cX10_sharesToOdds 115 = .ok (.iload 5, 2) := by decide +kernel
theorem dX10_sharesToOdds_117 : decode cX10_sharesToOdds 117 = .ok (.iaload, 1) := by decide +kernel
theorem dX10_sharesToOdds_118 : decode cX10_sharesToOdds 118 = .ok (.isub, 1) := by decide +kernel
theorem dX10_sharesToOdds_119 : decode cX10_sharesToOdds 119 = .ok (.istore 4, 2) := by decide +kernel
theorem dX10_sharesToOdds_121 : decode cX10_sharesToOdds 121 = .ok (.iinc 5 1, 3) := by decide +kernel
theorem dX10_sharesToOdds_124 : decode cX10_sharesToOdds 124 = .ok (.goto (-51), 3) := by decide +kernel
theorem dX10_sharesToOdds_127 : decode cX10_sharesToOdds 127 = .ok (.aload_n 0, 1) := by decide +kernel
theorem dX10_sharesToOdds_128 : decode cX10_sharesToOdds 128 = .ok (.getfield 50, 3) := by decide +kernel
theorem dX10_sharesToOdds_131 : decode cX10_sharesToOdds 131 = .ok (.iload_n 3, 1) := by decide +kernel
theorem dX10_sharesToOdds_132 : decode cX10_sharesToOdds 132 = .ok (.dup2, 1) := by decide +kernel
theorem dX10_sharesToOdds_133 : decode cX10_sharesToOdds 133 = .ok (.iaload, 1) := by decide +kernel
theorem dX10_sharesToOdds_134 : decode cX10_sharesToOdds 134 = .ok (.iload 4, 2) := by decide +kernel
theorem dX10_sharesToOdds_136 : decode cX10_sharesToOdds 136 = .ok (.iadd, 1) := by decide +kernel
theorem dX10_sharesToOdds_137 : decode cX10_sharesToOdds 137 = .ok (.iastore, 1) := by decide +kernel
theorem dX10_sharesToOdds_138 : decode cX10_sharesToOdds 138 = .ok (.return_, 1) := by decide +kernel
theorem dX10_allFactors_0 : decode cX10_allFactors 0 = .ok (.aload_n 0, 1) := by decide +kernel
theorem dX10_allFactors_1 : decode cX10_allFactors 1 = .ok (.getfield 23, 3) := by decide +kernel
theorem dX10_allFactors_4 : decode cX10_allFactors 4 = .ok (.getfield 225, 3) := by decide +kernel
theorem dX10_allFactors_7 : decode cX10_allFactors 7 = .ok (.iload_n 2, 1) := by decide +kernel
theorem dX10_allFactors_8 : decode cX10_allFactors 8 = .ok (.iconst 0, 1) := by decide +kernel
theorem dX10_allFactors_9 : decode cX10_allFactors 9 = .ok (.invokevirtual 246, 3) := by decide +kernel
theorem dX10_allFactors_12 : decode cX10_allFactors 12 = .ok (.istore_n 3, 1) := by decide +kernel
theorem dX10_allFactors_13 : decode cX10_allFactors 13 = .ok (.aload_n 0, 1) := by decide +kernel
theorem dX10_allFactors_14 : decode cX10_allFactors 14 = .ok (.getfield 23, 3) := by decide +kernel
theorem dX10_allFactors_17 : decode cX10_allFactors 17 = .ok (.getfield 225, 3) := by decide +kernel
theorem dX10_allFactors_20 : decode cX10_allFactors 20 = .ok (.iload_n 2, 1) := by decide +kernel
theorem dX10_allFactors_21 : decode cX10_allFactors 21 = .ok (.iconst 2, 1) := by decide +kernel
theorem dX10_allFactors_22 : decode cX10_allFactors 22 = .ok (.invokevirtual 246, 3) := by decide +kernel
theorem dX10_allFactors_25 : decode cX10_allFactors 25 = .ok (.istore 4, 2) := by decide +kernel
theorem dX10_allFactors_27 : decode cX10_allFactors 27 = .ok (.aload_n 0, 1) := by decide +kernel
theorem dX10_allFactors_28 : decode cX10_allFactors 28 = .ok (.getfield 23, 3) := by decide +kernel
theorem dX10_allFactors_31 : decode cX10_allFactors 31 = .ok (.getfield 219, 3) := by decide +kernel
theorem dX10_allFactors_34 : decode cX10_allFactors 34 = .ok (.iload_n 1, 1) := by decide +kernel
theorem dX10_allFactors_35 : decode cX10_allFactors 35 = .ok (.iconst 1, 1) := by decide +kernel
theorem dX10_allFactors_36 : decode cX10_allFactors 36 = .ok (.invokevirtual 246, 3) := by decide +kernel
theorem dX10_allFactors_39 : decode cX10_allFactors 39 = .ok (.istore 5, 2) := by decide +kernel
theorem dX10_allFactors_41 : decode cX10_allFactors 41 = .ok (.aload_n 0, 1) := by decide +kernel
theorem dX10_allFactors_42 : decode cX10_allFactors 42 = .ok (.getfield 23, 3) := by decide +kernel
theorem dX10_allFactors_45 : decode cX10_allFactors 45 = .ok (.getfield 219, 3) := by decide +kernel
theorem dX10_allFactors_48 : decode cX10_allFactors 48 = .ok (.iload_n 1, 1) := by decide +kernel
theorem dX10_allFactors_49 : decode cX10_allFactors 49 = .ok (.iconst 2, 1) := by decide +kernel
theorem dX10_allFactors_50 : decode cX10_allFactors 50 = .ok (.invokevirtual 246, 3) := by decide +kernel
theorem dX10_allFactors_53 : decode cX10_allFactors 53 = .ok (.istore 6, 2) := by decide +kernel
theorem dX10_allFactors_55 : decode cX10_allFactors 55 = .ok (.iload 6, 2) := by decide +kernel
theorem dX10_allFactors_57 : decode cX10_allFactors 57 = .ok (.iconst (-1), 1) := by decide +kernel
theorem dX10_allFactors_58 : decode cX10_allFactors 58 = .ok (.if_icmp .eq 27, 3) := by decide +kernel
theorem dX10_allFactors_61 : decode cX10_allFactors 61 = .ok (.aload_n 0, 1) := by decide +kernel
theorem dX10_allFactors_62 : decode cX10_allFactors 62 = .ok (.getfield 23, 3) := by decide +kernel
theorem dX10_allFactors_65 : decode cX10_allFactors 65 = .ok (.getfield 225, 3) := by decide +kernel
theorem dX10_allFactors_68 : decode cX10_allFactors 68 = .ok (.iload_n 2, 1) := by decide +kernel
theorem dX10_allFactors_69 : decode cX10_allFactors 69 = .ok (.iconst 1, 1) := by decide +kernel
theorem dX10_allFactors_70 : decode cX10_allFactors 70 = .ok (.invokevirtual 246, 3) := by decide +kernel
theorem dX10_allFactors_73 : decode cX10_allFactors 73 = .ok (.iload 6, 2) := by decide +kernel
theorem dX10_allFactors_75 : decode cX10_allFactors 75 = .ok (.invokestatic 172, 3) := by decide +kernel
theorem dX10_allFactors_78 : decode cX10_allFactors 78 = .ok (.ifCond .eq 7, 3) := by decide +kernel
theorem dX10_allFactors_81 : decode cX10_allFactors 81 = .ok (.iconst 1, 1) := by decide +kernel
theorem dX10_allFactors_82 : decode cX10_allFactors 82 = .ok (.goto 4, 3) := by decide +kernel
theorem dX10_allFactors_85 : decode cX10_allFactors 85 = .ok (.iconst 0, 1) := by decide +kernel
theorem dX10_allFactors_86 : decode cX10_allFactors 86 = .ok (.istore 7, 2) := by decide +kernel
theorem dX10_allFactors_88 : decode cX10_allFactors 88 = .ok (.lconst 1, 1) := by decide +kernel
theorem dX10_allFactors_89 : decode cX10_allFactors 89 = .ok (.lstore 8, 2) := by decide +kernel
theorem dX10_allFactors_91 : decode cX10_allFactors 91 = .ok (.iconst 0, 1) := by decide +kernel
theorem dX10_allFactors_92 : decode cX10_allFactors 92 = .ok (.istore 10, 2) := by decide +kernel
theorem dX10_allFactors_94 : decode cX10_allFactors 94 = .ok (.iload 10, 2) := by decide +kernel
theorem dX10_allFactors_96 : decode cX10_allFactors 96 = .ok (.aload_n 0, 1) := by decide +kernel
theorem dX10_allFactors_97 : decode cX10_allFactors 97 = .ok (.getfield 23, 3) := by decide +kernel
theorem dX10_allFactors_100 : decode cX10_allFactors 100 = .ok (.getfield 122, 3) := by decide +kernel
theorem dX10_allFactors_103 : decode cX10_allFactors 103 = .ok (.getfield 176, 3) := by decide +kernel
theorem dX10_allFactors_106 : decode cX10_allFactors 106 = .ok (.if_icmp .ge 75, 3) := by decide +kernel
theorem dX10_allFactors_109 : decode cX10_allFactors 109 = .ok (.aload_n 0, 1) := by decide +kernel
theorem dX10_allFactors_110 : decode cX10_allFactors 110 = .ok (.getfield 35, 3) := by decide +kernel
theorem dX10_allFactors_113 : decode cX10_allFactors 113 = .ok (.iload_n 3, 1) := by decide +kernel
theorem dX10_allFactors_114 : decode cX10_allFactors 114 = .ok (.iload 5, 2) := by decide +kernel
theorem dX10_allFactors_116 : decode cX10_allFactors 116 = .ok (.iload 7, 2) := by decide +kernel
theorem dX10_allFactors_118 : decode cX10_allFactors 118 = .ok (.iload 10, 2) := by decide +kernel
theorem dX10_allFactors_120 : decode cX10_allFactors 120 = .ok (.invokevirtual 212, 3) := by decide +kernel
theorem dX10_allFactors_123 : decode cX10_allFactors 123 = .ok (.ifCond .eq 30, 3) := by decide +kernel
theorem dX10_allFactors_126 : decode cX10_allFactors 126 = .ok (.lload 8, 2) := by decide +kernel
theorem dX10_allFactors_128 : decode cX10_allFactors 128 = .ok (.iload 4, 2) := by decide +kernel
theorem dX10_allFactors_130 : decode cX10_allFactors 130 = .ok (.iload 10, 2) := by decide +kernel
theorem dX10_allFactors_132 : decode cX10_allFactors 132 = .ok (.invokestatic 172, 3) := by decide +kernel
theorem dX10_allFactors_135 : decode cX10_allFactors 135 = .ok (.ifCond .eq 9, 3) := by decide +kernel
theorem dX10_allFactors_138 : decode cX10_allFactors 138 = .ok (.ldc2_w 335, 3) := by decide +kernel
theorem dX10_allFactors_141 : decode cX10_allFactors 141 = .ok (.goto 6, 3) := by decide +kernel
theorem dX10_allFactors_144 : decode cX10_allFactors 144 = .ok (.ldc2_w 337, 3) := by decide +kernel
theorem dX10_allFactors_147 : decode cX10_allFactors 147 = .ok (.lmul, 1) := by decide +kernel
theorem dX10_allFactors_148 : decode cX10_allFactors 148 = .ok (.lstore 8, 2) := by decide +kernel
theorem dX10_allFactors_150 : decode cX10_allFactors 150 = .ok (.goto 25, 3) := by decide +kernel
theorem dX10_allFactors_153 : decode cX10_allFactors 153 = .ok (.lload 8, 2) := by decide +kernel
theorem dX10_allFactors_155 : decode cX10_allFactors 155 = .ok (.iload 4, 2) := by decide +kernel
theorem dX10_allFactors_157 : decode cX10_allFactors 157 = .ok (.iload 10, 2) := by decide +kernel
theorem dX10_allFactors_159 : decode cX10_allFactors 159 = .ok (.invokestatic 172, 3) := by decide +kernel
theorem dX10_allFactors_162 : decode cX10_allFactors 162 = .ok (.ifCond .eq 7, 3) := by decide +kernel
theorem dX10_allFactors_165 : decode cX10_allFactors 165 = .ok (.lconst 1, 1) := by decide +kernel
theorem dX10_allFactors_166 : decode cX10_allFactors 166 = .ok (.goto 6, 3) := by decide +kernel
theorem dX10_allFactors_169 : decode cX10_allFactors 169 = .ok (.ldc2_w 339, 3) := by decide +kernel
theorem dX10_allFactors_172 : decode cX10_allFactors 172 = .ok (.lmul, 1) := by decide +kernel
theorem dX10_allFactors_173 : decode cX10_allFactors 173 = .ok (.lstore 8, 2) := by decide +kernel
theorem dX10_allFactors_175 : decode cX10_allFactors 175 = .ok (.iinc 10 1, 3) := by decide +kernel
theorem dX10_allFactors_178 : decode cX10_allFactors 178 = .ok (.goto (-84), 3) := by decide +kernel
theorem dX10_allFactors_181 : decode cX10_allFactors 181 = .ok (.lload 8, 2) := by decide +kernel
theorem dX10_allFactors_183 : decode cX10_allFactors 183 = .ok (.aload_n 0, 1) := by decide +kernel
theorem dX10_allFactors_184 : decode cX10_allFactors 184 = .ok (.iload_n 1, 1) := by decide +kernel
theorem dX10_allFactors_185 : decode cX10_allFactors 185 = .ok (.iload_n 2, 1) := by decide +kernel
theorem dX10_allFactors_186 : decode cX10_allFactors 186 = .ok (.invokevirtual 341, 3) := by decide +kernel
theorem dX10_allFactors_189 : decode cX10_allFactors 189 = .ok (.lmul, 1) := by decide +kernel
theorem dX10_allFactors_190 : decode cX10_allFactors 190 = .ok (.lreturn, 1) := by decide +kernel
theorem dX10_trapFactors_0 : decode cX10_trapFactors 0 = .ok (.aload_n 0, 1) := by decide +kernel
theorem dX10_trapFactors_1 : decode cX10_trapFactors 1 = .ok (.getfield 23, 3) := by decide +kernel
theorem dX10_trapFactors_4 : decode cX10_trapFactors 4 = .ok (.getfield 225, 3) := by decide +kernel
theorem dX10_trapFactors_7 : decode cX10_trapFactors 7 = .ok (.iload_n 2, 1) := by decide +kernel
theorem dX10_trapFactors_8 : decode cX10_trapFactors 8 = .ok (.iconst 3, 1) := by decide +kernel
theorem dX10_trapFactors_9 : decode cX10_trapFactors 9 = .ok (.invokevirtual 246, 3) := by decide +kernel
theorem dX10_trapFactors_12 : decode cX10_trapFactors 12 = .ok (.istore_n 3, 1) := by decide +kernel
theorem dX10_trapFactors_13 : decode cX10_trapFactors 13 = .ok (.aload_n 0, 1) := by decide +kernel
theorem dX10_trapFactors_14 : decode cX10_trapFactors 14 = .ok (.getfield 23, 3) := by decide +kernel
theorem dX10_trapFactors_17 : decode cX10_trapFactors 17 = .ok (.getfield 225, 3) := by decide +kernel
theorem dX10_trapFactors_20 : decode cX10_trapFactors 20 = .ok (.iload_n 2, 1) := by decide +kernel
theorem dX10_trapFactors_21 : decode cX10_trapFactors 21 = .ok (.iconst 4, 1) := by decide +kernel
theorem dX10_trapFactors_22 : decode cX10_trapFactors 22 = .ok (.invokevirtual 246, 3) := by decide +kernel
theorem dX10_trapFactors_25 : decode cX10_trapFactors 25 = .ok (.istore 4, 2) := by decide +kernel
theorem dX10_trapFactors_27 : decode cX10_trapFactors 27 = .ok (.lconst 1, 1) := by decide +kernel
theorem dX10_trapFactors_28 : decode cX10_trapFactors 28 = .ok (.lstore 5, 2) := by decide +kernel
theorem dX10_trapFactors_30 : decode cX10_trapFactors 30 = .ok (.iconst 0, 1) := by decide +kernel
theorem dX10_trapFactors_31 : decode cX10_trapFactors 31 = .ok (.istore 7, 2) := by decide +kernel
theorem dX10_trapFactors_33 : decode cX10_trapFactors 33 = .ok (.iload 7, 2) := by decide +kernel
theorem dX10_trapFactors_35 : decode cX10_trapFactors 35 = .ok (.aload_n 0, 1) := by decide +kernel
theorem dX10_trapFactors_36 : decode cX10_trapFactors 36 = .ok (.getfield 23, 3) := by decide +kernel
theorem dX10_trapFactors_39 : decode cX10_trapFactors 39 = .ok (.getfield 216, 3) := by decide +kernel
theorem dX10_trapFactors_42 : decode cX10_trapFactors 42 = .ok (.getfield 176, 3) := by decide +kernel
theorem dX10_trapFactors_45 : decode cX10_trapFactors 45 = .ok (.if_icmp .ge 54, 3) := by decide +kernel
theorem dX10_trapFactors_48 : decode cX10_trapFactors 48 = .ok (.iload_n 3, 1) := by decide +kernel
theorem dX10_trapFactors_49 : decode cX10_trapFactors 49 = .ok (.iload 7, 2) := by decide +kernel
theorem dX10_trapFactors_51 : decode cX10_trapFactors 51 = .ok (.invokestatic 172, 3) := by decide +kernel
theorem dX10_trapFactors_54 : decode cX10_trapFactors 54 = .ok (.ifCond .eq 39, 3) := by decide +kernel
theorem dX10_trapFactors_57 : decode cX10_trapFactors 57 = .ok (.aload_n 0, 1) := by decide +kernel
theorem dX10_trapFactors_58 : decode cX10_trapFactors 58 = .ok (.iload 7, 2) := by decide +kernel
theorem dX10_trapFactors_60 : decode cX10_trapFactors 60 = .ok (.iload_n 1, 1) := by decide +kernel
theorem dX10_trapFactors_61 : decode cX10_trapFactors 61 = .ok (.invokevirtual 235, 3) := by decide +kernel
theorem dX10_trapFactors_64 : decode cX10_trapFactors 64 = .ok (.istore 8, 2) := by decide +kernel
theorem dX10_trapFactors_66 : decode cX10_trapFactors 66 = .ok (.lload 5, 2) := by decide +kernel
theorem dX10_trapFactors_68 : decode cX10_trapFactors 68 = .ok (.iload 4, 2) := by decide +kernel
theorem dX10_trapFactors_70 : decode cX10_trapFactors 70 = .ok (.iload 7, 2) := by decide +kernel
theorem dX10_trapFactors_72 : decode cX10_trapFactors 72 = .ok (.invokestatic 172, 3) := by decide +kernel
theorem dX10_trapFactors_75 : decode cX10_trapFactors 75 = .ok (.ifCond .eq 9, 3) := by decide +kernel
theorem dX10_trapFactors_78 : decode cX10_trapFactors 78 = .ok (.iload 8, 2) := by decide +kernel
theorem dX10_trapFactors_80 : decode cX10_trapFactors 80 = .ok (.i2l, 1) := by decide +kernel
theorem dX10_trapFactors_81 : decode cX10_trapFactors 81 = .ok (.goto 9, 3) := by decide +kernel
theorem dX10_trapFactors_84 : decode cX10_trapFactors 84 = .ok (.bipush 10, 2) := by decide +kernel
theorem dX10_trapFactors_86 : decode cX10_trapFactors 86 = .ok (.iload 8, 2) := by decide +kernel
theorem dX10_trapFactors_88 : decode cX10_trapFactors 88 = .ok (.isub, 1) := by decide +kernel
theorem dX10_trapFactors_89 : decode cX10_trapFactors 89 = .ok (.i2l, 1) := by decide +kernel
theorem dX10_trapFactors_90 : decode cX10_trapFactors 90 = .ok (.lmul, 1) := by decide +kernel
theorem dX10_trapFactors_91 : decode cX10_trapFactors 91 = .ok (.lstore 5, 2) := by decide +kernel
theorem dX10_trapFactors_93 : decode cX10_trapFactors 93 = .ok (.iinc 7 1, 3) := by decide +kernel
theorem dX10_trapFactors_96 : decode cX10_trapFactors 96 = .ok (.goto (-63), 3) := by decide +kernel
theorem dX10_trapFactors_99 : decode cX10_trapFactors 99 = .ok (.lload 5, 2) := by decide +kernel
theorem dX10_trapFactors_101 : decode cX10_trapFactors 101 = .ok (.lreturn, 1) := by decide +kernel
theorem dX10_springs_0 : decode cX10_springs 0 = .ok (.aload_n 0, 1) := by decide +kernel
theorem dX10_springs_1 : decode cX10_springs 1 = .ok (.getfield 23, 3) := by decide +kernel
theorem dX10_springs_4 : decode cX10_springs 4 = .ok (.getfield 219, 3) := by decide +kernel
theorem dX10_springs_7 : decode cX10_springs 7 = .ok (.iload_n 2, 1) := by decide +kernel
theorem dX10_springs_8 : decode cX10_springs 8 = .ok (.iconst 1, 1) := by decide +kernel
theorem dX10_springs_9 : decode cX10_springs 9 = .ok (.invokevirtual 246, 3) := by decide +kernel
theorem dX10_springs_12 : decode cX10_springs 12 = .ok (.aload_n 0, 1) := by decide +kernel
theorem dX10_springs_13 : decode cX10_springs 13 = .ok (.getfield 23, 3) := by decide +kernel
theorem dX10_springs_16 : decode cX10_springs 16 = .ok (.getfield 216, 3) := by decide +kernel
theorem dX10_springs_19 : decode cX10_springs 19 = .ok (.iload_n 1, 1) := by decide +kernel
theorem dX10_springs_20 : decode cX10_springs 20 = .ok (.iconst 0, 1) := by decide +kernel
theorem dX10_springs_21 : decode cX10_springs 21 = .ok (.invokevirtual 246, 3) := by decide +kernel
theorem dX10_springs_24 : decode cX10_springs 24 = .ok (.invokestatic 172, 3) := by decide +kernel
theorem dX10_springs_27 : decode cX10_springs 27 = .ok (.istore_n 3, 1) := by decide +kernel
theorem dX10_springs_28 : decode cX10_springs 28 = .ok (.aload_n 0, 1) := by decide +kernel
theorem dX10_springs_29 : decode cX10_springs 29 = .ok (.getfield 23, 3) := by decide +kernel
theorem dX10_springs_32 : decode cX10_springs 32 = .ok (.getfield 216, 3) := by decide +kernel
theorem dX10_springs_35 : decode cX10_springs 35 = .ok (.iload_n 1, 1) := by decide +kernel
theorem dX10_springs_36 : decode cX10_springs 36 = .ok (.iload_n 3, 1) := by decide +kernel
theorem dX10_springs_37 : decode cX10_springs 37 = .ok (.ifCond .eq 7, 3) := by decide +kernel
theorem dX10_springs_40 : decode cX10_springs 40 = .ok (.iconst 1, 1) := by decide +kernel
theorem dX10_springs_41 : decode cX10_springs 41 = .ok (.goto 4, 3) := by decide +kernel
theorem dX10_springs_44 : decode cX10_springs 44 = .ok (.iconst 2, 1) := by decide +kernel
theorem dX10_springs_45 : decode cX10_springs 45 = .ok (.invokevirtual 246, 3) := by decide +kernel
theorem dX10_springs_48 : decode cX10_springs 48 = .ok (.ireturn, 1) := by decide +kernel
theorem dX10_choicesWithAtLeast_0 : decode cX10_choicesWithAtLeast 0 = .ok (.aload_n 0, 1) := by decide +kernel
theorem dX10_choicesWithAtLeast_1 : decode cX10_choicesWithAtLeast 1 = .ok (.getfield 23, 3) := by decide +kernel
theorem dX10_choicesWithAtLeast_4 : decode cX10_choicesWithAtLeast 4 = .ok (.getfield 225, 3) := by decide +kernel
theorem dX10_choicesWithAtLeast_7 : decode cX10_choicesWithAtLeast 7 = .ok (.getfield 176, 3) := by decide +kernel
theorem dX10_choicesWithAtLeast_10 : decode cX10_choicesWithAtLeast 10 = .ok (.iload_n 3, 1) := by decide +kernel
theorem dX10_choicesWithAtLeast_11 : decode cX10_choicesWithAtLeast 11 = .ok (.isub, 1) := by decide +kernel
theorem dX10_choicesWithAtLeast_12 : decode cX10_choicesWithAtLeast 12 = .ok (.istore 4, 2) := by decide +kernel
theorem dX10_choicesWithAtLeast_14 : decode cX10_choicesWithAtLeast 14 = .ok (.iconst 0, 1) := by decide +kernel
theorem dX10_choicesWithAtLeast_15 : decode cX10_choicesWithAtLeast 15 = .ok (.istore 5, 2) := by decide +kernel
theorem dX10_choicesWithAtLeast_17 : decode cX10_choicesWithAtLeast 17 = .ok (.iload_n 1, 1) := by decide +kernel
theorem dX10_choicesWithAtLeast_18 : decode cX10_choicesWithAtLeast 18 = .ok (.istore 6, 2) := by decide +kernel
theorem dX10_choicesWithAtLeast_20 : decode cX10_choicesWithAtLeast 20 = .ok (.iload 6, 2) := by decide +kernel
theorem dX10_choicesWithAtLeast_22 : decode cX10_choicesWithAtLeast 22 = .ok (.iload_n 3, 1) := by decide +kernel
theorem dX10_choicesWithAtLeast_23 : decode cX10_choicesWithAtLeast 23 = .ok (.if_icmp .gt 30, 3) := by decide +kernel
theorem dX10_choicesWithAtLeast_26 : decode cX10_choicesWithAtLeast 26 = .ok (.iload 5, 2) := by decide +kernel
theorem dX10_choicesWithAtLeast_28 : decode cX10_choicesWithAtLeast 28 = .ok (.iload_n 3, 1) := by decide +kernel
theorem dX10_choicesWithAtLeast_29 : decode cX10_choicesWithAtLeast 29 = .ok (.iload 6, 2) := by decide +kernel
theorem dX10_choicesWithAtLeast_31 : decode cX10_choicesWithAtLeast 31 = .ok (.invokestatic 344, 3) := by decide +kernel
theorem dX10_choicesWithAtLeast_34 : decode cX10_choicesWithAtLeast 34 = .ok (.iload 4, 2) := by decide +kernel
theorem dX10_choicesWithAtLeast_36 : decode cX10_choicesWithAtLeast 36 = .ok (.iload_n 2, 1) := by decide +kernel
theorem dX10_choicesWithAtLeast_37 : decode cX10_choicesWithAtLeast 37 = .ok (.iload 6, 2) := by decide +kernel
theorem dX10_choicesWithAtLeast_39 : decode cX10_choicesWithAtLeast 39 = .ok (.isub, 1) := by decide +kernel
theorem dX10_choicesWithAtLeast_40 : decode cX10_choicesWithAtLeast 40 = .ok (.invokestatic 344, 3) := by decide +kernel
theorem dX10_choicesWithAtLeast_43 : decode cX10_choicesWithAtLeast 43 = .ok (.imul, 1) := by decide +kernel
theorem dX10_choicesWithAtLeast_44 : decode cX10_choicesWithAtLeast 44 = .ok (.iadd, 1) := by decide +kernel
theorem dX10_choicesWithAtLeast_45 : decode cX10_choicesWithAtLeast 45 = .ok (.istore 5, 2) := by decide +kernel
theorem dX10_choicesWithAtLeast_47 : decode cX10_choicesWithAtLeast 47 = .ok (.iinc 6 1, 3) := by decide +kernel
theorem dX10_choicesWithAtLeast_50 : decode cX10_choicesWithAtLeast 50 = .ok (.goto (-30), 3) := by decide +kernel
theorem dX10_choicesWithAtLeast_53 : decode cX10_choicesWithAtLeast 53 = .ok (.iload 5, 2) := by decide +kernel
theorem dX10_choicesWithAtLeast_55 : decode cX10_choicesWithAtLeast 55 = .ok (.ireturn, 1) := by decide +kernel
theorem dX10_choices_0 : decode cX10_choices 0 = .ok (.iload_n 1, 1) := by decide +kernel
theorem dX10_choices_1 : decode cX10_choices 1 = .ok (.ifCond .lt 8, 3) := by decide +kernel
theorem dX10_choices_4 : decode cX10_choices 4 = .ok (.iload_n 1, 1) := by decide +kernel
theorem dX10_choices_5 : decode cX10_choices 5 = .ok (.iload_n 0, 1) := by decide +kernel
theorem dX10_choices_6 : decode cX10_choices 6 = .ok (.if_icmp .le 5, 3) := by decide +kernel
theorem dX10_choices_9 : decode cX10_choices 9 = .ok (.iconst 0, 1) := by decide +kernel
theorem dX10_choices_10 : decode cX10_choices 10 = .ok (.ireturn, 1) := by decide +kernel
theorem dX10_choices_11 : decode cX10_choices 11 = .ok (.iconst 1, 1) := by decide +kernel
theorem dX10_choices_12 : decode cX10_choices 12 = .ok (.istore_n 2, 1) := by decide +kernel
theorem dX10_choices_13 : decode cX10_choices 13 = .ok (.iconst 1, 1) := by decide +kernel
theorem dX10_choices_14 : decode cX10_choices 14 = .ok (.istore_n 3, 1) := by decide +kernel
theorem dX10_choices_15 : decode cX10_choices 15 = .ok (.iload_n 3, 1) := by decide +kernel
theorem dX10_choices_16 : decode cX10_choices 16 = .ok (.iload_n 1, 1) := by decide +kernel
theorem dX10_choices_17 : decode cX10_choices 17 = .ok (.if_icmp .gt 19, 3) := by decide +kernel
theorem dX10_choices_20 : decode cX10_choices 20 = .ok (.iload_n 2, 1) := by decide +kernel
theorem dX10_choices_21 : decode cX10_choices 21 = .ok (.iload_n 0, 1) := by decide +kernel
theorem dX10_choices_22 : decode cX10_choices 22 = .ok (.iload_n 1, 1) := by decide +kernel
theorem dX10_choices_23 : decode cX10_choices 23 = .ok (.isub, 1) := by decide +kernel
theorem dX10_choices_24 : decode cX10_choices 24 = .ok (.iload_n 3, 1) := by decide +kernel
theorem dX10_choices_25 : decode cX10_choices 25 = .ok (.iadd, 1) := by decide +kernel
theorem dX10_choices_26 : decode cX10_choices 26 = .ok (.imul, 1) := by decide +kernel
theorem dX10_choices_27 : decode cX10_choices 27 = .ok (.iload_n 3, 1) := by decide +kernel
theorem dX10_choices_28 : decode cX10_choices 28 = .ok (.idiv, 1) := by decide +kernel
theorem dX10_choices_29 : decode cX10_choices 29 = .ok (.istore_n 2, 1) := by decide +kernel
theorem dX10_choices_30 : decode cX10_choices 30 = .ok (.iinc 3 1, 3) := by decide +kernel
theorem dX10_choices_33 : decode cX10_choices 33 = .ok (.goto (-18), 3) := by decide +kernel
theorem dX10_choices_36 : decode cX10_choices 36 = .ok (.iload_n 2, 1) := by decide +kernel
theorem dX10_choices_37 : decode cX10_choices 37 = .ok (.ireturn, 1) := by decide +kernel
theorem dX10_knowersOn_0 : decode cX10_knowersOn 0 = .ok (.iconst 0, 1) := by decide +kernel
theorem dX10_knowersOn_1 : decode cX10_knowersOn 1 = .ok (.istore 4, 2) := by decide +kernel
theorem dX10_knowersOn_3 : decode cX10_knowersOn 3 = .ok (.iload 4, 2) := by decide +kernel
theorem dX10_knowersOn_5 : decode cX10_knowersOn 5 = .ok (.bipush 8, 2) := by decide +kernel
theorem dX10_knowersOn_7 : decode cX10_knowersOn 7 = .ok (.if_icmp .ge 32, 3) := by decide +kernel
theorem dX10_knowersOn_10 : decode cX10_knowersOn 10 = .ok (.aload_n 0, 1) := by decide +kernel
theorem dX10_knowersOn_11 : decode cX10_knowersOn 11 = .ok (.getfield 54, 3) := by decide +kernel
theorem dX10_knowersOn_14 : decode cX10_knowersOn 14 = .ok (.iload 4, 2) := by decide +kernel
theorem dX10_knowersOn_16 : decode cX10_knowersOn 16 = .ok (.iload_n 2, 1) := by decide +kernel
theorem dX10_knowersOn_17 : decode cX10_knowersOn 17 = .ok (.iload 4, 2) := by decide +kernel
theorem dX10_knowersOn_19 : decode cX10_knowersOn 19 = .ok (.invokestatic 172, 3) := by decide +kernel
theorem dX10_knowersOn_22 : decode cX10_knowersOn 22 = .ok (.ifCond .eq 7, 3) := by decide +kernel
theorem dX10_knowersOn_25 : decode cX10_knowersOn 25 = .ok (.iconst 0, 1) := by decide +kernel
theorem dX10_knowersOn_26 : decode cX10_knowersOn 26 = .ok (.goto 6, 3) := by decide +kernel
theorem dX10_knowersOn_29 : decode cX10_knowersOn 29 = .ok (.sipush 366, 3) := by decide +kernel
theorem dX10_knowersOn_32 : decode cX10_knowersOn 32 = .ok (.iastore, 1) := by decide +kernel
theorem dX10_knowersOn_33 : decode cX10_knowersOn 33 = .ok (.iinc 4 1, 3) := by decide +kernel
theorem dX10_knowersOn_36 : decode cX10_knowersOn 36 = .ok (.goto (-33), 3) := by decide +kernel
theorem dX10_knowersOn_39 : decode cX10_knowersOn 39 = .ok (.iconst 1, 1) := by decide +kernel
theorem dX10_knowersOn_40 : decode cX10_knowersOn 40 = .ok (.istore 4, 2) := by decide +kernel
theorem dX10_knowersOn_42 : decode cX10_knowersOn 42 = .ok (.iload 4, 2) := by decide +kernel
theorem dX10_knowersOn_44 : decode cX10_knowersOn 44 = .ok (.bipush 8, 2) := by decide +kernel
theorem dX10_knowersOn_46 : decode cX10_knowersOn 46 = .ok (.if_icmp .ge 56, 3) := by decide +kernel
theorem dX10_knowersOn_49 : decode cX10_knowersOn 49 = .ok (.iconst 0, 1) := by decide +kernel
theorem dX10_knowersOn_50 : decode cX10_knowersOn 50 = .ok (.istore 5, 2) := by decide +kernel
theorem dX10_knowersOn_52 : decode cX10_knowersOn 52 = .ok (.iload 5, 2) := by decide +kernel
theorem dX10_knowersOn_54 : decode cX10_knowersOn 54 = .ok (.aload_n 0, 1) := by decide +kernel
theorem dX10_knowersOn_55 : decode cX10_knowersOn 55 = .ok (.getfield 23, 3) := by decide +kernel
theorem dX10_knowersOn_58 : decode cX10_knowersOn 58 = .ok (.getfield 256, 3) := by decide +kernel
theorem dX10_knowersOn_61 : decode cX10_knowersOn 61 = .ok (.getfield 176, 3) := by decide +kernel
theorem dX10_knowersOn_64 : decode cX10_knowersOn 64 = .ok (.if_icmp .ge 32, 3) := by decide +kernel
theorem dX10_knowersOn_67 : decode cX10_knowersOn 67 = .ok (.aload_n 0, 1) := by decide +kernel
theorem dX10_knowersOn_68 : decode cX10_knowersOn 68 = .ok (.getfield 23, 3) := by decide +kernel
theorem dX10_knowersOn_71 : decode cX10_knowersOn 71 = .ok (.getfield 256, 3) := by decide +kernel
theorem dX10_knowersOn_74 : decode cX10_knowersOn 74 = .ok (.iload 5, 2) := by decide +kernel
theorem dX10_knowersOn_76 : decode cX10_knowersOn 76 = .ok (.iconst 0, 1) := by decide +kernel
theorem dX10_knowersOn_77 : decode cX10_knowersOn 77 = .ok (.invokevirtual 246, 3) := by decide +kernel
theorem dX10_knowersOn_80 : decode cX10_knowersOn 80 = .ok (.iload_n 3, 1) := by decide +kernel
theorem dX10_knowersOn_81 : decode cX10_knowersOn 81 = .ok (.if_icmp .eq 9, 3) := by decide +kernel
theorem dX10_knowersOn_84 : decode cX10_knowersOn 84 = .ok (.aload_n 0, 1) := by decide +kernel
theorem dX10_knowersOn_85 : decode cX10_knowersOn 85 = .ok (.iload 5, 2) := by decide +kernel
theorem dX10_knowersOn_87 : decode cX10_knowersOn 87 = .ok (.invokevirtual 347, 3) := by decide +kernel
theorem dX10_knowersOn_90 : decode cX10_knowersOn 90 = .ok (.iinc 5 1, 3) := by decide +kernel
theorem dX10_knowersOn_93 : decode cX10_knowersOn 93 = .ok (.goto (-41), 3) := by decide +kernel
theorem dX10_knowersOn_96 : decode cX10_knowersOn 96 = .ok (.iinc 4 1, 3) := by decide +kernel
theorem dX10_knowersOn_99 : decode cX10_knowersOn 99 = .ok (.goto (-57), 3) := by decide +kernel
theorem dX10_knowersOn_102 : decode cX10_knowersOn 102 = .ok (.iconst 0, 1) := by decide +kernel
theorem dX10_knowersOn_103 : decode cX10_knowersOn 103 = .ok (.istore 4, 2) := by decide +kernel
theorem dX10_knowersOn_105 : decode cX10_knowersOn 105 = .ok (.iconst 0, 1) := by decide +kernel
theorem dX10_knowersOn_106 : decode cX10_knowersOn 106 = .ok (.istore 5, 2) := by decide +kernel
theorem dX10_knowersOn_108 : decode cX10_knowersOn 108 = .ok (.iload 5, 2) := by decide +kernel
theorem dX10_knowersOn_110 : decode cX10_knowersOn 110 = .ok (.bipush 8, 2) := by decide +kernel
theorem dX10_knowersOn_112 : decode cX10_knowersOn 112 = .ok (.if_icmp .ge 33, 3) := by decide +kernel
theorem dX10_knowersOn_115 : decode cX10_knowersOn 115 = .ok (.iload 4, 2) := by decide +kernel
theorem dX10_knowersOn_117 : decode cX10_knowersOn 117 = .ok (.aload_n 0, 1) := by decide +kernel
theorem dX10_knowersOn_118 : decode cX10_knowersOn 118 = .ok (.getfield 54, 3) := by decide +kernel
theorem dX10_knowersOn_121 : decode cX10_knowersOn 121 = .ok (.iload 5, 2) := by decide +kernel
theorem dX10_knowersOn_123 : decode cX10_knowersOn 123 = .ok (.iaload, 1) := by decide +kernel
theorem dX10_knowersOn_124 : decode cX10_knowersOn 124 = .ok (.iload_n 1, 1) := by decide +kernel
theorem dX10_knowersOn_125 : decode cX10_knowersOn 125 = .ok (.if_icmp .gt 10, 3) := by decide +kernel
theorem dX10_knowersOn_128 : decode cX10_knowersOn 128 = .ok (.iconst 1, 1) := by decide +kernel
theorem dX10_knowersOn_129 : decode cX10_knowersOn 129 = .ok (.iload 5, 2) := by decide +kernel
theorem dX10_knowersOn_131 : decode cX10_knowersOn 131 = .ok (.ishl, 1) := by decide +kernel
theorem dX10_knowersOn_132 : decode cX10_knowersOn 132 = .ok (.goto 4, 3) := by decide +kernel
theorem dX10_knowersOn_135 : decode cX10_knowersOn 135 = .ok (.iconst 0, 1) := by decide +kernel
theorem dX10_knowersOn_136 : decode cX10_knowersOn 136 = .ok (.ior, 1) := by decide +kernel
theorem dX10_knowersOn_137 : decode cX10_knowersOn 137 = .ok (.istore 4, 2) := by decide +kernel
theorem dX10_knowersOn_139 : decode cX10_knowersOn 139 = .ok (.iinc 5 1, 3) := by decide +kernel
theorem dX10_knowersOn_142 : decode cX10_knowersOn 142 = .ok (.goto (-34), 3) := by decide +kernel
theorem dX10_knowersOn_145 : decode cX10_knowersOn 145 = .ok (.iload 4, 2) := by decide +kernel
theorem dX10_knowersOn_147 : decode cX10_knowersOn 147 = .ok (.ireturn, 1) := by decide +kernel
theorem dX10_spread_0 : decode cX10_spread 0 = .ok (.aload_n 0, 1) := by decide +kernel
theorem dX10_spread_1 : decode cX10_spread 1 = .ok (.getfield 23, 3) := by decide +kernel
theorem dX10_spread_4 : decode cX10_spread 4 = .ok (.getfield 256, 3) := by decide +kernel
theorem dX10_spread_7 : decode cX10_spread 7 = .ok (.iload_n 1, 1) := by decide +kernel
theorem dX10_spread_8 : decode cX10_spread 8 = .ok (.iconst 0, 1) := by decide +kernel
theorem dX10_spread_9 : decode cX10_spread 9 = .ok (.invokevirtual 246, 3) := by decide +kernel
theorem dX10_spread_12 : decode cX10_spread 12 = .ok (.istore_n 2, 1) := by decide +kernel
theorem dX10_spread_13 : decode cX10_spread 13 = .ok (.aload_n 0, 1) := by decide +kernel
theorem dX10_spread_14 : decode cX10_spread 14 = .ok (.getfield 23, 3) := by decide +kernel
theorem dX10_spread_17 : decode cX10_spread 17 = .ok (.getfield 256, 3) := by decide +kernel
theorem dX10_spread_20 : decode cX10_spread 20 = .ok (.iload_n 1, 1) := by decide +kernel
theorem dX10_spread_21 : decode cX10_spread 21 = .ok (.iconst 1, 1) := by decide +kernel
theorem dX10_spread_22 : decode cX10_spread 22 = .ok (.invokevirtual 246, 3) := by decide +kernel
theorem dX10_spread_25 : decode cX10_spread 25 = .ok (.istore_n 3, 1) := by decide +kernel
theorem dX10_spread_26 : decode cX10_spread 26 = .ok (.aload_n 0, 1) := by decide +kernel
theorem dX10_spread_27 : decode cX10_spread 27 = .ok (.getfield 23, 3) := by decide +kernel
theorem dX10_spread_30 : decode cX10_spread 30 = .ok (.getfield 256, 3) := by decide +kernel
theorem dX10_spread_33 : decode cX10_spread 33 = .ok (.iload_n 1, 1) := by decide +kernel
theorem dX10_spread_34 : decode cX10_spread 34 = .ok (.iconst 2, 1) := by decide +kernel
theorem dX10_spread_35 : decode cX10_spread 35 = .ok (.invokevirtual 246, 3) := by decide +kernel
theorem dX10_spread_38 : decode cX10_spread 38 = .ok (.istore 4, 2) := by decide +kernel
theorem dX10_spread_40 : decode cX10_spread 40 = .ok (.aload_n 0, 1) := by decide +kernel
theorem dX10_spread_41 : decode cX10_spread 41 = .ok (.getfield 54, 3) := by decide +kernel
theorem dX10_spread_44 : decode cX10_spread 44 = .ok (.iload_n 2, 1) := by decide +kernel
theorem dX10_spread_45 : decode cX10_spread 45 = .ok (.iaload, 1) := by decide +kernel
theorem dX10_spread_46 : decode cX10_spread 46 = .ok (.iload 4, 2) := by decide +kernel
theorem dX10_spread_48 : decode cX10_spread 48 = .ok (.if_icmp .gt 22, 3) := by decide +kernel
theorem dX10_spread_51 : decode cX10_spread 51 = .ok (.aload_n 0, 1) := by decide +kernel
theorem dX10_spread_52 : decode cX10_spread 52 = .ok (.getfield 54, 3) := by decide +kernel
theorem dX10_spread_55 : decode cX10_spread 55 = .ok (.iload_n 3, 1) := by decide +kernel
theorem dX10_spread_56 : decode cX10_spread 56 = .ok (.iaload, 1) := by decide +kernel
theorem dX10_spread_57 : decode cX10_spread 57 = .ok (.iload 4, 2) := by decide +kernel
theorem dX10_spread_59 : decode cX10_spread 59 = .ok (.if_icmp .le 11, 3) := by decide +kernel
theorem dX10_spread_62 : decode cX10_spread 62 = .ok (.aload_n 0, 1) := by decide +kernel
theorem dX10_spread_63 : decode cX10_spread 63 = .ok (.getfield 54, 3) := by decide +kernel
theorem dX10_spread_66 : decode cX10_spread 66 = .ok (.iload_n 3, 1) := by decide +kernel
theorem dX10_spread_67 : decode cX10_spread 67 = .ok (.iload 4, 2) := by decide +kernel
theorem dX10_spread_69 : decode cX10_spread 69 = .ok (.iastore, 1) := by decide +kernel
theorem dX10_spread_70 : decode cX10_spread 70 = .ok (.return_, 1) := by decide +kernel
theorem dX10_sources_0 : decode cX10_sources 0 = .ok (.iconst 0, 1) := by decide +kernel
theorem dX10_sources_1 : decode cX10_sources 1 = .ok (.istore_n 2, 1) := by decide +kernel
theorem dX10_sources_2 : decode cX10_sources 2 = .ok (.iconst 1, 1) := by decide +kernel
theorem dX10_sources_3 : decode cX10_sources 3 = .ok (.istore_n 3, 1) := by decide +kernel
theorem dX10_sources_4 : decode cX10_sources 4 = .ok (.iload_n 3, 1) := by decide +kernel
theorem dX10_sources_5 : decode cX10_sources 5 = .ok (.bipush 8, 2) := by decide +kernel
theorem dX10_sources_7 : decode cX10_sources 7 = .ok (.if_icmp .ge 45, 3) := by decide +kernel
theorem dX10_sources_10 : decode cX10_sources 10 = .ok (.aload_n 0, 1) := by decide +kernel
theorem dX10_sources_11 : decode cX10_sources 11 = .ok (.getfield 23, 3) := by decide +kernel
theorem dX10_sources_14 : decode cX10_sources 14 = .ok (.getfield 253, 3) := by decide +kernel
theorem dX10_sources_17 : decode cX10_sources 17 = .ok (.iload_n 3, 1) := by decide +kernel
theorem dX10_sources_18 : decode cX10_sources 18 = .ok (.invokestatic 172, 3) := by decide +kernel
theorem dX10_sources_21 : decode cX10_sources 21 = .ok (.ifCond .eq 25, 3) := by decide +kernel
theorem dX10_sources_24 : decode cX10_sources 24 = .ok (.aload_n 0, 1) := by decide +kernel
theorem dX10_sources_25 : decode cX10_sources 25 = .ok (.iload_n 1, 1) := by decide +kernel
theorem dX10_sources_26 : decode cX10_sources 26 = .ok (.iconst 1, 1) := by decide +kernel
theorem dX10_sources_27 : decode cX10_sources 27 = .ok (.iload_n 3, 1) := by decide +kernel
theorem dX10_sources_28 : decode cX10_sources 28 = .ok (.ishl, 1) := by decide +kernel
theorem dX10_sources_29 : decode cX10_sources 29 = .ok (.iconst (-1), 1) := by decide +kernel
theorem dX10_sources_30 : decode cX10_sources 30 = .ok (.invokevirtual 259, 3) := by decide +kernel
theorem dX10_sources_33 : decode cX10_sources 33 = .ok (.iconst 0, 1) := by decide +kernel
theorem dX10_sources_34 : decode cX10_sources 34 = .ok (.invokestatic 172, 3) := by decide +kernel
theorem dX10_sources_37 : decode cX10_sources 37 = .ok (.ifCond .eq 9, 3) := by decide +kernel
theorem dX10_sources_40 : decode cX10_sources 40 = .ok (.iload_n 2, 1) := by decide +kernel
theorem dX10_sources_41 : decode cX10_sources 41 = .ok (.iconst 1, 1) := by decide +kernel
theorem dX10_sources_42 : decode cX10_sources 42 = .ok (.iload_n 3, 1) := by decide +kernel
theorem dX10_sources_43 : decode cX10_sources 43 = .ok (.ishl, 1) := by decide +kernel
theorem dX10_sources_44 : decode cX10_sources 44 = .ok (.ior, 1) := by decide +kernel
theorem dX10_sources_45 : decode cX10_sources 45 = .ok (.istore_n 2, 1) := by decide +kernel
theorem dX10_sources_46 : decode cX10_sources 46 = .ok (.iinc 3 1, 3) := by decide +kernel
theorem dX10_sources_49 : decode cX10_sources 49 = .ok (.goto (-45), 3) := by decide +kernel
theorem dX10_sources_52 : decode cX10_sources 52 = .ok (.iload_n 2, 1) := by decide +kernel
theorem dX10_sources_53 : decode cX10_sources 53 = .ok (.ireturn, 1) := by decide +kernel
theorem dX10_neededTellers_0 : decode cX10_neededTellers 0 = .ok (.aload_n 0, 1) := by decide +kernel
theorem dX10_neededTellers_1 : decode cX10_neededTellers 1 = .ok (.iload_n 1, 1) := by decide +kernel
theorem dX10_neededTellers_2 : decode cX10_neededTellers 2 = .ok (.aload_n 0, 1) := by decide +kernel
theorem dX10_neededTellers_3 : decode cX10_neededTellers 3 = .ok (.getfield 23, 3) := by decide +kernel
theorem dX10_neededTellers_6 : decode cX10_neededTellers 6 = .ok (.getfield 253, 3) := by decide +kernel
theorem dX10_neededTellers_9 : decode cX10_neededTellers 9 = .ok (.iconst (-1), 1) := by decide +kernel
theorem dX10_neededTellers_10 : decode cX10_neededTellers 10 = .ok (.invokevirtual 259, 3) := by decide +kernel
theorem dX10_neededTellers_13 : decode cX10_neededTellers 13 = .ok (.iconst 0, 1) := by decide +kernel
theorem dX10_neededTellers_14 : decode cX10_neededTellers 14 = .ok (.invokestatic 172, 3) := by decide +kernel
theorem dX10_neededTellers_17 : decode cX10_neededTellers 17 = .ok (.ifCond .ne 5, 3) := by decide +kernel
theorem dX10_neededTellers_20 : decode cX10_neededTellers 20 = .ok (.iconst 0, 1) := by decide +kernel
theorem dX10_neededTellers_21 : decode cX10_neededTellers 21 = .ok (.ireturn, 1) := by decide +kernel
theorem dX10_neededTellers_22 : decode cX10_neededTellers 22 = .ok (.iconst 0, 1) := by decide +kernel
theorem dX10_neededTellers_23 : decode cX10_neededTellers 23 = .ok (.istore_n 2, 1) := by decide +kernel
theorem dX10_neededTellers_24 : decode cX10_neededTellers 24 = .ok (.iconst 1, 1) := by decide +kernel
theorem dX10_neededTellers_25 : decode cX10_neededTellers 25 = .ok (.istore_n 3, 1) := by decide +kernel
theorem dX10_neededTellers_26 : decode cX10_neededTellers 26 = .ok (.iload_n 3, 1) := by decide +kernel
theorem dX10_neededTellers_27 : decode cX10_neededTellers 27 = .ok (.bipush 8, 2) := by decide +kernel
theorem dX10_neededTellers_29 : decode cX10_neededTellers 29 = .ok (.if_icmp .ge 35, 3) := by decide +kernel
theorem dX10_neededTellers_32 : decode cX10_neededTellers 32 = .ok (.aload_n 0, 1) := by decide +kernel
theorem dX10_neededTellers_33 : decode cX10_neededTellers 33 = .ok (.iload_n 1, 1) := by decide +kernel
theorem dX10_neededTellers_34 : decode cX10_neededTellers 34 = .ok (.aload_n 0, 1) := by decide +kernel
theorem dX10_neededTellers_35 : decode cX10_neededTellers 35 = .ok (.getfield 23, 3) := by decide +kernel
theorem dX10_neededTellers_38 : decode cX10_neededTellers 38 = .ok (.getfield 253, 3) := by decide +kernel
theorem dX10_neededTellers_41 : decode cX10_neededTellers 41 = .ok (.iload_n 3, 1) := by decide +kernel
theorem dX10_neededTellers_42 : decode cX10_neededTellers 42 = .ok (.invokevirtual 259, 3) := by decide +kernel
theorem dX10_neededTellers_45 : decode cX10_neededTellers 45 = .ok (.iconst 0, 1) := by decide +kernel
theorem dX10_neededTellers_46 : decode cX10_neededTellers 46 = .ok (.invokestatic 172, 3) := by decide +kernel
theorem dX10_neededTellers_49 : decode cX10_neededTellers 49 = .ok (.ifCond .ne 9, 3) := by decide +kernel
theorem dX10_neededTellers_52 : decode cX10_neededTellers 52 = .ok (.iload_n 2, 1) := by decide +kernel
theorem dX10_neededTellers_53 : decode cX10_neededTellers 53 = .ok (.iconst 1, 1) := by decide +kernel
theorem dX10_neededTellers_54 : decode cX10_neededTellers 54 = .ok (.iload_n 3, 1) := by decide +kernel
theorem dX10_neededTellers_55 : decode cX10_neededTellers 55 = .ok (.ishl, 1) := by decide +kernel
theorem dX10_neededTellers_56 : decode cX10_neededTellers 56 = .ok (.ior, 1) := by decide +kernel
theorem dX10_neededTellers_57 : decode cX10_neededTellers 57 = .ok (.istore_n 2, 1) := by decide +kernel
theorem dX10_neededTellers_58 : decode cX10_neededTellers 58 = .ok (.iinc 3 1, 3) := by decide +kernel
theorem dX10_neededTellers_61 : decode cX10_neededTellers 61 = .ok (.goto (-35), 3) := by decide +kernel
theorem dX10_neededTellers_64 : decode cX10_neededTellers 64 = .ok (.iload_n 2, 1) := by decide +kernel
theorem dX10_neededTellers_65 : decode cX10_neededTellers 65 = .ok (.ireturn, 1) := by decide +kernel
