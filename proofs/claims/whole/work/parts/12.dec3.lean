theorem dX11_thrown_0 : decode cX11_thrown 0 = .ok (.aload_n 0, 1) := by decide +kernel
theorem dX11_thrown_1 : decode cX11_thrown 1 = .ok (.getfield 3, 3) := by decide +kernel
theorem dX11_thrown_4 : decode cX11_thrown 4 = .ok (.ireturn, 1) := by decide +kernel
theorem dX11_throwsIf_0 : decode cX11_throwsIf 0 = .ok (.iload_n 1, 1) := by decide +kernel
theorem dX11_throwsIf_1 : decode cX11_throwsIf 1 = .ok (.ifCond .eq 8, 3) := by decide +kernel
theorem dX11_throwsIf_4 : decode cX11_throwsIf 4 = .ok (.aload_n 0, 1) := by decide +kernel
theorem dX11_throwsIf_5 : decode cX11_throwsIf 5 = .ok (.iload_n 2, 1) := by decide +kernel
theorem dX11_throwsIf_6 : decode cX11_throwsIf 6 = .ok (.putfield 3, 3) := by decide +kernel
theorem dX11_throwsIf_9 : decode cX11_throwsIf 9 = .ok (.iload_n 1, 1) := by decide +kernel
theorem dX11_throwsIf_10 : decode cX11_throwsIf 10 = .ok (.ireturn, 1) := by decide +kernel
theorem dX11_in_0 : decode cX11_in 0 = .ok (.iload_n 0, 1) := by decide +kernel
theorem dX11_in_1 : decode cX11_in 1 = .ok (.iload_n 1, 1) := by decide +kernel
theorem dX11_in_2 : decode cX11_in 2 = .ok (.if_icmp .lt 12, 3) := by decide +kernel
theorem dX11_in_5 : decode cX11_in 5 = .ok (.iload_n 0, 1) := by decide +kernel
theorem dX11_in_6 : decode cX11_in 6 = .ok (.iload_n 2, 1) := by decide +kernel
theorem dX11_in_7 : decode cX11_in 7 = .ok (.if_icmp .gt 7, 3) := by decide +kernel
theorem dX11_in_10 : decode cX11_in 10 = .ok (.iconst 1, 1) := by decide +kernel
theorem dX11_in_11 : decode cX11_in 11 = .ok (.goto 4, 3) := by decide +kernel
theorem dX11_in_14 : decode cX11_in 14 = .ok (.iconst 0, 1) := by decide +kernel
theorem dX11_in_15 : decode cX11_in 15 = .ok (.ireturn, 1) := by decide +kernel
theorem dX11_init_0 : decode cX11_init 0 = .ok (.aload_n 0, 1) := by decide +kernel
theorem dX11_init_1 : decode cX11_init 1 = .ok (.invokespecial 7, 3) := by decide +kernel
theorem dX11_init_4 : decode cX11_init 4 = .ok (.aload_n 0, 1) := by decide +kernel
theorem dX11_init_5 : decode cX11_init 5 = .ok (.sipush 9598, 3) := by decide +kernel
theorem dX11_init_8 : decode cX11_init 8 = .ok (.newarray .int, 2) := by decide +kernel
theorem dX11_init_10 : decode cX11_init 10 = .ok (.putfield 13, 3) := by decide +kernel
theorem dX11_init_13 : decode cX11_init 13 = .ok (.aload_n 0, 1) := by decide +kernel
theorem dX11_init_14 : decode cX11_init 14 = .ok (.sipush 8747, 3) := by decide +kernel
theorem dX11_init_17 : decode cX11_init 17 = .ok (.newarray .int, 2) := by decide +kernel
theorem dX11_init_19 : decode cX11_init 19 = .ok (.putfield 17, 3) := by decide +kernel
theorem dX11_init_22 : decode cX11_init 22 = .ok (.aload_n 0, 1) := by decide +kernel
theorem dX11_init_23 : decode cX11_init 23 = .ok (.sipush 400, 3) := by decide +kernel
theorem dX11_init_26 : decode cX11_init 26 = .ok (.newarray .byte, 2) := by decide +kernel
theorem dX11_init_28 : decode cX11_init 28 = .ok (.putfield 20, 3) := by decide +kernel
theorem dX11_init_31 : decode cX11_init 31 = .ok (.aload_n 0, 1) := by decide +kernel
theorem dX11_init_32 : decode cX11_init 32 = .ok (.iconst (-1), 1) := by decide +kernel
theorem dX11_init_33 : decode cX11_init 33 = .ok (.putfield 24, 3) := by decide +kernel
theorem dX11_init_36 : decode cX11_init 36 = .ok (.aload_n 0, 1) := by decide +kernel
theorem dX11_init_37 : decode cX11_init 37 = .ok (.iconst 5, 1) := by decide +kernel
theorem dX11_init_38 : decode cX11_init 38 = .ok (.newarray .int, 2) := by decide +kernel
theorem dX11_init_40 : decode cX11_init 40 = .ok (.putfield 27, 3) := by decide +kernel
theorem dX11_init_43 : decode cX11_init 43 = .ok (.aload_n 0, 1) := by decide +kernel
theorem dX11_init_44 : decode cX11_init 44 = .ok (.sipush 301, 3) := by decide +kernel
theorem dX11_init_47 : decode cX11_init 47 = .ok (.newarray .boolean, 2) := by decide +kernel
theorem dX11_init_49 : decode cX11_init 49 = .ok (.putfield 30, 3) := by decide +kernel
theorem dX11_init_52 : decode cX11_init 52 = .ok (.aload_n 0, 1) := by decide +kernel
theorem dX11_init_53 : decode cX11_init 53 = .ok (.iconst 4, 1) := by decide +kernel
theorem dX11_init_54 : decode cX11_init 54 = .ok (.newarray .int, 2) := by decide +kernel
theorem dX11_init_56 : decode cX11_init 56 = .ok (.putfield 34, 3) := by decide +kernel
theorem dX11_init_59 : decode cX11_init 59 = .ok (.aload_n 0, 1) := by decide +kernel
theorem dX11_init_60 : decode cX11_init 60 = .ok (.iconst 4, 1) := by decide +kernel
theorem dX11_init_61 : decode cX11_init 61 = .ok (.newarray .int, 2) := by decide +kernel
theorem dX11_init_63 : decode cX11_init 63 = .ok (.putfield 37, 3) := by decide +kernel
theorem dX11_init_66 : decode cX11_init 66 = .ok (.aload_n 0, 1) := by decide +kernel
theorem dX11_init_67 : decode cX11_init 67 = .ok (.sipush 400, 3) := by decide +kernel
theorem dX11_init_70 : decode cX11_init 70 = .ok (.newarray .int, 2) := by decide +kernel
theorem dX11_init_72 : decode cX11_init 72 = .ok (.putfield 40, 3) := by decide +kernel
theorem dX11_init_75 : decode cX11_init 75 = .ok (.aload_n 0, 1) := by decide +kernel
theorem dX11_init_76 : decode cX11_init 76 = .ok (.sipush 4816, 3) := by decide +kernel
theorem dX11_init_79 : decode cX11_init 79 = .ok (.newarray .boolean, 2) := by decide +kernel
theorem dX11_init_81 : decode cX11_init 81 = .ok (.putfield 43, 3) := by decide +kernel
theorem dX11_init_84 : decode cX11_init 84 = .ok (.aload_n 0, 1) := by decide +kernel
theorem dX11_init_85 : decode cX11_init 85 = .ok (.sipush 4816, 3) := by decide +kernel
theorem dX11_init_88 : decode cX11_init 88 = .ok (.newarray .boolean, 2) := by decide +kernel
theorem dX11_init_90 : decode cX11_init 90 = .ok (.putfield 46, 3) := by decide +kernel
theorem dX11_init_93 : decode cX11_init 93 = .ok (.aload_n 0, 1) := by decide +kernel
theorem dX11_init_94 : decode cX11_init 94 = .ok (.sipush 4816, 3) := by decide +kernel
theorem dX11_init_97 : decode cX11_init 97 = .ok (.newarray .boolean, 2) := by decide +kernel
theorem dX11_init_99 : decode cX11_init 99 = .ok (.putfield 49, 3) := by decide +kernel
theorem dX11_init_102 : decode cX11_init 102 = .ok (.aload_n 0, 1) := by decide +kernel
theorem dX11_init_103 : decode cX11_init 103 = .ok (.sipush 4816, 3) := by decide +kernel
theorem dX11_init_106 : decode cX11_init 106 = .ok (.newarray .boolean, 2) := by decide +kernel
theorem dX11_init_108 : decode cX11_init 108 = .ok (.putfield 52, 3) := by decide +kernel
theorem dX11_init_111 : decode cX11_init 111 = .ok (.aload_n 0, 1) := by decide +kernel
theorem dX11_init_112 : decode cX11_init 112 = .ok (.sipush 28992, 3) := by decide +kernel
theorem dX11_init_115 : decode cX11_init 115 = .ok (.newarray .int, 2) := by decide +kernel
theorem dX11_init_117 : decode cX11_init 117 = .ok (.putfield 55, 3) := by decide +kernel
theorem dX11_init_120 : decode cX11_init 120 = .ok (.aload_n 0, 1) := by decide +kernel
theorem dX11_init_121 : decode cX11_init 121 = .ok (.sipush 512, 3) := by decide +kernel
theorem dX11_init_124 : decode cX11_init 124 = .ok (.newarray .boolean, 2) := by decide +kernel
theorem dX11_init_126 : decode cX11_init 126 = .ok (.putfield 58, 3) := by decide +kernel
theorem dX11_init_129 : decode cX11_init 129 = .ok (.aload_n 0, 1) := by decide +kernel
theorem dX11_init_130 : decode cX11_init 130 = .ok (.sipush 512, 3) := by decide +kernel
theorem dX11_init_133 : decode cX11_init 133 = .ok (.newarray .int, 2) := by decide +kernel
theorem dX11_init_135 : decode cX11_init 135 = .ok (.putfield 61, 3) := by decide +kernel
theorem dX11_init_138 : decode cX11_init 138 = .ok (.aload_n 0, 1) := by decide +kernel
theorem dX11_init_139 : decode cX11_init 139 = .ok (.iconst 5, 1) := by decide +kernel
theorem dX11_init_140 : decode cX11_init 140 = .ok (.newarray .int, 2) := by decide +kernel
theorem dX11_init_142 : decode cX11_init 142 = .ok (.putfield 64, 3) := by decide +kernel
theorem dX11_init_145 : decode cX11_init 145 = .ok (.aload_n 0, 1) := by decide +kernel
theorem dX11_init_146 : decode cX11_init 146 = .ok (.iconst 5, 1) := by decide +kernel
theorem dX11_init_147 : decode cX11_init 147 = .ok (.newarray .long, 2) := by decide +kernel
theorem dX11_init_149 : decode cX11_init 149 = .ok (.putfield 67, 3) := by decide +kernel
theorem dX11_init_152 : decode cX11_init 152 = .ok (.aload_n 0, 1) := by decide +kernel
theorem dX11_init_153 : decode cX11_init 153 = .ok (.bipush 64, 2) := by decide +kernel
theorem dX11_init_155 : decode cX11_init 155 = .ok (.newarray .int, 2) := by decide +kernel
theorem dX11_init_157 : decode cX11_init 157 = .ok (.putfield 71, 3) := by decide +kernel
theorem dX11_init_160 : decode cX11_init 160 = .ok (.aload_n 0, 1) := by decide +kernel
theorem dX11_init_161 : decode cX11_init 161 = .ok (.bipush 64, 2) := by decide +kernel
theorem dX11_init_163 : decode cX11_init 163 = .ok (.newarray .int, 2) := by decide +kernel
theorem dX11_init_165 : decode cX11_init 165 = .ok (.putfield 74, 3) := by decide +kernel
theorem dX11_init_168 : decode cX11_init 168 = .ok (.return_, 1) := by decide +kernel
theorem dX11_image_0 : decode cX11_image 0 = .ok (.aload_n 0, 1) := by decide +kernel
theorem dX11_image_1 : decode cX11_image 1 = .ok (.iconst 0, 1) := by decide +kernel
theorem dX11_image_2 : decode cX11_image 2 = .ok (.putfield 3, 3) := by decide +kernel
theorem dX11_image_5 : decode cX11_image 5 = .ok (.iconst 0, 1) := by decide +kernel
theorem dX11_image_6 : decode cX11_image 6 = .ok (.istore_n 1, 1) := by decide +kernel
theorem dX11_image_7 : decode cX11_image 7 = .ok (.iload_n 1, 1) := by decide +kernel
theorem dX11_image_8 : decode cX11_image 8 = .ok (.sipush 8747, 3) := by decide +kernel
theorem dX11_image_11 : decode cX11_image 11 = .ok (.if_icmp .ge 21, 3) := by decide +kernel
theorem dX11_image_14 : decode cX11_image 14 = .ok (.aload_n 0, 1) := by decide +kernel
theorem dX11_image_15 : decode cX11_image 15 = .ok (.getfield 17, 3) := by decide +kernel
theorem dX11_image_18 : decode cX11_image 18 = .ok (.iload_n 1, 1) := by decide +kernel
theorem dX11_image_19 : decode cX11_image 19 = .ok (.aload_n 0, 1) := by decide +kernel
theorem dX11_image_20 : decode cX11_image 20 = .ok (.getfield 13, 3) := by decide +kernel
theorem dX11_image_23 : decode cX11_image 23 = .ok (.iload_n 1, 1) := by decide +kernel
theorem dX11_image_24 : decode cX11_image 24 = .ok (.iaload, 1) := by decide +kernel
theorem dX11_image_25 : decode cX11_image 25 = .ok (.iastore, 1) := by decide +kernel
theorem dX11_image_26 : decode cX11_image 26 = .ok (.iinc 1 1, 3) := by decide +kernel
theorem dX11_image_29 : decode cX11_image 29 = .ok (.goto (-22), 3) := by decide +kernel
theorem dX11_image_32 : decode cX11_image 32 = .ok (.aload_n 0, 1) := by decide +kernel
theorem dX11_image_33 : decode cX11_image 33 = .ok (.iconst 1, 1) := by decide +kernel
theorem dX11_image_34 : decode cX11_image 34 = .ok (.putfield 77, 3) := by decide +kernel
theorem dX11_image_37 : decode cX11_image 37 = .ok (.return_, 1) := by decide +kernel
theorem dX11_back_0 : decode cX11_back 0 = .ok (.aload_n 0, 1) := by decide +kernel
theorem dX11_back_1 : decode cX11_back 1 = .ok (.iconst 0, 1) := by decide +kernel
theorem dX11_back_2 : decode cX11_back 2 = .ok (.putfield 3, 3) := by decide +kernel
theorem dX11_back_5 : decode cX11_back 5 = .ok (.aload_n 0, 1) := by decide +kernel
theorem dX11_back_6 : decode cX11_back 6 = .ok (.getfield 77, 3) := by decide +kernel
theorem dX11_back_9 : decode cX11_back 9 = .ok (.ifCond .ne 5, 3) := by decide +kernel
theorem dX11_back_12 : decode cX11_back 12 = .ok (.iconst 0, 1) := by decide +kernel
theorem dX11_back_13 : decode cX11_back 13 = .ok (.ireturn, 1) := by decide +kernel
theorem dX11_back_14 : decode cX11_back 14 = .ok (.iconst 0, 1) := by decide +kernel
theorem dX11_back_15 : decode cX11_back 15 = .ok (.istore_n 1, 1) := by decide +kernel
theorem dX11_back_16 : decode cX11_back 16 = .ok (.iload_n 1, 1) := by decide +kernel
theorem dX11_back_17 : decode cX11_back 17 = .ok (.sipush 8747, 3) := by decide +kernel
theorem dX11_back_20 : decode cX11_back 20 = .ok (.if_icmp .ge 21, 3) := by decide +kernel
theorem dX11_back_23 : decode cX11_back 23 = .ok (.aload_n 0, 1) := by decide +kernel
theorem dX11_back_24 : decode cX11_back 24 = .ok (.getfield 13, 3) := by decide +kernel
theorem dX11_back_27 : decode cX11_back 27 = .ok (.iload_n 1, 1) := by decide +kernel
theorem dX11_back_28 : decode cX11_back 28 = .ok (.aload_n 0, 1) := by decide +kernel
theorem dX11_back_29 : decode cX11_back 29 = .ok (.getfield 17, 3) := by decide +kernel
theorem dX11_back_32 : decode cX11_back 32 = .ok (.iload_n 1, 1) := by decide +kernel
theorem dX11_back_33 : decode cX11_back 33 = .ok (.iaload, 1) := by decide +kernel
theorem dX11_back_34 : decode cX11_back 34 = .ok (.iastore, 1) := by decide +kernel
theorem dX11_back_35 : decode cX11_back 35 = .ok (.iinc 1 1, 3) := by decide +kernel
theorem dX11_back_38 : decode cX11_back 38 = .ok (.goto (-22), 3) := by decide +kernel
theorem dX11_back_41 : decode cX11_back 41 = .ok (.iconst 1, 1) := by decide +kernel
theorem dX11_back_42 : decode cX11_back 42 = .ok (.ireturn, 1) := by decide +kernel
theorem dX11_none_0 : decode cX11_none 0 = .ok (.iload_n 1, 1) := by decide +kernel
theorem dX11_none_1 : decode cX11_none 1 = .ok (.iconst 0, 1) := by decide +kernel
theorem dX11_none_2 : decode cX11_none 2 = .ok (.aload_n 0, 1) := by decide +kernel
theorem dX11_none_3 : decode cX11_none 3 = .ok (.getfield 13, 3) := by decide +kernel
theorem dX11_none_6 : decode cX11_none 6 = .ok (.iload_n 2, 1) := by decide +kernel
theorem dX11_none_7 : decode cX11_none 7 = .ok (.iaload, 1) := by decide +kernel
theorem dX11_none_8 : decode cX11_none 8 = .ok (.iconst 1, 1) := by decide +kernel
theorem dX11_none_9 : decode cX11_none 9 = .ok (.isub, 1) := by decide +kernel
theorem dX11_none_10 : decode cX11_none 10 = .ok (.invokestatic 81, 3) := by decide +kernel
theorem dX11_none_13 : decode cX11_none 13 = .ok (.ifCond .ne 7, 3) := by decide +kernel
theorem dX11_none_16 : decode cX11_none 16 = .ok (.iconst 1, 1) := by decide +kernel
theorem dX11_none_17 : decode cX11_none 17 = .ok (.goto 4, 3) := by decide +kernel
theorem dX11_none_20 : decode cX11_none 20 = .ok (.iconst 0, 1) := by decide +kernel
theorem dX11_none_21 : decode cX11_none 21 = .ok (.ireturn, 1) := by decide +kernel
theorem dX11_puts_0 : decode cX11_puts 0 = .ok (.aload_n 0, 1) := by decide +kernel
theorem dX11_puts_1 : decode cX11_puts 1 = .ok (.getfield 13, 3) := by decide +kernel
theorem dX11_puts_4 : decode cX11_puts 4 = .ok (.iload_n 1, 1) := by decide +kernel
theorem dX11_puts_5 : decode cX11_puts 5 = .ok (.iaload, 1) := by decide +kernel
theorem dX11_puts_6 : decode cX11_puts 6 = .ok (.istore 7, 2) := by decide +kernel
theorem dX11_puts_8 : decode cX11_puts 8 = .ok (.aload_n 0, 1) := by decide +kernel
theorem dX11_puts_9 : decode cX11_puts 9 = .ok (.getfield 13, 3) := by decide +kernel
theorem dX11_puts_12 : decode cX11_puts 12 = .ok (.iload_n 2, 1) := by decide +kernel
theorem dX11_puts_13 : decode cX11_puts 13 = .ok (.iload_n 3, 1) := by decide +kernel
theorem dX11_puts_14 : decode cX11_puts 14 = .ok (.iload 7, 2) := by decide +kernel
theorem dX11_puts_16 : decode cX11_puts 16 = .ok (.imul, 1) := by decide +kernel
theorem dX11_puts_17 : decode cX11_puts 17 = .ok (.iadd, 1) := by decide +kernel
theorem dX11_puts_18 : decode cX11_puts 18 = .ok (.iload 4, 2) := by decide +kernel
theorem dX11_puts_20 : decode cX11_puts 20 = .ok (.iastore, 1) := by decide +kernel
theorem dX11_puts_21 : decode cX11_puts 21 = .ok (.aload_n 0, 1) := by decide +kernel
theorem dX11_puts_22 : decode cX11_puts 22 = .ok (.getfield 13, 3) := by decide +kernel
theorem dX11_puts_25 : decode cX11_puts 25 = .ok (.iload_n 2, 1) := by decide +kernel
theorem dX11_puts_26 : decode cX11_puts 26 = .ok (.iload_n 3, 1) := by decide +kernel
theorem dX11_puts_27 : decode cX11_puts 27 = .ok (.iload 7, 2) := by decide +kernel
theorem dX11_puts_29 : decode cX11_puts 29 = .ok (.imul, 1) := by decide +kernel
theorem dX11_puts_30 : decode cX11_puts 30 = .ok (.iadd, 1) := by decide +kernel
theorem dX11_puts_31 : decode cX11_puts 31 = .ok (.iconst 1, 1) := by decide +kernel
theorem dX11_puts_32 : decode cX11_puts 32 = .ok (.iadd, 1) := by decide +kernel
theorem dX11_puts_33 : decode cX11_puts 33 = .ok (.iload 5, 2) := by decide +kernel
theorem dX11_puts_35 : decode cX11_puts 35 = .ok (.iastore, 1) := by decide +kernel
theorem dX11_puts_36 : decode cX11_puts 36 = .ok (.iload_n 3, 1) := by decide +kernel
theorem dX11_puts_37 : decode cX11_puts 37 = .ok (.iconst 2, 1) := by decide +kernel
theorem dX11_puts_38 : decode cX11_puts 38 = .ok (.if_icmp .le 18, 3) := by decide +kernel
theorem dX11_puts_41 : decode cX11_puts 41 = .ok (.aload_n 0, 1) := by decide +kernel
theorem dX11_puts_42 : decode cX11_puts 42 = .ok (.getfield 13, 3) := by decide +kernel
theorem dX11_puts_45 : decode cX11_puts 45 = .ok (.iload_n 2, 1) := by decide +kernel
theorem dX11_puts_46 : decode cX11_puts 46 = .ok (.iload_n 3, 1) := by decide +kernel
theorem dX11_puts_47 : decode cX11_puts 47 = .ok (.iload 7, 2) := by decide +kernel
theorem dX11_puts_49 : decode cX11_puts 49 = .ok (.imul, 1) := by decide +kernel
theorem dX11_puts_50 : decode cX11_puts 50 = .ok (.iadd, 1) := by decide +kernel
theorem dX11_puts_51 : decode cX11_puts 51 = .ok (.iconst 2, 1) := by decide +kernel
theorem dX11_puts_52 : decode cX11_puts 52 = .ok (.iadd, 1) := by decide +kernel
theorem dX11_puts_53 : decode cX11_puts 53 = .ok (.iload 6, 2) := by decide +kernel
theorem dX11_puts_55 : decode cX11_puts 55 = .ok (.iastore, 1) := by decide +kernel
theorem dX11_puts_56 : decode cX11_puts 56 = .ok (.aload_n 0, 1) := by decide +kernel
theorem dX11_puts_57 : decode cX11_puts 57 = .ok (.getfield 13, 3) := by decide +kernel
theorem dX11_puts_60 : decode cX11_puts 60 = .ok (.iload_n 1, 1) := by decide +kernel
theorem dX11_puts_61 : decode cX11_puts 61 = .ok (.dup2, 1) := by decide +kernel
theorem dX11_puts_62 : decode cX11_puts 62 = .ok (.iaload, 1) := by decide +kernel
theorem dX11_puts_63 : decode cX11_puts 63 = .ok (.iconst 1, 1) := by decide +kernel
theorem dX11_puts_64 : decode cX11_puts 64 = .ok (.iadd, 1) := by decide +kernel
theorem dX11_puts_65 : decode cX11_puts 65 = .ok (.iastore, 1) := by decide +kernel
theorem dX11_puts_66 : decode cX11_puts 66 = .ok (.iload 7, 2) := by decide +kernel
theorem dX11_puts_68 : decode cX11_puts 68 = .ok (.ireturn, 1) := by decide +kernel
theorem dX11_person_0 : decode cX11_person 0 = .ok (.aload_n 0, 1) := by decide +kernel
theorem dX11_person_1 : decode cX11_person 1 = .ok (.iconst 0, 1) := by decide +kernel
theorem dX11_person_2 : decode cX11_person 2 = .ok (.putfield 3, 3) := by decide +kernel
theorem dX11_person_5 : decode cX11_person 5 = .ok (.aload_n 0, 1) := by decide +kernel
theorem dX11_person_6 : decode cX11_person 6 = .ok (.iload_n 1, 1) := by decide +kernel
theorem dX11_person_7 : decode cX11_person 7 = .ok (.iconst 0, 1) := by decide +kernel
theorem dX11_person_8 : decode cX11_person 8 = .ok (.bipush 9, 2) := by decide +kernel
theorem dX11_person_10 : decode cX11_person 10 = .ok (.invokestatic 81, 3) := by decide +kernel
theorem dX11_person_13 : decode cX11_person 13 = .ok (.ifCond .eq 14, 3) := by decide +kernel
theorem dX11_person_16 : decode cX11_person 16 = .ok (.iload_n 2, 1) := by decide +kernel
theorem dX11_person_17 : decode cX11_person 17 = .ok (.iconst 0, 1) := by decide +kernel
theorem dX11_person_18 : decode cX11_person 18 = .ok (.sipush 400, 3) := by decide +kernel
theorem dX11_person_21 : decode cX11_person 21 = .ok (.invokestatic 81, 3) := by decide +kernel
theorem dX11_person_24 : decode cX11_person 24 = .ok (.ifCond .ne 7, 3) := by decide +kernel
theorem dX11_person_27 : decode cX11_person 27 = .ok (.iconst 1, 1) := by decide +kernel
theorem dX11_person_28 : decode cX11_person 28 = .ok (.goto 4, 3) := by decide +kernel
theorem dX11_person_31 : decode cX11_person 31 = .ok (.iconst 0, 1) := by decide +kernel
theorem dX11_person_32 : decode cX11_person 32 = .ok (.iconst 1, 1) := by decide +kernel
theorem dX11_person_33 : decode cX11_person 33 = .ok (.invokevirtual 85, 3) := by decide +kernel
theorem dX11_person_36 : decode cX11_person 36 = .ok (.ifCond .ne 27, 3) := by decide +kernel
theorem dX11_person_39 : decode cX11_person 39 = .ok (.aload_n 0, 1) := by decide +kernel
theorem dX11_person_40 : decode cX11_person 40 = .ok (.aload_n 0, 1) := by decide +kernel
theorem dX11_person_41 : decode cX11_person 41 = .ok (.getfield 13, 3) := by decide +kernel
theorem dX11_person_44 : decode cX11_person 44 = .ok (.iconst 0, 1) := by decide +kernel
theorem dX11_person_45 : decode cX11_person 45 = .ok (.iaload, 1) := by decide +kernel
theorem dX11_person_46 : decode cX11_person 46 = .ok (.bipush 8, 2) := by decide +kernel
theorem dX11_person_48 : decode cX11_person 48 = .ok (.if_icmp .ne 7, 3) := by decide +kernel
theorem dX11_person_51 : decode cX11_person 51 = .ok (.iconst 1, 1) := by decide +kernel
theorem dX11_person_52 : decode cX11_person 52 = .ok (.goto 4, 3) := by decide +kernel
theorem dX11_person_55 : decode cX11_person 55 = .ok (.iconst 0, 1) := by decide +kernel
theorem dX11_person_56 : decode cX11_person 56 = .ok (.iconst 2, 1) := by decide +kernel
theorem dX11_person_57 : decode cX11_person 57 = .ok (.invokevirtual 85, 3) := by decide +kernel
theorem dX11_person_60 : decode cX11_person 60 = .ok (.ifCond .eq 5, 3) := by decide +kernel
theorem dX11_person_63 : decode cX11_person 63 = .ok (.iconst 0, 1) := by decide +kernel
theorem dX11_person_64 : decode cX11_person 64 = .ok (.ireturn, 1) := by decide +kernel
theorem dX11_person_65 : decode cX11_person 65 = .ok (.aload_n 0, 1) := by decide +kernel
theorem dX11_person_66 : decode cX11_person 66 = .ok (.iconst 0, 1) := by decide +kernel
theorem dX11_person_67 : decode cX11_person 67 = .ok (.bipush 12, 2) := by decide +kernel
theorem dX11_person_69 : decode cX11_person 69 = .ok (.iconst 2, 1) := by decide +kernel
theorem dX11_person_70 : decode cX11_person 70 = .ok (.iload_n 1, 1) := by decide +kernel
theorem dX11_person_71 : decode cX11_person 71 = .ok (.iload_n 2, 1) := by decide +kernel
theorem dX11_person_72 : decode cX11_person 72 = .ok (.iconst 0, 1) := by decide +kernel
theorem dX11_person_73 : decode cX11_person 73 = .ok (.invokevirtual 89, 3) := by decide +kernel
theorem dX11_person_76 : decode cX11_person 76 = .ok (.ireturn, 1) := by decide +kernel
theorem dX11_thing_0 : decode cX11_thing 0 = .ok (.aload_n 0, 1) := by decide +kernel
theorem dX11_thing_1 : decode cX11_thing 1 = .ok (.iconst 0, 1) := by decide +kernel
theorem dX11_thing_2 : decode cX11_thing 2 = .ok (.putfield 3, 3) := by decide +kernel
theorem dX11_thing_5 : decode cX11_thing 5 = .ok (.aload_n 0, 1) := by decide +kernel
theorem dX11_thing_6 : decode cX11_thing 6 = .ok (.iload_n 1, 1) := by decide +kernel
theorem dX11_thing_7 : decode cX11_thing 7 = .ok (.iconst 0, 1) := by decide +kernel
theorem dX11_thing_8 : decode cX11_thing 8 = .ok (.iconst 2, 1) := by decide +kernel
theorem dX11_thing_9 : decode cX11_thing 9 = .ok (.invokestatic 81, 3) := by decide +kernel
theorem dX11_thing_12 : decode cX11_thing 12 = .ok (.ifCond .eq 22, 3) := by decide +kernel
theorem dX11_thing_15 : decode cX11_thing 15 = .ok (.iload_n 2, 1) := by decide +kernel
theorem dX11_thing_16 : decode cX11_thing 16 = .ok (.iconst 0, 1) := by decide +kernel
theorem dX11_thing_17 : decode cX11_thing 17 = .ok (.iconst 2, 1) := by decide +kernel
theorem dX11_thing_18 : decode cX11_thing 18 = .ok (.invokestatic 81, 3) := by decide +kernel
theorem dX11_thing_21 : decode cX11_thing 21 = .ok (.ifCond .eq 13, 3) := by decide +kernel
theorem dX11_thing_24 : decode cX11_thing 24 = .ok (.iload_n 3, 1) := by decide +kernel
theorem dX11_thing_25 : decode cX11_thing 25 = .ok (.iconst 0, 1) := by decide +kernel
theorem dX11_thing_26 : decode cX11_thing 26 = .ok (.bipush 9, 2) := by decide +kernel
theorem dX11_thing_28 : decode cX11_thing 28 = .ok (.invokestatic 81, 3) := by decide +kernel
theorem dX11_thing_31 : decode cX11_thing 31 = .ok (.ifCond .ne 7, 3) := by decide +kernel
theorem dX11_thing_34 : decode cX11_thing 34 = .ok (.iconst 1, 1) := by decide +kernel
theorem dX11_thing_35 : decode cX11_thing 35 = .ok (.goto 4, 3) := by decide +kernel
theorem dX11_thing_38 : decode cX11_thing 38 = .ok (.iconst 0, 1) := by decide +kernel
theorem dX11_thing_39 : decode cX11_thing 39 = .ok (.iconst 1, 1) := by decide +kernel
theorem dX11_thing_40 : decode cX11_thing 40 = .ok (.invokevirtual 85, 3) := by decide +kernel
theorem dX11_thing_43 : decode cX11_thing 43 = .ok (.ifCond .ne 27, 3) := by decide +kernel
theorem dX11_thing_46 : decode cX11_thing 46 = .ok (.aload_n 0, 1) := by decide +kernel
theorem dX11_thing_47 : decode cX11_thing 47 = .ok (.aload_n 0, 1) := by decide +kernel
theorem dX11_thing_48 : decode cX11_thing 48 = .ok (.getfield 13, 3) := by decide +kernel
theorem dX11_thing_51 : decode cX11_thing 51 = .ok (.iconst 3, 1) := by decide +kernel
theorem dX11_thing_52 : decode cX11_thing 52 = .ok (.iaload, 1) := by decide +kernel
theorem dX11_thing_53 : decode cX11_thing 53 = .ok (.bipush 6, 2) := by decide +kernel
theorem dX11_thing_55 : decode cX11_thing 55 = .ok (.if_icmp .ne 7, 3) := by decide +kernel
theorem dX11_thing_58 : decode cX11_thing 58 = .ok (.iconst 1, 1) := by decide +kernel
theorem dX11_thing_59 : decode cX11_thing 59 = .ok (.goto 4, 3) := by decide +kernel
theorem dX11_thing_62 : decode cX11_thing 62 = .ok (.iconst 0, 1) := by decide +kernel
theorem dX11_thing_63 : decode cX11_thing 63 = .ok (.iconst 2, 1) := by decide +kernel
theorem dX11_thing_64 : decode cX11_thing 64 = .ok (.invokevirtual 85, 3) := by decide +kernel
theorem dX11_thing_67 : decode cX11_thing 67 = .ok (.ifCond .eq 5, 3) := by decide +kernel
theorem dX11_thing_70 : decode cX11_thing 70 = .ok (.iconst 0, 1) := by decide +kernel
theorem dX11_thing_71 : decode cX11_thing 71 = .ok (.ireturn, 1) := by decide +kernel
theorem dX11_thing_72 : decode cX11_thing 72 = .ok (.aload_n 0, 1) := by decide +kernel
theorem dX11_thing_73 : decode cX11_thing 73 = .ok (.iconst 3, 1) := by decide +kernel
theorem dX11_thing_74 : decode cX11_thing 74 = .ok (.bipush 28, 2) := by decide +kernel
theorem dX11_thing_76 : decode cX11_thing 76 = .ok (.iconst 3, 1) := by decide +kernel
theorem dX11_thing_77 : decode cX11_thing 77 = .ok (.iload_n 1, 1) := by decide +kernel
theorem dX11_thing_78 : decode cX11_thing 78 = .ok (.iload_n 2, 1) := by decide +kernel
theorem dX11_thing_79 : decode cX11_thing 79 = .ok (.iload_n 3, 1) := by decide +kernel
theorem dX11_thing_80 : decode cX11_thing 80 = .ok (.invokevirtual 89, 3) := by decide +kernel
theorem dX11_thing_83 : decode cX11_thing 83 = .ok (.ireturn, 1) := by decide +kernel
theorem dX11_feed_0 : decode cX11_feed 0 = .ok (.aload_n 0, 1) := by decide +kernel
theorem dX11_feed_1 : decode cX11_feed 1 = .ok (.iconst 0, 1) := by decide +kernel
theorem dX11_feed_2 : decode cX11_feed 2 = .ok (.putfield 3, 3) := by decide +kernel
theorem dX11_feed_5 : decode cX11_feed 5 = .ok (.aload_n 0, 1) := by decide +kernel
theorem dX11_feed_6 : decode cX11_feed 6 = .ok (.getfield 93, 3) := by decide +kernel
theorem dX11_feed_9 : decode cX11_feed 9 = .ok (.bipush 20, 2) := by decide +kernel
theorem dX11_feed_11 : decode cX11_feed 11 = .ok (.iadd, 1) := by decide +kernel
theorem dX11_feed_12 : decode cX11_feed 12 = .ok (.sipush 400, 3) := by decide +kernel
theorem dX11_feed_15 : decode cX11_feed 15 = .ok (.if_icmp .le 5, 3) := by decide +kernel
theorem dX11_feed_18 : decode cX11_feed 18 = .ok (.iconst (-1), 1) := by decide +kernel
theorem dX11_feed_19 : decode cX11_feed 19 = .ok (.ireturn, 1) := by decide +kernel
theorem dX11_feed_20 : decode cX11_feed 20 = .ok (.aload_n 0, 1) := by decide +kernel
theorem dX11_feed_21 : decode cX11_feed 21 = .ok (.getfield 27, 3) := by decide +kernel
theorem dX11_feed_24 : decode cX11_feed 24 = .ok (.iconst 0, 1) := by decide +kernel
theorem dX11_feed_25 : decode cX11_feed 25 = .ok (.iload_n 1, 1) := by decide +kernel
theorem dX11_feed_26 : decode cX11_feed 26 = .ok (.iastore, 1) := by decide +kernel
theorem dX11_feed_27 : decode cX11_feed 27 = .ok (.aload_n 0, 1) := by decide +kernel
theorem dX11_feed_28 : decode cX11_feed 28 = .ok (.getfield 27, 3) := by decide +kernel
theorem dX11_feed_31 : decode cX11_feed 31 = .ok (.iconst 1, 1) := by decide +kernel
theorem dX11_feed_32 : decode cX11_feed 32 = .ok (.iload_n 2, 1) := by decide +kernel
theorem dX11_feed_33 : decode cX11_feed 33 = .ok (.iastore, 1) := by decide +kernel
theorem dX11_feed_34 : decode cX11_feed 34 = .ok (.aload_n 0, 1) := by decide +kernel
theorem dX11_feed_35 : decode cX11_feed 35 = .ok (.getfield 27, 3) := by decide +kernel
theorem dX11_feed_38 : decode cX11_feed 38 = .ok (.iconst 2, 1) := by decide +kernel
theorem dX11_feed_39 : decode cX11_feed 39 = .ok (.iload_n 3, 1) := by decide +kernel
theorem dX11_feed_40 : decode cX11_feed 40 = .ok (.iastore, 1) := by decide +kernel
theorem dX11_feed_41 : decode cX11_feed 41 = .ok (.aload_n 0, 1) := by decide +kernel
theorem dX11_feed_42 : decode cX11_feed 42 = .ok (.getfield 27, 3) := by decide +kernel
theorem dX11_feed_45 : decode cX11_feed 45 = .ok (.iconst 3, 1) := by decide +kernel
theorem dX11_feed_46 : decode cX11_feed 46 = .ok (.iload 4, 2) := by decide +kernel
theorem dX11_feed_48 : decode cX11_feed 48 = .ok (.iastore, 1) := by decide +kernel
theorem dX11_feed_49 : decode cX11_feed 49 = .ok (.aload_n 0, 1) := by decide +kernel
theorem dX11_feed_50 : decode cX11_feed 50 = .ok (.getfield 27, 3) := by decide +kernel
theorem dX11_feed_53 : decode cX11_feed 53 = .ok (.iconst 4, 1) := by decide +kernel
theorem dX11_feed_54 : decode cX11_feed 54 = .ok (.iload 5, 2) := by decide +kernel
theorem dX11_feed_56 : decode cX11_feed 56 = .ok (.iastore, 1) := by decide +kernel
theorem dX11_feed_57 : decode cX11_feed 57 = .ok (.iconst 0, 1) := by decide +kernel
theorem dX11_feed_58 : decode cX11_feed 58 = .ok (.istore 6, 2) := by decide +kernel
theorem dX11_feed_60 : decode cX11_feed 60 = .ok (.iload 6, 2) := by decide +kernel
theorem dX11_feed_62 : decode cX11_feed 62 = .ok (.bipush 20, 2) := by decide +kernel
theorem dX11_feed_64 : decode cX11_feed 64 = .ok (.if_icmp .ge 42, 3) := by decide +kernel
theorem dX11_feed_67 : decode cX11_feed 67 = .ok (.aload_n 0, 1) := by decide +kernel
theorem dX11_feed_68 : decode cX11_feed 68 = .ok (.getfield 20, 3) := by decide +kernel
theorem dX11_feed_71 : decode cX11_feed 71 = .ok (.aload_n 0, 1) := by decide +kernel
theorem dX11_feed_72 : decode cX11_feed 72 = .ok (.getfield 93, 3) := by decide +kernel
theorem dX11_feed_75 : decode cX11_feed 75 = .ok (.iload 6, 2) := by decide +kernel
theorem dX11_feed_77 : decode cX11_feed 77 = .ok (.iadd, 1) := by decide +kernel
theorem dX11_feed_78 : decode cX11_feed 78 = .ok (.aload_n 0, 1) := by decide +kernel
theorem dX11_feed_79 : decode cX11_feed 79 = .ok (.getfield 27, 3) := by decide +kernel
theorem dX11_feed_82 : decode cX11_feed 82 = .ok (.iload 6, 2) := by decide +kernel
theorem dX11_feed_84 : decode cX11_feed 84 = .ok (.iconst 4, 1) := by decide +kernel
theorem dX11_feed_85 : decode cX11_feed 85 = .ok (.idiv, 1) := by decide +kernel
theorem dX11_feed_86 : decode cX11_feed 86 = .ok (.iaload, 1) := by decide +kernel
theorem dX11_feed_87 : decode cX11_feed 87 = .ok (.bipush 24, 2) := by decide +kernel
theorem dX11_feed_89 : decode cX11_feed 89 = .ok (.bipush 8, 2) := by decide +kernel
theorem dX11_feed_91 : decode cX11_feed 91 = .ok (.iload 6, 2) := by decide +kernel
theorem dX11_feed_93 : decode cX11_feed 93 = .ok (.iconst 4, 1) := by decide +kernel
theorem dX11_feed_94 : decode cX11_feed 94 = .ok (.irem, 1) := by decide +kernel
theorem dX11_feed_95 : decode cX11_feed 95 = .ok (.imul, 1) := by decide +kernel
theorem dX11_feed_96 : decode cX11_feed 96 = .ok (.isub, 1) := by decide +kernel
theorem dX11_feed_97 : decode cX11_feed 97 = .ok (.ishr, 1) := by decide +kernel
theorem dX11_feed_98 : decode cX11_feed 98 = .ok (.i2b, 1) := by decide +kernel
theorem dX11_feed_99 : decode cX11_feed 99 = .ok (.bastore, 1) := by decide +kernel
theorem dX11_feed_100 : decode cX11_feed 100 = .ok (.iinc 6 1, 3) := by decide +kernel
theorem dX11_feed_103 : decode cX11_feed 103 = .ok (.goto (-43), 3) := by decide +kernel
theorem dX11_feed_106 : decode cX11_feed 106 = .ok (.aload_n 0, 1) := by decide +kernel
theorem dX11_feed_107 : decode cX11_feed 107 = .ok (.dup, 1) := by decide +kernel
theorem dX11_feed_108 : decode cX11_feed 108 = .ok (.getfield 93, 3) := by decide +kernel
theorem dX11_feed_111 : decode cX11_feed 111 = .ok (.bipush 20, 2) := by decide +kernel
theorem dX11_feed_113 : decode cX11_feed 113 = .ok (.iadd, 1) := by decide +kernel
theorem dX11_feed_114 : decode cX11_feed 114 = .ok (.putfield 93, 3) := by decide +kernel
theorem dX11_feed_117 : decode cX11_feed 117 = .ok (.aload_n 0, 1) := by decide +kernel
theorem dX11_feed_118 : decode cX11_feed 118 = .ok (.getfield 93, 3) := by decide +kernel
theorem dX11_feed_121 : decode cX11_feed 121 = .ok (.ireturn, 1) := by decide +kernel
theorem dX11_end_0 : decode cX11_end 0 = .ok (.aload_n 0, 1) := by decide +kernel
theorem dX11_end_1 : decode cX11_end 1 = .ok (.iconst 0, 1) := by decide +kernel
theorem dX11_end_2 : decode cX11_end 2 = .ok (.putfield 3, 3) := by decide +kernel
theorem dX11_end_5 : decode cX11_end 5 = .ok (.iload_n 1, 1) := by decide +kernel
theorem dX11_end_6 : decode cX11_end 6 = .ok (.ifCond .lt 11, 3) := by decide +kernel
theorem dX11_end_9 : decode cX11_end 9 = .ok (.iload_n 1, 1) := by decide +kernel
theorem dX11_end_10 : decode cX11_end 10 = .ok (.aload_n 0, 1) := by decide +kernel
theorem dX11_end_11 : decode cX11_end 11 = .ok (.getfield 93, 3) := by decide +kernel
theorem dX11_end_14 : decode cX11_end 14 = .ok (.if_icmp .le 5, 3) := by decide +kernel
theorem dX11_end_17 : decode cX11_end 17 = .ok (.iconst 0, 1) := by decide +kernel
theorem dX11_end_18 : decode cX11_end 18 = .ok (.ireturn, 1) := by decide +kernel
theorem dX11_end_19 : decode cX11_end 19 = .ok (.aload_n 0, 1) := by decide +kernel
theorem dX11_end_20 : decode cX11_end 20 = .ok (.iload_n 1, 1) := by decide +kernel
theorem dX11_end_21 : decode cX11_end 21 = .ok (.putfield 93, 3) := by decide +kernel
theorem dX11_end_24 : decode cX11_end 24 = .ok (.iconst 1, 1) := by decide +kernel
theorem dX11_end_25 : decode cX11_end 25 = .ok (.ireturn, 1) := by decide +kernel
theorem dX11_uses_0 : decode cX11_uses 0 = .ok (.aload_n 0, 1) := by decide +kernel
theorem dX11_uses_1 : decode cX11_uses 1 = .ok (.iconst 0, 1) := by decide +kernel
theorem dX11_uses_2 : decode cX11_uses 2 = .ok (.putfield 3, 3) := by decide +kernel
theorem dX11_uses_5 : decode cX11_uses 5 = .ok (.aload_n 0, 1) := by decide +kernel
theorem dX11_uses_6 : decode cX11_uses 6 = .ok (.aload_n 0, 1) := by decide +kernel
theorem dX11_uses_7 : decode cX11_uses 7 = .ok (.getfield 93, 3) := by decide +kernel
theorem dX11_uses_10 : decode cX11_uses 10 = .ok (.putfield 96, 3) := by decide +kernel
theorem dX11_uses_13 : decode cX11_uses 13 = .ok (.aload_n 0, 1) := by decide +kernel
theorem dX11_uses_14 : decode cX11_uses 14 = .ok (.iconst 0, 1) := by decide +kernel
theorem dX11_uses_15 : decode cX11_uses 15 = .ok (.putfield 93, 3) := by decide +kernel
theorem dX11_uses_18 : decode cX11_uses 18 = .ok (.aload_n 0, 1) := by decide +kernel
theorem dX11_uses_19 : decode cX11_uses 19 = .ok (.iconst 0, 1) := by decide +kernel
theorem dX11_uses_20 : decode cX11_uses 20 = .ok (.putfield 99, 3) := by decide +kernel
theorem dX11_uses_23 : decode cX11_uses 23 = .ok (.aload_n 0, 1) := by decide +kernel
theorem dX11_uses_24 : decode cX11_uses 24 = .ok (.iconst 0, 1) := by decide +kernel
theorem dX11_uses_25 : decode cX11_uses 25 = .ok (.putfield 102, 3) := by decide +kernel
theorem dX11_uses_28 : decode cX11_uses 28 = .ok (.return_, 1) := by decide +kernel
theorem dX11_isAt_0 : decode cX11_isAt 0 = .ok (.aload_n 0, 1) := by decide +kernel
theorem dX11_isAt_1 : decode cX11_isAt 1 = .ok (.getfield 99, 3) := by decide +kernel
theorem dX11_isAt_4 : decode cX11_isAt 4 = .ok (.aload_n 0, 1) := by decide +kernel
theorem dX11_isAt_5 : decode cX11_isAt 5 = .ok (.getfield 96, 3) := by decide +kernel
theorem dX11_isAt_8 : decode cX11_isAt 8 = .ok (.if_icmp .ge 33, 3) := by decide +kernel
theorem dX11_isAt_11 : decode cX11_isAt 11 = .ok (.aload_n 0, 1) := by decide +kernel
theorem dX11_isAt_12 : decode cX11_isAt 12 = .ok (.getfield 20, 3) := by decide +kernel
theorem dX11_isAt_15 : decode cX11_isAt 15 = .ok (.aload_n 0, 1) := by decide +kernel
theorem dX11_isAt_16 : decode cX11_isAt 16 = .ok (.getfield 99, 3) := by decide +kernel
theorem dX11_isAt_19 : decode cX11_isAt 19 = .ok (.baload, 1) := by decide +kernel
theorem dX11_isAt_20 : decode cX11_isAt 20 = .ok (.iload_n 1, 1) := by decide +kernel
theorem dX11_isAt_21 : decode cX11_isAt 21 = .ok (.if_icmp .lt 20, 3) := by decide +kernel
theorem dX11_isAt_24 : decode cX11_isAt 24 = .ok (.aload_n 0, 1) := by decide +kernel
theorem dX11_isAt_25 : decode cX11_isAt 25 = .ok (.getfield 20, 3) := by decide +kernel
theorem dX11_isAt_28 : decode cX11_isAt 28 = .ok (.aload_n 0, 1) := by decide +kernel
theorem dX11_isAt_29 : decode cX11_isAt 29 = .ok (.getfield 99, 3) := by decide +kernel
theorem dX11_isAt_32 : decode cX11_isAt 32 = .ok (.baload, 1) := by decide +kernel
theorem dX11_isAt_33 : decode cX11_isAt 33 = .ok (.iload_n 2, 1) := by decide +kernel
theorem dX11_isAt_34 : decode cX11_isAt 34 = .ok (.if_icmp .gt 7, 3) := by decide +kernel
theorem dX11_isAt_37 : decode cX11_isAt 37 = .ok (.iconst 1, 1) := by decide +kernel
theorem dX11_isAt_38 : decode cX11_isAt 38 = .ok (.goto 4, 3) := by decide +kernel
theorem dX11_isAt_41 : decode cX11_isAt 41 = .ok (.iconst 0, 1) := by decide +kernel
theorem dX11_isAt_42 : decode cX11_isAt 42 = .ok (.ireturn, 1) := by decide +kernel
theorem dX11_blanks_0 : decode cX11_blanks 0 = .ok (.aload_n 0, 1) := by decide +kernel
theorem dX11_blanks_1 : decode cX11_blanks 1 = .ok (.bipush 32, 2) := by decide +kernel
theorem dX11_blanks_3 : decode cX11_blanks 3 = .ok (.bipush 32, 2) := by decide +kernel
theorem dX11_blanks_5 : decode cX11_blanks 5 = .ok (.invokevirtual 105, 3) := by decide +kernel
theorem dX11_blanks_8 : decode cX11_blanks 8 = .ok (.ifCond .eq 16, 3) := by decide +kernel
theorem dX11_blanks_11 : decode cX11_blanks 11 = .ok (.aload_n 0, 1) := by decide +kernel
theorem dX11_blanks_12 : decode cX11_blanks 12 = .ok (.dup, 1) := by decide +kernel
theorem dX11_blanks_13 : decode cX11_blanks 13 = .ok (.getfield 99, 3) := by decide +kernel
theorem dX11_blanks_16 : decode cX11_blanks 16 = .ok (.iconst 1, 1) := by decide +kernel
theorem dX11_blanks_17 : decode cX11_blanks 17 = .ok (.iadd, 1) := by decide +kernel
theorem dX11_blanks_18 : decode cX11_blanks 18 = .ok (.putfield 99, 3) := by decide +kernel
theorem dX11_blanks_21 : decode cX11_blanks 21 = .ok (.goto (-21), 3) := by decide +kernel
theorem dX11_blanks_24 : decode cX11_blanks 24 = .ok (.aload_n 0, 1) := by decide +kernel
theorem dX11_blanks_25 : decode cX11_blanks 25 = .ok (.aload_n 0, 1) := by decide +kernel
theorem dX11_blanks_26 : decode cX11_blanks 26 = .ok (.getfield 99, 3) := by decide +kernel
theorem dX11_blanks_29 : decode cX11_blanks 29 = .ok (.putfield 109, 3) := by decide +kernel
theorem dX11_blanks_32 : decode cX11_blanks 32 = .ok (.return_, 1) := by decide +kernel
theorem dX11_letters_0 : decode cX11_letters 0 = .ok (.aload_n 0, 1) := by decide +kernel
theorem dX11_letters_1 : decode cX11_letters 1 = .ok (.invokevirtual 112, 3) := by decide +kernel
theorem dX11_letters_4 : decode cX11_letters 4 = .ok (.aload_n 0, 1) := by decide +kernel
theorem dX11_letters_5 : decode cX11_letters 5 = .ok (.bipush 97, 2) := by decide +kernel
theorem dX11_letters_7 : decode cX11_letters 7 = .ok (.bipush 122, 2) := by decide +kernel
theorem dX11_letters_9 : decode cX11_letters 9 = .ok (.invokevirtual 105, 3) := by decide +kernel
theorem dX11_letters_12 : decode cX11_letters 12 = .ok (.ifCond .eq 16, 3) := by decide +kernel
theorem dX11_letters_15 : decode cX11_letters 15 = .ok (.aload_n 0, 1) := by decide +kernel
theorem dX11_letters_16 : decode cX11_letters 16 = .ok (.dup, 1) := by decide +kernel
theorem dX11_letters_17 : decode cX11_letters 17 = .ok (.getfield 99, 3) := by decide +kernel
theorem dX11_letters_20 : decode cX11_letters 20 = .ok (.iconst 1, 1) := by decide +kernel
theorem dX11_letters_21 : decode cX11_letters 21 = .ok (.iadd, 1) := by decide +kernel
theorem dX11_letters_22 : decode cX11_letters 22 = .ok (.putfield 99, 3) := by decide +kernel
theorem dX11_letters_25 : decode cX11_letters 25 = .ok (.goto (-21), 3) := by decide +kernel
theorem dX11_letters_28 : decode cX11_letters 28 = .ok (.return_, 1) := by decide +kernel
theorem dX11_isWord_0 : decode cX11_isWord 0 = .ok (.aload_n 0, 1) := by decide +kernel
theorem dX11_isWord_1 : decode cX11_isWord 1 = .ok (.getfield 99, 3) := by decide +kernel
theorem dX11_isWord_4 : decode cX11_isWord 4 = .ok (.aload_n 0, 1) := by decide +kernel
theorem dX11_isWord_5 : decode cX11_isWord 5 = .ok (.getfield 109, 3) := by decide +kernel
theorem dX11_isWord_8 : decode cX11_isWord 8 = .ok (.isub, 1) := by decide +kernel
theorem dX11_isWord_9 : decode cX11_isWord 9 = .ok (.aload_n 1, 1) := by decide +kernel
theorem dX11_isWord_10 : decode cX11_isWord 10 = .ok (.invokevirtual 115, 3) := by decide +kernel
theorem dX11_isWord_13 : decode cX11_isWord 13 = .ok (.if_icmp .ne 7, 3) := by decide +kernel
theorem dX11_isWord_16 : decode cX11_isWord 16 = .ok (.iconst 1, 1) := by decide +kernel
theorem dX11_isWord_17 : decode cX11_isWord 17 = .ok (.goto 4, 3) := by decide +kernel
theorem dX11_isWord_20 : decode cX11_isWord 20 = .ok (.iconst 0, 1) := by decide +kernel
theorem dX11_isWord_21 : decode cX11_isWord 21 = .ok (.istore_n 2, 1) := by decide +kernel
theorem dX11_isWord_22 : decode cX11_isWord 22 = .ok (.iconst 0, 1) := by decide +kernel
theorem dX11_isWord_23 : decode cX11_isWord 23 = .ok (.istore_n 3, 1) := by decide +kernel
theorem dX11_isWord_24 : decode cX11_isWord 24 = .ok (.iload_n 2, 1) := by decide +kernel
theorem dX11_isWord_25 : decode cX11_isWord 25 = .ok (.ifCond .eq 42, 3) := by decide +kernel
theorem dX11_isWord_28 : decode cX11_isWord 28 = .ok (.iload_n 3, 1) := by decide +kernel
theorem dX11_isWord_29 : decode cX11_isWord 29 = .ok (.aload_n 1, 1) := by decide +kernel
theorem dX11_isWord_30 : decode cX11_isWord 30 = .ok (.invokevirtual 115, 3) := by decide +kernel
theorem dX11_isWord_33 : decode cX11_isWord 33 = .ok (.if_icmp .ge 34, 3) := by decide +kernel
theorem dX11_isWord_36 : decode cX11_isWord 36 = .ok (.aload_n 0, 1) := by decide +kernel
theorem dX11_isWord_37 : decode cX11_isWord 37 = .ok (.getfield 20, 3) := by decide +kernel
theorem dX11_isWord_40 : decode cX11_isWord 40 = .ok (.aload_n 0, 1) := by decide +kernel
theorem dX11_isWord_41 : decode cX11_isWord 41 = .ok (.getfield 109, 3) := by decide +kernel
theorem dX11_isWord_44 : decode cX11_isWord 44 = .ok (.iload_n 3, 1) := by decide +kernel
theorem dX11_isWord_45 : decode cX11_isWord 45 = .ok (.iadd, 1) := by decide +kernel
theorem dX11_isWord_46 : decode cX11_isWord 46 = .ok (.baload, 1) := by decide +kernel
theorem dX11_isWord_47 : decode cX11_isWord 47 = .ok (.aload_n 1, 1) := by decide +kernel
theorem dX11_isWord_48 : decode cX11_isWord 48 = .ok (.iload_n 3, 1) := by decide +kernel
theorem dX11_isWord_49 : decode cX11_isWord 49 = .ok (.invokevirtual 121, 3) := by decide +kernel
theorem dX11_isWord_52 : decode cX11_isWord 52 = .ok (.if_icmp .ne 7, 3) := by decide +kernel
theorem dX11_isWord_55 : decode cX11_isWord 55 = .ok (.iconst 1, 1) := by decide +kernel
theorem dX11_isWord_56 : decode cX11_isWord 56 = .ok (.goto 4, 3) := by decide +kernel
theorem dX11_isWord_59 : decode cX11_isWord 59 = .ok (.iconst 0, 1) := by decide +kernel
theorem dX11_isWord_60 : decode cX11_isWord 60 = .ok (.istore_n 2, 1) := by decide +kernel
theorem dX11_isWord_61 : decode cX11_isWord 61 = .ok (.iinc 3 1, 3) := by decide +kernel
theorem dX11_isWord_64 : decode cX11_isWord 64 = .ok (.goto (-40), 3) := by decide +kernel
theorem dX11_isWord_67 : decode cX11_isWord 67 = .ok (.iload_n 2, 1) := by decide +kernel
theorem dX11_isWord_68 : decode cX11_isWord 68 = .ok (.ireturn, 1) := by decide +kernel
theorem dX11_passes_0 : decode cX11_passes 0 = .ok (.aload_n 0, 1) := by decide +kernel
theorem dX11_passes_1 : decode cX11_passes 1 = .ok (.invokevirtual 125, 3) := by decide +kernel
theorem dX11_passes_4 : decode cX11_passes 4 = .ok (.aload_n 0, 1) := by decide +kernel
theorem dX11_passes_5 : decode cX11_passes 5 = .ok (.aload_n 1, 1) := by decide +kernel
theorem dX11_passes_6 : decode cX11_passes 6 = .ok (.invokevirtual 128, 3) := by decide +kernel
theorem dX11_passes_9 : decode cX11_passes 9 = .ok (.ifCond .eq 5, 3) := by decide +kernel
theorem dX11_passes_12 : decode cX11_passes 12 = .ok (.iconst 1, 1) := by decide +kernel
theorem dX11_passes_13 : decode cX11_passes 13 = .ok (.ireturn, 1) := by decide +kernel
theorem dX11_passes_14 : decode cX11_passes 14 = .ok (.aload_n 0, 1) := by decide +kernel
theorem dX11_passes_15 : decode cX11_passes 15 = .ok (.aload_n 0, 1) := by decide +kernel
theorem dX11_passes_16 : decode cX11_passes 16 = .ok (.getfield 109, 3) := by decide +kernel
theorem dX11_passes_19 : decode cX11_passes 19 = .ok (.putfield 99, 3) := by decide +kernel
theorem dX11_passes_22 : decode cX11_passes 22 = .ok (.iconst 0, 1) := by decide +kernel
theorem dX11_passes_23 : decode cX11_passes 23 = .ok (.ireturn, 1) := by decide +kernel
theorem dX11_needsWord_0 : decode cX11_needsWord 0 = .ok (.aload_n 0, 1) := by decide +kernel
theorem dX11_needsWord_1 : decode cX11_needsWord 1 = .ok (.invokevirtual 125, 3) := by decide +kernel
theorem dX11_needsWord_4 : decode cX11_needsWord 4 = .ok (.aload_n 0, 1) := by decide +kernel
theorem dX11_needsWord_5 : decode cX11_needsWord 5 = .ok (.aload_n 1, 1) := by decide +kernel
theorem dX11_needsWord_6 : decode cX11_needsWord 6 = .ok (.invokevirtual 128, 3) := by decide +kernel
theorem dX11_needsWord_9 : decode cX11_needsWord 9 = .ok (.ireturn, 1) := by decide +kernel
theorem dX11_sign_0 : decode cX11_sign 0 = .ok (.aload_n 0, 1) := by decide +kernel
theorem dX11_sign_1 : decode cX11_sign 1 = .ok (.invokevirtual 112, 3) := by decide +kernel
theorem dX11_sign_4 : decode cX11_sign 4 = .ok (.aload_n 0, 1) := by decide +kernel
theorem dX11_sign_5 : decode cX11_sign 5 = .ok (.iload_n 1, 1) := by decide +kernel
theorem dX11_sign_6 : decode cX11_sign 6 = .ok (.iload_n 1, 1) := by decide +kernel
theorem dX11_sign_7 : decode cX11_sign 7 = .ok (.invokevirtual 105, 3) := by decide +kernel
theorem dX11_sign_10 : decode cX11_sign 10 = .ok (.ifCond .ne 5, 3) := by decide +kernel
theorem dX11_sign_13 : decode cX11_sign 13 = .ok (.iconst 0, 1) := by decide +kernel
theorem dX11_sign_14 : decode cX11_sign 14 = .ok (.ireturn, 1) := by decide +kernel
theorem dX11_sign_15 : decode cX11_sign 15 = .ok (.aload_n 0, 1) := by decide +kernel
theorem dX11_sign_16 : decode cX11_sign 16 = .ok (.dup, 1) := by decide +kernel
theorem dX11_sign_17 : decode cX11_sign 17 = .ok (.getfield 99, 3) := by decide +kernel
theorem dX11_sign_20 : decode cX11_sign 20 = .ok (.iconst 1, 1) := by decide +kernel
theorem dX11_sign_21 : decode cX11_sign 21 = .ok (.iadd, 1) := by decide +kernel
theorem dX11_sign_22 : decode cX11_sign 22 = .ok (.putfield 99, 3) := by decide +kernel
theorem dX11_sign_25 : decode cX11_sign 25 = .ok (.iconst 1, 1) := by decide +kernel
theorem dX11_sign_26 : decode cX11_sign 26 = .ok (.ireturn, 1) := by decide +kernel
theorem dX11_number_0 : decode cX11_number 0 = .ok (.aload_n 0, 1) := by decide +kernel
theorem dX11_number_1 : decode cX11_number 1 = .ok (.invokevirtual 112, 3) := by decide +kernel
theorem dX11_number_4 : decode cX11_number 4 = .ok (.iconst 0, 1) := by decide +kernel
theorem dX11_number_5 : decode cX11_number 5 = .ok (.istore_n 3, 1) := by decide +kernel
theorem dX11_number_6 : decode cX11_number 6 = .ok (.aload_n 0, 1) := by decide +kernel
theorem dX11_number_7 : decode cX11_number 7 = .ok (.bipush 48, 2) := by decide +kernel
theorem dX11_number_9 : decode cX11_number 9 = .ok (.bipush 57, 2) := by decide +kernel
theorem dX11_number_11 : decode cX11_number 11 = .ok (.invokevirtual 105, 3) := by decide +kernel
theorem dX11_number_14 : decode cX11_number 14 = .ok (.ifCond .eq 51, 3) := by decide +kernel
theorem dX11_number_17 : decode cX11_number 17 = .ok (.aload_n 0, 1) := by decide +kernel
theorem dX11_number_18 : decode cX11_number 18 = .ok (.getfield 99, 3) := by decide +kernel
theorem dX11_number_21 : decode cX11_number 21 = .ok (.aload_n 0, 1) := by decide +kernel
theorem dX11_number_22 : decode cX11_number 22 = .ok (.getfield 109, 3) := by decide +kernel
theorem dX11_number_25 : decode cX11_number 25 = .ok (.isub, 1) := by decide +kernel
theorem dX11_number_26 : decode cX11_number 26 = .ok (.iconst 3, 1) := by decide +kernel
theorem dX11_number_27 : decode cX11_number 27 = .ok (.if_icmp .ge 23, 3) := by decide +kernel
theorem dX11_number_30 : decode cX11_number 30 = .ok (.bipush 10, 2) := by decide +kernel
theorem dX11_number_32 : decode cX11_number 32 = .ok (.iload_n 3, 1) := by decide +kernel
theorem dX11_number_33 : decode cX11_number 33 = .ok (.imul, 1) := by decide +kernel
theorem dX11_number_34 : decode cX11_number 34 = .ok (.aload_n 0, 1) := by decide +kernel
theorem dX11_number_35 : decode cX11_number 35 = .ok (.getfield 20, 3) := by decide +kernel
theorem dX11_number_38 : decode cX11_number 38 = .ok (.aload_n 0, 1) := by decide +kernel
theorem dX11_number_39 : decode cX11_number 39 = .ok (.getfield 99, 3) := by decide +kernel
theorem dX11_number_42 : decode cX11_number 42 = .ok (.baload, 1) := by decide +kernel
theorem dX11_number_43 : decode cX11_number 43 = .ok (.iadd, 1) := by decide +kernel
theorem dX11_number_44 : decode cX11_number 44 = .ok (.bipush 48, 2) := by decide +kernel
theorem dX11_number_46 : decode cX11_number 46 = .ok (.isub, 1) := by decide +kernel
theorem dX11_number_47 : decode cX11_number 47 = .ok (.goto 4, 3) := by decide +kernel
theorem dX11_number_50 : decode cX11_number 50 = .ok (.iload_n 3, 1) := by decide +kernel
theorem dX11_number_51 : decode cX11_number 51 = .ok (.istore_n 3, 1) := by decide +kernel
theorem dX11_number_52 : decode cX11_number 52 = .ok (.aload_n 0, 1) := by decide +kernel
theorem dX11_number_53 : decode cX11_number 53 = .ok (.dup, 1) := by decide +kernel
theorem dX11_number_54 : decode cX11_number 54 = .ok (.getfield 99, 3) := by decide +kernel
theorem dX11_number_57 : decode cX11_number 57 = .ok (.iconst 1, 1) := by decide +kernel
theorem dX11_number_58 : decode cX11_number 58 = .ok (.iadd, 1) := by decide +kernel
theorem dX11_number_59 : decode cX11_number 59 = .ok (.putfield 99, 3) := by decide +kernel
theorem dX11_number_62 : decode cX11_number 62 = .ok (.goto (-56), 3) := by decide +kernel
theorem dX11_number_65 : decode cX11_number 65 = .ok (.aload_n 0, 1) := by decide +kernel
theorem dX11_number_66 : decode cX11_number 66 = .ok (.getfield 99, 3) := by decide +kernel
theorem dX11_number_69 : decode cX11_number 69 = .ok (.aload_n 0, 1) := by decide +kernel
theorem dX11_number_70 : decode cX11_number 70 = .ok (.getfield 109, 3) := by decide +kernel
theorem dX11_number_73 : decode cX11_number 73 = .ok (.if_icmp .eq 26, 3) := by decide +kernel
theorem dX11_number_76 : decode cX11_number 76 = .ok (.aload_n 0, 1) := by decide +kernel
theorem dX11_number_77 : decode cX11_number 77 = .ok (.getfield 99, 3) := by decide +kernel
theorem dX11_number_80 : decode cX11_number 80 = .ok (.aload_n 0, 1) := by decide +kernel
theorem dX11_number_81 : decode cX11_number 81 = .ok (.getfield 109, 3) := by decide +kernel
theorem dX11_number_84 : decode cX11_number 84 = .ok (.isub, 1) := by decide +kernel
theorem dX11_number_85 : decode cX11_number 85 = .ok (.iconst 3, 1) := by decide +kernel
theorem dX11_number_86 : decode cX11_number 86 = .ok (.if_icmp .gt 13, 3) := by decide +kernel
theorem dX11_number_89 : decode cX11_number 89 = .ok (.iload_n 3, 1) := by decide +kernel
theorem dX11_number_90 : decode cX11_number 90 = .ok (.iload_n 1, 1) := by decide +kernel
theorem dX11_number_91 : decode cX11_number 91 = .ok (.if_icmp .lt 8, 3) := by decide +kernel
theorem dX11_number_94 : decode cX11_number 94 = .ok (.iload_n 3, 1) := by decide +kernel
theorem dX11_number_95 : decode cX11_number 95 = .ok (.iload_n 2, 1) := by decide +kernel
theorem dX11_number_96 : decode cX11_number 96 = .ok (.if_icmp .le 7, 3) := by decide +kernel
theorem dX11_number_99 : decode cX11_number 99 = .ok (.iconst (-1), 1) := by decide +kernel
theorem dX11_number_100 : decode cX11_number 100 = .ok (.goto 4, 3) := by decide +kernel
theorem dX11_number_103 : decode cX11_number 103 = .ok (.iload_n 3, 1) := by decide +kernel
theorem dX11_number_104 : decode cX11_number 104 = .ok (.ireturn, 1) := by decide +kernel
theorem dX11_fault_0 : decode cX11_fault 0 = .ok (.aload_n 0, 1) := by decide +kernel
theorem dX11_fault_1 : decode cX11_fault 1 = .ok (.iconst 0, 1) := by decide +kernel
theorem dX11_fault_2 : decode cX11_fault 2 = .ok (.putfield 3, 3) := by decide +kernel
theorem dX11_fault_5 : decode cX11_fault 5 = .ok (.aload_n 0, 1) := by decide +kernel
theorem dX11_fault_6 : decode cX11_fault 6 = .ok (.getfield 24, 3) := by decide +kernel
theorem dX11_fault_9 : decode cX11_fault 9 = .ok (.ireturn, 1) := by decide +kernel
theorem dX11_textAt_0 : decode cX11_textAt 0 = .ok (.sipush 237, 3) := by decide +kernel
theorem dX11_textAt_3 : decode cX11_textAt 3 = .ok (.sipush 851, 3) := by decide +kernel
theorem dX11_textAt_6 : decode cX11_textAt 6 = .ok (.iload_n 0, 1) := by decide +kernel
theorem dX11_textAt_7 : decode cX11_textAt 7 = .ok (.imul, 1) := by decide +kernel
theorem dX11_textAt_8 : decode cX11_textAt 8 = .ok (.iadd, 1) := by decide +kernel
theorem dX11_textAt_9 : decode cX11_textAt 9 = .ok (.ireturn, 1) := by decide +kernel
theorem dX11_lineAt_0 : decode cX11_lineAt 0 = .ok (.iload_n 0, 1) := by decide +kernel
theorem dX11_lineAt_1 : decode cX11_lineAt 1 = .ok (.invokestatic 132, 3) := by decide +kernel
theorem dX11_lineAt_4 : decode cX11_lineAt 4 = .ok (.iconst 1, 1) := by decide +kernel
theorem dX11_lineAt_5 : decode cX11_lineAt 5 = .ok (.iadd, 1) := by decide +kernel
theorem dX11_lineAt_6 : decode cX11_lineAt 6 = .ok (.iconst 5, 1) := by decide +kernel
theorem dX11_lineAt_7 : decode cX11_lineAt 7 = .ok (.iload_n 1, 1) := by decide +kernel
theorem dX11_lineAt_8 : decode cX11_lineAt 8 = .ok (.imul, 1) := by decide +kernel
theorem dX11_lineAt_9 : decode cX11_lineAt 9 = .ok (.iadd, 1) := by decide +kernel
theorem dX11_lineAt_10 : decode cX11_lineAt 10 = .ok (.ireturn, 1) := by decide +kernel
theorem dX11_lines_0 : decode cX11_lines 0 = .ok (.aload_n 0, 1) := by decide +kernel
theorem dX11_lines_1 : decode cX11_lines 1 = .ok (.getfield 13, 3) := by decide +kernel
theorem dX11_lines_4 : decode cX11_lines 4 = .ok (.iload_n 1, 1) := by decide +kernel
theorem dX11_lines_5 : decode cX11_lines 5 = .ok (.invokestatic 132, 3) := by decide +kernel
theorem dX11_lines_8 : decode cX11_lines 8 = .ok (.iaload, 1) := by decide +kernel
theorem dX11_lines_9 : decode cX11_lines 9 = .ok (.ireturn, 1) := by decide +kernel
theorem dX11_sortOf_0 : decode cX11_sortOf 0 = .ok (.aload_n 0, 1) := by decide +kernel
theorem dX11_sortOf_1 : decode cX11_sortOf 1 = .ok (.getfield 13, 3) := by decide +kernel
theorem dX11_sortOf_4 : decode cX11_sortOf 4 = .ok (.iload_n 1, 1) := by decide +kernel
theorem dX11_sortOf_5 : decode cX11_sortOf 5 = .ok (.iload_n 2, 1) := by decide +kernel
theorem dX11_sortOf_6 : decode cX11_sortOf 6 = .ok (.invokestatic 136, 3) := by decide +kernel
theorem dX11_sortOf_9 : decode cX11_sortOf 9 = .ok (.iaload, 1) := by decide +kernel
theorem dX11_sortOf_10 : decode cX11_sortOf 10 = .ok (.ireturn, 1) := by decide +kernel
theorem dX11_of_0 : decode cX11_of 0 = .ok (.aload_n 0, 1) := by decide +kernel
theorem dX11_of_1 : decode cX11_of 1 = .ok (.getfield 13, 3) := by decide +kernel
theorem dX11_of_4 : decode cX11_of 4 = .ok (.iload_n 1, 1) := by decide +kernel
theorem dX11_of_5 : decode cX11_of 5 = .ok (.iload_n 2, 1) := by decide +kernel
theorem dX11_of_6 : decode cX11_of 6 = .ok (.invokestatic 136, 3) := by decide +kernel
theorem dX11_of_9 : decode cX11_of 9 = .ok (.iload_n 3, 1) := by decide +kernel
theorem dX11_of_10 : decode cX11_of 10 = .ok (.iadd, 1) := by decide +kernel
theorem dX11_of_11 : decode cX11_of 11 = .ok (.iaload, 1) := by decide +kernel
theorem dX11_of_12 : decode cX11_of 12 = .ok (.ireturn, 1) := by decide +kernel
theorem dX11_emits_0 : decode cX11_emits 0 = .ok (.bipush 10, 2) := by decide +kernel
theorem dX11_emits_2 : decode cX11_emits 2 = .ok (.invokestatic 132, 3) := by decide +kernel
theorem dX11_emits_5 : decode cX11_emits 5 = .ok (.bipush 51, 2) := by decide +kernel
theorem dX11_emits_7 : decode cX11_emits 7 = .ok (.iadd, 1) := by decide +kernel
theorem dX11_emits_8 : decode cX11_emits 8 = .ok (.iconst 2, 1) := by decide +kernel
theorem dX11_emits_9 : decode cX11_emits 9 = .ok (.aload_n 0, 1) := by decide +kernel
theorem dX11_emits_10 : decode cX11_emits 10 = .ok (.getfield 102, 3) := by decide +kernel
theorem dX11_emits_13 : decode cX11_emits 13 = .ok (.imul, 1) := by decide +kernel
theorem dX11_emits_14 : decode cX11_emits 14 = .ok (.iadd, 1) := by decide +kernel
theorem dX11_emits_15 : decode cX11_emits 15 = .ok (.istore_n 3, 1) := by decide +kernel
theorem dX11_emits_16 : decode cX11_emits 16 = .ok (.aload_n 0, 1) := by decide +kernel
theorem dX11_emits_17 : decode cX11_emits 17 = .ok (.getfield 13, 3) := by decide +kernel
theorem dX11_emits_20 : decode cX11_emits 20 = .ok (.iload_n 3, 1) := by decide +kernel
theorem dX11_emits_21 : decode cX11_emits 21 = .ok (.iload_n 1, 1) := by decide +kernel
theorem dX11_emits_22 : decode cX11_emits 22 = .ok (.iastore, 1) := by decide +kernel
theorem dX11_emits_23 : decode cX11_emits 23 = .ok (.aload_n 0, 1) := by decide +kernel
theorem dX11_emits_24 : decode cX11_emits 24 = .ok (.getfield 13, 3) := by decide +kernel
theorem dX11_emits_27 : decode cX11_emits 27 = .ok (.iload_n 3, 1) := by decide +kernel
theorem dX11_emits_28 : decode cX11_emits 28 = .ok (.iconst 1, 1) := by decide +kernel
theorem dX11_emits_29 : decode cX11_emits 29 = .ok (.iadd, 1) := by decide +kernel
theorem dX11_emits_30 : decode cX11_emits 30 = .ok (.iload_n 2, 1) := by decide +kernel
theorem dX11_emits_31 : decode cX11_emits 31 = .ok (.iastore, 1) := by decide +kernel
theorem dX11_emits_32 : decode cX11_emits 32 = .ok (.aload_n 0, 1) := by decide +kernel
theorem dX11_emits_33 : decode cX11_emits 33 = .ok (.dup, 1) := by decide +kernel
theorem dX11_emits_34 : decode cX11_emits 34 = .ok (.getfield 102, 3) := by decide +kernel
theorem dX11_emits_37 : decode cX11_emits 37 = .ok (.iconst 1, 1) := by decide +kernel
theorem dX11_emits_38 : decode cX11_emits 38 = .ok (.iadd, 1) := by decide +kernel
theorem dX11_emits_39 : decode cX11_emits 39 = .ok (.putfield 102, 3) := by decide +kernel
theorem dX11_emits_42 : decode cX11_emits 42 = .ok (.return_, 1) := by decide +kernel
theorem dX11_emitsOf_0 : decode cX11_emitsOf 0 = .ok (.iload_n 1, 1) := by decide +kernel
theorem dX11_emitsOf_1 : decode cX11_emitsOf 1 = .ok (.ifCond .eq 18, 3) := by decide +kernel
theorem dX11_emitsOf_4 : decode cX11_emitsOf 4 = .ok (.iload_n 1, 1) := by decide +kernel
theorem dX11_emitsOf_5 : decode cX11_emitsOf 5 = .ok (.iconst 1, 1) := by decide +kernel
theorem dX11_emitsOf_6 : decode cX11_emitsOf 6 = .ok (.if_icmp .eq 13, 3) := by decide +kernel
theorem dX11_emitsOf_9 : decode cX11_emitsOf 9 = .ok (.iload_n 1, 1) := by decide +kernel
theorem dX11_emitsOf_10 : decode cX11_emitsOf 10 = .ok (.iconst 4, 1) := by decide +kernel
theorem dX11_emitsOf_11 : decode cX11_emitsOf 11 = .ok (.if_icmp .eq 8, 3) := by decide +kernel
theorem dX11_emitsOf_14 : decode cX11_emitsOf 14 = .ok (.iload_n 1, 1) := by decide +kernel
theorem dX11_emitsOf_15 : decode cX11_emitsOf 15 = .ok (.iconst 5, 1) := by decide +kernel
theorem dX11_emitsOf_16 : decode cX11_emitsOf 16 = .ok (.if_icmp .ne 7, 3) := by decide +kernel
theorem dX11_emitsOf_19 : decode cX11_emitsOf 19 = .ok (.iconst 0, 1) := by decide +kernel
theorem dX11_emitsOf_20 : decode cX11_emitsOf 20 = .ok (.goto 9, 3) := by decide +kernel
theorem dX11_emitsOf_23 : decode cX11_emitsOf 23 = .ok (.aload_n 0, 1) := by decide +kernel
theorem dX11_emitsOf_24 : decode cX11_emitsOf 24 = .ok (.iconst 0, 1) := by decide +kernel
theorem dX11_emitsOf_25 : decode cX11_emitsOf 25 = .ok (.iconst 3, 1) := by decide +kernel
theorem dX11_emitsOf_26 : decode cX11_emitsOf 26 = .ok (.invokevirtual 140, 3) := by decide +kernel
theorem dX11_emitsOf_29 : decode cX11_emitsOf 29 = .ok (.istore_n 2, 1) := by decide +kernel
theorem dX11_emitsOf_30 : decode cX11_emitsOf 30 = .ok (.aload_n 0, 1) := by decide +kernel
theorem dX11_emitsOf_31 : decode cX11_emitsOf 31 = .ok (.iload_n 1, 1) := by decide +kernel
theorem dX11_emitsOf_32 : decode cX11_emitsOf 32 = .ok (.iload_n 2, 1) := by decide +kernel
theorem dX11_emitsOf_33 : decode cX11_emitsOf 33 = .ok (.invokevirtual 143, 3) := by decide +kernel
theorem dX11_emitsOf_36 : decode cX11_emitsOf 36 = .ok (.iload_n 2, 1) := by decide +kernel
theorem dX11_emitsOf_37 : decode cX11_emitsOf 37 = .ok (.ifCond .lt 7, 3) := by decide +kernel
theorem dX11_emitsOf_40 : decode cX11_emitsOf 40 = .ok (.iconst 1, 1) := by decide +kernel
theorem dX11_emitsOf_41 : decode cX11_emitsOf 41 = .ok (.goto 4, 3) := by decide +kernel
theorem dX11_emitsOf_44 : decode cX11_emitsOf 44 = .ok (.iconst 0, 1) := by decide +kernel
theorem dX11_emitsOf_45 : decode cX11_emitsOf 45 = .ok (.ireturn, 1) := by decide +kernel
theorem dX11_readPart_0 : decode cX11_readPart 0 = .ok (.aload_n 0, 1) := by decide +kernel
theorem dX11_readPart_1 : decode cX11_readPart 1 = .ok (.invokevirtual 125, 3) := by decide +kernel
theorem dX11_readPart_4 : decode cX11_readPart 4 = .ok (.aload_n 0, 1) := by decide +kernel
theorem dX11_readPart_5 : decode cX11_readPart 5 = .ok (.getfield 99, 3) := by decide +kernel
theorem dX11_readPart_8 : decode cX11_readPart 8 = .ok (.aload_n 0, 1) := by decide +kernel
theorem dX11_readPart_9 : decode cX11_readPart 9 = .ok (.getfield 109, 3) := by decide +kernel
theorem dX11_readPart_12 : decode cX11_readPart 12 = .ok (.if_icmp .le 75, 3) := by decide +kernel
theorem dX11_readPart_15 : decode cX11_readPart 15 = .ok (.aload_n 0, 1) := by decide +kernel
theorem dX11_readPart_16 : decode cX11_readPart 16 = .ok (.ldc 147, 2) := by decide +kernel
theorem dX11_readPart_18 : decode cX11_readPart 18 = .ok (.invokevirtual 128, 3) := by decide +kernel
theorem dX11_readPart_21 : decode cX11_readPart 21 = .ok (.ifCond .eq 7, 3) := by decide +kernel
theorem dX11_readPart_24 : decode cX11_readPart 24 = .ok (.iconst 0, 1) := by decide +kernel
theorem dX11_readPart_25 : decode cX11_readPart 25 = .ok (.goto 43, 3) := by decide +kernel
theorem dX11_readPart_28 : decode cX11_readPart 28 = .ok (.aload_n 0, 1) := by decide +kernel
theorem dX11_readPart_29 : decode cX11_readPart 29 = .ok (.ldc 149, 2) := by decide +kernel
theorem dX11_readPart_31 : decode cX11_readPart 31 = .ok (.invokevirtual 128, 3) := by decide +kernel
theorem dX11_readPart_34 : decode cX11_readPart 34 = .ok (.ifCond .eq 7, 3) := by decide +kernel
theorem dX11_readPart_37 : decode cX11_readPart 37 = .ok (.iconst 1, 1) := by decide +kernel
theorem dX11_readPart_38 : decode cX11_readPart 38 = .ok (.goto 30, 3) := by decide +kernel
theorem dX11_readPart_41 : decode cX11_readPart 41 = .ok (.aload_n 0, 1) := by decide +kernel
theorem dX11_readPart_42 : decode cX11_readPart 42 = .ok (.ldc 151, 2) := by decide +kernel
theorem dX11_readPart_44 : decode cX11_readPart 44 = .ok (.invokevirtual 128, 3) := by decide +kernel
theorem dX11_readPart_47 : decode cX11_readPart 47 = .ok (.ifCond .eq 7, 3) := by decide +kernel
theorem dX11_readPart_50 : decode cX11_readPart 50 = .ok (.iconst 2, 1) := by decide +kernel
theorem dX11_readPart_51 : decode cX11_readPart 51 = .ok (.goto 17, 3) := by decide +kernel
theorem dX11_readPart_54 : decode cX11_readPart 54 = .ok (.aload_n 0, 1) := by decide +kernel
theorem dX11_readPart_55 : decode cX11_readPart 55 = .ok (.ldc 153, 2) := by decide +kernel
theorem dX11_readPart_57 : decode cX11_readPart 57 = .ok (.invokevirtual 128, 3) := by decide +kernel
theorem dX11_readPart_60 : decode cX11_readPart 60 = .ok (.ifCond .eq 7, 3) := by decide +kernel
theorem dX11_readPart_63 : decode cX11_readPart 63 = .ok (.iconst 3, 1) := by decide +kernel
theorem dX11_readPart_64 : decode cX11_readPart 64 = .ok (.goto 4, 3) := by decide +kernel
theorem dX11_readPart_67 : decode cX11_readPart 67 = .ok (.iconst (-1), 1) := by decide +kernel
theorem dX11_readPart_68 : decode cX11_readPart 68 = .ok (.istore_n 1, 1) := by decide +kernel
theorem dX11_readPart_69 : decode cX11_readPart 69 = .ok (.iload_n 1, 1) := by decide +kernel
theorem dX11_readPart_70 : decode cX11_readPart 70 = .ok (.ifCond .lt 15, 3) := by decide +kernel
theorem dX11_readPart_73 : decode cX11_readPart 73 = .ok (.aload_n 0, 1) := by decide +kernel
theorem dX11_readPart_74 : decode cX11_readPart 74 = .ok (.iload_n 1, 1) := by decide +kernel
theorem dX11_readPart_75 : decode cX11_readPart 75 = .ok (.invokevirtual 155, 3) := by decide +kernel
theorem dX11_readPart_78 : decode cX11_readPart 78 = .ok (.ifCond .eq 7, 3) := by decide +kernel
theorem dX11_readPart_81 : decode cX11_readPart 81 = .ok (.iconst 1, 1) := by decide +kernel
theorem dX11_readPart_82 : decode cX11_readPart 82 = .ok (.goto 4, 3) := by decide +kernel
theorem dX11_readPart_85 : decode cX11_readPart 85 = .ok (.iconst 0, 1) := by decide +kernel
theorem dX11_readPart_86 : decode cX11_readPart 86 = .ok (.ireturn, 1) := by decide +kernel
theorem dX11_readPart_87 : decode cX11_readPart 87 = .ok (.aload_n 0, 1) := by decide +kernel
theorem dX11_readPart_88 : decode cX11_readPart 88 = .ok (.iconst 0, 1) := by decide +kernel
theorem dX11_readPart_89 : decode cX11_readPart 89 = .ok (.sipush 999, 3) := by decide +kernel
theorem dX11_readPart_92 : decode cX11_readPart 92 = .ok (.invokevirtual 140, 3) := by decide +kernel
theorem dX11_readPart_95 : decode cX11_readPart 95 = .ok (.istore_n 1, 1) := by decide +kernel
theorem dX11_readPart_96 : decode cX11_readPart 96 = .ok (.iload_n 1, 1) := by decide +kernel
theorem dX11_readPart_97 : decode cX11_readPart 97 = .ok (.ifCond .ge 5, 3) := by decide +kernel
theorem dX11_readPart_100 : decode cX11_readPart 100 = .ok (.iconst 0, 1) := by decide +kernel
theorem dX11_readPart_101 : decode cX11_readPart 101 = .ok (.ireturn, 1) := by decide +kernel
theorem dX11_readPart_102 : decode cX11_readPart 102 = .ok (.aload_n 0, 1) := by decide +kernel
theorem dX11_readPart_103 : decode cX11_readPart 103 = .ok (.bipush 10, 2) := by decide +kernel
theorem dX11_readPart_105 : decode cX11_readPart 105 = .ok (.iload_n 1, 1) := by decide +kernel
theorem dX11_readPart_106 : decode cX11_readPart 106 = .ok (.invokevirtual 143, 3) := by decide +kernel
theorem dX11_readPart_109 : decode cX11_readPart 109 = .ok (.iconst 1, 1) := by decide +kernel
theorem dX11_readPart_110 : decode cX11_readPart 110 = .ok (.ireturn, 1) := by decide +kernel
theorem dX11_readSum_0 : decode cX11_readSum 0 = .ok (.aload_n 0, 1) := by decide +kernel
theorem dX11_readSum_1 : decode cX11_readSum 1 = .ok (.invokevirtual 159, 3) := by decide +kernel
theorem dX11_readSum_4 : decode cX11_readSum 4 = .ok (.ifCond .ne 5, 3) := by decide +kernel
theorem dX11_readSum_7 : decode cX11_readSum 7 = .ok (.iconst 0, 1) := by decide +kernel
theorem dX11_readSum_8 : decode cX11_readSum 8 = .ok (.ireturn, 1) := by decide +kernel
theorem dX11_readSum_9 : decode cX11_readSum 9 = .ok (.aload_n 0, 1) := by decide +kernel
theorem dX11_readSum_10 : decode cX11_readSum 10 = .ok (.bipush 43, 2) := by decide +kernel
theorem dX11_readSum_12 : decode cX11_readSum 12 = .ok (.invokevirtual 163, 3) := by decide +kernel
theorem dX11_readSum_15 : decode cX11_readSum 15 = .ok (.ifCond .eq 22, 3) := by decide +kernel
theorem dX11_readSum_18 : decode cX11_readSum 18 = .ok (.aload_n 0, 1) := by decide +kernel
theorem dX11_readSum_19 : decode cX11_readSum 19 = .ok (.invokevirtual 159, 3) := by decide +kernel
theorem dX11_readSum_22 : decode cX11_readSum 22 = .ok (.ifCond .ne 5, 3) := by decide +kernel
theorem dX11_readSum_25 : decode cX11_readSum 25 = .ok (.iconst 0, 1) := by decide +kernel
theorem dX11_readSum_26 : decode cX11_readSum 26 = .ok (.ireturn, 1) := by decide +kernel
theorem dX11_readSum_27 : decode cX11_readSum 27 = .ok (.aload_n 0, 1) := by decide +kernel
theorem dX11_readSum_28 : decode cX11_readSum 28 = .ok (.bipush 11, 2) := by decide +kernel
theorem dX11_readSum_30 : decode cX11_readSum 30 = .ok (.iconst 0, 1) := by decide +kernel
theorem dX11_readSum_31 : decode cX11_readSum 31 = .ok (.invokevirtual 143, 3) := by decide +kernel
theorem dX11_readSum_34 : decode cX11_readSum 34 = .ok (.goto (-25), 3) := by decide +kernel
theorem dX11_readSum_37 : decode cX11_readSum 37 = .ok (.iconst 1, 1) := by decide +kernel
theorem dX11_readSum_38 : decode cX11_readSum 38 = .ok (.ireturn, 1) := by decide +kernel
theorem dX11_tagAt_0 : decode cX11_tagAt 0 = .ok (.aload_n 0, 1) := by decide +kernel
theorem dX11_tagAt_1 : decode cX11_tagAt 1 = .ok (.ldc 166, 2) := by decide +kernel
theorem dX11_tagAt_3 : decode cX11_tagAt 3 = .ok (.invokevirtual 128, 3) := by decide +kernel
theorem dX11_tagAt_6 : decode cX11_tagAt 6 = .ok (.ifCond .eq 7, 3) := by decide +kernel
theorem dX11_tagAt_9 : decode cX11_tagAt 9 = .ok (.iconst 4, 1) := by decide +kernel
theorem dX11_tagAt_10 : decode cX11_tagAt 10 = .ok (.goto 73, 3) := by decide +kernel
theorem dX11_tagAt_13 : decode cX11_tagAt 13 = .ok (.aload_n 0, 1) := by decide +kernel
theorem dX11_tagAt_14 : decode cX11_tagAt 14 = .ok (.ldc 168, 2) := by decide +kernel
theorem dX11_tagAt_16 : decode cX11_tagAt 16 = .ok (.invokevirtual 128, 3) := by decide +kernel
theorem dX11_tagAt_19 : decode cX11_tagAt 19 = .ok (.ifCond .eq 7, 3) := by decide +kernel
theorem dX11_tagAt_22 : decode cX11_tagAt 22 = .ok (.iconst 5, 1) := by decide +kernel
theorem dX11_tagAt_23 : decode cX11_tagAt 23 = .ok (.goto 60, 3) := by decide +kernel
theorem dX11_tagAt_26 : decode cX11_tagAt 26 = .ok (.aload_n 0, 1) := by decide +kernel
theorem dX11_tagAt_27 : decode cX11_tagAt 27 = .ok (.ldc 170, 2) := by decide +kernel
theorem dX11_tagAt_29 : decode cX11_tagAt 29 = .ok (.invokevirtual 128, 3) := by decide +kernel
theorem dX11_tagAt_32 : decode cX11_tagAt 32 = .ok (.ifCond .eq 8, 3) := by decide +kernel
theorem dX11_tagAt_35 : decode cX11_tagAt 35 = .ok (.bipush 6, 2) := by decide +kernel
theorem dX11_tagAt_37 : decode cX11_tagAt 37 = .ok (.goto 46, 3) := by decide +kernel
theorem dX11_tagAt_40 : decode cX11_tagAt 40 = .ok (.aload_n 0, 1) := by decide +kernel
theorem dX11_tagAt_41 : decode cX11_tagAt 41 = .ok (.ldc 172, 2) := by decide +kernel
theorem dX11_tagAt_43 : decode cX11_tagAt 43 = .ok (.invokevirtual 128, 3) := by decide +kernel
theorem dX11_tagAt_46 : decode cX11_tagAt 46 = .ok (.ifCond .eq 8, 3) := by decide +kernel
theorem dX11_tagAt_49 : decode cX11_tagAt 49 = .ok (.bipush 7, 2) := by decide +kernel
theorem dX11_tagAt_51 : decode cX11_tagAt 51 = .ok (.goto 32, 3) := by decide +kernel
theorem dX11_tagAt_54 : decode cX11_tagAt 54 = .ok (.aload_n 0, 1) := by decide +kernel
theorem dX11_tagAt_55 : decode cX11_tagAt 55 = .ok (.ldc 174, 2) := by decide +kernel
theorem dX11_tagAt_57 : decode cX11_tagAt 57 = .ok (.invokevirtual 128, 3) := by decide +kernel
theorem dX11_tagAt_60 : decode cX11_tagAt 60 = .ok (.ifCond .eq 8, 3) := by decide +kernel
theorem dX11_tagAt_63 : decode cX11_tagAt 63 = .ok (.bipush 8, 2) := by decide +kernel
theorem dX11_tagAt_65 : decode cX11_tagAt 65 = .ok (.goto 18, 3) := by decide +kernel
theorem dX11_tagAt_68 : decode cX11_tagAt 68 = .ok (.aload_n 0, 1) := by decide +kernel
theorem dX11_tagAt_69 : decode cX11_tagAt 69 = .ok (.ldc 176, 2) := by decide +kernel
theorem dX11_tagAt_71 : decode cX11_tagAt 71 = .ok (.invokevirtual 128, 3) := by decide +kernel
theorem dX11_tagAt_74 : decode cX11_tagAt 74 = .ok (.ifCond .eq 8, 3) := by decide +kernel
theorem dX11_tagAt_77 : decode cX11_tagAt 77 = .ok (.bipush 9, 2) := by decide +kernel
theorem dX11_tagAt_79 : decode cX11_tagAt 79 = .ok (.goto 4, 3) := by decide +kernel
theorem dX11_tagAt_82 : decode cX11_tagAt 82 = .ok (.iconst (-1), 1) := by decide +kernel
theorem dX11_tagAt_83 : decode cX11_tagAt 83 = .ok (.ireturn, 1) := by decide +kernel
theorem dX11_readAtom_0 : decode cX11_readAtom 0 = .ok (.aload_n 0, 1) := by decide +kernel
theorem dX11_readAtom_1 : decode cX11_readAtom 1 = .ok (.bipush 40, 2) := by decide +kernel
theorem dX11_readAtom_3 : decode cX11_readAtom 3 = .ok (.invokevirtual 163, 3) := by decide +kernel
theorem dX11_readAtom_6 : decode cX11_readAtom 6 = .ok (.ifCond .eq 50, 3) := by decide +kernel
theorem dX11_readAtom_9 : decode cX11_readAtom 9 = .ok (.aload_n 0, 1) := by decide +kernel
theorem dX11_readAtom_10 : decode cX11_readAtom 10 = .ok (.getfield 178, 3) := by decide +kernel
theorem dX11_readAtom_13 : decode cX11_readAtom 13 = .ok (.bipush 6, 2) := by decide +kernel
theorem dX11_readAtom_15 : decode cX11_readAtom 15 = .ok (.if_icmp .ne 5, 3) := by decide +kernel
theorem dX11_readAtom_18 : decode cX11_readAtom 18 = .ok (.iconst 0, 1) := by decide +kernel
theorem dX11_readAtom_19 : decode cX11_readAtom 19 = .ok (.ireturn, 1) := by decide +kernel
theorem dX11_readAtom_20 : decode cX11_readAtom 20 = .ok (.aload_n 0, 1) := by decide +kernel
theorem dX11_readAtom_21 : decode cX11_readAtom 21 = .ok (.dup, 1) := by decide +kernel
theorem dX11_readAtom_22 : decode cX11_readAtom 22 = .ok (.getfield 178, 3) := by decide +kernel
theorem dX11_readAtom_25 : decode cX11_readAtom 25 = .ok (.iconst 1, 1) := by decide +kernel
theorem dX11_readAtom_26 : decode cX11_readAtom 26 = .ok (.iadd, 1) := by decide +kernel
theorem dX11_readAtom_27 : decode cX11_readAtom 27 = .ok (.putfield 178, 3) := by decide +kernel
theorem dX11_readAtom_30 : decode cX11_readAtom 30 = .ok (.aload_n 0, 1) := by decide +kernel
theorem dX11_readAtom_31 : decode cX11_readAtom 31 = .ok (.invokevirtual 181, 3) := by decide +kernel
theorem dX11_readAtom_34 : decode cX11_readAtom 34 = .ok (.ifCond .ne 5, 3) := by decide +kernel
theorem dX11_readAtom_37 : decode cX11_readAtom 37 = .ok (.iconst 0, 1) := by decide +kernel
theorem dX11_readAtom_38 : decode cX11_readAtom 38 = .ok (.ireturn, 1) := by decide +kernel
theorem dX11_readAtom_39 : decode cX11_readAtom 39 = .ok (.aload_n 0, 1) := by decide +kernel
theorem dX11_readAtom_40 : decode cX11_readAtom 40 = .ok (.dup, 1) := by decide +kernel
theorem dX11_readAtom_41 : decode cX11_readAtom 41 = .ok (.getfield 178, 3) := by decide +kernel
theorem dX11_readAtom_44 : decode cX11_readAtom 44 = .ok (.iconst 1, 1) := by decide +kernel
theorem dX11_readAtom_45 : decode cX11_readAtom 45 = .ok (.isub, 1) := by decide +kernel
theorem dX11_readAtom_46 : decode cX11_readAtom 46 = .ok (.putfield 178, 3) := by decide +kernel
theorem dX11_readAtom_49 : decode cX11_readAtom 49 = .ok (.aload_n 0, 1) := by decide +kernel
theorem dX11_readAtom_50 : decode cX11_readAtom 50 = .ok (.bipush 41, 2) := by decide +kernel
theorem dX11_readAtom_52 : decode cX11_readAtom 52 = .ok (.invokevirtual 163, 3) := by decide +kernel
theorem dX11_readAtom_55 : decode cX11_readAtom 55 = .ok (.ireturn, 1) := by decide +kernel
theorem dX11_readAtom_56 : decode cX11_readAtom 56 = .ok (.aload_n 0, 1) := by decide +kernel
theorem dX11_readAtom_57 : decode cX11_readAtom 57 = .ok (.ldc 184, 2) := by decide +kernel
theorem dX11_readAtom_59 : decode cX11_readAtom 59 = .ok (.invokevirtual 186, 3) := by decide +kernel
theorem dX11_readAtom_62 : decode cX11_readAtom 62 = .ok (.ifCond .eq 52, 3) := by decide +kernel
theorem dX11_readAtom_65 : decode cX11_readAtom 65 = .ok (.aload_n 0, 1) := by decide +kernel
theorem dX11_readAtom_66 : decode cX11_readAtom 66 = .ok (.getfield 178, 3) := by decide +kernel
theorem dX11_readAtom_69 : decode cX11_readAtom 69 = .ok (.bipush 6, 2) := by decide +kernel
theorem dX11_readAtom_71 : decode cX11_readAtom 71 = .ok (.if_icmp .ne 5, 3) := by decide +kernel
theorem dX11_readAtom_74 : decode cX11_readAtom 74 = .ok (.iconst 0, 1) := by decide +kernel
theorem dX11_readAtom_75 : decode cX11_readAtom 75 = .ok (.ireturn, 1) := by decide +kernel
theorem dX11_readAtom_76 : decode cX11_readAtom 76 = .ok (.aload_n 0, 1) := by decide +kernel
theorem dX11_readAtom_77 : decode cX11_readAtom 77 = .ok (.dup, 1) := by decide +kernel
theorem dX11_readAtom_78 : decode cX11_readAtom 78 = .ok (.getfield 178, 3) := by decide +kernel
theorem dX11_readAtom_81 : decode cX11_readAtom 81 = .ok (.iconst 1, 1) := by decide +kernel
theorem dX11_readAtom_82 : decode cX11_readAtom 82 = .ok (.iadd, 1) := by decide +kernel
theorem dX11_readAtom_83 : decode cX11_readAtom 83 = .ok (.putfield 178, 3) := by decide +kernel
theorem dX11_readAtom_86 : decode cX11_readAtom 86 = .ok (.aload_n 0, 1) := by decide +kernel
theorem dX11_readAtom_87 : decode cX11_readAtom 87 = .ok (.invokevirtual 189, 3) := by decide +kernel
theorem dX11_readAtom_90 : decode cX11_readAtom 90 = .ok (.ifCond .ne 5, 3) := by decide +kernel
theorem dX11_readAtom_93 : decode cX11_readAtom 93 = .ok (.iconst 0, 1) := by decide +kernel
theorem dX11_readAtom_94 : decode cX11_readAtom 94 = .ok (.ireturn, 1) := by decide +kernel
theorem dX11_readAtom_95 : decode cX11_readAtom 95 = .ok (.aload_n 0, 1) := by decide +kernel
theorem dX11_readAtom_96 : decode cX11_readAtom 96 = .ok (.dup, 1) := by decide +kernel
theorem dX11_readAtom_97 : decode cX11_readAtom 97 = .ok (.getfield 178, 3) := by decide +kernel
theorem dX11_readAtom_100 : decode cX11_readAtom 100 = .ok (.iconst 1, 1) := by decide +kernel
theorem dX11_readAtom_101 : decode cX11_readAtom 101 = .ok (.isub, 1) := by decide +kernel
theorem dX11_readAtom_102 : decode cX11_readAtom 102 = .ok (.putfield 178, 3) := by decide +kernel
theorem dX11_readAtom_105 : decode cX11_readAtom 105 = .ok (.aload_n 0, 1) := by decide +kernel
theorem dX11_readAtom_106 : decode cX11_readAtom 106 = .ok (.bipush 14, 2) := by decide +kernel
theorem dX11_readAtom_108 : decode cX11_readAtom 108 = .ok (.iconst 0, 1) := by decide +kernel
theorem dX11_readAtom_109 : decode cX11_readAtom 109 = .ok (.invokevirtual 143, 3) := by decide +kernel
theorem dX11_readAtom_112 : decode cX11_readAtom 112 = .ok (.iconst 1, 1) := by decide +kernel
theorem dX11_readAtom_113 : decode cX11_readAtom 113 = .ok (.ireturn, 1) := by decide +kernel
theorem dX11_readAtom_114 : decode cX11_readAtom 114 = .ok (.aload_n 0, 1) := by decide +kernel
theorem dX11_readAtom_115 : decode cX11_readAtom 115 = .ok (.invokevirtual 125, 3) := by decide +kernel
theorem dX11_readAtom_118 : decode cX11_readAtom 118 = .ok (.aload_n 0, 1) := by decide +kernel
theorem dX11_readAtom_119 : decode cX11_readAtom 119 = .ok (.invokevirtual 192, 3) := by decide +kernel
theorem dX11_readAtom_122 : decode cX11_readAtom 122 = .ok (.istore_n 1, 1) := by decide +kernel
theorem dX11_readAtom_123 : decode cX11_readAtom 123 = .ok (.iload_n 1, 1) := by decide +kernel
theorem dX11_readAtom_124 : decode cX11_readAtom 124 = .ok (.ifCond .lt 9, 3) := by decide +kernel
theorem dX11_readAtom_127 : decode cX11_readAtom 127 = .ok (.aload_n 0, 1) := by decide +kernel
theorem dX11_readAtom_128 : decode cX11_readAtom 128 = .ok (.iload_n 1, 1) := by decide +kernel
theorem dX11_readAtom_129 : decode cX11_readAtom 129 = .ok (.invokevirtual 155, 3) := by decide +kernel
theorem dX11_readAtom_132 : decode cX11_readAtom 132 = .ok (.ireturn, 1) := by decide +kernel
theorem dX11_readAtom_133 : decode cX11_readAtom 133 = .ok (.aload_n 0, 1) := by decide +kernel
theorem dX11_readAtom_134 : decode cX11_readAtom 134 = .ok (.aload_n 0, 1) := by decide +kernel
theorem dX11_readAtom_135 : decode cX11_readAtom 135 = .ok (.getfield 109, 3) := by decide +kernel
theorem dX11_readAtom_138 : decode cX11_readAtom 138 = .ok (.putfield 99, 3) := by decide +kernel
theorem dX11_readAtom_141 : decode cX11_readAtom 141 = .ok (.aload_n 0, 1) := by decide +kernel
theorem dX11_readAtom_142 : decode cX11_readAtom 142 = .ok (.invokevirtual 195, 3) := by decide +kernel
theorem dX11_readAtom_145 : decode cX11_readAtom 145 = .ok (.ifCond .ne 5, 3) := by decide +kernel
theorem dX11_readAtom_148 : decode cX11_readAtom 148 = .ok (.iconst 0, 1) := by decide +kernel
theorem dX11_readAtom_149 : decode cX11_readAtom 149 = .ok (.ireturn, 1) := by decide +kernel
theorem dX11_readAtom_150 : decode cX11_readAtom 150 = .ok (.aload_n 0, 1) := by decide +kernel
theorem dX11_readAtom_151 : decode cX11_readAtom 151 = .ok (.bipush 60, 2) := by decide +kernel
theorem dX11_readAtom_153 : decode cX11_readAtom 153 = .ok (.invokevirtual 163, 3) := by decide +kernel
theorem dX11_readAtom_156 : decode cX11_readAtom 156 = .ok (.istore_n 2, 1) := by decide +kernel
theorem dX11_readAtom_157 : decode cX11_readAtom 157 = .ok (.iload_n 2, 1) := by decide +kernel
theorem dX11_readAtom_158 : decode cX11_readAtom 158 = .ok (.ifCond .ne 12, 3) := by decide +kernel
theorem dX11_readAtom_161 : decode cX11_readAtom 161 = .ok (.aload_n 0, 1) := by decide +kernel
theorem dX11_readAtom_162 : decode cX11_readAtom 162 = .ok (.bipush 62, 2) := by decide +kernel
theorem dX11_readAtom_164 : decode cX11_readAtom 164 = .ok (.invokevirtual 163, 3) := by decide +kernel
theorem dX11_readAtom_167 : decode cX11_readAtom 167 = .ok (.ifCond .eq 10, 3) := by decide +kernel
theorem dX11_readAtom_170 : decode cX11_readAtom 170 = .ok (.aload_n 0, 1) := by decide +kernel
theorem dX11_readAtom_171 : decode cX11_readAtom 171 = .ok (.invokevirtual 195, 3) := by decide +kernel
theorem dX11_readAtom_174 : decode cX11_readAtom 174 = .ok (.ifCond .ne 5, 3) := by decide +kernel
theorem dX11_readAtom_177 : decode cX11_readAtom 177 = .ok (.iconst 0, 1) := by decide +kernel
theorem dX11_readAtom_178 : decode cX11_readAtom 178 = .ok (.ireturn, 1) := by decide +kernel
theorem dX11_readAtom_179 : decode cX11_readAtom 179 = .ok (.aload_n 0, 1) := by decide +kernel
theorem dX11_readAtom_180 : decode cX11_readAtom 180 = .ok (.iload_n 2, 1) := by decide +kernel
theorem dX11_readAtom_181 : decode cX11_readAtom 181 = .ok (.ifCond .eq 8, 3) := by decide +kernel
theorem dX11_readAtom_184 : decode cX11_readAtom 184 = .ok (.bipush 12, 2) := by decide +kernel
theorem dX11_readAtom_186 : decode cX11_readAtom 186 = .ok (.goto 5, 3) := by decide +kernel
theorem dX11_readAtom_189 : decode cX11_readAtom 189 = .ok (.bipush 13, 2) := by decide +kernel
theorem dX11_readAtom_191 : decode cX11_readAtom 191 = .ok (.iconst 0, 1) := by decide +kernel
theorem dX11_readAtom_192 : decode cX11_readAtom 192 = .ok (.invokevirtual 143, 3) := by decide +kernel
theorem dX11_readAtom_195 : decode cX11_readAtom 195 = .ok (.iconst 1, 1) := by decide +kernel
theorem dX11_readAtom_196 : decode cX11_readAtom 196 = .ok (.ireturn, 1) := by decide +kernel
theorem dX11_readAllOf_0 : decode cX11_readAllOf 0 = .ok (.aload_n 0, 1) := by decide +kernel
theorem dX11_readAllOf_1 : decode cX11_readAllOf 1 = .ok (.invokevirtual 189, 3) := by decide +kernel
theorem dX11_readAllOf_4 : decode cX11_readAllOf 4 = .ok (.ifCond .ne 5, 3) := by decide +kernel
theorem dX11_readAllOf_7 : decode cX11_readAllOf 7 = .ok (.iconst 0, 1) := by decide +kernel
theorem dX11_readAllOf_8 : decode cX11_readAllOf 8 = .ok (.ireturn, 1) := by decide +kernel
theorem dX11_readAllOf_9 : decode cX11_readAllOf 9 = .ok (.aload_n 0, 1) := by decide +kernel
theorem dX11_readAllOf_10 : decode cX11_readAllOf 10 = .ok (.ldc 198, 2) := by decide +kernel
theorem dX11_readAllOf_12 : decode cX11_readAllOf 12 = .ok (.invokevirtual 186, 3) := by decide +kernel
theorem dX11_readAllOf_15 : decode cX11_readAllOf 15 = .ok (.ifCond .eq 22, 3) := by decide +kernel
theorem dX11_readAllOf_18 : decode cX11_readAllOf 18 = .ok (.aload_n 0, 1) := by decide +kernel
theorem dX11_readAllOf_19 : decode cX11_readAllOf 19 = .ok (.invokevirtual 189, 3) := by decide +kernel
theorem dX11_readAllOf_22 : decode cX11_readAllOf 22 = .ok (.ifCond .ne 5, 3) := by decide +kernel
theorem dX11_readAllOf_25 : decode cX11_readAllOf 25 = .ok (.iconst 0, 1) := by decide +kernel
theorem dX11_readAllOf_26 : decode cX11_readAllOf 26 = .ok (.ireturn, 1) := by decide +kernel
theorem dX11_readAllOf_27 : decode cX11_readAllOf 27 = .ok (.aload_n 0, 1) := by decide +kernel
theorem dX11_readAllOf_28 : decode cX11_readAllOf 28 = .ok (.bipush 15, 2) := by decide +kernel
theorem dX11_readAllOf_30 : decode cX11_readAllOf 30 = .ok (.iconst 0, 1) := by decide +kernel
theorem dX11_readAllOf_31 : decode cX11_readAllOf 31 = .ok (.invokevirtual 143, 3) := by decide +kernel
theorem dX11_readAllOf_34 : decode cX11_readAllOf 34 = .ok (.goto (-25), 3) := by decide +kernel
theorem dX11_readAllOf_37 : decode cX11_readAllOf 37 = .ok (.iconst 1, 1) := by decide +kernel
theorem dX11_readAllOf_38 : decode cX11_readAllOf 38 = .ok (.ireturn, 1) := by decide +kernel
theorem dX11_readCond_0 : decode cX11_readCond 0 = .ok (.aload_n 0, 1) := by decide +kernel
theorem dX11_readCond_1 : decode cX11_readCond 1 = .ok (.invokevirtual 200, 3) := by decide +kernel
theorem dX11_readCond_4 : decode cX11_readCond 4 = .ok (.ifCond .ne 5, 3) := by decide +kernel
theorem dX11_readCond_7 : decode cX11_readCond 7 = .ok (.iconst 0, 1) := by decide +kernel
theorem dX11_readCond_8 : decode cX11_readCond 8 = .ok (.ireturn, 1) := by decide +kernel
theorem dX11_readCond_9 : decode cX11_readCond 9 = .ok (.aload_n 0, 1) := by decide +kernel
theorem dX11_readCond_10 : decode cX11_readCond 10 = .ok (.ldc 203, 2) := by decide +kernel
theorem dX11_readCond_12 : decode cX11_readCond 12 = .ok (.invokevirtual 186, 3) := by decide +kernel
theorem dX11_readCond_15 : decode cX11_readCond 15 = .ok (.ifCond .eq 22, 3) := by decide +kernel
theorem dX11_readCond_18 : decode cX11_readCond 18 = .ok (.aload_n 0, 1) := by decide +kernel
theorem dX11_readCond_19 : decode cX11_readCond 19 = .ok (.invokevirtual 200, 3) := by decide +kernel
theorem dX11_readCond_22 : decode cX11_readCond 22 = .ok (.ifCond .ne 5, 3) := by decide +kernel
theorem dX11_readCond_25 : decode cX11_readCond 25 = .ok (.iconst 0, 1) := by decide +kernel
theorem dX11_readCond_26 : decode cX11_readCond 26 = .ok (.ireturn, 1) := by decide +kernel
theorem dX11_readCond_27 : decode cX11_readCond 27 = .ok (.aload_n 0, 1) := by decide +kernel
theorem dX11_readCond_28 : decode cX11_readCond 28 = .ok (.bipush 16, 2) := by decide +kernel
theorem dX11_readCond_30 : decode cX11_readCond 30 = .ok (.iconst 0, 1) := by decide +kernel
theorem dX11_readCond_31 : decode cX11_readCond 31 = .ok (.invokevirtual 143, 3) := by decide +kernel
theorem dX11_readCond_34 : decode cX11_readCond 34 = .ok (.goto (-25), 3) := by decide +kernel
theorem dX11_readCond_37 : decode cX11_readCond 37 = .ok (.iconst 1, 1) := by decide +kernel
theorem dX11_readCond_38 : decode cX11_readCond 38 = .ok (.ireturn, 1) := by decide +kernel
theorem dX11_tells_0 : decode cX11_tells 0 = .ok (.aload_n 0, 1) := by decide +kernel
theorem dX11_tells_1 : decode cX11_tells 1 = .ok (.getfield 13, 3) := by decide +kernel
theorem dX11_tells_4 : decode cX11_tells 4 = .ok (.iload_n 1, 1) := by decide +kernel
theorem dX11_tells_5 : decode cX11_tells 5 = .ok (.iload_n 2, 1) := by decide +kernel
theorem dX11_tells_6 : decode cX11_tells 6 = .ok (.iastore, 1) := by decide +kernel
theorem dX11_tells_7 : decode cX11_tells 7 = .ok (.iload_n 2, 1) := by decide +kernel
theorem dX11_tells_8 : decode cX11_tells 8 = .ok (.ifCond .lt 7, 3) := by decide +kernel
theorem dX11_tells_11 : decode cX11_tells 11 = .ok (.iconst 1, 1) := by decide +kernel
theorem dX11_tells_12 : decode cX11_tells 12 = .ok (.goto 4, 3) := by decide +kernel
theorem dX11_tells_15 : decode cX11_tells 15 = .ok (.iconst 0, 1) := by decide +kernel
theorem dX11_tells_16 : decode cX11_tells 16 = .ok (.ireturn, 1) := by decide +kernel
theorem dX11_readRule_0 : decode cX11_readRule 0 = .ok (.aload_n 0, 1) := by decide +kernel
theorem dX11_readRule_1 : decode cX11_readRule 1 = .ok (.ldc 205, 2) := by decide +kernel
theorem dX11_readRule_3 : decode cX11_readRule 3 = .ok (.invokevirtual 128, 3) := by decide +kernel
theorem dX11_readRule_6 : decode cX11_readRule 6 = .ok (.ifCond .eq 7, 3) := by decide +kernel
theorem dX11_readRule_9 : decode cX11_readRule 9 = .ok (.iconst 0, 1) := by decide +kernel
theorem dX11_readRule_10 : decode cX11_readRule 10 = .ok (.goto 43, 3) := by decide +kernel
theorem dX11_readRule_13 : decode cX11_readRule 13 = .ok (.aload_n 0, 1) := by decide +kernel
theorem dX11_readRule_14 : decode cX11_readRule 14 = .ok (.ldc 207, 2) := by decide +kernel
theorem dX11_readRule_16 : decode cX11_readRule 16 = .ok (.invokevirtual 128, 3) := by decide +kernel
theorem dX11_readRule_19 : decode cX11_readRule 19 = .ok (.ifCond .eq 7, 3) := by decide +kernel
theorem dX11_readRule_22 : decode cX11_readRule 22 = .ok (.iconst 1, 1) := by decide +kernel
theorem dX11_readRule_23 : decode cX11_readRule 23 = .ok (.goto 30, 3) := by decide +kernel
theorem dX11_readRule_26 : decode cX11_readRule 26 = .ok (.aload_n 0, 1) := by decide +kernel
theorem dX11_readRule_27 : decode cX11_readRule 27 = .ok (.ldc 208, 2) := by decide +kernel
theorem dX11_readRule_29 : decode cX11_readRule 29 = .ok (.invokevirtual 128, 3) := by decide +kernel
theorem dX11_readRule_32 : decode cX11_readRule 32 = .ok (.ifCond .eq 7, 3) := by decide +kernel
theorem dX11_readRule_35 : decode cX11_readRule 35 = .ok (.iconst 2, 1) := by decide +kernel
theorem dX11_readRule_36 : decode cX11_readRule 36 = .ok (.goto 17, 3) := by decide +kernel
theorem dX11_readRule_39 : decode cX11_readRule 39 = .ok (.aload_n 0, 1) := by decide +kernel
theorem dX11_readRule_40 : decode cX11_readRule 40 = .ok (.ldc 209, 2) := by decide +kernel
theorem dX11_readRule_42 : decode cX11_readRule 42 = .ok (.invokevirtual 128, 3) := by decide +kernel
theorem dX11_readRule_45 : decode cX11_readRule 45 = .ok (.ifCond .eq 7, 3) := by decide +kernel
theorem dX11_readRule_48 : decode cX11_readRule 48 = .ok (.iconst 3, 1) := by decide +kernel
theorem dX11_readRule_49 : decode cX11_readRule 49 = .ok (.goto 4, 3) := by decide +kernel
theorem dX11_readRule_52 : decode cX11_readRule 52 = .ok (.iconst (-1), 1) := by decide +kernel
theorem dX11_readRule_53 : decode cX11_readRule 53 = .ok (.istore_n 2, 1) := by decide +kernel
theorem dX11_readRule_54 : decode cX11_readRule 54 = .ok (.aload_n 0, 1) := by decide +kernel
theorem dX11_readRule_55 : decode cX11_readRule 55 = .ok (.getfield 13, 3) := by decide +kernel
theorem dX11_readRule_58 : decode cX11_readRule 58 = .ok (.iload_n 1, 1) := by decide +kernel
theorem dX11_readRule_59 : decode cX11_readRule 59 = .ok (.iload_n 2, 1) := by decide +kernel
theorem dX11_readRule_60 : decode cX11_readRule 60 = .ok (.iastore, 1) := by decide +kernel
theorem dX11_readRule_61 : decode cX11_readRule 61 = .ok (.iload_n 2, 1) := by decide +kernel
theorem dX11_readRule_62 : decode cX11_readRule 62 = .ok (.ifCond .ge 5, 3) := by decide +kernel
theorem dX11_readRule_65 : decode cX11_readRule 65 = .ok (.iconst 0, 1) := by decide +kernel
theorem dX11_readRule_66 : decode cX11_readRule 66 = .ok (.ireturn, 1) := by decide +kernel
theorem dX11_readRule_67 : decode cX11_readRule 67 = .ok (.iload_n 2, 1) := by decide +kernel
theorem dX11_readRule_68 : decode cX11_readRule 68 = .ok (.iconst 3, 1) := by decide +kernel
theorem dX11_readRule_69 : decode cX11_readRule 69 = .ok (.if_icmp .ne 19, 3) := by decide +kernel
theorem dX11_readRule_72 : decode cX11_readRule 72 = .ok (.aload_n 0, 1) := by decide +kernel
theorem dX11_readRule_73 : decode cX11_readRule 73 = .ok (.iload_n 1, 1) := by decide +kernel
theorem dX11_readRule_74 : decode cX11_readRule 74 = .ok (.iconst 1, 1) := by decide +kernel
theorem dX11_readRule_75 : decode cX11_readRule 75 = .ok (.iadd, 1) := by decide +kernel
theorem dX11_readRule_76 : decode cX11_readRule 76 = .ok (.aload_n 0, 1) := by decide +kernel
theorem dX11_readRule_77 : decode cX11_readRule 77 = .ok (.iconst 1, 1) := by decide +kernel
theorem dX11_readRule_78 : decode cX11_readRule 78 = .ok (.sipush 300, 3) := by decide +kernel
theorem dX11_readRule_81 : decode cX11_readRule 81 = .ok (.invokevirtual 140, 3) := by decide +kernel
theorem dX11_readRule_84 : decode cX11_readRule 84 = .ok (.invokevirtual 211, 3) := by decide +kernel
theorem dX11_readRule_87 : decode cX11_readRule 87 = .ok (.ireturn, 1) := by decide +kernel
theorem dX11_readRule_88 : decode cX11_readRule 88 = .ok (.aload_n 0, 1) := by decide +kernel
theorem dX11_readRule_89 : decode cX11_readRule 89 = .ok (.iload_n 1, 1) := by decide +kernel
theorem dX11_readRule_90 : decode cX11_readRule 90 = .ok (.iconst 1, 1) := by decide +kernel
theorem dX11_readRule_91 : decode cX11_readRule 91 = .ok (.iadd, 1) := by decide +kernel
theorem dX11_readRule_92 : decode cX11_readRule 92 = .ok (.aload_n 0, 1) := by decide +kernel
theorem dX11_readRule_93 : decode cX11_readRule 93 = .ok (.iconst 0, 1) := by decide +kernel
theorem dX11_readRule_94 : decode cX11_readRule 94 = .ok (.iload_n 2, 1) := by decide +kernel
theorem dX11_readRule_95 : decode cX11_readRule 95 = .ok (.iconst 2, 1) := by decide +kernel
theorem dX11_readRule_96 : decode cX11_readRule 96 = .ok (.if_icmp .ne 9, 3) := by decide +kernel
theorem dX11_readRule_99 : decode cX11_readRule 99 = .ok (.sipush 300, 3) := by decide +kernel
theorem dX11_readRule_102 : decode cX11_readRule 102 = .ok (.goto 4, 3) := by decide +kernel
theorem dX11_readRule_105 : decode cX11_readRule 105 = .ok (.iconst 3, 1) := by decide +kernel
theorem dX11_readRule_106 : decode cX11_readRule 106 = .ok (.invokevirtual 140, 3) := by decide +kernel
theorem dX11_readRule_109 : decode cX11_readRule 109 = .ok (.invokevirtual 211, 3) := by decide +kernel
theorem dX11_readRule_112 : decode cX11_readRule 112 = .ok (.ifCond .ne 5, 3) := by decide +kernel
theorem dX11_readRule_115 : decode cX11_readRule 115 = .ok (.iconst 0, 1) := by decide +kernel
theorem dX11_readRule_116 : decode cX11_readRule 116 = .ok (.ireturn, 1) := by decide +kernel
theorem dX11_readRule_117 : decode cX11_readRule 117 = .ok (.iload_n 2, 1) := by decide +kernel
theorem dX11_readRule_118 : decode cX11_readRule 118 = .ok (.iconst 1, 1) := by decide +kernel
theorem dX11_readRule_119 : decode cX11_readRule 119 = .ok (.if_icmp .ne 18, 3) := by decide +kernel
theorem dX11_readRule_122 : decode cX11_readRule 122 = .ok (.aload_n 0, 1) := by decide +kernel
theorem dX11_readRule_123 : decode cX11_readRule 123 = .ok (.iload_n 1, 1) := by decide +kernel
theorem dX11_readRule_124 : decode cX11_readRule 124 = .ok (.iconst 2, 1) := by decide +kernel
theorem dX11_readRule_125 : decode cX11_readRule 125 = .ok (.iadd, 1) := by decide +kernel
theorem dX11_readRule_126 : decode cX11_readRule 126 = .ok (.aload_n 0, 1) := by decide +kernel
theorem dX11_readRule_127 : decode cX11_readRule 127 = .ok (.iconst 0, 1) := by decide +kernel
theorem dX11_readRule_128 : decode cX11_readRule 128 = .ok (.bipush 99, 2) := by decide +kernel
theorem dX11_readRule_130 : decode cX11_readRule 130 = .ok (.invokevirtual 140, 3) := by decide +kernel
theorem dX11_readRule_133 : decode cX11_readRule 133 = .ok (.invokevirtual 211, 3) := by decide +kernel
theorem dX11_readRule_136 : decode cX11_readRule 136 = .ok (.ireturn, 1) := by decide +kernel
theorem dX11_readRule_137 : decode cX11_readRule 137 = .ok (.iload_n 2, 1) := by decide +kernel
theorem dX11_readRule_138 : decode cX11_readRule 138 = .ok (.ifCond .ne 35, 3) := by decide +kernel
theorem dX11_readRule_141 : decode cX11_readRule 141 = .ok (.aload_n 0, 1) := by decide +kernel
theorem dX11_readRule_142 : decode cX11_readRule 142 = .ok (.ldc 214, 2) := by decide +kernel
theorem dX11_readRule_144 : decode cX11_readRule 144 = .ok (.invokevirtual 215, 3) := by decide +kernel
theorem dX11_readRule_147 : decode cX11_readRule 147 = .ok (.ifCond .eq 24, 3) := by decide +kernel
theorem dX11_readRule_150 : decode cX11_readRule 150 = .ok (.aload_n 0, 1) := by decide +kernel
theorem dX11_readRule_151 : decode cX11_readRule 151 = .ok (.iload_n 1, 1) := by decide +kernel
theorem dX11_readRule_152 : decode cX11_readRule 152 = .ok (.iconst 2, 1) := by decide +kernel
theorem dX11_readRule_153 : decode cX11_readRule 153 = .ok (.iadd, 1) := by decide +kernel
theorem dX11_readRule_154 : decode cX11_readRule 154 = .ok (.aload_n 0, 1) := by decide +kernel
theorem dX11_readRule_155 : decode cX11_readRule 155 = .ok (.iconst 1, 1) := by decide +kernel
theorem dX11_readRule_156 : decode cX11_readRule 156 = .ok (.bipush 7, 2) := by decide +kernel
theorem dX11_readRule_158 : decode cX11_readRule 158 = .ok (.invokevirtual 140, 3) := by decide +kernel
theorem dX11_readRule_161 : decode cX11_readRule 161 = .ok (.invokevirtual 211, 3) := by decide +kernel
theorem dX11_readRule_164 : decode cX11_readRule 164 = .ok (.ifCond .eq 7, 3) := by decide +kernel
theorem dX11_readRule_167 : decode cX11_readRule 167 = .ok (.iconst 1, 1) := by decide +kernel
theorem dX11_readRule_168 : decode cX11_readRule 168 = .ok (.goto 4, 3) := by decide +kernel
theorem dX11_readRule_171 : decode cX11_readRule 171 = .ok (.iconst 0, 1) := by decide +kernel
theorem dX11_readRule_172 : decode cX11_readRule 172 = .ok (.ireturn, 1) := by decide +kernel
theorem dX11_readRule_173 : decode cX11_readRule 173 = .ok (.aload_n 0, 1) := by decide +kernel
theorem dX11_readRule_174 : decode cX11_readRule 174 = .ok (.ldc 218, 2) := by decide +kernel
theorem dX11_readRule_176 : decode cX11_readRule 176 = .ok (.invokevirtual 215, 3) := by decide +kernel
theorem dX11_readRule_179 : decode cX11_readRule 179 = .ok (.ifCond .eq 32, 3) := by decide +kernel
theorem dX11_readRule_182 : decode cX11_readRule 182 = .ok (.aload_n 0, 1) := by decide +kernel
theorem dX11_readRule_183 : decode cX11_readRule 183 = .ok (.iload_n 1, 1) := by decide +kernel
theorem dX11_readRule_184 : decode cX11_readRule 184 = .ok (.iconst 2, 1) := by decide +kernel
theorem dX11_readRule_185 : decode cX11_readRule 185 = .ok (.iadd, 1) := by decide +kernel
theorem dX11_readRule_186 : decode cX11_readRule 186 = .ok (.aload_n 0, 1) := by decide +kernel
theorem dX11_readRule_187 : decode cX11_readRule 187 = .ok (.aload_n 0, 1) := by decide +kernel
theorem dX11_readRule_188 : decode cX11_readRule 188 = .ok (.getfield 13, 3) := by decide +kernel
theorem dX11_readRule_191 : decode cX11_readRule 191 = .ok (.iload_n 1, 1) := by decide +kernel
theorem dX11_readRule_192 : decode cX11_readRule 192 = .ok (.iconst 1, 1) := by decide +kernel
theorem dX11_readRule_193 : decode cX11_readRule 193 = .ok (.iadd, 1) := by decide +kernel
theorem dX11_readRule_194 : decode cX11_readRule 194 = .ok (.iaload, 1) := by decide +kernel
theorem dX11_readRule_195 : decode cX11_readRule 195 = .ok (.sipush 300, 3) := by decide +kernel
theorem dX11_readRule_198 : decode cX11_readRule 198 = .ok (.invokevirtual 140, 3) := by decide +kernel
theorem dX11_readRule_201 : decode cX11_readRule 201 = .ok (.invokevirtual 211, 3) := by decide +kernel
theorem dX11_readRule_204 : decode cX11_readRule 204 = .ok (.ifCond .eq 7, 3) := by decide +kernel
theorem dX11_readRule_207 : decode cX11_readRule 207 = .ok (.iconst 1, 1) := by decide +kernel
theorem dX11_readRule_208 : decode cX11_readRule 208 = .ok (.goto 4, 3) := by decide +kernel
theorem dX11_readRule_211 : decode cX11_readRule 211 = .ok (.iconst 0, 1) := by decide +kernel
theorem dX11_readRule_212 : decode cX11_readRule 212 = .ok (.ireturn, 1) := by decide +kernel
theorem dX11_readWay_0 : decode cX11_readWay 0 = .ok (.aload_n 0, 1) := by decide +kernel
theorem dX11_readWay_1 : decode cX11_readWay 1 = .ok (.ldc 220, 2) := by decide +kernel
theorem dX11_readWay_3 : decode cX11_readWay 3 = .ok (.invokevirtual 128, 3) := by decide +kernel
theorem dX11_readWay_6 : decode cX11_readWay 6 = .ok (.ifCond .eq 7, 3) := by decide +kernel
theorem dX11_readWay_9 : decode cX11_readWay 9 = .ok (.iconst 0, 1) := by decide +kernel
theorem dX11_readWay_10 : decode cX11_readWay 10 = .ok (.goto 43, 3) := by decide +kernel
theorem dX11_readWay_13 : decode cX11_readWay 13 = .ok (.aload_n 0, 1) := by decide +kernel
theorem dX11_readWay_14 : decode cX11_readWay 14 = .ok (.ldc 222, 2) := by decide +kernel
theorem dX11_readWay_16 : decode cX11_readWay 16 = .ok (.invokevirtual 128, 3) := by decide +kernel
theorem dX11_readWay_19 : decode cX11_readWay 19 = .ok (.ifCond .eq 7, 3) := by decide +kernel
theorem dX11_readWay_22 : decode cX11_readWay 22 = .ok (.iconst 1, 1) := by decide +kernel
theorem dX11_readWay_23 : decode cX11_readWay 23 = .ok (.goto 30, 3) := by decide +kernel
theorem dX11_readWay_26 : decode cX11_readWay 26 = .ok (.aload_n 0, 1) := by decide +kernel
theorem dX11_readWay_27 : decode cX11_readWay 27 = .ok (.ldc 224, 2) := by decide +kernel
theorem dX11_readWay_29 : decode cX11_readWay 29 = .ok (.invokevirtual 128, 3) := by decide +kernel
theorem dX11_readWay_32 : decode cX11_readWay 32 = .ok (.ifCond .eq 7, 3) := by decide +kernel
theorem dX11_readWay_35 : decode cX11_readWay 35 = .ok (.iconst 2, 1) := by decide +kernel
theorem dX11_readWay_36 : decode cX11_readWay 36 = .ok (.goto 17, 3) := by decide +kernel
theorem dX11_readWay_39 : decode cX11_readWay 39 = .ok (.aload_n 0, 1) := by decide +kernel
theorem dX11_readWay_40 : decode cX11_readWay 40 = .ok (.ldc 226, 2) := by decide +kernel
theorem dX11_readWay_42 : decode cX11_readWay 42 = .ok (.invokevirtual 128, 3) := by decide +kernel
theorem dX11_readWay_45 : decode cX11_readWay 45 = .ok (.ifCond .eq 7, 3) := by decide +kernel
theorem dX11_readWay_48 : decode cX11_readWay 48 = .ok (.iconst 3, 1) := by decide +kernel
theorem dX11_readWay_49 : decode cX11_readWay 49 = .ok (.goto 4, 3) := by decide +kernel
theorem dX11_readWay_52 : decode cX11_readWay 52 = .ok (.iconst (-1), 1) := by decide +kernel
theorem dX11_readWay_53 : decode cX11_readWay 53 = .ok (.istore_n 2, 1) := by decide +kernel
theorem dX11_readWay_54 : decode cX11_readWay 54 = .ok (.aload_n 0, 1) := by decide +kernel
theorem dX11_readWay_55 : decode cX11_readWay 55 = .ok (.getfield 13, 3) := by decide +kernel
theorem dX11_readWay_58 : decode cX11_readWay 58 = .ok (.iload_n 1, 1) := by decide +kernel
theorem dX11_readWay_59 : decode cX11_readWay 59 = .ok (.iload_n 2, 1) := by decide +kernel
theorem dX11_readWay_60 : decode cX11_readWay 60 = .ok (.iastore, 1) := by decide +kernel
theorem dX11_readWay_61 : decode cX11_readWay 61 = .ok (.iload_n 2, 1) := by decide +kernel
theorem dX11_readWay_62 : decode cX11_readWay 62 = .ok (.ifCond .ge 5, 3) := by decide +kernel
theorem dX11_readWay_65 : decode cX11_readWay 65 = .ok (.iconst 0, 1) := by decide +kernel
theorem dX11_readWay_66 : decode cX11_readWay 66 = .ok (.ireturn, 1) := by decide +kernel
theorem dX11_readWay_67 : decode cX11_readWay 67 = .ok (.aload_n 0, 1) := by decide +kernel
theorem dX11_readWay_68 : decode cX11_readWay 68 = .ok (.iconst 0, 1) := by decide +kernel
theorem dX11_readWay_69 : decode cX11_readWay 69 = .ok (.putfield 178, 3) := by decide +kernel
theorem dX11_readWay_72 : decode cX11_readWay 72 = .ok (.iload_n 2, 1) := by decide +kernel
theorem dX11_readWay_73 : decode cX11_readWay 73 = .ok (.iconst 3, 1) := by decide +kernel
theorem dX11_readWay_74 : decode cX11_readWay 74 = .ok (.if_icmp .ne 8, 3) := by decide +kernel
theorem dX11_readWay_77 : decode cX11_readWay 77 = .ok (.aload_n 0, 1) := by decide +kernel
theorem dX11_readWay_78 : decode cX11_readWay 78 = .ok (.invokevirtual 181, 3) := by decide +kernel
theorem dX11_readWay_81 : decode cX11_readWay 81 = .ok (.ireturn, 1) := by decide +kernel
theorem dX11_readWay_82 : decode cX11_readWay 82 = .ok (.aload_n 0, 1) := by decide +kernel
theorem dX11_readWay_83 : decode cX11_readWay 83 = .ok (.iload_n 1, 1) := by decide +kernel
theorem dX11_readWay_84 : decode cX11_readWay 84 = .ok (.iconst 1, 1) := by decide +kernel
theorem dX11_readWay_85 : decode cX11_readWay 85 = .ok (.iadd, 1) := by decide +kernel
theorem dX11_readWay_86 : decode cX11_readWay 86 = .ok (.aload_n 0, 1) := by decide +kernel
theorem dX11_readWay_87 : decode cX11_readWay 87 = .ok (.iload_n 2, 1) := by decide +kernel
theorem dX11_readWay_88 : decode cX11_readWay 88 = .ok (.ifCond .ne 7, 3) := by decide +kernel
theorem dX11_readWay_91 : decode cX11_readWay 91 = .ok (.iconst 0, 1) := by decide +kernel
theorem dX11_readWay_92 : decode cX11_readWay 92 = .ok (.goto 4, 3) := by decide +kernel
theorem dX11_readWay_95 : decode cX11_readWay 95 = .ok (.iconst 1, 1) := by decide +kernel
theorem dX11_readWay_96 : decode cX11_readWay 96 = .ok (.iload_n 2, 1) := by decide +kernel
theorem dX11_readWay_97 : decode cX11_readWay 97 = .ok (.ifCond .ne 7, 3) := by decide +kernel
theorem dX11_readWay_100 : decode cX11_readWay 100 = .ok (.iconst 3, 1) := by decide +kernel
theorem dX11_readWay_101 : decode cX11_readWay 101 = .ok (.goto 15, 3) := by decide +kernel
theorem dX11_readWay_104 : decode cX11_readWay 104 = .ok (.iload_n 2, 1) := by decide +kernel
theorem dX11_readWay_105 : decode cX11_readWay 105 = .ok (.iconst 1, 1) := by decide +kernel
theorem dX11_readWay_106 : decode cX11_readWay 106 = .ok (.if_icmp .ne 8, 3) := by decide +kernel
theorem dX11_readWay_109 : decode cX11_readWay 109 = .ok (.bipush 60, 2) := by decide +kernel
theorem dX11_readWay_111 : decode cX11_readWay 111 = .ok (.goto 5, 3) := by decide +kernel
theorem dX11_readWay_114 : decode cX11_readWay 114 = .ok (.bipush 9, 2) := by decide +kernel
theorem dX11_readWay_116 : decode cX11_readWay 116 = .ok (.invokevirtual 140, 3) := by decide +kernel
theorem dX11_readWay_119 : decode cX11_readWay 119 = .ok (.invokevirtual 211, 3) := by decide +kernel
theorem dX11_readWay_122 : decode cX11_readWay 122 = .ok (.ireturn, 1) := by decide +kernel
theorem dX11_readLine_0 : decode cX11_readLine 0 = .ok (.aload_n 0, 1) := by decide +kernel
theorem dX11_readLine_1 : decode cX11_readLine 1 = .ok (.invokevirtual 125, 3) := by decide +kernel
theorem dX11_readLine_4 : decode cX11_readLine 4 = .ok (.iload_n 1, 1) := by decide +kernel
theorem dX11_readLine_5 : decode cX11_readLine 5 = .ok (.bipush 10, 2) := by decide +kernel
theorem dX11_readLine_7 : decode cX11_readLine 7 = .ok (.if_icmp .ne 5, 3) := by decide +kernel
theorem dX11_readLine_10 : decode cX11_readLine 10 = .ok (.iconst 0, 1) := by decide +kernel
theorem dX11_readLine_11 : decode cX11_readLine 11 = .ok (.ireturn, 1) := by decide +kernel
theorem dX11_readLine_12 : decode cX11_readLine 12 = .ok (.bipush 10, 2) := by decide +kernel
theorem dX11_readLine_14 : decode cX11_readLine 14 = .ok (.iload_n 1, 1) := by decide +kernel
theorem dX11_readLine_15 : decode cX11_readLine 15 = .ok (.invokestatic 136, 3) := by decide +kernel
theorem dX11_readLine_18 : decode cX11_readLine 18 = .ok (.istore_n 3, 1) := by decide +kernel
theorem dX11_readLine_19 : decode cX11_readLine 19 = .ok (.aload_n 0, 1) := by decide +kernel
theorem dX11_readLine_20 : decode cX11_readLine 20 = .ok (.getfield 13, 3) := by decide +kernel
theorem dX11_readLine_23 : decode cX11_readLine 23 = .ok (.iload_n 3, 1) := by decide +kernel
theorem dX11_readLine_24 : decode cX11_readLine 24 = .ok (.iconst 1, 1) := by decide +kernel
theorem dX11_readLine_25 : decode cX11_readLine 25 = .ok (.iadd, 1) := by decide +kernel
theorem dX11_readLine_26 : decode cX11_readLine 26 = .ok (.iconst 0, 1) := by decide +kernel
theorem dX11_readLine_27 : decode cX11_readLine 27 = .ok (.iastore, 1) := by decide +kernel
theorem dX11_readLine_28 : decode cX11_readLine 28 = .ok (.aload_n 0, 1) := by decide +kernel
theorem dX11_readLine_29 : decode cX11_readLine 29 = .ok (.getfield 13, 3) := by decide +kernel
theorem dX11_readLine_32 : decode cX11_readLine 32 = .ok (.iload_n 3, 1) := by decide +kernel
theorem dX11_readLine_33 : decode cX11_readLine 33 = .ok (.iconst 2, 1) := by decide +kernel
theorem dX11_readLine_34 : decode cX11_readLine 34 = .ok (.iadd, 1) := by decide +kernel
theorem dX11_readLine_35 : decode cX11_readLine 35 = .ok (.iconst 0, 1) := by decide +kernel
theorem dX11_readLine_36 : decode cX11_readLine 36 = .ok (.iastore, 1) := by decide +kernel
theorem dX11_readLine_37 : decode cX11_readLine 37 = .ok (.aload_n 0, 1) := by decide +kernel
theorem dX11_readLine_38 : decode cX11_readLine 38 = .ok (.getfield 13, 3) := by decide +kernel
theorem dX11_readLine_41 : decode cX11_readLine 41 = .ok (.iload_n 3, 1) := by decide +kernel
theorem dX11_readLine_42 : decode cX11_readLine 42 = .ok (.iconst 3, 1) := by decide +kernel
theorem dX11_readLine_43 : decode cX11_readLine 43 = .ok (.iadd, 1) := by decide +kernel
theorem dX11_readLine_44 : decode cX11_readLine 44 = .ok (.aload_n 0, 1) := by decide +kernel
theorem dX11_readLine_45 : decode cX11_readLine 45 = .ok (.getfield 102, 3) := by decide +kernel
theorem dX11_readLine_48 : decode cX11_readLine 48 = .ok (.iastore, 1) := by decide +kernel
theorem dX11_readLine_49 : decode cX11_readLine 49 = .ok (.iload_n 2, 1) := by decide +kernel
theorem dX11_readLine_50 : decode cX11_readLine 50 = .ok (.ifCond .eq 11, 3) := by decide +kernel
theorem dX11_readLine_53 : decode cX11_readLine 53 = .ok (.aload_n 0, 1) := by decide +kernel
theorem dX11_readLine_54 : decode cX11_readLine 54 = .ok (.iload_n 3, 1) := by decide +kernel
theorem dX11_readLine_55 : decode cX11_readLine 55 = .ok (.invokevirtual 228, 3) := by decide +kernel
theorem dX11_readLine_58 : decode cX11_readLine 58 = .ok (.goto 8, 3) := by decide +kernel
theorem dX11_readLine_61 : decode cX11_readLine 61 = .ok (.aload_n 0, 1) := by decide +kernel
theorem dX11_readLine_62 : decode cX11_readLine 62 = .ok (.iload_n 3, 1) := by decide +kernel
theorem dX11_readLine_63 : decode cX11_readLine 63 = .ok (.invokevirtual 231, 3) := by decide +kernel
theorem dX11_readLine_66 : decode cX11_readLine 66 = .ok (.istore 4, 2) := by decide +kernel
theorem dX11_readLine_68 : decode cX11_readLine 68 = .ok (.aload_n 0, 1) := by decide +kernel
theorem dX11_readLine_69 : decode cX11_readLine 69 = .ok (.getfield 13, 3) := by decide +kernel
theorem dX11_readLine_72 : decode cX11_readLine 72 = .ok (.iload_n 3, 1) := by decide +kernel
theorem dX11_readLine_73 : decode cX11_readLine 73 = .ok (.iconst 4, 1) := by decide +kernel
theorem dX11_readLine_74 : decode cX11_readLine 74 = .ok (.iadd, 1) := by decide +kernel
theorem dX11_readLine_75 : decode cX11_readLine 75 = .ok (.aload_n 0, 1) := by decide +kernel
theorem dX11_readLine_76 : decode cX11_readLine 76 = .ok (.getfield 102, 3) := by decide +kernel
theorem dX11_readLine_79 : decode cX11_readLine 79 = .ok (.iastore, 1) := by decide +kernel
theorem dX11_readLine_80 : decode cX11_readLine 80 = .ok (.iload 4, 2) := by decide +kernel
theorem dX11_readLine_82 : decode cX11_readLine 82 = .ok (.ireturn, 1) := by decide +kernel
theorem dX11_readAll_0 : decode cX11_readAll 0 = .ok (.aload_n 0, 1) := by decide +kernel
theorem dX11_readAll_1 : decode cX11_readAll 1 = .ok (.invokevirtual 112, 3) := by decide +kernel
theorem dX11_readAll_4 : decode cX11_readAll 4 = .ok (.aload_n 0, 1) := by decide +kernel
theorem dX11_readAll_5 : decode cX11_readAll 5 = .ok (.getfield 99, 3) := by decide +kernel
theorem dX11_readAll_8 : decode cX11_readAll 8 = .ok (.aload_n 0, 1) := by decide +kernel
theorem dX11_readAll_9 : decode cX11_readAll 9 = .ok (.getfield 96, 3) := by decide +kernel
theorem dX11_readAll_12 : decode cX11_readAll 12 = .ok (.if_icmp .ne 5, 3) := by decide +kernel
theorem dX11_readAll_15 : decode cX11_readAll 15 = .ok (.iconst 0, 1) := by decide +kernel
theorem dX11_readAll_16 : decode cX11_readAll 16 = .ok (.ireturn, 1) := by decide +kernel
theorem dX11_readAll_17 : decode cX11_readAll 17 = .ok (.iconst 0, 1) := by decide +kernel
theorem dX11_readAll_18 : decode cX11_readAll 18 = .ok (.istore_n 2, 1) := by decide +kernel
theorem dX11_readAll_19 : decode cX11_readAll 19 = .ok (.aload_n 0, 1) := by decide +kernel
theorem dX11_readAll_20 : decode cX11_readAll 20 = .ok (.iload_n 2, 1) := by decide +kernel
theorem dX11_readAll_21 : decode cX11_readAll 21 = .ok (.iload_n 1, 1) := by decide +kernel
theorem dX11_readAll_22 : decode cX11_readAll 22 = .ok (.invokevirtual 234, 3) := by decide +kernel
theorem dX11_readAll_25 : decode cX11_readAll 25 = .ok (.ifCond .ne 5, 3) := by decide +kernel
theorem dX11_readAll_28 : decode cX11_readAll 28 = .ok (.iconst (-1), 1) := by decide +kernel
theorem dX11_readAll_29 : decode cX11_readAll 29 = .ok (.ireturn, 1) := by decide +kernel
theorem dX11_readAll_30 : decode cX11_readAll 30 = .ok (.aload_n 0, 1) := by decide +kernel
theorem dX11_readAll_31 : decode cX11_readAll 31 = .ok (.invokevirtual 112, 3) := by decide +kernel
theorem dX11_readAll_34 : decode cX11_readAll 34 = .ok (.aload_n 0, 1) := by decide +kernel
theorem dX11_readAll_35 : decode cX11_readAll 35 = .ok (.getfield 99, 3) := by decide +kernel
theorem dX11_readAll_38 : decode cX11_readAll 38 = .ok (.aload_n 0, 1) := by decide +kernel
theorem dX11_readAll_39 : decode cX11_readAll 39 = .ok (.getfield 96, 3) := by decide +kernel
theorem dX11_readAll_42 : decode cX11_readAll 42 = .ok (.if_icmp .ne 7, 3) := by decide +kernel
theorem dX11_readAll_45 : decode cX11_readAll 45 = .ok (.iload_n 2, 1) := by decide +kernel
theorem dX11_readAll_46 : decode cX11_readAll 46 = .ok (.iconst 1, 1) := by decide +kernel
theorem dX11_readAll_47 : decode cX11_readAll 47 = .ok (.iadd, 1) := by decide +kernel
theorem dX11_readAll_48 : decode cX11_readAll 48 = .ok (.ireturn, 1) := by decide +kernel
theorem dX11_readAll_49 : decode cX11_readAll 49 = .ok (.aload_n 0, 1) := by decide +kernel
theorem dX11_readAll_50 : decode cX11_readAll 50 = .ok (.bipush 59, 2) := by decide +kernel
theorem dX11_readAll_52 : decode cX11_readAll 52 = .ok (.bipush 59, 2) := by decide +kernel
theorem dX11_readAll_54 : decode cX11_readAll 54 = .ok (.invokevirtual 105, 3) := by decide +kernel
theorem dX11_readAll_57 : decode cX11_readAll 57 = .ok (.ifCond .ne 5, 3) := by decide +kernel
theorem dX11_readAll_60 : decode cX11_readAll 60 = .ok (.iconst (-1), 1) := by decide +kernel
theorem dX11_readAll_61 : decode cX11_readAll 61 = .ok (.ireturn, 1) := by decide +kernel
theorem dX11_readAll_62 : decode cX11_readAll 62 = .ok (.aload_n 0, 1) := by decide +kernel
theorem dX11_readAll_63 : decode cX11_readAll 63 = .ok (.dup, 1) := by decide +kernel
theorem dX11_readAll_64 : decode cX11_readAll 64 = .ok (.getfield 99, 3) := by decide +kernel
theorem dX11_readAll_67 : decode cX11_readAll 67 = .ok (.iconst 1, 1) := by decide +kernel
theorem dX11_readAll_68 : decode cX11_readAll 68 = .ok (.iadd, 1) := by decide +kernel
theorem dX11_readAll_69 : decode cX11_readAll 69 = .ok (.putfield 99, 3) := by decide +kernel
theorem dX11_readAll_72 : decode cX11_readAll 72 = .ok (.iinc 2 1, 3) := by decide +kernel
theorem dX11_readAll_75 : decode cX11_readAll 75 = .ok (.goto (-56), 3) := by decide +kernel
theorem dX11_keeps_0 : decode cX11_keeps 0 = .ok (.aload_n 0, 1) := by decide +kernel
theorem dX11_keeps_1 : decode cX11_keeps 1 = .ok (.invokevirtual 238, 3) := by decide +kernel
theorem dX11_keeps_4 : decode cX11_keeps 4 = .ok (.aload_n 0, 1) := by decide +kernel
theorem dX11_keeps_5 : decode cX11_keeps 5 = .ok (.iload_n 1, 1) := by decide +kernel
theorem dX11_keeps_6 : decode cX11_keeps 6 = .ok (.invokevirtual 241, 3) := by decide +kernel
theorem dX11_keeps_9 : decode cX11_keeps 9 = .ok (.istore 5, 2) := by decide +kernel
theorem dX11_keeps_11 : decode cX11_keeps 11 = .ok (.aload_n 0, 1) := by decide +kernel
theorem dX11_keeps_12 : decode cX11_keeps 12 = .ok (.iload 5, 2) := by decide +kernel
theorem dX11_keeps_14 : decode cX11_keeps 14 = .ok (.ifCond .ge 10, 3) := by decide +kernel
theorem dX11_keeps_17 : decode cX11_keeps 17 = .ok (.aload_n 0, 1) := by decide +kernel
theorem dX11_keeps_18 : decode cX11_keeps 18 = .ok (.getfield 109, 3) := by decide +kernel
theorem dX11_keeps_21 : decode cX11_keeps 21 = .ok (.goto 4, 3) := by decide +kernel
theorem dX11_keeps_24 : decode cX11_keeps 24 = .ok (.iconst (-1), 1) := by decide +kernel
theorem dX11_keeps_25 : decode cX11_keeps 25 = .ok (.putfield 24, 3) := by decide +kernel
theorem dX11_keeps_28 : decode cX11_keeps 28 = .ok (.aload_n 0, 1) := by decide +kernel
theorem dX11_keeps_29 : decode cX11_keeps 29 = .ok (.iload 5, 2) := by decide +kernel
theorem dX11_keeps_31 : decode cX11_keeps 31 = .ok (.ifCond .ge 7, 3) := by decide +kernel
theorem dX11_keeps_34 : decode cX11_keeps 34 = .ok (.iconst 1, 1) := by decide +kernel
theorem dX11_keeps_35 : decode cX11_keeps 35 = .ok (.goto 4, 3) := by decide +kernel
theorem dX11_keeps_38 : decode cX11_keeps 38 = .ok (.iconst 0, 1) := by decide +kernel
theorem dX11_keeps_39 : decode cX11_keeps 39 = .ok (.iconst 1, 1) := by decide +kernel
theorem dX11_keeps_40 : decode cX11_keeps 40 = .ok (.invokevirtual 85, 3) := by decide +kernel
theorem dX11_keeps_43 : decode cX11_keeps 43 = .ok (.ifCond .ne 27, 3) := by decide +kernel
theorem dX11_keeps_46 : decode cX11_keeps 46 = .ok (.aload_n 0, 1) := by decide +kernel
theorem dX11_keeps_47 : decode cX11_keeps 47 = .ok (.aload_n 0, 1) := by decide +kernel
theorem dX11_keeps_48 : decode cX11_keeps 48 = .ok (.getfield 13, 3) := by decide +kernel
theorem dX11_keeps_51 : decode cX11_keeps 51 = .ok (.iload_n 2, 1) := by decide +kernel
theorem dX11_keeps_52 : decode cX11_keeps 52 = .ok (.iaload, 1) := by decide +kernel
theorem dX11_keeps_53 : decode cX11_keeps 53 = .ok (.iload 4, 2) := by decide +kernel
theorem dX11_keeps_55 : decode cX11_keeps 55 = .ok (.if_icmp .ne 7, 3) := by decide +kernel
theorem dX11_keeps_58 : decode cX11_keeps 58 = .ok (.iconst 1, 1) := by decide +kernel
theorem dX11_keeps_59 : decode cX11_keeps 59 = .ok (.goto 4, 3) := by decide +kernel
theorem dX11_keeps_62 : decode cX11_keeps 62 = .ok (.iconst 0, 1) := by decide +kernel
theorem dX11_keeps_63 : decode cX11_keeps 63 = .ok (.iconst 2, 1) := by decide +kernel
theorem dX11_keeps_64 : decode cX11_keeps 64 = .ok (.invokevirtual 85, 3) := by decide +kernel
theorem dX11_keeps_67 : decode cX11_keeps 67 = .ok (.ifCond .eq 5, 3) := by decide +kernel
theorem dX11_keeps_70 : decode cX11_keeps 70 = .ok (.iconst 0, 1) := by decide +kernel
theorem dX11_keeps_71 : decode cX11_keeps 71 = .ok (.ireturn, 1) := by decide +kernel
theorem dX11_keeps_72 : decode cX11_keeps 72 = .ok (.iload_n 3, 1) := by decide +kernel
theorem dX11_keeps_73 : decode cX11_keeps 73 = .ok (.aload_n 0, 1) := by decide +kernel
theorem dX11_keeps_74 : decode cX11_keeps 74 = .ok (.getfield 13, 3) := by decide +kernel
theorem dX11_keeps_77 : decode cX11_keeps 77 = .ok (.iload_n 2, 1) := by decide +kernel
theorem dX11_keeps_78 : decode cX11_keeps 78 = .ok (.iaload, 1) := by decide +kernel
theorem dX11_keeps_79 : decode cX11_keeps 79 = .ok (.iadd, 1) := by decide +kernel
theorem dX11_keeps_80 : decode cX11_keeps 80 = .ok (.istore 6, 2) := by decide +kernel
theorem dX11_keeps_82 : decode cX11_keeps 82 = .ok (.iconst 0, 1) := by decide +kernel
theorem dX11_keeps_83 : decode cX11_keeps 83 = .ok (.istore 7, 2) := by decide +kernel
theorem dX11_keeps_85 : decode cX11_keeps 85 = .ok (.iload 7, 2) := by decide +kernel
theorem dX11_keeps_87 : decode cX11_keeps 87 = .ok (.sipush 851, 3) := by decide +kernel
theorem dX11_keeps_90 : decode cX11_keeps 90 = .ok (.if_icmp .ge 35, 3) := by decide +kernel
theorem dX11_keeps_93 : decode cX11_keeps 93 = .ok (.aload_n 0, 1) := by decide +kernel
theorem dX11_keeps_94 : decode cX11_keeps 94 = .ok (.getfield 13, 3) := by decide +kernel
theorem dX11_keeps_97 : decode cX11_keeps 97 = .ok (.iload 6, 2) := by decide +kernel
theorem dX11_keeps_99 : decode cX11_keeps 99 = .ok (.invokestatic 132, 3) := by decide +kernel
theorem dX11_keeps_102 : decode cX11_keeps 102 = .ok (.iload 7, 2) := by decide +kernel
theorem dX11_keeps_104 : decode cX11_keeps 104 = .ok (.iadd, 1) := by decide +kernel
theorem dX11_keeps_105 : decode cX11_keeps 105 = .ok (.aload_n 0, 1) := by decide +kernel
theorem dX11_keeps_106 : decode cX11_keeps 106 = .ok (.getfield 13, 3) := by decide +kernel
theorem dX11_keeps_109 : decode cX11_keeps 109 = .ok (.bipush 10, 2) := by decide +kernel
theorem dX11_keeps_111 : decode cX11_keeps 111 = .ok (.invokestatic 132, 3) := by decide +kernel
theorem dX11_keeps_114 : decode cX11_keeps 114 = .ok (.iload 7, 2) := by decide +kernel
theorem dX11_keeps_116 : decode cX11_keeps 116 = .ok (.iadd, 1) := by decide +kernel
theorem dX11_keeps_117 : decode cX11_keeps 117 = .ok (.iaload, 1) := by decide +kernel
theorem dX11_keeps_118 : decode cX11_keeps 118 = .ok (.iastore, 1) := by decide +kernel
theorem dX11_keeps_119 : decode cX11_keeps 119 = .ok (.iinc 7 1, 3) := by decide +kernel
theorem dX11_keeps_122 : decode cX11_keeps 122 = .ok (.goto (-37), 3) := by decide +kernel
theorem dX11_keeps_125 : decode cX11_keeps 125 = .ok (.aload_n 0, 1) := by decide +kernel
theorem dX11_keeps_126 : decode cX11_keeps 126 = .ok (.getfield 13, 3) := by decide +kernel
theorem dX11_keeps_129 : decode cX11_keeps 129 = .ok (.iload 6, 2) := by decide +kernel
theorem dX11_keeps_131 : decode cX11_keeps 131 = .ok (.invokestatic 132, 3) := by decide +kernel
theorem dX11_keeps_134 : decode cX11_keeps 134 = .ok (.iload 5, 2) := by decide +kernel
theorem dX11_keeps_136 : decode cX11_keeps 136 = .ok (.iastore, 1) := by decide +kernel
theorem dX11_keeps_137 : decode cX11_keeps 137 = .ok (.aload_n 0, 1) := by decide +kernel
theorem dX11_keeps_138 : decode cX11_keeps 138 = .ok (.getfield 13, 3) := by decide +kernel
theorem dX11_keeps_141 : decode cX11_keeps 141 = .ok (.iload_n 2, 1) := by decide +kernel
theorem dX11_keeps_142 : decode cX11_keeps 142 = .ok (.dup2, 1) := by decide +kernel
theorem dX11_keeps_143 : decode cX11_keeps 143 = .ok (.iaload, 1) := by decide +kernel
theorem dX11_keeps_144 : decode cX11_keeps 144 = .ok (.iconst 1, 1) := by decide +kernel
theorem dX11_keeps_145 : decode cX11_keeps 145 = .ok (.iadd, 1) := by decide +kernel
theorem dX11_keeps_146 : decode cX11_keeps 146 = .ok (.iastore, 1) := by decide +kernel
theorem dX11_keeps_147 : decode cX11_keeps 147 = .ok (.aload_n 0, 1) := by decide +kernel
theorem dX11_keeps_148 : decode cX11_keeps 148 = .ok (.getfield 13, 3) := by decide +kernel
theorem dX11_keeps_151 : decode cX11_keeps 151 = .ok (.iload_n 2, 1) := by decide +kernel
theorem dX11_keeps_152 : decode cX11_keeps 152 = .ok (.iaload, 1) := by decide +kernel
theorem dX11_keeps_153 : decode cX11_keeps 153 = .ok (.iconst 1, 1) := by decide +kernel
theorem dX11_keeps_154 : decode cX11_keeps 154 = .ok (.isub, 1) := by decide +kernel
theorem dX11_keeps_155 : decode cX11_keeps 155 = .ok (.ireturn, 1) := by decide +kernel
theorem dX11_rule_0 : decode cX11_rule 0 = .ok (.aload_n 0, 1) := by decide +kernel
theorem dX11_rule_1 : decode cX11_rule 1 = .ok (.iconst 1, 1) := by decide +kernel
theorem dX11_rule_2 : decode cX11_rule 2 = .ok (.iconst 1, 1) := by decide +kernel
theorem dX11_rule_3 : decode cX11_rule 3 = .ok (.iconst 0, 1) := by decide +kernel
theorem dX11_rule_4 : decode cX11_rule 4 = .ok (.iconst 4, 1) := by decide +kernel
theorem dX11_rule_5 : decode cX11_rule 5 = .ok (.invokevirtual 245, 3) := by decide +kernel
theorem dX11_rule_8 : decode cX11_rule 8 = .ok (.ireturn, 1) := by decide +kernel
theorem dX11_way_0 : decode cX11_way 0 = .ok (.aload_n 0, 1) := by decide +kernel
theorem dX11_way_1 : decode cX11_way 1 = .ok (.iconst 0, 1) := by decide +kernel
theorem dX11_way_2 : decode cX11_way 2 = .ok (.iconst 2, 1) := by decide +kernel
theorem dX11_way_3 : decode cX11_way 3 = .ok (.iconst 4, 1) := by decide +kernel
theorem dX11_way_4 : decode cX11_way 4 = .ok (.bipush 6, 2) := by decide +kernel
theorem dX11_way_6 : decode cX11_way 6 = .ok (.invokevirtual 245, 3) := by decide +kernel
theorem dX11_way_9 : decode cX11_way 9 = .ok (.ireturn, 1) := by decide +kernel
theorem dX11_laysOut_0 : decode cX11_laysOut 0 = .ok (.aload_n 0, 1) := by decide +kernel
theorem dX11_laysOut_1 : decode cX11_laysOut 1 = .ok (.bipush 120, 2) := by decide +kernel
theorem dX11_laysOut_3 : decode cX11_laysOut 3 = .ok (.putfield 249, 3) := by decide +kernel
theorem dX11_laysOut_6 : decode cX11_laysOut 6 = .ok (.iconst 0, 1) := by decide +kernel
theorem dX11_laysOut_7 : decode cX11_laysOut 7 = .ok (.istore_n 3, 1) := by decide +kernel
theorem dX11_laysOut_8 : decode cX11_laysOut 8 = .ok (.iload_n 3, 1) := by decide +kernel
theorem dX11_laysOut_9 : decode cX11_laysOut 9 = .ok (.sipush 301, 3) := by decide +kernel
theorem dX11_laysOut_12 : decode cX11_laysOut 12 = .ok (.if_icmp .ge 16, 3) := by decide +kernel
theorem dX11_laysOut_15 : decode cX11_laysOut 15 = .ok (.aload_n 0, 1) := by decide +kernel
theorem dX11_laysOut_16 : decode cX11_laysOut 16 = .ok (.getfield 30, 3) := by decide +kernel
theorem dX11_laysOut_19 : decode cX11_laysOut 19 = .ok (.iload_n 3, 1) := by decide +kernel
theorem dX11_laysOut_20 : decode cX11_laysOut 20 = .ok (.iconst 0, 1) := by decide +kernel
theorem dX11_laysOut_21 : decode cX11_laysOut 21 = .ok (.bastore, 1) := by decide +kernel
theorem dX11_laysOut_22 : decode cX11_laysOut 22 = .ok (.iinc 3 1, 3) := by decide +kernel
theorem dX11_laysOut_25 : decode cX11_laysOut 25 = .ok (.goto (-17), 3) := by decide +kernel
theorem dX11_laysOut_28 : decode cX11_laysOut 28 = .ok (.iconst 0, 1) := by decide +kernel
theorem dX11_laysOut_29 : decode cX11_laysOut 29 = .ok (.istore_n 3, 1) := by decide +kernel
theorem dX11_laysOut_30 : decode cX11_laysOut 30 = .ok (.iload_n 3, 1) := by decide +kernel
theorem dX11_laysOut_31 : decode cX11_laysOut 31 = .ok (.iconst 4, 1) := by decide +kernel
theorem dX11_laysOut_32 : decode cX11_laysOut 32 = .ok (.if_icmp .ge 23, 3) := by decide +kernel
theorem dX11_laysOut_35 : decode cX11_laysOut 35 = .ok (.aload_n 0, 1) := by decide +kernel
theorem dX11_laysOut_36 : decode cX11_laysOut 36 = .ok (.getfield 34, 3) := by decide +kernel
theorem dX11_laysOut_39 : decode cX11_laysOut 39 = .ok (.iload_n 3, 1) := by decide +kernel
theorem dX11_laysOut_40 : decode cX11_laysOut 40 = .ok (.iconst (-1), 1) := by decide +kernel
theorem dX11_laysOut_41 : decode cX11_laysOut 41 = .ok (.iastore, 1) := by decide +kernel
theorem dX11_laysOut_42 : decode cX11_laysOut 42 = .ok (.aload_n 0, 1) := by decide +kernel
theorem dX11_laysOut_43 : decode cX11_laysOut 43 = .ok (.getfield 37, 3) := by decide +kernel
theorem dX11_laysOut_46 : decode cX11_laysOut 46 = .ok (.iload_n 3, 1) := by decide +kernel
theorem dX11_laysOut_47 : decode cX11_laysOut 47 = .ok (.iconst (-1), 1) := by decide +kernel
theorem dX11_laysOut_48 : decode cX11_laysOut 48 = .ok (.iastore, 1) := by decide +kernel
theorem dX11_laysOut_49 : decode cX11_laysOut 49 = .ok (.iinc 3 1, 3) := by decide +kernel
theorem dX11_laysOut_52 : decode cX11_laysOut 52 = .ok (.goto (-22), 3) := by decide +kernel
theorem dX11_laysOut_55 : decode cX11_laysOut 55 = .ok (.iconst 0, 1) := by decide +kernel
theorem dX11_laysOut_56 : decode cX11_laysOut 56 = .ok (.istore_n 3, 1) := by decide +kernel
theorem dX11_laysOut_57 : decode cX11_laysOut 57 = .ok (.iload_n 3, 1) := by decide +kernel
theorem dX11_laysOut_58 : decode cX11_laysOut 58 = .ok (.aload_n 0, 1) := by decide +kernel
theorem dX11_laysOut_59 : decode cX11_laysOut 59 = .ok (.iload_n 1, 1) := by decide +kernel
theorem dX11_laysOut_60 : decode cX11_laysOut 60 = .ok (.invokevirtual 252, 3) := by decide +kernel
theorem dX11_laysOut_63 : decode cX11_laysOut 63 = .ok (.if_icmp .ge 125, 3) := by decide +kernel
theorem dX11_laysOut_66 : decode cX11_laysOut 66 = .ok (.iload_n 3, 1) := by decide +kernel
theorem dX11_laysOut_67 : decode cX11_laysOut 67 = .ok (.iload_n 2, 1) := by decide +kernel
theorem dX11_laysOut_68 : decode cX11_laysOut 68 = .ok (.if_icmp .ne 6, 3) := by decide +kernel
theorem dX11_laysOut_71 : decode cX11_laysOut 71 = .ok (.goto 111, 3) := by decide +kernel
theorem dX11_laysOut_74 : decode cX11_laysOut 74 = .ok (.aload_n 0, 1) := by decide +kernel
theorem dX11_laysOut_75 : decode cX11_laysOut 75 = .ok (.iload_n 1, 1) := by decide +kernel
theorem dX11_laysOut_76 : decode cX11_laysOut 76 = .ok (.iload_n 3, 1) := by decide +kernel
theorem dX11_laysOut_77 : decode cX11_laysOut 77 = .ok (.iconst 1, 1) := by decide +kernel
theorem dX11_laysOut_78 : decode cX11_laysOut 78 = .ok (.invokevirtual 255, 3) := by decide +kernel
theorem dX11_laysOut_81 : decode cX11_laysOut 81 = .ok (.istore 4, 2) := by decide +kernel
theorem dX11_laysOut_83 : decode cX11_laysOut 83 = .ok (.aload_n 0, 1) := by decide +kernel
theorem dX11_laysOut_84 : decode cX11_laysOut 84 = .ok (.iload_n 1, 1) := by decide +kernel
theorem dX11_laysOut_85 : decode cX11_laysOut 85 = .ok (.iload_n 3, 1) := by decide +kernel
theorem dX11_laysOut_86 : decode cX11_laysOut 86 = .ok (.iconst 2, 1) := by decide +kernel
theorem dX11_laysOut_87 : decode cX11_laysOut 87 = .ok (.invokevirtual 255, 3) := by decide +kernel
theorem dX11_laysOut_90 : decode cX11_laysOut 90 = .ok (.istore 5, 2) := by decide +kernel
theorem dX11_laysOut_92 : decode cX11_laysOut 92 = .ok (.aload_n 0, 1) := by decide +kernel
theorem dX11_laysOut_93 : decode cX11_laysOut 93 = .ok (.iload_n 1, 1) := by decide +kernel
theorem dX11_laysOut_94 : decode cX11_laysOut 94 = .ok (.iload_n 3, 1) := by decide +kernel
theorem dX11_laysOut_95 : decode cX11_laysOut 95 = .ok (.invokevirtual 259, 3) := by decide +kernel
theorem dX11_laysOut_98 : decode cX11_laysOut 98 = .ok (.tableswitch 78 0 2 #[26, 38, 50], 26) := by decide +kernel
theorem dX11_laysOut_124 : decode cX11_laysOut 124 = .ok (.aload_n 0, 1) := by decide +kernel
theorem dX11_laysOut_125 : decode cX11_laysOut 125 = .ok (.getfield 34, 3) := by decide +kernel
theorem dX11_laysOut_128 : decode cX11_laysOut 128 = .ok (.iload 4, 2) := by decide +kernel
theorem dX11_laysOut_130 : decode cX11_laysOut 130 = .ok (.iload 5, 2) := by decide +kernel
theorem dX11_laysOut_132 : decode cX11_laysOut 132 = .ok (.iastore, 1) := by decide +kernel
theorem dX11_laysOut_133 : decode cX11_laysOut 133 = .ok (.goto 49, 3) := by decide +kernel
theorem dX11_laysOut_136 : decode cX11_laysOut 136 = .ok (.aload_n 0, 1) := by decide +kernel
theorem dX11_laysOut_137 : decode cX11_laysOut 137 = .ok (.getfield 37, 3) := by decide +kernel
theorem dX11_laysOut_140 : decode cX11_laysOut 140 = .ok (.iload 4, 2) := by decide +kernel
theorem dX11_laysOut_142 : decode cX11_laysOut 142 = .ok (.iload 5, 2) := by decide +kernel
theorem dX11_laysOut_144 : decode cX11_laysOut 144 = .ok (.iastore, 1) := by decide +kernel
theorem dX11_laysOut_145 : decode cX11_laysOut 145 = .ok (.goto 37, 3) := by decide +kernel
theorem dX11_laysOut_148 : decode cX11_laysOut 148 = .ok (.iload 4, 2) := by decide +kernel
theorem dX11_laysOut_150 : decode cX11_laysOut 150 = .ok (.istore 6, 2) := by decide +kernel
theorem dX11_laysOut_152 : decode cX11_laysOut 152 = .ok (.iload 6, 2) := by decide +kernel
theorem dX11_laysOut_154 : decode cX11_laysOut 154 = .ok (.iload 5, 2) := by decide +kernel
theorem dX11_laysOut_156 : decode cX11_laysOut 156 = .ok (.if_icmp .ge 17, 3) := by decide +kernel
theorem dX11_laysOut_159 : decode cX11_laysOut 159 = .ok (.aload_n 0, 1) := by decide +kernel
theorem dX11_laysOut_160 : decode cX11_laysOut 160 = .ok (.getfield 30, 3) := by decide +kernel
theorem dX11_laysOut_163 : decode cX11_laysOut 163 = .ok (.iload 6, 2) := by decide +kernel
theorem dX11_laysOut_165 : decode cX11_laysOut 165 = .ok (.iconst 1, 1) := by decide +kernel
theorem dX11_laysOut_166 : decode cX11_laysOut 166 = .ok (.bastore, 1) := by decide +kernel
theorem dX11_laysOut_167 : decode cX11_laysOut 167 = .ok (.iinc 6 1, 3) := by decide +kernel
theorem dX11_laysOut_170 : decode cX11_laysOut 170 = .ok (.goto (-18), 3) := by decide +kernel
theorem dX11_laysOut_173 : decode cX11_laysOut 173 = .ok (.goto 9, 3) := by decide +kernel
theorem dX11_laysOut_176 : decode cX11_laysOut 176 = .ok (.aload_n 0, 1) := by decide +kernel
theorem dX11_laysOut_177 : decode cX11_laysOut 177 = .ok (.iload 4, 2) := by decide +kernel
theorem dX11_laysOut_179 : decode cX11_laysOut 179 = .ok (.putfield 249, 3) := by decide +kernel
theorem dX11_laysOut_182 : decode cX11_laysOut 182 = .ok (.iinc 3 1, 3) := by decide +kernel
theorem dX11_laysOut_185 : decode cX11_laysOut 185 = .ok (.goto (-128), 3) := by decide +kernel
theorem dX11_laysOut_188 : decode cX11_laysOut 188 = .ok (.return_, 1) := by decide +kernel
theorem dX11_look_0 : decode cX11_look 0 = .ok (.aload_n 0, 1) := by decide +kernel
theorem dX11_look_1 : decode cX11_look 1 = .ok (.iconst 0, 1) := by decide +kernel
theorem dX11_look_2 : decode cX11_look 2 = .ok (.putfield 3, 3) := by decide +kernel
theorem dX11_look_5 : decode cX11_look 5 = .ok (.aload_n 0, 1) := by decide +kernel
theorem dX11_look_6 : decode cX11_look 6 = .ok (.aload_n 0, 1) := by decide +kernel
theorem dX11_look_7 : decode cX11_look 7 = .ok (.iload_n 1, 1) := by decide +kernel
theorem dX11_look_8 : decode cX11_look 8 = .ok (.iconst 1, 1) := by decide +kernel
theorem dX11_look_9 : decode cX11_look 9 = .ok (.invokevirtual 262, 3) := by decide +kernel
theorem dX11_look_12 : decode cX11_look 12 = .ok (.iconst 1, 1) := by decide +kernel
theorem dX11_look_13 : decode cX11_look 13 = .ok (.invokevirtual 85, 3) := by decide +kernel
theorem dX11_look_16 : decode cX11_look 16 = .ok (.ifCond .ne 25, 3) := by decide +kernel
theorem dX11_look_19 : decode cX11_look 19 = .ok (.aload_n 0, 1) := by decide +kernel
theorem dX11_look_20 : decode cX11_look 20 = .ok (.iload_n 2, 1) := by decide +kernel
theorem dX11_look_21 : decode cX11_look 21 = .ok (.iconst 0, 1) := by decide +kernel
theorem dX11_look_22 : decode cX11_look 22 = .ok (.iconst 4, 1) := by decide +kernel
theorem dX11_look_23 : decode cX11_look 23 = .ok (.invokestatic 81, 3) := by decide +kernel
theorem dX11_look_26 : decode cX11_look 26 = .ok (.ifCond .ne 7, 3) := by decide +kernel
theorem dX11_look_29 : decode cX11_look 29 = .ok (.iconst 1, 1) := by decide +kernel
theorem dX11_look_30 : decode cX11_look 30 = .ok (.goto 4, 3) := by decide +kernel
theorem dX11_look_33 : decode cX11_look 33 = .ok (.iconst 0, 1) := by decide +kernel
theorem dX11_look_34 : decode cX11_look 34 = .ok (.iconst 2, 1) := by decide +kernel
theorem dX11_look_35 : decode cX11_look 35 = .ok (.invokevirtual 85, 3) := by decide +kernel
theorem dX11_look_38 : decode cX11_look 38 = .ok (.ifCond .eq 5, 3) := by decide +kernel
theorem dX11_look_41 : decode cX11_look 41 = .ok (.iconst 0, 1) := by decide +kernel
theorem dX11_look_42 : decode cX11_look 42 = .ok (.ireturn, 1) := by decide +kernel
theorem dX11_look_43 : decode cX11_look 43 = .ok (.aload_n 0, 1) := by decide +kernel
theorem dX11_look_44 : decode cX11_look 44 = .ok (.iload_n 1, 1) := by decide +kernel
theorem dX11_look_45 : decode cX11_look 45 = .ok (.iconst (-1), 1) := by decide +kernel
theorem dX11_look_46 : decode cX11_look 46 = .ok (.invokevirtual 265, 3) := by decide +kernel
theorem dX11_look_49 : decode cX11_look 49 = .ok (.iconst 0, 1) := by decide +kernel
theorem dX11_look_50 : decode cX11_look 50 = .ok (.istore_n 3, 1) := by decide +kernel
theorem dX11_look_51 : decode cX11_look 51 = .ok (.iload_n 2, 1) := by decide +kernel
theorem dX11_look_52 : decode cX11_look 52 = .ok (.ifCond .ne 8, 3) := by decide +kernel
theorem dX11_look_55 : decode cX11_look 55 = .ok (.aload_n 0, 1) := by decide +kernel
theorem dX11_look_56 : decode cX11_look 56 = .ok (.getfield 249, 3) := by decide +kernel
theorem dX11_look_59 : decode cX11_look 59 = .ok (.ireturn, 1) := by decide +kernel
theorem dX11_look_60 : decode cX11_look 60 = .ok (.iload_n 2, 1) := by decide +kernel
theorem dX11_look_61 : decode cX11_look 61 = .ok (.iconst 2, 1) := by decide +kernel
theorem dX11_look_62 : decode cX11_look 62 = .ok (.if_icmp .ne 9, 3) := by decide +kernel
theorem dX11_look_65 : decode cX11_look 65 = .ok (.aload_n 0, 1) := by decide +kernel
theorem dX11_look_66 : decode cX11_look 66 = .ok (.iload_n 1, 1) := by decide +kernel
theorem dX11_look_67 : decode cX11_look 67 = .ok (.invokevirtual 252, 3) := by decide +kernel
theorem dX11_look_70 : decode cX11_look 70 = .ok (.ireturn, 1) := by decide +kernel
theorem dX11_look_71 : decode cX11_look 71 = .ok (.iconst 0, 1) := by decide +kernel
theorem dX11_look_72 : decode cX11_look 72 = .ok (.istore 4, 2) := by decide +kernel
theorem dX11_look_74 : decode cX11_look 74 = .ok (.iload 4, 2) := by decide +kernel
theorem dX11_look_76 : decode cX11_look 76 = .ok (.aload_n 0, 1) := by decide +kernel
theorem dX11_look_77 : decode cX11_look 77 = .ok (.getfield 249, 3) := by decide +kernel
theorem dX11_look_80 : decode cX11_look 80 = .ok (.if_icmp .ge 32, 3) := by decide +kernel
theorem dX11_look_83 : decode cX11_look 83 = .ok (.iload_n 2, 1) := by decide +kernel
theorem dX11_look_84 : decode cX11_look 84 = .ok (.iconst 1, 1) := by decide +kernel
theorem dX11_look_85 : decode cX11_look 85 = .ok (.if_icmp .ne 27, 3) := by decide +kernel
theorem dX11_look_88 : decode cX11_look 88 = .ok (.iload_n 3, 1) := by decide +kernel
theorem dX11_look_89 : decode cX11_look 89 = .ok (.aload_n 0, 1) := by decide +kernel
theorem dX11_look_90 : decode cX11_look 90 = .ok (.getfield 30, 3) := by decide +kernel
theorem dX11_look_93 : decode cX11_look 93 = .ok (.iload 4, 2) := by decide +kernel
theorem dX11_look_95 : decode cX11_look 95 = .ok (.baload, 1) := by decide +kernel
theorem dX11_look_96 : decode cX11_look 96 = .ok (.ifCond .eq 7, 3) := by decide +kernel
theorem dX11_look_99 : decode cX11_look 99 = .ok (.iconst 1, 1) := by decide +kernel
theorem dX11_look_100 : decode cX11_look 100 = .ok (.goto 4, 3) := by decide +kernel
theorem dX11_look_103 : decode cX11_look 103 = .ok (.iconst 0, 1) := by decide +kernel
theorem dX11_look_104 : decode cX11_look 104 = .ok (.iadd, 1) := by decide +kernel
theorem dX11_look_105 : decode cX11_look 105 = .ok (.istore_n 3, 1) := by decide +kernel
theorem dX11_look_106 : decode cX11_look 106 = .ok (.iinc 4 1, 3) := by decide +kernel
theorem dX11_look_109 : decode cX11_look 109 = .ok (.goto (-35), 3) := by decide +kernel
theorem dX11_look_112 : decode cX11_look 112 = .ok (.iconst 0, 1) := by decide +kernel
theorem dX11_look_113 : decode cX11_look 113 = .ok (.istore 4, 2) := by decide +kernel
theorem dX11_look_115 : decode cX11_look 115 = .ok (.iload 4, 2) := by decide +kernel
theorem dX11_look_117 : decode cX11_look 117 = .ok (.iconst 4, 1) := by decide +kernel
theorem dX11_look_118 : decode cX11_look 118 = .ok (.if_icmp .ge 50, 3) := by decide +kernel
theorem dX11_look_121 : decode cX11_look 121 = .ok (.iload_n 2, 1) := by decide +kernel
theorem dX11_look_122 : decode cX11_look 122 = .ok (.iconst 1, 1) := by decide +kernel
theorem dX11_look_123 : decode cX11_look 123 = .ok (.if_icmp .le 45, 3) := by decide +kernel
theorem dX11_look_126 : decode cX11_look 126 = .ok (.iload_n 3, 1) := by decide +kernel
theorem dX11_look_127 : decode cX11_look 127 = .ok (.iload_n 2, 1) := by decide +kernel
theorem dX11_look_128 : decode cX11_look 128 = .ok (.iconst 3, 1) := by decide +kernel
theorem dX11_look_129 : decode cX11_look 129 = .ok (.if_icmp .ne 13, 3) := by decide +kernel
theorem dX11_look_132 : decode cX11_look 132 = .ok (.aload_n 0, 1) := by decide +kernel
theorem dX11_look_133 : decode cX11_look 133 = .ok (.getfield 34, 3) := by decide +kernel
theorem dX11_look_136 : decode cX11_look 136 = .ok (.iload 4, 2) := by decide +kernel
theorem dX11_look_138 : decode cX11_look 138 = .ok (.iaload, 1) := by decide +kernel
theorem dX11_look_139 : decode cX11_look 139 = .ok (.goto 10, 3) := by decide +kernel
theorem dX11_look_142 : decode cX11_look 142 = .ok (.aload_n 0, 1) := by decide +kernel
theorem dX11_look_143 : decode cX11_look 143 = .ok (.getfield 37, 3) := by decide +kernel
theorem dX11_look_146 : decode cX11_look 146 = .ok (.iload 4, 2) := by decide +kernel
theorem dX11_look_148 : decode cX11_look 148 = .ok (.iaload, 1) := by decide +kernel
theorem dX11_look_149 : decode cX11_look 149 = .ok (.ifCond .lt 10, 3) := by decide +kernel
theorem dX11_look_152 : decode cX11_look 152 = .ok (.iconst 1, 1) := by decide +kernel
theorem dX11_look_153 : decode cX11_look 153 = .ok (.iload 4, 2) := by decide +kernel
theorem dX11_look_155 : decode cX11_look 155 = .ok (.ishl, 1) := by decide +kernel
theorem dX11_look_156 : decode cX11_look 156 = .ok (.goto 4, 3) := by decide +kernel
theorem dX11_look_159 : decode cX11_look 159 = .ok (.iconst 0, 1) := by decide +kernel
theorem dX11_look_160 : decode cX11_look 160 = .ok (.ior, 1) := by decide +kernel
theorem dX11_look_161 : decode cX11_look 161 = .ok (.istore_n 3, 1) := by decide +kernel
theorem dX11_look_162 : decode cX11_look 162 = .ok (.iinc 4 1, 3) := by decide +kernel
theorem dX11_look_165 : decode cX11_look 165 = .ok (.goto (-50), 3) := by decide +kernel
theorem dX11_look_168 : decode cX11_look 168 = .ok (.iload_n 3, 1) := by decide +kernel
theorem dX11_look_169 : decode cX11_look 169 = .ok (.ireturn, 1) := by decide +kernel
theorem dX11_ofHolder_0 : decode cX11_ofHolder 0 = .ok (.aload_n 0, 1) := by decide +kernel
theorem dX11_ofHolder_1 : decode cX11_ofHolder 1 = .ok (.getfield 34, 3) := by decide +kernel
theorem dX11_ofHolder_4 : decode cX11_ofHolder 4 = .ok (.iload_n 1, 1) := by decide +kernel
theorem dX11_ofHolder_5 : decode cX11_ofHolder 5 = .ok (.iaload, 1) := by decide +kernel
theorem dX11_ofHolder_6 : decode cX11_ofHolder 6 = .ok (.ifCond .lt 17, 3) := by decide +kernel
theorem dX11_ofHolder_9 : decode cX11_ofHolder 9 = .ok (.aload_n 0, 1) := by decide +kernel
theorem dX11_ofHolder_10 : decode cX11_ofHolder 10 = .ok (.aload_n 0, 1) := by decide +kernel
theorem dX11_ofHolder_11 : decode cX11_ofHolder 11 = .ok (.getfield 34, 3) := by decide +kernel
theorem dX11_ofHolder_14 : decode cX11_ofHolder 14 = .ok (.iload_n 1, 1) := by decide +kernel
theorem dX11_ofHolder_15 : decode cX11_ofHolder 15 = .ok (.iaload, 1) := by decide +kernel
theorem dX11_ofHolder_16 : decode cX11_ofHolder 16 = .ok (.iconst 0, 1) := by decide +kernel
theorem dX11_ofHolder_17 : decode cX11_ofHolder 17 = .ok (.invokevirtual 262, 3) := by decide +kernel
theorem dX11_ofHolder_20 : decode cX11_ofHolder 20 = .ok (.ifCond .eq 7, 3) := by decide +kernel
theorem dX11_ofHolder_23 : decode cX11_ofHolder 23 = .ok (.iconst 0, 1) := by decide +kernel
theorem dX11_ofHolder_24 : decode cX11_ofHolder 24 = .ok (.goto 21, 3) := by decide +kernel
theorem dX11_ofHolder_27 : decode cX11_ofHolder 27 = .ok (.aload_n 0, 1) := by decide +kernel
theorem dX11_ofHolder_28 : decode cX11_ofHolder 28 = .ok (.getfield 13, 3) := by decide +kernel
theorem dX11_ofHolder_31 : decode cX11_ofHolder 31 = .ok (.bipush 12, 2) := by decide +kernel
theorem dX11_ofHolder_33 : decode cX11_ofHolder 33 = .ok (.iconst 2, 1) := by decide +kernel
theorem dX11_ofHolder_34 : decode cX11_ofHolder 34 = .ok (.aload_n 0, 1) := by decide +kernel
theorem dX11_ofHolder_35 : decode cX11_ofHolder 35 = .ok (.getfield 34, 3) := by decide +kernel
theorem dX11_ofHolder_38 : decode cX11_ofHolder 38 = .ok (.iload_n 1, 1) := by decide +kernel
theorem dX11_ofHolder_39 : decode cX11_ofHolder 39 = .ok (.iaload, 1) := by decide +kernel
theorem dX11_ofHolder_40 : decode cX11_ofHolder 40 = .ok (.imul, 1) := by decide +kernel
theorem dX11_ofHolder_41 : decode cX11_ofHolder 41 = .ok (.iadd, 1) := by decide +kernel
theorem dX11_ofHolder_42 : decode cX11_ofHolder 42 = .ok (.iload_n 2, 1) := by decide +kernel
theorem dX11_ofHolder_43 : decode cX11_ofHolder 43 = .ok (.iadd, 1) := by decide +kernel
theorem dX11_ofHolder_44 : decode cX11_ofHolder 44 = .ok (.iaload, 1) := by decide +kernel
theorem dX11_ofHolder_45 : decode cX11_ofHolder 45 = .ok (.ireturn, 1) := by decide +kernel
theorem dX11_asked_0 : decode cX11_asked 0 = .ok (.iload_n 1, 1) := by decide +kernel
theorem dX11_asked_1 : decode cX11_asked 1 = .ok (.tableswitch 181 0 10 #[59, 61, 67, 74, 97, 116, 123, 143, 162, 181, 95], 59) := by decide +kernel
theorem dX11_asked_60 : decode cX11_asked 60 = .ok (.iload_n 3, 1) := by decide +kernel
theorem dX11_asked_61 : decode cX11_asked 61 = .ok (.ireturn, 1) := by decide +kernel
theorem dX11_asked_62 : decode cX11_asked 62 = .ok (.iload 4, 2) := by decide +kernel
theorem dX11_asked_64 : decode cX11_asked 64 = .ok (.invokestatic 268, 3) := by decide +kernel
theorem dX11_asked_67 : decode cX11_asked 67 = .ok (.ireturn, 1) := by decide +kernel
theorem dX11_asked_68 : decode cX11_asked 68 = .ok (.aload_n 0, 1) := by decide +kernel
theorem dX11_asked_69 : decode cX11_asked 69 = .ok (.iload_n 2, 1) := by decide +kernel
theorem dX11_asked_70 : decode cX11_asked 70 = .ok (.iconst 0, 1) := by decide +kernel
theorem dX11_asked_71 : decode cX11_asked 71 = .ok (.invokevirtual 273, 3) := by decide +kernel
theorem dX11_asked_74 : decode cX11_asked 74 = .ok (.ireturn, 1) := by decide +kernel
theorem dX11_asked_75 : decode cX11_asked 75 = .ok (.aload_n 0, 1) := by decide +kernel
theorem dX11_asked_76 : decode cX11_asked 76 = .ok (.getfield 37, 3) := by decide +kernel
theorem dX11_asked_79 : decode cX11_asked 79 = .ok (.iload_n 2, 1) := by decide +kernel
theorem dX11_asked_80 : decode cX11_asked 80 = .ok (.iaload, 1) := by decide +kernel
theorem dX11_asked_81 : decode cX11_asked 81 = .ok (.ifCond .ge 8, 3) := by decide +kernel
theorem dX11_asked_84 : decode cX11_asked 84 = .ok (.bipush 99, 2) := by decide +kernel
theorem dX11_asked_86 : decode cX11_asked 86 = .ok (.goto 9, 3) := by decide +kernel
theorem dX11_asked_89 : decode cX11_asked 89 = .ok (.aload_n 0, 1) := by decide +kernel
theorem dX11_asked_90 : decode cX11_asked 90 = .ok (.getfield 37, 3) := by decide +kernel
theorem dX11_asked_93 : decode cX11_asked 93 = .ok (.iload_n 2, 1) := by decide +kernel
theorem dX11_asked_94 : decode cX11_asked 94 = .ok (.iaload, 1) := by decide +kernel
theorem dX11_asked_95 : decode cX11_asked 95 = .ok (.ireturn, 1) := by decide +kernel
theorem dX11_asked_96 : decode cX11_asked 96 = .ok (.iload_n 2, 1) := by decide +kernel
theorem dX11_asked_97 : decode cX11_asked 97 = .ok (.ireturn, 1) := by decide +kernel
theorem dX11_asked_98 : decode cX11_asked 98 = .ok (.aload_n 0, 1) := by decide +kernel
theorem dX11_asked_99 : decode cX11_asked 99 = .ok (.getfield 30, 3) := by decide +kernel
theorem dX11_asked_102 : decode cX11_asked 102 = .ok (.iload_n 3, 1) := by decide +kernel
theorem dX11_asked_103 : decode cX11_asked 103 = .ok (.baload, 1) := by decide +kernel
theorem dX11_asked_104 : decode cX11_asked 104 = .ok (.ifCond .ne 7, 3) := by decide +kernel
theorem dX11_asked_107 : decode cX11_asked 107 = .ok (.iconst 1, 1) := by decide +kernel
theorem dX11_asked_108 : decode cX11_asked 108 = .ok (.goto 4, 3) := by decide +kernel
theorem dX11_asked_111 : decode cX11_asked 111 = .ok (.iconst 0, 1) := by decide +kernel
theorem dX11_asked_112 : decode cX11_asked 112 = .ok (.istore 6, 2) := by decide +kernel
theorem dX11_asked_114 : decode cX11_asked 114 = .ok (.goto 94, 3) := by decide +kernel
theorem dX11_asked_117 : decode cX11_asked 117 = .ok (.iload 5, 2) := by decide +kernel
theorem dX11_asked_119 : decode cX11_asked 119 = .ok (.istore 6, 2) := by decide +kernel
theorem dX11_asked_121 : decode cX11_asked 121 = .ok (.goto 87, 3) := by decide +kernel
theorem dX11_asked_124 : decode cX11_asked 124 = .ok (.iload 4, 2) := by decide +kernel
theorem dX11_asked_126 : decode cX11_asked 126 = .ok (.iload_n 2, 1) := by decide +kernel
theorem dX11_asked_127 : decode cX11_asked 127 = .ok (.ishr, 1) := by decide +kernel
theorem dX11_asked_128 : decode cX11_asked 128 = .ok (.iconst 1, 1) := by decide +kernel
theorem dX11_asked_129 : decode cX11_asked 129 = .ok (.iand, 1) := by decide +kernel
theorem dX11_asked_130 : decode cX11_asked 130 = .ok (.iconst 1, 1) := by decide +kernel
theorem dX11_asked_131 : decode cX11_asked 131 = .ok (.if_icmp .ne 7, 3) := by decide +kernel
theorem dX11_asked_134 : decode cX11_asked 134 = .ok (.iconst 1, 1) := by decide +kernel
theorem dX11_asked_135 : decode cX11_asked 135 = .ok (.goto 4, 3) := by decide +kernel
theorem dX11_asked_138 : decode cX11_asked 138 = .ok (.iconst 0, 1) := by decide +kernel
theorem dX11_asked_139 : decode cX11_asked 139 = .ok (.istore 6, 2) := by decide +kernel
theorem dX11_asked_141 : decode cX11_asked 141 = .ok (.goto 67, 3) := by decide +kernel
theorem dX11_asked_144 : decode cX11_asked 144 = .ok (.aload_n 0, 1) := by decide +kernel
theorem dX11_asked_145 : decode cX11_asked 145 = .ok (.getfield 34, 3) := by decide +kernel
theorem dX11_asked_148 : decode cX11_asked 148 = .ok (.iload_n 2, 1) := by decide +kernel
theorem dX11_asked_149 : decode cX11_asked 149 = .ok (.iaload, 1) := by decide +kernel
theorem dX11_asked_150 : decode cX11_asked 150 = .ok (.ifCond .lt 7, 3) := by decide +kernel
theorem dX11_asked_153 : decode cX11_asked 153 = .ok (.iconst 1, 1) := by decide +kernel
theorem dX11_asked_154 : decode cX11_asked 154 = .ok (.goto 4, 3) := by decide +kernel
theorem dX11_asked_157 : decode cX11_asked 157 = .ok (.iconst 0, 1) := by decide +kernel
theorem dX11_asked_158 : decode cX11_asked 158 = .ok (.istore 6, 2) := by decide +kernel
theorem dX11_asked_160 : decode cX11_asked 160 = .ok (.goto 48, 3) := by decide +kernel
theorem dX11_asked_163 : decode cX11_asked 163 = .ok (.aload_n 0, 1) := by decide +kernel
theorem dX11_asked_164 : decode cX11_asked 164 = .ok (.getfield 37, 3) := by decide +kernel
theorem dX11_asked_167 : decode cX11_asked 167 = .ok (.iload_n 2, 1) := by decide +kernel
theorem dX11_asked_168 : decode cX11_asked 168 = .ok (.iaload, 1) := by decide +kernel
theorem dX11_asked_169 : decode cX11_asked 169 = .ok (.ifCond .lt 7, 3) := by decide +kernel
theorem dX11_asked_172 : decode cX11_asked 172 = .ok (.iconst 1, 1) := by decide +kernel
theorem dX11_asked_173 : decode cX11_asked 173 = .ok (.goto 4, 3) := by decide +kernel
theorem dX11_asked_176 : decode cX11_asked 176 = .ok (.iconst 0, 1) := by decide +kernel
theorem dX11_asked_177 : decode cX11_asked 177 = .ok (.istore 6, 2) := by decide +kernel
theorem dX11_asked_179 : decode cX11_asked 179 = .ok (.goto 29, 3) := by decide +kernel
theorem dX11_asked_182 : decode cX11_asked 182 = .ok (.aload_n 0, 1) := by decide +kernel
theorem dX11_asked_183 : decode cX11_asked 183 = .ok (.getfield 34, 3) := by decide +kernel
theorem dX11_asked_186 : decode cX11_asked 186 = .ok (.iload_n 2, 1) := by decide +kernel
theorem dX11_asked_187 : decode cX11_asked 187 = .ok (.iaload, 1) := by decide +kernel
theorem dX11_asked_188 : decode cX11_asked 188 = .ok (.ifCond .lt 17, 3) := by decide +kernel
theorem dX11_asked_191 : decode cX11_asked 191 = .ok (.aload_n 0, 1) := by decide +kernel
theorem dX11_asked_192 : decode cX11_asked 192 = .ok (.iload_n 2, 1) := by decide +kernel
theorem dX11_asked_193 : decode cX11_asked 193 = .ok (.iconst 1, 1) := by decide +kernel
theorem dX11_asked_194 : decode cX11_asked 194 = .ok (.invokevirtual 273, 3) := by decide +kernel
theorem dX11_asked_197 : decode cX11_asked 197 = .ok (.iload_n 3, 1) := by decide +kernel
theorem dX11_asked_198 : decode cX11_asked 198 = .ok (.if_icmp .gt 7, 3) := by decide +kernel
theorem dX11_asked_201 : decode cX11_asked 201 = .ok (.iconst 1, 1) := by decide +kernel
theorem dX11_asked_202 : decode cX11_asked 202 = .ok (.goto 4, 3) := by decide +kernel
theorem dX11_asked_205 : decode cX11_asked 205 = .ok (.iconst 0, 1) := by decide +kernel
theorem dX11_asked_206 : decode cX11_asked 206 = .ok (.istore 6, 2) := by decide +kernel
theorem dX11_asked_208 : decode cX11_asked 208 = .ok (.iload 6, 2) := by decide +kernel
theorem dX11_asked_210 : decode cX11_asked 210 = .ok (.ifCond .eq 7, 3) := by decide +kernel
theorem dX11_asked_213 : decode cX11_asked 213 = .ok (.iconst 1, 1) := by decide +kernel
theorem dX11_asked_214 : decode cX11_asked 214 = .ok (.goto 4, 3) := by decide +kernel
theorem dX11_asked_217 : decode cX11_asked 217 = .ok (.iconst 0, 1) := by decide +kernel
theorem dX11_asked_218 : decode cX11_asked 218 = .ok (.ireturn, 1) := by decide +kernel
theorem dX11_holdsLine_0 : decode cX11_holdsLine 0 = .ok (.iconst 0, 1) := by decide +kernel
theorem dX11_holdsLine_1 : decode cX11_holdsLine 1 = .ok (.istore 6, 2) := by decide +kernel
theorem dX11_holdsLine_3 : decode cX11_holdsLine 3 = .ok (.aload_n 0, 1) := by decide +kernel
theorem dX11_holdsLine_4 : decode cX11_holdsLine 4 = .ok (.iload_n 1, 1) := by decide +kernel
theorem dX11_holdsLine_5 : decode cX11_holdsLine 5 = .ok (.iload_n 2, 1) := by decide +kernel
theorem dX11_holdsLine_6 : decode cX11_holdsLine 6 = .ok (.iconst 3, 1) := by decide +kernel
theorem dX11_holdsLine_7 : decode cX11_holdsLine 7 = .ok (.invokevirtual 255, 3) := by decide +kernel
theorem dX11_holdsLine_10 : decode cX11_holdsLine 10 = .ok (.istore 7, 2) := by decide +kernel
theorem dX11_holdsLine_12 : decode cX11_holdsLine 12 = .ok (.iload 7, 2) := by decide +kernel
theorem dX11_holdsLine_14 : decode cX11_holdsLine 14 = .ok (.aload_n 0, 1) := by decide +kernel
theorem dX11_holdsLine_15 : decode cX11_holdsLine 15 = .ok (.iload_n 1, 1) := by decide +kernel
theorem dX11_holdsLine_16 : decode cX11_holdsLine 16 = .ok (.iload_n 2, 1) := by decide +kernel
theorem dX11_holdsLine_17 : decode cX11_holdsLine 17 = .ok (.iconst 4, 1) := by decide +kernel
theorem dX11_holdsLine_18 : decode cX11_holdsLine 18 = .ok (.invokevirtual 255, 3) := by decide +kernel
theorem dX11_holdsLine_21 : decode cX11_holdsLine 21 = .ok (.if_icmp .ge 248, 3) := by decide +kernel
theorem dX11_holdsLine_24 : decode cX11_holdsLine 24 = .ok (.aload_n 0, 1) := by decide +kernel
theorem dX11_holdsLine_25 : decode cX11_holdsLine 25 = .ok (.getfield 13, 3) := by decide +kernel
theorem dX11_holdsLine_28 : decode cX11_holdsLine 28 = .ok (.iload_n 1, 1) := by decide +kernel
theorem dX11_holdsLine_29 : decode cX11_holdsLine 29 = .ok (.invokestatic 132, 3) := by decide +kernel
theorem dX11_holdsLine_32 : decode cX11_holdsLine 32 = .ok (.bipush 51, 2) := by decide +kernel
theorem dX11_holdsLine_34 : decode cX11_holdsLine 34 = .ok (.iadd, 1) := by decide +kernel
theorem dX11_holdsLine_35 : decode cX11_holdsLine 35 = .ok (.iconst 2, 1) := by decide +kernel
theorem dX11_holdsLine_36 : decode cX11_holdsLine 36 = .ok (.iload 7, 2) := by decide +kernel
theorem dX11_holdsLine_38 : decode cX11_holdsLine 38 = .ok (.imul, 1) := by decide +kernel
theorem dX11_holdsLine_39 : decode cX11_holdsLine 39 = .ok (.iadd, 1) := by decide +kernel
theorem dX11_holdsLine_40 : decode cX11_holdsLine 40 = .ok (.iaload, 1) := by decide +kernel
theorem dX11_holdsLine_41 : decode cX11_holdsLine 41 = .ok (.istore 8, 2) := by decide +kernel
theorem dX11_holdsLine_43 : decode cX11_holdsLine 43 = .ok (.iload 8, 2) := by decide +kernel
theorem dX11_holdsLine_45 : decode cX11_holdsLine 45 = .ok (.bipush 10, 2) := by decide +kernel
theorem dX11_holdsLine_47 : decode cX11_holdsLine 47 = .ok (.if_icmp .gt 46, 3) := by decide +kernel
theorem dX11_holdsLine_50 : decode cX11_holdsLine 50 = .ok (.aload_n 0, 1) := by decide +kernel
theorem dX11_holdsLine_51 : decode cX11_holdsLine 51 = .ok (.getfield 40, 3) := by decide +kernel
theorem dX11_holdsLine_54 : decode cX11_holdsLine 54 = .ok (.iload 6, 2) := by decide +kernel
theorem dX11_holdsLine_56 : decode cX11_holdsLine 56 = .ok (.aload_n 0, 1) := by decide +kernel
theorem dX11_holdsLine_57 : decode cX11_holdsLine 57 = .ok (.iload 8, 2) := by decide +kernel
theorem dX11_holdsLine_59 : decode cX11_holdsLine 59 = .ok (.aload_n 0, 1) := by decide +kernel
theorem dX11_holdsLine_60 : decode cX11_holdsLine 60 = .ok (.getfield 13, 3) := by decide +kernel
theorem dX11_holdsLine_63 : decode cX11_holdsLine 63 = .ok (.iload_n 1, 1) := by decide +kernel
theorem dX11_holdsLine_64 : decode cX11_holdsLine 64 = .ok (.invokestatic 132, 3) := by decide +kernel
theorem dX11_holdsLine_67 : decode cX11_holdsLine 67 = .ok (.bipush 51, 2) := by decide +kernel
theorem dX11_holdsLine_69 : decode cX11_holdsLine 69 = .ok (.iadd, 1) := by decide +kernel
theorem dX11_holdsLine_70 : decode cX11_holdsLine 70 = .ok (.iconst 2, 1) := by decide +kernel
theorem dX11_holdsLine_71 : decode cX11_holdsLine 71 = .ok (.iload 7, 2) := by decide +kernel
theorem dX11_holdsLine_73 : decode cX11_holdsLine 73 = .ok (.imul, 1) := by decide +kernel
theorem dX11_holdsLine_74 : decode cX11_holdsLine 74 = .ok (.iadd, 1) := by decide +kernel
theorem dX11_holdsLine_75 : decode cX11_holdsLine 75 = .ok (.iconst 1, 1) := by decide +kernel
theorem dX11_holdsLine_76 : decode cX11_holdsLine 76 = .ok (.iadd, 1) := by decide +kernel
theorem dX11_holdsLine_77 : decode cX11_holdsLine 77 = .ok (.iaload, 1) := by decide +kernel
theorem dX11_holdsLine_78 : decode cX11_holdsLine 78 = .ok (.iload_n 3, 1) := by decide +kernel
theorem dX11_holdsLine_79 : decode cX11_holdsLine 79 = .ok (.iload 4, 2) := by decide +kernel
theorem dX11_holdsLine_81 : decode cX11_holdsLine 81 = .ok (.iload 5, 2) := by decide +kernel
theorem dX11_holdsLine_83 : decode cX11_holdsLine 83 = .ok (.invokevirtual 276, 3) := by decide +kernel
theorem dX11_holdsLine_86 : decode cX11_holdsLine 86 = .ok (.iastore, 1) := by decide +kernel
theorem dX11_holdsLine_87 : decode cX11_holdsLine 87 = .ok (.iinc 6 1, 3) := by decide +kernel
theorem dX11_holdsLine_90 : decode cX11_holdsLine 90 = .ok (.goto 173, 3) := by decide +kernel
theorem dX11_holdsLine_93 : decode cX11_holdsLine 93 = .ok (.iload 8, 2) := by decide +kernel
theorem dX11_holdsLine_95 : decode cX11_holdsLine 95 = .ok (.bipush 14, 2) := by decide +kernel
theorem dX11_holdsLine_97 : decode cX11_holdsLine 97 = .ok (.if_icmp .ne 26, 3) := by decide +kernel
theorem dX11_holdsLine_100 : decode cX11_holdsLine 100 = .ok (.aload_n 0, 1) := by decide +kernel
theorem dX11_holdsLine_101 : decode cX11_holdsLine 101 = .ok (.getfield 40, 3) := by decide +kernel
theorem dX11_holdsLine_104 : decode cX11_holdsLine 104 = .ok (.iload 6, 2) := by decide +kernel
theorem dX11_holdsLine_106 : decode cX11_holdsLine 106 = .ok (.iconst 1, 1) := by decide +kernel
theorem dX11_holdsLine_107 : decode cX11_holdsLine 107 = .ok (.isub, 1) := by decide +kernel
theorem dX11_holdsLine_108 : decode cX11_holdsLine 108 = .ok (.iconst 1, 1) := by decide +kernel
theorem dX11_holdsLine_109 : decode cX11_holdsLine 109 = .ok (.aload_n 0, 1) := by decide +kernel
theorem dX11_holdsLine_110 : decode cX11_holdsLine 110 = .ok (.getfield 40, 3) := by decide +kernel
theorem dX11_holdsLine_113 : decode cX11_holdsLine 113 = .ok (.iload 6, 2) := by decide +kernel
theorem dX11_holdsLine_115 : decode cX11_holdsLine 115 = .ok (.iconst 1, 1) := by decide +kernel
theorem dX11_holdsLine_116 : decode cX11_holdsLine 116 = .ok (.isub, 1) := by decide +kernel
theorem dX11_holdsLine_117 : decode cX11_holdsLine 117 = .ok (.iaload, 1) := by decide +kernel
theorem dX11_holdsLine_118 : decode cX11_holdsLine 118 = .ok (.isub, 1) := by decide +kernel
theorem dX11_holdsLine_119 : decode cX11_holdsLine 119 = .ok (.iastore, 1) := by decide +kernel
theorem dX11_holdsLine_120 : decode cX11_holdsLine 120 = .ok (.goto 143, 3) := by decide +kernel
theorem dX11_holdsLine_123 : decode cX11_holdsLine 123 = .ok (.iinc 6 (-1), 3) := by decide +kernel
theorem dX11_holdsLine_126 : decode cX11_holdsLine 126 = .ok (.aload_n 0, 1) := by decide +kernel
theorem dX11_holdsLine_127 : decode cX11_holdsLine 127 = .ok (.getfield 40, 3) := by decide +kernel
theorem dX11_holdsLine_130 : decode cX11_holdsLine 130 = .ok (.iload 6, 2) := by decide +kernel
theorem dX11_holdsLine_132 : decode cX11_holdsLine 132 = .ok (.iconst 1, 1) := by decide +kernel
theorem dX11_holdsLine_133 : decode cX11_holdsLine 133 = .ok (.isub, 1) := by decide +kernel
theorem dX11_holdsLine_134 : decode cX11_holdsLine 134 = .ok (.iaload, 1) := by decide +kernel
theorem dX11_holdsLine_135 : decode cX11_holdsLine 135 = .ok (.istore 9, 2) := by decide +kernel
theorem dX11_holdsLine_137 : decode cX11_holdsLine 137 = .ok (.aload_n 0, 1) := by decide +kernel
theorem dX11_holdsLine_138 : decode cX11_holdsLine 138 = .ok (.getfield 40, 3) := by decide +kernel
theorem dX11_holdsLine_141 : decode cX11_holdsLine 141 = .ok (.iload 6, 2) := by decide +kernel
theorem dX11_holdsLine_143 : decode cX11_holdsLine 143 = .ok (.iaload, 1) := by decide +kernel
theorem dX11_holdsLine_144 : decode cX11_holdsLine 144 = .ok (.istore 10, 2) := by decide +kernel
theorem dX11_holdsLine_146 : decode cX11_holdsLine 146 = .ok (.iload 8, 2) := by decide +kernel
theorem dX11_holdsLine_148 : decode cX11_holdsLine 148 = .ok (.bipush 12, 2) := by decide +kernel
theorem dX11_holdsLine_150 : decode cX11_holdsLine 150 = .ok (.if_icmp .ne 18, 3) := by decide +kernel
theorem dX11_holdsLine_153 : decode cX11_holdsLine 153 = .ok (.iload 9, 2) := by decide +kernel
theorem dX11_holdsLine_155 : decode cX11_holdsLine 155 = .ok (.iload 10, 2) := by decide +kernel
theorem dX11_holdsLine_157 : decode cX11_holdsLine 157 = .ok (.if_icmp .ge 7, 3) := by decide +kernel
theorem dX11_holdsLine_160 : decode cX11_holdsLine 160 = .ok (.iconst 1, 1) := by decide +kernel
theorem dX11_holdsLine_161 : decode cX11_holdsLine 161 = .ok (.goto 66, 3) := by decide +kernel
theorem dX11_holdsLine_164 : decode cX11_holdsLine 164 = .ok (.iconst 0, 1) := by decide +kernel
theorem dX11_holdsLine_165 : decode cX11_holdsLine 165 = .ok (.goto 62, 3) := by decide +kernel
theorem dX11_holdsLine_168 : decode cX11_holdsLine 168 = .ok (.iload 8, 2) := by decide +kernel
theorem dX11_holdsLine_170 : decode cX11_holdsLine 170 = .ok (.bipush 13, 2) := by decide +kernel
theorem dX11_holdsLine_172 : decode cX11_holdsLine 172 = .ok (.if_icmp .ne 18, 3) := by decide +kernel
theorem dX11_holdsLine_175 : decode cX11_holdsLine 175 = .ok (.iload 9, 2) := by decide +kernel
theorem dX11_holdsLine_177 : decode cX11_holdsLine 177 = .ok (.iload 10, 2) := by decide +kernel
theorem dX11_holdsLine_179 : decode cX11_holdsLine 179 = .ok (.if_icmp .le 7, 3) := by decide +kernel
theorem dX11_holdsLine_182 : decode cX11_holdsLine 182 = .ok (.iconst 1, 1) := by decide +kernel
theorem dX11_holdsLine_183 : decode cX11_holdsLine 183 = .ok (.goto 44, 3) := by decide +kernel
theorem dX11_holdsLine_186 : decode cX11_holdsLine 186 = .ok (.iconst 0, 1) := by decide +kernel
theorem dX11_holdsLine_187 : decode cX11_holdsLine 187 = .ok (.goto 40, 3) := by decide +kernel
theorem dX11_holdsLine_190 : decode cX11_holdsLine 190 = .ok (.iload 8, 2) := by decide +kernel
theorem dX11_holdsLine_192 : decode cX11_holdsLine 192 = .ok (.bipush 15, 2) := by decide +kernel
theorem dX11_holdsLine_194 : decode cX11_holdsLine 194 = .ok (.if_icmp .ne 20, 3) := by decide +kernel
theorem dX11_holdsLine_197 : decode cX11_holdsLine 197 = .ok (.iload 9, 2) := by decide +kernel
theorem dX11_holdsLine_199 : decode cX11_holdsLine 199 = .ok (.iload 10, 2) := by decide +kernel
theorem dX11_holdsLine_201 : decode cX11_holdsLine 201 = .ok (.iadd, 1) := by decide +kernel
theorem dX11_holdsLine_202 : decode cX11_holdsLine 202 = .ok (.iconst 2, 1) := by decide +kernel
theorem dX11_holdsLine_203 : decode cX11_holdsLine 203 = .ok (.if_icmp .ne 7, 3) := by decide +kernel
theorem dX11_holdsLine_206 : decode cX11_holdsLine 206 = .ok (.iconst 1, 1) := by decide +kernel
theorem dX11_holdsLine_207 : decode cX11_holdsLine 207 = .ok (.goto 20, 3) := by decide +kernel
theorem dX11_holdsLine_210 : decode cX11_holdsLine 210 = .ok (.iconst 0, 1) := by decide +kernel
theorem dX11_holdsLine_211 : decode cX11_holdsLine 211 = .ok (.goto 16, 3) := by decide +kernel
theorem dX11_holdsLine_214 : decode cX11_holdsLine 214 = .ok (.iload 9, 2) := by decide +kernel
theorem dX11_holdsLine_216 : decode cX11_holdsLine 216 = .ok (.iload 10, 2) := by decide +kernel
theorem dX11_holdsLine_218 : decode cX11_holdsLine 218 = .ok (.iadd, 1) := by decide +kernel
theorem dX11_holdsLine_219 : decode cX11_holdsLine 219 = .ok (.ifCond .le 7, 3) := by decide +kernel
theorem dX11_holdsLine_222 : decode cX11_holdsLine 222 = .ok (.iconst 1, 1) := by decide +kernel
theorem dX11_holdsLine_223 : decode cX11_holdsLine 223 = .ok (.goto 4, 3) := by decide +kernel
theorem dX11_holdsLine_226 : decode cX11_holdsLine 226 = .ok (.iconst 0, 1) := by decide +kernel
theorem dX11_holdsLine_227 : decode cX11_holdsLine 227 = .ok (.istore 11, 2) := by decide +kernel
theorem dX11_holdsLine_229 : decode cX11_holdsLine 229 = .ok (.aload_n 0, 1) := by decide +kernel
theorem dX11_holdsLine_230 : decode cX11_holdsLine 230 = .ok (.getfield 40, 3) := by decide +kernel
theorem dX11_holdsLine_233 : decode cX11_holdsLine 233 = .ok (.iload 6, 2) := by decide +kernel
theorem dX11_holdsLine_235 : decode cX11_holdsLine 235 = .ok (.iconst 1, 1) := by decide +kernel
theorem dX11_holdsLine_236 : decode cX11_holdsLine 236 = .ok (.isub, 1) := by decide +kernel
theorem dX11_holdsLine_237 : decode cX11_holdsLine 237 = .ok (.iload 8, 2) := by decide +kernel
theorem dX11_holdsLine_239 : decode cX11_holdsLine 239 = .ok (.bipush 11, 2) := by decide +kernel
theorem dX11_holdsLine_241 : decode cX11_holdsLine 241 = .ok (.if_icmp .ne 11, 3) := by decide +kernel
theorem dX11_holdsLine_244 : decode cX11_holdsLine 244 = .ok (.iload 9, 2) := by decide +kernel
theorem dX11_holdsLine_246 : decode cX11_holdsLine 246 = .ok (.iload 10, 2) := by decide +kernel
theorem dX11_holdsLine_248 : decode cX11_holdsLine 248 = .ok (.iadd, 1) := by decide +kernel
theorem dX11_holdsLine_249 : decode cX11_holdsLine 249 = .ok (.goto 13, 3) := by decide +kernel
theorem dX11_holdsLine_252 : decode cX11_holdsLine 252 = .ok (.iload 11, 2) := by decide +kernel
theorem dX11_holdsLine_254 : decode cX11_holdsLine 254 = .ok (.ifCond .eq 7, 3) := by decide +kernel
theorem dX11_holdsLine_257 : decode cX11_holdsLine 257 = .ok (.iconst 1, 1) := by decide +kernel
theorem dX11_holdsLine_258 : decode cX11_holdsLine 258 = .ok (.goto 4, 3) := by decide +kernel
theorem dX11_holdsLine_261 : decode cX11_holdsLine 261 = .ok (.iconst 0, 1) := by decide +kernel
theorem dX11_holdsLine_262 : decode cX11_holdsLine 262 = .ok (.iastore, 1) := by decide +kernel
theorem dX11_holdsLine_263 : decode cX11_holdsLine 263 = .ok (.iinc 7 1, 3) := by decide +kernel
theorem dX11_holdsLine_266 : decode cX11_holdsLine 266 = .ok (.goto (-254), 3) := by decide +kernel
theorem dX11_holdsLine_269 : decode cX11_holdsLine 269 = .ok (.aload_n 0, 1) := by decide +kernel
theorem dX11_holdsLine_270 : decode cX11_holdsLine 270 = .ok (.getfield 40, 3) := by decide +kernel
theorem dX11_holdsLine_273 : decode cX11_holdsLine 273 = .ok (.iconst 0, 1) := by decide +kernel
theorem dX11_holdsLine_274 : decode cX11_holdsLine 274 = .ok (.iaload, 1) := by decide +kernel
theorem dX11_holdsLine_275 : decode cX11_holdsLine 275 = .ok (.iconst 1, 1) := by decide +kernel
theorem dX11_holdsLine_276 : decode cX11_holdsLine 276 = .ok (.if_icmp .ne 7, 3) := by decide +kernel
theorem dX11_holdsLine_279 : decode cX11_holdsLine 279 = .ok (.iconst 1, 1) := by decide +kernel
theorem dX11_holdsLine_280 : decode cX11_holdsLine 280 = .ok (.goto 4, 3) := by decide +kernel
theorem dX11_holdsLine_283 : decode cX11_holdsLine 283 = .ok (.iconst 0, 1) := by decide +kernel
theorem dX11_holdsLine_284 : decode cX11_holdsLine 284 = .ok (.ireturn, 1) := by decide +kernel
theorem dX11_holdsAll_0 : decode cX11_holdsAll 0 = .ok (.iconst 4, 1) := by decide +kernel
theorem dX11_holdsAll_1 : decode cX11_holdsAll 1 = .ok (.iload_n 1, 1) := by decide +kernel
theorem dX11_holdsAll_2 : decode cX11_holdsAll 2 = .ok (.iadd, 1) := by decide +kernel
theorem dX11_holdsAll_3 : decode cX11_holdsAll 3 = .ok (.istore 5, 2) := by decide +kernel
theorem dX11_holdsAll_5 : decode cX11_holdsAll 5 = .ok (.iconst 1, 1) := by decide +kernel
theorem dX11_holdsAll_6 : decode cX11_holdsAll 6 = .ok (.istore 6, 2) := by decide +kernel
theorem dX11_holdsAll_8 : decode cX11_holdsAll 8 = .ok (.iconst 0, 1) := by decide +kernel
theorem dX11_holdsAll_9 : decode cX11_holdsAll 9 = .ok (.istore 7, 2) := by decide +kernel
theorem dX11_holdsAll_11 : decode cX11_holdsAll 11 = .ok (.iload 7, 2) := by decide +kernel
theorem dX11_holdsAll_13 : decode cX11_holdsAll 13 = .ok (.aload_n 0, 1) := by decide +kernel
theorem dX11_holdsAll_14 : decode cX11_holdsAll 14 = .ok (.iload 5, 2) := by decide +kernel
theorem dX11_holdsAll_16 : decode cX11_holdsAll 16 = .ok (.invokevirtual 252, 3) := by decide +kernel
theorem dX11_holdsAll_19 : decode cX11_holdsAll 19 = .ok (.if_icmp .ge 48, 3) := by decide +kernel
theorem dX11_holdsAll_22 : decode cX11_holdsAll 22 = .ok (.iload 6, 2) := by decide +kernel
theorem dX11_holdsAll_24 : decode cX11_holdsAll 24 = .ok (.ifCond .eq 43, 3) := by decide +kernel
theorem dX11_holdsAll_27 : decode cX11_holdsAll 27 = .ok (.aload_n 0, 1) := by decide +kernel
theorem dX11_holdsAll_28 : decode cX11_holdsAll 28 = .ok (.iload 5, 2) := by decide +kernel
theorem dX11_holdsAll_30 : decode cX11_holdsAll 30 = .ok (.iload 7, 2) := by decide +kernel
theorem dX11_holdsAll_32 : decode cX11_holdsAll 32 = .ok (.invokevirtual 259, 3) := by decide +kernel
theorem dX11_holdsAll_35 : decode cX11_holdsAll 35 = .ok (.iconst 3, 1) := by decide +kernel
theorem dX11_holdsAll_36 : decode cX11_holdsAll 36 = .ok (.if_icmp .ne 18, 3) := by decide +kernel
theorem dX11_holdsAll_39 : decode cX11_holdsAll 39 = .ok (.aload_n 0, 1) := by decide +kernel
theorem dX11_holdsAll_40 : decode cX11_holdsAll 40 = .ok (.iload 5, 2) := by decide +kernel
theorem dX11_holdsAll_42 : decode cX11_holdsAll 42 = .ok (.iload 7, 2) := by decide +kernel
theorem dX11_holdsAll_44 : decode cX11_holdsAll 44 = .ok (.iload_n 2, 1) := by decide +kernel
theorem dX11_holdsAll_45 : decode cX11_holdsAll 45 = .ok (.iload_n 3, 1) := by decide +kernel
theorem dX11_holdsAll_46 : decode cX11_holdsAll 46 = .ok (.iload 4, 2) := by decide +kernel
theorem dX11_holdsAll_48 : decode cX11_holdsAll 48 = .ok (.invokevirtual 280, 3) := by decide +kernel
theorem dX11_holdsAll_51 : decode cX11_holdsAll 51 = .ok (.ifCond .eq 7, 3) := by decide +kernel
theorem dX11_holdsAll_54 : decode cX11_holdsAll 54 = .ok (.iconst 1, 1) := by decide +kernel
theorem dX11_holdsAll_55 : decode cX11_holdsAll 55 = .ok (.goto 4, 3) := by decide +kernel
theorem dX11_holdsAll_58 : decode cX11_holdsAll 58 = .ok (.iconst 0, 1) := by decide +kernel
theorem dX11_holdsAll_59 : decode cX11_holdsAll 59 = .ok (.istore 6, 2) := by decide +kernel
theorem dX11_holdsAll_61 : decode cX11_holdsAll 61 = .ok (.iinc 7 1, 3) := by decide +kernel
theorem dX11_holdsAll_64 : decode cX11_holdsAll 64 = .ok (.goto (-53), 3) := by decide +kernel
theorem dX11_holdsAll_67 : decode cX11_holdsAll 67 = .ok (.iload 6, 2) := by decide +kernel
theorem dX11_holdsAll_69 : decode cX11_holdsAll 69 = .ok (.ireturn, 1) := by decide +kernel
theorem dX11_needs_0 : decode cX11_needs 0 = .ok (.aload_n 0, 1) := by decide +kernel
theorem dX11_needs_1 : decode cX11_needs 1 = .ok (.iconst 0, 1) := by decide +kernel
theorem dX11_needs_2 : decode cX11_needs 2 = .ok (.putfield 3, 3) := by decide +kernel
theorem dX11_needs_5 : decode cX11_needs 5 = .ok (.aload_n 0, 1) := by decide +kernel
theorem dX11_needs_6 : decode cX11_needs 6 = .ok (.aload_n 0, 1) := by decide +kernel
theorem dX11_needs_7 : decode cX11_needs 7 = .ok (.iload_n 1, 1) := by decide +kernel
theorem dX11_needs_8 : decode cX11_needs 8 = .ok (.iconst 2, 1) := by decide +kernel
theorem dX11_needs_9 : decode cX11_needs 9 = .ok (.invokevirtual 262, 3) := by decide +kernel
theorem dX11_needs_12 : decode cX11_needs 12 = .ok (.ifCond .ne 12, 3) := by decide +kernel
theorem dX11_needs_15 : decode cX11_needs 15 = .ok (.aload_n 0, 1) := by decide +kernel
theorem dX11_needs_16 : decode cX11_needs 16 = .ok (.iload_n 2, 1) := by decide +kernel
theorem dX11_needs_17 : decode cX11_needs 17 = .ok (.iconst 1, 1) := by decide +kernel
theorem dX11_needs_18 : decode cX11_needs 18 = .ok (.invokevirtual 262, 3) := by decide +kernel
theorem dX11_needs_21 : decode cX11_needs 21 = .ok (.ifCond .eq 7, 3) := by decide +kernel
theorem dX11_needs_24 : decode cX11_needs 24 = .ok (.iconst 1, 1) := by decide +kernel
theorem dX11_needs_25 : decode cX11_needs 25 = .ok (.goto 4, 3) := by decide +kernel
theorem dX11_needs_28 : decode cX11_needs 28 = .ok (.iconst 0, 1) := by decide +kernel
theorem dX11_needs_29 : decode cX11_needs 29 = .ok (.iconst 1, 1) := by decide +kernel
theorem dX11_needs_30 : decode cX11_needs 30 = .ok (.invokevirtual 85, 3) := by decide +kernel
theorem dX11_needs_33 : decode cX11_needs 33 = .ok (.ifCond .ne 38, 3) := by decide +kernel
theorem dX11_needs_36 : decode cX11_needs 36 = .ok (.aload_n 0, 1) := by decide +kernel
theorem dX11_needs_37 : decode cX11_needs 37 = .ok (.iload_n 3, 1) := by decide +kernel
theorem dX11_needs_38 : decode cX11_needs 38 = .ok (.iconst 0, 1) := by decide +kernel
theorem dX11_needs_39 : decode cX11_needs 39 = .ok (.sipush 300, 3) := by decide +kernel
theorem dX11_needs_42 : decode cX11_needs 42 = .ok (.invokestatic 81, 3) := by decide +kernel
theorem dX11_needs_45 : decode cX11_needs 45 = .ok (.ifCond .eq 14, 3) := by decide +kernel
theorem dX11_needs_48 : decode cX11_needs 48 = .ok (.iload 4, 2) := by decide +kernel
theorem dX11_needs_50 : decode cX11_needs 50 = .ok (.iconst 0, 1) := by decide +kernel
theorem dX11_needs_51 : decode cX11_needs 51 = .ok (.bipush 15, 2) := by decide +kernel
theorem dX11_needs_53 : decode cX11_needs 53 = .ok (.invokestatic 81, 3) := by decide +kernel
theorem dX11_needs_56 : decode cX11_needs 56 = .ok (.ifCond .ne 7, 3) := by decide +kernel
theorem dX11_needs_59 : decode cX11_needs 59 = .ok (.iconst 1, 1) := by decide +kernel
theorem dX11_needs_60 : decode cX11_needs 60 = .ok (.goto 4, 3) := by decide +kernel
theorem dX11_needs_63 : decode cX11_needs 63 = .ok (.iconst 0, 1) := by decide +kernel
theorem dX11_needs_64 : decode cX11_needs 64 = .ok (.iconst 2, 1) := by decide +kernel
theorem dX11_needs_65 : decode cX11_needs 65 = .ok (.invokevirtual 85, 3) := by decide +kernel
theorem dX11_needs_68 : decode cX11_needs 68 = .ok (.ifCond .eq 5, 3) := by decide +kernel
theorem dX11_needs_71 : decode cX11_needs 71 = .ok (.iconst 0, 1) := by decide +kernel
theorem dX11_needs_72 : decode cX11_needs 72 = .ok (.ireturn, 1) := by decide +kernel
theorem dX11_needs_73 : decode cX11_needs 73 = .ok (.aload_n 0, 1) := by decide +kernel
theorem dX11_needs_74 : decode cX11_needs 74 = .ok (.iload_n 2, 1) := by decide +kernel
theorem dX11_needs_75 : decode cX11_needs 75 = .ok (.iconst (-1), 1) := by decide +kernel
theorem dX11_needs_76 : decode cX11_needs 76 = .ok (.invokevirtual 265, 3) := by decide +kernel
theorem dX11_needs_79 : decode cX11_needs 79 = .ok (.aload_n 0, 1) := by decide +kernel
theorem dX11_needs_80 : decode cX11_needs 80 = .ok (.iload_n 1, 1) := by decide +kernel
theorem dX11_needs_81 : decode cX11_needs 81 = .ok (.iload_n 3, 1) := by decide +kernel
theorem dX11_needs_82 : decode cX11_needs 82 = .ok (.iload 4, 2) := by decide +kernel
theorem dX11_needs_84 : decode cX11_needs 84 = .ok (.iload 5, 2) := by decide +kernel
theorem dX11_needs_86 : decode cX11_needs 86 = .ok (.invokevirtual 284, 3) := by decide +kernel
theorem dX11_needs_89 : decode cX11_needs 89 = .ok (.ireturn, 1) := by decide +kernel
theorem dX11_lastOf_0 : decode cX11_lastOf 0 = .ok (.iload_n 3, 1) := by decide +kernel
theorem dX11_lastOf_1 : decode cX11_lastOf 1 = .ok (.istore 4, 2) := by decide +kernel
theorem dX11_lastOf_3 : decode cX11_lastOf 3 = .ok (.iconst 0, 1) := by decide +kernel
theorem dX11_lastOf_4 : decode cX11_lastOf 4 = .ok (.istore 5, 2) := by decide +kernel
theorem dX11_lastOf_6 : decode cX11_lastOf 6 = .ok (.iload 5, 2) := by decide +kernel
theorem dX11_lastOf_8 : decode cX11_lastOf 8 = .ok (.aload_n 0, 1) := by decide +kernel
theorem dX11_lastOf_9 : decode cX11_lastOf 9 = .ok (.iconst 4, 1) := by decide +kernel
theorem dX11_lastOf_10 : decode cX11_lastOf 10 = .ok (.iload_n 1, 1) := by decide +kernel
theorem dX11_lastOf_11 : decode cX11_lastOf 11 = .ok (.iadd, 1) := by decide +kernel
theorem dX11_lastOf_12 : decode cX11_lastOf 12 = .ok (.invokevirtual 252, 3) := by decide +kernel
theorem dX11_lastOf_15 : decode cX11_lastOf 15 = .ok (.if_icmp .ge 34, 3) := by decide +kernel
theorem dX11_lastOf_18 : decode cX11_lastOf 18 = .ok (.aload_n 0, 1) := by decide +kernel
theorem dX11_lastOf_19 : decode cX11_lastOf 19 = .ok (.iconst 4, 1) := by decide +kernel
theorem dX11_lastOf_20 : decode cX11_lastOf 20 = .ok (.iload_n 1, 1) := by decide +kernel
theorem dX11_lastOf_21 : decode cX11_lastOf 21 = .ok (.iadd, 1) := by decide +kernel
theorem dX11_lastOf_22 : decode cX11_lastOf 22 = .ok (.iload 5, 2) := by decide +kernel
theorem dX11_lastOf_24 : decode cX11_lastOf 24 = .ok (.invokevirtual 259, 3) := by decide +kernel
theorem dX11_lastOf_27 : decode cX11_lastOf 27 = .ok (.iload_n 2, 1) := by decide +kernel
theorem dX11_lastOf_28 : decode cX11_lastOf 28 = .ok (.if_icmp .ne 15, 3) := by decide +kernel
theorem dX11_lastOf_31 : decode cX11_lastOf 31 = .ok (.aload_n 0, 1) := by decide +kernel
theorem dX11_lastOf_32 : decode cX11_lastOf 32 = .ok (.iconst 4, 1) := by decide +kernel
theorem dX11_lastOf_33 : decode cX11_lastOf 33 = .ok (.iload_n 1, 1) := by decide +kernel
theorem dX11_lastOf_34 : decode cX11_lastOf 34 = .ok (.iadd, 1) := by decide +kernel
theorem dX11_lastOf_35 : decode cX11_lastOf 35 = .ok (.iload 5, 2) := by decide +kernel
theorem dX11_lastOf_37 : decode cX11_lastOf 37 = .ok (.iconst 1, 1) := by decide +kernel
theorem dX11_lastOf_38 : decode cX11_lastOf 38 = .ok (.invokevirtual 255, 3) := by decide +kernel
theorem dX11_lastOf_41 : decode cX11_lastOf 41 = .ok (.istore 4, 2) := by decide +kernel
theorem dX11_lastOf_43 : decode cX11_lastOf 43 = .ok (.iinc 5 1, 3) := by decide +kernel
theorem dX11_lastOf_46 : decode cX11_lastOf 46 = .ok (.goto (-40), 3) := by decide +kernel
theorem dX11_lastOf_49 : decode cX11_lastOf 49 = .ok (.iload 4, 2) := by decide +kernel
theorem dX11_lastOf_51 : decode cX11_lastOf 51 = .ok (.ireturn, 1) := by decide +kernel
theorem dX11_freedBy_0 : decode cX11_freedBy 0 = .ok (.iconst 0, 1) := by decide +kernel
theorem dX11_freedBy_1 : decode cX11_freedBy 1 = .ok (.istore_n 2, 1) := by decide +kernel
theorem dX11_freedBy_2 : decode cX11_freedBy 2 = .ok (.iconst 0, 1) := by decide +kernel
theorem dX11_freedBy_3 : decode cX11_freedBy 3 = .ok (.istore_n 3, 1) := by decide +kernel
theorem dX11_freedBy_4 : decode cX11_freedBy 4 = .ok (.iload_n 3, 1) := by decide +kernel
theorem dX11_freedBy_5 : decode cX11_freedBy 5 = .ok (.aload_n 0, 1) := by decide +kernel
theorem dX11_freedBy_6 : decode cX11_freedBy 6 = .ok (.iconst 4, 1) := by decide +kernel
theorem dX11_freedBy_7 : decode cX11_freedBy 7 = .ok (.iload_n 1, 1) := by decide +kernel
theorem dX11_freedBy_8 : decode cX11_freedBy 8 = .ok (.iadd, 1) := by decide +kernel
theorem dX11_freedBy_9 : decode cX11_freedBy 9 = .ok (.invokevirtual 252, 3) := by decide +kernel
theorem dX11_freedBy_12 : decode cX11_freedBy 12 = .ok (.if_icmp .ge 34, 3) := by decide +kernel
theorem dX11_freedBy_15 : decode cX11_freedBy 15 = .ok (.aload_n 0, 1) := by decide +kernel
theorem dX11_freedBy_16 : decode cX11_freedBy 16 = .ok (.iconst 4, 1) := by decide +kernel
theorem dX11_freedBy_17 : decode cX11_freedBy 17 = .ok (.iload_n 1, 1) := by decide +kernel
theorem dX11_freedBy_18 : decode cX11_freedBy 18 = .ok (.iadd, 1) := by decide +kernel
theorem dX11_freedBy_19 : decode cX11_freedBy 19 = .ok (.iload_n 3, 1) := by decide +kernel
theorem dX11_freedBy_20 : decode cX11_freedBy 20 = .ok (.invokevirtual 259, 3) := by decide +kernel
theorem dX11_freedBy_23 : decode cX11_freedBy 23 = .ok (.ifCond .ne 17, 3) := by decide +kernel
theorem dX11_freedBy_26 : decode cX11_freedBy 26 = .ok (.iload_n 2, 1) := by decide +kernel
theorem dX11_freedBy_27 : decode cX11_freedBy 27 = .ok (.iconst 1, 1) := by decide +kernel
theorem dX11_freedBy_28 : decode cX11_freedBy 28 = .ok (.aload_n 0, 1) := by decide +kernel
theorem dX11_freedBy_29 : decode cX11_freedBy 29 = .ok (.iconst 4, 1) := by decide +kernel
theorem dX11_freedBy_30 : decode cX11_freedBy 30 = .ok (.iload_n 1, 1) := by decide +kernel
theorem dX11_freedBy_31 : decode cX11_freedBy 31 = .ok (.iadd, 1) := by decide +kernel
theorem dX11_freedBy_32 : decode cX11_freedBy 32 = .ok (.iload_n 3, 1) := by decide +kernel
theorem dX11_freedBy_33 : decode cX11_freedBy 33 = .ok (.iconst 1, 1) := by decide +kernel
theorem dX11_freedBy_34 : decode cX11_freedBy 34 = .ok (.invokevirtual 255, 3) := by decide +kernel
theorem dX11_freedBy_37 : decode cX11_freedBy 37 = .ok (.ishl, 1) := by decide +kernel
theorem dX11_freedBy_38 : decode cX11_freedBy 38 = .ok (.ior, 1) := by decide +kernel
theorem dX11_freedBy_39 : decode cX11_freedBy 39 = .ok (.istore_n 2, 1) := by decide +kernel
theorem dX11_freedBy_40 : decode cX11_freedBy 40 = .ok (.iinc 3 1, 3) := by decide +kernel
theorem dX11_freedBy_43 : decode cX11_freedBy 43 = .ok (.goto (-39), 3) := by decide +kernel
theorem dX11_freedBy_46 : decode cX11_freedBy 46 = .ok (.iload_n 2, 1) := by decide +kernel
theorem dX11_freedBy_47 : decode cX11_freedBy 47 = .ok (.ireturn, 1) := by decide +kernel
theorem dX11_at_0 : decode cX11_at 0 = .ok (.bipush 16, 2) := by decide +kernel
theorem dX11_at_2 : decode cX11_at 2 = .ok (.iload_n 0, 1) := by decide +kernel
theorem dX11_at_3 : decode cX11_at 3 = .ok (.imul, 1) := by decide +kernel
theorem dX11_at_4 : decode cX11_at 4 = .ok (.iload_n 1, 1) := by decide +kernel
theorem dX11_at_5 : decode cX11_at 5 = .ok (.iadd, 1) := by decide +kernel
theorem dX11_at_6 : decode cX11_at 6 = .ok (.ireturn, 1) := by decide +kernel
theorem dX11_runAt_0 : decode cX11_runAt 0 = .ok (.bipush 16, 2) := by decide +kernel
theorem dX11_runAt_2 : decode cX11_runAt 2 = .ok (.iload_n 0, 1) := by decide +kernel
theorem dX11_runAt_3 : decode cX11_runAt 3 = .ok (.imul, 1) := by decide +kernel
theorem dX11_runAt_4 : decode cX11_runAt 4 = .ok (.iload_n 1, 1) := by decide +kernel
theorem dX11_runAt_5 : decode cX11_runAt 5 = .ok (.iadd, 1) := by decide +kernel
theorem dX11_runAt_6 : decode cX11_runAt 6 = .ok (.sipush 302, 3) := by decide +kernel
theorem dX11_runAt_9 : decode cX11_runAt 9 = .ok (.imul, 1) := by decide +kernel
theorem dX11_runAt_10 : decode cX11_runAt 10 = .ok (.iload_n 2, 1) := by decide +kernel
theorem dX11_runAt_11 : decode cX11_runAt 11 = .ok (.iadd, 1) := by decide +kernel
theorem dX11_runAt_12 : decode cX11_runAt 12 = .ok (.ireturn, 1) := by decide +kernel
theorem dX11_reachOf_0 : decode cX11_reachOf 0 = .ok (.iconst 0, 1) := by decide +kernel
theorem dX11_reachOf_1 : decode cX11_reachOf 1 = .ok (.istore_n 2, 1) := by decide +kernel
theorem dX11_reachOf_2 : decode cX11_reachOf 2 = .ok (.iconst 0, 1) := by decide +kernel
theorem dX11_reachOf_3 : decode cX11_reachOf 3 = .ok (.istore_n 3, 1) := by decide +kernel
theorem dX11_reachOf_4 : decode cX11_reachOf 4 = .ok (.iload_n 3, 1) := by decide +kernel
theorem dX11_reachOf_5 : decode cX11_reachOf 5 = .ok (.aload_n 0, 1) := by decide +kernel
theorem dX11_reachOf_6 : decode cX11_reachOf 6 = .ok (.getfield 13, 3) := by decide +kernel
theorem dX11_reachOf_9 : decode cX11_reachOf 9 = .ok (.iconst 2, 1) := by decide +kernel
theorem dX11_reachOf_10 : decode cX11_reachOf 10 = .ok (.iaload, 1) := by decide +kernel
theorem dX11_reachOf_11 : decode cX11_reachOf 11 = .ok (.if_icmp .ge 30, 3) := by decide +kernel
theorem dX11_reachOf_14 : decode cX11_reachOf 14 = .ok (.iload_n 1, 1) := by decide +kernel
theorem dX11_reachOf_15 : decode cX11_reachOf 15 = .ok (.iload_n 3, 1) := by decide +kernel
theorem dX11_reachOf_16 : decode cX11_reachOf 16 = .ok (.ishr, 1) := by decide +kernel
theorem dX11_reachOf_17 : decode cX11_reachOf 17 = .ok (.iconst 1, 1) := by decide +kernel
theorem dX11_reachOf_18 : decode cX11_reachOf 18 = .ok (.iand, 1) := by decide +kernel
theorem dX11_reachOf_19 : decode cX11_reachOf 19 = .ok (.iconst 1, 1) := by decide +kernel
theorem dX11_reachOf_20 : decode cX11_reachOf 20 = .ok (.if_icmp .ne 15, 3) := by decide +kernel
theorem dX11_reachOf_23 : decode cX11_reachOf 23 = .ok (.iload_n 2, 1) := by decide +kernel
theorem dX11_reachOf_24 : decode cX11_reachOf 24 = .ok (.aload_n 0, 1) := by decide +kernel
theorem dX11_reachOf_25 : decode cX11_reachOf 25 = .ok (.iload_n 3, 1) := by decide +kernel
theorem dX11_reachOf_26 : decode cX11_reachOf 26 = .ok (.iconst 2, 1) := by decide +kernel
theorem dX11_reachOf_27 : decode cX11_reachOf 27 = .ok (.iconst 0, 1) := by decide +kernel
theorem dX11_reachOf_28 : decode cX11_reachOf 28 = .ok (.invokevirtual 288, 3) := by decide +kernel
theorem dX11_reachOf_31 : decode cX11_reachOf 31 = .ok (.invokestatic 291, 3) := by decide +kernel
theorem dX11_reachOf_34 : decode cX11_reachOf 34 = .ok (.istore_n 2, 1) := by decide +kernel
theorem dX11_reachOf_35 : decode cX11_reachOf 35 = .ok (.iinc 3 1, 3) := by decide +kernel
theorem dX11_reachOf_38 : decode cX11_reachOf 38 = .ok (.goto (-34), 3) := by decide +kernel
theorem dX11_reachOf_41 : decode cX11_reachOf 41 = .ok (.iload_n 2, 1) := by decide +kernel
theorem dX11_reachOf_42 : decode cX11_reachOf 42 = .ok (.ireturn, 1) := by decide +kernel
theorem dX11_canDo_0 : decode cX11_canDo 0 = .ok (.bipush 28, 2) := by decide +kernel
theorem dX11_canDo_2 : decode cX11_canDo 2 = .ok (.iconst 3, 1) := by decide +kernel
theorem dX11_canDo_3 : decode cX11_canDo 3 = .ok (.iload_n 1, 1) := by decide +kernel
theorem dX11_canDo_4 : decode cX11_canDo 4 = .ok (.imul, 1) := by decide +kernel
theorem dX11_canDo_5 : decode cX11_canDo 5 = .ok (.iadd, 1) := by decide +kernel
theorem dX11_canDo_6 : decode cX11_canDo 6 = .ok (.istore 4, 2) := by decide +kernel
theorem dX11_canDo_8 : decode cX11_canDo 8 = .ok (.iload_n 2, 1) := by decide +kernel
theorem dX11_canDo_9 : decode cX11_canDo 9 = .ok (.iconst 3, 1) := by decide +kernel
theorem dX11_canDo_10 : decode cX11_canDo 10 = .ok (.iand, 1) := by decide +kernel
theorem dX11_canDo_11 : decode cX11_canDo 11 = .ok (.invokestatic 268, 3) := by decide +kernel
theorem dX11_canDo_14 : decode cX11_canDo 14 = .ok (.aload_n 0, 1) := by decide +kernel
theorem dX11_canDo_15 : decode cX11_canDo 15 = .ok (.getfield 13, 3) := by decide +kernel
theorem dX11_canDo_18 : decode cX11_canDo 18 = .ok (.iload 4, 2) := by decide +kernel
theorem dX11_canDo_20 : decode cX11_canDo 20 = .ok (.iaload, 1) := by decide +kernel
theorem dX11_canDo_21 : decode cX11_canDo 21 = .ok (.if_icmp .lt 38, 3) := by decide +kernel
theorem dX11_canDo_24 : decode cX11_canDo 24 = .ok (.iload_n 2, 1) := by decide +kernel
theorem dX11_canDo_25 : decode cX11_canDo 25 = .ok (.iconst 2, 1) := by decide +kernel
theorem dX11_canDo_26 : decode cX11_canDo 26 = .ok (.ishr, 1) := by decide +kernel
theorem dX11_canDo_27 : decode cX11_canDo 27 = .ok (.invokestatic 268, 3) := by decide +kernel
theorem dX11_canDo_30 : decode cX11_canDo 30 = .ok (.aload_n 0, 1) := by decide +kernel
theorem dX11_canDo_31 : decode cX11_canDo 31 = .ok (.getfield 13, 3) := by decide +kernel
theorem dX11_canDo_34 : decode cX11_canDo 34 = .ok (.iload 4, 2) := by decide +kernel
theorem dX11_canDo_36 : decode cX11_canDo 36 = .ok (.iconst 1, 1) := by decide +kernel
theorem dX11_canDo_37 : decode cX11_canDo 37 = .ok (.iadd, 1) := by decide +kernel
theorem dX11_canDo_38 : decode cX11_canDo 38 = .ok (.iaload, 1) := by decide +kernel
theorem dX11_canDo_39 : decode cX11_canDo 39 = .ok (.if_icmp .lt 20, 3) := by decide +kernel
theorem dX11_canDo_42 : decode cX11_canDo 42 = .ok (.iload_n 3, 1) := by decide +kernel
theorem dX11_canDo_43 : decode cX11_canDo 43 = .ok (.aload_n 0, 1) := by decide +kernel
theorem dX11_canDo_44 : decode cX11_canDo 44 = .ok (.getfield 13, 3) := by decide +kernel
theorem dX11_canDo_47 : decode cX11_canDo 47 = .ok (.iload 4, 2) := by decide +kernel
theorem dX11_canDo_49 : decode cX11_canDo 49 = .ok (.iconst 2, 1) := by decide +kernel
theorem dX11_canDo_50 : decode cX11_canDo 50 = .ok (.iadd, 1) := by decide +kernel
theorem dX11_canDo_51 : decode cX11_canDo 51 = .ok (.iaload, 1) := by decide +kernel
theorem dX11_canDo_52 : decode cX11_canDo 52 = .ok (.if_icmp .lt 7, 3) := by decide +kernel
theorem dX11_canDo_55 : decode cX11_canDo 55 = .ok (.iconst 1, 1) := by decide +kernel
theorem dX11_canDo_56 : decode cX11_canDo 56 = .ok (.goto 4, 3) := by decide +kernel
theorem dX11_canDo_59 : decode cX11_canDo 59 = .ok (.iconst 0, 1) := by decide +kernel
theorem dX11_canDo_60 : decode cX11_canDo 60 = .ok (.ireturn, 1) := by decide +kernel
theorem dX11_prepares_0 : decode cX11_prepares 0 = .ok (.aload_n 0, 1) := by decide +kernel
theorem dX11_prepares_1 : decode cX11_prepares 1 = .ok (.iload_n 1, 1) := by decide +kernel
theorem dX11_prepares_2 : decode cX11_prepares 2 = .ok (.iconst 1, 1) := by decide +kernel
theorem dX11_prepares_3 : decode cX11_prepares 3 = .ok (.aload_n 0, 1) := by decide +kernel
theorem dX11_prepares_4 : decode cX11_prepares 4 = .ok (.getfield 13, 3) := by decide +kernel
theorem dX11_prepares_7 : decode cX11_prepares 7 = .ok (.iconst 2, 1) := by decide +kernel
theorem dX11_prepares_8 : decode cX11_prepares 8 = .ok (.iaload, 1) := by decide +kernel
theorem dX11_prepares_9 : decode cX11_prepares 9 = .ok (.ishl, 1) := by decide +kernel
theorem dX11_prepares_10 : decode cX11_prepares 10 = .ok (.iconst 1, 1) := by decide +kernel
theorem dX11_prepares_11 : decode cX11_prepares 11 = .ok (.isub, 1) := by decide +kernel
theorem dX11_prepares_12 : decode cX11_prepares 12 = .ok (.iand, 1) := by decide +kernel
theorem dX11_prepares_13 : decode cX11_prepares 13 = .ok (.putfield 296, 3) := by decide +kernel
theorem dX11_prepares_16 : decode cX11_prepares 16 = .ok (.iconst 0, 1) := by decide +kernel
theorem dX11_prepares_17 : decode cX11_prepares 17 = .ok (.istore 4, 2) := by decide +kernel
theorem dX11_prepares_19 : decode cX11_prepares 19 = .ok (.iload 4, 2) := by decide +kernel
theorem dX11_prepares_21 : decode cX11_prepares 21 = .ok (.aload_n 0, 1) := by decide +kernel
theorem dX11_prepares_22 : decode cX11_prepares 22 = .ok (.getfield 249, 3) := by decide +kernel
theorem dX11_prepares_25 : decode cX11_prepares 25 = .ok (.if_icmp .gt 57, 3) := by decide +kernel
theorem dX11_prepares_28 : decode cX11_prepares 28 = .ok (.iconst 0, 1) := by decide +kernel
theorem dX11_prepares_29 : decode cX11_prepares 29 = .ok (.istore 5, 2) := by decide +kernel
theorem dX11_prepares_31 : decode cX11_prepares 31 = .ok (.iload 5, 2) := by decide +kernel
theorem dX11_prepares_33 : decode cX11_prepares 33 = .ok (.bipush 16, 2) := by decide +kernel
theorem dX11_prepares_35 : decode cX11_prepares 35 = .ok (.if_icmp .ge 41, 3) := by decide +kernel
theorem dX11_prepares_38 : decode cX11_prepares 38 = .ok (.aload_n 0, 1) := by decide +kernel
theorem dX11_prepares_39 : decode cX11_prepares 39 = .ok (.getfield 43, 3) := by decide +kernel
theorem dX11_prepares_42 : decode cX11_prepares 42 = .ok (.iload 4, 2) := by decide +kernel
theorem dX11_prepares_44 : decode cX11_prepares 44 = .ok (.iload 5, 2) := by decide +kernel
theorem dX11_prepares_46 : decode cX11_prepares 46 = .ok (.invokestatic 299, 3) := by decide +kernel
theorem dX11_prepares_49 : decode cX11_prepares 49 = .ok (.iload 5, 2) := by decide +kernel
theorem dX11_prepares_51 : decode cX11_prepares 51 = .ok (.ifCond .eq 13, 3) := by decide +kernel
theorem dX11_prepares_54 : decode cX11_prepares 54 = .ok (.aload_n 0, 1) := by decide +kernel
theorem dX11_prepares_55 : decode cX11_prepares 55 = .ok (.getfield 30, 3) := by decide +kernel
theorem dX11_prepares_58 : decode cX11_prepares 58 = .ok (.iload 4, 2) := by decide +kernel
theorem dX11_prepares_60 : decode cX11_prepares 60 = .ok (.baload, 1) := by decide +kernel
theorem dX11_prepares_61 : decode cX11_prepares 61 = .ok (.ifCond .ne 7, 3) := by decide +kernel
theorem dX11_prepares_64 : decode cX11_prepares 64 = .ok (.iconst 1, 1) := by decide +kernel
theorem dX11_prepares_65 : decode cX11_prepares 65 = .ok (.goto 4, 3) := by decide +kernel
theorem dX11_prepares_68 : decode cX11_prepares 68 = .ok (.iconst 0, 1) := by decide +kernel
theorem dX11_prepares_69 : decode cX11_prepares 69 = .ok (.bastore, 1) := by decide +kernel
theorem dX11_prepares_70 : decode cX11_prepares 70 = .ok (.iinc 5 1, 3) := by decide +kernel
theorem dX11_prepares_73 : decode cX11_prepares 73 = .ok (.goto (-42), 3) := by decide +kernel
theorem dX11_prepares_76 : decode cX11_prepares 76 = .ok (.iinc 4 1, 3) := by decide +kernel
theorem dX11_prepares_79 : decode cX11_prepares 79 = .ok (.goto (-60), 3) := by decide +kernel
theorem dX11_prepares_82 : decode cX11_prepares 82 = .ok (.iconst 0, 1) := by decide +kernel
theorem dX11_prepares_83 : decode cX11_prepares 83 = .ok (.istore 4, 2) := by decide +kernel
theorem dX11_prepares_85 : decode cX11_prepares 85 = .ok (.iload 4, 2) := by decide +kernel
theorem dX11_prepares_87 : decode cX11_prepares 87 = .ok (.aload_n 0, 1) := by decide +kernel
theorem dX11_prepares_88 : decode cX11_prepares 88 = .ok (.getfield 13, 3) := by decide +kernel
theorem dX11_prepares_91 : decode cX11_prepares 91 = .ok (.iconst 2, 1) := by decide +kernel
theorem dX11_prepares_92 : decode cX11_prepares 92 = .ok (.iaload, 1) := by decide +kernel
theorem dX11_prepares_93 : decode cX11_prepares 93 = .ok (.if_icmp .ge 141, 3) := by decide +kernel
theorem dX11_prepares_96 : decode cX11_prepares 96 = .ok (.aload_n 0, 1) := by decide +kernel
theorem dX11_prepares_97 : decode cX11_prepares 97 = .ok (.getfield 296, 3) := by decide +kernel
theorem dX11_prepares_100 : decode cX11_prepares 100 = .ok (.iload 4, 2) := by decide +kernel
theorem dX11_prepares_102 : decode cX11_prepares 102 = .ok (.ishr, 1) := by decide +kernel
theorem dX11_prepares_103 : decode cX11_prepares 103 = .ok (.iconst 1, 1) := by decide +kernel
theorem dX11_prepares_104 : decode cX11_prepares 104 = .ok (.iand, 1) := by decide +kernel
theorem dX11_prepares_105 : decode cX11_prepares 105 = .ok (.ifCond .ne 6, 3) := by decide +kernel
theorem dX11_prepares_108 : decode cX11_prepares 108 = .ok (.goto 120, 3) := by decide +kernel
theorem dX11_prepares_111 : decode cX11_prepares 111 = .ok (.iconst 0, 1) := by decide +kernel
theorem dX11_prepares_112 : decode cX11_prepares 112 = .ok (.istore 5, 2) := by decide +kernel
theorem dX11_prepares_114 : decode cX11_prepares 114 = .ok (.iload 5, 2) := by decide +kernel
theorem dX11_prepares_116 : decode cX11_prepares 116 = .ok (.bipush 16, 2) := by decide +kernel
theorem dX11_prepares_118 : decode cX11_prepares 118 = .ok (.if_icmp .ge 110, 3) := by decide +kernel
theorem dX11_prepares_121 : decode cX11_prepares 121 = .ok (.aload_n 0, 1) := by decide +kernel
theorem dX11_prepares_122 : decode cX11_prepares 122 = .ok (.getfield 55, 3) := by decide +kernel
theorem dX11_prepares_125 : decode cX11_prepares 125 = .ok (.iload 4, 2) := by decide +kernel
theorem dX11_prepares_127 : decode cX11_prepares 127 = .ok (.iload 5, 2) := by decide +kernel
theorem dX11_prepares_129 : decode cX11_prepares 129 = .ok (.aload_n 0, 1) := by decide +kernel
theorem dX11_prepares_130 : decode cX11_prepares 130 = .ok (.getfield 249, 3) := by decide +kernel
theorem dX11_prepares_133 : decode cX11_prepares 133 = .ok (.iconst 1, 1) := by decide +kernel
theorem dX11_prepares_134 : decode cX11_prepares 134 = .ok (.iadd, 1) := by decide +kernel
theorem dX11_prepares_135 : decode cX11_prepares 135 = .ok (.invokestatic 302, 3) := by decide +kernel
theorem dX11_prepares_138 : decode cX11_prepares 138 = .ok (.iconst 0, 1) := by decide +kernel
theorem dX11_prepares_139 : decode cX11_prepares 139 = .ok (.iastore, 1) := by decide +kernel
theorem dX11_prepares_140 : decode cX11_prepares 140 = .ok (.aload_n 0, 1) := by decide +kernel
theorem dX11_prepares_141 : decode cX11_prepares 141 = .ok (.getfield 249, 3) := by decide +kernel
theorem dX11_prepares_144 : decode cX11_prepares 144 = .ok (.istore 6, 2) := by decide +kernel
theorem dX11_prepares_146 : decode cX11_prepares 146 = .ok (.iload 6, 2) := by decide +kernel
theorem dX11_prepares_148 : decode cX11_prepares 148 = .ok (.ifCond .lt 74, 3) := by decide +kernel
theorem dX11_prepares_151 : decode cX11_prepares 151 = .ok (.aload_n 0, 1) := by decide +kernel
theorem dX11_prepares_152 : decode cX11_prepares 152 = .ok (.getfield 55, 3) := by decide +kernel
theorem dX11_prepares_155 : decode cX11_prepares 155 = .ok (.iload 4, 2) := by decide +kernel
theorem dX11_prepares_157 : decode cX11_prepares 157 = .ok (.iload 5, 2) := by decide +kernel
theorem dX11_prepares_159 : decode cX11_prepares 159 = .ok (.iload 6, 2) := by decide +kernel
theorem dX11_prepares_161 : decode cX11_prepares 161 = .ok (.invokestatic 302, 3) := by decide +kernel
theorem dX11_prepares_164 : decode cX11_prepares 164 = .ok (.aload_n 0, 1) := by decide +kernel
theorem dX11_prepares_165 : decode cX11_prepares 165 = .ok (.getfield 43, 3) := by decide +kernel
theorem dX11_prepares_168 : decode cX11_prepares 168 = .ok (.iload 6, 2) := by decide +kernel
theorem dX11_prepares_170 : decode cX11_prepares 170 = .ok (.iload 5, 2) := by decide +kernel
theorem dX11_prepares_172 : decode cX11_prepares 172 = .ok (.invokestatic 299, 3) := by decide +kernel
theorem dX11_prepares_175 : decode cX11_prepares 175 = .ok (.baload, 1) := by decide +kernel
theorem dX11_prepares_176 : decode cX11_prepares 176 = .ok (.ifCond .eq 38, 3) := by decide +kernel
theorem dX11_prepares_179 : decode cX11_prepares 179 = .ok (.aload_n 0, 1) := by decide +kernel
theorem dX11_prepares_180 : decode cX11_prepares 180 = .ok (.iload 4, 2) := by decide +kernel
theorem dX11_prepares_182 : decode cX11_prepares 182 = .ok (.iload 6, 2) := by decide +kernel
theorem dX11_prepares_184 : decode cX11_prepares 184 = .ok (.iload 5, 2) := by decide +kernel
theorem dX11_prepares_186 : decode cX11_prepares 186 = .ok (.iload_n 2, 1) := by decide +kernel
theorem dX11_prepares_187 : decode cX11_prepares 187 = .ok (.invokevirtual 284, 3) := by decide +kernel
theorem dX11_prepares_190 : decode cX11_prepares 190 = .ok (.ifCond .eq 24, 3) := by decide +kernel
theorem dX11_prepares_193 : decode cX11_prepares 193 = .ok (.aload_n 0, 1) := by decide +kernel
theorem dX11_prepares_194 : decode cX11_prepares 194 = .ok (.getfield 55, 3) := by decide +kernel
theorem dX11_prepares_197 : decode cX11_prepares 197 = .ok (.iload 4, 2) := by decide +kernel
theorem dX11_prepares_199 : decode cX11_prepares 199 = .ok (.iload 5, 2) := by decide +kernel
theorem dX11_prepares_201 : decode cX11_prepares 201 = .ok (.iload 6, 2) := by decide +kernel
theorem dX11_prepares_203 : decode cX11_prepares 203 = .ok (.iconst 1, 1) := by decide +kernel
theorem dX11_prepares_204 : decode cX11_prepares 204 = .ok (.iadd, 1) := by decide +kernel
theorem dX11_prepares_205 : decode cX11_prepares 205 = .ok (.invokestatic 302, 3) := by decide +kernel
theorem dX11_prepares_208 : decode cX11_prepares 208 = .ok (.iaload, 1) := by decide +kernel
theorem dX11_prepares_209 : decode cX11_prepares 209 = .ok (.iconst 1, 1) := by decide +kernel
theorem dX11_prepares_210 : decode cX11_prepares 210 = .ok (.iadd, 1) := by decide +kernel
theorem dX11_prepares_211 : decode cX11_prepares 211 = .ok (.goto 4, 3) := by decide +kernel
theorem dX11_prepares_214 : decode cX11_prepares 214 = .ok (.iconst 0, 1) := by decide +kernel
theorem dX11_prepares_215 : decode cX11_prepares 215 = .ok (.iastore, 1) := by decide +kernel
theorem dX11_prepares_216 : decode cX11_prepares 216 = .ok (.iinc 6 (-1), 3) := by decide +kernel
theorem dX11_prepares_219 : decode cX11_prepares 219 = .ok (.goto (-73), 3) := by decide +kernel
theorem dX11_prepares_222 : decode cX11_prepares 222 = .ok (.iinc 5 1, 3) := by decide +kernel
theorem dX11_prepares_225 : decode cX11_prepares 225 = .ok (.goto (-111), 3) := by decide +kernel
theorem dX11_prepares_228 : decode cX11_prepares 228 = .ok (.iinc 4 1, 3) := by decide +kernel
theorem dX11_prepares_231 : decode cX11_prepares 231 = .ok (.goto (-146), 3) := by decide +kernel
theorem dX11_prepares_234 : decode cX11_prepares 234 = .ok (.iload_n 3, 1) := by decide +kernel
theorem dX11_prepares_235 : decode cX11_prepares 235 = .ok (.ifCond .ne 5, 3) := by decide +kernel
theorem dX11_prepares_238 : decode cX11_prepares 238 = .ok (.iconst 1, 1) := by decide +kernel
theorem dX11_prepares_239 : decode cX11_prepares 239 = .ok (.ireturn, 1) := by decide +kernel
theorem dX11_prepares_240 : decode cX11_prepares 240 = .ok (.aload_n 0, 1) := by decide +kernel
theorem dX11_prepares_241 : decode cX11_prepares 241 = .ok (.aload_n 0, 1) := by decide +kernel
theorem dX11_prepares_242 : decode cX11_prepares 242 = .ok (.getfield 296, 3) := by decide +kernel
theorem dX11_prepares_245 : decode cX11_prepares 245 = .ok (.invokevirtual 305, 3) := by decide +kernel
theorem dX11_prepares_248 : decode cX11_prepares 248 = .ok (.istore 4, 2) := by decide +kernel
theorem dX11_prepares_250 : decode cX11_prepares 250 = .ok (.iconst 1, 1) := by decide +kernel
theorem dX11_prepares_251 : decode cX11_prepares 251 = .ok (.istore 5, 2) := by decide +kernel
theorem dX11_prepares_253 : decode cX11_prepares 253 = .ok (.iconst 0, 1) := by decide +kernel
theorem dX11_prepares_254 : decode cX11_prepares 254 = .ok (.istore 6, 2) := by decide +kernel
theorem dX11_prepares_256 : decode cX11_prepares 256 = .ok (.iload 6, 2) := by decide +kernel
theorem dX11_prepares_258 : decode cX11_prepares 258 = .ok (.aload_n 0, 1) := by decide +kernel
theorem dX11_prepares_259 : decode cX11_prepares 259 = .ok (.getfield 13, 3) := by decide +kernel
theorem dX11_prepares_262 : decode cX11_prepares 262 = .ok (.iconst 4, 1) := by decide +kernel
theorem dX11_prepares_263 : decode cX11_prepares 263 = .ok (.iaload, 1) := by decide +kernel
theorem dX11_prepares_264 : decode cX11_prepares 264 = .ok (.if_icmp .ge 126, 3) := by decide +kernel
theorem dX11_prepares_267 : decode cX11_prepares 267 = .ok (.aload_n 0, 1) := by decide +kernel
theorem dX11_prepares_268 : decode cX11_prepares 268 = .ok (.getfield 13, 3) := by decide +kernel
theorem dX11_prepares_271 : decode cX11_prepares 271 = .ok (.bipush 46, 2) := by decide +kernel
theorem dX11_prepares_273 : decode cX11_prepares 273 = .ok (.iconst 2, 1) := by decide +kernel
theorem dX11_prepares_274 : decode cX11_prepares 274 = .ok (.iload 6, 2) := by decide +kernel
theorem dX11_prepares_276 : decode cX11_prepares 276 = .ok (.imul, 1) := by decide +kernel
theorem dX11_prepares_277 : decode cX11_prepares 277 = .ok (.iadd, 1) := by decide +kernel
theorem dX11_prepares_278 : decode cX11_prepares 278 = .ok (.iconst 1, 1) := by decide +kernel
theorem dX11_prepares_279 : decode cX11_prepares 279 = .ok (.iadd, 1) := by decide +kernel
theorem dX11_prepares_280 : decode cX11_prepares 280 = .ok (.iaload, 1) := by decide +kernel
theorem dX11_prepares_281 : decode cX11_prepares 281 = .ok (.istore 7, 2) := by decide +kernel
theorem dX11_prepares_283 : decode cX11_prepares 283 = .ok (.iload 5, 2) := by decide +kernel
theorem dX11_prepares_285 : decode cX11_prepares 285 = .ok (.ifCond .eq 16, 3) := by decide +kernel
theorem dX11_prepares_288 : decode cX11_prepares 288 = .ok (.iload 7, 2) := by decide +kernel
theorem dX11_prepares_290 : decode cX11_prepares 290 = .ok (.aload_n 0, 1) := by decide +kernel
theorem dX11_prepares_291 : decode cX11_prepares 291 = .ok (.getfield 249, 3) := by decide +kernel
theorem dX11_prepares_294 : decode cX11_prepares 294 = .ok (.if_icmp .gt 7, 3) := by decide +kernel
theorem dX11_prepares_297 : decode cX11_prepares 297 = .ok (.iconst 1, 1) := by decide +kernel
theorem dX11_prepares_298 : decode cX11_prepares 298 = .ok (.goto 4, 3) := by decide +kernel
theorem dX11_prepares_301 : decode cX11_prepares 301 = .ok (.iconst 0, 1) := by decide +kernel
theorem dX11_prepares_302 : decode cX11_prepares 302 = .ok (.istore 5, 2) := by decide +kernel
theorem dX11_prepares_304 : decode cX11_prepares 304 = .ok (.iconst 0, 1) := by decide +kernel
theorem dX11_prepares_305 : decode cX11_prepares 305 = .ok (.istore 8, 2) := by decide +kernel
theorem dX11_prepares_307 : decode cX11_prepares 307 = .ok (.iload 8, 2) := by decide +kernel
theorem dX11_prepares_309 : decode cX11_prepares 309 = .ok (.bipush 16, 2) := by decide +kernel
theorem dX11_prepares_311 : decode cX11_prepares 311 = .ok (.if_icmp .ge 73, 3) := by decide +kernel
theorem dX11_prepares_314 : decode cX11_prepares 314 = .ok (.iload 7, 2) := by decide +kernel
theorem dX11_prepares_316 : decode cX11_prepares 316 = .ok (.aload_n 0, 1) := by decide +kernel
theorem dX11_prepares_317 : decode cX11_prepares 317 = .ok (.getfield 249, 3) := by decide +kernel
theorem dX11_prepares_320 : decode cX11_prepares 320 = .ok (.if_icmp .gt 64, 3) := by decide +kernel
theorem dX11_prepares_323 : decode cX11_prepares 323 = .ok (.aload_n 0, 1) := by decide +kernel
theorem dX11_prepares_324 : decode cX11_prepares 324 = .ok (.getfield 43, 3) := by decide +kernel
theorem dX11_prepares_327 : decode cX11_prepares 327 = .ok (.iload 7, 2) := by decide +kernel
theorem dX11_prepares_329 : decode cX11_prepares 329 = .ok (.iload 8, 2) := by decide +kernel
theorem dX11_prepares_331 : decode cX11_prepares 331 = .ok (.invokestatic 299, 3) := by decide +kernel
theorem dX11_prepares_334 : decode cX11_prepares 334 = .ok (.aload_n 0, 1) := by decide +kernel
theorem dX11_prepares_335 : decode cX11_prepares 335 = .ok (.getfield 43, 3) := by decide +kernel
theorem dX11_prepares_338 : decode cX11_prepares 338 = .ok (.iload 7, 2) := by decide +kernel
theorem dX11_prepares_340 : decode cX11_prepares 340 = .ok (.iload 8, 2) := by decide +kernel
theorem dX11_prepares_342 : decode cX11_prepares 342 = .ok (.invokestatic 299, 3) := by decide +kernel
theorem dX11_prepares_345 : decode cX11_prepares 345 = .ok (.baload, 1) := by decide +kernel
theorem dX11_prepares_346 : decode cX11_prepares 346 = .ok (.ifCond .eq 30, 3) := by decide +kernel
theorem dX11_prepares_349 : decode cX11_prepares 349 = .ok (.aload_n 0, 1) := by decide +kernel
theorem dX11_prepares_350 : decode cX11_prepares 350 = .ok (.aload_n 0, 1) := by decide +kernel
theorem dX11_prepares_351 : decode cX11_prepares 351 = .ok (.getfield 13, 3) := by decide +kernel
theorem dX11_prepares_354 : decode cX11_prepares 354 = .ok (.bipush 46, 2) := by decide +kernel
theorem dX11_prepares_356 : decode cX11_prepares 356 = .ok (.iconst 2, 1) := by decide +kernel
theorem dX11_prepares_357 : decode cX11_prepares 357 = .ok (.iload 6, 2) := by decide +kernel
theorem dX11_prepares_359 : decode cX11_prepares 359 = .ok (.imul, 1) := by decide +kernel
theorem dX11_prepares_360 : decode cX11_prepares 360 = .ok (.iadd, 1) := by decide +kernel
theorem dX11_prepares_361 : decode cX11_prepares 361 = .ok (.iaload, 1) := by decide +kernel
theorem dX11_prepares_362 : decode cX11_prepares 362 = .ok (.iload 8, 2) := by decide +kernel
theorem dX11_prepares_364 : decode cX11_prepares 364 = .ok (.iload 4, 2) := by decide +kernel
theorem dX11_prepares_366 : decode cX11_prepares 366 = .ok (.invokevirtual 308, 3) := by decide +kernel
theorem dX11_prepares_369 : decode cX11_prepares 369 = .ok (.ifCond .eq 7, 3) := by decide +kernel
theorem dX11_prepares_372 : decode cX11_prepares 372 = .ok (.iconst 1, 1) := by decide +kernel
theorem dX11_prepares_373 : decode cX11_prepares 373 = .ok (.goto 4, 3) := by decide +kernel
theorem dX11_prepares_376 : decode cX11_prepares 376 = .ok (.iconst 0, 1) := by decide +kernel
theorem dX11_prepares_377 : decode cX11_prepares 377 = .ok (.bastore, 1) := by decide +kernel
theorem dX11_prepares_378 : decode cX11_prepares 378 = .ok (.iinc 8 1, 3) := by decide +kernel
theorem dX11_prepares_381 : decode cX11_prepares 381 = .ok (.goto (-74), 3) := by decide +kernel
theorem dX11_prepares_384 : decode cX11_prepares 384 = .ok (.iinc 6 1, 3) := by decide +kernel
theorem dX11_prepares_387 : decode cX11_prepares 387 = .ok (.goto (-131), 3) := by decide +kernel
theorem dX11_prepares_390 : decode cX11_prepares 390 = .ok (.iload 5, 2) := by decide +kernel
theorem dX11_prepares_392 : decode cX11_prepares 392 = .ok (.ireturn, 1) := by decide +kernel
theorem dX11_canGo_0 : decode cX11_canGo 0 = .ok (.aload_n 0, 1) := by decide +kernel
theorem dX11_canGo_1 : decode cX11_canGo 1 = .ok (.iload_n 1, 1) := by decide +kernel
theorem dX11_canGo_2 : decode cX11_canGo 2 = .ok (.iconst 1, 1) := by decide +kernel
theorem dX11_canGo_3 : decode cX11_canGo 3 = .ok (.iconst 1, 1) := by decide +kernel
theorem dX11_canGo_4 : decode cX11_canGo 4 = .ok (.invokevirtual 288, 3) := by decide +kernel
theorem dX11_canGo_7 : decode cX11_canGo 7 = .ok (.istore 4, 2) := by decide +kernel
theorem dX11_canGo_9 : decode cX11_canGo 9 = .ok (.aload_n 0, 1) := by decide +kernel
theorem dX11_canGo_10 : decode cX11_canGo 10 = .ok (.getfield 296, 3) := by decide +kernel
theorem dX11_canGo_13 : decode cX11_canGo 13 = .ok (.iload_n 1, 1) := by decide +kernel
theorem dX11_canGo_14 : decode cX11_canGo 14 = .ok (.ishr, 1) := by decide +kernel
theorem dX11_canGo_15 : decode cX11_canGo 15 = .ok (.iconst 1, 1) := by decide +kernel
theorem dX11_canGo_16 : decode cX11_canGo 16 = .ok (.iand, 1) := by decide +kernel
theorem dX11_canGo_17 : decode cX11_canGo 17 = .ok (.ifCond .eq 42, 3) := by decide +kernel
theorem dX11_canGo_20 : decode cX11_canGo 20 = .ok (.aload_n 0, 1) := by decide +kernel
theorem dX11_canGo_21 : decode cX11_canGo 21 = .ok (.iload_n 1, 1) := by decide +kernel
theorem dX11_canGo_22 : decode cX11_canGo 22 = .ok (.invokevirtual 311, 3) := by decide +kernel
theorem dX11_canGo_25 : decode cX11_canGo 25 = .ok (.iload_n 3, 1) := by decide +kernel
theorem dX11_canGo_26 : decode cX11_canGo 26 = .ok (.iconst (-1), 1) := by decide +kernel
theorem dX11_canGo_27 : decode cX11_canGo 27 = .ok (.ixor, 1) := by decide +kernel
theorem dX11_canGo_28 : decode cX11_canGo 28 = .ok (.iand, 1) := by decide +kernel
theorem dX11_canGo_29 : decode cX11_canGo 29 = .ok (.ifCond .eq 30, 3) := by decide +kernel
theorem dX11_canGo_32 : decode cX11_canGo 32 = .ok (.iload_n 2, 1) := by decide +kernel
theorem dX11_canGo_33 : decode cX11_canGo 33 = .ok (.iload 4, 2) := by decide +kernel
theorem dX11_canGo_35 : decode cX11_canGo 35 = .ok (.iadd, 1) := by decide +kernel
theorem dX11_canGo_36 : decode cX11_canGo 36 = .ok (.aload_n 0, 1) := by decide +kernel
theorem dX11_canGo_37 : decode cX11_canGo 37 = .ok (.getfield 249, 3) := by decide +kernel
theorem dX11_canGo_40 : decode cX11_canGo 40 = .ok (.if_icmp .gt 19, 3) := by decide +kernel
theorem dX11_canGo_43 : decode cX11_canGo 43 = .ok (.aload_n 0, 1) := by decide +kernel
theorem dX11_canGo_44 : decode cX11_canGo 44 = .ok (.getfield 55, 3) := by decide +kernel
theorem dX11_canGo_47 : decode cX11_canGo 47 = .ok (.iload_n 1, 1) := by decide +kernel
theorem dX11_canGo_48 : decode cX11_canGo 48 = .ok (.iload_n 3, 1) := by decide +kernel
theorem dX11_canGo_49 : decode cX11_canGo 49 = .ok (.iload_n 2, 1) := by decide +kernel
theorem dX11_canGo_50 : decode cX11_canGo 50 = .ok (.invokestatic 302, 3) := by decide +kernel
theorem dX11_canGo_53 : decode cX11_canGo 53 = .ok (.iaload, 1) := by decide +kernel
theorem dX11_canGo_54 : decode cX11_canGo 54 = .ok (.iload 4, 2) := by decide +kernel
theorem dX11_canGo_56 : decode cX11_canGo 56 = .ok (.if_icmp .ge 5, 3) := by decide +kernel
theorem dX11_canGo_59 : decode cX11_canGo 59 = .ok (.iconst 0, 1) := by decide +kernel
theorem dX11_canGo_60 : decode cX11_canGo 60 = .ok (.ireturn, 1) := by decide +kernel
theorem dX11_canGo_61 : decode cX11_canGo 61 = .ok (.iconst 1, 1) := by decide +kernel
theorem dX11_canGo_62 : decode cX11_canGo 62 = .ok (.istore 5, 2) := by decide +kernel
theorem dX11_canGo_64 : decode cX11_canGo 64 = .ok (.iload_n 2, 1) := by decide +kernel
theorem dX11_canGo_65 : decode cX11_canGo 65 = .ok (.istore 6, 2) := by decide +kernel
theorem dX11_canGo_67 : decode cX11_canGo 67 = .ok (.iload 6, 2) := by decide +kernel
theorem dX11_canGo_69 : decode cX11_canGo 69 = .ok (.iload_n 2, 1) := by decide +kernel
theorem dX11_canGo_70 : decode cX11_canGo 70 = .ok (.iload 4, 2) := by decide +kernel
theorem dX11_canGo_72 : decode cX11_canGo 72 = .ok (.iadd, 1) := by decide +kernel
theorem dX11_canGo_73 : decode cX11_canGo 73 = .ok (.if_icmp .ge 35, 3) := by decide +kernel
theorem dX11_canGo_76 : decode cX11_canGo 76 = .ok (.iload 5, 2) := by decide +kernel
theorem dX11_canGo_78 : decode cX11_canGo 78 = .ok (.ifCond .eq 21, 3) := by decide +kernel
theorem dX11_canGo_81 : decode cX11_canGo 81 = .ok (.aload_n 0, 1) := by decide +kernel
theorem dX11_canGo_82 : decode cX11_canGo 82 = .ok (.getfield 43, 3) := by decide +kernel
theorem dX11_canGo_85 : decode cX11_canGo 85 = .ok (.iload 6, 2) := by decide +kernel
theorem dX11_canGo_87 : decode cX11_canGo 87 = .ok (.iload_n 3, 1) := by decide +kernel
theorem dX11_canGo_88 : decode cX11_canGo 88 = .ok (.invokestatic 299, 3) := by decide +kernel
theorem dX11_canGo_91 : decode cX11_canGo 91 = .ok (.baload, 1) := by decide +kernel
theorem dX11_canGo_92 : decode cX11_canGo 92 = .ok (.ifCond .eq 7, 3) := by decide +kernel
theorem dX11_canGo_95 : decode cX11_canGo 95 = .ok (.iconst 1, 1) := by decide +kernel
theorem dX11_canGo_96 : decode cX11_canGo 96 = .ok (.goto 4, 3) := by decide +kernel
theorem dX11_canGo_99 : decode cX11_canGo 99 = .ok (.iconst 0, 1) := by decide +kernel
theorem dX11_canGo_100 : decode cX11_canGo 100 = .ok (.istore 5, 2) := by decide +kernel
theorem dX11_canGo_102 : decode cX11_canGo 102 = .ok (.iinc 6 1, 3) := by decide +kernel
theorem dX11_canGo_105 : decode cX11_canGo 105 = .ok (.goto (-38), 3) := by decide +kernel
theorem dX11_canGo_108 : decode cX11_canGo 108 = .ok (.iload 5, 2) := by decide +kernel
theorem dX11_canGo_110 : decode cX11_canGo 110 = .ok (.ifCond .eq 29, 3) := by decide +kernel
theorem dX11_canGo_113 : decode cX11_canGo 113 = .ok (.aload_n 0, 1) := by decide +kernel
theorem dX11_canGo_114 : decode cX11_canGo 114 = .ok (.getfield 43, 3) := by decide +kernel
theorem dX11_canGo_117 : decode cX11_canGo 117 = .ok (.iload_n 2, 1) := by decide +kernel
theorem dX11_canGo_118 : decode cX11_canGo 118 = .ok (.iload 4, 2) := by decide +kernel
theorem dX11_canGo_120 : decode cX11_canGo 120 = .ok (.iadd, 1) := by decide +kernel
theorem dX11_canGo_121 : decode cX11_canGo 121 = .ok (.iload_n 3, 1) := by decide +kernel
theorem dX11_canGo_122 : decode cX11_canGo 122 = .ok (.aload_n 0, 1) := by decide +kernel
theorem dX11_canGo_123 : decode cX11_canGo 123 = .ok (.iload_n 1, 1) := by decide +kernel
theorem dX11_canGo_124 : decode cX11_canGo 124 = .ok (.invokevirtual 311, 3) := by decide +kernel
theorem dX11_canGo_127 : decode cX11_canGo 127 = .ok (.ior, 1) := by decide +kernel
theorem dX11_canGo_128 : decode cX11_canGo 128 = .ok (.invokestatic 299, 3) := by decide +kernel
theorem dX11_canGo_131 : decode cX11_canGo 131 = .ok (.baload, 1) := by decide +kernel
theorem dX11_canGo_132 : decode cX11_canGo 132 = .ok (.ifCond .eq 7, 3) := by decide +kernel
theorem dX11_canGo_135 : decode cX11_canGo 135 = .ok (.iconst 1, 1) := by decide +kernel
theorem dX11_canGo_136 : decode cX11_canGo 136 = .ok (.goto 4, 3) := by decide +kernel
theorem dX11_canGo_139 : decode cX11_canGo 139 = .ok (.iconst 0, 1) := by decide +kernel
theorem dX11_canGo_140 : decode cX11_canGo 140 = .ok (.ireturn, 1) := by decide +kernel
theorem dX11_goesOnwards_0 : decode cX11_goesOnwards 0 = .ok (.iconst 0, 1) := by decide +kernel
theorem dX11_goesOnwards_1 : decode cX11_goesOnwards 1 = .ok (.istore_n 1, 1) := by decide +kernel
theorem dX11_goesOnwards_2 : decode cX11_goesOnwards 2 = .ok (.iload_n 1, 1) := by decide +kernel
theorem dX11_goesOnwards_3 : decode cX11_goesOnwards 3 = .ok (.aload_n 0, 1) := by decide +kernel
theorem dX11_goesOnwards_4 : decode cX11_goesOnwards 4 = .ok (.getfield 249, 3) := by decide +kernel
theorem dX11_goesOnwards_7 : decode cX11_goesOnwards 7 = .ok (.bipush 16, 2) := by decide +kernel
theorem dX11_goesOnwards_9 : decode cX11_goesOnwards 9 = .ok (.invokestatic 299, 3) := by decide +kernel
theorem dX11_goesOnwards_12 : decode cX11_goesOnwards 12 = .ok (.if_icmp .ge 16, 3) := by decide +kernel
theorem dX11_goesOnwards_15 : decode cX11_goesOnwards 15 = .ok (.aload_n 0, 1) := by decide +kernel
theorem dX11_goesOnwards_16 : decode cX11_goesOnwards 16 = .ok (.getfield 46, 3) := by decide +kernel
theorem dX11_goesOnwards_19 : decode cX11_goesOnwards 19 = .ok (.iload_n 1, 1) := by decide +kernel
theorem dX11_goesOnwards_20 : decode cX11_goesOnwards 20 = .ok (.iconst 0, 1) := by decide +kernel
theorem dX11_goesOnwards_21 : decode cX11_goesOnwards 21 = .ok (.bastore, 1) := by decide +kernel
theorem dX11_goesOnwards_22 : decode cX11_goesOnwards 22 = .ok (.iinc 1 1, 3) := by decide +kernel
theorem dX11_goesOnwards_25 : decode cX11_goesOnwards 25 = .ok (.goto (-23), 3) := by decide +kernel
theorem dX11_goesOnwards_28 : decode cX11_goesOnwards 28 = .ok (.aload_n 0, 1) := by decide +kernel
theorem dX11_goesOnwards_29 : decode cX11_goesOnwards 29 = .ok (.getfield 46, 3) := by decide +kernel
theorem dX11_goesOnwards_32 : decode cX11_goesOnwards 32 = .ok (.iconst 0, 1) := by decide +kernel
theorem dX11_goesOnwards_33 : decode cX11_goesOnwards 33 = .ok (.aload_n 0, 1) := by decide +kernel
theorem dX11_goesOnwards_34 : decode cX11_goesOnwards 34 = .ok (.getfield 43, 3) := by decide +kernel
theorem dX11_goesOnwards_37 : decode cX11_goesOnwards 37 = .ok (.iconst 0, 1) := by decide +kernel
theorem dX11_goesOnwards_38 : decode cX11_goesOnwards 38 = .ok (.baload, 1) := by decide +kernel
theorem dX11_goesOnwards_39 : decode cX11_goesOnwards 39 = .ok (.bastore, 1) := by decide +kernel
theorem dX11_goesOnwards_40 : decode cX11_goesOnwards 40 = .ok (.iconst 0, 1) := by decide +kernel
theorem dX11_goesOnwards_41 : decode cX11_goesOnwards 41 = .ok (.istore_n 1, 1) := by decide +kernel
theorem dX11_goesOnwards_42 : decode cX11_goesOnwards 42 = .ok (.iload_n 1, 1) := by decide +kernel
theorem dX11_goesOnwards_43 : decode cX11_goesOnwards 43 = .ok (.aload_n 0, 1) := by decide +kernel
theorem dX11_goesOnwards_44 : decode cX11_goesOnwards 44 = .ok (.getfield 249, 3) := by decide +kernel
theorem dX11_goesOnwards_47 : decode cX11_goesOnwards 47 = .ok (.if_icmp .ge 141, 3) := by decide +kernel
theorem dX11_goesOnwards_50 : decode cX11_goesOnwards 50 = .ok (.iconst 0, 1) := by decide +kernel
theorem dX11_goesOnwards_51 : decode cX11_goesOnwards 51 = .ok (.istore_n 2, 1) := by decide +kernel
theorem dX11_goesOnwards_52 : decode cX11_goesOnwards 52 = .ok (.iload_n 2, 1) := by decide +kernel
theorem dX11_goesOnwards_53 : decode cX11_goesOnwards 53 = .ok (.bipush 16, 2) := by decide +kernel
theorem dX11_goesOnwards_55 : decode cX11_goesOnwards 55 = .ok (.if_icmp .ge 127, 3) := by decide +kernel
theorem dX11_goesOnwards_58 : decode cX11_goesOnwards 58 = .ok (.aload_n 0, 1) := by decide +kernel
theorem dX11_goesOnwards_59 : decode cX11_goesOnwards 59 = .ok (.getfield 46, 3) := by decide +kernel
theorem dX11_goesOnwards_62 : decode cX11_goesOnwards 62 = .ok (.iload_n 1, 1) := by decide +kernel
theorem dX11_goesOnwards_63 : decode cX11_goesOnwards 63 = .ok (.iload_n 2, 1) := by decide +kernel
theorem dX11_goesOnwards_64 : decode cX11_goesOnwards 64 = .ok (.invokestatic 299, 3) := by decide +kernel
theorem dX11_goesOnwards_67 : decode cX11_goesOnwards 67 = .ok (.baload, 1) := by decide +kernel
theorem dX11_goesOnwards_68 : decode cX11_goesOnwards 68 = .ok (.ifCond .ne 6, 3) := by decide +kernel
theorem dX11_goesOnwards_71 : decode cX11_goesOnwards 71 = .ok (.goto 105, 3) := by decide +kernel
theorem dX11_goesOnwards_74 : decode cX11_goesOnwards 74 = .ok (.iconst 0, 1) := by decide +kernel
theorem dX11_goesOnwards_75 : decode cX11_goesOnwards 75 = .ok (.istore_n 3, 1) := by decide +kernel
theorem dX11_goesOnwards_76 : decode cX11_goesOnwards 76 = .ok (.iload_n 3, 1) := by decide +kernel
theorem dX11_goesOnwards_77 : decode cX11_goesOnwards 77 = .ok (.iload_n 2, 1) := by decide +kernel
theorem dX11_goesOnwards_78 : decode cX11_goesOnwards 78 = .ok (.if_icmp .gt 45, 3) := by decide +kernel
theorem dX11_goesOnwards_81 : decode cX11_goesOnwards 81 = .ok (.iload_n 3, 1) := by decide +kernel
theorem dX11_goesOnwards_82 : decode cX11_goesOnwards 82 = .ok (.iload_n 2, 1) := by decide +kernel
theorem dX11_goesOnwards_83 : decode cX11_goesOnwards 83 = .ok (.iconst (-1), 1) := by decide +kernel
theorem dX11_goesOnwards_84 : decode cX11_goesOnwards 84 = .ok (.ixor, 1) := by decide +kernel
theorem dX11_goesOnwards_85 : decode cX11_goesOnwards 85 = .ok (.iand, 1) := by decide +kernel
theorem dX11_goesOnwards_86 : decode cX11_goesOnwards 86 = .ok (.ifCond .ne 31, 3) := by decide +kernel
theorem dX11_goesOnwards_89 : decode cX11_goesOnwards 89 = .ok (.aload_n 0, 1) := by decide +kernel
theorem dX11_goesOnwards_90 : decode cX11_goesOnwards 90 = .ok (.getfield 43, 3) := by decide +kernel
theorem dX11_goesOnwards_93 : decode cX11_goesOnwards 93 = .ok (.iload_n 1, 1) := by decide +kernel
theorem dX11_goesOnwards_94 : decode cX11_goesOnwards 94 = .ok (.iconst 1, 1) := by decide +kernel
theorem dX11_goesOnwards_95 : decode cX11_goesOnwards 95 = .ok (.iadd, 1) := by decide +kernel
theorem dX11_goesOnwards_96 : decode cX11_goesOnwards 96 = .ok (.iload_n 3, 1) := by decide +kernel
theorem dX11_goesOnwards_97 : decode cX11_goesOnwards 97 = .ok (.invokestatic 299, 3) := by decide +kernel
theorem dX11_goesOnwards_100 : decode cX11_goesOnwards 100 = .ok (.baload, 1) := by decide +kernel
theorem dX11_goesOnwards_101 : decode cX11_goesOnwards 101 = .ok (.ifCond .eq 16, 3) := by decide +kernel
theorem dX11_goesOnwards_104 : decode cX11_goesOnwards 104 = .ok (.aload_n 0, 1) := by decide +kernel
theorem dX11_goesOnwards_105 : decode cX11_goesOnwards 105 = .ok (.getfield 46, 3) := by decide +kernel
theorem dX11_goesOnwards_108 : decode cX11_goesOnwards 108 = .ok (.iload_n 1, 1) := by decide +kernel
theorem dX11_goesOnwards_109 : decode cX11_goesOnwards 109 = .ok (.iconst 1, 1) := by decide +kernel
theorem dX11_goesOnwards_110 : decode cX11_goesOnwards 110 = .ok (.iadd, 1) := by decide +kernel
theorem dX11_goesOnwards_111 : decode cX11_goesOnwards 111 = .ok (.iload_n 3, 1) := by decide +kernel
theorem dX11_goesOnwards_112 : decode cX11_goesOnwards 112 = .ok (.invokestatic 299, 3) := by decide +kernel
theorem dX11_goesOnwards_115 : decode cX11_goesOnwards 115 = .ok (.iconst 1, 1) := by decide +kernel
theorem dX11_goesOnwards_116 : decode cX11_goesOnwards 116 = .ok (.bastore, 1) := by decide +kernel
theorem dX11_goesOnwards_117 : decode cX11_goesOnwards 117 = .ok (.iinc 3 1, 3) := by decide +kernel
theorem dX11_goesOnwards_120 : decode cX11_goesOnwards 120 = .ok (.goto (-44), 3) := by decide +kernel
theorem dX11_goesOnwards_123 : decode cX11_goesOnwards 123 = .ok (.iconst 0, 1) := by decide +kernel
theorem dX11_goesOnwards_124 : decode cX11_goesOnwards 124 = .ok (.istore_n 3, 1) := by decide +kernel
theorem dX11_goesOnwards_125 : decode cX11_goesOnwards 125 = .ok (.iload_n 3, 1) := by decide +kernel
theorem dX11_goesOnwards_126 : decode cX11_goesOnwards 126 = .ok (.aload_n 0, 1) := by decide +kernel
theorem dX11_goesOnwards_127 : decode cX11_goesOnwards 127 = .ok (.getfield 13, 3) := by decide +kernel
theorem dX11_goesOnwards_130 : decode cX11_goesOnwards 130 = .ok (.iconst 2, 1) := by decide +kernel
theorem dX11_goesOnwards_131 : decode cX11_goesOnwards 131 = .ok (.iaload, 1) := by decide +kernel
theorem dX11_goesOnwards_132 : decode cX11_goesOnwards 132 = .ok (.if_icmp .ge 44, 3) := by decide +kernel
theorem dX11_goesOnwards_135 : decode cX11_goesOnwards 135 = .ok (.aload_n 0, 1) := by decide +kernel
theorem dX11_goesOnwards_136 : decode cX11_goesOnwards 136 = .ok (.iload_n 3, 1) := by decide +kernel
theorem dX11_goesOnwards_137 : decode cX11_goesOnwards 137 = .ok (.iload_n 1, 1) := by decide +kernel
theorem dX11_goesOnwards_138 : decode cX11_goesOnwards 138 = .ok (.iload_n 2, 1) := by decide +kernel
theorem dX11_goesOnwards_139 : decode cX11_goesOnwards 139 = .ok (.invokevirtual 314, 3) := by decide +kernel
theorem dX11_goesOnwards_142 : decode cX11_goesOnwards 142 = .ok (.ifCond .eq 28, 3) := by decide +kernel
theorem dX11_goesOnwards_145 : decode cX11_goesOnwards 145 = .ok (.aload_n 0, 1) := by decide +kernel
theorem dX11_goesOnwards_146 : decode cX11_goesOnwards 146 = .ok (.getfield 46, 3) := by decide +kernel
theorem dX11_goesOnwards_149 : decode cX11_goesOnwards 149 = .ok (.iload_n 1, 1) := by decide +kernel
theorem dX11_goesOnwards_150 : decode cX11_goesOnwards 150 = .ok (.aload_n 0, 1) := by decide +kernel
theorem dX11_goesOnwards_151 : decode cX11_goesOnwards 151 = .ok (.iload_n 3, 1) := by decide +kernel
theorem dX11_goesOnwards_152 : decode cX11_goesOnwards 152 = .ok (.iconst 1, 1) := by decide +kernel
theorem dX11_goesOnwards_153 : decode cX11_goesOnwards 153 = .ok (.iconst 1, 1) := by decide +kernel
theorem dX11_goesOnwards_154 : decode cX11_goesOnwards 154 = .ok (.invokevirtual 288, 3) := by decide +kernel
theorem dX11_goesOnwards_157 : decode cX11_goesOnwards 157 = .ok (.iadd, 1) := by decide +kernel
theorem dX11_goesOnwards_158 : decode cX11_goesOnwards 158 = .ok (.iload_n 2, 1) := by decide +kernel
theorem dX11_goesOnwards_159 : decode cX11_goesOnwards 159 = .ok (.aload_n 0, 1) := by decide +kernel
theorem dX11_goesOnwards_160 : decode cX11_goesOnwards 160 = .ok (.iload_n 3, 1) := by decide +kernel
theorem dX11_goesOnwards_161 : decode cX11_goesOnwards 161 = .ok (.invokevirtual 311, 3) := by decide +kernel
theorem dX11_goesOnwards_164 : decode cX11_goesOnwards 164 = .ok (.ior, 1) := by decide +kernel
theorem dX11_goesOnwards_165 : decode cX11_goesOnwards 165 = .ok (.invokestatic 299, 3) := by decide +kernel
theorem dX11_goesOnwards_168 : decode cX11_goesOnwards 168 = .ok (.iconst 1, 1) := by decide +kernel
theorem dX11_goesOnwards_169 : decode cX11_goesOnwards 169 = .ok (.bastore, 1) := by decide +kernel
theorem dX11_goesOnwards_170 : decode cX11_goesOnwards 170 = .ok (.iinc 3 1, 3) := by decide +kernel
theorem dX11_goesOnwards_173 : decode cX11_goesOnwards 173 = .ok (.goto (-48), 3) := by decide +kernel
theorem dX11_goesOnwards_176 : decode cX11_goesOnwards 176 = .ok (.iinc 2 1, 3) := by decide +kernel
theorem dX11_goesOnwards_179 : decode cX11_goesOnwards 179 = .ok (.goto (-127), 3) := by decide +kernel
theorem dX11_goesOnwards_182 : decode cX11_goesOnwards 182 = .ok (.iinc 1 1, 3) := by decide +kernel
theorem dX11_goesOnwards_185 : decode cX11_goesOnwards 185 = .ok (.goto (-143), 3) := by decide +kernel
theorem dX11_goesOnwards_188 : decode cX11_goesOnwards 188 = .ok (.return_, 1) := by decide +kernel
theorem dX11_goesBackwards_0 : decode cX11_goesBackwards 0 = .ok (.iconst 0, 1) := by decide +kernel
theorem dX11_goesBackwards_1 : decode cX11_goesBackwards 1 = .ok (.istore_n 1, 1) := by decide +kernel
theorem dX11_goesBackwards_2 : decode cX11_goesBackwards 2 = .ok (.iload_n 1, 1) := by decide +kernel
theorem dX11_goesBackwards_3 : decode cX11_goesBackwards 3 = .ok (.aload_n 0, 1) := by decide +kernel
theorem dX11_goesBackwards_4 : decode cX11_goesBackwards 4 = .ok (.getfield 249, 3) := by decide +kernel
theorem dX11_goesBackwards_7 : decode cX11_goesBackwards 7 = .ok (.bipush 16, 2) := by decide +kernel
theorem dX11_goesBackwards_9 : decode cX11_goesBackwards 9 = .ok (.invokestatic 299, 3) := by decide +kernel
theorem dX11_goesBackwards_12 : decode cX11_goesBackwards 12 = .ok (.if_icmp .ge 16, 3) := by decide +kernel
theorem dX11_goesBackwards_15 : decode cX11_goesBackwards 15 = .ok (.aload_n 0, 1) := by decide +kernel
theorem dX11_goesBackwards_16 : decode cX11_goesBackwards 16 = .ok (.getfield 49, 3) := by decide +kernel
theorem dX11_goesBackwards_19 : decode cX11_goesBackwards 19 = .ok (.iload_n 1, 1) := by decide +kernel
theorem dX11_goesBackwards_20 : decode cX11_goesBackwards 20 = .ok (.iconst 0, 1) := by decide +kernel
theorem dX11_goesBackwards_21 : decode cX11_goesBackwards 21 = .ok (.bastore, 1) := by decide +kernel
theorem dX11_goesBackwards_22 : decode cX11_goesBackwards 22 = .ok (.iinc 1 1, 3) := by decide +kernel
theorem dX11_goesBackwards_25 : decode cX11_goesBackwards 25 = .ok (.goto (-23), 3) := by decide +kernel
theorem dX11_goesBackwards_28 : decode cX11_goesBackwards 28 = .ok (.aload_n 0, 1) := by decide +kernel
theorem dX11_goesBackwards_29 : decode cX11_goesBackwards 29 = .ok (.getfield 49, 3) := by decide +kernel
theorem dX11_goesBackwards_32 : decode cX11_goesBackwards 32 = .ok (.aload_n 0, 1) := by decide +kernel
theorem dX11_goesBackwards_33 : decode cX11_goesBackwards 33 = .ok (.getfield 249, 3) := by decide +kernel
theorem dX11_goesBackwards_36 : decode cX11_goesBackwards 36 = .ok (.iconst 0, 1) := by decide +kernel
theorem dX11_goesBackwards_37 : decode cX11_goesBackwards 37 = .ok (.invokestatic 299, 3) := by decide +kernel
theorem dX11_goesBackwards_40 : decode cX11_goesBackwards 40 = .ok (.aload_n 0, 1) := by decide +kernel
theorem dX11_goesBackwards_41 : decode cX11_goesBackwards 41 = .ok (.getfield 43, 3) := by decide +kernel
theorem dX11_goesBackwards_44 : decode cX11_goesBackwards 44 = .ok (.aload_n 0, 1) := by decide +kernel
theorem dX11_goesBackwards_45 : decode cX11_goesBackwards 45 = .ok (.getfield 249, 3) := by decide +kernel
theorem dX11_goesBackwards_48 : decode cX11_goesBackwards 48 = .ok (.iconst 0, 1) := by decide +kernel
theorem dX11_goesBackwards_49 : decode cX11_goesBackwards 49 = .ok (.invokestatic 299, 3) := by decide +kernel
theorem dX11_goesBackwards_52 : decode cX11_goesBackwards 52 = .ok (.baload, 1) := by decide +kernel
theorem dX11_goesBackwards_53 : decode cX11_goesBackwards 53 = .ok (.bastore, 1) := by decide +kernel
theorem dX11_goesBackwards_54 : decode cX11_goesBackwards 54 = .ok (.aload_n 0, 1) := by decide +kernel
theorem dX11_goesBackwards_55 : decode cX11_goesBackwards 55 = .ok (.getfield 249, 3) := by decide +kernel
theorem dX11_goesBackwards_58 : decode cX11_goesBackwards 58 = .ok (.iconst 1, 1) := by decide +kernel
theorem dX11_goesBackwards_59 : decode cX11_goesBackwards 59 = .ok (.isub, 1) := by decide +kernel
theorem dX11_goesBackwards_60 : decode cX11_goesBackwards 60 = .ok (.istore_n 1, 1) := by decide +kernel
theorem dX11_goesBackwards_61 : decode cX11_goesBackwards 61 = .ok (.iload_n 1, 1) := by decide +kernel
theorem dX11_goesBackwards_62 : decode cX11_goesBackwards 62 = .ok (.ifCond .lt 177, 3) := by decide +kernel
theorem dX11_goesBackwards_65 : decode cX11_goesBackwards 65 = .ok (.iconst 0, 1) := by decide +kernel
theorem dX11_goesBackwards_66 : decode cX11_goesBackwards 66 = .ok (.istore_n 2, 1) := by decide +kernel
theorem dX11_goesBackwards_67 : decode cX11_goesBackwards 67 = .ok (.iload_n 2, 1) := by decide +kernel
theorem dX11_goesBackwards_68 : decode cX11_goesBackwards 68 = .ok (.bipush 16, 2) := by decide +kernel
theorem dX11_goesBackwards_70 : decode cX11_goesBackwards 70 = .ok (.if_icmp .ge 163, 3) := by decide +kernel
theorem dX11_goesBackwards_73 : decode cX11_goesBackwards 73 = .ok (.iconst 0, 1) := by decide +kernel
theorem dX11_goesBackwards_74 : decode cX11_goesBackwards 74 = .ok (.istore_n 3, 1) := by decide +kernel
theorem dX11_goesBackwards_75 : decode cX11_goesBackwards 75 = .ok (.iconst 0, 1) := by decide +kernel
theorem dX11_goesBackwards_76 : decode cX11_goesBackwards 76 = .ok (.istore 4, 2) := by decide +kernel
theorem dX11_goesBackwards_78 : decode cX11_goesBackwards 78 = .ok (.iload 4, 2) := by decide +kernel
theorem dX11_goesBackwards_80 : decode cX11_goesBackwards 80 = .ok (.iload_n 2, 1) := by decide +kernel
theorem dX11_goesBackwards_81 : decode cX11_goesBackwards 81 = .ok (.if_icmp .gt 44, 3) := by decide +kernel
theorem dX11_goesBackwards_84 : decode cX11_goesBackwards 84 = .ok (.iload_n 3, 1) := by decide +kernel
theorem dX11_goesBackwards_85 : decode cX11_goesBackwards 85 = .ok (.ifCond .ne 40, 3) := by decide +kernel
theorem dX11_goesBackwards_88 : decode cX11_goesBackwards 88 = .ok (.iload 4, 2) := by decide +kernel
theorem dX11_goesBackwards_90 : decode cX11_goesBackwards 90 = .ok (.iload_n 2, 1) := by decide +kernel
theorem dX11_goesBackwards_91 : decode cX11_goesBackwards 91 = .ok (.iconst (-1), 1) := by decide +kernel
theorem dX11_goesBackwards_92 : decode cX11_goesBackwards 92 = .ok (.ixor, 1) := by decide +kernel
theorem dX11_goesBackwards_93 : decode cX11_goesBackwards 93 = .ok (.iand, 1) := by decide +kernel
theorem dX11_goesBackwards_94 : decode cX11_goesBackwards 94 = .ok (.ifCond .ne 23, 3) := by decide +kernel
theorem dX11_goesBackwards_97 : decode cX11_goesBackwards 97 = .ok (.aload_n 0, 1) := by decide +kernel
theorem dX11_goesBackwards_98 : decode cX11_goesBackwards 98 = .ok (.getfield 49, 3) := by decide +kernel
theorem dX11_goesBackwards_101 : decode cX11_goesBackwards 101 = .ok (.iload_n 1, 1) := by decide +kernel
theorem dX11_goesBackwards_102 : decode cX11_goesBackwards 102 = .ok (.iconst 1, 1) := by decide +kernel
theorem dX11_goesBackwards_103 : decode cX11_goesBackwards 103 = .ok (.iadd, 1) := by decide +kernel
theorem dX11_goesBackwards_104 : decode cX11_goesBackwards 104 = .ok (.iload 4, 2) := by decide +kernel
theorem dX11_goesBackwards_106 : decode cX11_goesBackwards 106 = .ok (.invokestatic 299, 3) := by decide +kernel
theorem dX11_goesBackwards_109 : decode cX11_goesBackwards 109 = .ok (.baload, 1) := by decide +kernel
theorem dX11_goesBackwards_110 : decode cX11_goesBackwards 110 = .ok (.ifCond .eq 7, 3) := by decide +kernel
theorem dX11_goesBackwards_113 : decode cX11_goesBackwards 113 = .ok (.iconst 1, 1) := by decide +kernel
theorem dX11_goesBackwards_114 : decode cX11_goesBackwards 114 = .ok (.goto 4, 3) := by decide +kernel
theorem dX11_goesBackwards_117 : decode cX11_goesBackwards 117 = .ok (.iconst 0, 1) := by decide +kernel
theorem dX11_goesBackwards_118 : decode cX11_goesBackwards 118 = .ok (.istore_n 3, 1) := by decide +kernel
theorem dX11_goesBackwards_119 : decode cX11_goesBackwards 119 = .ok (.iinc 4 1, 3) := by decide +kernel
theorem dX11_goesBackwards_122 : decode cX11_goesBackwards 122 = .ok (.goto (-44), 3) := by decide +kernel
theorem dX11_goesBackwards_125 : decode cX11_goesBackwards 125 = .ok (.iconst 0, 1) := by decide +kernel
theorem dX11_goesBackwards_126 : decode cX11_goesBackwards 126 = .ok (.istore 4, 2) := by decide +kernel
theorem dX11_goesBackwards_128 : decode cX11_goesBackwards 128 = .ok (.iload 4, 2) := by decide +kernel
theorem dX11_goesBackwards_130 : decode cX11_goesBackwards 130 = .ok (.aload_n 0, 1) := by decide +kernel
theorem dX11_goesBackwards_131 : decode cX11_goesBackwards 131 = .ok (.getfield 13, 3) := by decide +kernel
theorem dX11_goesBackwards_134 : decode cX11_goesBackwards 134 = .ok (.iconst 2, 1) := by decide +kernel
theorem dX11_goesBackwards_135 : decode cX11_goesBackwards 135 = .ok (.iaload, 1) := by decide +kernel
theorem dX11_goesBackwards_136 : decode cX11_goesBackwards 136 = .ok (.if_icmp .ge 59, 3) := by decide +kernel
theorem dX11_goesBackwards_139 : decode cX11_goesBackwards 139 = .ok (.iload_n 3, 1) := by decide +kernel
theorem dX11_goesBackwards_140 : decode cX11_goesBackwards 140 = .ok (.ifCond .ne 55, 3) := by decide +kernel
theorem dX11_goesBackwards_143 : decode cX11_goesBackwards 143 = .ok (.aload_n 0, 1) := by decide +kernel
theorem dX11_goesBackwards_144 : decode cX11_goesBackwards 144 = .ok (.iload 4, 2) := by decide +kernel
theorem dX11_goesBackwards_146 : decode cX11_goesBackwards 146 = .ok (.iload_n 1, 1) := by decide +kernel
theorem dX11_goesBackwards_147 : decode cX11_goesBackwards 147 = .ok (.iload_n 2, 1) := by decide +kernel
theorem dX11_goesBackwards_148 : decode cX11_goesBackwards 148 = .ok (.invokevirtual 314, 3) := by decide +kernel
theorem dX11_goesBackwards_151 : decode cX11_goesBackwards 151 = .ok (.ifCond .eq 36, 3) := by decide +kernel
theorem dX11_goesBackwards_154 : decode cX11_goesBackwards 154 = .ok (.aload_n 0, 1) := by decide +kernel
theorem dX11_goesBackwards_155 : decode cX11_goesBackwards 155 = .ok (.getfield 49, 3) := by decide +kernel
theorem dX11_goesBackwards_158 : decode cX11_goesBackwards 158 = .ok (.iload_n 1, 1) := by decide +kernel
theorem dX11_goesBackwards_159 : decode cX11_goesBackwards 159 = .ok (.aload_n 0, 1) := by decide +kernel
theorem dX11_goesBackwards_160 : decode cX11_goesBackwards 160 = .ok (.iload 4, 2) := by decide +kernel
theorem dX11_goesBackwards_162 : decode cX11_goesBackwards 162 = .ok (.iconst 1, 1) := by decide +kernel
theorem dX11_goesBackwards_163 : decode cX11_goesBackwards 163 = .ok (.iconst 1, 1) := by decide +kernel
theorem dX11_goesBackwards_164 : decode cX11_goesBackwards 164 = .ok (.invokevirtual 288, 3) := by decide +kernel
theorem dX11_goesBackwards_167 : decode cX11_goesBackwards 167 = .ok (.iadd, 1) := by decide +kernel
theorem dX11_goesBackwards_168 : decode cX11_goesBackwards 168 = .ok (.iload_n 2, 1) := by decide +kernel
theorem dX11_goesBackwards_169 : decode cX11_goesBackwards 169 = .ok (.aload_n 0, 1) := by decide +kernel
theorem dX11_goesBackwards_170 : decode cX11_goesBackwards 170 = .ok (.iload 4, 2) := by decide +kernel
theorem dX11_goesBackwards_172 : decode cX11_goesBackwards 172 = .ok (.invokevirtual 311, 3) := by decide +kernel
theorem dX11_goesBackwards_175 : decode cX11_goesBackwards 175 = .ok (.ior, 1) := by decide +kernel
theorem dX11_goesBackwards_176 : decode cX11_goesBackwards 176 = .ok (.invokestatic 299, 3) := by decide +kernel
theorem dX11_goesBackwards_179 : decode cX11_goesBackwards 179 = .ok (.baload, 1) := by decide +kernel
theorem dX11_goesBackwards_180 : decode cX11_goesBackwards 180 = .ok (.ifCond .eq 7, 3) := by decide +kernel
theorem dX11_goesBackwards_183 : decode cX11_goesBackwards 183 = .ok (.iconst 1, 1) := by decide +kernel
theorem dX11_goesBackwards_184 : decode cX11_goesBackwards 184 = .ok (.goto 4, 3) := by decide +kernel
theorem dX11_goesBackwards_187 : decode cX11_goesBackwards 187 = .ok (.iconst 0, 1) := by decide +kernel
theorem dX11_goesBackwards_188 : decode cX11_goesBackwards 188 = .ok (.istore_n 3, 1) := by decide +kernel
theorem dX11_goesBackwards_189 : decode cX11_goesBackwards 189 = .ok (.iinc 4 1, 3) := by decide +kernel
theorem dX11_goesBackwards_192 : decode cX11_goesBackwards 192 = .ok (.goto (-64), 3) := by decide +kernel
theorem dX11_goesBackwards_195 : decode cX11_goesBackwards 195 = .ok (.aload_n 0, 1) := by decide +kernel
theorem dX11_goesBackwards_196 : decode cX11_goesBackwards 196 = .ok (.getfield 49, 3) := by decide +kernel
theorem dX11_goesBackwards_199 : decode cX11_goesBackwards 199 = .ok (.iload_n 1, 1) := by decide +kernel
theorem dX11_goesBackwards_200 : decode cX11_goesBackwards 200 = .ok (.iload_n 2, 1) := by decide +kernel
theorem dX11_goesBackwards_201 : decode cX11_goesBackwards 201 = .ok (.invokestatic 299, 3) := by decide +kernel
theorem dX11_goesBackwards_204 : decode cX11_goesBackwards 204 = .ok (.iload_n 3, 1) := by decide +kernel
theorem dX11_goesBackwards_205 : decode cX11_goesBackwards 205 = .ok (.ifCond .eq 20, 3) := by decide +kernel
theorem dX11_goesBackwards_208 : decode cX11_goesBackwards 208 = .ok (.aload_n 0, 1) := by decide +kernel
theorem dX11_goesBackwards_209 : decode cX11_goesBackwards 209 = .ok (.getfield 43, 3) := by decide +kernel
theorem dX11_goesBackwards_212 : decode cX11_goesBackwards 212 = .ok (.iload_n 1, 1) := by decide +kernel
theorem dX11_goesBackwards_213 : decode cX11_goesBackwards 213 = .ok (.iload_n 2, 1) := by decide +kernel
theorem dX11_goesBackwards_214 : decode cX11_goesBackwards 214 = .ok (.invokestatic 299, 3) := by decide +kernel
theorem dX11_goesBackwards_217 : decode cX11_goesBackwards 217 = .ok (.baload, 1) := by decide +kernel
theorem dX11_goesBackwards_218 : decode cX11_goesBackwards 218 = .ok (.ifCond .eq 7, 3) := by decide +kernel
theorem dX11_goesBackwards_221 : decode cX11_goesBackwards 221 = .ok (.iconst 1, 1) := by decide +kernel
theorem dX11_goesBackwards_222 : decode cX11_goesBackwards 222 = .ok (.goto 4, 3) := by decide +kernel
theorem dX11_goesBackwards_225 : decode cX11_goesBackwards 225 = .ok (.iconst 0, 1) := by decide +kernel
theorem dX11_goesBackwards_226 : decode cX11_goesBackwards 226 = .ok (.bastore, 1) := by decide +kernel
theorem dX11_goesBackwards_227 : decode cX11_goesBackwards 227 = .ok (.iinc 2 1, 3) := by decide +kernel
theorem dX11_goesBackwards_230 : decode cX11_goesBackwards 230 = .ok (.goto (-163), 3) := by decide +kernel
theorem dX11_goesBackwards_233 : decode cX11_goesBackwards 233 = .ok (.iinc 1 (-1), 3) := by decide +kernel
theorem dX11_goesBackwards_236 : decode cX11_goesBackwards 236 = .ok (.goto (-175), 3) := by decide +kernel
theorem dX11_goesBackwards_239 : decode cX11_goesBackwards 239 = .ok (.return_, 1) := by decide +kernel
theorem dX11_meets_0 : decode cX11_meets 0 = .ok (.aload_n 0, 1) := by decide +kernel
theorem dX11_meets_1 : decode cX11_meets 1 = .ok (.iload_n 1, 1) := by decide +kernel
theorem dX11_meets_2 : decode cX11_meets 2 = .ok (.iload_n 2, 1) := by decide +kernel
theorem dX11_meets_3 : decode cX11_meets 3 = .ok (.iconst 0, 1) := by decide +kernel
theorem dX11_meets_4 : decode cX11_meets 4 = .ok (.invokevirtual 317, 3) := by decide +kernel
theorem dX11_meets_7 : decode cX11_meets 7 = .ok (.istore_n 3, 1) := by decide +kernel
theorem dX11_meets_8 : decode cX11_meets 8 = .ok (.aload_n 0, 1) := by decide +kernel
theorem dX11_meets_9 : decode cX11_meets 9 = .ok (.invokevirtual 321, 3) := by decide +kernel
theorem dX11_meets_12 : decode cX11_meets 12 = .ok (.aload_n 0, 1) := by decide +kernel
theorem dX11_meets_13 : decode cX11_meets 13 = .ok (.invokevirtual 324, 3) := by decide +kernel
theorem dX11_meets_16 : decode cX11_meets 16 = .ok (.iconst 0, 1) := by decide +kernel
theorem dX11_meets_17 : decode cX11_meets 17 = .ok (.istore 4, 2) := by decide +kernel
theorem dX11_meets_19 : decode cX11_meets 19 = .ok (.iload 4, 2) := by decide +kernel
theorem dX11_meets_21 : decode cX11_meets 21 = .ok (.aload_n 0, 1) := by decide +kernel
theorem dX11_meets_22 : decode cX11_meets 22 = .ok (.getfield 249, 3) := by decide +kernel
theorem dX11_meets_25 : decode cX11_meets 25 = .ok (.bipush 16, 2) := by decide +kernel
theorem dX11_meets_27 : decode cX11_meets 27 = .ok (.invokestatic 299, 3) := by decide +kernel
theorem dX11_meets_30 : decode cX11_meets 30 = .ok (.if_icmp .ge 45, 3) := by decide +kernel
theorem dX11_meets_33 : decode cX11_meets 33 = .ok (.aload_n 0, 1) := by decide +kernel
theorem dX11_meets_34 : decode cX11_meets 34 = .ok (.getfield 52, 3) := by decide +kernel
theorem dX11_meets_37 : decode cX11_meets 37 = .ok (.iload 4, 2) := by decide +kernel
theorem dX11_meets_39 : decode cX11_meets 39 = .ok (.iload_n 3, 1) := by decide +kernel
theorem dX11_meets_40 : decode cX11_meets 40 = .ok (.ifCond .eq 27, 3) := by decide +kernel
theorem dX11_meets_43 : decode cX11_meets 43 = .ok (.aload_n 0, 1) := by decide +kernel
theorem dX11_meets_44 : decode cX11_meets 44 = .ok (.getfield 46, 3) := by decide +kernel
theorem dX11_meets_47 : decode cX11_meets 47 = .ok (.iload 4, 2) := by decide +kernel
theorem dX11_meets_49 : decode cX11_meets 49 = .ok (.baload, 1) := by decide +kernel
theorem dX11_meets_50 : decode cX11_meets 50 = .ok (.ifCond .eq 17, 3) := by decide +kernel
theorem dX11_meets_53 : decode cX11_meets 53 = .ok (.aload_n 0, 1) := by decide +kernel
theorem dX11_meets_54 : decode cX11_meets 54 = .ok (.getfield 49, 3) := by decide +kernel
theorem dX11_meets_57 : decode cX11_meets 57 = .ok (.iload 4, 2) := by decide +kernel
theorem dX11_meets_59 : decode cX11_meets 59 = .ok (.baload, 1) := by decide +kernel
theorem dX11_meets_60 : decode cX11_meets 60 = .ok (.ifCond .eq 7, 3) := by decide +kernel
theorem dX11_meets_63 : decode cX11_meets 63 = .ok (.iconst 1, 1) := by decide +kernel
theorem dX11_meets_64 : decode cX11_meets 64 = .ok (.goto 4, 3) := by decide +kernel
theorem dX11_meets_67 : decode cX11_meets 67 = .ok (.iconst 0, 1) := by decide +kernel
theorem dX11_meets_68 : decode cX11_meets 68 = .ok (.bastore, 1) := by decide +kernel
theorem dX11_meets_69 : decode cX11_meets 69 = .ok (.iinc 4 1, 3) := by decide +kernel
theorem dX11_meets_72 : decode cX11_meets 72 = .ok (.goto (-53), 3) := by decide +kernel
theorem dX11_meets_75 : decode cX11_meets 75 = .ok (.iconst 0, 1) := by decide +kernel
theorem dX11_meets_76 : decode cX11_meets 76 = .ok (.istore 4, 2) := by decide +kernel
theorem dX11_meets_78 : decode cX11_meets 78 = .ok (.iload 4, 2) := by decide +kernel
theorem dX11_meets_80 : decode cX11_meets 80 = .ok (.aload_n 0, 1) := by decide +kernel
theorem dX11_meets_81 : decode cX11_meets 81 = .ok (.getfield 249, 3) := by decide +kernel
theorem dX11_meets_84 : decode cX11_meets 84 = .ok (.if_icmp .ge 147, 3) := by decide +kernel
theorem dX11_meets_87 : decode cX11_meets 87 = .ok (.iconst 0, 1) := by decide +kernel
theorem dX11_meets_88 : decode cX11_meets 88 = .ok (.istore 5, 2) := by decide +kernel
theorem dX11_meets_90 : decode cX11_meets 90 = .ok (.iload 5, 2) := by decide +kernel
theorem dX11_meets_92 : decode cX11_meets 92 = .ok (.bipush 16, 2) := by decide +kernel
theorem dX11_meets_94 : decode cX11_meets 94 = .ok (.if_icmp .ge 131, 3) := by decide +kernel
theorem dX11_meets_97 : decode cX11_meets 97 = .ok (.aload_n 0, 1) := by decide +kernel
theorem dX11_meets_98 : decode cX11_meets 98 = .ok (.getfield 46, 3) := by decide +kernel
theorem dX11_meets_101 : decode cX11_meets 101 = .ok (.iload 4, 2) := by decide +kernel
theorem dX11_meets_103 : decode cX11_meets 103 = .ok (.iload 5, 2) := by decide +kernel
theorem dX11_meets_105 : decode cX11_meets 105 = .ok (.invokestatic 299, 3) := by decide +kernel
theorem dX11_meets_108 : decode cX11_meets 108 = .ok (.baload, 1) := by decide +kernel
theorem dX11_meets_109 : decode cX11_meets 109 = .ok (.ifCond .ne 6, 3) := by decide +kernel
theorem dX11_meets_112 : decode cX11_meets 112 = .ok (.goto 107, 3) := by decide +kernel
theorem dX11_meets_115 : decode cX11_meets 115 = .ok (.iconst 0, 1) := by decide +kernel
theorem dX11_meets_116 : decode cX11_meets 116 = .ok (.istore 6, 2) := by decide +kernel
theorem dX11_meets_118 : decode cX11_meets 118 = .ok (.iload 6, 2) := by decide +kernel
theorem dX11_meets_120 : decode cX11_meets 120 = .ok (.aload_n 0, 1) := by decide +kernel
theorem dX11_meets_121 : decode cX11_meets 121 = .ok (.getfield 13, 3) := by decide +kernel
theorem dX11_meets_124 : decode cX11_meets 124 = .ok (.iconst 2, 1) := by decide +kernel
theorem dX11_meets_125 : decode cX11_meets 125 = .ok (.iaload, 1) := by decide +kernel
theorem dX11_meets_126 : decode cX11_meets 126 = .ok (.if_icmp .ge 93, 3) := by decide +kernel
theorem dX11_meets_129 : decode cX11_meets 129 = .ok (.aload_n 0, 1) := by decide +kernel
theorem dX11_meets_130 : decode cX11_meets 130 = .ok (.iload 6, 2) := by decide +kernel
theorem dX11_meets_132 : decode cX11_meets 132 = .ok (.iconst 1, 1) := by decide +kernel
theorem dX11_meets_133 : decode cX11_meets 133 = .ok (.iconst 1, 1) := by decide +kernel
theorem dX11_meets_134 : decode cX11_meets 134 = .ok (.invokevirtual 288, 3) := by decide +kernel
theorem dX11_meets_137 : decode cX11_meets 137 = .ok (.istore 7, 2) := by decide +kernel
theorem dX11_meets_139 : decode cX11_meets 139 = .ok (.aload_n 0, 1) := by decide +kernel
theorem dX11_meets_140 : decode cX11_meets 140 = .ok (.iload 6, 2) := by decide +kernel
theorem dX11_meets_142 : decode cX11_meets 142 = .ok (.iload 4, 2) := by decide +kernel
theorem dX11_meets_144 : decode cX11_meets 144 = .ok (.iload 5, 2) := by decide +kernel
theorem dX11_meets_146 : decode cX11_meets 146 = .ok (.invokevirtual 314, 3) := by decide +kernel
theorem dX11_meets_149 : decode cX11_meets 149 = .ok (.ifCond .eq 64, 3) := by decide +kernel
theorem dX11_meets_152 : decode cX11_meets 152 = .ok (.aload_n 0, 1) := by decide +kernel
theorem dX11_meets_153 : decode cX11_meets 153 = .ok (.getfield 49, 3) := by decide +kernel
theorem dX11_meets_156 : decode cX11_meets 156 = .ok (.iload 4, 2) := by decide +kernel
theorem dX11_meets_158 : decode cX11_meets 158 = .ok (.iload 7, 2) := by decide +kernel
theorem dX11_meets_160 : decode cX11_meets 160 = .ok (.iadd, 1) := by decide +kernel
theorem dX11_meets_161 : decode cX11_meets 161 = .ok (.iload 5, 2) := by decide +kernel
theorem dX11_meets_163 : decode cX11_meets 163 = .ok (.aload_n 0, 1) := by decide +kernel
theorem dX11_meets_164 : decode cX11_meets 164 = .ok (.iload 6, 2) := by decide +kernel
theorem dX11_meets_166 : decode cX11_meets 166 = .ok (.invokevirtual 311, 3) := by decide +kernel
theorem dX11_meets_169 : decode cX11_meets 169 = .ok (.ior, 1) := by decide +kernel
theorem dX11_meets_170 : decode cX11_meets 170 = .ok (.invokestatic 299, 3) := by decide +kernel
theorem dX11_meets_173 : decode cX11_meets 173 = .ok (.baload, 1) := by decide +kernel
theorem dX11_meets_174 : decode cX11_meets 174 = .ok (.ifCond .ne 6, 3) := by decide +kernel
theorem dX11_meets_177 : decode cX11_meets 177 = .ok (.goto 36, 3) := by decide +kernel
theorem dX11_meets_180 : decode cX11_meets 180 = .ok (.iload 4, 2) := by decide +kernel
theorem dX11_meets_182 : decode cX11_meets 182 = .ok (.istore 8, 2) := by decide +kernel
theorem dX11_meets_184 : decode cX11_meets 184 = .ok (.iload 8, 2) := by decide +kernel
theorem dX11_meets_186 : decode cX11_meets 186 = .ok (.iload 4, 2) := by decide +kernel
theorem dX11_meets_188 : decode cX11_meets 188 = .ok (.iload 7, 2) := by decide +kernel
theorem dX11_meets_190 : decode cX11_meets 190 = .ok (.iadd, 1) := by decide +kernel
theorem dX11_meets_191 : decode cX11_meets 191 = .ok (.if_icmp .ge 22, 3) := by decide +kernel
theorem dX11_meets_194 : decode cX11_meets 194 = .ok (.aload_n 0, 1) := by decide +kernel
theorem dX11_meets_195 : decode cX11_meets 195 = .ok (.getfield 52, 3) := by decide +kernel
theorem dX11_meets_198 : decode cX11_meets 198 = .ok (.iload 8, 2) := by decide +kernel
theorem dX11_meets_200 : decode cX11_meets 200 = .ok (.iload 5, 2) := by decide +kernel
theorem dX11_meets_202 : decode cX11_meets 202 = .ok (.invokestatic 299, 3) := by decide +kernel
theorem dX11_meets_205 : decode cX11_meets 205 = .ok (.iconst 1, 1) := by decide +kernel
theorem dX11_meets_206 : decode cX11_meets 206 = .ok (.bastore, 1) := by decide +kernel
theorem dX11_meets_207 : decode cX11_meets 207 = .ok (.iinc 8 1, 3) := by decide +kernel
theorem dX11_meets_210 : decode cX11_meets 210 = .ok (.goto (-26), 3) := by decide +kernel
theorem dX11_meets_213 : decode cX11_meets 213 = .ok (.iinc 6 1, 3) := by decide +kernel
theorem dX11_meets_216 : decode cX11_meets 216 = .ok (.goto (-98), 3) := by decide +kernel
theorem dX11_meets_219 : decode cX11_meets 219 = .ok (.iinc 5 1, 3) := by decide +kernel
theorem dX11_meets_222 : decode cX11_meets 222 = .ok (.goto (-132), 3) := by decide +kernel
theorem dX11_meets_225 : decode cX11_meets 225 = .ok (.iinc 4 1, 3) := by decide +kernel
theorem dX11_meets_228 : decode cX11_meets 228 = .ok (.goto (-150), 3) := by decide +kernel
theorem dX11_meets_231 : decode cX11_meets 231 = .ok (.return_, 1) := by decide +kernel
theorem dX11_earliestOf_0 : decode cX11_earliestOf 0 = .ok (.iconst 0, 1) := by decide +kernel
theorem dX11_earliestOf_1 : decode cX11_earliestOf 1 = .ok (.istore_n 3, 1) := by decide +kernel
theorem dX11_earliestOf_2 : decode cX11_earliestOf 2 = .ok (.iload_n 3, 1) := by decide +kernel
theorem dX11_earliestOf_3 : decode cX11_earliestOf 3 = .ok (.aload_n 0, 1) := by decide +kernel
theorem dX11_earliestOf_4 : decode cX11_earliestOf 4 = .ok (.getfield 249, 3) := by decide +kernel
theorem dX11_earliestOf_7 : decode cX11_earliestOf 7 = .ok (.if_icmp .gt 52, 3) := by decide +kernel
theorem dX11_earliestOf_10 : decode cX11_earliestOf 10 = .ok (.iconst 0, 1) := by decide +kernel
theorem dX11_earliestOf_11 : decode cX11_earliestOf 11 = .ok (.istore 4, 2) := by decide +kernel
theorem dX11_earliestOf_13 : decode cX11_earliestOf 13 = .ok (.iload 4, 2) := by decide +kernel
theorem dX11_earliestOf_15 : decode cX11_earliestOf 15 = .ok (.bipush 16, 2) := by decide +kernel
theorem dX11_earliestOf_17 : decode cX11_earliestOf 17 = .ok (.if_icmp .ge 36, 3) := by decide +kernel
theorem dX11_earliestOf_20 : decode cX11_earliestOf 20 = .ok (.aload_n 0, 1) := by decide +kernel
theorem dX11_earliestOf_21 : decode cX11_earliestOf 21 = .ok (.getfield 52, 3) := by decide +kernel
theorem dX11_earliestOf_24 : decode cX11_earliestOf 24 = .ok (.iload_n 3, 1) := by decide +kernel
theorem dX11_earliestOf_25 : decode cX11_earliestOf 25 = .ok (.iload 4, 2) := by decide +kernel
theorem dX11_earliestOf_27 : decode cX11_earliestOf 27 = .ok (.invokestatic 299, 3) := by decide +kernel
theorem dX11_earliestOf_30 : decode cX11_earliestOf 30 = .ok (.baload, 1) := by decide +kernel
theorem dX11_earliestOf_31 : decode cX11_earliestOf 31 = .ok (.ifCond .eq 16, 3) := by decide +kernel
theorem dX11_earliestOf_34 : decode cX11_earliestOf 34 = .ok (.aload_n 0, 1) := by decide +kernel
theorem dX11_earliestOf_35 : decode cX11_earliestOf 35 = .ok (.iload_n 1, 1) := by decide +kernel
theorem dX11_earliestOf_36 : decode cX11_earliestOf 36 = .ok (.iload 4, 2) := by decide +kernel
theorem dX11_earliestOf_38 : decode cX11_earliestOf 38 = .ok (.iload_n 2, 1) := by decide +kernel
theorem dX11_earliestOf_39 : decode cX11_earliestOf 39 = .ok (.invokevirtual 308, 3) := by decide +kernel
theorem dX11_earliestOf_42 : decode cX11_earliestOf 42 = .ok (.ifCond .eq 5, 3) := by decide +kernel
theorem dX11_earliestOf_45 : decode cX11_earliestOf 45 = .ok (.iload_n 3, 1) := by decide +kernel
theorem dX11_earliestOf_46 : decode cX11_earliestOf 46 = .ok (.ireturn, 1) := by decide +kernel
theorem dX11_earliestOf_47 : decode cX11_earliestOf 47 = .ok (.iinc 4 1, 3) := by decide +kernel
theorem dX11_earliestOf_50 : decode cX11_earliestOf 50 = .ok (.goto (-37), 3) := by decide +kernel
theorem dX11_earliestOf_53 : decode cX11_earliestOf 53 = .ok (.iinc 3 1, 3) := by decide +kernel
theorem dX11_earliestOf_56 : decode cX11_earliestOf 56 = .ok (.goto (-54), 3) := by decide +kernel
theorem dX11_earliestOf_59 : decode cX11_earliestOf 59 = .ok (.iconst (-1), 1) := by decide +kernel
theorem dX11_earliestOf_60 : decode cX11_earliestOf 60 = .ok (.ireturn, 1) := by decide +kernel
theorem dX11_canBy_0 : decode cX11_canBy 0 = .ok (.aload_n 0, 1) := by decide +kernel
theorem dX11_canBy_1 : decode cX11_canBy 1 = .ok (.iload_n 1, 1) := by decide +kernel
theorem dX11_canBy_2 : decode cX11_canBy 2 = .ok (.iload_n 2, 1) := by decide +kernel
theorem dX11_canBy_3 : decode cX11_canBy 3 = .ok (.iconst 1, 1) := by decide +kernel
theorem dX11_canBy_4 : decode cX11_canBy 4 = .ok (.invokevirtual 317, 3) := by decide +kernel
theorem dX11_canBy_7 : decode cX11_canBy 7 = .ok (.ifCond .ne 5, 3) := by decide +kernel
theorem dX11_canBy_10 : decode cX11_canBy 10 = .ok (.iconst 0, 1) := by decide +kernel
theorem dX11_canBy_11 : decode cX11_canBy 11 = .ok (.ireturn, 1) := by decide +kernel
theorem dX11_canBy_12 : decode cX11_canBy 12 = .ok (.aload_n 0, 1) := by decide +kernel
theorem dX11_canBy_13 : decode cX11_canBy 13 = .ok (.invokevirtual 321, 3) := by decide +kernel
theorem dX11_canBy_16 : decode cX11_canBy 16 = .ok (.aload_n 0, 1) := by decide +kernel
theorem dX11_canBy_17 : decode cX11_canBy 17 = .ok (.getfield 46, 3) := by decide +kernel
theorem dX11_canBy_20 : decode cX11_canBy 20 = .ok (.aload_n 0, 1) := by decide +kernel
theorem dX11_canBy_21 : decode cX11_canBy 21 = .ok (.getfield 249, 3) := by decide +kernel
theorem dX11_canBy_24 : decode cX11_canBy 24 = .ok (.iconst 0, 1) := by decide +kernel
theorem dX11_canBy_25 : decode cX11_canBy 25 = .ok (.invokestatic 299, 3) := by decide +kernel
theorem dX11_canBy_28 : decode cX11_canBy 28 = .ok (.baload, 1) := by decide +kernel
theorem dX11_canBy_29 : decode cX11_canBy 29 = .ok (.ireturn, 1) := by decide +kernel
theorem dX11_note_0 : decode cX11_note 0 = .ok (.aload_n 0, 1) := by decide +kernel
theorem dX11_note_1 : decode cX11_note 1 = .ok (.iconst 0, 1) := by decide +kernel
theorem dX11_note_2 : decode cX11_note 2 = .ok (.putfield 3, 3) := by decide +kernel
theorem dX11_note_5 : decode cX11_note 5 = .ok (.aload_n 0, 1) := by decide +kernel
theorem dX11_note_6 : decode cX11_note 6 = .ok (.aload_n 0, 1) := by decide +kernel
theorem dX11_note_7 : decode cX11_note 7 = .ok (.iload_n 1, 1) := by decide +kernel
theorem dX11_note_8 : decode cX11_note 8 = .ok (.iconst 3, 1) := by decide +kernel
theorem dX11_note_9 : decode cX11_note 9 = .ok (.invokevirtual 262, 3) := by decide +kernel
theorem dX11_note_12 : decode cX11_note 12 = .ok (.iconst 1, 1) := by decide +kernel
theorem dX11_note_13 : decode cX11_note 13 = .ok (.invokevirtual 85, 3) := by decide +kernel
theorem dX11_note_16 : decode cX11_note 16 = .ok (.ifCond .ne 51, 3) := by decide +kernel
theorem dX11_note_19 : decode cX11_note 19 = .ok (.aload_n 0, 1) := by decide +kernel
theorem dX11_note_20 : decode cX11_note 20 = .ok (.iload_n 2, 1) := by decide +kernel
theorem dX11_note_21 : decode cX11_note 21 = .ok (.iconst 0, 1) := by decide +kernel
theorem dX11_note_22 : decode cX11_note 22 = .ok (.sipush 300, 3) := by decide +kernel
theorem dX11_note_25 : decode cX11_note 25 = .ok (.invokestatic 81, 3) := by decide +kernel
theorem dX11_note_28 : decode cX11_note 28 = .ok (.ifCond .ne 7, 3) := by decide +kernel
theorem dX11_note_31 : decode cX11_note 31 = .ok (.iconst 1, 1) := by decide +kernel
theorem dX11_note_32 : decode cX11_note 32 = .ok (.goto 4, 3) := by decide +kernel
theorem dX11_note_35 : decode cX11_note 35 = .ok (.iconst 0, 1) := by decide +kernel
theorem dX11_note_36 : decode cX11_note 36 = .ok (.iconst 2, 1) := by decide +kernel
theorem dX11_note_37 : decode cX11_note 37 = .ok (.invokevirtual 85, 3) := by decide +kernel
theorem dX11_note_40 : decode cX11_note 40 = .ok (.ifCond .ne 27, 3) := by decide +kernel
theorem dX11_note_43 : decode cX11_note 43 = .ok (.aload_n 0, 1) := by decide +kernel
theorem dX11_note_44 : decode cX11_note 44 = .ok (.aload_n 0, 1) := by decide +kernel
theorem dX11_note_45 : decode cX11_note 45 = .ok (.getfield 13, 3) := by decide +kernel
theorem dX11_note_48 : decode cX11_note 48 = .ok (.iconst 4, 1) := by decide +kernel
theorem dX11_note_49 : decode cX11_note 49 = .ok (.iaload, 1) := by decide +kernel
theorem dX11_note_50 : decode cX11_note 50 = .ok (.bipush 10, 2) := by decide +kernel
theorem dX11_note_52 : decode cX11_note 52 = .ok (.if_icmp .ne 7, 3) := by decide +kernel
theorem dX11_note_55 : decode cX11_note 55 = .ok (.iconst 1, 1) := by decide +kernel
theorem dX11_note_56 : decode cX11_note 56 = .ok (.goto 4, 3) := by decide +kernel
theorem dX11_note_59 : decode cX11_note 59 = .ok (.iconst 0, 1) := by decide +kernel
theorem dX11_note_60 : decode cX11_note 60 = .ok (.iconst 3, 1) := by decide +kernel
theorem dX11_note_61 : decode cX11_note 61 = .ok (.invokevirtual 85, 3) := by decide +kernel
theorem dX11_note_64 : decode cX11_note 64 = .ok (.ifCond .eq 5, 3) := by decide +kernel
theorem dX11_note_67 : decode cX11_note 67 = .ok (.iconst 0, 1) := by decide +kernel
theorem dX11_note_68 : decode cX11_note 68 = .ok (.ireturn, 1) := by decide +kernel
theorem dX11_note_69 : decode cX11_note 69 = .ok (.aload_n 0, 1) := by decide +kernel
theorem dX11_note_70 : decode cX11_note 70 = .ok (.iconst 4, 1) := by decide +kernel
theorem dX11_note_71 : decode cX11_note 71 = .ok (.bipush 46, 2) := by decide +kernel
theorem dX11_note_73 : decode cX11_note 73 = .ok (.iconst 2, 1) := by decide +kernel
theorem dX11_note_74 : decode cX11_note 74 = .ok (.iload_n 1, 1) := by decide +kernel
theorem dX11_note_75 : decode cX11_note 75 = .ok (.iload_n 2, 1) := by decide +kernel
theorem dX11_note_76 : decode cX11_note 76 = .ok (.iconst 0, 1) := by decide +kernel
theorem dX11_note_77 : decode cX11_note 77 = .ok (.invokevirtual 89, 3) := by decide +kernel
theorem dX11_note_80 : decode cX11_note 80 = .ok (.ireturn, 1) := by decide +kernel
theorem dX11_torn_0 : decode cX11_torn 0 = .ok (.aload_n 0, 1) := by decide +kernel
theorem dX11_torn_1 : decode cX11_torn 1 = .ok (.iconst 0, 1) := by decide +kernel
theorem dX11_torn_2 : decode cX11_torn 2 = .ok (.putfield 3, 3) := by decide +kernel
theorem dX11_torn_5 : decode cX11_torn 5 = .ok (.aload_n 0, 1) := by decide +kernel
theorem dX11_torn_6 : decode cX11_torn 6 = .ok (.getfield 13, 3) := by decide +kernel
theorem dX11_torn_9 : decode cX11_torn 9 = .ok (.iconst 4, 1) := by decide +kernel
theorem dX11_torn_10 : decode cX11_torn 10 = .ok (.iaload, 1) := by decide +kernel
theorem dX11_torn_11 : decode cX11_torn 11 = .ok (.istore_n 1, 1) := by decide +kernel
theorem dX11_torn_12 : decode cX11_torn 12 = .ok (.aload_n 0, 1) := by decide +kernel
theorem dX11_torn_13 : decode cX11_torn 13 = .ok (.getfield 13, 3) := by decide +kernel
theorem dX11_torn_16 : decode cX11_torn 16 = .ok (.iconst 4, 1) := by decide +kernel
theorem dX11_torn_17 : decode cX11_torn 17 = .ok (.iconst 0, 1) := by decide +kernel
theorem dX11_torn_18 : decode cX11_torn 18 = .ok (.iastore, 1) := by decide +kernel
theorem dX11_torn_19 : decode cX11_torn 19 = .ok (.iload_n 1, 1) := by decide +kernel
theorem dX11_torn_20 : decode cX11_torn 20 = .ok (.ireturn, 1) := by decide +kernel
theorem dX11_can_0 : decode cX11_can 0 = .ok (.aload_n 0, 1) := by decide +kernel
theorem dX11_can_1 : decode cX11_can 1 = .ok (.iconst 0, 1) := by decide +kernel
theorem dX11_can_2 : decode cX11_can 2 = .ok (.putfield 3, 3) := by decide +kernel
theorem dX11_can_5 : decode cX11_can 5 = .ok (.aload_n 0, 1) := by decide +kernel
theorem dX11_can_6 : decode cX11_can 6 = .ok (.aload_n 0, 1) := by decide +kernel
theorem dX11_can_7 : decode cX11_can 7 = .ok (.iload_n 1, 1) := by decide +kernel
theorem dX11_can_8 : decode cX11_can 8 = .ok (.iconst 1, 1) := by decide +kernel
theorem dX11_can_9 : decode cX11_can 9 = .ok (.invokevirtual 262, 3) := by decide +kernel
theorem dX11_can_12 : decode cX11_can 12 = .ok (.iconst 1, 1) := by decide +kernel
theorem dX11_can_13 : decode cX11_can 13 = .ok (.invokevirtual 85, 3) := by decide +kernel
theorem dX11_can_16 : decode cX11_can 16 = .ok (.ifCond .eq 5, 3) := by decide +kernel
theorem dX11_can_19 : decode cX11_can 19 = .ok (.iconst 0, 1) := by decide +kernel
theorem dX11_can_20 : decode cX11_can 20 = .ok (.ireturn, 1) := by decide +kernel
theorem dX11_can_21 : decode cX11_can 21 = .ok (.aload_n 0, 1) := by decide +kernel
theorem dX11_can_22 : decode cX11_can 22 = .ok (.iload_n 1, 1) := by decide +kernel
theorem dX11_can_23 : decode cX11_can 23 = .ok (.iconst (-1), 1) := by decide +kernel
theorem dX11_can_24 : decode cX11_can 24 = .ok (.invokevirtual 265, 3) := by decide +kernel
theorem dX11_can_27 : decode cX11_can 27 = .ok (.aload_n 0, 1) := by decide +kernel
theorem dX11_can_28 : decode cX11_can 28 = .ok (.iload_n 2, 1) := by decide +kernel
theorem dX11_can_29 : decode cX11_can 29 = .ok (.iload_n 3, 1) := by decide +kernel
theorem dX11_can_30 : decode cX11_can 30 = .ok (.invokevirtual 327, 3) := by decide +kernel
theorem dX11_can_33 : decode cX11_can 33 = .ok (.ireturn, 1) := by decide +kernel
theorem dX11_fewest_0 : decode cX11_fewest 0 = .ok (.aload_n 0, 1) := by decide +kernel
theorem dX11_fewest_1 : decode cX11_fewest 1 = .ok (.iconst 0, 1) := by decide +kernel
theorem dX11_fewest_2 : decode cX11_fewest 2 = .ok (.putfield 3, 3) := by decide +kernel
theorem dX11_fewest_5 : decode cX11_fewest 5 = .ok (.aload_n 0, 1) := by decide +kernel
theorem dX11_fewest_6 : decode cX11_fewest 6 = .ok (.aload_n 0, 1) := by decide +kernel
theorem dX11_fewest_7 : decode cX11_fewest 7 = .ok (.iload_n 1, 1) := by decide +kernel
theorem dX11_fewest_8 : decode cX11_fewest 8 = .ok (.iconst 1, 1) := by decide +kernel
theorem dX11_fewest_9 : decode cX11_fewest 9 = .ok (.invokevirtual 262, 3) := by decide +kernel
theorem dX11_fewest_12 : decode cX11_fewest 12 = .ok (.iconst 1, 1) := by decide +kernel
theorem dX11_fewest_13 : decode cX11_fewest 13 = .ok (.invokevirtual 85, 3) := by decide +kernel
theorem dX11_fewest_16 : decode cX11_fewest 16 = .ok (.ifCond .eq 5, 3) := by decide +kernel
theorem dX11_fewest_19 : decode cX11_fewest 19 = .ok (.iconst 0, 1) := by decide +kernel
theorem dX11_fewest_20 : decode cX11_fewest 20 = .ok (.ireturn, 1) := by decide +kernel
theorem dX11_fewest_21 : decode cX11_fewest 21 = .ok (.aload_n 0, 1) := by decide +kernel
theorem dX11_fewest_22 : decode cX11_fewest 22 = .ok (.iload_n 1, 1) := by decide +kernel
theorem dX11_fewest_23 : decode cX11_fewest 23 = .ok (.iconst (-1), 1) := by decide +kernel
theorem dX11_fewest_24 : decode cX11_fewest 24 = .ok (.invokevirtual 265, 3) := by decide +kernel
theorem dX11_fewest_27 : decode cX11_fewest 27 = .ok (.iconst (-1), 1) := by decide +kernel
theorem dX11_fewest_28 : decode cX11_fewest 28 = .ok (.istore_n 3, 1) := by decide +kernel
theorem dX11_fewest_29 : decode cX11_fewest 29 = .ok (.iconst 0, 1) := by decide +kernel
theorem dX11_fewest_30 : decode cX11_fewest 30 = .ok (.istore 4, 2) := by decide +kernel
theorem dX11_fewest_32 : decode cX11_fewest 32 = .ok (.iload 4, 2) := by decide +kernel
theorem dX11_fewest_34 : decode cX11_fewest 34 = .ok (.iconst 1, 1) := by decide +kernel
theorem dX11_fewest_35 : decode cX11_fewest 35 = .ok (.aload_n 0, 1) := by decide +kernel
theorem dX11_fewest_36 : decode cX11_fewest 36 = .ok (.getfield 13, 3) := by decide +kernel
theorem dX11_fewest_39 : decode cX11_fewest 39 = .ok (.iconst 2, 1) := by decide +kernel
theorem dX11_fewest_40 : decode cX11_fewest 40 = .ok (.iaload, 1) := by decide +kernel
theorem dX11_fewest_41 : decode cX11_fewest 41 = .ok (.ishl, 1) := by decide +kernel
theorem dX11_fewest_42 : decode cX11_fewest 42 = .ok (.if_icmp .ge 41, 3) := by decide +kernel
theorem dX11_fewest_45 : decode cX11_fewest 45 = .ok (.iload_n 3, 1) := by decide +kernel
theorem dX11_fewest_46 : decode cX11_fewest 46 = .ok (.ifCond .lt 18, 3) := by decide +kernel
theorem dX11_fewest_49 : decode cX11_fewest 49 = .ok (.iload 4, 2) := by decide +kernel
theorem dX11_fewest_51 : decode cX11_fewest 51 = .ok (.invokestatic 268, 3) := by decide +kernel
theorem dX11_fewest_54 : decode cX11_fewest 54 = .ok (.iload_n 3, 1) := by decide +kernel
theorem dX11_fewest_55 : decode cX11_fewest 55 = .ok (.invokestatic 268, 3) := by decide +kernel
theorem dX11_fewest_58 : decode cX11_fewest 58 = .ok (.if_icmp .lt 6, 3) := by decide +kernel
theorem dX11_fewest_61 : decode cX11_fewest 61 = .ok (.goto 16, 3) := by decide +kernel
theorem dX11_fewest_64 : decode cX11_fewest 64 = .ok (.aload_n 0, 1) := by decide +kernel
theorem dX11_fewest_65 : decode cX11_fewest 65 = .ok (.iload 4, 2) := by decide +kernel
theorem dX11_fewest_67 : decode cX11_fewest 67 = .ok (.iload_n 2, 1) := by decide +kernel
theorem dX11_fewest_68 : decode cX11_fewest 68 = .ok (.invokevirtual 327, 3) := by decide +kernel
theorem dX11_fewest_71 : decode cX11_fewest 71 = .ok (.ifCond .eq 6, 3) := by decide +kernel
theorem dX11_fewest_74 : decode cX11_fewest 74 = .ok (.iload 4, 2) := by decide +kernel
theorem dX11_fewest_76 : decode cX11_fewest 76 = .ok (.istore_n 3, 1) := by decide +kernel
theorem dX11_fewest_77 : decode cX11_fewest 77 = .ok (.iinc 4 1, 3) := by decide +kernel
theorem dX11_fewest_80 : decode cX11_fewest 80 = .ok (.goto (-48), 3) := by decide +kernel
theorem dX11_fewest_83 : decode cX11_fewest 83 = .ok (.iload_n 3, 1) := by decide +kernel
theorem dX11_fewest_84 : decode cX11_fewest 84 = .ok (.ireturn, 1) := by decide +kernel
theorem dX11_earliest_0 : decode cX11_earliest 0 = .ok (.aload_n 0, 1) := by decide +kernel
theorem dX11_earliest_1 : decode cX11_earliest 1 = .ok (.iconst 0, 1) := by decide +kernel
theorem dX11_earliest_2 : decode cX11_earliest 2 = .ok (.putfield 3, 3) := by decide +kernel
theorem dX11_earliest_5 : decode cX11_earliest 5 = .ok (.aload_n 0, 1) := by decide +kernel
theorem dX11_earliest_6 : decode cX11_earliest 6 = .ok (.aload_n 0, 1) := by decide +kernel
theorem dX11_earliest_7 : decode cX11_earliest 7 = .ok (.iload_n 1, 1) := by decide +kernel
theorem dX11_earliest_8 : decode cX11_earliest 8 = .ok (.iconst 1, 1) := by decide +kernel
theorem dX11_earliest_9 : decode cX11_earliest 9 = .ok (.invokevirtual 262, 3) := by decide +kernel
theorem dX11_earliest_12 : decode cX11_earliest 12 = .ok (.ifCond .ne 13, 3) := by decide +kernel
theorem dX11_earliest_15 : decode cX11_earliest 15 = .ok (.aload_n 0, 1) := by decide +kernel
theorem dX11_earliest_16 : decode cX11_earliest 16 = .ok (.iload 4, 2) := by decide +kernel
theorem dX11_earliest_18 : decode cX11_earliest 18 = .ok (.iconst 3, 1) := by decide +kernel
theorem dX11_earliest_19 : decode cX11_earliest 19 = .ok (.invokevirtual 262, 3) := by decide +kernel
theorem dX11_earliest_22 : decode cX11_earliest 22 = .ok (.ifCond .eq 7, 3) := by decide +kernel
theorem dX11_earliest_25 : decode cX11_earliest 25 = .ok (.iconst 1, 1) := by decide +kernel
theorem dX11_earliest_26 : decode cX11_earliest 26 = .ok (.goto 4, 3) := by decide +kernel
theorem dX11_earliest_29 : decode cX11_earliest 29 = .ok (.iconst 0, 1) := by decide +kernel
theorem dX11_earliest_30 : decode cX11_earliest 30 = .ok (.iconst 1, 1) := by decide +kernel
theorem dX11_earliest_31 : decode cX11_earliest 31 = .ok (.invokevirtual 85, 3) := by decide +kernel
theorem dX11_earliest_34 : decode cX11_earliest 34 = .ok (.ifCond .eq 5, 3) := by decide +kernel
theorem dX11_earliest_37 : decode cX11_earliest 37 = .ok (.iconst 0, 1) := by decide +kernel
theorem dX11_earliest_38 : decode cX11_earliest 38 = .ok (.ireturn, 1) := by decide +kernel
theorem dX11_earliest_39 : decode cX11_earliest 39 = .ok (.aload_n 0, 1) := by decide +kernel
theorem dX11_earliest_40 : decode cX11_earliest 40 = .ok (.iload_n 1, 1) := by decide +kernel
theorem dX11_earliest_41 : decode cX11_earliest 41 = .ok (.iconst (-1), 1) := by decide +kernel
theorem dX11_earliest_42 : decode cX11_earliest 42 = .ok (.invokevirtual 265, 3) := by decide +kernel
theorem dX11_earliest_45 : decode cX11_earliest 45 = .ok (.aload_n 0, 1) := by decide +kernel
theorem dX11_earliest_46 : decode cX11_earliest 46 = .ok (.iload_n 2, 1) := by decide +kernel
theorem dX11_earliest_47 : decode cX11_earliest 47 = .ok (.iload_n 3, 1) := by decide +kernel
theorem dX11_earliest_48 : decode cX11_earliest 48 = .ok (.invokevirtual 330, 3) := by decide +kernel
theorem dX11_earliest_51 : decode cX11_earliest 51 = .ok (.aload_n 0, 1) := by decide +kernel
theorem dX11_earliest_52 : decode cX11_earliest 52 = .ok (.iload 4, 2) := by decide +kernel
theorem dX11_earliest_54 : decode cX11_earliest 54 = .ok (.aload_n 0, 1) := by decide +kernel
theorem dX11_earliest_55 : decode cX11_earliest 55 = .ok (.aload_n 0, 1) := by decide +kernel
theorem dX11_earliest_56 : decode cX11_earliest 56 = .ok (.getfield 296, 3) := by decide +kernel
theorem dX11_earliest_59 : decode cX11_earliest 59 = .ok (.invokevirtual 305, 3) := by decide +kernel
theorem dX11_earliest_62 : decode cX11_earliest 62 = .ok (.invokevirtual 334, 3) := by decide +kernel
theorem dX11_earliest_65 : decode cX11_earliest 65 = .ok (.ireturn, 1) := by decide +kernel
theorem dX11_may_0 : decode cX11_may 0 = .ok (.aload_n 0, 1) := by decide +kernel
theorem dX11_may_1 : decode cX11_may 1 = .ok (.iconst 0, 1) := by decide +kernel
theorem dX11_may_2 : decode cX11_may 2 = .ok (.putfield 3, 3) := by decide +kernel
theorem dX11_may_5 : decode cX11_may 5 = .ok (.aload_n 0, 1) := by decide +kernel
theorem dX11_may_6 : decode cX11_may 6 = .ok (.aload_n 0, 1) := by decide +kernel
theorem dX11_may_7 : decode cX11_may 7 = .ok (.iload_n 1, 1) := by decide +kernel
theorem dX11_may_8 : decode cX11_may 8 = .ok (.iconst 1, 1) := by decide +kernel
theorem dX11_may_9 : decode cX11_may 9 = .ok (.invokevirtual 262, 3) := by decide +kernel
theorem dX11_may_12 : decode cX11_may 12 = .ok (.iconst 1, 1) := by decide +kernel
theorem dX11_may_13 : decode cX11_may 13 = .ok (.invokevirtual 85, 3) := by decide +kernel
theorem dX11_may_16 : decode cX11_may 16 = .ok (.ifCond .ne 28, 3) := by decide +kernel
theorem dX11_may_19 : decode cX11_may 19 = .ok (.aload_n 0, 1) := by decide +kernel
theorem dX11_may_20 : decode cX11_may 20 = .ok (.iload 4, 2) := by decide +kernel
theorem dX11_may_22 : decode cX11_may 22 = .ok (.iconst 0, 1) := by decide +kernel
theorem dX11_may_23 : decode cX11_may 23 = .ok (.sipush 300, 3) := by decide +kernel
theorem dX11_may_26 : decode cX11_may 26 = .ok (.invokestatic 81, 3) := by decide +kernel
theorem dX11_may_29 : decode cX11_may 29 = .ok (.ifCond .ne 7, 3) := by decide +kernel
theorem dX11_may_32 : decode cX11_may 32 = .ok (.iconst 1, 1) := by decide +kernel
theorem dX11_may_33 : decode cX11_may 33 = .ok (.goto 4, 3) := by decide +kernel
theorem dX11_may_36 : decode cX11_may 36 = .ok (.iconst 0, 1) := by decide +kernel
theorem dX11_may_37 : decode cX11_may 37 = .ok (.iconst 2, 1) := by decide +kernel
theorem dX11_may_38 : decode cX11_may 38 = .ok (.invokevirtual 85, 3) := by decide +kernel
theorem dX11_may_41 : decode cX11_may 41 = .ok (.ifCond .eq 5, 3) := by decide +kernel
theorem dX11_may_44 : decode cX11_may 44 = .ok (.iconst 0, 1) := by decide +kernel
theorem dX11_may_45 : decode cX11_may 45 = .ok (.ireturn, 1) := by decide +kernel
theorem dX11_may_46 : decode cX11_may 46 = .ok (.aload_n 0, 1) := by decide +kernel
theorem dX11_may_47 : decode cX11_may 47 = .ok (.iload_n 1, 1) := by decide +kernel
theorem dX11_may_48 : decode cX11_may 48 = .ok (.iconst (-1), 1) := by decide +kernel
theorem dX11_may_49 : decode cX11_may 49 = .ok (.invokevirtual 265, 3) := by decide +kernel
theorem dX11_may_52 : decode cX11_may 52 = .ok (.iload 4, 2) := by decide +kernel
theorem dX11_may_54 : decode cX11_may 54 = .ok (.aload_n 0, 1) := by decide +kernel
theorem dX11_may_55 : decode cX11_may 55 = .ok (.getfield 249, 3) := by decide +kernel
theorem dX11_may_58 : decode cX11_may 58 = .ok (.if_icmp .le 5, 3) := by decide +kernel
theorem dX11_may_61 : decode cX11_may 61 = .ok (.iconst 0, 1) := by decide +kernel
theorem dX11_may_62 : decode cX11_may 62 = .ok (.ireturn, 1) := by decide +kernel
theorem dX11_may_63 : decode cX11_may 63 = .ok (.aload_n 0, 1) := by decide +kernel
theorem dX11_may_64 : decode cX11_may 64 = .ok (.iload_n 2, 1) := by decide +kernel
theorem dX11_may_65 : decode cX11_may 65 = .ok (.iload_n 3, 1) := by decide +kernel
theorem dX11_may_66 : decode cX11_may 66 = .ok (.invokevirtual 330, 3) := by decide +kernel
theorem dX11_may_69 : decode cX11_may 69 = .ok (.iconst 0, 1) := by decide +kernel
theorem dX11_may_70 : decode cX11_may 70 = .ok (.istore 5, 2) := by decide +kernel
theorem dX11_may_72 : decode cX11_may 72 = .ok (.iconst 0, 1) := by decide +kernel
theorem dX11_may_73 : decode cX11_may 73 = .ok (.istore 6, 2) := by decide +kernel
theorem dX11_may_75 : decode cX11_may 75 = .ok (.iload 6, 2) := by decide +kernel
theorem dX11_may_77 : decode cX11_may 77 = .ok (.bipush 16, 2) := by decide +kernel
theorem dX11_may_79 : decode cX11_may 79 = .ok (.if_icmp .ge 35, 3) := by decide +kernel
theorem dX11_may_82 : decode cX11_may 82 = .ok (.iload 5, 2) := by decide +kernel
theorem dX11_may_84 : decode cX11_may 84 = .ok (.aload_n 0, 1) := by decide +kernel
theorem dX11_may_85 : decode cX11_may 85 = .ok (.getfield 52, 3) := by decide +kernel
theorem dX11_may_88 : decode cX11_may 88 = .ok (.iload 4, 2) := by decide +kernel
theorem dX11_may_90 : decode cX11_may 90 = .ok (.iload 6, 2) := by decide +kernel
theorem dX11_may_92 : decode cX11_may 92 = .ok (.invokestatic 299, 3) := by decide +kernel
theorem dX11_may_95 : decode cX11_may 95 = .ok (.baload, 1) := by decide +kernel
theorem dX11_may_96 : decode cX11_may 96 = .ok (.ifCond .eq 8, 3) := by decide +kernel
theorem dX11_may_99 : decode cX11_may 99 = .ok (.iload 6, 2) := by decide +kernel
theorem dX11_may_101 : decode cX11_may 101 = .ok (.goto 4, 3) := by decide +kernel
theorem dX11_may_104 : decode cX11_may 104 = .ok (.iconst 0, 1) := by decide +kernel
theorem dX11_may_105 : decode cX11_may 105 = .ok (.ior, 1) := by decide +kernel
theorem dX11_may_106 : decode cX11_may 106 = .ok (.istore 5, 2) := by decide +kernel
theorem dX11_may_108 : decode cX11_may 108 = .ok (.iinc 6 1, 3) := by decide +kernel
theorem dX11_may_111 : decode cX11_may 111 = .ok (.goto (-36), 3) := by decide +kernel
theorem dX11_may_114 : decode cX11_may 114 = .ok (.iload 5, 2) := by decide +kernel
theorem dX11_may_116 : decode cX11_may 116 = .ok (.ireturn, 1) := by decide +kernel
theorem dX11_isShut_0 : decode cX11_isShut 0 = .ok (.aload_n 0, 1) := by decide +kernel
theorem dX11_isShut_1 : decode cX11_isShut 1 = .ok (.iload_n 1, 1) := by decide +kernel
theorem dX11_isShut_2 : decode cX11_isShut 2 = .ok (.iload_n 2, 1) := by decide +kernel
theorem dX11_isShut_3 : decode cX11_isShut 3 = .ok (.invokevirtual 265, 3) := by decide +kernel
theorem dX11_isShut_6 : decode cX11_isShut 6 = .ok (.aload_n 0, 1) := by decide +kernel
theorem dX11_isShut_7 : decode cX11_isShut 7 = .ok (.iconst (-1), 1) := by decide +kernel
theorem dX11_isShut_8 : decode cX11_isShut 8 = .ok (.iconst 0, 1) := by decide +kernel
theorem dX11_isShut_9 : decode cX11_isShut 9 = .ok (.invokevirtual 330, 3) := by decide +kernel
theorem dX11_isShut_12 : decode cX11_isShut 12 = .ok (.aload_n 0, 1) := by decide +kernel
theorem dX11_isShut_13 : decode cX11_isShut 13 = .ok (.iload_n 3, 1) := by decide +kernel
theorem dX11_isShut_14 : decode cX11_isShut 14 = .ok (.aload_n 0, 1) := by decide +kernel
theorem dX11_isShut_15 : decode cX11_isShut 15 = .ok (.aload_n 0, 1) := by decide +kernel
theorem dX11_isShut_16 : decode cX11_isShut 16 = .ok (.getfield 296, 3) := by decide +kernel
theorem dX11_isShut_19 : decode cX11_isShut 19 = .ok (.invokevirtual 305, 3) := by decide +kernel
theorem dX11_isShut_22 : decode cX11_isShut 22 = .ok (.invokevirtual 334, 3) := by decide +kernel
theorem dX11_isShut_25 : decode cX11_isShut 25 = .ok (.ifCond .ge 7, 3) := by decide +kernel
theorem dX11_isShut_28 : decode cX11_isShut 28 = .ok (.iconst 1, 1) := by decide +kernel
theorem dX11_isShut_29 : decode cX11_isShut 29 = .ok (.goto 4, 3) := by decide +kernel
theorem dX11_isShut_32 : decode cX11_isShut 32 = .ok (.iconst 0, 1) := by decide +kernel
theorem dX11_isShut_33 : decode cX11_isShut 33 = .ok (.ireturn, 1) := by decide +kernel
theorem dX11_shut_0 : decode cX11_shut 0 = .ok (.aload_n 0, 1) := by decide +kernel
theorem dX11_shut_1 : decode cX11_shut 1 = .ok (.iconst 0, 1) := by decide +kernel
theorem dX11_shut_2 : decode cX11_shut 2 = .ok (.putfield 3, 3) := by decide +kernel
theorem dX11_shut_5 : decode cX11_shut 5 = .ok (.aload_n 0, 1) := by decide +kernel
theorem dX11_shut_6 : decode cX11_shut 6 = .ok (.aload_n 0, 1) := by decide +kernel
theorem dX11_shut_7 : decode cX11_shut 7 = .ok (.iload_n 1, 1) := by decide +kernel
theorem dX11_shut_8 : decode cX11_shut 8 = .ok (.iconst 3, 1) := by decide +kernel
theorem dX11_shut_9 : decode cX11_shut 9 = .ok (.invokevirtual 262, 3) := by decide +kernel
theorem dX11_shut_12 : decode cX11_shut 12 = .ok (.iconst 1, 1) := by decide +kernel
theorem dX11_shut_13 : decode cX11_shut 13 = .ok (.invokevirtual 85, 3) := by decide +kernel
theorem dX11_shut_16 : decode cX11_shut 16 = .ok (.ifCond .eq 5, 3) := by decide +kernel
theorem dX11_shut_19 : decode cX11_shut 19 = .ok (.iconst 0, 1) := by decide +kernel
theorem dX11_shut_20 : decode cX11_shut 20 = .ok (.ireturn, 1) := by decide +kernel
theorem dX11_shut_21 : decode cX11_shut 21 = .ok (.iconst 0, 1) := by decide +kernel
theorem dX11_shut_22 : decode cX11_shut 22 = .ok (.istore_n 2, 1) := by decide +kernel
theorem dX11_shut_23 : decode cX11_shut 23 = .ok (.iconst 0, 1) := by decide +kernel
theorem dX11_shut_24 : decode cX11_shut 24 = .ok (.istore_n 3, 1) := by decide +kernel
theorem dX11_shut_25 : decode cX11_shut 25 = .ok (.iload_n 3, 1) := by decide +kernel
theorem dX11_shut_26 : decode cX11_shut 26 = .ok (.aload_n 0, 1) := by decide +kernel
theorem dX11_shut_27 : decode cX11_shut 27 = .ok (.getfield 13, 3) := by decide +kernel
theorem dX11_shut_30 : decode cX11_shut 30 = .ok (.iconst 1, 1) := by decide +kernel
theorem dX11_shut_31 : decode cX11_shut 31 = .ok (.iaload, 1) := by decide +kernel
theorem dX11_shut_32 : decode cX11_shut 32 = .ok (.if_icmp .ge 29, 3) := by decide +kernel
theorem dX11_shut_35 : decode cX11_shut 35 = .ok (.iload_n 2, 1) := by decide +kernel
theorem dX11_shut_36 : decode cX11_shut 36 = .ok (.aload_n 0, 1) := by decide +kernel
theorem dX11_shut_37 : decode cX11_shut 37 = .ok (.iload_n 3, 1) := by decide +kernel
theorem dX11_shut_38 : decode cX11_shut 38 = .ok (.iconst (-1), 1) := by decide +kernel
theorem dX11_shut_39 : decode cX11_shut 39 = .ok (.iload_n 1, 1) := by decide +kernel
theorem dX11_shut_40 : decode cX11_shut 40 = .ok (.invokevirtual 337, 3) := by decide +kernel
theorem dX11_shut_43 : decode cX11_shut 43 = .ok (.ifCond .eq 9, 3) := by decide +kernel
theorem dX11_shut_46 : decode cX11_shut 46 = .ok (.iconst 1, 1) := by decide +kernel
theorem dX11_shut_47 : decode cX11_shut 47 = .ok (.iload_n 3, 1) := by decide +kernel
theorem dX11_shut_48 : decode cX11_shut 48 = .ok (.ishl, 1) := by decide +kernel
theorem dX11_shut_49 : decode cX11_shut 49 = .ok (.goto 4, 3) := by decide +kernel
theorem dX11_shut_52 : decode cX11_shut 52 = .ok (.iconst 0, 1) := by decide +kernel
theorem dX11_shut_53 : decode cX11_shut 53 = .ok (.ior, 1) := by decide +kernel
theorem dX11_shut_54 : decode cX11_shut 54 = .ok (.istore_n 2, 1) := by decide +kernel
theorem dX11_shut_55 : decode cX11_shut 55 = .ok (.iinc 3 1, 3) := by decide +kernel
theorem dX11_shut_58 : decode cX11_shut 58 = .ok (.goto (-33), 3) := by decide +kernel
theorem dX11_shut_61 : decode cX11_shut 61 = .ok (.iload_n 2, 1) := by decide +kernel
theorem dX11_shut_62 : decode cX11_shut 62 = .ok (.ireturn, 1) := by decide +kernel
theorem dX11_opens_0 : decode cX11_opens 0 = .ok (.aload_n 0, 1) := by decide +kernel
theorem dX11_opens_1 : decode cX11_opens 1 = .ok (.iconst 0, 1) := by decide +kernel
theorem dX11_opens_2 : decode cX11_opens 2 = .ok (.putfield 3, 3) := by decide +kernel
theorem dX11_opens_5 : decode cX11_opens 5 = .ok (.aload_n 0, 1) := by decide +kernel
theorem dX11_opens_6 : decode cX11_opens 6 = .ok (.aload_n 0, 1) := by decide +kernel
theorem dX11_opens_7 : decode cX11_opens 7 = .ok (.iload_n 1, 1) := by decide +kernel
theorem dX11_opens_8 : decode cX11_opens 8 = .ok (.iconst 1, 1) := by decide +kernel
theorem dX11_opens_9 : decode cX11_opens 9 = .ok (.invokevirtual 262, 3) := by decide +kernel
theorem dX11_opens_12 : decode cX11_opens 12 = .ok (.ifCond .ne 12, 3) := by decide +kernel
theorem dX11_opens_15 : decode cX11_opens 15 = .ok (.aload_n 0, 1) := by decide +kernel
theorem dX11_opens_16 : decode cX11_opens 16 = .ok (.iload_n 2, 1) := by decide +kernel
theorem dX11_opens_17 : decode cX11_opens 17 = .ok (.iconst 3, 1) := by decide +kernel
theorem dX11_opens_18 : decode cX11_opens 18 = .ok (.invokevirtual 262, 3) := by decide +kernel
theorem dX11_opens_21 : decode cX11_opens 21 = .ok (.ifCond .eq 7, 3) := by decide +kernel
theorem dX11_opens_24 : decode cX11_opens 24 = .ok (.iconst 1, 1) := by decide +kernel
theorem dX11_opens_25 : decode cX11_opens 25 = .ok (.goto 4, 3) := by decide +kernel
theorem dX11_opens_28 : decode cX11_opens 28 = .ok (.iconst 0, 1) := by decide +kernel
theorem dX11_opens_29 : decode cX11_opens 29 = .ok (.iconst 1, 1) := by decide +kernel
theorem dX11_opens_30 : decode cX11_opens 30 = .ok (.invokevirtual 85, 3) := by decide +kernel
theorem dX11_opens_33 : decode cX11_opens 33 = .ok (.ifCond .eq 5, 3) := by decide +kernel
theorem dX11_opens_36 : decode cX11_opens 36 = .ok (.iconst 0, 1) := by decide +kernel
theorem dX11_opens_37 : decode cX11_opens 37 = .ok (.ireturn, 1) := by decide +kernel
theorem dX11_opens_38 : decode cX11_opens 38 = .ok (.aload_n 0, 1) := by decide +kernel
theorem dX11_opens_39 : decode cX11_opens 39 = .ok (.iload_n 1, 1) := by decide +kernel
theorem dX11_opens_40 : decode cX11_opens 40 = .ok (.iconst (-1), 1) := by decide +kernel
theorem dX11_opens_41 : decode cX11_opens 41 = .ok (.iload_n 2, 1) := by decide +kernel
theorem dX11_opens_42 : decode cX11_opens 42 = .ok (.invokevirtual 337, 3) := by decide +kernel
theorem dX11_opens_45 : decode cX11_opens 45 = .ok (.ifCond .ne 5, 3) := by decide +kernel
theorem dX11_opens_48 : decode cX11_opens 48 = .ok (.iconst (-1), 1) := by decide +kernel
theorem dX11_opens_49 : decode cX11_opens 49 = .ok (.ireturn, 1) := by decide +kernel
theorem dX11_opens_50 : decode cX11_opens 50 = .ok (.iconst 0, 1) := by decide +kernel
theorem dX11_opens_51 : decode cX11_opens 51 = .ok (.istore_n 3, 1) := by decide +kernel
theorem dX11_opens_52 : decode cX11_opens 52 = .ok (.iconst 0, 1) := by decide +kernel
theorem dX11_opens_53 : decode cX11_opens 53 = .ok (.istore 4, 2) := by decide +kernel
theorem dX11_opens_55 : decode cX11_opens 55 = .ok (.iload 4, 2) := by decide +kernel
theorem dX11_opens_57 : decode cX11_opens 57 = .ok (.aload_n 0, 1) := by decide +kernel
theorem dX11_opens_58 : decode cX11_opens 58 = .ok (.iload_n 1, 1) := by decide +kernel
theorem dX11_opens_59 : decode cX11_opens 59 = .ok (.invokevirtual 252, 3) := by decide +kernel
theorem dX11_opens_62 : decode cX11_opens 62 = .ok (.if_icmp .ge 31, 3) := by decide +kernel
theorem dX11_opens_65 : decode cX11_opens 65 = .ok (.iload_n 3, 1) := by decide +kernel
theorem dX11_opens_66 : decode cX11_opens 66 = .ok (.aload_n 0, 1) := by decide +kernel
theorem dX11_opens_67 : decode cX11_opens 67 = .ok (.iload_n 1, 1) := by decide +kernel
theorem dX11_opens_68 : decode cX11_opens 68 = .ok (.iload 4, 2) := by decide +kernel
theorem dX11_opens_70 : decode cX11_opens 70 = .ok (.iload_n 2, 1) := by decide +kernel
theorem dX11_opens_71 : decode cX11_opens 71 = .ok (.invokevirtual 337, 3) := by decide +kernel
theorem dX11_opens_74 : decode cX11_opens 74 = .ok (.ifCond .eq 7, 3) := by decide +kernel
theorem dX11_opens_77 : decode cX11_opens 77 = .ok (.iconst 0, 1) := by decide +kernel
theorem dX11_opens_78 : decode cX11_opens 78 = .ok (.goto 7, 3) := by decide +kernel
theorem dX11_opens_81 : decode cX11_opens 81 = .ok (.iconst 1, 1) := by decide +kernel
theorem dX11_opens_82 : decode cX11_opens 82 = .ok (.iload 4, 2) := by decide +kernel
theorem dX11_opens_84 : decode cX11_opens 84 = .ok (.ishl, 1) := by decide +kernel
theorem dX11_opens_85 : decode cX11_opens 85 = .ok (.ior, 1) := by decide +kernel
theorem dX11_opens_86 : decode cX11_opens 86 = .ok (.istore_n 3, 1) := by decide +kernel
theorem dX11_opens_87 : decode cX11_opens 87 = .ok (.iinc 4 1, 3) := by decide +kernel
theorem dX11_opens_90 : decode cX11_opens 90 = .ok (.goto (-35), 3) := by decide +kernel
theorem dX11_opens_93 : decode cX11_opens 93 = .ok (.iload_n 3, 1) := by decide +kernel
theorem dX11_opens_94 : decode cX11_opens 94 = .ok (.ireturn, 1) := by decide +kernel
theorem dX11_trap_0 : decode cX11_trap 0 = .ok (.aload_n 0, 1) := by decide +kernel
theorem dX11_trap_1 : decode cX11_trap 1 = .ok (.iconst 0, 1) := by decide +kernel
theorem dX11_trap_2 : decode cX11_trap 2 = .ok (.putfield 3, 3) := by decide +kernel
theorem dX11_trap_5 : decode cX11_trap 5 = .ok (.aload_n 0, 1) := by decide +kernel
theorem dX11_trap_6 : decode cX11_trap 6 = .ok (.aload_n 0, 1) := by decide +kernel
theorem dX11_trap_7 : decode cX11_trap 7 = .ok (.iload_n 1, 1) := by decide +kernel
theorem dX11_trap_8 : decode cX11_trap 8 = .ok (.iconst 2, 1) := by decide +kernel
theorem dX11_trap_9 : decode cX11_trap 9 = .ok (.invokevirtual 262, 3) := by decide +kernel
theorem dX11_trap_12 : decode cX11_trap 12 = .ok (.iconst 1, 1) := by decide +kernel
theorem dX11_trap_13 : decode cX11_trap 13 = .ok (.invokevirtual 85, 3) := by decide +kernel
theorem dX11_trap_16 : decode cX11_trap 16 = .ok (.ifCond .ne 59, 3) := by decide +kernel
theorem dX11_trap_19 : decode cX11_trap 19 = .ok (.aload_n 0, 1) := by decide +kernel
theorem dX11_trap_20 : decode cX11_trap 20 = .ok (.iload_n 2, 1) := by decide +kernel
theorem dX11_trap_21 : decode cX11_trap 21 = .ok (.iconst 1, 1) := by decide +kernel
theorem dX11_trap_22 : decode cX11_trap 22 = .ok (.bipush 9, 2) := by decide +kernel
theorem dX11_trap_24 : decode cX11_trap 24 = .ok (.invokestatic 81, 3) := by decide +kernel
theorem dX11_trap_27 : decode cX11_trap 27 = .ok (.ifCond .eq 13, 3) := by decide +kernel
theorem dX11_trap_30 : decode cX11_trap 30 = .ok (.iload_n 3, 1) := by decide +kernel
theorem dX11_trap_31 : decode cX11_trap 31 = .ok (.iconst 1, 1) := by decide +kernel
theorem dX11_trap_32 : decode cX11_trap 32 = .ok (.bipush 9, 2) := by decide +kernel
theorem dX11_trap_34 : decode cX11_trap 34 = .ok (.invokestatic 81, 3) := by decide +kernel
theorem dX11_trap_37 : decode cX11_trap 37 = .ok (.ifCond .ne 7, 3) := by decide +kernel
theorem dX11_trap_40 : decode cX11_trap 40 = .ok (.iconst 1, 1) := by decide +kernel
theorem dX11_trap_41 : decode cX11_trap 41 = .ok (.goto 4, 3) := by decide +kernel
theorem dX11_trap_44 : decode cX11_trap 44 = .ok (.iconst 0, 1) := by decide +kernel
theorem dX11_trap_45 : decode cX11_trap 45 = .ok (.iconst 2, 1) := by decide +kernel
theorem dX11_trap_46 : decode cX11_trap 46 = .ok (.invokevirtual 85, 3) := by decide +kernel
theorem dX11_trap_49 : decode cX11_trap 49 = .ok (.ifCond .ne 26, 3) := by decide +kernel
theorem dX11_trap_52 : decode cX11_trap 52 = .ok (.aload_n 0, 1) := by decide +kernel
theorem dX11_trap_53 : decode cX11_trap 53 = .ok (.aload_n 0, 1) := by decide +kernel
theorem dX11_trap_54 : decode cX11_trap 54 = .ok (.getfield 13, 3) := by decide +kernel
theorem dX11_trap_57 : decode cX11_trap 57 = .ok (.iconst 5, 1) := by decide +kernel
theorem dX11_trap_58 : decode cX11_trap 58 = .ok (.iaload, 1) := by decide +kernel
theorem dX11_trap_59 : decode cX11_trap 59 = .ok (.iconst 4, 1) := by decide +kernel
theorem dX11_trap_60 : decode cX11_trap 60 = .ok (.if_icmp .ne 7, 3) := by decide +kernel
theorem dX11_trap_63 : decode cX11_trap 63 = .ok (.iconst 1, 1) := by decide +kernel
theorem dX11_trap_64 : decode cX11_trap 64 = .ok (.goto 4, 3) := by decide +kernel
theorem dX11_trap_67 : decode cX11_trap 67 = .ok (.iconst 0, 1) := by decide +kernel
theorem dX11_trap_68 : decode cX11_trap 68 = .ok (.iconst 3, 1) := by decide +kernel
theorem dX11_trap_69 : decode cX11_trap 69 = .ok (.invokevirtual 85, 3) := by decide +kernel
theorem dX11_trap_72 : decode cX11_trap 72 = .ok (.ifCond .eq 5, 3) := by decide +kernel
theorem dX11_trap_75 : decode cX11_trap 75 = .ok (.iconst 0, 1) := by decide +kernel
theorem dX11_trap_76 : decode cX11_trap 76 = .ok (.ireturn, 1) := by decide +kernel
theorem dX11_trap_77 : decode cX11_trap 77 = .ok (.aload_n 0, 1) := by decide +kernel
theorem dX11_trap_78 : decode cX11_trap 78 = .ok (.iconst 5, 1) := by decide +kernel
theorem dX11_trap_79 : decode cX11_trap 79 = .ok (.bipush 66, 2) := by decide +kernel
theorem dX11_trap_81 : decode cX11_trap 81 = .ok (.iconst 3, 1) := by decide +kernel
theorem dX11_trap_82 : decode cX11_trap 82 = .ok (.iload_n 1, 1) := by decide +kernel
theorem dX11_trap_83 : decode cX11_trap 83 = .ok (.iload_n 2, 1) := by decide +kernel
theorem dX11_trap_84 : decode cX11_trap 84 = .ok (.iload_n 3, 1) := by decide +kernel
theorem dX11_trap_85 : decode cX11_trap 85 = .ok (.invokevirtual 89, 3) := by decide +kernel
theorem dX11_trap_88 : decode cX11_trap 88 = .ok (.ireturn, 1) := by decide +kernel
theorem dX11_story_0 : decode cX11_story 0 = .ok (.aload_n 0, 1) := by decide +kernel
theorem dX11_story_1 : decode cX11_story 1 = .ok (.iconst 0, 1) := by decide +kernel
theorem dX11_story_2 : decode cX11_story 2 = .ok (.putfield 3, 3) := by decide +kernel
theorem dX11_story_5 : decode cX11_story 5 = .ok (.aload_n 0, 1) := by decide +kernel
theorem dX11_story_6 : decode cX11_story 6 = .ok (.iload_n 1, 1) := by decide +kernel
theorem dX11_story_7 : decode cX11_story 7 = .ok (.iconst 1, 1) := by decide +kernel
theorem dX11_story_8 : decode cX11_story 8 = .ok (.bipush 99, 2) := by decide +kernel
theorem dX11_story_10 : decode cX11_story 10 = .ok (.invokestatic 81, 3) := by decide +kernel
theorem dX11_story_13 : decode cX11_story 13 = .ok (.ifCond .eq 18, 3) := by decide +kernel
theorem dX11_story_16 : decode cX11_story 16 = .ok (.iload_n 3, 1) := by decide +kernel
theorem dX11_story_17 : decode cX11_story 17 = .ok (.iconst (-1), 1) := by decide +kernel
theorem dX11_story_18 : decode cX11_story 18 = .ok (.if_icmp .eq 17, 3) := by decide +kernel
theorem dX11_story_21 : decode cX11_story 21 = .ok (.iload_n 3, 1) := by decide +kernel
theorem dX11_story_22 : decode cX11_story 22 = .ok (.iconst 1, 1) := by decide +kernel
theorem dX11_story_23 : decode cX11_story 23 = .ok (.bipush 7, 2) := by decide +kernel
theorem dX11_story_25 : decode cX11_story 25 = .ok (.invokestatic 81, 3) := by decide +kernel
theorem dX11_story_28 : decode cX11_story 28 = .ok (.ifCond .ne 7, 3) := by decide +kernel
theorem dX11_story_31 : decode cX11_story 31 = .ok (.iconst 1, 1) := by decide +kernel
theorem dX11_story_32 : decode cX11_story 32 = .ok (.goto 4, 3) := by decide +kernel
theorem dX11_story_35 : decode cX11_story 35 = .ok (.iconst 0, 1) := by decide +kernel
theorem dX11_story_36 : decode cX11_story 36 = .ok (.iconst 1, 1) := by decide +kernel
theorem dX11_story_37 : decode cX11_story 37 = .ok (.invokevirtual 85, 3) := by decide +kernel
theorem dX11_story_40 : decode cX11_story 40 = .ok (.ifCond .ne 27, 3) := by decide +kernel
theorem dX11_story_43 : decode cX11_story 43 = .ok (.aload_n 0, 1) := by decide +kernel
theorem dX11_story_44 : decode cX11_story 44 = .ok (.aload_n 0, 1) := by decide +kernel
theorem dX11_story_45 : decode cX11_story 45 = .ok (.getfield 13, 3) := by decide +kernel
theorem dX11_story_48 : decode cX11_story 48 = .ok (.bipush 6, 2) := by decide +kernel
theorem dX11_story_50 : decode cX11_story 50 = .ok (.iaload, 1) := by decide +kernel
theorem dX11_story_51 : decode cX11_story 51 = .ok (.iconst 5, 1) := by decide +kernel
theorem dX11_story_52 : decode cX11_story 52 = .ok (.if_icmp .ne 7, 3) := by decide +kernel
theorem dX11_story_55 : decode cX11_story 55 = .ok (.iconst 1, 1) := by decide +kernel
theorem dX11_story_56 : decode cX11_story 56 = .ok (.goto 4, 3) := by decide +kernel
theorem dX11_story_59 : decode cX11_story 59 = .ok (.iconst 0, 1) := by decide +kernel
theorem dX11_story_60 : decode cX11_story 60 = .ok (.iconst 2, 1) := by decide +kernel
theorem dX11_story_61 : decode cX11_story 61 = .ok (.invokevirtual 85, 3) := by decide +kernel
theorem dX11_story_64 : decode cX11_story 64 = .ok (.ifCond .eq 5, 3) := by decide +kernel
theorem dX11_story_67 : decode cX11_story 67 = .ok (.iconst 0, 1) := by decide +kernel
theorem dX11_story_68 : decode cX11_story 68 = .ok (.ireturn, 1) := by decide +kernel
theorem dX11_story_69 : decode cX11_story 69 = .ok (.aload_n 0, 1) := by decide +kernel
theorem dX11_story_70 : decode cX11_story 70 = .ok (.bipush 6, 2) := by decide +kernel
theorem dX11_story_72 : decode cX11_story 72 = .ok (.bipush 78, 2) := by decide +kernel
theorem dX11_story_74 : decode cX11_story 74 = .ok (.iconst 3, 1) := by decide +kernel
theorem dX11_story_75 : decode cX11_story 75 = .ok (.iload_n 1, 1) := by decide +kernel
theorem dX11_story_76 : decode cX11_story 76 = .ok (.iload_n 2, 1) := by decide +kernel
theorem dX11_story_77 : decode cX11_story 77 = .ok (.iload_n 3, 1) := by decide +kernel
theorem dX11_story_78 : decode cX11_story 78 = .ok (.invokevirtual 89, 3) := by decide +kernel
theorem dX11_story_81 : decode cX11_story 81 = .ok (.ireturn, 1) := by decide +kernel
theorem dX11_hasOthers_0 : decode cX11_hasOthers 0 = .ok (.iload_n 1, 1) := by decide +kernel
theorem dX11_hasOthers_1 : decode cX11_hasOthers 1 = .ok (.iconst 1, 1) := by decide +kernel
theorem dX11_hasOthers_2 : decode cX11_hasOthers 2 = .ok (.iload_n 2, 1) := by decide +kernel
theorem dX11_hasOthers_3 : decode cX11_hasOthers 3 = .ok (.ishl, 1) := by decide +kernel
theorem dX11_hasOthers_4 : decode cX11_hasOthers 4 = .ok (.iconst 1, 1) := by decide +kernel
theorem dX11_hasOthers_5 : decode cX11_hasOthers 5 = .ok (.isub, 1) := by decide +kernel
theorem dX11_hasOthers_6 : decode cX11_hasOthers 6 = .ok (.iconst (-1), 1) := by decide +kernel
theorem dX11_hasOthers_7 : decode cX11_hasOthers 7 = .ok (.ixor, 1) := by decide +kernel
theorem dX11_hasOthers_8 : decode cX11_hasOthers 8 = .ok (.iand, 1) := by decide +kernel
theorem dX11_hasOthers_9 : decode cX11_hasOthers 9 = .ok (.ifCond .eq 7, 3) := by decide +kernel
theorem dX11_hasOthers_12 : decode cX11_hasOthers 12 = .ok (.iconst 1, 1) := by decide +kernel
theorem dX11_hasOthers_13 : decode cX11_hasOthers 13 = .ok (.goto 4, 3) := by decide +kernel
theorem dX11_hasOthers_16 : decode cX11_hasOthers 16 = .ok (.iconst 0, 1) := by decide +kernel
theorem dX11_hasOthers_17 : decode cX11_hasOthers 17 = .ok (.ireturn, 1) := by decide +kernel
theorem dX11_night_0 : decode cX11_night 0 = .ok (.aload_n 0, 1) := by decide +kernel
theorem dX11_night_1 : decode cX11_night 1 = .ok (.iconst 0, 1) := by decide +kernel
theorem dX11_night_2 : decode cX11_night 2 = .ok (.putfield 3, 3) := by decide +kernel
theorem dX11_night_5 : decode cX11_night 5 = .ok (.aload_n 0, 1) := by decide +kernel
theorem dX11_night_6 : decode cX11_night 6 = .ok (.aload_n 0, 1) := by decide +kernel
theorem dX11_night_7 : decode cX11_night 7 = .ok (.iload_n 1, 1) := by decide +kernel
theorem dX11_night_8 : decode cX11_night 8 = .ok (.iconst 1, 1) := by decide +kernel
theorem dX11_night_9 : decode cX11_night 9 = .ok (.invokevirtual 262, 3) := by decide +kernel
theorem dX11_night_12 : decode cX11_night 12 = .ok (.iconst 1, 1) := by decide +kernel
theorem dX11_night_13 : decode cX11_night 13 = .ok (.invokevirtual 85, 3) := by decide +kernel
theorem dX11_night_16 : decode cX11_night 16 = .ok (.ifCond .eq 5, 3) := by decide +kernel
theorem dX11_night_19 : decode cX11_night 19 = .ok (.iconst 0, 1) := by decide +kernel
theorem dX11_night_20 : decode cX11_night 20 = .ok (.ireturn, 1) := by decide +kernel
theorem dX11_night_21 : decode cX11_night 21 = .ok (.aload_n 0, 1) := by decide +kernel
theorem dX11_night_22 : decode cX11_night 22 = .ok (.iload_n 2, 1) := by decide +kernel
theorem dX11_night_23 : decode cX11_night 23 = .ok (.bipush 8, 2) := by decide +kernel
theorem dX11_night_25 : decode cX11_night 25 = .ok (.invokevirtual 340, 3) := by decide +kernel
theorem dX11_night_28 : decode cX11_night 28 = .ok (.ifCond .ne 42, 3) := by decide +kernel
theorem dX11_night_31 : decode cX11_night 31 = .ok (.aload_n 0, 1) := by decide +kernel
theorem dX11_night_32 : decode cX11_night 32 = .ok (.iload_n 3, 1) := by decide +kernel
theorem dX11_night_33 : decode cX11_night 33 = .ok (.aload_n 0, 1) := by decide +kernel
theorem dX11_night_34 : decode cX11_night 34 = .ok (.getfield 13, 3) := by decide +kernel
theorem dX11_night_37 : decode cX11_night 37 = .ok (.iconst 3, 1) := by decide +kernel
theorem dX11_night_38 : decode cX11_night 38 = .ok (.iaload, 1) := by decide +kernel
theorem dX11_night_39 : decode cX11_night 39 = .ok (.invokevirtual 340, 3) := by decide +kernel
theorem dX11_night_42 : decode cX11_night 42 = .ok (.ifCond .ne 28, 3) := by decide +kernel
theorem dX11_night_45 : decode cX11_night 45 = .ok (.aload_n 0, 1) := by decide +kernel
theorem dX11_night_46 : decode cX11_night 46 = .ok (.iload 4, 2) := by decide +kernel
theorem dX11_night_48 : decode cX11_night 48 = .ok (.aload_n 0, 1) := by decide +kernel
theorem dX11_night_49 : decode cX11_night 49 = .ok (.getfield 13, 3) := by decide +kernel
theorem dX11_night_52 : decode cX11_night 52 = .ok (.iconst 5, 1) := by decide +kernel
theorem dX11_night_53 : decode cX11_night 53 = .ok (.iaload, 1) := by decide +kernel
theorem dX11_night_54 : decode cX11_night 54 = .ok (.invokevirtual 340, 3) := by decide +kernel
theorem dX11_night_57 : decode cX11_night 57 = .ok (.ifCond .ne 13, 3) := by decide +kernel
theorem dX11_night_60 : decode cX11_night 60 = .ok (.iload 5, 2) := by decide +kernel
theorem dX11_night_62 : decode cX11_night 62 = .ok (.iload 4, 2) := by decide +kernel
theorem dX11_night_64 : decode cX11_night 64 = .ok (.iconst (-1), 1) := by decide +kernel
theorem dX11_night_65 : decode cX11_night 65 = .ok (.ixor, 1) := by decide +kernel
theorem dX11_night_66 : decode cX11_night 66 = .ok (.iand, 1) := by decide +kernel
theorem dX11_night_67 : decode cX11_night 67 = .ok (.ifCond .eq 7, 3) := by decide +kernel
theorem dX11_night_70 : decode cX11_night 70 = .ok (.iconst 1, 1) := by decide +kernel
theorem dX11_night_71 : decode cX11_night 71 = .ok (.goto 4, 3) := by decide +kernel
theorem dX11_night_74 : decode cX11_night 74 = .ok (.iconst 0, 1) := by decide +kernel
theorem dX11_night_75 : decode cX11_night 75 = .ok (.istore 6, 2) := by decide +kernel
theorem dX11_night_77 : decode cX11_night 77 = .ok (.aload_n 0, 1) := by decide +kernel
theorem dX11_night_78 : decode cX11_night 78 = .ok (.iload 6, 2) := by decide +kernel
theorem dX11_night_80 : decode cX11_night 80 = .ok (.iconst 2, 1) := by decide +kernel
theorem dX11_night_81 : decode cX11_night 81 = .ok (.invokevirtual 85, 3) := by decide +kernel
theorem dX11_night_84 : decode cX11_night 84 = .ok (.ifCond .ne 28, 3) := by decide +kernel
theorem dX11_night_87 : decode cX11_night 87 = .ok (.aload_n 0, 1) := by decide +kernel
theorem dX11_night_88 : decode cX11_night 88 = .ok (.aload_n 0, 1) := by decide +kernel
theorem dX11_night_89 : decode cX11_night 89 = .ok (.getfield 13, 3) := by decide +kernel
theorem dX11_night_92 : decode cX11_night 92 = .ok (.bipush 7, 2) := by decide +kernel
theorem dX11_night_94 : decode cX11_night 94 = .ok (.iaload, 1) := by decide +kernel
theorem dX11_night_95 : decode cX11_night 95 = .ok (.bipush 12, 2) := by decide +kernel
theorem dX11_night_97 : decode cX11_night 97 = .ok (.if_icmp .ne 7, 3) := by decide +kernel
theorem dX11_night_100 : decode cX11_night 100 = .ok (.iconst 1, 1) := by decide +kernel
theorem dX11_night_101 : decode cX11_night 101 = .ok (.goto 4, 3) := by decide +kernel
theorem dX11_night_104 : decode cX11_night 104 = .ok (.iconst 0, 1) := by decide +kernel
theorem dX11_night_105 : decode cX11_night 105 = .ok (.iconst 3, 1) := by decide +kernel
theorem dX11_night_106 : decode cX11_night 106 = .ok (.invokevirtual 85, 3) := by decide +kernel
theorem dX11_night_109 : decode cX11_night 109 = .ok (.ifCond .eq 5, 3) := by decide +kernel
theorem dX11_night_112 : decode cX11_night 112 = .ok (.iconst 0, 1) := by decide +kernel
theorem dX11_night_113 : decode cX11_night 113 = .ok (.ireturn, 1) := by decide +kernel
theorem dX11_night_114 : decode cX11_night 114 = .ok (.bipush 93, 2) := by decide +kernel
theorem dX11_night_116 : decode cX11_night 116 = .ok (.iconst 5, 1) := by decide +kernel
theorem dX11_night_117 : decode cX11_night 117 = .ok (.aload_n 0, 1) := by decide +kernel
theorem dX11_night_118 : decode cX11_night 118 = .ok (.getfield 13, 3) := by decide +kernel
theorem dX11_night_121 : decode cX11_night 121 = .ok (.bipush 7, 2) := by decide +kernel
theorem dX11_night_123 : decode cX11_night 123 = .ok (.iaload, 1) := by decide +kernel
theorem dX11_night_124 : decode cX11_night 124 = .ok (.imul, 1) := by decide +kernel
theorem dX11_night_125 : decode cX11_night 125 = .ok (.iadd, 1) := by decide +kernel
theorem dX11_night_126 : decode cX11_night 126 = .ok (.istore 7, 2) := by decide +kernel
theorem dX11_night_128 : decode cX11_night 128 = .ok (.aload_n 0, 1) := by decide +kernel
theorem dX11_night_129 : decode cX11_night 129 = .ok (.getfield 13, 3) := by decide +kernel
theorem dX11_night_132 : decode cX11_night 132 = .ok (.iload 7, 2) := by decide +kernel
theorem dX11_night_134 : decode cX11_night 134 = .ok (.iload_n 1, 1) := by decide +kernel
theorem dX11_night_135 : decode cX11_night 135 = .ok (.iastore, 1) := by decide +kernel
theorem dX11_night_136 : decode cX11_night 136 = .ok (.aload_n 0, 1) := by decide +kernel
theorem dX11_night_137 : decode cX11_night 137 = .ok (.getfield 13, 3) := by decide +kernel
theorem dX11_night_140 : decode cX11_night 140 = .ok (.iload 7, 2) := by decide +kernel
theorem dX11_night_142 : decode cX11_night 142 = .ok (.iconst 1, 1) := by decide +kernel
theorem dX11_night_143 : decode cX11_night 143 = .ok (.iadd, 1) := by decide +kernel
theorem dX11_night_144 : decode cX11_night 144 = .ok (.iload_n 2, 1) := by decide +kernel
theorem dX11_night_145 : decode cX11_night 145 = .ok (.iastore, 1) := by decide +kernel
theorem dX11_night_146 : decode cX11_night 146 = .ok (.aload_n 0, 1) := by decide +kernel
theorem dX11_night_147 : decode cX11_night 147 = .ok (.getfield 13, 3) := by decide +kernel
theorem dX11_night_150 : decode cX11_night 150 = .ok (.iload 7, 2) := by decide +kernel
theorem dX11_night_152 : decode cX11_night 152 = .ok (.iconst 2, 1) := by decide +kernel
theorem dX11_night_153 : decode cX11_night 153 = .ok (.iadd, 1) := by decide +kernel
theorem dX11_night_154 : decode cX11_night 154 = .ok (.iload_n 3, 1) := by decide +kernel
theorem dX11_night_155 : decode cX11_night 155 = .ok (.iastore, 1) := by decide +kernel
theorem dX11_night_156 : decode cX11_night 156 = .ok (.aload_n 0, 1) := by decide +kernel
theorem dX11_night_157 : decode cX11_night 157 = .ok (.getfield 13, 3) := by decide +kernel
theorem dX11_night_160 : decode cX11_night 160 = .ok (.iload 7, 2) := by decide +kernel
theorem dX11_night_162 : decode cX11_night 162 = .ok (.iconst 3, 1) := by decide +kernel
theorem dX11_night_163 : decode cX11_night 163 = .ok (.iadd, 1) := by decide +kernel
theorem dX11_night_164 : decode cX11_night 164 = .ok (.iload 4, 2) := by decide +kernel
theorem dX11_night_166 : decode cX11_night 166 = .ok (.iastore, 1) := by decide +kernel
theorem dX11_night_167 : decode cX11_night 167 = .ok (.aload_n 0, 1) := by decide +kernel
theorem dX11_night_168 : decode cX11_night 168 = .ok (.getfield 13, 3) := by decide +kernel
theorem dX11_night_171 : decode cX11_night 171 = .ok (.iload 7, 2) := by decide +kernel
theorem dX11_night_173 : decode cX11_night 173 = .ok (.iconst 4, 1) := by decide +kernel
theorem dX11_night_174 : decode cX11_night 174 = .ok (.iadd, 1) := by decide +kernel
theorem dX11_night_175 : decode cX11_night 175 = .ok (.iload 5, 2) := by decide +kernel
theorem dX11_night_177 : decode cX11_night 177 = .ok (.iastore, 1) := by decide +kernel
theorem dX11_night_178 : decode cX11_night 178 = .ok (.aload_n 0, 1) := by decide +kernel
theorem dX11_night_179 : decode cX11_night 179 = .ok (.getfield 13, 3) := by decide +kernel
theorem dX11_night_182 : decode cX11_night 182 = .ok (.bipush 7, 2) := by decide +kernel
theorem dX11_night_184 : decode cX11_night 184 = .ok (.dup2, 1) := by decide +kernel
theorem dX11_night_185 : decode cX11_night 185 = .ok (.iaload, 1) := by decide +kernel
theorem dX11_night_186 : decode cX11_night 186 = .ok (.iconst 1, 1) := by decide +kernel
theorem dX11_night_187 : decode cX11_night 187 = .ok (.iadd, 1) := by decide +kernel
theorem dX11_night_188 : decode cX11_night 188 = .ok (.iastore, 1) := by decide +kernel
theorem dX11_night_189 : decode cX11_night 189 = .ok (.aload_n 0, 1) := by decide +kernel
theorem dX11_night_190 : decode cX11_night 190 = .ok (.getfield 13, 3) := by decide +kernel
theorem dX11_night_193 : decode cX11_night 193 = .ok (.bipush 7, 2) := by decide +kernel
theorem dX11_night_195 : decode cX11_night 195 = .ok (.iaload, 1) := by decide +kernel
theorem dX11_night_196 : decode cX11_night 196 = .ok (.iconst 1, 1) := by decide +kernel
theorem dX11_night_197 : decode cX11_night 197 = .ok (.isub, 1) := by decide +kernel
theorem dX11_night_198 : decode cX11_night 198 = .ok (.ireturn, 1) := by decide +kernel
theorem dX11_forgets_0 : decode cX11_forgets 0 = .ok (.iconst 0, 1) := by decide +kernel
theorem dX11_forgets_1 : decode cX11_forgets 1 = .ok (.istore_n 1, 1) := by decide +kernel
theorem dX11_forgets_2 : decode cX11_forgets 2 = .ok (.iload_n 1, 1) := by decide +kernel
theorem dX11_forgets_3 : decode cX11_forgets 3 = .ok (.sipush 512, 3) := by decide +kernel
theorem dX11_forgets_6 : decode cX11_forgets 6 = .ok (.if_icmp .ge 16, 3) := by decide +kernel
theorem dX11_forgets_9 : decode cX11_forgets 9 = .ok (.aload_n 0, 1) := by decide +kernel
theorem dX11_forgets_10 : decode cX11_forgets 10 = .ok (.getfield 58, 3) := by decide +kernel
theorem dX11_forgets_13 : decode cX11_forgets 13 = .ok (.iload_n 1, 1) := by decide +kernel
theorem dX11_forgets_14 : decode cX11_forgets 14 = .ok (.iconst 0, 1) := by decide +kernel
theorem dX11_forgets_15 : decode cX11_forgets 15 = .ok (.bastore, 1) := by decide +kernel
theorem dX11_forgets_16 : decode cX11_forgets 16 = .ok (.iinc 1 1, 3) := by decide +kernel
theorem dX11_forgets_19 : decode cX11_forgets 19 = .ok (.goto (-17), 3) := by decide +kernel
theorem dX11_forgets_22 : decode cX11_forgets 22 = .ok (.return_, 1) := by decide +kernel
theorem dX11_canBe_0 : decode cX11_canBe 0 = .ok (.iload_n 2, 1) := by decide +kernel
theorem dX11_canBe_1 : decode cX11_canBe 1 = .ok (.iconst 1, 1) := by decide +kernel
theorem dX11_canBe_2 : decode cX11_canBe 2 = .ok (.aload_n 0, 1) := by decide +kernel
theorem dX11_canBe_3 : decode cX11_canBe 3 = .ok (.getfield 13, 3) := by decide +kernel
theorem dX11_canBe_6 : decode cX11_canBe 6 = .ok (.iconst 2, 1) := by decide +kernel
theorem dX11_canBe_7 : decode cX11_canBe 7 = .ok (.iaload, 1) := by decide +kernel
theorem dX11_canBe_8 : decode cX11_canBe 8 = .ok (.ishl, 1) := by decide +kernel
theorem dX11_canBe_9 : decode cX11_canBe 9 = .ok (.iconst 1, 1) := by decide +kernel
theorem dX11_canBe_10 : decode cX11_canBe 10 = .ok (.isub, 1) := by decide +kernel
theorem dX11_canBe_11 : decode cX11_canBe 11 = .ok (.iand, 1) := by decide +kernel
theorem dX11_canBe_12 : decode cX11_canBe 12 = .ok (.istore 4, 2) := by decide +kernel
theorem dX11_canBe_14 : decode cX11_canBe 14 = .ok (.iconst 2, 1) := by decide +kernel
theorem dX11_canBe_15 : decode cX11_canBe 15 = .ok (.bipush 64, 2) := by decide +kernel
theorem dX11_canBe_17 : decode cX11_canBe 17 = .ok (.iload_n 1, 1) := by decide +kernel
theorem dX11_canBe_18 : decode cX11_canBe 18 = .ok (.imul, 1) := by decide +kernel
theorem dX11_canBe_19 : decode cX11_canBe 19 = .ok (.iload 4, 2) := by decide +kernel
theorem dX11_canBe_21 : decode cX11_canBe 21 = .ok (.iadd, 1) := by decide +kernel
theorem dX11_canBe_22 : decode cX11_canBe 22 = .ok (.imul, 1) := by decide +kernel
theorem dX11_canBe_23 : decode cX11_canBe 23 = .ok (.iload_n 3, 1) := by decide +kernel
theorem dX11_canBe_24 : decode cX11_canBe 24 = .ok (.ifCond .eq 7, 3) := by decide +kernel
theorem dX11_canBe_27 : decode cX11_canBe 27 = .ok (.iconst 1, 1) := by decide +kernel
theorem dX11_canBe_28 : decode cX11_canBe 28 = .ok (.goto 4, 3) := by decide +kernel
theorem dX11_canBe_31 : decode cX11_canBe 31 = .ok (.iconst 0, 1) := by decide +kernel
theorem dX11_canBe_32 : decode cX11_canBe 32 = .ok (.iadd, 1) := by decide +kernel
theorem dX11_canBe_33 : decode cX11_canBe 33 = .ok (.istore 5, 2) := by decide +kernel
theorem dX11_canBe_35 : decode cX11_canBe 35 = .ok (.aload_n 0, 1) := by decide +kernel
theorem dX11_canBe_36 : decode cX11_canBe 36 = .ok (.getfield 58, 3) := by decide +kernel
theorem dX11_canBe_39 : decode cX11_canBe 39 = .ok (.iload 5, 2) := by decide +kernel
theorem dX11_canBe_41 : decode cX11_canBe 41 = .ok (.baload, 1) := by decide +kernel
theorem dX11_canBe_42 : decode cX11_canBe 42 = .ok (.ifCond .eq 11, 3) := by decide +kernel
theorem dX11_canBe_45 : decode cX11_canBe 45 = .ok (.aload_n 0, 1) := by decide +kernel
theorem dX11_canBe_46 : decode cX11_canBe 46 = .ok (.getfield 61, 3) := by decide +kernel
theorem dX11_canBe_49 : decode cX11_canBe 49 = .ok (.iload 5, 2) := by decide +kernel
theorem dX11_canBe_51 : decode cX11_canBe 51 = .ok (.iaload, 1) := by decide +kernel
theorem dX11_canBe_52 : decode cX11_canBe 52 = .ok (.ireturn, 1) := by decide +kernel
theorem dX11_canBe_53 : decode cX11_canBe 53 = .ok (.aload_n 0, 1) := by decide +kernel
theorem dX11_canBe_54 : decode cX11_canBe 54 = .ok (.getfield 58, 3) := by decide +kernel
theorem dX11_canBe_57 : decode cX11_canBe 57 = .ok (.iload 5, 2) := by decide +kernel
theorem dX11_canBe_59 : decode cX11_canBe 59 = .ok (.iconst 1, 1) := by decide +kernel
theorem dX11_canBe_60 : decode cX11_canBe 60 = .ok (.bastore, 1) := by decide +kernel
theorem dX11_canBe_61 : decode cX11_canBe 61 = .ok (.aload_n 0, 1) := by decide +kernel
theorem dX11_canBe_62 : decode cX11_canBe 62 = .ok (.iload_n 1, 1) := by decide +kernel
theorem dX11_canBe_63 : decode cX11_canBe 63 = .ok (.iconst (-1), 1) := by decide +kernel
theorem dX11_canBe_64 : decode cX11_canBe 64 = .ok (.invokevirtual 265, 3) := by decide +kernel
theorem dX11_canBe_67 : decode cX11_canBe 67 = .ok (.aload_n 0, 1) := by decide +kernel
theorem dX11_canBe_68 : decode cX11_canBe 68 = .ok (.iload 4, 2) := by decide +kernel
theorem dX11_canBe_70 : decode cX11_canBe 70 = .ok (.iload_n 3, 1) := by decide +kernel
theorem dX11_canBe_71 : decode cX11_canBe 71 = .ok (.invokevirtual 330, 3) := by decide +kernel
theorem dX11_canBe_74 : decode cX11_canBe 74 = .ok (.aload_n 0, 1) := by decide +kernel
theorem dX11_canBe_75 : decode cX11_canBe 75 = .ok (.getfield 61, 3) := by decide +kernel
theorem dX11_canBe_78 : decode cX11_canBe 78 = .ok (.iload 5, 2) := by decide +kernel
theorem dX11_canBe_80 : decode cX11_canBe 80 = .ok (.iconst 0, 1) := by decide +kernel
theorem dX11_canBe_81 : decode cX11_canBe 81 = .ok (.iastore, 1) := by decide +kernel
theorem dX11_canBe_82 : decode cX11_canBe 82 = .ok (.iconst 0, 1) := by decide +kernel
theorem dX11_canBe_83 : decode cX11_canBe 83 = .ok (.istore 6, 2) := by decide +kernel
theorem dX11_canBe_85 : decode cX11_canBe 85 = .ok (.iload 6, 2) := by decide +kernel
theorem dX11_canBe_87 : decode cX11_canBe 87 = .ok (.aload_n 0, 1) := by decide +kernel
theorem dX11_canBe_88 : decode cX11_canBe 88 = .ok (.getfield 13, 3) := by decide +kernel
theorem dX11_canBe_91 : decode cX11_canBe 91 = .ok (.iconst 3, 1) := by decide +kernel
theorem dX11_canBe_92 : decode cX11_canBe 92 = .ok (.iaload, 1) := by decide +kernel
theorem dX11_canBe_93 : decode cX11_canBe 93 = .ok (.if_icmp .ge 42, 3) := by decide +kernel
theorem dX11_canBe_96 : decode cX11_canBe 96 = .ok (.aload_n 0, 1) := by decide +kernel
theorem dX11_canBe_97 : decode cX11_canBe 97 = .ok (.getfield 61, 3) := by decide +kernel
theorem dX11_canBe_100 : decode cX11_canBe 100 = .ok (.iload 5, 2) := by decide +kernel
theorem dX11_canBe_102 : decode cX11_canBe 102 = .ok (.dup2, 1) := by decide +kernel
theorem dX11_canBe_103 : decode cX11_canBe 103 = .ok (.iaload, 1) := by decide +kernel
theorem dX11_canBe_104 : decode cX11_canBe 104 = .ok (.aload_n 0, 1) := by decide +kernel
theorem dX11_canBe_105 : decode cX11_canBe 105 = .ok (.iload 6, 2) := by decide +kernel
theorem dX11_canBe_107 : decode cX11_canBe 107 = .ok (.aload_n 0, 1) := by decide +kernel
theorem dX11_canBe_108 : decode cX11_canBe 108 = .ok (.iload 4, 2) := by decide +kernel
theorem dX11_canBe_110 : decode cX11_canBe 110 = .ok (.invokevirtual 305, 3) := by decide +kernel
theorem dX11_canBe_113 : decode cX11_canBe 113 = .ok (.invokevirtual 334, 3) := by decide +kernel
theorem dX11_canBe_116 : decode cX11_canBe 116 = .ok (.ifCond .lt 10, 3) := by decide +kernel
theorem dX11_canBe_119 : decode cX11_canBe 119 = .ok (.iconst 1, 1) := by decide +kernel
theorem dX11_canBe_120 : decode cX11_canBe 120 = .ok (.iload 6, 2) := by decide +kernel
theorem dX11_canBe_122 : decode cX11_canBe 122 = .ok (.ishl, 1) := by decide +kernel
theorem dX11_canBe_123 : decode cX11_canBe 123 = .ok (.goto 4, 3) := by decide +kernel
theorem dX11_canBe_126 : decode cX11_canBe 126 = .ok (.iconst 0, 1) := by decide +kernel
theorem dX11_canBe_127 : decode cX11_canBe 127 = .ok (.ior, 1) := by decide +kernel
theorem dX11_canBe_128 : decode cX11_canBe 128 = .ok (.iastore, 1) := by decide +kernel
theorem dX11_canBe_129 : decode cX11_canBe 129 = .ok (.iinc 6 1, 3) := by decide +kernel
theorem dX11_canBe_132 : decode cX11_canBe 132 = .ok (.goto (-47), 3) := by decide +kernel
theorem dX11_canBe_135 : decode cX11_canBe 135 = .ok (.aload_n 0, 1) := by decide +kernel
theorem dX11_canBe_136 : decode cX11_canBe 136 = .ok (.getfield 61, 3) := by decide +kernel
theorem dX11_canBe_139 : decode cX11_canBe 139 = .ok (.iload 5, 2) := by decide +kernel
theorem dX11_canBe_141 : decode cX11_canBe 141 = .ok (.iaload, 1) := by decide +kernel
theorem dX11_canBe_142 : decode cX11_canBe 142 = .ok (.ireturn, 1) := by decide +kernel
theorem dX11_springs_0 : decode cX11_springs 0 = .ok (.aload_n 0, 1) := by decide +kernel
theorem dX11_springs_1 : decode cX11_springs 1 = .ok (.getfield 13, 3) := by decide +kernel
theorem dX11_springs_4 : decode cX11_springs 4 = .ok (.bipush 66, 2) := by decide +kernel
theorem dX11_springs_6 : decode cX11_springs 6 = .ok (.iconst 3, 1) := by decide +kernel
theorem dX11_springs_7 : decode cX11_springs 7 = .ok (.iload_n 2, 1) := by decide +kernel
theorem dX11_springs_8 : decode cX11_springs 8 = .ok (.imul, 1) := by decide +kernel
theorem dX11_springs_9 : decode cX11_springs 9 = .ok (.iadd, 1) := by decide +kernel
theorem dX11_springs_10 : decode cX11_springs 10 = .ok (.aload_n 0, 1) := by decide +kernel
theorem dX11_springs_11 : decode cX11_springs 11 = .ok (.getfield 13, 3) := by decide +kernel
theorem dX11_springs_14 : decode cX11_springs 14 = .ok (.bipush 78, 2) := by decide +kernel
theorem dX11_springs_16 : decode cX11_springs 16 = .ok (.iconst 3, 1) := by decide +kernel
theorem dX11_springs_17 : decode cX11_springs 17 = .ok (.iload_n 1, 1) := by decide +kernel
theorem dX11_springs_18 : decode cX11_springs 18 = .ok (.imul, 1) := by decide +kernel
theorem dX11_springs_19 : decode cX11_springs 19 = .ok (.iadd, 1) := by decide +kernel
theorem dX11_springs_20 : decode cX11_springs 20 = .ok (.iconst 1, 1) := by decide +kernel
theorem dX11_springs_21 : decode cX11_springs 21 = .ok (.iadd, 1) := by decide +kernel
theorem dX11_springs_22 : decode cX11_springs 22 = .ok (.iaload, 1) := by decide +kernel
theorem dX11_springs_23 : decode cX11_springs 23 = .ok (.aload_n 0, 1) := by decide +kernel
theorem dX11_springs_24 : decode cX11_springs 24 = .ok (.getfield 13, 3) := by decide +kernel
theorem dX11_springs_27 : decode cX11_springs 27 = .ok (.bipush 66, 2) := by decide +kernel
theorem dX11_springs_29 : decode cX11_springs 29 = .ok (.iconst 3, 1) := by decide +kernel
theorem dX11_springs_30 : decode cX11_springs 30 = .ok (.iload_n 2, 1) := by decide +kernel
theorem dX11_springs_31 : decode cX11_springs 31 = .ok (.imul, 1) := by decide +kernel
theorem dX11_springs_32 : decode cX11_springs 32 = .ok (.iadd, 1) := by decide +kernel
theorem dX11_springs_33 : decode cX11_springs 33 = .ok (.iaload, 1) := by decide +kernel
theorem dX11_springs_34 : decode cX11_springs 34 = .ok (.ishr, 1) := by decide +kernel
theorem dX11_springs_35 : decode cX11_springs 35 = .ok (.iconst 1, 1) := by decide +kernel
theorem dX11_springs_36 : decode cX11_springs 36 = .ok (.iand, 1) := by decide +kernel
theorem dX11_springs_37 : decode cX11_springs 37 = .ok (.iconst 1, 1) := by decide +kernel
theorem dX11_springs_38 : decode cX11_springs 38 = .ok (.if_icmp .ne 7, 3) := by decide +kernel
theorem dX11_springs_41 : decode cX11_springs 41 = .ok (.iconst 1, 1) := by decide +kernel
theorem dX11_springs_42 : decode cX11_springs 42 = .ok (.goto 4, 3) := by decide +kernel
theorem dX11_springs_45 : decode cX11_springs 45 = .ok (.iconst 2, 1) := by decide +kernel
theorem dX11_springs_46 : decode cX11_springs 46 = .ok (.iadd, 1) := by decide +kernel
theorem dX11_springs_47 : decode cX11_springs 47 = .ok (.iaload, 1) := by decide +kernel
theorem dX11_springs_48 : decode cX11_springs 48 = .ok (.ireturn, 1) := by decide +kernel
theorem dX11_factorOf_0 : decode cX11_factorOf 0 = .ok (.bipush 93, 2) := by decide +kernel
theorem dX11_factorOf_2 : decode cX11_factorOf 2 = .ok (.iconst 5, 1) := by decide +kernel
theorem dX11_factorOf_3 : decode cX11_factorOf 3 = .ok (.iload_n 2, 1) := by decide +kernel
theorem dX11_factorOf_4 : decode cX11_factorOf 4 = .ok (.imul, 1) := by decide +kernel
theorem dX11_factorOf_5 : decode cX11_factorOf 5 = .ok (.iadd, 1) := by decide +kernel
theorem dX11_factorOf_6 : decode cX11_factorOf 6 = .ok (.istore_n 3, 1) := by decide +kernel
theorem dX11_factorOf_7 : decode cX11_factorOf 7 = .ok (.aload_n 0, 1) := by decide +kernel
theorem dX11_factorOf_8 : decode cX11_factorOf 8 = .ok (.getfield 13, 3) := by decide +kernel
theorem dX11_factorOf_11 : decode cX11_factorOf 11 = .ok (.bipush 78, 2) := by decide +kernel
theorem dX11_factorOf_13 : decode cX11_factorOf 13 = .ok (.iconst 3, 1) := by decide +kernel
theorem dX11_factorOf_14 : decode cX11_factorOf 14 = .ok (.iload_n 1, 1) := by decide +kernel
theorem dX11_factorOf_15 : decode cX11_factorOf 15 = .ok (.imul, 1) := by decide +kernel
theorem dX11_factorOf_16 : decode cX11_factorOf 16 = .ok (.iadd, 1) := by decide +kernel
theorem dX11_factorOf_17 : decode cX11_factorOf 17 = .ok (.iconst 2, 1) := by decide +kernel
theorem dX11_factorOf_18 : decode cX11_factorOf 18 = .ok (.iadd, 1) := by decide +kernel
theorem dX11_factorOf_19 : decode cX11_factorOf 19 = .ok (.iaload, 1) := by decide +kernel
theorem dX11_factorOf_20 : decode cX11_factorOf 20 = .ok (.istore 4, 2) := by decide +kernel
theorem dX11_factorOf_22 : decode cX11_factorOf 22 = .ok (.aload_n 0, 1) := by decide +kernel
theorem dX11_factorOf_23 : decode cX11_factorOf 23 = .ok (.aload_n 0, 1) := by decide +kernel
theorem dX11_factorOf_24 : decode cX11_factorOf 24 = .ok (.getfield 13, 3) := by decide +kernel
theorem dX11_factorOf_27 : decode cX11_factorOf 27 = .ok (.iload_n 3, 1) := by decide +kernel
theorem dX11_factorOf_28 : decode cX11_factorOf 28 = .ok (.iaload, 1) := by decide +kernel
theorem dX11_factorOf_29 : decode cX11_factorOf 29 = .ok (.aload_n 0, 1) := by decide +kernel
theorem dX11_factorOf_30 : decode cX11_factorOf 30 = .ok (.getfield 13, 3) := by decide +kernel
theorem dX11_factorOf_33 : decode cX11_factorOf 33 = .ok (.bipush 78, 2) := by decide +kernel
theorem dX11_factorOf_35 : decode cX11_factorOf 35 = .ok (.iconst 3, 1) := by decide +kernel
theorem dX11_factorOf_36 : decode cX11_factorOf 36 = .ok (.iload_n 1, 1) := by decide +kernel
theorem dX11_factorOf_37 : decode cX11_factorOf 37 = .ok (.imul, 1) := by decide +kernel
theorem dX11_factorOf_38 : decode cX11_factorOf 38 = .ok (.iadd, 1) := by decide +kernel
theorem dX11_factorOf_39 : decode cX11_factorOf 39 = .ok (.iconst 1, 1) := by decide +kernel
theorem dX11_factorOf_40 : decode cX11_factorOf 40 = .ok (.iadd, 1) := by decide +kernel
theorem dX11_factorOf_41 : decode cX11_factorOf 41 = .ok (.iaload, 1) := by decide +kernel
theorem dX11_factorOf_42 : decode cX11_factorOf 42 = .ok (.iload 4, 2) := by decide +kernel
theorem dX11_factorOf_44 : decode cX11_factorOf 44 = .ok (.ifCond .lt 24, 3) := by decide +kernel
theorem dX11_factorOf_47 : decode cX11_factorOf 47 = .ok (.aload_n 0, 1) := by decide +kernel
theorem dX11_factorOf_48 : decode cX11_factorOf 48 = .ok (.getfield 13, 3) := by decide +kernel
theorem dX11_factorOf_51 : decode cX11_factorOf 51 = .ok (.iload_n 3, 1) := by decide +kernel
theorem dX11_factorOf_52 : decode cX11_factorOf 52 = .ok (.iconst 1, 1) := by decide +kernel
theorem dX11_factorOf_53 : decode cX11_factorOf 53 = .ok (.iadd, 1) := by decide +kernel
theorem dX11_factorOf_54 : decode cX11_factorOf 54 = .ok (.iaload, 1) := by decide +kernel
theorem dX11_factorOf_55 : decode cX11_factorOf 55 = .ok (.iload 4, 2) := by decide +kernel
theorem dX11_factorOf_57 : decode cX11_factorOf 57 = .ok (.ishr, 1) := by decide +kernel
theorem dX11_factorOf_58 : decode cX11_factorOf 58 = .ok (.iconst 1, 1) := by decide +kernel
theorem dX11_factorOf_59 : decode cX11_factorOf 59 = .ok (.iand, 1) := by decide +kernel
theorem dX11_factorOf_60 : decode cX11_factorOf 60 = .ok (.iconst 1, 1) := by decide +kernel
theorem dX11_factorOf_61 : decode cX11_factorOf 61 = .ok (.if_icmp .ne 7, 3) := by decide +kernel
theorem dX11_factorOf_64 : decode cX11_factorOf 64 = .ok (.iconst 1, 1) := by decide +kernel
theorem dX11_factorOf_65 : decode cX11_factorOf 65 = .ok (.goto 4, 3) := by decide +kernel
theorem dX11_factorOf_68 : decode cX11_factorOf 68 = .ok (.iconst 0, 1) := by decide +kernel
theorem dX11_factorOf_69 : decode cX11_factorOf 69 = .ok (.invokevirtual 343, 3) := by decide +kernel
theorem dX11_factorOf_72 : decode cX11_factorOf 72 = .ok (.istore 5, 2) := by decide +kernel
theorem dX11_factorOf_74 : decode cX11_factorOf 74 = .ok (.lconst 1, 1) := by decide +kernel
theorem dX11_factorOf_75 : decode cX11_factorOf 75 = .ok (.lstore 6, 2) := by decide +kernel
theorem dX11_factorOf_77 : decode cX11_factorOf 77 = .ok (.iconst 0, 1) := by decide +kernel
theorem dX11_factorOf_78 : decode cX11_factorOf 78 = .ok (.istore 8, 2) := by decide +kernel
theorem dX11_factorOf_80 : decode cX11_factorOf 80 = .ok (.iload 8, 2) := by decide +kernel
theorem dX11_factorOf_82 : decode cX11_factorOf 82 = .ok (.aload_n 0, 1) := by decide +kernel
theorem dX11_factorOf_83 : decode cX11_factorOf 83 = .ok (.getfield 13, 3) := by decide +kernel
theorem dX11_factorOf_86 : decode cX11_factorOf 86 = .ok (.iconst 3, 1) := by decide +kernel
theorem dX11_factorOf_87 : decode cX11_factorOf 87 = .ok (.iaload, 1) := by decide +kernel
theorem dX11_factorOf_88 : decode cX11_factorOf 88 = .ok (.if_icmp .ge 78, 3) := by decide +kernel
theorem dX11_factorOf_91 : decode cX11_factorOf 91 = .ok (.aload_n 0, 1) := by decide +kernel
theorem dX11_factorOf_92 : decode cX11_factorOf 92 = .ok (.getfield 13, 3) := by decide +kernel
theorem dX11_factorOf_95 : decode cX11_factorOf 95 = .ok (.iload_n 3, 1) := by decide +kernel
theorem dX11_factorOf_96 : decode cX11_factorOf 96 = .ok (.iconst 2, 1) := by decide +kernel
theorem dX11_factorOf_97 : decode cX11_factorOf 97 = .ok (.iadd, 1) := by decide +kernel
theorem dX11_factorOf_98 : decode cX11_factorOf 98 = .ok (.iaload, 1) := by decide +kernel
theorem dX11_factorOf_99 : decode cX11_factorOf 99 = .ok (.iload 8, 2) := by decide +kernel
theorem dX11_factorOf_101 : decode cX11_factorOf 101 = .ok (.ishr, 1) := by decide +kernel
theorem dX11_factorOf_102 : decode cX11_factorOf 102 = .ok (.iconst 1, 1) := by decide +kernel
theorem dX11_factorOf_103 : decode cX11_factorOf 103 = .ok (.iand, 1) := by decide +kernel
theorem dX11_factorOf_104 : decode cX11_factorOf 104 = .ok (.iconst 1, 1) := by decide +kernel
theorem dX11_factorOf_105 : decode cX11_factorOf 105 = .ok (.if_icmp .ne 7, 3) := by decide +kernel
theorem dX11_factorOf_108 : decode cX11_factorOf 108 = .ok (.iconst 1, 1) := by decide +kernel
theorem dX11_factorOf_109 : decode cX11_factorOf 109 = .ok (.goto 4, 3) := by decide +kernel
theorem dX11_factorOf_112 : decode cX11_factorOf 112 = .ok (.iconst 0, 1) := by decide +kernel
theorem dX11_factorOf_113 : decode cX11_factorOf 113 = .ok (.istore 9, 2) := by decide +kernel
theorem dX11_factorOf_115 : decode cX11_factorOf 115 = .ok (.lload 6, 2) := by decide +kernel
theorem dX11_factorOf_117 : decode cX11_factorOf 117 = .ok (.iload 5, 2) := by decide +kernel
theorem dX11_factorOf_119 : decode cX11_factorOf 119 = .ok (.iload 8, 2) := by decide +kernel
theorem dX11_factorOf_121 : decode cX11_factorOf 121 = .ok (.ishr, 1) := by decide +kernel
theorem dX11_factorOf_122 : decode cX11_factorOf 122 = .ok (.iconst 1, 1) := by decide +kernel
theorem dX11_factorOf_123 : decode cX11_factorOf 123 = .ok (.iand, 1) := by decide +kernel
theorem dX11_factorOf_124 : decode cX11_factorOf 124 = .ok (.iconst 1, 1) := by decide +kernel
theorem dX11_factorOf_125 : decode cX11_factorOf 125 = .ok (.if_icmp .ne 20, 3) := by decide +kernel
theorem dX11_factorOf_128 : decode cX11_factorOf 128 = .ok (.iload 9, 2) := by decide +kernel
theorem dX11_factorOf_130 : decode cX11_factorOf 130 = .ok (.ifCond .eq 9, 3) := by decide +kernel
theorem dX11_factorOf_133 : decode cX11_factorOf 133 = .ok (.ldc2_w 347, 3) := by decide +kernel
theorem dX11_factorOf_136 : decode cX11_factorOf 136 = .ok (.goto 21, 3) := by decide +kernel
theorem dX11_factorOf_139 : decode cX11_factorOf 139 = .ok (.ldc2_w 349, 3) := by decide +kernel
theorem dX11_factorOf_142 : decode cX11_factorOf 142 = .ok (.goto 15, 3) := by decide +kernel
theorem dX11_factorOf_145 : decode cX11_factorOf 145 = .ok (.iload 9, 2) := by decide +kernel
theorem dX11_factorOf_147 : decode cX11_factorOf 147 = .ok (.ifCond .eq 7, 3) := by decide +kernel
theorem dX11_factorOf_150 : decode cX11_factorOf 150 = .ok (.lconst 1, 1) := by decide +kernel
theorem dX11_factorOf_151 : decode cX11_factorOf 151 = .ok (.goto 6, 3) := by decide +kernel
theorem dX11_factorOf_154 : decode cX11_factorOf 154 = .ok (.ldc2_w 351, 3) := by decide +kernel
theorem dX11_factorOf_157 : decode cX11_factorOf 157 = .ok (.lmul, 1) := by decide +kernel
theorem dX11_factorOf_158 : decode cX11_factorOf 158 = .ok (.lstore 6, 2) := by decide +kernel
theorem dX11_factorOf_160 : decode cX11_factorOf 160 = .ok (.iinc 8 1, 3) := by decide +kernel
theorem dX11_factorOf_163 : decode cX11_factorOf 163 = .ok (.goto (-83), 3) := by decide +kernel
theorem dX11_factorOf_166 : decode cX11_factorOf 166 = .ok (.iconst 0, 1) := by decide +kernel
theorem dX11_factorOf_167 : decode cX11_factorOf 167 = .ok (.istore 8, 2) := by decide +kernel
theorem dX11_factorOf_169 : decode cX11_factorOf 169 = .ok (.iload 8, 2) := by decide +kernel
theorem dX11_factorOf_171 : decode cX11_factorOf 171 = .ok (.aload_n 0, 1) := by decide +kernel
theorem dX11_factorOf_172 : decode cX11_factorOf 172 = .ok (.getfield 13, 3) := by decide +kernel
theorem dX11_factorOf_175 : decode cX11_factorOf 175 = .ok (.iconst 5, 1) := by decide +kernel
theorem dX11_factorOf_176 : decode cX11_factorOf 176 = .ok (.iaload, 1) := by decide +kernel
theorem dX11_factorOf_177 : decode cX11_factorOf 177 = .ok (.if_icmp .ge 71, 3) := by decide +kernel
theorem dX11_factorOf_180 : decode cX11_factorOf 180 = .ok (.aload_n 0, 1) := by decide +kernel
theorem dX11_factorOf_181 : decode cX11_factorOf 181 = .ok (.getfield 13, 3) := by decide +kernel
theorem dX11_factorOf_184 : decode cX11_factorOf 184 = .ok (.iload_n 3, 1) := by decide +kernel
theorem dX11_factorOf_185 : decode cX11_factorOf 185 = .ok (.iconst 3, 1) := by decide +kernel
theorem dX11_factorOf_186 : decode cX11_factorOf 186 = .ok (.iadd, 1) := by decide +kernel
theorem dX11_factorOf_187 : decode cX11_factorOf 187 = .ok (.iaload, 1) := by decide +kernel
theorem dX11_factorOf_188 : decode cX11_factorOf 188 = .ok (.iload 8, 2) := by decide +kernel
theorem dX11_factorOf_190 : decode cX11_factorOf 190 = .ok (.ishr, 1) := by decide +kernel
theorem dX11_factorOf_191 : decode cX11_factorOf 191 = .ok (.iconst 1, 1) := by decide +kernel
theorem dX11_factorOf_192 : decode cX11_factorOf 192 = .ok (.iand, 1) := by decide +kernel
theorem dX11_factorOf_193 : decode cX11_factorOf 193 = .ok (.ifCond .ne 6, 3) := by decide +kernel
theorem dX11_factorOf_196 : decode cX11_factorOf 196 = .ok (.goto 46, 3) := by decide +kernel
theorem dX11_factorOf_199 : decode cX11_factorOf 199 = .ok (.aload_n 0, 1) := by decide +kernel
theorem dX11_factorOf_200 : decode cX11_factorOf 200 = .ok (.iload_n 1, 1) := by decide +kernel
theorem dX11_factorOf_201 : decode cX11_factorOf 201 = .ok (.iload 8, 2) := by decide +kernel
theorem dX11_factorOf_203 : decode cX11_factorOf 203 = .ok (.invokevirtual 353, 3) := by decide +kernel
theorem dX11_factorOf_206 : decode cX11_factorOf 206 = .ok (.istore 9, 2) := by decide +kernel
theorem dX11_factorOf_208 : decode cX11_factorOf 208 = .ok (.lload 6, 2) := by decide +kernel
theorem dX11_factorOf_210 : decode cX11_factorOf 210 = .ok (.aload_n 0, 1) := by decide +kernel
theorem dX11_factorOf_211 : decode cX11_factorOf 211 = .ok (.getfield 13, 3) := by decide +kernel
theorem dX11_factorOf_214 : decode cX11_factorOf 214 = .ok (.iload_n 3, 1) := by decide +kernel
theorem dX11_factorOf_215 : decode cX11_factorOf 215 = .ok (.iconst 4, 1) := by decide +kernel
theorem dX11_factorOf_216 : decode cX11_factorOf 216 = .ok (.iadd, 1) := by decide +kernel
theorem dX11_factorOf_217 : decode cX11_factorOf 217 = .ok (.iaload, 1) := by decide +kernel
theorem dX11_factorOf_218 : decode cX11_factorOf 218 = .ok (.iload 8, 2) := by decide +kernel
theorem dX11_factorOf_220 : decode cX11_factorOf 220 = .ok (.ishr, 1) := by decide +kernel
theorem dX11_factorOf_221 : decode cX11_factorOf 221 = .ok (.iconst 1, 1) := by decide +kernel
theorem dX11_factorOf_222 : decode cX11_factorOf 222 = .ok (.iand, 1) := by decide +kernel
theorem dX11_factorOf_223 : decode cX11_factorOf 223 = .ok (.iconst 1, 1) := by decide +kernel
theorem dX11_factorOf_224 : decode cX11_factorOf 224 = .ok (.if_icmp .ne 9, 3) := by decide +kernel
theorem dX11_factorOf_227 : decode cX11_factorOf 227 = .ok (.iload 9, 2) := by decide +kernel
theorem dX11_factorOf_229 : decode cX11_factorOf 229 = .ok (.i2l, 1) := by decide +kernel
theorem dX11_factorOf_230 : decode cX11_factorOf 230 = .ok (.goto 9, 3) := by decide +kernel
theorem dX11_factorOf_233 : decode cX11_factorOf 233 = .ok (.bipush 10, 2) := by decide +kernel
theorem dX11_factorOf_235 : decode cX11_factorOf 235 = .ok (.iload 9, 2) := by decide +kernel
theorem dX11_factorOf_237 : decode cX11_factorOf 237 = .ok (.isub, 1) := by decide +kernel
theorem dX11_factorOf_238 : decode cX11_factorOf 238 = .ok (.i2l, 1) := by decide +kernel
theorem dX11_factorOf_239 : decode cX11_factorOf 239 = .ok (.lmul, 1) := by decide +kernel
theorem dX11_factorOf_240 : decode cX11_factorOf 240 = .ok (.lstore 6, 2) := by decide +kernel
theorem dX11_factorOf_242 : decode cX11_factorOf 242 = .ok (.iinc 8 1, 3) := by decide +kernel
theorem dX11_factorOf_245 : decode cX11_factorOf 245 = .ok (.goto (-76), 3) := by decide +kernel
theorem dX11_factorOf_248 : decode cX11_factorOf 248 = .ok (.lload 6, 2) := by decide +kernel
theorem dX11_factorOf_250 : decode cX11_factorOf 250 = .ok (.lreturn, 1) := by decide +kernel
theorem dX11_shares_0 : decode cX11_shares 0 = .ok (.aload_n 0, 1) := by decide +kernel
theorem dX11_shares_1 : decode cX11_shares 1 = .ok (.getfield 13, 3) := by decide +kernel
theorem dX11_shares_4 : decode cX11_shares 4 = .ok (.bipush 6, 2) := by decide +kernel
theorem dX11_shares_6 : decode cX11_shares 6 = .ok (.iaload, 1) := by decide +kernel
theorem dX11_shares_7 : decode cX11_shares 7 = .ok (.istore_n 1, 1) := by decide +kernel
theorem dX11_shares_8 : decode cX11_shares 8 = .ok (.lconst 0, 1) := by decide +kernel
theorem dX11_shares_9 : decode cX11_shares 9 = .ok (.lstore_n 2, 1) := by decide +kernel
theorem dX11_shares_10 : decode cX11_shares 10 = .ok (.iconst 0, 1) := by decide +kernel
theorem dX11_shares_11 : decode cX11_shares 11 = .ok (.istore 4, 2) := by decide +kernel
theorem dX11_shares_13 : decode cX11_shares 13 = .ok (.iload 4, 2) := by decide +kernel
theorem dX11_shares_15 : decode cX11_shares 15 = .ok (.iload_n 1, 1) := by decide +kernel
theorem dX11_shares_16 : decode cX11_shares 16 = .ok (.if_icmp .ge 19, 3) := by decide +kernel
theorem dX11_shares_19 : decode cX11_shares 19 = .ok (.lload_n 2, 1) := by decide +kernel
theorem dX11_shares_20 : decode cX11_shares 20 = .ok (.aload_n 0, 1) := by decide +kernel
theorem dX11_shares_21 : decode cX11_shares 21 = .ok (.getfield 67, 3) := by decide +kernel
theorem dX11_shares_24 : decode cX11_shares 24 = .ok (.iload 4, 2) := by decide +kernel
theorem dX11_shares_26 : decode cX11_shares 26 = .ok (.laload, 1) := by decide +kernel
theorem dX11_shares_27 : decode cX11_shares 27 = .ok (.ladd, 1) := by decide +kernel
theorem dX11_shares_28 : decode cX11_shares 28 = .ok (.lstore_n 2, 1) := by decide +kernel
theorem dX11_shares_29 : decode cX11_shares 29 = .ok (.iinc 4 1, 3) := by decide +kernel
theorem dX11_shares_32 : decode cX11_shares 32 = .ok (.goto (-19), 3) := by decide +kernel
theorem dX11_shares_35 : decode cX11_shares 35 = .ok (.lload_n 2, 1) := by decide +kernel
theorem dX11_shares_36 : decode cX11_shares 36 = .ok (.lconst 0, 1) := by decide +kernel
theorem dX11_shares_37 : decode cX11_shares 37 = .ok (.lcmp, 1) := by decide +kernel
theorem dX11_shares_38 : decode cX11_shares 38 = .ok (.ifCond .ne 4, 3) := by decide +kernel
theorem dX11_shares_41 : decode cX11_shares 41 = .ok (.return_, 1) := by decide +kernel
theorem dX11_shares_42 : decode cX11_shares 42 = .ok (.sipush 10000, 3) := by decide +kernel
theorem dX11_shares_45 : decode cX11_shares 45 = .ok (.istore 4, 2) := by decide +kernel
theorem dX11_shares_47 : decode cX11_shares 47 = .ok (.iconst 0, 1) := by decide +kernel
theorem dX11_shares_48 : decode cX11_shares 48 = .ok (.istore 5, 2) := by decide +kernel
theorem dX11_shares_50 : decode cX11_shares 50 = .ok (.iconst 0, 1) := by decide +kernel
theorem dX11_shares_51 : decode cX11_shares 51 = .ok (.istore 6, 2) := by decide +kernel
theorem dX11_shares_53 : decode cX11_shares 53 = .ok (.iload 6, 2) := by decide +kernel
theorem dX11_shares_55 : decode cX11_shares 55 = .ok (.iload_n 1, 1) := by decide +kernel
theorem dX11_shares_56 : decode cX11_shares 56 = .ok (.if_icmp .ge 64, 3) := by decide +kernel
theorem dX11_shares_59 : decode cX11_shares 59 = .ok (.aload_n 0, 1) := by decide +kernel
theorem dX11_shares_60 : decode cX11_shares 60 = .ok (.getfield 64, 3) := by decide +kernel
theorem dX11_shares_63 : decode cX11_shares 63 = .ok (.iload 6, 2) := by decide +kernel
theorem dX11_shares_65 : decode cX11_shares 65 = .ok (.ldc2_w 356, 3) := by decide +kernel
theorem dX11_shares_68 : decode cX11_shares 68 = .ok (.aload_n 0, 1) := by decide +kernel
theorem dX11_shares_69 : decode cX11_shares 69 = .ok (.getfield 67, 3) := by decide +kernel
theorem dX11_shares_72 : decode cX11_shares 72 = .ok (.iload 6, 2) := by decide +kernel
theorem dX11_shares_74 : decode cX11_shares 74 = .ok (.laload, 1) := by decide +kernel
theorem dX11_shares_75 : decode cX11_shares 75 = .ok (.lmul, 1) := by decide +kernel
theorem dX11_shares_76 : decode cX11_shares 76 = .ok (.lload_n 2, 1) := by decide +kernel
theorem dX11_shares_77 : decode cX11_shares 77 = .ok (.ldiv, 1) := by decide +kernel
theorem dX11_shares_78 : decode cX11_shares 78 = .ok (.l2i, 1) := by decide +kernel
theorem dX11_shares_79 : decode cX11_shares 79 = .ok (.iastore, 1) := by decide +kernel
theorem dX11_shares_80 : decode cX11_shares 80 = .ok (.iload 4, 2) := by decide +kernel
theorem dX11_shares_82 : decode cX11_shares 82 = .ok (.aload_n 0, 1) := by decide +kernel
theorem dX11_shares_83 : decode cX11_shares 83 = .ok (.getfield 64, 3) := by decide +kernel
theorem dX11_shares_86 : decode cX11_shares 86 = .ok (.iload 6, 2) := by decide +kernel
theorem dX11_shares_88 : decode cX11_shares 88 = .ok (.iaload, 1) := by decide +kernel
theorem dX11_shares_89 : decode cX11_shares 89 = .ok (.isub, 1) := by decide +kernel
theorem dX11_shares_90 : decode cX11_shares 90 = .ok (.istore 4, 2) := by decide +kernel
theorem dX11_shares_92 : decode cX11_shares 92 = .ok (.aload_n 0, 1) := by decide +kernel
theorem dX11_shares_93 : decode cX11_shares 93 = .ok (.getfield 67, 3) := by decide +kernel
theorem dX11_shares_96 : decode cX11_shares 96 = .ok (.iload 6, 2) := by decide +kernel
theorem dX11_shares_98 : decode cX11_shares 98 = .ok (.laload, 1) := by decide +kernel
theorem dX11_shares_99 : decode cX11_shares 99 = .ok (.aload_n 0, 1) := by decide +kernel
theorem dX11_shares_100 : decode cX11_shares 100 = .ok (.getfield 67, 3) := by decide +kernel
theorem dX11_shares_103 : decode cX11_shares 103 = .ok (.iload 5, 2) := by decide +kernel
theorem dX11_shares_105 : decode cX11_shares 105 = .ok (.laload, 1) := by decide +kernel
theorem dX11_shares_106 : decode cX11_shares 106 = .ok (.lcmp, 1) := by decide +kernel
theorem dX11_shares_107 : decode cX11_shares 107 = .ok (.ifCond .le 7, 3) := by decide +kernel
theorem dX11_shares_110 : decode cX11_shares 110 = .ok (.iload 6, 2) := by decide +kernel
theorem dX11_shares_112 : decode cX11_shares 112 = .ok (.istore 5, 2) := by decide +kernel
theorem dX11_shares_114 : decode cX11_shares 114 = .ok (.iinc 6 1, 3) := by decide +kernel
theorem dX11_shares_117 : decode cX11_shares 117 = .ok (.goto (-64), 3) := by decide +kernel
theorem dX11_shares_120 : decode cX11_shares 120 = .ok (.aload_n 0, 1) := by decide +kernel
theorem dX11_shares_121 : decode cX11_shares 121 = .ok (.getfield 64, 3) := by decide +kernel
theorem dX11_shares_124 : decode cX11_shares 124 = .ok (.iload 5, 2) := by decide +kernel
theorem dX11_shares_126 : decode cX11_shares 126 = .ok (.dup2, 1) := by decide +kernel
theorem dX11_shares_127 : decode cX11_shares 127 = .ok (.iaload, 1) := by decide +kernel
theorem dX11_shares_128 : decode cX11_shares 128 = .ok (.iload 4, 2) := by decide +kernel
theorem dX11_shares_130 : decode cX11_shares 130 = .ok (.iadd, 1) := by decide +kernel
theorem dX11_shares_131 : decode cX11_shares 131 = .ok (.iastore, 1) := by decide +kernel
theorem dX11_shares_132 : decode cX11_shares 132 = .ok (.return_, 1) := by decide +kernel
theorem dX11_oddsAfter_0 : decode cX11_oddsAfter 0 = .ok (.iconst 0, 1) := by decide +kernel
theorem dX11_oddsAfter_1 : decode cX11_oddsAfter 1 = .ok (.istore_n 2, 1) := by decide +kernel
theorem dX11_oddsAfter_2 : decode cX11_oddsAfter 2 = .ok (.iload_n 2, 1) := by decide +kernel
theorem dX11_oddsAfter_3 : decode cX11_oddsAfter 3 = .ok (.aload_n 0, 1) := by decide +kernel
theorem dX11_oddsAfter_4 : decode cX11_oddsAfter 4 = .ok (.getfield 13, 3) := by decide +kernel
theorem dX11_oddsAfter_7 : decode cX11_oddsAfter 7 = .ok (.bipush 6, 2) := by decide +kernel
theorem dX11_oddsAfter_9 : decode cX11_oddsAfter 9 = .ok (.iaload, 1) := by decide +kernel
theorem dX11_oddsAfter_10 : decode cX11_oddsAfter 10 = .ok (.if_icmp .ge 27, 3) := by decide +kernel
theorem dX11_oddsAfter_13 : decode cX11_oddsAfter 13 = .ok (.aload_n 0, 1) := by decide +kernel
theorem dX11_oddsAfter_14 : decode cX11_oddsAfter 14 = .ok (.getfield 67, 3) := by decide +kernel
theorem dX11_oddsAfter_17 : decode cX11_oddsAfter 17 = .ok (.iload_n 2, 1) := by decide +kernel
theorem dX11_oddsAfter_18 : decode cX11_oddsAfter 18 = .ok (.aload_n 0, 1) := by decide +kernel
theorem dX11_oddsAfter_19 : decode cX11_oddsAfter 19 = .ok (.getfield 13, 3) := by decide +kernel
theorem dX11_oddsAfter_22 : decode cX11_oddsAfter 22 = .ok (.bipush 78, 2) := by decide +kernel
theorem dX11_oddsAfter_24 : decode cX11_oddsAfter 24 = .ok (.iconst 3, 1) := by decide +kernel
theorem dX11_oddsAfter_25 : decode cX11_oddsAfter 25 = .ok (.iload_n 2, 1) := by decide +kernel
theorem dX11_oddsAfter_26 : decode cX11_oddsAfter 26 = .ok (.imul, 1) := by decide +kernel
theorem dX11_oddsAfter_27 : decode cX11_oddsAfter 27 = .ok (.iadd, 1) := by decide +kernel
theorem dX11_oddsAfter_28 : decode cX11_oddsAfter 28 = .ok (.iaload, 1) := by decide +kernel
theorem dX11_oddsAfter_29 : decode cX11_oddsAfter 29 = .ok (.i2l, 1) := by decide +kernel
theorem dX11_oddsAfter_30 : decode cX11_oddsAfter 30 = .ok (.lastore, 1) := by decide +kernel
theorem dX11_oddsAfter_31 : decode cX11_oddsAfter 31 = .ok (.iinc 2 1, 3) := by decide +kernel
theorem dX11_oddsAfter_34 : decode cX11_oddsAfter 34 = .ok (.goto (-32), 3) := by decide +kernel
theorem dX11_oddsAfter_37 : decode cX11_oddsAfter 37 = .ok (.aload_n 0, 1) := by decide +kernel
theorem dX11_oddsAfter_38 : decode cX11_oddsAfter 38 = .ok (.invokevirtual 358, 3) := by decide +kernel
theorem dX11_oddsAfter_41 : decode cX11_oddsAfter 41 = .ok (.iconst 0, 1) := by decide +kernel
theorem dX11_oddsAfter_42 : decode cX11_oddsAfter 42 = .ok (.istore_n 2, 1) := by decide +kernel
theorem dX11_oddsAfter_43 : decode cX11_oddsAfter 43 = .ok (.iload_n 2, 1) := by decide +kernel
theorem dX11_oddsAfter_44 : decode cX11_oddsAfter 44 = .ok (.iload_n 1, 1) := by decide +kernel
theorem dX11_oddsAfter_45 : decode cX11_oddsAfter 45 = .ok (.if_icmp .ge 52, 3) := by decide +kernel
theorem dX11_oddsAfter_48 : decode cX11_oddsAfter 48 = .ok (.iconst 0, 1) := by decide +kernel
theorem dX11_oddsAfter_49 : decode cX11_oddsAfter 49 = .ok (.istore_n 3, 1) := by decide +kernel
theorem dX11_oddsAfter_50 : decode cX11_oddsAfter 50 = .ok (.iload_n 3, 1) := by decide +kernel
theorem dX11_oddsAfter_51 : decode cX11_oddsAfter 51 = .ok (.aload_n 0, 1) := by decide +kernel
theorem dX11_oddsAfter_52 : decode cX11_oddsAfter 52 = .ok (.getfield 13, 3) := by decide +kernel
theorem dX11_oddsAfter_55 : decode cX11_oddsAfter 55 = .ok (.bipush 6, 2) := by decide +kernel
theorem dX11_oddsAfter_57 : decode cX11_oddsAfter 57 = .ok (.iaload, 1) := by decide +kernel
theorem dX11_oddsAfter_58 : decode cX11_oddsAfter 58 = .ok (.if_icmp .ge 29, 3) := by decide +kernel
theorem dX11_oddsAfter_61 : decode cX11_oddsAfter 61 = .ok (.aload_n 0, 1) := by decide +kernel
theorem dX11_oddsAfter_62 : decode cX11_oddsAfter 62 = .ok (.getfield 67, 3) := by decide +kernel
theorem dX11_oddsAfter_65 : decode cX11_oddsAfter 65 = .ok (.iload_n 3, 1) := by decide +kernel
theorem dX11_oddsAfter_66 : decode cX11_oddsAfter 66 = .ok (.aload_n 0, 1) := by decide +kernel
theorem dX11_oddsAfter_67 : decode cX11_oddsAfter 67 = .ok (.getfield 64, 3) := by decide +kernel
theorem dX11_oddsAfter_70 : decode cX11_oddsAfter 70 = .ok (.iload_n 3, 1) := by decide +kernel
theorem dX11_oddsAfter_71 : decode cX11_oddsAfter 71 = .ok (.iaload, 1) := by decide +kernel
theorem dX11_oddsAfter_72 : decode cX11_oddsAfter 72 = .ok (.i2l, 1) := by decide +kernel
theorem dX11_oddsAfter_73 : decode cX11_oddsAfter 73 = .ok (.aload_n 0, 1) := by decide +kernel
theorem dX11_oddsAfter_74 : decode cX11_oddsAfter 74 = .ok (.iload_n 3, 1) := by decide +kernel
theorem dX11_oddsAfter_75 : decode cX11_oddsAfter 75 = .ok (.iload_n 2, 1) := by decide +kernel
theorem dX11_oddsAfter_76 : decode cX11_oddsAfter 76 = .ok (.invokevirtual 361, 3) := by decide +kernel
theorem dX11_oddsAfter_79 : decode cX11_oddsAfter 79 = .ok (.lmul, 1) := by decide +kernel
theorem dX11_oddsAfter_80 : decode cX11_oddsAfter 80 = .ok (.lastore, 1) := by decide +kernel
theorem dX11_oddsAfter_81 : decode cX11_oddsAfter 81 = .ok (.iinc 3 1, 3) := by decide +kernel
theorem dX11_oddsAfter_84 : decode cX11_oddsAfter 84 = .ok (.goto (-34), 3) := by decide +kernel
theorem dX11_oddsAfter_87 : decode cX11_oddsAfter 87 = .ok (.aload_n 0, 1) := by decide +kernel
theorem dX11_oddsAfter_88 : decode cX11_oddsAfter 88 = .ok (.invokevirtual 358, 3) := by decide +kernel
theorem dX11_oddsAfter_91 : decode cX11_oddsAfter 91 = .ok (.iinc 2 1, 3) := by decide +kernel
theorem dX11_oddsAfter_94 : decode cX11_oddsAfter 94 = .ok (.goto (-51), 3) := by decide +kernel
theorem dX11_oddsAfter_97 : decode cX11_oddsAfter 97 = .ok (.return_, 1) := by decide +kernel
theorem dX11_odds_0 : decode cX11_odds 0 = .ok (.aload_n 0, 1) := by decide +kernel
theorem dX11_odds_1 : decode cX11_odds 1 = .ok (.iconst 0, 1) := by decide +kernel
theorem dX11_odds_2 : decode cX11_odds 2 = .ok (.putfield 3, 3) := by decide +kernel
theorem dX11_odds_5 : decode cX11_odds 5 = .ok (.aload_n 0, 1) := by decide +kernel
theorem dX11_odds_6 : decode cX11_odds 6 = .ok (.aload_n 0, 1) := by decide +kernel
theorem dX11_odds_7 : decode cX11_odds 7 = .ok (.iload_n 1, 1) := by decide +kernel
theorem dX11_odds_8 : decode cX11_odds 8 = .ok (.bipush 6, 2) := by decide +kernel
theorem dX11_odds_10 : decode cX11_odds 10 = .ok (.invokevirtual 262, 3) := by decide +kernel
theorem dX11_odds_13 : decode cX11_odds 13 = .ok (.iconst 1, 1) := by decide +kernel
theorem dX11_odds_14 : decode cX11_odds 14 = .ok (.invokevirtual 85, 3) := by decide +kernel
theorem dX11_odds_17 : decode cX11_odds 17 = .ok (.ifCond .eq 5, 3) := by decide +kernel
theorem dX11_odds_20 : decode cX11_odds 20 = .ok (.iconst 0, 1) := by decide +kernel
theorem dX11_odds_21 : decode cX11_odds 21 = .ok (.ireturn, 1) := by decide +kernel
theorem dX11_odds_22 : decode cX11_odds 22 = .ok (.aload_n 0, 1) := by decide +kernel
theorem dX11_odds_23 : decode cX11_odds 23 = .ok (.invokevirtual 365, 3) := by decide +kernel
theorem dX11_odds_26 : decode cX11_odds 26 = .ok (.aload_n 0, 1) := by decide +kernel
theorem dX11_odds_27 : decode cX11_odds 27 = .ok (.aload_n 0, 1) := by decide +kernel
theorem dX11_odds_28 : decode cX11_odds 28 = .ok (.getfield 13, 3) := by decide +kernel
theorem dX11_odds_31 : decode cX11_odds 31 = .ok (.bipush 7, 2) := by decide +kernel
theorem dX11_odds_33 : decode cX11_odds 33 = .ok (.iaload, 1) := by decide +kernel
theorem dX11_odds_34 : decode cX11_odds 34 = .ok (.invokevirtual 368, 3) := by decide +kernel
theorem dX11_odds_37 : decode cX11_odds 37 = .ok (.aload_n 0, 1) := by decide +kernel
theorem dX11_odds_38 : decode cX11_odds 38 = .ok (.getfield 64, 3) := by decide +kernel
theorem dX11_odds_41 : decode cX11_odds 41 = .ok (.iload_n 1, 1) := by decide +kernel
theorem dX11_odds_42 : decode cX11_odds 42 = .ok (.iaload, 1) := by decide +kernel
theorem dX11_odds_43 : decode cX11_odds 43 = .ok (.ireturn, 1) := by decide +kernel
theorem dX11_oddsBy_0 : decode cX11_oddsBy 0 = .ok (.aload_n 0, 1) := by decide +kernel
theorem dX11_oddsBy_1 : decode cX11_oddsBy 1 = .ok (.iconst 0, 1) := by decide +kernel
theorem dX11_oddsBy_2 : decode cX11_oddsBy 2 = .ok (.putfield 3, 3) := by decide +kernel
theorem dX11_oddsBy_5 : decode cX11_oddsBy 5 = .ok (.aload_n 0, 1) := by decide +kernel
theorem dX11_oddsBy_6 : decode cX11_oddsBy 6 = .ok (.aload_n 0, 1) := by decide +kernel
theorem dX11_oddsBy_7 : decode cX11_oddsBy 7 = .ok (.iload_n 1, 1) := by decide +kernel
theorem dX11_oddsBy_8 : decode cX11_oddsBy 8 = .ok (.bipush 6, 2) := by decide +kernel
theorem dX11_oddsBy_10 : decode cX11_oddsBy 10 = .ok (.invokevirtual 262, 3) := by decide +kernel
theorem dX11_oddsBy_13 : decode cX11_oddsBy 13 = .ok (.iconst 1, 1) := by decide +kernel
theorem dX11_oddsBy_14 : decode cX11_oddsBy 14 = .ok (.invokevirtual 85, 3) := by decide +kernel
theorem dX11_oddsBy_17 : decode cX11_oddsBy 17 = .ok (.ifCond .ne 31, 3) := by decide +kernel
theorem dX11_oddsBy_20 : decode cX11_oddsBy 20 = .ok (.aload_n 0, 1) := by decide +kernel
theorem dX11_oddsBy_21 : decode cX11_oddsBy 21 = .ok (.iload_n 2, 1) := by decide +kernel
theorem dX11_oddsBy_22 : decode cX11_oddsBy 22 = .ok (.iconst 0, 1) := by decide +kernel
theorem dX11_oddsBy_23 : decode cX11_oddsBy 23 = .ok (.aload_n 0, 1) := by decide +kernel
theorem dX11_oddsBy_24 : decode cX11_oddsBy 24 = .ok (.getfield 13, 3) := by decide +kernel
theorem dX11_oddsBy_27 : decode cX11_oddsBy 27 = .ok (.bipush 7, 2) := by decide +kernel
theorem dX11_oddsBy_29 : decode cX11_oddsBy 29 = .ok (.iaload, 1) := by decide +kernel
theorem dX11_oddsBy_30 : decode cX11_oddsBy 30 = .ok (.invokestatic 81, 3) := by decide +kernel
theorem dX11_oddsBy_33 : decode cX11_oddsBy 33 = .ok (.ifCond .ne 7, 3) := by decide +kernel
theorem dX11_oddsBy_36 : decode cX11_oddsBy 36 = .ok (.iconst 1, 1) := by decide +kernel
theorem dX11_oddsBy_37 : decode cX11_oddsBy 37 = .ok (.goto 4, 3) := by decide +kernel
theorem dX11_oddsBy_40 : decode cX11_oddsBy 40 = .ok (.iconst 0, 1) := by decide +kernel
theorem dX11_oddsBy_41 : decode cX11_oddsBy 41 = .ok (.iconst 2, 1) := by decide +kernel
theorem dX11_oddsBy_42 : decode cX11_oddsBy 42 = .ok (.invokevirtual 85, 3) := by decide +kernel
theorem dX11_oddsBy_45 : decode cX11_oddsBy 45 = .ok (.ifCond .eq 5, 3) := by decide +kernel
theorem dX11_oddsBy_48 : decode cX11_oddsBy 48 = .ok (.iconst 0, 1) := by decide +kernel
theorem dX11_oddsBy_49 : decode cX11_oddsBy 49 = .ok (.ireturn, 1) := by decide +kernel
theorem dX11_oddsBy_50 : decode cX11_oddsBy 50 = .ok (.aload_n 0, 1) := by decide +kernel
theorem dX11_oddsBy_51 : decode cX11_oddsBy 51 = .ok (.invokevirtual 365, 3) := by decide +kernel
theorem dX11_oddsBy_54 : decode cX11_oddsBy 54 = .ok (.aload_n 0, 1) := by decide +kernel
theorem dX11_oddsBy_55 : decode cX11_oddsBy 55 = .ok (.iload_n 2, 1) := by decide +kernel
theorem dX11_oddsBy_56 : decode cX11_oddsBy 56 = .ok (.invokevirtual 368, 3) := by decide +kernel
theorem dX11_oddsBy_59 : decode cX11_oddsBy 59 = .ok (.aload_n 0, 1) := by decide +kernel
theorem dX11_oddsBy_60 : decode cX11_oddsBy 60 = .ok (.getfield 64, 3) := by decide +kernel
theorem dX11_oddsBy_63 : decode cX11_oddsBy 63 = .ok (.iload_n 1, 1) := by decide +kernel
theorem dX11_oddsBy_64 : decode cX11_oddsBy 64 = .ok (.iaload, 1) := by decide +kernel
theorem dX11_oddsBy_65 : decode cX11_oddsBy 65 = .ok (.ireturn, 1) := by decide +kernel
theorem dX11_factor_0 : decode cX11_factor 0 = .ok (.aload_n 0, 1) := by decide +kernel
theorem dX11_factor_1 : decode cX11_factor 1 = .ok (.iconst 0, 1) := by decide +kernel
theorem dX11_factor_2 : decode cX11_factor 2 = .ok (.putfield 3, 3) := by decide +kernel
theorem dX11_factor_5 : decode cX11_factor 5 = .ok (.aload_n 0, 1) := by decide +kernel
theorem dX11_factor_6 : decode cX11_factor 6 = .ok (.aload_n 0, 1) := by decide +kernel
theorem dX11_factor_7 : decode cX11_factor 7 = .ok (.iload_n 1, 1) := by decide +kernel
theorem dX11_factor_8 : decode cX11_factor 8 = .ok (.bipush 6, 2) := by decide +kernel
theorem dX11_factor_10 : decode cX11_factor 10 = .ok (.invokevirtual 262, 3) := by decide +kernel
theorem dX11_factor_13 : decode cX11_factor 13 = .ok (.ifCond .ne 13, 3) := by decide +kernel
theorem dX11_factor_16 : decode cX11_factor 16 = .ok (.aload_n 0, 1) := by decide +kernel
theorem dX11_factor_17 : decode cX11_factor 17 = .ok (.iload_n 2, 1) := by decide +kernel
theorem dX11_factor_18 : decode cX11_factor 18 = .ok (.bipush 7, 2) := by decide +kernel
theorem dX11_factor_20 : decode cX11_factor 20 = .ok (.invokevirtual 262, 3) := by decide +kernel
theorem dX11_factor_23 : decode cX11_factor 23 = .ok (.ifCond .eq 7, 3) := by decide +kernel
theorem dX11_factor_26 : decode cX11_factor 26 = .ok (.iconst 1, 1) := by decide +kernel
theorem dX11_factor_27 : decode cX11_factor 27 = .ok (.goto 4, 3) := by decide +kernel
theorem dX11_factor_30 : decode cX11_factor 30 = .ok (.iconst 0, 1) := by decide +kernel
theorem dX11_factor_31 : decode cX11_factor 31 = .ok (.iconst 1, 1) := by decide +kernel
theorem dX11_factor_32 : decode cX11_factor 32 = .ok (.invokevirtual 85, 3) := by decide +kernel
theorem dX11_factor_35 : decode cX11_factor 35 = .ok (.ifCond .eq 5, 3) := by decide +kernel
theorem dX11_factor_38 : decode cX11_factor 38 = .ok (.lconst 0, 1) := by decide +kernel
theorem dX11_factor_39 : decode cX11_factor 39 = .ok (.lreturn, 1) := by decide +kernel
theorem dX11_factor_40 : decode cX11_factor 40 = .ok (.aload_n 0, 1) := by decide +kernel
theorem dX11_factor_41 : decode cX11_factor 41 = .ok (.invokevirtual 365, 3) := by decide +kernel
theorem dX11_factor_44 : decode cX11_factor 44 = .ok (.aload_n 0, 1) := by decide +kernel
theorem dX11_factor_45 : decode cX11_factor 45 = .ok (.iload_n 1, 1) := by decide +kernel
theorem dX11_factor_46 : decode cX11_factor 46 = .ok (.iload_n 2, 1) := by decide +kernel
theorem dX11_factor_47 : decode cX11_factor 47 = .ok (.invokevirtual 361, 3) := by decide +kernel
theorem dX11_factor_50 : decode cX11_factor 50 = .ok (.lreturn, 1) := by decide +kernel
theorem dX11_says_0 : decode cX11_says 0 = .ok (.aload_n 0, 1) := by decide +kernel
theorem dX11_says_1 : decode cX11_says 1 = .ok (.iconst 0, 1) := by decide +kernel
theorem dX11_says_2 : decode cX11_says 2 = .ok (.putfield 3, 3) := by decide +kernel
theorem dX11_says_5 : decode cX11_says 5 = .ok (.aload_n 0, 1) := by decide +kernel
theorem dX11_says_6 : decode cX11_says 6 = .ok (.aload_n 0, 1) := by decide +kernel
theorem dX11_says_7 : decode cX11_says 7 = .ok (.iload_n 1, 1) := by decide +kernel
theorem dX11_says_8 : decode cX11_says 8 = .ok (.iconst 5, 1) := by decide +kernel
theorem dX11_says_9 : decode cX11_says 9 = .ok (.invokevirtual 262, 3) := by decide +kernel
theorem dX11_says_12 : decode cX11_says 12 = .ok (.iconst 1, 1) := by decide +kernel
theorem dX11_says_13 : decode cX11_says 13 = .ok (.invokevirtual 85, 3) := by decide +kernel
theorem dX11_says_16 : decode cX11_says 16 = .ok (.ifCond .eq 5, 3) := by decide +kernel
theorem dX11_says_19 : decode cX11_says 19 = .ok (.lconst 0, 1) := by decide +kernel
theorem dX11_says_20 : decode cX11_says 20 = .ok (.lreturn, 1) := by decide +kernel
theorem dX11_says_21 : decode cX11_says 21 = .ok (.aload_n 0, 1) := by decide +kernel
theorem dX11_says_22 : decode cX11_says 22 = .ok (.invokevirtual 365, 3) := by decide +kernel
theorem dX11_says_25 : decode cX11_says 25 = .ok (.aload_n 0, 1) := by decide +kernel
theorem dX11_says_26 : decode cX11_says 26 = .ok (.aload_n 0, 1) := by decide +kernel
theorem dX11_says_27 : decode cX11_says 27 = .ok (.getfield 13, 3) := by decide +kernel
theorem dX11_says_30 : decode cX11_says 30 = .ok (.bipush 7, 2) := by decide +kernel
theorem dX11_says_32 : decode cX11_says 32 = .ok (.iaload, 1) := by decide +kernel
theorem dX11_says_33 : decode cX11_says 33 = .ok (.invokevirtual 368, 3) := by decide +kernel
theorem dX11_says_36 : decode cX11_says 36 = .ok (.lconst 0, 1) := by decide +kernel
theorem dX11_says_37 : decode cX11_says 37 = .ok (.lstore_n 2, 1) := by decide +kernel
theorem dX11_says_38 : decode cX11_says 38 = .ok (.iconst 0, 1) := by decide +kernel
theorem dX11_says_39 : decode cX11_says 39 = .ok (.istore 4, 2) := by decide +kernel
theorem dX11_says_41 : decode cX11_says 41 = .ok (.iload 4, 2) := by decide +kernel
theorem dX11_says_43 : decode cX11_says 43 = .ok (.aload_n 0, 1) := by decide +kernel
theorem dX11_says_44 : decode cX11_says 44 = .ok (.getfield 13, 3) := by decide +kernel
theorem dX11_says_47 : decode cX11_says 47 = .ok (.bipush 6, 2) := by decide +kernel
theorem dX11_says_49 : decode cX11_says 49 = .ok (.iaload, 1) := by decide +kernel
theorem dX11_says_50 : decode cX11_says 50 = .ok (.if_icmp .ge 29, 3) := by decide +kernel
theorem dX11_says_53 : decode cX11_says 53 = .ok (.lload_n 2, 1) := by decide +kernel
theorem dX11_says_54 : decode cX11_says 54 = .ok (.aload_n 0, 1) := by decide +kernel
theorem dX11_says_55 : decode cX11_says 55 = .ok (.getfield 64, 3) := by decide +kernel
theorem dX11_says_58 : decode cX11_says 58 = .ok (.iload 4, 2) := by decide +kernel
theorem dX11_says_60 : decode cX11_says 60 = .ok (.iaload, 1) := by decide +kernel
theorem dX11_says_61 : decode cX11_says 61 = .ok (.i2l, 1) := by decide +kernel
theorem dX11_says_62 : decode cX11_says 62 = .ok (.aload_n 0, 1) := by decide +kernel
theorem dX11_says_63 : decode cX11_says 63 = .ok (.iload 4, 2) := by decide +kernel
theorem dX11_says_65 : decode cX11_says 65 = .ok (.iload_n 1, 1) := by decide +kernel
theorem dX11_says_66 : decode cX11_says 66 = .ok (.invokevirtual 353, 3) := by decide +kernel
theorem dX11_says_69 : decode cX11_says 69 = .ok (.i2l, 1) := by decide +kernel
theorem dX11_says_70 : decode cX11_says 70 = .ok (.lmul, 1) := by decide +kernel
theorem dX11_says_71 : decode cX11_says 71 = .ok (.ladd, 1) := by decide +kernel
theorem dX11_says_72 : decode cX11_says 72 = .ok (.lstore_n 2, 1) := by decide +kernel
theorem dX11_says_73 : decode cX11_says 73 = .ok (.iinc 4 1, 3) := by decide +kernel
theorem dX11_says_76 : decode cX11_says 76 = .ok (.goto (-35), 3) := by decide +kernel
theorem dX11_says_79 : decode cX11_says 79 = .ok (.lconst 0, 1) := by decide +kernel
theorem dX11_says_80 : decode cX11_says 80 = .ok (.lstore 4, 2) := by decide +kernel
theorem dX11_says_82 : decode cX11_says 82 = .ok (.iconst 0, 1) := by decide +kernel
theorem dX11_says_83 : decode cX11_says 83 = .ok (.istore 6, 2) := by decide +kernel
theorem dX11_says_85 : decode cX11_says 85 = .ok (.iload 6, 2) := by decide +kernel
theorem dX11_says_87 : decode cX11_says 87 = .ok (.aload_n 0, 1) := by decide +kernel
theorem dX11_says_88 : decode cX11_says 88 = .ok (.getfield 13, 3) := by decide +kernel
theorem dX11_says_91 : decode cX11_says 91 = .ok (.bipush 6, 2) := by decide +kernel
theorem dX11_says_93 : decode cX11_says 93 = .ok (.iaload, 1) := by decide +kernel
theorem dX11_says_94 : decode cX11_says 94 = .ok (.if_icmp .ge 40, 3) := by decide +kernel
theorem dX11_says_97 : decode cX11_says 97 = .ok (.lload 4, 2) := by decide +kernel
theorem dX11_says_99 : decode cX11_says 99 = .ok (.aload_n 0, 1) := by decide +kernel
theorem dX11_says_100 : decode cX11_says 100 = .ok (.getfield 64, 3) := by decide +kernel
theorem dX11_says_103 : decode cX11_says 103 = .ok (.iload 6, 2) := by decide +kernel
theorem dX11_says_105 : decode cX11_says 105 = .ok (.iaload, 1) := by decide +kernel
theorem dX11_says_106 : decode cX11_says 106 = .ok (.i2l, 1) := by decide +kernel
theorem dX11_says_107 : decode cX11_says 107 = .ok (.ldc2_w 356, 3) := by decide +kernel
theorem dX11_says_110 : decode cX11_says 110 = .ok (.aload_n 0, 1) := by decide +kernel
theorem dX11_says_111 : decode cX11_says 111 = .ok (.iload 6, 2) := by decide +kernel
theorem dX11_says_113 : decode cX11_says 113 = .ok (.iload_n 1, 1) := by decide +kernel
theorem dX11_says_114 : decode cX11_says 114 = .ok (.invokevirtual 353, 3) := by decide +kernel
theorem dX11_says_117 : decode cX11_says 117 = .ok (.i2l, 1) := by decide +kernel
theorem dX11_says_118 : decode cX11_says 118 = .ok (.lmul, 1) := by decide +kernel
theorem dX11_says_119 : decode cX11_says 119 = .ok (.lload_n 2, 1) := by decide +kernel
theorem dX11_says_120 : decode cX11_says 120 = .ok (.lsub, 1) := by decide +kernel
theorem dX11_says_121 : decode cX11_says 121 = .ok (.invokestatic 372, 3) := by decide +kernel
theorem dX11_says_124 : decode cX11_says 124 = .ok (.lmul, 1) := by decide +kernel
theorem dX11_says_125 : decode cX11_says 125 = .ok (.ladd, 1) := by decide +kernel
theorem dX11_says_126 : decode cX11_says 126 = .ok (.lstore 4, 2) := by decide +kernel
theorem dX11_says_128 : decode cX11_says 128 = .ok (.iinc 6 1, 3) := by decide +kernel
theorem dX11_says_131 : decode cX11_says 131 = .ok (.goto (-46), 3) := by decide +kernel
theorem dX11_says_134 : decode cX11_says 134 = .ok (.lload 4, 2) := by decide +kernel
theorem dX11_says_136 : decode cX11_says 136 = .ok (.ldc2_w 356, 3) := by decide +kernel
theorem dX11_says_139 : decode cX11_says 139 = .ok (.ldiv, 1) := by decide +kernel
theorem dX11_says_140 : decode cX11_says 140 = .ok (.lreturn, 1) := by decide +kernel
theorem dX11_choices_0 : decode cX11_choices 0 = .ok (.iload_n 1, 1) := by decide +kernel
theorem dX11_choices_1 : decode cX11_choices 1 = .ok (.ifCond .lt 8, 3) := by decide +kernel
theorem dX11_choices_4 : decode cX11_choices 4 = .ok (.iload_n 1, 1) := by decide +kernel
theorem dX11_choices_5 : decode cX11_choices 5 = .ok (.iload_n 0, 1) := by decide +kernel
theorem dX11_choices_6 : decode cX11_choices 6 = .ok (.if_icmp .le 5, 3) := by decide +kernel
theorem dX11_choices_9 : decode cX11_choices 9 = .ok (.iconst 0, 1) := by decide +kernel
theorem dX11_choices_10 : decode cX11_choices 10 = .ok (.ireturn, 1) := by decide +kernel
theorem dX11_choices_11 : decode cX11_choices 11 = .ok (.iconst 1, 1) := by decide +kernel
theorem dX11_choices_12 : decode cX11_choices 12 = .ok (.istore_n 2, 1) := by decide +kernel
theorem dX11_choices_13 : decode cX11_choices 13 = .ok (.iconst 1, 1) := by decide +kernel
theorem dX11_choices_14 : decode cX11_choices 14 = .ok (.istore_n 3, 1) := by decide +kernel
theorem dX11_choices_15 : decode cX11_choices 15 = .ok (.iload_n 3, 1) := by decide +kernel
theorem dX11_choices_16 : decode cX11_choices 16 = .ok (.iload_n 1, 1) := by decide +kernel
theorem dX11_choices_17 : decode cX11_choices 17 = .ok (.if_icmp .gt 19, 3) := by decide +kernel
theorem dX11_choices_20 : decode cX11_choices 20 = .ok (.iload_n 2, 1) := by decide +kernel
theorem dX11_choices_21 : decode cX11_choices 21 = .ok (.iload_n 0, 1) := by decide +kernel
theorem dX11_choices_22 : decode cX11_choices 22 = .ok (.iload_n 1, 1) := by decide +kernel
theorem dX11_choices_23 : decode cX11_choices 23 = .ok (.isub, 1) := by decide +kernel
theorem dX11_choices_24 : decode cX11_choices 24 = .ok (.iload_n 3, 1) := by decide +kernel
theorem dX11_choices_25 : decode cX11_choices 25 = .ok (.iadd, 1) := by decide +kernel
theorem dX11_choices_26 : decode cX11_choices 26 = .ok (.imul, 1) := by decide +kernel
theorem dX11_choices_27 : decode cX11_choices 27 = .ok (.iload_n 3, 1) := by decide +kernel
theorem dX11_choices_28 : decode cX11_choices 28 = .ok (.idiv, 1) := by decide +kernel
theorem dX11_choices_29 : decode cX11_choices 29 = .ok (.istore_n 2, 1) := by decide +kernel
theorem dX11_choices_30 : decode cX11_choices 30 = .ok (.iinc 3 1, 3) := by decide +kernel
theorem dX11_choices_33 : decode cX11_choices 33 = .ok (.goto (-18), 3) := by decide +kernel
theorem dX11_choices_36 : decode cX11_choices 36 = .ok (.iload_n 2, 1) := by decide +kernel
theorem dX11_choices_37 : decode cX11_choices 37 = .ok (.ireturn, 1) := by decide +kernel
theorem dX11_with_0 : decode cX11_with 0 = .ok (.aload_n 0, 1) := by decide +kernel
theorem dX11_with_1 : decode cX11_with 1 = .ok (.iconst 0, 1) := by decide +kernel
theorem dX11_with_2 : decode cX11_with 2 = .ok (.putfield 3, 3) := by decide +kernel
theorem dX11_with_5 : decode cX11_with 5 = .ok (.aload_n 0, 1) := by decide +kernel
theorem dX11_with_6 : decode cX11_with 6 = .ok (.iload_n 1, 1) := by decide +kernel
theorem dX11_with_7 : decode cX11_with 7 = .ok (.iconst 0, 1) := by decide +kernel
theorem dX11_with_8 : decode cX11_with 8 = .ok (.bipush 7, 2) := by decide +kernel
theorem dX11_with_10 : decode cX11_with 10 = .ok (.invokestatic 81, 3) := by decide +kernel
theorem dX11_with_13 : decode cX11_with 13 = .ok (.ifCond .ne 7, 3) := by decide +kernel
theorem dX11_with_16 : decode cX11_with 16 = .ok (.iconst 1, 1) := by decide +kernel
theorem dX11_with_17 : decode cX11_with 17 = .ok (.goto 4, 3) := by decide +kernel
theorem dX11_with_20 : decode cX11_with 20 = .ok (.iconst 0, 1) := by decide +kernel
theorem dX11_with_21 : decode cX11_with 21 = .ok (.iconst 1, 1) := by decide +kernel
theorem dX11_with_22 : decode cX11_with 22 = .ok (.invokevirtual 85, 3) := by decide +kernel
theorem dX11_with_25 : decode cX11_with 25 = .ok (.ifCond .ne 25, 3) := by decide +kernel
theorem dX11_with_28 : decode cX11_with 28 = .ok (.aload_n 0, 1) := by decide +kernel
theorem dX11_with_29 : decode cX11_with 29 = .ok (.iload_n 2, 1) := by decide +kernel
theorem dX11_with_30 : decode cX11_with 30 = .ok (.iconst 0, 1) := by decide +kernel
theorem dX11_with_31 : decode cX11_with 31 = .ok (.iconst 3, 1) := by decide +kernel
theorem dX11_with_32 : decode cX11_with 32 = .ok (.invokestatic 81, 3) := by decide +kernel
theorem dX11_with_35 : decode cX11_with 35 = .ok (.ifCond .ne 7, 3) := by decide +kernel
theorem dX11_with_38 : decode cX11_with 38 = .ok (.iconst 1, 1) := by decide +kernel
theorem dX11_with_39 : decode cX11_with 39 = .ok (.goto 4, 3) := by decide +kernel
theorem dX11_with_42 : decode cX11_with 42 = .ok (.iconst 0, 1) := by decide +kernel
theorem dX11_with_43 : decode cX11_with 43 = .ok (.iconst 2, 1) := by decide +kernel
theorem dX11_with_44 : decode cX11_with 44 = .ok (.invokevirtual 85, 3) := by decide +kernel
theorem dX11_with_47 : decode cX11_with 47 = .ok (.ifCond .eq 5, 3) := by decide +kernel
theorem dX11_with_50 : decode cX11_with 50 = .ok (.iconst 0, 1) := by decide +kernel
theorem dX11_with_51 : decode cX11_with 51 = .ok (.ireturn, 1) := by decide +kernel
theorem dX11_with_52 : decode cX11_with 52 = .ok (.iconst 0, 1) := by decide +kernel
theorem dX11_with_53 : decode cX11_with 53 = .ok (.istore_n 3, 1) := by decide +kernel
theorem dX11_with_54 : decode cX11_with 54 = .ok (.iconst 0, 1) := by decide +kernel
theorem dX11_with_55 : decode cX11_with 55 = .ok (.istore 4, 2) := by decide +kernel
theorem dX11_with_57 : decode cX11_with 57 = .ok (.iconst 0, 1) := by decide +kernel
theorem dX11_with_58 : decode cX11_with 58 = .ok (.istore 5, 2) := by decide +kernel
theorem dX11_with_60 : decode cX11_with 60 = .ok (.iconst 0, 1) := by decide +kernel
theorem dX11_with_61 : decode cX11_with 61 = .ok (.istore 6, 2) := by decide +kernel
theorem dX11_with_63 : decode cX11_with 63 = .ok (.iload 6, 2) := by decide +kernel
theorem dX11_with_65 : decode cX11_with 65 = .ok (.aload_n 0, 1) := by decide +kernel
theorem dX11_with_66 : decode cX11_with 66 = .ok (.getfield 13, 3) := by decide +kernel
theorem dX11_with_69 : decode cX11_with 69 = .ok (.bipush 7, 2) := by decide +kernel
theorem dX11_with_71 : decode cX11_with 71 = .ok (.iaload, 1) := by decide +kernel
theorem dX11_with_72 : decode cX11_with 72 = .ok (.if_icmp .ge 110, 3) := by decide +kernel
theorem dX11_with_75 : decode cX11_with 75 = .ok (.aload_n 0, 1) := by decide +kernel
theorem dX11_with_76 : decode cX11_with 76 = .ok (.getfield 13, 3) := by decide +kernel
theorem dX11_with_79 : decode cX11_with 79 = .ok (.bipush 93, 2) := by decide +kernel
theorem dX11_with_81 : decode cX11_with 81 = .ok (.iconst 5, 1) := by decide +kernel
theorem dX11_with_82 : decode cX11_with 82 = .ok (.iload 6, 2) := by decide +kernel
theorem dX11_with_84 : decode cX11_with 84 = .ok (.imul, 1) := by decide +kernel
theorem dX11_with_85 : decode cX11_with 85 = .ok (.iadd, 1) := by decide +kernel
theorem dX11_with_86 : decode cX11_with 86 = .ok (.iconst 1, 1) := by decide +kernel
theorem dX11_with_87 : decode cX11_with 87 = .ok (.iadd, 1) := by decide +kernel
theorem dX11_with_88 : decode cX11_with 88 = .ok (.iaload, 1) := by decide +kernel
theorem dX11_with_89 : decode cX11_with 89 = .ok (.iload_n 1, 1) := by decide +kernel
theorem dX11_with_90 : decode cX11_with 90 = .ok (.ishr, 1) := by decide +kernel
theorem dX11_with_91 : decode cX11_with 91 = .ok (.iconst 1, 1) := by decide +kernel
theorem dX11_with_92 : decode cX11_with 92 = .ok (.iand, 1) := by decide +kernel
theorem dX11_with_93 : decode cX11_with 93 = .ok (.iconst 1, 1) := by decide +kernel
theorem dX11_with_94 : decode cX11_with 94 = .ok (.if_icmp .ne 7, 3) := by decide +kernel
theorem dX11_with_97 : decode cX11_with 97 = .ok (.iconst 1, 1) := by decide +kernel
theorem dX11_with_98 : decode cX11_with 98 = .ok (.goto 4, 3) := by decide +kernel
theorem dX11_with_101 : decode cX11_with 101 = .ok (.iconst 0, 1) := by decide +kernel
theorem dX11_with_102 : decode cX11_with 102 = .ok (.istore 7, 2) := by decide +kernel
theorem dX11_with_104 : decode cX11_with 104 = .ok (.aload_n 0, 1) := by decide +kernel
theorem dX11_with_105 : decode cX11_with 105 = .ok (.getfield 13, 3) := by decide +kernel
theorem dX11_with_108 : decode cX11_with 108 = .ok (.bipush 93, 2) := by decide +kernel
theorem dX11_with_110 : decode cX11_with 110 = .ok (.iconst 5, 1) := by decide +kernel
theorem dX11_with_111 : decode cX11_with 111 = .ok (.iload 6, 2) := by decide +kernel
theorem dX11_with_113 : decode cX11_with 113 = .ok (.imul, 1) := by decide +kernel
theorem dX11_with_114 : decode cX11_with 114 = .ok (.iadd, 1) := by decide +kernel
theorem dX11_with_115 : decode cX11_with 115 = .ok (.iconst 2, 1) := by decide +kernel
theorem dX11_with_116 : decode cX11_with 116 = .ok (.iadd, 1) := by decide +kernel
theorem dX11_with_117 : decode cX11_with 117 = .ok (.iaload, 1) := by decide +kernel
theorem dX11_with_118 : decode cX11_with 118 = .ok (.ifCond .eq 7, 3) := by decide +kernel
theorem dX11_with_121 : decode cX11_with 121 = .ok (.iconst 1, 1) := by decide +kernel
theorem dX11_with_122 : decode cX11_with 122 = .ok (.goto 4, 3) := by decide +kernel
theorem dX11_with_125 : decode cX11_with 125 = .ok (.iconst 0, 1) := by decide +kernel
theorem dX11_with_126 : decode cX11_with 126 = .ok (.istore 8, 2) := by decide +kernel
theorem dX11_with_128 : decode cX11_with 128 = .ok (.iload_n 3, 1) := by decide +kernel
theorem dX11_with_129 : decode cX11_with 129 = .ok (.iload 7, 2) := by decide +kernel
theorem dX11_with_131 : decode cX11_with 131 = .ok (.ifCond .eq 12, 3) := by decide +kernel
theorem dX11_with_134 : decode cX11_with 134 = .ok (.iload 8, 2) := by decide +kernel
theorem dX11_with_136 : decode cX11_with 136 = .ok (.ifCond .eq 7, 3) := by decide +kernel
theorem dX11_with_139 : decode cX11_with 139 = .ok (.iconst 1, 1) := by decide +kernel
theorem dX11_with_140 : decode cX11_with 140 = .ok (.goto 4, 3) := by decide +kernel
theorem dX11_with_143 : decode cX11_with 143 = .ok (.iconst 0, 1) := by decide +kernel
theorem dX11_with_144 : decode cX11_with 144 = .ok (.iadd, 1) := by decide +kernel
theorem dX11_with_145 : decode cX11_with 145 = .ok (.istore_n 3, 1) := by decide +kernel
theorem dX11_with_146 : decode cX11_with 146 = .ok (.iload 4, 2) := by decide +kernel
theorem dX11_with_148 : decode cX11_with 148 = .ok (.iload 7, 2) := by decide +kernel
theorem dX11_with_150 : decode cX11_with 150 = .ok (.ifCond .eq 7, 3) := by decide +kernel
theorem dX11_with_153 : decode cX11_with 153 = .ok (.iconst 1, 1) := by decide +kernel
theorem dX11_with_154 : decode cX11_with 154 = .ok (.goto 4, 3) := by decide +kernel
theorem dX11_with_157 : decode cX11_with 157 = .ok (.iconst 0, 1) := by decide +kernel
theorem dX11_with_158 : decode cX11_with 158 = .ok (.iadd, 1) := by decide +kernel
theorem dX11_with_159 : decode cX11_with 159 = .ok (.istore 4, 2) := by decide +kernel
theorem dX11_with_161 : decode cX11_with 161 = .ok (.iload 5, 2) := by decide +kernel
theorem dX11_with_163 : decode cX11_with 163 = .ok (.iload 8, 2) := by decide +kernel
theorem dX11_with_165 : decode cX11_with 165 = .ok (.ifCond .eq 7, 3) := by decide +kernel
theorem dX11_with_168 : decode cX11_with 168 = .ok (.iconst 1, 1) := by decide +kernel
theorem dX11_with_169 : decode cX11_with 169 = .ok (.goto 4, 3) := by decide +kernel
theorem dX11_with_172 : decode cX11_with 172 = .ok (.iconst 0, 1) := by decide +kernel
theorem dX11_with_173 : decode cX11_with 173 = .ok (.iadd, 1) := by decide +kernel
theorem dX11_with_174 : decode cX11_with 174 = .ok (.istore 5, 2) := by decide +kernel
theorem dX11_with_176 : decode cX11_with 176 = .ok (.iinc 6 1, 3) := by decide +kernel
theorem dX11_with_179 : decode cX11_with 179 = .ok (.goto (-116), 3) := by decide +kernel
theorem dX11_with_182 : decode cX11_with 182 = .ok (.iload_n 2, 1) := by decide +kernel
theorem dX11_with_183 : decode cX11_with 183 = .ok (.iconst 3, 1) := by decide +kernel
theorem dX11_with_184 : decode cX11_with 184 = .ok (.if_icmp .ge 24, 3) := by decide +kernel
theorem dX11_with_187 : decode cX11_with 187 = .ok (.iload_n 2, 1) := by decide +kernel
theorem dX11_with_188 : decode cX11_with 188 = .ok (.ifCond .ne 7, 3) := by decide +kernel
theorem dX11_with_191 : decode cX11_with 191 = .ok (.iload_n 3, 1) := by decide +kernel
theorem dX11_with_192 : decode cX11_with 192 = .ok (.goto 15, 3) := by decide +kernel
theorem dX11_with_195 : decode cX11_with 195 = .ok (.iload_n 2, 1) := by decide +kernel
theorem dX11_with_196 : decode cX11_with 196 = .ok (.iconst 1, 1) := by decide +kernel
theorem dX11_with_197 : decode cX11_with 197 = .ok (.if_icmp .ne 8, 3) := by decide +kernel
theorem dX11_with_200 : decode cX11_with 200 = .ok (.iload 4, 2) := by decide +kernel
theorem dX11_with_202 : decode cX11_with 202 = .ok (.goto 5, 3) := by decide +kernel
theorem dX11_with_205 : decode cX11_with 205 = .ok (.iload 5, 2) := by decide +kernel
theorem dX11_with_207 : decode cX11_with 207 = .ok (.ireturn, 1) := by decide +kernel
theorem dX11_with_208 : decode cX11_with 208 = .ok (.iconst 0, 1) := by decide +kernel
theorem dX11_with_209 : decode cX11_with 209 = .ok (.istore 6, 2) := by decide +kernel
theorem dX11_with_211 : decode cX11_with 211 = .ok (.iload_n 3, 1) := by decide +kernel
theorem dX11_with_212 : decode cX11_with 212 = .ok (.istore 7, 2) := by decide +kernel
theorem dX11_with_214 : decode cX11_with 214 = .ok (.iload 7, 2) := by decide +kernel
theorem dX11_with_216 : decode cX11_with 216 = .ok (.iload 5, 2) := by decide +kernel
theorem dX11_with_218 : decode cX11_with 218 = .ok (.if_icmp .gt 40, 3) := by decide +kernel
theorem dX11_with_221 : decode cX11_with 221 = .ok (.iload 6, 2) := by decide +kernel
theorem dX11_with_223 : decode cX11_with 223 = .ok (.iload 5, 2) := by decide +kernel
theorem dX11_with_225 : decode cX11_with 225 = .ok (.iload 7, 2) := by decide +kernel
theorem dX11_with_227 : decode cX11_with 227 = .ok (.invokestatic 376, 3) := by decide +kernel
theorem dX11_with_230 : decode cX11_with 230 = .ok (.aload_n 0, 1) := by decide +kernel
theorem dX11_with_231 : decode cX11_with 231 = .ok (.getfield 13, 3) := by decide +kernel
theorem dX11_with_234 : decode cX11_with 234 = .ok (.bipush 7, 2) := by decide +kernel
theorem dX11_with_236 : decode cX11_with 236 = .ok (.iaload, 1) := by decide +kernel
theorem dX11_with_237 : decode cX11_with 237 = .ok (.iload 5, 2) := by decide +kernel
theorem dX11_with_239 : decode cX11_with 239 = .ok (.isub, 1) := by decide +kernel
theorem dX11_with_240 : decode cX11_with 240 = .ok (.iload 4, 2) := by decide +kernel
theorem dX11_with_242 : decode cX11_with 242 = .ok (.iload 7, 2) := by decide +kernel
theorem dX11_with_244 : decode cX11_with 244 = .ok (.isub, 1) := by decide +kernel
theorem dX11_with_245 : decode cX11_with 245 = .ok (.invokestatic 376, 3) := by decide +kernel
theorem dX11_with_248 : decode cX11_with 248 = .ok (.imul, 1) := by decide +kernel
theorem dX11_with_249 : decode cX11_with 249 = .ok (.iadd, 1) := by decide +kernel
theorem dX11_with_250 : decode cX11_with 250 = .ok (.istore 6, 2) := by decide +kernel
theorem dX11_with_252 : decode cX11_with 252 = .ok (.iinc 7 1, 3) := by decide +kernel
theorem dX11_with_255 : decode cX11_with 255 = .ok (.goto (-41), 3) := by decide +kernel
theorem dX11_with_258 : decode cX11_with 258 = .ok (.iload 6, 2) := by decide +kernel
theorem dX11_with_260 : decode cX11_with 260 = .ok (.ireturn, 1) := by decide +kernel
theorem dX11_knew_0 : decode cX11_knew 0 = .ok (.aload_n 0, 1) := by decide +kernel
theorem dX11_knew_1 : decode cX11_knew 1 = .ok (.iconst 0, 1) := by decide +kernel
theorem dX11_knew_2 : decode cX11_knew 2 = .ok (.putfield 3, 3) := by decide +kernel
theorem dX11_knew_5 : decode cX11_knew 5 = .ok (.aload_n 0, 1) := by decide +kernel
theorem dX11_knew_6 : decode cX11_knew 6 = .ok (.iload_n 1, 1) := by decide +kernel
theorem dX11_knew_7 : decode cX11_knew 7 = .ok (.sipush (-255), 3) := by decide +kernel
theorem dX11_knew_10 : decode cX11_knew 10 = .ok (.iand, 1) := by decide +kernel
theorem dX11_knew_11 : decode cX11_knew 11 = .ok (.ifCond .eq 7, 3) := by decide +kernel
theorem dX11_knew_14 : decode cX11_knew 14 = .ok (.iconst 1, 1) := by decide +kernel
theorem dX11_knew_15 : decode cX11_knew 15 = .ok (.goto 4, 3) := by decide +kernel
theorem dX11_knew_18 : decode cX11_knew 18 = .ok (.iconst 0, 1) := by decide +kernel
theorem dX11_knew_19 : decode cX11_knew 19 = .ok (.iconst 1, 1) := by decide +kernel
theorem dX11_knew_20 : decode cX11_knew 20 = .ok (.invokevirtual 85, 3) := by decide +kernel
theorem dX11_knew_23 : decode cX11_knew 23 = .ok (.ifCond .eq 4, 3) := by decide +kernel
theorem dX11_knew_26 : decode cX11_knew 26 = .ok (.return_, 1) := by decide +kernel
theorem dX11_knew_27 : decode cX11_knew 27 = .ok (.aload_n 0, 1) := by decide +kernel
theorem dX11_knew_28 : decode cX11_knew 28 = .ok (.getfield 13, 3) := by decide +kernel
theorem dX11_knew_31 : decode cX11_knew 31 = .ok (.bipush 11, 2) := by decide +kernel
theorem dX11_knew_33 : decode cX11_knew 33 = .ok (.iload_n 1, 1) := by decide +kernel
theorem dX11_knew_34 : decode cX11_knew 34 = .ok (.iastore, 1) := by decide +kernel
theorem dX11_knew_35 : decode cX11_knew 35 = .ok (.return_, 1) := by decide +kernel
theorem dX11_told_0 : decode cX11_told 0 = .ok (.aload_n 0, 1) := by decide +kernel
theorem dX11_told_1 : decode cX11_told 1 = .ok (.iconst 0, 1) := by decide +kernel
theorem dX11_told_2 : decode cX11_told 2 = .ok (.putfield 3, 3) := by decide +kernel
theorem dX11_told_5 : decode cX11_told 5 = .ok (.aload_n 0, 1) := by decide +kernel
theorem dX11_told_6 : decode cX11_told 6 = .ok (.iload_n 1, 1) := by decide +kernel
theorem dX11_told_7 : decode cX11_told 7 = .ok (.iconst 0, 1) := by decide +kernel
theorem dX11_told_8 : decode cX11_told 8 = .ok (.bipush 7, 2) := by decide +kernel
theorem dX11_told_10 : decode cX11_told 10 = .ok (.invokestatic 81, 3) := by decide +kernel
theorem dX11_told_13 : decode cX11_told 13 = .ok (.ifCond .eq 13, 3) := by decide +kernel
theorem dX11_told_16 : decode cX11_told 16 = .ok (.iload_n 2, 1) := by decide +kernel
theorem dX11_told_17 : decode cX11_told 17 = .ok (.iconst 0, 1) := by decide +kernel
theorem dX11_told_18 : decode cX11_told 18 = .ok (.bipush 7, 2) := by decide +kernel
theorem dX11_told_20 : decode cX11_told 20 = .ok (.invokestatic 81, 3) := by decide +kernel
theorem dX11_told_23 : decode cX11_told 23 = .ok (.ifCond .ne 7, 3) := by decide +kernel
theorem dX11_told_26 : decode cX11_told 26 = .ok (.iconst 1, 1) := by decide +kernel
theorem dX11_told_27 : decode cX11_told 27 = .ok (.goto 4, 3) := by decide +kernel
theorem dX11_told_30 : decode cX11_told 30 = .ok (.iconst 0, 1) := by decide +kernel
theorem dX11_told_31 : decode cX11_told 31 = .ok (.iconst 1, 1) := by decide +kernel
theorem dX11_told_32 : decode cX11_told 32 = .ok (.invokevirtual 85, 3) := by decide +kernel
theorem dX11_told_35 : decode cX11_told 35 = .ok (.ifCond .ne 57, 3) := by decide +kernel
theorem dX11_told_38 : decode cX11_told 38 = .ok (.aload_n 0, 1) := by decide +kernel
theorem dX11_told_39 : decode cX11_told 39 = .ok (.iload_n 1, 1) := by decide +kernel
theorem dX11_told_40 : decode cX11_told 40 = .ok (.iload_n 2, 1) := by decide +kernel
theorem dX11_told_41 : decode cX11_told 41 = .ok (.if_icmp .eq 14, 3) := by decide +kernel
theorem dX11_told_44 : decode cX11_told 44 = .ok (.iload_n 3, 1) := by decide +kernel
theorem dX11_told_45 : decode cX11_told 45 = .ok (.iconst 0, 1) := by decide +kernel
theorem dX11_told_46 : decode cX11_told 46 = .ok (.sipush 365, 3) := by decide +kernel
theorem dX11_told_49 : decode cX11_told 49 = .ok (.invokestatic 81, 3) := by decide +kernel
theorem dX11_told_52 : decode cX11_told 52 = .ok (.ifCond .ne 7, 3) := by decide +kernel
theorem dX11_told_55 : decode cX11_told 55 = .ok (.iconst 1, 1) := by decide +kernel
theorem dX11_told_56 : decode cX11_told 56 = .ok (.goto 4, 3) := by decide +kernel
theorem dX11_told_59 : decode cX11_told 59 = .ok (.iconst 0, 1) := by decide +kernel
theorem dX11_told_60 : decode cX11_told 60 = .ok (.iconst 2, 1) := by decide +kernel
theorem dX11_told_61 : decode cX11_told 61 = .ok (.invokevirtual 85, 3) := by decide +kernel
theorem dX11_told_64 : decode cX11_told 64 = .ok (.ifCond .ne 28, 3) := by decide +kernel
theorem dX11_told_67 : decode cX11_told 67 = .ok (.aload_n 0, 1) := by decide +kernel
theorem dX11_told_68 : decode cX11_told 68 = .ok (.aload_n 0, 1) := by decide +kernel
theorem dX11_told_69 : decode cX11_told 69 = .ok (.getfield 13, 3) := by decide +kernel
theorem dX11_told_72 : decode cX11_told 72 = .ok (.bipush 8, 2) := by decide +kernel
theorem dX11_told_74 : decode cX11_told 74 = .ok (.iaload, 1) := by decide +kernel
theorem dX11_told_75 : decode cX11_told 75 = .ok (.bipush 20, 2) := by decide +kernel
theorem dX11_told_77 : decode cX11_told 77 = .ok (.if_icmp .ne 7, 3) := by decide +kernel
theorem dX11_told_80 : decode cX11_told 80 = .ok (.iconst 1, 1) := by decide +kernel
theorem dX11_told_81 : decode cX11_told 81 = .ok (.goto 4, 3) := by decide +kernel
theorem dX11_told_84 : decode cX11_told 84 = .ok (.iconst 0, 1) := by decide +kernel
theorem dX11_told_85 : decode cX11_told 85 = .ok (.iconst 3, 1) := by decide +kernel
theorem dX11_told_86 : decode cX11_told 86 = .ok (.invokevirtual 85, 3) := by decide +kernel
theorem dX11_told_89 : decode cX11_told 89 = .ok (.ifCond .eq 5, 3) := by decide +kernel
theorem dX11_told_92 : decode cX11_told 92 = .ok (.iconst 0, 1) := by decide +kernel
theorem dX11_told_93 : decode cX11_told 93 = .ok (.ireturn, 1) := by decide +kernel
theorem dX11_told_94 : decode cX11_told 94 = .ok (.aload_n 0, 1) := by decide +kernel
theorem dX11_told_95 : decode cX11_told 95 = .ok (.bipush 8, 2) := by decide +kernel
theorem dX11_told_97 : decode cX11_told 97 = .ok (.sipush 153, 3) := by decide +kernel
theorem dX11_told_100 : decode cX11_told 100 = .ok (.iconst 3, 1) := by decide +kernel
theorem dX11_told_101 : decode cX11_told 101 = .ok (.iload_n 1, 1) := by decide +kernel
theorem dX11_told_102 : decode cX11_told 102 = .ok (.iload_n 2, 1) := by decide +kernel
theorem dX11_told_103 : decode cX11_told 103 = .ok (.iload_n 3, 1) := by decide +kernel
theorem dX11_told_104 : decode cX11_told 104 = .ok (.invokevirtual 89, 3) := by decide +kernel
theorem dX11_told_107 : decode cX11_told 107 = .ok (.ireturn, 1) := by decide +kernel
theorem dX11_knowing_0 : decode cX11_knowing 0 = .ok (.iload_n 1, 1) := by decide +kernel
theorem dX11_knowing_1 : decode cX11_knowing 1 = .ok (.istore 4, 2) := by decide +kernel
theorem dX11_knowing_3 : decode cX11_knowing 3 = .ok (.iconst 0, 1) := by decide +kernel
theorem dX11_knowing_4 : decode cX11_knowing 4 = .ok (.istore 5, 2) := by decide +kernel
theorem dX11_knowing_6 : decode cX11_knowing 6 = .ok (.iload 5, 2) := by decide +kernel
theorem dX11_knowing_8 : decode cX11_knowing 8 = .ok (.iload_n 2, 1) := by decide +kernel
theorem dX11_knowing_9 : decode cX11_knowing 9 = .ok (.if_icmp .gt 113, 3) := by decide +kernel
theorem dX11_knowing_12 : decode cX11_knowing 12 = .ok (.iconst 0, 1) := by decide +kernel
theorem dX11_knowing_13 : decode cX11_knowing 13 = .ok (.istore 6, 2) := by decide +kernel
theorem dX11_knowing_15 : decode cX11_knowing 15 = .ok (.iload 6, 2) := by decide +kernel
theorem dX11_knowing_17 : decode cX11_knowing 17 = .ok (.bipush 8, 2) := by decide +kernel
theorem dX11_knowing_19 : decode cX11_knowing 19 = .ok (.if_icmp .ge 97, 3) := by decide +kernel
theorem dX11_knowing_22 : decode cX11_knowing 22 = .ok (.iconst 0, 1) := by decide +kernel
theorem dX11_knowing_23 : decode cX11_knowing 23 = .ok (.istore 7, 2) := by decide +kernel
theorem dX11_knowing_25 : decode cX11_knowing 25 = .ok (.iload 7, 2) := by decide +kernel
theorem dX11_knowing_27 : decode cX11_knowing 27 = .ok (.aload_n 0, 1) := by decide +kernel
theorem dX11_knowing_28 : decode cX11_knowing 28 = .ok (.getfield 13, 3) := by decide +kernel
theorem dX11_knowing_31 : decode cX11_knowing 31 = .ok (.bipush 8, 2) := by decide +kernel
theorem dX11_knowing_33 : decode cX11_knowing 33 = .ok (.iaload, 1) := by decide +kernel
theorem dX11_knowing_34 : decode cX11_knowing 34 = .ok (.if_icmp .ge 76, 3) := by decide +kernel
theorem dX11_knowing_37 : decode cX11_knowing 37 = .ok (.sipush 153, 3) := by decide +kernel
theorem dX11_knowing_40 : decode cX11_knowing 40 = .ok (.iconst 3, 1) := by decide +kernel
theorem dX11_knowing_41 : decode cX11_knowing 41 = .ok (.iload 7, 2) := by decide +kernel
theorem dX11_knowing_43 : decode cX11_knowing 43 = .ok (.imul, 1) := by decide +kernel
theorem dX11_knowing_44 : decode cX11_knowing 44 = .ok (.iadd, 1) := by decide +kernel
theorem dX11_knowing_45 : decode cX11_knowing 45 = .ok (.istore 8, 2) := by decide +kernel
theorem dX11_knowing_47 : decode cX11_knowing 47 = .ok (.aload_n 0, 1) := by decide +kernel
theorem dX11_knowing_48 : decode cX11_knowing 48 = .ok (.getfield 13, 3) := by decide +kernel
theorem dX11_knowing_51 : decode cX11_knowing 51 = .ok (.iload 8, 2) := by decide +kernel
theorem dX11_knowing_53 : decode cX11_knowing 53 = .ok (.iconst 2, 1) := by decide +kernel
theorem dX11_knowing_54 : decode cX11_knowing 54 = .ok (.iadd, 1) := by decide +kernel
theorem dX11_knowing_55 : decode cX11_knowing 55 = .ok (.iaload, 1) := by decide +kernel
theorem dX11_knowing_56 : decode cX11_knowing 56 = .ok (.iload 5, 2) := by decide +kernel
theorem dX11_knowing_58 : decode cX11_knowing 58 = .ok (.if_icmp .ne 46, 3) := by decide +kernel
theorem dX11_knowing_61 : decode cX11_knowing 61 = .ok (.aload_n 0, 1) := by decide +kernel
theorem dX11_knowing_62 : decode cX11_knowing 62 = .ok (.getfield 13, 3) := by decide +kernel
theorem dX11_knowing_65 : decode cX11_knowing 65 = .ok (.iload 8, 2) := by decide +kernel
theorem dX11_knowing_67 : decode cX11_knowing 67 = .ok (.iaload, 1) := by decide +kernel
theorem dX11_knowing_68 : decode cX11_knowing 68 = .ok (.iload_n 3, 1) := by decide +kernel
theorem dX11_knowing_69 : decode cX11_knowing 69 = .ok (.if_icmp .eq 35, 3) := by decide +kernel
theorem dX11_knowing_72 : decode cX11_knowing 72 = .ok (.iload 4, 2) := by decide +kernel
theorem dX11_knowing_74 : decode cX11_knowing 74 = .ok (.aload_n 0, 1) := by decide +kernel
theorem dX11_knowing_75 : decode cX11_knowing 75 = .ok (.getfield 13, 3) := by decide +kernel
theorem dX11_knowing_78 : decode cX11_knowing 78 = .ok (.iload 8, 2) := by decide +kernel
theorem dX11_knowing_80 : decode cX11_knowing 80 = .ok (.iaload, 1) := by decide +kernel
theorem dX11_knowing_81 : decode cX11_knowing 81 = .ok (.ishr, 1) := by decide +kernel
theorem dX11_knowing_82 : decode cX11_knowing 82 = .ok (.iconst 1, 1) := by decide +kernel
theorem dX11_knowing_83 : decode cX11_knowing 83 = .ok (.iand, 1) := by decide +kernel
theorem dX11_knowing_84 : decode cX11_knowing 84 = .ok (.iconst 1, 1) := by decide +kernel
theorem dX11_knowing_85 : decode cX11_knowing 85 = .ok (.if_icmp .ne 19, 3) := by decide +kernel
theorem dX11_knowing_88 : decode cX11_knowing 88 = .ok (.iload 4, 2) := by decide +kernel
theorem dX11_knowing_90 : decode cX11_knowing 90 = .ok (.iconst 1, 1) := by decide +kernel
theorem dX11_knowing_91 : decode cX11_knowing 91 = .ok (.aload_n 0, 1) := by decide +kernel
theorem dX11_knowing_92 : decode cX11_knowing 92 = .ok (.getfield 13, 3) := by decide +kernel
theorem dX11_knowing_95 : decode cX11_knowing 95 = .ok (.iload 8, 2) := by decide +kernel
theorem dX11_knowing_97 : decode cX11_knowing 97 = .ok (.iconst 1, 1) := by decide +kernel
theorem dX11_knowing_98 : decode cX11_knowing 98 = .ok (.iadd, 1) := by decide +kernel
theorem dX11_knowing_99 : decode cX11_knowing 99 = .ok (.iaload, 1) := by decide +kernel
theorem dX11_knowing_100 : decode cX11_knowing 100 = .ok (.ishl, 1) := by decide +kernel
theorem dX11_knowing_101 : decode cX11_knowing 101 = .ok (.ior, 1) := by decide +kernel
theorem dX11_knowing_102 : decode cX11_knowing 102 = .ok (.istore 4, 2) := by decide +kernel
theorem dX11_knowing_104 : decode cX11_knowing 104 = .ok (.iinc 7 1, 3) := by decide +kernel
theorem dX11_knowing_107 : decode cX11_knowing 107 = .ok (.goto (-82), 3) := by decide +kernel
theorem dX11_knowing_110 : decode cX11_knowing 110 = .ok (.iinc 6 1, 3) := by decide +kernel
theorem dX11_knowing_113 : decode cX11_knowing 113 = .ok (.goto (-98), 3) := by decide +kernel
theorem dX11_knowing_116 : decode cX11_knowing 116 = .ok (.iinc 5 1, 3) := by decide +kernel
theorem dX11_knowing_119 : decode cX11_knowing 119 = .ok (.goto (-113), 3) := by decide +kernel
theorem dX11_knowing_122 : decode cX11_knowing 122 = .ok (.iload 4, 2) := by decide +kernel
theorem dX11_knowing_124 : decode cX11_knowing 124 = .ok (.ireturn, 1) := by decide +kernel
theorem dX11_knows_0 : decode cX11_knows 0 = .ok (.aload_n 0, 1) := by decide +kernel
theorem dX11_knows_1 : decode cX11_knows 1 = .ok (.iconst 0, 1) := by decide +kernel
theorem dX11_knows_2 : decode cX11_knows 2 = .ok (.putfield 3, 3) := by decide +kernel
theorem dX11_knows_5 : decode cX11_knows 5 = .ok (.aload_n 0, 1) := by decide +kernel
theorem dX11_knows_6 : decode cX11_knows 6 = .ok (.iload_n 1, 1) := by decide +kernel
theorem dX11_knows_7 : decode cX11_knows 7 = .ok (.iconst 0, 1) := by decide +kernel
theorem dX11_knows_8 : decode cX11_knows 8 = .ok (.sipush 365, 3) := by decide +kernel
theorem dX11_knows_11 : decode cX11_knows 11 = .ok (.invokestatic 81, 3) := by decide +kernel
theorem dX11_knows_14 : decode cX11_knows 14 = .ok (.ifCond .ne 7, 3) := by decide +kernel
theorem dX11_knows_17 : decode cX11_knows 17 = .ok (.iconst 1, 1) := by decide +kernel
theorem dX11_knows_18 : decode cX11_knows 18 = .ok (.goto 4, 3) := by decide +kernel
theorem dX11_knows_21 : decode cX11_knows 21 = .ok (.iconst 0, 1) := by decide +kernel
theorem dX11_knows_22 : decode cX11_knows 22 = .ok (.iconst 1, 1) := by decide +kernel
theorem dX11_knows_23 : decode cX11_knows 23 = .ok (.invokevirtual 85, 3) := by decide +kernel
theorem dX11_knows_26 : decode cX11_knows 26 = .ok (.ifCond .eq 7, 3) := by decide +kernel
theorem dX11_knows_29 : decode cX11_knows 29 = .ok (.iconst 0, 1) := by decide +kernel
theorem dX11_knows_30 : decode cX11_knows 30 = .ok (.goto 16, 3) := by decide +kernel
theorem dX11_knows_33 : decode cX11_knows 33 = .ok (.aload_n 0, 1) := by decide +kernel
theorem dX11_knows_34 : decode cX11_knows 34 = .ok (.aload_n 0, 1) := by decide +kernel
theorem dX11_knows_35 : decode cX11_knows 35 = .ok (.getfield 13, 3) := by decide +kernel
theorem dX11_knows_38 : decode cX11_knows 38 = .ok (.bipush 11, 2) := by decide +kernel
theorem dX11_knows_40 : decode cX11_knows 40 = .ok (.iaload, 1) := by decide +kernel
theorem dX11_knows_41 : decode cX11_knows 41 = .ok (.iload_n 1, 1) := by decide +kernel
theorem dX11_knows_42 : decode cX11_knows 42 = .ok (.iconst (-1), 1) := by decide +kernel
theorem dX11_knows_43 : decode cX11_knows 43 = .ok (.invokevirtual 379, 3) := by decide +kernel
theorem dX11_knows_46 : decode cX11_knows 46 = .ok (.ireturn, 1) := by decide +kernel
theorem dX11_whence_0 : decode cX11_whence 0 = .ok (.aload_n 0, 1) := by decide +kernel
theorem dX11_whence_1 : decode cX11_whence 1 = .ok (.iconst 0, 1) := by decide +kernel
theorem dX11_whence_2 : decode cX11_whence 2 = .ok (.putfield 3, 3) := by decide +kernel
theorem dX11_whence_5 : decode cX11_whence 5 = .ok (.aload_n 0, 1) := by decide +kernel
theorem dX11_whence_6 : decode cX11_whence 6 = .ok (.iload_n 1, 1) := by decide +kernel
theorem dX11_whence_7 : decode cX11_whence 7 = .ok (.iconst 0, 1) := by decide +kernel
theorem dX11_whence_8 : decode cX11_whence 8 = .ok (.sipush 365, 3) := by decide +kernel
theorem dX11_whence_11 : decode cX11_whence 11 = .ok (.invokestatic 81, 3) := by decide +kernel
theorem dX11_whence_14 : decode cX11_whence 14 = .ok (.ifCond .ne 7, 3) := by decide +kernel
theorem dX11_whence_17 : decode cX11_whence 17 = .ok (.iconst 1, 1) := by decide +kernel
theorem dX11_whence_18 : decode cX11_whence 18 = .ok (.goto 4, 3) := by decide +kernel
theorem dX11_whence_21 : decode cX11_whence 21 = .ok (.iconst 0, 1) := by decide +kernel
theorem dX11_whence_22 : decode cX11_whence 22 = .ok (.iconst 1, 1) := by decide +kernel
theorem dX11_whence_23 : decode cX11_whence 23 = .ok (.invokevirtual 85, 3) := by decide +kernel
theorem dX11_whence_26 : decode cX11_whence 26 = .ok (.ifCond .eq 5, 3) := by decide +kernel
theorem dX11_whence_29 : decode cX11_whence 29 = .ok (.iconst 0, 1) := by decide +kernel
theorem dX11_whence_30 : decode cX11_whence 30 = .ok (.ireturn, 1) := by decide +kernel
theorem dX11_whence_31 : decode cX11_whence 31 = .ok (.iconst 0, 1) := by decide +kernel
theorem dX11_whence_32 : decode cX11_whence 32 = .ok (.istore_n 3, 1) := by decide +kernel
theorem dX11_whence_33 : decode cX11_whence 33 = .ok (.aload_n 0, 1) := by decide +kernel
theorem dX11_whence_34 : decode cX11_whence 34 = .ok (.aload_n 0, 1) := by decide +kernel
theorem dX11_whence_35 : decode cX11_whence 35 = .ok (.getfield 13, 3) := by decide +kernel
theorem dX11_whence_38 : decode cX11_whence 38 = .ok (.bipush 11, 2) := by decide +kernel
theorem dX11_whence_40 : decode cX11_whence 40 = .ok (.iaload, 1) := by decide +kernel
theorem dX11_whence_41 : decode cX11_whence 41 = .ok (.iload_n 1, 1) := by decide +kernel
theorem dX11_whence_42 : decode cX11_whence 42 = .ok (.iconst (-1), 1) := by decide +kernel
theorem dX11_whence_43 : decode cX11_whence 43 = .ok (.invokevirtual 379, 3) := by decide +kernel
theorem dX11_whence_46 : decode cX11_whence 46 = .ok (.iconst 1, 1) := by decide +kernel
theorem dX11_whence_47 : decode cX11_whence 47 = .ok (.iand, 1) := by decide +kernel
theorem dX11_whence_48 : decode cX11_whence 48 = .ok (.iconst 1, 1) := by decide +kernel
theorem dX11_whence_49 : decode cX11_whence 49 = .ok (.if_icmp .ne 7, 3) := by decide +kernel
theorem dX11_whence_52 : decode cX11_whence 52 = .ok (.iconst 1, 1) := by decide +kernel
theorem dX11_whence_53 : decode cX11_whence 53 = .ok (.goto 4, 3) := by decide +kernel
theorem dX11_whence_56 : decode cX11_whence 56 = .ok (.iconst 0, 1) := by decide +kernel
theorem dX11_whence_57 : decode cX11_whence 57 = .ok (.istore 4, 2) := by decide +kernel
theorem dX11_whence_59 : decode cX11_whence 59 = .ok (.iconst 1, 1) := by decide +kernel
theorem dX11_whence_60 : decode cX11_whence 60 = .ok (.istore 5, 2) := by decide +kernel
theorem dX11_whence_62 : decode cX11_whence 62 = .ok (.iload 5, 2) := by decide +kernel
theorem dX11_whence_64 : decode cX11_whence 64 = .ok (.bipush 8, 2) := by decide +kernel
theorem dX11_whence_66 : decode cX11_whence 66 = .ok (.if_icmp .ge 100, 3) := by decide +kernel
theorem dX11_whence_69 : decode cX11_whence 69 = .ok (.iload_n 2, 1) := by decide +kernel
theorem dX11_whence_70 : decode cX11_whence 70 = .ok (.ifCond .eq 35, 3) := by decide +kernel
theorem dX11_whence_73 : decode cX11_whence 73 = .ok (.iload 4, 2) := by decide +kernel
theorem dX11_whence_75 : decode cX11_whence 75 = .ok (.ifCond .eq 26, 3) := by decide +kernel
theorem dX11_whence_78 : decode cX11_whence 78 = .ok (.aload_n 0, 1) := by decide +kernel
theorem dX11_whence_79 : decode cX11_whence 79 = .ok (.aload_n 0, 1) := by decide +kernel
theorem dX11_whence_80 : decode cX11_whence 80 = .ok (.getfield 13, 3) := by decide +kernel
theorem dX11_whence_83 : decode cX11_whence 83 = .ok (.bipush 11, 2) := by decide +kernel
theorem dX11_whence_85 : decode cX11_whence 85 = .ok (.iaload, 1) := by decide +kernel
theorem dX11_whence_86 : decode cX11_whence 86 = .ok (.iload_n 1, 1) := by decide +kernel
theorem dX11_whence_87 : decode cX11_whence 87 = .ok (.iload 5, 2) := by decide +kernel
theorem dX11_whence_89 : decode cX11_whence 89 = .ok (.invokevirtual 379, 3) := by decide +kernel
theorem dX11_whence_92 : decode cX11_whence 92 = .ok (.iconst 1, 1) := by decide +kernel
theorem dX11_whence_93 : decode cX11_whence 93 = .ok (.iand, 1) := by decide +kernel
theorem dX11_whence_94 : decode cX11_whence 94 = .ok (.ifCond .ne 7, 3) := by decide +kernel
theorem dX11_whence_97 : decode cX11_whence 97 = .ok (.iconst 1, 1) := by decide +kernel
theorem dX11_whence_98 : decode cX11_whence 98 = .ok (.goto 44, 3) := by decide +kernel
theorem dX11_whence_101 : decode cX11_whence 101 = .ok (.iconst 0, 1) := by decide +kernel
theorem dX11_whence_102 : decode cX11_whence 102 = .ok (.goto 40, 3) := by decide +kernel
theorem dX11_whence_105 : decode cX11_whence 105 = .ok (.aload_n 0, 1) := by decide +kernel
theorem dX11_whence_106 : decode cX11_whence 106 = .ok (.getfield 13, 3) := by decide +kernel
theorem dX11_whence_109 : decode cX11_whence 109 = .ok (.bipush 11, 2) := by decide +kernel
theorem dX11_whence_111 : decode cX11_whence 111 = .ok (.iaload, 1) := by decide +kernel
theorem dX11_whence_112 : decode cX11_whence 112 = .ok (.iload 5, 2) := by decide +kernel
theorem dX11_whence_114 : decode cX11_whence 114 = .ok (.ishr, 1) := by decide +kernel
theorem dX11_whence_115 : decode cX11_whence 115 = .ok (.iconst 1, 1) := by decide +kernel
theorem dX11_whence_116 : decode cX11_whence 116 = .ok (.iand, 1) := by decide +kernel
theorem dX11_whence_117 : decode cX11_whence 117 = .ok (.iconst 1, 1) := by decide +kernel
theorem dX11_whence_118 : decode cX11_whence 118 = .ok (.if_icmp .ne 23, 3) := by decide +kernel
theorem dX11_whence_121 : decode cX11_whence 121 = .ok (.aload_n 0, 1) := by decide +kernel
theorem dX11_whence_122 : decode cX11_whence 122 = .ok (.iconst 1, 1) := by decide +kernel
theorem dX11_whence_123 : decode cX11_whence 123 = .ok (.iload 5, 2) := by decide +kernel
theorem dX11_whence_125 : decode cX11_whence 125 = .ok (.ishl, 1) := by decide +kernel
theorem dX11_whence_126 : decode cX11_whence 126 = .ok (.iload_n 1, 1) := by decide +kernel
theorem dX11_whence_127 : decode cX11_whence 127 = .ok (.iconst (-1), 1) := by decide +kernel
theorem dX11_whence_128 : decode cX11_whence 128 = .ok (.invokevirtual 379, 3) := by decide +kernel
theorem dX11_whence_131 : decode cX11_whence 131 = .ok (.iconst 1, 1) := by decide +kernel
theorem dX11_whence_132 : decode cX11_whence 132 = .ok (.iand, 1) := by decide +kernel
theorem dX11_whence_133 : decode cX11_whence 133 = .ok (.iconst 1, 1) := by decide +kernel
theorem dX11_whence_134 : decode cX11_whence 134 = .ok (.if_icmp .ne 7, 3) := by decide +kernel
theorem dX11_whence_137 : decode cX11_whence 137 = .ok (.iconst 1, 1) := by decide +kernel
theorem dX11_whence_138 : decode cX11_whence 138 = .ok (.goto 4, 3) := by decide +kernel
theorem dX11_whence_141 : decode cX11_whence 141 = .ok (.iconst 0, 1) := by decide +kernel
theorem dX11_whence_142 : decode cX11_whence 142 = .ok (.istore 6, 2) := by decide +kernel
theorem dX11_whence_144 : decode cX11_whence 144 = .ok (.iload_n 3, 1) := by decide +kernel
theorem dX11_whence_145 : decode cX11_whence 145 = .ok (.iload 6, 2) := by decide +kernel
theorem dX11_whence_147 : decode cX11_whence 147 = .ok (.ifCond .eq 10, 3) := by decide +kernel
theorem dX11_whence_150 : decode cX11_whence 150 = .ok (.iconst 1, 1) := by decide +kernel
theorem dX11_whence_151 : decode cX11_whence 151 = .ok (.iload 5, 2) := by decide +kernel
theorem dX11_whence_153 : decode cX11_whence 153 = .ok (.ishl, 1) := by decide +kernel
theorem dX11_whence_154 : decode cX11_whence 154 = .ok (.goto 4, 3) := by decide +kernel
theorem dX11_whence_157 : decode cX11_whence 157 = .ok (.iconst 0, 1) := by decide +kernel
theorem dX11_whence_158 : decode cX11_whence 158 = .ok (.ior, 1) := by decide +kernel
theorem dX11_whence_159 : decode cX11_whence 159 = .ok (.istore_n 3, 1) := by decide +kernel
theorem dX11_whence_160 : decode cX11_whence 160 = .ok (.iinc 5 1, 3) := by decide +kernel
theorem dX11_whence_163 : decode cX11_whence 163 = .ok (.goto (-101), 3) := by decide +kernel
theorem dX11_whence_166 : decode cX11_whence 166 = .ok (.iload_n 3, 1) := by decide +kernel
theorem dX11_whence_167 : decode cX11_whence 167 = .ok (.ireturn, 1) := by decide +kernel
theorem dX11_knot_0 : decode cX11_knot 0 = .ok (.aload_n 0, 1) := by decide +kernel
theorem dX11_knot_1 : decode cX11_knot 1 = .ok (.iconst 0, 1) := by decide +kernel
theorem dX11_knot_2 : decode cX11_knot 2 = .ok (.putfield 3, 3) := by decide +kernel
theorem dX11_knot_5 : decode cX11_knot 5 = .ok (.aload_n 0, 1) := by decide +kernel
theorem dX11_knot_6 : decode cX11_knot 6 = .ok (.iload_n 1, 1) := by decide +kernel
theorem dX11_knot_7 : decode cX11_knot 7 = .ok (.iconst 1, 1) := by decide +kernel
theorem dX11_knot_8 : decode cX11_knot 8 = .ok (.bipush 99, 2) := by decide +kernel
theorem dX11_knot_10 : decode cX11_knot 10 = .ok (.invokestatic 81, 3) := by decide +kernel
theorem dX11_knot_13 : decode cX11_knot 13 = .ok (.ifCond .eq 34, 3) := by decide +kernel
theorem dX11_knot_16 : decode cX11_knot 16 = .ok (.iload_n 2, 1) := by decide +kernel
theorem dX11_knot_17 : decode cX11_knot 17 = .ok (.iconst 1, 1) := by decide +kernel
theorem dX11_knot_18 : decode cX11_knot 18 = .ok (.bipush 99, 2) := by decide +kernel
theorem dX11_knot_20 : decode cX11_knot 20 = .ok (.invokestatic 81, 3) := by decide +kernel
theorem dX11_knot_23 : decode cX11_knot 23 = .ok (.ifCond .eq 24, 3) := by decide +kernel
theorem dX11_knot_26 : decode cX11_knot 26 = .ok (.iload_n 3, 1) := by decide +kernel
theorem dX11_knot_27 : decode cX11_knot 27 = .ok (.iconst 0, 1) := by decide +kernel
theorem dX11_knot_28 : decode cX11_knot 28 = .ok (.bipush 50, 2) := by decide +kernel
theorem dX11_knot_30 : decode cX11_knot 30 = .ok (.invokestatic 81, 3) := by decide +kernel
theorem dX11_knot_33 : decode cX11_knot 33 = .ok (.ifCond .eq 14, 3) := by decide +kernel
theorem dX11_knot_36 : decode cX11_knot 36 = .ok (.iload 4, 2) := by decide +kernel
theorem dX11_knot_38 : decode cX11_knot 38 = .ok (.iconst 0, 1) := by decide +kernel
theorem dX11_knot_39 : decode cX11_knot 39 = .ok (.bipush 50, 2) := by decide +kernel
theorem dX11_knot_41 : decode cX11_knot 41 = .ok (.invokestatic 81, 3) := by decide +kernel
theorem dX11_knot_44 : decode cX11_knot 44 = .ok (.ifCond .ne 7, 3) := by decide +kernel
theorem dX11_knot_47 : decode cX11_knot 47 = .ok (.iconst 1, 1) := by decide +kernel
theorem dX11_knot_48 : decode cX11_knot 48 = .ok (.goto 4, 3) := by decide +kernel
theorem dX11_knot_51 : decode cX11_knot 51 = .ok (.iconst 0, 1) := by decide +kernel
theorem dX11_knot_52 : decode cX11_knot 52 = .ok (.iconst 1, 1) := by decide +kernel
theorem dX11_knot_53 : decode cX11_knot 53 = .ok (.invokevirtual 85, 3) := by decide +kernel
theorem dX11_knot_56 : decode cX11_knot 56 = .ok (.ifCond .ne 28, 3) := by decide +kernel
theorem dX11_knot_59 : decode cX11_knot 59 = .ok (.aload_n 0, 1) := by decide +kernel
theorem dX11_knot_60 : decode cX11_knot 60 = .ok (.aload_n 0, 1) := by decide +kernel
theorem dX11_knot_61 : decode cX11_knot 61 = .ok (.getfield 13, 3) := by decide +kernel
theorem dX11_knot_64 : decode cX11_knot 64 = .ok (.bipush 9, 2) := by decide +kernel
theorem dX11_knot_66 : decode cX11_knot 66 = .ok (.iaload, 1) := by decide +kernel
theorem dX11_knot_67 : decode cX11_knot 67 = .ok (.bipush 6, 2) := by decide +kernel
theorem dX11_knot_69 : decode cX11_knot 69 = .ok (.if_icmp .ne 7, 3) := by decide +kernel
theorem dX11_knot_72 : decode cX11_knot 72 = .ok (.iconst 1, 1) := by decide +kernel
theorem dX11_knot_73 : decode cX11_knot 73 = .ok (.goto 4, 3) := by decide +kernel
theorem dX11_knot_76 : decode cX11_knot 76 = .ok (.iconst 0, 1) := by decide +kernel
theorem dX11_knot_77 : decode cX11_knot 77 = .ok (.iconst 2, 1) := by decide +kernel
theorem dX11_knot_78 : decode cX11_knot 78 = .ok (.invokevirtual 85, 3) := by decide +kernel
theorem dX11_knot_81 : decode cX11_knot 81 = .ok (.ifCond .eq 5, 3) := by decide +kernel
theorem dX11_knot_84 : decode cX11_knot 84 = .ok (.iconst 0, 1) := by decide +kernel
theorem dX11_knot_85 : decode cX11_knot 85 = .ok (.ireturn, 1) := by decide +kernel
theorem dX11_knot_86 : decode cX11_knot 86 = .ok (.sipush 213, 3) := by decide +kernel
theorem dX11_knot_89 : decode cX11_knot 89 = .ok (.iconst 4, 1) := by decide +kernel
theorem dX11_knot_90 : decode cX11_knot 90 = .ok (.aload_n 0, 1) := by decide +kernel
theorem dX11_knot_91 : decode cX11_knot 91 = .ok (.getfield 13, 3) := by decide +kernel
theorem dX11_knot_94 : decode cX11_knot 94 = .ok (.bipush 9, 2) := by decide +kernel
theorem dX11_knot_96 : decode cX11_knot 96 = .ok (.iaload, 1) := by decide +kernel
theorem dX11_knot_97 : decode cX11_knot 97 = .ok (.imul, 1) := by decide +kernel
theorem dX11_knot_98 : decode cX11_knot 98 = .ok (.iadd, 1) := by decide +kernel
theorem dX11_knot_99 : decode cX11_knot 99 = .ok (.istore 5, 2) := by decide +kernel
theorem dX11_knot_101 : decode cX11_knot 101 = .ok (.aload_n 0, 1) := by decide +kernel
theorem dX11_knot_102 : decode cX11_knot 102 = .ok (.getfield 13, 3) := by decide +kernel
theorem dX11_knot_105 : decode cX11_knot 105 = .ok (.iload 5, 2) := by decide +kernel
theorem dX11_knot_107 : decode cX11_knot 107 = .ok (.iload_n 1, 1) := by decide +kernel
theorem dX11_knot_108 : decode cX11_knot 108 = .ok (.iastore, 1) := by decide +kernel
theorem dX11_knot_109 : decode cX11_knot 109 = .ok (.aload_n 0, 1) := by decide +kernel
theorem dX11_knot_110 : decode cX11_knot 110 = .ok (.getfield 13, 3) := by decide +kernel
theorem dX11_knot_113 : decode cX11_knot 113 = .ok (.iload 5, 2) := by decide +kernel
theorem dX11_knot_115 : decode cX11_knot 115 = .ok (.iconst 1, 1) := by decide +kernel
theorem dX11_knot_116 : decode cX11_knot 116 = .ok (.iadd, 1) := by decide +kernel
theorem dX11_knot_117 : decode cX11_knot 117 = .ok (.iload_n 2, 1) := by decide +kernel
theorem dX11_knot_118 : decode cX11_knot 118 = .ok (.iastore, 1) := by decide +kernel
theorem dX11_knot_119 : decode cX11_knot 119 = .ok (.aload_n 0, 1) := by decide +kernel
theorem dX11_knot_120 : decode cX11_knot 120 = .ok (.getfield 13, 3) := by decide +kernel
theorem dX11_knot_123 : decode cX11_knot 123 = .ok (.iload 5, 2) := by decide +kernel
theorem dX11_knot_125 : decode cX11_knot 125 = .ok (.iconst 2, 1) := by decide +kernel
theorem dX11_knot_126 : decode cX11_knot 126 = .ok (.iadd, 1) := by decide +kernel
theorem dX11_knot_127 : decode cX11_knot 127 = .ok (.iload_n 3, 1) := by decide +kernel
theorem dX11_knot_128 : decode cX11_knot 128 = .ok (.iastore, 1) := by decide +kernel
theorem dX11_knot_129 : decode cX11_knot 129 = .ok (.aload_n 0, 1) := by decide +kernel
theorem dX11_knot_130 : decode cX11_knot 130 = .ok (.getfield 13, 3) := by decide +kernel
theorem dX11_knot_133 : decode cX11_knot 133 = .ok (.iload 5, 2) := by decide +kernel
theorem dX11_knot_135 : decode cX11_knot 135 = .ok (.iconst 3, 1) := by decide +kernel
theorem dX11_knot_136 : decode cX11_knot 136 = .ok (.iadd, 1) := by decide +kernel
theorem dX11_knot_137 : decode cX11_knot 137 = .ok (.iload 4, 2) := by decide +kernel
theorem dX11_knot_139 : decode cX11_knot 139 = .ok (.iastore, 1) := by decide +kernel
theorem dX11_knot_140 : decode cX11_knot 140 = .ok (.aload_n 0, 1) := by decide +kernel
theorem dX11_knot_141 : decode cX11_knot 141 = .ok (.getfield 13, 3) := by decide +kernel
theorem dX11_knot_144 : decode cX11_knot 144 = .ok (.bipush 9, 2) := by decide +kernel
theorem dX11_knot_146 : decode cX11_knot 146 = .ok (.dup2, 1) := by decide +kernel
theorem dX11_knot_147 : decode cX11_knot 147 = .ok (.iaload, 1) := by decide +kernel
theorem dX11_knot_148 : decode cX11_knot 148 = .ok (.iconst 1, 1) := by decide +kernel
theorem dX11_knot_149 : decode cX11_knot 149 = .ok (.iadd, 1) := by decide +kernel
theorem dX11_knot_150 : decode cX11_knot 150 = .ok (.iastore, 1) := by decide +kernel
theorem dX11_knot_151 : decode cX11_knot 151 = .ok (.aload_n 0, 1) := by decide +kernel
theorem dX11_knot_152 : decode cX11_knot 152 = .ok (.getfield 13, 3) := by decide +kernel
theorem dX11_knot_155 : decode cX11_knot 155 = .ok (.bipush 9, 2) := by decide +kernel
theorem dX11_knot_157 : decode cX11_knot 157 = .ok (.iaload, 1) := by decide +kernel
theorem dX11_knot_158 : decode cX11_knot 158 = .ok (.iconst 1, 1) := by decide +kernel
theorem dX11_knot_159 : decode cX11_knot 159 = .ok (.isub, 1) := by decide +kernel
theorem dX11_knot_160 : decode cX11_knot 160 = .ok (.ireturn, 1) := by decide +kernel
theorem dX11_rope_0 : decode cX11_rope 0 = .ok (.aload_n 0, 1) := by decide +kernel
theorem dX11_rope_1 : decode cX11_rope 1 = .ok (.iconst 0, 1) := by decide +kernel
theorem dX11_rope_2 : decode cX11_rope 2 = .ok (.putfield 3, 3) := by decide +kernel
theorem dX11_rope_5 : decode cX11_rope 5 = .ok (.aload_n 0, 1) := by decide +kernel
theorem dX11_rope_6 : decode cX11_rope 6 = .ok (.iload_n 1, 1) := by decide +kernel
theorem dX11_rope_7 : decode cX11_rope 7 = .ok (.iconst 0, 1) := by decide +kernel
theorem dX11_rope_8 : decode cX11_rope 8 = .ok (.bipush 50, 2) := by decide +kernel
theorem dX11_rope_10 : decode cX11_rope 10 = .ok (.invokestatic 81, 3) := by decide +kernel
theorem dX11_rope_13 : decode cX11_rope 13 = .ok (.ifCond .ne 7, 3) := by decide +kernel
theorem dX11_rope_16 : decode cX11_rope 16 = .ok (.iconst 1, 1) := by decide +kernel
theorem dX11_rope_17 : decode cX11_rope 17 = .ok (.goto 4, 3) := by decide +kernel
theorem dX11_rope_20 : decode cX11_rope 20 = .ok (.iconst 0, 1) := by decide +kernel
theorem dX11_rope_21 : decode cX11_rope 21 = .ok (.iconst 1, 1) := by decide +kernel
theorem dX11_rope_22 : decode cX11_rope 22 = .ok (.invokevirtual 85, 3) := by decide +kernel
theorem dX11_rope_25 : decode cX11_rope 25 = .ok (.ifCond .eq 4, 3) := by decide +kernel
theorem dX11_rope_28 : decode cX11_rope 28 = .ok (.return_, 1) := by decide +kernel
theorem dX11_rope_29 : decode cX11_rope 29 = .ok (.aload_n 0, 1) := by decide +kernel
theorem dX11_rope_30 : decode cX11_rope 30 = .ok (.getfield 13, 3) := by decide +kernel
theorem dX11_rope_33 : decode cX11_rope 33 = .ok (.bipush 10, 2) := by decide +kernel
theorem dX11_rope_35 : decode cX11_rope 35 = .ok (.iload_n 1, 1) := by decide +kernel
theorem dX11_rope_36 : decode cX11_rope 36 = .ok (.iastore, 1) := by decide +kernel
theorem dX11_rope_37 : decode cX11_rope 37 = .ok (.return_, 1) := by decide +kernel
theorem dX11_canTurn_0 : decode cX11_canTurn 0 = .ok (.aload_n 0, 1) := by decide +kernel
theorem dX11_canTurn_1 : decode cX11_canTurn 1 = .ok (.getfield 13, 3) := by decide +kernel
theorem dX11_canTurn_4 : decode cX11_canTurn 4 = .ok (.bipush 10, 2) := by decide +kernel
theorem dX11_canTurn_6 : decode cX11_canTurn 6 = .ok (.iaload, 1) := by decide +kernel
theorem dX11_canTurn_7 : decode cX11_canTurn 7 = .ok (.istore_n 3, 1) := by decide +kernel
theorem dX11_canTurn_8 : decode cX11_canTurn 8 = .ok (.iconst 0, 1) := by decide +kernel
theorem dX11_canTurn_9 : decode cX11_canTurn 9 = .ok (.istore 4, 2) := by decide +kernel
theorem dX11_canTurn_11 : decode cX11_canTurn 11 = .ok (.iload 4, 2) := by decide +kernel
theorem dX11_canTurn_13 : decode cX11_canTurn 13 = .ok (.aload_n 0, 1) := by decide +kernel
theorem dX11_canTurn_14 : decode cX11_canTurn 14 = .ok (.getfield 13, 3) := by decide +kernel
theorem dX11_canTurn_17 : decode cX11_canTurn 17 = .ok (.bipush 9, 2) := by decide +kernel
theorem dX11_canTurn_19 : decode cX11_canTurn 19 = .ok (.iaload, 1) := by decide +kernel
theorem dX11_canTurn_20 : decode cX11_canTurn 20 = .ok (.if_icmp .ge 47, 3) := by decide +kernel
theorem dX11_canTurn_23 : decode cX11_canTurn 23 = .ok (.iload_n 3, 1) := by decide +kernel
theorem dX11_canTurn_24 : decode cX11_canTurn 24 = .ok (.iload 4, 2) := by decide +kernel
theorem dX11_canTurn_26 : decode cX11_canTurn 26 = .ok (.iload_n 2, 1) := by decide +kernel
theorem dX11_canTurn_27 : decode cX11_canTurn 27 = .ok (.if_icmp .eq 31, 3) := by decide +kernel
theorem dX11_canTurn_30 : decode cX11_canTurn 30 = .ok (.iload_n 1, 1) := by decide +kernel
theorem dX11_canTurn_31 : decode cX11_canTurn 31 = .ok (.iload 4, 2) := by decide +kernel
theorem dX11_canTurn_33 : decode cX11_canTurn 33 = .ok (.ishr, 1) := by decide +kernel
theorem dX11_canTurn_34 : decode cX11_canTurn 34 = .ok (.iconst 1, 1) := by decide +kernel
theorem dX11_canTurn_35 : decode cX11_canTurn 35 = .ok (.iand, 1) := by decide +kernel
theorem dX11_canTurn_36 : decode cX11_canTurn 36 = .ok (.iconst 1, 1) := by decide +kernel
theorem dX11_canTurn_37 : decode cX11_canTurn 37 = .ok (.if_icmp .ne 21, 3) := by decide +kernel
theorem dX11_canTurn_40 : decode cX11_canTurn 40 = .ok (.aload_n 0, 1) := by decide +kernel
theorem dX11_canTurn_41 : decode cX11_canTurn 41 = .ok (.getfield 13, 3) := by decide +kernel
theorem dX11_canTurn_44 : decode cX11_canTurn 44 = .ok (.sipush 213, 3) := by decide +kernel
theorem dX11_canTurn_47 : decode cX11_canTurn 47 = .ok (.iconst 4, 1) := by decide +kernel
theorem dX11_canTurn_48 : decode cX11_canTurn 48 = .ok (.iload 4, 2) := by decide +kernel
theorem dX11_canTurn_50 : decode cX11_canTurn 50 = .ok (.imul, 1) := by decide +kernel
theorem dX11_canTurn_51 : decode cX11_canTurn 51 = .ok (.iadd, 1) := by decide +kernel
theorem dX11_canTurn_52 : decode cX11_canTurn 52 = .ok (.iconst 3, 1) := by decide +kernel
theorem dX11_canTurn_53 : decode cX11_canTurn 53 = .ok (.iadd, 1) := by decide +kernel
theorem dX11_canTurn_54 : decode cX11_canTurn 54 = .ok (.iaload, 1) := by decide +kernel
theorem dX11_canTurn_55 : decode cX11_canTurn 55 = .ok (.goto 4, 3) := by decide +kernel
theorem dX11_canTurn_58 : decode cX11_canTurn 58 = .ok (.iconst 0, 1) := by decide +kernel
theorem dX11_canTurn_59 : decode cX11_canTurn 59 = .ok (.iadd, 1) := by decide +kernel
theorem dX11_canTurn_60 : decode cX11_canTurn 60 = .ok (.istore_n 3, 1) := by decide +kernel
theorem dX11_canTurn_61 : decode cX11_canTurn 61 = .ok (.iinc 4 1, 3) := by decide +kernel
theorem dX11_canTurn_64 : decode cX11_canTurn 64 = .ok (.goto (-53), 3) := by decide +kernel
theorem dX11_canTurn_67 : decode cX11_canTurn 67 = .ok (.iload_n 3, 1) := by decide +kernel
theorem dX11_canTurn_68 : decode cX11_canTurn 68 = .ok (.aload_n 0, 1) := by decide +kernel
theorem dX11_canTurn_69 : decode cX11_canTurn 69 = .ok (.getfield 13, 3) := by decide +kernel
theorem dX11_canTurn_72 : decode cX11_canTurn 72 = .ok (.sipush 213, 3) := by decide +kernel
theorem dX11_canTurn_75 : decode cX11_canTurn 75 = .ok (.iconst 4, 1) := by decide +kernel
theorem dX11_canTurn_76 : decode cX11_canTurn 76 = .ok (.iload_n 2, 1) := by decide +kernel
theorem dX11_canTurn_77 : decode cX11_canTurn 77 = .ok (.imul, 1) := by decide +kernel
theorem dX11_canTurn_78 : decode cX11_canTurn 78 = .ok (.iadd, 1) := by decide +kernel
theorem dX11_canTurn_79 : decode cX11_canTurn 79 = .ok (.iconst 2, 1) := by decide +kernel
theorem dX11_canTurn_80 : decode cX11_canTurn 80 = .ok (.iadd, 1) := by decide +kernel
theorem dX11_canTurn_81 : decode cX11_canTurn 81 = .ok (.iaload, 1) := by decide +kernel
theorem dX11_canTurn_82 : decode cX11_canTurn 82 = .ok (.if_icmp .lt 7, 3) := by decide +kernel
theorem dX11_canTurn_85 : decode cX11_canTurn 85 = .ok (.iconst 1, 1) := by decide +kernel
theorem dX11_canTurn_86 : decode cX11_canTurn 86 = .ok (.goto 4, 3) := by decide +kernel
theorem dX11_canTurn_89 : decode cX11_canTurn 89 = .ok (.iconst 0, 1) := by decide +kernel
theorem dX11_canTurn_90 : decode cX11_canTurn 90 = .ok (.ireturn, 1) := by decide +kernel
theorem dX11_spreads_0 : decode cX11_spreads 0 = .ok (.iconst 1, 1) := by decide +kernel
theorem dX11_spreads_1 : decode cX11_spreads 1 = .ok (.aload_n 0, 1) := by decide +kernel
theorem dX11_spreads_2 : decode cX11_spreads 2 = .ok (.getfield 13, 3) := by decide +kernel
theorem dX11_spreads_5 : decode cX11_spreads 5 = .ok (.bipush 9, 2) := by decide +kernel
theorem dX11_spreads_7 : decode cX11_spreads 7 = .ok (.iaload, 1) := by decide +kernel
theorem dX11_spreads_8 : decode cX11_spreads 8 = .ok (.ishl, 1) := by decide +kernel
theorem dX11_spreads_9 : decode cX11_spreads 9 = .ok (.istore_n 2, 1) := by decide +kernel
theorem dX11_spreads_10 : decode cX11_spreads 10 = .ok (.iconst 0, 1) := by decide +kernel
theorem dX11_spreads_11 : decode cX11_spreads 11 = .ok (.istore_n 3, 1) := by decide +kernel
theorem dX11_spreads_12 : decode cX11_spreads 12 = .ok (.iload_n 3, 1) := by decide +kernel
theorem dX11_spreads_13 : decode cX11_spreads 13 = .ok (.iload_n 2, 1) := by decide +kernel
theorem dX11_spreads_14 : decode cX11_spreads 14 = .ok (.if_icmp .ge 27, 3) := by decide +kernel
theorem dX11_spreads_17 : decode cX11_spreads 17 = .ok (.aload_n 0, 1) := by decide +kernel
theorem dX11_spreads_18 : decode cX11_spreads 18 = .ok (.getfield 71, 3) := by decide +kernel
theorem dX11_spreads_21 : decode cX11_spreads 21 = .ok (.iload_n 3, 1) := by decide +kernel
theorem dX11_spreads_22 : decode cX11_spreads 22 = .ok (.iload_n 3, 1) := by decide +kernel
theorem dX11_spreads_23 : decode cX11_spreads 23 = .ok (.iload_n 1, 1) := by decide +kernel
theorem dX11_spreads_24 : decode cX11_spreads 24 = .ok (.if_icmp .ne 7, 3) := by decide +kernel
theorem dX11_spreads_27 : decode cX11_spreads 27 = .ok (.iconst 0, 1) := by decide +kernel
theorem dX11_spreads_28 : decode cX11_spreads 28 = .ok (.goto 6, 3) := by decide +kernel
theorem dX11_spreads_31 : decode cX11_spreads 31 = .ok (.ldc_w 382, 3) := by decide +kernel
theorem dX11_spreads_34 : decode cX11_spreads 34 = .ok (.iastore, 1) := by decide +kernel
theorem dX11_spreads_35 : decode cX11_spreads 35 = .ok (.iinc 3 1, 3) := by decide +kernel
theorem dX11_spreads_38 : decode cX11_spreads 38 = .ok (.goto (-26), 3) := by decide +kernel
theorem dX11_spreads_41 : decode cX11_spreads 41 = .ok (.iconst 0, 1) := by decide +kernel
theorem dX11_spreads_42 : decode cX11_spreads 42 = .ok (.istore_n 3, 1) := by decide +kernel
theorem dX11_spreads_43 : decode cX11_spreads 43 = .ok (.iload_n 3, 1) := by decide +kernel
theorem dX11_spreads_44 : decode cX11_spreads 44 = .ok (.iload_n 2, 1) := by decide +kernel
theorem dX11_spreads_45 : decode cX11_spreads 45 = .ok (.if_icmp .ge 132, 3) := by decide +kernel
theorem dX11_spreads_48 : decode cX11_spreads 48 = .ok (.iconst 0, 1) := by decide +kernel
theorem dX11_spreads_49 : decode cX11_spreads 49 = .ok (.istore 4, 2) := by decide +kernel
theorem dX11_spreads_51 : decode cX11_spreads 51 = .ok (.iload 4, 2) := by decide +kernel
theorem dX11_spreads_53 : decode cX11_spreads 53 = .ok (.iload_n 2, 1) := by decide +kernel
theorem dX11_spreads_54 : decode cX11_spreads 54 = .ok (.if_icmp .ge 117, 3) := by decide +kernel
theorem dX11_spreads_57 : decode cX11_spreads 57 = .ok (.aload_n 0, 1) := by decide +kernel
theorem dX11_spreads_58 : decode cX11_spreads 58 = .ok (.getfield 71, 3) := by decide +kernel
theorem dX11_spreads_61 : decode cX11_spreads 61 = .ok (.iload 4, 2) := by decide +kernel
theorem dX11_spreads_63 : decode cX11_spreads 63 = .ok (.iaload, 1) := by decide +kernel
theorem dX11_spreads_64 : decode cX11_spreads 64 = .ok (.ldc_w 382, 3) := by decide +kernel
theorem dX11_spreads_67 : decode cX11_spreads 67 = .ok (.if_icmp .ne 6, 3) := by decide +kernel
theorem dX11_spreads_70 : decode cX11_spreads 70 = .ok (.goto 95, 3) := by decide +kernel
theorem dX11_spreads_73 : decode cX11_spreads 73 = .ok (.iconst 0, 1) := by decide +kernel
theorem dX11_spreads_74 : decode cX11_spreads 74 = .ok (.istore 5, 2) := by decide +kernel
theorem dX11_spreads_76 : decode cX11_spreads 76 = .ok (.iload 5, 2) := by decide +kernel
theorem dX11_spreads_78 : decode cX11_spreads 78 = .ok (.aload_n 0, 1) := by decide +kernel
theorem dX11_spreads_79 : decode cX11_spreads 79 = .ok (.getfield 13, 3) := by decide +kernel
theorem dX11_spreads_82 : decode cX11_spreads 82 = .ok (.bipush 9, 2) := by decide +kernel
theorem dX11_spreads_84 : decode cX11_spreads 84 = .ok (.iaload, 1) := by decide +kernel
theorem dX11_spreads_85 : decode cX11_spreads 85 = .ok (.if_icmp .ge 80, 3) := by decide +kernel
theorem dX11_spreads_88 : decode cX11_spreads 88 = .ok (.aload_n 0, 1) := by decide +kernel
theorem dX11_spreads_89 : decode cX11_spreads 89 = .ok (.iload 4, 2) := by decide +kernel
theorem dX11_spreads_91 : decode cX11_spreads 91 = .ok (.iload 5, 2) := by decide +kernel
theorem dX11_spreads_93 : decode cX11_spreads 93 = .ok (.invokevirtual 383, 3) := by decide +kernel
theorem dX11_spreads_96 : decode cX11_spreads 96 = .ok (.ifCond .ne 6, 3) := by decide +kernel
theorem dX11_spreads_99 : decode cX11_spreads 99 = .ok (.goto 60, 3) := by decide +kernel
theorem dX11_spreads_102 : decode cX11_spreads 102 = .ok (.iload 4, 2) := by decide +kernel
theorem dX11_spreads_104 : decode cX11_spreads 104 = .ok (.iconst 1, 1) := by decide +kernel
theorem dX11_spreads_105 : decode cX11_spreads 105 = .ok (.iload 5, 2) := by decide +kernel
theorem dX11_spreads_107 : decode cX11_spreads 107 = .ok (.ishl, 1) := by decide +kernel
theorem dX11_spreads_108 : decode cX11_spreads 108 = .ok (.ixor, 1) := by decide +kernel
theorem dX11_spreads_109 : decode cX11_spreads 109 = .ok (.istore 6, 2) := by decide +kernel
theorem dX11_spreads_111 : decode cX11_spreads 111 = .ok (.aload_n 0, 1) := by decide +kernel
theorem dX11_spreads_112 : decode cX11_spreads 112 = .ok (.getfield 71, 3) := by decide +kernel
theorem dX11_spreads_115 : decode cX11_spreads 115 = .ok (.iload 6, 2) := by decide +kernel
theorem dX11_spreads_117 : decode cX11_spreads 117 = .ok (.aload_n 0, 1) := by decide +kernel
theorem dX11_spreads_118 : decode cX11_spreads 118 = .ok (.getfield 71, 3) := by decide +kernel
theorem dX11_spreads_121 : decode cX11_spreads 121 = .ok (.iload 6, 2) := by decide +kernel
theorem dX11_spreads_123 : decode cX11_spreads 123 = .ok (.iaload, 1) := by decide +kernel
theorem dX11_spreads_124 : decode cX11_spreads 124 = .ok (.aload_n 0, 1) := by decide +kernel
theorem dX11_spreads_125 : decode cX11_spreads 125 = .ok (.getfield 71, 3) := by decide +kernel
theorem dX11_spreads_128 : decode cX11_spreads 128 = .ok (.iload 4, 2) := by decide +kernel
theorem dX11_spreads_130 : decode cX11_spreads 130 = .ok (.iaload, 1) := by decide +kernel
theorem dX11_spreads_131 : decode cX11_spreads 131 = .ok (.aload_n 0, 1) := by decide +kernel
theorem dX11_spreads_132 : decode cX11_spreads 132 = .ok (.getfield 13, 3) := by decide +kernel
theorem dX11_spreads_135 : decode cX11_spreads 135 = .ok (.sipush 213, 3) := by decide +kernel
theorem dX11_spreads_138 : decode cX11_spreads 138 = .ok (.iconst 4, 1) := by decide +kernel
theorem dX11_spreads_139 : decode cX11_spreads 139 = .ok (.iload 5, 2) := by decide +kernel
theorem dX11_spreads_141 : decode cX11_spreads 141 = .ok (.imul, 1) := by decide +kernel
theorem dX11_spreads_142 : decode cX11_spreads 142 = .ok (.iadd, 1) := by decide +kernel
theorem dX11_spreads_143 : decode cX11_spreads 143 = .ok (.iload 6, 2) := by decide +kernel
theorem dX11_spreads_145 : decode cX11_spreads 145 = .ok (.iload 5, 2) := by decide +kernel
theorem dX11_spreads_147 : decode cX11_spreads 147 = .ok (.ishr, 1) := by decide +kernel
theorem dX11_spreads_148 : decode cX11_spreads 148 = .ok (.iconst 1, 1) := by decide +kernel
theorem dX11_spreads_149 : decode cX11_spreads 149 = .ok (.iand, 1) := by decide +kernel
theorem dX11_spreads_150 : decode cX11_spreads 150 = .ok (.iconst 1, 1) := by decide +kernel
theorem dX11_spreads_151 : decode cX11_spreads 151 = .ok (.ixor, 1) := by decide +kernel
theorem dX11_spreads_152 : decode cX11_spreads 152 = .ok (.iadd, 1) := by decide +kernel
theorem dX11_spreads_153 : decode cX11_spreads 153 = .ok (.iaload, 1) := by decide +kernel
theorem dX11_spreads_154 : decode cX11_spreads 154 = .ok (.iadd, 1) := by decide +kernel
theorem dX11_spreads_155 : decode cX11_spreads 155 = .ok (.invokestatic 386, 3) := by decide +kernel
theorem dX11_spreads_158 : decode cX11_spreads 158 = .ok (.iastore, 1) := by decide +kernel
theorem dX11_spreads_159 : decode cX11_spreads 159 = .ok (.iinc 5 1, 3) := by decide +kernel
theorem dX11_spreads_162 : decode cX11_spreads 162 = .ok (.goto (-86), 3) := by decide +kernel
theorem dX11_spreads_165 : decode cX11_spreads 165 = .ok (.iinc 4 1, 3) := by decide +kernel
theorem dX11_spreads_168 : decode cX11_spreads 168 = .ok (.goto (-117), 3) := by decide +kernel
theorem dX11_spreads_171 : decode cX11_spreads 171 = .ok (.iinc 3 1, 3) := by decide +kernel
theorem dX11_spreads_174 : decode cX11_spreads 174 = .ok (.goto (-131), 3) := by decide +kernel
theorem dX11_spreads_177 : decode cX11_spreads 177 = .ok (.return_, 1) := by decide +kernel
theorem dX11_leastTo_0 : decode cX11_leastTo 0 = .ok (.ldc_w 382, 3) := by decide +kernel
theorem dX11_leastTo_3 : decode cX11_leastTo 3 = .ok (.istore_n 2, 1) := by decide +kernel
theorem dX11_leastTo_4 : decode cX11_leastTo 4 = .ok (.iconst 0, 1) := by decide +kernel
theorem dX11_leastTo_5 : decode cX11_leastTo 5 = .ok (.istore_n 3, 1) := by decide +kernel
theorem dX11_leastTo_6 : decode cX11_leastTo 6 = .ok (.iload_n 3, 1) := by decide +kernel
theorem dX11_leastTo_7 : decode cX11_leastTo 7 = .ok (.iconst 1, 1) := by decide +kernel
theorem dX11_leastTo_8 : decode cX11_leastTo 8 = .ok (.aload_n 0, 1) := by decide +kernel
theorem dX11_leastTo_9 : decode cX11_leastTo 9 = .ok (.getfield 13, 3) := by decide +kernel
theorem dX11_leastTo_12 : decode cX11_leastTo 12 = .ok (.bipush 9, 2) := by decide +kernel
theorem dX11_leastTo_14 : decode cX11_leastTo 14 = .ok (.iaload, 1) := by decide +kernel
theorem dX11_leastTo_15 : decode cX11_leastTo 15 = .ok (.ishl, 1) := by decide +kernel
theorem dX11_leastTo_16 : decode cX11_leastTo 16 = .ok (.if_icmp .ge 28, 3) := by decide +kernel
theorem dX11_leastTo_19 : decode cX11_leastTo 19 = .ok (.iload_n 1, 1) := by decide +kernel
theorem dX11_leastTo_20 : decode cX11_leastTo 20 = .ok (.iload_n 3, 1) := by decide +kernel
theorem dX11_leastTo_21 : decode cX11_leastTo 21 = .ok (.iconst (-1), 1) := by decide +kernel
theorem dX11_leastTo_22 : decode cX11_leastTo 22 = .ok (.ixor, 1) := by decide +kernel
theorem dX11_leastTo_23 : decode cX11_leastTo 23 = .ok (.iand, 1) := by decide +kernel
theorem dX11_leastTo_24 : decode cX11_leastTo 24 = .ok (.ifCond .ne 14, 3) := by decide +kernel
theorem dX11_leastTo_27 : decode cX11_leastTo 27 = .ok (.iload_n 2, 1) := by decide +kernel
theorem dX11_leastTo_28 : decode cX11_leastTo 28 = .ok (.aload_n 0, 1) := by decide +kernel
theorem dX11_leastTo_29 : decode cX11_leastTo 29 = .ok (.getfield 71, 3) := by decide +kernel
theorem dX11_leastTo_32 : decode cX11_leastTo 32 = .ok (.iload_n 3, 1) := by decide +kernel
theorem dX11_leastTo_33 : decode cX11_leastTo 33 = .ok (.iaload, 1) := by decide +kernel
theorem dX11_leastTo_34 : decode cX11_leastTo 34 = .ok (.invokestatic 386, 3) := by decide +kernel
theorem dX11_leastTo_37 : decode cX11_leastTo 37 = .ok (.istore_n 2, 1) := by decide +kernel
theorem dX11_leastTo_38 : decode cX11_leastTo 38 = .ok (.iinc 3 1, 3) := by decide +kernel
theorem dX11_leastTo_41 : decode cX11_leastTo 41 = .ok (.goto (-35), 3) := by decide +kernel
theorem dX11_leastTo_44 : decode cX11_leastTo 44 = .ok (.iload_n 2, 1) := by decide +kernel
theorem dX11_leastTo_45 : decode cX11_leastTo 45 = .ok (.ireturn, 1) := by decide +kernel
theorem dX11_out_0 : decode cX11_out 0 = .ok (.aload_n 0, 1) := by decide +kernel
theorem dX11_out_1 : decode cX11_out 1 = .ok (.iconst 0, 1) := by decide +kernel
theorem dX11_out_2 : decode cX11_out 2 = .ok (.putfield 3, 3) := by decide +kernel
theorem dX11_out_5 : decode cX11_out 5 = .ok (.iconst 1, 1) := by decide +kernel
theorem dX11_out_6 : decode cX11_out 6 = .ok (.aload_n 0, 1) := by decide +kernel
theorem dX11_out_7 : decode cX11_out 7 = .ok (.getfield 13, 3) := by decide +kernel
theorem dX11_out_10 : decode cX11_out 10 = .ok (.bipush 9, 2) := by decide +kernel
theorem dX11_out_12 : decode cX11_out 12 = .ok (.iaload, 1) := by decide +kernel
theorem dX11_out_13 : decode cX11_out 13 = .ok (.ishl, 1) := by decide +kernel
theorem dX11_out_14 : decode cX11_out 14 = .ok (.istore_n 3, 1) := by decide +kernel
theorem dX11_out_15 : decode cX11_out 15 = .ok (.iload_n 1, 1) := by decide +kernel
theorem dX11_out_16 : decode cX11_out 16 = .ok (.iload_n 3, 1) := by decide +kernel
theorem dX11_out_17 : decode cX11_out 17 = .ok (.iconst 1, 1) := by decide +kernel
theorem dX11_out_18 : decode cX11_out 18 = .ok (.isub, 1) := by decide +kernel
theorem dX11_out_19 : decode cX11_out 19 = .ok (.iand, 1) := by decide +kernel
theorem dX11_out_20 : decode cX11_out 20 = .ok (.istore 4, 2) := by decide +kernel
theorem dX11_out_22 : decode cX11_out 22 = .ok (.aload_n 0, 1) := by decide +kernel
theorem dX11_out_23 : decode cX11_out 23 = .ok (.iconst 0, 1) := by decide +kernel
theorem dX11_out_24 : decode cX11_out 24 = .ok (.invokevirtual 389, 3) := by decide +kernel
theorem dX11_out_27 : decode cX11_out 27 = .ok (.aload_n 0, 1) := by decide +kernel
theorem dX11_out_28 : decode cX11_out 28 = .ok (.iload 4, 2) := by decide +kernel
theorem dX11_out_30 : decode cX11_out 30 = .ok (.invokevirtual 392, 3) := by decide +kernel
theorem dX11_out_33 : decode cX11_out 33 = .ok (.istore 5, 2) := by decide +kernel
theorem dX11_out_35 : decode cX11_out 35 = .ok (.iload_n 2, 1) := by decide +kernel
theorem dX11_out_36 : decode cX11_out 36 = .ok (.ifCond .ne 18, 3) := by decide +kernel
theorem dX11_out_39 : decode cX11_out 39 = .ok (.iload 5, 2) := by decide +kernel
theorem dX11_out_41 : decode cX11_out 41 = .ok (.ldc_w 382, 3) := by decide +kernel
theorem dX11_out_44 : decode cX11_out 44 = .ok (.if_icmp .ne 7, 3) := by decide +kernel
theorem dX11_out_47 : decode cX11_out 47 = .ok (.iconst (-1), 1) := by decide +kernel
theorem dX11_out_48 : decode cX11_out 48 = .ok (.goto 5, 3) := by decide +kernel
theorem dX11_out_51 : decode cX11_out 51 = .ok (.iload 5, 2) := by decide +kernel
theorem dX11_out_53 : decode cX11_out 53 = .ok (.ireturn, 1) := by decide +kernel
theorem dX11_out_54 : decode cX11_out 54 = .ok (.iconst 0, 1) := by decide +kernel
theorem dX11_out_55 : decode cX11_out 55 = .ok (.istore 6, 2) := by decide +kernel
theorem dX11_out_57 : decode cX11_out 57 = .ok (.iload 6, 2) := by decide +kernel
theorem dX11_out_59 : decode cX11_out 59 = .ok (.iload_n 3, 1) := by decide +kernel
theorem dX11_out_60 : decode cX11_out 60 = .ok (.if_icmp .ge 23, 3) := by decide +kernel
theorem dX11_out_63 : decode cX11_out 63 = .ok (.aload_n 0, 1) := by decide +kernel
theorem dX11_out_64 : decode cX11_out 64 = .ok (.getfield 74, 3) := by decide +kernel
theorem dX11_out_67 : decode cX11_out 67 = .ok (.iload 6, 2) := by decide +kernel
theorem dX11_out_69 : decode cX11_out 69 = .ok (.aload_n 0, 1) := by decide +kernel
theorem dX11_out_70 : decode cX11_out 70 = .ok (.getfield 71, 3) := by decide +kernel
theorem dX11_out_73 : decode cX11_out 73 = .ok (.iload 6, 2) := by decide +kernel
theorem dX11_out_75 : decode cX11_out 75 = .ok (.iaload, 1) := by decide +kernel
theorem dX11_out_76 : decode cX11_out 76 = .ok (.iastore, 1) := by decide +kernel
theorem dX11_out_77 : decode cX11_out 77 = .ok (.iinc 6 1, 3) := by decide +kernel
theorem dX11_out_80 : decode cX11_out 80 = .ok (.goto (-23), 3) := by decide +kernel
theorem dX11_out_83 : decode cX11_out 83 = .ok (.ldc_w 382, 3) := by decide +kernel
theorem dX11_out_86 : decode cX11_out 86 = .ok (.istore 5, 2) := by decide +kernel
theorem dX11_out_88 : decode cX11_out 88 = .ok (.iconst 0, 1) := by decide +kernel
theorem dX11_out_89 : decode cX11_out 89 = .ok (.istore 6, 2) := by decide +kernel
theorem dX11_out_91 : decode cX11_out 91 = .ok (.iload 6, 2) := by decide +kernel
theorem dX11_out_93 : decode cX11_out 93 = .ok (.iload_n 3, 1) := by decide +kernel
theorem dX11_out_94 : decode cX11_out 94 = .ok (.if_icmp .ge 62, 3) := by decide +kernel
theorem dX11_out_97 : decode cX11_out 97 = .ok (.iload 4, 2) := by decide +kernel
theorem dX11_out_99 : decode cX11_out 99 = .ok (.iload 6, 2) := by decide +kernel
theorem dX11_out_101 : decode cX11_out 101 = .ok (.iconst (-1), 1) := by decide +kernel
theorem dX11_out_102 : decode cX11_out 102 = .ok (.ixor, 1) := by decide +kernel
theorem dX11_out_103 : decode cX11_out 103 = .ok (.iand, 1) := by decide +kernel
theorem dX11_out_104 : decode cX11_out 104 = .ok (.ifCond .ne 46, 3) := by decide +kernel
theorem dX11_out_107 : decode cX11_out 107 = .ok (.aload_n 0, 1) := by decide +kernel
theorem dX11_out_108 : decode cX11_out 108 = .ok (.getfield 74, 3) := by decide +kernel
theorem dX11_out_111 : decode cX11_out 111 = .ok (.iload 6, 2) := by decide +kernel
theorem dX11_out_113 : decode cX11_out 113 = .ok (.iaload, 1) := by decide +kernel
theorem dX11_out_114 : decode cX11_out 114 = .ok (.ldc_w 382, 3) := by decide +kernel
theorem dX11_out_117 : decode cX11_out 117 = .ok (.if_icmp .ne 6, 3) := by decide +kernel
theorem dX11_out_120 : decode cX11_out 120 = .ok (.goto 30, 3) := by decide +kernel
theorem dX11_out_123 : decode cX11_out 123 = .ok (.aload_n 0, 1) := by decide +kernel
theorem dX11_out_124 : decode cX11_out 124 = .ok (.iload 6, 2) := by decide +kernel
theorem dX11_out_126 : decode cX11_out 126 = .ok (.invokevirtual 389, 3) := by decide +kernel
theorem dX11_out_129 : decode cX11_out 129 = .ok (.iload 5, 2) := by decide +kernel
theorem dX11_out_131 : decode cX11_out 131 = .ok (.aload_n 0, 1) := by decide +kernel
theorem dX11_out_132 : decode cX11_out 132 = .ok (.getfield 74, 3) := by decide +kernel
theorem dX11_out_135 : decode cX11_out 135 = .ok (.iload 6, 2) := by decide +kernel
theorem dX11_out_137 : decode cX11_out 137 = .ok (.iaload, 1) := by decide +kernel
theorem dX11_out_138 : decode cX11_out 138 = .ok (.aload_n 0, 1) := by decide +kernel
theorem dX11_out_139 : decode cX11_out 139 = .ok (.getfield 71, 3) := by decide +kernel
theorem dX11_out_142 : decode cX11_out 142 = .ok (.iconst 0, 1) := by decide +kernel
theorem dX11_out_143 : decode cX11_out 143 = .ok (.iaload, 1) := by decide +kernel
theorem dX11_out_144 : decode cX11_out 144 = .ok (.iadd, 1) := by decide +kernel
theorem dX11_out_145 : decode cX11_out 145 = .ok (.invokestatic 386, 3) := by decide +kernel
theorem dX11_out_148 : decode cX11_out 148 = .ok (.istore 5, 2) := by decide +kernel
theorem dX11_out_150 : decode cX11_out 150 = .ok (.iinc 6 1, 3) := by decide +kernel
theorem dX11_out_153 : decode cX11_out 153 = .ok (.goto (-62), 3) := by decide +kernel
theorem dX11_out_156 : decode cX11_out 156 = .ok (.iload 5, 2) := by decide +kernel
theorem dX11_out_158 : decode cX11_out 158 = .ok (.ldc_w 382, 3) := by decide +kernel
theorem dX11_out_161 : decode cX11_out 161 = .ok (.if_icmp .lt 7, 3) := by decide +kernel
theorem dX11_out_164 : decode cX11_out 164 = .ok (.iconst (-1), 1) := by decide +kernel
theorem dX11_out_165 : decode cX11_out 165 = .ok (.goto 5, 3) := by decide +kernel
theorem dX11_out_168 : decode cX11_out 168 = .ok (.iload 5, 2) := by decide +kernel
theorem dX11_out_170 : decode cX11_out 170 = .ok (.ireturn, 1) := by decide +kernel
theorem dX11_first_0 : decode cX11_first 0 = .ok (.aload_n 0, 1) := by decide +kernel
theorem dX11_first_1 : decode cX11_first 1 = .ok (.iconst 0, 1) := by decide +kernel
theorem dX11_first_2 : decode cX11_first 2 = .ok (.putfield 3, 3) := by decide +kernel
theorem dX11_first_5 : decode cX11_first 5 = .ok (.iload_n 1, 1) := by decide +kernel
theorem dX11_first_6 : decode cX11_first 6 = .ok (.iconst 1, 1) := by decide +kernel
theorem dX11_first_7 : decode cX11_first 7 = .ok (.aload_n 0, 1) := by decide +kernel
theorem dX11_first_8 : decode cX11_first 8 = .ok (.getfield 13, 3) := by decide +kernel
theorem dX11_first_11 : decode cX11_first 11 = .ok (.bipush 9, 2) := by decide +kernel
theorem dX11_first_13 : decode cX11_first 13 = .ok (.iaload, 1) := by decide +kernel
theorem dX11_first_14 : decode cX11_first 14 = .ok (.ishl, 1) := by decide +kernel
theorem dX11_first_15 : decode cX11_first 15 = .ok (.iconst 1, 1) := by decide +kernel
theorem dX11_first_16 : decode cX11_first 16 = .ok (.isub, 1) := by decide +kernel
theorem dX11_first_17 : decode cX11_first 17 = .ok (.iand, 1) := by decide +kernel
theorem dX11_first_18 : decode cX11_first 18 = .ok (.istore_n 2, 1) := by decide +kernel
theorem dX11_first_19 : decode cX11_first 19 = .ok (.aload_n 0, 1) := by decide +kernel
theorem dX11_first_20 : decode cX11_first 20 = .ok (.iconst 0, 1) := by decide +kernel
theorem dX11_first_21 : decode cX11_first 21 = .ok (.invokevirtual 389, 3) := by decide +kernel
theorem dX11_first_24 : decode cX11_first 24 = .ok (.aload_n 0, 1) := by decide +kernel
theorem dX11_first_25 : decode cX11_first 25 = .ok (.iload_n 2, 1) := by decide +kernel
theorem dX11_first_26 : decode cX11_first 26 = .ok (.invokevirtual 392, 3) := by decide +kernel
theorem dX11_first_29 : decode cX11_first 29 = .ok (.istore_n 3, 1) := by decide +kernel
theorem dX11_first_30 : decode cX11_first 30 = .ok (.iload_n 2, 1) := by decide +kernel
theorem dX11_first_31 : decode cX11_first 31 = .ok (.ifCond .eq 10, 3) := by decide +kernel
theorem dX11_first_34 : decode cX11_first 34 = .ok (.iload_n 3, 1) := by decide +kernel
theorem dX11_first_35 : decode cX11_first 35 = .ok (.ldc_w 382, 3) := by decide +kernel
theorem dX11_first_38 : decode cX11_first 38 = .ok (.if_icmp .ne 5, 3) := by decide +kernel
theorem dX11_first_41 : decode cX11_first 41 = .ok (.iconst (-1), 1) := by decide +kernel
theorem dX11_first_42 : decode cX11_first 42 = .ok (.ireturn, 1) := by decide +kernel
theorem dX11_first_43 : decode cX11_first 43 = .ok (.iconst 0, 1) := by decide +kernel
theorem dX11_first_44 : decode cX11_first 44 = .ok (.istore 4, 2) := by decide +kernel
theorem dX11_first_46 : decode cX11_first 46 = .ok (.iload 4, 2) := by decide +kernel
theorem dX11_first_48 : decode cX11_first 48 = .ok (.aload_n 0, 1) := by decide +kernel
theorem dX11_first_49 : decode cX11_first 49 = .ok (.getfield 13, 3) := by decide +kernel
theorem dX11_first_52 : decode cX11_first 52 = .ok (.bipush 9, 2) := by decide +kernel
theorem dX11_first_54 : decode cX11_first 54 = .ok (.iaload, 1) := by decide +kernel
theorem dX11_first_55 : decode cX11_first 55 = .ok (.if_icmp .ge 56, 3) := by decide +kernel
theorem dX11_first_58 : decode cX11_first 58 = .ok (.aload_n 0, 1) := by decide +kernel
theorem dX11_first_59 : decode cX11_first 59 = .ok (.iconst 0, 1) := by decide +kernel
theorem dX11_first_60 : decode cX11_first 60 = .ok (.iload 4, 2) := by decide +kernel
theorem dX11_first_62 : decode cX11_first 62 = .ok (.invokevirtual 383, 3) := by decide +kernel
theorem dX11_first_65 : decode cX11_first 65 = .ok (.ifCond .ne 6, 3) := by decide +kernel
theorem dX11_first_68 : decode cX11_first 68 = .ok (.goto 37, 3) := by decide +kernel
theorem dX11_first_71 : decode cX11_first 71 = .ok (.aload_n 0, 1) := by decide +kernel
theorem dX11_first_72 : decode cX11_first 72 = .ok (.iconst 1, 1) := by decide +kernel
theorem dX11_first_73 : decode cX11_first 73 = .ok (.iload 4, 2) := by decide +kernel
theorem dX11_first_75 : decode cX11_first 75 = .ok (.ishl, 1) := by decide +kernel
theorem dX11_first_76 : decode cX11_first 76 = .ok (.invokevirtual 389, 3) := by decide +kernel
theorem dX11_first_79 : decode cX11_first 79 = .ok (.aload_n 0, 1) := by decide +kernel
theorem dX11_first_80 : decode cX11_first 80 = .ok (.getfield 13, 3) := by decide +kernel
theorem dX11_first_83 : decode cX11_first 83 = .ok (.sipush 213, 3) := by decide +kernel
theorem dX11_first_86 : decode cX11_first 86 = .ok (.iconst 4, 1) := by decide +kernel
theorem dX11_first_87 : decode cX11_first 87 = .ok (.iload 4, 2) := by decide +kernel
theorem dX11_first_89 : decode cX11_first 89 = .ok (.imul, 1) := by decide +kernel
theorem dX11_first_90 : decode cX11_first 90 = .ok (.iadd, 1) := by decide +kernel
theorem dX11_first_91 : decode cX11_first 91 = .ok (.iaload, 1) := by decide +kernel
theorem dX11_first_92 : decode cX11_first 92 = .ok (.aload_n 0, 1) := by decide +kernel
theorem dX11_first_93 : decode cX11_first 93 = .ok (.iload_n 2, 1) := by decide +kernel
theorem dX11_first_94 : decode cX11_first 94 = .ok (.invokevirtual 392, 3) := by decide +kernel
theorem dX11_first_97 : decode cX11_first 97 = .ok (.iadd, 1) := by decide +kernel
theorem dX11_first_98 : decode cX11_first 98 = .ok (.iload_n 3, 1) := by decide +kernel
theorem dX11_first_99 : decode cX11_first 99 = .ok (.if_icmp .ne 6, 3) := by decide +kernel
theorem dX11_first_102 : decode cX11_first 102 = .ok (.iload 4, 2) := by decide +kernel
theorem dX11_first_104 : decode cX11_first 104 = .ok (.ireturn, 1) := by decide +kernel
theorem dX11_first_105 : decode cX11_first 105 = .ok (.iinc 4 1, 3) := by decide +kernel
theorem dX11_first_108 : decode cX11_first 108 = .ok (.goto (-62), 3) := by decide +kernel
theorem dX11_first_111 : decode cX11_first 111 = .ok (.iconst (-1), 1) := by decide +kernel
theorem dX11_first_112 : decode cX11_first 112 = .ok (.ireturn, 1) := by decide +kernel
theorem dX11_tale_0 : decode cX11_tale 0 = .ok (.aload_n 0, 1) := by decide +kernel
theorem dX11_tale_1 : decode cX11_tale 1 = .ok (.iconst 0, 1) := by decide +kernel
theorem dX11_tale_2 : decode cX11_tale 2 = .ok (.putfield 3, 3) := by decide +kernel
theorem dX11_tale_5 : decode cX11_tale 5 = .ok (.aload_n 0, 1) := by decide +kernel
theorem dX11_tale_6 : decode cX11_tale 6 = .ok (.iload_n 1, 1) := by decide +kernel
theorem dX11_tale_7 : decode cX11_tale 7 = .ok (.iconst 0, 1) := by decide +kernel
theorem dX11_tale_8 : decode cX11_tale 8 = .ok (.sipush 9999, 3) := by decide +kernel
theorem dX11_tale_11 : decode cX11_tale 11 = .ok (.invokestatic 81, 3) := by decide +kernel
theorem dX11_tale_14 : decode cX11_tale 14 = .ok (.ifCond .eq 23, 3) := by decide +kernel
theorem dX11_tale_17 : decode cX11_tale 17 = .ok (.iload_n 2, 1) := by decide +kernel
theorem dX11_tale_18 : decode cX11_tale 18 = .ok (.iconst 0, 1) := by decide +kernel
theorem dX11_tale_19 : decode cX11_tale 19 = .ok (.bipush 100, 2) := by decide +kernel
theorem dX11_tale_21 : decode cX11_tale 21 = .ok (.invokestatic 81, 3) := by decide +kernel
theorem dX11_tale_24 : decode cX11_tale 24 = .ok (.ifCond .eq 13, 3) := by decide +kernel
theorem dX11_tale_27 : decode cX11_tale 27 = .ok (.iload_n 3, 1) := by decide +kernel
theorem dX11_tale_28 : decode cX11_tale 28 = .ok (.iconst 0, 1) := by decide +kernel
theorem dX11_tale_29 : decode cX11_tale 29 = .ok (.bipush 20, 2) := by decide +kernel
theorem dX11_tale_31 : decode cX11_tale 31 = .ok (.invokestatic 81, 3) := by decide +kernel
theorem dX11_tale_34 : decode cX11_tale 34 = .ok (.ifCond .ne 7, 3) := by decide +kernel
theorem dX11_tale_37 : decode cX11_tale 37 = .ok (.iconst 1, 1) := by decide +kernel
theorem dX11_tale_38 : decode cX11_tale 38 = .ok (.goto 4, 3) := by decide +kernel
theorem dX11_tale_41 : decode cX11_tale 41 = .ok (.iconst 0, 1) := by decide +kernel
theorem dX11_tale_42 : decode cX11_tale 42 = .ok (.iconst 1, 1) := by decide +kernel
theorem dX11_tale_43 : decode cX11_tale 43 = .ok (.invokevirtual 85, 3) := by decide +kernel
theorem dX11_tale_46 : decode cX11_tale 46 = .ok (.ifCond .eq 5, 3) := by decide +kernel
theorem dX11_tale_49 : decode cX11_tale 49 = .ok (.iconst 0, 1) := by decide +kernel
theorem dX11_tale_50 : decode cX11_tale 50 = .ok (.ireturn, 1) := by decide +kernel
theorem dX11_tale_51 : decode cX11_tale 51 = .ok (.iload_n 1, 1) := by decide +kernel
theorem dX11_tale_52 : decode cX11_tale 52 = .ok (.i2l, 1) := by decide +kernel
theorem dX11_tale_53 : decode cX11_tale 53 = .ok (.lstore 4, 2) := by decide +kernel
theorem dX11_tale_55 : decode cX11_tale 55 = .ok (.iconst 0, 1) := by decide +kernel
theorem dX11_tale_56 : decode cX11_tale 56 = .ok (.istore 6, 2) := by decide +kernel
theorem dX11_tale_58 : decode cX11_tale 58 = .ok (.iload 6, 2) := by decide +kernel
theorem dX11_tale_60 : decode cX11_tale 60 = .ok (.iload_n 3, 1) := by decide +kernel
theorem dX11_tale_61 : decode cX11_tale 61 = .ok (.if_icmp .ge 33, 3) := by decide +kernel
theorem dX11_tale_64 : decode cX11_tale 64 = .ok (.ldc2_w 395, 3) := by decide +kernel
theorem dX11_tale_67 : decode cX11_tale 67 = .ok (.lload 4, 2) := by decide +kernel
theorem dX11_tale_69 : decode cX11_tale 69 = .ok (.lload 4, 2) := by decide +kernel
theorem dX11_tale_71 : decode cX11_tale 71 = .ok (.iload_n 2, 1) := by decide +kernel
theorem dX11_tale_72 : decode cX11_tale 72 = .ok (.i2l, 1) := by decide +kernel
theorem dX11_tale_73 : decode cX11_tale 73 = .ok (.lmul, 1) := by decide +kernel
theorem dX11_tale_74 : decode cX11_tale 74 = .ok (.ldc2_w 397, 3) := by decide +kernel
theorem dX11_tale_77 : decode cX11_tale 77 = .ok (.ladd, 1) := by decide +kernel
theorem dX11_tale_78 : decode cX11_tale 78 = .ok (.ldc2_w 399, 3) := by decide +kernel
theorem dX11_tale_81 : decode cX11_tale 81 = .ok (.ldiv, 1) := by decide +kernel
theorem dX11_tale_82 : decode cX11_tale 82 = .ok (.ladd, 1) := by decide +kernel
theorem dX11_tale_83 : decode cX11_tale 83 = .ok (.invokestatic 401, 3) := by decide +kernel
theorem dX11_tale_86 : decode cX11_tale 86 = .ok (.lstore 4, 2) := by decide +kernel
theorem dX11_tale_88 : decode cX11_tale 88 = .ok (.iinc 6 1, 3) := by decide +kernel
theorem dX11_tale_91 : decode cX11_tale 91 = .ok (.goto (-33), 3) := by decide +kernel
theorem dX11_tale_94 : decode cX11_tale 94 = .ok (.lload 4, 2) := by decide +kernel
theorem dX11_tale_96 : decode cX11_tale 96 = .ok (.l2i, 1) := by decide +kernel
theorem dX11_tale_97 : decode cX11_tale 97 = .ok (.ireturn, 1) := by decide +kernel
theorem dX11_cold_0 : decode cX11_cold 0 = .ok (.aload_n 0, 1) := by decide +kernel
theorem dX11_cold_1 : decode cX11_cold 1 = .ok (.iconst 0, 1) := by decide +kernel
theorem dX11_cold_2 : decode cX11_cold 2 = .ok (.putfield 3, 3) := by decide +kernel
theorem dX11_cold_5 : decode cX11_cold 5 = .ok (.aload_n 0, 1) := by decide +kernel
theorem dX11_cold_6 : decode cX11_cold 6 = .ok (.iload_n 1, 1) := by decide +kernel
theorem dX11_cold_7 : decode cX11_cold 7 = .ok (.iconst 0, 1) := by decide +kernel
theorem dX11_cold_8 : decode cX11_cold 8 = .ok (.sipush 255, 3) := by decide +kernel
theorem dX11_cold_11 : decode cX11_cold 11 = .ok (.invokestatic 81, 3) := by decide +kernel
theorem dX11_cold_14 : decode cX11_cold 14 = .ok (.ifCond .eq 23, 3) := by decide +kernel
theorem dX11_cold_17 : decode cX11_cold 17 = .ok (.iload_n 2, 1) := by decide +kernel
theorem dX11_cold_18 : decode cX11_cold 18 = .ok (.iconst 0, 1) := by decide +kernel
theorem dX11_cold_19 : decode cX11_cold 19 = .ok (.bipush 99, 2) := by decide +kernel
theorem dX11_cold_21 : decode cX11_cold 21 = .ok (.invokestatic 81, 3) := by decide +kernel
theorem dX11_cold_24 : decode cX11_cold 24 = .ok (.ifCond .eq 13, 3) := by decide +kernel
theorem dX11_cold_27 : decode cX11_cold 27 = .ok (.iload_n 3, 1) := by decide +kernel
theorem dX11_cold_28 : decode cX11_cold 28 = .ok (.iconst 0, 1) := by decide +kernel
theorem dX11_cold_29 : decode cX11_cold 29 = .ok (.bipush 7, 2) := by decide +kernel
theorem dX11_cold_31 : decode cX11_cold 31 = .ok (.invokestatic 81, 3) := by decide +kernel
theorem dX11_cold_34 : decode cX11_cold 34 = .ok (.ifCond .ne 7, 3) := by decide +kernel
theorem dX11_cold_37 : decode cX11_cold 37 = .ok (.iconst 1, 1) := by decide +kernel
theorem dX11_cold_38 : decode cX11_cold 38 = .ok (.goto 4, 3) := by decide +kernel
theorem dX11_cold_41 : decode cX11_cold 41 = .ok (.iconst 0, 1) := by decide +kernel
theorem dX11_cold_42 : decode cX11_cold 42 = .ok (.iconst 1, 1) := by decide +kernel
theorem dX11_cold_43 : decode cX11_cold 43 = .ok (.invokevirtual 85, 3) := by decide +kernel
theorem dX11_cold_46 : decode cX11_cold 46 = .ok (.ifCond .eq 5, 3) := by decide +kernel
theorem dX11_cold_49 : decode cX11_cold 49 = .ok (.iconst 0, 1) := by decide +kernel
theorem dX11_cold_50 : decode cX11_cold 50 = .ok (.ireturn, 1) := by decide +kernel
theorem dX11_cold_51 : decode cX11_cold 51 = .ok (.iconst 0, 1) := by decide +kernel
theorem dX11_cold_52 : decode cX11_cold 52 = .ok (.istore 4, 2) := by decide +kernel
theorem dX11_cold_54 : decode cX11_cold 54 = .ok (.iconst 0, 1) := by decide +kernel
theorem dX11_cold_55 : decode cX11_cold 55 = .ok (.istore 5, 2) := by decide +kernel
theorem dX11_cold_57 : decode cX11_cold 57 = .ok (.iload 5, 2) := by decide +kernel
theorem dX11_cold_59 : decode cX11_cold 59 = .ok (.bipush 8, 2) := by decide +kernel
theorem dX11_cold_61 : decode cX11_cold 61 = .ok (.if_icmp .ge 49, 3) := by decide +kernel
theorem dX11_cold_64 : decode cX11_cold 64 = .ok (.iload 5, 2) := by decide +kernel
theorem dX11_cold_66 : decode cX11_cold 66 = .ok (.iload_n 3, 1) := by decide +kernel
theorem dX11_cold_67 : decode cX11_cold 67 = .ok (.isub, 1) := by decide +kernel
theorem dX11_cold_68 : decode cX11_cold 68 = .ok (.invokestatic 404, 3) := by decide +kernel
theorem dX11_cold_71 : decode cX11_cold 71 = .ok (.istore 6, 2) := by decide +kernel
theorem dX11_cold_73 : decode cX11_cold 73 = .ok (.iload_n 1, 1) := by decide +kernel
theorem dX11_cold_74 : decode cX11_cold 74 = .ok (.iload 5, 2) := by decide +kernel
theorem dX11_cold_76 : decode cX11_cold 76 = .ok (.ishr, 1) := by decide +kernel
theorem dX11_cold_77 : decode cX11_cold 77 = .ok (.iconst 1, 1) := by decide +kernel
theorem dX11_cold_78 : decode cX11_cold 78 = .ok (.iand, 1) := by decide +kernel
theorem dX11_cold_79 : decode cX11_cold 79 = .ok (.iconst 1, 1) := by decide +kernel
theorem dX11_cold_80 : decode cX11_cold 80 = .ok (.if_icmp .ne 24, 3) := by decide +kernel
theorem dX11_cold_83 : decode cX11_cold 83 = .ok (.iload 4, 2) := by decide +kernel
theorem dX11_cold_85 : decode cX11_cold 85 = .ok (.iload_n 2, 1) := by decide +kernel
theorem dX11_cold_86 : decode cX11_cold 86 = .ok (.iconst 2, 1) := by decide +kernel
theorem dX11_cold_87 : decode cX11_cold 87 = .ok (.iload 6, 2) := by decide +kernel
theorem dX11_cold_89 : decode cX11_cold 89 = .ok (.bipush 8, 2) := by decide +kernel
theorem dX11_cold_91 : decode cX11_cold 91 = .ok (.iload 6, 2) := by decide +kernel
theorem dX11_cold_93 : decode cX11_cold 93 = .ok (.isub, 1) := by decide +kernel
theorem dX11_cold_94 : decode cX11_cold 94 = .ok (.invokestatic 386, 3) := by decide +kernel
theorem dX11_cold_97 : decode cX11_cold 97 = .ok (.imul, 1) := by decide +kernel
theorem dX11_cold_98 : decode cX11_cold 98 = .ok (.isub, 1) := by decide +kernel
theorem dX11_cold_99 : decode cX11_cold 99 = .ok (.invokestatic 291, 3) := by decide +kernel
theorem dX11_cold_102 : decode cX11_cold 102 = .ok (.istore 4, 2) := by decide +kernel
theorem dX11_cold_104 : decode cX11_cold 104 = .ok (.iinc 5 1, 3) := by decide +kernel
theorem dX11_cold_107 : decode cX11_cold 107 = .ok (.goto (-50), 3) := by decide +kernel
theorem dX11_cold_110 : decode cX11_cold 110 = .ok (.iload 4, 2) := by decide +kernel
theorem dX11_cold_112 : decode cX11_cold 112 = .ok (.ireturn, 1) := by decide +kernel
theorem dX11_count_0 : decode cX11_count 0 = .ok (.aload_n 0, 1) := by decide +kernel
theorem dX11_count_1 : decode cX11_count 1 = .ok (.iconst 0, 1) := by decide +kernel
theorem dX11_count_2 : decode cX11_count 2 = .ok (.putfield 3, 3) := by decide +kernel
theorem dX11_count_5 : decode cX11_count 5 = .ok (.iload_n 1, 1) := by decide +kernel
theorem dX11_count_6 : decode cX11_count 6 = .ok (.iconst 0, 1) := by decide +kernel
theorem dX11_count_7 : decode cX11_count 7 = .ok (.bipush 9, 2) := by decide +kernel
theorem dX11_count_9 : decode cX11_count 9 = .ok (.invokestatic 81, 3) := by decide +kernel
theorem dX11_count_12 : decode cX11_count 12 = .ok (.ifCond .eq 12, 3) := by decide +kernel
theorem dX11_count_15 : decode cX11_count 15 = .ok (.aload_n 0, 1) := by decide +kernel
theorem dX11_count_16 : decode cX11_count 16 = .ok (.getfield 13, 3) := by decide +kernel
theorem dX11_count_19 : decode cX11_count 19 = .ok (.iload_n 1, 1) := by decide +kernel
theorem dX11_count_20 : decode cX11_count 20 = .ok (.iaload, 1) := by decide +kernel
theorem dX11_count_21 : decode cX11_count 21 = .ok (.goto 4, 3) := by decide +kernel
theorem dX11_count_24 : decode cX11_count 24 = .ok (.iconst (-1), 1) := by decide +kernel
theorem dX11_count_25 : decode cX11_count 25 = .ok (.ireturn, 1) := by decide +kernel
