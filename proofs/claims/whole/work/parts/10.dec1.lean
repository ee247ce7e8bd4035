theorem dX0_init_0 : decode cX0_init 0 = .ok (.aload_n 0, 1) := by decide +kernel
theorem dX0_init_1 : decode cX0_init 1 = .ok (.invokespecial 3, 3) := by decide +kernel
theorem dX0_init_4 : decode cX0_init 4 = .ok (.aload_n 0, 1) := by decide +kernel
theorem dX0_init_5 : decode cX0_init 5 = .ok (.new 9, 3) := by decide +kernel
theorem dX0_init_8 : decode cX0_init 8 = .ok (.dup, 1) := by decide +kernel
theorem dX0_init_9 : decode cX0_init 9 = .ok (.bipush 8, 2) := by decide +kernel
theorem dX0_init_11 : decode cX0_init 11 = .ok (.iconst 2, 1) := by decide +kernel
theorem dX0_init_12 : decode cX0_init 12 = .ok (.invokespecial 11, 3) := by decide +kernel
theorem dX0_init_15 : decode cX0_init 15 = .ok (.putfield 14, 3) := by decide +kernel
theorem dX0_init_18 : decode cX0_init 18 = .ok (.aload_n 0, 1) := by decide +kernel
theorem dX0_init_19 : decode cX0_init 19 = .ok (.iconst 4, 1) := by decide +kernel
theorem dX0_init_20 : decode cX0_init 20 = .ok (.anewarray 20, 3) := by decide +kernel
theorem dX0_init_23 : decode cX0_init 23 = .ok (.putfield 22, 3) := by decide +kernel
theorem dX0_init_26 : decode cX0_init 26 = .ok (.aload_n 0, 1) := by decide +kernel
theorem dX0_init_27 : decode cX0_init 27 = .ok (.bipush 6, 2) := by decide +kernel
theorem dX0_init_29 : decode cX0_init 29 = .ok (.anewarray 26, 3) := by decide +kernel
theorem dX0_init_32 : decode cX0_init 32 = .ok (.putfield 28, 3) := by decide +kernel
theorem dX0_init_35 : decode cX0_init 35 = .ok (.aload_n 0, 1) := by decide +kernel
theorem dX0_init_36 : decode cX0_init 36 = .ok (.new 9, 3) := by decide +kernel
theorem dX0_init_39 : decode cX0_init 39 = .ok (.dup, 1) := by decide +kernel
theorem dX0_init_40 : decode cX0_init 40 = .ok (.bipush 6, 2) := by decide +kernel
theorem dX0_init_42 : decode cX0_init 42 = .ok (.iconst 3, 1) := by decide +kernel
theorem dX0_init_43 : decode cX0_init 43 = .ok (.invokespecial 11, 3) := by decide +kernel
theorem dX0_init_46 : decode cX0_init 46 = .ok (.putfield 32, 3) := by decide +kernel
theorem dX0_init_49 : decode cX0_init 49 = .ok (.aload_n 0, 1) := by decide +kernel
theorem dX0_init_50 : decode cX0_init 50 = .ok (.new 9, 3) := by decide +kernel
theorem dX0_init_53 : decode cX0_init 53 = .ok (.dup, 1) := by decide +kernel
theorem dX0_init_54 : decode cX0_init 54 = .ok (.bipush 10, 2) := by decide +kernel
theorem dX0_init_56 : decode cX0_init 56 = .ok (.iconst 2, 1) := by decide +kernel
theorem dX0_init_57 : decode cX0_init 57 = .ok (.invokespecial 11, 3) := by decide +kernel
theorem dX0_init_60 : decode cX0_init 60 = .ok (.putfield 35, 3) := by decide +kernel
theorem dX0_init_63 : decode cX0_init 63 = .ok (.aload_n 0, 1) := by decide +kernel
theorem dX0_init_64 : decode cX0_init 64 = .ok (.new 9, 3) := by decide +kernel
theorem dX0_init_67 : decode cX0_init 67 = .ok (.dup, 1) := by decide +kernel
theorem dX0_init_68 : decode cX0_init 68 = .ok (.iconst 4, 1) := by decide +kernel
theorem dX0_init_69 : decode cX0_init 69 = .ok (.iconst 3, 1) := by decide +kernel
theorem dX0_init_70 : decode cX0_init 70 = .ok (.invokespecial 11, 3) := by decide +kernel
theorem dX0_init_73 : decode cX0_init 73 = .ok (.putfield 38, 3) := by decide +kernel
theorem dX0_init_76 : decode cX0_init 76 = .ok (.aload_n 0, 1) := by decide +kernel
theorem dX0_init_77 : decode cX0_init 77 = .ok (.new 9, 3) := by decide +kernel
theorem dX0_init_80 : decode cX0_init 80 = .ok (.dup, 1) := by decide +kernel
theorem dX0_init_81 : decode cX0_init 81 = .ok (.iconst 5, 1) := by decide +kernel
theorem dX0_init_82 : decode cX0_init 82 = .ok (.iconst 3, 1) := by decide +kernel
theorem dX0_init_83 : decode cX0_init 83 = .ok (.invokespecial 11, 3) := by decide +kernel
theorem dX0_init_86 : decode cX0_init 86 = .ok (.putfield 41, 3) := by decide +kernel
theorem dX0_init_89 : decode cX0_init 89 = .ok (.aload_n 0, 1) := by decide +kernel
theorem dX0_init_90 : decode cX0_init 90 = .ok (.new 9, 3) := by decide +kernel
theorem dX0_init_93 : decode cX0_init 93 = .ok (.dup, 1) := by decide +kernel
theorem dX0_init_94 : decode cX0_init 94 = .ok (.bipush 12, 2) := by decide +kernel
theorem dX0_init_96 : decode cX0_init 96 = .ok (.iconst 5, 1) := by decide +kernel
theorem dX0_init_97 : decode cX0_init 97 = .ok (.invokespecial 11, 3) := by decide +kernel
theorem dX0_init_100 : decode cX0_init 100 = .ok (.putfield 44, 3) := by decide +kernel
theorem dX0_init_103 : decode cX0_init 103 = .ok (.aload_n 0, 1) := by decide +kernel
theorem dX0_init_104 : decode cX0_init 104 = .ok (.new 9, 3) := by decide +kernel
theorem dX0_init_107 : decode cX0_init 107 = .ok (.dup, 1) := by decide +kernel
theorem dX0_init_108 : decode cX0_init 108 = .ok (.bipush 20, 2) := by decide +kernel
theorem dX0_init_110 : decode cX0_init 110 = .ok (.iconst 3, 1) := by decide +kernel
theorem dX0_init_111 : decode cX0_init 111 = .ok (.invokespecial 11, 3) := by decide +kernel
theorem dX0_init_114 : decode cX0_init 114 = .ok (.putfield 47, 3) := by decide +kernel
theorem dX0_init_117 : decode cX0_init 117 = .ok (.aload_n 0, 1) := by decide +kernel
theorem dX0_init_118 : decode cX0_init 118 = .ok (.new 9, 3) := by decide +kernel
theorem dX0_init_121 : decode cX0_init 121 = .ok (.dup, 1) := by decide +kernel
theorem dX0_init_122 : decode cX0_init 122 = .ok (.bipush 6, 2) := by decide +kernel
theorem dX0_init_124 : decode cX0_init 124 = .ok (.iconst 4, 1) := by decide +kernel
theorem dX0_init_125 : decode cX0_init 125 = .ok (.invokespecial 11, 3) := by decide +kernel
theorem dX0_init_128 : decode cX0_init 128 = .ok (.putfield 50, 3) := by decide +kernel
theorem dX0_init_131 : decode cX0_init 131 = .ok (.iconst 0, 1) := by decide +kernel
theorem dX0_init_132 : decode cX0_init 132 = .ok (.istore_n 1, 1) := by decide +kernel
theorem dX0_init_133 : decode cX0_init 133 = .ok (.iload_n 1, 1) := by decide +kernel
theorem dX0_init_134 : decode cX0_init 134 = .ok (.iconst 4, 1) := by decide +kernel
theorem dX0_init_135 : decode cX0_init 135 = .ok (.if_icmp .ge 25, 3) := by decide +kernel
theorem dX0_init_138 : decode cX0_init 138 = .ok (.aload_n 0, 1) := by decide +kernel
theorem dX0_init_139 : decode cX0_init 139 = .ok (.getfield 22, 3) := by decide +kernel
theorem dX0_init_142 : decode cX0_init 142 = .ok (.iload_n 1, 1) := by decide +kernel
theorem dX0_init_143 : decode cX0_init 143 = .ok (.new 20, 3) := by decide +kernel
theorem dX0_init_146 : decode cX0_init 146 = .ok (.dup, 1) := by decide +kernel
theorem dX0_init_147 : decode cX0_init 147 = .ok (.iconst 0, 1) := by decide +kernel
theorem dX0_init_148 : decode cX0_init 148 = .ok (.newarray .int, 2) := by decide +kernel
theorem dX0_init_150 : decode cX0_init 150 = .ok (.invokespecial 53, 3) := by decide +kernel
theorem dX0_init_153 : decode cX0_init 153 = .ok (.aastore, 1) := by decide +kernel
theorem dX0_init_154 : decode cX0_init 154 = .ok (.iinc 1 1, 3) := by decide +kernel
theorem dX0_init_157 : decode cX0_init 157 = .ok (.goto (-24), 3) := by decide +kernel
theorem dX0_init_160 : decode cX0_init 160 = .ok (.iconst 0, 1) := by decide +kernel
theorem dX0_init_161 : decode cX0_init 161 = .ok (.istore_n 1, 1) := by decide +kernel
theorem dX0_init_162 : decode cX0_init 162 = .ok (.iload_n 1, 1) := by decide +kernel
theorem dX0_init_163 : decode cX0_init 163 = .ok (.bipush 6, 2) := by decide +kernel
theorem dX0_init_165 : decode cX0_init 165 = .ok (.if_icmp .ge 28, 3) := by decide +kernel
theorem dX0_init_168 : decode cX0_init 168 = .ok (.aload_n 0, 1) := by decide +kernel
theorem dX0_init_169 : decode cX0_init 169 = .ok (.getfield 28, 3) := by decide +kernel
theorem dX0_init_172 : decode cX0_init 172 = .ok (.iload_n 1, 1) := by decide +kernel
theorem dX0_init_173 : decode cX0_init 173 = .ok (.new 26, 3) := by decide +kernel
theorem dX0_init_176 : decode cX0_init 176 = .ok (.dup, 1) := by decide +kernel
theorem dX0_init_177 : decode cX0_init 177 = .ok (.iconst 0, 1) := by decide +kernel
theorem dX0_init_178 : decode cX0_init 178 = .ok (.iconst 1, 1) := by decide +kernel
theorem dX0_init_179 : decode cX0_init 179 = .ok (.iconst 0, 1) := by decide +kernel
theorem dX0_init_180 : decode cX0_init 180 = .ok (.iconst 0, 1) := by decide +kernel
theorem dX0_init_181 : decode cX0_init 181 = .ok (.newarray .int, 2) := by decide +kernel
theorem dX0_init_183 : decode cX0_init 183 = .ok (.invokespecial 56, 3) := by decide +kernel
theorem dX0_init_186 : decode cX0_init 186 = .ok (.aastore, 1) := by decide +kernel
theorem dX0_init_187 : decode cX0_init 187 = .ok (.iinc 1 1, 3) := by decide +kernel
theorem dX0_init_190 : decode cX0_init 190 = .ok (.goto (-28), 3) := by decide +kernel
theorem dX0_init_193 : decode cX0_init 193 = .ok (.return_, 1) := by decide +kernel
theorem dX0_addRule_0 : decode cX0_addRule 0 = .ok (.aload_n 0, 1) := by decide +kernel
theorem dX0_addRule_1 : decode cX0_addRule 1 = .ok (.getfield 22, 3) := by decide +kernel
theorem dX0_addRule_4 : decode cX0_addRule 4 = .ok (.aload_n 0, 1) := by decide +kernel
theorem dX0_addRule_5 : decode cX0_addRule 5 = .ok (.getfield 59, 3) := by decide +kernel
theorem dX0_addRule_8 : decode cX0_addRule 8 = .ok (.aload_n 1, 1) := by decide +kernel
theorem dX0_addRule_9 : decode cX0_addRule 9 = .ok (.aastore, 1) := by decide +kernel
theorem dX0_addRule_10 : decode cX0_addRule 10 = .ok (.aload_n 0, 1) := by decide +kernel
theorem dX0_addRule_11 : decode cX0_addRule 11 = .ok (.dup, 1) := by decide +kernel
theorem dX0_addRule_12 : decode cX0_addRule 12 = .ok (.getfield 59, 3) := by decide +kernel
theorem dX0_addRule_15 : decode cX0_addRule 15 = .ok (.iconst 1, 1) := by decide +kernel
theorem dX0_addRule_16 : decode cX0_addRule 16 = .ok (.iadd, 1) := by decide +kernel
theorem dX0_addRule_17 : decode cX0_addRule 17 = .ok (.putfield 59, 3) := by decide +kernel
theorem dX0_addRule_20 : decode cX0_addRule 20 = .ok (.aload_n 0, 1) := by decide +kernel
theorem dX0_addRule_21 : decode cX0_addRule 21 = .ok (.getfield 59, 3) := by decide +kernel
theorem dX0_addRule_24 : decode cX0_addRule 24 = .ok (.iconst 1, 1) := by decide +kernel
theorem dX0_addRule_25 : decode cX0_addRule 25 = .ok (.isub, 1) := by decide +kernel
theorem dX0_addRule_26 : decode cX0_addRule 26 = .ok (.ireturn, 1) := by decide +kernel
theorem dX0_addWay_0 : decode cX0_addWay 0 = .ok (.aload_n 0, 1) := by decide +kernel
theorem dX0_addWay_1 : decode cX0_addWay 1 = .ok (.getfield 28, 3) := by decide +kernel
theorem dX0_addWay_4 : decode cX0_addWay 4 = .ok (.aload_n 0, 1) := by decide +kernel
theorem dX0_addWay_5 : decode cX0_addWay 5 = .ok (.getfield 63, 3) := by decide +kernel
theorem dX0_addWay_8 : decode cX0_addWay 8 = .ok (.aload_n 1, 1) := by decide +kernel
theorem dX0_addWay_9 : decode cX0_addWay 9 = .ok (.aastore, 1) := by decide +kernel
theorem dX0_addWay_10 : decode cX0_addWay 10 = .ok (.aload_n 0, 1) := by decide +kernel
theorem dX0_addWay_11 : decode cX0_addWay 11 = .ok (.dup, 1) := by decide +kernel
theorem dX0_addWay_12 : decode cX0_addWay 12 = .ok (.getfield 63, 3) := by decide +kernel
theorem dX0_addWay_15 : decode cX0_addWay 15 = .ok (.iconst 1, 1) := by decide +kernel
theorem dX0_addWay_16 : decode cX0_addWay 16 = .ok (.iadd, 1) := by decide +kernel
theorem dX0_addWay_17 : decode cX0_addWay 17 = .ok (.putfield 63, 3) := by decide +kernel
theorem dX0_addWay_20 : decode cX0_addWay 20 = .ok (.aload_n 0, 1) := by decide +kernel
theorem dX0_addWay_21 : decode cX0_addWay 21 = .ok (.getfield 63, 3) := by decide +kernel
theorem dX0_addWay_24 : decode cX0_addWay 24 = .ok (.iconst 1, 1) := by decide +kernel
theorem dX0_addWay_25 : decode cX0_addWay 25 = .ok (.isub, 1) := by decide +kernel
theorem dX0_addWay_26 : decode cX0_addWay 26 = .ok (.ireturn, 1) := by decide +kernel
theorem dX0_allWays_0 : decode cX0_allWays 0 = .ok (.aload_n 0, 1) := by decide +kernel
theorem dX0_allWays_1 : decode cX0_allWays 1 = .ok (.getfield 63, 3) := by decide +kernel
theorem dX0_allWays_4 : decode cX0_allWays 4 = .ok (.invokestatic 66, 3) := by decide +kernel
theorem dX0_allWays_7 : decode cX0_allWays 7 = .ok (.ireturn, 1) := by decide +kernel
theorem dX0_setsFor_0 : decode cX0_setsFor 0 = .ok (.aload_n 0, 1) := by decide +kernel
theorem dX0_setsFor_1 : decode cX0_setsFor 1 = .ok (.getfield 32, 3) := by decide +kernel
theorem dX0_setsFor_4 : decode cX0_setsFor 4 = .ok (.iload_n 1, 1) := by decide +kernel
theorem dX0_setsFor_5 : decode cX0_setsFor 5 = .ok (.iconst 2, 1) := by decide +kernel
theorem dX0_setsFor_6 : decode cX0_setsFor 6 = .ok (.invokevirtual 70, 3) := by decide +kernel
theorem dX0_setsFor_9 : decode cX0_setsFor 9 = .ok (.istore_n 3, 1) := by decide +kernel
theorem dX0_setsFor_10 : decode cX0_setsFor 10 = .ok (.iload_n 3, 1) := by decide +kernel
theorem dX0_setsFor_11 : decode cX0_setsFor 11 = .ok (.ifCond .le 14, 3) := by decide +kernel
theorem dX0_setsFor_14 : decode cX0_setsFor 14 = .ok (.aload_n 0, 1) := by decide +kernel
theorem dX0_setsFor_15 : decode cX0_setsFor 15 = .ok (.iload_n 2, 1) := by decide +kernel
theorem dX0_setsFor_16 : decode cX0_setsFor 16 = .ok (.invokevirtual 74, 3) := by decide +kernel
theorem dX0_setsFor_19 : decode cX0_setsFor 19 = .ok (.iload_n 3, 1) := by decide +kernel
theorem dX0_setsFor_20 : decode cX0_setsFor 20 = .ok (.if_icmp .ge 5, 3) := by decide +kernel
theorem dX0_setsFor_23 : decode cX0_setsFor 23 = .ok (.iconst 0, 1) := by decide +kernel
theorem dX0_setsFor_24 : decode cX0_setsFor 24 = .ok (.ireturn, 1) := by decide +kernel
theorem dX0_setsFor_25 : decode cX0_setsFor 25 = .ok (.getstatic 77, 3) := by decide +kernel
theorem dX0_setsFor_28 : decode cX0_setsFor 28 = .ok (.aload_n 0, 1) := by decide +kernel
theorem dX0_setsFor_29 : decode cX0_setsFor 29 = .ok (.getfield 32, 3) := by decide +kernel
theorem dX0_setsFor_32 : decode cX0_setsFor 32 = .ok (.iload_n 1, 1) := by decide +kernel
theorem dX0_setsFor_33 : decode cX0_setsFor 33 = .ok (.iconst 0, 1) := by decide +kernel
theorem dX0_setsFor_34 : decode cX0_setsFor 34 = .ok (.invokevirtual 70, 3) := by decide +kernel
theorem dX0_setsFor_37 : decode cX0_setsFor 37 = .ok (.iaload, 1) := by decide +kernel
theorem dX0_setsFor_38 : decode cX0_setsFor 38 = .ok (.getstatic 81, 3) := by decide +kernel
theorem dX0_setsFor_41 : decode cX0_setsFor 41 = .ok (.aload_n 0, 1) := by decide +kernel
theorem dX0_setsFor_42 : decode cX0_setsFor 42 = .ok (.getfield 32, 3) := by decide +kernel
theorem dX0_setsFor_45 : decode cX0_setsFor 45 = .ok (.iload_n 1, 1) := by decide +kernel
theorem dX0_setsFor_46 : decode cX0_setsFor 46 = .ok (.iconst 1, 1) := by decide +kernel
theorem dX0_setsFor_47 : decode cX0_setsFor 47 = .ok (.invokevirtual 70, 3) := by decide +kernel
theorem dX0_setsFor_50 : decode cX0_setsFor 50 = .ok (.iaload, 1) := by decide +kernel
theorem dX0_setsFor_51 : decode cX0_setsFor 51 = .ok (.iand, 1) := by decide +kernel
theorem dX0_setsFor_52 : decode cX0_setsFor 52 = .ok (.ireturn, 1) := by decide +kernel
theorem dX0_greatestReach_0 : decode cX0_greatestReach 0 = .ok (.iconst 0, 1) := by decide +kernel
theorem dX0_greatestReach_1 : decode cX0_greatestReach 1 = .ok (.istore_n 2, 1) := by decide +kernel
theorem dX0_greatestReach_2 : decode cX0_greatestReach 2 = .ok (.iconst 0, 1) := by decide +kernel
theorem dX0_greatestReach_3 : decode cX0_greatestReach 3 = .ok (.istore_n 3, 1) := by decide +kernel
theorem dX0_greatestReach_4 : decode cX0_greatestReach 4 = .ok (.iload_n 3, 1) := by decide +kernel
theorem dX0_greatestReach_5 : decode cX0_greatestReach 5 = .ok (.aload_n 0, 1) := by decide +kernel
theorem dX0_greatestReach_6 : decode cX0_greatestReach 6 = .ok (.getfield 63, 3) := by decide +kernel
theorem dX0_greatestReach_9 : decode cX0_greatestReach 9 = .ok (.if_icmp .ge 31, 3) := by decide +kernel
theorem dX0_greatestReach_12 : decode cX0_greatestReach 12 = .ok (.iload_n 1, 1) := by decide +kernel
theorem dX0_greatestReach_13 : decode cX0_greatestReach 13 = .ok (.iload_n 3, 1) := by decide +kernel
theorem dX0_greatestReach_14 : decode cX0_greatestReach 14 = .ok (.invokestatic 84, 3) := by decide +kernel
theorem dX0_greatestReach_17 : decode cX0_greatestReach 17 = .ok (.ifCond .eq 17, 3) := by decide +kernel
theorem dX0_greatestReach_20 : decode cX0_greatestReach 20 = .ok (.iload_n 2, 1) := by decide +kernel
theorem dX0_greatestReach_21 : decode cX0_greatestReach 21 = .ok (.aload_n 0, 1) := by decide +kernel
theorem dX0_greatestReach_22 : decode cX0_greatestReach 22 = .ok (.getfield 28, 3) := by decide +kernel
theorem dX0_greatestReach_25 : decode cX0_greatestReach 25 = .ok (.iload_n 3, 1) := by decide +kernel
theorem dX0_greatestReach_26 : decode cX0_greatestReach 26 = .ok (.aaload, 1) := by decide +kernel
theorem dX0_greatestReach_27 : decode cX0_greatestReach 27 = .ok (.getfield 88, 3) := by decide +kernel
theorem dX0_greatestReach_30 : decode cX0_greatestReach 30 = .ok (.invokestatic 91, 3) := by decide +kernel
theorem dX0_greatestReach_33 : decode cX0_greatestReach 33 = .ok (.istore_n 2, 1) := by decide +kernel
theorem dX0_greatestReach_34 : decode cX0_greatestReach 34 = .ok (.iinc 3 1, 3) := by decide +kernel
theorem dX0_greatestReach_37 : decode cX0_greatestReach 37 = .ok (.goto (-33), 3) := by decide +kernel
theorem dX0_greatestReach_40 : decode cX0_greatestReach 40 = .ok (.iload_n 2, 1) := by decide +kernel
theorem dX0_greatestReach_41 : decode cX0_greatestReach 41 = .ok (.ireturn, 1) := by decide +kernel
theorem dX0_become_0 : decode cX0_become 0 = .ok (.aload_n 0, 1) := by decide +kernel
theorem dX0_become_1 : decode cX0_become 1 = .ok (.getfield 14, 3) := by decide +kernel
theorem dX0_become_4 : decode cX0_become 4 = .ok (.aload_n 1, 1) := by decide +kernel
theorem dX0_become_5 : decode cX0_become 5 = .ok (.getfield 14, 3) := by decide +kernel
theorem dX0_become_8 : decode cX0_become 8 = .ok (.invokevirtual 96, 3) := by decide +kernel
theorem dX0_become_11 : decode cX0_become 11 = .ok (.aload_n 0, 1) := by decide +kernel
theorem dX0_become_12 : decode cX0_become 12 = .ok (.getfield 32, 3) := by decide +kernel
theorem dX0_become_15 : decode cX0_become 15 = .ok (.aload_n 1, 1) := by decide +kernel
theorem dX0_become_16 : decode cX0_become 16 = .ok (.getfield 32, 3) := by decide +kernel
theorem dX0_become_19 : decode cX0_become 19 = .ok (.invokevirtual 96, 3) := by decide +kernel
theorem dX0_become_22 : decode cX0_become 22 = .ok (.aload_n 0, 1) := by decide +kernel
theorem dX0_become_23 : decode cX0_become 23 = .ok (.getfield 35, 3) := by decide +kernel
theorem dX0_become_26 : decode cX0_become 26 = .ok (.aload_n 1, 1) := by decide +kernel
theorem dX0_become_27 : decode cX0_become 27 = .ok (.getfield 35, 3) := by decide +kernel
theorem dX0_become_30 : decode cX0_become 30 = .ok (.invokevirtual 96, 3) := by decide +kernel
theorem dX0_become_33 : decode cX0_become 33 = .ok (.aload_n 0, 1) := by decide +kernel
theorem dX0_become_34 : decode cX0_become 34 = .ok (.getfield 38, 3) := by decide +kernel
theorem dX0_become_37 : decode cX0_become 37 = .ok (.aload_n 1, 1) := by decide +kernel
theorem dX0_become_38 : decode cX0_become 38 = .ok (.getfield 38, 3) := by decide +kernel
theorem dX0_become_41 : decode cX0_become 41 = .ok (.invokevirtual 96, 3) := by decide +kernel
theorem dX0_become_44 : decode cX0_become 44 = .ok (.aload_n 0, 1) := by decide +kernel
theorem dX0_become_45 : decode cX0_become 45 = .ok (.getfield 41, 3) := by decide +kernel
theorem dX0_become_48 : decode cX0_become 48 = .ok (.aload_n 1, 1) := by decide +kernel
theorem dX0_become_49 : decode cX0_become 49 = .ok (.getfield 41, 3) := by decide +kernel
theorem dX0_become_52 : decode cX0_become 52 = .ok (.invokevirtual 96, 3) := by decide +kernel
theorem dX0_become_55 : decode cX0_become 55 = .ok (.aload_n 0, 1) := by decide +kernel
theorem dX0_become_56 : decode cX0_become 56 = .ok (.getfield 44, 3) := by decide +kernel
theorem dX0_become_59 : decode cX0_become 59 = .ok (.aload_n 1, 1) := by decide +kernel
theorem dX0_become_60 : decode cX0_become 60 = .ok (.getfield 44, 3) := by decide +kernel
theorem dX0_become_63 : decode cX0_become 63 = .ok (.invokevirtual 96, 3) := by decide +kernel
theorem dX0_become_66 : decode cX0_become 66 = .ok (.aload_n 0, 1) := by decide +kernel
theorem dX0_become_67 : decode cX0_become 67 = .ok (.getfield 47, 3) := by decide +kernel
theorem dX0_become_70 : decode cX0_become 70 = .ok (.aload_n 1, 1) := by decide +kernel
theorem dX0_become_71 : decode cX0_become 71 = .ok (.getfield 47, 3) := by decide +kernel
theorem dX0_become_74 : decode cX0_become 74 = .ok (.invokevirtual 96, 3) := by decide +kernel
theorem dX0_become_77 : decode cX0_become 77 = .ok (.aload_n 0, 1) := by decide +kernel
theorem dX0_become_78 : decode cX0_become 78 = .ok (.getfield 50, 3) := by decide +kernel
theorem dX0_become_81 : decode cX0_become 81 = .ok (.aload_n 1, 1) := by decide +kernel
theorem dX0_become_82 : decode cX0_become 82 = .ok (.getfield 50, 3) := by decide +kernel
theorem dX0_become_85 : decode cX0_become 85 = .ok (.invokevirtual 96, 3) := by decide +kernel
theorem dX0_become_88 : decode cX0_become 88 = .ok (.aload_n 0, 1) := by decide +kernel
theorem dX0_become_89 : decode cX0_become 89 = .ok (.aload_n 1, 1) := by decide +kernel
theorem dX0_become_90 : decode cX0_become 90 = .ok (.getfield 59, 3) := by decide +kernel
theorem dX0_become_93 : decode cX0_become 93 = .ok (.putfield 59, 3) := by decide +kernel
theorem dX0_become_96 : decode cX0_become 96 = .ok (.aload_n 0, 1) := by decide +kernel
theorem dX0_become_97 : decode cX0_become 97 = .ok (.aload_n 1, 1) := by decide +kernel
theorem dX0_become_98 : decode cX0_become 98 = .ok (.getfield 63, 3) := by decide +kernel
theorem dX0_become_101 : decode cX0_become 101 = .ok (.putfield 63, 3) := by decide +kernel
theorem dX0_become_104 : decode cX0_become 104 = .ok (.aload_n 0, 1) := by decide +kernel
theorem dX0_become_105 : decode cX0_become 105 = .ok (.aload_n 1, 1) := by decide +kernel
theorem dX0_become_106 : decode cX0_become 106 = .ok (.getfield 100, 3) := by decide +kernel
theorem dX0_become_109 : decode cX0_become 109 = .ok (.putfield 100, 3) := by decide +kernel
theorem dX0_become_112 : decode cX0_become 112 = .ok (.aload_n 0, 1) := by decide +kernel
theorem dX0_become_113 : decode cX0_become 113 = .ok (.aload_n 1, 1) := by decide +kernel
theorem dX0_become_114 : decode cX0_become 114 = .ok (.getfield 103, 3) := by decide +kernel
theorem dX0_become_117 : decode cX0_become 117 = .ok (.putfield 103, 3) := by decide +kernel
theorem dX0_become_120 : decode cX0_become 120 = .ok (.iconst 0, 1) := by decide +kernel
theorem dX0_become_121 : decode cX0_become 121 = .ok (.istore_n 2, 1) := by decide +kernel
theorem dX0_become_122 : decode cX0_become 122 = .ok (.iload_n 2, 1) := by decide +kernel
theorem dX0_become_123 : decode cX0_become 123 = .ok (.iconst 4, 1) := by decide +kernel
theorem dX0_become_124 : decode cX0_become 124 = .ok (.if_icmp .ge 21, 3) := by decide +kernel
theorem dX0_become_127 : decode cX0_become 127 = .ok (.aload_n 0, 1) := by decide +kernel
theorem dX0_become_128 : decode cX0_become 128 = .ok (.getfield 22, 3) := by decide +kernel
theorem dX0_become_131 : decode cX0_become 131 = .ok (.iload_n 2, 1) := by decide +kernel
theorem dX0_become_132 : decode cX0_become 132 = .ok (.aload_n 1, 1) := by decide +kernel
theorem dX0_become_133 : decode cX0_become 133 = .ok (.getfield 22, 3) := by decide +kernel
theorem dX0_become_136 : decode cX0_become 136 = .ok (.iload_n 2, 1) := by decide +kernel
theorem dX0_become_137 : decode cX0_become 137 = .ok (.aaload, 1) := by decide +kernel
theorem dX0_become_138 : decode cX0_become 138 = .ok (.aastore, 1) := by decide +kernel
theorem dX0_become_139 : decode cX0_become 139 = .ok (.iinc 2 1, 3) := by decide +kernel
theorem dX0_become_142 : decode cX0_become 142 = .ok (.goto (-20), 3) := by decide +kernel
theorem dX0_become_145 : decode cX0_become 145 = .ok (.iconst 0, 1) := by decide +kernel
theorem dX0_become_146 : decode cX0_become 146 = .ok (.istore_n 2, 1) := by decide +kernel
theorem dX0_become_147 : decode cX0_become 147 = .ok (.iload_n 2, 1) := by decide +kernel
theorem dX0_become_148 : decode cX0_become 148 = .ok (.bipush 6, 2) := by decide +kernel
theorem dX0_become_150 : decode cX0_become 150 = .ok (.if_icmp .ge 21, 3) := by decide +kernel
theorem dX0_become_153 : decode cX0_become 153 = .ok (.aload_n 0, 1) := by decide +kernel
theorem dX0_become_154 : decode cX0_become 154 = .ok (.getfield 28, 3) := by decide +kernel
theorem dX0_become_157 : decode cX0_become 157 = .ok (.iload_n 2, 1) := by decide +kernel
theorem dX0_become_158 : decode cX0_become 158 = .ok (.aload_n 1, 1) := by decide +kernel
theorem dX0_become_159 : decode cX0_become 159 = .ok (.getfield 28, 3) := by decide +kernel
theorem dX0_become_162 : decode cX0_become 162 = .ok (.iload_n 2, 1) := by decide +kernel
theorem dX0_become_163 : decode cX0_become 163 = .ok (.aaload, 1) := by decide +kernel
theorem dX0_become_164 : decode cX0_become 164 = .ok (.aastore, 1) := by decide +kernel
theorem dX0_become_165 : decode cX0_become 165 = .ok (.iinc 2 1, 3) := by decide +kernel
theorem dX0_become_168 : decode cX0_become 168 = .ok (.goto (-21), 3) := by decide +kernel
theorem dX0_become_171 : decode cX0_become 171 = .ok (.return_, 1) := by decide +kernel
theorem dX1_init_0 : decode cX1_init 0 = .ok (.aload_n 0, 1) := by decide +kernel
theorem dX1_init_1 : decode cX1_init 1 = .ok (.invokespecial 3, 3) := by decide +kernel
theorem dX1_init_4 : decode cX1_init 4 = .ok (.aload_n 0, 1) := by decide +kernel
theorem dX1_init_5 : decode cX1_init 5 = .ok (.new 9, 3) := by decide +kernel
theorem dX1_init_8 : decode cX1_init 8 = .ok (.dup, 1) := by decide +kernel
theorem dX1_init_9 : decode cX1_init 9 = .ok (.invokespecial 11, 3) := by decide +kernel
theorem dX1_init_12 : decode cX1_init 12 = .ok (.putfield 12, 3) := by decide +kernel
theorem dX1_init_15 : decode cX1_init 15 = .ok (.aload_n 0, 1) := by decide +kernel
theorem dX1_init_16 : decode cX1_init 16 = .ok (.sipush 1806, 3) := by decide +kernel
theorem dX1_init_19 : decode cX1_init 19 = .ok (.newarray .int, 2) := by decide +kernel
theorem dX1_init_21 : decode cX1_init 21 = .ok (.putfield 18, 3) := by decide +kernel
theorem dX1_init_24 : decode cX1_init 24 = .ok (.aload_n 0, 1) := by decide +kernel
theorem dX1_init_25 : decode cX1_init 25 = .ok (.sipush 1806, 3) := by decide +kernel
theorem dX1_init_28 : decode cX1_init 28 = .ok (.newarray .int, 2) := by decide +kernel
theorem dX1_init_30 : decode cX1_init 30 = .ok (.putfield 22, 3) := by decide +kernel
theorem dX1_init_33 : decode cX1_init 33 = .ok (.aload_n 0, 1) := by decide +kernel
theorem dX1_init_34 : decode cX1_init 34 = .ok (.bipush 6, 2) := by decide +kernel
theorem dX1_init_36 : decode cX1_init 36 = .ok (.newarray .int, 2) := by decide +kernel
theorem dX1_init_38 : decode cX1_init 38 = .ok (.putfield 25, 3) := by decide +kernel
theorem dX1_init_41 : decode cX1_init 41 = .ok (.aload_n 0, 1) := by decide +kernel
theorem dX1_init_42 : decode cX1_init 42 = .ok (.sipush 301, 3) := by decide +kernel
theorem dX1_init_45 : decode cX1_init 45 = .ok (.newarray .int, 2) := by decide +kernel
theorem dX1_init_47 : decode cX1_init 47 = .ok (.putfield 28, 3) := by decide +kernel
theorem dX1_init_50 : decode cX1_init 50 = .ok (.aload_n 0, 1) := by decide +kernel
theorem dX1_init_51 : decode cX1_init 51 = .ok (.sipush 301, 3) := by decide +kernel
theorem dX1_init_54 : decode cX1_init 54 = .ok (.newarray .int, 2) := by decide +kernel
theorem dX1_init_56 : decode cX1_init 56 = .ok (.putfield 31, 3) := by decide +kernel
theorem dX1_init_59 : decode cX1_init 59 = .ok (.aload_n 0, 1) := by decide +kernel
theorem dX1_init_60 : decode cX1_init 60 = .ok (.sipush 512, 3) := by decide +kernel
theorem dX1_init_63 : decode cX1_init 63 = .ok (.newarray .int, 2) := by decide +kernel
theorem dX1_init_65 : decode cX1_init 65 = .ok (.putfield 34, 3) := by decide +kernel
theorem dX1_init_68 : decode cX1_init 68 = .ok (.aload_n 0, 1) := by decide +kernel
theorem dX1_init_69 : decode cX1_init 69 = .ok (.aload_n 1, 1) := by decide +kernel
theorem dX1_init_70 : decode cX1_init 70 = .ok (.putfield 37, 3) := by decide +kernel
theorem dX1_init_73 : decode cX1_init 73 = .ok (.return_, 1) := by decide +kernel
theorem dX1_forget_0 : decode cX1_forget 0 = .ok (.aload_n 0, 1) := by decide +kernel
theorem dX1_forget_1 : decode cX1_forget 1 = .ok (.getfield 34, 3) := by decide +kernel
theorem dX1_forget_4 : decode cX1_forget 4 = .ok (.iconst 0, 1) := by decide +kernel
theorem dX1_forget_5 : decode cX1_forget 5 = .ok (.invokestatic 41, 3) := by decide +kernel
theorem dX1_forget_8 : decode cX1_forget 8 = .ok (.return_, 1) := by decide +kernel
theorem dX1_prepare_0 : decode cX1_prepare 0 = .ok (.aload_n 0, 1) := by decide +kernel
theorem dX1_prepare_1 : decode cX1_prepare 1 = .ok (.getfield 12, 3) := by decide +kernel
theorem dX1_prepare_4 : decode cX1_prepare 4 = .ok (.aload_n 0, 1) := by decide +kernel
theorem dX1_prepare_5 : decode cX1_prepare 5 = .ok (.getfield 37, 3) := by decide +kernel
theorem dX1_prepare_8 : decode cX1_prepare 8 = .ok (.getfield 47, 3) := by decide +kernel
theorem dX1_prepare_11 : decode cX1_prepare 11 = .ok (.iload_n 1, 1) := by decide +kernel
theorem dX1_prepare_12 : decode cX1_prepare 12 = .ok (.aaload, 1) := by decide +kernel
theorem dX1_prepare_13 : decode cX1_prepare 13 = .ok (.iload_n 2, 1) := by decide +kernel
theorem dX1_prepare_14 : decode cX1_prepare 14 = .ok (.aload_n 0, 1) := by decide +kernel
theorem dX1_prepare_15 : decode cX1_prepare 15 = .ok (.getfield 37, 3) := by decide +kernel
theorem dX1_prepare_18 : decode cX1_prepare 18 = .ok (.getfield 53, 3) := by decide +kernel
theorem dX1_prepare_21 : decode cX1_prepare 21 = .ok (.invokevirtual 57, 3) := by decide +kernel
theorem dX1_prepare_24 : decode cX1_prepare 24 = .ok (.aload_n 0, 1) := by decide +kernel
theorem dX1_prepare_25 : decode cX1_prepare 25 = .ok (.invokevirtual 61, 3) := by decide +kernel
theorem dX1_prepare_28 : decode cX1_prepare 28 = .ok (.iconst 0, 1) := by decide +kernel
theorem dX1_prepare_29 : decode cX1_prepare 29 = .ok (.istore 5, 2) := by decide +kernel
theorem dX1_prepare_31 : decode cX1_prepare 31 = .ok (.iload 5, 2) := by decide +kernel
theorem dX1_prepare_33 : decode cX1_prepare 33 = .ok (.aload_n 0, 1) := by decide +kernel
theorem dX1_prepare_34 : decode cX1_prepare 34 = .ok (.getfield 37, 3) := by decide +kernel
theorem dX1_prepare_37 : decode cX1_prepare 37 = .ok (.getfield 64, 3) := by decide +kernel
theorem dX1_prepare_40 : decode cX1_prepare 40 = .ok (.if_icmp .ge 133, 3) := by decide +kernel
theorem dX1_prepare_43 : decode cX1_prepare 43 = .ok (.iload_n 3, 1) := by decide +kernel
theorem dX1_prepare_44 : decode cX1_prepare 44 = .ok (.iload 5, 2) := by decide +kernel
theorem dX1_prepare_46 : decode cX1_prepare 46 = .ok (.invokestatic 68, 3) := by decide +kernel
theorem dX1_prepare_49 : decode cX1_prepare 49 = .ok (.ifCond .eq 19, 3) := by decide +kernel
theorem dX1_prepare_52 : decode cX1_prepare 52 = .ok (.aload_n 0, 1) := by decide +kernel
theorem dX1_prepare_53 : decode cX1_prepare 53 = .ok (.getfield 37, 3) := by decide +kernel
theorem dX1_prepare_56 : decode cX1_prepare 56 = .ok (.getfield 72, 3) := by decide +kernel
theorem dX1_prepare_59 : decode cX1_prepare 59 = .ok (.iload 5, 2) := by decide +kernel
theorem dX1_prepare_61 : decode cX1_prepare 61 = .ok (.aaload, 1) := by decide +kernel
theorem dX1_prepare_62 : decode cX1_prepare 62 = .ok (.invokevirtual 76, 3) := by decide +kernel
theorem dX1_prepare_65 : decode cX1_prepare 65 = .ok (.goto 4, 3) := by decide +kernel
theorem dX1_prepare_68 : decode cX1_prepare 68 = .ok (.iconst 0, 1) := by decide +kernel
theorem dX1_prepare_69 : decode cX1_prepare 69 = .ok (.istore 6, 2) := by decide +kernel
theorem dX1_prepare_71 : decode cX1_prepare 71 = .ok (.iconst 0, 1) := by decide +kernel
theorem dX1_prepare_72 : decode cX1_prepare 72 = .ok (.istore 7, 2) := by decide +kernel
theorem dX1_prepare_74 : decode cX1_prepare 74 = .ok (.iload 6, 2) := by decide +kernel
theorem dX1_prepare_76 : decode cX1_prepare 76 = .ok (.ifCond .ne 9, 3) := by decide +kernel
theorem dX1_prepare_79 : decode cX1_prepare 79 = .ok (.sipush 301, 3) := by decide +kernel
theorem dX1_prepare_82 : decode cX1_prepare 82 = .ok (.goto 4, 3) := by decide +kernel
theorem dX1_prepare_85 : decode cX1_prepare 85 = .ok (.iconst 0, 1) := by decide +kernel
theorem dX1_prepare_86 : decode cX1_prepare 86 = .ok (.istore 8, 2) := by decide +kernel
theorem dX1_prepare_88 : decode cX1_prepare 88 = .ok (.iconst 0, 1) := by decide +kernel
theorem dX1_prepare_89 : decode cX1_prepare 89 = .ok (.istore 9, 2) := by decide +kernel
theorem dX1_prepare_91 : decode cX1_prepare 91 = .ok (.iload 9, 2) := by decide +kernel
theorem dX1_prepare_93 : decode cX1_prepare 93 = .ok (.aload_n 0, 1) := by decide +kernel
theorem dX1_prepare_94 : decode cX1_prepare 94 = .ok (.getfield 12, 3) := by decide +kernel
theorem dX1_prepare_97 : decode cX1_prepare 97 = .ok (.getfield 82, 3) := by decide +kernel
theorem dX1_prepare_100 : decode cX1_prepare 100 = .ok (.if_icmp .ge 67, 3) := by decide +kernel
theorem dX1_prepare_103 : decode cX1_prepare 103 = .ok (.iload 9, 2) := by decide +kernel
theorem dX1_prepare_105 : decode cX1_prepare 105 = .ok (.iload 8, 2) := by decide +kernel
theorem dX1_prepare_107 : decode cX1_prepare 107 = .ok (.if_icmp .lt 38, 3) := by decide +kernel
theorem dX1_prepare_110 : decode cX1_prepare 110 = .ok (.iload 6, 2) := by decide +kernel
theorem dX1_prepare_112 : decode cX1_prepare 112 = .ok (.aload_n 0, 1) := by decide +kernel
theorem dX1_prepare_113 : decode cX1_prepare 113 = .ok (.getfield 12, 3) := by decide +kernel
theorem dX1_prepare_116 : decode cX1_prepare 116 = .ok (.aload_n 0, 1) := by decide +kernel
theorem dX1_prepare_117 : decode cX1_prepare 117 = .ok (.getfield 37, 3) := by decide +kernel
theorem dX1_prepare_120 : decode cX1_prepare 120 = .ok (.getfield 72, 3) := by decide +kernel
theorem dX1_prepare_123 : decode cX1_prepare 123 = .ok (.iload 5, 2) := by decide +kernel
theorem dX1_prepare_125 : decode cX1_prepare 125 = .ok (.aaload, 1) := by decide +kernel
theorem dX1_prepare_126 : decode cX1_prepare 126 = .ok (.iload 9, 2) := by decide +kernel
theorem dX1_prepare_128 : decode cX1_prepare 128 = .ok (.iload 4, 2) := by decide +kernel
theorem dX1_prepare_130 : decode cX1_prepare 130 = .ok (.invokevirtual 85, 3) := by decide +kernel
theorem dX1_prepare_133 : decode cX1_prepare 133 = .ok (.iand, 1) := by decide +kernel
theorem dX1_prepare_134 : decode cX1_prepare 134 = .ok (.istore 7, 2) := by decide +kernel
theorem dX1_prepare_136 : decode cX1_prepare 136 = .ok (.aload_n 0, 1) := by decide +kernel
theorem dX1_prepare_137 : decode cX1_prepare 137 = .ok (.getfield 12, 3) := by decide +kernel
theorem dX1_prepare_140 : decode cX1_prepare 140 = .ok (.getfield 89, 3) := by decide +kernel
theorem dX1_prepare_143 : decode cX1_prepare 143 = .ok (.istore 8, 2) := by decide +kernel
theorem dX1_prepare_145 : decode cX1_prepare 145 = .ok (.aload_n 0, 1) := by decide +kernel
theorem dX1_prepare_146 : decode cX1_prepare 146 = .ok (.getfield 18, 3) := by decide +kernel
theorem dX1_prepare_149 : decode cX1_prepare 149 = .ok (.iload 5, 2) := by decide +kernel
theorem dX1_prepare_151 : decode cX1_prepare 151 = .ok (.sipush 301, 3) := by decide +kernel
theorem dX1_prepare_154 : decode cX1_prepare 154 = .ok (.imul, 1) := by decide +kernel
theorem dX1_prepare_155 : decode cX1_prepare 155 = .ok (.iload 9, 2) := by decide +kernel
theorem dX1_prepare_157 : decode cX1_prepare 157 = .ok (.iadd, 1) := by decide +kernel
theorem dX1_prepare_158 : decode cX1_prepare 158 = .ok (.iload 7, 2) := by decide +kernel
theorem dX1_prepare_160 : decode cX1_prepare 160 = .ok (.iastore, 1) := by decide +kernel
theorem dX1_prepare_161 : decode cX1_prepare 161 = .ok (.iinc 9 1, 3) := by decide +kernel
theorem dX1_prepare_164 : decode cX1_prepare 164 = .ok (.goto (-73), 3) := by decide +kernel
theorem dX1_prepare_167 : decode cX1_prepare 167 = .ok (.iinc 5 1, 3) := by decide +kernel
theorem dX1_prepare_170 : decode cX1_prepare 170 = .ok (.goto (-139), 3) := by decide +kernel
theorem dX1_prepare_173 : decode cX1_prepare 173 = .ok (.return_, 1) := by decide +kernel
theorem dX1_bringsAllNotes_0 : decode cX1_bringsAllNotes 0 = .ok (.aload_n 0, 1) := by decide +kernel
theorem dX1_bringsAllNotes_1 : decode cX1_bringsAllNotes 1 = .ok (.invokevirtual 61, 3) := by decide +kernel
theorem dX1_bringsAllNotes_4 : decode cX1_bringsAllNotes 4 = .ok (.iconst 0, 1) := by decide +kernel
theorem dX1_bringsAllNotes_5 : decode cX1_bringsAllNotes 5 = .ok (.istore_n 2, 1) := by decide +kernel
theorem dX1_bringsAllNotes_6 : decode cX1_bringsAllNotes 6 = .ok (.iload_n 2, 1) := by decide +kernel
theorem dX1_bringsAllNotes_7 : decode cX1_bringsAllNotes 7 = .ok (.aload_n 0, 1) := by decide +kernel
theorem dX1_bringsAllNotes_8 : decode cX1_bringsAllNotes 8 = .ok (.getfield 37, 3) := by decide +kernel
theorem dX1_bringsAllNotes_11 : decode cX1_bringsAllNotes 11 = .ok (.getfield 92, 3) := by decide +kernel
theorem dX1_bringsAllNotes_14 : decode cX1_bringsAllNotes 14 = .ok (.getfield 95, 3) := by decide +kernel
theorem dX1_bringsAllNotes_17 : decode cX1_bringsAllNotes 17 = .ok (.if_icmp .ge 64, 3) := by decide +kernel
theorem dX1_bringsAllNotes_20 : decode cX1_bringsAllNotes 20 = .ok (.aload_n 0, 1) := by decide +kernel
theorem dX1_bringsAllNotes_21 : decode cX1_bringsAllNotes 21 = .ok (.getfield 37, 3) := by decide +kernel
theorem dX1_bringsAllNotes_24 : decode cX1_bringsAllNotes 24 = .ok (.getfield 92, 3) := by decide +kernel
theorem dX1_bringsAllNotes_27 : decode cX1_bringsAllNotes 27 = .ok (.iload_n 2, 1) := by decide +kernel
theorem dX1_bringsAllNotes_28 : decode cX1_bringsAllNotes 28 = .ok (.iconst 1, 1) := by decide +kernel
theorem dX1_bringsAllNotes_29 : decode cX1_bringsAllNotes 29 = .ok (.invokevirtual 100, 3) := by decide +kernel
theorem dX1_bringsAllNotes_32 : decode cX1_bringsAllNotes 32 = .ok (.istore_n 3, 1) := by decide +kernel
theorem dX1_bringsAllNotes_33 : decode cX1_bringsAllNotes 33 = .ok (.iload_n 3, 1) := by decide +kernel
theorem dX1_bringsAllNotes_34 : decode cX1_bringsAllNotes 34 = .ok (.aload_n 0, 1) := by decide +kernel
theorem dX1_bringsAllNotes_35 : decode cX1_bringsAllNotes 35 = .ok (.getfield 12, 3) := by decide +kernel
theorem dX1_bringsAllNotes_38 : decode cX1_bringsAllNotes 38 = .ok (.getfield 82, 3) := by decide +kernel
theorem dX1_bringsAllNotes_41 : decode cX1_bringsAllNotes 41 = .ok (.if_icmp .le 5, 3) := by decide +kernel
theorem dX1_bringsAllNotes_44 : decode cX1_bringsAllNotes 44 = .ok (.iconst 0, 1) := by decide +kernel
theorem dX1_bringsAllNotes_45 : decode cX1_bringsAllNotes 45 = .ok (.ireturn, 1) := by decide +kernel
theorem dX1_bringsAllNotes_46 : decode cX1_bringsAllNotes 46 = .ok (.aload_n 0, 1) := by decide +kernel
theorem dX1_bringsAllNotes_47 : decode cX1_bringsAllNotes 47 = .ok (.getfield 28, 3) := by decide +kernel
theorem dX1_bringsAllNotes_50 : decode cX1_bringsAllNotes 50 = .ok (.iload_n 3, 1) := by decide +kernel
theorem dX1_bringsAllNotes_51 : decode cX1_bringsAllNotes 51 = .ok (.dup2, 1) := by decide +kernel
theorem dX1_bringsAllNotes_52 : decode cX1_bringsAllNotes 52 = .ok (.iaload, 1) := by decide +kernel
theorem dX1_bringsAllNotes_53 : decode cX1_bringsAllNotes 53 = .ok (.aload_n 0, 1) := by decide +kernel
theorem dX1_bringsAllNotes_54 : decode cX1_bringsAllNotes 54 = .ok (.getfield 37, 3) := by decide +kernel
theorem dX1_bringsAllNotes_57 : decode cX1_bringsAllNotes 57 = .ok (.aload_n 0, 1) := by decide +kernel
theorem dX1_bringsAllNotes_58 : decode cX1_bringsAllNotes 58 = .ok (.getfield 37, 3) := by decide +kernel
theorem dX1_bringsAllNotes_61 : decode cX1_bringsAllNotes 61 = .ok (.getfield 92, 3) := by decide +kernel
theorem dX1_bringsAllNotes_64 : decode cX1_bringsAllNotes 64 = .ok (.iload_n 2, 1) := by decide +kernel
theorem dX1_bringsAllNotes_65 : decode cX1_bringsAllNotes 65 = .ok (.iconst 0, 1) := by decide +kernel
theorem dX1_bringsAllNotes_66 : decode cX1_bringsAllNotes 66 = .ok (.invokevirtual 100, 3) := by decide +kernel
theorem dX1_bringsAllNotes_69 : decode cX1_bringsAllNotes 69 = .ok (.iload_n 1, 1) := by decide +kernel
theorem dX1_bringsAllNotes_70 : decode cX1_bringsAllNotes 70 = .ok (.invokevirtual 104, 3) := by decide +kernel
theorem dX1_bringsAllNotes_73 : decode cX1_bringsAllNotes 73 = .ok (.iand, 1) := by decide +kernel
theorem dX1_bringsAllNotes_74 : decode cX1_bringsAllNotes 74 = .ok (.iastore, 1) := by decide +kernel
theorem dX1_bringsAllNotes_75 : decode cX1_bringsAllNotes 75 = .ok (.iinc 2 1, 3) := by decide +kernel
theorem dX1_bringsAllNotes_78 : decode cX1_bringsAllNotes 78 = .ok (.goto (-72), 3) := by decide +kernel
theorem dX1_bringsAllNotes_81 : decode cX1_bringsAllNotes 81 = .ok (.aload_n 0, 1) := by decide +kernel
theorem dX1_bringsAllNotes_82 : decode cX1_bringsAllNotes 82 = .ok (.iload_n 1, 1) := by decide +kernel
theorem dX1_bringsAllNotes_83 : decode cX1_bringsAllNotes 83 = .ok (.invokevirtual 107, 3) := by decide +kernel
theorem dX1_bringsAllNotes_86 : decode cX1_bringsAllNotes 86 = .ok (.aload_n 0, 1) := by decide +kernel
theorem dX1_bringsAllNotes_87 : decode cX1_bringsAllNotes 87 = .ok (.getfield 31, 3) := by decide +kernel
theorem dX1_bringsAllNotes_90 : decode cX1_bringsAllNotes 90 = .ok (.aload_n 0, 1) := by decide +kernel
theorem dX1_bringsAllNotes_91 : decode cX1_bringsAllNotes 91 = .ok (.getfield 12, 3) := by decide +kernel
theorem dX1_bringsAllNotes_94 : decode cX1_bringsAllNotes 94 = .ok (.getfield 82, 3) := by decide +kernel
theorem dX1_bringsAllNotes_97 : decode cX1_bringsAllNotes 97 = .ok (.iaload, 1) := by decide +kernel
theorem dX1_bringsAllNotes_98 : decode cX1_bringsAllNotes 98 = .ok (.ifCond .eq 7, 3) := by decide +kernel
theorem dX1_bringsAllNotes_101 : decode cX1_bringsAllNotes 101 = .ok (.iconst 1, 1) := by decide +kernel
theorem dX1_bringsAllNotes_102 : decode cX1_bringsAllNotes 102 = .ok (.goto 4, 3) := by decide +kernel
theorem dX1_bringsAllNotes_105 : decode cX1_bringsAllNotes 105 = .ok (.iconst 0, 1) := by decide +kernel
theorem dX1_bringsAllNotes_106 : decode cX1_bringsAllNotes 106 = .ok (.ireturn, 1) := by decide +kernel
theorem dX1_allowUnseen_0 : decode cX1_allowUnseen 0 = .ok (.iconst 0, 1) := by decide +kernel
theorem dX1_allowUnseen_1 : decode cX1_allowUnseen 1 = .ok (.istore_n 1, 1) := by decide +kernel
theorem dX1_allowUnseen_2 : decode cX1_allowUnseen 2 = .ok (.iload_n 1, 1) := by decide +kernel
theorem dX1_allowUnseen_3 : decode cX1_allowUnseen 3 = .ok (.aload_n 0, 1) := by decide +kernel
theorem dX1_allowUnseen_4 : decode cX1_allowUnseen 4 = .ok (.getfield 12, 3) := by decide +kernel
theorem dX1_allowUnseen_7 : decode cX1_allowUnseen 7 = .ok (.getfield 82, 3) := by decide +kernel
theorem dX1_allowUnseen_10 : decode cX1_allowUnseen 10 = .ok (.if_icmp .gt 54, 3) := by decide +kernel
theorem dX1_allowUnseen_13 : decode cX1_allowUnseen 13 = .ok (.aload_n 0, 1) := by decide +kernel
theorem dX1_allowUnseen_14 : decode cX1_allowUnseen 14 = .ok (.getfield 12, 3) := by decide +kernel
theorem dX1_allowUnseen_17 : decode cX1_allowUnseen 17 = .ok (.getfield 111, 3) := by decide +kernel
theorem dX1_allowUnseen_20 : decode cX1_allowUnseen 20 = .ok (.iload_n 1, 1) := by decide +kernel
theorem dX1_allowUnseen_21 : decode cX1_allowUnseen 21 = .ok (.iaload, 1) := by decide +kernel
theorem dX1_allowUnseen_22 : decode cX1_allowUnseen 22 = .ok (.ifCond .ne 14, 3) := by decide +kernel
theorem dX1_allowUnseen_25 : decode cX1_allowUnseen 25 = .ok (.iload_n 1, 1) := by decide +kernel
theorem dX1_allowUnseen_26 : decode cX1_allowUnseen 26 = .ok (.aload_n 0, 1) := by decide +kernel
theorem dX1_allowUnseen_27 : decode cX1_allowUnseen 27 = .ok (.getfield 12, 3) := by decide +kernel
theorem dX1_allowUnseen_30 : decode cX1_allowUnseen 30 = .ok (.getfield 82, 3) := by decide +kernel
theorem dX1_allowUnseen_33 : decode cX1_allowUnseen 33 = .ok (.if_icmp .ne 7, 3) := by decide +kernel
theorem dX1_allowUnseen_36 : decode cX1_allowUnseen 36 = .ok (.iconst 1, 1) := by decide +kernel
theorem dX1_allowUnseen_37 : decode cX1_allowUnseen 37 = .ok (.goto 4, 3) := by decide +kernel
theorem dX1_allowUnseen_40 : decode cX1_allowUnseen 40 = .ok (.iconst 0, 1) := by decide +kernel
theorem dX1_allowUnseen_41 : decode cX1_allowUnseen 41 = .ok (.istore_n 2, 1) := by decide +kernel
theorem dX1_allowUnseen_42 : decode cX1_allowUnseen 42 = .ok (.aload_n 0, 1) := by decide +kernel
theorem dX1_allowUnseen_43 : decode cX1_allowUnseen 43 = .ok (.getfield 28, 3) := by decide +kernel
theorem dX1_allowUnseen_46 : decode cX1_allowUnseen 46 = .ok (.iload_n 1, 1) := by decide +kernel
theorem dX1_allowUnseen_47 : decode cX1_allowUnseen 47 = .ok (.iload_n 2, 1) := by decide +kernel
theorem dX1_allowUnseen_48 : decode cX1_allowUnseen 48 = .ok (.ifCond .eq 7, 3) := by decide +kernel
theorem dX1_allowUnseen_51 : decode cX1_allowUnseen 51 = .ok (.iconst 1, 1) := by decide +kernel
theorem dX1_allowUnseen_52 : decode cX1_allowUnseen 52 = .ok (.goto 5, 3) := by decide +kernel
theorem dX1_allowUnseen_55 : decode cX1_allowUnseen 55 = .ok (.ldc 114, 2) := by decide +kernel
theorem dX1_allowUnseen_57 : decode cX1_allowUnseen 57 = .ok (.iastore, 1) := by decide +kernel
theorem dX1_allowUnseen_58 : decode cX1_allowUnseen 58 = .ok (.iinc 1 1, 3) := by decide +kernel
theorem dX1_allowUnseen_61 : decode cX1_allowUnseen 61 = .ok (.goto (-59), 3) := by decide +kernel
theorem dX1_allowUnseen_64 : decode cX1_allowUnseen 64 = .ok (.return_, 1) := by decide +kernel
theorem dX1_walk_0 : decode cX1_walk 0 = .ok (.aload_n 0, 1) := by decide +kernel
theorem dX1_walk_1 : decode cX1_walk 1 = .ok (.getfield 31, 3) := by decide +kernel
theorem dX1_walk_4 : decode cX1_walk 4 = .ok (.iconst 0, 1) := by decide +kernel
theorem dX1_walk_5 : decode cX1_walk 5 = .ok (.iconst 1, 1) := by decide +kernel
theorem dX1_walk_6 : decode cX1_walk 6 = .ok (.aload_n 0, 1) := by decide +kernel
theorem dX1_walk_7 : decode cX1_walk 7 = .ok (.getfield 28, 3) := by decide +kernel
theorem dX1_walk_10 : decode cX1_walk 10 = .ok (.iconst 0, 1) := by decide +kernel
theorem dX1_walk_11 : decode cX1_walk 11 = .ok (.iaload, 1) := by decide +kernel
theorem dX1_walk_12 : decode cX1_walk 12 = .ok (.iand, 1) := by decide +kernel
theorem dX1_walk_13 : decode cX1_walk 13 = .ok (.iastore, 1) := by decide +kernel
theorem dX1_walk_14 : decode cX1_walk 14 = .ok (.iconst 0, 1) := by decide +kernel
theorem dX1_walk_15 : decode cX1_walk 15 = .ok (.istore_n 2, 1) := by decide +kernel
theorem dX1_walk_16 : decode cX1_walk 16 = .ok (.iload_n 2, 1) := by decide +kernel
theorem dX1_walk_17 : decode cX1_walk 17 = .ok (.aload_n 0, 1) := by decide +kernel
theorem dX1_walk_18 : decode cX1_walk 18 = .ok (.getfield 12, 3) := by decide +kernel
theorem dX1_walk_21 : decode cX1_walk 21 = .ok (.getfield 82, 3) := by decide +kernel
theorem dX1_walk_24 : decode cX1_walk 24 = .ok (.if_icmp .ge 77, 3) := by decide +kernel
theorem dX1_walk_27 : decode cX1_walk 27 = .ok (.aload_n 0, 1) := by decide +kernel
theorem dX1_walk_28 : decode cX1_walk 28 = .ok (.getfield 31, 3) := by decide +kernel
theorem dX1_walk_31 : decode cX1_walk 31 = .ok (.iload_n 2, 1) := by decide +kernel
theorem dX1_walk_32 : decode cX1_walk 32 = .ok (.iaload, 1) := by decide +kernel
theorem dX1_walk_33 : decode cX1_walk 33 = .ok (.invokestatic 115, 3) := by decide +kernel
theorem dX1_walk_36 : decode cX1_walk 36 = .ok (.istore_n 3, 1) := by decide +kernel
theorem dX1_walk_37 : decode cX1_walk 37 = .ok (.iconst 0, 1) := by decide +kernel
theorem dX1_walk_38 : decode cX1_walk 38 = .ok (.istore 4, 2) := by decide +kernel
theorem dX1_walk_40 : decode cX1_walk 40 = .ok (.iload 4, 2) := by decide +kernel
theorem dX1_walk_42 : decode cX1_walk 42 = .ok (.aload_n 0, 1) := by decide +kernel
theorem dX1_walk_43 : decode cX1_walk 43 = .ok (.getfield 37, 3) := by decide +kernel
theorem dX1_walk_46 : decode cX1_walk 46 = .ok (.getfield 64, 3) := by decide +kernel
theorem dX1_walk_49 : decode cX1_walk 49 = .ok (.if_icmp .ge 28, 3) := by decide +kernel
theorem dX1_walk_52 : decode cX1_walk 52 = .ok (.iload_n 1, 1) := by decide +kernel
theorem dX1_walk_53 : decode cX1_walk 53 = .ok (.iload 4, 2) := by decide +kernel
theorem dX1_walk_55 : decode cX1_walk 55 = .ok (.invokestatic 68, 3) := by decide +kernel
theorem dX1_walk_58 : decode cX1_walk 58 = .ok (.ifCond .eq 13, 3) := by decide +kernel
theorem dX1_walk_61 : decode cX1_walk 61 = .ok (.iload_n 3, 1) := by decide +kernel
theorem dX1_walk_62 : decode cX1_walk 62 = .ok (.aload_n 0, 1) := by decide +kernel
theorem dX1_walk_63 : decode cX1_walk 63 = .ok (.iload 4, 2) := by decide +kernel
theorem dX1_walk_65 : decode cX1_walk 65 = .ok (.iload_n 2, 1) := by decide +kernel
theorem dX1_walk_66 : decode cX1_walk 66 = .ok (.invokevirtual 119, 3) := by decide +kernel
theorem dX1_walk_69 : decode cX1_walk 69 = .ok (.ior, 1) := by decide +kernel
theorem dX1_walk_70 : decode cX1_walk 70 = .ok (.istore_n 3, 1) := by decide +kernel
theorem dX1_walk_71 : decode cX1_walk 71 = .ok (.iinc 4 1, 3) := by decide +kernel
theorem dX1_walk_74 : decode cX1_walk 74 = .ok (.goto (-34), 3) := by decide +kernel
theorem dX1_walk_77 : decode cX1_walk 77 = .ok (.aload_n 0, 1) := by decide +kernel
theorem dX1_walk_78 : decode cX1_walk 78 = .ok (.getfield 31, 3) := by decide +kernel
theorem dX1_walk_81 : decode cX1_walk 81 = .ok (.iload_n 2, 1) := by decide +kernel
theorem dX1_walk_82 : decode cX1_walk 82 = .ok (.iconst 1, 1) := by decide +kernel
theorem dX1_walk_83 : decode cX1_walk 83 = .ok (.iadd, 1) := by decide +kernel
theorem dX1_walk_84 : decode cX1_walk 84 = .ok (.iload_n 3, 1) := by decide +kernel
theorem dX1_walk_85 : decode cX1_walk 85 = .ok (.aload_n 0, 1) := by decide +kernel
theorem dX1_walk_86 : decode cX1_walk 86 = .ok (.getfield 28, 3) := by decide +kernel
theorem dX1_walk_89 : decode cX1_walk 89 = .ok (.iload_n 2, 1) := by decide +kernel
theorem dX1_walk_90 : decode cX1_walk 90 = .ok (.iconst 1, 1) := by decide +kernel
theorem dX1_walk_91 : decode cX1_walk 91 = .ok (.iadd, 1) := by decide +kernel
theorem dX1_walk_92 : decode cX1_walk 92 = .ok (.iaload, 1) := by decide +kernel
theorem dX1_walk_93 : decode cX1_walk 93 = .ok (.iand, 1) := by decide +kernel
theorem dX1_walk_94 : decode cX1_walk 94 = .ok (.iastore, 1) := by decide +kernel
theorem dX1_walk_95 : decode cX1_walk 95 = .ok (.iinc 2 1, 3) := by decide +kernel
theorem dX1_walk_98 : decode cX1_walk 98 = .ok (.goto (-82), 3) := by decide +kernel
theorem dX1_walk_101 : decode cX1_walk 101 = .ok (.return_, 1) := by decide +kernel
theorem dX1_withAllTheirParts_0 : decode cX1_withAllTheirParts 0 = .ok (.iload_n 0, 1) := by decide +kernel
theorem dX1_withAllTheirParts_1 : decode cX1_withAllTheirParts 1 = .ok (.istore_n 1, 1) := by decide +kernel
theorem dX1_withAllTheirParts_2 : decode cX1_withAllTheirParts 2 = .ok (.iload_n 1, 1) := by decide +kernel
theorem dX1_withAllTheirParts_3 : decode cX1_withAllTheirParts 3 = .ok (.iconst 1, 1) := by decide +kernel
theorem dX1_withAllTheirParts_4 : decode cX1_withAllTheirParts 4 = .ok (.if_icmp .ne 5, 3) := by decide +kernel
theorem dX1_withAllTheirParts_7 : decode cX1_withAllTheirParts 7 = .ok (.iload_n 1, 1) := by decide +kernel
theorem dX1_withAllTheirParts_8 : decode cX1_withAllTheirParts 8 = .ok (.ireturn, 1) := by decide +kernel
theorem dX1_withAllTheirParts_9 : decode cX1_withAllTheirParts 9 = .ok (.iconst 0, 1) := by decide +kernel
theorem dX1_withAllTheirParts_10 : decode cX1_withAllTheirParts 10 = .ok (.istore_n 2, 1) := by decide +kernel
theorem dX1_withAllTheirParts_11 : decode cX1_withAllTheirParts 11 = .ok (.iload_n 2, 1) := by decide +kernel
theorem dX1_withAllTheirParts_12 : decode cX1_withAllTheirParts 12 = .ok (.iconst 4, 1) := by decide +kernel
theorem dX1_withAllTheirParts_13 : decode cX1_withAllTheirParts 13 = .ok (.if_icmp .ge 23, 3) := by decide +kernel
theorem dX1_withAllTheirParts_16 : decode cX1_withAllTheirParts 16 = .ok (.iload_n 1, 1) := by decide +kernel
theorem dX1_withAllTheirParts_17 : decode cX1_withAllTheirParts 17 = .ok (.iload_n 1, 1) := by decide +kernel
theorem dX1_withAllTheirParts_18 : decode cX1_withAllTheirParts 18 = .ok (.getstatic 122, 3) := by decide +kernel
theorem dX1_withAllTheirParts_21 : decode cX1_withAllTheirParts 21 = .ok (.iload_n 2, 1) := by decide +kernel
theorem dX1_withAllTheirParts_22 : decode cX1_withAllTheirParts 22 = .ok (.iaload, 1) := by decide +kernel
theorem dX1_withAllTheirParts_23 : decode cX1_withAllTheirParts 23 = .ok (.iand, 1) := by decide +kernel
theorem dX1_withAllTheirParts_24 : decode cX1_withAllTheirParts 24 = .ok (.iconst 1, 1) := by decide +kernel
theorem dX1_withAllTheirParts_25 : decode cX1_withAllTheirParts 25 = .ok (.iload_n 2, 1) := by decide +kernel
theorem dX1_withAllTheirParts_26 : decode cX1_withAllTheirParts 26 = .ok (.ishl, 1) := by decide +kernel
theorem dX1_withAllTheirParts_27 : decode cX1_withAllTheirParts 27 = .ok (.ishr, 1) := by decide +kernel
theorem dX1_withAllTheirParts_28 : decode cX1_withAllTheirParts 28 = .ok (.ior, 1) := by decide +kernel
theorem dX1_withAllTheirParts_29 : decode cX1_withAllTheirParts 29 = .ok (.istore_n 1, 1) := by decide +kernel
theorem dX1_withAllTheirParts_30 : decode cX1_withAllTheirParts 30 = .ok (.iinc 2 1, 3) := by decide +kernel
theorem dX1_withAllTheirParts_33 : decode cX1_withAllTheirParts 33 = .ok (.goto (-22), 3) := by decide +kernel
theorem dX1_withAllTheirParts_36 : decode cX1_withAllTheirParts 36 = .ok (.iload_n 1, 1) := by decide +kernel
theorem dX1_withAllTheirParts_37 : decode cX1_withAllTheirParts 37 = .ok (.ireturn, 1) := by decide +kernel
theorem dX1_freedBehind_0 : decode cX1_freedBehind 0 = .ok (.aload_n 0, 1) := by decide +kernel
theorem dX1_freedBehind_1 : decode cX1_freedBehind 1 = .ok (.getfield 37, 3) := by decide +kernel
theorem dX1_freedBehind_4 : decode cX1_freedBehind 4 = .ok (.getfield 72, 3) := by decide +kernel
theorem dX1_freedBehind_7 : decode cX1_freedBehind 7 = .ok (.iload_n 1, 1) := by decide +kernel
theorem dX1_freedBehind_8 : decode cX1_freedBehind 8 = .ok (.aaload, 1) := by decide +kernel
theorem dX1_freedBehind_9 : decode cX1_freedBehind 9 = .ok (.astore_n 3, 1) := by decide +kernel
theorem dX1_freedBehind_10 : decode cX1_freedBehind 10 = .ok (.aload_n 0, 1) := by decide +kernel
theorem dX1_freedBehind_11 : decode cX1_freedBehind 11 = .ok (.iload_n 1, 1) := by decide +kernel
theorem dX1_freedBehind_12 : decode cX1_freedBehind 12 = .ok (.iload_n 2, 1) := by decide +kernel
theorem dX1_freedBehind_13 : decode cX1_freedBehind 13 = .ok (.aload_n 3, 1) := by decide +kernel
theorem dX1_freedBehind_14 : decode cX1_freedBehind 14 = .ok (.getfield 125, 3) := by decide +kernel
theorem dX1_freedBehind_17 : decode cX1_freedBehind 17 = .ok (.iconst 1, 1) := by decide +kernel
theorem dX1_freedBehind_18 : decode cX1_freedBehind 18 = .ok (.invokestatic 128, 3) := by decide +kernel
theorem dX1_freedBehind_21 : decode cX1_freedBehind 21 = .ok (.invokevirtual 133, 3) := by decide +kernel
theorem dX1_freedBehind_24 : decode cX1_freedBehind 24 = .ok (.istore 4, 2) := by decide +kernel
theorem dX1_freedBehind_26 : decode cX1_freedBehind 26 = .ok (.iload 4, 2) := by decide +kernel
theorem dX1_freedBehind_28 : decode cX1_freedBehind 28 = .ok (.ifCond .ne 7, 3) := by decide +kernel
theorem dX1_freedBehind_31 : decode cX1_freedBehind 31 = .ok (.iconst 0, 1) := by decide +kernel
theorem dX1_freedBehind_32 : decode cX1_freedBehind 32 = .ok (.goto 9, 3) := by decide +kernel
theorem dX1_freedBehind_35 : decode cX1_freedBehind 35 = .ok (.aload_n 3, 1) := by decide +kernel
theorem dX1_freedBehind_36 : decode cX1_freedBehind 36 = .ok (.iload 4, 2) := by decide +kernel
theorem dX1_freedBehind_38 : decode cX1_freedBehind 38 = .ok (.invokevirtual 137, 3) := by decide +kernel
theorem dX1_freedBehind_41 : decode cX1_freedBehind 41 = .ok (.ireturn, 1) := by decide +kernel
theorem dX1_goneThrough_0 : decode cX1_goneThrough 0 = .ok (.iload_n 1, 1) := by decide +kernel
theorem dX1_goneThrough_1 : decode cX1_goneThrough 1 = .ok (.sipush 301, 3) := by decide +kernel
theorem dX1_goneThrough_4 : decode cX1_goneThrough 4 = .ok (.imul, 1) := by decide +kernel
theorem dX1_goneThrough_5 : decode cX1_goneThrough 5 = .ok (.istore 4, 2) := by decide +kernel
theorem dX1_goneThrough_7 : decode cX1_goneThrough 7 = .ok (.aload_n 0, 1) := by decide +kernel
theorem dX1_goneThrough_8 : decode cX1_goneThrough 8 = .ok (.getfield 31, 3) := by decide +kernel
theorem dX1_goneThrough_11 : decode cX1_goneThrough 11 = .ok (.iload_n 2, 1) := by decide +kernel
theorem dX1_goneThrough_12 : decode cX1_goneThrough 12 = .ok (.iaload, 1) := by decide +kernel
theorem dX1_goneThrough_13 : decode cX1_goneThrough 13 = .ok (.aload_n 0, 1) := by decide +kernel
theorem dX1_goneThrough_14 : decode cX1_goneThrough 14 = .ok (.getfield 18, 3) := by decide +kernel
theorem dX1_goneThrough_17 : decode cX1_goneThrough 17 = .ok (.iload 4, 2) := by decide +kernel
theorem dX1_goneThrough_19 : decode cX1_goneThrough 19 = .ok (.iload_n 2, 1) := by decide +kernel
theorem dX1_goneThrough_20 : decode cX1_goneThrough 20 = .ok (.iadd, 1) := by decide +kernel
theorem dX1_goneThrough_21 : decode cX1_goneThrough 21 = .ok (.iaload, 1) := by decide +kernel
theorem dX1_goneThrough_22 : decode cX1_goneThrough 22 = .ok (.iand, 1) := by decide +kernel
theorem dX1_goneThrough_23 : decode cX1_goneThrough 23 = .ok (.istore 5, 2) := by decide +kernel
theorem dX1_goneThrough_25 : decode cX1_goneThrough 25 = .ok (.iload_n 2, 1) := by decide +kernel
theorem dX1_goneThrough_26 : decode cX1_goneThrough 26 = .ok (.iload_n 3, 1) := by decide +kernel
theorem dX1_goneThrough_27 : decode cX1_goneThrough 27 = .ok (.irem, 1) := by decide +kernel
theorem dX1_goneThrough_28 : decode cX1_goneThrough 28 = .ok (.istore 6, 2) := by decide +kernel
theorem dX1_goneThrough_30 : decode cX1_goneThrough 30 = .ok (.aload_n 0, 1) := by decide +kernel
theorem dX1_goneThrough_31 : decode cX1_goneThrough 31 = .ok (.getfield 25, 3) := by decide +kernel
theorem dX1_goneThrough_34 : decode cX1_goneThrough 34 = .ok (.iload_n 1, 1) := by decide +kernel
theorem dX1_goneThrough_35 : decode cX1_goneThrough 35 = .ok (.iload 6, 2) := by decide +kernel
theorem dX1_goneThrough_37 : decode cX1_goneThrough 37 = .ok (.ifCond .ne 8, 3) := by decide +kernel
theorem dX1_goneThrough_40 : decode cX1_goneThrough 40 = .ok (.iload 5, 2) := by decide +kernel
theorem dX1_goneThrough_42 : decode cX1_goneThrough 42 = .ok (.goto 12, 3) := by decide +kernel
theorem dX1_goneThrough_45 : decode cX1_goneThrough 45 = .ok (.aload_n 0, 1) := by decide +kernel
theorem dX1_goneThrough_46 : decode cX1_goneThrough 46 = .ok (.getfield 25, 3) := by decide +kernel
theorem dX1_goneThrough_49 : decode cX1_goneThrough 49 = .ok (.iload_n 1, 1) := by decide +kernel
theorem dX1_goneThrough_50 : decode cX1_goneThrough 50 = .ok (.iaload, 1) := by decide +kernel
theorem dX1_goneThrough_51 : decode cX1_goneThrough 51 = .ok (.iload 5, 2) := by decide +kernel
theorem dX1_goneThrough_53 : decode cX1_goneThrough 53 = .ok (.iand, 1) := by decide +kernel
theorem dX1_goneThrough_54 : decode cX1_goneThrough 54 = .ok (.iastore, 1) := by decide +kernel
theorem dX1_goneThrough_55 : decode cX1_goneThrough 55 = .ok (.aload_n 0, 1) := by decide +kernel
theorem dX1_goneThrough_56 : decode cX1_goneThrough 56 = .ok (.getfield 22, 3) := by decide +kernel
theorem dX1_goneThrough_59 : decode cX1_goneThrough 59 = .ok (.iload 4, 2) := by decide +kernel
theorem dX1_goneThrough_61 : decode cX1_goneThrough 61 = .ok (.iload_n 2, 1) := by decide +kernel
theorem dX1_goneThrough_62 : decode cX1_goneThrough 62 = .ok (.iadd, 1) := by decide +kernel
theorem dX1_goneThrough_63 : decode cX1_goneThrough 63 = .ok (.iload 5, 2) := by decide +kernel
theorem dX1_goneThrough_65 : decode cX1_goneThrough 65 = .ok (.iastore, 1) := by decide +kernel
theorem dX1_goneThrough_66 : decode cX1_goneThrough 66 = .ok (.iload 6, 2) := by decide +kernel
theorem dX1_goneThrough_68 : decode cX1_goneThrough 68 = .ok (.iload_n 3, 1) := by decide +kernel
theorem dX1_goneThrough_69 : decode cX1_goneThrough 69 = .ok (.iconst 1, 1) := by decide +kernel
theorem dX1_goneThrough_70 : decode cX1_goneThrough 70 = .ok (.isub, 1) := by decide +kernel
theorem dX1_goneThrough_71 : decode cX1_goneThrough 71 = .ok (.if_icmp .ge 33, 3) := by decide +kernel
theorem dX1_goneThrough_74 : decode cX1_goneThrough 74 = .ok (.iload_n 2, 1) := by decide +kernel
theorem dX1_goneThrough_75 : decode cX1_goneThrough 75 = .ok (.iload_n 3, 1) := by decide +kernel
theorem dX1_goneThrough_76 : decode cX1_goneThrough 76 = .ok (.if_icmp .ge 7, 3) := by decide +kernel
theorem dX1_goneThrough_79 : decode cX1_goneThrough 79 = .ok (.iconst 0, 1) := by decide +kernel
theorem dX1_goneThrough_80 : decode cX1_goneThrough 80 = .ok (.goto 23, 3) := by decide +kernel
theorem dX1_goneThrough_83 : decode cX1_goneThrough 83 = .ok (.aload_n 0, 1) := by decide +kernel
theorem dX1_goneThrough_84 : decode cX1_goneThrough 84 = .ok (.getfield 25, 3) := by decide +kernel
theorem dX1_goneThrough_87 : decode cX1_goneThrough 87 = .ok (.iload_n 1, 1) := by decide +kernel
theorem dX1_goneThrough_88 : decode cX1_goneThrough 88 = .ok (.iaload, 1) := by decide +kernel
theorem dX1_goneThrough_89 : decode cX1_goneThrough 89 = .ok (.aload_n 0, 1) := by decide +kernel
theorem dX1_goneThrough_90 : decode cX1_goneThrough 90 = .ok (.getfield 22, 3) := by decide +kernel
theorem dX1_goneThrough_93 : decode cX1_goneThrough 93 = .ok (.iload 4, 2) := by decide +kernel
theorem dX1_goneThrough_95 : decode cX1_goneThrough 95 = .ok (.iload_n 2, 1) := by decide +kernel
theorem dX1_goneThrough_96 : decode cX1_goneThrough 96 = .ok (.iadd, 1) := by decide +kernel
theorem dX1_goneThrough_97 : decode cX1_goneThrough 97 = .ok (.iload_n 3, 1) := by decide +kernel
theorem dX1_goneThrough_98 : decode cX1_goneThrough 98 = .ok (.isub, 1) := by decide +kernel
theorem dX1_goneThrough_99 : decode cX1_goneThrough 99 = .ok (.iconst 1, 1) := by decide +kernel
theorem dX1_goneThrough_100 : decode cX1_goneThrough 100 = .ok (.iadd, 1) := by decide +kernel
theorem dX1_goneThrough_101 : decode cX1_goneThrough 101 = .ok (.iaload, 1) := by decide +kernel
theorem dX1_goneThrough_102 : decode cX1_goneThrough 102 = .ok (.iand, 1) := by decide +kernel
theorem dX1_goneThrough_103 : decode cX1_goneThrough 103 = .ok (.ireturn, 1) := by decide +kernel
theorem dX1_goneThrough_104 : decode cX1_goneThrough 104 = .ok (.iload_n 2, 1) := by decide +kernel
theorem dX1_goneThrough_105 : decode cX1_goneThrough 105 = .ok (.iconst 1, 1) := by decide +kernel
theorem dX1_goneThrough_106 : decode cX1_goneThrough 106 = .ok (.isub, 1) := by decide +kernel
theorem dX1_goneThrough_107 : decode cX1_goneThrough 107 = .ok (.istore 7, 2) := by decide +kernel
theorem dX1_goneThrough_109 : decode cX1_goneThrough 109 = .ok (.iload 7, 2) := by decide +kernel
theorem dX1_goneThrough_111 : decode cX1_goneThrough 111 = .ok (.iload_n 2, 1) := by decide +kernel
theorem dX1_goneThrough_112 : decode cX1_goneThrough 112 = .ok (.iload_n 3, 1) := by decide +kernel
theorem dX1_goneThrough_113 : decode cX1_goneThrough 113 = .ok (.isub, 1) := by decide +kernel
theorem dX1_goneThrough_114 : decode cX1_goneThrough 114 = .ok (.if_icmp .le 34, 3) := by decide +kernel
theorem dX1_goneThrough_117 : decode cX1_goneThrough 117 = .ok (.aload_n 0, 1) := by decide +kernel
theorem dX1_goneThrough_118 : decode cX1_goneThrough 118 = .ok (.getfield 22, 3) := by decide +kernel
theorem dX1_goneThrough_121 : decode cX1_goneThrough 121 = .ok (.iload 4, 2) := by decide +kernel
theorem dX1_goneThrough_123 : decode cX1_goneThrough 123 = .ok (.iload 7, 2) := by decide +kernel
theorem dX1_goneThrough_125 : decode cX1_goneThrough 125 = .ok (.iadd, 1) := by decide +kernel
theorem dX1_goneThrough_126 : decode cX1_goneThrough 126 = .ok (.dup2, 1) := by decide +kernel
theorem dX1_goneThrough_127 : decode cX1_goneThrough 127 = .ok (.iaload, 1) := by decide +kernel
theorem dX1_goneThrough_128 : decode cX1_goneThrough 128 = .ok (.aload_n 0, 1) := by decide +kernel
theorem dX1_goneThrough_129 : decode cX1_goneThrough 129 = .ok (.getfield 22, 3) := by decide +kernel
theorem dX1_goneThrough_132 : decode cX1_goneThrough 132 = .ok (.iload 4, 2) := by decide +kernel
theorem dX1_goneThrough_134 : decode cX1_goneThrough 134 = .ok (.iload 7, 2) := by decide +kernel
theorem dX1_goneThrough_136 : decode cX1_goneThrough 136 = .ok (.iadd, 1) := by decide +kernel
theorem dX1_goneThrough_137 : decode cX1_goneThrough 137 = .ok (.iconst 1, 1) := by decide +kernel
theorem dX1_goneThrough_138 : decode cX1_goneThrough 138 = .ok (.iadd, 1) := by decide +kernel
theorem dX1_goneThrough_139 : decode cX1_goneThrough 139 = .ok (.iaload, 1) := by decide +kernel
theorem dX1_goneThrough_140 : decode cX1_goneThrough 140 = .ok (.iand, 1) := by decide +kernel
theorem dX1_goneThrough_141 : decode cX1_goneThrough 141 = .ok (.iastore, 1) := by decide +kernel
theorem dX1_goneThrough_142 : decode cX1_goneThrough 142 = .ok (.iinc 7 (-1), 3) := by decide +kernel
theorem dX1_goneThrough_145 : decode cX1_goneThrough 145 = .ok (.goto (-36), 3) := by decide +kernel
theorem dX1_goneThrough_148 : decode cX1_goneThrough 148 = .ok (.aload_n 0, 1) := by decide +kernel
theorem dX1_goneThrough_149 : decode cX1_goneThrough 149 = .ok (.getfield 25, 3) := by decide +kernel
theorem dX1_goneThrough_152 : decode cX1_goneThrough 152 = .ok (.iload_n 1, 1) := by decide +kernel
theorem dX1_goneThrough_153 : decode cX1_goneThrough 153 = .ok (.iaload, 1) := by decide +kernel
theorem dX1_goneThrough_154 : decode cX1_goneThrough 154 = .ok (.ireturn, 1) := by decide +kernel
theorem dX1_firstSecondOf_0 : decode cX1_firstSecondOf 0 = .ok (.iconst 0, 1) := by decide +kernel
theorem dX1_firstSecondOf_1 : decode cX1_firstSecondOf 1 = .ok (.istore_n 2, 1) := by decide +kernel
theorem dX1_firstSecondOf_2 : decode cX1_firstSecondOf 2 = .ok (.iload_n 2, 1) := by decide +kernel
theorem dX1_firstSecondOf_3 : decode cX1_firstSecondOf 3 = .ok (.aload_n 0, 1) := by decide +kernel
theorem dX1_firstSecondOf_4 : decode cX1_firstSecondOf 4 = .ok (.getfield 12, 3) := by decide +kernel
theorem dX1_firstSecondOf_7 : decode cX1_firstSecondOf 7 = .ok (.getfield 82, 3) := by decide +kernel
theorem dX1_firstSecondOf_10 : decode cX1_firstSecondOf 10 = .ok (.if_icmp .gt 22, 3) := by decide +kernel
theorem dX1_firstSecondOf_13 : decode cX1_firstSecondOf 13 = .ok (.aload_n 0, 1) := by decide +kernel
theorem dX1_firstSecondOf_14 : decode cX1_firstSecondOf 14 = .ok (.getfield 31, 3) := by decide +kernel
theorem dX1_firstSecondOf_17 : decode cX1_firstSecondOf 17 = .ok (.iload_n 2, 1) := by decide +kernel
theorem dX1_firstSecondOf_18 : decode cX1_firstSecondOf 18 = .ok (.iaload, 1) := by decide +kernel
theorem dX1_firstSecondOf_19 : decode cX1_firstSecondOf 19 = .ok (.iload_n 1, 1) := by decide +kernel
theorem dX1_firstSecondOf_20 : decode cX1_firstSecondOf 20 = .ok (.iand, 1) := by decide +kernel
theorem dX1_firstSecondOf_21 : decode cX1_firstSecondOf 21 = .ok (.ifCond .eq 5, 3) := by decide +kernel
theorem dX1_firstSecondOf_24 : decode cX1_firstSecondOf 24 = .ok (.iload_n 2, 1) := by decide +kernel
theorem dX1_firstSecondOf_25 : decode cX1_firstSecondOf 25 = .ok (.ireturn, 1) := by decide +kernel
theorem dX1_firstSecondOf_26 : decode cX1_firstSecondOf 26 = .ok (.iinc 2 1, 3) := by decide +kernel
theorem dX1_firstSecondOf_29 : decode cX1_firstSecondOf 29 = .ok (.goto (-27), 3) := by decide +kernel
theorem dX1_firstSecondOf_32 : decode cX1_firstSecondOf 32 = .ok (.iconst (-1), 1) := by decide +kernel
theorem dX1_firstSecondOf_33 : decode cX1_firstSecondOf 33 = .ok (.ireturn, 1) := by decide +kernel
theorem dX1_limbsAt_0 : decode cX1_limbsAt 0 = .ok (.iconst 0, 1) := by decide +kernel
theorem dX1_limbsAt_1 : decode cX1_limbsAt 1 = .ok (.istore_n 2, 1) := by decide +kernel
theorem dX1_limbsAt_2 : decode cX1_limbsAt 2 = .ok (.iload_n 1, 1) := by decide +kernel
theorem dX1_limbsAt_3 : decode cX1_limbsAt 3 = .ok (.aload_n 0, 1) := by decide +kernel
theorem dX1_limbsAt_4 : decode cX1_limbsAt 4 = .ok (.getfield 12, 3) := by decide +kernel
theorem dX1_limbsAt_7 : decode cX1_limbsAt 7 = .ok (.getfield 82, 3) := by decide +kernel
theorem dX1_limbsAt_10 : decode cX1_limbsAt 10 = .ok (.if_icmp .le 5, 3) := by decide +kernel
theorem dX1_limbsAt_13 : decode cX1_limbsAt 13 = .ok (.iload_n 2, 1) := by decide +kernel
theorem dX1_limbsAt_14 : decode cX1_limbsAt 14 = .ok (.ireturn, 1) := by decide +kernel
theorem dX1_limbsAt_15 : decode cX1_limbsAt 15 = .ok (.iconst 0, 1) := by decide +kernel
theorem dX1_limbsAt_16 : decode cX1_limbsAt 16 = .ok (.istore_n 3, 1) := by decide +kernel
theorem dX1_limbsAt_17 : decode cX1_limbsAt 17 = .ok (.iload_n 3, 1) := by decide +kernel
theorem dX1_limbsAt_18 : decode cX1_limbsAt 18 = .ok (.bipush 16, 2) := by decide +kernel
theorem dX1_limbsAt_20 : decode cX1_limbsAt 20 = .ok (.if_icmp .ge 30, 3) := by decide +kernel
theorem dX1_limbsAt_23 : decode cX1_limbsAt 23 = .ok (.iload_n 2, 1) := by decide +kernel
theorem dX1_limbsAt_24 : decode cX1_limbsAt 24 = .ok (.aload_n 0, 1) := by decide +kernel
theorem dX1_limbsAt_25 : decode cX1_limbsAt 25 = .ok (.getfield 31, 3) := by decide +kernel
theorem dX1_limbsAt_28 : decode cX1_limbsAt 28 = .ok (.iload_n 1, 1) := by decide +kernel
theorem dX1_limbsAt_29 : decode cX1_limbsAt 29 = .ok (.iaload, 1) := by decide +kernel
theorem dX1_limbsAt_30 : decode cX1_limbsAt 30 = .ok (.iload_n 3, 1) := by decide +kernel
theorem dX1_limbsAt_31 : decode cX1_limbsAt 31 = .ok (.invokestatic 68, 3) := by decide +kernel
theorem dX1_limbsAt_34 : decode cX1_limbsAt 34 = .ok (.ifCond .eq 7, 3) := by decide +kernel
theorem dX1_limbsAt_37 : decode cX1_limbsAt 37 = .ok (.iload_n 3, 1) := by decide +kernel
theorem dX1_limbsAt_38 : decode cX1_limbsAt 38 = .ok (.goto 4, 3) := by decide +kernel
theorem dX1_limbsAt_41 : decode cX1_limbsAt 41 = .ok (.iconst 0, 1) := by decide +kernel
theorem dX1_limbsAt_42 : decode cX1_limbsAt 42 = .ok (.ior, 1) := by decide +kernel
theorem dX1_limbsAt_43 : decode cX1_limbsAt 43 = .ok (.istore_n 2, 1) := by decide +kernel
theorem dX1_limbsAt_44 : decode cX1_limbsAt 44 = .ok (.iinc 3 1, 3) := by decide +kernel
theorem dX1_limbsAt_47 : decode cX1_limbsAt 47 = .ok (.goto (-30), 3) := by decide +kernel
theorem dX1_limbsAt_50 : decode cX1_limbsAt 50 = .ok (.iload_n 2, 1) := by decide +kernel
theorem dX1_limbsAt_51 : decode cX1_limbsAt 51 = .ok (.ireturn, 1) := by decide +kernel
theorem dX1_canEver_0 : decode cX1_canEver 0 = .ok (.iload_n 2, 1) := by decide +kernel
theorem dX1_canEver_1 : decode cX1_canEver 1 = .ok (.aload_n 0, 1) := by decide +kernel
theorem dX1_canEver_2 : decode cX1_canEver 2 = .ok (.getfield 37, 3) := by decide +kernel
theorem dX1_canEver_5 : decode cX1_canEver 5 = .ok (.invokevirtual 140, 3) := by decide +kernel
theorem dX1_canEver_8 : decode cX1_canEver 8 = .ok (.iand, 1) := by decide +kernel
theorem dX1_canEver_9 : decode cX1_canEver 9 = .ok (.istore 5, 2) := by decide +kernel
theorem dX1_canEver_11 : decode cX1_canEver 11 = .ok (.iload_n 1, 1) := by decide +kernel
theorem dX1_canEver_12 : decode cX1_canEver 12 = .ok (.bipush 64, 2) := by decide +kernel
theorem dX1_canEver_14 : decode cX1_canEver 14 = .ok (.imul, 1) := by decide +kernel
theorem dX1_canEver_15 : decode cX1_canEver 15 = .ok (.iload 5, 2) := by decide +kernel
theorem dX1_canEver_17 : decode cX1_canEver 17 = .ok (.iadd, 1) := by decide +kernel
theorem dX1_canEver_18 : decode cX1_canEver 18 = .ok (.iconst 2, 1) := by decide +kernel
theorem dX1_canEver_19 : decode cX1_canEver 19 = .ok (.imul, 1) := by decide +kernel
theorem dX1_canEver_20 : decode cX1_canEver 20 = .ok (.iload_n 3, 1) := by decide +kernel
theorem dX1_canEver_21 : decode cX1_canEver 21 = .ok (.ifCond .eq 7, 3) := by decide +kernel
theorem dX1_canEver_24 : decode cX1_canEver 24 = .ok (.iconst 1, 1) := by decide +kernel
theorem dX1_canEver_25 : decode cX1_canEver 25 = .ok (.goto 4, 3) := by decide +kernel
theorem dX1_canEver_28 : decode cX1_canEver 28 = .ok (.iconst 0, 1) := by decide +kernel
theorem dX1_canEver_29 : decode cX1_canEver 29 = .ok (.iadd, 1) := by decide +kernel
theorem dX1_canEver_30 : decode cX1_canEver 30 = .ok (.istore 6, 2) := by decide +kernel
theorem dX1_canEver_32 : decode cX1_canEver 32 = .ok (.aload_n 0, 1) := by decide +kernel
theorem dX1_canEver_33 : decode cX1_canEver 33 = .ok (.getfield 34, 3) := by decide +kernel
theorem dX1_canEver_36 : decode cX1_canEver 36 = .ok (.iload 6, 2) := by decide +kernel
theorem dX1_canEver_38 : decode cX1_canEver 38 = .ok (.iaload, 1) := by decide +kernel
theorem dX1_canEver_39 : decode cX1_canEver 39 = .ok (.ifCond .ne 56, 3) := by decide +kernel
theorem dX1_canEver_42 : decode cX1_canEver 42 = .ok (.aload_n 0, 1) := by decide +kernel
theorem dX1_canEver_43 : decode cX1_canEver 43 = .ok (.iload_n 1, 1) := by decide +kernel
theorem dX1_canEver_44 : decode cX1_canEver 44 = .ok (.iconst (-1), 1) := by decide +kernel
theorem dX1_canEver_45 : decode cX1_canEver 45 = .ok (.iload 5, 2) := by decide +kernel
theorem dX1_canEver_47 : decode cX1_canEver 47 = .ok (.iload_n 3, 1) := by decide +kernel
theorem dX1_canEver_48 : decode cX1_canEver 48 = .ok (.invokevirtual 143, 3) := by decide +kernel
theorem dX1_canEver_51 : decode cX1_canEver 51 = .ok (.aload_n 0, 1) := by decide +kernel
theorem dX1_canEver_52 : decode cX1_canEver 52 = .ok (.iload 5, 2) := by decide +kernel
theorem dX1_canEver_54 : decode cX1_canEver 54 = .ok (.invokevirtual 107, 3) := by decide +kernel
theorem dX1_canEver_57 : decode cX1_canEver 57 = .ok (.iconst 0, 1) := by decide +kernel
theorem dX1_canEver_58 : decode cX1_canEver 58 = .ok (.istore 7, 2) := by decide +kernel
theorem dX1_canEver_60 : decode cX1_canEver 60 = .ok (.iload 7, 2) := by decide +kernel
theorem dX1_canEver_62 : decode cX1_canEver 62 = .ok (.aload_n 0, 1) := by decide +kernel
theorem dX1_canEver_63 : decode cX1_canEver 63 = .ok (.getfield 12, 3) := by decide +kernel
theorem dX1_canEver_66 : decode cX1_canEver 66 = .ok (.getfield 82, 3) := by decide +kernel
theorem dX1_canEver_69 : decode cX1_canEver 69 = .ok (.if_icmp .gt 26, 3) := by decide +kernel
theorem dX1_canEver_72 : decode cX1_canEver 72 = .ok (.aload_n 0, 1) := by decide +kernel
theorem dX1_canEver_73 : decode cX1_canEver 73 = .ok (.getfield 34, 3) := by decide +kernel
theorem dX1_canEver_76 : decode cX1_canEver 76 = .ok (.iload 6, 2) := by decide +kernel
theorem dX1_canEver_78 : decode cX1_canEver 78 = .ok (.dup2, 1) := by decide +kernel
theorem dX1_canEver_79 : decode cX1_canEver 79 = .ok (.iaload, 1) := by decide +kernel
theorem dX1_canEver_80 : decode cX1_canEver 80 = .ok (.aload_n 0, 1) := by decide +kernel
theorem dX1_canEver_81 : decode cX1_canEver 81 = .ok (.getfield 31, 3) := by decide +kernel
theorem dX1_canEver_84 : decode cX1_canEver 84 = .ok (.iload 7, 2) := by decide +kernel
theorem dX1_canEver_86 : decode cX1_canEver 86 = .ok (.iaload, 1) := by decide +kernel
theorem dX1_canEver_87 : decode cX1_canEver 87 = .ok (.ior, 1) := by decide +kernel
theorem dX1_canEver_88 : decode cX1_canEver 88 = .ok (.iastore, 1) := by decide +kernel
theorem dX1_canEver_89 : decode cX1_canEver 89 = .ok (.iinc 7 1, 3) := by decide +kernel
theorem dX1_canEver_92 : decode cX1_canEver 92 = .ok (.goto (-32), 3) := by decide +kernel
theorem dX1_canEver_95 : decode cX1_canEver 95 = .ok (.aload_n 0, 1) := by decide +kernel
theorem dX1_canEver_96 : decode cX1_canEver 96 = .ok (.getfield 34, 3) := by decide +kernel
theorem dX1_canEver_99 : decode cX1_canEver 99 = .ok (.iload 6, 2) := by decide +kernel
theorem dX1_canEver_101 : decode cX1_canEver 101 = .ok (.iaload, 1) := by decide +kernel
theorem dX1_canEver_102 : decode cX1_canEver 102 = .ok (.aload_n 0, 1) := by decide +kernel
theorem dX1_canEver_103 : decode cX1_canEver 103 = .ok (.getfield 37, 3) := by decide +kernel
theorem dX1_canEver_106 : decode cX1_canEver 106 = .ok (.iload 4, 2) := by decide +kernel
theorem dX1_canEver_108 : decode cX1_canEver 108 = .ok (.iload 5, 2) := by decide +kernel
theorem dX1_canEver_110 : decode cX1_canEver 110 = .ok (.invokevirtual 104, 3) := by decide +kernel
theorem dX1_canEver_113 : decode cX1_canEver 113 = .ok (.iand, 1) := by decide +kernel
theorem dX1_canEver_114 : decode cX1_canEver 114 = .ok (.ifCond .eq 7, 3) := by decide +kernel
theorem dX1_canEver_117 : decode cX1_canEver 117 = .ok (.iconst 1, 1) := by decide +kernel
theorem dX1_canEver_118 : decode cX1_canEver 118 = .ok (.goto 4, 3) := by decide +kernel
theorem dX1_canEver_121 : decode cX1_canEver 121 = .ok (.iconst 0, 1) := by decide +kernel
theorem dX1_canEver_122 : decode cX1_canEver 122 = .ok (.ireturn, 1) := by decide +kernel
theorem dX2_init_0 : decode cX2_init 0 = .ok (.aload_n 0, 1) := by decide +kernel
theorem dX2_init_1 : decode cX2_init 1 = .ok (.invokespecial 3, 3) := by decide +kernel
theorem dX2_init_4 : decode cX2_init 4 = .ok (.aload_n 0, 1) := by decide +kernel
theorem dX2_init_5 : decode cX2_init 5 = .ok (.new 9, 3) := by decide +kernel
theorem dX2_init_8 : decode cX2_init 8 = .ok (.dup, 1) := by decide +kernel
theorem dX2_init_9 : decode cX2_init 9 = .ok (.invokespecial 11, 3) := by decide +kernel
theorem dX2_init_12 : decode cX2_init 12 = .ok (.putfield 12, 3) := by decide +kernel
theorem dX2_init_15 : decode cX2_init 15 = .ok (.aload_n 0, 1) := by decide +kernel
theorem dX2_init_16 : decode cX2_init 16 = .ok (.iconst (-1), 1) := by decide +kernel
theorem dX2_init_17 : decode cX2_init 17 = .ok (.putfield 18, 3) := by decide +kernel
theorem dX2_init_20 : decode cX2_init 20 = .ok (.aload_n 0, 1) := by decide +kernel
theorem dX2_init_21 : decode cX2_init 21 = .ok (.bipush 30, 2) := by decide +kernel
theorem dX2_init_23 : decode cX2_init 23 = .ok (.newarray .int, 2) := by decide +kernel
theorem dX2_init_25 : decode cX2_init 25 = .ok (.putfield 24, 3) := by decide +kernel
theorem dX2_init_28 : decode cX2_init 28 = .ok (.aload_n 0, 1) := by decide +kernel
theorem dX2_init_29 : decode cX2_init 29 = .ok (.sipush 800, 3) := by decide +kernel
theorem dX2_init_32 : decode cX2_init 32 = .ok (.newarray .int, 2) := by decide +kernel
theorem dX2_init_34 : decode cX2_init 34 = .ok (.putfield 28, 3) := by decide +kernel
theorem dX2_init_37 : decode cX2_init 37 = .ok (.return_, 1) := by decide +kernel
theorem dX2_readLines_0 : decode cX2_readLines 0 = .ok (.aload_n 0, 1) := by decide +kernel
theorem dX2_readLines_1 : decode cX2_readLines 1 = .ok (.getfield 12, 3) := by decide +kernel
theorem dX2_readLines_4 : decode cX2_readLines 4 = .ok (.aload_n 1, 1) := by decide +kernel
theorem dX2_readLines_5 : decode cX2_readLines 5 = .ok (.iload_n 2, 1) := by decide +kernel
theorem dX2_readLines_6 : decode cX2_readLines 6 = .ok (.invokevirtual 31, 3) := by decide +kernel
theorem dX2_readLines_9 : decode cX2_readLines 9 = .ok (.aload_n 0, 1) := by decide +kernel
theorem dX2_readLines_10 : decode cX2_readLines 10 = .ok (.invokevirtual 35, 3) := by decide +kernel
theorem dX2_readLines_13 : decode cX2_readLines 13 = .ok (.aload_n 0, 1) := by decide +kernel
theorem dX2_readLines_14 : decode cX2_readLines 14 = .ok (.invokevirtual 38, 3) := by decide +kernel
theorem dX2_readLines_17 : decode cX2_readLines 17 = .ok (.ifCond .ne 5, 3) := by decide +kernel
theorem dX2_readLines_20 : decode cX2_readLines 20 = .ok (.iconst 1, 1) := by decide +kernel
theorem dX2_readLines_21 : decode cX2_readLines 21 = .ok (.ireturn, 1) := by decide +kernel
theorem dX2_readLines_22 : decode cX2_readLines 22 = .ok (.iconst 0, 1) := by decide +kernel
theorem dX2_readLines_23 : decode cX2_readLines 23 = .ok (.istore 4, 2) := by decide +kernel
theorem dX2_readLines_25 : decode cX2_readLines 25 = .ok (.iload 4, 2) := by decide +kernel
theorem dX2_readLines_27 : decode cX2_readLines 27 = .ok (.bipush 10, 2) := by decide +kernel
theorem dX2_readLines_29 : decode cX2_readLines 29 = .ok (.if_icmp .ge 52, 3) := by decide +kernel
theorem dX2_readLines_32 : decode cX2_readLines 32 = .ok (.iload_n 3, 1) := by decide +kernel
theorem dX2_readLines_33 : decode cX2_readLines 33 = .ok (.ifCond .eq 10, 3) := by decide +kernel
theorem dX2_readLines_36 : decode cX2_readLines 36 = .ok (.aload_n 0, 1) := by decide +kernel
theorem dX2_readLines_37 : decode cX2_readLines 37 = .ok (.invokevirtual 42, 3) := by decide +kernel
theorem dX2_readLines_40 : decode cX2_readLines 40 = .ok (.goto 7, 3) := by decide +kernel
theorem dX2_readLines_43 : decode cX2_readLines 43 = .ok (.aload_n 0, 1) := by decide +kernel
theorem dX2_readLines_44 : decode cX2_readLines 44 = .ok (.invokevirtual 46, 3) := by decide +kernel
theorem dX2_readLines_47 : decode cX2_readLines 47 = .ok (.istore 5, 2) := by decide +kernel
theorem dX2_readLines_49 : decode cX2_readLines 49 = .ok (.iload 5, 2) := by decide +kernel
theorem dX2_readLines_51 : decode cX2_readLines 51 = .ok (.ifCond .ne 5, 3) := by decide +kernel
theorem dX2_readLines_54 : decode cX2_readLines 54 = .ok (.iconst 0, 1) := by decide +kernel
theorem dX2_readLines_55 : decode cX2_readLines 55 = .ok (.ireturn, 1) := by decide +kernel
theorem dX2_readLines_56 : decode cX2_readLines 56 = .ok (.aload_n 0, 1) := by decide +kernel
theorem dX2_readLines_57 : decode cX2_readLines 57 = .ok (.invokevirtual 38, 3) := by decide +kernel
theorem dX2_readLines_60 : decode cX2_readLines 60 = .ok (.ifCond .ne 5, 3) := by decide +kernel
theorem dX2_readLines_63 : decode cX2_readLines 63 = .ok (.iconst 1, 1) := by decide +kernel
theorem dX2_readLines_64 : decode cX2_readLines 64 = .ok (.ireturn, 1) := by decide +kernel
theorem dX2_readLines_65 : decode cX2_readLines 65 = .ok (.aload_n 0, 1) := by decide +kernel
theorem dX2_readLines_66 : decode cX2_readLines 66 = .ok (.iconst 4, 1) := by decide +kernel
theorem dX2_readLines_67 : decode cX2_readLines 67 = .ok (.invokevirtual 51, 3) := by decide +kernel
theorem dX2_readLines_70 : decode cX2_readLines 70 = .ok (.ifCond .ne 5, 3) := by decide +kernel
theorem dX2_readLines_73 : decode cX2_readLines 73 = .ok (.iconst 0, 1) := by decide +kernel
theorem dX2_readLines_74 : decode cX2_readLines 74 = .ok (.ireturn, 1) := by decide +kernel
theorem dX2_readLines_75 : decode cX2_readLines 75 = .ok (.iinc 4 1, 3) := by decide +kernel
theorem dX2_readLines_78 : decode cX2_readLines 78 = .ok (.goto (-53), 3) := by decide +kernel
theorem dX2_readLines_81 : decode cX2_readLines 81 = .ok (.aload_n 0, 1) := by decide +kernel
theorem dX2_readLines_82 : decode cX2_readLines 82 = .ok (.invokevirtual 55, 3) := by decide +kernel
theorem dX2_readLines_85 : decode cX2_readLines 85 = .ok (.ireturn, 1) := by decide +kernel
theorem dX2_ruleRead_0 : decode cX2_ruleRead 0 = .ok (.new 22, 3) := by decide +kernel
theorem dX2_ruleRead_3 : decode cX2_ruleRead 3 = .ok (.dup, 1) := by decide +kernel
theorem dX2_ruleRead_4 : decode cX2_ruleRead 4 = .ok (.aload_n 0, 1) := by decide +kernel
theorem dX2_ruleRead_5 : decode cX2_ruleRead 5 = .ok (.getfield 24, 3) := by decide +kernel
theorem dX2_ruleRead_8 : decode cX2_ruleRead 8 = .ok (.aload_n 0, 1) := by decide +kernel
theorem dX2_ruleRead_9 : decode cX2_ruleRead 9 = .ok (.getfield 58, 3) := by decide +kernel
theorem dX2_ruleRead_12 : decode cX2_ruleRead 12 = .ok (.invokestatic 61, 3) := by decide +kernel
theorem dX2_ruleRead_15 : decode cX2_ruleRead 15 = .ok (.invokespecial 67, 3) := by decide +kernel
theorem dX2_ruleRead_18 : decode cX2_ruleRead 18 = .ok (.areturn, 1) := by decide +kernel
theorem dX2_wayRead_0 : decode cX2_wayRead 0 = .ok (.new 70, 3) := by decide +kernel
theorem dX2_wayRead_3 : decode cX2_wayRead 3 = .ok (.dup, 1) := by decide +kernel
theorem dX2_wayRead_4 : decode cX2_wayRead 4 = .ok (.aload_n 0, 1) := by decide +kernel
theorem dX2_wayRead_5 : decode cX2_wayRead 5 = .ok (.getfield 72, 3) := by decide +kernel
theorem dX2_wayRead_8 : decode cX2_wayRead 8 = .ok (.aload_n 0, 1) := by decide +kernel
theorem dX2_wayRead_9 : decode cX2_wayRead 9 = .ok (.getfield 75, 3) := by decide +kernel
theorem dX2_wayRead_12 : decode cX2_wayRead 12 = .ok (.aload_n 0, 1) := by decide +kernel
theorem dX2_wayRead_13 : decode cX2_wayRead 13 = .ok (.getfield 78, 3) := by decide +kernel
theorem dX2_wayRead_16 : decode cX2_wayRead 16 = .ok (.aload_n 0, 1) := by decide +kernel
theorem dX2_wayRead_17 : decode cX2_wayRead 17 = .ok (.getfield 28, 3) := by decide +kernel
theorem dX2_wayRead_20 : decode cX2_wayRead 20 = .ok (.aload_n 0, 1) := by decide +kernel
theorem dX2_wayRead_21 : decode cX2_wayRead 21 = .ok (.getfield 81, 3) := by decide +kernel
theorem dX2_wayRead_24 : decode cX2_wayRead 24 = .ok (.invokestatic 61, 3) := by decide +kernel
theorem dX2_wayRead_27 : decode cX2_wayRead 27 = .ok (.invokespecial 84, 3) := by decide +kernel
theorem dX2_wayRead_30 : decode cX2_wayRead 30 = .ok (.areturn, 1) := by decide +kernel
theorem dX2_startAnew_0 : decode cX2_startAnew 0 = .ok (.aload_n 0, 1) := by decide +kernel
theorem dX2_startAnew_1 : decode cX2_startAnew 1 = .ok (.iconst 0, 1) := by decide +kernel
theorem dX2_startAnew_2 : decode cX2_startAnew 2 = .ok (.putfield 87, 3) := by decide +kernel
theorem dX2_startAnew_5 : decode cX2_startAnew 5 = .ok (.aload_n 0, 1) := by decide +kernel
theorem dX2_startAnew_6 : decode cX2_startAnew 6 = .ok (.iconst (-1), 1) := by decide +kernel
theorem dX2_startAnew_7 : decode cX2_startAnew 7 = .ok (.putfield 18, 3) := by decide +kernel
theorem dX2_startAnew_10 : decode cX2_startAnew 10 = .ok (.aload_n 0, 1) := by decide +kernel
theorem dX2_startAnew_11 : decode cX2_startAnew 11 = .ok (.iconst 0, 1) := by decide +kernel
theorem dX2_startAnew_12 : decode cX2_startAnew 12 = .ok (.putfield 58, 3) := by decide +kernel
theorem dX2_startAnew_15 : decode cX2_startAnew 15 = .ok (.aload_n 0, 1) := by decide +kernel
theorem dX2_startAnew_16 : decode cX2_startAnew 16 = .ok (.iconst 0, 1) := by decide +kernel
theorem dX2_startAnew_17 : decode cX2_startAnew 17 = .ok (.putfield 72, 3) := by decide +kernel
theorem dX2_startAnew_20 : decode cX2_startAnew 20 = .ok (.aload_n 0, 1) := by decide +kernel
theorem dX2_startAnew_21 : decode cX2_startAnew 21 = .ok (.iconst 1, 1) := by decide +kernel
theorem dX2_startAnew_22 : decode cX2_startAnew 22 = .ok (.putfield 75, 3) := by decide +kernel
theorem dX2_startAnew_25 : decode cX2_startAnew 25 = .ok (.aload_n 0, 1) := by decide +kernel
theorem dX2_startAnew_26 : decode cX2_startAnew 26 = .ok (.iconst 0, 1) := by decide +kernel
theorem dX2_startAnew_27 : decode cX2_startAnew 27 = .ok (.putfield 78, 3) := by decide +kernel
theorem dX2_startAnew_30 : decode cX2_startAnew 30 = .ok (.aload_n 0, 1) := by decide +kernel
theorem dX2_startAnew_31 : decode cX2_startAnew 31 = .ok (.iconst 0, 1) := by decide +kernel
theorem dX2_startAnew_32 : decode cX2_startAnew 32 = .ok (.putfield 81, 3) := by decide +kernel
theorem dX2_startAnew_35 : decode cX2_startAnew 35 = .ok (.return_, 1) := by decide +kernel
theorem dX2_token_0 : decode cX2_token 0 = .ok (.aload_n 0, 1) := by decide +kernel
theorem dX2_token_1 : decode cX2_token 1 = .ok (.getfield 12, 3) := by decide +kernel
theorem dX2_token_4 : decode cX2_token 4 = .ok (.getfield 90, 3) := by decide +kernel
theorem dX2_token_7 : decode cX2_token 7 = .ok (.aload_n 0, 1) := by decide +kernel
theorem dX2_token_8 : decode cX2_token 8 = .ok (.getfield 87, 3) := by decide +kernel
theorem dX2_token_11 : decode cX2_token 11 = .ok (.iaload, 1) := by decide +kernel
theorem dX2_token_12 : decode cX2_token 12 = .ok (.ireturn, 1) := by decide +kernel
theorem dX2_refuse_0 : decode cX2_refuse 0 = .ok (.aload_n 0, 1) := by decide +kernel
theorem dX2_refuse_1 : decode cX2_refuse 1 = .ok (.aload_n 0, 1) := by decide +kernel
theorem dX2_refuse_2 : decode cX2_refuse 2 = .ok (.getfield 12, 3) := by decide +kernel
theorem dX2_refuse_5 : decode cX2_refuse 5 = .ok (.getfield 93, 3) := by decide +kernel
theorem dX2_refuse_8 : decode cX2_refuse 8 = .ok (.aload_n 0, 1) := by decide +kernel
theorem dX2_refuse_9 : decode cX2_refuse 9 = .ok (.getfield 87, 3) := by decide +kernel
theorem dX2_refuse_12 : decode cX2_refuse 12 = .ok (.iaload, 1) := by decide +kernel
theorem dX2_refuse_13 : decode cX2_refuse 13 = .ok (.putfield 18, 3) := by decide +kernel
theorem dX2_refuse_16 : decode cX2_refuse 16 = .ok (.iconst 0, 1) := by decide +kernel
theorem dX2_refuse_17 : decode cX2_refuse 17 = .ok (.ireturn, 1) := by decide +kernel
theorem dX2_pass_0 : decode cX2_pass 0 = .ok (.aload_n 0, 1) := by decide +kernel
theorem dX2_pass_1 : decode cX2_pass 1 = .ok (.invokevirtual 38, 3) := by decide +kernel
theorem dX2_pass_4 : decode cX2_pass 4 = .ok (.iload_n 1, 1) := by decide +kernel
theorem dX2_pass_5 : decode cX2_pass 5 = .ok (.if_icmp .eq 8, 3) := by decide +kernel
theorem dX2_pass_8 : decode cX2_pass 8 = .ok (.aload_n 0, 1) := by decide +kernel
theorem dX2_pass_9 : decode cX2_pass 9 = .ok (.invokevirtual 55, 3) := by decide +kernel
theorem dX2_pass_12 : decode cX2_pass 12 = .ok (.ireturn, 1) := by decide +kernel
theorem dX2_pass_13 : decode cX2_pass 13 = .ok (.aload_n 0, 1) := by decide +kernel
theorem dX2_pass_14 : decode cX2_pass 14 = .ok (.dup, 1) := by decide +kernel
theorem dX2_pass_15 : decode cX2_pass 15 = .ok (.getfield 87, 3) := by decide +kernel
theorem dX2_pass_18 : decode cX2_pass 18 = .ok (.iconst 1, 1) := by decide +kernel
theorem dX2_pass_19 : decode cX2_pass 19 = .ok (.iadd, 1) := by decide +kernel
theorem dX2_pass_20 : decode cX2_pass 20 = .ok (.putfield 87, 3) := by decide +kernel
theorem dX2_pass_23 : decode cX2_pass 23 = .ok (.iconst 1, 1) := by decide +kernel
theorem dX2_pass_24 : decode cX2_pass 24 = .ok (.ireturn, 1) := by decide +kernel
theorem dX2_number_0 : decode cX2_number 0 = .ok (.aload_n 0, 1) := by decide +kernel
theorem dX2_number_1 : decode cX2_number 1 = .ok (.getfield 12, 3) := by decide +kernel
theorem dX2_number_4 : decode cX2_number 4 = .ok (.getfield 90, 3) := by decide +kernel
theorem dX2_number_7 : decode cX2_number 7 = .ok (.aload_n 0, 1) := by decide +kernel
theorem dX2_number_8 : decode cX2_number 8 = .ok (.getfield 87, 3) := by decide +kernel
theorem dX2_number_11 : decode cX2_number 11 = .ok (.iaload, 1) := by decide +kernel
theorem dX2_number_12 : decode cX2_number 12 = .ok (.iconst 2, 1) := by decide +kernel
theorem dX2_number_13 : decode cX2_number 13 = .ok (.if_icmp .ne 18, 3) := by decide +kernel
theorem dX2_number_16 : decode cX2_number 16 = .ok (.aload_n 0, 1) := by decide +kernel
theorem dX2_number_17 : decode cX2_number 17 = .ok (.getfield 12, 3) := by decide +kernel
theorem dX2_number_20 : decode cX2_number 20 = .ok (.getfield 96, 3) := by decide +kernel
theorem dX2_number_23 : decode cX2_number 23 = .ok (.aload_n 0, 1) := by decide +kernel
theorem dX2_number_24 : decode cX2_number 24 = .ok (.getfield 87, 3) := by decide +kernel
theorem dX2_number_27 : decode cX2_number 27 = .ok (.iaload, 1) := by decide +kernel
theorem dX2_number_28 : decode cX2_number 28 = .ok (.goto 4, 3) := by decide +kernel
theorem dX2_number_31 : decode cX2_number 31 = .ok (.iconst (-1), 1) := by decide +kernel
theorem dX2_number_32 : decode cX2_number 32 = .ok (.istore_n 3, 1) := by decide +kernel
theorem dX2_number_33 : decode cX2_number 33 = .ok (.iload_n 3, 1) := by decide +kernel
theorem dX2_number_34 : decode cX2_number 34 = .ok (.iload_n 1, 1) := by decide +kernel
theorem dX2_number_35 : decode cX2_number 35 = .ok (.if_icmp .lt 8, 3) := by decide +kernel
theorem dX2_number_38 : decode cX2_number 38 = .ok (.iload_n 3, 1) := by decide +kernel
theorem dX2_number_39 : decode cX2_number 39 = .ok (.iload_n 2, 1) := by decide +kernel
theorem dX2_number_40 : decode cX2_number 40 = .ok (.if_icmp .le 21, 3) := by decide +kernel
theorem dX2_number_43 : decode cX2_number 43 = .ok (.aload_n 0, 1) := by decide +kernel
theorem dX2_number_44 : decode cX2_number 44 = .ok (.aload_n 0, 1) := by decide +kernel
theorem dX2_number_45 : decode cX2_number 45 = .ok (.getfield 12, 3) := by decide +kernel
theorem dX2_number_48 : decode cX2_number 48 = .ok (.getfield 93, 3) := by decide +kernel
theorem dX2_number_51 : decode cX2_number 51 = .ok (.aload_n 0, 1) := by decide +kernel
theorem dX2_number_52 : decode cX2_number 52 = .ok (.getfield 87, 3) := by decide +kernel
theorem dX2_number_55 : decode cX2_number 55 = .ok (.iaload, 1) := by decide +kernel
theorem dX2_number_56 : decode cX2_number 56 = .ok (.putfield 18, 3) := by decide +kernel
theorem dX2_number_59 : decode cX2_number 59 = .ok (.iconst (-1), 1) := by decide +kernel
theorem dX2_number_60 : decode cX2_number 60 = .ok (.ireturn, 1) := by decide +kernel
theorem dX2_number_61 : decode cX2_number 61 = .ok (.aload_n 0, 1) := by decide +kernel
theorem dX2_number_62 : decode cX2_number 62 = .ok (.dup, 1) := by decide +kernel
theorem dX2_number_63 : decode cX2_number 63 = .ok (.getfield 87, 3) := by decide +kernel
theorem dX2_number_66 : decode cX2_number 66 = .ok (.iconst 1, 1) := by decide +kernel
theorem dX2_number_67 : decode cX2_number 67 = .ok (.iadd, 1) := by decide +kernel
theorem dX2_number_68 : decode cX2_number 68 = .ok (.putfield 87, 3) := by decide +kernel
theorem dX2_number_71 : decode cX2_number 71 = .ok (.iload_n 3, 1) := by decide +kernel
theorem dX2_number_72 : decode cX2_number 72 = .ok (.ireturn, 1) := by decide +kernel
theorem dX2_readRuleLine_0 : decode cX2_readRuleLine 0 = .ok (.aload_n 0, 1) := by decide +kernel
theorem dX2_readRuleLine_1 : decode cX2_readRuleLine 1 = .ok (.invokevirtual 38, 3) := by decide +kernel
theorem dX2_readRuleLine_4 : decode cX2_readRuleLine 4 = .ok (.tableswitch 137 10 15 #[40, 137, 63, 85, 137, 111], 40) := by decide +kernel
theorem dX2_readRuleLine_44 : decode cX2_readRuleLine 44 = .ok (.aload_n 0, 1) := by decide +kernel
theorem dX2_readRuleLine_45 : decode cX2_readRuleLine 45 = .ok (.dup, 1) := by decide +kernel
theorem dX2_readRuleLine_46 : decode cX2_readRuleLine 46 = .ok (.getfield 87, 3) := by decide +kernel
theorem dX2_readRuleLine_49 : decode cX2_readRuleLine 49 = .ok (.iconst 1, 1) := by decide +kernel
theorem dX2_readRuleLine_50 : decode cX2_readRuleLine 50 = .ok (.iadd, 1) := by decide +kernel
theorem dX2_readRuleLine_51 : decode cX2_readRuleLine 51 = .ok (.putfield 87, 3) := by decide +kernel
theorem dX2_readRuleLine_54 : decode cX2_readRuleLine 54 = .ok (.aload_n 0, 1) := by decide +kernel
theorem dX2_readRuleLine_55 : decode cX2_readRuleLine 55 = .ok (.bipush 10, 2) := by decide +kernel
theorem dX2_readRuleLine_57 : decode cX2_readRuleLine 57 = .ok (.iconst 3, 1) := by decide +kernel
theorem dX2_readRuleLine_58 : decode cX2_readRuleLine 58 = .ok (.bipush 11, 2) := by decide +kernel
theorem dX2_readRuleLine_60 : decode cX2_readRuleLine 60 = .ok (.iconst 1, 1) := by decide +kernel
theorem dX2_readRuleLine_61 : decode cX2_readRuleLine 61 = .ok (.bipush 7, 2) := by decide +kernel
theorem dX2_readRuleLine_63 : decode cX2_readRuleLine 63 = .ok (.invokevirtual 99, 3) := by decide +kernel
theorem dX2_readRuleLine_66 : decode cX2_readRuleLine 66 = .ok (.ireturn, 1) := by decide +kernel
theorem dX2_readRuleLine_67 : decode cX2_readRuleLine 67 = .ok (.aload_n 0, 1) := by decide +kernel
theorem dX2_readRuleLine_68 : decode cX2_readRuleLine 68 = .ok (.dup, 1) := by decide +kernel
theorem dX2_readRuleLine_69 : decode cX2_readRuleLine 69 = .ok (.getfield 87, 3) := by decide +kernel
theorem dX2_readRuleLine_72 : decode cX2_readRuleLine 72 = .ok (.iconst 1, 1) := by decide +kernel
theorem dX2_readRuleLine_73 : decode cX2_readRuleLine 73 = .ok (.iadd, 1) := by decide +kernel
theorem dX2_readRuleLine_74 : decode cX2_readRuleLine 74 = .ok (.putfield 87, 3) := by decide +kernel
theorem dX2_readRuleLine_77 : decode cX2_readRuleLine 77 = .ok (.aload_n 0, 1) := by decide +kernel
theorem dX2_readRuleLine_78 : decode cX2_readRuleLine 78 = .ok (.bipush 12, 2) := by decide +kernel
theorem dX2_readRuleLine_80 : decode cX2_readRuleLine 80 = .ok (.iconst 3, 1) := by decide +kernel
theorem dX2_readRuleLine_81 : decode cX2_readRuleLine 81 = .ok (.iconst 2, 1) := by decide +kernel
theorem dX2_readRuleLine_82 : decode cX2_readRuleLine 82 = .ok (.iconst 0, 1) := by decide +kernel
theorem dX2_readRuleLine_83 : decode cX2_readRuleLine 83 = .ok (.bipush 99, 2) := by decide +kernel
theorem dX2_readRuleLine_85 : decode cX2_readRuleLine 85 = .ok (.invokevirtual 99, 3) := by decide +kernel
theorem dX2_readRuleLine_88 : decode cX2_readRuleLine 88 = .ok (.ireturn, 1) := by decide +kernel
theorem dX2_readRuleLine_89 : decode cX2_readRuleLine 89 = .ok (.aload_n 0, 1) := by decide +kernel
theorem dX2_readRuleLine_90 : decode cX2_readRuleLine 90 = .ok (.dup, 1) := by decide +kernel
theorem dX2_readRuleLine_91 : decode cX2_readRuleLine 91 = .ok (.getfield 87, 3) := by decide +kernel
theorem dX2_readRuleLine_94 : decode cX2_readRuleLine 94 = .ok (.iconst 1, 1) := by decide +kernel
theorem dX2_readRuleLine_95 : decode cX2_readRuleLine 95 = .ok (.iadd, 1) := by decide +kernel
theorem dX2_readRuleLine_96 : decode cX2_readRuleLine 96 = .ok (.putfield 87, 3) := by decide +kernel
theorem dX2_readRuleLine_99 : decode cX2_readRuleLine 99 = .ok (.aload_n 0, 1) := by decide +kernel
theorem dX2_readRuleLine_100 : decode cX2_readRuleLine 100 = .ok (.bipush 13, 2) := by decide +kernel
theorem dX2_readRuleLine_102 : decode cX2_readRuleLine 102 = .ok (.sipush 300, 3) := by decide +kernel
theorem dX2_readRuleLine_105 : decode cX2_readRuleLine 105 = .ok (.bipush 14, 2) := by decide +kernel
theorem dX2_readRuleLine_107 : decode cX2_readRuleLine 107 = .ok (.iconst 0, 1) := by decide +kernel
theorem dX2_readRuleLine_108 : decode cX2_readRuleLine 108 = .ok (.sipush 300, 3) := by decide +kernel
theorem dX2_readRuleLine_111 : decode cX2_readRuleLine 111 = .ok (.invokevirtual 99, 3) := by decide +kernel
theorem dX2_readRuleLine_114 : decode cX2_readRuleLine 114 = .ok (.ireturn, 1) := by decide +kernel
theorem dX2_readRuleLine_115 : decode cX2_readRuleLine 115 = .ok (.aload_n 0, 1) := by decide +kernel
theorem dX2_readRuleLine_116 : decode cX2_readRuleLine 116 = .ok (.dup, 1) := by decide +kernel
theorem dX2_readRuleLine_117 : decode cX2_readRuleLine 117 = .ok (.getfield 87, 3) := by decide +kernel
theorem dX2_readRuleLine_120 : decode cX2_readRuleLine 120 = .ok (.iconst 1, 1) := by decide +kernel
theorem dX2_readRuleLine_121 : decode cX2_readRuleLine 121 = .ok (.iadd, 1) := by decide +kernel
theorem dX2_readRuleLine_122 : decode cX2_readRuleLine 122 = .ok (.putfield 87, 3) := by decide +kernel
theorem dX2_readRuleLine_125 : decode cX2_readRuleLine 125 = .ok (.aload_n 0, 1) := by decide +kernel
theorem dX2_readRuleLine_126 : decode cX2_readRuleLine 126 = .ok (.bipush 15, 2) := by decide +kernel
theorem dX2_readRuleLine_128 : decode cX2_readRuleLine 128 = .ok (.aload_n 0, 1) := by decide +kernel
theorem dX2_readRuleLine_129 : decode cX2_readRuleLine 129 = .ok (.iconst 1, 1) := by decide +kernel
theorem dX2_readRuleLine_130 : decode cX2_readRuleLine 130 = .ok (.sipush 300, 3) := by decide +kernel
theorem dX2_readRuleLine_133 : decode cX2_readRuleLine 133 = .ok (.invokevirtual 103, 3) := by decide +kernel
theorem dX2_readRuleLine_136 : decode cX2_readRuleLine 136 = .ok (.iconst 0, 1) := by decide +kernel
theorem dX2_readRuleLine_137 : decode cX2_readRuleLine 137 = .ok (.invokevirtual 107, 3) := by decide +kernel
theorem dX2_readRuleLine_140 : decode cX2_readRuleLine 140 = .ok (.ireturn, 1) := by decide +kernel
theorem dX2_readRuleLine_141 : decode cX2_readRuleLine 141 = .ok (.aload_n 0, 1) := by decide +kernel
theorem dX2_readRuleLine_142 : decode cX2_readRuleLine 142 = .ok (.invokevirtual 55, 3) := by decide +kernel
theorem dX2_readRuleLine_145 : decode cX2_readRuleLine 145 = .ok (.ireturn, 1) := by decide +kernel
theorem dX2_readPair_0 : decode cX2_readPair 0 = .ok (.aload_n 0, 1) := by decide +kernel
theorem dX2_readPair_1 : decode cX2_readPair 1 = .ok (.iconst 0, 1) := by decide +kernel
theorem dX2_readPair_2 : decode cX2_readPair 2 = .ok (.iload_n 2, 1) := by decide +kernel
theorem dX2_readPair_3 : decode cX2_readPair 3 = .ok (.invokevirtual 103, 3) := by decide +kernel
theorem dX2_readPair_6 : decode cX2_readPair 6 = .ok (.istore 6, 2) := by decide +kernel
theorem dX2_readPair_8 : decode cX2_readPair 8 = .ok (.iload 6, 2) := by decide +kernel
theorem dX2_readPair_10 : decode cX2_readPair 10 = .ok (.iconst (-1), 1) := by decide +kernel
theorem dX2_readPair_11 : decode cX2_readPair 11 = .ok (.if_icmp .eq 16, 3) := by decide +kernel
theorem dX2_readPair_14 : decode cX2_readPair 14 = .ok (.iload_n 3, 1) := by decide +kernel
theorem dX2_readPair_15 : decode cX2_readPair 15 = .ok (.iconst 2, 1) := by decide +kernel
theorem dX2_readPair_16 : decode cX2_readPair 16 = .ok (.if_icmp .eq 13, 3) := by decide +kernel
theorem dX2_readPair_19 : decode cX2_readPair 19 = .ok (.aload_n 0, 1) := by decide +kernel
theorem dX2_readPair_20 : decode cX2_readPair 20 = .ok (.iload_n 3, 1) := by decide +kernel
theorem dX2_readPair_21 : decode cX2_readPair 21 = .ok (.invokevirtual 51, 3) := by decide +kernel
theorem dX2_readPair_24 : decode cX2_readPair 24 = .ok (.ifCond .ne 5, 3) := by decide +kernel
theorem dX2_readPair_27 : decode cX2_readPair 27 = .ok (.iconst 0, 1) := by decide +kernel
theorem dX2_readPair_28 : decode cX2_readPair 28 = .ok (.ireturn, 1) := by decide +kernel
theorem dX2_readPair_29 : decode cX2_readPair 29 = .ok (.iload_n 1, 1) := by decide +kernel
theorem dX2_readPair_30 : decode cX2_readPair 30 = .ok (.bipush 13, 2) := by decide +kernel
theorem dX2_readPair_32 : decode cX2_readPair 32 = .ok (.if_icmp .ne 8, 3) := by decide +kernel
theorem dX2_readPair_35 : decode cX2_readPair 35 = .ok (.iload 6, 2) := by decide +kernel
theorem dX2_readPair_37 : decode cX2_readPair 37 = .ok (.goto 5, 3) := by decide +kernel
theorem dX2_readPair_40 : decode cX2_readPair 40 = .ok (.iload 4, 2) := by decide +kernel
theorem dX2_readPair_42 : decode cX2_readPair 42 = .ok (.istore 7, 2) := by decide +kernel
theorem dX2_readPair_44 : decode cX2_readPair 44 = .ok (.aload_n 0, 1) := by decide +kernel
theorem dX2_readPair_45 : decode cX2_readPair 45 = .ok (.iload_n 1, 1) := by decide +kernel
theorem dX2_readPair_46 : decode cX2_readPair 46 = .ok (.iload 6, 2) := by decide +kernel
theorem dX2_readPair_48 : decode cX2_readPair 48 = .ok (.aload_n 0, 1) := by decide +kernel
theorem dX2_readPair_49 : decode cX2_readPair 49 = .ok (.iload 7, 2) := by decide +kernel
theorem dX2_readPair_51 : decode cX2_readPair 51 = .ok (.iload 5, 2) := by decide +kernel
theorem dX2_readPair_53 : decode cX2_readPair 53 = .ok (.invokevirtual 103, 3) := by decide +kernel
theorem dX2_readPair_56 : decode cX2_readPair 56 = .ok (.invokevirtual 107, 3) := by decide +kernel
theorem dX2_readPair_59 : decode cX2_readPair 59 = .ok (.ireturn, 1) := by decide +kernel
theorem dX2_keepLine_0 : decode cX2_keepLine 0 = .ok (.iload_n 2, 1) := by decide +kernel
theorem dX2_keepLine_1 : decode cX2_keepLine 1 = .ok (.iconst (-1), 1) := by decide +kernel
theorem dX2_keepLine_2 : decode cX2_keepLine 2 = .ok (.if_icmp .eq 22, 3) := by decide +kernel
theorem dX2_keepLine_5 : decode cX2_keepLine 5 = .ok (.iload_n 3, 1) := by decide +kernel
theorem dX2_keepLine_6 : decode cX2_keepLine 6 = .ok (.iconst (-1), 1) := by decide +kernel
theorem dX2_keepLine_7 : decode cX2_keepLine 7 = .ok (.if_icmp .eq 17, 3) := by decide +kernel
theorem dX2_keepLine_10 : decode cX2_keepLine 10 = .ok (.aload_n 0, 1) := by decide +kernel
theorem dX2_keepLine_11 : decode cX2_keepLine 11 = .ok (.getfield 58, 3) := by decide +kernel
theorem dX2_keepLine_14 : decode cX2_keepLine 14 = .ok (.iconst 3, 1) := by decide +kernel
theorem dX2_keepLine_15 : decode cX2_keepLine 15 = .ok (.iadd, 1) := by decide +kernel
theorem dX2_keepLine_16 : decode cX2_keepLine 16 = .ok (.aload_n 0, 1) := by decide +kernel
theorem dX2_keepLine_17 : decode cX2_keepLine 17 = .ok (.getfield 24, 3) := by decide +kernel
theorem dX2_keepLine_20 : decode cX2_keepLine 20 = .ok (.arraylength, 1) := by decide +kernel
theorem dX2_keepLine_21 : decode cX2_keepLine 21 = .ok (.if_icmp .le 5, 3) := by decide +kernel
theorem dX2_keepLine_24 : decode cX2_keepLine 24 = .ok (.iconst 0, 1) := by decide +kernel
theorem dX2_keepLine_25 : decode cX2_keepLine 25 = .ok (.ireturn, 1) := by decide +kernel
theorem dX2_keepLine_26 : decode cX2_keepLine 26 = .ok (.aload_n 0, 1) := by decide +kernel
theorem dX2_keepLine_27 : decode cX2_keepLine 27 = .ok (.getfield 24, 3) := by decide +kernel
theorem dX2_keepLine_30 : decode cX2_keepLine 30 = .ok (.aload_n 0, 1) := by decide +kernel
theorem dX2_keepLine_31 : decode cX2_keepLine 31 = .ok (.getfield 58, 3) := by decide +kernel
theorem dX2_keepLine_34 : decode cX2_keepLine 34 = .ok (.iload_n 1, 1) := by decide +kernel
theorem dX2_keepLine_35 : decode cX2_keepLine 35 = .ok (.iastore, 1) := by decide +kernel
theorem dX2_keepLine_36 : decode cX2_keepLine 36 = .ok (.aload_n 0, 1) := by decide +kernel
theorem dX2_keepLine_37 : decode cX2_keepLine 37 = .ok (.getfield 24, 3) := by decide +kernel
theorem dX2_keepLine_40 : decode cX2_keepLine 40 = .ok (.aload_n 0, 1) := by decide +kernel
theorem dX2_keepLine_41 : decode cX2_keepLine 41 = .ok (.getfield 58, 3) := by decide +kernel
theorem dX2_keepLine_44 : decode cX2_keepLine 44 = .ok (.iconst 1, 1) := by decide +kernel
theorem dX2_keepLine_45 : decode cX2_keepLine 45 = .ok (.iadd, 1) := by decide +kernel
theorem dX2_keepLine_46 : decode cX2_keepLine 46 = .ok (.iload_n 2, 1) := by decide +kernel
theorem dX2_keepLine_47 : decode cX2_keepLine 47 = .ok (.iastore, 1) := by decide +kernel
theorem dX2_keepLine_48 : decode cX2_keepLine 48 = .ok (.aload_n 0, 1) := by decide +kernel
theorem dX2_keepLine_49 : decode cX2_keepLine 49 = .ok (.getfield 24, 3) := by decide +kernel
theorem dX2_keepLine_52 : decode cX2_keepLine 52 = .ok (.aload_n 0, 1) := by decide +kernel
theorem dX2_keepLine_53 : decode cX2_keepLine 53 = .ok (.getfield 58, 3) := by decide +kernel
theorem dX2_keepLine_56 : decode cX2_keepLine 56 = .ok (.iconst 2, 1) := by decide +kernel
theorem dX2_keepLine_57 : decode cX2_keepLine 57 = .ok (.iadd, 1) := by decide +kernel
theorem dX2_keepLine_58 : decode cX2_keepLine 58 = .ok (.iload_n 3, 1) := by decide +kernel
theorem dX2_keepLine_59 : decode cX2_keepLine 59 = .ok (.iastore, 1) := by decide +kernel
theorem dX2_keepLine_60 : decode cX2_keepLine 60 = .ok (.aload_n 0, 1) := by decide +kernel
theorem dX2_keepLine_61 : decode cX2_keepLine 61 = .ok (.dup, 1) := by decide +kernel
theorem dX2_keepLine_62 : decode cX2_keepLine 62 = .ok (.getfield 58, 3) := by decide +kernel
theorem dX2_keepLine_65 : decode cX2_keepLine 65 = .ok (.iconst 3, 1) := by decide +kernel
theorem dX2_keepLine_66 : decode cX2_keepLine 66 = .ok (.iadd, 1) := by decide +kernel
theorem dX2_keepLine_67 : decode cX2_keepLine 67 = .ok (.putfield 58, 3) := by decide +kernel
theorem dX2_keepLine_70 : decode cX2_keepLine 70 = .ok (.iconst 1, 1) := by decide +kernel
theorem dX2_keepLine_71 : decode cX2_keepLine 71 = .ok (.ireturn, 1) := by decide +kernel
theorem dX2_readWayLine_0 : decode cX2_readWayLine 0 = .ok (.aload_n 0, 1) := by decide +kernel
theorem dX2_readWayLine_1 : decode cX2_readWayLine 1 = .ok (.invokevirtual 38, 3) := by decide +kernel
theorem dX2_readWayLine_4 : decode cX2_readWayLine 4 = .ok (.tableswitch 185 16 19 #[32, 81, 116, 151], 32) := by decide +kernel
theorem dX2_readWayLine_36 : decode cX2_readWayLine 36 = .ok (.aload_n 0, 1) := by decide +kernel
theorem dX2_readWayLine_37 : decode cX2_readWayLine 37 = .ok (.dup, 1) := by decide +kernel
theorem dX2_readWayLine_38 : decode cX2_readWayLine 38 = .ok (.getfield 87, 3) := by decide +kernel
theorem dX2_readWayLine_41 : decode cX2_readWayLine 41 = .ok (.iconst 1, 1) := by decide +kernel
theorem dX2_readWayLine_42 : decode cX2_readWayLine 42 = .ok (.iadd, 1) := by decide +kernel
theorem dX2_readWayLine_43 : decode cX2_readWayLine 43 = .ok (.putfield 87, 3) := by decide +kernel
theorem dX2_readWayLine_46 : decode cX2_readWayLine 46 = .ok (.aload_n 0, 1) := by decide +kernel
theorem dX2_readWayLine_47 : decode cX2_readWayLine 47 = .ok (.iconst 0, 1) := by decide +kernel
theorem dX2_readWayLine_48 : decode cX2_readWayLine 48 = .ok (.iconst 3, 1) := by decide +kernel
theorem dX2_readWayLine_49 : decode cX2_readWayLine 49 = .ok (.invokevirtual 103, 3) := by decide +kernel
theorem dX2_readWayLine_52 : decode cX2_readWayLine 52 = .ok (.istore_n 1, 1) := by decide +kernel
theorem dX2_readWayLine_53 : decode cX2_readWayLine 53 = .ok (.aload_n 0, 1) := by decide +kernel
theorem dX2_readWayLine_54 : decode cX2_readWayLine 54 = .ok (.dup, 1) := by decide +kernel
theorem dX2_readWayLine_55 : decode cX2_readWayLine 55 = .ok (.getfield 72, 3) := by decide +kernel
theorem dX2_readWayLine_58 : decode cX2_readWayLine 58 = .ok (.iload_n 1, 1) := by decide +kernel
theorem dX2_readWayLine_59 : decode cX2_readWayLine 59 = .ok (.iconst (-1), 1) := by decide +kernel
theorem dX2_readWayLine_60 : decode cX2_readWayLine 60 = .ok (.if_icmp .ne 7, 3) := by decide +kernel
theorem dX2_readWayLine_63 : decode cX2_readWayLine 63 = .ok (.iconst 0, 1) := by decide +kernel
theorem dX2_readWayLine_64 : decode cX2_readWayLine 64 = .ok (.goto 6, 3) := by decide +kernel
theorem dX2_readWayLine_67 : decode cX2_readWayLine 67 = .ok (.iconst 1, 1) := by decide +kernel
theorem dX2_readWayLine_68 : decode cX2_readWayLine 68 = .ok (.iload_n 1, 1) := by decide +kernel
theorem dX2_readWayLine_69 : decode cX2_readWayLine 69 = .ok (.ishl, 1) := by decide +kernel
theorem dX2_readWayLine_70 : decode cX2_readWayLine 70 = .ok (.ior, 1) := by decide +kernel
theorem dX2_readWayLine_71 : decode cX2_readWayLine 71 = .ok (.putfield 72, 3) := by decide +kernel
theorem dX2_readWayLine_74 : decode cX2_readWayLine 74 = .ok (.iload_n 1, 1) := by decide +kernel
theorem dX2_readWayLine_75 : decode cX2_readWayLine 75 = .ok (.iconst (-1), 1) := by decide +kernel
theorem dX2_readWayLine_76 : decode cX2_readWayLine 76 = .ok (.if_icmp .eq 7, 3) := by decide +kernel
theorem dX2_readWayLine_79 : decode cX2_readWayLine 79 = .ok (.iconst 1, 1) := by decide +kernel
theorem dX2_readWayLine_80 : decode cX2_readWayLine 80 = .ok (.goto 4, 3) := by decide +kernel
theorem dX2_readWayLine_83 : decode cX2_readWayLine 83 = .ok (.iconst 0, 1) := by decide +kernel
theorem dX2_readWayLine_84 : decode cX2_readWayLine 84 = .ok (.ireturn, 1) := by decide +kernel
theorem dX2_readWayLine_85 : decode cX2_readWayLine 85 = .ok (.aload_n 0, 1) := by decide +kernel
theorem dX2_readWayLine_86 : decode cX2_readWayLine 86 = .ok (.dup, 1) := by decide +kernel
theorem dX2_readWayLine_87 : decode cX2_readWayLine 87 = .ok (.getfield 87, 3) := by decide +kernel
theorem dX2_readWayLine_90 : decode cX2_readWayLine 90 = .ok (.iconst 1, 1) := by decide +kernel
theorem dX2_readWayLine_91 : decode cX2_readWayLine 91 = .ok (.iadd, 1) := by decide +kernel
theorem dX2_readWayLine_92 : decode cX2_readWayLine 92 = .ok (.putfield 87, 3) := by decide +kernel
theorem dX2_readWayLine_95 : decode cX2_readWayLine 95 = .ok (.aload_n 0, 1) := by decide +kernel
theorem dX2_readWayLine_96 : decode cX2_readWayLine 96 = .ok (.aload_n 0, 1) := by decide +kernel
theorem dX2_readWayLine_97 : decode cX2_readWayLine 97 = .ok (.iconst 1, 1) := by decide +kernel
theorem dX2_readWayLine_98 : decode cX2_readWayLine 98 = .ok (.bipush 60, 2) := by decide +kernel
theorem dX2_readWayLine_100 : decode cX2_readWayLine 100 = .ok (.invokevirtual 103, 3) := by decide +kernel
theorem dX2_readWayLine_103 : decode cX2_readWayLine 103 = .ok (.putfield 75, 3) := by decide +kernel
theorem dX2_readWayLine_106 : decode cX2_readWayLine 106 = .ok (.aload_n 0, 1) := by decide +kernel
theorem dX2_readWayLine_107 : decode cX2_readWayLine 107 = .ok (.getfield 75, 3) := by decide +kernel
theorem dX2_readWayLine_110 : decode cX2_readWayLine 110 = .ok (.iconst (-1), 1) := by decide +kernel
theorem dX2_readWayLine_111 : decode cX2_readWayLine 111 = .ok (.if_icmp .eq 7, 3) := by decide +kernel
theorem dX2_readWayLine_114 : decode cX2_readWayLine 114 = .ok (.iconst 1, 1) := by decide +kernel
theorem dX2_readWayLine_115 : decode cX2_readWayLine 115 = .ok (.goto 4, 3) := by decide +kernel
theorem dX2_readWayLine_118 : decode cX2_readWayLine 118 = .ok (.iconst 0, 1) := by decide +kernel
theorem dX2_readWayLine_119 : decode cX2_readWayLine 119 = .ok (.ireturn, 1) := by decide +kernel
theorem dX2_readWayLine_120 : decode cX2_readWayLine 120 = .ok (.aload_n 0, 1) := by decide +kernel
theorem dX2_readWayLine_121 : decode cX2_readWayLine 121 = .ok (.dup, 1) := by decide +kernel
theorem dX2_readWayLine_122 : decode cX2_readWayLine 122 = .ok (.getfield 87, 3) := by decide +kernel
theorem dX2_readWayLine_125 : decode cX2_readWayLine 125 = .ok (.iconst 1, 1) := by decide +kernel
theorem dX2_readWayLine_126 : decode cX2_readWayLine 126 = .ok (.iadd, 1) := by decide +kernel
theorem dX2_readWayLine_127 : decode cX2_readWayLine 127 = .ok (.putfield 87, 3) := by decide +kernel
theorem dX2_readWayLine_130 : decode cX2_readWayLine 130 = .ok (.aload_n 0, 1) := by decide +kernel
theorem dX2_readWayLine_131 : decode cX2_readWayLine 131 = .ok (.aload_n 0, 1) := by decide +kernel
theorem dX2_readWayLine_132 : decode cX2_readWayLine 132 = .ok (.iconst 1, 1) := by decide +kernel
theorem dX2_readWayLine_133 : decode cX2_readWayLine 133 = .ok (.bipush 9, 2) := by decide +kernel
theorem dX2_readWayLine_135 : decode cX2_readWayLine 135 = .ok (.invokevirtual 103, 3) := by decide +kernel
theorem dX2_readWayLine_138 : decode cX2_readWayLine 138 = .ok (.putfield 78, 3) := by decide +kernel
theorem dX2_readWayLine_141 : decode cX2_readWayLine 141 = .ok (.aload_n 0, 1) := by decide +kernel
theorem dX2_readWayLine_142 : decode cX2_readWayLine 142 = .ok (.getfield 78, 3) := by decide +kernel
theorem dX2_readWayLine_145 : decode cX2_readWayLine 145 = .ok (.iconst (-1), 1) := by decide +kernel
theorem dX2_readWayLine_146 : decode cX2_readWayLine 146 = .ok (.if_icmp .eq 7, 3) := by decide +kernel
theorem dX2_readWayLine_149 : decode cX2_readWayLine 149 = .ok (.iconst 1, 1) := by decide +kernel
theorem dX2_readWayLine_150 : decode cX2_readWayLine 150 = .ok (.goto 4, 3) := by decide +kernel
theorem dX2_readWayLine_153 : decode cX2_readWayLine 153 = .ok (.iconst 0, 1) := by decide +kernel
theorem dX2_readWayLine_154 : decode cX2_readWayLine 154 = .ok (.ireturn, 1) := by decide +kernel
theorem dX2_readWayLine_155 : decode cX2_readWayLine 155 = .ok (.aload_n 0, 1) := by decide +kernel
theorem dX2_readWayLine_156 : decode cX2_readWayLine 156 = .ok (.dup, 1) := by decide +kernel
theorem dX2_readWayLine_157 : decode cX2_readWayLine 157 = .ok (.getfield 87, 3) := by decide +kernel
theorem dX2_readWayLine_160 : decode cX2_readWayLine 160 = .ok (.iconst 1, 1) := by decide +kernel
theorem dX2_readWayLine_161 : decode cX2_readWayLine 161 = .ok (.iadd, 1) := by decide +kernel
theorem dX2_readWayLine_162 : decode cX2_readWayLine 162 = .ok (.putfield 87, 3) := by decide +kernel
theorem dX2_readWayLine_165 : decode cX2_readWayLine 165 = .ok (.aload_n 0, 1) := by decide +kernel
theorem dX2_readWayLine_166 : decode cX2_readWayLine 166 = .ok (.iconst 0, 1) := by decide +kernel
theorem dX2_readWayLine_167 : decode cX2_readWayLine 167 = .ok (.invokevirtual 111, 3) := by decide +kernel
theorem dX2_readWayLine_170 : decode cX2_readWayLine 170 = .ok (.ifCond .eq 17, 3) := by decide +kernel
theorem dX2_readWayLine_173 : decode cX2_readWayLine 173 = .ok (.aload_n 0, 1) := by decide +kernel
theorem dX2_readWayLine_174 : decode cX2_readWayLine 174 = .ok (.bipush 21, 2) := by decide +kernel
theorem dX2_readWayLine_176 : decode cX2_readWayLine 176 = .ok (.iconst 0, 1) := by decide +kernel
theorem dX2_readWayLine_177 : decode cX2_readWayLine 177 = .ok (.invokevirtual 114, 3) := by decide +kernel
theorem dX2_readWayLine_180 : decode cX2_readWayLine 180 = .ok (.ifCond .eq 7, 3) := by decide +kernel
theorem dX2_readWayLine_183 : decode cX2_readWayLine 183 = .ok (.iconst 1, 1) := by decide +kernel
theorem dX2_readWayLine_184 : decode cX2_readWayLine 184 = .ok (.goto 4, 3) := by decide +kernel
theorem dX2_readWayLine_187 : decode cX2_readWayLine 187 = .ok (.iconst 0, 1) := by decide +kernel
theorem dX2_readWayLine_188 : decode cX2_readWayLine 188 = .ok (.ireturn, 1) := by decide +kernel
theorem dX2_readWayLine_189 : decode cX2_readWayLine 189 = .ok (.aload_n 0, 1) := by decide +kernel
theorem dX2_readWayLine_190 : decode cX2_readWayLine 190 = .ok (.invokevirtual 55, 3) := by decide +kernel
theorem dX2_readWayLine_193 : decode cX2_readWayLine 193 = .ok (.ireturn, 1) := by decide +kernel
theorem dX2_keepStep_0 : decode cX2_keepStep 0 = .ok (.iload_n 2, 1) := by decide +kernel
theorem dX2_keepStep_1 : decode cX2_keepStep 1 = .ok (.iconst (-1), 1) := by decide +kernel
theorem dX2_keepStep_2 : decode cX2_keepStep 2 = .ok (.if_icmp .eq 15, 3) := by decide +kernel
theorem dX2_keepStep_5 : decode cX2_keepStep 5 = .ok (.aload_n 0, 1) := by decide +kernel
theorem dX2_keepStep_6 : decode cX2_keepStep 6 = .ok (.getfield 81, 3) := by decide +kernel
theorem dX2_keepStep_9 : decode cX2_keepStep 9 = .ok (.aload_n 0, 1) := by decide +kernel
theorem dX2_keepStep_10 : decode cX2_keepStep 10 = .ok (.getfield 28, 3) := by decide +kernel
theorem dX2_keepStep_13 : decode cX2_keepStep 13 = .ok (.arraylength, 1) := by decide +kernel
theorem dX2_keepStep_14 : decode cX2_keepStep 14 = .ok (.if_icmp .lt 5, 3) := by decide +kernel
theorem dX2_keepStep_17 : decode cX2_keepStep 17 = .ok (.iconst 0, 1) := by decide +kernel
theorem dX2_keepStep_18 : decode cX2_keepStep 18 = .ok (.ireturn, 1) := by decide +kernel
theorem dX2_keepStep_19 : decode cX2_keepStep 19 = .ok (.aload_n 0, 1) := by decide +kernel
theorem dX2_keepStep_20 : decode cX2_keepStep 20 = .ok (.getfield 28, 3) := by decide +kernel
theorem dX2_keepStep_23 : decode cX2_keepStep 23 = .ok (.aload_n 0, 1) := by decide +kernel
theorem dX2_keepStep_24 : decode cX2_keepStep 24 = .ok (.getfield 81, 3) := by decide +kernel
theorem dX2_keepStep_27 : decode cX2_keepStep 27 = .ok (.iload_n 1, 1) := by decide +kernel
theorem dX2_keepStep_28 : decode cX2_keepStep 28 = .ok (.sipush 1024, 3) := by decide +kernel
theorem dX2_keepStep_31 : decode cX2_keepStep 31 = .ok (.imul, 1) := by decide +kernel
theorem dX2_keepStep_32 : decode cX2_keepStep 32 = .ok (.iload_n 2, 1) := by decide +kernel
theorem dX2_keepStep_33 : decode cX2_keepStep 33 = .ok (.iadd, 1) := by decide +kernel
theorem dX2_keepStep_34 : decode cX2_keepStep 34 = .ok (.iastore, 1) := by decide +kernel
theorem dX2_keepStep_35 : decode cX2_keepStep 35 = .ok (.aload_n 0, 1) := by decide +kernel
theorem dX2_keepStep_36 : decode cX2_keepStep 36 = .ok (.dup, 1) := by decide +kernel
theorem dX2_keepStep_37 : decode cX2_keepStep 37 = .ok (.getfield 81, 3) := by decide +kernel
theorem dX2_keepStep_40 : decode cX2_keepStep 40 = .ok (.iconst 1, 1) := by decide +kernel
theorem dX2_keepStep_41 : decode cX2_keepStep 41 = .ok (.iadd, 1) := by decide +kernel
theorem dX2_keepStep_42 : decode cX2_keepStep 42 = .ok (.putfield 81, 3) := by decide +kernel
theorem dX2_keepStep_45 : decode cX2_keepStep 45 = .ok (.iconst 1, 1) := by decide +kernel
theorem dX2_keepStep_46 : decode cX2_keepStep 46 = .ok (.ireturn, 1) := by decide +kernel
theorem dX2_readCondition_0 : decode cX2_readCondition 0 = .ok (.aload_n 0, 1) := by decide +kernel
theorem dX2_readCondition_1 : decode cX2_readCondition 1 = .ok (.iload_n 1, 1) := by decide +kernel
theorem dX2_readCondition_2 : decode cX2_readCondition 2 = .ok (.invokevirtual 118, 3) := by decide +kernel
theorem dX2_readCondition_5 : decode cX2_readCondition 5 = .ok (.istore_n 2, 1) := by decide +kernel
theorem dX2_readCondition_6 : decode cX2_readCondition 6 = .ok (.iconst 0, 1) := by decide +kernel
theorem dX2_readCondition_7 : decode cX2_readCondition 7 = .ok (.istore_n 3, 1) := by decide +kernel
theorem dX2_readCondition_8 : decode cX2_readCondition 8 = .ok (.iconst 0, 1) := by decide +kernel
theorem dX2_readCondition_9 : decode cX2_readCondition 9 = .ok (.istore 4, 2) := by decide +kernel
theorem dX2_readCondition_11 : decode cX2_readCondition 11 = .ok (.iload 4, 2) := by decide +kernel
theorem dX2_readCondition_13 : decode cX2_readCondition 13 = .ok (.sipush 400, 3) := by decide +kernel
theorem dX2_readCondition_16 : decode cX2_readCondition 16 = .ok (.if_icmp .ge 110, 3) := by decide +kernel
theorem dX2_readCondition_19 : decode cX2_readCondition 19 = .ok (.iload_n 2, 1) := by decide +kernel
theorem dX2_readCondition_20 : decode cX2_readCondition 20 = .ok (.ifCond .eq 106, 3) := by decide +kernel
theorem dX2_readCondition_23 : decode cX2_readCondition 23 = .ok (.aload_n 0, 1) := by decide +kernel
theorem dX2_readCondition_24 : decode cX2_readCondition 24 = .ok (.invokevirtual 38, 3) := by decide +kernel
theorem dX2_readCondition_27 : decode cX2_readCondition 27 = .ok (.istore 5, 2) := by decide +kernel
theorem dX2_readCondition_29 : decode cX2_readCondition 29 = .ok (.iload 5, 2) := by decide +kernel
theorem dX2_readCondition_31 : decode cX2_readCondition 31 = .ok (.bipush 21, 2) := by decide +kernel
theorem dX2_readCondition_33 : decode cX2_readCondition 33 = .ok (.if_icmp .eq 13, 3) := by decide +kernel
theorem dX2_readCondition_36 : decode cX2_readCondition 36 = .ok (.iload 5, 2) := by decide +kernel
theorem dX2_readCondition_38 : decode cX2_readCondition 38 = .ok (.bipush 20, 2) := by decide +kernel
theorem dX2_readCondition_40 : decode cX2_readCondition 40 = .ok (.if_icmp .eq 6, 3) := by decide +kernel
theorem dX2_readCondition_43 : decode cX2_readCondition 43 = .ok (.goto 83, 3) := by decide +kernel
theorem dX2_readCondition_46 : decode cX2_readCondition 46 = .ok (.aload_n 0, 1) := by decide +kernel
theorem dX2_readCondition_47 : decode cX2_readCondition 47 = .ok (.dup, 1) := by decide +kernel
theorem dX2_readCondition_48 : decode cX2_readCondition 48 = .ok (.getfield 87, 3) := by decide +kernel
theorem dX2_readCondition_51 : decode cX2_readCondition 51 = .ok (.iconst 1, 1) := by decide +kernel
theorem dX2_readCondition_52 : decode cX2_readCondition 52 = .ok (.iadd, 1) := by decide +kernel
theorem dX2_readCondition_53 : decode cX2_readCondition 53 = .ok (.putfield 87, 3) := by decide +kernel
theorem dX2_readCondition_56 : decode cX2_readCondition 56 = .ok (.iload 5, 2) := by decide +kernel
theorem dX2_readCondition_58 : decode cX2_readCondition 58 = .ok (.bipush 20, 2) := by decide +kernel
theorem dX2_readCondition_60 : decode cX2_readCondition 60 = .ok (.if_icmp .ne 36, 3) := by decide +kernel
theorem dX2_readCondition_63 : decode cX2_readCondition 63 = .ok (.iload_n 3, 1) := by decide +kernel
theorem dX2_readCondition_64 : decode cX2_readCondition 64 = .ok (.ifCond .eq 13, 3) := by decide +kernel
theorem dX2_readCondition_67 : decode cX2_readCondition 67 = .ok (.aload_n 0, 1) := by decide +kernel
theorem dX2_readCondition_68 : decode cX2_readCondition 68 = .ok (.bipush 20, 2) := by decide +kernel
theorem dX2_readCondition_70 : decode cX2_readCondition 70 = .ok (.iconst 0, 1) := by decide +kernel
theorem dX2_readCondition_71 : decode cX2_readCondition 71 = .ok (.invokevirtual 114, 3) := by decide +kernel
theorem dX2_readCondition_74 : decode cX2_readCondition 74 = .ok (.ifCond .eq 15, 3) := by decide +kernel
theorem dX2_readCondition_77 : decode cX2_readCondition 77 = .ok (.aload_n 0, 1) := by decide +kernel
theorem dX2_readCondition_78 : decode cX2_readCondition 78 = .ok (.iload_n 1, 1) := by decide +kernel
theorem dX2_readCondition_79 : decode cX2_readCondition 79 = .ok (.invokevirtual 118, 3) := by decide +kernel
theorem dX2_readCondition_82 : decode cX2_readCondition 82 = .ok (.ifCond .eq 7, 3) := by decide +kernel
theorem dX2_readCondition_85 : decode cX2_readCondition 85 = .ok (.iconst 1, 1) := by decide +kernel
theorem dX2_readCondition_86 : decode cX2_readCondition 86 = .ok (.goto 4, 3) := by decide +kernel
theorem dX2_readCondition_89 : decode cX2_readCondition 89 = .ok (.iconst 0, 1) := by decide +kernel
theorem dX2_readCondition_90 : decode cX2_readCondition 90 = .ok (.istore_n 2, 1) := by decide +kernel
theorem dX2_readCondition_91 : decode cX2_readCondition 91 = .ok (.iconst 1, 1) := by decide +kernel
theorem dX2_readCondition_92 : decode cX2_readCondition 92 = .ok (.istore_n 3, 1) := by decide +kernel
theorem dX2_readCondition_93 : decode cX2_readCondition 93 = .ok (.goto 27, 3) := by decide +kernel
theorem dX2_readCondition_96 : decode cX2_readCondition 96 = .ok (.aload_n 0, 1) := by decide +kernel
theorem dX2_readCondition_97 : decode cX2_readCondition 97 = .ok (.iload_n 1, 1) := by decide +kernel
theorem dX2_readCondition_98 : decode cX2_readCondition 98 = .ok (.invokevirtual 118, 3) := by decide +kernel
theorem dX2_readCondition_101 : decode cX2_readCondition 101 = .ok (.ifCond .eq 17, 3) := by decide +kernel
theorem dX2_readCondition_104 : decode cX2_readCondition 104 = .ok (.aload_n 0, 1) := by decide +kernel
theorem dX2_readCondition_105 : decode cX2_readCondition 105 = .ok (.bipush 21, 2) := by decide +kernel
theorem dX2_readCondition_107 : decode cX2_readCondition 107 = .ok (.iconst 0, 1) := by decide +kernel
theorem dX2_readCondition_108 : decode cX2_readCondition 108 = .ok (.invokevirtual 114, 3) := by decide +kernel
theorem dX2_readCondition_111 : decode cX2_readCondition 111 = .ok (.ifCond .eq 7, 3) := by decide +kernel
theorem dX2_readCondition_114 : decode cX2_readCondition 114 = .ok (.iconst 1, 1) := by decide +kernel
theorem dX2_readCondition_115 : decode cX2_readCondition 115 = .ok (.goto 4, 3) := by decide +kernel
theorem dX2_readCondition_118 : decode cX2_readCondition 118 = .ok (.iconst 0, 1) := by decide +kernel
theorem dX2_readCondition_119 : decode cX2_readCondition 119 = .ok (.istore_n 2, 1) := by decide +kernel
theorem dX2_readCondition_120 : decode cX2_readCondition 120 = .ok (.iinc 4 1, 3) := by decide +kernel
theorem dX2_readCondition_123 : decode cX2_readCondition 123 = .ok (.goto (-112), 3) := by decide +kernel
theorem dX2_readCondition_126 : decode cX2_readCondition 126 = .ok (.iload_n 2, 1) := by decide +kernel
theorem dX2_readCondition_127 : decode cX2_readCondition 127 = .ok (.ifCond .eq 21, 3) := by decide +kernel
theorem dX2_readCondition_130 : decode cX2_readCondition 130 = .ok (.iload_n 3, 1) := by decide +kernel
theorem dX2_readCondition_131 : decode cX2_readCondition 131 = .ok (.ifCond .eq 13, 3) := by decide +kernel
theorem dX2_readCondition_134 : decode cX2_readCondition 134 = .ok (.aload_n 0, 1) := by decide +kernel
theorem dX2_readCondition_135 : decode cX2_readCondition 135 = .ok (.bipush 20, 2) := by decide +kernel
theorem dX2_readCondition_137 : decode cX2_readCondition 137 = .ok (.iconst 0, 1) := by decide +kernel
theorem dX2_readCondition_138 : decode cX2_readCondition 138 = .ok (.invokevirtual 114, 3) := by decide +kernel
theorem dX2_readCondition_141 : decode cX2_readCondition 141 = .ok (.ifCond .eq 7, 3) := by decide +kernel
theorem dX2_readCondition_144 : decode cX2_readCondition 144 = .ok (.iconst 1, 1) := by decide +kernel
theorem dX2_readCondition_145 : decode cX2_readCondition 145 = .ok (.goto 4, 3) := by decide +kernel
theorem dX2_readCondition_148 : decode cX2_readCondition 148 = .ok (.iconst 0, 1) := by decide +kernel
theorem dX2_readCondition_149 : decode cX2_readCondition 149 = .ok (.ireturn, 1) := by decide +kernel
theorem dX2_readAtom_0 : decode cX2_readAtom 0 = .ok (.aload_n 0, 1) := by decide +kernel
theorem dX2_readAtom_1 : decode cX2_readAtom 1 = .ok (.invokevirtual 38, 3) := by decide +kernel
theorem dX2_readAtom_4 : decode cX2_readAtom 4 = .ok (.istore_n 2, 1) := by decide +kernel
theorem dX2_readAtom_5 : decode cX2_readAtom 5 = .ok (.iload_n 2, 1) := by decide +kernel
theorem dX2_readAtom_6 : decode cX2_readAtom 6 = .ok (.tableswitch 242 5 28 #[157, 242, 242, 242, 242, 242, 242, 242, 242, 242, 242, 242, 242, 242, 242, 242, 242, 110, 203, 203, 220, 220, 220, 220], 110) := by decide +kernel
theorem dX2_readAtom_116 : decode cX2_readAtom 116 = .ok (.iload_n 1, 1) := by decide +kernel
theorem dX2_readAtom_117 : decode cX2_readAtom 117 = .ok (.bipush 6, 2) := by decide +kernel
theorem dX2_readAtom_119 : decode cX2_readAtom 119 = .ok (.if_icmp .lt 8, 3) := by decide +kernel
theorem dX2_readAtom_122 : decode cX2_readAtom 122 = .ok (.aload_n 0, 1) := by decide +kernel
theorem dX2_readAtom_123 : decode cX2_readAtom 123 = .ok (.invokevirtual 55, 3) := by decide +kernel
theorem dX2_readAtom_126 : decode cX2_readAtom 126 = .ok (.ireturn, 1) := by decide +kernel
theorem dX2_readAtom_127 : decode cX2_readAtom 127 = .ok (.aload_n 0, 1) := by decide +kernel
theorem dX2_readAtom_128 : decode cX2_readAtom 128 = .ok (.dup, 1) := by decide +kernel
theorem dX2_readAtom_129 : decode cX2_readAtom 129 = .ok (.getfield 87, 3) := by decide +kernel
theorem dX2_readAtom_132 : decode cX2_readAtom 132 = .ok (.iconst 1, 1) := by decide +kernel
theorem dX2_readAtom_133 : decode cX2_readAtom 133 = .ok (.iadd, 1) := by decide +kernel
theorem dX2_readAtom_134 : decode cX2_readAtom 134 = .ok (.putfield 87, 3) := by decide +kernel
theorem dX2_readAtom_137 : decode cX2_readAtom 137 = .ok (.aload_n 0, 1) := by decide +kernel
theorem dX2_readAtom_138 : decode cX2_readAtom 138 = .ok (.iload_n 1, 1) := by decide +kernel
theorem dX2_readAtom_139 : decode cX2_readAtom 139 = .ok (.iconst 1, 1) := by decide +kernel
theorem dX2_readAtom_140 : decode cX2_readAtom 140 = .ok (.iadd, 1) := by decide +kernel
theorem dX2_readAtom_141 : decode cX2_readAtom 141 = .ok (.invokevirtual 118, 3) := by decide +kernel
theorem dX2_readAtom_144 : decode cX2_readAtom 144 = .ok (.ifCond .eq 17, 3) := by decide +kernel
theorem dX2_readAtom_147 : decode cX2_readAtom 147 = .ok (.aload_n 0, 1) := by decide +kernel
theorem dX2_readAtom_148 : decode cX2_readAtom 148 = .ok (.bipush 22, 2) := by decide +kernel
theorem dX2_readAtom_150 : decode cX2_readAtom 150 = .ok (.iconst 0, 1) := by decide +kernel
theorem dX2_readAtom_151 : decode cX2_readAtom 151 = .ok (.invokevirtual 114, 3) := by decide +kernel
theorem dX2_readAtom_154 : decode cX2_readAtom 154 = .ok (.ifCond .eq 7, 3) := by decide +kernel
theorem dX2_readAtom_157 : decode cX2_readAtom 157 = .ok (.iconst 1, 1) := by decide +kernel
theorem dX2_readAtom_158 : decode cX2_readAtom 158 = .ok (.goto 4, 3) := by decide +kernel
theorem dX2_readAtom_161 : decode cX2_readAtom 161 = .ok (.iconst 0, 1) := by decide +kernel
theorem dX2_readAtom_162 : decode cX2_readAtom 162 = .ok (.ireturn, 1) := by decide +kernel
theorem dX2_readAtom_163 : decode cX2_readAtom 163 = .ok (.iload_n 1, 1) := by decide +kernel
theorem dX2_readAtom_164 : decode cX2_readAtom 164 = .ok (.bipush 6, 2) := by decide +kernel
theorem dX2_readAtom_166 : decode cX2_readAtom 166 = .ok (.if_icmp .lt 8, 3) := by decide +kernel
theorem dX2_readAtom_169 : decode cX2_readAtom 169 = .ok (.aload_n 0, 1) := by decide +kernel
theorem dX2_readAtom_170 : decode cX2_readAtom 170 = .ok (.invokevirtual 55, 3) := by decide +kernel
theorem dX2_readAtom_173 : decode cX2_readAtom 173 = .ok (.ireturn, 1) := by decide +kernel
theorem dX2_readAtom_174 : decode cX2_readAtom 174 = .ok (.aload_n 0, 1) := by decide +kernel
theorem dX2_readAtom_175 : decode cX2_readAtom 175 = .ok (.dup, 1) := by decide +kernel
theorem dX2_readAtom_176 : decode cX2_readAtom 176 = .ok (.getfield 87, 3) := by decide +kernel
theorem dX2_readAtom_179 : decode cX2_readAtom 179 = .ok (.iconst 1, 1) := by decide +kernel
theorem dX2_readAtom_180 : decode cX2_readAtom 180 = .ok (.iadd, 1) := by decide +kernel
theorem dX2_readAtom_181 : decode cX2_readAtom 181 = .ok (.putfield 87, 3) := by decide +kernel
theorem dX2_readAtom_184 : decode cX2_readAtom 184 = .ok (.aload_n 0, 1) := by decide +kernel
theorem dX2_readAtom_185 : decode cX2_readAtom 185 = .ok (.iload_n 1, 1) := by decide +kernel
theorem dX2_readAtom_186 : decode cX2_readAtom 186 = .ok (.iconst 1, 1) := by decide +kernel
theorem dX2_readAtom_187 : decode cX2_readAtom 187 = .ok (.iadd, 1) := by decide +kernel
theorem dX2_readAtom_188 : decode cX2_readAtom 188 = .ok (.invokevirtual 111, 3) := by decide +kernel
theorem dX2_readAtom_191 : decode cX2_readAtom 191 = .ok (.ifCond .eq 16, 3) := by decide +kernel
theorem dX2_readAtom_194 : decode cX2_readAtom 194 = .ok (.aload_n 0, 1) := by decide +kernel
theorem dX2_readAtom_195 : decode cX2_readAtom 195 = .ok (.bipush 6, 2) := by decide +kernel
theorem dX2_readAtom_197 : decode cX2_readAtom 197 = .ok (.invokevirtual 51, 3) := by decide +kernel
theorem dX2_readAtom_200 : decode cX2_readAtom 200 = .ok (.ifCond .eq 7, 3) := by decide +kernel
theorem dX2_readAtom_203 : decode cX2_readAtom 203 = .ok (.iconst 1, 1) := by decide +kernel
theorem dX2_readAtom_204 : decode cX2_readAtom 204 = .ok (.goto 4, 3) := by decide +kernel
theorem dX2_readAtom_207 : decode cX2_readAtom 207 = .ok (.iconst 0, 1) := by decide +kernel
theorem dX2_readAtom_208 : decode cX2_readAtom 208 = .ok (.ireturn, 1) := by decide +kernel
theorem dX2_readAtom_209 : decode cX2_readAtom 209 = .ok (.aload_n 0, 1) := by decide +kernel
theorem dX2_readAtom_210 : decode cX2_readAtom 210 = .ok (.dup, 1) := by decide +kernel
theorem dX2_readAtom_211 : decode cX2_readAtom 211 = .ok (.getfield 87, 3) := by decide +kernel
theorem dX2_readAtom_214 : decode cX2_readAtom 214 = .ok (.iconst 1, 1) := by decide +kernel
theorem dX2_readAtom_215 : decode cX2_readAtom 215 = .ok (.iadd, 1) := by decide +kernel
theorem dX2_readAtom_216 : decode cX2_readAtom 216 = .ok (.putfield 87, 3) := by decide +kernel
theorem dX2_readAtom_219 : decode cX2_readAtom 219 = .ok (.aload_n 0, 1) := by decide +kernel
theorem dX2_readAtom_220 : decode cX2_readAtom 220 = .ok (.iload_n 2, 1) := by decide +kernel
theorem dX2_readAtom_221 : decode cX2_readAtom 221 = .ok (.iconst 0, 1) := by decide +kernel
theorem dX2_readAtom_222 : decode cX2_readAtom 222 = .ok (.invokevirtual 114, 3) := by decide +kernel
theorem dX2_readAtom_225 : decode cX2_readAtom 225 = .ok (.ireturn, 1) := by decide +kernel
theorem dX2_readAtom_226 : decode cX2_readAtom 226 = .ok (.aload_n 0, 1) := by decide +kernel
theorem dX2_readAtom_227 : decode cX2_readAtom 227 = .ok (.dup, 1) := by decide +kernel
theorem dX2_readAtom_228 : decode cX2_readAtom 228 = .ok (.getfield 87, 3) := by decide +kernel
theorem dX2_readAtom_231 : decode cX2_readAtom 231 = .ok (.iconst 1, 1) := by decide +kernel
theorem dX2_readAtom_232 : decode cX2_readAtom 232 = .ok (.iadd, 1) := by decide +kernel
theorem dX2_readAtom_233 : decode cX2_readAtom 233 = .ok (.putfield 87, 3) := by decide +kernel
theorem dX2_readAtom_236 : decode cX2_readAtom 236 = .ok (.aload_n 0, 1) := by decide +kernel
theorem dX2_readAtom_237 : decode cX2_readAtom 237 = .ok (.iload_n 2, 1) := by decide +kernel
theorem dX2_readAtom_238 : decode cX2_readAtom 238 = .ok (.aload_n 0, 1) := by decide +kernel
theorem dX2_readAtom_239 : decode cX2_readAtom 239 = .ok (.iconst 0, 1) := by decide +kernel
theorem dX2_readAtom_240 : decode cX2_readAtom 240 = .ok (.iconst 3, 1) := by decide +kernel
theorem dX2_readAtom_241 : decode cX2_readAtom 241 = .ok (.invokevirtual 103, 3) := by decide +kernel
theorem dX2_readAtom_244 : decode cX2_readAtom 244 = .ok (.invokevirtual 114, 3) := by decide +kernel
theorem dX2_readAtom_247 : decode cX2_readAtom 247 = .ok (.ireturn, 1) := by decide +kernel
theorem dX2_readAtom_248 : decode cX2_readAtom 248 = .ok (.aload_n 0, 1) := by decide +kernel
theorem dX2_readAtom_249 : decode cX2_readAtom 249 = .ok (.invokevirtual 121, 3) := by decide +kernel
theorem dX2_readAtom_252 : decode cX2_readAtom 252 = .ok (.ireturn, 1) := by decide +kernel
theorem dX2_readComparison_0 : decode cX2_readComparison 0 = .ok (.aload_n 0, 1) := by decide +kernel
theorem dX2_readComparison_1 : decode cX2_readComparison 1 = .ok (.invokevirtual 124, 3) := by decide +kernel
theorem dX2_readComparison_4 : decode cX2_readComparison 4 = .ok (.ifCond .ne 5, 3) := by decide +kernel
theorem dX2_readComparison_7 : decode cX2_readComparison 7 = .ok (.iconst 0, 1) := by decide +kernel
theorem dX2_readComparison_8 : decode cX2_readComparison 8 = .ok (.ireturn, 1) := by decide +kernel
theorem dX2_readComparison_9 : decode cX2_readComparison 9 = .ok (.aload_n 0, 1) := by decide +kernel
theorem dX2_readComparison_10 : decode cX2_readComparison 10 = .ok (.invokevirtual 38, 3) := by decide +kernel
theorem dX2_readComparison_13 : decode cX2_readComparison 13 = .ok (.istore_n 1, 1) := by decide +kernel
theorem dX2_readComparison_14 : decode cX2_readComparison 14 = .ok (.iload_n 1, 1) := by decide +kernel
theorem dX2_readComparison_15 : decode cX2_readComparison 15 = .ok (.bipush 8, 2) := by decide +kernel
theorem dX2_readComparison_17 : decode cX2_readComparison 17 = .ok (.if_icmp .eq 14, 3) := by decide +kernel
theorem dX2_readComparison_20 : decode cX2_readComparison 20 = .ok (.iload_n 1, 1) := by decide +kernel
theorem dX2_readComparison_21 : decode cX2_readComparison 21 = .ok (.bipush 9, 2) := by decide +kernel
theorem dX2_readComparison_23 : decode cX2_readComparison 23 = .ok (.if_icmp .eq 8, 3) := by decide +kernel
theorem dX2_readComparison_26 : decode cX2_readComparison 26 = .ok (.aload_n 0, 1) := by decide +kernel
theorem dX2_readComparison_27 : decode cX2_readComparison 27 = .ok (.invokevirtual 55, 3) := by decide +kernel
theorem dX2_readComparison_30 : decode cX2_readComparison 30 = .ok (.ireturn, 1) := by decide +kernel
theorem dX2_readComparison_31 : decode cX2_readComparison 31 = .ok (.aload_n 0, 1) := by decide +kernel
theorem dX2_readComparison_32 : decode cX2_readComparison 32 = .ok (.dup, 1) := by decide +kernel
theorem dX2_readComparison_33 : decode cX2_readComparison 33 = .ok (.getfield 87, 3) := by decide +kernel
theorem dX2_readComparison_36 : decode cX2_readComparison 36 = .ok (.iconst 1, 1) := by decide +kernel
theorem dX2_readComparison_37 : decode cX2_readComparison 37 = .ok (.iadd, 1) := by decide +kernel
theorem dX2_readComparison_38 : decode cX2_readComparison 38 = .ok (.putfield 87, 3) := by decide +kernel
theorem dX2_readComparison_41 : decode cX2_readComparison 41 = .ok (.aload_n 0, 1) := by decide +kernel
theorem dX2_readComparison_42 : decode cX2_readComparison 42 = .ok (.iconst 3, 1) := by decide +kernel
theorem dX2_readComparison_43 : decode cX2_readComparison 43 = .ok (.iconst 0, 1) := by decide +kernel
theorem dX2_readComparison_44 : decode cX2_readComparison 44 = .ok (.invokevirtual 114, 3) := by decide +kernel
theorem dX2_readComparison_47 : decode cX2_readComparison 47 = .ok (.ifCond .eq 23, 3) := by decide +kernel
theorem dX2_readComparison_50 : decode cX2_readComparison 50 = .ok (.aload_n 0, 1) := by decide +kernel
theorem dX2_readComparison_51 : decode cX2_readComparison 51 = .ok (.invokevirtual 124, 3) := by decide +kernel
theorem dX2_readComparison_54 : decode cX2_readComparison 54 = .ok (.ifCond .eq 16, 3) := by decide +kernel
theorem dX2_readComparison_57 : decode cX2_readComparison 57 = .ok (.aload_n 0, 1) := by decide +kernel
theorem dX2_readComparison_58 : decode cX2_readComparison 58 = .ok (.iload_n 1, 1) := by decide +kernel
theorem dX2_readComparison_59 : decode cX2_readComparison 59 = .ok (.iconst 0, 1) := by decide +kernel
theorem dX2_readComparison_60 : decode cX2_readComparison 60 = .ok (.invokevirtual 114, 3) := by decide +kernel
theorem dX2_readComparison_63 : decode cX2_readComparison 63 = .ok (.ifCond .eq 7, 3) := by decide +kernel
theorem dX2_readComparison_66 : decode cX2_readComparison 66 = .ok (.iconst 1, 1) := by decide +kernel
theorem dX2_readComparison_67 : decode cX2_readComparison 67 = .ok (.goto 4, 3) := by decide +kernel
theorem dX2_readComparison_70 : decode cX2_readComparison 70 = .ok (.iconst 0, 1) := by decide +kernel
theorem dX2_readComparison_71 : decode cX2_readComparison 71 = .ok (.ireturn, 1) := by decide +kernel
theorem dX2_readSum_0 : decode cX2_readSum 0 = .ok (.iconst 0, 1) := by decide +kernel
theorem dX2_readSum_1 : decode cX2_readSum 1 = .ok (.istore_n 1, 1) := by decide +kernel
theorem dX2_readSum_2 : decode cX2_readSum 2 = .ok (.iload_n 1, 1) := by decide +kernel
theorem dX2_readSum_3 : decode cX2_readSum 3 = .ok (.sipush 400, 3) := by decide +kernel
theorem dX2_readSum_6 : decode cX2_readSum 6 = .ok (.if_icmp .ge 127, 3) := by decide +kernel
theorem dX2_readSum_9 : decode cX2_readSum 9 = .ok (.aload_n 0, 1) := by decide +kernel
theorem dX2_readSum_10 : decode cX2_readSum 10 = .ok (.invokevirtual 38, 3) := by decide +kernel
theorem dX2_readSum_13 : decode cX2_readSum 13 = .ok (.istore_n 2, 1) := by decide +kernel
theorem dX2_readSum_14 : decode cX2_readSum 14 = .ok (.iconst 0, 1) := by decide +kernel
theorem dX2_readSum_15 : decode cX2_readSum 15 = .ok (.istore_n 3, 1) := by decide +kernel
theorem dX2_readSum_16 : decode cX2_readSum 16 = .ok (.iload_n 2, 1) := by decide +kernel
theorem dX2_readSum_17 : decode cX2_readSum 17 = .ok (.iconst 2, 1) := by decide +kernel
theorem dX2_readSum_18 : decode cX2_readSum 18 = .ok (.if_icmp .ne 15, 3) := by decide +kernel
theorem dX2_readSum_21 : decode cX2_readSum 21 = .ok (.aload_n 0, 1) := by decide +kernel
theorem dX2_readSum_22 : decode cX2_readSum 22 = .ok (.iconst 0, 1) := by decide +kernel
theorem dX2_readSum_23 : decode cX2_readSum 23 = .ok (.sipush 999, 3) := by decide +kernel
theorem dX2_readSum_26 : decode cX2_readSum 26 = .ok (.invokevirtual 103, 3) := by decide +kernel
theorem dX2_readSum_29 : decode cX2_readSum 29 = .ok (.istore_n 3, 1) := by decide +kernel
theorem dX2_readSum_30 : decode cX2_readSum 30 = .ok (.goto 65, 3) := by decide +kernel
theorem dX2_readSum_33 : decode cX2_readSum 33 = .ok (.iload_n 2, 1) := by decide +kernel
theorem dX2_readSum_34 : decode cX2_readSum 34 = .ok (.bipush 31, 2) := by decide +kernel
theorem dX2_readSum_36 : decode cX2_readSum 36 = .ok (.if_icmp .eq 9, 3) := by decide +kernel
theorem dX2_readSum_39 : decode cX2_readSum 39 = .ok (.iload_n 2, 1) := by decide +kernel
theorem dX2_readSum_40 : decode cX2_readSum 40 = .ok (.bipush 32, 2) := by decide +kernel
theorem dX2_readSum_42 : decode cX2_readSum 42 = .ok (.if_icmp .ne 23, 3) := by decide +kernel
theorem dX2_readSum_45 : decode cX2_readSum 45 = .ok (.aload_n 0, 1) := by decide +kernel
theorem dX2_readSum_46 : decode cX2_readSum 46 = .ok (.dup, 1) := by decide +kernel
theorem dX2_readSum_47 : decode cX2_readSum 47 = .ok (.getfield 87, 3) := by decide +kernel
theorem dX2_readSum_50 : decode cX2_readSum 50 = .ok (.iconst 1, 1) := by decide +kernel
theorem dX2_readSum_51 : decode cX2_readSum 51 = .ok (.iadd, 1) := by decide +kernel
theorem dX2_readSum_52 : decode cX2_readSum 52 = .ok (.putfield 87, 3) := by decide +kernel
theorem dX2_readSum_55 : decode cX2_readSum 55 = .ok (.aload_n 0, 1) := by decide +kernel
theorem dX2_readSum_56 : decode cX2_readSum 56 = .ok (.iconst 0, 1) := by decide +kernel
theorem dX2_readSum_57 : decode cX2_readSum 57 = .ok (.iconst 3, 1) := by decide +kernel
theorem dX2_readSum_58 : decode cX2_readSum 58 = .ok (.invokevirtual 103, 3) := by decide +kernel
theorem dX2_readSum_61 : decode cX2_readSum 61 = .ok (.istore_n 3, 1) := by decide +kernel
theorem dX2_readSum_62 : decode cX2_readSum 62 = .ok (.goto 33, 3) := by decide +kernel
theorem dX2_readSum_65 : decode cX2_readSum 65 = .ok (.iload_n 2, 1) := by decide +kernel
theorem dX2_readSum_66 : decode cX2_readSum 66 = .ok (.bipush 29, 2) := by decide +kernel
theorem dX2_readSum_68 : decode cX2_readSum 68 = .ok (.if_icmp .eq 9, 3) := by decide +kernel
theorem dX2_readSum_71 : decode cX2_readSum 71 = .ok (.iload_n 2, 1) := by decide +kernel
theorem dX2_readSum_72 : decode cX2_readSum 72 = .ok (.bipush 30, 2) := by decide +kernel
theorem dX2_readSum_74 : decode cX2_readSum 74 = .ok (.if_icmp .ne 16, 3) := by decide +kernel
theorem dX2_readSum_77 : decode cX2_readSum 77 = .ok (.aload_n 0, 1) := by decide +kernel
theorem dX2_readSum_78 : decode cX2_readSum 78 = .ok (.dup, 1) := by decide +kernel
theorem dX2_readSum_79 : decode cX2_readSum 79 = .ok (.getfield 87, 3) := by decide +kernel
theorem dX2_readSum_82 : decode cX2_readSum 82 = .ok (.iconst 1, 1) := by decide +kernel
theorem dX2_readSum_83 : decode cX2_readSum 83 = .ok (.iadd, 1) := by decide +kernel
theorem dX2_readSum_84 : decode cX2_readSum 84 = .ok (.putfield 87, 3) := by decide +kernel
theorem dX2_readSum_87 : decode cX2_readSum 87 = .ok (.goto 8, 3) := by decide +kernel
theorem dX2_readSum_90 : decode cX2_readSum 90 = .ok (.aload_n 0, 1) := by decide +kernel
theorem dX2_readSum_91 : decode cX2_readSum 91 = .ok (.invokevirtual 55, 3) := by decide +kernel
theorem dX2_readSum_94 : decode cX2_readSum 94 = .ok (.ireturn, 1) := by decide +kernel
theorem dX2_readSum_95 : decode cX2_readSum 95 = .ok (.aload_n 0, 1) := by decide +kernel
theorem dX2_readSum_96 : decode cX2_readSum 96 = .ok (.iload_n 2, 1) := by decide +kernel
theorem dX2_readSum_97 : decode cX2_readSum 97 = .ok (.iload_n 3, 1) := by decide +kernel
theorem dX2_readSum_98 : decode cX2_readSum 98 = .ok (.invokevirtual 114, 3) := by decide +kernel
theorem dX2_readSum_101 : decode cX2_readSum 101 = .ok (.ifCond .ne 5, 3) := by decide +kernel
theorem dX2_readSum_104 : decode cX2_readSum 104 = .ok (.iconst 0, 1) := by decide +kernel
theorem dX2_readSum_105 : decode cX2_readSum 105 = .ok (.ireturn, 1) := by decide +kernel
theorem dX2_readSum_106 : decode cX2_readSum 106 = .ok (.aload_n 0, 1) := by decide +kernel
theorem dX2_readSum_107 : decode cX2_readSum 107 = .ok (.invokevirtual 38, 3) := by decide +kernel
theorem dX2_readSum_110 : decode cX2_readSum 110 = .ok (.bipush 7, 2) := by decide +kernel
theorem dX2_readSum_112 : decode cX2_readSum 112 = .ok (.if_icmp .eq 5, 3) := by decide +kernel
theorem dX2_readSum_115 : decode cX2_readSum 115 = .ok (.iconst 1, 1) := by decide +kernel
theorem dX2_readSum_116 : decode cX2_readSum 116 = .ok (.ireturn, 1) := by decide +kernel
theorem dX2_readSum_117 : decode cX2_readSum 117 = .ok (.aload_n 0, 1) := by decide +kernel
theorem dX2_readSum_118 : decode cX2_readSum 118 = .ok (.dup, 1) := by decide +kernel
theorem dX2_readSum_119 : decode cX2_readSum 119 = .ok (.getfield 87, 3) := by decide +kernel
theorem dX2_readSum_122 : decode cX2_readSum 122 = .ok (.iconst 1, 1) := by decide +kernel
theorem dX2_readSum_123 : decode cX2_readSum 123 = .ok (.iadd, 1) := by decide +kernel
theorem dX2_readSum_124 : decode cX2_readSum 124 = .ok (.putfield 87, 3) := by decide +kernel
theorem dX2_readSum_127 : decode cX2_readSum 127 = .ok (.iinc 1 1, 3) := by decide +kernel
theorem dX2_readSum_130 : decode cX2_readSum 130 = .ok (.goto (-128), 3) := by decide +kernel
theorem dX2_readSum_133 : decode cX2_readSum 133 = .ok (.aload_n 0, 1) := by decide +kernel
theorem dX2_readSum_134 : decode cX2_readSum 134 = .ok (.invokevirtual 55, 3) := by decide +kernel
theorem dX2_readSum_137 : decode cX2_readSum 137 = .ok (.ireturn, 1) := by decide +kernel
theorem dX3_init_0 : decode cX3_init 0 = .ok (.aload_n 0, 1) := by decide +kernel
theorem dX3_init_1 : decode cX3_init 1 = .ok (.invokespecial 3, 3) := by decide +kernel
theorem dX3_init_4 : decode cX3_init 4 = .ok (.aload_n 0, 1) := by decide +kernel
theorem dX3_init_5 : decode cX3_init 5 = .ok (.bipush 64, 2) := by decide +kernel
theorem dX3_init_7 : decode cX3_init 7 = .ok (.newarray .int, 2) := by decide +kernel
theorem dX3_init_9 : decode cX3_init 9 = .ok (.putfield 11, 3) := by decide +kernel
theorem dX3_init_12 : decode cX3_init 12 = .ok (.aload_n 0, 1) := by decide +kernel
theorem dX3_init_13 : decode cX3_init 13 = .ok (.bipush 64, 2) := by decide +kernel
theorem dX3_init_15 : decode cX3_init 15 = .ok (.newarray .int, 2) := by decide +kernel
theorem dX3_init_17 : decode cX3_init 17 = .ok (.putfield 15, 3) := by decide +kernel
theorem dX3_init_20 : decode cX3_init 20 = .ok (.aload_n 0, 1) := by decide +kernel
theorem dX3_init_21 : decode cX3_init 21 = .ok (.aload_n 1, 1) := by decide +kernel
theorem dX3_init_22 : decode cX3_init 22 = .ok (.putfield 18, 3) := by decide +kernel
theorem dX3_init_25 : decode cX3_init 25 = .ok (.return_, 1) := by decide +kernel
theorem dX3_fewestOut_0 : decode cX3_fewestOut 0 = .ok (.aload_n 0, 1) := by decide +kernel
theorem dX3_fewestOut_1 : decode cX3_fewestOut 1 = .ok (.iload_n 1, 1) := by decide +kernel
theorem dX3_fewestOut_2 : decode cX3_fewestOut 2 = .ok (.invokevirtual 22, 3) := by decide +kernel
theorem dX3_fewestOut_5 : decode cX3_fewestOut 5 = .ok (.aload_n 0, 1) := by decide +kernel
theorem dX3_fewestOut_6 : decode cX3_fewestOut 6 = .ok (.getfield 11, 3) := by decide +kernel
theorem dX3_fewestOut_9 : decode cX3_fewestOut 9 = .ok (.iconst 0, 1) := by decide +kernel
theorem dX3_fewestOut_10 : decode cX3_fewestOut 10 = .ok (.iaload, 1) := by decide +kernel
theorem dX3_fewestOut_11 : decode cX3_fewestOut 11 = .ok (.ldc 26, 2) := by decide +kernel
theorem dX3_fewestOut_13 : decode cX3_fewestOut 13 = .ok (.if_icmp .ge 12, 3) := by decide +kernel
theorem dX3_fewestOut_16 : decode cX3_fewestOut 16 = .ok (.aload_n 0, 1) := by decide +kernel
theorem dX3_fewestOut_17 : decode cX3_fewestOut 17 = .ok (.getfield 11, 3) := by decide +kernel
theorem dX3_fewestOut_20 : decode cX3_fewestOut 20 = .ok (.iconst 0, 1) := by decide +kernel
theorem dX3_fewestOut_21 : decode cX3_fewestOut 21 = .ok (.iaload, 1) := by decide +kernel
theorem dX3_fewestOut_22 : decode cX3_fewestOut 22 = .ok (.goto 4, 3) := by decide +kernel
theorem dX3_fewestOut_25 : decode cX3_fewestOut 25 = .ok (.iconst (-1), 1) := by decide +kernel
theorem dX3_fewestOut_26 : decode cX3_fewestOut 26 = .ok (.ireturn, 1) := by decide +kernel
theorem dX3_fewestOutAndIn_0 : decode cX3_fewestOutAndIn 0 = .ok (.aload_n 0, 1) := by decide +kernel
theorem dX3_fewestOutAndIn_1 : decode cX3_fewestOutAndIn 1 = .ok (.invokevirtual 27, 3) := by decide +kernel
theorem dX3_fewestOutAndIn_4 : decode cX3_fewestOutAndIn 4 = .ok (.aload_n 0, 1) := by decide +kernel
theorem dX3_fewestOutAndIn_5 : decode cX3_fewestOutAndIn 5 = .ok (.getfield 11, 3) := by decide +kernel
theorem dX3_fewestOutAndIn_8 : decode cX3_fewestOutAndIn 8 = .ok (.ldc 26, 2) := by decide +kernel
theorem dX3_fewestOutAndIn_10 : decode cX3_fewestOutAndIn 10 = .ok (.invokestatic 30, 3) := by decide +kernel
theorem dX3_fewestOutAndIn_13 : decode cX3_fewestOutAndIn 13 = .ok (.aload_n 0, 1) := by decide +kernel
theorem dX3_fewestOutAndIn_14 : decode cX3_fewestOutAndIn 14 = .ok (.getfield 11, 3) := by decide +kernel
theorem dX3_fewestOutAndIn_17 : decode cX3_fewestOutAndIn 17 = .ok (.iconst 0, 1) := by decide +kernel
theorem dX3_fewestOutAndIn_18 : decode cX3_fewestOutAndIn 18 = .ok (.iconst 0, 1) := by decide +kernel
theorem dX3_fewestOutAndIn_19 : decode cX3_fewestOutAndIn 19 = .ok (.iastore, 1) := by decide +kernel
theorem dX3_fewestOutAndIn_20 : decode cX3_fewestOutAndIn 20 = .ok (.aload_n 0, 1) := by decide +kernel
theorem dX3_fewestOutAndIn_21 : decode cX3_fewestOutAndIn 21 = .ok (.invokevirtual 36, 3) := by decide +kernel
theorem dX3_fewestOutAndIn_24 : decode cX3_fewestOutAndIn 24 = .ok (.iconst 0, 1) := by decide +kernel
theorem dX3_fewestOutAndIn_25 : decode cX3_fewestOutAndIn 25 = .ok (.istore_n 2, 1) := by decide +kernel
theorem dX3_fewestOutAndIn_26 : decode cX3_fewestOutAndIn 26 = .ok (.iload_n 2, 1) := by decide +kernel
theorem dX3_fewestOutAndIn_27 : decode cX3_fewestOutAndIn 27 = .ok (.bipush 64, 2) := by decide +kernel
theorem dX3_fewestOutAndIn_29 : decode cX3_fewestOutAndIn 29 = .ok (.if_icmp .ge 35, 3) := by decide +kernel
theorem dX3_fewestOutAndIn_32 : decode cX3_fewestOutAndIn 32 = .ok (.aload_n 0, 1) := by decide +kernel
theorem dX3_fewestOutAndIn_33 : decode cX3_fewestOutAndIn 33 = .ok (.getfield 11, 3) := by decide +kernel
theorem dX3_fewestOutAndIn_36 : decode cX3_fewestOutAndIn 36 = .ok (.iload_n 2, 1) := by decide +kernel
theorem dX3_fewestOutAndIn_37 : decode cX3_fewestOutAndIn 37 = .ok (.aload_n 0, 1) := by decide +kernel
theorem dX3_fewestOutAndIn_38 : decode cX3_fewestOutAndIn 38 = .ok (.iload_n 2, 1) := by decide +kernel
theorem dX3_fewestOutAndIn_39 : decode cX3_fewestOutAndIn 39 = .ok (.iload_n 1, 1) := by decide +kernel
theorem dX3_fewestOutAndIn_40 : decode cX3_fewestOutAndIn 40 = .ok (.invokevirtual 39, 3) := by decide +kernel
theorem dX3_fewestOutAndIn_43 : decode cX3_fewestOutAndIn 43 = .ok (.ifCond .eq 12, 3) := by decide +kernel
theorem dX3_fewestOutAndIn_46 : decode cX3_fewestOutAndIn 46 = .ok (.aload_n 0, 1) := by decide +kernel
theorem dX3_fewestOutAndIn_47 : decode cX3_fewestOutAndIn 47 = .ok (.getfield 11, 3) := by decide +kernel
theorem dX3_fewestOutAndIn_50 : decode cX3_fewestOutAndIn 50 = .ok (.iload_n 2, 1) := by decide +kernel
theorem dX3_fewestOutAndIn_51 : decode cX3_fewestOutAndIn 51 = .ok (.iaload, 1) := by decide +kernel
theorem dX3_fewestOutAndIn_52 : decode cX3_fewestOutAndIn 52 = .ok (.goto 5, 3) := by decide +kernel
theorem dX3_fewestOutAndIn_55 : decode cX3_fewestOutAndIn 55 = .ok (.ldc 26, 2) := by decide +kernel
theorem dX3_fewestOutAndIn_57 : decode cX3_fewestOutAndIn 57 = .ok (.iastore, 1) := by decide +kernel
theorem dX3_fewestOutAndIn_58 : decode cX3_fewestOutAndIn 58 = .ok (.iinc 2 1, 3) := by decide +kernel
theorem dX3_fewestOutAndIn_61 : decode cX3_fewestOutAndIn 61 = .ok (.goto (-35), 3) := by decide +kernel
theorem dX3_fewestOutAndIn_64 : decode cX3_fewestOutAndIn 64 = .ok (.aload_n 0, 1) := by decide +kernel
theorem dX3_fewestOutAndIn_65 : decode cX3_fewestOutAndIn 65 = .ok (.invokevirtual 36, 3) := by decide +kernel
theorem dX3_fewestOutAndIn_68 : decode cX3_fewestOutAndIn 68 = .ok (.aload_n 0, 1) := by decide +kernel
theorem dX3_fewestOutAndIn_69 : decode cX3_fewestOutAndIn 69 = .ok (.getfield 11, 3) := by decide +kernel
theorem dX3_fewestOutAndIn_72 : decode cX3_fewestOutAndIn 72 = .ok (.iconst 0, 1) := by decide +kernel
theorem dX3_fewestOutAndIn_73 : decode cX3_fewestOutAndIn 73 = .ok (.iaload, 1) := by decide +kernel
theorem dX3_fewestOutAndIn_74 : decode cX3_fewestOutAndIn 74 = .ok (.ldc 26, 2) := by decide +kernel
theorem dX3_fewestOutAndIn_76 : decode cX3_fewestOutAndIn 76 = .ok (.if_icmp .ge 12, 3) := by decide +kernel
theorem dX3_fewestOutAndIn_79 : decode cX3_fewestOutAndIn 79 = .ok (.aload_n 0, 1) := by decide +kernel
theorem dX3_fewestOutAndIn_80 : decode cX3_fewestOutAndIn 80 = .ok (.getfield 11, 3) := by decide +kernel
theorem dX3_fewestOutAndIn_83 : decode cX3_fewestOutAndIn 83 = .ok (.iconst 0, 1) := by decide +kernel
theorem dX3_fewestOutAndIn_84 : decode cX3_fewestOutAndIn 84 = .ok (.iaload, 1) := by decide +kernel
theorem dX3_fewestOutAndIn_85 : decode cX3_fewestOutAndIn 85 = .ok (.goto 4, 3) := by decide +kernel
theorem dX3_fewestOutAndIn_88 : decode cX3_fewestOutAndIn 88 = .ok (.iconst (-1), 1) := by decide +kernel
theorem dX3_fewestOutAndIn_89 : decode cX3_fewestOutAndIn 89 = .ok (.ireturn, 1) := by decide +kernel
theorem dX3_firstToOpen_0 : decode cX3_firstToOpen 0 = .ok (.aload_n 0, 1) := by decide +kernel
theorem dX3_firstToOpen_1 : decode cX3_firstToOpen 1 = .ok (.iload_n 1, 1) := by decide +kernel
theorem dX3_firstToOpen_2 : decode cX3_firstToOpen 2 = .ok (.invokevirtual 22, 3) := by decide +kernel
theorem dX3_firstToOpen_5 : decode cX3_firstToOpen 5 = .ok (.aload_n 0, 1) := by decide +kernel
theorem dX3_firstToOpen_6 : decode cX3_firstToOpen 6 = .ok (.getfield 11, 3) := by decide +kernel
theorem dX3_firstToOpen_9 : decode cX3_firstToOpen 9 = .ok (.iconst 0, 1) := by decide +kernel
theorem dX3_firstToOpen_10 : decode cX3_firstToOpen 10 = .ok (.iaload, 1) := by decide +kernel
theorem dX3_firstToOpen_11 : decode cX3_firstToOpen 11 = .ok (.ifCond .eq 14, 3) := by decide +kernel
theorem dX3_firstToOpen_14 : decode cX3_firstToOpen 14 = .ok (.aload_n 0, 1) := by decide +kernel
theorem dX3_firstToOpen_15 : decode cX3_firstToOpen 15 = .ok (.getfield 11, 3) := by decide +kernel
theorem dX3_firstToOpen_18 : decode cX3_firstToOpen 18 = .ok (.iconst 0, 1) := by decide +kernel
theorem dX3_firstToOpen_19 : decode cX3_firstToOpen 19 = .ok (.iaload, 1) := by decide +kernel
theorem dX3_firstToOpen_20 : decode cX3_firstToOpen 20 = .ok (.ldc 26, 2) := by decide +kernel
theorem dX3_firstToOpen_22 : decode cX3_firstToOpen 22 = .ok (.if_icmp .lt 5, 3) := by decide +kernel
theorem dX3_firstToOpen_25 : decode cX3_firstToOpen 25 = .ok (.iconst (-1), 1) := by decide +kernel
theorem dX3_firstToOpen_26 : decode cX3_firstToOpen 26 = .ok (.ireturn, 1) := by decide +kernel
theorem dX3_firstToOpen_27 : decode cX3_firstToOpen 27 = .ok (.iconst 0, 1) := by decide +kernel
theorem dX3_firstToOpen_28 : decode cX3_firstToOpen 28 = .ok (.istore_n 2, 1) := by decide +kernel
theorem dX3_firstToOpen_29 : decode cX3_firstToOpen 29 = .ok (.iload_n 2, 1) := by decide +kernel
theorem dX3_firstToOpen_30 : decode cX3_firstToOpen 30 = .ok (.aload_n 0, 1) := by decide +kernel
theorem dX3_firstToOpen_31 : decode cX3_firstToOpen 31 = .ok (.getfield 18, 3) := by decide +kernel
theorem dX3_firstToOpen_34 : decode cX3_firstToOpen 34 = .ok (.getfield 43, 3) := by decide +kernel
theorem dX3_firstToOpen_37 : decode cX3_firstToOpen 37 = .ok (.getfield 49, 3) := by decide +kernel
theorem dX3_firstToOpen_40 : decode cX3_firstToOpen 40 = .ok (.if_icmp .ge 52, 3) := by decide +kernel
theorem dX3_firstToOpen_43 : decode cX3_firstToOpen 43 = .ok (.aload_n 0, 1) := by decide +kernel
theorem dX3_firstToOpen_44 : decode cX3_firstToOpen 44 = .ok (.getfield 18, 3) := by decide +kernel
theorem dX3_firstToOpen_47 : decode cX3_firstToOpen 47 = .ok (.getfield 43, 3) := by decide +kernel
theorem dX3_firstToOpen_50 : decode cX3_firstToOpen 50 = .ok (.iload_n 2, 1) := by decide +kernel
theorem dX3_firstToOpen_51 : decode cX3_firstToOpen 51 = .ok (.iconst 0, 1) := by decide +kernel
theorem dX3_firstToOpen_52 : decode cX3_firstToOpen 52 = .ok (.invokevirtual 55, 3) := by decide +kernel
theorem dX3_firstToOpen_55 : decode cX3_firstToOpen 55 = .ok (.aload_n 0, 1) := by decide +kernel
theorem dX3_firstToOpen_56 : decode cX3_firstToOpen 56 = .ok (.getfield 11, 3) := by decide +kernel
theorem dX3_firstToOpen_59 : decode cX3_firstToOpen 59 = .ok (.iconst 1, 1) := by decide +kernel
theorem dX3_firstToOpen_60 : decode cX3_firstToOpen 60 = .ok (.iload_n 2, 1) := by decide +kernel
theorem dX3_firstToOpen_61 : decode cX3_firstToOpen 61 = .ok (.ishl, 1) := by decide +kernel
theorem dX3_firstToOpen_62 : decode cX3_firstToOpen 62 = .ok (.iaload, 1) := by decide +kernel
theorem dX3_firstToOpen_63 : decode cX3_firstToOpen 63 = .ok (.iadd, 1) := by decide +kernel
theorem dX3_firstToOpen_64 : decode cX3_firstToOpen 64 = .ok (.istore_n 3, 1) := by decide +kernel
theorem dX3_firstToOpen_65 : decode cX3_firstToOpen 65 = .ok (.aload_n 0, 1) := by decide +kernel
theorem dX3_firstToOpen_66 : decode cX3_firstToOpen 66 = .ok (.iload_n 2, 1) := by decide +kernel
theorem dX3_firstToOpen_67 : decode cX3_firstToOpen 67 = .ok (.iconst 0, 1) := by decide +kernel
theorem dX3_firstToOpen_68 : decode cX3_firstToOpen 68 = .ok (.invokevirtual 59, 3) := by decide +kernel
theorem dX3_firstToOpen_71 : decode cX3_firstToOpen 71 = .ok (.ifCond .eq 15, 3) := by decide +kernel
theorem dX3_firstToOpen_74 : decode cX3_firstToOpen 74 = .ok (.iload_n 3, 1) := by decide +kernel
theorem dX3_firstToOpen_75 : decode cX3_firstToOpen 75 = .ok (.aload_n 0, 1) := by decide +kernel
theorem dX3_firstToOpen_76 : decode cX3_firstToOpen 76 = .ok (.getfield 11, 3) := by decide +kernel
theorem dX3_firstToOpen_79 : decode cX3_firstToOpen 79 = .ok (.iconst 0, 1) := by decide +kernel
theorem dX3_firstToOpen_80 : decode cX3_firstToOpen 80 = .ok (.iaload, 1) := by decide +kernel
theorem dX3_firstToOpen_81 : decode cX3_firstToOpen 81 = .ok (.if_icmp .ne 5, 3) := by decide +kernel
theorem dX3_firstToOpen_84 : decode cX3_firstToOpen 84 = .ok (.iload_n 2, 1) := by decide +kernel
theorem dX3_firstToOpen_85 : decode cX3_firstToOpen 85 = .ok (.ireturn, 1) := by decide +kernel
theorem dX3_firstToOpen_86 : decode cX3_firstToOpen 86 = .ok (.iinc 2 1, 3) := by decide +kernel
theorem dX3_firstToOpen_89 : decode cX3_firstToOpen 89 = .ok (.goto (-60), 3) := by decide +kernel
theorem dX3_firstToOpen_92 : decode cX3_firstToOpen 92 = .ok (.iconst (-1), 1) := by decide +kernel
theorem dX3_firstToOpen_93 : decode cX3_firstToOpen 93 = .ok (.ireturn, 1) := by decide +kernel
theorem dX3_reckonOut_0 : decode cX3_reckonOut 0 = .ok (.aload_n 0, 1) := by decide +kernel
theorem dX3_reckonOut_1 : decode cX3_reckonOut 1 = .ok (.invokevirtual 27, 3) := by decide +kernel
theorem dX3_reckonOut_4 : decode cX3_reckonOut 4 = .ok (.iconst 0, 1) := by decide +kernel
theorem dX3_reckonOut_5 : decode cX3_reckonOut 5 = .ok (.istore_n 2, 1) := by decide +kernel
theorem dX3_reckonOut_6 : decode cX3_reckonOut 6 = .ok (.iload_n 2, 1) := by decide +kernel
theorem dX3_reckonOut_7 : decode cX3_reckonOut 7 = .ok (.bipush 64, 2) := by decide +kernel
theorem dX3_reckonOut_9 : decode cX3_reckonOut 9 = .ok (.if_icmp .ge 30, 3) := by decide +kernel
theorem dX3_reckonOut_12 : decode cX3_reckonOut 12 = .ok (.aload_n 0, 1) := by decide +kernel
theorem dX3_reckonOut_13 : decode cX3_reckonOut 13 = .ok (.getfield 11, 3) := by decide +kernel
theorem dX3_reckonOut_16 : decode cX3_reckonOut 16 = .ok (.iload_n 2, 1) := by decide +kernel
theorem dX3_reckonOut_17 : decode cX3_reckonOut 17 = .ok (.aload_n 0, 1) := by decide +kernel
theorem dX3_reckonOut_18 : decode cX3_reckonOut 18 = .ok (.iload_n 2, 1) := by decide +kernel
theorem dX3_reckonOut_19 : decode cX3_reckonOut 19 = .ok (.iload_n 1, 1) := by decide +kernel
theorem dX3_reckonOut_20 : decode cX3_reckonOut 20 = .ok (.invokevirtual 39, 3) := by decide +kernel
theorem dX3_reckonOut_23 : decode cX3_reckonOut 23 = .ok (.ifCond .eq 7, 3) := by decide +kernel
theorem dX3_reckonOut_26 : decode cX3_reckonOut 26 = .ok (.iconst 0, 1) := by decide +kernel
theorem dX3_reckonOut_27 : decode cX3_reckonOut 27 = .ok (.goto 5, 3) := by decide +kernel
theorem dX3_reckonOut_30 : decode cX3_reckonOut 30 = .ok (.ldc 26, 2) := by decide +kernel
theorem dX3_reckonOut_32 : decode cX3_reckonOut 32 = .ok (.iastore, 1) := by decide +kernel
theorem dX3_reckonOut_33 : decode cX3_reckonOut 33 = .ok (.iinc 2 1, 3) := by decide +kernel
theorem dX3_reckonOut_36 : decode cX3_reckonOut 36 = .ok (.goto (-30), 3) := by decide +kernel
theorem dX3_reckonOut_39 : decode cX3_reckonOut 39 = .ok (.aload_n 0, 1) := by decide +kernel
theorem dX3_reckonOut_40 : decode cX3_reckonOut 40 = .ok (.invokevirtual 36, 3) := by decide +kernel
theorem dX3_reckonOut_43 : decode cX3_reckonOut 43 = .ok (.return_, 1) := by decide +kernel
theorem dX3_reckonSlacks_0 : decode cX3_reckonSlacks 0 = .ok (.aload_n 0, 1) := by decide +kernel
theorem dX3_reckonSlacks_1 : decode cX3_reckonSlacks 1 = .ok (.getfield 15, 3) := by decide +kernel
theorem dX3_reckonSlacks_4 : decode cX3_reckonSlacks 4 = .ok (.iconst 0, 1) := by decide +kernel
theorem dX3_reckonSlacks_5 : decode cX3_reckonSlacks 5 = .ok (.aload_n 0, 1) := by decide +kernel
theorem dX3_reckonSlacks_6 : decode cX3_reckonSlacks 6 = .ok (.getfield 18, 3) := by decide +kernel
theorem dX3_reckonSlacks_9 : decode cX3_reckonSlacks 9 = .ok (.getfield 62, 3) := by decide +kernel
theorem dX3_reckonSlacks_12 : decode cX3_reckonSlacks 12 = .ok (.iastore, 1) := by decide +kernel
theorem dX3_reckonSlacks_13 : decode cX3_reckonSlacks 13 = .ok (.iconst 1, 1) := by decide +kernel
theorem dX3_reckonSlacks_14 : decode cX3_reckonSlacks 14 = .ok (.istore_n 1, 1) := by decide +kernel
theorem dX3_reckonSlacks_15 : decode cX3_reckonSlacks 15 = .ok (.iload_n 1, 1) := by decide +kernel
theorem dX3_reckonSlacks_16 : decode cX3_reckonSlacks 16 = .ok (.bipush 64, 2) := by decide +kernel
theorem dX3_reckonSlacks_18 : decode cX3_reckonSlacks 18 = .ok (.if_icmp .ge 45, 3) := by decide +kernel
theorem dX3_reckonSlacks_21 : decode cX3_reckonSlacks 21 = .ok (.iload_n 1, 1) := by decide +kernel
theorem dX3_reckonSlacks_22 : decode cX3_reckonSlacks 22 = .ok (.iload_n 1, 1) := by decide +kernel
theorem dX3_reckonSlacks_23 : decode cX3_reckonSlacks 23 = .ok (.iconst 1, 1) := by decide +kernel
theorem dX3_reckonSlacks_24 : decode cX3_reckonSlacks 24 = .ok (.isub, 1) := by decide +kernel
theorem dX3_reckonSlacks_25 : decode cX3_reckonSlacks 25 = .ok (.iand, 1) := by decide +kernel
theorem dX3_reckonSlacks_26 : decode cX3_reckonSlacks 26 = .ok (.istore_n 2, 1) := by decide +kernel
theorem dX3_reckonSlacks_27 : decode cX3_reckonSlacks 27 = .ok (.aload_n 0, 1) := by decide +kernel
theorem dX3_reckonSlacks_28 : decode cX3_reckonSlacks 28 = .ok (.getfield 18, 3) := by decide +kernel
theorem dX3_reckonSlacks_31 : decode cX3_reckonSlacks 31 = .ok (.getfield 43, 3) := by decide +kernel
theorem dX3_reckonSlacks_34 : decode cX3_reckonSlacks 34 = .ok (.iload_n 1, 1) := by decide +kernel
theorem dX3_reckonSlacks_35 : decode cX3_reckonSlacks 35 = .ok (.invokestatic 65, 3) := by decide +kernel
theorem dX3_reckonSlacks_38 : decode cX3_reckonSlacks 38 = .ok (.iconst 3, 1) := by decide +kernel
theorem dX3_reckonSlacks_39 : decode cX3_reckonSlacks 39 = .ok (.invokevirtual 55, 3) := by decide +kernel
theorem dX3_reckonSlacks_42 : decode cX3_reckonSlacks 42 = .ok (.istore_n 3, 1) := by decide +kernel
theorem dX3_reckonSlacks_43 : decode cX3_reckonSlacks 43 = .ok (.aload_n 0, 1) := by decide +kernel
theorem dX3_reckonSlacks_44 : decode cX3_reckonSlacks 44 = .ok (.getfield 15, 3) := by decide +kernel
theorem dX3_reckonSlacks_47 : decode cX3_reckonSlacks 47 = .ok (.iload_n 1, 1) := by decide +kernel
theorem dX3_reckonSlacks_48 : decode cX3_reckonSlacks 48 = .ok (.aload_n 0, 1) := by decide +kernel
theorem dX3_reckonSlacks_49 : decode cX3_reckonSlacks 49 = .ok (.getfield 15, 3) := by decide +kernel
theorem dX3_reckonSlacks_52 : decode cX3_reckonSlacks 52 = .ok (.iload_n 2, 1) := by decide +kernel
theorem dX3_reckonSlacks_53 : decode cX3_reckonSlacks 53 = .ok (.iaload, 1) := by decide +kernel
theorem dX3_reckonSlacks_54 : decode cX3_reckonSlacks 54 = .ok (.iload_n 3, 1) := by decide +kernel
theorem dX3_reckonSlacks_55 : decode cX3_reckonSlacks 55 = .ok (.iadd, 1) := by decide +kernel
theorem dX3_reckonSlacks_56 : decode cX3_reckonSlacks 56 = .ok (.iastore, 1) := by decide +kernel
theorem dX3_reckonSlacks_57 : decode cX3_reckonSlacks 57 = .ok (.iinc 1 1, 3) := by decide +kernel
theorem dX3_reckonSlacks_60 : decode cX3_reckonSlacks 60 = .ok (.goto (-45), 3) := by decide +kernel
theorem dX3_reckonSlacks_63 : decode cX3_reckonSlacks 63 = .ok (.return_, 1) := by decide +kernel
theorem dX3_hasAll_0 : decode cX3_hasAll 0 = .ok (.iload_n 2, 1) := by decide +kernel
theorem dX3_hasAll_1 : decode cX3_hasAll 1 = .ok (.aload_n 0, 1) := by decide +kernel
theorem dX3_hasAll_2 : decode cX3_hasAll 2 = .ok (.getfield 18, 3) := by decide +kernel
theorem dX3_hasAll_5 : decode cX3_hasAll 5 = .ok (.getfield 43, 3) := by decide +kernel
theorem dX3_hasAll_8 : decode cX3_hasAll 8 = .ok (.getfield 49, 3) := by decide +kernel
theorem dX3_hasAll_11 : decode cX3_hasAll 11 = .ok (.invokestatic 71, 3) := by decide +kernel
theorem dX3_hasAll_14 : decode cX3_hasAll 14 = .ok (.iand, 1) := by decide +kernel
theorem dX3_hasAll_15 : decode cX3_hasAll 15 = .ok (.iload_n 1, 1) := by decide +kernel
theorem dX3_hasAll_16 : decode cX3_hasAll 16 = .ok (.iconst (-1), 1) := by decide +kernel
theorem dX3_hasAll_17 : decode cX3_hasAll 17 = .ok (.ixor, 1) := by decide +kernel
theorem dX3_hasAll_18 : decode cX3_hasAll 18 = .ok (.iand, 1) := by decide +kernel
theorem dX3_hasAll_19 : decode cX3_hasAll 19 = .ok (.ifCond .ne 7, 3) := by decide +kernel
theorem dX3_hasAll_22 : decode cX3_hasAll 22 = .ok (.iconst 1, 1) := by decide +kernel
theorem dX3_hasAll_23 : decode cX3_hasAll 23 = .ok (.goto 4, 3) := by decide +kernel
theorem dX3_hasAll_26 : decode cX3_hasAll 26 = .ok (.iconst 0, 1) := by decide +kernel
theorem dX3_hasAll_27 : decode cX3_hasAll 27 = .ok (.ireturn, 1) := by decide +kernel
theorem dX3_shorten_0 : decode cX3_shorten 0 = .ok (.iconst 1, 1) := by decide +kernel
theorem dX3_shorten_1 : decode cX3_shorten 1 = .ok (.istore_n 1, 1) := by decide +kernel
theorem dX3_shorten_2 : decode cX3_shorten 2 = .ok (.iconst 0, 1) := by decide +kernel
theorem dX3_shorten_3 : decode cX3_shorten 3 = .ok (.istore_n 2, 1) := by decide +kernel
theorem dX3_shorten_4 : decode cX3_shorten 4 = .ok (.iload_n 2, 1) := by decide +kernel
theorem dX3_shorten_5 : decode cX3_shorten 5 = .ok (.bipush 64, 2) := by decide +kernel
theorem dX3_shorten_7 : decode cX3_shorten 7 = .ok (.if_icmp .ge 93, 3) := by decide +kernel
theorem dX3_shorten_10 : decode cX3_shorten 10 = .ok (.iload_n 1, 1) := by decide +kernel
theorem dX3_shorten_11 : decode cX3_shorten 11 = .ok (.ifCond .eq 89, 3) := by decide +kernel
theorem dX3_shorten_14 : decode cX3_shorten 14 = .ok (.iconst 0, 1) := by decide +kernel
theorem dX3_shorten_15 : decode cX3_shorten 15 = .ok (.istore_n 1, 1) := by decide +kernel
theorem dX3_shorten_16 : decode cX3_shorten 16 = .ok (.iconst 0, 1) := by decide +kernel
theorem dX3_shorten_17 : decode cX3_shorten 17 = .ok (.istore_n 3, 1) := by decide +kernel
theorem dX3_shorten_18 : decode cX3_shorten 18 = .ok (.iload_n 3, 1) := by decide +kernel
theorem dX3_shorten_19 : decode cX3_shorten 19 = .ok (.iconst 1, 1) := by decide +kernel
theorem dX3_shorten_20 : decode cX3_shorten 20 = .ok (.aload_n 0, 1) := by decide +kernel
theorem dX3_shorten_21 : decode cX3_shorten 21 = .ok (.getfield 18, 3) := by decide +kernel
theorem dX3_shorten_24 : decode cX3_shorten 24 = .ok (.getfield 43, 3) := by decide +kernel
theorem dX3_shorten_27 : decode cX3_shorten 27 = .ok (.getfield 49, 3) := by decide +kernel
theorem dX3_shorten_30 : decode cX3_shorten 30 = .ok (.ishl, 1) := by decide +kernel
theorem dX3_shorten_31 : decode cX3_shorten 31 = .ok (.if_icmp .ge 63, 3) := by decide +kernel
theorem dX3_shorten_34 : decode cX3_shorten 34 = .ok (.iconst 0, 1) := by decide +kernel
theorem dX3_shorten_35 : decode cX3_shorten 35 = .ok (.istore 4, 2) := by decide +kernel
theorem dX3_shorten_37 : decode cX3_shorten 37 = .ok (.iload 4, 2) := by decide +kernel
theorem dX3_shorten_39 : decode cX3_shorten 39 = .ok (.aload_n 0, 1) := by decide +kernel
theorem dX3_shorten_40 : decode cX3_shorten 40 = .ok (.getfield 18, 3) := by decide +kernel
theorem dX3_shorten_43 : decode cX3_shorten 43 = .ok (.getfield 43, 3) := by decide +kernel
theorem dX3_shorten_46 : decode cX3_shorten 46 = .ok (.getfield 49, 3) := by decide +kernel
theorem dX3_shorten_49 : decode cX3_shorten 49 = .ok (.if_icmp .ge 39, 3) := by decide +kernel
theorem dX3_shorten_52 : decode cX3_shorten 52 = .ok (.aload_n 0, 1) := by decide +kernel
theorem dX3_shorten_53 : decode cX3_shorten 53 = .ok (.iload_n 3, 1) := by decide +kernel
theorem dX3_shorten_54 : decode cX3_shorten 54 = .ok (.iload 4, 2) := by decide +kernel
theorem dX3_shorten_56 : decode cX3_shorten 56 = .ok (.invokevirtual 74, 3) := by decide +kernel
theorem dX3_shorten_59 : decode cX3_shorten 59 = .ok (.istore 5, 2) := by decide +kernel
theorem dX3_shorten_61 : decode cX3_shorten 61 = .ok (.iload 5, 2) := by decide +kernel
theorem dX3_shorten_63 : decode cX3_shorten 63 = .ok (.aload_n 0, 1) := by decide +kernel
theorem dX3_shorten_64 : decode cX3_shorten 64 = .ok (.getfield 11, 3) := by decide +kernel
theorem dX3_shorten_67 : decode cX3_shorten 67 = .ok (.iload_n 3, 1) := by decide +kernel
theorem dX3_shorten_68 : decode cX3_shorten 68 = .ok (.iaload, 1) := by decide +kernel
theorem dX3_shorten_69 : decode cX3_shorten 69 = .ok (.if_icmp .ge 13, 3) := by decide +kernel
theorem dX3_shorten_72 : decode cX3_shorten 72 = .ok (.aload_n 0, 1) := by decide +kernel
theorem dX3_shorten_73 : decode cX3_shorten 73 = .ok (.getfield 11, 3) := by decide +kernel
theorem dX3_shorten_76 : decode cX3_shorten 76 = .ok (.iload_n 3, 1) := by decide +kernel
theorem dX3_shorten_77 : decode cX3_shorten 77 = .ok (.iload 5, 2) := by decide +kernel
theorem dX3_shorten_79 : decode cX3_shorten 79 = .ok (.iastore, 1) := by decide +kernel
theorem dX3_shorten_80 : decode cX3_shorten 80 = .ok (.iconst 1, 1) := by decide +kernel
theorem dX3_shorten_81 : decode cX3_shorten 81 = .ok (.istore_n 1, 1) := by decide +kernel
theorem dX3_shorten_82 : decode cX3_shorten 82 = .ok (.iinc 4 1, 3) := by decide +kernel
theorem dX3_shorten_85 : decode cX3_shorten 85 = .ok (.goto (-48), 3) := by decide +kernel
theorem dX3_shorten_88 : decode cX3_shorten 88 = .ok (.iinc 3 1, 3) := by decide +kernel
theorem dX3_shorten_91 : decode cX3_shorten 91 = .ok (.goto (-73), 3) := by decide +kernel
theorem dX3_shorten_94 : decode cX3_shorten 94 = .ok (.iinc 2 1, 3) := by decide +kernel
theorem dX3_shorten_97 : decode cX3_shorten 97 = .ok (.goto (-93), 3) := by decide +kernel
theorem dX3_shorten_100 : decode cX3_shorten 100 = .ok (.return_, 1) := by decide +kernel
theorem dX3_secondsBy_0 : decode cX3_secondsBy 0 = .ok (.iconst 1, 1) := by decide +kernel
theorem dX3_secondsBy_1 : decode cX3_secondsBy 1 = .ok (.iload_n 2, 1) := by decide +kernel
theorem dX3_secondsBy_2 : decode cX3_secondsBy 2 = .ok (.ishl, 1) := by decide +kernel
theorem dX3_secondsBy_3 : decode cX3_secondsBy 3 = .ok (.istore_n 3, 1) := by decide +kernel
theorem dX3_secondsBy_4 : decode cX3_secondsBy 4 = .ok (.aload_n 0, 1) := by decide +kernel
theorem dX3_secondsBy_5 : decode cX3_secondsBy 5 = .ok (.iload_n 2, 1) := by decide +kernel
theorem dX3_secondsBy_6 : decode cX3_secondsBy 6 = .ok (.iload_n 1, 1) := by decide +kernel
theorem dX3_secondsBy_7 : decode cX3_secondsBy 7 = .ok (.iload_n 3, 1) := by decide +kernel
theorem dX3_secondsBy_8 : decode cX3_secondsBy 8 = .ok (.iconst (-1), 1) := by decide +kernel
theorem dX3_secondsBy_9 : decode cX3_secondsBy 9 = .ok (.ixor, 1) := by decide +kernel
theorem dX3_secondsBy_10 : decode cX3_secondsBy 10 = .ok (.iand, 1) := by decide +kernel
theorem dX3_secondsBy_11 : decode cX3_secondsBy 11 = .ok (.invokevirtual 59, 3) := by decide +kernel
theorem dX3_secondsBy_14 : decode cX3_secondsBy 14 = .ok (.ifCond .ne 6, 3) := by decide +kernel
theorem dX3_secondsBy_17 : decode cX3_secondsBy 17 = .ok (.ldc 26, 2) := by decide +kernel
theorem dX3_secondsBy_19 : decode cX3_secondsBy 19 = .ok (.ireturn, 1) := by decide +kernel
theorem dX3_secondsBy_20 : decode cX3_secondsBy 20 = .ok (.iload_n 1, 1) := by decide +kernel
theorem dX3_secondsBy_21 : decode cX3_secondsBy 21 = .ok (.iload_n 2, 1) := by decide +kernel
theorem dX3_secondsBy_22 : decode cX3_secondsBy 22 = .ok (.invokestatic 77, 3) := by decide +kernel
theorem dX3_secondsBy_25 : decode cX3_secondsBy 25 = .ok (.istore 4, 2) := by decide +kernel
theorem dX3_secondsBy_27 : decode cX3_secondsBy 27 = .ok (.aload_n 0, 1) := by decide +kernel
theorem dX3_secondsBy_28 : decode cX3_secondsBy 28 = .ok (.getfield 18, 3) := by decide +kernel
theorem dX3_secondsBy_31 : decode cX3_secondsBy 31 = .ok (.getfield 43, 3) := by decide +kernel
theorem dX3_secondsBy_34 : decode cX3_secondsBy 34 = .ok (.iload_n 2, 1) := by decide +kernel
theorem dX3_secondsBy_35 : decode cX3_secondsBy 35 = .ok (.iload 4, 2) := by decide +kernel
theorem dX3_secondsBy_37 : decode cX3_secondsBy 37 = .ok (.ifCond .eq 7, 3) := by decide +kernel
theorem dX3_secondsBy_40 : decode cX3_secondsBy 40 = .ok (.iconst 1, 1) := by decide +kernel
theorem dX3_secondsBy_41 : decode cX3_secondsBy 41 = .ok (.goto 4, 3) := by decide +kernel
theorem dX3_secondsBy_44 : decode cX3_secondsBy 44 = .ok (.iconst 0, 1) := by decide +kernel
theorem dX3_secondsBy_45 : decode cX3_secondsBy 45 = .ok (.invokevirtual 55, 3) := by decide +kernel
theorem dX3_secondsBy_48 : decode cX3_secondsBy 48 = .ok (.aload_n 0, 1) := by decide +kernel
theorem dX3_secondsBy_49 : decode cX3_secondsBy 49 = .ok (.getfield 11, 3) := by decide +kernel
theorem dX3_secondsBy_52 : decode cX3_secondsBy 52 = .ok (.iload_n 1, 1) := by decide +kernel
theorem dX3_secondsBy_53 : decode cX3_secondsBy 53 = .ok (.iload_n 3, 1) := by decide +kernel
theorem dX3_secondsBy_54 : decode cX3_secondsBy 54 = .ok (.ixor, 1) := by decide +kernel
theorem dX3_secondsBy_55 : decode cX3_secondsBy 55 = .ok (.iaload, 1) := by decide +kernel
theorem dX3_secondsBy_56 : decode cX3_secondsBy 56 = .ok (.iadd, 1) := by decide +kernel
theorem dX3_secondsBy_57 : decode cX3_secondsBy 57 = .ok (.ireturn, 1) := by decide +kernel
theorem dX3_givesWay_0 : decode cX3_givesWay 0 = .ok (.aload_n 0, 1) := by decide +kernel
theorem dX3_givesWay_1 : decode cX3_givesWay 1 = .ok (.getfield 15, 3) := by decide +kernel
theorem dX3_givesWay_4 : decode cX3_givesWay 4 = .ok (.iload_n 2, 1) := by decide +kernel
theorem dX3_givesWay_5 : decode cX3_givesWay 5 = .ok (.iaload, 1) := by decide +kernel
theorem dX3_givesWay_6 : decode cX3_givesWay 6 = .ok (.aload_n 0, 1) := by decide +kernel
theorem dX3_givesWay_7 : decode cX3_givesWay 7 = .ok (.getfield 18, 3) := by decide +kernel
theorem dX3_givesWay_10 : decode cX3_givesWay 10 = .ok (.getfield 43, 3) := by decide +kernel
theorem dX3_givesWay_13 : decode cX3_givesWay 13 = .ok (.iload_n 1, 1) := by decide +kernel
theorem dX3_givesWay_14 : decode cX3_givesWay 14 = .ok (.iconst 2, 1) := by decide +kernel
theorem dX3_givesWay_15 : decode cX3_givesWay 15 = .ok (.invokevirtual 55, 3) := by decide +kernel
theorem dX3_givesWay_18 : decode cX3_givesWay 18 = .ok (.if_icmp .lt 7, 3) := by decide +kernel
theorem dX3_givesWay_21 : decode cX3_givesWay 21 = .ok (.iconst 1, 1) := by decide +kernel
theorem dX3_givesWay_22 : decode cX3_givesWay 22 = .ok (.goto 4, 3) := by decide +kernel
theorem dX3_givesWay_25 : decode cX3_givesWay 25 = .ok (.iconst 0, 1) := by decide +kernel
theorem dX3_givesWay_26 : decode cX3_givesWay 26 = .ok (.ireturn, 1) := by decide +kernel
theorem dX4_init_0 : decode cX4_init 0 = .ok (.aload_n 0, 1) := by decide +kernel
theorem dX4_init_1 : decode cX4_init 1 = .ok (.invokespecial 1, 3) := by decide +kernel
theorem dX4_init_4 : decode cX4_init 4 = .ok (.aload_n 0, 1) := by decide +kernel
theorem dX4_init_5 : decode cX4_init 5 = .ok (.aload_n 1, 1) := by decide +kernel
theorem dX4_init_6 : decode cX4_init 6 = .ok (.putfield 7, 3) := by decide +kernel
theorem dX4_init_9 : decode cX4_init 9 = .ok (.return_, 1) := by decide +kernel
theorem dX4_lineCount_0 : decode cX4_lineCount 0 = .ok (.aload_n 0, 1) := by decide +kernel
theorem dX4_lineCount_1 : decode cX4_lineCount 1 = .ok (.getfield 7, 3) := by decide +kernel
theorem dX4_lineCount_4 : decode cX4_lineCount 4 = .ok (.arraylength, 1) := by decide +kernel
theorem dX4_lineCount_5 : decode cX4_lineCount 5 = .ok (.iconst 3, 1) := by decide +kernel
theorem dX4_lineCount_6 : decode cX4_lineCount 6 = .ok (.idiv, 1) := by decide +kernel
theorem dX4_lineCount_7 : decode cX4_lineCount 7 = .ok (.ireturn, 1) := by decide +kernel
theorem dX5_init_0 : decode cX5_init 0 = .ok (.aload_n 0, 1) := by decide +kernel
theorem dX5_init_1 : decode cX5_init 1 = .ok (.invokespecial 3, 3) := by decide +kernel
theorem dX5_init_4 : decode cX5_init 4 = .ok (.aload_n 0, 1) := by decide +kernel
theorem dX5_init_5 : decode cX5_init 5 = .ok (.sipush 401, 3) := by decide +kernel
theorem dX5_init_8 : decode cX5_init 8 = .ok (.newarray .int, 2) := by decide +kernel
theorem dX5_init_10 : decode cX5_init 10 = .ok (.putfield 9, 3) := by decide +kernel
theorem dX5_init_13 : decode cX5_init 13 = .ok (.aload_n 0, 1) := by decide +kernel
theorem dX5_init_14 : decode cX5_init 14 = .ok (.sipush 401, 3) := by decide +kernel
theorem dX5_init_17 : decode cX5_init 17 = .ok (.newarray .int, 2) := by decide +kernel
theorem dX5_init_19 : decode cX5_init 19 = .ok (.putfield 15, 3) := by decide +kernel
theorem dX5_init_22 : decode cX5_init 22 = .ok (.aload_n 0, 1) := by decide +kernel
theorem dX5_init_23 : decode cX5_init 23 = .ok (.sipush 401, 3) := by decide +kernel
theorem dX5_init_26 : decode cX5_init 26 = .ok (.newarray .int, 2) := by decide +kernel
theorem dX5_init_28 : decode cX5_init 28 = .ok (.putfield 18, 3) := by decide +kernel
theorem dX5_init_31 : decode cX5_init 31 = .ok (.return_, 1) := by decide +kernel
theorem dX5_scan_0 : decode cX5_scan 0 = .ok (.aload_n 0, 1) := by decide +kernel
theorem dX5_scan_1 : decode cX5_scan 1 = .ok (.iconst 0, 1) := by decide +kernel
theorem dX5_scan_2 : decode cX5_scan 2 = .ok (.putfield 21, 3) := by decide +kernel
theorem dX5_scan_5 : decode cX5_scan 5 = .ok (.iconst 0, 1) := by decide +kernel
theorem dX5_scan_6 : decode cX5_scan 6 = .ok (.istore_n 3, 1) := by decide +kernel
theorem dX5_scan_7 : decode cX5_scan 7 = .ok (.iload_n 3, 1) := by decide +kernel
theorem dX5_scan_8 : decode cX5_scan 8 = .ok (.iload_n 2, 1) := by decide +kernel
theorem dX5_scan_9 : decode cX5_scan 9 = .ok (.if_icmp .ge 128, 3) := by decide +kernel
theorem dX5_scan_12 : decode cX5_scan 12 = .ok (.iload_n 3, 1) := by decide +kernel
theorem dX5_scan_13 : decode cX5_scan 13 = .ok (.iconst 1, 1) := by decide +kernel
theorem dX5_scan_14 : decode cX5_scan 14 = .ok (.iadd, 1) := by decide +kernel
theorem dX5_scan_15 : decode cX5_scan 15 = .ok (.istore 4, 2) := by decide +kernel
theorem dX5_scan_17 : decode cX5_scan 17 = .ok (.aload_n 1, 1) := by decide +kernel
theorem dX5_scan_18 : decode cX5_scan 18 = .ok (.iload_n 3, 1) := by decide +kernel
theorem dX5_scan_19 : decode cX5_scan 19 = .ok (.baload, 1) := by decide +kernel
theorem dX5_scan_20 : decode cX5_scan 20 = .ok (.invokestatic 25, 3) := by decide +kernel
theorem dX5_scan_23 : decode cX5_scan 23 = .ok (.ifCond .eq 41, 3) := by decide +kernel
theorem dX5_scan_26 : decode cX5_scan 26 = .ok (.iload 4, 2) := by decide +kernel
theorem dX5_scan_28 : decode cX5_scan 28 = .ok (.iload_n 2, 1) := by decide +kernel
theorem dX5_scan_29 : decode cX5_scan 29 = .ok (.if_icmp .ge 19, 3) := by decide +kernel
theorem dX5_scan_32 : decode cX5_scan 32 = .ok (.aload_n 1, 1) := by decide +kernel
theorem dX5_scan_33 : decode cX5_scan 33 = .ok (.iload 4, 2) := by decide +kernel
theorem dX5_scan_35 : decode cX5_scan 35 = .ok (.baload, 1) := by decide +kernel
theorem dX5_scan_36 : decode cX5_scan 36 = .ok (.invokestatic 25, 3) := by decide +kernel
theorem dX5_scan_39 : decode cX5_scan 39 = .ok (.ifCond .eq 9, 3) := by decide +kernel
theorem dX5_scan_42 : decode cX5_scan 42 = .ok (.iinc 4 1, 3) := by decide +kernel
theorem dX5_scan_45 : decode cX5_scan 45 = .ok (.goto (-19), 3) := by decide +kernel
theorem dX5_scan_48 : decode cX5_scan 48 = .ok (.aload_n 0, 1) := by decide +kernel
theorem dX5_scan_49 : decode cX5_scan 49 = .ok (.aload_n 1, 1) := by decide +kernel
theorem dX5_scan_50 : decode cX5_scan 50 = .ok (.iload_n 3, 1) := by decide +kernel
theorem dX5_scan_51 : decode cX5_scan 51 = .ok (.iload 4, 2) := by decide +kernel
theorem dX5_scan_53 : decode cX5_scan 53 = .ok (.invokestatic 29, 3) := by decide +kernel
theorem dX5_scan_56 : decode cX5_scan 56 = .ok (.iload_n 3, 1) := by decide +kernel
theorem dX5_scan_57 : decode cX5_scan 57 = .ok (.iconst 0, 1) := by decide +kernel
theorem dX5_scan_58 : decode cX5_scan 58 = .ok (.invokevirtual 35, 3) := by decide +kernel
theorem dX5_scan_61 : decode cX5_scan 61 = .ok (.goto 70, 3) := by decide +kernel
theorem dX5_scan_64 : decode cX5_scan 64 = .ok (.aload_n 1, 1) := by decide +kernel
theorem dX5_scan_65 : decode cX5_scan 65 = .ok (.iload_n 3, 1) := by decide +kernel
theorem dX5_scan_66 : decode cX5_scan 66 = .ok (.baload, 1) := by decide +kernel
theorem dX5_scan_67 : decode cX5_scan 67 = .ok (.invokestatic 39, 3) := by decide +kernel
theorem dX5_scan_70 : decode cX5_scan 70 = .ok (.ifCond .eq 41, 3) := by decide +kernel
theorem dX5_scan_73 : decode cX5_scan 73 = .ok (.iload 4, 2) := by decide +kernel
theorem dX5_scan_75 : decode cX5_scan 75 = .ok (.iload_n 2, 1) := by decide +kernel
theorem dX5_scan_76 : decode cX5_scan 76 = .ok (.if_icmp .ge 19, 3) := by decide +kernel
theorem dX5_scan_79 : decode cX5_scan 79 = .ok (.aload_n 1, 1) := by decide +kernel
theorem dX5_scan_80 : decode cX5_scan 80 = .ok (.iload 4, 2) := by decide +kernel
theorem dX5_scan_82 : decode cX5_scan 82 = .ok (.baload, 1) := by decide +kernel
theorem dX5_scan_83 : decode cX5_scan 83 = .ok (.invokestatic 39, 3) := by decide +kernel
theorem dX5_scan_86 : decode cX5_scan 86 = .ok (.ifCond .eq 9, 3) := by decide +kernel
theorem dX5_scan_89 : decode cX5_scan 89 = .ok (.iinc 4 1, 3) := by decide +kernel
theorem dX5_scan_92 : decode cX5_scan 92 = .ok (.goto (-19), 3) := by decide +kernel
theorem dX5_scan_95 : decode cX5_scan 95 = .ok (.aload_n 0, 1) := by decide +kernel
theorem dX5_scan_96 : decode cX5_scan 96 = .ok (.iconst 2, 1) := by decide +kernel
theorem dX5_scan_97 : decode cX5_scan 97 = .ok (.iload_n 3, 1) := by decide +kernel
theorem dX5_scan_98 : decode cX5_scan 98 = .ok (.aload_n 1, 1) := by decide +kernel
theorem dX5_scan_99 : decode cX5_scan 99 = .ok (.iload_n 3, 1) := by decide +kernel
theorem dX5_scan_100 : decode cX5_scan 100 = .ok (.iload 4, 2) := by decide +kernel
theorem dX5_scan_102 : decode cX5_scan 102 = .ok (.invokestatic 42, 3) := by decide +kernel
theorem dX5_scan_105 : decode cX5_scan 105 = .ok (.invokevirtual 35, 3) := by decide +kernel
theorem dX5_scan_108 : decode cX5_scan 108 = .ok (.goto 23, 3) := by decide +kernel
theorem dX5_scan_111 : decode cX5_scan 111 = .ok (.aload_n 1, 1) := by decide +kernel
theorem dX5_scan_112 : decode cX5_scan 112 = .ok (.iload_n 3, 1) := by decide +kernel
theorem dX5_scan_113 : decode cX5_scan 113 = .ok (.baload, 1) := by decide +kernel
theorem dX5_scan_114 : decode cX5_scan 114 = .ok (.bipush 32, 2) := by decide +kernel
theorem dX5_scan_116 : decode cX5_scan 116 = .ok (.if_icmp .eq 15, 3) := by decide +kernel
theorem dX5_scan_119 : decode cX5_scan 119 = .ok (.aload_n 0, 1) := by decide +kernel
theorem dX5_scan_120 : decode cX5_scan 120 = .ok (.aload_n 1, 1) := by decide +kernel
theorem dX5_scan_121 : decode cX5_scan 121 = .ok (.iload_n 3, 1) := by decide +kernel
theorem dX5_scan_122 : decode cX5_scan 122 = .ok (.baload, 1) := by decide +kernel
theorem dX5_scan_123 : decode cX5_scan 123 = .ok (.invokestatic 45, 3) := by decide +kernel
theorem dX5_scan_126 : decode cX5_scan 126 = .ok (.iload_n 3, 1) := by decide +kernel
theorem dX5_scan_127 : decode cX5_scan 127 = .ok (.iconst 0, 1) := by decide +kernel
theorem dX5_scan_128 : decode cX5_scan 128 = .ok (.invokevirtual 35, 3) := by decide +kernel
theorem dX5_scan_131 : decode cX5_scan 131 = .ok (.iload 4, 2) := by decide +kernel
theorem dX5_scan_133 : decode cX5_scan 133 = .ok (.istore_n 3, 1) := by decide +kernel
theorem dX5_scan_134 : decode cX5_scan 134 = .ok (.goto (-127), 3) := by decide +kernel
theorem dX5_scan_137 : decode cX5_scan 137 = .ok (.aload_n 0, 1) := by decide +kernel
theorem dX5_scan_138 : decode cX5_scan 138 = .ok (.iconst 0, 1) := by decide +kernel
theorem dX5_scan_139 : decode cX5_scan 139 = .ok (.iload_n 2, 1) := by decide +kernel
theorem dX5_scan_140 : decode cX5_scan 140 = .ok (.iconst 0, 1) := by decide +kernel
theorem dX5_scan_141 : decode cX5_scan 141 = .ok (.invokevirtual 35, 3) := by decide +kernel
theorem dX5_scan_144 : decode cX5_scan 144 = .ok (.return_, 1) := by decide +kernel
theorem dX5_put_0 : decode cX5_put 0 = .ok (.aload_n 0, 1) := by decide +kernel
theorem dX5_put_1 : decode cX5_put 1 = .ok (.getfield 21, 3) := by decide +kernel
theorem dX5_put_4 : decode cX5_put 4 = .ok (.aload_n 0, 1) := by decide +kernel
theorem dX5_put_5 : decode cX5_put 5 = .ok (.getfield 9, 3) := by decide +kernel
theorem dX5_put_8 : decode cX5_put 8 = .ok (.arraylength, 1) := by decide +kernel
theorem dX5_put_9 : decode cX5_put 9 = .ok (.if_icmp .ge 43, 3) := by decide +kernel
theorem dX5_put_12 : decode cX5_put 12 = .ok (.aload_n 0, 1) := by decide +kernel
theorem dX5_put_13 : decode cX5_put 13 = .ok (.getfield 9, 3) := by decide +kernel
theorem dX5_put_16 : decode cX5_put 16 = .ok (.aload_n 0, 1) := by decide +kernel
theorem dX5_put_17 : decode cX5_put 17 = .ok (.getfield 21, 3) := by decide +kernel
theorem dX5_put_20 : decode cX5_put 20 = .ok (.iload_n 1, 1) := by decide +kernel
theorem dX5_put_21 : decode cX5_put 21 = .ok (.iastore, 1) := by decide +kernel
theorem dX5_put_22 : decode cX5_put 22 = .ok (.aload_n 0, 1) := by decide +kernel
theorem dX5_put_23 : decode cX5_put 23 = .ok (.getfield 15, 3) := by decide +kernel
theorem dX5_put_26 : decode cX5_put 26 = .ok (.aload_n 0, 1) := by decide +kernel
theorem dX5_put_27 : decode cX5_put 27 = .ok (.getfield 21, 3) := by decide +kernel
theorem dX5_put_30 : decode cX5_put 30 = .ok (.iload_n 2, 1) := by decide +kernel
theorem dX5_put_31 : decode cX5_put 31 = .ok (.iastore, 1) := by decide +kernel
theorem dX5_put_32 : decode cX5_put 32 = .ok (.aload_n 0, 1) := by decide +kernel
theorem dX5_put_33 : decode cX5_put 33 = .ok (.getfield 18, 3) := by decide +kernel
theorem dX5_put_36 : decode cX5_put 36 = .ok (.aload_n 0, 1) := by decide +kernel
theorem dX5_put_37 : decode cX5_put 37 = .ok (.getfield 21, 3) := by decide +kernel
theorem dX5_put_40 : decode cX5_put 40 = .ok (.iload_n 3, 1) := by decide +kernel
theorem dX5_put_41 : decode cX5_put 41 = .ok (.iastore, 1) := by decide +kernel
theorem dX5_put_42 : decode cX5_put 42 = .ok (.aload_n 0, 1) := by decide +kernel
theorem dX5_put_43 : decode cX5_put 43 = .ok (.dup, 1) := by decide +kernel
theorem dX5_put_44 : decode cX5_put 44 = .ok (.getfield 21, 3) := by decide +kernel
theorem dX5_put_47 : decode cX5_put 47 = .ok (.iconst 1, 1) := by decide +kernel
theorem dX5_put_48 : decode cX5_put 48 = .ok (.iadd, 1) := by decide +kernel
theorem dX5_put_49 : decode cX5_put 49 = .ok (.putfield 21, 3) := by decide +kernel
theorem dX5_put_52 : decode cX5_put 52 = .ok (.return_, 1) := by decide +kernel
theorem dX5_isLetter_0 : decode cX5_isLetter 0 = .ok (.iload_n 0, 1) := by decide +kernel
theorem dX5_isLetter_1 : decode cX5_isLetter 1 = .ok (.bipush 97, 2) := by decide +kernel
theorem dX5_isLetter_3 : decode cX5_isLetter 3 = .ok (.if_icmp .lt 13, 3) := by decide +kernel
theorem dX5_isLetter_6 : decode cX5_isLetter 6 = .ok (.iload_n 0, 1) := by decide +kernel
theorem dX5_isLetter_7 : decode cX5_isLetter 7 = .ok (.bipush 122, 2) := by decide +kernel
theorem dX5_isLetter_9 : decode cX5_isLetter 9 = .ok (.if_icmp .gt 7, 3) := by decide +kernel
theorem dX5_isLetter_12 : decode cX5_isLetter 12 = .ok (.iconst 1, 1) := by decide +kernel
theorem dX5_isLetter_13 : decode cX5_isLetter 13 = .ok (.goto 4, 3) := by decide +kernel
theorem dX5_isLetter_16 : decode cX5_isLetter 16 = .ok (.iconst 0, 1) := by decide +kernel
theorem dX5_isLetter_17 : decode cX5_isLetter 17 = .ok (.ireturn, 1) := by decide +kernel
theorem dX5_isDigit_0 : decode cX5_isDigit 0 = .ok (.iload_n 0, 1) := by decide +kernel
theorem dX5_isDigit_1 : decode cX5_isDigit 1 = .ok (.bipush 48, 2) := by decide +kernel
theorem dX5_isDigit_3 : decode cX5_isDigit 3 = .ok (.if_icmp .lt 13, 3) := by decide +kernel
theorem dX5_isDigit_6 : decode cX5_isDigit 6 = .ok (.iload_n 0, 1) := by decide +kernel
theorem dX5_isDigit_7 : decode cX5_isDigit 7 = .ok (.bipush 57, 2) := by decide +kernel
theorem dX5_isDigit_9 : decode cX5_isDigit 9 = .ok (.if_icmp .gt 7, 3) := by decide +kernel
theorem dX5_isDigit_12 : decode cX5_isDigit 12 = .ok (.iconst 1, 1) := by decide +kernel
theorem dX5_isDigit_13 : decode cX5_isDigit 13 = .ok (.goto 4, 3) := by decide +kernel
theorem dX5_isDigit_16 : decode cX5_isDigit 16 = .ok (.iconst 0, 1) := by decide +kernel
theorem dX5_isDigit_17 : decode cX5_isDigit 17 = .ok (.ireturn, 1) := by decide +kernel
theorem dX5_numberOf_0 : decode cX5_numberOf 0 = .ok (.iload_n 2, 1) := by decide +kernel
theorem dX5_numberOf_1 : decode cX5_numberOf 1 = .ok (.iload_n 1, 1) := by decide +kernel
theorem dX5_numberOf_2 : decode cX5_numberOf 2 = .ok (.isub, 1) := by decide +kernel
theorem dX5_numberOf_3 : decode cX5_numberOf 3 = .ok (.iconst 3, 1) := by decide +kernel
theorem dX5_numberOf_4 : decode cX5_numberOf 4 = .ok (.if_icmp .le 7, 3) := by decide +kernel
theorem dX5_numberOf_7 : decode cX5_numberOf 7 = .ok (.sipush 1000, 3) := by decide +kernel
theorem dX5_numberOf_10 : decode cX5_numberOf 10 = .ok (.ireturn, 1) := by decide +kernel
theorem dX5_numberOf_11 : decode cX5_numberOf 11 = .ok (.iconst 0, 1) := by decide +kernel
theorem dX5_numberOf_12 : decode cX5_numberOf 12 = .ok (.istore_n 3, 1) := by decide +kernel
theorem dX5_numberOf_13 : decode cX5_numberOf 13 = .ok (.iload_n 1, 1) := by decide +kernel
theorem dX5_numberOf_14 : decode cX5_numberOf 14 = .ok (.istore 4, 2) := by decide +kernel
theorem dX5_numberOf_16 : decode cX5_numberOf 16 = .ok (.iload 4, 2) := by decide +kernel
theorem dX5_numberOf_18 : decode cX5_numberOf 18 = .ok (.iload_n 2, 1) := by decide +kernel
theorem dX5_numberOf_19 : decode cX5_numberOf 19 = .ok (.if_icmp .ge 22, 3) := by decide +kernel
theorem dX5_numberOf_22 : decode cX5_numberOf 22 = .ok (.iload_n 3, 1) := by decide +kernel
theorem dX5_numberOf_23 : decode cX5_numberOf 23 = .ok (.bipush 10, 2) := by decide +kernel
theorem dX5_numberOf_25 : decode cX5_numberOf 25 = .ok (.imul, 1) := by decide +kernel
theorem dX5_numberOf_26 : decode cX5_numberOf 26 = .ok (.aload_n 0, 1) := by decide +kernel
theorem dX5_numberOf_27 : decode cX5_numberOf 27 = .ok (.iload 4, 2) := by decide +kernel
theorem dX5_numberOf_29 : decode cX5_numberOf 29 = .ok (.baload, 1) := by decide +kernel
theorem dX5_numberOf_30 : decode cX5_numberOf 30 = .ok (.iadd, 1) := by decide +kernel
theorem dX5_numberOf_31 : decode cX5_numberOf 31 = .ok (.bipush 48, 2) := by decide +kernel
theorem dX5_numberOf_33 : decode cX5_numberOf 33 = .ok (.isub, 1) := by decide +kernel
theorem dX5_numberOf_34 : decode cX5_numberOf 34 = .ok (.istore_n 3, 1) := by decide +kernel
theorem dX5_numberOf_35 : decode cX5_numberOf 35 = .ok (.iinc 4 1, 3) := by decide +kernel
theorem dX5_numberOf_38 : decode cX5_numberOf 38 = .ok (.goto (-22), 3) := by decide +kernel
theorem dX5_numberOf_41 : decode cX5_numberOf 41 = .ok (.iload_n 3, 1) := by decide +kernel
theorem dX5_numberOf_42 : decode cX5_numberOf 42 = .ok (.ireturn, 1) := by decide +kernel
theorem dX6_init_0 : decode cX6_init 0 = .ok (.aload_n 0, 1) := by decide +kernel
theorem dX6_init_1 : decode cX6_init 1 = .ok (.invokespecial 3, 3) := by decide +kernel
theorem dX6_init_4 : decode cX6_init 4 = .ok (.aload_n 0, 1) := by decide +kernel
theorem dX6_init_5 : decode cX6_init 5 = .ok (.sipush 301, 3) := by decide +kernel
theorem dX6_init_8 : decode cX6_init 8 = .ok (.newarray .int, 2) := by decide +kernel
theorem dX6_init_10 : decode cX6_init 10 = .ok (.putfield 9, 3) := by decide +kernel
theorem dX6_init_13 : decode cX6_init 13 = .ok (.aload_n 0, 1) := by decide +kernel
theorem dX6_init_14 : decode cX6_init 14 = .ok (.iconst 4, 1) := by decide +kernel
theorem dX6_init_15 : decode cX6_init 15 = .ok (.newarray .int, 2) := by decide +kernel
theorem dX6_init_17 : decode cX6_init 17 = .ok (.putfield 15, 3) := by decide +kernel
theorem dX6_init_20 : decode cX6_init 20 = .ok (.aload_n 0, 1) := by decide +kernel
theorem dX6_init_21 : decode cX6_init 21 = .ok (.iconst 4, 1) := by decide +kernel
theorem dX6_init_22 : decode cX6_init 22 = .ok (.newarray .int, 2) := by decide +kernel
theorem dX6_init_24 : decode cX6_init 24 = .ok (.putfield 18, 3) := by decide +kernel
theorem dX6_init_27 : decode cX6_init 27 = .ok (.aload_n 0, 1) := by decide +kernel
theorem dX6_init_28 : decode cX6_init 28 = .ok (.iconst 4, 1) := by decide +kernel
theorem dX6_init_29 : decode cX6_init 29 = .ok (.newarray .int, 2) := by decide +kernel
theorem dX6_init_31 : decode cX6_init 31 = .ok (.putfield 21, 3) := by decide +kernel
theorem dX6_init_34 : decode cX6_init 34 = .ok (.aload_n 0, 1) := by decide +kernel
theorem dX6_init_35 : decode cX6_init 35 = .ok (.bipush 24, 2) := by decide +kernel
theorem dX6_init_37 : decode cX6_init 37 = .ok (.newarray .int, 2) := by decide +kernel
theorem dX6_init_39 : decode cX6_init 39 = .ok (.putfield 24, 3) := by decide +kernel
theorem dX6_init_42 : decode cX6_init 42 = .ok (.return_, 1) := by decide +kernel
theorem dX6_settle_0 : decode cX6_settle 0 = .ok (.aload_n 0, 1) := by decide +kernel
theorem dX6_settle_1 : decode cX6_settle 1 = .ok (.bipush 120, 2) := by decide +kernel
theorem dX6_settle_3 : decode cX6_settle 3 = .ok (.putfield 27, 3) := by decide +kernel
theorem dX6_settle_6 : decode cX6_settle 6 = .ok (.aload_n 0, 1) := by decide +kernel
theorem dX6_settle_7 : decode cX6_settle 7 = .ok (.iconst 0, 1) := by decide +kernel
theorem dX6_settle_8 : decode cX6_settle 8 = .ok (.putfield 31, 3) := by decide +kernel
theorem dX6_settle_11 : decode cX6_settle 11 = .ok (.aload_n 0, 1) := by decide +kernel
theorem dX6_settle_12 : decode cX6_settle 12 = .ok (.iconst 0, 1) := by decide +kernel
theorem dX6_settle_13 : decode cX6_settle 13 = .ok (.putfield 34, 3) := by decide +kernel
theorem dX6_settle_16 : decode cX6_settle 16 = .ok (.aload_n 0, 1) := by decide +kernel
theorem dX6_settle_17 : decode cX6_settle 17 = .ok (.getfield 9, 3) := by decide +kernel
theorem dX6_settle_20 : decode cX6_settle 20 = .ok (.iconst 0, 1) := by decide +kernel
theorem dX6_settle_21 : decode cX6_settle 21 = .ok (.invokestatic 37, 3) := by decide +kernel
theorem dX6_settle_24 : decode cX6_settle 24 = .ok (.aload_n 0, 1) := by decide +kernel
theorem dX6_settle_25 : decode cX6_settle 25 = .ok (.getfield 15, 3) := by decide +kernel
theorem dX6_settle_28 : decode cX6_settle 28 = .ok (.iconst 0, 1) := by decide +kernel
theorem dX6_settle_29 : decode cX6_settle 29 = .ok (.invokestatic 37, 3) := by decide +kernel
theorem dX6_settle_32 : decode cX6_settle 32 = .ok (.aload_n 0, 1) := by decide +kernel
theorem dX6_settle_33 : decode cX6_settle 33 = .ok (.getfield 18, 3) := by decide +kernel
theorem dX6_settle_36 : decode cX6_settle 36 = .ok (.iconst 0, 1) := by decide +kernel
theorem dX6_settle_37 : decode cX6_settle 37 = .ok (.invokestatic 37, 3) := by decide +kernel
theorem dX6_settle_40 : decode cX6_settle 40 = .ok (.aload_n 0, 1) := by decide +kernel
theorem dX6_settle_41 : decode cX6_settle 41 = .ok (.getfield 21, 3) := by decide +kernel
theorem dX6_settle_44 : decode cX6_settle 44 = .ok (.bipush 99, 2) := by decide +kernel
theorem dX6_settle_46 : decode cX6_settle 46 = .ok (.invokestatic 37, 3) := by decide +kernel
theorem dX6_settle_49 : decode cX6_settle 49 = .ok (.iconst 0, 1) := by decide +kernel
theorem dX6_settle_50 : decode cX6_settle 50 = .ok (.istore 4, 2) := by decide +kernel
theorem dX6_settle_52 : decode cX6_settle 52 = .ok (.iload 4, 2) := by decide +kernel
theorem dX6_settle_54 : decode cX6_settle 54 = .ok (.aload_n 1, 1) := by decide +kernel
theorem dX6_settle_55 : decode cX6_settle 55 = .ok (.invokevirtual 43, 3) := by decide +kernel
theorem dX6_settle_58 : decode cX6_settle 58 = .ok (.if_icmp .ge 51, 3) := by decide +kernel
theorem dX6_settle_61 : decode cX6_settle 61 = .ok (.iload 4, 2) := by decide +kernel
theorem dX6_settle_63 : decode cX6_settle 63 = .ok (.iload_n 2, 1) := by decide +kernel
theorem dX6_settle_64 : decode cX6_settle 64 = .ok (.if_icmp .eq 39, 3) := by decide +kernel
theorem dX6_settle_67 : decode cX6_settle 67 = .ok (.iload 4, 2) := by decide +kernel
theorem dX6_settle_69 : decode cX6_settle 69 = .ok (.iconst 3, 1) := by decide +kernel
theorem dX6_settle_70 : decode cX6_settle 70 = .ok (.imul, 1) := by decide +kernel
theorem dX6_settle_71 : decode cX6_settle 71 = .ok (.istore 5, 2) := by decide +kernel
theorem dX6_settle_73 : decode cX6_settle 73 = .ok (.aload_n 0, 1) := by decide +kernel
theorem dX6_settle_74 : decode cX6_settle 74 = .ok (.aload_n 1, 1) := by decide +kernel
theorem dX6_settle_75 : decode cX6_settle 75 = .ok (.getfield 49, 3) := by decide +kernel
theorem dX6_settle_78 : decode cX6_settle 78 = .ok (.iload 5, 2) := by decide +kernel
theorem dX6_settle_80 : decode cX6_settle 80 = .ok (.iaload, 1) := by decide +kernel
theorem dX6_settle_81 : decode cX6_settle 81 = .ok (.aload_n 1, 1) := by decide +kernel
theorem dX6_settle_82 : decode cX6_settle 82 = .ok (.getfield 49, 3) := by decide +kernel
theorem dX6_settle_85 : decode cX6_settle 85 = .ok (.iload 5, 2) := by decide +kernel
theorem dX6_settle_87 : decode cX6_settle 87 = .ok (.iconst 1, 1) := by decide +kernel
theorem dX6_settle_88 : decode cX6_settle 88 = .ok (.iadd, 1) := by decide +kernel
theorem dX6_settle_89 : decode cX6_settle 89 = .ok (.iaload, 1) := by decide +kernel
theorem dX6_settle_90 : decode cX6_settle 90 = .ok (.aload_n 1, 1) := by decide +kernel
theorem dX6_settle_91 : decode cX6_settle 91 = .ok (.getfield 49, 3) := by decide +kernel
theorem dX6_settle_94 : decode cX6_settle 94 = .ok (.iload 5, 2) := by decide +kernel
theorem dX6_settle_96 : decode cX6_settle 96 = .ok (.iconst 2, 1) := by decide +kernel
theorem dX6_settle_97 : decode cX6_settle 97 = .ok (.iadd, 1) := by decide +kernel
theorem dX6_settle_98 : decode cX6_settle 98 = .ok (.iaload, 1) := by decide +kernel
theorem dX6_settle_99 : decode cX6_settle 99 = .ok (.aload_n 3, 1) := by decide +kernel
theorem dX6_settle_100 : decode cX6_settle 100 = .ok (.invokevirtual 52, 3) := by decide +kernel
theorem dX6_settle_103 : decode cX6_settle 103 = .ok (.iinc 4 1, 3) := by decide +kernel
theorem dX6_settle_106 : decode cX6_settle 106 = .ok (.goto (-54), 3) := by decide +kernel
theorem dX6_settle_109 : decode cX6_settle 109 = .ok (.return_, 1) := by decide +kernel
theorem dX6_settleLine_0 : decode cX6_settleLine 0 = .ok (.iload_n 1, 1) := by decide +kernel
theorem dX6_settleLine_1 : decode cX6_settleLine 1 = .ok (.tableswitch 120 10 13 #[31, 120, 72, 94], 31) := by decide +kernel
theorem dX6_settleLine_32 : decode cX6_settleLine 32 = .ok (.aload_n 0, 1) := by decide +kernel
theorem dX6_settleLine_33 : decode cX6_settleLine 33 = .ok (.dup, 1) := by decide +kernel
theorem dX6_settleLine_34 : decode cX6_settleLine 34 = .ok (.getfield 31, 3) := by decide +kernel
theorem dX6_settleLine_37 : decode cX6_settleLine 37 = .ok (.iconst 1, 1) := by decide +kernel
theorem dX6_settleLine_38 : decode cX6_settleLine 38 = .ok (.iload_n 2, 1) := by decide +kernel
theorem dX6_settleLine_39 : decode cX6_settleLine 39 = .ok (.ishl, 1) := by decide +kernel
theorem dX6_settleLine_40 : decode cX6_settleLine 40 = .ok (.ior, 1) := by decide +kernel
theorem dX6_settleLine_41 : decode cX6_settleLine 41 = .ok (.putfield 31, 3) := by decide +kernel
theorem dX6_settleLine_44 : decode cX6_settleLine 44 = .ok (.aload_n 0, 1) := by decide +kernel
theorem dX6_settleLine_45 : decode cX6_settleLine 45 = .ok (.getfield 15, 3) := by decide +kernel
theorem dX6_settleLine_48 : decode cX6_settleLine 48 = .ok (.iload_n 2, 1) := by decide +kernel
theorem dX6_settleLine_49 : decode cX6_settleLine 49 = .ok (.aload 4, 2) := by decide +kernel
theorem dX6_settleLine_51 : decode cX6_settleLine 51 = .ok (.iload_n 3, 1) := by decide +kernel
theorem dX6_settleLine_52 : decode cX6_settleLine 52 = .ok (.iconst 0, 1) := by decide +kernel
theorem dX6_settleLine_53 : decode cX6_settleLine 53 = .ok (.invokevirtual 58, 3) := by decide +kernel
theorem dX6_settleLine_56 : decode cX6_settleLine 56 = .ok (.iastore, 1) := by decide +kernel
theorem dX6_settleLine_57 : decode cX6_settleLine 57 = .ok (.aload_n 0, 1) := by decide +kernel
theorem dX6_settleLine_58 : decode cX6_settleLine 58 = .ok (.getfield 18, 3) := by decide +kernel
theorem dX6_settleLine_61 : decode cX6_settleLine 61 = .ok (.iload_n 2, 1) := by decide +kernel
theorem dX6_settleLine_62 : decode cX6_settleLine 62 = .ok (.aload 4, 2) := by decide +kernel
theorem dX6_settleLine_64 : decode cX6_settleLine 64 = .ok (.iload_n 3, 1) := by decide +kernel
theorem dX6_settleLine_65 : decode cX6_settleLine 65 = .ok (.iconst 1, 1) := by decide +kernel
theorem dX6_settleLine_66 : decode cX6_settleLine 66 = .ok (.invokevirtual 58, 3) := by decide +kernel
theorem dX6_settleLine_69 : decode cX6_settleLine 69 = .ok (.iastore, 1) := by decide +kernel
theorem dX6_settleLine_70 : decode cX6_settleLine 70 = .ok (.goto 56, 3) := by decide +kernel
theorem dX6_settleLine_73 : decode cX6_settleLine 73 = .ok (.aload_n 0, 1) := by decide +kernel
theorem dX6_settleLine_74 : decode cX6_settleLine 74 = .ok (.dup, 1) := by decide +kernel
theorem dX6_settleLine_75 : decode cX6_settleLine 75 = .ok (.getfield 34, 3) := by decide +kernel
theorem dX6_settleLine_78 : decode cX6_settleLine 78 = .ok (.iconst 1, 1) := by decide +kernel
theorem dX6_settleLine_79 : decode cX6_settleLine 79 = .ok (.iload_n 2, 1) := by decide +kernel
theorem dX6_settleLine_80 : decode cX6_settleLine 80 = .ok (.ishl, 1) := by decide +kernel
theorem dX6_settleLine_81 : decode cX6_settleLine 81 = .ok (.ior, 1) := by decide +kernel
theorem dX6_settleLine_82 : decode cX6_settleLine 82 = .ok (.putfield 34, 3) := by decide +kernel
theorem dX6_settleLine_85 : decode cX6_settleLine 85 = .ok (.aload_n 0, 1) := by decide +kernel
theorem dX6_settleLine_86 : decode cX6_settleLine 86 = .ok (.getfield 21, 3) := by decide +kernel
theorem dX6_settleLine_89 : decode cX6_settleLine 89 = .ok (.iload_n 2, 1) := by decide +kernel
theorem dX6_settleLine_90 : decode cX6_settleLine 90 = .ok (.iload_n 3, 1) := by decide +kernel
theorem dX6_settleLine_91 : decode cX6_settleLine 91 = .ok (.iastore, 1) := by decide +kernel
theorem dX6_settleLine_92 : decode cX6_settleLine 92 = .ok (.goto 34, 3) := by decide +kernel
theorem dX6_settleLine_95 : decode cX6_settleLine 95 = .ok (.iload_n 2, 1) := by decide +kernel
theorem dX6_settleLine_96 : decode cX6_settleLine 96 = .ok (.istore 5, 2) := by decide +kernel
theorem dX6_settleLine_98 : decode cX6_settleLine 98 = .ok (.iload 5, 2) := by decide +kernel
theorem dX6_settleLine_100 : decode cX6_settleLine 100 = .ok (.iload_n 3, 1) := by decide +kernel
theorem dX6_settleLine_101 : decode cX6_settleLine 101 = .ok (.if_icmp .ge 17, 3) := by decide +kernel
theorem dX6_settleLine_104 : decode cX6_settleLine 104 = .ok (.aload_n 0, 1) := by decide +kernel
theorem dX6_settleLine_105 : decode cX6_settleLine 105 = .ok (.getfield 9, 3) := by decide +kernel
theorem dX6_settleLine_108 : decode cX6_settleLine 108 = .ok (.iload 5, 2) := by decide +kernel
theorem dX6_settleLine_110 : decode cX6_settleLine 110 = .ok (.iconst 1, 1) := by decide +kernel
theorem dX6_settleLine_111 : decode cX6_settleLine 111 = .ok (.iastore, 1) := by decide +kernel
theorem dX6_settleLine_112 : decode cX6_settleLine 112 = .ok (.iinc 5 1, 3) := by decide +kernel
theorem dX6_settleLine_115 : decode cX6_settleLine 115 = .ok (.goto (-17), 3) := by decide +kernel
theorem dX6_settleLine_118 : decode cX6_settleLine 118 = .ok (.goto 8, 3) := by decide +kernel
theorem dX6_settleLine_121 : decode cX6_settleLine 121 = .ok (.aload_n 0, 1) := by decide +kernel
theorem dX6_settleLine_122 : decode cX6_settleLine 122 = .ok (.iload_n 2, 1) := by decide +kernel
theorem dX6_settleLine_123 : decode cX6_settleLine 123 = .ok (.putfield 27, 3) := by decide +kernel
theorem dX6_settleLine_126 : decode cX6_settleLine 126 = .ok (.return_, 1) := by decide +kernel
theorem dX6_litSeconds_0 : decode cX6_litSeconds 0 = .ok (.iconst 0, 1) := by decide +kernel
theorem dX6_litSeconds_1 : decode cX6_litSeconds 1 = .ok (.istore_n 1, 1) := by decide +kernel
theorem dX6_litSeconds_2 : decode cX6_litSeconds 2 = .ok (.iconst 0, 1) := by decide +kernel
theorem dX6_litSeconds_3 : decode cX6_litSeconds 3 = .ok (.istore_n 2, 1) := by decide +kernel
theorem dX6_litSeconds_4 : decode cX6_litSeconds 4 = .ok (.iload_n 2, 1) := by decide +kernel
theorem dX6_litSeconds_5 : decode cX6_litSeconds 5 = .ok (.aload_n 0, 1) := by decide +kernel
theorem dX6_litSeconds_6 : decode cX6_litSeconds 6 = .ok (.getfield 27, 3) := by decide +kernel
theorem dX6_litSeconds_9 : decode cX6_litSeconds 9 = .ok (.if_icmp .ge 18, 3) := by decide +kernel
theorem dX6_litSeconds_12 : decode cX6_litSeconds 12 = .ok (.iload_n 1, 1) := by decide +kernel
theorem dX6_litSeconds_13 : decode cX6_litSeconds 13 = .ok (.aload_n 0, 1) := by decide +kernel
theorem dX6_litSeconds_14 : decode cX6_litSeconds 14 = .ok (.getfield 9, 3) := by decide +kernel
theorem dX6_litSeconds_17 : decode cX6_litSeconds 17 = .ok (.iload_n 2, 1) := by decide +kernel
theorem dX6_litSeconds_18 : decode cX6_litSeconds 18 = .ok (.iaload, 1) := by decide +kernel
theorem dX6_litSeconds_19 : decode cX6_litSeconds 19 = .ok (.iadd, 1) := by decide +kernel
theorem dX6_litSeconds_20 : decode cX6_litSeconds 20 = .ok (.istore_n 1, 1) := by decide +kernel
theorem dX6_litSeconds_21 : decode cX6_litSeconds 21 = .ok (.iinc 2 1, 3) := by decide +kernel
theorem dX6_litSeconds_24 : decode cX6_litSeconds 24 = .ok (.goto (-20), 3) := by decide +kernel
theorem dX6_litSeconds_27 : decode cX6_litSeconds 27 = .ok (.iload_n 1, 1) := by decide +kernel
theorem dX6_litSeconds_28 : decode cX6_litSeconds 28 = .ok (.ireturn, 1) := by decide +kernel
theorem dX6_setsThatMeet_0 : decode cX6_setsThatMeet 0 = .ok (.iconst 0, 1) := by decide +kernel
theorem dX6_setsThatMeet_1 : decode cX6_setsThatMeet 1 = .ok (.istore 4, 2) := by decide +kernel
theorem dX6_setsThatMeet_3 : decode cX6_setsThatMeet 3 = .ok (.iconst 0, 1) := by decide +kernel
theorem dX6_setsThatMeet_4 : decode cX6_setsThatMeet 4 = .ok (.istore 5, 2) := by decide +kernel
theorem dX6_setsThatMeet_6 : decode cX6_setsThatMeet 6 = .ok (.iconst 0, 1) := by decide +kernel
theorem dX6_setsThatMeet_7 : decode cX6_setsThatMeet 7 = .ok (.istore 6, 2) := by decide +kernel
theorem dX6_setsThatMeet_9 : decode cX6_setsThatMeet 9 = .ok (.iconst 0, 1) := by decide +kernel
theorem dX6_setsThatMeet_10 : decode cX6_setsThatMeet 10 = .ok (.istore 7, 2) := by decide +kernel
theorem dX6_setsThatMeet_12 : decode cX6_setsThatMeet 12 = .ok (.aload_n 0, 1) := by decide +kernel
theorem dX6_setsThatMeet_13 : decode cX6_setsThatMeet 13 = .ok (.getfield 24, 3) := by decide +kernel
theorem dX6_setsThatMeet_16 : decode cX6_setsThatMeet 16 = .ok (.iconst 0, 1) := by decide +kernel
theorem dX6_setsThatMeet_17 : decode cX6_setsThatMeet 17 = .ok (.ldc 64, 2) := by decide +kernel
theorem dX6_setsThatMeet_19 : decode cX6_setsThatMeet 19 = .ok (.iastore, 1) := by decide +kernel
theorem dX6_setsThatMeet_20 : decode cX6_setsThatMeet 20 = .ok (.aload_n 0, 1) := by decide +kernel
theorem dX6_setsThatMeet_21 : decode cX6_setsThatMeet 21 = .ok (.sipush 301, 3) := by decide +kernel
theorem dX6_setsThatMeet_24 : decode cX6_setsThatMeet 24 = .ok (.putfield 65, 3) := by decide +kernel
theorem dX6_setsThatMeet_27 : decode cX6_setsThatMeet 27 = .ok (.aload_n 1, 1) := by decide +kernel
theorem dX6_setsThatMeet_28 : decode cX6_setsThatMeet 28 = .ok (.getfield 68, 3) := by decide +kernel
theorem dX6_setsThatMeet_31 : decode cX6_setsThatMeet 31 = .ok (.astore 8, 2) := by decide +kernel
theorem dX6_setsThatMeet_33 : decode cX6_setsThatMeet 33 = .ok (.aload 8, 2) := by decide +kernel
theorem dX6_setsThatMeet_35 : decode cX6_setsThatMeet 35 = .ok (.arraylength, 1) := by decide +kernel
theorem dX6_setsThatMeet_36 : decode cX6_setsThatMeet 36 = .ok (.istore 9, 2) := by decide +kernel
theorem dX6_setsThatMeet_38 : decode cX6_setsThatMeet 38 = .ok (.iconst 0, 1) := by decide +kernel
theorem dX6_setsThatMeet_39 : decode cX6_setsThatMeet 39 = .ok (.istore 10, 2) := by decide +kernel
theorem dX6_setsThatMeet_41 : decode cX6_setsThatMeet 41 = .ok (.iload 10, 2) := by decide +kernel
theorem dX6_setsThatMeet_43 : decode cX6_setsThatMeet 43 = .ok (.iload 9, 2) := by decide +kernel
theorem dX6_setsThatMeet_45 : decode cX6_setsThatMeet 45 = .ok (.if_icmp .ge 351, 3) := by decide +kernel
theorem dX6_setsThatMeet_48 : decode cX6_setsThatMeet 48 = .ok (.aload 8, 2) := by decide +kernel
theorem dX6_setsThatMeet_50 : decode cX6_setsThatMeet 50 = .ok (.iload 10, 2) := by decide +kernel
theorem dX6_setsThatMeet_52 : decode cX6_setsThatMeet 52 = .ok (.iaload, 1) := by decide +kernel
theorem dX6_setsThatMeet_53 : decode cX6_setsThatMeet 53 = .ok (.istore 11, 2) := by decide +kernel
theorem dX6_setsThatMeet_55 : decode cX6_setsThatMeet 55 = .ok (.iload 11, 2) := by decide +kernel
theorem dX6_setsThatMeet_57 : decode cX6_setsThatMeet 57 = .ok (.sipush 1024, 3) := by decide +kernel
theorem dX6_setsThatMeet_60 : decode cX6_setsThatMeet 60 = .ok (.idiv, 1) := by decide +kernel
theorem dX6_setsThatMeet_61 : decode cX6_setsThatMeet 61 = .ok (.istore 12, 2) := by decide +kernel
theorem dX6_setsThatMeet_63 : decode cX6_setsThatMeet 63 = .ok (.iload 11, 2) := by decide +kernel
theorem dX6_setsThatMeet_65 : decode cX6_setsThatMeet 65 = .ok (.sipush 1024, 3) := by decide +kernel
theorem dX6_setsThatMeet_68 : decode cX6_setsThatMeet 68 = .ok (.irem, 1) := by decide +kernel
theorem dX6_setsThatMeet_69 : decode cX6_setsThatMeet 69 = .ok (.istore 13, 2) := by decide +kernel
theorem dX6_setsThatMeet_71 : decode cX6_setsThatMeet 71 = .ok (.iload 12, 2) := by decide +kernel
theorem dX6_setsThatMeet_73 : decode cX6_setsThatMeet 73 = .ok (.bipush 8, 2) := by decide +kernel
theorem dX6_setsThatMeet_75 : decode cX6_setsThatMeet 75 = .ok (.if_icmp .eq 10, 3) := by decide +kernel
theorem dX6_setsThatMeet_78 : decode cX6_setsThatMeet 78 = .ok (.iload 12, 2) := by decide +kernel
theorem dX6_setsThatMeet_80 : decode cX6_setsThatMeet 80 = .ok (.bipush 9, 2) := by decide +kernel
theorem dX6_setsThatMeet_82 : decode cX6_setsThatMeet 82 = .ok (.if_icmp .ne 67, 3) := by decide +kernel
theorem dX6_setsThatMeet_85 : decode cX6_setsThatMeet 85 = .ok (.iload 7, 2) := by decide +kernel
theorem dX6_setsThatMeet_87 : decode cX6_setsThatMeet 87 = .ok (.iconst 1, 1) := by decide +kernel
theorem dX6_setsThatMeet_88 : decode cX6_setsThatMeet 88 = .ok (.iadd, 1) := by decide +kernel
theorem dX6_setsThatMeet_89 : decode cX6_setsThatMeet 89 = .ok (.bipush 23, 2) := by decide +kernel
theorem dX6_setsThatMeet_91 : decode cX6_setsThatMeet 91 = .ok (.invokestatic 77, 3) := by decide +kernel
theorem dX6_setsThatMeet_94 : decode cX6_setsThatMeet 94 = .ok (.istore 7, 2) := by decide +kernel
theorem dX6_setsThatMeet_96 : decode cX6_setsThatMeet 96 = .ok (.iload 12, 2) := by decide +kernel
theorem dX6_setsThatMeet_98 : decode cX6_setsThatMeet 98 = .ok (.bipush 8, 2) := by decide +kernel
theorem dX6_setsThatMeet_100 : decode cX6_setsThatMeet 100 = .ok (.if_icmp .ne 7, 3) := by decide +kernel
theorem dX6_setsThatMeet_103 : decode cX6_setsThatMeet 103 = .ok (.iconst 1, 1) := by decide +kernel
theorem dX6_setsThatMeet_104 : decode cX6_setsThatMeet 104 = .ok (.goto 4, 3) := by decide +kernel
theorem dX6_setsThatMeet_107 : decode cX6_setsThatMeet 107 = .ok (.iconst (-1), 1) := by decide +kernel
theorem dX6_setsThatMeet_108 : decode cX6_setsThatMeet 108 = .ok (.istore 14, 2) := by decide +kernel
theorem dX6_setsThatMeet_110 : decode cX6_setsThatMeet 110 = .ok (.aload_n 0, 1) := by decide +kernel
theorem dX6_setsThatMeet_111 : decode cX6_setsThatMeet 111 = .ok (.getfield 24, 3) := by decide +kernel
theorem dX6_setsThatMeet_114 : decode cX6_setsThatMeet 114 = .ok (.iload 7, 2) := by decide +kernel
theorem dX6_setsThatMeet_116 : decode cX6_setsThatMeet 116 = .ok (.aload_n 0, 1) := by decide +kernel
theorem dX6_setsThatMeet_117 : decode cX6_setsThatMeet 117 = .ok (.iload 14, 2) := by decide +kernel
theorem dX6_setsThatMeet_119 : decode cX6_setsThatMeet 119 = .ok (.iload 4, 2) := by decide +kernel
theorem dX6_setsThatMeet_121 : decode cX6_setsThatMeet 121 = .ok (.imul, 1) := by decide +kernel
theorem dX6_setsThatMeet_122 : decode cX6_setsThatMeet 122 = .ok (.iload 14, 2) := by decide +kernel
theorem dX6_setsThatMeet_124 : decode cX6_setsThatMeet 124 = .ok (.iload 5, 2) := by decide +kernel
theorem dX6_setsThatMeet_126 : decode cX6_setsThatMeet 126 = .ok (.imul, 1) := by decide +kernel
theorem dX6_setsThatMeet_127 : decode cX6_setsThatMeet 127 = .ok (.iload 14, 2) := by decide +kernel
theorem dX6_setsThatMeet_129 : decode cX6_setsThatMeet 129 = .ok (.iload 6, 2) := by decide +kernel
theorem dX6_setsThatMeet_131 : decode cX6_setsThatMeet 131 = .ok (.imul, 1) := by decide +kernel
theorem dX6_setsThatMeet_132 : decode cX6_setsThatMeet 132 = .ok (.iload_n 2, 1) := by decide +kernel
theorem dX6_setsThatMeet_133 : decode cX6_setsThatMeet 133 = .ok (.invokevirtual 82, 3) := by decide +kernel
theorem dX6_setsThatMeet_136 : decode cX6_setsThatMeet 136 = .ok (.iastore, 1) := by decide +kernel
theorem dX6_setsThatMeet_137 : decode cX6_setsThatMeet 137 = .ok (.iconst 0, 1) := by decide +kernel
theorem dX6_setsThatMeet_138 : decode cX6_setsThatMeet 138 = .ok (.istore 4, 2) := by decide +kernel
theorem dX6_setsThatMeet_140 : decode cX6_setsThatMeet 140 = .ok (.iconst 0, 1) := by decide +kernel
theorem dX6_setsThatMeet_141 : decode cX6_setsThatMeet 141 = .ok (.istore 5, 2) := by decide +kernel
theorem dX6_setsThatMeet_143 : decode cX6_setsThatMeet 143 = .ok (.iconst 0, 1) := by decide +kernel
theorem dX6_setsThatMeet_144 : decode cX6_setsThatMeet 144 = .ok (.istore 6, 2) := by decide +kernel
theorem dX6_setsThatMeet_146 : decode cX6_setsThatMeet 146 = .ok (.goto 244, 3) := by decide +kernel
theorem dX6_setsThatMeet_149 : decode cX6_setsThatMeet 149 = .ok (.iload 12, 2) := by decide +kernel
theorem dX6_setsThatMeet_151 : decode cX6_setsThatMeet 151 = .ok (.iconst 3, 1) := by decide +kernel
theorem dX6_setsThatMeet_152 : decode cX6_setsThatMeet 152 = .ok (.if_icmp .ne 21, 3) := by decide +kernel
theorem dX6_setsThatMeet_155 : decode cX6_setsThatMeet 155 = .ok (.iload 4, 2) := by decide +kernel
theorem dX6_setsThatMeet_157 : decode cX6_setsThatMeet 157 = .ok (.ineg, 1) := by decide +kernel
theorem dX6_setsThatMeet_158 : decode cX6_setsThatMeet 158 = .ok (.istore 4, 2) := by decide +kernel
theorem dX6_setsThatMeet_160 : decode cX6_setsThatMeet 160 = .ok (.iload 5, 2) := by decide +kernel
theorem dX6_setsThatMeet_162 : decode cX6_setsThatMeet 162 = .ok (.ineg, 1) := by decide +kernel
theorem dX6_setsThatMeet_163 : decode cX6_setsThatMeet 163 = .ok (.istore 5, 2) := by decide +kernel
theorem dX6_setsThatMeet_165 : decode cX6_setsThatMeet 165 = .ok (.iload 6, 2) := by decide +kernel
theorem dX6_setsThatMeet_167 : decode cX6_setsThatMeet 167 = .ok (.ineg, 1) := by decide +kernel
theorem dX6_setsThatMeet_168 : decode cX6_setsThatMeet 168 = .ok (.istore 6, 2) := by decide +kernel
theorem dX6_setsThatMeet_170 : decode cX6_setsThatMeet 170 = .ok (.goto 220, 3) := by decide +kernel
theorem dX6_setsThatMeet_173 : decode cX6_setsThatMeet 173 = .ok (.iload 12, 2) := by decide +kernel
theorem dX6_setsThatMeet_175 : decode cX6_setsThatMeet 175 = .ok (.bipush 30, 2) := by decide +kernel
theorem dX6_setsThatMeet_177 : decode cX6_setsThatMeet 177 = .ok (.if_icmp .ne 9, 3) := by decide +kernel
theorem dX6_setsThatMeet_180 : decode cX6_setsThatMeet 180 = .ok (.iinc 5 1, 3) := by decide +kernel
theorem dX6_setsThatMeet_183 : decode cX6_setsThatMeet 183 = .ok (.goto 207, 3) := by decide +kernel
theorem dX6_setsThatMeet_186 : decode cX6_setsThatMeet 186 = .ok (.iload 12, 2) := by decide +kernel
theorem dX6_setsThatMeet_188 : decode cX6_setsThatMeet 188 = .ok (.bipush 22, 2) := by decide +kernel
theorem dX6_setsThatMeet_190 : decode cX6_setsThatMeet 190 = .ok (.if_icmp .ne 18, 3) := by decide +kernel
theorem dX6_setsThatMeet_193 : decode cX6_setsThatMeet 193 = .ok (.aload_n 0, 1) := by decide +kernel
theorem dX6_setsThatMeet_194 : decode cX6_setsThatMeet 194 = .ok (.getfield 24, 3) := by decide +kernel
theorem dX6_setsThatMeet_197 : decode cX6_setsThatMeet 197 = .ok (.iload 7, 2) := by decide +kernel
theorem dX6_setsThatMeet_199 : decode cX6_setsThatMeet 199 = .ok (.dup2, 1) := by decide +kernel
theorem dX6_setsThatMeet_200 : decode cX6_setsThatMeet 200 = .ok (.iaload, 1) := by decide +kernel
theorem dX6_setsThatMeet_201 : decode cX6_setsThatMeet 201 = .ok (.ldc 64, 2) := by decide +kernel
theorem dX6_setsThatMeet_203 : decode cX6_setsThatMeet 203 = .ok (.ixor, 1) := by decide +kernel
theorem dX6_setsThatMeet_204 : decode cX6_setsThatMeet 204 = .ok (.iastore, 1) := by decide +kernel
theorem dX6_setsThatMeet_205 : decode cX6_setsThatMeet 205 = .ok (.goto 185, 3) := by decide +kernel
theorem dX6_setsThatMeet_208 : decode cX6_setsThatMeet 208 = .ok (.iload 12, 2) := by decide +kernel
theorem dX6_setsThatMeet_210 : decode cX6_setsThatMeet 210 = .ok (.bipush 21, 2) := by decide +kernel
theorem dX6_setsThatMeet_212 : decode cX6_setsThatMeet 212 = .ok (.if_icmp .eq 10, 3) := by decide +kernel
theorem dX6_setsThatMeet_215 : decode cX6_setsThatMeet 215 = .ok (.iload 12, 2) := by decide +kernel
theorem dX6_setsThatMeet_217 : decode cX6_setsThatMeet 217 = .ok (.bipush 20, 2) := by decide +kernel
theorem dX6_setsThatMeet_219 : decode cX6_setsThatMeet 219 = .ok (.if_icmp .ne 64, 3) := by decide +kernel
theorem dX6_setsThatMeet_222 : decode cX6_setsThatMeet 222 = .ok (.iload 7, 2) := by decide +kernel
theorem dX6_setsThatMeet_224 : decode cX6_setsThatMeet 224 = .ok (.iconst 1, 1) := by decide +kernel
theorem dX6_setsThatMeet_225 : decode cX6_setsThatMeet 225 = .ok (.isub, 1) := by decide +kernel
theorem dX6_setsThatMeet_226 : decode cX6_setsThatMeet 226 = .ok (.iconst 0, 1) := by decide +kernel
theorem dX6_setsThatMeet_227 : decode cX6_setsThatMeet 227 = .ok (.invokestatic 86, 3) := by decide +kernel
theorem dX6_setsThatMeet_230 : decode cX6_setsThatMeet 230 = .ok (.istore 7, 2) := by decide +kernel
theorem dX6_setsThatMeet_232 : decode cX6_setsThatMeet 232 = .ok (.aload_n 0, 1) := by decide +kernel
theorem dX6_setsThatMeet_233 : decode cX6_setsThatMeet 233 = .ok (.getfield 24, 3) := by decide +kernel
theorem dX6_setsThatMeet_236 : decode cX6_setsThatMeet 236 = .ok (.iload 7, 2) := by decide +kernel
theorem dX6_setsThatMeet_238 : decode cX6_setsThatMeet 238 = .ok (.iconst 1, 1) := by decide +kernel
theorem dX6_setsThatMeet_239 : decode cX6_setsThatMeet 239 = .ok (.iadd, 1) := by decide +kernel
theorem dX6_setsThatMeet_240 : decode cX6_setsThatMeet 240 = .ok (.iaload, 1) := by decide +kernel
theorem dX6_setsThatMeet_241 : decode cX6_setsThatMeet 241 = .ok (.istore 14, 2) := by decide +kernel
theorem dX6_setsThatMeet_243 : decode cX6_setsThatMeet 243 = .ok (.aload_n 0, 1) := by decide +kernel
theorem dX6_setsThatMeet_244 : decode cX6_setsThatMeet 244 = .ok (.getfield 24, 3) := by decide +kernel
theorem dX6_setsThatMeet_247 : decode cX6_setsThatMeet 247 = .ok (.iload 7, 2) := by decide +kernel
theorem dX6_setsThatMeet_249 : decode cX6_setsThatMeet 249 = .ok (.iload 12, 2) := by decide +kernel
theorem dX6_setsThatMeet_251 : decode cX6_setsThatMeet 251 = .ok (.bipush 21, 2) := by decide +kernel
theorem dX6_setsThatMeet_253 : decode cX6_setsThatMeet 253 = .ok (.if_icmp .ne 16, 3) := by decide +kernel
theorem dX6_setsThatMeet_256 : decode cX6_setsThatMeet 256 = .ok (.aload_n 0, 1) := by decide +kernel
theorem dX6_setsThatMeet_257 : decode cX6_setsThatMeet 257 = .ok (.getfield 24, 3) := by decide +kernel
theorem dX6_setsThatMeet_260 : decode cX6_setsThatMeet 260 = .ok (.iload 7, 2) := by decide +kernel
theorem dX6_setsThatMeet_262 : decode cX6_setsThatMeet 262 = .ok (.iaload, 1) := by decide +kernel
theorem dX6_setsThatMeet_263 : decode cX6_setsThatMeet 263 = .ok (.iload 14, 2) := by decide +kernel
theorem dX6_setsThatMeet_265 : decode cX6_setsThatMeet 265 = .ok (.iand, 1) := by decide +kernel
theorem dX6_setsThatMeet_266 : decode cX6_setsThatMeet 266 = .ok (.goto 13, 3) := by decide +kernel
theorem dX6_setsThatMeet_269 : decode cX6_setsThatMeet 269 = .ok (.aload_n 0, 1) := by decide +kernel
theorem dX6_setsThatMeet_270 : decode cX6_setsThatMeet 270 = .ok (.getfield 24, 3) := by decide +kernel
theorem dX6_setsThatMeet_273 : decode cX6_setsThatMeet 273 = .ok (.iload 7, 2) := by decide +kernel
theorem dX6_setsThatMeet_275 : decode cX6_setsThatMeet 275 = .ok (.iaload, 1) := by decide +kernel
theorem dX6_setsThatMeet_276 : decode cX6_setsThatMeet 276 = .ok (.iload 14, 2) := by decide +kernel
theorem dX6_setsThatMeet_278 : decode cX6_setsThatMeet 278 = .ok (.ior, 1) := by decide +kernel
theorem dX6_setsThatMeet_279 : decode cX6_setsThatMeet 279 = .ok (.iastore, 1) := by decide +kernel
theorem dX6_setsThatMeet_280 : decode cX6_setsThatMeet 280 = .ok (.goto 110, 3) := by decide +kernel
theorem dX6_setsThatMeet_283 : decode cX6_setsThatMeet 283 = .ok (.iload 12, 2) := by decide +kernel
theorem dX6_setsThatMeet_285 : decode cX6_setsThatMeet 285 = .ok (.bipush 24, 2) := by decide +kernel
theorem dX6_setsThatMeet_287 : decode cX6_setsThatMeet 287 = .ok (.if_icmp .ne 34, 3) := by decide +kernel
theorem dX6_setsThatMeet_290 : decode cX6_setsThatMeet 290 = .ok (.iload 7, 2) := by decide +kernel
theorem dX6_setsThatMeet_292 : decode cX6_setsThatMeet 292 = .ok (.iconst 1, 1) := by decide +kernel
theorem dX6_setsThatMeet_293 : decode cX6_setsThatMeet 293 = .ok (.iadd, 1) := by decide +kernel
theorem dX6_setsThatMeet_294 : decode cX6_setsThatMeet 294 = .ok (.bipush 23, 2) := by decide +kernel
theorem dX6_setsThatMeet_296 : decode cX6_setsThatMeet 296 = .ok (.invokestatic 77, 3) := by decide +kernel
theorem dX6_setsThatMeet_299 : decode cX6_setsThatMeet 299 = .ok (.istore 7, 2) := by decide +kernel
theorem dX6_setsThatMeet_301 : decode cX6_setsThatMeet 301 = .ok (.aload_n 0, 1) := by decide +kernel
theorem dX6_setsThatMeet_302 : decode cX6_setsThatMeet 302 = .ok (.getfield 24, 3) := by decide +kernel
theorem dX6_setsThatMeet_305 : decode cX6_setsThatMeet 305 = .ok (.iload 7, 2) := by decide +kernel
theorem dX6_setsThatMeet_307 : decode cX6_setsThatMeet 307 = .ok (.iload_n 3, 1) := by decide +kernel
theorem dX6_setsThatMeet_308 : decode cX6_setsThatMeet 308 = .ok (.ifCond .eq 8, 3) := by decide +kernel
theorem dX6_setsThatMeet_311 : decode cX6_setsThatMeet 311 = .ok (.ldc 64, 2) := by decide +kernel
theorem dX6_setsThatMeet_313 : decode cX6_setsThatMeet 313 = .ok (.goto 4, 3) := by decide +kernel
theorem dX6_setsThatMeet_316 : decode cX6_setsThatMeet 316 = .ok (.iconst 0, 1) := by decide +kernel
theorem dX6_setsThatMeet_317 : decode cX6_setsThatMeet 317 = .ok (.iastore, 1) := by decide +kernel
theorem dX6_setsThatMeet_318 : decode cX6_setsThatMeet 318 = .ok (.goto 72, 3) := by decide +kernel
theorem dX6_setsThatMeet_321 : decode cX6_setsThatMeet 321 = .ok (.iload 12, 2) := by decide +kernel
theorem dX6_setsThatMeet_323 : decode cX6_setsThatMeet 323 = .ok (.invokestatic 89, 3) := by decide +kernel
theorem dX6_setsThatMeet_326 : decode cX6_setsThatMeet 326 = .ok (.ifCond .eq 33, 3) := by decide +kernel
theorem dX6_setsThatMeet_329 : decode cX6_setsThatMeet 329 = .ok (.iload 7, 2) := by decide +kernel
theorem dX6_setsThatMeet_331 : decode cX6_setsThatMeet 331 = .ok (.iconst 1, 1) := by decide +kernel
theorem dX6_setsThatMeet_332 : decode cX6_setsThatMeet 332 = .ok (.iadd, 1) := by decide +kernel
theorem dX6_setsThatMeet_333 : decode cX6_setsThatMeet 333 = .ok (.bipush 23, 2) := by decide +kernel
theorem dX6_setsThatMeet_335 : decode cX6_setsThatMeet 335 = .ok (.invokestatic 77, 3) := by decide +kernel
theorem dX6_setsThatMeet_338 : decode cX6_setsThatMeet 338 = .ok (.istore 7, 2) := by decide +kernel
theorem dX6_setsThatMeet_340 : decode cX6_setsThatMeet 340 = .ok (.aload_n 0, 1) := by decide +kernel
theorem dX6_setsThatMeet_341 : decode cX6_setsThatMeet 341 = .ok (.getfield 24, 3) := by decide +kernel
theorem dX6_setsThatMeet_344 : decode cX6_setsThatMeet 344 = .ok (.iload 7, 2) := by decide +kernel
theorem dX6_setsThatMeet_346 : decode cX6_setsThatMeet 346 = .ok (.aload_n 0, 1) := by decide +kernel
theorem dX6_setsThatMeet_347 : decode cX6_setsThatMeet 347 = .ok (.iload 12, 2) := by decide +kernel
theorem dX6_setsThatMeet_349 : decode cX6_setsThatMeet 349 = .ok (.iload 13, 2) := by decide +kernel
theorem dX6_setsThatMeet_351 : decode cX6_setsThatMeet 351 = .ok (.iload_n 2, 1) := by decide +kernel
theorem dX6_setsThatMeet_352 : decode cX6_setsThatMeet 352 = .ok (.invokevirtual 93, 3) := by decide +kernel
theorem dX6_setsThatMeet_355 : decode cX6_setsThatMeet 355 = .ok (.iastore, 1) := by decide +kernel
theorem dX6_setsThatMeet_356 : decode cX6_setsThatMeet 356 = .ok (.goto 34, 3) := by decide +kernel
theorem dX6_setsThatMeet_359 : decode cX6_setsThatMeet 359 = .ok (.iload 4, 2) := by decide +kernel
theorem dX6_setsThatMeet_361 : decode cX6_setsThatMeet 361 = .ok (.aload_n 0, 1) := by decide +kernel
theorem dX6_setsThatMeet_362 : decode cX6_setsThatMeet 362 = .ok (.iload 12, 2) := by decide +kernel
theorem dX6_setsThatMeet_364 : decode cX6_setsThatMeet 364 = .ok (.iload 13, 2) := by decide +kernel
theorem dX6_setsThatMeet_366 : decode cX6_setsThatMeet 366 = .ok (.iload_n 2, 1) := by decide +kernel
theorem dX6_setsThatMeet_367 : decode cX6_setsThatMeet 367 = .ok (.invokevirtual 97, 3) := by decide +kernel
theorem dX6_setsThatMeet_370 : decode cX6_setsThatMeet 370 = .ok (.iadd, 1) := by decide +kernel
theorem dX6_setsThatMeet_371 : decode cX6_setsThatMeet 371 = .ok (.istore 4, 2) := by decide +kernel
theorem dX6_setsThatMeet_373 : decode cX6_setsThatMeet 373 = .ok (.iload 6, 2) := by decide +kernel
theorem dX6_setsThatMeet_375 : decode cX6_setsThatMeet 375 = .ok (.iload 12, 2) := by decide +kernel
theorem dX6_setsThatMeet_377 : decode cX6_setsThatMeet 377 = .ok (.bipush 29, 2) := by decide +kernel
theorem dX6_setsThatMeet_379 : decode cX6_setsThatMeet 379 = .ok (.if_icmp .ne 7, 3) := by decide +kernel
theorem dX6_setsThatMeet_382 : decode cX6_setsThatMeet 382 = .ok (.iconst 1, 1) := by decide +kernel
theorem dX6_setsThatMeet_383 : decode cX6_setsThatMeet 383 = .ok (.goto 4, 3) := by decide +kernel
theorem dX6_setsThatMeet_386 : decode cX6_setsThatMeet 386 = .ok (.iconst 0, 1) := by decide +kernel
theorem dX6_setsThatMeet_387 : decode cX6_setsThatMeet 387 = .ok (.iadd, 1) := by decide +kernel
theorem dX6_setsThatMeet_388 : decode cX6_setsThatMeet 388 = .ok (.istore 6, 2) := by decide +kernel
theorem dX6_setsThatMeet_390 : decode cX6_setsThatMeet 390 = .ok (.iinc 10 1, 3) := by decide +kernel
theorem dX6_setsThatMeet_393 : decode cX6_setsThatMeet 393 = .ok (.goto (-352), 3) := by decide +kernel
theorem dX6_setsThatMeet_396 : decode cX6_setsThatMeet 396 = .ok (.aload_n 0, 1) := by decide +kernel
theorem dX6_setsThatMeet_397 : decode cX6_setsThatMeet 397 = .ok (.getfield 24, 3) := by decide +kernel
theorem dX6_setsThatMeet_400 : decode cX6_setsThatMeet 400 = .ok (.iconst 0, 1) := by decide +kernel
theorem dX6_setsThatMeet_401 : decode cX6_setsThatMeet 401 = .ok (.iaload, 1) := by decide +kernel
theorem dX6_setsThatMeet_402 : decode cX6_setsThatMeet 402 = .ok (.ireturn, 1) := by decide +kernel
theorem dX6_isTag_0 : decode cX6_isTag 0 = .ok (.iload_n 0, 1) := by decide +kernel
theorem dX6_isTag_1 : decode cX6_isTag 1 = .ok (.bipush 23, 2) := by decide +kernel
theorem dX6_isTag_3 : decode cX6_isTag 3 = .ok (.if_icmp .lt 13, 3) := by decide +kernel
theorem dX6_isTag_6 : decode cX6_isTag 6 = .ok (.iload_n 0, 1) := by decide +kernel
theorem dX6_isTag_7 : decode cX6_isTag 7 = .ok (.bipush 28, 2) := by decide +kernel
theorem dX6_isTag_9 : decode cX6_isTag 9 = .ok (.if_icmp .gt 7, 3) := by decide +kernel
theorem dX6_isTag_12 : decode cX6_isTag 12 = .ok (.iconst 1, 1) := by decide +kernel
theorem dX6_isTag_13 : decode cX6_isTag 13 = .ok (.goto 4, 3) := by decide +kernel
theorem dX6_isTag_16 : decode cX6_isTag 16 = .ok (.iconst 0, 1) := by decide +kernel
theorem dX6_isTag_17 : decode cX6_isTag 17 = .ok (.ireturn, 1) := by decide +kernel
theorem dX6_setsOfTag_0 : decode cX6_setsOfTag 0 = .ok (.iload_n 1, 1) := by decide +kernel
theorem dX6_setsOfTag_1 : decode cX6_setsOfTag 1 = .ok (.tableswitch 95 23 27 #[41, 95, 35, 69, 82], 35) := by decide +kernel
theorem dX6_setsOfTag_36 : decode cX6_setsOfTag 36 = .ok (.getstatic 100, 3) := by decide +kernel
theorem dX6_setsOfTag_39 : decode cX6_setsOfTag 39 = .ok (.iload_n 2, 1) := by decide +kernel
theorem dX6_setsOfTag_40 : decode cX6_setsOfTag 40 = .ok (.iaload, 1) := by decide +kernel
theorem dX6_setsOfTag_41 : decode cX6_setsOfTag 41 = .ok (.ireturn, 1) := by decide +kernel
theorem dX6_setsOfTag_42 : decode cX6_setsOfTag 42 = .ok (.aload_n 0, 1) := by decide +kernel
theorem dX6_setsOfTag_43 : decode cX6_setsOfTag 43 = .ok (.getfield 9, 3) := by decide +kernel
theorem dX6_setsOfTag_46 : decode cX6_setsOfTag 46 = .ok (.iload_n 3, 1) := by decide +kernel
theorem dX6_setsOfTag_47 : decode cX6_setsOfTag 47 = .ok (.iaload, 1) := by decide +kernel
theorem dX6_setsOfTag_48 : decode cX6_setsOfTag 48 = .ok (.ifCond .ne 7, 3) := by decide +kernel
theorem dX6_setsOfTag_51 : decode cX6_setsOfTag 51 = .ok (.iconst 1, 1) := by decide +kernel
theorem dX6_setsOfTag_52 : decode cX6_setsOfTag 52 = .ok (.goto 4, 3) := by decide +kernel
theorem dX6_setsOfTag_55 : decode cX6_setsOfTag 55 = .ok (.iconst 0, 1) := by decide +kernel
theorem dX6_setsOfTag_56 : decode cX6_setsOfTag 56 = .ok (.istore 4, 2) := by decide +kernel
theorem dX6_setsOfTag_58 : decode cX6_setsOfTag 58 = .ok (.aload_n 0, 1) := by decide +kernel
theorem dX6_setsOfTag_59 : decode cX6_setsOfTag 59 = .ok (.aload_n 0, 1) := by decide +kernel
theorem dX6_setsOfTag_60 : decode cX6_setsOfTag 60 = .ok (.iload_n 3, 1) := by decide +kernel
theorem dX6_setsOfTag_61 : decode cX6_setsOfTag 61 = .ok (.invokevirtual 103, 3) := by decide +kernel
theorem dX6_setsOfTag_64 : decode cX6_setsOfTag 64 = .ok (.putfield 65, 3) := by decide +kernel
theorem dX6_setsOfTag_67 : decode cX6_setsOfTag 67 = .ok (.goto 90, 3) := by decide +kernel
theorem dX6_setsOfTag_70 : decode cX6_setsOfTag 70 = .ok (.aload_n 0, 1) := by decide +kernel
theorem dX6_setsOfTag_71 : decode cX6_setsOfTag 71 = .ok (.getfield 31, 3) := by decide +kernel
theorem dX6_setsOfTag_74 : decode cX6_setsOfTag 74 = .ok (.iload_n 2, 1) := by decide +kernel
theorem dX6_setsOfTag_75 : decode cX6_setsOfTag 75 = .ok (.invokestatic 107, 3) := by decide +kernel
theorem dX6_setsOfTag_78 : decode cX6_setsOfTag 78 = .ok (.istore 4, 2) := by decide +kernel
theorem dX6_setsOfTag_80 : decode cX6_setsOfTag 80 = .ok (.goto 77, 3) := by decide +kernel
theorem dX6_setsOfTag_83 : decode cX6_setsOfTag 83 = .ok (.aload_n 0, 1) := by decide +kernel
theorem dX6_setsOfTag_84 : decode cX6_setsOfTag 84 = .ok (.getfield 34, 3) := by decide +kernel
theorem dX6_setsOfTag_87 : decode cX6_setsOfTag 87 = .ok (.iload_n 2, 1) := by decide +kernel
theorem dX6_setsOfTag_88 : decode cX6_setsOfTag 88 = .ok (.invokestatic 107, 3) := by decide +kernel
theorem dX6_setsOfTag_91 : decode cX6_setsOfTag 91 = .ok (.istore 4, 2) := by decide +kernel
theorem dX6_setsOfTag_93 : decode cX6_setsOfTag 93 = .ok (.goto 64, 3) := by decide +kernel
theorem dX6_setsOfTag_96 : decode cX6_setsOfTag 96 = .ok (.aload_n 0, 1) := by decide +kernel
theorem dX6_setsOfTag_97 : decode cX6_setsOfTag 97 = .ok (.getfield 31, 3) := by decide +kernel
theorem dX6_setsOfTag_100 : decode cX6_setsOfTag 100 = .ok (.iload_n 2, 1) := by decide +kernel
theorem dX6_setsOfTag_101 : decode cX6_setsOfTag 101 = .ok (.invokestatic 107, 3) := by decide +kernel
theorem dX6_setsOfTag_104 : decode cX6_setsOfTag 104 = .ok (.ifCond .eq 17, 3) := by decide +kernel
theorem dX6_setsOfTag_107 : decode cX6_setsOfTag 107 = .ok (.aload_n 0, 1) := by decide +kernel
theorem dX6_setsOfTag_108 : decode cX6_setsOfTag 108 = .ok (.getfield 18, 3) := by decide +kernel
theorem dX6_setsOfTag_111 : decode cX6_setsOfTag 111 = .ok (.iload_n 2, 1) := by decide +kernel
theorem dX6_setsOfTag_112 : decode cX6_setsOfTag 112 = .ok (.iaload, 1) := by decide +kernel
theorem dX6_setsOfTag_113 : decode cX6_setsOfTag 113 = .ok (.iload_n 3, 1) := by decide +kernel
theorem dX6_setsOfTag_114 : decode cX6_setsOfTag 114 = .ok (.if_icmp .gt 7, 3) := by decide +kernel
theorem dX6_setsOfTag_117 : decode cX6_setsOfTag 117 = .ok (.iconst 1, 1) := by decide +kernel
theorem dX6_setsOfTag_118 : decode cX6_setsOfTag 118 = .ok (.goto 4, 3) := by decide +kernel
theorem dX6_setsOfTag_121 : decode cX6_setsOfTag 121 = .ok (.iconst 0, 1) := by decide +kernel
theorem dX6_setsOfTag_122 : decode cX6_setsOfTag 122 = .ok (.istore 4, 2) := by decide +kernel
theorem dX6_setsOfTag_124 : decode cX6_setsOfTag 124 = .ok (.aload_n 0, 1) := by decide +kernel
theorem dX6_setsOfTag_125 : decode cX6_setsOfTag 125 = .ok (.getfield 31, 3) := by decide +kernel
theorem dX6_setsOfTag_128 : decode cX6_setsOfTag 128 = .ok (.iload_n 2, 1) := by decide +kernel
theorem dX6_setsOfTag_129 : decode cX6_setsOfTag 129 = .ok (.invokestatic 107, 3) := by decide +kernel
theorem dX6_setsOfTag_132 : decode cX6_setsOfTag 132 = .ok (.ifCond .eq 25, 3) := by decide +kernel
theorem dX6_setsOfTag_135 : decode cX6_setsOfTag 135 = .ok (.iload 4, 2) := by decide +kernel
theorem dX6_setsOfTag_137 : decode cX6_setsOfTag 137 = .ok (.ifCond .ne 20, 3) := by decide +kernel
theorem dX6_setsOfTag_140 : decode cX6_setsOfTag 140 = .ok (.aload_n 0, 1) := by decide +kernel
theorem dX6_setsOfTag_141 : decode cX6_setsOfTag 141 = .ok (.aload_n 0, 1) := by decide +kernel
theorem dX6_setsOfTag_142 : decode cX6_setsOfTag 142 = .ok (.getfield 65, 3) := by decide +kernel
theorem dX6_setsOfTag_145 : decode cX6_setsOfTag 145 = .ok (.aload_n 0, 1) := by decide +kernel
theorem dX6_setsOfTag_146 : decode cX6_setsOfTag 146 = .ok (.getfield 18, 3) := by decide +kernel
theorem dX6_setsOfTag_149 : decode cX6_setsOfTag 149 = .ok (.iload_n 2, 1) := by decide +kernel
theorem dX6_setsOfTag_150 : decode cX6_setsOfTag 150 = .ok (.iaload, 1) := by decide +kernel
theorem dX6_setsOfTag_151 : decode cX6_setsOfTag 151 = .ok (.invokestatic 77, 3) := by decide +kernel
theorem dX6_setsOfTag_154 : decode cX6_setsOfTag 154 = .ok (.putfield 65, 3) := by decide +kernel
theorem dX6_setsOfTag_157 : decode cX6_setsOfTag 157 = .ok (.iload 4, 2) := by decide +kernel
theorem dX6_setsOfTag_159 : decode cX6_setsOfTag 159 = .ok (.ifCond .eq 8, 3) := by decide +kernel
theorem dX6_setsOfTag_162 : decode cX6_setsOfTag 162 = .ok (.ldc 64, 2) := by decide +kernel
theorem dX6_setsOfTag_164 : decode cX6_setsOfTag 164 = .ok (.goto 4, 3) := by decide +kernel
theorem dX6_setsOfTag_167 : decode cX6_setsOfTag 167 = .ok (.iconst 0, 1) := by decide +kernel
theorem dX6_setsOfTag_168 : decode cX6_setsOfTag 168 = .ok (.ireturn, 1) := by decide +kernel
theorem dX6_litTurns_0 : decode cX6_litTurns 0 = .ok (.iload_n 1, 1) := by decide +kernel
theorem dX6_litTurns_1 : decode cX6_litTurns 1 = .ok (.iconst 1, 1) := by decide +kernel
theorem dX6_litTurns_2 : decode cX6_litTurns 2 = .ok (.iadd, 1) := by decide +kernel
theorem dX6_litTurns_3 : decode cX6_litTurns 3 = .ok (.istore_n 2, 1) := by decide +kernel
theorem dX6_litTurns_4 : decode cX6_litTurns 4 = .ok (.iload_n 2, 1) := by decide +kernel
theorem dX6_litTurns_5 : decode cX6_litTurns 5 = .ok (.aload_n 0, 1) := by decide +kernel
theorem dX6_litTurns_6 : decode cX6_litTurns 6 = .ok (.getfield 65, 3) := by decide +kernel
theorem dX6_litTurns_9 : decode cX6_litTurns 9 = .ok (.if_icmp .ge 24, 3) := by decide +kernel
theorem dX6_litTurns_12 : decode cX6_litTurns 12 = .ok (.aload_n 0, 1) := by decide +kernel
theorem dX6_litTurns_13 : decode cX6_litTurns 13 = .ok (.getfield 9, 3) := by decide +kernel
theorem dX6_litTurns_16 : decode cX6_litTurns 16 = .ok (.iload_n 2, 1) := by decide +kernel
theorem dX6_litTurns_17 : decode cX6_litTurns 17 = .ok (.iaload, 1) := by decide +kernel
theorem dX6_litTurns_18 : decode cX6_litTurns 18 = .ok (.aload_n 0, 1) := by decide +kernel
theorem dX6_litTurns_19 : decode cX6_litTurns 19 = .ok (.getfield 9, 3) := by decide +kernel
theorem dX6_litTurns_22 : decode cX6_litTurns 22 = .ok (.iload_n 1, 1) := by decide +kernel
theorem dX6_litTurns_23 : decode cX6_litTurns 23 = .ok (.iaload, 1) := by decide +kernel
theorem dX6_litTurns_24 : decode cX6_litTurns 24 = .ok (.if_icmp .ne 9, 3) := by decide +kernel
theorem dX6_litTurns_27 : decode cX6_litTurns 27 = .ok (.iinc 2 1, 3) := by decide +kernel
theorem dX6_litTurns_30 : decode cX6_litTurns 30 = .ok (.goto (-26), 3) := by decide +kernel
theorem dX6_litTurns_33 : decode cX6_litTurns 33 = .ok (.iload_n 2, 1) := by decide +kernel
theorem dX6_litTurns_34 : decode cX6_litTurns 34 = .ok (.ireturn, 1) := by decide +kernel
theorem dX6_partOf_0 : decode cX6_partOf 0 = .ok (.iload_n 1, 1) := by decide +kernel
theorem dX6_partOf_1 : decode cX6_partOf 1 = .ok (.tableswitch 47 29 32 #[31, 47, 33, 40], 31) := by decide +kernel
theorem dX6_partOf_32 : decode cX6_partOf 32 = .ok (.iload_n 3, 1) := by decide +kernel
theorem dX6_partOf_33 : decode cX6_partOf 33 = .ok (.ireturn, 1) := by decide +kernel
theorem dX6_partOf_34 : decode cX6_partOf 34 = .ok (.aload_n 0, 1) := by decide +kernel
theorem dX6_partOf_35 : decode cX6_partOf 35 = .ok (.getfield 15, 3) := by decide +kernel
theorem dX6_partOf_38 : decode cX6_partOf 38 = .ok (.iload_n 2, 1) := by decide +kernel
theorem dX6_partOf_39 : decode cX6_partOf 39 = .ok (.iaload, 1) := by decide +kernel
theorem dX6_partOf_40 : decode cX6_partOf 40 = .ok (.ireturn, 1) := by decide +kernel
theorem dX6_partOf_41 : decode cX6_partOf 41 = .ok (.aload_n 0, 1) := by decide +kernel
theorem dX6_partOf_42 : decode cX6_partOf 42 = .ok (.getfield 21, 3) := by decide +kernel
theorem dX6_partOf_45 : decode cX6_partOf 45 = .ok (.iload_n 2, 1) := by decide +kernel
theorem dX6_partOf_46 : decode cX6_partOf 46 = .ok (.iaload, 1) := by decide +kernel
theorem dX6_partOf_47 : decode cX6_partOf 47 = .ok (.ireturn, 1) := by decide +kernel
theorem dX6_partOf_48 : decode cX6_partOf 48 = .ok (.iload_n 2, 1) := by decide +kernel
theorem dX6_partOf_49 : decode cX6_partOf 49 = .ok (.ireturn, 1) := by decide +kernel
theorem dX6_setsAboveZero_0 : decode cX6_setsAboveZero 0 = .ok (.iconst 0, 1) := by decide +kernel
theorem dX6_setsAboveZero_1 : decode cX6_setsAboveZero 1 = .ok (.istore 5, 2) := by decide +kernel
theorem dX6_setsAboveZero_3 : decode cX6_setsAboveZero 3 = .ok (.iconst 0, 1) := by decide +kernel
theorem dX6_setsAboveZero_4 : decode cX6_setsAboveZero 4 = .ok (.istore 6, 2) := by decide +kernel
theorem dX6_setsAboveZero_6 : decode cX6_setsAboveZero 6 = .ok (.iload 6, 2) := by decide +kernel
theorem dX6_setsAboveZero_8 : decode cX6_setsAboveZero 8 = .ok (.iconst 4, 1) := by decide +kernel
theorem dX6_setsAboveZero_9 : decode cX6_setsAboveZero 9 = .ok (.if_icmp .gt 57, 3) := by decide +kernel
theorem dX6_setsAboveZero_12 : decode cX6_setsAboveZero 12 = .ok (.iload_n 1, 1) := by decide +kernel
theorem dX6_setsAboveZero_13 : decode cX6_setsAboveZero 13 = .ok (.iload_n 2, 1) := by decide +kernel
theorem dX6_setsAboveZero_14 : decode cX6_setsAboveZero 14 = .ok (.iload 6, 2) := by decide +kernel
theorem dX6_setsAboveZero_16 : decode cX6_setsAboveZero 16 = .ok (.imul, 1) := by decide +kernel
theorem dX6_setsAboveZero_17 : decode cX6_setsAboveZero 17 = .ok (.iadd, 1) := by decide +kernel
theorem dX6_setsAboveZero_18 : decode cX6_setsAboveZero 18 = .ok (.istore 7, 2) := by decide +kernel
theorem dX6_setsAboveZero_20 : decode cX6_setsAboveZero 20 = .ok (.iload 5, 2) := by decide +kernel
theorem dX6_setsAboveZero_22 : decode cX6_setsAboveZero 22 = .ok (.iload 7, 2) := by decide +kernel
theorem dX6_setsAboveZero_24 : decode cX6_setsAboveZero 24 = .ok (.ifCond .le 12, 3) := by decide +kernel
theorem dX6_setsAboveZero_27 : decode cX6_setsAboveZero 27 = .ok (.getstatic 111, 3) := by decide +kernel
theorem dX6_setsAboveZero_30 : decode cX6_setsAboveZero 30 = .ok (.iload 6, 2) := by decide +kernel
theorem dX6_setsAboveZero_32 : decode cX6_setsAboveZero 32 = .ok (.iaload, 1) := by decide +kernel
theorem dX6_setsAboveZero_33 : decode cX6_setsAboveZero 33 = .ok (.goto 4, 3) := by decide +kernel
theorem dX6_setsAboveZero_36 : decode cX6_setsAboveZero 36 = .ok (.iconst 0, 1) := by decide +kernel
theorem dX6_setsAboveZero_37 : decode cX6_setsAboveZero 37 = .ok (.ior, 1) := by decide +kernel
theorem dX6_setsAboveZero_38 : decode cX6_setsAboveZero 38 = .ok (.istore 5, 2) := by decide +kernel
theorem dX6_setsAboveZero_40 : decode cX6_setsAboveZero 40 = .ok (.aload_n 0, 1) := by decide +kernel
theorem dX6_setsAboveZero_41 : decode cX6_setsAboveZero 41 = .ok (.aload_n 0, 1) := by decide +kernel
theorem dX6_setsAboveZero_42 : decode cX6_setsAboveZero 42 = .ok (.getfield 65, 3) := by decide +kernel
theorem dX6_setsAboveZero_45 : decode cX6_setsAboveZero 45 = .ok (.iload 4, 2) := by decide +kernel
theorem dX6_setsAboveZero_47 : decode cX6_setsAboveZero 47 = .ok (.iload 7, 2) := by decide +kernel
theorem dX6_setsAboveZero_49 : decode cX6_setsAboveZero 49 = .ok (.iload_n 3, 1) := by decide +kernel
theorem dX6_setsAboveZero_50 : decode cX6_setsAboveZero 50 = .ok (.invokestatic 114, 3) := by decide +kernel
theorem dX6_setsAboveZero_53 : decode cX6_setsAboveZero 53 = .ok (.iadd, 1) := by decide +kernel
theorem dX6_setsAboveZero_54 : decode cX6_setsAboveZero 54 = .ok (.invokestatic 77, 3) := by decide +kernel
theorem dX6_setsAboveZero_57 : decode cX6_setsAboveZero 57 = .ok (.putfield 65, 3) := by decide +kernel
theorem dX6_setsAboveZero_60 : decode cX6_setsAboveZero 60 = .ok (.iinc 6 1, 3) := by decide +kernel
theorem dX6_setsAboveZero_63 : decode cX6_setsAboveZero 63 = .ok (.goto (-57), 3) := by decide +kernel
theorem dX6_setsAboveZero_66 : decode cX6_setsAboveZero 66 = .ok (.iload 5, 2) := by decide +kernel
theorem dX6_setsAboveZero_68 : decode cX6_setsAboveZero 68 = .ok (.ireturn, 1) := by decide +kernel
theorem dX6_secondsToTurn_0 : decode cX6_secondsToTurn 0 = .ok (.iload_n 0, 1) := by decide +kernel
theorem dX6_secondsToTurn_1 : decode cX6_secondsToTurn 1 = .ok (.ifCond .le 16, 3) := by decide +kernel
theorem dX6_secondsToTurn_4 : decode cX6_secondsToTurn 4 = .ok (.iload_n 1, 1) := by decide +kernel
theorem dX6_secondsToTurn_5 : decode cX6_secondsToTurn 5 = .ok (.ifCond .ge 12, 3) := by decide +kernel
theorem dX6_secondsToTurn_8 : decode cX6_secondsToTurn 8 = .ok (.iload_n 0, 1) := by decide +kernel
theorem dX6_secondsToTurn_9 : decode cX6_secondsToTurn 9 = .ok (.iload_n 1, 1) := by decide +kernel
theorem dX6_secondsToTurn_10 : decode cX6_secondsToTurn 10 = .ok (.isub, 1) := by decide +kernel
theorem dX6_secondsToTurn_11 : decode cX6_secondsToTurn 11 = .ok (.iconst 1, 1) := by decide +kernel
theorem dX6_secondsToTurn_12 : decode cX6_secondsToTurn 12 = .ok (.isub, 1) := by decide +kernel
theorem dX6_secondsToTurn_13 : decode cX6_secondsToTurn 13 = .ok (.iload_n 1, 1) := by decide +kernel
theorem dX6_secondsToTurn_14 : decode cX6_secondsToTurn 14 = .ok (.ineg, 1) := by decide +kernel
theorem dX6_secondsToTurn_15 : decode cX6_secondsToTurn 15 = .ok (.idiv, 1) := by decide +kernel
theorem dX6_secondsToTurn_16 : decode cX6_secondsToTurn 16 = .ok (.ireturn, 1) := by decide +kernel
theorem dX6_secondsToTurn_17 : decode cX6_secondsToTurn 17 = .ok (.iload_n 0, 1) := by decide +kernel
theorem dX6_secondsToTurn_18 : decode cX6_secondsToTurn 18 = .ok (.ifCond .gt 14, 3) := by decide +kernel
theorem dX6_secondsToTurn_21 : decode cX6_secondsToTurn 21 = .ok (.iload_n 1, 1) := by decide +kernel
theorem dX6_secondsToTurn_22 : decode cX6_secondsToTurn 22 = .ok (.ifCond .le 10, 3) := by decide +kernel
theorem dX6_secondsToTurn_25 : decode cX6_secondsToTurn 25 = .ok (.iload_n 0, 1) := by decide +kernel
theorem dX6_secondsToTurn_26 : decode cX6_secondsToTurn 26 = .ok (.ineg, 1) := by decide +kernel
theorem dX6_secondsToTurn_27 : decode cX6_secondsToTurn 27 = .ok (.iload_n 1, 1) := by decide +kernel
theorem dX6_secondsToTurn_28 : decode cX6_secondsToTurn 28 = .ok (.idiv, 1) := by decide +kernel
theorem dX6_secondsToTurn_29 : decode cX6_secondsToTurn 29 = .ok (.iconst 1, 1) := by decide +kernel
theorem dX6_secondsToTurn_30 : decode cX6_secondsToTurn 30 = .ok (.iadd, 1) := by decide +kernel
theorem dX6_secondsToTurn_31 : decode cX6_secondsToTurn 31 = .ok (.ireturn, 1) := by decide +kernel
theorem dX6_secondsToTurn_32 : decode cX6_secondsToTurn 32 = .ok (.sipush 301, 3) := by decide +kernel
theorem dX6_secondsToTurn_35 : decode cX6_secondsToTurn 35 = .ok (.ireturn, 1) := by decide +kernel
theorem dX7_init_0 : decode cX7_init 0 = .ok (.aload_n 0, 1) := by decide +kernel
theorem dX7_init_1 : decode cX7_init 1 = .ok (.invokespecial 1, 3) := by decide +kernel
theorem dX7_init_4 : decode cX7_init 4 = .ok (.aload_n 0, 1) := by decide +kernel
theorem dX7_init_5 : decode cX7_init 5 = .ok (.iload_n 2, 1) := by decide +kernel
theorem dX7_init_6 : decode cX7_init 6 = .ok (.putfield 7, 3) := by decide +kernel
theorem dX7_init_9 : decode cX7_init 9 = .ok (.aload_n 0, 1) := by decide +kernel
theorem dX7_init_10 : decode cX7_init 10 = .ok (.iload_n 1, 1) := by decide +kernel
theorem dX7_init_11 : decode cX7_init 11 = .ok (.iload_n 2, 1) := by decide +kernel
theorem dX7_init_12 : decode cX7_init 12 = .ok (.imul, 1) := by decide +kernel
theorem dX7_init_13 : decode cX7_init 13 = .ok (.newarray .int, 2) := by decide +kernel
theorem dX7_init_15 : decode cX7_init 15 = .ok (.putfield 13, 3) := by decide +kernel
theorem dX7_init_18 : decode cX7_init 18 = .ok (.return_, 1) := by decide +kernel
theorem dX7_hasRoom_0 : decode cX7_hasRoom 0 = .ok (.aload_n 0, 1) := by decide +kernel
theorem dX7_hasRoom_1 : decode cX7_hasRoom 1 = .ok (.getfield 17, 3) := by decide +kernel
theorem dX7_hasRoom_4 : decode cX7_hasRoom 4 = .ok (.iconst 1, 1) := by decide +kernel
theorem dX7_hasRoom_5 : decode cX7_hasRoom 5 = .ok (.iadd, 1) := by decide +kernel
theorem dX7_hasRoom_6 : decode cX7_hasRoom 6 = .ok (.aload_n 0, 1) := by decide +kernel
theorem dX7_hasRoom_7 : decode cX7_hasRoom 7 = .ok (.getfield 7, 3) := by decide +kernel
theorem dX7_hasRoom_10 : decode cX7_hasRoom 10 = .ok (.imul, 1) := by decide +kernel
theorem dX7_hasRoom_11 : decode cX7_hasRoom 11 = .ok (.aload_n 0, 1) := by decide +kernel
theorem dX7_hasRoom_12 : decode cX7_hasRoom 12 = .ok (.getfield 13, 3) := by decide +kernel
theorem dX7_hasRoom_15 : decode cX7_hasRoom 15 = .ok (.arraylength, 1) := by decide +kernel
theorem dX7_hasRoom_16 : decode cX7_hasRoom 16 = .ok (.if_icmp .gt 7, 3) := by decide +kernel
theorem dX7_hasRoom_19 : decode cX7_hasRoom 19 = .ok (.iconst 1, 1) := by decide +kernel
theorem dX7_hasRoom_20 : decode cX7_hasRoom 20 = .ok (.goto 4, 3) := by decide +kernel
theorem dX7_hasRoom_23 : decode cX7_hasRoom 23 = .ok (.iconst 0, 1) := by decide +kernel
theorem dX7_hasRoom_24 : decode cX7_hasRoom 24 = .ok (.ireturn, 1) := by decide +kernel
theorem dX7_add_0 : decode cX7_add 0 = .ok (.aload_n 0, 1) := by decide +kernel
theorem dX7_add_1 : decode cX7_add 1 = .ok (.iconst 0, 1) := by decide +kernel
theorem dX7_add_2 : decode cX7_add 2 = .ok (.iload_n 1, 1) := by decide +kernel
theorem dX7_add_3 : decode cX7_add 3 = .ok (.invokevirtual 20, 3) := by decide +kernel
theorem dX7_add_6 : decode cX7_add 6 = .ok (.aload_n 0, 1) := by decide +kernel
theorem dX7_add_7 : decode cX7_add 7 = .ok (.iconst 1, 1) := by decide +kernel
theorem dX7_add_8 : decode cX7_add 8 = .ok (.iload_n 2, 1) := by decide +kernel
theorem dX7_add_9 : decode cX7_add 9 = .ok (.invokevirtual 20, 3) := by decide +kernel
theorem dX7_add_12 : decode cX7_add 12 = .ok (.aload_n 0, 1) := by decide +kernel
theorem dX7_add_13 : decode cX7_add 13 = .ok (.iconst 2, 1) := by decide +kernel
theorem dX7_add_14 : decode cX7_add 14 = .ok (.iload_n 3, 1) := by decide +kernel
theorem dX7_add_15 : decode cX7_add 15 = .ok (.invokevirtual 20, 3) := by decide +kernel
theorem dX7_add_18 : decode cX7_add 18 = .ok (.aload_n 0, 1) := by decide +kernel
theorem dX7_add_19 : decode cX7_add 19 = .ok (.iconst 3, 1) := by decide +kernel
theorem dX7_add_20 : decode cX7_add 20 = .ok (.iload 4, 2) := by decide +kernel
theorem dX7_add_22 : decode cX7_add 22 = .ok (.invokevirtual 20, 3) := by decide +kernel
theorem dX7_add_25 : decode cX7_add 25 = .ok (.aload_n 0, 1) := by decide +kernel
theorem dX7_add_26 : decode cX7_add 26 = .ok (.iconst 4, 1) := by decide +kernel
theorem dX7_add_27 : decode cX7_add 27 = .ok (.iload 5, 2) := by decide +kernel
theorem dX7_add_29 : decode cX7_add 29 = .ok (.invokevirtual 20, 3) := by decide +kernel
theorem dX7_add_32 : decode cX7_add 32 = .ok (.aload_n 0, 1) := by decide +kernel
theorem dX7_add_33 : decode cX7_add 33 = .ok (.dup, 1) := by decide +kernel
theorem dX7_add_34 : decode cX7_add 34 = .ok (.getfield 17, 3) := by decide +kernel
theorem dX7_add_37 : decode cX7_add 37 = .ok (.iconst 1, 1) := by decide +kernel
theorem dX7_add_38 : decode cX7_add 38 = .ok (.iadd, 1) := by decide +kernel
theorem dX7_add_39 : decode cX7_add 39 = .ok (.putfield 17, 3) := by decide +kernel
theorem dX7_add_42 : decode cX7_add 42 = .ok (.aload_n 0, 1) := by decide +kernel
theorem dX7_add_43 : decode cX7_add 43 = .ok (.getfield 17, 3) := by decide +kernel
theorem dX7_add_46 : decode cX7_add 46 = .ok (.iconst 1, 1) := by decide +kernel
theorem dX7_add_47 : decode cX7_add 47 = .ok (.isub, 1) := by decide +kernel
theorem dX7_add_48 : decode cX7_add 48 = .ok (.ireturn, 1) := by decide +kernel
theorem dX7_put_0 : decode cX7_put 0 = .ok (.aload_n 0, 1) := by decide +kernel
theorem dX7_put_1 : decode cX7_put 1 = .ok (.getfield 17, 3) := by decide +kernel
theorem dX7_put_4 : decode cX7_put 4 = .ok (.aload_n 0, 1) := by decide +kernel
theorem dX7_put_5 : decode cX7_put 5 = .ok (.getfield 7, 3) := by decide +kernel
theorem dX7_put_8 : decode cX7_put 8 = .ok (.imul, 1) := by decide +kernel
theorem dX7_put_9 : decode cX7_put 9 = .ok (.iload_n 1, 1) := by decide +kernel
theorem dX7_put_10 : decode cX7_put 10 = .ok (.iadd, 1) := by decide +kernel
theorem dX7_put_11 : decode cX7_put 11 = .ok (.istore_n 3, 1) := by decide +kernel
theorem dX7_put_12 : decode cX7_put 12 = .ok (.iload_n 1, 1) := by decide +kernel
theorem dX7_put_13 : decode cX7_put 13 = .ok (.aload_n 0, 1) := by decide +kernel
theorem dX7_put_14 : decode cX7_put 14 = .ok (.getfield 7, 3) := by decide +kernel
theorem dX7_put_17 : decode cX7_put 17 = .ok (.if_icmp .ge 19, 3) := by decide +kernel
theorem dX7_put_20 : decode cX7_put 20 = .ok (.iload_n 3, 1) := by decide +kernel
theorem dX7_put_21 : decode cX7_put 21 = .ok (.aload_n 0, 1) := by decide +kernel
theorem dX7_put_22 : decode cX7_put 22 = .ok (.getfield 13, 3) := by decide +kernel
theorem dX7_put_25 : decode cX7_put 25 = .ok (.arraylength, 1) := by decide +kernel
theorem dX7_put_26 : decode cX7_put 26 = .ok (.if_icmp .ge 10, 3) := by decide +kernel
theorem dX7_put_29 : decode cX7_put 29 = .ok (.aload_n 0, 1) := by decide +kernel
theorem dX7_put_30 : decode cX7_put 30 = .ok (.getfield 13, 3) := by decide +kernel
theorem dX7_put_33 : decode cX7_put 33 = .ok (.iload_n 3, 1) := by decide +kernel
theorem dX7_put_34 : decode cX7_put 34 = .ok (.iload_n 2, 1) := by decide +kernel
theorem dX7_put_35 : decode cX7_put 35 = .ok (.iastore, 1) := by decide +kernel
theorem dX7_put_36 : decode cX7_put 36 = .ok (.return_, 1) := by decide +kernel
theorem dX7_get_0 : decode cX7_get 0 = .ok (.iload_n 1, 1) := by decide +kernel
theorem dX7_get_1 : decode cX7_get 1 = .ok (.ifCond .lt 27, 3) := by decide +kernel
theorem dX7_get_4 : decode cX7_get 4 = .ok (.iload_n 1, 1) := by decide +kernel
theorem dX7_get_5 : decode cX7_get 5 = .ok (.aload_n 0, 1) := by decide +kernel
theorem dX7_get_6 : decode cX7_get 6 = .ok (.getfield 17, 3) := by decide +kernel
theorem dX7_get_9 : decode cX7_get 9 = .ok (.if_icmp .ge 19, 3) := by decide +kernel
theorem dX7_get_12 : decode cX7_get 12 = .ok (.iload_n 2, 1) := by decide +kernel
theorem dX7_get_13 : decode cX7_get 13 = .ok (.ifCond .lt 15, 3) := by decide +kernel
theorem dX7_get_16 : decode cX7_get 16 = .ok (.iload_n 2, 1) := by decide +kernel
theorem dX7_get_17 : decode cX7_get 17 = .ok (.aload_n 0, 1) := by decide +kernel
theorem dX7_get_18 : decode cX7_get 18 = .ok (.getfield 7, 3) := by decide +kernel
theorem dX7_get_21 : decode cX7_get 21 = .ok (.if_icmp .ge 7, 3) := by decide +kernel
theorem dX7_get_24 : decode cX7_get 24 = .ok (.iconst 1, 1) := by decide +kernel
theorem dX7_get_25 : decode cX7_get 25 = .ok (.goto 4, 3) := by decide +kernel
theorem dX7_get_28 : decode cX7_get 28 = .ok (.iconst 0, 1) := by decide +kernel
theorem dX7_get_29 : decode cX7_get 29 = .ok (.istore_n 3, 1) := by decide +kernel
theorem dX7_get_30 : decode cX7_get 30 = .ok (.iload_n 3, 1) := by decide +kernel
theorem dX7_get_31 : decode cX7_get 31 = .ok (.ifCond .eq 19, 3) := by decide +kernel
theorem dX7_get_34 : decode cX7_get 34 = .ok (.aload_n 0, 1) := by decide +kernel
theorem dX7_get_35 : decode cX7_get 35 = .ok (.getfield 13, 3) := by decide +kernel
theorem dX7_get_38 : decode cX7_get 38 = .ok (.iload_n 1, 1) := by decide +kernel
theorem dX7_get_39 : decode cX7_get 39 = .ok (.aload_n 0, 1) := by decide +kernel
theorem dX7_get_40 : decode cX7_get 40 = .ok (.getfield 7, 3) := by decide +kernel
theorem dX7_get_43 : decode cX7_get 43 = .ok (.imul, 1) := by decide +kernel
theorem dX7_get_44 : decode cX7_get 44 = .ok (.iload_n 2, 1) := by decide +kernel
theorem dX7_get_45 : decode cX7_get 45 = .ok (.iadd, 1) := by decide +kernel
theorem dX7_get_46 : decode cX7_get 46 = .ok (.iaload, 1) := by decide +kernel
theorem dX7_get_47 : decode cX7_get 47 = .ok (.goto 4, 3) := by decide +kernel
theorem dX7_get_50 : decode cX7_get 50 = .ok (.iconst 0, 1) := by decide +kernel
theorem dX7_get_51 : decode cX7_get 51 = .ok (.ireturn, 1) := by decide +kernel
theorem dX7_become_0 : decode cX7_become 0 = .ok (.aload_n 0, 1) := by decide +kernel
theorem dX7_become_1 : decode cX7_become 1 = .ok (.aload_n 1, 1) := by decide +kernel
theorem dX7_become_2 : decode cX7_become 2 = .ok (.getfield 17, 3) := by decide +kernel
theorem dX7_become_5 : decode cX7_become 5 = .ok (.putfield 17, 3) := by decide +kernel
theorem dX7_become_8 : decode cX7_become 8 = .ok (.iconst 0, 1) := by decide +kernel
theorem dX7_become_9 : decode cX7_become 9 = .ok (.istore_n 2, 1) := by decide +kernel
theorem dX7_become_10 : decode cX7_become 10 = .ok (.iload_n 2, 1) := by decide +kernel
theorem dX7_become_11 : decode cX7_become 11 = .ok (.aload_n 0, 1) := by decide +kernel
theorem dX7_become_12 : decode cX7_become 12 = .ok (.getfield 13, 3) := by decide +kernel
theorem dX7_become_15 : decode cX7_become 15 = .ok (.arraylength, 1) := by decide +kernel
theorem dX7_become_16 : decode cX7_become 16 = .ok (.if_icmp .ge 30, 3) := by decide +kernel
theorem dX7_become_19 : decode cX7_become 19 = .ok (.iload_n 2, 1) := by decide +kernel
theorem dX7_become_20 : decode cX7_become 20 = .ok (.aload_n 1, 1) := by decide +kernel
theorem dX7_become_21 : decode cX7_become 21 = .ok (.getfield 13, 3) := by decide +kernel
theorem dX7_become_24 : decode cX7_become 24 = .ok (.arraylength, 1) := by decide +kernel
theorem dX7_become_25 : decode cX7_become 25 = .ok (.if_icmp .ge 21, 3) := by decide +kernel
theorem dX7_become_28 : decode cX7_become 28 = .ok (.aload_n 0, 1) := by decide +kernel
theorem dX7_become_29 : decode cX7_become 29 = .ok (.getfield 13, 3) := by decide +kernel
theorem dX7_become_32 : decode cX7_become 32 = .ok (.iload_n 2, 1) := by decide +kernel
theorem dX7_become_33 : decode cX7_become 33 = .ok (.aload_n 1, 1) := by decide +kernel
theorem dX7_become_34 : decode cX7_become 34 = .ok (.getfield 13, 3) := by decide +kernel
theorem dX7_become_37 : decode cX7_become 37 = .ok (.iload_n 2, 1) := by decide +kernel
theorem dX7_become_38 : decode cX7_become 38 = .ok (.iaload, 1) := by decide +kernel
theorem dX7_become_39 : decode cX7_become 39 = .ok (.iastore, 1) := by decide +kernel
theorem dX7_become_40 : decode cX7_become 40 = .ok (.iinc 2 1, 3) := by decide +kernel
theorem dX7_become_43 : decode cX7_become 43 = .ok (.goto (-33), 3) := by decide +kernel
theorem dX7_become_46 : decode cX7_become 46 = .ok (.return_, 1) := by decide +kernel
theorem dX8_ofWord_0 : decode cX8_ofWord 0 = .ok (.bipush 10, 2) := by decide +kernel
theorem dX8_ofWord_2 : decode cX8_ofWord 2 = .ok (.istore_n 3, 1) := by decide +kernel
theorem dX8_ofWord_3 : decode cX8_ofWord 3 = .ok (.iconst 0, 1) := by decide +kernel
theorem dX8_ofWord_4 : decode cX8_ofWord 4 = .ok (.istore 4, 2) := by decide +kernel
theorem dX8_ofWord_6 : decode cX8_ofWord 6 = .ok (.iconst 0, 1) := by decide +kernel
theorem dX8_ofWord_7 : decode cX8_ofWord 7 = .ok (.istore 5, 2) := by decide +kernel
theorem dX8_ofWord_9 : decode cX8_ofWord 9 = .ok (.iload 5, 2) := by decide +kernel
theorem dX8_ofWord_11 : decode cX8_ofWord 11 = .ok (.ldc 9, 2) := by decide +kernel
theorem dX8_ofWord_13 : decode cX8_ofWord 13 = .ok (.invokevirtual 11, 3) := by decide +kernel
theorem dX8_ofWord_16 : decode cX8_ofWord 16 = .ok (.if_icmp .ge 45, 3) := by decide +kernel
theorem dX8_ofWord_19 : decode cX8_ofWord 19 = .ok (.ldc 9, 2) := by decide +kernel
theorem dX8_ofWord_21 : decode cX8_ofWord 21 = .ok (.iload 5, 2) := by decide +kernel
theorem dX8_ofWord_23 : decode cX8_ofWord 23 = .ok (.invokevirtual 17, 3) := by decide +kernel
theorem dX8_ofWord_26 : decode cX8_ofWord 26 = .ok (.bipush 32, 2) := by decide +kernel
theorem dX8_ofWord_28 : decode cX8_ofWord 28 = .ok (.if_icmp .ne 27, 3) := by decide +kernel
theorem dX8_ofWord_31 : decode cX8_ofWord 31 = .ok (.aload_n 0, 1) := by decide +kernel
theorem dX8_ofWord_32 : decode cX8_ofWord 32 = .ok (.iload_n 1, 1) := by decide +kernel
theorem dX8_ofWord_33 : decode cX8_ofWord 33 = .ok (.iload_n 2, 1) := by decide +kernel
theorem dX8_ofWord_34 : decode cX8_ofWord 34 = .ok (.iload 4, 2) := by decide +kernel
theorem dX8_ofWord_36 : decode cX8_ofWord 36 = .ok (.iload 5, 2) := by decide +kernel
theorem dX8_ofWord_38 : decode cX8_ofWord 38 = .ok (.invokestatic 21, 3) := by decide +kernel
theorem dX8_ofWord_41 : decode cX8_ofWord 41 = .ok (.ifCond .eq 5, 3) := by decide +kernel
theorem dX8_ofWord_44 : decode cX8_ofWord 44 = .ok (.iload_n 3, 1) := by decide +kernel
theorem dX8_ofWord_45 : decode cX8_ofWord 45 = .ok (.ireturn, 1) := by decide +kernel
theorem dX8_ofWord_46 : decode cX8_ofWord 46 = .ok (.iinc 3 1, 3) := by decide +kernel
theorem dX8_ofWord_49 : decode cX8_ofWord 49 = .ok (.iload 5, 2) := by decide +kernel
theorem dX8_ofWord_51 : decode cX8_ofWord 51 = .ok (.iconst 1, 1) := by decide +kernel
theorem dX8_ofWord_52 : decode cX8_ofWord 52 = .ok (.iadd, 1) := by decide +kernel
theorem dX8_ofWord_53 : decode cX8_ofWord 53 = .ok (.istore 4, 2) := by decide +kernel
theorem dX8_ofWord_55 : decode cX8_ofWord 55 = .ok (.iinc 5 1, 3) := by decide +kernel
theorem dX8_ofWord_58 : decode cX8_ofWord 58 = .ok (.goto (-49), 3) := by decide +kernel
theorem dX8_ofWord_61 : decode cX8_ofWord 61 = .ok (.iconst 1, 1) := by decide +kernel
theorem dX8_ofWord_62 : decode cX8_ofWord 62 = .ok (.ireturn, 1) := by decide +kernel
theorem dX8_isSame_0 : decode cX8_isSame 0 = .ok (.iload_n 2, 1) := by decide +kernel
theorem dX8_isSame_1 : decode cX8_isSame 1 = .ok (.iload_n 1, 1) := by decide +kernel
theorem dX8_isSame_2 : decode cX8_isSame 2 = .ok (.isub, 1) := by decide +kernel
theorem dX8_isSame_3 : decode cX8_isSame 3 = .ok (.iload 4, 2) := by decide +kernel
theorem dX8_isSame_5 : decode cX8_isSame 5 = .ok (.iload_n 3, 1) := by decide +kernel
theorem dX8_isSame_6 : decode cX8_isSame 6 = .ok (.isub, 1) := by decide +kernel
theorem dX8_isSame_7 : decode cX8_isSame 7 = .ok (.if_icmp .eq 5, 3) := by decide +kernel
theorem dX8_isSame_10 : decode cX8_isSame 10 = .ok (.iconst 0, 1) := by decide +kernel
theorem dX8_isSame_11 : decode cX8_isSame 11 = .ok (.ireturn, 1) := by decide +kernel
theorem dX8_isSame_12 : decode cX8_isSame 12 = .ok (.iload_n 1, 1) := by decide +kernel
theorem dX8_isSame_13 : decode cX8_isSame 13 = .ok (.istore 5, 2) := by decide +kernel
theorem dX8_isSame_15 : decode cX8_isSame 15 = .ok (.iload 5, 2) := by decide +kernel
theorem dX8_isSame_17 : decode cX8_isSame 17 = .ok (.iload_n 2, 1) := by decide +kernel
theorem dX8_isSame_18 : decode cX8_isSame 18 = .ok (.if_icmp .ge 29, 3) := by decide +kernel
theorem dX8_isSame_21 : decode cX8_isSame 21 = .ok (.aload_n 0, 1) := by decide +kernel
theorem dX8_isSame_22 : decode cX8_isSame 22 = .ok (.iload 5, 2) := by decide +kernel
theorem dX8_isSame_24 : decode cX8_isSame 24 = .ok (.baload, 1) := by decide +kernel
theorem dX8_isSame_25 : decode cX8_isSame 25 = .ok (.ldc 9, 2) := by decide +kernel
theorem dX8_isSame_27 : decode cX8_isSame 27 = .ok (.iload_n 3, 1) := by decide +kernel
theorem dX8_isSame_28 : decode cX8_isSame 28 = .ok (.iload 5, 2) := by decide +kernel
theorem dX8_isSame_30 : decode cX8_isSame 30 = .ok (.iadd, 1) := by decide +kernel
theorem dX8_isSame_31 : decode cX8_isSame 31 = .ok (.iload_n 1, 1) := by decide +kernel
theorem dX8_isSame_32 : decode cX8_isSame 32 = .ok (.isub, 1) := by decide +kernel
theorem dX8_isSame_33 : decode cX8_isSame 33 = .ok (.invokevirtual 17, 3) := by decide +kernel
theorem dX8_isSame_36 : decode cX8_isSame 36 = .ok (.if_icmp .eq 5, 3) := by decide +kernel
theorem dX8_isSame_39 : decode cX8_isSame 39 = .ok (.iconst 0, 1) := by decide +kernel
theorem dX8_isSame_40 : decode cX8_isSame 40 = .ok (.ireturn, 1) := by decide +kernel
theorem dX8_isSame_41 : decode cX8_isSame 41 = .ok (.iinc 5 1, 3) := by decide +kernel
theorem dX8_isSame_44 : decode cX8_isSame 44 = .ok (.goto (-29), 3) := by decide +kernel
theorem dX8_isSame_47 : decode cX8_isSame 47 = .ok (.iconst 1, 1) := by decide +kernel
theorem dX8_isSame_48 : decode cX8_isSame 48 = .ok (.ireturn, 1) := by decide +kernel
theorem dX8_ofSign_0 : decode cX8_ofSign 0 = .ok (.ldc 25, 2) := by decide +kernel
theorem dX8_ofSign_2 : decode cX8_ofSign 2 = .ok (.iload_n 0, 1) := by decide +kernel
theorem dX8_ofSign_3 : decode cX8_ofSign 3 = .ok (.sipush 255, 3) := by decide +kernel
theorem dX8_ofSign_6 : decode cX8_ofSign 6 = .ok (.iand, 1) := by decide +kernel
theorem dX8_ofSign_7 : decode cX8_ofSign 7 = .ok (.i2c, 1) := by decide +kernel
theorem dX8_ofSign_8 : decode cX8_ofSign 8 = .ok (.invokevirtual 27, 3) := by decide +kernel
theorem dX8_ofSign_11 : decode cX8_ofSign 11 = .ok (.istore_n 1, 1) := by decide +kernel
theorem dX8_ofSign_12 : decode cX8_ofSign 12 = .ok (.iload_n 1, 1) := by decide +kernel
theorem dX8_ofSign_13 : decode cX8_ofSign 13 = .ok (.ifCond .ge 7, 3) := by decide +kernel
theorem dX8_ofSign_16 : decode cX8_ofSign 16 = .ok (.iconst 1, 1) := by decide +kernel
theorem dX8_ofSign_17 : decode cX8_ofSign 17 = .ok (.goto 6, 3) := by decide +kernel
theorem dX8_ofSign_20 : decode cX8_ofSign 20 = .ok (.iconst 4, 1) := by decide +kernel
theorem dX8_ofSign_21 : decode cX8_ofSign 21 = .ok (.iload_n 1, 1) := by decide +kernel
theorem dX8_ofSign_22 : decode cX8_ofSign 22 = .ok (.iadd, 1) := by decide +kernel
theorem dX8_ofSign_23 : decode cX8_ofSign 23 = .ok (.ireturn, 1) := by decide +kernel
theorem dX9_init_0 : decode cX9_init 0 = .ok (.aload_n 0, 1) := by decide +kernel
theorem dX9_init_1 : decode cX9_init 1 = .ok (.invokespecial 3, 3) := by decide +kernel
theorem dX9_init_4 : decode cX9_init 4 = .ok (.aload_n 0, 1) := by decide +kernel
theorem dX9_init_5 : decode cX9_init 5 = .ok (.iload_n 1, 1) := by decide +kernel
theorem dX9_init_6 : decode cX9_init 6 = .ok (.putfield 9, 3) := by decide +kernel
theorem dX9_init_9 : decode cX9_init 9 = .ok (.aload_n 0, 1) := by decide +kernel
theorem dX9_init_10 : decode cX9_init 10 = .ok (.iload_n 2, 1) := by decide +kernel
theorem dX9_init_11 : decode cX9_init 11 = .ok (.putfield 15, 3) := by decide +kernel
theorem dX9_init_14 : decode cX9_init 14 = .ok (.aload_n 0, 1) := by decide +kernel
theorem dX9_init_15 : decode cX9_init 15 = .ok (.iload_n 3, 1) := by decide +kernel
theorem dX9_init_16 : decode cX9_init 16 = .ok (.putfield 18, 3) := by decide +kernel
theorem dX9_init_19 : decode cX9_init 19 = .ok (.aload_n 0, 1) := by decide +kernel
theorem dX9_init_20 : decode cX9_init 20 = .ok (.aload 4, 2) := by decide +kernel
theorem dX9_init_22 : decode cX9_init 22 = .ok (.putfield 21, 3) := by decide +kernel
theorem dX9_init_25 : decode cX9_init 25 = .ok (.return_, 1) := by decide +kernel
theorem dX9_setsItChanges_0 : decode cX9_setsItChanges 0 = .ok (.ldc 25, 2) := by decide +kernel
theorem dX9_setsItChanges_2 : decode cX9_setsItChanges 2 = .ok (.istore_n 1, 1) := by decide +kernel
theorem dX9_setsItChanges_3 : decode cX9_setsItChanges 3 = .ok (.iconst 0, 1) := by decide +kernel
theorem dX9_setsItChanges_4 : decode cX9_setsItChanges 4 = .ok (.istore_n 2, 1) := by decide +kernel
theorem dX9_setsItChanges_5 : decode cX9_setsItChanges 5 = .ok (.iload_n 2, 1) := by decide +kernel
theorem dX9_setsItChanges_6 : decode cX9_setsItChanges 6 = .ok (.iconst 4, 1) := by decide +kernel
theorem dX9_setsItChanges_7 : decode cX9_setsItChanges 7 = .ok (.if_icmp .ge 28, 3) := by decide +kernel
theorem dX9_setsItChanges_10 : decode cX9_setsItChanges 10 = .ok (.aload_n 0, 1) := by decide +kernel
theorem dX9_setsItChanges_11 : decode cX9_setsItChanges 11 = .ok (.getfield 9, 3) := by decide +kernel
theorem dX9_setsItChanges_14 : decode cX9_setsItChanges 14 = .ok (.iload_n 2, 1) := by decide +kernel
theorem dX9_setsItChanges_15 : decode cX9_setsItChanges 15 = .ok (.invokestatic 26, 3) := by decide +kernel
theorem dX9_setsItChanges_18 : decode cX9_setsItChanges 18 = .ok (.ifCond .eq 11, 3) := by decide +kernel
theorem dX9_setsItChanges_21 : decode cX9_setsItChanges 21 = .ok (.iload_n 1, 1) := by decide +kernel
theorem dX9_setsItChanges_22 : decode cX9_setsItChanges 22 = .ok (.getstatic 30, 3) := by decide +kernel
theorem dX9_setsItChanges_25 : decode cX9_setsItChanges 25 = .ok (.iload_n 2, 1) := by decide +kernel
theorem dX9_setsItChanges_26 : decode cX9_setsItChanges 26 = .ok (.iaload, 1) := by decide +kernel
theorem dX9_setsItChanges_27 : decode cX9_setsItChanges 27 = .ok (.iand, 1) := by decide +kernel
theorem dX9_setsItChanges_28 : decode cX9_setsItChanges 28 = .ok (.istore_n 1, 1) := by decide +kernel
theorem dX9_setsItChanges_29 : decode cX9_setsItChanges 29 = .ok (.iinc 2 1, 3) := by decide +kernel
theorem dX9_setsItChanges_32 : decode cX9_setsItChanges 32 = .ok (.goto (-27), 3) := by decide +kernel
theorem dX9_setsItChanges_35 : decode cX9_setsItChanges 35 = .ok (.ldc 25, 2) := by decide +kernel
theorem dX9_setsItChanges_37 : decode cX9_setsItChanges 37 = .ok (.iload_n 1, 1) := by decide +kernel
theorem dX9_setsItChanges_38 : decode cX9_setsItChanges 38 = .ok (.iconst (-1), 1) := by decide +kernel
theorem dX9_setsItChanges_39 : decode cX9_setsItChanges 39 = .ok (.ixor, 1) := by decide +kernel
theorem dX9_setsItChanges_40 : decode cX9_setsItChanges 40 = .ok (.iand, 1) := by decide +kernel
theorem dX9_setsItChanges_41 : decode cX9_setsItChanges 41 = .ok (.ireturn, 1) := by decide +kernel
theorem dX9_freed_0 : decode cX9_freed 0 = .ok (.iload_n 1, 1) := by decide +kernel
theorem dX9_freed_1 : decode cX9_freed 1 = .ok (.istore_n 2, 1) := by decide +kernel
theorem dX9_freed_2 : decode cX9_freed 2 = .ok (.iconst 0, 1) := by decide +kernel
theorem dX9_freed_3 : decode cX9_freed 3 = .ok (.istore_n 3, 1) := by decide +kernel
theorem dX9_freed_4 : decode cX9_freed 4 = .ok (.iload_n 3, 1) := by decide +kernel
theorem dX9_freed_5 : decode cX9_freed 5 = .ok (.iconst 4, 1) := by decide +kernel
theorem dX9_freed_6 : decode cX9_freed 6 = .ok (.if_icmp .ge 46, 3) := by decide +kernel
theorem dX9_freed_9 : decode cX9_freed 9 = .ok (.aload_n 0, 1) := by decide +kernel
theorem dX9_freed_10 : decode cX9_freed 10 = .ok (.getfield 9, 3) := by decide +kernel
theorem dX9_freed_13 : decode cX9_freed 13 = .ok (.iload_n 3, 1) := by decide +kernel
theorem dX9_freed_14 : decode cX9_freed 14 = .ok (.invokestatic 26, 3) := by decide +kernel
theorem dX9_freed_17 : decode cX9_freed 17 = .ok (.ifCond .eq 29, 3) := by decide +kernel
theorem dX9_freed_20 : decode cX9_freed 20 = .ok (.iload_n 2, 1) := by decide +kernel
theorem dX9_freed_21 : decode cX9_freed 21 = .ok (.getstatic 30, 3) := by decide +kernel
theorem dX9_freed_24 : decode cX9_freed 24 = .ok (.iload_n 3, 1) := by decide +kernel
theorem dX9_freed_25 : decode cX9_freed 25 = .ok (.iaload, 1) := by decide +kernel
theorem dX9_freed_26 : decode cX9_freed 26 = .ok (.iconst (-1), 1) := by decide +kernel
theorem dX9_freed_27 : decode cX9_freed 27 = .ok (.ixor, 1) := by decide +kernel
theorem dX9_freed_28 : decode cX9_freed 28 = .ok (.iand, 1) := by decide +kernel
theorem dX9_freed_29 : decode cX9_freed 29 = .ok (.istore 4, 2) := by decide +kernel
theorem dX9_freed_31 : decode cX9_freed 31 = .ok (.iload_n 2, 1) := by decide +kernel
theorem dX9_freed_32 : decode cX9_freed 32 = .ok (.getstatic 30, 3) := by decide +kernel
theorem dX9_freed_35 : decode cX9_freed 35 = .ok (.iload_n 3, 1) := by decide +kernel
theorem dX9_freed_36 : decode cX9_freed 36 = .ok (.iaload, 1) := by decide +kernel
theorem dX9_freed_37 : decode cX9_freed 37 = .ok (.iand, 1) := by decide +kernel
theorem dX9_freed_38 : decode cX9_freed 38 = .ok (.iload 4, 2) := by decide +kernel
theorem dX9_freed_40 : decode cX9_freed 40 = .ok (.iconst 1, 1) := by decide +kernel
theorem dX9_freed_41 : decode cX9_freed 41 = .ok (.iload_n 3, 1) := by decide +kernel
theorem dX9_freed_42 : decode cX9_freed 42 = .ok (.ishl, 1) := by decide +kernel
theorem dX9_freed_43 : decode cX9_freed 43 = .ok (.ishl, 1) := by decide +kernel
theorem dX9_freed_44 : decode cX9_freed 44 = .ok (.ior, 1) := by decide +kernel
theorem dX9_freed_45 : decode cX9_freed 45 = .ok (.istore_n 2, 1) := by decide +kernel
theorem dX9_freed_46 : decode cX9_freed 46 = .ok (.iinc 3 1, 3) := by decide +kernel
theorem dX9_freed_49 : decode cX9_freed 49 = .ok (.goto (-45), 3) := by decide +kernel
theorem dX9_freed_52 : decode cX9_freed 52 = .ok (.iload_n 2, 1) := by decide +kernel
theorem dX9_freed_53 : decode cX9_freed 53 = .ok (.ireturn, 1) := by decide +kernel
